/-! Solver.sortByRail and solve as wholes. -/
theorem wFr_newc {S : List Nat} {h h2 h3 : zH} {a b : Nat} (k : wFr S h h2) (f : wFr [b, a] h2 h3) (ha : 2 * h.length ≤ a) (hb : b ∈ S) : wFr S h h3 :=
  ⟨Nat.le_trans k.1 f.1, fun q e hq hz => f.2 q e (wnc (fun he => hq (by rw [he]; exact hb)) (wn1 (fun he => by have := zat_lt hz; omega))) (k.2 q e hq hz)⟩
set_option maxHeartbeats 4000000 in
theorem c_sort {h : zH} {ra rh rs rL cap sc : Nat} {nf kn ks fa : Int32} {li so SL : List Int64} {bh : List Int32} (hS : zat h 44 = some (.inr (.inr (.inr (7, [.ref ra, .ref rh, .ref 46, .int nf, .ref 48, .ref 50, .ref 52, .ref 54, .ref 56, .ref rs]))))) (hH : zat h rh = some (.inr (.inr (.inr (1, [.int kn, .int (nI SL.length), .ref rL, .ref (rh + 4), .int ks, .int fa]))))) (hI : zat h rL = some (.inr (.inl (cap, li)))) (hB : zat h 56 = some (.inl (0, 101, bh))) (hO : zat h rs = some (.inr (.inl (sc, so)))) (hN : SL.length ≤ 600) (hcap : SL.length ≤ cap ∧ cap ≤ 600) (hLi : wLi SL li) (hR : ∀ x ∈ SL, 0 ≤ (jrail x).toInt ∧ (jrail x).toInt ≤ 99) (hd1 : 60 ≤ rh ∧ rh < 230 ∧ (rL = rh + 2 ∨ 234 ≤ rL)) (hd2 : (rs = 58 ∨ 234 ≤ rs) ∧ rs ≠ rL) (hsc : sc ≤ 600) (hl : 117 ≤ h.length) : wq 91 0 [(0, .ref 44)] [] h 0 0 (fun r => ∃ (h2 : zH) (rs2 sc2 : Nat) (so2 li2 : List Int64) (bh2 : List Int32) (d s : Nat), r = (none, h2, d, s) ∧ wFr [rL, 44, 56, rs] h h2 ∧ zat h2 44 = some (.inr (.inr (.inr (7, [.ref ra, .ref rh, .ref 46, .int nf, .ref 48, .ref 50, .ref 52, .ref 54, .ref 56, .ref rs2])))) ∧ zat h2 56 = some (.inl (0, 101, bh2)) ∧ zat h2 rs2 = some (.inr (.inl (sc2, so2))) ∧ zat h2 rL = some (.inr (.inl (cap, li2))) ∧ (∀ i x, SL[i]? = some x → li2.getD (pN SL i x) 0 = x) ∧ sc ≤ sc2 ∧ sc2 ≤ 600 ∧ (rs2 = rs ∨ rs2 = 2 * h.length) ∧ d + sc ≤ sc2 ∧ s + 600 * sc ≤ 600 * sc2) := by
  have q2 := nI_toInt (n := SL.length) (by omega)
  have q3 := nI_toInt (n := sc) (by omega)
  have hrs := zat_lt hO
  have hrl := zat_lt hI
  refine wq_gos (f := 1) (pc2 := 1) (ls2 := [(0, .ref 44)]) (st2 := [.ref 44]) (h2 := h) (dc2 := 0) (ds2 := 0) 1 rfl ?_
  refine wq_getf rfl hS rfl rfl ?_
  refine wq_getf rfl hH rfl rfl ?_
  refine wq_gos (f := 1) (pc2 := 10) (ls2 := [(1, .int (nI SL.length)), (0, .ref 44)]) (st2 := [.ref 44, .int (nI SL.length)]) (h2 := h) (dc2 := 0) (ds2 := 0) 3 rfl ?_
  refine wq_getf rfl hS rfl rfl ?_
  refine wq_alenl rfl hO rfl ?_
  refine wq_le2 rfl rfl (fun b1x => ?_) (fun b1x => ?_)
  · refine wq_gos (f := 1) (pc2 := 32) (ls2 := [(1, .int (nI SL.length)), (0, .ref 44)]) (st2 := [.ref 44]) (h2 := h) (dc2 := 0) (ds2 := 0) 1 rfl ?_
    refine wq_getf rfl hS rfl rfl ?_
    refine wq_gos (f := 1) (pc2 := 36) (ls2 := [(1, .int (nI SL.length)), (0, .ref 44)]) (st2 := [.int 0, .ref 56]) (h2 := h) (dc2 := 0) (ds2 := 0) 1 rfl ?_
    refine wq_inl (y2 := 286) (as := [.ref 56, .int 0]) rfl rfl rfl (wq_mono (c_fill (by decide) hB 0) ?_)
    rintro _ ⟨h2x, b3x, rfl, f4x, l5x, e6x, g7x⟩
    show wq 91 39 [(1, .int (nI SL.length)), (0, .ref 44)] [] h2x 0 0 _
    refine wq_gos (f := 1) (pc2 := 41) (ls2 := [(2, .int 0), (1, .int (nI SL.length)), (0, .ref 44)]) (st2 := []) (h2 := h2x) (dc2 := 0) (ds2 := 0) 2 rfl ?_
    refine wq_ls [(0, .ref 44), (1, .int (nI SL.length)), (2, .int (nI 0))] (show ([0, 1, 2] : List Nat).Nodup by decide) ⟨rfl, rfl, rfl, trivial⟩ ?_
    have e8x := (f4x.2 _ _ (wnc (by decide) wn0) hS)
    have e9x := (f4x.2 _ _ (wnc (by omega) wn0) hH)
    have e10x := (f4x.2 _ _ (wnc (by omega) wn0) hI)
    refine c_sortC (li := li) hN hcap hLi hR hd1 SL.length 0 h2x _ (by omega) e8x e9x e10x e6x (g7x 0 (by decide)) (fun r hr => by rw [g7x (r + 1) (by omega), cN_zero]; rfl) ?_
    intro h11x b12x k13x f14x l15x e16x g17x g18x
    refine wq_gos (f := 1) (pc2 := 78) (ls2 := [(2, .int 1), (0, .ref 44), (1, .int (nI SL.length))]) (st2 := []) (h2 := h11x) (dc2 := 0) (ds2 := 0) 2 rfl ?_
    refine wq_ls [(0, .ref 44), (1, .int (nI SL.length)), (2, .int (nI 1))] (show ([0, 1, 2] : List Nat).Nodup by decide) ⟨rfl, rfl, rfl, trivial⟩ ?_
    have e19x := (f14x.2 _ _ (wnc (by decide) wn0) e8x)
    refine c_sortD hN 100 1 h11x _ (by omega) (by omega) e19x e16x (fun r hr => by rw [show r = 0 by omega, sN_zero]; exact g17x) (fun r hr1 hr2 => by have hz := g18x (r - 1) (by omega); rw [show r - 1 + 1 = r by omega] at hz; exact hz) ?_
    intro h20x b21x k22x f23x l24x e25x g26x
    refine wq_gos (f := 1) (pc2 := 109) (ls2 := [(2, .int 0), (0, .ref 44), (1, .int (nI SL.length))]) (st2 := []) (h2 := h20x) (dc2 := 0) (ds2 := 0) 2 rfl ?_
    refine wq_ls [(0, .ref 44), (1, .int (nI SL.length)), (2, .int (nI 0))] (show ([0, 1, 2] : List Nat).Nodup by decide) ⟨rfl, rfl, rfl, trivial⟩ ?_
    have e27x := (f23x.2 _ _ (wnc (by decide) wn0) e19x)
    have e28x := (f23x.2 _ _ (wnc (by omega) wn0) (f14x.2 _ _ (wnc (by omega) wn0) e9x))
    have e29x := (f23x.2 _ _ (wnc (by omega) wn0) (f14x.2 _ _ (wnc (by omega) wn0) e10x))
    have e30x := (f23x.2 _ _ (wnc (by omega) wn0) (f14x.2 _ _ (wnc (by omega) wn0) (f4x.2 _ _ (wnc (by omega) wn0) hO)))
    refine c_sortE (li := li) hN hcap hLi hR hd1 ⟨by omega, by omega⟩ ⟨by omega, by omega⟩ SL.length 0 h20x _ _ (by omega) e27x e28x e29x e25x e30x (fun r hr => by rw [cN_zero]; exact g26x r (by omega)) (fun i x hi => absurd hi (Nat.not_lt_zero i)) ?_
    intro h31x so32x b38x k33x f34x l35x e39x e36x g37x
    refine wq_gos (f := 1) (pc2 := 165) (ls2 := [(0, .ref 44), (1, .int (nI SL.length)), (2, .int k33x)]) (st2 := [.ref 44]) (h2 := h31x) (dc2 := 0) (ds2 := 0) 1 rfl ?_
    have e40x := (f34x.2 _ _ (wnc (by decide) (wnc (by omega) wn0)) e27x)
    refine wq_getf rfl e40x rfl rfl ?_
    refine wq_gos (f := 1) (pc2 := 170) (ls2 := [(0, .ref 44), (1, .int (nI SL.length)), (2, .int k33x)]) (st2 := [.ref 44, .int 0, .ref rs]) (h2 := h31x) (dc2 := 0) (ds2 := 0) 2 rfl ?_
    refine wq_getf rfl e40x rfl rfl ?_
    have e41x := (f34x.2 _ _ (wnc (by omega) (wnc (by omega) wn0)) e28x)
    refine wq_getf rfl e41x rfl rfl ?_
    refine wq_gos (f := 1) (pc2 := 178) (ls2 := [(0, .ref 44), (1, .int (nI SL.length)), (2, .int k33x)]) (st2 := [.int (nI SL.length), .int 0, .ref rL, .int 0, .ref rs]) (h2 := h31x) (dc2 := 0) (ds2 := 0) 2 rfl ?_
    have e42x := (f34x.2 _ _ (wnc (by omega) (wnc (by omega) wn0)) e29x)
    refine wq_cpl rfl e36x e42x (by decide) (by decide) (by omega) (by rw [q2]; simp; omega) (by rw [q2]; simp; omega) rfl ?_
    intro h43x e44x f45x l46x
    have e44x : zat h43x rL = some (.inr (.inl (cap, (zcpy 0 so32x li 0 0 ((nI SL.length)).toNatClampNeg)))) := e44x
    have e47x := (f45x.2 _ _ (wnc (by omega) wn0) e40x)
    have e48x := (f45x.2 _ _ (wnc (by omega) wn0) e39x)
    have e49x := (f45x.2 _ _ (wnc (by omega) wn0) e36x)
    refine wq_ret rfl rfl ⟨h43x, rs, sc, _, _, _, _, _, rfl, (wFr_tr (wFr_tr (wFr_tr (wFr_tr (wFr_tr (wFr_rf _ _) (wFr_sub f4x (by simp))) (wFr_sub f14x (by simp))) (wFr_sub f23x (by simp))) (wFr_sub f34x (by simp))) (wFr_sub f45x (by simp))), e47x, e48x, e49x, e44x, ?_, by omega, by omega, by omega, by omega, by omega⟩
    intro i x hi
    have hp := pN_len hi
    rw [nI_clamp (by omega), zcpy_get, if_pos ⟨Nat.zero_le _, by omega⟩]
    have hz := g37x i x hi
    simpa using hz
  · refine wq_gos (f := 1) (pc2 := 19) (ls2 := [(1, .int (nI SL.length)), (0, .ref 44)]) (st2 := [.ref 44, .ref 44]) (h2 := h) (dc2 := 0) (ds2 := 0) 2 rfl ?_
    refine wq_getf rfl hS rfl rfl ?_
    refine wq_getf rfl hH rfl rfl ?_
    refine wq_alenl rfl hI rfl ?_
    refine wq_newln rfl (by omega) rfl ?_
    intro h50x e51x f52x l53x
    have e54x := (f52x.2 _ _ wn0 hS)
    refine wq_putf rfl e54x rfl rfl rfl ?_
    intro h55x e56x f57x l58x
    have e56x : zat h55x 44 = some (.inr (.inr (.inr (7, [.ref ra, .ref rh, .ref 46, .int nf, .ref 48, .ref 50, .ref 52, .ref 54, .ref 56, .ref (2 * h.length)])))) := e56x
    refine wq_gos (f := 1) (pc2 := 32) (ls2 := [(1, .int (nI SL.length)), (0, .ref 44)]) (st2 := [.ref 44]) (h2 := h55x) (dc2 := (0 + 1)) (ds2 := (0 + cap)) 1 rfl ?_
    refine wq_getf rfl e56x rfl rfl ?_
    refine wq_gos (f := 1) (pc2 := 36) (ls2 := [(1, .int (nI SL.length)), (0, .ref 44)]) (st2 := [.int 0, .ref 56]) (h2 := h55x) (dc2 := (0 + 1)) (ds2 := (0 + cap)) 1 rfl ?_
    have e59x := (f57x.2 _ _ (wnc (by decide) wn0) (f52x.2 _ _ wn0 hB))
    refine wq_inl (y2 := 286) (as := [.ref 56, .int 0]) rfl rfl rfl (wq_mono (c_fill (by decide) e59x 0) ?_)
    rintro _ ⟨h60x, b61x, rfl, f62x, l63x, e64x, g65x⟩
    show wq 91 39 [(1, .int (nI SL.length)), (0, .ref 44)] [] h60x (0 + 1) (0 + cap) _
    refine wq_gos (f := 1) (pc2 := 41) (ls2 := [(2, .int 0), (1, .int (nI SL.length)), (0, .ref 44)]) (st2 := []) (h2 := h60x) (dc2 := (0 + 1)) (ds2 := (0 + cap)) 2 rfl ?_
    refine wq_ls [(0, .ref 44), (1, .int (nI SL.length)), (2, .int (nI 0))] (show ([0, 1, 2] : List Nat).Nodup by decide) ⟨rfl, rfl, rfl, trivial⟩ ?_
    have e66x := (f62x.2 _ _ (wnc (by decide) wn0) e56x)
    have e67x := (f62x.2 _ _ (wnc (by omega) wn0) (f57x.2 _ _ (wnc (by omega) wn0) (f52x.2 _ _ wn0 hH)))
    have e68x := (f62x.2 _ _ (wnc (by omega) wn0) (f57x.2 _ _ (wnc (by omega) wn0) (f52x.2 _ _ wn0 hI)))
    refine c_sortC (li := li) hN hcap hLi hR hd1 SL.length 0 h60x _ (by omega) e66x e67x e68x e64x (g65x 0 (by decide)) (fun r hr => by rw [g65x (r + 1) (by omega), cN_zero]; rfl) ?_
    intro h69x b70x k71x f72x l73x e74x g75x g76x
    refine wq_gos (f := 1) (pc2 := 78) (ls2 := [(2, .int 1), (0, .ref 44), (1, .int (nI SL.length))]) (st2 := []) (h2 := h69x) (dc2 := (0 + 1)) (ds2 := (0 + cap)) 2 rfl ?_
    refine wq_ls [(0, .ref 44), (1, .int (nI SL.length)), (2, .int (nI 1))] (show ([0, 1, 2] : List Nat).Nodup by decide) ⟨rfl, rfl, rfl, trivial⟩ ?_
    have e77x := (f72x.2 _ _ (wnc (by decide) wn0) e66x)
    refine c_sortD hN 100 1 h69x _ (by omega) (by omega) e77x e74x (fun r hr => by rw [show r = 0 by omega, sN_zero]; exact g75x) (fun r hr1 hr2 => by have hz := g76x (r - 1) (by omega); rw [show r - 1 + 1 = r by omega] at hz; exact hz) ?_
    intro h78x b79x k80x f81x l82x e83x g84x
    refine wq_gos (f := 1) (pc2 := 109) (ls2 := [(2, .int 0), (0, .ref 44), (1, .int (nI SL.length))]) (st2 := []) (h2 := h78x) (dc2 := (0 + 1)) (ds2 := (0 + cap)) 2 rfl ?_
    refine wq_ls [(0, .ref 44), (1, .int (nI SL.length)), (2, .int (nI 0))] (show ([0, 1, 2] : List Nat).Nodup by decide) ⟨rfl, rfl, rfl, trivial⟩ ?_
    have e85x := (f81x.2 _ _ (wnc (by decide) wn0) e77x)
    have e86x := (f81x.2 _ _ (wnc (by omega) wn0) (f72x.2 _ _ (wnc (by omega) wn0) e67x))
    have e87x := (f81x.2 _ _ (wnc (by omega) wn0) (f72x.2 _ _ (wnc (by omega) wn0) e68x))
    have e88x := (f81x.2 _ _ (wnc (by omega) wn0) (f72x.2 _ _ (wnc (by omega) wn0) (f62x.2 _ _ (wnc (by omega) wn0) (f57x.2 _ _ (wnc (by omega) wn0) e51x))))
    refine c_sortE (li := li) hN hcap hLi hR hd1 ⟨by omega, by omega⟩ ⟨by omega, by omega⟩ SL.length 0 h78x _ _ (by omega) e85x e86x e87x e83x e88x (fun r hr => by rw [cN_zero]; exact g84x r (by omega)) (fun i x hi => absurd hi (Nat.not_lt_zero i)) ?_
    intro h89x so90x b96x k91x f92x l93x e97x e94x g95x
    refine wq_gos (f := 1) (pc2 := 165) (ls2 := [(0, .ref 44), (1, .int (nI SL.length)), (2, .int k91x)]) (st2 := [.ref 44]) (h2 := h89x) (dc2 := (0 + 1)) (ds2 := (0 + cap)) 1 rfl ?_
    have e98x := (f92x.2 _ _ (wnc (by decide) (wnc (by omega) wn0)) e85x)
    refine wq_getf rfl e98x rfl rfl ?_
    refine wq_gos (f := 1) (pc2 := 170) (ls2 := [(0, .ref 44), (1, .int (nI SL.length)), (2, .int k91x)]) (st2 := [.ref 44, .int 0, .ref (2 * h.length)]) (h2 := h89x) (dc2 := (0 + 1)) (ds2 := (0 + cap)) 2 rfl ?_
    refine wq_getf rfl e98x rfl rfl ?_
    have e99x := (f92x.2 _ _ (wnc (by omega) (wnc (by omega) wn0)) e86x)
    refine wq_getf rfl e99x rfl rfl ?_
    refine wq_gos (f := 1) (pc2 := 178) (ls2 := [(0, .ref 44), (1, .int (nI SL.length)), (2, .int k91x)]) (st2 := [.int (nI SL.length), .int 0, .ref rL, .int 0, .ref (2 * h.length)]) (h2 := h89x) (dc2 := (0 + 1)) (ds2 := (0 + cap)) 2 rfl ?_
    have e100x := (f92x.2 _ _ (wnc (by omega) (wnc (by omega) wn0)) e87x)
    refine wq_cpl rfl e94x e100x (by decide) (by decide) (by omega) (by rw [q2]; simp; omega) (by rw [q2]; simp; omega) rfl ?_
    intro h101x e102x f103x l104x
    have e102x : zat h101x rL = some (.inr (.inl (cap, (zcpy 0 so90x li 0 0 ((nI SL.length)).toNatClampNeg)))) := e102x
    have e105x := (f103x.2 _ _ (wnc (by omega) wn0) e98x)
    have e106x := (f103x.2 _ _ (wnc (by omega) wn0) e97x)
    have e107x := (f103x.2 _ _ (wnc (by omega) wn0) e94x)
    refine wq_ret rfl rfl ⟨h101x, (2 * h.length), cap, _, _, _, _, _, rfl, (wFr_tr (wFr_newc (wFr_tr (wFr_tr (wFr_tr (wFr_tr (wFr_tr (wFr_rf _ _) (wFr_sub f52x (by simp))) (wFr_sub f57x (by simp))) (wFr_sub f62x (by simp))) (wFr_sub f72x (by simp))) (wFr_sub f81x (by simp))) f92x (by omega) (by simp)) (wFr_sub f103x (by simp))), e105x, e106x, e107x, e102x, ?_, by omega, by omega, by omega, by omega, by omega⟩
    intro i x hi
    have hp := pN_len hi
    rw [nI_clamp (by omega), zcpy_get, if_pos ⟨Nat.zero_le _, by omega⟩]
    have hz := g95x i x hi
    simpa using hz
