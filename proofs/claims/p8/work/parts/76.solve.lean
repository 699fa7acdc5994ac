/-! Solver.solve: the loop over turns. -/
theorem wFr_g {S : List Nat} {h h2 h3 : zH} {rL rL2 : Nat} (a : wFr (rL :: S) h h2) (b : wFr (rL2 :: S) h2 h3) (c : rL2 = rL ∨ 2 * h.length ≤ rL2) : wFr (rL :: S) h h3 :=
  ⟨Nat.le_trans a.1 b.1, fun q e hq hz => b.2 q e (wnc (fun k => by
    rcases c with c | c
    · exact hq (by rw [k, c]; exact List.mem_cons_self)
    · have := zat_lt hz
      omega) (fun k => hq (List.mem_cons_of_mem _ k))) (a.2 q e hq hz)⟩
noncomputable def sTurn (ll lg : List Int32) (lk hd ht : Int32) (tg : List Int32) (t : Int32) : List Int64 := if jpit tg t = -1 then [] else if jfit tg t ≠ 0 then (sFold lk hd ht (tg.getD 2 0) (jpit tg t)).flatMap (sTurn1 ll lg lk hd tg (jpit tg t) t) else []
noncomputable def sSolL (ll lg : List Int32) (lk hd ht : Int32) (tg : List Int32) : Nat → Int32 → List Int64
  | 0, _ => []
  | n + 1, t => sTurn ll lg lk hd ht tg t ++ sSolL ll lg lk hd ht tg n (t + 1)
theorem sF_len (s : Int32) : ∀ (n : Nat) (a : Int32), (sF s n a).length ≤ 2 * n
  | 0, _ => Nat.le_refl _
  | n + 1, a => by
    show (sF1 s a ++ sF s n (a + 1)).length ≤ _
    rw [List.length_append]
    have h1 := sF1_len s a
    have h2 := sF_len s n (a + 1)
    omega
theorem sFold_len (lk hd ht z p : Int32) : (sFold lk hd ht z p).length ≤ 128 := by
  unfold sFold
  split
  · simp
  · split
    · exact sF_len _ 64 _
    · simp
theorem flat_len {α β : Type} (f : α → List β) (k : Nat) (hf : ∀ a, (f a).length ≤ k) : ∀ l : List α, (l.flatMap f).length ≤ k * l.length
  | [] => by simp
  | a :: l => by
    rw [List.flatMap_cons, List.length_append, List.length_cons, Nat.mul_succ]
    have h1 := hf a
    have h2 := flat_len f k hf l
    omega
theorem sTurn_len (ll lg : List Int32) (lk hd ht : Int32) (tg : List Int32) (t : Int32) : (sTurn ll lg lk hd ht tg t).length ≤ 256 := by
  unfold sTurn
  split
  · simp
  · split
    · have h1 := flat_len (sTurn1 ll lg lk hd tg (jpit tg t) t) 2 (fun q => sTurn1_len _ _ _ _ _ _ _ q) (sFold lk hd ht (tg.getD 2 0) (jpit tg t))
      have h2 := sFold_len lk hd ht (tg.getD 2 0) (jpit tg t)
      omega
    · simp
set_option maxHeartbeats 8000000 in
theorem c_solveL {ra rl rg rv rn rp rw : Nat} {lk hd ht bl sd sp so : Int32} {rt : Int64} {ll lg : List Int32} {rs rh rpl : Nat} {tg : List Int32} {kn : Int32} {Q : zR → Prop} (ha : ra < 34 ∧ rl < 34 ∧ rg < 34) : ∀ (n : Nat) (t : Int32) (h : zH) (rL cap : Nat) (ks fa nf ff : Int32) (sh el wr ou : List Int32) (li : List Int64) (SL : List Int64) (dc ds : Nat), t.toInt + n = 32 → n ≤ 64 → SL.length + 256 * n < 20000 → zat h ra = some (.inr (.inr (.inr (0, [.int lk, .int hd, .int ht, .int bl, .int sd, .long rt, .ref rl, .ref rg, .ref rv, .int sp, .ref rn, .ref rp, .int so, .ref rw])))) → zat h rl = some (.inl (0, 6, ll)) → zat h rg = some (.inl (0, 6, lg)) → zat h 44 = some (.inr (.inr (.inr (7, [.ref ra, .ref rh, .ref 46, .int nf, .ref 48, .ref 50, .ref 52, .ref 54, .ref 56, .ref rs])))) → zat h 46 = some (.inl (0, 6, tg)) → zat h 48 = some (.inl (0, 128, sh)) → zat h 50 = some (.inl (0, 128, el)) → zat h 52 = some (.inl (0, 128, wr)) → zat h 54 = some (.inl (0, 128, ou)) → zat h rh = some (.inr (.inr (.inr (1, [.int kn, .int (nI SL.length), .ref rL, .ref (rh + 4), .int ks, .int fa])))) → zat h rL = some (.inr (.inl (cap, li))) → 16 ≤ cap ∧ cap ≤ 600 ∧ (SL.length ≤ cap ∨ cap = 600) → wLi SL li → SL.length < 20000 → 60 ≤ rh ∧ rh < 230 ∧ (rL = rh + 2 ∨ 234 ≤ rL) → 117 ≤ h.length → ff = -1 ∨ (nf = nI (sFold lk hd ht (tg.getD 2 0) ff).length ∧ wFo ff lk hd (sFold lk hd ht (tg.getD 2 0) ff) sh el wr ou) → (∀ (h2 : zH) (rL2 cap2 : Nat) (nf2 ks2 fa2 : Int32) (sh2 el2 wr2 ou2 : List Int32) (li2 : List Int64) (d s : Nat) (ff2 t2 : Int32), wFr [rL, rh, 44, 48, 50, 52, 54] h h2 → zat h2 44 = some (.inr (.inr (.inr (7, [.ref ra, .ref rh, .ref 46, .int nf2, .ref 48, .ref 50, .ref 52, .ref 54, .ref 56, .ref rs])))) → zat h2 48 = some (.inl (0, 128, sh2)) → zat h2 50 = some (.inl (0, 128, el2)) → zat h2 52 = some (.inl (0, 128, wr2)) → zat h2 54 = some (.inl (0, 128, ou2)) → zat h2 rh = some (.inr (.inr (.inr (1, [.int kn, .int (nI (SL ++ sSolL ll lg lk hd ht tg n t).length), .ref rL2, .ref (rh + 4), .int ks2, .int fa2])))) → zat h2 rL2 = some (.inr (.inl (cap2, li2))) → wLi (SL ++ sSolL ll lg lk hd ht tg n t) li2 → cap ≤ cap2 → cap2 ≤ 600 → ((SL ++ sSolL ll lg lk hd ht tg n t).length ≤ cap2 ∨ cap2 = 600) → (rL2 = rL ∨ 2 * h.length ≤ rL2) → d + cap ≤ cap2 → s + 600 * cap ≤ 600 * cap2 → wq 82 99 [(0, .ref 44), (1, .ref ra), (2, .ref rpl), (3, .ref rh), (4, .int ff2), (5, .int t2)] [] h2 (dc + d) (ds + s) Q) → wq 82 37 [(0, .ref 44), (1, .ref ra), (2, .ref rpl), (3, .ref rh), (4, .int ff), (5, .int t)] [] h dc ds Q := by
  intro n
  induction n with
  | zero =>
    intro t h rL cap ks fa nf ff sh el wr ou li SL dc ds ht1 hn64 hroom hA hL hG hS h46 h48 h50 h52 h54 hH hI hc hLi hSn hd1 hl hff kk
    refine wq_gos (f := 1) (pc2 := 41) (ls2 := [(0, .ref 44), (1, .ref ra), (2, .ref rpl), (3, .ref rh), (4, .int ff), (5, .int t)]) (st2 := [.int 31, .int t]) (h2 := h) (dc2 := dc) (ds2 := ds) 2 rfl ?_
    refine wq_gt2t rfl (by show (31 : Int) < t.toInt; omega) ?_
    refine wq_ls [(0, .ref 44), (1, .ref ra), (2, .ref rpl), (3, .ref rh), (4, .int ff), (5, .int t)] (show ([0, 1, 2, 3, 4, 5] : List Nat).Nodup by decide) ⟨rfl, rfl, rfl, rfl, rfl, rfl, trivial⟩ ?_
    have hx : SL ++ sSolL ll lg lk hd ht tg 0 t = SL := by simp [sSolL]
    rw [hx] at kk
    exact kk h rL cap nf ks fa sh el wr ou li 0 0 ff t (wFr_rf _ _) hS h48 h50 h52 h54 hH hI hLi (by omega) (by omega) (by omega) (by omega) (by omega) (by omega)
  | succ n ih =>
    intro t h rL cap ks fa nf ff sh el wr ou li SL dc ds ht1 hn64 hroom hA hL hG hS h46 h48 h50 h52 h54 hH hI hc hLi hSn hd1 hl hff kk
    have ht2 : (t + 1).toInt = t.toInt + 1 := z_inc (by omega)
    have hxs : SL ++ sSolL ll lg lk hd ht tg (n + 1) t = SL ++ sTurn ll lg lk hd ht tg t ++ sSolL ll lg lk hd ht tg n (t + 1) := by rw [List.append_assoc]; rfl
    have hstl := sTurn_len ll lg lk hd ht tg t
    have hsfl := sFold_len lk hd ht (tg.getD 2 0) (jpit tg t)
    rw [hxs] at kk
    refine wq_gos (f := 1) (pc2 := 41) (ls2 := [(0, .ref 44), (1, .ref ra), (2, .ref rpl), (3, .ref rh), (4, .int ff), (5, .int t)]) (st2 := [.int 31, .int t]) (h2 := h) (dc2 := dc) (ds2 := ds) 2 rfl ?_
    refine wq_gt2f rfl rfl (by show t.toInt ≤ (31 : Int); omega) ?_
    refine wq_gos (f := 1) (pc2 := 47) (ls2 := [(0, .ref 44), (1, .ref ra), (2, .ref rpl), (3, .ref rh), (4, .int ff), (5, .int t)]) (st2 := [.int t, .ref 44]) (h2 := h) (dc2 := dc) (ds2 := ds) 2 rfl ?_
    refine wq_inlv (y2 := 83) (as := [.int t]) rfl rfl rfl hS rfl (wq_T (c_pitchBy t hS h46) ?_)
    show wq 82 50 [(0, .ref 44), (1, .ref ra), (2, .ref rpl), (3, .ref rh), (4, .int ff), (5, .int t)] [.int (jpit tg t)] h dc ds _
    refine wq_gos (f := 1) (pc2 := 55) (ls2 := [(6, .int (jpit tg t)), (0, .ref 44), (1, .ref ra), (2, .ref rpl), (3, .ref rh), (4, .int ff), (5, .int t)]) (st2 := [.int (-1), .int (jpit tg t)]) (h2 := h) (dc2 := dc) (ds2 := ds) 3 rfl ?_
    refine wq_eq2 rfl rfl (fun b1x => ?_) (fun b1x => ?_)
    · refine wq_gos (f := 1) (pc2 := 37) (ls2 := [(5, .int (t + 1)), (6, .int (jpit tg t)), (0, .ref 44), (1, .ref ra), (2, .ref rpl), (3, .ref rh), (4, .int ff)]) (st2 := []) (h2 := h) (dc2 := dc) (ds2 := ds) 2 rfl ?_
      have htt : sTurn ll lg lk hd ht tg t = [] := by unfold sTurn; rw [if_pos b1x]
      rw [htt, List.append_nil] at kk
      refine wq_ls [(0, .ref 44), (1, .ref ra), (2, .ref rpl), (3, .ref rh), (4, .int ff), (5, .int (t + 1))] (show ([0, 1, 2, 3, 4, 5] : List Nat).Nodup by decide) ⟨rfl, rfl, rfl, rfl, rfl, rfl, trivial⟩ ?_
      exact ih (t + 1) h rL cap ks fa nf ff sh el wr ou li SL dc ds (by omega) (by omega) (by omega) hA hL hG hS h46 h48 h50 h52 h54 hH hI hc hLi hSn hd1 hl hff kk
    · refine wq_gos (f := 1) (pc2 := 61) (ls2 := [(6, .int (jpit tg t)), (0, .ref 44), (1, .ref ra), (2, .ref rpl), (3, .ref rh), (4, .int ff), (5, .int t)]) (st2 := [.int t, .ref 44]) (h2 := h) (dc2 := dc) (ds2 := ds) 2 rfl ?_
      refine wq_inlv (y2 := 85) (as := [.int t]) rfl rfl rfl hS rfl (wq_T (c_fits t hS h46) ?_)
      show wq 82 64 [(6, .int (jpit tg t)), (0, .ref 44), (1, .ref ra), (2, .ref rpl), (3, .ref rh), (4, .int ff), (5, .int t)] [.int (jfit tg t)] h dc ds _
      refine wq_ne0 rfl rfl (fun b2x => ?_) (fun b2x => ?_)
      · refine wq_gos (f := 1) (pc2 := 74) (ls2 := [(6, .int (jpit tg t)), (0, .ref 44), (1, .ref ra), (2, .ref rpl), (3, .ref rh), (4, .int ff), (5, .int t)]) (st2 := [.int ff, .int (jpit tg t)]) (h2 := h) (dc2 := dc) (ds2 := ds) 2 rfl ?_
        refine wq_eq2 rfl rfl (fun b3x => ?_) (fun b3x => ?_)
        · refine wq_gos (f := 1) (pc2 := 90) (ls2 := [(6, .int (jpit tg t)), (0, .ref 44), (1, .ref ra), (2, .ref rpl), (3, .ref rh), (4, .int ff), (5, .int t)]) (st2 := [.int t, .ref 44]) (h2 := h) (dc2 := dc) (ds2 := ds) 2 rfl ?_
          obtain ⟨hnf, hF9⟩ := hff.resolve_left (fun q => b1x (b3x.trans q))
          rw [← b3x] at hnf hF9
          have hS9 := hS
          rw [hnf] at hS9
          refine wq_inlv (y2 := 89) (as := [.int t]) rfl rfl rfl hS9 rfl (wq_mono (c_byTurn ha hF9 (by omega) (by omega) hA hL hG hS9 h46 h48 h50 h52 h54 hH hI hc hLi hSn hd1 hl t) ?_)
          rintro _ ⟨h4x, rL5x, cap6x, ks7x, fa8x, li9x, d10x, s11x, rfl, f12x, e13x, e14x, L15x, c16x, c17x, c18x, c19x, c20x, c21x⟩
          show wq 82 93 [(6, .int (jpit tg t)), (0, .ref 44), (1, .ref ra), (2, .ref rpl), (3, .ref rh), (4, .int ff), (5, .int t)] [] h4x (dc + d10x) (ds + s11x) _
          refine wq_gos (f := 1) (pc2 := 37) (ls2 := [(5, .int (t + 1)), (6, .int (jpit tg t)), (0, .ref 44), (1, .ref ra), (2, .ref rpl), (3, .ref rh), (4, .int ff)]) (st2 := []) (h2 := h4x) (dc2 := (dc + d10x)) (ds2 := (ds + s11x)) 2 rfl ?_
          have e22x := (f12x.2 _ _ (wnc (by omega) (wnc (by omega) wn0)) hA)
          have e23x := (f12x.2 _ _ (wnc (by omega) (wnc (by omega) wn0)) hL)
          have e24x := (f12x.2 _ _ (wnc (by omega) (wnc (by omega) wn0)) hG)
          have e25x := (f12x.2 _ _ (wnc (by omega) (wnc (by omega) wn0)) hS9)
          have e26x := (f12x.2 _ _ (wnc (by omega) (wnc (by omega) wn0)) h46)
          have e27x := (f12x.2 _ _ (wnc (by omega) (wnc (by omega) wn0)) h48)
          have e28x := (f12x.2 _ _ (wnc (by omega) (wnc (by omega) wn0)) h50)
          have e29x := (f12x.2 _ _ (wnc (by omega) (wnc (by omega) wn0)) h52)
          have e30x := (f12x.2 _ _ (wnc (by omega) (wnc (by omega) wn0)) h54)
          have htt : sTurn ll lg lk hd ht tg t = List.flatMap (sTurn1 ll lg lk hd tg (jpit tg t) t) (sFold lk hd ht (tg.getD 2 0) (jpit tg t)) := by unfold sTurn; rw [if_neg b1x, if_pos b2x]
          rw [htt] at kk hstl
          have hsl : (SL ++ List.flatMap (sTurn1 ll lg lk hd tg (jpit tg t) t) (sFold lk hd ht (tg.getD 2 0) (jpit tg t))).length = SL.length + (List.flatMap (sTurn1 ll lg lk hd tg (jpit tg t) t) (sFold lk hd ht (tg.getD 2 0) (jpit tg t))).length := List.length_append
          have hfr : wFr [rL, rh, 44, 48, 50, 52, 54] h h4x := (wFr_tr (wFr_rf _ _) (wFr_sub f12x (by simp)))
          have hfl := hfr.1
          have hflf12x := f12x.1
          refine wq_ls [(0, .ref 44), (1, .ref ra), (2, .ref rpl), (3, .ref rh), (4, .int ff), (5, .int (t + 1))] (show ([0, 1, 2, 3, 4, 5] : List Nat).Nodup by decide) ⟨rfl, rfl, rfl, rfl, rfl, rfl, trivial⟩ ?_
          refine ih (t + 1) h4x rL5x cap6x ks7x fa8x _ ff sh el wr ou li9x (SL ++ List.flatMap (sTurn1 ll lg lk hd tg (jpit tg t) t) (sFold lk hd ht (tg.getD 2 0) (jpit tg t))) (dc + d10x) (ds + s11x)  (by omega) (by omega) (by omega) e22x e23x e24x e25x e26x e27x e28x e29x e30x e13x e14x ⟨by omega, by omega, by omega⟩ L15x (by omega) ⟨by omega, by omega, by omega⟩ (by omega) (Or.inr (by rw [← b3x]; exact ⟨rfl, hF9⟩)) ?_
          intro k0 k1 k2 k3 k4 k5 k6 k7 k8 k9 k10 k11 k12 k13 k14 g1 g2 g3 g4 g5 g6 g7 g8 g9 g10 g11 g12 g13 g14 g15
          have kz := kk k0 k1 k2 k3 k4 k5 k6 k7 k8 k9 k10 (d10x + k11) (s11x + k12) k13 k14 (wFr_g hfr g1 (by omega)) g2 g3 g4 g5 g6 g7 g8 g9 (by omega) g11 g12 (by omega) (by omega) (by omega)
          rw [← Nat.add_assoc, ← Nat.add_assoc] at kz
          exact kz
        · refine wq_gos (f := 1) (pc2 := 80) (ls2 := [(6, .int (jpit tg t)), (0, .ref 44), (1, .ref ra), (2, .ref rpl), (3, .ref rh), (4, .int ff), (5, .int t)]) (st2 := [.int (jpit tg t), .ref 44]) (h2 := h) (dc2 := dc) (ds2 := ds) 2 rfl ?_
          refine wq_inlv (y2 := 86) (as := [.int (jpit tg t)]) rfl rfl rfl hS rfl (wq_mono (c_fold (p := jpit tg t) hA hS h48 h50 h52 h54 h46 ⟨by omega, by omega, by omega, by omega, by omega⟩) ?_)
          rintro _ ⟨h31x, sh32x, el33x, wr34x, ou35x, rfl, f36x, l37x, e39x, e40x, e41x, e42x, e43x, F38x⟩
          show wq 82 83 [(6, .int (jpit tg t)), (0, .ref 44), (1, .ref ra), (2, .ref rpl), (3, .ref rh), (4, .int ff), (5, .int t)] [] h31x dc ds _
          refine wq_gos (f := 1) (pc2 := 90) (ls2 := [(4, .int (jpit tg t)), (6, .int (jpit tg t)), (0, .ref 44), (1, .ref ra), (2, .ref rpl), (3, .ref rh), (5, .int t)]) (st2 := [.int t, .ref 44]) (h2 := h31x) (dc2 := dc) (ds2 := ds) 4 rfl ?_
          have e44x := (f36x.2 _ _ (wnc (by omega) (wnc (by omega) (wnc (by omega) (wnc (by omega) (wnc (by omega) wn0))))) hA)
          have e45x := (f36x.2 _ _ (wnc (by omega) (wnc (by omega) (wnc (by omega) (wnc (by omega) (wnc (by omega) wn0))))) hL)
          have e46x := (f36x.2 _ _ (wnc (by omega) (wnc (by omega) (wnc (by omega) (wnc (by omega) (wnc (by omega) wn0))))) hG)
          have e47x := (f36x.2 _ _ (wnc (by decide) (wnc (by decide) (wnc (by decide) (wnc (by decide) (wnc (by decide) wn0))))) h46)
          have e48x := (f36x.2 _ _ (wnc (by omega) (wnc (by omega) (wnc (by omega) (wnc (by omega) (wnc (by omega) wn0))))) hH)
          have e49x := (f36x.2 _ _ (wnc (by omega) (wnc (by omega) (wnc (by omega) (wnc (by omega) (wnc (by omega) wn0))))) hI)
          have hl9 := f36x.1
          refine wq_inlv (y2 := 89) (as := [.int t]) rfl rfl rfl e39x rfl (wq_mono (c_byTurn ha F38x (by omega) (by omega) e44x e45x e46x e39x e47x e40x e41x e42x e43x e48x e49x hc hLi hSn hd1 (by omega) t) ?_)
          rintro _ ⟨h50x, rL51x, cap52x, ks53x, fa54x, li55x, d56x, s57x, rfl, f58x, e59x, e60x, L61x, c62x, c63x, c64x, c65x, c66x, c67x⟩
          show wq 82 93 [(4, .int (jpit tg t)), (6, .int (jpit tg t)), (0, .ref 44), (1, .ref ra), (2, .ref rpl), (3, .ref rh), (5, .int t)] [] h50x (dc + d56x) (ds + s57x) _
          refine wq_gos (f := 1) (pc2 := 37) (ls2 := [(5, .int (t + 1)), (4, .int (jpit tg t)), (6, .int (jpit tg t)), (0, .ref 44), (1, .ref ra), (2, .ref rpl), (3, .ref rh)]) (st2 := []) (h2 := h50x) (dc2 := (dc + d56x)) (ds2 := (ds + s57x)) 2 rfl ?_
          have e68x := (f58x.2 _ _ (wnc (by omega) (wnc (by omega) wn0)) e44x)
          have e69x := (f58x.2 _ _ (wnc (by omega) (wnc (by omega) wn0)) e45x)
          have e70x := (f58x.2 _ _ (wnc (by omega) (wnc (by omega) wn0)) e46x)
          have e71x := (f58x.2 _ _ (wnc (by omega) (wnc (by omega) wn0)) e39x)
          have e72x := (f58x.2 _ _ (wnc (by omega) (wnc (by omega) wn0)) e47x)
          have e73x := (f58x.2 _ _ (wnc (by omega) (wnc (by omega) wn0)) e40x)
          have e74x := (f58x.2 _ _ (wnc (by omega) (wnc (by omega) wn0)) e41x)
          have e75x := (f58x.2 _ _ (wnc (by omega) (wnc (by omega) wn0)) e42x)
          have e76x := (f58x.2 _ _ (wnc (by omega) (wnc (by omega) wn0)) e43x)
          have htt : sTurn ll lg lk hd ht tg t = List.flatMap (sTurn1 ll lg lk hd tg (jpit tg t) t) (sFold lk hd ht (tg.getD 2 0) (jpit tg t)) := by unfold sTurn; rw [if_neg b1x, if_pos b2x]
          rw [htt] at kk hstl
          have hsl : (SL ++ List.flatMap (sTurn1 ll lg lk hd tg (jpit tg t) t) (sFold lk hd ht (tg.getD 2 0) (jpit tg t))).length = SL.length + (List.flatMap (sTurn1 ll lg lk hd tg (jpit tg t) t) (sFold lk hd ht (tg.getD 2 0) (jpit tg t))).length := List.length_append
          have hfr : wFr [rL, rh, 44, 48, 50, 52, 54] h h50x := (wFr_tr (wFr_tr (wFr_rf _ _) (wFr_sub f36x (by simp))) (wFr_sub f58x (by simp)))
          have hfl := hfr.1
          have hflf36x := f36x.1
          have hflf58x := f58x.1
          refine wq_ls [(0, .ref 44), (1, .ref ra), (2, .ref rpl), (3, .ref rh), (4, .int (jpit tg t)), (5, .int (t + 1))] (show ([0, 1, 2, 3, 4, 5] : List Nat).Nodup by decide) ⟨rfl, rfl, rfl, rfl, rfl, rfl, trivial⟩ ?_
          refine ih (t + 1) h50x rL51x cap52x ks53x fa54x _ (jpit tg t) sh32x el33x wr34x ou35x li55x (SL ++ List.flatMap (sTurn1 ll lg lk hd tg (jpit tg t) t) (sFold lk hd ht (tg.getD 2 0) (jpit tg t))) (dc + d56x) (ds + s57x)  (by omega) (by omega) (by omega) e68x e69x e70x e71x e72x e73x e74x e75x e76x e59x e60x ⟨by omega, by omega, by omega⟩ L61x (by omega) ⟨by omega, by omega, by omega⟩ (by omega) (Or.inr ⟨rfl, F38x⟩) ?_
          intro k0 k1 k2 k3 k4 k5 k6 k7 k8 k9 k10 k11 k12 k13 k14 g1 g2 g3 g4 g5 g6 g7 g8 g9 g10 g11 g12 g13 g14 g15
          have kz := kk k0 k1 k2 k3 k4 k5 k6 k7 k8 k9 k10 (d56x + k11) (s57x + k12) k13 k14 (wFr_g hfr g1 (by omega)) g2 g3 g4 g5 g6 g7 g8 g9 (by omega) g11 g12 (by omega) (by omega) (by omega)
          rw [← Nat.add_assoc, ← Nat.add_assoc] at kz
          exact kz
      · refine wq_gos (f := 1) (pc2 := 37) (ls2 := [(5, .int (t + 1)), (6, .int (jpit tg t)), (0, .ref 44), (1, .ref ra), (2, .ref rpl), (3, .ref rh), (4, .int ff)]) (st2 := []) (h2 := h) (dc2 := dc) (ds2 := ds) 3 rfl ?_
        have htt : sTurn ll lg lk hd ht tg t = [] := by unfold sTurn; rw [if_neg b1x, if_neg (fun q => q b2x)]
        rw [htt, List.append_nil] at kk
        refine wq_ls [(0, .ref 44), (1, .ref ra), (2, .ref rpl), (3, .ref rh), (4, .int ff), (5, .int (t + 1))] (show ([0, 1, 2, 3, 4, 5] : List Nat).Nodup by decide) ⟨rfl, rfl, rfl, rfl, rfl, rfl, trivial⟩ ?_
        exact ih (t + 1) h rL cap ks fa nf ff sh el wr ou li SL dc ds (by omega) (by omega) (by omega) hA hL hG hS h46 h48 h50 h52 h54 hH hI hc hLi hSn hd1 hl hff kk
