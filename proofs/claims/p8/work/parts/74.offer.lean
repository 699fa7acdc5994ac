/-! Solver.offer, solveByTurn. -/
theorem wFr_two {h h2 h3 : zH} {rh rL rL2 : Nat} (a : wFr [rh, rL] h h2) (b : wFr [rh, rL2] h2 h3) (c : rL2 = rL ∨ 2 * h.length ≤ rL2) : wFr [rh, rL] h h3 :=
  ⟨Nat.le_trans a.1 b.1, fun q e hq hz => b.2 q e (wnc (fun k => hq (by rw [k]; exact List.mem_cons_self)) (wnc (fun k => by
    rcases c with c | c
    · exact hq (by rw [k, c]; exact List.mem_cons_of_mem _ List.mem_cons_self)
    · have := zat_lt hz
      omega) wn0)) (a.2 q e hq hz)⟩
/-- what one fold gives by a turn: none or the postures by both rolls -/
noncomputable def sOff (ll lg : List Int32) (rail turn a e w roll : Int32) : List Int64 := if jallow ll lg 0 rail = true ∧ jallow ll lg 1 turn = true ∧ jallow ll lg 2 a = true ∧ jallow ll lg 3 e = true ∧ jallow ll lg 4 w = true then (if jallow ll lg 5 (roll - 64) = true then [jpos rail turn a e w (roll - 64)] else []) ++ (if jallow ll lg 5 roll = true then [jpos rail turn a e w roll] else []) else []
set_option maxHeartbeats 8000000 in
theorem c_offer {h : zH} {ra rl rg rv rn rp rw : Nat} {lk hd ht bl sd sp so : Int32} {rt : Int64} {ll lg : List Int32} {rs : Nat} {nf : Int32} {sh el wr ou : List Int32} {rh rL cap : Nat} {kn ks fa : Int32} {li : List Int64} {SL : List Int64} (hA : zat h ra = some (.inr (.inr (.inr (0, [.int lk, .int hd, .int ht, .int bl, .int sd, .long rt, .ref rl, .ref rg, .ref rv, .int sp, .ref rn, .ref rp, .int so, .ref rw]))))) (hL : zat h rl = some (.inl (0, 6, ll))) (hG : zat h rg = some (.inl (0, 6, lg))) (hS : zat h 44 = some (.inr (.inr (.inr (7, [.ref ra, .ref rh, .ref 46, .int nf, .ref 48, .ref 50, .ref 52, .ref 54, .ref 56, .ref rs]))))) (h48 : zat h 48 = some (.inl (0, 128, sh))) (h50 : zat h 50 = some (.inl (0, 128, el))) (h52 : zat h 52 = some (.inl (0, 128, wr))) (hH : zat h rh = some (.inr (.inr (.inr (1, [.int kn, .int (nI SL.length), .ref rL, .ref (rh + 4), .int ks, .int fa]))))) (hI : zat h rL = some (.inr (.inl (cap, li)))) (hc : 16 ≤ cap ∧ cap ≤ 600 ∧ (SL.length ≤ cap ∨ cap = 600)) (hLi : wLi SL li) (hSn : SL.length < 20000) (ha : ra < 34 ∧ rl < 34 ∧ rg < 34) (hd1 : 60 ≤ rh ∧ rh < 230 ∧ (rL = rh + 2 ∨ 234 ≤ rL)) (hl : 117 ≤ h.length) {i : Nat} (hi : i < 128) {a e w : Int32} (hsh : sh.getD i 0 = a) (hel : el.getD i 0 = e) (hwr : wr.getD i 0 = w) (rail turn roll : Int32) (hr : 0 ≤ roll.toInt ∧ roll.toInt ≤ 63) : wq 90 0 [(0, .ref 44), (1, .int rail), (2, .int turn), (3, .int (nI i)), (4, .int roll)] [] h 0 0 (fun r => ∃ (h2 : zH) (rL2 cap2 : Nat) (ks2 fa2 : Int32) (li2 : List Int64) (d s : Nat), r = (none, h2, d, s) ∧ wFr [rh, rL] h h2 ∧ zat h2 rh = some (.inr (.inr (.inr (1, [.int kn, .int (nI (SL ++ sOff ll lg rail turn a e w roll).length), .ref rL2, .ref (rh + 4), .int ks2, .int fa2])))) ∧ zat h2 rL2 = some (.inr (.inl (cap2, li2))) ∧ wLi (SL ++ sOff ll lg rail turn a e w roll) li2 ∧ cap ≤ cap2 ∧ cap2 ≤ 600 ∧ ((SL ++ sOff ll lg rail turn a e w roll).length ≤ cap2 ∨ cap2 = 600) ∧ (rL2 = rL ∨ 2 * h.length ≤ rL2) ∧ d + cap ≤ cap2 ∧ s + 600 * cap ≤ 600 * cap2) := by
  have r1 : (roll - 64).toInt = roll.toInt - 64 := by
    rw [Int32.toInt_sub, show (64 : Int32).toInt = 64 from rfl, Int.bmod_eq_of_le (by omega) (by omega)]
  have r2 : (roll - 64) + 64 = roll := Int32.toInt_inj.mp (by rw [Int32.toInt_add, r1, show (64 : Int32).toInt = 64 from rfl, Int.bmod_eq_of_le (by omega) (by omega)]; omega)
  have r3 : (roll + 64).toInt = roll.toInt + 64 := by
    rw [Int32.toInt_add, show (64 : Int32).toInt = 64 from rfl, Int.bmod_eq_of_le (by omega) (by omega)]
  refine wq_gos (f := 1) (pc2 := 1) (ls2 := [(0, .ref 44), (1, .int rail), (2, .int turn), (3, .int (nI i)), (4, .int roll)]) (st2 := [.ref 44]) (h2 := h) (dc2 := 0) (ds2 := 0) 1 rfl ?_
  refine wq_getf rfl hS rfl rfl ?_
  refine wq_gos (f := 1) (pc2 := 6) (ls2 := [(0, .ref 44), (1, .int rail), (2, .int turn), (3, .int (nI i)), (4, .int roll)]) (st2 := [.int rail, .int 0, .ref ra]) (h2 := h) (dc2 := 0) (ds2 := 0) 2 rfl ?_
  cases q1x : jallow ll lg (0 : Int32) rail with
  | false =>
    refine wq_inlv (y2 := 3) (as := [.int 0, .int rail]) rfl rfl rfl hA rfl (wq_T (show zT zg0 zF zP 3 0 [(0, .ref ra), (1, .int 0), (2, .int rail)] [] h 0 0 (some (.int 0), h, 0, 0) from by have q9 := c_allows hA hL hG (j := (0 : Int32)) rfl rail; rw [q1x] at q9; exact q9) ?_)
    show wq 90 9 [(0, .ref 44), (1, .int rail), (2, .int turn), (3, .int (nI i)), (4, .int roll)] [.int 0] h 0 0 _
    refine wq_gos (f := 1) (pc2 := 13) (ls2 := [(0, .ref 44), (1, .int rail), (2, .int turn), (3, .int (nI i)), (4, .int roll)]) (st2 := [.ref 44]) (h2 := h) (dc2 := 0) (ds2 := 0) 2 rfl ?_
    refine wq_getf rfl hS rfl rfl ?_
    refine wq_gos (f := 1) (pc2 := 17) (ls2 := [(0, .ref 44), (1, .int rail), (2, .int turn), (3, .int (nI i)), (4, .int roll)]) (st2 := [.int 0, .ref rh]) (h2 := h) (dc2 := 0) (ds2 := 0) 1 rfl ?_
    refine wq_inlv (y2 := 15) (as := [.int 0]) rfl rfl rfl hH rfl ?_
    show wq 15 0 [(0, .ref rh), (1, .int 0)] [] h 0 0 _
    refine wq_gos (f := 1) (pc2 := 2) (ls2 := [(0, .ref rh), (1, .int 0)]) (st2 := [.ref rh, .ref rh]) (h2 := h) (dc2 := 0) (ds2 := 0) 2 rfl ?_
    refine wq_getf rfl hH rfl rfl ?_
    refine wq_gos (f := 1) (pc2 := 6) (ls2 := [(0, .ref rh), (1, .int 0)]) (st2 := [.int 0, .int fa, .ref rh]) (h2 := h) (dc2 := 0) (ds2 := 0) 1 rfl ?_
    refine wq_inl (y2 := 284) (as := [.int fa, .int 0]) rfl rfl rfl (wq_T (c_max fa (0 : Int32) h) ?_)
    show wq 15 9 [(0, .ref rh), (1, .int 0)] [.int (jmax fa (0 : Int32)), .ref rh] h 0 0 _
    refine wq_putf rfl hH rfl rfl rfl ?_
    intro h2x e3x f4x l5x
    have e3x : zat h2x rh = some (.inr (.inr (.inr (1, [.int kn, .int (nI SL.length), .ref rL, .ref (rh + 4), .int ks, .int (jmax fa (0 : Int32))])))) := e3x
    refine wq_ret rfl rfl ?_
    show wq 90 20 [(0, .ref 44), (1, .int rail), (2, .int turn), (3, .int (nI i)), (4, .int roll)] [] h2x 0 0 _
    refine wq_gos (f := 1) (pc2 := 253) (ls2 := [(0, .ref 44), (1, .int rail), (2, .int turn), (3, .int (nI i)), (4, .int roll)]) (st2 := []) (h2 := h2x) (dc2 := 0) (ds2 := 0) 1 rfl ?_
    have e6x := (f4x.2 _ _ (wnc (by omega) wn0) hI)
    have hs : sOff ll lg rail turn a e w roll = [] := by unfold sOff; rw [if_neg (fun q => by simp_all)]
    have hx : SL ++ sOff ll lg rail turn a e w roll = SL := by rw [hs]; simp [jpos]
    rw [hx]
    exact wq_ret rfl rfl ⟨h2x, rL, cap, ks, (jmax fa (0 : Int32)), _, _, _, rfl, (wFr_tr (wFr_rf _ _) (wFr_sub f4x (by simp))), e3x, e6x, hLi, by omega, by omega, by omega, by omega, by omega, by omega⟩
  | true =>
    refine wq_inlv (y2 := 3) (as := [.int 0, .int rail]) rfl rfl rfl hA rfl (wq_T (show zT zg0 zF zP 3 0 [(0, .ref ra), (1, .int 0), (2, .int rail)] [] h 0 0 (some (.int 1), h, 0, 0) from by have q9 := c_allows hA hL hG (j := (0 : Int32)) rfl rail; rw [q1x] at q9; exact q9) ?_)
    show wq 90 9 [(0, .ref 44), (1, .int rail), (2, .int turn), (3, .int (nI i)), (4, .int roll)] [.int 1] h 0 0 _
    refine wq_gos (f := 1) (pc2 := 24) (ls2 := [(0, .ref 44), (1, .int rail), (2, .int turn), (3, .int (nI i)), (4, .int roll)]) (st2 := [.ref 44]) (h2 := h) (dc2 := 0) (ds2 := 0) 2 rfl ?_
    refine wq_getf rfl hS rfl rfl ?_
    refine wq_gos (f := 1) (pc2 := 29) (ls2 := [(0, .ref 44), (1, .int rail), (2, .int turn), (3, .int (nI i)), (4, .int roll)]) (st2 := [.int turn, .int 1, .ref ra]) (h2 := h) (dc2 := 0) (ds2 := 0) 2 rfl ?_
    cases q7x : jallow ll lg (1 : Int32) turn with
    | false =>
      refine wq_inlv (y2 := 3) (as := [.int 1, .int turn]) rfl rfl rfl hA rfl (wq_T (show zT zg0 zF zP 3 0 [(0, .ref ra), (1, .int 1), (2, .int turn)] [] h 0 0 (some (.int 0), h, 0, 0) from by have q9 := c_allows hA hL hG (j := (1 : Int32)) rfl turn; rw [q7x] at q9; exact q9) ?_)
      show wq 90 32 [(0, .ref 44), (1, .int rail), (2, .int turn), (3, .int (nI i)), (4, .int roll)] [.int 0] h 0 0 _
      refine wq_gos (f := 1) (pc2 := 36) (ls2 := [(0, .ref 44), (1, .int rail), (2, .int turn), (3, .int (nI i)), (4, .int roll)]) (st2 := [.ref 44]) (h2 := h) (dc2 := 0) (ds2 := 0) 2 rfl ?_
      refine wq_getf rfl hS rfl rfl ?_
      refine wq_gos (f := 1) (pc2 := 40) (ls2 := [(0, .ref 44), (1, .int rail), (2, .int turn), (3, .int (nI i)), (4, .int roll)]) (st2 := [.int 1, .ref rh]) (h2 := h) (dc2 := 0) (ds2 := 0) 1 rfl ?_
      refine wq_inlv (y2 := 15) (as := [.int 1]) rfl rfl rfl hH rfl ?_
      show wq 15 0 [(0, .ref rh), (1, .int 1)] [] h 0 0 _
      refine wq_gos (f := 1) (pc2 := 2) (ls2 := [(0, .ref rh), (1, .int 1)]) (st2 := [.ref rh, .ref rh]) (h2 := h) (dc2 := 0) (ds2 := 0) 2 rfl ?_
      refine wq_getf rfl hH rfl rfl ?_
      refine wq_gos (f := 1) (pc2 := 6) (ls2 := [(0, .ref rh), (1, .int 1)]) (st2 := [.int 1, .int fa, .ref rh]) (h2 := h) (dc2 := 0) (ds2 := 0) 1 rfl ?_
      refine wq_inl (y2 := 284) (as := [.int fa, .int 1]) rfl rfl rfl (wq_T (c_max fa (1 : Int32) h) ?_)
      show wq 15 9 [(0, .ref rh), (1, .int 1)] [.int (jmax fa (1 : Int32)), .ref rh] h 0 0 _
      refine wq_putf rfl hH rfl rfl rfl ?_
      intro h8x e9x f10x l11x
      have e9x : zat h8x rh = some (.inr (.inr (.inr (1, [.int kn, .int (nI SL.length), .ref rL, .ref (rh + 4), .int ks, .int (jmax fa (1 : Int32))])))) := e9x
      refine wq_ret rfl rfl ?_
      show wq 90 43 [(0, .ref 44), (1, .int rail), (2, .int turn), (3, .int (nI i)), (4, .int roll)] [] h8x 0 0 _
      refine wq_gos (f := 1) (pc2 := 253) (ls2 := [(0, .ref 44), (1, .int rail), (2, .int turn), (3, .int (nI i)), (4, .int roll)]) (st2 := []) (h2 := h8x) (dc2 := 0) (ds2 := 0) 1 rfl ?_
      have e12x := (f10x.2 _ _ (wnc (by omega) wn0) hI)
      have hs : sOff ll lg rail turn a e w roll = [] := by unfold sOff; rw [if_neg (fun q => by simp_all)]
      have hx : SL ++ sOff ll lg rail turn a e w roll = SL := by rw [hs]; simp [jpos]
      rw [hx]
      exact wq_ret rfl rfl ⟨h8x, rL, cap, ks, (jmax fa (1 : Int32)), _, _, _, rfl, (wFr_tr (wFr_rf _ _) (wFr_sub f10x (by simp))), e9x, e12x, hLi, by omega, by omega, by omega, by omega, by omega, by omega⟩
    | true =>
      refine wq_inlv (y2 := 3) (as := [.int 1, .int turn]) rfl rfl rfl hA rfl (wq_T (show zT zg0 zF zP 3 0 [(0, .ref ra), (1, .int 1), (2, .int turn)] [] h 0 0 (some (.int 1), h, 0, 0) from by have q9 := c_allows hA hL hG (j := (1 : Int32)) rfl turn; rw [q7x] at q9; exact q9) ?_)
      show wq 90 32 [(0, .ref 44), (1, .int rail), (2, .int turn), (3, .int (nI i)), (4, .int roll)] [.int 1] h 0 0 _
      refine wq_gos (f := 1) (pc2 := 47) (ls2 := [(0, .ref 44), (1, .int rail), (2, .int turn), (3, .int (nI i)), (4, .int roll)]) (st2 := [.ref 44]) (h2 := h) (dc2 := 0) (ds2 := 0) 2 rfl ?_
      refine wq_getf rfl hS rfl rfl ?_
      refine wq_gos (f := 1) (pc2 := 52) (ls2 := [(0, .ref 44), (1, .int rail), (2, .int turn), (3, .int (nI i)), (4, .int roll)]) (st2 := [.ref 44, .int 2, .ref ra]) (h2 := h) (dc2 := 0) (ds2 := 0) 2 rfl ?_
      refine wq_getf rfl hS rfl rfl ?_
      refine wq_gos (f := 1) (pc2 := 56) (ls2 := [(0, .ref 44), (1, .int rail), (2, .int turn), (3, .int (nI i)), (4, .int roll)]) (st2 := [.int (nI i), .ref 48, .int 2, .ref ra]) (h2 := h) (dc2 := 0) (ds2 := 0) 1 rfl ?_
      refine wq_ialdn rfl h48 hi (by decide) rfl ?_
      refine wq_vi hsh ?_
      cases q13x : jallow ll lg (2 : Int32) a with
      | false =>
        refine wq_inlv (y2 := 3) (as := [.int 2, .int a]) rfl rfl rfl hA rfl (wq_T (show zT zg0 zF zP 3 0 [(0, .ref ra), (1, .int 2), (2, .int a)] [] h 0 0 (some (.int 0), h, 0, 0) from by have q9 := c_allows hA hL hG (j := (2 : Int32)) rfl a; rw [q13x] at q9; exact q9) ?_)
        show wq 90 60 [(0, .ref 44), (1, .int rail), (2, .int turn), (3, .int (nI i)), (4, .int roll)] [.int 0] h 0 0 _
        refine wq_gos (f := 1) (pc2 := 64) (ls2 := [(0, .ref 44), (1, .int rail), (2, .int turn), (3, .int (nI i)), (4, .int roll)]) (st2 := [.ref 44]) (h2 := h) (dc2 := 0) (ds2 := 0) 2 rfl ?_
        refine wq_getf rfl hS rfl rfl ?_
        refine wq_gos (f := 1) (pc2 := 68) (ls2 := [(0, .ref 44), (1, .int rail), (2, .int turn), (3, .int (nI i)), (4, .int roll)]) (st2 := [.int 2, .ref rh]) (h2 := h) (dc2 := 0) (ds2 := 0) 1 rfl ?_
        refine wq_inlv (y2 := 15) (as := [.int 2]) rfl rfl rfl hH rfl ?_
        show wq 15 0 [(0, .ref rh), (1, .int 2)] [] h 0 0 _
        refine wq_gos (f := 1) (pc2 := 2) (ls2 := [(0, .ref rh), (1, .int 2)]) (st2 := [.ref rh, .ref rh]) (h2 := h) (dc2 := 0) (ds2 := 0) 2 rfl ?_
        refine wq_getf rfl hH rfl rfl ?_
        refine wq_gos (f := 1) (pc2 := 6) (ls2 := [(0, .ref rh), (1, .int 2)]) (st2 := [.int 2, .int fa, .ref rh]) (h2 := h) (dc2 := 0) (ds2 := 0) 1 rfl ?_
        refine wq_inl (y2 := 284) (as := [.int fa, .int 2]) rfl rfl rfl (wq_T (c_max fa (2 : Int32) h) ?_)
        show wq 15 9 [(0, .ref rh), (1, .int 2)] [.int (jmax fa (2 : Int32)), .ref rh] h 0 0 _
        refine wq_putf rfl hH rfl rfl rfl ?_
        intro h14x e15x f16x l17x
        have e15x : zat h14x rh = some (.inr (.inr (.inr (1, [.int kn, .int (nI SL.length), .ref rL, .ref (rh + 4), .int ks, .int (jmax fa (2 : Int32))])))) := e15x
        refine wq_ret rfl rfl ?_
        show wq 90 71 [(0, .ref 44), (1, .int rail), (2, .int turn), (3, .int (nI i)), (4, .int roll)] [] h14x 0 0 _
        refine wq_gos (f := 1) (pc2 := 253) (ls2 := [(0, .ref 44), (1, .int rail), (2, .int turn), (3, .int (nI i)), (4, .int roll)]) (st2 := []) (h2 := h14x) (dc2 := 0) (ds2 := 0) 1 rfl ?_
        have e18x := (f16x.2 _ _ (wnc (by omega) wn0) hI)
        have hs : sOff ll lg rail turn a e w roll = [] := by unfold sOff; rw [if_neg (fun q => by simp_all)]
        have hx : SL ++ sOff ll lg rail turn a e w roll = SL := by rw [hs]; simp [jpos]
        rw [hx]
        exact wq_ret rfl rfl ⟨h14x, rL, cap, ks, (jmax fa (2 : Int32)), _, _, _, rfl, (wFr_tr (wFr_rf _ _) (wFr_sub f16x (by simp))), e15x, e18x, hLi, by omega, by omega, by omega, by omega, by omega, by omega⟩
      | true =>
        refine wq_inlv (y2 := 3) (as := [.int 2, .int a]) rfl rfl rfl hA rfl (wq_T (show zT zg0 zF zP 3 0 [(0, .ref ra), (1, .int 2), (2, .int a)] [] h 0 0 (some (.int 1), h, 0, 0) from by have q9 := c_allows hA hL hG (j := (2 : Int32)) rfl a; rw [q13x] at q9; exact q9) ?_)
        show wq 90 60 [(0, .ref 44), (1, .int rail), (2, .int turn), (3, .int (nI i)), (4, .int roll)] [.int 1] h 0 0 _
        refine wq_gos (f := 1) (pc2 := 75) (ls2 := [(0, .ref 44), (1, .int rail), (2, .int turn), (3, .int (nI i)), (4, .int roll)]) (st2 := [.ref 44]) (h2 := h) (dc2 := 0) (ds2 := 0) 2 rfl ?_
        refine wq_getf rfl hS rfl rfl ?_
        refine wq_gos (f := 1) (pc2 := 80) (ls2 := [(0, .ref 44), (1, .int rail), (2, .int turn), (3, .int (nI i)), (4, .int roll)]) (st2 := [.ref 44, .int 3, .ref ra]) (h2 := h) (dc2 := 0) (ds2 := 0) 2 rfl ?_
        refine wq_getf rfl hS rfl rfl ?_
        refine wq_gos (f := 1) (pc2 := 84) (ls2 := [(0, .ref 44), (1, .int rail), (2, .int turn), (3, .int (nI i)), (4, .int roll)]) (st2 := [.int (nI i), .ref 50, .int 3, .ref ra]) (h2 := h) (dc2 := 0) (ds2 := 0) 1 rfl ?_
        refine wq_ialdn rfl h50 hi (by decide) rfl ?_
        refine wq_vi hel ?_
        cases q19x : jallow ll lg (3 : Int32) e with
        | false =>
          refine wq_inlv (y2 := 3) (as := [.int 3, .int e]) rfl rfl rfl hA rfl (wq_T (show zT zg0 zF zP 3 0 [(0, .ref ra), (1, .int 3), (2, .int e)] [] h 0 0 (some (.int 0), h, 0, 0) from by have q9 := c_allows hA hL hG (j := (3 : Int32)) rfl e; rw [q19x] at q9; exact q9) ?_)
          show wq 90 88 [(0, .ref 44), (1, .int rail), (2, .int turn), (3, .int (nI i)), (4, .int roll)] [.int 0] h 0 0 _
          refine wq_gos (f := 1) (pc2 := 92) (ls2 := [(0, .ref 44), (1, .int rail), (2, .int turn), (3, .int (nI i)), (4, .int roll)]) (st2 := [.ref 44]) (h2 := h) (dc2 := 0) (ds2 := 0) 2 rfl ?_
          refine wq_getf rfl hS rfl rfl ?_
          refine wq_gos (f := 1) (pc2 := 96) (ls2 := [(0, .ref 44), (1, .int rail), (2, .int turn), (3, .int (nI i)), (4, .int roll)]) (st2 := [.int 3, .ref rh]) (h2 := h) (dc2 := 0) (ds2 := 0) 1 rfl ?_
          refine wq_inlv (y2 := 15) (as := [.int 3]) rfl rfl rfl hH rfl ?_
          show wq 15 0 [(0, .ref rh), (1, .int 3)] [] h 0 0 _
          refine wq_gos (f := 1) (pc2 := 2) (ls2 := [(0, .ref rh), (1, .int 3)]) (st2 := [.ref rh, .ref rh]) (h2 := h) (dc2 := 0) (ds2 := 0) 2 rfl ?_
          refine wq_getf rfl hH rfl rfl ?_
          refine wq_gos (f := 1) (pc2 := 6) (ls2 := [(0, .ref rh), (1, .int 3)]) (st2 := [.int 3, .int fa, .ref rh]) (h2 := h) (dc2 := 0) (ds2 := 0) 1 rfl ?_
          refine wq_inl (y2 := 284) (as := [.int fa, .int 3]) rfl rfl rfl (wq_T (c_max fa (3 : Int32) h) ?_)
          show wq 15 9 [(0, .ref rh), (1, .int 3)] [.int (jmax fa (3 : Int32)), .ref rh] h 0 0 _
          refine wq_putf rfl hH rfl rfl rfl ?_
          intro h20x e21x f22x l23x
          have e21x : zat h20x rh = some (.inr (.inr (.inr (1, [.int kn, .int (nI SL.length), .ref rL, .ref (rh + 4), .int ks, .int (jmax fa (3 : Int32))])))) := e21x
          refine wq_ret rfl rfl ?_
          show wq 90 99 [(0, .ref 44), (1, .int rail), (2, .int turn), (3, .int (nI i)), (4, .int roll)] [] h20x 0 0 _
          refine wq_gos (f := 1) (pc2 := 253) (ls2 := [(0, .ref 44), (1, .int rail), (2, .int turn), (3, .int (nI i)), (4, .int roll)]) (st2 := []) (h2 := h20x) (dc2 := 0) (ds2 := 0) 1 rfl ?_
          have e24x := (f22x.2 _ _ (wnc (by omega) wn0) hI)
          have hs : sOff ll lg rail turn a e w roll = [] := by unfold sOff; rw [if_neg (fun q => by simp_all)]
          have hx : SL ++ sOff ll lg rail turn a e w roll = SL := by rw [hs]; simp [jpos]
          rw [hx]
          exact wq_ret rfl rfl ⟨h20x, rL, cap, ks, (jmax fa (3 : Int32)), _, _, _, rfl, (wFr_tr (wFr_rf _ _) (wFr_sub f22x (by simp))), e21x, e24x, hLi, by omega, by omega, by omega, by omega, by omega, by omega⟩
        | true =>
          refine wq_inlv (y2 := 3) (as := [.int 3, .int e]) rfl rfl rfl hA rfl (wq_T (show zT zg0 zF zP 3 0 [(0, .ref ra), (1, .int 3), (2, .int e)] [] h 0 0 (some (.int 1), h, 0, 0) from by have q9 := c_allows hA hL hG (j := (3 : Int32)) rfl e; rw [q19x] at q9; exact q9) ?_)
          show wq 90 88 [(0, .ref 44), (1, .int rail), (2, .int turn), (3, .int (nI i)), (4, .int roll)] [.int 1] h 0 0 _
          refine wq_gos (f := 1) (pc2 := 103) (ls2 := [(0, .ref 44), (1, .int rail), (2, .int turn), (3, .int (nI i)), (4, .int roll)]) (st2 := [.ref 44]) (h2 := h) (dc2 := 0) (ds2 := 0) 2 rfl ?_
          refine wq_getf rfl hS rfl rfl ?_
          refine wq_gos (f := 1) (pc2 := 108) (ls2 := [(0, .ref 44), (1, .int rail), (2, .int turn), (3, .int (nI i)), (4, .int roll)]) (st2 := [.ref 44, .int 4, .ref ra]) (h2 := h) (dc2 := 0) (ds2 := 0) 2 rfl ?_
          refine wq_getf rfl hS rfl rfl ?_
          refine wq_gos (f := 1) (pc2 := 112) (ls2 := [(0, .ref 44), (1, .int rail), (2, .int turn), (3, .int (nI i)), (4, .int roll)]) (st2 := [.int (nI i), .ref 52, .int 4, .ref ra]) (h2 := h) (dc2 := 0) (ds2 := 0) 1 rfl ?_
          refine wq_ialdn rfl h52 hi (by decide) rfl ?_
          refine wq_vi hwr ?_
          cases q25x : jallow ll lg (4 : Int32) w with
          | false =>
            refine wq_inlv (y2 := 3) (as := [.int 4, .int w]) rfl rfl rfl hA rfl (wq_T (show zT zg0 zF zP 3 0 [(0, .ref ra), (1, .int 4), (2, .int w)] [] h 0 0 (some (.int 0), h, 0, 0) from by have q9 := c_allows hA hL hG (j := (4 : Int32)) rfl w; rw [q25x] at q9; exact q9) ?_)
            show wq 90 116 [(0, .ref 44), (1, .int rail), (2, .int turn), (3, .int (nI i)), (4, .int roll)] [.int 0] h 0 0 _
            refine wq_gos (f := 1) (pc2 := 120) (ls2 := [(0, .ref 44), (1, .int rail), (2, .int turn), (3, .int (nI i)), (4, .int roll)]) (st2 := [.ref 44]) (h2 := h) (dc2 := 0) (ds2 := 0) 2 rfl ?_
            refine wq_getf rfl hS rfl rfl ?_
            refine wq_gos (f := 1) (pc2 := 124) (ls2 := [(0, .ref 44), (1, .int rail), (2, .int turn), (3, .int (nI i)), (4, .int roll)]) (st2 := [.int 4, .ref rh]) (h2 := h) (dc2 := 0) (ds2 := 0) 1 rfl ?_
            refine wq_inlv (y2 := 15) (as := [.int 4]) rfl rfl rfl hH rfl ?_
            show wq 15 0 [(0, .ref rh), (1, .int 4)] [] h 0 0 _
            refine wq_gos (f := 1) (pc2 := 2) (ls2 := [(0, .ref rh), (1, .int 4)]) (st2 := [.ref rh, .ref rh]) (h2 := h) (dc2 := 0) (ds2 := 0) 2 rfl ?_
            refine wq_getf rfl hH rfl rfl ?_
            refine wq_gos (f := 1) (pc2 := 6) (ls2 := [(0, .ref rh), (1, .int 4)]) (st2 := [.int 4, .int fa, .ref rh]) (h2 := h) (dc2 := 0) (ds2 := 0) 1 rfl ?_
            refine wq_inl (y2 := 284) (as := [.int fa, .int 4]) rfl rfl rfl (wq_T (c_max fa (4 : Int32) h) ?_)
            show wq 15 9 [(0, .ref rh), (1, .int 4)] [.int (jmax fa (4 : Int32)), .ref rh] h 0 0 _
            refine wq_putf rfl hH rfl rfl rfl ?_
            intro h26x e27x f28x l29x
            have e27x : zat h26x rh = some (.inr (.inr (.inr (1, [.int kn, .int (nI SL.length), .ref rL, .ref (rh + 4), .int ks, .int (jmax fa (4 : Int32))])))) := e27x
            refine wq_ret rfl rfl ?_
            show wq 90 127 [(0, .ref 44), (1, .int rail), (2, .int turn), (3, .int (nI i)), (4, .int roll)] [] h26x 0 0 _
            refine wq_gos (f := 1) (pc2 := 253) (ls2 := [(0, .ref 44), (1, .int rail), (2, .int turn), (3, .int (nI i)), (4, .int roll)]) (st2 := []) (h2 := h26x) (dc2 := 0) (ds2 := 0) 1 rfl ?_
            have e30x := (f28x.2 _ _ (wnc (by omega) wn0) hI)
            have hs : sOff ll lg rail turn a e w roll = [] := by unfold sOff; rw [if_neg (fun q => by simp_all)]
            have hx : SL ++ sOff ll lg rail turn a e w roll = SL := by rw [hs]; simp [jpos]
            rw [hx]
            exact wq_ret rfl rfl ⟨h26x, rL, cap, ks, (jmax fa (4 : Int32)), _, _, _, rfl, (wFr_tr (wFr_rf _ _) (wFr_sub f28x (by simp))), e27x, e30x, hLi, by omega, by omega, by omega, by omega, by omega, by omega⟩
          | true =>
            refine wq_inlv (y2 := 3) (as := [.int 4, .int w]) rfl rfl rfl hA rfl (wq_T (show zT zg0 zF zP 3 0 [(0, .ref ra), (1, .int 4), (2, .int w)] [] h 0 0 (some (.int 1), h, 0, 0) from by have q9 := c_allows hA hL hG (j := (4 : Int32)) rfl w; rw [q25x] at q9; exact q9) ?_)
            show wq 90 116 [(0, .ref 44), (1, .int rail), (2, .int turn), (3, .int (nI i)), (4, .int roll)] [.int 1] h 0 0 _
            refine wq_gos (f := 1) (pc2 := 133) (ls2 := [(0, .ref 44), (1, .int rail), (2, .int turn), (3, .int (nI i)), (4, .int roll)]) (st2 := [.int rail, .int 0, .long 0]) (h2 := h) (dc2 := 0) (ds2 := 0) 4 rfl ?_
            refine wq_inl (y2 := 34) (as := [.long 0, .int 0, .int rail]) rfl rfl rfl (wq_T (c_with0 0 rail h) ?_)
            show wq 90 136 [(0, .ref 44), (1, .int rail), (2, .int turn), (3, .int (nI i)), (4, .int roll)] [.long (jput 0 (-280375465082881) 40 rail)] h 0 0 _
            refine wq_gos (f := 1) (pc2 := 142) (ls2 := [(5, .long (jput 0 (-280375465082881) 40 rail)), (0, .ref 44), (1, .int rail), (2, .int turn), (3, .int (nI i)), (4, .int roll)]) (st2 := [.int turn, .int 1, .long (jput 0 (-280375465082881) 40 rail)]) (h2 := h) (dc2 := 0) (ds2 := 0) 4 rfl ?_
            refine wq_inl (y2 := 34) (as := [.long (jput 0 (-280375465082881) 40 rail), .int 1, .int turn]) rfl rfl rfl (wq_T (c_with1 (jput 0 (-280375465082881) 40 rail) turn h) ?_)
            show wq 90 145 [(5, .long (jput 0 (-280375465082881) 40 rail)), (0, .ref 44), (1, .int rail), (2, .int turn), (3, .int (nI i)), (4, .int roll)] [.long (jput (jput 0 (-280375465082881) 40 rail) (-1095216660481) 32 turn)] h 0 0 _
            refine wq_gos (f := 1) (pc2 := 151) (ls2 := [(5, .long (jput (jput 0 (-280375465082881) 40 rail) (-1095216660481) 32 turn)), (0, .ref 44), (1, .int rail), (2, .int turn), (3, .int (nI i)), (4, .int roll)]) (st2 := [.ref 44, .int 2, .long (jput (jput 0 (-280375465082881) 40 rail) (-1095216660481) 32 turn)]) (h2 := h) (dc2 := 0) (ds2 := 0) 4 rfl ?_
            refine wq_getf rfl hS rfl rfl ?_
            refine wq_gos (f := 1) (pc2 := 155) (ls2 := [(5, .long (jput (jput 0 (-280375465082881) 40 rail) (-1095216660481) 32 turn)), (0, .ref 44), (1, .int rail), (2, .int turn), (3, .int (nI i)), (4, .int roll)]) (st2 := [.int (nI i), .ref 48, .int 2, .long (jput (jput 0 (-280375465082881) 40 rail) (-1095216660481) 32 turn)]) (h2 := h) (dc2 := 0) (ds2 := 0) 1 rfl ?_
            refine wq_ialdn rfl h48 hi (by decide) rfl ?_
            refine wq_vi hsh ?_
            refine wq_inl (y2 := 34) (as := [.long (jput (jput 0 (-280375465082881) 40 rail) (-1095216660481) 32 turn), .int 2, .int a]) rfl rfl rfl (wq_T (c_with2 (jput (jput 0 (-280375465082881) 40 rail) (-1095216660481) 32 turn) a h) ?_)
            show wq 90 159 [(5, .long (jput (jput 0 (-280375465082881) 40 rail) (-1095216660481) 32 turn)), (0, .ref 44), (1, .int rail), (2, .int turn), (3, .int (nI i)), (4, .int roll)] [.long (jput (jput (jput 0 (-280375465082881) 40 rail) (-1095216660481) 32 turn) (-4278190081) 24 a)] h 0 0 _
            refine wq_gos (f := 1) (pc2 := 165) (ls2 := [(5, .long (jput (jput (jput 0 (-280375465082881) 40 rail) (-1095216660481) 32 turn) (-4278190081) 24 a)), (0, .ref 44), (1, .int rail), (2, .int turn), (3, .int (nI i)), (4, .int roll)]) (st2 := [.ref 44, .int 3, .long (jput (jput (jput 0 (-280375465082881) 40 rail) (-1095216660481) 32 turn) (-4278190081) 24 a)]) (h2 := h) (dc2 := 0) (ds2 := 0) 4 rfl ?_
            refine wq_getf rfl hS rfl rfl ?_
            refine wq_gos (f := 1) (pc2 := 169) (ls2 := [(5, .long (jput (jput (jput 0 (-280375465082881) 40 rail) (-1095216660481) 32 turn) (-4278190081) 24 a)), (0, .ref 44), (1, .int rail), (2, .int turn), (3, .int (nI i)), (4, .int roll)]) (st2 := [.int (nI i), .ref 50, .int 3, .long (jput (jput (jput 0 (-280375465082881) 40 rail) (-1095216660481) 32 turn) (-4278190081) 24 a)]) (h2 := h) (dc2 := 0) (ds2 := 0) 1 rfl ?_
            refine wq_ialdn rfl h50 hi (by decide) rfl ?_
            refine wq_vi hel ?_
            refine wq_inl (y2 := 34) (as := [.long (jput (jput (jput 0 (-280375465082881) 40 rail) (-1095216660481) 32 turn) (-4278190081) 24 a), .int 3, .int e]) rfl rfl rfl (wq_T (c_with3 (jput (jput (jput 0 (-280375465082881) 40 rail) (-1095216660481) 32 turn) (-4278190081) 24 a) e h) ?_)
            show wq 90 173 [(5, .long (jput (jput (jput 0 (-280375465082881) 40 rail) (-1095216660481) 32 turn) (-4278190081) 24 a)), (0, .ref 44), (1, .int rail), (2, .int turn), (3, .int (nI i)), (4, .int roll)] [.long (jput (jput (jput (jput 0 (-280375465082881) 40 rail) (-1095216660481) 32 turn) (-4278190081) 24 a) (-16711681) 16 e)] h 0 0 _
            refine wq_gos (f := 1) (pc2 := 179) (ls2 := [(5, .long (jput (jput (jput (jput 0 (-280375465082881) 40 rail) (-1095216660481) 32 turn) (-4278190081) 24 a) (-16711681) 16 e)), (0, .ref 44), (1, .int rail), (2, .int turn), (3, .int (nI i)), (4, .int roll)]) (st2 := [.ref 44, .int 4, .long (jput (jput (jput (jput 0 (-280375465082881) 40 rail) (-1095216660481) 32 turn) (-4278190081) 24 a) (-16711681) 16 e)]) (h2 := h) (dc2 := 0) (ds2 := 0) 4 rfl ?_
            refine wq_getf rfl hS rfl rfl ?_
            refine wq_gos (f := 1) (pc2 := 183) (ls2 := [(5, .long (jput (jput (jput (jput 0 (-280375465082881) 40 rail) (-1095216660481) 32 turn) (-4278190081) 24 a) (-16711681) 16 e)), (0, .ref 44), (1, .int rail), (2, .int turn), (3, .int (nI i)), (4, .int roll)]) (st2 := [.int (nI i), .ref 52, .int 4, .long (jput (jput (jput (jput 0 (-280375465082881) 40 rail) (-1095216660481) 32 turn) (-4278190081) 24 a) (-16711681) 16 e)]) (h2 := h) (dc2 := 0) (ds2 := 0) 1 rfl ?_
            refine wq_ialdn rfl h52 hi (by decide) rfl ?_
            refine wq_vi hwr ?_
            refine wq_inl (y2 := 34) (as := [.long (jput (jput (jput (jput 0 (-280375465082881) 40 rail) (-1095216660481) 32 turn) (-4278190081) 24 a) (-16711681) 16 e), .int 4, .int w]) rfl rfl rfl (wq_T (c_with4 (jput (jput (jput (jput 0 (-280375465082881) 40 rail) (-1095216660481) 32 turn) (-4278190081) 24 a) (-16711681) 16 e) w h) ?_)
            show wq 90 187 [(5, .long (jput (jput (jput (jput 0 (-280375465082881) 40 rail) (-1095216660481) 32 turn) (-4278190081) 24 a) (-16711681) 16 e)), (0, .ref 44), (1, .int rail), (2, .int turn), (3, .int (nI i)), (4, .int roll)] [.long (jput (jput (jput (jput (jput 0 (-280375465082881) 40 rail) (-1095216660481) 32 turn) (-4278190081) 24 a) (-16711681) 16 e) (-65281) 8 w)] h 0 0 _
            refine wq_gos (f := 1) (pc2 := 200) (ls2 := [(7, .int (roll - (64 : Int32))), (5, .long (jput (jput (jput (jput (jput 0 (-280375465082881) 40 rail) (-1095216660481) 32 turn) (-4278190081) 24 a) (-16711681) 16 e) (-65281) 8 w)), (0, .ref 44), (1, .int rail), (2, .int turn), (3, .int (nI i)), (4, .int roll)]) (st2 := [.int roll, .int (roll - (64 : Int32))]) (h2 := h) (dc2 := 0) (ds2 := 0) 7 rfl ?_
            refine wq_gt2f rfl rfl (by rw [r1]; omega) ?_
            refine wq_gos (f := 1) (pc2 := 204) (ls2 := [(7, .int (roll - (64 : Int32))), (5, .long (jput (jput (jput (jput (jput 0 (-280375465082881) 40 rail) (-1095216660481) 32 turn) (-4278190081) 24 a) (-16711681) 16 e) (-65281) 8 w)), (0, .ref 44), (1, .int rail), (2, .int turn), (3, .int (nI i)), (4, .int roll)]) (st2 := [.ref 44]) (h2 := h) (dc2 := 0) (ds2 := 0) 1 rfl ?_
            refine wq_getf rfl hS rfl rfl ?_
            refine wq_gos (f := 1) (pc2 := 210) (ls2 := [(7, .int (roll - (64 : Int32))), (5, .long (jput (jput (jput (jput (jput 0 (-280375465082881) 40 rail) (-1095216660481) 32 turn) (-4278190081) 24 a) (-16711681) 16 e) (-65281) 8 w)), (0, .ref 44), (1, .int rail), (2, .int turn), (3, .int (nI i)), (4, .int roll)]) (st2 := [.int (roll - (64 : Int32)), .int 5, .ref ra]) (h2 := h) (dc2 := 0) (ds2 := 0) 2 rfl ?_
            cases q31x : jallow ll lg (5 : Int32) (roll - (64 : Int32)) with
            | false =>
              refine wq_inlv (y2 := 3) (as := [.int 5, .int (roll - (64 : Int32))]) rfl rfl rfl hA rfl (wq_T (show zT zg0 zF zP 3 0 [(0, .ref ra), (1, .int 5), (2, .int (roll - (64 : Int32)))] [] h 0 0 (some (.int 0), h, 0, 0) from by have q9 := c_allows hA hL hG (j := (5 : Int32)) rfl (roll - (64 : Int32)); rw [q31x] at q9; exact q9) ?_)
              show wq 90 213 [(7, .int (roll - (64 : Int32))), (5, .long (jput (jput (jput (jput (jput 0 (-280375465082881) 40 rail) (-1095216660481) 32 turn) (-4278190081) 24 a) (-16711681) 16 e) (-65281) 8 w)), (0, .ref 44), (1, .int rail), (2, .int turn), (3, .int (nI i)), (4, .int roll)] [.int 0] h 0 0 _
              refine wq_gos (f := 1) (pc2 := 240) (ls2 := [(7, .int (roll - (64 : Int32))), (5, .long (jput (jput (jput (jput (jput 0 (-280375465082881) 40 rail) (-1095216660481) 32 turn) (-4278190081) 24 a) (-16711681) 16 e) (-65281) 8 w)), (0, .ref 44), (1, .int rail), (2, .int turn), (3, .int (nI i)), (4, .int roll)]) (st2 := [.ref 44]) (h2 := h) (dc2 := 0) (ds2 := 0) 2 rfl ?_
              refine wq_getf rfl hS rfl rfl ?_
              refine wq_gos (f := 1) (pc2 := 244) (ls2 := [(7, .int (roll - (64 : Int32))), (5, .long (jput (jput (jput (jput (jput 0 (-280375465082881) 40 rail) (-1095216660481) 32 turn) (-4278190081) 24 a) (-16711681) 16 e) (-65281) 8 w)), (0, .ref 44), (1, .int rail), (2, .int turn), (3, .int (nI i)), (4, .int roll)]) (st2 := [.int 5, .ref rh]) (h2 := h) (dc2 := 0) (ds2 := 0) 1 rfl ?_
              refine wq_inlv (y2 := 15) (as := [.int 5]) rfl rfl rfl hH rfl ?_
              show wq 15 0 [(0, .ref rh), (1, .int 5)] [] h 0 0 _
              refine wq_gos (f := 1) (pc2 := 2) (ls2 := [(0, .ref rh), (1, .int 5)]) (st2 := [.ref rh, .ref rh]) (h2 := h) (dc2 := 0) (ds2 := 0) 2 rfl ?_
              refine wq_getf rfl hH rfl rfl ?_
              refine wq_gos (f := 1) (pc2 := 6) (ls2 := [(0, .ref rh), (1, .int 5)]) (st2 := [.int 5, .int fa, .ref rh]) (h2 := h) (dc2 := 0) (ds2 := 0) 1 rfl ?_
              refine wq_inl (y2 := 284) (as := [.int fa, .int 5]) rfl rfl rfl (wq_T (c_max fa (5 : Int32) h) ?_)
              show wq 15 9 [(0, .ref rh), (1, .int 5)] [.int (jmax fa (5 : Int32)), .ref rh] h 0 0 _
              refine wq_putf rfl hH rfl rfl rfl ?_
              intro h32x e33x f34x l35x
              have e33x : zat h32x rh = some (.inr (.inr (.inr (1, [.int kn, .int (nI SL.length), .ref rL, .ref (rh + 4), .int ks, .int (jmax fa (5 : Int32))])))) := e33x
              refine wq_ret rfl rfl ?_
              show wq 90 247 [(7, .int (roll - (64 : Int32))), (5, .long (jput (jput (jput (jput (jput 0 (-280375465082881) 40 rail) (-1095216660481) 32 turn) (-4278190081) 24 a) (-16711681) 16 e) (-65281) 8 w)), (0, .ref 44), (1, .int rail), (2, .int turn), (3, .int (nI i)), (4, .int roll)] [] h32x 0 0 _
              refine wq_gos (f := 1) (pc2 := 196) (ls2 := [(7, .int ((roll - (64 : Int32)) + 64)), (5, .long (jput (jput (jput (jput (jput 0 (-280375465082881) 40 rail) (-1095216660481) 32 turn) (-4278190081) 24 a) (-16711681) 16 e) (-65281) 8 w)), (0, .ref 44), (1, .int rail), (2, .int turn), (3, .int (nI i)), (4, .int roll)]) (st2 := []) (h2 := h32x) (dc2 := 0) (ds2 := 0) 2 rfl ?_
              rw [r2]
              refine wq_gos (f := 1) (pc2 := 200) (ls2 := [(7, .int roll), (5, .long (jput (jput (jput (jput (jput 0 (-280375465082881) 40 rail) (-1095216660481) 32 turn) (-4278190081) 24 a) (-16711681) 16 e) (-65281) 8 w)), (0, .ref 44), (1, .int rail), (2, .int turn), (3, .int (nI i)), (4, .int roll)]) (st2 := [.int roll, .int roll]) (h2 := h32x) (dc2 := 0) (ds2 := 0) 2 rfl ?_
              refine wq_gt2f rfl rfl (by omega) ?_
              refine wq_gos (f := 1) (pc2 := 204) (ls2 := [(7, .int roll), (5, .long (jput (jput (jput (jput (jput 0 (-280375465082881) 40 rail) (-1095216660481) 32 turn) (-4278190081) 24 a) (-16711681) 16 e) (-65281) 8 w)), (0, .ref 44), (1, .int rail), (2, .int turn), (3, .int (nI i)), (4, .int roll)]) (st2 := [.ref 44]) (h2 := h32x) (dc2 := 0) (ds2 := 0) 1 rfl ?_
              have e36x := (f34x.2 _ _ (wnc (by omega) wn0) hS)
              refine wq_getf rfl e36x rfl rfl ?_
              refine wq_gos (f := 1) (pc2 := 210) (ls2 := [(7, .int roll), (5, .long (jput (jput (jput (jput (jput 0 (-280375465082881) 40 rail) (-1095216660481) 32 turn) (-4278190081) 24 a) (-16711681) 16 e) (-65281) 8 w)), (0, .ref 44), (1, .int rail), (2, .int turn), (3, .int (nI i)), (4, .int roll)]) (st2 := [.int roll, .int 5, .ref ra]) (h2 := h32x) (dc2 := 0) (ds2 := 0) 2 rfl ?_
              have e37x := (f34x.2 _ _ (wnc (by omega) wn0) hA)
              have e38x := (f34x.2 _ _ (wnc (by omega) wn0) hL)
              have e39x := (f34x.2 _ _ (wnc (by omega) wn0) hG)
              cases q40x : jallow ll lg (5 : Int32) roll with
              | false =>
                refine wq_inlv (y2 := 3) (as := [.int 5, .int roll]) rfl rfl rfl e37x rfl (wq_T (show zT zg0 zF zP 3 0 [(0, .ref ra), (1, .int 5), (2, .int roll)] [] h32x 0 0 (some (.int 0), h32x, 0, 0) from by have q9 := c_allows e37x e38x e39x (j := (5 : Int32)) rfl roll; rw [q40x] at q9; exact q9) ?_)
                show wq 90 213 [(7, .int roll), (5, .long (jput (jput (jput (jput (jput 0 (-280375465082881) 40 rail) (-1095216660481) 32 turn) (-4278190081) 24 a) (-16711681) 16 e) (-65281) 8 w)), (0, .ref 44), (1, .int rail), (2, .int turn), (3, .int (nI i)), (4, .int roll)] [.int 0] h32x 0 0 _
                refine wq_gos (f := 1) (pc2 := 240) (ls2 := [(7, .int roll), (5, .long (jput (jput (jput (jput (jput 0 (-280375465082881) 40 rail) (-1095216660481) 32 turn) (-4278190081) 24 a) (-16711681) 16 e) (-65281) 8 w)), (0, .ref 44), (1, .int rail), (2, .int turn), (3, .int (nI i)), (4, .int roll)]) (st2 := [.ref 44]) (h2 := h32x) (dc2 := 0) (ds2 := 0) 2 rfl ?_
                refine wq_getf rfl e36x rfl rfl ?_
                refine wq_gos (f := 1) (pc2 := 244) (ls2 := [(7, .int roll), (5, .long (jput (jput (jput (jput (jput 0 (-280375465082881) 40 rail) (-1095216660481) 32 turn) (-4278190081) 24 a) (-16711681) 16 e) (-65281) 8 w)), (0, .ref 44), (1, .int rail), (2, .int turn), (3, .int (nI i)), (4, .int roll)]) (st2 := [.int 5, .ref rh]) (h2 := h32x) (dc2 := 0) (ds2 := 0) 1 rfl ?_
                refine wq_inlv (y2 := 15) (as := [.int 5]) rfl rfl rfl e33x rfl ?_
                show wq 15 0 [(0, .ref rh), (1, .int 5)] [] h32x 0 0 _
                refine wq_gos (f := 1) (pc2 := 2) (ls2 := [(0, .ref rh), (1, .int 5)]) (st2 := [.ref rh, .ref rh]) (h2 := h32x) (dc2 := 0) (ds2 := 0) 2 rfl ?_
                refine wq_getf rfl e33x rfl rfl ?_
                refine wq_gos (f := 1) (pc2 := 6) (ls2 := [(0, .ref rh), (1, .int 5)]) (st2 := [.int 5, .int (jmax fa (5 : Int32)), .ref rh]) (h2 := h32x) (dc2 := 0) (ds2 := 0) 1 rfl ?_
                refine wq_inl (y2 := 284) (as := [.int (jmax fa (5 : Int32)), .int 5]) rfl rfl rfl (wq_T (c_max (jmax fa (5 : Int32)) (5 : Int32) h32x) ?_)
                show wq 15 9 [(0, .ref rh), (1, .int 5)] [.int (jmax (jmax fa (5 : Int32)) (5 : Int32)), .ref rh] h32x 0 0 _
                refine wq_putf rfl e33x rfl rfl rfl ?_
                intro h41x e42x f43x l44x
                have e42x : zat h41x rh = some (.inr (.inr (.inr (1, [.int kn, .int (nI SL.length), .ref rL, .ref (rh + 4), .int ks, .int (jmax (jmax fa (5 : Int32)) (5 : Int32))])))) := e42x
                refine wq_ret rfl rfl ?_
                show wq 90 247 [(7, .int roll), (5, .long (jput (jput (jput (jput (jput 0 (-280375465082881) 40 rail) (-1095216660481) 32 turn) (-4278190081) 24 a) (-16711681) 16 e) (-65281) 8 w)), (0, .ref 44), (1, .int rail), (2, .int turn), (3, .int (nI i)), (4, .int roll)] [] h41x 0 0 _
                refine wq_gos (f := 1) (pc2 := 200) (ls2 := [(7, .int (roll + 64)), (5, .long (jput (jput (jput (jput (jput 0 (-280375465082881) 40 rail) (-1095216660481) 32 turn) (-4278190081) 24 a) (-16711681) 16 e) (-65281) 8 w)), (0, .ref 44), (1, .int rail), (2, .int turn), (3, .int (nI i)), (4, .int roll)]) (st2 := [.int roll, .int (roll + 64)]) (h2 := h41x) (dc2 := 0) (ds2 := 0) 4 rfl ?_
                refine wq_gt2t rfl (by rw [r3]; omega) ?_
                have e45x := (f43x.2 _ _ (wnc (by omega) wn0) (f34x.2 _ _ (wnc (by omega) wn0) hI))
                have hs : sOff ll lg rail turn a e w roll = [] := by unfold sOff; rw [if_pos ⟨q1x, q7x, q13x, q19x, q25x⟩, if_neg (by rw [q31x]; decide), if_neg (by rw [q40x]; decide)]; rfl
                have hx : SL ++ sOff ll lg rail turn a e w roll = SL := by rw [hs]; simp [jpos]
                rw [hx]
                exact wq_ret rfl rfl ⟨h41x, rL, cap, ks, (jmax (jmax fa (5 : Int32)) (5 : Int32)), _, _, _, rfl, (wFr_tr (wFr_tr (wFr_rf _ _) (wFr_sub f34x (by simp))) (wFr_sub f43x (by simp))), e42x, e45x, hLi, by omega, by omega, by omega, by omega, by omega, by omega⟩
              | true =>
                refine wq_inlv (y2 := 3) (as := [.int 5, .int roll]) rfl rfl rfl e37x rfl (wq_T (show zT zg0 zF zP 3 0 [(0, .ref ra), (1, .int 5), (2, .int roll)] [] h32x 0 0 (some (.int 1), h32x, 0, 0) from by have q9 := c_allows e37x e38x e39x (j := (5 : Int32)) rfl roll; rw [q40x] at q9; exact q9) ?_)
                show wq 90 213 [(7, .int roll), (5, .long (jput (jput (jput (jput (jput 0 (-280375465082881) 40 rail) (-1095216660481) 32 turn) (-4278190081) 24 a) (-16711681) 16 e) (-65281) 8 w)), (0, .ref 44), (1, .int rail), (2, .int turn), (3, .int (nI i)), (4, .int roll)] [.int 1] h32x 0 0 _
                refine wq_gos (f := 1) (pc2 := 217) (ls2 := [(7, .int roll), (5, .long (jput (jput (jput (jput (jput 0 (-280375465082881) 40 rail) (-1095216660481) 32 turn) (-4278190081) 24 a) (-16711681) 16 e) (-65281) 8 w)), (0, .ref 44), (1, .int rail), (2, .int turn), (3, .int (nI i)), (4, .int roll)]) (st2 := [.ref 44]) (h2 := h32x) (dc2 := 0) (ds2 := 0) 2 rfl ?_
                refine wq_getf rfl e36x rfl rfl ?_
                refine wq_gos (f := 1) (pc2 := 225) (ls2 := [(7, .int roll), (5, .long (jput (jput (jput (jput (jput 0 (-280375465082881) 40 rail) (-1095216660481) 32 turn) (-4278190081) 24 a) (-16711681) 16 e) (-65281) 8 w)), (0, .ref 44), (1, .int rail), (2, .int turn), (3, .int (nI i)), (4, .int roll)]) (st2 := [.int roll, .int 5, .long (jput (jput (jput (jput (jput 0 (-280375465082881) 40 rail) (-1095216660481) 32 turn) (-4278190081) 24 a) (-16711681) 16 e) (-65281) 8 w), .ref rh]) (h2 := h32x) (dc2 := 0) (ds2 := 0) 3 rfl ?_
                refine wq_inl (y2 := 34) (as := [.long (jput (jput (jput (jput (jput 0 (-280375465082881) 40 rail) (-1095216660481) 32 turn) (-4278190081) 24 a) (-16711681) 16 e) (-65281) 8 w), .int 5, .int roll]) rfl rfl rfl (wq_T (c_with5 (jput (jput (jput (jput (jput 0 (-280375465082881) 40 rail) (-1095216660481) 32 turn) (-4278190081) 24 a) (-16711681) 16 e) (-65281) 8 w) roll h32x) ?_)
                show wq 90 228 [(7, .int roll), (5, .long (jput (jput (jput (jput (jput 0 (-280375465082881) 40 rail) (-1095216660481) 32 turn) (-4278190081) 24 a) (-16711681) 16 e) (-65281) 8 w)), (0, .ref 44), (1, .int rail), (2, .int turn), (3, .int (nI i)), (4, .int roll)] [.long (jput (jput (jput (jput (jput (jput 0 (-280375465082881) 40 rail) (-1095216660481) 32 turn) (-4278190081) 24 a) (-16711681) 16 e) (-65281) 8 w) (-256) 0 roll), .ref rh] h32x 0 0 _
                refine wq_gos (f := 1) (pc2 := 230) (ls2 := [(7, .int roll), (5, .long (jput (jput (jput (jput (jput 0 (-280375465082881) 40 rail) (-1095216660481) 32 turn) (-4278190081) 24 a) (-16711681) 16 e) (-65281) 8 w)), (0, .ref 44), (1, .int rail), (2, .int turn), (3, .int (nI i)), (4, .int roll)]) (st2 := [.long (jput (jput (jput (jput (jput 0 (-280375465082881) 40 rail) (-1095216660481) 32 turn) (-4278190081) 24 a) (-16711681) 16 e) (-65281) 8 w), .long (jput (jput (jput (jput (jput (jput 0 (-280375465082881) 40 rail) (-1095216660481) 32 turn) (-4278190081) 24 a) (-16711681) 16 e) (-65281) 8 w) (-256) 0 roll), .ref rh]) (h2 := h32x) (dc2 := 0) (ds2 := 0) 1 rfl ?_
                refine wq_inl (y2 := 39) (as := [.long (jput (jput (jput (jput (jput 0 (-280375465082881) 40 rail) (-1095216660481) 32 turn) (-4278190081) 24 a) (-16711681) 16 e) (-65281) 8 w)]) rfl rfl rfl (wq_T (c_kind (jput (jput (jput (jput (jput 0 (-280375465082881) 40 rail) (-1095216660481) 32 turn) (-4278190081) 24 a) (-16711681) 16 e) (-65281) 8 w) h32x) ?_)
                show wq 90 233 [(7, .int roll), (5, .long (jput (jput (jput (jput (jput 0 (-280375465082881) 40 rail) (-1095216660481) 32 turn) (-4278190081) 24 a) (-16711681) 16 e) (-65281) 8 w)), (0, .ref 44), (1, .int rail), (2, .int turn), (3, .int (nI i)), (4, .int roll)] [.int (jkind (jput (jput (jput (jput (jput 0 (-280375465082881) 40 rail) (-1095216660481) 32 turn) (-4278190081) 24 a) (-16711681) 16 e) (-65281) 8 w)), .long (jput (jput (jput (jput (jput (jput 0 (-280375465082881) 40 rail) (-1095216660481) 32 turn) (-4278190081) 24 a) (-16711681) 16 e) (-65281) 8 w) (-256) 0 roll), .ref rh] h32x 0 0 _
                have e46x := (f34x.2 _ _ (wnc (by omega) wn0) hI)
                refine wq_inlv (y2 := 14) (as := [.long (jput (jput (jput (jput (jput (jput 0 (-280375465082881) 40 rail) (-1095216660481) 32 turn) (-4278190081) 24 a) (-16711681) 16 e) (-65281) 8 w) (-256) 0 roll), .int (jkind (jput (jput (jput (jput (jput 0 (-280375465082881) 40 rail) (-1095216660481) 32 turn) (-4278190081) 24 a) (-16711681) 16 e) (-65281) 8 w))]) rfl rfl rfl e33x rfl (wq_mono (c_add e33x e46x ⟨by omega, by omega, by omega⟩ hLi (by omega) ⟨by omega, by omega, by omega⟩ (jput (jput (jput (jput (jput (jput 0 (-280375465082881) 40 rail) (-1095216660481) 32 turn) (-4278190081) 24 a) (-16711681) 16 e) (-65281) 8 w) (-256) 0 roll) (jkind (jput (jput (jput (jput (jput 0 (-280375465082881) 40 rail) (-1095216660481) 32 turn) (-4278190081) 24 a) (-16711681) 16 e) (-65281) 8 w))) ?_)
                rintro _ ⟨h47x, rL48x, cap49x, ks50x, li51x, d52x, s53x, rfl, f54x, e55x, e56x, L57x, c58x, c59x, c60x, c61x, c62x, c63x⟩
                have k64x : (SL ++ [(jput (jput (jput (jput (jput (jput 0 (-280375465082881) 40 rail) (-1095216660481) 32 turn) (-4278190081) 24 a) (-16711681) 16 e) (-65281) 8 w) (-256) 0 roll)]).length = SL.length + 1 := by rw [List.length_append]; rfl
                have l65x := f54x.1
                rw [← k64x] at e55x
                show wq 90 236 [(7, .int roll), (5, .long (jput (jput (jput (jput (jput 0 (-280375465082881) 40 rail) (-1095216660481) 32 turn) (-4278190081) 24 a) (-16711681) 16 e) (-65281) 8 w)), (0, .ref 44), (1, .int rail), (2, .int turn), (3, .int (nI i)), (4, .int roll)] [] h47x (0 + d52x) (0 + s53x) _
                refine wq_gos (f := 1) (pc2 := 200) (ls2 := [(7, .int (roll + 64)), (5, .long (jput (jput (jput (jput (jput 0 (-280375465082881) 40 rail) (-1095216660481) 32 turn) (-4278190081) 24 a) (-16711681) 16 e) (-65281) 8 w)), (0, .ref 44), (1, .int rail), (2, .int turn), (3, .int (nI i)), (4, .int roll)]) (st2 := [.int roll, .int (roll + 64)]) (h2 := h47x) (dc2 := (0 + d52x)) (ds2 := (0 + s53x)) 5 rfl ?_
                refine wq_gt2t rfl (by rw [r3]; omega) ?_
                have hs : sOff ll lg rail turn a e w roll = [(jpos rail turn a e w roll)] := by unfold sOff; rw [if_pos ⟨q1x, q7x, q13x, q19x, q25x⟩, if_neg (by rw [q31x]; decide), if_pos q40x]; rfl
                have hx : SL ++ sOff ll lg rail turn a e w roll = (SL ++ [(jput (jput (jput (jput (jput (jput 0 (-280375465082881) 40 rail) (-1095216660481) 32 turn) (-4278190081) 24 a) (-16711681) 16 e) (-65281) 8 w) (-256) 0 roll)]) := by rw [hs]; simp [jpos]
                rw [hx]
                exact wq_ret rfl rfl ⟨h47x, rL48x, cap49x, ks50x, (jmax fa (5 : Int32)), _, _, _, rfl, (wFr_two (wFr_tr (wFr_rf _ _) (wFr_sub f34x (by simp))) f54x (by omega)), e55x, e56x, L57x, by omega, by omega, by omega, by omega, by omega, by omega⟩
            | true =>
              refine wq_inlv (y2 := 3) (as := [.int 5, .int (roll - (64 : Int32))]) rfl rfl rfl hA rfl (wq_T (show zT zg0 zF zP 3 0 [(0, .ref ra), (1, .int 5), (2, .int (roll - (64 : Int32)))] [] h 0 0 (some (.int 1), h, 0, 0) from by have q9 := c_allows hA hL hG (j := (5 : Int32)) rfl (roll - (64 : Int32)); rw [q31x] at q9; exact q9) ?_)
              show wq 90 213 [(7, .int (roll - (64 : Int32))), (5, .long (jput (jput (jput (jput (jput 0 (-280375465082881) 40 rail) (-1095216660481) 32 turn) (-4278190081) 24 a) (-16711681) 16 e) (-65281) 8 w)), (0, .ref 44), (1, .int rail), (2, .int turn), (3, .int (nI i)), (4, .int roll)] [.int 1] h 0 0 _
              refine wq_gos (f := 1) (pc2 := 217) (ls2 := [(7, .int (roll - (64 : Int32))), (5, .long (jput (jput (jput (jput (jput 0 (-280375465082881) 40 rail) (-1095216660481) 32 turn) (-4278190081) 24 a) (-16711681) 16 e) (-65281) 8 w)), (0, .ref 44), (1, .int rail), (2, .int turn), (3, .int (nI i)), (4, .int roll)]) (st2 := [.ref 44]) (h2 := h) (dc2 := 0) (ds2 := 0) 2 rfl ?_
              refine wq_getf rfl hS rfl rfl ?_
              refine wq_gos (f := 1) (pc2 := 225) (ls2 := [(7, .int (roll - (64 : Int32))), (5, .long (jput (jput (jput (jput (jput 0 (-280375465082881) 40 rail) (-1095216660481) 32 turn) (-4278190081) 24 a) (-16711681) 16 e) (-65281) 8 w)), (0, .ref 44), (1, .int rail), (2, .int turn), (3, .int (nI i)), (4, .int roll)]) (st2 := [.int (roll - (64 : Int32)), .int 5, .long (jput (jput (jput (jput (jput 0 (-280375465082881) 40 rail) (-1095216660481) 32 turn) (-4278190081) 24 a) (-16711681) 16 e) (-65281) 8 w), .ref rh]) (h2 := h) (dc2 := 0) (ds2 := 0) 3 rfl ?_
              refine wq_inl (y2 := 34) (as := [.long (jput (jput (jput (jput (jput 0 (-280375465082881) 40 rail) (-1095216660481) 32 turn) (-4278190081) 24 a) (-16711681) 16 e) (-65281) 8 w), .int 5, .int (roll - (64 : Int32))]) rfl rfl rfl (wq_T (c_with5 (jput (jput (jput (jput (jput 0 (-280375465082881) 40 rail) (-1095216660481) 32 turn) (-4278190081) 24 a) (-16711681) 16 e) (-65281) 8 w) (roll - (64 : Int32)) h) ?_)
              show wq 90 228 [(7, .int (roll - (64 : Int32))), (5, .long (jput (jput (jput (jput (jput 0 (-280375465082881) 40 rail) (-1095216660481) 32 turn) (-4278190081) 24 a) (-16711681) 16 e) (-65281) 8 w)), (0, .ref 44), (1, .int rail), (2, .int turn), (3, .int (nI i)), (4, .int roll)] [.long (jput (jput (jput (jput (jput (jput 0 (-280375465082881) 40 rail) (-1095216660481) 32 turn) (-4278190081) 24 a) (-16711681) 16 e) (-65281) 8 w) (-256) 0 (roll - (64 : Int32))), .ref rh] h 0 0 _
              refine wq_gos (f := 1) (pc2 := 230) (ls2 := [(7, .int (roll - (64 : Int32))), (5, .long (jput (jput (jput (jput (jput 0 (-280375465082881) 40 rail) (-1095216660481) 32 turn) (-4278190081) 24 a) (-16711681) 16 e) (-65281) 8 w)), (0, .ref 44), (1, .int rail), (2, .int turn), (3, .int (nI i)), (4, .int roll)]) (st2 := [.long (jput (jput (jput (jput (jput 0 (-280375465082881) 40 rail) (-1095216660481) 32 turn) (-4278190081) 24 a) (-16711681) 16 e) (-65281) 8 w), .long (jput (jput (jput (jput (jput (jput 0 (-280375465082881) 40 rail) (-1095216660481) 32 turn) (-4278190081) 24 a) (-16711681) 16 e) (-65281) 8 w) (-256) 0 (roll - (64 : Int32))), .ref rh]) (h2 := h) (dc2 := 0) (ds2 := 0) 1 rfl ?_
              refine wq_inl (y2 := 39) (as := [.long (jput (jput (jput (jput (jput 0 (-280375465082881) 40 rail) (-1095216660481) 32 turn) (-4278190081) 24 a) (-16711681) 16 e) (-65281) 8 w)]) rfl rfl rfl (wq_T (c_kind (jput (jput (jput (jput (jput 0 (-280375465082881) 40 rail) (-1095216660481) 32 turn) (-4278190081) 24 a) (-16711681) 16 e) (-65281) 8 w) h) ?_)
              show wq 90 233 [(7, .int (roll - (64 : Int32))), (5, .long (jput (jput (jput (jput (jput 0 (-280375465082881) 40 rail) (-1095216660481) 32 turn) (-4278190081) 24 a) (-16711681) 16 e) (-65281) 8 w)), (0, .ref 44), (1, .int rail), (2, .int turn), (3, .int (nI i)), (4, .int roll)] [.int (jkind (jput (jput (jput (jput (jput 0 (-280375465082881) 40 rail) (-1095216660481) 32 turn) (-4278190081) 24 a) (-16711681) 16 e) (-65281) 8 w)), .long (jput (jput (jput (jput (jput (jput 0 (-280375465082881) 40 rail) (-1095216660481) 32 turn) (-4278190081) 24 a) (-16711681) 16 e) (-65281) 8 w) (-256) 0 (roll - (64 : Int32))), .ref rh] h 0 0 _
              refine wq_inlv (y2 := 14) (as := [.long (jput (jput (jput (jput (jput (jput 0 (-280375465082881) 40 rail) (-1095216660481) 32 turn) (-4278190081) 24 a) (-16711681) 16 e) (-65281) 8 w) (-256) 0 (roll - (64 : Int32))), .int (jkind (jput (jput (jput (jput (jput 0 (-280375465082881) 40 rail) (-1095216660481) 32 turn) (-4278190081) 24 a) (-16711681) 16 e) (-65281) 8 w))]) rfl rfl rfl hH rfl (wq_mono (c_add hH hI ⟨by omega, by omega, by omega⟩ hLi (by omega) ⟨by omega, by omega, by omega⟩ (jput (jput (jput (jput (jput (jput 0 (-280375465082881) 40 rail) (-1095216660481) 32 turn) (-4278190081) 24 a) (-16711681) 16 e) (-65281) 8 w) (-256) 0 (roll - (64 : Int32))) (jkind (jput (jput (jput (jput (jput 0 (-280375465082881) 40 rail) (-1095216660481) 32 turn) (-4278190081) 24 a) (-16711681) 16 e) (-65281) 8 w))) ?_)
              rintro _ ⟨h66x, rL67x, cap68x, ks69x, li70x, d71x, s72x, rfl, f73x, e74x, e75x, L76x, c77x, c78x, c79x, c80x, c81x, c82x⟩
              have k83x : (SL ++ [(jput (jput (jput (jput (jput (jput 0 (-280375465082881) 40 rail) (-1095216660481) 32 turn) (-4278190081) 24 a) (-16711681) 16 e) (-65281) 8 w) (-256) 0 (roll - (64 : Int32)))]).length = SL.length + 1 := by rw [List.length_append]; rfl
              have l84x := f73x.1
              rw [← k83x] at e74x
              show wq 90 236 [(7, .int (roll - (64 : Int32))), (5, .long (jput (jput (jput (jput (jput 0 (-280375465082881) 40 rail) (-1095216660481) 32 turn) (-4278190081) 24 a) (-16711681) 16 e) (-65281) 8 w)), (0, .ref 44), (1, .int rail), (2, .int turn), (3, .int (nI i)), (4, .int roll)] [] h66x (0 + d71x) (0 + s72x) _
              refine wq_gos (f := 1) (pc2 := 196) (ls2 := [(7, .int ((roll - (64 : Int32)) + 64)), (5, .long (jput (jput (jput (jput (jput 0 (-280375465082881) 40 rail) (-1095216660481) 32 turn) (-4278190081) 24 a) (-16711681) 16 e) (-65281) 8 w)), (0, .ref 44), (1, .int rail), (2, .int turn), (3, .int (nI i)), (4, .int roll)]) (st2 := []) (h2 := h66x) (dc2 := (0 + d71x)) (ds2 := (0 + s72x)) 3 rfl ?_
              rw [r2]
              refine wq_gos (f := 1) (pc2 := 200) (ls2 := [(7, .int roll), (5, .long (jput (jput (jput (jput (jput 0 (-280375465082881) 40 rail) (-1095216660481) 32 turn) (-4278190081) 24 a) (-16711681) 16 e) (-65281) 8 w)), (0, .ref 44), (1, .int rail), (2, .int turn), (3, .int (nI i)), (4, .int roll)]) (st2 := [.int roll, .int roll]) (h2 := h66x) (dc2 := (0 + d71x)) (ds2 := (0 + s72x)) 2 rfl ?_
              refine wq_gt2f rfl rfl (by omega) ?_
              refine wq_gos (f := 1) (pc2 := 204) (ls2 := [(7, .int roll), (5, .long (jput (jput (jput (jput (jput 0 (-280375465082881) 40 rail) (-1095216660481) 32 turn) (-4278190081) 24 a) (-16711681) 16 e) (-65281) 8 w)), (0, .ref 44), (1, .int rail), (2, .int turn), (3, .int (nI i)), (4, .int roll)]) (st2 := [.ref 44]) (h2 := h66x) (dc2 := (0 + d71x)) (ds2 := (0 + s72x)) 1 rfl ?_
              have e85x := (f73x.2 _ _ (wnc (by omega) (wnc (by omega) wn0)) hS)
              refine wq_getf rfl e85x rfl rfl ?_
              refine wq_gos (f := 1) (pc2 := 210) (ls2 := [(7, .int roll), (5, .long (jput (jput (jput (jput (jput 0 (-280375465082881) 40 rail) (-1095216660481) 32 turn) (-4278190081) 24 a) (-16711681) 16 e) (-65281) 8 w)), (0, .ref 44), (1, .int rail), (2, .int turn), (3, .int (nI i)), (4, .int roll)]) (st2 := [.int roll, .int 5, .ref ra]) (h2 := h66x) (dc2 := (0 + d71x)) (ds2 := (0 + s72x)) 2 rfl ?_
              have e86x := (f73x.2 _ _ (wnc (by omega) (wnc (by omega) wn0)) hA)
              have e87x := (f73x.2 _ _ (wnc (by omega) (wnc (by omega) wn0)) hL)
              have e88x := (f73x.2 _ _ (wnc (by omega) (wnc (by omega) wn0)) hG)
              cases q89x : jallow ll lg (5 : Int32) roll with
              | false =>
                refine wq_inlv (y2 := 3) (as := [.int 5, .int roll]) rfl rfl rfl e86x rfl (wq_T (show zT zg0 zF zP 3 0 [(0, .ref ra), (1, .int 5), (2, .int roll)] [] h66x 0 0 (some (.int 0), h66x, 0, 0) from by have q9 := c_allows e86x e87x e88x (j := (5 : Int32)) rfl roll; rw [q89x] at q9; exact q9) ?_)
                show wq 90 213 [(7, .int roll), (5, .long (jput (jput (jput (jput (jput 0 (-280375465082881) 40 rail) (-1095216660481) 32 turn) (-4278190081) 24 a) (-16711681) 16 e) (-65281) 8 w)), (0, .ref 44), (1, .int rail), (2, .int turn), (3, .int (nI i)), (4, .int roll)] [.int 0] h66x (0 + d71x) (0 + s72x) _
                refine wq_gos (f := 1) (pc2 := 240) (ls2 := [(7, .int roll), (5, .long (jput (jput (jput (jput (jput 0 (-280375465082881) 40 rail) (-1095216660481) 32 turn) (-4278190081) 24 a) (-16711681) 16 e) (-65281) 8 w)), (0, .ref 44), (1, .int rail), (2, .int turn), (3, .int (nI i)), (4, .int roll)]) (st2 := [.ref 44]) (h2 := h66x) (dc2 := (0 + d71x)) (ds2 := (0 + s72x)) 2 rfl ?_
                refine wq_getf rfl e85x rfl rfl ?_
                refine wq_gos (f := 1) (pc2 := 244) (ls2 := [(7, .int roll), (5, .long (jput (jput (jput (jput (jput 0 (-280375465082881) 40 rail) (-1095216660481) 32 turn) (-4278190081) 24 a) (-16711681) 16 e) (-65281) 8 w)), (0, .ref 44), (1, .int rail), (2, .int turn), (3, .int (nI i)), (4, .int roll)]) (st2 := [.int 5, .ref rh]) (h2 := h66x) (dc2 := (0 + d71x)) (ds2 := (0 + s72x)) 1 rfl ?_
                refine wq_inlv (y2 := 15) (as := [.int 5]) rfl rfl rfl e74x rfl ?_
                show wq 15 0 [(0, .ref rh), (1, .int 5)] [] h66x 0 0 _
                refine wq_gos (f := 1) (pc2 := 2) (ls2 := [(0, .ref rh), (1, .int 5)]) (st2 := [.ref rh, .ref rh]) (h2 := h66x) (dc2 := 0) (ds2 := 0) 2 rfl ?_
                refine wq_getf rfl e74x rfl rfl ?_
                refine wq_gos (f := 1) (pc2 := 6) (ls2 := [(0, .ref rh), (1, .int 5)]) (st2 := [.int 5, .int fa, .ref rh]) (h2 := h66x) (dc2 := 0) (ds2 := 0) 1 rfl ?_
                refine wq_inl (y2 := 284) (as := [.int fa, .int 5]) rfl rfl rfl (wq_T (c_max fa (5 : Int32) h66x) ?_)
                show wq 15 9 [(0, .ref rh), (1, .int 5)] [.int (jmax fa (5 : Int32)), .ref rh] h66x 0 0 _
                refine wq_putf rfl e74x rfl rfl rfl ?_
                intro h90x e91x f92x l93x
                have e91x : zat h90x rh = some (.inr (.inr (.inr (1, [.int kn, .int (nI (SL ++ [(jput (jput (jput (jput (jput (jput 0 (-280375465082881) 40 rail) (-1095216660481) 32 turn) (-4278190081) 24 a) (-16711681) 16 e) (-65281) 8 w) (-256) 0 (roll - (64 : Int32)))]).length), .ref rL67x, .ref (rh + 4), .int ks69x, .int (jmax fa (5 : Int32))])))) := e91x
                refine wq_ret rfl rfl ?_
                show wq 90 247 [(7, .int roll), (5, .long (jput (jput (jput (jput (jput 0 (-280375465082881) 40 rail) (-1095216660481) 32 turn) (-4278190081) 24 a) (-16711681) 16 e) (-65281) 8 w)), (0, .ref 44), (1, .int rail), (2, .int turn), (3, .int (nI i)), (4, .int roll)] [] h90x (0 + d71x) (0 + s72x) _
                refine wq_gos (f := 1) (pc2 := 200) (ls2 := [(7, .int (roll + 64)), (5, .long (jput (jput (jput (jput (jput 0 (-280375465082881) 40 rail) (-1095216660481) 32 turn) (-4278190081) 24 a) (-16711681) 16 e) (-65281) 8 w)), (0, .ref 44), (1, .int rail), (2, .int turn), (3, .int (nI i)), (4, .int roll)]) (st2 := [.int roll, .int (roll + 64)]) (h2 := h90x) (dc2 := (0 + d71x)) (ds2 := (0 + s72x)) 4 rfl ?_
                refine wq_gt2t rfl (by rw [r3]; omega) ?_
                have e94x := (f92x.2 _ _ (wnc (by omega) wn0) e75x)
                have hs : sOff ll lg rail turn a e w roll = [(jpos rail turn a e w (roll - 64))] := by unfold sOff; rw [if_pos ⟨q1x, q7x, q13x, q19x, q25x⟩, if_pos q31x, if_neg (by rw [q89x]; decide)]; rfl
                have hx : SL ++ sOff ll lg rail turn a e w roll = (SL ++ [(jput (jput (jput (jput (jput (jput 0 (-280375465082881) 40 rail) (-1095216660481) 32 turn) (-4278190081) 24 a) (-16711681) 16 e) (-65281) 8 w) (-256) 0 (roll - (64 : Int32)))]) := by rw [hs]; simp [jpos]
                rw [hx]
                exact wq_ret rfl rfl ⟨h90x, rL67x, cap68x, ks69x, (jmax fa (5 : Int32)), _, _, _, rfl, (wFr_tr (wFr_two (wFr_rf _ _) f73x (by omega)) (wFr_sub f92x (by simp))), e91x, e94x, L76x, by omega, by omega, by omega, by omega, by omega, by omega⟩
              | true =>
                refine wq_inlv (y2 := 3) (as := [.int 5, .int roll]) rfl rfl rfl e86x rfl (wq_T (show zT zg0 zF zP 3 0 [(0, .ref ra), (1, .int 5), (2, .int roll)] [] h66x 0 0 (some (.int 1), h66x, 0, 0) from by have q9 := c_allows e86x e87x e88x (j := (5 : Int32)) rfl roll; rw [q89x] at q9; exact q9) ?_)
                show wq 90 213 [(7, .int roll), (5, .long (jput (jput (jput (jput (jput 0 (-280375465082881) 40 rail) (-1095216660481) 32 turn) (-4278190081) 24 a) (-16711681) 16 e) (-65281) 8 w)), (0, .ref 44), (1, .int rail), (2, .int turn), (3, .int (nI i)), (4, .int roll)] [.int 1] h66x (0 + d71x) (0 + s72x) _
                refine wq_gos (f := 1) (pc2 := 217) (ls2 := [(7, .int roll), (5, .long (jput (jput (jput (jput (jput 0 (-280375465082881) 40 rail) (-1095216660481) 32 turn) (-4278190081) 24 a) (-16711681) 16 e) (-65281) 8 w)), (0, .ref 44), (1, .int rail), (2, .int turn), (3, .int (nI i)), (4, .int roll)]) (st2 := [.ref 44]) (h2 := h66x) (dc2 := (0 + d71x)) (ds2 := (0 + s72x)) 2 rfl ?_
                refine wq_getf rfl e85x rfl rfl ?_
                refine wq_gos (f := 1) (pc2 := 225) (ls2 := [(7, .int roll), (5, .long (jput (jput (jput (jput (jput 0 (-280375465082881) 40 rail) (-1095216660481) 32 turn) (-4278190081) 24 a) (-16711681) 16 e) (-65281) 8 w)), (0, .ref 44), (1, .int rail), (2, .int turn), (3, .int (nI i)), (4, .int roll)]) (st2 := [.int roll, .int 5, .long (jput (jput (jput (jput (jput 0 (-280375465082881) 40 rail) (-1095216660481) 32 turn) (-4278190081) 24 a) (-16711681) 16 e) (-65281) 8 w), .ref rh]) (h2 := h66x) (dc2 := (0 + d71x)) (ds2 := (0 + s72x)) 3 rfl ?_
                refine wq_inl (y2 := 34) (as := [.long (jput (jput (jput (jput (jput 0 (-280375465082881) 40 rail) (-1095216660481) 32 turn) (-4278190081) 24 a) (-16711681) 16 e) (-65281) 8 w), .int 5, .int roll]) rfl rfl rfl (wq_T (c_with5 (jput (jput (jput (jput (jput 0 (-280375465082881) 40 rail) (-1095216660481) 32 turn) (-4278190081) 24 a) (-16711681) 16 e) (-65281) 8 w) roll h66x) ?_)
                show wq 90 228 [(7, .int roll), (5, .long (jput (jput (jput (jput (jput 0 (-280375465082881) 40 rail) (-1095216660481) 32 turn) (-4278190081) 24 a) (-16711681) 16 e) (-65281) 8 w)), (0, .ref 44), (1, .int rail), (2, .int turn), (3, .int (nI i)), (4, .int roll)] [.long (jput (jput (jput (jput (jput (jput 0 (-280375465082881) 40 rail) (-1095216660481) 32 turn) (-4278190081) 24 a) (-16711681) 16 e) (-65281) 8 w) (-256) 0 roll), .ref rh] h66x (0 + d71x) (0 + s72x) _
                refine wq_gos (f := 1) (pc2 := 230) (ls2 := [(7, .int roll), (5, .long (jput (jput (jput (jput (jput 0 (-280375465082881) 40 rail) (-1095216660481) 32 turn) (-4278190081) 24 a) (-16711681) 16 e) (-65281) 8 w)), (0, .ref 44), (1, .int rail), (2, .int turn), (3, .int (nI i)), (4, .int roll)]) (st2 := [.long (jput (jput (jput (jput (jput 0 (-280375465082881) 40 rail) (-1095216660481) 32 turn) (-4278190081) 24 a) (-16711681) 16 e) (-65281) 8 w), .long (jput (jput (jput (jput (jput (jput 0 (-280375465082881) 40 rail) (-1095216660481) 32 turn) (-4278190081) 24 a) (-16711681) 16 e) (-65281) 8 w) (-256) 0 roll), .ref rh]) (h2 := h66x) (dc2 := (0 + d71x)) (ds2 := (0 + s72x)) 1 rfl ?_
                refine wq_inl (y2 := 39) (as := [.long (jput (jput (jput (jput (jput 0 (-280375465082881) 40 rail) (-1095216660481) 32 turn) (-4278190081) 24 a) (-16711681) 16 e) (-65281) 8 w)]) rfl rfl rfl (wq_T (c_kind (jput (jput (jput (jput (jput 0 (-280375465082881) 40 rail) (-1095216660481) 32 turn) (-4278190081) 24 a) (-16711681) 16 e) (-65281) 8 w) h66x) ?_)
                show wq 90 233 [(7, .int roll), (5, .long (jput (jput (jput (jput (jput 0 (-280375465082881) 40 rail) (-1095216660481) 32 turn) (-4278190081) 24 a) (-16711681) 16 e) (-65281) 8 w)), (0, .ref 44), (1, .int rail), (2, .int turn), (3, .int (nI i)), (4, .int roll)] [.int (jkind (jput (jput (jput (jput (jput 0 (-280375465082881) 40 rail) (-1095216660481) 32 turn) (-4278190081) 24 a) (-16711681) 16 e) (-65281) 8 w)), .long (jput (jput (jput (jput (jput (jput 0 (-280375465082881) 40 rail) (-1095216660481) 32 turn) (-4278190081) 24 a) (-16711681) 16 e) (-65281) 8 w) (-256) 0 roll), .ref rh] h66x (0 + d71x) (0 + s72x) _
                refine wq_inlv (y2 := 14) (as := [.long (jput (jput (jput (jput (jput (jput 0 (-280375465082881) 40 rail) (-1095216660481) 32 turn) (-4278190081) 24 a) (-16711681) 16 e) (-65281) 8 w) (-256) 0 roll), .int (jkind (jput (jput (jput (jput (jput 0 (-280375465082881) 40 rail) (-1095216660481) 32 turn) (-4278190081) 24 a) (-16711681) 16 e) (-65281) 8 w))]) rfl rfl rfl e74x rfl (wq_mono (c_add e74x e75x ⟨by omega, by omega, by omega⟩ L76x (by omega) ⟨by omega, by omega, by omega⟩ (jput (jput (jput (jput (jput (jput 0 (-280375465082881) 40 rail) (-1095216660481) 32 turn) (-4278190081) 24 a) (-16711681) 16 e) (-65281) 8 w) (-256) 0 roll) (jkind (jput (jput (jput (jput (jput 0 (-280375465082881) 40 rail) (-1095216660481) 32 turn) (-4278190081) 24 a) (-16711681) 16 e) (-65281) 8 w))) ?_)
                rintro _ ⟨h95x, rL96x, cap97x, ks98x, li99x, d100x, s101x, rfl, f102x, e103x, e104x, L105x, c106x, c107x, c108x, c109x, c110x, c111x⟩
                have k112x : ((SL ++ [(jput (jput (jput (jput (jput (jput 0 (-280375465082881) 40 rail) (-1095216660481) 32 turn) (-4278190081) 24 a) (-16711681) 16 e) (-65281) 8 w) (-256) 0 (roll - (64 : Int32)))]) ++ [(jput (jput (jput (jput (jput (jput 0 (-280375465082881) 40 rail) (-1095216660481) 32 turn) (-4278190081) 24 a) (-16711681) 16 e) (-65281) 8 w) (-256) 0 roll)]).length = (SL ++ [(jput (jput (jput (jput (jput (jput 0 (-280375465082881) 40 rail) (-1095216660481) 32 turn) (-4278190081) 24 a) (-16711681) 16 e) (-65281) 8 w) (-256) 0 (roll - (64 : Int32)))]).length + 1 := by rw [List.length_append]; rfl
                have l113x := f102x.1
                rw [← k112x] at e103x
                show wq 90 236 [(7, .int roll), (5, .long (jput (jput (jput (jput (jput 0 (-280375465082881) 40 rail) (-1095216660481) 32 turn) (-4278190081) 24 a) (-16711681) 16 e) (-65281) 8 w)), (0, .ref 44), (1, .int rail), (2, .int turn), (3, .int (nI i)), (4, .int roll)] [] h95x ((0 + d71x) + d100x) ((0 + s72x) + s101x) _
                refine wq_gos (f := 1) (pc2 := 200) (ls2 := [(7, .int (roll + 64)), (5, .long (jput (jput (jput (jput (jput 0 (-280375465082881) 40 rail) (-1095216660481) 32 turn) (-4278190081) 24 a) (-16711681) 16 e) (-65281) 8 w)), (0, .ref 44), (1, .int rail), (2, .int turn), (3, .int (nI i)), (4, .int roll)]) (st2 := [.int roll, .int (roll + 64)]) (h2 := h95x) (dc2 := ((0 + d71x) + d100x)) (ds2 := ((0 + s72x) + s101x)) 5 rfl ?_
                refine wq_gt2t rfl (by rw [r3]; omega) ?_
                have hs : sOff ll lg rail turn a e w roll = [(jpos rail turn a e w (roll - 64)), (jpos rail turn a e w roll)] := by unfold sOff; rw [if_pos ⟨q1x, q7x, q13x, q19x, q25x⟩, if_pos q31x, if_pos q89x]; rfl
                have hx : SL ++ sOff ll lg rail turn a e w roll = ((SL ++ [(jput (jput (jput (jput (jput (jput 0 (-280375465082881) 40 rail) (-1095216660481) 32 turn) (-4278190081) 24 a) (-16711681) 16 e) (-65281) 8 w) (-256) 0 (roll - (64 : Int32)))]) ++ [(jput (jput (jput (jput (jput (jput 0 (-280375465082881) 40 rail) (-1095216660481) 32 turn) (-4278190081) 24 a) (-16711681) 16 e) (-65281) 8 w) (-256) 0 roll)]) := by rw [hs]; simp [jpos]
                rw [hx]
                exact wq_ret rfl rfl ⟨h95x, rL96x, cap97x, ks98x, fa, _, _, _, rfl, (wFr_two (wFr_two (wFr_rf _ _) f73x (by omega)) f102x (by omega)), e103x, e104x, L105x, by omega, by omega, by omega, by omega, by omega, by omega⟩
