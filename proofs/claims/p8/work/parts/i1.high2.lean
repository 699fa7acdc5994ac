/-! high: the loops of both sides. -/
theorem hT_f1 {ll lg : List Int32} {hd b eo out c : Int32} (h : (eo + hd * jcos c).toInt < out.toInt) : hT ll lg hd b eo out c = false := by
  unfold hT
  rw [decide_eq_false (by omega)]
  rfl
theorem hT_f2 {ll lg : List Int32} {hd b eo out c : Int32} (h : jallow ll lg 4 (jw (c - b)) = false) : hT ll lg hd b eo out c = false := by
  unfold hT
  rw [h, Bool.and_false]
theorem hT_t {ll lg : List Int32} {hd b eo out c : Int32} (h : out.toInt ≤ (eo + hd * jcos c).toInt) (h2 : jallow ll lg 4 (jw (c - b)) = true) : hT ll lg hd b eo out c = true := by
  unfold hT
  rw [h2, decide_eq_true h]
  rfl
set_option maxHeartbeats 4000000 in
theorem c_hbhL {h : zH} {ra rl rg rv rn rp rw : Nat} {lk hd ht bl sd sp so : Int32} {rt : Int64} {ll lg : List Int32} {b eo er out : Int32} (hA : zat h ra = some (.inr (.inr (.inr (0, [.int lk, .int hd, .int ht, .int bl, .int sd, .long rt, .ref rl, .ref rg, .ref rv, .int sp, .ref rn, .ref rp, .int so, .ref rw]))))) (hL : zat h rl = some (.inl (0, 6, ll))) (hG : zat h rg = some (.inl (0, 6, lg))) : ∀ (n k : Nat) (dc ds : Nat), k + n = 33 → wq 97 3 [(0, .ref 158), (1, .ref ra), (2, .int b), (3, .int eo), (4, .int er), (5, .int out), (6, .int (nI k))] [] h dc ds (fun r => r = (some (.int (hH ll lg hd b eo er out n (nI k))), h, dc, ds)) := by
  intro n
  induction n with
  | zero =>
    intro k dc ds hk
    have q1 := nI_toInt (n := k) (by omega)
    have e32 : (32 : Int32).toInt = 32 := rfl
    refine wq_gos (f := 1) (pc2 := 7) (ls2 := [(0, .ref 158), (1, .ref ra), (2, .int b), (3, .int eo), (4, .int er), (5, .int out), (6, .int (nI k))]) (st2 := [.int 32, .int (nI k)]) (h2 := h) (dc2 := dc) (ds2 := ds) 2 rfl ?_
    refine wq_gt2t rfl (by omega) ?_
    refine wq_gos (f := 1) (pc2 := 110) (ls2 := [(0, .ref 158), (1, .ref ra), (2, .int b), (3, .int eo), (4, .int er), (5, .int out), (6, .int (nI k))]) (st2 := [.int (-2147483648)]) (h2 := h) (dc2 := dc) (ds2 := ds) 1 rfl ?_
    exact wq_ret rfl rfl rfl
  | succ n ih =>
    intro k dc ds hk
    have q1 := nI_toInt (n := k) (by omega)
    have e32 : (32 : Int32).toInt = 32 := rfl
    refine wq_gos (f := 1) (pc2 := 7) (ls2 := [(0, .ref 158), (1, .ref ra), (2, .int b), (3, .int eo), (4, .int er), (5, .int out), (6, .int (nI k))]) (st2 := [.int 32, .int (nI k)]) (h2 := h) (dc2 := dc) (ds2 := ds) 2 rfl ?_
    refine wq_gt2f rfl rfl (by omega) ?_
    refine wq_gos (f := 1) (pc2 := 26) (ls2 := [(8, .int ((16 : Int32) + (nI k))), (7, .int ((16 : Int32) - (nI k))), (0, .ref 158), (1, .ref ra), (2, .int b), (3, .int eo), (4, .int er), (5, .int out), (6, .int (nI k))]) (st2 := [.ref ra, .int eo]) (h2 := h) (dc2 := dc) (ds2 := ds) 10 rfl ?_
    refine wq_getf rfl hA rfl rfl ?_
    refine wq_gos (f := 1) (pc2 := 31) (ls2 := [(8, .int ((16 : Int32) + (nI k))), (7, .int ((16 : Int32) - (nI k))), (0, .ref 158), (1, .ref ra), (2, .int b), (3, .int eo), (4, .int er), (5, .int out), (6, .int (nI k))]) (st2 := [.int ((16 : Int32) - (nI k)), .int hd, .int eo]) (h2 := h) (dc2 := dc) (ds2 := ds) 1 rfl ?_
    refine wq_inl (y2 := 149) (as := [.int ((16 : Int32) - (nI k))]) rfl rfl rfl (wq_T (c_cos ((16 : Int32) - (nI k)) h) ?_)
    show wq 97 34 [(8, .int ((16 : Int32) + (nI k))), (7, .int ((16 : Int32) - (nI k))), (0, .ref 158), (1, .ref ra), (2, .int b), (3, .int eo), (4, .int er), (5, .int out), (6, .int (nI k))] [.int (jcos ((16 : Int32) - (nI k))), .int hd, .int eo] h dc ds _
    refine wq_gos (f := 1) (pc2 := 38) (ls2 := [(8, .int ((16 : Int32) + (nI k))), (7, .int ((16 : Int32) - (nI k))), (0, .ref 158), (1, .ref ra), (2, .int b), (3, .int eo), (4, .int er), (5, .int out), (6, .int (nI k))]) (st2 := [.int out, .int (eo + (hd * (jcos ((16 : Int32) - (nI k)))))]) (h2 := h) (dc2 := dc) (ds2 := ds) 3 rfl ?_
    refine wq_lt2 rfl rfl (fun b1x => ?_) (fun b1x => ?_)
    · refine wq_gos (f := 1) (pc2 := 58) (ls2 := [(8, .int ((16 : Int32) + (nI k))), (7, .int ((16 : Int32) - (nI k))), (0, .ref 158), (1, .ref ra), (2, .int b), (3, .int eo), (4, .int er), (5, .int out), (6, .int (nI k))]) (st2 := [.ref ra, .int eo]) (h2 := h) (dc2 := dc) (ds2 := ds) 2 rfl ?_
      refine wq_getf rfl hA rfl rfl ?_
      refine wq_gos (f := 1) (pc2 := 63) (ls2 := [(8, .int ((16 : Int32) + (nI k))), (7, .int ((16 : Int32) - (nI k))), (0, .ref 158), (1, .ref ra), (2, .int b), (3, .int eo), (4, .int er), (5, .int out), (6, .int (nI k))]) (st2 := [.int ((16 : Int32) + (nI k)), .int hd, .int eo]) (h2 := h) (dc2 := dc) (ds2 := ds) 1 rfl ?_
      refine wq_inl (y2 := 149) (as := [.int ((16 : Int32) + (nI k))]) rfl rfl rfl (wq_T (c_cos ((16 : Int32) + (nI k)) h) ?_)
      show wq 97 66 [(8, .int ((16 : Int32) + (nI k))), (7, .int ((16 : Int32) - (nI k))), (0, .ref 158), (1, .ref ra), (2, .int b), (3, .int eo), (4, .int er), (5, .int out), (6, .int (nI k))] [.int (jcos ((16 : Int32) + (nI k))), .int hd, .int eo] h dc ds _
      refine wq_gos (f := 1) (pc2 := 70) (ls2 := [(8, .int ((16 : Int32) + (nI k))), (7, .int ((16 : Int32) - (nI k))), (0, .ref 158), (1, .ref ra), (2, .int b), (3, .int eo), (4, .int er), (5, .int out), (6, .int (nI k))]) (st2 := [.int out, .int (eo + (hd * (jcos ((16 : Int32) + (nI k)))))]) (h2 := h) (dc2 := dc) (ds2 := ds) 3 rfl ?_
      refine wq_lt2 rfl rfl (fun b2x => ?_) (fun b2x => ?_)
      · refine wq_gos (f := 1) (pc2 := 105) (ls2 := [(6, .int ((nI k) + 1)), (8, .int ((16 : Int32) + (nI k))), (7, .int ((16 : Int32) - (nI k))), (0, .ref 158), (1, .ref ra), (2, .int b), (3, .int eo), (4, .int er), (5, .int out)]) (st2 := []) (h2 := h) (dc2 := dc) (ds2 := ds) 1 rfl ?_
        rw [nI_1]
        refine wq_gos (f := 1) (pc2 := 3) (ls2 := [(6, .int (nI (k + 1))), (8, .int ((16 : Int32) + (nI k))), (7, .int ((16 : Int32) - (nI k))), (0, .ref 158), (1, .ref ra), (2, .int b), (3, .int eo), (4, .int er), (5, .int out)]) (st2 := []) (h2 := h) (dc2 := dc) (ds2 := ds) 1 rfl ?_
        have t0 : hT ll lg hd b eo out (16 - nI k) = false := hT_f1 b1x
        have t1 : hT ll lg hd b eo out (16 + nI k) = false := hT_f1 b2x
        have hx : (hH ll lg hd b eo er out (n + 1) (nI k)) = (hH ll lg hd b eo er out n (nI (k + 1))) := by show (if _ then _ else _) = _; rw [if_neg (by rw [t0, t1]; decide), nI_1]
        rw [hx]
        refine wq_ls [(0, .ref 158), (1, .ref ra), (2, .int b), (3, .int eo), (4, .int er), (5, .int out), (6, .int (nI (k + 1)))] (show ([0, 1, 2, 3, 4, 5, 6] : List Nat).Nodup by decide) ⟨rfl, rfl, rfl, rfl, rfl, rfl, rfl, trivial⟩ ?_
        exact ih (k + 1) dc ds (by omega)
      · refine wq_gos (f := 1) (pc2 := 79) (ls2 := [(8, .int ((16 : Int32) + (nI k))), (7, .int ((16 : Int32) - (nI k))), (0, .ref 158), (1, .ref ra), (2, .int b), (3, .int eo), (4, .int er), (5, .int out), (6, .int (nI k))]) (st2 := [.int (((16 : Int32) + (nI k)) - b), .int 4, .ref ra]) (h2 := h) (dc2 := dc) (ds2 := ds) 5 rfl ?_
        refine wq_inl (y2 := 152) (as := [.int (((16 : Int32) + (nI k)) - b)]) rfl rfl rfl (wq_T (c_w32 (((16 : Int32) + (nI k)) - b) h) ?_)
        show wq 97 82 [(8, .int ((16 : Int32) + (nI k))), (7, .int ((16 : Int32) - (nI k))), (0, .ref 158), (1, .ref ra), (2, .int b), (3, .int eo), (4, .int er), (5, .int out), (6, .int (nI k))] [.int (jw (((16 : Int32) + (nI k)) - b)), .int 4, .ref ra] h dc ds _
        cases q3x : jallow ll lg (4 : Int32) (jw (((16 : Int32) + (nI k)) - b)) with
        | false =>
          refine wq_inlv (y2 := 3) (as := [.int 4, .int (jw (((16 : Int32) + (nI k)) - b))]) rfl rfl rfl hA rfl (wq_T (show zT zg0 zF zP 3 0 [(0, .ref ra), (1, .int 4), (2, .int (jw (((16 : Int32) + (nI k)) - b)))] [] h 0 0 (some (.int 0), h, 0, 0) from by have q9 := c_allows hA hL hG (j := (4 : Int32)) rfl (jw (((16 : Int32) + (nI k)) - b)); rw [q3x] at q9; exact q9) ?_)
          show wq 97 85 [(8, .int ((16 : Int32) + (nI k))), (7, .int ((16 : Int32) - (nI k))), (0, .ref 158), (1, .ref ra), (2, .int b), (3, .int eo), (4, .int er), (5, .int out), (6, .int (nI k))] [.int 0] h dc ds _
          refine wq_gos (f := 1) (pc2 := 105) (ls2 := [(6, .int ((nI k) + 1)), (8, .int ((16 : Int32) + (nI k))), (7, .int ((16 : Int32) - (nI k))), (0, .ref 158), (1, .ref ra), (2, .int b), (3, .int eo), (4, .int er), (5, .int out)]) (st2 := []) (h2 := h) (dc2 := dc) (ds2 := ds) 2 rfl ?_
          rw [nI_1]
          refine wq_gos (f := 1) (pc2 := 3) (ls2 := [(6, .int (nI (k + 1))), (8, .int ((16 : Int32) + (nI k))), (7, .int ((16 : Int32) - (nI k))), (0, .ref 158), (1, .ref ra), (2, .int b), (3, .int eo), (4, .int er), (5, .int out)]) (st2 := []) (h2 := h) (dc2 := dc) (ds2 := ds) 1 rfl ?_
          have t0 : hT ll lg hd b eo out (16 - nI k) = false := hT_f1 b1x
          have t1 : hT ll lg hd b eo out (16 + nI k) = false := hT_f2 q3x
          have hx : (hH ll lg hd b eo er out (n + 1) (nI k)) = (hH ll lg hd b eo er out n (nI (k + 1))) := by show (if _ then _ else _) = _; rw [if_neg (by rw [t0, t1]; decide), nI_1]
          rw [hx]
          refine wq_ls [(0, .ref 158), (1, .ref ra), (2, .int b), (3, .int eo), (4, .int er), (5, .int out), (6, .int (nI (k + 1)))] (show ([0, 1, 2, 3, 4, 5, 6] : List Nat).Nodup by decide) ⟨rfl, rfl, rfl, rfl, rfl, rfl, rfl, trivial⟩ ?_
          exact ih (k + 1) dc ds (by omega)
        | true =>
          refine wq_inlv (y2 := 3) (as := [.int 4, .int (jw (((16 : Int32) + (nI k)) - b))]) rfl rfl rfl hA rfl (wq_T (show zT zg0 zF zP 3 0 [(0, .ref ra), (1, .int 4), (2, .int (jw (((16 : Int32) + (nI k)) - b)))] [] h 0 0 (some (.int 1), h, 0, 0) from by have q9 := c_allows hA hL hG (j := (4 : Int32)) rfl (jw (((16 : Int32) + (nI k)) - b)); rw [q3x] at q9; exact q9) ?_)
          show wq 97 85 [(8, .int ((16 : Int32) + (nI k))), (7, .int ((16 : Int32) - (nI k))), (0, .ref 158), (1, .ref ra), (2, .int b), (3, .int eo), (4, .int er), (5, .int out), (6, .int (nI k))] [.int 1] h dc ds _
          refine wq_gos (f := 1) (pc2 := 91) (ls2 := [(8, .int ((16 : Int32) + (nI k))), (7, .int ((16 : Int32) - (nI k))), (0, .ref 158), (1, .ref ra), (2, .int b), (3, .int eo), (4, .int er), (5, .int out), (6, .int (nI k))]) (st2 := [.ref ra, .int er]) (h2 := h) (dc2 := dc) (ds2 := ds) 3 rfl ?_
          refine wq_getf rfl hA rfl rfl ?_
          refine wq_gos (f := 1) (pc2 := 96) (ls2 := [(8, .int ((16 : Int32) + (nI k))), (7, .int ((16 : Int32) - (nI k))), (0, .ref 158), (1, .ref ra), (2, .int b), (3, .int eo), (4, .int er), (5, .int out), (6, .int (nI k))]) (st2 := [.int ((16 : Int32) - (nI k)), .int hd, .int er]) (h2 := h) (dc2 := dc) (ds2 := ds) 1 rfl ?_
          refine wq_inl (y2 := 150) (as := [.int ((16 : Int32) - (nI k))]) rfl rfl rfl (wq_T (c_sin ((16 : Int32) - (nI k)) h) ?_)
          show wq 97 99 [(8, .int ((16 : Int32) + (nI k))), (7, .int ((16 : Int32) - (nI k))), (0, .ref 158), (1, .ref ra), (2, .int b), (3, .int eo), (4, .int er), (5, .int out), (6, .int (nI k))] [.int (jsin ((16 : Int32) - (nI k))), .int hd, .int er] h dc ds _
          refine wq_gos (f := 1) (pc2 := 101) (ls2 := [(8, .int ((16 : Int32) + (nI k))), (7, .int ((16 : Int32) - (nI k))), (0, .ref 158), (1, .ref ra), (2, .int b), (3, .int eo), (4, .int er), (5, .int out), (6, .int (nI k))]) (st2 := [.int (er + (hd * (jsin ((16 : Int32) - (nI k)))))]) (h2 := h) (dc2 := dc) (ds2 := ds) 2 rfl ?_
          have t0 : hT ll lg hd b eo out (16 - nI k) = false := hT_f1 b1x
          have t1 : hT ll lg hd b eo out (16 + nI k) = true := hT_t b2x q3x
          have hx : (hH ll lg hd b eo er out (n + 1) (nI k)) = (er + (hd * (jsin ((16 : Int32) - (nI k))))) := by show (if _ then _ else _) = _; rw [if_pos (by rw [t0, t1]; rfl)]
          rw [hx]
          exact wq_ret rfl rfl rfl
    · refine wq_gos (f := 1) (pc2 := 47) (ls2 := [(8, .int ((16 : Int32) + (nI k))), (7, .int ((16 : Int32) - (nI k))), (0, .ref 158), (1, .ref ra), (2, .int b), (3, .int eo), (4, .int er), (5, .int out), (6, .int (nI k))]) (st2 := [.int (((16 : Int32) - (nI k)) - b), .int 4, .ref ra]) (h2 := h) (dc2 := dc) (ds2 := ds) 5 rfl ?_
      refine wq_inl (y2 := 152) (as := [.int (((16 : Int32) - (nI k)) - b)]) rfl rfl rfl (wq_T (c_w32 (((16 : Int32) - (nI k)) - b) h) ?_)
      show wq 97 50 [(8, .int ((16 : Int32) + (nI k))), (7, .int ((16 : Int32) - (nI k))), (0, .ref 158), (1, .ref ra), (2, .int b), (3, .int eo), (4, .int er), (5, .int out), (6, .int (nI k))] [.int (jw (((16 : Int32) - (nI k)) - b)), .int 4, .ref ra] h dc ds _
      cases q4x : jallow ll lg (4 : Int32) (jw (((16 : Int32) - (nI k)) - b)) with
      | false =>
        refine wq_inlv (y2 := 3) (as := [.int 4, .int (jw (((16 : Int32) - (nI k)) - b))]) rfl rfl rfl hA rfl (wq_T (show zT zg0 zF zP 3 0 [(0, .ref ra), (1, .int 4), (2, .int (jw (((16 : Int32) - (nI k)) - b)))] [] h 0 0 (some (.int 0), h, 0, 0) from by have q9 := c_allows hA hL hG (j := (4 : Int32)) rfl (jw (((16 : Int32) - (nI k)) - b)); rw [q4x] at q9; exact q9) ?_)
        show wq 97 53 [(8, .int ((16 : Int32) + (nI k))), (7, .int ((16 : Int32) - (nI k))), (0, .ref 158), (1, .ref ra), (2, .int b), (3, .int eo), (4, .int er), (5, .int out), (6, .int (nI k))] [.int 0] h dc ds _
        refine wq_gos (f := 1) (pc2 := 58) (ls2 := [(8, .int ((16 : Int32) + (nI k))), (7, .int ((16 : Int32) - (nI k))), (0, .ref 158), (1, .ref ra), (2, .int b), (3, .int eo), (4, .int er), (5, .int out), (6, .int (nI k))]) (st2 := [.ref ra, .int eo]) (h2 := h) (dc2 := dc) (ds2 := ds) 3 rfl ?_
        refine wq_getf rfl hA rfl rfl ?_
        refine wq_gos (f := 1) (pc2 := 63) (ls2 := [(8, .int ((16 : Int32) + (nI k))), (7, .int ((16 : Int32) - (nI k))), (0, .ref 158), (1, .ref ra), (2, .int b), (3, .int eo), (4, .int er), (5, .int out), (6, .int (nI k))]) (st2 := [.int ((16 : Int32) + (nI k)), .int hd, .int eo]) (h2 := h) (dc2 := dc) (ds2 := ds) 1 rfl ?_
        refine wq_inl (y2 := 149) (as := [.int ((16 : Int32) + (nI k))]) rfl rfl rfl (wq_T (c_cos ((16 : Int32) + (nI k)) h) ?_)
        show wq 97 66 [(8, .int ((16 : Int32) + (nI k))), (7, .int ((16 : Int32) - (nI k))), (0, .ref 158), (1, .ref ra), (2, .int b), (3, .int eo), (4, .int er), (5, .int out), (6, .int (nI k))] [.int (jcos ((16 : Int32) + (nI k))), .int hd, .int eo] h dc ds _
        refine wq_gos (f := 1) (pc2 := 70) (ls2 := [(8, .int ((16 : Int32) + (nI k))), (7, .int ((16 : Int32) - (nI k))), (0, .ref 158), (1, .ref ra), (2, .int b), (3, .int eo), (4, .int er), (5, .int out), (6, .int (nI k))]) (st2 := [.int out, .int (eo + (hd * (jcos ((16 : Int32) + (nI k)))))]) (h2 := h) (dc2 := dc) (ds2 := ds) 3 rfl ?_
        refine wq_lt2 rfl rfl (fun b5x => ?_) (fun b5x => ?_)
        · refine wq_gos (f := 1) (pc2 := 105) (ls2 := [(6, .int ((nI k) + 1)), (8, .int ((16 : Int32) + (nI k))), (7, .int ((16 : Int32) - (nI k))), (0, .ref 158), (1, .ref ra), (2, .int b), (3, .int eo), (4, .int er), (5, .int out)]) (st2 := []) (h2 := h) (dc2 := dc) (ds2 := ds) 1 rfl ?_
          rw [nI_1]
          refine wq_gos (f := 1) (pc2 := 3) (ls2 := [(6, .int (nI (k + 1))), (8, .int ((16 : Int32) + (nI k))), (7, .int ((16 : Int32) - (nI k))), (0, .ref 158), (1, .ref ra), (2, .int b), (3, .int eo), (4, .int er), (5, .int out)]) (st2 := []) (h2 := h) (dc2 := dc) (ds2 := ds) 1 rfl ?_
          have t0 : hT ll lg hd b eo out (16 - nI k) = false := hT_f2 q4x
          have t1 : hT ll lg hd b eo out (16 + nI k) = false := hT_f1 b5x
          have hx : (hH ll lg hd b eo er out (n + 1) (nI k)) = (hH ll lg hd b eo er out n (nI (k + 1))) := by show (if _ then _ else _) = _; rw [if_neg (by rw [t0, t1]; decide), nI_1]
          rw [hx]
          refine wq_ls [(0, .ref 158), (1, .ref ra), (2, .int b), (3, .int eo), (4, .int er), (5, .int out), (6, .int (nI (k + 1)))] (show ([0, 1, 2, 3, 4, 5, 6] : List Nat).Nodup by decide) ⟨rfl, rfl, rfl, rfl, rfl, rfl, rfl, trivial⟩ ?_
          exact ih (k + 1) dc ds (by omega)
        · refine wq_gos (f := 1) (pc2 := 79) (ls2 := [(8, .int ((16 : Int32) + (nI k))), (7, .int ((16 : Int32) - (nI k))), (0, .ref 158), (1, .ref ra), (2, .int b), (3, .int eo), (4, .int er), (5, .int out), (6, .int (nI k))]) (st2 := [.int (((16 : Int32) + (nI k)) - b), .int 4, .ref ra]) (h2 := h) (dc2 := dc) (ds2 := ds) 5 rfl ?_
          refine wq_inl (y2 := 152) (as := [.int (((16 : Int32) + (nI k)) - b)]) rfl rfl rfl (wq_T (c_w32 (((16 : Int32) + (nI k)) - b) h) ?_)
          show wq 97 82 [(8, .int ((16 : Int32) + (nI k))), (7, .int ((16 : Int32) - (nI k))), (0, .ref 158), (1, .ref ra), (2, .int b), (3, .int eo), (4, .int er), (5, .int out), (6, .int (nI k))] [.int (jw (((16 : Int32) + (nI k)) - b)), .int 4, .ref ra] h dc ds _
          cases q6x : jallow ll lg (4 : Int32) (jw (((16 : Int32) + (nI k)) - b)) with
          | false =>
            refine wq_inlv (y2 := 3) (as := [.int 4, .int (jw (((16 : Int32) + (nI k)) - b))]) rfl rfl rfl hA rfl (wq_T (show zT zg0 zF zP 3 0 [(0, .ref ra), (1, .int 4), (2, .int (jw (((16 : Int32) + (nI k)) - b)))] [] h 0 0 (some (.int 0), h, 0, 0) from by have q9 := c_allows hA hL hG (j := (4 : Int32)) rfl (jw (((16 : Int32) + (nI k)) - b)); rw [q6x] at q9; exact q9) ?_)
            show wq 97 85 [(8, .int ((16 : Int32) + (nI k))), (7, .int ((16 : Int32) - (nI k))), (0, .ref 158), (1, .ref ra), (2, .int b), (3, .int eo), (4, .int er), (5, .int out), (6, .int (nI k))] [.int 0] h dc ds _
            refine wq_gos (f := 1) (pc2 := 105) (ls2 := [(6, .int ((nI k) + 1)), (8, .int ((16 : Int32) + (nI k))), (7, .int ((16 : Int32) - (nI k))), (0, .ref 158), (1, .ref ra), (2, .int b), (3, .int eo), (4, .int er), (5, .int out)]) (st2 := []) (h2 := h) (dc2 := dc) (ds2 := ds) 2 rfl ?_
            rw [nI_1]
            refine wq_gos (f := 1) (pc2 := 3) (ls2 := [(6, .int (nI (k + 1))), (8, .int ((16 : Int32) + (nI k))), (7, .int ((16 : Int32) - (nI k))), (0, .ref 158), (1, .ref ra), (2, .int b), (3, .int eo), (4, .int er), (5, .int out)]) (st2 := []) (h2 := h) (dc2 := dc) (ds2 := ds) 1 rfl ?_
            have t0 : hT ll lg hd b eo out (16 - nI k) = false := hT_f2 q4x
            have t1 : hT ll lg hd b eo out (16 + nI k) = false := hT_f2 q6x
            have hx : (hH ll lg hd b eo er out (n + 1) (nI k)) = (hH ll lg hd b eo er out n (nI (k + 1))) := by show (if _ then _ else _) = _; rw [if_neg (by rw [t0, t1]; decide), nI_1]
            rw [hx]
            refine wq_ls [(0, .ref 158), (1, .ref ra), (2, .int b), (3, .int eo), (4, .int er), (5, .int out), (6, .int (nI (k + 1)))] (show ([0, 1, 2, 3, 4, 5, 6] : List Nat).Nodup by decide) ⟨rfl, rfl, rfl, rfl, rfl, rfl, rfl, trivial⟩ ?_
            exact ih (k + 1) dc ds (by omega)
          | true =>
            refine wq_inlv (y2 := 3) (as := [.int 4, .int (jw (((16 : Int32) + (nI k)) - b))]) rfl rfl rfl hA rfl (wq_T (show zT zg0 zF zP 3 0 [(0, .ref ra), (1, .int 4), (2, .int (jw (((16 : Int32) + (nI k)) - b)))] [] h 0 0 (some (.int 1), h, 0, 0) from by have q9 := c_allows hA hL hG (j := (4 : Int32)) rfl (jw (((16 : Int32) + (nI k)) - b)); rw [q6x] at q9; exact q9) ?_)
            show wq 97 85 [(8, .int ((16 : Int32) + (nI k))), (7, .int ((16 : Int32) - (nI k))), (0, .ref 158), (1, .ref ra), (2, .int b), (3, .int eo), (4, .int er), (5, .int out), (6, .int (nI k))] [.int 1] h dc ds _
            refine wq_gos (f := 1) (pc2 := 91) (ls2 := [(8, .int ((16 : Int32) + (nI k))), (7, .int ((16 : Int32) - (nI k))), (0, .ref 158), (1, .ref ra), (2, .int b), (3, .int eo), (4, .int er), (5, .int out), (6, .int (nI k))]) (st2 := [.ref ra, .int er]) (h2 := h) (dc2 := dc) (ds2 := ds) 3 rfl ?_
            refine wq_getf rfl hA rfl rfl ?_
            refine wq_gos (f := 1) (pc2 := 96) (ls2 := [(8, .int ((16 : Int32) + (nI k))), (7, .int ((16 : Int32) - (nI k))), (0, .ref 158), (1, .ref ra), (2, .int b), (3, .int eo), (4, .int er), (5, .int out), (6, .int (nI k))]) (st2 := [.int ((16 : Int32) - (nI k)), .int hd, .int er]) (h2 := h) (dc2 := dc) (ds2 := ds) 1 rfl ?_
            refine wq_inl (y2 := 150) (as := [.int ((16 : Int32) - (nI k))]) rfl rfl rfl (wq_T (c_sin ((16 : Int32) - (nI k)) h) ?_)
            show wq 97 99 [(8, .int ((16 : Int32) + (nI k))), (7, .int ((16 : Int32) - (nI k))), (0, .ref 158), (1, .ref ra), (2, .int b), (3, .int eo), (4, .int er), (5, .int out), (6, .int (nI k))] [.int (jsin ((16 : Int32) - (nI k))), .int hd, .int er] h dc ds _
            refine wq_gos (f := 1) (pc2 := 101) (ls2 := [(8, .int ((16 : Int32) + (nI k))), (7, .int ((16 : Int32) - (nI k))), (0, .ref 158), (1, .ref ra), (2, .int b), (3, .int eo), (4, .int er), (5, .int out), (6, .int (nI k))]) (st2 := [.int (er + (hd * (jsin ((16 : Int32) - (nI k)))))]) (h2 := h) (dc2 := dc) (ds2 := ds) 2 rfl ?_
            have t0 : hT ll lg hd b eo out (16 - nI k) = false := hT_f2 q4x
            have t1 : hT ll lg hd b eo out (16 + nI k) = true := hT_t b5x q6x
            have hx : (hH ll lg hd b eo er out (n + 1) (nI k)) = (er + (hd * (jsin ((16 : Int32) - (nI k))))) := by show (if _ then _ else _) = _; rw [if_pos (by rw [t0, t1]; rfl)]
            rw [hx]
            exact wq_ret rfl rfl rfl
      | true =>
        refine wq_inlv (y2 := 3) (as := [.int 4, .int (jw (((16 : Int32) - (nI k)) - b))]) rfl rfl rfl hA rfl (wq_T (show zT zg0 zF zP 3 0 [(0, .ref ra), (1, .int 4), (2, .int (jw (((16 : Int32) - (nI k)) - b)))] [] h 0 0 (some (.int 1), h, 0, 0) from by have q9 := c_allows hA hL hG (j := (4 : Int32)) rfl (jw (((16 : Int32) - (nI k)) - b)); rw [q4x] at q9; exact q9) ?_)
        show wq 97 53 [(8, .int ((16 : Int32) + (nI k))), (7, .int ((16 : Int32) - (nI k))), (0, .ref 158), (1, .ref ra), (2, .int b), (3, .int eo), (4, .int er), (5, .int out), (6, .int (nI k))] [.int 1] h dc ds _
        refine wq_gos (f := 1) (pc2 := 91) (ls2 := [(8, .int ((16 : Int32) + (nI k))), (7, .int ((16 : Int32) - (nI k))), (0, .ref 158), (1, .ref ra), (2, .int b), (3, .int eo), (4, .int er), (5, .int out), (6, .int (nI k))]) (st2 := [.ref ra, .int er]) (h2 := h) (dc2 := dc) (ds2 := ds) 3 rfl ?_
        refine wq_getf rfl hA rfl rfl ?_
        refine wq_gos (f := 1) (pc2 := 96) (ls2 := [(8, .int ((16 : Int32) + (nI k))), (7, .int ((16 : Int32) - (nI k))), (0, .ref 158), (1, .ref ra), (2, .int b), (3, .int eo), (4, .int er), (5, .int out), (6, .int (nI k))]) (st2 := [.int ((16 : Int32) - (nI k)), .int hd, .int er]) (h2 := h) (dc2 := dc) (ds2 := ds) 1 rfl ?_
        refine wq_inl (y2 := 150) (as := [.int ((16 : Int32) - (nI k))]) rfl rfl rfl (wq_T (c_sin ((16 : Int32) - (nI k)) h) ?_)
        show wq 97 99 [(8, .int ((16 : Int32) + (nI k))), (7, .int ((16 : Int32) - (nI k))), (0, .ref 158), (1, .ref ra), (2, .int b), (3, .int eo), (4, .int er), (5, .int out), (6, .int (nI k))] [.int (jsin ((16 : Int32) - (nI k))), .int hd, .int er] h dc ds _
        refine wq_gos (f := 1) (pc2 := 101) (ls2 := [(8, .int ((16 : Int32) + (nI k))), (7, .int ((16 : Int32) - (nI k))), (0, .ref 158), (1, .ref ra), (2, .int b), (3, .int eo), (4, .int er), (5, .int out), (6, .int (nI k))]) (st2 := [.int (er + (hd * (jsin ((16 : Int32) - (nI k)))))]) (h2 := h) (dc2 := dc) (ds2 := ds) 2 rfl ?_
        have t0 : hT ll lg hd b eo out (16 - nI k) = true := hT_t b1x q4x
        have hx : (hH ll lg hd b eo er out (n + 1) (nI k)) = (er + (hd * (jsin ((16 : Int32) - (nI k))))) := by show (if _ then _ else _) = _; rw [if_pos (by rw [t0]; rfl)]
        rw [hx]
        exact wq_ret rfl rfl rfl
theorem c_hbh {h : zH} {ra rl rg rv rn rp rw : Nat} {lk hd ht bl sd sp so : Int32} {rt : Int64} {ll lg : List Int32} (hA : zat h ra = some (.inr (.inr (.inr (0, [.int lk, .int hd, .int ht, .int bl, .int sd, .long rt, .ref rl, .ref rg, .ref rv, .int sp, .ref rn, .ref rp, .int so, .ref rw]))))) (hL : zat h rl = some (.inl (0, 6, ll))) (hG : zat h rg = some (.inl (0, 6, lg))) (b eo er out : Int32) : zT zg0 zF zP 97 0 [(0, .ref 158), (1, .ref ra), (2, .int b), (3, .int eo), (4, .int er), (5, .int out)] [] h 0 0 (some (.int (hH ll lg hd b eo er out 33 0)), h, 0, 0) := by
  apply wq_toT
  refine wq_gos (f := 1) (pc2 := 3) (ls2 := [(6, .int 0), (0, .ref 158), (1, .ref ra), (2, .int b), (3, .int eo), (4, .int er), (5, .int out)]) (st2 := []) (h2 := h) (dc2 := 0) (ds2 := 0) 2 rfl ?_
  refine wq_ls [(0, .ref 158), (1, .ref ra), (2, .int b), (3, .int eo), (4, .int er), (5, .int out), (6, .int (nI 0))] (show ([0, 1, 2, 3, 4, 5, 6] : List Nat).Nodup by decide) ⟨rfl, rfl, rfl, rfl, rfl, rfl, rfl, trivial⟩ ?_
  exact c_hbhL hA hL hG 33 0 0 0 (by decide)
noncomputable def hIn (ll lg : List Int32) (lk hd ht out a : Int32) : Nat → Int32 → Int32 → Int32
  | 0, _, best => best
  | n + 1, e, best => hIn ll lg lk hd ht out a n (e + 1) (hSt ll lg hd (a + e) (lk * (jcos a + jcos (a + e))) (1000 * ht + lk * (jsin a + jsin (a + e))) out best)
noncomputable def hOu (ll lg : List Int32) (lk hd ht out : Int32) (m : Nat) : Nat → Int32 → Int32 → Int32
  | 0, _, best => best
  | n + 1, a, best => hOu ll lg lk hd ht out m n (a + 1) (hIn ll lg lk hd ht out a m (ll.getD 3 0) best)
set_option maxHeartbeats 4000000 in
theorem c_hiIn {h : zH} {ra rl rg rv rn rp rw : Nat} {lk hd ht bl sd sp so : Int32} {rt : Int64} {ll lg : List Int32} {rsn : Nat} {out a : Int32} {Q : zR → Prop} (hA : zat h ra = some (.inr (.inr (.inr (0, [.int lk, .int hd, .int ht, .int bl, .int sd, .long rt, .ref rl, .ref rg, .ref rv, .int sp, .ref rn, .ref rp, .int so, .ref rw]))))) (hL : zat h rl = some (.inl (0, 6, ll))) (hG : zat h rg = some (.inl (0, 6, lg))) (hSp : zat h 158 = some (.inr (.inr (.inr (8, [.ref rsn]))))) : ∀ (n : Nat) (e best : Int32) (dc ds : Nat), e.toInt + n = (lg.getD 3 0).toInt + 1 → (lg.getD 3 0).toInt ≤ 100 → wq 96 146 [(0, .ref 158), (1, .ref ra), (2, .int out), (3, .int (hIn ll lg lk hd ht out a n e best)), (4, .int a)] [] h dc ds Q → wq 96 30 [(0, .ref 158), (1, .ref ra), (2, .int out), (3, .int best), (4, .int a), (5, .int e)] [] h dc ds Q := by
  intro n
  induction n with
  | zero =>
    intro e best dc ds he h100 kk
    refine wq_gos (f := 1) (pc2 := 33) (ls2 := [(0, .ref 158), (1, .ref ra), (2, .int out), (3, .int best), (4, .int a), (5, .int e)]) (st2 := [.ref ra, .int e]) (h2 := h) (dc2 := dc) (ds2 := ds) 2 rfl ?_
    refine wq_getf rfl hA rfl rfl ?_
    refine wq_gos (f := 1) (pc2 := 37) (ls2 := [(0, .ref 158), (1, .ref ra), (2, .int out), (3, .int best), (4, .int a), (5, .int e)]) (st2 := [.int 3, .ref rg, .int e]) (h2 := h) (dc2 := dc) (ds2 := ds) 1 rfl ?_
    refine wq_ialdk (k := 3) rfl hG rfl rfl rfl ?_
    refine wq_gt2t rfl (by omega) ?_
    refine wq_ls [(0, .ref 158), (1, .ref ra), (2, .int out), (3, .int best), (4, .int a)] (show ([0, 1, 2, 3, 4] : List Nat).Nodup by decide) ⟨rfl, rfl, rfl, rfl, rfl, trivial⟩ ?_
    exact kk
  | succ n ih =>
    intro e best dc ds he h100 kk
    have he2 : (e + 1).toInt = e.toInt + 1 := z_inc (by omega)
    refine wq_gos (f := 1) (pc2 := 33) (ls2 := [(0, .ref 158), (1, .ref ra), (2, .int out), (3, .int best), (4, .int a), (5, .int e)]) (st2 := [.ref ra, .int e]) (h2 := h) (dc2 := dc) (ds2 := ds) 2 rfl ?_
    refine wq_getf rfl hA rfl rfl ?_
    refine wq_gos (f := 1) (pc2 := 37) (ls2 := [(0, .ref 158), (1, .ref ra), (2, .int out), (3, .int best), (4, .int a), (5, .int e)]) (st2 := [.int 3, .ref rg, .int e]) (h2 := h) (dc2 := dc) (ds2 := ds) 1 rfl ?_
    refine wq_ialdk (k := 3) rfl hG rfl rfl rfl ?_
    refine wq_gt2f rfl rfl (by omega) ?_
    refine wq_gos (f := 1) (pc2 := 49) (ls2 := [(6, .int (a + e)), (0, .ref 158), (1, .ref ra), (2, .int out), (3, .int best), (4, .int a), (5, .int e)]) (st2 := [.ref ra]) (h2 := h) (dc2 := dc) (ds2 := ds) 5 rfl ?_
    refine wq_getf rfl hA rfl rfl ?_
    refine wq_gos (f := 1) (pc2 := 54) (ls2 := [(6, .int (a + e)), (0, .ref 158), (1, .ref ra), (2, .int out), (3, .int best), (4, .int a), (5, .int e)]) (st2 := [.int a, .int lk]) (h2 := h) (dc2 := dc) (ds2 := ds) 1 rfl ?_
    refine wq_inl (y2 := 149) (as := [.int a]) rfl rfl rfl (wq_T (c_cos a h) ?_)
    show wq 96 57 [(6, .int (a + e)), (0, .ref 158), (1, .ref ra), (2, .int out), (3, .int best), (4, .int a), (5, .int e)] [.int (jcos a), .int lk] h dc ds _
    refine wq_gos (f := 1) (pc2 := 59) (ls2 := [(6, .int (a + e)), (0, .ref 158), (1, .ref ra), (2, .int out), (3, .int best), (4, .int a), (5, .int e)]) (st2 := [.int (a + e), .int (jcos a), .int lk]) (h2 := h) (dc2 := dc) (ds2 := ds) 1 rfl ?_
    refine wq_inl (y2 := 149) (as := [.int (a + e)]) rfl rfl rfl (wq_T (c_cos (a + e) h) ?_)
    show wq 96 62 [(6, .int (a + e)), (0, .ref 158), (1, .ref ra), (2, .int out), (3, .int best), (4, .int a), (5, .int e)] [.int (jcos (a + e)), .int (jcos a), .int lk] h dc ds _
    refine wq_gos (f := 1) (pc2 := 70) (ls2 := [(7, .int (lk * ((jcos a) + (jcos (a + e))))), (6, .int (a + e)), (0, .ref 158), (1, .ref ra), (2, .int out), (3, .int best), (4, .int a), (5, .int e)]) (st2 := [.ref ra, .int 1000]) (h2 := h) (dc2 := dc) (ds2 := ds) 5 rfl ?_
    refine wq_getf rfl hA rfl rfl ?_
    refine wq_gos (f := 1) (pc2 := 75) (ls2 := [(7, .int (lk * ((jcos a) + (jcos (a + e))))), (6, .int (a + e)), (0, .ref 158), (1, .ref ra), (2, .int out), (3, .int best), (4, .int a), (5, .int e)]) (st2 := [.ref ra, .int ((1000 : Int32) * ht)]) (h2 := h) (dc2 := dc) (ds2 := ds) 2 rfl ?_
    refine wq_getf rfl hA rfl rfl ?_
    refine wq_gos (f := 1) (pc2 := 80) (ls2 := [(7, .int (lk * ((jcos a) + (jcos (a + e))))), (6, .int (a + e)), (0, .ref 158), (1, .ref ra), (2, .int out), (3, .int best), (4, .int a), (5, .int e)]) (st2 := [.int a, .int lk, .int ((1000 : Int32) * ht)]) (h2 := h) (dc2 := dc) (ds2 := ds) 1 rfl ?_
    refine wq_inl (y2 := 150) (as := [.int a]) rfl rfl rfl (wq_T (c_sin a h) ?_)
    show wq 96 83 [(7, .int (lk * ((jcos a) + (jcos (a + e))))), (6, .int (a + e)), (0, .ref 158), (1, .ref ra), (2, .int out), (3, .int best), (4, .int a), (5, .int e)] [.int (jsin a), .int lk, .int ((1000 : Int32) * ht)] h dc ds _
    refine wq_gos (f := 1) (pc2 := 85) (ls2 := [(7, .int (lk * ((jcos a) + (jcos (a + e))))), (6, .int (a + e)), (0, .ref 158), (1, .ref ra), (2, .int out), (3, .int best), (4, .int a), (5, .int e)]) (st2 := [.int (a + e), .int (jsin a), .int lk, .int ((1000 : Int32) * ht)]) (h2 := h) (dc2 := dc) (ds2 := ds) 1 rfl ?_
    refine wq_inl (y2 := 150) (as := [.int (a + e)]) rfl rfl rfl (wq_T (c_sin (a + e) h) ?_)
    show wq 96 88 [(7, .int (lk * ((jcos a) + (jcos (a + e))))), (6, .int (a + e)), (0, .ref 158), (1, .ref ra), (2, .int out), (3, .int best), (4, .int a), (5, .int e)] [.int (jsin (a + e)), .int (jsin a), .int lk, .int ((1000 : Int32) * ht)] h dc ds _
    refine wq_gos (f := 1) (pc2 := 96) (ls2 := [(8, .int (((1000 : Int32) * ht) + (lk * ((jsin a) + (jsin (a + e)))))), (7, .int (lk * ((jcos a) + (jcos (a + e))))), (6, .int (a + e)), (0, .ref 158), (1, .ref ra), (2, .int out), (3, .int best), (4, .int a), (5, .int e)]) (st2 := [.ref ra, .int (lk * ((jcos a) + (jcos (a + e))))]) (h2 := h) (dc2 := dc) (ds2 := ds) 6 rfl ?_
    refine wq_getf rfl hA rfl rfl ?_
    refine wq_gos (f := 1) (pc2 := 105) (ls2 := [(8, .int (((1000 : Int32) * ht) + (lk * ((jsin a) + (jsin (a + e)))))), (7, .int (lk * ((jcos a) + (jcos (a + e))))), (6, .int (a + e)), (0, .ref 158), (1, .ref ra), (2, .int out), (3, .int best), (4, .int a), (5, .int e)]) (st2 := [.int out, .int ((lk * ((jcos a) + (jcos (a + e)))) + (hd * (1000 : Int32)))]) (h2 := h) (dc2 := dc) (ds2 := ds) 4 rfl ?_
    refine wq_lt2 rfl rfl (fun b1x => ?_) (fun b1x => ?_)
    · refine wq_gos (f := 1) (pc2 := 30) (ls2 := [(5, .int (e + 1)), (8, .int (((1000 : Int32) * ht) + (lk * ((jsin a) + (jsin (a + e)))))), (7, .int (lk * ((jcos a) + (jcos (a + e))))), (6, .int (a + e)), (0, .ref 158), (1, .ref ra), (2, .int out), (3, .int best), (4, .int a)]) (st2 := []) (h2 := h) (dc2 := dc) (ds2 := ds) 2 rfl ?_
      have hx : (hIn ll lg lk hd ht out a (n + 1) e best) = (hIn ll lg lk hd ht out a n (e + 1) best) := by show hIn ll lg lk hd ht out a n (e + 1) (hSt _ _ _ _ _ _ _ _) = _; rw [show hSt ll lg hd (a + e) (lk * ((jcos a) + (jcos (a + e)))) (((1000 : Int32) * ht) + (lk * ((jsin a) + (jsin (a + e))))) out best = best by unfold hSt; rw [if_pos b1x]]
      rw [hx] at kk
      refine wq_ls [(0, .ref 158), (1, .ref ra), (2, .int out), (3, .int best), (4, .int a), (5, .int (e + 1))] (show ([0, 1, 2, 3, 4, 5] : List Nat).Nodup by decide) ⟨rfl, rfl, rfl, rfl, rfl, rfl, trivial⟩ ?_
      exact ih (e + 1) best dc ds (by omega) h100 kk
    · refine wq_gos (f := 1) (pc2 := 111) (ls2 := [(8, .int (((1000 : Int32) * ht) + (lk * ((jsin a) + (jsin (a + e)))))), (7, .int (lk * ((jcos a) + (jcos (a + e))))), (6, .int (a + e)), (0, .ref 158), (1, .ref ra), (2, .int out), (3, .int best), (4, .int a), (5, .int e)]) (st2 := [.ref ra, .int (((1000 : Int32) * ht) + (lk * ((jsin a) + (jsin (a + e)))))]) (h2 := h) (dc2 := dc) (ds2 := ds) 2 rfl ?_
      refine wq_getf rfl hA rfl rfl ?_
      refine wq_gos (f := 1) (pc2 := 120) (ls2 := [(8, .int (((1000 : Int32) * ht) + (lk * ((jsin a) + (jsin (a + e)))))), (7, .int (lk * ((jcos a) + (jcos (a + e))))), (6, .int (a + e)), (0, .ref 158), (1, .ref ra), (2, .int out), (3, .int best), (4, .int a), (5, .int e)]) (st2 := [.int best, .int ((((1000 : Int32) * ht) + (lk * ((jsin a) + (jsin (a + e))))) + (hd * (1000 : Int32)))]) (h2 := h) (dc2 := dc) (ds2 := ds) 4 rfl ?_
      refine wq_le2 rfl rfl (fun b2x => ?_) (fun b2x => ?_)
      · refine wq_gos (f := 1) (pc2 := 30) (ls2 := [(5, .int (e + 1)), (8, .int (((1000 : Int32) * ht) + (lk * ((jsin a) + (jsin (a + e)))))), (7, .int (lk * ((jcos a) + (jcos (a + e))))), (6, .int (a + e)), (0, .ref 158), (1, .ref ra), (2, .int out), (3, .int best), (4, .int a)]) (st2 := []) (h2 := h) (dc2 := dc) (ds2 := ds) 2 rfl ?_
        have hx : (hIn ll lg lk hd ht out a (n + 1) e best) = (hIn ll lg lk hd ht out a n (e + 1) best) := by show hIn ll lg lk hd ht out a n (e + 1) (hSt _ _ _ _ _ _ _ _) = _; rw [show hSt ll lg hd (a + e) (lk * ((jcos a) + (jcos (a + e)))) (((1000 : Int32) * ht) + (lk * ((jsin a) + (jsin (a + e))))) out best = best by unfold hSt; rw [if_neg (Int.not_lt.mpr b1x), if_pos b2x]]
        rw [hx] at kk
        refine wq_ls [(0, .ref 158), (1, .ref ra), (2, .int out), (3, .int best), (4, .int a), (5, .int (e + 1))] (show ([0, 1, 2, 3, 4, 5] : List Nat).Nodup by decide) ⟨rfl, rfl, rfl, rfl, rfl, rfl, trivial⟩ ?_
        exact ih (e + 1) best dc ds (by omega) h100 kk
      · refine wq_gos (f := 1) (pc2 := 133) (ls2 := [(8, .int (((1000 : Int32) * ht) + (lk * ((jsin a) + (jsin (a + e)))))), (7, .int (lk * ((jcos a) + (jcos (a + e))))), (6, .int (a + e)), (0, .ref 158), (1, .ref ra), (2, .int out), (3, .int best), (4, .int a), (5, .int e)]) (st2 := [.int out, .int (((1000 : Int32) * ht) + (lk * ((jsin a) + (jsin (a + e))))), .int (lk * ((jcos a) + (jcos (a + e)))), .int (a + e), .ref ra, .ref 158, .int best]) (h2 := h) (dc2 := dc) (ds2 := ds) 7 rfl ?_
        refine wq_inlv (y2 := 97) (as := [.ref ra, .int (a + e), .int (lk * ((jcos a) + (jcos (a + e)))), .int (((1000 : Int32) * ht) + (lk * ((jsin a) + (jsin (a + e))))), .int out]) rfl rfl rfl hSp rfl (wq_T (c_hbh hA hL hG (a + e) (lk * ((jcos a) + (jcos (a + e)))) (((1000 : Int32) * ht) + (lk * ((jsin a) + (jsin (a + e))))) out) ?_)
        show wq 96 136 [(8, .int (((1000 : Int32) * ht) + (lk * ((jsin a) + (jsin (a + e)))))), (7, .int (lk * ((jcos a) + (jcos (a + e))))), (6, .int (a + e)), (0, .ref 158), (1, .ref ra), (2, .int out), (3, .int best), (4, .int a), (5, .int e)] [.int (hH ll lg hd (a + e) (lk * ((jcos a) + (jcos (a + e)))) (((1000 : Int32) * ht) + (lk * ((jsin a) + (jsin (a + e))))) out 33 0), .int best] h dc ds _
        refine wq_inl (y2 := 284) (as := [.int best, .int (hH ll lg hd (a + e) (lk * ((jcos a) + (jcos (a + e)))) (((1000 : Int32) * ht) + (lk * ((jsin a) + (jsin (a + e))))) out 33 0)]) rfl rfl rfl (wq_T (c_max best (hH ll lg hd (a + e) (lk * ((jcos a) + (jcos (a + e)))) (((1000 : Int32) * ht) + (lk * ((jsin a) + (jsin (a + e))))) out 33 0) h) ?_)
        show wq 96 139 [(8, .int (((1000 : Int32) * ht) + (lk * ((jsin a) + (jsin (a + e)))))), (7, .int (lk * ((jcos a) + (jcos (a + e))))), (6, .int (a + e)), (0, .ref 158), (1, .ref ra), (2, .int out), (3, .int best), (4, .int a), (5, .int e)] [.int (jmax best (hH ll lg hd (a + e) (lk * ((jcos a) + (jcos (a + e)))) (((1000 : Int32) * ht) + (lk * ((jsin a) + (jsin (a + e))))) out 33 0))] h dc ds _
        refine wq_gos (f := 1) (pc2 := 30) (ls2 := [(5, .int (e + 1)), (3, .int (jmax best (hH ll lg hd (a + e) (lk * ((jcos a) + (jcos (a + e)))) (((1000 : Int32) * ht) + (lk * ((jsin a) + (jsin (a + e))))) out 33 0))), (8, .int (((1000 : Int32) * ht) + (lk * ((jsin a) + (jsin (a + e)))))), (7, .int (lk * ((jcos a) + (jcos (a + e))))), (6, .int (a + e)), (0, .ref 158), (1, .ref ra), (2, .int out), (4, .int a)]) (st2 := []) (h2 := h) (dc2 := dc) (ds2 := ds) 3 rfl ?_
        have hx : (hIn ll lg lk hd ht out a (n + 1) e best) = (hIn ll lg lk hd ht out a n (e + 1) (jmax best (hH ll lg hd (a + e) (lk * ((jcos a) + (jcos (a + e)))) (((1000 : Int32) * ht) + (lk * ((jsin a) + (jsin (a + e))))) out 33 0))) := by show hIn ll lg lk hd ht out a n (e + 1) (hSt _ _ _ _ _ _ _ _) = _; rw [show hSt ll lg hd (a + e) (lk * ((jcos a) + (jcos (a + e)))) (((1000 : Int32) * ht) + (lk * ((jsin a) + (jsin (a + e))))) out best = (jmax best (hH ll lg hd (a + e) (lk * ((jcos a) + (jcos (a + e)))) (((1000 : Int32) * ht) + (lk * ((jsin a) + (jsin (a + e))))) out 33 0)) by unfold hSt; rw [if_neg (Int.not_lt.mpr b1x), if_neg (Int.not_le.mpr b2x)]]
        rw [hx] at kk
        refine wq_ls [(0, .ref 158), (1, .ref ra), (2, .int out), (3, .int (jmax best (hH ll lg hd (a + e) (lk * ((jcos a) + (jcos (a + e)))) (((1000 : Int32) * ht) + (lk * ((jsin a) + (jsin (a + e))))) out 33 0))), (4, .int a), (5, .int (e + 1))] (show ([0, 1, 2, 3, 4, 5] : List Nat).Nodup by decide) ⟨rfl, rfl, rfl, rfl, rfl, rfl, trivial⟩ ?_
        exact ih (e + 1) (jmax best (hH ll lg hd (a + e) (lk * ((jcos a) + (jcos (a + e)))) (((1000 : Int32) * ht) + (lk * ((jsin a) + (jsin (a + e))))) out 33 0)) dc ds (by omega) h100 kk
set_option maxHeartbeats 4000000 in
theorem c_hiOu {h : zH} {ra rl rg rv rn rp rw : Nat} {lk hd ht bl sd sp so : Int32} {rt : Int64} {ll lg : List Int32} {rsn m : Nat} {out : Int32} (hA : zat h ra = some (.inr (.inr (.inr (0, [.int lk, .int hd, .int ht, .int bl, .int sd, .long rt, .ref rl, .ref rg, .ref rv, .int sp, .ref rn, .ref rp, .int so, .ref rw]))))) (hL : zat h rl = some (.inl (0, 6, ll))) (hG : zat h rg = some (.inl (0, 6, lg))) (hSp : zat h 158 = some (.inr (.inr (.inr (8, [.ref rsn]))))) (hm : (ll.getD 3 0).toInt + m = (lg.getD 3 0).toInt + 1) (h100 : (lg.getD 3 0).toInt ≤ 100) : ∀ (n : Nat) (a best : Int32) (dc ds : Nat), a.toInt + n = (lg.getD 2 0).toInt + 1 → (lg.getD 2 0).toInt ≤ 100 → wq 96 11 [(0, .ref 158), (1, .ref ra), (2, .int out), (3, .int best), (4, .int a)] [] h dc ds (fun r => r = (some (.int (hOu ll lg lk hd ht out m n a best)), h, dc, ds)) := by
  intro n
  induction n with
  | zero =>
    intro a best dc ds ha h1
    refine wq_gos (f := 1) (pc2 := 14) (ls2 := [(0, .ref 158), (1, .ref ra), (2, .int out), (3, .int best), (4, .int a)]) (st2 := [.ref ra, .int a]) (h2 := h) (dc2 := dc) (ds2 := ds) 2 rfl ?_
    refine wq_getf rfl hA rfl rfl ?_
    refine wq_gos (f := 1) (pc2 := 18) (ls2 := [(0, .ref 158), (1, .ref ra), (2, .int out), (3, .int best), (4, .int a)]) (st2 := [.int 2, .ref rg, .int a]) (h2 := h) (dc2 := dc) (ds2 := ds) 1 rfl ?_
    refine wq_ialdk (k := 2) rfl hG rfl rfl rfl ?_
    refine wq_gt2t rfl (by omega) ?_
    refine wq_gos (f := 1) (pc2 := 153) (ls2 := [(0, .ref 158), (1, .ref ra), (2, .int out), (3, .int best), (4, .int a)]) (st2 := [.int best]) (h2 := h) (dc2 := dc) (ds2 := ds) 1 rfl ?_
    exact wq_ret rfl rfl rfl
  | succ n ih =>
    intro a best dc ds ha h1
    have ha2 : (a + 1).toInt = a.toInt + 1 := z_inc (by omega)
    refine wq_gos (f := 1) (pc2 := 14) (ls2 := [(0, .ref 158), (1, .ref ra), (2, .int out), (3, .int best), (4, .int a)]) (st2 := [.ref ra, .int a]) (h2 := h) (dc2 := dc) (ds2 := ds) 2 rfl ?_
    refine wq_getf rfl hA rfl rfl ?_
    refine wq_gos (f := 1) (pc2 := 18) (ls2 := [(0, .ref 158), (1, .ref ra), (2, .int out), (3, .int best), (4, .int a)]) (st2 := [.int 2, .ref rg, .int a]) (h2 := h) (dc2 := dc) (ds2 := ds) 1 rfl ?_
    refine wq_ialdk (k := 2) rfl hG rfl rfl rfl ?_
    refine wq_gt2f rfl rfl (by omega) ?_
    refine wq_gos (f := 1) (pc2 := 23) (ls2 := [(0, .ref 158), (1, .ref ra), (2, .int out), (3, .int best), (4, .int a)]) (st2 := [.ref ra]) (h2 := h) (dc2 := dc) (ds2 := ds) 1 rfl ?_
    refine wq_getf rfl hA rfl rfl ?_
    refine wq_gos (f := 1) (pc2 := 27) (ls2 := [(0, .ref 158), (1, .ref ra), (2, .int out), (3, .int best), (4, .int a)]) (st2 := [.int 3, .ref rl]) (h2 := h) (dc2 := dc) (ds2 := ds) 1 rfl ?_
    refine wq_ialdk (k := 3) rfl hL rfl rfl rfl ?_
    refine wq_gos (f := 1) (pc2 := 30) (ls2 := [(5, .int (ll.getD 3 0)), (0, .ref 158), (1, .ref ra), (2, .int out), (3, .int best), (4, .int a)]) (st2 := []) (h2 := h) (dc2 := dc) (ds2 := ds) 1 rfl ?_
    refine wq_ls [(0, .ref 158), (1, .ref ra), (2, .int out), (3, .int best), (4, .int a), (5, .int (ll.getD 3 0))] (show ([0, 1, 2, 3, 4, 5] : List Nat).Nodup by decide) ⟨rfl, rfl, rfl, rfl, rfl, rfl, trivial⟩ ?_
    refine c_hiIn hA hL hG hSp m (ll.getD 3 0) best dc ds hm h100 ?_
    refine wq_gos (f := 1) (pc2 := 11) (ls2 := [(4, .int (a + 1)), (0, .ref 158), (1, .ref ra), (2, .int out), (3, .int (hIn ll lg lk hd ht out a m (ll.getD 3 0) best))]) (st2 := []) (h2 := h) (dc2 := dc) (ds2 := ds) 2 rfl ?_
    show wq _ _ _ _ _ _ _ (fun r => r = (some (.int (hOu ll lg lk hd ht out m n (a + 1) (hIn ll lg lk hd ht out a m (ll.getD 3 0) best))), h, dc, ds))
    refine wq_ls [(0, .ref 158), (1, .ref ra), (2, .int out), (3, .int (hIn ll lg lk hd ht out a m (ll.getD 3 0) best)), (4, .int (a + 1))] (show ([0, 1, 2, 3, 4] : List Nat).Nodup by decide) ⟨rfl, rfl, rfl, rfl, rfl, trivial⟩ ?_
    exact ih (a + 1) (hIn ll lg lk hd ht out a m (ll.getD 3 0) best) dc ds (by omega) h1
noncomputable def hRe (lo : List Int32) (lk hd ht out a : Int32) (mw : Nat) : Nat → Int32 → Int32 → Int32
  | 0, _, most => most
  | n + 1, e, most => hRe lo lk hd ht out a mw n (e + 1) (hW hd (a + e) (lk * (jcos a + jcos (a + e))) (1000 * ht + lk * (jsin a + jsin (a + e))) out mw (lo.getD 4 0) most)
noncomputable def hRa (lo : List Int32) (lk hd ht out : Int32) (me mw : Nat) : Nat → Int32 → Int32 → Int32
  | 0, _, most => most
  | n + 1, a, most => hRa lo lk hd ht out me mw n (a + 1) (hRe lo lk hd ht out a mw me (lo.getD 3 0) most)
set_option maxHeartbeats 4000000 in
theorem m_hiW {h : zH} {fs : List Value} {kn lo hi : List Int32} {out a e : Int32} {Q : zR → Prop} (hM : zat h 162 = some (.inr (.inr (.inr (10, fs))))) (hC : mC fs) (hK : zat h 166 = some (.inl (0, 14, kn))) (hO : zat h 168 = some (.inl (0, 12, lo))) (hG : zat h 170 = some (.inl (0, 12, hi))) : ∀ (n : Nat) (w most : Int32) (dc ds : Nat), w.toInt + n = (hi.getD 4 0).toInt + 1 → (hi.getD 4 0).toInt ≤ 100 → wq 277 122 [(0, .ref 162), (1, .int out), (2, .int (hW (kn.getD 1 0) (a + e) ((kn.getD 0 0) * ((jcos a) + (jcos (a + e)))) (((1000 : Int32) * (kn.getD 2 0)) + ((kn.getD 0 0) * ((jsin a) + (jsin (a + e))))) out n w most)), (3, .int a), (4, .int e)] [] h dc ds Q → wq 277 53 [(0, .ref 162), (1, .int out), (2, .int most), (3, .int a), (4, .int e), (5, .int w)] [] h dc ds Q := by
  intro n
  induction n with
  | zero =>
    intro w most dc ds hw h100 kk
    refine wq_gos (f := 1) (pc2 := 56) (ls2 := [(0, .ref 162), (1, .int out), (2, .int most), (3, .int a), (4, .int e), (5, .int w)]) (st2 := [.ref 162, .int w]) (h2 := h) (dc2 := dc) (ds2 := ds) 2 rfl ?_
    refine wq_getf rfl hM (hC.2 (5, 170) (by decide)) rfl ?_
    refine wq_gos (f := 1) (pc2 := 60) (ls2 := [(0, .ref 162), (1, .int out), (2, .int most), (3, .int a), (4, .int e), (5, .int w)]) (st2 := [.int 4, .ref 170, .int w]) (h2 := h) (dc2 := dc) (ds2 := ds) 1 rfl ?_
    refine wq_ialdk (k := 4) rfl hG rfl rfl rfl ?_
    refine wq_gt2t rfl (by omega) ?_
    refine wq_ls [(0, .ref 162), (1, .int out), (2, .int most), (3, .int a), (4, .int e)] (show ([0, 1, 2, 3, 4] : List Nat).Nodup by decide) ⟨rfl, rfl, rfl, rfl, rfl, trivial⟩ ?_
    exact kk
  | succ n ih =>
    intro w most dc ds hw h100 kk
    have hw2 : (w + 1).toInt = w.toInt + 1 := z_inc (by omega)
    refine wq_gos (f := 1) (pc2 := 56) (ls2 := [(0, .ref 162), (1, .int out), (2, .int most), (3, .int a), (4, .int e), (5, .int w)]) (st2 := [.ref 162, .int w]) (h2 := h) (dc2 := dc) (ds2 := ds) 2 rfl ?_
    refine wq_getf rfl hM (hC.2 (5, 170) (by decide)) rfl ?_
    refine wq_gos (f := 1) (pc2 := 60) (ls2 := [(0, .ref 162), (1, .int out), (2, .int most), (3, .int a), (4, .int e), (5, .int w)]) (st2 := [.int 4, .ref 170, .int w]) (h2 := h) (dc2 := dc) (ds2 := ds) 1 rfl ?_
    refine wq_ialdk (k := 4) rfl hG rfl rfl rfl ?_
    refine wq_gt2f rfl rfl (by omega) ?_
    refine wq_gos (f := 1) (pc2 := 79) (ls2 := [(6, .int (a + e)), (0, .ref 162), (1, .int out), (2, .int most), (3, .int a), (4, .int e), (5, .int w)]) (st2 := [.int ((a + e) + w), .int (a + e), .int a, .ref 162]) (h2 := h) (dc2 := dc) (ds2 := ds) 10 rfl ?_
    refine wq_inlv (y2 := 197) (as := [.int a, .int (a + e), .int ((a + e) + w)]) rfl rfl rfl hM rfl (wq_T (c_outBy hM (hC.2 (3, 166) (by decide)) (hC.2 (4, 168) (by decide)) (hC.2 (5, 170) (by decide)) hK hO hG a (a + e) ((a + e) + w)) ?_)
    show wq 277 82 [(6, .int (a + e)), (0, .ref 162), (1, .int out), (2, .int most), (3, .int a), (4, .int e), (5, .int w)] [.int (jout (kn.getD 0 0) (kn.getD 1 0) a (a + e) ((a + e) + w))] h dc ds _
    refine wq_gos (f := 1) (pc2 := 83) (ls2 := [(6, .int (a + e)), (0, .ref 162), (1, .int out), (2, .int most), (3, .int a), (4, .int e), (5, .int w)]) (st2 := [.int out, .int (jout (kn.getD 0 0) (kn.getD 1 0) a (a + e) ((a + e) + w))]) (h2 := h) (dc2 := dc) (ds2 := ds) 1 rfl ?_
    refine wq_ge2 rfl rfl (fun b1x => ?_) (fun b1x => ?_)
    · refine wq_gos (f := 1) (pc2 := 98) (ls2 := [(6, .int (a + e)), (0, .ref 162), (1, .int out), (2, .int most), (3, .int a), (4, .int e), (5, .int w)]) (st2 := [.int ((a + e) + w), .int (a + e), .int a, .ref 162]) (h2 := h) (dc2 := dc) (ds2 := ds) 6 rfl ?_
      refine wq_inlv (y2 := 198) (as := [.int a, .int (a + e), .int ((a + e) + w)]) rfl rfl rfl hM rfl (wq_T (c_heightBy hM (hC.2 (3, 166) (by decide)) (hC.2 (4, 168) (by decide)) (hC.2 (5, 170) (by decide)) hK hO hG a (a + e) ((a + e) + w)) ?_)
      show wq 277 101 [(6, .int (a + e)), (0, .ref 162), (1, .int out), (2, .int most), (3, .int a), (4, .int e), (5, .int w)] [.int (jhgt (kn.getD 2 0) (kn.getD 0 0) (kn.getD 1 0) a (a + e) ((a + e) + w))] h dc ds _
      refine wq_gos (f := 1) (pc2 := 106) (ls2 := [(7, .int (jhgt (kn.getD 2 0) (kn.getD 0 0) (kn.getD 1 0) a (a + e) ((a + e) + w))), (6, .int (a + e)), (0, .ref 162), (1, .int out), (2, .int most), (3, .int a), (4, .int e), (5, .int w)]) (st2 := [.int most, .int (jhgt (kn.getD 2 0) (kn.getD 0 0) (kn.getD 1 0) a (a + e) ((a + e) + w))]) (h2 := h) (dc2 := dc) (ds2 := ds) 3 rfl ?_
      refine wq_le2 rfl rfl (fun b2x => ?_) (fun b2x => ?_)
      · refine wq_gos (f := 1) (pc2 := 53) (ls2 := [(5, .int (w + 1)), (2, .int most), (7, .int (jhgt (kn.getD 2 0) (kn.getD 0 0) (kn.getD 1 0) a (a + e) ((a + e) + w))), (6, .int (a + e)), (0, .ref 162), (1, .int out), (3, .int a), (4, .int e)]) (st2 := []) (h2 := h) (dc2 := dc) (ds2 := ds) 4 rfl ?_
        have hx : (hW (kn.getD 1 0) (a + e) ((kn.getD 0 0) * ((jcos a) + (jcos (a + e)))) (((1000 : Int32) * (kn.getD 2 0)) + ((kn.getD 0 0) * ((jsin a) + (jsin (a + e))))) out (n + 1) w most) = (hW (kn.getD 1 0) (a + e) ((kn.getD 0 0) * ((jcos a) + (jcos (a + e)))) (((1000 : Int32) * (kn.getD 2 0)) + ((kn.getD 0 0) * ((jsin a) + (jsin (a + e))))) out n (w + 1) most) := by show hW _ _ _ _ _ n (w + 1) (if (jout (kn.getD 0 0) (kn.getD 1 0) a (a + e) (a + e + w)).toInt < out.toInt then most else (if (jhgt (kn.getD 2 0) (kn.getD 0 0) (kn.getD 1 0) a (a + e) (a + e + w)).toInt ≤ most.toInt then most else (jhgt (kn.getD 2 0) (kn.getD 0 0) (kn.getD 1 0) a (a + e) (a + e + w)))) = _; rw [if_neg (Int.not_lt.mpr b1x), if_pos b2x]
        rw [hx] at kk
        refine wq_ls [(0, .ref 162), (1, .int out), (2, .int most), (3, .int a), (4, .int e), (5, .int (w + 1))] (show ([0, 1, 2, 3, 4, 5] : List Nat).Nodup by decide) ⟨rfl, rfl, rfl, rfl, rfl, rfl, trivial⟩ ?_
        exact ih (w + 1) most dc ds (by omega) h100 kk
      · refine wq_gos (f := 1) (pc2 := 53) (ls2 := [(5, .int (w + 1)), (2, .int (jhgt (kn.getD 2 0) (kn.getD 0 0) (kn.getD 1 0) a (a + e) ((a + e) + w))), (7, .int (jhgt (kn.getD 2 0) (kn.getD 0 0) (kn.getD 1 0) a (a + e) ((a + e) + w))), (6, .int (a + e)), (0, .ref 162), (1, .int out), (3, .int a), (4, .int e)]) (st2 := []) (h2 := h) (dc2 := dc) (ds2 := ds) 5 rfl ?_
        have hx : (hW (kn.getD 1 0) (a + e) ((kn.getD 0 0) * ((jcos a) + (jcos (a + e)))) (((1000 : Int32) * (kn.getD 2 0)) + ((kn.getD 0 0) * ((jsin a) + (jsin (a + e))))) out (n + 1) w most) = (hW (kn.getD 1 0) (a + e) ((kn.getD 0 0) * ((jcos a) + (jcos (a + e)))) (((1000 : Int32) * (kn.getD 2 0)) + ((kn.getD 0 0) * ((jsin a) + (jsin (a + e))))) out n (w + 1) (jhgt (kn.getD 2 0) (kn.getD 0 0) (kn.getD 1 0) a (a + e) ((a + e) + w))) := by show hW _ _ _ _ _ n (w + 1) (if (jout (kn.getD 0 0) (kn.getD 1 0) a (a + e) (a + e + w)).toInt < out.toInt then most else (if (jhgt (kn.getD 2 0) (kn.getD 0 0) (kn.getD 1 0) a (a + e) (a + e + w)).toInt ≤ most.toInt then most else (jhgt (kn.getD 2 0) (kn.getD 0 0) (kn.getD 1 0) a (a + e) (a + e + w)))) = _; rw [if_neg (Int.not_lt.mpr b1x), if_neg (Int.not_le.mpr b2x)]
        rw [hx] at kk
        refine wq_ls [(0, .ref 162), (1, .int out), (2, .int (jhgt (kn.getD 2 0) (kn.getD 0 0) (kn.getD 1 0) a (a + e) ((a + e) + w))), (3, .int a), (4, .int e), (5, .int (w + 1))] (show ([0, 1, 2, 3, 4, 5] : List Nat).Nodup by decide) ⟨rfl, rfl, rfl, rfl, rfl, rfl, trivial⟩ ?_
        exact ih (w + 1) (jhgt (kn.getD 2 0) (kn.getD 0 0) (kn.getD 1 0) a (a + e) ((a + e) + w)) dc ds (by omega) h100 kk
    · refine wq_gos (f := 1) (pc2 := 53) (ls2 := [(5, .int (w + 1)), (6, .int (a + e)), (0, .ref 162), (1, .int out), (2, .int most), (3, .int a), (4, .int e)]) (st2 := []) (h2 := h) (dc2 := dc) (ds2 := ds) 3 rfl ?_
      have hx : (hW (kn.getD 1 0) (a + e) ((kn.getD 0 0) * ((jcos a) + (jcos (a + e)))) (((1000 : Int32) * (kn.getD 2 0)) + ((kn.getD 0 0) * ((jsin a) + (jsin (a + e))))) out (n + 1) w most) = (hW (kn.getD 1 0) (a + e) ((kn.getD 0 0) * ((jcos a) + (jcos (a + e)))) (((1000 : Int32) * (kn.getD 2 0)) + ((kn.getD 0 0) * ((jsin a) + (jsin (a + e))))) out n (w + 1) most) := by show hW _ _ _ _ _ n (w + 1) (if (jout (kn.getD 0 0) (kn.getD 1 0) a (a + e) (a + e + w)).toInt < out.toInt then most else (if (jhgt (kn.getD 2 0) (kn.getD 0 0) (kn.getD 1 0) a (a + e) (a + e + w)).toInt ≤ most.toInt then most else (jhgt (kn.getD 2 0) (kn.getD 0 0) (kn.getD 1 0) a (a + e) (a + e + w)))) = _; rw [if_pos b1x]
      rw [hx] at kk
      refine wq_ls [(0, .ref 162), (1, .int out), (2, .int most), (3, .int a), (4, .int e), (5, .int (w + 1))] (show ([0, 1, 2, 3, 4, 5] : List Nat).Nodup by decide) ⟨rfl, rfl, rfl, rfl, rfl, rfl, trivial⟩ ?_
      exact ih (w + 1) most dc ds (by omega) h100 kk
set_option maxHeartbeats 4000000 in
theorem m_hiE {h : zH} {fs : List Value} {kn lo hi : List Int32} {mw : Nat} {out a : Int32} {Q : zR → Prop} (hM : zat h 162 = some (.inr (.inr (.inr (10, fs))))) (hC : mC fs) (hK : zat h 166 = some (.inl (0, 14, kn))) (hO : zat h 168 = some (.inl (0, 12, lo))) (hG : zat h 170 = some (.inl (0, 12, hi))) (hmw : (lo.getD 4 0).toInt + mw = (hi.getD 4 0).toInt + 1) (h4 : (hi.getD 4 0).toInt ≤ 100) : ∀ (n : Nat) (e most : Int32) (dc ds : Nat), e.toInt + n = (hi.getD 3 0).toInt + 1 → (hi.getD 3 0).toInt ≤ 100 → wq 277 128 [(0, .ref 162), (1, .int out), (2, .int (hRe lo (kn.getD 0 0) (kn.getD 1 0) (kn.getD 2 0) out a mw n e most)), (3, .int a)] [] h dc ds Q → wq 277 34 [(0, .ref 162), (1, .int out), (2, .int most), (3, .int a), (4, .int e)] [] h dc ds Q := by
  intro n
  induction n with
  | zero =>
    intro e most dc ds he h100 kk
    refine wq_gos (f := 1) (pc2 := 37) (ls2 := [(0, .ref 162), (1, .int out), (2, .int most), (3, .int a), (4, .int e)]) (st2 := [.ref 162, .int e]) (h2 := h) (dc2 := dc) (ds2 := ds) 2 rfl ?_
    refine wq_getf rfl hM (hC.2 (5, 170) (by decide)) rfl ?_
    refine wq_gos (f := 1) (pc2 := 41) (ls2 := [(0, .ref 162), (1, .int out), (2, .int most), (3, .int a), (4, .int e)]) (st2 := [.int 3, .ref 170, .int e]) (h2 := h) (dc2 := dc) (ds2 := ds) 1 rfl ?_
    refine wq_ialdk (k := 3) rfl hG rfl rfl rfl ?_
    refine wq_gt2t rfl (by omega) ?_
    refine wq_ls [(0, .ref 162), (1, .int out), (2, .int most), (3, .int a)] (show ([0, 1, 2, 3] : List Nat).Nodup by decide) ⟨rfl, rfl, rfl, rfl, trivial⟩ ?_
    exact kk
  | succ n ih =>
    intro e most dc ds he h100 kk
    have he2 : (e + 1).toInt = e.toInt + 1 := z_inc (by omega)
    refine wq_gos (f := 1) (pc2 := 37) (ls2 := [(0, .ref 162), (1, .int out), (2, .int most), (3, .int a), (4, .int e)]) (st2 := [.ref 162, .int e]) (h2 := h) (dc2 := dc) (ds2 := ds) 2 rfl ?_
    refine wq_getf rfl hM (hC.2 (5, 170) (by decide)) rfl ?_
    refine wq_gos (f := 1) (pc2 := 41) (ls2 := [(0, .ref 162), (1, .int out), (2, .int most), (3, .int a), (4, .int e)]) (st2 := [.int 3, .ref 170, .int e]) (h2 := h) (dc2 := dc) (ds2 := ds) 1 rfl ?_
    refine wq_ialdk (k := 3) rfl hG rfl rfl rfl ?_
    refine wq_gt2f rfl rfl (by omega) ?_
    refine wq_gos (f := 1) (pc2 := 46) (ls2 := [(0, .ref 162), (1, .int out), (2, .int most), (3, .int a), (4, .int e)]) (st2 := [.ref 162]) (h2 := h) (dc2 := dc) (ds2 := ds) 1 rfl ?_
    refine wq_getf rfl hM (hC.2 (4, 168) (by decide)) rfl ?_
    refine wq_gos (f := 1) (pc2 := 50) (ls2 := [(0, .ref 162), (1, .int out), (2, .int most), (3, .int a), (4, .int e)]) (st2 := [.int 4, .ref 168]) (h2 := h) (dc2 := dc) (ds2 := ds) 1 rfl ?_
    refine wq_ialdk (k := 4) rfl hO rfl rfl rfl ?_
    refine wq_gos (f := 1) (pc2 := 53) (ls2 := [(5, .int (lo.getD 4 0)), (0, .ref 162), (1, .int out), (2, .int most), (3, .int a), (4, .int e)]) (st2 := []) (h2 := h) (dc2 := dc) (ds2 := ds) 1 rfl ?_
    refine wq_ls [(0, .ref 162), (1, .int out), (2, .int most), (3, .int a), (4, .int e), (5, .int (lo.getD 4 0))] (show ([0, 1, 2, 3, 4, 5] : List Nat).Nodup by decide) ⟨rfl, rfl, rfl, rfl, rfl, rfl, trivial⟩ ?_
    refine m_hiW hM hC hK hO hG mw (lo.getD 4 0) most dc ds hmw h4 ?_
    refine wq_gos (f := 1) (pc2 := 34) (ls2 := [(4, .int (e + 1)), (0, .ref 162), (1, .int out), (2, .int (hW (kn.getD 1 0) (a + e) ((kn.getD 0 0) * ((jcos a) + (jcos (a + e)))) (((1000 : Int32) * (kn.getD 2 0)) + ((kn.getD 0 0) * ((jsin a) + (jsin (a + e))))) out mw (lo.getD 4 0) most)), (3, .int a)]) (st2 := []) (h2 := h) (dc2 := dc) (ds2 := ds) 2 rfl ?_
    have hx : (hRe lo (kn.getD 0 0) (kn.getD 1 0) (kn.getD 2 0) out a mw (n + 1) e most) = (hRe lo (kn.getD 0 0) (kn.getD 1 0) (kn.getD 2 0) out a mw n (e + 1) (hW (kn.getD 1 0) (a + e) ((kn.getD 0 0) * ((jcos a) + (jcos (a + e)))) (((1000 : Int32) * (kn.getD 2 0)) + ((kn.getD 0 0) * ((jsin a) + (jsin (a + e))))) out mw (lo.getD 4 0) most)) := rfl
    rw [hx] at kk
    refine wq_ls [(0, .ref 162), (1, .int out), (2, .int (hW (kn.getD 1 0) (a + e) ((kn.getD 0 0) * ((jcos a) + (jcos (a + e)))) (((1000 : Int32) * (kn.getD 2 0)) + ((kn.getD 0 0) * ((jsin a) + (jsin (a + e))))) out mw (lo.getD 4 0) most)), (3, .int a), (4, .int (e + 1))] (show ([0, 1, 2, 3, 4] : List Nat).Nodup by decide) ⟨rfl, rfl, rfl, rfl, rfl, trivial⟩ ?_
    exact ih (e + 1) (hW (kn.getD 1 0) (a + e) ((kn.getD 0 0) * ((jcos a) + (jcos (a + e)))) (((1000 : Int32) * (kn.getD 2 0)) + ((kn.getD 0 0) * ((jsin a) + (jsin (a + e))))) out mw (lo.getD 4 0) most) dc ds (by omega) h100 kk
set_option maxHeartbeats 4000000 in
theorem m_hiA {h : zH} {fs : List Value} {kn lo hi : List Int32} {me mw : Nat} {out : Int32} (hM : zat h 162 = some (.inr (.inr (.inr (10, fs))))) (hC : mC fs) (hK : zat h 166 = some (.inl (0, 14, kn))) (hO : zat h 168 = some (.inl (0, 12, lo))) (hG : zat h 170 = some (.inl (0, 12, hi))) (hme : (lo.getD 3 0).toInt + me = (hi.getD 3 0).toInt + 1) (h3 : (hi.getD 3 0).toInt ≤ 100) (hmw : (lo.getD 4 0).toInt + mw = (hi.getD 4 0).toInt + 1) (h4 : (hi.getD 4 0).toInt ≤ 100) : ∀ (n : Nat) (a most : Int32) (dc ds : Nat), a.toInt + n = (hi.getD 2 0).toInt + 1 → (hi.getD 2 0).toInt ≤ 100 → wq 277 16 [(0, .ref 162), (1, .int out), (2, .int most), (3, .int a)] [] h dc ds (fun r => r = (some (.int (hRa lo (kn.getD 0 0) (kn.getD 1 0) (kn.getD 2 0) out me mw n a most)), h, dc, ds)) := by
  intro n
  induction n with
  | zero =>
    intro a most dc ds ha h1
    refine wq_gos (f := 1) (pc2 := 18) (ls2 := [(0, .ref 162), (1, .int out), (2, .int most), (3, .int a)]) (st2 := [.ref 162, .int a]) (h2 := h) (dc2 := dc) (ds2 := ds) 2 rfl ?_
    refine wq_getf rfl hM (hC.2 (5, 170) (by decide)) rfl ?_
    refine wq_gos (f := 1) (pc2 := 22) (ls2 := [(0, .ref 162), (1, .int out), (2, .int most), (3, .int a)]) (st2 := [.int 2, .ref 170, .int a]) (h2 := h) (dc2 := dc) (ds2 := ds) 1 rfl ?_
    refine wq_ialdk (k := 2) rfl hG rfl rfl rfl ?_
    refine wq_gt2t rfl (by omega) ?_
    refine wq_gos (f := 1) (pc2 := 135) (ls2 := [(0, .ref 162), (1, .int out), (2, .int most), (3, .int a)]) (st2 := [.int most]) (h2 := h) (dc2 := dc) (ds2 := ds) 1 rfl ?_
    exact wq_ret rfl rfl rfl
  | succ n ih =>
    intro a most dc ds ha h1
    have ha2 : (a + 1).toInt = a.toInt + 1 := z_inc (by omega)
    refine wq_gos (f := 1) (pc2 := 18) (ls2 := [(0, .ref 162), (1, .int out), (2, .int most), (3, .int a)]) (st2 := [.ref 162, .int a]) (h2 := h) (dc2 := dc) (ds2 := ds) 2 rfl ?_
    refine wq_getf rfl hM (hC.2 (5, 170) (by decide)) rfl ?_
    refine wq_gos (f := 1) (pc2 := 22) (ls2 := [(0, .ref 162), (1, .int out), (2, .int most), (3, .int a)]) (st2 := [.int 2, .ref 170, .int a]) (h2 := h) (dc2 := dc) (ds2 := ds) 1 rfl ?_
    refine wq_ialdk (k := 2) rfl hG rfl rfl rfl ?_
    refine wq_gt2f rfl rfl (by omega) ?_
    refine wq_gos (f := 1) (pc2 := 27) (ls2 := [(0, .ref 162), (1, .int out), (2, .int most), (3, .int a)]) (st2 := [.ref 162]) (h2 := h) (dc2 := dc) (ds2 := ds) 1 rfl ?_
    refine wq_getf rfl hM (hC.2 (4, 168) (by decide)) rfl ?_
    refine wq_gos (f := 1) (pc2 := 31) (ls2 := [(0, .ref 162), (1, .int out), (2, .int most), (3, .int a)]) (st2 := [.int 3, .ref 168]) (h2 := h) (dc2 := dc) (ds2 := ds) 1 rfl ?_
    refine wq_ialdk (k := 3) rfl hO rfl rfl rfl ?_
    refine wq_gos (f := 1) (pc2 := 34) (ls2 := [(4, .int (lo.getD 3 0)), (0, .ref 162), (1, .int out), (2, .int most), (3, .int a)]) (st2 := []) (h2 := h) (dc2 := dc) (ds2 := ds) 1 rfl ?_
    refine wq_ls [(0, .ref 162), (1, .int out), (2, .int most), (3, .int a), (4, .int (lo.getD 3 0))] (show ([0, 1, 2, 3, 4] : List Nat).Nodup by decide) ⟨rfl, rfl, rfl, rfl, rfl, trivial⟩ ?_
    refine m_hiE hM hC hK hO hG hmw h4 me (lo.getD 3 0) most dc ds hme h3 ?_
    refine wq_gos (f := 1) (pc2 := 16) (ls2 := [(3, .int (a + 1)), (0, .ref 162), (1, .int out), (2, .int (hRe lo (kn.getD 0 0) (kn.getD 1 0) (kn.getD 2 0) out a mw me (lo.getD 3 0) most))]) (st2 := []) (h2 := h) (dc2 := dc) (ds2 := ds) 2 rfl ?_
    show wq _ _ _ _ _ _ _ (fun r => r = (some (.int (hRa lo (kn.getD 0 0) (kn.getD 1 0) (kn.getD 2 0) out me mw n (a + 1) (hRe lo (kn.getD 0 0) (kn.getD 1 0) (kn.getD 2 0) out a mw me (lo.getD 3 0) most))), h, dc, ds))
    refine wq_ls [(0, .ref 162), (1, .int out), (2, .int (hRe lo (kn.getD 0 0) (kn.getD 1 0) (kn.getD 2 0) out a mw me (lo.getD 3 0) most)), (3, .int (a + 1))] (show ([0, 1, 2, 3] : List Nat).Nodup by decide) ⟨rfl, rfl, rfl, rfl, trivial⟩ ?_
    exact ih (a + 1) (hRe lo (kn.getD 0 0) (kn.getD 1 0) (kn.getD 2 0) out a mw me (lo.getD 3 0) most) dc ds (by omega) h1
theorem hIn_hRe {ll lg lo hi : List Int32} {lk hd ht out a : Int32} {mw : Nat} (hw : wLim lo hi ll lg) (hl : 1 ≤ lk.toInt ∧ lk.toInt ≤ 99) (hh : 1 ≤ hd.toInt ∧ hd.toInt ≤ 99) (hg : 1 ≤ ht.toInt ∧ ht.toInt ≤ 99) (h4 : -32 ≤ (ll.getD 4 0).toInt ∧ (lg.getD 4 0).toInt ≤ 31) (hn : (ll.getD 4 0).toInt + mw = (lg.getD 4 0).toInt + 1) : ∀ (n : Nat) (e best : Int32), hIn ll lg lk hd ht out a n e best = hRe lo lk hd ht out a mw n e best
  | 0, _, _ => rfl
  | n + 1, e, best => by
    show hIn ll lg lk hd ht out a n (e + 1) (hSt ll lg hd (a + e) (lk * (jcos a + jcos (a + e))) (1000 * ht + lk * (jsin a + jsin (a + e))) out best) = hRe lo lk hd ht out a mw n (e + 1) (hW hd (a + e) (lk * (jcos a + jcos (a + e))) (1000 * ht + lk * (jsin a + jsin (a + e))) out mw (lo.getD 4 0) best)
    have b1 := int_mul_bd (show lk.toInt.natAbs ≤ 99 by omega) (cos2_rng a (a + e))
    have b2 := int_mul_bd (show lk.toInt.natAbs ≤ 99 by omega) (sin2_rng a (a + e))
    have m1 := i32_mulI (a := lk) (b := jcos a + jcos (a + e)) (by omega) (by omega)
    have m2 := i32_mulI (a := lk) (b := jsin a + jsin (a + e)) (by omega) (by omega)
    have m3 : (1000 * ht).toInt = 1000 * ht.toInt := by rw [i32_mulI (by show -2147483648 ≤ 1000 * ht.toInt; omega) (by show 1000 * ht.toInt < 2147483648; omega)]; rfl
    have m4 : (1000 * ht + lk * (jsin a + jsin (a + e))).toInt = 1000 * ht.toInt + lk.toInt * (jsin a + jsin (a + e)).toInt := by rw [Int32.toInt_add, m3, m2, Int.bmod_eq_of_le (by omega) (by omega)]
    rw [hIn_hRe hw hl hh hg h4 hn n (e + 1), hSt_hW (n := mw) hh (by rw [m1]; omega) (by rw [m4]; omega) h4 hn, (hw 4 (by decide)).1]
theorem hOu_hRa {ll lg lo hi : List Int32} {lk hd ht out : Int32} {m mw : Nat} (hw : wLim lo hi ll lg) (hl : 1 ≤ lk.toInt ∧ lk.toInt ≤ 99) (hh : 1 ≤ hd.toInt ∧ hd.toInt ≤ 99) (hg : 1 ≤ ht.toInt ∧ ht.toInt ≤ 99) (h4 : -32 ≤ (ll.getD 4 0).toInt ∧ (lg.getD 4 0).toInt ≤ 31) (hn : (ll.getD 4 0).toInt + mw = (lg.getD 4 0).toInt + 1) : ∀ (n : Nat) (a best : Int32), hOu ll lg lk hd ht out m n a best = hRa lo lk hd ht out m mw n a best
  | 0, _, _ => rfl
  | n + 1, a, best => by
    show hOu ll lg lk hd ht out m n (a + 1) (hIn ll lg lk hd ht out a m (ll.getD 3 0) best) = hRa lo lk hd ht out m mw n (a + 1) (hRe lo lk hd ht out a mw m (lo.getD 3 0) best)
    rw [hOu_hRa hw hl hh hg h4 hn n (a + 1), hIn_hRe hw hl hh hg h4 hn, (hw 3 (by decide)).1]
