theorem z_inc {e : Int32} (h : e.toInt < 2147483647) : (e + 1).toInt = e.toInt + 1 := by
  rw [Int32.toInt_add]
  have h1 := Int32.le_toInt e
  have h2 : (1 : Int32).toInt = 1 := rfl
  rw [h2, Int.bmod_eq_of_le (by omega) (by omega)]
/-! Span.outermost. -/
noncomputable def jout (lk hd a b p : Int32) : Int32 := lk * (jcos a + jcos b) + hd * jcos p
noncomputable def oStep (ll lg : List Int32) (lk hd p gr a e best : Int32) : Int32 := if jallow ll lg 4 (jw (p - a - e)) = true then (if best = -2147483648 then jout lk hd a (a + e) p else if gr = 0 then (if jout lk hd a (a + e) p < best then jout lk hd a (a + e) p else best) else if best < jout lk hd a (a + e) p then jout lk hd a (a + e) p else best) else best
noncomputable def oIn (ll lg : List Int32) (lk hd p gr a : Int32) : Nat → Int32 → Int32 → Int32
  | 0, _, best => best
  | n + 1, e, best => oIn ll lg lk hd p gr a n (e + 1) (oStep ll lg lk hd p gr a e best)
set_option maxHeartbeats 4000000 in
theorem c_om_in {h : zH} {ra rl rg rv rn rp rw : Nat} {lk hd ht bl sd sp so : Int32} {rs : Int64} {ll lg : List Int32} (hA : zat h ra = some (.inr (.inr (.inr (0, [.int lk, .int hd, .int ht, .int bl, .int sd, .long rs, .ref rl, .ref rg, .ref rv, .int sp, .ref rn, .ref rp, .int so, .ref rw]))))) (hL : zat h rl = some (.inl (0, 6, ll))) (hG : zat h rg = some (.inl (0, 6, lg))) {th : Nat} {p gr : Int32} {a : Int32} {r : zR} (hg3 : (lg.getD 3 0).toInt ≤ 31) : ∀ (n : Nat) (e best : Int32), -32 ≤ e.toInt → e.toInt + n = (lg.getD 3 0).toInt + 1 → zT zg0 zF zP 93 132 [(0, .ref th), (1, .ref ra), (2, .int p), (3, .int gr), (4, .int (oIn ll lg lk hd p gr a n e best)), (5, .int a)] [] h 0 0 r → zT zg0 zF zP 93 31 [(0, .ref th), (1, .ref ra), (2, .int p), (3, .int gr), (4, .int best), (5, .int a), (6, .int e)] [] h 0 0 r := by
  intro n
  induction n with
  | zero =>
    intro e best he hn k
    refine zT_gos (f := 200000) (pc2 := 34) (ls2 := [(0, .ref th), (1, .ref ra), (2, .int p), (3, .int gr), (4, .int best), (5, .int a), (6, .int e)]) (st2 := [.ref ra, .int e]) (h2 := h) (dc2 := 0) (ds2 := 0) 2 rfl ?_
    refine zT_getf rfl hA rfl ?_
    refine zT_gos (f := 200000) (pc2 := 38) (ls2 := [(0, .ref th), (1, .ref ra), (2, .int p), (3, .int gr), (4, .int best), (5, .int a), (6, .int e)]) (st2 := [.int 3, .ref rg, .int e]) (h2 := h) (dc2 := 0) (ds2 := 0) 1 rfl ?_
    refine zT_iald (n := 6) rfl hG rfl ?_
    refine zT_if2 true rfl (zc_gt_t (by simp only [show Int32.toNatClampNeg 3 = 3 from rfl]; omega)) ?_
    refine zT_here (pc2 := 132) rfl ?_
    refine zT_ls (ls := [(0, .ref th), (1, .ref ra), (2, .int p), (3, .int gr), (4, .int best), (5, .int a)]) _ rfl (show ([0, 1, 2, 3, 4, 5] : List Nat).Nodup by decide) (List.forall_mem_cons.mpr ⟨rfl, List.forall_mem_cons.mpr ⟨rfl, List.forall_mem_cons.mpr ⟨rfl, List.forall_mem_cons.mpr ⟨rfl, List.forall_mem_cons.mpr ⟨rfl, List.forall_mem_cons.mpr ⟨rfl, fun _ hq => absurd hq List.not_mem_nil⟩⟩⟩⟩⟩⟩) ?_
    exact k
  | succ n ih =>
    intro e best he hn k
    have he1 : (e + 1).toInt = e.toInt + 1 := z_inc (by omega)
    cases hal : jallow ll lg 4 (jw (p - a - e)) with
    | false =>
      rw [show oIn ll lg lk hd p gr a (n + 1) e best = oIn ll lg lk hd p gr a n (e + 1) best by simp [oIn, oStep, hal]] at k
      refine zT_gos (f := 200000) (pc2 := 34) (ls2 := [(0, .ref th), (1, .ref ra), (2, .int p), (3, .int gr), (4, .int best), (5, .int a), (6, .int e)]) (st2 := [.ref ra, .int e]) (h2 := h) (dc2 := 0) (ds2 := 0) 2 rfl ?_
      refine zT_getf rfl hA rfl ?_
      refine zT_gos (f := 200000) (pc2 := 38) (ls2 := [(0, .ref th), (1, .ref ra), (2, .int p), (3, .int gr), (4, .int best), (5, .int a), (6, .int e)]) (st2 := [.int 3, .ref rg, .int e]) (h2 := h) (dc2 := 0) (ds2 := 0) 1 rfl ?_
      refine zT_iald (n := 6) rfl hG rfl ?_
      refine zT_if2 false rfl (zc_gt_f (by simp only [show Int32.toNatClampNeg 3 = 3 from rfl]; omega)) ?_
      refine zT_here (pc2 := 42) rfl ?_
      refine zT_gos (f := 200000) (pc2 := 51) (ls2 := [(0, .ref th), (1, .ref ra), (2, .int p), (3, .int gr), (4, .int best), (5, .int a), (6, .int e)]) (st2 := [.int ((p - a) - e), .int 4, .ref ra]) (h2 := h) (dc2 := 0) (ds2 := 0) 7 rfl ?_
      refine zT_call (y2 := 152) (as := [.int ((p - a) - e)]) rfl rfl (c_w32 ((p - a) - e) h) ?_
      refine zT_here (pc2 := 54) rfl ?_
      refine zT_calv (y2 := 3) (as := [.int 4, .int (jw ((p - a) - e))]) rfl rfl hA rfl (c_allows hA hL hG (j := (4 : Int32)) rfl (jw ((p - a) - e))) ?_
      refine zT_here (pc2 := 57) rfl ?_
      refine zT_if0 false rfl (by rw [hal]; rfl) ?_
      refine zT_here (pc2 := 60) rfl ?_
      refine zT_gos (f := 200000) (pc2 := 31) (ls2 := [(6, .int (e + 1)), (0, .ref th), (1, .ref ra), (2, .int p), (3, .int gr), (4, .int best), (5, .int a)]) (st2 := []) (h2 := h) (dc2 := 0) (ds2 := 0) 3 rfl ?_
      refine zT_ls (ls := [(0, .ref th), (1, .ref ra), (2, .int p), (3, .int gr), (4, .int best), (5, .int a), (6, .int (e + 1))]) _ rfl (show ([0, 1, 2, 3, 4, 5, 6] : List Nat).Nodup by decide) (List.forall_mem_cons.mpr ⟨rfl, List.forall_mem_cons.mpr ⟨rfl, List.forall_mem_cons.mpr ⟨rfl, List.forall_mem_cons.mpr ⟨rfl, List.forall_mem_cons.mpr ⟨rfl, List.forall_mem_cons.mpr ⟨rfl, List.forall_mem_cons.mpr ⟨rfl, fun _ hq => absurd hq List.not_mem_nil⟩⟩⟩⟩⟩⟩⟩) ?_
      exact ih (e + 1) _ (by omega) (by omega) k
    | true =>
      by_cases hb : best = -2147483648
      · rw [show oIn ll lg lk hd p gr a (n + 1) e best = oIn ll lg lk hd p gr a n (e + 1) (jout lk hd a (a + e) p) by simp [oIn, oStep, hal, hb]] at k
        refine zT_gos (f := 200000) (pc2 := 34) (ls2 := [(0, .ref th), (1, .ref ra), (2, .int p), (3, .int gr), (4, .int best), (5, .int a), (6, .int e)]) (st2 := [.ref ra, .int e]) (h2 := h) (dc2 := 0) (ds2 := 0) 2 rfl ?_
        refine zT_getf rfl hA rfl ?_
        refine zT_gos (f := 200000) (pc2 := 38) (ls2 := [(0, .ref th), (1, .ref ra), (2, .int p), (3, .int gr), (4, .int best), (5, .int a), (6, .int e)]) (st2 := [.int 3, .ref rg, .int e]) (h2 := h) (dc2 := 0) (ds2 := 0) 1 rfl ?_
        refine zT_iald (n := 6) rfl hG rfl ?_
        refine zT_if2 false rfl (zc_gt_f (by simp only [show Int32.toNatClampNeg 3 = 3 from rfl]; omega)) ?_
        refine zT_here (pc2 := 42) rfl ?_
        refine zT_gos (f := 200000) (pc2 := 51) (ls2 := [(0, .ref th), (1, .ref ra), (2, .int p), (3, .int gr), (4, .int best), (5, .int a), (6, .int e)]) (st2 := [.int ((p - a) - e), .int 4, .ref ra]) (h2 := h) (dc2 := 0) (ds2 := 0) 7 rfl ?_
        refine zT_call (y2 := 152) (as := [.int ((p - a) - e)]) rfl rfl (c_w32 ((p - a) - e) h) ?_
        refine zT_here (pc2 := 54) rfl ?_
        refine zT_calv (y2 := 3) (as := [.int 4, .int (jw ((p - a) - e))]) rfl rfl hA rfl (c_allows hA hL hG (j := (4 : Int32)) rfl (jw ((p - a) - e))) ?_
        refine zT_here (pc2 := 57) rfl ?_
        refine zT_if0 true rfl (by rw [hal]; rfl) ?_
        refine zT_here (pc2 := 63) rfl ?_
        refine zT_gos (f := 200000) (pc2 := 64) (ls2 := [(0, .ref th), (1, .ref ra), (2, .int p), (3, .int gr), (4, .int best), (5, .int a), (6, .int e)]) (st2 := [.ref ra]) (h2 := h) (dc2 := 0) (ds2 := 0) 1 rfl ?_
        refine zT_getf rfl hA rfl ?_
        refine zT_gos (f := 200000) (pc2 := 69) (ls2 := [(0, .ref th), (1, .ref ra), (2, .int p), (3, .int gr), (4, .int best), (5, .int a), (6, .int e)]) (st2 := [.int a, .int lk]) (h2 := h) (dc2 := 0) (ds2 := 0) 1 rfl ?_
        refine zT_call (y2 := 149) (as := [.int a]) rfl rfl (c_cos a h) ?_
        refine zT_here (pc2 := 72) rfl ?_
        refine zT_gos (f := 200000) (pc2 := 77) (ls2 := [(0, .ref th), (1, .ref ra), (2, .int p), (3, .int gr), (4, .int best), (5, .int a), (6, .int e)]) (st2 := [.int (a + e), .int (jcos a), .int lk]) (h2 := h) (dc2 := 0) (ds2 := 0) 3 rfl ?_
        refine zT_call (y2 := 149) (as := [.int (a + e)]) rfl rfl (c_cos (a + e) h) ?_
        refine zT_here (pc2 := 80) rfl ?_
        refine zT_gos (f := 200000) (pc2 := 83) (ls2 := [(0, .ref th), (1, .ref ra), (2, .int p), (3, .int gr), (4, .int best), (5, .int a), (6, .int e)]) (st2 := [.ref ra, .int (lk * ((jcos a) + (jcos (a + e))))]) (h2 := h) (dc2 := 0) (ds2 := 0) 3 rfl ?_
        refine zT_getf rfl hA rfl ?_
        refine zT_gos (f := 200000) (pc2 := 87) (ls2 := [(0, .ref th), (1, .ref ra), (2, .int p), (3, .int gr), (4, .int best), (5, .int a), (6, .int e)]) (st2 := [.int p, .int hd, .int (lk * ((jcos a) + (jcos (a + e))))]) (h2 := h) (dc2 := 0) (ds2 := 0) 1 rfl ?_
        refine zT_call (y2 := 149) (as := [.int p]) rfl rfl (c_cos p h) ?_
        refine zT_here (pc2 := 90) rfl ?_
        refine zT_gos (f := 200000) (pc2 := 98) (ls2 := [(7, .int ((lk * ((jcos a) + (jcos (a + e)))) + (hd * (jcos p)))), (0, .ref th), (1, .ref ra), (2, .int p), (3, .int gr), (4, .int best), (5, .int a), (6, .int e)]) (st2 := [.int (-2147483648), .int best]) (h2 := h) (dc2 := 0) (ds2 := 0) 5 rfl ?_
        refine zT_if2 true rfl (decide_eq_true hb) ?_
        refine zT_here (pc2 := 122) rfl ?_
        refine zT_gos (f := 200000) (pc2 := 31) (ls2 := [(6, .int (e + 1)), (4, .int ((lk * ((jcos a) + (jcos (a + e)))) + (hd * (jcos p)))), (7, .int ((lk * ((jcos a) + (jcos (a + e)))) + (hd * (jcos p)))), (0, .ref th), (1, .ref ra), (2, .int p), (3, .int gr), (5, .int a)]) (st2 := []) (h2 := h) (dc2 := 0) (ds2 := 0) 4 rfl ?_
        refine zT_ls (ls := [(0, .ref th), (1, .ref ra), (2, .int p), (3, .int gr), (4, .int (jout lk hd a (a + e) p)), (5, .int a), (6, .int (e + 1))]) _ rfl (show ([0, 1, 2, 3, 4, 5, 6] : List Nat).Nodup by decide) (List.forall_mem_cons.mpr ⟨rfl, List.forall_mem_cons.mpr ⟨rfl, List.forall_mem_cons.mpr ⟨rfl, List.forall_mem_cons.mpr ⟨rfl, List.forall_mem_cons.mpr ⟨rfl, List.forall_mem_cons.mpr ⟨rfl, List.forall_mem_cons.mpr ⟨rfl, fun _ hq => absurd hq List.not_mem_nil⟩⟩⟩⟩⟩⟩⟩) ?_
        exact ih (e + 1) _ (by omega) (by omega) k
      · by_cases hgr : gr = 0
        · by_cases hlt : jout lk hd a (a + e) p < best
          · rw [show oIn ll lg lk hd p gr a (n + 1) e best = oIn ll lg lk hd p gr a n (e + 1) (jout lk hd a (a + e) p) by simp [oIn, oStep, hal, hb, hgr, hlt]] at k
            refine zT_gos (f := 200000) (pc2 := 34) (ls2 := [(0, .ref th), (1, .ref ra), (2, .int p), (3, .int gr), (4, .int best), (5, .int a), (6, .int e)]) (st2 := [.ref ra, .int e]) (h2 := h) (dc2 := 0) (ds2 := 0) 2 rfl ?_
            refine zT_getf rfl hA rfl ?_
            refine zT_gos (f := 200000) (pc2 := 38) (ls2 := [(0, .ref th), (1, .ref ra), (2, .int p), (3, .int gr), (4, .int best), (5, .int a), (6, .int e)]) (st2 := [.int 3, .ref rg, .int e]) (h2 := h) (dc2 := 0) (ds2 := 0) 1 rfl ?_
            refine zT_iald (n := 6) rfl hG rfl ?_
            refine zT_if2 false rfl (zc_gt_f (by simp only [show Int32.toNatClampNeg 3 = 3 from rfl]; omega)) ?_
            refine zT_here (pc2 := 42) rfl ?_
            refine zT_gos (f := 200000) (pc2 := 51) (ls2 := [(0, .ref th), (1, .ref ra), (2, .int p), (3, .int gr), (4, .int best), (5, .int a), (6, .int e)]) (st2 := [.int ((p - a) - e), .int 4, .ref ra]) (h2 := h) (dc2 := 0) (ds2 := 0) 7 rfl ?_
            refine zT_call (y2 := 152) (as := [.int ((p - a) - e)]) rfl rfl (c_w32 ((p - a) - e) h) ?_
            refine zT_here (pc2 := 54) rfl ?_
            refine zT_calv (y2 := 3) (as := [.int 4, .int (jw ((p - a) - e))]) rfl rfl hA rfl (c_allows hA hL hG (j := (4 : Int32)) rfl (jw ((p - a) - e))) ?_
            refine zT_here (pc2 := 57) rfl ?_
            refine zT_if0 true rfl (by rw [hal]; rfl) ?_
            refine zT_here (pc2 := 63) rfl ?_
            refine zT_gos (f := 200000) (pc2 := 64) (ls2 := [(0, .ref th), (1, .ref ra), (2, .int p), (3, .int gr), (4, .int best), (5, .int a), (6, .int e)]) (st2 := [.ref ra]) (h2 := h) (dc2 := 0) (ds2 := 0) 1 rfl ?_
            refine zT_getf rfl hA rfl ?_
            refine zT_gos (f := 200000) (pc2 := 69) (ls2 := [(0, .ref th), (1, .ref ra), (2, .int p), (3, .int gr), (4, .int best), (5, .int a), (6, .int e)]) (st2 := [.int a, .int lk]) (h2 := h) (dc2 := 0) (ds2 := 0) 1 rfl ?_
            refine zT_call (y2 := 149) (as := [.int a]) rfl rfl (c_cos a h) ?_
            refine zT_here (pc2 := 72) rfl ?_
            refine zT_gos (f := 200000) (pc2 := 77) (ls2 := [(0, .ref th), (1, .ref ra), (2, .int p), (3, .int gr), (4, .int best), (5, .int a), (6, .int e)]) (st2 := [.int (a + e), .int (jcos a), .int lk]) (h2 := h) (dc2 := 0) (ds2 := 0) 3 rfl ?_
            refine zT_call (y2 := 149) (as := [.int (a + e)]) rfl rfl (c_cos (a + e) h) ?_
            refine zT_here (pc2 := 80) rfl ?_
            refine zT_gos (f := 200000) (pc2 := 83) (ls2 := [(0, .ref th), (1, .ref ra), (2, .int p), (3, .int gr), (4, .int best), (5, .int a), (6, .int e)]) (st2 := [.ref ra, .int (lk * ((jcos a) + (jcos (a + e))))]) (h2 := h) (dc2 := 0) (ds2 := 0) 3 rfl ?_
            refine zT_getf rfl hA rfl ?_
            refine zT_gos (f := 200000) (pc2 := 87) (ls2 := [(0, .ref th), (1, .ref ra), (2, .int p), (3, .int gr), (4, .int best), (5, .int a), (6, .int e)]) (st2 := [.int p, .int hd, .int (lk * ((jcos a) + (jcos (a + e))))]) (h2 := h) (dc2 := 0) (ds2 := 0) 1 rfl ?_
            refine zT_call (y2 := 149) (as := [.int p]) rfl rfl (c_cos p h) ?_
            refine zT_here (pc2 := 90) rfl ?_
            refine zT_gos (f := 200000) (pc2 := 98) (ls2 := [(7, .int ((lk * ((jcos a) + (jcos (a + e)))) + (hd * (jcos p)))), (0, .ref th), (1, .ref ra), (2, .int p), (3, .int gr), (4, .int best), (5, .int a), (6, .int e)]) (st2 := [.int (-2147483648), .int best]) (h2 := h) (dc2 := 0) (ds2 := 0) 5 rfl ?_
            refine zT_if2 false rfl (decide_eq_false hb) ?_
            refine zT_here (pc2 := 101) rfl ?_
            refine zT_gos (f := 200000) (pc2 := 102) (ls2 := [(7, .int ((lk * ((jcos a) + (jcos (a + e)))) + (hd * (jcos p)))), (0, .ref th), (1, .ref ra), (2, .int p), (3, .int gr), (4, .int best), (5, .int a), (6, .int e)]) (st2 := [.int gr]) (h2 := h) (dc2 := 0) (ds2 := 0) 1 rfl ?_
            refine zT_if0 true rfl (decide_eq_true hgr) ?_
            refine zT_here (pc2 := 115) rfl ?_
            refine zT_gos (f := 200000) (pc2 := 119) (ls2 := [(7, .int ((lk * ((jcos a) + (jcos (a + e)))) + (hd * (jcos p)))), (0, .ref th), (1, .ref ra), (2, .int p), (3, .int gr), (4, .int best), (5, .int a), (6, .int e)]) (st2 := [.int best, .int ((lk * ((jcos a) + (jcos (a + e)))) + (hd * (jcos p)))]) (h2 := h) (dc2 := 0) (ds2 := 0) 2 rfl ?_
            refine zT_if2 false rfl (decide_eq_false (Int32.not_le.mpr hlt)) ?_
            refine zT_here (pc2 := 122) rfl ?_
            refine zT_gos (f := 200000) (pc2 := 31) (ls2 := [(6, .int (e + 1)), (4, .int ((lk * ((jcos a) + (jcos (a + e)))) + (hd * (jcos p)))), (7, .int ((lk * ((jcos a) + (jcos (a + e)))) + (hd * (jcos p)))), (0, .ref th), (1, .ref ra), (2, .int p), (3, .int gr), (5, .int a)]) (st2 := []) (h2 := h) (dc2 := 0) (ds2 := 0) 4 rfl ?_
            refine zT_ls (ls := [(0, .ref th), (1, .ref ra), (2, .int p), (3, .int gr), (4, .int (jout lk hd a (a + e) p)), (5, .int a), (6, .int (e + 1))]) _ rfl (show ([0, 1, 2, 3, 4, 5, 6] : List Nat).Nodup by decide) (List.forall_mem_cons.mpr ⟨rfl, List.forall_mem_cons.mpr ⟨rfl, List.forall_mem_cons.mpr ⟨rfl, List.forall_mem_cons.mpr ⟨rfl, List.forall_mem_cons.mpr ⟨rfl, List.forall_mem_cons.mpr ⟨rfl, List.forall_mem_cons.mpr ⟨rfl, fun _ hq => absurd hq List.not_mem_nil⟩⟩⟩⟩⟩⟩⟩) ?_
            exact ih (e + 1) _ (by omega) (by omega) k
          · rw [show oIn ll lg lk hd p gr a (n + 1) e best = oIn ll lg lk hd p gr a n (e + 1) best by simp [oIn, oStep, hal, hb, hgr, hlt]] at k
            refine zT_gos (f := 200000) (pc2 := 34) (ls2 := [(0, .ref th), (1, .ref ra), (2, .int p), (3, .int gr), (4, .int best), (5, .int a), (6, .int e)]) (st2 := [.ref ra, .int e]) (h2 := h) (dc2 := 0) (ds2 := 0) 2 rfl ?_
            refine zT_getf rfl hA rfl ?_
            refine zT_gos (f := 200000) (pc2 := 38) (ls2 := [(0, .ref th), (1, .ref ra), (2, .int p), (3, .int gr), (4, .int best), (5, .int a), (6, .int e)]) (st2 := [.int 3, .ref rg, .int e]) (h2 := h) (dc2 := 0) (ds2 := 0) 1 rfl ?_
            refine zT_iald (n := 6) rfl hG rfl ?_
            refine zT_if2 false rfl (zc_gt_f (by simp only [show Int32.toNatClampNeg 3 = 3 from rfl]; omega)) ?_
            refine zT_here (pc2 := 42) rfl ?_
            refine zT_gos (f := 200000) (pc2 := 51) (ls2 := [(0, .ref th), (1, .ref ra), (2, .int p), (3, .int gr), (4, .int best), (5, .int a), (6, .int e)]) (st2 := [.int ((p - a) - e), .int 4, .ref ra]) (h2 := h) (dc2 := 0) (ds2 := 0) 7 rfl ?_
            refine zT_call (y2 := 152) (as := [.int ((p - a) - e)]) rfl rfl (c_w32 ((p - a) - e) h) ?_
            refine zT_here (pc2 := 54) rfl ?_
            refine zT_calv (y2 := 3) (as := [.int 4, .int (jw ((p - a) - e))]) rfl rfl hA rfl (c_allows hA hL hG (j := (4 : Int32)) rfl (jw ((p - a) - e))) ?_
            refine zT_here (pc2 := 57) rfl ?_
            refine zT_if0 true rfl (by rw [hal]; rfl) ?_
            refine zT_here (pc2 := 63) rfl ?_
            refine zT_gos (f := 200000) (pc2 := 64) (ls2 := [(0, .ref th), (1, .ref ra), (2, .int p), (3, .int gr), (4, .int best), (5, .int a), (6, .int e)]) (st2 := [.ref ra]) (h2 := h) (dc2 := 0) (ds2 := 0) 1 rfl ?_
            refine zT_getf rfl hA rfl ?_
            refine zT_gos (f := 200000) (pc2 := 69) (ls2 := [(0, .ref th), (1, .ref ra), (2, .int p), (3, .int gr), (4, .int best), (5, .int a), (6, .int e)]) (st2 := [.int a, .int lk]) (h2 := h) (dc2 := 0) (ds2 := 0) 1 rfl ?_
            refine zT_call (y2 := 149) (as := [.int a]) rfl rfl (c_cos a h) ?_
            refine zT_here (pc2 := 72) rfl ?_
            refine zT_gos (f := 200000) (pc2 := 77) (ls2 := [(0, .ref th), (1, .ref ra), (2, .int p), (3, .int gr), (4, .int best), (5, .int a), (6, .int e)]) (st2 := [.int (a + e), .int (jcos a), .int lk]) (h2 := h) (dc2 := 0) (ds2 := 0) 3 rfl ?_
            refine zT_call (y2 := 149) (as := [.int (a + e)]) rfl rfl (c_cos (a + e) h) ?_
            refine zT_here (pc2 := 80) rfl ?_
            refine zT_gos (f := 200000) (pc2 := 83) (ls2 := [(0, .ref th), (1, .ref ra), (2, .int p), (3, .int gr), (4, .int best), (5, .int a), (6, .int e)]) (st2 := [.ref ra, .int (lk * ((jcos a) + (jcos (a + e))))]) (h2 := h) (dc2 := 0) (ds2 := 0) 3 rfl ?_
            refine zT_getf rfl hA rfl ?_
            refine zT_gos (f := 200000) (pc2 := 87) (ls2 := [(0, .ref th), (1, .ref ra), (2, .int p), (3, .int gr), (4, .int best), (5, .int a), (6, .int e)]) (st2 := [.int p, .int hd, .int (lk * ((jcos a) + (jcos (a + e))))]) (h2 := h) (dc2 := 0) (ds2 := 0) 1 rfl ?_
            refine zT_call (y2 := 149) (as := [.int p]) rfl rfl (c_cos p h) ?_
            refine zT_here (pc2 := 90) rfl ?_
            refine zT_gos (f := 200000) (pc2 := 98) (ls2 := [(7, .int ((lk * ((jcos a) + (jcos (a + e)))) + (hd * (jcos p)))), (0, .ref th), (1, .ref ra), (2, .int p), (3, .int gr), (4, .int best), (5, .int a), (6, .int e)]) (st2 := [.int (-2147483648), .int best]) (h2 := h) (dc2 := 0) (ds2 := 0) 5 rfl ?_
            refine zT_if2 false rfl (decide_eq_false hb) ?_
            refine zT_here (pc2 := 101) rfl ?_
            refine zT_gos (f := 200000) (pc2 := 102) (ls2 := [(7, .int ((lk * ((jcos a) + (jcos (a + e)))) + (hd * (jcos p)))), (0, .ref th), (1, .ref ra), (2, .int p), (3, .int gr), (4, .int best), (5, .int a), (6, .int e)]) (st2 := [.int gr]) (h2 := h) (dc2 := 0) (ds2 := 0) 1 rfl ?_
            refine zT_if0 true rfl (decide_eq_true hgr) ?_
            refine zT_here (pc2 := 115) rfl ?_
            refine zT_gos (f := 200000) (pc2 := 119) (ls2 := [(7, .int ((lk * ((jcos a) + (jcos (a + e)))) + (hd * (jcos p)))), (0, .ref th), (1, .ref ra), (2, .int p), (3, .int gr), (4, .int best), (5, .int a), (6, .int e)]) (st2 := [.int best, .int ((lk * ((jcos a) + (jcos (a + e)))) + (hd * (jcos p)))]) (h2 := h) (dc2 := 0) (ds2 := 0) 2 rfl ?_
            refine zT_if2 true rfl (decide_eq_true (Int32.not_lt.mp hlt)) ?_
            refine zT_here (pc2 := 126) rfl ?_
            refine zT_gos (f := 200000) (pc2 := 31) (ls2 := [(6, .int (e + 1)), (7, .int ((lk * ((jcos a) + (jcos (a + e)))) + (hd * (jcos p)))), (0, .ref th), (1, .ref ra), (2, .int p), (3, .int gr), (4, .int best), (5, .int a)]) (st2 := []) (h2 := h) (dc2 := 0) (ds2 := 0) 2 rfl ?_
            refine zT_ls (ls := [(0, .ref th), (1, .ref ra), (2, .int p), (3, .int gr), (4, .int best), (5, .int a), (6, .int (e + 1))]) _ rfl (show ([0, 1, 2, 3, 4, 5, 6] : List Nat).Nodup by decide) (List.forall_mem_cons.mpr ⟨rfl, List.forall_mem_cons.mpr ⟨rfl, List.forall_mem_cons.mpr ⟨rfl, List.forall_mem_cons.mpr ⟨rfl, List.forall_mem_cons.mpr ⟨rfl, List.forall_mem_cons.mpr ⟨rfl, List.forall_mem_cons.mpr ⟨rfl, fun _ hq => absurd hq List.not_mem_nil⟩⟩⟩⟩⟩⟩⟩) ?_
            exact ih (e + 1) _ (by omega) (by omega) k
        · by_cases hlt : best < jout lk hd a (a + e) p
          · rw [show oIn ll lg lk hd p gr a (n + 1) e best = oIn ll lg lk hd p gr a n (e + 1) (jout lk hd a (a + e) p) by simp [oIn, oStep, hal, hb, hgr, hlt]] at k
            refine zT_gos (f := 200000) (pc2 := 34) (ls2 := [(0, .ref th), (1, .ref ra), (2, .int p), (3, .int gr), (4, .int best), (5, .int a), (6, .int e)]) (st2 := [.ref ra, .int e]) (h2 := h) (dc2 := 0) (ds2 := 0) 2 rfl ?_
            refine zT_getf rfl hA rfl ?_
            refine zT_gos (f := 200000) (pc2 := 38) (ls2 := [(0, .ref th), (1, .ref ra), (2, .int p), (3, .int gr), (4, .int best), (5, .int a), (6, .int e)]) (st2 := [.int 3, .ref rg, .int e]) (h2 := h) (dc2 := 0) (ds2 := 0) 1 rfl ?_
            refine zT_iald (n := 6) rfl hG rfl ?_
            refine zT_if2 false rfl (zc_gt_f (by simp only [show Int32.toNatClampNeg 3 = 3 from rfl]; omega)) ?_
            refine zT_here (pc2 := 42) rfl ?_
            refine zT_gos (f := 200000) (pc2 := 51) (ls2 := [(0, .ref th), (1, .ref ra), (2, .int p), (3, .int gr), (4, .int best), (5, .int a), (6, .int e)]) (st2 := [.int ((p - a) - e), .int 4, .ref ra]) (h2 := h) (dc2 := 0) (ds2 := 0) 7 rfl ?_
            refine zT_call (y2 := 152) (as := [.int ((p - a) - e)]) rfl rfl (c_w32 ((p - a) - e) h) ?_
            refine zT_here (pc2 := 54) rfl ?_
            refine zT_calv (y2 := 3) (as := [.int 4, .int (jw ((p - a) - e))]) rfl rfl hA rfl (c_allows hA hL hG (j := (4 : Int32)) rfl (jw ((p - a) - e))) ?_
            refine zT_here (pc2 := 57) rfl ?_
            refine zT_if0 true rfl (by rw [hal]; rfl) ?_
            refine zT_here (pc2 := 63) rfl ?_
            refine zT_gos (f := 200000) (pc2 := 64) (ls2 := [(0, .ref th), (1, .ref ra), (2, .int p), (3, .int gr), (4, .int best), (5, .int a), (6, .int e)]) (st2 := [.ref ra]) (h2 := h) (dc2 := 0) (ds2 := 0) 1 rfl ?_
            refine zT_getf rfl hA rfl ?_
            refine zT_gos (f := 200000) (pc2 := 69) (ls2 := [(0, .ref th), (1, .ref ra), (2, .int p), (3, .int gr), (4, .int best), (5, .int a), (6, .int e)]) (st2 := [.int a, .int lk]) (h2 := h) (dc2 := 0) (ds2 := 0) 1 rfl ?_
            refine zT_call (y2 := 149) (as := [.int a]) rfl rfl (c_cos a h) ?_
            refine zT_here (pc2 := 72) rfl ?_
            refine zT_gos (f := 200000) (pc2 := 77) (ls2 := [(0, .ref th), (1, .ref ra), (2, .int p), (3, .int gr), (4, .int best), (5, .int a), (6, .int e)]) (st2 := [.int (a + e), .int (jcos a), .int lk]) (h2 := h) (dc2 := 0) (ds2 := 0) 3 rfl ?_
            refine zT_call (y2 := 149) (as := [.int (a + e)]) rfl rfl (c_cos (a + e) h) ?_
            refine zT_here (pc2 := 80) rfl ?_
            refine zT_gos (f := 200000) (pc2 := 83) (ls2 := [(0, .ref th), (1, .ref ra), (2, .int p), (3, .int gr), (4, .int best), (5, .int a), (6, .int e)]) (st2 := [.ref ra, .int (lk * ((jcos a) + (jcos (a + e))))]) (h2 := h) (dc2 := 0) (ds2 := 0) 3 rfl ?_
            refine zT_getf rfl hA rfl ?_
            refine zT_gos (f := 200000) (pc2 := 87) (ls2 := [(0, .ref th), (1, .ref ra), (2, .int p), (3, .int gr), (4, .int best), (5, .int a), (6, .int e)]) (st2 := [.int p, .int hd, .int (lk * ((jcos a) + (jcos (a + e))))]) (h2 := h) (dc2 := 0) (ds2 := 0) 1 rfl ?_
            refine zT_call (y2 := 149) (as := [.int p]) rfl rfl (c_cos p h) ?_
            refine zT_here (pc2 := 90) rfl ?_
            refine zT_gos (f := 200000) (pc2 := 98) (ls2 := [(7, .int ((lk * ((jcos a) + (jcos (a + e)))) + (hd * (jcos p)))), (0, .ref th), (1, .ref ra), (2, .int p), (3, .int gr), (4, .int best), (5, .int a), (6, .int e)]) (st2 := [.int (-2147483648), .int best]) (h2 := h) (dc2 := 0) (ds2 := 0) 5 rfl ?_
            refine zT_if2 false rfl (decide_eq_false hb) ?_
            refine zT_here (pc2 := 101) rfl ?_
            refine zT_gos (f := 200000) (pc2 := 102) (ls2 := [(7, .int ((lk * ((jcos a) + (jcos (a + e)))) + (hd * (jcos p)))), (0, .ref th), (1, .ref ra), (2, .int p), (3, .int gr), (4, .int best), (5, .int a), (6, .int e)]) (st2 := [.int gr]) (h2 := h) (dc2 := 0) (ds2 := 0) 1 rfl ?_
            refine zT_if0 false rfl (decide_eq_false hgr) ?_
            refine zT_here (pc2 := 105) rfl ?_
            refine zT_gos (f := 200000) (pc2 := 109) (ls2 := [(7, .int ((lk * ((jcos a) + (jcos (a + e)))) + (hd * (jcos p)))), (0, .ref th), (1, .ref ra), (2, .int p), (3, .int gr), (4, .int best), (5, .int a), (6, .int e)]) (st2 := [.int best, .int ((lk * ((jcos a) + (jcos (a + e)))) + (hd * (jcos p)))]) (h2 := h) (dc2 := 0) (ds2 := 0) 2 rfl ?_
            refine zT_if2 false rfl (decide_eq_false (Int32.not_le.mpr hlt)) ?_
            refine zT_here (pc2 := 112) rfl ?_
            refine zT_gos (f := 200000) (pc2 := 31) (ls2 := [(6, .int (e + 1)), (4, .int ((lk * ((jcos a) + (jcos (a + e)))) + (hd * (jcos p)))), (7, .int ((lk * ((jcos a) + (jcos (a + e)))) + (hd * (jcos p)))), (0, .ref th), (1, .ref ra), (2, .int p), (3, .int gr), (5, .int a)]) (st2 := []) (h2 := h) (dc2 := 0) (ds2 := 0) 5 rfl ?_
            refine zT_ls (ls := [(0, .ref th), (1, .ref ra), (2, .int p), (3, .int gr), (4, .int (jout lk hd a (a + e) p)), (5, .int a), (6, .int (e + 1))]) _ rfl (show ([0, 1, 2, 3, 4, 5, 6] : List Nat).Nodup by decide) (List.forall_mem_cons.mpr ⟨rfl, List.forall_mem_cons.mpr ⟨rfl, List.forall_mem_cons.mpr ⟨rfl, List.forall_mem_cons.mpr ⟨rfl, List.forall_mem_cons.mpr ⟨rfl, List.forall_mem_cons.mpr ⟨rfl, List.forall_mem_cons.mpr ⟨rfl, fun _ hq => absurd hq List.not_mem_nil⟩⟩⟩⟩⟩⟩⟩) ?_
            exact ih (e + 1) _ (by omega) (by omega) k
          · rw [show oIn ll lg lk hd p gr a (n + 1) e best = oIn ll lg lk hd p gr a n (e + 1) best by simp [oIn, oStep, hal, hb, hgr, hlt]] at k
            refine zT_gos (f := 200000) (pc2 := 34) (ls2 := [(0, .ref th), (1, .ref ra), (2, .int p), (3, .int gr), (4, .int best), (5, .int a), (6, .int e)]) (st2 := [.ref ra, .int e]) (h2 := h) (dc2 := 0) (ds2 := 0) 2 rfl ?_
            refine zT_getf rfl hA rfl ?_
            refine zT_gos (f := 200000) (pc2 := 38) (ls2 := [(0, .ref th), (1, .ref ra), (2, .int p), (3, .int gr), (4, .int best), (5, .int a), (6, .int e)]) (st2 := [.int 3, .ref rg, .int e]) (h2 := h) (dc2 := 0) (ds2 := 0) 1 rfl ?_
            refine zT_iald (n := 6) rfl hG rfl ?_
            refine zT_if2 false rfl (zc_gt_f (by simp only [show Int32.toNatClampNeg 3 = 3 from rfl]; omega)) ?_
            refine zT_here (pc2 := 42) rfl ?_
            refine zT_gos (f := 200000) (pc2 := 51) (ls2 := [(0, .ref th), (1, .ref ra), (2, .int p), (3, .int gr), (4, .int best), (5, .int a), (6, .int e)]) (st2 := [.int ((p - a) - e), .int 4, .ref ra]) (h2 := h) (dc2 := 0) (ds2 := 0) 7 rfl ?_
            refine zT_call (y2 := 152) (as := [.int ((p - a) - e)]) rfl rfl (c_w32 ((p - a) - e) h) ?_
            refine zT_here (pc2 := 54) rfl ?_
            refine zT_calv (y2 := 3) (as := [.int 4, .int (jw ((p - a) - e))]) rfl rfl hA rfl (c_allows hA hL hG (j := (4 : Int32)) rfl (jw ((p - a) - e))) ?_
            refine zT_here (pc2 := 57) rfl ?_
            refine zT_if0 true rfl (by rw [hal]; rfl) ?_
            refine zT_here (pc2 := 63) rfl ?_
            refine zT_gos (f := 200000) (pc2 := 64) (ls2 := [(0, .ref th), (1, .ref ra), (2, .int p), (3, .int gr), (4, .int best), (5, .int a), (6, .int e)]) (st2 := [.ref ra]) (h2 := h) (dc2 := 0) (ds2 := 0) 1 rfl ?_
            refine zT_getf rfl hA rfl ?_
            refine zT_gos (f := 200000) (pc2 := 69) (ls2 := [(0, .ref th), (1, .ref ra), (2, .int p), (3, .int gr), (4, .int best), (5, .int a), (6, .int e)]) (st2 := [.int a, .int lk]) (h2 := h) (dc2 := 0) (ds2 := 0) 1 rfl ?_
            refine zT_call (y2 := 149) (as := [.int a]) rfl rfl (c_cos a h) ?_
            refine zT_here (pc2 := 72) rfl ?_
            refine zT_gos (f := 200000) (pc2 := 77) (ls2 := [(0, .ref th), (1, .ref ra), (2, .int p), (3, .int gr), (4, .int best), (5, .int a), (6, .int e)]) (st2 := [.int (a + e), .int (jcos a), .int lk]) (h2 := h) (dc2 := 0) (ds2 := 0) 3 rfl ?_
            refine zT_call (y2 := 149) (as := [.int (a + e)]) rfl rfl (c_cos (a + e) h) ?_
            refine zT_here (pc2 := 80) rfl ?_
            refine zT_gos (f := 200000) (pc2 := 83) (ls2 := [(0, .ref th), (1, .ref ra), (2, .int p), (3, .int gr), (4, .int best), (5, .int a), (6, .int e)]) (st2 := [.ref ra, .int (lk * ((jcos a) + (jcos (a + e))))]) (h2 := h) (dc2 := 0) (ds2 := 0) 3 rfl ?_
            refine zT_getf rfl hA rfl ?_
            refine zT_gos (f := 200000) (pc2 := 87) (ls2 := [(0, .ref th), (1, .ref ra), (2, .int p), (3, .int gr), (4, .int best), (5, .int a), (6, .int e)]) (st2 := [.int p, .int hd, .int (lk * ((jcos a) + (jcos (a + e))))]) (h2 := h) (dc2 := 0) (ds2 := 0) 1 rfl ?_
            refine zT_call (y2 := 149) (as := [.int p]) rfl rfl (c_cos p h) ?_
            refine zT_here (pc2 := 90) rfl ?_
            refine zT_gos (f := 200000) (pc2 := 98) (ls2 := [(7, .int ((lk * ((jcos a) + (jcos (a + e)))) + (hd * (jcos p)))), (0, .ref th), (1, .ref ra), (2, .int p), (3, .int gr), (4, .int best), (5, .int a), (6, .int e)]) (st2 := [.int (-2147483648), .int best]) (h2 := h) (dc2 := 0) (ds2 := 0) 5 rfl ?_
            refine zT_if2 false rfl (decide_eq_false hb) ?_
            refine zT_here (pc2 := 101) rfl ?_
            refine zT_gos (f := 200000) (pc2 := 102) (ls2 := [(7, .int ((lk * ((jcos a) + (jcos (a + e)))) + (hd * (jcos p)))), (0, .ref th), (1, .ref ra), (2, .int p), (3, .int gr), (4, .int best), (5, .int a), (6, .int e)]) (st2 := [.int gr]) (h2 := h) (dc2 := 0) (ds2 := 0) 1 rfl ?_
            refine zT_if0 false rfl (decide_eq_false hgr) ?_
            refine zT_here (pc2 := 105) rfl ?_
            refine zT_gos (f := 200000) (pc2 := 109) (ls2 := [(7, .int ((lk * ((jcos a) + (jcos (a + e)))) + (hd * (jcos p)))), (0, .ref th), (1, .ref ra), (2, .int p), (3, .int gr), (4, .int best), (5, .int a), (6, .int e)]) (st2 := [.int best, .int ((lk * ((jcos a) + (jcos (a + e)))) + (hd * (jcos p)))]) (h2 := h) (dc2 := 0) (ds2 := 0) 2 rfl ?_
            refine zT_if2 true rfl (decide_eq_true (Int32.not_lt.mp hlt)) ?_
            refine zT_here (pc2 := 126) rfl ?_
            refine zT_gos (f := 200000) (pc2 := 31) (ls2 := [(6, .int (e + 1)), (7, .int ((lk * ((jcos a) + (jcos (a + e)))) + (hd * (jcos p)))), (0, .ref th), (1, .ref ra), (2, .int p), (3, .int gr), (4, .int best), (5, .int a)]) (st2 := []) (h2 := h) (dc2 := 0) (ds2 := 0) 2 rfl ?_
            refine zT_ls (ls := [(0, .ref th), (1, .ref ra), (2, .int p), (3, .int gr), (4, .int best), (5, .int a), (6, .int (e + 1))]) _ rfl (show ([0, 1, 2, 3, 4, 5, 6] : List Nat).Nodup by decide) (List.forall_mem_cons.mpr ⟨rfl, List.forall_mem_cons.mpr ⟨rfl, List.forall_mem_cons.mpr ⟨rfl, List.forall_mem_cons.mpr ⟨rfl, List.forall_mem_cons.mpr ⟨rfl, List.forall_mem_cons.mpr ⟨rfl, List.forall_mem_cons.mpr ⟨rfl, fun _ hq => absurd hq List.not_mem_nil⟩⟩⟩⟩⟩⟩⟩) ?_
            exact ih (e + 1) _ (by omega) (by omega) k
