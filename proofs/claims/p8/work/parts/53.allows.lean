/-! Arm.allows. -/
noncomputable def jallow (ll lg : List Int32) (j v : Int32) : Bool := !(decide (v < ll.getD j.toNatClampNeg 0)) && !(decide (lg.getD j.toNatClampNeg 0 < v))
theorem c_allows {h : zH} {ra rl rg rv rn rp rw : Nat} {lk hd ht bl sd sp so : Int32} {rs : Int64} {ll lg : List Int32} (hA : zat h ra = some (.inr (.inr (.inr (0, [.int lk, .int hd, .int ht, .int bl, .int sd, .long rs, .ref rl, .ref rg, .ref rv, .int sp, .ref rn, .ref rp, .int so, .ref rw]))))) (hL : zat h rl = some (.inl (0, 6, ll))) (hG : zat h rg = some (.inl (0, 6, lg))) {j : Int32} (hj : zin j 6 = true) (v : Int32) : zT zg0 zF zP 3 0 [(0, .ref ra), (1, .int j), (2, .int v)] [] h 0 0 (some (.int (bif jallow ll lg j v then 1 else 0)), h, 0, 0) := by
  by_cases h1 : v < ll.getD j.toNatClampNeg 0
  · rw [show jallow ll lg j v = false by unfold jallow; rw [decide_eq_true h1]; rfl]
    refine zT_gos (f := 200000) (pc2 := 2) (ls2 := [(0, .ref ra), (1, .int j), (2, .int v)]) (st2 := [.ref ra, .int v]) (h2 := h) (dc2 := 0) (ds2 := 0) 2 rfl ?_
    refine zT_getf rfl hA rfl ?_
    refine zT_gos (f := 200000) (pc2 := 6) (ls2 := [(0, .ref ra), (1, .int j), (2, .int v)]) (st2 := [.int j, .ref rl, .int v]) (h2 := h) (dc2 := 0) (ds2 := 0) 1 rfl ?_
    refine zT_iald (n := 6) rfl hL hj ?_
    refine zT_if2 true rfl (decide_eq_true h1) ?_
    refine zT_here (pc2 := 24) rfl ?_
    refine zT_gos (f := 200000) (pc2 := 25) (ls2 := [(0, .ref ra), (1, .int j), (2, .int v)]) (st2 := [.int 0]) (h2 := h) (dc2 := 0) (ds2 := 0) 1 rfl ?_
    exact zT_ret rfl rfl
  · by_cases h2 : lg.getD j.toNatClampNeg 0 < v
    · rw [show jallow ll lg j v = false by unfold jallow; rw [decide_eq_false h1, decide_eq_true h2]; rfl]
      refine zT_gos (f := 200000) (pc2 := 2) (ls2 := [(0, .ref ra), (1, .int j), (2, .int v)]) (st2 := [.ref ra, .int v]) (h2 := h) (dc2 := 0) (ds2 := 0) 2 rfl ?_
      refine zT_getf rfl hA rfl ?_
      refine zT_gos (f := 200000) (pc2 := 6) (ls2 := [(0, .ref ra), (1, .int j), (2, .int v)]) (st2 := [.int j, .ref rl, .int v]) (h2 := h) (dc2 := 0) (ds2 := 0) 1 rfl ?_
      refine zT_iald (n := 6) rfl hL hj ?_
      refine zT_if2 false rfl (decide_eq_false h1) ?_
      refine zT_here (pc2 := 10) rfl ?_
      refine zT_gos (f := 200000) (pc2 := 12) (ls2 := [(0, .ref ra), (1, .int j), (2, .int v)]) (st2 := [.ref ra, .int v]) (h2 := h) (dc2 := 0) (ds2 := 0) 2 rfl ?_
      refine zT_getf rfl hA rfl ?_
      refine zT_gos (f := 200000) (pc2 := 16) (ls2 := [(0, .ref ra), (1, .int j), (2, .int v)]) (st2 := [.int j, .ref rg, .int v]) (h2 := h) (dc2 := 0) (ds2 := 0) 1 rfl ?_
      refine zT_iald (n := 6) rfl hG hj ?_
      refine zT_if2 true rfl (decide_eq_true h2) ?_
      refine zT_here (pc2 := 24) rfl ?_
      refine zT_gos (f := 200000) (pc2 := 25) (ls2 := [(0, .ref ra), (1, .int j), (2, .int v)]) (st2 := [.int 0]) (h2 := h) (dc2 := 0) (ds2 := 0) 1 rfl ?_
      exact zT_ret rfl rfl
    · rw [show jallow ll lg j v = true by unfold jallow; rw [decide_eq_false h1, decide_eq_false h2]; rfl]
      refine zT_gos (f := 200000) (pc2 := 2) (ls2 := [(0, .ref ra), (1, .int j), (2, .int v)]) (st2 := [.ref ra, .int v]) (h2 := h) (dc2 := 0) (ds2 := 0) 2 rfl ?_
      refine zT_getf rfl hA rfl ?_
      refine zT_gos (f := 200000) (pc2 := 6) (ls2 := [(0, .ref ra), (1, .int j), (2, .int v)]) (st2 := [.int j, .ref rl, .int v]) (h2 := h) (dc2 := 0) (ds2 := 0) 1 rfl ?_
      refine zT_iald (n := 6) rfl hL hj ?_
      refine zT_if2 false rfl (decide_eq_false h1) ?_
      refine zT_here (pc2 := 10) rfl ?_
      refine zT_gos (f := 200000) (pc2 := 12) (ls2 := [(0, .ref ra), (1, .int j), (2, .int v)]) (st2 := [.ref ra, .int v]) (h2 := h) (dc2 := 0) (ds2 := 0) 2 rfl ?_
      refine zT_getf rfl hA rfl ?_
      refine zT_gos (f := 200000) (pc2 := 16) (ls2 := [(0, .ref ra), (1, .int j), (2, .int v)]) (st2 := [.int j, .ref rg, .int v]) (h2 := h) (dc2 := 0) (ds2 := 0) 1 rfl ?_
      refine zT_iald (n := 6) rfl hG hj ?_
      refine zT_if2 false rfl (decide_eq_false h2) ?_
      refine zT_here (pc2 := 20) rfl ?_
      refine zT_gos (f := 200000) (pc2 := 25) (ls2 := [(0, .ref ra), (1, .int j), (2, .int v)]) (st2 := [.int 1]) (h2 := h) (dc2 := 0) (ds2 := 0) 2 rfl ?_
      exact zT_ret rfl rfl
