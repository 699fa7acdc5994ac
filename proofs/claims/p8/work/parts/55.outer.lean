noncomputable def oOut (ll lg : List Int32) (lk hd p gr : Int32) (m : Nat) : Nat → Int32 → Int32 → Int32
  | 0, _, best => best
  | n + 1, a, best => oOut ll lg lk hd p gr m n (a + 1) (oIn ll lg lk hd p gr a m (ll.getD 3 0) best)
set_option maxHeartbeats 4000000 in
theorem c_om_out {h : zH} {ra rl rg rv rn rp rw : Nat} {lk hd ht bl sd sp so : Int32} {rs : Int64} {ll lg : List Int32} (hA : zat h ra = some (.inr (.inr (.inr (0, [.int lk, .int hd, .int ht, .int bl, .int sd, .long rs, .ref rl, .ref rg, .ref rv, .int sp, .ref rn, .ref rp, .int so, .ref rw]))))) (hL : zat h rl = some (.inl (0, 6, ll))) (hG : zat h rg = some (.inl (0, 6, lg))) {th : Nat} {p gr : Int32} {r : zR} (hl2 : -32 ≤ (ll.getD 2 0).toInt) (hg2 : (lg.getD 2 0).toInt ≤ 31) (hl3 : -32 ≤ (ll.getD 3 0).toInt) (hg3 : (lg.getD 3 0).toInt ≤ 31) {m : Nat} (hm : (ll.getD 3 0).toInt + m = (lg.getD 3 0).toInt + 1) : ∀ (n : Nat) (a best : Int32), -32 ≤ a.toInt → a.toInt + n = (lg.getD 2 0).toInt + 1 → zT zg0 zF zP 93 138 [(0, .ref th), (1, .ref ra), (2, .int p), (3, .int gr), (4, .int (oOut ll lg lk hd p gr m n a best))] [] h 0 0 r → zT zg0 zF zP 93 12 [(0, .ref th), (1, .ref ra), (2, .int p), (3, .int gr), (4, .int best), (5, .int a)] [] h 0 0 r := by
  intro n
  induction n with
  | zero =>
    intro a best he hn k
    refine zT_gos (f := 200000) (pc2 := 15) (ls2 := [(0, .ref th), (1, .ref ra), (2, .int p), (3, .int gr), (4, .int best), (5, .int a)]) (st2 := [.ref ra, .int a]) (h2 := h) (dc2 := 0) (ds2 := 0) 2 rfl ?_
    refine zT_getf rfl hA rfl ?_
    refine zT_gos (f := 200000) (pc2 := 19) (ls2 := [(0, .ref th), (1, .ref ra), (2, .int p), (3, .int gr), (4, .int best), (5, .int a)]) (st2 := [.int 2, .ref rg, .int a]) (h2 := h) (dc2 := 0) (ds2 := 0) 1 rfl ?_
    refine zT_iald (n := 6) rfl hG rfl ?_
    refine zT_if2 true rfl (zc_gt_t (by simp only [show Int32.toNatClampNeg 2 = 2 from rfl]; omega)) ?_
    refine zT_here (pc2 := 138) rfl ?_
    refine zT_ls (ls := [(0, .ref th), (1, .ref ra), (2, .int p), (3, .int gr), (4, .int best)]) _ rfl (show ([0, 1, 2, 3, 4] : List Nat).Nodup by decide) (List.forall_mem_cons.mpr ⟨rfl, List.forall_mem_cons.mpr ⟨rfl, List.forall_mem_cons.mpr ⟨rfl, List.forall_mem_cons.mpr ⟨rfl, List.forall_mem_cons.mpr ⟨rfl, fun _ hq => absurd hq List.not_mem_nil⟩⟩⟩⟩⟩) ?_
    exact k
  | succ n ih =>
    intro a best he hn k
    have he1 : (a + 1).toInt = a.toInt + 1 := z_inc (by omega)
    refine zT_gos (f := 200000) (pc2 := 15) (ls2 := [(0, .ref th), (1, .ref ra), (2, .int p), (3, .int gr), (4, .int best), (5, .int a)]) (st2 := [.ref ra, .int a]) (h2 := h) (dc2 := 0) (ds2 := 0) 2 rfl ?_
    refine zT_getf rfl hA rfl ?_
    refine zT_gos (f := 200000) (pc2 := 19) (ls2 := [(0, .ref th), (1, .ref ra), (2, .int p), (3, .int gr), (4, .int best), (5, .int a)]) (st2 := [.int 2, .ref rg, .int a]) (h2 := h) (dc2 := 0) (ds2 := 0) 1 rfl ?_
    refine zT_iald (n := 6) rfl hG rfl ?_
    refine zT_if2 false rfl (zc_gt_f (by simp only [show Int32.toNatClampNeg 2 = 2 from rfl]; omega)) ?_
    refine zT_here (pc2 := 23) rfl ?_
    refine zT_gos (f := 200000) (pc2 := 24) (ls2 := [(0, .ref th), (1, .ref ra), (2, .int p), (3, .int gr), (4, .int best), (5, .int a)]) (st2 := [.ref ra]) (h2 := h) (dc2 := 0) (ds2 := 0) 1 rfl ?_
    refine zT_getf rfl hA rfl ?_
    refine zT_gos (f := 200000) (pc2 := 28) (ls2 := [(0, .ref th), (1, .ref ra), (2, .int p), (3, .int gr), (4, .int best), (5, .int a)]) (st2 := [.int 3, .ref rl]) (h2 := h) (dc2 := 0) (ds2 := 0) 1 rfl ?_
    refine zT_iald (n := 6) rfl hL rfl ?_
    refine zT_gos (f := 200000) (pc2 := 31) (ls2 := [(6, .int (ll.getD 3 0)), (0, .ref th), (1, .ref ra), (2, .int p), (3, .int gr), (4, .int best), (5, .int a)]) (st2 := []) (h2 := h) (dc2 := 0) (ds2 := 0) 1 rfl ?_
    refine zT_ls (ls := [(0, .ref th), (1, .ref ra), (2, .int p), (3, .int gr), (4, .int best), (5, .int a), (6, .int (ll.getD 3 0))]) _ rfl (show ([0, 1, 2, 3, 4, 5, 6] : List Nat).Nodup by decide) (List.forall_mem_cons.mpr ⟨rfl, List.forall_mem_cons.mpr ⟨rfl, List.forall_mem_cons.mpr ⟨rfl, List.forall_mem_cons.mpr ⟨rfl, List.forall_mem_cons.mpr ⟨rfl, List.forall_mem_cons.mpr ⟨rfl, List.forall_mem_cons.mpr ⟨rfl, fun _ hq => absurd hq List.not_mem_nil⟩⟩⟩⟩⟩⟩⟩) ?_
    refine c_om_in hA hL hG hg3 m _ _ hl3 hm ?_
    refine zT_gos (f := 200000) (pc2 := 12) (ls2 := [(5, .int (a + 1)), (0, .ref th), (1, .ref ra), (2, .int p), (3, .int gr), (4, .int (oIn ll lg lk hd p gr a m (ll.getD 3 0) best))]) (st2 := []) (h2 := h) (dc2 := 0) (ds2 := 0) 2 rfl ?_
    refine zT_ls (ls := [(0, .ref th), (1, .ref ra), (2, .int p), (3, .int gr), (4, .int (oIn ll lg lk hd p gr a m (ll.getD 3 0) best)), (5, .int (a + 1))]) _ rfl (show ([0, 1, 2, 3, 4, 5] : List Nat).Nodup by decide) (List.forall_mem_cons.mpr ⟨rfl, List.forall_mem_cons.mpr ⟨rfl, List.forall_mem_cons.mpr ⟨rfl, List.forall_mem_cons.mpr ⟨rfl, List.forall_mem_cons.mpr ⟨rfl, List.forall_mem_cons.mpr ⟨rfl, fun _ hq => absurd hq List.not_mem_nil⟩⟩⟩⟩⟩⟩) ?_
    exact ih (a + 1) _ (by omega) (by omega) k
set_option maxHeartbeats 4000000 in
theorem c_outermost {h : zH} {ra rl rg rv rn rp rw : Nat} {lk hd ht bl sd sp so : Int32} {rs : Int64} {ll lg : List Int32} (hA : zat h ra = some (.inr (.inr (.inr (0, [.int lk, .int hd, .int ht, .int bl, .int sd, .long rs, .ref rl, .ref rg, .ref rv, .int sp, .ref rn, .ref rp, .int so, .ref rw]))))) (hL : zat h rl = some (.inl (0, 6, ll))) (hG : zat h rg = some (.inl (0, 6, lg))) (th : Nat) (p gr : Int32) (hl2 : -32 ≤ (ll.getD 2 0).toInt) (hg2 : (lg.getD 2 0).toInt ≤ 31) (hl3 : -32 ≤ (ll.getD 3 0).toInt) (hg3 : (lg.getD 3 0).toInt ≤ 31) {m : Nat} (hm : (ll.getD 3 0).toInt + m = (lg.getD 3 0).toInt + 1) {n : Nat} (hn : (ll.getD 2 0).toInt + n = (lg.getD 2 0).toInt + 1) : zT zg0 zF zP 93 0 [(0, .ref th), (1, .ref ra), (2, .int p), (3, .int gr)] [] h 0 0 (some (.int (oOut ll lg lk hd p gr m n (ll.getD 2 0) (-2147483648))), h, 0, 0) := by
  refine zT_gos (f := 200000) (pc2 := 5) (ls2 := [(4, .int (-2147483648)), (0, .ref th), (1, .ref ra), (2, .int p), (3, .int gr)]) (st2 := [.ref ra]) (h2 := h) (dc2 := 0) (ds2 := 0) 3 rfl ?_
  refine zT_getf rfl hA rfl ?_
  refine zT_gos (f := 200000) (pc2 := 9) (ls2 := [(4, .int (-2147483648)), (0, .ref th), (1, .ref ra), (2, .int p), (3, .int gr)]) (st2 := [.int 2, .ref rl]) (h2 := h) (dc2 := 0) (ds2 := 0) 1 rfl ?_
  refine zT_iald (n := 6) rfl hL rfl ?_
  refine zT_gos (f := 200000) (pc2 := 12) (ls2 := [(5, .int (ll.getD 2 0)), (4, .int (-2147483648)), (0, .ref th), (1, .ref ra), (2, .int p), (3, .int gr)]) (st2 := []) (h2 := h) (dc2 := 0) (ds2 := 0) 1 rfl ?_
  refine zT_ls (ls := [(0, .ref th), (1, .ref ra), (2, .int p), (3, .int gr), (4, .int (-2147483648)), (5, .int (ll.getD 2 0))]) _ rfl (show ([0, 1, 2, 3, 4, 5] : List Nat).Nodup by decide) (List.forall_mem_cons.mpr ⟨rfl, List.forall_mem_cons.mpr ⟨rfl, List.forall_mem_cons.mpr ⟨rfl, List.forall_mem_cons.mpr ⟨rfl, List.forall_mem_cons.mpr ⟨rfl, List.forall_mem_cons.mpr ⟨rfl, fun _ hq => absurd hq List.not_mem_nil⟩⟩⟩⟩⟩⟩) ?_
  refine c_om_out hA hL hG hl2 hg2 hl3 hg3 hm n _ _ hl2 hn ?_
  refine zT_gos (f := 200000) (pc2 := 140) (ls2 := [(0, .ref th), (1, .ref ra), (2, .int p), (3, .int gr), (4, .int (oOut ll lg lk hd p gr m n (ll.getD 2 0) (-2147483648)))]) (st2 := [.int (oOut ll lg lk hd p gr m n (ll.getD 2 0) (-2147483648))]) (h2 := h) (dc2 := 0) (ds2 := 0) 1 rfl ?_
  exact zT_ret rfl rfl
