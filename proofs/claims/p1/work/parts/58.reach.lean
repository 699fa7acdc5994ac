theorem oIn_eq {ll lg lo hi : List Int32} (h4 : ll.getD 4 0 = lo.getD 4 0) (g4 : lg.getD 4 0 = hi.getD 4 0) (lk hd p gr a : Int32) : ∀ (n : Nat) (e best : Int32), oIn ll lg lk hd p gr a n e best = oIn lo hi lk hd p gr a n e best := by
  have hj : ∀ v, jallow ll lg 4 v = jallow lo hi 4 v := by
    intro v
    show (!(decide (v < ll.getD 4 0)) && !(decide (lg.getD 4 0 < v))) = (!(decide (v < lo.getD 4 0)) && !(decide (hi.getD 4 0 < v)))
    rw [h4, g4]
  intro n
  induction n with
  | zero => intro e best; rfl
  | succ n ih =>
    intro e best
    show oIn ll lg lk hd p gr a n (e + 1) (oStep ll lg lk hd p gr a e best) = oIn lo hi lk hd p gr a n (e + 1) (oStep lo hi lk hd p gr a e best)
    rw [ih]
    unfold oStep
    rw [hj]
theorem oOut_eq {ll lg lo hi : List Int32} (h3 : ll.getD 3 0 = lo.getD 3 0) (h4 : ll.getD 4 0 = lo.getD 4 0) (g4 : lg.getD 4 0 = hi.getD 4 0) (lk hd p gr : Int32) (m : Nat) : ∀ (n : Nat) (a best : Int32), oOut ll lg lk hd p gr m n a best = oOut lo hi lk hd p gr m n a best := by
  intro n
  induction n with
  | zero => intro a best; rfl
  | succ n ih =>
    intro a best
    show oOut ll lg lk hd p gr m n (a + 1) (oIn ll lg lk hd p gr a m (ll.getD 3 0) best) = oOut lo hi lk hd p gr m n (a + 1) (oIn lo hi lk hd p gr a m (lo.getD 3 0) best)
    rw [ih, h3, oIn_eq h4 g4]
def jll : List Int32 := [0, -32, -32, -32, -32, -64]
def jlg : List Int32 := [99, 31, 31, 31, 31, 63]
def jmk : List Int32 := [9, 4, 10, 2, 0, 0, 0, 9, 4, 10, 2, 0, 0, 0]
def jml : List Int32 := [0, -32, -32, -32, -32, -64, 0, -32, -32, -32, -32, -64]
def jmh : List Int32 := [99, 31, 31, 31, 31, 63, 99, 31, 31, 31, 31, 63]
def jr (p gr : Int32) : Int32 := oOut jll jlg 9 4 p gr 64 64 (-32) (-2147483648)
set_option maxRecDepth 100000 in
theorem r_c (p gr : Int32) : zT zg0 zF zP 93 0 [(0, .ref 158), (1, .ref 6), (2, .int p), (3, .int gr)] [] zH0 0 0 (some (.int (jr p gr)), zH0, 0, 0) :=
  c_outermost (ll := jll) (lg := jlg) (lk := 9) (hd := 4) (m := 64) (n := 64) rfl rfl rfl 158 p gr (by decide) (by decide) (by decide) (by decide) (by decide) (by decide)
set_option maxRecDepth 100000 in
set_option maxHeartbeats 4000000 in
theorem r_m0 {p : Int32} (h1 : 0 ≤ p.toInt ∧ p.toInt ≤ 63) : zT zg0 zF zP 276 0 [(0, .ref 162), (1, .int p), (2, .int 0)] [] zH0 0 0 (some (.int (jr p 1)), zH0, 0, 0) := by
  rw [show jr p 1 = oOut jml jmh (jmk.getD 0 0) (jmk.getD 1 0) p 1 64 64 (jml.getD 2 0) (-2147483648) from oOut_eq (ll := jll) (lg := jlg) (lo := jml) (hi := jmh) rfl rfl rfl 9 4 p 1 64 64 (-32) (-2147483648)]
  refine zT_gos (f := 200000) (pc2 := 6) (ls2 := [(0, .ref 162), (1, .int p), (2, .int 0)]) (st2 := [.int p]) (h2 := zH0) (dc2 := 0) (ds2 := 0) 4 rfl ?_
  refine zT_if0 false rfl (zc_lt_f (by show (p : Int32).toInt ≥ 0; omega)) ?_
  refine zT_here (pc2 := 9) rfl ?_
  refine zT_gos (f := 200000) (pc2 := 12) (ls2 := [(0, .ref 162), (1, .int p), (2, .int 0)]) (st2 := [.int 63, .int p]) (h2 := zH0) (dc2 := 0) (ds2 := 0) 2 rfl ?_
  refine zT_if2 false rfl (zc_gt_f (by show (p : Int32).toInt ≤ 63; omega)) ?_
  refine zT_here (pc2 := 15) rfl ?_
  refine zT_gos (f := 200000) (pc2 := 26) (ls2 := [(0, .ref 162), (1, .int p), (2, .int 0)]) (st2 := []) (h2 := zH0) (dc2 := 0) (ds2 := 0) 5 rfl ?_
  exact c_mreach0 (kn := jmk) (lo := jml) (hi := jmh) (m := 64) (n := 64) rfl rfl rfl rfl rfl rfl rfl rfl (by decide) (by decide) (by decide) (by decide) (by decide) (by decide)
set_option maxRecDepth 100000 in
set_option maxHeartbeats 4000000 in
theorem r_m1 {p : Int32} (h1 : 0 ≤ p.toInt ∧ p.toInt ≤ 63) : zT zg0 zF zP 276 0 [(0, .ref 162), (1, .int p), (2, .int 1)] [] zH0 0 0 (some (.int (jr p 0)), zH0, 0, 0) := by
  rw [show jr p 0 = oOut jml jmh (jmk.getD 0 0) (jmk.getD 1 0) p 0 64 64 (jml.getD 2 0) (-2147483648) from oOut_eq (ll := jll) (lg := jlg) (lo := jml) (hi := jmh) rfl rfl rfl 9 4 p 0 64 64 (-32) (-2147483648)]
  refine zT_gos (f := 200000) (pc2 := 6) (ls2 := [(0, .ref 162), (1, .int p), (2, .int 1)]) (st2 := [.int p]) (h2 := zH0) (dc2 := 0) (ds2 := 0) 4 rfl ?_
  refine zT_if0 false rfl (zc_lt_f (by show (p : Int32).toInt ≥ 0; omega)) ?_
  refine zT_here (pc2 := 9) rfl ?_
  refine zT_gos (f := 200000) (pc2 := 12) (ls2 := [(0, .ref 162), (1, .int p), (2, .int 1)]) (st2 := [.int 63, .int p]) (h2 := zH0) (dc2 := 0) (ds2 := 0) 2 rfl ?_
  refine zT_if2 false rfl (zc_gt_f (by show (p : Int32).toInt ≤ 63; omega)) ?_
  refine zT_here (pc2 := 15) rfl ?_
  refine zT_gos (f := 200000) (pc2 := 26) (ls2 := [(0, .ref 162), (1, .int p), (2, .int 1)]) (st2 := []) (h2 := zH0) (dc2 := 0) (ds2 := 0) 5 rfl ?_
  exact c_mreach1 (kn := jmk) (lo := jml) (hi := jmh) (m := 64) (n := 64) rfl rfl rfl rfl rfl rfl rfl rfl (by decide) (by decide) (by decide) (by decide) (by decide) (by decide)
