/-! More rules for runs over variables. -/
section ZRULE
variable {g : zCt} {F : zFs} {P : zCd} {y pc : Nat} {ls : zL} {rest : List Value} {h : zH} {dc ds : Nat} {r : zR} {K : zK} {tg : List Nat} {len : Nat}
theorem zT_here {st : List Value} {pc2 : Nat} (e : pc = pc2) (k : zT g F P y pc2 ls st h dc ds r) : zT g F P y pc ls st h dc ds r := e ▸ k
theorem zT_val {x x2 : Int32} (e : x = x2) (k : zT g F P y pc ls (.int x2 :: rest) h dc ds r) : zT g F P y pc ls (.int x :: rest) h dc ds r := e ▸ k
theorem zT_vall {x x2 : Int64} (e : x = x2) (k : zT g F P y pc ls (.long x2 :: rest) h dc ds r) : zT g F P y pc ls (.long x :: rest) h dc ds r := e ▸ k
theorem zT_heap {st : List Value} {h2 : zH} (e : h = h2) (k : zT g F P y pc ls st h2 dc ds r) : zT g F P y pc ls st h dc ds r := e ▸ k
theorem zT_iald {i : Int32} {a n : Nat} {f : List Int32} (hP : P y pc = some (.iaload, len, K, tg)) (hat : zat h a = some (.inl (0, n, f))) (hin : zin i n = true) (k : zT g F P y (pc + 1) ls (.int (f.getD i.toNatClampNeg 0) :: rest) h dc ds r) : zT g F P y pc ls (.int i :: .ref a :: rest) h dc ds r :=
  zT_step hP (by show ziald g pc ls (.int i :: .ref a :: rest) h = _; unfold ziald; (try dsimp only); rw [hat]; show (bif zin i n then zs (pc + 1) ls (.int (f.getD i.toNatClampNeg 0) :: rest) h else none) = _; rw [hin]; rfl) k
theorem zT_ialdc {i : Int32} {a n : Nat} {f : Nat → Int32} (hP : P y pc = some (.iaload, len, K, tg)) (hat : (zat h a = none ∧ zct g a = some (0, n, f))) (hin : zin i n = true) (k : zT g F P y (pc + 1) ls (.int (f i.toNatClampNeg) :: rest) h dc ds r) : zT g F P y pc ls (.int i :: .ref a :: rest) h dc ds r :=
  zT_step hP (by show ziald g pc ls (.int i :: .ref a :: rest) h = _; unfold ziald; (try dsimp only); rw [hat.1]; (try dsimp only); rw [hat.2]; show (bif zin i n then zs (pc + 1) ls (.int (f i.toNatClampNeg) :: rest) h else none) = _; rw [hin]; rfl) k
theorem zT_lald {i : Int32} {a n : Nat} {f : List Int64} (hP : P y pc = some (.laload, len, K, tg)) (hat : zat h a = some (.inr (.inl (n, f)))) (hin : zin i n = true) (k : zT g F P y (pc + 1) ls (.long (f.getD i.toNatClampNeg 0) :: rest) h dc ds r) : zT g F P y pc ls (.int i :: .ref a :: rest) h dc ds r :=
  zT_step hP (by show zlald pc ls (.int i :: .ref a :: rest) h = _; unfold zlald; (try dsimp only); rw [hat]; (try dsimp only); rw [hin]; rfl) k
theorem zT_iast {x i : Int32} {a n : Nat} {f : List Int32} (hP : P y pc = some (.iastore, len, K, tg)) (hat : zat h a = some (.inl (0, n, f))) (hin : zin i n = true) (k : zT g F P y (pc + 1) ls rest (h.set (a / 2) (.inl (0, n, zset 0 f i.toNatClampNeg x))) dc ds r) : zT g F P y pc ls (.int x :: .int i :: .ref a :: rest) h dc ds r :=
  zT_step hP (by show ziast pc ls (.int x :: .int i :: .ref a :: rest) h = _; unfold ziast; (try dsimp only); rw [hat]; show (bif zin i n then zs (pc + 1) ls rest (h.set (a / 2) (.inl (0, n, zset 0 f i.toNatClampNeg x))) else none) = _; rw [hin]; rfl) k
theorem zT_last {x : Int64} {i : Int32} {a n : Nat} {f : List Int64} (hP : P y pc = some (.lastore, len, K, tg)) (hat : zat h a = some (.inr (.inl (n, f)))) (hin : zin i n = true) (k : zT g F P y (pc + 1) ls rest (h.set (a / 2) (.inr (.inl (n, zset 0 f i.toNatClampNeg x)))) dc ds r) : zT g F P y pc ls (.long x :: .int i :: .ref a :: rest) h dc ds r :=
  zT_step hP (by show zlast pc ls (.long x :: .int i :: .ref a :: rest) h = _; unfold zlast; (try dsimp only); rw [hat]; (try dsimp only); rw [hin]; rfl) k
theorem zT_tabo {x : Int32} {d lo hi : Int} {offs : Array Int} (hP : P y pc = some (.tableswitch d lo hi offs, len, K, tg)) (hx : x.toInt < lo ∨ hi < x.toInt) (k : zT g F P y K.1 ls rest h dc ds r) : zT g F P y pc ls (.int x :: rest) h dc ds r :=
  zT_step hP (by show ztab K lo hi tg ls (.int x :: rest) h = _; unfold ztab; (try dsimp only); rw [show (decide (x.toInt < lo) || decide (hi < x.toInt)) = true by simpa using hx]; rfl) k
end ZRULE
theorem zc_lt_t {x y : Int32} (h : x.toInt < y.toInt) : zcmp .lt x y = true := decide_eq_true (Int32.lt_iff_toInt_lt.mpr h)
theorem zc_lt_f {x y : Int32} (h : y.toInt ≤ x.toInt) : zcmp .lt x y = false := decide_eq_false (fun q => by have := Int32.lt_iff_toInt_lt.mp q; omega)
theorem zc_ge_t {x y : Int32} (h : y.toInt ≤ x.toInt) : zcmp .ge x y = true := decide_eq_true (Int32.le_iff_toInt_le.mpr h)
theorem zc_ge_f {x y : Int32} (h : x.toInt < y.toInt) : zcmp .ge x y = false := decide_eq_false (fun q => by have := Int32.le_iff_toInt_le.mp q; omega)
theorem zc_gt_t {x y : Int32} (h : y.toInt < x.toInt) : zcmp .gt x y = true := decide_eq_true (Int32.lt_iff_toInt_lt.mpr h)
theorem zc_gt_f {x y : Int32} (h : x.toInt ≤ y.toInt) : zcmp .gt x y = false := decide_eq_false (fun q => by have := Int32.lt_iff_toInt_lt.mp q; omega)
theorem zc_le_t {x y : Int32} (h : x.toInt ≤ y.toInt) : zcmp .le x y = true := decide_eq_true (Int32.le_iff_toInt_le.mpr h)
theorem zc_le_f {x y : Int32} (h : y.toInt < x.toInt) : zcmp .le x y = false := decide_eq_false (fun q => by have := Int32.le_iff_toInt_le.mp q; omega)
theorem zc_eq_t {x y : Int32} (h : x.toInt = y.toInt) : zcmp .eq x y = true := decide_eq_true (Int32.toInt_inj.mp h)
theorem zc_eq_f {x y : Int32} (h : x.toInt ≠ y.toInt) : zcmp .eq x y = false := decide_eq_false (fun q => h (by rw [q]))
theorem zc_ne_f {x y : Int32} (h : x.toInt = y.toInt) : zcmp .ne x y = false := by rw [show zcmp .ne x y = !(zcmp .eq x y) from rfl, zc_eq_t h]; rfl
theorem zc_ne_t {x y : Int32} (h : x.toInt ≠ y.toInt) : zcmp .ne x y = true := by rw [show zcmp .ne x y = !(zcmp .eq x y) from rfl, zc_eq_f h]; rfl
theorem zin_t {i : Int32} {n : Nat} (h0 : 0 ≤ i.toInt) (h1 : i.toInt < n) : zin i n = true := by
  unfold zin
  rw [show decide (i < 0) = false from decide_eq_false (fun q => by have := Int32.lt_iff_toInt_lt.mp q; simp at this; omega)]
  have h2 : i.toNatClampNeg < n := by
    show i.toInt.toNat < n
    omega
  exact Nat.ble_eq_true_of_le h2
