/-! A pure interpreter of the fragment of bytecode that the system uses: cells by number (an even reference 2k is the k-th cell that was made, an odd one 2k+1 the k-th constant), locals as a list, the operand stack as a list. Its soundness over the machine: the next parts. -/
/-- a cell: an array of ints (0), bytes (1), booleans (2) with its length and its first elements, those behind them 0; of longs; of references; an object with its class and fields -/
noncomputable abbrev zE : Type := (Nat × Nat × List Int32) ⊕ ((Nat × List Int64) ⊕ ((Nat × List (Option Nat)) ⊕ (Nat × List Value)))
noncomputable abbrev zH : Type := List zE
noncomputable abbrev zL : Type := List (Nat × Value)
noncomputable abbrev zK : Type := Nat × Nat × Value
noncomputable abbrev zA : Type := (Nat × zL × List Value × zH) ⊕ ((Nat × List Value × List Value) ⊕ (Option Value ⊕ (Nat × List Value × zE)))
noncomputable abbrev zCt : Type := Nat → Option (Nat × Nat × (Nat → Int32))
noncomputable def zset {α : Type} (d : α) : List α → Nat → α → List α
  | [], 0, x => [x]
  | [], i + 1, x => d :: zset d [] i x
  | _ :: l, 0, x => x :: l
  | a :: l, i + 1, x => a :: zset d l i x
noncomputable def zcpy {α : Type} (d : α) (f g : List α) (sp dp : Nat) : Nat → List α
  | 0 => g
  | n + 1 => zset d (zcpy d f g sp dp n) (dp + n) (f.getD (sp + n) d)
noncomputable def zlv : zL → Nat → Option Value
  | [], _ => none
  | q :: l, i => bif q.1 == i then some q.2 else zlv l i
noncomputable def zat (h : zH) (r : Nat) : Option zE := bif r % 2 == 0 then h[r / 2]? else none
noncomputable def zct (g : zCt) (r : Nat) : Option (Nat × Nat × (Nat → Int32)) := bif r % 2 == 1 then g (r / 2) else none
noncomputable def zin (i : Int32) (n : Nat) : Bool := !(decide (i < 0)) && Nat.blt i.toNatClampNeg n
noncomputable def zst1 (ls : zL) (i : Nat) (v : Value) : zL := (i, v) :: ls.filter (fun q => !(q.1 == i) && !(q.1 + 1 == i && q.2.category == 2))
noncomputable def zst2 (ls : zL) (i : Nat) (v : Value) : zL := (i, v) :: ls.filter (fun q => !(q.1 == i) && (!(q.1 == i + 1) && !(q.1 + 1 == i && q.2.category == 2)))
noncomputable def zs (pc : Nat) (ls : zL) (st : List Value) (h : zH) : Option zA := some (.inl (pc, ls, st, h))
noncomputable def zldi (k n : Nat) (ls : zL) (st : List Value) (h : zH) : Option zA := match zlv ls k with
  | some (.int x) => zs n ls (.int x :: st) h
  | _ => none
noncomputable def zldl (k n : Nat) (ls : zL) (st : List Value) (h : zH) : Option zA := match zlv ls k with
  | some (.long x) => zs n ls (.long x :: st) h
  | _ => none
noncomputable def zlda (k n : Nat) (ls : zL) (st : List Value) (h : zH) : Option zA := match zlv ls k with
  | some (.ref x) => zs n ls (.ref x :: st) h
  | some .null => zs n ls (.null :: st) h
  | _ => none
noncomputable def zsti (k n : Nat) (ls : zL) (st : List Value) (h : zH) : Option zA := match st with
  | .int x :: r => zs n (zst1 ls k (.int x)) r h
  | _ => none
noncomputable def zstl (k n : Nat) (ls : zL) (st : List Value) (h : zH) : Option zA := match st with
  | .long x :: r => zs n (zst2 ls k (.long x)) r h
  | _ => none
noncomputable def zsta (k n : Nat) (ls : zL) (st : List Value) (h : zH) : Option zA := match st with
  | .ref x :: r => zs n (zst1 ls k (.ref x)) r h
  | .null :: r => zs n (zst1 ls k .null) r h
  | _ => none
noncomputable def zii (f : Int32 → Int32 → Int32) (pc : Nat) (ls : zL) (st : List Value) (h : zH) : Option zA := match st with
  | .int y :: .int x :: r => zs (pc + 1) ls (.int (f x y) :: r) h
  | _ => none
noncomputable def ziid (f : Int32 → Int32 → Int32) (pc : Nat) (ls : zL) (st : List Value) (h : zH) : Option zA := match st with
  | .int y :: .int x :: r => bif decide (y = 0) then none else zs (pc + 1) ls (.int (f x y) :: r) h
  | _ => none
noncomputable def zll (f : Int64 → Int64 → Int64) (pc : Nat) (ls : zL) (st : List Value) (h : zH) : Option zA := match st with
  | .long y :: .long x :: r => zs (pc + 1) ls (.long (f x y) :: r) h
  | _ => none
noncomputable def zlld (f : Int64 → Int64 → Int64) (pc : Nat) (ls : zL) (st : List Value) (h : zH) : Option zA := match st with
  | .long y :: .long x :: r => bif decide (y = 0) then none else zs (pc + 1) ls (.long (f x y) :: r) h
  | _ => none
noncomputable def zlsh (f : Int64 → Int32 → Int64) (pc : Nat) (ls : zL) (st : List Value) (h : zH) : Option zA := match st with
  | .int y :: .long x :: r => zs (pc + 1) ls (.long (f x y) :: r) h
  | _ => none
noncomputable def zi1 (f : Int32 → Value) (pc : Nat) (ls : zL) (st : List Value) (h : zH) : Option zA := match st with
  | .int x :: r => zs (pc + 1) ls (f x :: r) h
  | _ => none
noncomputable def zl1 (f : Int64 → Value) (pc : Nat) (ls : zL) (st : List Value) (h : zH) : Option zA := match st with
  | .long x :: r => zs (pc + 1) ls (f x :: r) h
  | _ => none
noncomputable def zcmp : ClassFile.Cond → Int32 → Int32 → Bool
  | .eq, x, y => decide (x = y)
  | .ne, x, y => !decide (x = y)
  | .lt, x, y => decide (x < y)
  | .ge, x, y => decide (y ≤ x)
  | .gt, x, y => decide (y < x)
  | .le, x, y => decide (x ≤ y)
noncomputable def zif0 (c : ClassFile.Cond) (t n : Nat) (ls : zL) (st : List Value) (h : zH) : Option zA := match st with
  | .int x :: r => bif zcmp c x 0 then zs t ls r h else zs n ls r h
  | _ => none
noncomputable def zif2 (c : ClassFile.Cond) (t n : Nat) (ls : zL) (st : List Value) (h : zH) : Option zA := match st with
  | .int y :: .int x :: r => bif zcmp c x y then zs t ls r h else zs n ls r h
  | _ => none
noncomputable def ziald (g : zCt) (pc : Nat) (ls : zL) (st : List Value) (h : zH) : Option zA := match st with
  | .int i :: .ref a :: r => match zat h a with
    | some (.inl (0, n, f)) => bif zin i n then zs (pc + 1) ls (.int (f.getD i.toNatClampNeg 0) :: r) h else none
    | some _ => none
    | none => match zct g a with
      | some (0, n, f) => bif zin i n then zs (pc + 1) ls (.int (f i.toNatClampNeg) :: r) h else none
      | _ => none
  | _ => none
noncomputable def zbald (pc : Nat) (ls : zL) (st : List Value) (h : zH) : Option zA := match st with
  | .int i :: .ref a :: r => match zat h a with
    | some (.inl (1, n, f)) => bif zin i n then zs (pc + 1) ls (.int (f.getD i.toNatClampNeg 0) :: r) h else none
    | some (.inl (2, n, f)) => bif zin i n then zs (pc + 1) ls (.int (f.getD i.toNatClampNeg 0) :: r) h else none
    | _ => none
  | _ => none
noncomputable def zlald (pc : Nat) (ls : zL) (st : List Value) (h : zH) : Option zA := match st with
  | .int i :: .ref a :: r => match zat h a with
    | some (.inr (.inl (n, f))) => bif zin i n then zs (pc + 1) ls (.long (f.getD i.toNatClampNeg 0) :: r) h else none
    | _ => none
  | _ => none
noncomputable def zaald (pc : Nat) (ls : zL) (st : List Value) (h : zH) : Option zA := match st with
  | .int i :: .ref a :: r => match zat h a with
    | some (.inr (.inr (.inl (n, f)))) => bif zin i n then zs (pc + 1) ls (va_rf (f.getD i.toNatClampNeg none) :: r) h else none
    | _ => none
  | _ => none
noncomputable def ziast (pc : Nat) (ls : zL) (st : List Value) (h : zH) : Option zA := match st with
  | .int x :: .int i :: .ref a :: r => match zat h a with
    | some (.inl (0, n, f)) => bif zin i n then zs (pc + 1) ls r (h.set (a / 2) (.inl (0, n, zset 0 f i.toNatClampNeg x))) else none
    | _ => none
  | _ => none
noncomputable def zbast (pc : Nat) (ls : zL) (st : List Value) (h : zH) : Option zA := match st with
  | .int x :: .int i :: .ref a :: r => match zat h a with
    | some (.inl (1, n, f)) => bif zin i n then zs (pc + 1) ls r (h.set (a / 2) (.inl (1, n, zset 0 f i.toNatClampNeg (vp_nar .byte x)))) else none
    | some (.inl (2, n, f)) => bif zin i n then zs (pc + 1) ls r (h.set (a / 2) (.inl (2, n, zset 0 f i.toNatClampNeg (vp_nar .boolean x)))) else none
    | _ => none
  | _ => none
noncomputable def zlast (pc : Nat) (ls : zL) (st : List Value) (h : zH) : Option zA := match st with
  | .long x :: .int i :: .ref a :: r => match zat h a with
    | some (.inr (.inl (n, f))) => bif zin i n then zs (pc + 1) ls r (h.set (a / 2) (.inr (.inl (n, zset 0 f i.toNatClampNeg x)))) else none
    | _ => none
  | _ => none
/-- the class number of Held, the only class that an array is of -/
noncomputable def zHeld : Nat := 1
noncomputable def zaast (pc : Nat) (ls : zL) (st : List Value) (h : zH) : Option zA := match st with
  | .ref v :: .int i :: .ref a :: r => match zat h a, zat h v with
    | some (.inr (.inr (.inl (n, f)))), some (.inr (.inr (.inr (1, _)))) => bif zin i n then zs (pc + 1) ls r (h.set (a / 2) (.inr (.inr (.inl (n, zset none f i.toNatClampNeg (some v)))))) else none
    | _, _ => none
  | _ => none
noncomputable def zalen (g : zCt) (pc : Nat) (ls : zL) (st : List Value) (h : zH) : Option zA := match st with
  | .ref a :: r => match zat h a with
    | some (.inl (0, n, _)) => zs (pc + 1) ls (.int (Int32.ofNat n) :: r) h
    | some (.inl (1, n, _)) => zs (pc + 1) ls (.int (Int32.ofNat n) :: r) h
    | some (.inr (.inl (n, _))) => zs (pc + 1) ls (.int (Int32.ofNat n) :: r) h
    | some _ => none
    | none => match zct g a with
      | some (0, n, _) => zs (pc + 1) ls (.int (Int32.ofNat n) :: r) h
      | _ => none
  | _ => none
noncomputable def zget (ci k pc : Nat) (ls : zL) (st : List Value) (h : zH) : Option zA := match st with
  | .ref a :: r => match zat h a with
    | some (.inr (.inr (.inr (c, fs)))) => bif c == ci then (match fs[k]? with
      | some v => zs (pc + 3) ls (v :: r) h
      | none => none) else none
    | _ => none
  | _ => none
/-- the value's kind as a field takes it: 0 int, 1 long, 2 boolean, 3 a reference -/
noncomputable def zkind (v : Value) (t : Nat) : Bool := match v, t with
  | .int _, 0 => true
  | .long _, 1 => true
  | .int x, 2 => decide (x = 0) || decide (x = 1)
  | .ref _, 3 => true
  | .null, 3 => true
  | _, _ => false
noncomputable def zput (ci k t pc : Nat) (ls : zL) (st : List Value) (h : zH) : Option zA := match st with
  | v :: .ref a :: r => bif zkind v t then (match zat h a with
    | some (.inr (.inr (.inr (c, fs)))) => bif c == ci && Nat.blt k fs.length then zs (pc + 3) ls r (h.set (a / 2) (.inr (.inr (.inr (c, fs.set k v))))) else none
    | _ => none) else none
  | _ => none
noncomputable def ztab (K : zK) (lo hi : Int) (tg : List Nat) (ls : zL) (st : List Value) (h : zH) : Option zA := match st with
  | .int x :: r => bif decide (x.toInt < lo) || decide (hi < x.toInt) then zs K.1 ls r h else (match tg[(x.toInt - lo).toNat]? with
    | some t => zs t ls r h
    | none => none)
  | _ => none
noncomputable def zcat (st : List Value) : Nat := (st.map fun v => v.category).sum
/-- a call: the method; how many arguments (the receiver counts) and 64 times how many locals it has -/
noncomputable def zcall (y b : Nat) (st : List Value) : Option zA :=
  bif Nat.ble (b % 64) st.length && (Nat.ble (zcat (st.drop (b % 64))) 8 && Nat.ble (zcat (st.take (b % 64)).reverse) (b / 64)) then some (.inr (.inl (y, (st.take (b % 64)).reverse, st.drop (b % 64)))) else none
/-- the receiver is an object of the class ci -/
noncomputable def zrecv (ci : Nat) (as : List Value) (h : zH) : Bool := match as with
  | .ref r :: _ => (match zat h r with
    | some (.inr (.inr (.inr (c, _)))) => c == ci
    | _ => false)
  | _ => false
noncomputable def zcallV (y b ci : Nat) (st : List Value) (h : zH) : Option zA :=
  bif zrecv ci (st.take (b % 64)).reverse h then zcall y b st else none
noncomputable def zcallI (y b : Nat) (st : List Value) : Option zA := match (st.take (b % 64)).reverse with
  | .ref _ :: _ => zcall y b st
  | _ => none
/-- System.arraycopy -/
noncomputable def zcopy (n : Nat) (ls : zL) (st : List Value) (h : zH) : Option zA := match st with
  | .int c :: .int dp :: .ref a :: .int sp :: .ref b :: r =>
    bif decide (sp < 0) || (decide (dp < 0) || (decide (c < 0) || !(Nat.ble (zcat r) 8))) then none else (match zat h b, zat h a with
    | some (.inl (0, n0, f)), some (.inl (0, n1, f1)) => bif Nat.ble (sp.toNatClampNeg + c.toNatClampNeg) n0 && Nat.ble (dp.toNatClampNeg + c.toNatClampNeg) n1 then zs n ls r (h.set (a / 2) (.inl (0, n1, zcpy 0 f f1 sp.toNatClampNeg dp.toNatClampNeg c.toNatClampNeg))) else none
    | some (.inr (.inl (n0, f))), some (.inr (.inl (n1, f1))) => bif Nat.ble (sp.toNatClampNeg + c.toNatClampNeg) n0 && Nat.ble (dp.toNatClampNeg + c.toNatClampNeg) n1 then zs n ls r (h.set (a / 2) (.inr (.inl (n1, zcpy 0 f f1 sp.toNatClampNeg dp.toNatClampNeg c.toNatClampNeg)))) else none
    | _, _ => none)
  | _ => none
/-- Object's constructor -/
noncomputable def zobji (pc : Nat) (ls : zL) (st : List Value) (h : zH) : Option zA := match st with
  | .ref _ :: r => bif Nat.ble (zcat r) 8 then zs (pc + 3) ls r h else none
  | _ => none
noncomputable def znewa (t pc : Nat) (st : List Value) : Option zA := match st with
  | .int n :: r => bif decide (n < 0) || !(Nat.ble n.toNatClampNeg 67108864) then none else some (.inr (.inr (.inr (pc + 2, r, bif t == 3 then .inr (.inl (n.toNatClampNeg, [])) else .inl (t, n.toNatClampNeg, [])))))
  | _ => none
noncomputable def zanew (pc : Nat) (st : List Value) : Option zA := match st with
  | .int n :: r => bif decide (n < 0) || !(Nat.ble n.toNatClampNeg 67108864) then none else some (.inr (.inr (.inr (pc + 3, r, .inr (.inr (.inl (n.toNatClampNeg, [])))))))
  | _ => none
noncomputable def zdup2 (pc : Nat) (ls : zL) (st : List Value) (h : zH) : Option zA := match st with
  | .long x :: r => zs (pc + 1) ls (.long x :: .long x :: r) h
  | .int x :: .ref y :: r => zs (pc + 1) ls (.int x :: .ref y :: .int x :: .ref y :: r) h
  | _ => none
noncomputable def zdup (pc : Nat) (ls : zL) (st : List Value) (h : zH) : Option zA := match st with
  | .int x :: r => zs (pc + 1) ls (.int x :: .int x :: r) h
  | .ref x :: r => zs (pc + 1) ls (.ref x :: .ref x :: r) h
  | _ => none
noncomputable def zpop (pc : Nat) (ls : zL) (st : List Value) (h : zH) : Option zA := match st with
  | .int _ :: r => zs (pc + 1) ls r h
  | .ref _ :: r => zs (pc + 1) ls r h
  | _ => none
noncomputable def zpop2 (pc : Nat) (ls : zL) (st : List Value) (h : zH) : Option zA := match st with
  | .long _ :: r => zs (pc + 1) ls r h
  | _ => none
noncomputable def zret (t : Nat) (st : List Value) : Option zA := match st with
  | [.int v] => bif t == 0 || (t == 2 && (decide (v = 0) || decide (v = 1))) then some (.inr (.inr (.inl (some (.int v))))) else none
  | _ => none
noncomputable def zlret (st : List Value) : Option zA := match st with
  | [.long v] => some (.inr (.inr (.inl (some (.long v)))))
  | _ => none
noncomputable def zaret (st : List Value) : Option zA := match st with
  | [.ref v] => some (.inr (.inr (.inl (some (.ref v)))))
  | [.null] => some (.inr (.inr (.inl (some .null))))
  | _ => none
noncomputable def zvret (st : List Value) : Option zA := match st with
  | [] => some (.inr (.inr (.inl none)))
  | _ => none
/-- the fields of a new object, by its class -/
noncomputable abbrev zFs : Type := Nat → List Value
/-- one instruction; K: what was linked ahead, a branch's target, a constant's value -/
noncomputable def zins (g : zCt) (F : zFs) (tg : List Nat) (i : Instr) (K : zK) (len pc : Nat) (ls : zL) (st : List Value) (h : zH) : Option zA := match i with
  | .iconst _ => zs (pc + 1) ls (K.2.2 :: st) h
  | .bipush _ => zs (pc + 2) ls (K.2.2 :: st) h
  | .sipush _ => zs (pc + 3) ls (K.2.2 :: st) h
  | .ldc _ => zs (pc + 2) ls (K.2.2 :: st) h
  | .ldc_w _ => zs (pc + 3) ls (K.2.2 :: st) h
  | .ldc2_w _ => zs (pc + 3) ls (K.2.2 :: st) h
  | .lconst _ => zs (pc + 1) ls (K.2.2 :: st) h
  | .getstatic _ => zs (pc + 3) ls (K.2.2 :: st) h
  | .iload k => zldi k (pc + 2) ls st h
  | .iload_n k => zldi k (pc + 1) ls st h
  | .lload k => zldl k (pc + 2) ls st h
  | .lload_n k => zldl k (pc + 1) ls st h
  | .aload k => zlda k (pc + 2) ls st h
  | .aload_n k => zlda k (pc + 1) ls st h
  | .istore k => zsti k (pc + 2) ls st h
  | .istore_n k => zsti k (pc + 1) ls st h
  | .lstore k => zstl k (pc + 2) ls st h
  | .lstore_n k => zstl k (pc + 1) ls st h
  | .astore k => zsta k (pc + 2) ls st h
  | .astore_n k => zsta k (pc + 1) ls st h
  | .iinc k _ => (match zlv ls k, K.2.2 with
    | some (.int x), .int d => zs (pc + 3) (zst1 ls k (.int (x + d))) st h
    | _, _ => none)
  | .iadd => zii (fun x y => x + y) pc ls st h
  | .isub => zii (fun x y => x - y) pc ls st h
  | .imul => zii (fun x y => x * y) pc ls st h
  | .iand => zii (fun x y => x &&& y) pc ls st h
  | .ior => zii (fun x y => x ||| y) pc ls st h
  | .ixor => zii (fun x y => x ^^^ y) pc ls st h
  | .ishl => zii (fun x y => x <<< (y &&& 31)) pc ls st h
  | .ishr => zii (fun x y => x >>> (y &&& 31)) pc ls st h
  | .iushr => zii (fun x y => (x.toUInt32 >>> (y.toUInt32 &&& Int32.toUInt32 31)).toInt32) pc ls st h
  | .idiv => ziid (fun x y => x / y) pc ls st h
  | .irem => ziid (fun x y => x - x / y * y) pc ls st h
  | .ladd => zll (fun x y => x + y) pc ls st h
  | .lsub => zll (fun x y => x - y) pc ls st h
  | .lmul => zll (fun x y => x * y) pc ls st h
  | .land => zll (fun x y => x &&& y) pc ls st h
  | .lor => zll (fun x y => x ||| y) pc ls st h
  | .lxor => zll (fun x y => x ^^^ y) pc ls st h
  | .ldiv => zlld (fun x y => x / y) pc ls st h
  | .lrem => zlld (fun x y => x - x / y * y) pc ls st h
  | .lshl => zlsh (fun x y => x <<< (y.toInt64 &&& 63)) pc ls st h
  | .lshr => zlsh (fun x y => x >>> (y.toInt64 &&& 63)) pc ls st h
  | .lushr => zlsh (fun x y => (x.toUInt64 >>> (y.toInt64.toUInt64 &&& Int64.toUInt64 63)).toInt64) pc ls st h
  | .ineg => zi1 (fun x => .int (-x)) pc ls st h
  | .i2l => zi1 (fun x => .long x.toInt64) pc ls st h
  | .i2b => zi1 (fun x => .int x.toInt8.toInt32) pc ls st h
  | .i2c => zi1 (fun x => .int (x.toUInt32 % 65536).toInt32) pc ls st h
  | .l2i => zl1 (fun x => .int x.toInt32) pc ls st h
  | .lneg => zl1 (fun x => .long (-x)) pc ls st h
  | .lcmp => (match st with
    | .long y :: .long x :: r => zs (pc + 1) ls (.int (lg_cmp x y) :: r) h
    | _ => none)
  | .ifCond c _ => zif0 c K.1 (pc + 3) ls st h
  | .if_icmp c _ => zif2 c K.1 (pc + 3) ls st h
  | .goto _ => zs K.1 ls st h
  | .tableswitch _ lo hi _ => ztab K lo hi tg ls st h
  | .iaload => ziald g pc ls st h
  | .baload => zbald pc ls st h
  | .laload => zlald pc ls st h
  | .aaload => zaald pc ls st h
  | .iastore => ziast pc ls st h
  | .bastore => zbast pc ls st h
  | .lastore => zlast pc ls st h
  | .aastore => zaast pc ls st h
  | .arraylength => zalen g pc ls st h
  | .getfield _ => zget K.1 K.2.1 pc ls st h
  | .putfield _ => (match K.2.2 with
    | .retAddr t => zput K.1 K.2.1 t pc ls st h
    | _ => none)
  | .dup => zdup pc ls st h
  | .dup2 => zdup2 pc ls st h
  | .pop => zpop pc ls st h
  | .pop2 => zpop2 pc ls st h
  | .invokevirtual _ => (match K.2.2 with
    | .retAddr ci => zcallV K.1 K.2.1 ci st h
    | _ => none)
  | .invokestatic _ => (match K.2.2 with
    | .retAddr _ => zcopy (pc + 3) ls st h
    | .int _ => zcall K.1 K.2.1 st
    | _ => none)
  | .invokespecial _ => (match K.2.2 with
    | .null => zobji pc ls st h
    | .int _ => zcallI K.1 K.2.1 st
    | _ => none)
  | .new _ => some (.inr (.inr (.inr (pc + 3, st, .inr (.inr (.inr (K.1, F K.1)))))))
  | .newarray _ => znewa K.1 pc st
  | .anewarray _ => zanew pc st
  | .ireturn => zret K.1 st
  | .lreturn => zlret st
  | .areturn => zaret st
  | .return_ => zvret st
  | _ => none
/-- the cells and elements of a new cell -/
noncomputable def zsz : zE → Nat
  | .inl (_, n, _) => n
  | .inr (.inl (n, _)) => n
  | .inr (.inr (.inl (n, _))) => n
  | .inr (.inr (.inr (_, fs))) => fs.length
/-- the code: a method's number and a pc to the instruction, its length, what was linked ahead -/
noncomputable abbrev zCd : Type := Nat → Nat → Option (Instr × Nat × zK × List Nat)
noncomputable abbrev zR : Type := Option Value × zH × Nat × Nat
noncomputable abbrev zX5 : Type := Nat × List Value × zH × Nat × Nat
/-- in wordHere: the text itself, its length, its letters -/
noncomputable def zsp1 (pc : Nat) (st : List Value) (h : zH) : Option zX5 :=
  bif pc == 5 || (pc == 15 || (pc == 52 || (pc == 69 || pc == 97))) then some (pc + 2, .ref 13 :: st, h, 0, 0)
  else bif pc == 7 then (match st with
    | .ref a :: r => bif a == 13 && Nat.ble (zcat r) 8 then some (pc + 3, .int 53 :: r, h, 0, 0) else none
    | _ => none)
  else bif pc == 20 || (pc == 57 || (pc == 74 || pc == 100)) then (match st with
    | .int k :: .ref a :: r => bif a == 13 && (zin k 53 && Nat.ble (zcat r) 8) then some (pc + 3, .int (zTb.getD k.toNatClampNeg 0) :: r, h, 0, 0) else none
    | _ => none)
  else none
/-- joint, as the law calls it: what it throws is caught there -/
noncomputable def zsp2 (run : Nat → List Value → Option zR) (pc : Nat) (st : List Value) (h : zH) : Option zX5 := match st with
  | [.ref o, .int w, .int j, .ref x] => bif o == 232 && x == 0 then (match zat h 0, run 144 [.int j] with
    | some (.inr (.inr (.inr (9, _)))), some (some (.int _), _, 0, 0) =>
      bif decide (j < 0) || decide (5 < j) then some (pc + 3, [.int 1], h ++ [.inr (.inr (.inr (11, [])))], 1, 6)
      else bif decide (w < 0) || decide (3 < w) then some (pc + 3, [.int 2], h ++ [.inr (.inr (.inr (12, [])))], 1, 6)
      else (match run 105 [.ref 0, .int j, .int w] with
        | some (some (.int v), h2, 0, 0) => (match zat h2 232 with
          | some (.inr (.inl (1, f))) => some (pc + 3, [.int 0], h2.set 116 (.inr (.inl (1, zset 0 f 0 v.toInt64))), 0, 0)
          | _ => none)
        | _ => none)
    | _, _ => none) else none
  | _ => none
noncomputable def zspec (run : Nat → List Value → Option zR) (y pc : Nat) (st : List Value) (h : zH) : Option zX5 := bif y == 161 then zsp1 pc st h else bif y == 288 && pc == zJpc then zsp2 run pc st h else none
noncomputable def zrun (g : zCt) (F : zFs) (P : zCd) : Nat → Nat → Nat → zL → List Value → zH → Nat → Nat → Option zR
  | 0, _, _, _, _, _, _, _ => none
  | n + 1, y, pc, ls, st, h, dc, ds => match P y pc with
    | none => (match zspec (fun y as => zrun g F P n y 0 (lv_args 0 as) [] h 0 0) y pc st h with
      | none => none
      | some (pc2, st2, h2, d, s) => zrun g F P n y pc2 ls st2 h2 (dc + d) (ds + s))
    | some (i, len, K, tg) => match zins g F tg i K len pc ls st h with
      | none => none
      | some (.inl (pc2, ls2, st2, h2)) => zrun g F P n y pc2 ls2 st2 h2 dc ds
      | some (.inr (.inl (y2, as, rest))) => (match zrun g F P n y2 0 (lv_args 0 as) [] h 0 0 with
        | none => none
        | some (v, h2, d1, s1) => zrun g F P n y (pc + 3) ls (v.toList ++ rest) h2 (dc + d1) (ds + s1))
      | some (.inr (.inr (.inl v))) => some (v, h, dc, ds)
      | some (.inr (.inr (.inr (pc2, rest, e)))) => zrun g F P n y pc2 ls (.ref (2 * h.length) :: rest) (h ++ [e]) (dc + 1) (ds + zsz e)
