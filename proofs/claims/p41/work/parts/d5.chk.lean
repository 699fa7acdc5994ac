/-! A checker of safety: a method is run over what its values may be: ints as a symbol and a number (the symbols within ranges), longs, references among some cells, arrays of a kind and length. Cells have types: the ranges of an array's elements, the types of an object's fields. What it accepts ends safely and keeps the types: the next parts. -/
abbrev eT : Type := (Int × Int) ⊕ (Unit ⊕ ((List Nat × Bool) ⊕ (Nat × Nat × Nat)))
abbrev eV : Type := (Option Nat × Int) ⊕ (Unit ⊕ ((List Nat × Bool) ⊕ (Nat × Nat × Nat)))
/-- a cell's type: ints (kind, length, the first elements' ranges, the others'); longs; references; an object -/
abbrev eC : Type := (Nat × Nat × List (Int × Int) × (Int × Int)) ⊕ (Nat ⊕ ((Nat × List Nat) ⊕ (Nat × List eT)))
abbrev eF : Type := List (Nat × Nat × eV)
abbrev eS : Type := List (Int × Int) × List (Nat × eV) × List eV × eF
def elen (h : zH) (a : Nat) : Option (Nat × Nat) := match zat h a with
  | some (.inl (t, n, _)) => some (t, n)
  | some (.inr (.inl (n, _))) => some (3, n)
  | _ => none
def eOkT (h : zH) (t : eT) (v : Value) : Prop := match t with
  | .inl (lo, hi) => ∃ x : Int32, v = .int x ∧ lo ≤ x.toInt ∧ x.toInt ≤ hi
  | .inr (.inl _) => ∃ x : Int64, v = .long x
  | .inr (.inr (.inl (rs, nb))) => (∃ a, v = .ref a ∧ a ∈ rs) ∨ (nb = true ∧ v = .null)
  | .inr (.inr (.inr (t, n0, n1))) => ∃ a n, v = .ref a ∧ elen h a = some (t, n) ∧ n0 ≤ n ∧ n ≤ n1
def eSym (σ : List Int) (q : Option Nat × Int) (x : Int) : Prop := match q with
  | (none, o) => x = o
  | (some i, o) => ∃ s, σ[i]? = some s ∧ x = s + o
def eOkV (h : zH) (σ : List Int) (t : eV) (v : Value) : Prop := match t with
  | .inl q => ∃ x : Int32, v = .int x ∧ eSym σ q x.toInt
  | .inr (.inl _) => ∃ x : Int64, v = .long x
  | .inr (.inr (.inl (rs, nb))) => (∃ a, v = .ref a ∧ a ∈ rs) ∨ (nb = true ∧ v = .null)
  | .inr (.inr (.inr (t, n0, n1))) => ∃ a n, v = .ref a ∧ elen h a = some (t, n) ∧ n0 ≤ n ∧ n ≤ n1
def eOkC (h : zH) (c : eC) (e : zE) : Prop := match c with
  | .inl (t, n, rg, d) => ∃ f, e = .inl (t, n, f) ∧ ∀ i, i < n → (rg.getD i d).1 ≤ (f.getD i 0).toInt ∧ (f.getD i 0).toInt ≤ (rg.getD i d).2
  | .inr (.inl n) => ∃ f, e = .inr (.inl (n, f))
  | .inr (.inr (.inl (n, rs))) => ∃ f, e = .inr (.inr (.inl (n, f))) ∧ ∀ i, i < n → ∃ a, f.getD i none = some a ∧ a ∈ rs
  | .inr (.inr (.inr (ci, ts))) => ∃ fs, e = .inr (.inr (.inr (ci, fs))) ∧ fs.length = ts.length ∧ ∀ j t, ts[j]? = some t → ∃ v, fs[j]? = some v ∧ eOkT h t v
/-- every cell that has a type is of it -/
def eH (T : List eC) (h : zH) : Prop := ∀ k c, T[k]? = some c → ∃ e, h[k]? = some e ∧ eOkC h c e
def eEnv : List (Int × Int) → List Int → Prop
  | [], [] => True
  | r :: l, x :: m => (r.1 ≤ x ∧ x ≤ r.2) ∧ eEnv l m
  | _, _ => False
def eStk (h : zH) (σ : List Int) : List eV → List Value → Prop
  | [], [] => True
  | t :: l, v :: m => eOkV h σ t v ∧ eStk h σ l m
  | _, _ => False
def eFld (h : zH) (k j : Nat) (v : Value) : Prop := ∃ ci fs, h[k]? = some (.inr (.inr (.inr (ci, fs)))) ∧ fs[j]? = some v
def eOk (h : zH) (s : eS) (ls : zL) (st : List Value) (σ : List Int) : Prop :=
  eEnv s.1 σ ∧ (∀ q ∈ s.2.1, ∃ v, zlv ls q.1 = some v ∧ eOkV h σ q.2 v) ∧ eStk h σ s.2.2.1 st ∧ ∀ q ∈ s.2.2.2, ∃ v, eFld h q.1 q.2.1 v ∧ eOkV h σ q.2.2 v
/-- from one heap to the next: types kept, nothing made, what isn't among the cells S stands, lengths stand -/
def eLe (T : List eC) (S : List Nat) (h h2 : zH) : Prop := eH T h2 ∧ h2.length = h.length ∧ (∀ k, k ∉ S → h2[k]? = h[k]?) ∧ ∀ a x, elen h a = some x → elen h2 a = some x
def eMn : Int := -2147483648
def eMx : Int := 2147483647
def eTop : Int × Int := (eMn, eMx)
/-- the range of an int -/
def eRg (env : List (Int × Int)) (q : Option Nat × Int) : Option (Int × Int) := match q with
  | (none, o) => some (o, o)
  | (some i, o) => match env[i]? with
    | some r => some (r.1 + o, r.2 + o)
    | none => none
def eIn (r : Int × Int) (t : Int × Int) : Bool := decide (t.1 ≤ r.1) && decide (r.2 ≤ t.2)
def eSub {α : Type} [BEq α] (a b : List α) : Bool := a.all (fun x => b.contains x)
/-- a value is of a type -/
def eAs (T : List eC) (env : List (Int × Int)) (v : eV) (t : eT) : Bool := match v, t with
  | .inl q, .inl r => (match eRg env q with
    | some x => eIn x r
    | none => false)
  | .inr (.inl _), .inr (.inl _) => true
  | .inr (.inr (.inl (rs, nb))), .inr (.inr (.inl (rs2, nb2))) => eSub rs rs2 && (!nb || nb2)
  | .inr (.inr (.inr (k, n0, n1))), .inr (.inr (.inr (k2, m0, m1))) => k == k2 && (Nat.ble m0 n0 && Nat.ble n1 m1)
  | .inr (.inr (.inl (rs, nb))), .inr (.inr (.inr (k2, m0, m1))) => !nb && rs.all (fun a => a % 2 == 0 && (match T[a / 2]? with
    | some (.inl (k, n, _, _)) => k == k2 && (Nat.ble m0 n && Nat.ble n m1)
    | some (.inr (.inl n)) => k2 == 3 && (Nat.ble m0 n && Nat.ble n m1)
    | _ => false))
  | _, _ => false
/-- a new symbol, a constant where the range is one number -/
def eNew (s : eS) (r : Int × Int) : eS := bif decide (r.1 = r.2) then (s.1, s.2.1, .inl (none, r.1) :: s.2.2.1, s.2.2.2) else (s.1 ++ [r], s.2.1, .inl (some s.1.length, 0) :: s.2.2.1, s.2.2.2)
/-- a value of a type on the stack -/
def ePush (s : eS) (t : eT) : eS := match t with
  | .inl r => eNew s r
  | .inr (.inl _) => (s.1, s.2.1, .inr (.inl ()) :: s.2.2.1, s.2.2.2)
  | .inr (.inr (.inl x)) => (s.1, s.2.1, .inr (.inr (.inl x)) :: s.2.2.1, s.2.2.2)
  | .inr (.inr (.inr x)) => (s.1, s.2.1, .inr (.inr (.inr x)) :: s.2.2.1, s.2.2.2)
def eLv : List (Nat × eV) → Nat → Option eV
  | [], _ => none
  | q :: l, i => bif q.1 == i then some q.2 else eLv l i
def eKd : eV → Nat
  | .inl _ => 0
  | .inr (.inl _) => 1
  | .inr (.inr _) => 2
def eR (pc : Nat) (s : eS) : Option (List (Nat × eS)) := some [(pc, s)]
def eLd (kd k n : Nat) (s : eS) : Option (List (Nat × eS)) := match eLv s.2.1 k with
  | some v => bif eKd v == kd then eR n (s.1, s.2.1, v :: s.2.2.1, s.2.2.2) else none
  | none => none
def eDrop1 (l : List (Nat × eV)) (k : Nat) : List (Nat × eV) := l.filter (fun q => !(q.1 == k) && !(q.1 + 1 == k && eKd q.2 == 1))
def eDrop2 (l : List (Nat × eV)) (k : Nat) : List (Nat × eV) := l.filter (fun q => !(q.1 == k) && (!(q.1 == k + 1) && !(q.1 + 1 == k && eKd q.2 == 1)))
def eSt1 (kd k n : Nat) (s : eS) : Option (List (Nat × eS)) := match s.2.2.1 with
  | v :: r => bif eKd v == kd then eR n (s.1, (k, v) :: eDrop1 s.2.1 k, r, s.2.2.2) else none
  | _ => none
def eSt2 (k n : Nat) (s : eS) : Option (List (Nat × eS)) := match s.2.2.1 with
  | v :: r => bif eKd v == 1 then eR n (s.1, (k, v) :: eDrop2 s.2.1 k, r, s.2.2.2) else none
  | _ => none
/-- a sum that is an int: by the symbol if one side is a number -/
def eAdd (env : List (Int × Int)) (a b : Option Nat × Int) : Option ((Option Nat × Int) ⊕ (Int × Int)) := match eRg env a, eRg env b with
  | some x, some y => bif eIn (x.1 + y.1, x.2 + y.2) eTop then (match a, b with
    | (i, o), (none, p) => some (.inl (i, o + p))
    | (none, o), (some j, p) => some (.inl (some j, o + p))
    | _, _ => some (.inr (x.1 + y.1, x.2 + y.2))) else some (.inr eTop)
  | _, _ => none
def eSb (env : List (Int × Int)) (a b : Option Nat × Int) : Option ((Option Nat × Int) ⊕ (Int × Int)) := match eRg env a, eRg env b with
  | some x, some y => bif eIn (x.1 - y.2, x.2 - y.1) eTop then (match a, b with
    | (i, o), (none, p) => some (.inl (i, o - p))
    | _, _ => some (.inr (x.1 - y.2, x.2 - y.1))) else some (.inr eTop)
  | _, _ => none
def eMin4 (a b c d : Int) : Int := min (min a b) (min c d)
def eMax4 (a b c d : Int) : Int := max (max a b) (max c d)
/-- the range of an operation; none: it may not be done -/
def eBin (i : Instr) (x y : Int × Int) : Option (Int × Int) := match i with
  | .imul => let r := (eMin4 (x.1 * y.1) (x.1 * y.2) (x.2 * y.1) (x.2 * y.2), eMax4 (x.1 * y.1) (x.1 * y.2) (x.2 * y.1) (x.2 * y.2)); bif eIn r eTop then some r else some eTop
  | .iand => bif decide (0 ≤ y.1) then some (0, y.2) else bif decide (0 ≤ x.1) then some (0, x.2) else some eTop
  | .ior => bif decide (0 ≤ x.1) && (decide (0 ≤ y.1) && (decide (x.2 ≤ 255) && decide (y.2 ≤ 255))) then some (0, 255) else some eTop
  | .ixor => some eTop
  | .ishl => bif decide (x.1 = 1) && (decide (x.2 = 1) && (decide (0 ≤ y.1) && decide (y.2 ≤ 8))) then some (1, 256) else some eTop
  | .ishr => bif decide (0 ≤ x.1) then some (0, x.2) else some eTop
  | .iushr => some eTop
  | .idiv => bif decide (1 ≤ y.1) then some (min x.1 0, max x.2 0) else none
  | .irem => bif decide (1 ≤ y.1) then (bif decide (0 ≤ x.1) then some (0, y.2 - 1) else some (1 - y.2, y.2 - 1)) else none
  | _ => none
def eII (i : Instr) (pc : Nat) (s : eS) : Option (List (Nat × eS)) := match s.2.2.1 with
  | .inl b :: .inl a :: r => (match eRg s.1 a, eRg s.1 b with
    | some x, some y => (match eBin i x y with
      | some z => eR (pc + 1) (eNew (s.1, s.2.1, r, s.2.2.2) z)
      | none => none)
    | _, _ => none)
  | _ => none
def ePut (s : eS) (r : List eV) (q : (Option Nat × Int) ⊕ (Int × Int)) : eS := match q with
  | .inl v => (s.1, s.2.1, .inl v :: r, s.2.2.2)
  | .inr z => eNew (s.1, s.2.1, r, s.2.2.2) z
def eAS (f : List (Int × Int) → Option Nat × Int → Option Nat × Int → Option ((Option Nat × Int) ⊕ (Int × Int))) (pc : Nat) (s : eS) : Option (List (Nat × eS)) := match s.2.2.1 with
  | .inl b :: .inl a :: r => (match f s.1 a b with
    | some q => eR (pc + 1) (ePut s r q)
    | none => none)
  | _ => none
/-- longs: two to one; a long and an int to a long -/
def eLL (pc : Nat) (s : eS) : Option (List (Nat × eS)) := match s.2.2.1 with
  | .inr (.inl _) :: .inr (.inl _) :: r => eR (pc + 1) (s.1, s.2.1, .inr (.inl ()) :: r, s.2.2.2)
  | _ => none
def eLI (pc : Nat) (s : eS) : Option (List (Nat × eS)) := match s.2.2.1 with
  | .inl _ :: .inr (.inl _) :: r => eR (pc + 1) (s.1, s.2.1, .inr (.inl ()) :: r, s.2.2.2)
  | _ => none
/-- what a branch says: the symbols' ranges if a cmp b -/
def eTight (env : List (Int × Int)) (q : Option Nat × Int) (lo hi : Int) : List (Int × Int) := match q with
  | (none, _) => env
  | (some i, o) => match env[i]? with
    | some r => env.set i (max r.1 (lo - o), min r.2 (hi - o))
    | none => env
def eNeg : ClassFile.Cond → ClassFile.Cond
  | .eq => .ne
  | .ne => .eq
  | .lt => .ge
  | .ge => .lt
  | .gt => .le
  | .le => .gt
def eWhen (env : List (Int × Int)) (c : ClassFile.Cond) (a b : Option Nat × Int) (x y : Int × Int) : List (Int × Int) := match c with
  | .eq => eTight (eTight env a y.1 y.2) b x.1 x.2
  | .ne => bif decide (y.1 = y.2) && decide (x.1 = y.1) then eTight env a (x.1 + 1) x.2 else bif decide (y.1 = y.2) && decide (x.2 = y.1) then eTight env a x.1 (x.2 - 1) else env
  | .lt => eTight (eTight env a x.1 (y.2 - 1)) b (x.1 + 1) y.2
  | .ge => eTight (eTight env a y.1 x.2) b y.1 x.2
  | .gt => eTight (eTight env a (y.1 + 1) x.2) b y.1 (x.2 - 1)
  | .le => eTight (eTight env a x.1 y.2) b x.1 y.2
/-- can it be so at all -/
def eCan (c : ClassFile.Cond) (x y : Int × Int) : Bool := match c with
  | .eq => decide (x.1 ≤ y.2) && decide (y.1 ≤ x.2)
  | .ne => !(decide (x.1 = x.2) && (decide (y.1 = y.2) && decide (x.1 = y.1)))
  | .lt => decide (x.1 < y.2)
  | .ge => decide (y.1 ≤ x.2)
  | .gt => decide (y.1 < x.2)
  | .le => decide (x.1 ≤ y.2)
def eIf (c : ClassFile.Cond) (t n : Nat) (a b : Option Nat × Int) (s : eS) : Option (List (Nat × eS)) := match eRg s.1 a, eRg s.1 b with
  | some x, some y => some ((bif eCan c x y then [(t, (eWhen s.1 c a b x y, s.2))] else []) ++ (bif eCan (eNeg c) x y then [(n, (eWhen s.1 (eNeg c) a b x y, s.2))] else []))
  | _, _ => none
/-- the constants: their elements -/
def eCst (j : Nat) : Option (Nat × List (Int × Int)) := match j with
  | 0 => some (6, zLow.map fun x => (x.toInt, x.toInt))
  | 1 => some (6, zHigh.map fun x => (x.toInt, x.toInt))
  | 2 => some (64, zCos.map fun x => (x.toInt, x.toInt))
  | 3 => some (10, zWords.map fun x => (x.toInt, x.toInt))
  | 4 => some (17, zQuarter.map fun x => (x.toInt, x.toInt))
  | _ => none
def eJ (z r : Int × Int) : Int × Int := (min z.1 r.1, max z.2 r.2)
def eHull : List (Int × Int) → Int × Int → Int × Int
  | [], d => d
  | r :: l, d => eJ r (eHull l d)
def eAt (rg : List (Int × Int)) (d x : Int × Int) : Int × Int := bif decide (x.1 = x.2) then rg.getD x.1.toNat d else eHull rg d
def eIx (x : Int × Int) (n : Nat) : Bool := decide (0 ≤ x.1) && decide (x.2 < (n : Int))
/-- an element of an int array at an index of a range -/
def eElem (T : List eC) (ok : Nat → Bool) (a : Nat) (x : Int × Int) : Option (Int × Int) := bif a % 2 == 0 then (match T[a / 2]? with
    | some (.inl (t, n, rg, d)) => bif ok t && eIx x n then some (eAt rg d x) else none
    | _ => none) else (match eCst (a / 2) with
    | some (n, rg) => bif ok 0 && eIx x n then some (eAt rg (0, 0) x) else none
    | none => none)
def eElems (T : List eC) (ok : Nat → Bool) (x : Int × Int) : List Nat → Option (Int × Int)
  | [] => none
  | [a] => eElem T ok a x
  | a :: l => match eElem T ok a x, eElems T ok x l with
    | some z, some w => some (eJ z w)
    | _, _ => none
def eIs0 (t : Nat) : Bool := t == 0
def eIs12 (t : Nat) : Bool := t == 1 || t == 2
def eIald (T : List eC) (ok : Nat → Bool) (pc : Nat) (s : eS) : Option (List (Nat × eS)) := match s.2.2.1 with
  | .inl i :: .inr (.inr (.inl (rs, false))) :: r => (match eRg s.1 i with
    | some x => (match eElems T ok x rs with
      | some z => eR (pc + 1) (eNew (s.1, s.2.1, r, s.2.2.2) z)
      | none => none)
    | none => none)
  | .inl i :: .inr (.inr (.inr (k, n0, _))) :: r => (match eRg s.1 i with
    | some x => bif k == 0 && (ok 0 && eIx x n0) then eR (pc + 1) (eNew (s.1, s.2.1, r, s.2.2.2) eTop) else none
    | none => none)
  | _ => none
def eLongs (T : List eC) (x : Int × Int) (a : Nat) : Bool := a % 2 == 0 && (match T[a / 2]? with
  | some (.inr (.inl n)) => eIx x n
  | _ => false)
def eLald (T : List eC) (pc : Nat) (s : eS) : Option (List (Nat × eS)) := match s.2.2.1 with
  | .inl i :: .inr (.inr (.inl (rs, false))) :: r => (match eRg s.1 i with
    | some x => bif rs.all (eLongs T x) then eR (pc + 1) (s.1, s.2.1, .inr (.inl ()) :: r, s.2.2.2) else none
    | none => none)
  | .inl i :: .inr (.inr (.inr (k, n0, _))) :: r => (match eRg s.1 i with
    | some x => bif k == 3 && eIx x n0 then eR (pc + 1) (s.1, s.2.1, .inr (.inl ()) :: r, s.2.2.2) else none
    | none => none)
  | _ => none
def eAald (T : List eC) (pc : Nat) (s : eS) : Option (List (Nat × eS)) := match s.2.2.1 with
  | .inl i :: .inr (.inr (.inl ([a], false))) :: r => (match eRg s.1 i with
    | some x => bif a % 2 == 0 then (match T[a / 2]? with
      | some (.inr (.inr (.inl (n, rs)))) => bif eIx x n then eR (pc + 1) (s.1, s.2.1, .inr (.inr (.inl (rs, false))) :: r, s.2.2.2) else none
      | _ => none) else none
    | none => none)
  | _ => none
/-- a value may be put at an index of a range -/
def eFits (rg : List (Int × Int)) (d x v : Int × Int) : Bool := bif decide (x.1 = x.2) then eIn v (rg.getD x.1.toNat d) else eIn v d && rg.all (fun r => eIn v r)
def eIastC (T : List eC) (S : List Nat) (x v : Int × Int) (a : Nat) : Bool := a % 2 == 0 && (S.contains (a / 2) && (match T[a / 2]? with
  | some (.inl (t, n, rg, d)) => t == 0 && (eIx x n && eFits rg d x v)
  | _ => false))
def eIast (T : List eC) (S : List Nat) (pc : Nat) (s : eS) : Option (List (Nat × eS)) := match s.2.2.1 with
  | .inl v :: .inl i :: .inr (.inr (.inl (rs, false))) :: r => (match eRg s.1 v, eRg s.1 i with
    | some y, some x => bif rs.all (eIastC T S x y) then eR (pc + 1) (s.1, s.2.1, r, s.2.2.2) else none
    | _, _ => none)
  | _ => none
def eBastC (T : List eC) (S : List Nat) (x : Int × Int) (a : Nat) : Bool := a % 2 == 0 && (S.contains (a / 2) && (match T[a / 2]? with
  | some (.inl (t, n, rg, d)) => eIx x n && ((t == 1 && eFits rg d (0, 1) (-128, 127)) || (t == 2 && eFits rg d (0, 1) (0, 1)))
  | _ => false))
def eBast (T : List eC) (S : List Nat) (pc : Nat) (s : eS) : Option (List (Nat × eS)) := match s.2.2.1 with
  | .inl _ :: .inl i :: .inr (.inr (.inl (rs, false))) :: r => (match eRg s.1 i with
    | some x => bif rs.all (eBastC T S x) then eR (pc + 1) (s.1, s.2.1, r, s.2.2.2) else none
    | none => none)
  | _ => none
def eLastC (T : List eC) (S : List Nat) (x : Int × Int) (a : Nat) : Bool := S.contains (a / 2) && eLongs T x a
def eLast (T : List eC) (S : List Nat) (pc : Nat) (s : eS) : Option (List (Nat × eS)) := match s.2.2.1 with
  | .inr (.inl _) :: .inl i :: .inr (.inr (.inl (rs, false))) :: r => (match eRg s.1 i with
    | some x => bif rs.all (eLastC T S x) then eR (pc + 1) (s.1, s.2.1, r, s.2.2.2) else none
    | none => none)
  | _ => none
/-- an array's length -/
def eLen1 (T : List eC) (a : Nat) : Option Nat := bif a % 2 == 0 then (match T[a / 2]? with
    | some (.inl (t, n, _, _)) => bif (t == 0 || t == 1) && Nat.blt n 2147483648 then some n else none
    | some (.inr (.inl n)) => bif Nat.blt n 2147483648 then some n else none
    | _ => none) else (match eCst (a / 2) with
    | some (n, _) => some n
    | none => none)
def eAlen (T : List eC) (pc : Nat) (s : eS) : Option (List (Nat × eS)) := match s.2.2.1 with
  | .inr (.inr (.inl ([a], false))) :: r => (match eLen1 T a with
    | some n => eR (pc + 1) (s.1, s.2.1, .inl (none, (n : Int)) :: r, s.2.2.2)
    | none => none)
  | .inr (.inr (.inr (k, n0, n1))) :: r => bif (k == 0 || (k == 1 || k == 3)) && Nat.blt n1 2147483648 then eR (pc + 1) (eNew (s.1, s.2.1, r, s.2.2.2) ((n0 : Int), (n1 : Int))) else none
  | _ => none
def eFty (T : List eC) (ci j a : Nat) : Option eT := bif a % 2 == 0 then (match T[a / 2]? with
    | some (.inr (.inr (.inr (c, ts)))) => bif c == ci then ts[j]? else none
    | _ => none) else none
def eJT (a b : eT) : Option eT := match a, b with
  | .inl x, .inl y => some (.inl (eJ x y))
  | .inr (.inl _), .inr (.inl _) => some (.inr (.inl ()))
  | .inr (.inr (.inl (r, n))), .inr (.inr (.inl (r2, n2))) => some (.inr (.inr (.inl (r ++ r2, n || n2))))
  | _, _ => none
def eFtys (T : List eC) (ci j : Nat) : List Nat → Option eT
  | [] => none
  | [a] => eFty T ci j a
  | a :: l => match eFty T ci j a, eFtys T ci j l with
    | some x, some y => eJT x y
    | _, _ => none
def eFv : eF → Nat → Nat → Option eV
  | [], _, _ => none
  | q :: l, k, j => bif q.1 == k && q.2.1 == j then some q.2.2 else eFv l k j
/-- the top of the stack is what the field holds -/
def eNote (s : eS) (k j : Nat) : eS := match s.2.2.1 with
  | v :: _ => (s.1, s.2.1, s.2.2.1, (k, j, v) :: s.2.2.2)
  | [] => s
def eGetf (T : List eC) (ci j pc : Nat) (s : eS) : Option (List (Nat × eS)) := match s.2.2.1 with
  | .inr (.inr (.inl ([a], false))) :: r => (match eFty T ci j a with
    | some t => (match eFv s.2.2.2 (a / 2) j with
      | some v => eR (pc + 3) (s.1, s.2.1, v :: r, s.2.2.2)
      | none => eR (pc + 3) (eNote (ePush (s.1, s.2.1, r, s.2.2.2) t) (a / 2) j))
    | none => none)
  | .inr (.inr (.inl (rs, false))) :: r => (match eFtys T ci j rs with
    | some t => eR (pc + 3) (ePush (s.1, s.2.1, r, s.2.2.2) t)
    | none => none)
  | _ => none
def eFkind (env : List (Int × Int)) (v : eV) (t : Nat) : Bool := match v, t with
  | .inl _, 0 => true
  | .inr (.inl _), 1 => true
  | .inl q, 2 => (match eRg env q with
    | some x => eIn x (0, 1)
    | none => false)
  | .inr (.inr _), 3 => true
  | _, _ => false
def ePutC (T : List eC) (S : List Nat) (env : List (Int × Int)) (v : eV) (ci j a : Nat) : Bool := S.contains (a / 2) && (match eFty T ci j a with
  | some t => eAs T env v t
  | none => false)
def eForget (f : eF) (rs : List Nat) (j : Nat) : eF := f.filter (fun q => !(q.2.1 == j && rs.contains (2 * q.1)))
def ePutf (T : List eC) (S : List Nat) (ci j t pc : Nat) (s : eS) : Option (List (Nat × eS)) := match s.2.2.1 with
  | v :: .inr (.inr (.inl (rs, false))) :: r => bif eFkind s.1 v t && rs.all (ePutC T S s.1 v ci j) then eR (pc + 3) (s.1, s.2.1, r, (match rs with
    | [a] => (a / 2, j, v) :: eForget s.2.2.2 rs j
    | _ => eForget s.2.2.2 rs j)) else none
  | _ => none
def eTab (K : zK) (lo hi : Int) (tg : List Nat) (s : eS) : Option (List (Nat × eS)) := match s.2.2.1 with
  | .inl q :: r => (match eRg s.1 q with
    | some x => bif tg.length == (hi - lo + 1).toNat then some ((K.1, (s.1, s.2.1, r, s.2.2.2)) :: tg.map (fun t => (t, (s.1, s.2.1, r, s.2.2.2)))) else none
    | none => none)
  | _ => none
def eKv (v : Value) : Option eV := match v with
  | .int x => some (.inl (none, x.toInt))
  | .long _ => some (.inr (.inl ()))
  | .ref a => some (.inr (.inr (.inl ([a], false))))
  | .null => some (.inr (.inr (.inl ([], true))))
  | _ => none
def eCn (n : Nat) (K : zK) (s : eS) : Option (List (Nat × eS)) := match eKv K.2.2 with
  | some v => eR n (s.1, s.2.1, v :: s.2.2.1, s.2.2.2)
  | none => none
def eI1 (f : Int × Int → eT) (pc : Nat) (s : eS) : Option (List (Nat × eS)) := match s.2.2.1 with
  | .inl q :: r => (match eRg s.1 q with
    | some x => eR (pc + 1) (ePush (s.1, s.2.1, r, s.2.2.2) (f x))
    | none => none)
  | _ => none
def eL1 (t : eT) (pc : Nat) (s : eS) : Option (List (Nat × eS)) := match s.2.2.1 with
  | .inr (.inl _) :: r => eR (pc + 1) (ePush (s.1, s.2.1, r, s.2.2.2) t)
  | _ => none
def eNg (x : Int × Int) : eT := bif decide (eMn < x.1) then .inl (-x.2, -x.1) else .inl eTop
def eDup (pc : Nat) (s : eS) : Option (List (Nat × eS)) := match s.2.2.1 with
  | .inl q :: r => eR (pc + 1) (s.1, s.2.1, .inl q :: .inl q :: r, s.2.2.2)
  | .inr (.inr (.inl (rs, false))) :: r => eR (pc + 1) (s.1, s.2.1, .inr (.inr (.inl (rs, false))) :: .inr (.inr (.inl (rs, false))) :: r, s.2.2.2)
  | _ => none
def eDup2 (pc : Nat) (s : eS) : Option (List (Nat × eS)) := match s.2.2.1 with
  | .inr (.inl _) :: r => eR (pc + 1) (s.1, s.2.1, .inr (.inl ()) :: .inr (.inl ()) :: r, s.2.2.2)
  | .inl q :: .inr (.inr (.inl (rs, false))) :: r => eR (pc + 1) (s.1, s.2.1, .inl q :: .inr (.inr (.inl (rs, false))) :: .inl q :: .inr (.inr (.inl (rs, false))) :: r, s.2.2.2)
  | _ => none
def ePop (pc : Nat) (s : eS) : Option (List (Nat × eS)) := match s.2.2.1 with
  | .inl _ :: r => eR (pc + 1) (s.1, s.2.1, r, s.2.2.2)
  | .inr (.inr (.inl (_, false))) :: r => eR (pc + 1) (s.1, s.2.1, r, s.2.2.2)
  | .inr (.inr (.inr _)) :: r => eR (pc + 1) (s.1, s.2.1, r, s.2.2.2)
  | _ => none
def ePop2 (pc : Nat) (s : eS) : Option (List (Nat × eS)) := match s.2.2.1 with
  | .inr (.inl _) :: r => eR (pc + 1) (s.1, s.2.1, r, s.2.2.2)
  | _ => none
def eIinc (k pc : Nat) (K : zK) (s : eS) : Option (List (Nat × eS)) := match eLv s.2.1 k, K.2.2 with
  | some (.inl q), .int d => (match eAdd s.1 q (none, d.toInt) with
    | some w => (match (ePut s s.2.2.1 w).2.2.1 with
      | v :: _ => eR (pc + 3) ((ePut s s.2.2.1 w).1, (k, v) :: eDrop1 s.2.1 k, s.2.2.1, s.2.2.2)
      | [] => none)
    | none => none)
  | _, _ => none
/-- one instruction that calls nothing -/
def eOne (T : List eC) (S : List Nat) (tg : List Nat) (i : Instr) (K : zK) (pc : Nat) (s : eS) : Option (List (Nat × eS)) := match i with
  | .iconst _ => eCn (pc + 1) K s
  | .bipush _ => eCn (pc + 2) K s
  | .sipush _ => eCn (pc + 3) K s
  | .ldc _ => eCn (pc + 2) K s
  | .ldc_w _ => eCn (pc + 3) K s
  | .ldc2_w _ => eCn (pc + 3) K s
  | .lconst _ => eCn (pc + 1) K s
  | .getstatic _ => eCn (pc + 3) K s
  | .iload k => eLd 0 k (pc + 2) s
  | .iload_n k => eLd 0 k (pc + 1) s
  | .lload k => eLd 1 k (pc + 2) s
  | .lload_n k => eLd 1 k (pc + 1) s
  | .aload k => eLd 2 k (pc + 2) s
  | .aload_n k => eLd 2 k (pc + 1) s
  | .istore k => eSt1 0 k (pc + 2) s
  | .istore_n k => eSt1 0 k (pc + 1) s
  | .lstore k => eSt2 k (pc + 2) s
  | .lstore_n k => eSt2 k (pc + 1) s
  | .astore k => eSt1 2 k (pc + 2) s
  | .astore_n k => eSt1 2 k (pc + 1) s
  | .iinc k _ => eIinc k pc K s
  | .iadd => eAS eAdd pc s
  | .isub => eAS eSb pc s
  | .imul => eII .imul pc s
  | .iand => eII .iand pc s
  | .ior => eII .ior pc s
  | .ixor => eII .ixor pc s
  | .ishl => eII .ishl pc s
  | .ishr => eII .ishr pc s
  | .iushr => eII .iushr pc s
  | .idiv => eII .idiv pc s
  | .irem => eII .irem pc s
  | .ladd => eLL pc s
  | .lsub => eLL pc s
  | .lmul => eLL pc s
  | .land => eLL pc s
  | .lor => eLL pc s
  | .lxor => eLL pc s
  | .lshl => eLI pc s
  | .lshr => eLI pc s
  | .lushr => eLI pc s
  | .ineg => eI1 eNg pc s
  | .i2l => eI1 (fun _ => .inr (.inl ())) pc s
  | .i2b => eI1 (fun _ => .inl (-128, 127)) pc s
  | .l2i => eL1 (.inl eTop) pc s
  | .lneg => eL1 (.inr (.inl ())) pc s
  | .lcmp => (match s.2.2.1 with
    | .inr (.inl _) :: .inr (.inl _) :: r => eR (pc + 1) (eNew (s.1, s.2.1, r, s.2.2.2) (-1, 1))
    | _ => none)
  | .ifCond c _ => (match s.2.2.1 with
    | .inl a :: r => eIf c K.1 (pc + 3) a (none, 0) (s.1, s.2.1, r, s.2.2.2)
    | _ => none)
  | .if_icmp c _ => (match s.2.2.1 with
    | .inl b :: .inl a :: r => eIf c K.1 (pc + 3) a b (s.1, s.2.1, r, s.2.2.2)
    | _ => none)
  | .goto _ => eR K.1 s
  | .tableswitch _ lo hi _ => eTab K lo hi tg s
  | .iaload => eIald T eIs0 pc s
  | .baload => eIald T eIs12 pc s
  | .laload => eLald T pc s
  | .aaload => eAald T pc s
  | .iastore => eIast T S pc s
  | .bastore => eBast T S pc s
  | .lastore => eLast T S pc s
  | .arraylength => eAlen T pc s
  | .getfield _ => eGetf T K.1 K.2.1 pc s
  | .putfield _ => (match K.2.2 with
    | .retAddr t => ePutf T S K.1 K.2.1 t pc s
    | _ => none)
  | .dup => eDup pc s
  | .dup2 => eDup2 pc s
  | .pop => ePop pc s
  | .pop2 => ePop2 pc s
  | _ => none
