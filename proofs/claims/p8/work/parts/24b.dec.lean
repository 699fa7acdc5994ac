/-! A plain reader of the instructions that the code has; decode reads them so. -/
theorem zu1_at {b : ByteArray} {p : Nat} {x : UInt8} (h : b.data.toList[p]? = some x) : (Reader.u1 : Decoder Nat) b p = .ok (x.toNat, p + 1) := by
  obtain ⟨⟨l⟩⟩ := b
  obtain ⟨hp, hx⟩ := List.getElem?_eq_some_iff.mp h
  have hp2 : p < (ByteArray.mk ⟨l⟩).size := hp
  show (dite (p < (ByteArray.mk ⟨l⟩).size) (fun h => ((do set (p + 1); pure ((ByteArray.mk ⟨l⟩)[p]'h).toNat) : Decoder Nat)) (fun _ => throw (HasTruncated.truncated p))) (ByteArray.mk ⟨l⟩) p = _
  rw [dif_pos hp2]
  show Except.ok (((ByteArray.mk ⟨l⟩)[p]'hp2).toNat, p + 1) = _
  rw [show (ByteArray.mk ⟨l⟩)[p]'hp2 = x from hx]
theorem zbind_at {α β : Type} {r : Decoder α} {f : α → Decoder β} {b : ByteArray} {p q : Nat} {a : α} (h : r b p = .ok (a, q)) : (r >>= f) b p = f a b q := by
  have e : (r >>= f) b p = Except.bind (r b p) (fun x => f x.1 b x.2) := rfl
  rw [e, h]
  rfl
theorem zmap_at {α β : Type} {r : Decoder α} {f : α → β} {b : ByteArray} {p q : Nat} {a : α} (h : r b p = .ok (a, q)) : (f <$> r) b p = .ok (f a, q) := by
  have e : (f <$> r) b p = Except.bind (r b p) (fun x => .ok (f x.1, x.2)) := rfl
  rw [e, h]
  rfl
theorem zu2_at {b : ByteArray} {p : Nat} {x y : UInt8} (h : b.data.toList[p]? = some x) (h2 : b.data.toList[p + 1]? = some y) : (Reader.u2 : Decoder Nat) b p = .ok (x.toNat * 256 + y.toNat, p + 2) := by
  unfold Reader.u2
  rw [zbind_at (zu1_at h), zbind_at (zu1_at h2)]
  rfl
theorem zs1_at {b : ByteArray} {p : Nat} {x : UInt8} (h : b.data.toList[p]? = some x) : (Reader.s1 : Decoder Int) b p = .ok (Reader.signed 8 x.toNat, p + 1) := zmap_at (zu1_at h)
theorem zs2_at {b : ByteArray} {p : Nat} {x y : UInt8} (h : b.data.toList[p]? = some x) (h2 : b.data.toList[p + 1]? = some y) : (Reader.s2 : Decoder Int) b p = .ok (Reader.signed 16 (x.toNat * 256 + y.toNat), p + 2) := zmap_at (zu2_at h h2)
theorem zdc_of {b : ByteArray} {pc q n : Nat} {i : Instr} (h : Decoder.instr pc b pc = .ok (i, q)) (hq : q - pc = n) : decode b pc = .ok (i, n) := by
  have e : decode b pc = Except.bind (Decoder.instr pc b pc) (fun x => .ok (x.1, x.2 - pc)) := rfl
  rw [e, h]
  subst hq
  rfl
theorem and_true_iff_z {a b : Bool} (h : (a && b) = true) : a = true ∧ b = true := by
  cases a
  · cases h
  · exact ⟨rfl, h⟩
set_option maxRecDepth 100000 in
theorem zd_2 {b : ByteArray} {pc : Nat} {a : UInt8} (h : b.data.toList[pc]? = some a) (ha : a.toNat = 2) : decode b pc = .ok (.iconst (-1), 1) := zdc_of (q := pc + 1) (by unfold Decoder.instr; rw [zbind_at (zu1_at h), ha]; rfl) (by omega)
set_option maxRecDepth 100000 in
theorem zd_3 {b : ByteArray} {pc : Nat} {a : UInt8} (h : b.data.toList[pc]? = some a) (ha : a.toNat = 3) : decode b pc = .ok (.iconst 0, 1) := zdc_of (q := pc + 1) (by unfold Decoder.instr; rw [zbind_at (zu1_at h), ha]; rfl) (by omega)
set_option maxRecDepth 100000 in
theorem zd_4 {b : ByteArray} {pc : Nat} {a : UInt8} (h : b.data.toList[pc]? = some a) (ha : a.toNat = 4) : decode b pc = .ok (.iconst 1, 1) := zdc_of (q := pc + 1) (by unfold Decoder.instr; rw [zbind_at (zu1_at h), ha]; rfl) (by omega)
set_option maxRecDepth 100000 in
theorem zd_5 {b : ByteArray} {pc : Nat} {a : UInt8} (h : b.data.toList[pc]? = some a) (ha : a.toNat = 5) : decode b pc = .ok (.iconst 2, 1) := zdc_of (q := pc + 1) (by unfold Decoder.instr; rw [zbind_at (zu1_at h), ha]; rfl) (by omega)
set_option maxRecDepth 100000 in
theorem zd_6 {b : ByteArray} {pc : Nat} {a : UInt8} (h : b.data.toList[pc]? = some a) (ha : a.toNat = 6) : decode b pc = .ok (.iconst 3, 1) := zdc_of (q := pc + 1) (by unfold Decoder.instr; rw [zbind_at (zu1_at h), ha]; rfl) (by omega)
set_option maxRecDepth 100000 in
theorem zd_7 {b : ByteArray} {pc : Nat} {a : UInt8} (h : b.data.toList[pc]? = some a) (ha : a.toNat = 7) : decode b pc = .ok (.iconst 4, 1) := zdc_of (q := pc + 1) (by unfold Decoder.instr; rw [zbind_at (zu1_at h), ha]; rfl) (by omega)
set_option maxRecDepth 100000 in
theorem zd_8 {b : ByteArray} {pc : Nat} {a : UInt8} (h : b.data.toList[pc]? = some a) (ha : a.toNat = 8) : decode b pc = .ok (.iconst 5, 1) := zdc_of (q := pc + 1) (by unfold Decoder.instr; rw [zbind_at (zu1_at h), ha]; rfl) (by omega)
set_option maxRecDepth 100000 in
theorem zd_9 {b : ByteArray} {pc : Nat} {a : UInt8} (h : b.data.toList[pc]? = some a) (ha : a.toNat = 9) : decode b pc = .ok (.lconst 0, 1) := zdc_of (q := pc + 1) (by unfold Decoder.instr; rw [zbind_at (zu1_at h), ha]; rfl) (by omega)
set_option maxRecDepth 100000 in
theorem zd_10 {b : ByteArray} {pc : Nat} {a : UInt8} (h : b.data.toList[pc]? = some a) (ha : a.toNat = 10) : decode b pc = .ok (.lconst 1, 1) := zdc_of (q := pc + 1) (by unfold Decoder.instr; rw [zbind_at (zu1_at h), ha]; rfl) (by omega)
set_option maxRecDepth 100000 in
theorem zd_26 {b : ByteArray} {pc : Nat} {a : UInt8} (h : b.data.toList[pc]? = some a) (ha : a.toNat = 26) : decode b pc = .ok (.iload_n 0, 1) := zdc_of (q := pc + 1) (by unfold Decoder.instr; rw [zbind_at (zu1_at h), ha]; rfl) (by omega)
set_option maxRecDepth 100000 in
theorem zd_27 {b : ByteArray} {pc : Nat} {a : UInt8} (h : b.data.toList[pc]? = some a) (ha : a.toNat = 27) : decode b pc = .ok (.iload_n 1, 1) := zdc_of (q := pc + 1) (by unfold Decoder.instr; rw [zbind_at (zu1_at h), ha]; rfl) (by omega)
set_option maxRecDepth 100000 in
theorem zd_28 {b : ByteArray} {pc : Nat} {a : UInt8} (h : b.data.toList[pc]? = some a) (ha : a.toNat = 28) : decode b pc = .ok (.iload_n 2, 1) := zdc_of (q := pc + 1) (by unfold Decoder.instr; rw [zbind_at (zu1_at h), ha]; rfl) (by omega)
set_option maxRecDepth 100000 in
theorem zd_29 {b : ByteArray} {pc : Nat} {a : UInt8} (h : b.data.toList[pc]? = some a) (ha : a.toNat = 29) : decode b pc = .ok (.iload_n 3, 1) := zdc_of (q := pc + 1) (by unfold Decoder.instr; rw [zbind_at (zu1_at h), ha]; rfl) (by omega)
set_option maxRecDepth 100000 in
theorem zd_30 {b : ByteArray} {pc : Nat} {a : UInt8} (h : b.data.toList[pc]? = some a) (ha : a.toNat = 30) : decode b pc = .ok (.lload_n 0, 1) := zdc_of (q := pc + 1) (by unfold Decoder.instr; rw [zbind_at (zu1_at h), ha]; rfl) (by omega)
set_option maxRecDepth 100000 in
theorem zd_31 {b : ByteArray} {pc : Nat} {a : UInt8} (h : b.data.toList[pc]? = some a) (ha : a.toNat = 31) : decode b pc = .ok (.lload_n 1, 1) := zdc_of (q := pc + 1) (by unfold Decoder.instr; rw [zbind_at (zu1_at h), ha]; rfl) (by omega)
set_option maxRecDepth 100000 in
theorem zd_32 {b : ByteArray} {pc : Nat} {a : UInt8} (h : b.data.toList[pc]? = some a) (ha : a.toNat = 32) : decode b pc = .ok (.lload_n 2, 1) := zdc_of (q := pc + 1) (by unfold Decoder.instr; rw [zbind_at (zu1_at h), ha]; rfl) (by omega)
set_option maxRecDepth 100000 in
theorem zd_33 {b : ByteArray} {pc : Nat} {a : UInt8} (h : b.data.toList[pc]? = some a) (ha : a.toNat = 33) : decode b pc = .ok (.lload_n 3, 1) := zdc_of (q := pc + 1) (by unfold Decoder.instr; rw [zbind_at (zu1_at h), ha]; rfl) (by omega)
set_option maxRecDepth 100000 in
theorem zd_42 {b : ByteArray} {pc : Nat} {a : UInt8} (h : b.data.toList[pc]? = some a) (ha : a.toNat = 42) : decode b pc = .ok (.aload_n 0, 1) := zdc_of (q := pc + 1) (by unfold Decoder.instr; rw [zbind_at (zu1_at h), ha]; rfl) (by omega)
set_option maxRecDepth 100000 in
theorem zd_43 {b : ByteArray} {pc : Nat} {a : UInt8} (h : b.data.toList[pc]? = some a) (ha : a.toNat = 43) : decode b pc = .ok (.aload_n 1, 1) := zdc_of (q := pc + 1) (by unfold Decoder.instr; rw [zbind_at (zu1_at h), ha]; rfl) (by omega)
set_option maxRecDepth 100000 in
theorem zd_44 {b : ByteArray} {pc : Nat} {a : UInt8} (h : b.data.toList[pc]? = some a) (ha : a.toNat = 44) : decode b pc = .ok (.aload_n 2, 1) := zdc_of (q := pc + 1) (by unfold Decoder.instr; rw [zbind_at (zu1_at h), ha]; rfl) (by omega)
set_option maxRecDepth 100000 in
theorem zd_45 {b : ByteArray} {pc : Nat} {a : UInt8} (h : b.data.toList[pc]? = some a) (ha : a.toNat = 45) : decode b pc = .ok (.aload_n 3, 1) := zdc_of (q := pc + 1) (by unfold Decoder.instr; rw [zbind_at (zu1_at h), ha]; rfl) (by omega)
set_option maxRecDepth 100000 in
theorem zd_46 {b : ByteArray} {pc : Nat} {a : UInt8} (h : b.data.toList[pc]? = some a) (ha : a.toNat = 46) : decode b pc = .ok (.iaload, 1) := zdc_of (q := pc + 1) (by unfold Decoder.instr; rw [zbind_at (zu1_at h), ha]; rfl) (by omega)
set_option maxRecDepth 100000 in
theorem zd_47 {b : ByteArray} {pc : Nat} {a : UInt8} (h : b.data.toList[pc]? = some a) (ha : a.toNat = 47) : decode b pc = .ok (.laload, 1) := zdc_of (q := pc + 1) (by unfold Decoder.instr; rw [zbind_at (zu1_at h), ha]; rfl) (by omega)
set_option maxRecDepth 100000 in
theorem zd_50 {b : ByteArray} {pc : Nat} {a : UInt8} (h : b.data.toList[pc]? = some a) (ha : a.toNat = 50) : decode b pc = .ok (.aaload, 1) := zdc_of (q := pc + 1) (by unfold Decoder.instr; rw [zbind_at (zu1_at h), ha]; rfl) (by omega)
set_option maxRecDepth 100000 in
theorem zd_51 {b : ByteArray} {pc : Nat} {a : UInt8} (h : b.data.toList[pc]? = some a) (ha : a.toNat = 51) : decode b pc = .ok (.baload, 1) := zdc_of (q := pc + 1) (by unfold Decoder.instr; rw [zbind_at (zu1_at h), ha]; rfl) (by omega)
set_option maxRecDepth 100000 in
theorem zd_59 {b : ByteArray} {pc : Nat} {a : UInt8} (h : b.data.toList[pc]? = some a) (ha : a.toNat = 59) : decode b pc = .ok (.istore_n 0, 1) := zdc_of (q := pc + 1) (by unfold Decoder.instr; rw [zbind_at (zu1_at h), ha]; rfl) (by omega)
set_option maxRecDepth 100000 in
theorem zd_60 {b : ByteArray} {pc : Nat} {a : UInt8} (h : b.data.toList[pc]? = some a) (ha : a.toNat = 60) : decode b pc = .ok (.istore_n 1, 1) := zdc_of (q := pc + 1) (by unfold Decoder.instr; rw [zbind_at (zu1_at h), ha]; rfl) (by omega)
set_option maxRecDepth 100000 in
theorem zd_61 {b : ByteArray} {pc : Nat} {a : UInt8} (h : b.data.toList[pc]? = some a) (ha : a.toNat = 61) : decode b pc = .ok (.istore_n 2, 1) := zdc_of (q := pc + 1) (by unfold Decoder.instr; rw [zbind_at (zu1_at h), ha]; rfl) (by omega)
set_option maxRecDepth 100000 in
theorem zd_62 {b : ByteArray} {pc : Nat} {a : UInt8} (h : b.data.toList[pc]? = some a) (ha : a.toNat = 62) : decode b pc = .ok (.istore_n 3, 1) := zdc_of (q := pc + 1) (by unfold Decoder.instr; rw [zbind_at (zu1_at h), ha]; rfl) (by omega)
set_option maxRecDepth 100000 in
theorem zd_63 {b : ByteArray} {pc : Nat} {a : UInt8} (h : b.data.toList[pc]? = some a) (ha : a.toNat = 63) : decode b pc = .ok (.lstore_n 0, 1) := zdc_of (q := pc + 1) (by unfold Decoder.instr; rw [zbind_at (zu1_at h), ha]; rfl) (by omega)
set_option maxRecDepth 100000 in
theorem zd_64 {b : ByteArray} {pc : Nat} {a : UInt8} (h : b.data.toList[pc]? = some a) (ha : a.toNat = 64) : decode b pc = .ok (.lstore_n 1, 1) := zdc_of (q := pc + 1) (by unfold Decoder.instr; rw [zbind_at (zu1_at h), ha]; rfl) (by omega)
set_option maxRecDepth 100000 in
theorem zd_65 {b : ByteArray} {pc : Nat} {a : UInt8} (h : b.data.toList[pc]? = some a) (ha : a.toNat = 65) : decode b pc = .ok (.lstore_n 2, 1) := zdc_of (q := pc + 1) (by unfold Decoder.instr; rw [zbind_at (zu1_at h), ha]; rfl) (by omega)
set_option maxRecDepth 100000 in
theorem zd_66 {b : ByteArray} {pc : Nat} {a : UInt8} (h : b.data.toList[pc]? = some a) (ha : a.toNat = 66) : decode b pc = .ok (.lstore_n 3, 1) := zdc_of (q := pc + 1) (by unfold Decoder.instr; rw [zbind_at (zu1_at h), ha]; rfl) (by omega)
set_option maxRecDepth 100000 in
theorem zd_75 {b : ByteArray} {pc : Nat} {a : UInt8} (h : b.data.toList[pc]? = some a) (ha : a.toNat = 75) : decode b pc = .ok (.astore_n 0, 1) := zdc_of (q := pc + 1) (by unfold Decoder.instr; rw [zbind_at (zu1_at h), ha]; rfl) (by omega)
set_option maxRecDepth 100000 in
theorem zd_76 {b : ByteArray} {pc : Nat} {a : UInt8} (h : b.data.toList[pc]? = some a) (ha : a.toNat = 76) : decode b pc = .ok (.astore_n 1, 1) := zdc_of (q := pc + 1) (by unfold Decoder.instr; rw [zbind_at (zu1_at h), ha]; rfl) (by omega)
set_option maxRecDepth 100000 in
theorem zd_77 {b : ByteArray} {pc : Nat} {a : UInt8} (h : b.data.toList[pc]? = some a) (ha : a.toNat = 77) : decode b pc = .ok (.astore_n 2, 1) := zdc_of (q := pc + 1) (by unfold Decoder.instr; rw [zbind_at (zu1_at h), ha]; rfl) (by omega)
set_option maxRecDepth 100000 in
theorem zd_78 {b : ByteArray} {pc : Nat} {a : UInt8} (h : b.data.toList[pc]? = some a) (ha : a.toNat = 78) : decode b pc = .ok (.astore_n 3, 1) := zdc_of (q := pc + 1) (by unfold Decoder.instr; rw [zbind_at (zu1_at h), ha]; rfl) (by omega)
set_option maxRecDepth 100000 in
theorem zd_79 {b : ByteArray} {pc : Nat} {a : UInt8} (h : b.data.toList[pc]? = some a) (ha : a.toNat = 79) : decode b pc = .ok (.iastore, 1) := zdc_of (q := pc + 1) (by unfold Decoder.instr; rw [zbind_at (zu1_at h), ha]; rfl) (by omega)
set_option maxRecDepth 100000 in
theorem zd_80 {b : ByteArray} {pc : Nat} {a : UInt8} (h : b.data.toList[pc]? = some a) (ha : a.toNat = 80) : decode b pc = .ok (.lastore, 1) := zdc_of (q := pc + 1) (by unfold Decoder.instr; rw [zbind_at (zu1_at h), ha]; rfl) (by omega)
set_option maxRecDepth 100000 in
theorem zd_83 {b : ByteArray} {pc : Nat} {a : UInt8} (h : b.data.toList[pc]? = some a) (ha : a.toNat = 83) : decode b pc = .ok (.aastore, 1) := zdc_of (q := pc + 1) (by unfold Decoder.instr; rw [zbind_at (zu1_at h), ha]; rfl) (by omega)
set_option maxRecDepth 100000 in
theorem zd_84 {b : ByteArray} {pc : Nat} {a : UInt8} (h : b.data.toList[pc]? = some a) (ha : a.toNat = 84) : decode b pc = .ok (.bastore, 1) := zdc_of (q := pc + 1) (by unfold Decoder.instr; rw [zbind_at (zu1_at h), ha]; rfl) (by omega)
set_option maxRecDepth 100000 in
theorem zd_87 {b : ByteArray} {pc : Nat} {a : UInt8} (h : b.data.toList[pc]? = some a) (ha : a.toNat = 87) : decode b pc = .ok (.pop, 1) := zdc_of (q := pc + 1) (by unfold Decoder.instr; rw [zbind_at (zu1_at h), ha]; rfl) (by omega)
set_option maxRecDepth 100000 in
theorem zd_88 {b : ByteArray} {pc : Nat} {a : UInt8} (h : b.data.toList[pc]? = some a) (ha : a.toNat = 88) : decode b pc = .ok (.pop2, 1) := zdc_of (q := pc + 1) (by unfold Decoder.instr; rw [zbind_at (zu1_at h), ha]; rfl) (by omega)
set_option maxRecDepth 100000 in
theorem zd_89 {b : ByteArray} {pc : Nat} {a : UInt8} (h : b.data.toList[pc]? = some a) (ha : a.toNat = 89) : decode b pc = .ok (.dup, 1) := zdc_of (q := pc + 1) (by unfold Decoder.instr; rw [zbind_at (zu1_at h), ha]; rfl) (by omega)
set_option maxRecDepth 100000 in
theorem zd_92 {b : ByteArray} {pc : Nat} {a : UInt8} (h : b.data.toList[pc]? = some a) (ha : a.toNat = 92) : decode b pc = .ok (.dup2, 1) := zdc_of (q := pc + 1) (by unfold Decoder.instr; rw [zbind_at (zu1_at h), ha]; rfl) (by omega)
set_option maxRecDepth 100000 in
theorem zd_96 {b : ByteArray} {pc : Nat} {a : UInt8} (h : b.data.toList[pc]? = some a) (ha : a.toNat = 96) : decode b pc = .ok (.iadd, 1) := zdc_of (q := pc + 1) (by unfold Decoder.instr; rw [zbind_at (zu1_at h), ha]; rfl) (by omega)
set_option maxRecDepth 100000 in
theorem zd_97 {b : ByteArray} {pc : Nat} {a : UInt8} (h : b.data.toList[pc]? = some a) (ha : a.toNat = 97) : decode b pc = .ok (.ladd, 1) := zdc_of (q := pc + 1) (by unfold Decoder.instr; rw [zbind_at (zu1_at h), ha]; rfl) (by omega)
set_option maxRecDepth 100000 in
theorem zd_100 {b : ByteArray} {pc : Nat} {a : UInt8} (h : b.data.toList[pc]? = some a) (ha : a.toNat = 100) : decode b pc = .ok (.isub, 1) := zdc_of (q := pc + 1) (by unfold Decoder.instr; rw [zbind_at (zu1_at h), ha]; rfl) (by omega)
set_option maxRecDepth 100000 in
theorem zd_101 {b : ByteArray} {pc : Nat} {a : UInt8} (h : b.data.toList[pc]? = some a) (ha : a.toNat = 101) : decode b pc = .ok (.lsub, 1) := zdc_of (q := pc + 1) (by unfold Decoder.instr; rw [zbind_at (zu1_at h), ha]; rfl) (by omega)
set_option maxRecDepth 100000 in
theorem zd_104 {b : ByteArray} {pc : Nat} {a : UInt8} (h : b.data.toList[pc]? = some a) (ha : a.toNat = 104) : decode b pc = .ok (.imul, 1) := zdc_of (q := pc + 1) (by unfold Decoder.instr; rw [zbind_at (zu1_at h), ha]; rfl) (by omega)
set_option maxRecDepth 100000 in
theorem zd_105 {b : ByteArray} {pc : Nat} {a : UInt8} (h : b.data.toList[pc]? = some a) (ha : a.toNat = 105) : decode b pc = .ok (.lmul, 1) := zdc_of (q := pc + 1) (by unfold Decoder.instr; rw [zbind_at (zu1_at h), ha]; rfl) (by omega)
set_option maxRecDepth 100000 in
theorem zd_108 {b : ByteArray} {pc : Nat} {a : UInt8} (h : b.data.toList[pc]? = some a) (ha : a.toNat = 108) : decode b pc = .ok (.idiv, 1) := zdc_of (q := pc + 1) (by unfold Decoder.instr; rw [zbind_at (zu1_at h), ha]; rfl) (by omega)
set_option maxRecDepth 100000 in
theorem zd_109 {b : ByteArray} {pc : Nat} {a : UInt8} (h : b.data.toList[pc]? = some a) (ha : a.toNat = 109) : decode b pc = .ok (.ldiv, 1) := zdc_of (q := pc + 1) (by unfold Decoder.instr; rw [zbind_at (zu1_at h), ha]; rfl) (by omega)
set_option maxRecDepth 100000 in
theorem zd_112 {b : ByteArray} {pc : Nat} {a : UInt8} (h : b.data.toList[pc]? = some a) (ha : a.toNat = 112) : decode b pc = .ok (.irem, 1) := zdc_of (q := pc + 1) (by unfold Decoder.instr; rw [zbind_at (zu1_at h), ha]; rfl) (by omega)
set_option maxRecDepth 100000 in
theorem zd_113 {b : ByteArray} {pc : Nat} {a : UInt8} (h : b.data.toList[pc]? = some a) (ha : a.toNat = 113) : decode b pc = .ok (.lrem, 1) := zdc_of (q := pc + 1) (by unfold Decoder.instr; rw [zbind_at (zu1_at h), ha]; rfl) (by omega)
set_option maxRecDepth 100000 in
theorem zd_116 {b : ByteArray} {pc : Nat} {a : UInt8} (h : b.data.toList[pc]? = some a) (ha : a.toNat = 116) : decode b pc = .ok (.ineg, 1) := zdc_of (q := pc + 1) (by unfold Decoder.instr; rw [zbind_at (zu1_at h), ha]; rfl) (by omega)
set_option maxRecDepth 100000 in
theorem zd_117 {b : ByteArray} {pc : Nat} {a : UInt8} (h : b.data.toList[pc]? = some a) (ha : a.toNat = 117) : decode b pc = .ok (.lneg, 1) := zdc_of (q := pc + 1) (by unfold Decoder.instr; rw [zbind_at (zu1_at h), ha]; rfl) (by omega)
set_option maxRecDepth 100000 in
theorem zd_120 {b : ByteArray} {pc : Nat} {a : UInt8} (h : b.data.toList[pc]? = some a) (ha : a.toNat = 120) : decode b pc = .ok (.ishl, 1) := zdc_of (q := pc + 1) (by unfold Decoder.instr; rw [zbind_at (zu1_at h), ha]; rfl) (by omega)
set_option maxRecDepth 100000 in
theorem zd_121 {b : ByteArray} {pc : Nat} {a : UInt8} (h : b.data.toList[pc]? = some a) (ha : a.toNat = 121) : decode b pc = .ok (.lshl, 1) := zdc_of (q := pc + 1) (by unfold Decoder.instr; rw [zbind_at (zu1_at h), ha]; rfl) (by omega)
set_option maxRecDepth 100000 in
theorem zd_122 {b : ByteArray} {pc : Nat} {a : UInt8} (h : b.data.toList[pc]? = some a) (ha : a.toNat = 122) : decode b pc = .ok (.ishr, 1) := zdc_of (q := pc + 1) (by unfold Decoder.instr; rw [zbind_at (zu1_at h), ha]; rfl) (by omega)
set_option maxRecDepth 100000 in
theorem zd_123 {b : ByteArray} {pc : Nat} {a : UInt8} (h : b.data.toList[pc]? = some a) (ha : a.toNat = 123) : decode b pc = .ok (.lshr, 1) := zdc_of (q := pc + 1) (by unfold Decoder.instr; rw [zbind_at (zu1_at h), ha]; rfl) (by omega)
set_option maxRecDepth 100000 in
theorem zd_124 {b : ByteArray} {pc : Nat} {a : UInt8} (h : b.data.toList[pc]? = some a) (ha : a.toNat = 124) : decode b pc = .ok (.iushr, 1) := zdc_of (q := pc + 1) (by unfold Decoder.instr; rw [zbind_at (zu1_at h), ha]; rfl) (by omega)
set_option maxRecDepth 100000 in
theorem zd_125 {b : ByteArray} {pc : Nat} {a : UInt8} (h : b.data.toList[pc]? = some a) (ha : a.toNat = 125) : decode b pc = .ok (.lushr, 1) := zdc_of (q := pc + 1) (by unfold Decoder.instr; rw [zbind_at (zu1_at h), ha]; rfl) (by omega)
set_option maxRecDepth 100000 in
theorem zd_126 {b : ByteArray} {pc : Nat} {a : UInt8} (h : b.data.toList[pc]? = some a) (ha : a.toNat = 126) : decode b pc = .ok (.iand, 1) := zdc_of (q := pc + 1) (by unfold Decoder.instr; rw [zbind_at (zu1_at h), ha]; rfl) (by omega)
set_option maxRecDepth 100000 in
theorem zd_127 {b : ByteArray} {pc : Nat} {a : UInt8} (h : b.data.toList[pc]? = some a) (ha : a.toNat = 127) : decode b pc = .ok (.land, 1) := zdc_of (q := pc + 1) (by unfold Decoder.instr; rw [zbind_at (zu1_at h), ha]; rfl) (by omega)
set_option maxRecDepth 100000 in
theorem zd_128 {b : ByteArray} {pc : Nat} {a : UInt8} (h : b.data.toList[pc]? = some a) (ha : a.toNat = 128) : decode b pc = .ok (.ior, 1) := zdc_of (q := pc + 1) (by unfold Decoder.instr; rw [zbind_at (zu1_at h), ha]; rfl) (by omega)
set_option maxRecDepth 100000 in
theorem zd_129 {b : ByteArray} {pc : Nat} {a : UInt8} (h : b.data.toList[pc]? = some a) (ha : a.toNat = 129) : decode b pc = .ok (.lor, 1) := zdc_of (q := pc + 1) (by unfold Decoder.instr; rw [zbind_at (zu1_at h), ha]; rfl) (by omega)
set_option maxRecDepth 100000 in
theorem zd_130 {b : ByteArray} {pc : Nat} {a : UInt8} (h : b.data.toList[pc]? = some a) (ha : a.toNat = 130) : decode b pc = .ok (.ixor, 1) := zdc_of (q := pc + 1) (by unfold Decoder.instr; rw [zbind_at (zu1_at h), ha]; rfl) (by omega)
set_option maxRecDepth 100000 in
theorem zd_131 {b : ByteArray} {pc : Nat} {a : UInt8} (h : b.data.toList[pc]? = some a) (ha : a.toNat = 131) : decode b pc = .ok (.lxor, 1) := zdc_of (q := pc + 1) (by unfold Decoder.instr; rw [zbind_at (zu1_at h), ha]; rfl) (by omega)
set_option maxRecDepth 100000 in
theorem zd_133 {b : ByteArray} {pc : Nat} {a : UInt8} (h : b.data.toList[pc]? = some a) (ha : a.toNat = 133) : decode b pc = .ok (.i2l, 1) := zdc_of (q := pc + 1) (by unfold Decoder.instr; rw [zbind_at (zu1_at h), ha]; rfl) (by omega)
set_option maxRecDepth 100000 in
theorem zd_136 {b : ByteArray} {pc : Nat} {a : UInt8} (h : b.data.toList[pc]? = some a) (ha : a.toNat = 136) : decode b pc = .ok (.l2i, 1) := zdc_of (q := pc + 1) (by unfold Decoder.instr; rw [zbind_at (zu1_at h), ha]; rfl) (by omega)
set_option maxRecDepth 100000 in
theorem zd_145 {b : ByteArray} {pc : Nat} {a : UInt8} (h : b.data.toList[pc]? = some a) (ha : a.toNat = 145) : decode b pc = .ok (.i2b, 1) := zdc_of (q := pc + 1) (by unfold Decoder.instr; rw [zbind_at (zu1_at h), ha]; rfl) (by omega)
set_option maxRecDepth 100000 in
theorem zd_148 {b : ByteArray} {pc : Nat} {a : UInt8} (h : b.data.toList[pc]? = some a) (ha : a.toNat = 148) : decode b pc = .ok (.lcmp, 1) := zdc_of (q := pc + 1) (by unfold Decoder.instr; rw [zbind_at (zu1_at h), ha]; rfl) (by omega)
set_option maxRecDepth 100000 in
theorem zd_172 {b : ByteArray} {pc : Nat} {a : UInt8} (h : b.data.toList[pc]? = some a) (ha : a.toNat = 172) : decode b pc = .ok (.ireturn, 1) := zdc_of (q := pc + 1) (by unfold Decoder.instr; rw [zbind_at (zu1_at h), ha]; rfl) (by omega)
set_option maxRecDepth 100000 in
theorem zd_173 {b : ByteArray} {pc : Nat} {a : UInt8} (h : b.data.toList[pc]? = some a) (ha : a.toNat = 173) : decode b pc = .ok (.lreturn, 1) := zdc_of (q := pc + 1) (by unfold Decoder.instr; rw [zbind_at (zu1_at h), ha]; rfl) (by omega)
set_option maxRecDepth 100000 in
theorem zd_176 {b : ByteArray} {pc : Nat} {a : UInt8} (h : b.data.toList[pc]? = some a) (ha : a.toNat = 176) : decode b pc = .ok (.areturn, 1) := zdc_of (q := pc + 1) (by unfold Decoder.instr; rw [zbind_at (zu1_at h), ha]; rfl) (by omega)
set_option maxRecDepth 100000 in
theorem zd_177 {b : ByteArray} {pc : Nat} {a : UInt8} (h : b.data.toList[pc]? = some a) (ha : a.toNat = 177) : decode b pc = .ok (.return_, 1) := zdc_of (q := pc + 1) (by unfold Decoder.instr; rw [zbind_at (zu1_at h), ha]; rfl) (by omega)
set_option maxRecDepth 100000 in
theorem zd_190 {b : ByteArray} {pc : Nat} {a : UInt8} (h : b.data.toList[pc]? = some a) (ha : a.toNat = 190) : decode b pc = .ok (.arraylength, 1) := zdc_of (q := pc + 1) (by unfold Decoder.instr; rw [zbind_at (zu1_at h), ha]; rfl) (by omega)
set_option maxRecDepth 100000 in
theorem zd_18 {b : ByteArray} {pc : Nat} {a x : UInt8} (h : b.data.toList[pc]? = some a) (h1 : b.data.toList[pc + 1]? = some x) (ha : a.toNat = 18) : decode b pc = .ok (.ldc x.toNat, 2) := zdc_of (q := pc + 2) (by unfold Decoder.instr; rw [zbind_at (zu1_at h), ha]; show ((Reader.u1 >>= fun k => pure (Instr.ldc k)) : Decoder Instr) b (pc + 1) = _; rw [zbind_at (zu1_at h1)]; rfl) (by omega)
set_option maxRecDepth 100000 in
theorem zd_21 {b : ByteArray} {pc : Nat} {a x : UInt8} (h : b.data.toList[pc]? = some a) (h1 : b.data.toList[pc + 1]? = some x) (ha : a.toNat = 21) : decode b pc = .ok (.iload x.toNat, 2) := zdc_of (q := pc + 2) (by unfold Decoder.instr; rw [zbind_at (zu1_at h), ha]; show ((Reader.u1 >>= fun k => pure (Instr.iload k)) : Decoder Instr) b (pc + 1) = _; rw [zbind_at (zu1_at h1)]; rfl) (by omega)
set_option maxRecDepth 100000 in
theorem zd_22 {b : ByteArray} {pc : Nat} {a x : UInt8} (h : b.data.toList[pc]? = some a) (h1 : b.data.toList[pc + 1]? = some x) (ha : a.toNat = 22) : decode b pc = .ok (.lload x.toNat, 2) := zdc_of (q := pc + 2) (by unfold Decoder.instr; rw [zbind_at (zu1_at h), ha]; show ((Reader.u1 >>= fun k => pure (Instr.lload k)) : Decoder Instr) b (pc + 1) = _; rw [zbind_at (zu1_at h1)]; rfl) (by omega)
set_option maxRecDepth 100000 in
theorem zd_25 {b : ByteArray} {pc : Nat} {a x : UInt8} (h : b.data.toList[pc]? = some a) (h1 : b.data.toList[pc + 1]? = some x) (ha : a.toNat = 25) : decode b pc = .ok (.aload x.toNat, 2) := zdc_of (q := pc + 2) (by unfold Decoder.instr; rw [zbind_at (zu1_at h), ha]; show ((Reader.u1 >>= fun k => pure (Instr.aload k)) : Decoder Instr) b (pc + 1) = _; rw [zbind_at (zu1_at h1)]; rfl) (by omega)
set_option maxRecDepth 100000 in
theorem zd_54 {b : ByteArray} {pc : Nat} {a x : UInt8} (h : b.data.toList[pc]? = some a) (h1 : b.data.toList[pc + 1]? = some x) (ha : a.toNat = 54) : decode b pc = .ok (.istore x.toNat, 2) := zdc_of (q := pc + 2) (by unfold Decoder.instr; rw [zbind_at (zu1_at h), ha]; show ((Reader.u1 >>= fun k => pure (Instr.istore k)) : Decoder Instr) b (pc + 1) = _; rw [zbind_at (zu1_at h1)]; rfl) (by omega)
set_option maxRecDepth 100000 in
theorem zd_55 {b : ByteArray} {pc : Nat} {a x : UInt8} (h : b.data.toList[pc]? = some a) (h1 : b.data.toList[pc + 1]? = some x) (ha : a.toNat = 55) : decode b pc = .ok (.lstore x.toNat, 2) := zdc_of (q := pc + 2) (by unfold Decoder.instr; rw [zbind_at (zu1_at h), ha]; show ((Reader.u1 >>= fun k => pure (Instr.lstore k)) : Decoder Instr) b (pc + 1) = _; rw [zbind_at (zu1_at h1)]; rfl) (by omega)
set_option maxRecDepth 100000 in
theorem zd_58 {b : ByteArray} {pc : Nat} {a x : UInt8} (h : b.data.toList[pc]? = some a) (h1 : b.data.toList[pc + 1]? = some x) (ha : a.toNat = 58) : decode b pc = .ok (.astore x.toNat, 2) := zdc_of (q := pc + 2) (by unfold Decoder.instr; rw [zbind_at (zu1_at h), ha]; show ((Reader.u1 >>= fun k => pure (Instr.astore k)) : Decoder Instr) b (pc + 1) = _; rw [zbind_at (zu1_at h1)]; rfl) (by omega)
set_option maxRecDepth 100000 in
theorem zd_16 {b : ByteArray} {pc : Nat} {a x : UInt8} (h : b.data.toList[pc]? = some a) (h1 : b.data.toList[pc + 1]? = some x) (ha : a.toNat = 16) : decode b pc = .ok (.bipush (Reader.signed 8 x.toNat), 2) := zdc_of (q := pc + 2) (by unfold Decoder.instr; rw [zbind_at (zu1_at h), ha]; show ((Reader.s1 >>= fun k => pure (Instr.bipush k)) : Decoder Instr) b (pc + 1) = _; rw [zbind_at (zs1_at h1)]; rfl) (by omega)
set_option maxRecDepth 100000 in
theorem zd_19 {b : ByteArray} {pc : Nat} {a x y : UInt8} (h : b.data.toList[pc]? = some a) (h1 : b.data.toList[pc + 1]? = some x) (h2 : b.data.toList[pc + 2]? = some y) (ha : a.toNat = 19) : decode b pc = .ok (.ldc_w (x.toNat * 256 + y.toNat), 3) := zdc_of (q := pc + 3) (by unfold Decoder.instr; rw [zbind_at (zu1_at h), ha]; show ((Reader.u2 >>= fun k => pure (Instr.ldc_w k)) : Decoder Instr) b (pc + 1) = _; rw [zbind_at (zu2_at h1 h2)]; rfl) (by omega)
set_option maxRecDepth 100000 in
theorem zd_20 {b : ByteArray} {pc : Nat} {a x y : UInt8} (h : b.data.toList[pc]? = some a) (h1 : b.data.toList[pc + 1]? = some x) (h2 : b.data.toList[pc + 2]? = some y) (ha : a.toNat = 20) : decode b pc = .ok (.ldc2_w (x.toNat * 256 + y.toNat), 3) := zdc_of (q := pc + 3) (by unfold Decoder.instr; rw [zbind_at (zu1_at h), ha]; show ((Reader.u2 >>= fun k => pure (Instr.ldc2_w k)) : Decoder Instr) b (pc + 1) = _; rw [zbind_at (zu2_at h1 h2)]; rfl) (by omega)
set_option maxRecDepth 100000 in
theorem zd_178 {b : ByteArray} {pc : Nat} {a x y : UInt8} (h : b.data.toList[pc]? = some a) (h1 : b.data.toList[pc + 1]? = some x) (h2 : b.data.toList[pc + 2]? = some y) (ha : a.toNat = 178) : decode b pc = .ok (.getstatic (x.toNat * 256 + y.toNat), 3) := zdc_of (q := pc + 3) (by unfold Decoder.instr; rw [zbind_at (zu1_at h), ha]; show ((Reader.u2 >>= fun k => pure (Instr.getstatic k)) : Decoder Instr) b (pc + 1) = _; rw [zbind_at (zu2_at h1 h2)]; rfl) (by omega)
set_option maxRecDepth 100000 in
theorem zd_180 {b : ByteArray} {pc : Nat} {a x y : UInt8} (h : b.data.toList[pc]? = some a) (h1 : b.data.toList[pc + 1]? = some x) (h2 : b.data.toList[pc + 2]? = some y) (ha : a.toNat = 180) : decode b pc = .ok (.getfield (x.toNat * 256 + y.toNat), 3) := zdc_of (q := pc + 3) (by unfold Decoder.instr; rw [zbind_at (zu1_at h), ha]; show ((Reader.u2 >>= fun k => pure (Instr.getfield k)) : Decoder Instr) b (pc + 1) = _; rw [zbind_at (zu2_at h1 h2)]; rfl) (by omega)
set_option maxRecDepth 100000 in
theorem zd_181 {b : ByteArray} {pc : Nat} {a x y : UInt8} (h : b.data.toList[pc]? = some a) (h1 : b.data.toList[pc + 1]? = some x) (h2 : b.data.toList[pc + 2]? = some y) (ha : a.toNat = 181) : decode b pc = .ok (.putfield (x.toNat * 256 + y.toNat), 3) := zdc_of (q := pc + 3) (by unfold Decoder.instr; rw [zbind_at (zu1_at h), ha]; show ((Reader.u2 >>= fun k => pure (Instr.putfield k)) : Decoder Instr) b (pc + 1) = _; rw [zbind_at (zu2_at h1 h2)]; rfl) (by omega)
set_option maxRecDepth 100000 in
theorem zd_182 {b : ByteArray} {pc : Nat} {a x y : UInt8} (h : b.data.toList[pc]? = some a) (h1 : b.data.toList[pc + 1]? = some x) (h2 : b.data.toList[pc + 2]? = some y) (ha : a.toNat = 182) : decode b pc = .ok (.invokevirtual (x.toNat * 256 + y.toNat), 3) := zdc_of (q := pc + 3) (by unfold Decoder.instr; rw [zbind_at (zu1_at h), ha]; show ((Reader.u2 >>= fun k => pure (Instr.invokevirtual k)) : Decoder Instr) b (pc + 1) = _; rw [zbind_at (zu2_at h1 h2)]; rfl) (by omega)
set_option maxRecDepth 100000 in
theorem zd_183 {b : ByteArray} {pc : Nat} {a x y : UInt8} (h : b.data.toList[pc]? = some a) (h1 : b.data.toList[pc + 1]? = some x) (h2 : b.data.toList[pc + 2]? = some y) (ha : a.toNat = 183) : decode b pc = .ok (.invokespecial (x.toNat * 256 + y.toNat), 3) := zdc_of (q := pc + 3) (by unfold Decoder.instr; rw [zbind_at (zu1_at h), ha]; show ((Reader.u2 >>= fun k => pure (Instr.invokespecial k)) : Decoder Instr) b (pc + 1) = _; rw [zbind_at (zu2_at h1 h2)]; rfl) (by omega)
set_option maxRecDepth 100000 in
theorem zd_184 {b : ByteArray} {pc : Nat} {a x y : UInt8} (h : b.data.toList[pc]? = some a) (h1 : b.data.toList[pc + 1]? = some x) (h2 : b.data.toList[pc + 2]? = some y) (ha : a.toNat = 184) : decode b pc = .ok (.invokestatic (x.toNat * 256 + y.toNat), 3) := zdc_of (q := pc + 3) (by unfold Decoder.instr; rw [zbind_at (zu1_at h), ha]; show ((Reader.u2 >>= fun k => pure (Instr.invokestatic k)) : Decoder Instr) b (pc + 1) = _; rw [zbind_at (zu2_at h1 h2)]; rfl) (by omega)
set_option maxRecDepth 100000 in
theorem zd_187 {b : ByteArray} {pc : Nat} {a x y : UInt8} (h : b.data.toList[pc]? = some a) (h1 : b.data.toList[pc + 1]? = some x) (h2 : b.data.toList[pc + 2]? = some y) (ha : a.toNat = 187) : decode b pc = .ok (.new (x.toNat * 256 + y.toNat), 3) := zdc_of (q := pc + 3) (by unfold Decoder.instr; rw [zbind_at (zu1_at h), ha]; show ((Reader.u2 >>= fun k => pure (Instr.new k)) : Decoder Instr) b (pc + 1) = _; rw [zbind_at (zu2_at h1 h2)]; rfl) (by omega)
set_option maxRecDepth 100000 in
theorem zd_189 {b : ByteArray} {pc : Nat} {a x y : UInt8} (h : b.data.toList[pc]? = some a) (h1 : b.data.toList[pc + 1]? = some x) (h2 : b.data.toList[pc + 2]? = some y) (ha : a.toNat = 189) : decode b pc = .ok (.anewarray (x.toNat * 256 + y.toNat), 3) := zdc_of (q := pc + 3) (by unfold Decoder.instr; rw [zbind_at (zu1_at h), ha]; show ((Reader.u2 >>= fun k => pure (Instr.anewarray k)) : Decoder Instr) b (pc + 1) = _; rw [zbind_at (zu2_at h1 h2)]; rfl) (by omega)
set_option maxRecDepth 100000 in
theorem zd_17 {b : ByteArray} {pc : Nat} {a x y : UInt8} (h : b.data.toList[pc]? = some a) (h1 : b.data.toList[pc + 1]? = some x) (h2 : b.data.toList[pc + 2]? = some y) (ha : a.toNat = 17) : decode b pc = .ok (.sipush (Reader.signed 16 (x.toNat * 256 + y.toNat)), 3) := zdc_of (q := pc + 3) (by unfold Decoder.instr; rw [zbind_at (zu1_at h), ha]; show ((Reader.s2 >>= fun k => pure (Instr.sipush k)) : Decoder Instr) b (pc + 1) = _; rw [zbind_at (zs2_at h1 h2)]; rfl) (by omega)
set_option maxRecDepth 100000 in
theorem zd_153 {b : ByteArray} {pc : Nat} {a x y : UInt8} (h : b.data.toList[pc]? = some a) (h1 : b.data.toList[pc + 1]? = some x) (h2 : b.data.toList[pc + 2]? = some y) (ha : a.toNat = 153) : decode b pc = .ok (.ifCond .eq (Reader.signed 16 (x.toNat * 256 + y.toNat)), 3) := zdc_of (q := pc + 3) (by unfold Decoder.instr; rw [zbind_at (zu1_at h), ha]; show ((Reader.s2 >>= fun k => pure (Instr.ifCond .eq k)) : Decoder Instr) b (pc + 1) = _; rw [zbind_at (zs2_at h1 h2)]; rfl) (by omega)
set_option maxRecDepth 100000 in
theorem zd_154 {b : ByteArray} {pc : Nat} {a x y : UInt8} (h : b.data.toList[pc]? = some a) (h1 : b.data.toList[pc + 1]? = some x) (h2 : b.data.toList[pc + 2]? = some y) (ha : a.toNat = 154) : decode b pc = .ok (.ifCond .ne (Reader.signed 16 (x.toNat * 256 + y.toNat)), 3) := zdc_of (q := pc + 3) (by unfold Decoder.instr; rw [zbind_at (zu1_at h), ha]; show ((Reader.s2 >>= fun k => pure (Instr.ifCond .ne k)) : Decoder Instr) b (pc + 1) = _; rw [zbind_at (zs2_at h1 h2)]; rfl) (by omega)
set_option maxRecDepth 100000 in
theorem zd_155 {b : ByteArray} {pc : Nat} {a x y : UInt8} (h : b.data.toList[pc]? = some a) (h1 : b.data.toList[pc + 1]? = some x) (h2 : b.data.toList[pc + 2]? = some y) (ha : a.toNat = 155) : decode b pc = .ok (.ifCond .lt (Reader.signed 16 (x.toNat * 256 + y.toNat)), 3) := zdc_of (q := pc + 3) (by unfold Decoder.instr; rw [zbind_at (zu1_at h), ha]; show ((Reader.s2 >>= fun k => pure (Instr.ifCond .lt k)) : Decoder Instr) b (pc + 1) = _; rw [zbind_at (zs2_at h1 h2)]; rfl) (by omega)
set_option maxRecDepth 100000 in
theorem zd_156 {b : ByteArray} {pc : Nat} {a x y : UInt8} (h : b.data.toList[pc]? = some a) (h1 : b.data.toList[pc + 1]? = some x) (h2 : b.data.toList[pc + 2]? = some y) (ha : a.toNat = 156) : decode b pc = .ok (.ifCond .ge (Reader.signed 16 (x.toNat * 256 + y.toNat)), 3) := zdc_of (q := pc + 3) (by unfold Decoder.instr; rw [zbind_at (zu1_at h), ha]; show ((Reader.s2 >>= fun k => pure (Instr.ifCond .ge k)) : Decoder Instr) b (pc + 1) = _; rw [zbind_at (zs2_at h1 h2)]; rfl) (by omega)
set_option maxRecDepth 100000 in
theorem zd_157 {b : ByteArray} {pc : Nat} {a x y : UInt8} (h : b.data.toList[pc]? = some a) (h1 : b.data.toList[pc + 1]? = some x) (h2 : b.data.toList[pc + 2]? = some y) (ha : a.toNat = 157) : decode b pc = .ok (.ifCond .gt (Reader.signed 16 (x.toNat * 256 + y.toNat)), 3) := zdc_of (q := pc + 3) (by unfold Decoder.instr; rw [zbind_at (zu1_at h), ha]; show ((Reader.s2 >>= fun k => pure (Instr.ifCond .gt k)) : Decoder Instr) b (pc + 1) = _; rw [zbind_at (zs2_at h1 h2)]; rfl) (by omega)
set_option maxRecDepth 100000 in
theorem zd_158 {b : ByteArray} {pc : Nat} {a x y : UInt8} (h : b.data.toList[pc]? = some a) (h1 : b.data.toList[pc + 1]? = some x) (h2 : b.data.toList[pc + 2]? = some y) (ha : a.toNat = 158) : decode b pc = .ok (.ifCond .le (Reader.signed 16 (x.toNat * 256 + y.toNat)), 3) := zdc_of (q := pc + 3) (by unfold Decoder.instr; rw [zbind_at (zu1_at h), ha]; show ((Reader.s2 >>= fun k => pure (Instr.ifCond .le k)) : Decoder Instr) b (pc + 1) = _; rw [zbind_at (zs2_at h1 h2)]; rfl) (by omega)
set_option maxRecDepth 100000 in
theorem zd_159 {b : ByteArray} {pc : Nat} {a x y : UInt8} (h : b.data.toList[pc]? = some a) (h1 : b.data.toList[pc + 1]? = some x) (h2 : b.data.toList[pc + 2]? = some y) (ha : a.toNat = 159) : decode b pc = .ok (.if_icmp .eq (Reader.signed 16 (x.toNat * 256 + y.toNat)), 3) := zdc_of (q := pc + 3) (by unfold Decoder.instr; rw [zbind_at (zu1_at h), ha]; show ((Reader.s2 >>= fun k => pure (Instr.if_icmp .eq k)) : Decoder Instr) b (pc + 1) = _; rw [zbind_at (zs2_at h1 h2)]; rfl) (by omega)
set_option maxRecDepth 100000 in
theorem zd_160 {b : ByteArray} {pc : Nat} {a x y : UInt8} (h : b.data.toList[pc]? = some a) (h1 : b.data.toList[pc + 1]? = some x) (h2 : b.data.toList[pc + 2]? = some y) (ha : a.toNat = 160) : decode b pc = .ok (.if_icmp .ne (Reader.signed 16 (x.toNat * 256 + y.toNat)), 3) := zdc_of (q := pc + 3) (by unfold Decoder.instr; rw [zbind_at (zu1_at h), ha]; show ((Reader.s2 >>= fun k => pure (Instr.if_icmp .ne k)) : Decoder Instr) b (pc + 1) = _; rw [zbind_at (zs2_at h1 h2)]; rfl) (by omega)
set_option maxRecDepth 100000 in
theorem zd_161 {b : ByteArray} {pc : Nat} {a x y : UInt8} (h : b.data.toList[pc]? = some a) (h1 : b.data.toList[pc + 1]? = some x) (h2 : b.data.toList[pc + 2]? = some y) (ha : a.toNat = 161) : decode b pc = .ok (.if_icmp .lt (Reader.signed 16 (x.toNat * 256 + y.toNat)), 3) := zdc_of (q := pc + 3) (by unfold Decoder.instr; rw [zbind_at (zu1_at h), ha]; show ((Reader.s2 >>= fun k => pure (Instr.if_icmp .lt k)) : Decoder Instr) b (pc + 1) = _; rw [zbind_at (zs2_at h1 h2)]; rfl) (by omega)
set_option maxRecDepth 100000 in
theorem zd_162 {b : ByteArray} {pc : Nat} {a x y : UInt8} (h : b.data.toList[pc]? = some a) (h1 : b.data.toList[pc + 1]? = some x) (h2 : b.data.toList[pc + 2]? = some y) (ha : a.toNat = 162) : decode b pc = .ok (.if_icmp .ge (Reader.signed 16 (x.toNat * 256 + y.toNat)), 3) := zdc_of (q := pc + 3) (by unfold Decoder.instr; rw [zbind_at (zu1_at h), ha]; show ((Reader.s2 >>= fun k => pure (Instr.if_icmp .ge k)) : Decoder Instr) b (pc + 1) = _; rw [zbind_at (zs2_at h1 h2)]; rfl) (by omega)
set_option maxRecDepth 100000 in
theorem zd_163 {b : ByteArray} {pc : Nat} {a x y : UInt8} (h : b.data.toList[pc]? = some a) (h1 : b.data.toList[pc + 1]? = some x) (h2 : b.data.toList[pc + 2]? = some y) (ha : a.toNat = 163) : decode b pc = .ok (.if_icmp .gt (Reader.signed 16 (x.toNat * 256 + y.toNat)), 3) := zdc_of (q := pc + 3) (by unfold Decoder.instr; rw [zbind_at (zu1_at h), ha]; show ((Reader.s2 >>= fun k => pure (Instr.if_icmp .gt k)) : Decoder Instr) b (pc + 1) = _; rw [zbind_at (zs2_at h1 h2)]; rfl) (by omega)
set_option maxRecDepth 100000 in
theorem zd_164 {b : ByteArray} {pc : Nat} {a x y : UInt8} (h : b.data.toList[pc]? = some a) (h1 : b.data.toList[pc + 1]? = some x) (h2 : b.data.toList[pc + 2]? = some y) (ha : a.toNat = 164) : decode b pc = .ok (.if_icmp .le (Reader.signed 16 (x.toNat * 256 + y.toNat)), 3) := zdc_of (q := pc + 3) (by unfold Decoder.instr; rw [zbind_at (zu1_at h), ha]; show ((Reader.s2 >>= fun k => pure (Instr.if_icmp .le k)) : Decoder Instr) b (pc + 1) = _; rw [zbind_at (zs2_at h1 h2)]; rfl) (by omega)
set_option maxRecDepth 100000 in
theorem zd_167 {b : ByteArray} {pc : Nat} {a x y : UInt8} (h : b.data.toList[pc]? = some a) (h1 : b.data.toList[pc + 1]? = some x) (h2 : b.data.toList[pc + 2]? = some y) (ha : a.toNat = 167) : decode b pc = .ok (.goto (Reader.signed 16 (x.toNat * 256 + y.toNat)), 3) := zdc_of (q := pc + 3) (by unfold Decoder.instr; rw [zbind_at (zu1_at h), ha]; show ((Reader.s2 >>= fun k => pure (Instr.goto k)) : Decoder Instr) b (pc + 1) = _; rw [zbind_at (zs2_at h1 h2)]; rfl) (by omega)
set_option maxRecDepth 100000 in
theorem zd_132 {b : ByteArray} {pc : Nat} {a x y : UInt8} (h : b.data.toList[pc]? = some a) (h1 : b.data.toList[pc + 1]? = some x) (h2 : b.data.toList[pc + 2]? = some y) (ha : a.toNat = 132) : decode b pc = .ok (.iinc x.toNat (Reader.signed 8 y.toNat), 3) := zdc_of (q := pc + 3) (by unfold Decoder.instr; rw [zbind_at (zu1_at h), ha]; show ((Reader.u1 >>= fun k => Reader.s1 >>= fun n => pure (Instr.iinc k n)) : Decoder Instr) b (pc + 1) = _; rw [zbind_at (zu1_at h1), zbind_at (zs1_at h2)]; rfl) (by omega)
set_option maxRecDepth 100000 in
theorem zd_188_4 {b : ByteArray} {pc : Nat} {a x : UInt8} (h : b.data.toList[pc]? = some a) (h1 : b.data.toList[pc + 1]? = some x) (ha : a.toNat = 188) (hx : x.toNat = 4) : decode b pc = .ok (.newarray .boolean, 2) := zdc_of (q := pc + 2) (by unfold Decoder.instr; rw [zbind_at (zu1_at h), ha]; show Decoder.newarray pc b (pc + 1) = _; unfold Decoder.newarray; rw [zbind_at (zu1_at h1), hx]; rfl) (by omega)
set_option maxRecDepth 100000 in
theorem zd_188_8 {b : ByteArray} {pc : Nat} {a x : UInt8} (h : b.data.toList[pc]? = some a) (h1 : b.data.toList[pc + 1]? = some x) (ha : a.toNat = 188) (hx : x.toNat = 8) : decode b pc = .ok (.newarray .byte, 2) := zdc_of (q := pc + 2) (by unfold Decoder.instr; rw [zbind_at (zu1_at h), ha]; show Decoder.newarray pc b (pc + 1) = _; unfold Decoder.newarray; rw [zbind_at (zu1_at h1), hx]; rfl) (by omega)
set_option maxRecDepth 100000 in
theorem zd_188_10 {b : ByteArray} {pc : Nat} {a x : UInt8} (h : b.data.toList[pc]? = some a) (h1 : b.data.toList[pc + 1]? = some x) (ha : a.toNat = 188) (hx : x.toNat = 10) : decode b pc = .ok (.newarray .int, 2) := zdc_of (q := pc + 2) (by unfold Decoder.instr; rw [zbind_at (zu1_at h), ha]; show Decoder.newarray pc b (pc + 1) = _; unfold Decoder.newarray; rw [zbind_at (zu1_at h1), hx]; rfl) (by omega)
set_option maxRecDepth 100000 in
theorem zd_188_11 {b : ByteArray} {pc : Nat} {a x : UInt8} (h : b.data.toList[pc]? = some a) (h1 : b.data.toList[pc + 1]? = some x) (ha : a.toNat = 188) (hx : x.toNat = 11) : decode b pc = .ok (.newarray .long, 2) := zdc_of (q := pc + 2) (by unfold Decoder.instr; rw [zbind_at (zu1_at h), ha]; show Decoder.newarray pc b (pc + 1) = _; unfold Decoder.newarray; rw [zbind_at (zu1_at h1), hx]; rfl) (by omega)
noncomputable def zh0 : List UInt8 → Nat → Bool
  | a :: _, c => Nat.beq a.toNat c
  | [], _ => false
noncomputable def zh1 : List UInt8 → Nat → Nat → Bool
  | a :: x :: _, c, k => Nat.beq a.toNat c && Nat.beq x.toNat k
  | _, _, _ => false
noncomputable def zh2 : List UInt8 → Nat → Nat → Bool
  | a :: x :: y :: _, c, k => Nat.beq a.toNat c && Nat.beq (x.toNat * 256 + y.toNat) k
  | _, _, _ => false
noncomputable def zg1 : List UInt8 → Nat → Int → Bool
  | a :: x :: _, c, k => Nat.beq a.toNat c && decide (Reader.signed 8 x.toNat = k)
  | _, _, _ => false
noncomputable def zg2 : List UInt8 → Nat → Int → Bool
  | a :: x :: y :: _, c, k => Nat.beq a.toNat c && decide (Reader.signed 16 (x.toNat * 256 + y.toNat) = k)
  | _, _, _ => false
noncomputable def zgi : List UInt8 → Nat → Int → Bool
  | a :: x :: y :: _, k, n => Nat.beq a.toNat 132 && (Nat.beq x.toNat k && decide (Reader.signed 8 y.toNat = n))
  | _, _, _ => false
theorem zdr {α : Type} {L l : List α} {p : Nat} (hl : L.drop p = l) (j : Nat) : L[p + j]? = l[j]? := by rw [← hl, List.getElem?_drop]
theorem zh0_ok {L l : List UInt8} {p c : Nat} (hl : L.drop p = l) (h : zh0 l c = true) : ∃ a, L[p]? = some a ∧ a.toNat = c := by
  match l, hl, h with
  | a :: r, hl, h => exact ⟨a, zdr hl 0, Nat.eq_of_beq_eq_true h⟩
theorem zh1_ok {L l : List UInt8} {p c k : Nat} (hl : L.drop p = l) (h : zh1 l c k = true) : ∃ a x, L[p]? = some a ∧ L[p + 1]? = some x ∧ a.toNat = c ∧ x.toNat = k := by
  match l, hl, h with
  | a :: x :: r, hl, h =>
    have h9 := and_true_iff_z h
    exact ⟨a, x, zdr hl 0, zdr hl 1, Nat.eq_of_beq_eq_true h9.1, Nat.eq_of_beq_eq_true h9.2⟩
theorem zh2_ok {L l : List UInt8} {p c k : Nat} (hl : L.drop p = l) (h : zh2 l c k = true) : ∃ a x y, L[p]? = some a ∧ L[p + 1]? = some x ∧ L[p + 2]? = some y ∧ a.toNat = c ∧ x.toNat * 256 + y.toNat = k := by
  match l, hl, h with
  | a :: x :: y :: r, hl, h =>
    have h9 := and_true_iff_z h
    exact ⟨a, x, y, zdr hl 0, zdr hl 1, zdr hl 2, Nat.eq_of_beq_eq_true h9.1, Nat.eq_of_beq_eq_true h9.2⟩
theorem zg1_ok {L l : List UInt8} {p c : Nat} {k : Int} (hl : L.drop p = l) (h : zg1 l c k = true) : ∃ a x, L[p]? = some a ∧ L[p + 1]? = some x ∧ a.toNat = c ∧ Reader.signed 8 x.toNat = k := by
  match l, hl, h with
  | a :: x :: r, hl, h =>
    have h9 := and_true_iff_z h
    exact ⟨a, x, zdr hl 0, zdr hl 1, Nat.eq_of_beq_eq_true h9.1, of_decide_eq_true h9.2⟩
theorem zg2_ok {L l : List UInt8} {p c : Nat} {k : Int} (hl : L.drop p = l) (h : zg2 l c k = true) : ∃ a x y, L[p]? = some a ∧ L[p + 1]? = some x ∧ L[p + 2]? = some y ∧ a.toNat = c ∧ Reader.signed 16 (x.toNat * 256 + y.toNat) = k := by
  match l, hl, h with
  | a :: x :: y :: r, hl, h =>
    have h9 := and_true_iff_z h
    exact ⟨a, x, y, zdr hl 0, zdr hl 1, zdr hl 2, Nat.eq_of_beq_eq_true h9.1, of_decide_eq_true h9.2⟩
theorem zgi_ok {L l : List UInt8} {p k : Nat} {n : Int} (hl : L.drop p = l) (h : zgi l k n = true) : ∃ a x y, L[p]? = some a ∧ L[p + 1]? = some x ∧ L[p + 2]? = some y ∧ a.toNat = 132 ∧ x.toNat = k ∧ Reader.signed 8 y.toNat = n := by
  match l, hl, h with
  | a :: x :: y :: r, hl, h =>
    have h9 := and_true_iff_z h
    have h8 := and_true_iff_z h9.2
    exact ⟨a, x, y, zdr hl 0, zdr hl 1, zdr hl 2, Nat.eq_of_beq_eq_true h9.1, Nat.eq_of_beq_eq_true h8.1, of_decide_eq_true h8.2⟩
noncomputable def zcc : Jvm.ClassFile.Cond → Nat
  | .eq => 0
  | .ne => 1
  | .lt => 2
  | .ge => 3
  | .gt => 4
  | .le => 5
noncomputable def zat9 : ArrayType → Nat
  | .boolean => 4
  | .byte => 8
  | .int => 10
  | .long => 11
  | _ => 0
noncomputable def zic (l : List UInt8) (k : Int) : Bool := match k with
  | .ofNat 0 => zh0 l 3
  | .ofNat 1 => zh0 l 4
  | .ofNat 2 => zh0 l 5
  | .ofNat 3 => zh0 l 6
  | .ofNat 4 => zh0 l 7
  | .ofNat 5 => zh0 l 8
  | .negSucc 0 => zh0 l 2
  | _ => false
theorem zic_ok {b : ByteArray} {pc : Nat} {k : Int} {l : List UInt8} (hl : b.data.toList.drop pc = l) (h : zic l k = true) : decode b pc = .ok (.iconst k, 1) := by
  unfold zic at h
  split at h
  · obtain ⟨a, h0, ha⟩ := zh0_ok hl h
    exact zd_3 h0 ha
  · obtain ⟨a, h0, ha⟩ := zh0_ok hl h
    exact zd_4 h0 ha
  · obtain ⟨a, h0, ha⟩ := zh0_ok hl h
    exact zd_5 h0 ha
  · obtain ⟨a, h0, ha⟩ := zh0_ok hl h
    exact zd_6 h0 ha
  · obtain ⟨a, h0, ha⟩ := zh0_ok hl h
    exact zd_7 h0 ha
  · obtain ⟨a, h0, ha⟩ := zh0_ok hl h
    exact zd_8 h0 ha
  · obtain ⟨a, h0, ha⟩ := zh0_ok hl h
    exact zd_2 h0 ha
  · cases h
noncomputable def zdk (i : Instr) (l : List UInt8) (len : Nat) : Bool := match i with
  | .iload_n k => Nat.beq len 1 && zh0 l (26 + k.val)
  | .lload_n k => Nat.beq len 1 && zh0 l (30 + k.val)
  | .aload_n k => Nat.beq len 1 && zh0 l (42 + k.val)
  | .istore_n k => Nat.beq len 1 && zh0 l (59 + k.val)
  | .lstore_n k => Nat.beq len 1 && zh0 l (63 + k.val)
  | .astore_n k => Nat.beq len 1 && zh0 l (75 + k.val)
  | .lconst k => Nat.beq len 1 && zh0 l (9 + k.val)
  | .iconst k => Nat.beq len 1 && zic l k
  | .iaload => Nat.beq len 1 && zh0 l 46
  | .laload => Nat.beq len 1 && zh0 l 47
  | .aaload => Nat.beq len 1 && zh0 l 50
  | .baload => Nat.beq len 1 && zh0 l 51
  | .iastore => Nat.beq len 1 && zh0 l 79
  | .lastore => Nat.beq len 1 && zh0 l 80
  | .aastore => Nat.beq len 1 && zh0 l 83
  | .bastore => Nat.beq len 1 && zh0 l 84
  | .pop => Nat.beq len 1 && zh0 l 87
  | .pop2 => Nat.beq len 1 && zh0 l 88
  | .dup => Nat.beq len 1 && zh0 l 89
  | .dup2 => Nat.beq len 1 && zh0 l 92
  | .iadd => Nat.beq len 1 && zh0 l 96
  | .ladd => Nat.beq len 1 && zh0 l 97
  | .isub => Nat.beq len 1 && zh0 l 100
  | .lsub => Nat.beq len 1 && zh0 l 101
  | .imul => Nat.beq len 1 && zh0 l 104
  | .lmul => Nat.beq len 1 && zh0 l 105
  | .idiv => Nat.beq len 1 && zh0 l 108
  | .ldiv => Nat.beq len 1 && zh0 l 109
  | .irem => Nat.beq len 1 && zh0 l 112
  | .lrem => Nat.beq len 1 && zh0 l 113
  | .ineg => Nat.beq len 1 && zh0 l 116
  | .lneg => Nat.beq len 1 && zh0 l 117
  | .ishl => Nat.beq len 1 && zh0 l 120
  | .lshl => Nat.beq len 1 && zh0 l 121
  | .ishr => Nat.beq len 1 && zh0 l 122
  | .lshr => Nat.beq len 1 && zh0 l 123
  | .iushr => Nat.beq len 1 && zh0 l 124
  | .lushr => Nat.beq len 1 && zh0 l 125
  | .iand => Nat.beq len 1 && zh0 l 126
  | .land => Nat.beq len 1 && zh0 l 127
  | .ior => Nat.beq len 1 && zh0 l 128
  | .lor => Nat.beq len 1 && zh0 l 129
  | .ixor => Nat.beq len 1 && zh0 l 130
  | .lxor => Nat.beq len 1 && zh0 l 131
  | .i2l => Nat.beq len 1 && zh0 l 133
  | .l2i => Nat.beq len 1 && zh0 l 136
  | .i2b => Nat.beq len 1 && zh0 l 145
  | .lcmp => Nat.beq len 1 && zh0 l 148
  | .ireturn => Nat.beq len 1 && zh0 l 172
  | .lreturn => Nat.beq len 1 && zh0 l 173
  | .areturn => Nat.beq len 1 && zh0 l 176
  | .return_ => Nat.beq len 1 && zh0 l 177
  | .arraylength => Nat.beq len 1 && zh0 l 190
  | .ldc k => Nat.beq len 2 && zh1 l 18 k
  | .iload k => Nat.beq len 2 && zh1 l 21 k
  | .lload k => Nat.beq len 2 && zh1 l 22 k
  | .aload k => Nat.beq len 2 && zh1 l 25 k
  | .istore k => Nat.beq len 2 && zh1 l 54 k
  | .lstore k => Nat.beq len 2 && zh1 l 55 k
  | .astore k => Nat.beq len 2 && zh1 l 58 k
  | .bipush k => Nat.beq len 2 && zg1 l 16 k
  | .ldc_w k => Nat.beq len 3 && zh2 l 19 k
  | .ldc2_w k => Nat.beq len 3 && zh2 l 20 k
  | .getstatic k => Nat.beq len 3 && zh2 l 178 k
  | .getfield k => Nat.beq len 3 && zh2 l 180 k
  | .putfield k => Nat.beq len 3 && zh2 l 181 k
  | .invokevirtual k => Nat.beq len 3 && zh2 l 182 k
  | .invokespecial k => Nat.beq len 3 && zh2 l 183 k
  | .invokestatic k => Nat.beq len 3 && zh2 l 184 k
  | .new k => Nat.beq len 3 && zh2 l 187 k
  | .anewarray k => Nat.beq len 3 && zh2 l 189 k
  | .sipush k => Nat.beq len 3 && zg2 l 17 k
  | .goto k => Nat.beq len 3 && zg2 l 167 k
  | .ifCond c k => Nat.beq len 3 && zg2 l (153 + zcc c) k
  | .if_icmp c k => Nat.beq len 3 && zg2 l (159 + zcc c) k
  | .iinc k n => Nat.beq len 3 && zgi l k n
  | .newarray t => Nat.beq len 2 && (zh1 l 188 (zat9 t) && !(Nat.beq (zat9 t) 0))
  | _ => false
theorem zdk_ok {b : ByteArray} {pc len : Nat} {i : Instr} {l : List UInt8} (hl : b.data.toList.drop pc = l) (h : zdk i l len = true) : decode b pc = .ok (i, len) := by
  cases i
  case iload_n k => 
    obtain ⟨e, h⟩ := and_true_iff_z h
    rw [Nat.eq_of_beq_eq_true e]
    obtain ⟨a, h0, ha⟩ := zh0_ok hl h
    match k, ha with
    | 0, ha => exact zd_26 h0 ha
    | 1, ha => exact zd_27 h0 ha
    | 2, ha => exact zd_28 h0 ha
    | 3, ha => exact zd_29 h0 ha
  case lload_n k => 
    obtain ⟨e, h⟩ := and_true_iff_z h
    rw [Nat.eq_of_beq_eq_true e]
    obtain ⟨a, h0, ha⟩ := zh0_ok hl h
    match k, ha with
    | 0, ha => exact zd_30 h0 ha
    | 1, ha => exact zd_31 h0 ha
    | 2, ha => exact zd_32 h0 ha
    | 3, ha => exact zd_33 h0 ha
  case aload_n k => 
    obtain ⟨e, h⟩ := and_true_iff_z h
    rw [Nat.eq_of_beq_eq_true e]
    obtain ⟨a, h0, ha⟩ := zh0_ok hl h
    match k, ha with
    | 0, ha => exact zd_42 h0 ha
    | 1, ha => exact zd_43 h0 ha
    | 2, ha => exact zd_44 h0 ha
    | 3, ha => exact zd_45 h0 ha
  case istore_n k => 
    obtain ⟨e, h⟩ := and_true_iff_z h
    rw [Nat.eq_of_beq_eq_true e]
    obtain ⟨a, h0, ha⟩ := zh0_ok hl h
    match k, ha with
    | 0, ha => exact zd_59 h0 ha
    | 1, ha => exact zd_60 h0 ha
    | 2, ha => exact zd_61 h0 ha
    | 3, ha => exact zd_62 h0 ha
  case lstore_n k => 
    obtain ⟨e, h⟩ := and_true_iff_z h
    rw [Nat.eq_of_beq_eq_true e]
    obtain ⟨a, h0, ha⟩ := zh0_ok hl h
    match k, ha with
    | 0, ha => exact zd_63 h0 ha
    | 1, ha => exact zd_64 h0 ha
    | 2, ha => exact zd_65 h0 ha
    | 3, ha => exact zd_66 h0 ha
  case astore_n k => 
    obtain ⟨e, h⟩ := and_true_iff_z h
    rw [Nat.eq_of_beq_eq_true e]
    obtain ⟨a, h0, ha⟩ := zh0_ok hl h
    match k, ha with
    | 0, ha => exact zd_75 h0 ha
    | 1, ha => exact zd_76 h0 ha
    | 2, ha => exact zd_77 h0 ha
    | 3, ha => exact zd_78 h0 ha
  case lconst k => 
    obtain ⟨e, h⟩ := and_true_iff_z h
    rw [Nat.eq_of_beq_eq_true e]
    obtain ⟨a, h0, ha⟩ := zh0_ok hl h
    match k, ha with
    | 0, ha => exact zd_9 h0 ha
    | 1, ha => exact zd_10 h0 ha
  case iconst k =>
    obtain ⟨e, h⟩ := and_true_iff_z h
    rw [Nat.eq_of_beq_eq_true e]
    exact zic_ok hl h
  case iaload => 
    obtain ⟨e, h⟩ := and_true_iff_z h
    rw [Nat.eq_of_beq_eq_true e]
    obtain ⟨a, h0, ha⟩ := zh0_ok hl h
    exact zd_46 h0 ha
  case laload => 
    obtain ⟨e, h⟩ := and_true_iff_z h
    rw [Nat.eq_of_beq_eq_true e]
    obtain ⟨a, h0, ha⟩ := zh0_ok hl h
    exact zd_47 h0 ha
  case aaload => 
    obtain ⟨e, h⟩ := and_true_iff_z h
    rw [Nat.eq_of_beq_eq_true e]
    obtain ⟨a, h0, ha⟩ := zh0_ok hl h
    exact zd_50 h0 ha
  case baload => 
    obtain ⟨e, h⟩ := and_true_iff_z h
    rw [Nat.eq_of_beq_eq_true e]
    obtain ⟨a, h0, ha⟩ := zh0_ok hl h
    exact zd_51 h0 ha
  case iastore => 
    obtain ⟨e, h⟩ := and_true_iff_z h
    rw [Nat.eq_of_beq_eq_true e]
    obtain ⟨a, h0, ha⟩ := zh0_ok hl h
    exact zd_79 h0 ha
  case lastore => 
    obtain ⟨e, h⟩ := and_true_iff_z h
    rw [Nat.eq_of_beq_eq_true e]
    obtain ⟨a, h0, ha⟩ := zh0_ok hl h
    exact zd_80 h0 ha
  case aastore => 
    obtain ⟨e, h⟩ := and_true_iff_z h
    rw [Nat.eq_of_beq_eq_true e]
    obtain ⟨a, h0, ha⟩ := zh0_ok hl h
    exact zd_83 h0 ha
  case bastore => 
    obtain ⟨e, h⟩ := and_true_iff_z h
    rw [Nat.eq_of_beq_eq_true e]
    obtain ⟨a, h0, ha⟩ := zh0_ok hl h
    exact zd_84 h0 ha
  case pop => 
    obtain ⟨e, h⟩ := and_true_iff_z h
    rw [Nat.eq_of_beq_eq_true e]
    obtain ⟨a, h0, ha⟩ := zh0_ok hl h
    exact zd_87 h0 ha
  case pop2 => 
    obtain ⟨e, h⟩ := and_true_iff_z h
    rw [Nat.eq_of_beq_eq_true e]
    obtain ⟨a, h0, ha⟩ := zh0_ok hl h
    exact zd_88 h0 ha
  case dup => 
    obtain ⟨e, h⟩ := and_true_iff_z h
    rw [Nat.eq_of_beq_eq_true e]
    obtain ⟨a, h0, ha⟩ := zh0_ok hl h
    exact zd_89 h0 ha
  case dup2 => 
    obtain ⟨e, h⟩ := and_true_iff_z h
    rw [Nat.eq_of_beq_eq_true e]
    obtain ⟨a, h0, ha⟩ := zh0_ok hl h
    exact zd_92 h0 ha
  case iadd => 
    obtain ⟨e, h⟩ := and_true_iff_z h
    rw [Nat.eq_of_beq_eq_true e]
    obtain ⟨a, h0, ha⟩ := zh0_ok hl h
    exact zd_96 h0 ha
  case ladd => 
    obtain ⟨e, h⟩ := and_true_iff_z h
    rw [Nat.eq_of_beq_eq_true e]
    obtain ⟨a, h0, ha⟩ := zh0_ok hl h
    exact zd_97 h0 ha
  case isub => 
    obtain ⟨e, h⟩ := and_true_iff_z h
    rw [Nat.eq_of_beq_eq_true e]
    obtain ⟨a, h0, ha⟩ := zh0_ok hl h
    exact zd_100 h0 ha
  case lsub => 
    obtain ⟨e, h⟩ := and_true_iff_z h
    rw [Nat.eq_of_beq_eq_true e]
    obtain ⟨a, h0, ha⟩ := zh0_ok hl h
    exact zd_101 h0 ha
  case imul => 
    obtain ⟨e, h⟩ := and_true_iff_z h
    rw [Nat.eq_of_beq_eq_true e]
    obtain ⟨a, h0, ha⟩ := zh0_ok hl h
    exact zd_104 h0 ha
  case lmul => 
    obtain ⟨e, h⟩ := and_true_iff_z h
    rw [Nat.eq_of_beq_eq_true e]
    obtain ⟨a, h0, ha⟩ := zh0_ok hl h
    exact zd_105 h0 ha
  case idiv => 
    obtain ⟨e, h⟩ := and_true_iff_z h
    rw [Nat.eq_of_beq_eq_true e]
    obtain ⟨a, h0, ha⟩ := zh0_ok hl h
    exact zd_108 h0 ha
  case ldiv => 
    obtain ⟨e, h⟩ := and_true_iff_z h
    rw [Nat.eq_of_beq_eq_true e]
    obtain ⟨a, h0, ha⟩ := zh0_ok hl h
    exact zd_109 h0 ha
  case irem => 
    obtain ⟨e, h⟩ := and_true_iff_z h
    rw [Nat.eq_of_beq_eq_true e]
    obtain ⟨a, h0, ha⟩ := zh0_ok hl h
    exact zd_112 h0 ha
  case lrem => 
    obtain ⟨e, h⟩ := and_true_iff_z h
    rw [Nat.eq_of_beq_eq_true e]
    obtain ⟨a, h0, ha⟩ := zh0_ok hl h
    exact zd_113 h0 ha
  case ineg => 
    obtain ⟨e, h⟩ := and_true_iff_z h
    rw [Nat.eq_of_beq_eq_true e]
    obtain ⟨a, h0, ha⟩ := zh0_ok hl h
    exact zd_116 h0 ha
  case lneg => 
    obtain ⟨e, h⟩ := and_true_iff_z h
    rw [Nat.eq_of_beq_eq_true e]
    obtain ⟨a, h0, ha⟩ := zh0_ok hl h
    exact zd_117 h0 ha
  case ishl => 
    obtain ⟨e, h⟩ := and_true_iff_z h
    rw [Nat.eq_of_beq_eq_true e]
    obtain ⟨a, h0, ha⟩ := zh0_ok hl h
    exact zd_120 h0 ha
  case lshl => 
    obtain ⟨e, h⟩ := and_true_iff_z h
    rw [Nat.eq_of_beq_eq_true e]
    obtain ⟨a, h0, ha⟩ := zh0_ok hl h
    exact zd_121 h0 ha
  case ishr => 
    obtain ⟨e, h⟩ := and_true_iff_z h
    rw [Nat.eq_of_beq_eq_true e]
    obtain ⟨a, h0, ha⟩ := zh0_ok hl h
    exact zd_122 h0 ha
  case lshr => 
    obtain ⟨e, h⟩ := and_true_iff_z h
    rw [Nat.eq_of_beq_eq_true e]
    obtain ⟨a, h0, ha⟩ := zh0_ok hl h
    exact zd_123 h0 ha
  case iushr => 
    obtain ⟨e, h⟩ := and_true_iff_z h
    rw [Nat.eq_of_beq_eq_true e]
    obtain ⟨a, h0, ha⟩ := zh0_ok hl h
    exact zd_124 h0 ha
  case lushr => 
    obtain ⟨e, h⟩ := and_true_iff_z h
    rw [Nat.eq_of_beq_eq_true e]
    obtain ⟨a, h0, ha⟩ := zh0_ok hl h
    exact zd_125 h0 ha
  case iand => 
    obtain ⟨e, h⟩ := and_true_iff_z h
    rw [Nat.eq_of_beq_eq_true e]
    obtain ⟨a, h0, ha⟩ := zh0_ok hl h
    exact zd_126 h0 ha
  case land => 
    obtain ⟨e, h⟩ := and_true_iff_z h
    rw [Nat.eq_of_beq_eq_true e]
    obtain ⟨a, h0, ha⟩ := zh0_ok hl h
    exact zd_127 h0 ha
  case ior => 
    obtain ⟨e, h⟩ := and_true_iff_z h
    rw [Nat.eq_of_beq_eq_true e]
    obtain ⟨a, h0, ha⟩ := zh0_ok hl h
    exact zd_128 h0 ha
  case lor => 
    obtain ⟨e, h⟩ := and_true_iff_z h
    rw [Nat.eq_of_beq_eq_true e]
    obtain ⟨a, h0, ha⟩ := zh0_ok hl h
    exact zd_129 h0 ha
  case ixor => 
    obtain ⟨e, h⟩ := and_true_iff_z h
    rw [Nat.eq_of_beq_eq_true e]
    obtain ⟨a, h0, ha⟩ := zh0_ok hl h
    exact zd_130 h0 ha
  case lxor => 
    obtain ⟨e, h⟩ := and_true_iff_z h
    rw [Nat.eq_of_beq_eq_true e]
    obtain ⟨a, h0, ha⟩ := zh0_ok hl h
    exact zd_131 h0 ha
  case i2l => 
    obtain ⟨e, h⟩ := and_true_iff_z h
    rw [Nat.eq_of_beq_eq_true e]
    obtain ⟨a, h0, ha⟩ := zh0_ok hl h
    exact zd_133 h0 ha
  case l2i => 
    obtain ⟨e, h⟩ := and_true_iff_z h
    rw [Nat.eq_of_beq_eq_true e]
    obtain ⟨a, h0, ha⟩ := zh0_ok hl h
    exact zd_136 h0 ha
  case i2b => 
    obtain ⟨e, h⟩ := and_true_iff_z h
    rw [Nat.eq_of_beq_eq_true e]
    obtain ⟨a, h0, ha⟩ := zh0_ok hl h
    exact zd_145 h0 ha
  case lcmp => 
    obtain ⟨e, h⟩ := and_true_iff_z h
    rw [Nat.eq_of_beq_eq_true e]
    obtain ⟨a, h0, ha⟩ := zh0_ok hl h
    exact zd_148 h0 ha
  case ireturn => 
    obtain ⟨e, h⟩ := and_true_iff_z h
    rw [Nat.eq_of_beq_eq_true e]
    obtain ⟨a, h0, ha⟩ := zh0_ok hl h
    exact zd_172 h0 ha
  case lreturn => 
    obtain ⟨e, h⟩ := and_true_iff_z h
    rw [Nat.eq_of_beq_eq_true e]
    obtain ⟨a, h0, ha⟩ := zh0_ok hl h
    exact zd_173 h0 ha
  case areturn => 
    obtain ⟨e, h⟩ := and_true_iff_z h
    rw [Nat.eq_of_beq_eq_true e]
    obtain ⟨a, h0, ha⟩ := zh0_ok hl h
    exact zd_176 h0 ha
  case return_ => 
    obtain ⟨e, h⟩ := and_true_iff_z h
    rw [Nat.eq_of_beq_eq_true e]
    obtain ⟨a, h0, ha⟩ := zh0_ok hl h
    exact zd_177 h0 ha
  case arraylength => 
    obtain ⟨e, h⟩ := and_true_iff_z h
    rw [Nat.eq_of_beq_eq_true e]
    obtain ⟨a, h0, ha⟩ := zh0_ok hl h
    exact zd_190 h0 ha
  case ldc k => 
    obtain ⟨e, h⟩ := and_true_iff_z h
    rw [Nat.eq_of_beq_eq_true e]
    obtain ⟨a, x, h0, h1, ha, hx⟩ := zh1_ok hl h
    subst hx
    exact zd_18 h0 h1 ha
  case iload k => 
    obtain ⟨e, h⟩ := and_true_iff_z h
    rw [Nat.eq_of_beq_eq_true e]
    obtain ⟨a, x, h0, h1, ha, hx⟩ := zh1_ok hl h
    subst hx
    exact zd_21 h0 h1 ha
  case lload k => 
    obtain ⟨e, h⟩ := and_true_iff_z h
    rw [Nat.eq_of_beq_eq_true e]
    obtain ⟨a, x, h0, h1, ha, hx⟩ := zh1_ok hl h
    subst hx
    exact zd_22 h0 h1 ha
  case aload k => 
    obtain ⟨e, h⟩ := and_true_iff_z h
    rw [Nat.eq_of_beq_eq_true e]
    obtain ⟨a, x, h0, h1, ha, hx⟩ := zh1_ok hl h
    subst hx
    exact zd_25 h0 h1 ha
  case istore k => 
    obtain ⟨e, h⟩ := and_true_iff_z h
    rw [Nat.eq_of_beq_eq_true e]
    obtain ⟨a, x, h0, h1, ha, hx⟩ := zh1_ok hl h
    subst hx
    exact zd_54 h0 h1 ha
  case lstore k => 
    obtain ⟨e, h⟩ := and_true_iff_z h
    rw [Nat.eq_of_beq_eq_true e]
    obtain ⟨a, x, h0, h1, ha, hx⟩ := zh1_ok hl h
    subst hx
    exact zd_55 h0 h1 ha
  case astore k => 
    obtain ⟨e, h⟩ := and_true_iff_z h
    rw [Nat.eq_of_beq_eq_true e]
    obtain ⟨a, x, h0, h1, ha, hx⟩ := zh1_ok hl h
    subst hx
    exact zd_58 h0 h1 ha
  case bipush k => 
    obtain ⟨e, h⟩ := and_true_iff_z h
    rw [Nat.eq_of_beq_eq_true e]
    obtain ⟨a, x, h0, h1, ha, hx⟩ := zg1_ok hl h
    subst hx
    exact zd_16 h0 h1 ha
  case ldc_w k => 
    obtain ⟨e, h⟩ := and_true_iff_z h
    rw [Nat.eq_of_beq_eq_true e]
    obtain ⟨a, x, y, h0, h1, h2, ha, hx⟩ := zh2_ok hl h
    subst hx
    exact zd_19 h0 h1 h2 ha
  case ldc2_w k => 
    obtain ⟨e, h⟩ := and_true_iff_z h
    rw [Nat.eq_of_beq_eq_true e]
    obtain ⟨a, x, y, h0, h1, h2, ha, hx⟩ := zh2_ok hl h
    subst hx
    exact zd_20 h0 h1 h2 ha
  case getstatic k => 
    obtain ⟨e, h⟩ := and_true_iff_z h
    rw [Nat.eq_of_beq_eq_true e]
    obtain ⟨a, x, y, h0, h1, h2, ha, hx⟩ := zh2_ok hl h
    subst hx
    exact zd_178 h0 h1 h2 ha
  case getfield k => 
    obtain ⟨e, h⟩ := and_true_iff_z h
    rw [Nat.eq_of_beq_eq_true e]
    obtain ⟨a, x, y, h0, h1, h2, ha, hx⟩ := zh2_ok hl h
    subst hx
    exact zd_180 h0 h1 h2 ha
  case putfield k => 
    obtain ⟨e, h⟩ := and_true_iff_z h
    rw [Nat.eq_of_beq_eq_true e]
    obtain ⟨a, x, y, h0, h1, h2, ha, hx⟩ := zh2_ok hl h
    subst hx
    exact zd_181 h0 h1 h2 ha
  case invokevirtual k => 
    obtain ⟨e, h⟩ := and_true_iff_z h
    rw [Nat.eq_of_beq_eq_true e]
    obtain ⟨a, x, y, h0, h1, h2, ha, hx⟩ := zh2_ok hl h
    subst hx
    exact zd_182 h0 h1 h2 ha
  case invokespecial k => 
    obtain ⟨e, h⟩ := and_true_iff_z h
    rw [Nat.eq_of_beq_eq_true e]
    obtain ⟨a, x, y, h0, h1, h2, ha, hx⟩ := zh2_ok hl h
    subst hx
    exact zd_183 h0 h1 h2 ha
  case invokestatic k => 
    obtain ⟨e, h⟩ := and_true_iff_z h
    rw [Nat.eq_of_beq_eq_true e]
    obtain ⟨a, x, y, h0, h1, h2, ha, hx⟩ := zh2_ok hl h
    subst hx
    exact zd_184 h0 h1 h2 ha
  case new k => 
    obtain ⟨e, h⟩ := and_true_iff_z h
    rw [Nat.eq_of_beq_eq_true e]
    obtain ⟨a, x, y, h0, h1, h2, ha, hx⟩ := zh2_ok hl h
    subst hx
    exact zd_187 h0 h1 h2 ha
  case anewarray k => 
    obtain ⟨e, h⟩ := and_true_iff_z h
    rw [Nat.eq_of_beq_eq_true e]
    obtain ⟨a, x, y, h0, h1, h2, ha, hx⟩ := zh2_ok hl h
    subst hx
    exact zd_189 h0 h1 h2 ha
  case sipush k => 
    obtain ⟨e, h⟩ := and_true_iff_z h
    rw [Nat.eq_of_beq_eq_true e]
    obtain ⟨a, x, y, h0, h1, h2, ha, hx⟩ := zg2_ok hl h
    subst hx
    exact zd_17 h0 h1 h2 ha
  case goto k => 
    obtain ⟨e, h⟩ := and_true_iff_z h
    rw [Nat.eq_of_beq_eq_true e]
    obtain ⟨a, x, y, h0, h1, h2, ha, hx⟩ := zg2_ok hl h
    subst hx
    exact zd_167 h0 h1 h2 ha
  case ifCond c k => 
    obtain ⟨e, h⟩ := and_true_iff_z h
    rw [Nat.eq_of_beq_eq_true e]
    obtain ⟨a, x, y, h0, h1, h2, ha, hx⟩ := zg2_ok hl h
    subst hx
    cases c
    · exact zd_153 h0 h1 h2 ha
    · exact zd_154 h0 h1 h2 ha
    · exact zd_155 h0 h1 h2 ha
    · exact zd_156 h0 h1 h2 ha
    · exact zd_157 h0 h1 h2 ha
    · exact zd_158 h0 h1 h2 ha
  case if_icmp c k => 
    obtain ⟨e, h⟩ := and_true_iff_z h
    rw [Nat.eq_of_beq_eq_true e]
    obtain ⟨a, x, y, h0, h1, h2, ha, hx⟩ := zg2_ok hl h
    subst hx
    cases c
    · exact zd_159 h0 h1 h2 ha
    · exact zd_160 h0 h1 h2 ha
    · exact zd_161 h0 h1 h2 ha
    · exact zd_162 h0 h1 h2 ha
    · exact zd_163 h0 h1 h2 ha
    · exact zd_164 h0 h1 h2 ha
  case iinc k n => 
    obtain ⟨e, h⟩ := and_true_iff_z h
    rw [Nat.eq_of_beq_eq_true e]
    obtain ⟨a, x, y, h0, h1, h2, ha, hx, hy⟩ := zgi_ok hl h
    subst hx hy
    exact zd_132 h0 h1 h2 ha
  case newarray t => 
    obtain ⟨e, h⟩ := and_true_iff_z h
    rw [Nat.eq_of_beq_eq_true e]
    obtain ⟨h, hz⟩ := and_true_iff_z h
    obtain ⟨a, x, h0, h1, ha, hx⟩ := zh1_ok hl h
    cases t
    case boolean => exact zd_188_4 h0 h1 ha hx
    case byte => exact zd_188_8 h0 h1 ha hx
    case int => exact zd_188_10 h0 h1 ha hx
    case long => exact zd_188_11 h0 h1 ha hx
    all_goals cases hz
  all_goals cases h
