/-! More rules: bytes, booleans, references in rows, rows of ints, switches. -/
section WQB
variable {y pc pf : Nat} {ls : zL} {st rest : List Value} {h : zH} {dc ds : Nat} {Q : zR → Prop} {len : Nat} {K : zK} {tg : List Nat}
theorem wq_bald {i : Int32} {a n : Nat} {f : List Int32} (t : Nat) (ht : t = 1 ∨ t = 2) (hP : zP y pc = some (.baload, len, K, tg)) (hat : zat h a = some (.inl (t, n, f))) (hin : zin i n = true) (hpf : pc + 1 = pf) (k : wq y pf ls (.int (f.getD i.toNatClampNeg 0) :: rest) h dc ds Q) : wq y pc ls (.int i :: .ref a :: rest) h dc ds Q := by
  subst hpf
  refine wq_step hP ?_ k
  show zbald pc ls (.int i :: .ref a :: rest) h = _
  unfold zbald
  (try dsimp only)
  rcases ht with rfl | rfl
  · rw [hat]
    show (bif zin i n then zs (pc + 1) ls (.int (f.getD i.toNatClampNeg 0) :: rest) h else none) = _
    rw [hin]
    rfl
  · rw [hat]
    show (bif zin i n then zs (pc + 1) ls (.int (f.getD i.toNatClampNeg 0) :: rest) h else none) = _
    rw [hin]
    rfl
theorem wq_bast {x i : Int32} {a n : Nat} {f : List Int32} (hP : zP y pc = some (.bastore, len, K, tg)) (hat : zat h a = some (.inl (1, n, f))) (hin : zin i n = true) (hpf : pc + 1 = pf) (k : ∀ h2 : zH, zat h2 a = some (.inl (1, n, zset 0 f i.toNatClampNeg (vp_nar .byte x))) → wFr [a] h h2 → h2.length = h.length → wq y pf ls rest h2 dc ds Q) : wq y pc ls (.int x :: .int i :: .ref a :: rest) h dc ds Q := by
  subst hpf
  have kk := k _ (zatE hat) (wFr_set hat) List.length_set
  refine wq_step hP ?_ kk
  show zbast pc ls (.int x :: .int i :: .ref a :: rest) h = _
  unfold zbast
  (try dsimp only)
  rw [hat]
  show (bif zin i n then zs (pc + 1) ls rest (h.set (a / 2) (.inl (1, n, zset 0 f i.toNatClampNeg (vp_nar .byte x)))) else none) = _
  rw [hin]
  rfl
theorem wq_bastz {x i : Int32} {a n : Nat} {f : List Int32} (hP : zP y pc = some (.bastore, len, K, tg)) (hat : zat h a = some (.inl (2, n, f))) (hin : zin i n = true) (hpf : pc + 1 = pf) (k : ∀ h2 : zH, zat h2 a = some (.inl (2, n, zset 0 f i.toNatClampNeg (vp_nar .boolean x))) → wFr [a] h h2 → h2.length = h.length → wq y pf ls rest h2 dc ds Q) : wq y pc ls (.int x :: .int i :: .ref a :: rest) h dc ds Q := by
  subst hpf
  have kk := k _ (zatE hat) (wFr_set hat) List.length_set
  refine wq_step hP ?_ kk
  show zbast pc ls (.int x :: .int i :: .ref a :: rest) h = _
  unfold zbast
  (try dsimp only)
  rw [hat]
  show (bif zin i n then zs (pc + 1) ls rest (h.set (a / 2) (.inl (2, n, zset 0 f i.toNatClampNeg (vp_nar .boolean x)))) else none) = _
  rw [hin]
  rfl
theorem wq_aald {i : Int32} {a n r : Nat} {f : List (Option Nat)} (hP : zP y pc = some (.aaload, len, K, tg)) (hat : zat h a = some (.inr (.inr (.inl (n, f))))) (hin : zin i n = true) (hr : f.getD i.toNatClampNeg none = some r) (hpf : pc + 1 = pf) (k : wq y pf ls (.ref r :: rest) h dc ds Q) : wq y pc ls (.int i :: .ref a :: rest) h dc ds Q := by
  subst hpf
  refine wq_step hP ?_ k
  show zaald pc ls (.int i :: .ref a :: rest) h = _
  unfold zaald
  (try dsimp only)
  rw [hat]
  (try dsimp only)
  rw [hin, hr]
  rfl
theorem wq_newi {i : Int32} {w : ClassFile.ArrayType} {k2 : Nat} {k3 : Value} (hP : zP y pc = some (.newarray w, 2, (0, k2, k3), tg)) (h0 : 0 ≤ i.toInt) (h1 : i.toInt ≤ 67108864) (hpf : pc + 2 = pf) (k : ∀ h2 : zH, zat h2 (2 * h.length) = some (.inl (0, i.toNatClampNeg, [])) → wFr [] h h2 → h2.length = h.length + 1 → wq y pf ls (.ref (2 * h.length) :: rest) h2 (dc + 1) (ds + i.toNatClampNeg) Q) : wq y pc ls (.int i :: rest) h dc ds Q := by
  subst hpf
  refine wq_new hP ?_ k
  show znewa 0 pc (.int i :: rest) = _
  unfold znewa
  (try dsimp only)
  rw [decide_eq_false (show ¬ i < 0 from fun q => by have := Int32.lt_iff_toInt_lt.mp q; simp at this; omega)]
  rw [show Nat.ble i.toNatClampNeg 67108864 = true from Nat.ble_eq_true_of_le (by show i.toInt.toNat ≤ 67108864; omega)]
  rfl
theorem wq_tabc {x c : Int32} {t : Nat} {d lo hi : Int} {offs : Array Int} (hP : zP y pc = some (.tableswitch d lo hi offs, len, K, tg)) (hx : x = c) (ht : ztab K lo hi tg ls (.int c :: rest) h = zs t ls rest h) (k : wq y t ls rest h dc ds Q) : wq y pc ls (.int x :: rest) h dc ds Q := by
  subst hx
  exact wq_step hP ht k
end WQB
theorem wq_tabo {y pc : Nat} {ls : zL} {rest : List Value} {h : zH} {dc ds : Nat} {Q : zR → Prop} {len : Nat} {K : zK} {tg : List Nat} {x : Int32} {d lo hi : Int} {offs : Array Int} (hP : zP y pc = some (.tableswitch d lo hi offs, len, K, tg)) (hx : x.toInt < lo ∨ hi < x.toInt) (k : wq y K.1 ls rest h dc ds Q) : wq y pc ls (.int x :: rest) h dc ds Q := by
  obtain ⟨r, k1, k2⟩ := k
  exact ⟨r, zT_tabo hP hx k1, k2⟩
