/-! What the interpreter's numbers are in the machine: references, locals, cells, the whole heap; what each step of the interpreter says of its start. -/
noncomputable def zr (sz : Nat) (ka : Nat → Nat) (a : Nat) : Nat := if a % 2 = 0 then sz + a / 2 else ka (a / 2)
noncomputable def zv (ro : Nat → Nat) : Value → Value
  | .ref a => .ref (ro a)
  | v => v
noncomputable def zl (ro : Nat → Nat) (ls : zL) : List (Nat × Value) := ls.map (fun q => (q.1, zv ro q.2))
noncomputable def zce (cy : Nat → ClassId) (ro : Nat → Nat) : zE → va_E
  | .inl (t, n, f) => .inl (cy t, n, .inl (fun j => f.getD j 0))
  | .inr (.inl (n, f)) => .inl (cy 3, n, .inr (.inl (fun j => f.getD j 0)))
  | .inr (.inr (.inl (n, f))) => .inl (cy 4, n, .inr (.inr (.inr (.inr (fun j => (f.getD j none).map ro)))))
  | .inr (.inr (.inr (c, fs))) => .inr (c, fs.map (zv ro))
noncomputable def zW (cy : Nat → ClassId) (ro : Nat → Nat) : Nat → zH → va_W
  | _, [] => []
  | a, e :: h => (a, zce cy ro e) :: zW cy ro (a + 1) h
theorem zset_get {α : Type} (d : α) : ∀ (l : List α) (i : Nat) (x : α) (j : Nat), (zset d l i x).getD j d = if j = i then x else l.getD j d
  | [], 0, x, 0 => by simp [zset]
  | [], 0, x, j + 1 => by simp [zset]
  | [], i + 1, x, 0 => by simp [zset]
  | [], i + 1, x, j + 1 => by
    have h := zset_get d [] i x j
    simp only [zset, List.getD_cons_succ, h]
    simp
  | a :: l, 0, x, 0 => by simp [zset]
  | a :: l, 0, x, j + 1 => by simp [zset]
  | a :: l, i + 1, x, 0 => by simp [zset]
  | a :: l, i + 1, x, j + 1 => by
    have h := zset_get d l i x j
    simp only [zset, List.getD_cons_succ, h]
    simp
theorem zset_upd (l : List Int32) (i : Nat) (x : Int32) : (fun j => (zset 0 l i x).getD j 0) = upd (fun j => l.getD j 0) i x := by
  funext j
  rw [zset_get]
  simp only [upd]
theorem zset_updL (l : List Int64) (i : Nat) (x : Int64) : (fun j => (zset 0 l i x).getD j 0) = vp_updL (fun j => l.getD j 0) i x := by
  funext j
  rw [zset_get]
  simp only [vp_updL]
theorem zset_up (ro : Nat → Nat) (l : List (Option Nat)) (i : Nat) (x : Nat) : (fun j => ((zset none l i (some x)).getD j none).map ro) = va_up (fun j => (l.getD j none).map ro) i (some (ro x)) := by
  funext j
  rw [zset_get]
  by_cases h : j = i <;> simp [va_up, h]
theorem zcpy_get {α : Type} (d : α) (f g : List α) (sp dp : Nat) : ∀ (n j : Nat), (zcpy d f g sp dp n).getD j d = if dp ≤ j ∧ j < dp + n then f.getD (sp + (j - dp)) d else g.getD j d
  | 0, j => by rw [if_neg (by omega)]; rfl
  | n + 1, j => by
    simp only [zcpy]
    rw [zset_get, zcpy_get d f g sp dp n j]
    by_cases h : j = dp + n
    · subst h
      rw [if_pos rfl, if_pos (by omega), show sp + (dp + n - dp) = sp + n by omega]
    · rw [if_neg h]
      by_cases h2 : dp ≤ j ∧ j < dp + n
      · rw [if_pos h2, if_pos (by omega)]
      · rw [if_neg h2, if_neg (by omega)]
theorem zcpy_fun {α : Type} (d : α) (f g : List α) (sp dp n : Nat) : (fun j => (zcpy d f g sp dp n).getD j d) = va_cpy (fun j => f.getD j d) (fun j => g.getD j d) sp dp n := by
  funext j
  rw [zcpy_get]
  rfl
theorem zW_get (cy : Nat → ClassId) (ro : Nat → Nat) : ∀ (h : zH) (a k : Nat), (zW cy ro a h)[k]? = (h[k]?).map (fun e => (a + k, zce cy ro e))
  | [], a, k => by simp [zW]
  | e :: h, a, 0 => by simp [zW]
  | e :: h, a, k + 1 => by
    simp only [zW, List.getElem?_cons_succ]
    rw [zW_get cy ro h (a + 1) k]
    rw [show a + 1 + k = a + (k + 1) by omega]
theorem zW_len (cy : Nat → ClassId) (ro : Nat → Nat) : ∀ (h : zH) (a : Nat), (zW cy ro a h).length = h.length
  | [], a => rfl
  | e :: h, a => by simp [zW, zW_len cy ro h (a + 1)]
theorem zW_set (cy : Nat → ClassId) (ro : Nat → Nat) (e : zE) : ∀ (h : zH) (a k : Nat), zW cy ro a (h.set k e) = (zW cy ro a h).set k (a + k, zce cy ro e)
  | [], a, k => by simp [zW]
  | e0 :: h, a, 0 => by simp [zW]
  | e0 :: h, a, k + 1 => by
    simp only [zW, List.set_cons_succ]
    rw [zW_set cy ro e h (a + 1) k]
    rw [show a + 1 + k = a + (k + 1) by omega]
theorem zW_app (cy : Nat → ClassId) (ro : Nat → Nat) (e : zE) : ∀ (h : zH) (a : Nat), zW cy ro a (h ++ [e]) = zW cy ro a h ++ [(a + h.length, zce cy ro e)]
  | [], a => by simp [zW]
  | e0 :: h, a => by
    simp only [zW, List.cons_append, List.length_cons]
    rw [zW_app cy ro e h (a + 1)]
    rw [show a + 1 + h.length = a + (h.length + 1) by omega]
theorem zW_D (cy : Nat → ClassId) (ro : Nat → Nat) (h : zH) (a : Nat) : va_D (fun q => a ≤ q) (zW cy ro a h) := by
  refine ⟨fun i j p q hi hj hpq => ?_, fun k q hk => ?_⟩
  · rw [zW_get] at hi hj
    cases h1 : h[i]? with
    | none => rw [h1] at hi; cases hi
    | some e1 =>
      cases h2 : h[j]? with
      | none => rw [h2] at hj; cases hj
      | some e2 =>
        rw [h1] at hi; rw [h2] at hj
        cases hi; cases hj
        have h3 : a + i = a + j := hpq
        omega
  · rw [zW_get] at hk
    cases h1 : h[k]? with
    | none => rw [h1] at hk; cases hk
    | some e1 =>
      rw [h1] at hk
      cases hk
      exact Nat.le_add_right a k
theorem zat_inv {h : zH} {a : Nat} {e : zE} (hz : zat h a = some e) : a % 2 = 0 ∧ h[a / 2]? = some e := by
  unfold zat at hz
  by_cases hq : a % 2 = 0
  · rw [hq] at hz
    exact ⟨hq, hz⟩
  · have : (a % 2 == 0) = false := by simp; omega
    rw [this] at hz
    cases hz
theorem zct_inv {g : zCt} {a : Nat} {x : Nat × Nat × (Nat → Int32)} (hz : zct g a = some x) : a % 2 = 1 ∧ g (a / 2) = some x := by
  unfold zct at hz
  by_cases hq : a % 2 = 1
  · rw [hq] at hz
    exact ⟨hq, hz⟩
  · have : (a % 2 == 1) = false := by simp; omega
    rw [this] at hz
    cases hz
theorem zr_even {sz : Nat} {ka : Nat → Nat} {a : Nat} (h : a % 2 = 0) : zr sz ka a = sz + a / 2 := by simp [zr, h]
theorem zr_odd {sz : Nat} {ka : Nat → Nat} {a : Nat} (h : a % 2 = 1) : zr sz ka a = ka (a / 2) := by simp [zr, h]
theorem zW_at {cy : Nat → ClassId} {sz : Nat} {ka : Nat → Nat} {h : zH} {a : Nat} {e : zE} (hz : zat h a = some e) : (zW cy (zr sz ka) sz h)[a / 2]? = some (zr sz ka a, zce cy (zr sz ka) e) := by
  obtain ⟨h1, h2⟩ := zat_inv hz
  rw [zW_get, h2, zr_even h1]
  rfl
theorem zv_cat (ro : Nat → Nat) (v : Value) : (zv ro v).category = v.category := by cases v <;> rfl
theorem zlv_mem : ∀ {ls : zL} {i : Nat} {v : Value}, zlv ls i = some v → (i, v) ∈ ls
  | [], i, v, h => by cases h
  | q :: l, i, v, h => by
    unfold zlv at h
    by_cases hq : q.1 = i
    · rw [show (q.1 == i) = true by simp [hq]] at h
      cases h
      subst hq
      exact List.mem_cons_self
    · rw [show (q.1 == i) = false by simp [hq]] at h
      exact List.mem_cons_of_mem _ (zlv_mem h)
theorem zl_at {ro : Nat → Nat} {A : Array Slot} {n : Nat} {ls : zL} {i : Nat} {v : Value} (hl : lv_has A n (zl ro ls)) (h : zlv ls i = some v) : A[i]? = some (.val (zv ro v)) :=
  hl.2.2 (i, zv ro v) (List.mem_map.mpr ⟨(i, v), zlv_mem h, rfl⟩)
theorem zl_st1 (ro : Nat → Nat) (ls : zL) (i : Nat) (v : Value) : (i, zv ro v) :: (zl ro ls).filter (fun q => !(q.1 == i) && !(q.1 + 1 == i && q.2.category == 2)) = zl ro (zst1 ls i v) := by
  simp only [zl, zst1, List.map_cons, List.filter_map]
  congr 2
  apply congrArg (fun f => List.filter f ls)
  funext q
  simp [zv_cat]
theorem zl_st2 (ro : Nat → Nat) (ls : zL) (i : Nat) (v : Value) : (i, zv ro v) :: (zl ro ls).filter (fun q => !(q.1 == i) && (!(q.1 == i + 1) && !(q.1 + 1 == i && q.2.category == 2))) = zl ro (zst2 ls i v) := by
  simp only [zl, zst2, List.map_cons, List.filter_map]
  congr 2
  apply congrArg (fun f => List.filter f ls)
  funext q
  simp [zv_cat]
theorem zl_args (ro : Nat → Nat) : ∀ (vs : List Value) (i : Nat), lv_args i (vs.map (zv ro)) = zl ro (lv_args i vs)
  | [], i => rfl
  | v :: vs, i => by
    simp only [List.map_cons, lv_args, zv_cat]
    rw [zl_args ro vs]
    rfl
theorem zin_spec {i : Int32} {n : Nat} (h : zin i n = true) : vp_in i n := by
  unfold zin at h
  simp only [Bool.and_eq_true, Bool.not_eq_true', decide_eq_false_iff_not] at h
  obtain ⟨h1, h2⟩ := h
  have h3 : i.toNatClampNeg < n := Nat.le_of_ble_eq_true h2
  rintro (q | q)
  · exact h1 q
  · omega
theorem zs_inv {a : Nat} {b : zL} {c : List Value} {d : zH} {pc : Nat} {ls : zL} {st : List Value} {h : zH} (hz : zs a b c d = some (.inl (pc, ls, st, h))) : pc = a ∧ ls = b ∧ st = c ∧ h = d := by
  unfold zs at hz
  injection hz with hz
  injection hz with hz
  injection hz with h1 hz
  injection hz with h2 hz
  injection hz with h3 h4
  exact ⟨h1.symm, h2.symm, h3.symm, h4.symm⟩
section ZINV
variable {pc pc2 k n t y ci : Nat} {ls ls2 : zL} {st st2 : List Value} {h h2 : zH} {g : zCt}
theorem zldi_inv (hz : zldi k n ls st h = some (.inl (pc2, ls2, st2, h2))) : ∃ x, zlv ls k = some (.int x) ∧ pc2 = n ∧ ls2 = ls ∧ st2 = .int x :: st ∧ h2 = h := by
  unfold zldi at hz
  split at hz
  · next x hx => exact ⟨x, hx, zs_inv hz⟩
  · cases hz
theorem zldl_inv (hz : zldl k n ls st h = some (.inl (pc2, ls2, st2, h2))) : ∃ x, zlv ls k = some (.long x) ∧ pc2 = n ∧ ls2 = ls ∧ st2 = .long x :: st ∧ h2 = h := by
  unfold zldl at hz
  split at hz
  · next x hx => exact ⟨x, hx, zs_inv hz⟩
  · cases hz
theorem zlda_inv (hz : zlda k n ls st h = some (.inl (pc2, ls2, st2, h2))) : (∃ x, zlv ls k = some (.ref x) ∧ pc2 = n ∧ ls2 = ls ∧ st2 = .ref x :: st ∧ h2 = h) ∨ (zlv ls k = some .null ∧ pc2 = n ∧ ls2 = ls ∧ st2 = .null :: st ∧ h2 = h) := by
  unfold zlda at hz
  split at hz
  · next x hx => exact Or.inl ⟨x, hx, zs_inv hz⟩
  · next hx => exact Or.inr ⟨hx, zs_inv hz⟩
  · cases hz
theorem zsti_inv (hz : zsti k n ls st h = some (.inl (pc2, ls2, st2, h2))) : ∃ x r, st = .int x :: r ∧ pc2 = n ∧ ls2 = zst1 ls k (.int x) ∧ st2 = r ∧ h2 = h := by
  unfold zsti at hz
  split at hz
  · exact ⟨_, _, rfl, zs_inv hz⟩
  · cases hz
theorem zstl_inv (hz : zstl k n ls st h = some (.inl (pc2, ls2, st2, h2))) : ∃ x r, st = .long x :: r ∧ pc2 = n ∧ ls2 = zst2 ls k (.long x) ∧ st2 = r ∧ h2 = h := by
  unfold zstl at hz
  split at hz
  · exact ⟨_, _, rfl, zs_inv hz⟩
  · cases hz
theorem zsta_inv (hz : zsta k n ls st h = some (.inl (pc2, ls2, st2, h2))) : (∃ x r, st = .ref x :: r ∧ pc2 = n ∧ ls2 = zst1 ls k (.ref x) ∧ st2 = r ∧ h2 = h) ∨ (∃ r, st = .null :: r ∧ pc2 = n ∧ ls2 = zst1 ls k .null ∧ st2 = r ∧ h2 = h) := by
  unfold zsta at hz
  split at hz
  · exact Or.inl ⟨_, _, rfl, zs_inv hz⟩
  · exact Or.inr ⟨_, rfl, zs_inv hz⟩
  · cases hz
theorem zii_inv {f : Int32 → Int32 → Int32} (hz : zii f pc ls st h = some (.inl (pc2, ls2, st2, h2))) : ∃ x y r, st = .int y :: .int x :: r ∧ pc2 = pc + 1 ∧ ls2 = ls ∧ st2 = .int (f x y) :: r ∧ h2 = h := by
  unfold zii at hz
  split at hz
  · exact ⟨_, _, _, rfl, zs_inv hz⟩
  · cases hz
theorem ziid_inv {f : Int32 → Int32 → Int32} (hz : ziid f pc ls st h = some (.inl (pc2, ls2, st2, h2))) : ∃ x y r, st = .int y :: .int x :: r ∧ ¬ y = 0 ∧ pc2 = pc + 1 ∧ ls2 = ls ∧ st2 = .int (f x y) :: r ∧ h2 = h := by
  unfold ziid at hz
  split at hz
  · next y x r =>
    by_cases hy : y = 0
    · rw [show decide (y = 0) = true by simp [hy]] at hz
      cases hz
    · rw [show decide (y = 0) = false by simp [hy]] at hz
      exact ⟨_, _, _, rfl, hy, zs_inv hz⟩
  · cases hz
theorem zll_inv {f : Int64 → Int64 → Int64} (hz : zll f pc ls st h = some (.inl (pc2, ls2, st2, h2))) : ∃ x y r, st = .long y :: .long x :: r ∧ pc2 = pc + 1 ∧ ls2 = ls ∧ st2 = .long (f x y) :: r ∧ h2 = h := by
  unfold zll at hz
  split at hz
  · exact ⟨_, _, _, rfl, zs_inv hz⟩
  · cases hz
theorem zlld_inv {f : Int64 → Int64 → Int64} (hz : zlld f pc ls st h = some (.inl (pc2, ls2, st2, h2))) : ∃ x y r, st = .long y :: .long x :: r ∧ ¬ y = 0 ∧ pc2 = pc + 1 ∧ ls2 = ls ∧ st2 = .long (f x y) :: r ∧ h2 = h := by
  unfold zlld at hz
  split at hz
  · next y x r =>
    by_cases hy : y = 0
    · rw [show decide (y = 0) = true by simp [hy]] at hz
      cases hz
    · rw [show decide (y = 0) = false by simp [hy]] at hz
      exact ⟨_, _, _, rfl, hy, zs_inv hz⟩
  · cases hz
theorem zlsh_inv {f : Int64 → Int32 → Int64} (hz : zlsh f pc ls st h = some (.inl (pc2, ls2, st2, h2))) : ∃ x y r, st = .int y :: .long x :: r ∧ pc2 = pc + 1 ∧ ls2 = ls ∧ st2 = .long (f x y) :: r ∧ h2 = h := by
  unfold zlsh at hz
  split at hz
  · exact ⟨_, _, _, rfl, zs_inv hz⟩
  · cases hz
theorem zi1_inv {f : Int32 → Value} (hz : zi1 f pc ls st h = some (.inl (pc2, ls2, st2, h2))) : ∃ x r, st = .int x :: r ∧ pc2 = pc + 1 ∧ ls2 = ls ∧ st2 = f x :: r ∧ h2 = h := by
  unfold zi1 at hz
  split at hz
  · exact ⟨_, _, rfl, zs_inv hz⟩
  · cases hz
theorem zl1_inv {f : Int64 → Value} (hz : zl1 f pc ls st h = some (.inl (pc2, ls2, st2, h2))) : ∃ x r, st = .long x :: r ∧ pc2 = pc + 1 ∧ ls2 = ls ∧ st2 = f x :: r ∧ h2 = h := by
  unfold zl1 at hz
  split at hz
  · exact ⟨_, _, rfl, zs_inv hz⟩
  · cases hz
theorem zif0_inv {c : ClassFile.Cond} (hz : zif0 c t n ls st h = some (.inl (pc2, ls2, st2, h2))) : ∃ x r, st = .int x :: r ∧ pc2 = (bif zcmp c x 0 then t else n) ∧ ls2 = ls ∧ st2 = r ∧ h2 = h := by
  unfold zif0 at hz
  split at hz
  · next x r =>
    refine ⟨x, r, rfl, ?_⟩
    cases hc : zcmp c x 0 <;> rw [hc] at hz <;> exact zs_inv hz
  · cases hz
theorem zif2_inv {c : ClassFile.Cond} (hz : zif2 c t n ls st h = some (.inl (pc2, ls2, st2, h2))) : ∃ x y r, st = .int y :: .int x :: r ∧ pc2 = (bif zcmp c x y then t else n) ∧ ls2 = ls ∧ st2 = r ∧ h2 = h := by
  unfold zif2 at hz
  split at hz
  · next y x r =>
    refine ⟨x, y, r, rfl, ?_⟩
    cases hc : zcmp c x y <;> rw [hc] at hz <;> exact zs_inv hz
  · cases hz
theorem zb_inv {b : Bool} {x : Option zA} {r : zA} (hz : (bif b then x else none) = some r) : b = true ∧ x = some r := by
  cases b
  · cases hz
  · exact ⟨rfl, hz⟩
theorem ziald_inv (hz : ziald g pc ls st h = some (.inl (pc2, ls2, st2, h2))) : ∃ i a r n x, st = .int i :: .ref a :: r ∧ ((∃ f, zat h a = some (.inl (0, n, f)) ∧ x = f.getD i.toNatClampNeg 0) ∨ (∃ f, zct g a = some (0, n, f) ∧ x = f i.toNatClampNeg)) ∧ zin i n = true ∧ pc2 = pc + 1 ∧ ls2 = ls ∧ st2 = .int x :: r ∧ h2 = h := by
  unfold ziald at hz
  split at hz
  · next i a r =>
    split at hz
    · next n f hf =>
      obtain ⟨h1, h3⟩ := zb_inv hz
      exact ⟨i, a, r, n, _, rfl, Or.inl ⟨f, hf, rfl⟩, h1, zs_inv h3⟩
    · cases hz
    · split at hz
      · next n f hf =>
        obtain ⟨h1, h3⟩ := zb_inv hz
        exact ⟨i, a, r, n, _, rfl, Or.inr ⟨f, hf, rfl⟩, h1, zs_inv h3⟩
      · cases hz
  · cases hz
theorem zbald_inv (hz : zbald pc ls st h = some (.inl (pc2, ls2, st2, h2))) : ∃ i a r n f, st = .int i :: .ref a :: r ∧ (zat h a = some (.inl (1, n, f)) ∨ zat h a = some (.inl (2, n, f))) ∧ zin i n = true ∧ pc2 = pc + 1 ∧ ls2 = ls ∧ st2 = .int (f.getD i.toNatClampNeg 0) :: r ∧ h2 = h := by
  unfold zbald at hz
  split at hz
  · next i a r =>
    split at hz
    · next n f hf =>
      obtain ⟨h1, h3⟩ := zb_inv hz
      exact ⟨i, a, r, n, f, rfl, Or.inl hf, h1, zs_inv h3⟩
    · next n f hf =>
      obtain ⟨h1, h3⟩ := zb_inv hz
      exact ⟨i, a, r, n, f, rfl, Or.inr hf, h1, zs_inv h3⟩
    · cases hz
  · cases hz
theorem zlald_inv (hz : zlald pc ls st h = some (.inl (pc2, ls2, st2, h2))) : ∃ i a r n f, st = .int i :: .ref a :: r ∧ zat h a = some (.inr (.inl (n, f))) ∧ zin i n = true ∧ pc2 = pc + 1 ∧ ls2 = ls ∧ st2 = .long (f.getD i.toNatClampNeg 0) :: r ∧ h2 = h := by
  unfold zlald at hz
  split at hz
  · next i a r =>
    split at hz
    · next n f hf =>
      obtain ⟨h1, h3⟩ := zb_inv hz
      exact ⟨i, a, r, n, f, rfl, hf, h1, zs_inv h3⟩
    · cases hz
  · cases hz
theorem zaald_inv (hz : zaald pc ls st h = some (.inl (pc2, ls2, st2, h2))) : ∃ i a r n f, st = .int i :: .ref a :: r ∧ zat h a = some (.inr (.inr (.inl (n, f)))) ∧ zin i n = true ∧ pc2 = pc + 1 ∧ ls2 = ls ∧ st2 = va_rf (f.getD i.toNatClampNeg none) :: r ∧ h2 = h := by
  unfold zaald at hz
  split at hz
  · next i a r =>
    split at hz
    · next n f hf =>
      obtain ⟨h1, h3⟩ := zb_inv hz
      exact ⟨i, a, r, n, f, rfl, hf, h1, zs_inv h3⟩
    · cases hz
  · cases hz
theorem ziast_inv (hz : ziast pc ls st h = some (.inl (pc2, ls2, st2, h2))) : ∃ x i a r n f, st = .int x :: .int i :: .ref a :: r ∧ zat h a = some (.inl (0, n, f)) ∧ zin i n = true ∧ pc2 = pc + 1 ∧ ls2 = ls ∧ st2 = r ∧ h2 = h.set (a / 2) (.inl (0, n, zset 0 f i.toNatClampNeg x)) := by
  unfold ziast at hz
  split at hz
  · next x i a r =>
    split at hz
    · next n f hf =>
      obtain ⟨h1, h3⟩ := zb_inv hz
      exact ⟨x, i, a, r, n, f, rfl, hf, h1, zs_inv h3⟩
    · cases hz
  · cases hz
theorem zbast_inv (hz : zbast pc ls st h = some (.inl (pc2, ls2, st2, h2))) : ∃ x i a r n f, st = .int x :: .int i :: .ref a :: r ∧ zin i n = true ∧ pc2 = pc + 1 ∧ ls2 = ls ∧ st2 = r ∧ ((zat h a = some (.inl (1, n, f)) ∧ h2 = h.set (a / 2) (.inl (1, n, zset 0 f i.toNatClampNeg (vp_nar .byte x)))) ∨ (zat h a = some (.inl (2, n, f)) ∧ h2 = h.set (a / 2) (.inl (2, n, zset 0 f i.toNatClampNeg (vp_nar .boolean x))))) := by
  unfold zbast at hz
  split at hz
  · next x i a r =>
    split at hz
    · next n f hf =>
      obtain ⟨h1, h3⟩ := zb_inv hz
      obtain ⟨q1, q2, q3, q4⟩ := zs_inv h3
      exact ⟨x, i, a, r, n, f, rfl, h1, q1, q2, q3, Or.inl ⟨hf, q4⟩⟩
    · next n f hf =>
      obtain ⟨h1, h3⟩ := zb_inv hz
      obtain ⟨q1, q2, q3, q4⟩ := zs_inv h3
      exact ⟨x, i, a, r, n, f, rfl, h1, q1, q2, q3, Or.inr ⟨hf, q4⟩⟩
    · cases hz
  · cases hz
theorem zlast_inv (hz : zlast pc ls st h = some (.inl (pc2, ls2, st2, h2))) : ∃ x i a r n f, st = .long x :: .int i :: .ref a :: r ∧ zat h a = some (.inr (.inl (n, f))) ∧ zin i n = true ∧ pc2 = pc + 1 ∧ ls2 = ls ∧ st2 = r ∧ h2 = h.set (a / 2) (.inr (.inl (n, zset 0 f i.toNatClampNeg x))) := by
  unfold zlast at hz
  split at hz
  · next x i a r =>
    split at hz
    · next n f hf =>
      obtain ⟨h1, h3⟩ := zb_inv hz
      exact ⟨x, i, a, r, n, f, rfl, hf, h1, zs_inv h3⟩
    · cases hz
  · cases hz
theorem zaast_inv (hz : zaast pc ls st h = some (.inl (pc2, ls2, st2, h2))) : ∃ v i a r n f fs, st = .ref v :: .int i :: .ref a :: r ∧ zat h a = some (.inr (.inr (.inl (n, f)))) ∧ zat h v = some (.inr (.inr (.inr (1, fs)))) ∧ zin i n = true ∧ pc2 = pc + 1 ∧ ls2 = ls ∧ st2 = r ∧ h2 = h.set (a / 2) (.inr (.inr (.inl (n, zset none f i.toNatClampNeg (some v))))) := by
  unfold zaast at hz
  split at hz
  · next v i a r =>
    split at hz
    · next n f fs hf hg =>
      obtain ⟨h1, h3⟩ := zb_inv hz
      exact ⟨v, i, a, r, n, f, fs, rfl, hf, hg, h1, zs_inv h3⟩
    · cases hz
  · cases hz
theorem zalen_inv (hz : zalen g pc ls st h = some (.inl (pc2, ls2, st2, h2))) : ∃ a r n, st = .ref a :: r ∧ pc2 = pc + 1 ∧ ls2 = ls ∧ st2 = .int (Int32.ofNat n) :: r ∧ h2 = h ∧ ((∃ f, zat h a = some (.inl (0, n, f))) ∨ (∃ f, zat h a = some (.inl (1, n, f))) ∨ (∃ f, zat h a = some (.inr (.inl (n, f)))) ∨ ∃ f, zct g a = some (0, n, f)) := by
  unfold zalen at hz
  split at hz
  · next a r =>
    split at hz
    · next n f hf =>
      obtain ⟨q1, q2, q3, q4⟩ := zs_inv hz
      exact ⟨a, r, n, rfl, q1, q2, q3, q4, Or.inl ⟨f, hf⟩⟩
    · next n f hf =>
      obtain ⟨q1, q2, q3, q4⟩ := zs_inv hz
      exact ⟨a, r, n, rfl, q1, q2, q3, q4, Or.inr (Or.inl ⟨f, hf⟩)⟩
    · next n f hf =>
      obtain ⟨q1, q2, q3, q4⟩ := zs_inv hz
      exact ⟨a, r, n, rfl, q1, q2, q3, q4, Or.inr (Or.inr (Or.inl ⟨f, hf⟩))⟩
    · cases hz
    · split at hz
      · next n f hf =>
        obtain ⟨q1, q2, q3, q4⟩ := zs_inv hz
        exact ⟨a, r, n, rfl, q1, q2, q3, q4, Or.inr (Or.inr (Or.inr ⟨f, hf⟩))⟩
      · cases hz
  · cases hz
theorem zget_inv (hz : zget ci k pc ls st h = some (.inl (pc2, ls2, st2, h2))) : ∃ a r fs v, st = .ref a :: r ∧ zat h a = some (.inr (.inr (.inr (ci, fs)))) ∧ fs[k]? = some v ∧ pc2 = pc + 3 ∧ ls2 = ls ∧ st2 = v :: r ∧ h2 = h := by
  unfold zget at hz
  split at hz
  · next a r =>
    split at hz
    · next c fs hf =>
      obtain ⟨h1, h3⟩ := zb_inv hz
      have hc : c = ci := by simpa using h1
      subst hc
      split at h3
      · next v hv => exact ⟨a, r, fs, v, rfl, hf, hv, zs_inv h3⟩
      · cases h3
    · cases hz
  · cases hz
theorem zput_inv (hz : zput ci k t pc ls st h = some (.inl (pc2, ls2, st2, h2))) : ∃ v a r fs, st = v :: .ref a :: r ∧ zkind v t = true ∧ zat h a = some (.inr (.inr (.inr (ci, fs)))) ∧ k < fs.length ∧ pc2 = pc + 3 ∧ ls2 = ls ∧ st2 = r ∧ h2 = h.set (a / 2) (.inr (.inr (.inr (ci, fs.set k v)))) := by
  unfold zput at hz
  split at hz
  · next v a r =>
    obtain ⟨h0, hz⟩ := zb_inv hz
    split at hz
    · next c fs hf =>
      obtain ⟨h1, h3⟩ := zb_inv hz
      simp only [Bool.and_eq_true, beq_iff_eq] at h1
      obtain ⟨hc, hk⟩ := h1
      subst hc
      have hk : k < fs.length := Nat.le_of_ble_eq_true hk
      exact ⟨v, a, r, fs, rfl, h0, hf, hk, zs_inv h3⟩
    · cases hz
  · cases hz
end ZINV
