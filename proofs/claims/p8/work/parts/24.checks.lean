/-! The check of a row, and that it suffices. -/
noncomputable def zfkb (t : Nat) (ty : FieldType) : Bool := match t, ty with
  | 0, .int => true
  | 1, .long => true
  | 2, .boolean => true
  | 3, .object _ => true
  | 3, .array _ => true
  | _, _ => false
theorem zfkb_ok {t : Nat} {ty : FieldType} (h : zfkb t ty = true) : zfk t ty := by
  unfold zfkb at h
  split at h
  · exact Or.inl ⟨rfl, rfl⟩
  · exact Or.inr (Or.inl ⟨rfl, rfl⟩)
  · exact Or.inr (Or.inr (Or.inl ⟨rfl, rfl⟩))
  · exact Or.inr (Or.inr (Or.inr ⟨rfl, Or.inl ⟨_, rfl⟩⟩))
  · exact Or.inr (Or.inr (Or.inr ⟨rfl, Or.inr ⟨_, rfl⟩⟩))
  · cases h
noncomputable def zfin (ci j : Nat) : Bool := match zcl[ci]? with
  | some (_, T, _) => (T j).2.2.2
  | none => true
noncomputable def zroom (K : zK) (fr lo : Nat) : Bool := K.2.1 / 64 == (zM K.1).2.2.1 && (Nat.ble ((zM K.1).2.2.2.2.1 + 1) fr && Nat.ble (8 + ((zM K.1).2.2.1 + 11) + (zM K.1).2.2.2.2.2) lo)
noncomputable def zMk (y : Nat) : Nat := (zMx y).2.1
noncomputable def zchI (o nL : Nat) (ini : Bool) (ret : Option FieldType) (fr lo pc : Nat) (i : Instr) (len : Nat) (K : zK) (tg : List Nat) : Bool := match i with
  | .iconst n => decide (Value.int (Int32.ofInt n) = K.2.2) && len == 1
  | .bipush n => decide (Value.int (Int8.ofInt n).toInt32 = K.2.2) && len == 2
  | .sipush n => decide (Value.int (Int16.ofInt n).toInt32 = K.2.2) && len == 3
  | .lconst n => decide (Value.long (Int64.ofNat n) = K.2.2) && len == 1
  | .ldc k => (match zfind zICl (zkey o k) with
    | some v => decide (K.2.2 = .int v)
    | none => false) && len == 2 && Nat.blt k 65536
  | .ldc_w k => (match zfind zICl (zkey o k) with
    | some v => decide (K.2.2 = .int v)
    | none => false) && len == 3 && Nat.blt k 65536
  | .ldc2_w k => (match zfind zLCl (zkey o k) with
    | some v => decide (K.2.2 = .long v)
    | none => false) && len == 3 && Nat.blt k 65536
  | .getstatic k => (match zfind zSLl (zkey o k) with
    | some j => decide (K.2.2 = .ref (2 * j + 1))
    | none => false) && len == 3 && Nat.blt k 65536
  | .iload _ => len == 2
  | .lload _ => len == 2
  | .aload _ => len == 2
  | .istore k => Nat.blt k nL && len == 2
  | .istore_n k => Nat.blt k nL && len == 1
  | .lstore k => Nat.blt (k + 1) nL && len == 2
  | .lstore_n k => Nat.blt (k + 1) nL && len == 1
  | .astore k => Nat.blt k nL && len == 2
  | .astore_n k => Nat.blt k nL && len == 1
  | .iinc k n => decide (Value.int (Int32.ofInt n) = K.2.2) && Nat.blt k nL && len == 3
  | .ifCond _ off => decide ((pc : Int) + off = (K.1 : Int)) && len == 3
  | .if_icmp _ off => decide ((pc : Int) + off = (K.1 : Int)) && len == 3
  | .goto off => decide ((pc : Int) + off = (K.1 : Int)) && len == 3
  | .tableswitch d _ _ offs => decide ((pc : Int) + d = (K.1 : Int)) && (List.range tg.length).all (fun j => match tg[j]?, offs[j]? with
    | some t, some x => decide ((pc : Int) + x = (t : Int))
    | _, _ => false)
  | .getfield k => decide (zfind zFLl (zkey o k) = some (K.1, K.2.1)) && len == 3 && Nat.blt k 65536
  | .putfield k => decide (zfind zFLl (zkey o k) = some (K.1, K.2.1)) && len == 3 && Nat.blt k 65536 && (match K.2.2 with
    | .retAddr t => zfkb t (zty K.1 K.2.1) && (!(zfin K.1 K.2.1) || (ini && K.1 == o))
    | _ => false)
  | .invokevirtual k => (match K.2.2 with
    | .retAddr ci => ci == (zMx K.1).2.2.1
    | _ => false) && decide (zfind zMLl (zkey o k) = some (K.1, 0)) && len == 3 && Nat.blt k 65536 && zMk K.1 == 0 && zroom K fr lo && K.2.1 % 64 == (zMx K.1).2.2.2 + 1
  | .invokestatic k => len == 3 && Nat.blt k 65536 && (match K.2.2 with
    | .retAddr _ => decide (zfind zACl (zkey o k) = some 0) && Nat.ble 1 fr && Nat.ble 26 lo
    | .int _ => (match zfind zMLl (zkey o k) with
      | some (y, _) => y == K.1
      | none => false) && zMk K.1 == 1 && zroom K fr lo && K.2.1 % 64 == (zMx K.1).2.2.2
    | _ => false)
  | .invokespecial k => len == 3 && Nat.blt k 65536 && (match K.2.2 with
    | .null => decide (zfind zOIl (zkey o k) = some 0) && Nat.ble 1 fr && Nat.ble 20 lo
    | .int _ => (match zfind zMLl (zkey o k) with
      | some (y, _) => y == K.1
      | none => false) && zMk K.1 == 2 && zroom K fr lo && K.2.1 % 64 == (zMx K.1).2.2.2 + 1
    | _ => false)
  | .new k => decide (zfind zCLl (zkey o k) = some K.1) && len == 3 && Nat.blt k 65536
  | .newarray a => len == 2 && (match a with
    | .int => K.1 == 0
    | .byte => K.1 == 1
    | .boolean => K.1 == 2
    | .long => K.1 == 3
    | _ => false)
  | .anewarray k => decide (zfind zCLl (zkey o k) = some 1) && len == 3 && Nat.blt k 65536
  | .ireturn => len == 1 && ((K.1 == 0 && decide (ret = some .int)) || (K.1 == 2 && decide (ret = some .boolean)))
  | .lreturn => len == 1 && decide (ret = some .long)
  | .areturn => len == 1 && (match ret with
    | some (.object _) => true
    | some (.array _) => true
    | _ => false)
  | .return_ => len == 1 && decide (ret = none)
  | _ => len == 1
theorem zkey_d (o k : Nat) (h : k < 65536) : zkey o k / 65536 = o ∧ zkey o k % 65536 = k := by
  unfold zkey
  omega
theorem zFL_at {o k : Nat} {x : Nat × Nat} (h : zfind zFLl (zkey o k) = some x) (hk : k < 65536) : ∃ (C : String) (T : u_T) (N : Nat), zcl[x.1]? = some (C, T, N) ∧ x.2 < N ∧ Cond.fieldLink (zcn o) k (T x.2).1 (T x.2).2.1 (T x.2).2.2.1 ∈ zTs := by
  have h1 := zFLl_ok _ (zfind_mem h)
  obtain ⟨e1, e2⟩ := zkey_d o k hk
  unfold zFLok at h1
  dsimp only at h1
  rw [e1, e2] at h1
  exact h1
theorem zML_at {o k : Nat} {x : Nat × Nat} (h : zfind zMLl (zkey o k) = some x) (hk : k < 65536) : (x.2 = 0 ∧ Cond.methodLink (zcn o) k (zM x.1).1 ∈ zTs) ∨ (x.2 = 1 ∧ ∃ host, Cond.methodLinkNest (zcn o) k (zM x.1).1 host ∈ lw_tbl) := by
  have h1 := zMLl_ok _ (zfind_mem h)
  obtain ⟨e1, e2⟩ := zkey_d o k hk
  unfold zMLok at h1
  dsimp only at h1
  rw [e1, e2] at h1
  exact h1
theorem zCL_at {o k ci : Nat} (h : zfind zCLl (zkey o k) = some ci) (hk : k < 65536) : ∃ (C : String) (T : u_T) (N : Nat), zcl[ci]? = some (C, T, N) ∧ Cond.classLink (zcn o) k C ∈ zTs ∧ 0 < N := by
  have h1 := zCLl_ok _ (zfind_mem h)
  obtain ⟨e1, e2⟩ := zkey_d o k hk
  unfold zCLok at h1
  dsimp only at h1
  rw [e1, e2] at h1
  exact h1
theorem zSL_at {o k j : Nat} (h : zfind zSLl (zkey o k) = some j) (hk : k < 65536) : ∃ C n d : String, (C, n, d, j) ∈ zZs0 ∧ (Cond.fieldLink (zcn o) k C n d ∈ zTs ∨ ∃ host, Cond.fieldLinkNest (zcn o) k C n d host ∈ lw_tbl) := by
  have h1 := zSLl_ok _ (zfind_mem h)
  obtain ⟨e1, e2⟩ := zkey_d o k hk
  unfold zSLok at h1
  dsimp only at h1
  rw [e1, e2] at h1
  exact h1
theorem zIC_at {o k : Nat} {v : Int32} (h : zfind zICl (zkey o k) = some v) (hk : k < 65536) : Cond.constant (zcn o) k v ∈ zTs := by
  have h1 := zICl_ok _ (zfind_mem h)
  obtain ⟨e1, e2⟩ := zkey_d o k hk
  unfold zICok at h1
  dsimp only at h1
  rw [e1, e2] at h1
  exact h1
theorem zLC_at {o k : Nat} {v : Int64} (h : zfind zLCl (zkey o k) = some v) (hk : k < 65536) : Cond.constantLong (zcn o) k v ∈ zTs := by
  have h1 := zLCl_ok _ (zfind_mem h)
  obtain ⟨e1, e2⟩ := zkey_d o k hk
  unfold zLCok at h1
  dsimp only at h1
  rw [e1, e2] at h1
  exact h1
theorem zOI_at {o k : Nat} {v : Nat} (h : zfind zOIl (zkey o k) = some v) (hk : k < 65536) : Cond.methodLink (zcn o) k Lib.objectInit ∈ zTs := by
  have h1 := zOIl_ok _ (zfind_mem h)
  obtain ⟨e1, e2⟩ := zkey_d o k hk
  unfold zOIok at h1
  dsimp only at h1
  rw [e1, e2] at h1
  exact h1
theorem zAC_at {o k : Nat} {v : Nat} (h : zfind zACl (zkey o k) = some v) (hk : k < 65536) : Cond.methodLink (zcn o) k arraycopyName ∈ zTs := by
  have h1 := zACl_ok _ (zfind_mem h)
  obtain ⟨e1, e2⟩ := zkey_d o k hk
  unfold zACok at h1
  dsimp only at h1
  rw [e1, e2] at h1
  exact h1
/-- every field of a class is declared by it -/
theorem zdecl : ∀ (ci : Nat) (C : String) (T : u_T) (N : Nat), zcl[ci]? = some (C, T, N) → ∀ j, j < N → (T j).1 = C ∧ C = zcn ci
  | 0, C, T, N, h => by cases h; decide +kernel
  | 1, C, T, N, h => by cases h; decide +kernel
  | 2, C, T, N, h => by cases h; decide +kernel
  | 3, C, T, N, h => by cases h; decide +kernel
  | 4, C, T, N, h => by cases h; decide +kernel
  | 5, C, T, N, h => by cases h; decide +kernel
  | 6, C, T, N, h => by cases h; decide +kernel
  | 7, C, T, N, h => by cases h; decide +kernel
  | 8, C, T, N, h => by cases h; decide +kernel
  | 9, C, T, N, h => by cases h; decide +kernel
  | 10, C, T, N, h => by cases h; decide +kernel
  | 11, C, T, N, h => by cases h; intro j hj; omega
  | 12, C, T, N, h => by cases h; intro j hj; omega
  | n + 13, C, T, N, h => by cases h
theorem zMx_ok {y : Nat} (h : zMk y ≠ 99) : zMok (zMx y) := by
  unfold zMk zMx at h
  unfold zMx
  rw [List.getD_eq_getElem?_getD] at h ⊢
  cases hq : zMl[y]? with
  | none => rw [hq] at h; exact absurd rfl h
  | some q => exact zMl_ok q (List.mem_of_getElem? hq)
theorem zroom_ok {K : zK} {fr lo n : Nat} (hr : zroom K fr lo = true) (hk : zMk K.1 ≠ 99) (hk9 : zMk K.1 ≠ 9) (hn : (zMx K.1).2.2.2 = n) : zcm zTs (zM K.1) K.2.1 fr lo n := by
  unfold zroom at hr
  simp only [Bool.and_eq_true, beq_iff_eq] at hr
  obtain ⟨h1, h2, h3⟩ := hr
  obtain ⟨k0, kk⟩ := zMx_ok hk
  obtain ⟨k1, k2, k3, k4, k5⟩ := kk hk9
  rw [hn] at k3
  exact ⟨k1, k2, k3, h1, ⟨Nat.le_of_ble_eq_true h2, Nat.le_of_ble_eq_true h3⟩, k4⟩
set_option maxHeartbeats 8000000 in
theorem zchI_ok {o nL : Nat} {own yn : String} {ret : Option FieldType} {fr lo pc : Nat} {i : Instr} {len : Nat} {K : zK} {tg : List Nat} (ho : own = zcn o) {ini : Bool} (hi : ini = true → yn = "<init>") (h : zchI o nL ini ret fr lo pc i len K tg = true) :
    (zbig i = false → zfact zcl zTs lw_tbl zZs0 zty own yn nL i K tg len pc) ∧ zcf zcl zTs lw_tbl zM own ret fr lo i K len := by
  subst ho
  cases i
  case iconst n => simp only [zchI, Bool.and_eq_true, decide_eq_true_eq, beq_iff_eq] at h; exact ⟨fun _ => h, trivial⟩
  case bipush n => simp only [zchI, Bool.and_eq_true, decide_eq_true_eq, beq_iff_eq] at h; exact ⟨fun _ => h, trivial⟩
  case sipush n => simp only [zchI, Bool.and_eq_true, decide_eq_true_eq, beq_iff_eq] at h; exact ⟨fun _ => h, trivial⟩
  case lconst n => simp only [zchI, Bool.and_eq_true, decide_eq_true_eq, beq_iff_eq] at h; exact ⟨fun _ => h, trivial⟩
  case ldc k =>
    simp only [zchI, Bool.and_eq_true, beq_iff_eq] at h
    obtain ⟨⟨h1, h2⟩, h3⟩ := h
    split at h1
    · next v hv => exact ⟨fun _ => ⟨⟨v, of_decide_eq_true h1, zIC_at hv (Nat.le_of_ble_eq_true h3)⟩, h2⟩, trivial⟩
    · cases h1
  case ldc_w k =>
    simp only [zchI, Bool.and_eq_true, beq_iff_eq] at h
    obtain ⟨⟨h1, h2⟩, h3⟩ := h
    split at h1
    · next v hv => exact ⟨fun _ => ⟨⟨v, of_decide_eq_true h1, zIC_at hv (Nat.le_of_ble_eq_true h3)⟩, h2⟩, trivial⟩
    · cases h1
  case ldc2_w k =>
    simp only [zchI, Bool.and_eq_true, beq_iff_eq] at h
    obtain ⟨⟨h1, h2⟩, h3⟩ := h
    split at h1
    · next v hv => exact ⟨fun _ => ⟨⟨v, of_decide_eq_true h1, zLC_at hv (Nat.le_of_ble_eq_true h3)⟩, h2⟩, trivial⟩
    · cases h1
  case getstatic k =>
    simp only [zchI, Bool.and_eq_true, beq_iff_eq] at h
    obtain ⟨⟨h1, h2⟩, h3⟩ := h
    split at h1
    · next j hj =>
      obtain ⟨C, n, d, q1, q2⟩ := zSL_at hj (Nat.le_of_ble_eq_true h3)
      exact ⟨fun _ => ⟨⟨C, n, d, j, of_decide_eq_true h1, q1, q2⟩, h2⟩, trivial⟩
    · cases h1
  case iload k => exact ⟨(fun _ => show len = 2 from by simpa [zchI] using h), trivial⟩
  case lload k => exact ⟨(fun _ => show len = 2 from by simpa [zchI] using h), trivial⟩
  case aload k => exact ⟨(fun _ => show len = 2 from by simpa [zchI] using h), trivial⟩
  case istore k => simp only [zchI, Bool.and_eq_true, beq_iff_eq] at h; exact ⟨fun _ => ⟨Nat.le_of_ble_eq_true h.1, h.2⟩, trivial⟩
  case istore_n k => simp only [zchI, Bool.and_eq_true, beq_iff_eq] at h; exact ⟨fun _ => ⟨Nat.le_of_ble_eq_true h.1, h.2⟩, trivial⟩
  case lstore k => simp only [zchI, Bool.and_eq_true, beq_iff_eq] at h; exact ⟨fun _ => ⟨Nat.le_of_ble_eq_true h.1, h.2⟩, trivial⟩
  case lstore_n k => simp only [zchI, Bool.and_eq_true, beq_iff_eq] at h; exact ⟨fun _ => ⟨Nat.le_of_ble_eq_true h.1, h.2⟩, trivial⟩
  case astore k => simp only [zchI, Bool.and_eq_true, beq_iff_eq] at h; exact ⟨fun _ => ⟨Nat.le_of_ble_eq_true h.1, h.2⟩, trivial⟩
  case astore_n k => simp only [zchI, Bool.and_eq_true, beq_iff_eq] at h; exact ⟨fun _ => ⟨Nat.le_of_ble_eq_true h.1, h.2⟩, trivial⟩
  case iinc k n => simp only [zchI, Bool.and_eq_true, decide_eq_true_eq, beq_iff_eq] at h; exact ⟨fun _ => ⟨h.1.1, Nat.le_of_ble_eq_true h.1.2, h.2⟩, trivial⟩
  case ifCond c off => simp only [zchI, Bool.and_eq_true, decide_eq_true_eq, beq_iff_eq] at h; exact ⟨fun _ => h, trivial⟩
  case if_icmp c off => simp only [zchI, Bool.and_eq_true, decide_eq_true_eq, beq_iff_eq] at h; exact ⟨fun _ => h, trivial⟩
  case goto off => simp only [zchI, Bool.and_eq_true, decide_eq_true_eq, beq_iff_eq] at h; exact ⟨fun _ => h, trivial⟩
  case tableswitch d lo hi offs =>
    simp only [zchI, Bool.and_eq_true, decide_eq_true_eq, List.all_eq_true, List.mem_range] at h
    obtain ⟨h1, h2⟩ := h
    refine ⟨fun _ => ⟨h1, fun j t ht => ?_⟩, trivial⟩
    have h3 := h2 j (List.getElem?_eq_some_iff.mp ht).1
    rw [ht] at h3
    split at h3
    · next t2 x e1 e2 =>
      cases e1
      exact ⟨x, e2, of_decide_eq_true h3⟩
    · cases h3
  case getfield k =>
    simp only [zchI, Bool.and_eq_true, decide_eq_true_eq, beq_iff_eq] at h
    obtain ⟨⟨h1, h2⟩, h3⟩ := h
    exact ⟨fun _ => ⟨zFL_at h1 (Nat.le_of_ble_eq_true h3), h2⟩, trivial⟩
  case putfield k =>
    simp only [zchI, Bool.and_eq_true, decide_eq_true_eq, beq_iff_eq] at h
    obtain ⟨⟨⟨h1, h2⟩, h3⟩, h4⟩ := h
    split at h4
    · next t ht =>
      obtain ⟨C, T, N, q1, q2, q3⟩ := zFL_at h1 (Nat.le_of_ble_eq_true h3)
      dsimp only at q1 q2 q3
      simp only [Bool.and_eq_true, Bool.or_eq_true, Bool.not_eq_true', beq_iff_eq] at h4
      obtain ⟨h5, h6⟩ := h4
      have hfin : zfin K.1 K.2.1 = (T K.2.1).2.2.2 := by unfold zfin; rw [q1]
      refine ⟨fun _ => ⟨⟨C, T, N, t, q1, q2, q3, ht, zfkb_ok h5, ?_⟩, h2⟩, trivial⟩
      rcases h6 with h6 | ⟨h6, h7⟩
      · exact Or.inl (hfin ▸ h6)
      · cases hT : (T K.2.1).2.2.2 with
        | false => exact Or.inl rfl
        | true =>
          obtain ⟨d1, d2⟩ := zdecl _ _ _ _ q1 _ q2
          exact Or.inr ⟨rfl, hi h6, by rw [d1, d2, h7]⟩
    · cases h4
  case invokevirtual k =>
    simp only [zchI, Bool.and_eq_true, decide_eq_true_eq, beq_iff_eq] at h
    obtain ⟨⟨⟨⟨⟨⟨h1, h2⟩, h3⟩, h4⟩, h5⟩, h6⟩, h7⟩ := h
    refine ⟨(fun q => nomatch (show true = false from q)), ?_⟩
    split at h1
    · next ci hci =>
      have h1 : ci = (zMx K.1).2.2.1 := by simpa using h1
      subst h1
      have hc := zroom_ok h6 (by rw [h5]; decide) (by rw [h5]; decide) rfl
      obtain ⟨-, kk⟩ := zMx_ok (y := K.1) (by rw [h5]; decide)
      obtain ⟨k1, k2, k3, k4, k5, -⟩ := kk (by show zMk K.1 ≠ 9; rw [h5]; decide)
      obtain ⟨k6, k7, k8⟩ := k5 h5
      have hl : Cond.methodLink (zcn o) k (zM K.1).1 ∈ zTs := by
        have h9 := zMLl_ok _ (zfind_mem h2)
        obtain ⟨e1, e2⟩ := zkey_d o k (Nat.le_of_ble_eq_true h4)
        unfold zMLok at h9
        dsimp only at h9
        rw [e1, e2] at h9
        rcases h9 with h9 | ⟨h9, -⟩
        · exact h9.2
        · exact absurd h9 (by decide)
      exact ⟨_, _, hci, h3, hc, h7, hl, k6, k7, k8⟩
    · cases h1
  case invokestatic k =>
    simp only [zchI, Bool.and_eq_true, decide_eq_true_eq, beq_iff_eq] at h
    obtain ⟨⟨h1, h2⟩, h3⟩ := h
    refine ⟨(fun q => nomatch (show true = false from q)), h1, ?_⟩
    split at h3
    · next q hq =>
      simp only [Bool.and_eq_true, decide_eq_true_eq] at h3
      exact Or.inl ⟨q, hq, zAC_at h3.1.1 (Nat.le_of_ble_eq_true h2), zw_ac1, zw_ac2, zw_ac3, Nat.le_of_ble_eq_true h3.1.2, Nat.le_of_ble_eq_true h3.2⟩
    · next q hq =>
      simp only [Bool.and_eq_true, beq_iff_eq] at h3
      obtain ⟨⟨⟨h3, h4⟩, h5⟩, h6⟩ := h3
      split at h3
      · next y fl hy =>
        have h3 : y = K.1 := by simpa using h3
        subst h3
        have hc := zroom_ok h5 (by rw [h4]; decide) (by rw [h4]; decide) rfl
        obtain ⟨-, kk⟩ := zMx_ok (y := K.1) (by rw [h4]; decide)
        obtain ⟨k1, k2, k3, k4, -, k5, -⟩ := kk (by show zMk K.1 ≠ 9; rw [h4]; decide)
        exact Or.inr ⟨q, _, hq, hc, h6, (zML_at hy (Nat.le_of_ble_eq_true h2)).imp (fun z => z.2) (fun z => z.2), k5 h4⟩
      · cases h3
    · cases h3
  case invokespecial k =>
    simp only [zchI, Bool.and_eq_true, decide_eq_true_eq, beq_iff_eq] at h
    obtain ⟨⟨h1, h2⟩, h3⟩ := h
    refine ⟨(fun q => nomatch (show true = false from q)), h1, ?_⟩
    split at h3
    · next hq =>
      simp only [Bool.and_eq_true, decide_eq_true_eq] at h3
      exact Or.inl ⟨hq, zOI_at h3.1.1 (Nat.le_of_ble_eq_true h2), zw_oi1, zw_oi2, Nat.le_of_ble_eq_true h3.1.2, Nat.le_of_ble_eq_true h3.2⟩
    · next q hq =>
      simp only [Bool.and_eq_true, beq_iff_eq] at h3
      obtain ⟨⟨⟨h3, h4⟩, h5⟩, h6⟩ := h3
      split at h3
      · next y fl hy =>
        have h3 : y = K.1 := by simpa using h3
        subst h3
        have hc := zroom_ok h5 (by rw [h4]; decide) (by rw [h4]; decide) rfl
        obtain ⟨-, kk⟩ := zMx_ok (y := K.1) (by rw [h4]; decide)
        obtain ⟨k1, k2, k3, k4, -, -, k5⟩ := kk (by show zMk K.1 ≠ 9; rw [h4]; decide)
        obtain ⟨k6, k7, k8⟩ := k5 h4
        exact Or.inr ⟨q, _, hq, hc, h6, (zML_at hy (Nat.le_of_ble_eq_true h2)).imp (fun z => z.2) (fun z => z.2), k6, k7, k8⟩
      · cases h3
    · cases h3
  case new k =>
    simp only [zchI, Bool.and_eq_true, decide_eq_true_eq, beq_iff_eq] at h
    exact ⟨(fun q => nomatch (show true = false from q)), zCL_at h.1.1 (Nat.le_of_ble_eq_true h.2), h.1.2⟩
  case newarray a =>
    simp only [zchI, Bool.and_eq_true, beq_iff_eq] at h
    obtain ⟨h1, h2⟩ := h
    refine ⟨(fun q => nomatch (show true = false from q)), ?_, h1⟩
    cases a
    case int => exact ⟨Or.inl ⟨rfl, by simpa using h2⟩, zw_ar_int⟩
    case byte => exact ⟨Or.inr (Or.inl ⟨rfl, by simpa using h2⟩), zw_ar_byte⟩
    case boolean => exact ⟨Or.inr (Or.inr (Or.inl ⟨rfl, by simpa using h2⟩)), zw_ar_boolean⟩
    case long => exact ⟨Or.inr (Or.inr (Or.inr ⟨rfl, by simpa using h2⟩)), zw_ar_long⟩
    all_goals cases h2
  case anewarray k =>
    simp only [zchI, Bool.and_eq_true, decide_eq_true_eq, beq_iff_eq] at h
    obtain ⟨C, T, N, q1, q2⟩ := zCL_at h.1.1 (Nat.le_of_ble_eq_true h.2)
    cases q1
    exact ⟨(fun q => nomatch (show true = false from q)), q2.1, h.1.2⟩
  case ireturn =>
    simp only [zchI, Bool.and_eq_true, Bool.or_eq_true, decide_eq_true_eq, beq_iff_eq] at h
    exact ⟨(fun q => nomatch (show true = false from q)), h.2, h.1⟩
  case lreturn =>
    simp only [zchI, Bool.and_eq_true, decide_eq_true_eq, beq_iff_eq] at h
    exact ⟨(fun q => nomatch (show true = false from q)), h.2, h.1⟩
  case areturn =>
    simp only [zchI, Bool.and_eq_true, beq_iff_eq] at h
    obtain ⟨h1, h2⟩ := h
    refine ⟨(fun q => nomatch (show true = false from q)), ?_, h1⟩
    split at h2
    · exact ⟨_, rfl, Or.inl ⟨_, rfl⟩⟩
    · exact ⟨_, rfl, Or.inr ⟨_, rfl⟩⟩
    · cases h2
  case return_ =>
    simp only [zchI, Bool.and_eq_true, decide_eq_true_eq, beq_iff_eq] at h
    exact ⟨(fun q => nomatch (show true = false from q)), h.2, h.1⟩
  all_goals exact ⟨(fun _ => show len = 1 from by simpa [zchI] using h), trivial⟩
