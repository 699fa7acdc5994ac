/-! One step of the interpreter is one step of the machine. -/
noncomputable abbrev zTy (cy : Nat → ClassId) : List (ClassId × FieldType) := [(cy 0, .int), (cy 1, .byte), (cy 2, .boolean), (cy 3, .long), (cy 4, .object "SixJoints$Held")]
noncomputable abbrev zZs : Type := List (String × String × String × Nat)
/-- what holds of the tables and of the constants at a state -/
noncomputable def zEnv (cl : List vw_C) (Ns : List Cond) (Zs : zZs) (D : va_G) (cy : Nat → ClassId) (sz : Nat) (ka : Nat → Nat) (g : zCt) (U : State) : Prop :=
  va_K D cl (zTy cy) U ∧
  (∀ (j n : Nat) (f : Nat → Int32), g j = some (0, n, f) → va_T .int (ka j) n (fun i => .int (f i)) (fun q => sz ≤ q) U U.heap) ∧
  (∀ q ∈ Zs, va_Z q.1 q.2.1 q.2.2.1 (.ref (ka q.2.2.2)) (fun q => sz ≤ q) U U.heap) ∧
  (∀ (a : String) (i : Nat) (b n d h : String), Cond.fieldLinkNest a i b n d h ∈ Ns → va_Nw (.fieldLinkNest a i b n d h) U) ∧
  (∀ (a : String) (i : Nat) (x : MethodName) (h : String), Cond.methodLinkNest a i x h ∈ Ns → va_Nw (.methodLinkNest a i x h) U) ∧ va_AO "SixJoints$Held" U ∧ zXe sz ka U ∧ sz ≤ U.heap.size
noncomputable def zCx (cl : List vw_C) (Ts Ns : List Cond) (Zs : zZs) (D : va_G) (cy : Nat → ClassId) (sz : Nat) (ka : Nat → Nat) (g : zCt) (own yn : String) (cc : ByteArray) (nL : Nat) (p : Program) (s : State) (m : MethodId) (args : Array Value) (meth : Method) (c : Code) : Prop :=
  p.tables.exec = Jvm.exec ∧ c.code = cc ∧ c.maxLocals = nL ∧ s.vm.findClass own = some m.cls ∧ (∀ w ∈ Ts, w.before args s = true) ∧ zEnv cl Ns Zs D cy sz ka g s ∧ meth.name = yn
/-- what a field's type is by its kind -/
noncomputable def zfk (t : Nat) (ty : FieldType) : Prop := (t = 0 ∧ ty = .int) ∨ (t = 1 ∧ ty = .long) ∨ (t = 2 ∧ ty = .boolean) ∨ (t = 3 ∧ ((∃ n, ty = .object n) ∨ ∃ x, ty = .array x))
/-- the words that a class stands on -/
noncomputable def zClok (Ts : List Cond) (F : zFs) (zty : Nat → Nat → FieldType) (ci : Nat) (q : vw_C) : Prop :=
  (∀ w ∈ u_ws q.1 q.2.1 q.2.2, w ∈ Ts) ∧ (∀ k, k < q.2.2 → parseFieldDescriptor (q.2.1 k).2.2.1 = some (zty ci k)) ∧ (∀ a, a < q.2.2 → ∀ b, b < q.2.2 → a ≠ b → (q.2.1 a).2.1 ≠ (q.2.1 b).2.1) ∧
  Cond.instantiable q.1 q.2.2 ∈ Ts ∧ Cond.initialized q.1 ∈ Ts ∧ (∀ j, j < q.2.2 → defaultValue (zty ci j) = vp_V (F ci) j) ∧ (F ci).length = q.2.2 ∧ ∀ v ∈ F ci, ∀ ro : Nat → Nat, zv ro v = v
/-- what was looked up ahead of an instruction that only steps -/
noncomputable def zfact (cl : List vw_C) (Ts Ns : List Cond) (Zs : zZs) (zty : Nat → Nat → FieldType) (own yn : String) (nL : Nat) (i : Instr) (K : zK) (tg : List Nat) (len pc : Nat) : Prop := match i with
  | .iconst n => Value.int (Int32.ofInt n) = K.2.2 ∧ len = 1
  | .bipush n => Value.int (Int8.ofInt n).toInt32 = K.2.2 ∧ len = 2
  | .sipush n => Value.int (Int16.ofInt n).toInt32 = K.2.2 ∧ len = 3
  | .lconst n => Value.long (Int64.ofNat n) = K.2.2 ∧ len = 1
  | .ldc k => (∃ v, K.2.2 = .int v ∧ Cond.constant own k v ∈ Ts) ∧ len = 2
  | .ldc_w k => (∃ v, K.2.2 = .int v ∧ Cond.constant own k v ∈ Ts) ∧ len = 3
  | .ldc2_w k => (∃ v, K.2.2 = .long v ∧ Cond.constantLong own k v ∈ Ts) ∧ len = 3
  | .getstatic k => (∃ (C n d : String) (j : Nat), K.2.2 = .ref (2 * j + 1) ∧ (C, n, d, j) ∈ Zs ∧ (Cond.fieldLink own k C n d ∈ Ts ∨ ∃ host, Cond.fieldLinkNest own k C n d host ∈ Ns)) ∧ len = 3
  | .iload _ => len = 2
  | .iload_n _ => len = 1
  | .lload _ => len = 2
  | .lload_n _ => len = 1
  | .aload _ => len = 2
  | .aload_n _ => len = 1
  | .istore k => k < nL ∧ len = 2
  | .istore_n k => (k : Nat) < nL ∧ len = 1
  | .lstore k => k + 1 < nL ∧ len = 2
  | .lstore_n k => (k : Nat) + 1 < nL ∧ len = 1
  | .astore k => k < nL ∧ len = 2
  | .astore_n k => (k : Nat) < nL ∧ len = 1
  | .iinc k n => Value.int (Int32.ofInt n) = K.2.2 ∧ k < nL ∧ len = 3
  | .ifCond _ off => (pc : Int) + off = (K.1 : Int) ∧ len = 3
  | .if_icmp _ off => (pc : Int) + off = (K.1 : Int) ∧ len = 3
  | .goto off => (pc : Int) + off = (K.1 : Int) ∧ len = 3
  | .tableswitch d _ _ offs => (pc : Int) + d = (K.1 : Int) ∧ ∀ (j t : Nat), tg[j]? = some t → ∃ o, offs[j]? = some o ∧ (pc : Int) + o = (t : Int)
  | .getfield k => (∃ (C : String) (T : u_T) (N : Nat), cl[K.1]? = some (C, T, N) ∧ K.2.1 < N ∧ Cond.fieldLink own k (T K.2.1).1 (T K.2.1).2.1 (T K.2.1).2.2.1 ∈ Ts) ∧ len = 3
  | .putfield k => (∃ (C : String) (T : u_T) (N t : Nat), cl[K.1]? = some (C, T, N) ∧ K.2.1 < N ∧ Cond.fieldLink own k (T K.2.1).1 (T K.2.1).2.1 (T K.2.1).2.2.1 ∈ Ts ∧ K.2.2 = .retAddr t ∧ zfk t (zty K.1 K.2.1) ∧ ((T K.2.1).2.2.2 = false ∨ ((T K.2.1).2.2.2 = true ∧ yn = "<init>" ∧ (T K.2.1).1 = own))) ∧ len = 3
  | _ => len = 1
theorem zkind_ok {v : Value} {t : Nat} {ty : FieldType} (h : zkind v t = true) (hk : zfk t ty) (ro : Nat → Nat) : narrow ty (zv ro v) = zv ro v ∧ fits ty (zv ro v) = true := by
  rcases hk with ⟨rfl, rfl⟩ | ⟨rfl, rfl⟩ | ⟨rfl, rfl⟩ | ⟨rfl, ⟨n, rfl⟩ | ⟨x, rfl⟩⟩
  · cases v <;> first | (cases h; done) | exact ⟨rfl, rfl⟩
  · cases v <;> first | (cases h; done) | exact ⟨rfl, rfl⟩
  · cases v with
    | int x =>
      have h : (decide (x = 0) || decide (x = 1)) = true := h
      simp only [Bool.or_eq_true, decide_eq_true_eq] at h
      rcases h with rfl | rfl
      · exact ⟨show narrow .boolean (.int 0) = .int 0 by decide +kernel, show fits .boolean (.int 0) = true by decide +kernel⟩
      · exact ⟨show narrow .boolean (.int 1) = .int 1 by decide +kernel, show fits .boolean (.int 1) = true by decide +kernel⟩
    | _ => cases h
  · cases v <;> first | (cases h; done) | exact ⟨rfl, rfl⟩
  · cases v <;> first | (cases h; done) | exact ⟨rfl, rfl⟩
theorem zmap_set (ro : Nat → Nat) (fs : List Value) (k : Nat) (v : Value) : (fs.set k v).map (zv ro) = (fs.map (zv ro)).set k (zv ro v) := by rw [List.map_set]
theorem ztab_inv {K : zK} {lo hi : Int} {tg : List Nat} {ls ls2 : zL} {st st2 : List Value} {h h2 : zH} {pc2 : Nat} (hz : ztab K lo hi tg ls st h = some (.inl (pc2, ls2, st2, h2))) : ∃ x r, st = .int x :: r ∧ ls2 = ls ∧ st2 = r ∧ h2 = h ∧ (((x.toInt < lo ∨ hi < x.toInt) ∧ pc2 = K.1) ∨ (¬ (x.toInt < lo ∨ hi < x.toInt) ∧ tg[(x.toInt - lo).toNat]? = some pc2)) := by
  unfold ztab at hz
  split at hz
  · next x r =>
    refine ⟨x, r, rfl, ?_⟩
    by_cases hc : x.toInt < lo ∨ hi < x.toInt
    · rw [show (decide (x.toInt < lo) || decide (hi < x.toInt)) = true by simpa using hc] at hz
      obtain ⟨q1, q2, q3, q4⟩ := zs_inv hz
      exact ⟨q2, q3, q4, Or.inl ⟨hc, q1⟩⟩
    · rw [show (decide (x.toInt < lo) || decide (hi < x.toInt)) = false by simpa using hc] at hz
      dsimp only [cond_false] at hz
      split at hz
      · next t htg =>
        obtain ⟨q1, q2, q3, q4⟩ := zs_inv hz
        exact ⟨q2, q3, q4, Or.inr ⟨hc, by rw [q1]; exact htg⟩⟩
      · cases hz
  · cases hz
section ZSTEP
variable {cl : List vw_C} {Ts Ns : List Cond} {Zs : zZs} {D : va_G} {cy : Nat → ClassId} {sz : Nat} {ka : Nat → Nat} {g : zCt} {own yn : String} {cc : ByteArray} {nL : Nat} {F : zFs} {zty : Nat → Nat → FieldType}
variable {p : Program} {l : Launch} {e : Env} {R : Room} {s : State} {m : MethodId} {args : Array Value} {below : List Frame} {meth : Method} {c : Code} {H : Heap} {locs : List Loc} {cells slots : Nat} {Q : State → Prop}
variable {i : Instr} {K : zK} {tg : List Nat} {len pc pc2 : Nat} {ls ls2 : zL} {st st2 : List Value} {h h2 : zH} {A : Array Slot}
set_option maxHeartbeats 8000000 in
theorem zstep_ok (X : zCx cl Ts Ns Zs D cy sz ka g own yn cc nL p s m args meth c) (hcl0 : ∀ (ci : Nat) (q : vw_C), cl[ci]? = some q → zClok Ts F zty ci q ∨ q.2.2 = 0) (hheld : ∃ q, cl[1]? = some q ∧ q.1 = "SixJoints$Held") (hd : decode cc pc = .ok (i, len)) (hf : zfact cl Ts Ns Zs zty own yn nL i K tg len pc) (hz : zins g F tg i K len pc ls st h = some (.inl (pc2, ls2, st2, h2))) (hni : ∀ k, i ≠ .invokestatic k ∧ i ≠ .invokespecial k ∧ i ≠ .invokevirtual k)
    (hP : va_P D cl (zW cy (zr sz ka) sz h) H) (hS : va_S (fun q => sz ≤ q) s.heap H locs) (hl : lv_has A nL (zl (zr sz ka) ls))
    (kk : ∀ (H2 : Heap) (locs2 : List Loc) (A2 : Array Slot), h2.length = h.length → va_P D cl (zW cy (zr sz ka) sz h2) H2 → va_S (fun q => sz ≤ q) s.heap H2 locs2 → lv_has A2 nL (zl (zr sz ka) ls2) → W p l e R s m args below meth c H2 locs2 cells slots Q (F0 m pc2 A2 (st2.map (zv (zr sz ka))))) :
    W p l e R s m args below meth c H locs cells slots Q (F0 m pc A (st.map (zv (zr sz ka)))) := by
  obtain ⟨hx, hb, hml, hown, hts, ⟨hK, hT, hZ, hNf, hNm, hAO, hXe, hsz⟩, hyn⟩ := X
  have hD : va_D (fun q => sz ≤ q) (zW cy (zr sz ka) sz h) := zW_D cy (zr sz ka) h sz
  cases i
  case iconst n => obtain ⟨q1, q2, q3, q4⟩ := zs_inv hz; subst q1 q2 q3 q4; obtain ⟨hk, hlen⟩ := hf; subst hlen; rw [← hk] at kk; exact lv_iconst hx hb hd rfl (kk H locs A rfl hP hS hl)
  case bipush n => obtain ⟨q1, q2, q3, q4⟩ := zs_inv hz; subst q1 q2 q3 q4; obtain ⟨hk, hlen⟩ := hf; subst hlen; rw [← hk] at kk; exact lv_bipush hx hb hd rfl (kk H locs A rfl hP hS hl)
  case sipush n => obtain ⟨q1, q2, q3, q4⟩ := zs_inv hz; subst q1 q2 q3 q4; obtain ⟨hk, hlen⟩ := hf; subst hlen; rw [← hk] at kk; exact lv_sipush hx hb hd rfl (kk H locs A rfl hP hS hl)
  case lconst n => obtain ⟨q1, q2, q3, q4⟩ := zs_inv hz; subst q1 q2 q3 q4; obtain ⟨hk, hlen⟩ := hf; subst hlen; rw [← hk] at kk; exact lv_lconst hx hb hd rfl (kk H locs A rfl hP hS hl)
  case ldc n => obtain ⟨q1, q2, q3, q4⟩ := zs_inv hz; subst q1 q2 q3 q4; obtain ⟨⟨v, hk, hw⟩, hlen⟩ := hf; subst hlen; rw [hk] at kk; exact lv_ldc hx hb hown (hts _ hw) hd (kk H locs A rfl hP hS hl)
  case ldc_w n => obtain ⟨q1, q2, q3, q4⟩ := zs_inv hz; subst q1 q2 q3 q4; obtain ⟨⟨v, hk, hw⟩, hlen⟩ := hf; subst hlen; rw [hk] at kk; exact lv_ldcw hx hb hown (hts _ hw) hd (kk H locs A rfl hP hS hl)
  case ldc2_w n => obtain ⟨q1, q2, q3, q4⟩ := zs_inv hz; subst q1 q2 q3 q4; obtain ⟨⟨v, hk, hw⟩, hlen⟩ := hf; subst hlen; rw [hk] at kk; exact lv_ldc2 hx hb hown (hts _ hw) hd (kk H locs A rfl hP hS hl)
  case getstatic n =>
    obtain ⟨q1, q2, q3, q4⟩ := zs_inv hz; subst q1 q2 q3 q4; obtain ⟨⟨C, n9, d9, j, hk, hm, hw⟩, hlen⟩ := hf; subst hlen; rw [hk] at kk
    have e1 : zr sz ka (2 * j + 1) = ka j := by rw [zr_odd (by omega)]; congr 1; omega
    have kk := kk H locs A rfl hP hS hl
    rw [List.map_cons, show zv (zr sz ka) (.ref (2 * j + 1)) = .ref (ka j) by rw [← e1]; rfl] at kk
    rcases hw with hw | ⟨host, hw⟩
    · exact va_gets hx hb (hZ _ hm) hS hown (hts _ hw) (fun _ h9 => h9) hd kk
    · exact va_getsN hx hb (hZ _ hm) hS hown (va_Nw.use rfl (hNf _ _ _ _ _ _ hw)) (fun _ h9 => h9) hd kk
  case iload k => obtain ⟨x, hv, q1, q2, q3, q4⟩ := zldi_inv hz; subst q1 q2 q3 q4; subst hf; exact lv_iload hx hb hd (zl_at hl hv) (kk H locs A rfl hP hS hl)
  case iload_n k => obtain ⟨x, hv, q1, q2, q3, q4⟩ := zldi_inv hz; subst q1 q2 q3 q4; subst hf; exact lv_iload_n hx hb hd rfl (zl_at hl hv) (kk H locs A rfl hP hS hl)
  case lload k => obtain ⟨x, hv, q1, q2, q3, q4⟩ := zldl_inv hz; subst q1 q2 q3 q4; subst hf; exact lv_lload hx hb hd (zl_at hl hv) (kk H locs A rfl hP hS hl)
  case lload_n k => obtain ⟨x, hv, q1, q2, q3, q4⟩ := zldl_inv hz; subst q1 q2 q3 q4; subst hf; exact lv_lload_n hx hb hd rfl (zl_at hl hv) (kk H locs A rfl hP hS hl)
  case aload k =>
    subst hf
    rcases zlda_inv hz with ⟨x, hv, q1, q2, q3, q4⟩ | ⟨hv, q1, q2, q3, q4⟩
    · subst q1 q2 q3 q4; exact lv_aload hx hb hd (zl_at hl hv) (kk H locs A rfl hP hS hl)
    · subst q1 q2 q3 q4; exact lv_aloadN hx hb hd (zl_at hl hv) (kk H locs A rfl hP hS hl)
  case aload_n k =>
    subst hf
    rcases zlda_inv hz with ⟨x, hv, q1, q2, q3, q4⟩ | ⟨hv, q1, q2, q3, q4⟩
    · subst q1 q2 q3 q4; exact lv_aload_n hx hb hd rfl (zl_at hl hv) (kk H locs A rfl hP hS hl)
    · subst q1 q2 q3 q4; exact lv_aload_nN hx hb hd rfl (zl_at hl hv) (kk H locs A rfl hP hS hl)
  case istore k => obtain ⟨x, r, q0, q1, q2, q3, q4⟩ := zsti_inv hz; subst q0 q1 q2 q3 q4; obtain ⟨hn, hlen⟩ := hf; subst hlen; exact lv_istore hx hb hd hl hn (zl_st1 _ _ _ (.int x)) (fun A2 hl2 => kk H locs A2 rfl hP hS hl2)
  case istore_n k => obtain ⟨x, r, q0, q1, q2, q3, q4⟩ := zsti_inv hz; subst q0 q1 q2 q3 q4; obtain ⟨hn, hlen⟩ := hf; subst hlen; exact lv_istore_n hx hb hd rfl hl hn (zl_st1 _ _ _ (.int x)) (fun A2 hl2 => kk H locs A2 rfl hP hS hl2)
  case lstore k => obtain ⟨x, r, q0, q1, q2, q3, q4⟩ := zstl_inv hz; subst q0 q1 q2 q3 q4; obtain ⟨hn, hlen⟩ := hf; subst hlen; exact lv_lstore hx hb hd hl hn (zl_st2 _ _ _ (.long x)) (fun A2 hl2 => kk H locs A2 rfl hP hS hl2)
  case lstore_n k => obtain ⟨x, r, q0, q1, q2, q3, q4⟩ := zstl_inv hz; subst q0 q1 q2 q3 q4; obtain ⟨hn, hlen⟩ := hf; subst hlen; exact lv_lstore_n hx hb hd rfl hl hn (zl_st2 _ _ _ (.long x)) (fun A2 hl2 => kk H locs A2 rfl hP hS hl2)
  case astore k =>
    obtain ⟨hn, hlen⟩ := hf; subst hlen
    rcases zsta_inv hz with ⟨x, r, q0, q1, q2, q3, q4⟩ | ⟨r, q0, q1, q2, q3, q4⟩
    · subst q0 q1 q2 q3 q4; exact lv_astore hx hb hd hl hn (zl_st1 _ _ _ (.ref x)) (fun A2 hl2 => kk H locs A2 rfl hP hS hl2)
    · subst q0 q1 q2 q3 q4; exact lv_astoreN hx hb hd hl hn (zl_st1 _ _ _ .null) (fun A2 hl2 => kk H locs A2 rfl hP hS hl2)
  case astore_n k =>
    obtain ⟨hn, hlen⟩ := hf; subst hlen
    rcases zsta_inv hz with ⟨x, r, q0, q1, q2, q3, q4⟩ | ⟨r, q0, q1, q2, q3, q4⟩
    · subst q0 q1 q2 q3 q4; exact lv_astore_n hx hb hd rfl hl hn (zl_st1 _ _ _ (.ref x)) (fun A2 hl2 => kk H locs A2 rfl hP hS hl2)
    · subst q0 q1 q2 q3 q4; exact lv_astore_nN hx hb hd rfl hl hn (zl_st1 _ _ _ .null) (fun A2 hl2 => kk H locs A2 rfl hP hS hl2)
  case iinc k n =>
    obtain ⟨hk, hn, hlen⟩ := hf; subst hlen
    have hz : (match zlv ls k, K.2.2 with
      | some (.int x), .int d => zs (pc + 3) (zst1 ls k (.int (x + d))) st h
      | _, _ => none) = some (.inl (pc2, ls2, st2, h2)) := hz
    split at hz
    · next x d hv hd9 =>
      obtain ⟨q1, q2, q3, q4⟩ := zs_inv hz; subst q1 q2 q3 q4
      rw [← hk] at hd9
      cases hd9
      obtain ⟨k9, hk9⟩ := List.getElem?_of_mem (List.mem_map.mpr ⟨(k, .int x), zlv_mem hv, rfl⟩ : (k, zv (zr sz ka) (.int x)) ∈ zl (zr sz ka) ls)
      exact lv_iinc hx hb hd hl hk9 rfl hn (zl_st1 _ _ _ (.int (x + _))) (fun A2 hl2 => kk H locs A2 rfl hP hS hl2)
    · cases hz
  case iadd => obtain ⟨x, y, r, q0, q1, q2, q3, q4⟩ := zii_inv hz; subst q0 q1 q2 q3 q4; subst hf; exact lv_iadd hx hb hd (kk H locs A rfl hP hS hl)
  case isub => obtain ⟨x, y, r, q0, q1, q2, q3, q4⟩ := zii_inv hz; subst q0 q1 q2 q3 q4; subst hf; exact lv_isub hx hb hd (kk H locs A rfl hP hS hl)
  case imul => obtain ⟨x, y, r, q0, q1, q2, q3, q4⟩ := zii_inv hz; subst q0 q1 q2 q3 q4; subst hf; exact lv_imul hx hb hd (kk H locs A rfl hP hS hl)
  case iand => obtain ⟨x, y, r, q0, q1, q2, q3, q4⟩ := zii_inv hz; subst q0 q1 q2 q3 q4; subst hf; exact lv_iand hx hb hd (kk H locs A rfl hP hS hl)
  case ior => obtain ⟨x, y, r, q0, q1, q2, q3, q4⟩ := zii_inv hz; subst q0 q1 q2 q3 q4; subst hf; exact lv_ior hx hb hd (kk H locs A rfl hP hS hl)
  case ixor => obtain ⟨x, y, r, q0, q1, q2, q3, q4⟩ := zii_inv hz; subst q0 q1 q2 q3 q4; subst hf; exact lv_ixor hx hb hd (kk H locs A rfl hP hS hl)
  case ishl => obtain ⟨x, y, r, q0, q1, q2, q3, q4⟩ := zii_inv hz; subst q0 q1 q2 q3 q4; subst hf; exact lv_ishl hx hb hd (kk H locs A rfl hP hS hl)
  case ishr => obtain ⟨x, y, r, q0, q1, q2, q3, q4⟩ := zii_inv hz; subst q0 q1 q2 q3 q4; subst hf; exact lv_ishr hx hb hd (kk H locs A rfl hP hS hl)
  case iushr => obtain ⟨x, y, r, q0, q1, q2, q3, q4⟩ := zii_inv hz; subst q0 q1 q2 q3 q4; subst hf; exact lv_iushr hx hb hd rfl (kk H locs A rfl hP hS hl)
  case idiv => obtain ⟨x, y, r, q0, hy, q1, q2, q3, q4⟩ := ziid_inv hz; subst q0 q1 q2 q3 q4; subst hf; exact lv_idiv hx hb hd hy (kk H locs A rfl hP hS hl)
  case irem => obtain ⟨x, y, r, q0, hy, q1, q2, q3, q4⟩ := ziid_inv hz; subst q0 q1 q2 q3 q4; subst hf; exact lv_irem hx hb hd hy (kk H locs A rfl hP hS hl)
  case ladd => obtain ⟨x, y, r, q0, q1, q2, q3, q4⟩ := zll_inv hz; subst q0 q1 q2 q3 q4; subst hf; exact lv_ladd hx hb hd (kk H locs A rfl hP hS hl)
  case lsub => obtain ⟨x, y, r, q0, q1, q2, q3, q4⟩ := zll_inv hz; subst q0 q1 q2 q3 q4; subst hf; exact lv_lsub hx hb hd (kk H locs A rfl hP hS hl)
  case lmul => obtain ⟨x, y, r, q0, q1, q2, q3, q4⟩ := zll_inv hz; subst q0 q1 q2 q3 q4; subst hf; exact lv_lmul hx hb hd (kk H locs A rfl hP hS hl)
  case land => obtain ⟨x, y, r, q0, q1, q2, q3, q4⟩ := zll_inv hz; subst q0 q1 q2 q3 q4; subst hf; exact lv_land hx hb hd (kk H locs A rfl hP hS hl)
  case lor => obtain ⟨x, y, r, q0, q1, q2, q3, q4⟩ := zll_inv hz; subst q0 q1 q2 q3 q4; subst hf; exact lv_lor hx hb hd (kk H locs A rfl hP hS hl)
  case lxor => obtain ⟨x, y, r, q0, q1, q2, q3, q4⟩ := zll_inv hz; subst q0 q1 q2 q3 q4; subst hf; exact lv_lxor hx hb hd (kk H locs A rfl hP hS hl)
  case ldiv => obtain ⟨x, y, r, q0, hy, q1, q2, q3, q4⟩ := zlld_inv hz; subst q0 q1 q2 q3 q4; subst hf; exact lv_ldiv hx hb hd hy (kk H locs A rfl hP hS hl)
  case lrem => obtain ⟨x, y, r, q0, hy, q1, q2, q3, q4⟩ := zlld_inv hz; subst q0 q1 q2 q3 q4; subst hf; exact lv_lrem hx hb hd hy (kk H locs A rfl hP hS hl)
  case lshl => obtain ⟨x, y, r, q0, q1, q2, q3, q4⟩ := zlsh_inv hz; subst q0 q1 q2 q3 q4; subst hf; exact lv_lshl hx hb hd rfl (kk H locs A rfl hP hS hl)
  case lshr => obtain ⟨x, y, r, q0, q1, q2, q3, q4⟩ := zlsh_inv hz; subst q0 q1 q2 q3 q4; subst hf; exact lv_lshr hx hb hd rfl (kk H locs A rfl hP hS hl)
  case lushr => obtain ⟨x, y, r, q0, q1, q2, q3, q4⟩ := zlsh_inv hz; subst q0 q1 q2 q3 q4; subst hf; exact lv_lushr hx hb hd rfl (kk H locs A rfl hP hS hl)
  case ineg => obtain ⟨x, r, q0, q1, q2, q3, q4⟩ := zi1_inv hz; subst q0 q1 q2 q3 q4; subst hf; exact lv_ineg hx hb hd (kk H locs A rfl hP hS hl)
  case i2l => obtain ⟨x, r, q0, q1, q2, q3, q4⟩ := zi1_inv hz; subst q0 q1 q2 q3 q4; subst hf; exact lv_i2l hx hb hd rfl (kk H locs A rfl hP hS hl)
  case i2b => obtain ⟨x, r, q0, q1, q2, q3, q4⟩ := zi1_inv hz; subst q0 q1 q2 q3 q4; subst hf; exact lv_i2b hx hb hd rfl (kk H locs A rfl hP hS hl)
  case i2c => obtain ⟨x, r, q0, q1, q2, q3, q4⟩ := zi1_inv hz; subst q0 q1 q2 q3 q4; subst hf; exact lv_i2c hx hb hd rfl (kk H locs A rfl hP hS hl)
  case l2i => obtain ⟨x, r, q0, q1, q2, q3, q4⟩ := zl1_inv hz; subst q0 q1 q2 q3 q4; subst hf; exact lv_l2i hx hb hd rfl (kk H locs A rfl hP hS hl)
  case lneg => obtain ⟨x, r, q0, q1, q2, q3, q4⟩ := zl1_inv hz; subst q0 q1 q2 q3 q4; subst hf; exact lv_lneg hx hb hd (kk H locs A rfl hP hS hl)
  case lcmp =>
    subst hf
    have hz : (match st with
      | .long y :: .long x :: r => zs (pc + 1) ls (.int (lg_cmp x y) :: r) h
      | _ => none) = some (.inl (pc2, ls2, st2, h2)) := hz
    split at hz
    · obtain ⟨q1, q2, q3, q4⟩ := zs_inv hz; subst q1 q2 q3 q4; exact W.lcmp hx hb hd (kk H locs A rfl hP hS hl)
    · cases hz
  case ifCond cd off =>
    obtain ⟨x, r, q0, q1, q2, q3, q4⟩ := zif0_inv hz; subst q0 q2 q3 q4; obtain ⟨ht, hlen⟩ := hf; subst hlen
    subst q1
    have kk := kk H locs A rfl hP hS hl
    cases cd
    · exact lv_if_eq hx hb hd ht (fun hc => by rw [show zcmp .eq x 0 = true by simp [zcmp, hc]] at kk; exact kk) (fun hc => by rw [show zcmp .eq x 0 = false by simp [zcmp, hc]] at kk; exact kk)
    · exact lv_if_ne hx hb hd ht (fun hc => by rw [show zcmp .ne x 0 = true by simp [zcmp, hc]] at kk; exact kk) (fun hc => by rw [show zcmp .ne x 0 = false by simp [zcmp, hc]] at kk; exact kk)
    · exact lv_if_lt hx hb hd ht (fun hc => by rw [show zcmp .lt x 0 = true from decide_eq_true hc] at kk; exact kk) (fun hc => by rw [show zcmp .lt x 0 = false from decide_eq_false hc] at kk; exact kk)
    · exact lv_if_ge hx hb hd ht (fun hc => by rw [show zcmp .ge x 0 = true from decide_eq_true hc] at kk; exact kk) (fun hc => by rw [show zcmp .ge x 0 = false from decide_eq_false hc] at kk; exact kk)
    · exact lv_if_gt hx hb hd ht (fun hc => by rw [show zcmp .gt x 0 = true from decide_eq_true hc] at kk; exact kk) (fun hc => by rw [show zcmp .gt x 0 = false from decide_eq_false hc] at kk; exact kk)
    · exact lv_if_le hx hb hd ht (fun hc => by rw [show zcmp .le x 0 = true from decide_eq_true hc] at kk; exact kk) (fun hc => by rw [show zcmp .le x 0 = false from decide_eq_false hc] at kk; exact kk)
  case if_icmp cd off =>
    obtain ⟨x, y, r, q0, q1, q2, q3, q4⟩ := zif2_inv hz; subst q0 q2 q3 q4; obtain ⟨ht, hlen⟩ := hf; subst hlen
    subst q1
    have kk := kk H locs A rfl hP hS hl
    cases cd
    · exact lv_icmp_eq hx hb hd ht (fun hc => by rw [show zcmp .eq x y = true by simp [zcmp, hc]] at kk; exact kk) (fun hc => by rw [show zcmp .eq x y = false by simp [zcmp, hc]] at kk; exact kk)
    · exact lv_icmp_ne hx hb hd ht (fun hc => by rw [show zcmp .ne x y = true by simp [zcmp, hc]] at kk; exact kk) (fun hc => by rw [show zcmp .ne x y = false by simp [zcmp, hc]] at kk; exact kk)
    · exact lv_icmp_lt hx hb hd ht (fun hc => by rw [show zcmp .lt x y = true from decide_eq_true hc] at kk; exact kk) (fun hc => by rw [show zcmp .lt x y = false from decide_eq_false hc] at kk; exact kk)
    · exact lv_icmp_ge hx hb hd ht (fun hc => by rw [show zcmp .ge x y = true from decide_eq_true hc] at kk; exact kk) (fun hc => by rw [show zcmp .ge x y = false from decide_eq_false hc] at kk; exact kk)
    · exact lv_icmp_gt hx hb hd ht (fun hc => by rw [show zcmp .gt x y = true from decide_eq_true hc] at kk; exact kk) (fun hc => by rw [show zcmp .gt x y = false from decide_eq_false hc] at kk; exact kk)
    · exact lv_icmp_le hx hb hd ht (fun hc => by rw [show zcmp .le x y = true from decide_eq_true hc] at kk; exact kk) (fun hc => by rw [show zcmp .le x y = false from decide_eq_false hc] at kk; exact kk)
  case goto off => obtain ⟨q1, q2, q3, q4⟩ := zs_inv hz; subst q1 q2 q3 q4; obtain ⟨ht, hlen⟩ := hf; subst hlen; exact lv_goto hx hb hd ht (kk H locs A rfl hP hS hl)
  case tableswitch df lo hi offs =>
    obtain ⟨ht, hj⟩ := hf
    obtain ⟨x, r, q0, q2, q3, q4, hc⟩ := ztab_inv hz
    subst q0 q2 q3 q4
    have kk := kk H locs A rfl hP hS hl
    rcases hc with ⟨hc, q1⟩ | ⟨hc, htg⟩
    · subst q1
      exact lv_tableOut hx hb hd hc ht kk
    · obtain ⟨o, ho, ht2⟩ := hj _ _ htg
      exact lv_tableIn hx hb hd (fun q => hc (Or.inl q)) (fun q => hc (Or.inr q)) ho ht2 kk
  case iaload =>
    subst hf
    obtain ⟨i, a, r, n, x, q0, ha, hin, q1, q2, q3, q4⟩ := ziald_inv hz; subst q0 q1 q2 q3 q4
    rcases ha with ⟨f, ha, hx9⟩ | ⟨f, ha, hx9⟩
    · subst hx9
      exact va_iald (tys := zTy cy) hx hb hK hP (a / 2) 0 (zW_at ha) rfl (zin_spec hin) hd (kk H locs A rfl hP hS hl)
    · subst hx9
      obtain ⟨h1, h3⟩ := zct_inv ha
      have kk := kk H locs A rfl hP hS hl
      refine W.eq (g2 := F0 m pc A (.int i :: .ref (ka (a / 2)) :: r.map (zv (zr sz ka)))) (by rw [← zr_odd (sz := sz) (ka := ka) h1]; rfl) ?_
      exact va_ti hx hb (hT _ _ _ h3) hS (zin_spec hin) rfl hd kk
  case baload =>
    subst hf
    obtain ⟨i, a, r, n, f, q0, ha, hin, q1, q2, q3, q4⟩ := zbald_inv hz; subst q0 q1 q2 q3 q4
    rcases ha with ha | ha
    · exact va_bald (tys := zTy cy) hx hb hK hP (a / 2) 1 (zW_at ha) rfl (zin_spec hin) hd (kk H locs A rfl hP hS hl)
    · exact va_zald (tys := zTy cy) hx hb hK hP (a / 2) 2 (zW_at ha) rfl (zin_spec hin) hd (kk H locs A rfl hP hS hl)
  case laload =>
    subst hf
    obtain ⟨i, a, r, n, f, q0, ha, hin, q1, q2, q3, q4⟩ := zlald_inv hz; subst q0 q1 q2 q3 q4
    exact va_lald (tys := zTy cy) hx hb hK hP (a / 2) 3 (zW_at ha) rfl (zin_spec hin) hd (kk H locs A rfl hP hS hl)
  case aaload =>
    subst hf
    obtain ⟨i, a, r, n, f, q0, ha, hin, q1, q2, q3, q4⟩ := zaald_inv hz; subst q0 q1 q2 q3 q4
    have kk := kk H locs A rfl hP hS hl
    rw [List.map_cons, show zv (zr sz ka) (va_rf (f.getD i.toNatClampNeg none)) = va_rf ((f.getD i.toNatClampNeg none).map (zr sz ka)) by cases f.getD i.toNatClampNeg none <;> rfl] at kk
    exact va_aldq (tys := zTy cy) hx hb hK hP (a / 2) 4 (zW_at ha) rfl (zin_spec hin) hd kk
  case iastore =>
    subst hf
    obtain ⟨x, i, a, r, n, f, q0, ha, hin, q1, q2, q3, q4⟩ := ziast_inv hz; subst q0 q1 q2 q3
    refine va_iast (tys := zTy cy) hx hb hK hP hD hS (a / 2) 0 (zW_at ha) rfl (zin_spec hin) hd (fun H2 locs2 hP2 hD2 hS2 => ?_)
    refine kk H2 locs2 A (by rw [q4, List.length_set]) ?_ hS2 hl
    rw [q4, zW_set]
    rw [zr_even (zat_inv ha).1, ← zset_upd] at hP2
    exact hP2
  case bastore =>
    subst hf
    obtain ⟨x, i, a, r, n, f, q0, hin, q1, q2, q3, q4⟩ := zbast_inv hz; subst q0 q1 q2 q3
    rcases q4 with ⟨ha, q4⟩ | ⟨ha, q4⟩
    · refine va_bast (tys := zTy cy) hx hb hK hP hD hS (a / 2) 1 (zW_at ha) rfl (zin_spec hin) hd (fun H2 locs2 hP2 hD2 hS2 => ?_)
      refine kk H2 locs2 A (by rw [q4, List.length_set]) ?_ hS2 hl
      rw [q4, zW_set]
      rw [zr_even (zat_inv ha).1, ← zset_upd] at hP2
      exact hP2
    · refine va_zast (tys := zTy cy) hx hb hK hP hD hS (a / 2) 2 (zW_at ha) rfl (zin_spec hin) hd (fun H2 locs2 hP2 hD2 hS2 => ?_)
      refine kk H2 locs2 A (by rw [q4, List.length_set]) ?_ hS2 hl
      rw [q4, zW_set]
      rw [zr_even (zat_inv ha).1, ← zset_upd] at hP2
      exact hP2
  case lastore =>
    subst hf
    obtain ⟨x, i, a, r, n, f, q0, ha, hin, q1, q2, q3, q4⟩ := zlast_inv hz; subst q0 q1 q2 q3
    refine va_last (tys := zTy cy) hx hb hK hP hD hS (a / 2) 3 (zW_at ha) rfl (zin_spec hin) hd (fun H2 locs2 hP2 hD2 hS2 => ?_)
    refine kk H2 locs2 A (by rw [q4, List.length_set]) ?_ hS2 hl
    rw [q4, zW_set]
    rw [zr_even (zat_inv ha).1, ← zset_updL] at hP2
    exact hP2
  case aastore =>
    subst hf
    obtain ⟨v, i, a, r, n, f, fs, q0, ha, hv, hin, q1, q2, q3, q4⟩ := zaast_inv hz; subst q0 q1 q2 q3
    obtain ⟨⟨C9, T9, N9⟩, hc9, hn9⟩ := hheld
    dsimp only at hn9
    subst hn9
    refine va_astq (tys := zTy cy) (r := (_, T9, N9)) hx hb hK hP hD hS (a / 2) 4 (v / 2) 1 (zW_at ha) rfl (zW_at hv) hc9 (zin_spec hin) hd (fun H2 locs2 hP2 hD2 hS2 => ?_)
    refine kk H2 locs2 A (by rw [q4, List.length_set]) ?_ hS2 hl
    rw [q4, zW_set]
    rw [zr_even (zat_inv ha).1, ← zset_up] at hP2
    exact hP2
  case arraylength =>
    subst hf
    obtain ⟨a, r, n, q0, q1, q2, q3, q4, ha⟩ := zalen_inv hz; subst q0 q1 q2 q3 q4
    rcases ha with ⟨f, ha⟩ | ⟨f, ha⟩ | ⟨f, ha⟩ | ⟨f, ha⟩
    · exact va_alen (tys := zTy cy) hx hb hK hP (a / 2) 0 (zW_at ha) rfl rfl hd (kk H locs A rfl hP hS hl)
    · exact va_alen (tys := zTy cy) hx hb hK hP (a / 2) 1 (zW_at ha) rfl rfl hd (kk H locs A rfl hP hS hl)
    · exact va_alen (tys := zTy cy) hx hb hK hP (a / 2) 3 (zW_at ha) rfl rfl hd (kk H locs A rfl hP hS hl)
    · obtain ⟨h1, h3⟩ := zct_inv ha
      have kk := kk H locs A rfl hP hS hl
      refine W.eq (g2 := F0 m pc A (.ref (ka (a / 2)) :: r.map (zv (zr sz ka)))) (by rw [← zr_odd (sz := sz) (ka := ka) h1]; rfl) ?_
      exact va_tlen hx hb (hT _ _ _ h3) hS rfl hd kk
  case getfield k =>
    obtain ⟨⟨C, T, N, hc, hk, hw⟩, hlen⟩ := hf; subst hlen
    obtain ⟨a, r, fs, v, q0, ha, hv, q1, q2, q3, q4⟩ := zget_inv hz; subst q0 q1 q2 q3 q4
    exact va_get (T := T) (C := C) (N := N) hx hb hts ((hcl0 _ _ hc).resolve_right (fun q => by have q : N = 0 := q; omega)).1 hown hK hP (a / 2) (zW_at ha) hc K.2.1 hk (hts _ hw) (fun _ h9 => h9) (by rw [List.getElem?_map, hv]; rfl) hd (kk H locs A rfl hP hS hl)
  case putfield k =>
    obtain ⟨⟨C, T, N, t, hc, hk, hw, hK9, hty, hfin⟩, hlen⟩ := hf; subst hlen
    have hz : (match K.2.2 with
      | .retAddr t => zput K.1 K.2.1 t pc ls st h
      | _ => none) = some (.inl (pc2, ls2, st2, h2)) := hz
    rw [hK9] at hz
    obtain ⟨v, a, r, fs, q0, hkd, ha, hlt, q1, q2, q3, q4⟩ := zput_inv hz; subst q0 q1 q2 q3
    obtain ⟨hw1, hw2, hw3, -⟩ := (hcl0 _ _ hc).resolve_right (fun q => by have q : N = 0 := q; omega)
    obtain ⟨hn1, hn2⟩ := zkind_ok hkd hty (zr sz ka)
    have kk : ∀ (H2 : Heap) (locs2 : List Loc), va_P D cl ((zW cy (zr sz ka) sz h).set (a / 2) (zr sz ka a, .inr (K.1, (fs.map (zv (zr sz ka))).set K.2.1 (zv (zr sz ka) v)))) H2 → va_D (fun q => sz ≤ q) ((zW cy (zr sz ka) sz h).set (a / 2) (zr sz ka a, .inr (K.1, (fs.map (zv (zr sz ka))).set K.2.1 (zv (zr sz ka) v)))) → va_S (fun q => sz ≤ q) s.heap H2 locs2 → W p l e R s m args below meth c H2 locs2 cells slots Q (F0 m (pc + 3) A (st2.map (zv (zr sz ka)))) := by
      intro H2 locs2 hP2 hD2 hS2
      refine kk H2 locs2 A (by rw [q4, List.length_set]) ?_ hS2 hl
      rw [q4, zW_set]
      rw [zr_even (zat_inv ha).1] at hP2
      show va_P D cl ((zW cy (zr sz ka) sz h).set (a / 2) (sz + a / 2, .inr (K.1, (fs.set K.2.1 v).map (zv (zr sz ka))))) H2
      rw [zmap_set]
      exact hP2
    rcases hfin with hfin | ⟨hfin, hyi, hdecl⟩
    · exact va_put (T := T) (C := C) (N := N) hx hb hts hw1 (zty K.1) hw2 hw3 hown hK hP hD hS (a / 2) (zW_at ha) hc K.2.1 hk (hts _ hw) (fun _ h9 => h9) hfin (hw2 _ hk) hn1 hn2 (by rw [List.length_map]; exact hlt) hd kk
    · exact va_putF (T := T) (C := C) (N := N) hx hb hts hw1 (zty K.1) hw2 hw3 hown hK hP hD hS (a / 2) (zW_at ha) hc K.2.1 hk (hts _ hw) (fun _ h9 => h9) hfin (hyn.trans hyi) hdecl (hw2 _ hk) hn1 hn2 (by rw [List.length_map]; exact hlt) hd kk
  case dup =>
    subst hf
    have hz : zdup pc ls st h = some (.inl (pc2, ls2, st2, h2)) := hz
    unfold zdup at hz
    split at hz
    · obtain ⟨q1, q2, q3, q4⟩ := zs_inv hz; subst q1 q2 q3 q4; exact lv_dup hx hb hd rfl (kk H locs A rfl hP hS hl)
    · obtain ⟨q1, q2, q3, q4⟩ := zs_inv hz; subst q1 q2 q3 q4; exact lv_dup hx hb hd rfl (kk H locs A rfl hP hS hl)
    · cases hz
  case dup2 =>
    subst hf
    have hz : zdup2 pc ls st h = some (.inl (pc2, ls2, st2, h2)) := hz
    unfold zdup2 at hz
    split at hz
    · obtain ⟨q1, q2, q3, q4⟩ := zs_inv hz; subst q1 q2 q3 q4; exact lv_dup2_2 hx hb hd rfl (kk H locs A rfl hP hS hl)
    · obtain ⟨q1, q2, q3, q4⟩ := zs_inv hz; subst q1 q2 q3 q4; exact lv_dup2_11 hx hb hd rfl rfl (kk H locs A rfl hP hS hl)
    · cases hz
  case pop =>
    subst hf
    have hz : zpop pc ls st h = some (.inl (pc2, ls2, st2, h2)) := hz
    unfold zpop at hz
    split at hz
    · obtain ⟨q1, q2, q3, q4⟩ := zs_inv hz; subst q1 q2 q3 q4; exact lv_pop hx hb hd rfl (kk H locs A rfl hP hS hl)
    · obtain ⟨q1, q2, q3, q4⟩ := zs_inv hz; subst q1 q2 q3 q4; exact lv_pop hx hb hd rfl (kk H locs A rfl hP hS hl)
    · cases hz
  case pop2 =>
    subst hf
    have hz : zpop2 pc ls st h = some (.inl (pc2, ls2, st2, h2)) := hz
    unfold zpop2 at hz
    split at hz
    · obtain ⟨q1, q2, q3, q4⟩ := zs_inv hz; subst q1 q2 q3 q4; exact lv_pop2_2 hx hb hd rfl (kk H locs A rfl hP hS hl)
    · cases hz
  case invokestatic k => exact absurd rfl (hni k).1
  case invokespecial k => exact absurd rfl (hni k).2.1
  case invokevirtual k => exact absurd rfl (hni k).2.2
  case newarray =>
    have hz : znewa K.1 pc st = some (.inl (pc2, ls2, st2, h2)) := hz
    unfold znewa at hz
    split at hz
    · cases hq : (decide (_ < (0 : Int32)) || !(Nat.ble _ _)) <;> rw [hq] at hz <;> cases hz
    · cases hz
  case anewarray =>
    have hz : zanew pc st = some (.inl (pc2, ls2, st2, h2)) := hz
    unfold zanew at hz
    split at hz
    · cases hq : (decide (_ < (0 : Int32)) || !(Nat.ble _ _)) <;> rw [hq] at hz <;> cases hz
    · cases hz
  case ireturn =>
    have hz : zret K.1 st = some (.inl (pc2, ls2, st2, h2)) := hz
    unfold zret at hz
    split at hz
    · cases (zb_inv hz).2
    · cases hz
  case lreturn =>
    have hz : zlret st = some (.inl (pc2, ls2, st2, h2)) := hz
    unfold zlret at hz
    split at hz <;> cases hz
  case areturn =>
    have hz : zaret st = some (.inl (pc2, ls2, st2, h2)) := hz
    unfold zaret at hz
    split at hz <;> cases hz
  case return_ =>
    have hz : zvret st = some (.inl (pc2, ls2, st2, h2)) := hz
    unfold zvret at hz
    split at hz <;> cases hz
  case new => exact nomatch (show (some (.inr (.inr (.inr (pc + 3, st, .inr (.inr (.inr (K.1, F K.1))))))) : Option zA) = some (.inl (pc2, ls2, st2, h2)) from hz)
  all_goals exact nomatch (show (none : Option zA) = some _ from hz)
end ZSTEP
