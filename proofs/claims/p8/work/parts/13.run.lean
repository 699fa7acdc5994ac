/-! A run of the interpreter is a run of the machine: calls, new cells, returns. -/
noncomputable abbrev zMt : Type := MethodName × ByteArray × Nat × Option FieldType × Nat × Nat
/-- what is known of a method that is called -/
noncomputable def zcm (Ts : List Cond) (Y : zMt) (b fr lo n : Nat) : Prop :=
  Cond.code Y.1 Y.2.1 Y.2.2.1 Y.2.2.2.1 ∈ Ts ∧ Cond.initialized Y.1.cls ∈ Ts ∧ (Y.1.cls ≠ "java/lang/invoke/MethodHandle" ∧ Y.1.cls ≠ "java/lang/invoke/VarHandle" ∧ (parseMethodDescriptor Y.1.desc).map (fun d => d.parameters.length) = some n) ∧ b / 64 = Y.2.2.1 ∧ (Y.2.2.2.2.1 + 1 ≤ fr ∧ 8 + (Y.2.2.1 + 11) + Y.2.2.2.2.2 ≤ lo) ∧ plainFor Y.1 = true
/-- what was looked up ahead of a call, a new cell, a return -/
noncomputable def zcf (cl : List vw_C) (Ts Ns : List Cond) (M : Nat → zMt) (own : String) (ret : Option FieldType) (fr lo : Nat) (i : Instr) (K : zK) (len : Nat) : Prop := match i with
  | .invokevirtual k => ∃ ci n, K.2.2 = .retAddr ci ∧ len = 3 ∧ zcm Ts (M K.1) K.2.1 fr lo n ∧ K.2.1 % 64 = n + 1 ∧ Cond.methodLink own k (M K.1).1 ∈ Ts ∧ Cond.instanceMethod (M K.1).1 ∈ Ts ∧ Cond.selects (M K.1).1.cls (M K.1).1 (M K.1).1 ∈ Ts ∧ ∃ (T : u_T) (N : Nat), cl[ci]? = some ((M K.1).1.cls, T, N)
  | .invokestatic k => len = 3 ∧ ((∃ q, K.2.2 = .retAddr q ∧ Cond.methodLink own k arraycopyName ∈ Ts ∧ Cond.native arraycopyName ∈ Ts ∧ Cond.static arraycopyName ∈ Ts ∧ Cond.initialized "java/lang/System" ∈ Ts ∧ 1 ≤ fr ∧ 8 + (nativeFrameWords "java/lang/System" "arraycopy" 5 + 11) ≤ lo) ∨
      ∃ q n, K.2.2 = .int q ∧ zcm Ts (M K.1) K.2.1 fr lo n ∧ K.2.1 % 64 = n ∧ (Cond.methodLink own k (M K.1).1 ∈ Ts ∨ ∃ host, Cond.methodLinkNest own k (M K.1).1 host ∈ Ns) ∧ Cond.static (M K.1).1 ∈ Ts)
  | .invokespecial k => len = 3 ∧ ((K.2.2 = .null ∧ Cond.methodLink own k Lib.objectInit ∈ Ts ∧ Cond.instanceMethod Lib.objectInit ∈ Ts ∧ Cond.code Lib.objectInit ⟨#[0xb1]⟩ 1 none ∈ Ts ∧ 1 ≤ fr ∧ 20 ≤ lo) ∨
      ∃ q n, K.2.2 = .int q ∧ zcm Ts (M K.1) K.2.1 fr lo n ∧ K.2.1 % 64 = n + 1 ∧ (Cond.methodLink own k (M K.1).1 ∈ Ts ∨ ∃ host, Cond.methodLinkNest own k (M K.1).1 host ∈ Ns) ∧ Cond.instanceMethod (M K.1).1 ∈ Ts ∧ (M K.1).1.name = "<init>" ∧ (M K.1).2.2.2.1 = none)
  | .new k => (∃ (C : String) (T : u_T) (N : Nat), cl[K.1]? = some (C, T, N) ∧ Cond.classLink own k C ∈ Ts ∧ 0 < N) ∧ len = 3
  | .newarray a => (((a = .int ∧ K.1 = 0) ∨ (a = .byte ∧ K.1 = 1) ∨ (a = .boolean ∧ K.1 = 2) ∨ (a = .long ∧ K.1 = 3)) ∧ Cond.arrayClass (newarray.typeOf a) ∈ Ts) ∧ len = 2
  | .anewarray k => Cond.classLink own k "SixJoints$Held" ∈ Ts ∧ len = 3
  | .ireturn => ((K.1 = 0 ∧ ret = some .int) ∨ (K.1 = 2 ∧ ret = some .boolean)) ∧ len = 1
  | .lreturn => ret = some .long ∧ len = 1
  | .areturn => (∃ rt, ret = some rt ∧ ((∃ n, rt = .object n) ∨ ∃ t, rt = .array t)) ∧ len = 1
  | .return_ => ret = none ∧ len = 1
  | _ => True
theorem zMet_ofW {l : Launch} {y : MethodName} {ws ws' : List Cond} {rm : Room} {Pc : Array Value → State → Prop} {Qc : Array Value → State → Outcome → State → Prop} {mc ms : Nat} {free : Addr → Prop} {cc : ByteArray} {maxL : Nat} {ret : Option FieldType}
    (hy : plainFor y = true) (hw : ws = Cond.code y cc maxL ret :: ws')
    (body : ∀ p e s m args below meth c s₁, BodyLoose p l y (headSpec ws rm) cc maxL ret e s m args below meth c s₁ → c.maxLocals = maxL → Pc args s →
      W p l e (headSpec ws rm).room s m args below meth c s.heap [] 0 0 (MQ below Qc args s mc ms free) (entryFrame m args maxL)) : Met l y ws rm Pc Qc mc ms free := by
  refine MetFree.of_bodySF (code := cc) (maxLocals := maxL) (ret := ret) hy ?_ ?_
  · intro args s m h hn
    obtain ⟨meth, c, h1, h2, h3, h4, h5, h6, -, -⟩ := Cond.code_spec hn (atoms_spec (ws := ws) h _ (by rw [hw]; exact List.mem_cons_self))
    exact ⟨meth, c, h1, h2, h3, h4, h5, h6⟩
  · intro p e s m args below meth c s₁ B hml hP _
    have hh0 : s₁.heap = s.heap := by rw [B.state]; rfl
    obtain ⟨t, a1, o, b1, b2, b3⟩ := body p e s m args below meth c s₁ B hml hP s₁ hh0 (Stand.of_body B)
    exact ⟨t, o, a1, b1, b2, ⟨b3.1, b3.2⟩⟩
theorem zsl_len : ∀ (vs : List Value), (lg_sl vs).length = zcat vs
  | [] => rfl
  | v :: vs => by
    have h := zsl_len vs
    unfold lg_sl zcat at h ⊢
    rw [List.flatMap_cons, List.length_append, h, List.map_cons, List.sum_cons]
    rcases lv_cat v with hc | hc <;> simp [hc]
theorem zcat_map (ro : Nat → Nat) (vs : List Value) : zcat (vs.map (zv ro)) = zcat vs := by
  unfold zcat
  rw [List.map_map]
  congr 2
  funext v
  exact zv_cat ro v
theorem zW_bound {p : Program} {l : Launch} {e : Env} {R : Room} {s : State} {m : MethodId} {args : Array Value} {below : List Frame} {meth : Method} {c : Code} {H : Heap} {locs : List Loc} {cells slots : Nat} {Q : State → Prop} {g : JFrame}
    (k : H.size ≤ s.heap.size + cells → W p l e R s m args below meth c H locs cells slots Q g) : W p l e R s m args below meth c H locs cells slots Q g := fun T hT X => k (by
  have h := X.same.2.2.1
  rw [← hT]
  exact h) T hT X
theorem zsize {cl : List vw_C} {D : va_G} {cy : Nat → ClassId} {sz : Nat} {ro : Nat → Nat} {h : zH} {H H0 : Heap} {A : Nat → Prop} {locs : List Loc} {cells : Nat} (hP : va_P D cl (zW cy ro sz h) H) (hS : va_S A H0 H locs) (h0 : sz ≤ H0.size) (hb : H.size ≤ H0.size + cells) (hc : sz + h.length = H0.size + cells) : H.size = sz + h.length := by
  have h1 : sz + h.length ≤ H.size := by
    cases hn : h.length with
    | zero => have := hS.1; omega
    | succ n =>
      have hlt : n < h.length := by omega
      have hq : (zW cy ro sz h)[n]? = some (sz + n, zce cy ro h[n]) := by rw [zW_get, List.getElem?_eq_getElem hlt]; rfl
      have := (hP n _ hq).lt
      have h9 : sz + n < H.size := this
      omega
  omega
/-- the state at a call: what holds at the caller's entry holds there -/
theorem zEnv_at {cl : List vw_C} {Ns : List Cond} {Zs : zZs} {D : va_G} {cy : Nat → ClassId} {sz : Nat} {ka : Nat → Nat} {g : zCt} {s U : State} {H : Heap} {locs : List Loc} (h : zEnv cl Ns Zs D cy sz ka g s) (hS : va_S (fun q => sz ≤ q) s.heap H locs) (hU : U.heap = H) (hW : s.WarmedH U.vm) : zEnv cl Ns Zs D cy sz ka g U := by
  obtain ⟨hK, hT, hZ, hNf, hNm, hAO, hXe, hsz⟩ := h
  refine ⟨va_K.moved hW.alike hK, fun j n f hg => ?_, fun q hq => ?_, fun a i b n d h9 hm => va_Nw.warmF hW (hNf _ _ _ _ _ _ hm), fun a i x h9 hm => va_Nw.warmM hW (hNm _ _ _ _ hm), va_AO.moved hW.alike hAO, zXe_at hXe hS hU hW, ?_⟩
  · rw [hU]
    exact ((hT j n f hg).moved hW.alike).kept hS.2.1
  · rw [hU]
    exact ((hZ q hq).moved hW.alike).kept hS.2.1
  · rw [hU]
    exact Nat.le_trans hsz hS.1
theorem zEnv_same {cl : List vw_C} {Ns : List Cond} {Zs : zZs} {D : va_G} {cy : Nat → ClassId} {sz : Nat} {ka : Nat → Nat} {g : zCt} {s U : State} (h : zEnv cl Ns Zs D cy sz ka g s) (hv : s.vm = U.vm) (hh : U.heap = s.heap) : zEnv cl Ns Zs D cy sz ka g U := by
  obtain ⟨hK, hT, hZ, hNf, hNm, hAO, hXe, hsz⟩ := h
  have hal : s.vm.Alike U.vm := by rw [hv]; exact Vm.Alike.refl _
  refine ⟨va_K.moved hal hK, fun j n f hg => ?_, fun q hq => ?_, fun a i b n d h9 hm => va_Nw.same rfl hv (hNf _ _ _ _ _ _ hm), fun a i x h9 hm => va_Nw.same rfl hv (hNm _ _ _ _ hm), va_AO.moved hal hAO, zXe_same hXe hv hh, by rw [hh]; exact hsz⟩
  · rw [hh]; exact (hT j n f hg).moved hal
  · rw [hh]; exact (hZ q hq).moved hal
/-- a method's start: its arguments, the cells, the tables -/
noncomputable def zPc (cl : List vw_C) (Ns : List Cond) (Zs : zZs) (D : va_G) (cy : Nat → ClassId) (sz : Nat) (ka : Nat → Nat) (g : zCt) (as : List Value) (h : zH) : Array Value → State → Prop :=
  va_Pc (as.map (zv (zr sz ka))) (fun U => zEnv cl Ns Zs D cy sz ka g U ∧ va_P D cl (zW cy (zr sz ka) sz h) U.heap ∧ U.heap.size = sz + h.length)
/-- its end -/
noncomputable def zQc (cl : List vw_C) (D : va_G) (cy : Nat → ClassId) (sz : Nat) (ka : Nat → Nat) (v : Option Value) (h2 : zH) (dc : Nat) : Array Value → State → Outcome → State → Prop := fun _ st o t =>
  o = .returned (v.map (zv (zr sz ka))) ∧ va_P D cl (zW cy (zr sz ka) sz h2) t.heap ∧ va_F (fun q => sz ≤ q) st t ∧ sz + h2.length = st.heap.size + dc
theorem zPc_blind {cl : List vw_C} {Ns : List Cond} {Zs : zZs} {D : va_G} {cy : Nat → ClassId} {sz : Nat} {ka : Nat → Nat} {g : zCt} {as : List Value} {h : zH} : FrameBlind (zPc cl Ns Zs D cy sz ka g as h) := by
  intro a U g9 mk q
  obtain ⟨q0, qE, qP, qs⟩ := q
  exact ⟨q0, zEnv_same qE rfl rfl, qP, qs⟩
theorem znewa_n (t pc : Nat) (st : List Value) (r) : znewa t pc st ≠ some (.inr (.inl r)) := by
  intro q
  unfold znewa at q
  simp only [Bool.cond_eq_ite] at q
  (repeat' split at q) <;> first | (cases q; done) | (simp at q; done)
theorem zanew_n (pc : Nat) (st : List Value) (r) : zanew pc st ≠ some (.inr (.inl r)) := by
  intro q
  unfold zanew at q
  simp only [Bool.cond_eq_ite] at q
  (repeat' split at q) <;> first | (cases q; done) | (simp at q; done)
theorem zret_n (t : Nat) (st : List Value) (r) : zret t st ≠ some (.inr (.inl r)) := by
  intro q
  unfold zret at q
  simp only [Bool.cond_eq_ite] at q
  (repeat' split at q) <;> first | (cases q; done) | (simp at q; done)
theorem zlret_n (st : List Value) (r) : zlret st ≠ some (.inr (.inl r)) := by
  intro q
  unfold zlret at q
  (repeat' split at q) <;> first | (cases q; done) | (simp at q; done)
theorem zaret_n (st : List Value) (r) : zaret st ≠ some (.inr (.inl r)) := by
  intro q
  unfold zaret at q
  (repeat' split at q) <;> first | (cases q; done) | (simp at q; done)
theorem zvret_n (st : List Value) (r) : zvret st ≠ some (.inr (.inl r)) := by
  intro q
  unfold zvret at q
  (repeat' split at q) <;> first | (cases q; done) | (simp at q; done)
theorem zcall_n (y b : Nat) (st : List Value) (r) : zcall y b st ≠ some (.inl r) := by
  intro q
  unfold zcall at q
  cases (zb_inv q).2
theorem zcopy_inv {n : Nat} {ls : zL} {st : List Value} {h : zH} {pc2 : Nat} {ls2 : zL} {st2 : List Value} {h2 : zH} (hz : zcopy n ls st h = some (.inl (pc2, ls2, st2, h2))) : ∃ c dp a sp b r, st = .int c :: .int dp :: .ref a :: .int sp :: .ref b :: r ∧ pc2 = n ∧ ls2 = ls ∧ st2 = r ∧ ¬ sp < 0 ∧ ¬ dp < 0 ∧ ¬ c < 0 ∧ zcat r ≤ 8 ∧
    ((∃ n0 n1 f f1, zat h b = some (.inl (0, n0, f)) ∧ zat h a = some (.inl (0, n1, f1)) ∧ sp.toNatClampNeg + c.toNatClampNeg ≤ n0 ∧ dp.toNatClampNeg + c.toNatClampNeg ≤ n1 ∧ h2 = h.set (a / 2) (.inl (0, n1, zcpy 0 f f1 sp.toNatClampNeg dp.toNatClampNeg c.toNatClampNeg))) ∨
     (∃ n0 n1 f f1, zat h b = some (.inr (.inl (n0, f))) ∧ zat h a = some (.inr (.inl (n1, f1))) ∧ sp.toNatClampNeg + c.toNatClampNeg ≤ n0 ∧ dp.toNatClampNeg + c.toNatClampNeg ≤ n1 ∧ h2 = h.set (a / 2) (.inr (.inl (n1, zcpy 0 f f1 sp.toNatClampNeg dp.toNatClampNeg c.toNatClampNeg))))) := by
  unfold zcopy at hz
  split at hz
  · next c dp a sp b r =>
    cases hq : (decide (sp < 0) || (decide (dp < 0) || (decide (c < 0) || !(Nat.ble (zcat r) 8)))) with
    | true => rw [hq] at hz; cases hz
    | false =>
      rw [hq] at hz
      dsimp only [cond_false] at hz
      simp only [Bool.or_eq_false_iff, decide_eq_false_iff_not, Bool.not_eq_false'] at hq
      obtain ⟨g1, g2, g3, g4⟩ := hq
      split at hz
      · next n0 f n1 f1 e1 e2 =>
        obtain ⟨k1, hz⟩ := zb_inv hz
        simp only [Bool.and_eq_true] at k1
        obtain ⟨q1, q2, q3, q4⟩ := zs_inv hz
        exact ⟨c, dp, a, sp, b, r, rfl, q1, q2, q3, g1, g2, g3, Nat.le_of_ble_eq_true g4, Or.inl ⟨n0, n1, f, f1, e1, e2, Nat.le_of_ble_eq_true k1.1, Nat.le_of_ble_eq_true k1.2, q4⟩⟩
      · next n0 f n1 f1 e1 e2 =>
        obtain ⟨k1, hz⟩ := zb_inv hz
        simp only [Bool.and_eq_true] at k1
        obtain ⟨q1, q2, q3, q4⟩ := zs_inv hz
        exact ⟨c, dp, a, sp, b, r, rfl, q1, q2, q3, g1, g2, g3, Nat.le_of_ble_eq_true g4, Or.inr ⟨n0, n1, f, f1, e1, e2, Nat.le_of_ble_eq_true k1.1, Nat.le_of_ble_eq_true k1.2, q4⟩⟩
      · cases hz
  · cases hz
section ZRUN
variable {cl : List vw_C} {Ts Ns : List Cond} {Zs : zZs} {D : va_G} {cy : Nat → ClassId} {sz : Nat} {ka : Nat → Nat} {g : zCt} {own yn : String} {cc : ByteArray} {nL : Nat} {F : zFs} {zty : Nat → Nat → FieldType} {M : Nat → zMt}
variable {p : Program} {l : Launch} {e : Env} {R : Room} {s : State} {m : MethodId} {args : Array Value} {below : List Frame} {meth : Method} {c : Code} {H : Heap} {locs : List Loc} {cells slots : Nat} {Q : State → Prop}
variable {i : Instr} {K : zK} {tg : List Nat} {len pc pc2 : Nat} {ls ls2 : zL} {st st2 : List Value} {h h2 : zH} {A : Array Slot} {ret : Option FieldType}
/-- behind a call -/
theorem zafter {v : Option Value} {mc ms : Nat} {st0 rest : List Value} {a : Array Value} (hr : va_Run p l e R s m args below meth c H locs cells slots mc ms (F0 m pc A st0) rest (zQc cl D cy sz ka v h2 mc a) (fun q => sz ≤ q)) (hS : va_S (fun q => sz ≤ q) s.heap H locs)
    (kk : ∀ (H2 : Heap) (locs2 : List Loc), va_P D cl (zW cy (zr sz ka) sz h2) H2 → va_S (fun q => sz ≤ q) s.heap H2 locs2 → sz + h2.length = H.size + mc → W p l e R s m args below meth c H2 locs2 (cells + mc) (slots + ms) Q (F0 m (pc + 3) A ((v.map (zv (zr sz ka))).toList ++ rest))) :
    W p l e R s m args below meth c H locs cells slots Q (F0 m pc A st0) := by
  intro T hT X
  obtain ⟨v9, st₀, t, T', L, h0, X', hL, e1, e2, ⟨hv, hp, ⟨hz, hk⟩, hsz⟩, st⟩ := hr T hT X
  cases hv
  rw [h0] at hz hk hsz
  obtain ⟨t2, a1, b1⟩ := kk T'.heap (locs ++ L) (by rw [e1]; exact hp)
    ⟨Nat.le_trans hS.1 (by rw [e1]; exact hz), fun q h1 h2 => by rw [e1, hk q (Nat.lt_of_lt_of_le h1 hS.1) h2]; exact hS.2.1 q h1 h2, fun q hq => by
      rcases List.mem_append.mp hq with h | h
      · exact hS.2.2 q h
      · exact hL q h⟩ hsz T' rfl X'
  exact ⟨t2, st t2 a1, b1⟩
theorem zcall_inv {y b y2 : Nat} {as rest : List Value} (hz : zcall y b st = some (.inr (.inl (y2, as, rest)))) : y2 = y ∧ as = (st.take (b % 64)).reverse ∧ rest = st.drop (b % 64) ∧ b % 64 ≤ st.length ∧ zcat (st.drop (b % 64)) ≤ 8 ∧ zcat as ≤ b / 64 := by
  unfold zcall at hz
  obtain ⟨h1, h3⟩ := zb_inv hz
  simp only [Bool.and_eq_true] at h1
  obtain ⟨q1, q2, q3⟩ := h1
  injection h3 with h3
  injection h3 with h3
  injection h3 with h3
  injection h3 with h4 h3
  injection h3 with h5 h6
  subst h4 h5 h6
  exact ⟨rfl, rfl, rfl, Nat.le_of_ble_eq_true q1, Nat.le_of_ble_eq_true q2, Nat.le_of_ble_eq_true q3⟩
theorem zrecv_inv {ci : Nat} {as : List Value} (hz : zrecv ci as h = true) : ∃ r as2 fs, as = .ref r :: as2 ∧ zat h r = some (.inr (.inr (.inr (ci, fs)))) := by
  unfold zrecv at hz
  split at hz
  · next r as2 =>
    split at hz
    · next c9 fs hat =>
      have hc9 : c9 = ci := by simpa using hz
      subst hc9
      exact ⟨r, as2, fs, rfl, hat⟩
    · cases hz
  · cases hz
theorem zcallI_inv {y b : Nat} {x : zA} (hz : zcallI y b st = some x) : ∃ r as2, (st.take (b % 64)).reverse = .ref r :: as2 ∧ zcall y b st = some x := by
  unfold zcallI at hz
  split at hz
  · next r as2 he => exact ⟨r, as2, he, hz⟩
  · cases hz
theorem zgood {Ts : List Cond} {w : Cond} (hgood : ∀ w ∈ Ts, goodWord w = true) (hw : w ∈ Ts) : GoodIn Ts (w :: Ts) := by
  intro w2 h2
  have h3 : w2 ∈ Ts := by
    rcases List.mem_cons.mp h2 with rfl | h
    · exact hw
    · exact h
  exact ⟨h3, good_of_word (hgood _ h3)⟩
set_option maxHeartbeats 4000000 in
/-- a call of a method whose contract stands -/
theorem zcall_ok (hgood : ∀ w ∈ Ts, goodWord w = true) (X : zCx cl Ts Ns Zs D cy sz ka g own yn cc nL p s m args meth c) (hd : decode cc pc = .ok (i, len)) (hf : zcf cl Ts Ns M own ret R.frames R.locals i K len) {y2 : Nat} {as rest : List Value} (hz : zins g F tg i K len pc ls st h = some (.inr (.inl (y2, as, rest))))
    {v : Option Value} {d1 s1 : Nat} (hM : zcat as ≤ (M y2).2.2.1 → plainFor (M y2).1 = true → Met l (M y2).1 (Cond.code (M y2).1 (M y2).2.1 (M y2).2.2.1 (M y2).2.2.2.1 :: Ts) ({ frames := (M y2).2.2.2.2.1, cells := d1, slots := s1, locals := (M y2).2.2.2.2.2 }) (zPc cl Ns Zs D cy sz ka g as h) (zQc cl D cy sz ka v h2 d1) d1 s1 (fun q => sz ≤ q))
    (hc1 : cells + d1 ≤ R.cells) (hc2 : slots + s1 ≤ R.slots)
    (hP : va_P D cl (zW cy (zr sz ka) sz h) H) (hS : va_S (fun q => sz ≤ q) s.heap H locs) (hl : lv_has A nL (zl (zr sz ka) ls)) (hn : sz + h.length = s.heap.size + cells)
    (kk : ∀ (H2 : Heap) (locs2 : List Loc), va_P D cl (zW cy (zr sz ka) sz h2) H2 → va_S (fun q => sz ≤ q) s.heap H2 locs2 → sz + h2.length = s.heap.size + (cells + d1) → W p l e R s m args below meth c H2 locs2 (cells + d1) (slots + s1) Q (F0 m (pc + 3) A ((v.toList ++ rest).map (zv (zr sz ka))))) :
    W p l e R s m args below meth c H locs cells slots Q (F0 m pc A (st.map (zv (zr sz ka)))) := by
  obtain ⟨hx, hb, hml, hown, hts, hE, hyn⟩ := X
  have hsz0 : sz ≤ s.heap.size := hE.2.2.2.2.2.2.2
  refine zW_bound (fun hbd => ?_)
  have hsize : H.size = sz + h.length := zsize hP hS hsz0 hbd hn
  have hpre : ∀ U : State, U.heap = H → s.WarmedH U.vm → zPc cl Ns Zs D cy sz ka g as h (as.map (zv (zr sz ka))).toArray U := fun U hU hW => ⟨rfl, zEnv_at hE hS hU hW, by rw [hU]; exact hP, by rw [hU]; exact hsize⟩
  have kk2 : ∀ (H2 : Heap) (locs2 : List Loc), va_P D cl (zW cy (zr sz ka) sz h2) H2 → va_S (fun q => sz ≤ q) s.heap H2 locs2 → sz + h2.length = H.size + d1 → W p l e R s m args below meth c H2 locs2 (cells + d1) (slots + s1) Q (F0 m (pc + 3) A ((v.map (zv (zr sz ka))).toList ++ rest.map (zv (zr sz ka)))) := by
    intro H2 locs2 hP2 hS2 hn2
    have h9 := kk H2 locs2 hP2 hS2 (by omega)
    rw [List.map_append] at h9
    cases v <;> exact h9
  have key : ∀ (n9 y b : Nat), zcall y b st = some (.inr (.inl (y2, as, rest))) → zcm Ts (M y) b R.frames R.locals n9 → y2 = y ∧ as = (st.take (b % 64)).reverse ∧ as.length = b % 64 ∧ st.map (zv (zr sz ka)) = (as.map (zv (zr sz ka))).reverse ++ rest.map (zv (zr sz ka)) ∧ ((rest.map (zv (zr sz ka))).map fun v => v.category).sum ≤ 8 ∧ Met l (M y2).1 (Cond.code (M y2).1 (M y2).2.1 (M y2).2.2.1 (M y2).2.2.2.1 :: Ts) ({ frames := (M y2).2.2.2.2.1, cells := d1, slots := s1, locals := (M y2).2.2.2.2.2 }) (zPc cl Ns Zs D cy sz ka g as h) (zQc cl D cy sz ka v h2 d1) d1 s1 (fun q => sz ≤ q) := by
    intro n9 y b hz hm
    obtain ⟨q1, q2, q3, q4, q5, q6⟩ := zcall_inv hz
    obtain ⟨m1, m2, m3, m4, m5, m6⟩ := hm
    subst q1
    refine ⟨rfl, q2, by rw [q2, List.length_reverse, List.length_take]; omega, ?_, ?_, hM (by rw [← m4]; exact q6) m6⟩
    · rw [q2, q3, List.map_reverse, List.reverse_reverse, ← List.map_append, List.take_append_drop]
    · have h9 := zcat_map (zr sz ka) rest
      unfold zcat at h9
      rw [h9, q3]
      exact q5
  cases i
  case invokevirtual k =>
    obtain ⟨ci, n, hK, hlen, hm, hb64, hw1, hw2, hw3, T, N, hcl⟩ := hf
    subst hlen
    have hz : (match K.2.2 with
      | .retAddr ci => zcallV K.1 K.2.1 ci st h
      | _ => none) = some (.inr (.inl (y2, as, rest))) := hz
    rw [hK] at hz
    unfold zcallV at hz
    obtain ⟨hrec, hz⟩ := zb_inv hz
    obtain ⟨q1, q2, q3, q4, q5, q6⟩ := key n _ _ hz hm
    obtain ⟨m1, m2, m3, m4, m5, m6⟩ := hm
    subst q1
    rw [← q2] at hrec
    obtain ⟨r, as2, fs, q7, hat⟩ := zrecv_inv hrec
    subst q7
    have hcw : CallW R s args own (M K.1).1.cls k (M K.1).1 (M K.1).2.1 (M K.1).2.2.1 (M K.1).2.2.2.1 (Cond.code (M K.1).1 (M K.1).2.1 (M K.1).2.2.1 (M K.1).2.2.2.1 :: Ts) ({ frames := (M K.1).2.2.2.2.1, cells := d1, slots := s1, locals := (M K.1).2.2.2.2.2 }) d1 s1 n := ⟨callB_of n hts (zgood hgood m1) rfl rfl rfl (hts _ m2) (hts _ hw1) m3 m5, hts _ hw2, hts _ hw3⟩
    refine W.eq (g2 := F0 m pc A ((as2.map (zv (zr sz ka))).reverse ++ .ref (zr sz ka r) :: rest.map (zv (zr sz ka)))) (by rw [q4]; simp [zv]) ?_
    exact zafter (va_runV (As := as2.map (zv (zr sz ka))) (rest := rest.map (zv (zr sz ka))) ⟨hx, hb, hml, hown, hts⟩ q6 hcw ⟨zPc_blind, va_recv hE.1 hP hcl (zW_at hat), hpre⟩ rfl (by rw [List.length_map]; simp at q3; omega) hl.1 rfl (lv_room q5) hd ⟨hc1, hc2⟩) hS kk2
  case invokestatic k =>
    obtain ⟨hlen, hf⟩ := hf
    subst hlen
    have hz : (match K.2.2 with
      | .retAddr _ => zcopy (pc + 3) ls st h
      | .int _ => zcall K.1 K.2.1 st
      | _ => none) = some (.inr (.inl (y2, as, rest))) := hz
    rcases hf with ⟨q, hK, -⟩ | ⟨q, n, hK, hm, hb64, hw1, hw2⟩
    · rw [hK] at hz
      exfalso
      have hz : zcopy (pc + 3) ls st h = some (.inr (.inl (y2, as, rest))) := hz
      unfold zcopy at hz
      split at hz
      · cases hq : (decide (_ < (0 : Int32)) || (decide (_ < (0 : Int32)) || (decide (_ < (0 : Int32)) || !(Nat.ble _ 8)))) <;> rw [hq] at hz
        · dsimp only [cond_false] at hz
          split at hz
          · cases (zb_inv hz).2
          · cases (zb_inv hz).2
          · cases hz
        · cases hz
      · cases hz
    · rw [hK] at hz
      obtain ⟨q1, q2, q3, q4, q5, q6⟩ := key n _ _ hz hm
      obtain ⟨m1, m2, m3, m4, m5, m6⟩ := hm
      subst q1
      refine W.eq (g2 := F0 m pc A ((as.map (zv (zr sz ka))).reverse ++ rest.map (zv (zr sz ka)))) (by rw [q4]) ?_
      rcases hw1 with hw1 | ⟨host, hw1⟩
      · exact zafter (va_runS (As := as.map (zv (zr sz ka))) (rest := rest.map (zv (zr sz ka))) ⟨hx, hb, hml, hown, hts⟩ q6 ⟨callB_of n hts (zgood hgood m1) rfl rfl rfl (hts _ m2) (hts _ hw1) m3 m5, hts _ hw2⟩ ⟨zPc_blind, hpre⟩ rfl (by rw [List.length_map]; omega) hl.1 rfl (lv_room q5) hd ⟨hc1, hc2⟩) hS kk2
      · exact zafter (va_runSN (As := as.map (zv (zr sz ka))) (rest := rest.map (zv (zr sz ka))) ⟨hx, hb, hml, hown, hts⟩ q6 ⟨va_cnB n hts (zgood hgood m1) rfl rfl rfl (hE.2.2.2.2.1 _ _ _ _ hw1) (hts _ m2) m3 m5, hts _ hw2, trivial⟩ ⟨zPc_blind, hpre⟩ rfl (by rw [List.length_map]; omega) hl.1 rfl (lv_room q5) hd ⟨hc1, hc2⟩) hS kk2
  case invokespecial k =>
    obtain ⟨hlen, hf⟩ := hf
    subst hlen
    have hz : (match K.2.2 with
      | .null => zobji pc ls st h
      | .int _ => zcallI K.1 K.2.1 st
      | _ => none) = some (.inr (.inl (y2, as, rest))) := hz
    rcases hf with ⟨hK, -⟩ | ⟨q, n, hK, hm, hb64, hw1, hw2, hw3, hw4⟩
    · rw [hK] at hz
      exfalso
      have hz : zobji pc ls st h = some (.inr (.inl (y2, as, rest))) := hz
      unfold zobji at hz
      split at hz
      · cases (zb_inv hz).2
      · cases hz
    · rw [hK] at hz
      obtain ⟨r, as2, q7, hz⟩ := zcallI_inv hz
      obtain ⟨q1, q2, q3, q4, q5, q6⟩ := key n _ _ hz hm
      obtain ⟨m1, m2, m3, m4, m5, m6⟩ := hm
      subst q1
      rw [← q2] at q7
      subst q7
      rw [hw4] at q6 m1
      refine W.eq (g2 := F0 m pc A ((as2.map (zv (zr sz ka))).reverse ++ .ref (zr sz ka r) :: rest.map (zv (zr sz ka)))) (by rw [q4]; simp [zv]) ?_
      rcases hw1 with hw1 | ⟨host, hw1⟩
      · exact zafter (va_runI (As := as2.map (zv (zr sz ka))) (rest := rest.map (zv (zr sz ka))) ⟨hx, hb, hml, hown, hts⟩ q6 ⟨callB_of n hts (zgood hgood m1) rfl rfl rfl (hts _ m2) (hts _ hw1) m3 m5, hw3, hts _ hw2⟩ ⟨zPc_blind, hpre⟩ rfl (by rw [List.length_map]; simp at q3; omega) hl.1 rfl (lv_room q5) hd ⟨hc1, hc2⟩) hS kk2
      · exact zafter (va_runIN (As := as2.map (zv (zr sz ka))) (rest := rest.map (zv (zr sz ka))) ⟨hx, hb, hml, hown, hts⟩ q6 ⟨va_cnB n hts (zgood hgood m1) rfl rfl rfl (hE.2.2.2.2.1 _ _ _ _ hw1) (hts _ m2) m3 m5, hw3, hts _ hw2⟩ ⟨zPc_blind, hpre⟩ rfl (by rw [List.length_map]; simp at q3; omega) hl.1 rfl (lv_room q5) hd ⟨hc1, hc2⟩) hS kk2
  case new => exact nomatch (show (some (.inr (.inr (.inr (pc + 3, st, .inr (.inr (.inr (K.1, F K.1))))))) : Option zA) = some (.inr (.inl _)) from hz)
  case newarray => exact absurd hz (znewa_n _ _ _ _)
  case anewarray => exact absurd hz (zanew_n _ _ _)
  case ireturn => exact absurd hz (zret_n _ _ _)
  case lreturn => exact absurd hz (zlret_n _ _)
  case areturn => exact absurd hz (zaret_n _ _)
  case return_ => exact absurd hz (zvret_n _ _)
  all_goals exact nomatch (show false = true from zins_big hz)
set_option maxHeartbeats 4000000 in
/-- Object's constructor, System.arraycopy: one step here -/
theorem zinv_ok (X : zCx cl Ts Ns Zs D cy sz ka g own yn cc nL p s m args meth c) (hd : decode cc pc = .ok (i, len)) (hf : zcf cl Ts Ns M own ret R.frames R.locals i K len) (hz : zins g F tg i K len pc ls st h = some (.inl (pc2, ls2, st2, h2))) (hi : ∃ k, i = .invokestatic k ∨ i = .invokespecial k ∨ i = .invokevirtual k)
    (hP : va_P D cl (zW cy (zr sz ka) sz h) H) (hS : va_S (fun q => sz ≤ q) s.heap H locs) (hl : lv_has A nL (zl (zr sz ka) ls))
    (kk : ∀ (H2 : Heap) (locs2 : List Loc) (A2 : Array Slot), h2.length = h.length → va_P D cl (zW cy (zr sz ka) sz h2) H2 → va_S (fun q => sz ≤ q) s.heap H2 locs2 → lv_has A2 nL (zl (zr sz ka) ls2) → W p l e R s m args below meth c H2 locs2 cells slots Q (F0 m pc2 A2 (st2.map (zv (zr sz ka))))) :
    W p l e R s m args below meth c H locs cells slots Q (F0 m pc A (st.map (zv (zr sz ka)))) := by
  obtain ⟨hx, hb, hml, hown, hts, hE, hyn⟩ := X
  have hD : va_D (fun q => sz ≤ q) (zW cy (zr sz ka) sz h) := zW_D cy (zr sz ka) h sz
  obtain ⟨k, hi⟩ := hi
  rcases hi with rfl | rfl | rfl
  · obtain ⟨hlen, hf⟩ := hf
    subst hlen
    have hz : (match K.2.2 with
      | .retAddr _ => zcopy (pc + 3) ls st h
      | .int _ => zcall K.1 K.2.1 st
      | _ => none) = some (.inl (pc2, ls2, st2, h2)) := hz
    rcases hf with ⟨q, hK, w1, w2, w3, w4, w5, w6⟩ | ⟨q, n, hK, -⟩
    · rw [hK] at hz
      obtain ⟨c9, dp, a, sp, b, r, q0, q1, q2, q3, n1, n2, n3, n4, hc⟩ := zcopy_inv hz
      subst q0 q1 q2 q3
      have hr : ((st2.map (zv (zr sz ka))).map fun v => v.category).sum + (nativeFrameWords "java/lang/System" "arraycopy" 5 + 11) ≤ R.locals := by
        have h9 := zcat_map (zr sz ka) st2
        unfold zcat at h9 n4
        rw [h9]
        omega
      rcases hc with ⟨n0, m1, f, f1, hb9, ha9, l1, l2, q4⟩ | ⟨n0, m1, f, f1, hb9, ha9, l1, l2, q4⟩
      · refine va_copyi (tys := zTy cy) (ty := .int) hx hb (hml.trans hl.1.symm) hown (hts _ w1) (hts _ w2) (hts _ w3) (hts _ w4) hE.1 hP hD hS (b / 2) (a / 2) 0 0 (zW_at hb9) (zW_at ha9) rfl rfl rfl n1 n2 n3 l1 l2 (fun _ _ => rfl) w5 hr hd (fun H2 locs2 hP2 hD2 hS2 => ?_)
        refine kk H2 locs2 A (by rw [q4, List.length_set]) ?_ hS2 hl
        rw [q4, zW_set]
        rw [zr_even (zat_inv ha9).1, ← zcpy_fun] at hP2
        exact hP2
      · refine va_copyl (tys := zTy cy) (ty := .long) hx hb (hml.trans hl.1.symm) hown (hts _ w1) (hts _ w2) (hts _ w3) (hts _ w4) hE.1 hP hD hS (b / 2) (a / 2) 3 3 (zW_at hb9) (zW_at ha9) rfl rfl rfl n1 n2 n3 l1 l2 (fun _ _ => rfl) w5 hr hd (fun H2 locs2 hP2 hD2 hS2 => ?_)
        refine kk H2 locs2 A (by rw [q4, List.length_set]) ?_ hS2 hl
        rw [q4, zW_set]
        rw [zr_even (zat_inv ha9).1, ← zcpy_fun] at hP2
        exact hP2
    · rw [hK] at hz
      exact absurd hz (zcall_n _ _ _ _)
  · obtain ⟨hlen, hf⟩ := hf
    subst hlen
    have hz : (match K.2.2 with
      | .null => zobji pc ls st h
      | .int _ => zcallI K.1 K.2.1 st
      | _ => none) = some (.inl (pc2, ls2, st2, h2)) := hz
    rcases hf with ⟨hK, w1, w2, w3, w4, w5⟩ | ⟨q, n, hK, -⟩
    · rw [hK] at hz
      have hz : zobji pc ls st h = some (.inl (pc2, ls2, st2, h2)) := hz
      unfold zobji at hz
      split at hz
      · next a9 r =>
        obtain ⟨hn, hz⟩ := zb_inv hz
        obtain ⟨q1, q2, q3, q4⟩ := zs_inv hz
        subst q1 q2 q3 q4
        refine W.objInit hx hb hown (hts _ w1) (hts _ w2) (hts _ w3) rfl (by rw [hml]; exact hl.1) rfl hd w4 ?_ ?_
        · show 2 * 0 + ((List.map (zv (zr sz ka)) _).map fun v => v.category).sum + 12 ≤ _
          have h9 := zcat_map (zr sz ka) st2
          have h8 : zcat st2 ≤ 8 := Nat.le_of_ble_eq_true hn
          unfold zcat at h9 h8
          rw [h9]
          omega
        · exact kk H locs A rfl hP hS hl
      · cases hz
    · rw [hK] at hz
      obtain ⟨r, as2, q7, hz⟩ := zcallI_inv hz
      exact absurd hz (zcall_n _ _ _ _)
  · obtain ⟨ci, n, hK, -⟩ := hf
    have hz : (match K.2.2 with
      | .retAddr ci => zcallV K.1 K.2.1 ci st h
      | _ => none) = some (.inl (pc2, ls2, st2, h2)) := hz
    rw [hK] at hz
    unfold zcallV at hz
    obtain ⟨hrec, hz⟩ := zb_inv hz
    exact absurd hz (zcall_n _ _ _ _)
end ZRUN
