/-! Runs of the interpreter that make no cell are the machine's also where more lies in the heap than the picture has. -/
/-- a method's start and end, the heap as large as it may be -/
def yzPc (cl : List vw_C) (Ns : List Cond) (Zs : zZs) (D : va_G) (cy : Nat → ClassId) (sz : Nat) (ka : Nat → Nat) (g : zCt) (as : List Value) (h : zH) : Array Value → State → Prop :=
  va_Pc (as.map (zv (zr sz ka))) (fun U => zEnv cl Ns Zs D cy sz ka g U ∧ va_P D cl (zW cy (zr sz ka) sz h) U.heap)
def yzQc (cl : List vw_C) (D : va_G) (cy : Nat → ClassId) (sz : Nat) (ka : Nat → Nat) (v : Option Value) (h2 : zH) : Array Value → State → Outcome → State → Prop := fun _ st o t =>
  o = .returned (v.map (zv (zr sz ka))) ∧ va_P D cl (zW cy (zr sz ka) sz h2) t.heap ∧ va_F (fun q => sz ≤ q) st t
theorem yzPc_blind {cl : List vw_C} {Ns : List Cond} {Zs : zZs} {D : va_G} {cy : Nat → ClassId} {sz : Nat} {ka : Nat → Nat} {g : zCt} {as : List Value} {h : zH} : FrameBlind (yzPc cl Ns Zs D cy sz ka g as h) := by
  intro a U g9 mk q
  obtain ⟨q0, qE, qP⟩ := q
  exact ⟨q0, zEnv_same qE rfl rfl, qP⟩
section ZRUN
variable {cl : List vw_C} {Ts Ns : List Cond} {Zs : zZs} {D : va_G} {cy : Nat → ClassId} {sz : Nat} {ka : Nat → Nat} {g : zCt} {own yn : String} {cc : ByteArray} {nL : Nat} {F : zFs} {zty : Nat → Nat → FieldType} {M : Nat → zMt}
variable {p : Program} {l : Launch} {e : Env} {R : Room} {s : State} {m : MethodId} {args : Array Value} {below : List Frame} {meth : Method} {c : Code} {H : Heap} {locs : List Loc} {cells slots : Nat} {Q : State → Prop}
variable {i : Instr} {K : zK} {tg : List Nat} {len pc pc2 : Nat} {ls ls2 : zL} {st st2 : List Value} {h h2 : zH} {A : Array Slot} {ret : Option FieldType}
theorem yzafter {v : Option Value} {mc ms : Nat} {st0 rest : List Value} {a : Array Value} (hr : va_Run p l e R s m args below meth c H locs cells slots mc ms (F0 m pc A st0) rest (yzQc cl D cy sz ka v h2 a) (fun q => sz ≤ q)) (hS : va_S (fun q => sz ≤ q) s.heap H locs)
    (kk : ∀ (H2 : Heap) (locs2 : List Loc), va_P D cl (zW cy (zr sz ka) sz h2) H2 → va_S (fun q => sz ≤ q) s.heap H2 locs2 → W p l e R s m args below meth c H2 locs2 (cells + mc) (slots + ms) Q (F0 m (pc + 3) A ((v.map (zv (zr sz ka))).toList ++ rest))) :
    W p l e R s m args below meth c H locs cells slots Q (F0 m pc A st0) := by
  intro T hT X
  obtain ⟨v9, st₀, t, T', L, h0, X', hL, e1, e2, ⟨hv, hp, hz, hk⟩, st⟩ := hr T hT X
  cases hv
  rw [h0] at hz hk
  obtain ⟨t2, a1, b1⟩ := kk T'.heap (locs ++ L) (by rw [e1]; exact hp)
    ⟨Nat.le_trans hS.1 (by rw [e1]; exact hz), fun q h1 h2 => by rw [e1, hk q (Nat.lt_of_lt_of_le h1 hS.1) h2]; exact hS.2.1 q h1 h2, fun q hq => by
      rcases List.mem_append.mp hq with h | h
      · exact hS.2.2 q h
      · exact hL q h⟩ T' rfl X'
  exact ⟨t2, st t2 a1, b1⟩
set_option maxHeartbeats 4000000 in
/-- a call of a method whose contract stands -/
theorem yzcall_ok (hgood : ∀ w ∈ Ts, goodWord w = true) (X : zCx cl Ts Ns Zs D cy sz ka g own yn cc nL p s m args meth c) (hd : decode cc pc = .ok (i, len)) (hf : zcf cl Ts Ns M own ret R.frames R.locals i K len) {y2 : Nat} {as rest : List Value} (hz : zins g F tg i K len pc ls st h = some (.inr (.inl (y2, as, rest))))
    {v : Option Value} {d1 s1 : Nat} (hM : zcat as ≤ (M y2).2.2.1 → plainFor (M y2).1 = true → Met l (M y2).1 (Cond.code (M y2).1 (M y2).2.1 (M y2).2.2.1 (M y2).2.2.2.1 :: Ts) ({ frames := (M y2).2.2.2.2.1, cells := d1, slots := s1, locals := (M y2).2.2.2.2.2 }) (yzPc cl Ns Zs D cy sz ka g as h) (yzQc cl D cy sz ka v h2) d1 s1 (fun q => sz ≤ q))
    (hc1 : cells + d1 ≤ R.cells) (hc2 : slots + s1 ≤ R.slots)
    (hP : va_P D cl (zW cy (zr sz ka) sz h) H) (hS : va_S (fun q => sz ≤ q) s.heap H locs) (hl : lv_has A nL (zl (zr sz ka) ls))
    (kk : ∀ (H2 : Heap) (locs2 : List Loc), va_P D cl (zW cy (zr sz ka) sz h2) H2 → va_S (fun q => sz ≤ q) s.heap H2 locs2 → W p l e R s m args below meth c H2 locs2 (cells + d1) (slots + s1) Q (F0 m (pc + 3) A ((v.toList ++ rest).map (zv (zr sz ka))))) :
    W p l e R s m args below meth c H locs cells slots Q (F0 m pc A (st.map (zv (zr sz ka)))) := by
  obtain ⟨hx, hb, hml, hown, hts, hE, hyn⟩ := X
  have hpre : ∀ U : State, U.heap = H → s.WarmedH U.vm → yzPc cl Ns Zs D cy sz ka g as h (as.map (zv (zr sz ka))).toArray U := fun U hU hW => ⟨rfl, zEnv_at hE hS hU hW, by rw [hU]; exact hP⟩
  have kk2 : ∀ (H2 : Heap) (locs2 : List Loc), va_P D cl (zW cy (zr sz ka) sz h2) H2 → va_S (fun q => sz ≤ q) s.heap H2 locs2 → W p l e R s m args below meth c H2 locs2 (cells + d1) (slots + s1) Q (F0 m (pc + 3) A ((v.map (zv (zr sz ka))).toList ++ rest.map (zv (zr sz ka)))) := by
    intro H2 locs2 hP2 hS2
    have h9 := kk H2 locs2 hP2 hS2
    rw [List.map_append] at h9
    cases v <;> exact h9
  have key : ∀ (n9 y b : Nat), zcall y b st = some (.inr (.inl (y2, as, rest))) → zcm Ts (M y) b R.frames R.locals n9 → y2 = y ∧ as = (st.take (b % 64)).reverse ∧ as.length = b % 64 ∧ st.map (zv (zr sz ka)) = (as.map (zv (zr sz ka))).reverse ++ rest.map (zv (zr sz ka)) ∧ ((rest.map (zv (zr sz ka))).map fun v => v.category).sum ≤ 8 ∧ Met l (M y2).1 (Cond.code (M y2).1 (M y2).2.1 (M y2).2.2.1 (M y2).2.2.2.1 :: Ts) ({ frames := (M y2).2.2.2.2.1, cells := d1, slots := s1, locals := (M y2).2.2.2.2.2 }) (yzPc cl Ns Zs D cy sz ka g as h) (yzQc cl D cy sz ka v h2) d1 s1 (fun q => sz ≤ q) := by
    intro n9 y b hz hm
    obtain ⟨q1, q2, q3, q4, q5, q6⟩ := zcall_inv hz
    obtain ⟨m1, m2, m3, m4, m5, m6⟩ := hm
    subst q1
    refine ⟨rfl, q2, by rw [q2, List.length_reverse, List.length_take]; omega, ?_, ?_, hM (by rw [← m4]; exact q6) m6⟩
    · rw [q2, q3, List.map_reverse, List.reverse_reverse, ← List.map_append, List.take_append_drop]
    · have h9 := zcat_map (zr sz ka) rest
      unfold zcat at h9
      rw [h9, q3]
      exact q5
  cases i
  case invokevirtual k =>
    obtain ⟨ci, n, hK, hlen, hm, hb64, hw1, hw2, hw3, T, N, hcl⟩ := hf
    subst hlen
    have hz : (match K.2.2 with
      | .retAddr ci => zcallV K.1 K.2.1 ci st h
      | _ => none) = some (.inr (.inl (y2, as, rest))) := hz
    rw [hK] at hz
    unfold zcallV at hz
    obtain ⟨hrec, hz⟩ := zb_inv hz
    obtain ⟨q1, q2, q3, q4, q5, q6⟩ := key n _ _ hz hm
    obtain ⟨m1, m2, m3, m4, m5, m6⟩ := hm
    subst q1
    rw [← q2] at hrec
    obtain ⟨r, as2, fs, q7, hat⟩ := zrecv_inv hrec
    subst q7
    have hcw : CallW R s args own (M K.1).1.cls k (M K.1).1 (M K.1).2.1 (M K.1).2.2.1 (M K.1).2.2.2.1 (Cond.code (M K.1).1 (M K.1).2.1 (M K.1).2.2.1 (M K.1).2.2.2.1 :: Ts) ({ frames := (M K.1).2.2.2.2.1, cells := d1, slots := s1, locals := (M K.1).2.2.2.2.2 }) d1 s1 n := ⟨callB_of n hts (zgood hgood m1) rfl rfl rfl (hts _ m2) (hts _ hw1) m3 m5, hts _ hw2, hts _ hw3⟩
    refine W.eq (g2 := F0 m pc A ((as2.map (zv (zr sz ka))).reverse ++ .ref (zr sz ka r) :: rest.map (zv (zr sz ka)))) (by rw [q4]; simp [zv]) ?_
    exact yzafter (va_runV (As := as2.map (zv (zr sz ka))) (rest := rest.map (zv (zr sz ka))) ⟨hx, hb, hml, hown, hts⟩ q6 hcw ⟨yzPc_blind, va_recv hE.1 hP hcl (zW_at hat), hpre⟩ rfl (by rw [List.length_map]; simp at q3; omega) hl.1 rfl (lv_room q5) hd ⟨hc1, hc2⟩) hS kk2
  case invokestatic k =>
    obtain ⟨hlen, hf⟩ := hf
    subst hlen
    have hz : (match K.2.2 with
      | .retAddr _ => zcopy (pc + 3) ls st h
      | .int _ => zcall K.1 K.2.1 st
      | _ => none) = some (.inr (.inl (y2, as, rest))) := hz
    rcases hf with ⟨q, hK, -⟩ | ⟨q, n, hK, hm, hb64, hw1, hw2⟩
    · rw [hK] at hz
      exfalso
      have hz : zcopy (pc + 3) ls st h = some (.inr (.inl (y2, as, rest))) := hz
      unfold zcopy at hz
      split at hz
      · cases hq : (decide (_ < (0 : Int32)) || (decide (_ < (0 : Int32)) || (decide (_ < (0 : Int32)) || !(Nat.ble _ 8)))) <;> rw [hq] at hz
        · dsimp only [cond_false] at hz
          split at hz
          · cases (zb_inv hz).2
          · cases (zb_inv hz).2
          · cases hz
        · cases hz
      · cases hz
    · rw [hK] at hz
      obtain ⟨q1, q2, q3, q4, q5, q6⟩ := key n _ _ hz hm
      obtain ⟨m1, m2, m3, m4, m5, m6⟩ := hm
      subst q1
      refine W.eq (g2 := F0 m pc A ((as.map (zv (zr sz ka))).reverse ++ rest.map (zv (zr sz ka)))) (by rw [q4]) ?_
      rcases hw1 with hw1 | ⟨host, hw1⟩
      · exact yzafter (va_runS (As := as.map (zv (zr sz ka))) (rest := rest.map (zv (zr sz ka))) ⟨hx, hb, hml, hown, hts⟩ q6 ⟨callB_of n hts (zgood hgood m1) rfl rfl rfl (hts _ m2) (hts _ hw1) m3 m5, hts _ hw2⟩ ⟨yzPc_blind, hpre⟩ rfl (by rw [List.length_map]; omega) hl.1 rfl (lv_room q5) hd ⟨hc1, hc2⟩) hS kk2
      · exact yzafter (va_runSN (As := as.map (zv (zr sz ka))) (rest := rest.map (zv (zr sz ka))) ⟨hx, hb, hml, hown, hts⟩ q6 ⟨va_cnB n hts (zgood hgood m1) rfl rfl rfl (hE.2.2.2.2.1 _ _ _ _ hw1) (hts _ m2) m3 m5, hts _ hw2, trivial⟩ ⟨yzPc_blind, hpre⟩ rfl (by rw [List.length_map]; omega) hl.1 rfl (lv_room q5) hd ⟨hc1, hc2⟩) hS kk2
  case invokespecial k =>
    obtain ⟨hlen, hf⟩ := hf
    subst hlen
    have hz : (match K.2.2 with
      | .null => zobji pc ls st h
      | .int _ => zcallI K.1 K.2.1 st
      | _ => none) = some (.inr (.inl (y2, as, rest))) := hz
    rcases hf with ⟨hK, -⟩ | ⟨q, n, hK, hm, hb64, hw1, hw2, hw3, hw4⟩
    · rw [hK] at hz
      exfalso
      have hz : zobji pc ls st h = some (.inr (.inl (y2, as, rest))) := hz
      unfold zobji at hz
      split at hz
      · cases (zb_inv hz).2
      · cases hz
    · rw [hK] at hz
      obtain ⟨r, as2, q7, hz⟩ := zcallI_inv hz
      obtain ⟨q1, q2, q3, q4, q5, q6⟩ := key n _ _ hz hm
      obtain ⟨m1, m2, m3, m4, m5, m6⟩ := hm
      subst q1
      rw [← q2] at q7
      subst q7
      rw [hw4] at q6 m1
      refine W.eq (g2 := F0 m pc A ((as2.map (zv (zr sz ka))).reverse ++ .ref (zr sz ka r) :: rest.map (zv (zr sz ka)))) (by rw [q4]; simp [zv]) ?_
      rcases hw1 with hw1 | ⟨host, hw1⟩
      · exact yzafter (va_runI (As := as2.map (zv (zr sz ka))) (rest := rest.map (zv (zr sz ka))) ⟨hx, hb, hml, hown, hts⟩ q6 ⟨callB_of n hts (zgood hgood m1) rfl rfl rfl (hts _ m2) (hts _ hw1) m3 m5, hw3, hts _ hw2⟩ ⟨yzPc_blind, hpre⟩ rfl (by rw [List.length_map]; simp at q3; omega) hl.1 rfl (lv_room q5) hd ⟨hc1, hc2⟩) hS kk2
      · exact yzafter (va_runIN (As := as2.map (zv (zr sz ka))) (rest := rest.map (zv (zr sz ka))) ⟨hx, hb, hml, hown, hts⟩ q6 ⟨va_cnB n hts (zgood hgood m1) rfl rfl rfl (hE.2.2.2.2.1 _ _ _ _ hw1) (hts _ m2) m3 m5, hw3, hts _ hw2⟩ ⟨yzPc_blind, hpre⟩ rfl (by rw [List.length_map]; simp at q3; omega) hl.1 rfl (lv_room q5) hd ⟨hc1, hc2⟩) hS kk2
  case new => exact nomatch (show (some (.inr (.inr (.inr (pc + 3, st, .inr (.inr (.inr (K.1, F K.1))))))) : Option zA) = some (.inr (.inl _)) from hz)
  case newarray => exact absurd hz (znewa_n _ _ _ _)
  case anewarray => exact absurd hz (zanew_n _ _ _)
  case ireturn => exact absurd hz (zret_n _ _ _)
  case lreturn => exact absurd hz (zlret_n _ _)
  case areturn => exact absurd hz (zaret_n _ _)
  case return_ => exact absurd hz (zvret_n _ _)
  all_goals exact nomatch (show false = true from zins_big hz)
end ZRUN
def yzClaim (cl : List vw_C) (Ts Ns : List Cond) (Zs : zZs) (D : va_G) (cy : Nat → ClassId) (sz : Nat) (ka : Nat → Nat) (g : zCt) (F : zFs) (M : Nat → zMt) (P : zCd) (l : Launch) (n : Nat) : Prop :=
  ∀ (y pc : Nat) (ls : zL) (st : List Value) (h : zH) (dc ds : Nat) (v : Option Value) (h2 : zH) (dcF dsF : Nat), zrun g F P n y pc ls st h dc ds = some (v, h2, dcF, dsF) → dcF = dc →
  ∀ (p : Program) (e : Env) (R : Room) (s : State) (m : MethodId) (args : Array Value) (below : List Frame) (meth : Method) (c : Code) (H : Heap) (locs : List Loc) (A : Array Slot) (Q : State → Prop),
  zCx cl Ts Ns Zs D cy sz ka g (M y).1.cls (M y).1.name (M y).2.1 (M y).2.2.1 p s m args meth c → R.frames = (M y).2.2.2.2.1 → R.locals = (M y).2.2.2.2.2 → dcF ≤ R.cells → dsF ≤ R.slots →
  va_P D cl (zW cy (zr sz ka) sz h) H → va_S (fun q => sz ≤ q) s.heap H locs → lv_has A (M y).2.2.1 (zl (zr sz ka) ls) →
  (∀ (H : Heap) (locs : List Loc) (A : Array Slot) (pc : Nat) (i : Instr) (len : Nat) (K : zK) (tg : List Nat) (ls : zL) (st : List Value), P y pc = some (i, len, K, tg) → zins g F tg i K len pc ls st h2 = some (.inr (.inr (.inl v))) → va_P D cl (zW cy (zr sz ka) sz h2) H → va_S (fun q => sz ≤ q) s.heap H locs → W p l e R s m args below meth c H locs dcF dsF Q (F0 m pc A (st.map (zv (zr sz ka))))) →
  W p l e R s m args below meth c H locs dc ds Q (F0 m pc A (st.map (zv (zr sz ka))))
section ZW
variable {cl : List vw_C} {Ts Ns : List Cond} {Zs : zZs} {D : va_G} {cy : Nat → ClassId} {sz : Nat} {ka : Nat → Nat} {g : zCt} {F : zFs} {zty : Nat → Nat → FieldType} {M : Nat → zMt} {P : zCd} {l : Launch}
set_option maxHeartbeats 4000000 in
theorem yzmet {n : Nat} (OK : zOK cl Ts Ns Zs F zty M P) (C : yzClaim cl Ts Ns Zs D cy sz ka g F M P l n) {y : Nat} {as : List Value} {h : zH} {v : Option Value} {h2 : zH} {d1 s1 : Nat} (hz : zrun g F P n y 0 (lv_args 0 as) [] h 0 0 = some (v, h2, d1, s1)) (hd0 : d1 = 0) (hn : zcat as ≤ (M y).2.2.1) (hpl : plainFor (M y).1 = true) :
    Met l (M y).1 (Cond.code (M y).1 (M y).2.1 (M y).2.2.1 (M y).2.2.2.1 :: Ts) ({ frames := (M y).2.2.2.2.1, cells := d1, slots := s1, locals := (M y).2.2.2.2.2 }) (yzPc cl Ns Zs D cy sz ka g as h) (yzQc cl D cy sz ka v h2) d1 s1 (fun q => sz ≤ q) := by
  refine zMet_ofW (cc := (M y).2.1) (maxL := (M y).2.2.1) (ret := (M y).2.2.2.1) hpl rfl ?_
  intro p e s m args below meth c s₁ B hml hv
  obtain ⟨rfl, hE, hP⟩ := hv
  have hts0 := atoms_spec (ws := Cond.code (M y).1 (M y).2.1 (M y).2.2.1 (M y).2.2.2.1 :: Ts) B.pre
  have hts : ∀ w ∈ Ts, w.before (as.map (zv (zr sz ka))).toArray s = true := fun w hw => hts0 w (List.mem_cons_of_mem _ hw)
  have hown : s.vm.findClass (M y).1.cls = some m.cls := findClass_of_methodNamed B.named
  have hnm : meth.name = (M y).1.name := (name_of_methodNamed B.named B.method).1
  have hl := lv_entry (as.map (zv (zr sz ka))) (n := (M y).2.2.1) (by rw [zsl_len, zcat_map]; exact hn)
  rw [lg_entry_eq]
  generalize (lg_sl (as.map (zv (zr sz ka))) ++ List.replicate ((M y).2.2.1 - (lg_sl (as.map (zv (zr sz ka)))).length) Slot.unset).toArray = A at hl ⊢
  rw [zl_args] at hl
  refine C y 0 (lv_args 0 as) [] h 0 0 v h2 d1 s1 hz hd0 p e _ s m _ below meth c s.heap [] A _ ⟨B.exec, B.bytes, hml, hown, hts, hE, hnm⟩ rfl rfl (Nat.le_refl _) (Nat.le_refl _) hP va_S.rf hl ?_
  intro H locs A pc i len K tg ls st hPc hz2 hP2 hS2
  obtain ⟨hd, -, hcf⟩ := OK.2.2.2 _ _ _ _ _ _ hPc
  exact zret_ok B.exec B.bytes B.returns B.notSynchronized hd hcf hz2 (fun t ht hW => ⟨rfl, by rw [ht]; exact hP2, hS2.F ht⟩) hS2.2.2
set_option maxHeartbeats 4000000 in
theorem yzrun_ok (OK : zOK cl Ts Ns Zs F zty M P) : ∀ n, yzClaim cl Ts Ns Zs D cy sz ka g F M P l n := by
  intro n
  induction n with
  | zero => intro y pc ls st h dc ds v h2 dcF dsF hz; cases hz
  | succ n ih =>
    intro y pc ls st h dc ds v h2 dcF dsF hz hd0 p e R s m args below meth c H locs A Q X hRf hRl hRc hRs hP hS hl hQ
    obtain ⟨hgood, hclok, hheld, hcode⟩ := id OK
    unfold zrun at hz
    split at hz
    · cases hz
    · next i len K tg hPc =>
      obtain ⟨hd, hfa, hcf⟩ := hcode _ _ _ _ _ _ hPc
      rw [← hRf, ← hRl] at hcf
      split at hz
      · cases hz
      · next pc2 ls2 st2 h3 hi =>
        have kk : ∀ (H2 : Heap) (locs2 : List Loc) (A2 : Array Slot), h3.length = h.length → va_P D cl (zW cy (zr sz ka) sz h3) H2 → va_S (fun q => sz ≤ q) s.heap H2 locs2 → lv_has A2 (M y).2.2.1 (zl (zr sz ka) ls2) → W p l e R s m args below meth c H2 locs2 dc ds Q (F0 m pc2 A2 (st2.map (zv (zr sz ka)))) :=
          fun H2 locs2 A2 _ hP2 hS2 hl2 => ih y pc2 ls2 st2 h3 dc ds v h2 dcF dsF hz hd0 p e R s m args below meth c H2 locs2 A2 Q X hRf hRl hRc hRs hP2 hS2 hl2 hQ
        by_cases hv : ∃ k, i = .invokestatic k ∨ i = .invokespecial k ∨ i = .invokevirtual k
        · exact zinv_ok (M := M) X hd hcf hi hv hP hS hl kk
        · have hnb : zbig i = false := by
            cases hbg : zbig i with
            | false => rfl
            | true =>
              exfalso
              cases i
              case invokestatic k => exact hv ⟨k, Or.inl rfl⟩
              case invokespecial k => exact hv ⟨k, Or.inr (Or.inl rfl)⟩
              case invokevirtual k => exact hv ⟨k, Or.inr (Or.inr rfl)⟩
              case new => exact nomatch (show (some (.inr (.inr (.inr (pc + 3, st, .inr (.inr (.inr (K.1, F K.1))))))) : Option zA) = some (.inl _) from hi)
              case newarray =>
                have hi : znewa K.1 pc st = some (.inl (pc2, ls2, st2, h3)) := hi
                unfold znewa at hi
                simp only [Bool.cond_eq_ite] at hi
                (repeat' split at hi) <;> first | (cases hi; done) | (simp at hi; done)
              case anewarray =>
                have hi : zanew pc st = some (.inl (pc2, ls2, st2, h3)) := hi
                unfold zanew at hi
                simp only [Bool.cond_eq_ite] at hi
                (repeat' split at hi) <;> first | (cases hi; done) | (simp at hi; done)
              case ireturn =>
                have hi : zret K.1 st = some (.inl (pc2, ls2, st2, h3)) := hi
                unfold zret at hi
                split at hi
                · cases (zb_inv hi).2
                · cases hi
              case lreturn =>
                have hi : zlret st = some (.inl (pc2, ls2, st2, h3)) := hi
                unfold zlret at hi
                split at hi <;> cases hi
              case areturn =>
                have hi : zaret st = some (.inl (pc2, ls2, st2, h3)) := hi
                unfold zaret at hi
                split at hi <;> cases hi
              case return_ =>
                have hi : zvret st = some (.inl (pc2, ls2, st2, h3)) := hi
                unfold zvret at hi
                split at hi <;> cases hi
              all_goals cases hbg
          exact zstep_ok X hclok hheld hd (hfa hnb) hi (fun k => ⟨fun q => hv ⟨k, Or.inl q⟩, fun q => hv ⟨k, Or.inr (Or.inl q)⟩, fun q => hv ⟨k, Or.inr (Or.inr q)⟩⟩) hP hS hl kk
      · next y2 as rest hi =>
        split at hz
        · cases hz
        · next v1 h3 d1 s1 hz1 =>
          have hm := zrun_mono hz
          refine yzcall_ok (M := M) hgood X hd hcf hi (v := v1) (h2 := h3) (d1 := d1) (s1 := s1) (fun hc hpl => yzmet OK ih hz1 (by omega) hc hpl) (by omega) (by omega) hP hS hl (fun H2 locs2 hP2 hS2 => ?_)
          exact ih y (pc + 3) ls (v1.toList ++ rest) h3 (dc + d1) (ds + s1) v h2 dcF dsF hz (by omega) p e R s m args below meth c H2 locs2 A Q X hRf hRl hRc hRs hP2 hS2 hl hQ
      · next v1 hi =>
        injection hz with hz
        injection hz with h1 hz
        injection hz with h3 hz
        injection hz with h4 h5
        subst h1 h3 h4 h5
        exact hQ H locs A pc i len K tg ls st hPc hi hP hS
      · next pc2 rest e9 hi =>
        have hm := zrun_mono hz
        exact absurd hm.1 (by omega)
end ZW
theorem zcf_mono {cl : List vw_C} {Ts Ns : List Cond} {M : Nat → zMt} {own : String} {ret : Option FieldType} {fr lo fr2 lo2 : Nat} {i : Instr} {K : zK} {len : Nat} (h : zcf cl Ts Ns M own ret fr lo i K len) (h1 : fr ≤ fr2) (h2 : lo ≤ lo2) : zcf cl Ts Ns M own ret fr2 lo2 i K len := by
  have hm : ∀ {Y : zMt} {b n : Nat}, zcm Ts Y b fr lo n → zcm Ts Y b fr2 lo2 n := fun ⟨a, b, c, d, ⟨e, f⟩, g⟩ => ⟨a, b, c, d, ⟨Nat.le_trans e h1, Nat.le_trans f h2⟩, g⟩
  cases i
  case invokevirtual k =>
    obtain ⟨ci, n, a, b, c, d⟩ := h
    exact ⟨ci, n, a, b, hm c, d⟩
  case invokestatic k =>
    obtain ⟨a, h⟩ := h
    refine ⟨a, ?_⟩
    rcases h with ⟨q, b1, b2, b3, b4, b5, b6, b7⟩ | ⟨q, n, b1, b2, b3⟩
    · exact Or.inl ⟨q, b1, b2, b3, b4, b5, Nat.le_trans b6 h1, Nat.le_trans b7 h2⟩
    · exact Or.inr ⟨q, n, b1, hm b2, b3⟩
  case invokespecial k =>
    obtain ⟨a, h⟩ := h
    refine ⟨a, ?_⟩
    rcases h with ⟨b1, b2, b3, b4, b5, b6⟩ | ⟨q, n, b1, b2, b3⟩
    · exact Or.inl ⟨b1, b2, b3, b4, Nat.le_trans b5 h1, Nat.le_trans b6 h2⟩
    · exact Or.inr ⟨q, n, b1, hm b2, b3⟩
  all_goals exact h
section ZG
variable {cl : List vw_C} {Ts Ns : List Cond} {Zs : zZs} {D : va_G} {cy : Nat → ClassId} {sz : Nat} {ka : Nat → Nat} {g : zCt} {F : zFs} {zty : Nat → Nat → FieldType} {M : Nat → zMt} {P : zCd} {l : Launch}
set_option maxHeartbeats 4000000 in
/-- the machine's walk over one instruction -/
theorem xone_ok (OK : zOK cl Ts Ns Zs F zty M P) {f y : Nat} {p : Program} {e : Env} {R : Room} {s : State} {m : MethodId} {args : Array Value} {below : List Frame} {meth : Method} {c : Code} {H : Heap} {locs : List Loc} {A : Array Slot} {Q : State → Prop} {s1 s2 : zS6} (hz : zone g F P f y s1 = some s2)
    (X : zCx cl Ts Ns Zs D cy sz ka g (M y).1.cls (M y).1.name (M y).2.1 (M y).2.2.1 p s m args meth c) (hRf : (M y).2.2.2.2.1 ≤ R.frames) (hRl : (M y).2.2.2.2.2 ≤ R.locals) (hRc : s2.2.2.2.2.1 ≤ R.cells) (hRs : s2.2.2.2.2.2 ≤ R.slots)
    (hP : va_P D cl (zW cy (zr sz ka) sz s1.2.2.2.1) H) (hS : va_S (fun q => sz ≤ q) s.heap H locs) (hl : lv_has A (M y).2.2.1 (zl (zr sz ka) s1.2.1)) (hn : sz + s1.2.2.2.1.length = s.heap.size + s1.2.2.2.2.1)
    (kk : ∀ (H2 : Heap) (locs2 : List Loc) (A2 : Array Slot), va_P D cl (zW cy (zr sz ka) sz s2.2.2.2.1) H2 → va_S (fun q => sz ≤ q) s.heap H2 locs2 → lv_has A2 (M y).2.2.1 (zl (zr sz ka) s2.2.1) → sz + s2.2.2.2.1.length = s.heap.size + s2.2.2.2.2.1 → W p l e R s m args below meth c H2 locs2 s2.2.2.2.2.1 s2.2.2.2.2.2 Q (F0 m s2.1 A2 (s2.2.2.1.map (zv (zr sz ka))))) :
    W p l e R s m args below meth c H locs s1.2.2.2.2.1 s1.2.2.2.2.2 Q (F0 m s1.1 A (s1.2.2.1.map (zv (zr sz ka)))) := by
  obtain ⟨hgood, hclok, hheld, hcode⟩ := id OK
  unfold zone at hz
  split at hz
  · cases hz
  · next i len K tg hPc =>
    obtain ⟨hd, hfa, hcf⟩ := hcode _ _ _ _ _ _ hPc
    replace hcf := zcf_mono hcf hRf hRl
    split at hz
    · cases hz
    · next pc2 ls2 st2 h3 hi =>
      cases hz
      by_cases hv : ∃ k, i = .invokestatic k ∨ i = .invokespecial k ∨ i = .invokevirtual k
      · exact zinv_ok (M := M) X hd hcf hi hv hP hS hl (fun H2 locs2 A2 hlen hP2 hS2 hl2 => kk H2 locs2 A2 hP2 hS2 hl2 (by show sz + h3.length = _; rw [hlen]; exact hn))
      · have hnb : zbig i = false := by
          cases hbg : zbig i with
          | false => rfl
          | true =>
            exfalso
            cases i
            case invokestatic k => exact hv ⟨k, Or.inl rfl⟩
            case invokespecial k => exact hv ⟨k, Or.inr (Or.inl rfl)⟩
            case invokevirtual k => exact hv ⟨k, Or.inr (Or.inr rfl)⟩
            case new => exact nomatch (show (some (.inr (.inr (.inr (s1.1 + 3, s1.2.2.1, .inr (.inr (.inr (K.1, F K.1))))))) : Option zA) = some (.inl _) from hi)
            case newarray =>
              have hi : znewa K.1 s1.1 s1.2.2.1 = some (.inl (pc2, ls2, st2, h3)) := hi
              unfold znewa at hi
              simp only [Bool.cond_eq_ite] at hi
              (repeat' split at hi) <;> first | (cases hi; done) | (simp at hi; done)
            case anewarray =>
              have hi : zanew s1.1 s1.2.2.1 = some (.inl (pc2, ls2, st2, h3)) := hi
              unfold zanew at hi
              simp only [Bool.cond_eq_ite] at hi
              (repeat' split at hi) <;> first | (cases hi; done) | (simp at hi; done)
            case ireturn =>
              have hi : zret K.1 s1.2.2.1 = some (.inl (pc2, ls2, st2, h3)) := hi
              unfold zret at hi
              split at hi
              · cases (zb_inv hi).2
              · cases hi
            case lreturn =>
              have hi : zlret s1.2.2.1 = some (.inl (pc2, ls2, st2, h3)) := hi
              unfold zlret at hi
              split at hi <;> cases hi
            case areturn =>
              have hi : zaret s1.2.2.1 = some (.inl (pc2, ls2, st2, h3)) := hi
              unfold zaret at hi
              split at hi <;> cases hi
            case return_ =>
              have hi : zvret s1.2.2.1 = some (.inl (pc2, ls2, st2, h3)) := hi
              unfold zvret at hi
              split at hi <;> cases hi
            all_goals cases hbg
        exact zstep_ok X hclok hheld hd (hfa hnb) hi (fun k => ⟨fun q => hv ⟨k, Or.inl q⟩, fun q => hv ⟨k, Or.inr (Or.inl q)⟩, fun q => hv ⟨k, Or.inr (Or.inr q)⟩⟩) hP hS hl (fun H2 locs2 A2 hlen hP2 hS2 hl2 => kk H2 locs2 A2 hP2 hS2 hl2 (by show sz + h3.length = _; rw [hlen]; exact hn))
    · next y2 as rest hi =>
      split at hz
      · cases hz
      · next v1 h3 d1 e1 hz1 =>
        cases hz
        exact zcall_ok (M := M) hgood X hd hcf hi (v := v1) (h2 := h3) (d1 := d1) (s1 := e1) (fun hc hpl => zmet OK (zrun_ok OK f) hz1 hc hpl) hRc hRs hP hS hl hn (fun H2 locs2 hP2 hS2 hn2 => kk H2 locs2 A hP2 hS2 hl hn2)
    · cases hz
    · next pc2 rest e9 hi =>
      cases hz
      exact zalloc_ok (M := M) X hclok hd hcf hi hRc hRs hP hS hn (fun H2 hP2 hS2 => kk H2 locs A hP2 hS2 hl (by show sz + (s1.2.2.2.1 ++ [e9]).length = _; rw [List.length_append]; simp only [List.length_cons, List.length_nil]; omega))
end ZG
theorem zone_mono {g : zCt} {F : zFs} {P : zCd} {f y : Nat} {s s2 : zS6} (h : zone g F P f y s = some s2) : s.2.2.2.2.1 ≤ s2.2.2.2.2.1 ∧ s.2.2.2.2.2 ≤ s2.2.2.2.2.2 := by
  unfold zone at h
  split at h
  · cases h
  · split at h
    · cases h
    · cases h
      exact ⟨Nat.le_refl _, Nat.le_refl _⟩
    · split at h
      · cases h
      · cases h
        exact ⟨Nat.le_add_right _ _, Nat.le_add_right _ _⟩
    · cases h
    · cases h
      exact ⟨Nat.le_add_right _ _, Nat.le_add_right _ _⟩
theorem zgo_mono {g : zCt} {F : zFs} {P : zCd} {f y : Nat} : ∀ (n : Nat) {s s2 : zS6}, zgo g F P f y n s = some s2 → s.2.2.2.2.1 ≤ s2.2.2.2.2.1 ∧ s.2.2.2.2.2 ≤ s2.2.2.2.2.2
  | 0, s, s2, h => by
    unfold zgo at h
    cases h
    exact ⟨Nat.le_refl _, Nat.le_refl _⟩
  | n + 1, s, s2, h => by
    unfold zgo at h
    split at h
    · cases h
    · next s3 h3 =>
      have a := zone_mono h3
      have b := zgo_mono n h
      exact ⟨Nat.le_trans a.1 b.1, Nat.le_trans a.2 b.2⟩
section ZGO
variable {cl : List vw_C} {Ts Ns : List Cond} {Zs : zZs} {D : va_G} {cy : Nat → ClassId} {sz : Nat} {ka : Nat → Nat} {g : zCt} {F : zFs} {zty : Nat → Nat → FieldType} {M : Nat → zMt} {P : zCd} {l : Launch}
/-- the machine's walk over some instructions -/
theorem zgo_ok (OK : zOK cl Ts Ns Zs F zty M P) {f y : Nat} {p : Program} {e : Env} {R : Room} {s : State} {m : MethodId} {args : Array Value} {below : List Frame} {meth : Method} {c : Code} {Q : State → Prop}
    (X : zCx cl Ts Ns Zs D cy sz ka g (M y).1.cls (M y).1.name (M y).2.1 (M y).2.2.1 p s m args meth c) (hRf : (M y).2.2.2.2.1 ≤ R.frames) (hRl : (M y).2.2.2.2.2 ≤ R.locals) {s2 : zS6} (hRc : s2.2.2.2.2.1 ≤ R.cells) (hRs : s2.2.2.2.2.2 ≤ R.slots)
    (kk : ∀ (H2 : Heap) (locs2 : List Loc) (A2 : Array Slot), va_P D cl (zW cy (zr sz ka) sz s2.2.2.2.1) H2 → va_S (fun q => sz ≤ q) s.heap H2 locs2 → lv_has A2 (M y).2.2.1 (zl (zr sz ka) s2.2.1) → sz + s2.2.2.2.1.length = s.heap.size + s2.2.2.2.2.1 → W p l e R s m args below meth c H2 locs2 s2.2.2.2.2.1 s2.2.2.2.2.2 Q (F0 m s2.1 A2 (s2.2.2.1.map (zv (zr sz ka))))) :
    ∀ (n : Nat) {s1 : zS6} {H : Heap} {locs : List Loc} {A : Array Slot}, zgo g F P f y n s1 = some s2 → va_P D cl (zW cy (zr sz ka) sz s1.2.2.2.1) H → va_S (fun q => sz ≤ q) s.heap H locs → lv_has A (M y).2.2.1 (zl (zr sz ka) s1.2.1) → sz + s1.2.2.2.1.length = s.heap.size + s1.2.2.2.2.1 →
      W p l e R s m args below meth c H locs s1.2.2.2.2.1 s1.2.2.2.2.2 Q (F0 m s1.1 A (s1.2.2.1.map (zv (zr sz ka))))
  | 0, s1, H, locs, A, hz, hP, hS, hl, hn => by
    unfold zgo at hz
    cases hz
    exact kk H locs A hP hS hl hn
  | n + 1, s1, H, locs, A, hz, hP, hS, hl, hn => by
    unfold zgo at hz
    split at hz
    · cases hz
    · next s3 h3 =>
      have b := zgo_mono n hz
      exact xone_ok OK h3 X hRf hRl (Nat.le_trans b.1 hRc) (Nat.le_trans b.2 hRs) hP hS hl hn (fun H2 locs2 A2 hP2 hS2 hl2 hn2 => zgo_ok OK X hRf hRl hRc hRs kk n hz hP2 hS2 hl2 hn2)
end ZGO
