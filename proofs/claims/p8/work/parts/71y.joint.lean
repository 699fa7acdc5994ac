/-! joint as the law calls it: thrown and caught, or answered. -/
noncomputable abbrev q4y : MethodName := ⟨"SixJointsLaw", "joint", "(LSixJoints;II[J)I"⟩
noncomputable abbrev q4h : List (Nat × Nat × Nat × Nat) := [(0, 10, 13, 13), (0, 10, 17, 15)]
noncomputable abbrev q4c : Cond := Cond.codeWith q4y method_3_code 5 (some .int) q4h
noncomputable def q4ws : List Cond := [.classLink "SixJoints" 148 q4I, .initialized q4I, .classLink "SixJoints" 170 q4N, .initialized q4N, .methodLink "SixJointsLaw" 7 (zM 105).1, .instanceMethod (zM 105).1, .selects "SixJoints" (zM 105).1 (zM 105).1, .initialized "SixJoints", .code (zM 105).1 (zM 105).2.1 (zM 105).2.2.1 (zM 105).2.2.2.1, .classLink "SixJointsLaw" 13 q4I, .classLink "SixJointsLaw" 15 q4N, .methodLink "SixJointsLaw" 39 q4y, .static q4y, .initialized "SixJointsLaw", q4c]
set_option maxRecDepth 100000 in
theorem q4w : ∀ w ∈ q4ws, w ∈ lw_tbl := by decide +kernel
theorem q4g : ∀ w ∈ q4ws, goodWord w = true := by decide +kernel
theorem q4m {w : Cond} (i : Nat) (h : q4ws[i]? = some w) : w ∈ zTs := List.mem_filter.mpr ⟨q4w w (List.mem_of_getElem? h), q4g w (List.mem_of_getElem? h)⟩
noncomputable abbrev q4k7 : ByteArray := ⟨#[0x2a, 0x2b, 0xb7, 0x00, 0x07, 0xb1]⟩
noncomputable abbrev q4k : ByteArray := ⟨#[0x2a, 0x2b, 0xb7, 0x00, 0x0d, 0xb1]⟩
noncomputable abbrev q4R : String := "java/lang/RuntimeException"
set_option maxRecDepth 1000000 in
theorem q4x0 : ∀ w ∈ (q4at "SixJoints" 152 q4I q4R 7 q4k7 ["java/lang/Exception"]).filter goodWord, w ∈ lw_tbl := by decide +kernel
set_option maxRecDepth 100000 in
theorem q4x1 : ∀ w ∈ (q4at "SixJoints" 174 q4N q4R 13 q4k ["java/lang/Exception"]).filter goodWord, w ∈ lw_tbl := by decide +kernel
theorem q4z0 {w : Cond} (h : w ∈ (q4at "SixJoints" 152 q4I q4R 7 q4k7 ["java/lang/Exception"]).filter goodWord) : w ∈ zTs := List.mem_filter.mpr ⟨q4x0 w h, (List.mem_filter.mp h).2⟩
theorem q4z1 {w : Cond} (h : w ∈ (q4at "SixJoints" 174 q4N q4R 13 q4k ["java/lang/Exception"]).filter goodWord) : w ∈ zTs := List.mem_filter.mpr ⟨q4x1 w h, (List.mem_filter.mp h).2⟩
noncomputable abbrev q4B (X : String) : List Cond := [.castable X X, .declares (Bundle.initS "java/lang/RuntimeException"), .declares (Bundle.initS "java/lang/Exception"), .declares (Bundle.initS Bundle.tN)]
theorem q4b0 : ∀ w ∈ (q4at "SixJoints" 152 q4I q4R 7 q4k7 ["java/lang/Exception"]).filter (fun w => !goodWord w), w ∈ q4B q4I := by decide +kernel
theorem q4b1 : ∀ w ∈ (q4at "SixJoints" 174 q4N q4R 13 q4k ["java/lang/Exception"]).filter (fun w => !goodWord w), w ∈ q4B q4N := by decide +kernel
theorem q4o0 : ∀ w ∈ Cond.classLink "SixJoints" 148 q4I :: Cond.initialized q4I :: q4at "SixJoints" 152 q4I q4R 7 q4k7 ["java/lang/Exception"], vx_ot w = true := by decide +kernel
theorem q4o1 : ∀ w ∈ Cond.classLink "SixJoints" 170 q4N :: Cond.initialized q4N :: q4at "SixJoints" 174 q4N q4R 13 q4k ["java/lang/Exception"], vx_ot w = true := by decide +kernel
theorem va_P_snoc {D : va_G} {cl : List vw_C} {ws : va_W} {q : Nat × va_E} {H : Heap} (h1 : va_P D cl ws H) (h2 : va_at D cl q H) : va_P D cl (ws ++ [q]) H := by
  intro k r hk
  by_cases hlt : k < ws.length
  · rw [List.getElem?_append_left hlt] at hk
    exact h1 k r hk
  · rw [List.getElem?_append_right (by omega)] at hk
    cases hq : k - ws.length with
    | zero => rw [hq] at hk; cases hk; exact h2
    | succ n => rw [hq] at hk; cases hk
/-- where E was thrown: the cells of the picture as they were, its own cell behind them -/
noncomputable abbrev q4X (D : va_G) (cy : Nat → ClassId) (sz : Nat) (ka : Nat → Nat) (h : zH) (ci : Nat) (E : String) : String → State → State → Prop := vx_X (fun _ : Unit => True) (fun E2 _ t => E2 = E ∧ va_P D zcl (zW cy (zr sz ka) sz h) t.heap ∧ ∃ ce : Cell, t.heap[sz + h.length]? = some ce ∧ ce.vm = .none ∧ ce.cls = D.1 ci) (fun q => sz ≤ q)
noncomputable abbrev q4Qn (sz : Nat) : Array Value → State → Outcome → State → Prop := va_Qi (fun (_ : Int32) (_ : Unit) => False) (fun _ _ => True) (fun q => sz ≤ q)
set_option maxHeartbeats 4000000 in
theorem q4_j {l : Launch} (hlt : l.stackTraces = false) {D : va_G} {cy : Nat → ClassId} {sz : Nat} {ka : Nat → Nat} {g : zCt} {as : List Value} {h : zH} {n f pcT ci : Nat} {ls2 : zL} {E : String} (C : zClaim zcl zTs lw_tbl zZs0 D cy sz ka g zF zM zP l f) (hn : zcat as ≤ 3) (hz : zgo g zF zP f 105 n (0, lv_args 0 as, [], h, 0, 0) = some (pcT, ls2, [], h, 0, 0)) (hE2 : (E = q4I ∧ pcT = 7 ∧ ci = 11) ∨ (E = q4N ∧ pcT = 87 ∧ ci = 12)) :
    vx_Met l (zM 105).1 (Cond.code (zM 105).1 (zM 105).2.1 (zM 105).2.2.1 (zM 105).2.2.2.1 :: zTs) ({ frames := 8, cells := 1, slots := 6, locals := 200 }) (zPc zcl lw_tbl zZs0 D cy sz ka g as h) (q4Qn sz) (q4X D cy sz ka h ci E) 1 6 (fun q => sz ≤ q) := by
  refine vx_ofW (cc := (zM 105).2.1) (maxL := (zM 105).2.2.1) (ret := (zM 105).2.2.2.1) (by decide) rfl ?_
  intro p e s m args below meth c s₁ B hml htab hv
  obtain ⟨rfl, hE, hP, hsz⟩ := hv
  have hQ := hE.2.2.2.2.2.2.1.2.2.2.2
  have hsz0 := hE.2.2.2.2.2.2.2
  have hts0 := atoms_spec (ws := Cond.code (zM 105).1 (zM 105).2.1 (zM 105).2.2.1 (zM 105).2.2.2.1 :: zTs) B.pre
  have hts : ∀ w ∈ zTs, w.before (as.map (zv (zr sz ka))).toArray s = true := fun w hw => hts0 w (List.mem_cons_of_mem _ hw)
  have hown : s.vm.findClass (zM 105).1.cls = some m.cls := findClass_of_methodNamed B.named
  have hnm : meth.name = (zM 105).1.name := (name_of_methodNamed B.named B.method).1
  have hl := lv_entry (as.map (zv (zr sz ka))) (n := (zM 105).2.2.1) (by rw [zsl_len, zcat_map]; exact hn)
  rw [lg_entry_eq]
  generalize (lg_sl (as.map (zv (zr sz ka))) ++ List.replicate ((zM 105).2.2.1 - (lg_sl (as.map (zv (zr sz ka)))).length) Slot.unset).toArray = A at hl ⊢
  rw [zl_args] at hl
  refine zgo_ok zOK0 C (s2 := (pcT, ls2, [], h, 0, 0)) ⟨B.exec, B.bytes, hml, hown, hts, hE, hnm⟩ (by decide) (by decide) (Nat.zero_le _) (Nat.zero_le _) ?_ n hz hP va_S.rf hl hsz.symm
  intro H2 locs2 A2 hP2 hS2 hl2 hn2
  obtain ⟨e1, e2, e3, e4, e5, e6, e7, e8, e9, e10⟩ := id hQ
  refine zW_bound (fun hbd => ?_)
  have hsz2 : H2.size = sz + h.length := zsize hP2 hS2 hsz0 hbd hn2
  have hx : ∀ (t : State) (H1 : Heap) (ce : Cell), t.heap = H1 → H2.size ≤ H1.size → (∀ q : Nat, q < H2.size → H1[q]? = H2[q]?) → H1[H2.size]? = some ce → ce.vm = .none → s.vm.findClass E = some ce.cls → q4X D cy sz ka h ci E E s t := by
    intro t H1 ce ht k1 k2 k3 k4 k5
    have hcl : s.vm.findClass E = some (D.1 ci) := by
      rcases hE2 with ⟨rfl, -, rfl⟩ | ⟨rfl, -, rfl⟩
      · exact (hE.1.1 11 _ rfl).2.1
      · exact (hE.1.1 12 _ rfl).2.1
    refine ⟨(), trivial, ⟨rfl, ?_, ce, ?_, k4, Option.some.inj (k5.symm.trans hcl)⟩, ?_, fun q hq hA => ?_⟩
    · rw [ht]
      exact hP2.kept (fun k q hk => k2 q.1 (vx_lt hP2 hk))
    · rw [ht, ← hsz2]
      exact k3
    · rw [ht]
      exact Nat.le_trans hS2.1 k1
    · rw [ht, k2 q (Nat.lt_of_lt_of_le hq hS2.1)]
      exact hS2.2.1 q hq hA
  rcases hE2 with ⟨rfl, rfl, -⟩ | ⟨rfl, rfl, -⟩
  · show W p l e _ s m _ below meth c H2 locs2 0 0 _ (F0 m 7 A2 [])
    refine q4_make (cc := (zM 105).2.1) (own := "SixJoints") (cls := q4I) (text := "no such joint") (Y9 := q4R) (names := ["java/lang/Exception"]) (ik := 148) (is := 150) (ic := 152) (sa := (ka 9)) (ix := 7) (by9 := q4k7) B.exec B.bytes hlt hown (by decide) (by decide) (by decide +kernel) (by decide +kernel) (by decide +kernel) (by decide +kernel) (by decide) (hts _ (q4m 0 rfl)) (hts _ (q4m 1 rfl)) e1
      (vx_hat (fun w hw => hts _ (q4z0 hw)) q4b0 (vx_c (va_Nw.use rfl e5) (vx_c (va_Nw.use rfl e7) (vx_c (va_Nw.use rfl e8) (vx_c (va_Nw.use rfl e9) vx_n))))) q4o0 e3 e4 hS2 (hl2.1.trans hml.symm) (by decide +kernel) (by decide +kernel) (by decide +kernel) (by decide +kernel) (by decide) (by decide) (by decide) (by decide) (fun H1 ce k1 k2 k3 k4 k5 => ?_)
    refine vx_athrow (cc := (zM 105).2.1) B.exec B.bytes (by decide +kernel) ?_
    exact vx_out (fun x hx9 => (htab x hx9).elim) B.notSynchronized k3 k4 k5 (fun t ht _ => hx t H1 ce ht k1 k2 k3 k4 k5) hS2.2.2 (by decide) (by decide)
  · show W p l e _ s m _ below meth c H2 locs2 0 0 _ (F0 m 87 A2 [])
    refine q4_make (cc := (zM 105).2.1) (own := "SixJoints") (cls := q4N) (text := "no such what") (Y9 := q4R) (names := ["java/lang/Exception"]) (ik := 170) (is := 172) (ic := 174) (sa := (ka 10)) (ix := 13) (by9 := q4k) B.exec B.bytes hlt hown (by decide) (by decide) (by decide +kernel) (by decide +kernel) (by decide +kernel) (by decide +kernel) (by decide) (hts _ (q4m 2 rfl)) (hts _ (q4m 3 rfl)) e2
      (vx_hat (fun w hw => hts _ (q4z1 hw)) q4b1 (vx_c (va_Nw.use rfl e6) (vx_c (va_Nw.use rfl e7) (vx_c (va_Nw.use rfl e8) (vx_c (va_Nw.use rfl e9) vx_n))))) q4o1 e3 e4 hS2 (hl2.1.trans hml.symm) (by decide +kernel) (by decide +kernel) (by decide +kernel) (by decide +kernel) (by decide) (by decide) (by decide) (by decide) (fun H1 ce k1 k2 k3 k4 k5 => ?_)
    refine vx_athrow (cc := (zM 105).2.1) B.exec B.bytes (by decide +kernel) ?_
    exact vx_out (fun x hx9 => (htab x hx9).elim) B.notSynchronized k3 k4 k5 (fun t ht _ => hx t H1 ce ht k1 k2 k3 k4 k5) hS2.2.2 (by decide) (by decide)
/-! the law's joint -/
theorem q4_ofWH {l : Launch} {y : MethodName} {ws ws' : List Cond} {rm : Room} {Pc : Array Value → State → Prop} {Qc : Array Value → State → Outcome → State → Prop} {mc ms : Nat} {free : Addr → Prop} {cc : ByteArray} {maxL : Nat} {ret : Option FieldType} {hh : List (Nat × Nat × Nat × Nat)}
    (hy : plainName y.cls = true) (hw : ws = Cond.codeWith y cc maxL ret hh :: ws')
    (body : ∀ p e s m args below meth c s₁, BodyLoose p l y (headSpec ws rm) cc maxL ret e s m args below meth c s₁ → c.maxLocals = maxL → Pc args s →
      W p l e (headSpec ws rm).room s m args below meth c s.heap [] 0 0 (MQ below Qc args s mc ms free) (entryFrame m args maxL)) : Met l y ws rm Pc Qc mc ms free := by
  refine MetFree.of_bodyS (code := cc) (maxLocals := maxL) (ret := ret) hy ?_ ?_
  · intro args s m h hn
    obtain ⟨m9, meth, c, hn9, h1, h2, h3, h4, -, h5, h6, -⟩ := Cond.codeWith_spec (atoms_spec (ws := ws) h _ (by rw [hw]; exact List.mem_cons_self))
    cases hn.symm.trans hn9
    exact ⟨meth, c, h1, h2, h3, h4, h5, h6⟩
  · intro p e s m args below meth c s₁ B hml hP _
    have hh0 : s₁.heap = s.heap := by rw [B.state]; rfl
    obtain ⟨t, a1, o, b1, b2, b3⟩ := body p e s m args below meth c s₁ B hml hP s₁ hh0 (Stand.of_body B)
    exact ⟨t, o, a1, b1, b2, ⟨b3.1, b3.2⟩⟩
noncomputable abbrev q4as (j w : Int32) : List Value := [.ref 0, .int j, .int w, .ref 232]
theorem q4d0 : decode method_3_code 0 = .ok (.aload_n 3, 1) := by decide +kernel
theorem q4d1 : decode method_3_code 1 = .ok (.iconst 0, 1) := by decide +kernel
theorem q4d2 : decode method_3_code 2 = .ok (.aload_n 0, 1) := by decide +kernel
theorem q4d3 : decode method_3_code 3 = .ok (.iload_n 1, 1) := by decide +kernel
theorem q4d4 : decode method_3_code 4 = .ok (.iload_n 2, 1) := by decide +kernel
theorem q4d5 : decode method_3_code 5 = .ok (.invokevirtual 7, 3) := by decide +kernel
theorem q4d8 : decode method_3_code 8 = .ok (.i2l, 1) := by decide +kernel
theorem q4d9 : decode method_3_code 9 = .ok (.lastore, 1) := by decide +kernel
theorem q4d10 : decode method_3_code 10 = .ok (.goto 11, 3) := by decide +kernel
theorem q4d13 : decode method_3_code 13 = .ok (.astore 4, 2) := by decide +kernel
theorem q4d15 : decode method_3_code 15 = .ok (.iconst 1, 1) := by decide +kernel
theorem q4d16 : decode method_3_code 16 = .ok (.ireturn, 1) := by decide +kernel
theorem q4d17 : decode method_3_code 17 = .ok (.astore 4, 2) := by decide +kernel
theorem q4d19 : decode method_3_code 19 = .ok (.iconst 2, 1) := by decide +kernel
theorem q4d20 : decode method_3_code 20 = .ok (.ireturn, 1) := by decide +kernel
theorem q4d21 : decode method_3_code 21 = .ok (.iconst 0, 1) := by decide +kernel
theorem q4d22 : decode method_3_code 22 = .ok (.ireturn, 1) := by decide +kernel
theorem q4cw {R : Room} {s : State} {args : Array Value} {d1 s1 fr lo : Nat} (hts : ∀ w ∈ zTs, w.before args s = true) (hf : fr + 1 ≤ R.frames) (hlo : 8 + (3 + 11) + lo ≤ R.locals) : CallW R s args "SixJointsLaw" "SixJoints" 7 (zM 105).1 (zM 105).2.1 (zM 105).2.2.1 (zM 105).2.2.2.1 (Cond.code (zM 105).1 (zM 105).2.1 (zM 105).2.2.1 (zM 105).2.2.2.1 :: zTs) ({ frames := fr, cells := d1, slots := s1, locals := lo }) d1 s1 2 :=
  ⟨callB_of 2 hts (zgood zOK0.1 (q4m 8 rfl)) rfl rfl rfl (hts _ (q4m 7 rfl)) (hts _ (q4m 4 rfl)) ⟨by decide, by decide, by decide +kernel⟩ ⟨hf, hlo⟩, hts _ (q4m 5 rfl), hts _ (q4m 6 rfl)⟩
set_option maxHeartbeats 4000000 in
/-- it was thrown and caught -/
theorem q4_t {l : Launch} (hlt : l.stackTraces = false) {D : va_G} {cy : Nat → ClassId} {sz : Nat} {ka : Nat → Nat} {g : zCt} {j w r : Int32} {h : zH} {n f pcT ci : Nat} {ls2 : zL} {E : String} {fs : List Value} (C : zClaim zcl zTs lw_tbl zZs0 D cy sz ka g zF zM zP l f) (hat : zat h 0 = some (.inr (.inr (.inr (9, fs))))) (hz : zgo g zF zP f 105 n (0, lv_args 0 [.ref 0, .int j, .int w], [], h, 0, 0) = some (pcT, ls2, [], h, 0, 0)) (hE2 : (E = q4I ∧ pcT = 7 ∧ r = 1 ∧ ci = 11) ∨ (E = q4N ∧ pcT = 87 ∧ r = 2 ∧ ci = 12)) :
    Met l q4y (q4c :: zTs) ({ frames := 10, cells := 1, slots := 6, locals := 300 }) (zPc zcl lw_tbl zZs0 D cy sz ka g (q4as j w) h) (zQc zcl D cy sz ka (some (.int r)) (h ++ [.inr (.inr (.inr (ci, [])))]) 1) 1 6 (fun q => sz ≤ q) := by
  have hM := q4_j hlt (D := D) (cy := cy) (sz := sz) (ka := ka) (g := g) (ci := ci) C (Nat.le_of_ble_eq_true rfl) hz (E := E) (hE2.elim (fun q => Or.inl ⟨q.1, q.2.1, q.2.2.2⟩) (fun q => Or.inr ⟨q.1, q.2.1, q.2.2.2⟩))
  refine q4_ofWH (cc := method_3_code) (maxL := 5) (ret := some .int) (hh := q4h) (by decide) rfl ?_
  intro p e s m args below meth c s₁ B hml hv
  obtain ⟨rfl, hE, hP, hsz⟩ := hv
  have hQ := hE.2.2.2.2.2.2.1.2.2.2.2
  have hts0 := atoms_spec (ws := q4c :: zTs) B.pre
  have hts : ∀ w9 ∈ zTs, w9.before ((q4as j w).map (zv (zr sz ka))).toArray s = true := fun w9 hw => hts0 w9 (List.mem_cons_of_mem _ hw)
  have hown : s.vm.findClass "SixJointsLaw" = some m.cls := findClass_of_methodNamed B.named
  have htab : c.exceptionTable.toList = tableOf q4h := vx_table (x := q4y) B (hts0 _ List.mem_cons_self)
  have hl := lv_entry ((q4as j w).map (zv (zr sz ka))) (n := 5) (by rw [zsl_len, zcat_map]; exact Nat.le_of_ble_eq_true rfl)
  rw [lg_entry_eq]
  generalize (lg_sl ((q4as j w).map (zv (zr sz ka))) ++ List.replicate (5 - (lg_sl ((q4as j w).map (zv (zr sz ka)))).length) Slot.unset).toArray = A at hl ⊢
  rw [zl_args] at hl
  refine lv_aload_n B.exec B.bytes q4d0 rfl (zl_at hl (i := 3) (v := .ref 232) rfl) ?_
  refine lv_iconst B.exec B.bytes q4d1 rfl ?_
  refine lv_aload_n B.exec B.bytes q4d2 rfl (zl_at hl (i := 0) (v := .ref 0) rfl) ?_
  refine lv_iload_n B.exec B.bytes q4d3 rfl (zl_at hl (i := 1) (v := .int j) rfl) ?_
  refine lv_iload_n B.exec B.bytes q4d4 rfl (zl_at hl (i := 2) (v := .int w) rfl) ?_
  refine vx_calli (vx_runV (C := "SixJoints") (b := zr sz ka 0) (As := [.int j, .int w]) (rest := [.int 0, .ref (zr sz ka 232)]) ⟨B.exec, B.bytes, hml, hown, hts⟩ hM (q4cw hts (by decide) (by decide)) ⟨zPc_blind, va_recv hE.1 hP (ci := 9) rfl (zW_at hat), fun U hU hW => ⟨rfl, zEnv_at hE va_S.rf hU hW, by rw [hU]; exact hP, by rw [hU]; exact hsz⟩⟩ rfl rfl hl.1 rfl (lv_room (Nat.le_of_ble_eq_true rfl)) q4d5 ⟨by decide, by decide⟩) (A0 := fun q => sz ≤ q) va_S.rf (fun _ _ k => k) (fun _ k => k) (fun _ _ k => k) ?_ ?_
  · intro E9 ce q9 u t H1 locs1 htH hal _ hBX k1 k2 hS1 hcell hcv hcl9
    obtain ⟨rfl, hP1, ce9, c1, c2, c3⟩ := hBX
    obtain ⟨e1, e2, e3, e4, e5, e6, e7, e8, e9, e10⟩ := id hQ
    have hci : ∃ r9 : vw_C, zcl[ci]? = some r9 ∧ r9.2.2 = 0 := by
      rcases hE2 with ⟨-, -, -, rfl⟩ | ⟨-, -, -, rfl⟩
      · exact ⟨_, rfl, rfl⟩
      · exact ⟨_, rfl, rfl⟩
    have hend : ∀ t2 : State, t2.heap = H1 → s.WarmedH t2.vm → zQc zcl D cy sz ka (some (.int r)) (h ++ [.inr (.inr (.inr (ci, [])))]) 1 ((q4as j w).map (zv (zr sz ka))).toArray s (.returned (some (.int r))) t2 := by
      intro t2 ht2 _
      refine ⟨rfl, ?_, hS1.F ht2, by rw [List.length_append]; simp only [List.length_cons, List.length_nil]; omega⟩
      rw [ht2, ← htH, zW_app]
      refine va_P_snoc hP1 ?_
      obtain ⟨r9, hr9, hr0⟩ := hci
      exact ⟨r9, hr9, ce9, c1, c3, c2, fun k hk => by rw [hr0] at hk; omega⟩
    rcases hE2 with ⟨rfl, -, rfl, -⟩ | ⟨rfl, -, rfl, -⟩
    · refine vx_catch hown [] ⟨0, 10, 13, 13⟩ [⟨0, 10, 17, 15⟩] htab (fun z hz9 => by cases hz9) rfl (by decide) (hts _ (q4m 9 rfl)) (va_Nw.use rfl e5) hcell hcv hcl9 ?_
      refine lv_astore B.exec B.bytes q4d13 hl (by decide) rfl (fun A2 hl2 => ?_)
      refine lv_iconst B.exec B.bytes q4d15 rfl ?_
      exact W.iret B.exec B.bytes B.returns hend hS1.2.2 q4d16 B.notSynchronized
    · refine vx_catch hown [⟨0, 10, 13, 13⟩] ⟨0, 10, 17, 15⟩ [] htab (fun z hz9 => ?_) rfl (by decide) (hts _ (q4m 10 rfl)) (va_Nw.use rfl e6) hcell hcv hcl9 ?_
      · rcases List.mem_cons.mp hz9 with rfl | hz9
        · exact Or.inr ⟨by decide, q4I, hts _ (q4m 9 rfl), e10⟩
        · cases hz9
      refine lv_astore B.exec B.bytes q4d17 hl (by decide) rfl (fun A2 hl2 => ?_)
      refine lv_iconst B.exec B.bytes q4d19 rfl ?_
      exact W.iret B.exec B.bytes B.returns hend hS1.2.2 q4d20 B.notSynchronized
  · intro r9 u t H1 locs1 _ _ hpost
    exact hpost.elim
set_option maxHeartbeats 4000000 in
/-- it has answered v -/
theorem q4_o {l : Launch} {D : va_G} {cy : Nat → ClassId} {sz : Nat} {ka : Nat → Nat} {g : zCt} {j w v : Int32} {h h2 : zH} {n nf : Nat} {fs : List Value} {lf : List Int64} (C : zClaim zcl zTs lw_tbl zZs0 D cy sz ka g zF zM zP l n) (hat : zat h 0 = some (.inr (.inr (.inr (9, fs))))) (h232 : zat h2 232 = some (.inr (.inl (nf, lf)))) (hnf : 0 < nf ∧ nf < 1000) (hz : zrun g zF zP n 105 0 (lv_args 0 [.ref 0, .int j, .int w]) [] h 0 0 = some (some (.int v), h2, 0, 0)) :
    Met l q4y (q4c :: zTs) ({ frames := 10, cells := 0, slots := 0, locals := 300 }) (zPc zcl lw_tbl zZs0 D cy sz ka g (q4as j w) h) (zQc zcl D cy sz ka (some (.int 0)) (h2.set 116 (.inr (.inl (nf, zset 0 lf 0 v.toInt64)))) 0) 0 0 (fun q => sz ≤ q) := by
  have hM := zmet zOK0 C hz (Nat.le_of_ble_eq_true rfl) (by decide)
  refine q4_ofWH (cc := method_3_code) (maxL := 5) (ret := some .int) (hh := q4h) (by decide) rfl ?_
  intro p e s m args below meth c s₁ B hml hv
  obtain ⟨rfl, hE, hP, hsz⟩ := hv
  have hts0 := atoms_spec (ws := q4c :: zTs) B.pre
  have hts : ∀ w9 ∈ zTs, w9.before ((q4as j w).map (zv (zr sz ka))).toArray s = true := fun w9 hw => hts0 w9 (List.mem_cons_of_mem _ hw)
  have hown : s.vm.findClass "SixJointsLaw" = some m.cls := findClass_of_methodNamed B.named
  have hl := lv_entry ((q4as j w).map (zv (zr sz ka))) (n := 5) (by rw [zsl_len, zcat_map]; exact Nat.le_of_ble_eq_true rfl)
  rw [lg_entry_eq]
  generalize (lg_sl ((q4as j w).map (zv (zr sz ka))) ++ List.replicate (5 - (lg_sl ((q4as j w).map (zv (zr sz ka)))).length) Slot.unset).toArray = A at hl ⊢
  rw [zl_args] at hl
  refine lv_aload_n B.exec B.bytes q4d0 rfl (zl_at hl (i := 3) (v := .ref 232) rfl) ?_
  refine lv_iconst B.exec B.bytes q4d1 rfl ?_
  refine lv_aload_n B.exec B.bytes q4d2 rfl (zl_at hl (i := 0) (v := .ref 0) rfl) ?_
  refine lv_iload_n B.exec B.bytes q4d3 rfl (zl_at hl (i := 1) (v := .int j) rfl) ?_
  refine lv_iload_n B.exec B.bytes q4d4 rfl (zl_at hl (i := 2) (v := .int w) rfl) ?_
  refine zafter (va_runV (C := "SixJoints") (b := zr sz ka 0) (As := [.int j, .int w]) (rest := [.int 0, .ref (zr sz ka 232)]) ⟨B.exec, B.bytes, hml, hown, hts⟩ hM (q4cw hts (by decide) (by decide)) ⟨zPc_blind, va_recv hE.1 hP (ci := 9) rfl (zW_at hat), fun U hU hW => ⟨rfl, zEnv_at hE va_S.rf hU hW, by rw [hU]; exact hP, by rw [hU]; exact hsz⟩⟩ rfl rfl hl.1 rfl (lv_room (Nat.le_of_ble_eq_true rfl)) q4d5 ⟨by decide, by decide⟩) va_S.rf ?_
  intro H2 locs2 hP2 hS2 hn2
  refine lv_i2l B.exec B.bytes q4d8 rfl ?_
  refine va_last (tys := zTy cy) B.exec B.bytes hE.1 hP2 (zW_D cy (zr sz ka) h2 sz) hS2 116 3 (zW_at h232) rfl (zin_spec (zin_nI (n := 0) hnf.1 (by omega))) q4d9 (fun H3 locs3 hP3 hD3 hS3 => ?_)
  refine lv_goto B.exec B.bytes q4d10 (tgt := 21) (by decide) ?_
  refine lv_iconst B.exec B.bytes q4d21 rfl ?_
  refine W.iret B.exec B.bytes B.returns (fun t ht _ => ⟨rfl, ?_, hS3.F ht, ?_⟩) hS3.2.2 q4d22 B.notSynchronized
  · rw [ht, zW_set]
    rw [zr_even (by decide), ← zset_updL] at hP3
    exact hP3
  · rw [List.length_set]
    omega
theorem q4G : GoodIn zTs (va_wsS "SixJointsLaw" 39 q4y (q4c :: zTs)) := by
  have key : ∀ w ∈ va_wsS "SixJointsLaw" 39 q4y (q4c :: zTs), w ∈ zTs := by
    intro w hw
    unfold va_wsS at hw
    rcases List.mem_append.mp hw with h | h
    · rcases List.mem_cons.mp h with rfl | h
      · exact q4m 11 rfl
      · rcases List.mem_cons.mp h with rfl | h
        · exact q4m 12 rfl
        · rcases List.mem_cons.mp h with rfl | h
          · exact q4m 13 rfl
          · exact absurd h List.not_mem_nil
    · rcases List.mem_cons.mp h with rfl | h
      · exact q4m 14 rfl
      · exact h
  exact fun w hw => ⟨key w hw, good_of_word (zOK0.1 w (key w hw))⟩
theorem q4csw {R : Room} (hRf : R.frames = (zM 288).2.2.2.2.1) (hRl : R.locals = (zM 288).2.2.2.2.2) {s : State} {args : Array Value} {d1 s1 : Nat} (hts : ∀ w ∈ zTs, w.before args s = true) : vx_CSW R s args "SixJointsLaw" 39 q4y method_3_code 5 (some .int) q4h (q4c :: zTs) ({ frames := 10, cells := d1, slots := s1, locals := 300 }) d1 s1 4 :=
  vx_cwSW 4 hts q4G rfl rfl rfl ⟨by decide, by decide, by decide +kernel⟩ ⟨by rw [hRf]; exact Nat.le_of_ble_eq_true rfl, by rw [hRl]; exact Nat.le_of_ble_eq_true rfl⟩
theorem q4djp : decode code zJpc = .ok (.invokestatic 39, 3) := by decide +kernel
