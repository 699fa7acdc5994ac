/-! String.length, String.charAt over the text of the reference's words: contracts over the machine. -/
noncomputable abbrev sy_len : MethodName := ⟨"java/lang/String", "length", "()I"⟩
noncomputable abbrev sb_len : ByteArray := prog_22_method_54_code
noncomputable abbrev sy_cod : MethodName := ⟨"java/lang/String", "coder", "()B"⟩
noncomputable abbrev sb_cod : ByteArray := prog_22_method_152_code
noncomputable abbrev sy_isl : MethodName := ⟨"java/lang/String", "isLatin1", "()Z"⟩
noncomputable abbrev sb_isl : ByteArray := prog_22_method_154_code
noncomputable abbrev sy_cha : MethodName := ⟨"java/lang/String", "charAt", "(I)C"⟩
noncomputable abbrev sb_cha : ByteArray := prog_22_method_56_code
noncomputable abbrev sy_chk : MethodName := ⟨"java/lang/String", "checkIndex", "(II)V"⟩
noncomputable abbrev sb_chk : ByteArray := prog_22_method_155_code
noncomputable abbrev sy_lat : MethodName := ⟨"java/lang/StringLatin1", "charAt", "([BI)C"⟩
noncomputable abbrev sb_lat : ByteArray := prog_23_method_2_code
noncomputable abbrev sy_pre : MethodName := ⟨"jdk/internal/util/Preconditions", "checkIndex", "(IILjava/util/function/BiFunction;)I"⟩
noncomputable abbrev sb_pre : ByteArray := prog_31_method_11_code
noncomputable def sy_ws : List Cond := [Cond.code sy_len sb_len 1 (some .int), .fieldLink "java/lang/String" 9 "java/lang/String" "value" "[B", .methodLink "java/lang/String" 335 sy_cod, .instanceMethod sy_cod, .selects "java/lang/String" sy_cod sy_cod, .initialized "java/lang/String", Cond.code sy_cod sb_cod 1 (some .byte), .fieldLink "java/lang/String" 38 "java/lang/String" "COMPACT_STRINGS" "Z", .fieldLink "java/lang/String" 15 "java/lang/String" "coder" "B", .methodLink "java/lang/String" 492 sy_isl, .instanceMethod sy_isl, .selects "java/lang/String" sy_isl sy_isl, Cond.code sy_isl sb_isl 1 (some .boolean), .methodLink "java/lang/String" 495 sy_lat, .static sy_lat, .initialized "java/lang/StringLatin1", Cond.code sy_lat sb_lat 2 (some .char), .methodLink "java/lang/StringLatin1" 9 sy_chk, .static sy_chk, Cond.code sy_chk sb_chk 2 none, .fieldLink "java/lang/String" 1053 "jdk/internal/util/Preconditions" "SIOOBE_FORMATTER" "Ljava/util/function/BiFunction;", .methodLink "java/lang/String" 1059 sy_pre, .static sy_pre, .initialized "jdk/internal/util/Preconditions", Cond.code sy_pre sb_pre 3 (some .int), .methodLink "SixJointsModel" 171 sy_len, .instanceMethod sy_len, .selects "java/lang/String" sy_len sy_len, .methodLink "SixJointsModel" 176 sy_cha, .instanceMethod sy_cha, .selects "java/lang/String" sy_cha sy_cha, Cond.code sy_cha sb_cha 2 (some .char)]
set_option maxRecDepth 1000000 in
theorem sy_w : ∀ w ∈ sy_ws, w ∈ lw_tbl := by decide +kernel
set_option maxRecDepth 1000000 in
theorem sy_g : ∀ w ∈ sy_ws, goodWord w = true := by decide +kernel
theorem sy_m {w : Cond} (i : Nat) (h : sy_ws[i]? = some w) : w ∈ zTs := List.mem_filter.mpr ⟨sy_w w (List.mem_of_getElem? h), sy_g w (List.mem_of_getElem? h)⟩
theorem sd_len_0 : decode sb_len 0 = .ok (.aload_n 0, 1) := by decide +kernel
theorem sd_len_1 : decode sb_len 1 = .ok (.getfield 9, 3) := by decide +kernel
theorem sd_len_4 : decode sb_len 4 = .ok (.arraylength, 1) := by decide +kernel
theorem sd_len_5 : decode sb_len 5 = .ok (.aload_n 0, 1) := by decide +kernel
theorem sd_len_6 : decode sb_len 6 = .ok (.invokevirtual 335, 3) := by decide +kernel
theorem sd_len_9 : decode sb_len 9 = .ok (.ishr, 1) := by decide +kernel
theorem sd_len_10 : decode sb_len 10 = .ok (.ireturn, 1) := by decide +kernel
theorem sd_cod_0 : decode sb_cod 0 = .ok (.getstatic 38, 3) := by decide +kernel
theorem sd_cod_3 : decode sb_cod 3 = .ok (.ifCond .eq 10, 3) := by decide +kernel
theorem sd_cod_6 : decode sb_cod 6 = .ok (.aload_n 0, 1) := by decide +kernel
theorem sd_cod_7 : decode sb_cod 7 = .ok (.getfield 15, 3) := by decide +kernel
theorem sd_cod_10 : decode sb_cod 10 = .ok (.goto 4, 3) := by decide +kernel
theorem sd_cod_13 : decode sb_cod 13 = .ok (.iconst 1, 1) := by decide +kernel
theorem sd_cod_14 : decode sb_cod 14 = .ok (.ireturn, 1) := by decide +kernel
theorem sd_isl_0 : decode sb_isl 0 = .ok (.getstatic 38, 3) := by decide +kernel
theorem sd_isl_3 : decode sb_isl 3 = .ok (.ifCond .eq 14, 3) := by decide +kernel
theorem sd_isl_6 : decode sb_isl 6 = .ok (.aload_n 0, 1) := by decide +kernel
theorem sd_isl_7 : decode sb_isl 7 = .ok (.getfield 15, 3) := by decide +kernel
theorem sd_isl_10 : decode sb_isl 10 = .ok (.ifCond .ne 7, 3) := by decide +kernel
theorem sd_isl_13 : decode sb_isl 13 = .ok (.iconst 1, 1) := by decide +kernel
theorem sd_isl_14 : decode sb_isl 14 = .ok (.goto 4, 3) := by decide +kernel
theorem sd_isl_17 : decode sb_isl 17 = .ok (.iconst 0, 1) := by decide +kernel
theorem sd_isl_18 : decode sb_isl 18 = .ok (.ireturn, 1) := by decide +kernel
theorem sd_cha_0 : decode sb_cha 0 = .ok (.aload_n 0, 1) := by decide +kernel
theorem sd_cha_1 : decode sb_cha 1 = .ok (.invokevirtual 492, 3) := by decide +kernel
theorem sd_cha_4 : decode sb_cha 4 = .ok (.ifCond .eq 12, 3) := by decide +kernel
theorem sd_cha_7 : decode sb_cha 7 = .ok (.aload_n 0, 1) := by decide +kernel
theorem sd_cha_8 : decode sb_cha 8 = .ok (.getfield 9, 3) := by decide +kernel
theorem sd_cha_11 : decode sb_cha 11 = .ok (.iload_n 1, 1) := by decide +kernel
theorem sd_cha_12 : decode sb_cha 12 = .ok (.invokestatic 495, 3) := by decide +kernel
theorem sd_cha_15 : decode sb_cha 15 = .ok (.ireturn, 1) := by decide +kernel
theorem sd_cha_16 : decode sb_cha 16 = .ok (.aload_n 0, 1) := by decide +kernel
theorem sd_cha_17 : decode sb_cha 17 = .ok (.getfield 9, 3) := by decide +kernel
theorem sd_cha_20 : decode sb_cha 20 = .ok (.iload_n 1, 1) := by decide +kernel
theorem sd_cha_21 : decode sb_cha 21 = .ok (.invokestatic 498, 3) := by decide +kernel
theorem sd_cha_24 : decode sb_cha 24 = .ok (.ireturn, 1) := by decide +kernel
theorem sd_chk_0 : decode sb_chk 0 = .ok (.iload_n 0, 1) := by decide +kernel
theorem sd_chk_1 : decode sb_chk 1 = .ok (.iload_n 1, 1) := by decide +kernel
theorem sd_chk_2 : decode sb_chk 2 = .ok (.getstatic 1053, 3) := by decide +kernel
theorem sd_chk_5 : decode sb_chk 5 = .ok (.invokestatic 1059, 3) := by decide +kernel
theorem sd_chk_8 : decode sb_chk 8 = .ok (.pop, 1) := by decide +kernel
theorem sd_chk_9 : decode sb_chk 9 = .ok (.return_, 1) := by decide +kernel
theorem sd_lat_0 : decode sb_lat 0 = .ok (.iload_n 1, 1) := by decide +kernel
theorem sd_lat_1 : decode sb_lat 1 = .ok (.aload_n 0, 1) := by decide +kernel
theorem sd_lat_2 : decode sb_lat 2 = .ok (.arraylength, 1) := by decide +kernel
theorem sd_lat_3 : decode sb_lat 3 = .ok (.invokestatic 9, 3) := by decide +kernel
theorem sd_lat_6 : decode sb_lat 6 = .ok (.aload_n 0, 1) := by decide +kernel
theorem sd_lat_7 : decode sb_lat 7 = .ok (.iload_n 1, 1) := by decide +kernel
theorem sd_lat_8 : decode sb_lat 8 = .ok (.baload, 1) := by decide +kernel
theorem sd_lat_9 : decode sb_lat 9 = .ok (.sipush 255, 3) := by decide +kernel
theorem sd_lat_12 : decode sb_lat 12 = .ok (.iand, 1) := by decide +kernel
theorem sd_lat_13 : decode sb_lat 13 = .ok (.i2c, 1) := by decide +kernel
theorem sd_lat_14 : decode sb_lat 14 = .ok (.ireturn, 1) := by decide +kernel
theorem sd_pre_0 : decode sb_pre 0 = .ok (.iload_n 0, 1) := by decide +kernel
theorem sd_pre_1 : decode sb_pre 1 = .ok (.ifCond .lt 8, 3) := by decide +kernel
theorem sd_pre_4 : decode sb_pre 4 = .ok (.iload_n 0, 1) := by decide +kernel
theorem sd_pre_5 : decode sb_pre 5 = .ok (.iload_n 1, 1) := by decide +kernel
theorem sd_pre_6 : decode sb_pre 6 = .ok (.if_icmp .lt 10, 3) := by decide +kernel
theorem sd_pre_9 : decode sb_pre 9 = .ok (.aload_n 2, 1) := by decide +kernel
theorem sd_pre_10 : decode sb_pre 10 = .ok (.iload_n 0, 1) := by decide +kernel
theorem sd_pre_11 : decode sb_pre 11 = .ok (.iload_n 1, 1) := by decide +kernel
theorem sd_pre_12 : decode sb_pre 12 = .ok (.invokestatic 95, 3) := by decide +kernel
theorem sd_pre_15 : decode sb_pre 15 = .ok (.athrow, 1) := by decide +kernel
theorem sd_pre_16 : decode sb_pre 16 = .ok (.iload_n 0, 1) := by decide +kernel
theorem sd_pre_17 : decode sb_pre 17 = .ok (.ireturn, 1) := by decide +kernel
theorem zTb_c : ∀ j, j < 53 → ((zTb.getD j 0 &&& 255).toUInt32 % 65536).toInt32 = zTb.getD j 0 := by decide +kernel
theorem zTb_n : ∀ j, j < 53 → narrow .char (.int (zTb.getD j 0)) = .int (zTb.getD j 0) := by decide +kernel
theorem zin_i {i : Int32} {n : Nat} (h : zin i n = true) : 0 ≤ i.toInt ∧ i.toInt < n ∧ i.toNatClampNeg < n := by
  unfold zin at h
  simp only [Bool.and_eq_true, Bool.not_eq_true', decide_eq_false_iff_not] at h
  obtain ⟨h1, h2⟩ := h
  have h3 : 0 ≤ i.toInt := by
    rw [Int32.lt_iff_toInt_lt] at h1
    have h0 : (0 : Int32).toInt = 0 := rfl
    omega
  have h4 : i.toNatClampNeg < n := Nat.le_of_ble_eq_true h2
  have h5 : (i.toNatClampNeg : Int) = i.toInt := by
    show ((i.toInt.toNat : Nat) : Int) = i.toInt
    omega
  omega
section SY
variable {l : Launch} {D : va_G} {cy : Nat → ClassId} {sz : Nat} {ka : Nat → Nat} {g : zCt} {h : zH}
set_option maxHeartbeats 4000000 in
theorem sy_cpre {k : Int32} (hk : zin k 53 = true) : Met l sy_pre (Cond.code sy_pre sb_pre 3 (some .int) :: zTs) ({ frames := 0, cells := 0, slots := 0, locals := 0 }) (zPc zcl lw_tbl zZs0 D cy sz ka g [.int k, .int 53, .ref 17] h) (zQc zcl D cy sz ka (some (.int k)) h 0) 0 0 (fun q => sz ≤ q) := by
  have hk2 := zin_i hk
  have hk0 : ¬ k < 0 := fun q => by have := Int32.lt_iff_toInt_lt.mp q; have h0 : (0 : Int32).toInt = 0 := rfl; omega
  have hk1 : k < 53 := Int32.lt_iff_toInt_lt.mpr (by have h0 : (53 : Int32).toInt = 53 := rfl; omega)
  refine zMet_ofW (cc := sb_pre) (maxL := 3) (ret := (some .int)) (by decide) rfl ?_
  intro p e s m args below meth c s₁ B hml hv
  obtain ⟨rfl, hE, hP, hsz⟩ := hv
  have hts0 := atoms_spec (ws := Cond.code sy_pre sb_pre 3 (some .int) :: zTs) B.pre
  have hts : ∀ w ∈ zTs, w.before (([.int k, .int 53, .ref 17] : List Value).map (zv (zr sz ka))).toArray s = true := fun w hw => hts0 w (List.mem_cons_of_mem _ hw)
  have hown : s.vm.findClass "jdk/internal/util/Preconditions" = some m.cls := findClass_of_methodNamed B.named
  have hl := lv_entry (([.int k, .int 53, .ref 17] : List Value).map (zv (zr sz ka))) (n := 3) (by rw [zsl_len, zcat_map]; exact Nat.le_of_ble_eq_true rfl)
  rw [lg_entry_eq]
  generalize (lg_sl (([.int k, .int 53, .ref 17] : List Value).map (zv (zr sz ka))) ++ List.replicate (3 - (lg_sl (([.int k, .int 53, .ref 17] : List Value).map (zv (zr sz ka)))).length) Slot.unset).toArray = A at hl ⊢
  rw [zl_args] at hl
  have hXe := hE.2.2.2.2.2.2.1
  have hsz0 := hE.2.2.2.2.2.2.2
  refine lv_iload_n B.exec B.bytes sd_pre_0 rfl (zl_at hl (i := 0) (v := .int k) rfl) ?_
  refine lv_if_lt B.exec B.bytes sd_pre_1 (tgt := 9) (by decide) (fun q => absurd q hk0) (fun _ => ?_)
  refine lv_iload_n B.exec B.bytes sd_pre_4 rfl (zl_at hl (i := 0) (v := .int k) rfl) ?_
  refine lv_iload_n B.exec B.bytes sd_pre_5 rfl (zl_at hl (i := 1) (v := .int 53) rfl) ?_
  refine lv_icmp_lt B.exec B.bytes sd_pre_6 (tgt := 16) (by decide) (fun _ => ?_) (fun q => absurd hk1 q)
  refine lv_iload_n B.exec B.bytes sd_pre_16 rfl (zl_at hl (i := 0) (v := .int k) rfl) ?_
  exact W.iret B.exec B.bytes B.returns (fun t ht _ => ⟨rfl, by rw [ht]; exact hP, (va_S.rf (A := fun q => sz ≤ q)).F ht, by omega⟩) (fun _ q => absurd q List.not_mem_nil) sd_pre_17 B.notSynchronized
set_option maxHeartbeats 4000000 in
theorem sy_cpreN {k : Int32} (hk : zin k 53 = true) : Met l sy_pre (Cond.code sy_pre sb_pre 3 (some .int) :: zTs) ({ frames := 0, cells := 0, slots := 0, locals := 0 }) (zPc zcl lw_tbl zZs0 D cy sz ka g [.int k, .int 53, .null] h) (zQc zcl D cy sz ka (some (.int k)) h 0) 0 0 (fun q => sz ≤ q) := by
  have hk2 := zin_i hk
  have hk0 : ¬ k < 0 := fun q => by have := Int32.lt_iff_toInt_lt.mp q; have h0 : (0 : Int32).toInt = 0 := rfl; omega
  have hk1 : k < 53 := Int32.lt_iff_toInt_lt.mpr (by have h0 : (53 : Int32).toInt = 53 := rfl; omega)
  refine zMet_ofW (cc := sb_pre) (maxL := 3) (ret := (some .int)) (by decide) rfl ?_
  intro p e s m args below meth c s₁ B hml hv
  obtain ⟨rfl, hE, hP, hsz⟩ := hv
  have hts0 := atoms_spec (ws := Cond.code sy_pre sb_pre 3 (some .int) :: zTs) B.pre
  have hts : ∀ w ∈ zTs, w.before (([.int k, .int 53, .null] : List Value).map (zv (zr sz ka))).toArray s = true := fun w hw => hts0 w (List.mem_cons_of_mem _ hw)
  have hown : s.vm.findClass "jdk/internal/util/Preconditions" = some m.cls := findClass_of_methodNamed B.named
  have hl := lv_entry (([.int k, .int 53, .null] : List Value).map (zv (zr sz ka))) (n := 3) (by rw [zsl_len, zcat_map]; exact Nat.le_of_ble_eq_true rfl)
  rw [lg_entry_eq]
  generalize (lg_sl (([.int k, .int 53, .null] : List Value).map (zv (zr sz ka))) ++ List.replicate (3 - (lg_sl (([.int k, .int 53, .null] : List Value).map (zv (zr sz ka)))).length) Slot.unset).toArray = A at hl ⊢
  rw [zl_args] at hl
  have hXe := hE.2.2.2.2.2.2.1
  have hsz0 := hE.2.2.2.2.2.2.2
  refine lv_iload_n B.exec B.bytes sd_pre_0 rfl (zl_at hl (i := 0) (v := .int k) rfl) ?_
  refine lv_if_lt B.exec B.bytes sd_pre_1 (tgt := 9) (by decide) (fun q => absurd q hk0) (fun _ => ?_)
  refine lv_iload_n B.exec B.bytes sd_pre_4 rfl (zl_at hl (i := 0) (v := .int k) rfl) ?_
  refine lv_iload_n B.exec B.bytes sd_pre_5 rfl (zl_at hl (i := 1) (v := .int 53) rfl) ?_
  refine lv_icmp_lt B.exec B.bytes sd_pre_6 (tgt := 16) (by decide) (fun _ => ?_) (fun q => absurd hk1 q)
  refine lv_iload_n B.exec B.bytes sd_pre_16 rfl (zl_at hl (i := 0) (v := .int k) rfl) ?_
  exact W.iret B.exec B.bytes B.returns (fun t ht _ => ⟨rfl, by rw [ht]; exact hP, (va_S.rf (A := fun q => sz ≤ q)).F ht, by omega⟩) (fun _ q => absurd q List.not_mem_nil) sd_pre_17 B.notSynchronized
set_option maxHeartbeats 4000000 in
theorem sy_cchk {k : Int32} (hk : zin k 53 = true) : Met l sy_chk (Cond.code sy_chk sb_chk 2 none :: zTs) ({ frames := 1, cells := 0, slots := 0, locals := 22 }) (zPc zcl lw_tbl zZs0 D cy sz ka g [.int k, .int 53] h) (zQc zcl D cy sz ka none h 0) 0 0 (fun q => sz ≤ q) := by
  refine zMet_ofW (cc := sb_chk) (maxL := 2) (ret := none) (by decide) rfl ?_
  intro p e s m args below meth c s₁ B hml hv
  obtain ⟨rfl, hE, hP, hsz⟩ := hv
  have hts0 := atoms_spec (ws := Cond.code sy_chk sb_chk 2 none :: zTs) B.pre
  have hts : ∀ w ∈ zTs, w.before (([.int k, .int 53] : List Value).map (zv (zr sz ka))).toArray s = true := fun w hw => hts0 w (List.mem_cons_of_mem _ hw)
  have hown : s.vm.findClass "java/lang/String" = some m.cls := findClass_of_methodNamed B.named
  have hl := lv_entry (([.int k, .int 53] : List Value).map (zv (zr sz ka))) (n := 2) (by rw [zsl_len, zcat_map]; exact Nat.le_of_ble_eq_true rfl)
  rw [lg_entry_eq]
  generalize (lg_sl (([.int k, .int 53] : List Value).map (zv (zr sz ka))) ++ List.replicate (2 - (lg_sl (([.int k, .int 53] : List Value).map (zv (zr sz ka)))).length) Slot.unset).toArray = A at hl ⊢
  rw [zl_args] at hl
  have hXe := hE.2.2.2.2.2.2.1
  have hsz0 := hE.2.2.2.2.2.2.2
  refine lv_iload_n B.exec B.bytes sd_chk_0 rfl (zl_at hl (i := 0) (v := .int k) rfl) ?_
  refine lv_iload_n B.exec B.bytes sd_chk_1 rfl (zl_at hl (i := 1) (v := .int 53) rfl) ?_
  rcases hXe.2.2.2.1 with hz9 | hz9
  · refine va_gets B.exec B.bytes hz9 (va_S.rf (A := fun q => sz ≤ q)) hown (hts _ (sy_m 20 rfl)) (fun _ q => q) sd_chk_2 ?_
    refine zafter (va_runS (As := ([.int k, .int 53, .null] : List Value).map (zv (zr sz ka))) (rest := []) ⟨B.exec, B.bytes, hml, hown, hts⟩ (sy_cpreN hk) ⟨callB_of 3 hts (zgood zOK0.1 (sy_m 24 rfl)) rfl rfl rfl (hts _ (sy_m 23 rfl)) (hts _ (sy_m 21 rfl)) ⟨by decide, by decide, by decide +kernel⟩ ⟨by decide, by decide⟩, hts _ (sy_m 22 rfl)⟩ ⟨zPc_blind, fun U hU hW => ⟨rfl, zEnv_at hE (va_S.rf (A := fun q => sz ≤ q)) hU hW, by rw [hU]; exact hP, by rw [hU]; exact hsz⟩⟩ rfl rfl hl.1 rfl (lv_room (Nat.le_of_ble_eq_true rfl)) sd_chk_5 ⟨by decide, by decide⟩) (va_S.rf (A := fun q => sz ≤ q)) ?_
    intro H2 locs2 hP2 hS2 hn2
    refine lv_pop B.exec B.bytes sd_chk_8 rfl ?_
    exact W.vret B.exec B.bytes B.returns (fun t ht _ => ⟨rfl, by rw [ht]; exact hP2, hS2.F ht, by omega⟩) hS2.2.2 sd_chk_9 B.notSynchronized
  · refine va_gets B.exec B.bytes hz9 (va_S.rf (A := fun q => sz ≤ q)) hown (hts _ (sy_m 20 rfl)) (fun _ q => q) sd_chk_2 ?_
    refine zafter (va_runS (As := ([.int k, .int 53, .ref 17] : List Value).map (zv (zr sz ka))) (rest := []) ⟨B.exec, B.bytes, hml, hown, hts⟩ (sy_cpre hk) ⟨callB_of 3 hts (zgood zOK0.1 (sy_m 24 rfl)) rfl rfl rfl (hts _ (sy_m 23 rfl)) (hts _ (sy_m 21 rfl)) ⟨by decide, by decide, by decide +kernel⟩ ⟨by decide, by decide⟩, hts _ (sy_m 22 rfl)⟩ ⟨zPc_blind, fun U hU hW => ⟨rfl, zEnv_at hE (va_S.rf (A := fun q => sz ≤ q)) hU hW, by rw [hU]; exact hP, by rw [hU]; exact hsz⟩⟩ rfl rfl hl.1 rfl (lv_room (Nat.le_of_ble_eq_true rfl)) sd_chk_5 ⟨by decide, by decide⟩) (va_S.rf (A := fun q => sz ≤ q)) ?_
    intro H2 locs2 hP2 hS2 hn2
    refine lv_pop B.exec B.bytes sd_chk_8 rfl ?_
    exact W.vret B.exec B.bytes B.returns (fun t ht _ => ⟨rfl, by rw [ht]; exact hP2, hS2.F ht, by omega⟩) hS2.2.2 sd_chk_9 B.notSynchronized
set_option maxHeartbeats 4000000 in
theorem sy_clat {k : Int32} (hk : zin k 53 = true) : Met l sy_lat (Cond.code sy_lat sb_lat 2 (some .char) :: zTs) ({ frames := 2, cells := 0, slots := 0, locals := 43 }) (zPc zcl lw_tbl zZs0 D cy sz ka g [.ref 15, .int k] h) (zQc zcl D cy sz ka (some (.int (zTb.getD k.toNatClampNeg 0))) h 0) 0 0 (fun q => sz ≤ q) := by
  have hk2 := zin_i hk
  refine zMet_ofW (cc := sb_lat) (maxL := 2) (ret := (some .char)) (by decide) rfl ?_
  intro p e s m args below meth c s₁ B hml hv
  obtain ⟨rfl, hE, hP, hsz⟩ := hv
  have hts0 := atoms_spec (ws := Cond.code sy_lat sb_lat 2 (some .char) :: zTs) B.pre
  have hts : ∀ w ∈ zTs, w.before (([.ref 15, .int k] : List Value).map (zv (zr sz ka))).toArray s = true := fun w hw => hts0 w (List.mem_cons_of_mem _ hw)
  have hown : s.vm.findClass "java/lang/StringLatin1" = some m.cls := findClass_of_methodNamed B.named
  have hl := lv_entry (([.ref 15, .int k] : List Value).map (zv (zr sz ka))) (n := 2) (by rw [zsl_len, zcat_map]; exact Nat.le_of_ble_eq_true rfl)
  rw [lg_entry_eq]
  generalize (lg_sl (([.ref 15, .int k] : List Value).map (zv (zr sz ka))) ++ List.replicate (2 - (lg_sl (([.ref 15, .int k] : List Value).map (zv (zr sz ka)))).length) Slot.unset).toArray = A at hl ⊢
  rw [zl_args] at hl
  have hXe := hE.2.2.2.2.2.2.1
  have hsz0 := hE.2.2.2.2.2.2.2
  have hT : va_T .byte (zr sz ka 15) 53 (fun j => .int (zTb.getD j 0)) (fun q => sz ≤ q) s s.heap := (hXe.2.1.1 0 (by decide)).2.2.2
  refine lv_iload_n B.exec B.bytes sd_lat_0 rfl (zl_at hl (i := 1) (v := .int k) rfl) ?_
  refine lv_aload_n B.exec B.bytes sd_lat_1 rfl (zl_at hl (i := 0) (v := .ref 15) rfl) ?_
  refine va_tlen B.exec B.bytes hT (va_S.rf (A := fun q => sz ≤ q)) (v := 53) rfl sd_lat_2 ?_
  refine zafter (va_runS (As := ([.int k, .int 53] : List Value).map (zv (zr sz ka))) (rest := []) ⟨B.exec, B.bytes, hml, hown, hts⟩ (sy_cchk hk) ⟨callB_of 2 hts (zgood zOK0.1 (sy_m 19 rfl)) rfl rfl rfl (hts _ (sy_m 5 rfl)) (hts _ (sy_m 17 rfl)) ⟨by decide, by decide, by decide +kernel⟩ ⟨by decide, by decide⟩, hts _ (sy_m 18 rfl)⟩ ⟨zPc_blind, fun U hU hW => ⟨rfl, zEnv_at hE (va_S.rf (A := fun q => sz ≤ q)) hU hW, by rw [hU]; exact hP, by rw [hU]; exact hsz⟩⟩ rfl rfl hl.1 rfl (lv_room (Nat.le_of_ble_eq_true rfl)) sd_lat_3 ⟨by decide, by decide⟩) (va_S.rf (A := fun q => sz ≤ q)) ?_
  intro H2 locs2 hP2 hS2 hn2
  refine lv_aload_n B.exec B.bytes sd_lat_6 rfl (zl_at hl (i := 0) (v := .ref 15) rfl) ?_
  refine lv_iload_n B.exec B.bytes sd_lat_7 rfl (zl_at hl (i := 1) (v := .int k) rfl) ?_
  refine va_tb B.exec B.bytes hT hS2 (zin_spec hk) (v := .int (zTb.getD k.toNatClampNeg 0)) rfl sd_lat_8 ?_
  refine lv_sipush B.exec B.bytes sd_lat_9 (v := 255) (by decide) ?_
  refine lv_iand B.exec B.bytes sd_lat_12 ?_
  refine lv_i2c B.exec B.bytes sd_lat_13 (v := (zTb.getD k.toNatClampNeg 0)) (zTb_c _ hk2.2.2) ?_
  exact W.zret (ty := .char) B.exec B.bytes B.returns (zTb_n _ hk2.2.2) (fun t ht _ => ⟨rfl, by rw [ht]; exact hP2, hS2.F ht, by omega⟩) hS2.2.2 sd_lat_14 B.notSynchronized
set_option maxHeartbeats 4000000 in
theorem sy_ccod  : Met l sy_cod (Cond.code sy_cod sb_cod 1 (some .byte) :: zTs) ({ frames := 0, cells := 0, slots := 0, locals := 0 }) (zPc zcl lw_tbl zZs0 D cy sz ka g [.ref 13] h) (zQc zcl D cy sz ka (some (.int 0)) h 0) 0 0 (fun q => sz ≤ q) := by
  refine zMet_ofW (cc := sb_cod) (maxL := 1) (ret := (some .byte)) (by decide) rfl ?_
  intro p e s m args below meth c s₁ B hml hv
  obtain ⟨rfl, hE, hP, hsz⟩ := hv
  have hts0 := atoms_spec (ws := Cond.code sy_cod sb_cod 1 (some .byte) :: zTs) B.pre
  have hts : ∀ w ∈ zTs, w.before (([.ref 13] : List Value).map (zv (zr sz ka))).toArray s = true := fun w hw => hts0 w (List.mem_cons_of_mem _ hw)
  have hown : s.vm.findClass "java/lang/String" = some m.cls := findClass_of_methodNamed B.named
  have hl := lv_entry (([.ref 13] : List Value).map (zv (zr sz ka))) (n := 1) (by rw [zsl_len, zcat_map]; exact Nat.le_of_ble_eq_true rfl)
  rw [lg_entry_eq]
  generalize (lg_sl (([.ref 13] : List Value).map (zv (zr sz ka))) ++ List.replicate (1 - (lg_sl (([.ref 13] : List Value).map (zv (zr sz ka)))).length) Slot.unset).toArray = A at hl ⊢
  rw [zl_args] at hl
  have hXe := hE.2.2.2.2.2.2.1
  have hsz0 := hE.2.2.2.2.2.2.2
  refine va_gets B.exec B.bytes hXe.2.2.1 (va_S.rf (A := fun q => sz ≤ q)) hown (hts _ (sy_m 7 rfl)) (fun _ q => q) sd_cod_0 ?_
  refine lv_if_eq B.exec B.bytes sd_cod_3 (tgt := 13) (by decide) (fun q => absurd q (by decide)) (fun _ => ?_)
  refine lv_aload_n B.exec B.bytes sd_cod_6 rfl (zl_at hl (i := 0) (v := .ref 13) rfl) ?_
  refine vk_getf B.exec B.bytes (hXe.2.1.1 0 (by decide)).2.1 (va_S.rf (A := fun q => sz ≤ q)) hown (hts _ (sy_m 8 rfl)) (fun _ q => q) sd_cod_7 ?_
  refine lv_goto B.exec B.bytes sd_cod_10 (tgt := 14) (by decide) ?_
  exact W.zret (ty := .byte) B.exec B.bytes B.returns (by decide +kernel) (fun t ht _ => ⟨rfl, by rw [ht]; exact hP, (va_S.rf (A := fun q => sz ≤ q)).F ht, by omega⟩) (fun _ q => absurd q List.not_mem_nil) sd_cod_14 B.notSynchronized
set_option maxHeartbeats 4000000 in
theorem sy_cisl  : Met l sy_isl (Cond.code sy_isl sb_isl 1 (some .boolean) :: zTs) ({ frames := 0, cells := 0, slots := 0, locals := 0 }) (zPc zcl lw_tbl zZs0 D cy sz ka g [.ref 13] h) (zQc zcl D cy sz ka (some (.int 1)) h 0) 0 0 (fun q => sz ≤ q) := by
  refine zMet_ofW (cc := sb_isl) (maxL := 1) (ret := (some .boolean)) (by decide) rfl ?_
  intro p e s m args below meth c s₁ B hml hv
  obtain ⟨rfl, hE, hP, hsz⟩ := hv
  have hts0 := atoms_spec (ws := Cond.code sy_isl sb_isl 1 (some .boolean) :: zTs) B.pre
  have hts : ∀ w ∈ zTs, w.before (([.ref 13] : List Value).map (zv (zr sz ka))).toArray s = true := fun w hw => hts0 w (List.mem_cons_of_mem _ hw)
  have hown : s.vm.findClass "java/lang/String" = some m.cls := findClass_of_methodNamed B.named
  have hl := lv_entry (([.ref 13] : List Value).map (zv (zr sz ka))) (n := 1) (by rw [zsl_len, zcat_map]; exact Nat.le_of_ble_eq_true rfl)
  rw [lg_entry_eq]
  generalize (lg_sl (([.ref 13] : List Value).map (zv (zr sz ka))) ++ List.replicate (1 - (lg_sl (([.ref 13] : List Value).map (zv (zr sz ka)))).length) Slot.unset).toArray = A at hl ⊢
  rw [zl_args] at hl
  have hXe := hE.2.2.2.2.2.2.1
  have hsz0 := hE.2.2.2.2.2.2.2
  refine va_gets B.exec B.bytes hXe.2.2.1 (va_S.rf (A := fun q => sz ≤ q)) hown (hts _ (sy_m 7 rfl)) (fun _ q => q) sd_isl_0 ?_
  refine lv_if_eq B.exec B.bytes sd_isl_3 (tgt := 17) (by decide) (fun q => absurd q (by decide)) (fun _ => ?_)
  refine lv_aload_n B.exec B.bytes sd_isl_6 rfl (zl_at hl (i := 0) (v := .ref 13) rfl) ?_
  refine vk_getf B.exec B.bytes (hXe.2.1.1 0 (by decide)).2.1 (va_S.rf (A := fun q => sz ≤ q)) hown (hts _ (sy_m 8 rfl)) (fun _ q => q) sd_isl_7 ?_
  refine lv_if_ne B.exec B.bytes sd_isl_10 (tgt := 17) (by decide) (fun q => absurd rfl q) (fun _ => ?_)
  refine lv_iconst B.exec B.bytes sd_isl_13 rfl ?_
  refine lv_goto B.exec B.bytes sd_isl_14 (tgt := 18) (by decide) ?_
  exact W.zret (ty := .boolean) B.exec B.bytes B.returns (by decide +kernel) (fun t ht _ => ⟨rfl, by rw [ht]; exact hP, (va_S.rf (A := fun q => sz ≤ q)).F ht, by omega⟩) (fun _ q => absurd q List.not_mem_nil) sd_isl_18 B.notSynchronized
set_option maxHeartbeats 4000000 in
theorem sy_clen  : Met l sy_len (Cond.code sy_len sb_len 1 (some .int) :: zTs) ({ frames := 1, cells := 0, slots := 0, locals := 20 }) (zPc zcl lw_tbl zZs0 D cy sz ka g [.ref 13] h) (zQc zcl D cy sz ka (some (.int 53)) h 0) 0 0 (fun q => sz ≤ q) := by
  refine zMet_ofW (cc := sb_len) (maxL := 1) (ret := (some .int)) (by decide) rfl ?_
  intro p e s m args below meth c s₁ B hml hv
  obtain ⟨rfl, hE, hP, hsz⟩ := hv
  have hts0 := atoms_spec (ws := Cond.code sy_len sb_len 1 (some .int) :: zTs) B.pre
  have hts : ∀ w ∈ zTs, w.before (([.ref 13] : List Value).map (zv (zr sz ka))).toArray s = true := fun w hw => hts0 w (List.mem_cons_of_mem _ hw)
  have hown : s.vm.findClass "java/lang/String" = some m.cls := findClass_of_methodNamed B.named
  have hl := lv_entry (([.ref 13] : List Value).map (zv (zr sz ka))) (n := 1) (by rw [zsl_len, zcat_map]; exact Nat.le_of_ble_eq_true rfl)
  rw [lg_entry_eq]
  generalize (lg_sl (([.ref 13] : List Value).map (zv (zr sz ka))) ++ List.replicate (1 - (lg_sl (([.ref 13] : List Value).map (zv (zr sz ka)))).length) Slot.unset).toArray = A at hl ⊢
  rw [zl_args] at hl
  have hXe := hE.2.2.2.2.2.2.1
  have hsz0 := hE.2.2.2.2.2.2.2
  have hT : va_T .byte (ka 7) 53 (fun j => .int (zTb.getD j 0)) (fun q => sz ≤ q) s s.heap := (hXe.2.1.1 0 (by decide)).2.2.2
  refine lv_aload_n B.exec B.bytes sd_len_0 rfl (zl_at hl (i := 0) (v := .ref 13) rfl) ?_
  refine vk_getf B.exec B.bytes (hXe.2.1.1 0 (by decide)).2.2.1 (va_S.rf (A := fun q => sz ≤ q)) hown (hts _ (sy_m 1 rfl)) (fun _ q => q) sd_len_1 ?_
  refine va_tlen B.exec B.bytes hT (va_S.rf (A := fun q => sz ≤ q)) (v := 53) rfl sd_len_4 ?_
  refine lv_aload_n B.exec B.bytes sd_len_5 rfl (zl_at hl (i := 0) (v := .ref 13) rfl) ?_
  refine zafter (va_runV (C := "java/lang/String") (b := zr sz ka 13) (As := []) (rest := [.int 53]) ⟨B.exec, B.bytes, hml, hown, hts⟩ sy_ccod ⟨callB_of 0 hts (zgood zOK0.1 (sy_m 6 rfl)) rfl rfl rfl (hts _ (sy_m 5 rfl)) (hts _ (sy_m 2 rfl)) ⟨by decide, by decide, by decide +kernel⟩ ⟨by decide, by decide⟩, hts _ (sy_m 3 rfl), hts _ (sy_m 4 rfl)⟩ ⟨zPc_blind, vk_recv hXe.2.1 (i := 0) (by decide) (va_S.rf (A := fun q => sz ≤ q)), fun U hU hW => ⟨rfl, zEnv_at hE (va_S.rf (A := fun q => sz ≤ q)) hU hW, by rw [hU]; exact hP, by rw [hU]; exact hsz⟩⟩ rfl rfl hl.1 rfl (lv_room (Nat.le_of_ble_eq_true rfl)) sd_len_6 ⟨by decide, by decide⟩) (va_S.rf (A := fun q => sz ≤ q)) ?_
  intro H2 locs2 hP2 hS2 hn2
  refine lv_ishr B.exec B.bytes sd_len_9 ?_
  exact W.iret B.exec B.bytes B.returns (fun t ht _ => ⟨rfl, by rw [ht]; exact hP2, hS2.F ht, by omega⟩) hS2.2.2 sd_len_10 B.notSynchronized
set_option maxHeartbeats 4000000 in
theorem sy_ccha {k : Int32} (hk : zin k 53 = true) : Met l sy_cha (Cond.code sy_cha sb_cha 2 (some .char) :: zTs) ({ frames := 3, cells := 0, slots := 0, locals := 64 }) (zPc zcl lw_tbl zZs0 D cy sz ka g [.ref 13, .int k] h) (zQc zcl D cy sz ka (some (.int (zTb.getD k.toNatClampNeg 0))) h 0) 0 0 (fun q => sz ≤ q) := by
  have hk2 := zin_i hk
  refine zMet_ofW (cc := sb_cha) (maxL := 2) (ret := (some .char)) (by decide) rfl ?_
  intro p e s m args below meth c s₁ B hml hv
  obtain ⟨rfl, hE, hP, hsz⟩ := hv
  have hts0 := atoms_spec (ws := Cond.code sy_cha sb_cha 2 (some .char) :: zTs) B.pre
  have hts : ∀ w ∈ zTs, w.before (([.ref 13, .int k] : List Value).map (zv (zr sz ka))).toArray s = true := fun w hw => hts0 w (List.mem_cons_of_mem _ hw)
  have hown : s.vm.findClass "java/lang/String" = some m.cls := findClass_of_methodNamed B.named
  have hl := lv_entry (([.ref 13, .int k] : List Value).map (zv (zr sz ka))) (n := 2) (by rw [zsl_len, zcat_map]; exact Nat.le_of_ble_eq_true rfl)
  rw [lg_entry_eq]
  generalize (lg_sl (([.ref 13, .int k] : List Value).map (zv (zr sz ka))) ++ List.replicate (2 - (lg_sl (([.ref 13, .int k] : List Value).map (zv (zr sz ka)))).length) Slot.unset).toArray = A at hl ⊢
  rw [zl_args] at hl
  have hXe := hE.2.2.2.2.2.2.1
  have hsz0 := hE.2.2.2.2.2.2.2
  refine lv_aload_n B.exec B.bytes sd_cha_0 rfl (zl_at hl (i := 0) (v := .ref 13) rfl) ?_
  refine zafter (va_runV (C := "java/lang/String") (b := zr sz ka 13) (As := []) (rest := []) ⟨B.exec, B.bytes, hml, hown, hts⟩ sy_cisl ⟨callB_of 0 hts (zgood zOK0.1 (sy_m 12 rfl)) rfl rfl rfl (hts _ (sy_m 5 rfl)) (hts _ (sy_m 9 rfl)) ⟨by decide, by decide, by decide +kernel⟩ ⟨by decide, by decide⟩, hts _ (sy_m 10 rfl), hts _ (sy_m 11 rfl)⟩ ⟨zPc_blind, vk_recv hXe.2.1 (i := 0) (by decide) (va_S.rf (A := fun q => sz ≤ q)), fun U hU hW => ⟨rfl, zEnv_at hE (va_S.rf (A := fun q => sz ≤ q)) hU hW, by rw [hU]; exact hP, by rw [hU]; exact hsz⟩⟩ rfl rfl hl.1 rfl (lv_room (Nat.le_of_ble_eq_true rfl)) sd_cha_1 ⟨by decide, by decide⟩) (va_S.rf (A := fun q => sz ≤ q)) ?_
  intro H2 locs2 hP2 hS2 hn2
  refine lv_if_eq B.exec B.bytes sd_cha_4 (tgt := 16) (by decide) (fun q => absurd q (by decide)) (fun _ => ?_)
  refine lv_aload_n B.exec B.bytes sd_cha_7 rfl (zl_at hl (i := 0) (v := .ref 13) rfl) ?_
  refine vk_getf B.exec B.bytes (hXe.2.1.1 0 (by decide)).2.2.1 hS2 hown (hts _ (sy_m 1 rfl)) (fun _ q => q) sd_cha_8 ?_
  refine lv_iload_n B.exec B.bytes sd_cha_11 rfl (zl_at hl (i := 1) (v := .int k) rfl) ?_
  refine zW_bound (fun hbd => ?_)
  have hsize : H2.size = sz + h.length := zsize hP2 hS2 hsz0 hbd (by omega)
  refine zafter (va_runS (As := ([.ref 15, .int k] : List Value).map (zv (zr sz ka))) (rest := []) ⟨B.exec, B.bytes, hml, hown, hts⟩ (sy_clat hk) ⟨callB_of 2 hts (zgood zOK0.1 (sy_m 16 rfl)) rfl rfl rfl (hts _ (sy_m 15 rfl)) (hts _ (sy_m 13 rfl)) ⟨by decide, by decide, by decide +kernel⟩ ⟨by decide, by decide⟩, hts _ (sy_m 14 rfl)⟩ ⟨zPc_blind, fun U hU hW => ⟨rfl, zEnv_at hE hS2 hU hW, by rw [hU]; exact hP2, by rw [hU]; exact hsize⟩⟩ rfl rfl hl.1 rfl (lv_room (Nat.le_of_ble_eq_true rfl)) sd_cha_12 ⟨by decide, by decide⟩) hS2 ?_
  intro H3 locs3 hP3 hS3 hn3
  exact W.zret (ty := .char) B.exec B.bytes B.returns (zTb_n _ hk2.2.2) (fun t ht _ => ⟨rfl, by rw [ht]; exact hP3, hS3.F ht, by omega⟩) hS3.2.2 sd_cha_15 B.notSynchronized
end SY
