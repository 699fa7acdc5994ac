theorem zno2 {α : Type} {pc N : Nat} {g : Option α} (h : N ≤ pc) : (bif Nat.blt pc N then g else none) = none := by
  have e : Nat.blt pc N = false := by
    cases c : Nat.blt pc N with
    | false => rfl
    | true => exact absurd (Nat.le_of_ble_eq_true c) (by omega)
  rw [e]
  rfl
theorem zno (f : Nat → Option (Instr × Nat × zK × List Nat)) (N : Nat) (h : (List.range (4096 - N)).all (fun k => (f (N + k)).isNone) = true) : ∀ pc, N ≤ pc → pc < 4096 → f pc = none := by
  intro pc h1 h2
  have h3 := List.all_eq_true.mp h (pc - N) (List.mem_range.mpr (by omega))
  rw [show N + (pc - N) = pc by omega] at h3
  exact Option.isNone_iff_eq_none.mp h3
/-- a row's check, the bytes read one behind another -/
noncomputable def zst (f : Nat → Option (Instr × Nat × zK × List Nat)) (b : ByteArray) (o nL : Nat) (ini : Bool) (ret : Option FieldType) (fr lo pc : Nat) (l : List UInt8) : Bool := match f pc with
  | none => true
  | some q => (zdk q.1 l q.2.1 || decide (decode b pc = .ok (q.1, q.2.1))) && zchI o nL ini ret fr lo pc q.1 q.2.1 q.2.2.1 q.2.2.2
noncomputable def zwk (f : Nat → Option (Instr × Nat × zK × List Nat)) (b : ByteArray) (o nL : Nat) (ini : Bool) (ret : Option FieldType) (fr lo : Nat) : Nat → Nat → List UInt8 → Bool
  | 0, _, _ => true
  | n + 1, pc, l => zst f b o nL ini ret fr lo pc l && zwk f b o nL ini ret fr lo n (pc + 1) (l.drop 1)
theorem zwk_at {f : Nat → Option (Instr × Nat × zK × List Nat)} {b : ByteArray} {o nL : Nat} {ini : Bool} {ret : Option FieldType} {fr lo : Nat} : ∀ (n pc : Nat) (l : List UInt8), zwk f b o nL ini ret fr lo n pc l = true → ∀ j, j < n → zst f b o nL ini ret fr lo (pc + j) (l.drop j) = true
  | 0, _, _, _, j, hj => absurd hj (Nat.not_lt_zero _)
  | n + 1, pc, l, h, 0, _ => (and_true_iff_z h).1
  | n + 1, pc, l, h, j + 1, hj => by
    have h9 := zwk_at n (pc + 1) (l.drop 1) (and_true_iff_z h).2 j (by omega)
    rw [List.drop_drop, show pc + 1 + j = pc + (j + 1) by omega, show 1 + j = j + 1 by omega] at h9
    exact h9
noncomputable def zRow (y : Nat) : Prop := ∀ (pc : Nat) (i : Instr) (len : Nat) (K : zK) (tg : List Nat), pc < 4096 → zPt y pc = some (i, len, K, tg) → decode (zM y).2.1 pc = .ok (i, len) ∧ (zbig i = false → zfact zcl zTs lw_tbl zZs0 zty (zM y).1.cls (zM y).1.name (zM y).2.2.1 i K tg len pc) ∧ zcf zcl zTs lw_tbl zM (zM y).1.cls (zM y).2.2.2.1 (zM y).2.2.2.2.1 (zM y).2.2.2.2.2 i K len
theorem zrow_ok2 {f : Nat → Option (Instr × Nat × zK × List Nat)} {y N : Nat} {nm : MethodName} {b : ByteArray} {o nL kd np : Nat} {ret : Option FieldType} {fr lo : Nat} (hM : zMx y = ((nm, b, nL, ret, fr, lo), kd, o, np)) (hk : kd ≠ 99) (hf : ∀ pc, zPt y pc = f pc) (hN : ∀ pc, N ≤ pc → pc < 4096 → f pc = none) (h : ∀ pc, pc < N → zst f b o nL (kd == 2) ret fr lo pc (b.data.toList.drop pc) = true) : zRow y := by
  intro pc i len K tg hpc hz
  rw [hf] at hz
  have hlt : pc < N := by
    rcases Nat.lt_or_ge pc N with q | q
    · exact q
    · rw [hN pc q hpc] at hz; cases hz
  have h1 := h pc hlt
  have h2 : ((zdk i (b.data.toList.drop pc) len || decide (decode b pc = .ok (i, len))) && zchI o nL (kd == 2) ret fr lo pc i len K tg) = true := by
    unfold zst at h1
    rw [hz] at h1
    exact h1
  obtain ⟨h3, h4⟩ := and_true_iff_z h2
  have h5 : decode b pc = .ok (i, len) := by
    cases hq : zdk i (b.data.toList.drop pc) len with
    | true => exact zdk_ok rfl hq
    | false =>
      rw [hq] at h3
      exact of_decide_eq_true h3
  have hmk : zMk y = kd := by unfold zMk; rw [hM]
  have hok := zMx_ok (y := y) (by rw [hmk]; exact hk)
  rw [hM] at hok
  obtain ⟨q1, q2⟩ := hok
  show decode (zMx y).1.2.1 pc = .ok (i, len) ∧ (zbig i = false → zfact zcl zTs lw_tbl zZs0 zty (zMx y).1.1.cls (zMx y).1.1.name (zMx y).1.2.2.1 i K tg len pc) ∧ zcf zcl zTs lw_tbl zM (zMx y).1.1.cls (zMx y).1.2.2.2.1 (zMx y).1.2.2.2.2.1 (zMx y).1.2.2.2.2.2 i K len
  rw [hM]
  refine ⟨h5, zchI_ok q1 (fun hq => ?_) h4⟩
  have hkd : kd = 2 := by simpa using hq
  obtain ⟨-, -, -, -, -, -, q3⟩ := q2 (by show kd ≠ 9; rw [hkd]; decide)
  exact (q3 hkd).2.1
theorem zrow_ok {f : Nat → Option (Instr × Nat × zK × List Nat)} {y N : Nat} {nm : MethodName} {b : ByteArray} {o nL kd np : Nat} {ret : Option FieldType} {fr lo : Nat} (hM : zMx y = ((nm, b, nL, ret, fr, lo), kd, o, np)) (hk : kd ≠ 99) (hf : ∀ pc, zPt y pc = f pc) (hN : ∀ pc, N ≤ pc → pc < 4096 → f pc = none) (h : zwk f b o nL (kd == 2) ret fr lo N 0 b.data.toList = true) : zRow y := zrow_ok2 hM hk hf hN (fun pc hp => by
  have h9 := zwk_at N 0 _ h pc hp
  rw [Nat.zero_add] at h9
  exact h9)
set_option maxRecDepth 100000 in
theorem zq_0 : zwk zp_0 prog_2_method_1_code 0 1 true none 1 20 53 0 prog_2_method_1_code.data.toList = true := by decide +kernel
theorem zn_0 : ∀ pc, 53 ≤ pc → pc < 4096 → zp_0 pc = none := fun pc h _ => zno2 h
set_option maxRecDepth 100000 in
theorem zr_0 : zRow 0 := zrow_ok (f := zp_0) (N := 53) (kd := 2) rfl (by decide) (fun _ => rfl) zn_0 zq_0
set_option maxRecDepth 100000 in
theorem zq_1 : zwk zp_1 prog_2_method_2_code 0 2 false none 1 24 99 0 prog_2_method_2_code.data.toList = true := by decide +kernel
theorem zn_1 : ∀ pc, 99 ≤ pc → pc < 4096 → zp_1 pc = none := fun pc h _ => zno2 h
set_option maxRecDepth 100000 in
theorem zr_1 : zRow 1 := zrow_ok (f := zp_1) (N := 99) (kd := 0) rfl (by decide) (fun _ => rfl) zn_1 zq_1
set_option maxRecDepth 100000 in
theorem zq_2 : zwk zp_2 prog_2_method_3_code 0 3 false (some (.int)) 0 0 30 0 prog_2_method_3_code.data.toList = true := by decide +kernel
theorem zn_2 : ∀ pc, 30 ≤ pc → pc < 4096 → zp_2 pc = none := fun pc h _ => zno2 h
set_option maxRecDepth 100000 in
theorem zr_2 : zRow 2 := zrow_ok (f := zp_2) (N := 30) (kd := 0) rfl (by decide) (fun _ => rfl) zn_2 zq_2
set_option maxRecDepth 100000 in
theorem zq_3 : zwk zp_3 prog_2_method_4_code 0 3 false (some (.boolean)) 0 0 26 0 prog_2_method_4_code.data.toList = true := by decide +kernel
theorem zn_3 : ∀ pc, 26 ≤ pc → pc < 4096 → zp_3 pc = none := fun pc h _ => zno2 h
set_option maxRecDepth 100000 in
theorem zr_3 : zRow 3 := zrow_ok (f := zp_3) (N := 26) (kd := 0) rfl (by decide) (fun _ => rfl) zn_3 zq_3
set_option maxRecDepth 100000 in
theorem zq_4 : zwk zp_4 prog_2_method_5_code 0 5 false (some (.int)) 1 22 38 0 prog_2_method_5_code.data.toList = true := by decide +kernel
theorem zn_4 : ∀ pc, 38 ≤ pc → pc < 4096 → zp_4 pc = none := fun pc h _ => zno2 h
set_option maxRecDepth 100000 in
theorem zr_4 : zRow 4 := zrow_ok (f := zp_4) (N := 38) (kd := 0) rfl (by decide) (fun _ => rfl) zn_4 zq_4
set_option maxRecDepth 100000 in
theorem zq_5 : zwk zp_5 prog_2_method_6_code 0 5 false (some (.int)) 1 22 48 0 prog_2_method_6_code.data.toList = true := by decide +kernel
theorem zn_5 : ∀ pc, 48 ≤ pc → pc < 4096 → zp_5 pc = none := fun pc h _ => zno2 h
set_option maxRecDepth 100000 in
theorem zr_5 : zRow 5 := zrow_ok (f := zp_5) (N := 48) (kd := 0) rfl (by decide) (fun _ => rfl) zn_5 zq_5
set_option maxRecDepth 100000 in
theorem zq_6 : zwk zp_6 prog_2_method_7_code 0 5 false (some (.int)) 1 22 57 0 prog_2_method_7_code.data.toList = true := by decide +kernel
theorem zn_6 : ∀ pc, 57 ≤ pc → pc < 4096 → zp_6 pc = none := fun pc h _ => zno2 h
set_option maxRecDepth 100000 in
theorem zr_6 : zRow 6 := zrow_ok (f := zp_6) (N := 57) (kd := 0) rfl (by decide) (fun _ => rfl) zn_6 zq_6
set_option maxRecDepth 100000 in
theorem zq_7 : zwk zp_7 prog_2_method_8_code 0 5 false (some (.int)) 2 46 125 0 prog_2_method_8_code.data.toList = true := by decide +kernel
theorem zn_7 : ∀ pc, 125 ≤ pc → pc < 4096 → zp_7 pc = none := fun pc h _ => zno2 h
set_option maxRecDepth 100000 in
theorem zr_7 : zRow 7 := zrow_ok (f := zp_7) (N := 125) (kd := 0) rfl (by decide) (fun _ => rfl) zn_7 zq_7
set_option maxRecDepth 100000 in
theorem zq_8 : zwk zp_8 prog_2_method_9_code 0 5 false none 3 70 35 0 prog_2_method_9_code.data.toList = true := by decide +kernel
theorem zn_8 : ∀ pc, 35 ≤ pc → pc < 4096 → zp_8 pc = none := fun pc h _ => zno2 h
set_option maxRecDepth 100000 in
theorem zr_8 : zRow 8 := zrow_ok (f := zp_8) (N := 35) (kd := 0) rfl (by decide) (fun _ => rfl) zn_8 zq_8
set_option maxRecDepth 100000 in
theorem zq_9 : zwk zp_9 prog_2_method_10_code 0 5 false (some (.int)) 2 50 9 0 prog_2_method_10_code.data.toList = true := by decide +kernel
theorem zn_9 : ∀ pc, 9 ≤ pc → pc < 4096 → zp_9 pc = none := fun pc h _ => zno2 h
set_option maxRecDepth 100000 in
theorem zr_9 : zRow 9 := zrow_ok (f := zp_9) (N := 9) (kd := 0) rfl (by decide) (fun _ => rfl) zn_9 zq_9
set_option maxRecDepth 100000 in
theorem zq_10 : zwk zp_10 prog_2_method_11_code 0 11 false (some (.int)) 1 20 99 0 prog_2_method_11_code.data.toList = true := by decide +kernel
theorem zn_10 : ∀ pc, 99 ≤ pc → pc < 4096 → zp_10 pc = none := fun pc h _ => zno2 h
set_option maxRecDepth 100000 in
theorem zr_10 : zRow 10 := zrow_ok (f := zp_10) (N := 99) (kd := 0) rfl (by decide) (fun _ => rfl) zn_10 zq_10
set_option maxRecDepth 100000 in
theorem zq_11 : zwk zp_11 prog_3_method_1_code 1 1 true none 1 20 21 0 prog_3_method_1_code.data.toList = true := by decide +kernel
theorem zn_11 : ∀ pc, 21 ≤ pc → pc < 4096 → zp_11 pc = none := fun pc h _ => zno2 h
set_option maxRecDepth 100000 in
theorem zr_11 : zRow 11 := zrow_ok (f := zp_11) (N := 21) (kd := 2) rfl (by decide) (fun _ => rfl) zn_11 zq_11
set_option maxRecDepth 100000 in
theorem zq_12 : zwk zp_12 prog_3_method_2_code 1 2 false none 1 26 33 0 prog_3_method_2_code.data.toList = true := by decide +kernel
theorem zn_12 : ∀ pc, 33 ≤ pc → pc < 4096 → zp_12 pc = none := fun pc h _ => zno2 h
set_option maxRecDepth 100000 in
theorem zr_12 : zRow 12 := zrow_ok (f := zp_12) (N := 33) (kd := 0) rfl (by decide) (fun _ => rfl) zn_12 zq_12
set_option maxRecDepth 100000 in
theorem zq_13 : zwk zp_13 prog_3_method_3_code 1 3 false (some (.boolean)) 0 0 33 0 prog_3_method_3_code.data.toList = true := by decide +kernel
theorem zn_13 : ∀ pc, 33 ≤ pc → pc < 4096 → zp_13 pc = none := fun pc h _ => zno2 h
set_option maxRecDepth 100000 in
theorem zr_13 : zRow 13 := zrow_ok (f := zp_13) (N := 33) (kd := 0) rfl (by decide) (fun _ => rfl) zn_13 zq_13
set_option maxRecDepth 100000 in
theorem zq_14 : zwk zp_14 prog_3_method_4_code 1 4 false none 2 48 77 0 prog_3_method_4_code.data.toList = true := by decide +kernel
theorem zn_14 : ∀ pc, 77 ≤ pc → pc < 4096 → zp_14 pc = none := fun pc h _ => zno2 h
set_option maxRecDepth 100000 in
theorem zr_14 : zRow 14 := zrow_ok (f := zp_14) (N := 77) (kd := 0) rfl (by decide) (fun _ => rfl) zn_14 zq_14
set_option maxRecDepth 100000 in
theorem zq_15 : zwk zp_15 prog_3_method_5_code 1 2 false none 1 21 13 0 prog_3_method_5_code.data.toList = true := by decide +kernel
theorem zn_15 : ∀ pc, 13 ≤ pc → pc < 4096 → zp_15 pc = none := fun pc h _ => zno2 h
set_option maxRecDepth 100000 in
theorem zr_15 : zRow 15 := zrow_ok (f := zp_15) (N := 13) (kd := 0) rfl (by decide) (fun _ => rfl) zn_15 zq_15
set_option maxRecDepth 100000 in
theorem zq_16 : zwk zp_16 prog_3_method_6_code 1 1 false (some (.boolean)) 0 0 16 0 prog_3_method_6_code.data.toList = true := by decide +kernel
theorem zn_16 : ∀ pc, 16 ≤ pc → pc < 4096 → zp_16 pc = none := fun pc h _ => zno2 h
set_option maxRecDepth 100000 in
theorem zr_16 : zRow 16 := zrow_ok (f := zp_16) (N := 16) (kd := 0) rfl (by decide) (fun _ => rfl) zn_16 zq_16
set_option maxRecDepth 100000 in
theorem zq_17 : zwk zp_17 prog_3_method_7_code 1 2 false (some (.boolean)) 1 20 25 0 prog_3_method_7_code.data.toList = true := by decide +kernel
theorem zn_17 : ∀ pc, 25 ≤ pc → pc < 4096 → zp_17 pc = none := fun pc h _ => zno2 h
set_option maxRecDepth 100000 in
theorem zr_17 : zRow 17 := zrow_ok (f := zp_17) (N := 25) (kd := 0) rfl (by decide) (fun _ => rfl) zn_17 zq_17
set_option maxRecDepth 100000 in
theorem zq_18 : zwk zp_18 prog_3_method_8_code 1 3 false (some (.boolean)) 1 23 18 0 prog_3_method_8_code.data.toList = true := by decide +kernel
theorem zn_18 : ∀ pc, 18 ≤ pc → pc < 4096 → zp_18 pc = none := fun pc h _ => zno2 h
set_option maxRecDepth 100000 in
theorem zr_18 : zRow 18 := zrow_ok (f := zp_18) (N := 18) (kd := 0) rfl (by decide) (fun _ => rfl) zn_18 zq_18
set_option maxRecDepth 100000 in
theorem zq_19 : zwk zp_19 prog_3_method_9_code 1 4 false (some (.boolean)) 0 0 40 0 prog_3_method_9_code.data.toList = true := by decide +kernel
theorem zn_19 : ∀ pc, 40 ≤ pc → pc < 4096 → zp_19 pc = none := fun pc h _ => zno2 h
set_option maxRecDepth 100000 in
theorem zr_19 : zRow 19 := zrow_ok (f := zp_19) (N := 40) (kd := 0) rfl (by decide) (fun _ => rfl) zn_19 zq_19
set_option maxRecDepth 100000 in
theorem zq_20 : zwk zp_20 prog_3_method_10_code 1 1 false (some (.int)) 0 0 18 0 prog_3_method_10_code.data.toList = true := by decide +kernel
theorem zn_20 : ∀ pc, 18 ≤ pc → pc < 4096 → zp_20 pc = none := fun pc h _ => zno2 h
set_option maxRecDepth 100000 in
theorem zr_20 : zRow 20 := zrow_ok (f := zp_20) (N := 18) (kd := 0) rfl (by decide) (fun _ => rfl) zn_20 zq_20
set_option maxRecDepth 100000 in
theorem zq_21 : zwk zp_21 prog_4_method_1_code 2 1 true none 1 20 21 0 prog_4_method_1_code.data.toList = true := by decide +kernel
theorem zn_21 : ∀ pc, 21 ≤ pc → pc < 4096 → zp_21 pc = none := fun pc h _ => zno2 h
set_option maxRecDepth 100000 in
theorem zr_21 : zRow 21 := zrow_ok (f := zp_21) (N := 21) (kd := 2) rfl (by decide) (fun _ => rfl) zn_21 zq_21
set_option maxRecDepth 100000 in
theorem zq_22 : zwk zp_22 prog_4_method_2_code 2 1 false none 0 0 11 0 prog_4_method_2_code.data.toList = true := by decide +kernel
theorem zn_22 : ∀ pc, 11 ≤ pc → pc < 4096 → zp_22 pc = none := fun pc h _ => zno2 h
set_option maxRecDepth 100000 in
theorem zr_22 : zRow 22 := zrow_ok (f := zp_22) (N := 11) (kd := 0) rfl (by decide) (fun _ => rfl) zn_22 zq_22
set_option maxRecDepth 100000 in
theorem zq_23 : zwk zp_23 prog_4_method_3_code 2 4 false none 1 26 69 0 prog_4_method_3_code.data.toList = true := by decide +kernel
theorem zn_23 : ∀ pc, 69 ≤ pc → pc < 4096 → zp_23 pc = none := fun pc h _ => zno2 h
set_option maxRecDepth 100000 in
theorem zr_23 : zRow 23 := zrow_ok (f := zp_23) (N := 69) (kd := 0) rfl (by decide) (fun _ => rfl) zn_23 zq_23
set_option maxRecDepth 100000 in
theorem zq_24 : zwk zp_24 prog_4_method_4_code 2 2 false (some (.long)) 1 26 60 0 prog_4_method_4_code.data.toList = true := by decide +kernel
theorem zn_24 : ∀ pc, 60 ≤ pc → pc < 4096 → zp_24 pc = none := fun pc h _ => zno2 h
set_option maxRecDepth 100000 in
theorem zr_24 : zRow 24 := zrow_ok (f := zp_24) (N := 60) (kd := 0) rfl (by decide) (fun _ => rfl) zn_24 zq_24
set_option maxRecDepth 100000 in
theorem zq_25 : zwk zp_25 prog_5_method_1_code 3 3 true none 2 40 98 0 prog_5_method_1_code.data.toList = true := by decide +kernel
theorem zn_25 : ∀ pc, 98 ≤ pc → pc < 4096 → zp_25 pc = none := fun pc h _ => zno2 h
set_option maxRecDepth 100000 in
theorem zr_25 : zRow 25 := zrow_ok (f := zp_25) (N := 98) (kd := 2) rfl (by decide) (fun _ => rfl) zn_25 zq_25
set_option maxRecDepth 100000 in
theorem zq_26 : zwk zp_26 prog_5_method_2_code 3 2 false none 0 0 37 0 prog_5_method_2_code.data.toList = true := by decide +kernel
theorem zn_26 : ∀ pc, 37 ≤ pc → pc < 4096 → zp_26 pc = none := fun pc h _ => zno2 h
set_option maxRecDepth 100000 in
theorem zr_26 : zRow 26 := zrow_ok (f := zp_26) (N := 37) (kd := 0) rfl (by decide) (fun _ => rfl) zn_26 zq_26
set_option maxRecDepth 100000 in
theorem zq_27 : zwk zp_27 prog_5_method_3_code 3 5 false (some (.object "SixJoints$Route")) 7 176 76 0 prog_5_method_3_code.data.toList = true := by decide +kernel
theorem zn_27 : ∀ pc, 76 ≤ pc → pc < 4096 → zp_27 pc = none := fun pc h _ => zno2 h
set_option maxRecDepth 100000 in
theorem zr_27 : zRow 27 := zrow_ok (f := zp_27) (N := 76) (kd := 0) rfl (by decide) (fun _ => rfl) zn_27 zq_27
set_option maxRecDepth 100000 in
theorem zq_28 : zwk zp_28 prog_5_method_4_code 3 7 false none 6 150 211 0 prog_5_method_4_code.data.toList = true := by decide +kernel
theorem zn_28 : ∀ pc, 211 ≤ pc → pc < 4096 → zp_28 pc = none := fun pc h _ => zno2 h
set_option maxRecDepth 100000 in
theorem zr_28 : zRow 28 := zrow_ok (f := zp_28) (N := 211) (kd := 0) rfl (by decide) (fun _ => rfl) zn_28 zq_28
set_option maxRecDepth 100000 in
theorem zq_29 : zwk zp_29 prog_5_method_5_code 3 10 false none 5 128 107 0 prog_5_method_5_code.data.toList = true := by decide +kernel
theorem zn_29 : ∀ pc, 107 ≤ pc → pc < 4096 → zp_29 pc = none := fun pc h _ => zno2 h
set_option maxRecDepth 100000 in
theorem zr_29 : zRow 29 := zrow_ok (f := zp_29) (N := 107) (kd := 0) rfl (by decide) (fun _ => rfl) zn_29 zq_29
set_option maxRecDepth 100000 in
theorem zq_30 : zwk zp_30 prog_5_method_6_code 3 3 false (some (.array .int)) 4 106 97 0 prog_5_method_6_code.data.toList = true := by decide +kernel
theorem zn_30 : ∀ pc, 97 ≤ pc → pc < 4096 → zp_30 pc = none := fun pc h _ => zno2 h
set_option maxRecDepth 100000 in
theorem zr_30 : zRow 30 := zrow_ok (f := zp_30) (N := 97) (kd := 0) rfl (by decide) (fun _ => rfl) zn_30 zq_30
set_option maxRecDepth 100000 in
theorem zq_31 : zwk zp_31 prog_5_method_7_code 3 6 false none 3 81 94 0 prog_5_method_7_code.data.toList = true := by decide +kernel
theorem zn_31 : ∀ pc, 94 ≤ pc → pc < 4096 → zp_31 pc = none := fun pc h _ => zno2 h
set_option maxRecDepth 100000 in
theorem zr_31 : zRow 31 := zrow_ok (f := zp_31) (N := 94) (kd := 0) rfl (by decide) (fun _ => rfl) zn_31 zq_31
set_option maxRecDepth 100000 in
theorem zq_32 : zwk zp_32 prog_5_method_8_code 3 12 false (some (.int)) 2 50 159 0 prog_5_method_8_code.data.toList = true := by decide +kernel
theorem zn_32 : ∀ pc, 159 ≤ pc → pc < 4096 → zp_32 pc = none := fun pc h _ => zno2 h
set_option maxRecDepth 100000 in
theorem zr_32 : zRow 32 := zrow_ok (f := zp_32) (N := 159) (kd := 0) rfl (by decide) (fun _ => rfl) zn_32 zq_32
set_option maxRecDepth 100000 in
theorem zq_33 : zwk zp_33 prog_6_method_2_code 11 3 false (some (.int)) 0 0 18 0 prog_6_method_2_code.data.toList = true := by decide +kernel
theorem zn_33 : ∀ pc, 18 ≤ pc → pc < 4096 → zp_33 pc = none := fun pc h _ => zno2 h
set_option maxRecDepth 100000 in
theorem zr_33 : zRow 33 := zrow_ok (f := zp_33) (N := 18) (kd := 1) rfl (by decide) (fun _ => rfl) zn_33 zq_33
set_option maxRecDepth 100000 in
theorem zq_34 : zwk zp_34 prog_6_method_3_code 11 5 false (some (.long)) 0 0 35 0 prog_6_method_3_code.data.toList = true := by decide +kernel
theorem zn_34 : ∀ pc, 35 ≤ pc → pc < 4096 → zp_34 pc = none := fun pc h _ => zno2 h
set_option maxRecDepth 100000 in
theorem zr_34 : zRow 34 := zrow_ok (f := zp_34) (N := 35) (kd := 1) rfl (by decide) (fun _ => rfl) zn_34 zq_34
set_option maxRecDepth 100000 in
theorem zq_35 : zwk zp_35 prog_6_method_4_code 11 2 false (some (.int)) 1 22 12 0 prog_6_method_4_code.data.toList = true := by decide +kernel
theorem zn_35 : ∀ pc, 12 ≤ pc → pc < 4096 → zp_35 pc = none := fun pc h _ => zno2 h
set_option maxRecDepth 100000 in
theorem zr_35 : zRow 35 := zrow_ok (f := zp_35) (N := 12) (kd := 1) rfl (by decide) (fun _ => rfl) zn_35 zq_35
set_option maxRecDepth 100000 in
theorem zq_36 : zwk zp_36 prog_6_method_5_code 11 2 false (some (.int)) 1 22 12 0 prog_6_method_5_code.data.toList = true := by decide +kernel
theorem zn_36 : ∀ pc, 12 ≤ pc → pc < 4096 → zp_36 pc = none := fun pc h _ => zno2 h
set_option maxRecDepth 100000 in
theorem zr_36 : zRow 36 := zrow_ok (f := zp_36) (N := 12) (kd := 1) rfl (by decide) (fun _ => rfl) zn_36 zq_36
set_option maxRecDepth 100000 in
theorem zq_37 : zwk zp_37 prog_6_method_6_code 11 2 false (some (.int)) 1 22 25 0 prog_6_method_6_code.data.toList = true := by decide +kernel
theorem zn_37 : ∀ pc, 25 ≤ pc → pc < 4096 → zp_37 pc = none := fun pc h _ => zno2 h
set_option maxRecDepth 100000 in
theorem zr_37 : zRow 37 := zrow_ok (f := zp_37) (N := 25) (kd := 1) rfl (by decide) (fun _ => rfl) zn_37 zq_37
set_option maxRecDepth 100000 in
theorem zq_38 : zwk zp_38 prog_6_method_7_code 11 5 false (some (.boolean)) 1 23 26 0 prog_6_method_7_code.data.toList = true := by decide +kernel
theorem zn_38 : ∀ pc, 26 ≤ pc → pc < 4096 → zp_38 pc = none := fun pc h _ => zno2 h
set_option maxRecDepth 100000 in
theorem zr_38 : zRow 38 := zrow_ok (f := zp_38) (N := 26) (kd := 1) rfl (by decide) (fun _ => rfl) zn_38 zq_38
set_option maxRecDepth 100000 in
theorem zq_39 : zwk zp_39 prog_6_method_8_code 11 4 false (some (.int)) 0 0 48 0 prog_6_method_8_code.data.toList = true := by decide +kernel
theorem zn_39 : ∀ pc, 48 ≤ pc → pc < 4096 → zp_39 pc = none := fun pc h _ => zno2 h
set_option maxRecDepth 100000 in
theorem zr_39 : zRow 39 := zrow_ok (f := zp_39) (N := 48) (kd := 1) rfl (by decide) (fun _ => rfl) zn_39 zq_39
set_option maxRecDepth 100000 in
theorem zq_40 : zwk zp_40 prog_6_method_9_code 11 8 false (some (.int)) 1 22 38 0 prog_6_method_9_code.data.toList = true := by decide +kernel
theorem zn_40 : ∀ pc, 38 ≤ pc → pc < 4096 → zp_40 pc = none := fun pc h _ => zno2 h
set_option maxRecDepth 100000 in
theorem zr_40 : zRow 40 := zrow_ok (f := zp_40) (N := 38) (kd := 1) rfl (by decide) (fun _ => rfl) zn_40 zq_40
set_option maxRecDepth 100000 in
theorem zq_41 : zwk zp_41 prog_6_method_10_code 11 9 false (some (.long)) 2 49 42 0 prog_6_method_10_code.data.toList = true := by decide +kernel
theorem zn_41 : ∀ pc, 42 ≤ pc → pc < 4096 → zp_41 pc = none := fun pc h _ => zno2 h
set_option maxRecDepth 100000 in
theorem zr_41 : zRow 41 := zrow_ok (f := zp_41) (N := 42) (kd := 1) rfl (by decide) (fun _ => rfl) zn_41 zq_41
set_option maxRecDepth 100000 in
theorem zq_42 : zwk zp_42 prog_7_method_1_code 4 1 true none 1 20 10 0 prog_7_method_1_code.data.toList = true := by decide +kernel
theorem zn_42 : ∀ pc, 10 ≤ pc → pc < 4096 → zp_42 pc = none := fun pc h _ => zno2 h
set_option maxRecDepth 100000 in
theorem zr_42 : zRow 42 := zrow_ok (f := zp_42) (N := 10) (kd := 2) rfl (by decide) (fun _ => rfl) zn_42 zq_42
set_option maxRecDepth 100000 in
theorem zq_43 : zwk zp_43 prog_7_method_2_code 4 4 false none 2 45 48 0 prog_7_method_2_code.data.toList = true := by decide +kernel
theorem zn_43 : ∀ pc, 48 ≤ pc → pc < 4096 → zp_43 pc = none := fun pc h _ => zno2 h
set_option maxRecDepth 100000 in
theorem zr_43 : zRow 43 := zrow_ok (f := zp_43) (N := 48) (kd := 0) rfl (by decide) (fun _ => rfl) zn_43 zq_43
set_option maxRecDepth 100000 in
theorem zq_44 : zwk zp_44 prog_7_method_3_code 4 1 false (some (.boolean)) 3 64 17 0 prog_7_method_3_code.data.toList = true := by decide +kernel
theorem zn_44 : ∀ pc, 17 ≤ pc → pc < 4096 → zp_44 pc = none := fun pc h _ => zno2 h
set_option maxRecDepth 100000 in
theorem zr_44 : zRow 44 := zrow_ok (f := zp_44) (N := 17) (kd := 0) rfl (by decide) (fun _ => rfl) zn_44 zq_44
set_option maxRecDepth 100000 in
theorem zq_45 : zwk zp_45 prog_7_method_4_code 4 2 false (some (.boolean)) 0 0 15 0 prog_7_method_4_code.data.toList = true := by decide +kernel
theorem zn_45 : ∀ pc, 15 ≤ pc → pc < 4096 → zp_45 pc = none := fun pc h _ => zno2 h
set_option maxRecDepth 100000 in
theorem zr_45 : zRow 45 := zrow_ok (f := zp_45) (N := 15) (kd := 0) rfl (by decide) (fun _ => rfl) zn_45 zq_45
set_option maxRecDepth 100000 in
theorem zq_46 : zwk zp_46 prog_7_method_5_code 4 3 false (some (.boolean)) 5 111 151 0 prog_7_method_5_code.data.toList = true := by decide +kernel
theorem zn_46 : ∀ pc, 151 ≤ pc → pc < 4096 → zp_46 pc = none := fun pc h _ => zno2 h
set_option maxRecDepth 100000 in
theorem zr_46 : zRow 46 := zrow_ok (f := zp_46) (N := 151) (kd := 0) rfl (by decide) (fun _ => rfl) zn_46 zq_46
set_option maxRecDepth 100000 in
theorem zq_47 : zwk zp_47 prog_7_method_6_code 4 2 false (some (.boolean)) 1 21 31 0 prog_7_method_6_code.data.toList = true := by decide +kernel
theorem zn_47 : ∀ pc, 31 ≤ pc → pc < 4096 → zp_47 pc = none := fun pc h _ => zno2 h
set_option maxRecDepth 100000 in
theorem zr_47 : zRow 47 := zrow_ok (f := zp_47) (N := 31) (kd := 0) rfl (by decide) (fun _ => rfl) zn_47 zq_47
set_option maxRecDepth 100000 in
theorem zq_48 : zwk zp_48 prog_7_method_7_code 4 4 false (some (.boolean)) 4 87 145 0 prog_7_method_7_code.data.toList = true := by decide +kernel
theorem zn_48 : ∀ pc, 145 ≤ pc → pc < 4096 → zp_48 pc = none := fun pc h _ => zno2 h
set_option maxRecDepth 100000 in
theorem zr_48 : zRow 48 := zrow_ok (f := zp_48) (N := 145) (kd := 0) rfl (by decide) (fun _ => rfl) zn_48 zq_48
set_option maxRecDepth 100000 in
theorem zq_49 : zwk zp_49 prog_7_method_8_code 4 2 false (some (.boolean)) 4 87 103 0 prog_7_method_8_code.data.toList = true := by decide +kernel
theorem zn_49 : ∀ pc, 103 ≤ pc → pc < 4096 → zp_49 pc = none := fun pc h _ => zno2 h
set_option maxRecDepth 100000 in
theorem zr_49 : zRow 49 := zrow_ok (f := zp_49) (N := 103) (kd := 0) rfl (by decide) (fun _ => rfl) zn_49 zq_49
set_option maxRecDepth 100000 in
theorem zq_50 : zwk zp_50 prog_7_method_9_code 4 2 false (some (.boolean)) 4 87 59 0 prog_7_method_9_code.data.toList = true := by decide +kernel
theorem zn_50 : ∀ pc, 59 ≤ pc → pc < 4096 → zp_50 pc = none := fun pc h _ => zno2 h
set_option maxRecDepth 100000 in
theorem zr_50 : zRow 50 := zrow_ok (f := zp_50) (N := 59) (kd := 0) rfl (by decide) (fun _ => rfl) zn_50 zq_50
set_option maxRecDepth 100000 in
theorem zq_51 : zwk zp_51 prog_7_method_10_code 4 2 false (some (.boolean)) 4 87 58 0 prog_7_method_10_code.data.toList = true := by decide +kernel
theorem zn_51 : ∀ pc, 58 ≤ pc → pc < 4096 → zp_51 pc = none := fun pc h _ => zno2 h
set_option maxRecDepth 100000 in
theorem zr_51 : zRow 51 := zrow_ok (f := zp_51) (N := 58) (kd := 0) rfl (by decide) (fun _ => rfl) zn_51 zq_51
set_option maxRecDepth 100000 in
theorem zq_52 : zwk zp_52 prog_7_method_11_code 4 5 false (some (.boolean)) 4 87 136 0 prog_7_method_11_code.data.toList = true := by decide +kernel
theorem zn_52 : ∀ pc, 136 ≤ pc → pc < 4096 → zp_52 pc = none := fun pc h _ => zno2 h
set_option maxRecDepth 100000 in
theorem zr_52 : zRow 52 := zrow_ok (f := zp_52) (N := 136) (kd := 0) rfl (by decide) (fun _ => rfl) zn_52 zq_52
set_option maxRecDepth 100000 in
theorem zq_53 : zwk zp_53 prog_7_method_12_code 4 3 false (some (.boolean)) 4 84 74 0 prog_7_method_12_code.data.toList = true := by decide +kernel
theorem zn_53 : ∀ pc, 74 ≤ pc → pc < 4096 → zp_53 pc = none := fun pc h _ => zno2 h
set_option maxRecDepth 100000 in
theorem zr_53 : zRow 53 := zrow_ok (f := zp_53) (N := 74) (kd := 0) rfl (by decide) (fun _ => rfl) zn_53 zq_53
set_option maxRecDepth 100000 in
theorem zq_54 : zwk zp_54 prog_7_method_13_code 4 1 false (some (.boolean)) 3 64 34 0 prog_7_method_13_code.data.toList = true := by decide +kernel
theorem zn_54 : ∀ pc, 34 ≤ pc → pc < 4096 → zp_54 pc = none := fun pc h _ => zno2 h
set_option maxRecDepth 100000 in
theorem zr_54 : zRow 54 := zrow_ok (f := zp_54) (N := 34) (kd := 0) rfl (by decide) (fun _ => rfl) zn_54 zq_54
set_option maxRecDepth 100000 in
theorem zq_55 : zwk zp_55 prog_7_method_14_code 4 4 false (some (.boolean)) 3 64 60 0 prog_7_method_14_code.data.toList = true := by decide +kernel
theorem zn_55 : ∀ pc, 60 ≤ pc → pc < 4096 → zp_55 pc = none := fun pc h _ => zno2 h
set_option maxRecDepth 100000 in
theorem zr_55 : zRow 55 := zrow_ok (f := zp_55) (N := 60) (kd := 0) rfl (by decide) (fun _ => rfl) zn_55 zq_55
set_option maxRecDepth 100000 in
theorem zq_56 : zwk zp_56 prog_7_method_15_code 4 2 false (some (.int)) 0 0 32 0 prog_7_method_15_code.data.toList = true := by decide +kernel
theorem zn_56 : ∀ pc, 32 ≤ pc → pc < 4096 → zp_56 pc = none := fun pc h _ => zno2 h
set_option maxRecDepth 100000 in
theorem zr_56 : zRow 56 := zrow_ok (f := zp_56) (N := 32) (kd := 0) rfl (by decide) (fun _ => rfl) zn_56 zq_56
set_option maxRecDepth 100000 in
theorem zq_57 : zwk zp_57 prog_7_method_16_code 4 4 false (some (.boolean)) 0 0 34 0 prog_7_method_16_code.data.toList = true := by decide +kernel
theorem zn_57 : ∀ pc, 34 ≤ pc → pc < 4096 → zp_57 pc = none := fun pc h _ => zno2 h
set_option maxRecDepth 100000 in
theorem zr_57 : zRow 57 := zrow_ok (f := zp_57) (N := 34) (kd := 0) rfl (by decide) (fun _ => rfl) zn_57 zq_57
set_option maxRecDepth 100000 in
theorem zq_58 : zwk zp_58 prog_7_method_17_code 4 1 false none 2 44 224 0 prog_7_method_17_code.data.toList = true := by decide +kernel
theorem zn_58 : ∀ pc, 224 ≤ pc → pc < 4096 → zp_58 pc = none := fun pc h _ => zno2 h
set_option maxRecDepth 100000 in
theorem zr_58 : zRow 58 := zrow_ok (f := zp_58) (N := 224) (kd := 0) rfl (by decide) (fun _ => rfl) zn_58 zq_58
set_option maxRecDepth 100000 in
theorem zq_59 : zwk zp_59 prog_7_method_18_code 4 2 false none 1 23 101 0 prog_7_method_18_code.data.toList = true := by decide +kernel
theorem zn_59 : ∀ pc, 101 ≤ pc → pc < 4096 → zp_59 pc = none := fun pc h _ => zno2 h
set_option maxRecDepth 100000 in
theorem zr_59 : zRow 59 := zrow_ok (f := zp_59) (N := 101) (kd := 0) rfl (by decide) (fun _ => rfl) zn_59 zq_59
set_option maxRecDepth 100000 in
theorem zq_60 : zwk zp_60 prog_7_method_19_code 4 2 false (some (.int)) 1 23 66 0 prog_7_method_19_code.data.toList = true := by decide +kernel
theorem zn_60 : ∀ pc, 66 ≤ pc → pc < 4096 → zp_60 pc = none := fun pc h _ => zno2 h
set_option maxRecDepth 100000 in
theorem zr_60 : zRow 60 := zrow_ok (f := zp_60) (N := 66) (kd := 0) rfl (by decide) (fun _ => rfl) zn_60 zq_60
set_option maxRecDepth 100000 in
theorem zq_61 : zwk zp_61 prog_8_method_1_code 5 1 true none 1 20 28 0 prog_8_method_1_code.data.toList = true := by decide +kernel
theorem zn_61 : ∀ pc, 28 ≤ pc → pc < 4096 → zp_61 pc = none := fun pc h _ => zno2 h
set_option maxRecDepth 100000 in
theorem zr_61 : zRow 61 := zrow_ok (f := zp_61) (N := 28) (kd := 2) rfl (by decide) (fun _ => rfl) zn_61 zq_61
set_option maxRecDepth 100000 in
theorem zq_62 : zwk zp_62 prog_8_method_2_code 5 2 false none 0 0 16 0 prog_8_method_2_code.data.toList = true := by decide +kernel
theorem zn_62 : ∀ pc, 16 ≤ pc → pc < 4096 → zp_62 pc = none := fun pc h _ => zno2 h
set_option maxRecDepth 100000 in
theorem zr_62 : zRow 62 := zrow_ok (f := zp_62) (N := 16) (kd := 0) rfl (by decide) (fun _ => rfl) zn_62 zq_62
set_option maxRecDepth 100000 in
theorem zq_63 : zwk zp_63 prog_8_method_3_code 5 8 false (some (.int)) 4 101 131 0 prog_8_method_3_code.data.toList = true := by decide +kernel
theorem zn_63 : ∀ pc, 131 ≤ pc → pc < 4096 → zp_63 pc = none := fun pc h _ => zno2 h
set_option maxRecDepth 100000 in
theorem zr_63 : zRow 63 := zrow_ok (f := zp_63) (N := 131) (kd := 0) rfl (by decide) (fun _ => rfl) zn_63 zq_63
set_option maxRecDepth 100000 in
theorem zq_64 : zwk zp_64 prog_8_method_4_code 5 8 false (some (.int)) 3 74 96 0 prog_8_method_4_code.data.toList = true := by decide +kernel
theorem zn_64 : ∀ pc, 96 ≤ pc → pc < 4096 → zp_64 pc = none := fun pc h _ => zno2 h
set_option maxRecDepth 100000 in
theorem zr_64 : zRow 64 := zrow_ok (f := zp_64) (N := 96) (kd := 0) rfl (by decide) (fun _ => rfl) zn_64 zq_64
set_option maxRecDepth 100000 in
theorem zq_65 : zwk zp_65 prog_8_method_5_code 5 4 false none 3 74 181 0 prog_8_method_5_code.data.toList = true := by decide +kernel
theorem zn_65 : ∀ pc, 181 ≤ pc → pc < 4096 → zp_65 pc = none := fun pc h _ => zno2 h
set_option maxRecDepth 100000 in
theorem zr_65 : zRow 65 := zrow_ok (f := zp_65) (N := 181) (kd := 0) rfl (by decide) (fun _ => rfl) zn_65 zq_65
set_option maxRecDepth 100000 in
theorem zq_66 : zwk zp_66 prog_8_method_6_code 5 6 false (some (.int)) 1 21 74 0 prog_8_method_6_code.data.toList = true := by decide +kernel
theorem zn_66 : ∀ pc, 74 ≤ pc → pc < 4096 → zp_66 pc = none := fun pc h _ => zno2 h
set_option maxRecDepth 100000 in
theorem zr_66 : zRow 66 := zrow_ok (f := zp_66) (N := 74) (kd := 0) rfl (by decide) (fun _ => rfl) zn_66 zq_66
set_option maxRecDepth 100000 in
theorem zq_67 : zwk zp_67 prog_9_method_1_code 6 1 true none 1 20 29 0 prog_9_method_1_code.data.toList = true := by decide +kernel
theorem zn_67 : ∀ pc, 29 ≤ pc → pc < 4096 → zp_67 pc = none := fun pc h _ => zno2 h
set_option maxRecDepth 100000 in
theorem zr_67 : zRow 67 := zrow_ok (f := zp_67) (N := 29) (kd := 2) rfl (by decide) (fun _ => rfl) zn_67 zq_67
set_option maxRecDepth 100000 in
theorem zq_68 : zwk zp_68 prog_9_method_2_code 6 4 false none 0 0 23 0 prog_9_method_2_code.data.toList = true := by decide +kernel
theorem zn_68 : ∀ pc, 23 ≤ pc → pc < 4096 → zp_68 pc = none := fun pc h _ => zno2 h
set_option maxRecDepth 100000 in
theorem zr_68 : zRow 68 := zrow_ok (f := zp_68) (N := 23) (kd := 0) rfl (by decide) (fun _ => rfl) zn_68 zq_68
set_option maxRecDepth 100000 in
theorem zq_69 : zwk zp_69 prog_9_method_3_code 6 10 false none 3 77 122 0 prog_9_method_3_code.data.toList = true := by decide +kernel
theorem zn_69 : ∀ pc, 122 ≤ pc → pc < 4096 → zp_69 pc = none := fun pc h _ => zno2 h
set_option maxRecDepth 100000 in
theorem zr_69 : zRow 69 := zrow_ok (f := zp_69) (N := 122) (kd := 0) rfl (by decide) (fun _ => rfl) zn_69 zq_69
set_option maxRecDepth 100000 in
theorem zq_70 : zwk zp_70 prog_9_method_4_code 6 4 false (some (.int)) 1 22 36 0 prog_9_method_4_code.data.toList = true := by decide +kernel
theorem zn_70 : ∀ pc, 36 ≤ pc → pc < 4096 → zp_70 pc = none := fun pc h _ => zno2 h
set_option maxRecDepth 100000 in
theorem zr_70 : zRow 70 := zrow_ok (f := zp_70) (N := 36) (kd := 0) rfl (by decide) (fun _ => rfl) zn_70 zq_70
set_option maxRecDepth 100000 in
theorem zq_71 : zwk zp_71 prog_9_method_5_code 6 6 false (some (.int)) 2 45 36 0 prog_9_method_5_code.data.toList = true := by decide +kernel
theorem zn_71 : ∀ pc, 36 ≤ pc → pc < 4096 → zp_71 pc = none := fun pc h _ => zno2 h
set_option maxRecDepth 100000 in
theorem zr_71 : zRow 71 := zrow_ok (f := zp_71) (N := 36) (kd := 0) rfl (by decide) (fun _ => rfl) zn_71 zq_71
set_option maxRecDepth 100000 in
theorem zq_72 : zwk zp_72 prog_9_method_6_code 6 6 false (some (.int)) 2 45 58 0 prog_9_method_6_code.data.toList = true := by decide +kernel
theorem zn_72 : ∀ pc, 58 ≤ pc → pc < 4096 → zp_72 pc = none := fun pc h _ => zno2 h
set_option maxRecDepth 100000 in
theorem zr_72 : zRow 72 := zrow_ok (f := zp_72) (N := 58) (kd := 0) rfl (by decide) (fun _ => rfl) zn_72 zq_72
set_option maxRecDepth 100000 in
theorem zq_73 : zwk zp_73 prog_9_method_7_code 6 5 false (some (.int)) 3 70 34 0 prog_9_method_7_code.data.toList = true := by decide +kernel
theorem zn_73 : ∀ pc, 34 ≤ pc → pc < 4096 → zp_73 pc = none := fun pc h _ => zno2 h
set_option maxRecDepth 100000 in
theorem zr_73 : zRow 73 := zrow_ok (f := zp_73) (N := 34) (kd := 0) rfl (by decide) (fun _ => rfl) zn_73 zq_73
set_option maxRecDepth 100000 in
theorem zq_74 : zwk zp_74 prog_9_method_8_code 6 4 false (some (.int)) 5 119 25 0 prog_9_method_8_code.data.toList = true := by decide +kernel
theorem zn_74 : ∀ pc, 25 ≤ pc → pc < 4096 → zp_74 pc = none := fun pc h _ => zno2 h
set_option maxRecDepth 100000 in
theorem zr_74 : zRow 74 := zrow_ok (f := zp_74) (N := 25) (kd := 0) rfl (by decide) (fun _ => rfl) zn_74 zq_74
set_option maxRecDepth 100000 in
theorem zq_75 : zwk zp_75 prog_9_method_9_code 6 6 false (some (.boolean)) 4 94 61 0 prog_9_method_9_code.data.toList = true := by decide +kernel
theorem zn_75 : ∀ pc, 61 ≤ pc → pc < 4096 → zp_75 pc = none := fun pc h _ => zno2 h
set_option maxRecDepth 100000 in
theorem zr_75 : zRow 75 := zrow_ok (f := zp_75) (N := 61) (kd := 0) rfl (by decide) (fun _ => rfl) zn_75 zq_75
set_option maxRecDepth 100000 in
theorem zq_76 : zwk zp_76 prog_9_method_10_code 6 6 false (some (.int)) 3 65 58 0 prog_9_method_10_code.data.toList = true := by decide +kernel
theorem zn_76 : ∀ pc, 58 ≤ pc → pc < 4096 → zp_76 pc = none := fun pc h _ => zno2 h
set_option maxRecDepth 100000 in
theorem zr_76 : zRow 76 := zrow_ok (f := zp_76) (N := 58) (kd := 0) rfl (by decide) (fun _ => rfl) zn_76 zq_76
set_option maxRecDepth 100000 in
theorem zq_77 : zwk zp_77 prog_9_method_11_code 6 5 false (some (.int)) 2 45 63 0 prog_9_method_11_code.data.toList = true := by decide +kernel
theorem zn_77 : ∀ pc, 63 ≤ pc → pc < 4096 → zp_77 pc = none := fun pc h _ => zno2 h
set_option maxRecDepth 100000 in
theorem zr_77 : zRow 77 := zrow_ok (f := zp_77) (N := 63) (kd := 0) rfl (by decide) (fun _ => rfl) zn_77 zq_77
set_option maxRecDepth 100000 in
theorem zq_78 : zwk zp_78 prog_9_method_12_code 6 11 false (some (.long)) 3 70 145 0 prog_9_method_12_code.data.toList = true := by decide +kernel
theorem zn_78 : ∀ pc, 145 ≤ pc → pc < 4096 → zp_78 pc = none := fun pc h _ => zno2 h
set_option maxRecDepth 100000 in
theorem zr_78 : zRow 78 := zrow_ok (f := zp_78) (N := 145) (kd := 0) rfl (by decide) (fun _ => rfl) zn_78 zq_78
set_option maxRecDepth 100000 in
theorem zq_79 : zwk zp_79 prog_9_method_13_code 6 4 false (some (.int)) 2 43 55 0 prog_9_method_13_code.data.toList = true := by decide +kernel
theorem zn_79 : ∀ pc, 55 ≤ pc → pc < 4096 → zp_79 pc = none := fun pc h _ => zno2 h
set_option maxRecDepth 100000 in
theorem zr_79 : zRow 79 := zrow_ok (f := zp_79) (N := 55) (kd := 0) rfl (by decide) (fun _ => rfl) zn_79 zq_79
