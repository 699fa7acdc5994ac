/-! What a run needs beside the good words of the tables: the text of the reference's words, what a throw needs. -/
noncomputable abbrev q4I : String := "java/lang/IndexOutOfBoundsException"
noncomputable abbrev q4N : String := "java/util/NoSuchElementException"
noncomputable abbrev q4U : List String := ["java/lang/RuntimeException", "java/lang/Exception"]
noncomputable def zTb : List Int32 := [108, 105, 110, 107, 32, 104, 97, 110, 100, 32, 104, 101, 105, 103, 104, 116, 32, 108, 105, 109, 105, 116, 32, 115, 112, 101, 101, 100, 32, 98, 108, 101, 110, 100, 32, 115, 101, 101, 100, 32, 114, 101, 115, 116, 32, 115, 112, 111, 116, 32, 103, 111, 32]
noncomputable abbrev zTx : String := "link hand height limit speed blend seed rest spot go "
/-- what a throw needs beside the good words of the tables -/
noncomputable def q4E (sz a1 a2 : Nat) (U : State) : Prop := vk_R "SixJoints" 150 "no such joint" a1 U ∧ vk_R "SixJoints" 172 "no such what" a2 U ∧ vx_Zq Bundle.tN "UNASSIGNED_STACK" Bundle.steD (fun q => sz ≤ q) U U.heap ∧ vx_Zq Bundle.tN "SUPPRESSED_SENTINEL" Bundle.listD (fun q => sz ≤ q) U U.heap ∧ va_Nw (.castable q4I q4I) U ∧ va_Nw (.castable q4N q4N) U ∧ va_Nw (.declares (Bundle.initS "java/lang/RuntimeException")) U ∧ va_Nw (.declares (Bundle.initS "java/lang/Exception")) U ∧ va_Nw (.declares (Bundle.initS Bundle.tN)) U ∧ va_Nc q4N q4I U
theorem q4E_at {sz a1 a2 : Nat} {s U : State} {H : Heap} {locs : List Loc} (h : q4E sz a1 a2 s) (hS : va_S (fun q => sz ≤ q) s.heap H locs) (hU : U.heap = H) (hW : s.WarmedH U.vm) : q4E sz a1 a2 U := by
  obtain ⟨h1, h2, h3, h4, h5, h6, h7, h8, h9, h10⟩ := h
  refine ⟨vk_R.warm hW h1, vk_R.warm hW h2, ?_, ?_, va_Nw.warmC hW h5, va_Nw.warmC hW h6, va_Nw.warmD hW h7, va_Nw.warmD hW h8, va_Nw.warmD hW h9, va_Nc.moved hW.alike h10⟩
  · rw [hU]; exact (vx_Zq.moved hW.alike h3).kept hS.2.1
  · rw [hU]; exact (vx_Zq.moved hW.alike h4).kept hS.2.1
theorem q4E_same {sz a1 a2 : Nat} {s U : State} (h : q4E sz a1 a2 s) (hv : s.vm = U.vm) (hh : U.heap = s.heap) : q4E sz a1 a2 U := by
  obtain ⟨h1, h2, h3, h4, h5, h6, h7, h8, h9, h10⟩ := h
  have hal : s.vm.Alike U.vm := by rw [hv]; exact Vm.Alike.refl _
  refine ⟨vk_R.same hv.symm h1, vk_R.same hv.symm h2, ?_, ?_, va_Nw.same rfl hv h5, va_Nw.same rfl hv h6, va_Nw.same rfl hv h7, va_Nw.same rfl hv h8, va_Nw.same rfl hv h9, va_Nc.moved hal h10⟩
  · rw [hh]; exact vx_Zq.moved hal h3
  · rw [hh]; exact vx_Zq.moved hal h4
/-- the text of the reference's words: its cell at ka 6, its bytes at ka 7; what charAt reads; what a throw needs -/
noncomputable def zXe (sz : Nat) (ka : Nat → Nat) (U : State) : Prop :=
  vk_R "SixJointsModel" 169 zTx (ka 6) U ∧ vk_S 1 [53] [zTb] (fun _ => ka 6) (fun _ => ka 7) (fun q => sz ≤ q) U U.heap ∧ va_Z "java/lang/String" "COMPACT_STRINGS" "Z" (.int 1) (fun q => sz ≤ q) U U.heap ∧ (va_Z "jdk/internal/util/Preconditions" "SIOOBE_FORMATTER" "Ljava/util/function/BiFunction;" .null (fun q => sz ≤ q) U U.heap ∨ va_Z "jdk/internal/util/Preconditions" "SIOOBE_FORMATTER" "Ljava/util/function/BiFunction;" (.ref (ka 8)) (fun q => sz ≤ q) U U.heap) ∧ q4E sz (ka 9) (ka 10) U
theorem zXe_at {sz : Nat} {ka : Nat → Nat} {s U : State} {H : Heap} {locs : List Loc} (h : zXe sz ka s) (hS : va_S (fun q => sz ≤ q) s.heap H locs) (hU : U.heap = H) (hW : s.WarmedH U.vm) : zXe sz ka U := by
  obtain ⟨h1, h2, h3, h4, h5⟩ := h
  refine ⟨vk_R.warm hW h1, ?_, ?_, ?_, q4E_at h5 hS hU hW⟩
  · rw [hU]; exact (vk_S.moved hW.alike h2).kept hS.2.1
  · rw [hU]; exact (va_Z.moved hW.alike h3).kept hS.2.1
  · rw [hU]; exact h4.imp (fun k => (va_Z.moved hW.alike k).kept hS.2.1) (fun k => (va_Z.moved hW.alike k).kept hS.2.1)
theorem zXe_same {sz : Nat} {ka : Nat → Nat} {s U : State} (h : zXe sz ka s) (hv : s.vm = U.vm) (hh : U.heap = s.heap) : zXe sz ka U := by
  obtain ⟨h1, h2, h3, h4, h5⟩ := h
  have hal : s.vm.Alike U.vm := by rw [hv]; exact Vm.Alike.refl _
  refine ⟨vk_R.same hv.symm h1, ?_, ?_, ?_, q4E_same h5 hv hh⟩
  · rw [hh]; exact vk_S.moved hal h2
  · rw [hh]; exact va_Z.moved hal h3
  · rw [hh]; exact h4.imp (fun k => va_Z.moved hal k) (fun k => va_Z.moved hal k)
