/-! The tables' words. -/
theorem zinP_1 {w : Cond} (j : Nat) (h : tables_1_1[j]? = some w) : w ∈ tables_1 := show w ∈ tables_1_1 ++ (tables_1_2 ++ (tables_1_3 ++ (tables_1_4 ++ (tables_1_5 ++ (tables_1_6 ++ (tables_1_7 ++ (tables_1_8 ++ (tables_1_9)))))))) from List.mem_append_left _ (List.mem_of_getElem? h)
theorem zinP_2 {w : Cond} (j : Nat) (h : tables_1_2[j]? = some w) : w ∈ tables_1 := show w ∈ tables_1_1 ++ (tables_1_2 ++ (tables_1_3 ++ (tables_1_4 ++ (tables_1_5 ++ (tables_1_6 ++ (tables_1_7 ++ (tables_1_8 ++ (tables_1_9)))))))) from List.mem_append_right _ (List.mem_append_left _ (List.mem_of_getElem? h))
theorem zinP_3 {w : Cond} (j : Nat) (h : tables_1_3[j]? = some w) : w ∈ tables_1 := show w ∈ tables_1_1 ++ (tables_1_2 ++ (tables_1_3 ++ (tables_1_4 ++ (tables_1_5 ++ (tables_1_6 ++ (tables_1_7 ++ (tables_1_8 ++ (tables_1_9)))))))) from List.mem_append_right _ (List.mem_append_right _ (List.mem_append_left _ (List.mem_of_getElem? h)))
theorem zinP_4 {w : Cond} (j : Nat) (h : tables_1_4[j]? = some w) : w ∈ tables_1 := show w ∈ tables_1_1 ++ (tables_1_2 ++ (tables_1_3 ++ (tables_1_4 ++ (tables_1_5 ++ (tables_1_6 ++ (tables_1_7 ++ (tables_1_8 ++ (tables_1_9)))))))) from List.mem_append_right _ (List.mem_append_right _ (List.mem_append_right _ (List.mem_append_left _ (List.mem_of_getElem? h))))
theorem zinP_5 {w : Cond} (j : Nat) (h : tables_1_5[j]? = some w) : w ∈ tables_1 := show w ∈ tables_1_1 ++ (tables_1_2 ++ (tables_1_3 ++ (tables_1_4 ++ (tables_1_5 ++ (tables_1_6 ++ (tables_1_7 ++ (tables_1_8 ++ (tables_1_9)))))))) from List.mem_append_right _ (List.mem_append_right _ (List.mem_append_right _ (List.mem_append_right _ (List.mem_append_left _ (List.mem_of_getElem? h)))))
theorem zinP_6 {w : Cond} (j : Nat) (h : tables_1_6[j]? = some w) : w ∈ tables_1 := show w ∈ tables_1_1 ++ (tables_1_2 ++ (tables_1_3 ++ (tables_1_4 ++ (tables_1_5 ++ (tables_1_6 ++ (tables_1_7 ++ (tables_1_8 ++ (tables_1_9)))))))) from List.mem_append_right _ (List.mem_append_right _ (List.mem_append_right _ (List.mem_append_right _ (List.mem_append_right _ (List.mem_append_left _ (List.mem_of_getElem? h))))))
theorem zinP_7 {w : Cond} (j : Nat) (h : tables_1_7[j]? = some w) : w ∈ tables_1 := show w ∈ tables_1_1 ++ (tables_1_2 ++ (tables_1_3 ++ (tables_1_4 ++ (tables_1_5 ++ (tables_1_6 ++ (tables_1_7 ++ (tables_1_8 ++ (tables_1_9)))))))) from List.mem_append_right _ (List.mem_append_right _ (List.mem_append_right _ (List.mem_append_right _ (List.mem_append_right _ (List.mem_append_right _ (List.mem_append_left _ (List.mem_of_getElem? h)))))))
theorem zinP_8 {w : Cond} (j : Nat) (h : tables_1_8[j]? = some w) : w ∈ tables_1 := show w ∈ tables_1_1 ++ (tables_1_2 ++ (tables_1_3 ++ (tables_1_4 ++ (tables_1_5 ++ (tables_1_6 ++ (tables_1_7 ++ (tables_1_8 ++ (tables_1_9)))))))) from List.mem_append_right _ (List.mem_append_right _ (List.mem_append_right _ (List.mem_append_right _ (List.mem_append_right _ (List.mem_append_right _ (List.mem_append_right _ (List.mem_append_left _ (List.mem_of_getElem? h))))))))
theorem zinP_9 {w : Cond} (j : Nat) (h : tables_1_9[j]? = some w) : w ∈ tables_1 := show w ∈ tables_1_1 ++ (tables_1_2 ++ (tables_1_3 ++ (tables_1_4 ++ (tables_1_5 ++ (tables_1_6 ++ (tables_1_7 ++ (tables_1_8 ++ (tables_1_9)))))))) from List.mem_append_right _ (List.mem_append_right _ (List.mem_append_right _ (List.mem_append_right _ (List.mem_append_right _ (List.mem_append_right _ (List.mem_append_right _ (List.mem_append_right _ (List.mem_of_getElem? h))))))))
theorem zmh_0 : "SixJoints$Arm" ≠ "java/lang/invoke/MethodHandle" := by decide +kernel
theorem zvh_0 : "SixJoints$Arm" ≠ "java/lang/invoke/VarHandle" := by decide +kernel
theorem zmh_1 : "SixJoints$Held" ≠ "java/lang/invoke/MethodHandle" := by decide +kernel
theorem zvh_1 : "SixJoints$Held" ≠ "java/lang/invoke/VarHandle" := by decide +kernel
theorem zmh_2 : "SixJoints$Past" ≠ "java/lang/invoke/MethodHandle" := by decide +kernel
theorem zvh_2 : "SixJoints$Past" ≠ "java/lang/invoke/VarHandle" := by decide +kernel
theorem zmh_3 : "SixJoints$Planner" ≠ "java/lang/invoke/MethodHandle" := by decide +kernel
theorem zvh_3 : "SixJoints$Planner" ≠ "java/lang/invoke/VarHandle" := by decide +kernel
theorem zmh_4 : "SixJoints$Reader" ≠ "java/lang/invoke/MethodHandle" := by decide +kernel
theorem zvh_4 : "SixJoints$Reader" ≠ "java/lang/invoke/VarHandle" := by decide +kernel
theorem zmh_5 : "SixJoints$Rounds" ≠ "java/lang/invoke/MethodHandle" := by decide +kernel
theorem zvh_5 : "SixJoints$Rounds" ≠ "java/lang/invoke/VarHandle" := by decide +kernel
theorem zmh_6 : "SixJoints$Route" ≠ "java/lang/invoke/MethodHandle" := by decide +kernel
theorem zvh_6 : "SixJoints$Route" ≠ "java/lang/invoke/VarHandle" := by decide +kernel
theorem zmh_7 : "SixJoints$Solver" ≠ "java/lang/invoke/MethodHandle" := by decide +kernel
theorem zvh_7 : "SixJoints$Solver" ≠ "java/lang/invoke/VarHandle" := by decide +kernel
theorem zmh_8 : "SixJoints$Span" ≠ "java/lang/invoke/MethodHandle" := by decide +kernel
theorem zvh_8 : "SixJoints$Span" ≠ "java/lang/invoke/VarHandle" := by decide +kernel
theorem zmh_9 : "SixJoints" ≠ "java/lang/invoke/MethodHandle" := by decide +kernel
theorem zvh_9 : "SixJoints" ≠ "java/lang/invoke/VarHandle" := by decide +kernel
theorem zmh_10 : "SixJointsModel" ≠ "java/lang/invoke/MethodHandle" := by decide +kernel
theorem zvh_10 : "SixJointsModel" ≠ "java/lang/invoke/VarHandle" := by decide +kernel
theorem zmh_11 : "SixJoints$Posture" ≠ "java/lang/invoke/MethodHandle" := by decide +kernel
theorem zvh_11 : "SixJoints$Posture" ≠ "java/lang/invoke/VarHandle" := by decide +kernel
theorem zmh_12 : "SixJointsLaw" ≠ "java/lang/invoke/MethodHandle" := by decide +kernel
theorem zvh_12 : "SixJointsLaw" ≠ "java/lang/invoke/VarHandle" := by decide +kernel
theorem zmh_13 : "java/lang/Math" ≠ "java/lang/invoke/MethodHandle" := by decide +kernel
theorem zvh_13 : "java/lang/Math" ≠ "java/lang/invoke/VarHandle" := by decide +kernel
theorem zmh_14 : "java/util/Arrays" ≠ "java/lang/invoke/MethodHandle" := by decide +kernel
theorem zvh_14 : "java/util/Arrays" ≠ "java/lang/invoke/VarHandle" := by decide +kernel
-- ===== PART A: goes FIRST, ahead of the names: the tables' words, and 'selects' of the private methods out of them =====
/-- a private method of a class that the tables say can be made, by its rows of tables_1 -/
noncomputable def lw_okq (q : MethodName × Nat) : Prop := (q.1.cls ≠ "java/lang/invoke/MethodHandle" ∧ q.1.cls ≠ "java/lang/invoke/VarHandle") ∧ Cond.instantiable q.1.cls q.2 ∈ tables_1 ∧ Cond.privateMethod q.1 ∈ tables_1 ∧ Cond.instanceMethod q.1 ∈ tables_1
set_option maxRecDepth 100000 in
theorem lw_p0 : lw_okq (⟨"SixJoints", "begin", "()V"⟩, 18) := ⟨⟨zmh_9, zvh_9⟩, zinP_1 26 rfl, zinP_2 153 rfl, zinP_2 154 rfl⟩
set_option maxRecDepth 100000 in
theorem lw_p1 : lw_okq (⟨"SixJoints", "putFour", "(I)V"⟩, 18) := ⟨⟨zmh_9, zvh_9⟩, zinP_1 26 rfl, zinP_3 16 rfl, zinP_3 17 rfl⟩
set_option maxRecDepth 100000 in
theorem lw_p2 : lw_okq (⟨"SixJoints$Reader", "advance", "()V"⟩, 10) := ⟨⟨zmh_4, zvh_4⟩, zinP_1 34 rfl, zinP_3 36 rfl, zinP_3 37 rfl⟩
set_option maxRecDepth 100000 in
theorem lw_p3 : lw_okq (⟨"SixJoints$Reader", "hasFromTo", "(ICC)Z"⟩, 10) := ⟨⟨zmh_4, zvh_4⟩, zinP_1 34 rfl, zinP_3 40 rfl, zinP_3 41 rfl⟩
set_option maxRecDepth 100000 in
theorem lw_p4 : lw_okq (⟨"SixJoints$Reader", "takeWord", "()V"⟩, 10) := ⟨⟨zmh_4, zvh_4⟩, zinP_1 34 rfl, zinP_3 44 rfl, zinP_3 45 rfl⟩
set_option maxRecDepth 100000 in
theorem lw_p5 : lw_okq (⟨"SixJoints$Reader", "takeDigits", "()I"⟩, 10) := ⟨⟨zmh_4, zvh_4⟩, zinP_1 34 rfl, zinP_3 48 rfl, zinP_3 49 rfl⟩
set_option maxRecDepth 100000 in
theorem lw_p6 : lw_okq (⟨"SixJoints$Reader", "languageWord", "()I"⟩, 10) := ⟨⟨zmh_4, zvh_4⟩, zinP_1 34 rfl, zinP_3 57 rfl, zinP_3 58 rfl⟩
set_option maxRecDepth 100000 in
theorem lw_p7 : lw_okq (⟨"SixJoints$Reader", "refuse", "(I)Z"⟩, 10) := ⟨⟨zmh_4, zvh_4⟩, zinP_1 34 rfl, zinP_3 63 rfl, zinP_3 64 rfl⟩
set_option maxRecDepth 100000 in
theorem lw_p8 : lw_okq (⟨"SixJoints$Reader", "tellOnce", "(I)Z"⟩, 10) := ⟨⟨zmh_4, zvh_4⟩, zinP_1 34 rfl, zinP_3 67 rfl, zinP_3 68 rfl⟩
set_option maxRecDepth 100000 in
theorem lw_p9 : lw_okq (⟨"SixJoints$Reader", "readRest", "()Z"⟩, 10) := ⟨⟨zmh_4, zvh_4⟩, zinP_1 34 rfl, zinP_3 71 rfl, zinP_3 72 rfl⟩
set_option maxRecDepth 100000 in
theorem lw_p10 : lw_okq (⟨"SixJoints$Reader", "readNumber", "(IIZ)Z"⟩, 10) := ⟨⟨zmh_4, zvh_4⟩, zinP_1 34 rfl, zinP_3 77 rfl, zinP_3 78 rfl⟩
set_option maxRecDepth 100000 in
theorem lw_p11 : lw_okq (⟨"SixJoints$Reader", "readSingle", "(I)Z"⟩, 10) := ⟨⟨zmh_4, zvh_4⟩, zinP_1 34 rfl, zinP_3 82 rfl, zinP_3 83 rfl⟩
set_option maxRecDepth 100000 in
theorem lw_p12 : lw_okq (⟨"SixJoints$Reader", "readLimit", "()Z"⟩, 10) := ⟨⟨zmh_4, zvh_4⟩, zinP_1 34 rfl, zinP_3 87 rfl, zinP_3 88 rfl⟩
set_option maxRecDepth 100000 in
theorem lw_p13 : lw_okq (⟨"SixJoints$Reader", "readSpeed", "()Z"⟩, 10) := ⟨⟨zmh_4, zvh_4⟩, zinP_1 34 rfl, zinP_3 91 rfl, zinP_3 92 rfl⟩
set_option maxRecDepth 100000 in
theorem lw_p14 : lw_okq (⟨"SixJoints$Reader", "readSpot", "()Z"⟩, 10) := ⟨⟨zmh_4, zvh_4⟩, zinP_1 34 rfl, zinP_3 95 rfl, zinP_3 96 rfl⟩
set_option maxRecDepth 100000 in
theorem lw_p15 : lw_okq (⟨"SixJoints$Reader", "readName", "()Z"⟩, 10) := ⟨⟨zmh_4, zvh_4⟩, zinP_1 34 rfl, zinP_3 99 rfl, zinP_3 100 rfl⟩
noncomputable def lw_privs_1 : List (MethodName × Nat) := [(⟨"SixJoints", "begin", "()V"⟩, 18), (⟨"SixJoints", "putFour", "(I)V"⟩, 18), (⟨"SixJoints$Reader", "advance", "()V"⟩, 10), (⟨"SixJoints$Reader", "hasFromTo", "(ICC)Z"⟩, 10), (⟨"SixJoints$Reader", "takeWord", "()V"⟩, 10), (⟨"SixJoints$Reader", "takeDigits", "()I"⟩, 10), (⟨"SixJoints$Reader", "languageWord", "()I"⟩, 10), (⟨"SixJoints$Reader", "refuse", "(I)Z"⟩, 10), (⟨"SixJoints$Reader", "tellOnce", "(I)Z"⟩, 10), (⟨"SixJoints$Reader", "readRest", "()Z"⟩, 10), (⟨"SixJoints$Reader", "readNumber", "(IIZ)Z"⟩, 10), (⟨"SixJoints$Reader", "readSingle", "(I)Z"⟩, 10), (⟨"SixJoints$Reader", "readLimit", "()Z"⟩, 10), (⟨"SixJoints$Reader", "readSpeed", "()Z"⟩, 10), (⟨"SixJoints$Reader", "readSpot", "()Z"⟩, 10), (⟨"SixJoints$Reader", "readName", "()Z"⟩, 10)]
theorem lw_r1 : ∀ q ∈ lw_privs_1, lw_okq q := List.forall_mem_cons.mpr ⟨lw_p0, List.forall_mem_cons.mpr ⟨lw_p1, List.forall_mem_cons.mpr ⟨lw_p2, List.forall_mem_cons.mpr ⟨lw_p3, List.forall_mem_cons.mpr ⟨lw_p4, List.forall_mem_cons.mpr ⟨lw_p5, List.forall_mem_cons.mpr ⟨lw_p6, List.forall_mem_cons.mpr ⟨lw_p7, List.forall_mem_cons.mpr ⟨lw_p8, List.forall_mem_cons.mpr ⟨lw_p9, List.forall_mem_cons.mpr ⟨lw_p10, List.forall_mem_cons.mpr ⟨lw_p11, List.forall_mem_cons.mpr ⟨lw_p12, List.forall_mem_cons.mpr ⟨lw_p13, List.forall_mem_cons.mpr ⟨lw_p14, List.forall_mem_cons.mpr ⟨lw_p15, fun _ h => absurd h List.not_mem_nil⟩⟩⟩⟩⟩⟩⟩⟩⟩⟩⟩⟩⟩⟩⟩⟩
set_option maxRecDepth 100000 in
theorem lw_p16 : lw_okq (⟨"SixJoints$Reader", "readGo", "()Z"⟩, 10) := ⟨⟨zmh_4, zvh_4⟩, zinP_1 34 rfl, zinP_3 107 rfl, zinP_3 108 rfl⟩
set_option maxRecDepth 100000 in
theorem lw_p17 : lw_okq (⟨"SixJoints", "noSpot", "(I)Z"⟩, 18) := ⟨⟨zmh_9, zvh_9⟩, zinP_1 26 rfl, zinP_3 124 rfl, zinP_3 125 rfl⟩
set_option maxRecDepth 100000 in
theorem lw_p18 : lw_okq (⟨"SixJoints", "heldNow", "()LSixJoints$Held;"⟩, 18) := ⟨⟨zmh_9, zvh_9⟩, zinP_1 26 rfl, zinP_3 203 rfl, zinP_3 204 rfl⟩
set_option maxRecDepth 100000 in
theorem lw_p19 : lw_okq (⟨"SixJoints$Solver", "pitchBy", "(I)I"⟩, 10) := ⟨⟨zmh_7, zvh_7⟩, zinP_1 184 rfl, zinP_3 221 rfl, zinP_3 222 rfl⟩
set_option maxRecDepth 100000 in
theorem lw_p20 : lw_okq (⟨"SixJoints$Solver", "sidewaysFits", "(I)Z"⟩, 10) := ⟨⟨zmh_7, zvh_7⟩, zinP_1 184 rfl, zinP_3 225 rfl, zinP_3 226 rfl⟩
set_option maxRecDepth 100000 in
theorem lw_p21 : lw_okq (⟨"SixJoints$Solver", "fold", "(I)V"⟩, 10) := ⟨⟨zmh_7, zvh_7⟩, zinP_1 184 rfl, zinP_3 230 rfl, zinP_3 231 rfl⟩
set_option maxRecDepth 100000 in
theorem lw_p22 : lw_okq (⟨"SixJoints$Solver", "addFold", "(III)V"⟩, 10) := ⟨⟨zmh_7, zvh_7⟩, zinP_1 184 rfl, zinP_4 4 rfl, zinP_4 5 rfl⟩
set_option maxRecDepth 100000 in
theorem lw_p23 : lw_okq (⟨"SixJoints$Solver", "solveByTurn", "(I)V"⟩, 10) := ⟨⟨zmh_7, zvh_7⟩, zinP_1 184 rfl, zinP_4 12 rfl, zinP_4 13 rfl⟩
set_option maxRecDepth 100000 in
theorem lw_p24 : lw_okq (⟨"SixJoints$Solver", "rollBy", "(I)I"⟩, 10) := ⟨⟨zmh_7, zvh_7⟩, zinP_1 184 rfl, zinP_4 16 rfl, zinP_4 17 rfl⟩
set_option maxRecDepth 100000 in
theorem lw_p25 : lw_okq (⟨"SixJoints$Solver", "offer", "(IIII)V"⟩, 10) := ⟨⟨zmh_7, zvh_7⟩, zinP_1 184 rfl, zinP_4 21 rfl, zinP_4 22 rfl⟩
set_option maxRecDepth 100000 in
theorem lw_p26 : lw_okq (⟨"SixJoints$Solver", "sortByRail", "()V"⟩, 10) := ⟨⟨zmh_7, zvh_7⟩, zinP_1 184 rfl, zinP_4 56 rfl, zinP_4 57 rfl⟩
set_option maxRecDepth 100000 in
theorem lw_p27 : lw_okq (⟨"SixJoints$Planner", "lookUp", "()V"⟩, 15) := ⟨⟨zmh_3, zvh_3⟩, zinP_2 13 rfl, zinP_4 142 rfl, zinP_4 143 rfl⟩
set_option maxRecDepth 100000 in
theorem lw_p28 : lw_okq (⟨"SixJoints$Planner", "choose", "(LSixJoints$Route;Z)V"⟩, 15) := ⟨⟨zmh_3, zvh_3⟩, zinP_2 13 rfl, zinP_4 154 rfl, zinP_4 155 rfl⟩
set_option maxRecDepth 100000 in
theorem lw_p29 : lw_okq (⟨"SixJoints$Planner", "leftFrom", "(Z)[I"⟩, 15) := ⟨⟨zmh_3, zvh_3⟩, zinP_2 13 rfl, zinP_4 158 rfl, zinP_4 159 rfl⟩
set_option maxRecDepth 100000 in
theorem lw_p30 : lw_okq (⟨"SixJoints$Planner", "fillLeft", "([IZ)V"⟩, 15) := ⟨⟨zmh_3, zvh_3⟩, zinP_2 13 rfl, zinP_4 163 rfl, zinP_4 164 rfl⟩
set_option maxRecDepth 100000 in
theorem lw_p31 : lw_okq (⟨"SixJoints$Planner", "pickNext", "(JI[IZ)I"⟩, 15) := ⟨⟨zmh_3, zvh_3⟩, zinP_2 13 rfl, zinP_4 168 rfl, zinP_4 169 rfl⟩
noncomputable def lw_privs_2 : List (MethodName × Nat) := [(⟨"SixJoints$Reader", "readGo", "()Z"⟩, 10), (⟨"SixJoints", "noSpot", "(I)Z"⟩, 18), (⟨"SixJoints", "heldNow", "()LSixJoints$Held;"⟩, 18), (⟨"SixJoints$Solver", "pitchBy", "(I)I"⟩, 10), (⟨"SixJoints$Solver", "sidewaysFits", "(I)Z"⟩, 10), (⟨"SixJoints$Solver", "fold", "(I)V"⟩, 10), (⟨"SixJoints$Solver", "addFold", "(III)V"⟩, 10), (⟨"SixJoints$Solver", "solveByTurn", "(I)V"⟩, 10), (⟨"SixJoints$Solver", "rollBy", "(I)I"⟩, 10), (⟨"SixJoints$Solver", "offer", "(IIII)V"⟩, 10), (⟨"SixJoints$Solver", "sortByRail", "()V"⟩, 10), (⟨"SixJoints$Planner", "lookUp", "()V"⟩, 15), (⟨"SixJoints$Planner", "choose", "(LSixJoints$Route;Z)V"⟩, 15), (⟨"SixJoints$Planner", "leftFrom", "(Z)[I"⟩, 15), (⟨"SixJoints$Planner", "fillLeft", "([IZ)V"⟩, 15), (⟨"SixJoints$Planner", "pickNext", "(JI[IZ)I"⟩, 15)]
theorem lw_r2 : ∀ q ∈ lw_privs_2, lw_okq q := List.forall_mem_cons.mpr ⟨lw_p16, List.forall_mem_cons.mpr ⟨lw_p17, List.forall_mem_cons.mpr ⟨lw_p18, List.forall_mem_cons.mpr ⟨lw_p19, List.forall_mem_cons.mpr ⟨lw_p20, List.forall_mem_cons.mpr ⟨lw_p21, List.forall_mem_cons.mpr ⟨lw_p22, List.forall_mem_cons.mpr ⟨lw_p23, List.forall_mem_cons.mpr ⟨lw_p24, List.forall_mem_cons.mpr ⟨lw_p25, List.forall_mem_cons.mpr ⟨lw_p26, List.forall_mem_cons.mpr ⟨lw_p27, List.forall_mem_cons.mpr ⟨lw_p28, List.forall_mem_cons.mpr ⟨lw_p29, List.forall_mem_cons.mpr ⟨lw_p30, List.forall_mem_cons.mpr ⟨lw_p31, fun _ h => absurd h List.not_mem_nil⟩⟩⟩⟩⟩⟩⟩⟩⟩⟩⟩⟩⟩⟩⟩⟩
set_option maxRecDepth 100000 in
theorem lw_p32 : lw_okq (⟨"SixJoints", "noStop", "(I)Z"⟩, 18) := ⟨⟨zmh_9, zvh_9⟩, zinP_1 26 rfl, zinP_4 187 rfl, zinP_4 188 rfl⟩
set_option maxRecDepth 100000 in
theorem lw_p33 : lw_okq (⟨"SixJoints$Route", "isNearCorners", "(III)Z"⟩, 6) := ⟨⟨zmh_6, zvh_6⟩, zinP_2 21 rfl, zinP_4 235 rfl, zinP_4 236 rfl⟩
set_option maxRecDepth 100000 in
theorem lw_p34 : lw_okq (⟨"SixJoints$Rounds", "fill", "()V"⟩, 8) := ⟨⟨zmh_5, zvh_5⟩, zinP_2 98 rfl, zinP_5 32 rfl, zinP_5 33 rfl⟩
set_option maxRecDepth 100000 in
theorem lw_p35 : lw_okq (⟨"SixJoints$Rounds", "leftBehind", "(II)I"⟩, 8) := ⟨⟨zmh_5, zvh_5⟩, zinP_2 98 rfl, zinP_5 37 rfl, zinP_5 38 rfl⟩
set_option maxRecDepth 100000 in
theorem lw_p36 : lw_okq (⟨"SixJoints$Rounds", "firstOfFewest", "(JI)I"⟩, 8) := ⟨⟨zmh_5, zvh_5⟩, zinP_2 98 rfl, zinP_5 43 rfl, zinP_5 44 rfl⟩
set_option maxRecDepth 100000 in
theorem lw_p37 : lw_okq (⟨"SixJoints$Span", "isNew", "(II)Z"⟩, 1) := ⟨⟨zmh_8, zvh_8⟩, zinP_2 130 rfl, zinP_5 86 rfl, zinP_5 87 rfl⟩
set_option maxRecDepth 100000 in
theorem lw_p38 : lw_okq (⟨"SixJoints$Span", "highestByHand", "(LSixJoints$Arm;IIII)I"⟩, 1) := ⟨⟨zmh_8, zvh_8⟩, zinP_2 130 rfl, zinP_5 104 rfl, zinP_5 105 rfl⟩
set_option maxRecDepth 100000 in
theorem lw_p39 : lw_okq (⟨"SixJoints", "chanceOf", "(JI)I"⟩, 18) := ⟨⟨zmh_9, zvh_9⟩, zinP_1 26 rfl, zinP_5 117 rfl, zinP_5 118 rfl⟩
set_option maxRecDepth 100000 in
theorem lw_p40 : lw_okq (⟨"java/lang/Throwable", "fillInStackTrace", "(I)Ljava/lang/Throwable;"⟩, 6) := ⟨⟨by decide +kernel, by decide +kernel⟩, zinP_5 192 rfl, zinP_5 190 rfl, zinP_5 191 rfl⟩
set_option maxRecDepth 100000 in
theorem lw_p41 : lw_okq (⟨"SixJointsModel", "freshText", "()V"⟩, 54) := ⟨⟨zmh_10, zvh_10⟩, zinP_5 237 rfl, zinP_6 3 rfl, zinP_6 4 rfl⟩
set_option maxRecDepth 100000 in
theorem lw_p42 : lw_okq (⟨"SixJointsModel", "reads", "(II)V"⟩, 54) := ⟨⟨zmh_10, zvh_10⟩, zinP_5 237 rfl, zinP_6 7 rfl, zinP_6 8 rfl⟩
set_option maxRecDepth 100000 in
theorem lw_p43 : lw_okq (⟨"SixJointsModel", "takeText", "()V"⟩, 54) := ⟨⟨zmh_10, zvh_10⟩, zinP_5 237 rfl, zinP_6 17 rfl, zinP_6 18 rfl⟩
set_option maxRecDepth 100000 in
theorem lw_p44 : lw_okq (⟨"SixJointsModel", "reading", "(I)I"⟩, 54) := ⟨⟨zmh_10, zvh_10⟩, zinP_5 237 rfl, zinP_6 21 rfl, zinP_6 22 rfl⟩
set_option maxRecDepth 100000 in
theorem lw_p45 : lw_okq (⟨"SixJointsModel", "begins", "()V"⟩, 54) := ⟨⟨zmh_10, zvh_10⟩, zinP_5 237 rfl, zinP_6 25 rfl, zinP_6 26 rfl⟩
set_option maxRecDepth 100000 in
theorem lw_p46 : lw_okq (⟨"SixJointsModel", "aims", "([II)V"⟩, 54) := ⟨⟨zmh_10, zvh_10⟩, zinP_5 237 rfl, zinP_6 29 rfl, zinP_6 30 rfl⟩
set_option maxRecDepth 100000 in
theorem lw_p47 : lw_okq (⟨"SixJointsModel", "placeOf", "([II)V"⟩, 54) := ⟨⟨zmh_10, zvh_10⟩, zinP_5 237 rfl, zinP_6 33 rfl, zinP_6 34 rfl⟩
noncomputable def lw_privs_3 : List (MethodName × Nat) := [(⟨"SixJoints", "noStop", "(I)Z"⟩, 18), (⟨"SixJoints$Route", "isNearCorners", "(III)Z"⟩, 6), (⟨"SixJoints$Rounds", "fill", "()V"⟩, 8), (⟨"SixJoints$Rounds", "leftBehind", "(II)I"⟩, 8), (⟨"SixJoints$Rounds", "firstOfFewest", "(JI)I"⟩, 8), (⟨"SixJoints$Span", "isNew", "(II)Z"⟩, 1), (⟨"SixJoints$Span", "highestByHand", "(LSixJoints$Arm;IIII)I"⟩, 1), (⟨"SixJoints", "chanceOf", "(JI)I"⟩, 18), (⟨"java/lang/Throwable", "fillInStackTrace", "(I)Ljava/lang/Throwable;"⟩, 6), (⟨"SixJointsModel", "freshText", "()V"⟩, 54), (⟨"SixJointsModel", "reads", "(II)V"⟩, 54), (⟨"SixJointsModel", "takeText", "()V"⟩, 54), (⟨"SixJointsModel", "reading", "(I)I"⟩, 54), (⟨"SixJointsModel", "begins", "()V"⟩, 54), (⟨"SixJointsModel", "aims", "([II)V"⟩, 54), (⟨"SixJointsModel", "placeOf", "([II)V"⟩, 54)]
theorem lw_r3 : ∀ q ∈ lw_privs_3, lw_okq q := List.forall_mem_cons.mpr ⟨lw_p32, List.forall_mem_cons.mpr ⟨lw_p33, List.forall_mem_cons.mpr ⟨lw_p34, List.forall_mem_cons.mpr ⟨lw_p35, List.forall_mem_cons.mpr ⟨lw_p36, List.forall_mem_cons.mpr ⟨lw_p37, List.forall_mem_cons.mpr ⟨lw_p38, List.forall_mem_cons.mpr ⟨lw_p39, List.forall_mem_cons.mpr ⟨lw_p40, List.forall_mem_cons.mpr ⟨lw_p41, List.forall_mem_cons.mpr ⟨lw_p42, List.forall_mem_cons.mpr ⟨lw_p43, List.forall_mem_cons.mpr ⟨lw_p44, List.forall_mem_cons.mpr ⟨lw_p45, List.forall_mem_cons.mpr ⟨lw_p46, List.forall_mem_cons.mpr ⟨lw_p47, fun _ h => absurd h List.not_mem_nil⟩⟩⟩⟩⟩⟩⟩⟩⟩⟩⟩⟩⟩⟩⟩⟩
set_option maxRecDepth 100000 in
theorem lw_p48 : lw_okq (⟨"SixJointsModel", "outOf", "([II)I"⟩, 54) := ⟨⟨zmh_10, zvh_10⟩, zinP_5 237 rfl, zinP_6 37 rfl, zinP_6 38 rfl⟩
set_option maxRecDepth 100000 in
theorem lw_p49 : lw_okq (⟨"SixJointsModel", "outBy", "(III)I"⟩, 54) := ⟨⟨zmh_10, zvh_10⟩, zinP_5 237 rfl, zinP_6 41 rfl, zinP_6 42 rfl⟩
set_option maxRecDepth 100000 in
theorem lw_p50 : lw_okq (⟨"SixJointsModel", "heightBy", "(III)I"⟩, 54) := ⟨⟨zmh_10, zvh_10⟩, zinP_5 237 rfl, zinP_6 54 rfl, zinP_6 55 rfl⟩
set_option maxRecDepth 100000 in
theorem lw_p51 : lw_okq (⟨"SixJointsModel", "moved", "()V"⟩, 54) := ⟨⟨zmh_10, zvh_10⟩, zinP_5 237 rfl, zinP_6 58 rfl, zinP_6 59 rfl⟩
set_option maxRecDepth 100000 in
theorem lw_p52 : lw_okq (⟨"SixJointsModel", "readText", "(I)V"⟩, 54) := ⟨⟨zmh_10, zvh_10⟩, zinP_5 237 rfl, zinP_6 234 rfl, zinP_6 235 rfl⟩
set_option maxRecDepth 100000 in
theorem lw_p53 : lw_okq (⟨"SixJointsModel", "token", "()V"⟩, 54) := ⟨⟨zmh_10, zvh_10⟩, zinP_5 237 rfl, zinP_6 238 rfl, zinP_6 239 rfl⟩
set_option maxRecDepth 100000 in
theorem lw_p54 : lw_okq (⟨"SixJointsModel", "here", "()I"⟩, 54) := ⟨⟨zmh_10, zvh_10⟩, zinP_5 237 rfl, zinP_7 2 rfl, zinP_7 3 rfl⟩
set_option maxRecDepth 100000 in
theorem lw_p55 : lw_okq (⟨"SixJointsModel", "wordHere", "()I"⟩, 54) := ⟨⟨zmh_10, zvh_10⟩, zinP_5 237 rfl, zinP_7 9 rfl, zinP_7 10 rfl⟩
set_option maxRecDepth 100000 in
theorem lw_p56 : lw_okq (⟨"SixJointsModel", "nameHere", "()V"⟩, 54) := ⟨⟨zmh_10, zvh_10⟩, zinP_5 237 rfl, zinP_7 62 rfl, zinP_7 63 rfl⟩
set_option maxRecDepth 100000 in
theorem lw_p57 : lw_okq (⟨"SixJointsModel", "digits", "()V"⟩, 54) := ⟨⟨zmh_10, zvh_10⟩, zinP_5 237 rfl, zinP_7 69 rfl, zinP_7 70 rfl⟩
set_option maxRecDepth 100000 in
theorem lw_p58 : lw_okq (⟨"SixJointsModel", "readLine", "()V"⟩, 54) := ⟨⟨zmh_10, zvh_10⟩, zinP_5 237 rfl, zinP_7 74 rfl, zinP_7 75 rfl⟩
set_option maxRecDepth 100000 in
theorem lw_p59 : lw_okq (⟨"SixJointsModel", "wrong", "(I)V"⟩, 54) := ⟨⟨zmh_10, zvh_10⟩, zinP_5 237 rfl, zinP_7 78 rfl, zinP_7 79 rfl⟩
set_option maxRecDepth 100000 in
theorem lw_p60 : lw_okq (⟨"SixJointsModel", "readNumber", "(IIII)V"⟩, 54) := ⟨⟨zmh_10, zvh_10⟩, zinP_5 237 rfl, zinP_7 82 rfl, zinP_7 83 rfl⟩
set_option maxRecDepth 100000 in
theorem lw_p61 : lw_okq (⟨"SixJointsModel", "once", "(I)V"⟩, 54) := ⟨⟨zmh_10, zvh_10⟩, zinP_5 237 rfl, zinP_7 86 rfl, zinP_7 87 rfl⟩
set_option maxRecDepth 100000 in
theorem lw_p62 : lw_okq (⟨"SixJointsModel", "goOn", "()V"⟩, 54) := ⟨⟨zmh_10, zvh_10⟩, zinP_5 237 rfl, zinP_7 90 rfl, zinP_7 91 rfl⟩
set_option maxRecDepth 100000 in
theorem lw_p63 : lw_okq (⟨"SixJointsModel", "numeral", "(II)I"⟩, 54) := ⟨⟨zmh_10, zvh_10⟩, zinP_5 237 rfl, zinP_7 94 rfl, zinP_7 95 rfl⟩
noncomputable def lw_privs_4 : List (MethodName × Nat) := [(⟨"SixJointsModel", "outOf", "([II)I"⟩, 54), (⟨"SixJointsModel", "outBy", "(III)I"⟩, 54), (⟨"SixJointsModel", "heightBy", "(III)I"⟩, 54), (⟨"SixJointsModel", "moved", "()V"⟩, 54), (⟨"SixJointsModel", "readText", "(I)V"⟩, 54), (⟨"SixJointsModel", "token", "()V"⟩, 54), (⟨"SixJointsModel", "here", "()I"⟩, 54), (⟨"SixJointsModel", "wordHere", "()I"⟩, 54), (⟨"SixJointsModel", "nameHere", "()V"⟩, 54), (⟨"SixJointsModel", "digits", "()V"⟩, 54), (⟨"SixJointsModel", "readLine", "()V"⟩, 54), (⟨"SixJointsModel", "wrong", "(I)V"⟩, 54), (⟨"SixJointsModel", "readNumber", "(IIII)V"⟩, 54), (⟨"SixJointsModel", "once", "(I)V"⟩, 54), (⟨"SixJointsModel", "goOn", "()V"⟩, 54), (⟨"SixJointsModel", "numeral", "(II)I"⟩, 54)]
theorem lw_r4 : ∀ q ∈ lw_privs_4, lw_okq q := List.forall_mem_cons.mpr ⟨lw_p48, List.forall_mem_cons.mpr ⟨lw_p49, List.forall_mem_cons.mpr ⟨lw_p50, List.forall_mem_cons.mpr ⟨lw_p51, List.forall_mem_cons.mpr ⟨lw_p52, List.forall_mem_cons.mpr ⟨lw_p53, List.forall_mem_cons.mpr ⟨lw_p54, List.forall_mem_cons.mpr ⟨lw_p55, List.forall_mem_cons.mpr ⟨lw_p56, List.forall_mem_cons.mpr ⟨lw_p57, List.forall_mem_cons.mpr ⟨lw_p58, List.forall_mem_cons.mpr ⟨lw_p59, List.forall_mem_cons.mpr ⟨lw_p60, List.forall_mem_cons.mpr ⟨lw_p61, List.forall_mem_cons.mpr ⟨lw_p62, List.forall_mem_cons.mpr ⟨lw_p63, fun _ h => absurd h List.not_mem_nil⟩⟩⟩⟩⟩⟩⟩⟩⟩⟩⟩⟩⟩⟩⟩⟩
set_option maxRecDepth 100000 in
theorem lw_p64 : lw_okq (⟨"SixJointsModel", "atHand", "(ZII)I"⟩, 54) := ⟨⟨zmh_10, zvh_10⟩, zinP_5 237 rfl, zinP_7 98 rfl, zinP_7 99 rfl⟩
set_option maxRecDepth 100000 in
theorem lw_p65 : lw_okq (⟨"SixJointsModel", "readLimit", "()V"⟩, 54) := ⟨⟨zmh_10, zvh_10⟩, zinP_5 237 rfl, zinP_7 102 rfl, zinP_7 103 rfl⟩
set_option maxRecDepth 100000 in
theorem lw_p66 : lw_okq (⟨"SixJointsModel", "readJoint", "([Z)I"⟩, 54) := ⟨⟨zmh_10, zvh_10⟩, zinP_5 237 rfl, zinP_7 106 rfl, zinP_7 107 rfl⟩
set_option maxRecDepth 100000 in
theorem lw_p67 : lw_okq (⟨"SixJointsModel", "readSpeed", "()V"⟩, 54) := ⟨⟨zmh_10, zvh_10⟩, zinP_5 237 rfl, zinP_7 110 rfl, zinP_7 111 rfl⟩
set_option maxRecDepth 100000 in
theorem lw_p68 : lw_okq (⟨"SixJointsModel", "readSpot", "()V"⟩, 54) := ⟨⟨zmh_10, zvh_10⟩, zinP_5 237 rfl, zinP_7 114 rfl, zinP_7 115 rfl⟩
set_option maxRecDepth 100000 in
theorem lw_p69 : lw_okq (⟨"SixJointsModel", "spotAt", "(III)I"⟩, 54) := ⟨⟨zmh_10, zvh_10⟩, zinP_5 237 rfl, zinP_7 118 rfl, zinP_7 119 rfl⟩
set_option maxRecDepth 100000 in
theorem lw_p70 : lw_okq (⟨"SixJointsModel", "readPosture", "([II)V"⟩, 54) := ⟨⟨zmh_10, zvh_10⟩, zinP_5 237 rfl, zinP_7 122 rfl, zinP_7 123 rfl⟩
set_option maxRecDepth 100000 in
theorem lw_p71 : lw_okq (⟨"SixJointsModel", "readGo", "()V"⟩, 54) := ⟨⟨zmh_10, zvh_10⟩, zinP_5 237 rfl, zinP_7 126 rfl, zinP_7 127 rfl⟩
set_option maxRecDepth 100000 in
theorem lw_p72 : lw_okq (⟨"SixJointsModel", "readRest", "()V"⟩, 54) := ⟨⟨zmh_10, zvh_10⟩, zinP_5 237 rfl, zinP_7 130 rfl, zinP_7 131 rfl⟩
set_option maxRecDepth 100000 in
theorem lw_p73 : lw_okq (⟨"SixJointsModel", "laysBack", "(I)V"⟩, 54) := ⟨⟨zmh_10, zvh_10⟩, zinP_5 237 rfl, zinP_7 146 rfl, zinP_7 147 rfl⟩
set_option maxRecDepth 100000 in
theorem lw_p74 : lw_okq (⟨"SixJointsModel", "lays", "(I)V"⟩, 54) := ⟨⟨zmh_10, zvh_10⟩, zinP_5 237 rfl, zinP_7 154 rfl, zinP_7 155 rfl⟩
set_option maxRecDepth 100000 in
theorem lw_p75 : lw_okq (⟨"SixJointsModel", "isSpot", "(I)Z"⟩, 54) := ⟨⟨zmh_10, zvh_10⟩, zinP_5 237 rfl, zinP_7 173 rfl, zinP_7 174 rfl⟩
set_option maxRecDepth 100000 in
theorem lw_p76 : lw_okq (⟨"SixJointsModel", "isWithin", "(II)Z"⟩, 54) := ⟨⟨zmh_10, zvh_10⟩, zinP_5 237 rfl, zinP_7 181 rfl, zinP_7 182 rfl⟩
set_option maxRecDepth 100000 in
theorem lw_p77 : lw_okq (⟨"SixJointsModel", "remembers", "()V"⟩, 54) := ⟨⟨zmh_10, zvh_10⟩, zinP_5 237 rfl, zinP_7 185 rfl, zinP_7 186 rfl⟩
set_option maxRecDepth 100000 in
theorem lw_p78 : lw_okq (⟨"SixJointsModel", "beyond", "()I"⟩, 54) := ⟨⟨zmh_10, zvh_10⟩, zinP_5 237 rfl, zinP_7 212 rfl, zinP_7 213 rfl⟩
set_option maxRecDepth 100000 in
theorem lw_p79 : lw_okq (⟨"SixJointsModel", "solvesAim", "()V"⟩, 54) := ⟨⟨zmh_10, zvh_10⟩, zinP_5 237 rfl, zinP_7 234 rfl, zinP_7 235 rfl⟩
noncomputable def lw_privs_5 : List (MethodName × Nat) := [(⟨"SixJointsModel", "atHand", "(ZII)I"⟩, 54), (⟨"SixJointsModel", "readLimit", "()V"⟩, 54), (⟨"SixJointsModel", "readJoint", "([Z)I"⟩, 54), (⟨"SixJointsModel", "readSpeed", "()V"⟩, 54), (⟨"SixJointsModel", "readSpot", "()V"⟩, 54), (⟨"SixJointsModel", "spotAt", "(III)I"⟩, 54), (⟨"SixJointsModel", "readPosture", "([II)V"⟩, 54), (⟨"SixJointsModel", "readGo", "()V"⟩, 54), (⟨"SixJointsModel", "readRest", "()V"⟩, 54), (⟨"SixJointsModel", "laysBack", "(I)V"⟩, 54), (⟨"SixJointsModel", "lays", "(I)V"⟩, 54), (⟨"SixJointsModel", "isSpot", "(I)Z"⟩, 54), (⟨"SixJointsModel", "isWithin", "(II)Z"⟩, 54), (⟨"SixJointsModel", "remembers", "()V"⟩, 54), (⟨"SixJointsModel", "beyond", "()I"⟩, 54), (⟨"SixJointsModel", "solvesAim", "()V"⟩, 54)]
theorem lw_r5 : ∀ q ∈ lw_privs_5, lw_okq q := List.forall_mem_cons.mpr ⟨lw_p64, List.forall_mem_cons.mpr ⟨lw_p65, List.forall_mem_cons.mpr ⟨lw_p66, List.forall_mem_cons.mpr ⟨lw_p67, List.forall_mem_cons.mpr ⟨lw_p68, List.forall_mem_cons.mpr ⟨lw_p69, List.forall_mem_cons.mpr ⟨lw_p70, List.forall_mem_cons.mpr ⟨lw_p71, List.forall_mem_cons.mpr ⟨lw_p72, List.forall_mem_cons.mpr ⟨lw_p73, List.forall_mem_cons.mpr ⟨lw_p74, List.forall_mem_cons.mpr ⟨lw_p75, List.forall_mem_cons.mpr ⟨lw_p76, List.forall_mem_cons.mpr ⟨lw_p77, List.forall_mem_cons.mpr ⟨lw_p78, List.forall_mem_cons.mpr ⟨lw_p79, fun _ h => absurd h List.not_mem_nil⟩⟩⟩⟩⟩⟩⟩⟩⟩⟩⟩⟩⟩⟩⟩⟩
set_option maxRecDepth 100000 in
theorem lw_p80 : lw_okq (⟨"SixJointsModel", "solves", "([II)V"⟩, 54) := ⟨⟨zmh_10, zvh_10⟩, zinP_5 237 rfl, zinP_7 238 rfl, zinP_7 239 rfl⟩
set_option maxRecDepth 100000 in
theorem lw_p81 : lw_okq (⟨"SixJointsModel", "holds", "(I[IIIIII)V"⟩, 54) := ⟨⟨zmh_10, zvh_10⟩, zinP_5 237 rfl, zinP_8 5 rfl, zinP_8 6 rfl⟩
set_option maxRecDepth 100000 in
theorem lw_p82 : lw_okq (⟨"SixJointsModel", "counts", "(I)V"⟩, 54) := ⟨⟨zmh_10, zvh_10⟩, zinP_5 237 rfl, zinP_8 9 rfl, zinP_8 10 rfl⟩
set_option maxRecDepth 100000 in
theorem lw_p83 : lw_okq (⟨"SixJointsModel", "adds", "(IJ)V"⟩, 54) := ⟨⟨zmh_10, zvh_10⟩, zinP_5 237 rfl, zinP_8 19 rfl, zinP_8 20 rfl⟩
set_option maxRecDepth 100000 in
theorem lw_p84 : lw_okq (⟨"SixJointsModel", "isSolution", "(I)Z"⟩, 54) := ⟨⟨zmh_10, zvh_10⟩, zinP_5 237 rfl, zinP_8 27 rfl, zinP_8 28 rfl⟩
set_option maxRecDepth 100000 in
theorem lw_p85 : lw_okq (⟨"SixJointsModel", "aimed", "(I)J"⟩, 54) := ⟨⟨zmh_10, zvh_10⟩, zinP_5 237 rfl, zinP_8 31 rfl, zinP_8 32 rfl⟩
set_option maxRecDepth 100000 in
theorem lw_p86 : lw_okq (⟨"SixJointsModel", "jointOf", "(JI)I"⟩, 54) := ⟨⟨zmh_10, zvh_10⟩, zinP_5 237 rfl, zinP_8 35 rfl, zinP_8 36 rfl⟩
set_option maxRecDepth 100000 in
theorem lw_p87 : lw_okq (⟨"SixJointsModel", "unpacks", "(J[II)V"⟩, 54) := ⟨⟨zmh_10, zvh_10⟩, zinP_5 237 rfl, zinP_8 48 rfl, zinP_8 49 rfl⟩
set_option maxRecDepth 100000 in
theorem lw_p88 : lw_okq (⟨"SixJointsModel", "ticks", "([II[II)I"⟩, 54) := ⟨⟨zmh_10, zvh_10⟩, zinP_5 237 rfl, zinP_8 52 rfl, zinP_8 53 rfl⟩
set_option maxRecDepth 100000 in
theorem lw_p89 : lw_okq (⟨"SixJointsModel", "isKept", "([II[II)Z"⟩, 54) := ⟨⟨zmh_10, zvh_10⟩, zinP_5 237 rfl, zinP_8 56 rfl, zinP_8 57 rfl⟩
set_option maxRecDepth 100000 in
theorem lw_p90 : lw_okq (⟨"SixJointsModel", "routeBy", "(Z)I"⟩, 54) := ⟨⟨zmh_10, zvh_10⟩, zinP_5 237 rfl, zinP_8 87 rfl, zinP_8 88 rfl⟩
set_option maxRecDepth 100000 in
theorem lw_p91 : lw_okq (⟨"SixJointsModel", "laysRoute", "(I)V"⟩, 54) := ⟨⟨zmh_10, zvh_10⟩, zinP_5 237 rfl, zinP_8 91 rfl, zinP_8 92 rfl⟩
set_option maxRecDepth 100000 in
theorem lw_p92 : lw_okq (⟨"SixJointsModel", "lastMany", "()I"⟩, 54) := ⟨⟨zmh_10, zvh_10⟩, zinP_5 237 rfl, zinP_8 95 rfl, zinP_8 96 rfl⟩
set_option maxRecDepth 100000 in
theorem lw_p93 : lw_okq (⟨"SixJointsModel", "solutionsOf", "(I)I"⟩, 54) := ⟨⟨zmh_10, zvh_10⟩, zinP_5 237 rfl, zinP_8 99 rfl, zinP_8 100 rfl⟩
set_option maxRecDepth 100000 in
theorem lw_p94 : lw_okq (⟨"SixJointsModel", "laysToGo", "(Z)V"⟩, 54) := ⟨⟨zmh_10, zvh_10⟩, zinP_5 237 rfl, zinP_8 103 rfl, zinP_8 104 rfl⟩
set_option maxRecDepth 100000 in
theorem lw_p95 : lw_okq (⟨"SixJointsModel", "laysSolution", "(II[II)V"⟩, 54) := ⟨⟨zmh_10, zvh_10⟩, zinP_5 237 rfl, zinP_8 107 rfl, zinP_8 108 rfl⟩
noncomputable def lw_privs_6 : List (MethodName × Nat) := [(⟨"SixJointsModel", "solves", "([II)V"⟩, 54), (⟨"SixJointsModel", "holds", "(I[IIIIII)V"⟩, 54), (⟨"SixJointsModel", "counts", "(I)V"⟩, 54), (⟨"SixJointsModel", "adds", "(IJ)V"⟩, 54), (⟨"SixJointsModel", "isSolution", "(I)Z"⟩, 54), (⟨"SixJointsModel", "aimed", "(I)J"⟩, 54), (⟨"SixJointsModel", "jointOf", "(JI)I"⟩, 54), (⟨"SixJointsModel", "unpacks", "(J[II)V"⟩, 54), (⟨"SixJointsModel", "ticks", "([II[II)I"⟩, 54), (⟨"SixJointsModel", "isKept", "([II[II)Z"⟩, 54), (⟨"SixJointsModel", "routeBy", "(Z)I"⟩, 54), (⟨"SixJointsModel", "laysRoute", "(I)V"⟩, 54), (⟨"SixJointsModel", "lastMany", "()I"⟩, 54), (⟨"SixJointsModel", "solutionsOf", "(I)I"⟩, 54), (⟨"SixJointsModel", "laysToGo", "(Z)V"⟩, 54), (⟨"SixJointsModel", "laysSolution", "(II[II)V"⟩, 54)]
theorem lw_r6 : ∀ q ∈ lw_privs_6, lw_okq q := List.forall_mem_cons.mpr ⟨lw_p80, List.forall_mem_cons.mpr ⟨lw_p81, List.forall_mem_cons.mpr ⟨lw_p82, List.forall_mem_cons.mpr ⟨lw_p83, List.forall_mem_cons.mpr ⟨lw_p84, List.forall_mem_cons.mpr ⟨lw_p85, List.forall_mem_cons.mpr ⟨lw_p86, List.forall_mem_cons.mpr ⟨lw_p87, List.forall_mem_cons.mpr ⟨lw_p88, List.forall_mem_cons.mpr ⟨lw_p89, List.forall_mem_cons.mpr ⟨lw_p90, List.forall_mem_cons.mpr ⟨lw_p91, List.forall_mem_cons.mpr ⟨lw_p92, List.forall_mem_cons.mpr ⟨lw_p93, List.forall_mem_cons.mpr ⟨lw_p94, List.forall_mem_cons.mpr ⟨lw_p95, fun _ h => absurd h List.not_mem_nil⟩⟩⟩⟩⟩⟩⟩⟩⟩⟩⟩⟩⟩⟩⟩⟩
set_option maxRecDepth 100000 in
theorem lw_p96 : lw_okq (⟨"SixJointsModel", "leastFrom", "([IIIZ)I"⟩, 54) := ⟨⟨zmh_10, zvh_10⟩, zinP_5 237 rfl, zinP_8 111 rfl, zinP_8 112 rfl⟩
set_option maxRecDepth 100000 in
theorem lw_p97 : lw_okq (⟨"SixJointsModel", "firstBy", "([IIIZI)I"⟩, 54) := ⟨⟨zmh_10, zvh_10⟩, zinP_5 237 rfl, zinP_8 115 rfl, zinP_8 116 rfl⟩
set_option maxRecDepth 100000 in
theorem lw_p98 : lw_okq (⟨"SixJointsModel", "jointAt", "(III)I"⟩, 54) := ⟨⟨zmh_10, zvh_10⟩, zinP_5 237 rfl, zinP_8 127 rfl, zinP_8 128 rfl⟩
set_option maxRecDepth 100000 in
theorem lw_p99 : lw_okq (⟨"SixJointsModel", "blendedBy", "(IIII)I"⟩, 54) := ⟨⟨zmh_10, zvh_10⟩, zinP_5 237 rfl, zinP_8 135 rfl, zinP_8 136 rfl⟩
set_option maxRecDepth 100000 in
theorem lw_p100 : lw_okq (⟨"SixJointsModel", "missBy", "(IIII)I"⟩, 54) := ⟨⟨zmh_10, zvh_10⟩, zinP_5 237 rfl, zinP_8 147 rfl, zinP_8 148 rfl⟩
set_option maxRecDepth 100000 in
theorem lw_p101 : lw_okq (⟨"SixJointsModel", "isRoundBy", "(III)Z"⟩, 54) := ⟨⟨zmh_10, zvh_10⟩, zinP_5 237 rfl, zinP_8 155 rfl, zinP_8 156 rfl⟩
set_option maxRecDepth 100000 in
theorem lw_p102 : lw_okq (⟨"SixJointsModel", "turnsOver", "(III)I"⟩, 54) := ⟨⟨zmh_10, zvh_10⟩, zinP_5 237 rfl, zinP_8 163 rfl, zinP_8 164 rfl⟩
set_option maxRecDepth 100000 in
theorem lw_p103 : lw_okq (⟨"SixJointsModel", "laysTick", "(II)V"⟩, 54) := ⟨⟨zmh_10, zvh_10⟩, zinP_5 237 rfl, zinP_8 167 rfl, zinP_8 168 rfl⟩
set_option maxRecDepth 100000 in
theorem lw_p104 : lw_okq (⟨"SixJointsModel", "rollsBack", "(II)I"⟩, 54) := ⟨⟨zmh_10, zvh_10⟩, zinP_5 237 rfl, zinP_8 171 rfl, zinP_8 172 rfl⟩
set_option maxRecDepth 100000 in
theorem lw_p105 : lw_okq (⟨"SixJointsModel", "laysTour", "()V"⟩, 54) := ⟨⟨zmh_10, zvh_10⟩, zinP_5 237 rfl, zinP_8 192 rfl, zinP_8 193 rfl⟩
set_option maxRecDepth 100000 in
theorem lw_p106 : lw_okq (⟨"SixJointsModel", "tourFrom", "(II)I"⟩, 54) := ⟨⟨zmh_10, zvh_10⟩, zinP_5 237 rfl, zinP_8 196 rfl, zinP_8 197 rfl⟩
set_option maxRecDepth 100000 in
theorem lw_p107 : lw_okq (⟨"SixJointsModel", "tourStep", "(II)I"⟩, 54) := ⟨⟨zmh_10, zvh_10⟩, zinP_5 237 rfl, zinP_8 200 rfl, zinP_8 201 rfl⟩
set_option maxRecDepth 100000 in
theorem lw_p108 : lw_okq (⟨"SixJointsModel", "withPair", "(IJ)I"⟩, 54) := ⟨⟨zmh_10, zvh_10⟩, zinP_5 237 rfl, zinP_8 218 rfl, zinP_8 219 rfl⟩
set_option maxRecDepth 100000 in
theorem lw_p109 : lw_okq (⟨"SixJointsModel", "draw", "(I)I"⟩, 54) := ⟨⟨zmh_10, zvh_10⟩, zinP_5 237 rfl, zinP_8 230 rfl, zinP_8 231 rfl⟩
set_option maxRecDepth 100000 in
theorem lw_p110 : lw_okq (⟨"SixJointsModel", "isAmong", "([I)Z"⟩, 54) := ⟨⟨zmh_10, zvh_10⟩, zinP_5 237 rfl, zinP_8 236 rfl, zinP_8 237 rfl⟩
noncomputable def lw_privs_7 : List (MethodName × Nat) := [(⟨"SixJointsModel", "leastFrom", "([IIIZ)I"⟩, 54), (⟨"SixJointsModel", "firstBy", "([IIIZI)I"⟩, 54), (⟨"SixJointsModel", "jointAt", "(III)I"⟩, 54), (⟨"SixJointsModel", "blendedBy", "(IIII)I"⟩, 54), (⟨"SixJointsModel", "missBy", "(IIII)I"⟩, 54), (⟨"SixJointsModel", "isRoundBy", "(III)Z"⟩, 54), (⟨"SixJointsModel", "turnsOver", "(III)I"⟩, 54), (⟨"SixJointsModel", "laysTick", "(II)V"⟩, 54), (⟨"SixJointsModel", "rollsBack", "(II)I"⟩, 54), (⟨"SixJointsModel", "laysTour", "()V"⟩, 54), (⟨"SixJointsModel", "tourFrom", "(II)I"⟩, 54), (⟨"SixJointsModel", "tourStep", "(II)I"⟩, 54), (⟨"SixJointsModel", "withPair", "(IJ)I"⟩, 54), (⟨"SixJointsModel", "draw", "(I)I"⟩, 54), (⟨"SixJointsModel", "isAmong", "([I)Z"⟩, 54)]
theorem lw_r7 : ∀ q ∈ lw_privs_7, lw_okq q := List.forall_mem_cons.mpr ⟨lw_p96, List.forall_mem_cons.mpr ⟨lw_p97, List.forall_mem_cons.mpr ⟨lw_p98, List.forall_mem_cons.mpr ⟨lw_p99, List.forall_mem_cons.mpr ⟨lw_p100, List.forall_mem_cons.mpr ⟨lw_p101, List.forall_mem_cons.mpr ⟨lw_p102, List.forall_mem_cons.mpr ⟨lw_p103, List.forall_mem_cons.mpr ⟨lw_p104, List.forall_mem_cons.mpr ⟨lw_p105, List.forall_mem_cons.mpr ⟨lw_p106, List.forall_mem_cons.mpr ⟨lw_p107, List.forall_mem_cons.mpr ⟨lw_p108, List.forall_mem_cons.mpr ⟨lw_p109, List.forall_mem_cons.mpr ⟨lw_p110, fun _ h => absurd h List.not_mem_nil⟩⟩⟩⟩⟩⟩⟩⟩⟩⟩⟩⟩⟩⟩⟩
noncomputable def lw_privs : List (MethodName × Nat) := lw_privs_1 ++ (lw_privs_2 ++ (lw_privs_3 ++ (lw_privs_4 ++ (lw_privs_5 ++ (lw_privs_6 ++ (lw_privs_7))))))
noncomputable def lw_tbl : List Cond := k2_sels lw_privs ++ tables_1
theorem lw_privs_ok : ∀ q ∈ lw_privs, lw_okq q := by
  show ∀ q ∈ lw_privs_1 ++ (lw_privs_2 ++ (lw_privs_3 ++ (lw_privs_4 ++ (lw_privs_5 ++ (lw_privs_6 ++ (lw_privs_7)))))), lw_okq q
  exact List.forall_mem_append.mpr ⟨lw_r1, List.forall_mem_append.mpr ⟨lw_r2, List.forall_mem_append.mpr ⟨lw_r3, List.forall_mem_append.mpr ⟨lw_r4, List.forall_mem_append.mpr ⟨lw_r5, List.forall_mem_append.mpr ⟨lw_r6, lw_r7⟩⟩⟩⟩⟩⟩
