/-! op 4: SixJoints.joint, which may throw, and the law's own joint, which catches it. -/
abbrev q4I : String := "java/lang/IndexOutOfBoundsException"
abbrev q4N : String := "java/util/NoSuchElementException"
abbrev q4U : List String := ["java/lang/RuntimeException", "java/lang/Exception"]
abbrev q4y : MethodName := ⟨"SixJointsLaw", "joint", "(LSixJoints;II[J)I"⟩
abbrev q4h : List (Nat × Nat × Nat × Nat) := [(0, 10, 13, 13), (0, 10, 17, 15)]
abbrev q4c : Cond := Cond.codeWith q4y method_3_code 5 (some .int) q4h
def q4ws : List Cond := [.classLink "SixJoints" 148 q4I, .initialized q4I, .classLink "SixJoints" 170 q4N, .initialized q4N, .methodLink "SixJointsLaw" 7 (zM 105).1, .instanceMethod (zM 105).1, .selects "SixJoints" (zM 105).1 (zM 105).1, .initialized "SixJoints", .code (zM 105).1 (zM 105).2.1 (zM 105).2.2.1 (zM 105).2.2.2.1, .classLink "SixJointsLaw" 13 q4I, .classLink "SixJointsLaw" 15 q4N, .methodLink "SixJointsLaw" 39 q4y, .static q4y, .initialized "SixJointsLaw", q4c]
set_option maxRecDepth 100000 in
theorem q4w : ∀ w ∈ q4ws, w ∈ lw_tbl := by decide +kernel
theorem q4g : ∀ w ∈ q4ws, goodWord w = true := by decide +kernel
theorem q4m {w : Cond} (i : Nat) (h : q4ws[i]? = some w) : w ∈ zTs := List.mem_filter.mpr ⟨q4w w (List.mem_of_getElem? h), q4g w (List.mem_of_getElem? h)⟩
set_option maxRecDepth 100000 in
theorem q4x0 : ∀ w ∈ (vx_atS "SixJoints" 152 q4I q4U).filter goodWord, w ∈ lw_tbl := by decide +kernel
abbrev q4k : ByteArray := ⟨#[0x2a, 0x2b, 0xb7, 0x00, 0x0d, 0xb1]⟩
abbrev q4R : String := "java/lang/RuntimeException"
set_option maxRecDepth 100000 in
theorem q4x1 : ∀ w ∈ (q4at "SixJoints" 174 q4N q4R 13 q4k ["java/lang/Exception"]).filter goodWord, w ∈ lw_tbl := by decide +kernel
theorem q4z0 {w : Cond} (h : w ∈ (vx_atS "SixJoints" 152 q4I q4U).filter goodWord) : w ∈ zTs := List.mem_filter.mpr ⟨q4x0 w h, (List.mem_filter.mp h).2⟩
theorem q4z1 {w : Cond} (h : w ∈ (q4at "SixJoints" 174 q4N q4R 13 q4k ["java/lang/Exception"]).filter goodWord) : w ∈ zTs := List.mem_filter.mpr ⟨q4x1 w h, (List.mem_filter.mp h).2⟩
abbrev q4B (X : String) : List Cond := [.castable X X, .declares (Bundle.initS "java/lang/RuntimeException"), .declares (Bundle.initS "java/lang/Exception"), .declares (Bundle.initS Bundle.tN)]
theorem q4b0 : ∀ w ∈ (vx_atS "SixJoints" 152 q4I q4U).filter (fun w => !goodWord w), w ∈ q4B q4I := by decide +kernel
theorem q4b1 : ∀ w ∈ (q4at "SixJoints" 174 q4N q4R 13 q4k ["java/lang/Exception"]).filter (fun w => !goodWord w), w ∈ q4B q4N := by decide +kernel
theorem q4o0 : ∀ w ∈ Cond.classLink "SixJoints" 148 q4I :: Cond.initialized q4I :: vx_atS "SixJoints" 152 q4I q4U, vx_ot w = true := by decide +kernel
theorem q4o1 : ∀ w ∈ Cond.classLink "SixJoints" 170 q4N :: Cond.initialized q4N :: q4at "SixJoints" 174 q4N q4R 13 q4k ["java/lang/Exception"], vx_ot w = true := by decide +kernel
