/-! The law's start: what the tables and the given start say of it; the claim out of a run of the interpreter. -/
noncomputable def zLow : List Int32 := [0, -32, -32, -32, -32, -64]
noncomputable def zHigh : List Int32 := [99, 31, 31, 31, 31, 63]
noncomputable def zCos : List Int32 := [1000, 995, 981, 957, 924, 882, 831, 773, 707, 634, 556, 471, 383, 290, 195, 98, 0, -98, -195, -290, -383, -471, -556, -634, -707, -773, -831, -882, -924, -957, -981, -995, -1000, -995, -981, -957, -924, -882, -831, -773, -707, -634, -556, -471, -383, -290, -195, -98, 0, 98, 195, 290, 383, 471, 556, 634, 707, 773, 831, 882, 924, 957, 981, 995]
noncomputable def zWords : List Int32 := [412560384, 269946880, 273980692, 79870080, 642945024, 609865728, 412526208, 654480512, 654823424, 250609664]
noncomputable def zQuarter : List Int32 := [1000, 995, 981, 957, 924, 882, 831, 773, 707, 634, 556, 471, 383, 290, 195, 98, 0]
noncomputable def zg (L : Nat) (xs : Nat → Int32) : zCt := fun j => match j with
  | 0 => some (0, 6, fun i => zLow.getD i 0)
  | 1 => some (0, 6, fun i => zHigh.getD i 0)
  | 2 => some (0, 64, fun i => zCos.getD i 0)
  | 3 => some (0, 10, fun i => zWords.getD i 0)
  | 4 => some (0, 17, fun i => zQuarter.getD i 0)
  | 5 => some (0, L, xs)
  | _ => none
theorem zstat {args : Array Value} {s : State} {G : Jvm.Cond} (hgv : G.before args s = true) {sz : Nat} (hsz : sz = s.heap.size) (C n : String) (N : Nat) (hN : N < 2 ^ 31) (f : Nat → Int32) (h1 : Cond.arrayOf (.static C n "[I") .int ∈ flatC G) (h2 : Cond.eq (.length (.static C n "[I")) (.int (Int32.ofNat N)) ∈ flatC G)
    (h3 : (List.range N).all (fun j => decide (Cond.eq (.elem (.static C n "[I") (.int (Int32.ofNat j))) (.int (f j)) ∈ flatC G)) = true) (hl : (Cond.laysStatic C n "[I").before args s = true) (hini : (Cond.initialized C).before args s = true) :
    ∃ t, va_Z C n "[I" (.ref t) (fun q => sz ≤ q) s s.heap ∧ va_T .int t N (fun i => .int (f i)) (fun q => sz ≤ q) s s.heap := by
  have hs := flat_of_before _ hgv
  have hA : ∀ a : Nat, a < s.heap.size → ¬ (fun q => sz ≤ q) a := fun a h => by show ¬ sz ≤ a; omega
  obtain ⟨t, e1, e2⟩ := va_Tof (tm := .static C n "[I") (ty := .int) (N := N) (f := fun i => .int (f i)) (A := fun q => sz ≤ q) hN (hs _ h1) (va_eqt (hs _ h2)) (fun j hj => va_eqt (hs _ (of_decide_eq_true (List.all_eq_true.mp h3 j (List.mem_range.mpr hj))))) hA
  exact ⟨t, va_Zof hl hini e1 hA, e2⟩
theorem zarr {args : Array Value} {s : State} {ty : FieldType} (h : (Cond.arrayClass ty).before args s = true) (hp : ∀ C, ty ≠ .object C) : ∃ cA, ArrOfT s cA ty ∧ va_RA s cA ty := by
  obtain ⟨cA, kA, comp, h1, h2, h3⟩ := Cond.arrayClass_spec h
  refine ⟨cA, fun n z => ⟨fun k h => (by cases h), kA, h2, comp, h3⟩, ?_⟩
  cases ty <;> first | exact absurd rfl (hp _) | exact h1
theorem zarrH {args : Array Value} {s : State} {C : String} (h : (Cond.arrayOver (.object C)).before args s = true) : ∃ cA, ArrOfT s cA (.object C) ∧ va_RA s cA (.object C) := by
  obtain ⟨comp, c, k, h1, h2, h3, h4, h5⟩ := Cond.arrayOver_spec h
  exact ⟨c, fun n z => ⟨fun k h => (by cases h), k, h3, comp, h4⟩, k, comp, h3, h4, h1, h5⟩
set_option maxRecDepth 1000000 in
theorem q4w2 : ∀ w ∈ ([.stringRef "SixJoints" 150 "no such joint", .stringRef "SixJoints" 172 "no such what", .laysStatic Bundle.tN "UNASSIGNED_STACK" Bundle.steD, .laysStatic Bundle.tN "SUPPRESSED_SENTINEL" Bundle.listD, .initialized Bundle.tN, .castable q4I q4I, .castable q4N q4N, .declares (Bundle.initS "java/lang/RuntimeException"), .declares (Bundle.initS "java/lang/Exception"), .declares (Bundle.initS Bundle.tN)] : List Cond), w ∈ lw_tbl := by decide +kernel
set_option maxRecDepth 100000 in
theorem q4w3 : ∀ w ∈ ([.exactly (.string "SixJoints" 150) "java/lang/String", .exactly (.string "SixJoints" 172) "java/lang/String", .isRef (.static Bundle.tN "UNASSIGNED_STACK" Bundle.steD), .isRef (.static Bundle.tN "SUPPRESSED_SENTINEL" Bundle.listD), .not (.castable q4N q4I)] : List Cond), w ∈ flatC (Jvm.Cond.and given_1 narrow_1) := by decide +kernel
theorem q4env {p : Program} {s : State} {m : MethodId} {meth : Method} {c : Code} {b L : Nat} {xs : Nat → Int32} (C0 : lw_At p s m meth c b L xs) : ∃ a1 a2 : Nat, q4E s.heap.size a1 a2 s := by
  obtain ⟨hx, hb, hr, hml, hown, hts, hX, hbl, hlocks, hgv⟩ := C0
  have hs := flat_of_before _ hgv
  have w2 : ∀ (i : Nat) (w : Cond), _[i]? = some w → w.before #[Value.ref b] s = true := fun i w h => hts w (q4w2 w (List.mem_of_getElem? h))
  have w3 : ∀ (i : Nat) (w : Cond), _[i]? = some w → w.before #[Value.ref b] s = true := fun i w h => hs w (q4w3 w (List.mem_of_getElem? h))
  obtain ⟨a1, -, -, -, k1, -⟩ := Cond.exactly_spec (show (Cond.exactly (.string "SixJoints" 150) "java/lang/String").holds #[Value.ref b] s none s [] = true from w3 0 _ rfl)
  obtain ⟨a2, -, -, -, k2, -⟩ := Cond.exactly_spec (show (Cond.exactly (.string "SixJoints" 172) "java/lang/String").holds #[Value.ref b] s none s [] = true from w3 1 _ rfl)
  have hA : ∀ a : Nat, a < s.heap.size → ¬ (s.heap.size ≤ a) := fun a h1 h2 => by omega
  exact ⟨a1, a2, vk_R.of (w2 0 _ rfl) k1, vk_R.of (w2 1 _ rfl) k2, vx_Zqof (w2 2 _ rfl) (w2 4 _ rfl) (w3 2 _ rfl) hA, vx_Zqof (w2 3 _ rfl) (w2 4 _ rfl) (w3 3 _ rfl) hA, va_Nw.of rfl (w2 5 _ rfl), va_Nw.of rfl (w2 6 _ rfl), va_Nw.of rfl (w2 7 _ rfl), va_Nw.of rfl (w2 8 _ rfl), va_Nw.of rfl (w2 9 _ rfl), va_Nc.of (w3 4 _ rfl)⟩
set_option maxRecDepth 1000000 in
theorem zx_w2 : ∀ w ∈ ([.stringRef "SixJointsModel" 169 zTx, .laysStatic "java/lang/String" "COMPACT_STRINGS" "Z", .initialized "java/lang/String", .laysStatic "jdk/internal/util/Preconditions" "SIOOBE_FORMATTER" "Ljava/util/function/BiFunction;", .initialized "jdk/internal/util/Preconditions"] : List Cond), w ∈ lw_tbl := by decide +kernel
set_option maxRecDepth 1000000 in
theorem zx_w3 : ∀ w ∈ ([.exactly (.string "SixJointsModel" 169) "java/lang/String", .eq (.field (.string "SixJointsModel" 169) "java/lang/String" "coder" "B") (.int 0), .arrayOf (.field (.string "SixJointsModel" 169) "java/lang/String" "value" "[B") .byte, .eq (.length (.field (.string "SixJointsModel" 169) "java/lang/String" "value" "[B")) (.int 53), .eq (.static "java/lang/String" "COMPACT_STRINGS" "Z") (.int 1), .isRef (.static "jdk/internal/util/Preconditions" "SIOOBE_FORMATTER" "Ljava/util/function/BiFunction;")] : List Cond), w ∈ flatC (Jvm.Cond.and given_1 narrow_1) := by decide +kernel
set_option maxRecDepth 1000000 in
theorem zx_w4 : (List.range 53).all (fun j => decide (Cond.eq (.elem (.field (.string "SixJointsModel" 169) "java/lang/String" "value" "[B") (.int (Int32.ofNat j))) (.int (zTb.getD j 0)) ∈ flatC (Jvm.Cond.and given_1 narrow_1))) = true := by decide +kernel
theorem zxenv {p : Program} {s : State} {m : MethodId} {meth : Method} {c : Code} {b L : Nat} {xs : Nat → Int32} (C0 : lw_At p s m meth c b L xs) : ∃ a6 a7 a8 a9 a10 : Nat, ∀ ka : Nat → Nat, ka 6 = a6 → ka 7 = a7 → ka 8 = a8 → ka 9 = a9 → ka 10 = a10 → zXe s.heap.size ka s := by
  obtain ⟨a9, a10, hq⟩ := q4env C0
  obtain ⟨hx, hb, hr, hml, hown, hts, hX, hbl, hlocks, hgv⟩ := C0
  have hs := flat_of_before _ hgv
  have w2 : ∀ (i : Nat) (w : Cond), _[i]? = some w → w.before #[Value.ref b] s = true := fun i w h => hts w (zx_w2 w (List.mem_of_getElem? h))
  have w3 : ∀ (i : Nat) (w : Cond), _[i]? = some w → w.before #[Value.ref b] s = true := fun i w h => hs w (zx_w3 w (List.mem_of_getElem? h))
  have hA : ∀ a : Nat, a < s.heap.size → ¬ (s.heap.size ≤ a) := fun a h1 h2 => by omega
  have hi0 : ∀ i : Nat, i < 1 → i = 0 := fun i hi => by omega
  obtain ⟨adK, adV, hS, hk⟩ := vk_Sof (args := #[Value.ref b]) (s := s) (N := 1) (tm := fun _ => .string "SixJointsModel" 169) (len := [53]) (byt := [zTb]) (A := fun q => s.heap.size ≤ q)
    (fun i hi => by rw [hi0 i hi]; decide) (fun i hi => w3 0 _ rfl) (fun i hi => w3 1 _ rfl) (fun i hi => w3 2 _ rfl) (fun i hi => by rw [hi0 i hi]; exact w3 3 _ rfl)
    (fun i hi j hj => by rw [hi0 i hi] at hj ⊢; exact hs _ (of_decide_eq_true (List.all_eq_true.mp zx_w4 j (List.mem_range.mpr hj)))) (fun i j hi hj hij => absurd ((hi0 i hi).trans (hi0 j hj).symm) hij) hA
  have z1 := va_Zof (w2 1 _ rfl) (w2 2 _ rfl) (va_eqt (w3 4 _ rfl)) (A := fun q => s.heap.size ≤ q) hA
  have z2 := va_Zqof (w2 3 _ rfl) (w2 4 _ rfl) (w3 5 _ rfl) (A := fun q => s.heap.size ≤ q) hA
  obtain ⟨a8, z3⟩ : ∃ a8 : Nat, va_Z "jdk/internal/util/Preconditions" "SIOOBE_FORMATTER" "Ljava/util/function/BiFunction;" .null (fun q => s.heap.size ≤ q) s s.heap ∨ va_Z "jdk/internal/util/Preconditions" "SIOOBE_FORMATTER" "Ljava/util/function/BiFunction;" (.ref a8) (fun q => s.heap.size ≤ q) s s.heap := by
    rcases z2 with z2 | ⟨a8, z2⟩
    · exact ⟨0, Or.inl z2⟩
    · exact ⟨a8, Or.inr z2⟩
  refine ⟨adK 0, adV 0, a8, a9, a10, fun ka e6 e7 e8 e9 e10 => ⟨?_, ?_, z1, by rw [e8]; exact z3, by rw [e9, e10]; exact hq⟩⟩
  · rw [e6]
    exact vk_R.of (w2 0 _ rfl) (hk 0 (by decide))
  · rw [e6, e7]
    refine ⟨fun i hi => ?_, fun i j hi hj _ => by omega⟩
    rw [hi0 i hi]
    exact hS.1 0 (by decide)
set_option maxRecDepth 100000 in
set_option maxHeartbeats 4000000 in
theorem zenv {p : Program} {s : State} {m : MethodId} {meth : Method} {c : Code} {b L : Nat} {xs : Nat → Int32} (C0 : lw_At p s m meth c b L xs) : ∃ (D : va_G) (cy ka : Nat → Nat), ka 5 = b ∧ zEnv zcl lw_tbl zZs0 D cy s.heap.size ka (zg L xs) s := by
  obtain ⟨a6, a7, a8, a9, a10, hxe⟩ := zxenv C0
  obtain ⟨hx, hb, hr, hml, hown, hts, hX, hbl, hlocks, hgv⟩ := C0
  have htz : ∀ w ∈ zTs, w.before #[Value.ref b] s = true := fun w hw => hts w (List.mem_filter.mp hw).1
  have hcl : ∀ ci : Nat, ∃ x : ClassId × (Nat → Nat), ∀ q, zcl[ci]? = some q → u_Kn s q.1 q.2.1 q.2.2 x.1 x.2 := by
    intro ci
    cases hq : zcl[ci]? with
    | none => exact ⟨(0, fun _ => 0), fun q h => by cases h⟩
    | some q =>
      rcases zcls_ok ci q hq with ⟨k1, -, -, k4, -⟩ | ⟨q0, k4⟩
      · obtain ⟨cC, iS, h⟩ := u_known (n := q.2.2) htz k1 (htz _ k4)
        exact ⟨(cC, iS), fun q2 h2 => by cases h2; exact h⟩
      · obtain ⟨cC, iS, h⟩ := u_known (C := q.1) (T := q.2.1) (N := q.2.2) (n := 6) htz (fun w hw => by rw [q0] at hw; exact absurd hw List.not_mem_nil) (htz _ k4)
        exact ⟨(cC, iS), fun q2 h2 => by cases h2; exact h⟩
  obtain ⟨f, hf⟩ := Classical.axiomOfChoice hcl
  obtain ⟨c0, a0, r0⟩ := zarr (htz _ zw_ar_int) (fun _ h => by cases h)
  obtain ⟨c1, a1, r1⟩ := zarr (htz _ zw_ar_byte) (fun _ h => by cases h)
  obtain ⟨c2, a2, r2⟩ := zarr (htz _ zw_ar_boolean) (fun _ h => by cases h)
  obtain ⟨c3, a3, r3⟩ := zarr (htz _ zw_ar_long) (fun _ h => by cases h)
  have hao : (Cond.arrayOver (.object "SixJoints$Held")).before #[Value.ref b] s = true := hts _ zw_over
  obtain ⟨c4, a4, r4⟩ := zarrH hao
  obtain ⟨t0, z0, g0⟩ := zstat hgv (sz := s.heap.size) rfl "SixJoints" "LOWEST" 6 (by decide) (fun i => zLow.getD i 0) (by decide +kernel) (by decide +kernel) (by decide +kernel) (hts _ zw_st0) (hts _ zw_in0)
  obtain ⟨t1, z1, g1⟩ := zstat hgv (sz := s.heap.size) rfl "SixJoints" "HIGHEST" 6 (by decide) (fun i => zHigh.getD i 0) (by decide +kernel) (by decide +kernel) (by decide +kernel) (hts _ zw_st1) (hts _ zw_in0)
  obtain ⟨t2, z2, g2⟩ := zstat hgv (sz := s.heap.size) rfl "SixJoints" "COS" 64 (by decide) (fun i => zCos.getD i 0) (by decide +kernel) (by decide +kernel) (by decide +kernel) (hts _ zw_st2) (hts _ zw_in0)
  obtain ⟨t3, z3, g3⟩ := zstat hgv (sz := s.heap.size) rfl "SixJoints$Reader" "WORDS" 10 (by decide) (fun i => zWords.getD i 0) (by decide +kernel) (by decide +kernel) (by decide +kernel) (hts _ zw_st3) (hts _ zw_in3)
  obtain ⟨t4, z4, g4⟩ := zstat hgv (sz := s.heap.size) rfl "SixJointsModel" "QUARTER" 17 (by decide) (fun i => zQuarter.getD i 0) (by decide +kernel) (by decide +kernel) (by decide +kernel) (hts _ zw_st4) (hts _ zw_in4)
  have g5 : va_T .int b L (fun i => .int (xs i)) (fun q => s.heap.size ≤ q) s s.heap := by
    obtain ⟨scr, k1, k2, k3, k4, k5⟩ := hX
    exact ⟨scr, k1, k2, k3, by omega, (by rw [k4]), k5, by show ¬ s.heap.size ≤ b; omega⟩
  refine ⟨(fun ci => (f ci).1, fun ci => (f ci).2), fun t => match t with | 0 => c0 | 1 => c1 | 2 => c2 | 3 => c3 | _ => c4, fun j => match j with | 0 => t0 | 1 => t1 | 2 => t2 | 3 => t3 | 4 => t4 | 5 => b | 6 => a6 | 7 => a7 | 8 => a8 | 9 => a9 | _ => a10, rfl, ⟨fun ci q hq => hf ci q hq, ?_⟩, ?_, ?_, fun a i b n d h hm => va_Nw.of rfl (hts _ hm), fun a i x h hm => va_Nw.of rfl (hts _ hm), va_AO.of hao, hxe _ rfl rfl rfl rfl rfl, Nat.le_refl _⟩
  · intro k q hk
    match k, hk with
    | 0, hk => cases hk; exact ⟨a0, r0⟩
    | 1, hk => cases hk; exact ⟨a1, r1⟩
    | 2, hk => cases hk; exact ⟨a2, r2⟩
    | 3, hk => cases hk; exact ⟨a3, r3⟩
    | 4, hk => cases hk; exact ⟨a4, r4⟩
    | k + 5, hk => cases hk
  · intro j n f9 hg
    match j, hg with
    | 0, hg => cases hg; exact g0
    | 1, hg => cases hg; exact g1
    | 2, hg => cases hg; exact g2
    | 3, hg => cases hg; exact g3
    | 4, hg => cases hg; exact g4
    | 5, hg => cases hg; exact g5
    | j + 6, hg => cases hg
  · exact List.forall_mem_cons.mpr ⟨z0, List.forall_mem_cons.mpr ⟨z1, List.forall_mem_cons.mpr ⟨z2, List.forall_mem_cons.mpr ⟨z3, List.forall_mem_cons.mpr ⟨z4, fun _ h => absurd h List.not_mem_nil⟩⟩⟩⟩⟩
