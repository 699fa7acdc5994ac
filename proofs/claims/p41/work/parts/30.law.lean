/-! The law's start: what the tables and the given start say of it; the claim out of a run of the interpreter. -/
def zLow : List Int32 := [0, -32, -32, -32, -32, -64]
def zHigh : List Int32 := [99, 31, 31, 31, 31, 63]
def zCos : List Int32 := [1000, 995, 981, 957, 924, 882, 831, 773, 707, 634, 556, 471, 383, 290, 195, 98, 0, -98, -195, -290, -383, -471, -556, -634, -707, -773, -831, -882, -924, -957, -981, -995, -1000, -995, -981, -957, -924, -882, -831, -773, -707, -634, -556, -471, -383, -290, -195, -98, 0, 98, 195, 290, 383, 471, 556, 634, 707, 773, 831, 882, 924, 957, 981, 995]
def zWords : List Int32 := [412560384, 269946880, 273980692, 79870080, 642945024, 609865728, 412526208, 654480512, 654823424, 250609664]
def zQuarter : List Int32 := [1000, 995, 981, 957, 924, 882, 831, 773, 707, 634, 556, 471, 383, 290, 195, 98, 0]
def zg (L : Nat) (xs : Nat → Int32) : zCt := fun j => match j with
  | 0 => some (0, 6, fun i => zLow.getD i 0)
  | 1 => some (0, 6, fun i => zHigh.getD i 0)
  | 2 => some (0, 64, fun i => zCos.getD i 0)
  | 3 => some (0, 10, fun i => zWords.getD i 0)
  | 4 => some (0, 17, fun i => zQuarter.getD i 0)
  | 5 => some (0, L, xs)
  | _ => none
theorem zstat {args : Array Value} {s : State} {G : Jvm.Cond} (hgv : G.before args s = true) {sz : Nat} (hsz : sz = s.heap.size) (C n : String) (N : Nat) (hN : N < 2 ^ 31) (f : Nat → Int32) (h1 : Cond.arrayOf (.static C n "[I") .int ∈ flatC G) (h2 : Cond.eq (.length (.static C n "[I")) (.int (Int32.ofNat N)) ∈ flatC G)
    (h3 : (List.range N).all (fun j => decide (Cond.eq (.elem (.static C n "[I") (.int (Int32.ofNat j))) (.int (f j)) ∈ flatC G)) = true) (hl : (Cond.laysStatic C n "[I").before args s = true) (hini : (Cond.initialized C).before args s = true) :
    ∃ t, va_Z C n "[I" (.ref t) (fun q => sz ≤ q) s s.heap ∧ va_T .int t N (fun i => .int (f i)) (fun q => sz ≤ q) s s.heap := by
  have hs := flat_of_before _ hgv
  have hA : ∀ a : Nat, a < s.heap.size → ¬ (fun q => sz ≤ q) a := fun a h => by show ¬ sz ≤ a; omega
  obtain ⟨t, e1, e2⟩ := va_Tof (tm := .static C n "[I") (ty := .int) (N := N) (f := fun i => .int (f i)) (A := fun q => sz ≤ q) hN (hs _ h1) (va_eqt (hs _ h2)) (fun j hj => va_eqt (hs _ (of_decide_eq_true (List.all_eq_true.mp h3 j (List.mem_range.mpr hj))))) hA
  exact ⟨t, va_Zof hl hini e1 hA, e2⟩
theorem zarr {args : Array Value} {s : State} {ty : FieldType} (h : (Cond.arrayClass ty).before args s = true) (hp : ∀ C, ty ≠ .object C) : ∃ cA, ArrOfT s cA ty ∧ va_RA s cA ty := by
  obtain ⟨cA, kA, comp, h1, h2, h3⟩ := Cond.arrayClass_spec h
  refine ⟨cA, fun n z => ⟨fun k h => (by cases h), kA, h2, comp, h3⟩, ?_⟩
  cases ty <;> first | exact absurd rfl (hp _) | exact h1
theorem zarrH {args : Array Value} {s : State} {C : String} (h : (Cond.arrayOver (.object C)).before args s = true) : ∃ cA, ArrOfT s cA (.object C) ∧ va_RA s cA (.object C) := by
  obtain ⟨comp, c, k, h1, h2, h3, h4, h5⟩ := Cond.arrayOver_spec h
  exact ⟨c, fun n z => ⟨fun k h => (by cases h), k, h3, comp, h4⟩, k, comp, h3, h4, h1, h5⟩
set_option maxRecDepth 100000 in
set_option maxHeartbeats 4000000 in
theorem zenv {p : Program} {s : State} {m : MethodId} {meth : Method} {c : Code} {b L : Nat} {xs : Nat → Int32} (C0 : lw_At p s m meth c b L xs) : ∃ (D : va_G) (cy ka : Nat → Nat), ka 5 = b ∧ zEnv zcl lw_tbl zZs0 D cy s.heap.size ka (zg L xs) s := by
  obtain ⟨hx, hb, hr, hml, hown, hts, hX, hbl, hlocks, hgv⟩ := C0
  have htz : ∀ w ∈ zTs, w.before #[Value.ref b] s = true := fun w hw => hts w (List.mem_filter.mp hw).1
  have hcl : ∀ ci : Nat, ∃ x : ClassId × (Nat → Nat), ∀ q, zcl[ci]? = some q → u_Kn s q.1 q.2.1 q.2.2 x.1 x.2 := by
    intro ci
    cases hq : zcl[ci]? with
    | none => exact ⟨(0, fun _ => 0), fun q h => by cases h⟩
    | some q =>
      obtain ⟨k1, -, -, k4, -⟩ := zcls_ok ci q hq
      obtain ⟨cC, iS, h⟩ := u_known (n := q.2.2) htz k1 (htz _ k4)
      exact ⟨(cC, iS), fun q2 h2 => by cases h2; exact h⟩
  obtain ⟨f, hf⟩ := Classical.axiomOfChoice hcl
  obtain ⟨c0, a0, r0⟩ := zarr (htz _ zw_ar_int) (fun _ h => by cases h)
  obtain ⟨c1, a1, r1⟩ := zarr (htz _ zw_ar_byte) (fun _ h => by cases h)
  obtain ⟨c2, a2, r2⟩ := zarr (htz _ zw_ar_boolean) (fun _ h => by cases h)
  obtain ⟨c3, a3, r3⟩ := zarr (htz _ zw_ar_long) (fun _ h => by cases h)
  have hao : (Cond.arrayOver (.object "SixJoints$Held")).before #[Value.ref b] s = true := hts _ zw_over
  obtain ⟨c4, a4, r4⟩ := zarrH hao
  obtain ⟨t0, z0, g0⟩ := zstat hgv (sz := s.heap.size) rfl "SixJoints" "LOWEST" 6 (by decide) (fun i => zLow.getD i 0) (by decide +kernel) (by decide +kernel) (by decide +kernel) (hts _ zw_st0) (hts _ zw_in0)
  obtain ⟨t1, z1, g1⟩ := zstat hgv (sz := s.heap.size) rfl "SixJoints" "HIGHEST" 6 (by decide) (fun i => zHigh.getD i 0) (by decide +kernel) (by decide +kernel) (by decide +kernel) (hts _ zw_st1) (hts _ zw_in0)
  obtain ⟨t2, z2, g2⟩ := zstat hgv (sz := s.heap.size) rfl "SixJoints" "COS" 64 (by decide) (fun i => zCos.getD i 0) (by decide +kernel) (by decide +kernel) (by decide +kernel) (hts _ zw_st2) (hts _ zw_in0)
  obtain ⟨t3, z3, g3⟩ := zstat hgv (sz := s.heap.size) rfl "SixJoints$Reader" "WORDS" 10 (by decide) (fun i => zWords.getD i 0) (by decide +kernel) (by decide +kernel) (by decide +kernel) (hts _ zw_st3) (hts _ zw_in3)
  obtain ⟨t4, z4, g4⟩ := zstat hgv (sz := s.heap.size) rfl "SixJointsModel" "QUARTER" 17 (by decide) (fun i => zQuarter.getD i 0) (by decide +kernel) (by decide +kernel) (by decide +kernel) (hts _ zw_st4) (hts _ zw_in4)
  have g5 : va_T .int b L (fun i => .int (xs i)) (fun q => s.heap.size ≤ q) s s.heap := by
    obtain ⟨scr, k1, k2, k3, k4, k5⟩ := hX
    exact ⟨scr, k1, k2, k3, by omega, (by rw [k4]), k5, by show ¬ s.heap.size ≤ b; omega⟩
  refine ⟨(fun ci => (f ci).1, fun ci => (f ci).2), fun t => match t with | 0 => c0 | 1 => c1 | 2 => c2 | 3 => c3 | _ => c4, fun j => match j with | 0 => t0 | 1 => t1 | 2 => t2 | 3 => t3 | 4 => t4 | _ => b, rfl, ⟨fun ci q hq => hf ci q hq, ?_⟩, ?_, ?_, fun a i b n d h hm => va_Nw.of rfl (hts _ hm), fun a i x h hm => va_Nw.of rfl (hts _ hm), va_AO.of hao, Nat.le_refl _⟩
  · intro k q hk
    match k, hk with
    | 0, hk => cases hk; exact ⟨a0, r0⟩
    | 1, hk => cases hk; exact ⟨a1, r1⟩
    | 2, hk => cases hk; exact ⟨a2, r2⟩
    | 3, hk => cases hk; exact ⟨a3, r3⟩
    | 4, hk => cases hk; exact ⟨a4, r4⟩
    | k + 5, hk => cases hk
  · intro j n f9 hg
    match j, hg with
    | 0, hg => cases hg; exact g0
    | 1, hg => cases hg; exact g1
    | 2, hg => cases hg; exact g2
    | 3, hg => cases hg; exact g3
    | 4, hg => cases hg; exact g4
    | 5, hg => cases hg; exact g5
    | j + 6, hg => cases hg
  · exact List.forall_mem_cons.mpr ⟨z0, List.forall_mem_cons.mpr ⟨z1, List.forall_mem_cons.mpr ⟨z2, List.forall_mem_cons.mpr ⟨z3, List.forall_mem_cons.mpr ⟨z4, fun _ h => absurd h List.not_mem_nil⟩⟩⟩⟩⟩
set_option maxHeartbeats 4000000 in
/-- the law out of a run of the interpreter -/
theorem zwhole {p : Program} {e : Env} {s : State} {m : MethodId} {below : List Frame} {meth : Method} {c : Code} (l : Launch) {b L : Nat} {xs : Nat → Int32} (hnm : meth.name = "law") (C0 : lw_At p s m meth c b L xs) {n : Nat} {h2 : zH} {dc ds : Nat} (hz : zrun (zg L xs) zF zP n 288 0 [(0, .ref 11)] [] [] 0 0 = some (some (.int 1), h2, dc, ds)) (hdc : dc ≤ 601024) (hds : ds ≤ 7293034) :
    W p l e room_1 s m #[Value.ref b] below meth c s.heap [] 0 0 (lw_Z below #[Value.ref b] s) (entryFrame m ([Value.ref b] : List Value).toArray 7) := by
  obtain ⟨D, cy, ka, hka, hE⟩ := zenv C0
  obtain ⟨hx, hb, hr, hml, hown, hts, hX, hbl, hlocks, hgv⟩ := C0
  have htz : ∀ w ∈ zTs, w.before #[Value.ref b] s = true := fun w hw => hts w (List.mem_filter.mp hw).1
  have hl := lv_entry ([.ref b]) (n := 7) (Nat.le_of_ble_eq_true rfl)
  rw [lg_entry_eq]
  generalize (lg_sl ([.ref b]) ++ List.replicate (7 - (lg_sl ([.ref b])).length) Slot.unset).toArray = A at hl ⊢
  have e5 : zr s.heap.size ka 11 = b := by rw [zr_odd (by decide)]; exact hka
  have hl : lv_has A (zM 288).2.2.1 (zl (zr s.heap.size ka) [(0, .ref 11)]) := by
    show lv_has A 7 [(0, .ref (zr s.heap.size ka 11))]
    rw [e5]
    exact hl
  refine zrun_ok zOK0 n 288 0 [(0, .ref 11)] [] [] 0 0 _ h2 dc ds hz p e room_1 s m _ below meth c s.heap [] A _ ⟨hx, hb, hml, hown, htz, hE, hnm⟩ rfl rfl hdc hds (fun k q h => by cases h) va_S.rf hl rfl ?_
  intro H locs A2 pc i len K tg ls st hPc hz2 hP2 hS2 hn2
  obtain ⟨hd, -, hcf⟩ := zOK0.2.2.2 _ _ _ _ _ _ hPc
  cases i
  case ireturn =>
    obtain ⟨hk, hlen⟩ := hcf
    subst hlen
    obtain ⟨x, q0, q1, h1⟩ := zret_inv hz2
    cases q1
    subst q0
    refine va_forget (fun q hq => hS2.2.2 q hq) ?_
    refine W.widen (k := 601024) (n := 7293034) hdc hds ?_
    exact lw_ret hx hb hr hlocks hd
  case lreturn =>
    have hz2 : zlret st = some (.inr (.inr (.inl (some (.int 1))))) := hz2
    unfold zlret at hz2
    split at hz2 <;> cases hz2
  case areturn =>
    have hz2 : zaret st = some (.inr (.inr (.inl (some (.int 1))))) := hz2
    unfold zaret at hz2
    split at hz2 <;> cases hz2
  case return_ =>
    have hz2 : zvret st = some (.inr (.inr (.inl (some (.int 1))))) := hz2
    unfold zvret at hz2
    split at hz2 <;> cases hz2
  case new => exact nomatch (show (some (.inr (.inr (.inr (pc + 3, st, .inr (.inr (.inr (K.1, zF K.1))))))) : Option zA) = some (.inr (.inr (.inl _))) from hz2)
  case newarray => exact absurd hz2 (znewa_k _ _ _ _)
  case anewarray => exact absurd hz2 (zanew_k _ _ _)
  case invokestatic k => exact absurd hz2 (zinvs_m (Or.inl rfl))
  case invokespecial k => exact absurd hz2 (zinvs_m (Or.inr (Or.inl rfl)))
  case invokevirtual k => exact absurd hz2 (zinvs_m (Or.inr (Or.inr rfl)))
  all_goals exact nomatch (show false = true from zins_big hz2)
