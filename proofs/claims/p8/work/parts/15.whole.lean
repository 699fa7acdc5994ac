/-! The interpreter's runs are the machine's. -/
theorem zrun_mono {g : zCt} {F : zFs} {P : zCd} : ∀ {n y pc : Nat} {ls : zL} {st : List Value} {h : zH} {dc ds : Nat} {v : Option Value} {h2 : zH} {dcF dsF : Nat}, zrun g F P n y pc ls st h dc ds = some (v, h2, dcF, dsF) → dc ≤ dcF ∧ ds ≤ dsF := by
  intro n
  induction n with
  | zero => intro y pc ls st h dc ds v h2 dcF dsF hz; cases hz
  | succ n ih =>
    intro y pc ls st h dc ds v h2 dcF dsF hz
    unfold zrun at hz
    split at hz
    · split at hz
      · cases hz
      · have h1 := ih hz
        omega
    · split at hz
      · cases hz
      · exact ih hz
      · split at hz
        · cases hz
        · have h1 := ih hz
          omega
      · injection hz with hz
        injection hz with h1 hz
        injection hz with h2 hz
        injection hz with h3 h4
        omega
      · have h1 := ih hz
        omega
/-- what the tables must hold of the code -/
noncomputable def zOK (cl : List vw_C) (Ts Ns : List Cond) (Zs : zZs) (F : zFs) (zty : Nat → Nat → FieldType) (M : Nat → zMt) (P : zCd) : Prop :=
  (∀ w ∈ Ts, goodWord w = true) ∧ (∀ (ci : Nat) (q : vw_C), cl[ci]? = some q → zClok Ts F zty ci q ∨ q.2.2 = 0) ∧ (∃ q, cl[1]? = some q ∧ q.1 = "SixJoints$Held") ∧
  ∀ (y pc : Nat) (i : Instr) (len : Nat) (K : zK) (tg : List Nat), P y pc = some (i, len, K, tg) → decode (M y).2.1 pc = .ok (i, len) ∧ (zbig i = false → zfact cl Ts Ns Zs zty (M y).1.cls (M y).1.name (M y).2.2.1 i K tg len pc) ∧ zcf cl Ts Ns M (M y).1.cls (M y).2.2.2.1 (M y).2.2.2.2.1 (M y).2.2.2.2.2 i K len
noncomputable def zClaim (cl : List vw_C) (Ts Ns : List Cond) (Zs : zZs) (D : va_G) (cy : Nat → ClassId) (sz : Nat) (ka : Nat → Nat) (g : zCt) (F : zFs) (M : Nat → zMt) (P : zCd) (l : Launch) (n : Nat) : Prop :=
  ∀ (y pc : Nat) (ls : zL) (st : List Value) (h : zH) (dc ds : Nat) (v : Option Value) (h2 : zH) (dcF dsF : Nat), zrun g F P n y pc ls st h dc ds = some (v, h2, dcF, dsF) →
  ∀ (p : Program) (e : Env) (R : Room) (s : State) (m : MethodId) (args : Array Value) (below : List Frame) (meth : Method) (c : Code) (H : Heap) (locs : List Loc) (A : Array Slot) (Q : State → Prop),
  zCx cl Ts Ns Zs D cy sz ka g (M y).1.cls (M y).1.name (M y).2.1 (M y).2.2.1 p s m args meth c → R.frames = (M y).2.2.2.2.1 → R.locals = (M y).2.2.2.2.2 → dcF ≤ R.cells → dsF ≤ R.slots →
  va_P D cl (zW cy (zr sz ka) sz h) H → va_S (fun q => sz ≤ q) s.heap H locs → lv_has A (M y).2.2.1 (zl (zr sz ka) ls) → sz + h.length = s.heap.size + dc →
  (∀ (H : Heap) (locs : List Loc) (A : Array Slot) (pc : Nat) (i : Instr) (len : Nat) (K : zK) (tg : List Nat) (ls : zL) (st : List Value), P y pc = some (i, len, K, tg) → zins g F tg i K len pc ls st h2 = some (.inr (.inr (.inl v))) → va_P D cl (zW cy (zr sz ka) sz h2) H → va_S (fun q => sz ≤ q) s.heap H locs → sz + h2.length = s.heap.size + dcF → W p l e R s m args below meth c H locs dcF dsF Q (F0 m pc A (st.map (zv (zr sz ka))))) →
  W p l e R s m args below meth c H locs dc ds Q (F0 m pc A (st.map (zv (zr sz ka))))
/-- the steps that aren't run by their code are the machine's -/
noncomputable def zXs (cl : List vw_C) (Ts Ns : List Cond) (Zs : zZs) (D : va_G) (cy : Nat → ClassId) (sz : Nat) (ka : Nat → Nat) (g : zCt) (F : zFs) (M : Nat → zMt) (P : zCd) (l : Launch) (n : Nat) : Prop :=
  ∀ (y pc : Nat) (ls : zL) (st : List Value) (h : zH) (dc ds pc2 : Nat) (st2 : List Value) (h2 : zH) (d1 s1 : Nat), P y pc = none → zspec (fun y as => zrun g F P n y 0 (lv_args 0 as) [] h 0 0) y pc st h = some (pc2, st2, h2, d1, s1) →
  ∀ (p : Program) (e : Env) (R : Room) (s : State) (m : MethodId) (args : Array Value) (below : List Frame) (meth : Method) (c : Code) (H : Heap) (locs : List Loc) (A : Array Slot) (Q : State → Prop),
  zCx cl Ts Ns Zs D cy sz ka g (M y).1.cls (M y).1.name (M y).2.1 (M y).2.2.1 p s m args meth c → R.frames = (M y).2.2.2.2.1 → R.locals = (M y).2.2.2.2.2 → dc + d1 ≤ R.cells → ds + s1 ≤ R.slots →
  va_P D cl (zW cy (zr sz ka) sz h) H → va_S (fun q => sz ≤ q) s.heap H locs → lv_has A (M y).2.2.1 (zl (zr sz ka) ls) → sz + h.length = s.heap.size + dc →
  (∀ (H2 : Heap) (locs2 : List Loc), va_P D cl (zW cy (zr sz ka) sz h2) H2 → va_S (fun q => sz ≤ q) s.heap H2 locs2 → sz + h2.length = s.heap.size + (dc + d1) → W p l e R s m args below meth c H2 locs2 (dc + d1) (ds + s1) Q (F0 m pc2 A (st2.map (zv (zr sz ka))))) →
  W p l e R s m args below meth c H locs dc ds Q (F0 m pc A (st.map (zv (zr sz ka))))
section ZW
variable {cl : List vw_C} {Ts Ns : List Cond} {Zs : zZs} {D : va_G} {cy : Nat → ClassId} {sz : Nat} {ka : Nat → Nat} {g : zCt} {F : zFs} {zty : Nat → Nat → FieldType} {M : Nat → zMt} {P : zCd} {l : Launch}
set_option maxHeartbeats 4000000 in
theorem zmet {n : Nat} (OK : zOK cl Ts Ns Zs F zty M P) (C : zClaim cl Ts Ns Zs D cy sz ka g F M P l n) {y : Nat} {as : List Value} {h : zH} {v : Option Value} {h2 : zH} {d1 s1 : Nat} (hz : zrun g F P n y 0 (lv_args 0 as) [] h 0 0 = some (v, h2, d1, s1)) (hn : zcat as ≤ (M y).2.2.1) (hpl : plainFor (M y).1 = true) :
    Met l (M y).1 (Cond.code (M y).1 (M y).2.1 (M y).2.2.1 (M y).2.2.2.1 :: Ts) ({ frames := (M y).2.2.2.2.1, cells := d1, slots := s1, locals := (M y).2.2.2.2.2 }) (zPc cl Ns Zs D cy sz ka g as h) (zQc cl D cy sz ka v h2 d1) d1 s1 (fun q => sz ≤ q) := by
  refine zMet_ofW (cc := (M y).2.1) (maxL := (M y).2.2.1) (ret := (M y).2.2.2.1) hpl rfl ?_
  intro p e s m args below meth c s₁ B hml hv
  obtain ⟨rfl, hE, hP, hsz⟩ := hv
  have hts0 := atoms_spec (ws := Cond.code (M y).1 (M y).2.1 (M y).2.2.1 (M y).2.2.2.1 :: Ts) B.pre
  have hts : ∀ w ∈ Ts, w.before (as.map (zv (zr sz ka))).toArray s = true := fun w hw => hts0 w (List.mem_cons_of_mem _ hw)
  have hown : s.vm.findClass (M y).1.cls = some m.cls := findClass_of_methodNamed B.named
  have hnm : meth.name = (M y).1.name := (name_of_methodNamed B.named B.method).1
  have hl := lv_entry (as.map (zv (zr sz ka))) (n := (M y).2.2.1) (by rw [zsl_len, zcat_map]; exact hn)
  rw [lg_entry_eq]
  generalize (lg_sl (as.map (zv (zr sz ka))) ++ List.replicate ((M y).2.2.1 - (lg_sl (as.map (zv (zr sz ka)))).length) Slot.unset).toArray = A at hl ⊢
  rw [zl_args] at hl
  refine C y 0 (lv_args 0 as) [] h 0 0 v h2 d1 s1 hz p e _ s m _ below meth c s.heap [] A _ ⟨B.exec, B.bytes, hml, hown, hts, hE, hnm⟩ rfl rfl (Nat.le_refl _) (Nat.le_refl _) hP va_S.rf hl (by omega) ?_
  intro H locs A pc i len K tg ls st hPc hz2 hP2 hS2 hn2
  obtain ⟨hd, -, hcf⟩ := OK.2.2.2 _ _ _ _ _ _ hPc
  exact zret_ok B.exec B.bytes B.returns B.notSynchronized hd hcf hz2 (fun t ht hW => ⟨rfl, by rw [ht]; exact hP2, hS2.F ht, hn2⟩) hS2.2.2
set_option maxHeartbeats 4000000 in
theorem zrun_ok (OK : zOK cl Ts Ns Zs F zty M P) (XS : ∀ n, zClaim cl Ts Ns Zs D cy sz ka g F M P l n → zXs cl Ts Ns Zs D cy sz ka g F M P l n) : ∀ n, zClaim cl Ts Ns Zs D cy sz ka g F M P l n := by
  intro n
  induction n with
  | zero => intro y pc ls st h dc ds v h2 dcF dsF hz; cases hz
  | succ n ih =>
    intro y pc ls st h dc ds v h2 dcF dsF hz p e R s m args below meth c H locs A Q X hRf hRl hRc hRs hP hS hl hn hQ
    obtain ⟨hgood, hclok, hheld, hcode⟩ := id OK
    unfold zrun at hz
    split at hz
    · next hP0 =>
      split at hz
      · cases hz
      · next pc2 st2 h3 d1 s1 hs1 =>
        have hm := zrun_mono hz
        refine XS n ih y pc ls st h dc ds pc2 st2 h3 d1 s1 hP0 hs1 p e R s m args below meth c H locs A Q X hRf hRl (by omega) (by omega) hP hS hl hn (fun H2 locs2 hP2 hS2 hn2 => ?_)
        exact ih y pc2 ls st2 h3 (dc + d1) (ds + s1) v h2 dcF dsF hz p e R s m args below meth c H2 locs2 A Q X hRf hRl hRc hRs hP2 hS2 hl hn2 hQ
    · next i len K tg hPc =>
      obtain ⟨hd, hfa, hcf⟩ := hcode _ _ _ _ _ _ hPc
      rw [← hRf, ← hRl] at hcf
      split at hz
      · cases hz
      · next pc2 ls2 st2 h3 hi =>
        have kk : ∀ (H2 : Heap) (locs2 : List Loc) (A2 : Array Slot), h3.length = h.length → va_P D cl (zW cy (zr sz ka) sz h3) H2 → va_S (fun q => sz ≤ q) s.heap H2 locs2 → lv_has A2 (M y).2.2.1 (zl (zr sz ka) ls2) → W p l e R s m args below meth c H2 locs2 dc ds Q (F0 m pc2 A2 (st2.map (zv (zr sz ka)))) :=
          fun H2 locs2 A2 hlen hP2 hS2 hl2 => ih y pc2 ls2 st2 h3 dc ds v h2 dcF dsF hz p e R s m args below meth c H2 locs2 A2 Q X hRf hRl hRc hRs hP2 hS2 hl2 (by rw [hlen]; exact hn) hQ
        by_cases hv : ∃ k, i = .invokestatic k ∨ i = .invokespecial k ∨ i = .invokevirtual k
        · exact zinv_ok (M := M) X hd hcf hi hv hP hS hl kk
        · have hnb : zbig i = false := by
            cases hbg : zbig i with
            | false => rfl
            | true =>
              exfalso
              cases i
              case invokestatic k => exact hv ⟨k, Or.inl rfl⟩
              case invokespecial k => exact hv ⟨k, Or.inr (Or.inl rfl)⟩
              case invokevirtual k => exact hv ⟨k, Or.inr (Or.inr rfl)⟩
              case new => exact nomatch (show (some (.inr (.inr (.inr (pc + 3, st, .inr (.inr (.inr (K.1, F K.1))))))) : Option zA) = some (.inl _) from hi)
              case newarray =>
                have hi : znewa K.1 pc st = some (.inl (pc2, ls2, st2, h3)) := hi
                unfold znewa at hi
                simp only [Bool.cond_eq_ite] at hi
                (repeat' split at hi) <;> first | (cases hi; done) | (simp at hi; done)
              case anewarray =>
                have hi : zanew pc st = some (.inl (pc2, ls2, st2, h3)) := hi
                unfold zanew at hi
                simp only [Bool.cond_eq_ite] at hi
                (repeat' split at hi) <;> first | (cases hi; done) | (simp at hi; done)
              case ireturn =>
                have hi : zret K.1 st = some (.inl (pc2, ls2, st2, h3)) := hi
                unfold zret at hi
                split at hi
                · cases (zb_inv hi).2
                · cases hi
              case lreturn =>
                have hi : zlret st = some (.inl (pc2, ls2, st2, h3)) := hi
                unfold zlret at hi
                split at hi <;> cases hi
              case areturn =>
                have hi : zaret st = some (.inl (pc2, ls2, st2, h3)) := hi
                unfold zaret at hi
                split at hi <;> cases hi
              case return_ =>
                have hi : zvret st = some (.inl (pc2, ls2, st2, h3)) := hi
                unfold zvret at hi
                split at hi <;> cases hi
              all_goals cases hbg
          exact zstep_ok X hclok hheld hd (hfa hnb) hi (fun k => ⟨fun q => hv ⟨k, Or.inl q⟩, fun q => hv ⟨k, Or.inr (Or.inl q)⟩, fun q => hv ⟨k, Or.inr (Or.inr q)⟩⟩) hP hS hl kk
      · next y2 as rest hi =>
        split at hz
        · cases hz
        · next v1 h3 d1 s1 hz1 =>
          have hm := zrun_mono hz
          refine zcall_ok (M := M) hgood X hd hcf hi (v := v1) (h2 := h3) (d1 := d1) (s1 := s1) (fun hc hpl => zmet OK ih hz1 hc hpl) (by omega) (by omega) hP hS hl hn (fun H2 locs2 hP2 hS2 hn2 => ?_)
          exact ih y (pc + 3) ls (v1.toList ++ rest) h3 (dc + d1) (ds + s1) v h2 dcF dsF hz p e R s m args below meth c H2 locs2 A Q X hRf hRl hRc hRs hP2 hS2 hl hn2 hQ
      · next v1 hi =>
        injection hz with hz
        injection hz with h1 hz
        injection hz with h3 hz
        injection hz with h4 h5
        subst h1 h3 h4 h5
        exact hQ H locs A pc i len K tg ls st hPc hi hP hS hn
      · next pc2 rest e9 hi =>
        have hm := zrun_mono hz
        refine zalloc_ok (M := M) X hclok hd hcf hi (by omega) (by omega) hP hS hn (fun H2 hP2 hS2 => ?_)
        exact ih y pc2 ls (.ref (2 * h.length) :: rest) (h ++ [e9]) (dc + 1) (ds + zsz e9) v h2 dcF dsF hz p e R s m args below meth c H2 locs A Q X hRf hRl hRc hRs hP2 hS2 hl (by rw [List.length_append]; simp only [List.length_cons, List.length_nil]; omega) hQ
end ZW
