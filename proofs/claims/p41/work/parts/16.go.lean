/-! Runs by pieces: any fuel; some steps of one method; the machine's walk over such a piece. -/
theorem zrun_more {g : zCt} {F : zFs} {P : zCd} : ∀ {n y pc : Nat} {ls : zL} {st : List Value} {h : zH} {dc ds : Nat} {r : zR}, zrun g F P n y pc ls st h dc ds = some r → ∀ k, zrun g F P (n + k) y pc ls st h dc ds = some r := by
  intro n
  induction n with
  | zero => intro y pc ls st h dc ds r hz; cases hz
  | succ n ih =>
    intro y pc ls st h dc ds r hz k
    rw [show n + 1 + k = (n + k) + 1 by omega]
    unfold zrun at hz ⊢
    split at hz
    · cases hz
    · next i len K tg hP =>
      (try rw [hP])
      (try dsimp only)
      split at hz
      · cases hz
      · next hi => (try rw [hi]); exact ih hz k
      · next y2 as rest hi =>
        (try rw [hi])
        (try dsimp only)
        split at hz
        · cases hz
        · next v h2 d1 s1 h1 =>
          rw [ih h1 k]
          exact ih hz k
      · next hi => (try rw [hi]); exact hz
      · next hi => (try rw [hi]); exact ih hz k
/-- from here on the method ends so, with some fuel -/
def zT (g : zCt) (F : zFs) (P : zCd) (y pc : Nat) (ls : zL) (st : List Value) (h : zH) (dc ds : Nat) (r : zR) : Prop := ∃ n, zrun g F P n y pc ls st h dc ds = some r
abbrev zS6 : Type := Nat × zL × List Value × zH × Nat × Nat
/-- one instruction of a method; a call with fuel f -/
def zone (g : zCt) (F : zFs) (P : zCd) (f y : Nat) (s : zS6) : Option zS6 := match P y s.1 with
  | none => none
  | some (i, len, K, tg) => match zins g F tg i K len s.1 s.2.1 s.2.2.1 s.2.2.2.1 with
    | none => none
    | some (.inl (pc2, ls2, st2, h2)) => some (pc2, ls2, st2, h2, s.2.2.2.2.1, s.2.2.2.2.2)
    | some (.inr (.inl (y2, as, rest))) => (match zrun g F P f y2 0 (lv_args 0 as) [] s.2.2.2.1 0 0 with
      | none => none
      | some (v, h2, d1, s1) => some (s.1 + 3, s.2.1, v.toList ++ rest, h2, s.2.2.2.2.1 + d1, s.2.2.2.2.2 + s1))
    | some (.inr (.inr (.inl _))) => none
    | some (.inr (.inr (.inr (pc2, rest, e)))) => some (pc2, s.2.1, .ref (2 * s.2.2.2.1.length) :: rest, s.2.2.2.1 ++ [e], s.2.2.2.2.1 + 1, s.2.2.2.2.2 + zsz e)
def zgo (g : zCt) (F : zFs) (P : zCd) (f y : Nat) : Nat → zS6 → Option zS6
  | 0, s => some s
  | n + 1, s => match zone g F P f y s with
    | none => none
    | some s2 => zgo g F P f y n s2
theorem zT_one {g : zCt} {F : zFs} {P : zCd} {f y : Nat} {s s2 : zS6} {r : zR} (h : zone g F P f y s = some s2) (k : zT g F P y s2.1 s2.2.1 s2.2.2.1 s2.2.2.2.1 s2.2.2.2.2.1 s2.2.2.2.2.2 r) : zT g F P y s.1 s.2.1 s.2.2.1 s.2.2.2.1 s.2.2.2.2.1 s.2.2.2.2.2 r := by
  obtain ⟨n, hn⟩ := k
  refine ⟨n + f + 1, ?_⟩
  unfold zone at h
  unfold zrun
  split at h
  · cases h
  · next i len K tg hP =>
    rw [hP]
    dsimp only
    split at h
    · cases h
    · next hi =>
      rw [hi]
      cases h
      exact zrun_more hn f
    · next y2 as rest hi =>
      rw [hi]
      dsimp only
      split at h
      · cases h
      · next v h2 d1 s1 h1 =>
        cases h
        rw [show n + f = f + n by omega, zrun_more h1 n]
        dsimp only
        rw [show f + n = n + f by omega]
        exact zrun_more hn f
    · cases h
    · next hi =>
      rw [hi]
      cases h
      exact zrun_more hn f
theorem zT_go {g : zCt} {F : zFs} {P : zCd} {f y : Nat} : ∀ (n : Nat) {s s2 : zS6} {r : zR}, zgo g F P f y n s = some s2 → zT g F P y s2.1 s2.2.1 s2.2.2.1 s2.2.2.2.1 s2.2.2.2.2.1 s2.2.2.2.2.2 r → zT g F P y s.1 s.2.1 s.2.2.1 s.2.2.2.1 s.2.2.2.2.1 s.2.2.2.2.2 r
  | 0, s, s2, r, h, k => by cases h; exact k
  | n + 1, s, s2, r, h, k => by
    unfold zgo at h
    split at h
    · cases h
    · next s3 h3 => exact zT_one h3 (zT_go n h k)
section ZT
variable {g : zCt} {F : zFs} {P : zCd} {y pc : Nat} {ls ls2 : zL} {st st2 rest : List Value} {h h2 : zH} {dc ds : Nat} {r : zR}
/-- one instruction that only steps -/
theorem zT_step {i : Instr} {len : Nat} {K : zK} {tg : List Nat} {pc2 : Nat} (hP : P y pc = some (i, len, K, tg)) (hi : zins g F tg i K len pc ls st h = some (.inl (pc2, ls2, st2, h2))) (k : zT g F P y pc2 ls2 st2 h2 dc ds r) : zT g F P y pc ls st h dc ds r := by
  obtain ⟨n, hn⟩ := k
  refine ⟨n + 1, ?_⟩
  unfold zrun
  rw [hP]
  dsimp only
  rw [hi]
  exact hn
/-- a call whose callee ends -/
theorem zT_call {i : Instr} {len : Nat} {K : zK} {tg : List Nat} {y2 : Nat} {as : List Value} {v : Option Value} {d1 s1 : Nat} (hP : P y pc = some (i, len, K, tg)) (hi : zins g F tg i K len pc ls st h = some (.inr (.inl (y2, as, rest)))) (hc : zT g F P y2 0 (lv_args 0 as) [] h 0 0 (v, h2, d1, s1)) (k : zT g F P y (pc + 3) ls (v.toList ++ rest) h2 (dc + d1) (ds + s1) r) : zT g F P y pc ls st h dc ds r := by
  obtain ⟨n, hn⟩ := k
  obtain ⟨f, hf⟩ := hc
  refine ⟨n + f + 1, ?_⟩
  unfold zrun
  rw [hP]
  dsimp only
  rw [hi]
  dsimp only
  rw [show n + f = f + n by omega, zrun_more hf n]
  dsimp only
  rw [show f + n = n + f by omega]
  exact zrun_more hn f
theorem zT_ret {i : Instr} {len : Nat} {K : zK} {tg : List Nat} {v : Option Value} (hP : P y pc = some (i, len, K, tg)) (hi : zins g F tg i K len pc ls st h = some (.inr (.inr (.inl v)))) : zT g F P y pc ls st h dc ds (v, h, dc, ds) := by
  refine ⟨1, ?_⟩
  unfold zrun
  rw [hP]
  dsimp only
  rw [hi]
theorem zT_new {i : Instr} {len : Nat} {K : zK} {tg : List Nat} {pc2 : Nat} {e : zE} (hP : P y pc = some (i, len, K, tg)) (hi : zins g F tg i K len pc ls st h = some (.inr (.inr (.inr (pc2, rest, e))))) (k : zT g F P y pc2 ls (.ref (2 * h.length) :: rest) (h ++ [e]) (dc + 1) (ds + zsz e) r) : zT g F P y pc ls st h dc ds r := by
  obtain ⟨n, hn⟩ := k
  refine ⟨n + 1, ?_⟩
  unfold zrun
  rw [hP]
  dsimp only
  rw [hi]
  exact hn
/-- a branch whose condition is known -/
theorem zT_if0 {c : ClassFile.Cond} {off : Int} {t : Nat} {x : Int32} (b : Bool) (hP : P y pc = some (.ifCond c off, 3, (t, 0, .null), [])) (hc : zcmp c x 0 = b) (k : zT g F P y (bif b then t else pc + 3) ls rest h dc ds r) : zT g F P y pc ls (.int x :: rest) h dc ds r := by
  cases b
  · exact zT_step hP (by show (bif zcmp c x 0 then zs t ls rest h else zs (pc + 3) ls rest h) = _; rw [hc]; rfl) k
  · exact zT_step hP (by show (bif zcmp c x 0 then zs t ls rest h else zs (pc + 3) ls rest h) = _; rw [hc]; rfl) k
theorem zT_if2 {c : ClassFile.Cond} {off : Int} {t : Nat} {x z : Int32} (b : Bool) (hP : P y pc = some (.if_icmp c off, 3, (t, 0, .null), [])) (hc : zcmp c x z = b) (k : zT g F P y (bif b then t else pc + 3) ls rest h dc ds r) : zT g F P y pc ls (.int z :: .int x :: rest) h dc ds r := by
  cases b
  · exact zT_step hP (by show (bif zcmp c x z then zs t ls rest h else zs (pc + 3) ls rest h) = _; rw [hc]; rfl) k
  · exact zT_step hP (by show (bif zcmp c x z then zs t ls rest h else zs (pc + 3) ls rest h) = _; rw [hc]; rfl) k
end ZT
section ZG
variable {cl : List vw_C} {Ts Ns : List Cond} {Zs : zZs} {D : va_G} {cy : Nat → ClassId} {sz : Nat} {ka : Nat → Nat} {g : zCt} {F : zFs} {zty : Nat → Nat → FieldType} {M : Nat → zMt} {P : zCd} {l : Launch}
set_option maxHeartbeats 4000000 in
/-- the machine's walk over one instruction -/
theorem zone_ok (OK : zOK cl Ts Ns Zs F zty M P) {f y : Nat} {p : Program} {e : Env} {R : Room} {s : State} {m : MethodId} {args : Array Value} {below : List Frame} {meth : Method} {c : Code} {H : Heap} {locs : List Loc} {A : Array Slot} {Q : State → Prop} {s1 s2 : zS6} (hz : zone g F P f y s1 = some s2)
    (X : zCx cl Ts Ns Zs D cy sz ka g (M y).1.cls (M y).1.name (M y).2.1 (M y).2.2.1 p s m args meth c) (hRf : R.frames = (M y).2.2.2.2.1) (hRl : R.locals = (M y).2.2.2.2.2) (hRc : s2.2.2.2.2.1 ≤ R.cells) (hRs : s2.2.2.2.2.2 ≤ R.slots)
    (hP : va_P D cl (zW cy (zr sz ka) sz s1.2.2.2.1) H) (hS : va_S (fun q => sz ≤ q) s.heap H locs) (hl : lv_has A (M y).2.2.1 (zl (zr sz ka) s1.2.1)) (hn : sz + s1.2.2.2.1.length = s.heap.size + s1.2.2.2.2.1)
    (kk : ∀ (H2 : Heap) (locs2 : List Loc) (A2 : Array Slot), va_P D cl (zW cy (zr sz ka) sz s2.2.2.2.1) H2 → va_S (fun q => sz ≤ q) s.heap H2 locs2 → lv_has A2 (M y).2.2.1 (zl (zr sz ka) s2.2.1) → sz + s2.2.2.2.1.length = s.heap.size + s2.2.2.2.2.1 → W p l e R s m args below meth c H2 locs2 s2.2.2.2.2.1 s2.2.2.2.2.2 Q (F0 m s2.1 A2 (s2.2.2.1.map (zv (zr sz ka))))) :
    W p l e R s m args below meth c H locs s1.2.2.2.2.1 s1.2.2.2.2.2 Q (F0 m s1.1 A (s1.2.2.1.map (zv (zr sz ka)))) := by
  obtain ⟨hgood, hclok, hheld, hcode⟩ := id OK
  unfold zone at hz
  split at hz
  · cases hz
  · next i len K tg hPc =>
    obtain ⟨hd, hfa, hcf⟩ := hcode _ _ _ _ _ _ hPc
    rw [← hRf, ← hRl] at hcf
    split at hz
    · cases hz
    · next pc2 ls2 st2 h3 hi =>
      cases hz
      by_cases hv : ∃ k, i = .invokestatic k ∨ i = .invokespecial k ∨ i = .invokevirtual k
      · exact zinv_ok (M := M) X hd hcf hi hv hP hS hl (fun H2 locs2 A2 hlen hP2 hS2 hl2 => kk H2 locs2 A2 hP2 hS2 hl2 (by show sz + h3.length = _; rw [hlen]; exact hn))
      · have hnb : zbig i = false := by
          cases hbg : zbig i with
          | false => rfl
          | true =>
            exfalso
            cases i
            case invokestatic k => exact hv ⟨k, Or.inl rfl⟩
            case invokespecial k => exact hv ⟨k, Or.inr (Or.inl rfl)⟩
            case invokevirtual k => exact hv ⟨k, Or.inr (Or.inr rfl)⟩
            case new => exact nomatch (show (some (.inr (.inr (.inr (s1.1 + 3, s1.2.2.1, .inr (.inr (.inr (K.1, F K.1))))))) : Option zA) = some (.inl _) from hi)
            case newarray =>
              have hi : znewa K.1 s1.1 s1.2.2.1 = some (.inl (pc2, ls2, st2, h3)) := hi
              unfold znewa at hi
              simp only [Bool.cond_eq_ite] at hi
              (repeat' split at hi) <;> first | (cases hi; done) | (simp at hi; done)
            case anewarray =>
              have hi : zanew s1.1 s1.2.2.1 = some (.inl (pc2, ls2, st2, h3)) := hi
              unfold zanew at hi
              simp only [Bool.cond_eq_ite] at hi
              (repeat' split at hi) <;> first | (cases hi; done) | (simp at hi; done)
            case ireturn =>
              have hi : zret K.1 s1.2.2.1 = some (.inl (pc2, ls2, st2, h3)) := hi
              unfold zret at hi
              split at hi
              · cases (zb_inv hi).2
              · cases hi
            case lreturn =>
              have hi : zlret s1.2.2.1 = some (.inl (pc2, ls2, st2, h3)) := hi
              unfold zlret at hi
              split at hi <;> cases hi
            case areturn =>
              have hi : zaret s1.2.2.1 = some (.inl (pc2, ls2, st2, h3)) := hi
              unfold zaret at hi
              split at hi <;> cases hi
            case return_ =>
              have hi : zvret s1.2.2.1 = some (.inl (pc2, ls2, st2, h3)) := hi
              unfold zvret at hi
              split at hi <;> cases hi
            all_goals cases hbg
        exact zstep_ok X hclok hheld hd (hfa hnb) hi (fun k => ⟨fun q => hv ⟨k, Or.inl q⟩, fun q => hv ⟨k, Or.inr (Or.inl q)⟩, fun q => hv ⟨k, Or.inr (Or.inr q)⟩⟩) hP hS hl (fun H2 locs2 A2 hlen hP2 hS2 hl2 => kk H2 locs2 A2 hP2 hS2 hl2 (by show sz + h3.length = _; rw [hlen]; exact hn))
    · next y2 as rest hi =>
      split at hz
      · cases hz
      · next v1 h3 d1 e1 hz1 =>
        cases hz
        exact zcall_ok (M := M) hgood X hd hcf hi (v := v1) (h2 := h3) (d1 := d1) (s1 := e1) (fun hc hpl => zmet OK (zrun_ok OK f) hz1 hc hpl) hRc hRs hP hS hl hn (fun H2 locs2 hP2 hS2 hn2 => kk H2 locs2 A hP2 hS2 hl hn2)
    · cases hz
    · next pc2 rest e9 hi =>
      cases hz
      exact zalloc_ok (M := M) X hclok hd hcf hi hRc hRs hP hS hn (fun H2 hP2 hS2 => kk H2 locs A hP2 hS2 hl (by show sz + (s1.2.2.2.1 ++ [e9]).length = _; rw [List.length_append]; simp only [List.length_cons, List.length_nil]; omega))
end ZG
