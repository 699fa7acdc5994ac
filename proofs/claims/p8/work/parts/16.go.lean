theorem zspec_mono {run run2 : Nat → List Value → Option zR} (hr : ∀ y as x, run y as = some x → run2 y as = some x) {y pc : Nat} {st : List Value} {h : zH} {r : zX5} (hz : zspec run y pc st h = some r) : zspec run2 y pc st h = some r := by
  unfold zspec at hz ⊢
  cases h1 : (y == 161) with
  | true => rw [h1] at hz; exact hz
  | false =>
    rw [h1] at hz
    cases h2 : (y == 288 && pc == zJpc) with
    | false => rw [h2] at hz; cases hz
    | true =>
      rw [h2] at hz
      have hz : zsp2 run pc st h = some r := hz
      show zsp2 run2 pc st h = some r
      unfold zsp2 at hz ⊢
      split at hz
      · next o w j x _ =>
        (try dsimp only)
        cases h3 : (o == 232 && x == 0) with
        | false => rw [h3] at hz; cases hz
        | true =>
          rw [h3] at hz
          simp only [cond_true] at hz ⊢
          split at hz
          · next fs b h9 hq hb =>
            rw [hq, hr _ _ _ hb]
            (try dsimp only)
            cases h4 : (decide (j < 0) || decide (5 < j)) with
            | true => rw [h4] at hz; exact hz
            | false =>
              rw [h4] at hz
              simp only [cond_false] at hz ⊢
              cases h5 : (decide (w < 0) || decide (3 < w)) with
              | true => rw [h5] at hz; exact hz
              | false =>
                rw [h5] at hz
                simp only [cond_false] at hz ⊢
                split at hz
                · next v h9 e2 =>
                  rw [hr _ _ _ e2]
                  exact hz
                · cases hz
          · cases hz
      · cases hz
/-! Runs by pieces: any fuel; some steps of one method; the machine's walk over such a piece. -/
theorem zrun_more {g : zCt} {F : zFs} {P : zCd} : ∀ {n y pc : Nat} {ls : zL} {st : List Value} {h : zH} {dc ds : Nat} {r : zR}, zrun g F P n y pc ls st h dc ds = some r → ∀ k, zrun g F P (n + k) y pc ls st h dc ds = some r := by
  intro n
  induction n with
  | zero => intro y pc ls st h dc ds r hz; cases hz
  | succ n ih =>
    intro y pc ls st h dc ds r hz k
    rw [show n + 1 + k = (n + k) + 1 by omega]
    unfold zrun at hz ⊢
    split at hz
    · next hP0 =>
      (try rw [hP0])
      (try dsimp only)
      split at hz
      · cases hz
      · next pc2 st2 h2 d1 s1 hs1 =>
        rw [zspec_mono (fun y9 as x q => ih q k) hs1]
        exact ih hz k
    · next i len K tg hP =>
      (try rw [hP])
      (try dsimp only)
      split at hz
      · cases hz
      · next hi => (try rw [hi]); exact ih hz k
      · next y2 as rest hi =>
        (try rw [hi])
        (try dsimp only)
        split at hz
        · cases hz
        · next v h2 d1 s1 h1 =>
          rw [ih h1 k]
          exact ih hz k
      · next hi => (try rw [hi]); exact hz
      · next hi => (try rw [hi]); exact ih hz k
/-- from here on the method ends so, with some fuel -/
noncomputable def zT (g : zCt) (F : zFs) (P : zCd) (y pc : Nat) (ls : zL) (st : List Value) (h : zH) (dc ds : Nat) (r : zR) : Prop := ∃ n, zrun g F P n y pc ls st h dc ds = some r
noncomputable abbrev zS6 : Type := Nat × zL × List Value × zH × Nat × Nat
/-- one instruction of a method; a call with fuel f -/
noncomputable def zone (g : zCt) (F : zFs) (P : zCd) (f y : Nat) (s : zS6) : Option zS6 := match P y s.1 with
  | none => none
  | some (i, len, K, tg) => match zins g F tg i K len s.1 s.2.1 s.2.2.1 s.2.2.2.1 with
    | none => none
    | some (.inl (pc2, ls2, st2, h2)) => some (pc2, ls2, st2, h2, s.2.2.2.2.1, s.2.2.2.2.2)
    | some (.inr (.inl (y2, as, rest))) => (match zrun g F P f y2 0 (lv_args 0 as) [] s.2.2.2.1 0 0 with
      | none => none
      | some (v, h2, d1, s1) => some (s.1 + 3, s.2.1, v.toList ++ rest, h2, s.2.2.2.2.1 + d1, s.2.2.2.2.2 + s1))
    | some (.inr (.inr (.inl _))) => none
    | some (.inr (.inr (.inr (pc2, rest, e)))) => some (pc2, s.2.1, .ref (2 * s.2.2.2.1.length) :: rest, s.2.2.2.1 ++ [e], s.2.2.2.2.1 + 1, s.2.2.2.2.2 + zsz e)
noncomputable def zgo (g : zCt) (F : zFs) (P : zCd) (f y : Nat) : Nat → zS6 → Option zS6
  | 0, s => some s
  | n + 1, s => match zone g F P f y s with
    | none => none
    | some s2 => zgo g F P f y n s2
theorem zT_one {g : zCt} {F : zFs} {P : zCd} {f y : Nat} {s s2 : zS6} {r : zR} (h : zone g F P f y s = some s2) (k : zT g F P y s2.1 s2.2.1 s2.2.2.1 s2.2.2.2.1 s2.2.2.2.2.1 s2.2.2.2.2.2 r) : zT g F P y s.1 s.2.1 s.2.2.1 s.2.2.2.1 s.2.2.2.2.1 s.2.2.2.2.2 r := by
  obtain ⟨n, hn⟩ := k
  refine ⟨n + f + 1, ?_⟩
  unfold zone at h
  unfold zrun
  split at h
  · cases h
  · next i len K tg hP =>
    rw [hP]
    dsimp only
    split at h
    · cases h
    · next hi =>
      rw [hi]
      cases h
      exact zrun_more hn f
    · next y2 as rest hi =>
      rw [hi]
      dsimp only
      split at h
      · cases h
      · next v h2 d1 s1 h1 =>
        cases h
        rw [show n + f = f + n by omega, zrun_more h1 n]
        dsimp only
        rw [show f + n = n + f by omega]
        exact zrun_more hn f
    · cases h
    · next hi =>
      rw [hi]
      cases h
      exact zrun_more hn f
theorem zT_go {g : zCt} {F : zFs} {P : zCd} {f y : Nat} : ∀ (n : Nat) {s s2 : zS6} {r : zR}, zgo g F P f y n s = some s2 → zT g F P y s2.1 s2.2.1 s2.2.2.1 s2.2.2.2.1 s2.2.2.2.2.1 s2.2.2.2.2.2 r → zT g F P y s.1 s.2.1 s.2.2.1 s.2.2.2.1 s.2.2.2.2.1 s.2.2.2.2.2 r
  | 0, s, s2, r, h, k => by cases h; exact k
  | n + 1, s, s2, r, h, k => by
    unfold zgo at h
    split at h
    · cases h
    · next s3 h3 => exact zT_one h3 (zT_go n h k)
section ZX
variable {g : zCt} {F : zFs} {P : zCd} {pc pc2 d s : Nat} {ls : zL} {st st2 : List Value} {h h2 : zH} {dc ds : Nat} {r : zR}
/-- a step of wordHere that isn't run by its code -/
theorem zT_sp1 (hP : P 161 pc = none) (hs : zsp1 pc st h = some (pc2, st2, h2, d, s)) (k : zT g F P 161 pc2 ls st2 h2 (dc + d) (ds + s) r) : zT g F P 161 pc ls st h dc ds r := by
  obtain ⟨n, hn⟩ := k
  refine ⟨n + 1, ?_⟩
  unfold zrun
  rw [hP]
  dsimp only
  rw [show zspec (fun y as => zrun g F P n y 0 (lv_args 0 as) [] h 0 0) 161 pc st h = zsp1 pc st h from rfl, hs]
  exact hn
theorem zj_i {j : Int32} {a : Int} (hj : 0 ≤ j.toInt ∧ j.toInt ≤ a) {b : Int32} (hb : b.toInt = a) : (decide (j < 0) || decide (b < j)) = false := by
  simp only [Bool.or_eq_false_iff, decide_eq_false_iff_not, Int32.lt_iff_toInt_lt]
  refine ⟨?_, ?_⟩
  · show ¬ j.toInt < 0
    omega
  · rw [hb]
    omega
theorem zj_o {j : Int32} {a : Int} (hj : j.toInt < 0 ∨ a < j.toInt) {b : Int32} (hb : b.toInt = a) : (decide (j < 0) || decide (b < j)) = true := by
  simp only [Bool.or_eq_true, decide_eq_true_eq, Int32.lt_iff_toInt_lt]
  rcases hj with k | k
  · exact Or.inl k
  · exact Or.inr (by rw [hb]; exact k)
theorem zspec_j {run : Nat → List Value → Option zR} {st : List Value} {h : zH} : zspec run 288 zJpc st h = zsp2 run zJpc st h := by
  unfold zspec
  rw [show ((288 : Nat) == 161) = false from rfl, show ((288 : Nat) == 288 && zJpc == zJpc) = true by simp]
  rfl
/-- joint, thrown: no such joint -/
theorem zT_sp2 {fs : List Value} {j w b : Int32} {h1 : zH} (hP : P 288 zJpc = none) (h0 : zat h 0 = some (.inr (.inr (.inr (9, fs))))) (hj : j.toInt < 0 ∨ 5 < j.toInt) (hc : zT g F P 144 0 (lv_args 0 [.int j]) [] h 0 0 (some (.int b), h1, 0, 0)) (k : zT g F P 288 (zJpc + 3) ls [.int 1] (h ++ [.inr (.inr (.inr (11, [])))]) (dc + 1) (ds + 6) r) : zT g F P 288 zJpc ls [.ref 232, .int w, .int j, .ref 0] h dc ds r := by
  obtain ⟨n, hn⟩ := k
  obtain ⟨m, hm⟩ := hc
  refine ⟨n + m + 1, ?_⟩
  unfold zrun
  rw [hP]
  (try dsimp only)
  rw [zspec_j]
  unfold zsp2
  (try dsimp only)
  rw [show ((232 : Nat) == 232 && (0 : Nat) == 0) = true from rfl]
  simp only [cond_true]
  rw [h0, show n + m = m + n by omega, zrun_more hm n]
  (try dsimp only)
  rw [zj_o hj rfl]
  simp only [cond_true]
  rw [show m + n = n + m by omega]
  exact zrun_more hn m
/-- joint, thrown: no such what -/
theorem zT_sp4 {fs : List Value} {j w b : Int32} {h1 : zH} (hP : P 288 zJpc = none) (h0 : zat h 0 = some (.inr (.inr (.inr (9, fs))))) (hj : 0 ≤ j.toInt ∧ j.toInt ≤ 5) (hw : w.toInt < 0 ∨ 3 < w.toInt) (hc : zT g F P 144 0 (lv_args 0 [.int j]) [] h 0 0 (some (.int b), h1, 0, 0)) (k : zT g F P 288 (zJpc + 3) ls [.int 2] (h ++ [.inr (.inr (.inr (12, [])))]) (dc + 1) (ds + 6) r) : zT g F P 288 zJpc ls [.ref 232, .int w, .int j, .ref 0] h dc ds r := by
  obtain ⟨n, hn⟩ := k
  obtain ⟨m, hm⟩ := hc
  refine ⟨n + m + 1, ?_⟩
  unfold zrun
  rw [hP]
  (try dsimp only)
  rw [zspec_j]
  unfold zsp2
  (try dsimp only)
  rw [show ((232 : Nat) == 232 && (0 : Nat) == 0) = true from rfl]
  simp only [cond_true]
  rw [h0, show n + m = m + n by omega, zrun_more hm n]
  (try dsimp only)
  rw [zj_i hj rfl]
  simp only [cond_false]
  rw [zj_o hw rfl]
  simp only [cond_true]
  rw [show m + n = n + m by omega]
  exact zrun_more hn m
/-- joint, answered -/
theorem zT_sp3 {fs : List Value} {f : List Int64} {j w v b : Int32} {h1 h2 : zH} (hP : P 288 zJpc = none) (h0 : zat h 0 = some (.inr (.inr (.inr (9, fs))))) (hO : zat h2 232 = some (.inr (.inl (1, f)))) (hj : 0 ≤ j.toInt ∧ j.toInt ≤ 5) (hw : 0 ≤ w.toInt ∧ w.toInt ≤ 3) (hc0 : zT g F P 144 0 (lv_args 0 [.int j]) [] h 0 0 (some (.int b), h1, 0, 0)) (hc : zT g F P 105 0 (lv_args 0 [.ref 0, .int j, .int w]) [] h 0 0 (some (.int v), h2, 0, 0)) (k : zT g F P 288 (zJpc + 3) ls [.int 0] (h2.set 116 (.inr (.inl (1, zset 0 f 0 v.toInt64)))) dc ds r) : zT g F P 288 zJpc ls [.ref 232, .int w, .int j, .ref 0] h dc ds r := by
  obtain ⟨n, hn⟩ := k
  obtain ⟨m, hm⟩ := hc
  obtain ⟨q, hq⟩ := hc0
  refine ⟨n + m + q + 1, ?_⟩
  unfold zrun
  rw [hP]
  (try dsimp only)
  rw [zspec_j]
  unfold zsp2
  (try dsimp only)
  rw [show ((232 : Nat) == 232 && (0 : Nat) == 0) = true from rfl]
  simp only [cond_true]
  rw [h0, show n + m + q = q + (n + m) by omega, zrun_more hq (n + m)]
  (try dsimp only)
  rw [zj_i hj rfl]
  simp only [cond_false]
  rw [zj_i hw rfl]
  simp only [cond_false]
  rw [show q + (n + m) = m + (n + q) by omega, zrun_more hm (n + q)]
  simp only [hO]
  rw [show m + (n + q) = n + (m + q) by omega]
  exact zrun_more hn (m + q)
end ZX
section ZT
variable {g : zCt} {F : zFs} {P : zCd} {y pc : Nat} {ls ls2 : zL} {st st2 rest : List Value} {h h2 : zH} {dc ds : Nat} {r : zR}
/-- one instruction that only steps -/
theorem zT_step {i : Instr} {len : Nat} {K : zK} {tg : List Nat} {pc2 : Nat} (hP : P y pc = some (i, len, K, tg)) (hi : zins g F tg i K len pc ls st h = some (.inl (pc2, ls2, st2, h2))) (k : zT g F P y pc2 ls2 st2 h2 dc ds r) : zT g F P y pc ls st h dc ds r := by
  obtain ⟨n, hn⟩ := k
  refine ⟨n + 1, ?_⟩
  unfold zrun
  rw [hP]
  dsimp only
  rw [hi]
  exact hn
/-- a call whose callee ends -/
theorem zT_call {i : Instr} {len : Nat} {K : zK} {tg : List Nat} {y2 : Nat} {as : List Value} {v : Option Value} {d1 s1 : Nat} (hP : P y pc = some (i, len, K, tg)) (hi : zins g F tg i K len pc ls st h = some (.inr (.inl (y2, as, rest)))) (hc : zT g F P y2 0 (lv_args 0 as) [] h 0 0 (v, h2, d1, s1)) (k : zT g F P y (pc + 3) ls (v.toList ++ rest) h2 (dc + d1) (ds + s1) r) : zT g F P y pc ls st h dc ds r := by
  obtain ⟨n, hn⟩ := k
  obtain ⟨f, hf⟩ := hc
  refine ⟨n + f + 1, ?_⟩
  unfold zrun
  rw [hP]
  dsimp only
  rw [hi]
  dsimp only
  rw [show n + f = f + n by omega, zrun_more hf n]
  dsimp only
  rw [show f + n = n + f by omega]
  exact zrun_more hn f
theorem zT_ret {i : Instr} {len : Nat} {K : zK} {tg : List Nat} {v : Option Value} (hP : P y pc = some (i, len, K, tg)) (hi : zins g F tg i K len pc ls st h = some (.inr (.inr (.inl v)))) : zT g F P y pc ls st h dc ds (v, h, dc, ds) := by
  refine ⟨1, ?_⟩
  unfold zrun
  rw [hP]
  dsimp only
  rw [hi]
theorem zT_new {i : Instr} {len : Nat} {K : zK} {tg : List Nat} {pc2 : Nat} {e : zE} (hP : P y pc = some (i, len, K, tg)) (hi : zins g F tg i K len pc ls st h = some (.inr (.inr (.inr (pc2, rest, e))))) (k : zT g F P y pc2 ls (.ref (2 * h.length) :: rest) (h ++ [e]) (dc + 1) (ds + zsz e) r) : zT g F P y pc ls st h dc ds r := by
  obtain ⟨n, hn⟩ := k
  refine ⟨n + 1, ?_⟩
  unfold zrun
  rw [hP]
  dsimp only
  rw [hi]
  exact hn
/-- a branch whose condition is known -/
theorem zT_if0 {c : ClassFile.Cond} {off : Int} {t : Nat} {x : Int32} (b : Bool) (hP : P y pc = some (.ifCond c off, 3, (t, 0, .null), [])) (hc : zcmp c x 0 = b) (k : zT g F P y (bif b then t else pc + 3) ls rest h dc ds r) : zT g F P y pc ls (.int x :: rest) h dc ds r := by
  cases b
  · exact zT_step hP (by show (bif zcmp c x 0 then zs t ls rest h else zs (pc + 3) ls rest h) = _; rw [hc]; rfl) k
  · exact zT_step hP (by show (bif zcmp c x 0 then zs t ls rest h else zs (pc + 3) ls rest h) = _; rw [hc]; rfl) k
theorem zT_if2 {c : ClassFile.Cond} {off : Int} {t : Nat} {x z : Int32} (b : Bool) (hP : P y pc = some (.if_icmp c off, 3, (t, 0, .null), [])) (hc : zcmp c x z = b) (k : zT g F P y (bif b then t else pc + 3) ls rest h dc ds r) : zT g F P y pc ls (.int z :: .int x :: rest) h dc ds r := by
  cases b
  · exact zT_step hP (by show (bif zcmp c x z then zs t ls rest h else zs (pc + 3) ls rest h) = _; rw [hc]; rfl) k
  · exact zT_step hP (by show (bif zcmp c x z then zs t ls rest h else zs (pc + 3) ls rest h) = _; rw [hc]; rfl) k
end ZT
