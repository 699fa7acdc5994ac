/-! A run that doesn't look at the script is the same for every script; rules with their states spelled out. -/
noncomputable def zg0 : zCt := fun j => match j with
  | 0 => some (0, 6, fun i => zLow.getD i 0)
  | 1 => some (0, 6, fun i => zHigh.getD i 0)
  | 2 => some (0, 64, fun i => zCos.getD i 0)
  | 3 => some (0, 10, fun i => zWords.getD i 0)
  | 4 => some (0, 17, fun i => zQuarter.getD i 0)
  | _ => none
noncomputable def zLe (g g2 : zCt) : Prop := ∀ j x, g j = some x → g2 j = some x
theorem zg0_le (L : Nat) (xs : Nat → Int32) : zLe zg0 (zg L xs) := by
  intro j x h
  match j, h with
  | 0, h => exact h
  | 1, h => exact h
  | 2, h => exact h
  | 3, h => exact h
  | 4, h => exact h
  | j + 5, h => cases h
theorem zct_le {g g2 : zCt} (hg : zLe g g2) {r : Nat} {x : Nat × Nat × (Nat → Int32)} (h : zct g r = some x) : zct g2 r = some x := by
  obtain ⟨h1, h2⟩ := zct_inv h
  unfold zct
  rw [show (r % 2 == 1) = true by simp [h1]]
  exact hg _ _ h2
theorem zins_le {g g2 : zCt} (hg : zLe g g2) {F : zFs} {tg : List Nat} {i : Instr} {K : zK} {len pc : Nat} {ls : zL} {st : List Value} {h : zH} {x : zA} (hz : zins g F tg i K len pc ls st h = some x) : zins g2 F tg i K len pc ls st h = some x := by
  cases i
  case iaload =>
    have hz : ziald g pc ls st h = some x := hz
    show ziald g2 pc ls st h = some x
    unfold ziald at hz ⊢
    split at hz
    · next i a r =>
      (try dsimp only)
      split at hz
      · exact hz
      · cases hz
      · split at hz
        · next n f hf => rw [zct_le hg hf]; exact hz
        · cases hz
    · cases hz
  case arraylength =>
    have hz : zalen g pc ls st h = some x := hz
    show zalen g2 pc ls st h = some x
    unfold zalen at hz ⊢
    split at hz
    · next a r =>
      (try dsimp only)
      split at hz
      · exact hz
      · exact hz
      · exact hz
      · cases hz
      · split at hz
        · next n f hf => rw [zct_le hg hf]; exact hz
        · cases hz
    · cases hz
  all_goals exact hz
theorem zrun_le {g g2 : zCt} (hg : zLe g g2) {F : zFs} {P : zCd} : ∀ {n y pc : Nat} {ls : zL} {st : List Value} {h : zH} {dc ds : Nat} {r : zR}, zrun g F P n y pc ls st h dc ds = some r → zrun g2 F P n y pc ls st h dc ds = some r := by
  intro n
  induction n with
  | zero => intro y pc ls st h dc ds r hz; cases hz
  | succ n ih =>
    intro y pc ls st h dc ds r hz
    unfold zrun at hz ⊢
    cases hP : P y pc with
    | none =>
      rw [hP] at hz
      (try dsimp only at hz ⊢)
      split at hz
      · cases hz
      · next pc2 st2 h2 d1 s1 hs1 =>
        rw [zspec_mono (fun y9 as x q => ih q) hs1]
        exact ih hz
    | some q =>
      obtain ⟨i, len, K, tg⟩ := q
      rw [hP] at hz
      (try dsimp only at hz ⊢)
      cases hi : zins g F tg i K len pc ls st h with
      | none => rw [hi] at hz; cases hz
      | some x =>
        rw [zins_le hg hi]
        rw [hi] at hz
        (try dsimp only at hz ⊢)
        match x, hz with
        | .inl (pc2, ls2, st2, h2), hz => exact ih hz
        | .inr (.inl (y2, as, rest)), hz =>
          (try dsimp only at hz ⊢)
          cases h1 : zrun g F P n y2 0 (lv_args 0 as) [] h 0 0 with
          | none => rw [h1] at hz; cases hz
          | some q =>
            obtain ⟨v, h2, d1, s1⟩ := q
            rw [h1] at hz
            rw [ih h1]
            exact ih hz
        | .inr (.inr (.inl v)), hz => exact hz
        | .inr (.inr (.inr (pc2, rest, e))), hz => exact ih hz
theorem zT_le {g g2 : zCt} (hg : zLe g g2) {F : zFs} {P : zCd} {y pc : Nat} {ls : zL} {st : List Value} {h : zH} {dc ds : Nat} {r : zR} (hz : zT g F P y pc ls st h dc ds r) : zT g2 F P y pc ls st h dc ds r := by
  obtain ⟨n, hn⟩ := hz
  exact ⟨n, zrun_le hg hn⟩
theorem zT_gos {g : zCt} {F : zFs} {P : zCd} {f y : Nat} (n : Nat) {pc pc2 : Nat} {ls ls2 : zL} {st st2 : List Value} {h h2 : zH} {dc ds dc2 ds2 : Nat} {r : zR} (hz : zgo g F P f y n (pc, ls, st, h, dc, ds) = some (pc2, ls2, st2, h2, dc2, ds2)) (k : zT g F P y pc2 ls2 st2 h2 dc2 ds2 r) : zT g F P y pc ls st h dc ds r := zT_go n hz k
theorem zgo_le {g g2 : zCt} (hg : zLe g g2) {F : zFs} {P : zCd} {f y : Nat} : ∀ {n : Nat} {s s2 : zS6}, zgo g F P f y n s = some s2 → zgo g2 F P f y n s = some s2 := by
  intro n
  induction n with
  | zero => intro s s2 h; exact h
  | succ n ih =>
    intro s s2 h
    unfold zgo at h ⊢
    cases h1 : zone g F P f y s with
    | none => rw [h1] at h; cases h
    | some s3 =>
      rw [h1] at h
      have h2 : zone g2 F P f y s = some s3 := by
        unfold zone at h1 ⊢
        cases hP : P y s.1 with
        | none => rw [hP] at h1; cases h1
        | some q =>
          obtain ⟨i, len, K, tg⟩ := q
          rw [hP] at h1
          (try dsimp only at h1 ⊢)
          cases hi : zins g F tg i K len s.1 s.2.1 s.2.2.1 s.2.2.2.1 with
          | none => rw [hi] at h1; cases h1
          | some x =>
            rw [zins_le hg hi]
            rw [hi] at h1
            (try dsimp only at h1 ⊢)
            match x, h1 with
            | .inl (pc2, ls2, st2, h2), h1 => exact h1
            | .inr (.inl (y2, as, rest)), h1 =>
              (try dsimp only at h1 ⊢)
              cases h4 : zrun g F P f y2 0 (lv_args 0 as) [] s.2.2.2.1 0 0 with
              | none => rw [h4] at h1; cases h1
              | some q =>
                obtain ⟨v, h2, d1, s1⟩ := q
                rw [h4] at h1
                rw [zrun_le hg h4]
                exact h1
            | .inr (.inr (.inl v)), h1 => cases h1
            | .inr (.inr (.inr (pc2, rest, e))), h1 => exact h1
      rw [h2]
      exact ih h
