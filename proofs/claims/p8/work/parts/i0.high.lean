/-! The highest hand: what the class's step and the reference's innermost loop come to (pure; a draft, not built yet). -/
/-- out is reached by the hand's angle c, and the wrist may be so -/
noncomputable def hT (ll lg : List Int32) (hd b eo out c : Int32) : Bool := decide (out.toInt ≤ (eo + hd * jcos c).toInt) && jallow ll lg 4 (jw (c - b))
noncomputable def hH (ll lg : List Int32) (hd b eo er out : Int32) : Nat → Int32 → Int32
  | 0, _ => (-2147483648)
  | n + 1, d => if (hT ll lg hd b eo out (16 - d) || hT ll lg hd b eo out (16 + d)) = true then er + hd * jsin (16 - d) else hH ll lg hd b eo er out n (d + 1)
/-- the class's step -/
noncomputable def hSt (ll lg : List Int32) (hd b eo er out best : Int32) : Int32 := if (eo + hd * 1000).toInt < out.toInt then best else if (er + hd * 1000).toInt ≤ best.toInt then best else jmax best (hH ll lg hd b eo er out 33 0)
/-- the reference's innermost loop -/
noncomputable def hW (hd b eo er out : Int32) : Nat → Int32 → Int32 → Int32
  | 0, _, most => most
  | n + 1, w, most => hW hd b eo er out n (w + 1) (if (eo + hd * jcos (b + w)).toInt < out.toInt then most else if (er + hd * jsin (b + w)).toInt ≤ most.toInt then most else er + hd * jsin (b + w))
/-- what both come to: the greatest of best and of what is reached -/
noncomputable def hMax (A : Int32 → Prop) (Z : Int32 → Int32) (best r : Int32) : Prop := best.toInt ≤ r.toInt ∧ (∀ w, A w → (Z w).toInt ≤ r.toInt) ∧ (r = best ∨ ∃ w, A w ∧ r = Z w)
theorem hMax_eq {A : Int32 → Prop} {Z : Int32 → Int32} {best r s : Int32} (h1 : hMax A Z best r) (h2 : hMax A Z best s) : r = s := by
  have le : ∀ {x y : Int32}, hMax A Z best x → hMax A Z best y → x.toInt ≤ y.toInt := fun hx hy => by
    rcases hx.2.2 with e | ⟨w, hw, e⟩
    · rw [e]; exact hy.1
    · rw [e]; exact hy.2.1 w hw
  exact Int32.toInt_inj.mp (Int.le_antisymm (le h1 h2) (le h2 h1))
theorem hW_max (hd b eo er out : Int32) : ∀ (n : Nat) (w most : Int32), w.toInt + n ≤ 1000 → -1000 ≤ w.toInt → hMax (fun v => w.toInt ≤ v.toInt ∧ v.toInt < w.toInt + n ∧ out.toInt ≤ (eo + hd * jcos (b + v)).toInt) (fun v => er + hd * jsin (b + v)) most (hW hd b eo er out n w most)
  | 0, w, most, _, _ => ⟨Int.le_refl _, fun v h => by omega, Or.inl rfl⟩
  | n + 1, w, most, h1, h2 => by
    have hw : (w + 1).toInt = w.toInt + 1 := z_inc (by omega)
    obtain ⟨i1, i2, i3⟩ := hW_max hd b eo er out n (w + 1) (if (eo + hd * jcos (b + w)).toInt < out.toInt then most else if (er + hd * jsin (b + w)).toInt ≤ most.toInt then most else er + hd * jsin (b + w)) (by omega) (by omega)
    show hMax _ _ most (hW hd b eo er out n (w + 1) (if (eo + hd * jcos (b + w)).toInt < out.toInt then most else if (er + hd * jsin (b + w)).toInt ≤ most.toInt then most else er + hd * jsin (b + w)))
    by_cases c1 : (eo + hd * jcos (b + w)).toInt < out.toInt
    · rw [if_pos c1] at i1 i2 i3 ⊢
      refine ⟨i1, fun v hv => ?_, ?_⟩
      · by_cases hvw : v = w
        · rw [hvw] at hv; omega
        · have : v.toInt ≠ w.toInt := fun q => hvw (Int32.toInt_inj.mp q)
          exact i2 v ⟨by omega, by omega, hv.2.2⟩
      · rcases i3 with e | ⟨v, hv, e⟩
        · exact Or.inl e
        · exact Or.inr ⟨v, ⟨by omega, by omega, hv.2.2⟩, e⟩
    · rw [if_neg c1] at i1 i2 i3 ⊢
      by_cases c2 : (er + hd * jsin (b + w)).toInt ≤ most.toInt
      · rw [if_pos c2] at i1 i2 i3 ⊢
        refine ⟨i1, fun v hv => ?_, ?_⟩
        · by_cases hvw : v = w
          · rw [hvw]; exact Int.le_trans c2 i1
          · have : v.toInt ≠ w.toInt := fun q => hvw (Int32.toInt_inj.mp q)
            exact i2 v ⟨by omega, by omega, hv.2.2⟩
        · rcases i3 with e | ⟨v, hv, e⟩
          · exact Or.inl e
          · exact Or.inr ⟨v, ⟨by omega, by omega, hv.2.2⟩, e⟩
      · rw [if_neg c2] at i1 i2 i3 ⊢
        refine ⟨by omega, fun v hv => ?_, ?_⟩
        · by_cases hvw : v = w
          · rw [hvw]; exact i1
          · have : v.toInt ≠ w.toInt := fun q => hvw (Int32.toInt_inj.mp q)
            exact i2 v ⟨by omega, by omega, hv.2.2⟩
        · rcases i3 with e | ⟨v, hv, e⟩
          · exact Or.inr ⟨w, ⟨by omega, by omega, by omega⟩, e⟩
          · exact Or.inr ⟨v, ⟨by omega, by omega, hv.2.2⟩, e⟩
/-! sines about straight up -/
theorem sin_up : ∀ d : Nat, d ≤ 32 → jsin (16 - nI d) = jsin (16 + nI d) := by decide +kernel
theorem sin_fall : ∀ d : Nat, d ≤ 32 → ∀ f : Nat, f ≤ d → (jsin (16 - nI d)).toInt ≤ (jsin (16 - nI f)).toInt := by decide +kernel
theorem r6_up : ∀ i : Nat, i < 64 → ∃ d : Nat, d ≤ 32 ∧ (i = r6 (16 - nI d) ∨ i = r6 (16 + nI d)) := by
  intro i hi
  by_cases h : i ≤ 16
  · refine ⟨16 - i, by omega, Or.inl ?_⟩
    rw [r6_sub, r6_16, r6_nI (by omega)]
    omega
  · by_cases h2 : i ≤ 48
    · refine ⟨i - 16, by omega, Or.inr ?_⟩
      rw [r6_add, r6_16, r6_nI (by omega)]
      omega
    · refine ⟨80 - i, by omega, Or.inl ?_⟩
      rw [r6_sub, r6_16, r6_nI (by omega)]
      omega
theorem hT_r {ll lg : List Int32} {hd b eo out c c2 : Int32} (h : r6 c = r6 c2) : hT ll lg hd b eo out c = hT ll lg hd b eo out c2 := by
  unfold hT
  rw [jcos_r h, jw_r (show r6 (c - b) = r6 (c2 - b) by rw [r6_sub, r6_sub, h])]
/-- the class's search: none, or the first d that serves -/
theorem hH_first (ll lg : List Int32) (hd b eo er out : Int32) : ∀ (n : Nat) (d : Nat), d + n = 33 → (hH ll lg hd b eo er out n (nI d) = (-2147483648) ∧ ∀ f, d ≤ f → f ≤ 32 → hT ll lg hd b eo out (16 - nI f) = false ∧ hT ll lg hd b eo out (16 + nI f) = false) ∨ ∃ f, d ≤ f ∧ f ≤ 32 ∧ hH ll lg hd b eo er out n (nI d) = er + hd * jsin (16 - nI f) ∧ (hT ll lg hd b eo out (16 - nI f) = true ∨ hT ll lg hd b eo out (16 + nI f) = true) ∧ ∀ g, d ≤ g → g < f → hT ll lg hd b eo out (16 - nI g) = false ∧ hT ll lg hd b eo out (16 + nI g) = false
  | 0, d, h => Or.inl ⟨rfl, fun f h1 h2 => by omega⟩
  | n + 1, d, h => by
    show ((if (hT ll lg hd b eo out (16 - nI d) || hT ll lg hd b eo out (16 + nI d)) = true then er + hd * jsin (16 - nI d) else hH ll lg hd b eo er out n (nI d + 1)) = _ ∧ _) ∨ ∃ f, d ≤ f ∧ f ≤ 32 ∧ (if (hT ll lg hd b eo out (16 - nI d) || hT ll lg hd b eo out (16 + nI d)) = true then er + hd * jsin (16 - nI d) else hH ll lg hd b eo er out n (nI d + 1)) = _ ∧ _
    by_cases c : (hT ll lg hd b eo out (16 - nI d) || hT ll lg hd b eo out (16 + nI d)) = true
    · right
      rw [if_pos c]
      exact ⟨d, Nat.le_refl _, by omega, rfl, Bool.or_eq_true_iff.mp c, fun g h1 h2 => by omega⟩
    · rw [if_neg c, nI_1]
      have c1 : hT ll lg hd b eo out (16 - nI d) = false ∧ hT ll lg hd b eo out (16 + nI d) = false := by
        cases h1 : hT ll lg hd b eo out (16 - nI d) <;> cases h2 : hT ll lg hd b eo out (16 + nI d) <;> simp_all
      rcases hH_first ll lg hd b eo er out n (d + 1) (by omega) with ⟨k1, k2⟩ | ⟨f, k1, k2, k3, k4, k5⟩
      · left
        refine ⟨k1, fun f h1 h2 => ?_⟩
        by_cases hf : f = d
        · rw [hf]; exact c1
        · exact k2 f (by omega) h2
      · right
        refine ⟨f, by omega, k2, k3, k4, fun g h1 h2 => ?_⟩
        by_cases hg : g = d
        · rw [hg]; exact c1
        · exact k5 g (by omega) h2
theorem hd_le {hd x : Int32} (hh : 1 ≤ hd.toInt ∧ hd.toInt ≤ 99) (hx : -1000 ≤ x.toInt ∧ x.toInt ≤ 1000) {e : Int32} (he : e.toInt.natAbs ≤ 400000) : (e + hd * x).toInt = e.toInt + hd.toInt * x.toInt ∧ (hd.toInt * x.toInt).natAbs ≤ 99000 := by
  have h1 := int_mul_bd (show hd.toInt.natAbs ≤ 99 by omega) (show x.toInt.natAbs ≤ 1000 by omega)
  refine ⟨?_, by omega⟩
  rw [Int32.toInt_add, i32_mulI (by omega) (by omega), Int.bmod_eq_of_le (by omega) (by omega)]
theorem hd_mono {hd x y : Int32} (hh : 1 ≤ hd.toInt ∧ hd.toInt ≤ 99) (hx : -1000 ≤ x.toInt ∧ x.toInt ≤ 1000) (hy : -1000 ≤ y.toInt ∧ y.toInt ≤ 1000) (h : x.toInt ≤ y.toInt) {e : Int32} (he : e.toInt.natAbs ≤ 400000) : (e + hd * x).toInt ≤ (e + hd * y).toInt := by
  have h1 := hd_le hh hx he
  have h2 := hd_le hh hy he
  have h3 : hd.toInt * x.toInt ≤ hd.toInt * y.toInt := Int.mul_le_mul_of_nonneg_left h (by omega)
  omega
theorem hSt_max {ll lg : List Int32} {hd b eo er out best : Int32} {n : Nat} (hh : 1 ≤ hd.toInt ∧ hd.toInt ≤ 99) (he : eo.toInt.natAbs ≤ 400000) (hr : er.toInt.natAbs ≤ 400000) (h4 : -32 ≤ (ll.getD 4 0).toInt ∧ (lg.getD 4 0).toInt ≤ 31) (hn : (ll.getD 4 0).toInt + n = (lg.getD 4 0).toInt + 1) : hMax (fun v => (ll.getD 4 0).toInt ≤ v.toInt ∧ v.toInt < (ll.getD 4 0).toInt + n ∧ out.toInt ≤ (eo + hd * jcos (b + v)).toInt) (fun v => er + hd * jsin (b + v)) best (hSt ll lg hd b eo er out best) := by
  have k1000 : -1000 ≤ (1000 : Int32).toInt ∧ (1000 : Int32).toInt ≤ 1000 := by decide
  unfold hSt
  by_cases c1 : (eo + hd * 1000).toInt < out.toInt
  · rw [if_pos c1]
    refine ⟨Int.le_refl _, fun v hv => ?_, Or.inl rfl⟩
    have := hd_mono hh (jcos_rng (b + v)) k1000 (jcos_rng (b + v)).2 he
    omega
  · rw [if_neg c1]
    by_cases c2 : (er + hd * 1000).toInt ≤ best.toInt
    · rw [if_pos c2]
      refine ⟨Int.le_refl _, fun v hv => ?_, Or.inl rfl⟩
      have := hd_mono hh (jsin_rng (b + v)) k1000 (jsin_rng (b + v)).2 hr
      show (er + hd * jsin (b + v)).toInt ≤ best.toInt
      omega
    · rw [if_neg c2]
      -- every wrist that serves is met by the search
      have met : ∀ v : Int32, (ll.getD 4 0).toInt ≤ v.toInt → v.toInt ≤ (lg.getD 4 0).toInt → out.toInt ≤ (eo + hd * jcos (b + v)).toInt → ∃ d : Nat, d ≤ 32 ∧ jsin (b + v) = jsin (16 - nI d) ∧ (hT ll lg hd b eo out (16 - nI d) = true ∨ hT ll lg hd b eo out (16 + nI d) = true) := fun v v1 v2 v3 => by
        have t1 : hT ll lg hd b eo out (b + v) = true := by
          unfold hT
          rw [i32_aes, jw_id (by omega), decide_eq_true v3, show jallow ll lg 4 v = true from jallow_t (j := 4) (by decide) ⟨v1, v2⟩]
          rfl
        obtain ⟨d, hd2, e | e⟩ := r6_up (r6 (b + v)) (r6_lt _)
        · exact ⟨d, hd2, jsin_r e, Or.inl (by rw [← hT_r e]; exact t1)⟩
        · exact ⟨d, hd2, by rw [jsin_r e, sin_up d hd2], Or.inr (by rw [← hT_r e]; exact t1)⟩
      -- and what the search finds is reached
      have got : ∀ c : Int32, hT ll lg hd b eo out c = true → ∃ v : Int32, ((ll.getD 4 0).toInt ≤ v.toInt ∧ v.toInt < (ll.getD 4 0).toInt + n ∧ out.toInt ≤ (eo + hd * jcos (b + v)).toInt) ∧ jsin (b + v) = jsin c := fun c hc => by
        unfold hT at hc
        have h1 := (Bool.and_eq_true _ _).mp hc
        have h2 := jallow_rng h1.2
        have h3 : (ll.getD 4 0).toInt ≤ (jw (c - b)).toInt ∧ (jw (c - b)).toInt ≤ (lg.getD 4 0).toInt := h2
        have e : r6 (b + jw (c - b)) = r6 c := by
          have q1 := r6_lt b
          have q2 := r6_lt c
          rw [r6_add, r6_jw, r6_sub]
          omega
        refine ⟨jw (c - b), ⟨h3.1, by omega, ?_⟩, jsin_r e⟩
        rw [jcos_r e]
        exact of_decide_eq_true h1.1
      rcases hH_first ll lg hd b eo er out 33 0 (by decide) with ⟨k1, k2⟩ | ⟨f, -, k2, k3, k4, k5⟩
      · -- none
        have k1 : hH ll lg hd b eo er out 33 0 = (-2147483648) := k1
        have hb : jmax best (hH ll lg hd b eo er out 33 0) = best := by
          rw [k1]
          unfold jmax
          rw [if_neg (fun q => by have := Int32.le_toInt best; have h5 : Int32.minValue.toInt = -2147483648 := rfl; have h6 : ((-2147483648 : Int32)).toInt = -2147483648 := rfl; omega)]
        rw [hb]
        refine ⟨Int.le_refl _, fun v hv => ?_, Or.inl rfl⟩
        obtain ⟨d, hd2, -, e | e⟩ := met v hv.1 (by omega) hv.2.2
        · rw [(k2 d (Nat.zero_le _) hd2).1] at e; cases e
        · rw [(k2 d (Nat.zero_le _) hd2).2] at e; cases e
      · have k3 : hH ll lg hd b eo er out 33 0 = er + hd * jsin (16 - nI f) := k3
        rw [k3]
        have top : ∀ v, ((ll.getD 4 0).toInt ≤ v.toInt ∧ v.toInt < (ll.getD 4 0).toInt + n ∧ out.toInt ≤ (eo + hd * jcos (b + v)).toInt) → (er + hd * jsin (b + v)).toInt ≤ (er + hd * jsin (16 - nI f)).toInt := fun v hv => by
          obtain ⟨d, hd2, e1, e2⟩ := met v hv.1 (by omega) hv.2.2
          have hfd : f ≤ d := Nat.le_of_not_lt (fun q => by
            have z := k5 d (Nat.zero_le _) q
            rcases e2 with e | e
            · rw [z.1] at e; cases e
            · rw [z.2] at e; cases e)
          rw [e1]
          exact hd_mono hh (jsin_rng _) (jsin_rng _) (sin_fall d hd2 f hfd) hr
        have hit : ∃ v, ((ll.getD 4 0).toInt ≤ v.toInt ∧ v.toInt < (ll.getD 4 0).toInt + n ∧ out.toInt ≤ (eo + hd * jcos (b + v)).toInt) ∧ er + hd * jsin (16 - nI f) = er + hd * jsin (b + v) := by
          rcases k4 with e | e
          · obtain ⟨v, hv, ev⟩ := got _ e
            exact ⟨v, hv, by rw [ev]⟩
          · obtain ⟨v, hv, ev⟩ := got _ e
            exact ⟨v, hv, by rw [ev, sin_up f k2]⟩
        unfold jmax
        by_cases c3 : best.toInt < (er + hd * jsin (16 - nI f)).toInt
        · rw [if_pos c3]
          exact ⟨by omega, top, Or.inr hit⟩
        · rw [if_neg c3]
          exact ⟨Int.le_refl _, fun v hv => Int.le_trans (top v hv) (Int.not_lt.mp c3), Or.inl rfl⟩
theorem hSt_hW {ll lg : List Int32} {hd b eo er out best : Int32} {n : Nat} (hh : 1 ≤ hd.toInt ∧ hd.toInt ≤ 99) (he : eo.toInt.natAbs ≤ 400000) (hr : er.toInt.natAbs ≤ 400000) (h4 : -32 ≤ (ll.getD 4 0).toInt ∧ (lg.getD 4 0).toInt ≤ 31) (hn : (ll.getD 4 0).toInt + n = (lg.getD 4 0).toInt + 1) : hSt ll lg hd b eo er out best = hW hd b eo er out n (ll.getD 4 0) best :=
  hMax_eq (hSt_max hh he hr h4 hn) (hW_max hd b eo er out n (ll.getD 4 0) best (by omega) (by omega))
