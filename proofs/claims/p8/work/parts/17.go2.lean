/-! The walk over some instructions of a method, the room at hand no less than what it needs. -/
theorem zcf_mono {cl : List vw_C} {Ts Ns : List Cond} {M : Nat → zMt} {own : String} {ret : Option FieldType} {fr lo fr2 lo2 : Nat} {i : Instr} {K : zK} {len : Nat} (h : zcf cl Ts Ns M own ret fr lo i K len) (h1 : fr ≤ fr2) (h2 : lo ≤ lo2) : zcf cl Ts Ns M own ret fr2 lo2 i K len := by
  have hm : ∀ {Y : zMt} {b n : Nat}, zcm Ts Y b fr lo n → zcm Ts Y b fr2 lo2 n := fun ⟨a, b, c, d, ⟨e, f⟩, g⟩ => ⟨a, b, c, d, ⟨Nat.le_trans e h1, Nat.le_trans f h2⟩, g⟩
  cases i
  case invokevirtual k =>
    obtain ⟨ci, n, a, b, c, d⟩ := h
    exact ⟨ci, n, a, b, hm c, d⟩
  case invokestatic k =>
    obtain ⟨a, h⟩ := h
    refine ⟨a, ?_⟩
    rcases h with ⟨q, b1, b2, b3, b4, b5, b6, b7⟩ | ⟨q, n, b1, b2, b3⟩
    · exact Or.inl ⟨q, b1, b2, b3, b4, b5, Nat.le_trans b6 h1, Nat.le_trans b7 h2⟩
    · exact Or.inr ⟨q, n, b1, hm b2, b3⟩
  case invokespecial k =>
    obtain ⟨a, h⟩ := h
    refine ⟨a, ?_⟩
    rcases h with ⟨b1, b2, b3, b4, b5, b6⟩ | ⟨q, n, b1, b2, b3⟩
    · exact Or.inl ⟨b1, b2, b3, b4, Nat.le_trans b5 h1, Nat.le_trans b6 h2⟩
    · exact Or.inr ⟨q, n, b1, hm b2, b3⟩
  all_goals exact h
section ZG
variable {cl : List vw_C} {Ts Ns : List Cond} {Zs : zZs} {D : va_G} {cy : Nat → ClassId} {sz : Nat} {ka : Nat → Nat} {g : zCt} {F : zFs} {zty : Nat → Nat → FieldType} {M : Nat → zMt} {P : zCd} {l : Launch}
set_option maxHeartbeats 4000000 in
/-- the machine's walk over one instruction -/
theorem xone_ok (OK : zOK cl Ts Ns Zs F zty M P) {f y : Nat} (C : zClaim cl Ts Ns Zs D cy sz ka g F M P l f) {p : Program} {e : Env} {R : Room} {s : State} {m : MethodId} {args : Array Value} {below : List Frame} {meth : Method} {c : Code} {H : Heap} {locs : List Loc} {A : Array Slot} {Q : State → Prop} {s1 s2 : zS6} (hz : zone g F P f y s1 = some s2)
    (X : zCx cl Ts Ns Zs D cy sz ka g (M y).1.cls (M y).1.name (M y).2.1 (M y).2.2.1 p s m args meth c) (hRf : (M y).2.2.2.2.1 ≤ R.frames) (hRl : (M y).2.2.2.2.2 ≤ R.locals) (hRc : s2.2.2.2.2.1 ≤ R.cells) (hRs : s2.2.2.2.2.2 ≤ R.slots)
    (hP : va_P D cl (zW cy (zr sz ka) sz s1.2.2.2.1) H) (hS : va_S (fun q => sz ≤ q) s.heap H locs) (hl : lv_has A (M y).2.2.1 (zl (zr sz ka) s1.2.1)) (hn : sz + s1.2.2.2.1.length = s.heap.size + s1.2.2.2.2.1)
    (kk : ∀ (H2 : Heap) (locs2 : List Loc) (A2 : Array Slot), va_P D cl (zW cy (zr sz ka) sz s2.2.2.2.1) H2 → va_S (fun q => sz ≤ q) s.heap H2 locs2 → lv_has A2 (M y).2.2.1 (zl (zr sz ka) s2.2.1) → sz + s2.2.2.2.1.length = s.heap.size + s2.2.2.2.2.1 → W p l e R s m args below meth c H2 locs2 s2.2.2.2.2.1 s2.2.2.2.2.2 Q (F0 m s2.1 A2 (s2.2.2.1.map (zv (zr sz ka))))) :
    W p l e R s m args below meth c H locs s1.2.2.2.2.1 s1.2.2.2.2.2 Q (F0 m s1.1 A (s1.2.2.1.map (zv (zr sz ka)))) := by
  obtain ⟨hgood, hclok, hheld, hcode⟩ := id OK
  unfold zone at hz
  split at hz
  · cases hz
  · next i len K tg hPc =>
    obtain ⟨hd, hfa, hcf⟩ := hcode _ _ _ _ _ _ hPc
    replace hcf := zcf_mono hcf hRf hRl
    split at hz
    · cases hz
    · next pc2 ls2 st2 h3 hi =>
      cases hz
      by_cases hv : ∃ k, i = .invokestatic k ∨ i = .invokespecial k ∨ i = .invokevirtual k
      · exact zinv_ok (M := M) X hd hcf hi hv hP hS hl (fun H2 locs2 A2 hlen hP2 hS2 hl2 => kk H2 locs2 A2 hP2 hS2 hl2 (by show sz + h3.length = _; rw [hlen]; exact hn))
      · have hnb : zbig i = false := by
          cases hbg : zbig i with
          | false => rfl
          | true =>
            exfalso
            cases i
            case invokestatic k => exact hv ⟨k, Or.inl rfl⟩
            case invokespecial k => exact hv ⟨k, Or.inr (Or.inl rfl)⟩
            case invokevirtual k => exact hv ⟨k, Or.inr (Or.inr rfl)⟩
            case new => exact nomatch (show (some (.inr (.inr (.inr (s1.1 + 3, s1.2.2.1, .inr (.inr (.inr (K.1, F K.1))))))) : Option zA) = some (.inl _) from hi)
            case newarray =>
              have hi : znewa K.1 s1.1 s1.2.2.1 = some (.inl (pc2, ls2, st2, h3)) := hi
              unfold znewa at hi
              simp only [Bool.cond_eq_ite] at hi
              (repeat' split at hi) <;> first | (cases hi; done) | (simp at hi; done)
            case anewarray =>
              have hi : zanew s1.1 s1.2.2.1 = some (.inl (pc2, ls2, st2, h3)) := hi
              unfold zanew at hi
              simp only [Bool.cond_eq_ite] at hi
              (repeat' split at hi) <;> first | (cases hi; done) | (simp at hi; done)
            case ireturn =>
              have hi : zret K.1 s1.2.2.1 = some (.inl (pc2, ls2, st2, h3)) := hi
              unfold zret at hi
              split at hi
              · cases (zb_inv hi).2
              · cases hi
            case lreturn =>
              have hi : zlret s1.2.2.1 = some (.inl (pc2, ls2, st2, h3)) := hi
              unfold zlret at hi
              split at hi <;> cases hi
            case areturn =>
              have hi : zaret s1.2.2.1 = some (.inl (pc2, ls2, st2, h3)) := hi
              unfold zaret at hi
              split at hi <;> cases hi
            case return_ =>
              have hi : zvret s1.2.2.1 = some (.inl (pc2, ls2, st2, h3)) := hi
              unfold zvret at hi
              split at hi <;> cases hi
            all_goals cases hbg
        exact zstep_ok X hclok hheld hd (hfa hnb) hi (fun k => ⟨fun q => hv ⟨k, Or.inl q⟩, fun q => hv ⟨k, Or.inr (Or.inl q)⟩, fun q => hv ⟨k, Or.inr (Or.inr q)⟩⟩) hP hS hl (fun H2 locs2 A2 hlen hP2 hS2 hl2 => kk H2 locs2 A2 hP2 hS2 hl2 (by show sz + h3.length = _; rw [hlen]; exact hn))
    · next y2 as rest hi =>
      split at hz
      · cases hz
      · next v1 h3 d1 e1 hz1 =>
        cases hz
        exact zcall_ok (M := M) hgood X hd hcf hi (v := v1) (h2 := h3) (d1 := d1) (s1 := e1) (fun hc hpl => zmet OK C hz1 hc hpl) hRc hRs hP hS hl hn (fun H2 locs2 hP2 hS2 hn2 => kk H2 locs2 A hP2 hS2 hl hn2)
    · cases hz
    · next pc2 rest e9 hi =>
      cases hz
      exact zalloc_ok (M := M) X hclok hd hcf hi hRc hRs hP hS hn (fun H2 hP2 hS2 => kk H2 locs A hP2 hS2 hl (by show sz + (s1.2.2.2.1 ++ [e9]).length = _; rw [List.length_append]; simp only [List.length_cons, List.length_nil]; omega))
end ZG
theorem zone_mono {g : zCt} {F : zFs} {P : zCd} {f y : Nat} {s s2 : zS6} (h : zone g F P f y s = some s2) : s.2.2.2.2.1 ≤ s2.2.2.2.2.1 ∧ s.2.2.2.2.2 ≤ s2.2.2.2.2.2 := by
  unfold zone at h
  split at h
  · cases h
  · split at h
    · cases h
    · cases h
      exact ⟨Nat.le_refl _, Nat.le_refl _⟩
    · split at h
      · cases h
      · cases h
        exact ⟨Nat.le_add_right _ _, Nat.le_add_right _ _⟩
    · cases h
    · cases h
      exact ⟨Nat.le_add_right _ _, Nat.le_add_right _ _⟩
theorem zgo_mono {g : zCt} {F : zFs} {P : zCd} {f y : Nat} : ∀ (n : Nat) {s s2 : zS6}, zgo g F P f y n s = some s2 → s.2.2.2.2.1 ≤ s2.2.2.2.2.1 ∧ s.2.2.2.2.2 ≤ s2.2.2.2.2.2
  | 0, s, s2, h => by
    unfold zgo at h
    cases h
    exact ⟨Nat.le_refl _, Nat.le_refl _⟩
  | n + 1, s, s2, h => by
    unfold zgo at h
    split at h
    · cases h
    · next s3 h3 =>
      have a := zone_mono h3
      have b := zgo_mono n h
      exact ⟨Nat.le_trans a.1 b.1, Nat.le_trans a.2 b.2⟩
section ZGO
variable {cl : List vw_C} {Ts Ns : List Cond} {Zs : zZs} {D : va_G} {cy : Nat → ClassId} {sz : Nat} {ka : Nat → Nat} {g : zCt} {F : zFs} {zty : Nat → Nat → FieldType} {M : Nat → zMt} {P : zCd} {l : Launch}
/-- the machine's walk over some instructions -/
theorem zgo_ok (OK : zOK cl Ts Ns Zs F zty M P) {f y : Nat} (C : zClaim cl Ts Ns Zs D cy sz ka g F M P l f) {p : Program} {e : Env} {R : Room} {s : State} {m : MethodId} {args : Array Value} {below : List Frame} {meth : Method} {c : Code} {Q : State → Prop}
    (X : zCx cl Ts Ns Zs D cy sz ka g (M y).1.cls (M y).1.name (M y).2.1 (M y).2.2.1 p s m args meth c) (hRf : (M y).2.2.2.2.1 ≤ R.frames) (hRl : (M y).2.2.2.2.2 ≤ R.locals) {s2 : zS6} (hRc : s2.2.2.2.2.1 ≤ R.cells) (hRs : s2.2.2.2.2.2 ≤ R.slots)
    (kk : ∀ (H2 : Heap) (locs2 : List Loc) (A2 : Array Slot), va_P D cl (zW cy (zr sz ka) sz s2.2.2.2.1) H2 → va_S (fun q => sz ≤ q) s.heap H2 locs2 → lv_has A2 (M y).2.2.1 (zl (zr sz ka) s2.2.1) → sz + s2.2.2.2.1.length = s.heap.size + s2.2.2.2.2.1 → W p l e R s m args below meth c H2 locs2 s2.2.2.2.2.1 s2.2.2.2.2.2 Q (F0 m s2.1 A2 (s2.2.2.1.map (zv (zr sz ka))))) :
    ∀ (n : Nat) {s1 : zS6} {H : Heap} {locs : List Loc} {A : Array Slot}, zgo g F P f y n s1 = some s2 → va_P D cl (zW cy (zr sz ka) sz s1.2.2.2.1) H → va_S (fun q => sz ≤ q) s.heap H locs → lv_has A (M y).2.2.1 (zl (zr sz ka) s1.2.1) → sz + s1.2.2.2.1.length = s.heap.size + s1.2.2.2.2.1 →
      W p l e R s m args below meth c H locs s1.2.2.2.2.1 s1.2.2.2.2.2 Q (F0 m s1.1 A (s1.2.2.1.map (zv (zr sz ka))))
  | 0, s1, H, locs, A, hz, hP, hS, hl, hn => by
    unfold zgo at hz
    cases hz
    exact kk H locs A hP hS hl hn
  | n + 1, s1, H, locs, A, hz, hP, hS, hl, hn => by
    unfold zgo at hz
    split at hz
    · cases hz
    · next s3 h3 =>
      have b := zgo_mono n hz
      exact xone_ok OK C h3 X hRf hRl (Nat.le_trans b.1 hRc) (Nat.le_trans b.2 hRs) hP hS hl hn (fun H2 locs2 A2 hP2 hS2 hl2 hn2 => zgo_ok OK C X hRf hRl hRc hRs kk n hz hP2 hS2 hl2 hn2)
end ZGO
