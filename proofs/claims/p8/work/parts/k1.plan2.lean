/-! The class: plan as a whole. -/
/-- all that stood and isn't in C stands -/
noncomputable def wFx (C : Nat → Prop) (h h2 : zH) : Prop := h.length ≤ h2.length ∧ ∀ q e, ¬ C q → zat h q = some e → zat h2 q = some e
theorem wFx_of {C : Nat → Prop} {S : List Nat} {h h2 : zH} (f : wFr S h h2) (hs : ∀ q ∈ S, C q ∨ 2 * h.length ≤ q) : wFx C h h2 :=
  ⟨f.1, fun q e hq k => f.2 q e (fun hm => (hs q hm).elim hq (fun hl => absurd (zat_lt k) (Nat.not_lt.mpr hl))) k⟩
theorem wFx_rf (C : Nat → Prop) (h : zH) : wFx C h h := ⟨Nat.le_refl _, fun _ _ _ k => k⟩
theorem wFx_tr {C C2 : Nat → Prop} {h h2 h3 : zH} (a : wFx C h h2) (b : wFx C2 h2 h3) (c : ∀ q, C2 q → C q ∨ 2 * h.length ≤ q) : wFx C h h3 :=
  ⟨Nat.le_trans a.1 b.1, fun q e hq k => b.2 q e (fun hm => (c q hm).elim hq (fun hl => absurd (zat_lt k) (Nat.not_lt.mpr hl))) (a.2 q e hq k)⟩
theorem wFx_at {C : Nat → Prop} {h h2 : zH} {q : Nat} {e : zE} (f : wFx C h h2) (hq : ¬ C q) (k : zat h q = some e) : zat h2 q = some e := f.2 q e hq k
/-- the rows that grow: solver's, the eight helds', AIM's, drawn's, left rows, routes', rounds' -/
noncomputable def rwH (i : Nat) : Nat := [58, 104, 110, 116, 122, 128, 134, 140, 146, 62, 68, 98, 100, 86, 94, 156, 160].getD i 0
noncomputable def wRws (rw : Nat → Nat) (n : Nat) : Prop := (∀ i, i < 17 → (rw i = rwH i ∨ 234 ≤ rw i) ∧ rw i < 2 * n) ∧ ∀ i j, i < 17 → j < 17 → i ≠ j → rw i ≠ rw j
theorem wRws_le {rw : Nat → Nat} {n n2 : Nat} (k : wRws rw n) (h : n ≤ n2) : wRws rw n2 := ⟨fun i hi => ⟨(k.1 i hi).1, by have := (k.1 i hi).2; omega⟩, k.2⟩
theorem wRws_up {rw : Nat → Nat} {n n2 : Nat} (k : wRws rw n) (hn : n ≤ n2) {i x : Nat} (hx : x = rwH i ∨ 234 ≤ x) (hx2 : x < 2 * n2) (hd : ∀ j, j < 17 → j ≠ i → x ≠ rw j) : wRws (fup rw i x) n2 := by
  refine ⟨fun j hj => ?_, fun a b ha hb hab => ?_⟩
  · by_cases e : j = i
    · rw [e, fup_s]; exact ⟨hx, hx2⟩
    · rw [fup_n _ _ e]; exact ⟨(k.1 j hj).1, by have := (k.1 j hj).2; omega⟩
  · by_cases e : a = i
    · rw [e, fup_s, fup_n _ _ (fun q => hab (e.trans q.symm))]; exact hd b hb (fun q => hab (e.trans q.symm))
    · rw [fup_n _ _ e]
      by_cases e2 : b = i
      · rw [e2, fup_s]; exact fun q => hd a ha e q.symm
      · rw [fup_n _ _ e2]; exact k.2 a b ha hb hab
/-- what the room is charged for -/
noncomputable def kD (cp : Nat → Nat) : Nat := cp 0 + capS (fun w => cp (w + 1)) + cp 9 + cp 10 + cp 11 + cp 12 + cp 13 + cp 14 + cp 15 + cp 16
noncomputable def kS (cp : Nat → Nat) : Nat := 600 * (cp 0 + capS (fun w => cp (w + 1)) + cp 9 + cp 10) + 2 * (cp 11 + cp 12 + cp 13 + cp 14 + cp 15 + cp 16)
theorem kD_up {cp : Nat → Nat} (i x : Nat) (hi : 9 ≤ i ∧ i < 17) : kD (fup cp i x) + cp i = kD cp + x := by
  have e : ∀ w, w < 9 → fup cp i x w = cp w := fun w hw => fup_n _ _ (by omega)
  unfold kD capS
  dsimp only
  rw [e 0 (by decide), e _ (show 0 + 1 < 9 by decide), e _ (show 1 + 1 < 9 by decide), e _ (show 2 + 1 < 9 by decide), e _ (show 3 + 1 < 9 by decide), e _ (show 4 + 1 < 9 by decide), e _ (show 5 + 1 < 9 by decide), e _ (show 6 + 1 < 9 by decide), e _ (show 7 + 1 < 9 by decide)]
  obtain ⟨h1, h2⟩ := hi
  have : i = 9 ∨ i = 10 ∨ i = 11 ∨ i = 12 ∨ i = 13 ∨ i = 14 ∨ i = 15 ∨ i = 16 := by omega
  rcases this with q | q | q | q | q | q | q | q <;> (subst q; unfold fup; simp; omega)
theorem kS_up {cp : Nat → Nat} (i x : Nat) (hi : 11 ≤ i ∧ i < 17) : kS (fup cp i x) + 2 * cp i = kS cp + 2 * x := by
  have e : ∀ w, w < 11 → fup cp i x w = cp w := fun w hw => fup_n _ _ (by omega)
  unfold kS capS
  dsimp only
  rw [e 0 (by decide), e _ (show 0 + 1 < 11 by decide), e _ (show 1 + 1 < 11 by decide), e _ (show 2 + 1 < 11 by decide), e _ (show 3 + 1 < 11 by decide), e _ (show 4 + 1 < 11 by decide), e _ (show 5 + 1 < 11 by decide), e _ (show 6 + 1 < 11 by decide), e _ (show 7 + 1 < 11 by decide), e 9 (by decide), e 10 (by decide)]
  obtain ⟨h1, h2⟩ := hi
  have : i = 11 ∨ i = 12 ∨ i = 13 ∨ i = 14 ∨ i = 15 ∨ i = 16 := by omega
  rcases this with q | q | q | q | q | q <;> (subst q; unfold fup; simp; omega)
/-- an arm that a text was read into as a whole -/
noncomputable def wArm (h : zH) (ra sp so : Nat) (lk hd ht bl sd : Int32) (rt : Int64) (ll lg sv nm wy : List Int32) (po : List Int64) : Prop := zat h ra = some (.inr (.inr (.inr (0, [.int lk, .int hd, .int ht, .int bl, .int sd, .long rt, .ref (ra + 2), .ref (ra + 4), .ref (ra + 6), .int (nI sp), .ref (ra + 8), .ref (ra + 10), .int (nI so), .ref (ra + 12)])))) ∧ zat h (ra + 2) = some (.inl (0, 6, ll)) ∧ zat h (ra + 4) = some (.inl (0, 6, lg)) ∧ zat h (ra + 6) = some (.inl (0, 6, sv)) ∧ zat h (ra + 8) = some (.inl (0, 8, nm)) ∧ zat h (ra + 10) = some (.inr (.inl (8, po))) ∧ zat h (ra + 12) = some (.inl (0, 10, wy)) ∧ wScl lk hd ht bl sd ∧ wLm ll lg ∧ wSpd sv ∧ sp ≤ 8 ∧ wWay wy sp so ∧ (ra = 6 ∨ ra = 20)
theorem wArm_fx {C : Nat → Prop} {h h2 : zH} {ra sp so : Nat} {lk hd ht bl sd : Int32} {rt : Int64} {ll lg sv nm wy : List Int32} {po : List Int64} (k : wArm h ra sp so lk hd ht bl sd rt ll lg sv nm wy po) (f : wFx C h h2) (hC : ∀ q, 6 ≤ q → q < 34 → ¬ C q) : wArm h2 ra sp so lk hd ht bl sd rt ll lg sv nm wy po := by
  obtain ⟨a1, a2, a3, a4, a5, a6, a7, b1, b2, b3, b4, b5, b6⟩ := k
  exact ⟨wFx_at f (hC _ (by omega) (by omega)) a1, wFx_at f (hC _ (by omega) (by omega)) a2, wFx_at f (hC _ (by omega) (by omega)) a3, wFx_at f (hC _ (by omega) (by omega)) a4, wFx_at f (hC _ (by omega) (by omega)) a5, wFx_at f (hC _ (by omega) (by omega)) a6, wFx_at f (hC _ (by omega) (by omega)) a7, b1, b2, b3, b4, b5, b6⟩
/-- what the planner knows: nothing; or what was looked up -/
noncomputable def wPf (so : Nat) (lk hd ht : Int32) (ll lg wy sv : List Int32) (po : List Int64) (wg ob pr sr al9 : Int32) (fi lf0 lf1 : List Int32) (to : Nat → Nat) (li : Nat → List Int64) (cp : Nat → Nat) : Prop := (wg = 0 ∧ pr = 0 ∧ sr = 0) ∨ (wg = 1 ∧ al9 = nI (lkS (fun v => (jSL ll lg lk hd ht (po.getD v 0)).length) (fun q => (wy.getD q 0).toNatClampNeg) so) ∧ (∃ b, (∀ q, q < so → b >>> (wy.getD q 0).toNatClampNeg % 2 ≠ 0) ∧ wGt (fun v => jSL ll lg lk hd ht (po.getD v 0)) b to (fun w => cp (w + 1)) li) ∧ wObs (fun v => (jSL ll lg lk hd ht (po.getD v 0)).length) (fun q => (wy.getD q 0).toNatClampNeg) so ob ∧ (∀ q, q < so → fi.getD q 0 = nI (lkS (fun v => (jSL ll lg lk hd ht (po.getD v 0)).length) (fun q => (wy.getD q 0).toNatClampNeg) q)) ∧ (pr = 0 ∨ pr = 1) ∧ (sr = 0 ∨ sr = 1) ∧ (pr ≠ 0 → wLf0 sv to li wy (lkS (fun v => (jSL ll lg lk hd ht (po.getD v 0)).length) (fun q => (wy.getD q 0).toNatClampNeg)) so (cp 11) lf0 ∧ lkS (fun v => (jSL ll lg lk hd ht (po.getD v 0)).length) (fun q => (wy.getD q 0).toNatClampNeg) so ≤ cp 11) ∧ (sr ≠ 0 → wLf1 sv to li wy (lkS (fun v => (jSL ll lg lk hd ht (po.getD v 0)).length) (fun q => (wy.getD q 0).toNatClampNeg)) so (cp 12) lf1 ∧ lkS (fun v => (jSL ll lg lk hd ht (po.getD v 0)).length) (fun q => (wy.getD q 0).toNatClampNeg) so ≤ cp 12))
noncomputable def wPl (h : zH) (ra so : Nat) (lk hd ht : Int32) (ll lg wy sv : List Int32) (po : List Int64) (wg : Int32) (rw cp : Nat → Nat) : Prop := ∃ (ob pr9 sr9 fw al9 : Int32) (fi hpl lf0 lf1 : List Int32) (to : Nat → Nat) (kn ks fa : Nat → Int32) (hp : Nat → List Int32) (li : Nat → List Int64), zat h 74 = some (.inr (.inr (.inr (3, [.ref 44, .ref ra, .ref 76, .ref 78, .ref 80, .ref 88, .int wg, .int ob, .ref 96, .int al9, .int pr9, .int sr9, .ref (rw 11), .ref (rw 12), .int fw])))) ∧ zat h 96 = some (.inl (0, 10, fi)) ∧ zat h 76 = some (.inl (0, 6, hpl)) ∧ wHs h to (fun w => rw (w + 1)) (fun w => cp (w + 1)) kn ks fa hp li ∧ (∀ w, w < 8 → to w ≤ 16384) ∧ zat h (rw 11) = some (.inl (0, cp 11, lf0)) ∧ zat h (rw 12) = some (.inl (0, cp 12, lf1)) ∧ cp 11 ≤ 12000 ∧ cp 12 ≤ 12000 ∧ wPf so lk hd ht ll lg wy sv po wg ob pr9 sr9 al9 fi lf0 lf1 to li cp
noncomputable def wTk (tk : Int32) (N : Nat) : Prop := tk = -2 ∨ tk = -3 ∨ ∃ T, tk = nI T ∧ T < N ∧ T ≤ 3000
noncomputable def wRo (h : zH) (rr rS N : Nat) (kn : Int32) : Prop := ∃ (fr : Int64) (tk : Int32) (st : List Int64) (pk cn : List Int32), zat h rr = some (.inr (.inr (.inr (6, [.int kn, .long fr, .int tk, .ref (rr + 2), .ref (rr + 4), .ref rS])))) ∧ zat h rS = some (.inr (.inl (N, st))) ∧ zat h (rr + 2) = some (.inl (0, 10, pk)) ∧ zat h (rr + 4) = some (.inl (0, 10, cn)) ∧ 1 ≤ N ∧ N ≤ 6002 ∧ (kn ≠ 0 → wTk tk N)
/-- the planner, its routes, its helds, the solver -/
noncomputable def wPz (h : zH) (ra so : Nat) (lk hd ht : Int32) (ll lg wy sv : List Int32) (po : List Int64) (wg ka kb : Int32) (rw cp : Nat → Nat) : Prop := zat h 78 = some (.inr (.inr (.inl (8, [some 102, some 108, some 114, some 120, some 126, some 132, some 138, some 144])))) ∧ wSol h (rw 0) (cp 0) ∧ wPl h ra so lk hd ht ll lg wy sv po wg rw cp ∧ wRo h 80 (rw 13) (cp 13) ka ∧ wRo h 88 (rw 14) (cp 14) kb
/-- what plan may change -/
noncomputable def plC (rw : Nat → Nat) (q : Nat) : Prop := (44 ≤ q ∧ q < 60) ∨ (74 ≤ q ∧ q < 150 ∧ q ≠ 78) ∨ (∃ i, (i < 9 ∨ (11 ≤ i ∧ i < 15)) ∧ q = rw i)
theorem plC_no {rw : Nat → Nat} {n : Nat} (k : wRws rw n) {q : Nat} (h : q < 44 ∨ (60 ≤ q ∧ q < 74) ∨ q = 78 ∨ (150 ≤ q ∧ q < 234)) : ¬ plC rw q := by
  rintro (a | a | ⟨i, a, b⟩)
  · omega
  · omega
  · have c := (k.1 i (by omega)).1
    have d : ∀ i, (i < 9 ∨ (11 ≤ i ∧ i < 15)) → (44 ≤ rwH i ∧ rwH i < 60) ∨ (74 ≤ rwH i ∧ rwH i < 150 ∧ rwH i ≠ 78) := by
      intro i hi
      have : i < 15 := by omega
      have e : ∀ i, i < 15 → (i < 9 ∨ (11 ≤ i ∧ i < 15)) → (44 ≤ rwH i ∧ rwH i < 60) ∨ (74 ≤ rwH i ∧ rwH i < 150 ∧ rwH i ≠ 78) := by decide
      exact e i this hi
    have d1 := d i a
    omega
theorem plC_rw {rw : Nat → Nat} {n : Nat} (k : wRws rw n) {j : Nat} (h : j = 9 ∨ j = 10 ∨ j = 15 ∨ j = 16) : ¬ plC rw (rw j) := by
  have hj : j < 17 := by omega
  have c := (k.1 j hj).1
  have d : (60 ≤ rwH j ∧ rwH j < 74) ∨ (150 ≤ rwH j ∧ rwH j < 234) := by
    have e : ∀ j, j < 17 → (j = 9 ∨ j = 10 ∨ j = 15 ∨ j = 16) → (60 ≤ rwH j ∧ rwH j < 74) ∨ (150 ≤ rwH j ∧ rwH j < 234) := by decide
    exact e j hj h
  rintro (a | a | ⟨i, a, b⟩)
  · omega
  · omega
  · exact k.2 j i hj (by omega) (by omega) b
theorem lkF_pl {rw : Nat → Nat} : ∀ q ∈ lkF (rw 0) (fun w => rw (w + 1)), plC rw q := by
  intro q hq
  unfold lkF at hq
  rcases List.mem_append.mp hq with a | a
  · have e : ∀ q ∈ [74, 96, 76, 44, 46, 48, 50, 52, 54, 56, 102, 106, 108, 112, 114, 118, 120, 124, 126, 130, 132, 136, 138, 142, 144, 148], (44 ≤ q ∧ q < 60) ∨ (74 ≤ q ∧ q < 150 ∧ q ≠ 78) := by decide
    rcases e q a with b | b
    · exact Or.inl b
    · exact Or.inr (Or.inl b)
  · rcases List.mem_cons.mp a with b | b
    · exact Or.inr (Or.inr ⟨0, by decide, b⟩)
    · obtain ⟨w, hw, e⟩ := List.mem_map.mp b
      have := List.mem_range.mp hw
      exact Or.inr (Or.inr ⟨w + 1, by omega, e.symm⟩)
theorem wHs_fx {C : Nat → Prop} {h h2 : zH} {to rL cap : Nat → Nat} {kn ks fa : Nat → Int32} {hp : Nat → List Int32} {li : Nat → List Int64} (k : wHs h to rL cap kn ks fa hp li) (f : wFx C h h2) (hC : ∀ q, 102 ≤ q → q < 150 → ¬ C q) (hr : ∀ w, w < 8 → ¬ C (rL w)) : wHs h2 to rL cap kn ks fa hp li := by
  intro w hw
  obtain ⟨a1, a2, a3, a4, a5⟩ := k w hw
  exact ⟨wFx_at f (hC _ (by omega) (by omega)) a1, wFx_at f (hC _ (by omega) (by omega)) a2, wFx_at f (hr w hw) a3, a4, a5⟩
theorem wHs_cg {h : zH} {to rL cap rL2 cap2 : Nat → Nat} {kn ks fa : Nat → Int32} {hp : Nat → List Int32} {li : Nat → List Int64} (k : wHs h to rL cap kn ks fa hp li) (e1 : ∀ w, w < 8 → rL2 w = rL w) (e2 : ∀ w, w < 8 → cap2 w = cap w) : wHs h to rL2 cap2 kn ks fa hp li := by
  intro w hw
  rw [e1 w hw, e2 w hw]
  exact k w hw
theorem wGt_cg {N : Nat → List Int64} {b : Nat} {to cap cap2 : Nat → Nat} {li : Nat → List Int64} (k : wGt N b to cap li) (e2 : ∀ w, w < 8 → cap2 w = cap w) : wGt N b to cap2 li := by
  intro v hv hb
  rw [e2 v hv]
  exact k v hv hb
theorem wSol_fx {C : Nat → Prop} {h h2 : zH} {rv sc : Nat} (k : wSol h rv sc) (f : wFx C h h2) (hC : ∀ q, 44 ≤ q → q < 58 → ¬ C q) (hr : ¬ C rv) : wSol h2 rv sc := by
  obtain ⟨v0, v1, nf, tg, sh, el, wr, ou, bh, so1, a1, a2, a3, a4, a5, a6, a7, a8, a9, a10⟩ := k
  exact ⟨v0, v1, nf, tg, sh, el, wr, ou, bh, so1, wFx_at f (hC _ (by decide) (by decide)) a1, wFx_at f (hC _ (by decide) (by decide)) a2, wFx_at f (hC _ (by decide) (by decide)) a3, wFx_at f (hC _ (by decide) (by decide)) a4, wFx_at f (hC _ (by decide) (by decide)) a5, wFx_at f (hC _ (by decide) (by decide)) a6, wFx_at f (hC _ (by decide) (by decide)) a7, wFx_at f hr a8, a9, a10⟩
theorem wRo_fx {C : Nat → Prop} {h h2 : zH} {rr rS N : Nat} {kn : Int32} (k : wRo h rr rS N kn) (f : wFx C h h2) (hC : ∀ q, rr ≤ q → q < rr + 6 → ¬ C q) (hr : ¬ C rS) : wRo h2 rr rS N kn := by
  obtain ⟨fr, tk, st, pk, cn, a1, a2, a3, a4, a5⟩ := k
  exact ⟨fr, tk, st, pk, cn, wFx_at f (hC _ (by omega) (by omega)) a1, wFx_at f hr a2, wFx_at f (hC _ (by omega) (by omega)) a3, wFx_at f (hC _ (by omega) (by omega)) a4, a5⟩
theorem wPl_fx {C : Nat → Prop} {h h2 : zH} {ra so : Nat} {lk hd ht : Int32} {ll lg wy sv : List Int32} {po : List Int64} {wg : Int32} {rw cp : Nat → Nat} (k : wPl h ra so lk hd ht ll lg wy sv po wg rw cp) (f : wFx C h h2) (hC : ∀ q, 102 ≤ q → q < 150 → ¬ C q) (h1 : ¬ C 74) (h2' : ¬ C 96) (h3 : ¬ C 76) (hr : ∀ i, (1 ≤ i ∧ i < 9) ∨ i = 11 ∨ i = 12 → ¬ C (rw i)) : wPl h2 ra so lk hd ht ll lg wy sv po wg rw cp := by
  obtain ⟨ob, pr, sr, fw, al9, fi, hpl, lf0, lf1, to, kn, ks, fa, hp, li, e74, e96, e76, hHs, hto, eP, eS, c1, c2, hf⟩ := k
  exact ⟨ob, pr, sr, fw, al9, fi, hpl, lf0, lf1, to, kn, ks, fa, hp, li, wFx_at f h1 e74, wFx_at f h2' e96, wFx_at f h3 e76, wHs_fx hHs f hC (fun w hw => hr (w + 1) (by omega)), hto, wFx_at f (hr 11 (by decide)) eP, wFx_at f (hr 12 (by decide)) eS, c1, c2, hf⟩
theorem wPz_fx {C : Nat → Prop} {h h2 : zH} {ra so : Nat} {lk hd ht : Int32} {ll lg wy sv : List Int32} {po : List Int64} {wg ka kb : Int32} {rw cp : Nat → Nat} (k : wPz h ra so lk hd ht ll lg wy sv po wg ka kb rw cp) (f : wFx C h h2) (hC : ∀ q, (44 ≤ q ∧ q < 58) ∨ (74 ≤ q ∧ q < 98) ∨ (102 ≤ q ∧ q < 150) → ¬ C q) (hr : ∀ i, i < 9 ∨ (11 ≤ i ∧ i < 15) → ¬ C (rw i)) : wPz h2 ra so lk hd ht ll lg wy sv po wg ka kb rw cp := by
  obtain ⟨a, b, c, d, e⟩ := k
  exact ⟨wFx_at f (hC _ (by decide)) a, wSol_fx b f (fun q h1 h2 => hC q (by omega)) (hr 0 (by decide)), wPl_fx c f (fun q h1 h2 => hC q (by omega)) (hC _ (by decide)) (hC _ (by decide)) (hC _ (by decide)) (fun i hi => hr i (by omega)), wRo_fx d f (fun q h1 h2 => hC q (by omega)) (hr 13 (by decide)), wRo_fx e f (fun q h1 h2 => hC q (by omega)) (hr 14 (by decide))⟩
/-- rows may have been made anew; those of AIM, drawn, the rounds stand -/
noncomputable def wRg (n : Nat) (rw cp rw2 cp2 : Nat → Nat) : Prop := (∀ i, i < 17 → rw2 i = rw i ∨ 2 * n ≤ rw2 i) ∧ (∀ i, i = 9 ∨ i = 10 ∨ i = 15 ∨ i = 16 → rw2 i = rw i ∧ cp2 i = cp i)
theorem wRg_rf (n : Nat) (rw cp : Nat → Nat) : wRg n rw cp rw cp := ⟨fun _ _ => Or.inl rfl, fun _ _ => ⟨rfl, rfl⟩⟩
theorem wRg_tr {n n2 : Nat} {rw cp rw2 cp2 rw3 cp3 : Nat → Nat} (a : wRg n rw cp rw2 cp2) (b : wRg n2 rw2 cp2 rw3 cp3) (hn : n ≤ n2) : wRg n rw cp rw3 cp3 := by
  refine ⟨fun i hi => ?_, fun i hi => ?_⟩
  · have x := a.1 i hi; have y := b.1 i hi; omega
  · exact ⟨(b.2 i hi).1.trans (a.2 i hi).1, (b.2 i hi).2.trans (a.2 i hi).2⟩
theorem plC_tr {n : Nat} {rw cp rw2 cp2 : Nat → Nat} (g : wRg n rw cp rw2 cp2) : ∀ q, plC rw2 q → plC rw q ∨ 2 * n ≤ q := by
  rintro q (a | a | ⟨i, a, b⟩)
  · exact Or.inl (Or.inl a)
  · exact Or.inl (Or.inr (Or.inl a))
  · rcases g.1 i (by omega) with e | e
    · exact Or.inl (Or.inr (Or.inr ⟨i, a, b.trans e⟩))
    · exact Or.inr (by omega)
theorem lkS_mono (N wn : Nat → Nat) : ∀ (d a : Nat), lkS N wn a ≤ lkS N wn (a + d)
  | 0, _ => Nat.le_refl _
  | d + 1, a => Nat.le_trans (lkS_mono N wn d a) (Nat.le_add_right _ _)
theorem wTk_ob {N wn : Nat → Nat} {so : Nat} {ob : Int32} (h : wObs N wn so ob) {n : Nat} (hn : 1 ≤ n) : wTk ob n := by
  rcases h with ⟨e, _⟩ | ⟨e, _⟩ | ⟨e, _⟩
  · exact Or.inl e
  · exact Or.inr (Or.inl e)
  · exact Or.inr (Or.inr ⟨0, e, by omega, by omega⟩)
theorem wAc_arm {h : zH} {ra sp so : Nat} {lk hd ht bl sd : Int32} {rt : Int64} {ll lg sv nm wy : List Int32} {po : List Int64} (k : wArm h ra sp so lk hd ht bl sd rt ll lg sv nm wy po) (h78 : zat h 78 = some (.inr (.inr (.inl (8, [some 102, some 108, some 114, some 120, some 126, some 132, some 138, some 144]))))) : wAc h ra sp so lk hd ht bl sd rt ll lg wy po := ⟨k.1, k.2.1, k.2.2.1, k.2.2.2.2.2.1, k.2.2.2.2.2.2.1, h78⟩
/-- what the choice of a route wants of what was looked up -/
theorem pl_hto {h : zH} {sp so : Nat} {lk hd ht : Int32} {ll lg wy fi : List Int32} {po : List Int64} {to rL cap : Nat → Nat} {kn ks fa : Nat → Int32} {hp : Nat → List Int32} {li : Nat → List Int64} {b : Nat} {ob : Int32} (hHs : wHs h to rL cap kn ks fa hp li) (hway : wWay wy sp so) (hsp : sp ≤ 8) (hb : ∀ q, q < so → b >>> (wy.getD q 0).toNatClampNeg % 2 ≠ 0) (hg : wGt (fun v => jSL ll lg lk hd ht (po.getD v 0)) b to cap li) (hob : wObs (fun v => (jSL ll lg lk hd ht (po.getD v 0)).length) (fun q => (wy.getD q 0).toNatClampNeg) so ob) (h0 : ob = 0) (hfi : ∀ q, q < so → fi.getD q 0 = nI (lkS (fun v => (jSL ll lg lk hd ht (po.getD v 0)).length) (fun q => (wy.getD q 0).toNatClampNeg) q)) : ∀ q, q < so → to ((wy.getD q 0).toNatClampNeg) ≤ 600 ∧ to ((wy.getD q 0).toNatClampNeg) ≤ cap ((wy.getD q 0).toNatClampNeg) ∧ fi.getD q 0 = nI (lkS (fun v => (jSL ll lg lk hd ht (po.getD v 0)).length) (fun q => (wy.getD q 0).toNatClampNeg) q) ∧ lkS (fun v => (jSL ll lg lk hd ht (po.getD v 0)).length) (fun q => (wy.getD q 0).toNatClampNeg) q + to ((wy.getD q 0).toNatClampNeg) ≤ lkS (fun v => (jSL ll lg lk hd ht (po.getD v 0)).length) (fun q => (wy.getD q 0).toNatClampNeg) so := by
  intro q hq
  obtain ⟨w, hw, hw8⟩ := hway.2 q hq
  have hwn : (wy.getD q 0).toNatClampNeg = w := by rw [hw]; exact nI_clamp (by omega)
  have hN : ∀ q, q < so → (jSL ll lg lk hd ht (po.getD ((wy.getD q 0).toNatClampNeg) 0)).length ≠ 0 ∧ (jSL ll lg lk hd ht (po.getD ((wy.getD q 0).toNatClampNeg) 0)).length ≤ 600 := by
    rcases hob with ⟨e, _⟩ | ⟨e, _⟩ | ⟨_, k⟩
    · rw [h0] at e; exact absurd e (by decide)
    · rw [h0] at e; exact absurd e (by decide)
    · exact k
  have n1 := (hN q hq).2
  obtain ⟨g1, g2⟩ := hg _ (by omega) (hb q hq)
  have g3 := (hHs _ (show (wy.getD q 0).toNatClampNeg < 8 by omega)).2.2.2.2
  have g4 := g2.2
  have m1 : lkS (fun v => (jSL ll lg lk hd ht (po.getD v 0)).length) (fun q => (wy.getD q 0).toNatClampNeg) (q + 1) = lkS (fun v => (jSL ll lg lk hd ht (po.getD v 0)).length) (fun q => (wy.getD q 0).toNatClampNeg) q + min ((jSL ll lg lk hd ht (po.getD ((wy.getD q 0).toNatClampNeg) 0)).length) 600 := rfl
  have m2 := lkS_mono (fun v => (jSL ll lg lk hd ht (po.getD v 0)).length) (fun q => (wy.getD q 0).toNatClampNeg) (so - (q + 1)) (q + 1)
  rw [show q + 1 + (so - (q + 1)) = so by omega] at m2
  dsimp only at g1
  try dsimp only at g4
  refine ⟨by omega, by omega, hfi q hq, by omega⟩
theorem plC_ch {rw : Nat → Nat} {rr i j : Nat} (hrr : rr = 80 ∨ rr = 88) (hi : i < 9 ∨ (11 ≤ i ∧ i < 15)) (hj : j < 9 ∨ (11 ≤ j ∧ j < 15)) : ∀ q ∈ [74, rw i, rr, rw j, rr + 2, rr + 4], plC rw q := by
  intro q hq
  simp only [List.mem_cons, List.not_mem_nil, or_false] at hq
  rcases hq with e | e | e | e | e | e
  · exact Or.inr (Or.inl (by omega))
  · exact Or.inr (Or.inr ⟨i, hi, e⟩)
  · exact Or.inr (Or.inl (by omega))
  · exact Or.inr (Or.inr ⟨j, hj, e⟩)
  · exact Or.inr (Or.inl (by omega))
  · exact Or.inr (Or.inl (by omega))
set_option maxHeartbeats 4000000 in
theorem c_pwM0 {h : zH} {ra sp so : Nat} {lk hd ht bl sd : Int32} {rt : Int64} {ll lg sv nm wy : List Int32} {po : List Int64} {ka kb : Int32} {rw cp : Nat → Nat} {nw : Int64} {dc ds : Nat} (hA : wArm h ra sp so lk hd ht bl sd rt ll lg sv nm wy po) (hz : wPz h ra so lk hd ht ll lg wy sv po 1 ka kb rw cp) (hRw : wRws rw h.length) (hlen : 117 ≤ h.length) : wq 27 39 [(0, .ref 74), (1, .long nw), (3, .int 0), (4, .ref 80)] [] h dc ds (fun r => ∃ (h2 : zH) (rw2 cp2 : Nat → Nat) (d s : Nat), r = (some (.ref 80), h2, d, s) ∧ wPz h2 ra so lk hd ht ll lg wy sv po 1 1 kb rw2 cp2 ∧ wRws rw2 h2.length ∧ wFx (plC rw) h h2 ∧ wRg h.length rw cp rw2 cp2 ∧ d + kD cp ≤ dc + kD cp2 ∧ s + kS cp ≤ ds + kS cp2) := by
  obtain ⟨h78, hSol, hPl, hRa, hRb⟩ := hz
  have hA0 := hA
  obtain ⟨a1, a2, a3, a4, a5, a6, a7, hsc, hlm, hsv, hsp, hway, hra⟩ := hA0
  obtain ⟨ob, pr, sr, fw, al9, fi, hpl, lf0, lf1, to, kn, ks, fa, hp, li, e74, e96, e76, hHs, hto9, eP, eS, c11, c12, hf⟩ := hPl
  rcases hf with ⟨hw, _⟩ | ⟨_, hal, hbg, hob, hfi, hpr, hsr, hp1, hs1⟩
  · exact absurd hw (by decide)
  have hro := hRa
  have hroX := hRb
  obtain ⟨fr, tk, st, pk, cn, r1, r2, r3, r4, r5, r6, r7⟩ := hro
  have q13 : rw 13 = 86 ∨ 234 ≤ rw 13 := (hRw.1 13 (by decide)).1
  have qL : rw 11 = 98 ∨ 234 ≤ rw 11 := (hRw.1 11 (by decide)).1
  have hso := hway.1
  have rw9 : ∀ i, i < 17 → i ≠ 13 → rw i ≠ rw 13 := fun i hi hne => hRw.2 i 13 hi (by decide) hne
  have rwh : ∀ i, i < 17 → rw i ≠ 80 := fun i hi e => by
    have e1 := (hRw.1 i hi).1
    have e2 : ∀ i, i < 17 → rwH i ≠ 80 := by decide
    have e3 := e2 i hi
    omega
  have fxs : ∀ q, q ∈ [80, rw 13] → plC rw q := fun q hq => by
    rcases List.mem_cons.mp hq with e | e
    · exact Or.inr (Or.inl (by omega))
    · exact Or.inr (Or.inr ⟨13, by decide, List.mem_singleton.mp e⟩)
  have nfx : ∀ q, q ≠ 80 → q ≠ rw 13 → ¬ (q ∈ [80, rw 13]) := fun q n1 n2 hm => by
    rcases List.mem_cons.mp hm with e | e
    · exact n1 e
    · exact n2 (List.mem_singleton.mp e)
  have mid : ∀ h2 : zH, wFr [80, rw 13] h h2 → h2.length = h.length → zat h2 80 = some (.inr (.inr (.inr (6, [.int 1, .long nw, .int ob, .ref 82, .ref 84, .ref (rw 13)])))) → zat h2 (rw 13) = some (.inr (.inl (cp 13, zset 0 st 0 nw))) → wPz h2 ra so lk hd ht ll lg wy sv po 1 1 kb rw cp := fun h2 f l c1 c2 => by
    have g : wFx (fun q => q ∈ [80, rw 13]) h h2 := f
    have nh : ∀ q, q < 234 → q ≠ 80 → q ≠ 86 → ¬ (q ∈ [80, rw 13]) := fun q n0 n1 n2 => nfx q n1 (by omega)
    have z1 := wFx_at g (nh 78 (by decide) (by decide) (by decide)) h78
    have z2 := wSol_fx hSol g (fun q n1 n2 => nh q (by omega) (by omega) (by omega)) (nfx _ (rwh 0 (by decide)) (rw9 0 (by decide) (by decide)))
    have z3 : wPl h ra so lk hd ht ll lg wy sv po 1 rw cp := ⟨ob, pr, sr, fw, al9, fi, hpl, lf0, lf1, to, kn, ks, fa, hp, li, e74, e96, e76, hHs, hto9, eP, eS, c11, c12, Or.inr ⟨rfl, hal, hbg, hob, hfi, hpr, hsr, hp1, hs1⟩⟩
    have z4 := wPl_fx z3 g (fun q n1 n2 => nh q (by omega) (by omega) (by omega)) (nh 74 (by decide) (by decide) (by decide)) (nh 96 (by decide) (by decide) (by decide)) (nh 76 (by decide) (by decide) (by decide)) (fun i hi => nfx _ (rwh i (by omega)) (rw9 i (by omega) (by omega)))
    have z5 := wRo_fx hroX g (fun q n1 n2 => nh q (by omega) (by omega) (by omega)) (nfx _ (rwh 14 (by decide)) (rw9 14 (by decide) (by decide)))
    have z6 : wRo h2 80 (rw 13) (cp 13) 1 := ⟨nw, ob, zset 0 st 0 nw, pk, cn, c1, c2, wFx_at g (nh _ (by decide) (by decide) (by decide)) r3, wFx_at g (nh _ (by decide) (by decide) (by decide)) r4, r5, r6, fun _ => wTk_ob hob r5⟩
    exact ⟨z1, z2, z4, z6, z5⟩
  refine c_pwC (rr := 80) e74 a1 r1 r2 hra hway.1 ⟨r5, by omega, by omega⟩ (Or.inl rfl) (by omega) ?_ ?_
  · intro h2 f l c0 c1 c2
    exact ⟨h2, rw, cp, dc, ds, rfl, mid h2 f l c1 c2, wRws_le hRw (by omega), wFx_of f (fun q hq => Or.inl (fxs q hq)), wRg_rf _ _ _, Nat.le_refl _, Nat.le_refl _⟩
  · intro h2 f l c0 c1 c2 p0 p1
    have hz2 := mid h2 f l c1 c2
    have g : wFx (fun q => q ∈ [80, rw 13]) h h2 := f
    have nh : ∀ q, q < 234 → q ≠ 80 → q ≠ 86 → ¬ (q ∈ [80, rw 13]) := fun q n0 n1 n2 => nfx q n1 (by omega)
    have hA2 := wArm_fx hA g (fun q n1 n2 => nh q (by omega) (by omega) (by omega))
    obtain ⟨b, hb, hg⟩ := hbg
    have hHs2 := wHs_fx hHs g (fun q n1 n2 => nh q (by omega) (by omega) (by omega)) (fun w hw => nfx _ (rwh (w + 1) (by omega)) (rw9 (w + 1) (by omega) (by omega)))
    have hal6 : lkS (fun v => (jSL ll lg lk hd ht (po.getD v 0)).length) (fun q => (wy.getD q 0).toNatClampNeg) so ≤ 6000 := by have := lkS_le (fun v => (jSL ll lg lk hd ht (po.getD v 0)).length) (fun q => (wy.getD q 0).toNatClampNeg) so; omega
    have hA3 := hA2
    obtain ⟨a1', a2', a3', a4', a5', a6', a7', _, _, _, _, _, _⟩ := hA3
    subst hal
    refine c_pwD (ls := []) c0 (wq_mono (c_cho0 (h := h2) (S := lkS (fun v => (jSL ll lg lk hd ht (po.getD v 0)).length) (fun q => (wy.getD q 0).toNatClampNeg)) hra hsp p1 hway hsv (pl_hto hHs hway hsp hb hg hob p0 hfi) ⟨hal6, c11⟩ qL (fun w hw => (hRw.2 (w + 1) 11 (by omega) (by decide) (by omega)).symm) (by omega) hpr hp1 ⟨r5, r6⟩ ⟨Or.inl rfl, q13⟩ (fun w hw => (hRw.2 (w + 1) 13 (by omega) (by decide) (by omega)).symm) (hRw.2 13 11 (by decide) (by decide) (by decide)) (wAc_arm hA2 hz2.1) a4' hHs2 (wFx_at g (nh 96 (by decide) (by decide) (by decide)) e96) (wFx_at g (nfx _ (rwh 11 (by decide)) (rw9 11 (by decide) (by decide))) eP) c0 (by rw [p0] at c1; exact c1) c2 (wFx_at g (nh _ (by decide) (by decide) (by decide)) r3) (wFx_at g (nh _ (by decide) (by decide) (by decide)) r4)) ?_)
    rintro _ ⟨h3, rS2, N2, rl2, n2, d, s, fw2, st2, lf2, rfl, f3, k1, k2, k3, k4, k5, k6, k7, k8, k9, k10, k11, k12, k13, k14, k15, k16, k17, k18⟩
    have hlt : ∀ i, i < 17 → rw i < 2 * h2.length := fun i hi => by rw [l]; exact (hRw.1 i hi).2
    have u1 := zat_lt k2
    have u2 := zat_lt k10
    have f3l := f3.1
    have hd1 : ∀ j, j < 17 → j ≠ 11 → rl2 ≠ rw j := fun j hj hne => by
      rcases k7 with e | e
      · rw [e]; exact hRw.2 11 j (by decide) hj (fun q => hne q.symm)
      · have := hlt j hj; omega
    have hRw3 : wRws (fup rw 11 rl2) h3.length := wRws_up hRw (by omega) (show rl2 = 98 ∨ 234 ≤ rl2 by omega) (by omega) hd1
    have hd2 : ∀ j, j < 17 → j ≠ 13 → rS2 ≠ fup rw 11 rl2 j := fun j hj hne => by
      by_cases e : j = 11
      · rw [e, fup_s]; exact k8
      · rw [fup_n _ _ e]
        rcases k16 with e2 | e2
        · rw [e2]; exact hRw.2 13 j (by decide) hj (fun q => hne q.symm)
        · have := hlt j hj; omega
    have hRw4 := wRws_up hRw3 (Nat.le_refl _) (show rS2 = 86 ∨ 234 ≤ rS2 by omega) (by omega) hd2
    have kD1 := kD_up (cp := cp) 11 n2 (by decide)
    have kD2 := kD_up (cp := fup cp 11 n2) 13 N2 (by decide)
    have kS1 := kS_up (cp := cp) 11 n2 (by decide)
    have kS2 := kS_up (cp := fup cp 11 n2) 13 N2 (by decide)
    rw [fup_n cp n2 (show 13 ≠ 11 by decide)] at kD2 kS2
    obtain ⟨rw2, hr2⟩ : ∃ x, x = fup (fup rw 11 rl2) 13 rS2 := ⟨_, rfl⟩
    obtain ⟨cp2, hc2⟩ : ∃ x, x = fup (fup cp 11 n2) 13 N2 := ⟨_, rfl⟩
    rw [← hr2] at hRw4
    rw [← hc2] at kD2 kS2
    have r2L : rw2 11 = rl2 := by rw [hr2, fup_n _ _ (by decide), fup_s]
    have r2R : rw2 13 = rS2 := by rw [hr2, fup_s]
    have r2o : ∀ i, i ≠ 11 → i ≠ 13 → rw2 i = rw i := fun i n1 n2 => by rw [hr2, fup_n _ _ n2, fup_n _ _ n1]
    have c2L : cp2 11 = n2 := by rw [hc2, fup_n _ _ (by decide), fup_s]
    have c2R : cp2 13 = N2 := by rw [hc2, fup_s]
    have c2o : ∀ i, i ≠ 11 → i ≠ 13 → cp2 i = cp i := fun i n1 n2 => by rw [hc2, fup_n _ _ n2, fup_n _ _ n1]
    have g3 : wFx (fun q => q ∈ [74, rw 11, 80, rw 13, 80 + 2, 80 + 4]) h2 h3 := f3
    have n3 : ∀ q, q ≠ 74 → q ≠ 80 → q ≠ 80 + 2 → q ≠ 80 + 4 → q ≠ rw 11 → q ≠ rw 13 → ¬ (q ∈ [74, rw 11, 80, rw 13, 80 + 2, 80 + 4]) := fun q m1 m2 m3 m4 m5 m6 hm => by
      simp only [List.mem_cons, List.not_mem_nil, or_false] at hm
      rcases hm with e | e | e | e | e | e
      · exact m1 e
      · exact m5 e
      · exact m2 e
      · exact m6 e
      · exact m3 e
      · exact m4 e
    have nk : ∀ q, q < 234 → q ≠ 74 → q ≠ 80 → q ≠ 80 + 2 → q ≠ 80 + 4 → q ≠ 98 → q ≠ 86 → ¬ (q ∈ [74, rw 11, 80, rw 13, 80 + 2, 80 + 4]) := fun q m0 m1 m2 m3 m4 m5 m6 => n3 q m1 m2 m3 m4 (by omega) (by omega)
    have hh : ∀ i, i < 17 → 58 ≤ rw i ∧ (rw i < 234 → rw i = rwH i) := fun i hi => by
      have e1 := (hRw.1 i hi).1
      have e2 : ∀ i, i < 17 → 58 ≤ rwH i := by decide
      have e3 := e2 i hi
      omega
    have nr : ∀ i, i < 17 → i ≠ 11 → i ≠ 13 → ¬ (rw i ∈ [74, rw 11, 80, rw 13, 80 + 2, 80 + 4]) := fun i hi m1 m2 => by
      have e2 : ∀ i, i < 17 → rwH i ≠ 74 ∧ rwH i ≠ 80 ∧ rwH i ≠ 80 + 2 ∧ rwH i ≠ 80 + 4 := by decide
      have e3 := e2 i hi
      have e1 := (hRw.1 i hi).1
      exact n3 _ (by omega) (by omega) (by omega) (by omega) (hRw.2 i 11 hi (by decide) m1) (hRw.2 i 13 hi (by decide) m2)
    obtain ⟨y1, y2, y3, y4, y5⟩ := hz2
    have z1 := wFx_at g3 (nk 78 (by decide) (by decide) (by decide) (by decide) (by decide) (by decide) (by decide)) y1
    have z2 : wSol h3 (rw2 0) (cp2 0) := by
      rw [r2o 0 (by decide) (by decide), c2o 0 (by decide) (by decide)]
      exact wSol_fx y2 g3 (fun q m1 m2 => nk q (by omega) (by omega) (by omega) (by omega) (by omega) (by omega) (by omega)) (nr 0 (by decide) (by decide) (by decide))
    have z5 : wRo h3 88 (rw2 14) (cp2 14) kb := by
      rw [r2o 14 (by decide) (by decide), c2o 14 (by decide) (by decide)]
      exact wRo_fx y5 g3 (fun q m1 m2 => nk q (by omega) (by omega) (by omega) (by omega) (by omega) (by omega) (by omega)) (nr 14 (by decide) (by decide) (by decide))
    have z6 : wRo h3 80 (rw2 13) (cp2 13) 1 := by
      rw [r2R, c2R]
      refine ⟨nw, _, st2, _, _, k9, k10, k11, k12, by omega, k14, fun _ => ?_⟩
      rcases k13 with e | ⟨T2, e, v1, v2⟩
      · exact Or.inl e
      · exact Or.inr (Or.inr ⟨T2, e, v1, by omega⟩)
    have z4 : wPl h3 ra so lk hd ht ll lg wy sv po 1 rw2 cp2 := by
      refine ⟨ob, 1, sr, fw2, nI (lkS (fun v => (jSL ll lg lk hd ht (po.getD v 0)).length) (fun q => (wy.getD q 0).toNatClampNeg) so), fi, hpl, lf2, lf1, to, kn, ks, fa, hp, li, ?_, ?_, ?_, ?_, hto9, ?_, ?_, ?_, ?_, ?_⟩
      · rw [r2L, r2o 12 (by decide) (by decide)]; exact k1
      · exact wFx_at g3 (nk 96 (by decide) (by decide) (by decide) (by decide) (by decide) (by decide) (by decide)) (wFx_at g (nh 96 (by decide) (by decide) (by decide)) e96)
      · exact wFx_at g3 (nk 76 (by decide) (by decide) (by decide) (by decide) (by decide) (by decide) (by decide)) (wFx_at g (nh 76 (by decide) (by decide) (by decide)) e76)
      · exact wHs_cg (wHs_fx hHs2 g3 (fun q m1 m2 => nk q (by omega) (by omega) (by omega) (by omega) (by omega) (by omega) (by omega)) (fun w hw => nr (w + 1) (by omega) (by omega) (by omega))) (fun w hw => r2o (w + 1) (by omega) (by omega)) (fun w hw => c2o (w + 1) (by omega) (by omega))
      · exact (by rw [r2L, c2L]; exact k2)
      · exact (by rw [r2o 12 (by decide) (by decide), c2o 12 (by decide) (by decide)]; exact wFx_at g3 (nr 12 (by decide) (by decide) (by decide)) (wFx_at g (nfx _ (rwh 12 (by decide)) (rw9 12 (by decide) (by decide))) eS))
      · rw [c2L]; exact k5
      · rw [c2o 12 (by decide) (by decide)]; exact c12
      · exact Or.inr ⟨rfl, rfl, ⟨b, hb, wGt_cg hg (fun w hw => c2o (w + 1) (by omega) (by omega))⟩, hob, hfi, Or.inr rfl, hsr, (fun _ => by rw [c2L]; exact ⟨k3, k4⟩), (fun hh => by rw [c2o 12 (by decide) (by decide)]; exact hs1 hh)⟩
    refine ⟨h3, d, s, rfl, h3, rw2, cp2, dc + d, ds + s, rfl, ⟨z1, z2, z4, z6, z5⟩, hRw4, wFx_tr (wFx_of f (fun q hq => Or.inl (fxs q hq))) g3 (fun q hq => Or.inl (plC_ch (Or.inl rfl) (by decide) (by decide) q hq)), ⟨fun i hi => ?_, fun i hi => ⟨r2o i (by omega) (by omega), c2o i (by omega) (by omega)⟩⟩, by omega, by omega⟩
    by_cases e : i = 11
    · rw [e, r2L]; omega
    · by_cases e2 : i = 13
      · rw [e2, r2R]; omega
      · exact Or.inl (r2o i e e2)
set_option maxHeartbeats 4000000 in
theorem c_pwM1 {h : zH} {ra sp so : Nat} {lk hd ht bl sd : Int32} {rt : Int64} {ll lg sv nm wy : List Int32} {po : List Int64} {ka kb : Int32} {rw cp : Nat → Nat} {nw : Int64} {dc ds : Nat} (hA : wArm h ra sp so lk hd ht bl sd rt ll lg sv nm wy po) (hz : wPz h ra so lk hd ht ll lg wy sv po 1 ka kb rw cp) (hRw : wRws rw h.length) (hlen : 117 ≤ h.length) : wq 27 39 [(0, .ref 74), (1, .long nw), (3, .int 1), (4, .ref 88)] [] h dc ds (fun r => ∃ (h2 : zH) (rw2 cp2 : Nat → Nat) (d s : Nat), r = (some (.ref 88), h2, d, s) ∧ wPz h2 ra so lk hd ht ll lg wy sv po 1 ka 1 rw2 cp2 ∧ wRws rw2 h2.length ∧ wFx (plC rw) h h2 ∧ wRg h.length rw cp rw2 cp2 ∧ d + kD cp ≤ dc + kD cp2 ∧ s + kS cp ≤ ds + kS cp2) := by
  obtain ⟨h78, hSol, hPl, hRa, hRb⟩ := hz
  have hA0 := hA
  obtain ⟨a1, a2, a3, a4, a5, a6, a7, hsc, hlm, hsv, hsp, hway, hra⟩ := hA0
  obtain ⟨ob, pr, sr, fw, al9, fi, hpl, lf0, lf1, to, kn, ks, fa, hp, li, e74, e96, e76, hHs, hto9, eP, eS, c11, c12, hf⟩ := hPl
  rcases hf with ⟨hw, _⟩ | ⟨_, hal, hbg, hob, hfi, hpr, hsr, hp1, hs1⟩
  · exact absurd hw (by decide)
  have hro := hRb
  have hroX := hRa
  obtain ⟨fr, tk, st, pk, cn, r1, r2, r3, r4, r5, r6, r7⟩ := hro
  have q13 : rw 14 = 94 ∨ 234 ≤ rw 14 := (hRw.1 14 (by decide)).1
  have qL : rw 12 = 100 ∨ 234 ≤ rw 12 := (hRw.1 12 (by decide)).1
  have hso := hway.1
  have rw9 : ∀ i, i < 17 → i ≠ 14 → rw i ≠ rw 14 := fun i hi hne => hRw.2 i 14 hi (by decide) hne
  have rwh : ∀ i, i < 17 → rw i ≠ 88 := fun i hi e => by
    have e1 := (hRw.1 i hi).1
    have e2 : ∀ i, i < 17 → rwH i ≠ 88 := by decide
    have e3 := e2 i hi
    omega
  have fxs : ∀ q, q ∈ [88, rw 14] → plC rw q := fun q hq => by
    rcases List.mem_cons.mp hq with e | e
    · exact Or.inr (Or.inl (by omega))
    · exact Or.inr (Or.inr ⟨14, by decide, List.mem_singleton.mp e⟩)
  have nfx : ∀ q, q ≠ 88 → q ≠ rw 14 → ¬ (q ∈ [88, rw 14]) := fun q n1 n2 hm => by
    rcases List.mem_cons.mp hm with e | e
    · exact n1 e
    · exact n2 (List.mem_singleton.mp e)
  have mid : ∀ h2 : zH, wFr [88, rw 14] h h2 → h2.length = h.length → zat h2 88 = some (.inr (.inr (.inr (6, [.int 1, .long nw, .int ob, .ref 90, .ref 92, .ref (rw 14)])))) → zat h2 (rw 14) = some (.inr (.inl (cp 14, zset 0 st 0 nw))) → wPz h2 ra so lk hd ht ll lg wy sv po 1 ka 1 rw cp := fun h2 f l c1 c2 => by
    have g : wFx (fun q => q ∈ [88, rw 14]) h h2 := f
    have nh : ∀ q, q < 234 → q ≠ 88 → q ≠ 94 → ¬ (q ∈ [88, rw 14]) := fun q n0 n1 n2 => nfx q n1 (by omega)
    have z1 := wFx_at g (nh 78 (by decide) (by decide) (by decide)) h78
    have z2 := wSol_fx hSol g (fun q n1 n2 => nh q (by omega) (by omega) (by omega)) (nfx _ (rwh 0 (by decide)) (rw9 0 (by decide) (by decide)))
    have z3 : wPl h ra so lk hd ht ll lg wy sv po 1 rw cp := ⟨ob, pr, sr, fw, al9, fi, hpl, lf0, lf1, to, kn, ks, fa, hp, li, e74, e96, e76, hHs, hto9, eP, eS, c11, c12, Or.inr ⟨rfl, hal, hbg, hob, hfi, hpr, hsr, hp1, hs1⟩⟩
    have z4 := wPl_fx z3 g (fun q n1 n2 => nh q (by omega) (by omega) (by omega)) (nh 74 (by decide) (by decide) (by decide)) (nh 96 (by decide) (by decide) (by decide)) (nh 76 (by decide) (by decide) (by decide)) (fun i hi => nfx _ (rwh i (by omega)) (rw9 i (by omega) (by omega)))
    have z5 := wRo_fx hroX g (fun q n1 n2 => nh q (by omega) (by omega) (by omega)) (nfx _ (rwh 13 (by decide)) (rw9 13 (by decide) (by decide)))
    have z6 : wRo h2 88 (rw 14) (cp 14) 1 := ⟨nw, ob, zset 0 st 0 nw, pk, cn, c1, c2, wFx_at g (nh _ (by decide) (by decide) (by decide)) r3, wFx_at g (nh _ (by decide) (by decide) (by decide)) r4, r5, r6, fun _ => wTk_ob hob r5⟩
    exact ⟨z1, z2, z4, z5, z6⟩
  refine c_pwC (rr := 88) e74 a1 r1 r2 hra hway.1 ⟨r5, by omega, by omega⟩ (Or.inr rfl) (by omega) ?_ ?_
  · intro h2 f l c0 c1 c2
    exact ⟨h2, rw, cp, dc, ds, rfl, mid h2 f l c1 c2, wRws_le hRw (by omega), wFx_of f (fun q hq => Or.inl (fxs q hq)), wRg_rf _ _ _, Nat.le_refl _, Nat.le_refl _⟩
  · intro h2 f l c0 c1 c2 p0 p1
    have hz2 := mid h2 f l c1 c2
    have g : wFx (fun q => q ∈ [88, rw 14]) h h2 := f
    have nh : ∀ q, q < 234 → q ≠ 88 → q ≠ 94 → ¬ (q ∈ [88, rw 14]) := fun q n0 n1 n2 => nfx q n1 (by omega)
    have hA2 := wArm_fx hA g (fun q n1 n2 => nh q (by omega) (by omega) (by omega))
    obtain ⟨b, hb, hg⟩ := hbg
    have hHs2 := wHs_fx hHs g (fun q n1 n2 => nh q (by omega) (by omega) (by omega)) (fun w hw => nfx _ (rwh (w + 1) (by omega)) (rw9 (w + 1) (by omega) (by omega)))
    have hal6 : lkS (fun v => (jSL ll lg lk hd ht (po.getD v 0)).length) (fun q => (wy.getD q 0).toNatClampNeg) so ≤ 6000 := by have := lkS_le (fun v => (jSL ll lg lk hd ht (po.getD v 0)).length) (fun q => (wy.getD q 0).toNatClampNeg) so; omega
    have hA3 := hA2
    obtain ⟨a1', a2', a3', a4', a5', a6', a7', _, _, _, _, _, _⟩ := hA3
    subst hal
    refine c_pwD (ls := []) c0 (wq_mono (c_cho1 (h := h2) (S := lkS (fun v => (jSL ll lg lk hd ht (po.getD v 0)).length) (fun q => (wy.getD q 0).toNatClampNeg)) hra hsp p1 hway hsv (pl_hto hHs hway hsp hb hg hob p0 hfi) ⟨hal6, c12⟩ qL (fun w hw => (hRw.2 (w + 1) 12 (by omega) (by decide) (by omega)).symm) (by omega) hsr hs1 ⟨r5, r6⟩ ⟨Or.inr rfl, q13⟩ (fun w hw => (hRw.2 (w + 1) 14 (by omega) (by decide) (by omega)).symm) (hRw.2 14 12 (by decide) (by decide) (by decide)) (wAc_arm hA2 hz2.1) a4' hHs2 (wFx_at g (nh 96 (by decide) (by decide) (by decide)) e96) (wFx_at g (nfx _ (rwh 12 (by decide)) (rw9 12 (by decide) (by decide))) eS) c0 (by rw [p0] at c1; exact c1) c2 (wFx_at g (nh _ (by decide) (by decide) (by decide)) r3) (wFx_at g (nh _ (by decide) (by decide) (by decide)) r4)) ?_)
    rintro _ ⟨h3, rS2, N2, rl2, n2, d, s, fw2, st2, lf2, rfl, f3, k1, k2, k3, k4, k5, k6, k7, k8, k9, k10, k11, k12, k13, k14, k15, k16, k17, k18⟩
    have hlt : ∀ i, i < 17 → rw i < 2 * h2.length := fun i hi => by rw [l]; exact (hRw.1 i hi).2
    have u1 := zat_lt k2
    have u2 := zat_lt k10
    have f3l := f3.1
    have hd1 : ∀ j, j < 17 → j ≠ 12 → rl2 ≠ rw j := fun j hj hne => by
      rcases k7 with e | e
      · rw [e]; exact hRw.2 12 j (by decide) hj (fun q => hne q.symm)
      · have := hlt j hj; omega
    have hRw3 : wRws (fup rw 12 rl2) h3.length := wRws_up hRw (by omega) (show rl2 = 100 ∨ 234 ≤ rl2 by omega) (by omega) hd1
    have hd2 : ∀ j, j < 17 → j ≠ 14 → rS2 ≠ fup rw 12 rl2 j := fun j hj hne => by
      by_cases e : j = 12
      · rw [e, fup_s]; exact k8
      · rw [fup_n _ _ e]
        rcases k16 with e2 | e2
        · rw [e2]; exact hRw.2 14 j (by decide) hj (fun q => hne q.symm)
        · have := hlt j hj; omega
    have hRw4 := wRws_up hRw3 (Nat.le_refl _) (show rS2 = 94 ∨ 234 ≤ rS2 by omega) (by omega) hd2
    have kD1 := kD_up (cp := cp) 12 n2 (by decide)
    have kD2 := kD_up (cp := fup cp 12 n2) 14 N2 (by decide)
    have kS1 := kS_up (cp := cp) 12 n2 (by decide)
    have kS2 := kS_up (cp := fup cp 12 n2) 14 N2 (by decide)
    rw [fup_n cp n2 (show 14 ≠ 12 by decide)] at kD2 kS2
    obtain ⟨rw2, hr2⟩ : ∃ x, x = fup (fup rw 12 rl2) 14 rS2 := ⟨_, rfl⟩
    obtain ⟨cp2, hc2⟩ : ∃ x, x = fup (fup cp 12 n2) 14 N2 := ⟨_, rfl⟩
    rw [← hr2] at hRw4
    rw [← hc2] at kD2 kS2
    have r2L : rw2 12 = rl2 := by rw [hr2, fup_n _ _ (by decide), fup_s]
    have r2R : rw2 14 = rS2 := by rw [hr2, fup_s]
    have r2o : ∀ i, i ≠ 12 → i ≠ 14 → rw2 i = rw i := fun i n1 n2 => by rw [hr2, fup_n _ _ n2, fup_n _ _ n1]
    have c2L : cp2 12 = n2 := by rw [hc2, fup_n _ _ (by decide), fup_s]
    have c2R : cp2 14 = N2 := by rw [hc2, fup_s]
    have c2o : ∀ i, i ≠ 12 → i ≠ 14 → cp2 i = cp i := fun i n1 n2 => by rw [hc2, fup_n _ _ n2, fup_n _ _ n1]
    have g3 : wFx (fun q => q ∈ [74, rw 12, 88, rw 14, 88 + 2, 88 + 4]) h2 h3 := f3
    have n3 : ∀ q, q ≠ 74 → q ≠ 88 → q ≠ 88 + 2 → q ≠ 88 + 4 → q ≠ rw 12 → q ≠ rw 14 → ¬ (q ∈ [74, rw 12, 88, rw 14, 88 + 2, 88 + 4]) := fun q m1 m2 m3 m4 m5 m6 hm => by
      simp only [List.mem_cons, List.not_mem_nil, or_false] at hm
      rcases hm with e | e | e | e | e | e
      · exact m1 e
      · exact m5 e
      · exact m2 e
      · exact m6 e
      · exact m3 e
      · exact m4 e
    have nk : ∀ q, q < 234 → q ≠ 74 → q ≠ 88 → q ≠ 88 + 2 → q ≠ 88 + 4 → q ≠ 100 → q ≠ 94 → ¬ (q ∈ [74, rw 12, 88, rw 14, 88 + 2, 88 + 4]) := fun q m0 m1 m2 m3 m4 m5 m6 => n3 q m1 m2 m3 m4 (by omega) (by omega)
    have hh : ∀ i, i < 17 → 58 ≤ rw i ∧ (rw i < 234 → rw i = rwH i) := fun i hi => by
      have e1 := (hRw.1 i hi).1
      have e2 : ∀ i, i < 17 → 58 ≤ rwH i := by decide
      have e3 := e2 i hi
      omega
    have nr : ∀ i, i < 17 → i ≠ 12 → i ≠ 14 → ¬ (rw i ∈ [74, rw 12, 88, rw 14, 88 + 2, 88 + 4]) := fun i hi m1 m2 => by
      have e2 : ∀ i, i < 17 → rwH i ≠ 74 ∧ rwH i ≠ 88 ∧ rwH i ≠ 88 + 2 ∧ rwH i ≠ 88 + 4 := by decide
      have e3 := e2 i hi
      have e1 := (hRw.1 i hi).1
      exact n3 _ (by omega) (by omega) (by omega) (by omega) (hRw.2 i 12 hi (by decide) m1) (hRw.2 i 14 hi (by decide) m2)
    obtain ⟨y1, y2, y3, y4, y5⟩ := hz2
    have z1 := wFx_at g3 (nk 78 (by decide) (by decide) (by decide) (by decide) (by decide) (by decide) (by decide)) y1
    have z2 : wSol h3 (rw2 0) (cp2 0) := by
      rw [r2o 0 (by decide) (by decide), c2o 0 (by decide) (by decide)]
      exact wSol_fx y2 g3 (fun q m1 m2 => nk q (by omega) (by omega) (by omega) (by omega) (by omega) (by omega) (by omega)) (nr 0 (by decide) (by decide) (by decide))
    have z5 : wRo h3 80 (rw2 13) (cp2 13) ka := by
      rw [r2o 13 (by decide) (by decide), c2o 13 (by decide) (by decide)]
      exact wRo_fx y4 g3 (fun q m1 m2 => nk q (by omega) (by omega) (by omega) (by omega) (by omega) (by omega) (by omega)) (nr 13 (by decide) (by decide) (by decide))
    have z6 : wRo h3 88 (rw2 14) (cp2 14) 1 := by
      rw [r2R, c2R]
      refine ⟨nw, _, st2, _, _, k9, k10, k11, k12, by omega, k14, fun _ => ?_⟩
      rcases k13 with e | ⟨T2, e, v1, v2⟩
      · exact Or.inl e
      · exact Or.inr (Or.inr ⟨T2, e, v1, by omega⟩)
    have z4 : wPl h3 ra so lk hd ht ll lg wy sv po 1 rw2 cp2 := by
      refine ⟨ob, pr, 1, fw2, nI (lkS (fun v => (jSL ll lg lk hd ht (po.getD v 0)).length) (fun q => (wy.getD q 0).toNatClampNeg) so), fi, hpl, lf0, lf2, to, kn, ks, fa, hp, li, ?_, ?_, ?_, ?_, hto9, ?_, ?_, ?_, ?_, ?_⟩
      · rw [r2L, r2o 11 (by decide) (by decide)]; exact k1
      · exact wFx_at g3 (nk 96 (by decide) (by decide) (by decide) (by decide) (by decide) (by decide) (by decide)) (wFx_at g (nh 96 (by decide) (by decide) (by decide)) e96)
      · exact wFx_at g3 (nk 76 (by decide) (by decide) (by decide) (by decide) (by decide) (by decide) (by decide)) (wFx_at g (nh 76 (by decide) (by decide) (by decide)) e76)
      · exact wHs_cg (wHs_fx hHs2 g3 (fun q m1 m2 => nk q (by omega) (by omega) (by omega) (by omega) (by omega) (by omega) (by omega)) (fun w hw => nr (w + 1) (by omega) (by omega) (by omega))) (fun w hw => r2o (w + 1) (by omega) (by omega)) (fun w hw => c2o (w + 1) (by omega) (by omega))
      · exact (by rw [r2o 11 (by decide) (by decide), c2o 11 (by decide) (by decide)]; exact wFx_at g3 (nr 11 (by decide) (by decide) (by decide)) (wFx_at g (nfx _ (rwh 11 (by decide)) (rw9 11 (by decide) (by decide))) eP))
      · exact (by rw [r2L, c2L]; exact k2)
      · rw [c2o 11 (by decide) (by decide)]; exact c11
      · rw [c2L]; exact k5
      · exact Or.inr ⟨rfl, rfl, ⟨b, hb, wGt_cg hg (fun w hw => c2o (w + 1) (by omega) (by omega))⟩, hob, hfi, hpr, Or.inr rfl, (fun hh => by rw [c2o 11 (by decide) (by decide)]; exact hp1 hh), (fun _ => by rw [c2L]; exact ⟨k3, k4⟩)⟩
    refine ⟨h3, d, s, rfl, h3, rw2, cp2, dc + d, ds + s, rfl, ⟨z1, z2, z4, z5, z6⟩, hRw4, wFx_tr (wFx_of f (fun q hq => Or.inl (fxs q hq))) g3 (fun q hq => Or.inl (plC_ch (Or.inr rfl) (by decide) (by decide) q hq)), ⟨fun i hi => ?_, fun i hi => ⟨r2o i (by omega) (by omega), c2o i (by omega) (by omega)⟩⟩, by omega, by omega⟩
    by_cases e : i = 12
    · rw [e, r2L]; omega
    · by_cases e2 : i = 14
      · rw [e2, r2R]; omega
      · exact Or.inl (r2o i e e2)
