/-! The class: plan at every state. -/
theorem wSol_lt {h : zH} {rv sc : Nat} (k : wSol h rv sc) : rv < 2 * h.length := by
  obtain ⟨v0, v1, nf, tg, sh, el, wr, ou, bh, so1, a1, a2, a3, a4, a5, a6, a7, a8, a9, a10⟩ := k
  exact zat_lt a8
/-- rows of the look-up, the others as they were -/
noncomputable def lkR {α : Type} (x : α) (f g : Nat → α) : Nat → α := fun i => if i = 0 then x else if i < 9 then f (i - 1) else g i
theorem lkR_0 {α : Type} (x : α) (f g : Nat → α) : lkR x f g 0 = x := if_pos rfl
theorem lkR_s {α : Type} (x : α) (f g : Nat → α) (w : Nat) (hw : w < 8) : lkR x f g (w + 1) = f w := by
  unfold lkR
  rw [if_neg (by omega), if_pos (by omega)]
  rfl
theorem lkR_o {α : Type} (x : α) (f g : Nat → α) (i : Nat) (hi : 9 ≤ i) : lkR x f g i = g i := by
  unfold lkR
  rw [if_neg (by omega), if_neg (by omega)]
theorem lkF_in {rw : Nat → Nat} : ∀ q ∈ lkF (rw 0) (fun w => rw (w + 1)), (44 ≤ q ∧ q < 58) ∨ q = 74 ∨ q = 76 ∨ q = 96 ∨ (102 ≤ q ∧ q < 150) ∨ (∃ i, i < 9 ∧ q = rw i) := by
  intro q hq
  unfold lkF at hq
  rcases List.mem_append.mp hq with a | a
  · have e : ∀ q ∈ [74, 96, 76, 44, 46, 48, 50, 52, 54, 56, 102, 106, 108, 112, 114, 118, 120, 124, 126, 130, 132, 136, 138, 142, 144, 148], (44 ≤ q ∧ q < 58) ∨ q = 74 ∨ q = 76 ∨ q = 96 ∨ (102 ≤ q ∧ q < 150) := by decide
    rcases e q a with b | b | b | b | b
    · exact Or.inl b
    · exact Or.inr (Or.inl b)
    · exact Or.inr (Or.inr (Or.inl b))
    · exact Or.inr (Or.inr (Or.inr (Or.inl b)))
    · exact Or.inr (Or.inr (Or.inr (Or.inr (Or.inl b))))
  · rcases List.mem_cons.mp a with b | b
    · exact Or.inr (Or.inr (Or.inr (Or.inr (Or.inr ⟨0, by decide, b⟩))))
    · obtain ⟨w, hw, e⟩ := List.mem_map.mp b
      have := List.mem_range.mp hw
      exact Or.inr (Or.inr (Or.inr (Or.inr (Or.inr ⟨w + 1, by omega, e.symm⟩))))
theorem lkF_no {rw : Nat → Nat} {n : Nat} (k : wRws rw n) {q : Nat} (h : q < 44 ∨ (60 ≤ q ∧ q < 74) ∨ (78 ≤ q ∧ q < 96) ∨ (98 ≤ q ∧ q < 102) ∨ (150 ≤ q ∧ q < 234)) : ¬ (q ∈ lkF (rw 0) (fun w => rw (w + 1))) := by
  intro hm
  rcases lkF_in q hm with a | a | a | a | a | ⟨i, hi, a⟩
  · omega
  · omega
  · omega
  · omega
  · omega
  · have e1 := (k.1 i (by omega)).1
    have e2 : ∀ i, i < 9 → (44 ≤ rwH i ∧ rwH i < 60) ∨ (102 ≤ rwH i ∧ rwH i < 150) := by decide
    have e3 := e2 i hi
    omega
theorem lkF_nr {rw : Nat → Nat} {n : Nat} (k : wRws rw n) {j : Nat} (h : 9 ≤ j ∧ j < 17) : ¬ (rw j ∈ lkF (rw 0) (fun w => rw (w + 1))) := by
  have e1 := (k.1 j h.2).1
  have e2 : ∀ j, j < 17 → 9 ≤ j → ¬ (44 ≤ rwH j ∧ rwH j < 58) ∧ rwH j ≠ 74 ∧ rwH j ≠ 76 ∧ rwH j ≠ 96 ∧ ¬ (102 ≤ rwH j ∧ rwH j < 150) := by decide
  have e3 := e2 j h.2 h.1
  intro hm
  rcases lkF_in _ hm with a | a | a | a | a | ⟨i, hi, a⟩
  · omega
  · omega
  · omega
  · omega
  · omega
  · exact k.2 j i h.2 (by omega) (by omega) a
theorem kD_lk (cp : Nat → Nat) (x : Nat) (f : Nat → Nat) : kD (lkR x f cp) + capS (fun w => cp (w + 1)) + cp 0 = kD cp + capS f + x := by
  have e : capS (fun w => lkR x f cp (w + 1)) = capS f := rfl
  unfold kD
  rw [e, lkR_0, lkR_o _ _ _ 9 (by decide), lkR_o _ _ _ 10 (by decide), lkR_o _ _ _ 11 (by decide), lkR_o _ _ _ 12 (by decide), lkR_o _ _ _ 13 (by decide), lkR_o _ _ _ 14 (by decide), lkR_o _ _ _ 15 (by decide), lkR_o _ _ _ 16 (by decide)]
  omega
theorem kS_lk (cp : Nat → Nat) (x : Nat) (f : Nat → Nat) : kS (lkR x f cp) + 600 * (capS (fun w => cp (w + 1)) + cp 0) = kS cp + 600 * (capS f + x) := by
  have e : capS (fun w => lkR x f cp (w + 1)) = capS f := rfl
  unfold kS
  rw [e, lkR_0, lkR_o _ _ _ 9 (by decide), lkR_o _ _ _ 10 (by decide), lkR_o _ _ _ 11 (by decide), lkR_o _ _ _ 12 (by decide), lkR_o _ _ _ 13 (by decide), lkR_o _ _ _ 14 (by decide), lkR_o _ _ _ 15 (by decide), lkR_o _ _ _ 16 (by decide)]
  omega
theorem wRws_lk {rw : Nat → Nat} {n n2 rv : Nat} {rL : Nat → Nat} (k : wRws rw n) (hn : n ≤ n2) (h117 : 117 ≤ n) (h1 : rv = rw 0 ∨ 2 * n ≤ rv) (h2 : ∀ w, w < 8 → rL w = rw (w + 1) ∨ 2 * n ≤ rL w) (h3 : wHn rv rL) (h4 : rv < 2 * n2) (h5 : ∀ w, w < 8 → rL w < 2 * n2) : wRws (lkR rv rL rw) n2 := by
  have v : ∀ i, i < 9 → (lkR rv rL rw i = rw i ∨ 2 * n ≤ lkR rv rL rw i) ∧ lkR rv rL rw i < 2 * n2 := by
    intro i hi
    rcases i with _ | w
    · rw [lkR_0]; exact ⟨h1, h4⟩
    · rw [lkR_s _ _ _ w (by omega)]; exact ⟨h2 w (by omega), h5 w (by omega)⟩
  have dd : ∀ i j, i < 9 → 9 ≤ j → j < 17 → lkR rv rL rw i ≠ rw j := by
    intro i j hi h9 hj
    rcases (v i hi).1 with e | e
    · rw [e]; exact k.2 i j (by omega) hj (by omega)
    · have := (k.1 j hj).2; omega
  refine ⟨fun i hi => ?_, fun i j hi hj hij => ?_⟩
  · by_cases h9 : i < 9
    · have a := v i h9
      have b := (k.1 i hi).1
      refine ⟨?_, a.2⟩
      rcases a.1 with e | e
      · rw [e]; exact b
      · exact Or.inr (by omega)
    · rw [lkR_o _ _ _ i (by omega)]
      exact ⟨(k.1 i hi).1, by have := (k.1 i hi).2; omega⟩
  · by_cases a9 : i < 9
    · by_cases b9 : j < 9
      · rcases i with _ | w
        · rcases j with _ | u
          · exact absurd rfl hij
          · rw [lkR_0, lkR_s _ _ _ u (by omega)]; exact (h3 u (by omega)).1
        · rcases j with _ | u
          · rw [lkR_0, lkR_s _ _ _ w (by omega)]; exact fun q => (h3 w (by omega)).1 q.symm
          · rw [lkR_s _ _ _ w (by omega), lkR_s _ _ _ u (by omega)]; exact (h3 w (by omega)).2 u (by omega) (by omega)
      · rw [lkR_o _ _ _ j (by omega)]; exact dd i j a9 (by omega) hj
    · by_cases b9 : j < 9
      · rw [lkR_o _ _ _ i (by omega)]; exact fun q => dd j i b9 (by omega) hi q.symm
      · rw [lkR_o _ _ _ i (by omega), lkR_o _ _ _ j (by omega)]; exact k.2 i j hi hj hij
set_option maxHeartbeats 4000000 in
theorem c_plan0 {h : zH} {ra sp so : Nat} {lk hd ht bl sd : Int32} {rt : Int64} {ll lg sv nm wy : List Int32} {po : List Int64} {wg ka kb : Int32} {rw cp : Nat → Nat} {nw : Int64} (hA : wArm h ra sp so lk hd ht bl sd rt ll lg sv nm wy po) (hz : wPz h ra so lk hd ht ll lg wy sv po wg ka kb rw cp) (hRw : wRws rw h.length) (hlen : 117 ≤ h.length) : wq 27 0 [(0, .ref 74), (1, .long nw), (3, .int 0)] [] h 0 0 (fun r => ∃ (h2 : zH) (rw2 cp2 : Nat → Nat) (wg2 kx : Int32) (d s : Nat), r = (some (.ref 80), h2, d, s) ∧ kx ≠ 0 ∧ wPz h2 ra so lk hd ht ll lg wy sv po wg2 kx kb rw2 cp2 ∧ wRws rw2 h2.length ∧ wFx (plC rw) h h2 ∧ wRg h.length rw cp rw2 cp2 ∧ d + kD cp ≤ kD cp2 ∧ s + kS cp ≤ kS cp2) := by
  have hz0 := hz
  obtain ⟨h78, hSol, hPl, hRa, hRb⟩ := hz0
  have hA0 := hA
  obtain ⟨a1, a2, a3, a4, a5, a6, a7, hsc, hlm, hsv, hsp, hway, hra⟩ := hA0
  have hPl0 := hPl
  obtain ⟨ob, pr, sr, fw, al9, fi, hpl, lf0, lf1, to, kn, ks, fa, hp, li, e74, e96, e76, hHs, hto9, eP, eS, c11, c12, hf⟩ := hPl0
  have hro := hRa
  obtain ⟨fr, tk, st, pk, cn, r1, r2, r3, r4, r5, r6, r7⟩ := hro
  refine c_pwA0 e74 r1 ?_ ?_
  · intro p
    exact ⟨h, rw, cp, wg, ka, 0, 0, rfl, p, hz, hRw, wFx_rf _ _, wRg_rf _ _ _, Nat.le_of_eq (Nat.zero_add _), Nat.le_of_eq (Nat.zero_add _)⟩
  · refine c_pwB (ls := []) e74 ?_
    rcases hf with ⟨hw, hp0, hs0⟩ | ⟨hw, hf⟩
    · have hHn : wHn (rw 0) (fun w => rw (w + 1)) := fun w hw => ⟨hRw.2 0 (w + 1) (by decide) (by omega) (by omega), fun v hv hne => hRw.2 (w + 1) (v + 1) (by omega) (by omega) (by omega)⟩
      refine wq_mono (c_look hra hsp hsc hlm hway hw hto9 hlen (wAc_arm hA h78) e74 e96 e76 hSol hHs hHn) ?_
      rintro _ ⟨h2, b2, ob2, fi2, hpl2, to2, rL2, cap2, kn2, ks2, fa2, hp2, li2, rv2, sc2, d, s, rfl, f, k1, k2, k3, k4, k5, k6, k7, k8, k9, k10, k11, k12, k13, k14, k15, k16, k17, k18⟩
      refine ⟨h2, d, s, rfl, ?_⟩
      rw [Nat.zero_add, Nat.zero_add]
      have g : wFx (fun q => q ∈ lkF (rw 0) (fun w => rw (w + 1))) h h2 := f
      have fl := f.1
      have hRw1 : wRws (lkR rv2 rL2 rw) h2.length := wRws_lk hRw fl hlen k13 k14 k7 (wSol_lt k5) (fun w hw => zat_lt (k6 w hw).2.2.1)
      have hA2 := wArm_fx hA g (fun q n1 n2 => lkF_no hRw (by omega))
      have z1 := wFx_at g (lkF_no hRw (by omega)) h78
      have hz2 : wPz h2 ra so lk hd ht ll lg wy sv po 1 ka kb (lkR rv2 rL2 rw) (lkR sc2 cap2 cp) := by
        refine ⟨z1, ?_, ?_, ?_, ?_⟩
        · rw [lkR_0, lkR_0]; exact k5
        · refine ⟨ob2, pr, sr, fw, nI (lkS (fun v => (jSL ll lg lk hd ht (po.getD v 0)).length) (fun q => (wy.getD q 0).toNatClampNeg) so), fi2, hpl2, lf0, lf1, to2, kn2, ks2, fa2, hp2, li2, ?_, k3, k4, ?_, k10, ?_, ?_, ?_, ?_, ?_⟩
          · rw [lkR_o _ _ _ 11 (by decide), lkR_o _ _ _ 12 (by decide)]; exact k2
          · exact wHs_cg k6 (fun w hw => lkR_s _ _ _ w hw) (fun w hw => lkR_s _ _ _ w hw)
          · rw [lkR_o _ _ _ 11 (by decide), lkR_o _ _ _ 11 (by decide)]; exact wFx_at g (lkF_nr hRw (by decide)) eP
          · rw [lkR_o _ _ _ 12 (by decide), lkR_o _ _ _ 12 (by decide)]; exact wFx_at g (lkF_nr hRw (by decide)) eS
          · rw [lkR_o _ _ _ 11 (by decide)]; exact c11
          · rw [lkR_o _ _ _ 12 (by decide)]; exact c12
          · exact Or.inr ⟨rfl, rfl, ⟨b2, k8, wGt_cg k9 (fun w hw => lkR_s _ _ _ w hw)⟩, k11, k12, Or.inl hp0, Or.inl hs0, fun hh => absurd hp0 hh, fun hh => absurd hs0 hh⟩
        · rw [lkR_o _ _ _ 13 (by decide), lkR_o _ _ _ 13 (by decide)]; exact wRo_fx hRa g (fun q n1 n2 => lkF_no hRw (by omega)) (lkF_nr hRw (by decide))
        · rw [lkR_o _ _ _ 14 (by decide), lkR_o _ _ _ 14 (by decide)]; exact wRo_fx hRb g (fun q n1 n2 => lkF_no hRw (by omega)) (lkF_nr hRw (by decide))
      have hg : wRg h.length rw cp (lkR rv2 rL2 rw) (lkR sc2 cap2 cp) := by
        refine ⟨fun i hi => ?_, fun i hi => ⟨lkR_o _ _ _ i (by omega), lkR_o _ _ _ i (by omega)⟩⟩
        by_cases h9 : i < 9
        · rcases i with _ | w
          · rw [lkR_0]; exact k13
          · rw [lkR_s _ _ _ w (by omega)]; exact k14 w (by omega)
        · exact Or.inl (lkR_o _ _ _ i (by omega))
      have q1 := kD_lk cp sc2 cap2
      have q2 := kS_lk cp sc2 cap2
      refine wq_mono (c_pwM0 hA2 hz2 hRw1 (Nat.le_trans hlen fl)) ?_
      rintro _ ⟨h3, rw3, cp3, d3, s3, rfl, m1, m2, m3, m4, m5, m6⟩
      exact ⟨h3, rw3, cp3, 1, 1, d3, s3, rfl, by decide, m1, m2, wFx_tr (wFx_of f (fun q hq => Or.inl (lkF_pl q hq))) m3 (plC_tr hg), wRg_tr hg m4 fl, by omega, by omega⟩
    · subst hw
      refine wq_mono (c_pwL e74 (by decide)) ?_
      rintro _ rfl
      refine ⟨h, 0, 0, rfl, ?_⟩
      show wq 27 39 [(0, .ref 74), (1, .long nw), (3, .int 0), (4, .ref 80)] [] h 0 0 _
      refine wq_mono (c_pwM0 hA hz hRw hlen) ?_
      rintro _ ⟨h3, rw3, cp3, d3, s3, rfl, m1, m2, m3, m4, m5, m6⟩
      exact ⟨h3, rw3, cp3, 1, 1, d3, s3, rfl, by decide, m1, m2, m3, m4, by omega, by omega⟩
set_option maxHeartbeats 4000000 in
theorem c_plan1 {h : zH} {ra sp so : Nat} {lk hd ht bl sd : Int32} {rt : Int64} {ll lg sv nm wy : List Int32} {po : List Int64} {wg ka kb : Int32} {rw cp : Nat → Nat} {nw : Int64} (hA : wArm h ra sp so lk hd ht bl sd rt ll lg sv nm wy po) (hz : wPz h ra so lk hd ht ll lg wy sv po wg ka kb rw cp) (hRw : wRws rw h.length) (hlen : 117 ≤ h.length) : wq 27 0 [(0, .ref 74), (1, .long nw), (3, .int 1)] [] h 0 0 (fun r => ∃ (h2 : zH) (rw2 cp2 : Nat → Nat) (wg2 kx : Int32) (d s : Nat), r = (some (.ref 88), h2, d, s) ∧ kx ≠ 0 ∧ wPz h2 ra so lk hd ht ll lg wy sv po wg2 ka kx rw2 cp2 ∧ wRws rw2 h2.length ∧ wFx (plC rw) h h2 ∧ wRg h.length rw cp rw2 cp2 ∧ d + kD cp ≤ kD cp2 ∧ s + kS cp ≤ kS cp2) := by
  have hz0 := hz
  obtain ⟨h78, hSol, hPl, hRa, hRb⟩ := hz0
  have hA0 := hA
  obtain ⟨a1, a2, a3, a4, a5, a6, a7, hsc, hlm, hsv, hsp, hway, hra⟩ := hA0
  have hPl0 := hPl
  obtain ⟨ob, pr, sr, fw, al9, fi, hpl, lf0, lf1, to, kn, ks, fa, hp, li, e74, e96, e76, hHs, hto9, eP, eS, c11, c12, hf⟩ := hPl0
  have hro := hRb
  obtain ⟨fr, tk, st, pk, cn, r1, r2, r3, r4, r5, r6, r7⟩ := hro
  refine c_pwA1 e74 r1 ?_ ?_
  · intro p
    exact ⟨h, rw, cp, wg, kb, 0, 0, rfl, p, hz, hRw, wFx_rf _ _, wRg_rf _ _ _, Nat.le_of_eq (Nat.zero_add _), Nat.le_of_eq (Nat.zero_add _)⟩
  · refine c_pwB (ls := []) e74 ?_
    rcases hf with ⟨hw, hp0, hs0⟩ | ⟨hw, hf⟩
    · have hHn : wHn (rw 0) (fun w => rw (w + 1)) := fun w hw => ⟨hRw.2 0 (w + 1) (by decide) (by omega) (by omega), fun v hv hne => hRw.2 (w + 1) (v + 1) (by omega) (by omega) (by omega)⟩
      refine wq_mono (c_look hra hsp hsc hlm hway hw hto9 hlen (wAc_arm hA h78) e74 e96 e76 hSol hHs hHn) ?_
      rintro _ ⟨h2, b2, ob2, fi2, hpl2, to2, rL2, cap2, kn2, ks2, fa2, hp2, li2, rv2, sc2, d, s, rfl, f, k1, k2, k3, k4, k5, k6, k7, k8, k9, k10, k11, k12, k13, k14, k15, k16, k17, k18⟩
      refine ⟨h2, d, s, rfl, ?_⟩
      rw [Nat.zero_add, Nat.zero_add]
      have g : wFx (fun q => q ∈ lkF (rw 0) (fun w => rw (w + 1))) h h2 := f
      have fl := f.1
      have hRw1 : wRws (lkR rv2 rL2 rw) h2.length := wRws_lk hRw fl hlen k13 k14 k7 (wSol_lt k5) (fun w hw => zat_lt (k6 w hw).2.2.1)
      have hA2 := wArm_fx hA g (fun q n1 n2 => lkF_no hRw (by omega))
      have z1 := wFx_at g (lkF_no hRw (by omega)) h78
      have hz2 : wPz h2 ra so lk hd ht ll lg wy sv po 1 ka kb (lkR rv2 rL2 rw) (lkR sc2 cap2 cp) := by
        refine ⟨z1, ?_, ?_, ?_, ?_⟩
        · rw [lkR_0, lkR_0]; exact k5
        · refine ⟨ob2, pr, sr, fw, nI (lkS (fun v => (jSL ll lg lk hd ht (po.getD v 0)).length) (fun q => (wy.getD q 0).toNatClampNeg) so), fi2, hpl2, lf0, lf1, to2, kn2, ks2, fa2, hp2, li2, ?_, k3, k4, ?_, k10, ?_, ?_, ?_, ?_, ?_⟩
          · rw [lkR_o _ _ _ 11 (by decide), lkR_o _ _ _ 12 (by decide)]; exact k2
          · exact wHs_cg k6 (fun w hw => lkR_s _ _ _ w hw) (fun w hw => lkR_s _ _ _ w hw)
          · rw [lkR_o _ _ _ 11 (by decide), lkR_o _ _ _ 11 (by decide)]; exact wFx_at g (lkF_nr hRw (by decide)) eP
          · rw [lkR_o _ _ _ 12 (by decide), lkR_o _ _ _ 12 (by decide)]; exact wFx_at g (lkF_nr hRw (by decide)) eS
          · rw [lkR_o _ _ _ 11 (by decide)]; exact c11
          · rw [lkR_o _ _ _ 12 (by decide)]; exact c12
          · exact Or.inr ⟨rfl, rfl, ⟨b2, k8, wGt_cg k9 (fun w hw => lkR_s _ _ _ w hw)⟩, k11, k12, Or.inl hp0, Or.inl hs0, fun hh => absurd hp0 hh, fun hh => absurd hs0 hh⟩
        · rw [lkR_o _ _ _ 13 (by decide), lkR_o _ _ _ 13 (by decide)]; exact wRo_fx hRa g (fun q n1 n2 => lkF_no hRw (by omega)) (lkF_nr hRw (by decide))
        · rw [lkR_o _ _ _ 14 (by decide), lkR_o _ _ _ 14 (by decide)]; exact wRo_fx hRb g (fun q n1 n2 => lkF_no hRw (by omega)) (lkF_nr hRw (by decide))
      have hg : wRg h.length rw cp (lkR rv2 rL2 rw) (lkR sc2 cap2 cp) := by
        refine ⟨fun i hi => ?_, fun i hi => ⟨lkR_o _ _ _ i (by omega), lkR_o _ _ _ i (by omega)⟩⟩
        by_cases h9 : i < 9
        · rcases i with _ | w
          · rw [lkR_0]; exact k13
          · rw [lkR_s _ _ _ w (by omega)]; exact k14 w (by omega)
        · exact Or.inl (lkR_o _ _ _ i (by omega))
      have q1 := kD_lk cp sc2 cap2
      have q2 := kS_lk cp sc2 cap2
      refine wq_mono (c_pwM1 hA2 hz2 hRw1 (Nat.le_trans hlen fl)) ?_
      rintro _ ⟨h3, rw3, cp3, d3, s3, rfl, m1, m2, m3, m4, m5, m6⟩
      exact ⟨h3, rw3, cp3, 1, 1, d3, s3, rfl, by decide, m1, m2, wFx_tr (wFx_of f (fun q hq => Or.inl (lkF_pl q hq))) m3 (plC_tr hg), wRg_tr hg m4 fl, by omega, by omega⟩
    · subst hw
      refine wq_mono (c_pwL e74 (by decide)) ?_
      rintro _ rfl
      refine ⟨h, 0, 0, rfl, ?_⟩
      show wq 27 39 [(0, .ref 74), (1, .long nw), (3, .int 1), (4, .ref 88)] [] h 0 0 _
      refine wq_mono (c_pwM1 hA hz hRw hlen) ?_
      rintro _ ⟨h3, rw3, cp3, d3, s3, rfl, m1, m2, m3, m4, m5, m6⟩
      exact ⟨h3, rw3, cp3, 1, 1, d3, s3, rfl, by decide, m1, m2, m3, m4, by omega, by omega⟩
