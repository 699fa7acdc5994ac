/-! The class's state behind a call. -/
theorem wPl_cg {h : zH} {ra so : Nat} {lk hd ht : Int32} {ll lg wy sv : List Int32} {po : List Int64} {wg : Int32} {rw cp rw2 cp2 : Nat → Nat} (k : wPl h ra so lk hd ht ll lg wy sv po wg rw cp) (e : ∀ i, (1 ≤ i ∧ i < 9) ∨ i = 11 ∨ i = 12 → rw2 i = rw i ∧ cp2 i = cp i) : wPl h ra so lk hd ht ll lg wy sv po wg rw2 cp2 := by
  obtain ⟨ob, pr, sr, fw, al9, fi, hpl, lf0, lf1, to, kn, ks, fa, hp, li, e74, e96, e76, hHs, hto, eP, eS, c1, c2, hf⟩ := k
  obtain ⟨a11, b11⟩ := e 11 (by decide)
  obtain ⟨a12, b12⟩ := e 12 (by decide)
  refine ⟨ob, pr, sr, fw, al9, fi, hpl, lf0, lf1, to, kn, ks, fa, hp, li, ?_, e96, e76, wHs_cg hHs (fun w hw => (e (w + 1) (by omega)).1) (fun w hw => (e (w + 1) (by omega)).2), hto, ?_, ?_, ?_, ?_, ?_⟩
  · rw [a11, a12]; exact e74
  · rw [a11, b11]; exact eP
  · rw [a12, b12]; exact eS
  · rw [b11]; exact c1
  · rw [b12]; exact c2
  · rcases hf with hf | ⟨hw, hal, ⟨b, hb, hg⟩, hob, hfi, hpr, hsr, hp1, hs1⟩
    · exact Or.inl hf
    · exact Or.inr ⟨hw, hal, ⟨b, hb, wGt_cg hg (fun w hw => (e (w + 1) (by omega)).2)⟩, hob, hfi, hpr, hsr, fun q => by rw [b11]; exact hp1 q, fun q => by rw [b12]; exact hs1 q⟩
theorem wPz_cg {h : zH} {ra so : Nat} {lk hd ht : Int32} {ll lg wy sv : List Int32} {po : List Int64} {wg ka kb : Int32} {tb : List Int32} {wr9 wa9 : Int32} {rw cp rw2 cp2 : Nat → Nat} (k : wPz h ra so lk hd ht ll lg wy sv po wg ka kb rw cp) (e : ∀ i, i < 9 ∨ (11 ≤ i ∧ i < 15) → rw2 i = rw i ∧ cp2 i = cp i) : wPz h ra so lk hd ht ll lg wy sv po wg ka kb rw2 cp2 := by
  obtain ⟨a, b, c, d, g⟩ := k
  obtain ⟨a0, b0⟩ := e 0 (by decide)
  obtain ⟨a13, b13⟩ := e 13 (by decide)
  obtain ⟨a14, b14⟩ := e 14 (by decide)
  refine ⟨a, by rw [a0, b0]; exact b, wPl_cg c (fun i hi => e i (by omega)), by rw [a13, b13]; exact d, by rw [a14, b14]; exact g⟩
theorem kD_0 (cp : Nat → Nat) (x : Nat) : kD (fup cp 0 x) + cp 0 = kD cp + x := by
  have e : capS (fun w => fup cp 0 x (w + 1)) = capS (fun w => cp (w + 1)) := rfl
  unfold kD
  rw [e, fup_s]
  rw [fup_n cp x (show 9 ≠ 0 by decide), fup_n cp x (show 10 ≠ 0 by decide), fup_n cp x (show 11 ≠ 0 by decide), fup_n cp x (show 12 ≠ 0 by decide), fup_n cp x (show 13 ≠ 0 by decide), fup_n cp x (show 14 ≠ 0 by decide), fup_n cp x (show 15 ≠ 0 by decide), fup_n cp x (show 16 ≠ 0 by decide)]
  omega
theorem kS_0 (cp : Nat → Nat) (x : Nat) : kS (fup cp 0 x) + 600 * cp 0 = kS cp + 600 * x := by
  have e : capS (fun w => fup cp 0 x (w + 1)) = capS (fun w => cp (w + 1)) := rfl
  unfold kS
  rw [e, fup_s]
  rw [fup_n cp x (show 9 ≠ 0 by decide), fup_n cp x (show 10 ≠ 0 by decide), fup_n cp x (show 11 ≠ 0 by decide), fup_n cp x (show 12 ≠ 0 by decide), fup_n cp x (show 13 ≠ 0 by decide), fup_n cp x (show 14 ≠ 0 by decide), fup_n cp x (show 15 ≠ 0 by decide), fup_n cp x (show 16 ≠ 0 by decide)]
  omega
theorem kS_9 (cp : Nat → Nat) (i x : Nat) (hi : i = 9 ∨ i = 10) : kS (fup cp i x) + 600 * cp i = kS cp + 600 * x := by
  have e : ∀ w, w < 9 → fup cp i x w = cp w := fun w hw => fup_n _ _ (by omega)
  unfold kS capS
  dsimp only
  rw [e 0 (by decide), e _ (show 0 + 1 < 9 by decide), e _ (show 1 + 1 < 9 by decide), e _ (show 2 + 1 < 9 by decide), e _ (show 3 + 1 < 9 by decide), e _ (show 4 + 1 < 9 by decide), e _ (show 5 + 1 < 9 by decide), e _ (show 6 + 1 < 9 by decide), e _ (show 7 + 1 < 9 by decide)]
  rcases hi with q | q <;> (subst q; unfold fup; simp; omega)
theorem row_ne {x hm q : Nat} (r : x = hm ∨ 234 ≤ x) (h1 : q < 162) (h2 : q ≠ hm) (e : q = x) : False := by omega
theorem row_nc {x hm c : Nat} (r : x = hm ∨ 234 ≤ x) (h1 : hm ≠ c) (h2 : c < 234) (e : x = c) : False := by omega
theorem row_up {a x hm n : Nat} (r : x = hm ∨ 234 ≤ x) (q : a = x ∨ 2 * n ≤ a) (h : 117 ≤ n) : a = hm ∨ 234 ≤ a := by omega
theorem row_lt {a x y n : Nat} (h1 : y < 2 * n) (h2 : 2 * n ≤ a) : a ≠ y := by omega
theorem cC_c {q c : Nat} (e : q = c) (h : c < 162) : cC q := Or.inl (by rw [e]; exact h)
theorem cC_r {rw : Nat → Nat} {n q i : Nat} (k : wRws rw n) (e : q = rw i) (hi : i < 17) : cC q := by rw [e]; exact row_c k hi
set_option maxHeartbeats 4000000 in
theorem CIx_u {h h2 : zH} {rw cp : Nat → Nat} {t rd : Nat} {ps ip : Int64} {im : Int32} {ra sp so : Nat} {lk hd ht bl sd : Int32} {rt : Int64} {ll lg sv nm wy : List Int32} {po : List Int64} {wg ka kb : Int32} {tb : List Int32} {wr9 wa9 : Int32} {pl ia ua : List Int32} {pp : List Int64} {us un : Nat} {ps2 ip2 : Int64} {im2 : Int32} (k : CIx h rw cp t rd ps ip im ra sp so lk hd ht bl sd rt ll lg sv nm wy po wg ka kb tb wr9 wa9 pl ia ua pp us un) (hX2 : zat h2 0 = some (.inr (.inr (.inr (9, [.ref 2, .int (nI t), .ref 4, .ref ra, .ref rd, .long ps2, .ref 34, .ref 36, .int im2, .long ip2, .ref 42, .ref 44, .ref 60, .ref 66, .ref 72, .ref 74, .ref 150, .ref 158]))))) {pl2 ia2 ua2 : List Int32} {pp2 : List Int64} {us2 un2 : Nat} (hU2 : wU h2 pl2 ia2 ua2 pp2 us2 un2) (f9 : wFr [0, 34, 36, 38, 40, 42] h h2) : ∃ rw2 cp2, rw2 = rw ∧ cp2 = cp ∧ CIx h2 rw2 cp2 t rd ps2 ip2 im2 ra sp so lk hd ht bl sd rt ll lg sv nm wy po wg ka kb tb wr9 wa9 pl2 ia2 ua2 pp2 us2 un2 ∧ wFx cC h h2 := by
  obtain ⟨k0, kt, k2, k3, k4, k5, ⟨z1, z2, z3, z4, z5⟩, k7, k8, k9, k10, hRw, hlen⟩ := k
  have f : wFx (fun q => q ∈ [0, 34, 36, 38, 40, 42]) h h2 := f9
  have fl := f.1
  have nc : ∀ q, q < 162 → q ≠ 0 → q ≠ 34 → q ≠ 36 → q ≠ 38 → q ≠ 40 → q ≠ 42 → ¬ (q ∈ [0, 34, 36, 38, 40, 42]) := fun q a0 a1 a2 a3 a4 a5 a6 hm => by
    simp only [List.mem_cons, List.not_mem_nil, or_false] at hm
    rcases hm with e | e | e | e | e | e
    · exact a1 e
    · exact a2 e
    · exact a3 e
    · exact a4 e
    · exact a5 e
    · exact a6 e
  have nr : ∀ i, i < 17 → ¬ (rw i ∈ [0, 34, 36, 38, 40, 42]) := fun i hi hm => by
    have e2 : ∀ i, i < 17 → rwH i ≠ 0 ∧ rwH i ≠ 34 ∧ rwH i ≠ 36 ∧ rwH i ≠ 38 ∧ rwH i ≠ 40 ∧ rwH i ≠ 42 := by decide
    have e3 := e2 i hi
    simp only [List.mem_cons, List.not_mem_nil, or_false] at hm
    rcases hm with e | e | e | e | e | e
    · exact row_nc (row_h hRw hi) e3.1 (by decide) e
    · exact row_nc (row_h hRw hi) e3.2.1 (by decide) e
    · exact row_nc (row_h hRw hi) e3.2.2.1 (by decide) e
    · exact row_nc (row_h hRw hi) e3.2.2.2.1 (by decide) e
    · exact row_nc (row_h hRw hi) e3.2.2.2.2.1 (by decide) e
    · exact row_nc (row_h hRw hi) e3.2.2.2.2.2 (by decide) e
  obtain ⟨rw2, hr2⟩ : ∃ x, x = rw := ⟨_, rfl⟩
  obtain ⟨cp2, hc2⟩ : ∃ x, x = cp := ⟨_, rfl⟩
  have eo : ∀ i : Nat, rw2 i = rw i ∧ cp2 i = cp i := fun i => ⟨by rw [hr2], by rw [hc2]⟩
  have w0 : wRws rw h2.length := wRws_le hRw fl
  have w9 := w0
  refine ⟨rw2, cp2, hr2, hc2, ?_, wFx_of f9 (fun q hq => Or.inl ?_)⟩
  · exact ⟨hX2, kt, wT_fx k2 f (nc 2 (by decide) (by decide) (by decide) (by decide) (by decide) (by decide) (by decide)) (nc 4 (by decide) (by decide) (by decide) (by decide) (by decide) (by decide) (by decide)), wArm_fx k3 f (fun q a b => nc q (by omega) (by omega) (by omega) (by omega) (by omega) (by omega) (by omega)), wD_fx k4 f kt.2.1 (fun q a b => nc q (by omega) (by omega) (by omega) (by omega) (by omega) (by omega) (by omega)), hU2, ⟨wFx_at f (nc 78 (by decide) (by decide) (by decide) (by decide) (by decide) (by decide) (by decide)) z1, (by rw [(eo 0 ).1, (eo 0 ).2]; exact wSol_fx z2 f (fun q a b => nc q (by omega) (by omega) (by omega) (by omega) (by omega) (by omega) (by omega)) (nr 0 (by decide) )), wPl_cg (wPl_fx z3 f (fun q a b => nc q (by omega) (by omega) (by omega) (by omega) (by omega) (by omega) (by omega)) (nc 74 (by decide) (by decide) (by decide) (by decide) (by decide) (by decide) (by decide)) (nc 96 (by decide) (by decide) (by decide) (by decide) (by decide) (by decide) (by decide)) (nc 76 (by decide) (by decide) (by decide) (by decide) (by decide) (by decide) (by decide)) (fun i hi => (nr i (by omega) ))) (fun i hi => (eo i )), (by rw [(eo 13 ).1, (eo 13 ).2]; exact wRo_fx z4 f (fun q a b => nc q (by omega) (by omega) (by omega) (by omega) (by omega) (by omega) (by omega)) (nr 13 (by decide) )), (by rw [(eo 14 ).1, (eo 14 ).2]; exact wRo_fx z5 f (fun q a b => nc q (by omega) (by omega) (by omega) (by omega) (by omega) (by omega) (by omega)) (nr 14 (by decide) ))⟩, (by rw [(eo 9 ).1, (eo 9 ).2]; exact wH6_fx k7 f (fun q a b => nc q (by omega) (by omega) (by omega) (by omega) (by omega) (by omega) (by omega)) (nr 9 (by decide) )), (by rw [(eo 10 ).1, (eo 10 ).2]; exact wDw_fx k8 f (fun q a b => nc q (by omega) (by omega) (by omega) (by omega) (by omega) (by omega) (by omega)) (nr 10 (by decide) )), (by rw [(eo 15 ).1, (eo 15 ).2]; exact wRn_fx k9 f (fun q a b => nc q (by omega) (by omega) (by omega) (by omega) (by omega) (by omega) (by omega)) (nr 15 (by decide) )), (by rw [(eo 16 ).1, (eo 16 ).2]; exact wSn_fx k10 f (nc 158 (by decide) (by decide) (by decide) (by decide) (by decide) (by decide) (by decide)) (nr 16 (by decide) )), (by rw [hr2]; exact w0), Nat.le_trans hlen fl⟩
  · simp only [List.mem_cons, List.not_mem_nil, or_false] at hq
    rcases hq with e | e | e | e | e | e
    · exact cC_c e (by decide)
    · exact cC_c e (by decide)
    · exact cC_c e (by decide)
    · exact cC_c e (by decide)
    · exact cC_c e (by decide)
    · exact cC_c e (by decide)
set_option maxHeartbeats 4000000 in
theorem CIx_t {h h2 : zH} {rw cp : Nat → Nat} {t rd : Nat} {ps ip : Int64} {im : Int32} {ra sp so : Nat} {lk hd ht bl sd : Int32} {rt : Int64} {ll lg sv nm wy : List Int32} {po : List Int64} {wg ka kb : Int32} {tb : List Int32} {wr9 wa9 : Int32} {pl ia ua : List Int32} {pp : List Int64} {us un : Nat} {t2 : Nat} {tb2 : List Int32} {wr2 wa2 : Int32} (k : CIx h rw cp t rd ps ip im ra sp so lk hd ht bl sd rt ll lg sv nm wy po wg ka kb tb wr9 wa9 pl ia ua pp us un) (hX2 : zat h2 0 = some (.inr (.inr (.inr (9, [.ref 2, .int (nI t2), .ref 4, .ref ra, .ref rd, .long ps, .ref 34, .ref 36, .int im, .long ip, .ref 42, .ref 44, .ref 60, .ref 66, .ref 72, .ref 74, .ref 150, .ref 158]))))) (ht2 : t2 ≤ 700) (hT2 : wT h2 tb2 wr2 wa2) (f9 : wFr [0, 2] h h2) : ∃ rw2 cp2, rw2 = rw ∧ cp2 = cp ∧ CIx h2 rw2 cp2 t2 rd ps ip im ra sp so lk hd ht bl sd rt ll lg sv nm wy po wg ka kb tb2 wr2 wa2 pl ia ua pp us un ∧ wFx cC h h2 := by
  obtain ⟨k0, kt, k2, k3, k4, k5, ⟨z1, z2, z3, z4, z5⟩, k7, k8, k9, k10, hRw, hlen⟩ := k
  have f : wFx (fun q => q ∈ [0, 2]) h h2 := f9
  have fl := f.1
  have nc : ∀ q, q < 162 → q ≠ 0 → q ≠ 2 → ¬ (q ∈ [0, 2]) := fun q a0 a1 a2 hm => by
    simp only [List.mem_cons, List.not_mem_nil, or_false] at hm
    rcases hm with e | e
    · exact a1 e
    · exact a2 e
  have nr : ∀ i, i < 17 → ¬ (rw i ∈ [0, 2]) := fun i hi hm => by
    have e2 : ∀ i, i < 17 → rwH i ≠ 0 ∧ rwH i ≠ 2 := by decide
    have e3 := e2 i hi
    simp only [List.mem_cons, List.not_mem_nil, or_false] at hm
    rcases hm with e | e
    · exact row_nc (row_h hRw hi) e3.1 (by decide) e
    · exact row_nc (row_h hRw hi) e3.2 (by decide) e
  obtain ⟨rw2, hr2⟩ : ∃ x, x = rw := ⟨_, rfl⟩
  obtain ⟨cp2, hc2⟩ : ∃ x, x = cp := ⟨_, rfl⟩
  have eo : ∀ i : Nat, rw2 i = rw i ∧ cp2 i = cp i := fun i => ⟨by rw [hr2], by rw [hc2]⟩
  have w0 : wRws rw h2.length := wRws_le hRw fl
  have w9 := w0
  refine ⟨rw2, cp2, hr2, hc2, ?_, wFx_of f9 (fun q hq => Or.inl ?_)⟩
  · exact ⟨hX2, ⟨ht2, kt.2⟩, hT2, wArm_fx k3 f (fun q a b => nc q (by omega) (by omega) (by omega)), wD_fx k4 f kt.2.1 (fun q a b => nc q (by omega) (by omega) (by omega)), wU_fx k5 f (fun q a b => nc q (by omega) (by omega) (by omega)), ⟨wFx_at f (nc 78 (by decide) (by decide) (by decide)) z1, (by rw [(eo 0 ).1, (eo 0 ).2]; exact wSol_fx z2 f (fun q a b => nc q (by omega) (by omega) (by omega)) (nr 0 (by decide) )), wPl_cg (wPl_fx z3 f (fun q a b => nc q (by omega) (by omega) (by omega)) (nc 74 (by decide) (by decide) (by decide)) (nc 96 (by decide) (by decide) (by decide)) (nc 76 (by decide) (by decide) (by decide)) (fun i hi => (nr i (by omega) ))) (fun i hi => (eo i )), (by rw [(eo 13 ).1, (eo 13 ).2]; exact wRo_fx z4 f (fun q a b => nc q (by omega) (by omega) (by omega)) (nr 13 (by decide) )), (by rw [(eo 14 ).1, (eo 14 ).2]; exact wRo_fx z5 f (fun q a b => nc q (by omega) (by omega) (by omega)) (nr 14 (by decide) ))⟩, (by rw [(eo 9 ).1, (eo 9 ).2]; exact wH6_fx k7 f (fun q a b => nc q (by omega) (by omega) (by omega)) (nr 9 (by decide) )), (by rw [(eo 10 ).1, (eo 10 ).2]; exact wDw_fx k8 f (fun q a b => nc q (by omega) (by omega) (by omega)) (nr 10 (by decide) )), (by rw [(eo 15 ).1, (eo 15 ).2]; exact wRn_fx k9 f (fun q a b => nc q (by omega) (by omega) (by omega)) (nr 15 (by decide) )), (by rw [(eo 16 ).1, (eo 16 ).2]; exact wSn_fx k10 f (nc 158 (by decide) (by decide) (by decide)) (nr 16 (by decide) )), (by rw [hr2]; exact w0), Nat.le_trans hlen fl⟩
  · simp only [List.mem_cons, List.not_mem_nil, or_false] at hq
    rcases hq with e | e
    · exact cC_c e (by decide)
    · exact cC_c e (by decide)
set_option maxHeartbeats 4000000 in
theorem CIx_s {h h2 : zH} {rw cp : Nat → Nat} {t rd : Nat} {ps ip : Int64} {im : Int32} {ra sp so : Nat} {lk hd ht bl sd : Int32} {rt : Int64} {ll lg sv nm wy : List Int32} {po : List Int64} {wg ka kb : Int32} {tb : List Int32} {wr9 wa9 : Int32} {pl ia ua : List Int32} {pp : List Int64} {us un : Nat} {ps2 : Int64} {rL2 cap2 rs2 sc2 : Nat} (k : CIx h rw cp t rd ps ip im ra sp so lk hd ht bl sd rt ll lg sv nm wy po wg ka kb tb wr9 wa9 pl ia ua pp us un) (hX2 : zat h2 0 = some (.inr (.inr (.inr (9, [.ref 2, .int (nI t), .ref 4, .ref ra, .ref rd, .long ps2, .ref 34, .ref 36, .int im, .long ip, .ref 42, .ref 44, .ref 60, .ref 66, .ref 72, .ref 74, .ref 150, .ref 158]))))) {pl2 ia2 ua2 : List Int32} {pp2 : List Int64} {us2 un2 : Nat} (hU2 : wU h2 pl2 ia2 ua2 pp2 us2 un2) (hSol2 : wSol h2 rs2 sc2) (hH2 : wH6 h2 ll lg lk hd ht rL2 cap2) (f9 : wFr [rw 9, 60, 64, 44, 46, 48, 50, 52, 54, 56, rw 0, 0, 34, 36, 38, 40] h h2) (q9 : rL2 = rw 9 ∨ 2 * h.length ≤ rL2) (u9 : rL2 < 2 * h2.length) (q0 : rs2 = rw 0 ∨ 2 * h.length ≤ rs2) (u0 : rs2 < 2 * h2.length) (qd : rs2 ≠ rL2) : ∃ rw2 cp2, rw2 = (fup (fup rw 9 rL2) 0 rs2) ∧ cp2 = (fup (fup cp 9 cap2) 0 sc2) ∧ CIx h2 rw2 cp2 t rd ps2 ip im ra sp so lk hd ht bl sd rt ll lg sv nm wy po wg ka kb tb wr9 wa9 pl2 ia2 ua2 pp2 us2 un2 ∧ wFx cC h h2 := by
  obtain ⟨k0, kt, k2, k3, k4, k5, ⟨z1, z2, z3, z4, z5⟩, k7, k8, k9, k10, hRw, hlen⟩ := k
  have f : wFx (fun q => q ∈ [rw 9, 60, 64, 44, 46, 48, 50, 52, 54, 56, rw 0, 0, 34, 36, 38, 40]) h h2 := f9
  have fl := f.1
  have nc : ∀ q, q < 162 → q ≠ 62 → q ≠ 60 → q ≠ 64 → q ≠ 44 → q ≠ 46 → q ≠ 48 → q ≠ 50 → q ≠ 52 → q ≠ 54 → q ≠ 56 → q ≠ 58 → q ≠ 0 → q ≠ 34 → q ≠ 36 → q ≠ 38 → q ≠ 40 → ¬ (q ∈ [rw 9, 60, 64, 44, 46, 48, 50, 52, 54, 56, rw 0, 0, 34, 36, 38, 40]) := fun q a0 a1 a2 a3 a4 a5 a6 a7 a8 a9 a10 a11 a12 a13 a14 a15 a16 hm => by
    simp only [List.mem_cons, List.not_mem_nil, or_false] at hm
    rcases hm with e | e | e | e | e | e | e | e | e | e | e | e | e | e | e | e
    · exact row_ne (row_h hRw (show 9 < 17 by decide)) a0 a1 e
    · exact a2 e
    · exact a3 e
    · exact a4 e
    · exact a5 e
    · exact a6 e
    · exact a7 e
    · exact a8 e
    · exact a9 e
    · exact a10 e
    · exact row_ne (row_h hRw (show 0 < 17 by decide)) a0 a11 e
    · exact a12 e
    · exact a13 e
    · exact a14 e
    · exact a15 e
    · exact a16 e
  have nr : ∀ i, i < 17 → i ≠ 9 → i ≠ 0 → ¬ (rw i ∈ [rw 9, 60, 64, 44, 46, 48, 50, 52, 54, 56, rw 0, 0, 34, 36, 38, 40]) := fun i hi b9 b0 hm => by
    have e2 : ∀ i, i < 17 → rwH i ≠ 60 ∧ rwH i ≠ 64 ∧ rwH i ≠ 44 ∧ rwH i ≠ 46 ∧ rwH i ≠ 48 ∧ rwH i ≠ 50 ∧ rwH i ≠ 52 ∧ rwH i ≠ 54 ∧ rwH i ≠ 56 ∧ rwH i ≠ 0 ∧ rwH i ≠ 34 ∧ rwH i ≠ 36 ∧ rwH i ≠ 38 ∧ rwH i ≠ 40 := by decide
    have e3 := e2 i hi
    simp only [List.mem_cons, List.not_mem_nil, or_false] at hm
    rcases hm with e | e | e | e | e | e | e | e | e | e | e | e | e | e | e | e
    · exact hRw.2 i 9 hi (by decide) b9 e
    · exact row_nc (row_h hRw hi) e3.1 (by decide) e
    · exact row_nc (row_h hRw hi) e3.2.1 (by decide) e
    · exact row_nc (row_h hRw hi) e3.2.2.1 (by decide) e
    · exact row_nc (row_h hRw hi) e3.2.2.2.1 (by decide) e
    · exact row_nc (row_h hRw hi) e3.2.2.2.2.1 (by decide) e
    · exact row_nc (row_h hRw hi) e3.2.2.2.2.2.1 (by decide) e
    · exact row_nc (row_h hRw hi) e3.2.2.2.2.2.2.1 (by decide) e
    · exact row_nc (row_h hRw hi) e3.2.2.2.2.2.2.2.1 (by decide) e
    · exact row_nc (row_h hRw hi) e3.2.2.2.2.2.2.2.2.1 (by decide) e
    · exact hRw.2 i 0 hi (by decide) b0 e
    · exact row_nc (row_h hRw hi) e3.2.2.2.2.2.2.2.2.2.1 (by decide) e
    · exact row_nc (row_h hRw hi) e3.2.2.2.2.2.2.2.2.2.2.1 (by decide) e
    · exact row_nc (row_h hRw hi) e3.2.2.2.2.2.2.2.2.2.2.2.1 (by decide) e
    · exact row_nc (row_h hRw hi) e3.2.2.2.2.2.2.2.2.2.2.2.2.1 (by decide) e
    · exact row_nc (row_h hRw hi) e3.2.2.2.2.2.2.2.2.2.2.2.2.2 (by decide) e
  obtain ⟨rw2, hr2⟩ : ∃ x, x = (fup (fup rw 9 rL2) 0 rs2) := ⟨_, rfl⟩
  obtain ⟨cp2, hc2⟩ : ∃ x, x = (fup (fup cp 9 cap2) 0 sc2) := ⟨_, rfl⟩
  have e9 : rw2 9 = rL2 := by rw [hr2, fup_n _ _ (by decide), fup_s]
  have g9 : cp2 9 = cap2 := by rw [hc2, fup_n _ _ (by decide), fup_s]
  have e0 : rw2 0 = rs2 := by rw [hr2, fup_s]
  have g0 : cp2 0 = sc2 := by rw [hc2, fup_s]
  have eo : ∀ i, i ≠ 9 → i ≠ 0 → rw2 i = rw i ∧ cp2 i = cp i := fun i h9 h0 => ⟨by rw [hr2, fup_n _ _ h0, fup_n _ _ h9], by rw [hc2, fup_n _ _ h0, fup_n _ _ h9]⟩
  have w0 : wRws rw h2.length := wRws_le hRw fl
  have hd9 : ∀ j, j < 17 → j ≠ 9 → rL2 ≠ rw j := fun j hj hne => by
    rcases q9 with e | e
    · rw [e]; exact hRw.2 9 j (by decide) hj (fun q => hne q.symm)
    · exact row_lt (a := rL2) (x := 0) (hRw.1 j hj).2 e
  have w1 : wRws (fup rw 9 rL2) h2.length := wRws_up w0 (Nat.le_refl _) (show rL2 = 62 ∨ 234 ≤ rL2 from row_up (row_h hRw (by decide)) q9 hlen) u9 hd9
  have hd0 : ∀ j, j < 17 → j ≠ 0 → rs2 ≠ (fup rw 9 rL2) j := fun j hj hne => by
    by_cases e9 : j = 9
    · rw [e9, fup_s]; exact qd
    · rw [fup_n _ _ e9]
      rcases q0 with e | e
      · rw [e]; exact hRw.2 0 j (by decide) hj (fun q => hne q.symm)
      · exact row_lt (a := rs2) (x := 0) (hRw.1 j hj).2 e
  have w2 : wRws (fup (fup rw 9 rL2) 0 rs2) h2.length := wRws_up w1 (Nat.le_refl _) (show rs2 = 58 ∨ 234 ≤ rs2 from row_up (row_h hRw (by decide)) q0 hlen) u0 hd0
  rw [← hr2] at w2
  refine ⟨rw2, cp2, hr2, hc2, ?_, wFx_of f9 (fun q hq => Or.inl ?_)⟩
  · exact ⟨hX2, kt, wT_fx k2 f (nc 2 (by decide) (by decide) (by decide) (by decide) (by decide) (by decide) (by decide) (by decide) (by decide) (by decide) (by decide) (by decide) (by decide) (by decide) (by decide) (by decide) (by decide)) (nc 4 (by decide) (by decide) (by decide) (by decide) (by decide) (by decide) (by decide) (by decide) (by decide) (by decide) (by decide) (by decide) (by decide) (by decide) (by decide) (by decide) (by decide)), wArm_fx k3 f (fun q a b => nc q (by omega) (by omega) (by omega) (by omega) (by omega) (by omega) (by omega) (by omega) (by omega) (by omega) (by omega) (by omega) (by omega) (by omega) (by omega) (by omega) (by omega)), wD_fx k4 f kt.2.1 (fun q a b => nc q (by omega) (by omega) (by omega) (by omega) (by omega) (by omega) (by omega) (by omega) (by omega) (by omega) (by omega) (by omega) (by omega) (by omega) (by omega) (by omega) (by omega)), hU2, ⟨wFx_at f (nc 78 (by decide) (by decide) (by decide) (by decide) (by decide) (by decide) (by decide) (by decide) (by decide) (by decide) (by decide) (by decide) (by decide) (by decide) (by decide) (by decide) (by decide)) z1, (by rw [e0, g0]; exact hSol2), wPl_cg (wPl_fx z3 f (fun q a b => nc q (by omega) (by omega) (by omega) (by omega) (by omega) (by omega) (by omega) (by omega) (by omega) (by omega) (by omega) (by omega) (by omega) (by omega) (by omega) (by omega) (by omega)) (nc 74 (by decide) (by decide) (by decide) (by decide) (by decide) (by decide) (by decide) (by decide) (by decide) (by decide) (by decide) (by decide) (by decide) (by decide) (by decide) (by decide) (by decide)) (nc 96 (by decide) (by decide) (by decide) (by decide) (by decide) (by decide) (by decide) (by decide) (by decide) (by decide) (by decide) (by decide) (by decide) (by decide) (by decide) (by decide) (by decide)) (nc 76 (by decide) (by decide) (by decide) (by decide) (by decide) (by decide) (by decide) (by decide) (by decide) (by decide) (by decide) (by decide) (by decide) (by decide) (by decide) (by decide) (by decide)) (fun i hi => (nr i (by omega) (by omega) (by omega)))) (fun i hi => (eo i (by omega) (by omega))), (by rw [(eo 13 (by omega) (by omega)).1, (eo 13 (by omega) (by omega)).2]; exact wRo_fx z4 f (fun q a b => nc q (by omega) (by omega) (by omega) (by omega) (by omega) (by omega) (by omega) (by omega) (by omega) (by omega) (by omega) (by omega) (by omega) (by omega) (by omega) (by omega) (by omega)) (nr 13 (by decide) (by decide) (by decide))), (by rw [(eo 14 (by omega) (by omega)).1, (eo 14 (by omega) (by omega)).2]; exact wRo_fx z5 f (fun q a b => nc q (by omega) (by omega) (by omega) (by omega) (by omega) (by omega) (by omega) (by omega) (by omega) (by omega) (by omega) (by omega) (by omega) (by omega) (by omega) (by omega) (by omega)) (nr 14 (by decide) (by decide) (by decide)))⟩, (by rw [e9, g9]; exact hH2), (by rw [(eo 10 (by omega) (by omega)).1, (eo 10 (by omega) (by omega)).2]; exact wDw_fx k8 f (fun q a b => nc q (by omega) (by omega) (by omega) (by omega) (by omega) (by omega) (by omega) (by omega) (by omega) (by omega) (by omega) (by omega) (by omega) (by omega) (by omega) (by omega) (by omega)) (nr 10 (by decide) (by decide) (by decide))), (by rw [(eo 15 (by omega) (by omega)).1, (eo 15 (by omega) (by omega)).2]; exact wRn_fx k9 f (fun q a b => nc q (by omega) (by omega) (by omega) (by omega) (by omega) (by omega) (by omega) (by omega) (by omega) (by omega) (by omega) (by omega) (by omega) (by omega) (by omega) (by omega) (by omega)) (nr 15 (by decide) (by decide) (by decide))), (by rw [(eo 16 (by omega) (by omega)).1, (eo 16 (by omega) (by omega)).2]; exact wSn_fx k10 f (nc 158 (by decide) (by decide) (by decide) (by decide) (by decide) (by decide) (by decide) (by decide) (by decide) (by decide) (by decide) (by decide) (by decide) (by decide) (by decide) (by decide) (by decide)) (nr 16 (by decide) (by decide) (by decide))), w2, Nat.le_trans hlen fl⟩
  · simp only [List.mem_cons, List.not_mem_nil, or_false] at hq
    rcases hq with e | e | e | e | e | e | e | e | e | e | e | e | e | e | e | e
    · exact cC_r hRw e (by decide)
    · exact cC_c e (by decide)
    · exact cC_c e (by decide)
    · exact cC_c e (by decide)
    · exact cC_c e (by decide)
    · exact cC_c e (by decide)
    · exact cC_c e (by decide)
    · exact cC_c e (by decide)
    · exact cC_c e (by decide)
    · exact cC_c e (by decide)
    · exact cC_r hRw e (by decide)
    · exact cC_c e (by decide)
    · exact cC_c e (by decide)
    · exact cC_c e (by decide)
    · exact cC_c e (by decide)
    · exact cC_c e (by decide)
set_option maxHeartbeats 4000000 in
theorem CIx_d {h h2 : zH} {rw cp : Nat → Nat} {t rd : Nat} {ps ip : Int64} {im : Int32} {ra sp so : Nat} {lk hd ht bl sd : Int32} {rt : Int64} {ll lg sv nm wy : List Int32} {po : List Int64} {wg ka kb : Int32} {tb : List Int32} {wr9 wa9 : Int32} {pl ia ua : List Int32} {pp : List Int64} {us un : Nat} {rL2 cap2 rs2 sc2 : Nat} (k : CIx h rw cp t rd ps ip im ra sp so lk hd ht bl sd rt ll lg sv nm wy po wg ka kb tb wr9 wa9 pl ia ua pp us un) (hSol2 : wSol h2 rs2 sc2) (hD2 : wDw h2 rL2 cap2) (f9 : wFr [rw 10, rw 0, 44, 46, 48, 50, 52, 54, 56, 66, 70, 72] h h2) (q10 : rL2 = rw 10 ∨ 2 * h.length ≤ rL2) (u10 : rL2 < 2 * h2.length) (q0 : rs2 = rw 0 ∨ 2 * h.length ≤ rs2) (u0 : rs2 < 2 * h2.length) (qd : rs2 ≠ rL2) : ∃ rw2 cp2, rw2 = (fup (fup rw 10 rL2) 0 rs2) ∧ cp2 = (fup (fup cp 10 cap2) 0 sc2) ∧ CIx h2 rw2 cp2 t rd ps ip im ra sp so lk hd ht bl sd rt ll lg sv nm wy po wg ka kb tb wr9 wa9 pl ia ua pp us un ∧ wFx cC h h2 := by
  obtain ⟨k0, kt, k2, k3, k4, k5, ⟨z1, z2, z3, z4, z5⟩, k7, k8, k9, k10, hRw, hlen⟩ := k
  have f : wFx (fun q => q ∈ [rw 10, rw 0, 44, 46, 48, 50, 52, 54, 56, 66, 70, 72]) h h2 := f9
  have fl := f.1
  have nc : ∀ q, q < 162 → q ≠ 68 → q ≠ 58 → q ≠ 44 → q ≠ 46 → q ≠ 48 → q ≠ 50 → q ≠ 52 → q ≠ 54 → q ≠ 56 → q ≠ 66 → q ≠ 70 → q ≠ 72 → ¬ (q ∈ [rw 10, rw 0, 44, 46, 48, 50, 52, 54, 56, 66, 70, 72]) := fun q a0 a1 a2 a3 a4 a5 a6 a7 a8 a9 a10 a11 a12 hm => by
    simp only [List.mem_cons, List.not_mem_nil, or_false] at hm
    rcases hm with e | e | e | e | e | e | e | e | e | e | e | e
    · exact row_ne (row_h hRw (show 10 < 17 by decide)) a0 a1 e
    · exact row_ne (row_h hRw (show 0 < 17 by decide)) a0 a2 e
    · exact a3 e
    · exact a4 e
    · exact a5 e
    · exact a6 e
    · exact a7 e
    · exact a8 e
    · exact a9 e
    · exact a10 e
    · exact a11 e
    · exact a12 e
  have nr : ∀ i, i < 17 → i ≠ 10 → i ≠ 0 → ¬ (rw i ∈ [rw 10, rw 0, 44, 46, 48, 50, 52, 54, 56, 66, 70, 72]) := fun i hi b10 b0 hm => by
    have e2 : ∀ i, i < 17 → rwH i ≠ 44 ∧ rwH i ≠ 46 ∧ rwH i ≠ 48 ∧ rwH i ≠ 50 ∧ rwH i ≠ 52 ∧ rwH i ≠ 54 ∧ rwH i ≠ 56 ∧ rwH i ≠ 66 ∧ rwH i ≠ 70 ∧ rwH i ≠ 72 := by decide
    have e3 := e2 i hi
    simp only [List.mem_cons, List.not_mem_nil, or_false] at hm
    rcases hm with e | e | e | e | e | e | e | e | e | e | e | e
    · exact hRw.2 i 10 hi (by decide) b10 e
    · exact hRw.2 i 0 hi (by decide) b0 e
    · exact row_nc (row_h hRw hi) e3.1 (by decide) e
    · exact row_nc (row_h hRw hi) e3.2.1 (by decide) e
    · exact row_nc (row_h hRw hi) e3.2.2.1 (by decide) e
    · exact row_nc (row_h hRw hi) e3.2.2.2.1 (by decide) e
    · exact row_nc (row_h hRw hi) e3.2.2.2.2.1 (by decide) e
    · exact row_nc (row_h hRw hi) e3.2.2.2.2.2.1 (by decide) e
    · exact row_nc (row_h hRw hi) e3.2.2.2.2.2.2.1 (by decide) e
    · exact row_nc (row_h hRw hi) e3.2.2.2.2.2.2.2.1 (by decide) e
    · exact row_nc (row_h hRw hi) e3.2.2.2.2.2.2.2.2.1 (by decide) e
    · exact row_nc (row_h hRw hi) e3.2.2.2.2.2.2.2.2.2 (by decide) e
  obtain ⟨rw2, hr2⟩ : ∃ x, x = (fup (fup rw 10 rL2) 0 rs2) := ⟨_, rfl⟩
  obtain ⟨cp2, hc2⟩ : ∃ x, x = (fup (fup cp 10 cap2) 0 sc2) := ⟨_, rfl⟩
  have e10 : rw2 10 = rL2 := by rw [hr2, fup_n _ _ (by decide), fup_s]
  have g10 : cp2 10 = cap2 := by rw [hc2, fup_n _ _ (by decide), fup_s]
  have e0 : rw2 0 = rs2 := by rw [hr2, fup_s]
  have g0 : cp2 0 = sc2 := by rw [hc2, fup_s]
  have eo : ∀ i, i ≠ 10 → i ≠ 0 → rw2 i = rw i ∧ cp2 i = cp i := fun i h10 h0 => ⟨by rw [hr2, fup_n _ _ h0, fup_n _ _ h10], by rw [hc2, fup_n _ _ h0, fup_n _ _ h10]⟩
  have w0 : wRws rw h2.length := wRws_le hRw fl
  have hd10 : ∀ j, j < 17 → j ≠ 10 → rL2 ≠ rw j := fun j hj hne => by
    rcases q10 with e | e
    · rw [e]; exact hRw.2 10 j (by decide) hj (fun q => hne q.symm)
    · exact row_lt (a := rL2) (x := 0) (hRw.1 j hj).2 e
  have w1 : wRws (fup rw 10 rL2) h2.length := wRws_up w0 (Nat.le_refl _) (show rL2 = 68 ∨ 234 ≤ rL2 from row_up (row_h hRw (by decide)) q10 hlen) u10 hd10
  have hd0 : ∀ j, j < 17 → j ≠ 0 → rs2 ≠ (fup rw 10 rL2) j := fun j hj hne => by
    by_cases e9 : j = 10
    · rw [e9, fup_s]; exact qd
    · rw [fup_n _ _ e9]
      rcases q0 with e | e
      · rw [e]; exact hRw.2 0 j (by decide) hj (fun q => hne q.symm)
      · exact row_lt (a := rs2) (x := 0) (hRw.1 j hj).2 e
  have w2 : wRws (fup (fup rw 10 rL2) 0 rs2) h2.length := wRws_up w1 (Nat.le_refl _) (show rs2 = 58 ∨ 234 ≤ rs2 from row_up (row_h hRw (by decide)) q0 hlen) u0 hd0
  rw [← hr2] at w2
  refine ⟨rw2, cp2, hr2, hc2, ?_, wFx_of f9 (fun q hq => Or.inl ?_)⟩
  · exact ⟨wFx_at f (nc 0 (by decide) (by decide) (by decide) (by decide) (by decide) (by decide) (by decide) (by decide) (by decide) (by decide) (by decide) (by decide) (by decide)) k0, kt, wT_fx k2 f (nc 2 (by decide) (by decide) (by decide) (by decide) (by decide) (by decide) (by decide) (by decide) (by decide) (by decide) (by decide) (by decide) (by decide)) (nc 4 (by decide) (by decide) (by decide) (by decide) (by decide) (by decide) (by decide) (by decide) (by decide) (by decide) (by decide) (by decide) (by decide)), wArm_fx k3 f (fun q a b => nc q (by omega) (by omega) (by omega) (by omega) (by omega) (by omega) (by omega) (by omega) (by omega) (by omega) (by omega) (by omega) (by omega)), wD_fx k4 f kt.2.1 (fun q a b => nc q (by omega) (by omega) (by omega) (by omega) (by omega) (by omega) (by omega) (by omega) (by omega) (by omega) (by omega) (by omega) (by omega)), wU_fx k5 f (fun q a b => nc q (by omega) (by omega) (by omega) (by omega) (by omega) (by omega) (by omega) (by omega) (by omega) (by omega) (by omega) (by omega) (by omega)), ⟨wFx_at f (nc 78 (by decide) (by decide) (by decide) (by decide) (by decide) (by decide) (by decide) (by decide) (by decide) (by decide) (by decide) (by decide) (by decide)) z1, (by rw [e0, g0]; exact hSol2), wPl_cg (wPl_fx z3 f (fun q a b => nc q (by omega) (by omega) (by omega) (by omega) (by omega) (by omega) (by omega) (by omega) (by omega) (by omega) (by omega) (by omega) (by omega)) (nc 74 (by decide) (by decide) (by decide) (by decide) (by decide) (by decide) (by decide) (by decide) (by decide) (by decide) (by decide) (by decide) (by decide)) (nc 96 (by decide) (by decide) (by decide) (by decide) (by decide) (by decide) (by decide) (by decide) (by decide) (by decide) (by decide) (by decide) (by decide)) (nc 76 (by decide) (by decide) (by decide) (by decide) (by decide) (by decide) (by decide) (by decide) (by decide) (by decide) (by decide) (by decide) (by decide)) (fun i hi => (nr i (by omega) (by omega) (by omega)))) (fun i hi => (eo i (by omega) (by omega))), (by rw [(eo 13 (by omega) (by omega)).1, (eo 13 (by omega) (by omega)).2]; exact wRo_fx z4 f (fun q a b => nc q (by omega) (by omega) (by omega) (by omega) (by omega) (by omega) (by omega) (by omega) (by omega) (by omega) (by omega) (by omega) (by omega)) (nr 13 (by decide) (by decide) (by decide))), (by rw [(eo 14 (by omega) (by omega)).1, (eo 14 (by omega) (by omega)).2]; exact wRo_fx z5 f (fun q a b => nc q (by omega) (by omega) (by omega) (by omega) (by omega) (by omega) (by omega) (by omega) (by omega) (by omega) (by omega) (by omega) (by omega)) (nr 14 (by decide) (by decide) (by decide)))⟩, (by rw [(eo 9 (by omega) (by omega)).1, (eo 9 (by omega) (by omega)).2]; exact wH6_fx k7 f (fun q a b => nc q (by omega) (by omega) (by omega) (by omega) (by omega) (by omega) (by omega) (by omega) (by omega) (by omega) (by omega) (by omega) (by omega)) (nr 9 (by decide) (by decide) (by decide))), (by rw [e10, g10]; exact hD2), (by rw [(eo 15 (by omega) (by omega)).1, (eo 15 (by omega) (by omega)).2]; exact wRn_fx k9 f (fun q a b => nc q (by omega) (by omega) (by omega) (by omega) (by omega) (by omega) (by omega) (by omega) (by omega) (by omega) (by omega) (by omega) (by omega)) (nr 15 (by decide) (by decide) (by decide))), (by rw [(eo 16 (by omega) (by omega)).1, (eo 16 (by omega) (by omega)).2]; exact wSn_fx k10 f (nc 158 (by decide) (by decide) (by decide) (by decide) (by decide) (by decide) (by decide) (by decide) (by decide) (by decide) (by decide) (by decide) (by decide)) (nr 16 (by decide) (by decide) (by decide))), w2, Nat.le_trans hlen fl⟩
  · simp only [List.mem_cons, List.not_mem_nil, or_false] at hq
    rcases hq with e | e | e | e | e | e | e | e | e | e | e | e
    · exact cC_r hRw e (by decide)
    · exact cC_r hRw e (by decide)
    · exact cC_c e (by decide)
    · exact cC_c e (by decide)
    · exact cC_c e (by decide)
    · exact cC_c e (by decide)
    · exact cC_c e (by decide)
    · exact cC_c e (by decide)
    · exact cC_c e (by decide)
    · exact cC_c e (by decide)
    · exact cC_c e (by decide)
    · exact cC_c e (by decide)
set_option maxHeartbeats 4000000 in
theorem CIx_r {h h2 : zH} {rw cp : Nat → Nat} {t rd : Nat} {ps ip : Int64} {im : Int32} {ra sp so : Nat} {lk hd ht bl sd : Int32} {rt : Int64} {ll lg sv nm wy : List Int32} {po : List Int64} {wg ka kb : Int32} {tb : List Int32} {wr9 wa9 : Int32} {pl ia ua : List Int32} {pp : List Int64} {us un : Nat} {rf2 NL2 : Nat} (k : CIx h rw cp t rd ps ip im ra sp so lk hd ht bl sd rt ll lg sv nm wy po wg ka kb tb wr9 wa9 pl ia ua pp us un) (hR2 : wRn h2 ra sp sv po rf2 NL2) (f9 : wFr [150, 152, 154, rw 15] h h2) (q15 : rf2 = rw 15 ∨ 2 * h.length ≤ rf2) (u15 : rf2 < 2 * h2.length) : ∃ rw2 cp2, rw2 = (fup rw 15 rf2) ∧ cp2 = (fup cp 15 NL2) ∧ CIx h2 rw2 cp2 t rd ps ip im ra sp so lk hd ht bl sd rt ll lg sv nm wy po wg ka kb tb wr9 wa9 pl ia ua pp us un ∧ wFx cC h h2 := by
  obtain ⟨k0, kt, k2, k3, k4, k5, ⟨z1, z2, z3, z4, z5⟩, k7, k8, k9, k10, hRw, hlen⟩ := k
  have f : wFx (fun q => q ∈ [150, 152, 154, rw 15]) h h2 := f9
  have fl := f.1
  have nc : ∀ q, q < 162 → q ≠ 150 → q ≠ 152 → q ≠ 154 → q ≠ 156 → ¬ (q ∈ [150, 152, 154, rw 15]) := fun q a0 a1 a2 a3 a4 hm => by
    simp only [List.mem_cons, List.not_mem_nil, or_false] at hm
    rcases hm with e | e | e | e
    · exact a1 e
    · exact a2 e
    · exact a3 e
    · exact row_ne (row_h hRw (show 15 < 17 by decide)) a0 a4 e
  have nr : ∀ i, i < 17 → i ≠ 15 → ¬ (rw i ∈ [150, 152, 154, rw 15]) := fun i hi b15 hm => by
    have e2 : ∀ i, i < 17 → rwH i ≠ 150 ∧ rwH i ≠ 152 ∧ rwH i ≠ 154 := by decide
    have e3 := e2 i hi
    simp only [List.mem_cons, List.not_mem_nil, or_false] at hm
    rcases hm with e | e | e | e
    · exact row_nc (row_h hRw hi) e3.1 (by decide) e
    · exact row_nc (row_h hRw hi) e3.2.1 (by decide) e
    · exact row_nc (row_h hRw hi) e3.2.2 (by decide) e
    · exact hRw.2 i 15 hi (by decide) b15 e
  obtain ⟨rw2, hr2⟩ : ∃ x, x = (fup rw 15 rf2) := ⟨_, rfl⟩
  obtain ⟨cp2, hc2⟩ : ∃ x, x = (fup cp 15 NL2) := ⟨_, rfl⟩
  have e15 : rw2 15 = rf2 := by rw [hr2, fup_s]
  have g15 : cp2 15 = NL2 := by rw [hc2, fup_s]
  have eo : ∀ i, i ≠ 15 → rw2 i = rw i ∧ cp2 i = cp i := fun i h15 => ⟨by rw [hr2, fup_n _ _ h15], by rw [hc2, fup_n _ _ h15]⟩
  have w0 : wRws rw h2.length := wRws_le hRw fl
  have hd15 : ∀ j, j < 17 → j ≠ 15 → rf2 ≠ rw j := fun j hj hne => by
    rcases q15 with e | e
    · rw [e]; exact hRw.2 15 j (by decide) hj (fun q => hne q.symm)
    · exact row_lt (a := rf2) (x := 0) (hRw.1 j hj).2 e
  have w1 : wRws (fup rw 15 rf2) h2.length := wRws_up w0 (Nat.le_refl _) (show rf2 = 156 ∨ 234 ≤ rf2 from row_up (row_h hRw (by decide)) q15 hlen) u15 hd15
  rw [← hr2] at w1
  refine ⟨rw2, cp2, hr2, hc2, ?_, wFx_of f9 (fun q hq => Or.inl ?_)⟩
  · exact ⟨wFx_at f (nc 0 (by decide) (by decide) (by decide) (by decide) (by decide)) k0, kt, wT_fx k2 f (nc 2 (by decide) (by decide) (by decide) (by decide) (by decide)) (nc 4 (by decide) (by decide) (by decide) (by decide) (by decide)), wArm_fx k3 f (fun q a b => nc q (by omega) (by omega) (by omega) (by omega) (by omega)), wD_fx k4 f kt.2.1 (fun q a b => nc q (by omega) (by omega) (by omega) (by omega) (by omega)), wU_fx k5 f (fun q a b => nc q (by omega) (by omega) (by omega) (by omega) (by omega)), ⟨wFx_at f (nc 78 (by decide) (by decide) (by decide) (by decide) (by decide)) z1, (by rw [(eo 0 (by omega)).1, (eo 0 (by omega)).2]; exact wSol_fx z2 f (fun q a b => nc q (by omega) (by omega) (by omega) (by omega) (by omega)) (nr 0 (by decide) (by decide))), wPl_cg (wPl_fx z3 f (fun q a b => nc q (by omega) (by omega) (by omega) (by omega) (by omega)) (nc 74 (by decide) (by decide) (by decide) (by decide) (by decide)) (nc 96 (by decide) (by decide) (by decide) (by decide) (by decide)) (nc 76 (by decide) (by decide) (by decide) (by decide) (by decide)) (fun i hi => (nr i (by omega) (by omega)))) (fun i hi => (eo i (by omega))), (by rw [(eo 13 (by omega)).1, (eo 13 (by omega)).2]; exact wRo_fx z4 f (fun q a b => nc q (by omega) (by omega) (by omega) (by omega) (by omega)) (nr 13 (by decide) (by decide))), (by rw [(eo 14 (by omega)).1, (eo 14 (by omega)).2]; exact wRo_fx z5 f (fun q a b => nc q (by omega) (by omega) (by omega) (by omega) (by omega)) (nr 14 (by decide) (by decide)))⟩, (by rw [(eo 9 (by omega)).1, (eo 9 (by omega)).2]; exact wH6_fx k7 f (fun q a b => nc q (by omega) (by omega) (by omega) (by omega) (by omega)) (nr 9 (by decide) (by decide))), (by rw [(eo 10 (by omega)).1, (eo 10 (by omega)).2]; exact wDw_fx k8 f (fun q a b => nc q (by omega) (by omega) (by omega) (by omega) (by omega)) (nr 10 (by decide) (by decide))), (by rw [e15, g15]; exact hR2), (by rw [(eo 16 (by omega)).1, (eo 16 (by omega)).2]; exact wSn_fx k10 f (nc 158 (by decide) (by decide) (by decide) (by decide) (by decide)) (nr 16 (by decide) (by decide))), w1, Nat.le_trans hlen fl⟩
  · simp only [List.mem_cons, List.not_mem_nil, or_false] at hq
    rcases hq with e | e | e | e
    · exact cC_c e (by decide)
    · exact cC_c e (by decide)
    · exact cC_c e (by decide)
    · exact cC_r hRw e (by decide)
set_option maxHeartbeats 4000000 in
theorem CIx_n {h h2 : zH} {rw cp : Nat → Nat} {t rd : Nat} {ps ip : Int64} {im : Int32} {ra sp so : Nat} {lk hd ht bl sd : Int32} {rt : Int64} {ll lg sv nm wy : List Int32} {po : List Int64} {wg ka kb : Int32} {tb : List Int32} {wr9 wa9 : Int32} {pl ia ua : List Int32} {pp : List Int64} {us un : Nat} {rz2 cz2 : Nat} (k : CIx h rw cp t rd ps ip im ra sp so lk hd ht bl sd rt ll lg sv nm wy po wg ka kb tb wr9 wa9 pl ia ua pp us un) (hS2 : wSn h2 rz2 cz2) (f9 : wFr [158, rw 16] h h2) (q16 : rz2 = rw 16 ∨ 2 * h.length ≤ rz2) (u16 : rz2 < 2 * h2.length) : ∃ rw2 cp2, rw2 = (fup rw 16 rz2) ∧ cp2 = (fup cp 16 cz2) ∧ CIx h2 rw2 cp2 t rd ps ip im ra sp so lk hd ht bl sd rt ll lg sv nm wy po wg ka kb tb wr9 wa9 pl ia ua pp us un ∧ wFx cC h h2 := by
  obtain ⟨k0, kt, k2, k3, k4, k5, ⟨z1, z2, z3, z4, z5⟩, k7, k8, k9, k10, hRw, hlen⟩ := k
  have f : wFx (fun q => q ∈ [158, rw 16]) h h2 := f9
  have fl := f.1
  have nc : ∀ q, q < 162 → q ≠ 158 → q ≠ 160 → ¬ (q ∈ [158, rw 16]) := fun q a0 a1 a2 hm => by
    simp only [List.mem_cons, List.not_mem_nil, or_false] at hm
    rcases hm with e | e
    · exact a1 e
    · exact row_ne (row_h hRw (show 16 < 17 by decide)) a0 a2 e
  have nr : ∀ i, i < 17 → i ≠ 16 → ¬ (rw i ∈ [158, rw 16]) := fun i hi b16 hm => by
    have e2 : ∀ i, i < 17 → rwH i ≠ 158 := by decide
    have e3 := e2 i hi
    simp only [List.mem_cons, List.not_mem_nil, or_false] at hm
    rcases hm with e | e
    · exact row_nc (row_h hRw hi) e3 (by decide) e
    · exact hRw.2 i 16 hi (by decide) b16 e
  obtain ⟨rw2, hr2⟩ : ∃ x, x = (fup rw 16 rz2) := ⟨_, rfl⟩
  obtain ⟨cp2, hc2⟩ : ∃ x, x = (fup cp 16 cz2) := ⟨_, rfl⟩
  have e16 : rw2 16 = rz2 := by rw [hr2, fup_s]
  have g16 : cp2 16 = cz2 := by rw [hc2, fup_s]
  have eo : ∀ i, i ≠ 16 → rw2 i = rw i ∧ cp2 i = cp i := fun i h16 => ⟨by rw [hr2, fup_n _ _ h16], by rw [hc2, fup_n _ _ h16]⟩
  have w0 : wRws rw h2.length := wRws_le hRw fl
  have hd16 : ∀ j, j < 17 → j ≠ 16 → rz2 ≠ rw j := fun j hj hne => by
    rcases q16 with e | e
    · rw [e]; exact hRw.2 16 j (by decide) hj (fun q => hne q.symm)
    · exact row_lt (a := rz2) (x := 0) (hRw.1 j hj).2 e
  have w1 : wRws (fup rw 16 rz2) h2.length := wRws_up w0 (Nat.le_refl _) (show rz2 = 160 ∨ 234 ≤ rz2 from row_up (row_h hRw (by decide)) q16 hlen) u16 hd16
  rw [← hr2] at w1
  refine ⟨rw2, cp2, hr2, hc2, ?_, wFx_of f9 (fun q hq => Or.inl ?_)⟩
  · exact ⟨wFx_at f (nc 0 (by decide) (by decide) (by decide)) k0, kt, wT_fx k2 f (nc 2 (by decide) (by decide) (by decide)) (nc 4 (by decide) (by decide) (by decide)), wArm_fx k3 f (fun q a b => nc q (by omega) (by omega) (by omega)), wD_fx k4 f kt.2.1 (fun q a b => nc q (by omega) (by omega) (by omega)), wU_fx k5 f (fun q a b => nc q (by omega) (by omega) (by omega)), ⟨wFx_at f (nc 78 (by decide) (by decide) (by decide)) z1, (by rw [(eo 0 (by omega)).1, (eo 0 (by omega)).2]; exact wSol_fx z2 f (fun q a b => nc q (by omega) (by omega) (by omega)) (nr 0 (by decide) (by decide))), wPl_cg (wPl_fx z3 f (fun q a b => nc q (by omega) (by omega) (by omega)) (nc 74 (by decide) (by decide) (by decide)) (nc 96 (by decide) (by decide) (by decide)) (nc 76 (by decide) (by decide) (by decide)) (fun i hi => (nr i (by omega) (by omega)))) (fun i hi => (eo i (by omega))), (by rw [(eo 13 (by omega)).1, (eo 13 (by omega)).2]; exact wRo_fx z4 f (fun q a b => nc q (by omega) (by omega) (by omega)) (nr 13 (by decide) (by decide))), (by rw [(eo 14 (by omega)).1, (eo 14 (by omega)).2]; exact wRo_fx z5 f (fun q a b => nc q (by omega) (by omega) (by omega)) (nr 14 (by decide) (by decide)))⟩, (by rw [(eo 9 (by omega)).1, (eo 9 (by omega)).2]; exact wH6_fx k7 f (fun q a b => nc q (by omega) (by omega) (by omega)) (nr 9 (by decide) (by decide))), (by rw [(eo 10 (by omega)).1, (eo 10 (by omega)).2]; exact wDw_fx k8 f (fun q a b => nc q (by omega) (by omega) (by omega)) (nr 10 (by decide) (by decide))), (by rw [(eo 15 (by omega)).1, (eo 15 (by omega)).2]; exact wRn_fx k9 f (fun q a b => nc q (by omega) (by omega) (by omega)) (nr 15 (by decide) (by decide))), (by rw [e16, g16]; exact hS2), w1, Nat.le_trans hlen fl⟩
  · simp only [List.mem_cons, List.not_mem_nil, or_false] at hq
    rcases hq with e | e
    · exact cC_c e (by decide)
    · exact cC_r hRw e (by decide)
