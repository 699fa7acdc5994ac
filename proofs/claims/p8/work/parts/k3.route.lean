/-! The class: the calls of a route. -/
/-- what a call that plans leaves: the planner's family at its new rows, all else as it stood -/
noncomputable def wPQ (h0 : zH) (ra so : Nat) (lk hd ht : Int32) (ll lg wy sv : List Int32) (po : List Int64) (rw cp : Nat → Nat) (h2 : zH) (d s : Nat) : Prop := ∃ (rw2 cp2 : Nat → Nat) (wg2 ka2 kb2 : Int32), wPz h2 ra so lk hd ht ll lg wy sv po wg2 ka2 kb2 rw2 cp2 ∧ wRws rw2 h2.length ∧ wFx (plC rw) h0 h2 ∧ wRg h0.length rw cp rw2 cp2 ∧ d + kD cp ≤ kD cp2 ∧ s + kS cp ≤ kS cp2
theorem wPQ_rf {h : zH} {ra so : Nat} {lk hd ht : Int32} {ll lg wy sv : List Int32} {po : List Int64} {wg ka kb : Int32} {rw cp : Nat → Nat} (hz : wPz h ra so lk hd ht ll lg wy sv po wg ka kb rw cp) (hRw : wRws rw h.length) : wPQ h ra so lk hd ht ll lg wy sv po rw cp h 0 0 := ⟨rw, cp, wg, ka, kb, hz, hRw, wFx_rf _ _, wRg_rf _ _ _, Nat.le_of_eq (Nat.zero_add _), Nat.le_of_eq (Nat.zero_add _)⟩
theorem tk_neg {tk : Int32} {N : Nat} (h : wTk tk N) : (tk.toInt < 0) ∨ ∃ T, tk = nI T ∧ T < N ∧ T ≤ 3000 := by
  rcases h with e | e | e
  · rw [e]; exact Or.inl (by decide)
  · rw [e]; exact Or.inl (by decide)
  · exact Or.inr e
theorem c_use0 {h : zH} {ra sp so : Nat} {lk hd ht bl sd : Int32} {rt : Int64} {ll lg sv nm wy : List Int32} {po : List Int64} {t rd : Nat} {ps ip : Int64} {im : Int32} {wg ka kb : Int32} {rw cp : Nat → Nat} {Q : zR → Prop} {nw : Int64} (hX : zat h 0 = some (.inr (.inr (.inr (9, [.ref 2, .int (nI t), .ref 4, .ref ra, .ref rd, .long ps, .ref 34, .ref 36, .int im, .long ip, .ref 42, .ref 44, .ref 60, .ref 66, .ref 72, .ref 74, .ref 150, .ref 158]))))) (hA : wArm h ra sp so lk hd ht bl sd rt ll lg sv nm wy po) (hz : wPz h ra so lk hd ht ll lg wy sv po wg ka kb rw cp) (hRw : wRws rw h.length) (hlen : 117 ≤ h.length) (kN : ∀ (h2 : zH) (kn9 : Int32) (fr9 : Int64) (rS : Nat) (N : Nat) (stp : List Int64) (pks : List Int32) (cns : List Int32) (tk9 : Int32) (d9 s9 : Nat), True → True → zat h2 0 = some (.inr (.inr (.inr (9, [.ref 2, .int (nI t), .ref 4, .ref ra, .ref rd, .long ps, .ref 34, .ref 36, .int im, .long ip, .ref 42, .ref 44, .ref 60, .ref 66, .ref 72, .ref 74, .ref 150, .ref 158])))) → zat h2 ra = some (.inr (.inr (.inr (0, [.int lk, .int hd, .int ht, .int bl, .int sd, .long rt, .ref (ra + 2), .ref (ra + 4), .ref (ra + 6), .int (nI sp), .ref (ra + 8), .ref (ra + 10), .int (nI so), .ref (ra + 12)])))) → zat h2 80 = some (.inr (.inr (.inr (6, [.int kn9, .long fr9, .int tk9, .ref 82, .ref 84, .ref rS])))) → zat h2 rS = some (.inr (.inl (N, stp))) → zat h2 82 = some (.inl (0, 10, pks)) → zat h2 84 = some (.inl (0, 10, cns)) → tk9.toInt < 0 → wPQ h ra so lk hd ht ll lg wy sv po rw cp h2 d9 s9 → Q (some (.ref 80), h2, d9, s9)) (kT : ∀ (h2 : zH) (kn9 : Int32) (fr9 : Int64) (rS : Nat) (N : Nat) (stp : List Int64) (pks : List Int32) (cns : List Int32) (T9 : Nat) (d9 s9 : Nat), True → True → zat h2 0 = some (.inr (.inr (.inr (9, [.ref 2, .int (nI t), .ref 4, .ref ra, .ref rd, .long ps, .ref 34, .ref 36, .int im, .long ip, .ref 42, .ref 44, .ref 60, .ref 66, .ref 72, .ref 74, .ref 150, .ref 158])))) → zat h2 ra = some (.inr (.inr (.inr (0, [.int lk, .int hd, .int ht, .int bl, .int sd, .long rt, .ref (ra + 2), .ref (ra + 4), .ref (ra + 6), .int (nI sp), .ref (ra + 8), .ref (ra + 10), .int (nI so), .ref (ra + 12)])))) → zat h2 80 = some (.inr (.inr (.inr (6, [.int kn9, .long fr9, .int (nI T9), .ref 82, .ref 84, .ref rS])))) → zat h2 rS = some (.inr (.inl (N, stp))) → zat h2 82 = some (.inl (0, 10, pks)) → zat h2 84 = some (.inl (0, 10, cns)) → T9 < N ∧ N ≤ 20000 → T9 ≤ 3000 → wPQ h ra so lk hd ht ll lg wy sv po rw cp h2 d9 s9 → Q (some (.ref 80), h2, d9, s9)) : wq 27 0 [(0, .ref 74), (1, .long nw), (3, .int 0)] [] h 0 0 Q := by
  refine wq_mono (c_plan0 hA hz hRw hlen) ?_
  rintro _ ⟨h2, rw2, cp2, wg2, kx, d, s, rfl, q0, q1, q2, q3, q4, q5, q6⟩
  have hA2 := wArm_fx hA q3 (fun q n1 n2 => plC_no hRw (by omega))
  have hX2 := wFx_at q3 (plC_no hRw (by decide)) hX
  obtain ⟨x1, x2, x3, x4, x5⟩ := q1
  have hro := x4
  obtain ⟨fr, tk, st, pk, cn, r1, r2, r3, r4, r5, r6, r7⟩ := hro
  have hPQ : wPQ h ra so lk hd ht ll lg wy sv po rw cp h2 d s := ⟨rw2, cp2, wg2, kx, kb, ⟨x1, x2, x3, x4, x5⟩, q2, q3, q4, q5, q6⟩
  rcases tk_neg (r7 q0) with e | ⟨T, e, e2, e3⟩
  · exact kN h2 kx fr _ _ st pk cn tk d s trivial trivial hX2 hA2.1 r1 r2 r3 r4 e hPQ
  · subst e
    exact kT h2 kx fr _ _ st pk cn T d s trivial trivial hX2 hA2.1 r1 r2 r3 r4 ⟨e2, by omega⟩ e3 hPQ
theorem c_use1 {h : zH} {ra sp so : Nat} {lk hd ht bl sd : Int32} {rt : Int64} {ll lg sv nm wy : List Int32} {po : List Int64} {t rd : Nat} {ps ip : Int64} {im : Int32} {wg ka kb : Int32} {rw cp : Nat → Nat} {Q : zR → Prop} {nw : Int64} (hX : zat h 0 = some (.inr (.inr (.inr (9, [.ref 2, .int (nI t), .ref 4, .ref ra, .ref rd, .long ps, .ref 34, .ref 36, .int im, .long ip, .ref 42, .ref 44, .ref 60, .ref 66, .ref 72, .ref 74, .ref 150, .ref 158]))))) (hA : wArm h ra sp so lk hd ht bl sd rt ll lg sv nm wy po) (hz : wPz h ra so lk hd ht ll lg wy sv po wg ka kb rw cp) (hRw : wRws rw h.length) (hlen : 117 ≤ h.length) (kN : ∀ (h2 : zH) (kn9 : Int32) (fr9 : Int64) (rS : Nat) (N : Nat) (stp : List Int64) (pks : List Int32) (cns : List Int32) (tk9 : Int32) (d9 s9 : Nat), True → True → zat h2 0 = some (.inr (.inr (.inr (9, [.ref 2, .int (nI t), .ref 4, .ref ra, .ref rd, .long ps, .ref 34, .ref 36, .int im, .long ip, .ref 42, .ref 44, .ref 60, .ref 66, .ref 72, .ref 74, .ref 150, .ref 158])))) → zat h2 ra = some (.inr (.inr (.inr (0, [.int lk, .int hd, .int ht, .int bl, .int sd, .long rt, .ref (ra + 2), .ref (ra + 4), .ref (ra + 6), .int (nI sp), .ref (ra + 8), .ref (ra + 10), .int (nI so), .ref (ra + 12)])))) → zat h2 88 = some (.inr (.inr (.inr (6, [.int kn9, .long fr9, .int tk9, .ref 90, .ref 92, .ref rS])))) → zat h2 rS = some (.inr (.inl (N, stp))) → zat h2 90 = some (.inl (0, 10, pks)) → zat h2 92 = some (.inl (0, 10, cns)) → tk9.toInt < 0 → wPQ h ra so lk hd ht ll lg wy sv po rw cp h2 d9 s9 → Q (some (.ref 88), h2, d9, s9)) (kT : ∀ (h2 : zH) (kn9 : Int32) (fr9 : Int64) (rS : Nat) (N : Nat) (stp : List Int64) (pks : List Int32) (cns : List Int32) (T9 : Nat) (d9 s9 : Nat), True → True → zat h2 0 = some (.inr (.inr (.inr (9, [.ref 2, .int (nI t), .ref 4, .ref ra, .ref rd, .long ps, .ref 34, .ref 36, .int im, .long ip, .ref 42, .ref 44, .ref 60, .ref 66, .ref 72, .ref 74, .ref 150, .ref 158])))) → zat h2 ra = some (.inr (.inr (.inr (0, [.int lk, .int hd, .int ht, .int bl, .int sd, .long rt, .ref (ra + 2), .ref (ra + 4), .ref (ra + 6), .int (nI sp), .ref (ra + 8), .ref (ra + 10), .int (nI so), .ref (ra + 12)])))) → zat h2 88 = some (.inr (.inr (.inr (6, [.int kn9, .long fr9, .int (nI T9), .ref 90, .ref 92, .ref rS])))) → zat h2 rS = some (.inr (.inl (N, stp))) → zat h2 90 = some (.inl (0, 10, pks)) → zat h2 92 = some (.inl (0, 10, cns)) → T9 < N ∧ N ≤ 20000 → T9 ≤ 3000 → wPQ h ra so lk hd ht ll lg wy sv po rw cp h2 d9 s9 → Q (some (.ref 88), h2, d9, s9)) : wq 27 0 [(0, .ref 74), (1, .long nw), (3, .int 1)] [] h 0 0 Q := by
  refine wq_mono (c_plan1 hA hz hRw hlen) ?_
  rintro _ ⟨h2, rw2, cp2, wg2, kx, d, s, rfl, q0, q1, q2, q3, q4, q5, q6⟩
  have hA2 := wArm_fx hA q3 (fun q n1 n2 => plC_no hRw (by omega))
  have hX2 := wFx_at q3 (plC_no hRw (by decide)) hX
  obtain ⟨x1, x2, x3, x4, x5⟩ := q1
  have hro := x5
  obtain ⟨fr, tk, st, pk, cn, r1, r2, r3, r4, r5, r6, r7⟩ := hro
  have hPQ : wPQ h ra so lk hd ht ll lg wy sv po rw cp h2 d s := ⟨rw2, cp2, wg2, ka, kx, ⟨x1, x2, x3, x4, x5⟩, q2, q3, q4, q5, q6⟩
  rcases tk_neg (r7 q0) with e | ⟨T, e, e2, e3⟩
  · exact kN h2 kx fr _ _ st pk cn tk d s trivial trivial hX2 hA2.1 r1 r2 r3 r4 e hPQ
  · subst e
    exact kT h2 kx fr _ _ st pk cn T d s trivial trivial hX2 hA2.1 r1 r2 r3 r4 ⟨e2, by omega⟩ e3 hPQ
set_option maxRecDepth 100000 in
set_option maxHeartbeats 4000000 in
theorem c_o122_0 {h : zH} {ra sp so : Nat} {lk hd ht bl sd : Int32} {rt : Int64} {ll lg sv nm wy : List Int32} {po : List Int64} {t rd : Nat} {ps ip : Int64} {im : Int32} {wg ka kb : Int32} {rw cp : Nat → Nat}  (hX : zat h 0 = some (.inr (.inr (.inr (9, [.ref 2, .int (nI t), .ref 4, .ref ra, .ref rd, .long ps, .ref 34, .ref 36, .int im, .long ip, .ref 42, .ref 44, .ref 60, .ref 66, .ref 72, .ref 74, .ref 150, .ref 158]))))) (hA : wArm h ra sp so lk hd ht bl sd rt ll lg sv nm wy po) (hz : wPz h ra so lk hd ht ll lg wy sv po wg ka kb rw cp) (hRw : wRws rw h.length) (hlen : 117 ≤ h.length)  : wq 122 0 [(0, .ref 0), (1, .int 0)] [] h 0 0 (fun r => ∃ v h2 d s, r = (some (.int v), h2, d, s) ∧ wPQ h ra so lk hd ht ll lg wy sv po rw cp h2 d s) := by
  obtain ⟨ob9, pr9, sr9, fw9, al9, fi9, hpl9, lf09, lf19, to9, kn99, ks9, fa9, hp9, li9, e74, _⟩ := hz.2.2.1
  have hAr := hA.1
  have hsc9 := hA.2.2.2.2.2.2.2.1
  unfold wScl at hsc9
  have hsp9 := hA.2.2.2.2.2.2.2.2.2.2.1
  have hso9 := hA.2.2.2.2.2.2.2.2.2.2.2.1.1
  have hra := hA.2.2.2.2.2.2.2.2.2.2.2.2
  have z0 : (0 : Int32).toInt = 0 := rfl
  have z1 : (1 : Int32).toInt = 1 := rfl
  have z5 : (5 : Int32).toInt = 5 := rfl
  have z2 : (2 : Int32).toInt = 2 := rfl
  have z99 : (99 : Int32).toInt = 99 := rfl
  have qnso := nI_toInt (n := so) (by omega)
  refine wq_gos (f := 1) (pc2 := 1) (ls2 := [(0, .ref 0), (1, .int 0)]) (st2 := [.ref 0]) (h2 := h) (dc2 := 0) (ds2 := 0) 1 rfl ?_
  refine wq_getf rfl hX rfl rfl ?_
  refine wq_gos (f := 1) (pc2 := 5) (ls2 := [(0, .ref 0), (1, .int 0)]) (st2 := [.ref 0, .ref 74]) (h2 := h) (dc2 := 0) (ds2 := 0) 1 rfl ?_
  refine wq_getf rfl hX rfl rfl ?_
  refine wq_gos (f := 1) (pc2 := 9) (ls2 := [(0, .ref 0), (1, .int 0)]) (st2 := [.int 0, .long ps, .ref 74]) (h2 := h) (dc2 := 0) (ds2 := 0) 1 rfl ?_
  have q1x : (0 : Int32).toInt = 0 := rfl
  refine wq_inlv (y2 := 27) (as := [.long ps, .int 0]) rfl rfl rfl e74 rfl (c_use0 hX hA hz hRw hlen ?_ ?_)
  · intro h82x kn92x fr92x rS2x N2x stp2x pks2x cns2x tk92x d92x s92x f82x l82x c02x c12x c22x c32x c42x c52x p02x p12x
    show wq 122 12 [(0, .ref 0), (1, .int 0)] [.ref 80] h82x (0 + d92x) (0 + s92x) _
    refine wq_getf rfl c22x rfl rfl ?_
    exact wq_ret rfl rfl ⟨_, h82x, _, _, rfl, by rw [Nat.zero_add, Nat.zero_add]; exact p12x⟩
  · intro h83x kn93x fr93x rS3x N3x stp3x pks3x cns3x T93x d93x s93x f83x l83x c03x c13x c23x c33x c43x c53x p03x p13x p23x
    show wq 122 12 [(0, .ref 0), (1, .int 0)] [.ref 80] h83x (0 + d93x) (0 + s93x) _
    refine wq_getf rfl c23x rfl rfl ?_
    exact wq_ret rfl rfl ⟨_, h83x, _, _, rfl, by rw [Nat.zero_add, Nat.zero_add]; exact p23x⟩
set_option maxRecDepth 100000 in
set_option maxHeartbeats 4000000 in
theorem c_o123_0 {h : zH} {ra sp so : Nat} {lk hd ht bl sd : Int32} {rt : Int64} {ll lg sv nm wy : List Int32} {po : List Int64} {t rd : Nat} {ps ip : Int64} {im : Int32} {wg ka kb : Int32} {rw cp : Nat → Nat} {i : Int32} (hX : zat h 0 = some (.inr (.inr (.inr (9, [.ref 2, .int (nI t), .ref 4, .ref ra, .ref rd, .long ps, .ref 34, .ref 36, .int im, .long ip, .ref 42, .ref 44, .ref 60, .ref 66, .ref 72, .ref 74, .ref 150, .ref 158]))))) (hA : wArm h ra sp so lk hd ht bl sd rt ll lg sv nm wy po) (hz : wPz h ra so lk hd ht ll lg wy sv po wg ka kb rw cp) (hRw : wRws rw h.length) (hlen : 117 ≤ h.length)  : wq 123 0 [(0, .ref 0), (1, .int 0), (2, .int i)] [] h 0 0 (fun r => ∃ v h2 d s, r = (some (.int v), h2, d, s) ∧ wPQ h ra so lk hd ht ll lg wy sv po rw cp h2 d s) := by
  obtain ⟨ob9, pr9, sr9, fw9, al9, fi9, hpl9, lf09, lf19, to9, kn99, ks9, fa9, hp9, li9, e74, _⟩ := hz.2.2.1
  have hAr := hA.1
  have hsc9 := hA.2.2.2.2.2.2.2.1
  unfold wScl at hsc9
  have hsp9 := hA.2.2.2.2.2.2.2.2.2.2.1
  have hso9 := hA.2.2.2.2.2.2.2.2.2.2.2.1.1
  have hra := hA.2.2.2.2.2.2.2.2.2.2.2.2
  have z0 : (0 : Int32).toInt = 0 := rfl
  have z1 : (1 : Int32).toInt = 1 := rfl
  have z5 : (5 : Int32).toInt = 5 := rfl
  have z2 : (2 : Int32).toInt = 2 := rfl
  have z99 : (99 : Int32).toInt = 99 := rfl
  have qnso := nI_toInt (n := so) (by omega)
  refine wq_gos (f := 1) (pc2 := 2) (ls2 := [(0, .ref 0), (1, .int 0), (2, .int i)]) (st2 := [.int i, .ref 0]) (h2 := h) (dc2 := 0) (ds2 := 0) 2 rfl ?_
  refine wq_inlv (y2 := 146) (as := [.int i]) rfl rfl rfl hX rfl ?_
  show wq 146 0 [(0, .ref 0), (1, .int i)] [] h 0 0 _
  refine wq_gos (f := 1) (pc2 := 1) (ls2 := [(0, .ref 0), (1, .int i)]) (st2 := [.int i]) (h2 := h) (dc2 := 0) (ds2 := 0) 1 rfl ?_
  refine wq_lt0 rfl rfl (fun b1x => ?_) (fun b1x => ?_)
  · refine wq_gos (f := 1) (pc2 := 20) (ls2 := [(0, .ref 0), (1, .int i)]) (st2 := [.int 1]) (h2 := h) (dc2 := 0) (ds2 := 0) 2 rfl ?_
    refine wq_ret rfl rfl ?_
    show wq 123 5 [(0, .ref 0), (1, .int 0), (2, .int i)] [.int 1] h 0 0 _
    refine wq_gos (f := 1) (pc2 := 9) (ls2 := [(0, .ref 0), (1, .int 0), (2, .int i)]) (st2 := [.int (-1)]) (h2 := h) (dc2 := 0) (ds2 := 0) 2 rfl ?_
    exact wq_ret rfl rfl ⟨_, h, 0, 0, rfl, wPQ_rf hz hRw⟩
  · refine wq_gos (f := 1) (pc2 := 6) (ls2 := [(0, .ref 0), (1, .int i)]) (st2 := [.ref 0, .int i]) (h2 := h) (dc2 := 0) (ds2 := 0) 2 rfl ?_
    refine wq_getf rfl hX rfl rfl ?_
    refine wq_getf rfl hAr rfl rfl ?_
    try have q2x := nI_toInt (n := so) (by omega)
    refine wq_lt2 rfl rfl (fun b3x => ?_) (fun b3x => ?_)
    · refine wq_gos (f := 1) (pc2 := 20) (ls2 := [(0, .ref 0), (1, .int i)]) (st2 := [.int 0]) (h2 := h) (dc2 := 0) (ds2 := 0) 1 rfl ?_
      refine wq_ret rfl rfl ?_
      show wq 123 5 [(0, .ref 0), (1, .int 0), (2, .int i)] [.int 0] h 0 0 _
      refine wq_gos (f := 1) (pc2 := 11) (ls2 := [(0, .ref 0), (1, .int 0), (2, .int i)]) (st2 := [.ref 0]) (h2 := h) (dc2 := 0) (ds2 := 0) 2 rfl ?_
      refine wq_getf rfl hX rfl rfl ?_
      refine wq_gos (f := 1) (pc2 := 15) (ls2 := [(0, .ref 0), (1, .int 0), (2, .int i)]) (st2 := [.ref 0, .ref 74]) (h2 := h) (dc2 := 0) (ds2 := 0) 1 rfl ?_
      refine wq_getf rfl hX rfl rfl ?_
      refine wq_gos (f := 1) (pc2 := 19) (ls2 := [(0, .ref 0), (1, .int 0), (2, .int i)]) (st2 := [.int 0, .long ps, .ref 74]) (h2 := h) (dc2 := 0) (ds2 := 0) 1 rfl ?_
      have q4x : (0 : Int32).toInt = 0 := rfl
      refine wq_inlv (y2 := 27) (as := [.long ps, .int 0]) rfl rfl rfl e74 rfl (c_use0 hX hA hz hRw hlen ?_ ?_)
      · intro h85x kn95x fr95x rS5x N5x stp5x pks5x cns5x tk95x d95x s95x f85x l85x c05x c15x c25x c35x c45x c55x p05x p15x
        show wq 123 22 [(0, .ref 0), (1, .int 0), (2, .int i)] [.ref 80] h85x (0 + d95x) (0 + s95x) _
        refine wq_gos (f := 1) (pc2 := 24) (ls2 := [(3, .ref 80), (0, .ref 0), (1, .int 0), (2, .int i)]) (st2 := [.ref 80]) (h2 := h85x) (dc2 := (0 + d95x)) (ds2 := (0 + s95x)) 2 rfl ?_
        refine wq_getf rfl c25x rfl rfl ?_
        refine wq_ge0f rfl rfl (by omega) ?_
        refine wq_gos (f := 1) (pc2 := 31) (ls2 := [(3, .ref 80), (0, .ref 0), (1, .int 0), (2, .int i)]) (st2 := [.ref 80]) (h2 := h85x) (dc2 := (0 + d95x)) (ds2 := (0 + s95x)) 1 rfl ?_
        refine wq_getf rfl c25x rfl rfl ?_
        refine wq_gos (f := 1) (pc2 := 43) (ls2 := [(3, .ref 80), (0, .ref 0), (1, .int 0), (2, .int i)]) (st2 := [.int tk95x]) (h2 := h85x) (dc2 := (0 + d95x)) (ds2 := (0 + s95x)) 1 rfl ?_
        exact wq_ret rfl rfl ⟨_, h85x, _, _, rfl, by rw [Nat.zero_add, Nat.zero_add]; exact p15x⟩
      · intro h86x kn96x fr96x rS6x N6x stp6x pks6x cns6x T96x d96x s96x f86x l86x c06x c16x c26x c36x c46x c56x p06x p16x p26x
        show wq 123 22 [(0, .ref 0), (1, .int 0), (2, .int i)] [.ref 80] h86x (0 + d96x) (0 + s96x) _
        refine wq_gos (f := 1) (pc2 := 24) (ls2 := [(3, .ref 80), (0, .ref 0), (1, .int 0), (2, .int i)]) (st2 := [.ref 80]) (h2 := h86x) (dc2 := (0 + d96x)) (ds2 := (0 + s96x)) 2 rfl ?_
        refine wq_getf rfl c26x rfl rfl ?_
        try have q7x := nI_toInt (n := T96x) (by omega)
        refine wq_ge0t rfl (by have := nI_toInt (n := T96x) (by omega); omega) ?_
        refine wq_gos (f := 1) (pc2 := 38) (ls2 := [(3, .ref 80), (0, .ref 0), (1, .int 0), (2, .int i)]) (st2 := [.ref 80]) (h2 := h86x) (dc2 := (0 + d96x)) (ds2 := (0 + s96x)) 1 rfl ?_
        refine wq_getf rfl c26x rfl rfl ?_
        refine wq_gos (f := 1) (pc2 := 42) (ls2 := [(3, .ref 80), (0, .ref 0), (1, .int 0), (2, .int i)]) (st2 := [.int i, .ref 82]) (h2 := h86x) (dc2 := (0 + d96x)) (ds2 := (0 + s96x)) 1 rfl ?_
        refine wq_iald rfl c46x (by first | omega | exact zin_t (by omega) (by omega)) rfl ?_
        exact wq_ret rfl rfl ⟨_, h86x, _, _, rfl, by rw [Nat.zero_add, Nat.zero_add]; exact p26x⟩
    · refine wq_gos (f := 1) (pc2 := 20) (ls2 := [(0, .ref 0), (1, .int i)]) (st2 := [.int 1]) (h2 := h) (dc2 := 0) (ds2 := 0) 2 rfl ?_
      refine wq_ret rfl rfl ?_
      show wq 123 5 [(0, .ref 0), (1, .int 0), (2, .int i)] [.int 1] h 0 0 _
      refine wq_gos (f := 1) (pc2 := 9) (ls2 := [(0, .ref 0), (1, .int 0), (2, .int i)]) (st2 := [.int (-1)]) (h2 := h) (dc2 := 0) (ds2 := 0) 2 rfl ?_
      exact wq_ret rfl rfl ⟨_, h, 0, 0, rfl, wPQ_rf hz hRw⟩
set_option maxRecDepth 100000 in
set_option maxHeartbeats 4000000 in
theorem c_o124_0 {h : zH} {ra sp so : Nat} {lk hd ht bl sd : Int32} {rt : Int64} {ll lg sv nm wy : List Int32} {po : List Int64} {t rd : Nat} {ps ip : Int64} {im : Int32} {wg ka kb : Int32} {rw cp : Nat → Nat} {n j : Int32} (hX : zat h 0 = some (.inr (.inr (.inr (9, [.ref 2, .int (nI t), .ref 4, .ref ra, .ref rd, .long ps, .ref 34, .ref 36, .int im, .long ip, .ref 42, .ref 44, .ref 60, .ref 66, .ref 72, .ref 74, .ref 150, .ref 158]))))) (hA : wArm h ra sp so lk hd ht bl sd rt ll lg sv nm wy po) (hz : wPz h ra so lk hd ht ll lg wy sv po wg ka kb rw cp) (hRw : wRws rw h.length) (hlen : 117 ≤ h.length)  : wq 124 0 [(0, .ref 0), (1, .int 0), (2, .int n), (3, .int j)] [] h 0 0 (fun r => ∃ v h2 d s, r = (some (.int v), h2, d, s) ∧ wPQ h ra so lk hd ht ll lg wy sv po rw cp h2 d s) := by
  obtain ⟨ob9, pr9, sr9, fw9, al9, fi9, hpl9, lf09, lf19, to9, kn99, ks9, fa9, hp9, li9, e74, _⟩ := hz.2.2.1
  have hAr := hA.1
  have hsc9 := hA.2.2.2.2.2.2.2.1
  unfold wScl at hsc9
  have hsp9 := hA.2.2.2.2.2.2.2.2.2.2.1
  have hso9 := hA.2.2.2.2.2.2.2.2.2.2.2.1.1
  have hra := hA.2.2.2.2.2.2.2.2.2.2.2.2
  have z0 : (0 : Int32).toInt = 0 := rfl
  have z1 : (1 : Int32).toInt = 1 := rfl
  have z5 : (5 : Int32).toInt = 5 := rfl
  have z2 : (2 : Int32).toInt = 2 := rfl
  have z99 : (99 : Int32).toInt = 99 := rfl
  have qnso := nI_toInt (n := so) (by omega)
  refine wq_gos (f := 1) (pc2 := 1) (ls2 := [(0, .ref 0), (1, .int 0), (2, .int n), (3, .int j)]) (st2 := [.int j]) (h2 := h) (dc2 := 0) (ds2 := 0) 1 rfl ?_
  refine wq_inl (y2 := 144) (as := [.int j]) rfl rfl rfl ?_
  show wq 144 0 [(0, .int j)] [] h 0 0 _
  refine wq_gos (f := 1) (pc2 := 1) (ls2 := [(0, .int j)]) (st2 := [.int j]) (h2 := h) (dc2 := 0) (ds2 := 0) 1 rfl ?_
  refine wq_lt0 rfl rfl (fun b1x => ?_) (fun b1x => ?_)
  · refine wq_gos (f := 1) (pc2 := 15) (ls2 := [(0, .int j)]) (st2 := [.int 1]) (h2 := h) (dc2 := 0) (ds2 := 0) 2 rfl ?_
    refine wq_ret rfl rfl ?_
    show wq 124 4 [(0, .ref 0), (1, .int 0), (2, .int n), (3, .int j)] [.int 1] h 0 0 _
    refine wq_gos (f := 1) (pc2 := 9) (ls2 := [(0, .ref 0), (1, .int 0), (2, .int n), (3, .int j)]) (st2 := [.int (-99)]) (h2 := h) (dc2 := 0) (ds2 := 0) 2 rfl ?_
    exact wq_ret rfl rfl ⟨_, h, 0, 0, rfl, wPQ_rf hz hRw⟩
  · refine wq_gos (f := 1) (pc2 := 7) (ls2 := [(0, .int j)]) (st2 := [.int 6, .int j]) (h2 := h) (dc2 := 0) (ds2 := 0) 2 rfl ?_
    have q2x : (6 : Int32).toInt = 6 := rfl
    refine wq_lt2 rfl rfl (fun b3x => ?_) (fun b3x => ?_)
    · refine wq_gos (f := 1) (pc2 := 15) (ls2 := [(0, .int j)]) (st2 := [.int 0]) (h2 := h) (dc2 := 0) (ds2 := 0) 1 rfl ?_
      refine wq_ret rfl rfl ?_
      show wq 124 4 [(0, .ref 0), (1, .int 0), (2, .int n), (3, .int j)] [.int 0] h 0 0 _
      refine wq_gos (f := 1) (pc2 := 11) (ls2 := [(0, .ref 0), (1, .int 0), (2, .int n), (3, .int j)]) (st2 := [.ref 0]) (h2 := h) (dc2 := 0) (ds2 := 0) 2 rfl ?_
      refine wq_getf rfl hX rfl rfl ?_
      refine wq_gos (f := 1) (pc2 := 15) (ls2 := [(0, .ref 0), (1, .int 0), (2, .int n), (3, .int j)]) (st2 := [.ref 0, .ref 74]) (h2 := h) (dc2 := 0) (ds2 := 0) 1 rfl ?_
      refine wq_getf rfl hX rfl rfl ?_
      refine wq_gos (f := 1) (pc2 := 19) (ls2 := [(0, .ref 0), (1, .int 0), (2, .int n), (3, .int j)]) (st2 := [.int 0, .long ps, .ref 74]) (h2 := h) (dc2 := 0) (ds2 := 0) 1 rfl ?_
      have q4x : (0 : Int32).toInt = 0 := rfl
      refine wq_inlv (y2 := 27) (as := [.long ps, .int 0]) rfl rfl rfl e74 rfl (c_use0 hX hA hz hRw hlen ?_ ?_)
      · intro h85x kn95x fr95x rS5x N5x stp5x pks5x cns5x tk95x d95x s95x f85x l85x c05x c15x c25x c35x c45x c55x p05x p15x
        show wq 124 22 [(0, .ref 0), (1, .int 0), (2, .int n), (3, .int j)] [.ref 80] h85x (0 + d95x) (0 + s95x) _
        refine wq_gos (f := 1) (pc2 := 26) (ls2 := [(4, .ref 80), (0, .ref 0), (1, .int 0), (2, .int n), (3, .int j)]) (st2 := [.ref 80]) (h2 := h85x) (dc2 := (0 + d95x)) (ds2 := (0 + s95x)) 2 rfl ?_
        refine wq_getf rfl c25x rfl rfl ?_
        refine wq_lt0t rfl (by omega) ?_
        refine wq_gos (f := 1) (pc2 := 57) (ls2 := [(4, .ref 80), (0, .ref 0), (1, .int 0), (2, .int n), (3, .int j)]) (st2 := [.int (-99)]) (h2 := h85x) (dc2 := (0 + d95x)) (ds2 := (0 + s95x)) 2 rfl ?_
        exact wq_ret rfl rfl ⟨_, h85x, _, _, rfl, by rw [Nat.zero_add, Nat.zero_add]; exact p15x⟩
      · intro h86x kn96x fr96x rS6x N6x stp6x pks6x cns6x T96x d96x s96x f86x l86x c06x c16x c26x c36x c46x c56x p06x p16x p26x
        show wq 124 22 [(0, .ref 0), (1, .int 0), (2, .int n), (3, .int j)] [.ref 80] h86x (0 + d96x) (0 + s96x) _
        refine wq_gos (f := 1) (pc2 := 26) (ls2 := [(4, .ref 80), (0, .ref 0), (1, .int 0), (2, .int n), (3, .int j)]) (st2 := [.ref 80]) (h2 := h86x) (dc2 := (0 + d96x)) (ds2 := (0 + s96x)) 2 rfl ?_
        refine wq_getf rfl c26x rfl rfl ?_
        try have q7x := nI_toInt (n := T96x) (by omega)
        refine wq_lt0f rfl rfl (by have := nI_toInt (n := T96x) (by omega); omega) ?_
        refine wq_gos (f := 1) (pc2 := 33) (ls2 := [(4, .ref 80), (0, .ref 0), (1, .int 0), (2, .int n), (3, .int j)]) (st2 := [.int n]) (h2 := h86x) (dc2 := (0 + d96x)) (ds2 := (0 + s96x)) 1 rfl ?_
        refine wq_lt0 rfl rfl (fun b8x => ?_) (fun b8x => ?_)
        · refine wq_gos (f := 1) (pc2 := 57) (ls2 := [(4, .ref 80), (0, .ref 0), (1, .int 0), (2, .int n), (3, .int j)]) (st2 := [.int (-99)]) (h2 := h86x) (dc2 := (0 + d96x)) (ds2 := (0 + s96x)) 2 rfl ?_
          exact wq_ret rfl rfl ⟨_, h86x, _, _, rfl, by rw [Nat.zero_add, Nat.zero_add]; exact p26x⟩
        · refine wq_gos (f := 1) (pc2 := 39) (ls2 := [(4, .ref 80), (0, .ref 0), (1, .int 0), (2, .int n), (3, .int j)]) (st2 := [.ref 80, .int n]) (h2 := h86x) (dc2 := (0 + d96x)) (ds2 := (0 + s96x)) 2 rfl ?_
          refine wq_getf rfl c26x rfl rfl ?_
          refine wq_le2 rfl rfl (fun b9x => ?_) (fun b9x => ?_)
          · refine wq_gos (f := 1) (pc2 := 54) (ls2 := [(4, .ref 80), (0, .ref 0), (1, .int 0), (2, .int n), (3, .int j)]) (st2 := [.int j, .int n, .ref 80]) (h2 := h86x) (dc2 := (0 + d96x)) (ds2 := (0 + s96x)) 3 rfl ?_
            refine wq_inlv (y2 := 70) (as := [.int n, .int j]) rfl rfl rfl c26x rfl (wq_mono (c_nat c26x c36x (by first | assumption | omega | decide | solve_by_elim)) ?_)
            rintro _ rfl
            show wq 124 57 [(4, .ref 80), (0, .ref 0), (1, .int 0), (2, .int n), (3, .int j)] [.int (jNat T96x stp6x n j)] h86x (0 + d96x) (0 + s96x) _
            exact wq_ret rfl rfl ⟨_, h86x, _, _, rfl, by rw [Nat.zero_add, Nat.zero_add]; exact p26x⟩
          · refine wq_gos (f := 1) (pc2 := 57) (ls2 := [(4, .ref 80), (0, .ref 0), (1, .int 0), (2, .int n), (3, .int j)]) (st2 := [.int (-99)]) (h2 := h86x) (dc2 := (0 + d96x)) (ds2 := (0 + s96x)) 2 rfl ?_
            exact wq_ret rfl rfl ⟨_, h86x, _, _, rfl, by rw [Nat.zero_add, Nat.zero_add]; exact p26x⟩
    · refine wq_gos (f := 1) (pc2 := 15) (ls2 := [(0, .int j)]) (st2 := [.int 1]) (h2 := h) (dc2 := 0) (ds2 := 0) 2 rfl ?_
      refine wq_ret rfl rfl ?_
      show wq 124 4 [(0, .ref 0), (1, .int 0), (2, .int n), (3, .int j)] [.int 1] h 0 0 _
      refine wq_gos (f := 1) (pc2 := 9) (ls2 := [(0, .ref 0), (1, .int 0), (2, .int n), (3, .int j)]) (st2 := [.int (-99)]) (h2 := h) (dc2 := 0) (ds2 := 0) 2 rfl ?_
      exact wq_ret rfl rfl ⟨_, h, 0, 0, rfl, wPQ_rf hz hRw⟩
set_option maxRecDepth 100000 in
set_option maxHeartbeats 4000000 in
theorem c_o125_0 {h : zH} {ra sp so : Nat} {lk hd ht bl sd : Int32} {rt : Int64} {ll lg sv nm wy : List Int32} {po : List Int64} {t rd : Nat} {ps ip : Int64} {im : Int32} {wg ka kb : Int32} {rw cp : Nat → Nat} {n j : Int32} (hX : zat h 0 = some (.inr (.inr (.inr (9, [.ref 2, .int (nI t), .ref 4, .ref ra, .ref rd, .long ps, .ref 34, .ref 36, .int im, .long ip, .ref 42, .ref 44, .ref 60, .ref 66, .ref 72, .ref 74, .ref 150, .ref 158]))))) (hA : wArm h ra sp so lk hd ht bl sd rt ll lg sv nm wy po) (hz : wPz h ra so lk hd ht ll lg wy sv po wg ka kb rw cp) (hRw : wRws rw h.length) (hlen : 117 ≤ h.length)  : wq 125 0 [(0, .ref 0), (1, .int 0), (2, .int n), (3, .int j)] [] h 0 0 (fun r => ∃ v h2 d s, r = (some (.int v), h2, d, s) ∧ wPQ h ra so lk hd ht ll lg wy sv po rw cp h2 d s) := by
  obtain ⟨ob9, pr9, sr9, fw9, al9, fi9, hpl9, lf09, lf19, to9, kn99, ks9, fa9, hp9, li9, e74, _⟩ := hz.2.2.1
  have hAr := hA.1
  have hsc9 := hA.2.2.2.2.2.2.2.1
  unfold wScl at hsc9
  have hsp9 := hA.2.2.2.2.2.2.2.2.2.2.1
  have hso9 := hA.2.2.2.2.2.2.2.2.2.2.2.1.1
  have hra := hA.2.2.2.2.2.2.2.2.2.2.2.2
  have z0 : (0 : Int32).toInt = 0 := rfl
  have z1 : (1 : Int32).toInt = 1 := rfl
  have z5 : (5 : Int32).toInt = 5 := rfl
  have z2 : (2 : Int32).toInt = 2 := rfl
  have z99 : (99 : Int32).toInt = 99 := rfl
  have qnso := nI_toInt (n := so) (by omega)
  refine wq_gos (f := 1) (pc2 := 1) (ls2 := [(0, .ref 0), (1, .int 0), (2, .int n), (3, .int j)]) (st2 := [.int j]) (h2 := h) (dc2 := 0) (ds2 := 0) 1 rfl ?_
  refine wq_inl (y2 := 144) (as := [.int j]) rfl rfl rfl ?_
  show wq 144 0 [(0, .int j)] [] h 0 0 _
  refine wq_gos (f := 1) (pc2 := 1) (ls2 := [(0, .int j)]) (st2 := [.int j]) (h2 := h) (dc2 := 0) (ds2 := 0) 1 rfl ?_
  refine wq_lt0 rfl rfl (fun b1x => ?_) (fun b1x => ?_)
  · refine wq_gos (f := 1) (pc2 := 15) (ls2 := [(0, .int j)]) (st2 := [.int 1]) (h2 := h) (dc2 := 0) (ds2 := 0) 2 rfl ?_
    refine wq_ret rfl rfl ?_
    show wq 125 4 [(0, .ref 0), (1, .int 0), (2, .int n), (3, .int j)] [.int 1] h 0 0 _
    refine wq_gos (f := 1) (pc2 := 10) (ls2 := [(0, .ref 0), (1, .int 0), (2, .int n), (3, .int j)]) (st2 := [.int (-9999)]) (h2 := h) (dc2 := 0) (ds2 := 0) 2 rfl ?_
    exact wq_ret rfl rfl ⟨_, h, 0, 0, rfl, wPQ_rf hz hRw⟩
  · refine wq_gos (f := 1) (pc2 := 7) (ls2 := [(0, .int j)]) (st2 := [.int 6, .int j]) (h2 := h) (dc2 := 0) (ds2 := 0) 2 rfl ?_
    have q2x : (6 : Int32).toInt = 6 := rfl
    refine wq_lt2 rfl rfl (fun b3x => ?_) (fun b3x => ?_)
    · refine wq_gos (f := 1) (pc2 := 15) (ls2 := [(0, .int j)]) (st2 := [.int 0]) (h2 := h) (dc2 := 0) (ds2 := 0) 1 rfl ?_
      refine wq_ret rfl rfl ?_
      show wq 125 4 [(0, .ref 0), (1, .int 0), (2, .int n), (3, .int j)] [.int 0] h 0 0 _
      refine wq_gos (f := 1) (pc2 := 12) (ls2 := [(0, .ref 0), (1, .int 0), (2, .int n), (3, .int j)]) (st2 := [.ref 0]) (h2 := h) (dc2 := 0) (ds2 := 0) 2 rfl ?_
      refine wq_getf rfl hX rfl rfl ?_
      refine wq_gos (f := 1) (pc2 := 16) (ls2 := [(0, .ref 0), (1, .int 0), (2, .int n), (3, .int j)]) (st2 := [.ref 0, .ref 74]) (h2 := h) (dc2 := 0) (ds2 := 0) 1 rfl ?_
      refine wq_getf rfl hX rfl rfl ?_
      refine wq_gos (f := 1) (pc2 := 20) (ls2 := [(0, .ref 0), (1, .int 0), (2, .int n), (3, .int j)]) (st2 := [.int 0, .long ps, .ref 74]) (h2 := h) (dc2 := 0) (ds2 := 0) 1 rfl ?_
      have q4x : (0 : Int32).toInt = 0 := rfl
      refine wq_inlv (y2 := 27) (as := [.long ps, .int 0]) rfl rfl rfl e74 rfl (c_use0 hX hA hz hRw hlen ?_ ?_)
      · intro h85x kn95x fr95x rS5x N5x stp5x pks5x cns5x tk95x d95x s95x f85x l85x c05x c15x c25x c35x c45x c55x p05x p15x
        show wq 125 23 [(0, .ref 0), (1, .int 0), (2, .int n), (3, .int j)] [.ref 80] h85x (0 + d95x) (0 + s95x) _
        refine wq_gos (f := 1) (pc2 := 27) (ls2 := [(4, .ref 80), (0, .ref 0), (1, .int 0), (2, .int n), (3, .int j)]) (st2 := [.ref 80]) (h2 := h85x) (dc2 := (0 + d95x)) (ds2 := (0 + s95x)) 2 rfl ?_
        refine wq_getf rfl c25x rfl rfl ?_
        refine wq_lt0t rfl (by omega) ?_
        refine wq_gos (f := 1) (pc2 := 65) (ls2 := [(4, .ref 80), (0, .ref 0), (1, .int 0), (2, .int n), (3, .int j)]) (st2 := [.int (-9999)]) (h2 := h85x) (dc2 := (0 + d95x)) (ds2 := (0 + s95x)) 1 rfl ?_
        exact wq_ret rfl rfl ⟨_, h85x, _, _, rfl, by rw [Nat.zero_add, Nat.zero_add]; exact p15x⟩
      · intro h86x kn96x fr96x rS6x N6x stp6x pks6x cns6x T96x d96x s96x f86x l86x c06x c16x c26x c36x c46x c56x p06x p16x p26x
        show wq 125 23 [(0, .ref 0), (1, .int 0), (2, .int n), (3, .int j)] [.ref 80] h86x (0 + d96x) (0 + s96x) _
        refine wq_gos (f := 1) (pc2 := 27) (ls2 := [(4, .ref 80), (0, .ref 0), (1, .int 0), (2, .int n), (3, .int j)]) (st2 := [.ref 80]) (h2 := h86x) (dc2 := (0 + d96x)) (ds2 := (0 + s96x)) 2 rfl ?_
        refine wq_getf rfl c26x rfl rfl ?_
        try have q7x := nI_toInt (n := T96x) (by omega)
        refine wq_lt0f rfl rfl (by have := nI_toInt (n := T96x) (by omega); omega) ?_
        refine wq_gos (f := 1) (pc2 := 35) (ls2 := [(4, .ref 80), (0, .ref 0), (1, .int 0), (2, .int n), (3, .int j)]) (st2 := [.ref 0, .int n]) (h2 := h86x) (dc2 := (0 + d96x)) (ds2 := (0 + s96x)) 2 rfl ?_
        refine wq_getf rfl c06x rfl rfl ?_
        refine wq_getf rfl c16x rfl rfl ?_
        refine wq_gos (f := 1) (pc2 := 42) (ls2 := [(4, .ref 80), (0, .ref 0), (1, .int 0), (2, .int n), (3, .int j)]) (st2 := [.int (-bl), .int n]) (h2 := h86x) (dc2 := (0 + d96x)) (ds2 := (0 + s96x)) 1 rfl ?_
        try have q8x : ((-bl)).toInt = -bl.toInt := e_neg (by omega)
        refine wq_lt2 rfl rfl (fun b9x => ?_) (fun b9x => ?_)
        · refine wq_gos (f := 1) (pc2 := 65) (ls2 := [(4, .ref 80), (0, .ref 0), (1, .int 0), (2, .int n), (3, .int j)]) (st2 := [.int (-9999)]) (h2 := h86x) (dc2 := (0 + d96x)) (ds2 := (0 + s96x)) 1 rfl ?_
          exact wq_ret rfl rfl ⟨_, h86x, _, _, rfl, by rw [Nat.zero_add, Nat.zero_add]; exact p26x⟩
        · refine wq_gos (f := 1) (pc2 := 48) (ls2 := [(4, .ref 80), (0, .ref 0), (1, .int 0), (2, .int n), (3, .int j)]) (st2 := [.ref 80, .int n]) (h2 := h86x) (dc2 := (0 + d96x)) (ds2 := (0 + s96x)) 2 rfl ?_
          refine wq_getf rfl c26x rfl rfl ?_
          refine wq_gos (f := 1) (pc2 := 52) (ls2 := [(4, .ref 80), (0, .ref 0), (1, .int 0), (2, .int n), (3, .int j)]) (st2 := [.ref 0, .int (nI T96x), .int n]) (h2 := h86x) (dc2 := (0 + d96x)) (ds2 := (0 + s96x)) 1 rfl ?_
          refine wq_getf rfl c06x rfl rfl ?_
          refine wq_getf rfl c16x rfl rfl ?_
          refine wq_gos (f := 1) (pc2 := 59) (ls2 := [(4, .ref 80), (0, .ref 0), (1, .int 0), (2, .int n), (3, .int j)]) (st2 := [.int ((nI T96x) + bl), .int n]) (h2 := h86x) (dc2 := (0 + d96x)) (ds2 := (0 + s96x)) 1 rfl ?_
          try have q10x : (((nI T96x) + bl)).toInt = (nI T96x).toInt + bl.toInt := e_add (by omega) (by omega)
          refine wq_le2 rfl rfl (fun b11x => ?_) (fun b11x => ?_)
          · refine wq_gos (f := 1) (pc2 := 71) (ls2 := [(4, .ref 80), (0, .ref 0), (1, .int 0), (2, .int n), (3, .int j)]) (st2 := [.ref 0, .int j, .int n, .ref 80]) (h2 := h86x) (dc2 := (0 + d96x)) (ds2 := (0 + s96x)) 4 rfl ?_
            refine wq_getf rfl c06x rfl rfl ?_
            refine wq_getf rfl c16x rfl rfl ?_
            refine wq_inlv (y2 := 71) (as := [.int n, .int j, .int bl]) rfl rfl rfl c26x rfl (wq_mono (c_sa c26x c36x (by first | assumption | omega | decide | solve_by_elim) (by first | assumption | omega | decide | solve_by_elim)) ?_)
            rintro _ rfl
            show wq 125 80 [(4, .ref 80), (0, .ref 0), (1, .int 0), (2, .int n), (3, .int j)] [.int (saF T96x stp6x n j bl ((bl.toInt + 1 - (-bl).toInt).toNat + 1) 0 (-bl))] h86x (0 + d96x) (0 + s96x) _
            exact wq_ret rfl rfl ⟨_, h86x, _, _, rfl, by rw [Nat.zero_add, Nat.zero_add]; exact p26x⟩
          · refine wq_gos (f := 1) (pc2 := 65) (ls2 := [(4, .ref 80), (0, .ref 0), (1, .int 0), (2, .int n), (3, .int j)]) (st2 := [.int (-9999)]) (h2 := h86x) (dc2 := (0 + d96x)) (ds2 := (0 + s96x)) 1 rfl ?_
            exact wq_ret rfl rfl ⟨_, h86x, _, _, rfl, by rw [Nat.zero_add, Nat.zero_add]; exact p26x⟩
    · refine wq_gos (f := 1) (pc2 := 15) (ls2 := [(0, .int j)]) (st2 := [.int 1]) (h2 := h) (dc2 := 0) (ds2 := 0) 2 rfl ?_
      refine wq_ret rfl rfl ?_
      show wq 125 4 [(0, .ref 0), (1, .int 0), (2, .int n), (3, .int j)] [.int 1] h 0 0 _
      refine wq_gos (f := 1) (pc2 := 10) (ls2 := [(0, .ref 0), (1, .int 0), (2, .int n), (3, .int j)]) (st2 := [.int (-9999)]) (h2 := h) (dc2 := 0) (ds2 := 0) 2 rfl ?_
      exact wq_ret rfl rfl ⟨_, h, 0, 0, rfl, wPQ_rf hz hRw⟩
set_option maxRecDepth 100000 in
set_option maxHeartbeats 4000000 in
theorem c_o126_0 {h : zH} {ra sp so : Nat} {lk hd ht bl sd : Int32} {rt : Int64} {ll lg sv nm wy : List Int32} {po : List Int64} {t rd : Nat} {ps ip : Int64} {im : Int32} {wg ka kb : Int32} {rw cp : Nat → Nat} {j sm : Int32} (hX : zat h 0 = some (.inr (.inr (.inr (9, [.ref 2, .int (nI t), .ref 4, .ref ra, .ref rd, .long ps, .ref 34, .ref 36, .int im, .long ip, .ref 42, .ref 44, .ref 60, .ref 66, .ref 72, .ref 74, .ref 150, .ref 158]))))) (hA : wArm h ra sp so lk hd ht bl sd rt ll lg sv nm wy po) (hz : wPz h ra so lk hd ht ll lg wy sv po wg ka kb rw cp) (hRw : wRws rw h.length) (hlen : 117 ≤ h.length)  : wq 126 0 [(0, .ref 0), (1, .int 0), (2, .int j), (3, .int sm)] [] h 0 0 (fun r => ∃ v h2 d s, r = (some (.int v), h2, d, s) ∧ wPQ h ra so lk hd ht ll lg wy sv po rw cp h2 d s) := by
  obtain ⟨ob9, pr9, sr9, fw9, al9, fi9, hpl9, lf09, lf19, to9, kn99, ks9, fa9, hp9, li9, e74, _⟩ := hz.2.2.1
  have hAr := hA.1
  have hsc9 := hA.2.2.2.2.2.2.2.1
  unfold wScl at hsc9
  have hsp9 := hA.2.2.2.2.2.2.2.2.2.2.1
  have hso9 := hA.2.2.2.2.2.2.2.2.2.2.2.1.1
  have hra := hA.2.2.2.2.2.2.2.2.2.2.2.2
  have z0 : (0 : Int32).toInt = 0 := rfl
  have z1 : (1 : Int32).toInt = 1 := rfl
  have z5 : (5 : Int32).toInt = 5 := rfl
  have z2 : (2 : Int32).toInt = 2 := rfl
  have z99 : (99 : Int32).toInt = 99 := rfl
  have qnso := nI_toInt (n := so) (by omega)
  refine wq_gos (f := 1) (pc2 := 1) (ls2 := [(0, .ref 0), (1, .int 0), (2, .int j), (3, .int sm)]) (st2 := [.int j]) (h2 := h) (dc2 := 0) (ds2 := 0) 1 rfl ?_
  refine wq_inl (y2 := 144) (as := [.int j]) rfl rfl rfl ?_
  show wq 144 0 [(0, .int j)] [] h 0 0 _
  refine wq_gos (f := 1) (pc2 := 1) (ls2 := [(0, .int j)]) (st2 := [.int j]) (h2 := h) (dc2 := 0) (ds2 := 0) 1 rfl ?_
  refine wq_lt0 rfl rfl (fun b1x => ?_) (fun b1x => ?_)
  · refine wq_gos (f := 1) (pc2 := 15) (ls2 := [(0, .int j)]) (st2 := [.int 1]) (h2 := h) (dc2 := 0) (ds2 := 0) 2 rfl ?_
    refine wq_ret rfl rfl ?_
    show wq 126 4 [(0, .ref 0), (1, .int 0), (2, .int j), (3, .int sm)] [.int 1] h 0 0 _
    refine wq_gos (f := 1) (pc2 := 8) (ls2 := [(0, .ref 0), (1, .int 0), (2, .int j), (3, .int sm)]) (st2 := [.int (-1)]) (h2 := h) (dc2 := 0) (ds2 := 0) 2 rfl ?_
    exact wq_ret rfl rfl ⟨_, h, 0, 0, rfl, wPQ_rf hz hRw⟩
  · refine wq_gos (f := 1) (pc2 := 7) (ls2 := [(0, .int j)]) (st2 := [.int 6, .int j]) (h2 := h) (dc2 := 0) (ds2 := 0) 2 rfl ?_
    have q2x : (6 : Int32).toInt = 6 := rfl
    refine wq_lt2 rfl rfl (fun b3x => ?_) (fun b3x => ?_)
    · refine wq_gos (f := 1) (pc2 := 15) (ls2 := [(0, .int j)]) (st2 := [.int 0]) (h2 := h) (dc2 := 0) (ds2 := 0) 1 rfl ?_
      refine wq_ret rfl rfl ?_
      show wq 126 4 [(0, .ref 0), (1, .int 0), (2, .int j), (3, .int sm)] [.int 0] h 0 0 _
      refine wq_gos (f := 1) (pc2 := 10) (ls2 := [(0, .ref 0), (1, .int 0), (2, .int j), (3, .int sm)]) (st2 := [.ref 0]) (h2 := h) (dc2 := 0) (ds2 := 0) 2 rfl ?_
      refine wq_getf rfl hX rfl rfl ?_
      refine wq_gos (f := 1) (pc2 := 14) (ls2 := [(0, .ref 0), (1, .int 0), (2, .int j), (3, .int sm)]) (st2 := [.ref 0, .ref 74]) (h2 := h) (dc2 := 0) (ds2 := 0) 1 rfl ?_
      refine wq_getf rfl hX rfl rfl ?_
      refine wq_gos (f := 1) (pc2 := 18) (ls2 := [(0, .ref 0), (1, .int 0), (2, .int j), (3, .int sm)]) (st2 := [.int 0, .long ps, .ref 74]) (h2 := h) (dc2 := 0) (ds2 := 0) 1 rfl ?_
      have q4x : (0 : Int32).toInt = 0 := rfl
      refine wq_inlv (y2 := 27) (as := [.long ps, .int 0]) rfl rfl rfl e74 rfl (c_use0 hX hA hz hRw hlen ?_ ?_)
      · intro h85x kn95x fr95x rS5x N5x stp5x pks5x cns5x tk95x d95x s95x f85x l85x c05x c15x c25x c35x c45x c55x p05x p15x
        show wq 126 21 [(0, .ref 0), (1, .int 0), (2, .int j), (3, .int sm)] [.ref 80] h85x (0 + d95x) (0 + s95x) _
        refine wq_gos (f := 1) (pc2 := 25) (ls2 := [(4, .ref 80), (0, .ref 0), (1, .int 0), (2, .int j), (3, .int sm)]) (st2 := [.ref 80]) (h2 := h85x) (dc2 := (0 + d95x)) (ds2 := (0 + s95x)) 2 rfl ?_
        refine wq_getf rfl c25x rfl rfl ?_
        refine wq_ge0f rfl rfl (by omega) ?_
        refine wq_gos (f := 1) (pc2 := 33) (ls2 := [(4, .ref 80), (0, .ref 0), (1, .int 0), (2, .int j), (3, .int sm)]) (st2 := [.ref 80]) (h2 := h85x) (dc2 := (0 + d95x)) (ds2 := (0 + s95x)) 1 rfl ?_
        refine wq_getf rfl c25x rfl rfl ?_
        refine wq_gos (f := 1) (pc2 := 60) (ls2 := [(4, .ref 80), (0, .ref 0), (1, .int 0), (2, .int j), (3, .int sm)]) (st2 := [.int tk95x]) (h2 := h85x) (dc2 := (0 + d95x)) (ds2 := (0 + s95x)) 1 rfl ?_
        exact wq_ret rfl rfl ⟨_, h85x, _, _, rfl, by rw [Nat.zero_add, Nat.zero_add]; exact p15x⟩
      · intro h86x kn96x fr96x rS6x N6x stp6x pks6x cns6x T96x d96x s96x f86x l86x c06x c16x c26x c36x c46x c56x p06x p16x p26x
        show wq 126 21 [(0, .ref 0), (1, .int 0), (2, .int j), (3, .int sm)] [.ref 80] h86x (0 + d96x) (0 + s96x) _
        refine wq_gos (f := 1) (pc2 := 25) (ls2 := [(4, .ref 80), (0, .ref 0), (1, .int 0), (2, .int j), (3, .int sm)]) (st2 := [.ref 80]) (h2 := h86x) (dc2 := (0 + d96x)) (ds2 := (0 + s96x)) 2 rfl ?_
        refine wq_getf rfl c26x rfl rfl ?_
        try have q7x := nI_toInt (n := T96x) (by omega)
        refine wq_ge0t rfl (by have := nI_toInt (n := T96x) (by omega); omega) ?_
        refine wq_gos (f := 1) (pc2 := 43) (ls2 := [(4, .ref 80), (0, .ref 0), (1, .int 0), (2, .int j), (3, .int sm)]) (st2 := [.int sm, .int j, .ref 80]) (h2 := h86x) (dc2 := (0 + d96x)) (ds2 := (0 + s96x)) 3 rfl ?_
        refine wq_eq0 rfl rfl (fun b8x => ?_) (fun b8x => ?_)
        · have q9x : sm.toInt = 0 := congrArg Int32.toInt b8x
          refine wq_gos (f := 1) (pc2 := 57) (ls2 := [(4, .ref 80), (0, .ref 0), (1, .int 0), (2, .int j), (3, .int sm)]) (st2 := [.int 0, .int j, .ref 80]) (h2 := h86x) (dc2 := (0 + d96x)) (ds2 := (0 + s96x)) 1 rfl ?_
          refine wq_inlv (y2 := 72) (as := [.int j, .int 0]) rfl rfl rfl c26x rfl (wq_mono (c_gs c26x c36x (by first | assumption | omega | decide | solve_by_elim) (by first | assumption | omega | decide | solve_by_elim)) ?_)
          rintro _ rfl
          show wq 126 60 [(4, .ref 80), (0, .ref 0), (1, .int 0), (2, .int j), (3, .int sm)] [.int (gsF T96x stp6x j (0 : Int32) ((T96x + (0 : Int32).toInt - (-(0 : Int32)).toInt).toNat + 1) 0 (-(0 : Int32)))] h86x (0 + d96x) (0 + s96x) _
          exact wq_ret rfl rfl ⟨_, h86x, _, _, rfl, by rw [Nat.zero_add, Nat.zero_add]; exact p26x⟩
        · have q11x : sm.toInt ≠ 0 := fun q => b8x (Int32.toInt_inj.mp q)
          refine wq_gos (f := 1) (pc2 := 47) (ls2 := [(4, .ref 80), (0, .ref 0), (1, .int 0), (2, .int j), (3, .int sm)]) (st2 := [.ref 0, .int j, .ref 80]) (h2 := h86x) (dc2 := (0 + d96x)) (ds2 := (0 + s96x)) 1 rfl ?_
          refine wq_getf rfl c06x rfl rfl ?_
          refine wq_getf rfl c16x rfl rfl ?_
          refine wq_gos (f := 1) (pc2 := 57) (ls2 := [(4, .ref 80), (0, .ref 0), (1, .int 0), (2, .int j), (3, .int sm)]) (st2 := [.int bl, .int j, .ref 80]) (h2 := h86x) (dc2 := (0 + d96x)) (ds2 := (0 + s96x)) 1 rfl ?_
          refine wq_inlv (y2 := 72) (as := [.int j, .int bl]) rfl rfl rfl c26x rfl (wq_mono (c_gs c26x c36x (by first | assumption | omega | decide | solve_by_elim) (by first | assumption | omega | decide | solve_by_elim)) ?_)
          rintro _ rfl
          show wq 126 60 [(4, .ref 80), (0, .ref 0), (1, .int 0), (2, .int j), (3, .int sm)] [.int (gsF T96x stp6x j bl ((T96x + bl.toInt - (-bl).toInt).toNat + 1) 0 (-bl))] h86x (0 + d96x) (0 + s96x) _
          exact wq_ret rfl rfl ⟨_, h86x, _, _, rfl, by rw [Nat.zero_add, Nat.zero_add]; exact p26x⟩
    · refine wq_gos (f := 1) (pc2 := 15) (ls2 := [(0, .int j)]) (st2 := [.int 1]) (h2 := h) (dc2 := 0) (ds2 := 0) 2 rfl ?_
      refine wq_ret rfl rfl ?_
      show wq 126 4 [(0, .ref 0), (1, .int 0), (2, .int j), (3, .int sm)] [.int 1] h 0 0 _
      refine wq_gos (f := 1) (pc2 := 8) (ls2 := [(0, .ref 0), (1, .int 0), (2, .int j), (3, .int sm)]) (st2 := [.int (-1)]) (h2 := h) (dc2 := 0) (ds2 := 0) 2 rfl ?_
      exact wq_ret rfl rfl ⟨_, h, 0, 0, rfl, wPQ_rf hz hRw⟩
set_option maxRecDepth 100000 in
set_option maxHeartbeats 4000000 in
theorem c_o127_0 {h : zH} {ra sp so : Nat} {lk hd ht bl sd : Int32} {rt : Int64} {ll lg sv nm wy : List Int32} {po : List Int64} {t rd : Nat} {ps ip : Int64} {im : Int32} {wg ka kb : Int32} {rw cp : Nat → Nat} {i : Nat} {j : Int32} (hX : zat h 0 = some (.inr (.inr (.inr (9, [.ref 2, .int (nI t), .ref 4, .ref ra, .ref rd, .long ps, .ref 34, .ref 36, .int im, .long ip, .ref 42, .ref 44, .ref 60, .ref 66, .ref 72, .ref 74, .ref 150, .ref 158]))))) (hA : wArm h ra sp so lk hd ht bl sd rt ll lg sv nm wy po) (hz : wPz h ra so lk hd ht ll lg wy sv po wg ka kb rw cp) (hRw : wRws rw h.length) (hlen : 117 ≤ h.length) (hi : i < so ∧ so ≤ 10) : wq 127 0 [(0, .ref 0), (1, .int 0), (2, .int (nI i)), (3, .int j)] [] h 0 0 (fun r => ∃ v h2 d s, r = (some (.int v), h2, d, s) ∧ wPQ h ra so lk hd ht ll lg wy sv po rw cp h2 d s) := by
  obtain ⟨ob9, pr9, sr9, fw9, al9, fi9, hpl9, lf09, lf19, to9, kn99, ks9, fa9, hp9, li9, e74, _⟩ := hz.2.2.1
  have hAr := hA.1
  have hsc9 := hA.2.2.2.2.2.2.2.1
  unfold wScl at hsc9
  have hsp9 := hA.2.2.2.2.2.2.2.2.2.2.1
  have hso9 := hA.2.2.2.2.2.2.2.2.2.2.2.1.1
  have hra := hA.2.2.2.2.2.2.2.2.2.2.2.2
  have qni := nI_toInt (n := i) (by omega)
  have z0 : (0 : Int32).toInt = 0 := rfl
  have z1 : (1 : Int32).toInt = 1 := rfl
  have z5 : (5 : Int32).toInt = 5 := rfl
  have z2 : (2 : Int32).toInt = 2 := rfl
  have z99 : (99 : Int32).toInt = 99 := rfl
  have qnso := nI_toInt (n := so) (by omega)
  refine wq_gos (f := 1) (pc2 := 2) (ls2 := [(0, .ref 0), (1, .int 0), (2, .int (nI i)), (3, .int j)]) (st2 := [.int (nI i), .ref 0]) (h2 := h) (dc2 := 0) (ds2 := 0) 2 rfl ?_
  refine wq_inlv (y2 := 146) (as := [.int (nI i)]) rfl rfl rfl hX rfl ?_
  show wq 146 0 [(0, .ref 0), (1, .int (nI i))] [] h 0 0 _
  refine wq_gos (f := 1) (pc2 := 1) (ls2 := [(0, .ref 0), (1, .int (nI i))]) (st2 := [.int (nI i)]) (h2 := h) (dc2 := 0) (ds2 := 0) 1 rfl ?_
  try have q1x := nI_toInt (n := i) (by omega)
  refine wq_lt0 rfl rfl (fun b2x => ?_) (fun b2x => ?_)
  · refine wq_gos (f := 1) (pc2 := 20) (ls2 := [(0, .ref 0), (1, .int (nI i))]) (st2 := [.int 1]) (h2 := h) (dc2 := 0) (ds2 := 0) 2 rfl ?_
    refine wq_ret rfl rfl ?_
    show wq 127 5 [(0, .ref 0), (1, .int 0), (2, .int (nI i)), (3, .int j)] [.int 1] h 0 0 _
    refine wq_gos (f := 1) (pc2 := 16) (ls2 := [(0, .ref 0), (1, .int 0), (2, .int (nI i)), (3, .int j)]) (st2 := [.int (-1)]) (h2 := h) (dc2 := 0) (ds2 := 0) 2 rfl ?_
    exact wq_ret rfl rfl ⟨_, h, 0, 0, rfl, wPQ_rf hz hRw⟩
  · refine wq_gos (f := 1) (pc2 := 6) (ls2 := [(0, .ref 0), (1, .int (nI i))]) (st2 := [.ref 0, .int (nI i)]) (h2 := h) (dc2 := 0) (ds2 := 0) 2 rfl ?_
    refine wq_getf rfl hX rfl rfl ?_
    refine wq_getf rfl hAr rfl rfl ?_
    try have q3x := nI_toInt (n := so) (by omega)
    refine wq_lt2 rfl rfl (fun b4x => ?_) (fun b4x => ?_)
    · refine wq_gos (f := 1) (pc2 := 20) (ls2 := [(0, .ref 0), (1, .int (nI i))]) (st2 := [.int 0]) (h2 := h) (dc2 := 0) (ds2 := 0) 1 rfl ?_
      refine wq_ret rfl rfl ?_
      show wq 127 5 [(0, .ref 0), (1, .int 0), (2, .int (nI i)), (3, .int j)] [.int 0] h 0 0 _
      refine wq_gos (f := 1) (pc2 := 9) (ls2 := [(0, .ref 0), (1, .int 0), (2, .int (nI i)), (3, .int j)]) (st2 := [.int j]) (h2 := h) (dc2 := 0) (ds2 := 0) 2 rfl ?_
      refine wq_inl (y2 := 144) (as := [.int j]) rfl rfl rfl ?_
      show wq 144 0 [(0, .int j)] [] h 0 0 _
      refine wq_gos (f := 1) (pc2 := 1) (ls2 := [(0, .int j)]) (st2 := [.int j]) (h2 := h) (dc2 := 0) (ds2 := 0) 1 rfl ?_
      refine wq_lt0 rfl rfl (fun b5x => ?_) (fun b5x => ?_)
      · refine wq_gos (f := 1) (pc2 := 15) (ls2 := [(0, .int j)]) (st2 := [.int 1]) (h2 := h) (dc2 := 0) (ds2 := 0) 2 rfl ?_
        refine wq_ret rfl rfl ?_
        show wq 127 12 [(0, .ref 0), (1, .int 0), (2, .int (nI i)), (3, .int j)] [.int 1] h 0 0 _
        refine wq_gos (f := 1) (pc2 := 16) (ls2 := [(0, .ref 0), (1, .int 0), (2, .int (nI i)), (3, .int j)]) (st2 := [.int (-1)]) (h2 := h) (dc2 := 0) (ds2 := 0) 2 rfl ?_
        exact wq_ret rfl rfl ⟨_, h, 0, 0, rfl, wPQ_rf hz hRw⟩
      · refine wq_gos (f := 1) (pc2 := 7) (ls2 := [(0, .int j)]) (st2 := [.int 6, .int j]) (h2 := h) (dc2 := 0) (ds2 := 0) 2 rfl ?_
        have q6x : (6 : Int32).toInt = 6 := rfl
        refine wq_lt2 rfl rfl (fun b7x => ?_) (fun b7x => ?_)
        · refine wq_gos (f := 1) (pc2 := 15) (ls2 := [(0, .int j)]) (st2 := [.int 0]) (h2 := h) (dc2 := 0) (ds2 := 0) 1 rfl ?_
          refine wq_ret rfl rfl ?_
          show wq 127 12 [(0, .ref 0), (1, .int 0), (2, .int (nI i)), (3, .int j)] [.int 0] h 0 0 _
          refine wq_gos (f := 1) (pc2 := 18) (ls2 := [(0, .ref 0), (1, .int 0), (2, .int (nI i)), (3, .int j)]) (st2 := [.ref 0]) (h2 := h) (dc2 := 0) (ds2 := 0) 2 rfl ?_
          refine wq_getf rfl hX rfl rfl ?_
          refine wq_gos (f := 1) (pc2 := 22) (ls2 := [(0, .ref 0), (1, .int 0), (2, .int (nI i)), (3, .int j)]) (st2 := [.ref 0, .ref 74]) (h2 := h) (dc2 := 0) (ds2 := 0) 1 rfl ?_
          refine wq_getf rfl hX rfl rfl ?_
          refine wq_gos (f := 1) (pc2 := 26) (ls2 := [(0, .ref 0), (1, .int 0), (2, .int (nI i)), (3, .int j)]) (st2 := [.int 0, .long ps, .ref 74]) (h2 := h) (dc2 := 0) (ds2 := 0) 1 rfl ?_
          have q8x : (0 : Int32).toInt = 0 := rfl
          refine wq_inlv (y2 := 27) (as := [.long ps, .int 0]) rfl rfl rfl e74 rfl (c_use0 hX hA hz hRw hlen ?_ ?_)
          · intro h89x kn99x fr99x rS9x N9x stp9x pks9x cns9x tk99x d99x s99x f89x l89x c09x c19x c29x c39x c49x c59x p09x p19x
            show wq 127 29 [(0, .ref 0), (1, .int 0), (2, .int (nI i)), (3, .int j)] [.ref 80] h89x (0 + d99x) (0 + s99x) _
            refine wq_gos (f := 1) (pc2 := 33) (ls2 := [(4, .ref 80), (0, .ref 0), (1, .int 0), (2, .int (nI i)), (3, .int j)]) (st2 := [.ref 80]) (h2 := h89x) (dc2 := (0 + d99x)) (ds2 := (0 + s99x)) 2 rfl ?_
            refine wq_getf rfl c29x rfl rfl ?_
            refine wq_ge0f rfl rfl (by omega) ?_
            refine wq_gos (f := 1) (pc2 := 41) (ls2 := [(4, .ref 80), (0, .ref 0), (1, .int 0), (2, .int (nI i)), (3, .int j)]) (st2 := [.ref 80]) (h2 := h89x) (dc2 := (0 + d99x)) (ds2 := (0 + s99x)) 1 rfl ?_
            refine wq_getf rfl c29x rfl rfl ?_
            refine wq_gos (f := 1) (pc2 := 61) (ls2 := [(4, .ref 80), (0, .ref 0), (1, .int 0), (2, .int (nI i)), (3, .int j)]) (st2 := [.int tk99x]) (h2 := h89x) (dc2 := (0 + d99x)) (ds2 := (0 + s99x)) 1 rfl ?_
            exact wq_ret rfl rfl ⟨_, h89x, _, _, rfl, by rw [Nat.zero_add, Nat.zero_add]; exact p19x⟩
          · intro h810x kn910x fr910x rS10x N10x stp10x pks10x cns10x T910x d910x s910x f810x l810x c010x c110x c210x c310x c410x c510x p010x p110x p210x
            show wq 127 29 [(0, .ref 0), (1, .int 0), (2, .int (nI i)), (3, .int j)] [.ref 80] h810x (0 + d910x) (0 + s910x) _
            refine wq_gos (f := 1) (pc2 := 33) (ls2 := [(4, .ref 80), (0, .ref 0), (1, .int 0), (2, .int (nI i)), (3, .int j)]) (st2 := [.ref 80]) (h2 := h810x) (dc2 := (0 + d910x)) (ds2 := (0 + s910x)) 2 rfl ?_
            refine wq_getf rfl c210x rfl rfl ?_
            try have q11x := nI_toInt (n := T910x) (by omega)
            refine wq_ge0t rfl (by have := nI_toInt (n := T910x) (by omega); omega) ?_
            refine wq_gos (f := 1) (pc2 := 52) (ls2 := [(4, .ref 80), (0, .ref 0), (1, .int 0), (2, .int (nI i)), (3, .int j)]) (st2 := [.ref 0, .int j, .int (nI i), .ref 80]) (h2 := h810x) (dc2 := (0 + d910x)) (ds2 := (0 + s910x)) 4 rfl ?_
            refine wq_getf rfl c010x rfl rfl ?_
            refine wq_getf rfl c110x rfl rfl ?_
            refine wq_inlv (y2 := 73) (as := [.int (nI i), .int j, .int bl]) rfl rfl rfl c210x rfl (wq_mono (c_ofc c210x c310x c510x (by first | assumption | omega | decide | solve_by_elim) (by first | assumption | omega | decide | solve_by_elim) (by first | assumption | omega | decide | solve_by_elim)) ?_)
            rintro _ rfl
            show wq 127 61 [(4, .ref 80), (0, .ref 0), (1, .int 0), (2, .int (nI i)), (3, .int j)] [.int (jOfc T910x stp10x cns10x i j bl)] h810x (0 + d910x) (0 + s910x) _
            exact wq_ret rfl rfl ⟨_, h810x, _, _, rfl, by rw [Nat.zero_add, Nat.zero_add]; exact p210x⟩
        · refine wq_gos (f := 1) (pc2 := 15) (ls2 := [(0, .int j)]) (st2 := [.int 1]) (h2 := h) (dc2 := 0) (ds2 := 0) 2 rfl ?_
          refine wq_ret rfl rfl ?_
          show wq 127 12 [(0, .ref 0), (1, .int 0), (2, .int (nI i)), (3, .int j)] [.int 1] h 0 0 _
          refine wq_gos (f := 1) (pc2 := 16) (ls2 := [(0, .ref 0), (1, .int 0), (2, .int (nI i)), (3, .int j)]) (st2 := [.int (-1)]) (h2 := h) (dc2 := 0) (ds2 := 0) 2 rfl ?_
          exact wq_ret rfl rfl ⟨_, h, 0, 0, rfl, wPQ_rf hz hRw⟩
    · refine wq_gos (f := 1) (pc2 := 20) (ls2 := [(0, .ref 0), (1, .int (nI i))]) (st2 := [.int 1]) (h2 := h) (dc2 := 0) (ds2 := 0) 2 rfl ?_
      refine wq_ret rfl rfl ?_
      show wq 127 5 [(0, .ref 0), (1, .int 0), (2, .int (nI i)), (3, .int j)] [.int 1] h 0 0 _
      refine wq_gos (f := 1) (pc2 := 16) (ls2 := [(0, .ref 0), (1, .int 0), (2, .int (nI i)), (3, .int j)]) (st2 := [.int (-1)]) (h2 := h) (dc2 := 0) (ds2 := 0) 2 rfl ?_
      exact wq_ret rfl rfl ⟨_, h, 0, 0, rfl, wPQ_rf hz hRw⟩
set_option maxRecDepth 100000 in
set_option maxHeartbeats 4000000 in
theorem c_o128_0 {h : zH} {ra sp so : Nat} {lk hd ht bl sd : Int32} {rt : Int64} {ll lg sv nm wy : List Int32} {po : List Int64} {t rd : Nat} {ps ip : Int64} {im : Int32} {wg ka kb : Int32} {rw cp : Nat → Nat} {m9 : Int32} (hX : zat h 0 = some (.inr (.inr (.inr (9, [.ref 2, .int (nI t), .ref 4, .ref ra, .ref rd, .long ps, .ref 34, .ref 36, .int im, .long ip, .ref 42, .ref 44, .ref 60, .ref 66, .ref 72, .ref 74, .ref 150, .ref 158]))))) (hA : wArm h ra sp so lk hd ht bl sd rt ll lg sv nm wy po) (hz : wPz h ra so lk hd ht ll lg wy sv po wg ka kb rw cp) (hRw : wRws rw h.length) (hlen : 117 ≤ h.length)  : wq 128 0 [(0, .ref 0), (1, .int 0), (2, .int m9)] [] h 0 0 (fun r => ∃ v h2 d s, r = (some (.int v), h2, d, s) ∧ wPQ h ra so lk hd ht ll lg wy sv po rw cp h2 d s) := by
  obtain ⟨ob9, pr9, sr9, fw9, al9, fi9, hpl9, lf09, lf19, to9, kn99, ks9, fa9, hp9, li9, e74, _⟩ := hz.2.2.1
  have hAr := hA.1
  have hsc9 := hA.2.2.2.2.2.2.2.1
  unfold wScl at hsc9
  have hsp9 := hA.2.2.2.2.2.2.2.2.2.2.1
  have hso9 := hA.2.2.2.2.2.2.2.2.2.2.2.1.1
  have hra := hA.2.2.2.2.2.2.2.2.2.2.2.2
  have z0 : (0 : Int32).toInt = 0 := rfl
  have z1 : (1 : Int32).toInt = 1 := rfl
  have z5 : (5 : Int32).toInt = 5 := rfl
  have z2 : (2 : Int32).toInt = 2 := rfl
  have z99 : (99 : Int32).toInt = 99 := rfl
  have qnso := nI_toInt (n := so) (by omega)
  refine wq_gos (f := 1) (pc2 := 1) (ls2 := [(0, .ref 0), (1, .int 0), (2, .int m9)]) (st2 := [.int m9]) (h2 := h) (dc2 := 0) (ds2 := 0) 1 rfl ?_
  refine wq_lt0 rfl rfl (fun b1x => ?_) (fun b1x => ?_)
  · refine wq_gos (f := 1) (pc2 := 11) (ls2 := [(0, .ref 0), (1, .int 0), (2, .int m9)]) (st2 := [.int (-1)]) (h2 := h) (dc2 := 0) (ds2 := 0) 1 rfl ?_
    exact wq_ret rfl rfl ⟨_, h, 0, 0, rfl, wPQ_rf hz hRw⟩
  · refine wq_gos (f := 1) (pc2 := 7) (ls2 := [(0, .ref 0), (1, .int 0), (2, .int m9)]) (st2 := [.int 99, .int m9]) (h2 := h) (dc2 := 0) (ds2 := 0) 2 rfl ?_
    have q2x : (99 : Int32).toInt = 99 := rfl
    refine wq_le2 rfl rfl (fun b3x => ?_) (fun b3x => ?_)
    · refine wq_gos (f := 1) (pc2 := 13) (ls2 := [(0, .ref 0), (1, .int 0), (2, .int m9)]) (st2 := [.ref 0]) (h2 := h) (dc2 := 0) (ds2 := 0) 1 rfl ?_
      refine wq_getf rfl hX rfl rfl ?_
      refine wq_gos (f := 1) (pc2 := 17) (ls2 := [(0, .ref 0), (1, .int 0), (2, .int m9)]) (st2 := [.ref 0, .ref 74]) (h2 := h) (dc2 := 0) (ds2 := 0) 1 rfl ?_
      refine wq_getf rfl hX rfl rfl ?_
      refine wq_gos (f := 1) (pc2 := 21) (ls2 := [(0, .ref 0), (1, .int 0), (2, .int m9)]) (st2 := [.int 0, .long ps, .ref 74]) (h2 := h) (dc2 := 0) (ds2 := 0) 1 rfl ?_
      have q4x : (0 : Int32).toInt = 0 := rfl
      refine wq_inlv (y2 := 27) (as := [.long ps, .int 0]) rfl rfl rfl e74 rfl (c_use0 hX hA hz hRw hlen ?_ ?_)
      · intro h85x kn95x fr95x rS5x N5x stp5x pks5x cns5x tk95x d95x s95x f85x l85x c05x c15x c25x c35x c45x c55x p05x p15x
        show wq 128 24 [(0, .ref 0), (1, .int 0), (2, .int m9)] [.ref 80] h85x (0 + d95x) (0 + s95x) _
        refine wq_gos (f := 1) (pc2 := 26) (ls2 := [(3, .ref 80), (0, .ref 0), (1, .int 0), (2, .int m9)]) (st2 := [.ref 80]) (h2 := h85x) (dc2 := (0 + d95x)) (ds2 := (0 + s95x)) 2 rfl ?_
        refine wq_getf rfl c25x rfl rfl ?_
        refine wq_ge0f rfl rfl (by omega) ?_
        refine wq_gos (f := 1) (pc2 := 33) (ls2 := [(3, .ref 80), (0, .ref 0), (1, .int 0), (2, .int m9)]) (st2 := [.ref 80]) (h2 := h85x) (dc2 := (0 + d95x)) (ds2 := (0 + s95x)) 1 rfl ?_
        refine wq_getf rfl c25x rfl rfl ?_
        refine wq_gos (f := 1) (pc2 := 51) (ls2 := [(3, .ref 80), (0, .ref 0), (1, .int 0), (2, .int m9)]) (st2 := [.int tk95x]) (h2 := h85x) (dc2 := (0 + d95x)) (ds2 := (0 + s95x)) 1 rfl ?_
        exact wq_ret rfl rfl ⟨_, h85x, _, _, rfl, by rw [Nat.zero_add, Nat.zero_add]; exact p15x⟩
      · intro h86x kn96x fr96x rS6x N6x stp6x pks6x cns6x T96x d96x s96x f86x l86x c06x c16x c26x c36x c46x c56x p06x p16x p26x
        show wq 128 24 [(0, .ref 0), (1, .int 0), (2, .int m9)] [.ref 80] h86x (0 + d96x) (0 + s96x) _
        refine wq_gos (f := 1) (pc2 := 26) (ls2 := [(3, .ref 80), (0, .ref 0), (1, .int 0), (2, .int m9)]) (st2 := [.ref 80]) (h2 := h86x) (dc2 := (0 + d96x)) (ds2 := (0 + s96x)) 2 rfl ?_
        refine wq_getf rfl c26x rfl rfl ?_
        try have q7x := nI_toInt (n := T96x) (by omega)
        refine wq_ge0t rfl (by have := nI_toInt (n := T96x) (by omega); omega) ?_
        refine wq_gos (f := 1) (pc2 := 41) (ls2 := [(3, .ref 80), (0, .ref 0), (1, .int 0), (2, .int m9)]) (st2 := [.ref 0, .ref 80]) (h2 := h86x) (dc2 := (0 + d96x)) (ds2 := (0 + s96x)) 2 rfl ?_
        refine wq_getf rfl c06x rfl rfl ?_
        refine wq_getf rfl c16x rfl rfl ?_
        refine wq_gos (f := 1) (pc2 := 48) (ls2 := [(3, .ref 80), (0, .ref 0), (1, .int 0), (2, .int m9)]) (st2 := [.int m9, .int (nI so), .ref 80]) (h2 := h86x) (dc2 := (0 + d96x)) (ds2 := (0 + s96x)) 1 rfl ?_
        try have q8x := nI_toInt (n := so) (by omega)
        refine wq_inlv (y2 := 74) (as := [.int (nI so), .int m9]) rfl rfl rfl c26x rfl (wq_mono (c_gb c26x c36x c56x (by first | assumption | omega | decide | solve_by_elim)) ?_)
        rintro _ rfl
        show wq 128 51 [(3, .ref 80), (0, .ref 0), (1, .int 0), (2, .int m9)] [.int (gbF T96x stp6x cns6x (nI so) m9 ((9 : Int32).toInt.toNat + 1) 9)] h86x (0 + d96x) (0 + s96x) _
        exact wq_ret rfl rfl ⟨_, h86x, _, _, rfl, by rw [Nat.zero_add, Nat.zero_add]; exact p26x⟩
    · refine wq_gos (f := 1) (pc2 := 11) (ls2 := [(0, .ref 0), (1, .int 0), (2, .int m9)]) (st2 := [.int (-1)]) (h2 := h) (dc2 := 0) (ds2 := 0) 1 rfl ?_
      exact wq_ret rfl rfl ⟨_, h, 0, 0, rfl, wPQ_rf hz hRw⟩
set_option maxRecDepth 100000 in
set_option maxHeartbeats 4000000 in
theorem c_o129_0 {h : zH} {ra sp so : Nat} {lk hd ht bl sd : Int32} {rt : Int64} {ll lg sv nm wy : List Int32} {po : List Int64} {t rd : Nat} {ps ip : Int64} {im : Int32} {wg ka kb : Int32} {rw cp : Nat → Nat} {w : Int32} (hX : zat h 0 = some (.inr (.inr (.inr (9, [.ref 2, .int (nI t), .ref 4, .ref ra, .ref rd, .long ps, .ref 34, .ref 36, .int im, .long ip, .ref 42, .ref 44, .ref 60, .ref 66, .ref 72, .ref 74, .ref 150, .ref 158]))))) (hA : wArm h ra sp so lk hd ht bl sd rt ll lg sv nm wy po) (hz : wPz h ra so lk hd ht ll lg wy sv po wg ka kb rw cp) (hRw : wRws rw h.length) (hlen : 117 ≤ h.length)  : wq 129 0 [(0, .ref 0), (1, .int 0), (2, .int w)] [] h 0 0 (fun r => ∃ v h2 d s, r = (some (.int v), h2, d, s) ∧ wPQ h ra so lk hd ht ll lg wy sv po rw cp h2 d s) := by
  obtain ⟨ob9, pr9, sr9, fw9, al9, fi9, hpl9, lf09, lf19, to9, kn99, ks9, fa9, hp9, li9, e74, _⟩ := hz.2.2.1
  have hAr := hA.1
  have hsc9 := hA.2.2.2.2.2.2.2.1
  unfold wScl at hsc9
  have hsp9 := hA.2.2.2.2.2.2.2.2.2.2.1
  have hso9 := hA.2.2.2.2.2.2.2.2.2.2.2.1.1
  have hra := hA.2.2.2.2.2.2.2.2.2.2.2.2
  have z0 : (0 : Int32).toInt = 0 := rfl
  have z1 : (1 : Int32).toInt = 1 := rfl
  have z5 : (5 : Int32).toInt = 5 := rfl
  have z2 : (2 : Int32).toInt = 2 := rfl
  have z99 : (99 : Int32).toInt = 99 := rfl
  have qnso := nI_toInt (n := so) (by omega)
  refine wq_gos (f := 1) (pc2 := 1) (ls2 := [(0, .ref 0), (1, .int 0), (2, .int w)]) (st2 := [.int w]) (h2 := h) (dc2 := 0) (ds2 := 0) 1 rfl ?_
  refine wq_lt0 rfl rfl (fun b1x => ?_) (fun b1x => ?_)
  · refine wq_gos (f := 1) (pc2 := 10) (ls2 := [(0, .ref 0), (1, .int 0), (2, .int w)]) (st2 := [.int (-1)]) (h2 := h) (dc2 := 0) (ds2 := 0) 1 rfl ?_
    exact wq_ret rfl rfl ⟨_, h, 0, 0, rfl, wPQ_rf hz hRw⟩
  · refine wq_gos (f := 1) (pc2 := 6) (ls2 := [(0, .ref 0), (1, .int 0), (2, .int w)]) (st2 := [.int 2, .int w]) (h2 := h) (dc2 := 0) (ds2 := 0) 2 rfl ?_
    have q2x : (2 : Int32).toInt = 2 := rfl
    refine wq_le2 rfl rfl (fun b3x => ?_) (fun b3x => ?_)
    · refine wq_gos (f := 1) (pc2 := 12) (ls2 := [(0, .ref 0), (1, .int 0), (2, .int w)]) (st2 := [.ref 0]) (h2 := h) (dc2 := 0) (ds2 := 0) 1 rfl ?_
      refine wq_getf rfl hX rfl rfl ?_
      refine wq_gos (f := 1) (pc2 := 16) (ls2 := [(0, .ref 0), (1, .int 0), (2, .int w)]) (st2 := [.ref 0, .ref 74]) (h2 := h) (dc2 := 0) (ds2 := 0) 1 rfl ?_
      refine wq_getf rfl hX rfl rfl ?_
      refine wq_gos (f := 1) (pc2 := 20) (ls2 := [(0, .ref 0), (1, .int 0), (2, .int w)]) (st2 := [.int 0, .long ps, .ref 74]) (h2 := h) (dc2 := 0) (ds2 := 0) 1 rfl ?_
      have q4x : (0 : Int32).toInt = 0 := rfl
      refine wq_inlv (y2 := 27) (as := [.long ps, .int 0]) rfl rfl rfl e74 rfl (c_use0 hX hA hz hRw hlen ?_ ?_)
      · intro h85x kn95x fr95x rS5x N5x stp5x pks5x cns5x tk95x d95x s95x f85x l85x c05x c15x c25x c35x c45x c55x p05x p15x
        show wq 129 23 [(0, .ref 0), (1, .int 0), (2, .int w)] [.ref 80] h85x (0 + d95x) (0 + s95x) _
        refine wq_gos (f := 1) (pc2 := 25) (ls2 := [(3, .ref 80), (0, .ref 0), (1, .int 0), (2, .int w)]) (st2 := [.ref 80]) (h2 := h85x) (dc2 := (0 + d95x)) (ds2 := (0 + s95x)) 2 rfl ?_
        refine wq_getf rfl c25x rfl rfl ?_
        refine wq_ge0f rfl rfl (by omega) ?_
        refine wq_gos (f := 1) (pc2 := 32) (ls2 := [(3, .ref 80), (0, .ref 0), (1, .int 0), (2, .int w)]) (st2 := [.ref 80]) (h2 := h85x) (dc2 := (0 + d95x)) (ds2 := (0 + s95x)) 1 rfl ?_
        refine wq_getf rfl c25x rfl rfl ?_
        exact wq_ret rfl rfl ⟨_, h85x, _, _, rfl, by rw [Nat.zero_add, Nat.zero_add]; exact p15x⟩
      · intro h86x kn96x fr96x rS6x N6x stp6x pks6x cns6x T96x d96x s96x f86x l86x c06x c16x c26x c36x c46x c56x p06x p16x p26x
        show wq 129 23 [(0, .ref 0), (1, .int 0), (2, .int w)] [.ref 80] h86x (0 + d96x) (0 + s96x) _
        refine wq_gos (f := 1) (pc2 := 25) (ls2 := [(3, .ref 80), (0, .ref 0), (1, .int 0), (2, .int w)]) (st2 := [.ref 80]) (h2 := h86x) (dc2 := (0 + d96x)) (ds2 := (0 + s96x)) 2 rfl ?_
        refine wq_getf rfl c26x rfl rfl ?_
        try have q7x := nI_toInt (n := T96x) (by omega)
        refine wq_ge0t rfl (by have := nI_toInt (n := T96x) (by omega); omega) ?_
        refine wq_gos (f := 1) (pc2 := 38) (ls2 := [(3, .ref 80), (0, .ref 0), (1, .int 0), (2, .int w)]) (st2 := [.int 2, .int w]) (h2 := h86x) (dc2 := (0 + d96x)) (ds2 := (0 + s96x)) 2 rfl ?_
        refine wq_ne2 rfl rfl (fun b8x => ?_) (fun b8x => ?_)
        · have q9x : w.toInt ≠ 2 := fun q => b8x (Int32.toInt_inj.mp q)
          refine wq_gos (f := 1) (pc2 := 50) (ls2 := [(3, .ref 80), (0, .ref 0), (1, .int 0), (2, .int w)]) (st2 := [.int w, .ref 80]) (h2 := h86x) (dc2 := (0 + d96x)) (ds2 := (0 + s96x)) 2 rfl ?_
          refine wq_inlv (y2 := 76) (as := [.int w]) rfl rfl rfl c26x rfl (wq_mono (c_sc c26x c36x (by first | assumption | omega | decide | solve_by_elim)) ?_)
          rintro _ rfl
          show wq 129 53 [(3, .ref 80), (0, .ref 0), (1, .int 0), (2, .int w)] [.int (scF T96x stp6x w (T96x + 1 - 1 + 1) 0 (jSom (stp6x.getD 0 0) w) 1)] h86x (0 + d96x) (0 + s96x) _
          exact wq_ret rfl rfl ⟨_, h86x, _, _, rfl, by rw [Nat.zero_add, Nat.zero_add]; exact p26x⟩
        · have q11x : w.toInt = 2 := congrArg Int32.toInt b8x
          refine wq_gos (f := 1) (pc2 := 42) (ls2 := [(3, .ref 80), (0, .ref 0), (1, .int 0), (2, .int w)]) (st2 := [.ref 80]) (h2 := h86x) (dc2 := (0 + d96x)) (ds2 := (0 + s96x)) 1 rfl ?_
          refine wq_inlv (y2 := 77) (as := []) rfl rfl rfl c26x rfl (wq_mono (c_rt c26x c36x (by first | assumption | omega | decide | solve_by_elim)) ?_)
          rintro _ rfl
          show wq 129 45 [(3, .ref 80), (0, .ref 0), (1, .int 0), (2, .int w)] [.int (rtF T96x stp6x (T96x + 1 - 1 + 1) 0 0 1)] h86x (0 + d96x) (0 + s96x) _
          refine wq_gos (f := 1) (pc2 := 53) (ls2 := [(3, .ref 80), (0, .ref 0), (1, .int 0), (2, .int w)]) (st2 := [.int (rtF T96x stp6x (T96x + 1 - 1 + 1) 0 0 1)]) (h2 := h86x) (dc2 := (0 + d96x)) (ds2 := (0 + s96x)) 1 rfl ?_
          exact wq_ret rfl rfl ⟨_, h86x, _, _, rfl, by rw [Nat.zero_add, Nat.zero_add]; exact p26x⟩
    · refine wq_gos (f := 1) (pc2 := 10) (ls2 := [(0, .ref 0), (1, .int 0), (2, .int w)]) (st2 := [.int (-1)]) (h2 := h) (dc2 := 0) (ds2 := 0) 1 rfl ?_
      exact wq_ret rfl rfl ⟨_, h, 0, 0, rfl, wPQ_rf hz hRw⟩
set_option maxRecDepth 100000 in
set_option maxHeartbeats 4000000 in
theorem c_o130_0 {h : zH} {ra sp so : Nat} {lk hd ht bl sd : Int32} {rt : Int64} {ll lg sv nm wy : List Int32} {po : List Int64} {t rd : Nat} {ps ip : Int64} {im : Int32} {wg ka kb : Int32} {rw cp : Nat → Nat}  (hX : zat h 0 = some (.inr (.inr (.inr (9, [.ref 2, .int (nI t), .ref 4, .ref ra, .ref rd, .long ps, .ref 34, .ref 36, .int im, .long ip, .ref 42, .ref 44, .ref 60, .ref 66, .ref 72, .ref 74, .ref 150, .ref 158]))))) (hA : wArm h ra sp so lk hd ht bl sd rt ll lg sv nm wy po) (hz : wPz h ra so lk hd ht ll lg wy sv po wg ka kb rw cp) (hRw : wRws rw h.length) (hlen : 117 ≤ h.length)  : wq 130 0 [(0, .ref 0), (1, .int 0)] [] h 0 0 (fun r => ∃ v h2 d s, r = (some (.long v), h2, d, s) ∧ wPQ h ra so lk hd ht ll lg wy sv po rw cp h2 d s) := by
  obtain ⟨ob9, pr9, sr9, fw9, al9, fi9, hpl9, lf09, lf19, to9, kn99, ks9, fa9, hp9, li9, e74, _⟩ := hz.2.2.1
  have hAr := hA.1
  have hsc9 := hA.2.2.2.2.2.2.2.1
  unfold wScl at hsc9
  have hsp9 := hA.2.2.2.2.2.2.2.2.2.2.1
  have hso9 := hA.2.2.2.2.2.2.2.2.2.2.2.1.1
  have hra := hA.2.2.2.2.2.2.2.2.2.2.2.2
  have z0 : (0 : Int32).toInt = 0 := rfl
  have z1 : (1 : Int32).toInt = 1 := rfl
  have z5 : (5 : Int32).toInt = 5 := rfl
  have z2 : (2 : Int32).toInt = 2 := rfl
  have z99 : (99 : Int32).toInt = 99 := rfl
  have qnso := nI_toInt (n := so) (by omega)
  refine wq_gos (f := 1) (pc2 := 1) (ls2 := [(0, .ref 0), (1, .int 0)]) (st2 := [.ref 0]) (h2 := h) (dc2 := 0) (ds2 := 0) 1 rfl ?_
  refine wq_getf rfl hX rfl rfl ?_
  refine wq_gos (f := 1) (pc2 := 5) (ls2 := [(0, .ref 0), (1, .int 0)]) (st2 := [.ref 0, .ref 74]) (h2 := h) (dc2 := 0) (ds2 := 0) 1 rfl ?_
  refine wq_getf rfl hX rfl rfl ?_
  refine wq_gos (f := 1) (pc2 := 9) (ls2 := [(0, .ref 0), (1, .int 0)]) (st2 := [.int 0, .long ps, .ref 74]) (h2 := h) (dc2 := 0) (ds2 := 0) 1 rfl ?_
  have q1x : (0 : Int32).toInt = 0 := rfl
  refine wq_inlv (y2 := 27) (as := [.long ps, .int 0]) rfl rfl rfl e74 rfl (c_use0 hX hA hz hRw hlen ?_ ?_)
  · intro h82x kn92x fr92x rS2x N2x stp2x pks2x cns2x tk92x d92x s92x f82x l82x c02x c12x c22x c32x c42x c52x p02x p12x
    show wq 130 12 [(0, .ref 0), (1, .int 0)] [.ref 80] h82x (0 + d92x) (0 + s92x) _
    refine wq_gos (f := 1) (pc2 := 14) (ls2 := [(2, .ref 80), (0, .ref 0), (1, .int 0)]) (st2 := [.ref 80]) (h2 := h82x) (dc2 := (0 + d92x)) (ds2 := (0 + s92x)) 2 rfl ?_
    refine wq_getf rfl c22x rfl rfl ?_
    refine wq_ge0f rfl rfl (by omega) ?_
    refine wq_gos (f := 1) (pc2 := 21) (ls2 := [(2, .ref 80), (0, .ref 0), (1, .int 0)]) (st2 := [.ref 80]) (h2 := h82x) (dc2 := (0 + d92x)) (ds2 := (0 + s92x)) 1 rfl ?_
    refine wq_getf rfl c22x rfl rfl ?_
    refine wq_gos (f := 1) (pc2 := 36) (ls2 := [(2, .ref 80), (0, .ref 0), (1, .int 0)]) (st2 := [.long (tk92x).toInt64]) (h2 := h82x) (dc2 := (0 + d92x)) (ds2 := (0 + s92x)) 2 rfl ?_
    exact wq_ret rfl rfl ⟨_, h82x, _, _, rfl, by rw [Nat.zero_add, Nat.zero_add]; exact p12x⟩
  · intro h83x kn93x fr93x rS3x N3x stp3x pks3x cns3x T93x d93x s93x f83x l83x c03x c13x c23x c33x c43x c53x p03x p13x p23x
    show wq 130 12 [(0, .ref 0), (1, .int 0)] [.ref 80] h83x (0 + d93x) (0 + s93x) _
    refine wq_gos (f := 1) (pc2 := 14) (ls2 := [(2, .ref 80), (0, .ref 0), (1, .int 0)]) (st2 := [.ref 80]) (h2 := h83x) (dc2 := (0 + d93x)) (ds2 := (0 + s93x)) 2 rfl ?_
    refine wq_getf rfl c23x rfl rfl ?_
    try have q4x := nI_toInt (n := T93x) (by omega)
    refine wq_ge0t rfl (by have := nI_toInt (n := T93x) (by omega); omega) ?_
    refine wq_gos (f := 1) (pc2 := 30) (ls2 := [(2, .ref 80), (0, .ref 0), (1, .int 0)]) (st2 := [.ref 0, .ref 80]) (h2 := h83x) (dc2 := (0 + d93x)) (ds2 := (0 + s93x)) 2 rfl ?_
    refine wq_getf rfl c03x rfl rfl ?_
    refine wq_inlv (y2 := 78) (as := [.ref ra]) rfl rfl rfl c23x rfl (wq_mono (c_hp c23x c33x c13x (by first | assumption | omega | decide | solve_by_elim)) ?_)
    rintro _ rfl
    show wq 130 36 [(2, .ref 80), (0, .ref 0), (1, .int 0)] [.long (hpF T93x stp3x lk hd ht (T93x + 1 - 1 + 1) 0 (jPart lk hd ht fr93x (0 : Int32)) (jPart lk hd ht fr93x (1 : Int32)) (jPart lk hd ht fr93x (2 : Int32)) 1)] h83x (0 + d93x) (0 + s93x) _
    exact wq_ret rfl rfl ⟨_, h83x, _, _, rfl, by rw [Nat.zero_add, Nat.zero_add]; exact p23x⟩
set_option maxRecDepth 100000 in
set_option maxHeartbeats 4000000 in
theorem c_o134_0 {h : zH} {ra sp so : Nat} {lk hd ht bl sd : Int32} {rt : Int64} {ll lg sv nm wy : List Int32} {po : List Int64} {t rd : Nat} {ps ip : Int64} {im : Int32} {wg ka kb : Int32} {rw cp : Nat → Nat}  (hX : zat h 0 = some (.inr (.inr (.inr (9, [.ref 2, .int (nI t), .ref 4, .ref ra, .ref rd, .long ps, .ref 34, .ref 36, .int im, .long ip, .ref 42, .ref 44, .ref 60, .ref 66, .ref 72, .ref 74, .ref 150, .ref 158]))))) (hA : wArm h ra sp so lk hd ht bl sd rt ll lg sv nm wy po) (hz : wPz h ra so lk hd ht ll lg wy sv po wg ka kb rw cp) (hRw : wRws rw h.length) (hlen : 117 ≤ h.length)  : wq 134 0 [(0, .ref 0), (1, .int 0)] [] h 0 0 (fun r => ∃ v h2 d s, r = (some (.int v), h2, d, s) ∧ wPQ h ra so lk hd ht ll lg wy sv po rw cp h2 d s) := by
  obtain ⟨ob9, pr9, sr9, fw9, al9, fi9, hpl9, lf09, lf19, to9, kn99, ks9, fa9, hp9, li9, e74, _⟩ := hz.2.2.1
  have hAr := hA.1
  have hsc9 := hA.2.2.2.2.2.2.2.1
  unfold wScl at hsc9
  have hsp9 := hA.2.2.2.2.2.2.2.2.2.2.1
  have hso9 := hA.2.2.2.2.2.2.2.2.2.2.2.1.1
  have hra := hA.2.2.2.2.2.2.2.2.2.2.2.2
  have z0 : (0 : Int32).toInt = 0 := rfl
  have z1 : (1 : Int32).toInt = 1 := rfl
  have z5 : (5 : Int32).toInt = 5 := rfl
  have z2 : (2 : Int32).toInt = 2 := rfl
  have z99 : (99 : Int32).toInt = 99 := rfl
  have qnso := nI_toInt (n := so) (by omega)
  refine wq_gos (f := 1) (pc2 := 1) (ls2 := [(0, .ref 0), (1, .int 0)]) (st2 := [.ref 0]) (h2 := h) (dc2 := 0) (ds2 := 0) 1 rfl ?_
  refine wq_getf rfl hX rfl rfl ?_
  refine wq_gos (f := 1) (pc2 := 5) (ls2 := [(0, .ref 0), (1, .int 0)]) (st2 := [.ref 0, .ref 74]) (h2 := h) (dc2 := 0) (ds2 := 0) 1 rfl ?_
  refine wq_getf rfl hX rfl rfl ?_
  refine wq_gos (f := 1) (pc2 := 9) (ls2 := [(0, .ref 0), (1, .int 0)]) (st2 := [.int 0, .long ps, .ref 74]) (h2 := h) (dc2 := 0) (ds2 := 0) 1 rfl ?_
  have q1x : (0 : Int32).toInt = 0 := rfl
  refine wq_inlv (y2 := 27) (as := [.long ps, .int 0]) rfl rfl rfl e74 rfl (c_use0 hX hA hz hRw hlen ?_ ?_)
  · intro h82x kn92x fr92x rS2x N2x stp2x pks2x cns2x tk92x d92x s92x f82x l82x c02x c12x c22x c32x c42x c52x p02x p12x
    show wq 134 12 [(0, .ref 0), (1, .int 0)] [.ref 80] h82x (0 + d92x) (0 + s92x) _
    refine wq_gos (f := 1) (pc2 := 14) (ls2 := [(2, .ref 80), (0, .ref 0), (1, .int 0)]) (st2 := [.ref 80]) (h2 := h82x) (dc2 := (0 + d92x)) (ds2 := (0 + s92x)) 2 rfl ?_
    refine wq_getf rfl c22x rfl rfl ?_
    refine wq_ge0f rfl rfl (by omega) ?_
    refine wq_gos (f := 1) (pc2 := 21) (ls2 := [(2, .ref 80), (0, .ref 0), (1, .int 0)]) (st2 := [.ref 80]) (h2 := h82x) (dc2 := (0 + d92x)) (ds2 := (0 + s92x)) 1 rfl ?_
    refine wq_getf rfl c22x rfl rfl ?_
    refine wq_gos (f := 1) (pc2 := 31) (ls2 := [(2, .ref 80), (0, .ref 0), (1, .int 0)]) (st2 := [.int tk92x]) (h2 := h82x) (dc2 := (0 + d92x)) (ds2 := (0 + s92x)) 1 rfl ?_
    exact wq_ret rfl rfl ⟨_, h82x, _, _, rfl, by rw [Nat.zero_add, Nat.zero_add]; exact p12x⟩
  · intro h83x kn93x fr93x rS3x N3x stp3x pks3x cns3x T93x d93x s93x f83x l83x c03x c13x c23x c33x c43x c53x p03x p13x p23x
    show wq 134 12 [(0, .ref 0), (1, .int 0)] [.ref 80] h83x (0 + d93x) (0 + s93x) _
    refine wq_gos (f := 1) (pc2 := 14) (ls2 := [(2, .ref 80), (0, .ref 0), (1, .int 0)]) (st2 := [.ref 80]) (h2 := h83x) (dc2 := (0 + d93x)) (ds2 := (0 + s93x)) 2 rfl ?_
    refine wq_getf rfl c23x rfl rfl ?_
    try have q4x := nI_toInt (n := T93x) (by omega)
    refine wq_ge0t rfl (by have := nI_toInt (n := T93x) (by omega); omega) ?_
    refine wq_gos (f := 1) (pc2 := 28) (ls2 := [(2, .ref 80), (0, .ref 0), (1, .int 0)]) (st2 := [.ref 80]) (h2 := h83x) (dc2 := (0 + d93x)) (ds2 := (0 + s93x)) 1 rfl ?_
    refine wq_inlv (y2 := 79) (as := []) rfl rfl rfl c23x rfl (wq_mono (c_sl c23x c33x (by first | assumption | omega | decide | solve_by_elim)) ?_)
    rintro _ rfl
    show wq 134 31 [(2, .ref 80), (0, .ref 0), (1, .int 0)] [.int (slF T93x stp3x (T93x + 1 - 1 + 1) 0 1)] h83x (0 + d93x) (0 + s93x) _
    exact wq_ret rfl rfl ⟨_, h83x, _, _, rfl, by rw [Nat.zero_add, Nat.zero_add]; exact p23x⟩
set_option maxRecDepth 100000 in
set_option maxHeartbeats 4000000 in
theorem c_o135_0 {h : zH} {ra sp so : Nat} {lk hd ht bl sd : Int32} {rt : Int64} {ll lg sv nm wy : List Int32} {po : List Int64} {t rd : Nat} {ps ip : Int64} {im : Int32} {wg ka kb : Int32} {rw cp : Nat → Nat}  (hX : zat h 0 = some (.inr (.inr (.inr (9, [.ref 2, .int (nI t), .ref 4, .ref ra, .ref rd, .long ps, .ref 34, .ref 36, .int im, .long ip, .ref 42, .ref 44, .ref 60, .ref 66, .ref 72, .ref 74, .ref 150, .ref 158]))))) (hA : wArm h ra sp so lk hd ht bl sd rt ll lg sv nm wy po) (hz : wPz h ra so lk hd ht ll lg wy sv po wg ka kb rw cp) (hRw : wRws rw h.length) (hlen : 117 ≤ h.length)  : wq 135 0 [(0, .ref 0), (1, .int 0)] [] h 0 0 (fun r => ∃ v h2 d s, r = (some (.int v), h2, d, s) ∧ wPQ h ra so lk hd ht ll lg wy sv po rw cp h2 d s) := by
  obtain ⟨ob9, pr9, sr9, fw9, al9, fi9, hpl9, lf09, lf19, to9, kn99, ks9, fa9, hp9, li9, e74, _⟩ := hz.2.2.1
  have hAr := hA.1
  have hsc9 := hA.2.2.2.2.2.2.2.1
  unfold wScl at hsc9
  have hsp9 := hA.2.2.2.2.2.2.2.2.2.2.1
  have hso9 := hA.2.2.2.2.2.2.2.2.2.2.2.1.1
  have hra := hA.2.2.2.2.2.2.2.2.2.2.2.2
  have z0 : (0 : Int32).toInt = 0 := rfl
  have z1 : (1 : Int32).toInt = 1 := rfl
  have z5 : (5 : Int32).toInt = 5 := rfl
  have z2 : (2 : Int32).toInt = 2 := rfl
  have z99 : (99 : Int32).toInt = 99 := rfl
  have qnso := nI_toInt (n := so) (by omega)
  refine wq_gos (f := 1) (pc2 := 1) (ls2 := [(0, .ref 0), (1, .int 0)]) (st2 := [.ref 0]) (h2 := h) (dc2 := 0) (ds2 := 0) 1 rfl ?_
  refine wq_getf rfl hX rfl rfl ?_
  refine wq_gos (f := 1) (pc2 := 5) (ls2 := [(0, .ref 0), (1, .int 0)]) (st2 := [.ref 0, .ref 74]) (h2 := h) (dc2 := 0) (ds2 := 0) 1 rfl ?_
  refine wq_getf rfl hX rfl rfl ?_
  refine wq_gos (f := 1) (pc2 := 9) (ls2 := [(0, .ref 0), (1, .int 0)]) (st2 := [.int 0, .long ps, .ref 74]) (h2 := h) (dc2 := 0) (ds2 := 0) 1 rfl ?_
  have q1x : (0 : Int32).toInt = 0 := rfl
  refine wq_inlv (y2 := 27) (as := [.long ps, .int 0]) rfl rfl rfl e74 rfl (c_use0 hX hA hz hRw hlen ?_ ?_)
  · intro h82x kn92x fr92x rS2x N2x stp2x pks2x cns2x tk92x d92x s92x f82x l82x c02x c12x c22x c32x c42x c52x p02x p12x
    show wq 135 12 [(0, .ref 0), (1, .int 0)] [.ref 80] h82x (0 + d92x) (0 + s92x) _
    refine wq_gos (f := 1) (pc2 := 14) (ls2 := [(2, .ref 80), (0, .ref 0), (1, .int 0)]) (st2 := [.ref 80]) (h2 := h82x) (dc2 := (0 + d92x)) (ds2 := (0 + s92x)) 2 rfl ?_
    refine wq_getf rfl c22x rfl rfl ?_
    refine wq_ge0f rfl rfl (by omega) ?_
    refine wq_gos (f := 1) (pc2 := 21) (ls2 := [(2, .ref 80), (0, .ref 0), (1, .int 0)]) (st2 := [.ref 80]) (h2 := h82x) (dc2 := (0 + d92x)) (ds2 := (0 + s92x)) 1 rfl ?_
    refine wq_getf rfl c22x rfl rfl ?_
    refine wq_gos (f := 1) (pc2 := 31) (ls2 := [(2, .ref 80), (0, .ref 0), (1, .int 0)]) (st2 := [.int tk92x]) (h2 := h82x) (dc2 := (0 + d92x)) (ds2 := (0 + s92x)) 1 rfl ?_
    exact wq_ret rfl rfl ⟨_, h82x, _, _, rfl, by rw [Nat.zero_add, Nat.zero_add]; exact p12x⟩
  · intro h83x kn93x fr93x rS3x N3x stp3x pks3x cns3x T93x d93x s93x f83x l83x c03x c13x c23x c33x c43x c53x p03x p13x p23x
    show wq 135 12 [(0, .ref 0), (1, .int 0)] [.ref 80] h83x (0 + d93x) (0 + s93x) _
    refine wq_gos (f := 1) (pc2 := 14) (ls2 := [(2, .ref 80), (0, .ref 0), (1, .int 0)]) (st2 := [.ref 80]) (h2 := h83x) (dc2 := (0 + d93x)) (ds2 := (0 + s93x)) 2 rfl ?_
    refine wq_getf rfl c23x rfl rfl ?_
    try have q4x := nI_toInt (n := T93x) (by omega)
    refine wq_ge0t rfl (by have := nI_toInt (n := T93x) (by omega); omega) ?_
    refine wq_gos (f := 1) (pc2 := 28) (ls2 := [(2, .ref 80), (0, .ref 0), (1, .int 0)]) (st2 := [.ref 80]) (h2 := h83x) (dc2 := (0 + d93x)) (ds2 := (0 + s93x)) 1 rfl ?_
    refine wq_inlv (y2 := 80) (as := []) rfl rfl rfl c23x rfl (wq_mono (c_lm c23x c33x (by first | assumption | omega | decide | solve_by_elim)) ?_)
    rintro _ rfl
    show wq 135 31 [(2, .ref 80), (0, .ref 0), (1, .int 0)] [.int (lmF T93x stp3x (T93x + 1 - 1 + 1) (jmea (stp3x.getD 0 0)) 1)] h83x (0 + d93x) (0 + s93x) _
    exact wq_ret rfl rfl ⟨_, h83x, _, _, rfl, by rw [Nat.zero_add, Nat.zero_add]; exact p23x⟩
set_option maxRecDepth 100000 in
set_option maxHeartbeats 4000000 in
theorem c_o122_1 {h : zH} {ra sp so : Nat} {lk hd ht bl sd : Int32} {rt : Int64} {ll lg sv nm wy : List Int32} {po : List Int64} {t rd : Nat} {ps ip : Int64} {im : Int32} {wg ka kb : Int32} {rw cp : Nat → Nat}  (hX : zat h 0 = some (.inr (.inr (.inr (9, [.ref 2, .int (nI t), .ref 4, .ref ra, .ref rd, .long ps, .ref 34, .ref 36, .int im, .long ip, .ref 42, .ref 44, .ref 60, .ref 66, .ref 72, .ref 74, .ref 150, .ref 158]))))) (hA : wArm h ra sp so lk hd ht bl sd rt ll lg sv nm wy po) (hz : wPz h ra so lk hd ht ll lg wy sv po wg ka kb rw cp) (hRw : wRws rw h.length) (hlen : 117 ≤ h.length)  : wq 122 0 [(0, .ref 0), (1, .int 1)] [] h 0 0 (fun r => ∃ v h2 d s, r = (some (.int v), h2, d, s) ∧ wPQ h ra so lk hd ht ll lg wy sv po rw cp h2 d s) := by
  obtain ⟨ob9, pr9, sr9, fw9, al9, fi9, hpl9, lf09, lf19, to9, kn99, ks9, fa9, hp9, li9, e74, _⟩ := hz.2.2.1
  have hAr := hA.1
  have hsc9 := hA.2.2.2.2.2.2.2.1
  unfold wScl at hsc9
  have hsp9 := hA.2.2.2.2.2.2.2.2.2.2.1
  have hso9 := hA.2.2.2.2.2.2.2.2.2.2.2.1.1
  have hra := hA.2.2.2.2.2.2.2.2.2.2.2.2
  have z0 : (0 : Int32).toInt = 0 := rfl
  have z1 : (1 : Int32).toInt = 1 := rfl
  have z5 : (5 : Int32).toInt = 5 := rfl
  have z2 : (2 : Int32).toInt = 2 := rfl
  have z99 : (99 : Int32).toInt = 99 := rfl
  have qnso := nI_toInt (n := so) (by omega)
  refine wq_gos (f := 1) (pc2 := 1) (ls2 := [(0, .ref 0), (1, .int 1)]) (st2 := [.ref 0]) (h2 := h) (dc2 := 0) (ds2 := 0) 1 rfl ?_
  refine wq_getf rfl hX rfl rfl ?_
  refine wq_gos (f := 1) (pc2 := 5) (ls2 := [(0, .ref 0), (1, .int 1)]) (st2 := [.ref 0, .ref 74]) (h2 := h) (dc2 := 0) (ds2 := 0) 1 rfl ?_
  refine wq_getf rfl hX rfl rfl ?_
  refine wq_gos (f := 1) (pc2 := 9) (ls2 := [(0, .ref 0), (1, .int 1)]) (st2 := [.int 1, .long ps, .ref 74]) (h2 := h) (dc2 := 0) (ds2 := 0) 1 rfl ?_
  have q1x : (1 : Int32).toInt = 1 := rfl
  refine wq_inlv (y2 := 27) (as := [.long ps, .int 1]) rfl rfl rfl e74 rfl (c_use1 hX hA hz hRw hlen ?_ ?_)
  · intro h82x kn92x fr92x rS2x N2x stp2x pks2x cns2x tk92x d92x s92x f82x l82x c02x c12x c22x c32x c42x c52x p02x p12x
    show wq 122 12 [(0, .ref 0), (1, .int 1)] [.ref 88] h82x (0 + d92x) (0 + s92x) _
    refine wq_getf rfl c22x rfl rfl ?_
    exact wq_ret rfl rfl ⟨_, h82x, _, _, rfl, by rw [Nat.zero_add, Nat.zero_add]; exact p12x⟩
  · intro h83x kn93x fr93x rS3x N3x stp3x pks3x cns3x T93x d93x s93x f83x l83x c03x c13x c23x c33x c43x c53x p03x p13x p23x
    show wq 122 12 [(0, .ref 0), (1, .int 1)] [.ref 88] h83x (0 + d93x) (0 + s93x) _
    refine wq_getf rfl c23x rfl rfl ?_
    exact wq_ret rfl rfl ⟨_, h83x, _, _, rfl, by rw [Nat.zero_add, Nat.zero_add]; exact p23x⟩
set_option maxRecDepth 100000 in
set_option maxHeartbeats 4000000 in
theorem c_o123_1 {h : zH} {ra sp so : Nat} {lk hd ht bl sd : Int32} {rt : Int64} {ll lg sv nm wy : List Int32} {po : List Int64} {t rd : Nat} {ps ip : Int64} {im : Int32} {wg ka kb : Int32} {rw cp : Nat → Nat} {i : Int32} (hX : zat h 0 = some (.inr (.inr (.inr (9, [.ref 2, .int (nI t), .ref 4, .ref ra, .ref rd, .long ps, .ref 34, .ref 36, .int im, .long ip, .ref 42, .ref 44, .ref 60, .ref 66, .ref 72, .ref 74, .ref 150, .ref 158]))))) (hA : wArm h ra sp so lk hd ht bl sd rt ll lg sv nm wy po) (hz : wPz h ra so lk hd ht ll lg wy sv po wg ka kb rw cp) (hRw : wRws rw h.length) (hlen : 117 ≤ h.length)  : wq 123 0 [(0, .ref 0), (1, .int 1), (2, .int i)] [] h 0 0 (fun r => ∃ v h2 d s, r = (some (.int v), h2, d, s) ∧ wPQ h ra so lk hd ht ll lg wy sv po rw cp h2 d s) := by
  obtain ⟨ob9, pr9, sr9, fw9, al9, fi9, hpl9, lf09, lf19, to9, kn99, ks9, fa9, hp9, li9, e74, _⟩ := hz.2.2.1
  have hAr := hA.1
  have hsc9 := hA.2.2.2.2.2.2.2.1
  unfold wScl at hsc9
  have hsp9 := hA.2.2.2.2.2.2.2.2.2.2.1
  have hso9 := hA.2.2.2.2.2.2.2.2.2.2.2.1.1
  have hra := hA.2.2.2.2.2.2.2.2.2.2.2.2
  have z0 : (0 : Int32).toInt = 0 := rfl
  have z1 : (1 : Int32).toInt = 1 := rfl
  have z5 : (5 : Int32).toInt = 5 := rfl
  have z2 : (2 : Int32).toInt = 2 := rfl
  have z99 : (99 : Int32).toInt = 99 := rfl
  have qnso := nI_toInt (n := so) (by omega)
  refine wq_gos (f := 1) (pc2 := 2) (ls2 := [(0, .ref 0), (1, .int 1), (2, .int i)]) (st2 := [.int i, .ref 0]) (h2 := h) (dc2 := 0) (ds2 := 0) 2 rfl ?_
  refine wq_inlv (y2 := 146) (as := [.int i]) rfl rfl rfl hX rfl ?_
  show wq 146 0 [(0, .ref 0), (1, .int i)] [] h 0 0 _
  refine wq_gos (f := 1) (pc2 := 1) (ls2 := [(0, .ref 0), (1, .int i)]) (st2 := [.int i]) (h2 := h) (dc2 := 0) (ds2 := 0) 1 rfl ?_
  refine wq_lt0 rfl rfl (fun b1x => ?_) (fun b1x => ?_)
  · refine wq_gos (f := 1) (pc2 := 20) (ls2 := [(0, .ref 0), (1, .int i)]) (st2 := [.int 1]) (h2 := h) (dc2 := 0) (ds2 := 0) 2 rfl ?_
    refine wq_ret rfl rfl ?_
    show wq 123 5 [(0, .ref 0), (1, .int 1), (2, .int i)] [.int 1] h 0 0 _
    refine wq_gos (f := 1) (pc2 := 9) (ls2 := [(0, .ref 0), (1, .int 1), (2, .int i)]) (st2 := [.int (-1)]) (h2 := h) (dc2 := 0) (ds2 := 0) 2 rfl ?_
    exact wq_ret rfl rfl ⟨_, h, 0, 0, rfl, wPQ_rf hz hRw⟩
  · refine wq_gos (f := 1) (pc2 := 6) (ls2 := [(0, .ref 0), (1, .int i)]) (st2 := [.ref 0, .int i]) (h2 := h) (dc2 := 0) (ds2 := 0) 2 rfl ?_
    refine wq_getf rfl hX rfl rfl ?_
    refine wq_getf rfl hAr rfl rfl ?_
    try have q2x := nI_toInt (n := so) (by omega)
    refine wq_lt2 rfl rfl (fun b3x => ?_) (fun b3x => ?_)
    · refine wq_gos (f := 1) (pc2 := 20) (ls2 := [(0, .ref 0), (1, .int i)]) (st2 := [.int 0]) (h2 := h) (dc2 := 0) (ds2 := 0) 1 rfl ?_
      refine wq_ret rfl rfl ?_
      show wq 123 5 [(0, .ref 0), (1, .int 1), (2, .int i)] [.int 0] h 0 0 _
      refine wq_gos (f := 1) (pc2 := 11) (ls2 := [(0, .ref 0), (1, .int 1), (2, .int i)]) (st2 := [.ref 0]) (h2 := h) (dc2 := 0) (ds2 := 0) 2 rfl ?_
      refine wq_getf rfl hX rfl rfl ?_
      refine wq_gos (f := 1) (pc2 := 15) (ls2 := [(0, .ref 0), (1, .int 1), (2, .int i)]) (st2 := [.ref 0, .ref 74]) (h2 := h) (dc2 := 0) (ds2 := 0) 1 rfl ?_
      refine wq_getf rfl hX rfl rfl ?_
      refine wq_gos (f := 1) (pc2 := 19) (ls2 := [(0, .ref 0), (1, .int 1), (2, .int i)]) (st2 := [.int 1, .long ps, .ref 74]) (h2 := h) (dc2 := 0) (ds2 := 0) 1 rfl ?_
      have q4x : (1 : Int32).toInt = 1 := rfl
      refine wq_inlv (y2 := 27) (as := [.long ps, .int 1]) rfl rfl rfl e74 rfl (c_use1 hX hA hz hRw hlen ?_ ?_)
      · intro h85x kn95x fr95x rS5x N5x stp5x pks5x cns5x tk95x d95x s95x f85x l85x c05x c15x c25x c35x c45x c55x p05x p15x
        show wq 123 22 [(0, .ref 0), (1, .int 1), (2, .int i)] [.ref 88] h85x (0 + d95x) (0 + s95x) _
        refine wq_gos (f := 1) (pc2 := 24) (ls2 := [(3, .ref 88), (0, .ref 0), (1, .int 1), (2, .int i)]) (st2 := [.ref 88]) (h2 := h85x) (dc2 := (0 + d95x)) (ds2 := (0 + s95x)) 2 rfl ?_
        refine wq_getf rfl c25x rfl rfl ?_
        refine wq_ge0f rfl rfl (by omega) ?_
        refine wq_gos (f := 1) (pc2 := 31) (ls2 := [(3, .ref 88), (0, .ref 0), (1, .int 1), (2, .int i)]) (st2 := [.ref 88]) (h2 := h85x) (dc2 := (0 + d95x)) (ds2 := (0 + s95x)) 1 rfl ?_
        refine wq_getf rfl c25x rfl rfl ?_
        refine wq_gos (f := 1) (pc2 := 43) (ls2 := [(3, .ref 88), (0, .ref 0), (1, .int 1), (2, .int i)]) (st2 := [.int tk95x]) (h2 := h85x) (dc2 := (0 + d95x)) (ds2 := (0 + s95x)) 1 rfl ?_
        exact wq_ret rfl rfl ⟨_, h85x, _, _, rfl, by rw [Nat.zero_add, Nat.zero_add]; exact p15x⟩
      · intro h86x kn96x fr96x rS6x N6x stp6x pks6x cns6x T96x d96x s96x f86x l86x c06x c16x c26x c36x c46x c56x p06x p16x p26x
        show wq 123 22 [(0, .ref 0), (1, .int 1), (2, .int i)] [.ref 88] h86x (0 + d96x) (0 + s96x) _
        refine wq_gos (f := 1) (pc2 := 24) (ls2 := [(3, .ref 88), (0, .ref 0), (1, .int 1), (2, .int i)]) (st2 := [.ref 88]) (h2 := h86x) (dc2 := (0 + d96x)) (ds2 := (0 + s96x)) 2 rfl ?_
        refine wq_getf rfl c26x rfl rfl ?_
        try have q7x := nI_toInt (n := T96x) (by omega)
        refine wq_ge0t rfl (by have := nI_toInt (n := T96x) (by omega); omega) ?_
        refine wq_gos (f := 1) (pc2 := 38) (ls2 := [(3, .ref 88), (0, .ref 0), (1, .int 1), (2, .int i)]) (st2 := [.ref 88]) (h2 := h86x) (dc2 := (0 + d96x)) (ds2 := (0 + s96x)) 1 rfl ?_
        refine wq_getf rfl c26x rfl rfl ?_
        refine wq_gos (f := 1) (pc2 := 42) (ls2 := [(3, .ref 88), (0, .ref 0), (1, .int 1), (2, .int i)]) (st2 := [.int i, .ref 90]) (h2 := h86x) (dc2 := (0 + d96x)) (ds2 := (0 + s96x)) 1 rfl ?_
        refine wq_iald rfl c46x (by first | omega | exact zin_t (by omega) (by omega)) rfl ?_
        exact wq_ret rfl rfl ⟨_, h86x, _, _, rfl, by rw [Nat.zero_add, Nat.zero_add]; exact p26x⟩
    · refine wq_gos (f := 1) (pc2 := 20) (ls2 := [(0, .ref 0), (1, .int i)]) (st2 := [.int 1]) (h2 := h) (dc2 := 0) (ds2 := 0) 2 rfl ?_
      refine wq_ret rfl rfl ?_
      show wq 123 5 [(0, .ref 0), (1, .int 1), (2, .int i)] [.int 1] h 0 0 _
      refine wq_gos (f := 1) (pc2 := 9) (ls2 := [(0, .ref 0), (1, .int 1), (2, .int i)]) (st2 := [.int (-1)]) (h2 := h) (dc2 := 0) (ds2 := 0) 2 rfl ?_
      exact wq_ret rfl rfl ⟨_, h, 0, 0, rfl, wPQ_rf hz hRw⟩
set_option maxRecDepth 100000 in
set_option maxHeartbeats 4000000 in
theorem c_o124_1 {h : zH} {ra sp so : Nat} {lk hd ht bl sd : Int32} {rt : Int64} {ll lg sv nm wy : List Int32} {po : List Int64} {t rd : Nat} {ps ip : Int64} {im : Int32} {wg ka kb : Int32} {rw cp : Nat → Nat} {n j : Int32} (hX : zat h 0 = some (.inr (.inr (.inr (9, [.ref 2, .int (nI t), .ref 4, .ref ra, .ref rd, .long ps, .ref 34, .ref 36, .int im, .long ip, .ref 42, .ref 44, .ref 60, .ref 66, .ref 72, .ref 74, .ref 150, .ref 158]))))) (hA : wArm h ra sp so lk hd ht bl sd rt ll lg sv nm wy po) (hz : wPz h ra so lk hd ht ll lg wy sv po wg ka kb rw cp) (hRw : wRws rw h.length) (hlen : 117 ≤ h.length)  : wq 124 0 [(0, .ref 0), (1, .int 1), (2, .int n), (3, .int j)] [] h 0 0 (fun r => ∃ v h2 d s, r = (some (.int v), h2, d, s) ∧ wPQ h ra so lk hd ht ll lg wy sv po rw cp h2 d s) := by
  obtain ⟨ob9, pr9, sr9, fw9, al9, fi9, hpl9, lf09, lf19, to9, kn99, ks9, fa9, hp9, li9, e74, _⟩ := hz.2.2.1
  have hAr := hA.1
  have hsc9 := hA.2.2.2.2.2.2.2.1
  unfold wScl at hsc9
  have hsp9 := hA.2.2.2.2.2.2.2.2.2.2.1
  have hso9 := hA.2.2.2.2.2.2.2.2.2.2.2.1.1
  have hra := hA.2.2.2.2.2.2.2.2.2.2.2.2
  have z0 : (0 : Int32).toInt = 0 := rfl
  have z1 : (1 : Int32).toInt = 1 := rfl
  have z5 : (5 : Int32).toInt = 5 := rfl
  have z2 : (2 : Int32).toInt = 2 := rfl
  have z99 : (99 : Int32).toInt = 99 := rfl
  have qnso := nI_toInt (n := so) (by omega)
  refine wq_gos (f := 1) (pc2 := 1) (ls2 := [(0, .ref 0), (1, .int 1), (2, .int n), (3, .int j)]) (st2 := [.int j]) (h2 := h) (dc2 := 0) (ds2 := 0) 1 rfl ?_
  refine wq_inl (y2 := 144) (as := [.int j]) rfl rfl rfl ?_
  show wq 144 0 [(0, .int j)] [] h 0 0 _
  refine wq_gos (f := 1) (pc2 := 1) (ls2 := [(0, .int j)]) (st2 := [.int j]) (h2 := h) (dc2 := 0) (ds2 := 0) 1 rfl ?_
  refine wq_lt0 rfl rfl (fun b1x => ?_) (fun b1x => ?_)
  · refine wq_gos (f := 1) (pc2 := 15) (ls2 := [(0, .int j)]) (st2 := [.int 1]) (h2 := h) (dc2 := 0) (ds2 := 0) 2 rfl ?_
    refine wq_ret rfl rfl ?_
    show wq 124 4 [(0, .ref 0), (1, .int 1), (2, .int n), (3, .int j)] [.int 1] h 0 0 _
    refine wq_gos (f := 1) (pc2 := 9) (ls2 := [(0, .ref 0), (1, .int 1), (2, .int n), (3, .int j)]) (st2 := [.int (-99)]) (h2 := h) (dc2 := 0) (ds2 := 0) 2 rfl ?_
    exact wq_ret rfl rfl ⟨_, h, 0, 0, rfl, wPQ_rf hz hRw⟩
  · refine wq_gos (f := 1) (pc2 := 7) (ls2 := [(0, .int j)]) (st2 := [.int 6, .int j]) (h2 := h) (dc2 := 0) (ds2 := 0) 2 rfl ?_
    have q2x : (6 : Int32).toInt = 6 := rfl
    refine wq_lt2 rfl rfl (fun b3x => ?_) (fun b3x => ?_)
    · refine wq_gos (f := 1) (pc2 := 15) (ls2 := [(0, .int j)]) (st2 := [.int 0]) (h2 := h) (dc2 := 0) (ds2 := 0) 1 rfl ?_
      refine wq_ret rfl rfl ?_
      show wq 124 4 [(0, .ref 0), (1, .int 1), (2, .int n), (3, .int j)] [.int 0] h 0 0 _
      refine wq_gos (f := 1) (pc2 := 11) (ls2 := [(0, .ref 0), (1, .int 1), (2, .int n), (3, .int j)]) (st2 := [.ref 0]) (h2 := h) (dc2 := 0) (ds2 := 0) 2 rfl ?_
      refine wq_getf rfl hX rfl rfl ?_
      refine wq_gos (f := 1) (pc2 := 15) (ls2 := [(0, .ref 0), (1, .int 1), (2, .int n), (3, .int j)]) (st2 := [.ref 0, .ref 74]) (h2 := h) (dc2 := 0) (ds2 := 0) 1 rfl ?_
      refine wq_getf rfl hX rfl rfl ?_
      refine wq_gos (f := 1) (pc2 := 19) (ls2 := [(0, .ref 0), (1, .int 1), (2, .int n), (3, .int j)]) (st2 := [.int 1, .long ps, .ref 74]) (h2 := h) (dc2 := 0) (ds2 := 0) 1 rfl ?_
      have q4x : (1 : Int32).toInt = 1 := rfl
      refine wq_inlv (y2 := 27) (as := [.long ps, .int 1]) rfl rfl rfl e74 rfl (c_use1 hX hA hz hRw hlen ?_ ?_)
      · intro h85x kn95x fr95x rS5x N5x stp5x pks5x cns5x tk95x d95x s95x f85x l85x c05x c15x c25x c35x c45x c55x p05x p15x
        show wq 124 22 [(0, .ref 0), (1, .int 1), (2, .int n), (3, .int j)] [.ref 88] h85x (0 + d95x) (0 + s95x) _
        refine wq_gos (f := 1) (pc2 := 26) (ls2 := [(4, .ref 88), (0, .ref 0), (1, .int 1), (2, .int n), (3, .int j)]) (st2 := [.ref 88]) (h2 := h85x) (dc2 := (0 + d95x)) (ds2 := (0 + s95x)) 2 rfl ?_
        refine wq_getf rfl c25x rfl rfl ?_
        refine wq_lt0t rfl (by omega) ?_
        refine wq_gos (f := 1) (pc2 := 57) (ls2 := [(4, .ref 88), (0, .ref 0), (1, .int 1), (2, .int n), (3, .int j)]) (st2 := [.int (-99)]) (h2 := h85x) (dc2 := (0 + d95x)) (ds2 := (0 + s95x)) 2 rfl ?_
        exact wq_ret rfl rfl ⟨_, h85x, _, _, rfl, by rw [Nat.zero_add, Nat.zero_add]; exact p15x⟩
      · intro h86x kn96x fr96x rS6x N6x stp6x pks6x cns6x T96x d96x s96x f86x l86x c06x c16x c26x c36x c46x c56x p06x p16x p26x
        show wq 124 22 [(0, .ref 0), (1, .int 1), (2, .int n), (3, .int j)] [.ref 88] h86x (0 + d96x) (0 + s96x) _
        refine wq_gos (f := 1) (pc2 := 26) (ls2 := [(4, .ref 88), (0, .ref 0), (1, .int 1), (2, .int n), (3, .int j)]) (st2 := [.ref 88]) (h2 := h86x) (dc2 := (0 + d96x)) (ds2 := (0 + s96x)) 2 rfl ?_
        refine wq_getf rfl c26x rfl rfl ?_
        try have q7x := nI_toInt (n := T96x) (by omega)
        refine wq_lt0f rfl rfl (by have := nI_toInt (n := T96x) (by omega); omega) ?_
        refine wq_gos (f := 1) (pc2 := 33) (ls2 := [(4, .ref 88), (0, .ref 0), (1, .int 1), (2, .int n), (3, .int j)]) (st2 := [.int n]) (h2 := h86x) (dc2 := (0 + d96x)) (ds2 := (0 + s96x)) 1 rfl ?_
        refine wq_lt0 rfl rfl (fun b8x => ?_) (fun b8x => ?_)
        · refine wq_gos (f := 1) (pc2 := 57) (ls2 := [(4, .ref 88), (0, .ref 0), (1, .int 1), (2, .int n), (3, .int j)]) (st2 := [.int (-99)]) (h2 := h86x) (dc2 := (0 + d96x)) (ds2 := (0 + s96x)) 2 rfl ?_
          exact wq_ret rfl rfl ⟨_, h86x, _, _, rfl, by rw [Nat.zero_add, Nat.zero_add]; exact p26x⟩
        · refine wq_gos (f := 1) (pc2 := 39) (ls2 := [(4, .ref 88), (0, .ref 0), (1, .int 1), (2, .int n), (3, .int j)]) (st2 := [.ref 88, .int n]) (h2 := h86x) (dc2 := (0 + d96x)) (ds2 := (0 + s96x)) 2 rfl ?_
          refine wq_getf rfl c26x rfl rfl ?_
          refine wq_le2 rfl rfl (fun b9x => ?_) (fun b9x => ?_)
          · refine wq_gos (f := 1) (pc2 := 54) (ls2 := [(4, .ref 88), (0, .ref 0), (1, .int 1), (2, .int n), (3, .int j)]) (st2 := [.int j, .int n, .ref 88]) (h2 := h86x) (dc2 := (0 + d96x)) (ds2 := (0 + s96x)) 3 rfl ?_
            refine wq_inlv (y2 := 70) (as := [.int n, .int j]) rfl rfl rfl c26x rfl (wq_mono (c_nat c26x c36x (by first | assumption | omega | decide | solve_by_elim)) ?_)
            rintro _ rfl
            show wq 124 57 [(4, .ref 88), (0, .ref 0), (1, .int 1), (2, .int n), (3, .int j)] [.int (jNat T96x stp6x n j)] h86x (0 + d96x) (0 + s96x) _
            exact wq_ret rfl rfl ⟨_, h86x, _, _, rfl, by rw [Nat.zero_add, Nat.zero_add]; exact p26x⟩
          · refine wq_gos (f := 1) (pc2 := 57) (ls2 := [(4, .ref 88), (0, .ref 0), (1, .int 1), (2, .int n), (3, .int j)]) (st2 := [.int (-99)]) (h2 := h86x) (dc2 := (0 + d96x)) (ds2 := (0 + s96x)) 2 rfl ?_
            exact wq_ret rfl rfl ⟨_, h86x, _, _, rfl, by rw [Nat.zero_add, Nat.zero_add]; exact p26x⟩
    · refine wq_gos (f := 1) (pc2 := 15) (ls2 := [(0, .int j)]) (st2 := [.int 1]) (h2 := h) (dc2 := 0) (ds2 := 0) 2 rfl ?_
      refine wq_ret rfl rfl ?_
      show wq 124 4 [(0, .ref 0), (1, .int 1), (2, .int n), (3, .int j)] [.int 1] h 0 0 _
      refine wq_gos (f := 1) (pc2 := 9) (ls2 := [(0, .ref 0), (1, .int 1), (2, .int n), (3, .int j)]) (st2 := [.int (-99)]) (h2 := h) (dc2 := 0) (ds2 := 0) 2 rfl ?_
      exact wq_ret rfl rfl ⟨_, h, 0, 0, rfl, wPQ_rf hz hRw⟩
set_option maxRecDepth 100000 in
set_option maxHeartbeats 4000000 in
theorem c_o125_1 {h : zH} {ra sp so : Nat} {lk hd ht bl sd : Int32} {rt : Int64} {ll lg sv nm wy : List Int32} {po : List Int64} {t rd : Nat} {ps ip : Int64} {im : Int32} {wg ka kb : Int32} {rw cp : Nat → Nat} {n j : Int32} (hX : zat h 0 = some (.inr (.inr (.inr (9, [.ref 2, .int (nI t), .ref 4, .ref ra, .ref rd, .long ps, .ref 34, .ref 36, .int im, .long ip, .ref 42, .ref 44, .ref 60, .ref 66, .ref 72, .ref 74, .ref 150, .ref 158]))))) (hA : wArm h ra sp so lk hd ht bl sd rt ll lg sv nm wy po) (hz : wPz h ra so lk hd ht ll lg wy sv po wg ka kb rw cp) (hRw : wRws rw h.length) (hlen : 117 ≤ h.length)  : wq 125 0 [(0, .ref 0), (1, .int 1), (2, .int n), (3, .int j)] [] h 0 0 (fun r => ∃ v h2 d s, r = (some (.int v), h2, d, s) ∧ wPQ h ra so lk hd ht ll lg wy sv po rw cp h2 d s) := by
  obtain ⟨ob9, pr9, sr9, fw9, al9, fi9, hpl9, lf09, lf19, to9, kn99, ks9, fa9, hp9, li9, e74, _⟩ := hz.2.2.1
  have hAr := hA.1
  have hsc9 := hA.2.2.2.2.2.2.2.1
  unfold wScl at hsc9
  have hsp9 := hA.2.2.2.2.2.2.2.2.2.2.1
  have hso9 := hA.2.2.2.2.2.2.2.2.2.2.2.1.1
  have hra := hA.2.2.2.2.2.2.2.2.2.2.2.2
  have z0 : (0 : Int32).toInt = 0 := rfl
  have z1 : (1 : Int32).toInt = 1 := rfl
  have z5 : (5 : Int32).toInt = 5 := rfl
  have z2 : (2 : Int32).toInt = 2 := rfl
  have z99 : (99 : Int32).toInt = 99 := rfl
  have qnso := nI_toInt (n := so) (by omega)
  refine wq_gos (f := 1) (pc2 := 1) (ls2 := [(0, .ref 0), (1, .int 1), (2, .int n), (3, .int j)]) (st2 := [.int j]) (h2 := h) (dc2 := 0) (ds2 := 0) 1 rfl ?_
  refine wq_inl (y2 := 144) (as := [.int j]) rfl rfl rfl ?_
  show wq 144 0 [(0, .int j)] [] h 0 0 _
  refine wq_gos (f := 1) (pc2 := 1) (ls2 := [(0, .int j)]) (st2 := [.int j]) (h2 := h) (dc2 := 0) (ds2 := 0) 1 rfl ?_
  refine wq_lt0 rfl rfl (fun b1x => ?_) (fun b1x => ?_)
  · refine wq_gos (f := 1) (pc2 := 15) (ls2 := [(0, .int j)]) (st2 := [.int 1]) (h2 := h) (dc2 := 0) (ds2 := 0) 2 rfl ?_
    refine wq_ret rfl rfl ?_
    show wq 125 4 [(0, .ref 0), (1, .int 1), (2, .int n), (3, .int j)] [.int 1] h 0 0 _
    refine wq_gos (f := 1) (pc2 := 10) (ls2 := [(0, .ref 0), (1, .int 1), (2, .int n), (3, .int j)]) (st2 := [.int (-9999)]) (h2 := h) (dc2 := 0) (ds2 := 0) 2 rfl ?_
    exact wq_ret rfl rfl ⟨_, h, 0, 0, rfl, wPQ_rf hz hRw⟩
  · refine wq_gos (f := 1) (pc2 := 7) (ls2 := [(0, .int j)]) (st2 := [.int 6, .int j]) (h2 := h) (dc2 := 0) (ds2 := 0) 2 rfl ?_
    have q2x : (6 : Int32).toInt = 6 := rfl
    refine wq_lt2 rfl rfl (fun b3x => ?_) (fun b3x => ?_)
    · refine wq_gos (f := 1) (pc2 := 15) (ls2 := [(0, .int j)]) (st2 := [.int 0]) (h2 := h) (dc2 := 0) (ds2 := 0) 1 rfl ?_
      refine wq_ret rfl rfl ?_
      show wq 125 4 [(0, .ref 0), (1, .int 1), (2, .int n), (3, .int j)] [.int 0] h 0 0 _
      refine wq_gos (f := 1) (pc2 := 12) (ls2 := [(0, .ref 0), (1, .int 1), (2, .int n), (3, .int j)]) (st2 := [.ref 0]) (h2 := h) (dc2 := 0) (ds2 := 0) 2 rfl ?_
      refine wq_getf rfl hX rfl rfl ?_
      refine wq_gos (f := 1) (pc2 := 16) (ls2 := [(0, .ref 0), (1, .int 1), (2, .int n), (3, .int j)]) (st2 := [.ref 0, .ref 74]) (h2 := h) (dc2 := 0) (ds2 := 0) 1 rfl ?_
      refine wq_getf rfl hX rfl rfl ?_
      refine wq_gos (f := 1) (pc2 := 20) (ls2 := [(0, .ref 0), (1, .int 1), (2, .int n), (3, .int j)]) (st2 := [.int 1, .long ps, .ref 74]) (h2 := h) (dc2 := 0) (ds2 := 0) 1 rfl ?_
      have q4x : (1 : Int32).toInt = 1 := rfl
      refine wq_inlv (y2 := 27) (as := [.long ps, .int 1]) rfl rfl rfl e74 rfl (c_use1 hX hA hz hRw hlen ?_ ?_)
      · intro h85x kn95x fr95x rS5x N5x stp5x pks5x cns5x tk95x d95x s95x f85x l85x c05x c15x c25x c35x c45x c55x p05x p15x
        show wq 125 23 [(0, .ref 0), (1, .int 1), (2, .int n), (3, .int j)] [.ref 88] h85x (0 + d95x) (0 + s95x) _
        refine wq_gos (f := 1) (pc2 := 27) (ls2 := [(4, .ref 88), (0, .ref 0), (1, .int 1), (2, .int n), (3, .int j)]) (st2 := [.ref 88]) (h2 := h85x) (dc2 := (0 + d95x)) (ds2 := (0 + s95x)) 2 rfl ?_
        refine wq_getf rfl c25x rfl rfl ?_
        refine wq_lt0t rfl (by omega) ?_
        refine wq_gos (f := 1) (pc2 := 65) (ls2 := [(4, .ref 88), (0, .ref 0), (1, .int 1), (2, .int n), (3, .int j)]) (st2 := [.int (-9999)]) (h2 := h85x) (dc2 := (0 + d95x)) (ds2 := (0 + s95x)) 1 rfl ?_
        exact wq_ret rfl rfl ⟨_, h85x, _, _, rfl, by rw [Nat.zero_add, Nat.zero_add]; exact p15x⟩
      · intro h86x kn96x fr96x rS6x N6x stp6x pks6x cns6x T96x d96x s96x f86x l86x c06x c16x c26x c36x c46x c56x p06x p16x p26x
        show wq 125 23 [(0, .ref 0), (1, .int 1), (2, .int n), (3, .int j)] [.ref 88] h86x (0 + d96x) (0 + s96x) _
        refine wq_gos (f := 1) (pc2 := 27) (ls2 := [(4, .ref 88), (0, .ref 0), (1, .int 1), (2, .int n), (3, .int j)]) (st2 := [.ref 88]) (h2 := h86x) (dc2 := (0 + d96x)) (ds2 := (0 + s96x)) 2 rfl ?_
        refine wq_getf rfl c26x rfl rfl ?_
        try have q7x := nI_toInt (n := T96x) (by omega)
        refine wq_lt0f rfl rfl (by have := nI_toInt (n := T96x) (by omega); omega) ?_
        refine wq_gos (f := 1) (pc2 := 35) (ls2 := [(4, .ref 88), (0, .ref 0), (1, .int 1), (2, .int n), (3, .int j)]) (st2 := [.ref 0, .int n]) (h2 := h86x) (dc2 := (0 + d96x)) (ds2 := (0 + s96x)) 2 rfl ?_
        refine wq_getf rfl c06x rfl rfl ?_
        refine wq_getf rfl c16x rfl rfl ?_
        refine wq_gos (f := 1) (pc2 := 42) (ls2 := [(4, .ref 88), (0, .ref 0), (1, .int 1), (2, .int n), (3, .int j)]) (st2 := [.int (-bl), .int n]) (h2 := h86x) (dc2 := (0 + d96x)) (ds2 := (0 + s96x)) 1 rfl ?_
        try have q8x : ((-bl)).toInt = -bl.toInt := e_neg (by omega)
        refine wq_lt2 rfl rfl (fun b9x => ?_) (fun b9x => ?_)
        · refine wq_gos (f := 1) (pc2 := 65) (ls2 := [(4, .ref 88), (0, .ref 0), (1, .int 1), (2, .int n), (3, .int j)]) (st2 := [.int (-9999)]) (h2 := h86x) (dc2 := (0 + d96x)) (ds2 := (0 + s96x)) 1 rfl ?_
          exact wq_ret rfl rfl ⟨_, h86x, _, _, rfl, by rw [Nat.zero_add, Nat.zero_add]; exact p26x⟩
        · refine wq_gos (f := 1) (pc2 := 48) (ls2 := [(4, .ref 88), (0, .ref 0), (1, .int 1), (2, .int n), (3, .int j)]) (st2 := [.ref 88, .int n]) (h2 := h86x) (dc2 := (0 + d96x)) (ds2 := (0 + s96x)) 2 rfl ?_
          refine wq_getf rfl c26x rfl rfl ?_
          refine wq_gos (f := 1) (pc2 := 52) (ls2 := [(4, .ref 88), (0, .ref 0), (1, .int 1), (2, .int n), (3, .int j)]) (st2 := [.ref 0, .int (nI T96x), .int n]) (h2 := h86x) (dc2 := (0 + d96x)) (ds2 := (0 + s96x)) 1 rfl ?_
          refine wq_getf rfl c06x rfl rfl ?_
          refine wq_getf rfl c16x rfl rfl ?_
          refine wq_gos (f := 1) (pc2 := 59) (ls2 := [(4, .ref 88), (0, .ref 0), (1, .int 1), (2, .int n), (3, .int j)]) (st2 := [.int ((nI T96x) + bl), .int n]) (h2 := h86x) (dc2 := (0 + d96x)) (ds2 := (0 + s96x)) 1 rfl ?_
          try have q10x : (((nI T96x) + bl)).toInt = (nI T96x).toInt + bl.toInt := e_add (by omega) (by omega)
          refine wq_le2 rfl rfl (fun b11x => ?_) (fun b11x => ?_)
          · refine wq_gos (f := 1) (pc2 := 71) (ls2 := [(4, .ref 88), (0, .ref 0), (1, .int 1), (2, .int n), (3, .int j)]) (st2 := [.ref 0, .int j, .int n, .ref 88]) (h2 := h86x) (dc2 := (0 + d96x)) (ds2 := (0 + s96x)) 4 rfl ?_
            refine wq_getf rfl c06x rfl rfl ?_
            refine wq_getf rfl c16x rfl rfl ?_
            refine wq_inlv (y2 := 71) (as := [.int n, .int j, .int bl]) rfl rfl rfl c26x rfl (wq_mono (c_sa c26x c36x (by first | assumption | omega | decide | solve_by_elim) (by first | assumption | omega | decide | solve_by_elim)) ?_)
            rintro _ rfl
            show wq 125 80 [(4, .ref 88), (0, .ref 0), (1, .int 1), (2, .int n), (3, .int j)] [.int (saF T96x stp6x n j bl ((bl.toInt + 1 - (-bl).toInt).toNat + 1) 0 (-bl))] h86x (0 + d96x) (0 + s96x) _
            exact wq_ret rfl rfl ⟨_, h86x, _, _, rfl, by rw [Nat.zero_add, Nat.zero_add]; exact p26x⟩
          · refine wq_gos (f := 1) (pc2 := 65) (ls2 := [(4, .ref 88), (0, .ref 0), (1, .int 1), (2, .int n), (3, .int j)]) (st2 := [.int (-9999)]) (h2 := h86x) (dc2 := (0 + d96x)) (ds2 := (0 + s96x)) 1 rfl ?_
            exact wq_ret rfl rfl ⟨_, h86x, _, _, rfl, by rw [Nat.zero_add, Nat.zero_add]; exact p26x⟩
    · refine wq_gos (f := 1) (pc2 := 15) (ls2 := [(0, .int j)]) (st2 := [.int 1]) (h2 := h) (dc2 := 0) (ds2 := 0) 2 rfl ?_
      refine wq_ret rfl rfl ?_
      show wq 125 4 [(0, .ref 0), (1, .int 1), (2, .int n), (3, .int j)] [.int 1] h 0 0 _
      refine wq_gos (f := 1) (pc2 := 10) (ls2 := [(0, .ref 0), (1, .int 1), (2, .int n), (3, .int j)]) (st2 := [.int (-9999)]) (h2 := h) (dc2 := 0) (ds2 := 0) 2 rfl ?_
      exact wq_ret rfl rfl ⟨_, h, 0, 0, rfl, wPQ_rf hz hRw⟩
set_option maxRecDepth 100000 in
set_option maxHeartbeats 4000000 in
theorem c_o126_1 {h : zH} {ra sp so : Nat} {lk hd ht bl sd : Int32} {rt : Int64} {ll lg sv nm wy : List Int32} {po : List Int64} {t rd : Nat} {ps ip : Int64} {im : Int32} {wg ka kb : Int32} {rw cp : Nat → Nat} {j sm : Int32} (hX : zat h 0 = some (.inr (.inr (.inr (9, [.ref 2, .int (nI t), .ref 4, .ref ra, .ref rd, .long ps, .ref 34, .ref 36, .int im, .long ip, .ref 42, .ref 44, .ref 60, .ref 66, .ref 72, .ref 74, .ref 150, .ref 158]))))) (hA : wArm h ra sp so lk hd ht bl sd rt ll lg sv nm wy po) (hz : wPz h ra so lk hd ht ll lg wy sv po wg ka kb rw cp) (hRw : wRws rw h.length) (hlen : 117 ≤ h.length)  : wq 126 0 [(0, .ref 0), (1, .int 1), (2, .int j), (3, .int sm)] [] h 0 0 (fun r => ∃ v h2 d s, r = (some (.int v), h2, d, s) ∧ wPQ h ra so lk hd ht ll lg wy sv po rw cp h2 d s) := by
  obtain ⟨ob9, pr9, sr9, fw9, al9, fi9, hpl9, lf09, lf19, to9, kn99, ks9, fa9, hp9, li9, e74, _⟩ := hz.2.2.1
  have hAr := hA.1
  have hsc9 := hA.2.2.2.2.2.2.2.1
  unfold wScl at hsc9
  have hsp9 := hA.2.2.2.2.2.2.2.2.2.2.1
  have hso9 := hA.2.2.2.2.2.2.2.2.2.2.2.1.1
  have hra := hA.2.2.2.2.2.2.2.2.2.2.2.2
  have z0 : (0 : Int32).toInt = 0 := rfl
  have z1 : (1 : Int32).toInt = 1 := rfl
  have z5 : (5 : Int32).toInt = 5 := rfl
  have z2 : (2 : Int32).toInt = 2 := rfl
  have z99 : (99 : Int32).toInt = 99 := rfl
  have qnso := nI_toInt (n := so) (by omega)
  refine wq_gos (f := 1) (pc2 := 1) (ls2 := [(0, .ref 0), (1, .int 1), (2, .int j), (3, .int sm)]) (st2 := [.int j]) (h2 := h) (dc2 := 0) (ds2 := 0) 1 rfl ?_
  refine wq_inl (y2 := 144) (as := [.int j]) rfl rfl rfl ?_
  show wq 144 0 [(0, .int j)] [] h 0 0 _
  refine wq_gos (f := 1) (pc2 := 1) (ls2 := [(0, .int j)]) (st2 := [.int j]) (h2 := h) (dc2 := 0) (ds2 := 0) 1 rfl ?_
  refine wq_lt0 rfl rfl (fun b1x => ?_) (fun b1x => ?_)
  · refine wq_gos (f := 1) (pc2 := 15) (ls2 := [(0, .int j)]) (st2 := [.int 1]) (h2 := h) (dc2 := 0) (ds2 := 0) 2 rfl ?_
    refine wq_ret rfl rfl ?_
    show wq 126 4 [(0, .ref 0), (1, .int 1), (2, .int j), (3, .int sm)] [.int 1] h 0 0 _
    refine wq_gos (f := 1) (pc2 := 8) (ls2 := [(0, .ref 0), (1, .int 1), (2, .int j), (3, .int sm)]) (st2 := [.int (-1)]) (h2 := h) (dc2 := 0) (ds2 := 0) 2 rfl ?_
    exact wq_ret rfl rfl ⟨_, h, 0, 0, rfl, wPQ_rf hz hRw⟩
  · refine wq_gos (f := 1) (pc2 := 7) (ls2 := [(0, .int j)]) (st2 := [.int 6, .int j]) (h2 := h) (dc2 := 0) (ds2 := 0) 2 rfl ?_
    have q2x : (6 : Int32).toInt = 6 := rfl
    refine wq_lt2 rfl rfl (fun b3x => ?_) (fun b3x => ?_)
    · refine wq_gos (f := 1) (pc2 := 15) (ls2 := [(0, .int j)]) (st2 := [.int 0]) (h2 := h) (dc2 := 0) (ds2 := 0) 1 rfl ?_
      refine wq_ret rfl rfl ?_
      show wq 126 4 [(0, .ref 0), (1, .int 1), (2, .int j), (3, .int sm)] [.int 0] h 0 0 _
      refine wq_gos (f := 1) (pc2 := 10) (ls2 := [(0, .ref 0), (1, .int 1), (2, .int j), (3, .int sm)]) (st2 := [.ref 0]) (h2 := h) (dc2 := 0) (ds2 := 0) 2 rfl ?_
      refine wq_getf rfl hX rfl rfl ?_
      refine wq_gos (f := 1) (pc2 := 14) (ls2 := [(0, .ref 0), (1, .int 1), (2, .int j), (3, .int sm)]) (st2 := [.ref 0, .ref 74]) (h2 := h) (dc2 := 0) (ds2 := 0) 1 rfl ?_
      refine wq_getf rfl hX rfl rfl ?_
      refine wq_gos (f := 1) (pc2 := 18) (ls2 := [(0, .ref 0), (1, .int 1), (2, .int j), (3, .int sm)]) (st2 := [.int 1, .long ps, .ref 74]) (h2 := h) (dc2 := 0) (ds2 := 0) 1 rfl ?_
      have q4x : (1 : Int32).toInt = 1 := rfl
      refine wq_inlv (y2 := 27) (as := [.long ps, .int 1]) rfl rfl rfl e74 rfl (c_use1 hX hA hz hRw hlen ?_ ?_)
      · intro h85x kn95x fr95x rS5x N5x stp5x pks5x cns5x tk95x d95x s95x f85x l85x c05x c15x c25x c35x c45x c55x p05x p15x
        show wq 126 21 [(0, .ref 0), (1, .int 1), (2, .int j), (3, .int sm)] [.ref 88] h85x (0 + d95x) (0 + s95x) _
        refine wq_gos (f := 1) (pc2 := 25) (ls2 := [(4, .ref 88), (0, .ref 0), (1, .int 1), (2, .int j), (3, .int sm)]) (st2 := [.ref 88]) (h2 := h85x) (dc2 := (0 + d95x)) (ds2 := (0 + s95x)) 2 rfl ?_
        refine wq_getf rfl c25x rfl rfl ?_
        refine wq_ge0f rfl rfl (by omega) ?_
        refine wq_gos (f := 1) (pc2 := 33) (ls2 := [(4, .ref 88), (0, .ref 0), (1, .int 1), (2, .int j), (3, .int sm)]) (st2 := [.ref 88]) (h2 := h85x) (dc2 := (0 + d95x)) (ds2 := (0 + s95x)) 1 rfl ?_
        refine wq_getf rfl c25x rfl rfl ?_
        refine wq_gos (f := 1) (pc2 := 60) (ls2 := [(4, .ref 88), (0, .ref 0), (1, .int 1), (2, .int j), (3, .int sm)]) (st2 := [.int tk95x]) (h2 := h85x) (dc2 := (0 + d95x)) (ds2 := (0 + s95x)) 1 rfl ?_
        exact wq_ret rfl rfl ⟨_, h85x, _, _, rfl, by rw [Nat.zero_add, Nat.zero_add]; exact p15x⟩
      · intro h86x kn96x fr96x rS6x N6x stp6x pks6x cns6x T96x d96x s96x f86x l86x c06x c16x c26x c36x c46x c56x p06x p16x p26x
        show wq 126 21 [(0, .ref 0), (1, .int 1), (2, .int j), (3, .int sm)] [.ref 88] h86x (0 + d96x) (0 + s96x) _
        refine wq_gos (f := 1) (pc2 := 25) (ls2 := [(4, .ref 88), (0, .ref 0), (1, .int 1), (2, .int j), (3, .int sm)]) (st2 := [.ref 88]) (h2 := h86x) (dc2 := (0 + d96x)) (ds2 := (0 + s96x)) 2 rfl ?_
        refine wq_getf rfl c26x rfl rfl ?_
        try have q7x := nI_toInt (n := T96x) (by omega)
        refine wq_ge0t rfl (by have := nI_toInt (n := T96x) (by omega); omega) ?_
        refine wq_gos (f := 1) (pc2 := 43) (ls2 := [(4, .ref 88), (0, .ref 0), (1, .int 1), (2, .int j), (3, .int sm)]) (st2 := [.int sm, .int j, .ref 88]) (h2 := h86x) (dc2 := (0 + d96x)) (ds2 := (0 + s96x)) 3 rfl ?_
        refine wq_eq0 rfl rfl (fun b8x => ?_) (fun b8x => ?_)
        · have q9x : sm.toInt = 0 := congrArg Int32.toInt b8x
          refine wq_gos (f := 1) (pc2 := 57) (ls2 := [(4, .ref 88), (0, .ref 0), (1, .int 1), (2, .int j), (3, .int sm)]) (st2 := [.int 0, .int j, .ref 88]) (h2 := h86x) (dc2 := (0 + d96x)) (ds2 := (0 + s96x)) 1 rfl ?_
          have q10x : (0 : Int32).toInt = 0 := rfl
          refine wq_inlv (y2 := 72) (as := [.int j, .int 0]) rfl rfl rfl c26x rfl (wq_mono (c_gs c26x c36x (by first | assumption | omega | decide | solve_by_elim) (by first | assumption | omega | decide | solve_by_elim)) ?_)
          rintro _ rfl
          show wq 126 60 [(4, .ref 88), (0, .ref 0), (1, .int 1), (2, .int j), (3, .int sm)] [.int (gsF T96x stp6x j (0 : Int32) ((T96x + (0 : Int32).toInt - (-(0 : Int32)).toInt).toNat + 1) 0 (-(0 : Int32)))] h86x (0 + d96x) (0 + s96x) _
          exact wq_ret rfl rfl ⟨_, h86x, _, _, rfl, by rw [Nat.zero_add, Nat.zero_add]; exact p26x⟩
        · have q12x : sm.toInt ≠ 0 := fun q => b8x (Int32.toInt_inj.mp q)
          refine wq_gos (f := 1) (pc2 := 47) (ls2 := [(4, .ref 88), (0, .ref 0), (1, .int 1), (2, .int j), (3, .int sm)]) (st2 := [.ref 0, .int j, .ref 88]) (h2 := h86x) (dc2 := (0 + d96x)) (ds2 := (0 + s96x)) 1 rfl ?_
          refine wq_getf rfl c06x rfl rfl ?_
          refine wq_getf rfl c16x rfl rfl ?_
          refine wq_gos (f := 1) (pc2 := 57) (ls2 := [(4, .ref 88), (0, .ref 0), (1, .int 1), (2, .int j), (3, .int sm)]) (st2 := [.int bl, .int j, .ref 88]) (h2 := h86x) (dc2 := (0 + d96x)) (ds2 := (0 + s96x)) 1 rfl ?_
          refine wq_inlv (y2 := 72) (as := [.int j, .int bl]) rfl rfl rfl c26x rfl (wq_mono (c_gs c26x c36x (by first | assumption | omega | decide | solve_by_elim) (by first | assumption | omega | decide | solve_by_elim)) ?_)
          rintro _ rfl
          show wq 126 60 [(4, .ref 88), (0, .ref 0), (1, .int 1), (2, .int j), (3, .int sm)] [.int (gsF T96x stp6x j bl ((T96x + bl.toInt - (-bl).toInt).toNat + 1) 0 (-bl))] h86x (0 + d96x) (0 + s96x) _
          exact wq_ret rfl rfl ⟨_, h86x, _, _, rfl, by rw [Nat.zero_add, Nat.zero_add]; exact p26x⟩
    · refine wq_gos (f := 1) (pc2 := 15) (ls2 := [(0, .int j)]) (st2 := [.int 1]) (h2 := h) (dc2 := 0) (ds2 := 0) 2 rfl ?_
      refine wq_ret rfl rfl ?_
      show wq 126 4 [(0, .ref 0), (1, .int 1), (2, .int j), (3, .int sm)] [.int 1] h 0 0 _
      refine wq_gos (f := 1) (pc2 := 8) (ls2 := [(0, .ref 0), (1, .int 1), (2, .int j), (3, .int sm)]) (st2 := [.int (-1)]) (h2 := h) (dc2 := 0) (ds2 := 0) 2 rfl ?_
      exact wq_ret rfl rfl ⟨_, h, 0, 0, rfl, wPQ_rf hz hRw⟩
set_option maxRecDepth 100000 in
set_option maxHeartbeats 4000000 in
theorem c_o127_1 {h : zH} {ra sp so : Nat} {lk hd ht bl sd : Int32} {rt : Int64} {ll lg sv nm wy : List Int32} {po : List Int64} {t rd : Nat} {ps ip : Int64} {im : Int32} {wg ka kb : Int32} {rw cp : Nat → Nat} {i : Nat} {j : Int32} (hX : zat h 0 = some (.inr (.inr (.inr (9, [.ref 2, .int (nI t), .ref 4, .ref ra, .ref rd, .long ps, .ref 34, .ref 36, .int im, .long ip, .ref 42, .ref 44, .ref 60, .ref 66, .ref 72, .ref 74, .ref 150, .ref 158]))))) (hA : wArm h ra sp so lk hd ht bl sd rt ll lg sv nm wy po) (hz : wPz h ra so lk hd ht ll lg wy sv po wg ka kb rw cp) (hRw : wRws rw h.length) (hlen : 117 ≤ h.length) (hi : i < so ∧ so ≤ 10) : wq 127 0 [(0, .ref 0), (1, .int 1), (2, .int (nI i)), (3, .int j)] [] h 0 0 (fun r => ∃ v h2 d s, r = (some (.int v), h2, d, s) ∧ wPQ h ra so lk hd ht ll lg wy sv po rw cp h2 d s) := by
  obtain ⟨ob9, pr9, sr9, fw9, al9, fi9, hpl9, lf09, lf19, to9, kn99, ks9, fa9, hp9, li9, e74, _⟩ := hz.2.2.1
  have hAr := hA.1
  have hsc9 := hA.2.2.2.2.2.2.2.1
  unfold wScl at hsc9
  have hsp9 := hA.2.2.2.2.2.2.2.2.2.2.1
  have hso9 := hA.2.2.2.2.2.2.2.2.2.2.2.1.1
  have hra := hA.2.2.2.2.2.2.2.2.2.2.2.2
  have qni := nI_toInt (n := i) (by omega)
  have z0 : (0 : Int32).toInt = 0 := rfl
  have z1 : (1 : Int32).toInt = 1 := rfl
  have z5 : (5 : Int32).toInt = 5 := rfl
  have z2 : (2 : Int32).toInt = 2 := rfl
  have z99 : (99 : Int32).toInt = 99 := rfl
  have qnso := nI_toInt (n := so) (by omega)
  refine wq_gos (f := 1) (pc2 := 2) (ls2 := [(0, .ref 0), (1, .int 1), (2, .int (nI i)), (3, .int j)]) (st2 := [.int (nI i), .ref 0]) (h2 := h) (dc2 := 0) (ds2 := 0) 2 rfl ?_
  refine wq_inlv (y2 := 146) (as := [.int (nI i)]) rfl rfl rfl hX rfl ?_
  show wq 146 0 [(0, .ref 0), (1, .int (nI i))] [] h 0 0 _
  refine wq_gos (f := 1) (pc2 := 1) (ls2 := [(0, .ref 0), (1, .int (nI i))]) (st2 := [.int (nI i)]) (h2 := h) (dc2 := 0) (ds2 := 0) 1 rfl ?_
  try have q1x := nI_toInt (n := i) (by omega)
  refine wq_lt0 rfl rfl (fun b2x => ?_) (fun b2x => ?_)
  · refine wq_gos (f := 1) (pc2 := 20) (ls2 := [(0, .ref 0), (1, .int (nI i))]) (st2 := [.int 1]) (h2 := h) (dc2 := 0) (ds2 := 0) 2 rfl ?_
    refine wq_ret rfl rfl ?_
    show wq 127 5 [(0, .ref 0), (1, .int 1), (2, .int (nI i)), (3, .int j)] [.int 1] h 0 0 _
    refine wq_gos (f := 1) (pc2 := 16) (ls2 := [(0, .ref 0), (1, .int 1), (2, .int (nI i)), (3, .int j)]) (st2 := [.int (-1)]) (h2 := h) (dc2 := 0) (ds2 := 0) 2 rfl ?_
    exact wq_ret rfl rfl ⟨_, h, 0, 0, rfl, wPQ_rf hz hRw⟩
  · refine wq_gos (f := 1) (pc2 := 6) (ls2 := [(0, .ref 0), (1, .int (nI i))]) (st2 := [.ref 0, .int (nI i)]) (h2 := h) (dc2 := 0) (ds2 := 0) 2 rfl ?_
    refine wq_getf rfl hX rfl rfl ?_
    refine wq_getf rfl hAr rfl rfl ?_
    try have q3x := nI_toInt (n := so) (by omega)
    refine wq_lt2 rfl rfl (fun b4x => ?_) (fun b4x => ?_)
    · refine wq_gos (f := 1) (pc2 := 20) (ls2 := [(0, .ref 0), (1, .int (nI i))]) (st2 := [.int 0]) (h2 := h) (dc2 := 0) (ds2 := 0) 1 rfl ?_
      refine wq_ret rfl rfl ?_
      show wq 127 5 [(0, .ref 0), (1, .int 1), (2, .int (nI i)), (3, .int j)] [.int 0] h 0 0 _
      refine wq_gos (f := 1) (pc2 := 9) (ls2 := [(0, .ref 0), (1, .int 1), (2, .int (nI i)), (3, .int j)]) (st2 := [.int j]) (h2 := h) (dc2 := 0) (ds2 := 0) 2 rfl ?_
      refine wq_inl (y2 := 144) (as := [.int j]) rfl rfl rfl ?_
      show wq 144 0 [(0, .int j)] [] h 0 0 _
      refine wq_gos (f := 1) (pc2 := 1) (ls2 := [(0, .int j)]) (st2 := [.int j]) (h2 := h) (dc2 := 0) (ds2 := 0) 1 rfl ?_
      refine wq_lt0 rfl rfl (fun b5x => ?_) (fun b5x => ?_)
      · refine wq_gos (f := 1) (pc2 := 15) (ls2 := [(0, .int j)]) (st2 := [.int 1]) (h2 := h) (dc2 := 0) (ds2 := 0) 2 rfl ?_
        refine wq_ret rfl rfl ?_
        show wq 127 12 [(0, .ref 0), (1, .int 1), (2, .int (nI i)), (3, .int j)] [.int 1] h 0 0 _
        refine wq_gos (f := 1) (pc2 := 16) (ls2 := [(0, .ref 0), (1, .int 1), (2, .int (nI i)), (3, .int j)]) (st2 := [.int (-1)]) (h2 := h) (dc2 := 0) (ds2 := 0) 2 rfl ?_
        exact wq_ret rfl rfl ⟨_, h, 0, 0, rfl, wPQ_rf hz hRw⟩
      · refine wq_gos (f := 1) (pc2 := 7) (ls2 := [(0, .int j)]) (st2 := [.int 6, .int j]) (h2 := h) (dc2 := 0) (ds2 := 0) 2 rfl ?_
        have q6x : (6 : Int32).toInt = 6 := rfl
        refine wq_lt2 rfl rfl (fun b7x => ?_) (fun b7x => ?_)
        · refine wq_gos (f := 1) (pc2 := 15) (ls2 := [(0, .int j)]) (st2 := [.int 0]) (h2 := h) (dc2 := 0) (ds2 := 0) 1 rfl ?_
          refine wq_ret rfl rfl ?_
          show wq 127 12 [(0, .ref 0), (1, .int 1), (2, .int (nI i)), (3, .int j)] [.int 0] h 0 0 _
          refine wq_gos (f := 1) (pc2 := 18) (ls2 := [(0, .ref 0), (1, .int 1), (2, .int (nI i)), (3, .int j)]) (st2 := [.ref 0]) (h2 := h) (dc2 := 0) (ds2 := 0) 2 rfl ?_
          refine wq_getf rfl hX rfl rfl ?_
          refine wq_gos (f := 1) (pc2 := 22) (ls2 := [(0, .ref 0), (1, .int 1), (2, .int (nI i)), (3, .int j)]) (st2 := [.ref 0, .ref 74]) (h2 := h) (dc2 := 0) (ds2 := 0) 1 rfl ?_
          refine wq_getf rfl hX rfl rfl ?_
          refine wq_gos (f := 1) (pc2 := 26) (ls2 := [(0, .ref 0), (1, .int 1), (2, .int (nI i)), (3, .int j)]) (st2 := [.int 1, .long ps, .ref 74]) (h2 := h) (dc2 := 0) (ds2 := 0) 1 rfl ?_
          have q8x : (1 : Int32).toInt = 1 := rfl
          refine wq_inlv (y2 := 27) (as := [.long ps, .int 1]) rfl rfl rfl e74 rfl (c_use1 hX hA hz hRw hlen ?_ ?_)
          · intro h89x kn99x fr99x rS9x N9x stp9x pks9x cns9x tk99x d99x s99x f89x l89x c09x c19x c29x c39x c49x c59x p09x p19x
            show wq 127 29 [(0, .ref 0), (1, .int 1), (2, .int (nI i)), (3, .int j)] [.ref 88] h89x (0 + d99x) (0 + s99x) _
            refine wq_gos (f := 1) (pc2 := 33) (ls2 := [(4, .ref 88), (0, .ref 0), (1, .int 1), (2, .int (nI i)), (3, .int j)]) (st2 := [.ref 88]) (h2 := h89x) (dc2 := (0 + d99x)) (ds2 := (0 + s99x)) 2 rfl ?_
            refine wq_getf rfl c29x rfl rfl ?_
            refine wq_ge0f rfl rfl (by omega) ?_
            refine wq_gos (f := 1) (pc2 := 41) (ls2 := [(4, .ref 88), (0, .ref 0), (1, .int 1), (2, .int (nI i)), (3, .int j)]) (st2 := [.ref 88]) (h2 := h89x) (dc2 := (0 + d99x)) (ds2 := (0 + s99x)) 1 rfl ?_
            refine wq_getf rfl c29x rfl rfl ?_
            refine wq_gos (f := 1) (pc2 := 61) (ls2 := [(4, .ref 88), (0, .ref 0), (1, .int 1), (2, .int (nI i)), (3, .int j)]) (st2 := [.int tk99x]) (h2 := h89x) (dc2 := (0 + d99x)) (ds2 := (0 + s99x)) 1 rfl ?_
            exact wq_ret rfl rfl ⟨_, h89x, _, _, rfl, by rw [Nat.zero_add, Nat.zero_add]; exact p19x⟩
          · intro h810x kn910x fr910x rS10x N10x stp10x pks10x cns10x T910x d910x s910x f810x l810x c010x c110x c210x c310x c410x c510x p010x p110x p210x
            show wq 127 29 [(0, .ref 0), (1, .int 1), (2, .int (nI i)), (3, .int j)] [.ref 88] h810x (0 + d910x) (0 + s910x) _
            refine wq_gos (f := 1) (pc2 := 33) (ls2 := [(4, .ref 88), (0, .ref 0), (1, .int 1), (2, .int (nI i)), (3, .int j)]) (st2 := [.ref 88]) (h2 := h810x) (dc2 := (0 + d910x)) (ds2 := (0 + s910x)) 2 rfl ?_
            refine wq_getf rfl c210x rfl rfl ?_
            try have q11x := nI_toInt (n := T910x) (by omega)
            refine wq_ge0t rfl (by have := nI_toInt (n := T910x) (by omega); omega) ?_
            refine wq_gos (f := 1) (pc2 := 52) (ls2 := [(4, .ref 88), (0, .ref 0), (1, .int 1), (2, .int (nI i)), (3, .int j)]) (st2 := [.ref 0, .int j, .int (nI i), .ref 88]) (h2 := h810x) (dc2 := (0 + d910x)) (ds2 := (0 + s910x)) 4 rfl ?_
            refine wq_getf rfl c010x rfl rfl ?_
            refine wq_getf rfl c110x rfl rfl ?_
            refine wq_inlv (y2 := 73) (as := [.int (nI i), .int j, .int bl]) rfl rfl rfl c210x rfl (wq_mono (c_ofc c210x c310x c510x (by first | assumption | omega | decide | solve_by_elim) (by first | assumption | omega | decide | solve_by_elim) (by first | assumption | omega | decide | solve_by_elim)) ?_)
            rintro _ rfl
            show wq 127 61 [(4, .ref 88), (0, .ref 0), (1, .int 1), (2, .int (nI i)), (3, .int j)] [.int (jOfc T910x stp10x cns10x i j bl)] h810x (0 + d910x) (0 + s910x) _
            exact wq_ret rfl rfl ⟨_, h810x, _, _, rfl, by rw [Nat.zero_add, Nat.zero_add]; exact p210x⟩
        · refine wq_gos (f := 1) (pc2 := 15) (ls2 := [(0, .int j)]) (st2 := [.int 1]) (h2 := h) (dc2 := 0) (ds2 := 0) 2 rfl ?_
          refine wq_ret rfl rfl ?_
          show wq 127 12 [(0, .ref 0), (1, .int 1), (2, .int (nI i)), (3, .int j)] [.int 1] h 0 0 _
          refine wq_gos (f := 1) (pc2 := 16) (ls2 := [(0, .ref 0), (1, .int 1), (2, .int (nI i)), (3, .int j)]) (st2 := [.int (-1)]) (h2 := h) (dc2 := 0) (ds2 := 0) 2 rfl ?_
          exact wq_ret rfl rfl ⟨_, h, 0, 0, rfl, wPQ_rf hz hRw⟩
    · refine wq_gos (f := 1) (pc2 := 20) (ls2 := [(0, .ref 0), (1, .int (nI i))]) (st2 := [.int 1]) (h2 := h) (dc2 := 0) (ds2 := 0) 2 rfl ?_
      refine wq_ret rfl rfl ?_
      show wq 127 5 [(0, .ref 0), (1, .int 1), (2, .int (nI i)), (3, .int j)] [.int 1] h 0 0 _
      refine wq_gos (f := 1) (pc2 := 16) (ls2 := [(0, .ref 0), (1, .int 1), (2, .int (nI i)), (3, .int j)]) (st2 := [.int (-1)]) (h2 := h) (dc2 := 0) (ds2 := 0) 2 rfl ?_
      exact wq_ret rfl rfl ⟨_, h, 0, 0, rfl, wPQ_rf hz hRw⟩
set_option maxRecDepth 100000 in
set_option maxHeartbeats 4000000 in
theorem c_o128_1 {h : zH} {ra sp so : Nat} {lk hd ht bl sd : Int32} {rt : Int64} {ll lg sv nm wy : List Int32} {po : List Int64} {t rd : Nat} {ps ip : Int64} {im : Int32} {wg ka kb : Int32} {rw cp : Nat → Nat} {m9 : Int32} (hX : zat h 0 = some (.inr (.inr (.inr (9, [.ref 2, .int (nI t), .ref 4, .ref ra, .ref rd, .long ps, .ref 34, .ref 36, .int im, .long ip, .ref 42, .ref 44, .ref 60, .ref 66, .ref 72, .ref 74, .ref 150, .ref 158]))))) (hA : wArm h ra sp so lk hd ht bl sd rt ll lg sv nm wy po) (hz : wPz h ra so lk hd ht ll lg wy sv po wg ka kb rw cp) (hRw : wRws rw h.length) (hlen : 117 ≤ h.length)  : wq 128 0 [(0, .ref 0), (1, .int 1), (2, .int m9)] [] h 0 0 (fun r => ∃ v h2 d s, r = (some (.int v), h2, d, s) ∧ wPQ h ra so lk hd ht ll lg wy sv po rw cp h2 d s) := by
  obtain ⟨ob9, pr9, sr9, fw9, al9, fi9, hpl9, lf09, lf19, to9, kn99, ks9, fa9, hp9, li9, e74, _⟩ := hz.2.2.1
  have hAr := hA.1
  have hsc9 := hA.2.2.2.2.2.2.2.1
  unfold wScl at hsc9
  have hsp9 := hA.2.2.2.2.2.2.2.2.2.2.1
  have hso9 := hA.2.2.2.2.2.2.2.2.2.2.2.1.1
  have hra := hA.2.2.2.2.2.2.2.2.2.2.2.2
  have z0 : (0 : Int32).toInt = 0 := rfl
  have z1 : (1 : Int32).toInt = 1 := rfl
  have z5 : (5 : Int32).toInt = 5 := rfl
  have z2 : (2 : Int32).toInt = 2 := rfl
  have z99 : (99 : Int32).toInt = 99 := rfl
  have qnso := nI_toInt (n := so) (by omega)
  refine wq_gos (f := 1) (pc2 := 1) (ls2 := [(0, .ref 0), (1, .int 1), (2, .int m9)]) (st2 := [.int m9]) (h2 := h) (dc2 := 0) (ds2 := 0) 1 rfl ?_
  refine wq_lt0 rfl rfl (fun b1x => ?_) (fun b1x => ?_)
  · refine wq_gos (f := 1) (pc2 := 11) (ls2 := [(0, .ref 0), (1, .int 1), (2, .int m9)]) (st2 := [.int (-1)]) (h2 := h) (dc2 := 0) (ds2 := 0) 1 rfl ?_
    exact wq_ret rfl rfl ⟨_, h, 0, 0, rfl, wPQ_rf hz hRw⟩
  · refine wq_gos (f := 1) (pc2 := 7) (ls2 := [(0, .ref 0), (1, .int 1), (2, .int m9)]) (st2 := [.int 99, .int m9]) (h2 := h) (dc2 := 0) (ds2 := 0) 2 rfl ?_
    have q2x : (99 : Int32).toInt = 99 := rfl
    refine wq_le2 rfl rfl (fun b3x => ?_) (fun b3x => ?_)
    · refine wq_gos (f := 1) (pc2 := 13) (ls2 := [(0, .ref 0), (1, .int 1), (2, .int m9)]) (st2 := [.ref 0]) (h2 := h) (dc2 := 0) (ds2 := 0) 1 rfl ?_
      refine wq_getf rfl hX rfl rfl ?_
      refine wq_gos (f := 1) (pc2 := 17) (ls2 := [(0, .ref 0), (1, .int 1), (2, .int m9)]) (st2 := [.ref 0, .ref 74]) (h2 := h) (dc2 := 0) (ds2 := 0) 1 rfl ?_
      refine wq_getf rfl hX rfl rfl ?_
      refine wq_gos (f := 1) (pc2 := 21) (ls2 := [(0, .ref 0), (1, .int 1), (2, .int m9)]) (st2 := [.int 1, .long ps, .ref 74]) (h2 := h) (dc2 := 0) (ds2 := 0) 1 rfl ?_
      have q4x : (1 : Int32).toInt = 1 := rfl
      refine wq_inlv (y2 := 27) (as := [.long ps, .int 1]) rfl rfl rfl e74 rfl (c_use1 hX hA hz hRw hlen ?_ ?_)
      · intro h85x kn95x fr95x rS5x N5x stp5x pks5x cns5x tk95x d95x s95x f85x l85x c05x c15x c25x c35x c45x c55x p05x p15x
        show wq 128 24 [(0, .ref 0), (1, .int 1), (2, .int m9)] [.ref 88] h85x (0 + d95x) (0 + s95x) _
        refine wq_gos (f := 1) (pc2 := 26) (ls2 := [(3, .ref 88), (0, .ref 0), (1, .int 1), (2, .int m9)]) (st2 := [.ref 88]) (h2 := h85x) (dc2 := (0 + d95x)) (ds2 := (0 + s95x)) 2 rfl ?_
        refine wq_getf rfl c25x rfl rfl ?_
        refine wq_ge0f rfl rfl (by omega) ?_
        refine wq_gos (f := 1) (pc2 := 33) (ls2 := [(3, .ref 88), (0, .ref 0), (1, .int 1), (2, .int m9)]) (st2 := [.ref 88]) (h2 := h85x) (dc2 := (0 + d95x)) (ds2 := (0 + s95x)) 1 rfl ?_
        refine wq_getf rfl c25x rfl rfl ?_
        refine wq_gos (f := 1) (pc2 := 51) (ls2 := [(3, .ref 88), (0, .ref 0), (1, .int 1), (2, .int m9)]) (st2 := [.int tk95x]) (h2 := h85x) (dc2 := (0 + d95x)) (ds2 := (0 + s95x)) 1 rfl ?_
        exact wq_ret rfl rfl ⟨_, h85x, _, _, rfl, by rw [Nat.zero_add, Nat.zero_add]; exact p15x⟩
      · intro h86x kn96x fr96x rS6x N6x stp6x pks6x cns6x T96x d96x s96x f86x l86x c06x c16x c26x c36x c46x c56x p06x p16x p26x
        show wq 128 24 [(0, .ref 0), (1, .int 1), (2, .int m9)] [.ref 88] h86x (0 + d96x) (0 + s96x) _
        refine wq_gos (f := 1) (pc2 := 26) (ls2 := [(3, .ref 88), (0, .ref 0), (1, .int 1), (2, .int m9)]) (st2 := [.ref 88]) (h2 := h86x) (dc2 := (0 + d96x)) (ds2 := (0 + s96x)) 2 rfl ?_
        refine wq_getf rfl c26x rfl rfl ?_
        try have q7x := nI_toInt (n := T96x) (by omega)
        refine wq_ge0t rfl (by have := nI_toInt (n := T96x) (by omega); omega) ?_
        refine wq_gos (f := 1) (pc2 := 41) (ls2 := [(3, .ref 88), (0, .ref 0), (1, .int 1), (2, .int m9)]) (st2 := [.ref 0, .ref 88]) (h2 := h86x) (dc2 := (0 + d96x)) (ds2 := (0 + s96x)) 2 rfl ?_
        refine wq_getf rfl c06x rfl rfl ?_
        refine wq_getf rfl c16x rfl rfl ?_
        refine wq_gos (f := 1) (pc2 := 48) (ls2 := [(3, .ref 88), (0, .ref 0), (1, .int 1), (2, .int m9)]) (st2 := [.int m9, .int (nI so), .ref 88]) (h2 := h86x) (dc2 := (0 + d96x)) (ds2 := (0 + s96x)) 1 rfl ?_
        try have q8x := nI_toInt (n := so) (by omega)
        refine wq_inlv (y2 := 74) (as := [.int (nI so), .int m9]) rfl rfl rfl c26x rfl (wq_mono (c_gb c26x c36x c56x (by first | assumption | omega | decide | solve_by_elim)) ?_)
        rintro _ rfl
        show wq 128 51 [(3, .ref 88), (0, .ref 0), (1, .int 1), (2, .int m9)] [.int (gbF T96x stp6x cns6x (nI so) m9 ((9 : Int32).toInt.toNat + 1) 9)] h86x (0 + d96x) (0 + s96x) _
        exact wq_ret rfl rfl ⟨_, h86x, _, _, rfl, by rw [Nat.zero_add, Nat.zero_add]; exact p26x⟩
    · refine wq_gos (f := 1) (pc2 := 11) (ls2 := [(0, .ref 0), (1, .int 1), (2, .int m9)]) (st2 := [.int (-1)]) (h2 := h) (dc2 := 0) (ds2 := 0) 1 rfl ?_
      exact wq_ret rfl rfl ⟨_, h, 0, 0, rfl, wPQ_rf hz hRw⟩
set_option maxRecDepth 100000 in
set_option maxHeartbeats 4000000 in
theorem c_o129_1 {h : zH} {ra sp so : Nat} {lk hd ht bl sd : Int32} {rt : Int64} {ll lg sv nm wy : List Int32} {po : List Int64} {t rd : Nat} {ps ip : Int64} {im : Int32} {wg ka kb : Int32} {rw cp : Nat → Nat} {w : Int32} (hX : zat h 0 = some (.inr (.inr (.inr (9, [.ref 2, .int (nI t), .ref 4, .ref ra, .ref rd, .long ps, .ref 34, .ref 36, .int im, .long ip, .ref 42, .ref 44, .ref 60, .ref 66, .ref 72, .ref 74, .ref 150, .ref 158]))))) (hA : wArm h ra sp so lk hd ht bl sd rt ll lg sv nm wy po) (hz : wPz h ra so lk hd ht ll lg wy sv po wg ka kb rw cp) (hRw : wRws rw h.length) (hlen : 117 ≤ h.length)  : wq 129 0 [(0, .ref 0), (1, .int 1), (2, .int w)] [] h 0 0 (fun r => ∃ v h2 d s, r = (some (.int v), h2, d, s) ∧ wPQ h ra so lk hd ht ll lg wy sv po rw cp h2 d s) := by
  obtain ⟨ob9, pr9, sr9, fw9, al9, fi9, hpl9, lf09, lf19, to9, kn99, ks9, fa9, hp9, li9, e74, _⟩ := hz.2.2.1
  have hAr := hA.1
  have hsc9 := hA.2.2.2.2.2.2.2.1
  unfold wScl at hsc9
  have hsp9 := hA.2.2.2.2.2.2.2.2.2.2.1
  have hso9 := hA.2.2.2.2.2.2.2.2.2.2.2.1.1
  have hra := hA.2.2.2.2.2.2.2.2.2.2.2.2
  have z0 : (0 : Int32).toInt = 0 := rfl
  have z1 : (1 : Int32).toInt = 1 := rfl
  have z5 : (5 : Int32).toInt = 5 := rfl
  have z2 : (2 : Int32).toInt = 2 := rfl
  have z99 : (99 : Int32).toInt = 99 := rfl
  have qnso := nI_toInt (n := so) (by omega)
  refine wq_gos (f := 1) (pc2 := 1) (ls2 := [(0, .ref 0), (1, .int 1), (2, .int w)]) (st2 := [.int w]) (h2 := h) (dc2 := 0) (ds2 := 0) 1 rfl ?_
  refine wq_lt0 rfl rfl (fun b1x => ?_) (fun b1x => ?_)
  · refine wq_gos (f := 1) (pc2 := 10) (ls2 := [(0, .ref 0), (1, .int 1), (2, .int w)]) (st2 := [.int (-1)]) (h2 := h) (dc2 := 0) (ds2 := 0) 1 rfl ?_
    exact wq_ret rfl rfl ⟨_, h, 0, 0, rfl, wPQ_rf hz hRw⟩
  · refine wq_gos (f := 1) (pc2 := 6) (ls2 := [(0, .ref 0), (1, .int 1), (2, .int w)]) (st2 := [.int 2, .int w]) (h2 := h) (dc2 := 0) (ds2 := 0) 2 rfl ?_
    have q2x : (2 : Int32).toInt = 2 := rfl
    refine wq_le2 rfl rfl (fun b3x => ?_) (fun b3x => ?_)
    · refine wq_gos (f := 1) (pc2 := 12) (ls2 := [(0, .ref 0), (1, .int 1), (2, .int w)]) (st2 := [.ref 0]) (h2 := h) (dc2 := 0) (ds2 := 0) 1 rfl ?_
      refine wq_getf rfl hX rfl rfl ?_
      refine wq_gos (f := 1) (pc2 := 16) (ls2 := [(0, .ref 0), (1, .int 1), (2, .int w)]) (st2 := [.ref 0, .ref 74]) (h2 := h) (dc2 := 0) (ds2 := 0) 1 rfl ?_
      refine wq_getf rfl hX rfl rfl ?_
      refine wq_gos (f := 1) (pc2 := 20) (ls2 := [(0, .ref 0), (1, .int 1), (2, .int w)]) (st2 := [.int 1, .long ps, .ref 74]) (h2 := h) (dc2 := 0) (ds2 := 0) 1 rfl ?_
      have q4x : (1 : Int32).toInt = 1 := rfl
      refine wq_inlv (y2 := 27) (as := [.long ps, .int 1]) rfl rfl rfl e74 rfl (c_use1 hX hA hz hRw hlen ?_ ?_)
      · intro h85x kn95x fr95x rS5x N5x stp5x pks5x cns5x tk95x d95x s95x f85x l85x c05x c15x c25x c35x c45x c55x p05x p15x
        show wq 129 23 [(0, .ref 0), (1, .int 1), (2, .int w)] [.ref 88] h85x (0 + d95x) (0 + s95x) _
        refine wq_gos (f := 1) (pc2 := 25) (ls2 := [(3, .ref 88), (0, .ref 0), (1, .int 1), (2, .int w)]) (st2 := [.ref 88]) (h2 := h85x) (dc2 := (0 + d95x)) (ds2 := (0 + s95x)) 2 rfl ?_
        refine wq_getf rfl c25x rfl rfl ?_
        refine wq_ge0f rfl rfl (by omega) ?_
        refine wq_gos (f := 1) (pc2 := 32) (ls2 := [(3, .ref 88), (0, .ref 0), (1, .int 1), (2, .int w)]) (st2 := [.ref 88]) (h2 := h85x) (dc2 := (0 + d95x)) (ds2 := (0 + s95x)) 1 rfl ?_
        refine wq_getf rfl c25x rfl rfl ?_
        exact wq_ret rfl rfl ⟨_, h85x, _, _, rfl, by rw [Nat.zero_add, Nat.zero_add]; exact p15x⟩
      · intro h86x kn96x fr96x rS6x N6x stp6x pks6x cns6x T96x d96x s96x f86x l86x c06x c16x c26x c36x c46x c56x p06x p16x p26x
        show wq 129 23 [(0, .ref 0), (1, .int 1), (2, .int w)] [.ref 88] h86x (0 + d96x) (0 + s96x) _
        refine wq_gos (f := 1) (pc2 := 25) (ls2 := [(3, .ref 88), (0, .ref 0), (1, .int 1), (2, .int w)]) (st2 := [.ref 88]) (h2 := h86x) (dc2 := (0 + d96x)) (ds2 := (0 + s96x)) 2 rfl ?_
        refine wq_getf rfl c26x rfl rfl ?_
        try have q7x := nI_toInt (n := T96x) (by omega)
        refine wq_ge0t rfl (by have := nI_toInt (n := T96x) (by omega); omega) ?_
        refine wq_gos (f := 1) (pc2 := 38) (ls2 := [(3, .ref 88), (0, .ref 0), (1, .int 1), (2, .int w)]) (st2 := [.int 2, .int w]) (h2 := h86x) (dc2 := (0 + d96x)) (ds2 := (0 + s96x)) 2 rfl ?_
        refine wq_ne2 rfl rfl (fun b8x => ?_) (fun b8x => ?_)
        · have q9x : w.toInt ≠ 2 := fun q => b8x (Int32.toInt_inj.mp q)
          refine wq_gos (f := 1) (pc2 := 50) (ls2 := [(3, .ref 88), (0, .ref 0), (1, .int 1), (2, .int w)]) (st2 := [.int w, .ref 88]) (h2 := h86x) (dc2 := (0 + d96x)) (ds2 := (0 + s96x)) 2 rfl ?_
          refine wq_inlv (y2 := 76) (as := [.int w]) rfl rfl rfl c26x rfl (wq_mono (c_sc c26x c36x (by first | assumption | omega | decide | solve_by_elim)) ?_)
          rintro _ rfl
          show wq 129 53 [(3, .ref 88), (0, .ref 0), (1, .int 1), (2, .int w)] [.int (scF T96x stp6x w (T96x + 1 - 1 + 1) 0 (jSom (stp6x.getD 0 0) w) 1)] h86x (0 + d96x) (0 + s96x) _
          exact wq_ret rfl rfl ⟨_, h86x, _, _, rfl, by rw [Nat.zero_add, Nat.zero_add]; exact p26x⟩
        · have q11x : w.toInt = 2 := congrArg Int32.toInt b8x
          refine wq_gos (f := 1) (pc2 := 42) (ls2 := [(3, .ref 88), (0, .ref 0), (1, .int 1), (2, .int w)]) (st2 := [.ref 88]) (h2 := h86x) (dc2 := (0 + d96x)) (ds2 := (0 + s96x)) 1 rfl ?_
          refine wq_inlv (y2 := 77) (as := []) rfl rfl rfl c26x rfl (wq_mono (c_rt c26x c36x (by first | assumption | omega | decide | solve_by_elim)) ?_)
          rintro _ rfl
          show wq 129 45 [(3, .ref 88), (0, .ref 0), (1, .int 1), (2, .int w)] [.int (rtF T96x stp6x (T96x + 1 - 1 + 1) 0 0 1)] h86x (0 + d96x) (0 + s96x) _
          refine wq_gos (f := 1) (pc2 := 53) (ls2 := [(3, .ref 88), (0, .ref 0), (1, .int 1), (2, .int w)]) (st2 := [.int (rtF T96x stp6x (T96x + 1 - 1 + 1) 0 0 1)]) (h2 := h86x) (dc2 := (0 + d96x)) (ds2 := (0 + s96x)) 1 rfl ?_
          exact wq_ret rfl rfl ⟨_, h86x, _, _, rfl, by rw [Nat.zero_add, Nat.zero_add]; exact p26x⟩
    · refine wq_gos (f := 1) (pc2 := 10) (ls2 := [(0, .ref 0), (1, .int 1), (2, .int w)]) (st2 := [.int (-1)]) (h2 := h) (dc2 := 0) (ds2 := 0) 1 rfl ?_
      exact wq_ret rfl rfl ⟨_, h, 0, 0, rfl, wPQ_rf hz hRw⟩
set_option maxRecDepth 100000 in
set_option maxHeartbeats 4000000 in
theorem c_o130_1 {h : zH} {ra sp so : Nat} {lk hd ht bl sd : Int32} {rt : Int64} {ll lg sv nm wy : List Int32} {po : List Int64} {t rd : Nat} {ps ip : Int64} {im : Int32} {wg ka kb : Int32} {rw cp : Nat → Nat}  (hX : zat h 0 = some (.inr (.inr (.inr (9, [.ref 2, .int (nI t), .ref 4, .ref ra, .ref rd, .long ps, .ref 34, .ref 36, .int im, .long ip, .ref 42, .ref 44, .ref 60, .ref 66, .ref 72, .ref 74, .ref 150, .ref 158]))))) (hA : wArm h ra sp so lk hd ht bl sd rt ll lg sv nm wy po) (hz : wPz h ra so lk hd ht ll lg wy sv po wg ka kb rw cp) (hRw : wRws rw h.length) (hlen : 117 ≤ h.length)  : wq 130 0 [(0, .ref 0), (1, .int 1)] [] h 0 0 (fun r => ∃ v h2 d s, r = (some (.long v), h2, d, s) ∧ wPQ h ra so lk hd ht ll lg wy sv po rw cp h2 d s) := by
  obtain ⟨ob9, pr9, sr9, fw9, al9, fi9, hpl9, lf09, lf19, to9, kn99, ks9, fa9, hp9, li9, e74, _⟩ := hz.2.2.1
  have hAr := hA.1
  have hsc9 := hA.2.2.2.2.2.2.2.1
  unfold wScl at hsc9
  have hsp9 := hA.2.2.2.2.2.2.2.2.2.2.1
  have hso9 := hA.2.2.2.2.2.2.2.2.2.2.2.1.1
  have hra := hA.2.2.2.2.2.2.2.2.2.2.2.2
  have z0 : (0 : Int32).toInt = 0 := rfl
  have z1 : (1 : Int32).toInt = 1 := rfl
  have z5 : (5 : Int32).toInt = 5 := rfl
  have z2 : (2 : Int32).toInt = 2 := rfl
  have z99 : (99 : Int32).toInt = 99 := rfl
  have qnso := nI_toInt (n := so) (by omega)
  refine wq_gos (f := 1) (pc2 := 1) (ls2 := [(0, .ref 0), (1, .int 1)]) (st2 := [.ref 0]) (h2 := h) (dc2 := 0) (ds2 := 0) 1 rfl ?_
  refine wq_getf rfl hX rfl rfl ?_
  refine wq_gos (f := 1) (pc2 := 5) (ls2 := [(0, .ref 0), (1, .int 1)]) (st2 := [.ref 0, .ref 74]) (h2 := h) (dc2 := 0) (ds2 := 0) 1 rfl ?_
  refine wq_getf rfl hX rfl rfl ?_
  refine wq_gos (f := 1) (pc2 := 9) (ls2 := [(0, .ref 0), (1, .int 1)]) (st2 := [.int 1, .long ps, .ref 74]) (h2 := h) (dc2 := 0) (ds2 := 0) 1 rfl ?_
  have q1x : (1 : Int32).toInt = 1 := rfl
  refine wq_inlv (y2 := 27) (as := [.long ps, .int 1]) rfl rfl rfl e74 rfl (c_use1 hX hA hz hRw hlen ?_ ?_)
  · intro h82x kn92x fr92x rS2x N2x stp2x pks2x cns2x tk92x d92x s92x f82x l82x c02x c12x c22x c32x c42x c52x p02x p12x
    show wq 130 12 [(0, .ref 0), (1, .int 1)] [.ref 88] h82x (0 + d92x) (0 + s92x) _
    refine wq_gos (f := 1) (pc2 := 14) (ls2 := [(2, .ref 88), (0, .ref 0), (1, .int 1)]) (st2 := [.ref 88]) (h2 := h82x) (dc2 := (0 + d92x)) (ds2 := (0 + s92x)) 2 rfl ?_
    refine wq_getf rfl c22x rfl rfl ?_
    refine wq_ge0f rfl rfl (by omega) ?_
    refine wq_gos (f := 1) (pc2 := 21) (ls2 := [(2, .ref 88), (0, .ref 0), (1, .int 1)]) (st2 := [.ref 88]) (h2 := h82x) (dc2 := (0 + d92x)) (ds2 := (0 + s92x)) 1 rfl ?_
    refine wq_getf rfl c22x rfl rfl ?_
    refine wq_gos (f := 1) (pc2 := 36) (ls2 := [(2, .ref 88), (0, .ref 0), (1, .int 1)]) (st2 := [.long (tk92x).toInt64]) (h2 := h82x) (dc2 := (0 + d92x)) (ds2 := (0 + s92x)) 2 rfl ?_
    exact wq_ret rfl rfl ⟨_, h82x, _, _, rfl, by rw [Nat.zero_add, Nat.zero_add]; exact p12x⟩
  · intro h83x kn93x fr93x rS3x N3x stp3x pks3x cns3x T93x d93x s93x f83x l83x c03x c13x c23x c33x c43x c53x p03x p13x p23x
    show wq 130 12 [(0, .ref 0), (1, .int 1)] [.ref 88] h83x (0 + d93x) (0 + s93x) _
    refine wq_gos (f := 1) (pc2 := 14) (ls2 := [(2, .ref 88), (0, .ref 0), (1, .int 1)]) (st2 := [.ref 88]) (h2 := h83x) (dc2 := (0 + d93x)) (ds2 := (0 + s93x)) 2 rfl ?_
    refine wq_getf rfl c23x rfl rfl ?_
    try have q4x := nI_toInt (n := T93x) (by omega)
    refine wq_ge0t rfl (by have := nI_toInt (n := T93x) (by omega); omega) ?_
    refine wq_gos (f := 1) (pc2 := 30) (ls2 := [(2, .ref 88), (0, .ref 0), (1, .int 1)]) (st2 := [.ref 0, .ref 88]) (h2 := h83x) (dc2 := (0 + d93x)) (ds2 := (0 + s93x)) 2 rfl ?_
    refine wq_getf rfl c03x rfl rfl ?_
    refine wq_inlv (y2 := 78) (as := [.ref ra]) rfl rfl rfl c23x rfl (wq_mono (c_hp c23x c33x c13x (by first | assumption | omega | decide | solve_by_elim)) ?_)
    rintro _ rfl
    show wq 130 36 [(2, .ref 88), (0, .ref 0), (1, .int 1)] [.long (hpF T93x stp3x lk hd ht (T93x + 1 - 1 + 1) 0 (jPart lk hd ht fr93x (0 : Int32)) (jPart lk hd ht fr93x (1 : Int32)) (jPart lk hd ht fr93x (2 : Int32)) 1)] h83x (0 + d93x) (0 + s93x) _
    exact wq_ret rfl rfl ⟨_, h83x, _, _, rfl, by rw [Nat.zero_add, Nat.zero_add]; exact p23x⟩
set_option maxRecDepth 100000 in
set_option maxHeartbeats 4000000 in
theorem c_o134_1 {h : zH} {ra sp so : Nat} {lk hd ht bl sd : Int32} {rt : Int64} {ll lg sv nm wy : List Int32} {po : List Int64} {t rd : Nat} {ps ip : Int64} {im : Int32} {wg ka kb : Int32} {rw cp : Nat → Nat}  (hX : zat h 0 = some (.inr (.inr (.inr (9, [.ref 2, .int (nI t), .ref 4, .ref ra, .ref rd, .long ps, .ref 34, .ref 36, .int im, .long ip, .ref 42, .ref 44, .ref 60, .ref 66, .ref 72, .ref 74, .ref 150, .ref 158]))))) (hA : wArm h ra sp so lk hd ht bl sd rt ll lg sv nm wy po) (hz : wPz h ra so lk hd ht ll lg wy sv po wg ka kb rw cp) (hRw : wRws rw h.length) (hlen : 117 ≤ h.length)  : wq 134 0 [(0, .ref 0), (1, .int 1)] [] h 0 0 (fun r => ∃ v h2 d s, r = (some (.int v), h2, d, s) ∧ wPQ h ra so lk hd ht ll lg wy sv po rw cp h2 d s) := by
  obtain ⟨ob9, pr9, sr9, fw9, al9, fi9, hpl9, lf09, lf19, to9, kn99, ks9, fa9, hp9, li9, e74, _⟩ := hz.2.2.1
  have hAr := hA.1
  have hsc9 := hA.2.2.2.2.2.2.2.1
  unfold wScl at hsc9
  have hsp9 := hA.2.2.2.2.2.2.2.2.2.2.1
  have hso9 := hA.2.2.2.2.2.2.2.2.2.2.2.1.1
  have hra := hA.2.2.2.2.2.2.2.2.2.2.2.2
  have z0 : (0 : Int32).toInt = 0 := rfl
  have z1 : (1 : Int32).toInt = 1 := rfl
  have z5 : (5 : Int32).toInt = 5 := rfl
  have z2 : (2 : Int32).toInt = 2 := rfl
  have z99 : (99 : Int32).toInt = 99 := rfl
  have qnso := nI_toInt (n := so) (by omega)
  refine wq_gos (f := 1) (pc2 := 1) (ls2 := [(0, .ref 0), (1, .int 1)]) (st2 := [.ref 0]) (h2 := h) (dc2 := 0) (ds2 := 0) 1 rfl ?_
  refine wq_getf rfl hX rfl rfl ?_
  refine wq_gos (f := 1) (pc2 := 5) (ls2 := [(0, .ref 0), (1, .int 1)]) (st2 := [.ref 0, .ref 74]) (h2 := h) (dc2 := 0) (ds2 := 0) 1 rfl ?_
  refine wq_getf rfl hX rfl rfl ?_
  refine wq_gos (f := 1) (pc2 := 9) (ls2 := [(0, .ref 0), (1, .int 1)]) (st2 := [.int 1, .long ps, .ref 74]) (h2 := h) (dc2 := 0) (ds2 := 0) 1 rfl ?_
  have q1x : (1 : Int32).toInt = 1 := rfl
  refine wq_inlv (y2 := 27) (as := [.long ps, .int 1]) rfl rfl rfl e74 rfl (c_use1 hX hA hz hRw hlen ?_ ?_)
  · intro h82x kn92x fr92x rS2x N2x stp2x pks2x cns2x tk92x d92x s92x f82x l82x c02x c12x c22x c32x c42x c52x p02x p12x
    show wq 134 12 [(0, .ref 0), (1, .int 1)] [.ref 88] h82x (0 + d92x) (0 + s92x) _
    refine wq_gos (f := 1) (pc2 := 14) (ls2 := [(2, .ref 88), (0, .ref 0), (1, .int 1)]) (st2 := [.ref 88]) (h2 := h82x) (dc2 := (0 + d92x)) (ds2 := (0 + s92x)) 2 rfl ?_
    refine wq_getf rfl c22x rfl rfl ?_
    refine wq_ge0f rfl rfl (by omega) ?_
    refine wq_gos (f := 1) (pc2 := 21) (ls2 := [(2, .ref 88), (0, .ref 0), (1, .int 1)]) (st2 := [.ref 88]) (h2 := h82x) (dc2 := (0 + d92x)) (ds2 := (0 + s92x)) 1 rfl ?_
    refine wq_getf rfl c22x rfl rfl ?_
    refine wq_gos (f := 1) (pc2 := 31) (ls2 := [(2, .ref 88), (0, .ref 0), (1, .int 1)]) (st2 := [.int tk92x]) (h2 := h82x) (dc2 := (0 + d92x)) (ds2 := (0 + s92x)) 1 rfl ?_
    exact wq_ret rfl rfl ⟨_, h82x, _, _, rfl, by rw [Nat.zero_add, Nat.zero_add]; exact p12x⟩
  · intro h83x kn93x fr93x rS3x N3x stp3x pks3x cns3x T93x d93x s93x f83x l83x c03x c13x c23x c33x c43x c53x p03x p13x p23x
    show wq 134 12 [(0, .ref 0), (1, .int 1)] [.ref 88] h83x (0 + d93x) (0 + s93x) _
    refine wq_gos (f := 1) (pc2 := 14) (ls2 := [(2, .ref 88), (0, .ref 0), (1, .int 1)]) (st2 := [.ref 88]) (h2 := h83x) (dc2 := (0 + d93x)) (ds2 := (0 + s93x)) 2 rfl ?_
    refine wq_getf rfl c23x rfl rfl ?_
    try have q4x := nI_toInt (n := T93x) (by omega)
    refine wq_ge0t rfl (by have := nI_toInt (n := T93x) (by omega); omega) ?_
    refine wq_gos (f := 1) (pc2 := 28) (ls2 := [(2, .ref 88), (0, .ref 0), (1, .int 1)]) (st2 := [.ref 88]) (h2 := h83x) (dc2 := (0 + d93x)) (ds2 := (0 + s93x)) 1 rfl ?_
    refine wq_inlv (y2 := 79) (as := []) rfl rfl rfl c23x rfl (wq_mono (c_sl c23x c33x (by first | assumption | omega | decide | solve_by_elim)) ?_)
    rintro _ rfl
    show wq 134 31 [(2, .ref 88), (0, .ref 0), (1, .int 1)] [.int (slF T93x stp3x (T93x + 1 - 1 + 1) 0 1)] h83x (0 + d93x) (0 + s93x) _
    exact wq_ret rfl rfl ⟨_, h83x, _, _, rfl, by rw [Nat.zero_add, Nat.zero_add]; exact p23x⟩
set_option maxRecDepth 100000 in
set_option maxHeartbeats 4000000 in
theorem c_o135_1 {h : zH} {ra sp so : Nat} {lk hd ht bl sd : Int32} {rt : Int64} {ll lg sv nm wy : List Int32} {po : List Int64} {t rd : Nat} {ps ip : Int64} {im : Int32} {wg ka kb : Int32} {rw cp : Nat → Nat}  (hX : zat h 0 = some (.inr (.inr (.inr (9, [.ref 2, .int (nI t), .ref 4, .ref ra, .ref rd, .long ps, .ref 34, .ref 36, .int im, .long ip, .ref 42, .ref 44, .ref 60, .ref 66, .ref 72, .ref 74, .ref 150, .ref 158]))))) (hA : wArm h ra sp so lk hd ht bl sd rt ll lg sv nm wy po) (hz : wPz h ra so lk hd ht ll lg wy sv po wg ka kb rw cp) (hRw : wRws rw h.length) (hlen : 117 ≤ h.length)  : wq 135 0 [(0, .ref 0), (1, .int 1)] [] h 0 0 (fun r => ∃ v h2 d s, r = (some (.int v), h2, d, s) ∧ wPQ h ra so lk hd ht ll lg wy sv po rw cp h2 d s) := by
  obtain ⟨ob9, pr9, sr9, fw9, al9, fi9, hpl9, lf09, lf19, to9, kn99, ks9, fa9, hp9, li9, e74, _⟩ := hz.2.2.1
  have hAr := hA.1
  have hsc9 := hA.2.2.2.2.2.2.2.1
  unfold wScl at hsc9
  have hsp9 := hA.2.2.2.2.2.2.2.2.2.2.1
  have hso9 := hA.2.2.2.2.2.2.2.2.2.2.2.1.1
  have hra := hA.2.2.2.2.2.2.2.2.2.2.2.2
  have z0 : (0 : Int32).toInt = 0 := rfl
  have z1 : (1 : Int32).toInt = 1 := rfl
  have z5 : (5 : Int32).toInt = 5 := rfl
  have z2 : (2 : Int32).toInt = 2 := rfl
  have z99 : (99 : Int32).toInt = 99 := rfl
  have qnso := nI_toInt (n := so) (by omega)
  refine wq_gos (f := 1) (pc2 := 1) (ls2 := [(0, .ref 0), (1, .int 1)]) (st2 := [.ref 0]) (h2 := h) (dc2 := 0) (ds2 := 0) 1 rfl ?_
  refine wq_getf rfl hX rfl rfl ?_
  refine wq_gos (f := 1) (pc2 := 5) (ls2 := [(0, .ref 0), (1, .int 1)]) (st2 := [.ref 0, .ref 74]) (h2 := h) (dc2 := 0) (ds2 := 0) 1 rfl ?_
  refine wq_getf rfl hX rfl rfl ?_
  refine wq_gos (f := 1) (pc2 := 9) (ls2 := [(0, .ref 0), (1, .int 1)]) (st2 := [.int 1, .long ps, .ref 74]) (h2 := h) (dc2 := 0) (ds2 := 0) 1 rfl ?_
  have q1x : (1 : Int32).toInt = 1 := rfl
  refine wq_inlv (y2 := 27) (as := [.long ps, .int 1]) rfl rfl rfl e74 rfl (c_use1 hX hA hz hRw hlen ?_ ?_)
  · intro h82x kn92x fr92x rS2x N2x stp2x pks2x cns2x tk92x d92x s92x f82x l82x c02x c12x c22x c32x c42x c52x p02x p12x
    show wq 135 12 [(0, .ref 0), (1, .int 1)] [.ref 88] h82x (0 + d92x) (0 + s92x) _
    refine wq_gos (f := 1) (pc2 := 14) (ls2 := [(2, .ref 88), (0, .ref 0), (1, .int 1)]) (st2 := [.ref 88]) (h2 := h82x) (dc2 := (0 + d92x)) (ds2 := (0 + s92x)) 2 rfl ?_
    refine wq_getf rfl c22x rfl rfl ?_
    refine wq_ge0f rfl rfl (by omega) ?_
    refine wq_gos (f := 1) (pc2 := 21) (ls2 := [(2, .ref 88), (0, .ref 0), (1, .int 1)]) (st2 := [.ref 88]) (h2 := h82x) (dc2 := (0 + d92x)) (ds2 := (0 + s92x)) 1 rfl ?_
    refine wq_getf rfl c22x rfl rfl ?_
    refine wq_gos (f := 1) (pc2 := 31) (ls2 := [(2, .ref 88), (0, .ref 0), (1, .int 1)]) (st2 := [.int tk92x]) (h2 := h82x) (dc2 := (0 + d92x)) (ds2 := (0 + s92x)) 1 rfl ?_
    exact wq_ret rfl rfl ⟨_, h82x, _, _, rfl, by rw [Nat.zero_add, Nat.zero_add]; exact p12x⟩
  · intro h83x kn93x fr93x rS3x N3x stp3x pks3x cns3x T93x d93x s93x f83x l83x c03x c13x c23x c33x c43x c53x p03x p13x p23x
    show wq 135 12 [(0, .ref 0), (1, .int 1)] [.ref 88] h83x (0 + d93x) (0 + s93x) _
    refine wq_gos (f := 1) (pc2 := 14) (ls2 := [(2, .ref 88), (0, .ref 0), (1, .int 1)]) (st2 := [.ref 88]) (h2 := h83x) (dc2 := (0 + d93x)) (ds2 := (0 + s93x)) 2 rfl ?_
    refine wq_getf rfl c23x rfl rfl ?_
    try have q4x := nI_toInt (n := T93x) (by omega)
    refine wq_ge0t rfl (by have := nI_toInt (n := T93x) (by omega); omega) ?_
    refine wq_gos (f := 1) (pc2 := 28) (ls2 := [(2, .ref 88), (0, .ref 0), (1, .int 1)]) (st2 := [.ref 88]) (h2 := h83x) (dc2 := (0 + d93x)) (ds2 := (0 + s93x)) 1 rfl ?_
    refine wq_inlv (y2 := 80) (as := []) rfl rfl rfl c23x rfl (wq_mono (c_lm c23x c33x (by first | assumption | omega | decide | solve_by_elim)) ?_)
    rintro _ rfl
    show wq 135 31 [(2, .ref 88), (0, .ref 0), (1, .int 1)] [.int (lmF T93x stp3x (T93x + 1 - 1 + 1) (jmea (stp3x.getD 0 0)) 1)] h83x (0 + d93x) (0 + s93x) _
    exact wq_ret rfl rfl ⟨_, h83x, _, _, rfl, by rw [Nat.zero_add, Nat.zero_add]; exact p23x⟩
