/-! The class: a text's tokens. -/
noncomputable def rHas (tb : List Int32) (ln p : Nat) (lo hi : Int32) : Int32 := (if (nI ln).toInt ≤ (nI p).toInt then 0 else (if (tb.getD ((nI p)).toNatClampNeg 0).toInt < lo.toInt then 0 else (if hi.toInt < (tb.getD ((nI p)).toNatClampNeg 0).toInt then 0 else 1)))
set_option maxRecDepth 100000 in
set_option maxHeartbeats 4000000 in
theorem c_has {h : zH} {ln nx rd : Nat} {wr wa kd sta va tld : Int32} {tb : List Int32} {p : Nat} {lo hi : Int32} (hR : zat h 4 = some (.inr (.inr (.inr (4, [.int wr, .int wa, .ref 2, .int (nI ln), .int (nI nx), .int kd, .int sta, .int va, .int tld, .ref rd]))))) (hT : zat h 2 = some (.inl (1, 700, tb))) (hln : ln ≤ 700) (hp : p ≤ 701) : wq 57 0 [(0, .ref 4), (1, .int (nI p)), (2, .int lo), (3, .int hi)] [] h 0 0 (fun rr9 => rr9 = (some (.int (rHas tb ln p lo hi)), h, 0, 0)) := by
  have qnp := nI_toInt (n := p) (by omega)
  have qnln := nI_toInt (n := ln) (by omega)
  refine wq_gos (f := 1) (pc2 := 2) (ls2 := [(0, .ref 4), (1, .int (nI p)), (2, .int lo), (3, .int hi)]) (st2 := [.ref 4, .int (nI p)]) (h2 := h) (dc2 := 0) (ds2 := 0) 2 rfl ?_
  refine wq_getf rfl hR rfl rfl ?_
  try have q1x := nI_toInt (n := p) (by omega)
  try have q2x := nI_toInt (n := ln) (by omega)
  refine wq_ge2 rfl rfl (fun b3x => ?_) (fun b3x => ?_)
  · refine wq_gos (f := 1) (pc2 := 33) (ls2 := [(0, .ref 4), (1, .int (nI p)), (2, .int lo), (3, .int hi)]) (st2 := [.int 0]) (h2 := h) (dc2 := 0) (ds2 := 0) 1 rfl ?_
    have w4x : (rHas tb ln p lo hi) = (0 : Int32) := by unfold rHas; rw [if_pos b3x]
    rw [w4x]
    exact wq_ret rfl rfl rfl
  · refine wq_gos (f := 1) (pc2 := 9) (ls2 := [(0, .ref 4), (1, .int (nI p)), (2, .int lo), (3, .int hi)]) (st2 := [.ref 4]) (h2 := h) (dc2 := 0) (ds2 := 0) 1 rfl ?_
    refine wq_getf rfl hR rfl rfl ?_
    refine wq_gos (f := 1) (pc2 := 13) (ls2 := [(0, .ref 4), (1, .int (nI p)), (2, .int lo), (3, .int hi)]) (st2 := [.int (nI p), .ref 2]) (h2 := h) (dc2 := 0) (ds2 := 0) 1 rfl ?_
    refine wq_bald 1 (Or.inl rfl) rfl hT (by first | omega | exact zin_t (by omega) (by omega)) rfl ?_
    refine wq_gos (f := 1) (pc2 := 15) (ls2 := [(0, .ref 4), (1, .int (nI p)), (2, .int lo), (3, .int hi)]) (st2 := [.int lo, .int (tb.getD ((nI p)).toNatClampNeg 0)]) (h2 := h) (dc2 := 0) (ds2 := 0) 1 rfl ?_
    refine wq_lt2 rfl rfl (fun b5x => ?_) (fun b5x => ?_)
    · refine wq_gos (f := 1) (pc2 := 33) (ls2 := [(0, .ref 4), (1, .int (nI p)), (2, .int lo), (3, .int hi)]) (st2 := [.int 0]) (h2 := h) (dc2 := 0) (ds2 := 0) 1 rfl ?_
      have w6x : (rHas tb ln p lo hi) = (0 : Int32) := by unfold rHas; rw [if_neg (Int.not_le.mpr b3x), if_pos b5x]
      rw [w6x]
      exact wq_ret rfl rfl rfl
    · refine wq_gos (f := 1) (pc2 := 19) (ls2 := [(0, .ref 4), (1, .int (nI p)), (2, .int lo), (3, .int hi)]) (st2 := [.ref 4]) (h2 := h) (dc2 := 0) (ds2 := 0) 1 rfl ?_
      refine wq_getf rfl hR rfl rfl ?_
      refine wq_gos (f := 1) (pc2 := 23) (ls2 := [(0, .ref 4), (1, .int (nI p)), (2, .int lo), (3, .int hi)]) (st2 := [.int (nI p), .ref 2]) (h2 := h) (dc2 := 0) (ds2 := 0) 1 rfl ?_
      refine wq_bald 1 (Or.inl rfl) rfl hT (by first | omega | exact zin_t (by omega) (by omega)) rfl ?_
      refine wq_gos (f := 1) (pc2 := 25) (ls2 := [(0, .ref 4), (1, .int (nI p)), (2, .int lo), (3, .int hi)]) (st2 := [.int hi, .int (tb.getD ((nI p)).toNatClampNeg 0)]) (h2 := h) (dc2 := 0) (ds2 := 0) 1 rfl ?_
      refine wq_gt2 rfl rfl (fun b7x => ?_) (fun b7x => ?_)
      · refine wq_gos (f := 1) (pc2 := 33) (ls2 := [(0, .ref 4), (1, .int (nI p)), (2, .int lo), (3, .int hi)]) (st2 := [.int 0]) (h2 := h) (dc2 := 0) (ds2 := 0) 1 rfl ?_
        have w8x : (rHas tb ln p lo hi) = (0 : Int32) := by unfold rHas; rw [if_neg (Int.not_le.mpr b3x), if_neg (Int.not_lt.mpr b5x), if_pos b7x]
        rw [w8x]
        exact wq_ret rfl rfl rfl
      · refine wq_gos (f := 1) (pc2 := 33) (ls2 := [(0, .ref 4), (1, .int (nI p)), (2, .int lo), (3, .int hi)]) (st2 := [.int 1]) (h2 := h) (dc2 := 0) (ds2 := 0) 2 rfl ?_
        have w9x : (rHas tb ln p lo hi) = (1 : Int32) := by unfold rHas; rw [if_neg (Int.not_le.mpr b3x), if_neg (Int.not_lt.mpr b5x), if_neg (Int.not_lt.mpr b7x)]
        rw [w9x]
        exact wq_ret rfl rfl rfl
noncomputable def twF (tb : List Int32) (ln : Nat) : Nat → Nat → Int32 → Nat → Int32 → Int32 × Nat × Int32
  | 0, _, va, nx, kd => (va, nx, kd)
  | m + 1, le, va, nx, kd => (if (nI ln).toInt ≤ (nI nx).toInt then (if (nI le).toInt ≤ (6 : Int32).toInt then (va, nx, (1 : Int32)) else (va, nx, (5 : Int32))) else (if (rHas tb ln nx (97 : Int32) (122 : Int32)) = (0 : Int32) then (if (nI le).toInt ≤ (6 : Int32).toInt then (va, nx, (1 : Int32)) else (va, nx, (5 : Int32))) else (if (6 : Int32).toInt ≤ (nI le).toInt then (twF tb ln m (le + 1) va (nx + 1) kd) else (twF tb ln m (le + 1) (va ||| ((((tb.getD ((nI nx)).toNatClampNeg 0) - (97 : Int32)) + (1 : Int32)) <<< (((25 : Int32) - (nI (5 * le))) &&& 31))) (nx + 1) kd))))
set_option maxRecDepth 100000 in
set_option maxHeartbeats 4000000 in
theorem c_twL {ln rd : Nat} {wr wa tld : Int32} {tb : List Int32} {sta : Int32} (hln : ln ≤ 700) : ∀ (m : Nat) (le : Nat) (va : Int32) (nx : Nat) (kd : Int32) (h : zH) , (zat h 4 = some (.inr (.inr (.inr (4, [.int wr, .int wa, .ref 2, .int (nI ln), .int (nI nx), .int kd, .int sta, .int va, .int tld, .ref rd]))))) → (zat h 2 = some (.inl (1, 700, tb))) → (nx ≤ ln ∧ le ≤ nx) → (ln - nx) < m → ∀ (dc ds : Nat), wq 59 7 [(0, .ref 4), (1, .int (nI le))] [] h dc ds (fun rr9 => ∃ (h2 : zH) , rr9 = (none, h2, dc, ds) ∧ wFr [4] h h2 ∧ h2.length = h.length ∧ zat h2 4 = some (.inr (.inr (.inr (4, [.int wr, .int wa, .ref 2, .int (nI ln), .int (nI ((twF tb ln m le va nx kd).2.1)), .int ((twF tb ln m le va nx kd).2.2), .int sta, .int ((twF tb ln m le va nx kd).1), .int tld, .ref rd])))) ∧ (((twF tb ln m le va nx kd).2.1) ≤ ln)) := by
  intro m
  induction m with
  | zero => intro le va nx kd h hR hT hk hms dc ds; omega
  | succ m ih =>
    intro le va nx kd h hR hT hk hms dc ds
    have qnle := nI_toInt (n := le) (by omega)
    have qnnx := nI_toInt (n := nx) (by omega)
    have qnln := nI_toInt (n := ln) (by omega)
    refine wq_gos (f := 1) (pc2 := 8) (ls2 := [(0, .ref 4), (1, .int (nI le))]) (st2 := [.ref 4]) (h2 := h) (dc2 := dc) (ds2 := ds) 1 rfl ?_
    refine wq_getf rfl hR rfl rfl ?_
    refine wq_gos (f := 1) (pc2 := 12) (ls2 := [(0, .ref 4), (1, .int (nI le))]) (st2 := [.ref 4, .int (nI nx)]) (h2 := h) (dc2 := dc) (ds2 := ds) 1 rfl ?_
    refine wq_getf rfl hR rfl rfl ?_
    try have q1x := nI_toInt (n := nx) (by omega)
    try have q2x := nI_toInt (n := ln) (by omega)
    refine wq_ge2 rfl rfl (fun b3x => ?_) (fun b3x => ?_)
    · refine wq_gos (f := 1) (pc2 := 89) (ls2 := [(0, .ref 4), (1, .int (nI le))]) (st2 := [.int 6, .int (nI le), .ref 4]) (h2 := h) (dc2 := dc) (ds2 := ds) 3 rfl ?_
      try have q4x := nI_toInt (n := le) (by omega)
      have q5x : (6 : Int32).toInt = 6 := rfl
      refine wq_le2 rfl rfl (fun b6x => ?_) (fun b6x => ?_)
      · refine wq_gos (f := 1) (pc2 := 97) (ls2 := [(0, .ref 4), (1, .int (nI le))]) (st2 := [.int 1, .ref 4]) (h2 := h) (dc2 := dc) (ds2 := ds) 1 rfl ?_
        refine wq_putf rfl hR rfl rfl rfl ?_
        intro h7x e8x f9x l10x
        have e8x : zat h7x 4 = some (.inr (.inr (.inr (4, [.int wr, .int wa, .ref 2, .int (nI ln), .int (nI nx), .int 1, .int sta, .int va, .int tld, .ref rd])))) := e8x
        have hx : (twF tb ln (m + 1) le va nx kd) = (va, nx, (1 : Int32)) := by show (if _ then _ else _) = _; rw [if_pos b3x, if_pos b6x]
        rw [hx]
        exact wq_ret rfl rfl ⟨h7x, rfl, (wFr_sub f9x (by simp)), by omega, e8x, (by (try dsimp only); omega)⟩
      · refine wq_gos (f := 1) (pc2 := 97) (ls2 := [(0, .ref 4), (1, .int (nI le))]) (st2 := [.int 5, .ref 4]) (h2 := h) (dc2 := dc) (ds2 := ds) 2 rfl ?_
        refine wq_putf rfl hR rfl rfl rfl ?_
        intro h11x e12x f13x l14x
        have e12x : zat h11x 4 = some (.inr (.inr (.inr (4, [.int wr, .int wa, .ref 2, .int (nI ln), .int (nI nx), .int 5, .int sta, .int va, .int tld, .ref rd])))) := e12x
        have hx : (twF tb ln (m + 1) le va nx kd) = (va, nx, (5 : Int32)) := by show (if _ then _ else _) = _; rw [if_pos b3x, if_neg (Int.not_le.mpr b6x)]
        rw [hx]
        exact wq_ret rfl rfl ⟨h11x, rfl, (wFr_sub f13x (by simp)), by omega, e12x, (by (try dsimp only); omega)⟩
    · refine wq_gos (f := 1) (pc2 := 20) (ls2 := [(0, .ref 4), (1, .int (nI le))]) (st2 := [.ref 4, .ref 4]) (h2 := h) (dc2 := dc) (ds2 := ds) 2 rfl ?_
      refine wq_getf rfl hR rfl rfl ?_
      refine wq_gos (f := 1) (pc2 := 27) (ls2 := [(0, .ref 4), (1, .int (nI le))]) (st2 := [.int 122, .int 97, .int (nI nx), .ref 4]) (h2 := h) (dc2 := dc) (ds2 := ds) 2 rfl ?_
      have q15x : (97 : Int32).toInt = 97 := rfl
      have q16x : (122 : Int32).toInt = 122 := rfl
      refine wq_inlv (y2 := 57) (as := [.int (nI nx), .int 97, .int 122]) rfl rfl rfl hR rfl (wq_mono (c_has hR hT (by first | omega | assumption | decide) (by first | omega | assumption | decide)) ?_)
      rintro _ rfl
      show wq 59 30 [(0, .ref 4), (1, .int (nI le))] [.int (rHas tb ln nx (97 : Int32) (122 : Int32))] h dc ds _
      refine wq_eq0 rfl rfl (fun b18x => ?_) (fun b18x => ?_)
      · have q19x : (rHas tb ln nx (97 : Int32) (122 : Int32)).toInt = 0 := congrArg Int32.toInt b18x
        refine wq_gos (f := 1) (pc2 := 89) (ls2 := [(0, .ref 4), (1, .int (nI le))]) (st2 := [.int 6, .int (nI le), .ref 4]) (h2 := h) (dc2 := dc) (ds2 := ds) 3 rfl ?_
        try have q20x := nI_toInt (n := le) (by omega)
        have q21x : (6 : Int32).toInt = 6 := rfl
        refine wq_le2 rfl rfl (fun b22x => ?_) (fun b22x => ?_)
        · refine wq_gos (f := 1) (pc2 := 97) (ls2 := [(0, .ref 4), (1, .int (nI le))]) (st2 := [.int 1, .ref 4]) (h2 := h) (dc2 := dc) (ds2 := ds) 1 rfl ?_
          refine wq_putf rfl hR rfl rfl rfl ?_
          intro h23x e24x f25x l26x
          have e24x : zat h23x 4 = some (.inr (.inr (.inr (4, [.int wr, .int wa, .ref 2, .int (nI ln), .int (nI nx), .int 1, .int sta, .int va, .int tld, .ref rd])))) := e24x
          have hx : (twF tb ln (m + 1) le va nx kd) = (va, nx, (1 : Int32)) := by show (if _ then _ else _) = _; rw [if_neg (Int.not_le.mpr b3x), if_pos b18x, if_pos b22x]
          rw [hx]
          exact wq_ret rfl rfl ⟨h23x, rfl, (wFr_sub f25x (by simp)), by omega, e24x, (by (try dsimp only); omega)⟩
        · refine wq_gos (f := 1) (pc2 := 97) (ls2 := [(0, .ref 4), (1, .int (nI le))]) (st2 := [.int 5, .ref 4]) (h2 := h) (dc2 := dc) (ds2 := ds) 2 rfl ?_
          refine wq_putf rfl hR rfl rfl rfl ?_
          intro h27x e28x f29x l30x
          have e28x : zat h27x 4 = some (.inr (.inr (.inr (4, [.int wr, .int wa, .ref 2, .int (nI ln), .int (nI nx), .int 5, .int sta, .int va, .int tld, .ref rd])))) := e28x
          have hx : (twF tb ln (m + 1) le va nx kd) = (va, nx, (5 : Int32)) := by show (if _ then _ else _) = _; rw [if_neg (Int.not_le.mpr b3x), if_pos b18x, if_neg (Int.not_le.mpr b22x)]
          rw [hx]
          exact wq_ret rfl rfl ⟨h27x, rfl, (wFr_sub f29x (by simp)), by omega, e28x, (by (try dsimp only); omega)⟩
      · have q31x : (rHas tb ln nx (97 : Int32) (122 : Int32)).toInt ≠ 0 := fun q => b18x (Int32.toInt_inj.mp q)
        refine wq_gos (f := 1) (pc2 := 36) (ls2 := [(0, .ref 4), (1, .int (nI le))]) (st2 := [.int 6, .int (nI le)]) (h2 := h) (dc2 := dc) (ds2 := ds) 2 rfl ?_
        try have q32x := nI_toInt (n := le) (by omega)
        have q33x : (6 : Int32).toInt = 6 := rfl
        refine wq_ge2 rfl rfl (fun b34x => ?_) (fun b34x => ?_)
        · refine wq_gos (f := 1) (pc2 := 72) (ls2 := [(1, .int ((nI le) + 1)), (0, .ref 4)]) (st2 := []) (h2 := h) (dc2 := dc) (ds2 := ds) 1 rfl ?_
          rw [nI_1]
          refine wq_gos (f := 1) (pc2 := 74) (ls2 := [(1, .int (nI (le + 1))), (0, .ref 4)]) (st2 := [.ref 4, .ref 4]) (h2 := h) (dc2 := dc) (ds2 := ds) 2 rfl ?_
          refine wq_getf rfl hR rfl rfl ?_
          refine wq_gos (f := 1) (pc2 := 79) (ls2 := [(1, .int (nI (le + 1))), (0, .ref 4)]) (st2 := [.int ((nI nx) + (1 : Int32)), .ref 4]) (h2 := h) (dc2 := dc) (ds2 := ds) 2 rfl ?_
          refine wq_vi (show (nI nx) + (1 : Int32) = nI (nx + 1) from nI_add nx 1) ?_
          refine wq_putf rfl hR rfl rfl rfl ?_
          intro h35x e36x f37x l38x
          have e36x : zat h35x 4 = some (.inr (.inr (.inr (4, [.int wr, .int wa, .ref 2, .int (nI ln), .int (nI (nx + 1)), .int kd, .int sta, .int va, .int tld, .ref rd])))) := e36x
          refine wq_gos (f := 1) (pc2 := 7) (ls2 := [(1, .int (nI (le + 1))), (0, .ref 4)]) (st2 := []) (h2 := h35x) (dc2 := dc) (ds2 := ds) 1 rfl ?_
          try have q39x := nI_toInt (n := (le + 1)) (by omega)
          have e40x := (f37x.2 _ _ (wnc (by decide) wn0) hT)
          have hx : (twF tb ln (m + 1) le va nx kd) = (twF tb ln m (le + 1) va (nx + 1) kd) := by show (if _ then _ else _) = _; rw [if_neg (Int.not_le.mpr b3x), if_neg b18x, if_pos b34x]
          rw [hx]
          refine wq_ls [(0, .ref 4), (1, .int (nI (le + 1)))] (show ([0, 1] : List Nat).Nodup by decide) ⟨rfl, rfl, trivial⟩ ?_
          refine wq_mono (ih (le + 1) va (nx + 1) kd h35x e36x e40x (by first | omega | assumption | decide) (by omega) dc ds) ?_
          rintro _ ⟨h9, rfl, f9, l9, y0, y1⟩
          exact ⟨h9, rfl, wFr_tr (wFr_sub f37x (by simp)) f9, by omega, y0, y1⟩
        · refine wq_gos (f := 1) (pc2 := 41) (ls2 := [(0, .ref 4), (1, .int (nI le))]) (st2 := [.ref 4, .ref 4]) (h2 := h) (dc2 := dc) (ds2 := ds) 2 rfl ?_
          refine wq_getf rfl hR rfl rfl ?_
          refine wq_gos (f := 1) (pc2 := 45) (ls2 := [(0, .ref 4), (1, .int (nI le))]) (st2 := [.ref 4, .int va, .ref 4]) (h2 := h) (dc2 := dc) (ds2 := ds) 1 rfl ?_
          refine wq_getf rfl hR rfl rfl ?_
          refine wq_gos (f := 1) (pc2 := 49) (ls2 := [(0, .ref 4), (1, .int (nI le))]) (st2 := [.ref 4, .ref 2, .int va, .ref 4]) (h2 := h) (dc2 := dc) (ds2 := ds) 1 rfl ?_
          refine wq_getf rfl hR rfl rfl ?_
          refine wq_bald 1 (Or.inl rfl) rfl hT (by first | omega | exact zin_t (by omega) (by omega)) rfl ?_
          refine wq_gos (f := 1) (pc2 := 63) (ls2 := [(0, .ref 4), (1, .int (nI le))]) (st2 := [.int ((5 : Int32) * (nI le)), .int 25, .int (((tb.getD ((nI nx)).toNatClampNeg 0) - (97 : Int32)) + (1 : Int32)), .int va, .ref 4]) (h2 := h) (dc2 := dc) (ds2 := ds) 8 rfl ?_
          refine wq_vi (show (5 : Int32) * (nI le) = nI (5 * le) from e_nmul 5 le) ?_
          refine wq_gos (f := 1) (pc2 := 66) (ls2 := [(0, .ref 4), (1, .int (nI le))]) (st2 := [.int (va ||| ((((tb.getD ((nI nx)).toNatClampNeg 0) - (97 : Int32)) + (1 : Int32)) <<< (((25 : Int32) - (nI (5 * le))) &&& 31))), .ref 4]) (h2 := h) (dc2 := dc) (ds2 := ds) 3 rfl ?_
          refine wq_putf rfl hR rfl rfl rfl ?_
          intro h41x e42x f43x l44x
          have e42x : zat h41x 4 = some (.inr (.inr (.inr (4, [.int wr, .int wa, .ref 2, .int (nI ln), .int (nI nx), .int kd, .int sta, .int (va ||| ((((tb.getD ((nI nx)).toNatClampNeg 0) - (97 : Int32)) + (1 : Int32)) <<< (((25 : Int32) - (nI (5 * le))) &&& 31))), .int tld, .ref rd])))) := e42x
          refine wq_gos (f := 1) (pc2 := 72) (ls2 := [(1, .int ((nI le) + 1)), (0, .ref 4)]) (st2 := []) (h2 := h41x) (dc2 := dc) (ds2 := ds) 1 rfl ?_
          rw [nI_1]
          refine wq_gos (f := 1) (pc2 := 74) (ls2 := [(1, .int (nI (le + 1))), (0, .ref 4)]) (st2 := [.ref 4, .ref 4]) (h2 := h41x) (dc2 := dc) (ds2 := ds) 2 rfl ?_
          refine wq_getf rfl e42x rfl rfl ?_
          refine wq_gos (f := 1) (pc2 := 79) (ls2 := [(1, .int (nI (le + 1))), (0, .ref 4)]) (st2 := [.int ((nI nx) + (1 : Int32)), .ref 4]) (h2 := h41x) (dc2 := dc) (ds2 := ds) 2 rfl ?_
          refine wq_vi (show (nI nx) + (1 : Int32) = nI (nx + 1) from nI_add nx 1) ?_
          refine wq_putf rfl e42x rfl rfl rfl ?_
          intro h45x e46x f47x l48x
          have e46x : zat h45x 4 = some (.inr (.inr (.inr (4, [.int wr, .int wa, .ref 2, .int (nI ln), .int (nI (nx + 1)), .int kd, .int sta, .int (va ||| ((((tb.getD ((nI nx)).toNatClampNeg 0) - (97 : Int32)) + (1 : Int32)) <<< (((25 : Int32) - (nI (5 * le))) &&& 31))), .int tld, .ref rd])))) := e46x
          refine wq_gos (f := 1) (pc2 := 7) (ls2 := [(1, .int (nI (le + 1))), (0, .ref 4)]) (st2 := []) (h2 := h45x) (dc2 := dc) (ds2 := ds) 1 rfl ?_
          try have q49x := nI_toInt (n := (le + 1)) (by omega)
          have e50x := (f47x.2 _ _ (wnc (by decide) wn0) (f43x.2 _ _ (wnc (by decide) wn0) hT))
          have hx : (twF tb ln (m + 1) le va nx kd) = (twF tb ln m (le + 1) (va ||| ((((tb.getD ((nI nx)).toNatClampNeg 0) - (97 : Int32)) + (1 : Int32)) <<< (((25 : Int32) - (nI (5 * le))) &&& 31))) (nx + 1) kd) := by show (if _ then _ else _) = _; rw [if_neg (Int.not_le.mpr b3x), if_neg b18x, if_neg (Int.not_le.mpr b34x)]
          rw [hx]
          refine wq_ls [(0, .ref 4), (1, .int (nI (le + 1)))] (show ([0, 1] : List Nat).Nodup by decide) ⟨rfl, rfl, trivial⟩ ?_
          refine wq_mono (ih (le + 1) (va ||| ((((tb.getD ((nI nx)).toNatClampNeg 0) - (97 : Int32)) + (1 : Int32)) <<< (((25 : Int32) - (nI (5 * le))) &&& 31))) (nx + 1) kd h45x e46x e50x (by first | omega | assumption | decide) (by omega) dc ds) ?_
          rintro _ ⟨h9, rfl, f9, l9, y0, y1⟩
          exact ⟨h9, rfl, wFr_tr (wFr_tr (wFr_sub f43x (by simp)) (wFr_sub f47x (by simp))) f9, by omega, y0, y1⟩
noncomputable def twG (tb : List Int32) (ln nx : Nat) (kd : Int32) : Int32 × Nat × Int32 := (((twF tb ln ((ln - nx) + 1) 0 (0 : Int32) nx kd).1), ((twF tb ln ((ln - nx) + 1) 0 (0 : Int32) nx kd).2.1), ((twF tb ln ((ln - nx) + 1) 0 (0 : Int32) nx kd).2.2))
set_option maxRecDepth 100000 in
set_option maxHeartbeats 4000000 in
theorem c_tw {h : zH} {ln nx rd : Nat} {wr wa kd sta va tld : Int32} {tb : List Int32} (hR : zat h 4 = some (.inr (.inr (.inr (4, [.int wr, .int wa, .ref 2, .int (nI ln), .int (nI nx), .int kd, .int sta, .int va, .int tld, .ref rd]))))) (hT : zat h 2 = some (.inl (1, 700, tb))) (hln : ln ≤ 700) (hn : nx ≤ ln) : wq 59 0 [(0, .ref 4)] [] h 0 0 (fun rr9 => ∃ (h2 : zH), rr9 = (none, h2, 0, 0) ∧ wFr [4] h h2 ∧ h2.length = h.length ∧ zat h2 4 = some (.inr (.inr (.inr (4, [.int wr, .int wa, .ref 2, .int (nI ln), .int (nI ((twG tb ln nx kd).2.1)), .int ((twG tb ln nx kd).2.2), .int sta, .int ((twG tb ln nx kd).1), .int tld, .ref rd])))) ∧ (((twG tb ln nx kd).2.1) ≤ ln)) := by
  have qnnx := nI_toInt (n := nx) (by omega)
  have qnln := nI_toInt (n := ln) (by omega)
  refine wq_gos (f := 1) (pc2 := 4) (ls2 := [(1, .int 0), (0, .ref 4)]) (st2 := [.int 0, .ref 4]) (h2 := h) (dc2 := 0) (ds2 := 0) 4 rfl ?_
  refine wq_putf rfl hR rfl rfl rfl ?_
  intro h1x e2x f3x l4x
  have e2x : zat h1x 4 = some (.inr (.inr (.inr (4, [.int wr, .int wa, .ref 2, .int (nI ln), .int (nI nx), .int kd, .int sta, .int 0, .int tld, .ref rd])))) := e2x
  have e5x := (f3x.2 _ _ (wnc (by decide) wn0) hT)
  refine wq_ls [(0, .ref 4), (1, .int (nI 0))] (show ([0, 1] : List Nat).Nodup by decide) ⟨rfl, rfl, trivial⟩ ?_
  refine wq_mono (c_twL (by first | omega | assumption | decide) ((ln - nx) + 1) 0 (0 : Int32) nx kd h1x e2x e5x (by first | omega | assumption | decide) (by omega) 0 0) ?_
  rintro _ ⟨h86x, rfl, f86x, l86x, c06x, c16x⟩
  have hx : (twG tb ln nx kd) = (((twF tb ln ((ln - nx) + 1) 0 (0 : Int32) nx kd).1), ((twF tb ln ((ln - nx) + 1) 0 (0 : Int32) nx kd).2.1), ((twF tb ln ((ln - nx) + 1) 0 (0 : Int32) nx kd).2.2)) := by unfold twG; rfl
  rw [hx]
  exact ⟨h86x, rfl, (wFr_tr (wFr_sub f3x (by simp)) (wFr_sub f86x (by simp))), by omega, c06x, (by first | ((try dsimp only); omega) | assumption)⟩
noncomputable def tdF (tb : List Int32) (ln : Nat) : Nat → Int32 → Nat → Int32 × Nat
  | 0, _, nx => (0, nx)
  | m + 1, nu, nx => (if (nI ln).toInt ≤ (nI nx).toInt then (nu, nx) else (if (rHas tb ln nx (48 : Int32) (57 : Int32)) = (0 : Int32) then (nu, nx) else (tdF tb ln m (jmin (1000000 : Int32) (((nu * (10 : Int32)) + (tb.getD ((nI nx)).toNatClampNeg 0)) - (48 : Int32))) (nx + 1))))
set_option maxRecDepth 100000 in
set_option maxHeartbeats 4000000 in
theorem c_tdL {ln rd : Nat} {wr wa tld : Int32} {tb : List Int32} {kd sta va : Int32} (hln : ln ≤ 700) : ∀ (m : Nat) (nu : Int32) (nx : Nat) (h : zH) , (zat h 4 = some (.inr (.inr (.inr (4, [.int wr, .int wa, .ref 2, .int (nI ln), .int (nI nx), .int kd, .int sta, .int va, .int tld, .ref rd]))))) → (zat h 2 = some (.inl (1, 700, tb))) → (nx ≤ ln) → (ln - nx) < m → ∀ (dc ds : Nat), wq 60 2 [(0, .ref 4), (1, .int nu)] [] h dc ds (fun rr9 => ∃ (h2 : zH) , rr9 = (some (Value.int ((tdF tb ln m nu nx).1)), h2, dc, ds) ∧ wFr [4] h h2 ∧ h2.length = h.length ∧ zat h2 4 = some (.inr (.inr (.inr (4, [.int wr, .int wa, .ref 2, .int (nI ln), .int (nI ((tdF tb ln m nu nx).2)), .int kd, .int sta, .int va, .int tld, .ref rd])))) ∧ (((tdF tb ln m nu nx).2) ≤ ln)) := by
  intro m
  induction m with
  | zero => intro nu nx h hR hT hk hms dc ds; omega
  | succ m ih =>
    intro nu nx h hR hT hk hms dc ds
    have qnnx := nI_toInt (n := nx) (by omega)
    have qnln := nI_toInt (n := ln) (by omega)
    refine wq_gos (f := 1) (pc2 := 3) (ls2 := [(0, .ref 4), (1, .int nu)]) (st2 := [.ref 4]) (h2 := h) (dc2 := dc) (ds2 := ds) 1 rfl ?_
    refine wq_getf rfl hR rfl rfl ?_
    refine wq_gos (f := 1) (pc2 := 7) (ls2 := [(0, .ref 4), (1, .int nu)]) (st2 := [.ref 4, .int (nI nx)]) (h2 := h) (dc2 := dc) (ds2 := ds) 1 rfl ?_
    refine wq_getf rfl hR rfl rfl ?_
    try have q1x := nI_toInt (n := nx) (by omega)
    try have q2x := nI_toInt (n := ln) (by omega)
    refine wq_ge2 rfl rfl (fun b3x => ?_) (fun b3x => ?_)
    · refine wq_gos (f := 1) (pc2 := 65) (ls2 := [(0, .ref 4), (1, .int nu)]) (st2 := [.int nu]) (h2 := h) (dc2 := dc) (ds2 := ds) 1 rfl ?_
      have hx : (tdF tb ln (m + 1) nu nx) = (nu, nx) := by show (if _ then _ else _) = _; rw [if_pos b3x]
      rw [hx]
      exact wq_ret rfl rfl ⟨h, rfl, (wFr_rf _ _), by omega, hR, (by (try dsimp only); omega)⟩
    · refine wq_gos (f := 1) (pc2 := 15) (ls2 := [(0, .ref 4), (1, .int nu)]) (st2 := [.ref 4, .ref 4]) (h2 := h) (dc2 := dc) (ds2 := ds) 2 rfl ?_
      refine wq_getf rfl hR rfl rfl ?_
      refine wq_gos (f := 1) (pc2 := 22) (ls2 := [(0, .ref 4), (1, .int nu)]) (st2 := [.int 57, .int 48, .int (nI nx), .ref 4]) (h2 := h) (dc2 := dc) (ds2 := ds) 2 rfl ?_
      have q4x : (48 : Int32).toInt = 48 := rfl
      have q5x : (57 : Int32).toInt = 57 := rfl
      refine wq_inlv (y2 := 57) (as := [.int (nI nx), .int 48, .int 57]) rfl rfl rfl hR rfl (wq_mono (c_has hR hT (by first | omega | assumption | decide) (by first | omega | assumption | decide)) ?_)
      rintro _ rfl
      show wq 60 25 [(0, .ref 4), (1, .int nu)] [.int (rHas tb ln nx (48 : Int32) (57 : Int32))] h dc ds _
      refine wq_eq0 rfl rfl (fun b7x => ?_) (fun b7x => ?_)
      · have q8x : (rHas tb ln nx (48 : Int32) (57 : Int32)).toInt = 0 := congrArg Int32.toInt b7x
        refine wq_gos (f := 1) (pc2 := 65) (ls2 := [(0, .ref 4), (1, .int nu)]) (st2 := [.int nu]) (h2 := h) (dc2 := dc) (ds2 := ds) 1 rfl ?_
        have hx : (tdF tb ln (m + 1) nu nx) = (nu, nx) := by show (if _ then _ else _) = _; rw [if_neg (Int.not_le.mpr b3x), if_pos b7x]
        rw [hx]
        exact wq_ret rfl rfl ⟨h, rfl, (wFr_rf _ _), by omega, hR, (by (try dsimp only); omega)⟩
      · have q9x : (rHas tb ln nx (48 : Int32) (57 : Int32)).toInt ≠ 0 := fun q => b7x (Int32.toInt_inj.mp q)
        refine wq_gos (f := 1) (pc2 := 35) (ls2 := [(0, .ref 4), (1, .int nu)]) (st2 := [.ref 4, .int (nu * (10 : Int32)), .int 1000000]) (h2 := h) (dc2 := dc) (ds2 := ds) 5 rfl ?_
        refine wq_getf rfl hR rfl rfl ?_
        refine wq_gos (f := 1) (pc2 := 39) (ls2 := [(0, .ref 4), (1, .int nu)]) (st2 := [.ref 4, .ref 2, .int (nu * (10 : Int32)), .int 1000000]) (h2 := h) (dc2 := dc) (ds2 := ds) 1 rfl ?_
        refine wq_getf rfl hR rfl rfl ?_
        refine wq_bald 1 (Or.inl rfl) rfl hT (by first | omega | exact zin_t (by omega) (by omega)) rfl ?_
        refine wq_gos (f := 1) (pc2 := 47) (ls2 := [(0, .ref 4), (1, .int nu)]) (st2 := [.int (((nu * (10 : Int32)) + (tb.getD ((nI nx)).toNatClampNeg 0)) - (48 : Int32)), .int 1000000]) (h2 := h) (dc2 := dc) (ds2 := ds) 3 rfl ?_
        refine wq_inl (y2 := 285) (as := [.int 1000000, .int (((nu * (10 : Int32)) + (tb.getD ((nI nx)).toNatClampNeg 0)) - (48 : Int32))]) rfl rfl rfl (wq_T (c_min (1000000 : Int32) (((nu * (10 : Int32)) + (tb.getD ((nI nx)).toNatClampNeg 0)) - (48 : Int32)) h) ?_)
        show wq 60 50 [(0, .ref 4), (1, .int nu)] [.int (jmin (1000000 : Int32) (((nu * (10 : Int32)) + (tb.getD ((nI nx)).toNatClampNeg 0)) - (48 : Int32)))] h dc ds _
        refine wq_gos (f := 1) (pc2 := 53) (ls2 := [(1, .int (jmin (1000000 : Int32) (((nu * (10 : Int32)) + (tb.getD ((nI nx)).toNatClampNeg 0)) - (48 : Int32)))), (0, .ref 4)]) (st2 := [.ref 4, .ref 4]) (h2 := h) (dc2 := dc) (ds2 := ds) 3 rfl ?_
        refine wq_getf rfl hR rfl rfl ?_
        refine wq_gos (f := 1) (pc2 := 58) (ls2 := [(1, .int (jmin (1000000 : Int32) (((nu * (10 : Int32)) + (tb.getD ((nI nx)).toNatClampNeg 0)) - (48 : Int32)))), (0, .ref 4)]) (st2 := [.int ((nI nx) + (1 : Int32)), .ref 4]) (h2 := h) (dc2 := dc) (ds2 := ds) 2 rfl ?_
        rw [nI_1]
        refine wq_putf rfl hR rfl rfl rfl ?_
        intro h10x e11x f12x l13x
        have e11x : zat h10x 4 = some (.inr (.inr (.inr (4, [.int wr, .int wa, .ref 2, .int (nI ln), .int (nI (nx + 1)), .int kd, .int sta, .int va, .int tld, .ref rd])))) := e11x
        refine wq_gos (f := 1) (pc2 := 2) (ls2 := [(1, .int (jmin (1000000 : Int32) (((nu * (10 : Int32)) + (tb.getD ((nI nx)).toNatClampNeg 0)) - (48 : Int32)))), (0, .ref 4)]) (st2 := []) (h2 := h10x) (dc2 := dc) (ds2 := ds) 1 rfl ?_
        have e14x := (f12x.2 _ _ (wnc (by decide) wn0) hT)
        have hx : (tdF tb ln (m + 1) nu nx) = (tdF tb ln m (jmin (1000000 : Int32) (((nu * (10 : Int32)) + (tb.getD ((nI nx)).toNatClampNeg 0)) - (48 : Int32))) (nx + 1)) := by show (if _ then _ else _) = _; rw [if_neg (Int.not_le.mpr b3x), if_neg b7x]
        rw [hx]
        refine wq_ls [(0, .ref 4), (1, .int (jmin (1000000 : Int32) (((nu * (10 : Int32)) + (tb.getD ((nI nx)).toNatClampNeg 0)) - (48 : Int32))))] (show ([0, 1] : List Nat).Nodup by decide) ⟨rfl, rfl, trivial⟩ ?_
        refine wq_mono (ih (jmin (1000000 : Int32) (((nu * (10 : Int32)) + (tb.getD ((nI nx)).toNatClampNeg 0)) - (48 : Int32))) (nx + 1) h10x e11x e14x (by first | omega | assumption | decide) (by omega) dc ds) ?_
        rintro _ ⟨h9, rfl, f9, l9, y0, y1⟩
        exact ⟨h9, rfl, wFr_tr (wFr_sub f12x (by simp)) f9, by omega, y0, y1⟩
noncomputable def tdG (tb : List Int32) (ln nx : Nat) : Int32 × Nat := (((tdF tb ln ((ln - nx) + 1) (0 : Int32) nx).1), ((tdF tb ln ((ln - nx) + 1) (0 : Int32) nx).2))
set_option maxRecDepth 100000 in
set_option maxHeartbeats 4000000 in
theorem c_td {h : zH} {ln nx rd : Nat} {wr wa kd sta va tld : Int32} {tb : List Int32} (hR : zat h 4 = some (.inr (.inr (.inr (4, [.int wr, .int wa, .ref 2, .int (nI ln), .int (nI nx), .int kd, .int sta, .int va, .int tld, .ref rd]))))) (hT : zat h 2 = some (.inl (1, 700, tb))) (hln : ln ≤ 700) (hn : nx ≤ ln) : wq 60 0 [(0, .ref 4)] [] h 0 0 (fun rr9 => ∃ (h2 : zH), rr9 = (some (.int ((tdG tb ln nx).1)), h2, 0, 0) ∧ wFr [4] h h2 ∧ h2.length = h.length ∧ zat h2 4 = some (.inr (.inr (.inr (4, [.int wr, .int wa, .ref 2, .int (nI ln), .int (nI ((tdG tb ln nx).2)), .int kd, .int sta, .int va, .int tld, .ref rd])))) ∧ (((tdG tb ln nx).2) ≤ ln)) := by
  have qnnx := nI_toInt (n := nx) (by omega)
  have qnln := nI_toInt (n := ln) (by omega)
  refine wq_gos (f := 1) (pc2 := 2) (ls2 := [(1, .int 0), (0, .ref 4)]) (st2 := []) (h2 := h) (dc2 := 0) (ds2 := 0) 2 rfl ?_
  refine wq_ls [(0, .ref 4), (1, .int (0 : Int32))] (show ([0, 1] : List Nat).Nodup by decide) ⟨rfl, rfl, trivial⟩ ?_
  refine wq_mono (c_tdL (by first | omega | assumption | decide) ((ln - nx) + 1) (0 : Int32) nx h hR hT (by first | omega | assumption | decide) (by omega) 0 0) ?_
  rintro _ ⟨h81x, rfl, f81x, l81x, c01x, c11x⟩
  have hx : (tdG tb ln nx) = (((tdF tb ln ((ln - nx) + 1) (0 : Int32) nx).1), ((tdF tb ln ((ln - nx) + 1) (0 : Int32) nx).2)) := by unfold tdG; rfl
  rw [hx]
  exact ⟨h81x, rfl, (wFr_sub f81x (by simp)), by omega, c01x, (by first | ((try dsimp only); omega) | assumption)⟩
noncomputable def adF (tb : List Int32) (ln : Nat) : Nat → Nat → Int32 → Int32 → Int32 → Nat × Int32 × Int32 × Int32
  | 0, nx, kd, sta, va => (nx, kd, sta, va)
  | m + 1, nx, kd, sta, va => (if (nI ln).toInt ≤ (nI nx).toInt then (if (nI nx).toInt < (nI ln).toInt then (if (rHas tb ln nx (97 : Int32) (122 : Int32)) = (0 : Int32) then (if (rHas tb ln nx (48 : Int32) (57 : Int32)) = (0 : Int32) then (if (tb.getD ((nI nx)).toNatClampNeg 0) ≠ (45 : Int32) then (if (tb.getD ((nI nx)).toNatClampNeg 0) ≠ (59 : Int32) then ((nx + 1), (5 : Int32), (nI nx), va) else ((nx + 1), (4 : Int32), (nI nx), va)) else (if (rHas tb ln (nx + 1) (48 : Int32) (57 : Int32)) = (0 : Int32) then (if (tb.getD ((nI nx)).toNatClampNeg 0) ≠ (59 : Int32) then ((nx + 1), (5 : Int32), (nI nx), va) else ((nx + 1), (4 : Int32), (nI nx), va)) else (zlet (tdG tb ln (nx + 1)) (fun v79x => ((v79x.2), (3 : Int32), (nI nx), (-(v79x.1))))))) else (zlet (tdG tb ln nx) (fun v92x => ((v92x.2), (2 : Int32), (nI nx), (v92x.1))))) else (zlet (twG tb ln nx kd) (fun v100x => ((v100x.2.1), (v100x.2.2), (nI nx), (v100x.1))))) else (nx, (0 : Int32), (nI nx), va)) else (if (tb.getD ((nI nx)).toNatClampNeg 0) = (32 : Int32) then (adF tb ln m (nx + 1) kd sta va) else (if (tb.getD ((nI nx)).toNatClampNeg 0) ≠ (10 : Int32) then (if (nI nx).toInt < (nI ln).toInt then (if (rHas tb ln nx (97 : Int32) (122 : Int32)) = (0 : Int32) then (if (rHas tb ln nx (48 : Int32) (57 : Int32)) = (0 : Int32) then (if (tb.getD ((nI nx)).toNatClampNeg 0) ≠ (45 : Int32) then (if (tb.getD ((nI nx)).toNatClampNeg 0) ≠ (59 : Int32) then ((nx + 1), (5 : Int32), (nI nx), va) else ((nx + 1), (4 : Int32), (nI nx), va)) else (if (rHas tb ln (nx + 1) (48 : Int32) (57 : Int32)) = (0 : Int32) then (if (tb.getD ((nI nx)).toNatClampNeg 0) ≠ (59 : Int32) then ((nx + 1), (5 : Int32), (nI nx), va) else ((nx + 1), (4 : Int32), (nI nx), va)) else (zlet (tdG tb ln (nx + 1)) (fun v193x => ((v193x.2), (3 : Int32), (nI nx), (-(v193x.1))))))) else (zlet (tdG tb ln nx) (fun v206x => ((v206x.2), (2 : Int32), (nI nx), (v206x.1))))) else (zlet (twG tb ln nx kd) (fun v214x => ((v214x.2.1), (v214x.2.2), (nI nx), (v214x.1))))) else (nx, (0 : Int32), (nI nx), va)) else (adF tb ln m (nx + 1) kd sta va))))
set_option maxRecDepth 100000 in
set_option maxHeartbeats 4000000 in
theorem c_adL {ln rd : Nat} {wr wa tld : Int32} {tb : List Int32} (hln : ln ≤ 700) : ∀ (m : Nat) (nx : Nat) (kd : Int32) (sta : Int32) (va : Int32) (h : zH) , (zat h 4 = some (.inr (.inr (.inr (4, [.int wr, .int wa, .ref 2, .int (nI ln), .int (nI nx), .int kd, .int sta, .int va, .int tld, .ref rd]))))) → (zat h 2 = some (.inl (1, 700, tb))) → (nx ≤ ln) → (ln - nx) < m → ∀ (dc ds : Nat), wq 58 0 [(0, .ref 4)] [] h dc ds (fun rr9 => ∃ (h2 : zH) , rr9 = (none, h2, dc, ds) ∧ wFr [4] h h2 ∧ h2.length = h.length ∧ zat h2 4 = some (.inr (.inr (.inr (4, [.int wr, .int wa, .ref 2, .int (nI ln), .int (nI ((adF tb ln m nx kd sta va).1)), .int ((adF tb ln m nx kd sta va).2.1), .int ((adF tb ln m nx kd sta va).2.2.1), .int ((adF tb ln m nx kd sta va).2.2.2), .int tld, .ref rd])))) ∧ (((adF tb ln m nx kd sta va).1) ≤ ln)) := by
  intro m
  induction m with
  | zero => intro nx kd sta va h hR hT hk hms dc ds; omega
  | succ m ih =>
    intro nx kd sta va h hR hT hk hms dc ds
    have qnnx := nI_toInt (n := nx) (by omega)
    have qnln := nI_toInt (n := ln) (by omega)
    refine wq_gos (f := 1) (pc2 := 1) (ls2 := [(0, .ref 4)]) (st2 := [.ref 4]) (h2 := h) (dc2 := dc) (ds2 := ds) 1 rfl ?_
    refine wq_getf rfl hR rfl rfl ?_
    refine wq_gos (f := 1) (pc2 := 5) (ls2 := [(0, .ref 4)]) (st2 := [.ref 4, .int (nI nx)]) (h2 := h) (dc2 := dc) (ds2 := ds) 1 rfl ?_
    refine wq_getf rfl hR rfl rfl ?_
    try have q1x := nI_toInt (n := nx) (by omega)
    try have q2x := nI_toInt (n := ln) (by omega)
    refine wq_ge2 rfl rfl (fun b3x => ?_) (fun b3x => ?_)
    · refine wq_gos (f := 1) (pc2 := 54) (ls2 := [(0, .ref 4)]) (st2 := [.ref 4, .ref 4]) (h2 := h) (dc2 := dc) (ds2 := ds) 2 rfl ?_
      refine wq_getf rfl hR rfl rfl ?_
      refine wq_putf rfl hR rfl rfl rfl ?_
      intro h4x e5x f6x l7x
      have e5x : zat h4x 4 = some (.inr (.inr (.inr (4, [.int wr, .int wa, .ref 2, .int (nI ln), .int (nI nx), .int kd, .int (nI nx), .int va, .int tld, .ref rd])))) := e5x
      refine wq_gos (f := 1) (pc2 := 61) (ls2 := [(0, .ref 4)]) (st2 := [.ref 4]) (h2 := h4x) (dc2 := dc) (ds2 := ds) 1 rfl ?_
      refine wq_getf rfl e5x rfl rfl ?_
      refine wq_gos (f := 1) (pc2 := 65) (ls2 := [(0, .ref 4)]) (st2 := [.ref 4, .int (nI nx)]) (h2 := h4x) (dc2 := dc) (ds2 := ds) 1 rfl ?_
      refine wq_getf rfl e5x rfl rfl ?_
      refine wq_lt2 rfl rfl (fun b8x => ?_) (fun b8x => ?_)
      · refine wq_gos (f := 1) (pc2 := 81) (ls2 := [(0, .ref 4)]) (st2 := [.ref 4, .ref 4]) (h2 := h4x) (dc2 := dc) (ds2 := ds) 2 rfl ?_
        refine wq_getf rfl e5x rfl rfl ?_
        refine wq_gos (f := 1) (pc2 := 88) (ls2 := [(0, .ref 4)]) (st2 := [.int 122, .int 97, .int (nI nx), .ref 4]) (h2 := h4x) (dc2 := dc) (ds2 := ds) 2 rfl ?_
        have e9x := (f6x.2 _ _ (wnc (by decide) wn0) hT)
        have q10x : (97 : Int32).toInt = 97 := rfl
        have q11x : (122 : Int32).toInt = 122 := rfl
        refine wq_inlv (y2 := 57) (as := [.int (nI nx), .int 97, .int 122]) rfl rfl rfl e5x rfl (wq_mono (c_has e5x e9x (by first | omega | assumption | decide) (by first | omega | assumption | decide)) ?_)
        rintro _ rfl
        show wq 58 91 [(0, .ref 4)] [.int (rHas tb ln nx (97 : Int32) (122 : Int32))] h4x dc ds _
        refine wq_eq0 rfl rfl (fun b13x => ?_) (fun b13x => ?_)
        · have q14x : (rHas tb ln nx (97 : Int32) (122 : Int32)).toInt = 0 := congrArg Int32.toInt b13x
          refine wq_gos (f := 1) (pc2 := 103) (ls2 := [(0, .ref 4)]) (st2 := [.ref 4, .ref 4]) (h2 := h4x) (dc2 := dc) (ds2 := ds) 2 rfl ?_
          refine wq_getf rfl e5x rfl rfl ?_
          refine wq_gos (f := 1) (pc2 := 110) (ls2 := [(0, .ref 4)]) (st2 := [.int 57, .int 48, .int (nI nx), .ref 4]) (h2 := h4x) (dc2 := dc) (ds2 := ds) 2 rfl ?_
          have q15x : (48 : Int32).toInt = 48 := rfl
          have q16x : (57 : Int32).toInt = 57 := rfl
          refine wq_inlv (y2 := 57) (as := [.int (nI nx), .int 48, .int 57]) rfl rfl rfl e5x rfl (wq_mono (c_has e5x e9x (by first | omega | assumption | decide) (by first | omega | assumption | decide)) ?_)
          rintro _ rfl
          show wq 58 113 [(0, .ref 4)] [.int (rHas tb ln nx (48 : Int32) (57 : Int32))] h4x dc ds _
          refine wq_eq0 rfl rfl (fun b18x => ?_) (fun b18x => ?_)
          · have q19x : (rHas tb ln nx (48 : Int32) (57 : Int32)).toInt = 0 := congrArg Int32.toInt b18x
            refine wq_gos (f := 1) (pc2 := 133) (ls2 := [(0, .ref 4)]) (st2 := [.ref 4]) (h2 := h4x) (dc2 := dc) (ds2 := ds) 1 rfl ?_
            refine wq_getf rfl e5x rfl rfl ?_
            refine wq_gos (f := 1) (pc2 := 137) (ls2 := [(0, .ref 4)]) (st2 := [.ref 4, .ref 2]) (h2 := h4x) (dc2 := dc) (ds2 := ds) 1 rfl ?_
            refine wq_getf rfl e5x rfl rfl ?_
            refine wq_bald 1 (Or.inl rfl) rfl e9x (by first | omega | exact zin_t (by omega) (by omega)) rfl ?_
            refine wq_gos (f := 1) (pc2 := 143) (ls2 := [(0, .ref 4)]) (st2 := [.int 45, .int (tb.getD ((nI nx)).toNatClampNeg 0)]) (h2 := h4x) (dc2 := dc) (ds2 := ds) 1 rfl ?_
            have q20x : (45 : Int32).toInt = 45 := rfl
            refine wq_ne2 rfl rfl (fun b21x => ?_) (fun b21x => ?_)
            · have q22x : (tb.getD ((nI nx)).toNatClampNeg 0).toInt ≠ 45 := fun q => b21x (Int32.toInt_inj.mp q)
              refine wq_gos (f := 1) (pc2 := 192) (ls2 := [(0, .ref 4)]) (st2 := [.ref 4, .ref 4]) (h2 := h4x) (dc2 := dc) (ds2 := ds) 2 rfl ?_
              refine wq_getf rfl e5x rfl rfl ?_
              refine wq_gos (f := 1) (pc2 := 196) (ls2 := [(0, .ref 4)]) (st2 := [.ref 4, .ref 2, .ref 4]) (h2 := h4x) (dc2 := dc) (ds2 := ds) 1 rfl ?_
              refine wq_getf rfl e5x rfl rfl ?_
              refine wq_bald 1 (Or.inl rfl) rfl e9x (by first | omega | exact zin_t (by omega) (by omega)) rfl ?_
              refine wq_gos (f := 1) (pc2 := 202) (ls2 := [(0, .ref 4)]) (st2 := [.int 59, .int (tb.getD ((nI nx)).toNatClampNeg 0), .ref 4]) (h2 := h4x) (dc2 := dc) (ds2 := ds) 1 rfl ?_
              have q23x : (59 : Int32).toInt = 59 := rfl
              refine wq_ne2 rfl rfl (fun b24x => ?_) (fun b24x => ?_)
              · have q25x : (tb.getD ((nI nx)).toNatClampNeg 0).toInt ≠ 59 := fun q => b24x (Int32.toInt_inj.mp q)
                refine wq_gos (f := 1) (pc2 := 210) (ls2 := [(0, .ref 4)]) (st2 := [.int 5, .ref 4]) (h2 := h4x) (dc2 := dc) (ds2 := ds) 1 rfl ?_
                refine wq_putf rfl e5x rfl rfl rfl ?_
                intro h26x e27x f28x l29x
                have e27x : zat h26x 4 = some (.inr (.inr (.inr (4, [.int wr, .int wa, .ref 2, .int (nI ln), .int (nI nx), .int 5, .int (nI nx), .int va, .int tld, .ref rd])))) := e27x
                refine wq_gos (f := 1) (pc2 := 215) (ls2 := [(0, .ref 4)]) (st2 := [.ref 4, .ref 4]) (h2 := h26x) (dc2 := dc) (ds2 := ds) 2 rfl ?_
                refine wq_getf rfl e27x rfl rfl ?_
                refine wq_gos (f := 1) (pc2 := 220) (ls2 := [(0, .ref 4)]) (st2 := [.int ((nI nx) + (1 : Int32)), .ref 4]) (h2 := h26x) (dc2 := dc) (ds2 := ds) 2 rfl ?_
                rw [nI_1]
                refine wq_putf rfl e27x rfl rfl rfl ?_
                intro h30x e31x f32x l33x
                have e31x : zat h30x 4 = some (.inr (.inr (.inr (4, [.int wr, .int wa, .ref 2, .int (nI ln), .int (nI (nx + 1)), .int 5, .int (nI nx), .int va, .int tld, .ref rd])))) := e31x
                have hx : (adF tb ln (m + 1) nx kd sta va) = ((nx + 1), (5 : Int32), (nI nx), va) := by show (if _ then _ else _) = _; rw [if_pos b3x, if_pos b8x, if_pos b13x, if_pos b18x, if_pos b21x, if_pos b24x]
                rw [hx]
                exact wq_ret rfl rfl ⟨h30x, rfl, (wFr_tr (wFr_sub f6x (by simp)) (wFr_tr (wFr_sub f28x (by simp)) (wFr_sub f32x (by simp)))), by omega, e31x, (by (try dsimp only); omega)⟩
              · have q34x : (tb.getD ((nI nx)).toNatClampNeg 0).toInt = 59 := congrArg Int32.toInt b24x
                refine wq_gos (f := 1) (pc2 := 210) (ls2 := [(0, .ref 4)]) (st2 := [.int 4, .ref 4]) (h2 := h4x) (dc2 := dc) (ds2 := ds) 2 rfl ?_
                refine wq_putf rfl e5x rfl rfl rfl ?_
                intro h35x e36x f37x l38x
                have e36x : zat h35x 4 = some (.inr (.inr (.inr (4, [.int wr, .int wa, .ref 2, .int (nI ln), .int (nI nx), .int 4, .int (nI nx), .int va, .int tld, .ref rd])))) := e36x
                refine wq_gos (f := 1) (pc2 := 215) (ls2 := [(0, .ref 4)]) (st2 := [.ref 4, .ref 4]) (h2 := h35x) (dc2 := dc) (ds2 := ds) 2 rfl ?_
                refine wq_getf rfl e36x rfl rfl ?_
                refine wq_gos (f := 1) (pc2 := 220) (ls2 := [(0, .ref 4)]) (st2 := [.int ((nI nx) + (1 : Int32)), .ref 4]) (h2 := h35x) (dc2 := dc) (ds2 := ds) 2 rfl ?_
                rw [nI_1]
                refine wq_putf rfl e36x rfl rfl rfl ?_
                intro h39x e40x f41x l42x
                have e40x : zat h39x 4 = some (.inr (.inr (.inr (4, [.int wr, .int wa, .ref 2, .int (nI ln), .int (nI (nx + 1)), .int 4, .int (nI nx), .int va, .int tld, .ref rd])))) := e40x
                have hx : (adF tb ln (m + 1) nx kd sta va) = ((nx + 1), (4 : Int32), (nI nx), va) := by show (if _ then _ else _) = _; rw [if_pos b3x, if_pos b8x, if_pos b13x, if_pos b18x, if_pos b21x, if_neg (fun q => q b24x)]
                rw [hx]
                exact wq_ret rfl rfl ⟨h39x, rfl, (wFr_tr (wFr_sub f6x (by simp)) (wFr_tr (wFr_sub f37x (by simp)) (wFr_sub f41x (by simp)))), by omega, e40x, (by (try dsimp only); omega)⟩
            · have q43x : (tb.getD ((nI nx)).toNatClampNeg 0).toInt = 45 := congrArg Int32.toInt b21x
              refine wq_gos (f := 1) (pc2 := 148) (ls2 := [(0, .ref 4)]) (st2 := [.ref 4, .ref 4]) (h2 := h4x) (dc2 := dc) (ds2 := ds) 2 rfl ?_
              refine wq_getf rfl e5x rfl rfl ?_
              refine wq_gos (f := 1) (pc2 := 153) (ls2 := [(0, .ref 4)]) (st2 := [.int ((nI nx) + (1 : Int32)), .ref 4]) (h2 := h4x) (dc2 := dc) (ds2 := ds) 2 rfl ?_
              rw [nI_1]
              refine wq_gos (f := 1) (pc2 := 157) (ls2 := [(0, .ref 4)]) (st2 := [.int 57, .int 48, .int (nI (nx + 1)), .ref 4]) (h2 := h4x) (dc2 := dc) (ds2 := ds) 2 rfl ?_
              try have q44x := nI_toInt (n := (nx + 1)) (by omega)
              refine wq_inlv (y2 := 57) (as := [.int (nI (nx + 1)), .int 48, .int 57]) rfl rfl rfl e5x rfl (wq_mono (c_has e5x e9x (by first | omega | assumption | decide) (by first | omega | assumption | decide)) ?_)
              rintro _ rfl
              show wq 58 160 [(0, .ref 4)] [.int (rHas tb ln (nx + 1) (48 : Int32) (57 : Int32))] h4x dc ds _
              refine wq_eq0 rfl rfl (fun b46x => ?_) (fun b46x => ?_)
              · have q47x : (rHas tb ln (nx + 1) (48 : Int32) (57 : Int32)).toInt = 0 := congrArg Int32.toInt b46x
                refine wq_gos (f := 1) (pc2 := 192) (ls2 := [(0, .ref 4)]) (st2 := [.ref 4, .ref 4]) (h2 := h4x) (dc2 := dc) (ds2 := ds) 2 rfl ?_
                refine wq_getf rfl e5x rfl rfl ?_
                refine wq_gos (f := 1) (pc2 := 196) (ls2 := [(0, .ref 4)]) (st2 := [.ref 4, .ref 2, .ref 4]) (h2 := h4x) (dc2 := dc) (ds2 := ds) 1 rfl ?_
                refine wq_getf rfl e5x rfl rfl ?_
                refine wq_bald 1 (Or.inl rfl) rfl e9x (by first | omega | exact zin_t (by omega) (by omega)) rfl ?_
                refine wq_gos (f := 1) (pc2 := 202) (ls2 := [(0, .ref 4)]) (st2 := [.int 59, .int (tb.getD ((nI nx)).toNatClampNeg 0), .ref 4]) (h2 := h4x) (dc2 := dc) (ds2 := ds) 1 rfl ?_
                have q48x : (59 : Int32).toInt = 59 := rfl
                refine wq_ne2 rfl rfl (fun b49x => ?_) (fun b49x => ?_)
                · have q50x : (tb.getD ((nI nx)).toNatClampNeg 0).toInt ≠ 59 := fun q => b49x (Int32.toInt_inj.mp q)
                  refine wq_gos (f := 1) (pc2 := 210) (ls2 := [(0, .ref 4)]) (st2 := [.int 5, .ref 4]) (h2 := h4x) (dc2 := dc) (ds2 := ds) 1 rfl ?_
                  refine wq_putf rfl e5x rfl rfl rfl ?_
                  intro h51x e52x f53x l54x
                  have e52x : zat h51x 4 = some (.inr (.inr (.inr (4, [.int wr, .int wa, .ref 2, .int (nI ln), .int (nI nx), .int 5, .int (nI nx), .int va, .int tld, .ref rd])))) := e52x
                  refine wq_gos (f := 1) (pc2 := 215) (ls2 := [(0, .ref 4)]) (st2 := [.ref 4, .ref 4]) (h2 := h51x) (dc2 := dc) (ds2 := ds) 2 rfl ?_
                  refine wq_getf rfl e52x rfl rfl ?_
                  refine wq_gos (f := 1) (pc2 := 220) (ls2 := [(0, .ref 4)]) (st2 := [.int ((nI nx) + (1 : Int32)), .ref 4]) (h2 := h51x) (dc2 := dc) (ds2 := ds) 2 rfl ?_
                  rw [nI_1]
                  refine wq_putf rfl e52x rfl rfl rfl ?_
                  intro h55x e56x f57x l58x
                  have e56x : zat h55x 4 = some (.inr (.inr (.inr (4, [.int wr, .int wa, .ref 2, .int (nI ln), .int (nI (nx + 1)), .int 5, .int (nI nx), .int va, .int tld, .ref rd])))) := e56x
                  have hx : (adF tb ln (m + 1) nx kd sta va) = ((nx + 1), (5 : Int32), (nI nx), va) := by show (if _ then _ else _) = _; rw [if_pos b3x, if_pos b8x, if_pos b13x, if_pos b18x, if_neg (fun q => q b21x), if_pos b46x, if_pos b49x]
                  rw [hx]
                  exact wq_ret rfl rfl ⟨h55x, rfl, (wFr_tr (wFr_sub f6x (by simp)) (wFr_tr (wFr_sub f53x (by simp)) (wFr_sub f57x (by simp)))), by omega, e56x, (by (try dsimp only); omega)⟩
                · have q59x : (tb.getD ((nI nx)).toNatClampNeg 0).toInt = 59 := congrArg Int32.toInt b49x
                  refine wq_gos (f := 1) (pc2 := 210) (ls2 := [(0, .ref 4)]) (st2 := [.int 4, .ref 4]) (h2 := h4x) (dc2 := dc) (ds2 := ds) 2 rfl ?_
                  refine wq_putf rfl e5x rfl rfl rfl ?_
                  intro h60x e61x f62x l63x
                  have e61x : zat h60x 4 = some (.inr (.inr (.inr (4, [.int wr, .int wa, .ref 2, .int (nI ln), .int (nI nx), .int 4, .int (nI nx), .int va, .int tld, .ref rd])))) := e61x
                  refine wq_gos (f := 1) (pc2 := 215) (ls2 := [(0, .ref 4)]) (st2 := [.ref 4, .ref 4]) (h2 := h60x) (dc2 := dc) (ds2 := ds) 2 rfl ?_
                  refine wq_getf rfl e61x rfl rfl ?_
                  refine wq_gos (f := 1) (pc2 := 220) (ls2 := [(0, .ref 4)]) (st2 := [.int ((nI nx) + (1 : Int32)), .ref 4]) (h2 := h60x) (dc2 := dc) (ds2 := ds) 2 rfl ?_
                  rw [nI_1]
                  refine wq_putf rfl e61x rfl rfl rfl ?_
                  intro h64x e65x f66x l67x
                  have e65x : zat h64x 4 = some (.inr (.inr (.inr (4, [.int wr, .int wa, .ref 2, .int (nI ln), .int (nI (nx + 1)), .int 4, .int (nI nx), .int va, .int tld, .ref rd])))) := e65x
                  have hx : (adF tb ln (m + 1) nx kd sta va) = ((nx + 1), (4 : Int32), (nI nx), va) := by show (if _ then _ else _) = _; rw [if_pos b3x, if_pos b8x, if_pos b13x, if_pos b18x, if_neg (fun q => q b21x), if_pos b46x, if_neg (fun q => q b49x)]
                  rw [hx]
                  exact wq_ret rfl rfl ⟨h64x, rfl, (wFr_tr (wFr_sub f6x (by simp)) (wFr_tr (wFr_sub f62x (by simp)) (wFr_sub f66x (by simp)))), by omega, e65x, (by (try dsimp only); omega)⟩
              · have q68x : (rHas tb ln (nx + 1) (48 : Int32) (57 : Int32)).toInt ≠ 0 := fun q => b46x (Int32.toInt_inj.mp q)
                refine wq_gos (f := 1) (pc2 := 165) (ls2 := [(0, .ref 4)]) (st2 := [.ref 4, .ref 4]) (h2 := h4x) (dc2 := dc) (ds2 := ds) 2 rfl ?_
                refine wq_getf rfl e5x rfl rfl ?_
                refine wq_gos (f := 1) (pc2 := 170) (ls2 := [(0, .ref 4)]) (st2 := [.int ((nI nx) + (1 : Int32)), .ref 4]) (h2 := h4x) (dc2 := dc) (ds2 := ds) 2 rfl ?_
                rw [nI_1]
                refine wq_putf rfl e5x rfl rfl rfl ?_
                intro h69x e70x f71x l72x
                have e70x : zat h69x 4 = some (.inr (.inr (.inr (4, [.int wr, .int wa, .ref 2, .int (nI ln), .int (nI (nx + 1)), .int kd, .int (nI nx), .int va, .int tld, .ref rd])))) := e70x
                refine wq_gos (f := 1) (pc2 := 175) (ls2 := [(0, .ref 4)]) (st2 := [.int 3, .ref 4]) (h2 := h69x) (dc2 := dc) (ds2 := ds) 2 rfl ?_
                refine wq_putf rfl e70x rfl rfl rfl ?_
                intro h73x e74x f75x l76x
                have e74x : zat h73x 4 = some (.inr (.inr (.inr (4, [.int wr, .int wa, .ref 2, .int (nI ln), .int (nI (nx + 1)), .int 3, .int (nI nx), .int va, .int tld, .ref rd])))) := e74x
                refine wq_gos (f := 1) (pc2 := 180) (ls2 := [(0, .ref 4)]) (st2 := [.ref 4, .ref 4]) (h2 := h73x) (dc2 := dc) (ds2 := ds) 2 rfl ?_
                have e77x := (f75x.2 _ _ (wnc (by decide) wn0) (f71x.2 _ _ (wnc (by decide) wn0) e9x))
                refine wq_inlv (y2 := 60) (as := []) rfl rfl rfl e74x rfl (wq_mono (c_td e74x e77x (by first | omega | assumption | decide) (by first | omega | assumption | decide)) ?_)
                rintro _ ⟨h878x, rfl, f878x, l878x, c078x, p078x⟩
                show wq 58 183 [(0, .ref 4)] [.int ((tdG tb ln (nx + 1)).1), .ref 4] h878x dc ds _
                obtain ⟨v79x, hv80x⟩ : ∃ x, x = (tdG tb ln (nx + 1)) := ⟨_, rfl⟩
                try rw [← hv80x] at c078x
                try rw [← hv80x] at p078x
                try rw [← hv80x]
                refine wq_gos (f := 1) (pc2 := 184) (ls2 := [(0, .ref 4)]) (st2 := [.int (-(v79x.1)), .ref 4]) (h2 := h878x) (dc2 := dc) (ds2 := ds) 1 rfl ?_
                refine wq_putf rfl c078x rfl rfl rfl ?_
                intro h81x e82x f83x l84x
                have e82x : zat h81x 4 = some (.inr (.inr (.inr (4, [.int wr, .int wa, .ref 2, .int (nI ln), .int (nI (v79x.2)), .int (3 : Int32), .int (nI nx), .int (-(v79x.1)), .int tld, .ref rd])))) := e82x
                refine wq_gos (f := 1) (pc2 := 223) (ls2 := [(0, .ref 4)]) (st2 := []) (h2 := h81x) (dc2 := dc) (ds2 := ds) 1 rfl ?_
                have hx : (adF tb ln (m + 1) nx kd sta va) = ((v79x.2), (3 : Int32), (nI nx), (-(v79x.1))) := by show (if _ then _ else _) = _; rw [if_pos b3x, if_pos b8x, if_pos b13x, if_pos b18x, if_neg (fun q => q b21x), if_neg b46x, zlet_eq hv80x]
                rw [hx]
                exact wq_ret rfl rfl ⟨h81x, rfl, (wFr_tr (wFr_sub f6x (by simp)) (wFr_tr (wFr_sub f71x (by simp)) (wFr_tr (wFr_sub f75x (by simp)) (wFr_tr (wFr_sub f878x (by simp)) (wFr_sub f83x (by simp)))))), by omega, e82x, (by (try dsimp only); omega)⟩
          · have q85x : (rHas tb ln nx (48 : Int32) (57 : Int32)).toInt ≠ 0 := fun q => b18x (Int32.toInt_inj.mp q)
            refine wq_gos (f := 1) (pc2 := 118) (ls2 := [(0, .ref 4)]) (st2 := [.int 2, .ref 4]) (h2 := h4x) (dc2 := dc) (ds2 := ds) 2 rfl ?_
            refine wq_putf rfl e5x rfl rfl rfl ?_
            intro h86x e87x f88x l89x
            have e87x : zat h86x 4 = some (.inr (.inr (.inr (4, [.int wr, .int wa, .ref 2, .int (nI ln), .int (nI nx), .int 2, .int (nI nx), .int va, .int tld, .ref rd])))) := e87x
            refine wq_gos (f := 1) (pc2 := 123) (ls2 := [(0, .ref 4)]) (st2 := [.ref 4, .ref 4]) (h2 := h86x) (dc2 := dc) (ds2 := ds) 2 rfl ?_
            have e90x := (f88x.2 _ _ (wnc (by decide) wn0) e9x)
            refine wq_inlv (y2 := 60) (as := []) rfl rfl rfl e87x rfl (wq_mono (c_td e87x e90x (by first | omega | assumption | decide) (by first | omega | assumption | decide)) ?_)
            rintro _ ⟨h891x, rfl, f891x, l891x, c091x, p091x⟩
            show wq 58 126 [(0, .ref 4)] [.int ((tdG tb ln nx).1), .ref 4] h891x dc ds _
            obtain ⟨v92x, hv93x⟩ : ∃ x, x = (tdG tb ln nx) := ⟨_, rfl⟩
            try rw [← hv93x] at c091x
            try rw [← hv93x] at p091x
            try rw [← hv93x]
            refine wq_putf rfl c091x rfl rfl rfl ?_
            intro h94x e95x f96x l97x
            have e95x : zat h94x 4 = some (.inr (.inr (.inr (4, [.int wr, .int wa, .ref 2, .int (nI ln), .int (nI (v92x.2)), .int (2 : Int32), .int (nI nx), .int (v92x.1), .int tld, .ref rd])))) := e95x
            refine wq_gos (f := 1) (pc2 := 223) (ls2 := [(0, .ref 4)]) (st2 := []) (h2 := h94x) (dc2 := dc) (ds2 := ds) 1 rfl ?_
            have hx : (adF tb ln (m + 1) nx kd sta va) = ((v92x.2), (2 : Int32), (nI nx), (v92x.1)) := by show (if _ then _ else _) = _; rw [if_pos b3x, if_pos b8x, if_pos b13x, if_neg b18x, zlet_eq hv93x]
            rw [hx]
            exact wq_ret rfl rfl ⟨h94x, rfl, (wFr_tr (wFr_sub f6x (by simp)) (wFr_tr (wFr_sub f88x (by simp)) (wFr_tr (wFr_sub f891x (by simp)) (wFr_sub f96x (by simp))))), by omega, e95x, (by (try dsimp only); omega)⟩
        · have q98x : (rHas tb ln nx (97 : Int32) (122 : Int32)).toInt ≠ 0 := fun q => b13x (Int32.toInt_inj.mp q)
          refine wq_gos (f := 1) (pc2 := 95) (ls2 := [(0, .ref 4)]) (st2 := [.ref 4]) (h2 := h4x) (dc2 := dc) (ds2 := ds) 1 rfl ?_
          refine wq_inlv (y2 := 59) (as := []) rfl rfl rfl e5x rfl (wq_mono (c_tw e5x e9x (by first | omega | assumption | decide) (by first | omega | assumption | decide)) ?_)
          rintro _ ⟨h899x, rfl, f899x, l899x, c099x, p099x⟩
          show wq 58 98 [(0, .ref 4)] [] h899x dc ds _
          obtain ⟨v100x, hv101x⟩ : ∃ x, x = (twG tb ln nx kd) := ⟨_, rfl⟩
          try rw [← hv101x] at c099x
          try rw [← hv101x] at p099x
          try rw [← hv101x]
          refine wq_gos (f := 1) (pc2 := 223) (ls2 := [(0, .ref 4)]) (st2 := []) (h2 := h899x) (dc2 := dc) (ds2 := ds) 1 rfl ?_
          have hx : (adF tb ln (m + 1) nx kd sta va) = ((v100x.2.1), (v100x.2.2), (nI nx), (v100x.1)) := by show (if _ then _ else _) = _; rw [if_pos b3x, if_pos b8x, if_neg b13x, zlet_eq hv101x]
          rw [hx]
          exact wq_ret rfl rfl ⟨h899x, rfl, (wFr_tr (wFr_sub f6x (by simp)) (wFr_sub f899x (by simp))), by omega, c099x, (by (try dsimp only); omega)⟩
      · refine wq_gos (f := 1) (pc2 := 73) (ls2 := [(0, .ref 4)]) (st2 := [.int 0, .ref 4]) (h2 := h4x) (dc2 := dc) (ds2 := ds) 2 rfl ?_
        refine wq_putf rfl e5x rfl rfl rfl ?_
        intro h102x e103x f104x l105x
        have e103x : zat h102x 4 = some (.inr (.inr (.inr (4, [.int wr, .int wa, .ref 2, .int (nI ln), .int (nI nx), .int 0, .int (nI nx), .int va, .int tld, .ref rd])))) := e103x
        refine wq_gos (f := 1) (pc2 := 223) (ls2 := [(0, .ref 4)]) (st2 := []) (h2 := h102x) (dc2 := dc) (ds2 := ds) 1 rfl ?_
        have hx : (adF tb ln (m + 1) nx kd sta va) = (nx, (0 : Int32), (nI nx), va) := by show (if _ then _ else _) = _; rw [if_pos b3x, if_neg (Int.not_lt.mpr b8x)]
        rw [hx]
        exact wq_ret rfl rfl ⟨h102x, rfl, (wFr_tr (wFr_sub f6x (by simp)) (wFr_sub f104x (by simp))), by omega, e103x, (by (try dsimp only); omega)⟩
    · refine wq_gos (f := 1) (pc2 := 12) (ls2 := [(0, .ref 4)]) (st2 := [.ref 4]) (h2 := h) (dc2 := dc) (ds2 := ds) 1 rfl ?_
      refine wq_getf rfl hR rfl rfl ?_
      refine wq_gos (f := 1) (pc2 := 16) (ls2 := [(0, .ref 4)]) (st2 := [.ref 4, .ref 2]) (h2 := h) (dc2 := dc) (ds2 := ds) 1 rfl ?_
      refine wq_getf rfl hR rfl rfl ?_
      refine wq_bald 1 (Or.inl rfl) rfl hT (by first | omega | exact zin_t (by omega) (by omega)) rfl ?_
      refine wq_gos (f := 1) (pc2 := 22) (ls2 := [(0, .ref 4)]) (st2 := [.int 32, .int (tb.getD ((nI nx)).toNatClampNeg 0)]) (h2 := h) (dc2 := dc) (ds2 := ds) 1 rfl ?_
      have q106x : (32 : Int32).toInt = 32 := rfl
      refine wq_eq2 rfl rfl (fun b107x => ?_) (fun b107x => ?_)
      · have q108x : (tb.getD ((nI nx)).toNatClampNeg 0).toInt = 32 := congrArg Int32.toInt b107x
        refine wq_gos (f := 1) (pc2 := 41) (ls2 := [(0, .ref 4)]) (st2 := [.ref 4, .ref 4]) (h2 := h) (dc2 := dc) (ds2 := ds) 2 rfl ?_
        refine wq_getf rfl hR rfl rfl ?_
        refine wq_gos (f := 1) (pc2 := 46) (ls2 := [(0, .ref 4)]) (st2 := [.int ((nI nx) + (1 : Int32)), .ref 4]) (h2 := h) (dc2 := dc) (ds2 := ds) 2 rfl ?_
        rw [nI_1]
        refine wq_putf rfl hR rfl rfl rfl ?_
        intro h109x e110x f111x l112x
        have e110x : zat h109x 4 = some (.inr (.inr (.inr (4, [.int wr, .int wa, .ref 2, .int (nI ln), .int (nI (nx + 1)), .int kd, .int sta, .int va, .int tld, .ref rd])))) := e110x
        refine wq_gos (f := 1) (pc2 := 0) (ls2 := [(0, .ref 4)]) (st2 := []) (h2 := h109x) (dc2 := dc) (ds2 := ds) 1 rfl ?_
        have e113x := (f111x.2 _ _ (wnc (by decide) wn0) hT)
        have hx : (adF tb ln (m + 1) nx kd sta va) = (adF tb ln m (nx + 1) kd sta va) := by show (if _ then _ else _) = _; rw [if_neg (Int.not_le.mpr b3x), if_pos b107x]
        rw [hx]
        refine wq_ls [(0, .ref 4)] (show ([0] : List Nat).Nodup by decide) ⟨rfl, trivial⟩ ?_
        refine wq_mono (ih (nx + 1) kd sta va h109x e110x e113x (by first | omega | assumption | decide) (by omega) dc ds) ?_
        rintro _ ⟨h9, rfl, f9, l9, y0, y1⟩
        exact ⟨h9, rfl, wFr_tr (wFr_sub f111x (by simp)) f9, by omega, y0, y1⟩
      · have q114x : (tb.getD ((nI nx)).toNatClampNeg 0).toInt ≠ 32 := fun q => b107x (Int32.toInt_inj.mp q)
        refine wq_gos (f := 1) (pc2 := 26) (ls2 := [(0, .ref 4)]) (st2 := [.ref 4]) (h2 := h) (dc2 := dc) (ds2 := ds) 1 rfl ?_
        refine wq_getf rfl hR rfl rfl ?_
        refine wq_gos (f := 1) (pc2 := 30) (ls2 := [(0, .ref 4)]) (st2 := [.ref 4, .ref 2]) (h2 := h) (dc2 := dc) (ds2 := ds) 1 rfl ?_
        refine wq_getf rfl hR rfl rfl ?_
        refine wq_bald 1 (Or.inl rfl) rfl hT (by first | omega | exact zin_t (by omega) (by omega)) rfl ?_
        refine wq_gos (f := 1) (pc2 := 36) (ls2 := [(0, .ref 4)]) (st2 := [.int 10, .int (tb.getD ((nI nx)).toNatClampNeg 0)]) (h2 := h) (dc2 := dc) (ds2 := ds) 1 rfl ?_
        have q115x : (10 : Int32).toInt = 10 := rfl
        refine wq_ne2 rfl rfl (fun b116x => ?_) (fun b116x => ?_)
        · have q117x : (tb.getD ((nI nx)).toNatClampNeg 0).toInt ≠ 10 := fun q => b116x (Int32.toInt_inj.mp q)
          refine wq_gos (f := 1) (pc2 := 54) (ls2 := [(0, .ref 4)]) (st2 := [.ref 4, .ref 4]) (h2 := h) (dc2 := dc) (ds2 := ds) 2 rfl ?_
          refine wq_getf rfl hR rfl rfl ?_
          refine wq_putf rfl hR rfl rfl rfl ?_
          intro h118x e119x f120x l121x
          have e119x : zat h118x 4 = some (.inr (.inr (.inr (4, [.int wr, .int wa, .ref 2, .int (nI ln), .int (nI nx), .int kd, .int (nI nx), .int va, .int tld, .ref rd])))) := e119x
          refine wq_gos (f := 1) (pc2 := 61) (ls2 := [(0, .ref 4)]) (st2 := [.ref 4]) (h2 := h118x) (dc2 := dc) (ds2 := ds) 1 rfl ?_
          refine wq_getf rfl e119x rfl rfl ?_
          refine wq_gos (f := 1) (pc2 := 65) (ls2 := [(0, .ref 4)]) (st2 := [.ref 4, .int (nI nx)]) (h2 := h118x) (dc2 := dc) (ds2 := ds) 1 rfl ?_
          refine wq_getf rfl e119x rfl rfl ?_
          refine wq_lt2 rfl rfl (fun b122x => ?_) (fun b122x => ?_)
          · refine wq_gos (f := 1) (pc2 := 81) (ls2 := [(0, .ref 4)]) (st2 := [.ref 4, .ref 4]) (h2 := h118x) (dc2 := dc) (ds2 := ds) 2 rfl ?_
            refine wq_getf rfl e119x rfl rfl ?_
            refine wq_gos (f := 1) (pc2 := 88) (ls2 := [(0, .ref 4)]) (st2 := [.int 122, .int 97, .int (nI nx), .ref 4]) (h2 := h118x) (dc2 := dc) (ds2 := ds) 2 rfl ?_
            have e123x := (f120x.2 _ _ (wnc (by decide) wn0) hT)
            have q124x : (97 : Int32).toInt = 97 := rfl
            have q125x : (122 : Int32).toInt = 122 := rfl
            refine wq_inlv (y2 := 57) (as := [.int (nI nx), .int 97, .int 122]) rfl rfl rfl e119x rfl (wq_mono (c_has e119x e123x (by first | omega | assumption | decide) (by first | omega | assumption | decide)) ?_)
            rintro _ rfl
            show wq 58 91 [(0, .ref 4)] [.int (rHas tb ln nx (97 : Int32) (122 : Int32))] h118x dc ds _
            refine wq_eq0 rfl rfl (fun b127x => ?_) (fun b127x => ?_)
            · have q128x : (rHas tb ln nx (97 : Int32) (122 : Int32)).toInt = 0 := congrArg Int32.toInt b127x
              refine wq_gos (f := 1) (pc2 := 103) (ls2 := [(0, .ref 4)]) (st2 := [.ref 4, .ref 4]) (h2 := h118x) (dc2 := dc) (ds2 := ds) 2 rfl ?_
              refine wq_getf rfl e119x rfl rfl ?_
              refine wq_gos (f := 1) (pc2 := 110) (ls2 := [(0, .ref 4)]) (st2 := [.int 57, .int 48, .int (nI nx), .ref 4]) (h2 := h118x) (dc2 := dc) (ds2 := ds) 2 rfl ?_
              have q129x : (48 : Int32).toInt = 48 := rfl
              have q130x : (57 : Int32).toInt = 57 := rfl
              refine wq_inlv (y2 := 57) (as := [.int (nI nx), .int 48, .int 57]) rfl rfl rfl e119x rfl (wq_mono (c_has e119x e123x (by first | omega | assumption | decide) (by first | omega | assumption | decide)) ?_)
              rintro _ rfl
              show wq 58 113 [(0, .ref 4)] [.int (rHas tb ln nx (48 : Int32) (57 : Int32))] h118x dc ds _
              refine wq_eq0 rfl rfl (fun b132x => ?_) (fun b132x => ?_)
              · have q133x : (rHas tb ln nx (48 : Int32) (57 : Int32)).toInt = 0 := congrArg Int32.toInt b132x
                refine wq_gos (f := 1) (pc2 := 133) (ls2 := [(0, .ref 4)]) (st2 := [.ref 4]) (h2 := h118x) (dc2 := dc) (ds2 := ds) 1 rfl ?_
                refine wq_getf rfl e119x rfl rfl ?_
                refine wq_gos (f := 1) (pc2 := 137) (ls2 := [(0, .ref 4)]) (st2 := [.ref 4, .ref 2]) (h2 := h118x) (dc2 := dc) (ds2 := ds) 1 rfl ?_
                refine wq_getf rfl e119x rfl rfl ?_
                refine wq_bald 1 (Or.inl rfl) rfl e123x (by first | omega | exact zin_t (by omega) (by omega)) rfl ?_
                refine wq_gos (f := 1) (pc2 := 143) (ls2 := [(0, .ref 4)]) (st2 := [.int 45, .int (tb.getD ((nI nx)).toNatClampNeg 0)]) (h2 := h118x) (dc2 := dc) (ds2 := ds) 1 rfl ?_
                have q134x : (45 : Int32).toInt = 45 := rfl
                refine wq_ne2 rfl rfl (fun b135x => ?_) (fun b135x => ?_)
                · have q136x : (tb.getD ((nI nx)).toNatClampNeg 0).toInt ≠ 45 := fun q => b135x (Int32.toInt_inj.mp q)
                  refine wq_gos (f := 1) (pc2 := 192) (ls2 := [(0, .ref 4)]) (st2 := [.ref 4, .ref 4]) (h2 := h118x) (dc2 := dc) (ds2 := ds) 2 rfl ?_
                  refine wq_getf rfl e119x rfl rfl ?_
                  refine wq_gos (f := 1) (pc2 := 196) (ls2 := [(0, .ref 4)]) (st2 := [.ref 4, .ref 2, .ref 4]) (h2 := h118x) (dc2 := dc) (ds2 := ds) 1 rfl ?_
                  refine wq_getf rfl e119x rfl rfl ?_
                  refine wq_bald 1 (Or.inl rfl) rfl e123x (by first | omega | exact zin_t (by omega) (by omega)) rfl ?_
                  refine wq_gos (f := 1) (pc2 := 202) (ls2 := [(0, .ref 4)]) (st2 := [.int 59, .int (tb.getD ((nI nx)).toNatClampNeg 0), .ref 4]) (h2 := h118x) (dc2 := dc) (ds2 := ds) 1 rfl ?_
                  have q137x : (59 : Int32).toInt = 59 := rfl
                  refine wq_ne2 rfl rfl (fun b138x => ?_) (fun b138x => ?_)
                  · have q139x : (tb.getD ((nI nx)).toNatClampNeg 0).toInt ≠ 59 := fun q => b138x (Int32.toInt_inj.mp q)
                    refine wq_gos (f := 1) (pc2 := 210) (ls2 := [(0, .ref 4)]) (st2 := [.int 5, .ref 4]) (h2 := h118x) (dc2 := dc) (ds2 := ds) 1 rfl ?_
                    refine wq_putf rfl e119x rfl rfl rfl ?_
                    intro h140x e141x f142x l143x
                    have e141x : zat h140x 4 = some (.inr (.inr (.inr (4, [.int wr, .int wa, .ref 2, .int (nI ln), .int (nI nx), .int 5, .int (nI nx), .int va, .int tld, .ref rd])))) := e141x
                    refine wq_gos (f := 1) (pc2 := 215) (ls2 := [(0, .ref 4)]) (st2 := [.ref 4, .ref 4]) (h2 := h140x) (dc2 := dc) (ds2 := ds) 2 rfl ?_
                    refine wq_getf rfl e141x rfl rfl ?_
                    refine wq_gos (f := 1) (pc2 := 220) (ls2 := [(0, .ref 4)]) (st2 := [.int ((nI nx) + (1 : Int32)), .ref 4]) (h2 := h140x) (dc2 := dc) (ds2 := ds) 2 rfl ?_
                    rw [nI_1]
                    refine wq_putf rfl e141x rfl rfl rfl ?_
                    intro h144x e145x f146x l147x
                    have e145x : zat h144x 4 = some (.inr (.inr (.inr (4, [.int wr, .int wa, .ref 2, .int (nI ln), .int (nI (nx + 1)), .int 5, .int (nI nx), .int va, .int tld, .ref rd])))) := e145x
                    have hx : (adF tb ln (m + 1) nx kd sta va) = ((nx + 1), (5 : Int32), (nI nx), va) := by show (if _ then _ else _) = _; rw [if_neg (Int.not_le.mpr b3x), if_neg b107x, if_pos b116x, if_pos b122x, if_pos b127x, if_pos b132x, if_pos b135x, if_pos b138x]
                    rw [hx]
                    exact wq_ret rfl rfl ⟨h144x, rfl, (wFr_tr (wFr_sub f120x (by simp)) (wFr_tr (wFr_sub f142x (by simp)) (wFr_sub f146x (by simp)))), by omega, e145x, (by (try dsimp only); omega)⟩
                  · have q148x : (tb.getD ((nI nx)).toNatClampNeg 0).toInt = 59 := congrArg Int32.toInt b138x
                    refine wq_gos (f := 1) (pc2 := 210) (ls2 := [(0, .ref 4)]) (st2 := [.int 4, .ref 4]) (h2 := h118x) (dc2 := dc) (ds2 := ds) 2 rfl ?_
                    refine wq_putf rfl e119x rfl rfl rfl ?_
                    intro h149x e150x f151x l152x
                    have e150x : zat h149x 4 = some (.inr (.inr (.inr (4, [.int wr, .int wa, .ref 2, .int (nI ln), .int (nI nx), .int 4, .int (nI nx), .int va, .int tld, .ref rd])))) := e150x
                    refine wq_gos (f := 1) (pc2 := 215) (ls2 := [(0, .ref 4)]) (st2 := [.ref 4, .ref 4]) (h2 := h149x) (dc2 := dc) (ds2 := ds) 2 rfl ?_
                    refine wq_getf rfl e150x rfl rfl ?_
                    refine wq_gos (f := 1) (pc2 := 220) (ls2 := [(0, .ref 4)]) (st2 := [.int ((nI nx) + (1 : Int32)), .ref 4]) (h2 := h149x) (dc2 := dc) (ds2 := ds) 2 rfl ?_
                    rw [nI_1]
                    refine wq_putf rfl e150x rfl rfl rfl ?_
                    intro h153x e154x f155x l156x
                    have e154x : zat h153x 4 = some (.inr (.inr (.inr (4, [.int wr, .int wa, .ref 2, .int (nI ln), .int (nI (nx + 1)), .int 4, .int (nI nx), .int va, .int tld, .ref rd])))) := e154x
                    have hx : (adF tb ln (m + 1) nx kd sta va) = ((nx + 1), (4 : Int32), (nI nx), va) := by show (if _ then _ else _) = _; rw [if_neg (Int.not_le.mpr b3x), if_neg b107x, if_pos b116x, if_pos b122x, if_pos b127x, if_pos b132x, if_pos b135x, if_neg (fun q => q b138x)]
                    rw [hx]
                    exact wq_ret rfl rfl ⟨h153x, rfl, (wFr_tr (wFr_sub f120x (by simp)) (wFr_tr (wFr_sub f151x (by simp)) (wFr_sub f155x (by simp)))), by omega, e154x, (by (try dsimp only); omega)⟩
                · have q157x : (tb.getD ((nI nx)).toNatClampNeg 0).toInt = 45 := congrArg Int32.toInt b135x
                  refine wq_gos (f := 1) (pc2 := 148) (ls2 := [(0, .ref 4)]) (st2 := [.ref 4, .ref 4]) (h2 := h118x) (dc2 := dc) (ds2 := ds) 2 rfl ?_
                  refine wq_getf rfl e119x rfl rfl ?_
                  refine wq_gos (f := 1) (pc2 := 153) (ls2 := [(0, .ref 4)]) (st2 := [.int ((nI nx) + (1 : Int32)), .ref 4]) (h2 := h118x) (dc2 := dc) (ds2 := ds) 2 rfl ?_
                  rw [nI_1]
                  refine wq_gos (f := 1) (pc2 := 157) (ls2 := [(0, .ref 4)]) (st2 := [.int 57, .int 48, .int (nI (nx + 1)), .ref 4]) (h2 := h118x) (dc2 := dc) (ds2 := ds) 2 rfl ?_
                  try have q158x := nI_toInt (n := (nx + 1)) (by omega)
                  refine wq_inlv (y2 := 57) (as := [.int (nI (nx + 1)), .int 48, .int 57]) rfl rfl rfl e119x rfl (wq_mono (c_has e119x e123x (by first | omega | assumption | decide) (by first | omega | assumption | decide)) ?_)
                  rintro _ rfl
                  show wq 58 160 [(0, .ref 4)] [.int (rHas tb ln (nx + 1) (48 : Int32) (57 : Int32))] h118x dc ds _
                  refine wq_eq0 rfl rfl (fun b160x => ?_) (fun b160x => ?_)
                  · have q161x : (rHas tb ln (nx + 1) (48 : Int32) (57 : Int32)).toInt = 0 := congrArg Int32.toInt b160x
                    refine wq_gos (f := 1) (pc2 := 192) (ls2 := [(0, .ref 4)]) (st2 := [.ref 4, .ref 4]) (h2 := h118x) (dc2 := dc) (ds2 := ds) 2 rfl ?_
                    refine wq_getf rfl e119x rfl rfl ?_
                    refine wq_gos (f := 1) (pc2 := 196) (ls2 := [(0, .ref 4)]) (st2 := [.ref 4, .ref 2, .ref 4]) (h2 := h118x) (dc2 := dc) (ds2 := ds) 1 rfl ?_
                    refine wq_getf rfl e119x rfl rfl ?_
                    refine wq_bald 1 (Or.inl rfl) rfl e123x (by first | omega | exact zin_t (by omega) (by omega)) rfl ?_
                    refine wq_gos (f := 1) (pc2 := 202) (ls2 := [(0, .ref 4)]) (st2 := [.int 59, .int (tb.getD ((nI nx)).toNatClampNeg 0), .ref 4]) (h2 := h118x) (dc2 := dc) (ds2 := ds) 1 rfl ?_
                    have q162x : (59 : Int32).toInt = 59 := rfl
                    refine wq_ne2 rfl rfl (fun b163x => ?_) (fun b163x => ?_)
                    · have q164x : (tb.getD ((nI nx)).toNatClampNeg 0).toInt ≠ 59 := fun q => b163x (Int32.toInt_inj.mp q)
                      refine wq_gos (f := 1) (pc2 := 210) (ls2 := [(0, .ref 4)]) (st2 := [.int 5, .ref 4]) (h2 := h118x) (dc2 := dc) (ds2 := ds) 1 rfl ?_
                      refine wq_putf rfl e119x rfl rfl rfl ?_
                      intro h165x e166x f167x l168x
                      have e166x : zat h165x 4 = some (.inr (.inr (.inr (4, [.int wr, .int wa, .ref 2, .int (nI ln), .int (nI nx), .int 5, .int (nI nx), .int va, .int tld, .ref rd])))) := e166x
                      refine wq_gos (f := 1) (pc2 := 215) (ls2 := [(0, .ref 4)]) (st2 := [.ref 4, .ref 4]) (h2 := h165x) (dc2 := dc) (ds2 := ds) 2 rfl ?_
                      refine wq_getf rfl e166x rfl rfl ?_
                      refine wq_gos (f := 1) (pc2 := 220) (ls2 := [(0, .ref 4)]) (st2 := [.int ((nI nx) + (1 : Int32)), .ref 4]) (h2 := h165x) (dc2 := dc) (ds2 := ds) 2 rfl ?_
                      rw [nI_1]
                      refine wq_putf rfl e166x rfl rfl rfl ?_
                      intro h169x e170x f171x l172x
                      have e170x : zat h169x 4 = some (.inr (.inr (.inr (4, [.int wr, .int wa, .ref 2, .int (nI ln), .int (nI (nx + 1)), .int 5, .int (nI nx), .int va, .int tld, .ref rd])))) := e170x
                      have hx : (adF tb ln (m + 1) nx kd sta va) = ((nx + 1), (5 : Int32), (nI nx), va) := by show (if _ then _ else _) = _; rw [if_neg (Int.not_le.mpr b3x), if_neg b107x, if_pos b116x, if_pos b122x, if_pos b127x, if_pos b132x, if_neg (fun q => q b135x), if_pos b160x, if_pos b163x]
                      rw [hx]
                      exact wq_ret rfl rfl ⟨h169x, rfl, (wFr_tr (wFr_sub f120x (by simp)) (wFr_tr (wFr_sub f167x (by simp)) (wFr_sub f171x (by simp)))), by omega, e170x, (by (try dsimp only); omega)⟩
                    · have q173x : (tb.getD ((nI nx)).toNatClampNeg 0).toInt = 59 := congrArg Int32.toInt b163x
                      refine wq_gos (f := 1) (pc2 := 210) (ls2 := [(0, .ref 4)]) (st2 := [.int 4, .ref 4]) (h2 := h118x) (dc2 := dc) (ds2 := ds) 2 rfl ?_
                      refine wq_putf rfl e119x rfl rfl rfl ?_
                      intro h174x e175x f176x l177x
                      have e175x : zat h174x 4 = some (.inr (.inr (.inr (4, [.int wr, .int wa, .ref 2, .int (nI ln), .int (nI nx), .int 4, .int (nI nx), .int va, .int tld, .ref rd])))) := e175x
                      refine wq_gos (f := 1) (pc2 := 215) (ls2 := [(0, .ref 4)]) (st2 := [.ref 4, .ref 4]) (h2 := h174x) (dc2 := dc) (ds2 := ds) 2 rfl ?_
                      refine wq_getf rfl e175x rfl rfl ?_
                      refine wq_gos (f := 1) (pc2 := 220) (ls2 := [(0, .ref 4)]) (st2 := [.int ((nI nx) + (1 : Int32)), .ref 4]) (h2 := h174x) (dc2 := dc) (ds2 := ds) 2 rfl ?_
                      rw [nI_1]
                      refine wq_putf rfl e175x rfl rfl rfl ?_
                      intro h178x e179x f180x l181x
                      have e179x : zat h178x 4 = some (.inr (.inr (.inr (4, [.int wr, .int wa, .ref 2, .int (nI ln), .int (nI (nx + 1)), .int 4, .int (nI nx), .int va, .int tld, .ref rd])))) := e179x
                      have hx : (adF tb ln (m + 1) nx kd sta va) = ((nx + 1), (4 : Int32), (nI nx), va) := by show (if _ then _ else _) = _; rw [if_neg (Int.not_le.mpr b3x), if_neg b107x, if_pos b116x, if_pos b122x, if_pos b127x, if_pos b132x, if_neg (fun q => q b135x), if_pos b160x, if_neg (fun q => q b163x)]
                      rw [hx]
                      exact wq_ret rfl rfl ⟨h178x, rfl, (wFr_tr (wFr_sub f120x (by simp)) (wFr_tr (wFr_sub f176x (by simp)) (wFr_sub f180x (by simp)))), by omega, e179x, (by (try dsimp only); omega)⟩
                  · have q182x : (rHas tb ln (nx + 1) (48 : Int32) (57 : Int32)).toInt ≠ 0 := fun q => b160x (Int32.toInt_inj.mp q)
                    refine wq_gos (f := 1) (pc2 := 165) (ls2 := [(0, .ref 4)]) (st2 := [.ref 4, .ref 4]) (h2 := h118x) (dc2 := dc) (ds2 := ds) 2 rfl ?_
                    refine wq_getf rfl e119x rfl rfl ?_
                    refine wq_gos (f := 1) (pc2 := 170) (ls2 := [(0, .ref 4)]) (st2 := [.int ((nI nx) + (1 : Int32)), .ref 4]) (h2 := h118x) (dc2 := dc) (ds2 := ds) 2 rfl ?_
                    rw [nI_1]
                    refine wq_putf rfl e119x rfl rfl rfl ?_
                    intro h183x e184x f185x l186x
                    have e184x : zat h183x 4 = some (.inr (.inr (.inr (4, [.int wr, .int wa, .ref 2, .int (nI ln), .int (nI (nx + 1)), .int kd, .int (nI nx), .int va, .int tld, .ref rd])))) := e184x
                    refine wq_gos (f := 1) (pc2 := 175) (ls2 := [(0, .ref 4)]) (st2 := [.int 3, .ref 4]) (h2 := h183x) (dc2 := dc) (ds2 := ds) 2 rfl ?_
                    refine wq_putf rfl e184x rfl rfl rfl ?_
                    intro h187x e188x f189x l190x
                    have e188x : zat h187x 4 = some (.inr (.inr (.inr (4, [.int wr, .int wa, .ref 2, .int (nI ln), .int (nI (nx + 1)), .int 3, .int (nI nx), .int va, .int tld, .ref rd])))) := e188x
                    refine wq_gos (f := 1) (pc2 := 180) (ls2 := [(0, .ref 4)]) (st2 := [.ref 4, .ref 4]) (h2 := h187x) (dc2 := dc) (ds2 := ds) 2 rfl ?_
                    have e191x := (f189x.2 _ _ (wnc (by decide) wn0) (f185x.2 _ _ (wnc (by decide) wn0) e123x))
                    refine wq_inlv (y2 := 60) (as := []) rfl rfl rfl e188x rfl (wq_mono (c_td e188x e191x (by first | omega | assumption | decide) (by first | omega | assumption | decide)) ?_)
                    rintro _ ⟨h8192x, rfl, f8192x, l8192x, c0192x, p0192x⟩
                    show wq 58 183 [(0, .ref 4)] [.int ((tdG tb ln (nx + 1)).1), .ref 4] h8192x dc ds _
                    obtain ⟨v193x, hv194x⟩ : ∃ x, x = (tdG tb ln (nx + 1)) := ⟨_, rfl⟩
                    try rw [← hv194x] at c0192x
                    try rw [← hv194x] at p0192x
                    try rw [← hv194x]
                    refine wq_gos (f := 1) (pc2 := 184) (ls2 := [(0, .ref 4)]) (st2 := [.int (-(v193x.1)), .ref 4]) (h2 := h8192x) (dc2 := dc) (ds2 := ds) 1 rfl ?_
                    refine wq_putf rfl c0192x rfl rfl rfl ?_
                    intro h195x e196x f197x l198x
                    have e196x : zat h195x 4 = some (.inr (.inr (.inr (4, [.int wr, .int wa, .ref 2, .int (nI ln), .int (nI (v193x.2)), .int (3 : Int32), .int (nI nx), .int (-(v193x.1)), .int tld, .ref rd])))) := e196x
                    refine wq_gos (f := 1) (pc2 := 223) (ls2 := [(0, .ref 4)]) (st2 := []) (h2 := h195x) (dc2 := dc) (ds2 := ds) 1 rfl ?_
                    have hx : (adF tb ln (m + 1) nx kd sta va) = ((v193x.2), (3 : Int32), (nI nx), (-(v193x.1))) := by show (if _ then _ else _) = _; rw [if_neg (Int.not_le.mpr b3x), if_neg b107x, if_pos b116x, if_pos b122x, if_pos b127x, if_pos b132x, if_neg (fun q => q b135x), if_neg b160x, zlet_eq hv194x]
                    rw [hx]
                    exact wq_ret rfl rfl ⟨h195x, rfl, (wFr_tr (wFr_sub f120x (by simp)) (wFr_tr (wFr_sub f185x (by simp)) (wFr_tr (wFr_sub f189x (by simp)) (wFr_tr (wFr_sub f8192x (by simp)) (wFr_sub f197x (by simp)))))), by omega, e196x, (by (try dsimp only); omega)⟩
              · have q199x : (rHas tb ln nx (48 : Int32) (57 : Int32)).toInt ≠ 0 := fun q => b132x (Int32.toInt_inj.mp q)
                refine wq_gos (f := 1) (pc2 := 118) (ls2 := [(0, .ref 4)]) (st2 := [.int 2, .ref 4]) (h2 := h118x) (dc2 := dc) (ds2 := ds) 2 rfl ?_
                refine wq_putf rfl e119x rfl rfl rfl ?_
                intro h200x e201x f202x l203x
                have e201x : zat h200x 4 = some (.inr (.inr (.inr (4, [.int wr, .int wa, .ref 2, .int (nI ln), .int (nI nx), .int 2, .int (nI nx), .int va, .int tld, .ref rd])))) := e201x
                refine wq_gos (f := 1) (pc2 := 123) (ls2 := [(0, .ref 4)]) (st2 := [.ref 4, .ref 4]) (h2 := h200x) (dc2 := dc) (ds2 := ds) 2 rfl ?_
                have e204x := (f202x.2 _ _ (wnc (by decide) wn0) e123x)
                refine wq_inlv (y2 := 60) (as := []) rfl rfl rfl e201x rfl (wq_mono (c_td e201x e204x (by first | omega | assumption | decide) (by first | omega | assumption | decide)) ?_)
                rintro _ ⟨h8205x, rfl, f8205x, l8205x, c0205x, p0205x⟩
                show wq 58 126 [(0, .ref 4)] [.int ((tdG tb ln nx).1), .ref 4] h8205x dc ds _
                obtain ⟨v206x, hv207x⟩ : ∃ x, x = (tdG tb ln nx) := ⟨_, rfl⟩
                try rw [← hv207x] at c0205x
                try rw [← hv207x] at p0205x
                try rw [← hv207x]
                refine wq_putf rfl c0205x rfl rfl rfl ?_
                intro h208x e209x f210x l211x
                have e209x : zat h208x 4 = some (.inr (.inr (.inr (4, [.int wr, .int wa, .ref 2, .int (nI ln), .int (nI (v206x.2)), .int (2 : Int32), .int (nI nx), .int (v206x.1), .int tld, .ref rd])))) := e209x
                refine wq_gos (f := 1) (pc2 := 223) (ls2 := [(0, .ref 4)]) (st2 := []) (h2 := h208x) (dc2 := dc) (ds2 := ds) 1 rfl ?_
                have hx : (adF tb ln (m + 1) nx kd sta va) = ((v206x.2), (2 : Int32), (nI nx), (v206x.1)) := by show (if _ then _ else _) = _; rw [if_neg (Int.not_le.mpr b3x), if_neg b107x, if_pos b116x, if_pos b122x, if_pos b127x, if_neg b132x, zlet_eq hv207x]
                rw [hx]
                exact wq_ret rfl rfl ⟨h208x, rfl, (wFr_tr (wFr_sub f120x (by simp)) (wFr_tr (wFr_sub f202x (by simp)) (wFr_tr (wFr_sub f8205x (by simp)) (wFr_sub f210x (by simp))))), by omega, e209x, (by (try dsimp only); omega)⟩
            · have q212x : (rHas tb ln nx (97 : Int32) (122 : Int32)).toInt ≠ 0 := fun q => b127x (Int32.toInt_inj.mp q)
              refine wq_gos (f := 1) (pc2 := 95) (ls2 := [(0, .ref 4)]) (st2 := [.ref 4]) (h2 := h118x) (dc2 := dc) (ds2 := ds) 1 rfl ?_
              refine wq_inlv (y2 := 59) (as := []) rfl rfl rfl e119x rfl (wq_mono (c_tw e119x e123x (by first | omega | assumption | decide) (by first | omega | assumption | decide)) ?_)
              rintro _ ⟨h8213x, rfl, f8213x, l8213x, c0213x, p0213x⟩
              show wq 58 98 [(0, .ref 4)] [] h8213x dc ds _
              obtain ⟨v214x, hv215x⟩ : ∃ x, x = (twG tb ln nx kd) := ⟨_, rfl⟩
              try rw [← hv215x] at c0213x
              try rw [← hv215x] at p0213x
              try rw [← hv215x]
              refine wq_gos (f := 1) (pc2 := 223) (ls2 := [(0, .ref 4)]) (st2 := []) (h2 := h8213x) (dc2 := dc) (ds2 := ds) 1 rfl ?_
              have hx : (adF tb ln (m + 1) nx kd sta va) = ((v214x.2.1), (v214x.2.2), (nI nx), (v214x.1)) := by show (if _ then _ else _) = _; rw [if_neg (Int.not_le.mpr b3x), if_neg b107x, if_pos b116x, if_pos b122x, if_neg b127x, zlet_eq hv215x]
              rw [hx]
              exact wq_ret rfl rfl ⟨h8213x, rfl, (wFr_tr (wFr_sub f120x (by simp)) (wFr_sub f8213x (by simp))), by omega, c0213x, (by (try dsimp only); omega)⟩
          · refine wq_gos (f := 1) (pc2 := 73) (ls2 := [(0, .ref 4)]) (st2 := [.int 0, .ref 4]) (h2 := h118x) (dc2 := dc) (ds2 := ds) 2 rfl ?_
            refine wq_putf rfl e119x rfl rfl rfl ?_
            intro h216x e217x f218x l219x
            have e217x : zat h216x 4 = some (.inr (.inr (.inr (4, [.int wr, .int wa, .ref 2, .int (nI ln), .int (nI nx), .int 0, .int (nI nx), .int va, .int tld, .ref rd])))) := e217x
            refine wq_gos (f := 1) (pc2 := 223) (ls2 := [(0, .ref 4)]) (st2 := []) (h2 := h216x) (dc2 := dc) (ds2 := ds) 1 rfl ?_
            have hx : (adF tb ln (m + 1) nx kd sta va) = (nx, (0 : Int32), (nI nx), va) := by show (if _ then _ else _) = _; rw [if_neg (Int.not_le.mpr b3x), if_neg b107x, if_pos b116x, if_neg (Int.not_lt.mpr b122x)]
            rw [hx]
            exact wq_ret rfl rfl ⟨h216x, rfl, (wFr_tr (wFr_sub f120x (by simp)) (wFr_sub f218x (by simp))), by omega, e217x, (by (try dsimp only); omega)⟩
        · have q220x : (tb.getD ((nI nx)).toNatClampNeg 0).toInt = 10 := congrArg Int32.toInt b116x
          refine wq_gos (f := 1) (pc2 := 41) (ls2 := [(0, .ref 4)]) (st2 := [.ref 4, .ref 4]) (h2 := h) (dc2 := dc) (ds2 := ds) 2 rfl ?_
          refine wq_getf rfl hR rfl rfl ?_
          refine wq_gos (f := 1) (pc2 := 46) (ls2 := [(0, .ref 4)]) (st2 := [.int ((nI nx) + (1 : Int32)), .ref 4]) (h2 := h) (dc2 := dc) (ds2 := ds) 2 rfl ?_
          rw [nI_1]
          refine wq_putf rfl hR rfl rfl rfl ?_
          intro h221x e222x f223x l224x
          have e222x : zat h221x 4 = some (.inr (.inr (.inr (4, [.int wr, .int wa, .ref 2, .int (nI ln), .int (nI (nx + 1)), .int kd, .int sta, .int va, .int tld, .ref rd])))) := e222x
          refine wq_gos (f := 1) (pc2 := 0) (ls2 := [(0, .ref 4)]) (st2 := []) (h2 := h221x) (dc2 := dc) (ds2 := ds) 1 rfl ?_
          have e225x := (f223x.2 _ _ (wnc (by decide) wn0) hT)
          have hx : (adF tb ln (m + 1) nx kd sta va) = (adF tb ln m (nx + 1) kd sta va) := by show (if _ then _ else _) = _; rw [if_neg (Int.not_le.mpr b3x), if_neg b107x, if_neg (fun q => q b116x)]
          rw [hx]
          refine wq_ls [(0, .ref 4)] (show ([0] : List Nat).Nodup by decide) ⟨rfl, trivial⟩ ?_
          refine wq_mono (ih (nx + 1) kd sta va h221x e222x e225x (by first | omega | assumption | decide) (by omega) dc ds) ?_
          rintro _ ⟨h9, rfl, f9, l9, y0, y1⟩
          exact ⟨h9, rfl, wFr_tr (wFr_sub f223x (by simp)) f9, by omega, y0, y1⟩
noncomputable def adG (tb : List Int32) (ln nx : Nat) (kd sta va : Int32) : Nat × Int32 × Int32 × Int32 := (((adF tb ln ((ln - nx) + 1) nx kd sta va).1), ((adF tb ln ((ln - nx) + 1) nx kd sta va).2.1), ((adF tb ln ((ln - nx) + 1) nx kd sta va).2.2.1), ((adF tb ln ((ln - nx) + 1) nx kd sta va).2.2.2))
set_option maxRecDepth 100000 in
set_option maxHeartbeats 4000000 in
theorem c_adv {h : zH} {ln nx rd : Nat} {wr wa kd sta va tld : Int32} {tb : List Int32} (hR : zat h 4 = some (.inr (.inr (.inr (4, [.int wr, .int wa, .ref 2, .int (nI ln), .int (nI nx), .int kd, .int sta, .int va, .int tld, .ref rd]))))) (hT : zat h 2 = some (.inl (1, 700, tb))) (hln : ln ≤ 700) (hn : nx ≤ ln) : wq 58 0 [(0, .ref 4)] [] h 0 0 (fun rr9 => ∃ (h2 : zH), rr9 = (none, h2, 0, 0) ∧ wFr [4] h h2 ∧ h2.length = h.length ∧ zat h2 4 = some (.inr (.inr (.inr (4, [.int wr, .int wa, .ref 2, .int (nI ln), .int (nI ((adG tb ln nx kd sta va).1)), .int ((adG tb ln nx kd sta va).2.1), .int ((adG tb ln nx kd sta va).2.2.1), .int ((adG tb ln nx kd sta va).2.2.2), .int tld, .ref rd])))) ∧ (((adG tb ln nx kd sta va).1) ≤ ln)) := by
  refine wq_ls [(0, .ref 4)] (show ([0] : List Nat).Nodup by decide) ⟨rfl, trivial⟩ ?_
  refine wq_mono (c_adL (by first | omega | assumption | decide) ((ln - nx) + 1) nx kd sta va h hR hT (by first | omega | assumption | decide) (by omega) 0 0) ?_
  rintro _ ⟨h81x, rfl, f81x, l81x, c01x, c11x⟩
  have hx : (adG tb ln nx kd sta va) = (((adF tb ln ((ln - nx) + 1) nx kd sta va).1), ((adF tb ln ((ln - nx) + 1) nx kd sta va).2.1), ((adF tb ln ((ln - nx) + 1) nx kd sta va).2.2.1), ((adF tb ln ((ln - nx) + 1) nx kd sta va).2.2.2)) := by unfold adG; rfl
  rw [hx]
  exact ⟨h81x, rfl, (wFr_sub f81x (by simp)), by omega, c01x, (by first | ((try dsimp only); omega) | assumption)⟩
