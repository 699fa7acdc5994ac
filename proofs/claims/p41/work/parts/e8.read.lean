/-! The class: a text's tokens. -/
def rHas (tb : List Int32) (ln p : Nat) (lo hi : Int32) : Int32 := (if (nI ln).toInt ≤ (nI p).toInt then 0 else (if (tb.getD ((nI p)).toNatClampNeg 0).toInt < lo.toInt then 0 else (if hi.toInt < (tb.getD ((nI p)).toNatClampNeg 0).toInt then 0 else 1)))
set_option maxRecDepth 100000 in
set_option maxHeartbeats 4000000 in
theorem c_has {h : zH} {ln nx rd : Nat} {wr wa kd sta va tld : Int32} {tb : List Int32} {p : Nat} {lo hi : Int32} (hR : zat h 4 = some (.inr (.inr (.inr (4, [.int wr, .int wa, .ref 2, .int (nI ln), .int (nI nx), .int kd, .int sta, .int va, .int tld, .ref rd]))))) (hT : zat h 2 = some (.inl (1, 700, tb))) (hln : ln ≤ 700) (hp : p ≤ 701) : wq 57 0 [(0, .ref 4), (1, .int (nI p)), (2, .int lo), (3, .int hi)] [] h 0 0 (fun rr9 => rr9 = (some (.int (rHas tb ln p lo hi)), h, 0, 0)) := by
  have qnp := nI_toInt (n := p) (by omega)
  have qnln := nI_toInt (n := ln) (by omega)
  refine wq_gos (f := 1) (pc2 := 2) (ls2 := [(0, .ref 4), (1, .int (nI p)), (2, .int lo), (3, .int hi)]) (st2 := [.ref 4, .int (nI p)]) (h2 := h) (dc2 := 0) (ds2 := 0) 2 rfl ?_
  refine wq_getf rfl hR rfl rfl ?_
  try have q1x := nI_toInt (n := p) (by omega)
  try have q2x := nI_toInt (n := ln) (by omega)
  refine wq_ge2 rfl rfl (fun b3x => ?_) (fun b3x => ?_)
  · refine wq_gos (f := 1) (pc2 := 33) (ls2 := [(0, .ref 4), (1, .int (nI p)), (2, .int lo), (3, .int hi)]) (st2 := [.int 0]) (h2 := h) (dc2 := 0) (ds2 := 0) 1 rfl ?_
    have w4x : (rHas tb ln p lo hi) = (0 : Int32) := by unfold rHas; rw [if_pos b3x]
    rw [w4x]
    exact wq_ret rfl rfl rfl
  · refine wq_gos (f := 1) (pc2 := 9) (ls2 := [(0, .ref 4), (1, .int (nI p)), (2, .int lo), (3, .int hi)]) (st2 := [.ref 4]) (h2 := h) (dc2 := 0) (ds2 := 0) 1 rfl ?_
    refine wq_getf rfl hR rfl rfl ?_
    refine wq_gos (f := 1) (pc2 := 13) (ls2 := [(0, .ref 4), (1, .int (nI p)), (2, .int lo), (3, .int hi)]) (st2 := [.int (nI p), .ref 2]) (h2 := h) (dc2 := 0) (ds2 := 0) 1 rfl ?_
    refine wq_bald 1 (Or.inl rfl) rfl hT (by first | omega | exact zin_t (by omega) (by omega)) rfl ?_
    refine wq_gos (f := 1) (pc2 := 15) (ls2 := [(0, .ref 4), (1, .int (nI p)), (2, .int lo), (3, .int hi)]) (st2 := [.int lo, .int (tb.getD ((nI p)).toNatClampNeg 0)]) (h2 := h) (dc2 := 0) (ds2 := 0) 1 rfl ?_
    refine wq_lt2 rfl rfl (fun b5x => ?_) (fun b5x => ?_)
    · refine wq_gos (f := 1) (pc2 := 33) (ls2 := [(0, .ref 4), (1, .int (nI p)), (2, .int lo), (3, .int hi)]) (st2 := [.int 0]) (h2 := h) (dc2 := 0) (ds2 := 0) 1 rfl ?_
      have w6x : (rHas tb ln p lo hi) = (0 : Int32) := by unfold rHas; rw [if_neg (Int.not_le.mpr b3x), if_pos b5x]
      rw [w6x]
      exact wq_ret rfl rfl rfl
    · refine wq_gos (f := 1) (pc2 := 19) (ls2 := [(0, .ref 4), (1, .int (nI p)), (2, .int lo), (3, .int hi)]) (st2 := [.ref 4]) (h2 := h) (dc2 := 0) (ds2 := 0) 1 rfl ?_
      refine wq_getf rfl hR rfl rfl ?_
      refine wq_gos (f := 1) (pc2 := 23) (ls2 := [(0, .ref 4), (1, .int (nI p)), (2, .int lo), (3, .int hi)]) (st2 := [.int (nI p), .ref 2]) (h2 := h) (dc2 := 0) (ds2 := 0) 1 rfl ?_
      refine wq_bald 1 (Or.inl rfl) rfl hT (by first | omega | exact zin_t (by omega) (by omega)) rfl ?_
      refine wq_gos (f := 1) (pc2 := 25) (ls2 := [(0, .ref 4), (1, .int (nI p)), (2, .int lo), (3, .int hi)]) (st2 := [.int hi, .int (tb.getD ((nI p)).toNatClampNeg 0)]) (h2 := h) (dc2 := 0) (ds2 := 0) 1 rfl ?_
      refine wq_gt2 rfl rfl (fun b7x => ?_) (fun b7x => ?_)
      · refine wq_gos (f := 1) (pc2 := 33) (ls2 := [(0, .ref 4), (1, .int (nI p)), (2, .int lo), (3, .int hi)]) (st2 := [.int 0]) (h2 := h) (dc2 := 0) (ds2 := 0) 1 rfl ?_
        have w8x : (rHas tb ln p lo hi) = (0 : Int32) := by unfold rHas; rw [if_neg (Int.not_le.mpr b3x), if_neg (Int.not_lt.mpr b5x), if_pos b7x]
        rw [w8x]
        exact wq_ret rfl rfl rfl
      · refine wq_gos (f := 1) (pc2 := 33) (ls2 := [(0, .ref 4), (1, .int (nI p)), (2, .int lo), (3, .int hi)]) (st2 := [.int 1]) (h2 := h) (dc2 := 0) (ds2 := 0) 2 rfl ?_
        have w9x : (rHas tb ln p lo hi) = (1 : Int32) := by unfold rHas; rw [if_neg (Int.not_le.mpr b3x), if_neg (Int.not_lt.mpr b5x), if_neg (Int.not_lt.mpr b7x)]
        rw [w9x]
        exact wq_ret rfl rfl rfl
def twF (tb : List Int32) (ln : Nat) : Nat → Nat → Int32 → Nat → Int32 → Int32 × Nat × Int32
  | 0, _, va, nx, kd => (va, nx, kd)
  | m + 1, le, va, nx, kd => (if (nI ln).toInt ≤ (nI nx).toInt then (if (nI le).toInt ≤ (6 : Int32).toInt then (va, nx, (1 : Int32)) else (va, nx, (5 : Int32))) else (if (rHas tb ln nx (97 : Int32) (122 : Int32)) = (0 : Int32) then (if (nI le).toInt ≤ (6 : Int32).toInt then (va, nx, (1 : Int32)) else (va, nx, (5 : Int32))) else (if (6 : Int32).toInt ≤ (nI le).toInt then (twF tb ln m (le + 1) va (nx + 1) kd) else (twF tb ln m (le + 1) (va ||| ((((tb.getD ((nI nx)).toNatClampNeg 0) - (97 : Int32)) + (1 : Int32)) <<< (((25 : Int32) - (nI (5 * le))) &&& 31))) (nx + 1) kd))))
set_option maxRecDepth 100000 in
set_option maxHeartbeats 4000000 in
theorem c_twL {ln rd : Nat} {wr wa tld : Int32} {tb : List Int32} {sta : Int32} (hln : ln ≤ 700) : ∀ (m : Nat) (le : Nat) (va : Int32) (nx : Nat) (kd : Int32) (h : zH) , (zat h 4 = some (.inr (.inr (.inr (4, [.int wr, .int wa, .ref 2, .int (nI ln), .int (nI nx), .int kd, .int sta, .int va, .int tld, .ref rd]))))) → (zat h 2 = some (.inl (1, 700, tb))) → (nx ≤ ln ∧ le ≤ nx) → (ln - nx) < m → ∀ (dc ds : Nat), wq 59 7 [(0, .ref 4), (1, .int (nI le))] [] h dc ds (fun rr9 => ∃ (h2 : zH) , rr9 = (none, h2, dc, ds) ∧ wFr [4] h h2 ∧ h2.length = h.length ∧ zat h2 4 = some (.inr (.inr (.inr (4, [.int wr, .int wa, .ref 2, .int (nI ln), .int (nI ((twF tb ln m le va nx kd).2.1)), .int ((twF tb ln m le va nx kd).2.2), .int sta, .int ((twF tb ln m le va nx kd).1), .int tld, .ref rd]))))) := by
  intro m
  induction m with
  | zero => intro le va nx kd h hR hT hk hms dc ds; omega
  | succ m ih =>
    intro le va nx kd h hR hT hk hms dc ds
    have qnle := nI_toInt (n := le) (by omega)
    have qnnx := nI_toInt (n := nx) (by omega)
    have qnln := nI_toInt (n := ln) (by omega)
    refine wq_gos (f := 1) (pc2 := 8) (ls2 := [(0, .ref 4), (1, .int (nI le))]) (st2 := [.ref 4]) (h2 := h) (dc2 := dc) (ds2 := ds) 1 rfl ?_
    refine wq_getf rfl hR rfl rfl ?_
    refine wq_gos (f := 1) (pc2 := 12) (ls2 := [(0, .ref 4), (1, .int (nI le))]) (st2 := [.ref 4, .int (nI nx)]) (h2 := h) (dc2 := dc) (ds2 := ds) 1 rfl ?_
    refine wq_getf rfl hR rfl rfl ?_
    try have q1x := nI_toInt (n := nx) (by omega)
    try have q2x := nI_toInt (n := ln) (by omega)
    refine wq_ge2 rfl rfl (fun b3x => ?_) (fun b3x => ?_)
    · refine wq_gos (f := 1) (pc2 := 89) (ls2 := [(0, .ref 4), (1, .int (nI le))]) (st2 := [.int 6, .int (nI le), .ref 4]) (h2 := h) (dc2 := dc) (ds2 := ds) 3 rfl ?_
      try have q4x := nI_toInt (n := le) (by omega)
      have q5x : (6 : Int32).toInt = 6 := rfl
      refine wq_le2 rfl rfl (fun b6x => ?_) (fun b6x => ?_)
      · refine wq_gos (f := 1) (pc2 := 97) (ls2 := [(0, .ref 4), (1, .int (nI le))]) (st2 := [.int 1, .ref 4]) (h2 := h) (dc2 := dc) (ds2 := ds) 1 rfl ?_
        refine wq_putf rfl hR rfl rfl rfl ?_
        intro h7x e8x f9x l10x
        have e8x : zat h7x 4 = some (.inr (.inr (.inr (4, [.int wr, .int wa, .ref 2, .int (nI ln), .int (nI nx), .int 1, .int sta, .int va, .int tld, .ref rd])))) := e8x
        have hx : (twF tb ln (m + 1) le va nx kd) = (va, nx, (1 : Int32)) := by show (if _ then _ else _) = _; rw [if_pos b3x, if_pos b6x]
        rw [hx]
        exact wq_ret rfl rfl ⟨h7x, rfl, (wFr_sub f9x (by simp)), by omega, e8x⟩
      · refine wq_gos (f := 1) (pc2 := 97) (ls2 := [(0, .ref 4), (1, .int (nI le))]) (st2 := [.int 5, .ref 4]) (h2 := h) (dc2 := dc) (ds2 := ds) 2 rfl ?_
        refine wq_putf rfl hR rfl rfl rfl ?_
        intro h11x e12x f13x l14x
        have e12x : zat h11x 4 = some (.inr (.inr (.inr (4, [.int wr, .int wa, .ref 2, .int (nI ln), .int (nI nx), .int 5, .int sta, .int va, .int tld, .ref rd])))) := e12x
        have hx : (twF tb ln (m + 1) le va nx kd) = (va, nx, (5 : Int32)) := by show (if _ then _ else _) = _; rw [if_pos b3x, if_neg (Int.not_le.mpr b6x)]
        rw [hx]
        exact wq_ret rfl rfl ⟨h11x, rfl, (wFr_sub f13x (by simp)), by omega, e12x⟩
    · refine wq_gos (f := 1) (pc2 := 20) (ls2 := [(0, .ref 4), (1, .int (nI le))]) (st2 := [.ref 4, .ref 4]) (h2 := h) (dc2 := dc) (ds2 := ds) 2 rfl ?_
      refine wq_getf rfl hR rfl rfl ?_
      refine wq_gos (f := 1) (pc2 := 27) (ls2 := [(0, .ref 4), (1, .int (nI le))]) (st2 := [.int 122, .int 97, .int (nI nx), .ref 4]) (h2 := h) (dc2 := dc) (ds2 := ds) 2 rfl ?_
      have q15x : (97 : Int32).toInt = 97 := rfl
      have q16x : (122 : Int32).toInt = 122 := rfl
      refine wq_inlv (y2 := 57) (as := [.int (nI nx), .int 97, .int 122]) rfl rfl rfl hR rfl (wq_mono (c_has hR hT (by first | omega | assumption | decide) (by first | omega | assumption | decide)) ?_)
      rintro _ rfl
      show wq 59 30 [(0, .ref 4), (1, .int (nI le))] [.int (rHas tb ln nx (97 : Int32) (122 : Int32))] h dc ds _
      refine wq_eq0 rfl rfl (fun b18x => ?_) (fun b18x => ?_)
      · have q19x : (rHas tb ln nx (97 : Int32) (122 : Int32)).toInt = 0 := congrArg Int32.toInt b18x
        refine wq_gos (f := 1) (pc2 := 89) (ls2 := [(0, .ref 4), (1, .int (nI le))]) (st2 := [.int 6, .int (nI le), .ref 4]) (h2 := h) (dc2 := dc) (ds2 := ds) 3 rfl ?_
        try have q20x := nI_toInt (n := le) (by omega)
        have q21x : (6 : Int32).toInt = 6 := rfl
        refine wq_le2 rfl rfl (fun b22x => ?_) (fun b22x => ?_)
        · refine wq_gos (f := 1) (pc2 := 97) (ls2 := [(0, .ref 4), (1, .int (nI le))]) (st2 := [.int 1, .ref 4]) (h2 := h) (dc2 := dc) (ds2 := ds) 1 rfl ?_
          refine wq_putf rfl hR rfl rfl rfl ?_
          intro h23x e24x f25x l26x
          have e24x : zat h23x 4 = some (.inr (.inr (.inr (4, [.int wr, .int wa, .ref 2, .int (nI ln), .int (nI nx), .int 1, .int sta, .int va, .int tld, .ref rd])))) := e24x
          have hx : (twF tb ln (m + 1) le va nx kd) = (va, nx, (1 : Int32)) := by show (if _ then _ else _) = _; rw [if_neg (Int.not_le.mpr b3x), if_pos b18x, if_pos b22x]
          rw [hx]
          exact wq_ret rfl rfl ⟨h23x, rfl, (wFr_sub f25x (by simp)), by omega, e24x⟩
        · refine wq_gos (f := 1) (pc2 := 97) (ls2 := [(0, .ref 4), (1, .int (nI le))]) (st2 := [.int 5, .ref 4]) (h2 := h) (dc2 := dc) (ds2 := ds) 2 rfl ?_
          refine wq_putf rfl hR rfl rfl rfl ?_
          intro h27x e28x f29x l30x
          have e28x : zat h27x 4 = some (.inr (.inr (.inr (4, [.int wr, .int wa, .ref 2, .int (nI ln), .int (nI nx), .int 5, .int sta, .int va, .int tld, .ref rd])))) := e28x
          have hx : (twF tb ln (m + 1) le va nx kd) = (va, nx, (5 : Int32)) := by show (if _ then _ else _) = _; rw [if_neg (Int.not_le.mpr b3x), if_pos b18x, if_neg (Int.not_le.mpr b22x)]
          rw [hx]
          exact wq_ret rfl rfl ⟨h27x, rfl, (wFr_sub f29x (by simp)), by omega, e28x⟩
      · have q31x : (rHas tb ln nx (97 : Int32) (122 : Int32)).toInt ≠ 0 := fun q => b18x (Int32.toInt_inj.mp q)
        refine wq_gos (f := 1) (pc2 := 36) (ls2 := [(0, .ref 4), (1, .int (nI le))]) (st2 := [.int 6, .int (nI le)]) (h2 := h) (dc2 := dc) (ds2 := ds) 2 rfl ?_
        try have q32x := nI_toInt (n := le) (by omega)
        have q33x : (6 : Int32).toInt = 6 := rfl
        refine wq_ge2 rfl rfl (fun b34x => ?_) (fun b34x => ?_)
        · refine wq_gos (f := 1) (pc2 := 72) (ls2 := [(1, .int ((nI le) + 1)), (0, .ref 4)]) (st2 := []) (h2 := h) (dc2 := dc) (ds2 := ds) 1 rfl ?_
          rw [nI_1]
          refine wq_gos (f := 1) (pc2 := 74) (ls2 := [(1, .int (nI (le + 1))), (0, .ref 4)]) (st2 := [.ref 4, .ref 4]) (h2 := h) (dc2 := dc) (ds2 := ds) 2 rfl ?_
          refine wq_getf rfl hR rfl rfl ?_
          refine wq_gos (f := 1) (pc2 := 79) (ls2 := [(1, .int (nI (le + 1))), (0, .ref 4)]) (st2 := [.int ((nI nx) + (1 : Int32)), .ref 4]) (h2 := h) (dc2 := dc) (ds2 := ds) 2 rfl ?_
          refine wq_vi (show (nI nx) + (1 : Int32) = nI (nx + 1) from nI_add nx 1) ?_
          refine wq_putf rfl hR rfl rfl rfl ?_
          intro h35x e36x f37x l38x
          have e36x : zat h35x 4 = some (.inr (.inr (.inr (4, [.int wr, .int wa, .ref 2, .int (nI ln), .int (nI (nx + 1)), .int kd, .int sta, .int va, .int tld, .ref rd])))) := e36x
          refine wq_gos (f := 1) (pc2 := 7) (ls2 := [(1, .int (nI (le + 1))), (0, .ref 4)]) (st2 := []) (h2 := h35x) (dc2 := dc) (ds2 := ds) 1 rfl ?_
          try have q39x := nI_toInt (n := (le + 1)) (by omega)
          have e40x := (f37x.2 _ _ (wnc (by decide) wn0) hT)
          have hx : (twF tb ln (m + 1) le va nx kd) = (twF tb ln m (le + 1) va (nx + 1) kd) := by show (if _ then _ else _) = _; rw [if_neg (Int.not_le.mpr b3x), if_neg b18x, if_pos b34x]
          rw [hx]
          refine wq_ls [(0, .ref 4), (1, .int (nI (le + 1)))] (show ([0, 1] : List Nat).Nodup by decide) ⟨rfl, rfl, trivial⟩ ?_
          refine wq_mono (ih (le + 1) va (nx + 1) kd h35x e36x e40x (by first | omega | assumption | decide) (by omega) dc ds) ?_
          rintro _ ⟨h9, rfl, f9, l9, y0⟩
          exact ⟨h9, rfl, wFr_tr (wFr_sub f37x (by simp)) f9, by omega, y0⟩
        · refine wq_gos (f := 1) (pc2 := 41) (ls2 := [(0, .ref 4), (1, .int (nI le))]) (st2 := [.ref 4, .ref 4]) (h2 := h) (dc2 := dc) (ds2 := ds) 2 rfl ?_
          refine wq_getf rfl hR rfl rfl ?_
          refine wq_gos (f := 1) (pc2 := 45) (ls2 := [(0, .ref 4), (1, .int (nI le))]) (st2 := [.ref 4, .int va, .ref 4]) (h2 := h) (dc2 := dc) (ds2 := ds) 1 rfl ?_
          refine wq_getf rfl hR rfl rfl ?_
          refine wq_gos (f := 1) (pc2 := 49) (ls2 := [(0, .ref 4), (1, .int (nI le))]) (st2 := [.ref 4, .ref 2, .int va, .ref 4]) (h2 := h) (dc2 := dc) (ds2 := ds) 1 rfl ?_
          refine wq_getf rfl hR rfl rfl ?_
          refine wq_bald 1 (Or.inl rfl) rfl hT (by first | omega | exact zin_t (by omega) (by omega)) rfl ?_
          refine wq_gos (f := 1) (pc2 := 63) (ls2 := [(0, .ref 4), (1, .int (nI le))]) (st2 := [.int ((5 : Int32) * (nI le)), .int 25, .int (((tb.getD ((nI nx)).toNatClampNeg 0) - (97 : Int32)) + (1 : Int32)), .int va, .ref 4]) (h2 := h) (dc2 := dc) (ds2 := ds) 8 rfl ?_
          refine wq_vi (show (5 : Int32) * (nI le) = nI (5 * le) from e_nmul 5 le) ?_
          refine wq_gos (f := 1) (pc2 := 66) (ls2 := [(0, .ref 4), (1, .int (nI le))]) (st2 := [.int (va ||| ((((tb.getD ((nI nx)).toNatClampNeg 0) - (97 : Int32)) + (1 : Int32)) <<< (((25 : Int32) - (nI (5 * le))) &&& 31))), .ref 4]) (h2 := h) (dc2 := dc) (ds2 := ds) 3 rfl ?_
          refine wq_putf rfl hR rfl rfl rfl ?_
          intro h41x e42x f43x l44x
          have e42x : zat h41x 4 = some (.inr (.inr (.inr (4, [.int wr, .int wa, .ref 2, .int (nI ln), .int (nI nx), .int kd, .int sta, .int (va ||| ((((tb.getD ((nI nx)).toNatClampNeg 0) - (97 : Int32)) + (1 : Int32)) <<< (((25 : Int32) - (nI (5 * le))) &&& 31))), .int tld, .ref rd])))) := e42x
          refine wq_gos (f := 1) (pc2 := 72) (ls2 := [(1, .int ((nI le) + 1)), (0, .ref 4)]) (st2 := []) (h2 := h41x) (dc2 := dc) (ds2 := ds) 1 rfl ?_
          rw [nI_1]
          refine wq_gos (f := 1) (pc2 := 74) (ls2 := [(1, .int (nI (le + 1))), (0, .ref 4)]) (st2 := [.ref 4, .ref 4]) (h2 := h41x) (dc2 := dc) (ds2 := ds) 2 rfl ?_
          refine wq_getf rfl e42x rfl rfl ?_
          refine wq_gos (f := 1) (pc2 := 79) (ls2 := [(1, .int (nI (le + 1))), (0, .ref 4)]) (st2 := [.int ((nI nx) + (1 : Int32)), .ref 4]) (h2 := h41x) (dc2 := dc) (ds2 := ds) 2 rfl ?_
          refine wq_vi (show (nI nx) + (1 : Int32) = nI (nx + 1) from nI_add nx 1) ?_
          refine wq_putf rfl e42x rfl rfl rfl ?_
          intro h45x e46x f47x l48x
          have e46x : zat h45x 4 = some (.inr (.inr (.inr (4, [.int wr, .int wa, .ref 2, .int (nI ln), .int (nI (nx + 1)), .int kd, .int sta, .int (va ||| ((((tb.getD ((nI nx)).toNatClampNeg 0) - (97 : Int32)) + (1 : Int32)) <<< (((25 : Int32) - (nI (5 * le))) &&& 31))), .int tld, .ref rd])))) := e46x
          refine wq_gos (f := 1) (pc2 := 7) (ls2 := [(1, .int (nI (le + 1))), (0, .ref 4)]) (st2 := []) (h2 := h45x) (dc2 := dc) (ds2 := ds) 1 rfl ?_
          try have q49x := nI_toInt (n := (le + 1)) (by omega)
          have e50x := (f47x.2 _ _ (wnc (by decide) wn0) (f43x.2 _ _ (wnc (by decide) wn0) hT))
          have hx : (twF tb ln (m + 1) le va nx kd) = (twF tb ln m (le + 1) (va ||| ((((tb.getD ((nI nx)).toNatClampNeg 0) - (97 : Int32)) + (1 : Int32)) <<< (((25 : Int32) - (nI (5 * le))) &&& 31))) (nx + 1) kd) := by show (if _ then _ else _) = _; rw [if_neg (Int.not_le.mpr b3x), if_neg b18x, if_neg (Int.not_le.mpr b34x)]
          rw [hx]
          refine wq_ls [(0, .ref 4), (1, .int (nI (le + 1)))] (show ([0, 1] : List Nat).Nodup by decide) ⟨rfl, rfl, trivial⟩ ?_
          refine wq_mono (ih (le + 1) (va ||| ((((tb.getD ((nI nx)).toNatClampNeg 0) - (97 : Int32)) + (1 : Int32)) <<< (((25 : Int32) - (nI (5 * le))) &&& 31))) (nx + 1) kd h45x e46x e50x (by first | omega | assumption | decide) (by omega) dc ds) ?_
          rintro _ ⟨h9, rfl, f9, l9, y0⟩
          exact ⟨h9, rfl, wFr_tr (wFr_tr (wFr_sub f43x (by simp)) (wFr_sub f47x (by simp))) f9, by omega, y0⟩
def twG (tb : List Int32) (ln nx : Nat) (kd : Int32) : Int32 × Nat × Int32 := (((twF tb ln ((ln - nx) + 1) 0 (0 : Int32) nx kd).1), ((twF tb ln ((ln - nx) + 1) 0 (0 : Int32) nx kd).2.1), ((twF tb ln ((ln - nx) + 1) 0 (0 : Int32) nx kd).2.2))
set_option maxRecDepth 100000 in
set_option maxHeartbeats 4000000 in
theorem c_tw {h : zH} {ln nx rd : Nat} {wr wa kd sta va tld : Int32} {tb : List Int32} (hR : zat h 4 = some (.inr (.inr (.inr (4, [.int wr, .int wa, .ref 2, .int (nI ln), .int (nI nx), .int kd, .int sta, .int va, .int tld, .ref rd]))))) (hT : zat h 2 = some (.inl (1, 700, tb))) (hln : ln ≤ 700) (hn : nx ≤ ln) : wq 59 0 [(0, .ref 4)] [] h 0 0 (fun rr9 => ∃ (h2 : zH), rr9 = (none, h2, 0, 0) ∧ wFr [4] h h2 ∧ h2.length = h.length ∧ zat h2 4 = some (.inr (.inr (.inr (4, [.int wr, .int wa, .ref 2, .int (nI ln), .int (nI ((twG tb ln nx kd).2.1)), .int ((twG tb ln nx kd).2.2), .int sta, .int ((twG tb ln nx kd).1), .int tld, .ref rd]))))) := by
  have qnnx := nI_toInt (n := nx) (by omega)
  have qnln := nI_toInt (n := ln) (by omega)
  refine wq_gos (f := 1) (pc2 := 4) (ls2 := [(1, .int 0), (0, .ref 4)]) (st2 := [.int 0, .ref 4]) (h2 := h) (dc2 := 0) (ds2 := 0) 4 rfl ?_
  refine wq_putf rfl hR rfl rfl rfl ?_
  intro h1x e2x f3x l4x
  have e2x : zat h1x 4 = some (.inr (.inr (.inr (4, [.int wr, .int wa, .ref 2, .int (nI ln), .int (nI nx), .int kd, .int sta, .int 0, .int tld, .ref rd])))) := e2x
  have e5x := (f3x.2 _ _ (wnc (by decide) wn0) hT)
  refine wq_ls [(0, .ref 4), (1, .int (nI 0))] (show ([0, 1] : List Nat).Nodup by decide) ⟨rfl, rfl, trivial⟩ ?_
  refine wq_mono (c_twL (by first | omega | assumption | decide) ((ln - nx) + 1) 0 (0 : Int32) nx kd h1x e2x e5x (by first | omega | assumption | decide) (by omega) 0 0) ?_
  rintro _ ⟨h86x, rfl, f86x, l86x, c06x⟩
  have hx : (twG tb ln nx kd) = (((twF tb ln ((ln - nx) + 1) 0 (0 : Int32) nx kd).1), ((twF tb ln ((ln - nx) + 1) 0 (0 : Int32) nx kd).2.1), ((twF tb ln ((ln - nx) + 1) 0 (0 : Int32) nx kd).2.2)) := by unfold twG; rfl
  rw [hx]
  exact ⟨h86x, rfl, (wFr_tr (wFr_sub f3x (by simp)) (wFr_sub f86x (by simp))), by omega, c06x⟩
def tdF (tb : List Int32) (ln : Nat) : Nat → Int32 → Nat → Int32 × Nat
  | 0, _, nx => (0, nx)
  | m + 1, nu, nx => (if (nI ln).toInt ≤ (nI nx).toInt then (nu, nx) else (if (rHas tb ln nx (48 : Int32) (57 : Int32)) = (0 : Int32) then (nu, nx) else (tdF tb ln m (jmin (1000000 : Int32) (((nu * (10 : Int32)) + (tb.getD ((nI nx)).toNatClampNeg 0)) - (48 : Int32))) (nx + 1))))
set_option maxRecDepth 100000 in
set_option maxHeartbeats 4000000 in
theorem c_tdL {ln rd : Nat} {wr wa tld : Int32} {tb : List Int32} {kd sta va : Int32} (hln : ln ≤ 700) : ∀ (m : Nat) (nu : Int32) (nx : Nat) (h : zH) , (zat h 4 = some (.inr (.inr (.inr (4, [.int wr, .int wa, .ref 2, .int (nI ln), .int (nI nx), .int kd, .int sta, .int va, .int tld, .ref rd]))))) → (zat h 2 = some (.inl (1, 700, tb))) → (nx ≤ ln) → (ln - nx) < m → ∀ (dc ds : Nat), wq 60 2 [(0, .ref 4), (1, .int nu)] [] h dc ds (fun rr9 => ∃ (h2 : zH) , rr9 = (some (Value.int ((tdF tb ln m nu nx).1)), h2, dc, ds) ∧ wFr [4] h h2 ∧ h2.length = h.length ∧ zat h2 4 = some (.inr (.inr (.inr (4, [.int wr, .int wa, .ref 2, .int (nI ln), .int (nI ((tdF tb ln m nu nx).2)), .int kd, .int sta, .int va, .int tld, .ref rd]))))) := by
  intro m
  induction m with
  | zero => intro nu nx h hR hT hk hms dc ds; omega
  | succ m ih =>
    intro nu nx h hR hT hk hms dc ds
    have qnnx := nI_toInt (n := nx) (by omega)
    have qnln := nI_toInt (n := ln) (by omega)
    refine wq_gos (f := 1) (pc2 := 3) (ls2 := [(0, .ref 4), (1, .int nu)]) (st2 := [.ref 4]) (h2 := h) (dc2 := dc) (ds2 := ds) 1 rfl ?_
    refine wq_getf rfl hR rfl rfl ?_
    refine wq_gos (f := 1) (pc2 := 7) (ls2 := [(0, .ref 4), (1, .int nu)]) (st2 := [.ref 4, .int (nI nx)]) (h2 := h) (dc2 := dc) (ds2 := ds) 1 rfl ?_
    refine wq_getf rfl hR rfl rfl ?_
    try have q1x := nI_toInt (n := nx) (by omega)
    try have q2x := nI_toInt (n := ln) (by omega)
    refine wq_ge2 rfl rfl (fun b3x => ?_) (fun b3x => ?_)
    · refine wq_gos (f := 1) (pc2 := 65) (ls2 := [(0, .ref 4), (1, .int nu)]) (st2 := [.int nu]) (h2 := h) (dc2 := dc) (ds2 := ds) 1 rfl ?_
      have hx : (tdF tb ln (m + 1) nu nx) = (nu, nx) := by show (if _ then _ else _) = _; rw [if_pos b3x]
      rw [hx]
      exact wq_ret rfl rfl ⟨h, rfl, (wFr_rf _ _), by omega, hR⟩
    · refine wq_gos (f := 1) (pc2 := 15) (ls2 := [(0, .ref 4), (1, .int nu)]) (st2 := [.ref 4, .ref 4]) (h2 := h) (dc2 := dc) (ds2 := ds) 2 rfl ?_
      refine wq_getf rfl hR rfl rfl ?_
      refine wq_gos (f := 1) (pc2 := 22) (ls2 := [(0, .ref 4), (1, .int nu)]) (st2 := [.int 57, .int 48, .int (nI nx), .ref 4]) (h2 := h) (dc2 := dc) (ds2 := ds) 2 rfl ?_
      have q4x : (48 : Int32).toInt = 48 := rfl
      have q5x : (57 : Int32).toInt = 57 := rfl
      refine wq_inlv (y2 := 57) (as := [.int (nI nx), .int 48, .int 57]) rfl rfl rfl hR rfl (wq_mono (c_has hR hT (by first | omega | assumption | decide) (by first | omega | assumption | decide)) ?_)
      rintro _ rfl
      show wq 60 25 [(0, .ref 4), (1, .int nu)] [.int (rHas tb ln nx (48 : Int32) (57 : Int32))] h dc ds _
      refine wq_eq0 rfl rfl (fun b7x => ?_) (fun b7x => ?_)
      · have q8x : (rHas tb ln nx (48 : Int32) (57 : Int32)).toInt = 0 := congrArg Int32.toInt b7x
        refine wq_gos (f := 1) (pc2 := 65) (ls2 := [(0, .ref 4), (1, .int nu)]) (st2 := [.int nu]) (h2 := h) (dc2 := dc) (ds2 := ds) 1 rfl ?_
        have hx : (tdF tb ln (m + 1) nu nx) = (nu, nx) := by show (if _ then _ else _) = _; rw [if_neg (Int.not_le.mpr b3x), if_pos b7x]
        rw [hx]
        exact wq_ret rfl rfl ⟨h, rfl, (wFr_rf _ _), by omega, hR⟩
      · have q9x : (rHas tb ln nx (48 : Int32) (57 : Int32)).toInt ≠ 0 := fun q => b7x (Int32.toInt_inj.mp q)
        refine wq_gos (f := 1) (pc2 := 35) (ls2 := [(0, .ref 4), (1, .int nu)]) (st2 := [.ref 4, .int (nu * (10 : Int32)), .int 1000000]) (h2 := h) (dc2 := dc) (ds2 := ds) 5 rfl ?_
        refine wq_getf rfl hR rfl rfl ?_
        refine wq_gos (f := 1) (pc2 := 39) (ls2 := [(0, .ref 4), (1, .int nu)]) (st2 := [.ref 4, .ref 2, .int (nu * (10 : Int32)), .int 1000000]) (h2 := h) (dc2 := dc) (ds2 := ds) 1 rfl ?_
        refine wq_getf rfl hR rfl rfl ?_
        refine wq_bald 1 (Or.inl rfl) rfl hT (by first | omega | exact zin_t (by omega) (by omega)) rfl ?_
        refine wq_gos (f := 1) (pc2 := 47) (ls2 := [(0, .ref 4), (1, .int nu)]) (st2 := [.int (((nu * (10 : Int32)) + (tb.getD ((nI nx)).toNatClampNeg 0)) - (48 : Int32)), .int 1000000]) (h2 := h) (dc2 := dc) (ds2 := ds) 3 rfl ?_
        refine wq_inl (y2 := 285) (as := [.int 1000000, .int (((nu * (10 : Int32)) + (tb.getD ((nI nx)).toNatClampNeg 0)) - (48 : Int32))]) rfl rfl rfl (wq_T (c_min (1000000 : Int32) (((nu * (10 : Int32)) + (tb.getD ((nI nx)).toNatClampNeg 0)) - (48 : Int32)) h) ?_)
        show wq 60 50 [(0, .ref 4), (1, .int nu)] [.int (jmin (1000000 : Int32) (((nu * (10 : Int32)) + (tb.getD ((nI nx)).toNatClampNeg 0)) - (48 : Int32)))] h dc ds _
        refine wq_gos (f := 1) (pc2 := 53) (ls2 := [(1, .int (jmin (1000000 : Int32) (((nu * (10 : Int32)) + (tb.getD ((nI nx)).toNatClampNeg 0)) - (48 : Int32)))), (0, .ref 4)]) (st2 := [.ref 4, .ref 4]) (h2 := h) (dc2 := dc) (ds2 := ds) 3 rfl ?_
        refine wq_getf rfl hR rfl rfl ?_
        refine wq_gos (f := 1) (pc2 := 58) (ls2 := [(1, .int (jmin (1000000 : Int32) (((nu * (10 : Int32)) + (tb.getD ((nI nx)).toNatClampNeg 0)) - (48 : Int32)))), (0, .ref 4)]) (st2 := [.int ((nI nx) + (1 : Int32)), .ref 4]) (h2 := h) (dc2 := dc) (ds2 := ds) 2 rfl ?_
        rw [nI_1]
        refine wq_putf rfl hR rfl rfl rfl ?_
        intro h10x e11x f12x l13x
        have e11x : zat h10x 4 = some (.inr (.inr (.inr (4, [.int wr, .int wa, .ref 2, .int (nI ln), .int (nI (nx + 1)), .int kd, .int sta, .int va, .int tld, .ref rd])))) := e11x
        refine wq_gos (f := 1) (pc2 := 2) (ls2 := [(1, .int (jmin (1000000 : Int32) (((nu * (10 : Int32)) + (tb.getD ((nI nx)).toNatClampNeg 0)) - (48 : Int32)))), (0, .ref 4)]) (st2 := []) (h2 := h10x) (dc2 := dc) (ds2 := ds) 1 rfl ?_
        have e14x := (f12x.2 _ _ (wnc (by decide) wn0) hT)
        have hx : (tdF tb ln (m + 1) nu nx) = (tdF tb ln m (jmin (1000000 : Int32) (((nu * (10 : Int32)) + (tb.getD ((nI nx)).toNatClampNeg 0)) - (48 : Int32))) (nx + 1)) := by show (if _ then _ else _) = _; rw [if_neg (Int.not_le.mpr b3x), if_neg b7x]
        rw [hx]
        refine wq_ls [(0, .ref 4), (1, .int (jmin (1000000 : Int32) (((nu * (10 : Int32)) + (tb.getD ((nI nx)).toNatClampNeg 0)) - (48 : Int32))))] (show ([0, 1] : List Nat).Nodup by decide) ⟨rfl, rfl, trivial⟩ ?_
        refine wq_mono (ih (jmin (1000000 : Int32) (((nu * (10 : Int32)) + (tb.getD ((nI nx)).toNatClampNeg 0)) - (48 : Int32))) (nx + 1) h10x e11x e14x (by first | omega | assumption | decide) (by omega) dc ds) ?_
        rintro _ ⟨h9, rfl, f9, l9, y0⟩
        exact ⟨h9, rfl, wFr_tr (wFr_sub f12x (by simp)) f9, by omega, y0⟩
def tdG (tb : List Int32) (ln nx : Nat) : Int32 × Nat := (((tdF tb ln ((ln - nx) + 1) (0 : Int32) nx).1), ((tdF tb ln ((ln - nx) + 1) (0 : Int32) nx).2))
set_option maxRecDepth 100000 in
set_option maxHeartbeats 4000000 in
theorem c_td {h : zH} {ln nx rd : Nat} {wr wa kd sta va tld : Int32} {tb : List Int32} (hR : zat h 4 = some (.inr (.inr (.inr (4, [.int wr, .int wa, .ref 2, .int (nI ln), .int (nI nx), .int kd, .int sta, .int va, .int tld, .ref rd]))))) (hT : zat h 2 = some (.inl (1, 700, tb))) (hln : ln ≤ 700) (hn : nx ≤ ln) : wq 60 0 [(0, .ref 4)] [] h 0 0 (fun rr9 => ∃ (h2 : zH), rr9 = (some (.int ((tdG tb ln nx).1)), h2, 0, 0) ∧ wFr [4] h h2 ∧ h2.length = h.length ∧ zat h2 4 = some (.inr (.inr (.inr (4, [.int wr, .int wa, .ref 2, .int (nI ln), .int (nI ((tdG tb ln nx).2)), .int kd, .int sta, .int va, .int tld, .ref rd]))))) := by
  have qnnx := nI_toInt (n := nx) (by omega)
  have qnln := nI_toInt (n := ln) (by omega)
  refine wq_gos (f := 1) (pc2 := 2) (ls2 := [(1, .int 0), (0, .ref 4)]) (st2 := []) (h2 := h) (dc2 := 0) (ds2 := 0) 2 rfl ?_
  refine wq_ls [(0, .ref 4), (1, .int (0 : Int32))] (show ([0, 1] : List Nat).Nodup by decide) ⟨rfl, rfl, trivial⟩ ?_
  refine wq_mono (c_tdL (by first | omega | assumption | decide) ((ln - nx) + 1) (0 : Int32) nx h hR hT (by first | omega | assumption | decide) (by omega) 0 0) ?_
  rintro _ ⟨h81x, rfl, f81x, l81x, c01x⟩
  have hx : (tdG tb ln nx) = (((tdF tb ln ((ln - nx) + 1) (0 : Int32) nx).1), ((tdF tb ln ((ln - nx) + 1) (0 : Int32) nx).2)) := by unfold tdG; rfl
  rw [hx]
  exact ⟨h81x, rfl, (wFr_sub f81x (by simp)), by omega, c01x⟩
