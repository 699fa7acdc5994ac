/-! The class: the reader refuses, reads numbers, lines. -/
set_option maxRecDepth 100000 in
set_option maxHeartbeats 4000000 in
theorem c_ref {h : zH} {ln nx rd : Nat} {wr wa kd sta va tld : Int32} {w : Int32} (hR : zat h 4 = some (.inr (.inr (.inr (4, [.int wr, .int wa, .ref 2, .int (nI ln), .int (nI nx), .int kd, .int sta, .int va, .int tld, .ref rd])))))  : wq 45 0 [(0, .ref 4), (1, .int w)] [] h 0 0 (fun rr9 => ∃ (h2 : zH), rr9 = (some (.int 0), h2, 0, 0) ∧ wFr [4] h h2 ∧ h2.length = h.length ∧ zat h2 4 = some (.inr (.inr (.inr (4, [.int w, .int sta, .ref 2, .int (nI ln), .int (nI nx), .int kd, .int sta, .int va, .int tld, .ref rd]))))) := by
  refine wq_gos (f := 1) (pc2 := 2) (ls2 := [(0, .ref 4), (1, .int w)]) (st2 := [.int w, .ref 4]) (h2 := h) (dc2 := 0) (ds2 := 0) 2 rfl ?_
  refine wq_putf rfl hR rfl rfl rfl ?_
  intro h1x e2x f3x l4x
  have e2x : zat h1x 4 = some (.inr (.inr (.inr (4, [.int w, .int wa, .ref 2, .int (nI ln), .int (nI nx), .int kd, .int sta, .int va, .int tld, .ref rd])))) := e2x
  refine wq_gos (f := 1) (pc2 := 7) (ls2 := [(0, .ref 4), (1, .int w)]) (st2 := [.ref 4, .ref 4]) (h2 := h1x) (dc2 := 0) (ds2 := 0) 2 rfl ?_
  refine wq_getf rfl e2x rfl rfl ?_
  refine wq_putf rfl e2x rfl rfl rfl ?_
  intro h5x e6x f7x l8x
  have e6x : zat h5x 4 = some (.inr (.inr (.inr (4, [.int w, .int sta, .ref 2, .int (nI ln), .int (nI nx), .int kd, .int sta, .int va, .int tld, .ref rd])))) := e6x
  refine wq_gos (f := 1) (pc2 := 14) (ls2 := [(0, .ref 4), (1, .int w)]) (st2 := [.int 0]) (h2 := h5x) (dc2 := 0) (ds2 := 0) 1 rfl ?_
  exact wq_ret rfl rfl ⟨h5x, rfl, (wFr_tr (wFr_sub f3x (by simp)) (wFr_sub f7x (by simp))), (by omega), e6x⟩
noncomputable def rnG (tb : List Int32) (ln : Nat) (wr wa : Int32) (nx : Nat) (kd sta va : Int32) (lo hi b : Int32) : Int32 × Int32 × Int32 × Nat × Int32 × Int32 × Int32 := (zlet (adG tb ln nx kd sta va) (fun v2x => (if (v2x.2.1) = (2 : Int32) then (if (v2x.2.2.2).toInt < lo.toInt then ((0 : Int32), (2 : Int32), (v2x.2.2.1), (v2x.1), (v2x.2.1), (v2x.2.2.1), (v2x.2.2.2)) else (if (v2x.2.2.2).toInt ≤ hi.toInt then ((1 : Int32), wr, wa, (v2x.1), (v2x.2.1), (v2x.2.2.1), (v2x.2.2.2)) else ((0 : Int32), (2 : Int32), (v2x.2.2.1), (v2x.1), (v2x.2.1), (v2x.2.2.1), (v2x.2.2.2)))) else (if b = (0 : Int32) then ((0 : Int32), (1 : Int32), (v2x.2.2.1), (v2x.1), (v2x.2.1), (v2x.2.2.1), (v2x.2.2.2)) else (if (v2x.2.1) = (3 : Int32) then (if (v2x.2.2.2).toInt < lo.toInt then ((0 : Int32), (2 : Int32), (v2x.2.2.1), (v2x.1), (v2x.2.1), (v2x.2.2.1), (v2x.2.2.2)) else (if (v2x.2.2.2).toInt ≤ hi.toInt then ((1 : Int32), wr, wa, (v2x.1), (v2x.2.1), (v2x.2.2.1), (v2x.2.2.2)) else ((0 : Int32), (2 : Int32), (v2x.2.2.1), (v2x.1), (v2x.2.1), (v2x.2.2.1), (v2x.2.2.2)))) else ((0 : Int32), (1 : Int32), (v2x.2.2.1), (v2x.1), (v2x.2.1), (v2x.2.2.1), (v2x.2.2.2)))))))
set_option maxRecDepth 100000 in
set_option maxHeartbeats 4000000 in
theorem c_rn {h : zH} {ln nx rd : Nat} {wr wa kd sta va tld : Int32} {tb : List Int32} {lo hi b : Int32} (hR : zat h 4 = some (.inr (.inr (.inr (4, [.int wr, .int wa, .ref 2, .int (nI ln), .int (nI nx), .int kd, .int sta, .int va, .int tld, .ref rd]))))) (hT : zat h 2 = some (.inl (1, 700, tb))) (hln : ln ≤ 700) (hn : nx ≤ ln) : wq 55 0 [(0, .ref 4), (1, .int lo), (2, .int hi), (3, .int b)] [] h 0 0 (fun rr9 => ∃ (h2 : zH), rr9 = (some (.int ((rnG tb ln wr wa nx kd sta va lo hi b).1)), h2, 0, 0) ∧ wFr [4] h h2 ∧ h2.length = h.length ∧ zat h2 4 = some (.inr (.inr (.inr (4, [.int ((rnG tb ln wr wa nx kd sta va lo hi b).2.1), .int ((rnG tb ln wr wa nx kd sta va lo hi b).2.2.1), .ref 2, .int (nI ln), .int (nI ((rnG tb ln wr wa nx kd sta va lo hi b).2.2.2.1)), .int ((rnG tb ln wr wa nx kd sta va lo hi b).2.2.2.2.1), .int ((rnG tb ln wr wa nx kd sta va lo hi b).2.2.2.2.2.1), .int ((rnG tb ln wr wa nx kd sta va lo hi b).2.2.2.2.2.2), .int tld, .ref rd])))) ∧ ((((rnG tb ln wr wa nx kd sta va lo hi b).2.2.2.1) ≤ ln)) ∧ (((((rnG tb ln wr wa nx kd sta va lo hi b).1)).toInt ≠ 0 → lo.toInt ≤ (((rnG tb ln wr wa nx kd sta va lo hi b).2.2.2.2.2.2)).toInt ∧ (((rnG tb ln wr wa nx kd sta va lo hi b).2.2.2.2.2.2)).toInt ≤ hi.toInt))) := by
  have z0 : (0 : Int32).toInt = 0 := rfl
  have z1 : (1 : Int32).toInt = 1 := rfl
  refine wq_gos (f := 1) (pc2 := 1) (ls2 := [(0, .ref 4), (1, .int lo), (2, .int hi), (3, .int b)]) (st2 := [.ref 4]) (h2 := h) (dc2 := 0) (ds2 := 0) 1 rfl ?_
  refine wq_inlv (y2 := 58) (as := []) rfl rfl rfl hR rfl (wq_mono (c_adv hR hT (by first | omega | assumption | decide | solve_by_elim) (by first | omega | assumption | decide | solve_by_elim)) ?_)
  rintro _ ⟨h81x, rfl, f81x, l81x, c01x, p01x⟩
  show wq 55 4 [(0, .ref 4), (1, .int lo), (2, .int hi), (3, .int b)] [] h81x 0 0 _
  obtain ⟨v2x, hv3x⟩ : ∃ x, x = (adG tb ln nx kd sta va) := ⟨_, rfl⟩
  try rw [← hv3x] at c01x
  try rw [← hv3x] at p01x
  try rw [← hv3x]
  refine wq_gos (f := 1) (pc2 := 5) (ls2 := [(0, .ref 4), (1, .int lo), (2, .int hi), (3, .int b)]) (st2 := [.ref 4]) (h2 := h81x) (dc2 := 0) (ds2 := 0) 1 rfl ?_
  refine wq_getf rfl c01x rfl rfl ?_
  refine wq_gos (f := 1) (pc2 := 9) (ls2 := [(0, .ref 4), (1, .int lo), (2, .int hi), (3, .int b)]) (st2 := [.int 2, .int (v2x.2.1)]) (h2 := h81x) (dc2 := 0) (ds2 := 0) 1 rfl ?_
  have q4x : (2 : Int32).toInt = 2 := rfl
  refine wq_eq2 rfl rfl (fun b5x => ?_) (fun b5x => ?_)
  · have q6x : (v2x.2.1).toInt = 2 := congrArg Int32.toInt b5x
    refine wq_gos (f := 1) (pc2 := 31) (ls2 := [(0, .ref 4), (1, .int lo), (2, .int hi), (3, .int b)]) (st2 := [.ref 4]) (h2 := h81x) (dc2 := 0) (ds2 := 0) 1 rfl ?_
    refine wq_getf rfl c01x rfl rfl ?_
    refine wq_gos (f := 1) (pc2 := 35) (ls2 := [(0, .ref 4), (1, .int lo), (2, .int hi), (3, .int b)]) (st2 := [.int lo, .int (v2x.2.2.2)]) (h2 := h81x) (dc2 := 0) (ds2 := 0) 1 rfl ?_
    refine wq_lt2 rfl rfl (fun b7x => ?_) (fun b7x => ?_)
    · refine wq_gos (f := 1) (pc2 := 48) (ls2 := [(0, .ref 4), (1, .int lo), (2, .int hi), (3, .int b)]) (st2 := [.int 2, .ref 4]) (h2 := h81x) (dc2 := 0) (ds2 := 0) 2 rfl ?_
      refine wq_inlv (y2 := 45) (as := [.int 2]) rfl rfl rfl c01x rfl (wq_mono (c_ref c01x) ?_)
      rintro _ ⟨h88x, rfl, f88x, l88x, c08x⟩
      show wq 55 51 [(0, .ref 4), (1, .int lo), (2, .int hi), (3, .int b)] [.int 0] h88x 0 0 _
      refine wq_gos (f := 1) (pc2 := 59) (ls2 := [(0, .ref 4), (1, .int lo), (2, .int hi), (3, .int b)]) (st2 := [.int 0]) (h2 := h88x) (dc2 := 0) (ds2 := 0) 2 rfl ?_
      have hx : (rnG tb ln wr wa nx kd sta va lo hi b) = ((0 : Int32), (2 : Int32), (v2x.2.2.1), (v2x.1), (v2x.2.1), (v2x.2.2.1), (v2x.2.2.2)) := by unfold rnG; rw [zlet_eq hv3x, if_pos b5x, if_pos b7x]
      rw [hx]
      exact wq_ret rfl rfl ⟨h88x, rfl, (wFr_tr (wFr_sub f81x (by simp)) (wFr_sub f88x (by simp))), by omega, c08x, (by first | ((try dsimp only); omega) | assumption | ((try dsimp only); intro q9; first | omega | exact absurd rfl q9 | assumption)), (by first | ((try dsimp only); omega) | assumption | ((try dsimp only); intro q9; first | omega | exact absurd rfl q9 | assumption))⟩
    · refine wq_gos (f := 1) (pc2 := 39) (ls2 := [(0, .ref 4), (1, .int lo), (2, .int hi), (3, .int b)]) (st2 := [.ref 4]) (h2 := h81x) (dc2 := 0) (ds2 := 0) 1 rfl ?_
      refine wq_getf rfl c01x rfl rfl ?_
      refine wq_gos (f := 1) (pc2 := 43) (ls2 := [(0, .ref 4), (1, .int lo), (2, .int hi), (3, .int b)]) (st2 := [.int hi, .int (v2x.2.2.2)]) (h2 := h81x) (dc2 := 0) (ds2 := 0) 1 rfl ?_
      refine wq_le2 rfl rfl (fun b9x => ?_) (fun b9x => ?_)
      · refine wq_gos (f := 1) (pc2 := 59) (ls2 := [(0, .ref 4), (1, .int lo), (2, .int hi), (3, .int b)]) (st2 := [.int 1]) (h2 := h81x) (dc2 := 0) (ds2 := 0) 2 rfl ?_
        have hx : (rnG tb ln wr wa nx kd sta va lo hi b) = ((1 : Int32), wr, wa, (v2x.1), (v2x.2.1), (v2x.2.2.1), (v2x.2.2.2)) := by unfold rnG; rw [zlet_eq hv3x, if_pos b5x, if_neg (Int.not_lt.mpr b7x), if_pos b9x]
        rw [hx]
        exact wq_ret rfl rfl ⟨h81x, rfl, (wFr_sub f81x (by simp)), by omega, c01x, (by first | ((try dsimp only); omega) | assumption | ((try dsimp only); intro q9; first | omega | exact absurd rfl q9 | assumption)), (by first | ((try dsimp only); omega) | assumption | ((try dsimp only); intro q9; first | omega | exact absurd rfl q9 | assumption))⟩
      · refine wq_gos (f := 1) (pc2 := 48) (ls2 := [(0, .ref 4), (1, .int lo), (2, .int hi), (3, .int b)]) (st2 := [.int 2, .ref 4]) (h2 := h81x) (dc2 := 0) (ds2 := 0) 2 rfl ?_
        refine wq_inlv (y2 := 45) (as := [.int 2]) rfl rfl rfl c01x rfl (wq_mono (c_ref c01x) ?_)
        rintro _ ⟨h810x, rfl, f810x, l810x, c010x⟩
        show wq 55 51 [(0, .ref 4), (1, .int lo), (2, .int hi), (3, .int b)] [.int 0] h810x 0 0 _
        refine wq_gos (f := 1) (pc2 := 59) (ls2 := [(0, .ref 4), (1, .int lo), (2, .int hi), (3, .int b)]) (st2 := [.int 0]) (h2 := h810x) (dc2 := 0) (ds2 := 0) 2 rfl ?_
        have hx : (rnG tb ln wr wa nx kd sta va lo hi b) = ((0 : Int32), (2 : Int32), (v2x.2.2.1), (v2x.1), (v2x.2.1), (v2x.2.2.1), (v2x.2.2.2)) := by unfold rnG; rw [zlet_eq hv3x, if_pos b5x, if_neg (Int.not_lt.mpr b7x), if_neg (Int.not_le.mpr b9x)]
        rw [hx]
        exact wq_ret rfl rfl ⟨h810x, rfl, (wFr_tr (wFr_sub f81x (by simp)) (wFr_sub f810x (by simp))), by omega, c010x, (by first | ((try dsimp only); omega) | assumption | ((try dsimp only); intro q9; first | omega | exact absurd rfl q9 | assumption)), (by first | ((try dsimp only); omega) | assumption | ((try dsimp only); intro q9; first | omega | exact absurd rfl q9 | assumption))⟩
  · have q11x : (v2x.2.1).toInt ≠ 2 := fun q => b5x (Int32.toInt_inj.mp q)
    refine wq_gos (f := 1) (pc2 := 13) (ls2 := [(0, .ref 4), (1, .int lo), (2, .int hi), (3, .int b)]) (st2 := [.int b]) (h2 := h81x) (dc2 := 0) (ds2 := 0) 1 rfl ?_
    refine wq_eq0 rfl rfl (fun b12x => ?_) (fun b12x => ?_)
    · have q13x : b.toInt = 0 := congrArg Int32.toInt b12x
      refine wq_gos (f := 1) (pc2 := 26) (ls2 := [(0, .ref 4), (1, .int lo), (2, .int hi), (3, .int b)]) (st2 := [.int 1, .ref 4]) (h2 := h81x) (dc2 := 0) (ds2 := 0) 2 rfl ?_
      have q14x : (1 : Int32).toInt = 1 := rfl
      refine wq_inlv (y2 := 45) (as := [.int 1]) rfl rfl rfl c01x rfl (wq_mono (c_ref c01x) ?_)
      rintro _ ⟨h815x, rfl, f815x, l815x, c015x⟩
      show wq 55 29 [(0, .ref 4), (1, .int lo), (2, .int hi), (3, .int b)] [.int 0] h815x 0 0 _
      have hx : (rnG tb ln wr wa nx kd sta va lo hi b) = ((0 : Int32), (1 : Int32), (v2x.2.2.1), (v2x.1), (v2x.2.1), (v2x.2.2.1), (v2x.2.2.2)) := by unfold rnG; rw [zlet_eq hv3x, if_neg b5x, if_pos b12x]
      rw [hx]
      exact wq_ret rfl rfl ⟨h815x, rfl, (wFr_tr (wFr_sub f81x (by simp)) (wFr_sub f815x (by simp))), by omega, c015x, (by first | ((try dsimp only); omega) | assumption | ((try dsimp only); intro q9; first | omega | exact absurd rfl q9 | assumption)), (by first | ((try dsimp only); omega) | assumption | ((try dsimp only); intro q9; first | omega | exact absurd rfl q9 | assumption))⟩
    · have q16x : b.toInt ≠ 0 := fun q => b12x (Int32.toInt_inj.mp q)
      refine wq_gos (f := 1) (pc2 := 17) (ls2 := [(0, .ref 4), (1, .int lo), (2, .int hi), (3, .int b)]) (st2 := [.ref 4]) (h2 := h81x) (dc2 := 0) (ds2 := 0) 1 rfl ?_
      refine wq_getf rfl c01x rfl rfl ?_
      refine wq_gos (f := 1) (pc2 := 21) (ls2 := [(0, .ref 4), (1, .int lo), (2, .int hi), (3, .int b)]) (st2 := [.int 3, .int (v2x.2.1)]) (h2 := h81x) (dc2 := 0) (ds2 := 0) 1 rfl ?_
      have q17x : (3 : Int32).toInt = 3 := rfl
      refine wq_eq2 rfl rfl (fun b18x => ?_) (fun b18x => ?_)
      · have q19x : (v2x.2.1).toInt = 3 := congrArg Int32.toInt b18x
        refine wq_gos (f := 1) (pc2 := 31) (ls2 := [(0, .ref 4), (1, .int lo), (2, .int hi), (3, .int b)]) (st2 := [.ref 4]) (h2 := h81x) (dc2 := 0) (ds2 := 0) 1 rfl ?_
        refine wq_getf rfl c01x rfl rfl ?_
        refine wq_gos (f := 1) (pc2 := 35) (ls2 := [(0, .ref 4), (1, .int lo), (2, .int hi), (3, .int b)]) (st2 := [.int lo, .int (v2x.2.2.2)]) (h2 := h81x) (dc2 := 0) (ds2 := 0) 1 rfl ?_
        refine wq_lt2 rfl rfl (fun b20x => ?_) (fun b20x => ?_)
        · refine wq_gos (f := 1) (pc2 := 48) (ls2 := [(0, .ref 4), (1, .int lo), (2, .int hi), (3, .int b)]) (st2 := [.int 2, .ref 4]) (h2 := h81x) (dc2 := 0) (ds2 := 0) 2 rfl ?_
          refine wq_inlv (y2 := 45) (as := [.int 2]) rfl rfl rfl c01x rfl (wq_mono (c_ref c01x) ?_)
          rintro _ ⟨h821x, rfl, f821x, l821x, c021x⟩
          show wq 55 51 [(0, .ref 4), (1, .int lo), (2, .int hi), (3, .int b)] [.int 0] h821x 0 0 _
          refine wq_gos (f := 1) (pc2 := 59) (ls2 := [(0, .ref 4), (1, .int lo), (2, .int hi), (3, .int b)]) (st2 := [.int 0]) (h2 := h821x) (dc2 := 0) (ds2 := 0) 2 rfl ?_
          have hx : (rnG tb ln wr wa nx kd sta va lo hi b) = ((0 : Int32), (2 : Int32), (v2x.2.2.1), (v2x.1), (v2x.2.1), (v2x.2.2.1), (v2x.2.2.2)) := by unfold rnG; rw [zlet_eq hv3x, if_neg b5x, if_neg b12x, if_pos b18x, if_pos b20x]
          rw [hx]
          exact wq_ret rfl rfl ⟨h821x, rfl, (wFr_tr (wFr_sub f81x (by simp)) (wFr_sub f821x (by simp))), by omega, c021x, (by first | ((try dsimp only); omega) | assumption | ((try dsimp only); intro q9; first | omega | exact absurd rfl q9 | assumption)), (by first | ((try dsimp only); omega) | assumption | ((try dsimp only); intro q9; first | omega | exact absurd rfl q9 | assumption))⟩
        · refine wq_gos (f := 1) (pc2 := 39) (ls2 := [(0, .ref 4), (1, .int lo), (2, .int hi), (3, .int b)]) (st2 := [.ref 4]) (h2 := h81x) (dc2 := 0) (ds2 := 0) 1 rfl ?_
          refine wq_getf rfl c01x rfl rfl ?_
          refine wq_gos (f := 1) (pc2 := 43) (ls2 := [(0, .ref 4), (1, .int lo), (2, .int hi), (3, .int b)]) (st2 := [.int hi, .int (v2x.2.2.2)]) (h2 := h81x) (dc2 := 0) (ds2 := 0) 1 rfl ?_
          refine wq_le2 rfl rfl (fun b22x => ?_) (fun b22x => ?_)
          · refine wq_gos (f := 1) (pc2 := 59) (ls2 := [(0, .ref 4), (1, .int lo), (2, .int hi), (3, .int b)]) (st2 := [.int 1]) (h2 := h81x) (dc2 := 0) (ds2 := 0) 2 rfl ?_
            have hx : (rnG tb ln wr wa nx kd sta va lo hi b) = ((1 : Int32), wr, wa, (v2x.1), (v2x.2.1), (v2x.2.2.1), (v2x.2.2.2)) := by unfold rnG; rw [zlet_eq hv3x, if_neg b5x, if_neg b12x, if_pos b18x, if_neg (Int.not_lt.mpr b20x), if_pos b22x]
            rw [hx]
            exact wq_ret rfl rfl ⟨h81x, rfl, (wFr_sub f81x (by simp)), by omega, c01x, (by first | ((try dsimp only); omega) | assumption | ((try dsimp only); intro q9; first | omega | exact absurd rfl q9 | assumption)), (by first | ((try dsimp only); omega) | assumption | ((try dsimp only); intro q9; first | omega | exact absurd rfl q9 | assumption))⟩
          · refine wq_gos (f := 1) (pc2 := 48) (ls2 := [(0, .ref 4), (1, .int lo), (2, .int hi), (3, .int b)]) (st2 := [.int 2, .ref 4]) (h2 := h81x) (dc2 := 0) (ds2 := 0) 2 rfl ?_
            refine wq_inlv (y2 := 45) (as := [.int 2]) rfl rfl rfl c01x rfl (wq_mono (c_ref c01x) ?_)
            rintro _ ⟨h823x, rfl, f823x, l823x, c023x⟩
            show wq 55 51 [(0, .ref 4), (1, .int lo), (2, .int hi), (3, .int b)] [.int 0] h823x 0 0 _
            refine wq_gos (f := 1) (pc2 := 59) (ls2 := [(0, .ref 4), (1, .int lo), (2, .int hi), (3, .int b)]) (st2 := [.int 0]) (h2 := h823x) (dc2 := 0) (ds2 := 0) 2 rfl ?_
            have hx : (rnG tb ln wr wa nx kd sta va lo hi b) = ((0 : Int32), (2 : Int32), (v2x.2.2.1), (v2x.1), (v2x.2.1), (v2x.2.2.1), (v2x.2.2.2)) := by unfold rnG; rw [zlet_eq hv3x, if_neg b5x, if_neg b12x, if_pos b18x, if_neg (Int.not_lt.mpr b20x), if_neg (Int.not_le.mpr b22x)]
            rw [hx]
            exact wq_ret rfl rfl ⟨h823x, rfl, (wFr_tr (wFr_sub f81x (by simp)) (wFr_sub f823x (by simp))), by omega, c023x, (by first | ((try dsimp only); omega) | assumption | ((try dsimp only); intro q9; first | omega | exact absurd rfl q9 | assumption)), (by first | ((try dsimp only); omega) | assumption | ((try dsimp only); intro q9; first | omega | exact absurd rfl q9 | assumption))⟩
      · have q24x : (v2x.2.1).toInt ≠ 3 := fun q => b18x (Int32.toInt_inj.mp q)
        refine wq_gos (f := 1) (pc2 := 26) (ls2 := [(0, .ref 4), (1, .int lo), (2, .int hi), (3, .int b)]) (st2 := [.int 1, .ref 4]) (h2 := h81x) (dc2 := 0) (ds2 := 0) 2 rfl ?_
        have q25x : (1 : Int32).toInt = 1 := rfl
        refine wq_inlv (y2 := 45) (as := [.int 1]) rfl rfl rfl c01x rfl (wq_mono (c_ref c01x) ?_)
        rintro _ ⟨h826x, rfl, f826x, l826x, c026x⟩
        show wq 55 29 [(0, .ref 4), (1, .int lo), (2, .int hi), (3, .int b)] [.int 0] h826x 0 0 _
        have hx : (rnG tb ln wr wa nx kd sta va lo hi b) = ((0 : Int32), (1 : Int32), (v2x.2.2.1), (v2x.1), (v2x.2.1), (v2x.2.2.1), (v2x.2.2.2)) := by unfold rnG; rw [zlet_eq hv3x, if_neg b5x, if_neg b12x, if_neg b18x]
        rw [hx]
        exact wq_ret rfl rfl ⟨h826x, rfl, (wFr_tr (wFr_sub f81x (by simp)) (wFr_sub f826x (by simp))), by omega, c026x, (by first | ((try dsimp only); omega) | assumption | ((try dsimp only); intro q9; first | omega | exact absurd rfl q9 | assumption)), (by first | ((try dsimp only); omega) | assumption | ((try dsimp only); intro q9; first | omega | exact absurd rfl q9 | assumption))⟩
noncomputable def toG (wr wa sta tld b : Int32) : Int32 × Int32 × Int32 × Int32 := (if (((tld).toUInt32 >>> ((b).toUInt32 &&& Int32.toUInt32 31)).toInt32 &&& (1 : Int32)) = (0 : Int32) then ((1 : Int32), wr, wa, (tld ||| ((1 : Int32) <<< (b &&& 31)))) else ((0 : Int32), (3 : Int32), sta, tld))
set_option maxRecDepth 100000 in
set_option maxHeartbeats 4000000 in
theorem c_to {h : zH} {ln nx rd : Nat} {wr wa kd sta va tld b : Int32} (hR : zat h 4 = some (.inr (.inr (.inr (4, [.int wr, .int wa, .ref 2, .int (nI ln), .int (nI nx), .int kd, .int sta, .int va, .int tld, .ref rd])))))  : wq 47 0 [(0, .ref 4), (1, .int b)] [] h 0 0 (fun rr9 => ∃ (h2 : zH), rr9 = (some (.int ((toG wr wa sta tld b).1)), h2, 0, 0) ∧ wFr [4] h h2 ∧ h2.length = h.length ∧ zat h2 4 = some (.inr (.inr (.inr (4, [.int ((toG wr wa sta tld b).2.1), .int ((toG wr wa sta tld b).2.2.1), .ref 2, .int (nI ln), .int (nI nx), .int kd, .int sta, .int va, .int ((toG wr wa sta tld b).2.2.2), .ref rd]))))) := by
  refine wq_gos (f := 1) (pc2 := 1) (ls2 := [(0, .ref 4), (1, .int b)]) (st2 := [.ref 4]) (h2 := h) (dc2 := 0) (ds2 := 0) 1 rfl ?_
  refine wq_getf rfl hR rfl rfl ?_
  refine wq_gos (f := 1) (pc2 := 8) (ls2 := [(0, .ref 4), (1, .int b)]) (st2 := [.int (((tld).toUInt32 >>> ((b).toUInt32 &&& Int32.toUInt32 31)).toInt32 &&& (1 : Int32))]) (h2 := h) (dc2 := 0) (ds2 := 0) 4 rfl ?_
  refine wq_eq0 rfl rfl (fun b1x => ?_) (fun b1x => ?_)
  · have q2x : (((tld).toUInt32 >>> ((b).toUInt32 &&& Int32.toUInt32 31)).toInt32 &&& (1 : Int32)).toInt = 0 := congrArg Int32.toInt b1x
    refine wq_gos (f := 1) (pc2 := 19) (ls2 := [(0, .ref 4), (1, .int b)]) (st2 := [.ref 4, .ref 4]) (h2 := h) (dc2 := 0) (ds2 := 0) 2 rfl ?_
    refine wq_getf rfl hR rfl rfl ?_
    refine wq_gos (f := 1) (pc2 := 26) (ls2 := [(0, .ref 4), (1, .int b)]) (st2 := [.int (tld ||| ((1 : Int32) <<< (b &&& 31))), .ref 4]) (h2 := h) (dc2 := 0) (ds2 := 0) 4 rfl ?_
    refine wq_putf rfl hR rfl rfl rfl ?_
    intro h3x e4x f5x l6x
    have e4x : zat h3x 4 = some (.inr (.inr (.inr (4, [.int wr, .int wa, .ref 2, .int (nI ln), .int (nI nx), .int kd, .int sta, .int va, .int (tld ||| ((1 : Int32) <<< (b &&& 31))), .ref rd])))) := e4x
    refine wq_gos (f := 1) (pc2 := 30) (ls2 := [(0, .ref 4), (1, .int b)]) (st2 := [.int 1]) (h2 := h3x) (dc2 := 0) (ds2 := 0) 1 rfl ?_
    have hx : (toG wr wa sta tld b) = ((1 : Int32), wr, wa, (tld ||| ((1 : Int32) <<< (b &&& 31)))) := by unfold toG; rw [if_pos b1x]
    rw [hx]
    exact wq_ret rfl rfl ⟨h3x, rfl, (wFr_sub f5x (by simp)), by omega, e4x⟩
  · have q7x : (((tld).toUInt32 >>> ((b).toUInt32 &&& Int32.toUInt32 31)).toInt32 &&& (1 : Int32)).toInt ≠ 0 := fun q => b1x (Int32.toInt_inj.mp q)
    refine wq_gos (f := 1) (pc2 := 13) (ls2 := [(0, .ref 4), (1, .int b)]) (st2 := [.int 3, .ref 4]) (h2 := h) (dc2 := 0) (ds2 := 0) 2 rfl ?_
    have q8x : (3 : Int32).toInt = 3 := rfl
    refine wq_inlv (y2 := 45) (as := [.int 3]) rfl rfl rfl hR rfl (wq_mono (c_ref hR) ?_)
    rintro _ ⟨h89x, rfl, f89x, l89x, c09x⟩
    show wq 47 16 [(0, .ref 4), (1, .int b)] [.int 0] h89x 0 0 _
    have hx : (toG wr wa sta tld b) = ((0 : Int32), (3 : Int32), sta, tld) := by unfold toG; rw [if_neg b1x]
    rw [hx]
    exact wq_ret rfl rfl ⟨h89x, rfl, (wFr_sub f89x (by simp)), by omega, c09x⟩
noncomputable def lwF (va : Int32) : Nat → Nat → Int32
  | 0, _ => 0
  | m + 1, k => (if (10 : Int32).toInt ≤ (nI k).toInt then (-1) else (if (zWords.getD ((nI k)).toNatClampNeg 0) ≠ va then (lwF va m (k + 1)) else (nI k)))
set_option maxRecDepth 100000 in
set_option maxHeartbeats 4000000 in
theorem c_lwL {h : zH} {ln nx rd : Nat} {wr wa kd sta va tld : Int32} (hR : zat h 4 = some (.inr (.inr (.inr (4, [.int wr, .int wa, .ref 2, .int (nI ln), .int (nI nx), .int kd, .int sta, .int va, .int tld, .ref rd])))))  : ∀ (m : Nat) (k : Nat), (k ≤ 10) → (10 - k) < m → ∀ (dc ds : Nat), wq 56 2 [(0, .ref 4), (1, .int (nI k))] [] h dc ds (fun rr9 => rr9 = (some (Value.int (lwF va m k)), h, dc, ds)) := by
  intro m
  induction m with
  | zero => intro k hk hms dc ds; omega
  | succ m ih =>
    intro k hk hms dc ds
    have qnk := nI_toInt (n := k) (by omega)
    refine wq_gos (f := 1) (pc2 := 7) (ls2 := [(0, .ref 4), (1, .int (nI k))]) (st2 := [.int 10, .int (nI k)]) (h2 := h) (dc2 := dc) (ds2 := ds) 3 rfl ?_
    try have q1x := nI_toInt (n := k) (by omega)
    have q2x : (10 : Int32).toInt = 10 := rfl
    refine wq_ge2 rfl rfl (fun b3x => ?_) (fun b3x => ?_)
    · refine wq_gos (f := 1) (pc2 := 31) (ls2 := [(0, .ref 4), (1, .int (nI k))]) (st2 := [.int (-1)]) (h2 := h) (dc2 := dc) (ds2 := ds) 1 rfl ?_
      have hx : (lwF va (m + 1) k) = (-1) := by show (if _ then _ else _) = _; rw [if_pos b3x]
      refine wq_ret rfl rfl ?_
      show (some (Value.int (-1)), h, dc, ds) = (some (Value.int (lwF va (m + 1) k)), h, dc, ds)
      rw [hx]
    · refine wq_gos (f := 1) (pc2 := 14) (ls2 := [(0, .ref 4), (1, .int (nI k))]) (st2 := [.int (nI k), .ref 7]) (h2 := h) (dc2 := dc) (ds2 := ds) 2 rfl ?_
      refine wq_ialdc (n := 10) rfl ⟨rfl, rfl⟩ (by first | omega | exact zin_t (by omega) (by omega)) rfl ?_
      refine wq_gos (f := 1) (pc2 := 16) (ls2 := [(0, .ref 4), (1, .int (nI k))]) (st2 := [.ref 4, .int (zWords.getD ((nI k)).toNatClampNeg 0)]) (h2 := h) (dc2 := dc) (ds2 := ds) 1 rfl ?_
      refine wq_getf rfl hR rfl rfl ?_
      refine wq_ne2 rfl rfl (fun b4x => ?_) (fun b4x => ?_)
      · have q5x : (zWords.getD ((nI k)).toNatClampNeg 0).toInt ≠ va.toInt := fun q => b4x (Int32.toInt_inj.mp q)
        refine wq_gos (f := 1) (pc2 := 27) (ls2 := [(1, .int ((nI k) + 1)), (0, .ref 4)]) (st2 := []) (h2 := h) (dc2 := dc) (ds2 := ds) 1 rfl ?_
        rw [nI_1]
        refine wq_gos (f := 1) (pc2 := 2) (ls2 := [(1, .int (nI (k + 1))), (0, .ref 4)]) (st2 := []) (h2 := h) (dc2 := dc) (ds2 := ds) 1 rfl ?_
        try have q6x := nI_toInt (n := (k + 1)) (by omega)
        have hx : (lwF va (m + 1) k) = (lwF va m (k + 1)) := by show (if _ then _ else _) = _; rw [if_neg (Int.not_le.mpr b3x), if_pos b4x]
        rw [hx]
        refine wq_ls [(0, .ref 4), (1, .int (nI (k + 1)))] (show ([0, 1] : List Nat).Nodup by decide) ⟨rfl, rfl, trivial⟩ ?_
        exact ih (k + 1) (by first | omega | assumption | decide | solve_by_elim) (by omega) dc ds
      · have q7x : (zWords.getD ((nI k)).toNatClampNeg 0).toInt = va.toInt := congrArg Int32.toInt b4x
        refine wq_gos (f := 1) (pc2 := 23) (ls2 := [(0, .ref 4), (1, .int (nI k))]) (st2 := [.int (nI k)]) (h2 := h) (dc2 := dc) (ds2 := ds) 1 rfl ?_
        have hx : (lwF va (m + 1) k) = (nI k) := by show (if _ then _ else _) = _; rw [if_neg (Int.not_le.mpr b3x), if_neg (fun q => q b4x)]
        refine wq_ret rfl rfl ?_
        show (some (Value.int (nI k)), h, dc, ds) = (some (Value.int (lwF va (m + 1) k)), h, dc, ds)
        rw [hx]
set_option maxRecDepth 100000 in
set_option maxHeartbeats 4000000 in
theorem c_lw {h : zH} {ln nx rd : Nat} {wr wa kd sta va tld : Int32} (hR : zat h 4 = some (.inr (.inr (.inr (4, [.int wr, .int wa, .ref 2, .int (nI ln), .int (nI nx), .int kd, .int sta, .int va, .int tld, .ref rd])))))  : wq 56 0 [(0, .ref 4)] [] h 0 0 (fun rr9 => rr9 = (some (.int (lwF va (10 - 0 + 1) 0)), h, 0, 0)) := by
  refine wq_gos (f := 1) (pc2 := 2) (ls2 := [(1, .int 0), (0, .ref 4)]) (st2 := []) (h2 := h) (dc2 := 0) (ds2 := 0) 2 rfl ?_
  refine wq_ls [(0, .ref 4), (1, .int (nI 0))] (show ([0, 1] : List Nat).Nodup by decide) ⟨rfl, rfl, trivial⟩ ?_
  refine wq_mono (c_lwL hR ((10 - 0) + 1) 0 (by first | omega | assumption | decide | solve_by_elim) (by omega) 0 0) ?_
  rintro _ rfl
  all_goals exact rfl
noncomputable def rmG (tb : List Int32) (ln : Nat) (wr wa : Int32) (nx : Nat) (kd sta va : Int32) : Int32 × Int32 × Int32 × Nat × Int32 × Int32 × Int32 := (zlet (adG tb ln nx kd sta va) (fun v2x => (if (v2x.2.1) ≠ (1 : Int32) then ((0 : Int32), (1 : Int32), (v2x.2.2.1), (v2x.1), (v2x.2.1), (v2x.2.2.1), (v2x.2.2.2)) else (if (lwF (v2x.2.2.2) (10 - 0 + 1) 0) = (-1 : Int32) then ((1 : Int32), wr, wa, (v2x.1), (v2x.2.1), (v2x.2.2.1), (v2x.2.2.2)) else ((0 : Int32), (1 : Int32), (v2x.2.2.1), (v2x.1), (v2x.2.1), (v2x.2.2.1), (v2x.2.2.2))))))
set_option maxRecDepth 100000 in
set_option maxHeartbeats 4000000 in
theorem c_rm {h : zH} {ln nx rd : Nat} {wr wa kd sta va tld : Int32} {tb : List Int32} (hR : zat h 4 = some (.inr (.inr (.inr (4, [.int wr, .int wa, .ref 2, .int (nI ln), .int (nI nx), .int kd, .int sta, .int va, .int tld, .ref rd]))))) (hT : zat h 2 = some (.inl (1, 700, tb))) (hln : ln ≤ 700) (hn : nx ≤ ln) : wq 54 0 [(0, .ref 4)] [] h 0 0 (fun rr9 => ∃ (h2 : zH), rr9 = (some (.int ((rmG tb ln wr wa nx kd sta va).1)), h2, 0, 0) ∧ wFr [4] h h2 ∧ h2.length = h.length ∧ zat h2 4 = some (.inr (.inr (.inr (4, [.int ((rmG tb ln wr wa nx kd sta va).2.1), .int ((rmG tb ln wr wa nx kd sta va).2.2.1), .ref 2, .int (nI ln), .int (nI ((rmG tb ln wr wa nx kd sta va).2.2.2.1)), .int ((rmG tb ln wr wa nx kd sta va).2.2.2.2.1), .int ((rmG tb ln wr wa nx kd sta va).2.2.2.2.2.1), .int ((rmG tb ln wr wa nx kd sta va).2.2.2.2.2.2), .int tld, .ref rd])))) ∧ ((((rmG tb ln wr wa nx kd sta va).2.2.2.1) ≤ ln))) := by
  have z0 : (0 : Int32).toInt = 0 := rfl
  have z1 : (1 : Int32).toInt = 1 := rfl
  refine wq_gos (f := 1) (pc2 := 1) (ls2 := [(0, .ref 4)]) (st2 := [.ref 4]) (h2 := h) (dc2 := 0) (ds2 := 0) 1 rfl ?_
  refine wq_inlv (y2 := 58) (as := []) rfl rfl rfl hR rfl (wq_mono (c_adv hR hT (by first | omega | assumption | decide | solve_by_elim) (by first | omega | assumption | decide | solve_by_elim)) ?_)
  rintro _ ⟨h81x, rfl, f81x, l81x, c01x, p01x⟩
  show wq 54 4 [(0, .ref 4)] [] h81x 0 0 _
  obtain ⟨v2x, hv3x⟩ : ∃ x, x = (adG tb ln nx kd sta va) := ⟨_, rfl⟩
  try rw [← hv3x] at c01x
  try rw [← hv3x] at p01x
  try rw [← hv3x]
  refine wq_gos (f := 1) (pc2 := 5) (ls2 := [(0, .ref 4)]) (st2 := [.ref 4]) (h2 := h81x) (dc2 := 0) (ds2 := 0) 1 rfl ?_
  refine wq_getf rfl c01x rfl rfl ?_
  refine wq_gos (f := 1) (pc2 := 9) (ls2 := [(0, .ref 4)]) (st2 := [.int 1, .int (v2x.2.1)]) (h2 := h81x) (dc2 := 0) (ds2 := 0) 1 rfl ?_
  have q4x : (1 : Int32).toInt = 1 := rfl
  refine wq_ne2 rfl rfl (fun b5x => ?_) (fun b5x => ?_)
  · have q6x : (v2x.2.1).toInt ≠ 1 := fun q => b5x (Int32.toInt_inj.mp q)
    refine wq_gos (f := 1) (pc2 := 22) (ls2 := [(0, .ref 4)]) (st2 := [.int 1, .ref 4]) (h2 := h81x) (dc2 := 0) (ds2 := 0) 2 rfl ?_
    refine wq_inlv (y2 := 45) (as := [.int 1]) rfl rfl rfl c01x rfl (wq_mono (c_ref c01x) ?_)
    rintro _ ⟨h87x, rfl, f87x, l87x, c07x⟩
    show wq 54 25 [(0, .ref 4)] [.int 0] h87x 0 0 _
    refine wq_gos (f := 1) (pc2 := 33) (ls2 := [(0, .ref 4)]) (st2 := [.int 0]) (h2 := h87x) (dc2 := 0) (ds2 := 0) 2 rfl ?_
    have hx : (rmG tb ln wr wa nx kd sta va) = ((0 : Int32), (1 : Int32), (v2x.2.2.1), (v2x.1), (v2x.2.1), (v2x.2.2.1), (v2x.2.2.2)) := by unfold rmG; rw [zlet_eq hv3x, if_pos b5x]
    rw [hx]
    exact wq_ret rfl rfl ⟨h87x, rfl, (wFr_tr (wFr_sub f81x (by simp)) (wFr_sub f87x (by simp))), by omega, c07x, (by first | ((try dsimp only); omega) | assumption | ((try dsimp only); intro q9; first | omega | exact absurd rfl q9 | assumption))⟩
  · have q8x : (v2x.2.1).toInt = 1 := congrArg Int32.toInt b5x
    refine wq_gos (f := 1) (pc2 := 13) (ls2 := [(0, .ref 4)]) (st2 := [.ref 4]) (h2 := h81x) (dc2 := 0) (ds2 := 0) 1 rfl ?_
    refine wq_inlv (y2 := 56) (as := []) rfl rfl rfl c01x rfl (wq_mono (c_lw c01x) ?_)
    rintro _ rfl
    show wq 54 16 [(0, .ref 4)] [.int (lwF (v2x.2.2.2) (10 - 0 + 1) 0)] h81x 0 0 _
    refine wq_gos (f := 1) (pc2 := 17) (ls2 := [(0, .ref 4)]) (st2 := [.int (-1), .int (lwF (v2x.2.2.2) (10 - 0 + 1) 0)]) (h2 := h81x) (dc2 := 0) (ds2 := 0) 1 rfl ?_
    have q10x : (-1 : Int32).toInt = -1 := rfl
    refine wq_eq2 rfl rfl (fun b11x => ?_) (fun b11x => ?_)
    · have q12x : (lwF (v2x.2.2.2) (10 - 0 + 1) 0).toInt = -1 := congrArg Int32.toInt b11x
      refine wq_gos (f := 1) (pc2 := 33) (ls2 := [(0, .ref 4)]) (st2 := [.int 1]) (h2 := h81x) (dc2 := 0) (ds2 := 0) 2 rfl ?_
      have hx : (rmG tb ln wr wa nx kd sta va) = ((1 : Int32), wr, wa, (v2x.1), (v2x.2.1), (v2x.2.2.1), (v2x.2.2.2)) := by unfold rmG; rw [zlet_eq hv3x, if_neg (fun q => q b5x), if_pos b11x]
      rw [hx]
      exact wq_ret rfl rfl ⟨h81x, rfl, (wFr_sub f81x (by simp)), by omega, c01x, (by first | ((try dsimp only); omega) | assumption | ((try dsimp only); intro q9; first | omega | exact absurd rfl q9 | assumption))⟩
    · have q13x : (lwF (v2x.2.2.2) (10 - 0 + 1) 0).toInt ≠ -1 := fun q => b11x (Int32.toInt_inj.mp q)
      refine wq_gos (f := 1) (pc2 := 22) (ls2 := [(0, .ref 4)]) (st2 := [.int 1, .ref 4]) (h2 := h81x) (dc2 := 0) (ds2 := 0) 2 rfl ?_
      refine wq_inlv (y2 := 45) (as := [.int 1]) rfl rfl rfl c01x rfl (wq_mono (c_ref c01x) ?_)
      rintro _ ⟨h814x, rfl, f814x, l814x, c014x⟩
      show wq 54 25 [(0, .ref 4)] [.int 0] h814x 0 0 _
      refine wq_gos (f := 1) (pc2 := 33) (ls2 := [(0, .ref 4)]) (st2 := [.int 0]) (h2 := h814x) (dc2 := 0) (ds2 := 0) 2 rfl ?_
      have hx : (rmG tb ln wr wa nx kd sta va) = ((0 : Int32), (1 : Int32), (v2x.2.2.1), (v2x.1), (v2x.2.1), (v2x.2.2.1), (v2x.2.2.2)) := by unfold rmG; rw [zlet_eq hv3x, if_neg (fun q => q b5x), if_neg b11x]
      rw [hx]
      exact wq_ret rfl rfl ⟨h814x, rfl, (wFr_tr (wFr_sub f81x (by simp)) (wFr_sub f814x (by simp))), by omega, c014x, (by first | ((try dsimp only); omega) | assumption | ((try dsimp only); intro q9; first | omega | exact absurd rfl q9 | assumption))⟩
noncomputable def wScl (lk hd ht bl sd : Int32) : Prop := 1 ≤ lk.toInt ∧ lk.toInt ≤ 99 ∧ 1 ≤ hd.toInt ∧ hd.toInt ≤ 99 ∧ 1 ≤ ht.toInt ∧ ht.toInt ≤ 99 ∧ 0 ≤ bl.toInt ∧ bl.toInt ≤ 9 ∧ 0 ≤ sd.toInt ∧ sd.toInt ≤ 99999
noncomputable def rsG (tb : List Int32) (ln : Nat) (wr wa : Int32) (nx : Nat) (kd sta va : Int32) (lk hd ht bl sd w : Int32) : Int32 × Int32 × Int32 × Nat × Int32 × Int32 × Int32 × Int32 × Int32 × Int32 × Int32 × Int32 := (if (2 : Int32).toInt < w.toInt then (if (2 : Int32).toInt < w.toInt then (if w ≠ (3 : Int32) then (zlet (rnG tb ln wr wa nx kd sta va (0 : Int32) (99999 : Int32) (0 : Int32)) (fun v10x => (if (v10x.1) ≠ (0 : Int32) then (if w = (0 : Int32) then ((1 : Int32), (v10x.2.1), (v10x.2.2.1), (v10x.2.2.2.1), (v10x.2.2.2.2.1), (v10x.2.2.2.2.2.1), (v10x.2.2.2.2.2.2), (v10x.2.2.2.2.2.2), hd, ht, bl, sd) else (if w = (1 : Int32) then ((1 : Int32), (v10x.2.1), (v10x.2.2.1), (v10x.2.2.2.1), (v10x.2.2.2.2.1), (v10x.2.2.2.2.2.1), (v10x.2.2.2.2.2.2), lk, (v10x.2.2.2.2.2.2), ht, bl, sd) else (if w = (2 : Int32) then ((1 : Int32), (v10x.2.1), (v10x.2.2.1), (v10x.2.2.2.1), (v10x.2.2.2.2.1), (v10x.2.2.2.2.2.1), (v10x.2.2.2.2.2.2), lk, hd, (v10x.2.2.2.2.2.2), bl, sd) else (if w = (3 : Int32) then ((1 : Int32), (v10x.2.1), (v10x.2.2.1), (v10x.2.2.2.1), (v10x.2.2.2.2.1), (v10x.2.2.2.2.2.1), (v10x.2.2.2.2.2.2), lk, hd, ht, (v10x.2.2.2.2.2.2), sd) else ((1 : Int32), (v10x.2.1), (v10x.2.2.1), (v10x.2.2.2.1), (v10x.2.2.2.2.1), (v10x.2.2.2.2.2.1), (v10x.2.2.2.2.2.2), lk, hd, ht, bl, (v10x.2.2.2.2.2.2)))))) else ((0 : Int32), (v10x.2.1), (v10x.2.2.1), (v10x.2.2.2.1), (v10x.2.2.2.2.1), (v10x.2.2.2.2.2.1), (v10x.2.2.2.2.2.2), lk, hd, ht, bl, sd)))) else (zlet (rnG tb ln wr wa nx kd sta va (0 : Int32) (9 : Int32) (0 : Int32)) (fun v62x => (if (v62x.1) ≠ (0 : Int32) then (if w = (0 : Int32) then ((1 : Int32), (v62x.2.1), (v62x.2.2.1), (v62x.2.2.2.1), (v62x.2.2.2.2.1), (v62x.2.2.2.2.2.1), (v62x.2.2.2.2.2.2), (v62x.2.2.2.2.2.2), hd, ht, bl, sd) else (if w = (1 : Int32) then ((1 : Int32), (v62x.2.1), (v62x.2.2.1), (v62x.2.2.2.1), (v62x.2.2.2.2.1), (v62x.2.2.2.2.2.1), (v62x.2.2.2.2.2.2), lk, (v62x.2.2.2.2.2.2), ht, bl, sd) else (if w = (2 : Int32) then ((1 : Int32), (v62x.2.1), (v62x.2.2.1), (v62x.2.2.2.1), (v62x.2.2.2.2.1), (v62x.2.2.2.2.2.1), (v62x.2.2.2.2.2.2), lk, hd, (v62x.2.2.2.2.2.2), bl, sd) else (if w = (3 : Int32) then ((1 : Int32), (v62x.2.1), (v62x.2.2.1), (v62x.2.2.2.1), (v62x.2.2.2.2.1), (v62x.2.2.2.2.2.1), (v62x.2.2.2.2.2.2), lk, hd, ht, (v62x.2.2.2.2.2.2), sd) else ((1 : Int32), (v62x.2.1), (v62x.2.2.1), (v62x.2.2.2.1), (v62x.2.2.2.2.1), (v62x.2.2.2.2.2.1), (v62x.2.2.2.2.2.2), lk, hd, ht, bl, (v62x.2.2.2.2.2.2)))))) else ((0 : Int32), (v62x.2.1), (v62x.2.2.1), (v62x.2.2.2.1), (v62x.2.2.2.2.1), (v62x.2.2.2.2.2.1), (v62x.2.2.2.2.2.2), lk, hd, ht, bl, sd))))) else (zlet (rnG tb ln wr wa nx kd sta va (0 : Int32) (99 : Int32) (0 : Int32)) (fun v113x => (if (v113x.1) ≠ (0 : Int32) then (if w = (0 : Int32) then ((1 : Int32), (v113x.2.1), (v113x.2.2.1), (v113x.2.2.2.1), (v113x.2.2.2.2.1), (v113x.2.2.2.2.2.1), (v113x.2.2.2.2.2.2), (v113x.2.2.2.2.2.2), hd, ht, bl, sd) else (if w = (1 : Int32) then ((1 : Int32), (v113x.2.1), (v113x.2.2.1), (v113x.2.2.2.1), (v113x.2.2.2.2.1), (v113x.2.2.2.2.2.1), (v113x.2.2.2.2.2.2), lk, (v113x.2.2.2.2.2.2), ht, bl, sd) else (if w = (2 : Int32) then ((1 : Int32), (v113x.2.1), (v113x.2.2.1), (v113x.2.2.2.1), (v113x.2.2.2.2.1), (v113x.2.2.2.2.2.1), (v113x.2.2.2.2.2.2), lk, hd, (v113x.2.2.2.2.2.2), bl, sd) else (if w = (3 : Int32) then ((1 : Int32), (v113x.2.1), (v113x.2.2.1), (v113x.2.2.2.1), (v113x.2.2.2.2.1), (v113x.2.2.2.2.2.1), (v113x.2.2.2.2.2.2), lk, hd, ht, (v113x.2.2.2.2.2.2), sd) else ((1 : Int32), (v113x.2.1), (v113x.2.2.1), (v113x.2.2.2.1), (v113x.2.2.2.2.1), (v113x.2.2.2.2.2.1), (v113x.2.2.2.2.2.2), lk, hd, ht, bl, (v113x.2.2.2.2.2.2)))))) else ((0 : Int32), (v113x.2.1), (v113x.2.2.1), (v113x.2.2.2.1), (v113x.2.2.2.2.1), (v113x.2.2.2.2.2.1), (v113x.2.2.2.2.2.2), lk, hd, ht, bl, sd))))) else (if (2 : Int32).toInt < w.toInt then (if w ≠ (3 : Int32) then (zlet (rnG tb ln wr wa nx kd sta va (1 : Int32) (99999 : Int32) (0 : Int32)) (fun v169x => (if (v169x.1) ≠ (0 : Int32) then (if w = (0 : Int32) then ((1 : Int32), (v169x.2.1), (v169x.2.2.1), (v169x.2.2.2.1), (v169x.2.2.2.2.1), (v169x.2.2.2.2.2.1), (v169x.2.2.2.2.2.2), (v169x.2.2.2.2.2.2), hd, ht, bl, sd) else (if w = (1 : Int32) then ((1 : Int32), (v169x.2.1), (v169x.2.2.1), (v169x.2.2.2.1), (v169x.2.2.2.2.1), (v169x.2.2.2.2.2.1), (v169x.2.2.2.2.2.2), lk, (v169x.2.2.2.2.2.2), ht, bl, sd) else (if w = (2 : Int32) then ((1 : Int32), (v169x.2.1), (v169x.2.2.1), (v169x.2.2.2.1), (v169x.2.2.2.2.1), (v169x.2.2.2.2.2.1), (v169x.2.2.2.2.2.2), lk, hd, (v169x.2.2.2.2.2.2), bl, sd) else (if w = (3 : Int32) then ((1 : Int32), (v169x.2.1), (v169x.2.2.1), (v169x.2.2.2.1), (v169x.2.2.2.2.1), (v169x.2.2.2.2.2.1), (v169x.2.2.2.2.2.2), lk, hd, ht, (v169x.2.2.2.2.2.2), sd) else ((1 : Int32), (v169x.2.1), (v169x.2.2.1), (v169x.2.2.2.1), (v169x.2.2.2.2.1), (v169x.2.2.2.2.2.1), (v169x.2.2.2.2.2.2), lk, hd, ht, bl, (v169x.2.2.2.2.2.2)))))) else ((0 : Int32), (v169x.2.1), (v169x.2.2.1), (v169x.2.2.2.1), (v169x.2.2.2.2.1), (v169x.2.2.2.2.2.1), (v169x.2.2.2.2.2.2), lk, hd, ht, bl, sd)))) else (zlet (rnG tb ln wr wa nx kd sta va (1 : Int32) (9 : Int32) (0 : Int32)) (fun v222x => (if (v222x.1) ≠ (0 : Int32) then (if w = (0 : Int32) then ((1 : Int32), (v222x.2.1), (v222x.2.2.1), (v222x.2.2.2.1), (v222x.2.2.2.2.1), (v222x.2.2.2.2.2.1), (v222x.2.2.2.2.2.2), (v222x.2.2.2.2.2.2), hd, ht, bl, sd) else (if w = (1 : Int32) then ((1 : Int32), (v222x.2.1), (v222x.2.2.1), (v222x.2.2.2.1), (v222x.2.2.2.2.1), (v222x.2.2.2.2.2.1), (v222x.2.2.2.2.2.2), lk, (v222x.2.2.2.2.2.2), ht, bl, sd) else (if w = (2 : Int32) then ((1 : Int32), (v222x.2.1), (v222x.2.2.1), (v222x.2.2.2.1), (v222x.2.2.2.2.1), (v222x.2.2.2.2.2.1), (v222x.2.2.2.2.2.2), lk, hd, (v222x.2.2.2.2.2.2), bl, sd) else (if w = (3 : Int32) then ((1 : Int32), (v222x.2.1), (v222x.2.2.1), (v222x.2.2.2.1), (v222x.2.2.2.2.1), (v222x.2.2.2.2.2.1), (v222x.2.2.2.2.2.2), lk, hd, ht, (v222x.2.2.2.2.2.2), sd) else ((1 : Int32), (v222x.2.1), (v222x.2.2.1), (v222x.2.2.2.1), (v222x.2.2.2.2.1), (v222x.2.2.2.2.2.1), (v222x.2.2.2.2.2.2), lk, hd, ht, bl, (v222x.2.2.2.2.2.2)))))) else ((0 : Int32), (v222x.2.1), (v222x.2.2.1), (v222x.2.2.2.1), (v222x.2.2.2.2.1), (v222x.2.2.2.2.2.1), (v222x.2.2.2.2.2.2), lk, hd, ht, bl, sd))))) else (zlet (rnG tb ln wr wa nx kd sta va (1 : Int32) (99 : Int32) (0 : Int32)) (fun v274x => (if (v274x.1) ≠ (0 : Int32) then (if w = (0 : Int32) then ((1 : Int32), (v274x.2.1), (v274x.2.2.1), (v274x.2.2.2.1), (v274x.2.2.2.2.1), (v274x.2.2.2.2.2.1), (v274x.2.2.2.2.2.2), (v274x.2.2.2.2.2.2), hd, ht, bl, sd) else (if w = (1 : Int32) then ((1 : Int32), (v274x.2.1), (v274x.2.2.1), (v274x.2.2.2.1), (v274x.2.2.2.2.1), (v274x.2.2.2.2.2.1), (v274x.2.2.2.2.2.2), lk, (v274x.2.2.2.2.2.2), ht, bl, sd) else (if w = (2 : Int32) then ((1 : Int32), (v274x.2.1), (v274x.2.2.1), (v274x.2.2.2.1), (v274x.2.2.2.2.1), (v274x.2.2.2.2.2.1), (v274x.2.2.2.2.2.2), lk, hd, (v274x.2.2.2.2.2.2), bl, sd) else (if w = (3 : Int32) then ((1 : Int32), (v274x.2.1), (v274x.2.2.1), (v274x.2.2.2.1), (v274x.2.2.2.2.1), (v274x.2.2.2.2.2.1), (v274x.2.2.2.2.2.2), lk, hd, ht, (v274x.2.2.2.2.2.2), sd) else ((1 : Int32), (v274x.2.1), (v274x.2.2.1), (v274x.2.2.2.1), (v274x.2.2.2.2.1), (v274x.2.2.2.2.2.1), (v274x.2.2.2.2.2.2), lk, hd, ht, bl, (v274x.2.2.2.2.2.2)))))) else ((0 : Int32), (v274x.2.1), (v274x.2.2.1), (v274x.2.2.2.1), (v274x.2.2.2.2.1), (v274x.2.2.2.2.2.1), (v274x.2.2.2.2.2.2), lk, hd, ht, bl, sd))))))
set_option maxRecDepth 100000 in
set_option maxHeartbeats 4000000 in
theorem c_rs {h : zH} {ln nx rd : Nat} {wr wa kd sta va tld : Int32} {tb : List Int32} {lk hd ht bl sd : Int32} {rt : Int64} {sp so : Nat} {w : Int32} (hR : zat h 4 = some (.inr (.inr (.inr (4, [.int wr, .int wa, .ref 2, .int (nI ln), .int (nI nx), .int kd, .int sta, .int va, .int tld, .ref rd]))))) (hT : zat h 2 = some (.inl (1, 700, tb))) (hA : zat h rd = some (.inr (.inr (.inr (0, [.int lk, .int hd, .int ht, .int bl, .int sd, .long rt, .ref (rd + 2), .ref (rd + 4), .ref (rd + 6), .int (nI sp), .ref (rd + 8), .ref (rd + 10), .int (nI so), .ref (rd + 12)]))))) (hln : ln ≤ 700) (hn : nx ≤ ln) (hrd : rd = 6 ∨ rd = 20) (hS : wScl lk hd ht bl sd) : wq 48 0 [(0, .ref 4), (1, .int w)] [] h 0 0 (fun rr9 => ∃ (h2 : zH), rr9 = (some (.int ((rsG tb ln wr wa nx kd sta va lk hd ht bl sd w).1)), h2, 0, 0) ∧ wFr [4, rd] h h2 ∧ h2.length = h.length ∧ zat h2 4 = some (.inr (.inr (.inr (4, [.int ((rsG tb ln wr wa nx kd sta va lk hd ht bl sd w).2.1), .int ((rsG tb ln wr wa nx kd sta va lk hd ht bl sd w).2.2.1), .ref 2, .int (nI ln), .int (nI ((rsG tb ln wr wa nx kd sta va lk hd ht bl sd w).2.2.2.1)), .int ((rsG tb ln wr wa nx kd sta va lk hd ht bl sd w).2.2.2.2.1), .int ((rsG tb ln wr wa nx kd sta va lk hd ht bl sd w).2.2.2.2.2.1), .int ((rsG tb ln wr wa nx kd sta va lk hd ht bl sd w).2.2.2.2.2.2.1), .int tld, .ref rd])))) ∧ zat h2 rd = some (.inr (.inr (.inr (0, [.int ((rsG tb ln wr wa nx kd sta va lk hd ht bl sd w).2.2.2.2.2.2.2.1), .int ((rsG tb ln wr wa nx kd sta va lk hd ht bl sd w).2.2.2.2.2.2.2.2.1), .int ((rsG tb ln wr wa nx kd sta va lk hd ht bl sd w).2.2.2.2.2.2.2.2.2.1), .int ((rsG tb ln wr wa nx kd sta va lk hd ht bl sd w).2.2.2.2.2.2.2.2.2.2.1), .int ((rsG tb ln wr wa nx kd sta va lk hd ht bl sd w).2.2.2.2.2.2.2.2.2.2.2), .long rt, .ref (rd + 2), .ref (rd + 4), .ref (rd + 6), .int (nI sp), .ref (rd + 8), .ref (rd + 10), .int (nI so), .ref (rd + 12)])))) ∧ ((((rsG tb ln wr wa nx kd sta va lk hd ht bl sd w).2.2.2.1) ≤ ln)) ∧ ((wScl (((rsG tb ln wr wa nx kd sta va lk hd ht bl sd w).2.2.2.2.2.2.2.1)) (((rsG tb ln wr wa nx kd sta va lk hd ht bl sd w).2.2.2.2.2.2.2.2.1)) (((rsG tb ln wr wa nx kd sta va lk hd ht bl sd w).2.2.2.2.2.2.2.2.2.1)) (((rsG tb ln wr wa nx kd sta va lk hd ht bl sd w).2.2.2.2.2.2.2.2.2.2.1)) (((rsG tb ln wr wa nx kd sta va lk hd ht bl sd w).2.2.2.2.2.2.2.2.2.2.2))))) := by
  have z0 : (0 : Int32).toInt = 0 := rfl
  have z1 : (1 : Int32).toInt = 1 := rfl
  have z2 : (2 : Int32).toInt = 2 := rfl
  have z9 : (9 : Int32).toInt = 9 := rfl
  have z99 : (99 : Int32).toInt = 99 := rfl
  have z999 : (99999 : Int32).toInt = 99999 := rfl
  refine wq_gos (f := 1) (pc2 := 2) (ls2 := [(0, .ref 4), (1, .int w)]) (st2 := [.int 2, .int w]) (h2 := h) (dc2 := 0) (ds2 := 0) 2 rfl ?_
  have q1x : (2 : Int32).toInt = 2 := rfl
  refine wq_gt2 rfl rfl (fun b2x => ?_) (fun b2x => ?_)
  · refine wq_gos (f := 1) (pc2 := 13) (ls2 := [(2, .int 0), (0, .ref 4), (1, .int w)]) (st2 := [.int 2, .int w]) (h2 := h) (dc2 := 0) (ds2 := 0) 4 rfl ?_
    refine wq_gt2 rfl rfl (fun b3x => ?_) (fun b3x => ?_)
    · refine wq_gos (f := 1) (pc2 := 23) (ls2 := [(2, .int 0), (0, .ref 4), (1, .int w)]) (st2 := [.int 3, .int w]) (h2 := h) (dc2 := 0) (ds2 := 0) 2 rfl ?_
      have q4x : (3 : Int32).toInt = 3 := rfl
      refine wq_ne2 rfl rfl (fun b5x => ?_) (fun b5x => ?_)
      · have q6x : w.toInt ≠ 3 := fun q => b5x (Int32.toInt_inj.mp q)
        refine wq_gos (f := 1) (pc2 := 38) (ls2 := [(3, .int 99999), (2, .int 0), (0, .ref 4), (1, .int w)]) (st2 := [.int 0, .int 99999, .int 0, .ref 4]) (h2 := h) (dc2 := 0) (ds2 := 0) 6 rfl ?_
        have q7x : (0 : Int32).toInt = 0 := rfl
        have q8x : (99999 : Int32).toInt = 99999 := rfl
        refine wq_inlv (y2 := 55) (as := [.int 0, .int 99999, .int 0]) rfl rfl rfl hR rfl (wq_mono (c_rn hR hT (by first | omega | assumption | decide | solve_by_elim) (by first | omega | assumption | decide | solve_by_elim)) ?_)
        rintro _ ⟨h89x, rfl, f89x, l89x, c09x, p09x, p19x⟩
        show wq 48 41 [(3, .int 99999), (2, .int 0), (0, .ref 4), (1, .int w)] [.int ((rnG tb ln wr wa nx kd sta va (0 : Int32) (99999 : Int32) (0 : Int32)).1)] h89x 0 0 _
        obtain ⟨v10x, hv11x⟩ : ∃ x, x = (rnG tb ln wr wa nx kd sta va (0 : Int32) (99999 : Int32) (0 : Int32)) := ⟨_, rfl⟩
        try rw [← hv11x] at c09x
        try rw [← hv11x] at p09x
        try rw [← hv11x] at p19x
        try rw [← hv11x]
        refine wq_ne0 rfl rfl (fun b12x => ?_) (fun b12x => ?_)
        · have q13x : (v10x.1).toInt ≠ 0 := fun q => b12x (Int32.toInt_inj.mp q)
          refine wq_gos (f := 1) (pc2 := 47) (ls2 := [(3, .int 99999), (2, .int 0), (0, .ref 4), (1, .int w)]) (st2 := [.int w]) (h2 := h89x) (dc2 := 0) (ds2 := 0) 1 rfl ?_
          by_cases b14x : w = (0 : Int32)
          · have q15x : w.toInt = 0 := congrArg Int32.toInt b14x
            refine wq_tabc rfl b14x rfl ?_
            refine wq_gos (f := 1) (pc2 := 77) (ls2 := [(3, .int 99999), (2, .int 0), (0, .ref 4), (1, .int w)]) (st2 := [.ref 4]) (h2 := h89x) (dc2 := 0) (ds2 := 0) 1 rfl ?_
            refine wq_getf rfl c09x rfl rfl ?_
            refine wq_gos (f := 1) (pc2 := 81) (ls2 := [(3, .int 99999), (2, .int 0), (0, .ref 4), (1, .int w)]) (st2 := [.ref 4, .ref rd]) (h2 := h89x) (dc2 := 0) (ds2 := 0) 1 rfl ?_
            refine wq_getf rfl c09x rfl rfl ?_
            have e16x := (f89x.2 _ _ (wnc (by omega) wn0) hA)
            refine wq_putf rfl e16x rfl rfl rfl ?_
            intro h17x e18x f19x l20x
            have e18x : zat h17x rd = some (.inr (.inr (.inr (0, [.int (v10x.2.2.2.2.2.2), .int hd, .int ht, .int bl, .int sd, .long rt, .ref (rd + 2), .ref (rd + 4), .ref (rd + 6), .int (nI sp), .ref (rd + 8), .ref (rd + 10), .int (nI so), .ref (rd + 12)])))) := e18x
            refine wq_gos (f := 1) (pc2 := 144) (ls2 := [(3, .int 99999), (2, .int 0), (0, .ref 4), (1, .int w)]) (st2 := [.int 1]) (h2 := h17x) (dc2 := 0) (ds2 := 0) 2 rfl ?_
            have e21x := (f19x.2 _ _ (wnc (by omega) wn0) c09x)
            have hx : (rsG tb ln wr wa nx kd sta va lk hd ht bl sd w) = ((1 : Int32), (v10x.2.1), (v10x.2.2.1), (v10x.2.2.2.1), (v10x.2.2.2.2.1), (v10x.2.2.2.2.2.1), (v10x.2.2.2.2.2.2), (v10x.2.2.2.2.2.2), hd, ht, bl, sd) := by unfold rsG; rw [if_pos b2x, if_pos b3x, if_pos b5x, zlet_eq hv11x, if_pos b12x, if_pos b14x]
            rw [hx]
            exact wq_ret rfl rfl ⟨h17x, rfl, (wFr_tr (wFr_sub f89x (by simp)) (wFr_sub f19x (by simp))), by omega, e21x, e18x, (by first | ((try dsimp only); omega) | assumption | ((try dsimp only); intro q9; first | omega | exact absurd rfl q9 | assumption) | ((unfold wScl at hS ⊢; (try dsimp only); omega))), (by first | ((try dsimp only); omega) | assumption | ((try dsimp only); intro q9; first | omega | exact absurd rfl q9 | assumption) | ((unfold wScl at hS ⊢; (try dsimp only); omega)))⟩
          have q22x : (w).toInt ≠ 0 := fun q => b14x (Int32.toInt_inj.mp q)
          by_cases b23x : w = (1 : Int32)
          · have q24x : w.toInt = 1 := congrArg Int32.toInt b23x
            refine wq_tabc rfl b23x rfl ?_
            refine wq_gos (f := 1) (pc2 := 91) (ls2 := [(3, .int 99999), (2, .int 0), (0, .ref 4), (1, .int w)]) (st2 := [.ref 4]) (h2 := h89x) (dc2 := 0) (ds2 := 0) 1 rfl ?_
            refine wq_getf rfl c09x rfl rfl ?_
            refine wq_gos (f := 1) (pc2 := 95) (ls2 := [(3, .int 99999), (2, .int 0), (0, .ref 4), (1, .int w)]) (st2 := [.ref 4, .ref rd]) (h2 := h89x) (dc2 := 0) (ds2 := 0) 1 rfl ?_
            refine wq_getf rfl c09x rfl rfl ?_
            have e25x := (f89x.2 _ _ (wnc (by omega) wn0) hA)
            refine wq_putf rfl e25x rfl rfl rfl ?_
            intro h26x e27x f28x l29x
            have e27x : zat h26x rd = some (.inr (.inr (.inr (0, [.int lk, .int (v10x.2.2.2.2.2.2), .int ht, .int bl, .int sd, .long rt, .ref (rd + 2), .ref (rd + 4), .ref (rd + 6), .int (nI sp), .ref (rd + 8), .ref (rd + 10), .int (nI so), .ref (rd + 12)])))) := e27x
            refine wq_gos (f := 1) (pc2 := 144) (ls2 := [(3, .int 99999), (2, .int 0), (0, .ref 4), (1, .int w)]) (st2 := [.int 1]) (h2 := h26x) (dc2 := 0) (ds2 := 0) 2 rfl ?_
            have e30x := (f28x.2 _ _ (wnc (by omega) wn0) c09x)
            have hx : (rsG tb ln wr wa nx kd sta va lk hd ht bl sd w) = ((1 : Int32), (v10x.2.1), (v10x.2.2.1), (v10x.2.2.2.1), (v10x.2.2.2.2.1), (v10x.2.2.2.2.2.1), (v10x.2.2.2.2.2.2), lk, (v10x.2.2.2.2.2.2), ht, bl, sd) := by unfold rsG; rw [if_pos b2x, if_pos b3x, if_pos b5x, zlet_eq hv11x, if_pos b12x, if_neg b14x, if_pos b23x]
            rw [hx]
            exact wq_ret rfl rfl ⟨h26x, rfl, (wFr_tr (wFr_sub f89x (by simp)) (wFr_sub f28x (by simp))), by omega, e30x, e27x, (by first | ((try dsimp only); omega) | assumption | ((try dsimp only); intro q9; first | omega | exact absurd rfl q9 | assumption) | ((unfold wScl at hS ⊢; (try dsimp only); omega))), (by first | ((try dsimp only); omega) | assumption | ((try dsimp only); intro q9; first | omega | exact absurd rfl q9 | assumption) | ((unfold wScl at hS ⊢; (try dsimp only); omega)))⟩
          have q31x : (w).toInt ≠ 1 := fun q => b23x (Int32.toInt_inj.mp q)
          by_cases b32x : w = (2 : Int32)
          · have q33x : w.toInt = 2 := congrArg Int32.toInt b32x
            refine wq_tabc rfl b32x rfl ?_
            refine wq_gos (f := 1) (pc2 := 105) (ls2 := [(3, .int 99999), (2, .int 0), (0, .ref 4), (1, .int w)]) (st2 := [.ref 4]) (h2 := h89x) (dc2 := 0) (ds2 := 0) 1 rfl ?_
            refine wq_getf rfl c09x rfl rfl ?_
            refine wq_gos (f := 1) (pc2 := 109) (ls2 := [(3, .int 99999), (2, .int 0), (0, .ref 4), (1, .int w)]) (st2 := [.ref 4, .ref rd]) (h2 := h89x) (dc2 := 0) (ds2 := 0) 1 rfl ?_
            refine wq_getf rfl c09x rfl rfl ?_
            have e34x := (f89x.2 _ _ (wnc (by omega) wn0) hA)
            refine wq_putf rfl e34x rfl rfl rfl ?_
            intro h35x e36x f37x l38x
            have e36x : zat h35x rd = some (.inr (.inr (.inr (0, [.int lk, .int hd, .int (v10x.2.2.2.2.2.2), .int bl, .int sd, .long rt, .ref (rd + 2), .ref (rd + 4), .ref (rd + 6), .int (nI sp), .ref (rd + 8), .ref (rd + 10), .int (nI so), .ref (rd + 12)])))) := e36x
            refine wq_gos (f := 1) (pc2 := 144) (ls2 := [(3, .int 99999), (2, .int 0), (0, .ref 4), (1, .int w)]) (st2 := [.int 1]) (h2 := h35x) (dc2 := 0) (ds2 := 0) 2 rfl ?_
            have e39x := (f37x.2 _ _ (wnc (by omega) wn0) c09x)
            have hx : (rsG tb ln wr wa nx kd sta va lk hd ht bl sd w) = ((1 : Int32), (v10x.2.1), (v10x.2.2.1), (v10x.2.2.2.1), (v10x.2.2.2.2.1), (v10x.2.2.2.2.2.1), (v10x.2.2.2.2.2.2), lk, hd, (v10x.2.2.2.2.2.2), bl, sd) := by unfold rsG; rw [if_pos b2x, if_pos b3x, if_pos b5x, zlet_eq hv11x, if_pos b12x, if_neg b14x, if_neg b23x, if_pos b32x]
            rw [hx]
            exact wq_ret rfl rfl ⟨h35x, rfl, (wFr_tr (wFr_sub f89x (by simp)) (wFr_sub f37x (by simp))), by omega, e39x, e36x, (by first | ((try dsimp only); omega) | assumption | ((try dsimp only); intro q9; first | omega | exact absurd rfl q9 | assumption) | ((unfold wScl at hS ⊢; (try dsimp only); omega))), (by first | ((try dsimp only); omega) | assumption | ((try dsimp only); intro q9; first | omega | exact absurd rfl q9 | assumption) | ((unfold wScl at hS ⊢; (try dsimp only); omega)))⟩
          have q40x : (w).toInt ≠ 2 := fun q => b32x (Int32.toInt_inj.mp q)
          by_cases b41x : w = (3 : Int32)
          · have q42x : w.toInt = 3 := congrArg Int32.toInt b41x
            refine wq_tabc rfl b41x rfl ?_
            refine wq_gos (f := 1) (pc2 := 119) (ls2 := [(3, .int 99999), (2, .int 0), (0, .ref 4), (1, .int w)]) (st2 := [.ref 4]) (h2 := h89x) (dc2 := 0) (ds2 := 0) 1 rfl ?_
            refine wq_getf rfl c09x rfl rfl ?_
            refine wq_gos (f := 1) (pc2 := 123) (ls2 := [(3, .int 99999), (2, .int 0), (0, .ref 4), (1, .int w)]) (st2 := [.ref 4, .ref rd]) (h2 := h89x) (dc2 := 0) (ds2 := 0) 1 rfl ?_
            refine wq_getf rfl c09x rfl rfl ?_
            have e43x := (f89x.2 _ _ (wnc (by omega) wn0) hA)
            refine wq_putf rfl e43x rfl rfl rfl ?_
            intro h44x e45x f46x l47x
            have e45x : zat h44x rd = some (.inr (.inr (.inr (0, [.int lk, .int hd, .int ht, .int (v10x.2.2.2.2.2.2), .int sd, .long rt, .ref (rd + 2), .ref (rd + 4), .ref (rd + 6), .int (nI sp), .ref (rd + 8), .ref (rd + 10), .int (nI so), .ref (rd + 12)])))) := e45x
            refine wq_gos (f := 1) (pc2 := 144) (ls2 := [(3, .int 99999), (2, .int 0), (0, .ref 4), (1, .int w)]) (st2 := [.int 1]) (h2 := h44x) (dc2 := 0) (ds2 := 0) 2 rfl ?_
            have e48x := (f46x.2 _ _ (wnc (by omega) wn0) c09x)
            have hx : (rsG tb ln wr wa nx kd sta va lk hd ht bl sd w) = ((1 : Int32), (v10x.2.1), (v10x.2.2.1), (v10x.2.2.2.1), (v10x.2.2.2.2.1), (v10x.2.2.2.2.2.1), (v10x.2.2.2.2.2.2), lk, hd, ht, (v10x.2.2.2.2.2.2), sd) := by unfold rsG; rw [if_pos b2x, if_pos b3x, if_pos b5x, zlet_eq hv11x, if_pos b12x, if_neg b14x, if_neg b23x, if_neg b32x, if_pos b41x]
            rw [hx]
            exact wq_ret rfl rfl ⟨h44x, rfl, (wFr_tr (wFr_sub f89x (by simp)) (wFr_sub f46x (by simp))), by omega, e48x, e45x, (by first | ((try dsimp only); omega) | assumption | ((try dsimp only); intro q9; first | omega | exact absurd rfl q9 | assumption) | ((unfold wScl at hS ⊢; (try dsimp only); omega))), (by first | ((try dsimp only); omega) | assumption | ((try dsimp only); intro q9; first | omega | exact absurd rfl q9 | assumption) | ((unfold wScl at hS ⊢; (try dsimp only); omega)))⟩
          have q49x : (w).toInt ≠ 3 := fun q => b41x (Int32.toInt_inj.mp q)
          refine wq_tabo rfl (by omega) ?_
          refine wq_gos (f := 1) (pc2 := 133) (ls2 := [(3, .int 99999), (2, .int 0), (0, .ref 4), (1, .int w)]) (st2 := [.ref 4]) (h2 := h89x) (dc2 := 0) (ds2 := 0) 1 rfl ?_
          refine wq_getf rfl c09x rfl rfl ?_
          refine wq_gos (f := 1) (pc2 := 137) (ls2 := [(3, .int 99999), (2, .int 0), (0, .ref 4), (1, .int w)]) (st2 := [.ref 4, .ref rd]) (h2 := h89x) (dc2 := 0) (ds2 := 0) 1 rfl ?_
          refine wq_getf rfl c09x rfl rfl ?_
          have e50x := (f89x.2 _ _ (wnc (by omega) wn0) hA)
          refine wq_putf rfl e50x rfl rfl rfl ?_
          intro h51x e52x f53x l54x
          have e52x : zat h51x rd = some (.inr (.inr (.inr (0, [.int lk, .int hd, .int ht, .int bl, .int (v10x.2.2.2.2.2.2), .long rt, .ref (rd + 2), .ref (rd + 4), .ref (rd + 6), .int (nI sp), .ref (rd + 8), .ref (rd + 10), .int (nI so), .ref (rd + 12)])))) := e52x
          refine wq_gos (f := 1) (pc2 := 144) (ls2 := [(3, .int 99999), (2, .int 0), (0, .ref 4), (1, .int w)]) (st2 := [.int 1]) (h2 := h51x) (dc2 := 0) (ds2 := 0) 1 rfl ?_
          have e55x := (f53x.2 _ _ (wnc (by omega) wn0) c09x)
          have hx : (rsG tb ln wr wa nx kd sta va lk hd ht bl sd w) = ((1 : Int32), (v10x.2.1), (v10x.2.2.1), (v10x.2.2.2.1), (v10x.2.2.2.2.1), (v10x.2.2.2.2.2.1), (v10x.2.2.2.2.2.2), lk, hd, ht, bl, (v10x.2.2.2.2.2.2)) := by unfold rsG; rw [if_pos b2x, if_pos b3x, if_pos b5x, zlet_eq hv11x, if_pos b12x, if_neg b14x, if_neg b23x, if_neg b32x, if_neg b41x]
          rw [hx]
          exact wq_ret rfl rfl ⟨h51x, rfl, (wFr_tr (wFr_sub f89x (by simp)) (wFr_sub f53x (by simp))), by omega, e55x, e52x, (by first | ((try dsimp only); omega) | assumption | ((try dsimp only); intro q9; first | omega | exact absurd rfl q9 | assumption) | ((unfold wScl at hS ⊢; (try dsimp only); omega))), (by first | ((try dsimp only); omega) | assumption | ((try dsimp only); intro q9; first | omega | exact absurd rfl q9 | assumption) | ((unfold wScl at hS ⊢; (try dsimp only); omega)))⟩
        · have q56x : (v10x.1).toInt = 0 := congrArg Int32.toInt b12x
          refine wq_gos (f := 1) (pc2 := 45) (ls2 := [(3, .int 99999), (2, .int 0), (0, .ref 4), (1, .int w)]) (st2 := [.int 0]) (h2 := h89x) (dc2 := 0) (ds2 := 0) 1 rfl ?_
          have e57x := (f89x.2 _ _ (wnc (by omega) wn0) hA)
          have hx : (rsG tb ln wr wa nx kd sta va lk hd ht bl sd w) = ((0 : Int32), (v10x.2.1), (v10x.2.2.1), (v10x.2.2.2.1), (v10x.2.2.2.2.1), (v10x.2.2.2.2.2.1), (v10x.2.2.2.2.2.2), lk, hd, ht, bl, sd) := by unfold rsG; rw [if_pos b2x, if_pos b3x, if_pos b5x, zlet_eq hv11x, if_neg (fun q => q b12x)]
          rw [hx]
          exact wq_ret rfl rfl ⟨h89x, rfl, (wFr_sub f89x (by simp)), by omega, c09x, e57x, (by first | ((try dsimp only); omega) | assumption | ((try dsimp only); intro q9; first | omega | exact absurd rfl q9 | assumption) | ((unfold wScl at hS ⊢; (try dsimp only); omega))), (by first | ((try dsimp only); omega) | assumption | ((try dsimp only); intro q9; first | omega | exact absurd rfl q9 | assumption) | ((unfold wScl at hS ⊢; (try dsimp only); omega)))⟩
      · have q58x : w.toInt = 3 := congrArg Int32.toInt b5x
        refine wq_gos (f := 1) (pc2 := 38) (ls2 := [(3, .int 9), (2, .int 0), (0, .ref 4), (1, .int w)]) (st2 := [.int 0, .int 9, .int 0, .ref 4]) (h2 := h) (dc2 := 0) (ds2 := 0) 7 rfl ?_
        have q59x : (0 : Int32).toInt = 0 := rfl
        have q60x : (9 : Int32).toInt = 9 := rfl
        refine wq_inlv (y2 := 55) (as := [.int 0, .int 9, .int 0]) rfl rfl rfl hR rfl (wq_mono (c_rn hR hT (by first | omega | assumption | decide | solve_by_elim) (by first | omega | assumption | decide | solve_by_elim)) ?_)
        rintro _ ⟨h861x, rfl, f861x, l861x, c061x, p061x, p161x⟩
        show wq 48 41 [(3, .int 9), (2, .int 0), (0, .ref 4), (1, .int w)] [.int ((rnG tb ln wr wa nx kd sta va (0 : Int32) (9 : Int32) (0 : Int32)).1)] h861x 0 0 _
        obtain ⟨v62x, hv63x⟩ : ∃ x, x = (rnG tb ln wr wa nx kd sta va (0 : Int32) (9 : Int32) (0 : Int32)) := ⟨_, rfl⟩
        try rw [← hv63x] at c061x
        try rw [← hv63x] at p061x
        try rw [← hv63x] at p161x
        try rw [← hv63x]
        refine wq_ne0 rfl rfl (fun b64x => ?_) (fun b64x => ?_)
        · have q65x : (v62x.1).toInt ≠ 0 := fun q => b64x (Int32.toInt_inj.mp q)
          refine wq_gos (f := 1) (pc2 := 47) (ls2 := [(3, .int 9), (2, .int 0), (0, .ref 4), (1, .int w)]) (st2 := [.int w]) (h2 := h861x) (dc2 := 0) (ds2 := 0) 1 rfl ?_
          by_cases b66x : w = (0 : Int32)
          · have q67x : w.toInt = 0 := congrArg Int32.toInt b66x
            refine wq_tabc rfl b66x rfl ?_
            refine wq_gos (f := 1) (pc2 := 77) (ls2 := [(3, .int 9), (2, .int 0), (0, .ref 4), (1, .int w)]) (st2 := [.ref 4]) (h2 := h861x) (dc2 := 0) (ds2 := 0) 1 rfl ?_
            refine wq_getf rfl c061x rfl rfl ?_
            refine wq_gos (f := 1) (pc2 := 81) (ls2 := [(3, .int 9), (2, .int 0), (0, .ref 4), (1, .int w)]) (st2 := [.ref 4, .ref rd]) (h2 := h861x) (dc2 := 0) (ds2 := 0) 1 rfl ?_
            refine wq_getf rfl c061x rfl rfl ?_
            have e68x := (f861x.2 _ _ (wnc (by omega) wn0) hA)
            refine wq_putf rfl e68x rfl rfl rfl ?_
            intro h69x e70x f71x l72x
            have e70x : zat h69x rd = some (.inr (.inr (.inr (0, [.int (v62x.2.2.2.2.2.2), .int hd, .int ht, .int bl, .int sd, .long rt, .ref (rd + 2), .ref (rd + 4), .ref (rd + 6), .int (nI sp), .ref (rd + 8), .ref (rd + 10), .int (nI so), .ref (rd + 12)])))) := e70x
            refine wq_gos (f := 1) (pc2 := 144) (ls2 := [(3, .int 9), (2, .int 0), (0, .ref 4), (1, .int w)]) (st2 := [.int 1]) (h2 := h69x) (dc2 := 0) (ds2 := 0) 2 rfl ?_
            have e73x := (f71x.2 _ _ (wnc (by omega) wn0) c061x)
            have hx : (rsG tb ln wr wa nx kd sta va lk hd ht bl sd w) = ((1 : Int32), (v62x.2.1), (v62x.2.2.1), (v62x.2.2.2.1), (v62x.2.2.2.2.1), (v62x.2.2.2.2.2.1), (v62x.2.2.2.2.2.2), (v62x.2.2.2.2.2.2), hd, ht, bl, sd) := by unfold rsG; rw [if_pos b2x, if_pos b3x, if_neg (fun q => q b5x), zlet_eq hv63x, if_pos b64x, if_pos b66x]
            rw [hx]
            exact wq_ret rfl rfl ⟨h69x, rfl, (wFr_tr (wFr_sub f861x (by simp)) (wFr_sub f71x (by simp))), by omega, e73x, e70x, (by first | ((try dsimp only); omega) | assumption | ((try dsimp only); intro q9; first | omega | exact absurd rfl q9 | assumption) | ((unfold wScl at hS ⊢; (try dsimp only); omega))), (by first | ((try dsimp only); omega) | assumption | ((try dsimp only); intro q9; first | omega | exact absurd rfl q9 | assumption) | ((unfold wScl at hS ⊢; (try dsimp only); omega)))⟩
          have q74x : (w).toInt ≠ 0 := fun q => b66x (Int32.toInt_inj.mp q)
          by_cases b75x : w = (1 : Int32)
          · have q76x : w.toInt = 1 := congrArg Int32.toInt b75x
            refine wq_tabc rfl b75x rfl ?_
            refine wq_gos (f := 1) (pc2 := 91) (ls2 := [(3, .int 9), (2, .int 0), (0, .ref 4), (1, .int w)]) (st2 := [.ref 4]) (h2 := h861x) (dc2 := 0) (ds2 := 0) 1 rfl ?_
            refine wq_getf rfl c061x rfl rfl ?_
            refine wq_gos (f := 1) (pc2 := 95) (ls2 := [(3, .int 9), (2, .int 0), (0, .ref 4), (1, .int w)]) (st2 := [.ref 4, .ref rd]) (h2 := h861x) (dc2 := 0) (ds2 := 0) 1 rfl ?_
            refine wq_getf rfl c061x rfl rfl ?_
            have e77x := (f861x.2 _ _ (wnc (by omega) wn0) hA)
            refine wq_putf rfl e77x rfl rfl rfl ?_
            intro h78x e79x f80x l81x
            have e79x : zat h78x rd = some (.inr (.inr (.inr (0, [.int lk, .int (v62x.2.2.2.2.2.2), .int ht, .int bl, .int sd, .long rt, .ref (rd + 2), .ref (rd + 4), .ref (rd + 6), .int (nI sp), .ref (rd + 8), .ref (rd + 10), .int (nI so), .ref (rd + 12)])))) := e79x
            refine wq_gos (f := 1) (pc2 := 144) (ls2 := [(3, .int 9), (2, .int 0), (0, .ref 4), (1, .int w)]) (st2 := [.int 1]) (h2 := h78x) (dc2 := 0) (ds2 := 0) 2 rfl ?_
            have e82x := (f80x.2 _ _ (wnc (by omega) wn0) c061x)
            have hx : (rsG tb ln wr wa nx kd sta va lk hd ht bl sd w) = ((1 : Int32), (v62x.2.1), (v62x.2.2.1), (v62x.2.2.2.1), (v62x.2.2.2.2.1), (v62x.2.2.2.2.2.1), (v62x.2.2.2.2.2.2), lk, (v62x.2.2.2.2.2.2), ht, bl, sd) := by unfold rsG; rw [if_pos b2x, if_pos b3x, if_neg (fun q => q b5x), zlet_eq hv63x, if_pos b64x, if_neg b66x, if_pos b75x]
            rw [hx]
            exact wq_ret rfl rfl ⟨h78x, rfl, (wFr_tr (wFr_sub f861x (by simp)) (wFr_sub f80x (by simp))), by omega, e82x, e79x, (by first | ((try dsimp only); omega) | assumption | ((try dsimp only); intro q9; first | omega | exact absurd rfl q9 | assumption) | ((unfold wScl at hS ⊢; (try dsimp only); omega))), (by first | ((try dsimp only); omega) | assumption | ((try dsimp only); intro q9; first | omega | exact absurd rfl q9 | assumption) | ((unfold wScl at hS ⊢; (try dsimp only); omega)))⟩
          have q83x : (w).toInt ≠ 1 := fun q => b75x (Int32.toInt_inj.mp q)
          by_cases b84x : w = (2 : Int32)
          · have q85x : w.toInt = 2 := congrArg Int32.toInt b84x
            refine wq_tabc rfl b84x rfl ?_
            refine wq_gos (f := 1) (pc2 := 105) (ls2 := [(3, .int 9), (2, .int 0), (0, .ref 4), (1, .int w)]) (st2 := [.ref 4]) (h2 := h861x) (dc2 := 0) (ds2 := 0) 1 rfl ?_
            refine wq_getf rfl c061x rfl rfl ?_
            refine wq_gos (f := 1) (pc2 := 109) (ls2 := [(3, .int 9), (2, .int 0), (0, .ref 4), (1, .int w)]) (st2 := [.ref 4, .ref rd]) (h2 := h861x) (dc2 := 0) (ds2 := 0) 1 rfl ?_
            refine wq_getf rfl c061x rfl rfl ?_
            have e86x := (f861x.2 _ _ (wnc (by omega) wn0) hA)
            refine wq_putf rfl e86x rfl rfl rfl ?_
            intro h87x e88x f89x l90x
            have e88x : zat h87x rd = some (.inr (.inr (.inr (0, [.int lk, .int hd, .int (v62x.2.2.2.2.2.2), .int bl, .int sd, .long rt, .ref (rd + 2), .ref (rd + 4), .ref (rd + 6), .int (nI sp), .ref (rd + 8), .ref (rd + 10), .int (nI so), .ref (rd + 12)])))) := e88x
            refine wq_gos (f := 1) (pc2 := 144) (ls2 := [(3, .int 9), (2, .int 0), (0, .ref 4), (1, .int w)]) (st2 := [.int 1]) (h2 := h87x) (dc2 := 0) (ds2 := 0) 2 rfl ?_
            have e91x := (f89x.2 _ _ (wnc (by omega) wn0) c061x)
            have hx : (rsG tb ln wr wa nx kd sta va lk hd ht bl sd w) = ((1 : Int32), (v62x.2.1), (v62x.2.2.1), (v62x.2.2.2.1), (v62x.2.2.2.2.1), (v62x.2.2.2.2.2.1), (v62x.2.2.2.2.2.2), lk, hd, (v62x.2.2.2.2.2.2), bl, sd) := by unfold rsG; rw [if_pos b2x, if_pos b3x, if_neg (fun q => q b5x), zlet_eq hv63x, if_pos b64x, if_neg b66x, if_neg b75x, if_pos b84x]
            rw [hx]
            exact wq_ret rfl rfl ⟨h87x, rfl, (wFr_tr (wFr_sub f861x (by simp)) (wFr_sub f89x (by simp))), by omega, e91x, e88x, (by first | ((try dsimp only); omega) | assumption | ((try dsimp only); intro q9; first | omega | exact absurd rfl q9 | assumption) | ((unfold wScl at hS ⊢; (try dsimp only); omega))), (by first | ((try dsimp only); omega) | assumption | ((try dsimp only); intro q9; first | omega | exact absurd rfl q9 | assumption) | ((unfold wScl at hS ⊢; (try dsimp only); omega)))⟩
          have q92x : (w).toInt ≠ 2 := fun q => b84x (Int32.toInt_inj.mp q)
          by_cases b93x : w = (3 : Int32)
          · have q94x : w.toInt = 3 := congrArg Int32.toInt b93x
            refine wq_tabc rfl b93x rfl ?_
            refine wq_gos (f := 1) (pc2 := 119) (ls2 := [(3, .int 9), (2, .int 0), (0, .ref 4), (1, .int w)]) (st2 := [.ref 4]) (h2 := h861x) (dc2 := 0) (ds2 := 0) 1 rfl ?_
            refine wq_getf rfl c061x rfl rfl ?_
            refine wq_gos (f := 1) (pc2 := 123) (ls2 := [(3, .int 9), (2, .int 0), (0, .ref 4), (1, .int w)]) (st2 := [.ref 4, .ref rd]) (h2 := h861x) (dc2 := 0) (ds2 := 0) 1 rfl ?_
            refine wq_getf rfl c061x rfl rfl ?_
            have e95x := (f861x.2 _ _ (wnc (by omega) wn0) hA)
            refine wq_putf rfl e95x rfl rfl rfl ?_
            intro h96x e97x f98x l99x
            have e97x : zat h96x rd = some (.inr (.inr (.inr (0, [.int lk, .int hd, .int ht, .int (v62x.2.2.2.2.2.2), .int sd, .long rt, .ref (rd + 2), .ref (rd + 4), .ref (rd + 6), .int (nI sp), .ref (rd + 8), .ref (rd + 10), .int (nI so), .ref (rd + 12)])))) := e97x
            refine wq_gos (f := 1) (pc2 := 144) (ls2 := [(3, .int 9), (2, .int 0), (0, .ref 4), (1, .int w)]) (st2 := [.int 1]) (h2 := h96x) (dc2 := 0) (ds2 := 0) 2 rfl ?_
            have e100x := (f98x.2 _ _ (wnc (by omega) wn0) c061x)
            have hx : (rsG tb ln wr wa nx kd sta va lk hd ht bl sd w) = ((1 : Int32), (v62x.2.1), (v62x.2.2.1), (v62x.2.2.2.1), (v62x.2.2.2.2.1), (v62x.2.2.2.2.2.1), (v62x.2.2.2.2.2.2), lk, hd, ht, (v62x.2.2.2.2.2.2), sd) := by unfold rsG; rw [if_pos b2x, if_pos b3x, if_neg (fun q => q b5x), zlet_eq hv63x, if_pos b64x, if_neg b66x, if_neg b75x, if_neg b84x, if_pos b93x]
            rw [hx]
            exact wq_ret rfl rfl ⟨h96x, rfl, (wFr_tr (wFr_sub f861x (by simp)) (wFr_sub f98x (by simp))), by omega, e100x, e97x, (by first | ((try dsimp only); omega) | assumption | ((try dsimp only); intro q9; first | omega | exact absurd rfl q9 | assumption) | ((unfold wScl at hS ⊢; (try dsimp only); omega))), (by first | ((try dsimp only); omega) | assumption | ((try dsimp only); intro q9; first | omega | exact absurd rfl q9 | assumption) | ((unfold wScl at hS ⊢; (try dsimp only); omega)))⟩
          have q101x : (w).toInt ≠ 3 := fun q => b93x (Int32.toInt_inj.mp q)
          refine wq_tabo rfl (by omega) ?_
          refine wq_gos (f := 1) (pc2 := 133) (ls2 := [(3, .int 9), (2, .int 0), (0, .ref 4), (1, .int w)]) (st2 := [.ref 4]) (h2 := h861x) (dc2 := 0) (ds2 := 0) 1 rfl ?_
          refine wq_getf rfl c061x rfl rfl ?_
          refine wq_gos (f := 1) (pc2 := 137) (ls2 := [(3, .int 9), (2, .int 0), (0, .ref 4), (1, .int w)]) (st2 := [.ref 4, .ref rd]) (h2 := h861x) (dc2 := 0) (ds2 := 0) 1 rfl ?_
          refine wq_getf rfl c061x rfl rfl ?_
          have e102x := (f861x.2 _ _ (wnc (by omega) wn0) hA)
          refine wq_putf rfl e102x rfl rfl rfl ?_
          intro h103x e104x f105x l106x
          have e104x : zat h103x rd = some (.inr (.inr (.inr (0, [.int lk, .int hd, .int ht, .int bl, .int (v62x.2.2.2.2.2.2), .long rt, .ref (rd + 2), .ref (rd + 4), .ref (rd + 6), .int (nI sp), .ref (rd + 8), .ref (rd + 10), .int (nI so), .ref (rd + 12)])))) := e104x
          refine wq_gos (f := 1) (pc2 := 144) (ls2 := [(3, .int 9), (2, .int 0), (0, .ref 4), (1, .int w)]) (st2 := [.int 1]) (h2 := h103x) (dc2 := 0) (ds2 := 0) 1 rfl ?_
          have e107x := (f105x.2 _ _ (wnc (by omega) wn0) c061x)
          have hx : (rsG tb ln wr wa nx kd sta va lk hd ht bl sd w) = ((1 : Int32), (v62x.2.1), (v62x.2.2.1), (v62x.2.2.2.1), (v62x.2.2.2.2.1), (v62x.2.2.2.2.2.1), (v62x.2.2.2.2.2.2), lk, hd, ht, bl, (v62x.2.2.2.2.2.2)) := by unfold rsG; rw [if_pos b2x, if_pos b3x, if_neg (fun q => q b5x), zlet_eq hv63x, if_pos b64x, if_neg b66x, if_neg b75x, if_neg b84x, if_neg b93x]
          rw [hx]
          exact wq_ret rfl rfl ⟨h103x, rfl, (wFr_tr (wFr_sub f861x (by simp)) (wFr_sub f105x (by simp))), by omega, e107x, e104x, (by first | ((try dsimp only); omega) | assumption | ((try dsimp only); intro q9; first | omega | exact absurd rfl q9 | assumption) | ((unfold wScl at hS ⊢; (try dsimp only); omega))), (by first | ((try dsimp only); omega) | assumption | ((try dsimp only); intro q9; first | omega | exact absurd rfl q9 | assumption) | ((unfold wScl at hS ⊢; (try dsimp only); omega)))⟩
        · have q108x : (v62x.1).toInt = 0 := congrArg Int32.toInt b64x
          refine wq_gos (f := 1) (pc2 := 45) (ls2 := [(3, .int 9), (2, .int 0), (0, .ref 4), (1, .int w)]) (st2 := [.int 0]) (h2 := h861x) (dc2 := 0) (ds2 := 0) 1 rfl ?_
          have e109x := (f861x.2 _ _ (wnc (by omega) wn0) hA)
          have hx : (rsG tb ln wr wa nx kd sta va lk hd ht bl sd w) = ((0 : Int32), (v62x.2.1), (v62x.2.2.1), (v62x.2.2.2.1), (v62x.2.2.2.2.1), (v62x.2.2.2.2.2.1), (v62x.2.2.2.2.2.2), lk, hd, ht, bl, sd) := by unfold rsG; rw [if_pos b2x, if_pos b3x, if_neg (fun q => q b5x), zlet_eq hv63x, if_neg (fun q => q b64x)]
          rw [hx]
          exact wq_ret rfl rfl ⟨h861x, rfl, (wFr_sub f861x (by simp)), by omega, c061x, e109x, (by first | ((try dsimp only); omega) | assumption | ((try dsimp only); intro q9; first | omega | exact absurd rfl q9 | assumption) | ((unfold wScl at hS ⊢; (try dsimp only); omega))), (by first | ((try dsimp only); omega) | assumption | ((try dsimp only); intro q9; first | omega | exact absurd rfl q9 | assumption) | ((unfold wScl at hS ⊢; (try dsimp only); omega)))⟩
    · refine wq_gos (f := 1) (pc2 := 38) (ls2 := [(3, .int 99), (2, .int 0), (0, .ref 4), (1, .int w)]) (st2 := [.int 0, .int 99, .int 0, .ref 4]) (h2 := h) (dc2 := 0) (ds2 := 0) 7 rfl ?_
      have q110x : (0 : Int32).toInt = 0 := rfl
      have q111x : (99 : Int32).toInt = 99 := rfl
      refine wq_inlv (y2 := 55) (as := [.int 0, .int 99, .int 0]) rfl rfl rfl hR rfl (wq_mono (c_rn hR hT (by first | omega | assumption | decide | solve_by_elim) (by first | omega | assumption | decide | solve_by_elim)) ?_)
      rintro _ ⟨h8112x, rfl, f8112x, l8112x, c0112x, p0112x, p1112x⟩
      show wq 48 41 [(3, .int 99), (2, .int 0), (0, .ref 4), (1, .int w)] [.int ((rnG tb ln wr wa nx kd sta va (0 : Int32) (99 : Int32) (0 : Int32)).1)] h8112x 0 0 _
      obtain ⟨v113x, hv114x⟩ : ∃ x, x = (rnG tb ln wr wa nx kd sta va (0 : Int32) (99 : Int32) (0 : Int32)) := ⟨_, rfl⟩
      try rw [← hv114x] at c0112x
      try rw [← hv114x] at p0112x
      try rw [← hv114x] at p1112x
      try rw [← hv114x]
      refine wq_ne0 rfl rfl (fun b115x => ?_) (fun b115x => ?_)
      · have q116x : (v113x.1).toInt ≠ 0 := fun q => b115x (Int32.toInt_inj.mp q)
        refine wq_gos (f := 1) (pc2 := 47) (ls2 := [(3, .int 99), (2, .int 0), (0, .ref 4), (1, .int w)]) (st2 := [.int w]) (h2 := h8112x) (dc2 := 0) (ds2 := 0) 1 rfl ?_
        by_cases b117x : w = (0 : Int32)
        · have q118x : w.toInt = 0 := congrArg Int32.toInt b117x
          refine wq_tabc rfl b117x rfl ?_
          refine wq_gos (f := 1) (pc2 := 77) (ls2 := [(3, .int 99), (2, .int 0), (0, .ref 4), (1, .int w)]) (st2 := [.ref 4]) (h2 := h8112x) (dc2 := 0) (ds2 := 0) 1 rfl ?_
          refine wq_getf rfl c0112x rfl rfl ?_
          refine wq_gos (f := 1) (pc2 := 81) (ls2 := [(3, .int 99), (2, .int 0), (0, .ref 4), (1, .int w)]) (st2 := [.ref 4, .ref rd]) (h2 := h8112x) (dc2 := 0) (ds2 := 0) 1 rfl ?_
          refine wq_getf rfl c0112x rfl rfl ?_
          have e119x := (f8112x.2 _ _ (wnc (by omega) wn0) hA)
          refine wq_putf rfl e119x rfl rfl rfl ?_
          intro h120x e121x f122x l123x
          have e121x : zat h120x rd = some (.inr (.inr (.inr (0, [.int (v113x.2.2.2.2.2.2), .int hd, .int ht, .int bl, .int sd, .long rt, .ref (rd + 2), .ref (rd + 4), .ref (rd + 6), .int (nI sp), .ref (rd + 8), .ref (rd + 10), .int (nI so), .ref (rd + 12)])))) := e121x
          refine wq_gos (f := 1) (pc2 := 144) (ls2 := [(3, .int 99), (2, .int 0), (0, .ref 4), (1, .int w)]) (st2 := [.int 1]) (h2 := h120x) (dc2 := 0) (ds2 := 0) 2 rfl ?_
          have e124x := (f122x.2 _ _ (wnc (by omega) wn0) c0112x)
          have hx : (rsG tb ln wr wa nx kd sta va lk hd ht bl sd w) = ((1 : Int32), (v113x.2.1), (v113x.2.2.1), (v113x.2.2.2.1), (v113x.2.2.2.2.1), (v113x.2.2.2.2.2.1), (v113x.2.2.2.2.2.2), (v113x.2.2.2.2.2.2), hd, ht, bl, sd) := by unfold rsG; rw [if_pos b2x, if_neg (Int.not_lt.mpr b3x), zlet_eq hv114x, if_pos b115x, if_pos b117x]
          rw [hx]
          exact wq_ret rfl rfl ⟨h120x, rfl, (wFr_tr (wFr_sub f8112x (by simp)) (wFr_sub f122x (by simp))), by omega, e124x, e121x, (by first | ((try dsimp only); omega) | assumption | ((try dsimp only); intro q9; first | omega | exact absurd rfl q9 | assumption) | ((unfold wScl at hS ⊢; (try dsimp only); omega))), (by first | ((try dsimp only); omega) | assumption | ((try dsimp only); intro q9; first | omega | exact absurd rfl q9 | assumption) | ((unfold wScl at hS ⊢; (try dsimp only); omega)))⟩
        have q125x : (w).toInt ≠ 0 := fun q => b117x (Int32.toInt_inj.mp q)
        by_cases b126x : w = (1 : Int32)
        · have q127x : w.toInt = 1 := congrArg Int32.toInt b126x
          refine wq_tabc rfl b126x rfl ?_
          refine wq_gos (f := 1) (pc2 := 91) (ls2 := [(3, .int 99), (2, .int 0), (0, .ref 4), (1, .int w)]) (st2 := [.ref 4]) (h2 := h8112x) (dc2 := 0) (ds2 := 0) 1 rfl ?_
          refine wq_getf rfl c0112x rfl rfl ?_
          refine wq_gos (f := 1) (pc2 := 95) (ls2 := [(3, .int 99), (2, .int 0), (0, .ref 4), (1, .int w)]) (st2 := [.ref 4, .ref rd]) (h2 := h8112x) (dc2 := 0) (ds2 := 0) 1 rfl ?_
          refine wq_getf rfl c0112x rfl rfl ?_
          have e128x := (f8112x.2 _ _ (wnc (by omega) wn0) hA)
          refine wq_putf rfl e128x rfl rfl rfl ?_
          intro h129x e130x f131x l132x
          have e130x : zat h129x rd = some (.inr (.inr (.inr (0, [.int lk, .int (v113x.2.2.2.2.2.2), .int ht, .int bl, .int sd, .long rt, .ref (rd + 2), .ref (rd + 4), .ref (rd + 6), .int (nI sp), .ref (rd + 8), .ref (rd + 10), .int (nI so), .ref (rd + 12)])))) := e130x
          refine wq_gos (f := 1) (pc2 := 144) (ls2 := [(3, .int 99), (2, .int 0), (0, .ref 4), (1, .int w)]) (st2 := [.int 1]) (h2 := h129x) (dc2 := 0) (ds2 := 0) 2 rfl ?_
          have e133x := (f131x.2 _ _ (wnc (by omega) wn0) c0112x)
          have hx : (rsG tb ln wr wa nx kd sta va lk hd ht bl sd w) = ((1 : Int32), (v113x.2.1), (v113x.2.2.1), (v113x.2.2.2.1), (v113x.2.2.2.2.1), (v113x.2.2.2.2.2.1), (v113x.2.2.2.2.2.2), lk, (v113x.2.2.2.2.2.2), ht, bl, sd) := by unfold rsG; rw [if_pos b2x, if_neg (Int.not_lt.mpr b3x), zlet_eq hv114x, if_pos b115x, if_neg b117x, if_pos b126x]
          rw [hx]
          exact wq_ret rfl rfl ⟨h129x, rfl, (wFr_tr (wFr_sub f8112x (by simp)) (wFr_sub f131x (by simp))), by omega, e133x, e130x, (by first | ((try dsimp only); omega) | assumption | ((try dsimp only); intro q9; first | omega | exact absurd rfl q9 | assumption) | ((unfold wScl at hS ⊢; (try dsimp only); omega))), (by first | ((try dsimp only); omega) | assumption | ((try dsimp only); intro q9; first | omega | exact absurd rfl q9 | assumption) | ((unfold wScl at hS ⊢; (try dsimp only); omega)))⟩
        have q134x : (w).toInt ≠ 1 := fun q => b126x (Int32.toInt_inj.mp q)
        by_cases b135x : w = (2 : Int32)
        · have q136x : w.toInt = 2 := congrArg Int32.toInt b135x
          refine wq_tabc rfl b135x rfl ?_
          refine wq_gos (f := 1) (pc2 := 105) (ls2 := [(3, .int 99), (2, .int 0), (0, .ref 4), (1, .int w)]) (st2 := [.ref 4]) (h2 := h8112x) (dc2 := 0) (ds2 := 0) 1 rfl ?_
          refine wq_getf rfl c0112x rfl rfl ?_
          refine wq_gos (f := 1) (pc2 := 109) (ls2 := [(3, .int 99), (2, .int 0), (0, .ref 4), (1, .int w)]) (st2 := [.ref 4, .ref rd]) (h2 := h8112x) (dc2 := 0) (ds2 := 0) 1 rfl ?_
          refine wq_getf rfl c0112x rfl rfl ?_
          have e137x := (f8112x.2 _ _ (wnc (by omega) wn0) hA)
          refine wq_putf rfl e137x rfl rfl rfl ?_
          intro h138x e139x f140x l141x
          have e139x : zat h138x rd = some (.inr (.inr (.inr (0, [.int lk, .int hd, .int (v113x.2.2.2.2.2.2), .int bl, .int sd, .long rt, .ref (rd + 2), .ref (rd + 4), .ref (rd + 6), .int (nI sp), .ref (rd + 8), .ref (rd + 10), .int (nI so), .ref (rd + 12)])))) := e139x
          refine wq_gos (f := 1) (pc2 := 144) (ls2 := [(3, .int 99), (2, .int 0), (0, .ref 4), (1, .int w)]) (st2 := [.int 1]) (h2 := h138x) (dc2 := 0) (ds2 := 0) 2 rfl ?_
          have e142x := (f140x.2 _ _ (wnc (by omega) wn0) c0112x)
          have hx : (rsG tb ln wr wa nx kd sta va lk hd ht bl sd w) = ((1 : Int32), (v113x.2.1), (v113x.2.2.1), (v113x.2.2.2.1), (v113x.2.2.2.2.1), (v113x.2.2.2.2.2.1), (v113x.2.2.2.2.2.2), lk, hd, (v113x.2.2.2.2.2.2), bl, sd) := by unfold rsG; rw [if_pos b2x, if_neg (Int.not_lt.mpr b3x), zlet_eq hv114x, if_pos b115x, if_neg b117x, if_neg b126x, if_pos b135x]
          rw [hx]
          exact wq_ret rfl rfl ⟨h138x, rfl, (wFr_tr (wFr_sub f8112x (by simp)) (wFr_sub f140x (by simp))), by omega, e142x, e139x, (by first | ((try dsimp only); omega) | assumption | ((try dsimp only); intro q9; first | omega | exact absurd rfl q9 | assumption) | ((unfold wScl at hS ⊢; (try dsimp only); omega))), (by first | ((try dsimp only); omega) | assumption | ((try dsimp only); intro q9; first | omega | exact absurd rfl q9 | assumption) | ((unfold wScl at hS ⊢; (try dsimp only); omega)))⟩
        have q143x : (w).toInt ≠ 2 := fun q => b135x (Int32.toInt_inj.mp q)
        by_cases b144x : w = (3 : Int32)
        · have q145x : w.toInt = 3 := congrArg Int32.toInt b144x
          refine wq_tabc rfl b144x rfl ?_
          refine wq_gos (f := 1) (pc2 := 119) (ls2 := [(3, .int 99), (2, .int 0), (0, .ref 4), (1, .int w)]) (st2 := [.ref 4]) (h2 := h8112x) (dc2 := 0) (ds2 := 0) 1 rfl ?_
          refine wq_getf rfl c0112x rfl rfl ?_
          refine wq_gos (f := 1) (pc2 := 123) (ls2 := [(3, .int 99), (2, .int 0), (0, .ref 4), (1, .int w)]) (st2 := [.ref 4, .ref rd]) (h2 := h8112x) (dc2 := 0) (ds2 := 0) 1 rfl ?_
          refine wq_getf rfl c0112x rfl rfl ?_
          have e146x := (f8112x.2 _ _ (wnc (by omega) wn0) hA)
          refine wq_putf rfl e146x rfl rfl rfl ?_
          intro h147x e148x f149x l150x
          have e148x : zat h147x rd = some (.inr (.inr (.inr (0, [.int lk, .int hd, .int ht, .int (v113x.2.2.2.2.2.2), .int sd, .long rt, .ref (rd + 2), .ref (rd + 4), .ref (rd + 6), .int (nI sp), .ref (rd + 8), .ref (rd + 10), .int (nI so), .ref (rd + 12)])))) := e148x
          refine wq_gos (f := 1) (pc2 := 144) (ls2 := [(3, .int 99), (2, .int 0), (0, .ref 4), (1, .int w)]) (st2 := [.int 1]) (h2 := h147x) (dc2 := 0) (ds2 := 0) 2 rfl ?_
          have e151x := (f149x.2 _ _ (wnc (by omega) wn0) c0112x)
          have hx : (rsG tb ln wr wa nx kd sta va lk hd ht bl sd w) = ((1 : Int32), (v113x.2.1), (v113x.2.2.1), (v113x.2.2.2.1), (v113x.2.2.2.2.1), (v113x.2.2.2.2.2.1), (v113x.2.2.2.2.2.2), lk, hd, ht, (v113x.2.2.2.2.2.2), sd) := by unfold rsG; rw [if_pos b2x, if_neg (Int.not_lt.mpr b3x), zlet_eq hv114x, if_pos b115x, if_neg b117x, if_neg b126x, if_neg b135x, if_pos b144x]
          rw [hx]
          exact wq_ret rfl rfl ⟨h147x, rfl, (wFr_tr (wFr_sub f8112x (by simp)) (wFr_sub f149x (by simp))), by omega, e151x, e148x, (by first | ((try dsimp only); omega) | assumption | ((try dsimp only); intro q9; first | omega | exact absurd rfl q9 | assumption) | ((unfold wScl at hS ⊢; (try dsimp only); omega))), (by first | ((try dsimp only); omega) | assumption | ((try dsimp only); intro q9; first | omega | exact absurd rfl q9 | assumption) | ((unfold wScl at hS ⊢; (try dsimp only); omega)))⟩
        have q152x : (w).toInt ≠ 3 := fun q => b144x (Int32.toInt_inj.mp q)
        refine wq_tabo rfl (by omega) ?_
        refine wq_gos (f := 1) (pc2 := 133) (ls2 := [(3, .int 99), (2, .int 0), (0, .ref 4), (1, .int w)]) (st2 := [.ref 4]) (h2 := h8112x) (dc2 := 0) (ds2 := 0) 1 rfl ?_
        refine wq_getf rfl c0112x rfl rfl ?_
        refine wq_gos (f := 1) (pc2 := 137) (ls2 := [(3, .int 99), (2, .int 0), (0, .ref 4), (1, .int w)]) (st2 := [.ref 4, .ref rd]) (h2 := h8112x) (dc2 := 0) (ds2 := 0) 1 rfl ?_
        refine wq_getf rfl c0112x rfl rfl ?_
        have e153x := (f8112x.2 _ _ (wnc (by omega) wn0) hA)
        refine wq_putf rfl e153x rfl rfl rfl ?_
        intro h154x e155x f156x l157x
        have e155x : zat h154x rd = some (.inr (.inr (.inr (0, [.int lk, .int hd, .int ht, .int bl, .int (v113x.2.2.2.2.2.2), .long rt, .ref (rd + 2), .ref (rd + 4), .ref (rd + 6), .int (nI sp), .ref (rd + 8), .ref (rd + 10), .int (nI so), .ref (rd + 12)])))) := e155x
        refine wq_gos (f := 1) (pc2 := 144) (ls2 := [(3, .int 99), (2, .int 0), (0, .ref 4), (1, .int w)]) (st2 := [.int 1]) (h2 := h154x) (dc2 := 0) (ds2 := 0) 1 rfl ?_
        have e158x := (f156x.2 _ _ (wnc (by omega) wn0) c0112x)
        have hx : (rsG tb ln wr wa nx kd sta va lk hd ht bl sd w) = ((1 : Int32), (v113x.2.1), (v113x.2.2.1), (v113x.2.2.2.1), (v113x.2.2.2.2.1), (v113x.2.2.2.2.2.1), (v113x.2.2.2.2.2.2), lk, hd, ht, bl, (v113x.2.2.2.2.2.2)) := by unfold rsG; rw [if_pos b2x, if_neg (Int.not_lt.mpr b3x), zlet_eq hv114x, if_pos b115x, if_neg b117x, if_neg b126x, if_neg b135x, if_neg b144x]
        rw [hx]
        exact wq_ret rfl rfl ⟨h154x, rfl, (wFr_tr (wFr_sub f8112x (by simp)) (wFr_sub f156x (by simp))), by omega, e158x, e155x, (by first | ((try dsimp only); omega) | assumption | ((try dsimp only); intro q9; first | omega | exact absurd rfl q9 | assumption) | ((unfold wScl at hS ⊢; (try dsimp only); omega))), (by first | ((try dsimp only); omega) | assumption | ((try dsimp only); intro q9; first | omega | exact absurd rfl q9 | assumption) | ((unfold wScl at hS ⊢; (try dsimp only); omega)))⟩
      · have q159x : (v113x.1).toInt = 0 := congrArg Int32.toInt b115x
        refine wq_gos (f := 1) (pc2 := 45) (ls2 := [(3, .int 99), (2, .int 0), (0, .ref 4), (1, .int w)]) (st2 := [.int 0]) (h2 := h8112x) (dc2 := 0) (ds2 := 0) 1 rfl ?_
        have e160x := (f8112x.2 _ _ (wnc (by omega) wn0) hA)
        have hx : (rsG tb ln wr wa nx kd sta va lk hd ht bl sd w) = ((0 : Int32), (v113x.2.1), (v113x.2.2.1), (v113x.2.2.2.1), (v113x.2.2.2.2.1), (v113x.2.2.2.2.2.1), (v113x.2.2.2.2.2.2), lk, hd, ht, bl, sd) := by unfold rsG; rw [if_pos b2x, if_neg (Int.not_lt.mpr b3x), zlet_eq hv114x, if_neg (fun q => q b115x)]
        rw [hx]
        exact wq_ret rfl rfl ⟨h8112x, rfl, (wFr_sub f8112x (by simp)), by omega, c0112x, e160x, (by first | ((try dsimp only); omega) | assumption | ((try dsimp only); intro q9; first | omega | exact absurd rfl q9 | assumption) | ((unfold wScl at hS ⊢; (try dsimp only); omega))), (by first | ((try dsimp only); omega) | assumption | ((try dsimp only); intro q9; first | omega | exact absurd rfl q9 | assumption) | ((unfold wScl at hS ⊢; (try dsimp only); omega)))⟩
  · refine wq_gos (f := 1) (pc2 := 13) (ls2 := [(2, .int 1), (0, .ref 4), (1, .int w)]) (st2 := [.int 2, .int w]) (h2 := h) (dc2 := 0) (ds2 := 0) 5 rfl ?_
    refine wq_gt2 rfl rfl (fun b161x => ?_) (fun b161x => ?_)
    · refine wq_gos (f := 1) (pc2 := 23) (ls2 := [(2, .int 1), (0, .ref 4), (1, .int w)]) (st2 := [.int 3, .int w]) (h2 := h) (dc2 := 0) (ds2 := 0) 2 rfl ?_
      have q162x : (3 : Int32).toInt = 3 := rfl
      refine wq_ne2 rfl rfl (fun b163x => ?_) (fun b163x => ?_)
      · have q164x : w.toInt ≠ 3 := fun q => b163x (Int32.toInt_inj.mp q)
        refine wq_gos (f := 1) (pc2 := 38) (ls2 := [(3, .int 99999), (2, .int 1), (0, .ref 4), (1, .int w)]) (st2 := [.int 0, .int 99999, .int 1, .ref 4]) (h2 := h) (dc2 := 0) (ds2 := 0) 6 rfl ?_
        have q165x : (1 : Int32).toInt = 1 := rfl
        have q166x : (99999 : Int32).toInt = 99999 := rfl
        have q167x : (0 : Int32).toInt = 0 := rfl
        refine wq_inlv (y2 := 55) (as := [.int 1, .int 99999, .int 0]) rfl rfl rfl hR rfl (wq_mono (c_rn hR hT (by first | omega | assumption | decide | solve_by_elim) (by first | omega | assumption | decide | solve_by_elim)) ?_)
        rintro _ ⟨h8168x, rfl, f8168x, l8168x, c0168x, p0168x, p1168x⟩
        show wq 48 41 [(3, .int 99999), (2, .int 1), (0, .ref 4), (1, .int w)] [.int ((rnG tb ln wr wa nx kd sta va (1 : Int32) (99999 : Int32) (0 : Int32)).1)] h8168x 0 0 _
        obtain ⟨v169x, hv170x⟩ : ∃ x, x = (rnG tb ln wr wa nx kd sta va (1 : Int32) (99999 : Int32) (0 : Int32)) := ⟨_, rfl⟩
        try rw [← hv170x] at c0168x
        try rw [← hv170x] at p0168x
        try rw [← hv170x] at p1168x
        try rw [← hv170x]
        refine wq_ne0 rfl rfl (fun b171x => ?_) (fun b171x => ?_)
        · have q172x : (v169x.1).toInt ≠ 0 := fun q => b171x (Int32.toInt_inj.mp q)
          refine wq_gos (f := 1) (pc2 := 47) (ls2 := [(3, .int 99999), (2, .int 1), (0, .ref 4), (1, .int w)]) (st2 := [.int w]) (h2 := h8168x) (dc2 := 0) (ds2 := 0) 1 rfl ?_
          by_cases b173x : w = (0 : Int32)
          · have q174x : w.toInt = 0 := congrArg Int32.toInt b173x
            refine wq_tabc rfl b173x rfl ?_
            refine wq_gos (f := 1) (pc2 := 77) (ls2 := [(3, .int 99999), (2, .int 1), (0, .ref 4), (1, .int w)]) (st2 := [.ref 4]) (h2 := h8168x) (dc2 := 0) (ds2 := 0) 1 rfl ?_
            refine wq_getf rfl c0168x rfl rfl ?_
            refine wq_gos (f := 1) (pc2 := 81) (ls2 := [(3, .int 99999), (2, .int 1), (0, .ref 4), (1, .int w)]) (st2 := [.ref 4, .ref rd]) (h2 := h8168x) (dc2 := 0) (ds2 := 0) 1 rfl ?_
            refine wq_getf rfl c0168x rfl rfl ?_
            have e175x := (f8168x.2 _ _ (wnc (by omega) wn0) hA)
            refine wq_putf rfl e175x rfl rfl rfl ?_
            intro h176x e177x f178x l179x
            have e177x : zat h176x rd = some (.inr (.inr (.inr (0, [.int (v169x.2.2.2.2.2.2), .int hd, .int ht, .int bl, .int sd, .long rt, .ref (rd + 2), .ref (rd + 4), .ref (rd + 6), .int (nI sp), .ref (rd + 8), .ref (rd + 10), .int (nI so), .ref (rd + 12)])))) := e177x
            refine wq_gos (f := 1) (pc2 := 144) (ls2 := [(3, .int 99999), (2, .int 1), (0, .ref 4), (1, .int w)]) (st2 := [.int 1]) (h2 := h176x) (dc2 := 0) (ds2 := 0) 2 rfl ?_
            have e180x := (f178x.2 _ _ (wnc (by omega) wn0) c0168x)
            have hx : (rsG tb ln wr wa nx kd sta va lk hd ht bl sd w) = ((1 : Int32), (v169x.2.1), (v169x.2.2.1), (v169x.2.2.2.1), (v169x.2.2.2.2.1), (v169x.2.2.2.2.2.1), (v169x.2.2.2.2.2.2), (v169x.2.2.2.2.2.2), hd, ht, bl, sd) := by unfold rsG; rw [if_neg (Int.not_lt.mpr b2x), if_pos b161x, if_pos b163x, zlet_eq hv170x, if_pos b171x, if_pos b173x]
            rw [hx]
            exact wq_ret rfl rfl ⟨h176x, rfl, (wFr_tr (wFr_sub f8168x (by simp)) (wFr_sub f178x (by simp))), by omega, e180x, e177x, (by first | ((try dsimp only); omega) | assumption | ((try dsimp only); intro q9; first | omega | exact absurd rfl q9 | assumption) | ((unfold wScl at hS ⊢; (try dsimp only); omega))), (by first | ((try dsimp only); omega) | assumption | ((try dsimp only); intro q9; first | omega | exact absurd rfl q9 | assumption) | ((unfold wScl at hS ⊢; (try dsimp only); omega)))⟩
          have q181x : (w).toInt ≠ 0 := fun q => b173x (Int32.toInt_inj.mp q)
          by_cases b182x : w = (1 : Int32)
          · have q183x : w.toInt = 1 := congrArg Int32.toInt b182x
            refine wq_tabc rfl b182x rfl ?_
            refine wq_gos (f := 1) (pc2 := 91) (ls2 := [(3, .int 99999), (2, .int 1), (0, .ref 4), (1, .int w)]) (st2 := [.ref 4]) (h2 := h8168x) (dc2 := 0) (ds2 := 0) 1 rfl ?_
            refine wq_getf rfl c0168x rfl rfl ?_
            refine wq_gos (f := 1) (pc2 := 95) (ls2 := [(3, .int 99999), (2, .int 1), (0, .ref 4), (1, .int w)]) (st2 := [.ref 4, .ref rd]) (h2 := h8168x) (dc2 := 0) (ds2 := 0) 1 rfl ?_
            refine wq_getf rfl c0168x rfl rfl ?_
            have e184x := (f8168x.2 _ _ (wnc (by omega) wn0) hA)
            refine wq_putf rfl e184x rfl rfl rfl ?_
            intro h185x e186x f187x l188x
            have e186x : zat h185x rd = some (.inr (.inr (.inr (0, [.int lk, .int (v169x.2.2.2.2.2.2), .int ht, .int bl, .int sd, .long rt, .ref (rd + 2), .ref (rd + 4), .ref (rd + 6), .int (nI sp), .ref (rd + 8), .ref (rd + 10), .int (nI so), .ref (rd + 12)])))) := e186x
            refine wq_gos (f := 1) (pc2 := 144) (ls2 := [(3, .int 99999), (2, .int 1), (0, .ref 4), (1, .int w)]) (st2 := [.int 1]) (h2 := h185x) (dc2 := 0) (ds2 := 0) 2 rfl ?_
            have e189x := (f187x.2 _ _ (wnc (by omega) wn0) c0168x)
            have hx : (rsG tb ln wr wa nx kd sta va lk hd ht bl sd w) = ((1 : Int32), (v169x.2.1), (v169x.2.2.1), (v169x.2.2.2.1), (v169x.2.2.2.2.1), (v169x.2.2.2.2.2.1), (v169x.2.2.2.2.2.2), lk, (v169x.2.2.2.2.2.2), ht, bl, sd) := by unfold rsG; rw [if_neg (Int.not_lt.mpr b2x), if_pos b161x, if_pos b163x, zlet_eq hv170x, if_pos b171x, if_neg b173x, if_pos b182x]
            rw [hx]
            exact wq_ret rfl rfl ⟨h185x, rfl, (wFr_tr (wFr_sub f8168x (by simp)) (wFr_sub f187x (by simp))), by omega, e189x, e186x, (by first | ((try dsimp only); omega) | assumption | ((try dsimp only); intro q9; first | omega | exact absurd rfl q9 | assumption) | ((unfold wScl at hS ⊢; (try dsimp only); omega))), (by first | ((try dsimp only); omega) | assumption | ((try dsimp only); intro q9; first | omega | exact absurd rfl q9 | assumption) | ((unfold wScl at hS ⊢; (try dsimp only); omega)))⟩
          have q190x : (w).toInt ≠ 1 := fun q => b182x (Int32.toInt_inj.mp q)
          by_cases b191x : w = (2 : Int32)
          · have q192x : w.toInt = 2 := congrArg Int32.toInt b191x
            refine wq_tabc rfl b191x rfl ?_
            refine wq_gos (f := 1) (pc2 := 105) (ls2 := [(3, .int 99999), (2, .int 1), (0, .ref 4), (1, .int w)]) (st2 := [.ref 4]) (h2 := h8168x) (dc2 := 0) (ds2 := 0) 1 rfl ?_
            refine wq_getf rfl c0168x rfl rfl ?_
            refine wq_gos (f := 1) (pc2 := 109) (ls2 := [(3, .int 99999), (2, .int 1), (0, .ref 4), (1, .int w)]) (st2 := [.ref 4, .ref rd]) (h2 := h8168x) (dc2 := 0) (ds2 := 0) 1 rfl ?_
            refine wq_getf rfl c0168x rfl rfl ?_
            have e193x := (f8168x.2 _ _ (wnc (by omega) wn0) hA)
            refine wq_putf rfl e193x rfl rfl rfl ?_
            intro h194x e195x f196x l197x
            have e195x : zat h194x rd = some (.inr (.inr (.inr (0, [.int lk, .int hd, .int (v169x.2.2.2.2.2.2), .int bl, .int sd, .long rt, .ref (rd + 2), .ref (rd + 4), .ref (rd + 6), .int (nI sp), .ref (rd + 8), .ref (rd + 10), .int (nI so), .ref (rd + 12)])))) := e195x
            refine wq_gos (f := 1) (pc2 := 144) (ls2 := [(3, .int 99999), (2, .int 1), (0, .ref 4), (1, .int w)]) (st2 := [.int 1]) (h2 := h194x) (dc2 := 0) (ds2 := 0) 2 rfl ?_
            have e198x := (f196x.2 _ _ (wnc (by omega) wn0) c0168x)
            have hx : (rsG tb ln wr wa nx kd sta va lk hd ht bl sd w) = ((1 : Int32), (v169x.2.1), (v169x.2.2.1), (v169x.2.2.2.1), (v169x.2.2.2.2.1), (v169x.2.2.2.2.2.1), (v169x.2.2.2.2.2.2), lk, hd, (v169x.2.2.2.2.2.2), bl, sd) := by unfold rsG; rw [if_neg (Int.not_lt.mpr b2x), if_pos b161x, if_pos b163x, zlet_eq hv170x, if_pos b171x, if_neg b173x, if_neg b182x, if_pos b191x]
            rw [hx]
            exact wq_ret rfl rfl ⟨h194x, rfl, (wFr_tr (wFr_sub f8168x (by simp)) (wFr_sub f196x (by simp))), by omega, e198x, e195x, (by first | ((try dsimp only); omega) | assumption | ((try dsimp only); intro q9; first | omega | exact absurd rfl q9 | assumption) | ((unfold wScl at hS ⊢; (try dsimp only); omega))), (by first | ((try dsimp only); omega) | assumption | ((try dsimp only); intro q9; first | omega | exact absurd rfl q9 | assumption) | ((unfold wScl at hS ⊢; (try dsimp only); omega)))⟩
          have q199x : (w).toInt ≠ 2 := fun q => b191x (Int32.toInt_inj.mp q)
          by_cases b200x : w = (3 : Int32)
          · have q201x : w.toInt = 3 := congrArg Int32.toInt b200x
            refine wq_tabc rfl b200x rfl ?_
            refine wq_gos (f := 1) (pc2 := 119) (ls2 := [(3, .int 99999), (2, .int 1), (0, .ref 4), (1, .int w)]) (st2 := [.ref 4]) (h2 := h8168x) (dc2 := 0) (ds2 := 0) 1 rfl ?_
            refine wq_getf rfl c0168x rfl rfl ?_
            refine wq_gos (f := 1) (pc2 := 123) (ls2 := [(3, .int 99999), (2, .int 1), (0, .ref 4), (1, .int w)]) (st2 := [.ref 4, .ref rd]) (h2 := h8168x) (dc2 := 0) (ds2 := 0) 1 rfl ?_
            refine wq_getf rfl c0168x rfl rfl ?_
            have e202x := (f8168x.2 _ _ (wnc (by omega) wn0) hA)
            refine wq_putf rfl e202x rfl rfl rfl ?_
            intro h203x e204x f205x l206x
            have e204x : zat h203x rd = some (.inr (.inr (.inr (0, [.int lk, .int hd, .int ht, .int (v169x.2.2.2.2.2.2), .int sd, .long rt, .ref (rd + 2), .ref (rd + 4), .ref (rd + 6), .int (nI sp), .ref (rd + 8), .ref (rd + 10), .int (nI so), .ref (rd + 12)])))) := e204x
            refine wq_gos (f := 1) (pc2 := 144) (ls2 := [(3, .int 99999), (2, .int 1), (0, .ref 4), (1, .int w)]) (st2 := [.int 1]) (h2 := h203x) (dc2 := 0) (ds2 := 0) 2 rfl ?_
            have e207x := (f205x.2 _ _ (wnc (by omega) wn0) c0168x)
            have hx : (rsG tb ln wr wa nx kd sta va lk hd ht bl sd w) = ((1 : Int32), (v169x.2.1), (v169x.2.2.1), (v169x.2.2.2.1), (v169x.2.2.2.2.1), (v169x.2.2.2.2.2.1), (v169x.2.2.2.2.2.2), lk, hd, ht, (v169x.2.2.2.2.2.2), sd) := by unfold rsG; rw [if_neg (Int.not_lt.mpr b2x), if_pos b161x, if_pos b163x, zlet_eq hv170x, if_pos b171x, if_neg b173x, if_neg b182x, if_neg b191x, if_pos b200x]
            rw [hx]
            exact wq_ret rfl rfl ⟨h203x, rfl, (wFr_tr (wFr_sub f8168x (by simp)) (wFr_sub f205x (by simp))), by omega, e207x, e204x, (by first | ((try dsimp only); omega) | assumption | ((try dsimp only); intro q9; first | omega | exact absurd rfl q9 | assumption) | ((unfold wScl at hS ⊢; (try dsimp only); omega))), (by first | ((try dsimp only); omega) | assumption | ((try dsimp only); intro q9; first | omega | exact absurd rfl q9 | assumption) | ((unfold wScl at hS ⊢; (try dsimp only); omega)))⟩
          have q208x : (w).toInt ≠ 3 := fun q => b200x (Int32.toInt_inj.mp q)
          refine wq_tabo rfl (by omega) ?_
          refine wq_gos (f := 1) (pc2 := 133) (ls2 := [(3, .int 99999), (2, .int 1), (0, .ref 4), (1, .int w)]) (st2 := [.ref 4]) (h2 := h8168x) (dc2 := 0) (ds2 := 0) 1 rfl ?_
          refine wq_getf rfl c0168x rfl rfl ?_
          refine wq_gos (f := 1) (pc2 := 137) (ls2 := [(3, .int 99999), (2, .int 1), (0, .ref 4), (1, .int w)]) (st2 := [.ref 4, .ref rd]) (h2 := h8168x) (dc2 := 0) (ds2 := 0) 1 rfl ?_
          refine wq_getf rfl c0168x rfl rfl ?_
          have e209x := (f8168x.2 _ _ (wnc (by omega) wn0) hA)
          refine wq_putf rfl e209x rfl rfl rfl ?_
          intro h210x e211x f212x l213x
          have e211x : zat h210x rd = some (.inr (.inr (.inr (0, [.int lk, .int hd, .int ht, .int bl, .int (v169x.2.2.2.2.2.2), .long rt, .ref (rd + 2), .ref (rd + 4), .ref (rd + 6), .int (nI sp), .ref (rd + 8), .ref (rd + 10), .int (nI so), .ref (rd + 12)])))) := e211x
          refine wq_gos (f := 1) (pc2 := 144) (ls2 := [(3, .int 99999), (2, .int 1), (0, .ref 4), (1, .int w)]) (st2 := [.int 1]) (h2 := h210x) (dc2 := 0) (ds2 := 0) 1 rfl ?_
          have e214x := (f212x.2 _ _ (wnc (by omega) wn0) c0168x)
          have hx : (rsG tb ln wr wa nx kd sta va lk hd ht bl sd w) = ((1 : Int32), (v169x.2.1), (v169x.2.2.1), (v169x.2.2.2.1), (v169x.2.2.2.2.1), (v169x.2.2.2.2.2.1), (v169x.2.2.2.2.2.2), lk, hd, ht, bl, (v169x.2.2.2.2.2.2)) := by unfold rsG; rw [if_neg (Int.not_lt.mpr b2x), if_pos b161x, if_pos b163x, zlet_eq hv170x, if_pos b171x, if_neg b173x, if_neg b182x, if_neg b191x, if_neg b200x]
          rw [hx]
          exact wq_ret rfl rfl ⟨h210x, rfl, (wFr_tr (wFr_sub f8168x (by simp)) (wFr_sub f212x (by simp))), by omega, e214x, e211x, (by first | ((try dsimp only); omega) | assumption | ((try dsimp only); intro q9; first | omega | exact absurd rfl q9 | assumption) | ((unfold wScl at hS ⊢; (try dsimp only); omega))), (by first | ((try dsimp only); omega) | assumption | ((try dsimp only); intro q9; first | omega | exact absurd rfl q9 | assumption) | ((unfold wScl at hS ⊢; (try dsimp only); omega)))⟩
        · have q215x : (v169x.1).toInt = 0 := congrArg Int32.toInt b171x
          refine wq_gos (f := 1) (pc2 := 45) (ls2 := [(3, .int 99999), (2, .int 1), (0, .ref 4), (1, .int w)]) (st2 := [.int 0]) (h2 := h8168x) (dc2 := 0) (ds2 := 0) 1 rfl ?_
          have e216x := (f8168x.2 _ _ (wnc (by omega) wn0) hA)
          have hx : (rsG tb ln wr wa nx kd sta va lk hd ht bl sd w) = ((0 : Int32), (v169x.2.1), (v169x.2.2.1), (v169x.2.2.2.1), (v169x.2.2.2.2.1), (v169x.2.2.2.2.2.1), (v169x.2.2.2.2.2.2), lk, hd, ht, bl, sd) := by unfold rsG; rw [if_neg (Int.not_lt.mpr b2x), if_pos b161x, if_pos b163x, zlet_eq hv170x, if_neg (fun q => q b171x)]
          rw [hx]
          exact wq_ret rfl rfl ⟨h8168x, rfl, (wFr_sub f8168x (by simp)), by omega, c0168x, e216x, (by first | ((try dsimp only); omega) | assumption | ((try dsimp only); intro q9; first | omega | exact absurd rfl q9 | assumption) | ((unfold wScl at hS ⊢; (try dsimp only); omega))), (by first | ((try dsimp only); omega) | assumption | ((try dsimp only); intro q9; first | omega | exact absurd rfl q9 | assumption) | ((unfold wScl at hS ⊢; (try dsimp only); omega)))⟩
      · have q217x : w.toInt = 3 := congrArg Int32.toInt b163x
        refine wq_gos (f := 1) (pc2 := 38) (ls2 := [(3, .int 9), (2, .int 1), (0, .ref 4), (1, .int w)]) (st2 := [.int 0, .int 9, .int 1, .ref 4]) (h2 := h) (dc2 := 0) (ds2 := 0) 7 rfl ?_
        have q218x : (1 : Int32).toInt = 1 := rfl
        have q219x : (9 : Int32).toInt = 9 := rfl
        have q220x : (0 : Int32).toInt = 0 := rfl
        refine wq_inlv (y2 := 55) (as := [.int 1, .int 9, .int 0]) rfl rfl rfl hR rfl (wq_mono (c_rn hR hT (by first | omega | assumption | decide | solve_by_elim) (by first | omega | assumption | decide | solve_by_elim)) ?_)
        rintro _ ⟨h8221x, rfl, f8221x, l8221x, c0221x, p0221x, p1221x⟩
        show wq 48 41 [(3, .int 9), (2, .int 1), (0, .ref 4), (1, .int w)] [.int ((rnG tb ln wr wa nx kd sta va (1 : Int32) (9 : Int32) (0 : Int32)).1)] h8221x 0 0 _
        obtain ⟨v222x, hv223x⟩ : ∃ x, x = (rnG tb ln wr wa nx kd sta va (1 : Int32) (9 : Int32) (0 : Int32)) := ⟨_, rfl⟩
        try rw [← hv223x] at c0221x
        try rw [← hv223x] at p0221x
        try rw [← hv223x] at p1221x
        try rw [← hv223x]
        refine wq_ne0 rfl rfl (fun b224x => ?_) (fun b224x => ?_)
        · have q225x : (v222x.1).toInt ≠ 0 := fun q => b224x (Int32.toInt_inj.mp q)
          refine wq_gos (f := 1) (pc2 := 47) (ls2 := [(3, .int 9), (2, .int 1), (0, .ref 4), (1, .int w)]) (st2 := [.int w]) (h2 := h8221x) (dc2 := 0) (ds2 := 0) 1 rfl ?_
          by_cases b226x : w = (0 : Int32)
          · have q227x : w.toInt = 0 := congrArg Int32.toInt b226x
            refine wq_tabc rfl b226x rfl ?_
            refine wq_gos (f := 1) (pc2 := 77) (ls2 := [(3, .int 9), (2, .int 1), (0, .ref 4), (1, .int w)]) (st2 := [.ref 4]) (h2 := h8221x) (dc2 := 0) (ds2 := 0) 1 rfl ?_
            refine wq_getf rfl c0221x rfl rfl ?_
            refine wq_gos (f := 1) (pc2 := 81) (ls2 := [(3, .int 9), (2, .int 1), (0, .ref 4), (1, .int w)]) (st2 := [.ref 4, .ref rd]) (h2 := h8221x) (dc2 := 0) (ds2 := 0) 1 rfl ?_
            refine wq_getf rfl c0221x rfl rfl ?_
            have e228x := (f8221x.2 _ _ (wnc (by omega) wn0) hA)
            refine wq_putf rfl e228x rfl rfl rfl ?_
            intro h229x e230x f231x l232x
            have e230x : zat h229x rd = some (.inr (.inr (.inr (0, [.int (v222x.2.2.2.2.2.2), .int hd, .int ht, .int bl, .int sd, .long rt, .ref (rd + 2), .ref (rd + 4), .ref (rd + 6), .int (nI sp), .ref (rd + 8), .ref (rd + 10), .int (nI so), .ref (rd + 12)])))) := e230x
            refine wq_gos (f := 1) (pc2 := 144) (ls2 := [(3, .int 9), (2, .int 1), (0, .ref 4), (1, .int w)]) (st2 := [.int 1]) (h2 := h229x) (dc2 := 0) (ds2 := 0) 2 rfl ?_
            have e233x := (f231x.2 _ _ (wnc (by omega) wn0) c0221x)
            have hx : (rsG tb ln wr wa nx kd sta va lk hd ht bl sd w) = ((1 : Int32), (v222x.2.1), (v222x.2.2.1), (v222x.2.2.2.1), (v222x.2.2.2.2.1), (v222x.2.2.2.2.2.1), (v222x.2.2.2.2.2.2), (v222x.2.2.2.2.2.2), hd, ht, bl, sd) := by unfold rsG; rw [if_neg (Int.not_lt.mpr b2x), if_pos b161x, if_neg (fun q => q b163x), zlet_eq hv223x, if_pos b224x, if_pos b226x]
            rw [hx]
            exact wq_ret rfl rfl ⟨h229x, rfl, (wFr_tr (wFr_sub f8221x (by simp)) (wFr_sub f231x (by simp))), by omega, e233x, e230x, (by first | ((try dsimp only); omega) | assumption | ((try dsimp only); intro q9; first | omega | exact absurd rfl q9 | assumption) | ((unfold wScl at hS ⊢; (try dsimp only); omega))), (by first | ((try dsimp only); omega) | assumption | ((try dsimp only); intro q9; first | omega | exact absurd rfl q9 | assumption) | ((unfold wScl at hS ⊢; (try dsimp only); omega)))⟩
          have q234x : (w).toInt ≠ 0 := fun q => b226x (Int32.toInt_inj.mp q)
          by_cases b235x : w = (1 : Int32)
          · have q236x : w.toInt = 1 := congrArg Int32.toInt b235x
            refine wq_tabc rfl b235x rfl ?_
            refine wq_gos (f := 1) (pc2 := 91) (ls2 := [(3, .int 9), (2, .int 1), (0, .ref 4), (1, .int w)]) (st2 := [.ref 4]) (h2 := h8221x) (dc2 := 0) (ds2 := 0) 1 rfl ?_
            refine wq_getf rfl c0221x rfl rfl ?_
            refine wq_gos (f := 1) (pc2 := 95) (ls2 := [(3, .int 9), (2, .int 1), (0, .ref 4), (1, .int w)]) (st2 := [.ref 4, .ref rd]) (h2 := h8221x) (dc2 := 0) (ds2 := 0) 1 rfl ?_
            refine wq_getf rfl c0221x rfl rfl ?_
            have e237x := (f8221x.2 _ _ (wnc (by omega) wn0) hA)
            refine wq_putf rfl e237x rfl rfl rfl ?_
            intro h238x e239x f240x l241x
            have e239x : zat h238x rd = some (.inr (.inr (.inr (0, [.int lk, .int (v222x.2.2.2.2.2.2), .int ht, .int bl, .int sd, .long rt, .ref (rd + 2), .ref (rd + 4), .ref (rd + 6), .int (nI sp), .ref (rd + 8), .ref (rd + 10), .int (nI so), .ref (rd + 12)])))) := e239x
            refine wq_gos (f := 1) (pc2 := 144) (ls2 := [(3, .int 9), (2, .int 1), (0, .ref 4), (1, .int w)]) (st2 := [.int 1]) (h2 := h238x) (dc2 := 0) (ds2 := 0) 2 rfl ?_
            have e242x := (f240x.2 _ _ (wnc (by omega) wn0) c0221x)
            have hx : (rsG tb ln wr wa nx kd sta va lk hd ht bl sd w) = ((1 : Int32), (v222x.2.1), (v222x.2.2.1), (v222x.2.2.2.1), (v222x.2.2.2.2.1), (v222x.2.2.2.2.2.1), (v222x.2.2.2.2.2.2), lk, (v222x.2.2.2.2.2.2), ht, bl, sd) := by unfold rsG; rw [if_neg (Int.not_lt.mpr b2x), if_pos b161x, if_neg (fun q => q b163x), zlet_eq hv223x, if_pos b224x, if_neg b226x, if_pos b235x]
            rw [hx]
            exact wq_ret rfl rfl ⟨h238x, rfl, (wFr_tr (wFr_sub f8221x (by simp)) (wFr_sub f240x (by simp))), by omega, e242x, e239x, (by first | ((try dsimp only); omega) | assumption | ((try dsimp only); intro q9; first | omega | exact absurd rfl q9 | assumption) | ((unfold wScl at hS ⊢; (try dsimp only); omega))), (by first | ((try dsimp only); omega) | assumption | ((try dsimp only); intro q9; first | omega | exact absurd rfl q9 | assumption) | ((unfold wScl at hS ⊢; (try dsimp only); omega)))⟩
          have q243x : (w).toInt ≠ 1 := fun q => b235x (Int32.toInt_inj.mp q)
          by_cases b244x : w = (2 : Int32)
          · have q245x : w.toInt = 2 := congrArg Int32.toInt b244x
            refine wq_tabc rfl b244x rfl ?_
            refine wq_gos (f := 1) (pc2 := 105) (ls2 := [(3, .int 9), (2, .int 1), (0, .ref 4), (1, .int w)]) (st2 := [.ref 4]) (h2 := h8221x) (dc2 := 0) (ds2 := 0) 1 rfl ?_
            refine wq_getf rfl c0221x rfl rfl ?_
            refine wq_gos (f := 1) (pc2 := 109) (ls2 := [(3, .int 9), (2, .int 1), (0, .ref 4), (1, .int w)]) (st2 := [.ref 4, .ref rd]) (h2 := h8221x) (dc2 := 0) (ds2 := 0) 1 rfl ?_
            refine wq_getf rfl c0221x rfl rfl ?_
            have e246x := (f8221x.2 _ _ (wnc (by omega) wn0) hA)
            refine wq_putf rfl e246x rfl rfl rfl ?_
            intro h247x e248x f249x l250x
            have e248x : zat h247x rd = some (.inr (.inr (.inr (0, [.int lk, .int hd, .int (v222x.2.2.2.2.2.2), .int bl, .int sd, .long rt, .ref (rd + 2), .ref (rd + 4), .ref (rd + 6), .int (nI sp), .ref (rd + 8), .ref (rd + 10), .int (nI so), .ref (rd + 12)])))) := e248x
            refine wq_gos (f := 1) (pc2 := 144) (ls2 := [(3, .int 9), (2, .int 1), (0, .ref 4), (1, .int w)]) (st2 := [.int 1]) (h2 := h247x) (dc2 := 0) (ds2 := 0) 2 rfl ?_
            have e251x := (f249x.2 _ _ (wnc (by omega) wn0) c0221x)
            have hx : (rsG tb ln wr wa nx kd sta va lk hd ht bl sd w) = ((1 : Int32), (v222x.2.1), (v222x.2.2.1), (v222x.2.2.2.1), (v222x.2.2.2.2.1), (v222x.2.2.2.2.2.1), (v222x.2.2.2.2.2.2), lk, hd, (v222x.2.2.2.2.2.2), bl, sd) := by unfold rsG; rw [if_neg (Int.not_lt.mpr b2x), if_pos b161x, if_neg (fun q => q b163x), zlet_eq hv223x, if_pos b224x, if_neg b226x, if_neg b235x, if_pos b244x]
            rw [hx]
            exact wq_ret rfl rfl ⟨h247x, rfl, (wFr_tr (wFr_sub f8221x (by simp)) (wFr_sub f249x (by simp))), by omega, e251x, e248x, (by first | ((try dsimp only); omega) | assumption | ((try dsimp only); intro q9; first | omega | exact absurd rfl q9 | assumption) | ((unfold wScl at hS ⊢; (try dsimp only); omega))), (by first | ((try dsimp only); omega) | assumption | ((try dsimp only); intro q9; first | omega | exact absurd rfl q9 | assumption) | ((unfold wScl at hS ⊢; (try dsimp only); omega)))⟩
          have q252x : (w).toInt ≠ 2 := fun q => b244x (Int32.toInt_inj.mp q)
          by_cases b253x : w = (3 : Int32)
          · have q254x : w.toInt = 3 := congrArg Int32.toInt b253x
            refine wq_tabc rfl b253x rfl ?_
            refine wq_gos (f := 1) (pc2 := 119) (ls2 := [(3, .int 9), (2, .int 1), (0, .ref 4), (1, .int w)]) (st2 := [.ref 4]) (h2 := h8221x) (dc2 := 0) (ds2 := 0) 1 rfl ?_
            refine wq_getf rfl c0221x rfl rfl ?_
            refine wq_gos (f := 1) (pc2 := 123) (ls2 := [(3, .int 9), (2, .int 1), (0, .ref 4), (1, .int w)]) (st2 := [.ref 4, .ref rd]) (h2 := h8221x) (dc2 := 0) (ds2 := 0) 1 rfl ?_
            refine wq_getf rfl c0221x rfl rfl ?_
            have e255x := (f8221x.2 _ _ (wnc (by omega) wn0) hA)
            refine wq_putf rfl e255x rfl rfl rfl ?_
            intro h256x e257x f258x l259x
            have e257x : zat h256x rd = some (.inr (.inr (.inr (0, [.int lk, .int hd, .int ht, .int (v222x.2.2.2.2.2.2), .int sd, .long rt, .ref (rd + 2), .ref (rd + 4), .ref (rd + 6), .int (nI sp), .ref (rd + 8), .ref (rd + 10), .int (nI so), .ref (rd + 12)])))) := e257x
            refine wq_gos (f := 1) (pc2 := 144) (ls2 := [(3, .int 9), (2, .int 1), (0, .ref 4), (1, .int w)]) (st2 := [.int 1]) (h2 := h256x) (dc2 := 0) (ds2 := 0) 2 rfl ?_
            have e260x := (f258x.2 _ _ (wnc (by omega) wn0) c0221x)
            have hx : (rsG tb ln wr wa nx kd sta va lk hd ht bl sd w) = ((1 : Int32), (v222x.2.1), (v222x.2.2.1), (v222x.2.2.2.1), (v222x.2.2.2.2.1), (v222x.2.2.2.2.2.1), (v222x.2.2.2.2.2.2), lk, hd, ht, (v222x.2.2.2.2.2.2), sd) := by unfold rsG; rw [if_neg (Int.not_lt.mpr b2x), if_pos b161x, if_neg (fun q => q b163x), zlet_eq hv223x, if_pos b224x, if_neg b226x, if_neg b235x, if_neg b244x, if_pos b253x]
            rw [hx]
            exact wq_ret rfl rfl ⟨h256x, rfl, (wFr_tr (wFr_sub f8221x (by simp)) (wFr_sub f258x (by simp))), by omega, e260x, e257x, (by first | ((try dsimp only); omega) | assumption | ((try dsimp only); intro q9; first | omega | exact absurd rfl q9 | assumption) | ((unfold wScl at hS ⊢; (try dsimp only); omega))), (by first | ((try dsimp only); omega) | assumption | ((try dsimp only); intro q9; first | omega | exact absurd rfl q9 | assumption) | ((unfold wScl at hS ⊢; (try dsimp only); omega)))⟩
          have q261x : (w).toInt ≠ 3 := fun q => b253x (Int32.toInt_inj.mp q)
          refine wq_tabo rfl (by omega) ?_
          refine wq_gos (f := 1) (pc2 := 133) (ls2 := [(3, .int 9), (2, .int 1), (0, .ref 4), (1, .int w)]) (st2 := [.ref 4]) (h2 := h8221x) (dc2 := 0) (ds2 := 0) 1 rfl ?_
          refine wq_getf rfl c0221x rfl rfl ?_
          refine wq_gos (f := 1) (pc2 := 137) (ls2 := [(3, .int 9), (2, .int 1), (0, .ref 4), (1, .int w)]) (st2 := [.ref 4, .ref rd]) (h2 := h8221x) (dc2 := 0) (ds2 := 0) 1 rfl ?_
          refine wq_getf rfl c0221x rfl rfl ?_
          have e262x := (f8221x.2 _ _ (wnc (by omega) wn0) hA)
          refine wq_putf rfl e262x rfl rfl rfl ?_
          intro h263x e264x f265x l266x
          have e264x : zat h263x rd = some (.inr (.inr (.inr (0, [.int lk, .int hd, .int ht, .int bl, .int (v222x.2.2.2.2.2.2), .long rt, .ref (rd + 2), .ref (rd + 4), .ref (rd + 6), .int (nI sp), .ref (rd + 8), .ref (rd + 10), .int (nI so), .ref (rd + 12)])))) := e264x
          refine wq_gos (f := 1) (pc2 := 144) (ls2 := [(3, .int 9), (2, .int 1), (0, .ref 4), (1, .int w)]) (st2 := [.int 1]) (h2 := h263x) (dc2 := 0) (ds2 := 0) 1 rfl ?_
          have e267x := (f265x.2 _ _ (wnc (by omega) wn0) c0221x)
          have hx : (rsG tb ln wr wa nx kd sta va lk hd ht bl sd w) = ((1 : Int32), (v222x.2.1), (v222x.2.2.1), (v222x.2.2.2.1), (v222x.2.2.2.2.1), (v222x.2.2.2.2.2.1), (v222x.2.2.2.2.2.2), lk, hd, ht, bl, (v222x.2.2.2.2.2.2)) := by unfold rsG; rw [if_neg (Int.not_lt.mpr b2x), if_pos b161x, if_neg (fun q => q b163x), zlet_eq hv223x, if_pos b224x, if_neg b226x, if_neg b235x, if_neg b244x, if_neg b253x]
          rw [hx]
          exact wq_ret rfl rfl ⟨h263x, rfl, (wFr_tr (wFr_sub f8221x (by simp)) (wFr_sub f265x (by simp))), by omega, e267x, e264x, (by first | ((try dsimp only); omega) | assumption | ((try dsimp only); intro q9; first | omega | exact absurd rfl q9 | assumption) | ((unfold wScl at hS ⊢; (try dsimp only); omega))), (by first | ((try dsimp only); omega) | assumption | ((try dsimp only); intro q9; first | omega | exact absurd rfl q9 | assumption) | ((unfold wScl at hS ⊢; (try dsimp only); omega)))⟩
        · have q268x : (v222x.1).toInt = 0 := congrArg Int32.toInt b224x
          refine wq_gos (f := 1) (pc2 := 45) (ls2 := [(3, .int 9), (2, .int 1), (0, .ref 4), (1, .int w)]) (st2 := [.int 0]) (h2 := h8221x) (dc2 := 0) (ds2 := 0) 1 rfl ?_
          have e269x := (f8221x.2 _ _ (wnc (by omega) wn0) hA)
          have hx : (rsG tb ln wr wa nx kd sta va lk hd ht bl sd w) = ((0 : Int32), (v222x.2.1), (v222x.2.2.1), (v222x.2.2.2.1), (v222x.2.2.2.2.1), (v222x.2.2.2.2.2.1), (v222x.2.2.2.2.2.2), lk, hd, ht, bl, sd) := by unfold rsG; rw [if_neg (Int.not_lt.mpr b2x), if_pos b161x, if_neg (fun q => q b163x), zlet_eq hv223x, if_neg (fun q => q b224x)]
          rw [hx]
          exact wq_ret rfl rfl ⟨h8221x, rfl, (wFr_sub f8221x (by simp)), by omega, c0221x, e269x, (by first | ((try dsimp only); omega) | assumption | ((try dsimp only); intro q9; first | omega | exact absurd rfl q9 | assumption) | ((unfold wScl at hS ⊢; (try dsimp only); omega))), (by first | ((try dsimp only); omega) | assumption | ((try dsimp only); intro q9; first | omega | exact absurd rfl q9 | assumption) | ((unfold wScl at hS ⊢; (try dsimp only); omega)))⟩
    · refine wq_gos (f := 1) (pc2 := 38) (ls2 := [(3, .int 99), (2, .int 1), (0, .ref 4), (1, .int w)]) (st2 := [.int 0, .int 99, .int 1, .ref 4]) (h2 := h) (dc2 := 0) (ds2 := 0) 7 rfl ?_
      have q270x : (1 : Int32).toInt = 1 := rfl
      have q271x : (99 : Int32).toInt = 99 := rfl
      have q272x : (0 : Int32).toInt = 0 := rfl
      refine wq_inlv (y2 := 55) (as := [.int 1, .int 99, .int 0]) rfl rfl rfl hR rfl (wq_mono (c_rn hR hT (by first | omega | assumption | decide | solve_by_elim) (by first | omega | assumption | decide | solve_by_elim)) ?_)
      rintro _ ⟨h8273x, rfl, f8273x, l8273x, c0273x, p0273x, p1273x⟩
      show wq 48 41 [(3, .int 99), (2, .int 1), (0, .ref 4), (1, .int w)] [.int ((rnG tb ln wr wa nx kd sta va (1 : Int32) (99 : Int32) (0 : Int32)).1)] h8273x 0 0 _
      obtain ⟨v274x, hv275x⟩ : ∃ x, x = (rnG tb ln wr wa nx kd sta va (1 : Int32) (99 : Int32) (0 : Int32)) := ⟨_, rfl⟩
      try rw [← hv275x] at c0273x
      try rw [← hv275x] at p0273x
      try rw [← hv275x] at p1273x
      try rw [← hv275x]
      refine wq_ne0 rfl rfl (fun b276x => ?_) (fun b276x => ?_)
      · have q277x : (v274x.1).toInt ≠ 0 := fun q => b276x (Int32.toInt_inj.mp q)
        refine wq_gos (f := 1) (pc2 := 47) (ls2 := [(3, .int 99), (2, .int 1), (0, .ref 4), (1, .int w)]) (st2 := [.int w]) (h2 := h8273x) (dc2 := 0) (ds2 := 0) 1 rfl ?_
        by_cases b278x : w = (0 : Int32)
        · have q279x : w.toInt = 0 := congrArg Int32.toInt b278x
          refine wq_tabc rfl b278x rfl ?_
          refine wq_gos (f := 1) (pc2 := 77) (ls2 := [(3, .int 99), (2, .int 1), (0, .ref 4), (1, .int w)]) (st2 := [.ref 4]) (h2 := h8273x) (dc2 := 0) (ds2 := 0) 1 rfl ?_
          refine wq_getf rfl c0273x rfl rfl ?_
          refine wq_gos (f := 1) (pc2 := 81) (ls2 := [(3, .int 99), (2, .int 1), (0, .ref 4), (1, .int w)]) (st2 := [.ref 4, .ref rd]) (h2 := h8273x) (dc2 := 0) (ds2 := 0) 1 rfl ?_
          refine wq_getf rfl c0273x rfl rfl ?_
          have e280x := (f8273x.2 _ _ (wnc (by omega) wn0) hA)
          refine wq_putf rfl e280x rfl rfl rfl ?_
          intro h281x e282x f283x l284x
          have e282x : zat h281x rd = some (.inr (.inr (.inr (0, [.int (v274x.2.2.2.2.2.2), .int hd, .int ht, .int bl, .int sd, .long rt, .ref (rd + 2), .ref (rd + 4), .ref (rd + 6), .int (nI sp), .ref (rd + 8), .ref (rd + 10), .int (nI so), .ref (rd + 12)])))) := e282x
          refine wq_gos (f := 1) (pc2 := 144) (ls2 := [(3, .int 99), (2, .int 1), (0, .ref 4), (1, .int w)]) (st2 := [.int 1]) (h2 := h281x) (dc2 := 0) (ds2 := 0) 2 rfl ?_
          have e285x := (f283x.2 _ _ (wnc (by omega) wn0) c0273x)
          have hx : (rsG tb ln wr wa nx kd sta va lk hd ht bl sd w) = ((1 : Int32), (v274x.2.1), (v274x.2.2.1), (v274x.2.2.2.1), (v274x.2.2.2.2.1), (v274x.2.2.2.2.2.1), (v274x.2.2.2.2.2.2), (v274x.2.2.2.2.2.2), hd, ht, bl, sd) := by unfold rsG; rw [if_neg (Int.not_lt.mpr b2x), if_neg (Int.not_lt.mpr b161x), zlet_eq hv275x, if_pos b276x, if_pos b278x]
          rw [hx]
          exact wq_ret rfl rfl ⟨h281x, rfl, (wFr_tr (wFr_sub f8273x (by simp)) (wFr_sub f283x (by simp))), by omega, e285x, e282x, (by first | ((try dsimp only); omega) | assumption | ((try dsimp only); intro q9; first | omega | exact absurd rfl q9 | assumption) | ((unfold wScl at hS ⊢; (try dsimp only); omega))), (by first | ((try dsimp only); omega) | assumption | ((try dsimp only); intro q9; first | omega | exact absurd rfl q9 | assumption) | ((unfold wScl at hS ⊢; (try dsimp only); omega)))⟩
        have q286x : (w).toInt ≠ 0 := fun q => b278x (Int32.toInt_inj.mp q)
        by_cases b287x : w = (1 : Int32)
        · have q288x : w.toInt = 1 := congrArg Int32.toInt b287x
          refine wq_tabc rfl b287x rfl ?_
          refine wq_gos (f := 1) (pc2 := 91) (ls2 := [(3, .int 99), (2, .int 1), (0, .ref 4), (1, .int w)]) (st2 := [.ref 4]) (h2 := h8273x) (dc2 := 0) (ds2 := 0) 1 rfl ?_
          refine wq_getf rfl c0273x rfl rfl ?_
          refine wq_gos (f := 1) (pc2 := 95) (ls2 := [(3, .int 99), (2, .int 1), (0, .ref 4), (1, .int w)]) (st2 := [.ref 4, .ref rd]) (h2 := h8273x) (dc2 := 0) (ds2 := 0) 1 rfl ?_
          refine wq_getf rfl c0273x rfl rfl ?_
          have e289x := (f8273x.2 _ _ (wnc (by omega) wn0) hA)
          refine wq_putf rfl e289x rfl rfl rfl ?_
          intro h290x e291x f292x l293x
          have e291x : zat h290x rd = some (.inr (.inr (.inr (0, [.int lk, .int (v274x.2.2.2.2.2.2), .int ht, .int bl, .int sd, .long rt, .ref (rd + 2), .ref (rd + 4), .ref (rd + 6), .int (nI sp), .ref (rd + 8), .ref (rd + 10), .int (nI so), .ref (rd + 12)])))) := e291x
          refine wq_gos (f := 1) (pc2 := 144) (ls2 := [(3, .int 99), (2, .int 1), (0, .ref 4), (1, .int w)]) (st2 := [.int 1]) (h2 := h290x) (dc2 := 0) (ds2 := 0) 2 rfl ?_
          have e294x := (f292x.2 _ _ (wnc (by omega) wn0) c0273x)
          have hx : (rsG tb ln wr wa nx kd sta va lk hd ht bl sd w) = ((1 : Int32), (v274x.2.1), (v274x.2.2.1), (v274x.2.2.2.1), (v274x.2.2.2.2.1), (v274x.2.2.2.2.2.1), (v274x.2.2.2.2.2.2), lk, (v274x.2.2.2.2.2.2), ht, bl, sd) := by unfold rsG; rw [if_neg (Int.not_lt.mpr b2x), if_neg (Int.not_lt.mpr b161x), zlet_eq hv275x, if_pos b276x, if_neg b278x, if_pos b287x]
          rw [hx]
          exact wq_ret rfl rfl ⟨h290x, rfl, (wFr_tr (wFr_sub f8273x (by simp)) (wFr_sub f292x (by simp))), by omega, e294x, e291x, (by first | ((try dsimp only); omega) | assumption | ((try dsimp only); intro q9; first | omega | exact absurd rfl q9 | assumption) | ((unfold wScl at hS ⊢; (try dsimp only); omega))), (by first | ((try dsimp only); omega) | assumption | ((try dsimp only); intro q9; first | omega | exact absurd rfl q9 | assumption) | ((unfold wScl at hS ⊢; (try dsimp only); omega)))⟩
        have q295x : (w).toInt ≠ 1 := fun q => b287x (Int32.toInt_inj.mp q)
        by_cases b296x : w = (2 : Int32)
        · have q297x : w.toInt = 2 := congrArg Int32.toInt b296x
          refine wq_tabc rfl b296x rfl ?_
          refine wq_gos (f := 1) (pc2 := 105) (ls2 := [(3, .int 99), (2, .int 1), (0, .ref 4), (1, .int w)]) (st2 := [.ref 4]) (h2 := h8273x) (dc2 := 0) (ds2 := 0) 1 rfl ?_
          refine wq_getf rfl c0273x rfl rfl ?_
          refine wq_gos (f := 1) (pc2 := 109) (ls2 := [(3, .int 99), (2, .int 1), (0, .ref 4), (1, .int w)]) (st2 := [.ref 4, .ref rd]) (h2 := h8273x) (dc2 := 0) (ds2 := 0) 1 rfl ?_
          refine wq_getf rfl c0273x rfl rfl ?_
          have e298x := (f8273x.2 _ _ (wnc (by omega) wn0) hA)
          refine wq_putf rfl e298x rfl rfl rfl ?_
          intro h299x e300x f301x l302x
          have e300x : zat h299x rd = some (.inr (.inr (.inr (0, [.int lk, .int hd, .int (v274x.2.2.2.2.2.2), .int bl, .int sd, .long rt, .ref (rd + 2), .ref (rd + 4), .ref (rd + 6), .int (nI sp), .ref (rd + 8), .ref (rd + 10), .int (nI so), .ref (rd + 12)])))) := e300x
          refine wq_gos (f := 1) (pc2 := 144) (ls2 := [(3, .int 99), (2, .int 1), (0, .ref 4), (1, .int w)]) (st2 := [.int 1]) (h2 := h299x) (dc2 := 0) (ds2 := 0) 2 rfl ?_
          have e303x := (f301x.2 _ _ (wnc (by omega) wn0) c0273x)
          have hx : (rsG tb ln wr wa nx kd sta va lk hd ht bl sd w) = ((1 : Int32), (v274x.2.1), (v274x.2.2.1), (v274x.2.2.2.1), (v274x.2.2.2.2.1), (v274x.2.2.2.2.2.1), (v274x.2.2.2.2.2.2), lk, hd, (v274x.2.2.2.2.2.2), bl, sd) := by unfold rsG; rw [if_neg (Int.not_lt.mpr b2x), if_neg (Int.not_lt.mpr b161x), zlet_eq hv275x, if_pos b276x, if_neg b278x, if_neg b287x, if_pos b296x]
          rw [hx]
          exact wq_ret rfl rfl ⟨h299x, rfl, (wFr_tr (wFr_sub f8273x (by simp)) (wFr_sub f301x (by simp))), by omega, e303x, e300x, (by first | ((try dsimp only); omega) | assumption | ((try dsimp only); intro q9; first | omega | exact absurd rfl q9 | assumption) | ((unfold wScl at hS ⊢; (try dsimp only); omega))), (by first | ((try dsimp only); omega) | assumption | ((try dsimp only); intro q9; first | omega | exact absurd rfl q9 | assumption) | ((unfold wScl at hS ⊢; (try dsimp only); omega)))⟩
        have q304x : (w).toInt ≠ 2 := fun q => b296x (Int32.toInt_inj.mp q)
        by_cases b305x : w = (3 : Int32)
        · have q306x : w.toInt = 3 := congrArg Int32.toInt b305x
          refine wq_tabc rfl b305x rfl ?_
          refine wq_gos (f := 1) (pc2 := 119) (ls2 := [(3, .int 99), (2, .int 1), (0, .ref 4), (1, .int w)]) (st2 := [.ref 4]) (h2 := h8273x) (dc2 := 0) (ds2 := 0) 1 rfl ?_
          refine wq_getf rfl c0273x rfl rfl ?_
          refine wq_gos (f := 1) (pc2 := 123) (ls2 := [(3, .int 99), (2, .int 1), (0, .ref 4), (1, .int w)]) (st2 := [.ref 4, .ref rd]) (h2 := h8273x) (dc2 := 0) (ds2 := 0) 1 rfl ?_
          refine wq_getf rfl c0273x rfl rfl ?_
          have e307x := (f8273x.2 _ _ (wnc (by omega) wn0) hA)
          refine wq_putf rfl e307x rfl rfl rfl ?_
          intro h308x e309x f310x l311x
          have e309x : zat h308x rd = some (.inr (.inr (.inr (0, [.int lk, .int hd, .int ht, .int (v274x.2.2.2.2.2.2), .int sd, .long rt, .ref (rd + 2), .ref (rd + 4), .ref (rd + 6), .int (nI sp), .ref (rd + 8), .ref (rd + 10), .int (nI so), .ref (rd + 12)])))) := e309x
          refine wq_gos (f := 1) (pc2 := 144) (ls2 := [(3, .int 99), (2, .int 1), (0, .ref 4), (1, .int w)]) (st2 := [.int 1]) (h2 := h308x) (dc2 := 0) (ds2 := 0) 2 rfl ?_
          have e312x := (f310x.2 _ _ (wnc (by omega) wn0) c0273x)
          have hx : (rsG tb ln wr wa nx kd sta va lk hd ht bl sd w) = ((1 : Int32), (v274x.2.1), (v274x.2.2.1), (v274x.2.2.2.1), (v274x.2.2.2.2.1), (v274x.2.2.2.2.2.1), (v274x.2.2.2.2.2.2), lk, hd, ht, (v274x.2.2.2.2.2.2), sd) := by unfold rsG; rw [if_neg (Int.not_lt.mpr b2x), if_neg (Int.not_lt.mpr b161x), zlet_eq hv275x, if_pos b276x, if_neg b278x, if_neg b287x, if_neg b296x, if_pos b305x]
          rw [hx]
          exact wq_ret rfl rfl ⟨h308x, rfl, (wFr_tr (wFr_sub f8273x (by simp)) (wFr_sub f310x (by simp))), by omega, e312x, e309x, (by first | ((try dsimp only); omega) | assumption | ((try dsimp only); intro q9; first | omega | exact absurd rfl q9 | assumption) | ((unfold wScl at hS ⊢; (try dsimp only); omega))), (by first | ((try dsimp only); omega) | assumption | ((try dsimp only); intro q9; first | omega | exact absurd rfl q9 | assumption) | ((unfold wScl at hS ⊢; (try dsimp only); omega)))⟩
        have q313x : (w).toInt ≠ 3 := fun q => b305x (Int32.toInt_inj.mp q)
        refine wq_tabo rfl (by omega) ?_
        refine wq_gos (f := 1) (pc2 := 133) (ls2 := [(3, .int 99), (2, .int 1), (0, .ref 4), (1, .int w)]) (st2 := [.ref 4]) (h2 := h8273x) (dc2 := 0) (ds2 := 0) 1 rfl ?_
        refine wq_getf rfl c0273x rfl rfl ?_
        refine wq_gos (f := 1) (pc2 := 137) (ls2 := [(3, .int 99), (2, .int 1), (0, .ref 4), (1, .int w)]) (st2 := [.ref 4, .ref rd]) (h2 := h8273x) (dc2 := 0) (ds2 := 0) 1 rfl ?_
        refine wq_getf rfl c0273x rfl rfl ?_
        have e314x := (f8273x.2 _ _ (wnc (by omega) wn0) hA)
        refine wq_putf rfl e314x rfl rfl rfl ?_
        intro h315x e316x f317x l318x
        have e316x : zat h315x rd = some (.inr (.inr (.inr (0, [.int lk, .int hd, .int ht, .int bl, .int (v274x.2.2.2.2.2.2), .long rt, .ref (rd + 2), .ref (rd + 4), .ref (rd + 6), .int (nI sp), .ref (rd + 8), .ref (rd + 10), .int (nI so), .ref (rd + 12)])))) := e316x
        refine wq_gos (f := 1) (pc2 := 144) (ls2 := [(3, .int 99), (2, .int 1), (0, .ref 4), (1, .int w)]) (st2 := [.int 1]) (h2 := h315x) (dc2 := 0) (ds2 := 0) 1 rfl ?_
        have e319x := (f317x.2 _ _ (wnc (by omega) wn0) c0273x)
        have hx : (rsG tb ln wr wa nx kd sta va lk hd ht bl sd w) = ((1 : Int32), (v274x.2.1), (v274x.2.2.1), (v274x.2.2.2.1), (v274x.2.2.2.2.1), (v274x.2.2.2.2.2.1), (v274x.2.2.2.2.2.2), lk, hd, ht, bl, (v274x.2.2.2.2.2.2)) := by unfold rsG; rw [if_neg (Int.not_lt.mpr b2x), if_neg (Int.not_lt.mpr b161x), zlet_eq hv275x, if_pos b276x, if_neg b278x, if_neg b287x, if_neg b296x, if_neg b305x]
        rw [hx]
        exact wq_ret rfl rfl ⟨h315x, rfl, (wFr_tr (wFr_sub f8273x (by simp)) (wFr_sub f317x (by simp))), by omega, e319x, e316x, (by first | ((try dsimp only); omega) | assumption | ((try dsimp only); intro q9; first | omega | exact absurd rfl q9 | assumption) | ((unfold wScl at hS ⊢; (try dsimp only); omega))), (by first | ((try dsimp only); omega) | assumption | ((try dsimp only); intro q9; first | omega | exact absurd rfl q9 | assumption) | ((unfold wScl at hS ⊢; (try dsimp only); omega)))⟩
      · have q320x : (v274x.1).toInt = 0 := congrArg Int32.toInt b276x
        refine wq_gos (f := 1) (pc2 := 45) (ls2 := [(3, .int 99), (2, .int 1), (0, .ref 4), (1, .int w)]) (st2 := [.int 0]) (h2 := h8273x) (dc2 := 0) (ds2 := 0) 1 rfl ?_
        have e321x := (f8273x.2 _ _ (wnc (by omega) wn0) hA)
        have hx : (rsG tb ln wr wa nx kd sta va lk hd ht bl sd w) = ((0 : Int32), (v274x.2.1), (v274x.2.2.1), (v274x.2.2.2.1), (v274x.2.2.2.2.1), (v274x.2.2.2.2.2.1), (v274x.2.2.2.2.2.2), lk, hd, ht, bl, sd) := by unfold rsG; rw [if_neg (Int.not_lt.mpr b2x), if_neg (Int.not_lt.mpr b161x), zlet_eq hv275x, if_neg (fun q => q b276x)]
        rw [hx]
        exact wq_ret rfl rfl ⟨h8273x, rfl, (wFr_sub f8273x (by simp)), by omega, c0273x, e321x, (by first | ((try dsimp only); omega) | assumption | ((try dsimp only); intro q9; first | omega | exact absurd rfl q9 | assumption) | ((unfold wScl at hS ⊢; (try dsimp only); omega))), (by first | ((try dsimp only); omega) | assumption | ((try dsimp only); intro q9; first | omega | exact absurd rfl q9 | assumption) | ((unfold wScl at hS ⊢; (try dsimp only); omega)))⟩
noncomputable def wSpd (sv : List Int32) : Prop := ∀ j, j < 6 → 1 ≤ (sv.getD j 0).toInt ∧ (sv.getD j 0).toInt ≤ 32
noncomputable def wWay (wy : List Int32) (sp so : Nat) : Prop := so ≤ 10 ∧ ∀ i, i < so → ∃ w, wy.getD i 0 = nI w ∧ w < sp
theorem zset_self (l : List Int32) (i : Nat) (x : Int32) : (zset 0 l i x).getD i 0 = x := by rw [zset_get, if_pos rfl]
theorem wLim_set {ll lg : List Int32} {i : Nat} {a b : Int32} (h : wLm ll lg) (h1 : (zLow.getD i 0).toInt ≤ a.toInt) (h2 : a.toInt ≤ b.toInt) (h3 : b.toInt ≤ (zHigh.getD i 0).toInt) : wLm (zset 0 ll i a) (zset 0 lg i b) := by
  intro j hj
  rw [zset_get, zset_get]
  by_cases q : j = i
  · rw [if_pos q, if_pos q, q]; exact ⟨h1, h2, h3⟩
  · rw [if_neg q, if_neg q]; exact h j hj
theorem wSpd_set {sv : List Int32} {i : Nat} {a : Int32} (h : wSpd sv) (h1 : 1 ≤ a.toInt) (h2 : a.toInt ≤ 32) : wSpd (zset 0 sv i a) := by
  intro j hj
  rw [zset_get]
  by_cases q : j = i
  · rw [if_pos q]; exact ⟨h1, h2⟩
  · rw [if_neg q]; exact h j hj
theorem wWay_sp {wy : List Int32} {sp so : Nat} (h : wWay wy sp so) : wWay wy (sp + 1) so := by
  refine ⟨h.1, fun i hi => ?_⟩
  obtain ⟨w, a, b⟩ := h.2 i hi
  exact ⟨w, a, by omega⟩
theorem wWay_set {wy : List Int32} {sp so w : Nat} (h : wWay wy sp so) (hs : so < 10) (hw : w < sp) : wWay (zset 0 wy so (nI w)) sp (so + 1) := by
  refine ⟨by omega, fun i hi => ?_⟩
  rw [zset_get]
  by_cases q : i = so
  · rw [if_pos q]; exact ⟨w, rfl, hw⟩
  · rw [if_neg q]; exact h.2 i (by omega)
theorem snF_in {ns : Nat} {nm : List Int32} {x : Int32} (hns : ns ≤ 8) : ∀ m k, k ≤ ns → ns < k + m → snF ns nm x m k = -1 ∨ ∃ w, snF ns nm x m k = nI w ∧ w < ns := by
  intro m
  induction m with
  | zero => intro k h1 h2; omega
  | succ m ih =>
    intro k h1 h2
    show (if (nI ns).toInt ≤ (nI k).toInt then (-1 : Int32) else _) = -1 ∨ ∃ w, (if (nI ns).toInt ≤ (nI k).toInt then (-1 : Int32) else _) = nI w ∧ w < ns
    rw [nI_toInt (by omega), nI_toInt (by omega)]
    by_cases q : (ns : Int) ≤ (k : Int)
    · rw [if_pos q]; exact Or.inl rfl
    · rw [if_neg q]
      by_cases q2 : nm.getD k 0 ≠ x
      · rw [if_pos q2]; exact ih (k + 1) (by omega) (by omega)
      · rw [if_neg q2]; exact Or.inr ⟨k, rfl, by omega⟩
theorem snF_w {ns : Nat} {nm : List Int32} {x v : Int32} (hns : ns ≤ 8) (hv : v = snF ns nm x (ns - 0 + 1) 0) (h : v ≠ -1) : ∃ w, v = nI w ∧ w < ns := by
  rcases snF_in (nm := nm) (x := x) hns (ns - 0 + 1) 0 (by omega) (by omega) with a | a
  · exact absurd (hv.trans a) h
  · rw [hv]; exact a
noncomputable def rlG (tb : List Int32) (ln : Nat) (wr wa : Int32) (nx : Nat) (kd sta va : Int32) (tld : Int32) (ll lg : List Int32) : Int32 × Int32 × Int32 × Nat × Int32 × Int32 × Int32 × Int32 × List Int32 × List Int32 := (zlet (rnG tb ln wr wa nx kd sta va (0 : Int32) (5 : Int32) (0 : Int32)) (fun v4x => (if (v4x.1) = (0 : Int32) then ((0 : Int32), (v4x.2.1), (v4x.2.2.1), (v4x.2.2.2.1), (v4x.2.2.2.2.1), (v4x.2.2.2.2.2.1), (v4x.2.2.2.2.2.2), tld, ll, lg) else (zlet (toG (v4x.2.1) (v4x.2.2.1) (v4x.2.2.2.2.2.1) tld ((10 : Int32) + (v4x.2.2.2.2.2.2))) (fun v14x => (if (v14x.1) ≠ (0 : Int32) then (zlet (rnG tb ln (v14x.2.1) (v14x.2.2.1) (v4x.2.2.2.1) (v4x.2.2.2.2.1) (v4x.2.2.2.2.2.1) (v4x.2.2.2.2.2.2) (zLow.getD ((v4x.2.2.2.2.2.2)).toNatClampNeg 0) (zHigh.getD ((v4x.2.2.2.2.2.2)).toNatClampNeg 0) (1 : Int32)) (fun v21x => (if (v21x.1) ≠ (0 : Int32) then (zlet (rnG tb ln (v21x.2.1) (v21x.2.2.1) (v21x.2.2.2.1) (v21x.2.2.2.2.1) (v21x.2.2.2.2.2.1) (v21x.2.2.2.2.2.2) ((zset 0 ll ((v4x.2.2.2.2.2.2)).toNatClampNeg (v21x.2.2.2.2.2.2)).getD ((v4x.2.2.2.2.2.2)).toNatClampNeg 0) (zHigh.getD ((v4x.2.2.2.2.2.2)).toNatClampNeg 0) (1 : Int32)) (fun v35x => (if (v35x.1) ≠ (0 : Int32) then ((1 : Int32), (v35x.2.1), (v35x.2.2.1), (v35x.2.2.2.1), (v35x.2.2.2.2.1), (v35x.2.2.2.2.2.1), (v35x.2.2.2.2.2.2), (v14x.2.2.2), (zset 0 ll ((v4x.2.2.2.2.2.2)).toNatClampNeg (v21x.2.2.2.2.2.2)), (zset 0 lg ((v4x.2.2.2.2.2.2)).toNatClampNeg (v35x.2.2.2.2.2.2))) else ((0 : Int32), (v35x.2.1), (v35x.2.2.1), (v35x.2.2.2.1), (v35x.2.2.2.2.1), (v35x.2.2.2.2.2.1), (v35x.2.2.2.2.2.2), (v14x.2.2.2), (zset 0 ll ((v4x.2.2.2.2.2.2)).toNatClampNeg (v21x.2.2.2.2.2.2)), lg)))) else ((0 : Int32), (v21x.2.1), (v21x.2.2.1), (v21x.2.2.2.1), (v21x.2.2.2.2.1), (v21x.2.2.2.2.2.1), (v21x.2.2.2.2.2.2), (v14x.2.2.2), ll, lg)))) else ((0 : Int32), (v14x.2.1), (v14x.2.2.1), (v4x.2.2.2.1), (v4x.2.2.2.2.1), (v4x.2.2.2.2.2.1), (v4x.2.2.2.2.2.2), (v14x.2.2.2), ll, lg)))))))
set_option maxRecDepth 100000 in
set_option maxHeartbeats 4000000 in
theorem c_rl {h : zH} {ln nx rd : Nat} {wr wa kd sta va tld : Int32} {tb : List Int32} {lk hd ht bl sd : Int32} {rt : Int64} {sp so : Nat} {ll lg : List Int32} (hR : zat h 4 = some (.inr (.inr (.inr (4, [.int wr, .int wa, .ref 2, .int (nI ln), .int (nI nx), .int kd, .int sta, .int va, .int tld, .ref rd]))))) (hT : zat h 2 = some (.inl (1, 700, tb))) (hA : zat h rd = some (.inr (.inr (.inr (0, [.int lk, .int hd, .int ht, .int bl, .int sd, .long rt, .ref (rd + 2), .ref (rd + 4), .ref (rd + 6), .int (nI sp), .ref (rd + 8), .ref (rd + 10), .int (nI so), .ref (rd + 12)]))))) (hL : zat h (rd + 2) = some (.inl (0, 6, ll))) (hG : zat h (rd + 4) = some (.inl (0, 6, lg))) (hln : ln ≤ 700) (hn : nx ≤ ln) (hrd : rd = 6 ∨ rd = 20) (hS : wLm ll lg) : wq 49 0 [(0, .ref 4)] [] h 0 0 (fun rr9 => ∃ (h2 : zH), rr9 = (some (.int ((rlG tb ln wr wa nx kd sta va tld ll lg).1)), h2, 0, 0) ∧ wFr [4, (rd + 2), (rd + 4)] h h2 ∧ h2.length = h.length ∧ zat h2 4 = some (.inr (.inr (.inr (4, [.int ((rlG tb ln wr wa nx kd sta va tld ll lg).2.1), .int ((rlG tb ln wr wa nx kd sta va tld ll lg).2.2.1), .ref 2, .int (nI ln), .int (nI ((rlG tb ln wr wa nx kd sta va tld ll lg).2.2.2.1)), .int ((rlG tb ln wr wa nx kd sta va tld ll lg).2.2.2.2.1), .int ((rlG tb ln wr wa nx kd sta va tld ll lg).2.2.2.2.2.1), .int ((rlG tb ln wr wa nx kd sta va tld ll lg).2.2.2.2.2.2.1), .int ((rlG tb ln wr wa nx kd sta va tld ll lg).2.2.2.2.2.2.2.1), .ref rd])))) ∧ zat h2 (rd + 2) = some (.inl (0, 6, ((rlG tb ln wr wa nx kd sta va tld ll lg).2.2.2.2.2.2.2.2.1))) ∧ zat h2 (rd + 4) = some (.inl (0, 6, ((rlG tb ln wr wa nx kd sta va tld ll lg).2.2.2.2.2.2.2.2.2))) ∧ ((((rlG tb ln wr wa nx kd sta va tld ll lg).2.2.2.1) ≤ ln)) ∧ (((((rlG tb ln wr wa nx kd sta va tld ll lg).1)).toInt ≠ 0 → wLm ((rlG tb ln wr wa nx kd sta va tld ll lg).2.2.2.2.2.2.2.2.1) ((rlG tb ln wr wa nx kd sta va tld ll lg).2.2.2.2.2.2.2.2.2)))) := by
  have z0 : (0 : Int32).toInt = 0 := rfl
  have z1 : (1 : Int32).toInt = 1 := rfl
  have z5 : (5 : Int32).toInt = 5 := rfl
  refine wq_gos (f := 1) (pc2 := 4) (ls2 := [(0, .ref 4)]) (st2 := [.int 0, .int 5, .int 0, .ref 4]) (h2 := h) (dc2 := 0) (ds2 := 0) 4 rfl ?_
  have q1x : (0 : Int32).toInt = 0 := rfl
  have q2x : (5 : Int32).toInt = 5 := rfl
  refine wq_inlv (y2 := 55) (as := [.int 0, .int 5, .int 0]) rfl rfl rfl hR rfl (wq_mono (c_rn hR hT (by first | omega | assumption | decide | solve_by_elim) (by first | omega | assumption | decide | solve_by_elim)) ?_)
  rintro _ ⟨h83x, rfl, f83x, l83x, c03x, p03x, p13x⟩
  show wq 49 7 [(0, .ref 4)] [.int ((rnG tb ln wr wa nx kd sta va (0 : Int32) (5 : Int32) (0 : Int32)).1)] h83x 0 0 _
  obtain ⟨v4x, hv5x⟩ : ∃ x, x = (rnG tb ln wr wa nx kd sta va (0 : Int32) (5 : Int32) (0 : Int32)) := ⟨_, rfl⟩
  try rw [← hv5x] at c03x
  try rw [← hv5x] at p03x
  try rw [← hv5x] at p13x
  try rw [← hv5x]
  refine wq_eq0 rfl rfl (fun b6x => ?_) (fun b6x => ?_)
  · have q7x : (v4x.1).toInt = 0 := congrArg Int32.toInt b6x
    refine wq_gos (f := 1) (pc2 := 25) (ls2 := [(0, .ref 4)]) (st2 := [.int 0]) (h2 := h83x) (dc2 := 0) (ds2 := 0) 1 rfl ?_
    have e8x := (f83x.2 _ _ (wnc (by omega) wn0) hL)
    have e9x := (f83x.2 _ _ (wnc (by omega) wn0) hG)
    have hx : (rlG tb ln wr wa nx kd sta va tld ll lg) = ((0 : Int32), (v4x.2.1), (v4x.2.2.1), (v4x.2.2.2.1), (v4x.2.2.2.2.1), (v4x.2.2.2.2.2.1), (v4x.2.2.2.2.2.2), tld, ll, lg) := by unfold rlG; rw [zlet_eq hv5x, if_pos b6x]
    rw [hx]
    exact wq_ret rfl rfl ⟨h83x, rfl, (wFr_sub f83x (by simp)), by omega, c03x, e8x, e9x, (by first | ((try dsimp only); omega) | assumption | ((try dsimp only); intro q9; first | omega | exact absurd rfl q9 | assumption) | ((intro q9; simp only [zset_self] at *; exact wLim_set hS (by omega) (by omega) (by omega)))), (by first | ((try dsimp only); omega) | assumption | ((try dsimp only); intro q9; first | omega | exact absurd rfl q9 | assumption) | ((intro q9; simp only [zset_self] at *; exact wLim_set hS (by omega) (by omega) (by omega))))⟩
  · have q10x : (v4x.1).toInt ≠ 0 := fun q => b6x (Int32.toInt_inj.mp q)
    refine wq_gos (f := 1) (pc2 := 14) (ls2 := [(0, .ref 4)]) (st2 := [.ref 4, .int 10, .ref 4]) (h2 := h83x) (dc2 := 0) (ds2 := 0) 3 rfl ?_
    refine wq_getf rfl c03x rfl rfl ?_
    refine wq_gos (f := 1) (pc2 := 18) (ls2 := [(0, .ref 4)]) (st2 := [.int ((10 : Int32) + (v4x.2.2.2.2.2.2)), .ref 4]) (h2 := h83x) (dc2 := 0) (ds2 := 0) 1 rfl ?_
    have q11x : (10 : Int32).toInt = 10 := rfl
    try have q12x : (((10 : Int32) + (v4x.2.2.2.2.2.2))).toInt = (10 : Int32).toInt + (v4x.2.2.2.2.2.2).toInt := e_add (by omega) (by omega)
    refine wq_inlv (y2 := 47) (as := [.int ((10 : Int32) + (v4x.2.2.2.2.2.2))]) rfl rfl rfl c03x rfl (wq_mono (c_to c03x) ?_)
    rintro _ ⟨h813x, rfl, f813x, l813x, c013x⟩
    show wq 49 21 [(0, .ref 4)] [.int ((toG (v4x.2.1) (v4x.2.2.1) (v4x.2.2.2.2.2.1) tld ((10 : Int32) + (v4x.2.2.2.2.2.2))).1)] h813x 0 0 _
    obtain ⟨v14x, hv15x⟩ : ∃ x, x = (toG (v4x.2.1) (v4x.2.2.1) (v4x.2.2.2.2.2.1) tld ((10 : Int32) + (v4x.2.2.2.2.2.2))) := ⟨_, rfl⟩
    try rw [← hv15x] at c013x
    try rw [← hv15x]
    refine wq_ne0 rfl rfl (fun b16x => ?_) (fun b16x => ?_)
    · have q17x : (v14x.1).toInt ≠ 0 := fun q => b16x (Int32.toInt_inj.mp q)
      refine wq_gos (f := 1) (pc2 := 27) (ls2 := [(0, .ref 4)]) (st2 := [.ref 4]) (h2 := h813x) (dc2 := 0) (ds2 := 0) 1 rfl ?_
      refine wq_getf rfl c013x rfl rfl ?_
      refine wq_gos (f := 1) (pc2 := 36) (ls2 := [(1, .int (v4x.2.2.2.2.2.2)), (0, .ref 4)]) (st2 := [.int (v4x.2.2.2.2.2.2), .ref 1, .ref 4]) (h2 := h813x) (dc2 := 0) (ds2 := 0) 4 rfl ?_
      refine wq_ialdc (n := 6) rfl ⟨rfl, rfl⟩ (by first | omega | exact zin_t (by omega) (by omega)) rfl ?_
      refine wq_gos (f := 1) (pc2 := 41) (ls2 := [(1, .int (v4x.2.2.2.2.2.2)), (0, .ref 4)]) (st2 := [.int (v4x.2.2.2.2.2.2), .ref 3, .int (zLow.getD ((v4x.2.2.2.2.2.2)).toNatClampNeg 0), .ref 4]) (h2 := h813x) (dc2 := 0) (ds2 := 0) 2 rfl ?_
      refine wq_ialdc (n := 6) rfl ⟨rfl, rfl⟩ (by first | omega | exact zin_t (by omega) (by omega)) rfl ?_
      refine wq_gos (f := 1) (pc2 := 43) (ls2 := [(1, .int (v4x.2.2.2.2.2.2)), (0, .ref 4)]) (st2 := [.int 1, .int (zHigh.getD ((v4x.2.2.2.2.2.2)).toNatClampNeg 0), .int (zLow.getD ((v4x.2.2.2.2.2.2)).toNatClampNeg 0), .ref 4]) (h2 := h813x) (dc2 := 0) (ds2 := 0) 1 rfl ?_
      have e18x := (f813x.2 _ _ (wnc (by decide) wn0) (f83x.2 _ _ (wnc (by decide) wn0) hT))
      have q19x : (1 : Int32).toInt = 1 := rfl
      refine wq_inlv (y2 := 55) (as := [.int (zLow.getD ((v4x.2.2.2.2.2.2)).toNatClampNeg 0), .int (zHigh.getD ((v4x.2.2.2.2.2.2)).toNatClampNeg 0), .int 1]) rfl rfl rfl c013x rfl (wq_mono (c_rn c013x e18x (by first | omega | assumption | decide | solve_by_elim) (by first | omega | assumption | decide | solve_by_elim)) ?_)
      rintro _ ⟨h820x, rfl, f820x, l820x, c020x, p020x, p120x⟩
      show wq 49 46 [(1, .int (v4x.2.2.2.2.2.2)), (0, .ref 4)] [.int ((rnG tb ln (v14x.2.1) (v14x.2.2.1) (v4x.2.2.2.1) (v4x.2.2.2.2.1) (v4x.2.2.2.2.2.1) (v4x.2.2.2.2.2.2) (zLow.getD ((v4x.2.2.2.2.2.2)).toNatClampNeg 0) (zHigh.getD ((v4x.2.2.2.2.2.2)).toNatClampNeg 0) (1 : Int32)).1)] h820x 0 0 _
      obtain ⟨v21x, hv22x⟩ : ∃ x, x = (rnG tb ln (v14x.2.1) (v14x.2.2.1) (v4x.2.2.2.1) (v4x.2.2.2.2.1) (v4x.2.2.2.2.2.1) (v4x.2.2.2.2.2.2) (zLow.getD ((v4x.2.2.2.2.2.2)).toNatClampNeg 0) (zHigh.getD ((v4x.2.2.2.2.2.2)).toNatClampNeg 0) (1 : Int32)) := ⟨_, rfl⟩
      try rw [← hv22x] at c020x
      try rw [← hv22x] at p020x
      try rw [← hv22x] at p120x
      try rw [← hv22x]
      refine wq_ne0 rfl rfl (fun b23x => ?_) (fun b23x => ?_)
      · have q24x : (v21x.1).toInt ≠ 0 := fun q => b23x (Int32.toInt_inj.mp q)
        refine wq_gos (f := 1) (pc2 := 52) (ls2 := [(1, .int (v4x.2.2.2.2.2.2)), (0, .ref 4)]) (st2 := [.ref 4]) (h2 := h820x) (dc2 := 0) (ds2 := 0) 1 rfl ?_
        refine wq_getf rfl c020x rfl rfl ?_
        have e25x := (f820x.2 _ _ (wnc (by omega) wn0) (f813x.2 _ _ (wnc (by omega) wn0) (f83x.2 _ _ (wnc (by omega) wn0) hA)))
        refine wq_getf rfl e25x rfl rfl ?_
        refine wq_gos (f := 1) (pc2 := 60) (ls2 := [(1, .int (v4x.2.2.2.2.2.2)), (0, .ref 4)]) (st2 := [.ref 4, .int (v4x.2.2.2.2.2.2), .ref (rd + 2)]) (h2 := h820x) (dc2 := 0) (ds2 := 0) 2 rfl ?_
        refine wq_getf rfl c020x rfl rfl ?_
        have e26x := (f820x.2 _ _ (wnc (by omega) wn0) (f813x.2 _ _ (wnc (by omega) wn0) (f83x.2 _ _ (wnc (by omega) wn0) hL)))
        refine wq_iast rfl e26x (by first | omega | exact zin_t (by omega) (by omega)) rfl ?_
        intro h27x e28x f29x l30x
        have e28x : zat h27x (rd + 2) = some (.inl (0, 6, (zset 0 ll ((v4x.2.2.2.2.2.2)).toNatClampNeg (v21x.2.2.2.2.2.2)))) := e28x
        refine wq_gos (f := 1) (pc2 := 66) (ls2 := [(1, .int (v4x.2.2.2.2.2.2)), (0, .ref 4)]) (st2 := [.ref 4, .ref 4]) (h2 := h27x) (dc2 := 0) (ds2 := 0) 2 rfl ?_
        have e31x := (f29x.2 _ _ (wnc (by omega) wn0) c020x)
        refine wq_getf rfl e31x rfl rfl ?_
        have e32x := (f29x.2 _ _ (wnc (by omega) wn0) e25x)
        refine wq_getf rfl e32x rfl rfl ?_
        refine wq_gos (f := 1) (pc2 := 73) (ls2 := [(1, .int (v4x.2.2.2.2.2.2)), (0, .ref 4)]) (st2 := [.int (v4x.2.2.2.2.2.2), .ref (rd + 2), .ref 4]) (h2 := h27x) (dc2 := 0) (ds2 := 0) 1 rfl ?_
        refine wq_iald rfl e28x (by first | omega | exact zin_t (by omega) (by omega)) rfl ?_
        refine wq_gos (f := 1) (pc2 := 78) (ls2 := [(1, .int (v4x.2.2.2.2.2.2)), (0, .ref 4)]) (st2 := [.int (v4x.2.2.2.2.2.2), .ref 3, .int ((zset 0 ll ((v4x.2.2.2.2.2.2)).toNatClampNeg (v21x.2.2.2.2.2.2)).getD ((v4x.2.2.2.2.2.2)).toNatClampNeg 0), .ref 4]) (h2 := h27x) (dc2 := 0) (ds2 := 0) 2 rfl ?_
        refine wq_ialdc (n := 6) rfl ⟨rfl, rfl⟩ (by first | omega | exact zin_t (by omega) (by omega)) rfl ?_
        refine wq_gos (f := 1) (pc2 := 80) (ls2 := [(1, .int (v4x.2.2.2.2.2.2)), (0, .ref 4)]) (st2 := [.int 1, .int (zHigh.getD ((v4x.2.2.2.2.2.2)).toNatClampNeg 0), .int ((zset 0 ll ((v4x.2.2.2.2.2.2)).toNatClampNeg (v21x.2.2.2.2.2.2)).getD ((v4x.2.2.2.2.2.2)).toNatClampNeg 0), .ref 4]) (h2 := h27x) (dc2 := 0) (ds2 := 0) 1 rfl ?_
        have e33x := (f29x.2 _ _ (wnc (by omega) wn0) (f820x.2 _ _ (wnc (by decide) wn0) e18x))
        refine wq_inlv (y2 := 55) (as := [.int ((zset 0 ll ((v4x.2.2.2.2.2.2)).toNatClampNeg (v21x.2.2.2.2.2.2)).getD ((v4x.2.2.2.2.2.2)).toNatClampNeg 0), .int (zHigh.getD ((v4x.2.2.2.2.2.2)).toNatClampNeg 0), .int 1]) rfl rfl rfl e31x rfl (wq_mono (c_rn e31x e33x (by first | omega | assumption | decide | solve_by_elim) (by first | omega | assumption | decide | solve_by_elim)) ?_)
        rintro _ ⟨h834x, rfl, f834x, l834x, c034x, p034x, p134x⟩
        show wq 49 83 [(1, .int (v4x.2.2.2.2.2.2)), (0, .ref 4)] [.int ((rnG tb ln (v21x.2.1) (v21x.2.2.1) (v21x.2.2.2.1) (v21x.2.2.2.2.1) (v21x.2.2.2.2.2.1) (v21x.2.2.2.2.2.2) ((zset 0 ll ((v4x.2.2.2.2.2.2)).toNatClampNeg (v21x.2.2.2.2.2.2)).getD ((v4x.2.2.2.2.2.2)).toNatClampNeg 0) (zHigh.getD ((v4x.2.2.2.2.2.2)).toNatClampNeg 0) (1 : Int32)).1)] h834x 0 0 _
        obtain ⟨v35x, hv36x⟩ : ∃ x, x = (rnG tb ln (v21x.2.1) (v21x.2.2.1) (v21x.2.2.2.1) (v21x.2.2.2.2.1) (v21x.2.2.2.2.2.1) (v21x.2.2.2.2.2.2) ((zset 0 ll ((v4x.2.2.2.2.2.2)).toNatClampNeg (v21x.2.2.2.2.2.2)).getD ((v4x.2.2.2.2.2.2)).toNatClampNeg 0) (zHigh.getD ((v4x.2.2.2.2.2.2)).toNatClampNeg 0) (1 : Int32)) := ⟨_, rfl⟩
        try rw [← hv36x] at c034x
        try rw [← hv36x] at p034x
        try rw [← hv36x] at p134x
        try rw [← hv36x]
        refine wq_ne0 rfl rfl (fun b37x => ?_) (fun b37x => ?_)
        · have q38x : (v35x.1).toInt ≠ 0 := fun q => b37x (Int32.toInt_inj.mp q)
          refine wq_gos (f := 1) (pc2 := 89) (ls2 := [(1, .int (v4x.2.2.2.2.2.2)), (0, .ref 4)]) (st2 := [.ref 4]) (h2 := h834x) (dc2 := 0) (ds2 := 0) 1 rfl ?_
          refine wq_getf rfl c034x rfl rfl ?_
          have e39x := (f834x.2 _ _ (wnc (by omega) wn0) e32x)
          refine wq_getf rfl e39x rfl rfl ?_
          refine wq_gos (f := 1) (pc2 := 97) (ls2 := [(1, .int (v4x.2.2.2.2.2.2)), (0, .ref 4)]) (st2 := [.ref 4, .int (v4x.2.2.2.2.2.2), .ref (rd + 4)]) (h2 := h834x) (dc2 := 0) (ds2 := 0) 2 rfl ?_
          refine wq_getf rfl c034x rfl rfl ?_
          have e40x := (f834x.2 _ _ (wnc (by omega) wn0) (f29x.2 _ _ (wnc (by omega) wn0) (f820x.2 _ _ (wnc (by omega) wn0) (f813x.2 _ _ (wnc (by omega) wn0) (f83x.2 _ _ (wnc (by omega) wn0) hG)))))
          refine wq_iast rfl e40x (by first | omega | exact zin_t (by omega) (by omega)) rfl ?_
          intro h41x e42x f43x l44x
          have e42x : zat h41x (rd + 4) = some (.inl (0, 6, (zset 0 lg ((v4x.2.2.2.2.2.2)).toNatClampNeg (v35x.2.2.2.2.2.2)))) := e42x
          refine wq_gos (f := 1) (pc2 := 102) (ls2 := [(1, .int (v4x.2.2.2.2.2.2)), (0, .ref 4)]) (st2 := [.int 1]) (h2 := h41x) (dc2 := 0) (ds2 := 0) 1 rfl ?_
          have e45x := (f43x.2 _ _ (wnc (by omega) wn0) c034x)
          have e46x := (f43x.2 _ _ (wnc (by omega) wn0) (f834x.2 _ _ (wnc (by omega) wn0) e28x))
          have hx : (rlG tb ln wr wa nx kd sta va tld ll lg) = ((1 : Int32), (v35x.2.1), (v35x.2.2.1), (v35x.2.2.2.1), (v35x.2.2.2.2.1), (v35x.2.2.2.2.2.1), (v35x.2.2.2.2.2.2), (v14x.2.2.2), (zset 0 ll ((v4x.2.2.2.2.2.2)).toNatClampNeg (v21x.2.2.2.2.2.2)), (zset 0 lg ((v4x.2.2.2.2.2.2)).toNatClampNeg (v35x.2.2.2.2.2.2))) := by unfold rlG; rw [zlet_eq hv5x, if_neg b6x, zlet_eq hv15x, if_pos b16x, zlet_eq hv22x, if_pos b23x, zlet_eq hv36x, if_pos b37x]
          rw [hx]
          exact wq_ret rfl rfl ⟨h41x, rfl, (wFr_tr (wFr_sub f83x (by simp)) (wFr_tr (wFr_sub f813x (by simp)) (wFr_tr (wFr_sub f820x (by simp)) (wFr_tr (wFr_sub f29x (by simp)) (wFr_tr (wFr_sub f834x (by simp)) (wFr_sub f43x (by simp))))))), by omega, e45x, e46x, e42x, (by first | ((try dsimp only); omega) | assumption | ((try dsimp only); intro q9; first | omega | exact absurd rfl q9 | assumption) | ((intro q9; simp only [zset_self] at *; exact wLim_set hS (by omega) (by omega) (by omega)))), (by first | ((try dsimp only); omega) | assumption | ((try dsimp only); intro q9; first | omega | exact absurd rfl q9 | assumption) | ((intro q9; simp only [zset_self] at *; exact wLim_set hS (by omega) (by omega) (by omega))))⟩
        · have q47x : (v35x.1).toInt = 0 := congrArg Int32.toInt b37x
          refine wq_gos (f := 1) (pc2 := 87) (ls2 := [(1, .int (v4x.2.2.2.2.2.2)), (0, .ref 4)]) (st2 := [.int 0]) (h2 := h834x) (dc2 := 0) (ds2 := 0) 1 rfl ?_
          have e48x := (f834x.2 _ _ (wnc (by omega) wn0) e28x)
          have e49x := (f834x.2 _ _ (wnc (by omega) wn0) (f29x.2 _ _ (wnc (by omega) wn0) (f820x.2 _ _ (wnc (by omega) wn0) (f813x.2 _ _ (wnc (by omega) wn0) (f83x.2 _ _ (wnc (by omega) wn0) hG)))))
          have hx : (rlG tb ln wr wa nx kd sta va tld ll lg) = ((0 : Int32), (v35x.2.1), (v35x.2.2.1), (v35x.2.2.2.1), (v35x.2.2.2.2.1), (v35x.2.2.2.2.2.1), (v35x.2.2.2.2.2.2), (v14x.2.2.2), (zset 0 ll ((v4x.2.2.2.2.2.2)).toNatClampNeg (v21x.2.2.2.2.2.2)), lg) := by unfold rlG; rw [zlet_eq hv5x, if_neg b6x, zlet_eq hv15x, if_pos b16x, zlet_eq hv22x, if_pos b23x, zlet_eq hv36x, if_neg (fun q => q b37x)]
          rw [hx]
          exact wq_ret rfl rfl ⟨h834x, rfl, (wFr_tr (wFr_sub f83x (by simp)) (wFr_tr (wFr_sub f813x (by simp)) (wFr_tr (wFr_sub f820x (by simp)) (wFr_tr (wFr_sub f29x (by simp)) (wFr_sub f834x (by simp)))))), by omega, c034x, e48x, e49x, (by first | ((try dsimp only); omega) | assumption | ((try dsimp only); intro q9; first | omega | exact absurd rfl q9 | assumption) | ((intro q9; simp only [zset_self] at *; exact wLim_set hS (by omega) (by omega) (by omega)))), (by first | ((try dsimp only); omega) | assumption | ((try dsimp only); intro q9; first | omega | exact absurd rfl q9 | assumption) | ((intro q9; simp only [zset_self] at *; exact wLim_set hS (by omega) (by omega) (by omega))))⟩
      · have q50x : (v21x.1).toInt = 0 := congrArg Int32.toInt b23x
        refine wq_gos (f := 1) (pc2 := 50) (ls2 := [(1, .int (v4x.2.2.2.2.2.2)), (0, .ref 4)]) (st2 := [.int 0]) (h2 := h820x) (dc2 := 0) (ds2 := 0) 1 rfl ?_
        have e51x := (f820x.2 _ _ (wnc (by omega) wn0) (f813x.2 _ _ (wnc (by omega) wn0) (f83x.2 _ _ (wnc (by omega) wn0) hL)))
        have e52x := (f820x.2 _ _ (wnc (by omega) wn0) (f813x.2 _ _ (wnc (by omega) wn0) (f83x.2 _ _ (wnc (by omega) wn0) hG)))
        have hx : (rlG tb ln wr wa nx kd sta va tld ll lg) = ((0 : Int32), (v21x.2.1), (v21x.2.2.1), (v21x.2.2.2.1), (v21x.2.2.2.2.1), (v21x.2.2.2.2.2.1), (v21x.2.2.2.2.2.2), (v14x.2.2.2), ll, lg) := by unfold rlG; rw [zlet_eq hv5x, if_neg b6x, zlet_eq hv15x, if_pos b16x, zlet_eq hv22x, if_neg (fun q => q b23x)]
        rw [hx]
        exact wq_ret rfl rfl ⟨h820x, rfl, (wFr_tr (wFr_sub f83x (by simp)) (wFr_tr (wFr_sub f813x (by simp)) (wFr_sub f820x (by simp)))), by omega, c020x, e51x, e52x, (by first | ((try dsimp only); omega) | assumption | ((try dsimp only); intro q9; first | omega | exact absurd rfl q9 | assumption) | ((intro q9; simp only [zset_self] at *; exact wLim_set hS (by omega) (by omega) (by omega)))), (by first | ((try dsimp only); omega) | assumption | ((try dsimp only); intro q9; first | omega | exact absurd rfl q9 | assumption) | ((intro q9; simp only [zset_self] at *; exact wLim_set hS (by omega) (by omega) (by omega))))⟩
    · have q53x : (v14x.1).toInt = 0 := congrArg Int32.toInt b16x
      refine wq_gos (f := 1) (pc2 := 25) (ls2 := [(0, .ref 4)]) (st2 := [.int 0]) (h2 := h813x) (dc2 := 0) (ds2 := 0) 1 rfl ?_
      have e54x := (f813x.2 _ _ (wnc (by omega) wn0) (f83x.2 _ _ (wnc (by omega) wn0) hL))
      have e55x := (f813x.2 _ _ (wnc (by omega) wn0) (f83x.2 _ _ (wnc (by omega) wn0) hG))
      have hx : (rlG tb ln wr wa nx kd sta va tld ll lg) = ((0 : Int32), (v14x.2.1), (v14x.2.2.1), (v4x.2.2.2.1), (v4x.2.2.2.2.1), (v4x.2.2.2.2.2.1), (v4x.2.2.2.2.2.2), (v14x.2.2.2), ll, lg) := by unfold rlG; rw [zlet_eq hv5x, if_neg b6x, zlet_eq hv15x, if_neg (fun q => q b16x)]
      rw [hx]
      exact wq_ret rfl rfl ⟨h813x, rfl, (wFr_tr (wFr_sub f83x (by simp)) (wFr_sub f813x (by simp))), by omega, c013x, e54x, e55x, (by first | ((try dsimp only); omega) | assumption | ((try dsimp only); intro q9; first | omega | exact absurd rfl q9 | assumption) | ((intro q9; simp only [zset_self] at *; exact wLim_set hS (by omega) (by omega) (by omega)))), (by first | ((try dsimp only); omega) | assumption | ((try dsimp only); intro q9; first | omega | exact absurd rfl q9 | assumption) | ((intro q9; simp only [zset_self] at *; exact wLim_set hS (by omega) (by omega) (by omega))))⟩
noncomputable def rpG (tb : List Int32) (ln : Nat) (wr wa : Int32) (nx : Nat) (kd sta va : Int32) (tld : Int32) (sv : List Int32) : Int32 × Int32 × Int32 × Nat × Int32 × Int32 × Int32 × Int32 × List Int32 := (zlet (rnG tb ln wr wa nx kd sta va (0 : Int32) (5 : Int32) (0 : Int32)) (fun v4x => (if (v4x.1) = (0 : Int32) then ((0 : Int32), (v4x.2.1), (v4x.2.2.1), (v4x.2.2.2.1), (v4x.2.2.2.2.1), (v4x.2.2.2.2.2.1), (v4x.2.2.2.2.2.2), tld, sv) else (zlet (toG (v4x.2.1) (v4x.2.2.1) (v4x.2.2.2.2.2.1) tld ((16 : Int32) + (v4x.2.2.2.2.2.2))) (fun v13x => (if (v13x.1) ≠ (0 : Int32) then (zlet (rnG tb ln (v13x.2.1) (v13x.2.2.1) (v4x.2.2.2.1) (v4x.2.2.2.2.1) (v4x.2.2.2.2.2.1) (v4x.2.2.2.2.2.2) (1 : Int32) (32 : Int32) (0 : Int32)) (fun v21x => (if (v21x.1) ≠ (0 : Int32) then ((1 : Int32), (v21x.2.1), (v21x.2.2.1), (v21x.2.2.2.1), (v21x.2.2.2.2.1), (v21x.2.2.2.2.2.1), (v21x.2.2.2.2.2.2), (v13x.2.2.2), (zset 0 sv ((v4x.2.2.2.2.2.2)).toNatClampNeg (v21x.2.2.2.2.2.2))) else ((0 : Int32), (v21x.2.1), (v21x.2.2.1), (v21x.2.2.2.1), (v21x.2.2.2.2.1), (v21x.2.2.2.2.2.1), (v21x.2.2.2.2.2.2), (v13x.2.2.2), sv)))) else ((0 : Int32), (v13x.2.1), (v13x.2.2.1), (v4x.2.2.2.1), (v4x.2.2.2.2.1), (v4x.2.2.2.2.2.1), (v4x.2.2.2.2.2.2), (v13x.2.2.2), sv)))))))
set_option maxRecDepth 100000 in
set_option maxHeartbeats 4000000 in
theorem c_rp {h : zH} {ln nx rd : Nat} {wr wa kd sta va tld : Int32} {tb : List Int32} {lk hd ht bl sd : Int32} {rt : Int64} {sp so : Nat} {sv : List Int32} (hR : zat h 4 = some (.inr (.inr (.inr (4, [.int wr, .int wa, .ref 2, .int (nI ln), .int (nI nx), .int kd, .int sta, .int va, .int tld, .ref rd]))))) (hT : zat h 2 = some (.inl (1, 700, tb))) (hA : zat h rd = some (.inr (.inr (.inr (0, [.int lk, .int hd, .int ht, .int bl, .int sd, .long rt, .ref (rd + 2), .ref (rd + 4), .ref (rd + 6), .int (nI sp), .ref (rd + 8), .ref (rd + 10), .int (nI so), .ref (rd + 12)]))))) (hV : zat h (rd + 6) = some (.inl (0, 6, sv))) (hln : ln ≤ 700) (hn : nx ≤ ln) (hrd : rd = 6 ∨ rd = 20) (hS : wSpd sv) : wq 50 0 [(0, .ref 4)] [] h 0 0 (fun rr9 => ∃ (h2 : zH), rr9 = (some (.int ((rpG tb ln wr wa nx kd sta va tld sv).1)), h2, 0, 0) ∧ wFr [4, (rd + 6)] h h2 ∧ h2.length = h.length ∧ zat h2 4 = some (.inr (.inr (.inr (4, [.int ((rpG tb ln wr wa nx kd sta va tld sv).2.1), .int ((rpG tb ln wr wa nx kd sta va tld sv).2.2.1), .ref 2, .int (nI ln), .int (nI ((rpG tb ln wr wa nx kd sta va tld sv).2.2.2.1)), .int ((rpG tb ln wr wa nx kd sta va tld sv).2.2.2.2.1), .int ((rpG tb ln wr wa nx kd sta va tld sv).2.2.2.2.2.1), .int ((rpG tb ln wr wa nx kd sta va tld sv).2.2.2.2.2.2.1), .int ((rpG tb ln wr wa nx kd sta va tld sv).2.2.2.2.2.2.2.1), .ref rd])))) ∧ zat h2 (rd + 6) = some (.inl (0, 6, ((rpG tb ln wr wa nx kd sta va tld sv).2.2.2.2.2.2.2.2))) ∧ ((((rpG tb ln wr wa nx kd sta va tld sv).2.2.2.1) ≤ ln)) ∧ (((((rpG tb ln wr wa nx kd sta va tld sv).1)).toInt ≠ 0 → wSpd ((rpG tb ln wr wa nx kd sta va tld sv).2.2.2.2.2.2.2.2)))) := by
  have z0 : (0 : Int32).toInt = 0 := rfl
  have z1 : (1 : Int32).toInt = 1 := rfl
  have z5 : (5 : Int32).toInt = 5 := rfl
  have z32 : (32 : Int32).toInt = 32 := rfl
  refine wq_gos (f := 1) (pc2 := 4) (ls2 := [(0, .ref 4)]) (st2 := [.int 0, .int 5, .int 0, .ref 4]) (h2 := h) (dc2 := 0) (ds2 := 0) 4 rfl ?_
  have q1x : (0 : Int32).toInt = 0 := rfl
  have q2x : (5 : Int32).toInt = 5 := rfl
  refine wq_inlv (y2 := 55) (as := [.int 0, .int 5, .int 0]) rfl rfl rfl hR rfl (wq_mono (c_rn hR hT (by first | omega | assumption | decide | solve_by_elim) (by first | omega | assumption | decide | solve_by_elim)) ?_)
  rintro _ ⟨h83x, rfl, f83x, l83x, c03x, p03x, p13x⟩
  show wq 50 7 [(0, .ref 4)] [.int ((rnG tb ln wr wa nx kd sta va (0 : Int32) (5 : Int32) (0 : Int32)).1)] h83x 0 0 _
  obtain ⟨v4x, hv5x⟩ : ∃ x, x = (rnG tb ln wr wa nx kd sta va (0 : Int32) (5 : Int32) (0 : Int32)) := ⟨_, rfl⟩
  try rw [← hv5x] at c03x
  try rw [← hv5x] at p03x
  try rw [← hv5x] at p13x
  try rw [← hv5x]
  refine wq_eq0 rfl rfl (fun b6x => ?_) (fun b6x => ?_)
  · have q7x : (v4x.1).toInt = 0 := congrArg Int32.toInt b6x
    refine wq_gos (f := 1) (pc2 := 25) (ls2 := [(0, .ref 4)]) (st2 := [.int 0]) (h2 := h83x) (dc2 := 0) (ds2 := 0) 1 rfl ?_
    have e8x := (f83x.2 _ _ (wnc (by omega) wn0) hV)
    have hx : (rpG tb ln wr wa nx kd sta va tld sv) = ((0 : Int32), (v4x.2.1), (v4x.2.2.1), (v4x.2.2.2.1), (v4x.2.2.2.2.1), (v4x.2.2.2.2.2.1), (v4x.2.2.2.2.2.2), tld, sv) := by unfold rpG; rw [zlet_eq hv5x, if_pos b6x]
    rw [hx]
    exact wq_ret rfl rfl ⟨h83x, rfl, (wFr_sub f83x (by simp)), by omega, c03x, e8x, (by first | ((try dsimp only); omega) | assumption | ((try dsimp only); intro q9; first | omega | exact absurd rfl q9 | assumption) | ((intro q9; exact wSpd_set hS (by omega) (by omega)))), (by first | ((try dsimp only); omega) | assumption | ((try dsimp only); intro q9; first | omega | exact absurd rfl q9 | assumption) | ((intro q9; exact wSpd_set hS (by omega) (by omega))))⟩
  · have q9x : (v4x.1).toInt ≠ 0 := fun q => b6x (Int32.toInt_inj.mp q)
    refine wq_gos (f := 1) (pc2 := 14) (ls2 := [(0, .ref 4)]) (st2 := [.ref 4, .int 16, .ref 4]) (h2 := h83x) (dc2 := 0) (ds2 := 0) 3 rfl ?_
    refine wq_getf rfl c03x rfl rfl ?_
    refine wq_gos (f := 1) (pc2 := 18) (ls2 := [(0, .ref 4)]) (st2 := [.int ((16 : Int32) + (v4x.2.2.2.2.2.2)), .ref 4]) (h2 := h83x) (dc2 := 0) (ds2 := 0) 1 rfl ?_
    have q10x : (16 : Int32).toInt = 16 := rfl
    try have q11x : (((16 : Int32) + (v4x.2.2.2.2.2.2))).toInt = (16 : Int32).toInt + (v4x.2.2.2.2.2.2).toInt := e_add (by omega) (by omega)
    refine wq_inlv (y2 := 47) (as := [.int ((16 : Int32) + (v4x.2.2.2.2.2.2))]) rfl rfl rfl c03x rfl (wq_mono (c_to c03x) ?_)
    rintro _ ⟨h812x, rfl, f812x, l812x, c012x⟩
    show wq 50 21 [(0, .ref 4)] [.int ((toG (v4x.2.1) (v4x.2.2.1) (v4x.2.2.2.2.2.1) tld ((16 : Int32) + (v4x.2.2.2.2.2.2))).1)] h812x 0 0 _
    obtain ⟨v13x, hv14x⟩ : ∃ x, x = (toG (v4x.2.1) (v4x.2.2.1) (v4x.2.2.2.2.2.1) tld ((16 : Int32) + (v4x.2.2.2.2.2.2))) := ⟨_, rfl⟩
    try rw [← hv14x] at c012x
    try rw [← hv14x]
    refine wq_ne0 rfl rfl (fun b15x => ?_) (fun b15x => ?_)
    · have q16x : (v13x.1).toInt ≠ 0 := fun q => b15x (Int32.toInt_inj.mp q)
      refine wq_gos (f := 1) (pc2 := 27) (ls2 := [(0, .ref 4)]) (st2 := [.ref 4]) (h2 := h812x) (dc2 := 0) (ds2 := 0) 1 rfl ?_
      refine wq_getf rfl c012x rfl rfl ?_
      refine wq_gos (f := 1) (pc2 := 36) (ls2 := [(1, .int (v4x.2.2.2.2.2.2)), (0, .ref 4)]) (st2 := [.int 0, .int 32, .int 1, .ref 4]) (h2 := h812x) (dc2 := 0) (ds2 := 0) 5 rfl ?_
      have e17x := (f812x.2 _ _ (wnc (by decide) wn0) (f83x.2 _ _ (wnc (by decide) wn0) hT))
      have q18x : (1 : Int32).toInt = 1 := rfl
      have q19x : (32 : Int32).toInt = 32 := rfl
      refine wq_inlv (y2 := 55) (as := [.int 1, .int 32, .int 0]) rfl rfl rfl c012x rfl (wq_mono (c_rn c012x e17x (by first | omega | assumption | decide | solve_by_elim) (by first | omega | assumption | decide | solve_by_elim)) ?_)
      rintro _ ⟨h820x, rfl, f820x, l820x, c020x, p020x, p120x⟩
      show wq 50 39 [(1, .int (v4x.2.2.2.2.2.2)), (0, .ref 4)] [.int ((rnG tb ln (v13x.2.1) (v13x.2.2.1) (v4x.2.2.2.1) (v4x.2.2.2.2.1) (v4x.2.2.2.2.2.1) (v4x.2.2.2.2.2.2) (1 : Int32) (32 : Int32) (0 : Int32)).1)] h820x 0 0 _
      obtain ⟨v21x, hv22x⟩ : ∃ x, x = (rnG tb ln (v13x.2.1) (v13x.2.2.1) (v4x.2.2.2.1) (v4x.2.2.2.2.1) (v4x.2.2.2.2.2.1) (v4x.2.2.2.2.2.2) (1 : Int32) (32 : Int32) (0 : Int32)) := ⟨_, rfl⟩
      try rw [← hv22x] at c020x
      try rw [← hv22x] at p020x
      try rw [← hv22x] at p120x
      try rw [← hv22x]
      refine wq_ne0 rfl rfl (fun b23x => ?_) (fun b23x => ?_)
      · have q24x : (v21x.1).toInt ≠ 0 := fun q => b23x (Int32.toInt_inj.mp q)
        refine wq_gos (f := 1) (pc2 := 45) (ls2 := [(1, .int (v4x.2.2.2.2.2.2)), (0, .ref 4)]) (st2 := [.ref 4]) (h2 := h820x) (dc2 := 0) (ds2 := 0) 1 rfl ?_
        refine wq_getf rfl c020x rfl rfl ?_
        have e25x := (f820x.2 _ _ (wnc (by omega) wn0) (f812x.2 _ _ (wnc (by omega) wn0) (f83x.2 _ _ (wnc (by omega) wn0) hA)))
        refine wq_getf rfl e25x rfl rfl ?_
        refine wq_gos (f := 1) (pc2 := 53) (ls2 := [(1, .int (v4x.2.2.2.2.2.2)), (0, .ref 4)]) (st2 := [.ref 4, .int (v4x.2.2.2.2.2.2), .ref (rd + 6)]) (h2 := h820x) (dc2 := 0) (ds2 := 0) 2 rfl ?_
        refine wq_getf rfl c020x rfl rfl ?_
        have e26x := (f820x.2 _ _ (wnc (by omega) wn0) (f812x.2 _ _ (wnc (by omega) wn0) (f83x.2 _ _ (wnc (by omega) wn0) hV)))
        refine wq_iast rfl e26x (by first | omega | exact zin_t (by omega) (by omega)) rfl ?_
        intro h27x e28x f29x l30x
        have e28x : zat h27x (rd + 6) = some (.inl (0, 6, (zset 0 sv ((v4x.2.2.2.2.2.2)).toNatClampNeg (v21x.2.2.2.2.2.2)))) := e28x
        refine wq_gos (f := 1) (pc2 := 58) (ls2 := [(1, .int (v4x.2.2.2.2.2.2)), (0, .ref 4)]) (st2 := [.int 1]) (h2 := h27x) (dc2 := 0) (ds2 := 0) 1 rfl ?_
        have e31x := (f29x.2 _ _ (wnc (by omega) wn0) c020x)
        have hx : (rpG tb ln wr wa nx kd sta va tld sv) = ((1 : Int32), (v21x.2.1), (v21x.2.2.1), (v21x.2.2.2.1), (v21x.2.2.2.2.1), (v21x.2.2.2.2.2.1), (v21x.2.2.2.2.2.2), (v13x.2.2.2), (zset 0 sv ((v4x.2.2.2.2.2.2)).toNatClampNeg (v21x.2.2.2.2.2.2))) := by unfold rpG; rw [zlet_eq hv5x, if_neg b6x, zlet_eq hv14x, if_pos b15x, zlet_eq hv22x, if_pos b23x]
        rw [hx]
        exact wq_ret rfl rfl ⟨h27x, rfl, (wFr_tr (wFr_sub f83x (by simp)) (wFr_tr (wFr_sub f812x (by simp)) (wFr_tr (wFr_sub f820x (by simp)) (wFr_sub f29x (by simp))))), by omega, e31x, e28x, (by first | ((try dsimp only); omega) | assumption | ((try dsimp only); intro q9; first | omega | exact absurd rfl q9 | assumption) | ((intro q9; exact wSpd_set hS (by omega) (by omega)))), (by first | ((try dsimp only); omega) | assumption | ((try dsimp only); intro q9; first | omega | exact absurd rfl q9 | assumption) | ((intro q9; exact wSpd_set hS (by omega) (by omega))))⟩
      · have q32x : (v21x.1).toInt = 0 := congrArg Int32.toInt b23x
        refine wq_gos (f := 1) (pc2 := 43) (ls2 := [(1, .int (v4x.2.2.2.2.2.2)), (0, .ref 4)]) (st2 := [.int 0]) (h2 := h820x) (dc2 := 0) (ds2 := 0) 1 rfl ?_
        have e33x := (f820x.2 _ _ (wnc (by omega) wn0) (f812x.2 _ _ (wnc (by omega) wn0) (f83x.2 _ _ (wnc (by omega) wn0) hV)))
        have hx : (rpG tb ln wr wa nx kd sta va tld sv) = ((0 : Int32), (v21x.2.1), (v21x.2.2.1), (v21x.2.2.2.1), (v21x.2.2.2.2.1), (v21x.2.2.2.2.2.1), (v21x.2.2.2.2.2.2), (v13x.2.2.2), sv) := by unfold rpG; rw [zlet_eq hv5x, if_neg b6x, zlet_eq hv14x, if_pos b15x, zlet_eq hv22x, if_neg (fun q => q b23x)]
        rw [hx]
        exact wq_ret rfl rfl ⟨h820x, rfl, (wFr_tr (wFr_sub f83x (by simp)) (wFr_tr (wFr_sub f812x (by simp)) (wFr_sub f820x (by simp)))), by omega, c020x, e33x, (by first | ((try dsimp only); omega) | assumption | ((try dsimp only); intro q9; first | omega | exact absurd rfl q9 | assumption) | ((intro q9; exact wSpd_set hS (by omega) (by omega)))), (by first | ((try dsimp only); omega) | assumption | ((try dsimp only); intro q9; first | omega | exact absurd rfl q9 | assumption) | ((intro q9; exact wSpd_set hS (by omega) (by omega))))⟩
    · have q34x : (v13x.1).toInt = 0 := congrArg Int32.toInt b15x
      refine wq_gos (f := 1) (pc2 := 25) (ls2 := [(0, .ref 4)]) (st2 := [.int 0]) (h2 := h812x) (dc2 := 0) (ds2 := 0) 1 rfl ?_
      have e35x := (f812x.2 _ _ (wnc (by omega) wn0) (f83x.2 _ _ (wnc (by omega) wn0) hV))
      have hx : (rpG tb ln wr wa nx kd sta va tld sv) = ((0 : Int32), (v13x.2.1), (v13x.2.2.1), (v4x.2.2.2.1), (v4x.2.2.2.2.1), (v4x.2.2.2.2.2.1), (v4x.2.2.2.2.2.2), (v13x.2.2.2), sv) := by unfold rpG; rw [zlet_eq hv5x, if_neg b6x, zlet_eq hv14x, if_neg (fun q => q b15x)]
      rw [hx]
      exact wq_ret rfl rfl ⟨h812x, rfl, (wFr_tr (wFr_sub f83x (by simp)) (wFr_sub f812x (by simp))), by omega, c012x, e35x, (by first | ((try dsimp only); omega) | assumption | ((try dsimp only); intro q9; first | omega | exact absurd rfl q9 | assumption) | ((intro q9; exact wSpd_set hS (by omega) (by omega)))), (by first | ((try dsimp only); omega) | assumption | ((try dsimp only); intro q9; first | omega | exact absurd rfl q9 | assumption) | ((intro q9; exact wSpd_set hS (by omega) (by omega))))⟩
noncomputable def rrF (tb : List Int32) (ln : Nat) : Nat → Nat → Int32 → Int32 → Nat → Int32 → Int32 → Int32 → Int64 → Int32 × Int32 × Int32 × Nat × Int32 × Int32 × Int32 × Int64
  | 0, _, wr, wa, nx, kd, sta, va, rt => (0, wr, wa, nx, kd, sta, va, rt)
  | m + 1, k, wr, wa, nx, kd, sta, va, rt => (if (6 : Int32).toInt ≤ (nI k).toInt then ((1 : Int32), wr, wa, nx, kd, sta, va, rt) else (zlet (rnG tb ln wr wa nx kd sta va (zLow.getD ((nI k)).toNatClampNeg 0) (zHigh.getD ((nI k)).toNatClampNeg 0) (1 : Int32)) (fun v6x => (if (v6x.1) ≠ (0 : Int32) then (rrF tb ln m (k + 1) (v6x.2.1) (v6x.2.2.1) (v6x.2.2.2.1) (v6x.2.2.2.2.1) (v6x.2.2.2.2.2.1) (v6x.2.2.2.2.2.2) (jwithv rt (nI k) (v6x.2.2.2.2.2.2))) else ((0 : Int32), (v6x.2.1), (v6x.2.2.1), (v6x.2.2.2.1), (v6x.2.2.2.2.1), (v6x.2.2.2.2.2.1), (v6x.2.2.2.2.2.2), rt)))))
set_option maxRecDepth 100000 in
set_option maxHeartbeats 4000000 in
theorem c_rrL {ln rd : Nat} {tld : Int32} {tb : List Int32} {lk hd ht bl sd : Int32} {sp so : Nat} (hln : ln ≤ 700) (hrd : rd = 6 ∨ rd = 20) : ∀ (m : Nat) (k : Nat) (wr : Int32) (wa : Int32) (nx : Nat) (kd : Int32) (sta : Int32) (va : Int32) (rt : Int64) (h : zH) , (zat h 4 = some (.inr (.inr (.inr (4, [.int wr, .int wa, .ref 2, .int (nI ln), .int (nI nx), .int kd, .int sta, .int va, .int tld, .ref rd]))))) → (zat h 2 = some (.inl (1, 700, tb))) → (zat h rd = some (.inr (.inr (.inr (0, [.int lk, .int hd, .int ht, .int bl, .int sd, .long rt, .ref (rd + 2), .ref (rd + 4), .ref (rd + 6), .int (nI sp), .ref (rd + 8), .ref (rd + 10), .int (nI so), .ref (rd + 12)]))))) → (nx ≤ ln ∧ k ≤ 6) → (6 - k) < m → ∀ (dc ds : Nat), wq 51 2 [(0, .ref 4), (1, .int (nI k))] [] h dc ds (fun rr9 => ∃ (h2 : zH) , rr9 = (some (Value.int ((rrF tb ln m k wr wa nx kd sta va rt).1)), h2, dc, ds) ∧ wFr [4, rd] h h2 ∧ h2.length = h.length ∧ zat h2 4 = some (.inr (.inr (.inr (4, [.int ((rrF tb ln m k wr wa nx kd sta va rt).2.1), .int ((rrF tb ln m k wr wa nx kd sta va rt).2.2.1), .ref 2, .int (nI ln), .int (nI ((rrF tb ln m k wr wa nx kd sta va rt).2.2.2.1)), .int ((rrF tb ln m k wr wa nx kd sta va rt).2.2.2.2.1), .int ((rrF tb ln m k wr wa nx kd sta va rt).2.2.2.2.2.1), .int ((rrF tb ln m k wr wa nx kd sta va rt).2.2.2.2.2.2.1), .int tld, .ref rd])))) ∧ zat h2 rd = some (.inr (.inr (.inr (0, [.int lk, .int hd, .int ht, .int bl, .int sd, .long ((rrF tb ln m k wr wa nx kd sta va rt).2.2.2.2.2.2.2), .ref (rd + 2), .ref (rd + 4), .ref (rd + 6), .int (nI sp), .ref (rd + 8), .ref (rd + 10), .int (nI so), .ref (rd + 12)])))) ∧ (((rrF tb ln m k wr wa nx kd sta va rt).2.2.2.1) ≤ ln)) := by
  intro m
  induction m with
  | zero => intro k wr wa nx kd sta va rt h hR hT hA hk hms dc ds; omega
  | succ m ih =>
    intro k wr wa nx kd sta va rt h hR hT hA hk hms dc ds
    have qnk := nI_toInt (n := k) (by omega)
    have z0 : (0 : Int32).toInt = 0 := rfl
    have z1 : (1 : Int32).toInt = 1 := rfl
    refine wq_gos (f := 1) (pc2 := 5) (ls2 := [(0, .ref 4), (1, .int (nI k))]) (st2 := [.int 6, .int (nI k)]) (h2 := h) (dc2 := dc) (ds2 := ds) 2 rfl ?_
    try have q1x := nI_toInt (n := k) (by omega)
    have q2x : (6 : Int32).toInt = 6 := rfl
    refine wq_ge2 rfl rfl (fun b3x => ?_) (fun b3x => ?_)
    · refine wq_gos (f := 1) (pc2 := 57) (ls2 := [(0, .ref 4), (1, .int (nI k))]) (st2 := [.int 1]) (h2 := h) (dc2 := dc) (ds2 := ds) 1 rfl ?_
      have hx : (rrF tb ln (m + 1) k wr wa nx kd sta va rt) = ((1 : Int32), wr, wa, nx, kd, sta, va, rt) := by show (if _ then _ else _) = _; rw [if_pos b3x]
      rw [hx]
      exact wq_ret rfl rfl ⟨h, rfl, (wFr_rf _ _), by omega, hR, hA, (by (try dsimp only); omega)⟩
    · refine wq_gos (f := 1) (pc2 := 13) (ls2 := [(0, .ref 4), (1, .int (nI k))]) (st2 := [.int (nI k), .ref 1, .ref 4]) (h2 := h) (dc2 := dc) (ds2 := ds) 3 rfl ?_
      refine wq_ialdc (n := 6) rfl ⟨rfl, rfl⟩ (by first | omega | exact zin_t (by omega) (by omega)) rfl ?_
      refine wq_gos (f := 1) (pc2 := 18) (ls2 := [(0, .ref 4), (1, .int (nI k))]) (st2 := [.int (nI k), .ref 3, .int (zLow.getD ((nI k)).toNatClampNeg 0), .ref 4]) (h2 := h) (dc2 := dc) (ds2 := ds) 2 rfl ?_
      refine wq_ialdc (n := 6) rfl ⟨rfl, rfl⟩ (by first | omega | exact zin_t (by omega) (by omega)) rfl ?_
      refine wq_gos (f := 1) (pc2 := 20) (ls2 := [(0, .ref 4), (1, .int (nI k))]) (st2 := [.int 1, .int (zHigh.getD ((nI k)).toNatClampNeg 0), .int (zLow.getD ((nI k)).toNatClampNeg 0), .ref 4]) (h2 := h) (dc2 := dc) (ds2 := ds) 1 rfl ?_
      have q4x : (1 : Int32).toInt = 1 := rfl
      refine wq_inlv (y2 := 55) (as := [.int (zLow.getD ((nI k)).toNatClampNeg 0), .int (zHigh.getD ((nI k)).toNatClampNeg 0), .int 1]) rfl rfl rfl hR rfl (wq_mono (c_rn hR hT (by first | omega | assumption | decide | solve_by_elim) (by first | omega | assumption | decide | solve_by_elim)) ?_)
      rintro _ ⟨h85x, rfl, f85x, l85x, c05x, p05x, p15x⟩
      show wq 51 23 [(0, .ref 4), (1, .int (nI k))] [.int ((rnG tb ln wr wa nx kd sta va (zLow.getD ((nI k)).toNatClampNeg 0) (zHigh.getD ((nI k)).toNatClampNeg 0) (1 : Int32)).1)] h85x dc ds _
      obtain ⟨v6x, hv7x⟩ : ∃ x, x = (rnG tb ln wr wa nx kd sta va (zLow.getD ((nI k)).toNatClampNeg 0) (zHigh.getD ((nI k)).toNatClampNeg 0) (1 : Int32)) := ⟨_, rfl⟩
      try rw [← hv7x] at c05x
      try rw [← hv7x] at p05x
      try rw [← hv7x] at p15x
      try rw [← hv7x]
      refine wq_ne0 rfl rfl (fun b8x => ?_) (fun b8x => ?_)
      · have q9x : (v6x.1).toInt ≠ 0 := fun q => b8x (Int32.toInt_inj.mp q)
        refine wq_gos (f := 1) (pc2 := 29) (ls2 := [(0, .ref 4), (1, .int (nI k))]) (st2 := [.ref 4]) (h2 := h85x) (dc2 := dc) (ds2 := ds) 1 rfl ?_
        refine wq_getf rfl c05x rfl rfl ?_
        refine wq_gos (f := 1) (pc2 := 33) (ls2 := [(0, .ref 4), (1, .int (nI k))]) (st2 := [.ref 4, .ref rd]) (h2 := h85x) (dc2 := dc) (ds2 := ds) 1 rfl ?_
        refine wq_getf rfl c05x rfl rfl ?_
        have e10x := (f85x.2 _ _ (wnc (by omega) wn0) hA)
        refine wq_getf rfl e10x rfl rfl ?_
        refine wq_gos (f := 1) (pc2 := 41) (ls2 := [(0, .ref 4), (1, .int (nI k))]) (st2 := [.ref 4, .int (nI k), .long rt, .ref rd]) (h2 := h85x) (dc2 := dc) (ds2 := ds) 2 rfl ?_
        refine wq_getf rfl c05x rfl rfl ?_
        refine wq_inl (y2 := 34) (as := [.long rt, .int (nI k), .int (v6x.2.2.2.2.2.2)]) rfl rfl rfl (wq_mono c_withv ?_)
        rintro _ rfl
        show wq 51 47 [(0, .ref 4), (1, .int (nI k))] [.long (jwithv rt (nI k) (v6x.2.2.2.2.2.2)), .ref rd] h85x dc ds _
        refine wq_putf rfl e10x rfl rfl rfl ?_
        intro h12x e13x f14x l15x
        have e13x : zat h12x rd = some (.inr (.inr (.inr (0, [.int lk, .int hd, .int ht, .int bl, .int sd, .long (jwithv rt (nI k) (v6x.2.2.2.2.2.2)), .ref (rd + 2), .ref (rd + 4), .ref (rd + 6), .int (nI sp), .ref (rd + 8), .ref (rd + 10), .int (nI so), .ref (rd + 12)])))) := e13x
        refine wq_gos (f := 1) (pc2 := 53) (ls2 := [(1, .int ((nI k) + 1)), (0, .ref 4)]) (st2 := []) (h2 := h12x) (dc2 := dc) (ds2 := ds) 1 rfl ?_
        rw [nI_1]
        refine wq_gos (f := 1) (pc2 := 2) (ls2 := [(1, .int (nI (k + 1))), (0, .ref 4)]) (st2 := []) (h2 := h12x) (dc2 := dc) (ds2 := ds) 1 rfl ?_
        try have q16x := nI_toInt (n := (k + 1)) (by omega)
        have e17x := (f14x.2 _ _ (wnc (by omega) wn0) c05x)
        have e18x := (f14x.2 _ _ (wnc (by omega) wn0) (f85x.2 _ _ (wnc (by decide) wn0) hT))
        have hx : (rrF tb ln (m + 1) k wr wa nx kd sta va rt) = (rrF tb ln m (k + 1) (v6x.2.1) (v6x.2.2.1) (v6x.2.2.2.1) (v6x.2.2.2.2.1) (v6x.2.2.2.2.2.1) (v6x.2.2.2.2.2.2) (jwithv rt (nI k) (v6x.2.2.2.2.2.2))) := by show (if _ then _ else _) = _; rw [if_neg (Int.not_le.mpr b3x), zlet_eq hv7x, if_pos b8x]
        rw [hx]
        refine wq_ls [(0, .ref 4), (1, .int (nI (k + 1)))] (show ([0, 1] : List Nat).Nodup by decide) ⟨rfl, rfl, trivial⟩ ?_
        refine wq_mono (ih (k + 1) (v6x.2.1) (v6x.2.2.1) (v6x.2.2.2.1) (v6x.2.2.2.2.1) (v6x.2.2.2.2.2.1) (v6x.2.2.2.2.2.2) (jwithv rt (nI k) (v6x.2.2.2.2.2.2)) h12x e17x e18x e13x (by first | omega | assumption | decide | solve_by_elim) (by omega) dc ds) ?_
        rintro _ ⟨h9, rfl, f9, l9, y0, y1, y2⟩
        exact ⟨h9, rfl, wFr_tr (wFr_tr (wFr_sub f85x (by simp)) (wFr_sub f14x (by simp))) f9, by omega, y0, y1, y2⟩
      · have q19x : (v6x.1).toInt = 0 := congrArg Int32.toInt b8x
        refine wq_gos (f := 1) (pc2 := 27) (ls2 := [(0, .ref 4), (1, .int (nI k))]) (st2 := [.int 0]) (h2 := h85x) (dc2 := dc) (ds2 := ds) 1 rfl ?_
        have e20x := (f85x.2 _ _ (wnc (by omega) wn0) hA)
        have hx : (rrF tb ln (m + 1) k wr wa nx kd sta va rt) = ((0 : Int32), (v6x.2.1), (v6x.2.2.1), (v6x.2.2.2.1), (v6x.2.2.2.2.1), (v6x.2.2.2.2.2.1), (v6x.2.2.2.2.2.2), rt) := by show (if _ then _ else _) = _; rw [if_neg (Int.not_le.mpr b3x), zlet_eq hv7x, if_neg (fun q => q b8x)]
        rw [hx]
        exact wq_ret rfl rfl ⟨h85x, rfl, (wFr_sub f85x (by simp)), by omega, c05x, e20x, (by (try dsimp only); omega)⟩
noncomputable def rrG (tb : List Int32) (ln : Nat) (wr wa : Int32) (nx : Nat) (kd sta va : Int32) (rt : Int64) : Int32 × Int32 × Int32 × Nat × Int32 × Int32 × Int32 × Int64 := (((rrF tb ln ((6 - 0) + 1) 0 wr wa nx kd sta va rt).1), ((rrF tb ln ((6 - 0) + 1) 0 wr wa nx kd sta va rt).2.1), ((rrF tb ln ((6 - 0) + 1) 0 wr wa nx kd sta va rt).2.2.1), ((rrF tb ln ((6 - 0) + 1) 0 wr wa nx kd sta va rt).2.2.2.1), ((rrF tb ln ((6 - 0) + 1) 0 wr wa nx kd sta va rt).2.2.2.2.1), ((rrF tb ln ((6 - 0) + 1) 0 wr wa nx kd sta va rt).2.2.2.2.2.1), ((rrF tb ln ((6 - 0) + 1) 0 wr wa nx kd sta va rt).2.2.2.2.2.2.1), ((rrF tb ln ((6 - 0) + 1) 0 wr wa nx kd sta va rt).2.2.2.2.2.2.2))
set_option maxRecDepth 100000 in
set_option maxHeartbeats 4000000 in
theorem c_rr {h : zH} {ln nx rd : Nat} {wr wa kd sta va tld : Int32} {tb : List Int32} {lk hd ht bl sd : Int32} {rt : Int64} {sp so : Nat} (hR : zat h 4 = some (.inr (.inr (.inr (4, [.int wr, .int wa, .ref 2, .int (nI ln), .int (nI nx), .int kd, .int sta, .int va, .int tld, .ref rd]))))) (hT : zat h 2 = some (.inl (1, 700, tb))) (hA : zat h rd = some (.inr (.inr (.inr (0, [.int lk, .int hd, .int ht, .int bl, .int sd, .long rt, .ref (rd + 2), .ref (rd + 4), .ref (rd + 6), .int (nI sp), .ref (rd + 8), .ref (rd + 10), .int (nI so), .ref (rd + 12)]))))) (hln : ln ≤ 700) (hn : nx ≤ ln) (hrd : rd = 6 ∨ rd = 20) : wq 51 0 [(0, .ref 4)] [] h 0 0 (fun rr9 => ∃ (h2 : zH), rr9 = (some (.int ((rrG tb ln wr wa nx kd sta va rt).1)), h2, 0, 0) ∧ wFr [4, rd] h h2 ∧ h2.length = h.length ∧ zat h2 4 = some (.inr (.inr (.inr (4, [.int ((rrG tb ln wr wa nx kd sta va rt).2.1), .int ((rrG tb ln wr wa nx kd sta va rt).2.2.1), .ref 2, .int (nI ln), .int (nI ((rrG tb ln wr wa nx kd sta va rt).2.2.2.1)), .int ((rrG tb ln wr wa nx kd sta va rt).2.2.2.2.1), .int ((rrG tb ln wr wa nx kd sta va rt).2.2.2.2.2.1), .int ((rrG tb ln wr wa nx kd sta va rt).2.2.2.2.2.2.1), .int tld, .ref rd])))) ∧ zat h2 rd = some (.inr (.inr (.inr (0, [.int lk, .int hd, .int ht, .int bl, .int sd, .long ((rrG tb ln wr wa nx kd sta va rt).2.2.2.2.2.2.2), .ref (rd + 2), .ref (rd + 4), .ref (rd + 6), .int (nI sp), .ref (rd + 8), .ref (rd + 10), .int (nI so), .ref (rd + 12)])))) ∧ ((((rrG tb ln wr wa nx kd sta va rt).2.2.2.1) ≤ ln))) := by
  have z0 : (0 : Int32).toInt = 0 := rfl
  have z1 : (1 : Int32).toInt = 1 := rfl
  refine wq_gos (f := 1) (pc2 := 2) (ls2 := [(1, .int 0), (0, .ref 4)]) (st2 := []) (h2 := h) (dc2 := 0) (ds2 := 0) 2 rfl ?_
  refine wq_ls [(0, .ref 4), (1, .int (nI 0))] (show ([0, 1] : List Nat).Nodup by decide) ⟨rfl, rfl, trivial⟩ ?_
  refine wq_mono (c_rrL (by first | omega | assumption | decide | solve_by_elim) (by first | omega | assumption | decide | solve_by_elim) ((6 - 0) + 1) 0 wr wa nx kd sta va rt h hR hT hA (by first | omega | assumption | decide | solve_by_elim) (by omega) 0 0) ?_
  rintro _ ⟨h81x, rfl, f81x, l81x, c01x, c11x, c21x⟩
  have hx : (rrG tb ln wr wa nx kd sta va rt) = (((rrF tb ln ((6 - 0) + 1) 0 wr wa nx kd sta va rt).1), ((rrF tb ln ((6 - 0) + 1) 0 wr wa nx kd sta va rt).2.1), ((rrF tb ln ((6 - 0) + 1) 0 wr wa nx kd sta va rt).2.2.1), ((rrF tb ln ((6 - 0) + 1) 0 wr wa nx kd sta va rt).2.2.2.1), ((rrF tb ln ((6 - 0) + 1) 0 wr wa nx kd sta va rt).2.2.2.2.1), ((rrF tb ln ((6 - 0) + 1) 0 wr wa nx kd sta va rt).2.2.2.2.2.1), ((rrF tb ln ((6 - 0) + 1) 0 wr wa nx kd sta va rt).2.2.2.2.2.2.1), ((rrF tb ln ((6 - 0) + 1) 0 wr wa nx kd sta va rt).2.2.2.2.2.2.2)) := by unfold rrG; rfl
  rw [hx]
  exact ⟨h81x, rfl, (wFr_sub f81x (by simp)), by omega, c01x, c11x, (by first | ((try dsimp only); omega) | assumption | ((try dsimp only); intro q9; first | omega | exact absurd rfl q9 | assumption))⟩
noncomputable def rzF (tb : List Int32) (ln : Nat) : Nat → Nat → Int64 → Int32 → Int32 → Nat → Int32 → Int32 → Int32 → Nat → List Int64 → Int32 × Int32 × Int32 × Nat × Int32 × Int32 × Int32 × Nat × List Int64
  | 0, _, _, wr, wa, nx, kd, sta, va, sp, po => (0, wr, wa, nx, kd, sta, va, sp, po)
  | m + 1, k, ps, wr, wa, nx, kd, sta, va, sp, po => (if (6 : Int32).toInt ≤ (nI k).toInt then ((1 : Int32), wr, wa, nx, kd, sta, va, (sp + 1), (zset 0 po sp ps)) else (zlet (rnG tb ln wr wa nx kd sta va (zLow.getD ((nI k)).toNatClampNeg 0) (zHigh.getD ((nI k)).toNatClampNeg 0) (1 : Int32)) (fun v19x => (if (v19x.1) ≠ (0 : Int32) then (rzF tb ln m (k + 1) (jwithv ps (nI k) (v19x.2.2.2.2.2.2)) (v19x.2.1) (v19x.2.2.1) (v19x.2.2.2.1) (v19x.2.2.2.2.1) (v19x.2.2.2.2.2.1) (v19x.2.2.2.2.2.2) sp po) else ((0 : Int32), (v19x.2.1), (v19x.2.2.1), (v19x.2.2.2.1), (v19x.2.2.2.2.1), (v19x.2.2.2.2.2.1), (v19x.2.2.2.2.2.2), sp, po)))))
set_option maxRecDepth 100000 in
set_option maxHeartbeats 4000000 in
theorem c_rzL {ln rd : Nat} {tld : Int32} {tb : List Int32} {lk hd ht bl sd : Int32} {rt : Int64} {so : Nat} {wy : List Int32} (hln : ln ≤ 700) (hrd : rd = 6 ∨ rd = 20) : ∀ (m : Nat) (k : Nat) (ps : Int64) (wr : Int32) (wa : Int32) (nx : Nat) (kd : Int32) (sta : Int32) (va : Int32) (sp : Nat) (po : List Int64) (h : zH) , (zat h 4 = some (.inr (.inr (.inr (4, [.int wr, .int wa, .ref 2, .int (nI ln), .int (nI nx), .int kd, .int sta, .int va, .int tld, .ref rd]))))) → (zat h 2 = some (.inl (1, 700, tb))) → (zat h rd = some (.inr (.inr (.inr (0, [.int lk, .int hd, .int ht, .int bl, .int sd, .long rt, .ref (rd + 2), .ref (rd + 4), .ref (rd + 6), .int (nI sp), .ref (rd + 8), .ref (rd + 10), .int (nI so), .ref (rd + 12)]))))) → (zat h (rd + 10) = some (.inr (.inl (8, po)))) → (zat h (rd + 12) = some (.inl (0, 10, wy))) → (nx ≤ ln ∧ k ≤ 6 ∧ sp < 8) → (wWay wy sp so) → (6 - k) < m → ∀ (dc ds : Nat), wq 52 68 [(0, .ref 4), (1, .int (nI sp)), (2, .long ps), (4, .int (nI k))] [] h dc ds (fun rr9 => ∃ (h2 : zH) , rr9 = (some (Value.int ((rzF tb ln m k ps wr wa nx kd sta va sp po).1)), h2, dc, ds) ∧ wFr [4, rd, (rd + 10)] h h2 ∧ h2.length = h.length ∧ zat h2 4 = some (.inr (.inr (.inr (4, [.int ((rzF tb ln m k ps wr wa nx kd sta va sp po).2.1), .int ((rzF tb ln m k ps wr wa nx kd sta va sp po).2.2.1), .ref 2, .int (nI ln), .int (nI ((rzF tb ln m k ps wr wa nx kd sta va sp po).2.2.2.1)), .int ((rzF tb ln m k ps wr wa nx kd sta va sp po).2.2.2.2.1), .int ((rzF tb ln m k ps wr wa nx kd sta va sp po).2.2.2.2.2.1), .int ((rzF tb ln m k ps wr wa nx kd sta va sp po).2.2.2.2.2.2.1), .int tld, .ref rd])))) ∧ zat h2 rd = some (.inr (.inr (.inr (0, [.int lk, .int hd, .int ht, .int bl, .int sd, .long rt, .ref (rd + 2), .ref (rd + 4), .ref (rd + 6), .int (nI ((rzF tb ln m k ps wr wa nx kd sta va sp po).2.2.2.2.2.2.2.1)), .ref (rd + 8), .ref (rd + 10), .int (nI so), .ref (rd + 12)])))) ∧ zat h2 (rd + 10) = some (.inr (.inl (8, ((rzF tb ln m k ps wr wa nx kd sta va sp po).2.2.2.2.2.2.2.2)))) ∧ (((rzF tb ln m k ps wr wa nx kd sta va sp po).2.2.2.1) ≤ ln) ∧ ((((rzF tb ln m k ps wr wa nx kd sta va sp po).1)).toInt ≠ 0 → wWay wy (((rzF tb ln m k ps wr wa nx kd sta va sp po).2.2.2.2.2.2.2.1)) so) ∧ ((((rzF tb ln m k ps wr wa nx kd sta va sp po).1)).toInt ≠ 0 → (((rzF tb ln m k ps wr wa nx kd sta va sp po).2.2.2.2.2.2.2.1)) ≤ 8)) := by
  intro m
  induction m with
  | zero => intro k ps wr wa nx kd sta va sp po h hR hT hA hQ hW hk hW9 hms dc ds; omega
  | succ m ih =>
    intro k ps wr wa nx kd sta va sp po h hR hT hA hQ hW hk hW9 hms dc ds
    have qnk := nI_toInt (n := k) (by omega)
    have qnsp := nI_toInt (n := sp) (by omega)
    have z0 : (0 : Int32).toInt = 0 := rfl
    have z1 : (1 : Int32).toInt = 1 := rfl
    refine wq_gos (f := 1) (pc2 := 72) (ls2 := [(0, .ref 4), (1, .int (nI sp)), (2, .long ps), (4, .int (nI k))]) (st2 := [.int 6, .int (nI k)]) (h2 := h) (dc2 := dc) (ds2 := ds) 2 rfl ?_
    try have q1x := nI_toInt (n := k) (by omega)
    have q2x : (6 : Int32).toInt = 6 := rfl
    refine wq_ge2 rfl rfl (fun b3x => ?_) (fun b3x => ?_)
    · refine wq_gos (f := 1) (pc2 := 115) (ls2 := [(0, .ref 4), (1, .int (nI sp)), (2, .long ps), (4, .int (nI k))]) (st2 := [.ref 4]) (h2 := h) (dc2 := dc) (ds2 := ds) 1 rfl ?_
      refine wq_getf rfl hR rfl rfl ?_
      refine wq_getf rfl hA rfl rfl ?_
      refine wq_gos (f := 1) (pc2 := 123) (ls2 := [(0, .ref 4), (1, .int (nI sp)), (2, .long ps), (4, .int (nI k))]) (st2 := [.long ps, .int (nI sp), .ref (rd + 10)]) (h2 := h) (dc2 := dc) (ds2 := ds) 2 rfl ?_
      try have q4x := nI_toInt (n := sp) (by omega)
      refine wq_lastn rfl hQ (by first | omega | exact zin_t (by omega) (by omega)) (by decide) rfl ?_
      intro h5x e6x f7x l8x
      have e6x : zat h5x (rd + 10) = some (.inr (.inl (8, (zset 0 po sp ps)))) := e6x
      refine wq_gos (f := 1) (pc2 := 125) (ls2 := [(0, .ref 4), (1, .int (nI sp)), (2, .long ps), (4, .int (nI k))]) (st2 := [.ref 4]) (h2 := h5x) (dc2 := dc) (ds2 := ds) 1 rfl ?_
      have e9x := (f7x.2 _ _ (wnc (by omega) wn0) hR)
      refine wq_getf rfl e9x rfl rfl ?_
      refine wq_gos (f := 1) (pc2 := 131) (ls2 := [(0, .ref 4), (1, .int (nI sp)), (2, .long ps), (4, .int (nI k))]) (st2 := [.int ((nI sp) + (1 : Int32)), .ref rd]) (h2 := h5x) (dc2 := dc) (ds2 := ds) 3 rfl ?_
      rw [nI_1]
      have e10x := (f7x.2 _ _ (wnc (by omega) wn0) hA)
      refine wq_putf rfl e10x rfl rfl rfl ?_
      intro h11x e12x f13x l14x
      have e12x : zat h11x rd = some (.inr (.inr (.inr (0, [.int lk, .int hd, .int ht, .int bl, .int sd, .long rt, .ref (rd + 2), .ref (rd + 4), .ref (rd + 6), .int (nI (sp + 1)), .ref (rd + 8), .ref (rd + 10), .int (nI so), .ref (rd + 12)])))) := e12x
      refine wq_gos (f := 1) (pc2 := 135) (ls2 := [(0, .ref 4), (1, .int (nI sp)), (2, .long ps), (4, .int (nI k))]) (st2 := [.int 1]) (h2 := h11x) (dc2 := dc) (ds2 := ds) 1 rfl ?_
      have e15x := (f13x.2 _ _ (wnc (by omega) wn0) e9x)
      have e16x := (f13x.2 _ _ (wnc (by omega) wn0) e6x)
      have hx : (rzF tb ln (m + 1) k ps wr wa nx kd sta va sp po) = ((1 : Int32), wr, wa, nx, kd, sta, va, (sp + 1), (zset 0 po sp ps)) := by show (if _ then _ else _) = _; rw [if_pos b3x]
      rw [hx]
      exact wq_ret rfl rfl ⟨h11x, rfl, (wFr_tr (wFr_sub f7x (by simp)) (wFr_sub f13x (by simp))), by omega, e15x, e12x, e16x, (by (try dsimp only); omega), (by (try dsimp only); intro q9; first | exact absurd rfl q9 | exact wWay_sp hW9), (by (try dsimp only); intro q9; first | exact absurd rfl q9 | omega)⟩
    · refine wq_gos (f := 1) (pc2 := 81) (ls2 := [(0, .ref 4), (1, .int (nI sp)), (2, .long ps), (4, .int (nI k))]) (st2 := [.int (nI k), .ref 1, .ref 4]) (h2 := h) (dc2 := dc) (ds2 := ds) 3 rfl ?_
      refine wq_ialdc (n := 6) rfl ⟨rfl, rfl⟩ (by first | omega | exact zin_t (by omega) (by omega)) rfl ?_
      refine wq_gos (f := 1) (pc2 := 87) (ls2 := [(0, .ref 4), (1, .int (nI sp)), (2, .long ps), (4, .int (nI k))]) (st2 := [.int (nI k), .ref 3, .int (zLow.getD ((nI k)).toNatClampNeg 0), .ref 4]) (h2 := h) (dc2 := dc) (ds2 := ds) 2 rfl ?_
      refine wq_ialdc (n := 6) rfl ⟨rfl, rfl⟩ (by first | omega | exact zin_t (by omega) (by omega)) rfl ?_
      refine wq_gos (f := 1) (pc2 := 89) (ls2 := [(0, .ref 4), (1, .int (nI sp)), (2, .long ps), (4, .int (nI k))]) (st2 := [.int 1, .int (zHigh.getD ((nI k)).toNatClampNeg 0), .int (zLow.getD ((nI k)).toNatClampNeg 0), .ref 4]) (h2 := h) (dc2 := dc) (ds2 := ds) 1 rfl ?_
      have q17x : (1 : Int32).toInt = 1 := rfl
      refine wq_inlv (y2 := 55) (as := [.int (zLow.getD ((nI k)).toNatClampNeg 0), .int (zHigh.getD ((nI k)).toNatClampNeg 0), .int 1]) rfl rfl rfl hR rfl (wq_mono (c_rn hR hT (by first | omega | assumption | decide | solve_by_elim) (by first | omega | assumption | decide | solve_by_elim)) ?_)
      rintro _ ⟨h818x, rfl, f818x, l818x, c018x, p018x, p118x⟩
      show wq 52 92 [(0, .ref 4), (1, .int (nI sp)), (2, .long ps), (4, .int (nI k))] [.int ((rnG tb ln wr wa nx kd sta va (zLow.getD ((nI k)).toNatClampNeg 0) (zHigh.getD ((nI k)).toNatClampNeg 0) (1 : Int32)).1)] h818x dc ds _
      obtain ⟨v19x, hv20x⟩ : ∃ x, x = (rnG tb ln wr wa nx kd sta va (zLow.getD ((nI k)).toNatClampNeg 0) (zHigh.getD ((nI k)).toNatClampNeg 0) (1 : Int32)) := ⟨_, rfl⟩
      try rw [← hv20x] at c018x
      try rw [← hv20x] at p018x
      try rw [← hv20x] at p118x
      try rw [← hv20x]
      refine wq_ne0 rfl rfl (fun b21x => ?_) (fun b21x => ?_)
      · have q22x : (v19x.1).toInt ≠ 0 := fun q => b21x (Int32.toInt_inj.mp q)
        refine wq_gos (f := 1) (pc2 := 101) (ls2 := [(0, .ref 4), (1, .int (nI sp)), (2, .long ps), (4, .int (nI k))]) (st2 := [.ref 4, .int (nI k), .long ps]) (h2 := h818x) (dc2 := dc) (ds2 := ds) 3 rfl ?_
        refine wq_getf rfl c018x rfl rfl ?_
        refine wq_inl (y2 := 34) (as := [.long ps, .int (nI k), .int (v19x.2.2.2.2.2.2)]) rfl rfl rfl (wq_mono c_withv ?_)
        rintro _ rfl
        show wq 52 107 [(0, .ref 4), (1, .int (nI sp)), (2, .long ps), (4, .int (nI k))] [.long (jwithv ps (nI k) (v19x.2.2.2.2.2.2))] h818x dc ds _
        refine wq_gos (f := 1) (pc2 := 111) (ls2 := [(4, .int ((nI k) + 1)), (2, .long (jwithv ps (nI k) (v19x.2.2.2.2.2.2))), (0, .ref 4), (1, .int (nI sp))]) (st2 := []) (h2 := h818x) (dc2 := dc) (ds2 := ds) 2 rfl ?_
        rw [nI_1]
        refine wq_gos (f := 1) (pc2 := 68) (ls2 := [(4, .int (nI (k + 1))), (2, .long (jwithv ps (nI k) (v19x.2.2.2.2.2.2))), (0, .ref 4), (1, .int (nI sp))]) (st2 := []) (h2 := h818x) (dc2 := dc) (ds2 := ds) 1 rfl ?_
        try have q24x := nI_toInt (n := (k + 1)) (by omega)
        try have q25x := nI_toInt (n := sp) (by omega)
        have e26x := (f818x.2 _ _ (wnc (by decide) wn0) hT)
        have e27x := (f818x.2 _ _ (wnc (by omega) wn0) hA)
        have e28x := (f818x.2 _ _ (wnc (by omega) wn0) hQ)
        have e29x := (f818x.2 _ _ (wnc (by omega) wn0) hW)
        have hx : (rzF tb ln (m + 1) k ps wr wa nx kd sta va sp po) = (rzF tb ln m (k + 1) (jwithv ps (nI k) (v19x.2.2.2.2.2.2)) (v19x.2.1) (v19x.2.2.1) (v19x.2.2.2.1) (v19x.2.2.2.2.1) (v19x.2.2.2.2.2.1) (v19x.2.2.2.2.2.2) sp po) := by show (if _ then _ else _) = _; rw [if_neg (Int.not_le.mpr b3x), zlet_eq hv20x, if_pos b21x]
        rw [hx]
        refine wq_ls [(0, .ref 4), (1, .int (nI sp)), (2, .long (jwithv ps (nI k) (v19x.2.2.2.2.2.2))), (4, .int (nI (k + 1)))] (show ([0, 1, 2, 4] : List Nat).Nodup by decide) ⟨rfl, rfl, rfl, rfl, trivial⟩ ?_
        refine wq_mono (ih (k + 1) (jwithv ps (nI k) (v19x.2.2.2.2.2.2)) (v19x.2.1) (v19x.2.2.1) (v19x.2.2.2.1) (v19x.2.2.2.2.1) (v19x.2.2.2.2.2.1) (v19x.2.2.2.2.2.2) sp po h818x c018x e26x e27x e28x e29x (by first | omega | assumption | decide | solve_by_elim) (by first | omega | assumption | decide | solve_by_elim) (by omega) dc ds) ?_
        rintro _ ⟨h9, rfl, f9, l9, y0, y1, y2, y3, y4, y5⟩
        exact ⟨h9, rfl, wFr_tr (wFr_sub f818x (by simp)) f9, by omega, y0, y1, y2, y3, y4, y5⟩
      · have q30x : (v19x.1).toInt = 0 := congrArg Int32.toInt b21x
        refine wq_gos (f := 1) (pc2 := 96) (ls2 := [(0, .ref 4), (1, .int (nI sp)), (2, .long ps), (4, .int (nI k))]) (st2 := [.int 0]) (h2 := h818x) (dc2 := dc) (ds2 := ds) 1 rfl ?_
        have e31x := (f818x.2 _ _ (wnc (by omega) wn0) hA)
        have e32x := (f818x.2 _ _ (wnc (by omega) wn0) hQ)
        have hx : (rzF tb ln (m + 1) k ps wr wa nx kd sta va sp po) = ((0 : Int32), (v19x.2.1), (v19x.2.2.1), (v19x.2.2.2.1), (v19x.2.2.2.2.1), (v19x.2.2.2.2.2.1), (v19x.2.2.2.2.2.2), sp, po) := by show (if _ then _ else _) = _; rw [if_neg (Int.not_le.mpr b3x), zlet_eq hv20x, if_neg (fun q => q b21x)]
        rw [hx]
        exact wq_ret rfl rfl ⟨h818x, rfl, (wFr_sub f818x (by simp)), by omega, c018x, e31x, e32x, (by (try dsimp only); omega), (by (try dsimp only); intro q9; first | exact absurd rfl q9 | exact wWay_sp hW9), (by (try dsimp only); intro q9; first | exact absurd rfl q9 | omega)⟩
noncomputable def rzG (tb : List Int32) (ln : Nat) (wr wa : Int32) (nx : Nat) (kd sta va : Int32) (sp : Nat) (nm : List Int32) (po : List Int64) : Int32 × Int32 × Int32 × Nat × Int32 × Int32 × Int32 × Nat × List Int32 × List Int64 := (if (nI sp).toInt < (8 : Int32).toInt then (zlet (rmG tb ln wr wa nx kd sta va) (fun v5x => (if (v5x.1) ≠ (0 : Int32) then (if (snF sp nm (v5x.2.2.2.2.2.2) (sp - 0 + 1) 0) = (-1 : Int32) then (((rzF tb ln ((6 - 0) + 1) 0 (0 : Int64) (v5x.2.1) (v5x.2.2.1) (v5x.2.2.2.1) (v5x.2.2.2.2.1) (v5x.2.2.2.2.2.1) (v5x.2.2.2.2.2.2) sp po).1), ((rzF tb ln ((6 - 0) + 1) 0 (0 : Int64) (v5x.2.1) (v5x.2.2.1) (v5x.2.2.2.1) (v5x.2.2.2.2.1) (v5x.2.2.2.2.2.1) (v5x.2.2.2.2.2.2) sp po).2.1), ((rzF tb ln ((6 - 0) + 1) 0 (0 : Int64) (v5x.2.1) (v5x.2.2.1) (v5x.2.2.2.1) (v5x.2.2.2.2.1) (v5x.2.2.2.2.2.1) (v5x.2.2.2.2.2.2) sp po).2.2.1), ((rzF tb ln ((6 - 0) + 1) 0 (0 : Int64) (v5x.2.1) (v5x.2.2.1) (v5x.2.2.2.1) (v5x.2.2.2.2.1) (v5x.2.2.2.2.2.1) (v5x.2.2.2.2.2.2) sp po).2.2.2.1), ((rzF tb ln ((6 - 0) + 1) 0 (0 : Int64) (v5x.2.1) (v5x.2.2.1) (v5x.2.2.2.1) (v5x.2.2.2.2.1) (v5x.2.2.2.2.2.1) (v5x.2.2.2.2.2.2) sp po).2.2.2.2.1), ((rzF tb ln ((6 - 0) + 1) 0 (0 : Int64) (v5x.2.1) (v5x.2.2.1) (v5x.2.2.2.1) (v5x.2.2.2.2.1) (v5x.2.2.2.2.2.1) (v5x.2.2.2.2.2.2) sp po).2.2.2.2.2.1), ((rzF tb ln ((6 - 0) + 1) 0 (0 : Int64) (v5x.2.1) (v5x.2.2.1) (v5x.2.2.2.1) (v5x.2.2.2.2.1) (v5x.2.2.2.2.2.1) (v5x.2.2.2.2.2.2) sp po).2.2.2.2.2.2.1), ((rzF tb ln ((6 - 0) + 1) 0 (0 : Int64) (v5x.2.1) (v5x.2.2.1) (v5x.2.2.2.1) (v5x.2.2.2.2.1) (v5x.2.2.2.2.2.1) (v5x.2.2.2.2.2.2) sp po).2.2.2.2.2.2.2.1), (zset 0 nm sp (v5x.2.2.2.2.2.2)), ((rzF tb ln ((6 - 0) + 1) 0 (0 : Int64) (v5x.2.1) (v5x.2.2.1) (v5x.2.2.2.1) (v5x.2.2.2.2.1) (v5x.2.2.2.2.2.1) (v5x.2.2.2.2.2.2) sp po).2.2.2.2.2.2.2.2)) else ((0 : Int32), (3 : Int32), (v5x.2.2.2.2.2.1), (v5x.2.2.2.1), (v5x.2.2.2.2.1), (v5x.2.2.2.2.2.1), (v5x.2.2.2.2.2.2), sp, nm, po)) else ((0 : Int32), (v5x.2.1), (v5x.2.2.1), (v5x.2.2.2.1), (v5x.2.2.2.2.1), (v5x.2.2.2.2.2.1), (v5x.2.2.2.2.2.2), sp, nm, po)))) else ((0 : Int32), (2 : Int32), sta, nx, kd, sta, va, sp, nm, po))
set_option maxRecDepth 100000 in
set_option maxHeartbeats 4000000 in
theorem c_rz {h : zH} {ln nx rd : Nat} {wr wa kd sta va tld : Int32} {tb : List Int32} {lk hd ht bl sd : Int32} {rt : Int64} {sp so : Nat} {nm wy : List Int32} {po : List Int64} (hR : zat h 4 = some (.inr (.inr (.inr (4, [.int wr, .int wa, .ref 2, .int (nI ln), .int (nI nx), .int kd, .int sta, .int va, .int tld, .ref rd]))))) (hT : zat h 2 = some (.inl (1, 700, tb))) (hA : zat h rd = some (.inr (.inr (.inr (0, [.int lk, .int hd, .int ht, .int bl, .int sd, .long rt, .ref (rd + 2), .ref (rd + 4), .ref (rd + 6), .int (nI sp), .ref (rd + 8), .ref (rd + 10), .int (nI so), .ref (rd + 12)]))))) (hN : zat h (rd + 8) = some (.inl (0, 8, nm))) (hQ : zat h (rd + 10) = some (.inr (.inl (8, po)))) (hW : zat h (rd + 12) = some (.inl (0, 10, wy))) (hln : ln ≤ 700) (hn : nx ≤ ln) (hrd : rd = 6 ∨ rd = 20) (hW9 : wWay wy sp so) (hsp : sp ≤ 8) : wq 52 0 [(0, .ref 4)] [] h 0 0 (fun rr9 => ∃ (h2 : zH), rr9 = (some (.int ((rzG tb ln wr wa nx kd sta va sp nm po).1)), h2, 0, 0) ∧ wFr [4, rd, (rd + 8), (rd + 10)] h h2 ∧ h2.length = h.length ∧ zat h2 4 = some (.inr (.inr (.inr (4, [.int ((rzG tb ln wr wa nx kd sta va sp nm po).2.1), .int ((rzG tb ln wr wa nx kd sta va sp nm po).2.2.1), .ref 2, .int (nI ln), .int (nI ((rzG tb ln wr wa nx kd sta va sp nm po).2.2.2.1)), .int ((rzG tb ln wr wa nx kd sta va sp nm po).2.2.2.2.1), .int ((rzG tb ln wr wa nx kd sta va sp nm po).2.2.2.2.2.1), .int ((rzG tb ln wr wa nx kd sta va sp nm po).2.2.2.2.2.2.1), .int tld, .ref rd])))) ∧ zat h2 rd = some (.inr (.inr (.inr (0, [.int lk, .int hd, .int ht, .int bl, .int sd, .long rt, .ref (rd + 2), .ref (rd + 4), .ref (rd + 6), .int (nI ((rzG tb ln wr wa nx kd sta va sp nm po).2.2.2.2.2.2.2.1)), .ref (rd + 8), .ref (rd + 10), .int (nI so), .ref (rd + 12)])))) ∧ zat h2 (rd + 8) = some (.inl (0, 8, ((rzG tb ln wr wa nx kd sta va sp nm po).2.2.2.2.2.2.2.2.1))) ∧ zat h2 (rd + 10) = some (.inr (.inl (8, ((rzG tb ln wr wa nx kd sta va sp nm po).2.2.2.2.2.2.2.2.2)))) ∧ ((((rzG tb ln wr wa nx kd sta va sp nm po).2.2.2.1) ≤ ln)) ∧ (((((rzG tb ln wr wa nx kd sta va sp nm po).1)).toInt ≠ 0 → wWay wy (((rzG tb ln wr wa nx kd sta va sp nm po).2.2.2.2.2.2.2.1)) so)) ∧ (((((rzG tb ln wr wa nx kd sta va sp nm po).1)).toInt ≠ 0 → (((rzG tb ln wr wa nx kd sta va sp nm po).2.2.2.2.2.2.2.1)) ≤ 8))) := by
  have qnsp := nI_toInt (n := sp) (by omega)
  have z0 : (0 : Int32).toInt = 0 := rfl
  have z1 : (1 : Int32).toInt = 1 := rfl
  have z8 : (8 : Int32).toInt = 8 := rfl
  refine wq_gos (f := 1) (pc2 := 1) (ls2 := [(0, .ref 4)]) (st2 := [.ref 4]) (h2 := h) (dc2 := 0) (ds2 := 0) 1 rfl ?_
  refine wq_getf rfl hR rfl rfl ?_
  refine wq_getf rfl hA rfl rfl ?_
  refine wq_gos (f := 1) (pc2 := 11) (ls2 := [(1, .int (nI sp)), (0, .ref 4)]) (st2 := [.int 8, .int (nI sp)]) (h2 := h) (dc2 := 0) (ds2 := 0) 3 rfl ?_
  try have q1x := nI_toInt (n := sp) (by omega)
  have q2x : (8 : Int32).toInt = 8 := rfl
  refine wq_lt2 rfl rfl (fun b3x => ?_) (fun b3x => ?_)
  · refine wq_gos (f := 1) (pc2 := 21) (ls2 := [(1, .int (nI sp)), (0, .ref 4)]) (st2 := [.ref 4]) (h2 := h) (dc2 := 0) (ds2 := 0) 1 rfl ?_
    refine wq_inlv (y2 := 54) (as := []) rfl rfl rfl hR rfl (wq_mono (c_rm hR hT (by first | omega | assumption | decide | solve_by_elim) (by first | omega | assumption | decide | solve_by_elim)) ?_)
    rintro _ ⟨h84x, rfl, f84x, l84x, c04x, p04x⟩
    show wq 52 24 [(1, .int (nI sp)), (0, .ref 4)] [.int ((rmG tb ln wr wa nx kd sta va).1)] h84x 0 0 _
    obtain ⟨v5x, hv6x⟩ : ∃ x, x = (rmG tb ln wr wa nx kd sta va) := ⟨_, rfl⟩
    try rw [← hv6x] at c04x
    try rw [← hv6x] at p04x
    try rw [← hv6x]
    refine wq_ne0 rfl rfl (fun b7x => ?_) (fun b7x => ?_)
    · have q8x : (v5x.1).toInt ≠ 0 := fun q => b7x (Int32.toInt_inj.mp q)
      refine wq_gos (f := 1) (pc2 := 30) (ls2 := [(1, .int (nI sp)), (0, .ref 4)]) (st2 := [.ref 4]) (h2 := h84x) (dc2 := 0) (ds2 := 0) 1 rfl ?_
      refine wq_getf rfl c04x rfl rfl ?_
      refine wq_gos (f := 1) (pc2 := 34) (ls2 := [(1, .int (nI sp)), (0, .ref 4)]) (st2 := [.ref 4, .ref rd]) (h2 := h84x) (dc2 := 0) (ds2 := 0) 1 rfl ?_
      refine wq_getf rfl c04x rfl rfl ?_
      have e9x := (f84x.2 _ _ (wnc (by omega) wn0) hA)
      have e10x := (f84x.2 _ _ (wnc (by omega) wn0) hN)
      refine wq_inlv (y2 := 2) (as := [.int (v5x.2.2.2.2.2.2)]) rfl rfl rfl e9x rfl (wq_mono (c_sn e9x e10x (by first | omega | assumption | decide | solve_by_elim)) ?_)
      rintro _ rfl
      show wq 52 40 [(1, .int (nI sp)), (0, .ref 4)] [.int (snF sp nm (v5x.2.2.2.2.2.2) (sp - 0 + 1) 0)] h84x 0 0 _
      refine wq_gos (f := 1) (pc2 := 41) (ls2 := [(1, .int (nI sp)), (0, .ref 4)]) (st2 := [.int (-1), .int (snF sp nm (v5x.2.2.2.2.2.2) (sp - 0 + 1) 0)]) (h2 := h84x) (dc2 := 0) (ds2 := 0) 1 rfl ?_
      have q12x : (-1 : Int32).toInt = -1 := rfl
      refine wq_eq2 rfl rfl (fun b13x => ?_) (fun b13x => ?_)
      · have q14x : (snF sp nm (v5x.2.2.2.2.2.2) (sp - 0 + 1) 0).toInt = -1 := congrArg Int32.toInt b13x
        refine wq_gos (f := 1) (pc2 := 51) (ls2 := [(1, .int (nI sp)), (0, .ref 4)]) (st2 := [.ref 4]) (h2 := h84x) (dc2 := 0) (ds2 := 0) 1 rfl ?_
        refine wq_getf rfl c04x rfl rfl ?_
        refine wq_getf rfl e9x rfl rfl ?_
        refine wq_gos (f := 1) (pc2 := 59) (ls2 := [(1, .int (nI sp)), (0, .ref 4)]) (st2 := [.ref 4, .int (nI sp), .ref (rd + 8)]) (h2 := h84x) (dc2 := 0) (ds2 := 0) 2 rfl ?_
        refine wq_getf rfl c04x rfl rfl ?_
        refine wq_iastn rfl e10x (by first | omega | exact zin_t (by omega) (by omega)) (by decide) rfl ?_
        intro h15x e16x f17x l18x
        have e16x : zat h15x (rd + 8) = some (.inl (0, 8, (zset 0 nm sp (v5x.2.2.2.2.2.2)))) := e16x
        refine wq_gos (f := 1) (pc2 := 68) (ls2 := [(4, .int 0), (2, .long 0), (1, .int (nI sp)), (0, .ref 4)]) (st2 := []) (h2 := h15x) (dc2 := 0) (ds2 := 0) 4 rfl ?_
        have e19x := (f17x.2 _ _ (wnc (by omega) wn0) c04x)
        have e20x := (f17x.2 _ _ (wnc (by omega) wn0) (f84x.2 _ _ (wnc (by decide) wn0) hT))
        have e21x := (f17x.2 _ _ (wnc (by omega) wn0) e9x)
        have e22x := (f17x.2 _ _ (wnc (by omega) wn0) (f84x.2 _ _ (wnc (by omega) wn0) hQ))
        have e23x := (f17x.2 _ _ (wnc (by omega) wn0) (f84x.2 _ _ (wnc (by omega) wn0) hW))
        refine wq_ls [(0, .ref 4), (1, .int (nI sp)), (2, .long (0 : Int64)), (4, .int (nI 0))] (show ([0, 1, 2, 4] : List Nat).Nodup by decide) ⟨rfl, rfl, rfl, rfl, trivial⟩ ?_
        refine wq_mono (c_rzL (by first | omega | assumption | decide | solve_by_elim) (by first | omega | assumption | decide | solve_by_elim) ((6 - 0) + 1) 0 (0 : Int64) (v5x.2.1) (v5x.2.2.1) (v5x.2.2.2.1) (v5x.2.2.2.2.1) (v5x.2.2.2.2.2.1) (v5x.2.2.2.2.2.2) sp po h15x e19x e20x e21x e22x e23x (by first | omega | assumption | decide | solve_by_elim) (by first | omega | assumption | decide | solve_by_elim) (by omega) 0 0) ?_
        rintro _ ⟨h824x, rfl, f824x, l824x, c024x, c124x, c224x, c324x, c424x, c524x⟩
        have e25x := (f824x.2 _ _ (wnc (by omega) (wnc (by omega) (wnc (by omega) wn0))) e16x)
        have hx : (rzG tb ln wr wa nx kd sta va sp nm po) = (((rzF tb ln ((6 - 0) + 1) 0 (0 : Int64) (v5x.2.1) (v5x.2.2.1) (v5x.2.2.2.1) (v5x.2.2.2.2.1) (v5x.2.2.2.2.2.1) (v5x.2.2.2.2.2.2) sp po).1), ((rzF tb ln ((6 - 0) + 1) 0 (0 : Int64) (v5x.2.1) (v5x.2.2.1) (v5x.2.2.2.1) (v5x.2.2.2.2.1) (v5x.2.2.2.2.2.1) (v5x.2.2.2.2.2.2) sp po).2.1), ((rzF tb ln ((6 - 0) + 1) 0 (0 : Int64) (v5x.2.1) (v5x.2.2.1) (v5x.2.2.2.1) (v5x.2.2.2.2.1) (v5x.2.2.2.2.2.1) (v5x.2.2.2.2.2.2) sp po).2.2.1), ((rzF tb ln ((6 - 0) + 1) 0 (0 : Int64) (v5x.2.1) (v5x.2.2.1) (v5x.2.2.2.1) (v5x.2.2.2.2.1) (v5x.2.2.2.2.2.1) (v5x.2.2.2.2.2.2) sp po).2.2.2.1), ((rzF tb ln ((6 - 0) + 1) 0 (0 : Int64) (v5x.2.1) (v5x.2.2.1) (v5x.2.2.2.1) (v5x.2.2.2.2.1) (v5x.2.2.2.2.2.1) (v5x.2.2.2.2.2.2) sp po).2.2.2.2.1), ((rzF tb ln ((6 - 0) + 1) 0 (0 : Int64) (v5x.2.1) (v5x.2.2.1) (v5x.2.2.2.1) (v5x.2.2.2.2.1) (v5x.2.2.2.2.2.1) (v5x.2.2.2.2.2.2) sp po).2.2.2.2.2.1), ((rzF tb ln ((6 - 0) + 1) 0 (0 : Int64) (v5x.2.1) (v5x.2.2.1) (v5x.2.2.2.1) (v5x.2.2.2.2.1) (v5x.2.2.2.2.2.1) (v5x.2.2.2.2.2.2) sp po).2.2.2.2.2.2.1), ((rzF tb ln ((6 - 0) + 1) 0 (0 : Int64) (v5x.2.1) (v5x.2.2.1) (v5x.2.2.2.1) (v5x.2.2.2.2.1) (v5x.2.2.2.2.2.1) (v5x.2.2.2.2.2.2) sp po).2.2.2.2.2.2.2.1), (zset 0 nm sp (v5x.2.2.2.2.2.2)), ((rzF tb ln ((6 - 0) + 1) 0 (0 : Int64) (v5x.2.1) (v5x.2.2.1) (v5x.2.2.2.1) (v5x.2.2.2.2.1) (v5x.2.2.2.2.2.1) (v5x.2.2.2.2.2.2) sp po).2.2.2.2.2.2.2.2)) := by unfold rzG; rw [if_pos b3x, zlet_eq hv6x, if_pos b7x, if_pos b13x]
        rw [hx]
        exact ⟨h824x, rfl, (wFr_tr (wFr_sub f84x (by simp)) (wFr_tr (wFr_sub f17x (by simp)) (wFr_sub f824x (by simp)))), by omega, c024x, c124x, e25x, c224x, (by first | ((try dsimp only); omega) | assumption | ((try dsimp only); intro q9; first | omega | exact absurd rfl q9 | assumption)), (by first | ((try dsimp only); omega) | assumption | ((try dsimp only); intro q9; first | omega | exact absurd rfl q9 | assumption)), (by first | ((try dsimp only); omega) | assumption | ((try dsimp only); intro q9; first | omega | exact absurd rfl q9 | assumption))⟩
      · have q26x : (snF sp nm (v5x.2.2.2.2.2.2) (sp - 0 + 1) 0).toInt ≠ -1 := fun q => b13x (Int32.toInt_inj.mp q)
        refine wq_gos (f := 1) (pc2 := 46) (ls2 := [(1, .int (nI sp)), (0, .ref 4)]) (st2 := [.int 3, .ref 4]) (h2 := h84x) (dc2 := 0) (ds2 := 0) 2 rfl ?_
        have q27x : (3 : Int32).toInt = 3 := rfl
        refine wq_inlv (y2 := 45) (as := [.int 3]) rfl rfl rfl c04x rfl (wq_mono (c_ref c04x) ?_)
        rintro _ ⟨h828x, rfl, f828x, l828x, c028x⟩
        show wq 52 49 [(1, .int (nI sp)), (0, .ref 4)] [.int 0] h828x 0 0 _
        have e29x := (f828x.2 _ _ (wnc (by omega) wn0) e9x)
        have e30x := (f828x.2 _ _ (wnc (by omega) wn0) e10x)
        have e31x := (f828x.2 _ _ (wnc (by omega) wn0) (f84x.2 _ _ (wnc (by omega) wn0) hQ))
        have hx : (rzG tb ln wr wa nx kd sta va sp nm po) = ((0 : Int32), (3 : Int32), (v5x.2.2.2.2.2.1), (v5x.2.2.2.1), (v5x.2.2.2.2.1), (v5x.2.2.2.2.2.1), (v5x.2.2.2.2.2.2), sp, nm, po) := by unfold rzG; rw [if_pos b3x, zlet_eq hv6x, if_pos b7x, if_neg b13x]
        rw [hx]
        exact wq_ret rfl rfl ⟨h828x, rfl, (wFr_tr (wFr_sub f84x (by simp)) (wFr_sub f828x (by simp))), by omega, c028x, e29x, e30x, e31x, (by first | ((try dsimp only); omega) | assumption | ((try dsimp only); intro q9; first | omega | exact absurd rfl q9 | assumption)), (by first | ((try dsimp only); omega) | assumption | ((try dsimp only); intro q9; first | omega | exact absurd rfl q9 | assumption)), (by first | ((try dsimp only); omega) | assumption | ((try dsimp only); intro q9; first | omega | exact absurd rfl q9 | assumption))⟩
    · have q32x : (v5x.1).toInt = 0 := congrArg Int32.toInt b7x
      refine wq_gos (f := 1) (pc2 := 28) (ls2 := [(1, .int (nI sp)), (0, .ref 4)]) (st2 := [.int 0]) (h2 := h84x) (dc2 := 0) (ds2 := 0) 1 rfl ?_
      have e33x := (f84x.2 _ _ (wnc (by omega) wn0) hA)
      have e34x := (f84x.2 _ _ (wnc (by omega) wn0) hN)
      have e35x := (f84x.2 _ _ (wnc (by omega) wn0) hQ)
      have hx : (rzG tb ln wr wa nx kd sta va sp nm po) = ((0 : Int32), (v5x.2.1), (v5x.2.2.1), (v5x.2.2.2.1), (v5x.2.2.2.2.1), (v5x.2.2.2.2.2.1), (v5x.2.2.2.2.2.2), sp, nm, po) := by unfold rzG; rw [if_pos b3x, zlet_eq hv6x, if_neg (fun q => q b7x)]
      rw [hx]
      exact wq_ret rfl rfl ⟨h84x, rfl, (wFr_sub f84x (by simp)), by omega, c04x, e33x, e34x, e35x, (by first | ((try dsimp only); omega) | assumption | ((try dsimp only); intro q9; first | omega | exact absurd rfl q9 | assumption)), (by first | ((try dsimp only); omega) | assumption | ((try dsimp only); intro q9; first | omega | exact absurd rfl q9 | assumption)), (by first | ((try dsimp only); omega) | assumption | ((try dsimp only); intro q9; first | omega | exact absurd rfl q9 | assumption))⟩
  · refine wq_gos (f := 1) (pc2 := 16) (ls2 := [(1, .int (nI sp)), (0, .ref 4)]) (st2 := [.int 2, .ref 4]) (h2 := h) (dc2 := 0) (ds2 := 0) 2 rfl ?_
    have q36x : (2 : Int32).toInt = 2 := rfl
    refine wq_inlv (y2 := 45) (as := [.int 2]) rfl rfl rfl hR rfl (wq_mono (c_ref hR) ?_)
    rintro _ ⟨h837x, rfl, f837x, l837x, c037x⟩
    show wq 52 19 [(1, .int (nI sp)), (0, .ref 4)] [.int 0] h837x 0 0 _
    have e38x := (f837x.2 _ _ (wnc (by omega) wn0) hA)
    have e39x := (f837x.2 _ _ (wnc (by omega) wn0) hN)
    have e40x := (f837x.2 _ _ (wnc (by omega) wn0) hQ)
    have hx : (rzG tb ln wr wa nx kd sta va sp nm po) = ((0 : Int32), (2 : Int32), sta, nx, kd, sta, va, sp, nm, po) := by unfold rzG; rw [if_neg (Int.not_lt.mpr b3x)]
    rw [hx]
    exact wq_ret rfl rfl ⟨h837x, rfl, (wFr_sub f837x (by simp)), by omega, c037x, e38x, e39x, e40x, (by first | ((try dsimp only); omega) | assumption | ((try dsimp only); intro q9; first | omega | exact absurd rfl q9 | assumption)), (by first | ((try dsimp only); omega) | assumption | ((try dsimp only); intro q9; first | omega | exact absurd rfl q9 | assumption)), (by first | ((try dsimp only); omega) | assumption | ((try dsimp only); intro q9; first | omega | exact absurd rfl q9 | assumption))⟩
noncomputable def rgG (tb : List Int32) (ln : Nat) (wr wa : Int32) (nx : Nat) (kd sta va : Int32) (sp : Nat) (nm : List Int32) (so : Nat) (wy : List Int32) : Int32 × Int32 × Int32 × Nat × Int32 × Int32 × Int32 × Nat × List Int32 := (if (nI so).toInt < (10 : Int32).toInt then (zlet (rmG tb ln wr wa nx kd sta va) (fun v5x => (if (v5x.1) ≠ (0 : Int32) then (if (snF sp nm (v5x.2.2.2.2.2.2) (sp - 0 + 1) 0) ≠ (-1 : Int32) then ((1 : Int32), (v5x.2.1), (v5x.2.2.1), (v5x.2.2.2.1), (v5x.2.2.2.2.1), (v5x.2.2.2.2.2.1), (v5x.2.2.2.2.2.2), (so + 1), (zset 0 wy so (snF sp nm (v5x.2.2.2.2.2.2) (sp - 0 + 1) 0))) else ((0 : Int32), (4 : Int32), (v5x.2.2.2.2.2.1), (v5x.2.2.2.1), (v5x.2.2.2.2.1), (v5x.2.2.2.2.2.1), (v5x.2.2.2.2.2.2), so, wy)) else ((0 : Int32), (v5x.2.1), (v5x.2.2.1), (v5x.2.2.2.1), (v5x.2.2.2.2.1), (v5x.2.2.2.2.2.1), (v5x.2.2.2.2.2.2), so, wy)))) else ((0 : Int32), (2 : Int32), sta, nx, kd, sta, va, so, wy))
set_option maxRecDepth 100000 in
set_option maxHeartbeats 4000000 in
theorem c_rg {h : zH} {ln nx rd : Nat} {wr wa kd sta va tld : Int32} {tb : List Int32} {lk hd ht bl sd : Int32} {rt : Int64} {sp so : Nat} {nm wy : List Int32} (hR : zat h 4 = some (.inr (.inr (.inr (4, [.int wr, .int wa, .ref 2, .int (nI ln), .int (nI nx), .int kd, .int sta, .int va, .int tld, .ref rd]))))) (hT : zat h 2 = some (.inl (1, 700, tb))) (hA : zat h rd = some (.inr (.inr (.inr (0, [.int lk, .int hd, .int ht, .int bl, .int sd, .long rt, .ref (rd + 2), .ref (rd + 4), .ref (rd + 6), .int (nI sp), .ref (rd + 8), .ref (rd + 10), .int (nI so), .ref (rd + 12)]))))) (hN : zat h (rd + 8) = some (.inl (0, 8, nm))) (hW : zat h (rd + 12) = some (.inl (0, 10, wy))) (hln : ln ≤ 700) (hn : nx ≤ ln) (hrd : rd = 6 ∨ rd = 20) (hW9 : wWay wy sp so) (hsp : sp ≤ 8) : wq 53 0 [(0, .ref 4)] [] h 0 0 (fun rr9 => ∃ (h2 : zH), rr9 = (some (.int ((rgG tb ln wr wa nx kd sta va sp nm so wy).1)), h2, 0, 0) ∧ wFr [4, rd, (rd + 12)] h h2 ∧ h2.length = h.length ∧ zat h2 4 = some (.inr (.inr (.inr (4, [.int ((rgG tb ln wr wa nx kd sta va sp nm so wy).2.1), .int ((rgG tb ln wr wa nx kd sta va sp nm so wy).2.2.1), .ref 2, .int (nI ln), .int (nI ((rgG tb ln wr wa nx kd sta va sp nm so wy).2.2.2.1)), .int ((rgG tb ln wr wa nx kd sta va sp nm so wy).2.2.2.2.1), .int ((rgG tb ln wr wa nx kd sta va sp nm so wy).2.2.2.2.2.1), .int ((rgG tb ln wr wa nx kd sta va sp nm so wy).2.2.2.2.2.2.1), .int tld, .ref rd])))) ∧ zat h2 rd = some (.inr (.inr (.inr (0, [.int lk, .int hd, .int ht, .int bl, .int sd, .long rt, .ref (rd + 2), .ref (rd + 4), .ref (rd + 6), .int (nI sp), .ref (rd + 8), .ref (rd + 10), .int (nI ((rgG tb ln wr wa nx kd sta va sp nm so wy).2.2.2.2.2.2.2.1)), .ref (rd + 12)])))) ∧ zat h2 (rd + 12) = some (.inl (0, 10, ((rgG tb ln wr wa nx kd sta va sp nm so wy).2.2.2.2.2.2.2.2))) ∧ ((((rgG tb ln wr wa nx kd sta va sp nm so wy).2.2.2.1) ≤ ln)) ∧ (((((rgG tb ln wr wa nx kd sta va sp nm so wy).1)).toInt ≠ 0 → wWay (((rgG tb ln wr wa nx kd sta va sp nm so wy).2.2.2.2.2.2.2.2)) sp (((rgG tb ln wr wa nx kd sta va sp nm so wy).2.2.2.2.2.2.2.1))))) := by
  have hso := hW9.1
  have qnso := nI_toInt (n := so) (by omega)
  have z0 : (0 : Int32).toInt = 0 := rfl
  have z1 : (1 : Int32).toInt = 1 := rfl
  have z10 : (10 : Int32).toInt = 10 := rfl
  refine wq_gos (f := 1) (pc2 := 1) (ls2 := [(0, .ref 4)]) (st2 := [.ref 4]) (h2 := h) (dc2 := 0) (ds2 := 0) 1 rfl ?_
  refine wq_getf rfl hR rfl rfl ?_
  refine wq_getf rfl hA rfl rfl ?_
  refine wq_gos (f := 1) (pc2 := 11) (ls2 := [(1, .int (nI so)), (0, .ref 4)]) (st2 := [.int 10, .int (nI so)]) (h2 := h) (dc2 := 0) (ds2 := 0) 3 rfl ?_
  try have q1x := nI_toInt (n := so) (by omega)
  have q2x : (10 : Int32).toInt = 10 := rfl
  refine wq_lt2 rfl rfl (fun b3x => ?_) (fun b3x => ?_)
  · refine wq_gos (f := 1) (pc2 := 21) (ls2 := [(1, .int (nI so)), (0, .ref 4)]) (st2 := [.ref 4]) (h2 := h) (dc2 := 0) (ds2 := 0) 1 rfl ?_
    refine wq_inlv (y2 := 54) (as := []) rfl rfl rfl hR rfl (wq_mono (c_rm hR hT (by first | omega | assumption | decide | solve_by_elim) (by first | omega | assumption | decide | solve_by_elim)) ?_)
    rintro _ ⟨h84x, rfl, f84x, l84x, c04x, p04x⟩
    show wq 53 24 [(1, .int (nI so)), (0, .ref 4)] [.int ((rmG tb ln wr wa nx kd sta va).1)] h84x 0 0 _
    obtain ⟨v5x, hv6x⟩ : ∃ x, x = (rmG tb ln wr wa nx kd sta va) := ⟨_, rfl⟩
    try rw [← hv6x] at c04x
    try rw [← hv6x] at p04x
    try rw [← hv6x]
    refine wq_ne0 rfl rfl (fun b7x => ?_) (fun b7x => ?_)
    · have q8x : (v5x.1).toInt ≠ 0 := fun q => b7x (Int32.toInt_inj.mp q)
      refine wq_gos (f := 1) (pc2 := 30) (ls2 := [(1, .int (nI so)), (0, .ref 4)]) (st2 := [.ref 4]) (h2 := h84x) (dc2 := 0) (ds2 := 0) 1 rfl ?_
      refine wq_getf rfl c04x rfl rfl ?_
      refine wq_gos (f := 1) (pc2 := 34) (ls2 := [(1, .int (nI so)), (0, .ref 4)]) (st2 := [.ref 4, .ref rd]) (h2 := h84x) (dc2 := 0) (ds2 := 0) 1 rfl ?_
      refine wq_getf rfl c04x rfl rfl ?_
      have e9x := (f84x.2 _ _ (wnc (by omega) wn0) hA)
      have e10x := (f84x.2 _ _ (wnc (by omega) wn0) hN)
      refine wq_inlv (y2 := 2) (as := [.int (v5x.2.2.2.2.2.2)]) rfl rfl rfl e9x rfl (wq_mono (c_sn e9x e10x (by first | omega | assumption | decide | solve_by_elim)) ?_)
      rintro _ rfl
      show wq 53 40 [(1, .int (nI so)), (0, .ref 4)] [.int (snF sp nm (v5x.2.2.2.2.2.2) (sp - 0 + 1) 0)] h84x 0 0 _
      refine wq_gos (f := 1) (pc2 := 43) (ls2 := [(2, .int (snF sp nm (v5x.2.2.2.2.2.2) (sp - 0 + 1) 0)), (1, .int (nI so)), (0, .ref 4)]) (st2 := [.int (-1), .int (snF sp nm (v5x.2.2.2.2.2.2) (sp - 0 + 1) 0)]) (h2 := h84x) (dc2 := 0) (ds2 := 0) 3 rfl ?_
      have q12x : (-1 : Int32).toInt = -1 := rfl
      refine wq_ne2 rfl rfl (fun b13x => ?_) (fun b13x => ?_)
      · have q14x : (snF sp nm (v5x.2.2.2.2.2.2) (sp - 0 + 1) 0).toInt ≠ -1 := fun q => b13x (Int32.toInt_inj.mp q)
        refine wq_gos (f := 1) (pc2 := 53) (ls2 := [(2, .int (snF sp nm (v5x.2.2.2.2.2.2) (sp - 0 + 1) 0)), (1, .int (nI so)), (0, .ref 4)]) (st2 := [.ref 4]) (h2 := h84x) (dc2 := 0) (ds2 := 0) 1 rfl ?_
        refine wq_getf rfl c04x rfl rfl ?_
        refine wq_getf rfl e9x rfl rfl ?_
        refine wq_gos (f := 1) (pc2 := 61) (ls2 := [(2, .int (snF sp nm (v5x.2.2.2.2.2.2) (sp - 0 + 1) 0)), (1, .int (nI so)), (0, .ref 4)]) (st2 := [.int (snF sp nm (v5x.2.2.2.2.2.2) (sp - 0 + 1) 0), .int (nI so), .ref (rd + 12)]) (h2 := h84x) (dc2 := 0) (ds2 := 0) 2 rfl ?_
        have e15x := (f84x.2 _ _ (wnc (by omega) wn0) hW)
        refine wq_iastn rfl e15x (by first | omega | exact zin_t (by omega) (by omega)) (by decide) rfl ?_
        intro h16x e17x f18x l19x
        have e17x : zat h16x (rd + 12) = some (.inl (0, 10, (zset 0 wy so (snF sp nm (v5x.2.2.2.2.2.2) (sp - 0 + 1) 0)))) := e17x
        refine wq_gos (f := 1) (pc2 := 63) (ls2 := [(2, .int (snF sp nm (v5x.2.2.2.2.2.2) (sp - 0 + 1) 0)), (1, .int (nI so)), (0, .ref 4)]) (st2 := [.ref 4]) (h2 := h16x) (dc2 := 0) (ds2 := 0) 1 rfl ?_
        have e20x := (f18x.2 _ _ (wnc (by omega) wn0) c04x)
        refine wq_getf rfl e20x rfl rfl ?_
        refine wq_gos (f := 1) (pc2 := 69) (ls2 := [(2, .int (snF sp nm (v5x.2.2.2.2.2.2) (sp - 0 + 1) 0)), (1, .int (nI so)), (0, .ref 4)]) (st2 := [.int ((nI so) + (1 : Int32)), .ref rd]) (h2 := h16x) (dc2 := 0) (ds2 := 0) 3 rfl ?_
        rw [nI_1]
        have e21x := (f18x.2 _ _ (wnc (by omega) wn0) e9x)
        refine wq_putf rfl e21x rfl rfl rfl ?_
        intro h22x e23x f24x l25x
        have e23x : zat h22x rd = some (.inr (.inr (.inr (0, [.int lk, .int hd, .int ht, .int bl, .int sd, .long rt, .ref (rd + 2), .ref (rd + 4), .ref (rd + 6), .int (nI sp), .ref (rd + 8), .ref (rd + 10), .int (nI (so + 1)), .ref (rd + 12)])))) := e23x
        refine wq_gos (f := 1) (pc2 := 73) (ls2 := [(2, .int (snF sp nm (v5x.2.2.2.2.2.2) (sp - 0 + 1) 0)), (1, .int (nI so)), (0, .ref 4)]) (st2 := [.int 1]) (h2 := h22x) (dc2 := 0) (ds2 := 0) 1 rfl ?_
        have e26x := (f24x.2 _ _ (wnc (by omega) wn0) e20x)
        have e27x := (f24x.2 _ _ (wnc (by omega) wn0) e17x)
        have hx : (rgG tb ln wr wa nx kd sta va sp nm so wy) = ((1 : Int32), (v5x.2.1), (v5x.2.2.1), (v5x.2.2.2.1), (v5x.2.2.2.2.1), (v5x.2.2.2.2.2.1), (v5x.2.2.2.2.2.2), (so + 1), (zset 0 wy so (snF sp nm (v5x.2.2.2.2.2.2) (sp - 0 + 1) 0))) := by unfold rgG; rw [if_pos b3x, zlet_eq hv6x, if_pos b7x, if_pos b13x]
        rw [hx]
        exact wq_ret rfl rfl ⟨h22x, rfl, (wFr_tr (wFr_sub f84x (by simp)) (wFr_tr (wFr_sub f18x (by simp)) (wFr_sub f24x (by simp)))), by omega, e26x, e23x, e27x, (by first | ((try dsimp only); omega) | assumption | ((try dsimp only); intro q9; first | omega | exact absurd rfl q9 | assumption) | ((intro q9; obtain ⟨w9, a9, b9⟩ := snF_w (by omega) rfl (by assumption); rw [a9]; exact wWay_set hW9 (by omega) b9))), (by first | ((try dsimp only); omega) | assumption | ((try dsimp only); intro q9; first | omega | exact absurd rfl q9 | assumption) | ((intro q9; obtain ⟨w9, a9, b9⟩ := snF_w (by omega) rfl (by assumption); rw [a9]; exact wWay_set hW9 (by omega) b9)))⟩
      · have q28x : (snF sp nm (v5x.2.2.2.2.2.2) (sp - 0 + 1) 0).toInt = -1 := congrArg Int32.toInt b13x
        refine wq_gos (f := 1) (pc2 := 48) (ls2 := [(2, .int (snF sp nm (v5x.2.2.2.2.2.2) (sp - 0 + 1) 0)), (1, .int (nI so)), (0, .ref 4)]) (st2 := [.int 4, .ref 4]) (h2 := h84x) (dc2 := 0) (ds2 := 0) 2 rfl ?_
        have q29x : (4 : Int32).toInt = 4 := rfl
        refine wq_inlv (y2 := 45) (as := [.int 4]) rfl rfl rfl c04x rfl (wq_mono (c_ref c04x) ?_)
        rintro _ ⟨h830x, rfl, f830x, l830x, c030x⟩
        show wq 53 51 [(2, .int (snF sp nm (v5x.2.2.2.2.2.2) (sp - 0 + 1) 0)), (1, .int (nI so)), (0, .ref 4)] [.int 0] h830x 0 0 _
        have e31x := (f830x.2 _ _ (wnc (by omega) wn0) e9x)
        have e32x := (f830x.2 _ _ (wnc (by omega) wn0) (f84x.2 _ _ (wnc (by omega) wn0) hW))
        have hx : (rgG tb ln wr wa nx kd sta va sp nm so wy) = ((0 : Int32), (4 : Int32), (v5x.2.2.2.2.2.1), (v5x.2.2.2.1), (v5x.2.2.2.2.1), (v5x.2.2.2.2.2.1), (v5x.2.2.2.2.2.2), so, wy) := by unfold rgG; rw [if_pos b3x, zlet_eq hv6x, if_pos b7x, if_neg (fun q => q b13x)]
        rw [hx]
        exact wq_ret rfl rfl ⟨h830x, rfl, (wFr_tr (wFr_sub f84x (by simp)) (wFr_sub f830x (by simp))), by omega, c030x, e31x, e32x, (by first | ((try dsimp only); omega) | assumption | ((try dsimp only); intro q9; first | omega | exact absurd rfl q9 | assumption) | ((intro q9; obtain ⟨w9, a9, b9⟩ := snF_w (by omega) rfl (by assumption); rw [a9]; exact wWay_set hW9 (by omega) b9))), (by first | ((try dsimp only); omega) | assumption | ((try dsimp only); intro q9; first | omega | exact absurd rfl q9 | assumption) | ((intro q9; obtain ⟨w9, a9, b9⟩ := snF_w (by omega) rfl (by assumption); rw [a9]; exact wWay_set hW9 (by omega) b9)))⟩
    · have q33x : (v5x.1).toInt = 0 := congrArg Int32.toInt b7x
      refine wq_gos (f := 1) (pc2 := 28) (ls2 := [(1, .int (nI so)), (0, .ref 4)]) (st2 := [.int 0]) (h2 := h84x) (dc2 := 0) (ds2 := 0) 1 rfl ?_
      have e34x := (f84x.2 _ _ (wnc (by omega) wn0) hA)
      have e35x := (f84x.2 _ _ (wnc (by omega) wn0) hW)
      have hx : (rgG tb ln wr wa nx kd sta va sp nm so wy) = ((0 : Int32), (v5x.2.1), (v5x.2.2.1), (v5x.2.2.2.1), (v5x.2.2.2.2.1), (v5x.2.2.2.2.2.1), (v5x.2.2.2.2.2.2), so, wy) := by unfold rgG; rw [if_pos b3x, zlet_eq hv6x, if_neg (fun q => q b7x)]
      rw [hx]
      exact wq_ret rfl rfl ⟨h84x, rfl, (wFr_sub f84x (by simp)), by omega, c04x, e34x, e35x, (by first | ((try dsimp only); omega) | assumption | ((try dsimp only); intro q9; first | omega | exact absurd rfl q9 | assumption) | ((intro q9; obtain ⟨w9, a9, b9⟩ := snF_w (by omega) rfl (by assumption); rw [a9]; exact wWay_set hW9 (by omega) b9))), (by first | ((try dsimp only); omega) | assumption | ((try dsimp only); intro q9; first | omega | exact absurd rfl q9 | assumption) | ((intro q9; obtain ⟨w9, a9, b9⟩ := snF_w (by omega) rfl (by assumption); rw [a9]; exact wWay_set hW9 (by omega) b9)))⟩
  · refine wq_gos (f := 1) (pc2 := 16) (ls2 := [(1, .int (nI so)), (0, .ref 4)]) (st2 := [.int 2, .ref 4]) (h2 := h) (dc2 := 0) (ds2 := 0) 2 rfl ?_
    have q36x : (2 : Int32).toInt = 2 := rfl
    refine wq_inlv (y2 := 45) (as := [.int 2]) rfl rfl rfl hR rfl (wq_mono (c_ref hR) ?_)
    rintro _ ⟨h837x, rfl, f837x, l837x, c037x⟩
    show wq 53 19 [(1, .int (nI so)), (0, .ref 4)] [.int 0] h837x 0 0 _
    have e38x := (f837x.2 _ _ (wnc (by omega) wn0) hA)
    have e39x := (f837x.2 _ _ (wnc (by omega) wn0) hW)
    have hx : (rgG tb ln wr wa nx kd sta va sp nm so wy) = ((0 : Int32), (2 : Int32), sta, nx, kd, sta, va, so, wy) := by unfold rgG; rw [if_neg (Int.not_lt.mpr b3x)]
    rw [hx]
    exact wq_ret rfl rfl ⟨h837x, rfl, (wFr_sub f837x (by simp)), by omega, c037x, e38x, e39x, (by first | ((try dsimp only); omega) | assumption | ((try dsimp only); intro q9; first | omega | exact absurd rfl q9 | assumption) | ((intro q9; obtain ⟨w9, a9, b9⟩ := snF_w (by omega) rfl (by assumption); rw [a9]; exact wWay_set hW9 (by omega) b9))), (by first | ((try dsimp only); omega) | assumption | ((try dsimp only); intro q9; first | omega | exact absurd rfl q9 | assumption) | ((intro q9; obtain ⟨w9, a9, b9⟩ := snF_w (by omega) rfl (by assumption); rw [a9]; exact wWay_set hW9 (by omega) b9)))⟩
noncomputable def liG (tb : List Int32) (ln : Nat) (wr : Int32) (wa : Int32) (nx : Nat) (kd : Int32) (sta : Int32) (va : Int32) (tld : Int32) (lk : Int32) (hd : Int32) (ht : Int32) (bl : Int32) (sd : Int32) (rt : Int64) (ll : List Int32) (lg : List Int32) (sv : List Int32) (sp : Nat) (nm : List Int32) (po : List Int64) (so : Nat) (wy : List Int32) : Int32 × Int32 × Int32 × Nat × Int32 × Int32 × Int32 × Int32 × Int32 × Int32 × Int32 × Int32 × Int32 × Int64 × List Int32 × List Int32 × List Int32 × Nat × List Int32 × List Int64 × Nat × List Int32 := (if kd ≠ (1 : Int32) then ((0 : Int32), (1 : Int32), sta, nx, kd, sta, va, tld, lk, hd, ht, bl, sd, rt, ll, lg, sv, sp, nm, po, so, wy) else (if (lwF va (10 - 0 + 1) 0) ≠ (-1 : Int32) then (if (5 : Int32).toInt < (lwF va (10 - 0 + 1) 0).toInt then (if (lwF va (10 - 0 + 1) 0) ≠ (6 : Int32) then (if (lwF va (10 - 0 + 1) 0) ≠ (7 : Int32) then (if (lwF va (10 - 0 + 1) 0) ≠ (8 : Int32) then (zlet (rgG tb ln wr wa nx kd sta va sp nm so wy) (fun v29x => (if (v29x.1) ≠ (0 : Int32) then (zlet (adG tb ln (v29x.2.2.2.1) (v29x.2.2.2.2.1) (v29x.2.2.2.2.2.1) (v29x.2.2.2.2.2.2.1)) (fun v35x => (if (v35x.2.1) = (4 : Int32) then ((1 : Int32), (v29x.2.1), (v29x.2.2.1), (v35x.1), (v35x.2.1), (v35x.2.2.1), (v35x.2.2.2), tld, lk, hd, ht, bl, sd, rt, ll, lg, sv, sp, nm, po, (v29x.2.2.2.2.2.2.2.1), (v29x.2.2.2.2.2.2.2.2)) else ((0 : Int32), (1 : Int32), (v35x.2.2.1), (v35x.1), (v35x.2.1), (v35x.2.2.1), (v35x.2.2.2), tld, lk, hd, ht, bl, sd, rt, ll, lg, sv, sp, nm, po, (v29x.2.2.2.2.2.2.2.1), (v29x.2.2.2.2.2.2.2.2))))) else ((0 : Int32), (v29x.2.1), (v29x.2.2.1), (v29x.2.2.2.1), (v29x.2.2.2.2.1), (v29x.2.2.2.2.2.1), (v29x.2.2.2.2.2.2.1), tld, lk, hd, ht, bl, sd, rt, ll, lg, sv, sp, nm, po, (v29x.2.2.2.2.2.2.2.1), (v29x.2.2.2.2.2.2.2.2))))) else (zlet (rzG tb ln wr wa nx kd sta va sp nm po) (fun v64x => (if (v64x.1) ≠ (0 : Int32) then (zlet (adG tb ln (v64x.2.2.2.1) (v64x.2.2.2.2.1) (v64x.2.2.2.2.2.1) (v64x.2.2.2.2.2.2.1)) (fun v70x => (if (v70x.2.1) = (4 : Int32) then ((1 : Int32), (v64x.2.1), (v64x.2.2.1), (v70x.1), (v70x.2.1), (v70x.2.2.1), (v70x.2.2.2), tld, lk, hd, ht, bl, sd, rt, ll, lg, sv, (v64x.2.2.2.2.2.2.2.1), (v64x.2.2.2.2.2.2.2.2.1), (v64x.2.2.2.2.2.2.2.2.2), so, wy) else ((0 : Int32), (1 : Int32), (v70x.2.2.1), (v70x.1), (v70x.2.1), (v70x.2.2.1), (v70x.2.2.2), tld, lk, hd, ht, bl, sd, rt, ll, lg, sv, (v64x.2.2.2.2.2.2.2.1), (v64x.2.2.2.2.2.2.2.2.1), (v64x.2.2.2.2.2.2.2.2.2), so, wy)))) else ((0 : Int32), (v64x.2.1), (v64x.2.2.1), (v64x.2.2.2.1), (v64x.2.2.2.2.1), (v64x.2.2.2.2.2.1), (v64x.2.2.2.2.2.2.1), tld, lk, hd, ht, bl, sd, rt, ll, lg, sv, (v64x.2.2.2.2.2.2.2.1), (v64x.2.2.2.2.2.2.2.2.1), (v64x.2.2.2.2.2.2.2.2.2), so, wy))))) else (zlet (rpG tb ln wr wa nx kd sta va tld sv) (fun v98x => (if (v98x.1) ≠ (0 : Int32) then (zlet (adG tb ln (v98x.2.2.2.1) (v98x.2.2.2.2.1) (v98x.2.2.2.2.2.1) (v98x.2.2.2.2.2.2.1)) (fun v104x => (if (v104x.2.1) = (4 : Int32) then ((1 : Int32), (v98x.2.1), (v98x.2.2.1), (v104x.1), (v104x.2.1), (v104x.2.2.1), (v104x.2.2.2), (v98x.2.2.2.2.2.2.2.1), lk, hd, ht, bl, sd, rt, ll, lg, (v98x.2.2.2.2.2.2.2.2), sp, nm, po, so, wy) else ((0 : Int32), (1 : Int32), (v104x.2.2.1), (v104x.1), (v104x.2.1), (v104x.2.2.1), (v104x.2.2.2), (v98x.2.2.2.2.2.2.2.1), lk, hd, ht, bl, sd, rt, ll, lg, (v98x.2.2.2.2.2.2.2.2), sp, nm, po, so, wy)))) else ((0 : Int32), (v98x.2.1), (v98x.2.2.1), (v98x.2.2.2.1), (v98x.2.2.2.2.1), (v98x.2.2.2.2.2.1), (v98x.2.2.2.2.2.2.1), (v98x.2.2.2.2.2.2.2.1), lk, hd, ht, bl, sd, rt, ll, lg, (v98x.2.2.2.2.2.2.2.2), sp, nm, po, so, wy))))) else (zlet (rlG tb ln wr wa nx kd sta va tld ll lg) (fun v134x => (if (v134x.1) ≠ (0 : Int32) then (zlet (adG tb ln (v134x.2.2.2.1) (v134x.2.2.2.2.1) (v134x.2.2.2.2.2.1) (v134x.2.2.2.2.2.2.1)) (fun v140x => (if (v140x.2.1) = (4 : Int32) then ((1 : Int32), (v134x.2.1), (v134x.2.2.1), (v140x.1), (v140x.2.1), (v140x.2.2.1), (v140x.2.2.2), (v134x.2.2.2.2.2.2.2.1), lk, hd, ht, bl, sd, rt, (v134x.2.2.2.2.2.2.2.2.1), (v134x.2.2.2.2.2.2.2.2.2), sv, sp, nm, po, so, wy) else ((0 : Int32), (1 : Int32), (v140x.2.2.1), (v140x.1), (v140x.2.1), (v140x.2.2.1), (v140x.2.2.2), (v134x.2.2.2.2.2.2.2.1), lk, hd, ht, bl, sd, rt, (v134x.2.2.2.2.2.2.2.2.1), (v134x.2.2.2.2.2.2.2.2.2), sv, sp, nm, po, so, wy)))) else ((0 : Int32), (v134x.2.1), (v134x.2.2.1), (v134x.2.2.2.1), (v134x.2.2.2.2.1), (v134x.2.2.2.2.2.1), (v134x.2.2.2.2.2.2.1), (v134x.2.2.2.2.2.2.2.1), lk, hd, ht, bl, sd, rt, (v134x.2.2.2.2.2.2.2.2.1), (v134x.2.2.2.2.2.2.2.2.2), sv, sp, nm, po, so, wy))))) else (zlet (toG wr wa sta tld (lwF va (10 - 0 + 1) 0)) (fun v168x => (if (v168x.1) = (0 : Int32) then ((0 : Int32), (v168x.2.1), (v168x.2.2.1), nx, kd, sta, va, (v168x.2.2.2), lk, hd, ht, bl, sd, rt, ll, lg, sv, sp, nm, po, so, wy) else (if (lwF va (10 - 0 + 1) 0) ≠ (5 : Int32) then (zlet (rsG tb ln (v168x.2.1) (v168x.2.2.1) nx kd sta va lk hd ht bl sd (lwF va (10 - 0 + 1) 0)) (fun v185x => (if (v185x.1) = (0 : Int32) then ((0 : Int32), (v185x.2.1), (v185x.2.2.1), (v185x.2.2.2.1), (v185x.2.2.2.2.1), (v185x.2.2.2.2.2.1), (v185x.2.2.2.2.2.2.1), (v168x.2.2.2), (v185x.2.2.2.2.2.2.2.1), (v185x.2.2.2.2.2.2.2.2.1), (v185x.2.2.2.2.2.2.2.2.2.1), (v185x.2.2.2.2.2.2.2.2.2.2.1), (v185x.2.2.2.2.2.2.2.2.2.2.2), rt, ll, lg, sv, sp, nm, po, so, wy) else (zlet (adG tb ln (v185x.2.2.2.1) (v185x.2.2.2.2.1) (v185x.2.2.2.2.2.1) (v185x.2.2.2.2.2.2.1)) (fun v198x => (if (v198x.2.1) = (4 : Int32) then ((1 : Int32), (v185x.2.1), (v185x.2.2.1), (v198x.1), (v198x.2.1), (v198x.2.2.1), (v198x.2.2.2), (v168x.2.2.2), (v185x.2.2.2.2.2.2.2.1), (v185x.2.2.2.2.2.2.2.2.1), (v185x.2.2.2.2.2.2.2.2.2.1), (v185x.2.2.2.2.2.2.2.2.2.2.1), (v185x.2.2.2.2.2.2.2.2.2.2.2), rt, ll, lg, sv, sp, nm, po, so, wy) else ((0 : Int32), (1 : Int32), (v198x.2.2.1), (v198x.1), (v198x.2.1), (v198x.2.2.1), (v198x.2.2.2), (v168x.2.2.2), (v185x.2.2.2.2.2.2.2.1), (v185x.2.2.2.2.2.2.2.2.1), (v185x.2.2.2.2.2.2.2.2.2.1), (v185x.2.2.2.2.2.2.2.2.2.2.1), (v185x.2.2.2.2.2.2.2.2.2.2.2), rt, ll, lg, sv, sp, nm, po, so, wy))))))) else (zlet (rrG tb ln (v168x.2.1) (v168x.2.2.1) nx kd sta va rt) (fun v223x => (if (v223x.1) = (0 : Int32) then ((0 : Int32), (v223x.2.1), (v223x.2.2.1), (v223x.2.2.2.1), (v223x.2.2.2.2.1), (v223x.2.2.2.2.2.1), (v223x.2.2.2.2.2.2.1), (v168x.2.2.2), lk, hd, ht, bl, sd, (v223x.2.2.2.2.2.2.2), ll, lg, sv, sp, nm, po, so, wy) else (zlet (adG tb ln (v223x.2.2.2.1) (v223x.2.2.2.2.1) (v223x.2.2.2.2.2.1) (v223x.2.2.2.2.2.2.1)) (fun v236x => (if (v236x.2.1) = (4 : Int32) then ((1 : Int32), (v223x.2.1), (v223x.2.2.1), (v236x.1), (v236x.2.1), (v236x.2.2.1), (v236x.2.2.2), (v168x.2.2.2), lk, hd, ht, bl, sd, (v223x.2.2.2.2.2.2.2), ll, lg, sv, sp, nm, po, so, wy) else ((0 : Int32), (1 : Int32), (v236x.2.2.1), (v236x.1), (v236x.2.1), (v236x.2.2.1), (v236x.2.2.2), (v168x.2.2.2), lk, hd, ht, bl, sd, (v223x.2.2.2.2.2.2.2), ll, lg, sv, sp, nm, po, so, wy)))))))))))) else ((0 : Int32), (1 : Int32), sta, nx, kd, sta, va, tld, lk, hd, ht, bl, sd, rt, ll, lg, sv, sp, nm, po, so, wy)))
set_option maxRecDepth 100000 in
set_option maxHeartbeats 4000000 in
theorem c_li {h : zH} {ln nx rd : Nat} {wr wa kd sta va tld : Int32} {tb : List Int32} {lk hd ht bl sd : Int32} {rt : Int64} {sp so : Nat} {ll lg sv nm wy : List Int32} {po : List Int64} (hR : zat h 4 = some (.inr (.inr (.inr (4, [.int wr, .int wa, .ref 2, .int (nI ln), .int (nI nx), .int kd, .int sta, .int va, .int tld, .ref rd]))))) (hT : zat h 2 = some (.inl (1, 700, tb))) (hA : zat h rd = some (.inr (.inr (.inr (0, [.int lk, .int hd, .int ht, .int bl, .int sd, .long rt, .ref (rd + 2), .ref (rd + 4), .ref (rd + 6), .int (nI sp), .ref (rd + 8), .ref (rd + 10), .int (nI so), .ref (rd + 12)]))))) (hL : zat h (rd + 2) = some (.inl (0, 6, ll))) (hG : zat h (rd + 4) = some (.inl (0, 6, lg))) (hV : zat h (rd + 6) = some (.inl (0, 6, sv))) (hN : zat h (rd + 8) = some (.inl (0, 8, nm))) (hQ : zat h (rd + 10) = some (.inr (.inl (8, po)))) (hW : zat h (rd + 12) = some (.inl (0, 10, wy))) (hln : ln ≤ 700) (hn : nx ≤ ln) (hrd : rd = 6 ∨ rd = 20) (hS0 : wScl lk hd ht bl sd) (hS1 : wLm ll lg) (hS2 : wSpd sv) (hS3 : sp ≤ 8) (hS4 : wWay wy sp so) : wq 46 0 [(0, .ref 4)] [] h 0 0 (fun rr9 => ∃ (h2 : zH), rr9 = (some (.int ((liG tb ln wr wa nx kd sta va tld lk hd ht bl sd rt ll lg sv sp nm po so wy).1)), h2, 0, 0) ∧ wFr [4, rd, (rd + 2), (rd + 4), (rd + 6), (rd + 8), (rd + 10), (rd + 12)] h h2 ∧ h2.length = h.length ∧ zat h2 4 = some (.inr (.inr (.inr (4, [.int ((liG tb ln wr wa nx kd sta va tld lk hd ht bl sd rt ll lg sv sp nm po so wy).2.1), .int ((liG tb ln wr wa nx kd sta va tld lk hd ht bl sd rt ll lg sv sp nm po so wy).2.2.1), .ref 2, .int (nI ln), .int (nI ((liG tb ln wr wa nx kd sta va tld lk hd ht bl sd rt ll lg sv sp nm po so wy).2.2.2.1)), .int ((liG tb ln wr wa nx kd sta va tld lk hd ht bl sd rt ll lg sv sp nm po so wy).2.2.2.2.1), .int ((liG tb ln wr wa nx kd sta va tld lk hd ht bl sd rt ll lg sv sp nm po so wy).2.2.2.2.2.1), .int ((liG tb ln wr wa nx kd sta va tld lk hd ht bl sd rt ll lg sv sp nm po so wy).2.2.2.2.2.2.1), .int ((liG tb ln wr wa nx kd sta va tld lk hd ht bl sd rt ll lg sv sp nm po so wy).2.2.2.2.2.2.2.1), .ref rd])))) ∧ zat h2 rd = some (.inr (.inr (.inr (0, [.int ((liG tb ln wr wa nx kd sta va tld lk hd ht bl sd rt ll lg sv sp nm po so wy).2.2.2.2.2.2.2.2.1), .int ((liG tb ln wr wa nx kd sta va tld lk hd ht bl sd rt ll lg sv sp nm po so wy).2.2.2.2.2.2.2.2.2.1), .int ((liG tb ln wr wa nx kd sta va tld lk hd ht bl sd rt ll lg sv sp nm po so wy).2.2.2.2.2.2.2.2.2.2.1), .int ((liG tb ln wr wa nx kd sta va tld lk hd ht bl sd rt ll lg sv sp nm po so wy).2.2.2.2.2.2.2.2.2.2.2.1), .int ((liG tb ln wr wa nx kd sta va tld lk hd ht bl sd rt ll lg sv sp nm po so wy).2.2.2.2.2.2.2.2.2.2.2.2.1), .long ((liG tb ln wr wa nx kd sta va tld lk hd ht bl sd rt ll lg sv sp nm po so wy).2.2.2.2.2.2.2.2.2.2.2.2.2.1), .ref (rd + 2), .ref (rd + 4), .ref (rd + 6), .int (nI ((liG tb ln wr wa nx kd sta va tld lk hd ht bl sd rt ll lg sv sp nm po so wy).2.2.2.2.2.2.2.2.2.2.2.2.2.2.2.2.2.1)), .ref (rd + 8), .ref (rd + 10), .int (nI ((liG tb ln wr wa nx kd sta va tld lk hd ht bl sd rt ll lg sv sp nm po so wy).2.2.2.2.2.2.2.2.2.2.2.2.2.2.2.2.2.2.2.2.1)), .ref (rd + 12)])))) ∧ zat h2 (rd + 2) = some (.inl (0, 6, ((liG tb ln wr wa nx kd sta va tld lk hd ht bl sd rt ll lg sv sp nm po so wy).2.2.2.2.2.2.2.2.2.2.2.2.2.2.1))) ∧ zat h2 (rd + 4) = some (.inl (0, 6, ((liG tb ln wr wa nx kd sta va tld lk hd ht bl sd rt ll lg sv sp nm po so wy).2.2.2.2.2.2.2.2.2.2.2.2.2.2.2.1))) ∧ zat h2 (rd + 6) = some (.inl (0, 6, ((liG tb ln wr wa nx kd sta va tld lk hd ht bl sd rt ll lg sv sp nm po so wy).2.2.2.2.2.2.2.2.2.2.2.2.2.2.2.2.1))) ∧ zat h2 (rd + 8) = some (.inl (0, 8, ((liG tb ln wr wa nx kd sta va tld lk hd ht bl sd rt ll lg sv sp nm po so wy).2.2.2.2.2.2.2.2.2.2.2.2.2.2.2.2.2.2.1))) ∧ zat h2 (rd + 10) = some (.inr (.inl (8, ((liG tb ln wr wa nx kd sta va tld lk hd ht bl sd rt ll lg sv sp nm po so wy).2.2.2.2.2.2.2.2.2.2.2.2.2.2.2.2.2.2.2.1)))) ∧ zat h2 (rd + 12) = some (.inl (0, 10, ((liG tb ln wr wa nx kd sta va tld lk hd ht bl sd rt ll lg sv sp nm po so wy).2.2.2.2.2.2.2.2.2.2.2.2.2.2.2.2.2.2.2.2.2))) ∧ ((((liG tb ln wr wa nx kd sta va tld lk hd ht bl sd rt ll lg sv sp nm po so wy).2.2.2.1) ≤ ln)) ∧ (((((liG tb ln wr wa nx kd sta va tld lk hd ht bl sd rt ll lg sv sp nm po so wy).1)).toInt ≠ 0 → wScl (((liG tb ln wr wa nx kd sta va tld lk hd ht bl sd rt ll lg sv sp nm po so wy).2.2.2.2.2.2.2.2.1)) (((liG tb ln wr wa nx kd sta va tld lk hd ht bl sd rt ll lg sv sp nm po so wy).2.2.2.2.2.2.2.2.2.1)) (((liG tb ln wr wa nx kd sta va tld lk hd ht bl sd rt ll lg sv sp nm po so wy).2.2.2.2.2.2.2.2.2.2.1)) (((liG tb ln wr wa nx kd sta va tld lk hd ht bl sd rt ll lg sv sp nm po so wy).2.2.2.2.2.2.2.2.2.2.2.1)) (((liG tb ln wr wa nx kd sta va tld lk hd ht bl sd rt ll lg sv sp nm po so wy).2.2.2.2.2.2.2.2.2.2.2.2.1)))) ∧ (((((liG tb ln wr wa nx kd sta va tld lk hd ht bl sd rt ll lg sv sp nm po so wy).1)).toInt ≠ 0 → wLm (((liG tb ln wr wa nx kd sta va tld lk hd ht bl sd rt ll lg sv sp nm po so wy).2.2.2.2.2.2.2.2.2.2.2.2.2.2.1)) (((liG tb ln wr wa nx kd sta va tld lk hd ht bl sd rt ll lg sv sp nm po so wy).2.2.2.2.2.2.2.2.2.2.2.2.2.2.2.1)))) ∧ (((((liG tb ln wr wa nx kd sta va tld lk hd ht bl sd rt ll lg sv sp nm po so wy).1)).toInt ≠ 0 → wSpd (((liG tb ln wr wa nx kd sta va tld lk hd ht bl sd rt ll lg sv sp nm po so wy).2.2.2.2.2.2.2.2.2.2.2.2.2.2.2.2.1)))) ∧ (((((liG tb ln wr wa nx kd sta va tld lk hd ht bl sd rt ll lg sv sp nm po so wy).1)).toInt ≠ 0 → (((liG tb ln wr wa nx kd sta va tld lk hd ht bl sd rt ll lg sv sp nm po so wy).2.2.2.2.2.2.2.2.2.2.2.2.2.2.2.2.2.1)) ≤ 8)) ∧ (((((liG tb ln wr wa nx kd sta va tld lk hd ht bl sd rt ll lg sv sp nm po so wy).1)).toInt ≠ 0 → wWay (((liG tb ln wr wa nx kd sta va tld lk hd ht bl sd rt ll lg sv sp nm po so wy).2.2.2.2.2.2.2.2.2.2.2.2.2.2.2.2.2.2.2.2.2)) (((liG tb ln wr wa nx kd sta va tld lk hd ht bl sd rt ll lg sv sp nm po so wy).2.2.2.2.2.2.2.2.2.2.2.2.2.2.2.2.2.1)) (((liG tb ln wr wa nx kd sta va tld lk hd ht bl sd rt ll lg sv sp nm po so wy).2.2.2.2.2.2.2.2.2.2.2.2.2.2.2.2.2.2.2.2.1))))) := by
  have z0 : (0 : Int32).toInt = 0 := rfl
  have z1 : (1 : Int32).toInt = 1 := rfl
  refine wq_gos (f := 1) (pc2 := 1) (ls2 := [(0, .ref 4)]) (st2 := [.ref 4]) (h2 := h) (dc2 := 0) (ds2 := 0) 1 rfl ?_
  refine wq_getf rfl hR rfl rfl ?_
  refine wq_gos (f := 1) (pc2 := 5) (ls2 := [(0, .ref 4)]) (st2 := [.int 1, .int kd]) (h2 := h) (dc2 := 0) (ds2 := 0) 1 rfl ?_
  have q1x : (1 : Int32).toInt = 1 := rfl
  refine wq_ne2 rfl rfl (fun b2x => ?_) (fun b2x => ?_)
  · have q3x : kd.toInt ≠ 1 := fun q => b2x (Int32.toInt_inj.mp q)
    refine wq_gos (f := 1) (pc2 := 24) (ls2 := [(1, .int (-1)), (0, .ref 4)]) (st2 := [.int 1, .ref 4]) (h2 := h) (dc2 := 0) (ds2 := 0) 7 rfl ?_
    refine wq_inlv (y2 := 45) (as := [.int 1]) rfl rfl rfl hR rfl (wq_mono (c_ref hR) ?_)
    rintro _ ⟨h84x, rfl, f84x, l84x, c04x⟩
    show wq 46 27 [(1, .int (-1)), (0, .ref 4)] [.int 0] h84x 0 0 _
    have e5x := (f84x.2 _ _ (wnc (by omega) wn0) hA)
    have e6x := (f84x.2 _ _ (wnc (by omega) wn0) hL)
    have e7x := (f84x.2 _ _ (wnc (by omega) wn0) hG)
    have e8x := (f84x.2 _ _ (wnc (by omega) wn0) hV)
    have e9x := (f84x.2 _ _ (wnc (by omega) wn0) hN)
    have e10x := (f84x.2 _ _ (wnc (by omega) wn0) hQ)
    have e11x := (f84x.2 _ _ (wnc (by omega) wn0) hW)
    have hx : (liG tb ln wr wa nx kd sta va tld lk hd ht bl sd rt ll lg sv sp nm po so wy) = ((0 : Int32), (1 : Int32), sta, nx, kd, sta, va, tld, lk, hd, ht, bl, sd, rt, ll, lg, sv, sp, nm, po, so, wy) := by unfold liG; rw [if_pos b2x]
    rw [hx]
    exact wq_ret rfl rfl ⟨h84x, rfl, (wFr_sub f84x (by simp)), by omega, c04x, e5x, e6x, e7x, e8x, e9x, e10x, e11x, (by first | ((try dsimp only); omega) | ((try dsimp only); intro q9; first | exact absurd rfl q9 | exact absurd z0 q9 | assumption | solve_by_elim | omega)), (by first | ((try dsimp only); omega) | ((try dsimp only); intro q9; first | exact absurd rfl q9 | exact absurd z0 q9 | assumption | solve_by_elim | omega)), (by first | ((try dsimp only); omega) | ((try dsimp only); intro q9; first | exact absurd rfl q9 | exact absurd z0 q9 | assumption | solve_by_elim | omega)), (by first | ((try dsimp only); omega) | ((try dsimp only); intro q9; first | exact absurd rfl q9 | exact absurd z0 q9 | assumption | solve_by_elim | omega)), (by first | ((try dsimp only); omega) | ((try dsimp only); intro q9; first | exact absurd rfl q9 | exact absurd z0 q9 | assumption | solve_by_elim | omega)), (by first | ((try dsimp only); omega) | ((try dsimp only); intro q9; first | exact absurd rfl q9 | exact absurd z0 q9 | assumption | solve_by_elim | omega))⟩
  · have q12x : kd.toInt = 1 := congrArg Int32.toInt b2x
    refine wq_gos (f := 1) (pc2 := 9) (ls2 := [(0, .ref 4)]) (st2 := [.ref 4]) (h2 := h) (dc2 := 0) (ds2 := 0) 1 rfl ?_
    refine wq_inlv (y2 := 56) (as := []) rfl rfl rfl hR rfl (wq_mono (c_lw hR) ?_)
    rintro _ rfl
    show wq 46 12 [(0, .ref 4)] [.int (lwF va (10 - 0 + 1) 0)] h 0 0 _
    refine wq_gos (f := 1) (pc2 := 19) (ls2 := [(1, .int (lwF va (10 - 0 + 1) 0)), (0, .ref 4)]) (st2 := [.int (-1), .int (lwF va (10 - 0 + 1) 0)]) (h2 := h) (dc2 := 0) (ds2 := 0) 4 rfl ?_
    have q14x : (-1 : Int32).toInt = -1 := rfl
    refine wq_ne2 rfl rfl (fun b15x => ?_) (fun b15x => ?_)
    · have q16x : (lwF va (10 - 0 + 1) 0).toInt ≠ -1 := fun q => b15x (Int32.toInt_inj.mp q)
      refine wq_gos (f := 1) (pc2 := 30) (ls2 := [(1, .int (lwF va (10 - 0 + 1) 0)), (0, .ref 4)]) (st2 := [.int 5, .int (lwF va (10 - 0 + 1) 0)]) (h2 := h) (dc2 := 0) (ds2 := 0) 2 rfl ?_
      have q17x : (5 : Int32).toInt = 5 := rfl
      refine wq_gt2 rfl rfl (fun b18x => ?_) (fun b18x => ?_)
      · refine wq_gos (f := 1) (pc2 := 76) (ls2 := [(1, .int (lwF va (10 - 0 + 1) 0)), (0, .ref 4)]) (st2 := [.int 6, .int (lwF va (10 - 0 + 1) 0)]) (h2 := h) (dc2 := 0) (ds2 := 0) 2 rfl ?_
        have q19x : (6 : Int32).toInt = 6 := rfl
        refine wq_ne2 rfl rfl (fun b20x => ?_) (fun b20x => ?_)
        · have q21x : (lwF va (10 - 0 + 1) 0).toInt ≠ 6 := fun q => b20x (Int32.toInt_inj.mp q)
          refine wq_gos (f := 1) (pc2 := 90) (ls2 := [(1, .int (lwF va (10 - 0 + 1) 0)), (0, .ref 4)]) (st2 := [.int 7, .int (lwF va (10 - 0 + 1) 0)]) (h2 := h) (dc2 := 0) (ds2 := 0) 2 rfl ?_
          have q22x : (7 : Int32).toInt = 7 := rfl
          refine wq_ne2 rfl rfl (fun b23x => ?_) (fun b23x => ?_)
          · have q24x : (lwF va (10 - 0 + 1) 0).toInt ≠ 7 := fun q => b23x (Int32.toInt_inj.mp q)
            refine wq_gos (f := 1) (pc2 := 104) (ls2 := [(1, .int (lwF va (10 - 0 + 1) 0)), (0, .ref 4)]) (st2 := [.int 8, .int (lwF va (10 - 0 + 1) 0)]) (h2 := h) (dc2 := 0) (ds2 := 0) 2 rfl ?_
            have q25x : (8 : Int32).toInt = 8 := rfl
            refine wq_ne2 rfl rfl (fun b26x => ?_) (fun b26x => ?_)
            · have q27x : (lwF va (10 - 0 + 1) 0).toInt ≠ 8 := fun q => b26x (Int32.toInt_inj.mp q)
              refine wq_gos (f := 1) (pc2 := 115) (ls2 := [(1, .int (lwF va (10 - 0 + 1) 0)), (0, .ref 4)]) (st2 := [.ref 4]) (h2 := h) (dc2 := 0) (ds2 := 0) 1 rfl ?_
              refine wq_inlv (y2 := 53) (as := []) rfl rfl rfl hR rfl (wq_mono (c_rg hR hT hA hN hW (by first | omega | assumption | decide | solve_by_elim) (by first | omega | assumption | decide | solve_by_elim) (by first | omega | assumption | decide | solve_by_elim) (by first | omega | assumption | decide | solve_by_elim) (by first | omega | assumption | decide | solve_by_elim)) ?_)
              rintro _ ⟨h828x, rfl, f828x, l828x, c028x, c128x, c228x, p028x, p128x⟩
              show wq 46 118 [(1, .int (lwF va (10 - 0 + 1) 0)), (0, .ref 4)] [.int ((rgG tb ln wr wa nx kd sta va sp nm so wy).1)] h828x 0 0 _
              obtain ⟨v29x, hv30x⟩ : ∃ x, x = (rgG tb ln wr wa nx kd sta va sp nm so wy) := ⟨_, rfl⟩
              try rw [← hv30x] at c028x
              try rw [← hv30x] at c128x
              try rw [← hv30x] at c228x
              try rw [← hv30x] at p028x
              try rw [← hv30x] at p128x
              try rw [← hv30x]
              refine wq_gos (f := 1) (pc2 := 120) (ls2 := [(2, .int (v29x.1)), (1, .int (lwF va (10 - 0 + 1) 0)), (0, .ref 4)]) (st2 := [.int (v29x.1)]) (h2 := h828x) (dc2 := 0) (ds2 := 0) 2 rfl ?_
              refine wq_ne0 rfl rfl (fun b31x => ?_) (fun b31x => ?_)
              · have q32x : (v29x.1).toInt ≠ 0 := fun q => b31x (Int32.toInt_inj.mp q)
                refine wq_gos (f := 1) (pc2 := 126) (ls2 := [(2, .int (v29x.1)), (1, .int (lwF va (10 - 0 + 1) 0)), (0, .ref 4)]) (st2 := [.ref 4]) (h2 := h828x) (dc2 := 0) (ds2 := 0) 1 rfl ?_
                have e33x := (f828x.2 _ _ (wnc (by decide) (wnc (by omega) (wnc (by omega) wn0))) hT)
                refine wq_inlv (y2 := 58) (as := []) rfl rfl rfl c028x rfl (wq_mono (c_adv c028x e33x (by first | omega | assumption | decide | solve_by_elim) (by first | omega | assumption | decide | solve_by_elim)) ?_)
                rintro _ ⟨h834x, rfl, f834x, l834x, c034x, p034x⟩
                show wq 46 129 [(2, .int (v29x.1)), (1, .int (lwF va (10 - 0 + 1) 0)), (0, .ref 4)] [] h834x 0 0 _
                obtain ⟨v35x, hv36x⟩ : ∃ x, x = (adG tb ln (v29x.2.2.2.1) (v29x.2.2.2.2.1) (v29x.2.2.2.2.2.1) (v29x.2.2.2.2.2.2.1)) := ⟨_, rfl⟩
                try rw [← hv36x] at c034x
                try rw [← hv36x] at p034x
                try rw [← hv36x]
                refine wq_gos (f := 1) (pc2 := 130) (ls2 := [(2, .int (v29x.1)), (1, .int (lwF va (10 - 0 + 1) 0)), (0, .ref 4)]) (st2 := [.ref 4]) (h2 := h834x) (dc2 := 0) (ds2 := 0) 1 rfl ?_
                refine wq_getf rfl c034x rfl rfl ?_
                refine wq_gos (f := 1) (pc2 := 134) (ls2 := [(2, .int (v29x.1)), (1, .int (lwF va (10 - 0 + 1) 0)), (0, .ref 4)]) (st2 := [.int 4, .int (v35x.2.1)]) (h2 := h834x) (dc2 := 0) (ds2 := 0) 1 rfl ?_
                have q37x : (4 : Int32).toInt = 4 := rfl
                refine wq_eq2 rfl rfl (fun b38x => ?_) (fun b38x => ?_)
                · have q39x : (v35x.2.1).toInt = 4 := congrArg Int32.toInt b38x
                  refine wq_gos (f := 1) (pc2 := 150) (ls2 := [(2, .int (v29x.1)), (1, .int (lwF va (10 - 0 + 1) 0)), (0, .ref 4)]) (st2 := [.int 1]) (h2 := h834x) (dc2 := 0) (ds2 := 0) 2 rfl ?_
                  have e40x := (f834x.2 _ _ (wnc (by omega) wn0) c128x)
                  have e41x := (f834x.2 _ _ (wnc (by omega) wn0) (f828x.2 _ _ (wnc (by omega) (wnc (by omega) (wnc (by omega) wn0))) hL))
                  have e42x := (f834x.2 _ _ (wnc (by omega) wn0) (f828x.2 _ _ (wnc (by omega) (wnc (by omega) (wnc (by omega) wn0))) hG))
                  have e43x := (f834x.2 _ _ (wnc (by omega) wn0) (f828x.2 _ _ (wnc (by omega) (wnc (by omega) (wnc (by omega) wn0))) hV))
                  have e44x := (f834x.2 _ _ (wnc (by omega) wn0) (f828x.2 _ _ (wnc (by omega) (wnc (by omega) (wnc (by omega) wn0))) hN))
                  have e45x := (f834x.2 _ _ (wnc (by omega) wn0) (f828x.2 _ _ (wnc (by omega) (wnc (by omega) (wnc (by omega) wn0))) hQ))
                  have e46x := (f834x.2 _ _ (wnc (by omega) wn0) c228x)
                  have hx : (liG tb ln wr wa nx kd sta va tld lk hd ht bl sd rt ll lg sv sp nm po so wy) = ((1 : Int32), (v29x.2.1), (v29x.2.2.1), (v35x.1), (v35x.2.1), (v35x.2.2.1), (v35x.2.2.2), tld, lk, hd, ht, bl, sd, rt, ll, lg, sv, sp, nm, po, (v29x.2.2.2.2.2.2.2.1), (v29x.2.2.2.2.2.2.2.2)) := by unfold liG; rw [if_neg (fun q => q b2x), if_pos b15x, if_pos b18x, if_pos b20x, if_pos b23x, if_pos b26x, zlet_eq hv30x, if_pos b31x, zlet_eq hv36x, if_pos b38x]
                  rw [hx]
                  exact wq_ret rfl rfl ⟨h834x, rfl, (wFr_tr (wFr_sub f828x (by simp)) (wFr_sub f834x (by simp))), by omega, c034x, e40x, e41x, e42x, e43x, e44x, e45x, e46x, (by first | ((try dsimp only); omega) | ((try dsimp only); intro q9; first | exact absurd rfl q9 | exact absurd z0 q9 | assumption | solve_by_elim | omega)), (by first | ((try dsimp only); omega) | ((try dsimp only); intro q9; first | exact absurd rfl q9 | exact absurd z0 q9 | assumption | solve_by_elim | omega)), (by first | ((try dsimp only); omega) | ((try dsimp only); intro q9; first | exact absurd rfl q9 | exact absurd z0 q9 | assumption | solve_by_elim | omega)), (by first | ((try dsimp only); omega) | ((try dsimp only); intro q9; first | exact absurd rfl q9 | exact absurd z0 q9 | assumption | solve_by_elim | omega)), (by first | ((try dsimp only); omega) | ((try dsimp only); intro q9; first | exact absurd rfl q9 | exact absurd z0 q9 | assumption | solve_by_elim | omega)), (by first | ((try dsimp only); omega) | ((try dsimp only); intro q9; first | exact absurd rfl q9 | exact absurd z0 q9 | assumption | solve_by_elim | omega))⟩
                · have q47x : (v35x.2.1).toInt ≠ 4 := fun q => b38x (Int32.toInt_inj.mp q)
                  refine wq_gos (f := 1) (pc2 := 139) (ls2 := [(2, .int (v29x.1)), (1, .int (lwF va (10 - 0 + 1) 0)), (0, .ref 4)]) (st2 := [.int 1, .ref 4]) (h2 := h834x) (dc2 := 0) (ds2 := 0) 2 rfl ?_
                  refine wq_inlv (y2 := 45) (as := [.int 1]) rfl rfl rfl c034x rfl (wq_mono (c_ref c034x) ?_)
                  rintro _ ⟨h848x, rfl, f848x, l848x, c048x⟩
                  show wq 46 142 [(2, .int (v29x.1)), (1, .int (lwF va (10 - 0 + 1) 0)), (0, .ref 4)] [.int 0] h848x 0 0 _
                  refine wq_gos (f := 1) (pc2 := 150) (ls2 := [(2, .int (v29x.1)), (1, .int (lwF va (10 - 0 + 1) 0)), (0, .ref 4)]) (st2 := [.int 0]) (h2 := h848x) (dc2 := 0) (ds2 := 0) 2 rfl ?_
                  have e49x := (f848x.2 _ _ (wnc (by omega) wn0) (f834x.2 _ _ (wnc (by omega) wn0) c128x))
                  have e50x := (f848x.2 _ _ (wnc (by omega) wn0) (f834x.2 _ _ (wnc (by omega) wn0) (f828x.2 _ _ (wnc (by omega) (wnc (by omega) (wnc (by omega) wn0))) hL)))
                  have e51x := (f848x.2 _ _ (wnc (by omega) wn0) (f834x.2 _ _ (wnc (by omega) wn0) (f828x.2 _ _ (wnc (by omega) (wnc (by omega) (wnc (by omega) wn0))) hG)))
                  have e52x := (f848x.2 _ _ (wnc (by omega) wn0) (f834x.2 _ _ (wnc (by omega) wn0) (f828x.2 _ _ (wnc (by omega) (wnc (by omega) (wnc (by omega) wn0))) hV)))
                  have e53x := (f848x.2 _ _ (wnc (by omega) wn0) (f834x.2 _ _ (wnc (by omega) wn0) (f828x.2 _ _ (wnc (by omega) (wnc (by omega) (wnc (by omega) wn0))) hN)))
                  have e54x := (f848x.2 _ _ (wnc (by omega) wn0) (f834x.2 _ _ (wnc (by omega) wn0) (f828x.2 _ _ (wnc (by omega) (wnc (by omega) (wnc (by omega) wn0))) hQ)))
                  have e55x := (f848x.2 _ _ (wnc (by omega) wn0) (f834x.2 _ _ (wnc (by omega) wn0) c228x))
                  have hx : (liG tb ln wr wa nx kd sta va tld lk hd ht bl sd rt ll lg sv sp nm po so wy) = ((0 : Int32), (1 : Int32), (v35x.2.2.1), (v35x.1), (v35x.2.1), (v35x.2.2.1), (v35x.2.2.2), tld, lk, hd, ht, bl, sd, rt, ll, lg, sv, sp, nm, po, (v29x.2.2.2.2.2.2.2.1), (v29x.2.2.2.2.2.2.2.2)) := by unfold liG; rw [if_neg (fun q => q b2x), if_pos b15x, if_pos b18x, if_pos b20x, if_pos b23x, if_pos b26x, zlet_eq hv30x, if_pos b31x, zlet_eq hv36x, if_neg b38x]
                  rw [hx]
                  exact wq_ret rfl rfl ⟨h848x, rfl, (wFr_tr (wFr_sub f828x (by simp)) (wFr_tr (wFr_sub f834x (by simp)) (wFr_sub f848x (by simp)))), by omega, c048x, e49x, e50x, e51x, e52x, e53x, e54x, e55x, (by first | ((try dsimp only); omega) | ((try dsimp only); intro q9; first | exact absurd rfl q9 | exact absurd z0 q9 | assumption | solve_by_elim | omega)), (by first | ((try dsimp only); omega) | ((try dsimp only); intro q9; first | exact absurd rfl q9 | exact absurd z0 q9 | assumption | solve_by_elim | omega)), (by first | ((try dsimp only); omega) | ((try dsimp only); intro q9; first | exact absurd rfl q9 | exact absurd z0 q9 | assumption | solve_by_elim | omega)), (by first | ((try dsimp only); omega) | ((try dsimp only); intro q9; first | exact absurd rfl q9 | exact absurd z0 q9 | assumption | solve_by_elim | omega)), (by first | ((try dsimp only); omega) | ((try dsimp only); intro q9; first | exact absurd rfl q9 | exact absurd z0 q9 | assumption | solve_by_elim | omega)), (by first | ((try dsimp only); omega) | ((try dsimp only); intro q9; first | exact absurd rfl q9 | exact absurd z0 q9 | assumption | solve_by_elim | omega))⟩
              · have q56x : (v29x.1).toInt = 0 := congrArg Int32.toInt b31x
                refine wq_gos (f := 1) (pc2 := 124) (ls2 := [(2, .int (v29x.1)), (1, .int (lwF va (10 - 0 + 1) 0)), (0, .ref 4)]) (st2 := [.int 0]) (h2 := h828x) (dc2 := 0) (ds2 := 0) 1 rfl ?_
                have e57x := (f828x.2 _ _ (wnc (by omega) (wnc (by omega) (wnc (by omega) wn0))) hL)
                have e58x := (f828x.2 _ _ (wnc (by omega) (wnc (by omega) (wnc (by omega) wn0))) hG)
                have e59x := (f828x.2 _ _ (wnc (by omega) (wnc (by omega) (wnc (by omega) wn0))) hV)
                have e60x := (f828x.2 _ _ (wnc (by omega) (wnc (by omega) (wnc (by omega) wn0))) hN)
                have e61x := (f828x.2 _ _ (wnc (by omega) (wnc (by omega) (wnc (by omega) wn0))) hQ)
                have hx : (liG tb ln wr wa nx kd sta va tld lk hd ht bl sd rt ll lg sv sp nm po so wy) = ((0 : Int32), (v29x.2.1), (v29x.2.2.1), (v29x.2.2.2.1), (v29x.2.2.2.2.1), (v29x.2.2.2.2.2.1), (v29x.2.2.2.2.2.2.1), tld, lk, hd, ht, bl, sd, rt, ll, lg, sv, sp, nm, po, (v29x.2.2.2.2.2.2.2.1), (v29x.2.2.2.2.2.2.2.2)) := by unfold liG; rw [if_neg (fun q => q b2x), if_pos b15x, if_pos b18x, if_pos b20x, if_pos b23x, if_pos b26x, zlet_eq hv30x, if_neg (fun q => q b31x)]
                rw [hx]
                exact wq_ret rfl rfl ⟨h828x, rfl, (wFr_sub f828x (by simp)), by omega, c028x, c128x, e57x, e58x, e59x, e60x, e61x, c228x, (by first | ((try dsimp only); omega) | ((try dsimp only); intro q9; first | exact absurd rfl q9 | exact absurd z0 q9 | assumption | solve_by_elim | omega)), (by first | ((try dsimp only); omega) | ((try dsimp only); intro q9; first | exact absurd rfl q9 | exact absurd z0 q9 | assumption | solve_by_elim | omega)), (by first | ((try dsimp only); omega) | ((try dsimp only); intro q9; first | exact absurd rfl q9 | exact absurd z0 q9 | assumption | solve_by_elim | omega)), (by first | ((try dsimp only); omega) | ((try dsimp only); intro q9; first | exact absurd rfl q9 | exact absurd z0 q9 | assumption | solve_by_elim | omega)), (by first | ((try dsimp only); omega) | ((try dsimp only); intro q9; first | exact absurd rfl q9 | exact absurd z0 q9 | assumption | solve_by_elim | omega)), (by first | ((try dsimp only); omega) | ((try dsimp only); intro q9; first | exact absurd rfl q9 | exact absurd z0 q9 | assumption | solve_by_elim | omega))⟩
            · have q62x : (lwF va (10 - 0 + 1) 0).toInt = 8 := congrArg Int32.toInt b26x
              refine wq_gos (f := 1) (pc2 := 108) (ls2 := [(1, .int (lwF va (10 - 0 + 1) 0)), (0, .ref 4)]) (st2 := [.ref 4]) (h2 := h) (dc2 := 0) (ds2 := 0) 1 rfl ?_
              refine wq_inlv (y2 := 52) (as := []) rfl rfl rfl hR rfl (wq_mono (c_rz hR hT hA hN hQ hW (by first | omega | assumption | decide | solve_by_elim) (by first | omega | assumption | decide | solve_by_elim) (by first | omega | assumption | decide | solve_by_elim) (by first | omega | assumption | decide | solve_by_elim) (by first | omega | assumption | decide | solve_by_elim)) ?_)
              rintro _ ⟨h863x, rfl, f863x, l863x, c063x, c163x, c263x, c363x, p063x, p163x, p263x⟩
              show wq 46 111 [(1, .int (lwF va (10 - 0 + 1) 0)), (0, .ref 4)] [.int ((rzG tb ln wr wa nx kd sta va sp nm po).1)] h863x 0 0 _
              obtain ⟨v64x, hv65x⟩ : ∃ x, x = (rzG tb ln wr wa nx kd sta va sp nm po) := ⟨_, rfl⟩
              try rw [← hv65x] at c063x
              try rw [← hv65x] at c163x
              try rw [← hv65x] at c263x
              try rw [← hv65x] at c363x
              try rw [← hv65x] at p063x
              try rw [← hv65x] at p163x
              try rw [← hv65x] at p263x
              try rw [← hv65x]
              refine wq_gos (f := 1) (pc2 := 120) (ls2 := [(2, .int (v64x.1)), (1, .int (lwF va (10 - 0 + 1) 0)), (0, .ref 4)]) (st2 := [.int (v64x.1)]) (h2 := h863x) (dc2 := 0) (ds2 := 0) 3 rfl ?_
              refine wq_ne0 rfl rfl (fun b66x => ?_) (fun b66x => ?_)
              · have q67x : (v64x.1).toInt ≠ 0 := fun q => b66x (Int32.toInt_inj.mp q)
                refine wq_gos (f := 1) (pc2 := 126) (ls2 := [(2, .int (v64x.1)), (1, .int (lwF va (10 - 0 + 1) 0)), (0, .ref 4)]) (st2 := [.ref 4]) (h2 := h863x) (dc2 := 0) (ds2 := 0) 1 rfl ?_
                have e68x := (f863x.2 _ _ (wnc (by decide) (wnc (by omega) (wnc (by omega) (wnc (by omega) wn0)))) hT)
                refine wq_inlv (y2 := 58) (as := []) rfl rfl rfl c063x rfl (wq_mono (c_adv c063x e68x (by first | omega | assumption | decide | solve_by_elim) (by first | omega | assumption | decide | solve_by_elim)) ?_)
                rintro _ ⟨h869x, rfl, f869x, l869x, c069x, p069x⟩
                show wq 46 129 [(2, .int (v64x.1)), (1, .int (lwF va (10 - 0 + 1) 0)), (0, .ref 4)] [] h869x 0 0 _
                obtain ⟨v70x, hv71x⟩ : ∃ x, x = (adG tb ln (v64x.2.2.2.1) (v64x.2.2.2.2.1) (v64x.2.2.2.2.2.1) (v64x.2.2.2.2.2.2.1)) := ⟨_, rfl⟩
                try rw [← hv71x] at c069x
                try rw [← hv71x] at p069x
                try rw [← hv71x]
                refine wq_gos (f := 1) (pc2 := 130) (ls2 := [(2, .int (v64x.1)), (1, .int (lwF va (10 - 0 + 1) 0)), (0, .ref 4)]) (st2 := [.ref 4]) (h2 := h869x) (dc2 := 0) (ds2 := 0) 1 rfl ?_
                refine wq_getf rfl c069x rfl rfl ?_
                refine wq_gos (f := 1) (pc2 := 134) (ls2 := [(2, .int (v64x.1)), (1, .int (lwF va (10 - 0 + 1) 0)), (0, .ref 4)]) (st2 := [.int 4, .int (v70x.2.1)]) (h2 := h869x) (dc2 := 0) (ds2 := 0) 1 rfl ?_
                have q72x : (4 : Int32).toInt = 4 := rfl
                refine wq_eq2 rfl rfl (fun b73x => ?_) (fun b73x => ?_)
                · have q74x : (v70x.2.1).toInt = 4 := congrArg Int32.toInt b73x
                  refine wq_gos (f := 1) (pc2 := 150) (ls2 := [(2, .int (v64x.1)), (1, .int (lwF va (10 - 0 + 1) 0)), (0, .ref 4)]) (st2 := [.int 1]) (h2 := h869x) (dc2 := 0) (ds2 := 0) 2 rfl ?_
                  have e75x := (f869x.2 _ _ (wnc (by omega) wn0) c163x)
                  have e76x := (f869x.2 _ _ (wnc (by omega) wn0) (f863x.2 _ _ (wnc (by omega) (wnc (by omega) (wnc (by omega) (wnc (by omega) wn0)))) hL))
                  have e77x := (f869x.2 _ _ (wnc (by omega) wn0) (f863x.2 _ _ (wnc (by omega) (wnc (by omega) (wnc (by omega) (wnc (by omega) wn0)))) hG))
                  have e78x := (f869x.2 _ _ (wnc (by omega) wn0) (f863x.2 _ _ (wnc (by omega) (wnc (by omega) (wnc (by omega) (wnc (by omega) wn0)))) hV))
                  have e79x := (f869x.2 _ _ (wnc (by omega) wn0) c263x)
                  have e80x := (f869x.2 _ _ (wnc (by omega) wn0) c363x)
                  have e81x := (f869x.2 _ _ (wnc (by omega) wn0) (f863x.2 _ _ (wnc (by omega) (wnc (by omega) (wnc (by omega) (wnc (by omega) wn0)))) hW))
                  have hx : (liG tb ln wr wa nx kd sta va tld lk hd ht bl sd rt ll lg sv sp nm po so wy) = ((1 : Int32), (v64x.2.1), (v64x.2.2.1), (v70x.1), (v70x.2.1), (v70x.2.2.1), (v70x.2.2.2), tld, lk, hd, ht, bl, sd, rt, ll, lg, sv, (v64x.2.2.2.2.2.2.2.1), (v64x.2.2.2.2.2.2.2.2.1), (v64x.2.2.2.2.2.2.2.2.2), so, wy) := by unfold liG; rw [if_neg (fun q => q b2x), if_pos b15x, if_pos b18x, if_pos b20x, if_pos b23x, if_neg (fun q => q b26x), zlet_eq hv65x, if_pos b66x, zlet_eq hv71x, if_pos b73x]
                  rw [hx]
                  exact wq_ret rfl rfl ⟨h869x, rfl, (wFr_tr (wFr_sub f863x (by simp)) (wFr_sub f869x (by simp))), by omega, c069x, e75x, e76x, e77x, e78x, e79x, e80x, e81x, (by first | ((try dsimp only); omega) | ((try dsimp only); intro q9; first | exact absurd rfl q9 | exact absurd z0 q9 | assumption | solve_by_elim | omega)), (by first | ((try dsimp only); omega) | ((try dsimp only); intro q9; first | exact absurd rfl q9 | exact absurd z0 q9 | assumption | solve_by_elim | omega)), (by first | ((try dsimp only); omega) | ((try dsimp only); intro q9; first | exact absurd rfl q9 | exact absurd z0 q9 | assumption | solve_by_elim | omega)), (by first | ((try dsimp only); omega) | ((try dsimp only); intro q9; first | exact absurd rfl q9 | exact absurd z0 q9 | assumption | solve_by_elim | omega)), (by first | ((try dsimp only); omega) | ((try dsimp only); intro q9; first | exact absurd rfl q9 | exact absurd z0 q9 | assumption | solve_by_elim | omega)), (by first | ((try dsimp only); omega) | ((try dsimp only); intro q9; first | exact absurd rfl q9 | exact absurd z0 q9 | assumption | solve_by_elim | omega))⟩
                · have q82x : (v70x.2.1).toInt ≠ 4 := fun q => b73x (Int32.toInt_inj.mp q)
                  refine wq_gos (f := 1) (pc2 := 139) (ls2 := [(2, .int (v64x.1)), (1, .int (lwF va (10 - 0 + 1) 0)), (0, .ref 4)]) (st2 := [.int 1, .ref 4]) (h2 := h869x) (dc2 := 0) (ds2 := 0) 2 rfl ?_
                  refine wq_inlv (y2 := 45) (as := [.int 1]) rfl rfl rfl c069x rfl (wq_mono (c_ref c069x) ?_)
                  rintro _ ⟨h883x, rfl, f883x, l883x, c083x⟩
                  show wq 46 142 [(2, .int (v64x.1)), (1, .int (lwF va (10 - 0 + 1) 0)), (0, .ref 4)] [.int 0] h883x 0 0 _
                  refine wq_gos (f := 1) (pc2 := 150) (ls2 := [(2, .int (v64x.1)), (1, .int (lwF va (10 - 0 + 1) 0)), (0, .ref 4)]) (st2 := [.int 0]) (h2 := h883x) (dc2 := 0) (ds2 := 0) 2 rfl ?_
                  have e84x := (f883x.2 _ _ (wnc (by omega) wn0) (f869x.2 _ _ (wnc (by omega) wn0) c163x))
                  have e85x := (f883x.2 _ _ (wnc (by omega) wn0) (f869x.2 _ _ (wnc (by omega) wn0) (f863x.2 _ _ (wnc (by omega) (wnc (by omega) (wnc (by omega) (wnc (by omega) wn0)))) hL)))
                  have e86x := (f883x.2 _ _ (wnc (by omega) wn0) (f869x.2 _ _ (wnc (by omega) wn0) (f863x.2 _ _ (wnc (by omega) (wnc (by omega) (wnc (by omega) (wnc (by omega) wn0)))) hG)))
                  have e87x := (f883x.2 _ _ (wnc (by omega) wn0) (f869x.2 _ _ (wnc (by omega) wn0) (f863x.2 _ _ (wnc (by omega) (wnc (by omega) (wnc (by omega) (wnc (by omega) wn0)))) hV)))
                  have e88x := (f883x.2 _ _ (wnc (by omega) wn0) (f869x.2 _ _ (wnc (by omega) wn0) c263x))
                  have e89x := (f883x.2 _ _ (wnc (by omega) wn0) (f869x.2 _ _ (wnc (by omega) wn0) c363x))
                  have e90x := (f883x.2 _ _ (wnc (by omega) wn0) (f869x.2 _ _ (wnc (by omega) wn0) (f863x.2 _ _ (wnc (by omega) (wnc (by omega) (wnc (by omega) (wnc (by omega) wn0)))) hW)))
                  have hx : (liG tb ln wr wa nx kd sta va tld lk hd ht bl sd rt ll lg sv sp nm po so wy) = ((0 : Int32), (1 : Int32), (v70x.2.2.1), (v70x.1), (v70x.2.1), (v70x.2.2.1), (v70x.2.2.2), tld, lk, hd, ht, bl, sd, rt, ll, lg, sv, (v64x.2.2.2.2.2.2.2.1), (v64x.2.2.2.2.2.2.2.2.1), (v64x.2.2.2.2.2.2.2.2.2), so, wy) := by unfold liG; rw [if_neg (fun q => q b2x), if_pos b15x, if_pos b18x, if_pos b20x, if_pos b23x, if_neg (fun q => q b26x), zlet_eq hv65x, if_pos b66x, zlet_eq hv71x, if_neg b73x]
                  rw [hx]
                  exact wq_ret rfl rfl ⟨h883x, rfl, (wFr_tr (wFr_sub f863x (by simp)) (wFr_tr (wFr_sub f869x (by simp)) (wFr_sub f883x (by simp)))), by omega, c083x, e84x, e85x, e86x, e87x, e88x, e89x, e90x, (by first | ((try dsimp only); omega) | ((try dsimp only); intro q9; first | exact absurd rfl q9 | exact absurd z0 q9 | assumption | solve_by_elim | omega)), (by first | ((try dsimp only); omega) | ((try dsimp only); intro q9; first | exact absurd rfl q9 | exact absurd z0 q9 | assumption | solve_by_elim | omega)), (by first | ((try dsimp only); omega) | ((try dsimp only); intro q9; first | exact absurd rfl q9 | exact absurd z0 q9 | assumption | solve_by_elim | omega)), (by first | ((try dsimp only); omega) | ((try dsimp only); intro q9; first | exact absurd rfl q9 | exact absurd z0 q9 | assumption | solve_by_elim | omega)), (by first | ((try dsimp only); omega) | ((try dsimp only); intro q9; first | exact absurd rfl q9 | exact absurd z0 q9 | assumption | solve_by_elim | omega)), (by first | ((try dsimp only); omega) | ((try dsimp only); intro q9; first | exact absurd rfl q9 | exact absurd z0 q9 | assumption | solve_by_elim | omega))⟩
              · have q91x : (v64x.1).toInt = 0 := congrArg Int32.toInt b66x
                refine wq_gos (f := 1) (pc2 := 124) (ls2 := [(2, .int (v64x.1)), (1, .int (lwF va (10 - 0 + 1) 0)), (0, .ref 4)]) (st2 := [.int 0]) (h2 := h863x) (dc2 := 0) (ds2 := 0) 1 rfl ?_
                have e92x := (f863x.2 _ _ (wnc (by omega) (wnc (by omega) (wnc (by omega) (wnc (by omega) wn0)))) hL)
                have e93x := (f863x.2 _ _ (wnc (by omega) (wnc (by omega) (wnc (by omega) (wnc (by omega) wn0)))) hG)
                have e94x := (f863x.2 _ _ (wnc (by omega) (wnc (by omega) (wnc (by omega) (wnc (by omega) wn0)))) hV)
                have e95x := (f863x.2 _ _ (wnc (by omega) (wnc (by omega) (wnc (by omega) (wnc (by omega) wn0)))) hW)
                have hx : (liG tb ln wr wa nx kd sta va tld lk hd ht bl sd rt ll lg sv sp nm po so wy) = ((0 : Int32), (v64x.2.1), (v64x.2.2.1), (v64x.2.2.2.1), (v64x.2.2.2.2.1), (v64x.2.2.2.2.2.1), (v64x.2.2.2.2.2.2.1), tld, lk, hd, ht, bl, sd, rt, ll, lg, sv, (v64x.2.2.2.2.2.2.2.1), (v64x.2.2.2.2.2.2.2.2.1), (v64x.2.2.2.2.2.2.2.2.2), so, wy) := by unfold liG; rw [if_neg (fun q => q b2x), if_pos b15x, if_pos b18x, if_pos b20x, if_pos b23x, if_neg (fun q => q b26x), zlet_eq hv65x, if_neg (fun q => q b66x)]
                rw [hx]
                exact wq_ret rfl rfl ⟨h863x, rfl, (wFr_sub f863x (by simp)), by omega, c063x, c163x, e92x, e93x, e94x, c263x, c363x, e95x, (by first | ((try dsimp only); omega) | ((try dsimp only); intro q9; first | exact absurd rfl q9 | exact absurd z0 q9 | assumption | solve_by_elim | omega)), (by first | ((try dsimp only); omega) | ((try dsimp only); intro q9; first | exact absurd rfl q9 | exact absurd z0 q9 | assumption | solve_by_elim | omega)), (by first | ((try dsimp only); omega) | ((try dsimp only); intro q9; first | exact absurd rfl q9 | exact absurd z0 q9 | assumption | solve_by_elim | omega)), (by first | ((try dsimp only); omega) | ((try dsimp only); intro q9; first | exact absurd rfl q9 | exact absurd z0 q9 | assumption | solve_by_elim | omega)), (by first | ((try dsimp only); omega) | ((try dsimp only); intro q9; first | exact absurd rfl q9 | exact absurd z0 q9 | assumption | solve_by_elim | omega)), (by first | ((try dsimp only); omega) | ((try dsimp only); intro q9; first | exact absurd rfl q9 | exact absurd z0 q9 | assumption | solve_by_elim | omega))⟩
          · have q96x : (lwF va (10 - 0 + 1) 0).toInt = 7 := congrArg Int32.toInt b23x
            refine wq_gos (f := 1) (pc2 := 94) (ls2 := [(1, .int (lwF va (10 - 0 + 1) 0)), (0, .ref 4)]) (st2 := [.ref 4]) (h2 := h) (dc2 := 0) (ds2 := 0) 1 rfl ?_
            refine wq_inlv (y2 := 50) (as := []) rfl rfl rfl hR rfl (wq_mono (c_rp hR hT hA hV (by first | omega | assumption | decide | solve_by_elim) (by first | omega | assumption | decide | solve_by_elim) (by first | omega | assumption | decide | solve_by_elim) (by first | omega | assumption | decide | solve_by_elim)) ?_)
            rintro _ ⟨h897x, rfl, f897x, l897x, c097x, c197x, p097x, p197x⟩
            show wq 46 97 [(1, .int (lwF va (10 - 0 + 1) 0)), (0, .ref 4)] [.int ((rpG tb ln wr wa nx kd sta va tld sv).1)] h897x 0 0 _
            obtain ⟨v98x, hv99x⟩ : ∃ x, x = (rpG tb ln wr wa nx kd sta va tld sv) := ⟨_, rfl⟩
            try rw [← hv99x] at c097x
            try rw [← hv99x] at c197x
            try rw [← hv99x] at p097x
            try rw [← hv99x] at p197x
            try rw [← hv99x]
            refine wq_gos (f := 1) (pc2 := 120) (ls2 := [(2, .int (v98x.1)), (1, .int (lwF va (10 - 0 + 1) 0)), (0, .ref 4)]) (st2 := [.int (v98x.1)]) (h2 := h897x) (dc2 := 0) (ds2 := 0) 3 rfl ?_
            refine wq_ne0 rfl rfl (fun b100x => ?_) (fun b100x => ?_)
            · have q101x : (v98x.1).toInt ≠ 0 := fun q => b100x (Int32.toInt_inj.mp q)
              refine wq_gos (f := 1) (pc2 := 126) (ls2 := [(2, .int (v98x.1)), (1, .int (lwF va (10 - 0 + 1) 0)), (0, .ref 4)]) (st2 := [.ref 4]) (h2 := h897x) (dc2 := 0) (ds2 := 0) 1 rfl ?_
              have e102x := (f897x.2 _ _ (wnc (by decide) (wnc (by omega) wn0)) hT)
              refine wq_inlv (y2 := 58) (as := []) rfl rfl rfl c097x rfl (wq_mono (c_adv c097x e102x (by first | omega | assumption | decide | solve_by_elim) (by first | omega | assumption | decide | solve_by_elim)) ?_)
              rintro _ ⟨h8103x, rfl, f8103x, l8103x, c0103x, p0103x⟩
              show wq 46 129 [(2, .int (v98x.1)), (1, .int (lwF va (10 - 0 + 1) 0)), (0, .ref 4)] [] h8103x 0 0 _
              obtain ⟨v104x, hv105x⟩ : ∃ x, x = (adG tb ln (v98x.2.2.2.1) (v98x.2.2.2.2.1) (v98x.2.2.2.2.2.1) (v98x.2.2.2.2.2.2.1)) := ⟨_, rfl⟩
              try rw [← hv105x] at c0103x
              try rw [← hv105x] at p0103x
              try rw [← hv105x]
              refine wq_gos (f := 1) (pc2 := 130) (ls2 := [(2, .int (v98x.1)), (1, .int (lwF va (10 - 0 + 1) 0)), (0, .ref 4)]) (st2 := [.ref 4]) (h2 := h8103x) (dc2 := 0) (ds2 := 0) 1 rfl ?_
              refine wq_getf rfl c0103x rfl rfl ?_
              refine wq_gos (f := 1) (pc2 := 134) (ls2 := [(2, .int (v98x.1)), (1, .int (lwF va (10 - 0 + 1) 0)), (0, .ref 4)]) (st2 := [.int 4, .int (v104x.2.1)]) (h2 := h8103x) (dc2 := 0) (ds2 := 0) 1 rfl ?_
              have q106x : (4 : Int32).toInt = 4 := rfl
              refine wq_eq2 rfl rfl (fun b107x => ?_) (fun b107x => ?_)
              · have q108x : (v104x.2.1).toInt = 4 := congrArg Int32.toInt b107x
                refine wq_gos (f := 1) (pc2 := 150) (ls2 := [(2, .int (v98x.1)), (1, .int (lwF va (10 - 0 + 1) 0)), (0, .ref 4)]) (st2 := [.int 1]) (h2 := h8103x) (dc2 := 0) (ds2 := 0) 2 rfl ?_
                have e109x := (f8103x.2 _ _ (wnc (by omega) wn0) (f897x.2 _ _ (wnc (by omega) (wnc (by omega) wn0)) hA))
                have e110x := (f8103x.2 _ _ (wnc (by omega) wn0) (f897x.2 _ _ (wnc (by omega) (wnc (by omega) wn0)) hL))
                have e111x := (f8103x.2 _ _ (wnc (by omega) wn0) (f897x.2 _ _ (wnc (by omega) (wnc (by omega) wn0)) hG))
                have e112x := (f8103x.2 _ _ (wnc (by omega) wn0) c197x)
                have e113x := (f8103x.2 _ _ (wnc (by omega) wn0) (f897x.2 _ _ (wnc (by omega) (wnc (by omega) wn0)) hN))
                have e114x := (f8103x.2 _ _ (wnc (by omega) wn0) (f897x.2 _ _ (wnc (by omega) (wnc (by omega) wn0)) hQ))
                have e115x := (f8103x.2 _ _ (wnc (by omega) wn0) (f897x.2 _ _ (wnc (by omega) (wnc (by omega) wn0)) hW))
                have hx : (liG tb ln wr wa nx kd sta va tld lk hd ht bl sd rt ll lg sv sp nm po so wy) = ((1 : Int32), (v98x.2.1), (v98x.2.2.1), (v104x.1), (v104x.2.1), (v104x.2.2.1), (v104x.2.2.2), (v98x.2.2.2.2.2.2.2.1), lk, hd, ht, bl, sd, rt, ll, lg, (v98x.2.2.2.2.2.2.2.2), sp, nm, po, so, wy) := by unfold liG; rw [if_neg (fun q => q b2x), if_pos b15x, if_pos b18x, if_pos b20x, if_neg (fun q => q b23x), zlet_eq hv99x, if_pos b100x, zlet_eq hv105x, if_pos b107x]
                rw [hx]
                exact wq_ret rfl rfl ⟨h8103x, rfl, (wFr_tr (wFr_sub f897x (by simp)) (wFr_sub f8103x (by simp))), by omega, c0103x, e109x, e110x, e111x, e112x, e113x, e114x, e115x, (by first | ((try dsimp only); omega) | ((try dsimp only); intro q9; first | exact absurd rfl q9 | exact absurd z0 q9 | assumption | solve_by_elim | omega)), (by first | ((try dsimp only); omega) | ((try dsimp only); intro q9; first | exact absurd rfl q9 | exact absurd z0 q9 | assumption | solve_by_elim | omega)), (by first | ((try dsimp only); omega) | ((try dsimp only); intro q9; first | exact absurd rfl q9 | exact absurd z0 q9 | assumption | solve_by_elim | omega)), (by first | ((try dsimp only); omega) | ((try dsimp only); intro q9; first | exact absurd rfl q9 | exact absurd z0 q9 | assumption | solve_by_elim | omega)), (by first | ((try dsimp only); omega) | ((try dsimp only); intro q9; first | exact absurd rfl q9 | exact absurd z0 q9 | assumption | solve_by_elim | omega)), (by first | ((try dsimp only); omega) | ((try dsimp only); intro q9; first | exact absurd rfl q9 | exact absurd z0 q9 | assumption | solve_by_elim | omega))⟩
              · have q116x : (v104x.2.1).toInt ≠ 4 := fun q => b107x (Int32.toInt_inj.mp q)
                refine wq_gos (f := 1) (pc2 := 139) (ls2 := [(2, .int (v98x.1)), (1, .int (lwF va (10 - 0 + 1) 0)), (0, .ref 4)]) (st2 := [.int 1, .ref 4]) (h2 := h8103x) (dc2 := 0) (ds2 := 0) 2 rfl ?_
                refine wq_inlv (y2 := 45) (as := [.int 1]) rfl rfl rfl c0103x rfl (wq_mono (c_ref c0103x) ?_)
                rintro _ ⟨h8117x, rfl, f8117x, l8117x, c0117x⟩
                show wq 46 142 [(2, .int (v98x.1)), (1, .int (lwF va (10 - 0 + 1) 0)), (0, .ref 4)] [.int 0] h8117x 0 0 _
                refine wq_gos (f := 1) (pc2 := 150) (ls2 := [(2, .int (v98x.1)), (1, .int (lwF va (10 - 0 + 1) 0)), (0, .ref 4)]) (st2 := [.int 0]) (h2 := h8117x) (dc2 := 0) (ds2 := 0) 2 rfl ?_
                have e118x := (f8117x.2 _ _ (wnc (by omega) wn0) (f8103x.2 _ _ (wnc (by omega) wn0) (f897x.2 _ _ (wnc (by omega) (wnc (by omega) wn0)) hA)))
                have e119x := (f8117x.2 _ _ (wnc (by omega) wn0) (f8103x.2 _ _ (wnc (by omega) wn0) (f897x.2 _ _ (wnc (by omega) (wnc (by omega) wn0)) hL)))
                have e120x := (f8117x.2 _ _ (wnc (by omega) wn0) (f8103x.2 _ _ (wnc (by omega) wn0) (f897x.2 _ _ (wnc (by omega) (wnc (by omega) wn0)) hG)))
                have e121x := (f8117x.2 _ _ (wnc (by omega) wn0) (f8103x.2 _ _ (wnc (by omega) wn0) c197x))
                have e122x := (f8117x.2 _ _ (wnc (by omega) wn0) (f8103x.2 _ _ (wnc (by omega) wn0) (f897x.2 _ _ (wnc (by omega) (wnc (by omega) wn0)) hN)))
                have e123x := (f8117x.2 _ _ (wnc (by omega) wn0) (f8103x.2 _ _ (wnc (by omega) wn0) (f897x.2 _ _ (wnc (by omega) (wnc (by omega) wn0)) hQ)))
                have e124x := (f8117x.2 _ _ (wnc (by omega) wn0) (f8103x.2 _ _ (wnc (by omega) wn0) (f897x.2 _ _ (wnc (by omega) (wnc (by omega) wn0)) hW)))
                have hx : (liG tb ln wr wa nx kd sta va tld lk hd ht bl sd rt ll lg sv sp nm po so wy) = ((0 : Int32), (1 : Int32), (v104x.2.2.1), (v104x.1), (v104x.2.1), (v104x.2.2.1), (v104x.2.2.2), (v98x.2.2.2.2.2.2.2.1), lk, hd, ht, bl, sd, rt, ll, lg, (v98x.2.2.2.2.2.2.2.2), sp, nm, po, so, wy) := by unfold liG; rw [if_neg (fun q => q b2x), if_pos b15x, if_pos b18x, if_pos b20x, if_neg (fun q => q b23x), zlet_eq hv99x, if_pos b100x, zlet_eq hv105x, if_neg b107x]
                rw [hx]
                exact wq_ret rfl rfl ⟨h8117x, rfl, (wFr_tr (wFr_sub f897x (by simp)) (wFr_tr (wFr_sub f8103x (by simp)) (wFr_sub f8117x (by simp)))), by omega, c0117x, e118x, e119x, e120x, e121x, e122x, e123x, e124x, (by first | ((try dsimp only); omega) | ((try dsimp only); intro q9; first | exact absurd rfl q9 | exact absurd z0 q9 | assumption | solve_by_elim | omega)), (by first | ((try dsimp only); omega) | ((try dsimp only); intro q9; first | exact absurd rfl q9 | exact absurd z0 q9 | assumption | solve_by_elim | omega)), (by first | ((try dsimp only); omega) | ((try dsimp only); intro q9; first | exact absurd rfl q9 | exact absurd z0 q9 | assumption | solve_by_elim | omega)), (by first | ((try dsimp only); omega) | ((try dsimp only); intro q9; first | exact absurd rfl q9 | exact absurd z0 q9 | assumption | solve_by_elim | omega)), (by first | ((try dsimp only); omega) | ((try dsimp only); intro q9; first | exact absurd rfl q9 | exact absurd z0 q9 | assumption | solve_by_elim | omega)), (by first | ((try dsimp only); omega) | ((try dsimp only); intro q9; first | exact absurd rfl q9 | exact absurd z0 q9 | assumption | solve_by_elim | omega))⟩
            · have q125x : (v98x.1).toInt = 0 := congrArg Int32.toInt b100x
              refine wq_gos (f := 1) (pc2 := 124) (ls2 := [(2, .int (v98x.1)), (1, .int (lwF va (10 - 0 + 1) 0)), (0, .ref 4)]) (st2 := [.int 0]) (h2 := h897x) (dc2 := 0) (ds2 := 0) 1 rfl ?_
              have e126x := (f897x.2 _ _ (wnc (by omega) (wnc (by omega) wn0)) hA)
              have e127x := (f897x.2 _ _ (wnc (by omega) (wnc (by omega) wn0)) hL)
              have e128x := (f897x.2 _ _ (wnc (by omega) (wnc (by omega) wn0)) hG)
              have e129x := (f897x.2 _ _ (wnc (by omega) (wnc (by omega) wn0)) hN)
              have e130x := (f897x.2 _ _ (wnc (by omega) (wnc (by omega) wn0)) hQ)
              have e131x := (f897x.2 _ _ (wnc (by omega) (wnc (by omega) wn0)) hW)
              have hx : (liG tb ln wr wa nx kd sta va tld lk hd ht bl sd rt ll lg sv sp nm po so wy) = ((0 : Int32), (v98x.2.1), (v98x.2.2.1), (v98x.2.2.2.1), (v98x.2.2.2.2.1), (v98x.2.2.2.2.2.1), (v98x.2.2.2.2.2.2.1), (v98x.2.2.2.2.2.2.2.1), lk, hd, ht, bl, sd, rt, ll, lg, (v98x.2.2.2.2.2.2.2.2), sp, nm, po, so, wy) := by unfold liG; rw [if_neg (fun q => q b2x), if_pos b15x, if_pos b18x, if_pos b20x, if_neg (fun q => q b23x), zlet_eq hv99x, if_neg (fun q => q b100x)]
              rw [hx]
              exact wq_ret rfl rfl ⟨h897x, rfl, (wFr_sub f897x (by simp)), by omega, c097x, e126x, e127x, e128x, c197x, e129x, e130x, e131x, (by first | ((try dsimp only); omega) | ((try dsimp only); intro q9; first | exact absurd rfl q9 | exact absurd z0 q9 | assumption | solve_by_elim | omega)), (by first | ((try dsimp only); omega) | ((try dsimp only); intro q9; first | exact absurd rfl q9 | exact absurd z0 q9 | assumption | solve_by_elim | omega)), (by first | ((try dsimp only); omega) | ((try dsimp only); intro q9; first | exact absurd rfl q9 | exact absurd z0 q9 | assumption | solve_by_elim | omega)), (by first | ((try dsimp only); omega) | ((try dsimp only); intro q9; first | exact absurd rfl q9 | exact absurd z0 q9 | assumption | solve_by_elim | omega)), (by first | ((try dsimp only); omega) | ((try dsimp only); intro q9; first | exact absurd rfl q9 | exact absurd z0 q9 | assumption | solve_by_elim | omega)), (by first | ((try dsimp only); omega) | ((try dsimp only); intro q9; first | exact absurd rfl q9 | exact absurd z0 q9 | assumption | solve_by_elim | omega))⟩
        · have q132x : (lwF va (10 - 0 + 1) 0).toInt = 6 := congrArg Int32.toInt b20x
          refine wq_gos (f := 1) (pc2 := 80) (ls2 := [(1, .int (lwF va (10 - 0 + 1) 0)), (0, .ref 4)]) (st2 := [.ref 4]) (h2 := h) (dc2 := 0) (ds2 := 0) 1 rfl ?_
          refine wq_inlv (y2 := 49) (as := []) rfl rfl rfl hR rfl (wq_mono (c_rl hR hT hA hL hG (by first | omega | assumption | decide | solve_by_elim) (by first | omega | assumption | decide | solve_by_elim) (by first | omega | assumption | decide | solve_by_elim) (by first | omega | assumption | decide | solve_by_elim)) ?_)
          rintro _ ⟨h8133x, rfl, f8133x, l8133x, c0133x, c1133x, c2133x, p0133x, p1133x⟩
          show wq 46 83 [(1, .int (lwF va (10 - 0 + 1) 0)), (0, .ref 4)] [.int ((rlG tb ln wr wa nx kd sta va tld ll lg).1)] h8133x 0 0 _
          obtain ⟨v134x, hv135x⟩ : ∃ x, x = (rlG tb ln wr wa nx kd sta va tld ll lg) := ⟨_, rfl⟩
          try rw [← hv135x] at c0133x
          try rw [← hv135x] at c1133x
          try rw [← hv135x] at c2133x
          try rw [← hv135x] at p0133x
          try rw [← hv135x] at p1133x
          try rw [← hv135x]
          refine wq_gos (f := 1) (pc2 := 120) (ls2 := [(2, .int (v134x.1)), (1, .int (lwF va (10 - 0 + 1) 0)), (0, .ref 4)]) (st2 := [.int (v134x.1)]) (h2 := h8133x) (dc2 := 0) (ds2 := 0) 3 rfl ?_
          refine wq_ne0 rfl rfl (fun b136x => ?_) (fun b136x => ?_)
          · have q137x : (v134x.1).toInt ≠ 0 := fun q => b136x (Int32.toInt_inj.mp q)
            refine wq_gos (f := 1) (pc2 := 126) (ls2 := [(2, .int (v134x.1)), (1, .int (lwF va (10 - 0 + 1) 0)), (0, .ref 4)]) (st2 := [.ref 4]) (h2 := h8133x) (dc2 := 0) (ds2 := 0) 1 rfl ?_
            have e138x := (f8133x.2 _ _ (wnc (by decide) (wnc (by omega) (wnc (by omega) wn0))) hT)
            refine wq_inlv (y2 := 58) (as := []) rfl rfl rfl c0133x rfl (wq_mono (c_adv c0133x e138x (by first | omega | assumption | decide | solve_by_elim) (by first | omega | assumption | decide | solve_by_elim)) ?_)
            rintro _ ⟨h8139x, rfl, f8139x, l8139x, c0139x, p0139x⟩
            show wq 46 129 [(2, .int (v134x.1)), (1, .int (lwF va (10 - 0 + 1) 0)), (0, .ref 4)] [] h8139x 0 0 _
            obtain ⟨v140x, hv141x⟩ : ∃ x, x = (adG tb ln (v134x.2.2.2.1) (v134x.2.2.2.2.1) (v134x.2.2.2.2.2.1) (v134x.2.2.2.2.2.2.1)) := ⟨_, rfl⟩
            try rw [← hv141x] at c0139x
            try rw [← hv141x] at p0139x
            try rw [← hv141x]
            refine wq_gos (f := 1) (pc2 := 130) (ls2 := [(2, .int (v134x.1)), (1, .int (lwF va (10 - 0 + 1) 0)), (0, .ref 4)]) (st2 := [.ref 4]) (h2 := h8139x) (dc2 := 0) (ds2 := 0) 1 rfl ?_
            refine wq_getf rfl c0139x rfl rfl ?_
            refine wq_gos (f := 1) (pc2 := 134) (ls2 := [(2, .int (v134x.1)), (1, .int (lwF va (10 - 0 + 1) 0)), (0, .ref 4)]) (st2 := [.int 4, .int (v140x.2.1)]) (h2 := h8139x) (dc2 := 0) (ds2 := 0) 1 rfl ?_
            have q142x : (4 : Int32).toInt = 4 := rfl
            refine wq_eq2 rfl rfl (fun b143x => ?_) (fun b143x => ?_)
            · have q144x : (v140x.2.1).toInt = 4 := congrArg Int32.toInt b143x
              refine wq_gos (f := 1) (pc2 := 150) (ls2 := [(2, .int (v134x.1)), (1, .int (lwF va (10 - 0 + 1) 0)), (0, .ref 4)]) (st2 := [.int 1]) (h2 := h8139x) (dc2 := 0) (ds2 := 0) 2 rfl ?_
              have e145x := (f8139x.2 _ _ (wnc (by omega) wn0) (f8133x.2 _ _ (wnc (by omega) (wnc (by omega) (wnc (by omega) wn0))) hA))
              have e146x := (f8139x.2 _ _ (wnc (by omega) wn0) c1133x)
              have e147x := (f8139x.2 _ _ (wnc (by omega) wn0) c2133x)
              have e148x := (f8139x.2 _ _ (wnc (by omega) wn0) (f8133x.2 _ _ (wnc (by omega) (wnc (by omega) (wnc (by omega) wn0))) hV))
              have e149x := (f8139x.2 _ _ (wnc (by omega) wn0) (f8133x.2 _ _ (wnc (by omega) (wnc (by omega) (wnc (by omega) wn0))) hN))
              have e150x := (f8139x.2 _ _ (wnc (by omega) wn0) (f8133x.2 _ _ (wnc (by omega) (wnc (by omega) (wnc (by omega) wn0))) hQ))
              have e151x := (f8139x.2 _ _ (wnc (by omega) wn0) (f8133x.2 _ _ (wnc (by omega) (wnc (by omega) (wnc (by omega) wn0))) hW))
              have hx : (liG tb ln wr wa nx kd sta va tld lk hd ht bl sd rt ll lg sv sp nm po so wy) = ((1 : Int32), (v134x.2.1), (v134x.2.2.1), (v140x.1), (v140x.2.1), (v140x.2.2.1), (v140x.2.2.2), (v134x.2.2.2.2.2.2.2.1), lk, hd, ht, bl, sd, rt, (v134x.2.2.2.2.2.2.2.2.1), (v134x.2.2.2.2.2.2.2.2.2), sv, sp, nm, po, so, wy) := by unfold liG; rw [if_neg (fun q => q b2x), if_pos b15x, if_pos b18x, if_neg (fun q => q b20x), zlet_eq hv135x, if_pos b136x, zlet_eq hv141x, if_pos b143x]
              rw [hx]
              exact wq_ret rfl rfl ⟨h8139x, rfl, (wFr_tr (wFr_sub f8133x (by simp)) (wFr_sub f8139x (by simp))), by omega, c0139x, e145x, e146x, e147x, e148x, e149x, e150x, e151x, (by first | ((try dsimp only); omega) | ((try dsimp only); intro q9; first | exact absurd rfl q9 | exact absurd z0 q9 | assumption | solve_by_elim | omega)), (by first | ((try dsimp only); omega) | ((try dsimp only); intro q9; first | exact absurd rfl q9 | exact absurd z0 q9 | assumption | solve_by_elim | omega)), (by first | ((try dsimp only); omega) | ((try dsimp only); intro q9; first | exact absurd rfl q9 | exact absurd z0 q9 | assumption | solve_by_elim | omega)), (by first | ((try dsimp only); omega) | ((try dsimp only); intro q9; first | exact absurd rfl q9 | exact absurd z0 q9 | assumption | solve_by_elim | omega)), (by first | ((try dsimp only); omega) | ((try dsimp only); intro q9; first | exact absurd rfl q9 | exact absurd z0 q9 | assumption | solve_by_elim | omega)), (by first | ((try dsimp only); omega) | ((try dsimp only); intro q9; first | exact absurd rfl q9 | exact absurd z0 q9 | assumption | solve_by_elim | omega))⟩
            · have q152x : (v140x.2.1).toInt ≠ 4 := fun q => b143x (Int32.toInt_inj.mp q)
              refine wq_gos (f := 1) (pc2 := 139) (ls2 := [(2, .int (v134x.1)), (1, .int (lwF va (10 - 0 + 1) 0)), (0, .ref 4)]) (st2 := [.int 1, .ref 4]) (h2 := h8139x) (dc2 := 0) (ds2 := 0) 2 rfl ?_
              refine wq_inlv (y2 := 45) (as := [.int 1]) rfl rfl rfl c0139x rfl (wq_mono (c_ref c0139x) ?_)
              rintro _ ⟨h8153x, rfl, f8153x, l8153x, c0153x⟩
              show wq 46 142 [(2, .int (v134x.1)), (1, .int (lwF va (10 - 0 + 1) 0)), (0, .ref 4)] [.int 0] h8153x 0 0 _
              refine wq_gos (f := 1) (pc2 := 150) (ls2 := [(2, .int (v134x.1)), (1, .int (lwF va (10 - 0 + 1) 0)), (0, .ref 4)]) (st2 := [.int 0]) (h2 := h8153x) (dc2 := 0) (ds2 := 0) 2 rfl ?_
              have e154x := (f8153x.2 _ _ (wnc (by omega) wn0) (f8139x.2 _ _ (wnc (by omega) wn0) (f8133x.2 _ _ (wnc (by omega) (wnc (by omega) (wnc (by omega) wn0))) hA)))
              have e155x := (f8153x.2 _ _ (wnc (by omega) wn0) (f8139x.2 _ _ (wnc (by omega) wn0) c1133x))
              have e156x := (f8153x.2 _ _ (wnc (by omega) wn0) (f8139x.2 _ _ (wnc (by omega) wn0) c2133x))
              have e157x := (f8153x.2 _ _ (wnc (by omega) wn0) (f8139x.2 _ _ (wnc (by omega) wn0) (f8133x.2 _ _ (wnc (by omega) (wnc (by omega) (wnc (by omega) wn0))) hV)))
              have e158x := (f8153x.2 _ _ (wnc (by omega) wn0) (f8139x.2 _ _ (wnc (by omega) wn0) (f8133x.2 _ _ (wnc (by omega) (wnc (by omega) (wnc (by omega) wn0))) hN)))
              have e159x := (f8153x.2 _ _ (wnc (by omega) wn0) (f8139x.2 _ _ (wnc (by omega) wn0) (f8133x.2 _ _ (wnc (by omega) (wnc (by omega) (wnc (by omega) wn0))) hQ)))
              have e160x := (f8153x.2 _ _ (wnc (by omega) wn0) (f8139x.2 _ _ (wnc (by omega) wn0) (f8133x.2 _ _ (wnc (by omega) (wnc (by omega) (wnc (by omega) wn0))) hW)))
              have hx : (liG tb ln wr wa nx kd sta va tld lk hd ht bl sd rt ll lg sv sp nm po so wy) = ((0 : Int32), (1 : Int32), (v140x.2.2.1), (v140x.1), (v140x.2.1), (v140x.2.2.1), (v140x.2.2.2), (v134x.2.2.2.2.2.2.2.1), lk, hd, ht, bl, sd, rt, (v134x.2.2.2.2.2.2.2.2.1), (v134x.2.2.2.2.2.2.2.2.2), sv, sp, nm, po, so, wy) := by unfold liG; rw [if_neg (fun q => q b2x), if_pos b15x, if_pos b18x, if_neg (fun q => q b20x), zlet_eq hv135x, if_pos b136x, zlet_eq hv141x, if_neg b143x]
              rw [hx]
              exact wq_ret rfl rfl ⟨h8153x, rfl, (wFr_tr (wFr_sub f8133x (by simp)) (wFr_tr (wFr_sub f8139x (by simp)) (wFr_sub f8153x (by simp)))), by omega, c0153x, e154x, e155x, e156x, e157x, e158x, e159x, e160x, (by first | ((try dsimp only); omega) | ((try dsimp only); intro q9; first | exact absurd rfl q9 | exact absurd z0 q9 | assumption | solve_by_elim | omega)), (by first | ((try dsimp only); omega) | ((try dsimp only); intro q9; first | exact absurd rfl q9 | exact absurd z0 q9 | assumption | solve_by_elim | omega)), (by first | ((try dsimp only); omega) | ((try dsimp only); intro q9; first | exact absurd rfl q9 | exact absurd z0 q9 | assumption | solve_by_elim | omega)), (by first | ((try dsimp only); omega) | ((try dsimp only); intro q9; first | exact absurd rfl q9 | exact absurd z0 q9 | assumption | solve_by_elim | omega)), (by first | ((try dsimp only); omega) | ((try dsimp only); intro q9; first | exact absurd rfl q9 | exact absurd z0 q9 | assumption | solve_by_elim | omega)), (by first | ((try dsimp only); omega) | ((try dsimp only); intro q9; first | exact absurd rfl q9 | exact absurd z0 q9 | assumption | solve_by_elim | omega))⟩
          · have q161x : (v134x.1).toInt = 0 := congrArg Int32.toInt b136x
            refine wq_gos (f := 1) (pc2 := 124) (ls2 := [(2, .int (v134x.1)), (1, .int (lwF va (10 - 0 + 1) 0)), (0, .ref 4)]) (st2 := [.int 0]) (h2 := h8133x) (dc2 := 0) (ds2 := 0) 1 rfl ?_
            have e162x := (f8133x.2 _ _ (wnc (by omega) (wnc (by omega) (wnc (by omega) wn0))) hA)
            have e163x := (f8133x.2 _ _ (wnc (by omega) (wnc (by omega) (wnc (by omega) wn0))) hV)
            have e164x := (f8133x.2 _ _ (wnc (by omega) (wnc (by omega) (wnc (by omega) wn0))) hN)
            have e165x := (f8133x.2 _ _ (wnc (by omega) (wnc (by omega) (wnc (by omega) wn0))) hQ)
            have e166x := (f8133x.2 _ _ (wnc (by omega) (wnc (by omega) (wnc (by omega) wn0))) hW)
            have hx : (liG tb ln wr wa nx kd sta va tld lk hd ht bl sd rt ll lg sv sp nm po so wy) = ((0 : Int32), (v134x.2.1), (v134x.2.2.1), (v134x.2.2.2.1), (v134x.2.2.2.2.1), (v134x.2.2.2.2.2.1), (v134x.2.2.2.2.2.2.1), (v134x.2.2.2.2.2.2.2.1), lk, hd, ht, bl, sd, rt, (v134x.2.2.2.2.2.2.2.2.1), (v134x.2.2.2.2.2.2.2.2.2), sv, sp, nm, po, so, wy) := by unfold liG; rw [if_neg (fun q => q b2x), if_pos b15x, if_pos b18x, if_neg (fun q => q b20x), zlet_eq hv135x, if_neg (fun q => q b136x)]
            rw [hx]
            exact wq_ret rfl rfl ⟨h8133x, rfl, (wFr_sub f8133x (by simp)), by omega, c0133x, e162x, c1133x, c2133x, e163x, e164x, e165x, e166x, (by first | ((try dsimp only); omega) | ((try dsimp only); intro q9; first | exact absurd rfl q9 | exact absurd z0 q9 | assumption | solve_by_elim | omega)), (by first | ((try dsimp only); omega) | ((try dsimp only); intro q9; first | exact absurd rfl q9 | exact absurd z0 q9 | assumption | solve_by_elim | omega)), (by first | ((try dsimp only); omega) | ((try dsimp only); intro q9; first | exact absurd rfl q9 | exact absurd z0 q9 | assumption | solve_by_elim | omega)), (by first | ((try dsimp only); omega) | ((try dsimp only); intro q9; first | exact absurd rfl q9 | exact absurd z0 q9 | assumption | solve_by_elim | omega)), (by first | ((try dsimp only); omega) | ((try dsimp only); intro q9; first | exact absurd rfl q9 | exact absurd z0 q9 | assumption | solve_by_elim | omega)), (by first | ((try dsimp only); omega) | ((try dsimp only); intro q9; first | exact absurd rfl q9 | exact absurd z0 q9 | assumption | solve_by_elim | omega))⟩
      · refine wq_gos (f := 1) (pc2 := 35) (ls2 := [(1, .int (lwF va (10 - 0 + 1) 0)), (0, .ref 4)]) (st2 := [.int (lwF va (10 - 0 + 1) 0), .ref 4]) (h2 := h) (dc2 := 0) (ds2 := 0) 2 rfl ?_
        refine wq_inlv (y2 := 47) (as := [.int (lwF va (10 - 0 + 1) 0)]) rfl rfl rfl hR rfl (wq_mono (c_to hR) ?_)
        rintro _ ⟨h8167x, rfl, f8167x, l8167x, c0167x⟩
        show wq 46 38 [(1, .int (lwF va (10 - 0 + 1) 0)), (0, .ref 4)] [.int ((toG wr wa sta tld (lwF va (10 - 0 + 1) 0)).1)] h8167x 0 0 _
        obtain ⟨v168x, hv169x⟩ : ∃ x, x = (toG wr wa sta tld (lwF va (10 - 0 + 1) 0)) := ⟨_, rfl⟩
        try rw [← hv169x] at c0167x
        try rw [← hv169x]
        refine wq_eq0 rfl rfl (fun b170x => ?_) (fun b170x => ?_)
        · have q171x : (v168x.1).toInt = 0 := congrArg Int32.toInt b170x
          refine wq_gos (f := 1) (pc2 := 124) (ls2 := [(2, .int 0), (1, .int (lwF va (10 - 0 + 1) 0)), (0, .ref 4)]) (st2 := [.int 0]) (h2 := h8167x) (dc2 := 0) (ds2 := 0) 6 rfl ?_
          have e172x := (f8167x.2 _ _ (wnc (by omega) wn0) hA)
          have e173x := (f8167x.2 _ _ (wnc (by omega) wn0) hL)
          have e174x := (f8167x.2 _ _ (wnc (by omega) wn0) hG)
          have e175x := (f8167x.2 _ _ (wnc (by omega) wn0) hV)
          have e176x := (f8167x.2 _ _ (wnc (by omega) wn0) hN)
          have e177x := (f8167x.2 _ _ (wnc (by omega) wn0) hQ)
          have e178x := (f8167x.2 _ _ (wnc (by omega) wn0) hW)
          have hx : (liG tb ln wr wa nx kd sta va tld lk hd ht bl sd rt ll lg sv sp nm po so wy) = ((0 : Int32), (v168x.2.1), (v168x.2.2.1), nx, kd, sta, va, (v168x.2.2.2), lk, hd, ht, bl, sd, rt, ll, lg, sv, sp, nm, po, so, wy) := by unfold liG; rw [if_neg (fun q => q b2x), if_pos b15x, if_neg (Int.not_lt.mpr b18x), zlet_eq hv169x, if_pos b170x]
          rw [hx]
          exact wq_ret rfl rfl ⟨h8167x, rfl, (wFr_sub f8167x (by simp)), by omega, c0167x, e172x, e173x, e174x, e175x, e176x, e177x, e178x, (by first | ((try dsimp only); omega) | ((try dsimp only); intro q9; first | exact absurd rfl q9 | exact absurd z0 q9 | assumption | solve_by_elim | omega)), (by first | ((try dsimp only); omega) | ((try dsimp only); intro q9; first | exact absurd rfl q9 | exact absurd z0 q9 | assumption | solve_by_elim | omega)), (by first | ((try dsimp only); omega) | ((try dsimp only); intro q9; first | exact absurd rfl q9 | exact absurd z0 q9 | assumption | solve_by_elim | omega)), (by first | ((try dsimp only); omega) | ((try dsimp only); intro q9; first | exact absurd rfl q9 | exact absurd z0 q9 | assumption | solve_by_elim | omega)), (by first | ((try dsimp only); omega) | ((try dsimp only); intro q9; first | exact absurd rfl q9 | exact absurd z0 q9 | assumption | solve_by_elim | omega)), (by first | ((try dsimp only); omega) | ((try dsimp only); intro q9; first | exact absurd rfl q9 | exact absurd z0 q9 | assumption | solve_by_elim | omega))⟩
        · have q179x : (v168x.1).toInt ≠ 0 := fun q => b170x (Int32.toInt_inj.mp q)
          refine wq_gos (f := 1) (pc2 := 43) (ls2 := [(1, .int (lwF va (10 - 0 + 1) 0)), (0, .ref 4)]) (st2 := [.int 5, .int (lwF va (10 - 0 + 1) 0)]) (h2 := h8167x) (dc2 := 0) (ds2 := 0) 2 rfl ?_
          refine wq_ne2 rfl rfl (fun b180x => ?_) (fun b180x => ?_)
          · have q181x : (lwF va (10 - 0 + 1) 0).toInt ≠ 5 := fun q => b180x (Int32.toInt_inj.mp q)
            refine wq_gos (f := 1) (pc2 := 58) (ls2 := [(1, .int (lwF va (10 - 0 + 1) 0)), (0, .ref 4)]) (st2 := [.int (lwF va (10 - 0 + 1) 0), .ref 4]) (h2 := h8167x) (dc2 := 0) (ds2 := 0) 2 rfl ?_
            have e182x := (f8167x.2 _ _ (wnc (by decide) wn0) hT)
            have e183x := (f8167x.2 _ _ (wnc (by omega) wn0) hA)
            refine wq_inlv (y2 := 48) (as := [.int (lwF va (10 - 0 + 1) 0)]) rfl rfl rfl c0167x rfl (wq_mono (c_rs c0167x e182x e183x (by first | omega | assumption | decide | solve_by_elim) (by first | omega | assumption | decide | solve_by_elim) (by first | omega | assumption | decide | solve_by_elim) (by first | omega | assumption | decide | solve_by_elim)) ?_)
            rintro _ ⟨h8184x, rfl, f8184x, l8184x, c0184x, c1184x, p0184x, p1184x⟩
            show wq 46 61 [(1, .int (lwF va (10 - 0 + 1) 0)), (0, .ref 4)] [.int ((rsG tb ln (v168x.2.1) (v168x.2.2.1) nx kd sta va lk hd ht bl sd (lwF va (10 - 0 + 1) 0)).1)] h8184x 0 0 _
            obtain ⟨v185x, hv186x⟩ : ∃ x, x = (rsG tb ln (v168x.2.1) (v168x.2.2.1) nx kd sta va lk hd ht bl sd (lwF va (10 - 0 + 1) 0)) := ⟨_, rfl⟩
            try rw [← hv186x] at c0184x
            try rw [← hv186x] at c1184x
            try rw [← hv186x] at p0184x
            try rw [← hv186x] at p1184x
            try rw [← hv186x]
            refine wq_eq0 rfl rfl (fun b187x => ?_) (fun b187x => ?_)
            · have q188x : (v185x.1).toInt = 0 := congrArg Int32.toInt b187x
              refine wq_gos (f := 1) (pc2 := 124) (ls2 := [(2, .int 0), (1, .int (lwF va (10 - 0 + 1) 0)), (0, .ref 4)]) (st2 := [.int 0]) (h2 := h8184x) (dc2 := 0) (ds2 := 0) 6 rfl ?_
              have e189x := (f8184x.2 _ _ (wnc (by omega) (wnc (by omega) wn0)) (f8167x.2 _ _ (wnc (by omega) wn0) hL))
              have e190x := (f8184x.2 _ _ (wnc (by omega) (wnc (by omega) wn0)) (f8167x.2 _ _ (wnc (by omega) wn0) hG))
              have e191x := (f8184x.2 _ _ (wnc (by omega) (wnc (by omega) wn0)) (f8167x.2 _ _ (wnc (by omega) wn0) hV))
              have e192x := (f8184x.2 _ _ (wnc (by omega) (wnc (by omega) wn0)) (f8167x.2 _ _ (wnc (by omega) wn0) hN))
              have e193x := (f8184x.2 _ _ (wnc (by omega) (wnc (by omega) wn0)) (f8167x.2 _ _ (wnc (by omega) wn0) hQ))
              have e194x := (f8184x.2 _ _ (wnc (by omega) (wnc (by omega) wn0)) (f8167x.2 _ _ (wnc (by omega) wn0) hW))
              have hx : (liG tb ln wr wa nx kd sta va tld lk hd ht bl sd rt ll lg sv sp nm po so wy) = ((0 : Int32), (v185x.2.1), (v185x.2.2.1), (v185x.2.2.2.1), (v185x.2.2.2.2.1), (v185x.2.2.2.2.2.1), (v185x.2.2.2.2.2.2.1), (v168x.2.2.2), (v185x.2.2.2.2.2.2.2.1), (v185x.2.2.2.2.2.2.2.2.1), (v185x.2.2.2.2.2.2.2.2.2.1), (v185x.2.2.2.2.2.2.2.2.2.2.1), (v185x.2.2.2.2.2.2.2.2.2.2.2), rt, ll, lg, sv, sp, nm, po, so, wy) := by unfold liG; rw [if_neg (fun q => q b2x), if_pos b15x, if_neg (Int.not_lt.mpr b18x), zlet_eq hv169x, if_neg b170x, if_pos b180x, zlet_eq hv186x, if_pos b187x]
              rw [hx]
              exact wq_ret rfl rfl ⟨h8184x, rfl, (wFr_tr (wFr_sub f8167x (by simp)) (wFr_sub f8184x (by simp))), by omega, c0184x, c1184x, e189x, e190x, e191x, e192x, e193x, e194x, (by first | ((try dsimp only); omega) | ((try dsimp only); intro q9; first | exact absurd rfl q9 | exact absurd z0 q9 | assumption | solve_by_elim | omega)), (by first | ((try dsimp only); omega) | ((try dsimp only); intro q9; first | exact absurd rfl q9 | exact absurd z0 q9 | assumption | solve_by_elim | omega)), (by first | ((try dsimp only); omega) | ((try dsimp only); intro q9; first | exact absurd rfl q9 | exact absurd z0 q9 | assumption | solve_by_elim | omega)), (by first | ((try dsimp only); omega) | ((try dsimp only); intro q9; first | exact absurd rfl q9 | exact absurd z0 q9 | assumption | solve_by_elim | omega)), (by first | ((try dsimp only); omega) | ((try dsimp only); intro q9; first | exact absurd rfl q9 | exact absurd z0 q9 | assumption | solve_by_elim | omega)), (by first | ((try dsimp only); omega) | ((try dsimp only); intro q9; first | exact absurd rfl q9 | exact absurd z0 q9 | assumption | solve_by_elim | omega))⟩
            · have q195x : (v185x.1).toInt ≠ 0 := fun q => b187x (Int32.toInt_inj.mp q)
              refine wq_gos (f := 1) (pc2 := 126) (ls2 := [(2, .int 1), (1, .int (lwF va (10 - 0 + 1) 0)), (0, .ref 4)]) (st2 := [.ref 4]) (h2 := h8184x) (dc2 := 0) (ds2 := 0) 7 rfl ?_
              have e196x := (f8184x.2 _ _ (wnc (by decide) (wnc (by omega) wn0)) e182x)
              refine wq_inlv (y2 := 58) (as := []) rfl rfl rfl c0184x rfl (wq_mono (c_adv c0184x e196x (by first | omega | assumption | decide | solve_by_elim) (by first | omega | assumption | decide | solve_by_elim)) ?_)
              rintro _ ⟨h8197x, rfl, f8197x, l8197x, c0197x, p0197x⟩
              show wq 46 129 [(2, .int 1), (1, .int (lwF va (10 - 0 + 1) 0)), (0, .ref 4)] [] h8197x 0 0 _
              obtain ⟨v198x, hv199x⟩ : ∃ x, x = (adG tb ln (v185x.2.2.2.1) (v185x.2.2.2.2.1) (v185x.2.2.2.2.2.1) (v185x.2.2.2.2.2.2.1)) := ⟨_, rfl⟩
              try rw [← hv199x] at c0197x
              try rw [← hv199x] at p0197x
              try rw [← hv199x]
              refine wq_gos (f := 1) (pc2 := 130) (ls2 := [(2, .int 1), (1, .int (lwF va (10 - 0 + 1) 0)), (0, .ref 4)]) (st2 := [.ref 4]) (h2 := h8197x) (dc2 := 0) (ds2 := 0) 1 rfl ?_
              refine wq_getf rfl c0197x rfl rfl ?_
              refine wq_gos (f := 1) (pc2 := 134) (ls2 := [(2, .int 1), (1, .int (lwF va (10 - 0 + 1) 0)), (0, .ref 4)]) (st2 := [.int 4, .int (v198x.2.1)]) (h2 := h8197x) (dc2 := 0) (ds2 := 0) 1 rfl ?_
              have q200x : (4 : Int32).toInt = 4 := rfl
              refine wq_eq2 rfl rfl (fun b201x => ?_) (fun b201x => ?_)
              · have q202x : (v198x.2.1).toInt = 4 := congrArg Int32.toInt b201x
                refine wq_gos (f := 1) (pc2 := 150) (ls2 := [(2, .int 1), (1, .int (lwF va (10 - 0 + 1) 0)), (0, .ref 4)]) (st2 := [.int 1]) (h2 := h8197x) (dc2 := 0) (ds2 := 0) 2 rfl ?_
                have e203x := (f8197x.2 _ _ (wnc (by omega) wn0) c1184x)
                have e204x := (f8197x.2 _ _ (wnc (by omega) wn0) (f8184x.2 _ _ (wnc (by omega) (wnc (by omega) wn0)) (f8167x.2 _ _ (wnc (by omega) wn0) hL)))
                have e205x := (f8197x.2 _ _ (wnc (by omega) wn0) (f8184x.2 _ _ (wnc (by omega) (wnc (by omega) wn0)) (f8167x.2 _ _ (wnc (by omega) wn0) hG)))
                have e206x := (f8197x.2 _ _ (wnc (by omega) wn0) (f8184x.2 _ _ (wnc (by omega) (wnc (by omega) wn0)) (f8167x.2 _ _ (wnc (by omega) wn0) hV)))
                have e207x := (f8197x.2 _ _ (wnc (by omega) wn0) (f8184x.2 _ _ (wnc (by omega) (wnc (by omega) wn0)) (f8167x.2 _ _ (wnc (by omega) wn0) hN)))
                have e208x := (f8197x.2 _ _ (wnc (by omega) wn0) (f8184x.2 _ _ (wnc (by omega) (wnc (by omega) wn0)) (f8167x.2 _ _ (wnc (by omega) wn0) hQ)))
                have e209x := (f8197x.2 _ _ (wnc (by omega) wn0) (f8184x.2 _ _ (wnc (by omega) (wnc (by omega) wn0)) (f8167x.2 _ _ (wnc (by omega) wn0) hW)))
                have hx : (liG tb ln wr wa nx kd sta va tld lk hd ht bl sd rt ll lg sv sp nm po so wy) = ((1 : Int32), (v185x.2.1), (v185x.2.2.1), (v198x.1), (v198x.2.1), (v198x.2.2.1), (v198x.2.2.2), (v168x.2.2.2), (v185x.2.2.2.2.2.2.2.1), (v185x.2.2.2.2.2.2.2.2.1), (v185x.2.2.2.2.2.2.2.2.2.1), (v185x.2.2.2.2.2.2.2.2.2.2.1), (v185x.2.2.2.2.2.2.2.2.2.2.2), rt, ll, lg, sv, sp, nm, po, so, wy) := by unfold liG; rw [if_neg (fun q => q b2x), if_pos b15x, if_neg (Int.not_lt.mpr b18x), zlet_eq hv169x, if_neg b170x, if_pos b180x, zlet_eq hv186x, if_neg b187x, zlet_eq hv199x, if_pos b201x]
                rw [hx]
                exact wq_ret rfl rfl ⟨h8197x, rfl, (wFr_tr (wFr_sub f8167x (by simp)) (wFr_tr (wFr_sub f8184x (by simp)) (wFr_sub f8197x (by simp)))), by omega, c0197x, e203x, e204x, e205x, e206x, e207x, e208x, e209x, (by first | ((try dsimp only); omega) | ((try dsimp only); intro q9; first | exact absurd rfl q9 | exact absurd z0 q9 | assumption | solve_by_elim | omega)), (by first | ((try dsimp only); omega) | ((try dsimp only); intro q9; first | exact absurd rfl q9 | exact absurd z0 q9 | assumption | solve_by_elim | omega)), (by first | ((try dsimp only); omega) | ((try dsimp only); intro q9; first | exact absurd rfl q9 | exact absurd z0 q9 | assumption | solve_by_elim | omega)), (by first | ((try dsimp only); omega) | ((try dsimp only); intro q9; first | exact absurd rfl q9 | exact absurd z0 q9 | assumption | solve_by_elim | omega)), (by first | ((try dsimp only); omega) | ((try dsimp only); intro q9; first | exact absurd rfl q9 | exact absurd z0 q9 | assumption | solve_by_elim | omega)), (by first | ((try dsimp only); omega) | ((try dsimp only); intro q9; first | exact absurd rfl q9 | exact absurd z0 q9 | assumption | solve_by_elim | omega))⟩
              · have q210x : (v198x.2.1).toInt ≠ 4 := fun q => b201x (Int32.toInt_inj.mp q)
                refine wq_gos (f := 1) (pc2 := 139) (ls2 := [(2, .int 1), (1, .int (lwF va (10 - 0 + 1) 0)), (0, .ref 4)]) (st2 := [.int 1, .ref 4]) (h2 := h8197x) (dc2 := 0) (ds2 := 0) 2 rfl ?_
                refine wq_inlv (y2 := 45) (as := [.int 1]) rfl rfl rfl c0197x rfl (wq_mono (c_ref c0197x) ?_)
                rintro _ ⟨h8211x, rfl, f8211x, l8211x, c0211x⟩
                show wq 46 142 [(2, .int 1), (1, .int (lwF va (10 - 0 + 1) 0)), (0, .ref 4)] [.int 0] h8211x 0 0 _
                refine wq_gos (f := 1) (pc2 := 150) (ls2 := [(2, .int 1), (1, .int (lwF va (10 - 0 + 1) 0)), (0, .ref 4)]) (st2 := [.int 0]) (h2 := h8211x) (dc2 := 0) (ds2 := 0) 2 rfl ?_
                have e212x := (f8211x.2 _ _ (wnc (by omega) wn0) (f8197x.2 _ _ (wnc (by omega) wn0) c1184x))
                have e213x := (f8211x.2 _ _ (wnc (by omega) wn0) (f8197x.2 _ _ (wnc (by omega) wn0) (f8184x.2 _ _ (wnc (by omega) (wnc (by omega) wn0)) (f8167x.2 _ _ (wnc (by omega) wn0) hL))))
                have e214x := (f8211x.2 _ _ (wnc (by omega) wn0) (f8197x.2 _ _ (wnc (by omega) wn0) (f8184x.2 _ _ (wnc (by omega) (wnc (by omega) wn0)) (f8167x.2 _ _ (wnc (by omega) wn0) hG))))
                have e215x := (f8211x.2 _ _ (wnc (by omega) wn0) (f8197x.2 _ _ (wnc (by omega) wn0) (f8184x.2 _ _ (wnc (by omega) (wnc (by omega) wn0)) (f8167x.2 _ _ (wnc (by omega) wn0) hV))))
                have e216x := (f8211x.2 _ _ (wnc (by omega) wn0) (f8197x.2 _ _ (wnc (by omega) wn0) (f8184x.2 _ _ (wnc (by omega) (wnc (by omega) wn0)) (f8167x.2 _ _ (wnc (by omega) wn0) hN))))
                have e217x := (f8211x.2 _ _ (wnc (by omega) wn0) (f8197x.2 _ _ (wnc (by omega) wn0) (f8184x.2 _ _ (wnc (by omega) (wnc (by omega) wn0)) (f8167x.2 _ _ (wnc (by omega) wn0) hQ))))
                have e218x := (f8211x.2 _ _ (wnc (by omega) wn0) (f8197x.2 _ _ (wnc (by omega) wn0) (f8184x.2 _ _ (wnc (by omega) (wnc (by omega) wn0)) (f8167x.2 _ _ (wnc (by omega) wn0) hW))))
                have hx : (liG tb ln wr wa nx kd sta va tld lk hd ht bl sd rt ll lg sv sp nm po so wy) = ((0 : Int32), (1 : Int32), (v198x.2.2.1), (v198x.1), (v198x.2.1), (v198x.2.2.1), (v198x.2.2.2), (v168x.2.2.2), (v185x.2.2.2.2.2.2.2.1), (v185x.2.2.2.2.2.2.2.2.1), (v185x.2.2.2.2.2.2.2.2.2.1), (v185x.2.2.2.2.2.2.2.2.2.2.1), (v185x.2.2.2.2.2.2.2.2.2.2.2), rt, ll, lg, sv, sp, nm, po, so, wy) := by unfold liG; rw [if_neg (fun q => q b2x), if_pos b15x, if_neg (Int.not_lt.mpr b18x), zlet_eq hv169x, if_neg b170x, if_pos b180x, zlet_eq hv186x, if_neg b187x, zlet_eq hv199x, if_neg b201x]
                rw [hx]
                exact wq_ret rfl rfl ⟨h8211x, rfl, (wFr_tr (wFr_sub f8167x (by simp)) (wFr_tr (wFr_sub f8184x (by simp)) (wFr_tr (wFr_sub f8197x (by simp)) (wFr_sub f8211x (by simp))))), by omega, c0211x, e212x, e213x, e214x, e215x, e216x, e217x, e218x, (by first | ((try dsimp only); omega) | ((try dsimp only); intro q9; first | exact absurd rfl q9 | exact absurd z0 q9 | assumption | solve_by_elim | omega)), (by first | ((try dsimp only); omega) | ((try dsimp only); intro q9; first | exact absurd rfl q9 | exact absurd z0 q9 | assumption | solve_by_elim | omega)), (by first | ((try dsimp only); omega) | ((try dsimp only); intro q9; first | exact absurd rfl q9 | exact absurd z0 q9 | assumption | solve_by_elim | omega)), (by first | ((try dsimp only); omega) | ((try dsimp only); intro q9; first | exact absurd rfl q9 | exact absurd z0 q9 | assumption | solve_by_elim | omega)), (by first | ((try dsimp only); omega) | ((try dsimp only); intro q9; first | exact absurd rfl q9 | exact absurd z0 q9 | assumption | solve_by_elim | omega)), (by first | ((try dsimp only); omega) | ((try dsimp only); intro q9; first | exact absurd rfl q9 | exact absurd z0 q9 | assumption | solve_by_elim | omega))⟩
          · have q219x : (lwF va (10 - 0 + 1) 0).toInt = 5 := congrArg Int32.toInt b180x
            refine wq_gos (f := 1) (pc2 := 47) (ls2 := [(1, .int (lwF va (10 - 0 + 1) 0)), (0, .ref 4)]) (st2 := [.ref 4]) (h2 := h8167x) (dc2 := 0) (ds2 := 0) 1 rfl ?_
            have e220x := (f8167x.2 _ _ (wnc (by decide) wn0) hT)
            have e221x := (f8167x.2 _ _ (wnc (by omega) wn0) hA)
            refine wq_inlv (y2 := 51) (as := []) rfl rfl rfl c0167x rfl (wq_mono (c_rr c0167x e220x e221x (by first | omega | assumption | decide | solve_by_elim) (by first | omega | assumption | decide | solve_by_elim) (by first | omega | assumption | decide | solve_by_elim)) ?_)
            rintro _ ⟨h8222x, rfl, f8222x, l8222x, c0222x, c1222x, p0222x⟩
            show wq 46 50 [(1, .int (lwF va (10 - 0 + 1) 0)), (0, .ref 4)] [.int ((rrG tb ln (v168x.2.1) (v168x.2.2.1) nx kd sta va rt).1)] h8222x 0 0 _
            obtain ⟨v223x, hv224x⟩ : ∃ x, x = (rrG tb ln (v168x.2.1) (v168x.2.2.1) nx kd sta va rt) := ⟨_, rfl⟩
            try rw [← hv224x] at c0222x
            try rw [← hv224x] at c1222x
            try rw [← hv224x] at p0222x
            try rw [← hv224x]
            refine wq_eq0 rfl rfl (fun b225x => ?_) (fun b225x => ?_)
            · have q226x : (v223x.1).toInt = 0 := congrArg Int32.toInt b225x
              refine wq_gos (f := 1) (pc2 := 124) (ls2 := [(2, .int 0), (1, .int (lwF va (10 - 0 + 1) 0)), (0, .ref 4)]) (st2 := [.int 0]) (h2 := h8222x) (dc2 := 0) (ds2 := 0) 6 rfl ?_
              have e227x := (f8222x.2 _ _ (wnc (by omega) (wnc (by omega) wn0)) (f8167x.2 _ _ (wnc (by omega) wn0) hL))
              have e228x := (f8222x.2 _ _ (wnc (by omega) (wnc (by omega) wn0)) (f8167x.2 _ _ (wnc (by omega) wn0) hG))
              have e229x := (f8222x.2 _ _ (wnc (by omega) (wnc (by omega) wn0)) (f8167x.2 _ _ (wnc (by omega) wn0) hV))
              have e230x := (f8222x.2 _ _ (wnc (by omega) (wnc (by omega) wn0)) (f8167x.2 _ _ (wnc (by omega) wn0) hN))
              have e231x := (f8222x.2 _ _ (wnc (by omega) (wnc (by omega) wn0)) (f8167x.2 _ _ (wnc (by omega) wn0) hQ))
              have e232x := (f8222x.2 _ _ (wnc (by omega) (wnc (by omega) wn0)) (f8167x.2 _ _ (wnc (by omega) wn0) hW))
              have hx : (liG tb ln wr wa nx kd sta va tld lk hd ht bl sd rt ll lg sv sp nm po so wy) = ((0 : Int32), (v223x.2.1), (v223x.2.2.1), (v223x.2.2.2.1), (v223x.2.2.2.2.1), (v223x.2.2.2.2.2.1), (v223x.2.2.2.2.2.2.1), (v168x.2.2.2), lk, hd, ht, bl, sd, (v223x.2.2.2.2.2.2.2), ll, lg, sv, sp, nm, po, so, wy) := by unfold liG; rw [if_neg (fun q => q b2x), if_pos b15x, if_neg (Int.not_lt.mpr b18x), zlet_eq hv169x, if_neg b170x, if_neg (fun q => q b180x), zlet_eq hv224x, if_pos b225x]
              rw [hx]
              exact wq_ret rfl rfl ⟨h8222x, rfl, (wFr_tr (wFr_sub f8167x (by simp)) (wFr_sub f8222x (by simp))), by omega, c0222x, c1222x, e227x, e228x, e229x, e230x, e231x, e232x, (by first | ((try dsimp only); omega) | ((try dsimp only); intro q9; first | exact absurd rfl q9 | exact absurd z0 q9 | assumption | solve_by_elim | omega)), (by first | ((try dsimp only); omega) | ((try dsimp only); intro q9; first | exact absurd rfl q9 | exact absurd z0 q9 | assumption | solve_by_elim | omega)), (by first | ((try dsimp only); omega) | ((try dsimp only); intro q9; first | exact absurd rfl q9 | exact absurd z0 q9 | assumption | solve_by_elim | omega)), (by first | ((try dsimp only); omega) | ((try dsimp only); intro q9; first | exact absurd rfl q9 | exact absurd z0 q9 | assumption | solve_by_elim | omega)), (by first | ((try dsimp only); omega) | ((try dsimp only); intro q9; first | exact absurd rfl q9 | exact absurd z0 q9 | assumption | solve_by_elim | omega)), (by first | ((try dsimp only); omega) | ((try dsimp only); intro q9; first | exact absurd rfl q9 | exact absurd z0 q9 | assumption | solve_by_elim | omega))⟩
            · have q233x : (v223x.1).toInt ≠ 0 := fun q => b225x (Int32.toInt_inj.mp q)
              refine wq_gos (f := 1) (pc2 := 126) (ls2 := [(2, .int 1), (1, .int (lwF va (10 - 0 + 1) 0)), (0, .ref 4)]) (st2 := [.ref 4]) (h2 := h8222x) (dc2 := 0) (ds2 := 0) 8 rfl ?_
              have e234x := (f8222x.2 _ _ (wnc (by decide) (wnc (by omega) wn0)) e220x)
              refine wq_inlv (y2 := 58) (as := []) rfl rfl rfl c0222x rfl (wq_mono (c_adv c0222x e234x (by first | omega | assumption | decide | solve_by_elim) (by first | omega | assumption | decide | solve_by_elim)) ?_)
              rintro _ ⟨h8235x, rfl, f8235x, l8235x, c0235x, p0235x⟩
              show wq 46 129 [(2, .int 1), (1, .int (lwF va (10 - 0 + 1) 0)), (0, .ref 4)] [] h8235x 0 0 _
              obtain ⟨v236x, hv237x⟩ : ∃ x, x = (adG tb ln (v223x.2.2.2.1) (v223x.2.2.2.2.1) (v223x.2.2.2.2.2.1) (v223x.2.2.2.2.2.2.1)) := ⟨_, rfl⟩
              try rw [← hv237x] at c0235x
              try rw [← hv237x] at p0235x
              try rw [← hv237x]
              refine wq_gos (f := 1) (pc2 := 130) (ls2 := [(2, .int 1), (1, .int (lwF va (10 - 0 + 1) 0)), (0, .ref 4)]) (st2 := [.ref 4]) (h2 := h8235x) (dc2 := 0) (ds2 := 0) 1 rfl ?_
              refine wq_getf rfl c0235x rfl rfl ?_
              refine wq_gos (f := 1) (pc2 := 134) (ls2 := [(2, .int 1), (1, .int (lwF va (10 - 0 + 1) 0)), (0, .ref 4)]) (st2 := [.int 4, .int (v236x.2.1)]) (h2 := h8235x) (dc2 := 0) (ds2 := 0) 1 rfl ?_
              have q238x : (4 : Int32).toInt = 4 := rfl
              refine wq_eq2 rfl rfl (fun b239x => ?_) (fun b239x => ?_)
              · have q240x : (v236x.2.1).toInt = 4 := congrArg Int32.toInt b239x
                refine wq_gos (f := 1) (pc2 := 150) (ls2 := [(2, .int 1), (1, .int (lwF va (10 - 0 + 1) 0)), (0, .ref 4)]) (st2 := [.int 1]) (h2 := h8235x) (dc2 := 0) (ds2 := 0) 2 rfl ?_
                have e241x := (f8235x.2 _ _ (wnc (by omega) wn0) c1222x)
                have e242x := (f8235x.2 _ _ (wnc (by omega) wn0) (f8222x.2 _ _ (wnc (by omega) (wnc (by omega) wn0)) (f8167x.2 _ _ (wnc (by omega) wn0) hL)))
                have e243x := (f8235x.2 _ _ (wnc (by omega) wn0) (f8222x.2 _ _ (wnc (by omega) (wnc (by omega) wn0)) (f8167x.2 _ _ (wnc (by omega) wn0) hG)))
                have e244x := (f8235x.2 _ _ (wnc (by omega) wn0) (f8222x.2 _ _ (wnc (by omega) (wnc (by omega) wn0)) (f8167x.2 _ _ (wnc (by omega) wn0) hV)))
                have e245x := (f8235x.2 _ _ (wnc (by omega) wn0) (f8222x.2 _ _ (wnc (by omega) (wnc (by omega) wn0)) (f8167x.2 _ _ (wnc (by omega) wn0) hN)))
                have e246x := (f8235x.2 _ _ (wnc (by omega) wn0) (f8222x.2 _ _ (wnc (by omega) (wnc (by omega) wn0)) (f8167x.2 _ _ (wnc (by omega) wn0) hQ)))
                have e247x := (f8235x.2 _ _ (wnc (by omega) wn0) (f8222x.2 _ _ (wnc (by omega) (wnc (by omega) wn0)) (f8167x.2 _ _ (wnc (by omega) wn0) hW)))
                have hx : (liG tb ln wr wa nx kd sta va tld lk hd ht bl sd rt ll lg sv sp nm po so wy) = ((1 : Int32), (v223x.2.1), (v223x.2.2.1), (v236x.1), (v236x.2.1), (v236x.2.2.1), (v236x.2.2.2), (v168x.2.2.2), lk, hd, ht, bl, sd, (v223x.2.2.2.2.2.2.2), ll, lg, sv, sp, nm, po, so, wy) := by unfold liG; rw [if_neg (fun q => q b2x), if_pos b15x, if_neg (Int.not_lt.mpr b18x), zlet_eq hv169x, if_neg b170x, if_neg (fun q => q b180x), zlet_eq hv224x, if_neg b225x, zlet_eq hv237x, if_pos b239x]
                rw [hx]
                exact wq_ret rfl rfl ⟨h8235x, rfl, (wFr_tr (wFr_sub f8167x (by simp)) (wFr_tr (wFr_sub f8222x (by simp)) (wFr_sub f8235x (by simp)))), by omega, c0235x, e241x, e242x, e243x, e244x, e245x, e246x, e247x, (by first | ((try dsimp only); omega) | ((try dsimp only); intro q9; first | exact absurd rfl q9 | exact absurd z0 q9 | assumption | solve_by_elim | omega)), (by first | ((try dsimp only); omega) | ((try dsimp only); intro q9; first | exact absurd rfl q9 | exact absurd z0 q9 | assumption | solve_by_elim | omega)), (by first | ((try dsimp only); omega) | ((try dsimp only); intro q9; first | exact absurd rfl q9 | exact absurd z0 q9 | assumption | solve_by_elim | omega)), (by first | ((try dsimp only); omega) | ((try dsimp only); intro q9; first | exact absurd rfl q9 | exact absurd z0 q9 | assumption | solve_by_elim | omega)), (by first | ((try dsimp only); omega) | ((try dsimp only); intro q9; first | exact absurd rfl q9 | exact absurd z0 q9 | assumption | solve_by_elim | omega)), (by first | ((try dsimp only); omega) | ((try dsimp only); intro q9; first | exact absurd rfl q9 | exact absurd z0 q9 | assumption | solve_by_elim | omega))⟩
              · have q248x : (v236x.2.1).toInt ≠ 4 := fun q => b239x (Int32.toInt_inj.mp q)
                refine wq_gos (f := 1) (pc2 := 139) (ls2 := [(2, .int 1), (1, .int (lwF va (10 - 0 + 1) 0)), (0, .ref 4)]) (st2 := [.int 1, .ref 4]) (h2 := h8235x) (dc2 := 0) (ds2 := 0) 2 rfl ?_
                refine wq_inlv (y2 := 45) (as := [.int 1]) rfl rfl rfl c0235x rfl (wq_mono (c_ref c0235x) ?_)
                rintro _ ⟨h8249x, rfl, f8249x, l8249x, c0249x⟩
                show wq 46 142 [(2, .int 1), (1, .int (lwF va (10 - 0 + 1) 0)), (0, .ref 4)] [.int 0] h8249x 0 0 _
                refine wq_gos (f := 1) (pc2 := 150) (ls2 := [(2, .int 1), (1, .int (lwF va (10 - 0 + 1) 0)), (0, .ref 4)]) (st2 := [.int 0]) (h2 := h8249x) (dc2 := 0) (ds2 := 0) 2 rfl ?_
                have e250x := (f8249x.2 _ _ (wnc (by omega) wn0) (f8235x.2 _ _ (wnc (by omega) wn0) c1222x))
                have e251x := (f8249x.2 _ _ (wnc (by omega) wn0) (f8235x.2 _ _ (wnc (by omega) wn0) (f8222x.2 _ _ (wnc (by omega) (wnc (by omega) wn0)) (f8167x.2 _ _ (wnc (by omega) wn0) hL))))
                have e252x := (f8249x.2 _ _ (wnc (by omega) wn0) (f8235x.2 _ _ (wnc (by omega) wn0) (f8222x.2 _ _ (wnc (by omega) (wnc (by omega) wn0)) (f8167x.2 _ _ (wnc (by omega) wn0) hG))))
                have e253x := (f8249x.2 _ _ (wnc (by omega) wn0) (f8235x.2 _ _ (wnc (by omega) wn0) (f8222x.2 _ _ (wnc (by omega) (wnc (by omega) wn0)) (f8167x.2 _ _ (wnc (by omega) wn0) hV))))
                have e254x := (f8249x.2 _ _ (wnc (by omega) wn0) (f8235x.2 _ _ (wnc (by omega) wn0) (f8222x.2 _ _ (wnc (by omega) (wnc (by omega) wn0)) (f8167x.2 _ _ (wnc (by omega) wn0) hN))))
                have e255x := (f8249x.2 _ _ (wnc (by omega) wn0) (f8235x.2 _ _ (wnc (by omega) wn0) (f8222x.2 _ _ (wnc (by omega) (wnc (by omega) wn0)) (f8167x.2 _ _ (wnc (by omega) wn0) hQ))))
                have e256x := (f8249x.2 _ _ (wnc (by omega) wn0) (f8235x.2 _ _ (wnc (by omega) wn0) (f8222x.2 _ _ (wnc (by omega) (wnc (by omega) wn0)) (f8167x.2 _ _ (wnc (by omega) wn0) hW))))
                have hx : (liG tb ln wr wa nx kd sta va tld lk hd ht bl sd rt ll lg sv sp nm po so wy) = ((0 : Int32), (1 : Int32), (v236x.2.2.1), (v236x.1), (v236x.2.1), (v236x.2.2.1), (v236x.2.2.2), (v168x.2.2.2), lk, hd, ht, bl, sd, (v223x.2.2.2.2.2.2.2), ll, lg, sv, sp, nm, po, so, wy) := by unfold liG; rw [if_neg (fun q => q b2x), if_pos b15x, if_neg (Int.not_lt.mpr b18x), zlet_eq hv169x, if_neg b170x, if_neg (fun q => q b180x), zlet_eq hv224x, if_neg b225x, zlet_eq hv237x, if_neg b239x]
                rw [hx]
                exact wq_ret rfl rfl ⟨h8249x, rfl, (wFr_tr (wFr_sub f8167x (by simp)) (wFr_tr (wFr_sub f8222x (by simp)) (wFr_tr (wFr_sub f8235x (by simp)) (wFr_sub f8249x (by simp))))), by omega, c0249x, e250x, e251x, e252x, e253x, e254x, e255x, e256x, (by first | ((try dsimp only); omega) | ((try dsimp only); intro q9; first | exact absurd rfl q9 | exact absurd z0 q9 | assumption | solve_by_elim | omega)), (by first | ((try dsimp only); omega) | ((try dsimp only); intro q9; first | exact absurd rfl q9 | exact absurd z0 q9 | assumption | solve_by_elim | omega)), (by first | ((try dsimp only); omega) | ((try dsimp only); intro q9; first | exact absurd rfl q9 | exact absurd z0 q9 | assumption | solve_by_elim | omega)), (by first | ((try dsimp only); omega) | ((try dsimp only); intro q9; first | exact absurd rfl q9 | exact absurd z0 q9 | assumption | solve_by_elim | omega)), (by first | ((try dsimp only); omega) | ((try dsimp only); intro q9; first | exact absurd rfl q9 | exact absurd z0 q9 | assumption | solve_by_elim | omega)), (by first | ((try dsimp only); omega) | ((try dsimp only); intro q9; first | exact absurd rfl q9 | exact absurd z0 q9 | assumption | solve_by_elim | omega))⟩
    · have q257x : (lwF va (10 - 0 + 1) 0).toInt = -1 := congrArg Int32.toInt b15x
      refine wq_gos (f := 1) (pc2 := 24) (ls2 := [(1, .int (lwF va (10 - 0 + 1) 0)), (0, .ref 4)]) (st2 := [.int 1, .ref 4]) (h2 := h) (dc2 := 0) (ds2 := 0) 2 rfl ?_
      refine wq_inlv (y2 := 45) (as := [.int 1]) rfl rfl rfl hR rfl (wq_mono (c_ref hR) ?_)
      rintro _ ⟨h8258x, rfl, f8258x, l8258x, c0258x⟩
      show wq 46 27 [(1, .int (lwF va (10 - 0 + 1) 0)), (0, .ref 4)] [.int 0] h8258x 0 0 _
      have e259x := (f8258x.2 _ _ (wnc (by omega) wn0) hA)
      have e260x := (f8258x.2 _ _ (wnc (by omega) wn0) hL)
      have e261x := (f8258x.2 _ _ (wnc (by omega) wn0) hG)
      have e262x := (f8258x.2 _ _ (wnc (by omega) wn0) hV)
      have e263x := (f8258x.2 _ _ (wnc (by omega) wn0) hN)
      have e264x := (f8258x.2 _ _ (wnc (by omega) wn0) hQ)
      have e265x := (f8258x.2 _ _ (wnc (by omega) wn0) hW)
      have hx : (liG tb ln wr wa nx kd sta va tld lk hd ht bl sd rt ll lg sv sp nm po so wy) = ((0 : Int32), (1 : Int32), sta, nx, kd, sta, va, tld, lk, hd, ht, bl, sd, rt, ll, lg, sv, sp, nm, po, so, wy) := by unfold liG; rw [if_neg (fun q => q b2x), if_neg (fun q => q b15x)]
      rw [hx]
      exact wq_ret rfl rfl ⟨h8258x, rfl, (wFr_sub f8258x (by simp)), by omega, c0258x, e259x, e260x, e261x, e262x, e263x, e264x, e265x, (by first | ((try dsimp only); omega) | ((try dsimp only); intro q9; first | exact absurd rfl q9 | exact absurd z0 q9 | assumption | solve_by_elim | omega)), (by first | ((try dsimp only); omega) | ((try dsimp only); intro q9; first | exact absurd rfl q9 | exact absurd z0 q9 | assumption | solve_by_elim | omega)), (by first | ((try dsimp only); omega) | ((try dsimp only); intro q9; first | exact absurd rfl q9 | exact absurd z0 q9 | assumption | solve_by_elim | omega)), (by first | ((try dsimp only); omega) | ((try dsimp only); intro q9; first | exact absurd rfl q9 | exact absurd z0 q9 | assumption | solve_by_elim | omega)), (by first | ((try dsimp only); omega) | ((try dsimp only); intro q9; first | exact absurd rfl q9 | exact absurd z0 q9 | assumption | solve_by_elim | omega)), (by first | ((try dsimp only); omega) | ((try dsimp only); intro q9; first | exact absurd rfl q9 | exact absurd z0 q9 | assumption | solve_by_elim | omega))⟩
