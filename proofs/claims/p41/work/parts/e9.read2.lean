/-! The class: the reader refuses, reads a number. -/
def rfG (sta w : Int32) : Int32 × Int32 × Int32 := ((0 : Int32), w, sta)
set_option maxRecDepth 100000 in
set_option maxHeartbeats 4000000 in
theorem c_ref {h : zH} {ln nx rd : Nat} {wr wa kd sta va tld : Int32} {w : Int32} (hR : zat h 4 = some (.inr (.inr (.inr (4, [.int wr, .int wa, .ref 2, .int (nI ln), .int (nI nx), .int kd, .int sta, .int va, .int tld, .ref rd])))))  : wq 45 0 [(0, .ref 4), (1, .int w)] [] h 0 0 (fun rr9 => ∃ (h2 : zH), rr9 = (some (.int ((rfG sta w).1)), h2, 0, 0) ∧ wFr [4] h h2 ∧ h2.length = h.length ∧ zat h2 4 = some (.inr (.inr (.inr (4, [.int ((rfG sta w).2.1), .int ((rfG sta w).2.2), .ref 2, .int (nI ln), .int (nI nx), .int kd, .int sta, .int va, .int tld, .ref rd]))))) := by
  refine wq_gos (f := 1) (pc2 := 2) (ls2 := [(0, .ref 4), (1, .int w)]) (st2 := [.int w, .ref 4]) (h2 := h) (dc2 := 0) (ds2 := 0) 2 rfl ?_
  refine wq_putf rfl hR rfl rfl rfl ?_
  intro h1x e2x f3x l4x
  have e2x : zat h1x 4 = some (.inr (.inr (.inr (4, [.int w, .int wa, .ref 2, .int (nI ln), .int (nI nx), .int kd, .int sta, .int va, .int tld, .ref rd])))) := e2x
  refine wq_gos (f := 1) (pc2 := 7) (ls2 := [(0, .ref 4), (1, .int w)]) (st2 := [.ref 4, .ref 4]) (h2 := h1x) (dc2 := 0) (ds2 := 0) 2 rfl ?_
  refine wq_getf rfl e2x rfl rfl ?_
  refine wq_putf rfl e2x rfl rfl rfl ?_
  intro h5x e6x f7x l8x
  have e6x : zat h5x 4 = some (.inr (.inr (.inr (4, [.int w, .int sta, .ref 2, .int (nI ln), .int (nI nx), .int kd, .int sta, .int va, .int tld, .ref rd])))) := e6x
  refine wq_gos (f := 1) (pc2 := 14) (ls2 := [(0, .ref 4), (1, .int w)]) (st2 := [.int 0]) (h2 := h5x) (dc2 := 0) (ds2 := 0) 1 rfl ?_
  have hx : (rfG sta w) = ((0 : Int32), w, sta) := by unfold rfG; rfl
  rw [hx]
  exact wq_ret rfl rfl ⟨h5x, rfl, (wFr_tr (wFr_sub f3x (by simp)) (wFr_sub f7x (by simp))), by omega, e6x⟩
def rnG (tb : List Int32) (ln nx : Nat) (wr wa kd sta va lo hi b : Int32) : Int32 × Int32 × Int32 × Nat × Int32 × Int32 × Int32 := (zlet (adG tb ln nx kd sta va) (fun v2x => (if (v2x.2.1) = (2 : Int32) then (if (v2x.2.2.2).toInt < lo.toInt then (zlet (rfG (v2x.2.2.1) (2 : Int32)) (fun v9x => (if (v9x.1) = (0 : Int32) then ((0 : Int32), (v9x.2.1), (v9x.2.2), (v2x.1), (v2x.2.1), (v2x.2.2.1), (v2x.2.2.2)) else ((1 : Int32), (v9x.2.1), (v9x.2.2), (v2x.1), (v2x.2.1), (v2x.2.2.1), (v2x.2.2.2))))) else (if (v2x.2.2.2).toInt ≤ hi.toInt then ((1 : Int32), wr, wa, (v2x.1), (v2x.2.1), (v2x.2.2.1), (v2x.2.2.2)) else (zlet (rfG (v2x.2.2.1) (2 : Int32)) (fun v16x => (if (v16x.1) = (0 : Int32) then ((0 : Int32), (v16x.2.1), (v16x.2.2), (v2x.1), (v2x.2.1), (v2x.2.2.1), (v2x.2.2.2)) else ((1 : Int32), (v16x.2.1), (v16x.2.2), (v2x.1), (v2x.2.1), (v2x.2.2.1), (v2x.2.2.2))))))) else (if b = (0 : Int32) then (zlet (rfG (v2x.2.2.1) (1 : Int32)) (fun v26x => ((v26x.1), (v26x.2.1), (v26x.2.2), (v2x.1), (v2x.2.1), (v2x.2.2.1), (v2x.2.2.2)))) else (if (v2x.2.1) = (3 : Int32) then (if (v2x.2.2.2).toInt < lo.toInt then (zlet (rfG (v2x.2.2.1) (2 : Int32)) (fun v34x => (if (v34x.1) = (0 : Int32) then ((0 : Int32), (v34x.2.1), (v34x.2.2), (v2x.1), (v2x.2.1), (v2x.2.2.1), (v2x.2.2.2)) else ((1 : Int32), (v34x.2.1), (v34x.2.2), (v2x.1), (v2x.2.1), (v2x.2.2.1), (v2x.2.2.2))))) else (if (v2x.2.2.2).toInt ≤ hi.toInt then ((1 : Int32), wr, wa, (v2x.1), (v2x.2.1), (v2x.2.2.1), (v2x.2.2.2)) else (zlet (rfG (v2x.2.2.1) (2 : Int32)) (fun v41x => (if (v41x.1) = (0 : Int32) then ((0 : Int32), (v41x.2.1), (v41x.2.2), (v2x.1), (v2x.2.1), (v2x.2.2.1), (v2x.2.2.2)) else ((1 : Int32), (v41x.2.1), (v41x.2.2), (v2x.1), (v2x.2.1), (v2x.2.2.1), (v2x.2.2.2))))))) else (zlet (rfG (v2x.2.2.1) (1 : Int32)) (fun v49x => ((v49x.1), (v49x.2.1), (v49x.2.2), (v2x.1), (v2x.2.1), (v2x.2.2.1), (v2x.2.2.2)))))))))
set_option maxRecDepth 100000 in
set_option maxHeartbeats 4000000 in
theorem c_rn {h : zH} {ln nx rd : Nat} {wr wa kd sta va tld : Int32} {tb : List Int32} {lo hi b : Int32} (hR : zat h 4 = some (.inr (.inr (.inr (4, [.int wr, .int wa, .ref 2, .int (nI ln), .int (nI nx), .int kd, .int sta, .int va, .int tld, .ref rd]))))) (hT : zat h 2 = some (.inl (1, 700, tb))) (hln : ln ≤ 700) (hn : nx ≤ ln) : wq 55 0 [(0, .ref 4), (1, .int lo), (2, .int hi), (3, .int b)] [] h 0 0 (fun rr9 => ∃ (h2 : zH), rr9 = (some (.int ((rnG tb ln nx wr wa kd sta va lo hi b).1)), h2, 0, 0) ∧ wFr [4] h h2 ∧ h2.length = h.length ∧ zat h2 4 = some (.inr (.inr (.inr (4, [.int ((rnG tb ln nx wr wa kd sta va lo hi b).2.1), .int ((rnG tb ln nx wr wa kd sta va lo hi b).2.2.1), .ref 2, .int (nI ln), .int (nI ((rnG tb ln nx wr wa kd sta va lo hi b).2.2.2.1)), .int ((rnG tb ln nx wr wa kd sta va lo hi b).2.2.2.2.1), .int ((rnG tb ln nx wr wa kd sta va lo hi b).2.2.2.2.2.1), .int ((rnG tb ln nx wr wa kd sta va lo hi b).2.2.2.2.2.2), .int tld, .ref rd])))) ∧ (((rnG tb ln nx wr wa kd sta va lo hi b).2.2.2.1) ≤ ln)) := by
  refine wq_gos (f := 1) (pc2 := 1) (ls2 := [(0, .ref 4), (1, .int lo), (2, .int hi), (3, .int b)]) (st2 := [.ref 4]) (h2 := h) (dc2 := 0) (ds2 := 0) 1 rfl ?_
  refine wq_inlv (y2 := 58) (as := []) rfl rfl rfl hR rfl (wq_mono (c_adv hR hT (by first | omega | assumption | decide) (by first | omega | assumption | decide)) ?_)
  rintro _ ⟨h81x, rfl, f81x, l81x, c01x, p01x⟩
  show wq 55 4 [(0, .ref 4), (1, .int lo), (2, .int hi), (3, .int b)] [] h81x 0 0 _
  obtain ⟨v2x, hv3x⟩ : ∃ x, x = (adG tb ln nx kd sta va) := ⟨_, rfl⟩
  try rw [← hv3x] at c01x
  try rw [← hv3x] at p01x
  try rw [← hv3x]
  refine wq_gos (f := 1) (pc2 := 5) (ls2 := [(0, .ref 4), (1, .int lo), (2, .int hi), (3, .int b)]) (st2 := [.ref 4]) (h2 := h81x) (dc2 := 0) (ds2 := 0) 1 rfl ?_
  refine wq_getf rfl c01x rfl rfl ?_
  refine wq_gos (f := 1) (pc2 := 9) (ls2 := [(0, .ref 4), (1, .int lo), (2, .int hi), (3, .int b)]) (st2 := [.int 2, .int (v2x.2.1)]) (h2 := h81x) (dc2 := 0) (ds2 := 0) 1 rfl ?_
  have q4x : (2 : Int32).toInt = 2 := rfl
  refine wq_eq2 rfl rfl (fun b5x => ?_) (fun b5x => ?_)
  · have q6x : (v2x.2.1).toInt = 2 := congrArg Int32.toInt b5x
    refine wq_gos (f := 1) (pc2 := 31) (ls2 := [(0, .ref 4), (1, .int lo), (2, .int hi), (3, .int b)]) (st2 := [.ref 4]) (h2 := h81x) (dc2 := 0) (ds2 := 0) 1 rfl ?_
    refine wq_getf rfl c01x rfl rfl ?_
    refine wq_gos (f := 1) (pc2 := 35) (ls2 := [(0, .ref 4), (1, .int lo), (2, .int hi), (3, .int b)]) (st2 := [.int lo, .int (v2x.2.2.2)]) (h2 := h81x) (dc2 := 0) (ds2 := 0) 1 rfl ?_
    refine wq_lt2 rfl rfl (fun b7x => ?_) (fun b7x => ?_)
    · refine wq_gos (f := 1) (pc2 := 48) (ls2 := [(0, .ref 4), (1, .int lo), (2, .int hi), (3, .int b)]) (st2 := [.int 2, .ref 4]) (h2 := h81x) (dc2 := 0) (ds2 := 0) 2 rfl ?_
      refine wq_inlv (y2 := 45) (as := [.int 2]) rfl rfl rfl c01x rfl (wq_mono (c_ref c01x) ?_)
      rintro _ ⟨h88x, rfl, f88x, l88x, c08x⟩
      show wq 55 51 [(0, .ref 4), (1, .int lo), (2, .int hi), (3, .int b)] [.int ((rfG (v2x.2.2.1) (2 : Int32)).1)] h88x 0 0 _
      obtain ⟨v9x, hv10x⟩ : ∃ x, x = (rfG (v2x.2.2.1) (2 : Int32)) := ⟨_, rfl⟩
      try rw [← hv10x] at c08x
      try rw [← hv10x]
      refine wq_eq0 rfl rfl (fun b11x => ?_) (fun b11x => ?_)
      · have q12x : (v9x.1).toInt = 0 := congrArg Int32.toInt b11x
        refine wq_gos (f := 1) (pc2 := 59) (ls2 := [(0, .ref 4), (1, .int lo), (2, .int hi), (3, .int b)]) (st2 := [.int 0]) (h2 := h88x) (dc2 := 0) (ds2 := 0) 1 rfl ?_
        have hx : (rnG tb ln nx wr wa kd sta va lo hi b) = ((0 : Int32), (v9x.2.1), (v9x.2.2), (v2x.1), (v2x.2.1), (v2x.2.2.1), (v2x.2.2.2)) := by unfold rnG; rw [zlet_eq hv3x, if_pos b5x, if_pos b7x, zlet_eq hv10x, if_pos b11x]
        rw [hx]
        exact wq_ret rfl rfl ⟨h88x, rfl, (wFr_tr (wFr_sub f81x (by simp)) (wFr_sub f88x (by simp))), by omega, c08x, (by first | ((try dsimp only); omega) | assumption)⟩
      · have q13x : (v9x.1).toInt ≠ 0 := fun q => b11x (Int32.toInt_inj.mp q)
        refine wq_gos (f := 1) (pc2 := 59) (ls2 := [(0, .ref 4), (1, .int lo), (2, .int hi), (3, .int b)]) (st2 := [.int 1]) (h2 := h88x) (dc2 := 0) (ds2 := 0) 2 rfl ?_
        have hx : (rnG tb ln nx wr wa kd sta va lo hi b) = ((1 : Int32), (v9x.2.1), (v9x.2.2), (v2x.1), (v2x.2.1), (v2x.2.2.1), (v2x.2.2.2)) := by unfold rnG; rw [zlet_eq hv3x, if_pos b5x, if_pos b7x, zlet_eq hv10x, if_neg b11x]
        rw [hx]
        exact wq_ret rfl rfl ⟨h88x, rfl, (wFr_tr (wFr_sub f81x (by simp)) (wFr_sub f88x (by simp))), by omega, c08x, (by first | ((try dsimp only); omega) | assumption)⟩
    · refine wq_gos (f := 1) (pc2 := 39) (ls2 := [(0, .ref 4), (1, .int lo), (2, .int hi), (3, .int b)]) (st2 := [.ref 4]) (h2 := h81x) (dc2 := 0) (ds2 := 0) 1 rfl ?_
      refine wq_getf rfl c01x rfl rfl ?_
      refine wq_gos (f := 1) (pc2 := 43) (ls2 := [(0, .ref 4), (1, .int lo), (2, .int hi), (3, .int b)]) (st2 := [.int hi, .int (v2x.2.2.2)]) (h2 := h81x) (dc2 := 0) (ds2 := 0) 1 rfl ?_
      refine wq_le2 rfl rfl (fun b14x => ?_) (fun b14x => ?_)
      · refine wq_gos (f := 1) (pc2 := 59) (ls2 := [(0, .ref 4), (1, .int lo), (2, .int hi), (3, .int b)]) (st2 := [.int 1]) (h2 := h81x) (dc2 := 0) (ds2 := 0) 2 rfl ?_
        have hx : (rnG tb ln nx wr wa kd sta va lo hi b) = ((1 : Int32), wr, wa, (v2x.1), (v2x.2.1), (v2x.2.2.1), (v2x.2.2.2)) := by unfold rnG; rw [zlet_eq hv3x, if_pos b5x, if_neg (Int.not_lt.mpr b7x), if_pos b14x]
        rw [hx]
        exact wq_ret rfl rfl ⟨h81x, rfl, (wFr_sub f81x (by simp)), by omega, c01x, (by first | ((try dsimp only); omega) | assumption)⟩
      · refine wq_gos (f := 1) (pc2 := 48) (ls2 := [(0, .ref 4), (1, .int lo), (2, .int hi), (3, .int b)]) (st2 := [.int 2, .ref 4]) (h2 := h81x) (dc2 := 0) (ds2 := 0) 2 rfl ?_
        refine wq_inlv (y2 := 45) (as := [.int 2]) rfl rfl rfl c01x rfl (wq_mono (c_ref c01x) ?_)
        rintro _ ⟨h815x, rfl, f815x, l815x, c015x⟩
        show wq 55 51 [(0, .ref 4), (1, .int lo), (2, .int hi), (3, .int b)] [.int ((rfG (v2x.2.2.1) (2 : Int32)).1)] h815x 0 0 _
        obtain ⟨v16x, hv17x⟩ : ∃ x, x = (rfG (v2x.2.2.1) (2 : Int32)) := ⟨_, rfl⟩
        try rw [← hv17x] at c015x
        try rw [← hv17x]
        refine wq_eq0 rfl rfl (fun b18x => ?_) (fun b18x => ?_)
        · have q19x : (v16x.1).toInt = 0 := congrArg Int32.toInt b18x
          refine wq_gos (f := 1) (pc2 := 59) (ls2 := [(0, .ref 4), (1, .int lo), (2, .int hi), (3, .int b)]) (st2 := [.int 0]) (h2 := h815x) (dc2 := 0) (ds2 := 0) 1 rfl ?_
          have hx : (rnG tb ln nx wr wa kd sta va lo hi b) = ((0 : Int32), (v16x.2.1), (v16x.2.2), (v2x.1), (v2x.2.1), (v2x.2.2.1), (v2x.2.2.2)) := by unfold rnG; rw [zlet_eq hv3x, if_pos b5x, if_neg (Int.not_lt.mpr b7x), if_neg (Int.not_le.mpr b14x), zlet_eq hv17x, if_pos b18x]
          rw [hx]
          exact wq_ret rfl rfl ⟨h815x, rfl, (wFr_tr (wFr_sub f81x (by simp)) (wFr_sub f815x (by simp))), by omega, c015x, (by first | ((try dsimp only); omega) | assumption)⟩
        · have q20x : (v16x.1).toInt ≠ 0 := fun q => b18x (Int32.toInt_inj.mp q)
          refine wq_gos (f := 1) (pc2 := 59) (ls2 := [(0, .ref 4), (1, .int lo), (2, .int hi), (3, .int b)]) (st2 := [.int 1]) (h2 := h815x) (dc2 := 0) (ds2 := 0) 2 rfl ?_
          have hx : (rnG tb ln nx wr wa kd sta va lo hi b) = ((1 : Int32), (v16x.2.1), (v16x.2.2), (v2x.1), (v2x.2.1), (v2x.2.2.1), (v2x.2.2.2)) := by unfold rnG; rw [zlet_eq hv3x, if_pos b5x, if_neg (Int.not_lt.mpr b7x), if_neg (Int.not_le.mpr b14x), zlet_eq hv17x, if_neg b18x]
          rw [hx]
          exact wq_ret rfl rfl ⟨h815x, rfl, (wFr_tr (wFr_sub f81x (by simp)) (wFr_sub f815x (by simp))), by omega, c015x, (by first | ((try dsimp only); omega) | assumption)⟩
  · have q21x : (v2x.2.1).toInt ≠ 2 := fun q => b5x (Int32.toInt_inj.mp q)
    refine wq_gos (f := 1) (pc2 := 13) (ls2 := [(0, .ref 4), (1, .int lo), (2, .int hi), (3, .int b)]) (st2 := [.int b]) (h2 := h81x) (dc2 := 0) (ds2 := 0) 1 rfl ?_
    refine wq_eq0 rfl rfl (fun b22x => ?_) (fun b22x => ?_)
    · have q23x : b.toInt = 0 := congrArg Int32.toInt b22x
      refine wq_gos (f := 1) (pc2 := 26) (ls2 := [(0, .ref 4), (1, .int lo), (2, .int hi), (3, .int b)]) (st2 := [.int 1, .ref 4]) (h2 := h81x) (dc2 := 0) (ds2 := 0) 2 rfl ?_
      have q24x : (1 : Int32).toInt = 1 := rfl
      refine wq_inlv (y2 := 45) (as := [.int 1]) rfl rfl rfl c01x rfl (wq_mono (c_ref c01x) ?_)
      rintro _ ⟨h825x, rfl, f825x, l825x, c025x⟩
      show wq 55 29 [(0, .ref 4), (1, .int lo), (2, .int hi), (3, .int b)] [.int ((rfG (v2x.2.2.1) (1 : Int32)).1)] h825x 0 0 _
      obtain ⟨v26x, hv27x⟩ : ∃ x, x = (rfG (v2x.2.2.1) (1 : Int32)) := ⟨_, rfl⟩
      try rw [← hv27x] at c025x
      try rw [← hv27x]
      have hx : (rnG tb ln nx wr wa kd sta va lo hi b) = ((v26x.1), (v26x.2.1), (v26x.2.2), (v2x.1), (v2x.2.1), (v2x.2.2.1), (v2x.2.2.2)) := by unfold rnG; rw [zlet_eq hv3x, if_neg b5x, if_pos b22x, zlet_eq hv27x]
      rw [hx]
      exact wq_ret rfl rfl ⟨h825x, rfl, (wFr_tr (wFr_sub f81x (by simp)) (wFr_sub f825x (by simp))), by omega, c025x, (by first | ((try dsimp only); omega) | assumption)⟩
    · have q28x : b.toInt ≠ 0 := fun q => b22x (Int32.toInt_inj.mp q)
      refine wq_gos (f := 1) (pc2 := 17) (ls2 := [(0, .ref 4), (1, .int lo), (2, .int hi), (3, .int b)]) (st2 := [.ref 4]) (h2 := h81x) (dc2 := 0) (ds2 := 0) 1 rfl ?_
      refine wq_getf rfl c01x rfl rfl ?_
      refine wq_gos (f := 1) (pc2 := 21) (ls2 := [(0, .ref 4), (1, .int lo), (2, .int hi), (3, .int b)]) (st2 := [.int 3, .int (v2x.2.1)]) (h2 := h81x) (dc2 := 0) (ds2 := 0) 1 rfl ?_
      have q29x : (3 : Int32).toInt = 3 := rfl
      refine wq_eq2 rfl rfl (fun b30x => ?_) (fun b30x => ?_)
      · have q31x : (v2x.2.1).toInt = 3 := congrArg Int32.toInt b30x
        refine wq_gos (f := 1) (pc2 := 31) (ls2 := [(0, .ref 4), (1, .int lo), (2, .int hi), (3, .int b)]) (st2 := [.ref 4]) (h2 := h81x) (dc2 := 0) (ds2 := 0) 1 rfl ?_
        refine wq_getf rfl c01x rfl rfl ?_
        refine wq_gos (f := 1) (pc2 := 35) (ls2 := [(0, .ref 4), (1, .int lo), (2, .int hi), (3, .int b)]) (st2 := [.int lo, .int (v2x.2.2.2)]) (h2 := h81x) (dc2 := 0) (ds2 := 0) 1 rfl ?_
        refine wq_lt2 rfl rfl (fun b32x => ?_) (fun b32x => ?_)
        · refine wq_gos (f := 1) (pc2 := 48) (ls2 := [(0, .ref 4), (1, .int lo), (2, .int hi), (3, .int b)]) (st2 := [.int 2, .ref 4]) (h2 := h81x) (dc2 := 0) (ds2 := 0) 2 rfl ?_
          refine wq_inlv (y2 := 45) (as := [.int 2]) rfl rfl rfl c01x rfl (wq_mono (c_ref c01x) ?_)
          rintro _ ⟨h833x, rfl, f833x, l833x, c033x⟩
          show wq 55 51 [(0, .ref 4), (1, .int lo), (2, .int hi), (3, .int b)] [.int ((rfG (v2x.2.2.1) (2 : Int32)).1)] h833x 0 0 _
          obtain ⟨v34x, hv35x⟩ : ∃ x, x = (rfG (v2x.2.2.1) (2 : Int32)) := ⟨_, rfl⟩
          try rw [← hv35x] at c033x
          try rw [← hv35x]
          refine wq_eq0 rfl rfl (fun b36x => ?_) (fun b36x => ?_)
          · have q37x : (v34x.1).toInt = 0 := congrArg Int32.toInt b36x
            refine wq_gos (f := 1) (pc2 := 59) (ls2 := [(0, .ref 4), (1, .int lo), (2, .int hi), (3, .int b)]) (st2 := [.int 0]) (h2 := h833x) (dc2 := 0) (ds2 := 0) 1 rfl ?_
            have hx : (rnG tb ln nx wr wa kd sta va lo hi b) = ((0 : Int32), (v34x.2.1), (v34x.2.2), (v2x.1), (v2x.2.1), (v2x.2.2.1), (v2x.2.2.2)) := by unfold rnG; rw [zlet_eq hv3x, if_neg b5x, if_neg b22x, if_pos b30x, if_pos b32x, zlet_eq hv35x, if_pos b36x]
            rw [hx]
            exact wq_ret rfl rfl ⟨h833x, rfl, (wFr_tr (wFr_sub f81x (by simp)) (wFr_sub f833x (by simp))), by omega, c033x, (by first | ((try dsimp only); omega) | assumption)⟩
          · have q38x : (v34x.1).toInt ≠ 0 := fun q => b36x (Int32.toInt_inj.mp q)
            refine wq_gos (f := 1) (pc2 := 59) (ls2 := [(0, .ref 4), (1, .int lo), (2, .int hi), (3, .int b)]) (st2 := [.int 1]) (h2 := h833x) (dc2 := 0) (ds2 := 0) 2 rfl ?_
            have hx : (rnG tb ln nx wr wa kd sta va lo hi b) = ((1 : Int32), (v34x.2.1), (v34x.2.2), (v2x.1), (v2x.2.1), (v2x.2.2.1), (v2x.2.2.2)) := by unfold rnG; rw [zlet_eq hv3x, if_neg b5x, if_neg b22x, if_pos b30x, if_pos b32x, zlet_eq hv35x, if_neg b36x]
            rw [hx]
            exact wq_ret rfl rfl ⟨h833x, rfl, (wFr_tr (wFr_sub f81x (by simp)) (wFr_sub f833x (by simp))), by omega, c033x, (by first | ((try dsimp only); omega) | assumption)⟩
        · refine wq_gos (f := 1) (pc2 := 39) (ls2 := [(0, .ref 4), (1, .int lo), (2, .int hi), (3, .int b)]) (st2 := [.ref 4]) (h2 := h81x) (dc2 := 0) (ds2 := 0) 1 rfl ?_
          refine wq_getf rfl c01x rfl rfl ?_
          refine wq_gos (f := 1) (pc2 := 43) (ls2 := [(0, .ref 4), (1, .int lo), (2, .int hi), (3, .int b)]) (st2 := [.int hi, .int (v2x.2.2.2)]) (h2 := h81x) (dc2 := 0) (ds2 := 0) 1 rfl ?_
          refine wq_le2 rfl rfl (fun b39x => ?_) (fun b39x => ?_)
          · refine wq_gos (f := 1) (pc2 := 59) (ls2 := [(0, .ref 4), (1, .int lo), (2, .int hi), (3, .int b)]) (st2 := [.int 1]) (h2 := h81x) (dc2 := 0) (ds2 := 0) 2 rfl ?_
            have hx : (rnG tb ln nx wr wa kd sta va lo hi b) = ((1 : Int32), wr, wa, (v2x.1), (v2x.2.1), (v2x.2.2.1), (v2x.2.2.2)) := by unfold rnG; rw [zlet_eq hv3x, if_neg b5x, if_neg b22x, if_pos b30x, if_neg (Int.not_lt.mpr b32x), if_pos b39x]
            rw [hx]
            exact wq_ret rfl rfl ⟨h81x, rfl, (wFr_sub f81x (by simp)), by omega, c01x, (by first | ((try dsimp only); omega) | assumption)⟩
          · refine wq_gos (f := 1) (pc2 := 48) (ls2 := [(0, .ref 4), (1, .int lo), (2, .int hi), (3, .int b)]) (st2 := [.int 2, .ref 4]) (h2 := h81x) (dc2 := 0) (ds2 := 0) 2 rfl ?_
            refine wq_inlv (y2 := 45) (as := [.int 2]) rfl rfl rfl c01x rfl (wq_mono (c_ref c01x) ?_)
            rintro _ ⟨h840x, rfl, f840x, l840x, c040x⟩
            show wq 55 51 [(0, .ref 4), (1, .int lo), (2, .int hi), (3, .int b)] [.int ((rfG (v2x.2.2.1) (2 : Int32)).1)] h840x 0 0 _
            obtain ⟨v41x, hv42x⟩ : ∃ x, x = (rfG (v2x.2.2.1) (2 : Int32)) := ⟨_, rfl⟩
            try rw [← hv42x] at c040x
            try rw [← hv42x]
            refine wq_eq0 rfl rfl (fun b43x => ?_) (fun b43x => ?_)
            · have q44x : (v41x.1).toInt = 0 := congrArg Int32.toInt b43x
              refine wq_gos (f := 1) (pc2 := 59) (ls2 := [(0, .ref 4), (1, .int lo), (2, .int hi), (3, .int b)]) (st2 := [.int 0]) (h2 := h840x) (dc2 := 0) (ds2 := 0) 1 rfl ?_
              have hx : (rnG tb ln nx wr wa kd sta va lo hi b) = ((0 : Int32), (v41x.2.1), (v41x.2.2), (v2x.1), (v2x.2.1), (v2x.2.2.1), (v2x.2.2.2)) := by unfold rnG; rw [zlet_eq hv3x, if_neg b5x, if_neg b22x, if_pos b30x, if_neg (Int.not_lt.mpr b32x), if_neg (Int.not_le.mpr b39x), zlet_eq hv42x, if_pos b43x]
              rw [hx]
              exact wq_ret rfl rfl ⟨h840x, rfl, (wFr_tr (wFr_sub f81x (by simp)) (wFr_sub f840x (by simp))), by omega, c040x, (by first | ((try dsimp only); omega) | assumption)⟩
            · have q45x : (v41x.1).toInt ≠ 0 := fun q => b43x (Int32.toInt_inj.mp q)
              refine wq_gos (f := 1) (pc2 := 59) (ls2 := [(0, .ref 4), (1, .int lo), (2, .int hi), (3, .int b)]) (st2 := [.int 1]) (h2 := h840x) (dc2 := 0) (ds2 := 0) 2 rfl ?_
              have hx : (rnG tb ln nx wr wa kd sta va lo hi b) = ((1 : Int32), (v41x.2.1), (v41x.2.2), (v2x.1), (v2x.2.1), (v2x.2.2.1), (v2x.2.2.2)) := by unfold rnG; rw [zlet_eq hv3x, if_neg b5x, if_neg b22x, if_pos b30x, if_neg (Int.not_lt.mpr b32x), if_neg (Int.not_le.mpr b39x), zlet_eq hv42x, if_neg b43x]
              rw [hx]
              exact wq_ret rfl rfl ⟨h840x, rfl, (wFr_tr (wFr_sub f81x (by simp)) (wFr_sub f840x (by simp))), by omega, c040x, (by first | ((try dsimp only); omega) | assumption)⟩
      · have q46x : (v2x.2.1).toInt ≠ 3 := fun q => b30x (Int32.toInt_inj.mp q)
        refine wq_gos (f := 1) (pc2 := 26) (ls2 := [(0, .ref 4), (1, .int lo), (2, .int hi), (3, .int b)]) (st2 := [.int 1, .ref 4]) (h2 := h81x) (dc2 := 0) (ds2 := 0) 2 rfl ?_
        have q47x : (1 : Int32).toInt = 1 := rfl
        refine wq_inlv (y2 := 45) (as := [.int 1]) rfl rfl rfl c01x rfl (wq_mono (c_ref c01x) ?_)
        rintro _ ⟨h848x, rfl, f848x, l848x, c048x⟩
        show wq 55 29 [(0, .ref 4), (1, .int lo), (2, .int hi), (3, .int b)] [.int ((rfG (v2x.2.2.1) (1 : Int32)).1)] h848x 0 0 _
        obtain ⟨v49x, hv50x⟩ : ∃ x, x = (rfG (v2x.2.2.1) (1 : Int32)) := ⟨_, rfl⟩
        try rw [← hv50x] at c048x
        try rw [← hv50x]
        have hx : (rnG tb ln nx wr wa kd sta va lo hi b) = ((v49x.1), (v49x.2.1), (v49x.2.2), (v2x.1), (v2x.2.1), (v2x.2.2.1), (v2x.2.2.2)) := by unfold rnG; rw [zlet_eq hv3x, if_neg b5x, if_neg b22x, if_neg b30x, zlet_eq hv50x]
        rw [hx]
        exact wq_ret rfl rfl ⟨h848x, rfl, (wFr_tr (wFr_sub f81x (by simp)) (wFr_sub f848x (by simp))), by omega, c048x, (by first | ((try dsimp only); omega) | assumption)⟩
