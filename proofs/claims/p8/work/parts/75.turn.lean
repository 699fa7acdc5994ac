/-! Solver.pitchBy, rollBy, sidewaysFits, solveByTurn. -/
theorem wq_ialdk {y pc pf : Nat} {ls : zL} {rest : List Value} {h : zH} {dc ds : Nat} {Q : zR → Prop} {len : Nat} {K : zK} {tg : List Nat} {i : Int32} {a n k : Nat} {f : List Int32} (hP : zP y pc = some (.iaload, len, K, tg)) (hat : zat h a = some (.inl (0, n, f))) (hin : zin i n = true) (hk : i.toNatClampNeg = k) (hpf : pc + 1 = pf) (kk : wq y pf ls (.int (f.getD k 0) :: rest) h dc ds Q) : wq y pc ls (.int i :: .ref a :: rest) h dc ds Q :=
  wq_iald hP hat hin hpf (by rw [hk]; exact kk)
theorem wq_laldk {y pc pf : Nat} {ls : zL} {rest : List Value} {h : zH} {dc ds : Nat} {Q : zR → Prop} {len : Nat} {K : zK} {tg : List Nat} {i : Int32} {a n k : Nat} {f : List Int64} (hP : zP y pc = some (.laload, len, K, tg)) (hat : zat h a = some (.inr (.inl (n, f)))) (hin : zin i n = true) (hk : i.toNatClampNeg = k) (hpf : pc + 1 = pf) (kk : wq y pf ls (.long (f.getD k 0) :: rest) h dc ds Q) : wq y pc ls (.int i :: .ref a :: rest) h dc ds Q :=
  wq_lald hP hat hin hpf (by rw [hk]; exact kk)
noncomputable def jpit (tg : List Int32) (t : Int32) : Int32 := (if (tg.getD 4 0) = (16 : Int32) then (tg.getD 4 0) else (if (tg.getD 4 0) ≠ (48 : Int32) then (if ((t - (tg.getD 3 0)) &&& (63 : Int32)) ≠ (0 : Int32) then (if ((t - (tg.getD 3 0)) &&& (63 : Int32)) ≠ (32 : Int32) then (-1) else (((32 : Int32) - (tg.getD 4 0)) &&& (63 : Int32))) else (tg.getD 4 0)) else (tg.getD 4 0)))
theorem c_pitchBy {rs : Nat} {ra rh : Nat} {nf : Int32} {tg : List Int32} (t : Int32) {h : zH} (hS : zat h 44 = some (.inr (.inr (.inr (7, [.ref ra, .ref rh, .ref 46, .int nf, .ref 48, .ref 50, .ref 52, .ref 54, .ref 56, .ref rs]))))) (h46 : zat h 46 = some (.inl (0, 6, tg))) : zT zg0 zF zP 83 0 [(0, .ref 44), (1, .int t)] [] h 0 0 (some (.int (jpit tg t)), h, 0, 0) := by
  apply wq_toT
  refine wq_gos (f := 1) (pc2 := 1) (ls2 := [(0, .ref 44), (1, .int t)]) (st2 := [.ref 44]) (h2 := h) (dc2 := 0) (ds2 := 0) 1 rfl ?_
  refine wq_getf rfl hS rfl rfl ?_
  refine wq_gos (f := 1) (pc2 := 5) (ls2 := [(0, .ref 44), (1, .int t)]) (st2 := [.int 4, .ref 46]) (h2 := h) (dc2 := 0) (ds2 := 0) 1 rfl ?_
  refine wq_ialdk (k := 4) rfl h46 rfl rfl rfl ?_
  refine wq_gos (f := 1) (pc2 := 10) (ls2 := [(2, .int (tg.getD 4 0)), (0, .ref 44), (1, .int t)]) (st2 := [.int 16, .int (tg.getD 4 0)]) (h2 := h) (dc2 := 0) (ds2 := 0) 3 rfl ?_
  refine wq_eq2 rfl rfl (fun b1x => ?_) (fun b1x => ?_)
  · refine wq_gos (f := 1) (pc2 := 20) (ls2 := [(2, .int (tg.getD 4 0)), (0, .ref 44), (1, .int t)]) (st2 := [.int (tg.getD 4 0)]) (h2 := h) (dc2 := 0) (ds2 := 0) 1 rfl ?_
    refine wq_ret rfl rfl ?_
    show (some (Value.int (tg.getD 4 0)), h, 0, 0) = (some (Value.int (jpit tg t)), h, 0, 0)
    rw [show jpit tg t = (tg.getD 4 0) by unfold jpit; rw [if_pos b1x]]
  · refine wq_gos (f := 1) (pc2 := 16) (ls2 := [(2, .int (tg.getD 4 0)), (0, .ref 44), (1, .int t)]) (st2 := [.int 48, .int (tg.getD 4 0)]) (h2 := h) (dc2 := 0) (ds2 := 0) 2 rfl ?_
    refine wq_ne2 rfl rfl (fun b2x => ?_) (fun b2x => ?_)
    · refine wq_gos (f := 1) (pc2 := 23) (ls2 := [(2, .int (tg.getD 4 0)), (0, .ref 44), (1, .int t)]) (st2 := [.ref 44, .int t]) (h2 := h) (dc2 := 0) (ds2 := 0) 2 rfl ?_
      refine wq_getf rfl hS rfl rfl ?_
      refine wq_gos (f := 1) (pc2 := 27) (ls2 := [(2, .int (tg.getD 4 0)), (0, .ref 44), (1, .int t)]) (st2 := [.int 3, .ref 46, .int t]) (h2 := h) (dc2 := 0) (ds2 := 0) 1 rfl ?_
      refine wq_ialdk (k := 3) rfl h46 rfl rfl rfl ?_
      refine wq_gos (f := 1) (pc2 := 34) (ls2 := [(3, .int ((t - (tg.getD 3 0)) &&& (63 : Int32))), (2, .int (tg.getD 4 0)), (0, .ref 44), (1, .int t)]) (st2 := [.int ((t - (tg.getD 3 0)) &&& (63 : Int32))]) (h2 := h) (dc2 := 0) (ds2 := 0) 5 rfl ?_
      refine wq_ne0 rfl rfl (fun b3x => ?_) (fun b3x => ?_)
      · refine wq_gos (f := 1) (pc2 := 42) (ls2 := [(3, .int ((t - (tg.getD 3 0)) &&& (63 : Int32))), (2, .int (tg.getD 4 0)), (0, .ref 44), (1, .int t)]) (st2 := [.int 32, .int ((t - (tg.getD 3 0)) &&& (63 : Int32))]) (h2 := h) (dc2 := 0) (ds2 := 0) 2 rfl ?_
        refine wq_ne2 rfl rfl (fun b4x => ?_) (fun b4x => ?_)
        · refine wq_gos (f := 1) (pc2 := 56) (ls2 := [(3, .int ((t - (tg.getD 3 0)) &&& (63 : Int32))), (2, .int (tg.getD 4 0)), (0, .ref 44), (1, .int t)]) (st2 := [.int (-1)]) (h2 := h) (dc2 := 0) (ds2 := 0) 1 rfl ?_
          refine wq_ret rfl rfl ?_
          show (some (Value.int (-1)), h, 0, 0) = (some (Value.int (jpit tg t)), h, 0, 0)
          rw [show jpit tg t = (-1) by unfold jpit; rw [if_neg b1x, if_pos b2x, if_pos b3x, if_pos b4x]]
        · refine wq_gos (f := 1) (pc2 := 56) (ls2 := [(3, .int ((t - (tg.getD 3 0)) &&& (63 : Int32))), (2, .int (tg.getD 4 0)), (0, .ref 44), (1, .int t)]) (st2 := [.int (((32 : Int32) - (tg.getD 4 0)) &&& (63 : Int32))]) (h2 := h) (dc2 := 0) (ds2 := 0) 6 rfl ?_
          refine wq_ret rfl rfl ?_
          show (some (Value.int (((32 : Int32) - (tg.getD 4 0)) &&& (63 : Int32))), h, 0, 0) = (some (Value.int (jpit tg t)), h, 0, 0)
          rw [show jpit tg t = (((32 : Int32) - (tg.getD 4 0)) &&& (63 : Int32)) by unfold jpit; rw [if_neg b1x, if_pos b2x, if_pos b3x, if_neg (fun q => q b4x)]]
      · refine wq_gos (f := 1) (pc2 := 38) (ls2 := [(3, .int ((t - (tg.getD 3 0)) &&& (63 : Int32))), (2, .int (tg.getD 4 0)), (0, .ref 44), (1, .int t)]) (st2 := [.int (tg.getD 4 0)]) (h2 := h) (dc2 := 0) (ds2 := 0) 1 rfl ?_
        refine wq_ret rfl rfl ?_
        show (some (Value.int (tg.getD 4 0)), h, 0, 0) = (some (Value.int (jpit tg t)), h, 0, 0)
        rw [show jpit tg t = (tg.getD 4 0) by unfold jpit; rw [if_neg b1x, if_pos b2x, if_neg (fun q => q b3x)]]
    · refine wq_gos (f := 1) (pc2 := 20) (ls2 := [(2, .int (tg.getD 4 0)), (0, .ref 44), (1, .int t)]) (st2 := [.int (tg.getD 4 0)]) (h2 := h) (dc2 := 0) (ds2 := 0) 1 rfl ?_
      refine wq_ret rfl rfl ?_
      show (some (Value.int (tg.getD 4 0)), h, 0, 0) = (some (Value.int (jpit tg t)), h, 0, 0)
      rw [show jpit tg t = (tg.getD 4 0) by unfold jpit; rw [if_neg b1x, if_neg (fun q => q b2x)]]
noncomputable def jroll0 (tg : List Int32) (t : Int32) : Int32 := (if (tg.getD 4 0) ≠ (16 : Int32) then (((tg.getD 5 0) + (t - (tg.getD 3 0))) &&& (63 : Int32)) else (((tg.getD 5 0) - (t - (tg.getD 3 0))) &&& (63 : Int32)))
theorem c_rollBy {rs : Nat} {ra rh : Nat} {nf : Int32} {tg : List Int32} (t : Int32) {h : zH} (hS : zat h 44 = some (.inr (.inr (.inr (7, [.ref ra, .ref rh, .ref 46, .int nf, .ref 48, .ref 50, .ref 52, .ref 54, .ref 56, .ref rs]))))) (h46 : zat h 46 = some (.inl (0, 6, tg))) : zT zg0 zF zP 84 0 [(0, .ref 44), (1, .int t)] [] h 0 0 (some (.int (jroll0 tg t)), h, 0, 0) := by
  apply wq_toT
  refine wq_gos (f := 1) (pc2 := 2) (ls2 := [(0, .ref 44), (1, .int t)]) (st2 := [.ref 44, .int t]) (h2 := h) (dc2 := 0) (ds2 := 0) 2 rfl ?_
  refine wq_getf rfl hS rfl rfl ?_
  refine wq_gos (f := 1) (pc2 := 6) (ls2 := [(0, .ref 44), (1, .int t)]) (st2 := [.int 3, .ref 46, .int t]) (h2 := h) (dc2 := 0) (ds2 := 0) 1 rfl ?_
  refine wq_ialdk (k := 3) rfl h46 rfl rfl rfl ?_
  refine wq_gos (f := 1) (pc2 := 10) (ls2 := [(2, .int (t - (tg.getD 3 0))), (0, .ref 44), (1, .int t)]) (st2 := [.ref 44]) (h2 := h) (dc2 := 0) (ds2 := 0) 3 rfl ?_
  refine wq_getf rfl hS rfl rfl ?_
  refine wq_gos (f := 1) (pc2 := 14) (ls2 := [(2, .int (t - (tg.getD 3 0))), (0, .ref 44), (1, .int t)]) (st2 := [.int 4, .ref 46]) (h2 := h) (dc2 := 0) (ds2 := 0) 1 rfl ?_
  refine wq_ialdk (k := 4) rfl h46 rfl rfl rfl ?_
  refine wq_gos (f := 1) (pc2 := 17) (ls2 := [(2, .int (t - (tg.getD 3 0))), (0, .ref 44), (1, .int t)]) (st2 := [.int 16, .int (tg.getD 4 0)]) (h2 := h) (dc2 := 0) (ds2 := 0) 1 rfl ?_
  refine wq_ne2 rfl rfl (fun b1x => ?_) (fun b1x => ?_)
  · refine wq_gos (f := 1) (pc2 := 32) (ls2 := [(2, .int (t - (tg.getD 3 0))), (0, .ref 44), (1, .int t)]) (st2 := [.ref 44]) (h2 := h) (dc2 := 0) (ds2 := 0) 1 rfl ?_
    refine wq_getf rfl hS rfl rfl ?_
    refine wq_gos (f := 1) (pc2 := 36) (ls2 := [(2, .int (t - (tg.getD 3 0))), (0, .ref 44), (1, .int t)]) (st2 := [.int 5, .ref 46]) (h2 := h) (dc2 := 0) (ds2 := 0) 1 rfl ?_
    refine wq_ialdk (k := 5) rfl h46 rfl rfl rfl ?_
    refine wq_gos (f := 1) (pc2 := 42) (ls2 := [(2, .int (t - (tg.getD 3 0))), (0, .ref 44), (1, .int t)]) (st2 := [.int (((tg.getD 5 0) + (t - (tg.getD 3 0))) &&& (63 : Int32))]) (h2 := h) (dc2 := 0) (ds2 := 0) 4 rfl ?_
    refine wq_ret rfl rfl ?_
    show (some (Value.int (((tg.getD 5 0) + (t - (tg.getD 3 0))) &&& (63 : Int32))), h, 0, 0) = (some (Value.int (jroll0 tg t)), h, 0, 0)
    rw [show jroll0 tg t = (((tg.getD 5 0) + (t - (tg.getD 3 0))) &&& (63 : Int32)) by unfold jroll0; rw [if_pos b1x]]
  · refine wq_gos (f := 1) (pc2 := 21) (ls2 := [(2, .int (t - (tg.getD 3 0))), (0, .ref 44), (1, .int t)]) (st2 := [.ref 44]) (h2 := h) (dc2 := 0) (ds2 := 0) 1 rfl ?_
    refine wq_getf rfl hS rfl rfl ?_
    refine wq_gos (f := 1) (pc2 := 25) (ls2 := [(2, .int (t - (tg.getD 3 0))), (0, .ref 44), (1, .int t)]) (st2 := [.int 5, .ref 46]) (h2 := h) (dc2 := 0) (ds2 := 0) 1 rfl ?_
    refine wq_ialdk (k := 5) rfl h46 rfl rfl rfl ?_
    refine wq_gos (f := 1) (pc2 := 42) (ls2 := [(2, .int (t - (tg.getD 3 0))), (0, .ref 44), (1, .int t)]) (st2 := [.int (((tg.getD 5 0) - (t - (tg.getD 3 0))) &&& (63 : Int32))]) (h2 := h) (dc2 := 0) (ds2 := 0) 5 rfl ?_
    refine wq_ret rfl rfl ?_
    show (some (Value.int (((tg.getD 5 0) - (t - (tg.getD 3 0))) &&& (63 : Int32))), h, 0, 0) = (some (Value.int (jroll0 tg t)), h, 0, 0)
    rw [show jroll0 tg t = (((tg.getD 5 0) - (t - (tg.getD 3 0))) &&& (63 : Int32)) by unfold jroll0; rw [if_neg (fun q => q b1x)]]
noncomputable def jfit (tg : List Int32) (t : Int32) : Int32 := (if (jsin t) ≠ (0 : Int32) then (if ((tg.getD 1 0) - (tg.getD 1 0) / (jsin t) * (jsin t)) ≠ (0 : Int32) then 0 else 1) else (if (tg.getD 1 0) ≠ (0 : Int32) then 0 else 1))
theorem c_fits {rs : Nat} {ra rh : Nat} {nf : Int32} {tg : List Int32} (t : Int32) {h : zH} (hS : zat h 44 = some (.inr (.inr (.inr (7, [.ref ra, .ref rh, .ref 46, .int nf, .ref 48, .ref 50, .ref 52, .ref 54, .ref 56, .ref rs]))))) (h46 : zat h 46 = some (.inl (0, 6, tg))) : zT zg0 zF zP 85 0 [(0, .ref 44), (1, .int t)] [] h 0 0 (some (.int (jfit tg t)), h, 0, 0) := by
  apply wq_toT
  refine wq_gos (f := 1) (pc2 := 1) (ls2 := [(0, .ref 44), (1, .int t)]) (st2 := [.int t]) (h2 := h) (dc2 := 0) (ds2 := 0) 1 rfl ?_
  refine wq_inl (y2 := 150) (as := [.int t]) rfl rfl rfl (wq_T (c_sin t h) ?_)
  show wq 85 4 [(0, .ref 44), (1, .int t)] [.int (jsin t)] h 0 0 _
  refine wq_gos (f := 1) (pc2 := 6) (ls2 := [(2, .int (jsin t)), (0, .ref 44), (1, .int t)]) (st2 := [.int (jsin t)]) (h2 := h) (dc2 := 0) (ds2 := 0) 2 rfl ?_
  refine wq_ne0 rfl rfl (fun b1x => ?_) (fun b1x => ?_)
  · refine wq_gos (f := 1) (pc2 := 27) (ls2 := [(2, .int (jsin t)), (0, .ref 44), (1, .int t)]) (st2 := [.ref 44]) (h2 := h) (dc2 := 0) (ds2 := 0) 1 rfl ?_
    refine wq_getf rfl hS rfl rfl ?_
    refine wq_gos (f := 1) (pc2 := 31) (ls2 := [(2, .int (jsin t)), (0, .ref 44), (1, .int t)]) (st2 := [.int 1, .ref 46]) (h2 := h) (dc2 := 0) (ds2 := 0) 1 rfl ?_
    refine wq_ialdk (k := 1) rfl h46 rfl rfl rfl ?_
    refine wq_gos (f := 1) (pc2 := 33) (ls2 := [(2, .int (jsin t)), (0, .ref 44), (1, .int t)]) (st2 := [.int (jsin t), .int (tg.getD 1 0)]) (h2 := h) (dc2 := 0) (ds2 := 0) 1 rfl ?_
    refine wq_irem rfl b1x ?_
    refine wq_ne0 rfl rfl (fun b2x => ?_) (fun b2x => ?_)
    · refine wq_gos (f := 1) (pc2 := 42) (ls2 := [(2, .int (jsin t)), (0, .ref 44), (1, .int t)]) (st2 := [.int 0]) (h2 := h) (dc2 := 0) (ds2 := 0) 1 rfl ?_
      refine wq_ret rfl rfl ?_
      show (some (Value.int 0), h, 0, 0) = (some (Value.int (jfit tg t)), h, 0, 0)
      rw [show jfit tg t = 0 by unfold jfit; rw [if_pos b1x, if_pos b2x]]
    · refine wq_gos (f := 1) (pc2 := 42) (ls2 := [(2, .int (jsin t)), (0, .ref 44), (1, .int t)]) (st2 := [.int 1]) (h2 := h) (dc2 := 0) (ds2 := 0) 2 rfl ?_
      refine wq_ret rfl rfl ?_
      show (some (Value.int 1), h, 0, 0) = (some (Value.int (jfit tg t)), h, 0, 0)
      rw [show jfit tg t = 1 by unfold jfit; rw [if_pos b1x, if_neg (fun q => q b2x)]]
  · refine wq_gos (f := 1) (pc2 := 10) (ls2 := [(2, .int (jsin t)), (0, .ref 44), (1, .int t)]) (st2 := [.ref 44]) (h2 := h) (dc2 := 0) (ds2 := 0) 1 rfl ?_
    refine wq_getf rfl hS rfl rfl ?_
    refine wq_gos (f := 1) (pc2 := 14) (ls2 := [(2, .int (jsin t)), (0, .ref 44), (1, .int t)]) (st2 := [.int 1, .ref 46]) (h2 := h) (dc2 := 0) (ds2 := 0) 1 rfl ?_
    refine wq_ialdk (k := 1) rfl h46 rfl rfl rfl ?_
    refine wq_ne0 rfl rfl (fun b3x => ?_) (fun b3x => ?_)
    · refine wq_gos (f := 1) (pc2 := 42) (ls2 := [(2, .int (jsin t)), (0, .ref 44), (1, .int t)]) (st2 := [.int 0]) (h2 := h) (dc2 := 0) (ds2 := 0) 2 rfl ?_
      refine wq_ret rfl rfl ?_
      show (some (Value.int 0), h, 0, 0) = (some (Value.int (jfit tg t)), h, 0, 0)
      rw [show jfit tg t = 0 by unfold jfit; rw [if_neg (fun q => q b1x), if_pos b3x]]
    · refine wq_gos (f := 1) (pc2 := 42) (ls2 := [(2, .int (jsin t)), (0, .ref 44), (1, .int t)]) (st2 := [.int 1]) (h2 := h) (dc2 := 0) (ds2 := 0) 2 rfl ?_
      refine wq_ret rfl rfl ?_
      show (some (Value.int 1), h, 0, 0) = (some (Value.int (jfit tg t)), h, 0, 0)
      rw [show jfit tg t = 1 by unfold jfit; rw [if_neg (fun q => q b1x), if_neg (fun q => q b3x)]]
theorem jroll_rng (tg : List Int32) (t : Int32) : 0 ≤ (jroll0 tg t).toInt ∧ (jroll0 tg t).toInt ≤ 63 := by
  have h : ∀ v : Int32, 0 ≤ (v &&& 63).toInt ∧ (v &&& 63).toInt ≤ 63 := fun v => by
    obtain ⟨j, hj, e⟩ := z64 v
    rw [e, nI_toInt (by omega)]
    omega
  unfold jroll0
  split <;> exact h _
/-- what one fold gives by a turn -/
noncomputable def sTurn1 (ll lg : List Int32) (lk hd : Int32) (tg : List Int32) (p t : Int32) (q : Int32 × Int32) : List Int64 := if (jout lk hd q.1 (q.1 + q.2) p) * (jsin t) = (tg.getD 1 0) then (if ((((tg.getD 0 0) - ((jout lk hd q.1 (q.1 + q.2) p) * (jcos t))) - ((tg.getD 0 0) - ((jout lk hd q.1 (q.1 + q.2) p) * (jcos t))) / (1000000 : Int32) * (1000000 : Int32))) ≠ 0 then [] else sOff ll lg ((((tg.getD 0 0) - ((jout lk hd q.1 (q.1 + q.2) p) * (jcos t)))) / (1000000 : Int32)) t q.1 q.2 (jw (p - (q.1 + q.2))) (jroll0 tg t)) else []
theorem sOff_len (ll lg : List Int32) (rail turn a e w roll : Int32) : (sOff ll lg rail turn a e w roll).length ≤ 2 := by
  unfold sOff
  (repeat' split) <;> simp
theorem sTurn1_len (ll lg : List Int32) (lk hd : Int32) (tg : List Int32) (p t : Int32) (q : Int32 × Int32) : (sTurn1 ll lg lk hd tg p t q).length ≤ 2 := by
  unfold sTurn1
  split
  · split
    · simp
    · exact sOff_len _ _ _ _ _ _ _ _
  · simp
set_option maxHeartbeats 8000000 in
theorem c_byTurnL {ra rl rg rv rn rp rw : Nat} {lk hd ht bl sd sp so : Int32} {rt : Int64} {ll lg : List Int32} {rs rh : Nat} {sh el wr ou tg : List Int32} {p t : Int32} {kn : Int32} (ha : ra < 34 ∧ rl < 34 ∧ rg < 34) : ∀ (todo done : List (Int32 × Int32)) (h : zH) (rL cap : Nat) (ks fa : Int32) (li : List Int64) (SL : List Int64) (dc ds : Nat), (done ++ todo).length ≤ 128 → wFo p lk hd (done ++ todo) sh el wr ou → zat h ra = some (.inr (.inr (.inr (0, [.int lk, .int hd, .int ht, .int bl, .int sd, .long rt, .ref rl, .ref rg, .ref rv, .int sp, .ref rn, .ref rp, .int so, .ref rw])))) → zat h rl = some (.inl (0, 6, ll)) → zat h rg = some (.inl (0, 6, lg)) → zat h 44 = some (.inr (.inr (.inr (7, [.ref ra, .ref rh, .ref 46, .int (nI (done ++ todo).length), .ref 48, .ref 50, .ref 52, .ref 54, .ref 56, .ref rs])))) → zat h 46 = some (.inl (0, 6, tg)) → zat h 48 = some (.inl (0, 128, sh)) → zat h 50 = some (.inl (0, 128, el)) → zat h 52 = some (.inl (0, 128, wr)) → zat h 54 = some (.inl (0, 128, ou)) → zat h rh = some (.inr (.inr (.inr (1, [.int kn, .int (nI SL.length), .ref rL, .ref (rh + 4), .int ks, .int fa])))) → zat h rL = some (.inr (.inl (cap, li))) → 16 ≤ cap ∧ cap ≤ 600 ∧ (SL.length ≤ cap ∨ cap = 600) → wLi SL li → SL.length < 20000 → 60 ≤ rh ∧ rh < 230 ∧ (rL = rh + 2 ∨ 234 ≤ rL) → 117 ≤ h.length → SL.length + 2 * todo.length < 20000 → wq 89 20 [(0, .ref 44), (1, .int t), (2, .int (jsin t)), (3, .int (jcos t)), (4, .int (jroll0 tg t)), (5, .int (nI done.length))] [] h dc ds (fun r => ∃ (h2 : zH) (rL2 cap2 : Nat) (ks2 fa2 : Int32) (li2 : List Int64) (d s : Nat), r = (none, h2, dc + d, ds + s) ∧ wFr [rh, rL] h h2 ∧ zat h2 rh = some (.inr (.inr (.inr (1, [.int kn, .int (nI (SL ++ todo.flatMap (sTurn1 ll lg lk hd tg p t)).length), .ref rL2, .ref (rh + 4), .int ks2, .int fa2])))) ∧ zat h2 rL2 = some (.inr (.inl (cap2, li2))) ∧ wLi (SL ++ todo.flatMap (sTurn1 ll lg lk hd tg p t)) li2 ∧ cap ≤ cap2 ∧ cap2 ≤ 600 ∧ ((SL ++ todo.flatMap (sTurn1 ll lg lk hd tg p t)).length ≤ cap2 ∨ cap2 = 600) ∧ (rL2 = rL ∨ 2 * h.length ≤ rL2) ∧ d + cap ≤ cap2 ∧ s + 600 * cap ≤ 600 * cap2) := by
  intro todo
  induction todo with
  | nil =>
    intro done h rL cap ks fa li SL dc ds h128 hF hA hL hG hS h46 h48 h50 h52 h54 hH hI hc hLi hSn hd1 hl hroom
    refine wq_gos (f := 1) (pc2 := 23) (ls2 := [(0, .ref 44), (1, .int t), (2, .int (jsin t)), (3, .int (jcos t)), (4, .int (jroll0 tg t)), (5, .int (nI done.length))]) (st2 := [.ref 44, .int (nI done.length)]) (h2 := h) (dc2 := dc) (ds2 := ds) 2 rfl ?_
    refine wq_getf rfl hS rfl rfl ?_
    refine wq_ge2t rfl (by simp) ?_
    have hx : SL ++ List.flatMap (sTurn1 ll lg lk hd tg p t) [] = SL := by simp
    rw [hx]
    exact wq_ret rfl rfl ⟨h, rL, cap, ks, fa, li, 0, 0, rfl, wFr_rf _ _, hH, hI, hLi, by omega, by omega, by omega, by omega, by omega, by omega⟩
  | cons q todo ih =>
    intro done h rL cap ks fa li SL dc ds h128 hF hA hL hG hS h46 h48 h50 h52 h54 hH hI hc hLi hSn hd1 hl hroom
    have hlen : (done ++ q :: todo).length = done.length + (todo.length + 1) := by rw [List.length_append]; rfl
    have hd9 := nI_toInt (n := done.length) (by omega)
    have hd8 := nI_toInt (n := (done ++ q :: todo).length) (by omega)
    have hr2 : SL.length + 2 * (todo.length + 1) < 20000 := hroom
    obtain ⟨g1, g2, g3, g4⟩ := hF done.length q (by rw [List.getElem?_append_right (Nat.le_refl _)]; simp)
    have hsnoc : done ++ q :: todo = (done ++ [q]) ++ todo := by simp
    have hdl : (done ++ [q]).length = done.length + 1 := by rw [List.length_append]; rfl
    have hfm : SL ++ List.flatMap (sTurn1 ll lg lk hd tg p t) (q :: todo) = SL ++ sTurn1 ll lg lk hd tg p t q ++ List.flatMap (sTurn1 ll lg lk hd tg p t) todo := by simp
    refine wq_gos (f := 1) (pc2 := 23) (ls2 := [(0, .ref 44), (1, .int t), (2, .int (jsin t)), (3, .int (jcos t)), (4, .int (jroll0 tg t)), (5, .int (nI done.length))]) (st2 := [.ref 44, .int (nI done.length)]) (h2 := h) (dc2 := dc) (ds2 := ds) 2 rfl ?_
    refine wq_getf rfl hS rfl rfl ?_
    refine wq_ge2f rfl rfl (by rw [hd9, hd8]; omega) ?_
    refine wq_gos (f := 1) (pc2 := 30) (ls2 := [(0, .ref 44), (1, .int t), (2, .int (jsin t)), (3, .int (jcos t)), (4, .int (jroll0 tg t)), (5, .int (nI done.length))]) (st2 := [.ref 44]) (h2 := h) (dc2 := dc) (ds2 := ds) 1 rfl ?_
    refine wq_getf rfl hS rfl rfl ?_
    refine wq_gos (f := 1) (pc2 := 35) (ls2 := [(0, .ref 44), (1, .int t), (2, .int (jsin t)), (3, .int (jcos t)), (4, .int (jroll0 tg t)), (5, .int (nI done.length))]) (st2 := [.int (nI done.length), .ref 54]) (h2 := h) (dc2 := dc) (ds2 := ds) 1 rfl ?_
    refine wq_ialdn rfl h54 (by omega) (by decide) rfl ?_
    refine wq_vi g4 ?_
    refine wq_gos (f := 1) (pc2 := 39) (ls2 := [(0, .ref 44), (1, .int t), (2, .int (jsin t)), (3, .int (jcos t)), (4, .int (jroll0 tg t)), (5, .int (nI done.length))]) (st2 := [.ref 44, .int ((jout lk hd q.1 (q.1 + q.2) p) * (jsin t))]) (h2 := h) (dc2 := dc) (ds2 := ds) 3 rfl ?_
    refine wq_getf rfl hS rfl rfl ?_
    refine wq_gos (f := 1) (pc2 := 43) (ls2 := [(0, .ref 44), (1, .int t), (2, .int (jsin t)), (3, .int (jcos t)), (4, .int (jroll0 tg t)), (5, .int (nI done.length))]) (st2 := [.int 1, .ref 46, .int ((jout lk hd q.1 (q.1 + q.2) p) * (jsin t))]) (h2 := h) (dc2 := dc) (ds2 := ds) 1 rfl ?_
    refine wq_ialdk (k := 1) rfl h46 rfl rfl rfl ?_
    refine wq_eq2 rfl rfl (fun b1x => ?_) (fun b1x => ?_)
    · refine wq_gos (f := 1) (pc2 := 51) (ls2 := [(0, .ref 44), (1, .int t), (2, .int (jsin t)), (3, .int (jcos t)), (4, .int (jroll0 tg t)), (5, .int (nI done.length))]) (st2 := [.ref 44]) (h2 := h) (dc2 := dc) (ds2 := ds) 1 rfl ?_
      refine wq_getf rfl hS rfl rfl ?_
      refine wq_gos (f := 1) (pc2 := 55) (ls2 := [(0, .ref 44), (1, .int t), (2, .int (jsin t)), (3, .int (jcos t)), (4, .int (jroll0 tg t)), (5, .int (nI done.length))]) (st2 := [.int 0, .ref 46]) (h2 := h) (dc2 := dc) (ds2 := ds) 1 rfl ?_
      refine wq_ialdk (k := 0) rfl h46 rfl rfl rfl ?_
      refine wq_gos (f := 1) (pc2 := 57) (ls2 := [(0, .ref 44), (1, .int t), (2, .int (jsin t)), (3, .int (jcos t)), (4, .int (jroll0 tg t)), (5, .int (nI done.length))]) (st2 := [.ref 44, .int (tg.getD 0 0)]) (h2 := h) (dc2 := dc) (ds2 := ds) 1 rfl ?_
      refine wq_getf rfl hS rfl rfl ?_
      refine wq_gos (f := 1) (pc2 := 62) (ls2 := [(0, .ref 44), (1, .int t), (2, .int (jsin t)), (3, .int (jcos t)), (4, .int (jroll0 tg t)), (5, .int (nI done.length))]) (st2 := [.int (nI done.length), .ref 54, .int (tg.getD 0 0)]) (h2 := h) (dc2 := dc) (ds2 := ds) 1 rfl ?_
      refine wq_ialdn rfl h54 (by omega) (by decide) rfl ?_
      refine wq_vi g4 ?_
      refine wq_gos (f := 1) (pc2 := 73) (ls2 := [(6, .int ((tg.getD 0 0) - ((jout lk hd q.1 (q.1 + q.2) p) * (jcos t)))), (0, .ref 44), (1, .int t), (2, .int (jsin t)), (3, .int (jcos t)), (4, .int (jroll0 tg t)), (5, .int (nI done.length))]) (st2 := [.int (((tg.getD 0 0) - ((jout lk hd q.1 (q.1 + q.2) p) * (jcos t))) - ((tg.getD 0 0) - ((jout lk hd q.1 (q.1 + q.2) p) * (jcos t))) / (1000000 : Int32) * (1000000 : Int32))]) (h2 := h) (dc2 := dc) (ds2 := ds) 7 rfl ?_
      refine wq_ne0 rfl rfl (fun b2x => ?_) (fun b2x => ?_)
      · refine wq_gos (f := 1) (pc2 := 20) (ls2 := [(5, .int ((nI done.length) + 1)), (6, .int ((tg.getD 0 0) - ((jout lk hd q.1 (q.1 + q.2) p) * (jcos t)))), (0, .ref 44), (1, .int t), (2, .int (jsin t)), (3, .int (jcos t)), (4, .int (jroll0 tg t))]) (st2 := []) (h2 := h) (dc2 := dc) (ds2 := ds) 2 rfl ?_
        have ht : sTurn1 ll lg lk hd tg p t q = [] := by unfold sTurn1; rw [if_pos b1x, if_pos b2x]
        rw [hfm, ht]
        rw [List.append_nil]
        refine wq_ls [(0, .ref 44), (1, .int t), (2, .int (jsin t)), (3, .int (jcos t)), (4, .int (jroll0 tg t)), (5, .int (nI done.length + 1))] (show ([0, 1, 2, 3, 4, 5] : List Nat).Nodup by decide) ⟨rfl, rfl, rfl, rfl, rfl, rfl, trivial⟩ ?_
        rw [nI_1, ← hdl]
        have eS9 := hS
        rw [hsnoc] at eS9 h128 hF
        refine wq_mono (ih (done ++ [q]) h rL cap ks fa _ SL dc ds h128 hF hA hL hG eS9 h46 h48 h50 h52 h54 hH hI ⟨by omega, by omega, by omega⟩ hLi (by omega) ⟨by omega, by omega, by omega⟩ (by omega) (by omega)) ?_
        rintro _ ⟨k0, k1, k2, k3, k4, k5, k6, k7, rfl, k8, k9, k10, k11, k12, k13, k14, k15, k16, k17⟩
        exact ⟨k0, k1, k2, k3, k4, k5, k6, k7, rfl, k8, k9, k10, k11, k12, k13, k14, k15, k16, k17⟩
      · refine wq_gos (f := 1) (pc2 := 87) (ls2 := [(6, .int ((tg.getD 0 0) - ((jout lk hd q.1 (q.1 + q.2) p) * (jcos t)))), (0, .ref 44), (1, .int t), (2, .int (jsin t)), (3, .int (jcos t)), (4, .int (jroll0 tg t)), (5, .int (nI done.length))]) (st2 := [.int (jroll0 tg t), .int (nI done.length), .int t, .int (((tg.getD 0 0) - ((jout lk hd q.1 (q.1 + q.2) p) * (jcos t))) / (1000000 : Int32)), .ref 44]) (h2 := h) (dc2 := dc) (ds2 := ds) 7 rfl ?_
        refine wq_inlv (y2 := 90) (as := [.int (((tg.getD 0 0) - ((jout lk hd q.1 (q.1 + q.2) p) * (jcos t))) / (1000000 : Int32)), .int t, .int (nI done.length), .int (jroll0 tg t)]) rfl rfl rfl hS rfl (wq_mono (c_offer (ou := ou) hA hL hG hS h48 h50 h52 hH hI hc hLi hSn ha hd1 hl (by omega) g1 g2 g3 (((tg.getD 0 0) - ((jout lk hd q.1 (q.1 + q.2) p) * (jcos t))) / (1000000 : Int32)) t (jroll0 tg t) (jroll_rng tg t)) ?_)
        rintro _ ⟨h3x, rL4x, cap5x, ks6x, fa7x, li8x, d9x, s10x, rfl, f11x, e12x, e13x, L14x, c15x, c16x, c17x, c18x, c19x, c20x⟩
        show wq 89 90 [(6, .int ((tg.getD 0 0) - ((jout lk hd q.1 (q.1 + q.2) p) * (jcos t)))), (0, .ref 44), (1, .int t), (2, .int (jsin t)), (3, .int (jcos t)), (4, .int (jroll0 tg t)), (5, .int (nI done.length))] [] h3x (dc + d9x) (ds + s10x) _
        refine wq_gos (f := 1) (pc2 := 20) (ls2 := [(5, .int ((nI done.length) + 1)), (6, .int ((tg.getD 0 0) - ((jout lk hd q.1 (q.1 + q.2) p) * (jcos t)))), (0, .ref 44), (1, .int t), (2, .int (jsin t)), (3, .int (jcos t)), (4, .int (jroll0 tg t))]) (st2 := []) (h2 := h3x) (dc2 := (dc + d9x)) (ds2 := (ds + s10x)) 2 rfl ?_
        have e21x := (f11x.2 _ _ (wnc (by omega) (wnc (by omega) wn0)) hA)
        have e22x := (f11x.2 _ _ (wnc (by omega) (wnc (by omega) wn0)) hL)
        have e23x := (f11x.2 _ _ (wnc (by omega) (wnc (by omega) wn0)) hG)
        have e24x := (f11x.2 _ _ (wnc (by omega) (wnc (by omega) wn0)) hS)
        have e25x := (f11x.2 _ _ (wnc (by omega) (wnc (by omega) wn0)) h46)
        have e26x := (f11x.2 _ _ (wnc (by omega) (wnc (by omega) wn0)) h48)
        have e27x := (f11x.2 _ _ (wnc (by omega) (wnc (by omega) wn0)) h50)
        have e28x := (f11x.2 _ _ (wnc (by omega) (wnc (by omega) wn0)) h52)
        have e29x := (f11x.2 _ _ (wnc (by omega) (wnc (by omega) wn0)) h54)
        have ht : sTurn1 ll lg lk hd tg p t q = sOff ll lg (((tg.getD 0 0) - ((jout lk hd q.1 (q.1 + q.2) p) * (jcos t))) / (1000000 : Int32)) t q.1 q.2 (jw (p - (q.1 + q.2))) (jroll0 tg t) := by unfold sTurn1; rw [if_pos b1x, if_neg (fun q => q b2x)]
        rw [hfm, ht]
        have hol := sOff_len ll lg (((tg.getD 0 0) - ((jout lk hd q.1 (q.1 + q.2) p) * (jcos t))) / (1000000 : Int32)) t q.1 q.2 (jw (p - (q.1 + q.2))) (jroll0 tg t)
        have hsl : (SL ++ sOff ll lg (((tg.getD 0 0) - ((jout lk hd q.1 (q.1 + q.2) p) * (jcos t))) / (1000000 : Int32)) t q.1 q.2 (jw (p - (q.1 + q.2))) (jroll0 tg t)).length = SL.length + (sOff ll lg (((tg.getD 0 0) - ((jout lk hd q.1 (q.1 + q.2) p) * (jcos t))) / (1000000 : Int32)) t q.1 q.2 (jw (p - (q.1 + q.2))) (jroll0 tg t)).length := List.length_append
        have hf1 := f11x.1
        refine wq_ls [(0, .ref 44), (1, .int t), (2, .int (jsin t)), (3, .int (jcos t)), (4, .int (jroll0 tg t)), (5, .int (nI done.length + 1))] (show ([0, 1, 2, 3, 4, 5] : List Nat).Nodup by decide) ⟨rfl, rfl, rfl, rfl, rfl, rfl, trivial⟩ ?_
        rw [nI_1, ← hdl]
        have eS9 := e24x
        rw [hsnoc] at eS9 h128 hF
        refine wq_mono (ih (done ++ [q]) h3x rL4x cap5x ks6x fa7x _ (SL ++ sOff ll lg (((tg.getD 0 0) - ((jout lk hd q.1 (q.1 + q.2) p) * (jcos t))) / (1000000 : Int32)) t q.1 q.2 (jw (p - (q.1 + q.2))) (jroll0 tg t)) (dc + d9x) (ds + s10x) h128 hF e21x e22x e23x eS9 e25x e26x e27x e28x e29x e12x e13x ⟨by omega, by omega, by omega⟩ L14x (by omega) ⟨by omega, by omega, by omega⟩ (by omega) (by omega)) ?_
        rintro _ ⟨k0, k1, k2, k3, k4, k5, k6, k7, rfl, k8, k9, k10, k11, k12, k13, k14, k15, k16, k17⟩
        exact ⟨k0, k1, k2, k3, k4, k5, _, _, by rw [Nat.add_assoc, Nat.add_assoc], wFr_two f11x k8 (by omega), k9, k10, k11, by omega, k13, k14, by omega, by omega, by omega⟩
    · refine wq_gos (f := 1) (pc2 := 20) (ls2 := [(5, .int ((nI done.length) + 1)), (0, .ref 44), (1, .int t), (2, .int (jsin t)), (3, .int (jcos t)), (4, .int (jroll0 tg t))]) (st2 := []) (h2 := h) (dc2 := dc) (ds2 := ds) 3 rfl ?_
      have ht : sTurn1 ll lg lk hd tg p t q = [] := by unfold sTurn1; rw [if_neg b1x]
      rw [hfm, ht]
      rw [List.append_nil]
      refine wq_ls [(0, .ref 44), (1, .int t), (2, .int (jsin t)), (3, .int (jcos t)), (4, .int (jroll0 tg t)), (5, .int (nI done.length + 1))] (show ([0, 1, 2, 3, 4, 5] : List Nat).Nodup by decide) ⟨rfl, rfl, rfl, rfl, rfl, rfl, trivial⟩ ?_
      rw [nI_1, ← hdl]
      have eS9 := hS
      rw [hsnoc] at eS9 h128 hF
      refine wq_mono (ih (done ++ [q]) h rL cap ks fa _ SL dc ds h128 hF hA hL hG eS9 h46 h48 h50 h52 h54 hH hI ⟨by omega, by omega, by omega⟩ hLi (by omega) ⟨by omega, by omega, by omega⟩ (by omega) (by omega)) ?_
      rintro _ ⟨k0, k1, k2, k3, k4, k5, k6, k7, rfl, k8, k9, k10, k11, k12, k13, k14, k15, k16, k17⟩
      exact ⟨k0, k1, k2, k3, k4, k5, k6, k7, rfl, k8, k9, k10, k11, k12, k13, k14, k15, k16, k17⟩
set_option maxHeartbeats 8000000 in
theorem c_byTurn {h : zH} {ra rl rg rv rn rp rw : Nat} {lk hd ht bl sd sp so : Int32} {rt : Int64} {ll lg : List Int32} {rs : Nat} {sh el wr ou tg : List Int32} {p : Int32} {FL : List (Int32 × Int32)} {rh rL cap : Nat} {kn ks fa : Int32} {li : List Int64} {SL : List Int64} (ha : ra < 34 ∧ rl < 34 ∧ rg < 34) (hF : wFo p lk hd FL sh el wr ou) (h128 : FL.length ≤ 128) (hroom : SL.length + 2 * FL.length < 20000) (hA : zat h ra = some (.inr (.inr (.inr (0, [.int lk, .int hd, .int ht, .int bl, .int sd, .long rt, .ref rl, .ref rg, .ref rv, .int sp, .ref rn, .ref rp, .int so, .ref rw]))))) (hL : zat h rl = some (.inl (0, 6, ll))) (hG : zat h rg = some (.inl (0, 6, lg))) (hS : zat h 44 = some (.inr (.inr (.inr (7, [.ref ra, .ref rh, .ref 46, .int (nI FL.length), .ref 48, .ref 50, .ref 52, .ref 54, .ref 56, .ref rs]))))) (h46 : zat h 46 = some (.inl (0, 6, tg))) (h48 : zat h 48 = some (.inl (0, 128, sh))) (h50 : zat h 50 = some (.inl (0, 128, el))) (h52 : zat h 52 = some (.inl (0, 128, wr))) (h54 : zat h 54 = some (.inl (0, 128, ou))) (hH : zat h rh = some (.inr (.inr (.inr (1, [.int kn, .int (nI SL.length), .ref rL, .ref (rh + 4), .int ks, .int fa]))))) (hI : zat h rL = some (.inr (.inl (cap, li)))) (hc : 16 ≤ cap ∧ cap ≤ 600 ∧ (SL.length ≤ cap ∨ cap = 600)) (hLi : wLi SL li) (hSn : SL.length < 20000) (hd1 : 60 ≤ rh ∧ rh < 230 ∧ (rL = rh + 2 ∨ 234 ≤ rL)) (hl : 117 ≤ h.length) (t : Int32) : wq 89 0 [(0, .ref 44), (1, .int t)] [] h 0 0 (fun r => ∃ (h2 : zH) (rL2 cap2 : Nat) (ks2 fa2 : Int32) (li2 : List Int64) (d s : Nat), r = (none, h2, d, s) ∧ wFr [rh, rL] h h2 ∧ zat h2 rh = some (.inr (.inr (.inr (1, [.int kn, .int (nI (SL ++ FL.flatMap (sTurn1 ll lg lk hd tg p t)).length), .ref rL2, .ref (rh + 4), .int ks2, .int fa2])))) ∧ zat h2 rL2 = some (.inr (.inl (cap2, li2))) ∧ wLi (SL ++ FL.flatMap (sTurn1 ll lg lk hd tg p t)) li2 ∧ cap ≤ cap2 ∧ cap2 ≤ 600 ∧ ((SL ++ FL.flatMap (sTurn1 ll lg lk hd tg p t)).length ≤ cap2 ∨ cap2 = 600) ∧ (rL2 = rL ∨ 2 * h.length ≤ rL2) ∧ d + cap ≤ cap2 ∧ s + 600 * cap ≤ 600 * cap2) := by
  refine wq_gos (f := 1) (pc2 := 1) (ls2 := [(0, .ref 44), (1, .int t)]) (st2 := [.int t]) (h2 := h) (dc2 := 0) (ds2 := 0) 1 rfl ?_
  refine wq_inl (y2 := 150) (as := [.int t]) rfl rfl rfl (wq_T (c_sin t h) ?_)
  show wq 89 4 [(0, .ref 44), (1, .int t)] [.int (jsin t)] h 0 0 _
  refine wq_gos (f := 1) (pc2 := 6) (ls2 := [(2, .int (jsin t)), (0, .ref 44), (1, .int t)]) (st2 := [.int t]) (h2 := h) (dc2 := 0) (ds2 := 0) 2 rfl ?_
  refine wq_inl (y2 := 149) (as := [.int t]) rfl rfl rfl (wq_T (c_cos t h) ?_)
  show wq 89 9 [(2, .int (jsin t)), (0, .ref 44), (1, .int t)] [.int (jcos t)] h 0 0 _
  refine wq_gos (f := 1) (pc2 := 12) (ls2 := [(3, .int (jcos t)), (2, .int (jsin t)), (0, .ref 44), (1, .int t)]) (st2 := [.int t, .ref 44]) (h2 := h) (dc2 := 0) (ds2 := 0) 3 rfl ?_
  refine wq_inlv (y2 := 84) (as := [.int t]) rfl rfl rfl hS rfl (wq_T (c_rollBy t hS h46) ?_)
  show wq 89 15 [(3, .int (jcos t)), (2, .int (jsin t)), (0, .ref 44), (1, .int t)] [.int (jroll0 tg t)] h 0 0 _
  refine wq_gos (f := 1) (pc2 := 20) (ls2 := [(5, .int 0), (4, .int (jroll0 tg t)), (3, .int (jcos t)), (2, .int (jsin t)), (0, .ref 44), (1, .int t)]) (st2 := []) (h2 := h) (dc2 := 0) (ds2 := 0) 3 rfl ?_
  refine wq_ls [(0, .ref 44), (1, .int t), (2, .int (jsin t)), (3, .int (jcos t)), (4, .int (jroll0 tg t)), (5, .int (nI ([] : List (Int32 × Int32)).length))] (show ([0, 1, 2, 3, 4, 5] : List Nat).Nodup by decide) ⟨rfl, rfl, rfl, rfl, rfl, rfl, trivial⟩ ?_
  refine wq_mono (c_byTurnL ha FL [] h rL cap ks fa li SL 0 0 h128 hF hA hL hG hS h46 h48 h50 h52 h54 hH hI hc hLi hSn hd1 hl hroom) ?_
  rintro _ ⟨k0, k1, k2, k3, k4, k5, k6, k7, rfl, k8⟩
  exact ⟨k0, k1, k2, k3, k4, k5, k6, k7, by rw [Nat.zero_add, Nat.zero_add], k8⟩
