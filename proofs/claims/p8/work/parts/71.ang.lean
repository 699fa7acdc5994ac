/-! Contracts of the class's solver, lists of what is found; printed by a program. -/
theorem wq_toT {y pc : Nat} {ls : zL} {st : List Value} {h : zH} {dc ds : Nat} {r : zR} (k : wq y pc ls st h dc ds (fun x => x = r)) : zT zg0 zF zP y pc ls st h dc ds r := by
  obtain ⟨r2, a, b⟩ := k
  rw [← b]
  exact a
noncomputable def jmin (x z : Int32) : Int32 := if z.toInt < x.toInt then z else x
noncomputable def jmax (x z : Int32) : Int32 := if x.toInt < z.toInt then z else x
theorem c_min (x z : Int32) (h : zH) : zT zg0 zF zP 285 0 [(0, .int x), (1, .int z)] [] h 0 0 (some (.int (jmin x z)), h, 0, 0) := by
  apply wq_toT
  refine wq_gos (f := 1) (pc2 := 2) (ls2 := [(0, .int x), (1, .int z)]) (st2 := [.int z, .int x]) (h2 := h) (dc2 := 0) (ds2 := 0) 2 rfl ?_
  refine wq_gt2 rfl rfl (fun b1x => ?_) (fun b1x => ?_)
  · refine wq_gos (f := 1) (pc2 := 10) (ls2 := [(0, .int x), (1, .int z)]) (st2 := [.int z]) (h2 := h) (dc2 := 0) (ds2 := 0) 1 rfl ?_
    refine wq_ret rfl rfl ?_
    show (some (Value.int z), h, 0, 0) = (some (Value.int (jmin x z)), h, 0, 0)
    rw [show jmin x z = z by unfold jmin; split <;> first | rfl | (exact Int32.toInt_inj.mp (by omega)) | (exfalso; omega)]
  · refine wq_gos (f := 1) (pc2 := 10) (ls2 := [(0, .int x), (1, .int z)]) (st2 := [.int x]) (h2 := h) (dc2 := 0) (ds2 := 0) 2 rfl ?_
    refine wq_ret rfl rfl ?_
    show (some (Value.int x), h, 0, 0) = (some (Value.int (jmin x z)), h, 0, 0)
    rw [show jmin x z = x by unfold jmin; split <;> first | rfl | (exact Int32.toInt_inj.mp (by omega)) | (exfalso; omega)]
theorem c_max (x z : Int32) (h : zH) : zT zg0 zF zP 284 0 [(0, .int x), (1, .int z)] [] h 0 0 (some (.int (jmax x z)), h, 0, 0) := by
  apply wq_toT
  refine wq_gos (f := 1) (pc2 := 2) (ls2 := [(0, .int x), (1, .int z)]) (st2 := [.int z, .int x]) (h2 := h) (dc2 := 0) (ds2 := 0) 2 rfl ?_
  refine wq_lt2 rfl rfl (fun b1x => ?_) (fun b1x => ?_)
  · refine wq_gos (f := 1) (pc2 := 10) (ls2 := [(0, .int x), (1, .int z)]) (st2 := [.int z]) (h2 := h) (dc2 := 0) (ds2 := 0) 1 rfl ?_
    refine wq_ret rfl rfl ?_
    show (some (Value.int z), h, 0, 0) = (some (Value.int (jmax x z)), h, 0, 0)
    rw [show jmax x z = z by unfold jmax; split <;> first | rfl | (exact Int32.toInt_inj.mp (by omega)) | (exfalso; omega)]
  · refine wq_gos (f := 1) (pc2 := 10) (ls2 := [(0, .int x), (1, .int z)]) (st2 := [.int x]) (h2 := h) (dc2 := 0) (ds2 := 0) 2 rfl ?_
    refine wq_ret rfl rfl ?_
    show (some (Value.int x), h, 0, 0) = (some (Value.int (jmax x z)), h, 0, 0)
    rw [show jmax x z = x by unfold jmax; split <;> first | rfl | (exact Int32.toInt_inj.mp (by omega)) | (exfalso; omega)]
noncomputable def jang (s : Int32) : Int32 := (if s.toInt ≤ (0 : Int32).toInt then (if s.toInt ≤ (-707 : Int32).toInt then (if s.toInt ≤ (-924 : Int32).toInt then (if s.toInt ≤ (-981 : Int32).toInt then (if s.toInt ≤ (-995 : Int32).toInt then (if s.toInt ≤ (-1000 : Int32).toInt then (if (-1000 : Int32) ≠ s then 99 else (-16)) else (if (-995 : Int32) ≠ s then 99 else (-15))) else (if (-981 : Int32) ≠ s then 99 else (-14))) else (if s.toInt ≤ (-957 : Int32).toInt then (if (-957 : Int32) ≠ s then 99 else (-13)) else (if (-924 : Int32) ≠ s then 99 else (-12)))) else (if s.toInt ≤ (-831 : Int32).toInt then (if s.toInt ≤ (-882 : Int32).toInt then (if (-882 : Int32) ≠ s then 99 else (-11)) else (if (-831 : Int32) ≠ s then 99 else (-10))) else (if s.toInt ≤ (-773 : Int32).toInt then (if (-773 : Int32) ≠ s then 99 else (-9)) else (if (-707 : Int32) ≠ s then 99 else (-8))))) else (if s.toInt ≤ (-383 : Int32).toInt then (if s.toInt ≤ (-556 : Int32).toInt then (if s.toInt ≤ (-634 : Int32).toInt then (if (-634 : Int32) ≠ s then 99 else (-7)) else (if (-556 : Int32) ≠ s then 99 else (-6))) else (if s.toInt ≤ (-471 : Int32).toInt then (if (-471 : Int32) ≠ s then 99 else (-5)) else (if (-383 : Int32) ≠ s then 99 else (-4)))) else (if s.toInt ≤ (-195 : Int32).toInt then (if s.toInt ≤ (-290 : Int32).toInt then (if (-290 : Int32) ≠ s then 99 else (-3)) else (if (-195 : Int32) ≠ s then 99 else (-2))) else (if s.toInt ≤ (-98 : Int32).toInt then (if (-98 : Int32) ≠ s then 99 else (-1)) else (if (0 : Int32) ≠ s then 99 else 0))))) else (if s.toInt ≤ (707 : Int32).toInt then (if s.toInt ≤ (383 : Int32).toInt then (if s.toInt ≤ (195 : Int32).toInt then (if s.toInt ≤ (98 : Int32).toInt then (if (98 : Int32) ≠ s then 99 else 1) else (if (195 : Int32) ≠ s then 99 else 2)) else (if s.toInt ≤ (290 : Int32).toInt then (if (290 : Int32) ≠ s then 99 else 3) else (if (383 : Int32) ≠ s then 99 else 4))) else (if s.toInt ≤ (556 : Int32).toInt then (if s.toInt ≤ (471 : Int32).toInt then (if (471 : Int32) ≠ s then 99 else 5) else (if (556 : Int32) ≠ s then 99 else 6)) else (if s.toInt ≤ (634 : Int32).toInt then (if (634 : Int32) ≠ s then 99 else 7) else (if (707 : Int32) ≠ s then 99 else 8)))) else (if s.toInt ≤ (924 : Int32).toInt then (if s.toInt ≤ (831 : Int32).toInt then (if s.toInt ≤ (773 : Int32).toInt then (if (773 : Int32) ≠ s then 99 else 9) else (if (831 : Int32) ≠ s then 99 else 10)) else (if s.toInt ≤ (882 : Int32).toInt then (if (882 : Int32) ≠ s then 99 else 11) else (if (924 : Int32) ≠ s then 99 else 12))) else (if s.toInt ≤ (981 : Int32).toInt then (if s.toInt ≤ (957 : Int32).toInt then (if (957 : Int32) ≠ s then 99 else 13) else (if (981 : Int32) ≠ s then 99 else 14)) else (if s.toInt ≤ (995 : Int32).toInt then (if (995 : Int32) ≠ s then 99 else 15) else (if (1000 : Int32) ≠ s then 99 else 16))))))
set_option maxHeartbeats 4000000 in
theorem c_ang (s : Int32) (h : zH) : zT zg0 zF zP 88 0 [(0, .int s)] [] h 0 0 (some (.int (jang s)), h, 0, 0) := by
  apply wq_toT
  refine wq_gos (f := 1) (pc2 := 23) (ls2 := [(3, .int 0), (2, .int 16), (1, .int (-16)), (0, .int s)]) (st2 := [.int 2, .int 0]) (h2 := h) (dc2 := 0) (ds2 := 0) 16 rfl ?_
  refine wq_inl (y2 := 282) (as := [.int 0, .int 2]) rfl rfl rfl ?_
  show wq 282 0 [(0, .int 0), (1, .int 2)] [] h 0 0 _
  refine wq_gos (f := 1) (pc2 := 22) (ls2 := [(2, .int 0), (0, .int 0), (1, .int 2)]) (st2 := [.int 0]) (h2 := h) (dc2 := 0) (ds2 := 0) 9 rfl ?_
  refine wq_ret rfl rfl ?_
  show wq 88 26 [(3, .int 0), (2, .int 16), (1, .int (-16)), (0, .int s)] [.int 0] h 0 0 _
  refine wq_gos (f := 1) (pc2 := 30) (ls2 := [(4, .int 0), (3, .int 0), (2, .int 16), (1, .int (-16)), (0, .int s)]) (st2 := [.int 0]) (h2 := h) (dc2 := 0) (ds2 := 0) 2 rfl ?_
  refine wq_inl (y2 := 150) (as := [.int 0]) rfl rfl rfl (wq_T (show zT zg0 zF zP 150 0 [(0, .int 0)] [] h 0 0 (some (.int 0), h, 0, 0) from c_sin (0 : Int32) h) ?_)
  show wq 88 33 [(4, .int 0), (3, .int 0), (2, .int 16), (1, .int (-16)), (0, .int s)] [.int 0] h 0 0 _
  refine wq_gos (f := 1) (pc2 := 34) (ls2 := [(4, .int 0), (3, .int 0), (2, .int 16), (1, .int (-16)), (0, .int s)]) (st2 := [.int s, .int 0]) (h2 := h) (dc2 := 0) (ds2 := 0) 1 rfl ?_
  refine wq_ge2 rfl rfl (fun b1x => ?_) (fun b1x => ?_)
  · refine wq_gos (f := 1) (pc2 := 23) (ls2 := [(3, .int 1), (2, .int 0), (4, .int 0), (1, .int (-16)), (0, .int s)]) (st2 := [.int 2, .int (-16)]) (h2 := h) (dc2 := 0) (ds2 := 0) 14 rfl ?_
    refine wq_inl (y2 := 282) (as := [.int (-16), .int 2]) rfl rfl rfl ?_
    show wq 282 0 [(0, .int (-16)), (1, .int 2)] [] h 0 0 _
    refine wq_gos (f := 1) (pc2 := 22) (ls2 := [(2, .int (-8)), (0, .int (-16)), (1, .int 2)]) (st2 := [.int (-8)]) (h2 := h) (dc2 := 0) (ds2 := 0) 14 rfl ?_
    refine wq_ret rfl rfl ?_
    show wq 88 26 [(3, .int 1), (2, .int 0), (4, .int 0), (1, .int (-16)), (0, .int s)] [.int (-8)] h 0 0 _
    refine wq_gos (f := 1) (pc2 := 30) (ls2 := [(4, .int (-8)), (3, .int 1), (2, .int 0), (1, .int (-16)), (0, .int s)]) (st2 := [.int (-8)]) (h2 := h) (dc2 := 0) (ds2 := 0) 2 rfl ?_
    refine wq_inl (y2 := 150) (as := [.int (-8)]) rfl rfl rfl (wq_T (show zT zg0 zF zP 150 0 [(0, .int (-8))] [] h 0 0 (some (.int (-707)), h, 0, 0) from c_sin (-8 : Int32) h) ?_)
    show wq 88 33 [(4, .int (-8)), (3, .int 1), (2, .int 0), (1, .int (-16)), (0, .int s)] [.int (-707)] h 0 0 _
    refine wq_gos (f := 1) (pc2 := 34) (ls2 := [(4, .int (-8)), (3, .int 1), (2, .int 0), (1, .int (-16)), (0, .int s)]) (st2 := [.int s, .int (-707)]) (h2 := h) (dc2 := 0) (ds2 := 0) 1 rfl ?_
    refine wq_ge2 rfl rfl (fun b2x => ?_) (fun b2x => ?_)
    · refine wq_gos (f := 1) (pc2 := 23) (ls2 := [(3, .int 2), (2, .int (-8)), (4, .int (-8)), (1, .int (-16)), (0, .int s)]) (st2 := [.int 2, .int (-24)]) (h2 := h) (dc2 := 0) (ds2 := 0) 14 rfl ?_
      refine wq_inl (y2 := 282) (as := [.int (-24), .int 2]) rfl rfl rfl ?_
      show wq 282 0 [(0, .int (-24)), (1, .int 2)] [] h 0 0 _
      refine wq_gos (f := 1) (pc2 := 22) (ls2 := [(2, .int (-12)), (0, .int (-24)), (1, .int 2)]) (st2 := [.int (-12)]) (h2 := h) (dc2 := 0) (ds2 := 0) 14 rfl ?_
      refine wq_ret rfl rfl ?_
      show wq 88 26 [(3, .int 2), (2, .int (-8)), (4, .int (-8)), (1, .int (-16)), (0, .int s)] [.int (-12)] h 0 0 _
      refine wq_gos (f := 1) (pc2 := 30) (ls2 := [(4, .int (-12)), (3, .int 2), (2, .int (-8)), (1, .int (-16)), (0, .int s)]) (st2 := [.int (-12)]) (h2 := h) (dc2 := 0) (ds2 := 0) 2 rfl ?_
      refine wq_inl (y2 := 150) (as := [.int (-12)]) rfl rfl rfl (wq_T (show zT zg0 zF zP 150 0 [(0, .int (-12))] [] h 0 0 (some (.int (-924)), h, 0, 0) from c_sin (-12 : Int32) h) ?_)
      show wq 88 33 [(4, .int (-12)), (3, .int 2), (2, .int (-8)), (1, .int (-16)), (0, .int s)] [.int (-924)] h 0 0 _
      refine wq_gos (f := 1) (pc2 := 34) (ls2 := [(4, .int (-12)), (3, .int 2), (2, .int (-8)), (1, .int (-16)), (0, .int s)]) (st2 := [.int s, .int (-924)]) (h2 := h) (dc2 := 0) (ds2 := 0) 1 rfl ?_
      refine wq_ge2 rfl rfl (fun b3x => ?_) (fun b3x => ?_)
      · refine wq_gos (f := 1) (pc2 := 23) (ls2 := [(3, .int 3), (2, .int (-12)), (4, .int (-12)), (1, .int (-16)), (0, .int s)]) (st2 := [.int 2, .int (-28)]) (h2 := h) (dc2 := 0) (ds2 := 0) 14 rfl ?_
        refine wq_inl (y2 := 282) (as := [.int (-28), .int 2]) rfl rfl rfl ?_
        show wq 282 0 [(0, .int (-28)), (1, .int 2)] [] h 0 0 _
        refine wq_gos (f := 1) (pc2 := 22) (ls2 := [(2, .int (-14)), (0, .int (-28)), (1, .int 2)]) (st2 := [.int (-14)]) (h2 := h) (dc2 := 0) (ds2 := 0) 14 rfl ?_
        refine wq_ret rfl rfl ?_
        show wq 88 26 [(3, .int 3), (2, .int (-12)), (4, .int (-12)), (1, .int (-16)), (0, .int s)] [.int (-14)] h 0 0 _
        refine wq_gos (f := 1) (pc2 := 30) (ls2 := [(4, .int (-14)), (3, .int 3), (2, .int (-12)), (1, .int (-16)), (0, .int s)]) (st2 := [.int (-14)]) (h2 := h) (dc2 := 0) (ds2 := 0) 2 rfl ?_
        refine wq_inl (y2 := 150) (as := [.int (-14)]) rfl rfl rfl (wq_T (show zT zg0 zF zP 150 0 [(0, .int (-14))] [] h 0 0 (some (.int (-981)), h, 0, 0) from c_sin (-14 : Int32) h) ?_)
        show wq 88 33 [(4, .int (-14)), (3, .int 3), (2, .int (-12)), (1, .int (-16)), (0, .int s)] [.int (-981)] h 0 0 _
        refine wq_gos (f := 1) (pc2 := 34) (ls2 := [(4, .int (-14)), (3, .int 3), (2, .int (-12)), (1, .int (-16)), (0, .int s)]) (st2 := [.int s, .int (-981)]) (h2 := h) (dc2 := 0) (ds2 := 0) 1 rfl ?_
        refine wq_ge2 rfl rfl (fun b4x => ?_) (fun b4x => ?_)
        · refine wq_gos (f := 1) (pc2 := 23) (ls2 := [(3, .int 4), (2, .int (-14)), (4, .int (-14)), (1, .int (-16)), (0, .int s)]) (st2 := [.int 2, .int (-30)]) (h2 := h) (dc2 := 0) (ds2 := 0) 14 rfl ?_
          refine wq_inl (y2 := 282) (as := [.int (-30), .int 2]) rfl rfl rfl ?_
          show wq 282 0 [(0, .int (-30)), (1, .int 2)] [] h 0 0 _
          refine wq_gos (f := 1) (pc2 := 22) (ls2 := [(2, .int (-15)), (0, .int (-30)), (1, .int 2)]) (st2 := [.int (-15)]) (h2 := h) (dc2 := 0) (ds2 := 0) 14 rfl ?_
          refine wq_ret rfl rfl ?_
          show wq 88 26 [(3, .int 4), (2, .int (-14)), (4, .int (-14)), (1, .int (-16)), (0, .int s)] [.int (-15)] h 0 0 _
          refine wq_gos (f := 1) (pc2 := 30) (ls2 := [(4, .int (-15)), (3, .int 4), (2, .int (-14)), (1, .int (-16)), (0, .int s)]) (st2 := [.int (-15)]) (h2 := h) (dc2 := 0) (ds2 := 0) 2 rfl ?_
          refine wq_inl (y2 := 150) (as := [.int (-15)]) rfl rfl rfl (wq_T (show zT zg0 zF zP 150 0 [(0, .int (-15))] [] h 0 0 (some (.int (-995)), h, 0, 0) from c_sin (-15 : Int32) h) ?_)
          show wq 88 33 [(4, .int (-15)), (3, .int 4), (2, .int (-14)), (1, .int (-16)), (0, .int s)] [.int (-995)] h 0 0 _
          refine wq_gos (f := 1) (pc2 := 34) (ls2 := [(4, .int (-15)), (3, .int 4), (2, .int (-14)), (1, .int (-16)), (0, .int s)]) (st2 := [.int s, .int (-995)]) (h2 := h) (dc2 := 0) (ds2 := 0) 1 rfl ?_
          refine wq_ge2 rfl rfl (fun b5x => ?_) (fun b5x => ?_)
          · refine wq_gos (f := 1) (pc2 := 23) (ls2 := [(3, .int 5), (2, .int (-15)), (4, .int (-15)), (1, .int (-16)), (0, .int s)]) (st2 := [.int 2, .int (-31)]) (h2 := h) (dc2 := 0) (ds2 := 0) 14 rfl ?_
            refine wq_inl (y2 := 282) (as := [.int (-31), .int 2]) rfl rfl rfl ?_
            show wq 282 0 [(0, .int (-31)), (1, .int 2)] [] h 0 0 _
            refine wq_gos (f := 1) (pc2 := 20) (ls2 := [(2, .int (-15)), (0, .int (-31)), (1, .int 2)]) (st2 := [.int (-16)]) (h2 := h) (dc2 := 0) (ds2 := 0) 16 rfl ?_
            refine wq_ret rfl rfl ?_
            show wq 88 26 [(3, .int 5), (2, .int (-15)), (4, .int (-15)), (1, .int (-16)), (0, .int s)] [.int (-16)] h 0 0 _
            refine wq_gos (f := 1) (pc2 := 30) (ls2 := [(4, .int (-16)), (3, .int 5), (2, .int (-15)), (1, .int (-16)), (0, .int s)]) (st2 := [.int (-16)]) (h2 := h) (dc2 := 0) (ds2 := 0) 2 rfl ?_
            refine wq_inl (y2 := 150) (as := [.int (-16)]) rfl rfl rfl (wq_T (show zT zg0 zF zP 150 0 [(0, .int (-16))] [] h 0 0 (some (.int (-1000)), h, 0, 0) from c_sin (-16 : Int32) h) ?_)
            show wq 88 33 [(4, .int (-16)), (3, .int 5), (2, .int (-15)), (1, .int (-16)), (0, .int s)] [.int (-1000)] h 0 0 _
            refine wq_gos (f := 1) (pc2 := 34) (ls2 := [(4, .int (-16)), (3, .int 5), (2, .int (-15)), (1, .int (-16)), (0, .int s)]) (st2 := [.int s, .int (-1000)]) (h2 := h) (dc2 := 0) (ds2 := 0) 1 rfl ?_
            refine wq_ge2 rfl rfl (fun b6x => ?_) (fun b6x => ?_)
            · refine wq_gos (f := 1) (pc2 := 55) (ls2 := [(3, .int 6), (2, .int (-16)), (4, .int (-16)), (1, .int (-16)), (0, .int s)]) (st2 := [.int (-16)]) (h2 := h) (dc2 := 0) (ds2 := 0) 11 rfl ?_
              refine wq_inl (y2 := 150) (as := [.int (-16)]) rfl rfl rfl (wq_T (show zT zg0 zF zP 150 0 [(0, .int (-16))] [] h 0 0 (some (.int (-1000)), h, 0, 0) from c_sin (-16 : Int32) h) ?_)
              show wq 88 58 [(3, .int 6), (2, .int (-16)), (4, .int (-16)), (1, .int (-16)), (0, .int s)] [.int (-1000)] h 0 0 _
              refine wq_gos (f := 1) (pc2 := 59) (ls2 := [(3, .int 6), (2, .int (-16)), (4, .int (-16)), (1, .int (-16)), (0, .int s)]) (st2 := [.int s, .int (-1000)]) (h2 := h) (dc2 := 0) (ds2 := 0) 1 rfl ?_
              refine wq_ne2 rfl rfl (fun b7x => ?_) (fun b7x => ?_)
              · refine wq_gos (f := 1) (pc2 := 68) (ls2 := [(3, .int 6), (2, .int (-16)), (4, .int (-16)), (1, .int (-16)), (0, .int s)]) (st2 := [.int 99]) (h2 := h) (dc2 := 0) (ds2 := 0) 1 rfl ?_
                refine wq_ret rfl rfl ?_
                show (some (Value.int (99 : Int32)), h, 0, 0) = (some (Value.int (jang s)), h, 0, 0)
                rw [show jang s = (99 : Int32) by unfold jang; rw [if_pos b1x, if_pos b2x, if_pos b3x, if_pos b4x, if_pos b5x, if_pos b6x, if_pos b7x]]
              · refine wq_gos (f := 1) (pc2 := 68) (ls2 := [(3, .int 6), (2, .int (-16)), (4, .int (-16)), (1, .int (-16)), (0, .int s)]) (st2 := [.int (-16)]) (h2 := h) (dc2 := 0) (ds2 := 0) 2 rfl ?_
                refine wq_ret rfl rfl ?_
                show (some (Value.int (-16 : Int32)), h, 0, 0) = (some (Value.int (jang s)), h, 0, 0)
                rw [show jang s = (-16 : Int32) by unfold jang; rw [if_pos b1x, if_pos b2x, if_pos b3x, if_pos b4x, if_pos b5x, if_pos b6x, if_neg (fun q => q b7x)]]
            · refine wq_gos (f := 1) (pc2 := 55) (ls2 := [(3, .int 6), (1, .int (-15)), (4, .int (-16)), (2, .int (-15)), (0, .int s)]) (st2 := [.int (-15)]) (h2 := h) (dc2 := 0) (ds2 := 0) 14 rfl ?_
              refine wq_inl (y2 := 150) (as := [.int (-15)]) rfl rfl rfl (wq_T (show zT zg0 zF zP 150 0 [(0, .int (-15))] [] h 0 0 (some (.int (-995)), h, 0, 0) from c_sin (-15 : Int32) h) ?_)
              show wq 88 58 [(3, .int 6), (1, .int (-15)), (4, .int (-16)), (2, .int (-15)), (0, .int s)] [.int (-995)] h 0 0 _
              refine wq_gos (f := 1) (pc2 := 59) (ls2 := [(3, .int 6), (1, .int (-15)), (4, .int (-16)), (2, .int (-15)), (0, .int s)]) (st2 := [.int s, .int (-995)]) (h2 := h) (dc2 := 0) (ds2 := 0) 1 rfl ?_
              refine wq_ne2 rfl rfl (fun b8x => ?_) (fun b8x => ?_)
              · refine wq_gos (f := 1) (pc2 := 68) (ls2 := [(3, .int 6), (1, .int (-15)), (4, .int (-16)), (2, .int (-15)), (0, .int s)]) (st2 := [.int 99]) (h2 := h) (dc2 := 0) (ds2 := 0) 1 rfl ?_
                refine wq_ret rfl rfl ?_
                show (some (Value.int (99 : Int32)), h, 0, 0) = (some (Value.int (jang s)), h, 0, 0)
                rw [show jang s = (99 : Int32) by unfold jang; rw [if_pos b1x, if_pos b2x, if_pos b3x, if_pos b4x, if_pos b5x, if_neg (Int.not_le.mpr b6x), if_pos b8x]]
              · refine wq_gos (f := 1) (pc2 := 68) (ls2 := [(3, .int 6), (1, .int (-15)), (4, .int (-16)), (2, .int (-15)), (0, .int s)]) (st2 := [.int (-15)]) (h2 := h) (dc2 := 0) (ds2 := 0) 2 rfl ?_
                refine wq_ret rfl rfl ?_
                show (some (Value.int (-15 : Int32)), h, 0, 0) = (some (Value.int (jang s)), h, 0, 0)
                rw [show jang s = (-15 : Int32) by unfold jang; rw [if_pos b1x, if_pos b2x, if_pos b3x, if_pos b4x, if_pos b5x, if_neg (Int.not_le.mpr b6x), if_neg (fun q => q b8x)]]
          · refine wq_gos (f := 1) (pc2 := 55) (ls2 := [(3, .int 5), (1, .int (-14)), (4, .int (-15)), (2, .int (-14)), (0, .int s)]) (st2 := [.int (-14)]) (h2 := h) (dc2 := 0) (ds2 := 0) 14 rfl ?_
            refine wq_inl (y2 := 150) (as := [.int (-14)]) rfl rfl rfl (wq_T (show zT zg0 zF zP 150 0 [(0, .int (-14))] [] h 0 0 (some (.int (-981)), h, 0, 0) from c_sin (-14 : Int32) h) ?_)
            show wq 88 58 [(3, .int 5), (1, .int (-14)), (4, .int (-15)), (2, .int (-14)), (0, .int s)] [.int (-981)] h 0 0 _
            refine wq_gos (f := 1) (pc2 := 59) (ls2 := [(3, .int 5), (1, .int (-14)), (4, .int (-15)), (2, .int (-14)), (0, .int s)]) (st2 := [.int s, .int (-981)]) (h2 := h) (dc2 := 0) (ds2 := 0) 1 rfl ?_
            refine wq_ne2 rfl rfl (fun b9x => ?_) (fun b9x => ?_)
            · refine wq_gos (f := 1) (pc2 := 68) (ls2 := [(3, .int 5), (1, .int (-14)), (4, .int (-15)), (2, .int (-14)), (0, .int s)]) (st2 := [.int 99]) (h2 := h) (dc2 := 0) (ds2 := 0) 1 rfl ?_
              refine wq_ret rfl rfl ?_
              show (some (Value.int (99 : Int32)), h, 0, 0) = (some (Value.int (jang s)), h, 0, 0)
              rw [show jang s = (99 : Int32) by unfold jang; rw [if_pos b1x, if_pos b2x, if_pos b3x, if_pos b4x, if_neg (Int.not_le.mpr b5x), if_pos b9x]]
            · refine wq_gos (f := 1) (pc2 := 68) (ls2 := [(3, .int 5), (1, .int (-14)), (4, .int (-15)), (2, .int (-14)), (0, .int s)]) (st2 := [.int (-14)]) (h2 := h) (dc2 := 0) (ds2 := 0) 2 rfl ?_
              refine wq_ret rfl rfl ?_
              show (some (Value.int (-14 : Int32)), h, 0, 0) = (some (Value.int (jang s)), h, 0, 0)
              rw [show jang s = (-14 : Int32) by unfold jang; rw [if_pos b1x, if_pos b2x, if_pos b3x, if_pos b4x, if_neg (Int.not_le.mpr b5x), if_neg (fun q => q b9x)]]
        · refine wq_gos (f := 1) (pc2 := 23) (ls2 := [(3, .int 4), (1, .int (-13)), (4, .int (-14)), (2, .int (-12)), (0, .int s)]) (st2 := [.int 2, .int (-25)]) (h2 := h) (dc2 := 0) (ds2 := 0) 17 rfl ?_
          refine wq_inl (y2 := 282) (as := [.int (-25), .int 2]) rfl rfl rfl ?_
          show wq 282 0 [(0, .int (-25)), (1, .int 2)] [] h 0 0 _
          refine wq_gos (f := 1) (pc2 := 20) (ls2 := [(2, .int (-12)), (0, .int (-25)), (1, .int 2)]) (st2 := [.int (-13)]) (h2 := h) (dc2 := 0) (ds2 := 0) 16 rfl ?_
          refine wq_ret rfl rfl ?_
          show wq 88 26 [(3, .int 4), (1, .int (-13)), (4, .int (-14)), (2, .int (-12)), (0, .int s)] [.int (-13)] h 0 0 _
          refine wq_gos (f := 1) (pc2 := 30) (ls2 := [(4, .int (-13)), (3, .int 4), (1, .int (-13)), (2, .int (-12)), (0, .int s)]) (st2 := [.int (-13)]) (h2 := h) (dc2 := 0) (ds2 := 0) 2 rfl ?_
          refine wq_inl (y2 := 150) (as := [.int (-13)]) rfl rfl rfl (wq_T (show zT zg0 zF zP 150 0 [(0, .int (-13))] [] h 0 0 (some (.int (-957)), h, 0, 0) from c_sin (-13 : Int32) h) ?_)
          show wq 88 33 [(4, .int (-13)), (3, .int 4), (1, .int (-13)), (2, .int (-12)), (0, .int s)] [.int (-957)] h 0 0 _
          refine wq_gos (f := 1) (pc2 := 34) (ls2 := [(4, .int (-13)), (3, .int 4), (1, .int (-13)), (2, .int (-12)), (0, .int s)]) (st2 := [.int s, .int (-957)]) (h2 := h) (dc2 := 0) (ds2 := 0) 1 rfl ?_
          refine wq_ge2 rfl rfl (fun b10x => ?_) (fun b10x => ?_)
          · refine wq_gos (f := 1) (pc2 := 55) (ls2 := [(3, .int 5), (2, .int (-13)), (4, .int (-13)), (1, .int (-13)), (0, .int s)]) (st2 := [.int (-13)]) (h2 := h) (dc2 := 0) (ds2 := 0) 11 rfl ?_
            refine wq_inl (y2 := 150) (as := [.int (-13)]) rfl rfl rfl (wq_T (show zT zg0 zF zP 150 0 [(0, .int (-13))] [] h 0 0 (some (.int (-957)), h, 0, 0) from c_sin (-13 : Int32) h) ?_)
            show wq 88 58 [(3, .int 5), (2, .int (-13)), (4, .int (-13)), (1, .int (-13)), (0, .int s)] [.int (-957)] h 0 0 _
            refine wq_gos (f := 1) (pc2 := 59) (ls2 := [(3, .int 5), (2, .int (-13)), (4, .int (-13)), (1, .int (-13)), (0, .int s)]) (st2 := [.int s, .int (-957)]) (h2 := h) (dc2 := 0) (ds2 := 0) 1 rfl ?_
            refine wq_ne2 rfl rfl (fun b11x => ?_) (fun b11x => ?_)
            · refine wq_gos (f := 1) (pc2 := 68) (ls2 := [(3, .int 5), (2, .int (-13)), (4, .int (-13)), (1, .int (-13)), (0, .int s)]) (st2 := [.int 99]) (h2 := h) (dc2 := 0) (ds2 := 0) 1 rfl ?_
              refine wq_ret rfl rfl ?_
              show (some (Value.int (99 : Int32)), h, 0, 0) = (some (Value.int (jang s)), h, 0, 0)
              rw [show jang s = (99 : Int32) by unfold jang; rw [if_pos b1x, if_pos b2x, if_pos b3x, if_neg (Int.not_le.mpr b4x), if_pos b10x, if_pos b11x]]
            · refine wq_gos (f := 1) (pc2 := 68) (ls2 := [(3, .int 5), (2, .int (-13)), (4, .int (-13)), (1, .int (-13)), (0, .int s)]) (st2 := [.int (-13)]) (h2 := h) (dc2 := 0) (ds2 := 0) 2 rfl ?_
              refine wq_ret rfl rfl ?_
              show (some (Value.int (-13 : Int32)), h, 0, 0) = (some (Value.int (jang s)), h, 0, 0)
              rw [show jang s = (-13 : Int32) by unfold jang; rw [if_pos b1x, if_pos b2x, if_pos b3x, if_neg (Int.not_le.mpr b4x), if_pos b10x, if_neg (fun q => q b11x)]]
          · refine wq_gos (f := 1) (pc2 := 55) (ls2 := [(3, .int 5), (1, .int (-12)), (4, .int (-13)), (2, .int (-12)), (0, .int s)]) (st2 := [.int (-12)]) (h2 := h) (dc2 := 0) (ds2 := 0) 14 rfl ?_
            refine wq_inl (y2 := 150) (as := [.int (-12)]) rfl rfl rfl (wq_T (show zT zg0 zF zP 150 0 [(0, .int (-12))] [] h 0 0 (some (.int (-924)), h, 0, 0) from c_sin (-12 : Int32) h) ?_)
            show wq 88 58 [(3, .int 5), (1, .int (-12)), (4, .int (-13)), (2, .int (-12)), (0, .int s)] [.int (-924)] h 0 0 _
            refine wq_gos (f := 1) (pc2 := 59) (ls2 := [(3, .int 5), (1, .int (-12)), (4, .int (-13)), (2, .int (-12)), (0, .int s)]) (st2 := [.int s, .int (-924)]) (h2 := h) (dc2 := 0) (ds2 := 0) 1 rfl ?_
            refine wq_ne2 rfl rfl (fun b12x => ?_) (fun b12x => ?_)
            · refine wq_gos (f := 1) (pc2 := 68) (ls2 := [(3, .int 5), (1, .int (-12)), (4, .int (-13)), (2, .int (-12)), (0, .int s)]) (st2 := [.int 99]) (h2 := h) (dc2 := 0) (ds2 := 0) 1 rfl ?_
              refine wq_ret rfl rfl ?_
              show (some (Value.int (99 : Int32)), h, 0, 0) = (some (Value.int (jang s)), h, 0, 0)
              rw [show jang s = (99 : Int32) by unfold jang; rw [if_pos b1x, if_pos b2x, if_pos b3x, if_neg (Int.not_le.mpr b4x), if_neg (Int.not_le.mpr b10x), if_pos b12x]]
            · refine wq_gos (f := 1) (pc2 := 68) (ls2 := [(3, .int 5), (1, .int (-12)), (4, .int (-13)), (2, .int (-12)), (0, .int s)]) (st2 := [.int (-12)]) (h2 := h) (dc2 := 0) (ds2 := 0) 2 rfl ?_
              refine wq_ret rfl rfl ?_
              show (some (Value.int (-12 : Int32)), h, 0, 0) = (some (Value.int (jang s)), h, 0, 0)
              rw [show jang s = (-12 : Int32) by unfold jang; rw [if_pos b1x, if_pos b2x, if_pos b3x, if_neg (Int.not_le.mpr b4x), if_neg (Int.not_le.mpr b10x), if_neg (fun q => q b12x)]]
      · refine wq_gos (f := 1) (pc2 := 23) (ls2 := [(3, .int 3), (1, .int (-11)), (4, .int (-12)), (2, .int (-8)), (0, .int s)]) (st2 := [.int 2, .int (-19)]) (h2 := h) (dc2 := 0) (ds2 := 0) 17 rfl ?_
        refine wq_inl (y2 := 282) (as := [.int (-19), .int 2]) rfl rfl rfl ?_
        show wq 282 0 [(0, .int (-19)), (1, .int 2)] [] h 0 0 _
        refine wq_gos (f := 1) (pc2 := 20) (ls2 := [(2, .int (-9)), (0, .int (-19)), (1, .int 2)]) (st2 := [.int (-10)]) (h2 := h) (dc2 := 0) (ds2 := 0) 16 rfl ?_
        refine wq_ret rfl rfl ?_
        show wq 88 26 [(3, .int 3), (1, .int (-11)), (4, .int (-12)), (2, .int (-8)), (0, .int s)] [.int (-10)] h 0 0 _
        refine wq_gos (f := 1) (pc2 := 30) (ls2 := [(4, .int (-10)), (3, .int 3), (1, .int (-11)), (2, .int (-8)), (0, .int s)]) (st2 := [.int (-10)]) (h2 := h) (dc2 := 0) (ds2 := 0) 2 rfl ?_
        refine wq_inl (y2 := 150) (as := [.int (-10)]) rfl rfl rfl (wq_T (show zT zg0 zF zP 150 0 [(0, .int (-10))] [] h 0 0 (some (.int (-831)), h, 0, 0) from c_sin (-10 : Int32) h) ?_)
        show wq 88 33 [(4, .int (-10)), (3, .int 3), (1, .int (-11)), (2, .int (-8)), (0, .int s)] [.int (-831)] h 0 0 _
        refine wq_gos (f := 1) (pc2 := 34) (ls2 := [(4, .int (-10)), (3, .int 3), (1, .int (-11)), (2, .int (-8)), (0, .int s)]) (st2 := [.int s, .int (-831)]) (h2 := h) (dc2 := 0) (ds2 := 0) 1 rfl ?_
        refine wq_ge2 rfl rfl (fun b13x => ?_) (fun b13x => ?_)
        · refine wq_gos (f := 1) (pc2 := 23) (ls2 := [(3, .int 4), (2, .int (-10)), (4, .int (-10)), (1, .int (-11)), (0, .int s)]) (st2 := [.int 2, .int (-21)]) (h2 := h) (dc2 := 0) (ds2 := 0) 14 rfl ?_
          refine wq_inl (y2 := 282) (as := [.int (-21), .int 2]) rfl rfl rfl ?_
          show wq 282 0 [(0, .int (-21)), (1, .int 2)] [] h 0 0 _
          refine wq_gos (f := 1) (pc2 := 20) (ls2 := [(2, .int (-10)), (0, .int (-21)), (1, .int 2)]) (st2 := [.int (-11)]) (h2 := h) (dc2 := 0) (ds2 := 0) 16 rfl ?_
          refine wq_ret rfl rfl ?_
          show wq 88 26 [(3, .int 4), (2, .int (-10)), (4, .int (-10)), (1, .int (-11)), (0, .int s)] [.int (-11)] h 0 0 _
          refine wq_gos (f := 1) (pc2 := 30) (ls2 := [(4, .int (-11)), (3, .int 4), (2, .int (-10)), (1, .int (-11)), (0, .int s)]) (st2 := [.int (-11)]) (h2 := h) (dc2 := 0) (ds2 := 0) 2 rfl ?_
          refine wq_inl (y2 := 150) (as := [.int (-11)]) rfl rfl rfl (wq_T (show zT zg0 zF zP 150 0 [(0, .int (-11))] [] h 0 0 (some (.int (-882)), h, 0, 0) from c_sin (-11 : Int32) h) ?_)
          show wq 88 33 [(4, .int (-11)), (3, .int 4), (2, .int (-10)), (1, .int (-11)), (0, .int s)] [.int (-882)] h 0 0 _
          refine wq_gos (f := 1) (pc2 := 34) (ls2 := [(4, .int (-11)), (3, .int 4), (2, .int (-10)), (1, .int (-11)), (0, .int s)]) (st2 := [.int s, .int (-882)]) (h2 := h) (dc2 := 0) (ds2 := 0) 1 rfl ?_
          refine wq_ge2 rfl rfl (fun b14x => ?_) (fun b14x => ?_)
          · refine wq_gos (f := 1) (pc2 := 55) (ls2 := [(3, .int 5), (2, .int (-11)), (4, .int (-11)), (1, .int (-11)), (0, .int s)]) (st2 := [.int (-11)]) (h2 := h) (dc2 := 0) (ds2 := 0) 11 rfl ?_
            refine wq_inl (y2 := 150) (as := [.int (-11)]) rfl rfl rfl (wq_T (show zT zg0 zF zP 150 0 [(0, .int (-11))] [] h 0 0 (some (.int (-882)), h, 0, 0) from c_sin (-11 : Int32) h) ?_)
            show wq 88 58 [(3, .int 5), (2, .int (-11)), (4, .int (-11)), (1, .int (-11)), (0, .int s)] [.int (-882)] h 0 0 _
            refine wq_gos (f := 1) (pc2 := 59) (ls2 := [(3, .int 5), (2, .int (-11)), (4, .int (-11)), (1, .int (-11)), (0, .int s)]) (st2 := [.int s, .int (-882)]) (h2 := h) (dc2 := 0) (ds2 := 0) 1 rfl ?_
            refine wq_ne2 rfl rfl (fun b15x => ?_) (fun b15x => ?_)
            · refine wq_gos (f := 1) (pc2 := 68) (ls2 := [(3, .int 5), (2, .int (-11)), (4, .int (-11)), (1, .int (-11)), (0, .int s)]) (st2 := [.int 99]) (h2 := h) (dc2 := 0) (ds2 := 0) 1 rfl ?_
              refine wq_ret rfl rfl ?_
              show (some (Value.int (99 : Int32)), h, 0, 0) = (some (Value.int (jang s)), h, 0, 0)
              rw [show jang s = (99 : Int32) by unfold jang; rw [if_pos b1x, if_pos b2x, if_neg (Int.not_le.mpr b3x), if_pos b13x, if_pos b14x, if_pos b15x]]
            · refine wq_gos (f := 1) (pc2 := 68) (ls2 := [(3, .int 5), (2, .int (-11)), (4, .int (-11)), (1, .int (-11)), (0, .int s)]) (st2 := [.int (-11)]) (h2 := h) (dc2 := 0) (ds2 := 0) 2 rfl ?_
              refine wq_ret rfl rfl ?_
              show (some (Value.int (-11 : Int32)), h, 0, 0) = (some (Value.int (jang s)), h, 0, 0)
              rw [show jang s = (-11 : Int32) by unfold jang; rw [if_pos b1x, if_pos b2x, if_neg (Int.not_le.mpr b3x), if_pos b13x, if_pos b14x, if_neg (fun q => q b15x)]]
          · refine wq_gos (f := 1) (pc2 := 55) (ls2 := [(3, .int 5), (1, .int (-10)), (4, .int (-11)), (2, .int (-10)), (0, .int s)]) (st2 := [.int (-10)]) (h2 := h) (dc2 := 0) (ds2 := 0) 14 rfl ?_
            refine wq_inl (y2 := 150) (as := [.int (-10)]) rfl rfl rfl (wq_T (show zT zg0 zF zP 150 0 [(0, .int (-10))] [] h 0 0 (some (.int (-831)), h, 0, 0) from c_sin (-10 : Int32) h) ?_)
            show wq 88 58 [(3, .int 5), (1, .int (-10)), (4, .int (-11)), (2, .int (-10)), (0, .int s)] [.int (-831)] h 0 0 _
            refine wq_gos (f := 1) (pc2 := 59) (ls2 := [(3, .int 5), (1, .int (-10)), (4, .int (-11)), (2, .int (-10)), (0, .int s)]) (st2 := [.int s, .int (-831)]) (h2 := h) (dc2 := 0) (ds2 := 0) 1 rfl ?_
            refine wq_ne2 rfl rfl (fun b16x => ?_) (fun b16x => ?_)
            · refine wq_gos (f := 1) (pc2 := 68) (ls2 := [(3, .int 5), (1, .int (-10)), (4, .int (-11)), (2, .int (-10)), (0, .int s)]) (st2 := [.int 99]) (h2 := h) (dc2 := 0) (ds2 := 0) 1 rfl ?_
              refine wq_ret rfl rfl ?_
              show (some (Value.int (99 : Int32)), h, 0, 0) = (some (Value.int (jang s)), h, 0, 0)
              rw [show jang s = (99 : Int32) by unfold jang; rw [if_pos b1x, if_pos b2x, if_neg (Int.not_le.mpr b3x), if_pos b13x, if_neg (Int.not_le.mpr b14x), if_pos b16x]]
            · refine wq_gos (f := 1) (pc2 := 68) (ls2 := [(3, .int 5), (1, .int (-10)), (4, .int (-11)), (2, .int (-10)), (0, .int s)]) (st2 := [.int (-10)]) (h2 := h) (dc2 := 0) (ds2 := 0) 2 rfl ?_
              refine wq_ret rfl rfl ?_
              show (some (Value.int (-10 : Int32)), h, 0, 0) = (some (Value.int (jang s)), h, 0, 0)
              rw [show jang s = (-10 : Int32) by unfold jang; rw [if_pos b1x, if_pos b2x, if_neg (Int.not_le.mpr b3x), if_pos b13x, if_neg (Int.not_le.mpr b14x), if_neg (fun q => q b16x)]]
        · refine wq_gos (f := 1) (pc2 := 23) (ls2 := [(3, .int 4), (1, .int (-9)), (4, .int (-10)), (2, .int (-8)), (0, .int s)]) (st2 := [.int 2, .int (-17)]) (h2 := h) (dc2 := 0) (ds2 := 0) 17 rfl ?_
          refine wq_inl (y2 := 282) (as := [.int (-17), .int 2]) rfl rfl rfl ?_
          show wq 282 0 [(0, .int (-17)), (1, .int 2)] [] h 0 0 _
          refine wq_gos (f := 1) (pc2 := 20) (ls2 := [(2, .int (-8)), (0, .int (-17)), (1, .int 2)]) (st2 := [.int (-9)]) (h2 := h) (dc2 := 0) (ds2 := 0) 16 rfl ?_
          refine wq_ret rfl rfl ?_
          show wq 88 26 [(3, .int 4), (1, .int (-9)), (4, .int (-10)), (2, .int (-8)), (0, .int s)] [.int (-9)] h 0 0 _
          refine wq_gos (f := 1) (pc2 := 30) (ls2 := [(4, .int (-9)), (3, .int 4), (1, .int (-9)), (2, .int (-8)), (0, .int s)]) (st2 := [.int (-9)]) (h2 := h) (dc2 := 0) (ds2 := 0) 2 rfl ?_
          refine wq_inl (y2 := 150) (as := [.int (-9)]) rfl rfl rfl (wq_T (show zT zg0 zF zP 150 0 [(0, .int (-9))] [] h 0 0 (some (.int (-773)), h, 0, 0) from c_sin (-9 : Int32) h) ?_)
          show wq 88 33 [(4, .int (-9)), (3, .int 4), (1, .int (-9)), (2, .int (-8)), (0, .int s)] [.int (-773)] h 0 0 _
          refine wq_gos (f := 1) (pc2 := 34) (ls2 := [(4, .int (-9)), (3, .int 4), (1, .int (-9)), (2, .int (-8)), (0, .int s)]) (st2 := [.int s, .int (-773)]) (h2 := h) (dc2 := 0) (ds2 := 0) 1 rfl ?_
          refine wq_ge2 rfl rfl (fun b17x => ?_) (fun b17x => ?_)
          · refine wq_gos (f := 1) (pc2 := 55) (ls2 := [(3, .int 5), (2, .int (-9)), (4, .int (-9)), (1, .int (-9)), (0, .int s)]) (st2 := [.int (-9)]) (h2 := h) (dc2 := 0) (ds2 := 0) 11 rfl ?_
            refine wq_inl (y2 := 150) (as := [.int (-9)]) rfl rfl rfl (wq_T (show zT zg0 zF zP 150 0 [(0, .int (-9))] [] h 0 0 (some (.int (-773)), h, 0, 0) from c_sin (-9 : Int32) h) ?_)
            show wq 88 58 [(3, .int 5), (2, .int (-9)), (4, .int (-9)), (1, .int (-9)), (0, .int s)] [.int (-773)] h 0 0 _
            refine wq_gos (f := 1) (pc2 := 59) (ls2 := [(3, .int 5), (2, .int (-9)), (4, .int (-9)), (1, .int (-9)), (0, .int s)]) (st2 := [.int s, .int (-773)]) (h2 := h) (dc2 := 0) (ds2 := 0) 1 rfl ?_
            refine wq_ne2 rfl rfl (fun b18x => ?_) (fun b18x => ?_)
            · refine wq_gos (f := 1) (pc2 := 68) (ls2 := [(3, .int 5), (2, .int (-9)), (4, .int (-9)), (1, .int (-9)), (0, .int s)]) (st2 := [.int 99]) (h2 := h) (dc2 := 0) (ds2 := 0) 1 rfl ?_
              refine wq_ret rfl rfl ?_
              show (some (Value.int (99 : Int32)), h, 0, 0) = (some (Value.int (jang s)), h, 0, 0)
              rw [show jang s = (99 : Int32) by unfold jang; rw [if_pos b1x, if_pos b2x, if_neg (Int.not_le.mpr b3x), if_neg (Int.not_le.mpr b13x), if_pos b17x, if_pos b18x]]
            · refine wq_gos (f := 1) (pc2 := 68) (ls2 := [(3, .int 5), (2, .int (-9)), (4, .int (-9)), (1, .int (-9)), (0, .int s)]) (st2 := [.int (-9)]) (h2 := h) (dc2 := 0) (ds2 := 0) 2 rfl ?_
              refine wq_ret rfl rfl ?_
              show (some (Value.int (-9 : Int32)), h, 0, 0) = (some (Value.int (jang s)), h, 0, 0)
              rw [show jang s = (-9 : Int32) by unfold jang; rw [if_pos b1x, if_pos b2x, if_neg (Int.not_le.mpr b3x), if_neg (Int.not_le.mpr b13x), if_pos b17x, if_neg (fun q => q b18x)]]
          · refine wq_gos (f := 1) (pc2 := 55) (ls2 := [(3, .int 5), (1, .int (-8)), (4, .int (-9)), (2, .int (-8)), (0, .int s)]) (st2 := [.int (-8)]) (h2 := h) (dc2 := 0) (ds2 := 0) 14 rfl ?_
            refine wq_inl (y2 := 150) (as := [.int (-8)]) rfl rfl rfl (wq_T (show zT zg0 zF zP 150 0 [(0, .int (-8))] [] h 0 0 (some (.int (-707)), h, 0, 0) from c_sin (-8 : Int32) h) ?_)
            show wq 88 58 [(3, .int 5), (1, .int (-8)), (4, .int (-9)), (2, .int (-8)), (0, .int s)] [.int (-707)] h 0 0 _
            refine wq_gos (f := 1) (pc2 := 59) (ls2 := [(3, .int 5), (1, .int (-8)), (4, .int (-9)), (2, .int (-8)), (0, .int s)]) (st2 := [.int s, .int (-707)]) (h2 := h) (dc2 := 0) (ds2 := 0) 1 rfl ?_
            refine wq_ne2 rfl rfl (fun b19x => ?_) (fun b19x => ?_)
            · refine wq_gos (f := 1) (pc2 := 68) (ls2 := [(3, .int 5), (1, .int (-8)), (4, .int (-9)), (2, .int (-8)), (0, .int s)]) (st2 := [.int 99]) (h2 := h) (dc2 := 0) (ds2 := 0) 1 rfl ?_
              refine wq_ret rfl rfl ?_
              show (some (Value.int (99 : Int32)), h, 0, 0) = (some (Value.int (jang s)), h, 0, 0)
              rw [show jang s = (99 : Int32) by unfold jang; rw [if_pos b1x, if_pos b2x, if_neg (Int.not_le.mpr b3x), if_neg (Int.not_le.mpr b13x), if_neg (Int.not_le.mpr b17x), if_pos b19x]]
            · refine wq_gos (f := 1) (pc2 := 68) (ls2 := [(3, .int 5), (1, .int (-8)), (4, .int (-9)), (2, .int (-8)), (0, .int s)]) (st2 := [.int (-8)]) (h2 := h) (dc2 := 0) (ds2 := 0) 2 rfl ?_
              refine wq_ret rfl rfl ?_
              show (some (Value.int (-8 : Int32)), h, 0, 0) = (some (Value.int (jang s)), h, 0, 0)
              rw [show jang s = (-8 : Int32) by unfold jang; rw [if_pos b1x, if_pos b2x, if_neg (Int.not_le.mpr b3x), if_neg (Int.not_le.mpr b13x), if_neg (Int.not_le.mpr b17x), if_neg (fun q => q b19x)]]
    · refine wq_gos (f := 1) (pc2 := 23) (ls2 := [(3, .int 2), (1, .int (-7)), (4, .int (-8)), (2, .int 0), (0, .int s)]) (st2 := [.int 2, .int (-7)]) (h2 := h) (dc2 := 0) (ds2 := 0) 17 rfl ?_
      refine wq_inl (y2 := 282) (as := [.int (-7), .int 2]) rfl rfl rfl ?_
      show wq 282 0 [(0, .int (-7)), (1, .int 2)] [] h 0 0 _
      refine wq_gos (f := 1) (pc2 := 20) (ls2 := [(2, .int (-3)), (0, .int (-7)), (1, .int 2)]) (st2 := [.int (-4)]) (h2 := h) (dc2 := 0) (ds2 := 0) 16 rfl ?_
      refine wq_ret rfl rfl ?_
      show wq 88 26 [(3, .int 2), (1, .int (-7)), (4, .int (-8)), (2, .int 0), (0, .int s)] [.int (-4)] h 0 0 _
      refine wq_gos (f := 1) (pc2 := 30) (ls2 := [(4, .int (-4)), (3, .int 2), (1, .int (-7)), (2, .int 0), (0, .int s)]) (st2 := [.int (-4)]) (h2 := h) (dc2 := 0) (ds2 := 0) 2 rfl ?_
      refine wq_inl (y2 := 150) (as := [.int (-4)]) rfl rfl rfl (wq_T (show zT zg0 zF zP 150 0 [(0, .int (-4))] [] h 0 0 (some (.int (-383)), h, 0, 0) from c_sin (-4 : Int32) h) ?_)
      show wq 88 33 [(4, .int (-4)), (3, .int 2), (1, .int (-7)), (2, .int 0), (0, .int s)] [.int (-383)] h 0 0 _
      refine wq_gos (f := 1) (pc2 := 34) (ls2 := [(4, .int (-4)), (3, .int 2), (1, .int (-7)), (2, .int 0), (0, .int s)]) (st2 := [.int s, .int (-383)]) (h2 := h) (dc2 := 0) (ds2 := 0) 1 rfl ?_
      refine wq_ge2 rfl rfl (fun b20x => ?_) (fun b20x => ?_)
      · refine wq_gos (f := 1) (pc2 := 23) (ls2 := [(3, .int 3), (2, .int (-4)), (4, .int (-4)), (1, .int (-7)), (0, .int s)]) (st2 := [.int 2, .int (-11)]) (h2 := h) (dc2 := 0) (ds2 := 0) 14 rfl ?_
        refine wq_inl (y2 := 282) (as := [.int (-11), .int 2]) rfl rfl rfl ?_
        show wq 282 0 [(0, .int (-11)), (1, .int 2)] [] h 0 0 _
        refine wq_gos (f := 1) (pc2 := 20) (ls2 := [(2, .int (-5)), (0, .int (-11)), (1, .int 2)]) (st2 := [.int (-6)]) (h2 := h) (dc2 := 0) (ds2 := 0) 16 rfl ?_
        refine wq_ret rfl rfl ?_
        show wq 88 26 [(3, .int 3), (2, .int (-4)), (4, .int (-4)), (1, .int (-7)), (0, .int s)] [.int (-6)] h 0 0 _
        refine wq_gos (f := 1) (pc2 := 30) (ls2 := [(4, .int (-6)), (3, .int 3), (2, .int (-4)), (1, .int (-7)), (0, .int s)]) (st2 := [.int (-6)]) (h2 := h) (dc2 := 0) (ds2 := 0) 2 rfl ?_
        refine wq_inl (y2 := 150) (as := [.int (-6)]) rfl rfl rfl (wq_T (show zT zg0 zF zP 150 0 [(0, .int (-6))] [] h 0 0 (some (.int (-556)), h, 0, 0) from c_sin (-6 : Int32) h) ?_)
        show wq 88 33 [(4, .int (-6)), (3, .int 3), (2, .int (-4)), (1, .int (-7)), (0, .int s)] [.int (-556)] h 0 0 _
        refine wq_gos (f := 1) (pc2 := 34) (ls2 := [(4, .int (-6)), (3, .int 3), (2, .int (-4)), (1, .int (-7)), (0, .int s)]) (st2 := [.int s, .int (-556)]) (h2 := h) (dc2 := 0) (ds2 := 0) 1 rfl ?_
        refine wq_ge2 rfl rfl (fun b21x => ?_) (fun b21x => ?_)
        · refine wq_gos (f := 1) (pc2 := 23) (ls2 := [(3, .int 4), (2, .int (-6)), (4, .int (-6)), (1, .int (-7)), (0, .int s)]) (st2 := [.int 2, .int (-13)]) (h2 := h) (dc2 := 0) (ds2 := 0) 14 rfl ?_
          refine wq_inl (y2 := 282) (as := [.int (-13), .int 2]) rfl rfl rfl ?_
          show wq 282 0 [(0, .int (-13)), (1, .int 2)] [] h 0 0 _
          refine wq_gos (f := 1) (pc2 := 20) (ls2 := [(2, .int (-6)), (0, .int (-13)), (1, .int 2)]) (st2 := [.int (-7)]) (h2 := h) (dc2 := 0) (ds2 := 0) 16 rfl ?_
          refine wq_ret rfl rfl ?_
          show wq 88 26 [(3, .int 4), (2, .int (-6)), (4, .int (-6)), (1, .int (-7)), (0, .int s)] [.int (-7)] h 0 0 _
          refine wq_gos (f := 1) (pc2 := 30) (ls2 := [(4, .int (-7)), (3, .int 4), (2, .int (-6)), (1, .int (-7)), (0, .int s)]) (st2 := [.int (-7)]) (h2 := h) (dc2 := 0) (ds2 := 0) 2 rfl ?_
          refine wq_inl (y2 := 150) (as := [.int (-7)]) rfl rfl rfl (wq_T (show zT zg0 zF zP 150 0 [(0, .int (-7))] [] h 0 0 (some (.int (-634)), h, 0, 0) from c_sin (-7 : Int32) h) ?_)
          show wq 88 33 [(4, .int (-7)), (3, .int 4), (2, .int (-6)), (1, .int (-7)), (0, .int s)] [.int (-634)] h 0 0 _
          refine wq_gos (f := 1) (pc2 := 34) (ls2 := [(4, .int (-7)), (3, .int 4), (2, .int (-6)), (1, .int (-7)), (0, .int s)]) (st2 := [.int s, .int (-634)]) (h2 := h) (dc2 := 0) (ds2 := 0) 1 rfl ?_
          refine wq_ge2 rfl rfl (fun b22x => ?_) (fun b22x => ?_)
          · refine wq_gos (f := 1) (pc2 := 55) (ls2 := [(3, .int 5), (2, .int (-7)), (4, .int (-7)), (1, .int (-7)), (0, .int s)]) (st2 := [.int (-7)]) (h2 := h) (dc2 := 0) (ds2 := 0) 11 rfl ?_
            refine wq_inl (y2 := 150) (as := [.int (-7)]) rfl rfl rfl (wq_T (show zT zg0 zF zP 150 0 [(0, .int (-7))] [] h 0 0 (some (.int (-634)), h, 0, 0) from c_sin (-7 : Int32) h) ?_)
            show wq 88 58 [(3, .int 5), (2, .int (-7)), (4, .int (-7)), (1, .int (-7)), (0, .int s)] [.int (-634)] h 0 0 _
            refine wq_gos (f := 1) (pc2 := 59) (ls2 := [(3, .int 5), (2, .int (-7)), (4, .int (-7)), (1, .int (-7)), (0, .int s)]) (st2 := [.int s, .int (-634)]) (h2 := h) (dc2 := 0) (ds2 := 0) 1 rfl ?_
            refine wq_ne2 rfl rfl (fun b23x => ?_) (fun b23x => ?_)
            · refine wq_gos (f := 1) (pc2 := 68) (ls2 := [(3, .int 5), (2, .int (-7)), (4, .int (-7)), (1, .int (-7)), (0, .int s)]) (st2 := [.int 99]) (h2 := h) (dc2 := 0) (ds2 := 0) 1 rfl ?_
              refine wq_ret rfl rfl ?_
              show (some (Value.int (99 : Int32)), h, 0, 0) = (some (Value.int (jang s)), h, 0, 0)
              rw [show jang s = (99 : Int32) by unfold jang; rw [if_pos b1x, if_neg (Int.not_le.mpr b2x), if_pos b20x, if_pos b21x, if_pos b22x, if_pos b23x]]
            · refine wq_gos (f := 1) (pc2 := 68) (ls2 := [(3, .int 5), (2, .int (-7)), (4, .int (-7)), (1, .int (-7)), (0, .int s)]) (st2 := [.int (-7)]) (h2 := h) (dc2 := 0) (ds2 := 0) 2 rfl ?_
              refine wq_ret rfl rfl ?_
              show (some (Value.int (-7 : Int32)), h, 0, 0) = (some (Value.int (jang s)), h, 0, 0)
              rw [show jang s = (-7 : Int32) by unfold jang; rw [if_pos b1x, if_neg (Int.not_le.mpr b2x), if_pos b20x, if_pos b21x, if_pos b22x, if_neg (fun q => q b23x)]]
          · refine wq_gos (f := 1) (pc2 := 55) (ls2 := [(3, .int 5), (1, .int (-6)), (4, .int (-7)), (2, .int (-6)), (0, .int s)]) (st2 := [.int (-6)]) (h2 := h) (dc2 := 0) (ds2 := 0) 14 rfl ?_
            refine wq_inl (y2 := 150) (as := [.int (-6)]) rfl rfl rfl (wq_T (show zT zg0 zF zP 150 0 [(0, .int (-6))] [] h 0 0 (some (.int (-556)), h, 0, 0) from c_sin (-6 : Int32) h) ?_)
            show wq 88 58 [(3, .int 5), (1, .int (-6)), (4, .int (-7)), (2, .int (-6)), (0, .int s)] [.int (-556)] h 0 0 _
            refine wq_gos (f := 1) (pc2 := 59) (ls2 := [(3, .int 5), (1, .int (-6)), (4, .int (-7)), (2, .int (-6)), (0, .int s)]) (st2 := [.int s, .int (-556)]) (h2 := h) (dc2 := 0) (ds2 := 0) 1 rfl ?_
            refine wq_ne2 rfl rfl (fun b24x => ?_) (fun b24x => ?_)
            · refine wq_gos (f := 1) (pc2 := 68) (ls2 := [(3, .int 5), (1, .int (-6)), (4, .int (-7)), (2, .int (-6)), (0, .int s)]) (st2 := [.int 99]) (h2 := h) (dc2 := 0) (ds2 := 0) 1 rfl ?_
              refine wq_ret rfl rfl ?_
              show (some (Value.int (99 : Int32)), h, 0, 0) = (some (Value.int (jang s)), h, 0, 0)
              rw [show jang s = (99 : Int32) by unfold jang; rw [if_pos b1x, if_neg (Int.not_le.mpr b2x), if_pos b20x, if_pos b21x, if_neg (Int.not_le.mpr b22x), if_pos b24x]]
            · refine wq_gos (f := 1) (pc2 := 68) (ls2 := [(3, .int 5), (1, .int (-6)), (4, .int (-7)), (2, .int (-6)), (0, .int s)]) (st2 := [.int (-6)]) (h2 := h) (dc2 := 0) (ds2 := 0) 2 rfl ?_
              refine wq_ret rfl rfl ?_
              show (some (Value.int (-6 : Int32)), h, 0, 0) = (some (Value.int (jang s)), h, 0, 0)
              rw [show jang s = (-6 : Int32) by unfold jang; rw [if_pos b1x, if_neg (Int.not_le.mpr b2x), if_pos b20x, if_pos b21x, if_neg (Int.not_le.mpr b22x), if_neg (fun q => q b24x)]]
        · refine wq_gos (f := 1) (pc2 := 23) (ls2 := [(3, .int 4), (1, .int (-5)), (4, .int (-6)), (2, .int (-4)), (0, .int s)]) (st2 := [.int 2, .int (-9)]) (h2 := h) (dc2 := 0) (ds2 := 0) 17 rfl ?_
          refine wq_inl (y2 := 282) (as := [.int (-9), .int 2]) rfl rfl rfl ?_
          show wq 282 0 [(0, .int (-9)), (1, .int 2)] [] h 0 0 _
          refine wq_gos (f := 1) (pc2 := 20) (ls2 := [(2, .int (-4)), (0, .int (-9)), (1, .int 2)]) (st2 := [.int (-5)]) (h2 := h) (dc2 := 0) (ds2 := 0) 16 rfl ?_
          refine wq_ret rfl rfl ?_
          show wq 88 26 [(3, .int 4), (1, .int (-5)), (4, .int (-6)), (2, .int (-4)), (0, .int s)] [.int (-5)] h 0 0 _
          refine wq_gos (f := 1) (pc2 := 30) (ls2 := [(4, .int (-5)), (3, .int 4), (1, .int (-5)), (2, .int (-4)), (0, .int s)]) (st2 := [.int (-5)]) (h2 := h) (dc2 := 0) (ds2 := 0) 2 rfl ?_
          refine wq_inl (y2 := 150) (as := [.int (-5)]) rfl rfl rfl (wq_T (show zT zg0 zF zP 150 0 [(0, .int (-5))] [] h 0 0 (some (.int (-471)), h, 0, 0) from c_sin (-5 : Int32) h) ?_)
          show wq 88 33 [(4, .int (-5)), (3, .int 4), (1, .int (-5)), (2, .int (-4)), (0, .int s)] [.int (-471)] h 0 0 _
          refine wq_gos (f := 1) (pc2 := 34) (ls2 := [(4, .int (-5)), (3, .int 4), (1, .int (-5)), (2, .int (-4)), (0, .int s)]) (st2 := [.int s, .int (-471)]) (h2 := h) (dc2 := 0) (ds2 := 0) 1 rfl ?_
          refine wq_ge2 rfl rfl (fun b25x => ?_) (fun b25x => ?_)
          · refine wq_gos (f := 1) (pc2 := 55) (ls2 := [(3, .int 5), (2, .int (-5)), (4, .int (-5)), (1, .int (-5)), (0, .int s)]) (st2 := [.int (-5)]) (h2 := h) (dc2 := 0) (ds2 := 0) 11 rfl ?_
            refine wq_inl (y2 := 150) (as := [.int (-5)]) rfl rfl rfl (wq_T (show zT zg0 zF zP 150 0 [(0, .int (-5))] [] h 0 0 (some (.int (-471)), h, 0, 0) from c_sin (-5 : Int32) h) ?_)
            show wq 88 58 [(3, .int 5), (2, .int (-5)), (4, .int (-5)), (1, .int (-5)), (0, .int s)] [.int (-471)] h 0 0 _
            refine wq_gos (f := 1) (pc2 := 59) (ls2 := [(3, .int 5), (2, .int (-5)), (4, .int (-5)), (1, .int (-5)), (0, .int s)]) (st2 := [.int s, .int (-471)]) (h2 := h) (dc2 := 0) (ds2 := 0) 1 rfl ?_
            refine wq_ne2 rfl rfl (fun b26x => ?_) (fun b26x => ?_)
            · refine wq_gos (f := 1) (pc2 := 68) (ls2 := [(3, .int 5), (2, .int (-5)), (4, .int (-5)), (1, .int (-5)), (0, .int s)]) (st2 := [.int 99]) (h2 := h) (dc2 := 0) (ds2 := 0) 1 rfl ?_
              refine wq_ret rfl rfl ?_
              show (some (Value.int (99 : Int32)), h, 0, 0) = (some (Value.int (jang s)), h, 0, 0)
              rw [show jang s = (99 : Int32) by unfold jang; rw [if_pos b1x, if_neg (Int.not_le.mpr b2x), if_pos b20x, if_neg (Int.not_le.mpr b21x), if_pos b25x, if_pos b26x]]
            · refine wq_gos (f := 1) (pc2 := 68) (ls2 := [(3, .int 5), (2, .int (-5)), (4, .int (-5)), (1, .int (-5)), (0, .int s)]) (st2 := [.int (-5)]) (h2 := h) (dc2 := 0) (ds2 := 0) 2 rfl ?_
              refine wq_ret rfl rfl ?_
              show (some (Value.int (-5 : Int32)), h, 0, 0) = (some (Value.int (jang s)), h, 0, 0)
              rw [show jang s = (-5 : Int32) by unfold jang; rw [if_pos b1x, if_neg (Int.not_le.mpr b2x), if_pos b20x, if_neg (Int.not_le.mpr b21x), if_pos b25x, if_neg (fun q => q b26x)]]
          · refine wq_gos (f := 1) (pc2 := 55) (ls2 := [(3, .int 5), (1, .int (-4)), (4, .int (-5)), (2, .int (-4)), (0, .int s)]) (st2 := [.int (-4)]) (h2 := h) (dc2 := 0) (ds2 := 0) 14 rfl ?_
            refine wq_inl (y2 := 150) (as := [.int (-4)]) rfl rfl rfl (wq_T (show zT zg0 zF zP 150 0 [(0, .int (-4))] [] h 0 0 (some (.int (-383)), h, 0, 0) from c_sin (-4 : Int32) h) ?_)
            show wq 88 58 [(3, .int 5), (1, .int (-4)), (4, .int (-5)), (2, .int (-4)), (0, .int s)] [.int (-383)] h 0 0 _
            refine wq_gos (f := 1) (pc2 := 59) (ls2 := [(3, .int 5), (1, .int (-4)), (4, .int (-5)), (2, .int (-4)), (0, .int s)]) (st2 := [.int s, .int (-383)]) (h2 := h) (dc2 := 0) (ds2 := 0) 1 rfl ?_
            refine wq_ne2 rfl rfl (fun b27x => ?_) (fun b27x => ?_)
            · refine wq_gos (f := 1) (pc2 := 68) (ls2 := [(3, .int 5), (1, .int (-4)), (4, .int (-5)), (2, .int (-4)), (0, .int s)]) (st2 := [.int 99]) (h2 := h) (dc2 := 0) (ds2 := 0) 1 rfl ?_
              refine wq_ret rfl rfl ?_
              show (some (Value.int (99 : Int32)), h, 0, 0) = (some (Value.int (jang s)), h, 0, 0)
              rw [show jang s = (99 : Int32) by unfold jang; rw [if_pos b1x, if_neg (Int.not_le.mpr b2x), if_pos b20x, if_neg (Int.not_le.mpr b21x), if_neg (Int.not_le.mpr b25x), if_pos b27x]]
            · refine wq_gos (f := 1) (pc2 := 68) (ls2 := [(3, .int 5), (1, .int (-4)), (4, .int (-5)), (2, .int (-4)), (0, .int s)]) (st2 := [.int (-4)]) (h2 := h) (dc2 := 0) (ds2 := 0) 2 rfl ?_
              refine wq_ret rfl rfl ?_
              show (some (Value.int (-4 : Int32)), h, 0, 0) = (some (Value.int (jang s)), h, 0, 0)
              rw [show jang s = (-4 : Int32) by unfold jang; rw [if_pos b1x, if_neg (Int.not_le.mpr b2x), if_pos b20x, if_neg (Int.not_le.mpr b21x), if_neg (Int.not_le.mpr b25x), if_neg (fun q => q b27x)]]
      · refine wq_gos (f := 1) (pc2 := 23) (ls2 := [(3, .int 3), (1, .int (-3)), (4, .int (-4)), (2, .int 0), (0, .int s)]) (st2 := [.int 2, .int (-3)]) (h2 := h) (dc2 := 0) (ds2 := 0) 17 rfl ?_
        refine wq_inl (y2 := 282) (as := [.int (-3), .int 2]) rfl rfl rfl ?_
        show wq 282 0 [(0, .int (-3)), (1, .int 2)] [] h 0 0 _
        refine wq_gos (f := 1) (pc2 := 20) (ls2 := [(2, .int (-1)), (0, .int (-3)), (1, .int 2)]) (st2 := [.int (-2)]) (h2 := h) (dc2 := 0) (ds2 := 0) 16 rfl ?_
        refine wq_ret rfl rfl ?_
        show wq 88 26 [(3, .int 3), (1, .int (-3)), (4, .int (-4)), (2, .int 0), (0, .int s)] [.int (-2)] h 0 0 _
        refine wq_gos (f := 1) (pc2 := 30) (ls2 := [(4, .int (-2)), (3, .int 3), (1, .int (-3)), (2, .int 0), (0, .int s)]) (st2 := [.int (-2)]) (h2 := h) (dc2 := 0) (ds2 := 0) 2 rfl ?_
        refine wq_inl (y2 := 150) (as := [.int (-2)]) rfl rfl rfl (wq_T (show zT zg0 zF zP 150 0 [(0, .int (-2))] [] h 0 0 (some (.int (-195)), h, 0, 0) from c_sin (-2 : Int32) h) ?_)
        show wq 88 33 [(4, .int (-2)), (3, .int 3), (1, .int (-3)), (2, .int 0), (0, .int s)] [.int (-195)] h 0 0 _
        refine wq_gos (f := 1) (pc2 := 34) (ls2 := [(4, .int (-2)), (3, .int 3), (1, .int (-3)), (2, .int 0), (0, .int s)]) (st2 := [.int s, .int (-195)]) (h2 := h) (dc2 := 0) (ds2 := 0) 1 rfl ?_
        refine wq_ge2 rfl rfl (fun b28x => ?_) (fun b28x => ?_)
        · refine wq_gos (f := 1) (pc2 := 23) (ls2 := [(3, .int 4), (2, .int (-2)), (4, .int (-2)), (1, .int (-3)), (0, .int s)]) (st2 := [.int 2, .int (-5)]) (h2 := h) (dc2 := 0) (ds2 := 0) 14 rfl ?_
          refine wq_inl (y2 := 282) (as := [.int (-5), .int 2]) rfl rfl rfl ?_
          show wq 282 0 [(0, .int (-5)), (1, .int 2)] [] h 0 0 _
          refine wq_gos (f := 1) (pc2 := 20) (ls2 := [(2, .int (-2)), (0, .int (-5)), (1, .int 2)]) (st2 := [.int (-3)]) (h2 := h) (dc2 := 0) (ds2 := 0) 16 rfl ?_
          refine wq_ret rfl rfl ?_
          show wq 88 26 [(3, .int 4), (2, .int (-2)), (4, .int (-2)), (1, .int (-3)), (0, .int s)] [.int (-3)] h 0 0 _
          refine wq_gos (f := 1) (pc2 := 30) (ls2 := [(4, .int (-3)), (3, .int 4), (2, .int (-2)), (1, .int (-3)), (0, .int s)]) (st2 := [.int (-3)]) (h2 := h) (dc2 := 0) (ds2 := 0) 2 rfl ?_
          refine wq_inl (y2 := 150) (as := [.int (-3)]) rfl rfl rfl (wq_T (show zT zg0 zF zP 150 0 [(0, .int (-3))] [] h 0 0 (some (.int (-290)), h, 0, 0) from c_sin (-3 : Int32) h) ?_)
          show wq 88 33 [(4, .int (-3)), (3, .int 4), (2, .int (-2)), (1, .int (-3)), (0, .int s)] [.int (-290)] h 0 0 _
          refine wq_gos (f := 1) (pc2 := 34) (ls2 := [(4, .int (-3)), (3, .int 4), (2, .int (-2)), (1, .int (-3)), (0, .int s)]) (st2 := [.int s, .int (-290)]) (h2 := h) (dc2 := 0) (ds2 := 0) 1 rfl ?_
          refine wq_ge2 rfl rfl (fun b29x => ?_) (fun b29x => ?_)
          · refine wq_gos (f := 1) (pc2 := 55) (ls2 := [(3, .int 5), (2, .int (-3)), (4, .int (-3)), (1, .int (-3)), (0, .int s)]) (st2 := [.int (-3)]) (h2 := h) (dc2 := 0) (ds2 := 0) 11 rfl ?_
            refine wq_inl (y2 := 150) (as := [.int (-3)]) rfl rfl rfl (wq_T (show zT zg0 zF zP 150 0 [(0, .int (-3))] [] h 0 0 (some (.int (-290)), h, 0, 0) from c_sin (-3 : Int32) h) ?_)
            show wq 88 58 [(3, .int 5), (2, .int (-3)), (4, .int (-3)), (1, .int (-3)), (0, .int s)] [.int (-290)] h 0 0 _
            refine wq_gos (f := 1) (pc2 := 59) (ls2 := [(3, .int 5), (2, .int (-3)), (4, .int (-3)), (1, .int (-3)), (0, .int s)]) (st2 := [.int s, .int (-290)]) (h2 := h) (dc2 := 0) (ds2 := 0) 1 rfl ?_
            refine wq_ne2 rfl rfl (fun b30x => ?_) (fun b30x => ?_)
            · refine wq_gos (f := 1) (pc2 := 68) (ls2 := [(3, .int 5), (2, .int (-3)), (4, .int (-3)), (1, .int (-3)), (0, .int s)]) (st2 := [.int 99]) (h2 := h) (dc2 := 0) (ds2 := 0) 1 rfl ?_
              refine wq_ret rfl rfl ?_
              show (some (Value.int (99 : Int32)), h, 0, 0) = (some (Value.int (jang s)), h, 0, 0)
              rw [show jang s = (99 : Int32) by unfold jang; rw [if_pos b1x, if_neg (Int.not_le.mpr b2x), if_neg (Int.not_le.mpr b20x), if_pos b28x, if_pos b29x, if_pos b30x]]
            · refine wq_gos (f := 1) (pc2 := 68) (ls2 := [(3, .int 5), (2, .int (-3)), (4, .int (-3)), (1, .int (-3)), (0, .int s)]) (st2 := [.int (-3)]) (h2 := h) (dc2 := 0) (ds2 := 0) 2 rfl ?_
              refine wq_ret rfl rfl ?_
              show (some (Value.int (-3 : Int32)), h, 0, 0) = (some (Value.int (jang s)), h, 0, 0)
              rw [show jang s = (-3 : Int32) by unfold jang; rw [if_pos b1x, if_neg (Int.not_le.mpr b2x), if_neg (Int.not_le.mpr b20x), if_pos b28x, if_pos b29x, if_neg (fun q => q b30x)]]
          · refine wq_gos (f := 1) (pc2 := 55) (ls2 := [(3, .int 5), (1, .int (-2)), (4, .int (-3)), (2, .int (-2)), (0, .int s)]) (st2 := [.int (-2)]) (h2 := h) (dc2 := 0) (ds2 := 0) 14 rfl ?_
            refine wq_inl (y2 := 150) (as := [.int (-2)]) rfl rfl rfl (wq_T (show zT zg0 zF zP 150 0 [(0, .int (-2))] [] h 0 0 (some (.int (-195)), h, 0, 0) from c_sin (-2 : Int32) h) ?_)
            show wq 88 58 [(3, .int 5), (1, .int (-2)), (4, .int (-3)), (2, .int (-2)), (0, .int s)] [.int (-195)] h 0 0 _
            refine wq_gos (f := 1) (pc2 := 59) (ls2 := [(3, .int 5), (1, .int (-2)), (4, .int (-3)), (2, .int (-2)), (0, .int s)]) (st2 := [.int s, .int (-195)]) (h2 := h) (dc2 := 0) (ds2 := 0) 1 rfl ?_
            refine wq_ne2 rfl rfl (fun b31x => ?_) (fun b31x => ?_)
            · refine wq_gos (f := 1) (pc2 := 68) (ls2 := [(3, .int 5), (1, .int (-2)), (4, .int (-3)), (2, .int (-2)), (0, .int s)]) (st2 := [.int 99]) (h2 := h) (dc2 := 0) (ds2 := 0) 1 rfl ?_
              refine wq_ret rfl rfl ?_
              show (some (Value.int (99 : Int32)), h, 0, 0) = (some (Value.int (jang s)), h, 0, 0)
              rw [show jang s = (99 : Int32) by unfold jang; rw [if_pos b1x, if_neg (Int.not_le.mpr b2x), if_neg (Int.not_le.mpr b20x), if_pos b28x, if_neg (Int.not_le.mpr b29x), if_pos b31x]]
            · refine wq_gos (f := 1) (pc2 := 68) (ls2 := [(3, .int 5), (1, .int (-2)), (4, .int (-3)), (2, .int (-2)), (0, .int s)]) (st2 := [.int (-2)]) (h2 := h) (dc2 := 0) (ds2 := 0) 2 rfl ?_
              refine wq_ret rfl rfl ?_
              show (some (Value.int (-2 : Int32)), h, 0, 0) = (some (Value.int (jang s)), h, 0, 0)
              rw [show jang s = (-2 : Int32) by unfold jang; rw [if_pos b1x, if_neg (Int.not_le.mpr b2x), if_neg (Int.not_le.mpr b20x), if_pos b28x, if_neg (Int.not_le.mpr b29x), if_neg (fun q => q b31x)]]
        · refine wq_gos (f := 1) (pc2 := 23) (ls2 := [(3, .int 4), (1, .int (-1)), (4, .int (-2)), (2, .int 0), (0, .int s)]) (st2 := [.int 2, .int (-1)]) (h2 := h) (dc2 := 0) (ds2 := 0) 17 rfl ?_
          refine wq_inl (y2 := 282) (as := [.int (-1), .int 2]) rfl rfl rfl ?_
          show wq 282 0 [(0, .int (-1)), (1, .int 2)] [] h 0 0 _
          refine wq_gos (f := 1) (pc2 := 20) (ls2 := [(2, .int 0), (0, .int (-1)), (1, .int 2)]) (st2 := [.int (-1)]) (h2 := h) (dc2 := 0) (ds2 := 0) 16 rfl ?_
          refine wq_ret rfl rfl ?_
          show wq 88 26 [(3, .int 4), (1, .int (-1)), (4, .int (-2)), (2, .int 0), (0, .int s)] [.int (-1)] h 0 0 _
          refine wq_gos (f := 1) (pc2 := 30) (ls2 := [(4, .int (-1)), (3, .int 4), (1, .int (-1)), (2, .int 0), (0, .int s)]) (st2 := [.int (-1)]) (h2 := h) (dc2 := 0) (ds2 := 0) 2 rfl ?_
          refine wq_inl (y2 := 150) (as := [.int (-1)]) rfl rfl rfl (wq_T (show zT zg0 zF zP 150 0 [(0, .int (-1))] [] h 0 0 (some (.int (-98)), h, 0, 0) from c_sin (-1 : Int32) h) ?_)
          show wq 88 33 [(4, .int (-1)), (3, .int 4), (1, .int (-1)), (2, .int 0), (0, .int s)] [.int (-98)] h 0 0 _
          refine wq_gos (f := 1) (pc2 := 34) (ls2 := [(4, .int (-1)), (3, .int 4), (1, .int (-1)), (2, .int 0), (0, .int s)]) (st2 := [.int s, .int (-98)]) (h2 := h) (dc2 := 0) (ds2 := 0) 1 rfl ?_
          refine wq_ge2 rfl rfl (fun b32x => ?_) (fun b32x => ?_)
          · refine wq_gos (f := 1) (pc2 := 55) (ls2 := [(3, .int 5), (2, .int (-1)), (4, .int (-1)), (1, .int (-1)), (0, .int s)]) (st2 := [.int (-1)]) (h2 := h) (dc2 := 0) (ds2 := 0) 11 rfl ?_
            refine wq_inl (y2 := 150) (as := [.int (-1)]) rfl rfl rfl (wq_T (show zT zg0 zF zP 150 0 [(0, .int (-1))] [] h 0 0 (some (.int (-98)), h, 0, 0) from c_sin (-1 : Int32) h) ?_)
            show wq 88 58 [(3, .int 5), (2, .int (-1)), (4, .int (-1)), (1, .int (-1)), (0, .int s)] [.int (-98)] h 0 0 _
            refine wq_gos (f := 1) (pc2 := 59) (ls2 := [(3, .int 5), (2, .int (-1)), (4, .int (-1)), (1, .int (-1)), (0, .int s)]) (st2 := [.int s, .int (-98)]) (h2 := h) (dc2 := 0) (ds2 := 0) 1 rfl ?_
            refine wq_ne2 rfl rfl (fun b33x => ?_) (fun b33x => ?_)
            · refine wq_gos (f := 1) (pc2 := 68) (ls2 := [(3, .int 5), (2, .int (-1)), (4, .int (-1)), (1, .int (-1)), (0, .int s)]) (st2 := [.int 99]) (h2 := h) (dc2 := 0) (ds2 := 0) 1 rfl ?_
              refine wq_ret rfl rfl ?_
              show (some (Value.int (99 : Int32)), h, 0, 0) = (some (Value.int (jang s)), h, 0, 0)
              rw [show jang s = (99 : Int32) by unfold jang; rw [if_pos b1x, if_neg (Int.not_le.mpr b2x), if_neg (Int.not_le.mpr b20x), if_neg (Int.not_le.mpr b28x), if_pos b32x, if_pos b33x]]
            · refine wq_gos (f := 1) (pc2 := 68) (ls2 := [(3, .int 5), (2, .int (-1)), (4, .int (-1)), (1, .int (-1)), (0, .int s)]) (st2 := [.int (-1)]) (h2 := h) (dc2 := 0) (ds2 := 0) 2 rfl ?_
              refine wq_ret rfl rfl ?_
              show (some (Value.int (-1 : Int32)), h, 0, 0) = (some (Value.int (jang s)), h, 0, 0)
              rw [show jang s = (-1 : Int32) by unfold jang; rw [if_pos b1x, if_neg (Int.not_le.mpr b2x), if_neg (Int.not_le.mpr b20x), if_neg (Int.not_le.mpr b28x), if_pos b32x, if_neg (fun q => q b33x)]]
          · refine wq_gos (f := 1) (pc2 := 55) (ls2 := [(3, .int 5), (1, .int 0), (4, .int (-1)), (2, .int 0), (0, .int s)]) (st2 := [.int 0]) (h2 := h) (dc2 := 0) (ds2 := 0) 14 rfl ?_
            refine wq_inl (y2 := 150) (as := [.int 0]) rfl rfl rfl (wq_T (show zT zg0 zF zP 150 0 [(0, .int 0)] [] h 0 0 (some (.int 0), h, 0, 0) from c_sin (0 : Int32) h) ?_)
            show wq 88 58 [(3, .int 5), (1, .int 0), (4, .int (-1)), (2, .int 0), (0, .int s)] [.int 0] h 0 0 _
            refine wq_gos (f := 1) (pc2 := 59) (ls2 := [(3, .int 5), (1, .int 0), (4, .int (-1)), (2, .int 0), (0, .int s)]) (st2 := [.int s, .int 0]) (h2 := h) (dc2 := 0) (ds2 := 0) 1 rfl ?_
            refine wq_ne2 rfl rfl (fun b34x => ?_) (fun b34x => ?_)
            · refine wq_gos (f := 1) (pc2 := 68) (ls2 := [(3, .int 5), (1, .int 0), (4, .int (-1)), (2, .int 0), (0, .int s)]) (st2 := [.int 99]) (h2 := h) (dc2 := 0) (ds2 := 0) 1 rfl ?_
              refine wq_ret rfl rfl ?_
              show (some (Value.int (99 : Int32)), h, 0, 0) = (some (Value.int (jang s)), h, 0, 0)
              rw [show jang s = (99 : Int32) by unfold jang; rw [if_pos b1x, if_neg (Int.not_le.mpr b2x), if_neg (Int.not_le.mpr b20x), if_neg (Int.not_le.mpr b28x), if_neg (Int.not_le.mpr b32x), if_pos b34x]]
            · refine wq_gos (f := 1) (pc2 := 68) (ls2 := [(3, .int 5), (1, .int 0), (4, .int (-1)), (2, .int 0), (0, .int s)]) (st2 := [.int 0]) (h2 := h) (dc2 := 0) (ds2 := 0) 2 rfl ?_
              refine wq_ret rfl rfl ?_
              show (some (Value.int (0 : Int32)), h, 0, 0) = (some (Value.int (jang s)), h, 0, 0)
              rw [show jang s = (0 : Int32) by unfold jang; rw [if_pos b1x, if_neg (Int.not_le.mpr b2x), if_neg (Int.not_le.mpr b20x), if_neg (Int.not_le.mpr b28x), if_neg (Int.not_le.mpr b32x), if_neg (fun q => q b34x)]]
  · refine wq_gos (f := 1) (pc2 := 23) (ls2 := [(3, .int 1), (1, .int 1), (4, .int 0), (2, .int 16), (0, .int s)]) (st2 := [.int 2, .int 17]) (h2 := h) (dc2 := 0) (ds2 := 0) 17 rfl ?_
    refine wq_inl (y2 := 282) (as := [.int 17, .int 2]) rfl rfl rfl ?_
    show wq 282 0 [(0, .int 17), (1, .int 2)] [] h 0 0 _
    refine wq_gos (f := 1) (pc2 := 22) (ls2 := [(2, .int 8), (0, .int 17), (1, .int 2)]) (st2 := [.int 8]) (h2 := h) (dc2 := 0) (ds2 := 0) 9 rfl ?_
    refine wq_ret rfl rfl ?_
    show wq 88 26 [(3, .int 1), (1, .int 1), (4, .int 0), (2, .int 16), (0, .int s)] [.int 8] h 0 0 _
    refine wq_gos (f := 1) (pc2 := 30) (ls2 := [(4, .int 8), (3, .int 1), (1, .int 1), (2, .int 16), (0, .int s)]) (st2 := [.int 8]) (h2 := h) (dc2 := 0) (ds2 := 0) 2 rfl ?_
    refine wq_inl (y2 := 150) (as := [.int 8]) rfl rfl rfl (wq_T (show zT zg0 zF zP 150 0 [(0, .int 8)] [] h 0 0 (some (.int 707), h, 0, 0) from c_sin (8 : Int32) h) ?_)
    show wq 88 33 [(4, .int 8), (3, .int 1), (1, .int 1), (2, .int 16), (0, .int s)] [.int 707] h 0 0 _
    refine wq_gos (f := 1) (pc2 := 34) (ls2 := [(4, .int 8), (3, .int 1), (1, .int 1), (2, .int 16), (0, .int s)]) (st2 := [.int s, .int 707]) (h2 := h) (dc2 := 0) (ds2 := 0) 1 rfl ?_
    refine wq_ge2 rfl rfl (fun b35x => ?_) (fun b35x => ?_)
    · refine wq_gos (f := 1) (pc2 := 23) (ls2 := [(3, .int 2), (2, .int 8), (4, .int 8), (1, .int 1), (0, .int s)]) (st2 := [.int 2, .int 9]) (h2 := h) (dc2 := 0) (ds2 := 0) 14 rfl ?_
      refine wq_inl (y2 := 282) (as := [.int 9, .int 2]) rfl rfl rfl ?_
      show wq 282 0 [(0, .int 9), (1, .int 2)] [] h 0 0 _
      refine wq_gos (f := 1) (pc2 := 22) (ls2 := [(2, .int 4), (0, .int 9), (1, .int 2)]) (st2 := [.int 4]) (h2 := h) (dc2 := 0) (ds2 := 0) 9 rfl ?_
      refine wq_ret rfl rfl ?_
      show wq 88 26 [(3, .int 2), (2, .int 8), (4, .int 8), (1, .int 1), (0, .int s)] [.int 4] h 0 0 _
      refine wq_gos (f := 1) (pc2 := 30) (ls2 := [(4, .int 4), (3, .int 2), (2, .int 8), (1, .int 1), (0, .int s)]) (st2 := [.int 4]) (h2 := h) (dc2 := 0) (ds2 := 0) 2 rfl ?_
      refine wq_inl (y2 := 150) (as := [.int 4]) rfl rfl rfl (wq_T (show zT zg0 zF zP 150 0 [(0, .int 4)] [] h 0 0 (some (.int 383), h, 0, 0) from c_sin (4 : Int32) h) ?_)
      show wq 88 33 [(4, .int 4), (3, .int 2), (2, .int 8), (1, .int 1), (0, .int s)] [.int 383] h 0 0 _
      refine wq_gos (f := 1) (pc2 := 34) (ls2 := [(4, .int 4), (3, .int 2), (2, .int 8), (1, .int 1), (0, .int s)]) (st2 := [.int s, .int 383]) (h2 := h) (dc2 := 0) (ds2 := 0) 1 rfl ?_
      refine wq_ge2 rfl rfl (fun b36x => ?_) (fun b36x => ?_)
      · refine wq_gos (f := 1) (pc2 := 23) (ls2 := [(3, .int 3), (2, .int 4), (4, .int 4), (1, .int 1), (0, .int s)]) (st2 := [.int 2, .int 5]) (h2 := h) (dc2 := 0) (ds2 := 0) 14 rfl ?_
        refine wq_inl (y2 := 282) (as := [.int 5, .int 2]) rfl rfl rfl ?_
        show wq 282 0 [(0, .int 5), (1, .int 2)] [] h 0 0 _
        refine wq_gos (f := 1) (pc2 := 22) (ls2 := [(2, .int 2), (0, .int 5), (1, .int 2)]) (st2 := [.int 2]) (h2 := h) (dc2 := 0) (ds2 := 0) 9 rfl ?_
        refine wq_ret rfl rfl ?_
        show wq 88 26 [(3, .int 3), (2, .int 4), (4, .int 4), (1, .int 1), (0, .int s)] [.int 2] h 0 0 _
        refine wq_gos (f := 1) (pc2 := 30) (ls2 := [(4, .int 2), (3, .int 3), (2, .int 4), (1, .int 1), (0, .int s)]) (st2 := [.int 2]) (h2 := h) (dc2 := 0) (ds2 := 0) 2 rfl ?_
        refine wq_inl (y2 := 150) (as := [.int 2]) rfl rfl rfl (wq_T (show zT zg0 zF zP 150 0 [(0, .int 2)] [] h 0 0 (some (.int 195), h, 0, 0) from c_sin (2 : Int32) h) ?_)
        show wq 88 33 [(4, .int 2), (3, .int 3), (2, .int 4), (1, .int 1), (0, .int s)] [.int 195] h 0 0 _
        refine wq_gos (f := 1) (pc2 := 34) (ls2 := [(4, .int 2), (3, .int 3), (2, .int 4), (1, .int 1), (0, .int s)]) (st2 := [.int s, .int 195]) (h2 := h) (dc2 := 0) (ds2 := 0) 1 rfl ?_
        refine wq_ge2 rfl rfl (fun b37x => ?_) (fun b37x => ?_)
        · refine wq_gos (f := 1) (pc2 := 23) (ls2 := [(3, .int 4), (2, .int 2), (4, .int 2), (1, .int 1), (0, .int s)]) (st2 := [.int 2, .int 3]) (h2 := h) (dc2 := 0) (ds2 := 0) 14 rfl ?_
          refine wq_inl (y2 := 282) (as := [.int 3, .int 2]) rfl rfl rfl ?_
          show wq 282 0 [(0, .int 3), (1, .int 2)] [] h 0 0 _
          refine wq_gos (f := 1) (pc2 := 22) (ls2 := [(2, .int 1), (0, .int 3), (1, .int 2)]) (st2 := [.int 1]) (h2 := h) (dc2 := 0) (ds2 := 0) 9 rfl ?_
          refine wq_ret rfl rfl ?_
          show wq 88 26 [(3, .int 4), (2, .int 2), (4, .int 2), (1, .int 1), (0, .int s)] [.int 1] h 0 0 _
          refine wq_gos (f := 1) (pc2 := 30) (ls2 := [(4, .int 1), (3, .int 4), (2, .int 2), (1, .int 1), (0, .int s)]) (st2 := [.int 1]) (h2 := h) (dc2 := 0) (ds2 := 0) 2 rfl ?_
          refine wq_inl (y2 := 150) (as := [.int 1]) rfl rfl rfl (wq_T (show zT zg0 zF zP 150 0 [(0, .int 1)] [] h 0 0 (some (.int 98), h, 0, 0) from c_sin (1 : Int32) h) ?_)
          show wq 88 33 [(4, .int 1), (3, .int 4), (2, .int 2), (1, .int 1), (0, .int s)] [.int 98] h 0 0 _
          refine wq_gos (f := 1) (pc2 := 34) (ls2 := [(4, .int 1), (3, .int 4), (2, .int 2), (1, .int 1), (0, .int s)]) (st2 := [.int s, .int 98]) (h2 := h) (dc2 := 0) (ds2 := 0) 1 rfl ?_
          refine wq_ge2 rfl rfl (fun b38x => ?_) (fun b38x => ?_)
          · refine wq_gos (f := 1) (pc2 := 55) (ls2 := [(3, .int 5), (2, .int 1), (4, .int 1), (1, .int 1), (0, .int s)]) (st2 := [.int 1]) (h2 := h) (dc2 := 0) (ds2 := 0) 11 rfl ?_
            refine wq_inl (y2 := 150) (as := [.int 1]) rfl rfl rfl (wq_T (show zT zg0 zF zP 150 0 [(0, .int 1)] [] h 0 0 (some (.int 98), h, 0, 0) from c_sin (1 : Int32) h) ?_)
            show wq 88 58 [(3, .int 5), (2, .int 1), (4, .int 1), (1, .int 1), (0, .int s)] [.int 98] h 0 0 _
            refine wq_gos (f := 1) (pc2 := 59) (ls2 := [(3, .int 5), (2, .int 1), (4, .int 1), (1, .int 1), (0, .int s)]) (st2 := [.int s, .int 98]) (h2 := h) (dc2 := 0) (ds2 := 0) 1 rfl ?_
            refine wq_ne2 rfl rfl (fun b39x => ?_) (fun b39x => ?_)
            · refine wq_gos (f := 1) (pc2 := 68) (ls2 := [(3, .int 5), (2, .int 1), (4, .int 1), (1, .int 1), (0, .int s)]) (st2 := [.int 99]) (h2 := h) (dc2 := 0) (ds2 := 0) 1 rfl ?_
              refine wq_ret rfl rfl ?_
              show (some (Value.int (99 : Int32)), h, 0, 0) = (some (Value.int (jang s)), h, 0, 0)
              rw [show jang s = (99 : Int32) by unfold jang; rw [if_neg (Int.not_le.mpr b1x), if_pos b35x, if_pos b36x, if_pos b37x, if_pos b38x, if_pos b39x]]
            · refine wq_gos (f := 1) (pc2 := 68) (ls2 := [(3, .int 5), (2, .int 1), (4, .int 1), (1, .int 1), (0, .int s)]) (st2 := [.int 1]) (h2 := h) (dc2 := 0) (ds2 := 0) 2 rfl ?_
              refine wq_ret rfl rfl ?_
              show (some (Value.int (1 : Int32)), h, 0, 0) = (some (Value.int (jang s)), h, 0, 0)
              rw [show jang s = (1 : Int32) by unfold jang; rw [if_neg (Int.not_le.mpr b1x), if_pos b35x, if_pos b36x, if_pos b37x, if_pos b38x, if_neg (fun q => q b39x)]]
          · refine wq_gos (f := 1) (pc2 := 55) (ls2 := [(3, .int 5), (1, .int 2), (4, .int 1), (2, .int 2), (0, .int s)]) (st2 := [.int 2]) (h2 := h) (dc2 := 0) (ds2 := 0) 14 rfl ?_
            refine wq_inl (y2 := 150) (as := [.int 2]) rfl rfl rfl (wq_T (show zT zg0 zF zP 150 0 [(0, .int 2)] [] h 0 0 (some (.int 195), h, 0, 0) from c_sin (2 : Int32) h) ?_)
            show wq 88 58 [(3, .int 5), (1, .int 2), (4, .int 1), (2, .int 2), (0, .int s)] [.int 195] h 0 0 _
            refine wq_gos (f := 1) (pc2 := 59) (ls2 := [(3, .int 5), (1, .int 2), (4, .int 1), (2, .int 2), (0, .int s)]) (st2 := [.int s, .int 195]) (h2 := h) (dc2 := 0) (ds2 := 0) 1 rfl ?_
            refine wq_ne2 rfl rfl (fun b40x => ?_) (fun b40x => ?_)
            · refine wq_gos (f := 1) (pc2 := 68) (ls2 := [(3, .int 5), (1, .int 2), (4, .int 1), (2, .int 2), (0, .int s)]) (st2 := [.int 99]) (h2 := h) (dc2 := 0) (ds2 := 0) 1 rfl ?_
              refine wq_ret rfl rfl ?_
              show (some (Value.int (99 : Int32)), h, 0, 0) = (some (Value.int (jang s)), h, 0, 0)
              rw [show jang s = (99 : Int32) by unfold jang; rw [if_neg (Int.not_le.mpr b1x), if_pos b35x, if_pos b36x, if_pos b37x, if_neg (Int.not_le.mpr b38x), if_pos b40x]]
            · refine wq_gos (f := 1) (pc2 := 68) (ls2 := [(3, .int 5), (1, .int 2), (4, .int 1), (2, .int 2), (0, .int s)]) (st2 := [.int 2]) (h2 := h) (dc2 := 0) (ds2 := 0) 2 rfl ?_
              refine wq_ret rfl rfl ?_
              show (some (Value.int (2 : Int32)), h, 0, 0) = (some (Value.int (jang s)), h, 0, 0)
              rw [show jang s = (2 : Int32) by unfold jang; rw [if_neg (Int.not_le.mpr b1x), if_pos b35x, if_pos b36x, if_pos b37x, if_neg (Int.not_le.mpr b38x), if_neg (fun q => q b40x)]]
        · refine wq_gos (f := 1) (pc2 := 23) (ls2 := [(3, .int 4), (1, .int 3), (4, .int 2), (2, .int 4), (0, .int s)]) (st2 := [.int 2, .int 7]) (h2 := h) (dc2 := 0) (ds2 := 0) 17 rfl ?_
          refine wq_inl (y2 := 282) (as := [.int 7, .int 2]) rfl rfl rfl ?_
          show wq 282 0 [(0, .int 7), (1, .int 2)] [] h 0 0 _
          refine wq_gos (f := 1) (pc2 := 22) (ls2 := [(2, .int 3), (0, .int 7), (1, .int 2)]) (st2 := [.int 3]) (h2 := h) (dc2 := 0) (ds2 := 0) 9 rfl ?_
          refine wq_ret rfl rfl ?_
          show wq 88 26 [(3, .int 4), (1, .int 3), (4, .int 2), (2, .int 4), (0, .int s)] [.int 3] h 0 0 _
          refine wq_gos (f := 1) (pc2 := 30) (ls2 := [(4, .int 3), (3, .int 4), (1, .int 3), (2, .int 4), (0, .int s)]) (st2 := [.int 3]) (h2 := h) (dc2 := 0) (ds2 := 0) 2 rfl ?_
          refine wq_inl (y2 := 150) (as := [.int 3]) rfl rfl rfl (wq_T (show zT zg0 zF zP 150 0 [(0, .int 3)] [] h 0 0 (some (.int 290), h, 0, 0) from c_sin (3 : Int32) h) ?_)
          show wq 88 33 [(4, .int 3), (3, .int 4), (1, .int 3), (2, .int 4), (0, .int s)] [.int 290] h 0 0 _
          refine wq_gos (f := 1) (pc2 := 34) (ls2 := [(4, .int 3), (3, .int 4), (1, .int 3), (2, .int 4), (0, .int s)]) (st2 := [.int s, .int 290]) (h2 := h) (dc2 := 0) (ds2 := 0) 1 rfl ?_
          refine wq_ge2 rfl rfl (fun b41x => ?_) (fun b41x => ?_)
          · refine wq_gos (f := 1) (pc2 := 55) (ls2 := [(3, .int 5), (2, .int 3), (4, .int 3), (1, .int 3), (0, .int s)]) (st2 := [.int 3]) (h2 := h) (dc2 := 0) (ds2 := 0) 11 rfl ?_
            refine wq_inl (y2 := 150) (as := [.int 3]) rfl rfl rfl (wq_T (show zT zg0 zF zP 150 0 [(0, .int 3)] [] h 0 0 (some (.int 290), h, 0, 0) from c_sin (3 : Int32) h) ?_)
            show wq 88 58 [(3, .int 5), (2, .int 3), (4, .int 3), (1, .int 3), (0, .int s)] [.int 290] h 0 0 _
            refine wq_gos (f := 1) (pc2 := 59) (ls2 := [(3, .int 5), (2, .int 3), (4, .int 3), (1, .int 3), (0, .int s)]) (st2 := [.int s, .int 290]) (h2 := h) (dc2 := 0) (ds2 := 0) 1 rfl ?_
            refine wq_ne2 rfl rfl (fun b42x => ?_) (fun b42x => ?_)
            · refine wq_gos (f := 1) (pc2 := 68) (ls2 := [(3, .int 5), (2, .int 3), (4, .int 3), (1, .int 3), (0, .int s)]) (st2 := [.int 99]) (h2 := h) (dc2 := 0) (ds2 := 0) 1 rfl ?_
              refine wq_ret rfl rfl ?_
              show (some (Value.int (99 : Int32)), h, 0, 0) = (some (Value.int (jang s)), h, 0, 0)
              rw [show jang s = (99 : Int32) by unfold jang; rw [if_neg (Int.not_le.mpr b1x), if_pos b35x, if_pos b36x, if_neg (Int.not_le.mpr b37x), if_pos b41x, if_pos b42x]]
            · refine wq_gos (f := 1) (pc2 := 68) (ls2 := [(3, .int 5), (2, .int 3), (4, .int 3), (1, .int 3), (0, .int s)]) (st2 := [.int 3]) (h2 := h) (dc2 := 0) (ds2 := 0) 2 rfl ?_
              refine wq_ret rfl rfl ?_
              show (some (Value.int (3 : Int32)), h, 0, 0) = (some (Value.int (jang s)), h, 0, 0)
              rw [show jang s = (3 : Int32) by unfold jang; rw [if_neg (Int.not_le.mpr b1x), if_pos b35x, if_pos b36x, if_neg (Int.not_le.mpr b37x), if_pos b41x, if_neg (fun q => q b42x)]]
          · refine wq_gos (f := 1) (pc2 := 55) (ls2 := [(3, .int 5), (1, .int 4), (4, .int 3), (2, .int 4), (0, .int s)]) (st2 := [.int 4]) (h2 := h) (dc2 := 0) (ds2 := 0) 14 rfl ?_
            refine wq_inl (y2 := 150) (as := [.int 4]) rfl rfl rfl (wq_T (show zT zg0 zF zP 150 0 [(0, .int 4)] [] h 0 0 (some (.int 383), h, 0, 0) from c_sin (4 : Int32) h) ?_)
            show wq 88 58 [(3, .int 5), (1, .int 4), (4, .int 3), (2, .int 4), (0, .int s)] [.int 383] h 0 0 _
            refine wq_gos (f := 1) (pc2 := 59) (ls2 := [(3, .int 5), (1, .int 4), (4, .int 3), (2, .int 4), (0, .int s)]) (st2 := [.int s, .int 383]) (h2 := h) (dc2 := 0) (ds2 := 0) 1 rfl ?_
            refine wq_ne2 rfl rfl (fun b43x => ?_) (fun b43x => ?_)
            · refine wq_gos (f := 1) (pc2 := 68) (ls2 := [(3, .int 5), (1, .int 4), (4, .int 3), (2, .int 4), (0, .int s)]) (st2 := [.int 99]) (h2 := h) (dc2 := 0) (ds2 := 0) 1 rfl ?_
              refine wq_ret rfl rfl ?_
              show (some (Value.int (99 : Int32)), h, 0, 0) = (some (Value.int (jang s)), h, 0, 0)
              rw [show jang s = (99 : Int32) by unfold jang; rw [if_neg (Int.not_le.mpr b1x), if_pos b35x, if_pos b36x, if_neg (Int.not_le.mpr b37x), if_neg (Int.not_le.mpr b41x), if_pos b43x]]
            · refine wq_gos (f := 1) (pc2 := 68) (ls2 := [(3, .int 5), (1, .int 4), (4, .int 3), (2, .int 4), (0, .int s)]) (st2 := [.int 4]) (h2 := h) (dc2 := 0) (ds2 := 0) 2 rfl ?_
              refine wq_ret rfl rfl ?_
              show (some (Value.int (4 : Int32)), h, 0, 0) = (some (Value.int (jang s)), h, 0, 0)
              rw [show jang s = (4 : Int32) by unfold jang; rw [if_neg (Int.not_le.mpr b1x), if_pos b35x, if_pos b36x, if_neg (Int.not_le.mpr b37x), if_neg (Int.not_le.mpr b41x), if_neg (fun q => q b43x)]]
      · refine wq_gos (f := 1) (pc2 := 23) (ls2 := [(3, .int 3), (1, .int 5), (4, .int 4), (2, .int 8), (0, .int s)]) (st2 := [.int 2, .int 13]) (h2 := h) (dc2 := 0) (ds2 := 0) 17 rfl ?_
        refine wq_inl (y2 := 282) (as := [.int 13, .int 2]) rfl rfl rfl ?_
        show wq 282 0 [(0, .int 13), (1, .int 2)] [] h 0 0 _
        refine wq_gos (f := 1) (pc2 := 22) (ls2 := [(2, .int 6), (0, .int 13), (1, .int 2)]) (st2 := [.int 6]) (h2 := h) (dc2 := 0) (ds2 := 0) 9 rfl ?_
        refine wq_ret rfl rfl ?_
        show wq 88 26 [(3, .int 3), (1, .int 5), (4, .int 4), (2, .int 8), (0, .int s)] [.int 6] h 0 0 _
        refine wq_gos (f := 1) (pc2 := 30) (ls2 := [(4, .int 6), (3, .int 3), (1, .int 5), (2, .int 8), (0, .int s)]) (st2 := [.int 6]) (h2 := h) (dc2 := 0) (ds2 := 0) 2 rfl ?_
        refine wq_inl (y2 := 150) (as := [.int 6]) rfl rfl rfl (wq_T (show zT zg0 zF zP 150 0 [(0, .int 6)] [] h 0 0 (some (.int 556), h, 0, 0) from c_sin (6 : Int32) h) ?_)
        show wq 88 33 [(4, .int 6), (3, .int 3), (1, .int 5), (2, .int 8), (0, .int s)] [.int 556] h 0 0 _
        refine wq_gos (f := 1) (pc2 := 34) (ls2 := [(4, .int 6), (3, .int 3), (1, .int 5), (2, .int 8), (0, .int s)]) (st2 := [.int s, .int 556]) (h2 := h) (dc2 := 0) (ds2 := 0) 1 rfl ?_
        refine wq_ge2 rfl rfl (fun b44x => ?_) (fun b44x => ?_)
        · refine wq_gos (f := 1) (pc2 := 23) (ls2 := [(3, .int 4), (2, .int 6), (4, .int 6), (1, .int 5), (0, .int s)]) (st2 := [.int 2, .int 11]) (h2 := h) (dc2 := 0) (ds2 := 0) 14 rfl ?_
          refine wq_inl (y2 := 282) (as := [.int 11, .int 2]) rfl rfl rfl ?_
          show wq 282 0 [(0, .int 11), (1, .int 2)] [] h 0 0 _
          refine wq_gos (f := 1) (pc2 := 22) (ls2 := [(2, .int 5), (0, .int 11), (1, .int 2)]) (st2 := [.int 5]) (h2 := h) (dc2 := 0) (ds2 := 0) 9 rfl ?_
          refine wq_ret rfl rfl ?_
          show wq 88 26 [(3, .int 4), (2, .int 6), (4, .int 6), (1, .int 5), (0, .int s)] [.int 5] h 0 0 _
          refine wq_gos (f := 1) (pc2 := 30) (ls2 := [(4, .int 5), (3, .int 4), (2, .int 6), (1, .int 5), (0, .int s)]) (st2 := [.int 5]) (h2 := h) (dc2 := 0) (ds2 := 0) 2 rfl ?_
          refine wq_inl (y2 := 150) (as := [.int 5]) rfl rfl rfl (wq_T (show zT zg0 zF zP 150 0 [(0, .int 5)] [] h 0 0 (some (.int 471), h, 0, 0) from c_sin (5 : Int32) h) ?_)
          show wq 88 33 [(4, .int 5), (3, .int 4), (2, .int 6), (1, .int 5), (0, .int s)] [.int 471] h 0 0 _
          refine wq_gos (f := 1) (pc2 := 34) (ls2 := [(4, .int 5), (3, .int 4), (2, .int 6), (1, .int 5), (0, .int s)]) (st2 := [.int s, .int 471]) (h2 := h) (dc2 := 0) (ds2 := 0) 1 rfl ?_
          refine wq_ge2 rfl rfl (fun b45x => ?_) (fun b45x => ?_)
          · refine wq_gos (f := 1) (pc2 := 55) (ls2 := [(3, .int 5), (2, .int 5), (4, .int 5), (1, .int 5), (0, .int s)]) (st2 := [.int 5]) (h2 := h) (dc2 := 0) (ds2 := 0) 11 rfl ?_
            refine wq_inl (y2 := 150) (as := [.int 5]) rfl rfl rfl (wq_T (show zT zg0 zF zP 150 0 [(0, .int 5)] [] h 0 0 (some (.int 471), h, 0, 0) from c_sin (5 : Int32) h) ?_)
            show wq 88 58 [(3, .int 5), (2, .int 5), (4, .int 5), (1, .int 5), (0, .int s)] [.int 471] h 0 0 _
            refine wq_gos (f := 1) (pc2 := 59) (ls2 := [(3, .int 5), (2, .int 5), (4, .int 5), (1, .int 5), (0, .int s)]) (st2 := [.int s, .int 471]) (h2 := h) (dc2 := 0) (ds2 := 0) 1 rfl ?_
            refine wq_ne2 rfl rfl (fun b46x => ?_) (fun b46x => ?_)
            · refine wq_gos (f := 1) (pc2 := 68) (ls2 := [(3, .int 5), (2, .int 5), (4, .int 5), (1, .int 5), (0, .int s)]) (st2 := [.int 99]) (h2 := h) (dc2 := 0) (ds2 := 0) 1 rfl ?_
              refine wq_ret rfl rfl ?_
              show (some (Value.int (99 : Int32)), h, 0, 0) = (some (Value.int (jang s)), h, 0, 0)
              rw [show jang s = (99 : Int32) by unfold jang; rw [if_neg (Int.not_le.mpr b1x), if_pos b35x, if_neg (Int.not_le.mpr b36x), if_pos b44x, if_pos b45x, if_pos b46x]]
            · refine wq_gos (f := 1) (pc2 := 68) (ls2 := [(3, .int 5), (2, .int 5), (4, .int 5), (1, .int 5), (0, .int s)]) (st2 := [.int 5]) (h2 := h) (dc2 := 0) (ds2 := 0) 2 rfl ?_
              refine wq_ret rfl rfl ?_
              show (some (Value.int (5 : Int32)), h, 0, 0) = (some (Value.int (jang s)), h, 0, 0)
              rw [show jang s = (5 : Int32) by unfold jang; rw [if_neg (Int.not_le.mpr b1x), if_pos b35x, if_neg (Int.not_le.mpr b36x), if_pos b44x, if_pos b45x, if_neg (fun q => q b46x)]]
          · refine wq_gos (f := 1) (pc2 := 55) (ls2 := [(3, .int 5), (1, .int 6), (4, .int 5), (2, .int 6), (0, .int s)]) (st2 := [.int 6]) (h2 := h) (dc2 := 0) (ds2 := 0) 14 rfl ?_
            refine wq_inl (y2 := 150) (as := [.int 6]) rfl rfl rfl (wq_T (show zT zg0 zF zP 150 0 [(0, .int 6)] [] h 0 0 (some (.int 556), h, 0, 0) from c_sin (6 : Int32) h) ?_)
            show wq 88 58 [(3, .int 5), (1, .int 6), (4, .int 5), (2, .int 6), (0, .int s)] [.int 556] h 0 0 _
            refine wq_gos (f := 1) (pc2 := 59) (ls2 := [(3, .int 5), (1, .int 6), (4, .int 5), (2, .int 6), (0, .int s)]) (st2 := [.int s, .int 556]) (h2 := h) (dc2 := 0) (ds2 := 0) 1 rfl ?_
            refine wq_ne2 rfl rfl (fun b47x => ?_) (fun b47x => ?_)
            · refine wq_gos (f := 1) (pc2 := 68) (ls2 := [(3, .int 5), (1, .int 6), (4, .int 5), (2, .int 6), (0, .int s)]) (st2 := [.int 99]) (h2 := h) (dc2 := 0) (ds2 := 0) 1 rfl ?_
              refine wq_ret rfl rfl ?_
              show (some (Value.int (99 : Int32)), h, 0, 0) = (some (Value.int (jang s)), h, 0, 0)
              rw [show jang s = (99 : Int32) by unfold jang; rw [if_neg (Int.not_le.mpr b1x), if_pos b35x, if_neg (Int.not_le.mpr b36x), if_pos b44x, if_neg (Int.not_le.mpr b45x), if_pos b47x]]
            · refine wq_gos (f := 1) (pc2 := 68) (ls2 := [(3, .int 5), (1, .int 6), (4, .int 5), (2, .int 6), (0, .int s)]) (st2 := [.int 6]) (h2 := h) (dc2 := 0) (ds2 := 0) 2 rfl ?_
              refine wq_ret rfl rfl ?_
              show (some (Value.int (6 : Int32)), h, 0, 0) = (some (Value.int (jang s)), h, 0, 0)
              rw [show jang s = (6 : Int32) by unfold jang; rw [if_neg (Int.not_le.mpr b1x), if_pos b35x, if_neg (Int.not_le.mpr b36x), if_pos b44x, if_neg (Int.not_le.mpr b45x), if_neg (fun q => q b47x)]]
        · refine wq_gos (f := 1) (pc2 := 23) (ls2 := [(3, .int 4), (1, .int 7), (4, .int 6), (2, .int 8), (0, .int s)]) (st2 := [.int 2, .int 15]) (h2 := h) (dc2 := 0) (ds2 := 0) 17 rfl ?_
          refine wq_inl (y2 := 282) (as := [.int 15, .int 2]) rfl rfl rfl ?_
          show wq 282 0 [(0, .int 15), (1, .int 2)] [] h 0 0 _
          refine wq_gos (f := 1) (pc2 := 22) (ls2 := [(2, .int 7), (0, .int 15), (1, .int 2)]) (st2 := [.int 7]) (h2 := h) (dc2 := 0) (ds2 := 0) 9 rfl ?_
          refine wq_ret rfl rfl ?_
          show wq 88 26 [(3, .int 4), (1, .int 7), (4, .int 6), (2, .int 8), (0, .int s)] [.int 7] h 0 0 _
          refine wq_gos (f := 1) (pc2 := 30) (ls2 := [(4, .int 7), (3, .int 4), (1, .int 7), (2, .int 8), (0, .int s)]) (st2 := [.int 7]) (h2 := h) (dc2 := 0) (ds2 := 0) 2 rfl ?_
          refine wq_inl (y2 := 150) (as := [.int 7]) rfl rfl rfl (wq_T (show zT zg0 zF zP 150 0 [(0, .int 7)] [] h 0 0 (some (.int 634), h, 0, 0) from c_sin (7 : Int32) h) ?_)
          show wq 88 33 [(4, .int 7), (3, .int 4), (1, .int 7), (2, .int 8), (0, .int s)] [.int 634] h 0 0 _
          refine wq_gos (f := 1) (pc2 := 34) (ls2 := [(4, .int 7), (3, .int 4), (1, .int 7), (2, .int 8), (0, .int s)]) (st2 := [.int s, .int 634]) (h2 := h) (dc2 := 0) (ds2 := 0) 1 rfl ?_
          refine wq_ge2 rfl rfl (fun b48x => ?_) (fun b48x => ?_)
          · refine wq_gos (f := 1) (pc2 := 55) (ls2 := [(3, .int 5), (2, .int 7), (4, .int 7), (1, .int 7), (0, .int s)]) (st2 := [.int 7]) (h2 := h) (dc2 := 0) (ds2 := 0) 11 rfl ?_
            refine wq_inl (y2 := 150) (as := [.int 7]) rfl rfl rfl (wq_T (show zT zg0 zF zP 150 0 [(0, .int 7)] [] h 0 0 (some (.int 634), h, 0, 0) from c_sin (7 : Int32) h) ?_)
            show wq 88 58 [(3, .int 5), (2, .int 7), (4, .int 7), (1, .int 7), (0, .int s)] [.int 634] h 0 0 _
            refine wq_gos (f := 1) (pc2 := 59) (ls2 := [(3, .int 5), (2, .int 7), (4, .int 7), (1, .int 7), (0, .int s)]) (st2 := [.int s, .int 634]) (h2 := h) (dc2 := 0) (ds2 := 0) 1 rfl ?_
            refine wq_ne2 rfl rfl (fun b49x => ?_) (fun b49x => ?_)
            · refine wq_gos (f := 1) (pc2 := 68) (ls2 := [(3, .int 5), (2, .int 7), (4, .int 7), (1, .int 7), (0, .int s)]) (st2 := [.int 99]) (h2 := h) (dc2 := 0) (ds2 := 0) 1 rfl ?_
              refine wq_ret rfl rfl ?_
              show (some (Value.int (99 : Int32)), h, 0, 0) = (some (Value.int (jang s)), h, 0, 0)
              rw [show jang s = (99 : Int32) by unfold jang; rw [if_neg (Int.not_le.mpr b1x), if_pos b35x, if_neg (Int.not_le.mpr b36x), if_neg (Int.not_le.mpr b44x), if_pos b48x, if_pos b49x]]
            · refine wq_gos (f := 1) (pc2 := 68) (ls2 := [(3, .int 5), (2, .int 7), (4, .int 7), (1, .int 7), (0, .int s)]) (st2 := [.int 7]) (h2 := h) (dc2 := 0) (ds2 := 0) 2 rfl ?_
              refine wq_ret rfl rfl ?_
              show (some (Value.int (7 : Int32)), h, 0, 0) = (some (Value.int (jang s)), h, 0, 0)
              rw [show jang s = (7 : Int32) by unfold jang; rw [if_neg (Int.not_le.mpr b1x), if_pos b35x, if_neg (Int.not_le.mpr b36x), if_neg (Int.not_le.mpr b44x), if_pos b48x, if_neg (fun q => q b49x)]]
          · refine wq_gos (f := 1) (pc2 := 55) (ls2 := [(3, .int 5), (1, .int 8), (4, .int 7), (2, .int 8), (0, .int s)]) (st2 := [.int 8]) (h2 := h) (dc2 := 0) (ds2 := 0) 14 rfl ?_
            refine wq_inl (y2 := 150) (as := [.int 8]) rfl rfl rfl (wq_T (show zT zg0 zF zP 150 0 [(0, .int 8)] [] h 0 0 (some (.int 707), h, 0, 0) from c_sin (8 : Int32) h) ?_)
            show wq 88 58 [(3, .int 5), (1, .int 8), (4, .int 7), (2, .int 8), (0, .int s)] [.int 707] h 0 0 _
            refine wq_gos (f := 1) (pc2 := 59) (ls2 := [(3, .int 5), (1, .int 8), (4, .int 7), (2, .int 8), (0, .int s)]) (st2 := [.int s, .int 707]) (h2 := h) (dc2 := 0) (ds2 := 0) 1 rfl ?_
            refine wq_ne2 rfl rfl (fun b50x => ?_) (fun b50x => ?_)
            · refine wq_gos (f := 1) (pc2 := 68) (ls2 := [(3, .int 5), (1, .int 8), (4, .int 7), (2, .int 8), (0, .int s)]) (st2 := [.int 99]) (h2 := h) (dc2 := 0) (ds2 := 0) 1 rfl ?_
              refine wq_ret rfl rfl ?_
              show (some (Value.int (99 : Int32)), h, 0, 0) = (some (Value.int (jang s)), h, 0, 0)
              rw [show jang s = (99 : Int32) by unfold jang; rw [if_neg (Int.not_le.mpr b1x), if_pos b35x, if_neg (Int.not_le.mpr b36x), if_neg (Int.not_le.mpr b44x), if_neg (Int.not_le.mpr b48x), if_pos b50x]]
            · refine wq_gos (f := 1) (pc2 := 68) (ls2 := [(3, .int 5), (1, .int 8), (4, .int 7), (2, .int 8), (0, .int s)]) (st2 := [.int 8]) (h2 := h) (dc2 := 0) (ds2 := 0) 2 rfl ?_
              refine wq_ret rfl rfl ?_
              show (some (Value.int (8 : Int32)), h, 0, 0) = (some (Value.int (jang s)), h, 0, 0)
              rw [show jang s = (8 : Int32) by unfold jang; rw [if_neg (Int.not_le.mpr b1x), if_pos b35x, if_neg (Int.not_le.mpr b36x), if_neg (Int.not_le.mpr b44x), if_neg (Int.not_le.mpr b48x), if_neg (fun q => q b50x)]]
    · refine wq_gos (f := 1) (pc2 := 23) (ls2 := [(3, .int 2), (1, .int 9), (4, .int 8), (2, .int 16), (0, .int s)]) (st2 := [.int 2, .int 25]) (h2 := h) (dc2 := 0) (ds2 := 0) 17 rfl ?_
      refine wq_inl (y2 := 282) (as := [.int 25, .int 2]) rfl rfl rfl ?_
      show wq 282 0 [(0, .int 25), (1, .int 2)] [] h 0 0 _
      refine wq_gos (f := 1) (pc2 := 22) (ls2 := [(2, .int 12), (0, .int 25), (1, .int 2)]) (st2 := [.int 12]) (h2 := h) (dc2 := 0) (ds2 := 0) 9 rfl ?_
      refine wq_ret rfl rfl ?_
      show wq 88 26 [(3, .int 2), (1, .int 9), (4, .int 8), (2, .int 16), (0, .int s)] [.int 12] h 0 0 _
      refine wq_gos (f := 1) (pc2 := 30) (ls2 := [(4, .int 12), (3, .int 2), (1, .int 9), (2, .int 16), (0, .int s)]) (st2 := [.int 12]) (h2 := h) (dc2 := 0) (ds2 := 0) 2 rfl ?_
      refine wq_inl (y2 := 150) (as := [.int 12]) rfl rfl rfl (wq_T (show zT zg0 zF zP 150 0 [(0, .int 12)] [] h 0 0 (some (.int 924), h, 0, 0) from c_sin (12 : Int32) h) ?_)
      show wq 88 33 [(4, .int 12), (3, .int 2), (1, .int 9), (2, .int 16), (0, .int s)] [.int 924] h 0 0 _
      refine wq_gos (f := 1) (pc2 := 34) (ls2 := [(4, .int 12), (3, .int 2), (1, .int 9), (2, .int 16), (0, .int s)]) (st2 := [.int s, .int 924]) (h2 := h) (dc2 := 0) (ds2 := 0) 1 rfl ?_
      refine wq_ge2 rfl rfl (fun b51x => ?_) (fun b51x => ?_)
      · refine wq_gos (f := 1) (pc2 := 23) (ls2 := [(3, .int 3), (2, .int 12), (4, .int 12), (1, .int 9), (0, .int s)]) (st2 := [.int 2, .int 21]) (h2 := h) (dc2 := 0) (ds2 := 0) 14 rfl ?_
        refine wq_inl (y2 := 282) (as := [.int 21, .int 2]) rfl rfl rfl ?_
        show wq 282 0 [(0, .int 21), (1, .int 2)] [] h 0 0 _
        refine wq_gos (f := 1) (pc2 := 22) (ls2 := [(2, .int 10), (0, .int 21), (1, .int 2)]) (st2 := [.int 10]) (h2 := h) (dc2 := 0) (ds2 := 0) 9 rfl ?_
        refine wq_ret rfl rfl ?_
        show wq 88 26 [(3, .int 3), (2, .int 12), (4, .int 12), (1, .int 9), (0, .int s)] [.int 10] h 0 0 _
        refine wq_gos (f := 1) (pc2 := 30) (ls2 := [(4, .int 10), (3, .int 3), (2, .int 12), (1, .int 9), (0, .int s)]) (st2 := [.int 10]) (h2 := h) (dc2 := 0) (ds2 := 0) 2 rfl ?_
        refine wq_inl (y2 := 150) (as := [.int 10]) rfl rfl rfl (wq_T (show zT zg0 zF zP 150 0 [(0, .int 10)] [] h 0 0 (some (.int 831), h, 0, 0) from c_sin (10 : Int32) h) ?_)
        show wq 88 33 [(4, .int 10), (3, .int 3), (2, .int 12), (1, .int 9), (0, .int s)] [.int 831] h 0 0 _
        refine wq_gos (f := 1) (pc2 := 34) (ls2 := [(4, .int 10), (3, .int 3), (2, .int 12), (1, .int 9), (0, .int s)]) (st2 := [.int s, .int 831]) (h2 := h) (dc2 := 0) (ds2 := 0) 1 rfl ?_
        refine wq_ge2 rfl rfl (fun b52x => ?_) (fun b52x => ?_)
        · refine wq_gos (f := 1) (pc2 := 23) (ls2 := [(3, .int 4), (2, .int 10), (4, .int 10), (1, .int 9), (0, .int s)]) (st2 := [.int 2, .int 19]) (h2 := h) (dc2 := 0) (ds2 := 0) 14 rfl ?_
          refine wq_inl (y2 := 282) (as := [.int 19, .int 2]) rfl rfl rfl ?_
          show wq 282 0 [(0, .int 19), (1, .int 2)] [] h 0 0 _
          refine wq_gos (f := 1) (pc2 := 22) (ls2 := [(2, .int 9), (0, .int 19), (1, .int 2)]) (st2 := [.int 9]) (h2 := h) (dc2 := 0) (ds2 := 0) 9 rfl ?_
          refine wq_ret rfl rfl ?_
          show wq 88 26 [(3, .int 4), (2, .int 10), (4, .int 10), (1, .int 9), (0, .int s)] [.int 9] h 0 0 _
          refine wq_gos (f := 1) (pc2 := 30) (ls2 := [(4, .int 9), (3, .int 4), (2, .int 10), (1, .int 9), (0, .int s)]) (st2 := [.int 9]) (h2 := h) (dc2 := 0) (ds2 := 0) 2 rfl ?_
          refine wq_inl (y2 := 150) (as := [.int 9]) rfl rfl rfl (wq_T (show zT zg0 zF zP 150 0 [(0, .int 9)] [] h 0 0 (some (.int 773), h, 0, 0) from c_sin (9 : Int32) h) ?_)
          show wq 88 33 [(4, .int 9), (3, .int 4), (2, .int 10), (1, .int 9), (0, .int s)] [.int 773] h 0 0 _
          refine wq_gos (f := 1) (pc2 := 34) (ls2 := [(4, .int 9), (3, .int 4), (2, .int 10), (1, .int 9), (0, .int s)]) (st2 := [.int s, .int 773]) (h2 := h) (dc2 := 0) (ds2 := 0) 1 rfl ?_
          refine wq_ge2 rfl rfl (fun b53x => ?_) (fun b53x => ?_)
          · refine wq_gos (f := 1) (pc2 := 55) (ls2 := [(3, .int 5), (2, .int 9), (4, .int 9), (1, .int 9), (0, .int s)]) (st2 := [.int 9]) (h2 := h) (dc2 := 0) (ds2 := 0) 11 rfl ?_
            refine wq_inl (y2 := 150) (as := [.int 9]) rfl rfl rfl (wq_T (show zT zg0 zF zP 150 0 [(0, .int 9)] [] h 0 0 (some (.int 773), h, 0, 0) from c_sin (9 : Int32) h) ?_)
            show wq 88 58 [(3, .int 5), (2, .int 9), (4, .int 9), (1, .int 9), (0, .int s)] [.int 773] h 0 0 _
            refine wq_gos (f := 1) (pc2 := 59) (ls2 := [(3, .int 5), (2, .int 9), (4, .int 9), (1, .int 9), (0, .int s)]) (st2 := [.int s, .int 773]) (h2 := h) (dc2 := 0) (ds2 := 0) 1 rfl ?_
            refine wq_ne2 rfl rfl (fun b54x => ?_) (fun b54x => ?_)
            · refine wq_gos (f := 1) (pc2 := 68) (ls2 := [(3, .int 5), (2, .int 9), (4, .int 9), (1, .int 9), (0, .int s)]) (st2 := [.int 99]) (h2 := h) (dc2 := 0) (ds2 := 0) 1 rfl ?_
              refine wq_ret rfl rfl ?_
              show (some (Value.int (99 : Int32)), h, 0, 0) = (some (Value.int (jang s)), h, 0, 0)
              rw [show jang s = (99 : Int32) by unfold jang; rw [if_neg (Int.not_le.mpr b1x), if_neg (Int.not_le.mpr b35x), if_pos b51x, if_pos b52x, if_pos b53x, if_pos b54x]]
            · refine wq_gos (f := 1) (pc2 := 68) (ls2 := [(3, .int 5), (2, .int 9), (4, .int 9), (1, .int 9), (0, .int s)]) (st2 := [.int 9]) (h2 := h) (dc2 := 0) (ds2 := 0) 2 rfl ?_
              refine wq_ret rfl rfl ?_
              show (some (Value.int (9 : Int32)), h, 0, 0) = (some (Value.int (jang s)), h, 0, 0)
              rw [show jang s = (9 : Int32) by unfold jang; rw [if_neg (Int.not_le.mpr b1x), if_neg (Int.not_le.mpr b35x), if_pos b51x, if_pos b52x, if_pos b53x, if_neg (fun q => q b54x)]]
          · refine wq_gos (f := 1) (pc2 := 55) (ls2 := [(3, .int 5), (1, .int 10), (4, .int 9), (2, .int 10), (0, .int s)]) (st2 := [.int 10]) (h2 := h) (dc2 := 0) (ds2 := 0) 14 rfl ?_
            refine wq_inl (y2 := 150) (as := [.int 10]) rfl rfl rfl (wq_T (show zT zg0 zF zP 150 0 [(0, .int 10)] [] h 0 0 (some (.int 831), h, 0, 0) from c_sin (10 : Int32) h) ?_)
            show wq 88 58 [(3, .int 5), (1, .int 10), (4, .int 9), (2, .int 10), (0, .int s)] [.int 831] h 0 0 _
            refine wq_gos (f := 1) (pc2 := 59) (ls2 := [(3, .int 5), (1, .int 10), (4, .int 9), (2, .int 10), (0, .int s)]) (st2 := [.int s, .int 831]) (h2 := h) (dc2 := 0) (ds2 := 0) 1 rfl ?_
            refine wq_ne2 rfl rfl (fun b55x => ?_) (fun b55x => ?_)
            · refine wq_gos (f := 1) (pc2 := 68) (ls2 := [(3, .int 5), (1, .int 10), (4, .int 9), (2, .int 10), (0, .int s)]) (st2 := [.int 99]) (h2 := h) (dc2 := 0) (ds2 := 0) 1 rfl ?_
              refine wq_ret rfl rfl ?_
              show (some (Value.int (99 : Int32)), h, 0, 0) = (some (Value.int (jang s)), h, 0, 0)
              rw [show jang s = (99 : Int32) by unfold jang; rw [if_neg (Int.not_le.mpr b1x), if_neg (Int.not_le.mpr b35x), if_pos b51x, if_pos b52x, if_neg (Int.not_le.mpr b53x), if_pos b55x]]
            · refine wq_gos (f := 1) (pc2 := 68) (ls2 := [(3, .int 5), (1, .int 10), (4, .int 9), (2, .int 10), (0, .int s)]) (st2 := [.int 10]) (h2 := h) (dc2 := 0) (ds2 := 0) 2 rfl ?_
              refine wq_ret rfl rfl ?_
              show (some (Value.int (10 : Int32)), h, 0, 0) = (some (Value.int (jang s)), h, 0, 0)
              rw [show jang s = (10 : Int32) by unfold jang; rw [if_neg (Int.not_le.mpr b1x), if_neg (Int.not_le.mpr b35x), if_pos b51x, if_pos b52x, if_neg (Int.not_le.mpr b53x), if_neg (fun q => q b55x)]]
        · refine wq_gos (f := 1) (pc2 := 23) (ls2 := [(3, .int 4), (1, .int 11), (4, .int 10), (2, .int 12), (0, .int s)]) (st2 := [.int 2, .int 23]) (h2 := h) (dc2 := 0) (ds2 := 0) 17 rfl ?_
          refine wq_inl (y2 := 282) (as := [.int 23, .int 2]) rfl rfl rfl ?_
          show wq 282 0 [(0, .int 23), (1, .int 2)] [] h 0 0 _
          refine wq_gos (f := 1) (pc2 := 22) (ls2 := [(2, .int 11), (0, .int 23), (1, .int 2)]) (st2 := [.int 11]) (h2 := h) (dc2 := 0) (ds2 := 0) 9 rfl ?_
          refine wq_ret rfl rfl ?_
          show wq 88 26 [(3, .int 4), (1, .int 11), (4, .int 10), (2, .int 12), (0, .int s)] [.int 11] h 0 0 _
          refine wq_gos (f := 1) (pc2 := 30) (ls2 := [(4, .int 11), (3, .int 4), (1, .int 11), (2, .int 12), (0, .int s)]) (st2 := [.int 11]) (h2 := h) (dc2 := 0) (ds2 := 0) 2 rfl ?_
          refine wq_inl (y2 := 150) (as := [.int 11]) rfl rfl rfl (wq_T (show zT zg0 zF zP 150 0 [(0, .int 11)] [] h 0 0 (some (.int 882), h, 0, 0) from c_sin (11 : Int32) h) ?_)
          show wq 88 33 [(4, .int 11), (3, .int 4), (1, .int 11), (2, .int 12), (0, .int s)] [.int 882] h 0 0 _
          refine wq_gos (f := 1) (pc2 := 34) (ls2 := [(4, .int 11), (3, .int 4), (1, .int 11), (2, .int 12), (0, .int s)]) (st2 := [.int s, .int 882]) (h2 := h) (dc2 := 0) (ds2 := 0) 1 rfl ?_
          refine wq_ge2 rfl rfl (fun b56x => ?_) (fun b56x => ?_)
          · refine wq_gos (f := 1) (pc2 := 55) (ls2 := [(3, .int 5), (2, .int 11), (4, .int 11), (1, .int 11), (0, .int s)]) (st2 := [.int 11]) (h2 := h) (dc2 := 0) (ds2 := 0) 11 rfl ?_
            refine wq_inl (y2 := 150) (as := [.int 11]) rfl rfl rfl (wq_T (show zT zg0 zF zP 150 0 [(0, .int 11)] [] h 0 0 (some (.int 882), h, 0, 0) from c_sin (11 : Int32) h) ?_)
            show wq 88 58 [(3, .int 5), (2, .int 11), (4, .int 11), (1, .int 11), (0, .int s)] [.int 882] h 0 0 _
            refine wq_gos (f := 1) (pc2 := 59) (ls2 := [(3, .int 5), (2, .int 11), (4, .int 11), (1, .int 11), (0, .int s)]) (st2 := [.int s, .int 882]) (h2 := h) (dc2 := 0) (ds2 := 0) 1 rfl ?_
            refine wq_ne2 rfl rfl (fun b57x => ?_) (fun b57x => ?_)
            · refine wq_gos (f := 1) (pc2 := 68) (ls2 := [(3, .int 5), (2, .int 11), (4, .int 11), (1, .int 11), (0, .int s)]) (st2 := [.int 99]) (h2 := h) (dc2 := 0) (ds2 := 0) 1 rfl ?_
              refine wq_ret rfl rfl ?_
              show (some (Value.int (99 : Int32)), h, 0, 0) = (some (Value.int (jang s)), h, 0, 0)
              rw [show jang s = (99 : Int32) by unfold jang; rw [if_neg (Int.not_le.mpr b1x), if_neg (Int.not_le.mpr b35x), if_pos b51x, if_neg (Int.not_le.mpr b52x), if_pos b56x, if_pos b57x]]
            · refine wq_gos (f := 1) (pc2 := 68) (ls2 := [(3, .int 5), (2, .int 11), (4, .int 11), (1, .int 11), (0, .int s)]) (st2 := [.int 11]) (h2 := h) (dc2 := 0) (ds2 := 0) 2 rfl ?_
              refine wq_ret rfl rfl ?_
              show (some (Value.int (11 : Int32)), h, 0, 0) = (some (Value.int (jang s)), h, 0, 0)
              rw [show jang s = (11 : Int32) by unfold jang; rw [if_neg (Int.not_le.mpr b1x), if_neg (Int.not_le.mpr b35x), if_pos b51x, if_neg (Int.not_le.mpr b52x), if_pos b56x, if_neg (fun q => q b57x)]]
          · refine wq_gos (f := 1) (pc2 := 55) (ls2 := [(3, .int 5), (1, .int 12), (4, .int 11), (2, .int 12), (0, .int s)]) (st2 := [.int 12]) (h2 := h) (dc2 := 0) (ds2 := 0) 14 rfl ?_
            refine wq_inl (y2 := 150) (as := [.int 12]) rfl rfl rfl (wq_T (show zT zg0 zF zP 150 0 [(0, .int 12)] [] h 0 0 (some (.int 924), h, 0, 0) from c_sin (12 : Int32) h) ?_)
            show wq 88 58 [(3, .int 5), (1, .int 12), (4, .int 11), (2, .int 12), (0, .int s)] [.int 924] h 0 0 _
            refine wq_gos (f := 1) (pc2 := 59) (ls2 := [(3, .int 5), (1, .int 12), (4, .int 11), (2, .int 12), (0, .int s)]) (st2 := [.int s, .int 924]) (h2 := h) (dc2 := 0) (ds2 := 0) 1 rfl ?_
            refine wq_ne2 rfl rfl (fun b58x => ?_) (fun b58x => ?_)
            · refine wq_gos (f := 1) (pc2 := 68) (ls2 := [(3, .int 5), (1, .int 12), (4, .int 11), (2, .int 12), (0, .int s)]) (st2 := [.int 99]) (h2 := h) (dc2 := 0) (ds2 := 0) 1 rfl ?_
              refine wq_ret rfl rfl ?_
              show (some (Value.int (99 : Int32)), h, 0, 0) = (some (Value.int (jang s)), h, 0, 0)
              rw [show jang s = (99 : Int32) by unfold jang; rw [if_neg (Int.not_le.mpr b1x), if_neg (Int.not_le.mpr b35x), if_pos b51x, if_neg (Int.not_le.mpr b52x), if_neg (Int.not_le.mpr b56x), if_pos b58x]]
            · refine wq_gos (f := 1) (pc2 := 68) (ls2 := [(3, .int 5), (1, .int 12), (4, .int 11), (2, .int 12), (0, .int s)]) (st2 := [.int 12]) (h2 := h) (dc2 := 0) (ds2 := 0) 2 rfl ?_
              refine wq_ret rfl rfl ?_
              show (some (Value.int (12 : Int32)), h, 0, 0) = (some (Value.int (jang s)), h, 0, 0)
              rw [show jang s = (12 : Int32) by unfold jang; rw [if_neg (Int.not_le.mpr b1x), if_neg (Int.not_le.mpr b35x), if_pos b51x, if_neg (Int.not_le.mpr b52x), if_neg (Int.not_le.mpr b56x), if_neg (fun q => q b58x)]]
      · refine wq_gos (f := 1) (pc2 := 23) (ls2 := [(3, .int 3), (1, .int 13), (4, .int 12), (2, .int 16), (0, .int s)]) (st2 := [.int 2, .int 29]) (h2 := h) (dc2 := 0) (ds2 := 0) 17 rfl ?_
        refine wq_inl (y2 := 282) (as := [.int 29, .int 2]) rfl rfl rfl ?_
        show wq 282 0 [(0, .int 29), (1, .int 2)] [] h 0 0 _
        refine wq_gos (f := 1) (pc2 := 22) (ls2 := [(2, .int 14), (0, .int 29), (1, .int 2)]) (st2 := [.int 14]) (h2 := h) (dc2 := 0) (ds2 := 0) 9 rfl ?_
        refine wq_ret rfl rfl ?_
        show wq 88 26 [(3, .int 3), (1, .int 13), (4, .int 12), (2, .int 16), (0, .int s)] [.int 14] h 0 0 _
        refine wq_gos (f := 1) (pc2 := 30) (ls2 := [(4, .int 14), (3, .int 3), (1, .int 13), (2, .int 16), (0, .int s)]) (st2 := [.int 14]) (h2 := h) (dc2 := 0) (ds2 := 0) 2 rfl ?_
        refine wq_inl (y2 := 150) (as := [.int 14]) rfl rfl rfl (wq_T (show zT zg0 zF zP 150 0 [(0, .int 14)] [] h 0 0 (some (.int 981), h, 0, 0) from c_sin (14 : Int32) h) ?_)
        show wq 88 33 [(4, .int 14), (3, .int 3), (1, .int 13), (2, .int 16), (0, .int s)] [.int 981] h 0 0 _
        refine wq_gos (f := 1) (pc2 := 34) (ls2 := [(4, .int 14), (3, .int 3), (1, .int 13), (2, .int 16), (0, .int s)]) (st2 := [.int s, .int 981]) (h2 := h) (dc2 := 0) (ds2 := 0) 1 rfl ?_
        refine wq_ge2 rfl rfl (fun b59x => ?_) (fun b59x => ?_)
        · refine wq_gos (f := 1) (pc2 := 23) (ls2 := [(3, .int 4), (2, .int 14), (4, .int 14), (1, .int 13), (0, .int s)]) (st2 := [.int 2, .int 27]) (h2 := h) (dc2 := 0) (ds2 := 0) 14 rfl ?_
          refine wq_inl (y2 := 282) (as := [.int 27, .int 2]) rfl rfl rfl ?_
          show wq 282 0 [(0, .int 27), (1, .int 2)] [] h 0 0 _
          refine wq_gos (f := 1) (pc2 := 22) (ls2 := [(2, .int 13), (0, .int 27), (1, .int 2)]) (st2 := [.int 13]) (h2 := h) (dc2 := 0) (ds2 := 0) 9 rfl ?_
          refine wq_ret rfl rfl ?_
          show wq 88 26 [(3, .int 4), (2, .int 14), (4, .int 14), (1, .int 13), (0, .int s)] [.int 13] h 0 0 _
          refine wq_gos (f := 1) (pc2 := 30) (ls2 := [(4, .int 13), (3, .int 4), (2, .int 14), (1, .int 13), (0, .int s)]) (st2 := [.int 13]) (h2 := h) (dc2 := 0) (ds2 := 0) 2 rfl ?_
          refine wq_inl (y2 := 150) (as := [.int 13]) rfl rfl rfl (wq_T (show zT zg0 zF zP 150 0 [(0, .int 13)] [] h 0 0 (some (.int 957), h, 0, 0) from c_sin (13 : Int32) h) ?_)
          show wq 88 33 [(4, .int 13), (3, .int 4), (2, .int 14), (1, .int 13), (0, .int s)] [.int 957] h 0 0 _
          refine wq_gos (f := 1) (pc2 := 34) (ls2 := [(4, .int 13), (3, .int 4), (2, .int 14), (1, .int 13), (0, .int s)]) (st2 := [.int s, .int 957]) (h2 := h) (dc2 := 0) (ds2 := 0) 1 rfl ?_
          refine wq_ge2 rfl rfl (fun b60x => ?_) (fun b60x => ?_)
          · refine wq_gos (f := 1) (pc2 := 55) (ls2 := [(3, .int 5), (2, .int 13), (4, .int 13), (1, .int 13), (0, .int s)]) (st2 := [.int 13]) (h2 := h) (dc2 := 0) (ds2 := 0) 11 rfl ?_
            refine wq_inl (y2 := 150) (as := [.int 13]) rfl rfl rfl (wq_T (show zT zg0 zF zP 150 0 [(0, .int 13)] [] h 0 0 (some (.int 957), h, 0, 0) from c_sin (13 : Int32) h) ?_)
            show wq 88 58 [(3, .int 5), (2, .int 13), (4, .int 13), (1, .int 13), (0, .int s)] [.int 957] h 0 0 _
            refine wq_gos (f := 1) (pc2 := 59) (ls2 := [(3, .int 5), (2, .int 13), (4, .int 13), (1, .int 13), (0, .int s)]) (st2 := [.int s, .int 957]) (h2 := h) (dc2 := 0) (ds2 := 0) 1 rfl ?_
            refine wq_ne2 rfl rfl (fun b61x => ?_) (fun b61x => ?_)
            · refine wq_gos (f := 1) (pc2 := 68) (ls2 := [(3, .int 5), (2, .int 13), (4, .int 13), (1, .int 13), (0, .int s)]) (st2 := [.int 99]) (h2 := h) (dc2 := 0) (ds2 := 0) 1 rfl ?_
              refine wq_ret rfl rfl ?_
              show (some (Value.int (99 : Int32)), h, 0, 0) = (some (Value.int (jang s)), h, 0, 0)
              rw [show jang s = (99 : Int32) by unfold jang; rw [if_neg (Int.not_le.mpr b1x), if_neg (Int.not_le.mpr b35x), if_neg (Int.not_le.mpr b51x), if_pos b59x, if_pos b60x, if_pos b61x]]
            · refine wq_gos (f := 1) (pc2 := 68) (ls2 := [(3, .int 5), (2, .int 13), (4, .int 13), (1, .int 13), (0, .int s)]) (st2 := [.int 13]) (h2 := h) (dc2 := 0) (ds2 := 0) 2 rfl ?_
              refine wq_ret rfl rfl ?_
              show (some (Value.int (13 : Int32)), h, 0, 0) = (some (Value.int (jang s)), h, 0, 0)
              rw [show jang s = (13 : Int32) by unfold jang; rw [if_neg (Int.not_le.mpr b1x), if_neg (Int.not_le.mpr b35x), if_neg (Int.not_le.mpr b51x), if_pos b59x, if_pos b60x, if_neg (fun q => q b61x)]]
          · refine wq_gos (f := 1) (pc2 := 55) (ls2 := [(3, .int 5), (1, .int 14), (4, .int 13), (2, .int 14), (0, .int s)]) (st2 := [.int 14]) (h2 := h) (dc2 := 0) (ds2 := 0) 14 rfl ?_
            refine wq_inl (y2 := 150) (as := [.int 14]) rfl rfl rfl (wq_T (show zT zg0 zF zP 150 0 [(0, .int 14)] [] h 0 0 (some (.int 981), h, 0, 0) from c_sin (14 : Int32) h) ?_)
            show wq 88 58 [(3, .int 5), (1, .int 14), (4, .int 13), (2, .int 14), (0, .int s)] [.int 981] h 0 0 _
            refine wq_gos (f := 1) (pc2 := 59) (ls2 := [(3, .int 5), (1, .int 14), (4, .int 13), (2, .int 14), (0, .int s)]) (st2 := [.int s, .int 981]) (h2 := h) (dc2 := 0) (ds2 := 0) 1 rfl ?_
            refine wq_ne2 rfl rfl (fun b62x => ?_) (fun b62x => ?_)
            · refine wq_gos (f := 1) (pc2 := 68) (ls2 := [(3, .int 5), (1, .int 14), (4, .int 13), (2, .int 14), (0, .int s)]) (st2 := [.int 99]) (h2 := h) (dc2 := 0) (ds2 := 0) 1 rfl ?_
              refine wq_ret rfl rfl ?_
              show (some (Value.int (99 : Int32)), h, 0, 0) = (some (Value.int (jang s)), h, 0, 0)
              rw [show jang s = (99 : Int32) by unfold jang; rw [if_neg (Int.not_le.mpr b1x), if_neg (Int.not_le.mpr b35x), if_neg (Int.not_le.mpr b51x), if_pos b59x, if_neg (Int.not_le.mpr b60x), if_pos b62x]]
            · refine wq_gos (f := 1) (pc2 := 68) (ls2 := [(3, .int 5), (1, .int 14), (4, .int 13), (2, .int 14), (0, .int s)]) (st2 := [.int 14]) (h2 := h) (dc2 := 0) (ds2 := 0) 2 rfl ?_
              refine wq_ret rfl rfl ?_
              show (some (Value.int (14 : Int32)), h, 0, 0) = (some (Value.int (jang s)), h, 0, 0)
              rw [show jang s = (14 : Int32) by unfold jang; rw [if_neg (Int.not_le.mpr b1x), if_neg (Int.not_le.mpr b35x), if_neg (Int.not_le.mpr b51x), if_pos b59x, if_neg (Int.not_le.mpr b60x), if_neg (fun q => q b62x)]]
        · refine wq_gos (f := 1) (pc2 := 23) (ls2 := [(3, .int 4), (1, .int 15), (4, .int 14), (2, .int 16), (0, .int s)]) (st2 := [.int 2, .int 31]) (h2 := h) (dc2 := 0) (ds2 := 0) 17 rfl ?_
          refine wq_inl (y2 := 282) (as := [.int 31, .int 2]) rfl rfl rfl ?_
          show wq 282 0 [(0, .int 31), (1, .int 2)] [] h 0 0 _
          refine wq_gos (f := 1) (pc2 := 22) (ls2 := [(2, .int 15), (0, .int 31), (1, .int 2)]) (st2 := [.int 15]) (h2 := h) (dc2 := 0) (ds2 := 0) 9 rfl ?_
          refine wq_ret rfl rfl ?_
          show wq 88 26 [(3, .int 4), (1, .int 15), (4, .int 14), (2, .int 16), (0, .int s)] [.int 15] h 0 0 _
          refine wq_gos (f := 1) (pc2 := 30) (ls2 := [(4, .int 15), (3, .int 4), (1, .int 15), (2, .int 16), (0, .int s)]) (st2 := [.int 15]) (h2 := h) (dc2 := 0) (ds2 := 0) 2 rfl ?_
          refine wq_inl (y2 := 150) (as := [.int 15]) rfl rfl rfl (wq_T (show zT zg0 zF zP 150 0 [(0, .int 15)] [] h 0 0 (some (.int 995), h, 0, 0) from c_sin (15 : Int32) h) ?_)
          show wq 88 33 [(4, .int 15), (3, .int 4), (1, .int 15), (2, .int 16), (0, .int s)] [.int 995] h 0 0 _
          refine wq_gos (f := 1) (pc2 := 34) (ls2 := [(4, .int 15), (3, .int 4), (1, .int 15), (2, .int 16), (0, .int s)]) (st2 := [.int s, .int 995]) (h2 := h) (dc2 := 0) (ds2 := 0) 1 rfl ?_
          refine wq_ge2 rfl rfl (fun b63x => ?_) (fun b63x => ?_)
          · refine wq_gos (f := 1) (pc2 := 55) (ls2 := [(3, .int 5), (2, .int 15), (4, .int 15), (1, .int 15), (0, .int s)]) (st2 := [.int 15]) (h2 := h) (dc2 := 0) (ds2 := 0) 11 rfl ?_
            refine wq_inl (y2 := 150) (as := [.int 15]) rfl rfl rfl (wq_T (show zT zg0 zF zP 150 0 [(0, .int 15)] [] h 0 0 (some (.int 995), h, 0, 0) from c_sin (15 : Int32) h) ?_)
            show wq 88 58 [(3, .int 5), (2, .int 15), (4, .int 15), (1, .int 15), (0, .int s)] [.int 995] h 0 0 _
            refine wq_gos (f := 1) (pc2 := 59) (ls2 := [(3, .int 5), (2, .int 15), (4, .int 15), (1, .int 15), (0, .int s)]) (st2 := [.int s, .int 995]) (h2 := h) (dc2 := 0) (ds2 := 0) 1 rfl ?_
            refine wq_ne2 rfl rfl (fun b64x => ?_) (fun b64x => ?_)
            · refine wq_gos (f := 1) (pc2 := 68) (ls2 := [(3, .int 5), (2, .int 15), (4, .int 15), (1, .int 15), (0, .int s)]) (st2 := [.int 99]) (h2 := h) (dc2 := 0) (ds2 := 0) 1 rfl ?_
              refine wq_ret rfl rfl ?_
              show (some (Value.int (99 : Int32)), h, 0, 0) = (some (Value.int (jang s)), h, 0, 0)
              rw [show jang s = (99 : Int32) by unfold jang; rw [if_neg (Int.not_le.mpr b1x), if_neg (Int.not_le.mpr b35x), if_neg (Int.not_le.mpr b51x), if_neg (Int.not_le.mpr b59x), if_pos b63x, if_pos b64x]]
            · refine wq_gos (f := 1) (pc2 := 68) (ls2 := [(3, .int 5), (2, .int 15), (4, .int 15), (1, .int 15), (0, .int s)]) (st2 := [.int 15]) (h2 := h) (dc2 := 0) (ds2 := 0) 2 rfl ?_
              refine wq_ret rfl rfl ?_
              show (some (Value.int (15 : Int32)), h, 0, 0) = (some (Value.int (jang s)), h, 0, 0)
              rw [show jang s = (15 : Int32) by unfold jang; rw [if_neg (Int.not_le.mpr b1x), if_neg (Int.not_le.mpr b35x), if_neg (Int.not_le.mpr b51x), if_neg (Int.not_le.mpr b59x), if_pos b63x, if_neg (fun q => q b64x)]]
          · refine wq_gos (f := 1) (pc2 := 55) (ls2 := [(3, .int 5), (1, .int 16), (4, .int 15), (2, .int 16), (0, .int s)]) (st2 := [.int 16]) (h2 := h) (dc2 := 0) (ds2 := 0) 14 rfl ?_
            refine wq_inl (y2 := 150) (as := [.int 16]) rfl rfl rfl (wq_T (show zT zg0 zF zP 150 0 [(0, .int 16)] [] h 0 0 (some (.int 1000), h, 0, 0) from c_sin (16 : Int32) h) ?_)
            show wq 88 58 [(3, .int 5), (1, .int 16), (4, .int 15), (2, .int 16), (0, .int s)] [.int 1000] h 0 0 _
            refine wq_gos (f := 1) (pc2 := 59) (ls2 := [(3, .int 5), (1, .int 16), (4, .int 15), (2, .int 16), (0, .int s)]) (st2 := [.int s, .int 1000]) (h2 := h) (dc2 := 0) (ds2 := 0) 1 rfl ?_
            refine wq_ne2 rfl rfl (fun b65x => ?_) (fun b65x => ?_)
            · refine wq_gos (f := 1) (pc2 := 68) (ls2 := [(3, .int 5), (1, .int 16), (4, .int 15), (2, .int 16), (0, .int s)]) (st2 := [.int 99]) (h2 := h) (dc2 := 0) (ds2 := 0) 1 rfl ?_
              refine wq_ret rfl rfl ?_
              show (some (Value.int (99 : Int32)), h, 0, 0) = (some (Value.int (jang s)), h, 0, 0)
              rw [show jang s = (99 : Int32) by unfold jang; rw [if_neg (Int.not_le.mpr b1x), if_neg (Int.not_le.mpr b35x), if_neg (Int.not_le.mpr b51x), if_neg (Int.not_le.mpr b59x), if_neg (Int.not_le.mpr b63x), if_pos b65x]]
            · refine wq_gos (f := 1) (pc2 := 68) (ls2 := [(3, .int 5), (1, .int 16), (4, .int 15), (2, .int 16), (0, .int s)]) (st2 := [.int 16]) (h2 := h) (dc2 := 0) (ds2 := 0) 2 rfl ?_
              refine wq_ret rfl rfl ?_
              show (some (Value.int (16 : Int32)), h, 0, 0) = (some (Value.int (jang s)), h, 0, 0)
              rw [show jang s = (16 : Int32) by unfold jang; rw [if_neg (Int.not_le.mpr b1x), if_neg (Int.not_le.mpr b35x), if_neg (Int.not_le.mpr b51x), if_neg (Int.not_le.mpr b59x), if_neg (Int.not_le.mpr b63x), if_neg (fun q => q b65x)]]
