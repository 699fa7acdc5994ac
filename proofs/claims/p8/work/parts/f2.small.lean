/-! The class: calls that look at NOW, spots, limits. -/
theorem tk_rng {sv : List Int32} (hs : wSpd sv) (a b : Int64) (bd : Int32) : ∀ (m : Nat) (mo : Int32) (k : Nat), 0 ≤ mo.toInt ∧ mo.toInt ≤ 300 → k ≤ 6 → 0 ≤ (tkF sv a b bd m mo k).toInt ∧ (tkF sv a b bd m mo k).toInt ≤ 300 := by
  intro m
  induction m with
  | zero => intro mo k _ _; show 0 ≤ (0 : Int32).toInt ∧ (0 : Int32).toInt ≤ 300; exact ⟨by decide, by decide⟩
  | succ m ih =>
    intro mo k h hk
    have w0 := jwa_rng a b ((40 : Int32) - ((8 : Int32) * (nI k)))
    generalize hw : jwa a b ((40 : Int32) - ((8 : Int32) * (nI k))) = w at w0
    have e : tkF sv a b bd (m + 1) mo k = (if (6 : Int32).toInt ≤ (nI k).toInt then mo else (if bd.toInt ≤ mo.toInt then mo else (if (sv.getD k 0).toInt ≤ 0 then tkF sv a b bd m mo (k + 1) else (if w.toInt ≤ (mo * (sv.getD k 0)).toInt then tkF sv a b bd m mo (k + 1) else tkF sv a b bd m (((w + (sv.getD k 0)) - (1 : Int32)) / (sv.getD k 0)) (k + 1))))) := by rw [← hw]; rfl
    rw [e]
    have q6 : (6 : Int32).toInt = 6 := rfl
    by_cases h1 : (6 : Int32).toInt ≤ (nI k).toInt
    · rw [if_pos h1]; exact h
    · rw [if_neg h1]
      rw [q6, nI_toInt (by omega)] at h1
      by_cases h2 : bd.toInt ≤ mo.toInt
      · rw [if_pos h2]; exact h
      · rw [if_neg h2]
        by_cases h3 : (sv.getD k 0).toInt ≤ 0
        · rw [if_pos h3]; exact ih mo (k + 1) h (by omega)
        · rw [if_neg h3]
          by_cases h4 : w.toInt ≤ (mo * (sv.getD k 0)).toInt
          · rw [if_pos h4]; exact ih mo (k + 1) h (by omega)
          · rw [if_neg h4]
            have s0 := hs k (by omega)
            generalize sv.getD k 0 = s at h3 s0
            have q1 : (1 : Int32).toInt = 1 := rfl
            have a1 : (w + s).toInt = w.toInt + s.toInt := e_add (by omega) (by omega)
            have a2 : (w + s - (1 : Int32)).toInt = (w + s).toInt - (1 : Int32).toInt := e_sub (by omega) (by omega)
            refine ih _ (k + 1) ?_ (by omega)
            generalize w + s - (1 : Int32) = x at a2
            have d0 : x.toInt.tdiv s.toInt = x.toInt / s.toInt := Int.tdiv_eq_ediv_of_nonneg (by omega)
            have d1 : 0 ≤ x.toInt / s.toInt := Int.ediv_nonneg (by omega) (by omega)
            have d2 : x.toInt / s.toInt ≤ x.toInt := Int.ediv_le_self _ (by omega)
            rw [Int32.toInt_div, d0, Int.bmod_eq_of_le (by omega) (by omega)]
            omega
noncomputable def jAlo (a b : Int64) (n m : Int32) : Int64 := (jput (jput (jput (jput (jput (jput (0 : Int64) (-280375465082881) 40 (jNal a b (0 : Int32) n m)) (-1095216660481) 32 (jNal a b (1 : Int32) n m)) (-4278190081) 24 (jNal a b (2 : Int32) n m)) (-16711681) 16 (jNal a b (3 : Int32) n m)) (-65281) 8 (jNal a b (4 : Int32) n m)) (-256) 0 (jNal a b (5 : Int32) n m))
set_option maxRecDepth 100000 in
set_option maxHeartbeats 4000000 in
theorem c_alo {h : zH} {a b : Int64} {n m : Int32}   : wq 41 0 [(0, .long a), (2, .long b), (4, .int n), (5, .int m)] [] h 0 0 (fun rr9 => rr9 = (some (.long (jAlo a b n m)), h, 0, 0)) := by
  refine wq_gos (f := 1) (pc2 := 25) (ls2 := [(8, .int 0), (6, .long 0), (0, .long a), (2, .long b), (4, .int n), (5, .int m)]) (st2 := [.int m, .int n, .int 0, .long b, .long a, .int 0, .long 0]) (h2 := h) (dc2 := 0) (ds2 := 0) 14 rfl ?_
  have q1x : (0 : Int32).toInt = 0 := rfl
  refine wq_inl (y2 := 40) (as := [.long a, .long b, .int 0, .int n, .int m]) rfl rfl rfl (wq_mono c_nal ?_)
  rintro _ rfl
  show wq 41 28 [(8, .int 0), (6, .long 0), (0, .long a), (2, .long b), (4, .int n), (5, .int m)] [.int (jNal a b (0 : Int32) n m), .int 0, .long 0] h 0 0 _
  refine wq_inl (y2 := 34) (as := [.long 0, .int 0, .int (jNal a b (0 : Int32) n m)]) rfl rfl rfl (wq_T (c_with0 (0 : Int64) (jNal a b (0 : Int32) n m) h) ?_)
  show wq 41 31 [(8, .int 0), (6, .long 0), (0, .long a), (2, .long b), (4, .int n), (5, .int m)] [.long (jput (0 : Int64) (-280375465082881) 40 (jNal a b (0 : Int32) n m))] h 0 0 _
  refine wq_gos (f := 1) (pc2 := 25) (ls2 := [(8, .int 1), (6, .long (jput (0 : Int64) (-280375465082881) 40 (jNal a b (0 : Int32) n m))), (0, .long a), (2, .long b), (4, .int n), (5, .int m)]) (st2 := [.int m, .int n, .int 1, .long b, .long a, .int 1, .long (jput (0 : Int64) (-280375465082881) 40 (jNal a b (0 : Int32) n m))]) (h2 := h) (dc2 := 0) (ds2 := 0) 13 rfl ?_
  have q3x : (1 : Int32).toInt = 1 := rfl
  refine wq_inl (y2 := 40) (as := [.long a, .long b, .int 1, .int n, .int m]) rfl rfl rfl (wq_mono c_nal ?_)
  rintro _ rfl
  show wq 41 28 [(8, .int 1), (6, .long (jput (0 : Int64) (-280375465082881) 40 (jNal a b (0 : Int32) n m))), (0, .long a), (2, .long b), (4, .int n), (5, .int m)] [.int (jNal a b (1 : Int32) n m), .int 1, .long (jput (0 : Int64) (-280375465082881) 40 (jNal a b (0 : Int32) n m))] h 0 0 _
  refine wq_inl (y2 := 34) (as := [.long (jput (0 : Int64) (-280375465082881) 40 (jNal a b (0 : Int32) n m)), .int 1, .int (jNal a b (1 : Int32) n m)]) rfl rfl rfl (wq_T (c_with1 (jput (0 : Int64) (-280375465082881) 40 (jNal a b (0 : Int32) n m)) (jNal a b (1 : Int32) n m) h) ?_)
  show wq 41 31 [(8, .int 1), (6, .long (jput (0 : Int64) (-280375465082881) 40 (jNal a b (0 : Int32) n m))), (0, .long a), (2, .long b), (4, .int n), (5, .int m)] [.long (jput (jput (0 : Int64) (-280375465082881) 40 (jNal a b (0 : Int32) n m)) (-1095216660481) 32 (jNal a b (1 : Int32) n m))] h 0 0 _
  refine wq_gos (f := 1) (pc2 := 25) (ls2 := [(8, .int 2), (6, .long (jput (jput (0 : Int64) (-280375465082881) 40 (jNal a b (0 : Int32) n m)) (-1095216660481) 32 (jNal a b (1 : Int32) n m))), (0, .long a), (2, .long b), (4, .int n), (5, .int m)]) (st2 := [.int m, .int n, .int 2, .long b, .long a, .int 2, .long (jput (jput (0 : Int64) (-280375465082881) 40 (jNal a b (0 : Int32) n m)) (-1095216660481) 32 (jNal a b (1 : Int32) n m))]) (h2 := h) (dc2 := 0) (ds2 := 0) 13 rfl ?_
  have q5x : (2 : Int32).toInt = 2 := rfl
  refine wq_inl (y2 := 40) (as := [.long a, .long b, .int 2, .int n, .int m]) rfl rfl rfl (wq_mono c_nal ?_)
  rintro _ rfl
  show wq 41 28 [(8, .int 2), (6, .long (jput (jput (0 : Int64) (-280375465082881) 40 (jNal a b (0 : Int32) n m)) (-1095216660481) 32 (jNal a b (1 : Int32) n m))), (0, .long a), (2, .long b), (4, .int n), (5, .int m)] [.int (jNal a b (2 : Int32) n m), .int 2, .long (jput (jput (0 : Int64) (-280375465082881) 40 (jNal a b (0 : Int32) n m)) (-1095216660481) 32 (jNal a b (1 : Int32) n m))] h 0 0 _
  refine wq_inl (y2 := 34) (as := [.long (jput (jput (0 : Int64) (-280375465082881) 40 (jNal a b (0 : Int32) n m)) (-1095216660481) 32 (jNal a b (1 : Int32) n m)), .int 2, .int (jNal a b (2 : Int32) n m)]) rfl rfl rfl (wq_T (c_with2 (jput (jput (0 : Int64) (-280375465082881) 40 (jNal a b (0 : Int32) n m)) (-1095216660481) 32 (jNal a b (1 : Int32) n m)) (jNal a b (2 : Int32) n m) h) ?_)
  show wq 41 31 [(8, .int 2), (6, .long (jput (jput (0 : Int64) (-280375465082881) 40 (jNal a b (0 : Int32) n m)) (-1095216660481) 32 (jNal a b (1 : Int32) n m))), (0, .long a), (2, .long b), (4, .int n), (5, .int m)] [.long (jput (jput (jput (0 : Int64) (-280375465082881) 40 (jNal a b (0 : Int32) n m)) (-1095216660481) 32 (jNal a b (1 : Int32) n m)) (-4278190081) 24 (jNal a b (2 : Int32) n m))] h 0 0 _
  refine wq_gos (f := 1) (pc2 := 25) (ls2 := [(8, .int 3), (6, .long (jput (jput (jput (0 : Int64) (-280375465082881) 40 (jNal a b (0 : Int32) n m)) (-1095216660481) 32 (jNal a b (1 : Int32) n m)) (-4278190081) 24 (jNal a b (2 : Int32) n m))), (0, .long a), (2, .long b), (4, .int n), (5, .int m)]) (st2 := [.int m, .int n, .int 3, .long b, .long a, .int 3, .long (jput (jput (jput (0 : Int64) (-280375465082881) 40 (jNal a b (0 : Int32) n m)) (-1095216660481) 32 (jNal a b (1 : Int32) n m)) (-4278190081) 24 (jNal a b (2 : Int32) n m))]) (h2 := h) (dc2 := 0) (ds2 := 0) 13 rfl ?_
  have q7x : (3 : Int32).toInt = 3 := rfl
  refine wq_inl (y2 := 40) (as := [.long a, .long b, .int 3, .int n, .int m]) rfl rfl rfl (wq_mono c_nal ?_)
  rintro _ rfl
  show wq 41 28 [(8, .int 3), (6, .long (jput (jput (jput (0 : Int64) (-280375465082881) 40 (jNal a b (0 : Int32) n m)) (-1095216660481) 32 (jNal a b (1 : Int32) n m)) (-4278190081) 24 (jNal a b (2 : Int32) n m))), (0, .long a), (2, .long b), (4, .int n), (5, .int m)] [.int (jNal a b (3 : Int32) n m), .int 3, .long (jput (jput (jput (0 : Int64) (-280375465082881) 40 (jNal a b (0 : Int32) n m)) (-1095216660481) 32 (jNal a b (1 : Int32) n m)) (-4278190081) 24 (jNal a b (2 : Int32) n m))] h 0 0 _
  refine wq_inl (y2 := 34) (as := [.long (jput (jput (jput (0 : Int64) (-280375465082881) 40 (jNal a b (0 : Int32) n m)) (-1095216660481) 32 (jNal a b (1 : Int32) n m)) (-4278190081) 24 (jNal a b (2 : Int32) n m)), .int 3, .int (jNal a b (3 : Int32) n m)]) rfl rfl rfl (wq_T (c_with3 (jput (jput (jput (0 : Int64) (-280375465082881) 40 (jNal a b (0 : Int32) n m)) (-1095216660481) 32 (jNal a b (1 : Int32) n m)) (-4278190081) 24 (jNal a b (2 : Int32) n m)) (jNal a b (3 : Int32) n m) h) ?_)
  show wq 41 31 [(8, .int 3), (6, .long (jput (jput (jput (0 : Int64) (-280375465082881) 40 (jNal a b (0 : Int32) n m)) (-1095216660481) 32 (jNal a b (1 : Int32) n m)) (-4278190081) 24 (jNal a b (2 : Int32) n m))), (0, .long a), (2, .long b), (4, .int n), (5, .int m)] [.long (jput (jput (jput (jput (0 : Int64) (-280375465082881) 40 (jNal a b (0 : Int32) n m)) (-1095216660481) 32 (jNal a b (1 : Int32) n m)) (-4278190081) 24 (jNal a b (2 : Int32) n m)) (-16711681) 16 (jNal a b (3 : Int32) n m))] h 0 0 _
  refine wq_gos (f := 1) (pc2 := 25) (ls2 := [(8, .int 4), (6, .long (jput (jput (jput (jput (0 : Int64) (-280375465082881) 40 (jNal a b (0 : Int32) n m)) (-1095216660481) 32 (jNal a b (1 : Int32) n m)) (-4278190081) 24 (jNal a b (2 : Int32) n m)) (-16711681) 16 (jNal a b (3 : Int32) n m))), (0, .long a), (2, .long b), (4, .int n), (5, .int m)]) (st2 := [.int m, .int n, .int 4, .long b, .long a, .int 4, .long (jput (jput (jput (jput (0 : Int64) (-280375465082881) 40 (jNal a b (0 : Int32) n m)) (-1095216660481) 32 (jNal a b (1 : Int32) n m)) (-4278190081) 24 (jNal a b (2 : Int32) n m)) (-16711681) 16 (jNal a b (3 : Int32) n m))]) (h2 := h) (dc2 := 0) (ds2 := 0) 13 rfl ?_
  have q9x : (4 : Int32).toInt = 4 := rfl
  refine wq_inl (y2 := 40) (as := [.long a, .long b, .int 4, .int n, .int m]) rfl rfl rfl (wq_mono c_nal ?_)
  rintro _ rfl
  show wq 41 28 [(8, .int 4), (6, .long (jput (jput (jput (jput (0 : Int64) (-280375465082881) 40 (jNal a b (0 : Int32) n m)) (-1095216660481) 32 (jNal a b (1 : Int32) n m)) (-4278190081) 24 (jNal a b (2 : Int32) n m)) (-16711681) 16 (jNal a b (3 : Int32) n m))), (0, .long a), (2, .long b), (4, .int n), (5, .int m)] [.int (jNal a b (4 : Int32) n m), .int 4, .long (jput (jput (jput (jput (0 : Int64) (-280375465082881) 40 (jNal a b (0 : Int32) n m)) (-1095216660481) 32 (jNal a b (1 : Int32) n m)) (-4278190081) 24 (jNal a b (2 : Int32) n m)) (-16711681) 16 (jNal a b (3 : Int32) n m))] h 0 0 _
  refine wq_inl (y2 := 34) (as := [.long (jput (jput (jput (jput (0 : Int64) (-280375465082881) 40 (jNal a b (0 : Int32) n m)) (-1095216660481) 32 (jNal a b (1 : Int32) n m)) (-4278190081) 24 (jNal a b (2 : Int32) n m)) (-16711681) 16 (jNal a b (3 : Int32) n m)), .int 4, .int (jNal a b (4 : Int32) n m)]) rfl rfl rfl (wq_T (c_with4 (jput (jput (jput (jput (0 : Int64) (-280375465082881) 40 (jNal a b (0 : Int32) n m)) (-1095216660481) 32 (jNal a b (1 : Int32) n m)) (-4278190081) 24 (jNal a b (2 : Int32) n m)) (-16711681) 16 (jNal a b (3 : Int32) n m)) (jNal a b (4 : Int32) n m) h) ?_)
  show wq 41 31 [(8, .int 4), (6, .long (jput (jput (jput (jput (0 : Int64) (-280375465082881) 40 (jNal a b (0 : Int32) n m)) (-1095216660481) 32 (jNal a b (1 : Int32) n m)) (-4278190081) 24 (jNal a b (2 : Int32) n m)) (-16711681) 16 (jNal a b (3 : Int32) n m))), (0, .long a), (2, .long b), (4, .int n), (5, .int m)] [.long (jput (jput (jput (jput (jput (0 : Int64) (-280375465082881) 40 (jNal a b (0 : Int32) n m)) (-1095216660481) 32 (jNal a b (1 : Int32) n m)) (-4278190081) 24 (jNal a b (2 : Int32) n m)) (-16711681) 16 (jNal a b (3 : Int32) n m)) (-65281) 8 (jNal a b (4 : Int32) n m))] h 0 0 _
  refine wq_gos (f := 1) (pc2 := 25) (ls2 := [(8, .int 5), (6, .long (jput (jput (jput (jput (jput (0 : Int64) (-280375465082881) 40 (jNal a b (0 : Int32) n m)) (-1095216660481) 32 (jNal a b (1 : Int32) n m)) (-4278190081) 24 (jNal a b (2 : Int32) n m)) (-16711681) 16 (jNal a b (3 : Int32) n m)) (-65281) 8 (jNal a b (4 : Int32) n m))), (0, .long a), (2, .long b), (4, .int n), (5, .int m)]) (st2 := [.int m, .int n, .int 5, .long b, .long a, .int 5, .long (jput (jput (jput (jput (jput (0 : Int64) (-280375465082881) 40 (jNal a b (0 : Int32) n m)) (-1095216660481) 32 (jNal a b (1 : Int32) n m)) (-4278190081) 24 (jNal a b (2 : Int32) n m)) (-16711681) 16 (jNal a b (3 : Int32) n m)) (-65281) 8 (jNal a b (4 : Int32) n m))]) (h2 := h) (dc2 := 0) (ds2 := 0) 13 rfl ?_
  have q11x : (5 : Int32).toInt = 5 := rfl
  refine wq_inl (y2 := 40) (as := [.long a, .long b, .int 5, .int n, .int m]) rfl rfl rfl (wq_mono c_nal ?_)
  rintro _ rfl
  show wq 41 28 [(8, .int 5), (6, .long (jput (jput (jput (jput (jput (0 : Int64) (-280375465082881) 40 (jNal a b (0 : Int32) n m)) (-1095216660481) 32 (jNal a b (1 : Int32) n m)) (-4278190081) 24 (jNal a b (2 : Int32) n m)) (-16711681) 16 (jNal a b (3 : Int32) n m)) (-65281) 8 (jNal a b (4 : Int32) n m))), (0, .long a), (2, .long b), (4, .int n), (5, .int m)] [.int (jNal a b (5 : Int32) n m), .int 5, .long (jput (jput (jput (jput (jput (0 : Int64) (-280375465082881) 40 (jNal a b (0 : Int32) n m)) (-1095216660481) 32 (jNal a b (1 : Int32) n m)) (-4278190081) 24 (jNal a b (2 : Int32) n m)) (-16711681) 16 (jNal a b (3 : Int32) n m)) (-65281) 8 (jNal a b (4 : Int32) n m))] h 0 0 _
  refine wq_inl (y2 := 34) (as := [.long (jput (jput (jput (jput (jput (0 : Int64) (-280375465082881) 40 (jNal a b (0 : Int32) n m)) (-1095216660481) 32 (jNal a b (1 : Int32) n m)) (-4278190081) 24 (jNal a b (2 : Int32) n m)) (-16711681) 16 (jNal a b (3 : Int32) n m)) (-65281) 8 (jNal a b (4 : Int32) n m)), .int 5, .int (jNal a b (5 : Int32) n m)]) rfl rfl rfl (wq_T (c_with5 (jput (jput (jput (jput (jput (0 : Int64) (-280375465082881) 40 (jNal a b (0 : Int32) n m)) (-1095216660481) 32 (jNal a b (1 : Int32) n m)) (-4278190081) 24 (jNal a b (2 : Int32) n m)) (-16711681) 16 (jNal a b (3 : Int32) n m)) (-65281) 8 (jNal a b (4 : Int32) n m)) (jNal a b (5 : Int32) n m) h) ?_)
  show wq 41 31 [(8, .int 5), (6, .long (jput (jput (jput (jput (jput (0 : Int64) (-280375465082881) 40 (jNal a b (0 : Int32) n m)) (-1095216660481) 32 (jNal a b (1 : Int32) n m)) (-4278190081) 24 (jNal a b (2 : Int32) n m)) (-16711681) 16 (jNal a b (3 : Int32) n m)) (-65281) 8 (jNal a b (4 : Int32) n m))), (0, .long a), (2, .long b), (4, .int n), (5, .int m)] [.long (jput (jput (jput (jput (jput (jput (0 : Int64) (-280375465082881) 40 (jNal a b (0 : Int32) n m)) (-1095216660481) 32 (jNal a b (1 : Int32) n m)) (-4278190081) 24 (jNal a b (2 : Int32) n m)) (-16711681) 16 (jNal a b (3 : Int32) n m)) (-65281) 8 (jNal a b (4 : Int32) n m)) (-256) 0 (jNal a b (5 : Int32) n m))] h 0 0 _
  refine wq_gos (f := 1) (pc2 := 41) (ls2 := [(8, .int 6), (6, .long (jput (jput (jput (jput (jput (jput (0 : Int64) (-280375465082881) 40 (jNal a b (0 : Int32) n m)) (-1095216660481) 32 (jNal a b (1 : Int32) n m)) (-4278190081) 24 (jNal a b (2 : Int32) n m)) (-16711681) 16 (jNal a b (3 : Int32) n m)) (-65281) 8 (jNal a b (4 : Int32) n m)) (-256) 0 (jNal a b (5 : Int32) n m))), (0, .long a), (2, .long b), (4, .int n), (5, .int m)]) (st2 := [.long (jput (jput (jput (jput (jput (jput (0 : Int64) (-280375465082881) 40 (jNal a b (0 : Int32) n m)) (-1095216660481) 32 (jNal a b (1 : Int32) n m)) (-4278190081) 24 (jNal a b (2 : Int32) n m)) (-16711681) 16 (jNal a b (3 : Int32) n m)) (-65281) 8 (jNal a b (4 : Int32) n m)) (-256) 0 (jNal a b (5 : Int32) n m))]) (h2 := h) (dc2 := 0) (ds2 := 0) 7 rfl ?_
  have w13x : (jAlo a b n m) = (jput (jput (jput (jput (jput (jput (0 : Int64) (-280375465082881) 40 (jNal a b (0 : Int32) n m)) (-1095216660481) 32 (jNal a b (1 : Int32) n m)) (-4278190081) 24 (jNal a b (2 : Int32) n m)) (-16711681) 16 (jNal a b (3 : Int32) n m)) (-65281) 8 (jNal a b (4 : Int32) n m)) (-256) 0 (jNal a b (5 : Int32) n m)) := by unfold jAlo; rfl
  rw [w13x]
  exact wq_ret rfl rfl rfl
noncomputable def cSpot (sp : Nat) (po : List Int64) (s j : Int32) : Int32 := (if s.toInt < 0 then 0 else (if s.toInt < (nI sp).toInt then (if j.toInt < 0 then 0 else (if j.toInt < (6 : Int32).toInt then (jnumv (po.getD (s).toNatClampNeg 0) j) else 0)) else 0))
set_option maxRecDepth 100000 in
set_option maxHeartbeats 4000000 in
theorem c_spot {h : zH} {t ra rd : Nat} {ps ip : Int64} {im : Int32} {sp so : Nat} {lk hd ht bl sd : Int32} {rt : Int64} {po : List Int64} {s j : Int32} (hX : zat h 0 = some (.inr (.inr (.inr (9, [.ref 2, .int (nI t), .ref 4, .ref ra, .ref rd, .long ps, .ref 34, .ref 36, .int im, .long ip, .ref 42, .ref 44, .ref 60, .ref 66, .ref 72, .ref 74, .ref 150, .ref 158]))))) (hA : zat h ra = some (.inr (.inr (.inr (0, [.int lk, .int hd, .int ht, .int bl, .int sd, .long rt, .ref (ra + 2), .ref (ra + 4), .ref (ra + 6), .int (nI sp), .ref (ra + 8), .ref (ra + 10), .int (nI so), .ref (ra + 12)]))))) (hQ : zat h (ra + 10) = some (.inr (.inl (8, po)))) (hra : ra = 6 ∨ ra = 20) (hsp : sp ≤ 8) : wq 106 0 [(0, .ref 0), (1, .int s), (2, .int j)] [] h 0 0 (fun rr9 => rr9 = (some (.int (cSpot sp po s j)), h, 0, 0)) := by
  have qnsp := nI_toInt (n := sp) (by omega)
  have z0 : (0 : Int32).toInt = 0 := rfl
  have z1 : (1 : Int32).toInt = 1 := rfl
  have z5 : (5 : Int32).toInt = 5 := rfl
  have z6 : (6 : Int32).toInt = 6 := rfl
  refine wq_gos (f := 1) (pc2 := 2) (ls2 := [(0, .ref 0), (1, .int s), (2, .int j)]) (st2 := [.int s, .ref 0]) (h2 := h) (dc2 := 0) (ds2 := 0) 2 rfl ?_
  refine wq_inlv (y2 := 145) (as := [.int s]) rfl rfl rfl hX rfl ?_
  show wq 145 0 [(0, .ref 0), (1, .int s)] [] h 0 0 _
  refine wq_gos (f := 1) (pc2 := 1) (ls2 := [(0, .ref 0), (1, .int s)]) (st2 := [.int s]) (h2 := h) (dc2 := 0) (ds2 := 0) 1 rfl ?_
  refine wq_lt0 rfl rfl (fun b1x => ?_) (fun b1x => ?_)
  · refine wq_gos (f := 1) (pc2 := 20) (ls2 := [(0, .ref 0), (1, .int s)]) (st2 := [.int 1]) (h2 := h) (dc2 := 0) (ds2 := 0) 2 rfl ?_
    refine wq_ret rfl rfl ?_
    show wq 106 5 [(0, .ref 0), (1, .int s), (2, .int j)] [.int 1] h 0 0 _
    refine wq_gos (f := 1) (pc2 := 32) (ls2 := [(0, .ref 0), (1, .int s), (2, .int j)]) (st2 := [.int 0]) (h2 := h) (dc2 := 0) (ds2 := 0) 3 rfl ?_
    have w2x : (cSpot sp po s j) = (0 : Int32) := by unfold cSpot; rw [if_pos b1x]
    rw [w2x]
    exact wq_ret rfl rfl rfl
  · refine wq_gos (f := 1) (pc2 := 6) (ls2 := [(0, .ref 0), (1, .int s)]) (st2 := [.ref 0, .int s]) (h2 := h) (dc2 := 0) (ds2 := 0) 2 rfl ?_
    refine wq_getf rfl hX rfl rfl ?_
    refine wq_getf rfl hA rfl rfl ?_
    try have q3x := nI_toInt (n := sp) (by omega)
    refine wq_lt2 rfl rfl (fun b4x => ?_) (fun b4x => ?_)
    · refine wq_gos (f := 1) (pc2 := 20) (ls2 := [(0, .ref 0), (1, .int s)]) (st2 := [.int 0]) (h2 := h) (dc2 := 0) (ds2 := 0) 1 rfl ?_
      refine wq_ret rfl rfl ?_
      show wq 106 5 [(0, .ref 0), (1, .int s), (2, .int j)] [.int 0] h 0 0 _
      refine wq_gos (f := 1) (pc2 := 9) (ls2 := [(0, .ref 0), (1, .int s), (2, .int j)]) (st2 := [.int j]) (h2 := h) (dc2 := 0) (ds2 := 0) 2 rfl ?_
      refine wq_inl (y2 := 144) (as := [.int j]) rfl rfl rfl ?_
      show wq 144 0 [(0, .int j)] [] h 0 0 _
      refine wq_gos (f := 1) (pc2 := 1) (ls2 := [(0, .int j)]) (st2 := [.int j]) (h2 := h) (dc2 := 0) (ds2 := 0) 1 rfl ?_
      refine wq_lt0 rfl rfl (fun b5x => ?_) (fun b5x => ?_)
      · refine wq_gos (f := 1) (pc2 := 15) (ls2 := [(0, .int j)]) (st2 := [.int 1]) (h2 := h) (dc2 := 0) (ds2 := 0) 2 rfl ?_
        refine wq_ret rfl rfl ?_
        show wq 106 12 [(0, .ref 0), (1, .int s), (2, .int j)] [.int 1] h 0 0 _
        refine wq_gos (f := 1) (pc2 := 32) (ls2 := [(0, .ref 0), (1, .int s), (2, .int j)]) (st2 := [.int 0]) (h2 := h) (dc2 := 0) (ds2 := 0) 3 rfl ?_
        have w6x : (cSpot sp po s j) = (0 : Int32) := by unfold cSpot; rw [if_neg (Int.not_lt.mpr b1x), if_pos b4x, if_pos b5x]
        rw [w6x]
        exact wq_ret rfl rfl rfl
      · refine wq_gos (f := 1) (pc2 := 7) (ls2 := [(0, .int j)]) (st2 := [.int 6, .int j]) (h2 := h) (dc2 := 0) (ds2 := 0) 2 rfl ?_
        have q7x : (6 : Int32).toInt = 6 := rfl
        refine wq_lt2 rfl rfl (fun b8x => ?_) (fun b8x => ?_)
        · refine wq_gos (f := 1) (pc2 := 15) (ls2 := [(0, .int j)]) (st2 := [.int 0]) (h2 := h) (dc2 := 0) (ds2 := 0) 1 rfl ?_
          refine wq_ret rfl rfl ?_
          show wq 106 12 [(0, .ref 0), (1, .int s), (2, .int j)] [.int 0] h 0 0 _
          refine wq_gos (f := 1) (pc2 := 20) (ls2 := [(0, .ref 0), (1, .int s), (2, .int j)]) (st2 := [.ref 0]) (h2 := h) (dc2 := 0) (ds2 := 0) 2 rfl ?_
          refine wq_getf rfl hX rfl rfl ?_
          refine wq_getf rfl hA rfl rfl ?_
          refine wq_gos (f := 1) (pc2 := 27) (ls2 := [(0, .ref 0), (1, .int s), (2, .int j)]) (st2 := [.int s, .ref (ra + 10)]) (h2 := h) (dc2 := 0) (ds2 := 0) 1 rfl ?_
          refine wq_lald rfl hQ (by first | omega | exact zin_t (by omega) (by omega)) rfl ?_
          refine wq_gos (f := 1) (pc2 := 29) (ls2 := [(0, .ref 0), (1, .int s), (2, .int j)]) (st2 := [.int j, .long (po.getD (s).toNatClampNeg 0)]) (h2 := h) (dc2 := 0) (ds2 := 0) 1 rfl ?_
          refine wq_inl (y2 := 33) (as := [.long (po.getD (s).toNatClampNeg 0), .int j]) rfl rfl rfl (wq_mono c_numv ?_)
          rintro _ rfl
          show wq 106 32 [(0, .ref 0), (1, .int s), (2, .int j)] [.int (jnumv (po.getD (s).toNatClampNeg 0) j)] h 0 0 _
          have w10x : (cSpot sp po s j) = (jnumv (po.getD (s).toNatClampNeg 0) j) := by unfold cSpot; rw [if_neg (Int.not_lt.mpr b1x), if_pos b4x, if_neg (Int.not_lt.mpr b5x), if_pos b8x]
          rw [w10x]
          exact wq_ret rfl rfl rfl
        · refine wq_gos (f := 1) (pc2 := 15) (ls2 := [(0, .int j)]) (st2 := [.int 1]) (h2 := h) (dc2 := 0) (ds2 := 0) 2 rfl ?_
          refine wq_ret rfl rfl ?_
          show wq 106 12 [(0, .ref 0), (1, .int s), (2, .int j)] [.int 1] h 0 0 _
          refine wq_gos (f := 1) (pc2 := 32) (ls2 := [(0, .ref 0), (1, .int s), (2, .int j)]) (st2 := [.int 0]) (h2 := h) (dc2 := 0) (ds2 := 0) 3 rfl ?_
          have w11x : (cSpot sp po s j) = (0 : Int32) := by unfold cSpot; rw [if_neg (Int.not_lt.mpr b1x), if_pos b4x, if_neg (Int.not_lt.mpr b5x), if_neg (Int.not_lt.mpr b8x)]
          rw [w11x]
          exact wq_ret rfl rfl rfl
    · refine wq_gos (f := 1) (pc2 := 20) (ls2 := [(0, .ref 0), (1, .int s)]) (st2 := [.int 1]) (h2 := h) (dc2 := 0) (ds2 := 0) 2 rfl ?_
      refine wq_ret rfl rfl ?_
      show wq 106 5 [(0, .ref 0), (1, .int s), (2, .int j)] [.int 1] h 0 0 _
      refine wq_gos (f := 1) (pc2 := 32) (ls2 := [(0, .ref 0), (1, .int s), (2, .int j)]) (st2 := [.int 0]) (h2 := h) (dc2 := 0) (ds2 := 0) 3 rfl ?_
      have w12x : (cSpot sp po s j) = (0 : Int32) := by unfold cSpot; rw [if_neg (Int.not_lt.mpr b1x), if_neg (Int.not_lt.mpr b4x)]
      rw [w12x]
      exact wq_ret rfl rfl rfl
noncomputable def cHand (lk hd ht : Int32) (ps : Int64) (w : Int32) : Int64 := (if w ≠ (6 : Int32) then ((jPart lk hd ht ps w)).toInt64 else ((jOut lk hd ps)).toInt64)
set_option maxRecDepth 100000 in
set_option maxHeartbeats 4000000 in
theorem c_hand {h : zH} {t ra rd : Nat} {ps ip : Int64} {im : Int32} {sp so : Nat} {lk hd ht bl sd : Int32} {rt : Int64} {w : Int32} (hX : zat h 0 = some (.inr (.inr (.inr (9, [.ref 2, .int (nI t), .ref 4, .ref ra, .ref rd, .long ps, .ref 34, .ref 36, .int im, .long ip, .ref 42, .ref 44, .ref 60, .ref 66, .ref 72, .ref 74, .ref 150, .ref 158]))))) (hA : zat h ra = some (.inr (.inr (.inr (0, [.int lk, .int hd, .int ht, .int bl, .int sd, .long rt, .ref (ra + 2), .ref (ra + 4), .ref (ra + 6), .int (nI sp), .ref (ra + 8), .ref (ra + 10), .int (nI so), .ref (ra + 12)]))))) (hra : ra = 6 ∨ ra = 20) : wq 108 0 [(0, .ref 0), (1, .int w)] [] h 0 0 (fun rr9 => rr9 = (some (.long (cHand lk hd ht ps w)), h, 0, 0)) := by
  refine wq_gos (f := 1) (pc2 := 3) (ls2 := [(0, .ref 0), (1, .int w)]) (st2 := [.int 6, .int w]) (h2 := h) (dc2 := 0) (ds2 := 0) 2 rfl ?_
  have q1x : (6 : Int32).toInt = 6 := rfl
  refine wq_ne2 rfl rfl (fun b2x => ?_) (fun b2x => ?_)
  · have q3x : w.toInt ≠ 6 := fun q => b2x (Int32.toInt_inj.mp q)
    refine wq_gos (f := 1) (pc2 := 22) (ls2 := [(0, .ref 0), (1, .int w)]) (st2 := [.ref 0]) (h2 := h) (dc2 := 0) (ds2 := 0) 1 rfl ?_
    refine wq_getf rfl hX rfl rfl ?_
    refine wq_gos (f := 1) (pc2 := 26) (ls2 := [(0, .ref 0), (1, .int w)]) (st2 := [.ref 0, .ref ra]) (h2 := h) (dc2 := 0) (ds2 := 0) 1 rfl ?_
    refine wq_getf rfl hX rfl rfl ?_
    refine wq_gos (f := 1) (pc2 := 30) (ls2 := [(0, .ref 0), (1, .int w)]) (st2 := [.int w, .long ps, .ref ra]) (h2 := h) (dc2 := 0) (ds2 := 0) 1 rfl ?_
    refine wq_inlv (y2 := 7) (as := [.long ps, .int w]) rfl rfl rfl hA rfl (wq_mono (c_part hA) ?_)
    rintro _ rfl
    show wq 108 33 [(0, .ref 0), (1, .int w)] [.int (jPart lk hd ht ps w)] h 0 0 _
    refine wq_gos (f := 1) (pc2 := 34) (ls2 := [(0, .ref 0), (1, .int w)]) (st2 := [.long ((jPart lk hd ht ps w)).toInt64]) (h2 := h) (dc2 := 0) (ds2 := 0) 1 rfl ?_
    have w5x : (cHand lk hd ht ps w) = ((jPart lk hd ht ps w)).toInt64 := by unfold cHand; rw [if_pos b2x]
    rw [w5x]
    exact wq_ret rfl rfl rfl
  · have q6x : w.toInt = 6 := congrArg Int32.toInt b2x
    refine wq_gos (f := 1) (pc2 := 7) (ls2 := [(0, .ref 0), (1, .int w)]) (st2 := [.ref 0]) (h2 := h) (dc2 := 0) (ds2 := 0) 1 rfl ?_
    refine wq_getf rfl hX rfl rfl ?_
    refine wq_gos (f := 1) (pc2 := 11) (ls2 := [(0, .ref 0), (1, .int w)]) (st2 := [.ref 0, .ref ra]) (h2 := h) (dc2 := 0) (ds2 := 0) 1 rfl ?_
    refine wq_getf rfl hX rfl rfl ?_
    refine wq_inlv (y2 := 5) (as := [.long ps]) rfl rfl rfl hA rfl (wq_mono (c_outOf hA) ?_)
    rintro _ rfl
    show wq 108 17 [(0, .ref 0), (1, .int w)] [.int (jOut lk hd ps)] h 0 0 _
    refine wq_gos (f := 1) (pc2 := 34) (ls2 := [(0, .ref 0), (1, .int w)]) (st2 := [.long ((jOut lk hd ps)).toInt64]) (h2 := h) (dc2 := 0) (ds2 := 0) 2 rfl ?_
    have w8x : (cHand lk hd ht ps w) = ((jOut lk hd ps)).toInt64 := by unfold cHand; rw [if_neg (fun q => q b2x)]
    rw [w8x]
    exact wq_ret rfl rfl rfl
noncomputable def cNow (ll lg : List Int32) (ps : Int64) (w : Int32) : Int32 := (if w ≠ (3 : Int32) then (jSom ps w) else (beyF ll lg ps (6 - 0 + 1) 0 0))
set_option maxRecDepth 100000 in
set_option maxHeartbeats 4000000 in
theorem c_now {h : zH} {t ra rd : Nat} {ps ip : Int64} {im : Int32} {sp so : Nat} {lk hd ht bl sd : Int32} {rt : Int64} {ll lg : List Int32} {w : Int32} (hX : zat h 0 = some (.inr (.inr (.inr (9, [.ref 2, .int (nI t), .ref 4, .ref ra, .ref rd, .long ps, .ref 34, .ref 36, .int im, .long ip, .ref 42, .ref 44, .ref 60, .ref 66, .ref 72, .ref 74, .ref 150, .ref 158]))))) (hA : zat h ra = some (.inr (.inr (.inr (0, [.int lk, .int hd, .int ht, .int bl, .int sd, .long rt, .ref (ra + 2), .ref (ra + 4), .ref (ra + 6), .int (nI sp), .ref (ra + 8), .ref (ra + 10), .int (nI so), .ref (ra + 12)]))))) (hL : zat h (ra + 2) = some (.inl (0, 6, ll))) (hG : zat h (ra + 4) = some (.inl (0, 6, lg))) (hra : ra = 6 ∨ ra = 20) : wq 109 0 [(0, .ref 0), (1, .int w)] [] h 0 0 (fun rr9 => rr9 = (some (.int (cNow ll lg ps w)), h, 0, 0)) := by
  refine wq_gos (f := 1) (pc2 := 2) (ls2 := [(0, .ref 0), (1, .int w)]) (st2 := [.int 3, .int w]) (h2 := h) (dc2 := 0) (ds2 := 0) 2 rfl ?_
  have q1x : (3 : Int32).toInt = 3 := rfl
  refine wq_ne2 rfl rfl (fun b2x => ?_) (fun b2x => ?_)
  · have q3x : w.toInt ≠ 3 := fun q => b2x (Int32.toInt_inj.mp q)
    refine wq_gos (f := 1) (pc2 := 20) (ls2 := [(0, .ref 0), (1, .int w)]) (st2 := [.ref 0]) (h2 := h) (dc2 := 0) (ds2 := 0) 1 rfl ?_
    refine wq_getf rfl hX rfl rfl ?_
    refine wq_gos (f := 1) (pc2 := 24) (ls2 := [(0, .ref 0), (1, .int w)]) (st2 := [.int w, .long ps]) (h2 := h) (dc2 := 0) (ds2 := 0) 1 rfl ?_
    refine wq_inl (y2 := 147) (as := [.long ps, .int w]) rfl rfl rfl (wq_mono c_som ?_)
    rintro _ rfl
    show wq 109 27 [(0, .ref 0), (1, .int w)] [.int (jSom ps w)] h 0 0 _
    have w5x : (cNow ll lg ps w) = (jSom ps w) := by unfold cNow; rw [if_pos b2x]
    rw [w5x]
    exact wq_ret rfl rfl rfl
  · have q6x : w.toInt = 3 := congrArg Int32.toInt b2x
    refine wq_gos (f := 1) (pc2 := 6) (ls2 := [(0, .ref 0), (1, .int w)]) (st2 := [.ref 0]) (h2 := h) (dc2 := 0) (ds2 := 0) 1 rfl ?_
    refine wq_getf rfl hX rfl rfl ?_
    refine wq_gos (f := 1) (pc2 := 10) (ls2 := [(0, .ref 0), (1, .int w)]) (st2 := [.ref 0, .ref ra]) (h2 := h) (dc2 := 0) (ds2 := 0) 1 rfl ?_
    refine wq_getf rfl hX rfl rfl ?_
    refine wq_inlv (y2 := 4) (as := [.long ps]) rfl rfl rfl hA rfl (wq_mono (c_bey hA hL hG) ?_)
    rintro _ rfl
    show wq 109 16 [(0, .ref 0), (1, .int w)] [.int (beyF ll lg ps (6 - 0 + 1) 0 0)] h 0 0 _
    refine wq_gos (f := 1) (pc2 := 27) (ls2 := [(0, .ref 0), (1, .int w)]) (st2 := [.int (beyF ll lg ps (6 - 0 + 1) 0 0)]) (h2 := h) (dc2 := 0) (ds2 := 0) 1 rfl ?_
    have w8x : (cNow ll lg ps w) = (beyF ll lg ps (6 - 0 + 1) 0 0) := by unfold cNow; rw [if_neg (fun q => q b2x)]
    rw [w8x]
    exact wq_ret rfl rfl rfl
set_option maxRecDepth 100000 in
set_option maxHeartbeats 4000000 in
theorem c_set {h : zH} {Q : zR → Prop} {t ra rd : Nat} {ps ip : Int64} {im : Int32} {sp so : Nat} {lk hd ht bl sd : Int32} {rt : Int64} {us un : Nat} {pp : List Int64} {ua : List Int32} {pl : List Int32} {ll lg : List Int32} {j : Nat} {v : Int32} (hX : zat h 0 = some (.inr (.inr (.inr (9, [.ref 2, .int (nI t), .ref 4, .ref ra, .ref rd, .long ps, .ref 34, .ref 36, .int im, .long ip, .ref 42, .ref 44, .ref 60, .ref 66, .ref 72, .ref 74, .ref 150, .ref 158]))))) (hA : zat h ra = some (.inr (.inr (.inr (0, [.int lk, .int hd, .int ht, .int bl, .int sd, .long rt, .ref (ra + 2), .ref (ra + 4), .ref (ra + 6), .int (nI sp), .ref (ra + 8), .ref (ra + 10), .int (nI so), .ref (ra + 12)]))))) (hL : zat h (ra + 2) = some (.inl (0, 6, ll))) (hG : zat h (ra + 4) = some (.inl (0, 6, lg))) (hP : zat h 36 = some (.inr (.inr (.inr (2, [.int (nI us), .int (nI un), .ref 38, .ref 40]))))) (hP8 : zat h 38 = some (.inr (.inl (20, pp)))) (hP0 : zat h 40 = some (.inl (0, 120, ua))) (hAi : zat h 34 = some (.inl (0, 6, pl))) (hra : ra = 6 ∨ ra = 20) (hu : un < 20 ∧ us ≤ 20) (hj : j < 6) (kF : ∀ (h2 : zH), (wFr [] h h2) → (h2.length = h.length) → (jAlw ll lg j v = 0) → Q (some (.int 0), h2, 0, 0)) (kS : ∀ (h2 : zH), (wFr [0, 36, 38, 40] h h2) → (h2.length = h.length) → (zat h2 0 = some (.inr (.inr (.inr (9, [.ref 2, .int (nI t), .ref 4, .ref ra, .ref rd, .long (jwithv ps (nI j) v), .ref 34, .ref 36, .int im, .long ip, .ref 42, .ref 44, .ref 60, .ref 66, .ref 72, .ref 74, .ref 150, .ref 158]))))) → (zat h2 36 = some (.inr (.inr (.inr (2, [.int (nI (min (us + 1) 20)), .int (nI ((un + 1) % 20)), .ref 38, .ref 40]))))) → (zat h2 38 = some (.inr (.inl (20, (zset 0 pp un ps))))) → (zat h2 40 = some (.inl (0, 120, (zcpy 0 pl ua 0 (6 * un) 6)))) → (jAlw ll lg j v ≠ 0) → Q (some (.int 1), h2, 0, 0)) : wq 107 0 [(0, .ref 0), (1, .int (nI j)), (2, .int v)] [] h 0 0 Q := by
  have qnj := nI_toInt (n := j) (by omega)
  have z0 : (0 : Int32).toInt = 0 := rfl
  have z1 : (1 : Int32).toInt = 1 := rfl
  have z5 : (5 : Int32).toInt = 5 := rfl
  have z6 : (6 : Int32).toInt = 6 := rfl
  refine wq_gos (f := 1) (pc2 := 1) (ls2 := [(0, .ref 0), (1, .int (nI j)), (2, .int v)]) (st2 := [.int (nI j)]) (h2 := h) (dc2 := 0) (ds2 := 0) 1 rfl ?_
  refine wq_inl (y2 := 144) (as := [.int (nI j)]) rfl rfl rfl ?_
  show wq 144 0 [(0, .int (nI j))] [] h 0 0 _
  refine wq_gos (f := 1) (pc2 := 1) (ls2 := [(0, .int (nI j))]) (st2 := [.int (nI j)]) (h2 := h) (dc2 := 0) (ds2 := 0) 1 rfl ?_
  try have q1x := nI_toInt (n := j) (by omega)
  refine wq_lt0 rfl rfl (fun b2x => ?_) (fun b2x => ?_)
  · refine wq_gos (f := 1) (pc2 := 15) (ls2 := [(0, .int (nI j))]) (st2 := [.int 1]) (h2 := h) (dc2 := 0) (ds2 := 0) 2 rfl ?_
    refine wq_ret rfl rfl ?_
    show wq 107 4 [(0, .ref 0), (1, .int (nI j)), (2, .int v)] [.int 1] h 0 0 _
    refine wq_gos (f := 1) (pc2 := 20) (ls2 := [(0, .ref 0), (1, .int (nI j)), (2, .int v)]) (st2 := [.int 0]) (h2 := h) (dc2 := 0) (ds2 := 0) 2 rfl ?_
    exact wq_ret rfl rfl (kF h (wFr_rf _ _) (by omega) (by first | omega | assumption | decide | solve_by_elim))
  · refine wq_gos (f := 1) (pc2 := 7) (ls2 := [(0, .int (nI j))]) (st2 := [.int 6, .int (nI j)]) (h2 := h) (dc2 := 0) (ds2 := 0) 2 rfl ?_
    have q3x : (6 : Int32).toInt = 6 := rfl
    refine wq_lt2 rfl rfl (fun b4x => ?_) (fun b4x => ?_)
    · refine wq_gos (f := 1) (pc2 := 15) (ls2 := [(0, .int (nI j))]) (st2 := [.int 0]) (h2 := h) (dc2 := 0) (ds2 := 0) 1 rfl ?_
      refine wq_ret rfl rfl ?_
      show wq 107 4 [(0, .ref 0), (1, .int (nI j)), (2, .int v)] [.int 0] h 0 0 _
      refine wq_gos (f := 1) (pc2 := 8) (ls2 := [(0, .ref 0), (1, .int (nI j)), (2, .int v)]) (st2 := [.ref 0]) (h2 := h) (dc2 := 0) (ds2 := 0) 2 rfl ?_
      refine wq_getf rfl hX rfl rfl ?_
      refine wq_gos (f := 1) (pc2 := 13) (ls2 := [(0, .ref 0), (1, .int (nI j)), (2, .int v)]) (st2 := [.int v, .int (nI j), .ref ra]) (h2 := h) (dc2 := 0) (ds2 := 0) 2 rfl ?_
      refine wq_inlv (y2 := 3) (as := [.int (nI j), .int v]) rfl rfl rfl hA rfl (wq_mono (c_allowv hA hL hG (by first | omega | assumption | decide | solve_by_elim)) ?_)
      rintro _ rfl
      show wq 107 16 [(0, .ref 0), (1, .int (nI j)), (2, .int v)] [.int (jAlw ll lg j v)] h 0 0 _
      refine wq_ne0 rfl rfl (fun b6x => ?_) (fun b6x => ?_)
      · have q7x : (jAlw ll lg j v).toInt ≠ 0 := fun q => b6x (Int32.toInt_inj.mp q)
        refine wq_gos (f := 1) (pc2 := 22) (ls2 := [(0, .ref 0), (1, .int (nI j)), (2, .int v)]) (st2 := [.ref 0]) (h2 := h) (dc2 := 0) (ds2 := 0) 1 rfl ?_
        refine wq_getf rfl hX rfl rfl ?_
        refine wq_gos (f := 1) (pc2 := 26) (ls2 := [(0, .ref 0), (1, .int (nI j)), (2, .int v)]) (st2 := [.ref 0, .ref 36]) (h2 := h) (dc2 := 0) (ds2 := 0) 1 rfl ?_
        refine wq_getf rfl hX rfl rfl ?_
        refine wq_gos (f := 1) (pc2 := 30) (ls2 := [(0, .ref 0), (1, .int (nI j)), (2, .int v)]) (st2 := [.ref 0, .long ps, .ref 36]) (h2 := h) (dc2 := 0) (ds2 := 0) 1 rfl ?_
        refine wq_getf rfl hX rfl rfl ?_
        refine wq_inlv (y2 := 23) (as := [.long ps, .ref 34]) rfl rfl rfl hP rfl (wq_mono (c_push hP hP8 hP0 hAi (by first | omega | assumption | decide | solve_by_elim)) ?_)
        rintro _ ⟨h88x, un28x, us28x, rfl, f88x, l88x, c08x, c18x, c28x, p08x, p18x⟩
        subst p08x
        subst p18x
        show wq 107 36 [(0, .ref 0), (1, .int (nI j)), (2, .int v)] [] h88x 0 0 _
        refine wq_gos (f := 1) (pc2 := 38) (ls2 := [(0, .ref 0), (1, .int (nI j)), (2, .int v)]) (st2 := [.ref 0, .ref 0]) (h2 := h88x) (dc2 := 0) (ds2 := 0) 2 rfl ?_
        have e9x := (f88x.2 _ _ (wnc (by decide) (wnc (by decide) (wnc (by decide) wn0))) hX)
        refine wq_getf rfl e9x rfl rfl ?_
        refine wq_gos (f := 1) (pc2 := 43) (ls2 := [(0, .ref 0), (1, .int (nI j)), (2, .int v)]) (st2 := [.int v, .int (nI j), .long ps, .ref 0]) (h2 := h88x) (dc2 := 0) (ds2 := 0) 2 rfl ?_
        refine wq_inl (y2 := 34) (as := [.long ps, .int (nI j), .int v]) rfl rfl rfl (wq_mono c_withv ?_)
        rintro _ rfl
        show wq 107 46 [(0, .ref 0), (1, .int (nI j)), (2, .int v)] [.long (jwithv ps (nI j) v), .ref 0] h88x 0 0 _
        refine wq_putf rfl e9x rfl rfl rfl ?_
        intro h11x e12x f13x l14x
        have e12x : zat h11x 0 = some (.inr (.inr (.inr (9, [.ref 2, .int (nI t), .ref 4, .ref ra, .ref rd, .long (jwithv ps (nI j) v), .ref 34, .ref 36, .int im, .long ip, .ref 42, .ref 44, .ref 60, .ref 66, .ref 72, .ref 74, .ref 150, .ref 158])))) := e12x
        refine wq_gos (f := 1) (pc2 := 50) (ls2 := [(0, .ref 0), (1, .int (nI j)), (2, .int v)]) (st2 := [.int 1]) (h2 := h11x) (dc2 := 0) (ds2 := 0) 1 rfl ?_
        have e15x := (f13x.2 _ _ (wnc (by decide) wn0) c08x)
        have e16x := (f13x.2 _ _ (wnc (by decide) wn0) c18x)
        have e17x := (f13x.2 _ _ (wnc (by decide) wn0) c28x)
        exact wq_ret rfl rfl (kS h11x (wFr_tr (wFr_sub f88x (by simp)) (wFr_sub f13x (by simp))) (by omega) e12x e15x e16x e17x (by first | omega | assumption | decide | solve_by_elim))
      · have q18x : (jAlw ll lg j v).toInt = 0 := congrArg Int32.toInt b6x
        refine wq_gos (f := 1) (pc2 := 20) (ls2 := [(0, .ref 0), (1, .int (nI j)), (2, .int v)]) (st2 := [.int 0]) (h2 := h) (dc2 := 0) (ds2 := 0) 1 rfl ?_
        exact wq_ret rfl rfl (kF h (wFr_rf _ _) (by omega) (by first | omega | assumption | decide | solve_by_elim))
    · refine wq_gos (f := 1) (pc2 := 15) (ls2 := [(0, .int (nI j))]) (st2 := [.int 1]) (h2 := h) (dc2 := 0) (ds2 := 0) 2 rfl ?_
      refine wq_ret rfl rfl ?_
      show wq 107 4 [(0, .ref 0), (1, .int (nI j)), (2, .int v)] [.int 1] h 0 0 _
      refine wq_gos (f := 1) (pc2 := 20) (ls2 := [(0, .ref 0), (1, .int (nI j)), (2, .int v)]) (st2 := [.int 0]) (h2 := h) (dc2 := 0) (ds2 := 0) 2 rfl ?_
      exact wq_ret rfl rfl (kF h (wFr_rf _ _) (by omega) (by first | omega | assumption | decide | solve_by_elim))
set_option maxRecDepth 100000 in
set_option maxHeartbeats 4000000 in
theorem c_aat {h : zH} {Q : zR → Prop} {t ra rd : Nat} {ps ip : Int64} {im : Int32} {sp so : Nat} {lk hd ht bl sd : Int32} {rt : Int64} {us un : Nat} {pp : List Int64} {ua : List Int32} {pl : List Int32} {po : List Int64} {s : Int32} (hX : zat h 0 = some (.inr (.inr (.inr (9, [.ref 2, .int (nI t), .ref 4, .ref ra, .ref rd, .long ps, .ref 34, .ref 36, .int im, .long ip, .ref 42, .ref 44, .ref 60, .ref 66, .ref 72, .ref 74, .ref 150, .ref 158]))))) (hA : zat h ra = some (.inr (.inr (.inr (0, [.int lk, .int hd, .int ht, .int bl, .int sd, .long rt, .ref (ra + 2), .ref (ra + 4), .ref (ra + 6), .int (nI sp), .ref (ra + 8), .ref (ra + 10), .int (nI so), .ref (ra + 12)]))))) (hQ : zat h (ra + 10) = some (.inr (.inl (8, po)))) (hP : zat h 36 = some (.inr (.inr (.inr (2, [.int (nI us), .int (nI un), .ref 38, .ref 40]))))) (hP8 : zat h 38 = some (.inr (.inl (20, pp)))) (hP0 : zat h 40 = some (.inl (0, 120, ua))) (hAi : zat h 34 = some (.inl (0, 6, pl))) (hra : ra = 6 ∨ ra = 20) (hu : un < 20 ∧ us ≤ 20) (hsp : sp ≤ 8) (kF : ∀ (h2 : zH), (wFr [] h h2) → (h2.length = h.length) → (s ≠ -1 ∧ (s.toInt < 0 ∨ sp ≤ s.toInt)) → Q (some (.int 0), h2, 0, 0)) (kN : ∀ (h2 : zH), (wFr [34, 36, 38, 40] h h2) → (h2.length = h.length) → (zat h2 34 = some (.inl (0, 6, (jPlo lk hd ht ps pl)))) → (zat h2 36 = some (.inr (.inr (.inr (2, [.int (nI (min (us + 1) 20)), .int (nI ((un + 1) % 20)), .ref 38, .ref 40]))))) → (zat h2 38 = some (.inr (.inl (20, (zset 0 pp un ps))))) → (zat h2 40 = some (.inl (0, 120, (zcpy 0 pl ua 0 (6 * un) 6)))) → (s = -1) → Q (some (.int 1), h2, 0, 0)) (kS : ∀ (h2 : zH), (wFr [34, 36, 38, 40] h h2) → (h2.length = h.length) → (zat h2 34 = some (.inl (0, 6, (jPlo lk hd ht (po.getD s.toNatClampNeg 0) pl)))) → (zat h2 36 = some (.inr (.inr (.inr (2, [.int (nI (min (us + 1) 20)), .int (nI ((un + 1) % 20)), .ref 38, .ref 40]))))) → (zat h2 38 = some (.inr (.inl (20, (zset 0 pp un ps))))) → (zat h2 40 = some (.inl (0, 120, (zcpy 0 pl ua 0 (6 * un) 6)))) → (s ≠ -1 ∧ 0 ≤ s.toInt ∧ s.toInt < sp) → Q (some (.int 1), h2, 0, 0)) : wq 111 0 [(0, .ref 0), (1, .int s)] [] h 0 0 Q := by
  have qnsp := nI_toInt (n := sp) (by omega)
  have z0 : (0 : Int32).toInt = 0 := rfl
  have z1 : (1 : Int32).toInt = 1 := rfl
  have z5 : (5 : Int32).toInt = 5 := rfl
  have z6 : (6 : Int32).toInt = 6 := rfl
  have zm1 : (-1 : Int32).toInt = -1 := rfl
  refine wq_gos (f := 1) (pc2 := 2) (ls2 := [(0, .ref 0), (1, .int s)]) (st2 := [.int (-1), .int s]) (h2 := h) (dc2 := 0) (ds2 := 0) 2 rfl ?_
  have q1x : (-1 : Int32).toInt = -1 := rfl
  refine wq_eq2 rfl rfl (fun b2x => ?_) (fun b2x => ?_)
  · have q3x : s.toInt = -1 := congrArg Int32.toInt b2x
    refine wq_gos (f := 1) (pc2 := 16) (ls2 := [(0, .ref 0), (1, .int s)]) (st2 := [.ref 0]) (h2 := h) (dc2 := 0) (ds2 := 0) 1 rfl ?_
    refine wq_getf rfl hX rfl rfl ?_
    refine wq_gos (f := 1) (pc2 := 20) (ls2 := [(0, .ref 0), (1, .int s)]) (st2 := [.ref 0, .ref 36]) (h2 := h) (dc2 := 0) (ds2 := 0) 1 rfl ?_
    refine wq_getf rfl hX rfl rfl ?_
    refine wq_gos (f := 1) (pc2 := 24) (ls2 := [(0, .ref 0), (1, .int s)]) (st2 := [.ref 0, .long ps, .ref 36]) (h2 := h) (dc2 := 0) (ds2 := 0) 1 rfl ?_
    refine wq_getf rfl hX rfl rfl ?_
    refine wq_inlv (y2 := 23) (as := [.long ps, .ref 34]) rfl rfl rfl hP rfl (wq_mono (c_push hP hP8 hP0 hAi (by first | omega | assumption | decide | solve_by_elim)) ?_)
    rintro _ ⟨h84x, un24x, us24x, rfl, f84x, l84x, c04x, c14x, c24x, p04x, p14x⟩
    subst p04x
    subst p14x
    show wq 111 30 [(0, .ref 0), (1, .int s)] [] h84x 0 0 _
    refine wq_gos (f := 1) (pc2 := 31) (ls2 := [(0, .ref 0), (1, .int s)]) (st2 := [.ref 0]) (h2 := h84x) (dc2 := 0) (ds2 := 0) 1 rfl ?_
    have e5x := (f84x.2 _ _ (wnc (by decide) (wnc (by decide) (wnc (by decide) wn0))) hX)
    refine wq_getf rfl e5x rfl rfl ?_
    refine wq_gos (f := 1) (pc2 := 36) (ls2 := [(0, .ref 0), (1, .int s)]) (st2 := [.int (-1), .int s, .ref ra]) (h2 := h84x) (dc2 := 0) (ds2 := 0) 2 rfl ?_
    refine wq_ne2 rfl rfl (fun b6x => ?_) (fun b6x => ?_)
    · have q7x : s.toInt ≠ -1 := fun q => b6x (Int32.toInt_inj.mp q)
      refine wq_gos (f := 1) (pc2 := 47) (ls2 := [(0, .ref 0), (1, .int s)]) (st2 := [.ref 0, .ref ra]) (h2 := h84x) (dc2 := 0) (ds2 := 0) 1 rfl ?_
      refine wq_getf rfl e5x rfl rfl ?_
      have e8x := (f84x.2 _ _ (wnc (by omega) (wnc (by omega) (wnc (by omega) wn0))) hA)
      refine wq_getf rfl e8x rfl rfl ?_
      refine wq_gos (f := 1) (pc2 := 54) (ls2 := [(0, .ref 0), (1, .int s)]) (st2 := [.int s, .ref (ra + 10), .ref ra]) (h2 := h84x) (dc2 := 0) (ds2 := 0) 1 rfl ?_
      have e9x := (f84x.2 _ _ (wnc (by omega) (wnc (by omega) (wnc (by omega) wn0))) hQ)
      refine wq_lald rfl e9x (by first | omega | exact zin_t (by omega) (by omega)) rfl ?_
      refine wq_gos (f := 1) (pc2 := 56) (ls2 := [(0, .ref 0), (1, .int s)]) (st2 := [.ref 0, .long (po.getD (s).toNatClampNeg 0), .ref ra]) (h2 := h84x) (dc2 := 0) (ds2 := 0) 1 rfl ?_
      refine wq_getf rfl e5x rfl rfl ?_
      have e10x := (f84x.2 _ _ (wnc (by decide) (wnc (by decide) (wnc (by decide) wn0))) hAi)
      refine wq_inlv (y2 := 8) (as := [.long (po.getD (s).toNatClampNeg 0), .ref 34]) rfl rfl rfl e8x rfl (wq_mono (c_plo e8x e10x (by first | omega | assumption | decide | solve_by_elim) (by first | omega | assumption | decide | solve_by_elim)) ?_)
      rintro _ ⟨h811x, rfl, f811x, l811x, c011x⟩
      show wq 111 62 [(0, .ref 0), (1, .int s)] [] h811x 0 0 _
      obtain ⟨v12x, hv13x⟩ : ∃ x, x = (jPlo lk hd ht (po.getD (s).toNatClampNeg 0) pl) := ⟨_, rfl⟩
      try rw [← hv13x] at c011x
      try rw [← hv13x]
      refine wq_gos (f := 1) (pc2 := 63) (ls2 := [(0, .ref 0), (1, .int s)]) (st2 := [.int 1]) (h2 := h811x) (dc2 := 0) (ds2 := 0) 1 rfl ?_
      have e14x := (f811x.2 _ _ (wnc (by decide) wn0) c04x)
      have e15x := (f811x.2 _ _ (wnc (by decide) wn0) c14x)
      have e16x := (f811x.2 _ _ (wnc (by decide) wn0) c24x)
      subst hv13x
      exact wq_ret rfl rfl (kS h811x (wFr_tr (wFr_sub f84x (by simp)) (wFr_sub f811x (by simp))) (by omega) c011x e14x e15x e16x (by first | assumption | (refine ⟨by assumption, ?_⟩; omega) | (exfalso; omega)))
    · have q17x : s.toInt = -1 := congrArg Int32.toInt b6x
      refine wq_gos (f := 1) (pc2 := 40) (ls2 := [(0, .ref 0), (1, .int s)]) (st2 := [.ref 0, .ref ra]) (h2 := h84x) (dc2 := 0) (ds2 := 0) 1 rfl ?_
      refine wq_getf rfl e5x rfl rfl ?_
      refine wq_gos (f := 1) (pc2 := 56) (ls2 := [(0, .ref 0), (1, .int s)]) (st2 := [.ref 0, .long ps, .ref ra]) (h2 := h84x) (dc2 := 0) (ds2 := 0) 2 rfl ?_
      refine wq_getf rfl e5x rfl rfl ?_
      have e18x := (f84x.2 _ _ (wnc (by omega) (wnc (by omega) (wnc (by omega) wn0))) hA)
      have e19x := (f84x.2 _ _ (wnc (by decide) (wnc (by decide) (wnc (by decide) wn0))) hAi)
      refine wq_inlv (y2 := 8) (as := [.long ps, .ref 34]) rfl rfl rfl e18x rfl (wq_mono (c_plo e18x e19x (by first | omega | assumption | decide | solve_by_elim) (by first | omega | assumption | decide | solve_by_elim)) ?_)
      rintro _ ⟨h820x, rfl, f820x, l820x, c020x⟩
      show wq 111 62 [(0, .ref 0), (1, .int s)] [] h820x 0 0 _
      obtain ⟨v21x, hv22x⟩ : ∃ x, x = (jPlo lk hd ht ps pl) := ⟨_, rfl⟩
      try rw [← hv22x] at c020x
      try rw [← hv22x]
      refine wq_gos (f := 1) (pc2 := 63) (ls2 := [(0, .ref 0), (1, .int s)]) (st2 := [.int 1]) (h2 := h820x) (dc2 := 0) (ds2 := 0) 1 rfl ?_
      have e23x := (f820x.2 _ _ (wnc (by decide) wn0) c04x)
      have e24x := (f820x.2 _ _ (wnc (by decide) wn0) c14x)
      have e25x := (f820x.2 _ _ (wnc (by decide) wn0) c24x)
      subst hv22x
      exact wq_ret rfl rfl (kN h820x (wFr_tr (wFr_sub f84x (by simp)) (wFr_sub f820x (by simp))) (by omega) c020x e23x e24x e25x (by first | assumption | (refine ⟨by assumption, ?_⟩; omega) | (exfalso; omega)))
  · have q26x : s.toInt ≠ -1 := fun q => b2x (Int32.toInt_inj.mp q)
    refine wq_gos (f := 1) (pc2 := 7) (ls2 := [(0, .ref 0), (1, .int s)]) (st2 := [.int s, .ref 0]) (h2 := h) (dc2 := 0) (ds2 := 0) 2 rfl ?_
    refine wq_inlv (y2 := 145) (as := [.int s]) rfl rfl rfl hX rfl ?_
    show wq 145 0 [(0, .ref 0), (1, .int s)] [] h 0 0 _
    refine wq_gos (f := 1) (pc2 := 1) (ls2 := [(0, .ref 0), (1, .int s)]) (st2 := [.int s]) (h2 := h) (dc2 := 0) (ds2 := 0) 1 rfl ?_
    refine wq_lt0 rfl rfl (fun b27x => ?_) (fun b27x => ?_)
    · refine wq_gos (f := 1) (pc2 := 20) (ls2 := [(0, .ref 0), (1, .int s)]) (st2 := [.int 1]) (h2 := h) (dc2 := 0) (ds2 := 0) 2 rfl ?_
      refine wq_ret rfl rfl ?_
      show wq 111 10 [(0, .ref 0), (1, .int s)] [.int 1] h 0 0 _
      refine wq_gos (f := 1) (pc2 := 14) (ls2 := [(0, .ref 0), (1, .int s)]) (st2 := [.int 0]) (h2 := h) (dc2 := 0) (ds2 := 0) 2 rfl ?_
      exact wq_ret rfl rfl (kF h (wFr_rf _ _) (by omega) (by first | assumption | (refine ⟨by assumption, ?_⟩; omega) | (exfalso; omega)))
    · refine wq_gos (f := 1) (pc2 := 6) (ls2 := [(0, .ref 0), (1, .int s)]) (st2 := [.ref 0, .int s]) (h2 := h) (dc2 := 0) (ds2 := 0) 2 rfl ?_
      refine wq_getf rfl hX rfl rfl ?_
      refine wq_getf rfl hA rfl rfl ?_
      try have q28x := nI_toInt (n := sp) (by omega)
      refine wq_lt2 rfl rfl (fun b29x => ?_) (fun b29x => ?_)
      · refine wq_gos (f := 1) (pc2 := 20) (ls2 := [(0, .ref 0), (1, .int s)]) (st2 := [.int 0]) (h2 := h) (dc2 := 0) (ds2 := 0) 1 rfl ?_
        refine wq_ret rfl rfl ?_
        show wq 111 10 [(0, .ref 0), (1, .int s)] [.int 0] h 0 0 _
        refine wq_gos (f := 1) (pc2 := 16) (ls2 := [(0, .ref 0), (1, .int s)]) (st2 := [.ref 0]) (h2 := h) (dc2 := 0) (ds2 := 0) 2 rfl ?_
        refine wq_getf rfl hX rfl rfl ?_
        refine wq_gos (f := 1) (pc2 := 20) (ls2 := [(0, .ref 0), (1, .int s)]) (st2 := [.ref 0, .ref 36]) (h2 := h) (dc2 := 0) (ds2 := 0) 1 rfl ?_
        refine wq_getf rfl hX rfl rfl ?_
        refine wq_gos (f := 1) (pc2 := 24) (ls2 := [(0, .ref 0), (1, .int s)]) (st2 := [.ref 0, .long ps, .ref 36]) (h2 := h) (dc2 := 0) (ds2 := 0) 1 rfl ?_
        refine wq_getf rfl hX rfl rfl ?_
        refine wq_inlv (y2 := 23) (as := [.long ps, .ref 34]) rfl rfl rfl hP rfl (wq_mono (c_push hP hP8 hP0 hAi (by first | omega | assumption | decide | solve_by_elim)) ?_)
        rintro _ ⟨h830x, un230x, us230x, rfl, f830x, l830x, c030x, c130x, c230x, p030x, p130x⟩
        subst p030x
        subst p130x
        show wq 111 30 [(0, .ref 0), (1, .int s)] [] h830x 0 0 _
        refine wq_gos (f := 1) (pc2 := 31) (ls2 := [(0, .ref 0), (1, .int s)]) (st2 := [.ref 0]) (h2 := h830x) (dc2 := 0) (ds2 := 0) 1 rfl ?_
        have e31x := (f830x.2 _ _ (wnc (by decide) (wnc (by decide) (wnc (by decide) wn0))) hX)
        refine wq_getf rfl e31x rfl rfl ?_
        refine wq_gos (f := 1) (pc2 := 36) (ls2 := [(0, .ref 0), (1, .int s)]) (st2 := [.int (-1), .int s, .ref ra]) (h2 := h830x) (dc2 := 0) (ds2 := 0) 2 rfl ?_
        refine wq_ne2 rfl rfl (fun b32x => ?_) (fun b32x => ?_)
        · have q33x : s.toInt ≠ -1 := fun q => b32x (Int32.toInt_inj.mp q)
          refine wq_gos (f := 1) (pc2 := 47) (ls2 := [(0, .ref 0), (1, .int s)]) (st2 := [.ref 0, .ref ra]) (h2 := h830x) (dc2 := 0) (ds2 := 0) 1 rfl ?_
          refine wq_getf rfl e31x rfl rfl ?_
          have e34x := (f830x.2 _ _ (wnc (by omega) (wnc (by omega) (wnc (by omega) wn0))) hA)
          refine wq_getf rfl e34x rfl rfl ?_
          refine wq_gos (f := 1) (pc2 := 54) (ls2 := [(0, .ref 0), (1, .int s)]) (st2 := [.int s, .ref (ra + 10), .ref ra]) (h2 := h830x) (dc2 := 0) (ds2 := 0) 1 rfl ?_
          have e35x := (f830x.2 _ _ (wnc (by omega) (wnc (by omega) (wnc (by omega) wn0))) hQ)
          refine wq_lald rfl e35x (by first | omega | exact zin_t (by omega) (by omega)) rfl ?_
          refine wq_gos (f := 1) (pc2 := 56) (ls2 := [(0, .ref 0), (1, .int s)]) (st2 := [.ref 0, .long (po.getD (s).toNatClampNeg 0), .ref ra]) (h2 := h830x) (dc2 := 0) (ds2 := 0) 1 rfl ?_
          refine wq_getf rfl e31x rfl rfl ?_
          have e36x := (f830x.2 _ _ (wnc (by decide) (wnc (by decide) (wnc (by decide) wn0))) hAi)
          refine wq_inlv (y2 := 8) (as := [.long (po.getD (s).toNatClampNeg 0), .ref 34]) rfl rfl rfl e34x rfl (wq_mono (c_plo e34x e36x (by first | omega | assumption | decide | solve_by_elim) (by first | omega | assumption | decide | solve_by_elim)) ?_)
          rintro _ ⟨h837x, rfl, f837x, l837x, c037x⟩
          show wq 111 62 [(0, .ref 0), (1, .int s)] [] h837x 0 0 _
          obtain ⟨v38x, hv39x⟩ : ∃ x, x = (jPlo lk hd ht (po.getD (s).toNatClampNeg 0) pl) := ⟨_, rfl⟩
          try rw [← hv39x] at c037x
          try rw [← hv39x]
          refine wq_gos (f := 1) (pc2 := 63) (ls2 := [(0, .ref 0), (1, .int s)]) (st2 := [.int 1]) (h2 := h837x) (dc2 := 0) (ds2 := 0) 1 rfl ?_
          have e40x := (f837x.2 _ _ (wnc (by decide) wn0) c030x)
          have e41x := (f837x.2 _ _ (wnc (by decide) wn0) c130x)
          have e42x := (f837x.2 _ _ (wnc (by decide) wn0) c230x)
          subst hv39x
          exact wq_ret rfl rfl (kS h837x (wFr_tr (wFr_sub f830x (by simp)) (wFr_sub f837x (by simp))) (by omega) c037x e40x e41x e42x (by first | assumption | (refine ⟨by assumption, ?_⟩; omega) | (exfalso; omega)))
        · have q43x : s.toInt = -1 := congrArg Int32.toInt b32x
          refine wq_gos (f := 1) (pc2 := 40) (ls2 := [(0, .ref 0), (1, .int s)]) (st2 := [.ref 0, .ref ra]) (h2 := h830x) (dc2 := 0) (ds2 := 0) 1 rfl ?_
          refine wq_getf rfl e31x rfl rfl ?_
          refine wq_gos (f := 1) (pc2 := 56) (ls2 := [(0, .ref 0), (1, .int s)]) (st2 := [.ref 0, .long ps, .ref ra]) (h2 := h830x) (dc2 := 0) (ds2 := 0) 2 rfl ?_
          refine wq_getf rfl e31x rfl rfl ?_
          have e44x := (f830x.2 _ _ (wnc (by omega) (wnc (by omega) (wnc (by omega) wn0))) hA)
          have e45x := (f830x.2 _ _ (wnc (by decide) (wnc (by decide) (wnc (by decide) wn0))) hAi)
          refine wq_inlv (y2 := 8) (as := [.long ps, .ref 34]) rfl rfl rfl e44x rfl (wq_mono (c_plo e44x e45x (by first | omega | assumption | decide | solve_by_elim) (by first | omega | assumption | decide | solve_by_elim)) ?_)
          rintro _ ⟨h846x, rfl, f846x, l846x, c046x⟩
          show wq 111 62 [(0, .ref 0), (1, .int s)] [] h846x 0 0 _
          obtain ⟨v47x, hv48x⟩ : ∃ x, x = (jPlo lk hd ht ps pl) := ⟨_, rfl⟩
          try rw [← hv48x] at c046x
          try rw [← hv48x]
          refine wq_gos (f := 1) (pc2 := 63) (ls2 := [(0, .ref 0), (1, .int s)]) (st2 := [.int 1]) (h2 := h846x) (dc2 := 0) (ds2 := 0) 1 rfl ?_
          have e49x := (f846x.2 _ _ (wnc (by decide) wn0) c030x)
          have e50x := (f846x.2 _ _ (wnc (by decide) wn0) c130x)
          have e51x := (f846x.2 _ _ (wnc (by decide) wn0) c230x)
          subst hv48x
          exact wq_ret rfl rfl (kN h846x (wFr_tr (wFr_sub f830x (by simp)) (wFr_sub f846x (by simp))) (by omega) c046x e49x e50x e51x (by first | assumption | (refine ⟨by assumption, ?_⟩; omega) | (exfalso; omega)))
      · refine wq_gos (f := 1) (pc2 := 20) (ls2 := [(0, .ref 0), (1, .int s)]) (st2 := [.int 1]) (h2 := h) (dc2 := 0) (ds2 := 0) 2 rfl ?_
        refine wq_ret rfl rfl ?_
        show wq 111 10 [(0, .ref 0), (1, .int s)] [.int 1] h 0 0 _
        refine wq_gos (f := 1) (pc2 := 14) (ls2 := [(0, .ref 0), (1, .int s)]) (st2 := [.int 0]) (h2 := h) (dc2 := 0) (ds2 := 0) 2 rfl ?_
        exact wq_ret rfl rfl (kF h (wFr_rf _ _) (by omega) (by first | assumption | (refine ⟨by assumption, ?_⟩; omega) | (exfalso; omega)))
noncomputable def cAby (w : Int32) (v : Int64) : Nat := (if w.toInt < 0 then 0 else (if w.toInt ≤ (5 : Int32).toInt then (if (3 : Int32).toInt ≤ w.toInt then (if (3 : Int32).toInt ≤ w.toInt then (if (lg_cmp v (0 : Int64)).toInt < 0 then 0 else (if (lg_cmp v (63 : Int64)).toInt ≤ 0 then 1 else 0)) else (if (lg_cmp v (0 : Int64)).toInt < 0 then 0 else (if (lg_cmp v (1000000000 : Int64)).toInt ≤ 0 then 1 else 0))) else (if (3 : Int32).toInt ≤ w.toInt then (if (lg_cmp v (-1000000000 : Int64)).toInt < 0 then 0 else (if (lg_cmp v (63 : Int64)).toInt ≤ 0 then 1 else 0)) else (if (lg_cmp v (-1000000000 : Int64)).toInt < 0 then 0 else (if (lg_cmp v (1000000000 : Int64)).toInt ≤ 0 then 1 else 0)))) else 0))
set_option maxRecDepth 100000 in
set_option maxHeartbeats 4000000 in
theorem c_aby {h : zH} {Q : zR → Prop} {t ra rd : Nat} {ps ip : Int64} {im : Int32} {sp so : Nat} {lk hd ht bl sd : Int32} {rt : Int64} {us un : Nat} {pp : List Int64} {ua : List Int32} {pl : List Int32} {w : Int32} {v : Int64} (hX : zat h 0 = some (.inr (.inr (.inr (9, [.ref 2, .int (nI t), .ref 4, .ref ra, .ref rd, .long ps, .ref 34, .ref 36, .int im, .long ip, .ref 42, .ref 44, .ref 60, .ref 66, .ref 72, .ref 74, .ref 150, .ref 158]))))) (hP : zat h 36 = some (.inr (.inr (.inr (2, [.int (nI us), .int (nI un), .ref 38, .ref 40]))))) (hP8 : zat h 38 = some (.inr (.inl (20, pp)))) (hP0 : zat h 40 = some (.inl (0, 120, ua))) (hAi : zat h 34 = some (.inl (0, 6, pl))) (hu : un < 20 ∧ us ≤ 20) (kF : ∀ (h2 : zH), (wFr [] h h2) → (h2.length = h.length) → ((cAby w v) = 0) → Q (some (.int 0), h2, 0, 0)) (kS : ∀ (h2 : zH), (wFr [34, 36, 38, 40] h h2) → (h2.length = h.length) → (zat h2 34 = some (.inl (0, 6, (zset 0 pl w.toNatClampNeg v.toInt32)))) → (zat h2 36 = some (.inr (.inr (.inr (2, [.int (nI (min (us + 1) 20)), .int (nI ((un + 1) % 20)), .ref 38, .ref 40]))))) → (zat h2 38 = some (.inr (.inl (20, (zset 0 pp un ps))))) → (zat h2 40 = some (.inl (0, 120, (zcpy 0 pl ua 0 (6 * un) 6)))) → ((cAby w v) = 1) → (0 ≤ w.toInt ∧ w.toInt ≤ 5) → Q (some (.int 1), h2, 0, 0)) : wq 112 0 [(0, .ref 0), (1, .int w), (2, .long v)] [] h 0 0 Q := by
  have z0 : (0 : Int32).toInt = 0 := rfl
  have z1 : (1 : Int32).toInt = 1 := rfl
  have z5 : (5 : Int32).toInt = 5 := rfl
  have z6 : (6 : Int32).toInt = 6 := rfl
  have z3 : (3 : Int32).toInt = 3 := rfl
  refine wq_gos (f := 1) (pc2 := 1) (ls2 := [(0, .ref 0), (1, .int w), (2, .long v)]) (st2 := [.int w]) (h2 := h) (dc2 := 0) (ds2 := 0) 1 rfl ?_
  refine wq_lt0 rfl rfl (fun b1x => ?_) (fun b1x => ?_)
  · refine wq_gos (f := 1) (pc2 := 10) (ls2 := [(0, .ref 0), (1, .int w), (2, .long v)]) (st2 := [.int 0]) (h2 := h) (dc2 := 0) (ds2 := 0) 1 rfl ?_
    exact wq_ret rfl rfl (kF h (wFr_rf _ _) (by omega) (by unfold cAby; rw [if_pos b1x]))
  · refine wq_gos (f := 1) (pc2 := 6) (ls2 := [(0, .ref 0), (1, .int w), (2, .long v)]) (st2 := [.int 5, .int w]) (h2 := h) (dc2 := 0) (ds2 := 0) 2 rfl ?_
    have q2x : (5 : Int32).toInt = 5 := rfl
    refine wq_le2 rfl rfl (fun b3x => ?_) (fun b3x => ?_)
    · refine wq_gos (f := 1) (pc2 := 13) (ls2 := [(0, .ref 0), (1, .int w), (2, .long v)]) (st2 := [.int 3, .int w]) (h2 := h) (dc2 := 0) (ds2 := 0) 2 rfl ?_
      have q4x : (3 : Int32).toInt = 3 := rfl
      refine wq_ge2 rfl rfl (fun b5x => ?_) (fun b5x => ?_)
      · refine wq_gos (f := 1) (pc2 := 27) (ls2 := [(4, .long 0), (0, .ref 0), (1, .int w), (2, .long v)]) (st2 := [.int 3, .int w]) (h2 := h) (dc2 := 0) (ds2 := 0) 4 rfl ?_
        refine wq_ge2 rfl rfl (fun b6x => ?_) (fun b6x => ?_)
        · refine wq_gos (f := 1) (pc2 := 45) (ls2 := [(6, .long 63), (4, .long 0), (0, .ref 0), (1, .int w), (2, .long v)]) (st2 := [.int (lg_cmp v (0 : Int64))]) (h2 := h) (dc2 := 0) (ds2 := 0) 5 rfl ?_
          refine wq_lt0 rfl rfl (fun b7x => ?_) (fun b7x => ?_)
          · refine wq_gos (f := 1) (pc2 := 56) (ls2 := [(6, .long 63), (4, .long 0), (0, .ref 0), (1, .int w), (2, .long v)]) (st2 := [.int 0]) (h2 := h) (dc2 := 0) (ds2 := 0) 1 rfl ?_
            exact wq_ret rfl rfl (kF h (wFr_rf _ _) (by omega) (by unfold cAby; rw [if_neg (Int.not_lt.mpr b1x), if_pos b3x, if_pos b5x, if_pos b6x, if_pos b7x]))
          · refine wq_gos (f := 1) (pc2 := 52) (ls2 := [(6, .long 63), (4, .long 0), (0, .ref 0), (1, .int w), (2, .long v)]) (st2 := [.int (lg_cmp v (63 : Int64))]) (h2 := h) (dc2 := 0) (ds2 := 0) 3 rfl ?_
            refine wq_le0 rfl rfl (fun b8x => ?_) (fun b8x => ?_)
            · refine wq_gos (f := 1) (pc2 := 58) (ls2 := [(6, .long 63), (4, .long 0), (0, .ref 0), (1, .int w), (2, .long v)]) (st2 := [.ref 0]) (h2 := h) (dc2 := 0) (ds2 := 0) 1 rfl ?_
              refine wq_getf rfl hX rfl rfl ?_
              refine wq_gos (f := 1) (pc2 := 62) (ls2 := [(6, .long 63), (4, .long 0), (0, .ref 0), (1, .int w), (2, .long v)]) (st2 := [.ref 0, .ref 36]) (h2 := h) (dc2 := 0) (ds2 := 0) 1 rfl ?_
              refine wq_getf rfl hX rfl rfl ?_
              refine wq_gos (f := 1) (pc2 := 66) (ls2 := [(6, .long 63), (4, .long 0), (0, .ref 0), (1, .int w), (2, .long v)]) (st2 := [.ref 0, .long ps, .ref 36]) (h2 := h) (dc2 := 0) (ds2 := 0) 1 rfl ?_
              refine wq_getf rfl hX rfl rfl ?_
              refine wq_inlv (y2 := 23) (as := [.long ps, .ref 34]) rfl rfl rfl hP rfl (wq_mono (c_push hP hP8 hP0 hAi (by first | omega | assumption | decide | solve_by_elim)) ?_)
              rintro _ ⟨h89x, un29x, us29x, rfl, f89x, l89x, c09x, c19x, c29x, p09x, p19x⟩
              subst p09x
              subst p19x
              show wq 112 72 [(6, .long 63), (4, .long 0), (0, .ref 0), (1, .int w), (2, .long v)] [] h89x 0 0 _
              refine wq_gos (f := 1) (pc2 := 73) (ls2 := [(6, .long 63), (4, .long 0), (0, .ref 0), (1, .int w), (2, .long v)]) (st2 := [.ref 0]) (h2 := h89x) (dc2 := 0) (ds2 := 0) 1 rfl ?_
              have e10x := (f89x.2 _ _ (wnc (by decide) (wnc (by decide) (wnc (by decide) wn0))) hX)
              refine wq_getf rfl e10x rfl rfl ?_
              refine wq_gos (f := 1) (pc2 := 79) (ls2 := [(6, .long 63), (4, .long 0), (0, .ref 0), (1, .int w), (2, .long v)]) (st2 := [.int (v).toInt32, .int w, .ref 34]) (h2 := h89x) (dc2 := 0) (ds2 := 0) 3 rfl ?_
              have e11x := (f89x.2 _ _ (wnc (by decide) (wnc (by decide) (wnc (by decide) wn0))) hAi)
              refine wq_iast rfl e11x (by first | omega | exact zin_t (by omega) (by omega)) rfl ?_
              intro h12x e13x f14x l15x
              have e13x : zat h12x 34 = some (.inl (0, 6, (zset 0 pl (w).toNatClampNeg (v).toInt32))) := e13x
              refine wq_gos (f := 1) (pc2 := 81) (ls2 := [(6, .long 63), (4, .long 0), (0, .ref 0), (1, .int w), (2, .long v)]) (st2 := [.int 1]) (h2 := h12x) (dc2 := 0) (ds2 := 0) 1 rfl ?_
              have e16x := (f14x.2 _ _ (wnc (by decide) wn0) c09x)
              have e17x := (f14x.2 _ _ (wnc (by decide) wn0) c19x)
              have e18x := (f14x.2 _ _ (wnc (by decide) wn0) c29x)
              exact wq_ret rfl rfl (kS h12x (wFr_tr (wFr_sub f89x (by simp)) (wFr_sub f14x (by simp))) (by omega) e13x e16x e17x e18x (by unfold cAby; rw [if_neg (Int.not_lt.mpr b1x), if_pos b3x, if_pos b5x, if_pos b6x, if_neg (Int.not_lt.mpr b7x), if_pos b8x]) (by first | omega | assumption | decide | solve_by_elim))
            · refine wq_gos (f := 1) (pc2 := 56) (ls2 := [(6, .long 63), (4, .long 0), (0, .ref 0), (1, .int w), (2, .long v)]) (st2 := [.int 0]) (h2 := h) (dc2 := 0) (ds2 := 0) 1 rfl ?_
              exact wq_ret rfl rfl (kF h (wFr_rf _ _) (by omega) (by unfold cAby; rw [if_neg (Int.not_lt.mpr b1x), if_pos b3x, if_pos b5x, if_pos b6x, if_neg (Int.not_lt.mpr b7x), if_neg (Int.not_le.mpr b8x)]))
        · refine wq_gos (f := 1) (pc2 := 45) (ls2 := [(6, .long 1000000000), (4, .long 0), (0, .ref 0), (1, .int w), (2, .long v)]) (st2 := [.int (lg_cmp v (0 : Int64))]) (h2 := h) (dc2 := 0) (ds2 := 0) 6 rfl ?_
          refine wq_lt0 rfl rfl (fun b19x => ?_) (fun b19x => ?_)
          · refine wq_gos (f := 1) (pc2 := 56) (ls2 := [(6, .long 1000000000), (4, .long 0), (0, .ref 0), (1, .int w), (2, .long v)]) (st2 := [.int 0]) (h2 := h) (dc2 := 0) (ds2 := 0) 1 rfl ?_
            exact wq_ret rfl rfl (kF h (wFr_rf _ _) (by omega) (by unfold cAby; rw [if_neg (Int.not_lt.mpr b1x), if_pos b3x, if_pos b5x, if_neg (Int.not_le.mpr b6x), if_pos b19x]))
          · refine wq_gos (f := 1) (pc2 := 52) (ls2 := [(6, .long 1000000000), (4, .long 0), (0, .ref 0), (1, .int w), (2, .long v)]) (st2 := [.int (lg_cmp v (1000000000 : Int64))]) (h2 := h) (dc2 := 0) (ds2 := 0) 3 rfl ?_
            refine wq_le0 rfl rfl (fun b20x => ?_) (fun b20x => ?_)
            · refine wq_gos (f := 1) (pc2 := 58) (ls2 := [(6, .long 1000000000), (4, .long 0), (0, .ref 0), (1, .int w), (2, .long v)]) (st2 := [.ref 0]) (h2 := h) (dc2 := 0) (ds2 := 0) 1 rfl ?_
              refine wq_getf rfl hX rfl rfl ?_
              refine wq_gos (f := 1) (pc2 := 62) (ls2 := [(6, .long 1000000000), (4, .long 0), (0, .ref 0), (1, .int w), (2, .long v)]) (st2 := [.ref 0, .ref 36]) (h2 := h) (dc2 := 0) (ds2 := 0) 1 rfl ?_
              refine wq_getf rfl hX rfl rfl ?_
              refine wq_gos (f := 1) (pc2 := 66) (ls2 := [(6, .long 1000000000), (4, .long 0), (0, .ref 0), (1, .int w), (2, .long v)]) (st2 := [.ref 0, .long ps, .ref 36]) (h2 := h) (dc2 := 0) (ds2 := 0) 1 rfl ?_
              refine wq_getf rfl hX rfl rfl ?_
              refine wq_inlv (y2 := 23) (as := [.long ps, .ref 34]) rfl rfl rfl hP rfl (wq_mono (c_push hP hP8 hP0 hAi (by first | omega | assumption | decide | solve_by_elim)) ?_)
              rintro _ ⟨h821x, un221x, us221x, rfl, f821x, l821x, c021x, c121x, c221x, p021x, p121x⟩
              subst p021x
              subst p121x
              show wq 112 72 [(6, .long 1000000000), (4, .long 0), (0, .ref 0), (1, .int w), (2, .long v)] [] h821x 0 0 _
              refine wq_gos (f := 1) (pc2 := 73) (ls2 := [(6, .long 1000000000), (4, .long 0), (0, .ref 0), (1, .int w), (2, .long v)]) (st2 := [.ref 0]) (h2 := h821x) (dc2 := 0) (ds2 := 0) 1 rfl ?_
              have e22x := (f821x.2 _ _ (wnc (by decide) (wnc (by decide) (wnc (by decide) wn0))) hX)
              refine wq_getf rfl e22x rfl rfl ?_
              refine wq_gos (f := 1) (pc2 := 79) (ls2 := [(6, .long 1000000000), (4, .long 0), (0, .ref 0), (1, .int w), (2, .long v)]) (st2 := [.int (v).toInt32, .int w, .ref 34]) (h2 := h821x) (dc2 := 0) (ds2 := 0) 3 rfl ?_
              have e23x := (f821x.2 _ _ (wnc (by decide) (wnc (by decide) (wnc (by decide) wn0))) hAi)
              refine wq_iast rfl e23x (by first | omega | exact zin_t (by omega) (by omega)) rfl ?_
              intro h24x e25x f26x l27x
              have e25x : zat h24x 34 = some (.inl (0, 6, (zset 0 pl (w).toNatClampNeg (v).toInt32))) := e25x
              refine wq_gos (f := 1) (pc2 := 81) (ls2 := [(6, .long 1000000000), (4, .long 0), (0, .ref 0), (1, .int w), (2, .long v)]) (st2 := [.int 1]) (h2 := h24x) (dc2 := 0) (ds2 := 0) 1 rfl ?_
              have e28x := (f26x.2 _ _ (wnc (by decide) wn0) c021x)
              have e29x := (f26x.2 _ _ (wnc (by decide) wn0) c121x)
              have e30x := (f26x.2 _ _ (wnc (by decide) wn0) c221x)
              exact wq_ret rfl rfl (kS h24x (wFr_tr (wFr_sub f821x (by simp)) (wFr_sub f26x (by simp))) (by omega) e25x e28x e29x e30x (by unfold cAby; rw [if_neg (Int.not_lt.mpr b1x), if_pos b3x, if_pos b5x, if_neg (Int.not_le.mpr b6x), if_neg (Int.not_lt.mpr b19x), if_pos b20x]) (by first | omega | assumption | decide | solve_by_elim))
            · refine wq_gos (f := 1) (pc2 := 56) (ls2 := [(6, .long 1000000000), (4, .long 0), (0, .ref 0), (1, .int w), (2, .long v)]) (st2 := [.int 0]) (h2 := h) (dc2 := 0) (ds2 := 0) 1 rfl ?_
              exact wq_ret rfl rfl (kF h (wFr_rf _ _) (by omega) (by unfold cAby; rw [if_neg (Int.not_lt.mpr b1x), if_pos b3x, if_pos b5x, if_neg (Int.not_le.mpr b6x), if_neg (Int.not_lt.mpr b19x), if_neg (Int.not_le.mpr b20x)]))
      · refine wq_gos (f := 1) (pc2 := 27) (ls2 := [(4, .long (-1000000000)), (0, .ref 0), (1, .int w), (2, .long v)]) (st2 := [.int 3, .int w]) (h2 := h) (dc2 := 0) (ds2 := 0) 5 rfl ?_
        refine wq_ge2 rfl rfl (fun b31x => ?_) (fun b31x => ?_)
        · refine wq_gos (f := 1) (pc2 := 45) (ls2 := [(6, .long 63), (4, .long (-1000000000)), (0, .ref 0), (1, .int w), (2, .long v)]) (st2 := [.int (lg_cmp v (-1000000000 : Int64))]) (h2 := h) (dc2 := 0) (ds2 := 0) 5 rfl ?_
          refine wq_lt0 rfl rfl (fun b32x => ?_) (fun b32x => ?_)
          · refine wq_gos (f := 1) (pc2 := 56) (ls2 := [(6, .long 63), (4, .long (-1000000000)), (0, .ref 0), (1, .int w), (2, .long v)]) (st2 := [.int 0]) (h2 := h) (dc2 := 0) (ds2 := 0) 1 rfl ?_
            exact wq_ret rfl rfl (kF h (wFr_rf _ _) (by omega) (by unfold cAby; rw [if_neg (Int.not_lt.mpr b1x), if_pos b3x, if_neg (Int.not_le.mpr b5x), if_pos b31x, if_pos b32x]))
          · refine wq_gos (f := 1) (pc2 := 52) (ls2 := [(6, .long 63), (4, .long (-1000000000)), (0, .ref 0), (1, .int w), (2, .long v)]) (st2 := [.int (lg_cmp v (63 : Int64))]) (h2 := h) (dc2 := 0) (ds2 := 0) 3 rfl ?_
            refine wq_le0 rfl rfl (fun b33x => ?_) (fun b33x => ?_)
            · refine wq_gos (f := 1) (pc2 := 58) (ls2 := [(6, .long 63), (4, .long (-1000000000)), (0, .ref 0), (1, .int w), (2, .long v)]) (st2 := [.ref 0]) (h2 := h) (dc2 := 0) (ds2 := 0) 1 rfl ?_
              refine wq_getf rfl hX rfl rfl ?_
              refine wq_gos (f := 1) (pc2 := 62) (ls2 := [(6, .long 63), (4, .long (-1000000000)), (0, .ref 0), (1, .int w), (2, .long v)]) (st2 := [.ref 0, .ref 36]) (h2 := h) (dc2 := 0) (ds2 := 0) 1 rfl ?_
              refine wq_getf rfl hX rfl rfl ?_
              refine wq_gos (f := 1) (pc2 := 66) (ls2 := [(6, .long 63), (4, .long (-1000000000)), (0, .ref 0), (1, .int w), (2, .long v)]) (st2 := [.ref 0, .long ps, .ref 36]) (h2 := h) (dc2 := 0) (ds2 := 0) 1 rfl ?_
              refine wq_getf rfl hX rfl rfl ?_
              refine wq_inlv (y2 := 23) (as := [.long ps, .ref 34]) rfl rfl rfl hP rfl (wq_mono (c_push hP hP8 hP0 hAi (by first | omega | assumption | decide | solve_by_elim)) ?_)
              rintro _ ⟨h834x, un234x, us234x, rfl, f834x, l834x, c034x, c134x, c234x, p034x, p134x⟩
              subst p034x
              subst p134x
              show wq 112 72 [(6, .long 63), (4, .long (-1000000000)), (0, .ref 0), (1, .int w), (2, .long v)] [] h834x 0 0 _
              refine wq_gos (f := 1) (pc2 := 73) (ls2 := [(6, .long 63), (4, .long (-1000000000)), (0, .ref 0), (1, .int w), (2, .long v)]) (st2 := [.ref 0]) (h2 := h834x) (dc2 := 0) (ds2 := 0) 1 rfl ?_
              have e35x := (f834x.2 _ _ (wnc (by decide) (wnc (by decide) (wnc (by decide) wn0))) hX)
              refine wq_getf rfl e35x rfl rfl ?_
              refine wq_gos (f := 1) (pc2 := 79) (ls2 := [(6, .long 63), (4, .long (-1000000000)), (0, .ref 0), (1, .int w), (2, .long v)]) (st2 := [.int (v).toInt32, .int w, .ref 34]) (h2 := h834x) (dc2 := 0) (ds2 := 0) 3 rfl ?_
              have e36x := (f834x.2 _ _ (wnc (by decide) (wnc (by decide) (wnc (by decide) wn0))) hAi)
              refine wq_iast rfl e36x (by first | omega | exact zin_t (by omega) (by omega)) rfl ?_
              intro h37x e38x f39x l40x
              have e38x : zat h37x 34 = some (.inl (0, 6, (zset 0 pl (w).toNatClampNeg (v).toInt32))) := e38x
              refine wq_gos (f := 1) (pc2 := 81) (ls2 := [(6, .long 63), (4, .long (-1000000000)), (0, .ref 0), (1, .int w), (2, .long v)]) (st2 := [.int 1]) (h2 := h37x) (dc2 := 0) (ds2 := 0) 1 rfl ?_
              have e41x := (f39x.2 _ _ (wnc (by decide) wn0) c034x)
              have e42x := (f39x.2 _ _ (wnc (by decide) wn0) c134x)
              have e43x := (f39x.2 _ _ (wnc (by decide) wn0) c234x)
              exact wq_ret rfl rfl (kS h37x (wFr_tr (wFr_sub f834x (by simp)) (wFr_sub f39x (by simp))) (by omega) e38x e41x e42x e43x (by unfold cAby; rw [if_neg (Int.not_lt.mpr b1x), if_pos b3x, if_neg (Int.not_le.mpr b5x), if_pos b31x, if_neg (Int.not_lt.mpr b32x), if_pos b33x]) (by first | omega | assumption | decide | solve_by_elim))
            · refine wq_gos (f := 1) (pc2 := 56) (ls2 := [(6, .long 63), (4, .long (-1000000000)), (0, .ref 0), (1, .int w), (2, .long v)]) (st2 := [.int 0]) (h2 := h) (dc2 := 0) (ds2 := 0) 1 rfl ?_
              exact wq_ret rfl rfl (kF h (wFr_rf _ _) (by omega) (by unfold cAby; rw [if_neg (Int.not_lt.mpr b1x), if_pos b3x, if_neg (Int.not_le.mpr b5x), if_pos b31x, if_neg (Int.not_lt.mpr b32x), if_neg (Int.not_le.mpr b33x)]))
        · refine wq_gos (f := 1) (pc2 := 45) (ls2 := [(6, .long 1000000000), (4, .long (-1000000000)), (0, .ref 0), (1, .int w), (2, .long v)]) (st2 := [.int (lg_cmp v (-1000000000 : Int64))]) (h2 := h) (dc2 := 0) (ds2 := 0) 6 rfl ?_
          refine wq_lt0 rfl rfl (fun b44x => ?_) (fun b44x => ?_)
          · refine wq_gos (f := 1) (pc2 := 56) (ls2 := [(6, .long 1000000000), (4, .long (-1000000000)), (0, .ref 0), (1, .int w), (2, .long v)]) (st2 := [.int 0]) (h2 := h) (dc2 := 0) (ds2 := 0) 1 rfl ?_
            exact wq_ret rfl rfl (kF h (wFr_rf _ _) (by omega) (by unfold cAby; rw [if_neg (Int.not_lt.mpr b1x), if_pos b3x, if_neg (Int.not_le.mpr b5x), if_neg (Int.not_le.mpr b31x), if_pos b44x]))
          · refine wq_gos (f := 1) (pc2 := 52) (ls2 := [(6, .long 1000000000), (4, .long (-1000000000)), (0, .ref 0), (1, .int w), (2, .long v)]) (st2 := [.int (lg_cmp v (1000000000 : Int64))]) (h2 := h) (dc2 := 0) (ds2 := 0) 3 rfl ?_
            refine wq_le0 rfl rfl (fun b45x => ?_) (fun b45x => ?_)
            · refine wq_gos (f := 1) (pc2 := 58) (ls2 := [(6, .long 1000000000), (4, .long (-1000000000)), (0, .ref 0), (1, .int w), (2, .long v)]) (st2 := [.ref 0]) (h2 := h) (dc2 := 0) (ds2 := 0) 1 rfl ?_
              refine wq_getf rfl hX rfl rfl ?_
              refine wq_gos (f := 1) (pc2 := 62) (ls2 := [(6, .long 1000000000), (4, .long (-1000000000)), (0, .ref 0), (1, .int w), (2, .long v)]) (st2 := [.ref 0, .ref 36]) (h2 := h) (dc2 := 0) (ds2 := 0) 1 rfl ?_
              refine wq_getf rfl hX rfl rfl ?_
              refine wq_gos (f := 1) (pc2 := 66) (ls2 := [(6, .long 1000000000), (4, .long (-1000000000)), (0, .ref 0), (1, .int w), (2, .long v)]) (st2 := [.ref 0, .long ps, .ref 36]) (h2 := h) (dc2 := 0) (ds2 := 0) 1 rfl ?_
              refine wq_getf rfl hX rfl rfl ?_
              refine wq_inlv (y2 := 23) (as := [.long ps, .ref 34]) rfl rfl rfl hP rfl (wq_mono (c_push hP hP8 hP0 hAi (by first | omega | assumption | decide | solve_by_elim)) ?_)
              rintro _ ⟨h846x, un246x, us246x, rfl, f846x, l846x, c046x, c146x, c246x, p046x, p146x⟩
              subst p046x
              subst p146x
              show wq 112 72 [(6, .long 1000000000), (4, .long (-1000000000)), (0, .ref 0), (1, .int w), (2, .long v)] [] h846x 0 0 _
              refine wq_gos (f := 1) (pc2 := 73) (ls2 := [(6, .long 1000000000), (4, .long (-1000000000)), (0, .ref 0), (1, .int w), (2, .long v)]) (st2 := [.ref 0]) (h2 := h846x) (dc2 := 0) (ds2 := 0) 1 rfl ?_
              have e47x := (f846x.2 _ _ (wnc (by decide) (wnc (by decide) (wnc (by decide) wn0))) hX)
              refine wq_getf rfl e47x rfl rfl ?_
              refine wq_gos (f := 1) (pc2 := 79) (ls2 := [(6, .long 1000000000), (4, .long (-1000000000)), (0, .ref 0), (1, .int w), (2, .long v)]) (st2 := [.int (v).toInt32, .int w, .ref 34]) (h2 := h846x) (dc2 := 0) (ds2 := 0) 3 rfl ?_
              have e48x := (f846x.2 _ _ (wnc (by decide) (wnc (by decide) (wnc (by decide) wn0))) hAi)
              refine wq_iast rfl e48x (by first | omega | exact zin_t (by omega) (by omega)) rfl ?_
              intro h49x e50x f51x l52x
              have e50x : zat h49x 34 = some (.inl (0, 6, (zset 0 pl (w).toNatClampNeg (v).toInt32))) := e50x
              refine wq_gos (f := 1) (pc2 := 81) (ls2 := [(6, .long 1000000000), (4, .long (-1000000000)), (0, .ref 0), (1, .int w), (2, .long v)]) (st2 := [.int 1]) (h2 := h49x) (dc2 := 0) (ds2 := 0) 1 rfl ?_
              have e53x := (f51x.2 _ _ (wnc (by decide) wn0) c046x)
              have e54x := (f51x.2 _ _ (wnc (by decide) wn0) c146x)
              have e55x := (f51x.2 _ _ (wnc (by decide) wn0) c246x)
              exact wq_ret rfl rfl (kS h49x (wFr_tr (wFr_sub f846x (by simp)) (wFr_sub f51x (by simp))) (by omega) e50x e53x e54x e55x (by unfold cAby; rw [if_neg (Int.not_lt.mpr b1x), if_pos b3x, if_neg (Int.not_le.mpr b5x), if_neg (Int.not_le.mpr b31x), if_neg (Int.not_lt.mpr b44x), if_pos b45x]) (by first | omega | assumption | decide | solve_by_elim))
            · refine wq_gos (f := 1) (pc2 := 56) (ls2 := [(6, .long 1000000000), (4, .long (-1000000000)), (0, .ref 0), (1, .int w), (2, .long v)]) (st2 := [.int 0]) (h2 := h) (dc2 := 0) (ds2 := 0) 1 rfl ?_
              exact wq_ret rfl rfl (kF h (wFr_rf _ _) (by omega) (by unfold cAby; rw [if_neg (Int.not_lt.mpr b1x), if_pos b3x, if_neg (Int.not_le.mpr b5x), if_neg (Int.not_le.mpr b31x), if_neg (Int.not_lt.mpr b44x), if_neg (Int.not_le.mpr b45x)]))
    · refine wq_gos (f := 1) (pc2 := 10) (ls2 := [(0, .ref 0), (1, .int w), (2, .long v)]) (st2 := [.int 0]) (h2 := h) (dc2 := 0) (ds2 := 0) 1 rfl ?_
      exact wq_ret rfl rfl (kF h (wFr_rf _ _) (by omega) (by unfold cAby; rw [if_neg (Int.not_lt.mpr b1x), if_neg (Int.not_le.mpr b3x)]))
noncomputable def cStep (sp : Nat) (sv : List Int32) (po : List Int64) (ps : Int64) (s n j : Int32) : Int32 := (if s.toInt < 0 then (-99) else (if s.toInt < (nI sp).toInt then (if j.toInt < 0 then (-99) else (if j.toInt < (6 : Int32).toInt then (if 0 ≤ n.toInt then (if n.toInt ≤ (tkF sv ps (po.getD (s).toNatClampNeg 0) (1000000 : Int32) (6 - 0 + 1) 0 0).toInt then (jNal ps (po.getD (s).toNatClampNeg 0) j n (tkF sv ps (po.getD (s).toNatClampNeg 0) (1000000 : Int32) (6 - 0 + 1) 0 0)) else (-99)) else (-99)) else (-99))) else (-99)))
set_option maxRecDepth 100000 in
set_option maxHeartbeats 4000000 in
theorem c_step {h : zH} {t ra rd : Nat} {ps ip : Int64} {im : Int32} {sp so : Nat} {lk hd ht bl sd : Int32} {rt : Int64} {sv : List Int32} {po : List Int64} {s n j : Int32} (hX : zat h 0 = some (.inr (.inr (.inr (9, [.ref 2, .int (nI t), .ref 4, .ref ra, .ref rd, .long ps, .ref 34, .ref 36, .int im, .long ip, .ref 42, .ref 44, .ref 60, .ref 66, .ref 72, .ref 74, .ref 150, .ref 158]))))) (hA : zat h ra = some (.inr (.inr (.inr (0, [.int lk, .int hd, .int ht, .int bl, .int sd, .long rt, .ref (ra + 2), .ref (ra + 4), .ref (ra + 6), .int (nI sp), .ref (ra + 8), .ref (ra + 10), .int (nI so), .ref (ra + 12)]))))) (hV : zat h (ra + 6) = some (.inl (0, 6, sv))) (hQ : zat h (ra + 10) = some (.inr (.inl (8, po)))) (hra : ra = 6 ∨ ra = 20) (hsp : sp ≤ 8) : wq 120 0 [(0, .ref 0), (1, .int s), (2, .int n), (3, .int j)] [] h 0 0 (fun rr9 => rr9 = (some (.int (cStep sp sv po ps s n j)), h, 0, 0)) := by
  have qnsp := nI_toInt (n := sp) (by omega)
  have z0 : (0 : Int32).toInt = 0 := rfl
  have z1 : (1 : Int32).toInt = 1 := rfl
  have z5 : (5 : Int32).toInt = 5 := rfl
  have z6 : (6 : Int32).toInt = 6 := rfl
  refine wq_gos (f := 1) (pc2 := 2) (ls2 := [(0, .ref 0), (1, .int s), (2, .int n), (3, .int j)]) (st2 := [.int s, .ref 0]) (h2 := h) (dc2 := 0) (ds2 := 0) 2 rfl ?_
  refine wq_inlv (y2 := 145) (as := [.int s]) rfl rfl rfl hX rfl ?_
  show wq 145 0 [(0, .ref 0), (1, .int s)] [] h 0 0 _
  refine wq_gos (f := 1) (pc2 := 1) (ls2 := [(0, .ref 0), (1, .int s)]) (st2 := [.int s]) (h2 := h) (dc2 := 0) (ds2 := 0) 1 rfl ?_
  refine wq_lt0 rfl rfl (fun b1x => ?_) (fun b1x => ?_)
  · refine wq_gos (f := 1) (pc2 := 20) (ls2 := [(0, .ref 0), (1, .int s)]) (st2 := [.int 1]) (h2 := h) (dc2 := 0) (ds2 := 0) 2 rfl ?_
    refine wq_ret rfl rfl ?_
    show wq 120 5 [(0, .ref 0), (1, .int s), (2, .int n), (3, .int j)] [.int 1] h 0 0 _
    refine wq_gos (f := 1) (pc2 := 21) (ls2 := [(0, .ref 0), (1, .int s), (2, .int n), (3, .int j)]) (st2 := [.int (-99)]) (h2 := h) (dc2 := 0) (ds2 := 0) 2 rfl ?_
    have w2x : (cStep sp sv po ps s n j) = (-99 : Int32) := by unfold cStep; rw [if_pos b1x]
    rw [w2x]
    exact wq_ret rfl rfl rfl
  · refine wq_gos (f := 1) (pc2 := 6) (ls2 := [(0, .ref 0), (1, .int s)]) (st2 := [.ref 0, .int s]) (h2 := h) (dc2 := 0) (ds2 := 0) 2 rfl ?_
    refine wq_getf rfl hX rfl rfl ?_
    refine wq_getf rfl hA rfl rfl ?_
    try have q3x := nI_toInt (n := sp) (by omega)
    refine wq_lt2 rfl rfl (fun b4x => ?_) (fun b4x => ?_)
    · refine wq_gos (f := 1) (pc2 := 20) (ls2 := [(0, .ref 0), (1, .int s)]) (st2 := [.int 0]) (h2 := h) (dc2 := 0) (ds2 := 0) 1 rfl ?_
      refine wq_ret rfl rfl ?_
      show wq 120 5 [(0, .ref 0), (1, .int s), (2, .int n), (3, .int j)] [.int 0] h 0 0 _
      refine wq_gos (f := 1) (pc2 := 9) (ls2 := [(0, .ref 0), (1, .int s), (2, .int n), (3, .int j)]) (st2 := [.int j]) (h2 := h) (dc2 := 0) (ds2 := 0) 2 rfl ?_
      refine wq_inl (y2 := 144) (as := [.int j]) rfl rfl rfl ?_
      show wq 144 0 [(0, .int j)] [] h 0 0 _
      refine wq_gos (f := 1) (pc2 := 1) (ls2 := [(0, .int j)]) (st2 := [.int j]) (h2 := h) (dc2 := 0) (ds2 := 0) 1 rfl ?_
      refine wq_lt0 rfl rfl (fun b5x => ?_) (fun b5x => ?_)
      · refine wq_gos (f := 1) (pc2 := 15) (ls2 := [(0, .int j)]) (st2 := [.int 1]) (h2 := h) (dc2 := 0) (ds2 := 0) 2 rfl ?_
        refine wq_ret rfl rfl ?_
        show wq 120 12 [(0, .ref 0), (1, .int s), (2, .int n), (3, .int j)] [.int 1] h 0 0 _
        refine wq_gos (f := 1) (pc2 := 21) (ls2 := [(0, .ref 0), (1, .int s), (2, .int n), (3, .int j)]) (st2 := [.int (-99)]) (h2 := h) (dc2 := 0) (ds2 := 0) 2 rfl ?_
        have w6x : (cStep sp sv po ps s n j) = (-99 : Int32) := by unfold cStep; rw [if_neg (Int.not_lt.mpr b1x), if_pos b4x, if_pos b5x]
        rw [w6x]
        exact wq_ret rfl rfl rfl
      · refine wq_gos (f := 1) (pc2 := 7) (ls2 := [(0, .int j)]) (st2 := [.int 6, .int j]) (h2 := h) (dc2 := 0) (ds2 := 0) 2 rfl ?_
        have q7x : (6 : Int32).toInt = 6 := rfl
        refine wq_lt2 rfl rfl (fun b8x => ?_) (fun b8x => ?_)
        · refine wq_gos (f := 1) (pc2 := 15) (ls2 := [(0, .int j)]) (st2 := [.int 0]) (h2 := h) (dc2 := 0) (ds2 := 0) 1 rfl ?_
          refine wq_ret rfl rfl ?_
          show wq 120 12 [(0, .ref 0), (1, .int s), (2, .int n), (3, .int j)] [.int 0] h 0 0 _
          refine wq_gos (f := 1) (pc2 := 16) (ls2 := [(0, .ref 0), (1, .int s), (2, .int n), (3, .int j)]) (st2 := [.int n]) (h2 := h) (dc2 := 0) (ds2 := 0) 2 rfl ?_
          refine wq_ge0 rfl rfl (fun b9x => ?_) (fun b9x => ?_)
          · refine wq_gos (f := 1) (pc2 := 23) (ls2 := [(0, .ref 0), (1, .int s), (2, .int n), (3, .int j)]) (st2 := [.ref 0]) (h2 := h) (dc2 := 0) (ds2 := 0) 1 rfl ?_
            refine wq_getf rfl hX rfl rfl ?_
            refine wq_getf rfl hA rfl rfl ?_
            refine wq_gos (f := 1) (pc2 := 30) (ls2 := [(0, .ref 0), (1, .int s), (2, .int n), (3, .int j)]) (st2 := [.int s, .ref (ra + 10)]) (h2 := h) (dc2 := 0) (ds2 := 0) 1 rfl ?_
            refine wq_lald rfl hQ (by first | omega | exact zin_t (by omega) (by omega)) rfl ?_
            refine wq_gos (f := 1) (pc2 := 34) (ls2 := [(4, .long (po.getD (s).toNatClampNeg 0)), (0, .ref 0), (1, .int s), (2, .int n), (3, .int j)]) (st2 := [.ref 0]) (h2 := h) (dc2 := 0) (ds2 := 0) 2 rfl ?_
            refine wq_getf rfl hX rfl rfl ?_
            refine wq_gos (f := 1) (pc2 := 38) (ls2 := [(4, .long (po.getD (s).toNatClampNeg 0)), (0, .ref 0), (1, .int s), (2, .int n), (3, .int j)]) (st2 := [.ref 0, .ref ra]) (h2 := h) (dc2 := 0) (ds2 := 0) 1 rfl ?_
            refine wq_getf rfl hX rfl rfl ?_
            refine wq_gos (f := 1) (pc2 := 43) (ls2 := [(4, .long (po.getD (s).toNatClampNeg 0)), (0, .ref 0), (1, .int s), (2, .int n), (3, .int j)]) (st2 := [.long (po.getD (s).toNatClampNeg 0), .long ps, .ref ra]) (h2 := h) (dc2 := 0) (ds2 := 0) 1 rfl ?_
            refine wq_inlv (y2 := 9) (as := [.long ps, .long (po.getD (s).toNatClampNeg 0)]) rfl rfl rfl hA rfl (wq_mono (c_tks hA hV) ?_)
            rintro _ rfl
            show wq 120 46 [(4, .long (po.getD (s).toNatClampNeg 0)), (0, .ref 0), (1, .int s), (2, .int n), (3, .int j)] [.int (tkF sv ps (po.getD (s).toNatClampNeg 0) (1000000 : Int32) (6 - 0 + 1) 0 0)] h 0 0 _
            refine wq_gos (f := 1) (pc2 := 51) (ls2 := [(6, .int (tkF sv ps (po.getD (s).toNatClampNeg 0) (1000000 : Int32) (6 - 0 + 1) 0 0)), (4, .long (po.getD (s).toNatClampNeg 0)), (0, .ref 0), (1, .int s), (2, .int n), (3, .int j)]) (st2 := [.int (tkF sv ps (po.getD (s).toNatClampNeg 0) (1000000 : Int32) (6 - 0 + 1) 0 0), .int n]) (h2 := h) (dc2 := 0) (ds2 := 0) 3 rfl ?_
            refine wq_le2 rfl rfl (fun b11x => ?_) (fun b11x => ?_)
            · refine wq_gos (f := 1) (pc2 := 60) (ls2 := [(6, .int (tkF sv ps (po.getD (s).toNatClampNeg 0) (1000000 : Int32) (6 - 0 + 1) 0 0)), (4, .long (po.getD (s).toNatClampNeg 0)), (0, .ref 0), (1, .int s), (2, .int n), (3, .int j)]) (st2 := [.ref 0]) (h2 := h) (dc2 := 0) (ds2 := 0) 1 rfl ?_
              refine wq_getf rfl hX rfl rfl ?_
              refine wq_gos (f := 1) (pc2 := 69) (ls2 := [(6, .int (tkF sv ps (po.getD (s).toNatClampNeg 0) (1000000 : Int32) (6 - 0 + 1) 0 0)), (4, .long (po.getD (s).toNatClampNeg 0)), (0, .ref 0), (1, .int s), (2, .int n), (3, .int j)]) (st2 := [.int (tkF sv ps (po.getD (s).toNatClampNeg 0) (1000000 : Int32) (6 - 0 + 1) 0 0), .int n, .int j, .long (po.getD (s).toNatClampNeg 0), .long ps]) (h2 := h) (dc2 := 0) (ds2 := 0) 4 rfl ?_
              refine wq_inl (y2 := 40) (as := [.long ps, .long (po.getD (s).toNatClampNeg 0), .int j, .int n, .int (tkF sv ps (po.getD (s).toNatClampNeg 0) (1000000 : Int32) (6 - 0 + 1) 0 0)]) rfl rfl rfl (wq_mono c_nal ?_)
              rintro _ rfl
              show wq 120 72 [(6, .int (tkF sv ps (po.getD (s).toNatClampNeg 0) (1000000 : Int32) (6 - 0 + 1) 0 0)), (4, .long (po.getD (s).toNatClampNeg 0)), (0, .ref 0), (1, .int s), (2, .int n), (3, .int j)] [.int (jNal ps (po.getD (s).toNatClampNeg 0) j n (tkF sv ps (po.getD (s).toNatClampNeg 0) (1000000 : Int32) (6 - 0 + 1) 0 0))] h 0 0 _
              have w13x : (cStep sp sv po ps s n j) = (jNal ps (po.getD (s).toNatClampNeg 0) j n (tkF sv ps (po.getD (s).toNatClampNeg 0) (1000000 : Int32) (6 - 0 + 1) 0 0)) := by unfold cStep; rw [if_neg (Int.not_lt.mpr b1x), if_pos b4x, if_neg (Int.not_lt.mpr b5x), if_pos b8x, if_pos b9x, if_pos b11x]
              rw [w13x]
              exact wq_ret rfl rfl rfl
            · refine wq_gos (f := 1) (pc2 := 72) (ls2 := [(6, .int (tkF sv ps (po.getD (s).toNatClampNeg 0) (1000000 : Int32) (6 - 0 + 1) 0 0)), (4, .long (po.getD (s).toNatClampNeg 0)), (0, .ref 0), (1, .int s), (2, .int n), (3, .int j)]) (st2 := [.int (-99)]) (h2 := h) (dc2 := 0) (ds2 := 0) 2 rfl ?_
              have w14x : (cStep sp sv po ps s n j) = (-99 : Int32) := by unfold cStep; rw [if_neg (Int.not_lt.mpr b1x), if_pos b4x, if_neg (Int.not_lt.mpr b5x), if_pos b8x, if_pos b9x, if_neg (Int.not_le.mpr b11x)]
              rw [w14x]
              exact wq_ret rfl rfl rfl
          · refine wq_gos (f := 1) (pc2 := 21) (ls2 := [(0, .ref 0), (1, .int s), (2, .int n), (3, .int j)]) (st2 := [.int (-99)]) (h2 := h) (dc2 := 0) (ds2 := 0) 1 rfl ?_
            have w15x : (cStep sp sv po ps s n j) = (-99 : Int32) := by unfold cStep; rw [if_neg (Int.not_lt.mpr b1x), if_pos b4x, if_neg (Int.not_lt.mpr b5x), if_pos b8x, if_neg (Int.not_le.mpr b9x)]
            rw [w15x]
            exact wq_ret rfl rfl rfl
        · refine wq_gos (f := 1) (pc2 := 15) (ls2 := [(0, .int j)]) (st2 := [.int 1]) (h2 := h) (dc2 := 0) (ds2 := 0) 2 rfl ?_
          refine wq_ret rfl rfl ?_
          show wq 120 12 [(0, .ref 0), (1, .int s), (2, .int n), (3, .int j)] [.int 1] h 0 0 _
          refine wq_gos (f := 1) (pc2 := 21) (ls2 := [(0, .ref 0), (1, .int s), (2, .int n), (3, .int j)]) (st2 := [.int (-99)]) (h2 := h) (dc2 := 0) (ds2 := 0) 2 rfl ?_
          have w16x : (cStep sp sv po ps s n j) = (-99 : Int32) := by unfold cStep; rw [if_neg (Int.not_lt.mpr b1x), if_pos b4x, if_neg (Int.not_lt.mpr b5x), if_neg (Int.not_lt.mpr b8x)]
          rw [w16x]
          exact wq_ret rfl rfl rfl
    · refine wq_gos (f := 1) (pc2 := 20) (ls2 := [(0, .ref 0), (1, .int s)]) (st2 := [.int 1]) (h2 := h) (dc2 := 0) (ds2 := 0) 2 rfl ?_
      refine wq_ret rfl rfl ?_
      show wq 120 5 [(0, .ref 0), (1, .int s), (2, .int n), (3, .int j)] [.int 1] h 0 0 _
      refine wq_gos (f := 1) (pc2 := 21) (ls2 := [(0, .ref 0), (1, .int s), (2, .int n), (3, .int j)]) (st2 := [.int (-99)]) (h2 := h) (dc2 := 0) (ds2 := 0) 2 rfl ?_
      have w17x : (cStep sp sv po ps s n j) = (-99 : Int32) := by unfold cStep; rw [if_neg (Int.not_lt.mpr b1x), if_neg (Int.not_lt.mpr b4x)]
      rw [w17x]
      exact wq_ret rfl rfl rfl
noncomputable def meF (ps p : Int64) (m9 : Int32) : Nat → Nat → Int32
  | 0, _ => 0
  | m + 1, k => (if m9.toInt < (nI k).toInt then (-2) else (if (jmea (jAlo ps p (nI k) m9)) ≠ (0 : Int32) then (meF ps p m9 m (k + 1)) else (nI k)))
set_option maxRecDepth 100000 in
set_option maxHeartbeats 4000000 in
theorem c_meL {h : zH} {t ra rd : Nat} {ps ip : Int64} {im : Int32} {p : Int64} {m9 : Int32} (hX : zat h 0 = some (.inr (.inr (.inr (9, [.ref 2, .int (nI t), .ref 4, .ref ra, .ref rd, .long ps, .ref 34, .ref 36, .int im, .long ip, .ref 42, .ref 44, .ref 60, .ref 66, .ref 72, .ref 74, .ref 150, .ref 158]))))) (hm : 0 ≤ m9.toInt ∧ m9.toInt ≤ 300) : ∀ (m : Nat) (k : Nat), (k ≤ m9.toInt + 1) → (m9.toInt + 1 - k).toNat < m → ∀ (dc ds : Nat), wq 121 37 [(2, .long p), (0, .ref 0), (4, .int m9), (5, .int (nI k))] [] h dc ds (fun rr9 => rr9 = (some (Value.int (meF ps p m9 m k)), h, dc, ds)) := by
  intro m
  induction m with
  | zero => intro k hk hms dc ds; omega
  | succ m ih =>
    intro k hk hms dc ds
    have qk := nI_toInt (n := k) (by omega)
    refine wq_gos (f := 1) (pc2 := 41) (ls2 := [(2, .long p), (0, .ref 0), (4, .int m9), (5, .int (nI k))]) (st2 := [.int m9, .int (nI k)]) (h2 := h) (dc2 := dc) (ds2 := ds) 2 rfl ?_
    try have q1x := nI_toInt (n := k) (by omega)
    refine wq_gt2 rfl rfl (fun b2x => ?_) (fun b2x => ?_)
    · refine wq_gos (f := 1) (pc2 := 73) (ls2 := [(2, .long p), (0, .ref 0), (4, .int m9), (5, .int (nI k))]) (st2 := [.int (-2)]) (h2 := h) (dc2 := dc) (ds2 := ds) 1 rfl ?_
      have hx : (meF ps p m9 (m + 1) k) = (-2) := by show (if _ then _ else _) = _; rw [if_pos b2x]
      refine wq_ret rfl rfl ?_
      show (some (Value.int (-2)), h, dc, ds) = (some (Value.int (meF ps p m9 (m + 1) k)), h, dc, ds)
      rw [hx]
    · refine wq_gos (f := 1) (pc2 := 45) (ls2 := [(2, .long p), (0, .ref 0), (4, .int m9), (5, .int (nI k))]) (st2 := [.ref 0]) (h2 := h) (dc2 := dc) (ds2 := ds) 1 rfl ?_
      refine wq_getf rfl hX rfl rfl ?_
      refine wq_gos (f := 1) (pc2 := 53) (ls2 := [(2, .long p), (0, .ref 0), (4, .int m9), (5, .int (nI k))]) (st2 := [.int m9, .int (nI k), .long p, .long ps]) (h2 := h) (dc2 := dc) (ds2 := ds) 3 rfl ?_
      refine wq_inl (y2 := 41) (as := [.long ps, .long p, .int (nI k), .int m9]) rfl rfl rfl (wq_mono c_alo ?_)
      rintro _ rfl
      show wq 121 56 [(2, .long p), (0, .ref 0), (4, .int m9), (5, .int (nI k))] [.long (jAlo ps p (nI k) m9)] h dc ds _
      refine wq_inl (y2 := 37) (as := [.long (jAlo ps p (nI k) m9)]) rfl rfl rfl (wq_T (c_mea (jAlo ps p (nI k) m9) h) ?_)
      show wq 121 59 [(2, .long p), (0, .ref 0), (4, .int m9), (5, .int (nI k))] [.int (jmea (jAlo ps p (nI k) m9))] h dc ds _
      refine wq_ne0 rfl rfl (fun b4x => ?_) (fun b4x => ?_)
      · have q5x : (jmea (jAlo ps p (nI k) m9)).toInt ≠ 0 := fun q => b4x (Int32.toInt_inj.mp q)
        refine wq_gos (f := 1) (pc2 := 68) (ls2 := [(5, .int ((nI k) + 1)), (2, .long p), (0, .ref 0), (4, .int m9)]) (st2 := []) (h2 := h) (dc2 := dc) (ds2 := ds) 1 rfl ?_
        rw [nI_1]
        refine wq_gos (f := 1) (pc2 := 37) (ls2 := [(5, .int (nI (k + 1))), (2, .long p), (0, .ref 0), (4, .int m9)]) (st2 := []) (h2 := h) (dc2 := dc) (ds2 := ds) 1 rfl ?_
        try have q6x := nI_toInt (n := (k + 1)) (by omega)
        have hx : (meF ps p m9 (m + 1) k) = (meF ps p m9 m (k + 1)) := by show (if _ then _ else _) = _; rw [if_neg (Int.not_lt.mpr b2x), if_pos b4x]
        rw [hx]
        refine wq_ls [(2, .long p), (0, .ref 0), (4, .int m9), (5, .int (nI (k + 1)))] (show ([2, 0, 4, 5] : List Nat).Nodup by decide) ⟨rfl, rfl, rfl, rfl, trivial⟩ ?_
        exact ih (k + 1) (by first | omega | assumption | decide | solve_by_elim) (by omega) dc ds
      · have q7x : (jmea (jAlo ps p (nI k) m9)).toInt = 0 := congrArg Int32.toInt b4x
        refine wq_gos (f := 1) (pc2 := 64) (ls2 := [(2, .long p), (0, .ref 0), (4, .int m9), (5, .int (nI k))]) (st2 := [.int (nI k)]) (h2 := h) (dc2 := dc) (ds2 := ds) 1 rfl ?_
        have hx : (meF ps p m9 (m + 1) k) = (nI k) := by show (if _ then _ else _) = _; rw [if_neg (Int.not_lt.mpr b2x), if_neg (fun q => q b4x)]
        refine wq_ret rfl rfl ?_
        show (some (Value.int (nI k)), h, dc, ds) = (some (Value.int (meF ps p m9 (m + 1) k)), h, dc, ds)
        rw [hx]
noncomputable def cMee (sp : Nat) (sv : List Int32) (po : List Int64) (ps : Int64) (s : Int32) : Int32 := (if s.toInt < 0 then (-1) else (if s.toInt < (nI sp).toInt then (meF ps (po.getD (s).toNatClampNeg 0) (tkF sv ps (po.getD (s).toNatClampNeg 0) (1000000 : Int32) (6 - 0 + 1) 0 0) (((tkF sv ps (po.getD (s).toNatClampNeg 0) (1000000 : Int32) (6 - 0 + 1) 0 0).toInt + 1 - 0).toNat + 1) 0) else (-1)))
set_option maxRecDepth 100000 in
set_option maxHeartbeats 4000000 in
theorem c_mee {h : zH} {t ra rd : Nat} {ps ip : Int64} {im : Int32} {sp so : Nat} {lk hd ht bl sd : Int32} {rt : Int64} {sv : List Int32} {po : List Int64} {s : Int32} (hX : zat h 0 = some (.inr (.inr (.inr (9, [.ref 2, .int (nI t), .ref 4, .ref ra, .ref rd, .long ps, .ref 34, .ref 36, .int im, .long ip, .ref 42, .ref 44, .ref 60, .ref 66, .ref 72, .ref 74, .ref 150, .ref 158]))))) (hA : zat h ra = some (.inr (.inr (.inr (0, [.int lk, .int hd, .int ht, .int bl, .int sd, .long rt, .ref (ra + 2), .ref (ra + 4), .ref (ra + 6), .int (nI sp), .ref (ra + 8), .ref (ra + 10), .int (nI so), .ref (ra + 12)]))))) (hV : zat h (ra + 6) = some (.inl (0, 6, sv))) (hQ : zat h (ra + 10) = some (.inr (.inl (8, po)))) (hra : ra = 6 ∨ ra = 20) (hsp : sp ≤ 8) (hsv : wSpd sv) : wq 121 0 [(0, .ref 0), (1, .int s)] [] h 0 0 (fun rr9 => rr9 = (some (.int (cMee sp sv po ps s)), h, 0, 0)) := by
  have qnsp := nI_toInt (n := sp) (by omega)
  have z0 : (0 : Int32).toInt = 0 := rfl
  have z1 : (1 : Int32).toInt = 1 := rfl
  have z5 : (5 : Int32).toInt = 5 := rfl
  have z6 : (6 : Int32).toInt = 6 := rfl
  have hm := tk_rng hsv ps (po.getD s.toNatClampNeg 0) (1000000 : Int32) (6 - 0 + 1) 0 0 (by decide) (by decide)
  refine wq_gos (f := 1) (pc2 := 2) (ls2 := [(0, .ref 0), (1, .int s)]) (st2 := [.int s, .ref 0]) (h2 := h) (dc2 := 0) (ds2 := 0) 2 rfl ?_
  refine wq_inlv (y2 := 145) (as := [.int s]) rfl rfl rfl hX rfl ?_
  show wq 145 0 [(0, .ref 0), (1, .int s)] [] h 0 0 _
  refine wq_gos (f := 1) (pc2 := 1) (ls2 := [(0, .ref 0), (1, .int s)]) (st2 := [.int s]) (h2 := h) (dc2 := 0) (ds2 := 0) 1 rfl ?_
  refine wq_lt0 rfl rfl (fun b1x => ?_) (fun b1x => ?_)
  · refine wq_gos (f := 1) (pc2 := 20) (ls2 := [(0, .ref 0), (1, .int s)]) (st2 := [.int 1]) (h2 := h) (dc2 := 0) (ds2 := 0) 2 rfl ?_
    refine wq_ret rfl rfl ?_
    show wq 121 5 [(0, .ref 0), (1, .int s)] [.int 1] h 0 0 _
    refine wq_gos (f := 1) (pc2 := 9) (ls2 := [(0, .ref 0), (1, .int s)]) (st2 := [.int (-1)]) (h2 := h) (dc2 := 0) (ds2 := 0) 2 rfl ?_
    have w2x : (cMee sp sv po ps s) = (-1 : Int32) := by unfold cMee; rw [if_pos b1x]
    rw [w2x]
    exact wq_ret rfl rfl rfl
  · refine wq_gos (f := 1) (pc2 := 6) (ls2 := [(0, .ref 0), (1, .int s)]) (st2 := [.ref 0, .int s]) (h2 := h) (dc2 := 0) (ds2 := 0) 2 rfl ?_
    refine wq_getf rfl hX rfl rfl ?_
    refine wq_getf rfl hA rfl rfl ?_
    try have q3x := nI_toInt (n := sp) (by omega)
    refine wq_lt2 rfl rfl (fun b4x => ?_) (fun b4x => ?_)
    · refine wq_gos (f := 1) (pc2 := 20) (ls2 := [(0, .ref 0), (1, .int s)]) (st2 := [.int 0]) (h2 := h) (dc2 := 0) (ds2 := 0) 1 rfl ?_
      refine wq_ret rfl rfl ?_
      show wq 121 5 [(0, .ref 0), (1, .int s)] [.int 0] h 0 0 _
      refine wq_gos (f := 1) (pc2 := 11) (ls2 := [(0, .ref 0), (1, .int s)]) (st2 := [.ref 0]) (h2 := h) (dc2 := 0) (ds2 := 0) 2 rfl ?_
      refine wq_getf rfl hX rfl rfl ?_
      refine wq_getf rfl hA rfl rfl ?_
      refine wq_gos (f := 1) (pc2 := 18) (ls2 := [(0, .ref 0), (1, .int s)]) (st2 := [.int s, .ref (ra + 10)]) (h2 := h) (dc2 := 0) (ds2 := 0) 1 rfl ?_
      refine wq_lald rfl hQ (by first | omega | exact zin_t (by omega) (by omega)) rfl ?_
      refine wq_gos (f := 1) (pc2 := 21) (ls2 := [(2, .long (po.getD (s).toNatClampNeg 0)), (0, .ref 0), (1, .int s)]) (st2 := [.ref 0]) (h2 := h) (dc2 := 0) (ds2 := 0) 2 rfl ?_
      refine wq_getf rfl hX rfl rfl ?_
      refine wq_gos (f := 1) (pc2 := 25) (ls2 := [(2, .long (po.getD (s).toNatClampNeg 0)), (0, .ref 0), (1, .int s)]) (st2 := [.ref 0, .ref ra]) (h2 := h) (dc2 := 0) (ds2 := 0) 1 rfl ?_
      refine wq_getf rfl hX rfl rfl ?_
      refine wq_gos (f := 1) (pc2 := 29) (ls2 := [(2, .long (po.getD (s).toNatClampNeg 0)), (0, .ref 0), (1, .int s)]) (st2 := [.long (po.getD (s).toNatClampNeg 0), .long ps, .ref ra]) (h2 := h) (dc2 := 0) (ds2 := 0) 1 rfl ?_
      refine wq_inlv (y2 := 9) (as := [.long ps, .long (po.getD (s).toNatClampNeg 0)]) rfl rfl rfl hA rfl (wq_mono (c_tks hA hV) ?_)
      rintro _ rfl
      show wq 121 32 [(2, .long (po.getD (s).toNatClampNeg 0)), (0, .ref 0), (1, .int s)] [.int (tkF sv ps (po.getD (s).toNatClampNeg 0) (1000000 : Int32) (6 - 0 + 1) 0 0)] h 0 0 _
      refine wq_gos (f := 1) (pc2 := 37) (ls2 := [(5, .int 0), (4, .int (tkF sv ps (po.getD (s).toNatClampNeg 0) (1000000 : Int32) (6 - 0 + 1) 0 0)), (2, .long (po.getD (s).toNatClampNeg 0)), (0, .ref 0), (1, .int s)]) (st2 := []) (h2 := h) (dc2 := 0) (ds2 := 0) 3 rfl ?_
      refine wq_ls [(2, .long (po.getD (s).toNatClampNeg 0)), (0, .ref 0), (4, .int (tkF sv ps (po.getD (s).toNatClampNeg 0) (1000000 : Int32) (6 - 0 + 1) 0 0)), (5, .int (nI 0))] (show ([2, 0, 4, 5] : List Nat).Nodup by decide) ⟨rfl, rfl, rfl, rfl, trivial⟩ ?_
      refine wq_mono (c_meL hX (by first | omega | assumption | decide | solve_by_elim) (((tkF sv ps (po.getD (s).toNatClampNeg 0) (1000000 : Int32) (6 - 0 + 1) 0 0).toInt + 1 - 0).toNat + 1) 0 (by first | omega | assumption | decide | solve_by_elim) (by omega) 0 0) ?_
      rintro _ rfl
      have w6x : (cMee sp sv po ps s) = (meF ps (po.getD (s).toNatClampNeg 0) (tkF sv ps (po.getD (s).toNatClampNeg 0) (1000000 : Int32) (6 - 0 + 1) 0 0) (((tkF sv ps (po.getD (s).toNatClampNeg 0) (1000000 : Int32) (6 - 0 + 1) 0 0).toInt + 1 - 0).toNat + 1) 0) := by unfold cMee; rw [if_neg (Int.not_lt.mpr b1x), if_pos b4x]
      rw [w6x]
      all_goals exact rfl
    · refine wq_gos (f := 1) (pc2 := 20) (ls2 := [(0, .ref 0), (1, .int s)]) (st2 := [.int 1]) (h2 := h) (dc2 := 0) (ds2 := 0) 2 rfl ?_
      refine wq_ret rfl rfl ?_
      show wq 121 5 [(0, .ref 0), (1, .int s)] [.int 1] h 0 0 _
      refine wq_gos (f := 1) (pc2 := 9) (ls2 := [(0, .ref 0), (1, .int s)]) (st2 := [.int (-1)]) (h2 := h) (dc2 := 0) (ds2 := 0) 2 rfl ?_
      have w7x : (cMee sp sv po ps s) = (-1 : Int32) := by unfold cMee; rw [if_neg (Int.not_lt.mpr b1x), if_neg (Int.not_lt.mpr b4x)]
      rw [w7x]
      exact wq_ret rfl rfl rfl
noncomputable def frF (ll lg : List Int32) (ps : Int64) (j : Nat) (u v : Int32) : Nat → Int32 → Nat → Int32
  | 0, _, _ => 0
  | m + 1, by9, d => (if (128 : Int32).toInt < (nI d).toInt then by9 else (if u = (0 : Int32) then (if (jAlw ll lg j (v - (nI d))) = (0 : Int32) then by9 else (if (jmea (jwithv ps (nI j) (v - (nI d)))) ≠ (0 : Int32) then (frF ll lg ps j u v m (nI d) (d + 1)) else by9)) else (if (jAlw ll lg j (v + (nI d))) = (0 : Int32) then by9 else (if (jmea (jwithv ps (nI j) (v + (nI d)))) ≠ (0 : Int32) then (frF ll lg ps j u v m (nI d) (d + 1)) else by9))))
set_option maxRecDepth 100000 in
set_option maxHeartbeats 4000000 in
theorem c_frL {h : zH} {t ra rd : Nat} {ps ip : Int64} {im : Int32} {sp so : Nat} {lk hd ht bl sd : Int32} {rt : Int64} {ll lg : List Int32} {j : Nat} {u v : Int32} (hX : zat h 0 = some (.inr (.inr (.inr (9, [.ref 2, .int (nI t), .ref 4, .ref ra, .ref rd, .long ps, .ref 34, .ref 36, .int im, .long ip, .ref 42, .ref 44, .ref 60, .ref 66, .ref 72, .ref 74, .ref 150, .ref 158]))))) (hA : zat h ra = some (.inr (.inr (.inr (0, [.int lk, .int hd, .int ht, .int bl, .int sd, .long rt, .ref (ra + 2), .ref (ra + 4), .ref (ra + 6), .int (nI sp), .ref (ra + 8), .ref (ra + 10), .int (nI so), .ref (ra + 12)]))))) (hL : zat h (ra + 2) = some (.inl (0, 6, ll))) (hG : zat h (ra + 4) = some (.inl (0, 6, lg))) (hra : ra = 6 ∨ ra = 20) (hj : j < 6) : ∀ (m : Nat) (by9 : Int32) (d : Nat), (d ≤ 129) → (129 - d) < m → ∀ (dc ds : Nat), wq 133 24 [(0, .ref 0), (1, .int (nI j)), (2, .int u), (3, .int v), (4, .int by9), (5, .int (nI d))] [] h dc ds (fun rr9 => rr9 = (some (Value.int (frF ll lg ps j u v m by9 d)), h, dc, ds)) := by
  intro m
  induction m with
  | zero => intro by9 d hd hms dc ds; omega
  | succ m ih =>
    intro by9 d hd hms dc ds
    have qnd := nI_toInt (n := d) (by omega)
    have qnj := nI_toInt (n := j) (by omega)
    refine wq_gos (f := 1) (pc2 := 29) (ls2 := [(0, .ref 0), (1, .int (nI j)), (2, .int u), (3, .int v), (4, .int by9), (5, .int (nI d))]) (st2 := [.int 128, .int (nI d)]) (h2 := h) (dc2 := dc) (ds2 := ds) 2 rfl ?_
    try have q1x := nI_toInt (n := d) (by omega)
    have q2x : (128 : Int32).toInt = 128 := rfl
    refine wq_gt2 rfl rfl (fun b3x => ?_) (fun b3x => ?_)
    · refine wq_gos (f := 1) (pc2 := 93) (ls2 := [(0, .ref 0), (1, .int (nI j)), (2, .int u), (3, .int v), (4, .int by9), (5, .int (nI d))]) (st2 := [.int by9]) (h2 := h) (dc2 := dc) (ds2 := ds) 1 rfl ?_
      have hx : (frF ll lg ps j u v (m + 1) by9 d) = by9 := by show (if _ then _ else _) = _; rw [if_pos b3x]
      refine wq_ret rfl rfl ?_
      show (some (Value.int by9), h, dc, ds) = (some (Value.int (frF ll lg ps j u v (m + 1) by9 d)), h, dc, ds)
      rw [hx]
    · refine wq_gos (f := 1) (pc2 := 33) (ls2 := [(0, .ref 0), (1, .int (nI j)), (2, .int u), (3, .int v), (4, .int by9), (5, .int (nI d))]) (st2 := [.int u]) (h2 := h) (dc2 := dc) (ds2 := ds) 1 rfl ?_
      refine wq_eq0 rfl rfl (fun b4x => ?_) (fun b4x => ?_)
      · have q5x : u.toInt = 0 := congrArg Int32.toInt b4x
        refine wq_gos (f := 1) (pc2 := 50) (ls2 := [(6, .int (v - (nI d))), (0, .ref 0), (1, .int (nI j)), (2, .int u), (3, .int v), (4, .int by9), (5, .int (nI d))]) (st2 := [.ref 0]) (h2 := h) (dc2 := dc) (ds2 := ds) 5 rfl ?_
        refine wq_getf rfl hX rfl rfl ?_
        refine wq_gos (f := 1) (pc2 := 56) (ls2 := [(6, .int (v - (nI d))), (0, .ref 0), (1, .int (nI j)), (2, .int u), (3, .int v), (4, .int by9), (5, .int (nI d))]) (st2 := [.int (v - (nI d)), .int (nI j), .ref ra]) (h2 := h) (dc2 := dc) (ds2 := ds) 2 rfl ?_
        try have q6x := nI_toInt (n := j) (by omega)
        try have q7x : ((v - (nI d))).toInt = v.toInt - (nI d).toInt := e_sub (by omega) (by omega)
        refine wq_inlv (y2 := 3) (as := [.int (nI j), .int (v - (nI d))]) rfl rfl rfl hA rfl (wq_mono (c_allowv hA hL hG (by first | omega | assumption | decide | solve_by_elim)) ?_)
        rintro _ rfl
        show wq 133 59 [(6, .int (v - (nI d))), (0, .ref 0), (1, .int (nI j)), (2, .int u), (3, .int v), (4, .int by9), (5, .int (nI d))] [.int (jAlw ll lg j (v - (nI d)))] h dc ds _
        refine wq_eq0 rfl rfl (fun b9x => ?_) (fun b9x => ?_)
        · have q10x : (jAlw ll lg j (v - (nI d))).toInt = 0 := congrArg Int32.toInt b9x
          refine wq_gos (f := 1) (pc2 := 93) (ls2 := [(6, .int (v - (nI d))), (0, .ref 0), (1, .int (nI j)), (2, .int u), (3, .int v), (4, .int by9), (5, .int (nI d))]) (st2 := [.int by9]) (h2 := h) (dc2 := dc) (ds2 := ds) 1 rfl ?_
          have hx : (frF ll lg ps j u v (m + 1) by9 d) = by9 := by show (if _ then _ else _) = _; rw [if_neg (Int.not_lt.mpr b3x), if_pos b4x, if_pos b9x]
          refine wq_ret rfl rfl ?_
          show (some (Value.int by9), h, dc, ds) = (some (Value.int (frF ll lg ps j u v (m + 1) by9 d)), h, dc, ds)
          rw [hx]
        · have q11x : (jAlw ll lg j (v - (nI d))).toInt ≠ 0 := fun q => b9x (Int32.toInt_inj.mp q)
          refine wq_gos (f := 1) (pc2 := 63) (ls2 := [(6, .int (v - (nI d))), (0, .ref 0), (1, .int (nI j)), (2, .int u), (3, .int v), (4, .int by9), (5, .int (nI d))]) (st2 := [.ref 0]) (h2 := h) (dc2 := dc) (ds2 := ds) 1 rfl ?_
          refine wq_getf rfl hX rfl rfl ?_
          refine wq_gos (f := 1) (pc2 := 69) (ls2 := [(6, .int (v - (nI d))), (0, .ref 0), (1, .int (nI j)), (2, .int u), (3, .int v), (4, .int by9), (5, .int (nI d))]) (st2 := [.int (v - (nI d)), .int (nI j), .long ps]) (h2 := h) (dc2 := dc) (ds2 := ds) 2 rfl ?_
          refine wq_inl (y2 := 34) (as := [.long ps, .int (nI j), .int (v - (nI d))]) rfl rfl rfl (wq_mono c_withv ?_)
          rintro _ rfl
          show wq 133 72 [(6, .int (v - (nI d))), (0, .ref 0), (1, .int (nI j)), (2, .int u), (3, .int v), (4, .int by9), (5, .int (nI d))] [.long (jwithv ps (nI j) (v - (nI d)))] h dc ds _
          refine wq_inl (y2 := 37) (as := [.long (jwithv ps (nI j) (v - (nI d)))]) rfl rfl rfl (wq_T (c_mea (jwithv ps (nI j) (v - (nI d))) h) ?_)
          show wq 133 75 [(6, .int (v - (nI d))), (0, .ref 0), (1, .int (nI j)), (2, .int u), (3, .int v), (4, .int by9), (5, .int (nI d))] [.int (jmea (jwithv ps (nI j) (v - (nI d))))] h dc ds _
          refine wq_ne0 rfl rfl (fun b13x => ?_) (fun b13x => ?_)
          · have q14x : (jmea (jwithv ps (nI j) (v - (nI d)))).toInt ≠ 0 := fun q => b13x (Int32.toInt_inj.mp q)
            refine wq_gos (f := 1) (pc2 := 88) (ls2 := [(5, .int ((nI d) + 1)), (4, .int (nI d)), (6, .int (v - (nI d))), (0, .ref 0), (1, .int (nI j)), (2, .int u), (3, .int v)]) (st2 := []) (h2 := h) (dc2 := dc) (ds2 := ds) 3 rfl ?_
            rw [nI_1]
            refine wq_gos (f := 1) (pc2 := 24) (ls2 := [(5, .int (nI (d + 1))), (4, .int (nI d)), (6, .int (v - (nI d))), (0, .ref 0), (1, .int (nI j)), (2, .int u), (3, .int v)]) (st2 := []) (h2 := h) (dc2 := dc) (ds2 := ds) 1 rfl ?_
            try have q15x := nI_toInt (n := (d + 1)) (by omega)
            have hx : (frF ll lg ps j u v (m + 1) by9 d) = (frF ll lg ps j u v m (nI d) (d + 1)) := by show (if _ then _ else _) = _; rw [if_neg (Int.not_lt.mpr b3x), if_pos b4x, if_neg b9x, if_pos b13x]
            rw [hx]
            refine wq_ls [(0, .ref 0), (1, .int (nI j)), (2, .int u), (3, .int v), (4, .int (nI d)), (5, .int (nI (d + 1)))] (show ([0, 1, 2, 3, 4, 5] : List Nat).Nodup by decide) ⟨rfl, rfl, rfl, rfl, rfl, rfl, trivial⟩ ?_
            exact ih (nI d) (d + 1) (by first | omega | assumption | decide | solve_by_elim) (by omega) dc ds
          · have q16x : (jmea (jwithv ps (nI j) (v - (nI d)))).toInt = 0 := congrArg Int32.toInt b13x
            refine wq_gos (f := 1) (pc2 := 93) (ls2 := [(6, .int (v - (nI d))), (0, .ref 0), (1, .int (nI j)), (2, .int u), (3, .int v), (4, .int by9), (5, .int (nI d))]) (st2 := [.int by9]) (h2 := h) (dc2 := dc) (ds2 := ds) 2 rfl ?_
            have hx : (frF ll lg ps j u v (m + 1) by9 d) = by9 := by show (if _ then _ else _) = _; rw [if_neg (Int.not_lt.mpr b3x), if_pos b4x, if_neg b9x, if_neg (fun q => q b13x)]
            refine wq_ret rfl rfl ?_
            show (some (Value.int by9), h, dc, ds) = (some (Value.int (frF ll lg ps j u v (m + 1) by9 d)), h, dc, ds)
            rw [hx]
      · have q17x : u.toInt ≠ 0 := fun q => b4x (Int32.toInt_inj.mp q)
        refine wq_gos (f := 1) (pc2 := 50) (ls2 := [(6, .int (v + (nI d))), (0, .ref 0), (1, .int (nI j)), (2, .int u), (3, .int v), (4, .int by9), (5, .int (nI d))]) (st2 := [.ref 0]) (h2 := h) (dc2 := dc) (ds2 := ds) 6 rfl ?_
        refine wq_getf rfl hX rfl rfl ?_
        refine wq_gos (f := 1) (pc2 := 56) (ls2 := [(6, .int (v + (nI d))), (0, .ref 0), (1, .int (nI j)), (2, .int u), (3, .int v), (4, .int by9), (5, .int (nI d))]) (st2 := [.int (v + (nI d)), .int (nI j), .ref ra]) (h2 := h) (dc2 := dc) (ds2 := ds) 2 rfl ?_
        try have q18x := nI_toInt (n := j) (by omega)
        try have q19x : ((v + (nI d))).toInt = v.toInt + (nI d).toInt := e_add (by omega) (by omega)
        refine wq_inlv (y2 := 3) (as := [.int (nI j), .int (v + (nI d))]) rfl rfl rfl hA rfl (wq_mono (c_allowv hA hL hG (by first | omega | assumption | decide | solve_by_elim)) ?_)
        rintro _ rfl
        show wq 133 59 [(6, .int (v + (nI d))), (0, .ref 0), (1, .int (nI j)), (2, .int u), (3, .int v), (4, .int by9), (5, .int (nI d))] [.int (jAlw ll lg j (v + (nI d)))] h dc ds _
        refine wq_eq0 rfl rfl (fun b21x => ?_) (fun b21x => ?_)
        · have q22x : (jAlw ll lg j (v + (nI d))).toInt = 0 := congrArg Int32.toInt b21x
          refine wq_gos (f := 1) (pc2 := 93) (ls2 := [(6, .int (v + (nI d))), (0, .ref 0), (1, .int (nI j)), (2, .int u), (3, .int v), (4, .int by9), (5, .int (nI d))]) (st2 := [.int by9]) (h2 := h) (dc2 := dc) (ds2 := ds) 1 rfl ?_
          have hx : (frF ll lg ps j u v (m + 1) by9 d) = by9 := by show (if _ then _ else _) = _; rw [if_neg (Int.not_lt.mpr b3x), if_neg b4x, if_pos b21x]
          refine wq_ret rfl rfl ?_
          show (some (Value.int by9), h, dc, ds) = (some (Value.int (frF ll lg ps j u v (m + 1) by9 d)), h, dc, ds)
          rw [hx]
        · have q23x : (jAlw ll lg j (v + (nI d))).toInt ≠ 0 := fun q => b21x (Int32.toInt_inj.mp q)
          refine wq_gos (f := 1) (pc2 := 63) (ls2 := [(6, .int (v + (nI d))), (0, .ref 0), (1, .int (nI j)), (2, .int u), (3, .int v), (4, .int by9), (5, .int (nI d))]) (st2 := [.ref 0]) (h2 := h) (dc2 := dc) (ds2 := ds) 1 rfl ?_
          refine wq_getf rfl hX rfl rfl ?_
          refine wq_gos (f := 1) (pc2 := 69) (ls2 := [(6, .int (v + (nI d))), (0, .ref 0), (1, .int (nI j)), (2, .int u), (3, .int v), (4, .int by9), (5, .int (nI d))]) (st2 := [.int (v + (nI d)), .int (nI j), .long ps]) (h2 := h) (dc2 := dc) (ds2 := ds) 2 rfl ?_
          refine wq_inl (y2 := 34) (as := [.long ps, .int (nI j), .int (v + (nI d))]) rfl rfl rfl (wq_mono c_withv ?_)
          rintro _ rfl
          show wq 133 72 [(6, .int (v + (nI d))), (0, .ref 0), (1, .int (nI j)), (2, .int u), (3, .int v), (4, .int by9), (5, .int (nI d))] [.long (jwithv ps (nI j) (v + (nI d)))] h dc ds _
          refine wq_inl (y2 := 37) (as := [.long (jwithv ps (nI j) (v + (nI d)))]) rfl rfl rfl (wq_T (c_mea (jwithv ps (nI j) (v + (nI d))) h) ?_)
          show wq 133 75 [(6, .int (v + (nI d))), (0, .ref 0), (1, .int (nI j)), (2, .int u), (3, .int v), (4, .int by9), (5, .int (nI d))] [.int (jmea (jwithv ps (nI j) (v + (nI d))))] h dc ds _
          refine wq_ne0 rfl rfl (fun b25x => ?_) (fun b25x => ?_)
          · have q26x : (jmea (jwithv ps (nI j) (v + (nI d)))).toInt ≠ 0 := fun q => b25x (Int32.toInt_inj.mp q)
            refine wq_gos (f := 1) (pc2 := 88) (ls2 := [(5, .int ((nI d) + 1)), (4, .int (nI d)), (6, .int (v + (nI d))), (0, .ref 0), (1, .int (nI j)), (2, .int u), (3, .int v)]) (st2 := []) (h2 := h) (dc2 := dc) (ds2 := ds) 3 rfl ?_
            rw [nI_1]
            refine wq_gos (f := 1) (pc2 := 24) (ls2 := [(5, .int (nI (d + 1))), (4, .int (nI d)), (6, .int (v + (nI d))), (0, .ref 0), (1, .int (nI j)), (2, .int u), (3, .int v)]) (st2 := []) (h2 := h) (dc2 := dc) (ds2 := ds) 1 rfl ?_
            try have q27x := nI_toInt (n := (d + 1)) (by omega)
            have hx : (frF ll lg ps j u v (m + 1) by9 d) = (frF ll lg ps j u v m (nI d) (d + 1)) := by show (if _ then _ else _) = _; rw [if_neg (Int.not_lt.mpr b3x), if_neg b4x, if_neg b21x, if_pos b25x]
            rw [hx]
            refine wq_ls [(0, .ref 0), (1, .int (nI j)), (2, .int u), (3, .int v), (4, .int (nI d)), (5, .int (nI (d + 1)))] (show ([0, 1, 2, 3, 4, 5] : List Nat).Nodup by decide) ⟨rfl, rfl, rfl, rfl, rfl, rfl, trivial⟩ ?_
            exact ih (nI d) (d + 1) (by first | omega | assumption | decide | solve_by_elim) (by omega) dc ds
          · have q28x : (jmea (jwithv ps (nI j) (v + (nI d)))).toInt = 0 := congrArg Int32.toInt b25x
            refine wq_gos (f := 1) (pc2 := 93) (ls2 := [(6, .int (v + (nI d))), (0, .ref 0), (1, .int (nI j)), (2, .int u), (3, .int v), (4, .int by9), (5, .int (nI d))]) (st2 := [.int by9]) (h2 := h) (dc2 := dc) (ds2 := ds) 2 rfl ?_
            have hx : (frF ll lg ps j u v (m + 1) by9 d) = by9 := by show (if _ then _ else _) = _; rw [if_neg (Int.not_lt.mpr b3x), if_neg b4x, if_neg b21x, if_neg (fun q => q b25x)]
            refine wq_ret rfl rfl ?_
            show (some (Value.int by9), h, dc, ds) = (some (Value.int (frF ll lg ps j u v (m + 1) by9 d)), h, dc, ds)
            rw [hx]
noncomputable def cFree (ll lg : List Int32) (ps : Int64) (j : Nat) (u : Int32) : Int32 := (if (nI j).toInt < 0 then (-1) else (if (nI j).toInt < (6 : Int32).toInt then (frF ll lg ps j u (jnumv ps (nI j)) ((129 - 1) + 1) (0 : Int32) 1) else (-1)))
set_option maxRecDepth 100000 in
set_option maxHeartbeats 4000000 in
theorem c_free {h : zH} {t ra rd : Nat} {ps ip : Int64} {im : Int32} {sp so : Nat} {lk hd ht bl sd : Int32} {rt : Int64} {ll lg : List Int32} {j : Nat} {u : Int32} (hX : zat h 0 = some (.inr (.inr (.inr (9, [.ref 2, .int (nI t), .ref 4, .ref ra, .ref rd, .long ps, .ref 34, .ref 36, .int im, .long ip, .ref 42, .ref 44, .ref 60, .ref 66, .ref 72, .ref 74, .ref 150, .ref 158]))))) (hA : zat h ra = some (.inr (.inr (.inr (0, [.int lk, .int hd, .int ht, .int bl, .int sd, .long rt, .ref (ra + 2), .ref (ra + 4), .ref (ra + 6), .int (nI sp), .ref (ra + 8), .ref (ra + 10), .int (nI so), .ref (ra + 12)]))))) (hL : zat h (ra + 2) = some (.inl (0, 6, ll))) (hG : zat h (ra + 4) = some (.inl (0, 6, lg))) (hra : ra = 6 ∨ ra = 20) (hj : j < 6) : wq 133 0 [(0, .ref 0), (1, .int (nI j)), (2, .int u)] [] h 0 0 (fun rr9 => rr9 = (some (.int (cFree ll lg ps j u)), h, 0, 0)) := by
  have qnj := nI_toInt (n := j) (by omega)
  have z0 : (0 : Int32).toInt = 0 := rfl
  have z1 : (1 : Int32).toInt = 1 := rfl
  have z5 : (5 : Int32).toInt = 5 := rfl
  have z6 : (6 : Int32).toInt = 6 := rfl
  refine wq_gos (f := 1) (pc2 := 1) (ls2 := [(0, .ref 0), (1, .int (nI j)), (2, .int u)]) (st2 := [.int (nI j)]) (h2 := h) (dc2 := 0) (ds2 := 0) 1 rfl ?_
  refine wq_inl (y2 := 144) (as := [.int (nI j)]) rfl rfl rfl ?_
  show wq 144 0 [(0, .int (nI j))] [] h 0 0 _
  refine wq_gos (f := 1) (pc2 := 1) (ls2 := [(0, .int (nI j))]) (st2 := [.int (nI j)]) (h2 := h) (dc2 := 0) (ds2 := 0) 1 rfl ?_
  try have q1x := nI_toInt (n := j) (by omega)
  refine wq_lt0 rfl rfl (fun b2x => ?_) (fun b2x => ?_)
  · refine wq_gos (f := 1) (pc2 := 15) (ls2 := [(0, .int (nI j))]) (st2 := [.int 1]) (h2 := h) (dc2 := 0) (ds2 := 0) 2 rfl ?_
    refine wq_ret rfl rfl ?_
    show wq 133 4 [(0, .ref 0), (1, .int (nI j)), (2, .int u)] [.int 1] h 0 0 _
    refine wq_gos (f := 1) (pc2 := 8) (ls2 := [(0, .ref 0), (1, .int (nI j)), (2, .int u)]) (st2 := [.int (-1)]) (h2 := h) (dc2 := 0) (ds2 := 0) 2 rfl ?_
    have w3x : (cFree ll lg ps j u) = (-1 : Int32) := by unfold cFree; rw [if_pos b2x]
    rw [w3x]
    exact wq_ret rfl rfl rfl
  · refine wq_gos (f := 1) (pc2 := 7) (ls2 := [(0, .int (nI j))]) (st2 := [.int 6, .int (nI j)]) (h2 := h) (dc2 := 0) (ds2 := 0) 2 rfl ?_
    have q4x : (6 : Int32).toInt = 6 := rfl
    refine wq_lt2 rfl rfl (fun b5x => ?_) (fun b5x => ?_)
    · refine wq_gos (f := 1) (pc2 := 15) (ls2 := [(0, .int (nI j))]) (st2 := [.int 0]) (h2 := h) (dc2 := 0) (ds2 := 0) 1 rfl ?_
      refine wq_ret rfl rfl ?_
      show wq 133 4 [(0, .ref 0), (1, .int (nI j)), (2, .int u)] [.int 0] h 0 0 _
      refine wq_gos (f := 1) (pc2 := 10) (ls2 := [(0, .ref 0), (1, .int (nI j)), (2, .int u)]) (st2 := [.ref 0]) (h2 := h) (dc2 := 0) (ds2 := 0) 2 rfl ?_
      refine wq_getf rfl hX rfl rfl ?_
      refine wq_gos (f := 1) (pc2 := 14) (ls2 := [(0, .ref 0), (1, .int (nI j)), (2, .int u)]) (st2 := [.int (nI j), .long ps]) (h2 := h) (dc2 := 0) (ds2 := 0) 1 rfl ?_
      refine wq_inl (y2 := 33) (as := [.long ps, .int (nI j)]) rfl rfl rfl (wq_mono c_numv ?_)
      rintro _ rfl
      show wq 133 17 [(0, .ref 0), (1, .int (nI j)), (2, .int u)] [.int (jnumv ps (nI j))] h 0 0 _
      refine wq_gos (f := 1) (pc2 := 24) (ls2 := [(5, .int 1), (4, .int 0), (3, .int (jnumv ps (nI j))), (0, .ref 0), (1, .int (nI j)), (2, .int u)]) (st2 := []) (h2 := h) (dc2 := 0) (ds2 := 0) 5 rfl ?_
      refine wq_ls [(0, .ref 0), (1, .int (nI j)), (2, .int u), (3, .int (jnumv ps (nI j))), (4, .int (0 : Int32)), (5, .int (nI 1))] (show ([0, 1, 2, 3, 4, 5] : List Nat).Nodup by decide) ⟨rfl, rfl, rfl, rfl, rfl, rfl, trivial⟩ ?_
      refine wq_mono (c_frL hX hA hL hG (by first | omega | assumption | decide | solve_by_elim) (by first | omega | assumption | decide | solve_by_elim) ((129 - 1) + 1) (0 : Int32) 1 (by first | omega | assumption | decide | solve_by_elim) (by omega) 0 0) ?_
      rintro _ rfl
      have w7x : (cFree ll lg ps j u) = (frF ll lg ps j u (jnumv ps (nI j)) ((129 - 1) + 1) (0 : Int32) 1) := by unfold cFree; rw [if_neg (Int.not_lt.mpr b2x), if_pos b5x]
      rw [w7x]
      all_goals exact rfl
    · refine wq_gos (f := 1) (pc2 := 15) (ls2 := [(0, .int (nI j))]) (st2 := [.int 1]) (h2 := h) (dc2 := 0) (ds2 := 0) 2 rfl ?_
      refine wq_ret rfl rfl ?_
      show wq 133 4 [(0, .ref 0), (1, .int (nI j)), (2, .int u)] [.int 1] h 0 0 _
      refine wq_gos (f := 1) (pc2 := 8) (ls2 := [(0, .ref 0), (1, .int (nI j)), (2, .int u)]) (st2 := [.int (-1)]) (h2 := h) (dc2 := 0) (ds2 := 0) 2 rfl ?_
      have w8x : (cFree ll lg ps j u) = (-1 : Int32) := by unfold cFree; rw [if_neg (Int.not_lt.mpr b2x), if_neg (Int.not_lt.mpr b5x)]
      rw [w8x]
      exact wq_ret rfl rfl rfl
noncomputable def cCnt (t : Nat) (lk hd ht bl : Int32) (sp so us : Nat) (w : Int32) : Int32 := (if w = (0 : Int32) then lk else (if w = (1 : Int32) then hd else (if w = (2 : Int32) then ht else (if w = (3 : Int32) then bl else (if w = (4 : Int32) then (nI sp) else (if w = (5 : Int32) then (nI so) else (if w = (6 : Int32) then (nI us) else (if w = (7 : Int32) then (nI t) else (-1)))))))))
set_option maxRecDepth 100000 in
set_option maxHeartbeats 4000000 in
theorem c_cnt {h : zH} {t ra rd : Nat} {ps ip : Int64} {im : Int32} {sp so : Nat} {lk hd ht bl sd : Int32} {rt : Int64} {us un : Nat} {w : Int32} (hX : zat h 0 = some (.inr (.inr (.inr (9, [.ref 2, .int (nI t), .ref 4, .ref ra, .ref rd, .long ps, .ref 34, .ref 36, .int im, .long ip, .ref 42, .ref 44, .ref 60, .ref 66, .ref 72, .ref 74, .ref 150, .ref 158]))))) (hA : zat h ra = some (.inr (.inr (.inr (0, [.int lk, .int hd, .int ht, .int bl, .int sd, .long rt, .ref (ra + 2), .ref (ra + 4), .ref (ra + 6), .int (nI sp), .ref (ra + 8), .ref (ra + 10), .int (nI so), .ref (ra + 12)]))))) (hP : zat h 36 = some (.inr (.inr (.inr (2, [.int (nI us), .int (nI un), .ref 38, .ref 40]))))) (hra : ra = 6 ∨ ra = 20) : wq 143 0 [(0, .ref 0), (1, .int w)] [] h 0 0 (fun rr9 => rr9 = (some (.int (cCnt t lk hd ht bl sp so us w)), h, 0, 0)) := by
  have z0 : (0 : Int32).toInt = 0 := rfl
  have z1 : (1 : Int32).toInt = 1 := rfl
  have z5 : (5 : Int32).toInt = 5 := rfl
  have z6 : (6 : Int32).toInt = 6 := rfl
  refine wq_gos (f := 1) (pc2 := 1) (ls2 := [(0, .ref 0), (1, .int w)]) (st2 := [.int w]) (h2 := h) (dc2 := 0) (ds2 := 0) 1 rfl ?_
  by_cases b1x : w = (0 : Int32)
  · have q2x : w.toInt = 0 := congrArg Int32.toInt b1x
    refine wq_tabc rfl b1x rfl ?_
    refine wq_gos (f := 1) (pc2 := 49) (ls2 := [(0, .ref 0), (1, .int w)]) (st2 := [.ref 0]) (h2 := h) (dc2 := 0) (ds2 := 0) 1 rfl ?_
    refine wq_getf rfl hX rfl rfl ?_
    refine wq_getf rfl hA rfl rfl ?_
    have w3x : (cCnt t lk hd ht bl sp so us w) = lk := by unfold cCnt; rw [if_pos b1x]
    rw [w3x]
    exact wq_ret rfl rfl rfl
  have q4x : (w).toInt ≠ 0 := fun q => b1x (Int32.toInt_inj.mp q)
  by_cases b5x : w = (1 : Int32)
  · have q6x : w.toInt = 1 := congrArg Int32.toInt b5x
    refine wq_tabc rfl b5x rfl ?_
    refine wq_gos (f := 1) (pc2 := 57) (ls2 := [(0, .ref 0), (1, .int w)]) (st2 := [.ref 0]) (h2 := h) (dc2 := 0) (ds2 := 0) 1 rfl ?_
    refine wq_getf rfl hX rfl rfl ?_
    refine wq_getf rfl hA rfl rfl ?_
    have w7x : (cCnt t lk hd ht bl sp so us w) = hd := by unfold cCnt; rw [if_neg b1x, if_pos b5x]
    rw [w7x]
    exact wq_ret rfl rfl rfl
  have q8x : (w).toInt ≠ 1 := fun q => b5x (Int32.toInt_inj.mp q)
  by_cases b9x : w = (2 : Int32)
  · have q10x : w.toInt = 2 := congrArg Int32.toInt b9x
    refine wq_tabc rfl b9x rfl ?_
    refine wq_gos (f := 1) (pc2 := 65) (ls2 := [(0, .ref 0), (1, .int w)]) (st2 := [.ref 0]) (h2 := h) (dc2 := 0) (ds2 := 0) 1 rfl ?_
    refine wq_getf rfl hX rfl rfl ?_
    refine wq_getf rfl hA rfl rfl ?_
    have w11x : (cCnt t lk hd ht bl sp so us w) = ht := by unfold cCnt; rw [if_neg b1x, if_neg b5x, if_pos b9x]
    rw [w11x]
    exact wq_ret rfl rfl rfl
  have q12x : (w).toInt ≠ 2 := fun q => b9x (Int32.toInt_inj.mp q)
  by_cases b13x : w = (3 : Int32)
  · have q14x : w.toInt = 3 := congrArg Int32.toInt b13x
    refine wq_tabc rfl b13x rfl ?_
    refine wq_gos (f := 1) (pc2 := 73) (ls2 := [(0, .ref 0), (1, .int w)]) (st2 := [.ref 0]) (h2 := h) (dc2 := 0) (ds2 := 0) 1 rfl ?_
    refine wq_getf rfl hX rfl rfl ?_
    refine wq_getf rfl hA rfl rfl ?_
    have w15x : (cCnt t lk hd ht bl sp so us w) = bl := by unfold cCnt; rw [if_neg b1x, if_neg b5x, if_neg b9x, if_pos b13x]
    rw [w15x]
    exact wq_ret rfl rfl rfl
  have q16x : (w).toInt ≠ 3 := fun q => b13x (Int32.toInt_inj.mp q)
  by_cases b17x : w = (4 : Int32)
  · have q18x : w.toInt = 4 := congrArg Int32.toInt b17x
    refine wq_tabc rfl b17x rfl ?_
    refine wq_gos (f := 1) (pc2 := 81) (ls2 := [(0, .ref 0), (1, .int w)]) (st2 := [.ref 0]) (h2 := h) (dc2 := 0) (ds2 := 0) 1 rfl ?_
    refine wq_getf rfl hX rfl rfl ?_
    refine wq_getf rfl hA rfl rfl ?_
    have w19x : (cCnt t lk hd ht bl sp so us w) = (nI sp) := by unfold cCnt; rw [if_neg b1x, if_neg b5x, if_neg b9x, if_neg b13x, if_pos b17x]
    rw [w19x]
    exact wq_ret rfl rfl rfl
  have q20x : (w).toInt ≠ 4 := fun q => b17x (Int32.toInt_inj.mp q)
  by_cases b21x : w = (5 : Int32)
  · have q22x : w.toInt = 5 := congrArg Int32.toInt b21x
    refine wq_tabc rfl b21x rfl ?_
    refine wq_gos (f := 1) (pc2 := 89) (ls2 := [(0, .ref 0), (1, .int w)]) (st2 := [.ref 0]) (h2 := h) (dc2 := 0) (ds2 := 0) 1 rfl ?_
    refine wq_getf rfl hX rfl rfl ?_
    refine wq_getf rfl hA rfl rfl ?_
    have w23x : (cCnt t lk hd ht bl sp so us w) = (nI so) := by unfold cCnt; rw [if_neg b1x, if_neg b5x, if_neg b9x, if_neg b13x, if_neg b17x, if_pos b21x]
    rw [w23x]
    exact wq_ret rfl rfl rfl
  have q24x : (w).toInt ≠ 5 := fun q => b21x (Int32.toInt_inj.mp q)
  by_cases b25x : w = (6 : Int32)
  · have q26x : w.toInt = 6 := congrArg Int32.toInt b25x
    refine wq_tabc rfl b25x rfl ?_
    refine wq_gos (f := 1) (pc2 := 97) (ls2 := [(0, .ref 0), (1, .int w)]) (st2 := [.ref 0]) (h2 := h) (dc2 := 0) (ds2 := 0) 1 rfl ?_
    refine wq_getf rfl hX rfl rfl ?_
    refine wq_getf rfl hP rfl rfl ?_
    have w27x : (cCnt t lk hd ht bl sp so us w) = (nI us) := by unfold cCnt; rw [if_neg b1x, if_neg b5x, if_neg b9x, if_neg b13x, if_neg b17x, if_neg b21x, if_pos b25x]
    rw [w27x]
    exact wq_ret rfl rfl rfl
  have q28x : (w).toInt ≠ 6 := fun q => b25x (Int32.toInt_inj.mp q)
  by_cases b29x : w = (7 : Int32)
  · have q30x : w.toInt = 7 := congrArg Int32.toInt b29x
    refine wq_tabc rfl b29x rfl ?_
    refine wq_gos (f := 1) (pc2 := 105) (ls2 := [(0, .ref 0), (1, .int w)]) (st2 := [.ref 0]) (h2 := h) (dc2 := 0) (ds2 := 0) 1 rfl ?_
    refine wq_getf rfl hX rfl rfl ?_
    have w31x : (cCnt t lk hd ht bl sp so us w) = (nI t) := by unfold cCnt; rw [if_neg b1x, if_neg b5x, if_neg b9x, if_neg b13x, if_neg b17x, if_neg b21x, if_neg b25x, if_pos b29x]
    rw [w31x]
    exact wq_ret rfl rfl rfl
  have q32x : (w).toInt ≠ 7 := fun q => b29x (Int32.toInt_inj.mp q)
  refine wq_tabo rfl (by omega) ?_
  refine wq_gos (f := 1) (pc2 := 110) (ls2 := [(0, .ref 0), (1, .int w)]) (st2 := [.int (-1)]) (h2 := h) (dc2 := 0) (ds2 := 0) 1 rfl ?_
  have w33x : (cCnt t lk hd ht bl sp so us w) = (-1 : Int32) := by unfold cCnt; rw [if_neg b1x, if_neg b5x, if_neg b9x, if_neg b13x, if_neg b17x, if_neg b21x, if_neg b25x, if_neg b29x]
  rw [w33x]
  exact wq_ret rfl rfl rfl
