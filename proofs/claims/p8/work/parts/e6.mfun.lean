/-! The reference: what changes nothing: places, ticks, a route's joints. -/
noncomputable def mOutB (kn : List Int32) (a b p : Int32) : Int32 := (((kn.getD 0 0) * ((jcos a) + (jcos b))) + ((kn.getD 1 0) * (jcos p)))
set_option maxRecDepth 100000 in
set_option maxHeartbeats 4000000 in
theorem m_outBy {h : zH} {n0 n2 n14 n15 n16 n17 n18 n19 n20 n21 n22 n23 n27 n28 n32 n33 n34 n35 n39 n52 : Int32} {kn : List Int32} {a b p : Int32} (hM : zat h 162 = some (.inr (.inr (.inr (10, mO n0 n2 n14 n15 n16 n17 n18 n19 n20 n21 n22 n23 n27 n28 n32 n33 n34 n35 n39 n52))))) (hK : zat h 166 = some (.inl (0, 14, kn)))  : wq 197 0 [(0, .ref 162), (1, .int a), (2, .int b), (3, .int p)] [] h 0 0 (fun rr9 => rr9 = (some (.int (mOutB kn a b p)), h, 0, 0)) := by
  refine wq_gos (f := 1) (pc2 := 1) (ls2 := [(0, .ref 162), (1, .int a), (2, .int b), (3, .int p)]) (st2 := [.ref 162]) (h2 := h) (dc2 := 0) (ds2 := 0) 1 rfl ?_
  refine wq_getf rfl hM rfl rfl ?_
  refine wq_gos (f := 1) (pc2 := 5) (ls2 := [(0, .ref 162), (1, .int a), (2, .int b), (3, .int p)]) (st2 := [.int 0, .ref 166]) (h2 := h) (dc2 := 0) (ds2 := 0) 1 rfl ?_
  have q1x : (0 : Int32).toInt = 0 := rfl
  refine wq_iald rfl hK rfl rfl ?_
  refine wq_gos (f := 1) (pc2 := 7) (ls2 := [(0, .ref 162), (1, .int a), (2, .int b), (3, .int p)]) (st2 := [.int a, .int (kn.getD 0 0)]) (h2 := h) (dc2 := 0) (ds2 := 0) 1 rfl ?_
  refine wq_inl (y2 := 195) (as := [.int a]) rfl rfl rfl (wq_T (m_cos a h) ?_)
  show wq 197 10 [(0, .ref 162), (1, .int a), (2, .int b), (3, .int p)] [.int (jcos a), .int (kn.getD 0 0)] h 0 0 _
  refine wq_gos (f := 1) (pc2 := 11) (ls2 := [(0, .ref 162), (1, .int a), (2, .int b), (3, .int p)]) (st2 := [.int b, .int (jcos a), .int (kn.getD 0 0)]) (h2 := h) (dc2 := 0) (ds2 := 0) 1 rfl ?_
  refine wq_inl (y2 := 195) (as := [.int b]) rfl rfl rfl (wq_T (m_cos b h) ?_)
  show wq 197 14 [(0, .ref 162), (1, .int a), (2, .int b), (3, .int p)] [.int (jcos b), .int (jcos a), .int (kn.getD 0 0)] h 0 0 _
  refine wq_gos (f := 1) (pc2 := 17) (ls2 := [(0, .ref 162), (1, .int a), (2, .int b), (3, .int p)]) (st2 := [.ref 162, .int ((kn.getD 0 0) * ((jcos a) + (jcos b)))]) (h2 := h) (dc2 := 0) (ds2 := 0) 3 rfl ?_
  refine wq_getf rfl hM rfl rfl ?_
  refine wq_gos (f := 1) (pc2 := 21) (ls2 := [(0, .ref 162), (1, .int a), (2, .int b), (3, .int p)]) (st2 := [.int 1, .ref 166, .int ((kn.getD 0 0) * ((jcos a) + (jcos b)))]) (h2 := h) (dc2 := 0) (ds2 := 0) 1 rfl ?_
  have q2x : (1 : Int32).toInt = 1 := rfl
  refine wq_iald rfl hK rfl rfl ?_
  refine wq_gos (f := 1) (pc2 := 23) (ls2 := [(0, .ref 162), (1, .int a), (2, .int b), (3, .int p)]) (st2 := [.int p, .int (kn.getD 1 0), .int ((kn.getD 0 0) * ((jcos a) + (jcos b)))]) (h2 := h) (dc2 := 0) (ds2 := 0) 1 rfl ?_
  refine wq_inl (y2 := 195) (as := [.int p]) rfl rfl rfl (wq_T (m_cos p h) ?_)
  show wq 197 26 [(0, .ref 162), (1, .int a), (2, .int b), (3, .int p)] [.int (jcos p), .int (kn.getD 1 0), .int ((kn.getD 0 0) * ((jcos a) + (jcos b)))] h 0 0 _
  refine wq_gos (f := 1) (pc2 := 28) (ls2 := [(0, .ref 162), (1, .int a), (2, .int b), (3, .int p)]) (st2 := [.int (((kn.getD 0 0) * ((jcos a) + (jcos b))) + ((kn.getD 1 0) * (jcos p)))]) (h2 := h) (dc2 := 0) (ds2 := 0) 2 rfl ?_
  have w3x : (mOutB kn a b p) = (((kn.getD 0 0) * ((jcos a) + (jcos b))) + ((kn.getD 1 0) * (jcos p))) := by unfold mOutB; rfl
  rw [w3x]
  exact wq_ret rfl rfl rfl
noncomputable def mHgtB (kn : List Int32) (a b p : Int32) : Int32 := ((((1000 : Int32) * (kn.getD 2 0)) + ((kn.getD 0 0) * ((jsin a) + (jsin b)))) + ((kn.getD 1 0) * (jsin p)))
set_option maxRecDepth 100000 in
set_option maxHeartbeats 4000000 in
theorem m_hgtBy {h : zH} {n0 n2 n14 n15 n16 n17 n18 n19 n20 n21 n22 n23 n27 n28 n32 n33 n34 n35 n39 n52 : Int32} {kn : List Int32} {a b p : Int32} (hM : zat h 162 = some (.inr (.inr (.inr (10, mO n0 n2 n14 n15 n16 n17 n18 n19 n20 n21 n22 n23 n27 n28 n32 n33 n34 n35 n39 n52))))) (hK : zat h 166 = some (.inl (0, 14, kn)))  : wq 198 0 [(0, .ref 162), (1, .int a), (2, .int b), (3, .int p)] [] h 0 0 (fun rr9 => rr9 = (some (.int (mHgtB kn a b p)), h, 0, 0)) := by
  refine wq_gos (f := 1) (pc2 := 4) (ls2 := [(0, .ref 162), (1, .int a), (2, .int b), (3, .int p)]) (st2 := [.ref 162, .int 1000]) (h2 := h) (dc2 := 0) (ds2 := 0) 2 rfl ?_
  refine wq_getf rfl hM rfl rfl ?_
  refine wq_gos (f := 1) (pc2 := 8) (ls2 := [(0, .ref 162), (1, .int a), (2, .int b), (3, .int p)]) (st2 := [.int 2, .ref 166, .int 1000]) (h2 := h) (dc2 := 0) (ds2 := 0) 1 rfl ?_
  have q1x : (2 : Int32).toInt = 2 := rfl
  refine wq_iald rfl hK rfl rfl ?_
  refine wq_gos (f := 1) (pc2 := 11) (ls2 := [(0, .ref 162), (1, .int a), (2, .int b), (3, .int p)]) (st2 := [.ref 162, .int ((1000 : Int32) * (kn.getD 2 0))]) (h2 := h) (dc2 := 0) (ds2 := 0) 2 rfl ?_
  refine wq_getf rfl hM rfl rfl ?_
  refine wq_gos (f := 1) (pc2 := 15) (ls2 := [(0, .ref 162), (1, .int a), (2, .int b), (3, .int p)]) (st2 := [.int 0, .ref 166, .int ((1000 : Int32) * (kn.getD 2 0))]) (h2 := h) (dc2 := 0) (ds2 := 0) 1 rfl ?_
  have q2x : (0 : Int32).toInt = 0 := rfl
  refine wq_iald rfl hK rfl rfl ?_
  refine wq_gos (f := 1) (pc2 := 17) (ls2 := [(0, .ref 162), (1, .int a), (2, .int b), (3, .int p)]) (st2 := [.int a, .int (kn.getD 0 0), .int ((1000 : Int32) * (kn.getD 2 0))]) (h2 := h) (dc2 := 0) (ds2 := 0) 1 rfl ?_
  refine wq_inl (y2 := 196) (as := [.int a]) rfl rfl rfl (wq_T (m_sin a h) ?_)
  show wq 198 20 [(0, .ref 162), (1, .int a), (2, .int b), (3, .int p)] [.int (jsin a), .int (kn.getD 0 0), .int ((1000 : Int32) * (kn.getD 2 0))] h 0 0 _
  refine wq_gos (f := 1) (pc2 := 21) (ls2 := [(0, .ref 162), (1, .int a), (2, .int b), (3, .int p)]) (st2 := [.int b, .int (jsin a), .int (kn.getD 0 0), .int ((1000 : Int32) * (kn.getD 2 0))]) (h2 := h) (dc2 := 0) (ds2 := 0) 1 rfl ?_
  refine wq_inl (y2 := 196) (as := [.int b]) rfl rfl rfl (wq_T (m_sin b h) ?_)
  show wq 198 24 [(0, .ref 162), (1, .int a), (2, .int b), (3, .int p)] [.int (jsin b), .int (jsin a), .int (kn.getD 0 0), .int ((1000 : Int32) * (kn.getD 2 0))] h 0 0 _
  refine wq_gos (f := 1) (pc2 := 28) (ls2 := [(0, .ref 162), (1, .int a), (2, .int b), (3, .int p)]) (st2 := [.ref 162, .int (((1000 : Int32) * (kn.getD 2 0)) + ((kn.getD 0 0) * ((jsin a) + (jsin b))))]) (h2 := h) (dc2 := 0) (ds2 := 0) 4 rfl ?_
  refine wq_getf rfl hM rfl rfl ?_
  refine wq_gos (f := 1) (pc2 := 32) (ls2 := [(0, .ref 162), (1, .int a), (2, .int b), (3, .int p)]) (st2 := [.int 1, .ref 166, .int (((1000 : Int32) * (kn.getD 2 0)) + ((kn.getD 0 0) * ((jsin a) + (jsin b))))]) (h2 := h) (dc2 := 0) (ds2 := 0) 1 rfl ?_
  have q3x : (1 : Int32).toInt = 1 := rfl
  refine wq_iald rfl hK rfl rfl ?_
  refine wq_gos (f := 1) (pc2 := 34) (ls2 := [(0, .ref 162), (1, .int a), (2, .int b), (3, .int p)]) (st2 := [.int p, .int (kn.getD 1 0), .int (((1000 : Int32) * (kn.getD 2 0)) + ((kn.getD 0 0) * ((jsin a) + (jsin b))))]) (h2 := h) (dc2 := 0) (ds2 := 0) 1 rfl ?_
  refine wq_inl (y2 := 196) (as := [.int p]) rfl rfl rfl (wq_T (m_sin p h) ?_)
  show wq 198 37 [(0, .ref 162), (1, .int a), (2, .int b), (3, .int p)] [.int (jsin p), .int (kn.getD 1 0), .int (((1000 : Int32) * (kn.getD 2 0)) + ((kn.getD 0 0) * ((jsin a) + (jsin b))))] h 0 0 _
  refine wq_gos (f := 1) (pc2 := 39) (ls2 := [(0, .ref 162), (1, .int a), (2, .int b), (3, .int p)]) (st2 := [.int ((((1000 : Int32) * (kn.getD 2 0)) + ((kn.getD 0 0) * ((jsin a) + (jsin b)))) + ((kn.getD 1 0) * (jsin p)))]) (h2 := h) (dc2 := 0) (ds2 := 0) 2 rfl ?_
  have w4x : (mHgtB kn a b p) = ((((1000 : Int32) * (kn.getD 2 0)) + ((kn.getD 0 0) * ((jsin a) + (jsin b)))) + ((kn.getD 1 0) * (jsin p))) := by unfold mHgtB; rfl
  rw [w4x]
  exact wq_ret rfl rfl rfl
noncomputable def mSid (qq : List Int32) (k : Nat) : Int32 := (jsg (jsin (qq.getD (k + 1) 0)))
set_option maxRecDepth 100000 in
set_option maxHeartbeats 4000000 in
theorem m_sidev {h : zH} {rq nq k : Nat} {qq : List Int32} (hq : zat h rq = some (.inl (0, nq, qq))) (hk : k + 6 ≤ nq ∧ nq ≤ 20000) : wq 204 0 [(0, .ref rq), (1, .int (nI k))] [] h 0 0 (fun rr9 => rr9 = (some (.int (mSid qq k)), h, 0, 0)) := by
  have qnk := nI_toInt (n := k) (by omega)
  refine wq_gos (f := 1) (pc2 := 4) (ls2 := [(0, .ref rq), (1, .int (nI k))]) (st2 := [.int ((nI k) + (1 : Int32)), .ref rq]) (h2 := h) (dc2 := 0) (ds2 := 0) 4 rfl ?_
  refine wq_vi (show (nI k) + (1 : Int32) = nI (k + 1) from nI_add k 1) ?_
  try have q1x := nI_toInt (n := (k + 1)) (by omega)
  refine wq_ialdn rfl hq (by first | omega | exact zin_t (by omega) (by omega)) (by omega) rfl ?_
  refine wq_inl (y2 := 196) (as := [.int (qq.getD (k + 1) 0)]) rfl rfl rfl (wq_T (m_sin (qq.getD (k + 1) 0) h) ?_)
  show wq 204 8 [(0, .ref rq), (1, .int (nI k))] [.int (jsin (qq.getD (k + 1) 0))] h 0 0 _
  refine wq_inl (y2 := 202) (as := [.int (jsin (qq.getD (k + 1) 0))]) rfl rfl rfl (wq_T (m_sgn (jsin (qq.getD (k + 1) 0)) h) ?_)
  show wq 204 11 [(0, .ref rq), (1, .int (nI k))] [.int (jsg (jsin (qq.getD (k + 1) 0)))] h 0 0 _
  have w2x : (mSid qq k) = (jsg (jsin (qq.getD (k + 1) 0))) := by unfold mSid; rfl
  rw [w2x]
  exact wq_ret rfl rfl rfl
noncomputable def mBen (qq : List Int32) (k : Nat) : Int32 := (jsg (jsin (qq.getD (k + 3) 0)))
set_option maxRecDepth 100000 in
set_option maxHeartbeats 4000000 in
theorem m_bendv {h : zH} {rq nq k : Nat} {qq : List Int32} (hq : zat h rq = some (.inl (0, nq, qq))) (hk : k + 6 ≤ nq ∧ nq ≤ 20000) : wq 205 0 [(0, .ref rq), (1, .int (nI k))] [] h 0 0 (fun rr9 => rr9 = (some (.int (mBen qq k)), h, 0, 0)) := by
  have qnk := nI_toInt (n := k) (by omega)
  refine wq_gos (f := 1) (pc2 := 4) (ls2 := [(0, .ref rq), (1, .int (nI k))]) (st2 := [.int ((nI k) + (3 : Int32)), .ref rq]) (h2 := h) (dc2 := 0) (ds2 := 0) 4 rfl ?_
  refine wq_vi (show (nI k) + (3 : Int32) = nI (k + 3) from nI_add k 3) ?_
  try have q1x := nI_toInt (n := (k + 3)) (by omega)
  refine wq_ialdn rfl hq (by first | omega | exact zin_t (by omega) (by omega)) (by omega) rfl ?_
  refine wq_inl (y2 := 196) (as := [.int (qq.getD (k + 3) 0)]) rfl rfl rfl (wq_T (m_sin (qq.getD (k + 3) 0) h) ?_)
  show wq 205 8 [(0, .ref rq), (1, .int (nI k))] [.int (jsin (qq.getD (k + 3) 0))] h 0 0 _
  refine wq_inl (y2 := 202) (as := [.int (jsin (qq.getD (k + 3) 0))]) rfl rfl rfl (wq_T (m_sgn (jsin (qq.getD (k + 3) 0)) h) ?_)
  show wq 205 11 [(0, .ref rq), (1, .int (nI k))] [.int (jsg (jsin (qq.getD (k + 3) 0)))] h 0 0 _
  have w2x : (mBen qq k) = (jsg (jsin (qq.getD (k + 3) 0))) := by unfold mBen; rfl
  rw [w2x]
  exact wq_ret rfl rfl rfl
noncomputable def mMea (qq : List Int32) (k : Nat) : Int32 := ((jabs ((jsin (qq.getD (k + 1) 0)) * (jsin (qq.getD (k + 3) 0)))) / (1000 : Int32))
set_option maxRecDepth 100000 in
set_option maxHeartbeats 4000000 in
theorem m_meav {h : zH} {rq nq k : Nat} {qq : List Int32} (hq : zat h rq = some (.inl (0, nq, qq))) (hk : k + 6 ≤ nq ∧ nq ≤ 20000) : wq 206 0 [(0, .ref rq), (1, .int (nI k))] [] h 0 0 (fun rr9 => rr9 = (some (.int (mMea qq k)), h, 0, 0)) := by
  have qnk := nI_toInt (n := k) (by omega)
  refine wq_gos (f := 1) (pc2 := 4) (ls2 := [(0, .ref rq), (1, .int (nI k))]) (st2 := [.int ((nI k) + (1 : Int32)), .ref rq]) (h2 := h) (dc2 := 0) (ds2 := 0) 4 rfl ?_
  refine wq_vi (show (nI k) + (1 : Int32) = nI (k + 1) from nI_add k 1) ?_
  try have q1x := nI_toInt (n := (k + 1)) (by omega)
  refine wq_ialdn rfl hq (by first | omega | exact zin_t (by omega) (by omega)) (by omega) rfl ?_
  refine wq_inl (y2 := 196) (as := [.int (qq.getD (k + 1) 0)]) rfl rfl rfl (wq_T (m_sin (qq.getD (k + 1) 0) h) ?_)
  show wq 206 8 [(0, .ref rq), (1, .int (nI k))] [.int (jsin (qq.getD (k + 1) 0))] h 0 0 _
  refine wq_gos (f := 1) (pc2 := 12) (ls2 := [(0, .ref rq), (1, .int (nI k))]) (st2 := [.int ((nI k) + (3 : Int32)), .ref rq, .int (jsin (qq.getD (k + 1) 0))]) (h2 := h) (dc2 := 0) (ds2 := 0) 4 rfl ?_
  refine wq_vi (show (nI k) + (3 : Int32) = nI (k + 3) from nI_add k 3) ?_
  try have q2x := nI_toInt (n := (k + 3)) (by omega)
  refine wq_ialdn rfl hq (by first | omega | exact zin_t (by omega) (by omega)) (by omega) rfl ?_
  refine wq_inl (y2 := 196) (as := [.int (qq.getD (k + 3) 0)]) rfl rfl rfl (wq_T (m_sin (qq.getD (k + 3) 0) h) ?_)
  show wq 206 16 [(0, .ref rq), (1, .int (nI k))] [.int (jsin (qq.getD (k + 3) 0)), .int (jsin (qq.getD (k + 1) 0))] h 0 0 _
  refine wq_gos (f := 1) (pc2 := 17) (ls2 := [(0, .ref rq), (1, .int (nI k))]) (st2 := [.int ((jsin (qq.getD (k + 1) 0)) * (jsin (qq.getD (k + 3) 0)))]) (h2 := h) (dc2 := 0) (ds2 := 0) 1 rfl ?_
  refine wq_inl (y2 := 203) (as := [.int ((jsin (qq.getD (k + 1) 0)) * (jsin (qq.getD (k + 3) 0)))]) rfl rfl rfl (wq_T (m_abs ((jsin (qq.getD (k + 1) 0)) * (jsin (qq.getD (k + 3) 0))) h) ?_)
  show wq 206 20 [(0, .ref rq), (1, .int (nI k))] [.int (jabs ((jsin (qq.getD (k + 1) 0)) * (jsin (qq.getD (k + 3) 0))))] h 0 0 _
  refine wq_gos (f := 1) (pc2 := 24) (ls2 := [(0, .ref rq), (1, .int (nI k))]) (st2 := [.int ((jabs ((jsin (qq.getD (k + 1) 0)) * (jsin (qq.getD (k + 3) 0)))) / (1000 : Int32))]) (h2 := h) (dc2 := 0) (ds2 := 0) 2 rfl ?_
  have w3x : (mMea qq k) = ((jabs ((jsin (qq.getD (k + 1) 0)) * (jsin (qq.getD (k + 3) 0)))) / (1000 : Int32)) := by unfold mMea; rfl
  rw [w3x]
  exact wq_ret rfl rfl rfl
noncomputable def mOutO (kn qq : List Int32) (k : Nat) : Int32 := (mOutB kn (qq.getD (k + 2) 0) ((qq.getD (k + 2) 0) + (qq.getD (k + 3) 0)) (((qq.getD (k + 2) 0) + (qq.getD (k + 3) 0)) + (qq.getD (k + 4) 0)))
set_option maxRecDepth 100000 in
set_option maxHeartbeats 4000000 in
theorem m_outOf {h : zH} {n0 n2 n14 n15 n16 n17 n18 n19 n20 n21 n22 n23 n27 n28 n32 n33 n34 n35 n39 n52 : Int32} {rq nq k : Nat} {qq : List Int32} {kn : List Int32} (hM : zat h 162 = some (.inr (.inr (.inr (10, mO n0 n2 n14 n15 n16 n17 n18 n19 n20 n21 n22 n23 n27 n28 n32 n33 n34 n35 n39 n52))))) (hK : zat h 166 = some (.inl (0, 14, kn))) (hq : zat h rq = some (.inl (0, nq, qq))) (hk : k + 6 ≤ nq ∧ nq ≤ 20000) : wq 199 0 [(0, .ref 162), (1, .ref rq), (2, .int (nI k))] [] h 0 0 (fun rr9 => rr9 = (some (.int (mOutO kn qq k)), h, 0, 0)) := by
  have qnk := nI_toInt (n := k) (by omega)
  refine wq_gos (f := 1) (pc2 := 4) (ls2 := [(0, .ref 162), (1, .ref rq), (2, .int (nI k))]) (st2 := [.int ((nI k) + (2 : Int32)), .ref rq]) (h2 := h) (dc2 := 0) (ds2 := 0) 4 rfl ?_
  refine wq_vi (show (nI k) + (2 : Int32) = nI (k + 2) from nI_add k 2) ?_
  try have q1x := nI_toInt (n := (k + 2)) (by omega)
  refine wq_ialdn rfl hq (by first | omega | exact zin_t (by omega) (by omega)) (by omega) rfl ?_
  refine wq_gos (f := 1) (pc2 := 9) (ls2 := [(0, .ref 162), (1, .ref rq), (2, .int (nI k))]) (st2 := [.int ((nI k) + (3 : Int32)), .ref rq, .int (qq.getD (k + 2) 0)]) (h2 := h) (dc2 := 0) (ds2 := 0) 4 rfl ?_
  refine wq_vi (show (nI k) + (3 : Int32) = nI (k + 3) from nI_add k 3) ?_
  try have q2x := nI_toInt (n := (k + 3)) (by omega)
  refine wq_ialdn rfl hq (by first | omega | exact zin_t (by omega) (by omega)) (by omega) rfl ?_
  refine wq_gos (f := 1) (pc2 := 17) (ls2 := [(3, .int ((qq.getD (k + 2) 0) + (qq.getD (k + 3) 0))), (0, .ref 162), (1, .ref rq), (2, .int (nI k))]) (st2 := [.int ((nI k) + (2 : Int32)), .ref rq, .ref 162]) (h2 := h) (dc2 := 0) (ds2 := 0) 7 rfl ?_
  refine wq_vi (show (nI k) + (2 : Int32) = nI (k + 2) from nI_add k 2) ?_
  refine wq_ialdn rfl hq (by first | omega | exact zin_t (by omega) (by omega)) (by omega) rfl ?_
  refine wq_gos (f := 1) (pc2 := 24) (ls2 := [(3, .int ((qq.getD (k + 2) 0) + (qq.getD (k + 3) 0))), (0, .ref 162), (1, .ref rq), (2, .int (nI k))]) (st2 := [.int ((nI k) + (4 : Int32)), .ref rq, .int ((qq.getD (k + 2) 0) + (qq.getD (k + 3) 0)), .int ((qq.getD (k + 2) 0) + (qq.getD (k + 3) 0)), .int (qq.getD (k + 2) 0), .ref 162]) (h2 := h) (dc2 := 0) (ds2 := 0) 6 rfl ?_
  refine wq_vi (show (nI k) + (4 : Int32) = nI (k + 4) from nI_add k 4) ?_
  try have q3x := nI_toInt (n := (k + 4)) (by omega)
  refine wq_ialdn rfl hq (by first | omega | exact zin_t (by omega) (by omega)) (by omega) rfl ?_
  refine wq_gos (f := 1) (pc2 := 26) (ls2 := [(3, .int ((qq.getD (k + 2) 0) + (qq.getD (k + 3) 0))), (0, .ref 162), (1, .ref rq), (2, .int (nI k))]) (st2 := [.int (((qq.getD (k + 2) 0) + (qq.getD (k + 3) 0)) + (qq.getD (k + 4) 0)), .int ((qq.getD (k + 2) 0) + (qq.getD (k + 3) 0)), .int (qq.getD (k + 2) 0), .ref 162]) (h2 := h) (dc2 := 0) (ds2 := 0) 1 rfl ?_
  try have q4x : (((qq.getD (k + 2) 0) + (qq.getD (k + 3) 0))).toInt = (qq.getD (k + 2) 0).toInt + (qq.getD (k + 3) 0).toInt := e_add (by omega) (by omega)
  try have q5x : ((((qq.getD (k + 2) 0) + (qq.getD (k + 3) 0)) + (qq.getD (k + 4) 0))).toInt = ((qq.getD (k + 2) 0) + (qq.getD (k + 3) 0)).toInt + (qq.getD (k + 4) 0).toInt := e_add (by omega) (by omega)
  refine wq_inlv (y2 := 197) (as := [.int (qq.getD (k + 2) 0), .int ((qq.getD (k + 2) 0) + (qq.getD (k + 3) 0)), .int (((qq.getD (k + 2) 0) + (qq.getD (k + 3) 0)) + (qq.getD (k + 4) 0))]) rfl rfl rfl hM rfl (wq_mono (m_outBy hM hK) ?_)
  rintro _ rfl
  show wq 199 29 [(3, .int ((qq.getD (k + 2) 0) + (qq.getD (k + 3) 0))), (0, .ref 162), (1, .ref rq), (2, .int (nI k))] [.int (mOutB kn (qq.getD (k + 2) 0) ((qq.getD (k + 2) 0) + (qq.getD (k + 3) 0)) (((qq.getD (k + 2) 0) + (qq.getD (k + 3) 0)) + (qq.getD (k + 4) 0)))] h 0 0 _
  have w7x : (mOutO kn qq k) = (mOutB kn (qq.getD (k + 2) 0) ((qq.getD (k + 2) 0) + (qq.getD (k + 3) 0)) (((qq.getD (k + 2) 0) + (qq.getD (k + 3) 0)) + (qq.getD (k + 4) 0))) := by unfold mOutO; rfl
  rw [w7x]
  exact wq_ret rfl rfl rfl
noncomputable def mKep (qq : List Int32) (k : Nat) (pp : List Int32) (l : Nat) : Int32 := (if (mMea qq k) = (0 : Int32) then 0 else (if (mMea pp l) = (0 : Int32) then 0 else (if (mSid qq k) ≠ (mSid pp l) then 0 else (if (mBen qq k) ≠ (mBen pp l) then 0 else 1))))
set_option maxRecDepth 100000 in
set_option maxHeartbeats 4000000 in
theorem m_kept {h : zH} {n0 n2 n14 n15 n16 n17 n18 n19 n20 n21 n22 n23 n27 n28 n32 n33 n34 n35 n39 n52 : Int32} {rq nq k : Nat} {qq : List Int32} {rp np l : Nat} {pp : List Int32} (hM : zat h 162 = some (.inr (.inr (.inr (10, mO n0 n2 n14 n15 n16 n17 n18 n19 n20 n21 n22 n23 n27 n28 n32 n33 n34 n35 n39 n52))))) (hq : zat h rq = some (.inl (0, nq, qq))) (hp : zat h rp = some (.inl (0, np, pp))) (hk : k + 6 ≤ nq ∧ nq ≤ 20000) (hl : l + 6 ≤ np ∧ np ≤ 20000) : wq 234 0 [(0, .ref 162), (1, .ref rq), (2, .int (nI k)), (3, .ref rp), (4, .int (nI l))] [] h 0 0 (fun rr9 => rr9 = (some (.int (mKep qq k pp l)), h, 0, 0)) := by
  have qnk := nI_toInt (n := k) (by omega)
  have qnl := nI_toInt (n := l) (by omega)
  refine wq_gos (f := 1) (pc2 := 2) (ls2 := [(0, .ref 162), (1, .ref rq), (2, .int (nI k)), (3, .ref rp), (4, .int (nI l))]) (st2 := [.int (nI k), .ref rq]) (h2 := h) (dc2 := 0) (ds2 := 0) 2 rfl ?_
  try have q1x := nI_toInt (n := k) (by omega)
  refine wq_inl (y2 := 206) (as := [.ref rq, .int (nI k)]) rfl rfl rfl (wq_mono (m_meav hq (by first | omega | assumption | decide)) ?_)
  rintro _ rfl
  show wq 234 5 [(0, .ref 162), (1, .ref rq), (2, .int (nI k)), (3, .ref rp), (4, .int (nI l))] [.int (mMea qq k)] h 0 0 _
  refine wq_eq0 rfl rfl (fun b3x => ?_) (fun b3x => ?_)
  · have q4x : (mMea qq k).toInt = 0 := congrArg Int32.toInt b3x
    refine wq_gos (f := 1) (pc2 := 50) (ls2 := [(0, .ref 162), (1, .ref rq), (2, .int (nI k)), (3, .ref rp), (4, .int (nI l))]) (st2 := [.int 0]) (h2 := h) (dc2 := 0) (ds2 := 0) 1 rfl ?_
    have w5x : (mKep qq k pp l) = (0 : Int32) := by unfold mKep; rw [if_pos b3x]
    rw [w5x]
    exact wq_ret rfl rfl rfl
  · have q6x : (mMea qq k).toInt ≠ 0 := fun q => b3x (Int32.toInt_inj.mp q)
    refine wq_gos (f := 1) (pc2 := 11) (ls2 := [(0, .ref 162), (1, .ref rq), (2, .int (nI k)), (3, .ref rp), (4, .int (nI l))]) (st2 := [.int (nI l), .ref rp]) (h2 := h) (dc2 := 0) (ds2 := 0) 2 rfl ?_
    try have q7x := nI_toInt (n := l) (by omega)
    refine wq_inl (y2 := 206) (as := [.ref rp, .int (nI l)]) rfl rfl rfl (wq_mono (m_meav hp (by first | omega | assumption | decide)) ?_)
    rintro _ rfl
    show wq 234 14 [(0, .ref 162), (1, .ref rq), (2, .int (nI k)), (3, .ref rp), (4, .int (nI l))] [.int (mMea pp l)] h 0 0 _
    refine wq_eq0 rfl rfl (fun b9x => ?_) (fun b9x => ?_)
    · have q10x : (mMea pp l).toInt = 0 := congrArg Int32.toInt b9x
      refine wq_gos (f := 1) (pc2 := 50) (ls2 := [(0, .ref 162), (1, .ref rq), (2, .int (nI k)), (3, .ref rp), (4, .int (nI l))]) (st2 := [.int 0]) (h2 := h) (dc2 := 0) (ds2 := 0) 1 rfl ?_
      have w11x : (mKep qq k pp l) = (0 : Int32) := by unfold mKep; rw [if_neg b3x, if_pos b9x]
      rw [w11x]
      exact wq_ret rfl rfl rfl
    · have q12x : (mMea pp l).toInt ≠ 0 := fun q => b9x (Int32.toInt_inj.mp q)
      refine wq_gos (f := 1) (pc2 := 19) (ls2 := [(0, .ref 162), (1, .ref rq), (2, .int (nI k)), (3, .ref rp), (4, .int (nI l))]) (st2 := [.int (nI k), .ref rq]) (h2 := h) (dc2 := 0) (ds2 := 0) 2 rfl ?_
      refine wq_inl (y2 := 204) (as := [.ref rq, .int (nI k)]) rfl rfl rfl (wq_mono (m_sidev hq (by first | omega | assumption | decide)) ?_)
      rintro _ rfl
      show wq 234 22 [(0, .ref 162), (1, .ref rq), (2, .int (nI k)), (3, .ref rp), (4, .int (nI l))] [.int (mSid qq k)] h 0 0 _
      refine wq_gos (f := 1) (pc2 := 25) (ls2 := [(0, .ref 162), (1, .ref rq), (2, .int (nI k)), (3, .ref rp), (4, .int (nI l))]) (st2 := [.int (nI l), .ref rp, .int (mSid qq k)]) (h2 := h) (dc2 := 0) (ds2 := 0) 2 rfl ?_
      refine wq_inl (y2 := 204) (as := [.ref rp, .int (nI l)]) rfl rfl rfl (wq_mono (m_sidev hp (by first | omega | assumption | decide)) ?_)
      rintro _ rfl
      show wq 234 28 [(0, .ref 162), (1, .ref rq), (2, .int (nI k)), (3, .ref rp), (4, .int (nI l))] [.int (mSid pp l), .int (mSid qq k)] h 0 0 _
      refine wq_ne2 rfl rfl (fun b15x => ?_) (fun b15x => ?_)
      · have q16x : (mSid qq k).toInt ≠ (mSid pp l).toInt := fun q => b15x (Int32.toInt_inj.mp q)
        refine wq_gos (f := 1) (pc2 := 50) (ls2 := [(0, .ref 162), (1, .ref rq), (2, .int (nI k)), (3, .ref rp), (4, .int (nI l))]) (st2 := [.int 0]) (h2 := h) (dc2 := 0) (ds2 := 0) 1 rfl ?_
        have w17x : (mKep qq k pp l) = (0 : Int32) := by unfold mKep; rw [if_neg b3x, if_neg b9x, if_pos b15x]
        rw [w17x]
        exact wq_ret rfl rfl rfl
      · have q18x : (mSid qq k).toInt = (mSid pp l).toInt := congrArg Int32.toInt b15x
        refine wq_gos (f := 1) (pc2 := 33) (ls2 := [(0, .ref 162), (1, .ref rq), (2, .int (nI k)), (3, .ref rp), (4, .int (nI l))]) (st2 := [.int (nI k), .ref rq]) (h2 := h) (dc2 := 0) (ds2 := 0) 2 rfl ?_
        refine wq_inl (y2 := 205) (as := [.ref rq, .int (nI k)]) rfl rfl rfl (wq_mono (m_bendv hq (by first | omega | assumption | decide)) ?_)
        rintro _ rfl
        show wq 234 36 [(0, .ref 162), (1, .ref rq), (2, .int (nI k)), (3, .ref rp), (4, .int (nI l))] [.int (mBen qq k)] h 0 0 _
        refine wq_gos (f := 1) (pc2 := 39) (ls2 := [(0, .ref 162), (1, .ref rq), (2, .int (nI k)), (3, .ref rp), (4, .int (nI l))]) (st2 := [.int (nI l), .ref rp, .int (mBen qq k)]) (h2 := h) (dc2 := 0) (ds2 := 0) 2 rfl ?_
        refine wq_inl (y2 := 205) (as := [.ref rp, .int (nI l)]) rfl rfl rfl (wq_mono (m_bendv hp (by first | omega | assumption | decide)) ?_)
        rintro _ rfl
        show wq 234 42 [(0, .ref 162), (1, .ref rq), (2, .int (nI k)), (3, .ref rp), (4, .int (nI l))] [.int (mBen pp l), .int (mBen qq k)] h 0 0 _
        refine wq_ne2 rfl rfl (fun b21x => ?_) (fun b21x => ?_)
        · have q22x : (mBen qq k).toInt ≠ (mBen pp l).toInt := fun q => b21x (Int32.toInt_inj.mp q)
          refine wq_gos (f := 1) (pc2 := 50) (ls2 := [(0, .ref 162), (1, .ref rq), (2, .int (nI k)), (3, .ref rp), (4, .int (nI l))]) (st2 := [.int 0]) (h2 := h) (dc2 := 0) (ds2 := 0) 1 rfl ?_
          have w23x : (mKep qq k pp l) = (0 : Int32) := by unfold mKep; rw [if_neg b3x, if_neg b9x, if_neg (fun q => q b15x), if_pos b21x]
          rw [w23x]
          exact wq_ret rfl rfl rfl
        · have q24x : (mBen qq k).toInt = (mBen pp l).toInt := congrArg Int32.toInt b21x
          refine wq_gos (f := 1) (pc2 := 50) (ls2 := [(0, .ref 162), (1, .ref rq), (2, .int (nI k)), (3, .ref rp), (4, .int (nI l))]) (st2 := [.int 1]) (h2 := h) (dc2 := 0) (ds2 := 0) 2 rfl ?_
          have w25x : (mKep qq k pp l) = (1 : Int32) := by unfold mKep; rw [if_neg b3x, if_neg b9x, if_neg (fun q => q b15x), if_neg (fun q => q b21x)]
          rw [w25x]
          exact wq_ret rfl rfl rfl
noncomputable def mtkF (sv qq : List Int32) (k : Nat) (pp : List Int32) (l : Nat) : Nat → Int32 → Nat → Int32
  | 0, _, _ => 0
  | m + 1, mo, j => (if (6 : Int32).toInt ≤ (nI j).toInt then mo else (if ((((jabs ((pp.getD (l + j) 0) - (qq.getD (k + j) 0))) + (sv.getD j 0)) - (1 : Int32)) / (sv.getD j 0)).toInt ≤ mo.toInt then (mtkF sv qq k pp l m mo (j + 1)) else (mtkF sv qq k pp l m ((((jabs ((pp.getD (l + j) 0) - (qq.getD (k + j) 0))) + (sv.getD j 0)) - (1 : Int32)) / (sv.getD j 0)) (j + 1))))
set_option maxRecDepth 100000 in
set_option maxHeartbeats 4000000 in
theorem m_tkL {h : zH} {n0 n2 n14 n15 n16 n17 n18 n19 n20 n21 n22 n23 n27 n28 n32 n33 n34 n35 n39 n52 : Int32} {rq nq k : Nat} {qq : List Int32} {rp np l : Nat} {pp : List Int32} {sv : List Int32} (hM : zat h 162 = some (.inr (.inr (.inr (10, mO n0 n2 n14 n15 n16 n17 n18 n19 n20 n21 n22 n23 n27 n28 n32 n33 n34 n35 n39 n52))))) (hV : zat h 172 = some (.inl (0, 12, sv))) (hq : zat h rq = some (.inl (0, nq, qq))) (hp : zat h rp = some (.inl (0, np, pp))) (hk : k + 6 ≤ nq ∧ nq ≤ 20000) (hl : l + 6 ≤ np ∧ np ≤ 20000) (hsv : ∀ i, i < 6 → 1 ≤ (sv.getD i 0).toInt) : ∀ (m : Nat) (mo : Int32) (j : Nat), (j ≤ 6) → (6 - j) < m → ∀ (dc ds : Nat), wq 233 6 [(0, .ref 162), (1, .ref rq), (2, .int (nI k)), (3, .ref rp), (4, .int (nI l)), (5, .int mo), (6, .int (nI j))] [] h dc ds (fun rr9 => rr9 = (some (Value.int (mtkF sv qq k pp l m mo j)), h, dc, ds)) := by
  intro m
  induction m with
  | zero => intro mo j hj hms dc ds; omega
  | succ m ih =>
    intro mo j hj hms dc ds
    have qnj := nI_toInt (n := j) (by omega)
    have qnk := nI_toInt (n := k) (by omega)
    have qnl := nI_toInt (n := l) (by omega)
    refine wq_gos (f := 1) (pc2 := 10) (ls2 := [(0, .ref 162), (1, .ref rq), (2, .int (nI k)), (3, .ref rp), (4, .int (nI l)), (5, .int mo), (6, .int (nI j))]) (st2 := [.int 6, .int (nI j)]) (h2 := h) (dc2 := dc) (ds2 := ds) 2 rfl ?_
    try have q1x := nI_toInt (n := j) (by omega)
    have q2x : (6 : Int32).toInt = 6 := rfl
    refine wq_ge2 rfl rfl (fun b3x => ?_) (fun b3x => ?_)
    · refine wq_gos (f := 1) (pc2 := 74) (ls2 := [(0, .ref 162), (1, .ref rq), (2, .int (nI k)), (3, .ref rp), (4, .int (nI l)), (5, .int mo), (6, .int (nI j))]) (st2 := [.int mo]) (h2 := h) (dc2 := dc) (ds2 := ds) 1 rfl ?_
      have hx : (mtkF sv qq k pp l (m + 1) mo j) = mo := by show (if _ then _ else _) = _; rw [if_pos b3x]
      refine wq_ret rfl rfl ?_
      show (some (Value.int mo), h, dc, ds) = (some (Value.int (mtkF sv qq k pp l (m + 1) mo j)), h, dc, ds)
      rw [hx]
    · refine wq_gos (f := 1) (pc2 := 19) (ls2 := [(0, .ref 162), (1, .ref rq), (2, .int (nI k)), (3, .ref rp), (4, .int (nI l)), (5, .int mo), (6, .int (nI j))]) (st2 := [.int ((nI l) + (nI j)), .ref rp]) (h2 := h) (dc2 := dc) (ds2 := ds) 4 rfl ?_
      refine wq_vi (show (nI l) + (nI j) = nI (l + j) from nI_add l j) ?_
      try have q4x := nI_toInt (n := (l + j)) (by omega)
      refine wq_ialdn rfl hp (by first | omega | exact zin_t (by omega) (by omega)) (by omega) rfl ?_
      refine wq_gos (f := 1) (pc2 := 25) (ls2 := [(0, .ref 162), (1, .ref rq), (2, .int (nI k)), (3, .ref rp), (4, .int (nI l)), (5, .int mo), (6, .int (nI j))]) (st2 := [.int ((nI k) + (nI j)), .ref rq, .int (pp.getD (l + j) 0)]) (h2 := h) (dc2 := dc) (ds2 := ds) 4 rfl ?_
      refine wq_vi (show (nI k) + (nI j) = nI (k + j) from nI_add k j) ?_
      try have q5x := nI_toInt (n := (k + j)) (by omega)
      refine wq_ialdn rfl hq (by first | omega | exact zin_t (by omega) (by omega)) (by omega) rfl ?_
      refine wq_gos (f := 1) (pc2 := 27) (ls2 := [(0, .ref 162), (1, .ref rq), (2, .int (nI k)), (3, .ref rp), (4, .int (nI l)), (5, .int mo), (6, .int (nI j))]) (st2 := [.int ((pp.getD (l + j) 0) - (qq.getD (k + j) 0))]) (h2 := h) (dc2 := dc) (ds2 := ds) 1 rfl ?_
      refine wq_inl (y2 := 203) (as := [.int ((pp.getD (l + j) 0) - (qq.getD (k + j) 0))]) rfl rfl rfl (wq_T (m_abs ((pp.getD (l + j) 0) - (qq.getD (k + j) 0)) h) ?_)
      show wq 233 30 [(0, .ref 162), (1, .ref rq), (2, .int (nI k)), (3, .ref rp), (4, .int (nI l)), (5, .int mo), (6, .int (nI j))] [.int (jabs ((pp.getD (l + j) 0) - (qq.getD (k + j) 0)))] h dc ds _
      refine wq_gos (f := 1) (pc2 := 31) (ls2 := [(0, .ref 162), (1, .ref rq), (2, .int (nI k)), (3, .ref rp), (4, .int (nI l)), (5, .int mo), (6, .int (nI j))]) (st2 := [.ref 162, .int (jabs ((pp.getD (l + j) 0) - (qq.getD (k + j) 0)))]) (h2 := h) (dc2 := dc) (ds2 := ds) 1 rfl ?_
      refine wq_getf rfl hM rfl rfl ?_
      refine wq_gos (f := 1) (pc2 := 36) (ls2 := [(0, .ref 162), (1, .ref rq), (2, .int (nI k)), (3, .ref rp), (4, .int (nI l)), (5, .int mo), (6, .int (nI j))]) (st2 := [.int (nI j), .ref 172, .int (jabs ((pp.getD (l + j) 0) - (qq.getD (k + j) 0)))]) (h2 := h) (dc2 := dc) (ds2 := ds) 1 rfl ?_
      refine wq_ialdn rfl hV (by first | omega | exact zin_t (by omega) (by omega)) (by decide) rfl ?_
      refine wq_gos (f := 1) (pc2 := 41) (ls2 := [(0, .ref 162), (1, .ref rq), (2, .int (nI k)), (3, .ref rp), (4, .int (nI l)), (5, .int mo), (6, .int (nI j))]) (st2 := [.ref 162, .int (((jabs ((pp.getD (l + j) 0) - (qq.getD (k + j) 0))) + (sv.getD j 0)) - (1 : Int32))]) (h2 := h) (dc2 := dc) (ds2 := ds) 4 rfl ?_
      refine wq_getf rfl hM rfl rfl ?_
      refine wq_gos (f := 1) (pc2 := 46) (ls2 := [(0, .ref 162), (1, .ref rq), (2, .int (nI k)), (3, .ref rp), (4, .int (nI l)), (5, .int mo), (6, .int (nI j))]) (st2 := [.int (nI j), .ref 172, .int (((jabs ((pp.getD (l + j) 0) - (qq.getD (k + j) 0))) + (sv.getD j 0)) - (1 : Int32))]) (h2 := h) (dc2 := dc) (ds2 := ds) 1 rfl ?_
      refine wq_ialdn rfl hV (by first | omega | exact zin_t (by omega) (by omega)) (by decide) rfl ?_
      refine wq_idiv rfl (by intro q; have q9 := hsv j (by omega); rw [q] at q9; exact absurd q9 (by decide)) ?_
      refine wq_gos (f := 1) (pc2 := 54) (ls2 := [(7, .int ((((jabs ((pp.getD (l + j) 0) - (qq.getD (k + j) 0))) + (sv.getD j 0)) - (1 : Int32)) / (sv.getD j 0))), (0, .ref 162), (1, .ref rq), (2, .int (nI k)), (3, .ref rp), (4, .int (nI l)), (5, .int mo), (6, .int (nI j))]) (st2 := [.int mo, .int ((((jabs ((pp.getD (l + j) 0) - (qq.getD (k + j) 0))) + (sv.getD j 0)) - (1 : Int32)) / (sv.getD j 0))]) (h2 := h) (dc2 := dc) (ds2 := ds) 3 rfl ?_
      refine wq_le2 rfl rfl (fun b6x => ?_) (fun b6x => ?_)
      · refine wq_gos (f := 1) (pc2 := 69) (ls2 := [(6, .int ((nI j) + 1)), (5, .int mo), (7, .int ((((jabs ((pp.getD (l + j) 0) - (qq.getD (k + j) 0))) + (sv.getD j 0)) - (1 : Int32)) / (sv.getD j 0))), (0, .ref 162), (1, .ref rq), (2, .int (nI k)), (3, .ref rp), (4, .int (nI l))]) (st2 := []) (h2 := h) (dc2 := dc) (ds2 := ds) 3 rfl ?_
        rw [nI_1]
        refine wq_gos (f := 1) (pc2 := 6) (ls2 := [(6, .int (nI (j + 1))), (5, .int mo), (7, .int ((((jabs ((pp.getD (l + j) 0) - (qq.getD (k + j) 0))) + (sv.getD j 0)) - (1 : Int32)) / (sv.getD j 0))), (0, .ref 162), (1, .ref rq), (2, .int (nI k)), (3, .ref rp), (4, .int (nI l))]) (st2 := []) (h2 := h) (dc2 := dc) (ds2 := ds) 1 rfl ?_
        try have q7x := nI_toInt (n := (j + 1)) (by omega)
        try have q8x := nI_toInt (n := k) (by omega)
        try have q9x := nI_toInt (n := l) (by omega)
        have hx : (mtkF sv qq k pp l (m + 1) mo j) = (mtkF sv qq k pp l m mo (j + 1)) := by show (if _ then _ else _) = _; rw [if_neg (Int.not_le.mpr b3x), if_pos b6x]
        rw [hx]
        refine wq_ls [(0, .ref 162), (1, .ref rq), (2, .int (nI k)), (3, .ref rp), (4, .int (nI l)), (5, .int mo), (6, .int (nI (j + 1)))] (show ([0, 1, 2, 3, 4, 5, 6] : List Nat).Nodup by decide) ⟨rfl, rfl, rfl, rfl, rfl, rfl, rfl, trivial⟩ ?_
        exact ih mo (j + 1) (by first | omega | assumption | decide) (by omega) dc ds
      · refine wq_gos (f := 1) (pc2 := 69) (ls2 := [(6, .int ((nI j) + 1)), (5, .int ((((jabs ((pp.getD (l + j) 0) - (qq.getD (k + j) 0))) + (sv.getD j 0)) - (1 : Int32)) / (sv.getD j 0))), (7, .int ((((jabs ((pp.getD (l + j) 0) - (qq.getD (k + j) 0))) + (sv.getD j 0)) - (1 : Int32)) / (sv.getD j 0))), (0, .ref 162), (1, .ref rq), (2, .int (nI k)), (3, .ref rp), (4, .int (nI l))]) (st2 := []) (h2 := h) (dc2 := dc) (ds2 := ds) 4 rfl ?_
        rw [nI_1]
        refine wq_gos (f := 1) (pc2 := 6) (ls2 := [(6, .int (nI (j + 1))), (5, .int ((((jabs ((pp.getD (l + j) 0) - (qq.getD (k + j) 0))) + (sv.getD j 0)) - (1 : Int32)) / (sv.getD j 0))), (7, .int ((((jabs ((pp.getD (l + j) 0) - (qq.getD (k + j) 0))) + (sv.getD j 0)) - (1 : Int32)) / (sv.getD j 0))), (0, .ref 162), (1, .ref rq), (2, .int (nI k)), (3, .ref rp), (4, .int (nI l))]) (st2 := []) (h2 := h) (dc2 := dc) (ds2 := ds) 1 rfl ?_
        try have q10x := nI_toInt (n := (j + 1)) (by omega)
        try have q11x := nI_toInt (n := k) (by omega)
        try have q12x := nI_toInt (n := l) (by omega)
        have hx : (mtkF sv qq k pp l (m + 1) mo j) = (mtkF sv qq k pp l m ((((jabs ((pp.getD (l + j) 0) - (qq.getD (k + j) 0))) + (sv.getD j 0)) - (1 : Int32)) / (sv.getD j 0)) (j + 1)) := by show (if _ then _ else _) = _; rw [if_neg (Int.not_le.mpr b3x), if_neg (Int.not_le.mpr b6x)]
        rw [hx]
        refine wq_ls [(0, .ref 162), (1, .ref rq), (2, .int (nI k)), (3, .ref rp), (4, .int (nI l)), (5, .int ((((jabs ((pp.getD (l + j) 0) - (qq.getD (k + j) 0))) + (sv.getD j 0)) - (1 : Int32)) / (sv.getD j 0))), (6, .int (nI (j + 1)))] (show ([0, 1, 2, 3, 4, 5, 6] : List Nat).Nodup by decide) ⟨rfl, rfl, rfl, rfl, rfl, rfl, rfl, trivial⟩ ?_
        exact ih ((((jabs ((pp.getD (l + j) 0) - (qq.getD (k + j) 0))) + (sv.getD j 0)) - (1 : Int32)) / (sv.getD j 0)) (j + 1) (by first | omega | assumption | decide) (by omega) dc ds
set_option maxRecDepth 100000 in
set_option maxHeartbeats 4000000 in
theorem m_tks {h : zH} {n0 n2 n14 n15 n16 n17 n18 n19 n20 n21 n22 n23 n27 n28 n32 n33 n34 n35 n39 n52 : Int32} {rq nq k : Nat} {qq : List Int32} {rp np l : Nat} {pp : List Int32} {sv : List Int32} (hM : zat h 162 = some (.inr (.inr (.inr (10, mO n0 n2 n14 n15 n16 n17 n18 n19 n20 n21 n22 n23 n27 n28 n32 n33 n34 n35 n39 n52))))) (hV : zat h 172 = some (.inl (0, 12, sv))) (hq : zat h rq = some (.inl (0, nq, qq))) (hp : zat h rp = some (.inl (0, np, pp))) (hk : k + 6 ≤ nq ∧ nq ≤ 20000) (hl : l + 6 ≤ np ∧ np ≤ 20000) (hsv : ∀ i, i < 6 → 1 ≤ (sv.getD i 0).toInt) : wq 233 0 [(0, .ref 162), (1, .ref rq), (2, .int (nI k)), (3, .ref rp), (4, .int (nI l))] [] h 0 0 (fun rr9 => rr9 = (some (.int (mtkF sv qq k pp l (6 - 0 + 1) 0 0)), h, 0, 0)) := by
  refine wq_gos (f := 1) (pc2 := 6) (ls2 := [(6, .int 0), (5, .int 0), (0, .ref 162), (1, .ref rq), (2, .int (nI k)), (3, .ref rp), (4, .int (nI l))]) (st2 := []) (h2 := h) (dc2 := 0) (ds2 := 0) 4 rfl ?_
  try have q1x := nI_toInt (n := k) (by omega)
  try have q2x := nI_toInt (n := l) (by omega)
  refine wq_ls [(0, .ref 162), (1, .ref rq), (2, .int (nI k)), (3, .ref rp), (4, .int (nI l)), (5, .int (0 : Int32)), (6, .int (nI 0))] (show ([0, 1, 2, 3, 4, 5, 6] : List Nat).Nodup by decide) ⟨rfl, rfl, rfl, rfl, rfl, rfl, rfl, trivial⟩ ?_
  refine wq_mono (m_tkL hM hV hq hp (by first | omega | assumption | decide) (by first | omega | assumption | decide) (by first | omega | assumption | decide) ((6 - 0) + 1) (0 : Int32) 0 (by first | omega | assumption | decide) (by omega) 0 0) ?_
  rintro _ rfl
  all_goals exact rfl
noncomputable def mBtw (a b n m : Int32) : Int32 := (if m ≠ (0 : Int32) then (a + (((b - a) * n) / m)) else a)
set_option maxRecDepth 100000 in
set_option maxHeartbeats 4000000 in
theorem m_btw {h : zH} {a b n m : Int32}   : wq 235 0 [(0, .int a), (1, .int b), (2, .int n), (3, .int m)] [] h 0 0 (fun rr9 => rr9 = (some (.int (mBtw a b n m)), h, 0, 0)) := by
  refine wq_gos (f := 1) (pc2 := 1) (ls2 := [(0, .int a), (1, .int b), (2, .int n), (3, .int m)]) (st2 := [.int m]) (h2 := h) (dc2 := 0) (ds2 := 0) 1 rfl ?_
  refine wq_ne0 rfl rfl (fun b1x => ?_) (fun b1x => ?_)
  · have q2x : m.toInt ≠ 0 := fun q => b1x (Int32.toInt_inj.mp q)
    refine wq_gos (f := 1) (pc2 := 15) (ls2 := [(0, .int a), (1, .int b), (2, .int n), (3, .int m)]) (st2 := [.int m, .int ((b - a) * n), .int a]) (h2 := h) (dc2 := 0) (ds2 := 0) 7 rfl ?_
    refine wq_idiv rfl (by assumption) ?_
    refine wq_gos (f := 1) (pc2 := 17) (ls2 := [(0, .int a), (1, .int b), (2, .int n), (3, .int m)]) (st2 := [.int (a + (((b - a) * n) / m))]) (h2 := h) (dc2 := 0) (ds2 := 0) 1 rfl ?_
    have w3x : (mBtw a b n m) = (a + (((b - a) * n) / m)) := by unfold mBtw; rw [if_pos b1x]
    rw [w3x]
    exact wq_ret rfl rfl rfl
  · have q4x : m.toInt = 0 := congrArg Int32.toInt b1x
    refine wq_gos (f := 1) (pc2 := 17) (ls2 := [(0, .int a), (1, .int b), (2, .int n), (3, .int m)]) (st2 := [.int a]) (h2 := h) (dc2 := 0) (ds2 := 0) 2 rfl ?_
    have w5x : (mBtw a b n m) = a := by unfold mBtw; rw [if_neg (fun q => q b1x)]
    rw [w5x]
    exact wq_ret rfl rfl rfl
noncomputable def mWin (lo hi : List Int32) (j : Nat) (v : Int32) : Int32 := (if v.toInt < (lo.getD j 0).toInt then 0 else (if (hi.getD j 0).toInt < v.toInt then 0 else 1))
set_option maxRecDepth 100000 in
set_option maxHeartbeats 4000000 in
theorem m_win {h : zH} {n0 n2 n14 n15 n16 n17 n18 n19 n20 n21 n22 n23 n27 n28 n32 n33 n34 n35 n39 n52 : Int32} {lo hi : List Int32} {j : Nat} {v : Int32} (hM : zat h 162 = some (.inr (.inr (.inr (10, mO n0 n2 n14 n15 n16 n17 n18 n19 n20 n21 n22 n23 n27 n28 n32 n33 n34 n35 n39 n52))))) (hO : zat h 168 = some (.inl (0, 12, lo))) (hG : zat h 170 = some (.inl (0, 12, hi))) (hj : j < 6) : wq 207 0 [(0, .ref 162), (1, .int (nI j)), (2, .int v)] [] h 0 0 (fun rr9 => rr9 = (some (.int (mWin lo hi j v)), h, 0, 0)) := by
  have qnj := nI_toInt (n := j) (by omega)
  refine wq_gos (f := 1) (pc2 := 2) (ls2 := [(0, .ref 162), (1, .int (nI j)), (2, .int v)]) (st2 := [.ref 162, .int v]) (h2 := h) (dc2 := 0) (ds2 := 0) 2 rfl ?_
  refine wq_getf rfl hM rfl rfl ?_
  refine wq_gos (f := 1) (pc2 := 6) (ls2 := [(0, .ref 162), (1, .int (nI j)), (2, .int v)]) (st2 := [.int (nI j), .ref 168, .int v]) (h2 := h) (dc2 := 0) (ds2 := 0) 1 rfl ?_
  try have q1x := nI_toInt (n := j) (by omega)
  refine wq_ialdn rfl hO (by first | omega | exact zin_t (by omega) (by omega)) (by decide) rfl ?_
  refine wq_lt2 rfl rfl (fun b2x => ?_) (fun b2x => ?_)
  · refine wq_gos (f := 1) (pc2 := 25) (ls2 := [(0, .ref 162), (1, .int (nI j)), (2, .int v)]) (st2 := [.int 0]) (h2 := h) (dc2 := 0) (ds2 := 0) 1 rfl ?_
    have w3x : (mWin lo hi j v) = (0 : Int32) := by unfold mWin; rw [if_pos b2x]
    rw [w3x]
    exact wq_ret rfl rfl rfl
  · refine wq_gos (f := 1) (pc2 := 12) (ls2 := [(0, .ref 162), (1, .int (nI j)), (2, .int v)]) (st2 := [.ref 162, .int v]) (h2 := h) (dc2 := 0) (ds2 := 0) 2 rfl ?_
    refine wq_getf rfl hM rfl rfl ?_
    refine wq_gos (f := 1) (pc2 := 16) (ls2 := [(0, .ref 162), (1, .int (nI j)), (2, .int v)]) (st2 := [.int (nI j), .ref 170, .int v]) (h2 := h) (dc2 := 0) (ds2 := 0) 1 rfl ?_
    refine wq_ialdn rfl hG (by first | omega | exact zin_t (by omega) (by omega)) (by decide) rfl ?_
    refine wq_gt2 rfl rfl (fun b4x => ?_) (fun b4x => ?_)
    · refine wq_gos (f := 1) (pc2 := 25) (ls2 := [(0, .ref 162), (1, .int (nI j)), (2, .int v)]) (st2 := [.int 0]) (h2 := h) (dc2 := 0) (ds2 := 0) 1 rfl ?_
      have w5x : (mWin lo hi j v) = (0 : Int32) := by unfold mWin; rw [if_neg (Int.not_lt.mpr b2x), if_pos b4x]
      rw [w5x]
      exact wq_ret rfl rfl rfl
    · refine wq_gos (f := 1) (pc2 := 25) (ls2 := [(0, .ref 162), (1, .int (nI j)), (2, .int v)]) (st2 := [.int 1]) (h2 := h) (dc2 := 0) (ds2 := 0) 2 rfl ?_
      have w6x : (mWin lo hi j v) = (1 : Int32) := by unfold mWin; rw [if_neg (Int.not_lt.mpr b2x), if_neg (Int.not_lt.mpr b4x)]
      rw [w6x]
      exact wq_ret rfl rfl rfl
noncomputable def mbyF (lo hi nw : List Int32) : Nat → Int32 → Nat → Int32
  | 0, _, _ => 0
  | m + 1, b, j => (if (6 : Int32).toInt ≤ (nI j).toInt then b else (if (mWin lo hi j (nw.getD j 0)) = (0 : Int32) then (mbyF lo hi nw m (b + (1 : Int32)) (j + 1)) else (mbyF lo hi nw m (b + (0 : Int32)) (j + 1))))
set_option maxRecDepth 100000 in
set_option maxHeartbeats 4000000 in
theorem m_beyL {h : zH} {n0 n2 n14 n15 n16 n17 n18 n19 n20 n21 n22 n23 n27 n28 n32 n33 n34 n35 n39 n52 : Int32} {lo hi nw : List Int32} (hM : zat h 162 = some (.inr (.inr (.inr (10, mO n0 n2 n14 n15 n16 n17 n18 n19 n20 n21 n22 n23 n27 n28 n32 n33 n34 n35 n39 n52))))) (hO : zat h 168 = some (.inl (0, 12, lo))) (hG : zat h 170 = some (.inl (0, 12, hi))) (hN : zat h 188 = some (.inl (0, 6, nw)))  : ∀ (m : Nat) (b : Int32) (j : Nat), (j ≤ 6) → (6 - j) < m → ∀ (dc ds : Nat), wq 214 4 [(0, .ref 162), (1, .int b), (2, .int (nI j))] [] h dc ds (fun rr9 => rr9 = (some (Value.int (mbyF lo hi nw m b j)), h, dc, ds)) := by
  intro m
  induction m with
  | zero => intro b j hj hms dc ds; omega
  | succ m ih =>
    intro b j hj hms dc ds
    have qnj := nI_toInt (n := j) (by omega)
    refine wq_gos (f := 1) (pc2 := 7) (ls2 := [(0, .ref 162), (1, .int b), (2, .int (nI j))]) (st2 := [.int 6, .int (nI j)]) (h2 := h) (dc2 := dc) (ds2 := ds) 2 rfl ?_
    try have q1x := nI_toInt (n := j) (by omega)
    have q2x : (6 : Int32).toInt = 6 := rfl
    refine wq_ge2 rfl rfl (fun b3x => ?_) (fun b3x => ?_)
    · refine wq_gos (f := 1) (pc2 := 39) (ls2 := [(0, .ref 162), (1, .int b), (2, .int (nI j))]) (st2 := [.int b]) (h2 := h) (dc2 := dc) (ds2 := ds) 1 rfl ?_
      have hx : (mbyF lo hi nw (m + 1) b j) = b := by show (if _ then _ else _) = _; rw [if_pos b3x]
      refine wq_ret rfl rfl ?_
      show (some (Value.int b), h, dc, ds) = (some (Value.int (mbyF lo hi nw (m + 1) b j)), h, dc, ds)
      rw [hx]
    · refine wq_gos (f := 1) (pc2 := 14) (ls2 := [(0, .ref 162), (1, .int b), (2, .int (nI j))]) (st2 := [.ref 162, .int (nI j), .ref 162, .int b]) (h2 := h) (dc2 := dc) (ds2 := ds) 4 rfl ?_
      refine wq_getf rfl hM rfl rfl ?_
      refine wq_gos (f := 1) (pc2 := 18) (ls2 := [(0, .ref 162), (1, .int b), (2, .int (nI j))]) (st2 := [.int (nI j), .ref 188, .int (nI j), .ref 162, .int b]) (h2 := h) (dc2 := dc) (ds2 := ds) 1 rfl ?_
      refine wq_ialdn rfl hN (by first | omega | exact zin_t (by omega) (by omega)) (by decide) rfl ?_
      refine wq_inlv (y2 := 207) (as := [.int (nI j), .int (nw.getD j 0)]) rfl rfl rfl hM rfl (wq_mono (m_win hM hO hG (by first | omega | assumption | decide)) ?_)
      rintro _ rfl
      show wq 214 22 [(0, .ref 162), (1, .int b), (2, .int (nI j))] [.int (mWin lo hi j (nw.getD j 0)), .int b] h dc ds _
      refine wq_eq0 rfl rfl (fun b5x => ?_) (fun b5x => ?_)
      · have q6x : (mWin lo hi j (nw.getD j 0)).toInt = 0 := congrArg Int32.toInt b5x
        refine wq_gos (f := 1) (pc2 := 35) (ls2 := [(2, .int ((nI j) + 1)), (1, .int (b + (1 : Int32))), (0, .ref 162)]) (st2 := []) (h2 := h) (dc2 := dc) (ds2 := ds) 4 rfl ?_
        rw [nI_1]
        refine wq_gos (f := 1) (pc2 := 4) (ls2 := [(2, .int (nI (j + 1))), (1, .int (b + (1 : Int32))), (0, .ref 162)]) (st2 := []) (h2 := h) (dc2 := dc) (ds2 := ds) 1 rfl ?_
        try have q7x := nI_toInt (n := (j + 1)) (by omega)
        have q8x : (1 : Int32).toInt = 1 := rfl
        try have q9x : ((b + (1 : Int32))).toInt = b.toInt + (1 : Int32).toInt := e_add (by omega) (by omega)
        have hx : (mbyF lo hi nw (m + 1) b j) = (mbyF lo hi nw m (b + (1 : Int32)) (j + 1)) := by show (if _ then _ else _) = _; rw [if_neg (Int.not_le.mpr b3x), if_pos b5x]
        rw [hx]
        refine wq_ls [(0, .ref 162), (1, .int (b + (1 : Int32))), (2, .int (nI (j + 1)))] (show ([0, 1, 2] : List Nat).Nodup by decide) ⟨rfl, rfl, rfl, trivial⟩ ?_
        exact ih (b + (1 : Int32)) (j + 1) (by first | omega | assumption | decide) (by omega) dc ds
      · have q10x : (mWin lo hi j (nw.getD j 0)).toInt ≠ 0 := fun q => b5x (Int32.toInt_inj.mp q)
        refine wq_gos (f := 1) (pc2 := 35) (ls2 := [(2, .int ((nI j) + 1)), (1, .int (b + (0 : Int32))), (0, .ref 162)]) (st2 := []) (h2 := h) (dc2 := dc) (ds2 := ds) 5 rfl ?_
        rw [nI_1]
        refine wq_gos (f := 1) (pc2 := 4) (ls2 := [(2, .int (nI (j + 1))), (1, .int (b + (0 : Int32))), (0, .ref 162)]) (st2 := []) (h2 := h) (dc2 := dc) (ds2 := ds) 1 rfl ?_
        try have q11x := nI_toInt (n := (j + 1)) (by omega)
        have q12x : (0 : Int32).toInt = 0 := rfl
        try have q13x : ((b + (0 : Int32))).toInt = b.toInt + (0 : Int32).toInt := e_add (by omega) (by omega)
        have hx : (mbyF lo hi nw (m + 1) b j) = (mbyF lo hi nw m (b + (0 : Int32)) (j + 1)) := by show (if _ then _ else _) = _; rw [if_neg (Int.not_le.mpr b3x), if_neg b5x]
        rw [hx]
        refine wq_ls [(0, .ref 162), (1, .int (b + (0 : Int32))), (2, .int (nI (j + 1)))] (show ([0, 1, 2] : List Nat).Nodup by decide) ⟨rfl, rfl, rfl, trivial⟩ ?_
        exact ih (b + (0 : Int32)) (j + 1) (by first | omega | assumption | decide) (by omega) dc ds
set_option maxRecDepth 100000 in
set_option maxHeartbeats 4000000 in
theorem m_bey {h : zH} {n0 n2 n14 n15 n16 n17 n18 n19 n20 n21 n22 n23 n27 n28 n32 n33 n34 n35 n39 n52 : Int32} {lo hi nw : List Int32} (hM : zat h 162 = some (.inr (.inr (.inr (10, mO n0 n2 n14 n15 n16 n17 n18 n19 n20 n21 n22 n23 n27 n28 n32 n33 n34 n35 n39 n52))))) (hO : zat h 168 = some (.inl (0, 12, lo))) (hG : zat h 170 = some (.inl (0, 12, hi))) (hN : zat h 188 = some (.inl (0, 6, nw)))  : wq 214 0 [(0, .ref 162)] [] h 0 0 (fun rr9 => rr9 = (some (.int (mbyF lo hi nw (6 - 0 + 1) 0 0)), h, 0, 0)) := by
  refine wq_gos (f := 1) (pc2 := 4) (ls2 := [(2, .int 0), (1, .int 0), (0, .ref 162)]) (st2 := []) (h2 := h) (dc2 := 0) (ds2 := 0) 4 rfl ?_
  refine wq_ls [(0, .ref 162), (1, .int (0 : Int32)), (2, .int (nI 0))] (show ([0, 1, 2] : List Nat).Nodup by decide) ⟨rfl, rfl, rfl, trivial⟩ ?_
  refine wq_mono (m_beyL hM hO hG hN ((6 - 0) + 1) (0 : Int32) 0 (by first | omega | assumption | decide) (by omega) 0 0) ?_
  rintro _ rfl
  all_goals exact rfl
noncomputable def mjaF (pa co : List Int32) (wy r j : Nat) (n : Int32) : Nat → Nat → Int32
  | 0, _ => 0
  | m + 1, i => (if (nI wy).toInt ≤ (nI i).toInt then (if (nI i) ≠ (nI wy) then (mBtw (pa.getD (((66 * r) + (6 * i)) + j) 0) (pa.getD (((66 * r) + (6 * (i + 1))) + j) 0) (n - (co.getD ((11 * r) + i) 0)) ((co.getD (((11 * r) + i) + 1) 0) - (co.getD ((11 * r) + i) 0))) else (pa.getD (((66 * r) + (6 * i)) + j) 0)) else (if n.toInt ≤ (co.getD (((11 * r) + i) + 1) 0).toInt then (if (nI i) ≠ (nI wy) then (mBtw (pa.getD (((66 * r) + (6 * i)) + j) 0) (pa.getD (((66 * r) + (6 * (i + 1))) + j) 0) (n - (co.getD ((11 * r) + i) 0)) ((co.getD (((11 * r) + i) + 1) 0) - (co.getD ((11 * r) + i) 0))) else (pa.getD (((66 * r) + (6 * i)) + j) 0)) else (mjaF pa co wy r j n m (i + 1))))
set_option maxRecDepth 100000 in
set_option maxHeartbeats 4000000 in
theorem m_jaL {h : zH} {n0 n2 n14 n15 n16 n17 n18 n19 n20 n21 n22 n23 n27 n28 n32 n33 n34 n35 n39 n52 : Int32} {kn pa co : List Int32} {r wy j : Nat} {n : Int32} (hM : zat h 162 = some (.inr (.inr (.inr (10, mO n0 n2 n14 n15 n16 n17 n18 n19 n20 n21 n22 n23 n27 n28 n32 n33 n34 n35 n39 n52))))) (hK : zat h 166 = some (.inl (0, 14, kn))) (hPa : zat h 214 = some (.inl (0, 132, pa))) (hCo : zat h 218 = some (.inl (0, 22, co))) (hkw : kn.getD 6 0 = nI wy ∧ wy ≤ 10 ∧ r < 2 ∧ j < 6) : ∀ (m : Nat) (i : Nat), (i ≤ wy) → (wy - i) < m → ∀ (dc ds : Nat), wq 253 23 [(0, .ref 162), (1, .int (nI r)), (2, .int n), (3, .int (nI j)), (4, .int (nI (66 * r))), (5, .int (nI i))] [] h dc ds (fun rr9 => rr9 = (some (Value.int (mjaF pa co wy r j n m i)), h, dc, ds)) := by
  intro m
  induction m with
  | zero => intro i hi hms dc ds; omega
  | succ m ih =>
    intro i hi hms dc ds
    have qni := nI_toInt (n := i) (by omega)
    have qnwy := nI_toInt (n := wy) (by omega)
    have qnr := nI_toInt (n := r) (by omega)
    have qnj := nI_toInt (n := j) (by omega)
    refine wq_gos (f := 1) (pc2 := 26) (ls2 := [(0, .ref 162), (1, .int (nI r)), (2, .int n), (3, .int (nI j)), (4, .int (nI (66 * r))), (5, .int (nI i))]) (st2 := [.ref 162, .int (nI i)]) (h2 := h) (dc2 := dc) (ds2 := ds) 2 rfl ?_
    refine wq_inlv (y2 := 244) (as := []) rfl rfl rfl hM rfl ?_
    show wq 244 0 [(0, .ref 162)] [] h 0 0 _
    refine wq_gos (f := 1) (pc2 := 1) (ls2 := [(0, .ref 162)]) (st2 := [.ref 162]) (h2 := h) (dc2 := 0) (ds2 := 0) 1 rfl ?_
    refine wq_getf rfl hM rfl rfl ?_
    refine wq_gos (f := 1) (pc2 := 6) (ls2 := [(0, .ref 162)]) (st2 := [.int 6, .ref 166]) (h2 := h) (dc2 := 0) (ds2 := 0) 1 rfl ?_
    have q1x : (6 : Int32).toInt = 6 := rfl
    refine wq_iald rfl hK rfl rfl ?_
    refine wq_vi hkw.1 ?_
    refine wq_ret rfl rfl ?_
    show wq 253 29 [(0, .ref 162), (1, .int (nI r)), (2, .int n), (3, .int (nI j)), (4, .int (nI (66 * r))), (5, .int (nI i))] [.int (nI wy), .int (nI i)] h dc ds _
    try have q2x := nI_toInt (n := i) (by omega)
    try have q3x := nI_toInt (n := wy) (by omega)
    refine wq_ge2 rfl rfl (fun b4x => ?_) (fun b4x => ?_)
    · refine wq_gos (f := 1) (pc2 := 59) (ls2 := [(0, .ref 162), (1, .int (nI r)), (2, .int n), (3, .int (nI j)), (4, .int (nI (66 * r))), (5, .int (nI i))]) (st2 := [.ref 162, .int (nI i)]) (h2 := h) (dc2 := dc) (ds2 := ds) 2 rfl ?_
      refine wq_inlv (y2 := 244) (as := []) rfl rfl rfl hM rfl ?_
      show wq 244 0 [(0, .ref 162)] [] h 0 0 _
      refine wq_gos (f := 1) (pc2 := 1) (ls2 := [(0, .ref 162)]) (st2 := [.ref 162]) (h2 := h) (dc2 := 0) (ds2 := 0) 1 rfl ?_
      refine wq_getf rfl hM rfl rfl ?_
      refine wq_gos (f := 1) (pc2 := 6) (ls2 := [(0, .ref 162)]) (st2 := [.int 6, .ref 166]) (h2 := h) (dc2 := 0) (ds2 := 0) 1 rfl ?_
      refine wq_iald rfl hK rfl rfl ?_
      refine wq_vi hkw.1 ?_
      refine wq_ret rfl rfl ?_
      show wq 253 62 [(0, .ref 162), (1, .int (nI r)), (2, .int n), (3, .int (nI j)), (4, .int (nI (66 * r))), (5, .int (nI i))] [.int (nI wy), .int (nI i)] h dc ds _
      refine wq_ne2 rfl rfl (fun b5x => ?_) (fun b5x => ?_)
      · have q6x : (nI i).toInt ≠ (nI wy).toInt := fun q => b5x (Int32.toInt_inj.mp q)
        refine wq_gos (f := 1) (pc2 := 82) (ls2 := [(0, .ref 162), (1, .int (nI r)), (2, .int n), (3, .int (nI j)), (4, .int (nI (66 * r))), (5, .int (nI i))]) (st2 := [.ref 162]) (h2 := h) (dc2 := dc) (ds2 := ds) 1 rfl ?_
        refine wq_getf rfl hM rfl rfl ?_
        refine wq_gos (f := 1) (pc2 := 89) (ls2 := [(0, .ref 162), (1, .int (nI r)), (2, .int n), (3, .int (nI j)), (4, .int (nI (66 * r))), (5, .int (nI i))]) (st2 := [.int ((11 : Int32) * (nI r)), .ref 218]) (h2 := h) (dc2 := dc) (ds2 := ds) 3 rfl ?_
        refine wq_vi (show (11 : Int32) * (nI r) = nI (11 * r) from e_nmul 11 r) ?_
        refine wq_gos (f := 1) (pc2 := 92) (ls2 := [(0, .ref 162), (1, .int (nI r)), (2, .int n), (3, .int (nI j)), (4, .int (nI (66 * r))), (5, .int (nI i))]) (st2 := [.int ((nI (11 * r)) + (nI i)), .ref 218]) (h2 := h) (dc2 := dc) (ds2 := ds) 2 rfl ?_
        refine wq_vi (show (nI (11 * r)) + (nI i) = nI ((11 * r) + i) from nI_add (11 * r) i) ?_
        try have q7x := nI_toInt (n := ((11 * r) + i)) (by omega)
        refine wq_ialdn rfl hCo (by first | omega | exact zin_t (by omega) (by omega)) (by decide) rfl ?_
        refine wq_gos (f := 1) (pc2 := 96) (ls2 := [(6, .int (co.getD ((11 * r) + i) 0)), (0, .ref 162), (1, .int (nI r)), (2, .int n), (3, .int (nI j)), (4, .int (nI (66 * r))), (5, .int (nI i))]) (st2 := [.ref 162]) (h2 := h) (dc2 := dc) (ds2 := ds) 2 rfl ?_
        refine wq_getf rfl hM rfl rfl ?_
        refine wq_gos (f := 1) (pc2 := 106) (ls2 := [(6, .int (co.getD ((11 * r) + i) 0)), (0, .ref 162), (1, .int (nI r)), (2, .int n), (3, .int (nI j)), (4, .int (nI (66 * r))), (5, .int (nI i))]) (st2 := [.int ((6 : Int32) * (nI i)), .int (nI (66 * r)), .ref 214]) (h2 := h) (dc2 := dc) (ds2 := ds) 4 rfl ?_
        refine wq_vi (show (6 : Int32) * (nI i) = nI (6 * i) from e_nmul 6 i) ?_
        refine wq_gos (f := 1) (pc2 := 107) (ls2 := [(6, .int (co.getD ((11 * r) + i) 0)), (0, .ref 162), (1, .int (nI r)), (2, .int n), (3, .int (nI j)), (4, .int (nI (66 * r))), (5, .int (nI i))]) (st2 := [.int ((nI (66 * r)) + (nI (6 * i))), .ref 214]) (h2 := h) (dc2 := dc) (ds2 := ds) 1 rfl ?_
        refine wq_vi (show (nI (66 * r)) + (nI (6 * i)) = nI ((66 * r) + (6 * i)) from nI_add (66 * r) (6 * i)) ?_
        refine wq_gos (f := 1) (pc2 := 109) (ls2 := [(6, .int (co.getD ((11 * r) + i) 0)), (0, .ref 162), (1, .int (nI r)), (2, .int n), (3, .int (nI j)), (4, .int (nI (66 * r))), (5, .int (nI i))]) (st2 := [.int ((nI ((66 * r) + (6 * i))) + (nI j)), .ref 214]) (h2 := h) (dc2 := dc) (ds2 := ds) 2 rfl ?_
        refine wq_vi (show (nI ((66 * r) + (6 * i))) + (nI j) = nI (((66 * r) + (6 * i)) + j) from nI_add ((66 * r) + (6 * i)) j) ?_
        try have q8x := nI_toInt (n := (((66 * r) + (6 * i)) + j)) (by omega)
        refine wq_ialdn rfl hPa (by first | omega | exact zin_t (by omega) (by omega)) (by decide) rfl ?_
        refine wq_gos (f := 1) (pc2 := 111) (ls2 := [(6, .int (co.getD ((11 * r) + i) 0)), (0, .ref 162), (1, .int (nI r)), (2, .int n), (3, .int (nI j)), (4, .int (nI (66 * r))), (5, .int (nI i))]) (st2 := [.ref 162, .int (pa.getD (((66 * r) + (6 * i)) + j) 0)]) (h2 := h) (dc2 := dc) (ds2 := ds) 1 rfl ?_
        refine wq_getf rfl hM rfl rfl ?_
        refine wq_gos (f := 1) (pc2 := 122) (ls2 := [(6, .int (co.getD ((11 * r) + i) 0)), (0, .ref 162), (1, .int (nI r)), (2, .int n), (3, .int (nI j)), (4, .int (nI (66 * r))), (5, .int (nI i))]) (st2 := [.int ((nI i) + (1 : Int32)), .int 6, .int (nI (66 * r)), .ref 214, .int (pa.getD (((66 * r) + (6 * i)) + j) 0)]) (h2 := h) (dc2 := dc) (ds2 := ds) 5 rfl ?_
        refine wq_vi (show (nI i) + (1 : Int32) = nI (i + 1) from nI_add i 1) ?_
        refine wq_gos (f := 1) (pc2 := 123) (ls2 := [(6, .int (co.getD ((11 * r) + i) 0)), (0, .ref 162), (1, .int (nI r)), (2, .int n), (3, .int (nI j)), (4, .int (nI (66 * r))), (5, .int (nI i))]) (st2 := [.int ((6 : Int32) * (nI (i + 1))), .int (nI (66 * r)), .ref 214, .int (pa.getD (((66 * r) + (6 * i)) + j) 0)]) (h2 := h) (dc2 := dc) (ds2 := ds) 1 rfl ?_
        refine wq_vi (show (6 : Int32) * (nI (i + 1)) = nI (6 * (i + 1)) from e_nmul 6 (i + 1)) ?_
        refine wq_gos (f := 1) (pc2 := 124) (ls2 := [(6, .int (co.getD ((11 * r) + i) 0)), (0, .ref 162), (1, .int (nI r)), (2, .int n), (3, .int (nI j)), (4, .int (nI (66 * r))), (5, .int (nI i))]) (st2 := [.int ((nI (66 * r)) + (nI (6 * (i + 1)))), .ref 214, .int (pa.getD (((66 * r) + (6 * i)) + j) 0)]) (h2 := h) (dc2 := dc) (ds2 := ds) 1 rfl ?_
        refine wq_vi (show (nI (66 * r)) + (nI (6 * (i + 1))) = nI ((66 * r) + (6 * (i + 1))) from nI_add (66 * r) (6 * (i + 1))) ?_
        refine wq_gos (f := 1) (pc2 := 126) (ls2 := [(6, .int (co.getD ((11 * r) + i) 0)), (0, .ref 162), (1, .int (nI r)), (2, .int n), (3, .int (nI j)), (4, .int (nI (66 * r))), (5, .int (nI i))]) (st2 := [.int ((nI ((66 * r) + (6 * (i + 1)))) + (nI j)), .ref 214, .int (pa.getD (((66 * r) + (6 * i)) + j) 0)]) (h2 := h) (dc2 := dc) (ds2 := ds) 2 rfl ?_
        refine wq_vi (show (nI ((66 * r) + (6 * (i + 1)))) + (nI j) = nI (((66 * r) + (6 * (i + 1))) + j) from nI_add ((66 * r) + (6 * (i + 1))) j) ?_
        try have q9x := nI_toInt (n := (((66 * r) + (6 * (i + 1))) + j)) (by omega)
        refine wq_ialdn rfl hPa (by first | omega | exact zin_t (by omega) (by omega)) (by decide) rfl ?_
        refine wq_gos (f := 1) (pc2 := 132) (ls2 := [(6, .int (co.getD ((11 * r) + i) 0)), (0, .ref 162), (1, .int (nI r)), (2, .int n), (3, .int (nI j)), (4, .int (nI (66 * r))), (5, .int (nI i))]) (st2 := [.ref 162, .int (n - (co.getD ((11 * r) + i) 0)), .int (pa.getD (((66 * r) + (6 * (i + 1))) + j) 0), .int (pa.getD (((66 * r) + (6 * i)) + j) 0)]) (h2 := h) (dc2 := dc) (ds2 := ds) 4 rfl ?_
        refine wq_getf rfl hM rfl rfl ?_
        refine wq_gos (f := 1) (pc2 := 139) (ls2 := [(6, .int (co.getD ((11 * r) + i) 0)), (0, .ref 162), (1, .int (nI r)), (2, .int n), (3, .int (nI j)), (4, .int (nI (66 * r))), (5, .int (nI i))]) (st2 := [.int ((11 : Int32) * (nI r)), .ref 218, .int (n - (co.getD ((11 * r) + i) 0)), .int (pa.getD (((66 * r) + (6 * (i + 1))) + j) 0), .int (pa.getD (((66 * r) + (6 * i)) + j) 0)]) (h2 := h) (dc2 := dc) (ds2 := ds) 3 rfl ?_
        refine wq_vi (show (11 : Int32) * (nI r) = nI (11 * r) from e_nmul 11 r) ?_
        refine wq_gos (f := 1) (pc2 := 142) (ls2 := [(6, .int (co.getD ((11 * r) + i) 0)), (0, .ref 162), (1, .int (nI r)), (2, .int n), (3, .int (nI j)), (4, .int (nI (66 * r))), (5, .int (nI i))]) (st2 := [.int ((nI (11 * r)) + (nI i)), .ref 218, .int (n - (co.getD ((11 * r) + i) 0)), .int (pa.getD (((66 * r) + (6 * (i + 1))) + j) 0), .int (pa.getD (((66 * r) + (6 * i)) + j) 0)]) (h2 := h) (dc2 := dc) (ds2 := ds) 2 rfl ?_
        refine wq_vi (show (nI (11 * r)) + (nI i) = nI ((11 * r) + i) from nI_add (11 * r) i) ?_
        refine wq_gos (f := 1) (pc2 := 144) (ls2 := [(6, .int (co.getD ((11 * r) + i) 0)), (0, .ref 162), (1, .int (nI r)), (2, .int n), (3, .int (nI j)), (4, .int (nI (66 * r))), (5, .int (nI i))]) (st2 := [.int ((nI ((11 * r) + i)) + (1 : Int32)), .ref 218, .int (n - (co.getD ((11 * r) + i) 0)), .int (pa.getD (((66 * r) + (6 * (i + 1))) + j) 0), .int (pa.getD (((66 * r) + (6 * i)) + j) 0)]) (h2 := h) (dc2 := dc) (ds2 := ds) 2 rfl ?_
        refine wq_vi (show (nI ((11 * r) + i)) + (1 : Int32) = nI (((11 * r) + i) + 1) from nI_add ((11 * r) + i) 1) ?_
        try have q10x := nI_toInt (n := (((11 * r) + i) + 1)) (by omega)
        refine wq_ialdn rfl hCo (by first | omega | exact zin_t (by omega) (by omega)) (by decide) rfl ?_
        refine wq_gos (f := 1) (pc2 := 148) (ls2 := [(6, .int (co.getD ((11 * r) + i) 0)), (0, .ref 162), (1, .int (nI r)), (2, .int n), (3, .int (nI j)), (4, .int (nI (66 * r))), (5, .int (nI i))]) (st2 := [.int ((co.getD (((11 * r) + i) + 1) 0) - (co.getD ((11 * r) + i) 0)), .int (n - (co.getD ((11 * r) + i) 0)), .int (pa.getD (((66 * r) + (6 * (i + 1))) + j) 0), .int (pa.getD (((66 * r) + (6 * i)) + j) 0)]) (h2 := h) (dc2 := dc) (ds2 := ds) 2 rfl ?_
        try have q11x : ((n - (co.getD ((11 * r) + i) 0))).toInt = n.toInt - (co.getD ((11 * r) + i) 0).toInt := e_sub (by omega) (by omega)
        try have q12x : (((co.getD (((11 * r) + i) + 1) 0) - (co.getD ((11 * r) + i) 0))).toInt = (co.getD (((11 * r) + i) + 1) 0).toInt - (co.getD ((11 * r) + i) 0).toInt := e_sub (by omega) (by omega)
        refine wq_inl (y2 := 235) (as := [.int (pa.getD (((66 * r) + (6 * i)) + j) 0), .int (pa.getD (((66 * r) + (6 * (i + 1))) + j) 0), .int (n - (co.getD ((11 * r) + i) 0)), .int ((co.getD (((11 * r) + i) + 1) 0) - (co.getD ((11 * r) + i) 0))]) rfl rfl rfl (wq_mono m_btw ?_)
        rintro _ rfl
        show wq 253 151 [(6, .int (co.getD ((11 * r) + i) 0)), (0, .ref 162), (1, .int (nI r)), (2, .int n), (3, .int (nI j)), (4, .int (nI (66 * r))), (5, .int (nI i))] [.int (mBtw (pa.getD (((66 * r) + (6 * i)) + j) 0) (pa.getD (((66 * r) + (6 * (i + 1))) + j) 0) (n - (co.getD ((11 * r) + i) 0)) ((co.getD (((11 * r) + i) + 1) 0) - (co.getD ((11 * r) + i) 0)))] h dc ds _
        have hx : (mjaF pa co wy r j n (m + 1) i) = (mBtw (pa.getD (((66 * r) + (6 * i)) + j) 0) (pa.getD (((66 * r) + (6 * (i + 1))) + j) 0) (n - (co.getD ((11 * r) + i) 0)) ((co.getD (((11 * r) + i) + 1) 0) - (co.getD ((11 * r) + i) 0))) := by show (if _ then _ else _) = _; rw [if_pos b4x, if_pos b5x]
        refine wq_ret rfl rfl ?_
        show (some (Value.int (mBtw (pa.getD (((66 * r) + (6 * i)) + j) 0) (pa.getD (((66 * r) + (6 * (i + 1))) + j) 0) (n - (co.getD ((11 * r) + i) 0)) ((co.getD (((11 * r) + i) + 1) 0) - (co.getD ((11 * r) + i) 0)))), h, dc, ds) = (some (Value.int (mjaF pa co wy r j n (m + 1) i)), h, dc, ds)
        rw [hx]
      · have q14x : (nI i).toInt = (nI wy).toInt := congrArg Int32.toInt b5x
        refine wq_gos (f := 1) (pc2 := 66) (ls2 := [(0, .ref 162), (1, .int (nI r)), (2, .int n), (3, .int (nI j)), (4, .int (nI (66 * r))), (5, .int (nI i))]) (st2 := [.ref 162]) (h2 := h) (dc2 := dc) (ds2 := ds) 1 rfl ?_
        refine wq_getf rfl hM rfl rfl ?_
        refine wq_gos (f := 1) (pc2 := 76) (ls2 := [(0, .ref 162), (1, .int (nI r)), (2, .int n), (3, .int (nI j)), (4, .int (nI (66 * r))), (5, .int (nI i))]) (st2 := [.int ((6 : Int32) * (nI i)), .int (nI (66 * r)), .ref 214]) (h2 := h) (dc2 := dc) (ds2 := ds) 4 rfl ?_
        refine wq_vi (show (6 : Int32) * (nI i) = nI (6 * i) from e_nmul 6 i) ?_
        refine wq_gos (f := 1) (pc2 := 77) (ls2 := [(0, .ref 162), (1, .int (nI r)), (2, .int n), (3, .int (nI j)), (4, .int (nI (66 * r))), (5, .int (nI i))]) (st2 := [.int ((nI (66 * r)) + (nI (6 * i))), .ref 214]) (h2 := h) (dc2 := dc) (ds2 := ds) 1 rfl ?_
        refine wq_vi (show (nI (66 * r)) + (nI (6 * i)) = nI ((66 * r) + (6 * i)) from nI_add (66 * r) (6 * i)) ?_
        refine wq_gos (f := 1) (pc2 := 79) (ls2 := [(0, .ref 162), (1, .int (nI r)), (2, .int n), (3, .int (nI j)), (4, .int (nI (66 * r))), (5, .int (nI i))]) (st2 := [.int ((nI ((66 * r) + (6 * i))) + (nI j)), .ref 214]) (h2 := h) (dc2 := dc) (ds2 := ds) 2 rfl ?_
        refine wq_vi (show (nI ((66 * r) + (6 * i))) + (nI j) = nI (((66 * r) + (6 * i)) + j) from nI_add ((66 * r) + (6 * i)) j) ?_
        try have q15x := nI_toInt (n := (((66 * r) + (6 * i)) + j)) (by omega)
        refine wq_ialdn rfl hPa (by first | omega | exact zin_t (by omega) (by omega)) (by decide) rfl ?_
        have hx : (mjaF pa co wy r j n (m + 1) i) = (pa.getD (((66 * r) + (6 * i)) + j) 0) := by show (if _ then _ else _) = _; rw [if_pos b4x, if_neg (fun q => q b5x)]
        refine wq_ret rfl rfl ?_
        show (some (Value.int (pa.getD (((66 * r) + (6 * i)) + j) 0)), h, dc, ds) = (some (Value.int (mjaF pa co wy r j n (m + 1) i)), h, dc, ds)
        rw [hx]
    · refine wq_gos (f := 1) (pc2 := 34) (ls2 := [(0, .ref 162), (1, .int (nI r)), (2, .int n), (3, .int (nI j)), (4, .int (nI (66 * r))), (5, .int (nI i))]) (st2 := [.ref 162, .int n]) (h2 := h) (dc2 := dc) (ds2 := ds) 2 rfl ?_
      refine wq_getf rfl hM rfl rfl ?_
      refine wq_gos (f := 1) (pc2 := 41) (ls2 := [(0, .ref 162), (1, .int (nI r)), (2, .int n), (3, .int (nI j)), (4, .int (nI (66 * r))), (5, .int (nI i))]) (st2 := [.int ((11 : Int32) * (nI r)), .ref 218, .int n]) (h2 := h) (dc2 := dc) (ds2 := ds) 3 rfl ?_
      refine wq_vi (show (11 : Int32) * (nI r) = nI (11 * r) from e_nmul 11 r) ?_
      refine wq_gos (f := 1) (pc2 := 44) (ls2 := [(0, .ref 162), (1, .int (nI r)), (2, .int n), (3, .int (nI j)), (4, .int (nI (66 * r))), (5, .int (nI i))]) (st2 := [.int ((nI (11 * r)) + (nI i)), .ref 218, .int n]) (h2 := h) (dc2 := dc) (ds2 := ds) 2 rfl ?_
      refine wq_vi (show (nI (11 * r)) + (nI i) = nI ((11 * r) + i) from nI_add (11 * r) i) ?_
      refine wq_gos (f := 1) (pc2 := 46) (ls2 := [(0, .ref 162), (1, .int (nI r)), (2, .int n), (3, .int (nI j)), (4, .int (nI (66 * r))), (5, .int (nI i))]) (st2 := [.int ((nI ((11 * r) + i)) + (1 : Int32)), .ref 218, .int n]) (h2 := h) (dc2 := dc) (ds2 := ds) 2 rfl ?_
      refine wq_vi (show (nI ((11 * r) + i)) + (1 : Int32) = nI (((11 * r) + i) + 1) from nI_add ((11 * r) + i) 1) ?_
      try have q16x := nI_toInt (n := (((11 * r) + i) + 1)) (by omega)
      refine wq_ialdn rfl hCo (by first | omega | exact zin_t (by omega) (by omega)) (by decide) rfl ?_
      refine wq_le2 rfl rfl (fun b17x => ?_) (fun b17x => ?_)
      · refine wq_gos (f := 1) (pc2 := 59) (ls2 := [(0, .ref 162), (1, .int (nI r)), (2, .int n), (3, .int (nI j)), (4, .int (nI (66 * r))), (5, .int (nI i))]) (st2 := [.ref 162, .int (nI i)]) (h2 := h) (dc2 := dc) (ds2 := ds) 2 rfl ?_
        refine wq_inlv (y2 := 244) (as := []) rfl rfl rfl hM rfl ?_
        show wq 244 0 [(0, .ref 162)] [] h 0 0 _
        refine wq_gos (f := 1) (pc2 := 1) (ls2 := [(0, .ref 162)]) (st2 := [.ref 162]) (h2 := h) (dc2 := 0) (ds2 := 0) 1 rfl ?_
        refine wq_getf rfl hM rfl rfl ?_
        refine wq_gos (f := 1) (pc2 := 6) (ls2 := [(0, .ref 162)]) (st2 := [.int 6, .ref 166]) (h2 := h) (dc2 := 0) (ds2 := 0) 1 rfl ?_
        refine wq_iald rfl hK rfl rfl ?_
        refine wq_vi hkw.1 ?_
        refine wq_ret rfl rfl ?_
        show wq 253 62 [(0, .ref 162), (1, .int (nI r)), (2, .int n), (3, .int (nI j)), (4, .int (nI (66 * r))), (5, .int (nI i))] [.int (nI wy), .int (nI i)] h dc ds _
        refine wq_ne2 rfl rfl (fun b18x => ?_) (fun b18x => ?_)
        · have q19x : (nI i).toInt ≠ (nI wy).toInt := fun q => b18x (Int32.toInt_inj.mp q)
          refine wq_gos (f := 1) (pc2 := 82) (ls2 := [(0, .ref 162), (1, .int (nI r)), (2, .int n), (3, .int (nI j)), (4, .int (nI (66 * r))), (5, .int (nI i))]) (st2 := [.ref 162]) (h2 := h) (dc2 := dc) (ds2 := ds) 1 rfl ?_
          refine wq_getf rfl hM rfl rfl ?_
          refine wq_gos (f := 1) (pc2 := 89) (ls2 := [(0, .ref 162), (1, .int (nI r)), (2, .int n), (3, .int (nI j)), (4, .int (nI (66 * r))), (5, .int (nI i))]) (st2 := [.int ((11 : Int32) * (nI r)), .ref 218]) (h2 := h) (dc2 := dc) (ds2 := ds) 3 rfl ?_
          refine wq_vi (show (11 : Int32) * (nI r) = nI (11 * r) from e_nmul 11 r) ?_
          refine wq_gos (f := 1) (pc2 := 92) (ls2 := [(0, .ref 162), (1, .int (nI r)), (2, .int n), (3, .int (nI j)), (4, .int (nI (66 * r))), (5, .int (nI i))]) (st2 := [.int ((nI (11 * r)) + (nI i)), .ref 218]) (h2 := h) (dc2 := dc) (ds2 := ds) 2 rfl ?_
          refine wq_vi (show (nI (11 * r)) + (nI i) = nI ((11 * r) + i) from nI_add (11 * r) i) ?_
          try have q20x := nI_toInt (n := ((11 * r) + i)) (by omega)
          refine wq_ialdn rfl hCo (by first | omega | exact zin_t (by omega) (by omega)) (by decide) rfl ?_
          refine wq_gos (f := 1) (pc2 := 96) (ls2 := [(6, .int (co.getD ((11 * r) + i) 0)), (0, .ref 162), (1, .int (nI r)), (2, .int n), (3, .int (nI j)), (4, .int (nI (66 * r))), (5, .int (nI i))]) (st2 := [.ref 162]) (h2 := h) (dc2 := dc) (ds2 := ds) 2 rfl ?_
          refine wq_getf rfl hM rfl rfl ?_
          refine wq_gos (f := 1) (pc2 := 106) (ls2 := [(6, .int (co.getD ((11 * r) + i) 0)), (0, .ref 162), (1, .int (nI r)), (2, .int n), (3, .int (nI j)), (4, .int (nI (66 * r))), (5, .int (nI i))]) (st2 := [.int ((6 : Int32) * (nI i)), .int (nI (66 * r)), .ref 214]) (h2 := h) (dc2 := dc) (ds2 := ds) 4 rfl ?_
          refine wq_vi (show (6 : Int32) * (nI i) = nI (6 * i) from e_nmul 6 i) ?_
          refine wq_gos (f := 1) (pc2 := 107) (ls2 := [(6, .int (co.getD ((11 * r) + i) 0)), (0, .ref 162), (1, .int (nI r)), (2, .int n), (3, .int (nI j)), (4, .int (nI (66 * r))), (5, .int (nI i))]) (st2 := [.int ((nI (66 * r)) + (nI (6 * i))), .ref 214]) (h2 := h) (dc2 := dc) (ds2 := ds) 1 rfl ?_
          refine wq_vi (show (nI (66 * r)) + (nI (6 * i)) = nI ((66 * r) + (6 * i)) from nI_add (66 * r) (6 * i)) ?_
          refine wq_gos (f := 1) (pc2 := 109) (ls2 := [(6, .int (co.getD ((11 * r) + i) 0)), (0, .ref 162), (1, .int (nI r)), (2, .int n), (3, .int (nI j)), (4, .int (nI (66 * r))), (5, .int (nI i))]) (st2 := [.int ((nI ((66 * r) + (6 * i))) + (nI j)), .ref 214]) (h2 := h) (dc2 := dc) (ds2 := ds) 2 rfl ?_
          refine wq_vi (show (nI ((66 * r) + (6 * i))) + (nI j) = nI (((66 * r) + (6 * i)) + j) from nI_add ((66 * r) + (6 * i)) j) ?_
          try have q21x := nI_toInt (n := (((66 * r) + (6 * i)) + j)) (by omega)
          refine wq_ialdn rfl hPa (by first | omega | exact zin_t (by omega) (by omega)) (by decide) rfl ?_
          refine wq_gos (f := 1) (pc2 := 111) (ls2 := [(6, .int (co.getD ((11 * r) + i) 0)), (0, .ref 162), (1, .int (nI r)), (2, .int n), (3, .int (nI j)), (4, .int (nI (66 * r))), (5, .int (nI i))]) (st2 := [.ref 162, .int (pa.getD (((66 * r) + (6 * i)) + j) 0)]) (h2 := h) (dc2 := dc) (ds2 := ds) 1 rfl ?_
          refine wq_getf rfl hM rfl rfl ?_
          refine wq_gos (f := 1) (pc2 := 122) (ls2 := [(6, .int (co.getD ((11 * r) + i) 0)), (0, .ref 162), (1, .int (nI r)), (2, .int n), (3, .int (nI j)), (4, .int (nI (66 * r))), (5, .int (nI i))]) (st2 := [.int ((nI i) + (1 : Int32)), .int 6, .int (nI (66 * r)), .ref 214, .int (pa.getD (((66 * r) + (6 * i)) + j) 0)]) (h2 := h) (dc2 := dc) (ds2 := ds) 5 rfl ?_
          refine wq_vi (show (nI i) + (1 : Int32) = nI (i + 1) from nI_add i 1) ?_
          refine wq_gos (f := 1) (pc2 := 123) (ls2 := [(6, .int (co.getD ((11 * r) + i) 0)), (0, .ref 162), (1, .int (nI r)), (2, .int n), (3, .int (nI j)), (4, .int (nI (66 * r))), (5, .int (nI i))]) (st2 := [.int ((6 : Int32) * (nI (i + 1))), .int (nI (66 * r)), .ref 214, .int (pa.getD (((66 * r) + (6 * i)) + j) 0)]) (h2 := h) (dc2 := dc) (ds2 := ds) 1 rfl ?_
          refine wq_vi (show (6 : Int32) * (nI (i + 1)) = nI (6 * (i + 1)) from e_nmul 6 (i + 1)) ?_
          refine wq_gos (f := 1) (pc2 := 124) (ls2 := [(6, .int (co.getD ((11 * r) + i) 0)), (0, .ref 162), (1, .int (nI r)), (2, .int n), (3, .int (nI j)), (4, .int (nI (66 * r))), (5, .int (nI i))]) (st2 := [.int ((nI (66 * r)) + (nI (6 * (i + 1)))), .ref 214, .int (pa.getD (((66 * r) + (6 * i)) + j) 0)]) (h2 := h) (dc2 := dc) (ds2 := ds) 1 rfl ?_
          refine wq_vi (show (nI (66 * r)) + (nI (6 * (i + 1))) = nI ((66 * r) + (6 * (i + 1))) from nI_add (66 * r) (6 * (i + 1))) ?_
          refine wq_gos (f := 1) (pc2 := 126) (ls2 := [(6, .int (co.getD ((11 * r) + i) 0)), (0, .ref 162), (1, .int (nI r)), (2, .int n), (3, .int (nI j)), (4, .int (nI (66 * r))), (5, .int (nI i))]) (st2 := [.int ((nI ((66 * r) + (6 * (i + 1)))) + (nI j)), .ref 214, .int (pa.getD (((66 * r) + (6 * i)) + j) 0)]) (h2 := h) (dc2 := dc) (ds2 := ds) 2 rfl ?_
          refine wq_vi (show (nI ((66 * r) + (6 * (i + 1)))) + (nI j) = nI (((66 * r) + (6 * (i + 1))) + j) from nI_add ((66 * r) + (6 * (i + 1))) j) ?_
          try have q22x := nI_toInt (n := (((66 * r) + (6 * (i + 1))) + j)) (by omega)
          refine wq_ialdn rfl hPa (by first | omega | exact zin_t (by omega) (by omega)) (by decide) rfl ?_
          refine wq_gos (f := 1) (pc2 := 132) (ls2 := [(6, .int (co.getD ((11 * r) + i) 0)), (0, .ref 162), (1, .int (nI r)), (2, .int n), (3, .int (nI j)), (4, .int (nI (66 * r))), (5, .int (nI i))]) (st2 := [.ref 162, .int (n - (co.getD ((11 * r) + i) 0)), .int (pa.getD (((66 * r) + (6 * (i + 1))) + j) 0), .int (pa.getD (((66 * r) + (6 * i)) + j) 0)]) (h2 := h) (dc2 := dc) (ds2 := ds) 4 rfl ?_
          refine wq_getf rfl hM rfl rfl ?_
          refine wq_gos (f := 1) (pc2 := 139) (ls2 := [(6, .int (co.getD ((11 * r) + i) 0)), (0, .ref 162), (1, .int (nI r)), (2, .int n), (3, .int (nI j)), (4, .int (nI (66 * r))), (5, .int (nI i))]) (st2 := [.int ((11 : Int32) * (nI r)), .ref 218, .int (n - (co.getD ((11 * r) + i) 0)), .int (pa.getD (((66 * r) + (6 * (i + 1))) + j) 0), .int (pa.getD (((66 * r) + (6 * i)) + j) 0)]) (h2 := h) (dc2 := dc) (ds2 := ds) 3 rfl ?_
          refine wq_vi (show (11 : Int32) * (nI r) = nI (11 * r) from e_nmul 11 r) ?_
          refine wq_gos (f := 1) (pc2 := 142) (ls2 := [(6, .int (co.getD ((11 * r) + i) 0)), (0, .ref 162), (1, .int (nI r)), (2, .int n), (3, .int (nI j)), (4, .int (nI (66 * r))), (5, .int (nI i))]) (st2 := [.int ((nI (11 * r)) + (nI i)), .ref 218, .int (n - (co.getD ((11 * r) + i) 0)), .int (pa.getD (((66 * r) + (6 * (i + 1))) + j) 0), .int (pa.getD (((66 * r) + (6 * i)) + j) 0)]) (h2 := h) (dc2 := dc) (ds2 := ds) 2 rfl ?_
          refine wq_vi (show (nI (11 * r)) + (nI i) = nI ((11 * r) + i) from nI_add (11 * r) i) ?_
          refine wq_gos (f := 1) (pc2 := 144) (ls2 := [(6, .int (co.getD ((11 * r) + i) 0)), (0, .ref 162), (1, .int (nI r)), (2, .int n), (3, .int (nI j)), (4, .int (nI (66 * r))), (5, .int (nI i))]) (st2 := [.int ((nI ((11 * r) + i)) + (1 : Int32)), .ref 218, .int (n - (co.getD ((11 * r) + i) 0)), .int (pa.getD (((66 * r) + (6 * (i + 1))) + j) 0), .int (pa.getD (((66 * r) + (6 * i)) + j) 0)]) (h2 := h) (dc2 := dc) (ds2 := ds) 2 rfl ?_
          refine wq_vi (show (nI ((11 * r) + i)) + (1 : Int32) = nI (((11 * r) + i) + 1) from nI_add ((11 * r) + i) 1) ?_
          refine wq_ialdn rfl hCo (by first | omega | exact zin_t (by omega) (by omega)) (by decide) rfl ?_
          refine wq_gos (f := 1) (pc2 := 148) (ls2 := [(6, .int (co.getD ((11 * r) + i) 0)), (0, .ref 162), (1, .int (nI r)), (2, .int n), (3, .int (nI j)), (4, .int (nI (66 * r))), (5, .int (nI i))]) (st2 := [.int ((co.getD (((11 * r) + i) + 1) 0) - (co.getD ((11 * r) + i) 0)), .int (n - (co.getD ((11 * r) + i) 0)), .int (pa.getD (((66 * r) + (6 * (i + 1))) + j) 0), .int (pa.getD (((66 * r) + (6 * i)) + j) 0)]) (h2 := h) (dc2 := dc) (ds2 := ds) 2 rfl ?_
          try have q23x : ((n - (co.getD ((11 * r) + i) 0))).toInt = n.toInt - (co.getD ((11 * r) + i) 0).toInt := e_sub (by omega) (by omega)
          try have q24x : (((co.getD (((11 * r) + i) + 1) 0) - (co.getD ((11 * r) + i) 0))).toInt = (co.getD (((11 * r) + i) + 1) 0).toInt - (co.getD ((11 * r) + i) 0).toInt := e_sub (by omega) (by omega)
          refine wq_inl (y2 := 235) (as := [.int (pa.getD (((66 * r) + (6 * i)) + j) 0), .int (pa.getD (((66 * r) + (6 * (i + 1))) + j) 0), .int (n - (co.getD ((11 * r) + i) 0)), .int ((co.getD (((11 * r) + i) + 1) 0) - (co.getD ((11 * r) + i) 0))]) rfl rfl rfl (wq_mono m_btw ?_)
          rintro _ rfl
          show wq 253 151 [(6, .int (co.getD ((11 * r) + i) 0)), (0, .ref 162), (1, .int (nI r)), (2, .int n), (3, .int (nI j)), (4, .int (nI (66 * r))), (5, .int (nI i))] [.int (mBtw (pa.getD (((66 * r) + (6 * i)) + j) 0) (pa.getD (((66 * r) + (6 * (i + 1))) + j) 0) (n - (co.getD ((11 * r) + i) 0)) ((co.getD (((11 * r) + i) + 1) 0) - (co.getD ((11 * r) + i) 0)))] h dc ds _
          have hx : (mjaF pa co wy r j n (m + 1) i) = (mBtw (pa.getD (((66 * r) + (6 * i)) + j) 0) (pa.getD (((66 * r) + (6 * (i + 1))) + j) 0) (n - (co.getD ((11 * r) + i) 0)) ((co.getD (((11 * r) + i) + 1) 0) - (co.getD ((11 * r) + i) 0))) := by show (if _ then _ else _) = _; rw [if_neg (Int.not_le.mpr b4x), if_pos b17x, if_pos b18x]
          refine wq_ret rfl rfl ?_
          show (some (Value.int (mBtw (pa.getD (((66 * r) + (6 * i)) + j) 0) (pa.getD (((66 * r) + (6 * (i + 1))) + j) 0) (n - (co.getD ((11 * r) + i) 0)) ((co.getD (((11 * r) + i) + 1) 0) - (co.getD ((11 * r) + i) 0)))), h, dc, ds) = (some (Value.int (mjaF pa co wy r j n (m + 1) i)), h, dc, ds)
          rw [hx]
        · have q26x : (nI i).toInt = (nI wy).toInt := congrArg Int32.toInt b18x
          refine wq_gos (f := 1) (pc2 := 66) (ls2 := [(0, .ref 162), (1, .int (nI r)), (2, .int n), (3, .int (nI j)), (4, .int (nI (66 * r))), (5, .int (nI i))]) (st2 := [.ref 162]) (h2 := h) (dc2 := dc) (ds2 := ds) 1 rfl ?_
          refine wq_getf rfl hM rfl rfl ?_
          refine wq_gos (f := 1) (pc2 := 76) (ls2 := [(0, .ref 162), (1, .int (nI r)), (2, .int n), (3, .int (nI j)), (4, .int (nI (66 * r))), (5, .int (nI i))]) (st2 := [.int ((6 : Int32) * (nI i)), .int (nI (66 * r)), .ref 214]) (h2 := h) (dc2 := dc) (ds2 := ds) 4 rfl ?_
          refine wq_vi (show (6 : Int32) * (nI i) = nI (6 * i) from e_nmul 6 i) ?_
          refine wq_gos (f := 1) (pc2 := 77) (ls2 := [(0, .ref 162), (1, .int (nI r)), (2, .int n), (3, .int (nI j)), (4, .int (nI (66 * r))), (5, .int (nI i))]) (st2 := [.int ((nI (66 * r)) + (nI (6 * i))), .ref 214]) (h2 := h) (dc2 := dc) (ds2 := ds) 1 rfl ?_
          refine wq_vi (show (nI (66 * r)) + (nI (6 * i)) = nI ((66 * r) + (6 * i)) from nI_add (66 * r) (6 * i)) ?_
          refine wq_gos (f := 1) (pc2 := 79) (ls2 := [(0, .ref 162), (1, .int (nI r)), (2, .int n), (3, .int (nI j)), (4, .int (nI (66 * r))), (5, .int (nI i))]) (st2 := [.int ((nI ((66 * r) + (6 * i))) + (nI j)), .ref 214]) (h2 := h) (dc2 := dc) (ds2 := ds) 2 rfl ?_
          refine wq_vi (show (nI ((66 * r) + (6 * i))) + (nI j) = nI (((66 * r) + (6 * i)) + j) from nI_add ((66 * r) + (6 * i)) j) ?_
          try have q27x := nI_toInt (n := (((66 * r) + (6 * i)) + j)) (by omega)
          refine wq_ialdn rfl hPa (by first | omega | exact zin_t (by omega) (by omega)) (by decide) rfl ?_
          have hx : (mjaF pa co wy r j n (m + 1) i) = (pa.getD (((66 * r) + (6 * i)) + j) 0) := by show (if _ then _ else _) = _; rw [if_neg (Int.not_le.mpr b4x), if_pos b17x, if_neg (fun q => q b18x)]
          refine wq_ret rfl rfl ?_
          show (some (Value.int (pa.getD (((66 * r) + (6 * i)) + j) 0)), h, dc, ds) = (some (Value.int (mjaF pa co wy r j n (m + 1) i)), h, dc, ds)
          rw [hx]
      · refine wq_gos (f := 1) (pc2 := 53) (ls2 := [(5, .int ((nI i) + 1)), (0, .ref 162), (1, .int (nI r)), (2, .int n), (3, .int (nI j)), (4, .int (nI (66 * r)))]) (st2 := []) (h2 := h) (dc2 := dc) (ds2 := ds) 1 rfl ?_
        rw [nI_1]
        refine wq_gos (f := 1) (pc2 := 23) (ls2 := [(5, .int (nI (i + 1))), (0, .ref 162), (1, .int (nI r)), (2, .int n), (3, .int (nI j)), (4, .int (nI (66 * r)))]) (st2 := []) (h2 := h) (dc2 := dc) (ds2 := ds) 1 rfl ?_
        try have q28x := nI_toInt (n := (i + 1)) (by omega)
        try have q29x := nI_toInt (n := r) (by omega)
        try have q30x := nI_toInt (n := j) (by omega)
        try have q31x := nI_toInt (n := (66 * r)) (by omega)
        have hx : (mjaF pa co wy r j n (m + 1) i) = (mjaF pa co wy r j n m (i + 1)) := by show (if _ then _ else _) = _; rw [if_neg (Int.not_le.mpr b4x), if_neg (Int.not_le.mpr b17x)]
        rw [hx]
        refine wq_ls [(0, .ref 162), (1, .int (nI r)), (2, .int n), (3, .int (nI j)), (4, .int (nI (66 * r))), (5, .int (nI (i + 1)))] (show ([0, 1, 2, 3, 4, 5] : List Nat).Nodup by decide) ⟨rfl, rfl, rfl, rfl, rfl, rfl, trivial⟩ ?_
        exact ih (i + 1) (by first | omega | assumption | decide) (by omega) dc ds
