/-! The class: joint at every state. -/
noncomputable def cJt0 (ll lg sv : List Int32) (ps : Int64) (j : Nat) : Int32 := (jnumv ps (nI j))
set_option maxRecDepth 100000 in
set_option maxHeartbeats 4000000 in
theorem c_jt0 {h : zH} {t ra rd : Nat} {ps ip : Int64} {im : Int32} {sp so : Nat} {lk hd ht bl sd : Int32} {rt : Int64} {ll lg sv : List Int32} {j : Nat} (hX : zat h 0 = some (.inr (.inr (.inr (9, [.ref 2, .int (nI t), .ref 4, .ref ra, .ref rd, .long ps, .ref 34, .ref 36, .int im, .long ip, .ref 42, .ref 44, .ref 60, .ref 66, .ref 72, .ref 74, .ref 150, .ref 158]))))) (hA : zat h ra = some (.inr (.inr (.inr (0, [.int lk, .int hd, .int ht, .int bl, .int sd, .long rt, .ref (ra + 2), .ref (ra + 4), .ref (ra + 6), .int (nI sp), .ref (ra + 8), .ref (ra + 10), .int (nI so), .ref (ra + 12)]))))) (hL : zat h (ra + 2) = some (.inl (0, 6, ll))) (hG : zat h (ra + 4) = some (.inl (0, 6, lg))) (hV : zat h (ra + 6) = some (.inl (0, 6, sv))) (hra : ra = 6 ∨ ra = 20) (hj : j < 6) : wq 105 0 [(0, .ref 0), (1, .int (nI j)), (2, .int 0)] [] h 0 0 (fun rr9 => rr9 = (some (.int (cJt0 ll lg sv ps j)), h, 0, 0)) := by
  have qnj := nI_toInt (n := j) (by omega)
  have z6 : (6 : Int32).toInt = 6 := rfl
  refine wq_gos (f := 1) (pc2 := 1) (ls2 := [(0, .ref 0), (1, .int (nI j)), (2, .int 0)]) (st2 := [.int (nI j)]) (h2 := h) (dc2 := 0) (ds2 := 0) 1 rfl ?_
  refine wq_inl (y2 := 144) (as := [.int (nI j)]) rfl rfl rfl ?_
  show wq 144 0 [(0, .int (nI j))] [] h 0 0 _
  refine wq_gos (f := 1) (pc2 := 1) (ls2 := [(0, .int (nI j))]) (st2 := [.int (nI j)]) (h2 := h) (dc2 := 0) (ds2 := 0) 1 rfl ?_
  try have q1x := nI_toInt (n := j) (by omega)
  refine wq_lt0f rfl rfl (by omega) ?_
  refine wq_gos (f := 1) (pc2 := 7) (ls2 := [(0, .int (nI j))]) (st2 := [.int 6, .int (nI j)]) (h2 := h) (dc2 := 0) (ds2 := 0) 2 rfl ?_
  have q2x : (6 : Int32).toInt = 6 := rfl
  refine wq_lt2t rfl (by omega) ?_
  refine wq_gos (f := 1) (pc2 := 15) (ls2 := [(0, .int (nI j))]) (st2 := [.int 0]) (h2 := h) (dc2 := 0) (ds2 := 0) 1 rfl ?_
  refine wq_ret rfl rfl ?_
  show wq 105 4 [(0, .ref 0), (1, .int (nI j)), (2, .int 0)] [.int 0] h 0 0 _
  refine wq_gos (f := 1) (pc2 := 49) (ls2 := [(0, .ref 0), (1, .int (nI j)), (2, .int 0)]) (st2 := [.ref 0]) (h2 := h) (dc2 := 0) (ds2 := 0) 4 rfl ?_
  refine wq_getf rfl hX rfl rfl ?_
  refine wq_gos (f := 1) (pc2 := 53) (ls2 := [(0, .ref 0), (1, .int (nI j)), (2, .int 0)]) (st2 := [.int (nI j), .long ps]) (h2 := h) (dc2 := 0) (ds2 := 0) 1 rfl ?_
  refine wq_inl (y2 := 33) (as := [.long ps, .int (nI j)]) rfl rfl rfl (wq_mono c_numv ?_)
  rintro _ rfl
  show wq 105 56 [(0, .ref 0), (1, .int (nI j)), (2, .int 0)] [.int (jnumv ps (nI j))] h 0 0 _
  have w4x : (cJt0 ll lg sv ps j) = (jnumv ps (nI j)) := by unfold cJt0; rfl
  rw [w4x]
  exact wq_ret rfl rfl rfl
noncomputable def cJt1 (ll lg sv : List Int32) (ps : Int64) (j : Nat) : Int32 := (ll.getD j 0)
set_option maxRecDepth 100000 in
set_option maxHeartbeats 4000000 in
theorem c_jt1 {h : zH} {t ra rd : Nat} {ps ip : Int64} {im : Int32} {sp so : Nat} {lk hd ht bl sd : Int32} {rt : Int64} {ll lg sv : List Int32} {j : Nat} (hX : zat h 0 = some (.inr (.inr (.inr (9, [.ref 2, .int (nI t), .ref 4, .ref ra, .ref rd, .long ps, .ref 34, .ref 36, .int im, .long ip, .ref 42, .ref 44, .ref 60, .ref 66, .ref 72, .ref 74, .ref 150, .ref 158]))))) (hA : zat h ra = some (.inr (.inr (.inr (0, [.int lk, .int hd, .int ht, .int bl, .int sd, .long rt, .ref (ra + 2), .ref (ra + 4), .ref (ra + 6), .int (nI sp), .ref (ra + 8), .ref (ra + 10), .int (nI so), .ref (ra + 12)]))))) (hL : zat h (ra + 2) = some (.inl (0, 6, ll))) (hG : zat h (ra + 4) = some (.inl (0, 6, lg))) (hV : zat h (ra + 6) = some (.inl (0, 6, sv))) (hra : ra = 6 ∨ ra = 20) (hj : j < 6) : wq 105 0 [(0, .ref 0), (1, .int (nI j)), (2, .int 1)] [] h 0 0 (fun rr9 => rr9 = (some (.int (cJt1 ll lg sv ps j)), h, 0, 0)) := by
  have qnj := nI_toInt (n := j) (by omega)
  have z6 : (6 : Int32).toInt = 6 := rfl
  refine wq_gos (f := 1) (pc2 := 1) (ls2 := [(0, .ref 0), (1, .int (nI j)), (2, .int 1)]) (st2 := [.int (nI j)]) (h2 := h) (dc2 := 0) (ds2 := 0) 1 rfl ?_
  refine wq_inl (y2 := 144) (as := [.int (nI j)]) rfl rfl rfl ?_
  show wq 144 0 [(0, .int (nI j))] [] h 0 0 _
  refine wq_gos (f := 1) (pc2 := 1) (ls2 := [(0, .int (nI j))]) (st2 := [.int (nI j)]) (h2 := h) (dc2 := 0) (ds2 := 0) 1 rfl ?_
  try have q1x := nI_toInt (n := j) (by omega)
  refine wq_lt0f rfl rfl (by omega) ?_
  refine wq_gos (f := 1) (pc2 := 7) (ls2 := [(0, .int (nI j))]) (st2 := [.int 6, .int (nI j)]) (h2 := h) (dc2 := 0) (ds2 := 0) 2 rfl ?_
  have q2x : (6 : Int32).toInt = 6 := rfl
  refine wq_lt2t rfl (by omega) ?_
  refine wq_gos (f := 1) (pc2 := 15) (ls2 := [(0, .int (nI j))]) (st2 := [.int 0]) (h2 := h) (dc2 := 0) (ds2 := 0) 1 rfl ?_
  refine wq_ret rfl rfl ?_
  show wq 105 4 [(0, .ref 0), (1, .int (nI j)), (2, .int 1)] [.int 0] h 0 0 _
  refine wq_gos (f := 1) (pc2 := 58) (ls2 := [(0, .ref 0), (1, .int (nI j)), (2, .int 1)]) (st2 := [.ref 0]) (h2 := h) (dc2 := 0) (ds2 := 0) 4 rfl ?_
  refine wq_getf rfl hX rfl rfl ?_
  refine wq_getf rfl hA rfl rfl ?_
  refine wq_gos (f := 1) (pc2 := 65) (ls2 := [(0, .ref 0), (1, .int (nI j)), (2, .int 1)]) (st2 := [.int (nI j), .ref (ra + 2)]) (h2 := h) (dc2 := 0) (ds2 := 0) 1 rfl ?_
  refine wq_ialdn rfl hL (by first | omega | exact zin_t (by omega) (by omega)) (by decide) rfl ?_
  have w3x : (cJt1 ll lg sv ps j) = (ll.getD j 0) := by unfold cJt1; rfl
  rw [w3x]
  exact wq_ret rfl rfl rfl
noncomputable def cJt2 (ll lg sv : List Int32) (ps : Int64) (j : Nat) : Int32 := (lg.getD j 0)
set_option maxRecDepth 100000 in
set_option maxHeartbeats 4000000 in
theorem c_jt2 {h : zH} {t ra rd : Nat} {ps ip : Int64} {im : Int32} {sp so : Nat} {lk hd ht bl sd : Int32} {rt : Int64} {ll lg sv : List Int32} {j : Nat} (hX : zat h 0 = some (.inr (.inr (.inr (9, [.ref 2, .int (nI t), .ref 4, .ref ra, .ref rd, .long ps, .ref 34, .ref 36, .int im, .long ip, .ref 42, .ref 44, .ref 60, .ref 66, .ref 72, .ref 74, .ref 150, .ref 158]))))) (hA : zat h ra = some (.inr (.inr (.inr (0, [.int lk, .int hd, .int ht, .int bl, .int sd, .long rt, .ref (ra + 2), .ref (ra + 4), .ref (ra + 6), .int (nI sp), .ref (ra + 8), .ref (ra + 10), .int (nI so), .ref (ra + 12)]))))) (hL : zat h (ra + 2) = some (.inl (0, 6, ll))) (hG : zat h (ra + 4) = some (.inl (0, 6, lg))) (hV : zat h (ra + 6) = some (.inl (0, 6, sv))) (hra : ra = 6 ∨ ra = 20) (hj : j < 6) : wq 105 0 [(0, .ref 0), (1, .int (nI j)), (2, .int 2)] [] h 0 0 (fun rr9 => rr9 = (some (.int (cJt2 ll lg sv ps j)), h, 0, 0)) := by
  have qnj := nI_toInt (n := j) (by omega)
  have z6 : (6 : Int32).toInt = 6 := rfl
  refine wq_gos (f := 1) (pc2 := 1) (ls2 := [(0, .ref 0), (1, .int (nI j)), (2, .int 2)]) (st2 := [.int (nI j)]) (h2 := h) (dc2 := 0) (ds2 := 0) 1 rfl ?_
  refine wq_inl (y2 := 144) (as := [.int (nI j)]) rfl rfl rfl ?_
  show wq 144 0 [(0, .int (nI j))] [] h 0 0 _
  refine wq_gos (f := 1) (pc2 := 1) (ls2 := [(0, .int (nI j))]) (st2 := [.int (nI j)]) (h2 := h) (dc2 := 0) (ds2 := 0) 1 rfl ?_
  try have q1x := nI_toInt (n := j) (by omega)
  refine wq_lt0f rfl rfl (by omega) ?_
  refine wq_gos (f := 1) (pc2 := 7) (ls2 := [(0, .int (nI j))]) (st2 := [.int 6, .int (nI j)]) (h2 := h) (dc2 := 0) (ds2 := 0) 2 rfl ?_
  have q2x : (6 : Int32).toInt = 6 := rfl
  refine wq_lt2t rfl (by omega) ?_
  refine wq_gos (f := 1) (pc2 := 15) (ls2 := [(0, .int (nI j))]) (st2 := [.int 0]) (h2 := h) (dc2 := 0) (ds2 := 0) 1 rfl ?_
  refine wq_ret rfl rfl ?_
  show wq 105 4 [(0, .ref 0), (1, .int (nI j)), (2, .int 2)] [.int 0] h 0 0 _
  refine wq_gos (f := 1) (pc2 := 68) (ls2 := [(0, .ref 0), (1, .int (nI j)), (2, .int 2)]) (st2 := [.ref 0]) (h2 := h) (dc2 := 0) (ds2 := 0) 4 rfl ?_
  refine wq_getf rfl hX rfl rfl ?_
  refine wq_getf rfl hA rfl rfl ?_
  refine wq_gos (f := 1) (pc2 := 75) (ls2 := [(0, .ref 0), (1, .int (nI j)), (2, .int 2)]) (st2 := [.int (nI j), .ref (ra + 4)]) (h2 := h) (dc2 := 0) (ds2 := 0) 1 rfl ?_
  refine wq_ialdn rfl hG (by first | omega | exact zin_t (by omega) (by omega)) (by decide) rfl ?_
  have w3x : (cJt2 ll lg sv ps j) = (lg.getD j 0) := by unfold cJt2; rfl
  rw [w3x]
  exact wq_ret rfl rfl rfl
noncomputable def cJt3 (ll lg sv : List Int32) (ps : Int64) (j : Nat) : Int32 := (sv.getD j 0)
set_option maxRecDepth 100000 in
set_option maxHeartbeats 4000000 in
theorem c_jt3 {h : zH} {t ra rd : Nat} {ps ip : Int64} {im : Int32} {sp so : Nat} {lk hd ht bl sd : Int32} {rt : Int64} {ll lg sv : List Int32} {j : Nat} (hX : zat h 0 = some (.inr (.inr (.inr (9, [.ref 2, .int (nI t), .ref 4, .ref ra, .ref rd, .long ps, .ref 34, .ref 36, .int im, .long ip, .ref 42, .ref 44, .ref 60, .ref 66, .ref 72, .ref 74, .ref 150, .ref 158]))))) (hA : zat h ra = some (.inr (.inr (.inr (0, [.int lk, .int hd, .int ht, .int bl, .int sd, .long rt, .ref (ra + 2), .ref (ra + 4), .ref (ra + 6), .int (nI sp), .ref (ra + 8), .ref (ra + 10), .int (nI so), .ref (ra + 12)]))))) (hL : zat h (ra + 2) = some (.inl (0, 6, ll))) (hG : zat h (ra + 4) = some (.inl (0, 6, lg))) (hV : zat h (ra + 6) = some (.inl (0, 6, sv))) (hra : ra = 6 ∨ ra = 20) (hj : j < 6) : wq 105 0 [(0, .ref 0), (1, .int (nI j)), (2, .int 3)] [] h 0 0 (fun rr9 => rr9 = (some (.int (cJt3 ll lg sv ps j)), h, 0, 0)) := by
  have qnj := nI_toInt (n := j) (by omega)
  have z6 : (6 : Int32).toInt = 6 := rfl
  refine wq_gos (f := 1) (pc2 := 1) (ls2 := [(0, .ref 0), (1, .int (nI j)), (2, .int 3)]) (st2 := [.int (nI j)]) (h2 := h) (dc2 := 0) (ds2 := 0) 1 rfl ?_
  refine wq_inl (y2 := 144) (as := [.int (nI j)]) rfl rfl rfl ?_
  show wq 144 0 [(0, .int (nI j))] [] h 0 0 _
  refine wq_gos (f := 1) (pc2 := 1) (ls2 := [(0, .int (nI j))]) (st2 := [.int (nI j)]) (h2 := h) (dc2 := 0) (ds2 := 0) 1 rfl ?_
  try have q1x := nI_toInt (n := j) (by omega)
  refine wq_lt0f rfl rfl (by omega) ?_
  refine wq_gos (f := 1) (pc2 := 7) (ls2 := [(0, .int (nI j))]) (st2 := [.int 6, .int (nI j)]) (h2 := h) (dc2 := 0) (ds2 := 0) 2 rfl ?_
  have q2x : (6 : Int32).toInt = 6 := rfl
  refine wq_lt2t rfl (by omega) ?_
  refine wq_gos (f := 1) (pc2 := 15) (ls2 := [(0, .int (nI j))]) (st2 := [.int 0]) (h2 := h) (dc2 := 0) (ds2 := 0) 1 rfl ?_
  refine wq_ret rfl rfl ?_
  show wq 105 4 [(0, .ref 0), (1, .int (nI j)), (2, .int 3)] [.int 0] h 0 0 _
  refine wq_gos (f := 1) (pc2 := 78) (ls2 := [(0, .ref 0), (1, .int (nI j)), (2, .int 3)]) (st2 := [.ref 0]) (h2 := h) (dc2 := 0) (ds2 := 0) 4 rfl ?_
  refine wq_getf rfl hX rfl rfl ?_
  refine wq_getf rfl hA rfl rfl ?_
  refine wq_gos (f := 1) (pc2 := 85) (ls2 := [(0, .ref 0), (1, .int (nI j)), (2, .int 3)]) (st2 := [.int (nI j), .ref (ra + 6)]) (h2 := h) (dc2 := 0) (ds2 := 0) 1 rfl ?_
  refine wq_ialdn rfl hV (by first | omega | exact zin_t (by omega) (by omega)) (by decide) rfl ?_
  have w3x : (cJt3 ll lg sv ps j) = (sv.getD j 0) := by unfold cJt3; rfl
  rw [w3x]
  exact wq_ret rfl rfl rfl
theorem cJt {h : zH} {D S : Nat} {V : cV} {j w : Int32} (k : CI h D S V) (hj : 0 ≤ j.toInt ∧ j.toInt ≤ 5) (hw : 0 ≤ w.toInt ∧ w.toInt ≤ 3) : ∃ v : Int32, zT zg0 zF zP 105 0 (lv_args 0 [.ref 0, .int j, .int w]) [] h 0 0 (some (.int v), h, 0, 0) := by
  obtain ⟨rw, cp, t, rd, ps, ip, im, ra, sp, so, lk, hd, ht, bl, sd, rt, ll, lg, sv, nm, wy, po, wg, ka, kb, tb, wr9, wa9, pl, ia, ua, pp, us, un, kx, rfl, rfl, rfl⟩ := k
  have kx0 := kx
  obtain ⟨hX, ⟨htt, hrd, hrae⟩, kT, kA, kDr, kU, kZ, k6, kW, kRn, kSn, hRw, hlen⟩ := kx0
  have kA0 := kA
  obtain ⟨hA, hL, hG, hV, hN, hQ, hW, hsc, hlm, hsv, hsp, hway, hra⟩ := kA0
  obtain ⟨j9, e9, hj9⟩ : ∃ n : Nat, j = nI n ∧ n ≤ 5 := ⟨j.toNatClampNeg, nI_cl hj.1, by show j.toInt.toNat ≤ 5; omega⟩
  subst e9
  rcases cha_w hw.1 hw.2 with e | e | e | e <;> subst e
  · exact ⟨_, wq_toT (c_jt0 hX hA hL hG hV hra (by omega))⟩
  · exact ⟨_, wq_toT (c_jt1 hX hA hL hG hV hra (by omega))⟩
  · exact ⟨_, wq_toT (c_jt2 hX hA hL hG hV hra (by omega))⟩
  · exact ⟨_, wq_toT (c_jt3 hX hA hL hG hV hra (by omega))⟩
theorem CI_0 {h : zH} {D S : Nat} {V : cV} (k : CI h D S V) : ∃ fs, zat h 0 = some (.inr (.inr (.inr (9, fs)))) := by
  obtain ⟨rw, cp, t, rd, ps, ip, im, ra, sp, so, lk, hd, ht, bl, sd, rt, ll, lg, sv, nm, wy, po, wg, ka, kb, tb, wr9, wa9, pl, ia, ua, pp, us, un, kx, rfl, rfl, rfl⟩ := k
  have kx0 := kx
  obtain ⟨hX, ⟨htt, hrd, hrae⟩, kT, kA, kDr, kU, kZ, k6, kW, kRn, kSn, hRw, hlen⟩ := kx0
  exact ⟨_, hX⟩
