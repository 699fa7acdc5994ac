/-! The steps that aren't run by their code are the machine's. -/
theorem q4_njA {j : Int32} (hj : j.toInt < 0) (h : zH) : zT zg0 zF zP 144 0 [(0, .int j)] [] h 0 0 (some (.int 1), h, 0, 0) := by
  have e6 : (6 : Int32).toInt = 6 := rfl
  apply wq_toT
  refine wq_gos (f := 1) (pc2 := 1) (ls2 := [(0, .int j)]) (st2 := [.int j]) (h2 := h) (dc2 := 0) (ds2 := 0) 1 rfl ?_
  refine wq_lt0t rfl (by omega) ?_
  refine wq_gos (f := 1) (pc2 := 15) (ls2 := [(0, .int j)]) (st2 := [.int 1]) (h2 := h) (dc2 := 0) (ds2 := 0) 2 rfl ?_
  exact wq_ret rfl rfl rfl
theorem q4_njB {j : Int32} (hj : 5 < j.toInt) (h : zH) : zT zg0 zF zP 144 0 [(0, .int j)] [] h 0 0 (some (.int 1), h, 0, 0) := by
  have e6 : (6 : Int32).toInt = 6 := rfl
  apply wq_toT
  refine wq_gos (f := 1) (pc2 := 1) (ls2 := [(0, .int j)]) (st2 := [.int j]) (h2 := h) (dc2 := 0) (ds2 := 0) 1 rfl ?_
  refine wq_lt0f rfl rfl (by omega) ?_
  refine wq_gos (f := 1) (pc2 := 7) (ls2 := [(0, .int j)]) (st2 := [.int 6, .int j]) (h2 := h) (dc2 := 0) (ds2 := 0) 2 rfl ?_
  refine wq_lt2f rfl rfl (by omega) ?_
  refine wq_gos (f := 1) (pc2 := 15) (ls2 := [(0, .int j)]) (st2 := [.int 1]) (h2 := h) (dc2 := 0) (ds2 := 0) 2 rfl ?_
  exact wq_ret rfl rfl rfl
theorem q4_njC {j : Int32} (hj : 0 ≤ j.toInt ∧ j.toInt ≤ 5) (h : zH) : zT zg0 zF zP 144 0 [(0, .int j)] [] h 0 0 (some (.int 0), h, 0, 0) := by
  have e6 : (6 : Int32).toInt = 6 := rfl
  apply wq_toT
  refine wq_gos (f := 1) (pc2 := 1) (ls2 := [(0, .int j)]) (st2 := [.int j]) (h2 := h) (dc2 := 0) (ds2 := 0) 1 rfl ?_
  refine wq_lt0f rfl rfl (by omega) ?_
  refine wq_gos (f := 1) (pc2 := 7) (ls2 := [(0, .int j)]) (st2 := [.int 6, .int j]) (h2 := h) (dc2 := 0) (ds2 := 0) 2 rfl ?_
  refine wq_lt2t rfl (by omega) ?_
  refine wq_gos (f := 1) (pc2 := 15) (ls2 := [(0, .int j)]) (st2 := [.int 0]) (h2 := h) (dc2 := 0) (ds2 := 0) 1 rfl ?_
  exact wq_ret rfl rfl rfl
theorem q4_nj1 {j : Int32} (hj : j.toInt < 0 ∨ 5 < j.toInt) (h : zH) : zT zg0 zF zP 144 0 [(0, .int j)] [] h 0 0 (some (.int 1), h, 0, 0) := by
  rcases hj with hj | hj
  · exact q4_njA hj h
  · exact q4_njB hj h
theorem q4_njX {j : Int32} (h : zH) : ∃ b : Int32, ((j.toInt < 0 ∨ 5 < j.toInt) → b = 1) ∧ ((0 ≤ j.toInt ∧ j.toInt ≤ 5) → b = 0) ∧ zT zg0 zF zP 144 0 [(0, .int j)] [] h 0 0 (some (.int b), h, 0, 0) := by
  by_cases hj : 0 ≤ j.toInt ∧ j.toInt ≤ 5
  · exact ⟨0, fun q => by omega, fun _ => rfl, q4_njC hj h⟩
  · exact ⟨1, fun _ => rfl, fun q => absurd q hj, q4_nj1 (by omega) h⟩
/-- two runs that end are the same -/
theorem zrun_same {g : zCt} {F : zFs} {P : zCd} {n m y pc : Nat} {ls : zL} {st : List Value} {h : zH} {dc ds : Nat} {r r2 : zR} (a : zrun g F P n y pc ls st h dc ds = some r) (b : zrun g F P m y pc ls st h dc ds = some r2) : r = r2 := by
  have h1 := zrun_more a m
  have h2 := zrun_more b n
  rw [show m + n = n + m by omega, h1] at h2
  exact Option.some.inj h2
set_option maxRecDepth 1000000 in
set_option maxHeartbeats 4000000 in
theorem q4_g7 {g : zCt} {f : Nat} {j w : Int32} {h : zH} (hf : zrun g zF zP f 144 0 (lv_args 0 [.int j]) [] h 0 0 = some (some (.int 1), h, 0, 0)) : zgo g zF zP f 105 3 (0, lv_args 0 [.ref 0, .int j, .int w], [], h, 0, 0) = some (7, [(0, .ref 0), (1, .int j), (2, .int w)], [], h, 0, 0) :=
  zgo_st (s2 := (1, [(0, .ref 0), (1, .int j), (2, .int w)], [.int j], h, 0, 0)) rfl (zgo_st (s2 := (4, [(0, .ref 0), (1, .int j), (2, .int w)], [.int 1], h, 0, 0)) (zone_cal (y2 := 144) (as := [.int j]) (rest := []) rfl rfl hf) (zgo_st (s2 := (7, [(0, .ref 0), (1, .int j), (2, .int w)], [], h, 0, 0)) rfl rfl))
set_option maxRecDepth 1000000 in
set_option maxHeartbeats 4000000 in
theorem q4_g87 {g : zCt} {f : Nat} {j w : Int32} {h : zH} (hw : w.toInt < 0 ∨ 3 < w.toInt) (hf : zrun g zF zP f 144 0 (lv_args 0 [.int j]) [] h 0 0 = some (some (.int 0), h, 0, 0)) : zgo g zF zP f 105 5 (0, lv_args 0 [.ref 0, .int j, .int w], [], h, 0, 0) = some (87, [(0, .ref 0), (1, .int j), (2, .int w)], [], h, 0, 0) := by
  refine zgo_st (s2 := (1, [(0, .ref 0), (1, .int j), (2, .int w)], [.int j], h, 0, 0)) rfl (zgo_st (s2 := (4, [(0, .ref 0), (1, .int j), (2, .int w)], [.int 0], h, 0, 0)) (zone_cal (y2 := 144) (as := [.int j]) (rest := []) rfl rfl hf) (zgo_st (s2 := (17, [(0, .ref 0), (1, .int j), (2, .int w)], [], h, 0, 0)) rfl (zgo_st (s2 := (18, [(0, .ref 0), (1, .int j), (2, .int w)], [.int w], h, 0, 0)) rfl (zgo_st (s2 := (87, [(0, .ref 0), (1, .int j), (2, .int w)], [], h, 0, 0)) (zone_stp rfl ?_) rfl))))
  show (bif decide (w.toInt < (0 : Int)) || decide ((3 : Int) < w.toInt) then zs 87 _ _ _ else _) = _
  rw [show (decide (w.toInt < (0 : Int)) || decide ((3 : Int) < w.toInt)) = true by simpa using hw]
  rfl
theorem zb9 {α : Type} {b : Bool} {x : Option α} {y : α} (h : (bif b then x else none) = some y) : b = true ∧ x = some y := by
  cases b with
  | true => exact ⟨rfl, h⟩
  | false => cases h
section XS
variable {l : Launch} {D : va_G} {cy : Nat → ClassId} {sz : Nat} {ka : Nat → Nat} {g : zCt}
theorem sx_d5 : decode (zM 161).2.1 5 = .ok (.ldc 169, 2) := by decide +kernel
theorem sx_d15 : decode (zM 161).2.1 15 = .ok (.ldc 169, 2) := by decide +kernel
theorem sx_d52 : decode (zM 161).2.1 52 = .ok (.ldc 169, 2) := by decide +kernel
theorem sx_d69 : decode (zM 161).2.1 69 = .ok (.ldc 169, 2) := by decide +kernel
theorem sx_d97 : decode (zM 161).2.1 97 = .ok (.ldc 169, 2) := by decide +kernel
theorem sx_d7 : decode (zM 161).2.1 7 = .ok (.invokevirtual 171, 3) := by decide +kernel
theorem sx_d20 : decode (zM 161).2.1 20 = .ok (.invokevirtual 176, 3) := by decide +kernel
theorem sx_d57 : decode (zM 161).2.1 57 = .ok (.invokevirtual 176, 3) := by decide +kernel
theorem sx_d74 : decode (zM 161).2.1 74 = .ok (.invokevirtual 176, 3) := by decide +kernel
theorem sx_d100 : decode (zM 161).2.1 100 = .ok (.invokevirtual 176, 3) := by decide +kernel
theorem sx_ldc {pc : Nat} (h : (pc == 5 || (pc == 15 || (pc == 52 || (pc == 69 || pc == 97)))) = true) : decode (zM 161).2.1 pc = .ok (.ldc 169, 2) := by
  simp only [Bool.or_eq_true, beq_iff_eq] at h
  rcases h with rfl | rfl | rfl | rfl | rfl
  · exact sx_d5
  · exact sx_d15
  · exact sx_d52
  · exact sx_d69
  · exact sx_d97
theorem sx_cha {pc : Nat} (h : (pc == 20 || (pc == 57 || (pc == 74 || pc == 100))) = true) : decode (zM 161).2.1 pc = .ok (.invokevirtual 176, 3) := by
  simp only [Bool.or_eq_true, beq_iff_eq] at h
  rcases h with rfl | rfl | rfl | rfl
  · exact sx_d20
  · exact sx_d57
  · exact sx_d74
  · exact sx_d100
set_option maxHeartbeats 4000000 in
theorem zXS0 (hlt : l.stackTraces = false) (hg : zLe zg0 g) : ∀ n, zClaim zcl zTs lw_tbl zZs0 D cy sz ka g zF zM zP l n → zXs zcl zTs lw_tbl zZs0 D cy sz ka g zF zM zP l n := by
  intro n C y pc ls st h dc ds pc2 st2 h2 d1 s1 hP0 hs p e R s m args below meth c H locs A Q X hRf hRl hRc hRs hP hS hl hn kk
  obtain ⟨hx, hb, hml, hown, hts, hE, hyn⟩ := X
  have hXe := hE.2.2.2.2.2.2.1
  have hsz0 := hE.2.2.2.2.2.2.2
  unfold zspec at hs
  cases h1 : (y == 161) with
  | true =>
    rw [h1] at hs
    have hy : y = 161 := by simpa using h1
    subst hy
    have hs : zsp1 pc st h = some (pc2, st2, h2, d1, s1) := hs
    unfold zsp1 at hs
    cases hA : (pc == 5 || (pc == 15 || (pc == 52 || (pc == 69 || pc == 97)))) with
    | true =>
      rw [hA] at hs
      cases hs
      refine va_ldcS (tx := zTx) (index := 169) (q := ka 6) hx hb hown hXe.1 (sx_ldc hA) ?_
      exact kk H locs hP hS hn
    | false =>
      rw [hA] at hs
      simp only [cond_false] at hs
      refine zW_bound (fun hbd => ?_)
      have hsize : H.size = sz + h.length := zsize hP hS hsz0 hbd hn
      cases hB : (pc == 7) with
      | true =>
        rw [hB] at hs
        simp only [cond_true] at hs
        split at hs
        · next a r _ =>
          obtain ⟨q1, q2⟩ := zb9 hs
          simp only [Bool.and_eq_true, beq_iff_eq] at q1
          obtain ⟨rfl, q3⟩ := q1
          cases q2
          have hpc : pc = 7 := by simpa using hB
          subst hpc
          refine zafter (va_runV (C := "java/lang/String") (b := zr sz ka 13) (As := []) (rest := r.map (zv (zr sz ka))) ⟨hx, hb, hml, hown, hts⟩ sy_clen ⟨callB_of 0 hts (zgood zOK0.1 (sy_m 0 rfl)) rfl rfl rfl (hts _ (sy_m 5 rfl)) (hts _ (sy_m 25 rfl)) ⟨by decide, by decide, by decide +kernel⟩ ⟨by rw [hRf]; exact Nat.le_of_ble_eq_true rfl, by rw [hRl]; exact Nat.le_of_ble_eq_true rfl⟩, hts _ (sy_m 26 rfl), hts _ (sy_m 27 rfl)⟩ ⟨zPc_blind, vk_recv hXe.2.1 (i := 0) (by decide) hS, fun U hU hW => ⟨rfl, zEnv_at hE hS hU hW, by rw [hU]; exact hP, by rw [hU]; exact hsize⟩⟩ rfl rfl hl.1 rfl (lv_room (by have h9 := zcat_map (zr sz ka) r; unfold zcat at h9; rw [h9]; exact Nat.le_of_ble_eq_true q3)) sx_d7 ⟨hRc, hRs⟩) hS ?_
          intro H2 locs2 hP2 hS2 hn2
          exact kk H2 locs2 hP2 hS2 (by omega)
        · cases hs
      | false =>
        rw [hB] at hs
        simp only [cond_false] at hs
        cases hC : (pc == 20 || (pc == 57 || (pc == 74 || pc == 100))) with
        | true =>
          rw [hC] at hs
          simp only [cond_true] at hs
          split at hs
          · next k a r _ =>
            obtain ⟨q1, q2⟩ := zb9 hs
            simp only [Bool.and_eq_true, beq_iff_eq] at q1
            obtain ⟨rfl, q4, q3⟩ := q1
            cases q2
            refine zafter (va_runV (C := "java/lang/String") (b := zr sz ka 13) (As := [.int k]) (rest := r.map (zv (zr sz ka))) ⟨hx, hb, hml, hown, hts⟩ (sy_ccha q4) ⟨callB_of 1 hts (zgood zOK0.1 (sy_m 31 rfl)) rfl rfl rfl (hts _ (sy_m 5 rfl)) (hts _ (sy_m 28 rfl)) ⟨by decide, by decide, by decide +kernel⟩ ⟨by rw [hRf]; exact Nat.le_of_ble_eq_true rfl, by rw [hRl]; exact Nat.le_of_ble_eq_true rfl⟩, hts _ (sy_m 29 rfl), hts _ (sy_m 30 rfl)⟩ ⟨zPc_blind, vk_recv hXe.2.1 (i := 0) (by decide) hS, fun U hU hW => ⟨rfl, zEnv_at hE hS hU hW, by rw [hU]; exact hP, by rw [hU]; exact hsize⟩⟩ rfl rfl hl.1 rfl (lv_room (by have h9 := zcat_map (zr sz ka) r; unfold zcat at h9; rw [h9]; exact Nat.le_of_ble_eq_true q3)) (sx_cha hC) ⟨hRc, hRs⟩) hS ?_
            intro H2 locs2 hP2 hS2 hn2
            exact kk H2 locs2 hP2 hS2 (by omega)
          · cases hs
        | false => rw [hC] at hs; cases hs
  | false =>
    rw [h1] at hs
    simp only [cond_false] at hs
    cases h3 : (y == 288 && pc == zJpc) with
    | false => rw [h3] at hs; cases hs
    | true =>
      rw [h3] at hs
      simp only [Bool.and_eq_true, beq_iff_eq] at h3
      obtain ⟨rfl, rfl⟩ := h3
      refine zW_bound (fun hbd => ?_)
      have hsize : H.size = sz + h.length := zsize hP hS hsz0 hbd hn
      have hs : zsp2 (fun y as => zrun g zF zP n y 0 (lv_args 0 as) [] h 0 0) zJpc st h = some (pc2, st2, h2, d1, s1) := hs
      unfold zsp2 at hs
      split at hs
      · next o w j x _ =>
        obtain ⟨q1, hs⟩ := zb9 hs
        simp only [Bool.and_eq_true, beq_iff_eq] at q1
        obtain ⟨rfl, rfl⟩ := q1
        split at hs
        · next fs b h9 h0 hb9 =>
          obtain ⟨b1, c1, c0, ⟨f, hf⟩⟩ := q4_njX (j := j) h
          have hf2 := zrun_le hg hf
          have e9 := zrun_same hb9 hf2
          injection e9 with e9 e10
          injection e9 with e9
          injection e9 with e9
          injection e10 with e10
          rw [e9, e10] at hb9
          have go : ∀ (r : Int32) (h3 : zH) (d9 s9 : Nat) (hM : Met l q4y (q4c :: zTs) ({ frames := 10, cells := d9, slots := s9, locals := 300 }) (zPc zcl lw_tbl zZs0 D cy sz ka g (q4as j w) h) (zQc zcl D cy sz ka (some (.int r)) h3 d9) d9 s9 (fun q => sz ≤ q)), dc + d9 ≤ R.cells → ds + s9 ≤ R.slots → (∀ (H2 : Heap) (locs2 : List Loc), va_P D zcl (zW cy (zr sz ka) sz h3) H2 → va_S (fun q => sz ≤ q) s.heap H2 locs2 → sz + h3.length = s.heap.size + (dc + d9) → W p l e R s m args below meth c H2 locs2 (dc + d9) (ds + s9) Q (F0 m (zJpc + 3) A ([.int r] : List Value))) → W p l e R s m args below meth c H locs dc ds Q (F0 m zJpc A (([.ref 232, .int w, .int j, .ref 0] : List Value).map (zv (zr sz ka)))) := by
            intro r h3 d9 s9 hM hc9 hs9 kk9
            refine zafter (vx_runSW (As := (q4as j w).map (zv (zr sz ka))) (rest := []) ⟨hx, hb, hml, hown, hts⟩ hM (q4csw hRf hRl hts) ⟨zPc_blind, fun U hU hW => ⟨rfl, zEnv_at hE hS hU hW, by rw [hU]; exact hP, by rw [hU]; exact hsize⟩⟩ rfl rfl hl.1 rfl (lv_room (Nat.le_of_ble_eq_true rfl)) q4djp ⟨hc9, hs9⟩) hS ?_
            intro H2 locs2 hP2 hS2 hn2
            exact kk9 H2 locs2 hP2 hS2 (by omega)
          cases hj : (decide (j < 0) || decide (5 < j)) with
          | true =>
            rw [hj] at hs
            cases hs
            have hj2 : j.toInt < 0 ∨ 5 < j.toInt := by
              simp only [Bool.or_eq_true, decide_eq_true_eq, Int32.lt_iff_toInt_lt] at hj
              exact hj
            rw [c1 hj2] at hb9
            exact go 1 _ 1 6 (q4_t hlt (ci := 11) C h0 (q4_g7 hb9) (Or.inl ⟨rfl, rfl, rfl, rfl⟩)) hRc hRs kk
          | false =>
            rw [hj] at hs
            simp only [cond_false] at hs
            have hj2 : 0 ≤ j.toInt ∧ j.toInt ≤ 5 := by
              simp only [Bool.or_eq_false_iff, decide_eq_false_iff_not, Int32.lt_iff_toInt_lt] at hj
              have h5 : (5 : Int32).toInt = 5 := rfl
              have h00 : (0 : Int32).toInt = 0 := rfl
              omega
            rw [c0 hj2] at hb9
            cases hw : (decide (w < 0) || decide (3 < w)) with
            | true =>
              rw [hw] at hs
              cases hs
              have hw2 : w.toInt < 0 ∨ 3 < w.toInt := by
                simp only [Bool.or_eq_true, decide_eq_true_eq, Int32.lt_iff_toInt_lt] at hw
                exact hw
              exact go 2 _ 1 6 (q4_t hlt (ci := 12) C h0 (q4_g87 hw2 hb9) (Or.inr ⟨rfl, rfl, rfl, rfl⟩)) hRc hRs kk
            | false =>
              rw [hw] at hs
              simp only [cond_false] at hs
              split at hs
              · next v h5 hr5 =>
                split at hs
                · next f5 h232 =>
                  cases hs
                  exact go 0 _ 0 0 (q4_o C h0 h232 ⟨by decide, by decide⟩ hr5) hRc hRs kk
                · cases hs
              · cases hs
        · cases hs
      · cases hs
end XS
