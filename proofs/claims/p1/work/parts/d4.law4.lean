/-! op 4: the law's walk. -/
set_option maxRecDepth 100000 in
theorem q4w2 : ∀ w ∈ ([.stringRef "SixJoints" 150 "no such joint", .stringRef "SixJoints" 172 "no such what", .laysStatic Bundle.tN "UNASSIGNED_STACK" Bundle.steD, .laysStatic Bundle.tN "SUPPRESSED_SENTINEL" Bundle.listD, .initialized Bundle.tN, .castable q4I q4I, .castable q4N q4N, .declares (Bundle.initS "java/lang/RuntimeException"), .declares (Bundle.initS "java/lang/Exception"), .declares (Bundle.initS Bundle.tN)] : List Cond), w ∈ lw_tbl := by decide +kernel
set_option maxRecDepth 100000 in
theorem q4w3 : ∀ w ∈ ([.exactly (.string "SixJoints" 150) "java/lang/String", .exactly (.string "SixJoints" 172) "java/lang/String", .isRef (.static Bundle.tN "UNASSIGNED_STACK" Bundle.steD), .isRef (.static Bundle.tN "SUPPRESSED_SENTINEL" Bundle.listD), .not (.castable q4N q4I)] : List Cond), w ∈ flatC (Jvm.Cond.and given_1 narrow_1) := by decide +kernel
theorem q4env {p : Program} {s : State} {m : MethodId} {meth : Method} {c : Code} {b L : Nat} {xs : Nat → Int32} (C0 : lw_At p s m meth c b L xs) : ∃ a1 a2 : Nat, q4E s.heap.size a1 a2 s := by
  obtain ⟨hx, hb, hr, hml, hown, hts, hX, hbl, hlocks, hgv⟩ := C0
  have hs := flat_of_before _ hgv
  have w2 : ∀ (i : Nat) (w : Cond), _[i]? = some w → w.before #[Value.ref b] s = true := fun i w h => hts w (q4w2 w (List.mem_of_getElem? h))
  have w3 : ∀ (i : Nat) (w : Cond), _[i]? = some w → w.before #[Value.ref b] s = true := fun i w h => hs w (q4w3 w (List.mem_of_getElem? h))
  obtain ⟨a1, -, -, -, k1, -⟩ := Cond.exactly_spec (show (Cond.exactly (.string "SixJoints" 150) "java/lang/String").holds #[Value.ref b] s none s [] = true from w3 0 _ rfl)
  obtain ⟨a2, -, -, -, k2, -⟩ := Cond.exactly_spec (show (Cond.exactly (.string "SixJoints" 172) "java/lang/String").holds #[Value.ref b] s none s [] = true from w3 1 _ rfl)
  have hA : ∀ a : Nat, a < s.heap.size → ¬ (s.heap.size ≤ a) := fun a h1 h2 => by omega
  exact ⟨a1, a2, vk_R.of (w2 0 _ rfl) k1, vk_R.of (w2 1 _ rfl) k2, vx_Zqof (w2 2 _ rfl) (w2 4 _ rfl) (w3 2 _ rfl) hA, vx_Zqof (w2 3 _ rfl) (w2 4 _ rfl) (w3 3 _ rfl) hA, va_Nw.of rfl (w2 5 _ rfl), va_Nw.of rfl (w2 6 _ rfl), va_Nw.of rfl (w2 7 _ rfl), va_Nw.of rfl (w2 8 _ rfl), va_Nw.of rfl (w2 9 _ rfl), va_Nc.of (w3 4 _ rfl)⟩
theorem q4G : GoodIn zTs (va_wsS "SixJointsLaw" 39 q4y (q4c :: zTs)) := by
  have key : ∀ w ∈ va_wsS "SixJointsLaw" 39 q4y (q4c :: zTs), w ∈ zTs := by
    intro w hw
    unfold va_wsS at hw
    rcases List.mem_append.mp hw with h | h
    · rcases List.mem_cons.mp h with rfl | h
      · exact q4m 11 rfl
      · rcases List.mem_cons.mp h with rfl | h
        · exact q4m 12 rfl
        · rcases List.mem_cons.mp h with rfl | h
          · exact q4m 13 rfl
          · exact absurd h List.not_mem_nil
    · rcases List.mem_cons.mp h with rfl | h
      · exact q4m 14 rfl
      · exact h
  exact fun w hw => ⟨key w hw, good_of_word (zOK0.1 w (key w hw))⟩
theorem q4csw {s : State} {args : Array Value} {d1 s1 : Nat} (hts : ∀ w ∈ zTs, w.before args s = true) : vx_CSW room_1 s args "SixJointsLaw" 39 q4y method_3_code 5 (some .int) q4h (q4c :: zTs) ({ frames := 10, cells := d1, slots := s1, locals := 300 }) d1 s1 4 :=
  vx_cwSW 4 hts q4G rfl rfl rfl ⟨by decide, by decide, by decide +kernel⟩ ⟨Nat.le_of_ble_eq_true rfl, Nat.le_of_ble_eq_true rfl⟩
theorem q4d386 : decode code 386 = .ok (.invokestatic 39, 3) := by decide +kernel
set_option maxHeartbeats 4000000 in
/-- the law's end -/
theorem q4_end {p : Program} {e : Env} {s : State} {m : MethodId} {below : List Frame} {meth : Method} {c : Code} {l : Launch} {b : Nat} {g : zCt} {ro : Nat → Nat} (hx : p.tables.exec = Jvm.exec) (hb : c.code = code) (hr : meth.sig.returnType = ret) (hlocks : meth.locks = false) {dc ds : Nat} (hdc : dc ≤ 600002) (hds : ds ≤ 7302232) {H : Heap} {locs : List Loc} {A2 : Array Slot} {pc : Nat} {i : Instr} {len : Nat} {K : zK} {tg : List Nat} {ls : zL} {st : List Value} {h2 : zH} (hPc : zP 288 pc = some (i, len, K, tg)) (hz2 : zins g zF tg i K len pc ls st h2 = some (.inr (.inr (.inl (some (.int 1)))))) (hS2 : va_S (fun q => s.heap.size ≤ q) s.heap H locs) :
    W p l e room_1 s m #[Value.ref b] below meth c H locs dc ds (lw_Z below #[Value.ref b] s) (F0 m pc A2 (st.map (zv ro))) := by
  obtain ⟨hd, -, hcf⟩ := zOK0.2.2.2 _ _ _ _ _ _ hPc
  cases i
  case ireturn =>
    obtain ⟨hk, hlen⟩ := hcf
    subst hlen
    obtain ⟨x, q0, q1, h1⟩ := zret_inv hz2
    cases q1
    subst q0
    refine va_forget (fun q hq => hS2.2.2 q hq) ?_
    refine W.widen (k := 600002) (n := 7302232) hdc hds ?_
    exact lw_ret hx hb hr hlocks hd
  case lreturn =>
    have hz2 : zlret st = some (.inr (.inr (.inl (some (.int 1))))) := hz2
    unfold zlret at hz2
    split at hz2 <;> cases hz2
  case areturn =>
    have hz2 : zaret st = some (.inr (.inr (.inl (some (.int 1))))) := hz2
    unfold zaret at hz2
    split at hz2 <;> cases hz2
  case return_ =>
    have hz2 : zvret st = some (.inr (.inr (.inl (some (.int 1))))) := hz2
    unfold zvret at hz2
    split at hz2 <;> cases hz2
  case new => exact nomatch (show (some (.inr (.inr (.inr (pc + 3, st, .inr (.inr (.inr (K.1, zF K.1))))))) : Option zA) = some (.inr (.inr (.inl _))) from hz2)
  case newarray => exact absurd hz2 (znewa_k _ _ _ _)
  case anewarray => exact absurd hz2 (zanew_k _ _ _)
  case invokestatic k => exact absurd hz2 (zinvs_m (Or.inl rfl))
  case invokespecial k => exact absurd hz2 (zinvs_m (Or.inr (Or.inl rfl)))
  case invokevirtual k => exact absurd hz2 (zinvs_m (Or.inr (Or.inr rfl)))
  all_goals exact nomatch (show false = true from zins_big hz2)
set_option maxRecDepth 1000000 in
set_option maxHeartbeats 8000000 in
/-- the law, where its one call is of joint -/
theorem q4_whole {p : Program} {e : Env} {s : State} {m : MethodId} {below : List Frame} {meth : Method} {c : Code} (l : Launch) (hlt : l.stackTraces = false) {b : Nat} {xs : Nat → Int32} (h0 : xs 0 &&& 63 = 4) (hnm : meth.name = "law") (C0 : lw_At p s m meth c b 6 xs) :
    W p l e room_1 s m #[Value.ref b] below meth c s.heap [] 0 0 (lw_Z below #[Value.ref b] s) (entryFrame m ([Value.ref b] : List Value).toArray 7) := by
  obtain ⟨D, cy, ka, hka, hE⟩ := zenv C0
  obtain ⟨a1, a2, hQ⟩ := q4env C0
  obtain ⟨hx, hb, hr, hml, hown, hts, hX, hbl, hlocks, hgv⟩ := C0
  have htz : ∀ w ∈ zTs, w.before #[Value.ref b] s = true := fun w hw => hts w (List.mem_filter.mp hw).1
  have hl := lv_entry ([.ref b]) (n := 7) (Nat.le_of_ble_eq_true rfl)
  rw [lg_entry_eq]
  generalize (lg_sl ([.ref b]) ++ List.replicate (7 - (lg_sl ([.ref b])).length) Slot.unset).toArray = A at hl ⊢
  have e5 : zr s.heap.size ka 11 = b := by rw [zr_odd (by decide)]; exact hka
  have hl : lv_has A (zM 288).2.2.1 (zl (zr s.heap.size ka) [(0, .ref 11)]) := by
    show lv_has A 7 [(0, .ref (zr s.heap.size ka 11))]
    rw [e5]
    exact hl
  have X : zCx zcl zTs lw_tbl zZs0 D cy s.heap.size ka (zg 6 xs) (zM 288).1.cls (zM 288).1.name (zM 288).2.1 (zM 288).2.2.1 p s m #[Value.ref b] meth c := ⟨hx, hb, hml, hown, htz, hE, hnm⟩
  refine zgo_ok zOK0 X (Nat.le_refl _) (Nat.le_refl _) (s2 := (23, [(4, .int 0), (3, .ref 232), (2, .ref 162), (1, .ref 0), (0, .ref 11)], [], zH0, 117, 29934)) (Nat.le_of_ble_eq_true rfl) (Nat.le_of_ble_eq_true rfl) ?_ (s1 := (0, [(0, .ref 11)], [], [], 0, 0)) 13 (zgo_le (zg0_le 6 xs) zinit) (fun k q h => by cases h) va_S.rf hl rfl
  intro H1 locs1 A1 hP1 hS1 hl1 hn1
  refine zgo_ok zOK0 X (Nat.le_refl _) (Nat.le_refl _) (f := 1) (s2 := (40, [(4, .int 0), (3, .ref 232), (2, .ref 162), (1, .ref 0), (0, .ref 11)], [.int ((xs 0) &&& (63 : Int32))], zH0, 117, 29934)) (Nat.le_of_ble_eq_true rfl) (Nat.le_of_ble_eq_true rfl) ?_ (s1 := (23, [(4, .int 0), (3, .ref 232), (2, .ref 162), (1, .ref 0), (0, .ref 11)], [], zH0, 117, 29934)) 11 rfl hP1 hS1 hl1 hn1
  intro H2 locs2 A2 hP2 hS2 hl2 hn2
  show W p l e room_1 s m #[Value.ref b] below meth c H2 locs2 117 29934 _ (F0 m 40 A2 ([Value.int ((xs 0) &&& (63 : Int32))].map (zv (zr s.heap.size ka))))
  rw [h0]
  refine zgo_ok zOK0 X (Nat.le_refl _) (Nat.le_refl _) (f := 1) (s2 := (386, [(4, .int 0), (3, .ref 232), (2, .ref 162), (1, .ref 0), (0, .ref 11)], [.ref 232, .int (xs 2), .int (xs 1), .ref 0], zH0, 117, 29934)) (Nat.le_of_ble_eq_true rfl) (Nat.le_of_ble_eq_true rfl) ?_ (s1 := (40, [(4, .int 0), (3, .ref 232), (2, .ref 162), (1, .ref 0), (0, .ref 11)], [.int 4], zH0, 117, 29934)) 13 rfl hP2 hS2 hl2 hn2
  intro H3 locs3 A3 hP3 hS3 hl3 hn3
  refine zW_bound (fun hbd => ?_)
  have hsize : H3.size = s.heap.size + zH0.length := zsize hP3 hS3 (Nat.le_refl _) hbd hn3
  by_cases hj : 0 ≤ (xs 1).toInt ∧ (xs 1).toInt ≤ 5
  · by_cases hw : 0 ≤ (xs 2).toInt ∧ (xs 2).toInt ≤ 3
    · obtain ⟨v, ⟨n, hz⟩, hrest⟩ := q4_ok hj hw
      obtain ⟨h9, n9, hz9⟩ := hrest xs rfl rfl
      have hM := q4_o (l := l) (D := D) (cy := cy) (sz := s.heap.size) (ka := ka) (g := zg 6 xs) (h := zH0) rfl rfl ⟨by decide, by decide⟩ (zrun_le (zg0_le 6 xs) hz)
      refine zafter (vx_runSW (As := (q4as (xs 1) (xs 2)).map (zv (zr s.heap.size ka))) (rest := []) ⟨hx, hb, hml, hown, htz⟩ hM (q4csw htz) ⟨zPc_blind, fun U hU hW => ⟨rfl, zEnv_at hE hS3 hU hW, by rw [hU]; exact hP3, by rw [hU]; exact hsize⟩⟩ rfl rfl hl3.1 rfl (lv_room (Nat.le_of_ble_eq_true rfl)) q4d386 ⟨Nat.le_of_ble_eq_true rfl, Nat.le_of_ble_eq_true rfl⟩) hS3 ?_
      intro H4 locs4 hP4 hS4 hn4
      refine zrun_ok zOK0 n9 288 389 [(4, .int 0), (3, .ref 232), (2, .ref 162), (1, .ref 0), (0, .ref 11)] [.int 0] _ 117 29934 _ h9 117 29934 hz9 p e room_1 s m _ below meth c H4 locs4 A3 _ X rfl rfl (Nat.le_of_ble_eq_true rfl) (Nat.le_of_ble_eq_true rfl) hP4 hS4 hl3 (by rw [List.length_set]; exact hn3) ?_
      intro H5 locs5 A5 pc i len K tg ls st hPc hz2 hP5 hS5 hn5
      exact q4_end hx hb hr hlocks (by decide) (by decide) hPc hz2 hS5
    · have hw2 : (xs 2).toInt < 0 ∨ 3 < (xs 2).toInt := by omega
      obtain ⟨f, hz⟩ := q4_p87 hj hw2 zH0
      have hM := q4_t hlt (D := D) (cy := cy) (sz := s.heap.size) (ka := ka) (g := zg 6 xs) (a1 := a1) (a2 := a2) (h := zH0) (r := 2) rfl (zgo_le (zg0_le 6 xs) hz) (Or.inr ⟨rfl, rfl, rfl⟩)
      refine yzafter (vx_runSW (As := (q4as (xs 1) (xs 2)).map (zv (zr s.heap.size ka))) (rest := []) ⟨hx, hb, hml, hown, htz⟩ hM (q4csw htz) ⟨q4Pc_blind, fun U hU hW => ⟨rfl, zEnv_at hE hS3 hU hW, by rw [hU]; exact hP3, by rw [hU]; exact hsize, q4E_at hQ hS3 hU hW⟩⟩ rfl rfl hl3.1 rfl (lv_room (Nat.le_of_ble_eq_true rfl)) q4d386 ⟨Nat.le_of_ble_eq_true rfl, Nat.le_of_ble_eq_true rfl⟩) hS3 ?_
      intro H4 locs4 hP4 hS4
      obtain ⟨r9, y1, h9, fs9, rfl, hX9, hf9⟩ : wq 210 0 [(0, .ref 162), (1, .int (xs 1)), (2, .int (xs 2))] [] zH0 0 0 (fun r => ∃ (h2 : zH) (fs2 : List Value), r = (some (.int 0), h2, 0, 0) ∧ zat h2 162 = some (.inr (.inr (.inr (10, fs2)))) ∧ fs2[0]? = some (.int 2)) := by
        rcases hw2 with hw2 | hw2
        · exact m_j2A (fs := mfs0) hj hw2 rfl mC00
        · exact m_j2B (fs := mfs0) hj hw2 rfl mC00
      obtain ⟨n9, hz9⟩ := q4_rt2 xs (dc := 118) (ds := 29940) y1 hX9 hf9
      refine yzrun_ok zOK0 n9 288 389 [(4, .int 0), (3, .ref 232), (2, .ref 162), (1, .ref 0), (0, .ref 11)] [.int 2] zH0 118 29940 _ h9 118 29940 hz9 rfl p e room_1 s m _ below meth c H4 locs4 A3 _ X rfl rfl (Nat.le_of_ble_eq_true rfl) (Nat.le_of_ble_eq_true rfl) hP4 hS4 hl3 ?_
      intro H5 locs5 A5 pc i len K tg ls st hPc hz2 hP5 hS5
      exact q4_end hx hb hr hlocks (by decide) (by decide) hPc hz2 hS5
  · have hj2 : (xs 1).toInt < 0 ∨ 5 < (xs 1).toInt := by omega
    obtain ⟨f, hz⟩ := q4_p7 (xs 2) hj2 zH0
    have hM := q4_t hlt (D := D) (cy := cy) (sz := s.heap.size) (ka := ka) (g := zg 6 xs) (a1 := a1) (a2 := a2) (h := zH0) (r := 1) rfl (zgo_le (zg0_le 6 xs) hz) (Or.inl ⟨rfl, rfl, rfl⟩)
    refine yzafter (vx_runSW (As := (q4as (xs 1) (xs 2)).map (zv (zr s.heap.size ka))) (rest := []) ⟨hx, hb, hml, hown, htz⟩ hM (q4csw htz) ⟨q4Pc_blind, fun U hU hW => ⟨rfl, zEnv_at hE hS3 hU hW, by rw [hU]; exact hP3, by rw [hU]; exact hsize, q4E_at hQ hS3 hU hW⟩⟩ rfl rfl hl3.1 rfl (lv_room (Nat.le_of_ble_eq_true rfl)) q4d386 ⟨Nat.le_of_ble_eq_true rfl, Nat.le_of_ble_eq_true rfl⟩) hS3 ?_
    intro H4 locs4 hP4 hS4
    obtain ⟨r9, y1, h9, fs9, rfl, hX9, hf9⟩ : wq 210 0 [(0, .ref 162), (1, .int (xs 1)), (2, .int (xs 2))] [] zH0 0 0 (fun r => ∃ (h2 : zH) (fs2 : List Value), r = (some (.int 0), h2, 0, 0) ∧ zat h2 162 = some (.inr (.inr (.inr (10, fs2)))) ∧ fs2[0]? = some (.int 1)) := by
      rcases hj2 with hj2 | hj2
      · exact m_j1A (fs := mfs0) hj2 rfl mC00
      · exact m_j1B (fs := mfs0) hj2 rfl mC00
    obtain ⟨n9, hz9⟩ := q4_rt1 xs (dc := 118) (ds := 29940) y1 hX9 hf9
    refine yzrun_ok zOK0 n9 288 389 [(4, .int 0), (3, .ref 232), (2, .ref 162), (1, .ref 0), (0, .ref 11)] [.int 1] zH0 118 29940 _ h9 118 29940 hz9 rfl p e room_1 s m _ below meth c H4 locs4 A3 _ X rfl rfl (Nat.le_of_ble_eq_true rfl) (Nat.le_of_ble_eq_true rfl) hP4 hS4 hl3 ?_
    intro H5 locs5 A5 pc i len K tg ls st hPc hz2 hP5 hS5
    exact q4_end hx hb hr hlocks (by decide) (by decide) hPc hz2 hS5
