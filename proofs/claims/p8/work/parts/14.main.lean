/-! New cells, returns, whole runs. -/
theorem znew_addr {cl : List vw_C} {D : va_G} {cy : Nat → ClassId} {sz q : Nat} {ro : Nat → Nat} {h : zH} {H : Heap} {x : va_E} (hP : va_P D cl (zW cy ro sz h ++ [(q, x)]) H) (hD : va_D (fun q => sz ≤ q) (zW cy ro sz h ++ [(q, x)])) (hb : H.size ≤ sz + h.length + 1) : q = sz + h.length := by
  have hl : (zW cy ro sz h).length = h.length := zW_len cy ro h sz
  have hq : (zW cy ro sz h ++ [(q, x)])[h.length]? = some (q, x) := by rw [List.getElem?_append_right (by omega), hl, Nat.sub_self]; rfl
  have h1 : q < H.size := (hP _ _ hq).lt
  have h2 : sz ≤ q := hD.2 _ _ hq
  by_cases hlt : q < sz + h.length
  · exfalso
    have hj : q - sz < h.length := by omega
    have hz : (zW cy ro sz h ++ [(q, x)])[q - sz]? = some (sz + (q - sz), zce cy ro h[q - sz]) := by rw [List.getElem?_append_left (by omega), zW_get, List.getElem?_eq_getElem hj]; rfl
    have h9 := hD.1 _ _ _ _ hz hq (by show sz + (q - sz) = q; omega)
    omega
  · omega
theorem zmap_id {ro : Nat → Nat} : ∀ {fs : List Value}, (∀ v ∈ fs, ∀ ro : Nat → Nat, zv ro v = v) → fs.map (zv ro) = fs
  | [], _ => rfl
  | v :: fs, h => by rw [List.map_cons, h v List.mem_cons_self ro, zmap_id (fun w hw => h w (List.mem_cons_of_mem _ hw))]
theorem znewa_inv {t pc : Nat} {st : List Value} {pc2 : Nat} {rest : List Value} {e : zE} (hz : znewa t pc st = some (.inr (.inr (.inr (pc2, rest, e))))) : ∃ n, st = .int n :: rest ∧ pc2 = pc + 2 ∧ ¬ n < 0 ∧ n.toNatClampNeg ≤ 67108864 ∧ e = (bif t == 3 then .inr (.inl (n.toNatClampNeg, [])) else .inl (t, n.toNatClampNeg, [])) := by
  unfold znewa at hz
  split at hz
  · next n r =>
    cases hq : (decide (n < 0) || !(Nat.ble n.toNatClampNeg 67108864)) with
    | true => rw [hq] at hz; cases hz
    | false =>
      rw [hq] at hz
      dsimp only [cond_false] at hz
      simp only [Bool.or_eq_false_iff, decide_eq_false_iff_not, Bool.not_eq_false'] at hq
      injection hz with hz
      injection hz with hz
      injection hz with hz
      injection hz with hz
      injection hz with h1 hz
      injection hz with h2 h3
      subst h1 h2 h3
      exact ⟨n, rfl, rfl, hq.1, Nat.le_of_ble_eq_true hq.2, rfl⟩
  · cases hz
theorem zanew_inv {pc : Nat} {st : List Value} {pc2 : Nat} {rest : List Value} {e : zE} (hz : zanew pc st = some (.inr (.inr (.inr (pc2, rest, e))))) : ∃ n, st = .int n :: rest ∧ pc2 = pc + 3 ∧ ¬ n < 0 ∧ n.toNatClampNeg ≤ 67108864 ∧ e = .inr (.inr (.inl (n.toNatClampNeg, []))) := by
  unfold zanew at hz
  split at hz
  · next n r =>
    cases hq : (decide (n < 0) || !(Nat.ble n.toNatClampNeg 67108864)) with
    | true => rw [hq] at hz; cases hz
    | false =>
      rw [hq] at hz
      dsimp only [cond_false] at hz
      simp only [Bool.or_eq_false_iff, decide_eq_false_iff_not, Bool.not_eq_false'] at hq
      injection hz with hz
      injection hz with hz
      injection hz with hz
      injection hz with hz
      injection hz with h1 hz
      injection hz with h2 h3
      subst h1 h2 h3
      exact ⟨n, rfl, rfl, hq.1, Nat.le_of_ble_eq_true hq.2, rfl⟩
  · cases hz
theorem zret_inv {t : Nat} {st : List Value} {v : Option Value} (hz : zret t st = some (.inr (.inr (.inl v)))) : ∃ x, st = [.int x] ∧ v = some (.int x) ∧ (t = 0 ∨ x = 0 ∨ x = 1) := by
  unfold zret at hz
  split at hz
  · next x =>
    obtain ⟨h1, h3⟩ := zb_inv hz
    injection h3 with h3
    injection h3 with h3
    injection h3 with h3
    injection h3 with h3
    simp only [Bool.or_eq_true, Bool.and_eq_true, beq_iff_eq, decide_eq_true_eq] at h1
    exact ⟨x, rfl, h3.symm, h1.imp id (fun q => q.2)⟩
  · cases hz
theorem zret_m (t : Nat) (st : List Value) (r) : zret t st ≠ some (.inr (.inr (.inr r))) := by
  intro q
  unfold zret at q
  simp only [Bool.cond_eq_ite] at q
  (repeat' split at q) <;> first | (cases q; done) | (simp at q; done)
theorem zlret_m (st : List Value) (r) : zlret st ≠ some (.inr (.inr (.inr r))) := by
  intro q
  unfold zlret at q
  (repeat' split at q) <;> first | (cases q; done) | (simp at q; done)
theorem zaret_m (st : List Value) (r) : zaret st ≠ some (.inr (.inr (.inr r))) := by
  intro q
  unfold zaret at q
  (repeat' split at q) <;> first | (cases q; done) | (simp at q; done)
theorem zvret_m (st : List Value) (r) : zvret st ≠ some (.inr (.inr (.inr r))) := by
  intro q
  unfold zvret at q
  (repeat' split at q) <;> first | (cases q; done) | (simp at q; done)
theorem zcall_m (y b : Nat) (st : List Value) (r) : zcall y b st ≠ some (.inr (.inr r)) := by
  intro q
  unfold zcall at q
  cases (zb_inv q).2
theorem znewa_k (t pc : Nat) (st : List Value) (r) : znewa t pc st ≠ some (.inr (.inr (.inl r))) := by
  intro q
  unfold znewa at q
  simp only [Bool.cond_eq_ite] at q
  (repeat' split at q) <;> first | (cases q; done) | (simp at q; done)
theorem zanew_k (pc : Nat) (st : List Value) (r) : zanew pc st ≠ some (.inr (.inr (.inl r))) := by
  intro q
  unfold zanew at q
  simp only [Bool.cond_eq_ite] at q
  (repeat' split at q) <;> first | (cases q; done) | (simp at q; done)
section ZMAIN
variable {cl : List vw_C} {Ts Ns : List Cond} {Zs : zZs} {D : va_G} {cy : Nat → ClassId} {sz : Nat} {ka : Nat → Nat} {g : zCt} {own yn : String} {cc : ByteArray} {nL : Nat} {F : zFs} {zty : Nat → Nat → FieldType} {M : Nat → zMt}
variable {p : Program} {l : Launch} {e : Env} {R : Room} {s : State} {m : MethodId} {args : Array Value} {below : List Frame} {meth : Method} {c : Code} {H : Heap} {locs : List Loc} {cells slots : Nat} {Q : State → Prop}
variable {i : Instr} {K : zK} {tg : List Nat} {len pc pc2 : Nat} {ls ls2 : zL} {st st2 : List Value} {h h2 : zH} {A : Array Slot} {ret : Option FieldType}
theorem zcallV_m {y b ci : Nat} {r} : zcallV y b ci st h ≠ some (.inr (.inr r)) := by
  intro q
  unfold zcallV at q
  exact zcall_m _ _ _ _ (zb_inv q).2
theorem zinvs_m {k : Nat} {r} (hi : i = .invokestatic k ∨ i = .invokespecial k ∨ i = .invokevirtual k) : zins g F tg i K len pc ls st h ≠ some (.inr (.inr r)) := by
  intro hz
  rcases hi with rfl | rfl | rfl
  · have hz : (match K.2.2 with
      | .retAddr _ => zcopy (pc + 3) ls st h
      | .int _ => zcall K.1 K.2.1 st
      | _ => none) = some (.inr (.inr r)) := hz
    split at hz
    · exact zcopy_s _ _ _ _ _ hz
    · exact zcall_m _ _ _ _ hz
    · cases hz
  · have hz : (match K.2.2 with
      | .null => zobji pc ls st h
      | .int _ => zcallI K.1 K.2.1 st
      | _ => none) = some (.inr (.inr r)) := hz
    split at hz
    · exact zobji_s _ _ _ _ _ hz
    · obtain ⟨r, as2, q7, hz⟩ := zcallI_inv hz
      exact zcall_m _ _ _ _ hz
    · cases hz
  · have hz : (match K.2.2 with
      | .retAddr ci => zcallV K.1 K.2.1 ci st h
      | _ => none) = some (.inr (.inr r)) := hz
    split at hz
    · exact zcallV_m hz
    · cases hz
set_option maxHeartbeats 4000000 in
/-- a new cell -/
theorem zalloc_ok (X : zCx cl Ts Ns Zs D cy sz ka g own yn cc nL p s m args meth c) (hcl0 : ∀ (ci : Nat) (q : vw_C), cl[ci]? = some q → zClok Ts F zty ci q ∨ q.2.2 = 0) (hd : decode cc pc = .ok (i, len)) (hf : zcf cl Ts Ns M own ret R.frames R.locals i K len) {rest : List Value} {e9 : zE} (hz : zins g F tg i K len pc ls st h = some (.inr (.inr (.inr (pc2, rest, e9)))))
    (hc1 : cells + 1 ≤ R.cells) (hc2 : slots + zsz e9 ≤ R.slots) (hP : va_P D cl (zW cy (zr sz ka) sz h) H) (hS : va_S (fun q => sz ≤ q) s.heap H locs) (hn : sz + h.length = s.heap.size + cells)
    (kk : ∀ (H2 : Heap), va_P D cl (zW cy (zr sz ka) sz (h ++ [e9])) H2 → va_S (fun q => sz ≤ q) s.heap H2 locs → W p l e R s m args below meth c H2 locs (cells + 1) (slots + zsz e9) Q (F0 m pc2 A ((.ref (2 * h.length) :: rest).map (zv (zr sz ka))))) :
    W p l e R s m args below meth c H locs cells slots Q (F0 m pc A (st.map (zv (zr sz ka)))) := by
  obtain ⟨hx, hb, hml, hown, hts, hE, hyn⟩ := X
  have hD : va_D (fun q => sz ≤ q) (zW cy (zr sz ka) sz h) := zW_D cy (zr sz ka) h sz
  have hsz0 : sz ≤ s.heap.size := hE.2.2.2.2.2.2.2
  have hA : ∀ q, s.heap.size ≤ q → (fun q => sz ≤ q) q := fun q hq => Nat.le_trans hsz0 hq
  have hK := hE.1
  have er : zr sz ka (2 * h.length) = sz + h.length := by rw [zr_even (by omega)]; congr 1; omega
  have fin : ∀ (q : Nat) (x : va_E) (H2 : Heap) (n9 : Nat), x = zce cy (zr sz ka) e9 → n9 = zsz e9 → va_P D cl (zW cy (zr sz ka) sz h ++ [(q, x)]) H2 → va_D (fun q => sz ≤ q) (zW cy (zr sz ka) sz h ++ [(q, x)]) → va_S (fun q => sz ≤ q) s.heap H2 locs → W p l e R s m args below meth c H2 locs (cells + 1) (slots + n9) Q (F0 m pc2 A (.ref q :: rest.map (zv (zr sz ka)))) := by
    intro q x H2 n9 hx9 hn9 hP2 hD2 hS2
    subst hn9
    refine zW_bound (fun hbd => ?_)
    have hq : q = sz + h.length := znew_addr hP2 hD2 (by omega)
    subst hq hx9
    have h9 := kk H2 (by rw [zW_app]; exact hP2) hS2
    rw [List.map_cons, show zv (zr sz ka) (.ref (2 * h.length)) = .ref (sz + h.length) by rw [← er]; rfl] at h9
    exact h9
  cases i
  case new k =>
    obtain ⟨⟨C, T, N, hc, hw, hN0⟩, hlen⟩ := hf
    subst hlen
    have hz : (some (.inr (.inr (.inr (pc + 3, st, .inr (.inr (.inr (K.1, F K.1))))))) : Option zA) = some (.inr (.inr (.inr (pc2, rest, e9)))) := hz
    injection hz with hz
    injection hz with hz
    injection hz with hz
    injection hz with hz
    injection hz with h1 hz
    injection hz with h2 h3
    subst h1 h2 h3
    obtain ⟨c1, c2, c3, c4, c5, c6, c7, c8⟩ := (hcl0 _ _ hc).resolve_right (fun q => by have q : N = 0 := q; omega)
    refine va_new (T := T) (C := C) (N := N) (ci := K.1) (fs := F K.1) hx hb hts c1 (zty K.1) c2 hown (hts _ hw) (hts _ c4) (hts _ c5) hK hP hD hS hA hc c6 hc1 (by have c7 : (F K.1).length = N := c7; rw [← c7]; exact hc2) hd (fun q H2 hP2 hD2 hS2 => ?_)
    exact fin q _ H2 N (by show _ = Sum.inr (K.1, (F K.1).map (zv (zr sz ka))); rw [zmap_id c8]) c7.symm hP2 hD2 hS2
  case newarray a =>
    obtain ⟨⟨ht, hw⟩, hlen⟩ := hf
    subst hlen
    obtain ⟨n, q0, q1, hn0, hn1, he⟩ := znewa_inv hz
    subst q0 q1
    have hRA : ∀ (t : Nat) (ty : FieldType) (cA : ClassId), (zTy cy)[t]? = some (cy t, ty) → ty ≠ .object "SixJoints$Held" → (∀ C, ty ≠ .object C) → va_K D cl (zTy cy ++ [(cA, ty)]) s → cA = cy t := by
      intro t ty cA h1 h2 h3 h4
      have k1 := (hK.2 t _ h1).2
      have k2 := (h4.2 5 (cA, ty) rfl).2
      cases ty <;> first | exact absurd rfl (h3 _) | exact Option.some.inj (k2.symm.trans k1)
    rcases ht with ⟨rfl, hk⟩ | ⟨rfl, hk⟩ | ⟨rfl, hk⟩ | ⟨rfl, hk⟩
    · rw [hk] at he
      have he : e9 = .inl (0, n.toNatClampNeg, []) := he
      subst he
      refine va_newa (atype := .int) (ty := .int) (a0 := (n.toNatClampNeg, .inl (fun _ => 0))) hx hb (hts _ hw) rfl hK hP hD hS hA (fun _ => rfl) hn0 rfl (by show n.toNatClampNeg * 4 ≤ _; omega) hc1 hc2 hd (fun q cA H2 hK2 hP2 hD2 hS2 => ?_)
      exact fin q _ H2 _ (by rw [hRA 0 .int cA rfl (by decide) (fun _ h => by cases h) hK2]; rfl) rfl hP2 hD2 hS2
    · rw [hk] at he
      have he : e9 = .inl (1, n.toNatClampNeg, []) := he
      subst he
      refine va_newa (atype := .byte) (ty := .byte) (a0 := (n.toNatClampNeg, .inl (fun _ => 0))) hx hb (hts _ hw) rfl hK hP hD hS hA (fun _ => rfl) hn0 rfl (by show n.toNatClampNeg * 1 ≤ _; omega) hc1 hc2 hd (fun q cA H2 hK2 hP2 hD2 hS2 => ?_)
      exact fin q _ H2 _ (by rw [hRA 1 .byte cA rfl (by decide) (fun _ h => by cases h) hK2]; rfl) rfl hP2 hD2 hS2
    · rw [hk] at he
      have he : e9 = .inl (2, n.toNatClampNeg, []) := he
      subst he
      refine va_newa (atype := .boolean) (ty := .boolean) (a0 := (n.toNatClampNeg, .inl (fun _ => 0))) hx hb (hts _ hw) rfl hK hP hD hS hA (fun _ => rfl) hn0 rfl (by show n.toNatClampNeg * 1 ≤ _; omega) hc1 hc2 hd (fun q cA H2 hK2 hP2 hD2 hS2 => ?_)
      exact fin q _ H2 _ (by rw [hRA 2 .boolean cA rfl (by decide) (fun _ h => by cases h) hK2]; rfl) rfl hP2 hD2 hS2
    · rw [hk] at he
      have he : e9 = .inr (.inl (n.toNatClampNeg, [])) := he
      subst he
      refine va_newa (atype := .long) (ty := .long) (a0 := (n.toNatClampNeg, .inr (.inl (fun _ => 0)))) hx hb (hts _ hw) rfl hK hP hD hS hA (fun _ => rfl) hn0 rfl (by show n.toNatClampNeg * 8 ≤ _; omega) hc1 hc2 hd (fun q cA H2 hK2 hP2 hD2 hS2 => ?_)
      exact fin q _ H2 _ (by rw [hRA 3 .long cA rfl (by decide) (fun _ h => by cases h) hK2]; rfl) rfl hP2 hD2 hS2
  case anewarray k =>
    obtain ⟨hw, hlen⟩ := hf
    subst hlen
    obtain ⟨n, q0, q1, hn0, hn1, he⟩ := zanew_inv hz
    subst q0 q1 he
    refine va_newq hx hb hown (hts _ hw) hE.2.2.2.2.2.1 hK hP hD hS hA hn0 rfl (by omega) hc1 hc2 hd (fun q cA H2 hK2 hP2 hD2 hS2 => ?_)
    refine fin q _ H2 _ ?_ rfl hP2 hD2 hS2
    obtain ⟨_, _, _, _, _, k1⟩ := (hK.2 4 (cy 4, .object "SixJoints$Held") rfl).2
    obtain ⟨_, _, _, _, _, k2⟩ := (hK2.2 5 (cA, .object "SixJoints$Held") rfl).2
    have : cA = cy 4 := Option.some.inj (k2.symm.trans k1)
    rw [this]
    rfl
  case invokestatic k => exact absurd hz (zinvs_m (Or.inl rfl))
  case invokespecial k => exact absurd hz (zinvs_m (Or.inr (Or.inl rfl)))
  case invokevirtual k => exact absurd hz (zinvs_m (Or.inr (Or.inr rfl)))
  case ireturn => exact absurd hz (zret_m _ _ _)
  case lreturn => exact absurd hz (zlret_m _ _)
  case areturn => exact absurd hz (zaret_m _ _)
  case return_ => exact absurd hz (zvret_m _ _)
  all_goals exact nomatch (show false = true from zins_big hz)
set_option maxHeartbeats 4000000 in
/-- a return -/
theorem zret_ok (hx : p.tables.exec = Jvm.exec) (hb : c.code = cc) (hr : meth.sig.returnType = ret) (hlocks : meth.locks = false) (hd : decode cc pc = .ok (i, len)) {fr lo : Nat} (hf : zcf cl Ts Ns M own ret fr lo i K len) {v : Option Value} (hz : zins g F tg i K len pc ls st h = some (.inr (.inr (.inl v))))
    {Qc : Array Value → State → Outcome → State → Prop} {free : Addr → Prop} (hq : ∀ t : State, t.heap = H → s.WarmedH t.vm → Qc args s (.returned (v.map (zv (zr sz ka)))) t) (hfr : ∀ q ∈ locs, free q.base) :
    W p l e R s m args below meth c H locs cells slots (MQ below Qc args s cells slots free) (F0 m pc A (st.map (zv (zr sz ka)))) := by
  cases i
  case ireturn =>
    obtain ⟨hk, hlen⟩ := hf
    subst hlen
    obtain ⟨x, q0, q1, h1⟩ := zret_inv hz
    subst q0 q1
    rcases hk with ⟨hk, hret⟩ | ⟨hk, hret⟩
    · exact W.iret hx hb (hr.trans hret) hq hfr hd hlocks
    · refine W.zret (ty := .boolean) hx hb (hr.trans hret) ?_ hq hfr hd hlocks
      rcases h1 with h1 | rfl | rfl
      · omega
      · show narrow .boolean (.int 0) = .int 0
        decide +kernel
      · show narrow .boolean (.int 1) = .int 1
        decide +kernel
  case lreturn =>
    obtain ⟨hret, hlen⟩ := hf
    subst hlen
    have hz : zlret st = some (.inr (.inr (.inl v))) := hz
    unfold zlret at hz
    split at hz
    · injection hz with h3
      injection h3 with h3
      injection h3 with h3
      injection h3 with h3
      subst h3
      exact W.lret hx hb (hr.trans hret) hq hfr hd hlocks
    · cases hz
  case areturn =>
    obtain ⟨⟨rt, hret, hrt⟩, hlen⟩ := hf
    subst hlen
    have hz : zaret st = some (.inr (.inr (.inl v))) := hz
    unfold zaret at hz
    split at hz
    · injection hz with h3
      injection h3 with h3
      injection h3 with h3
      injection h3 with h3
      subst h3
      exact W.aret hx hb (hr.trans hret) hrt (Or.inr ⟨_, rfl⟩) hq hfr hd hlocks
    · injection hz with h3
      injection h3 with h3
      injection h3 with h3
      injection h3 with h3
      subst h3
      exact W.aret hx hb (hr.trans hret) hrt (Or.inl rfl) hq hfr hd hlocks
    · cases hz
  case return_ =>
    obtain ⟨hret, hlen⟩ := hf
    subst hlen
    have hz : zvret st = some (.inr (.inr (.inl v))) := hz
    unfold zvret at hz
    split at hz
    · injection hz with h3
      injection h3 with h3
      injection h3 with h3
      injection h3 with h3
      subst h3
      exact W.vret hx hb (hr.trans hret) hq hfr hd hlocks
    · cases hz
  case new => exact nomatch (show (some (.inr (.inr (.inr (pc + 3, st, .inr (.inr (.inr (K.1, F K.1))))))) : Option zA) = some (.inr (.inr (.inl _))) from hz)
  case newarray => exact absurd hz (znewa_k _ _ _ _)
  case anewarray => exact absurd hz (zanew_k _ _ _)
  case invokestatic k => exact absurd hz (zinvs_m (Or.inl rfl))
  case invokespecial k => exact absurd hz (zinvs_m (Or.inr (Or.inl rfl)))
  case invokevirtual k => exact absurd hz (zinvs_m (Or.inr (Or.inr rfl)))
  all_goals exact nomatch (show false = true from zins_big hz)
end ZMAIN
