set_option maxHeartbeats 4000000 in
/-- the law out of a run of the interpreter -/
theorem zwhole {p : Program} {e : Env} {s : State} {m : MethodId} {below : List Frame} {meth : Method} {c : Code} (l : Launch) (hlt : l.stackTraces = false) {b L : Nat} {xs : Nat → Int32} (hnm : meth.name = "law") (C0 : lw_At p s m meth c b L xs) {n : Nat} {h2 : zH} {dc ds : Nat} (hz : zrun (zg L xs) zF zP n 288 0 [(0, .ref 11)] [] [] 0 0 = some (some (.int 1), h2, dc, ds)) (hdc : dc ≤ 601024) (hds : ds ≤ 7293034) :
    W p l e room_1 s m #[Value.ref b] below meth c s.heap [] 0 0 (lw_Z below #[Value.ref b] s) (entryFrame m ([Value.ref b] : List Value).toArray 7) := by
  obtain ⟨D, cy, ka, hka, hE⟩ := zenv C0
  obtain ⟨hx, hb, hr, hml, hown, hts, hX, hbl, hlocks, hgv⟩ := C0
  have htz : ∀ w ∈ zTs, w.before #[Value.ref b] s = true := fun w hw => hts w (List.mem_filter.mp hw).1
  have hl := lv_entry ([.ref b]) (n := 7) (Nat.le_of_ble_eq_true rfl)
  rw [lg_entry_eq]
  generalize (lg_sl ([.ref b]) ++ List.replicate (7 - (lg_sl ([.ref b])).length) Slot.unset).toArray = A at hl ⊢
  have e5 : zr s.heap.size ka 11 = b := by rw [zr_odd (by decide)]; exact hka
  have hl : lv_has A (zM 288).2.2.1 (zl (zr s.heap.size ka) [(0, .ref 11)]) := by
    show lv_has A 7 [(0, .ref (zr s.heap.size ka 11))]
    rw [e5]
    exact hl
  refine zrun_ok zOK0 (zXS0 hlt (zg0_le L xs)) n 288 0 [(0, .ref 11)] [] [] 0 0 _ h2 dc ds hz p e room_1 s m _ below meth c s.heap [] A _ ⟨hx, hb, hml, hown, htz, hE, hnm⟩ rfl rfl hdc hds (fun k q h => by cases h) va_S.rf hl rfl ?_
  intro H locs A2 pc i len K tg ls st hPc hz2 hP2 hS2 hn2
  obtain ⟨hd, -, hcf⟩ := zOK0.2.2.2 _ _ _ _ _ _ hPc
  cases i
  case ireturn =>
    obtain ⟨hk, hlen⟩ := hcf
    subst hlen
    obtain ⟨x, q0, q1, h1⟩ := zret_inv hz2
    cases q1
    subst q0
    refine va_forget (fun q hq => hS2.2.2 q hq) ?_
    refine W.widen (k := 601024) (n := 7293034) hdc hds ?_
    exact lw_ret hx hb hr hlocks hd
  case lreturn =>
    have hz2 : zlret st = some (.inr (.inr (.inl (some (.int 1))))) := hz2
    unfold zlret at hz2
    split at hz2 <;> cases hz2
  case areturn =>
    have hz2 : zaret st = some (.inr (.inr (.inl (some (.int 1))))) := hz2
    unfold zaret at hz2
    split at hz2 <;> cases hz2
  case return_ =>
    have hz2 : zvret st = some (.inr (.inr (.inl (some (.int 1))))) := hz2
    unfold zvret at hz2
    split at hz2 <;> cases hz2
  case new => exact nomatch (show (some (.inr (.inr (.inr (pc + 3, st, .inr (.inr (.inr (K.1, zF K.1))))))) : Option zA) = some (.inr (.inr (.inl _))) from hz2)
  case newarray => exact absurd hz2 (znewa_k _ _ _ _)
  case anewarray => exact absurd hz2 (zanew_k _ _ _)
  case invokestatic k => exact absurd hz2 (zinvs_m (Or.inl rfl))
  case invokespecial k => exact absurd hz2 (zinvs_m (Or.inr (Or.inl rfl)))
  case invokevirtual k => exact absurd hz2 (zinvs_m (Or.inr (Or.inr rfl)))
  all_goals exact nomatch (show false = true from zins_big hz2)
