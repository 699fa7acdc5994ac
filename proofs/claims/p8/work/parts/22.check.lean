/-! What a check of an instruction's row gives. -/
theorem zall_app {α : Type} {P : α → Prop} {a b : List α} (ha : ∀ q ∈ a, P q) (hb : ∀ q ∈ b, P q) : ∀ q ∈ a ++ b, P q := fun q h => (List.mem_append.mp h).elim (ha q) (hb q)
noncomputable def zfind {α : Type} : List (Nat × α) → Nat → Option α
  | [], _ => none
  | q :: l, k => bif q.1 == k then some q.2 else zfind l k
theorem zfind_mem {α : Type} : ∀ {l : List (Nat × α)} {k : Nat} {a : α}, zfind l k = some a → (k, a) ∈ l
  | [], k, a, h => by cases h
  | q :: l, k, a, h => by
    unfold zfind at h
    by_cases hq : q.1 = k
    · rw [show (q.1 == k) = true by simp [hq]] at h
      cases h
      subst hq
      exact List.mem_cons_self
    · rw [show (q.1 == k) = false by simp [hq]] at h
      exact List.mem_cons_of_mem _ (zfind_mem h)
noncomputable def zkey (o k : Nat) : Nat := o * 65536 + k
noncomputable def zFLok (q : Nat × Nat × Nat) : Prop := ∃ (C : String) (T : u_T) (N : Nat), zcl[q.2.1]? = some (C, T, N) ∧ q.2.2 < N ∧ Cond.fieldLink (zcn (q.1 / 65536)) (q.1 % 65536) (T q.2.2).1 (T q.2.2).2.1 (T q.2.2).2.2.1 ∈ zTs
noncomputable def zSLok (q : Nat × Nat) : Prop := ∃ C n d : String, (C, n, d, q.2) ∈ zZs0 ∧ (Cond.fieldLink (zcn (q.1 / 65536)) (q.1 % 65536) C n d ∈ zTs ∨ ∃ host, Cond.fieldLinkNest (zcn (q.1 / 65536)) (q.1 % 65536) C n d host ∈ lw_tbl)
noncomputable def zMLok (q : Nat × Nat × Nat) : Prop := (q.2.2 = 0 ∧ Cond.methodLink (zcn (q.1 / 65536)) (q.1 % 65536) (zM q.2.1).1 ∈ zTs) ∨ (q.2.2 = 1 ∧ ∃ host, Cond.methodLinkNest (zcn (q.1 / 65536)) (q.1 % 65536) (zM q.2.1).1 host ∈ lw_tbl)
noncomputable def zCLok (q : Nat × Nat) : Prop := ∃ (C : String) (T : u_T) (N : Nat), zcl[q.2]? = some (C, T, N) ∧ Cond.classLink (zcn (q.1 / 65536)) (q.1 % 65536) C ∈ zTs ∧ 0 < N
noncomputable def zICok (q : Nat × Int32) : Prop := Cond.constant (zcn (q.1 / 65536)) (q.1 % 65536) q.2 ∈ zTs
noncomputable def zLCok (q : Nat × Int64) : Prop := Cond.constantLong (zcn (q.1 / 65536)) (q.1 % 65536) q.2 ∈ zTs
noncomputable def zOIok (q : Nat × Nat) : Prop := Cond.methodLink (zcn (q.1 / 65536)) (q.1 % 65536) Lib.objectInit ∈ zTs
noncomputable def zACok (q : Nat × Nat) : Prop := Cond.methodLink (zcn (q.1 / 65536)) (q.1 % 65536) arraycopyName ∈ zTs
noncomputable def zMok (q : zMi) : Prop := q.1.1.cls = zcn q.2.2.1 ∧ (q.2.1 ≠ 9 →
  Cond.code q.1.1 q.1.2.1 q.1.2.2.1 q.1.2.2.2.1 ∈ zTs ∧ Cond.initialized q.1.1.cls ∈ zTs ∧ (q.1.1.cls ≠ "java/lang/invoke/MethodHandle" ∧ q.1.1.cls ≠ "java/lang/invoke/VarHandle" ∧ (parseMethodDescriptor q.1.1.desc).map (fun d => d.parameters.length) = some q.2.2.2) ∧ plainFor q.1.1 = true ∧
  (q.2.1 = 0 → Cond.instanceMethod q.1.1 ∈ zTs ∧ Cond.selects q.1.1.cls q.1.1 q.1.1 ∈ zTs ∧ ∃ (T : u_T) (N : Nat), zcl[q.2.2.1]? = some (q.1.1.cls, T, N)) ∧ (q.2.1 = 1 → Cond.static q.1.1 ∈ zTs) ∧ (q.2.1 = 2 → Cond.instanceMethod q.1.1 ∈ zTs ∧ q.1.1.name = "<init>" ∧ q.1.2.2.2.1 = none))
