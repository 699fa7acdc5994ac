/-! The checker's ground: symbols, ranges, what stands when the heap or the symbols grow. -/
def eExt (σ σ2 : List Int) : Prop := ∃ m, σ2 = σ ++ m
theorem eExt_rf (σ : List Int) : eExt σ σ := ⟨[], (List.append_nil σ).symm⟩
theorem eExt_tr {a b c : List Int} (h : eExt a b) (k : eExt b c) : eExt a c := by
  obtain ⟨m, rfl⟩ := h
  obtain ⟨n, rfl⟩ := k
  exact ⟨m ++ n, List.append_assoc a m n⟩
theorem eExt_get {σ σ2 : List Int} (h : eExt σ σ2) {i : Nat} {s : Int} (hs : σ[i]? = some s) : σ2[i]? = some s := by
  obtain ⟨m, rfl⟩ := h
  rw [List.getElem?_append_left (List.getElem?_eq_some_iff.mp hs).1]
  exact hs
theorem eSym_ext {σ σ2 : List Int} (h : eExt σ σ2) {q : Option Nat × Int} {x : Int} (k : eSym σ q x) : eSym σ2 q x := by
  obtain ⟨i, o⟩ := q
  cases i with
  | none => exact k
  | some i =>
    obtain ⟨s, k1, k2⟩ := k
    exact ⟨s, eExt_get h k1, k2⟩
def eLn (h h2 : zH) : Prop := ∀ a x, elen h a = some x → elen h2 a = some x
theorem eLn_rf (h : zH) : eLn h h := fun _ _ k => k
theorem eOkV_mono {h h2 : zH} {σ σ2 : List Int} (hl : eLn h h2) (hx : eExt σ σ2) {t : eV} {v : Value} (k : eOkV h σ t v) : eOkV h2 σ2 t v := by
  rcases t with q | u | ⟨rs, nb⟩ | ⟨t, n0, n1⟩
  · obtain ⟨x, k1, k2⟩ := k
    exact ⟨x, k1, eSym_ext hx k2⟩
  · exact k
  · exact k
  · obtain ⟨a, n, k1, k2, k3⟩ := k
    exact ⟨a, n, k1, hl _ _ k2, k3⟩
theorem eOkT_mono {h h2 : zH} (hl : eLn h h2) {t : eT} {v : Value} (k : eOkT h t v) : eOkT h2 t v := by
  rcases t with q | u | ⟨rs, nb⟩ | ⟨t, n0, n1⟩
  · exact k
  · exact k
  · exact k
  · obtain ⟨a, n, k1, k2, k3⟩ := k
    exact ⟨a, n, k1, hl _ _ k2, k3⟩
theorem eStk_mono {h h2 : zH} {σ σ2 : List Int} (hl : eLn h h2) (hx : eExt σ σ2) : ∀ {l : List eV} {m : List Value}, eStk h σ l m → eStk h2 σ2 l m
  | [], [], _ => True.intro
  | _ :: _, _ :: _, k => ⟨eOkV_mono hl hx k.1, eStk_mono hl hx k.2⟩
  | [], _ :: _, k => k.elim
  | _ :: _, [], k => k.elim
theorem eOkC_mono {h h2 : zH} (hl : eLn h h2) {c : eC} {e : zE} (k : eOkC h c e) : eOkC h2 c e := by
  rcases c with ⟨t, n, rg, d⟩ | n | ⟨n, rs⟩ | ⟨ci, ts⟩
  · exact k
  · exact k
  · exact k
  · obtain ⟨fs, k1, k2, k3⟩ := k
    exact ⟨fs, k1, k2, fun j t hj => by
      obtain ⟨v, q1, q2⟩ := k3 j t hj
      exact ⟨v, q1, eOkT_mono hl q2⟩⟩
theorem eEnv_get : ∀ {env : List (Int × Int)} {σ : List Int}, eEnv env σ → ∀ {i : Nat} {r : Int × Int} {s : Int}, env[i]? = some r → σ[i]? = some s → r.1 ≤ s ∧ s ≤ r.2
  | [], [], _, i, r, s, h, _ => by cases i <;> cases h
  | _ :: _, x :: m, k, 0, r, s, h, hs => by
    cases h
    cases hs
    exact k.1
  | _ :: _, x :: m, k, i + 1, r, s, h, hs => eEnv_get k.2 (i := i) h hs
  | [], _ :: _, k, _, _, _, _, _ => k.elim
  | _ :: _, [], k, _, _, _, _, _ => k.elim
theorem eEnv_len : ∀ {env : List (Int × Int)} {σ : List Int}, eEnv env σ → σ.length = env.length
  | [], [], _ => rfl
  | _ :: _, _ :: _, k => by rw [List.length_cons, List.length_cons, eEnv_len k.2]
  | [], _ :: _, k => k.elim
  | _ :: _, [], k => k.elim
theorem eEnv_app : ∀ {env : List (Int × Int)} {σ : List Int}, eEnv env σ → ∀ {r : Int × Int} {x : Int}, r.1 ≤ x → x ≤ r.2 → eEnv (env ++ [r]) (σ ++ [x])
  | [], [], _, r, x, h1, h2 => ⟨⟨h1, h2⟩, True.intro⟩
  | _ :: _, _ :: _, k, r, x, h1, h2 => ⟨k.1, eEnv_app k.2 h1 h2⟩
  | [], _ :: _, k, _, _, _, _ => k.elim
  | _ :: _, [], k, _, _, _, _ => k.elim
theorem eEnv_set : ∀ {env : List (Int × Int)} {σ : List Int}, eEnv env σ → ∀ {i : Nat} {r : Int × Int} {s : Int}, σ[i]? = some s → r.1 ≤ s → s ≤ r.2 → eEnv (env.set i r) σ
  | [], [], k, i, r, s, h, _, _ => by cases i <;> cases h
  | _ :: _, x :: m, k, 0, r, s, h, h1, h2 => by
    cases h
    exact ⟨⟨h1, h2⟩, k.2⟩
  | _ :: _, x :: m, k, i + 1, r, s, h, h1, h2 => ⟨k.1, eEnv_set k.2 (i := i) h h1 h2⟩
  | [], _ :: _, k, _, _, _, _, _, _ => k.elim
  | _ :: _, [], k, _, _, _, _, _, _ => k.elim
theorem eRg_ok {env : List (Int × Int)} {σ : List Int} (he : eEnv env σ) {q : Option Nat × Int} {r : Int × Int} {x : Int} (hr : eRg env q = some r) (hx : eSym σ q x) : r.1 ≤ x ∧ x ≤ r.2 := by
  obtain ⟨i, o⟩ := q
  cases i with
  | none =>
    cases hr
    have hx : x = o := hx
    exact ⟨Int.le_of_eq hx.symm, Int.le_of_eq hx⟩
  | some i =>
    obtain ⟨s, k1, k2⟩ := hx
    unfold eRg at hr
    dsimp only at hr
    split at hr
    · next r0 h0 =>
      cases hr
      have := eEnv_get he h0 k1
      constructor <;> dsimp only <;> omega
    · cases hr
theorem eTight_ok {env : List (Int × Int)} {σ : List Int} (he : eEnv env σ) {q : Option Nat × Int} {lo hi x : Int} (hx : eSym σ q x) (h1 : lo ≤ x) (h2 : x ≤ hi) : eEnv (eTight env q lo hi) σ := by
  obtain ⟨i, o⟩ := q
  cases i with
  | none => exact he
  | some i =>
    obtain ⟨s, k1, k2⟩ := hx
    unfold eTight
    dsimp only
    split
    · next r0 h0 =>
      have := eEnv_get he h0 k1
      refine eEnv_set he k1 ?_ ?_
      · dsimp only; omega
      · dsimp only; omega
    · exact he
theorem eIn_ok {r t : Int × Int} (h : eIn r t = true) : t.1 ≤ r.1 ∧ r.2 ≤ t.2 := by
  unfold eIn at h
  simp only [Bool.and_eq_true, decide_eq_true_eq] at h
  exact h
theorem eWhen_ok {env : List (Int × Int)} {σ : List Int} (he : eEnv env σ) {c : ClassFile.Cond} {a b : Option Nat × Int} {x y : Int × Int} {u v : Int32} (ha : eRg env a = some x) (hb : eRg env b = some y) (hu : eSym σ a u.toInt) (hv : eSym σ b v.toInt) (hc : zcmp c u v = true) : eCan c x y = true ∧ eEnv (eWhen env c a b x y) σ := by
  have hx := eRg_ok he ha hu
  have hy := eRg_ok he hb hv
  cases c with
  | eq =>
    have hc : u = v := of_decide_eq_true hc
    subst hc
    refine ⟨?_, ?_⟩
    · show (decide (x.1 ≤ y.2) && decide (y.1 ≤ x.2)) = true
      simp only [Bool.and_eq_true, decide_eq_true_eq]
      omega
    · exact eTight_ok (eTight_ok he hu hy.1 hy.2) hv hx.1 hx.2
  | ne =>
    have hc : ¬ u = v := by
      intro q
      have hc : (!decide (u = v)) = true := hc
      rw [decide_eq_true q] at hc
      cases hc
    have hc : u.toInt ≠ v.toInt := fun q => hc (Int32.toInt_inj.mp q)
    refine ⟨?_, ?_⟩
    · show (!(decide (x.1 = x.2) && (decide (y.1 = y.2) && decide (x.1 = y.1)))) = true
      rw [Bool.not_eq_true']
      apply Bool.eq_false_iff.mpr
      intro q
      simp only [Bool.and_eq_true, decide_eq_true_eq] at q
      omega
    · show eEnv (bif decide (y.1 = y.2) && decide (x.1 = y.1) then eTight env a (x.1 + 1) x.2 else bif decide (y.1 = y.2) && decide (x.2 = y.1) then eTight env a x.1 (x.2 - 1) else env) σ
      cases h1 : (decide (y.1 = y.2) && decide (x.1 = y.1)) with
      | true =>
        simp only [Bool.and_eq_true, decide_eq_true_eq] at h1
        exact eTight_ok he hu (by omega) hx.2
      | false =>
        cases h2 : (decide (y.1 = y.2) && decide (x.2 = y.1)) with
        | true =>
          simp only [Bool.and_eq_true, decide_eq_true_eq] at h2
          exact eTight_ok he hu hx.1 (by omega)
        | false => exact he
  | lt =>
    have hc : u.toInt < v.toInt := Int32.lt_iff_toInt_lt.mp (of_decide_eq_true hc)
    refine ⟨decide_eq_true (by omega), ?_⟩
    exact eTight_ok (eTight_ok he hu hx.1 (by omega)) hv (by omega) hy.2
  | ge =>
    have hc : v.toInt ≤ u.toInt := Int32.le_iff_toInt_le.mp (of_decide_eq_true hc)
    refine ⟨decide_eq_true (by omega), ?_⟩
    exact eTight_ok (eTight_ok he hu (by omega) hx.2) hv hy.1 (by omega)
  | gt =>
    have hc : v.toInt < u.toInt := Int32.lt_iff_toInt_lt.mp (of_decide_eq_true hc)
    refine ⟨decide_eq_true (by omega), ?_⟩
    exact eTight_ok (eTight_ok he hu (by omega) hx.2) hv hy.1 (by omega)
  | le =>
    have hc : u.toInt ≤ v.toInt := Int32.le_iff_toInt_le.mp (of_decide_eq_true hc)
    refine ⟨decide_eq_true (by omega), ?_⟩
    exact eTight_ok (eTight_ok he hu hx.1 (by omega)) hv (by omega) hy.2
theorem eNeg_cmp (c : ClassFile.Cond) (u v : Int32) (h : zcmp c u v = false) : zcmp (eNeg c) u v = true := by
  cases c with
  | eq => show (!decide (u = v)) = true; rw [show decide (u = v) = false from h]; rfl
  | ne =>
    have h : (!decide (u = v)) = false := h
    show decide (u = v) = true
    cases hd : decide (u = v) with
    | true => rfl
    | false => rw [hd] at h; cases h
  | lt => exact zc_ge_t (by have := of_decide_eq_false h; rw [Int32.lt_iff_toInt_lt] at this; omega)
  | ge => exact zc_lt_t (by have := of_decide_eq_false h; rw [Int32.le_iff_toInt_le] at this; omega)
  | gt => exact zc_le_t (by have := of_decide_eq_false h; rw [Int32.lt_iff_toInt_lt] at this; omega)
  | le => exact zc_gt_t (by have := of_decide_eq_false h; rw [Int32.le_iff_toInt_le] at this; omega)
/-- the state with its symbols grown -/
theorem eOk_ext {h : zH} {s : eS} {ls : zL} {st : List Value} {σ : List Int} (k : eOk h s ls st σ) {r : Int × Int} {x : Int} (h1 : r.1 ≤ x) (h2 : x ≤ r.2) : eOk h (s.1 ++ [r], s.2) ls st (σ ++ [x]) := by
  obtain ⟨k1, k2, k3, k4⟩ := k
  have hx : eExt σ (σ ++ [x]) := ⟨[x], rfl⟩
  refine ⟨eEnv_app k1 h1 h2, fun q hq => ?_, eStk_mono (eLn_rf h) hx k3, fun q hq => ?_⟩
  · obtain ⟨v, q1, q2⟩ := k2 q hq
    exact ⟨v, q1, eOkV_mono (eLn_rf h) hx q2⟩
  · obtain ⟨v, q1, q2⟩ := k4 q hq
    exact ⟨v, q1, eOkV_mono (eLn_rf h) hx q2⟩
theorem eOk_push {h : zH} {s : eS} {ls : zL} {st : List Value} {σ : List Int} (k : eOk h s ls st σ) {t : eV} {v : Value} (hv : eOkV h σ t v) : eOk h (s.1, s.2.1, t :: s.2.2.1, s.2.2.2) ls (v :: st) σ := ⟨k.1, k.2.1, ⟨hv, k.2.2.1⟩, k.2.2.2⟩
theorem eNew_ok {h : zH} {s : eS} {ls : zL} {st : List Value} {σ : List Int} (k : eOk h s ls st σ) {r : Int × Int} {x : Int32} (h1 : r.1 ≤ x.toInt) (h2 : x.toInt ≤ r.2) : ∃ σ2, eExt σ σ2 ∧ eOk h (eNew s r) ls (.int x :: st) σ2 := by
  unfold eNew
  cases hd : decide (r.1 = r.2) with
  | true =>
    have := of_decide_eq_true hd
    exact ⟨σ, eExt_rf σ, eOk_push k ⟨x, rfl, by show x.toInt = r.1; omega⟩⟩
  | false =>
    refine ⟨σ ++ [x.toInt], ⟨_, rfl⟩, ?_⟩
    refine eOk_push (eOk_ext k h1 h2) ⟨x, rfl, x.toInt, ?_, (Int.add_zero _).symm⟩
    rw [← eEnv_len k.1, List.getElem?_append_right (Nat.le_refl _), Nat.sub_self]
    rfl
theorem ePush_ok {h : zH} {s : eS} {ls : zL} {st : List Value} {σ : List Int} (k : eOk h s ls st σ) {t : eT} {v : Value} (hv : eOkT h t v) : ∃ σ2, eExt σ σ2 ∧ eOk h (ePush s t) ls (v :: st) σ2 := by
  rcases t with r | u | ⟨rs, nb⟩ | ⟨t, n0, n1⟩
  · obtain ⟨x, rfl, h1, h2⟩ := hv
    exact eNew_ok k h1 h2
  · exact ⟨σ, eExt_rf σ, eOk_push k hv⟩
  · exact ⟨σ, eExt_rf σ, eOk_push k hv⟩
  · exact ⟨σ, eExt_rf σ, eOk_push k hv⟩
theorem eLv_ok {h : zH} {σ : List Int} {ls : zL} : ∀ {L : List (Nat × eV)}, (∀ q ∈ L, ∃ v, zlv ls q.1 = some v ∧ eOkV h σ q.2 v) → ∀ {k : Nat} {t : eV}, eLv L k = some t → ∃ v, zlv ls k = some v ∧ eOkV h σ t v
  | [], _, k, t, he => by cases he
  | q :: L, hL, k, t, he => by
    unfold eLv at he
    cases hq : (q.1 == k) with
    | true =>
      rw [hq] at he
      cases he
      have := hL q List.mem_cons_self
      rw [show q.1 = k by simpa using hq] at this
      exact this
    | false =>
      rw [hq] at he
      exact eLv_ok (fun p hp => hL p (List.mem_cons_of_mem _ hp)) he
theorem eCat {h : zH} {σ : List Int} {t : eV} {v : Value} (k : eOkV h σ t v) (hk : (eKd t == 1) = false) : (v.category == 2) = false := by
  rcases t with q | u | ⟨rs, nb⟩ | ⟨t, n0, n1⟩
  · obtain ⟨x, rfl, -⟩ := k; rfl
  · cases hk
  · rcases k with ⟨a, rfl, -⟩ | ⟨-, rfl⟩ <;> rfl
  · obtain ⟨a, n, rfl, -⟩ := k; rfl
theorem eDrop1_ok {h : zH} {σ : List Int} {ls : zL} {L : List (Nat × eV)} (hL : ∀ q ∈ L, ∃ v, zlv ls q.1 = some v ∧ eOkV h σ q.2 v) (k : Nat) {t : eV} {x : Value} (hx : eOkV h σ t x) : ∀ q ∈ (k, t) :: eDrop1 L k, ∃ v, zlv (zst1 ls k x) q.1 = some v ∧ eOkV h σ q.2 v := by
  intro q hq
  rcases List.mem_cons.mp hq with rfl | hq
  · exact ⟨x, by unfold zst1; rw [zlv_cons, if_pos rfl], hx⟩
  · obtain ⟨h1, h2⟩ := List.mem_filter.mp hq
    obtain ⟨v, h3, h4⟩ := hL q h1
    refine ⟨v, ?_, h4⟩
    simp only [Bool.and_eq_true, Bool.not_eq_true', beq_eq_false_iff_ne] at h2
    have hne : ¬ k = q.1 := fun e => h2.1 e.symm
    unfold zst1
    rw [zlv_cons, if_neg hne]
    refine zlv_filter h3 ?_
    have e1 : (q.1 == k) = false := by simpa using h2.1
    show (!(q.1 == k) && !(q.1 + 1 == k && v.category == 2)) = true
    rw [e1]
    cases h5 : (q.1 + 1 == k) with
    | false => rfl
    | true =>
      have h6 := h2.2
      rw [h5] at h6
      have h7 : (eKd q.2 == 1) = false := by simpa using h6
      rw [eCat h4 h7]
      rfl
theorem eDrop2_ok {h : zH} {σ : List Int} {ls : zL} {L : List (Nat × eV)} (hL : ∀ q ∈ L, ∃ v, zlv ls q.1 = some v ∧ eOkV h σ q.2 v) (k : Nat) {t : eV} {x : Value} (hx : eOkV h σ t x) : ∀ q ∈ (k, t) :: eDrop2 L k, ∃ v, zlv (zst2 ls k x) q.1 = some v ∧ eOkV h σ q.2 v := by
  intro q hq
  rcases List.mem_cons.mp hq with rfl | hq
  · exact ⟨x, by unfold zst2; rw [zlv_cons, if_pos rfl], hx⟩
  · obtain ⟨h1, h2⟩ := List.mem_filter.mp hq
    obtain ⟨v, h3, h4⟩ := hL q h1
    refine ⟨v, ?_, h4⟩
    simp only [Bool.and_eq_true, Bool.not_eq_true', beq_eq_false_iff_ne] at h2
    have hne : ¬ k = q.1 := fun e => h2.1 e.symm
    unfold zst2
    rw [zlv_cons, if_neg hne]
    refine zlv_filter h3 ?_
    have e1 : (q.1 == k) = false := by simpa using h2.1
    have e2 : (q.1 == k + 1) = false := by simpa using h2.2.1
    show (!(q.1 == k) && (!(q.1 == k + 1) && !(q.1 + 1 == k && v.category == 2))) = true
    rw [e1, e2]
    cases h5 : (q.1 + 1 == k) with
    | false => rfl
    | true =>
      have h6 := h2.2.2
      rw [h5] at h6
      have h7 : (eKd q.2 == 1) = false := by simpa using h6
      rw [eCat h4 h7]
      rfl
