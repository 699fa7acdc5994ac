/-! One instruction of the checker is one of the interpreter. -/
def eGood (T : List eC) (S : List Nat) (h : zH) (σ : List Int) (x : Option zA) (L : List (Nat × eS)) : Prop := ∃ pc2 ls2 st2 h2, x = some (.inl (pc2, ls2, st2, h2)) ∧ eLe T S h h2 ∧ ∃ s2 σ2, (pc2, s2) ∈ L ∧ eExt σ σ2 ∧ eOk h2 s2 ls2 st2 σ2
theorem eLe_rf {T : List eC} {S : List Nat} {h : zH} (hT : eH T h) : eLe T S h h := ⟨hT, rfl, fun _ _ => rfl, eLn_rf h⟩
theorem eGood_s {T : List eC} {S : List Nat} {h : zH} {σ σ2 : List Int} {pc : Nat} {ls : zL} {st : List Value} {s : eS} {L : List (Nat × eS)} (hT : eH T h) (hL : eR pc s = some L) (hx : eExt σ σ2) (k : eOk h s ls st σ2) : eGood T S h σ (zs pc ls st h) L := by
  cases hL
  exact ⟨pc, ls, st, h, rfl, eLe_rf hT, s, σ2, List.mem_cons_self, hx, k⟩
theorem eStk_cons {h : zH} {σ : List Int} {t : eV} {l : List eV} : ∀ {st : List Value}, eStk h σ (t :: l) st → ∃ v m, st = v :: m ∧ eOkV h σ t v ∧ eStk h σ l m
  | [], k => k.elim
  | v :: m, k => ⟨v, m, rfl, k.1, k.2⟩
section EONE
variable {T : List eC} {S : List Nat} {h : zH} {s : eS} {ls : zL} {st : List Value} {σ : List Int} {L : List (Nat × eS)} {pc n k : Nat}
theorem eLd_ok (hT : eH T h) (hs : eOk h s ls st σ) {kd : Nat} (he : eLd kd k n s = some L) : (kd = 0 → eGood T S h σ (zldi k n ls st h) L) ∧ (kd = 1 → eGood T S h σ (zldl k n ls st h) L) ∧ (kd = 2 → eGood T S h σ (zlda k n ls st h) L) := by
  unfold eLd at he
  split at he
  · next v hv =>
    obtain ⟨w, h1, h2⟩ := eLv_ok hs.2.1 hv
    cases hk : (eKd v == kd) with
    | false => rw [hk] at he; cases he
    | true =>
      rw [hk] at he
      have he : eR n (s.1, s.2.1, v :: s.2.2.1, s.2.2.2) = some L := he
      have hk : eKd v = kd := by simpa using hk
      refine ⟨fun e => ?_, fun e => ?_, fun e => ?_⟩
      · rcases v with q | u | ⟨rs, nb⟩ | ⟨t, n0, n1⟩
        · obtain ⟨x, rfl, -⟩ := id h2
          unfold zldi
          rw [h1]
          exact eGood_s hT he (eExt_rf σ) (eOk_push hs h2)
        all_goals (subst e; cases hk)
      · rcases v with q | u | ⟨rs, nb⟩ | ⟨t, n0, n1⟩
        · subst e; cases hk
        · obtain ⟨x, rfl⟩ := id h2
          unfold zldl
          rw [h1]
          exact eGood_s hT he (eExt_rf σ) (eOk_push hs h2)
        all_goals (subst e; cases hk)
      · rcases v with q | u | ⟨rs, nb⟩ | ⟨t, n0, n1⟩
        · subst e; cases hk
        · subst e; cases hk
        · unfold zlda
          rcases id h2 with ⟨a, rfl, -⟩ | ⟨-, rfl⟩
          · rw [h1]; exact eGood_s hT he (eExt_rf σ) (eOk_push hs h2)
          · rw [h1]; exact eGood_s hT he (eExt_rf σ) (eOk_push hs h2)
        · obtain ⟨a, m, rfl, -⟩ := id h2
          unfold zlda
          rw [h1]
          exact eGood_s hT he (eExt_rf σ) (eOk_push hs h2)
  · cases he
theorem eSt1_ok (hT : eH T h) (hs : eOk h s ls st σ) {kd : Nat} (he : eSt1 kd k n s = some L) : (kd = 0 → eGood T S h σ (zsti k n ls st h) L) ∧ (kd = 2 → eGood T S h σ (zsta k n ls st h) L) := by
  unfold eSt1 at he
  split at he
  · next v r hr =>
    obtain ⟨h1, h2, h3, h4⟩ := hs
    rw [hr] at h3
    obtain ⟨w, m, rfl, h5, h6⟩ := eStk_cons h3
    cases hk : (eKd v == kd) with
    | false => rw [hk] at he; cases he
    | true =>
      rw [hk] at he
      have he : eR n (s.1, (k, v) :: eDrop1 s.2.1 k, r, s.2.2.2) = some L := he
      have hk : eKd v = kd := by simpa using hk
      have hok : ∀ x, eOkV h σ v x → eOk h (s.1, (k, v) :: eDrop1 s.2.1 k, r, s.2.2.2) (zst1 ls k x) m σ := fun x hx => ⟨h1, eDrop1_ok h2 k hx, h6, h4⟩
      refine ⟨fun e => ?_, fun e => ?_⟩
      · rcases v with q | u | ⟨rs, nb⟩ | ⟨t, n0, n1⟩
        · obtain ⟨x, rfl, -⟩ := id h5
          exact eGood_s hT he (eExt_rf σ) (hok _ h5)
        all_goals (subst e; cases hk)
      · rcases v with q | u | ⟨rs, nb⟩ | ⟨t, n0, n1⟩
        · subst e; cases hk
        · subst e; cases hk
        · rcases id h5 with ⟨a, rfl, -⟩ | ⟨-, rfl⟩
          · exact eGood_s hT he (eExt_rf σ) (hok _ h5)
          · exact eGood_s hT he (eExt_rf σ) (hok _ h5)
        · obtain ⟨a, m2, rfl, -⟩ := id h5
          exact eGood_s hT he (eExt_rf σ) (hok _ h5)
  · cases he
theorem eSt2_ok (hT : eH T h) (hs : eOk h s ls st σ) (he : eSt2 k n s = some L) : eGood T S h σ (zstl k n ls st h) L := by
  unfold eSt2 at he
  split at he
  · next v r hr =>
    obtain ⟨h1, h2, h3, h4⟩ := hs
    rw [hr] at h3
    obtain ⟨w, m, rfl, h5, h6⟩ := eStk_cons h3
    cases hk : (eKd v == 1) with
    | false => rw [hk] at he; cases he
    | true =>
      rw [hk] at he
      have he : eR n (s.1, (k, v) :: eDrop2 s.2.1 k, r, s.2.2.2) = some L := he
      rcases v with q | u | ⟨rs, nb⟩ | ⟨t, n0, n1⟩
      · cases hk
      · obtain ⟨x, rfl⟩ := id h5
        exact eGood_s hT he (eExt_rf σ) ⟨h1, eDrop2_ok h2 k h5, h6, h4⟩
      · cases hk
      · cases hk
  · cases he
theorem eKv_ok {v : Value} {t : eV} (hk : eKv v = some t) : eOkV h σ t v := by
  cases v <;> first | (cases hk; done) | skip
  all_goals first
    | (cases hk; exact ⟨_, rfl, rfl⟩)
    | (cases hk; exact ⟨_, rfl⟩)
    | (cases hk; exact Or.inl ⟨_, rfl, List.mem_cons_self⟩)
    | (cases hk; exact Or.inr ⟨rfl, rfl⟩)
theorem eCn_ok (hT : eH T h) (hs : eOk h s ls st σ) {K : zK} (he : eCn n K s = some L) : eGood T S h σ (zs n ls (K.2.2 :: st) h) L := by
  unfold eCn at he
  split at he
  · next v hv => exact eGood_s hT he (eExt_rf σ) (eOk_push hs (eKv_ok hv))
  · cases he
theorem ePut_ok (hs : eOk h s ls st σ) {r : List eV} {m : List Value} (hr : eStk h σ r m) {q : (Option Nat × Int) ⊕ (Int × Int)} {x : Int32} (hq : match q with
    | .inl v => eSym σ v x.toInt
    | .inr z => z.1 ≤ x.toInt ∧ x.toInt ≤ z.2) : ∃ σ2, eExt σ σ2 ∧ eOk h (ePut s r q) ls (.int x :: m) σ2 := by
  rcases q with v | z
  · exact ⟨σ, eExt_rf σ, hs.1, hs.2.1, ⟨⟨x, rfl, hq⟩, hr⟩, hs.2.2.2⟩
  · exact eNew_ok (s := (s.1, s.2.1, r, s.2.2.2)) ⟨hs.1, hs.2.1, hr, hs.2.2.2⟩ hq.1 hq.2
theorem eAdd_ok {env : List (Int × Int)} (hE : eEnv env σ) {a b : Option Nat × Int} {q : (Option Nat × Int) ⊕ (Int × Int)} {x y : Int32} (hx : eSym σ a x.toInt) (hy : eSym σ b y.toInt) (he : eAdd env a b = some q) : match q with
    | .inl v => eSym σ v (x + y).toInt
    | .inr z => z.1 ≤ (x + y).toInt ∧ (x + y).toInt ≤ z.2 := by
  unfold eAdd at he
  split at he
  · next rx ry h1 h2 =>
    have b1 := eRg_ok hE h1 hx
    have b2 := eRg_ok hE h2 hy
    cases hi : eIn (rx.1 + ry.1, rx.2 + ry.2) eTop with
    | false =>
      rw [hi] at he
      cases he
      exact e_rng _
    | true =>
      rw [hi] at he
      have hi := eIn_ok hi
      have hi1 : eMn ≤ rx.1 + ry.1 := hi.1
      have hi2 : rx.2 + ry.2 ≤ eMx := hi.2
      have e := e_add (a := x) (b := y) (by omega) (by omega)
      dsimp only [cond_true] at he
      split at he
      · next i o p =>
        cases he
        have hy : y.toInt = p := hy
        show eSym σ (i, o + p) (x + y).toInt
        rw [e, hy]
        cases i with
        | none => have hx : x.toInt = o := hx; rw [hx]; rfl
        | some i =>
          obtain ⟨u, u1, u2⟩ := hx
          exact ⟨u, u1, by rw [u2]; omega⟩
      · next o j p =>
        cases he
        have hx : x.toInt = o := hx
        obtain ⟨u, u1, u2⟩ := hy
        exact ⟨u, u1, by rw [e, hx, u2]; omega⟩
      · cases he
        show rx.1 + ry.1 ≤ (x + y).toInt ∧ (x + y).toInt ≤ rx.2 + ry.2
        rw [e]
        omega
  · cases he
theorem eSb_ok {env : List (Int × Int)} (hE : eEnv env σ) {a b : Option Nat × Int} {q : (Option Nat × Int) ⊕ (Int × Int)} {x y : Int32} (hx : eSym σ a x.toInt) (hy : eSym σ b y.toInt) (he : eSb env a b = some q) : match q with
    | .inl v => eSym σ v (x - y).toInt
    | .inr z => z.1 ≤ (x - y).toInt ∧ (x - y).toInt ≤ z.2 := by
  unfold eSb at he
  split at he
  · next rx ry h1 h2 =>
    have b1 := eRg_ok hE h1 hx
    have b2 := eRg_ok hE h2 hy
    cases hi : eIn (rx.1 - ry.2, rx.2 - ry.1) eTop with
    | false =>
      rw [hi] at he
      cases he
      exact e_rng _
    | true =>
      rw [hi] at he
      have hi := eIn_ok hi
      have hi1 : eMn ≤ rx.1 - ry.2 := hi.1
      have hi2 : rx.2 - ry.1 ≤ eMx := hi.2
      have e := e_sub (a := x) (b := y) (by omega) (by omega)
      dsimp only [cond_true] at he
      split at he
      · next i o p =>
        cases he
        have hy : y.toInt = p := hy
        show eSym σ (i, o - p) (x - y).toInt
        rw [e, hy]
        cases i with
        | none => have hx : x.toInt = o := hx; rw [hx]; rfl
        | some i =>
          obtain ⟨u, u1, u2⟩ := hx
          exact ⟨u, u1, by rw [u2]; omega⟩
      · cases he
        show rx.1 - ry.2 ≤ (x - y).toInt ∧ (x - y).toInt ≤ rx.2 - ry.1
        rw [e]
        omega
  · cases he
theorem eAS_ok (hT : eH T h) (hs : eOk h s ls st σ) {f : List (Int × Int) → Option Nat × Int → Option Nat × Int → Option ((Option Nat × Int) ⊕ (Int × Int))} {g : Int32 → Int32 → Int32}
    (hf : ∀ {a b : Option Nat × Int} {q : (Option Nat × Int) ⊕ (Int × Int)} {x y : Int32}, eSym σ a x.toInt → eSym σ b y.toInt → f s.1 a b = some q → match q with
      | .inl v => eSym σ v (g x y).toInt
      | .inr z => z.1 ≤ (g x y).toInt ∧ (g x y).toInt ≤ z.2) (he : eAS f pc s = some L) : eGood T S h σ (zii g pc ls st h) L := by
  unfold eAS at he
  split at he
  · next b a r hr =>
    have h3 := hs.2.2.1
    rw [hr] at h3
    obtain ⟨w, m, rfl, h5, h6⟩ := eStk_cons h3
    obtain ⟨w2, m2, rfl, h7, h8⟩ := eStk_cons h6
    obtain ⟨y, rfl, hy⟩ := h5
    obtain ⟨x, rfl, hx⟩ := h7
    split at he
    · next q hq =>
      obtain ⟨σ2, e1, e2⟩ := ePut_ok hs h8 (hf hx hy hq)
      exact eGood_s hT he e1 e2
    · cases he
  · cases he
theorem eII_ok (hT : eH T h) (hs : eOk h s ls st σ) {i : Instr} {g : Int32 → Int32 → Int32}
    (hf : ∀ {x y : Int32} {rx ry z : Int × Int}, rx.1 ≤ x.toInt ∧ x.toInt ≤ rx.2 → ry.1 ≤ y.toInt ∧ y.toInt ≤ ry.2 → eBin i rx ry = some z → (z.1 ≤ (g x y).toInt ∧ (g x y).toInt ≤ z.2)) (he : eII i pc s = some L) : eGood T S h σ (zii g pc ls st h) L := by
  unfold eII at he
  split at he
  · next b a r hr =>
    have h3 := hs.2.2.1
    rw [hr] at h3
    obtain ⟨w, m, rfl, h5, h6⟩ := eStk_cons h3
    obtain ⟨w2, m2, rfl, h7, h8⟩ := eStk_cons h6
    obtain ⟨y, rfl, hy⟩ := h5
    obtain ⟨x, rfl, hx⟩ := h7
    split at he
    · next rx ry h1 h2 =>
      split at he
      · next z hz =>
        have b := hf (eRg_ok hs.1 h1 hx) (eRg_ok hs.1 h2 hy) hz
        obtain ⟨σ2, e1, e2⟩ := eNew_ok (s := (s.1, s.2.1, r, s.2.2.2)) ⟨hs.1, hs.2.1, h8, hs.2.2.2⟩ b.1 b.2
        exact eGood_s hT he e1 e2
      · cases he
    · cases he
  · cases he
theorem eIId_ok (hT : eH T h) (hs : eOk h s ls st σ) {i : Instr} {g : Int32 → Int32 → Int32}
    (hf : ∀ {x y : Int32} {rx ry z : Int × Int}, rx.1 ≤ x.toInt ∧ x.toInt ≤ rx.2 → ry.1 ≤ y.toInt ∧ y.toInt ≤ ry.2 → eBin i rx ry = some z → y ≠ 0 ∧ (z.1 ≤ (g x y).toInt ∧ (g x y).toInt ≤ z.2)) (he : eII i pc s = some L) : eGood T S h σ (ziid g pc ls st h) L := by
  unfold eII at he
  split at he
  · next b a r hr =>
    have h3 := hs.2.2.1
    rw [hr] at h3
    obtain ⟨w, m, rfl, h5, h6⟩ := eStk_cons h3
    obtain ⟨w2, m2, rfl, h7, h8⟩ := eStk_cons h6
    obtain ⟨y, rfl, hy⟩ := h5
    obtain ⟨x, rfl, hx⟩ := h7
    split at he
    · next rx ry h1 h2 =>
      split at he
      · next z hz =>
        obtain ⟨hne, b⟩ := hf (eRg_ok hs.1 h1 hx) (eRg_ok hs.1 h2 hy) hz
        obtain ⟨σ2, e1, e2⟩ := eNew_ok (s := (s.1, s.2.1, r, s.2.2.2)) ⟨hs.1, hs.2.1, h8, hs.2.2.2⟩ b.1 b.2
        show eGood T S h σ (bif decide (y = 0) then none else zs (pc + 1) ls (.int (g x y) :: m2) h) L
        rw [decide_eq_false hne]
        exact eGood_s hT he e1 e2
      · cases he
    · cases he
  · cases he
theorem eLL_ok (hT : eH T h) (hs : eOk h s ls st σ) {g : Int64 → Int64 → Int64} (he : eLL pc s = some L) : eGood T S h σ (zll g pc ls st h) L := by
  unfold eLL at he
  split at he
  · next u1 u2 r hr =>
    have h3 := hs.2.2.1
    rw [hr] at h3
    obtain ⟨w, m, rfl, h5, h6⟩ := eStk_cons h3
    obtain ⟨w2, m2, rfl, h7, h8⟩ := eStk_cons h6
    obtain ⟨y, rfl⟩ := h5
    obtain ⟨x, rfl⟩ := h7
    exact eGood_s hT he (eExt_rf σ) ⟨hs.1, hs.2.1, ⟨⟨_, rfl⟩, h8⟩, hs.2.2.2⟩
  · cases he
theorem eLI_ok (hT : eH T h) (hs : eOk h s ls st σ) {g : Int64 → Int32 → Int64} (he : eLI pc s = some L) : eGood T S h σ (zlsh g pc ls st h) L := by
  unfold eLI at he
  split at he
  · next q u2 r hr =>
    have h3 := hs.2.2.1
    rw [hr] at h3
    obtain ⟨w, m, rfl, h5, h6⟩ := eStk_cons h3
    obtain ⟨w2, m2, rfl, h7, h8⟩ := eStk_cons h6
    obtain ⟨y, rfl, -⟩ := h5
    obtain ⟨x, rfl⟩ := h7
    exact eGood_s hT he (eExt_rf σ) ⟨hs.1, hs.2.1, ⟨⟨_, rfl⟩, h8⟩, hs.2.2.2⟩
  · cases he
theorem eI1_ok (hT : eH T h) (hs : eOk h s ls st σ) {f : Int × Int → eT} {g : Int32 → Value} (hf : ∀ {x : Int32} {r : Int × Int}, r.1 ≤ x.toInt ∧ x.toInt ≤ r.2 → eOkT h (f r) (g x)) (he : eI1 f pc s = some L) : eGood T S h σ (zi1 g pc ls st h) L := by
  unfold eI1 at he
  split at he
  · next q r hr =>
    have h3 := hs.2.2.1
    rw [hr] at h3
    obtain ⟨w, m, rfl, h5, h6⟩ := eStk_cons h3
    obtain ⟨x, rfl, hx⟩ := h5
    split at he
    · next rx h1 =>
      obtain ⟨σ2, e1, e2⟩ := ePush_ok (s := (s.1, s.2.1, r, s.2.2.2)) ⟨hs.1, hs.2.1, h6, hs.2.2.2⟩ (hf (eRg_ok hs.1 h1 hx))
      exact eGood_s hT he e1 e2
    · cases he
  · cases he
theorem eL1_ok (hT : eH T h) (hs : eOk h s ls st σ) {t : eT} {g : Int64 → Value} (hf : ∀ x : Int64, eOkT h t (g x)) (he : eL1 t pc s = some L) : eGood T S h σ (zl1 g pc ls st h) L := by
  unfold eL1 at he
  split at he
  · next u r hr =>
    have h3 := hs.2.2.1
    rw [hr] at h3
    obtain ⟨w, m, rfl, h5, h6⟩ := eStk_cons h3
    obtain ⟨x, rfl⟩ := h5
    obtain ⟨σ2, e1, e2⟩ := ePush_ok (s := (s.1, s.2.1, r, s.2.2.2)) ⟨hs.1, hs.2.1, h6, hs.2.2.2⟩ (hf x)
    exact eGood_s hT he e1 e2
  · cases he
theorem eIf_ok (hT : eH T h) (hs : eOk h s ls st σ) {c : ClassFile.Cond} {t : Nat} {a b : Option Nat × Int} {u v : Int32} (hu : eSym σ a u.toInt) (hv : eSym σ b v.toInt) (he : eIf c t n a b s = some L) : eGood T S h σ (bif zcmp c u v then zs t ls st h else zs n ls st h) L := by
  unfold eIf at he
  split at he
  · next x y h1 h2 =>
    cases he
    cases hc : zcmp c u v with
    | true =>
      obtain ⟨k1, k2⟩ := eWhen_ok hs.1 h1 h2 hu hv hc
      refine ⟨t, ls, st, h, rfl, eLe_rf hT, (eWhen s.1 c a b x y, s.2), σ, ?_, eExt_rf σ, k2, hs.2⟩
      rw [k1]
      exact List.mem_cons_self
    | false =>
      obtain ⟨k1, k2⟩ := eWhen_ok hs.1 h1 h2 hu hv (eNeg_cmp c u v hc)
      refine ⟨n, ls, st, h, rfl, eLe_rf hT, (eWhen s.1 (eNeg c) a b x y, s.2), σ, ?_, eExt_rf σ, k2, hs.2⟩
      rw [k1]
      exact List.mem_append_right _ List.mem_cons_self
  · cases he
end EONE
