/-! The class holds bytes, the reference numbers 0 .. 255: to its reader they are the same. -/
noncomputable def tRel (a b : List Int32) : Prop := ∀ i, (a.getD i 0 = b.getD i 0 ∧ 0 ≤ (a.getD i 0).toInt ∧ (a.getD i 0).toInt ≤ 127) ∨ ((a.getD i 0).toInt < 0 ∧ 127 < (b.getD i 0).toInt)
theorem tRel_pos {a b : List Int32} (h : tRel a b) (i : Nat) : 0 ≤ (b.getD i 0).toInt := by
  rcases h i with ⟨e, p, q⟩ | ⟨p, q⟩
  · rw [← e]; exact p
  · omega
theorem tRel_eq {a b : List Int32} (h : tRel a b) (i : Nat) (c : Int32) (hc : 0 ≤ c.toInt ∧ c.toInt ≤ 127) : (a.getD i 0 = c) = (b.getD i 0 = c) := by
  rcases h i with ⟨e, p, q⟩ | ⟨p, q⟩
  · rw [e]
  · refine propext ⟨fun z => ?_, fun z => ?_⟩
    · rw [z] at p; omega
    · rw [z] at q; omega
theorem tRel_ne {a b : List Int32} (h : tRel a b) (i : Nat) (c : Int32) (hc : 0 ≤ c.toInt ∧ c.toInt ≤ 127) : (a.getD i 0 ≠ c) = (b.getD i 0 ≠ c) := by
  have := tRel_eq h i c hc
  show (¬ (a.getD i 0 = c)) = (¬ (b.getD i 0 = c))
  rw [this]
/-- in a range or not, and the same there -/
theorem tRel_rg {a b : List Int32} (h : tRel a b) (i : Nat) (lo hi : Int32) (h1 : 0 ≤ lo.toInt) (h2 : hi.toInt ≤ 127) : ((if (a.getD i 0).toInt < lo.toInt then (0 : Int32) else (if hi.toInt < (a.getD i 0).toInt then 0 else 1)) = (if (b.getD i 0).toInt < lo.toInt then 0 else (if hi.toInt < (b.getD i 0).toInt then 0 else 1))) := by
  rcases h i with ⟨e, p, q⟩ | ⟨p, q⟩
  · rw [e]
  · rw [if_pos (show (a.getD i 0).toInt < lo.toInt by omega), if_pos (show hi.toInt < (b.getD i 0).toInt by omega)]
    split <;> rfl
theorem rHas_t {a b : List Int32} (h : tRel a b) (ln p : Nat) (lo hi : Int32) (h1 : 0 ≤ lo.toInt) (h2 : hi.toInt ≤ 127) : rHas a ln p lo hi = rHas b ln p lo hi := by
  unfold rHas
  rw [tRel_rg h _ lo hi h1 h2]
theorem rHas_in {a b : List Int32} (h : tRel a b) {ln p : Nat} {lo hi : Int32} (h1 : 0 ≤ lo.toInt) (h2 : hi.toInt ≤ 127) (k : rHas a ln p lo hi ≠ 0) : a.getD ((nI p)).toNatClampNeg 0 = b.getD ((nI p)).toNatClampNeg 0 := by
  rcases h ((nI p)).toNatClampNeg with ⟨e, p, q⟩ | ⟨p, q⟩
  · exact e
  · exfalso
    apply k
    unfold rHas
    split
    · rfl
    · rw [if_pos (by omega)]
theorem tdF_t {a b : List Int32} (h : tRel a b) (ln : Nat) (m : Nat) : ∀ (nu : Int32) (nx : Nat), tdF a ln m nu nx = tdF b ln m nu nx := by
  induction m with
  | zero => intro nu nx; rfl
  | succ m ih =>
    intro nu nx
    rw [tdF, tdF]
    have e := rHas_t h ln nx 48 57 (by decide) (by decide)
    by_cases k : rHas a ln nx 48 57 = 0
    · rw [← e, if_pos k, if_pos k]
    · have g := rHas_in h (by decide) (by decide) k
      rw [← e, if_neg k, if_neg k, g, ih]
theorem twF_t {a b : List Int32} (h : tRel a b) (ln : Nat) : ∀ (m le : Nat) (va : Int32) (nx : Nat) (kd : Int32), twF a ln m le va nx kd = twF b ln m le va nx kd
  | 0, _, _, _, _ => rfl
  | m + 1, le, va, nx, kd => by
    unfold twF
    have e := rHas_t h ln nx 97 122 (by decide) (by decide)
    have ih := twF_t h ln m
    by_cases k : rHas a ln nx 97 122 = 0
    · simp only [← e, k, ih]
      try rfl
    · have g := rHas_in h (by decide) (by decide) k
      simp only [← e, if_neg k, ih, g]
theorem tdG_t {a b : List Int32} (h : tRel a b) (ln nx : Nat) : tdG a ln nx = tdG b ln nx := by
  unfold tdG; rw [tdF_t h]
theorem twG_t {a b : List Int32} (h : tRel a b) (ln nx : Nat) (kd : Int32) : twG a ln nx kd = twG b ln nx kd := by
  unfold twG; rw [twF_t h]
theorem adF_t {a b : List Int32} (h : tRel a b) (ln : Nat) : ∀ (m nx : Nat) (kd sta va : Int32), adF a ln m nx kd sta va = adF b ln m nx kd sta va
  | 0, _, _, _, _ => rfl
  | m + 1, nx, kd, sta, va => by
    unfold adF
    simp only [rHas_t h _ _ 97 122 (by decide) (by decide), rHas_t h _ _ 48 57 (by decide) (by decide), tdG_t h, twG_t h, adF_t h ln m, tRel_eq h _ 32 (by decide), tRel_ne h _ 10 (by decide), tRel_ne h _ 45 (by decide), tRel_ne h _ 59 (by decide)]
theorem adG_t {a b : List Int32} (h : tRel a b) : adG a = adG b := by
  funext ln nx kd sta va
  unfold adG
  rw [adF_t h]
theorem rnG_t {a b : List Int32} (h : tRel a b) : rnG a = rnG b := by
  funext ln wr wa nx kd sta va lo hi c
  simp only [rnG, adG_t h]
theorem rmG_t {a b : List Int32} (h : tRel a b) : rmG a = rmG b := by
  funext ln wr wa nx kd sta va
  simp only [rmG, adG_t h]
theorem rsG_t {a b : List Int32} (h : tRel a b) : rsG a = rsG b := by
  funext ln wr wa nx kd sta va lk hd ht bl sd w
  simp only [rsG, rnG_t h]
theorem rlG_t {a b : List Int32} (h : tRel a b) : rlG a = rlG b := by
  funext ln wr wa nx kd sta va tld ll lg
  simp only [rlG, rnG_t h]
theorem rpG_t {a b : List Int32} (h : tRel a b) : rpG a = rpG b := by
  funext ln wr wa nx kd sta va tld sv
  simp only [rpG, rnG_t h]
theorem rrF_t {a b : List Int32} (h : tRel a b) (ln : Nat) : ∀ (m k : Nat) (wr wa : Int32) (nx : Nat) (kd sta va : Int32) (rt : Int64), rrF a ln m k wr wa nx kd sta va rt = rrF b ln m k wr wa nx kd sta va rt
  | 0, _, _, _, _, _, _, _, _ => rfl
  | m + 1, k, wr, wa, nx, kd, sta, va, rt => by
    simp only [rrF, rnG_t h, rrF_t h ln m]
theorem rrG_t {a b : List Int32} (h : tRel a b) : rrG a = rrG b := by
  funext ln wr wa nx kd sta va rt
  simp only [rrG, rrF_t h]
theorem rzF_t {a b : List Int32} (h : tRel a b) (ln : Nat) : ∀ (m k : Nat) (ps : Int64) (wr wa : Int32) (nx : Nat) (kd sta va : Int32) (sp : Nat) (po : List Int64), rzF a ln m k ps wr wa nx kd sta va sp po = rzF b ln m k ps wr wa nx kd sta va sp po
  | 0, _, _, _, _, _, _, _, _, _, _ => rfl
  | m + 1, k, ps, wr, wa, nx, kd, sta, va, sp, po => by
    simp only [rzF, rnG_t h, rzF_t h ln m]
theorem rzG_t {a b : List Int32} (h : tRel a b) : rzG a = rzG b := by
  funext ln wr wa nx kd sta va sp nm po
  simp only [rzG, rmG_t h, rzF_t h]
theorem rgG_t {a b : List Int32} (h : tRel a b) : rgG a = rgG b := by
  funext ln wr wa nx kd sta va sp nm so wy
  simp only [rgG, rmG_t h]
theorem liG_t {a b : List Int32} (h : tRel a b) : liG a = liG b := by
  funext ln wr wa nx kd sta va tld lk hd ht bl sd rt ll lg sv sp nm po so wy
  simp only [liG, adG_t h, rsG_t h, rlG_t h, rpG_t h, rrG_t h, rzG_t h, rgG_t h]
theorem stG_t {a b : List Int32} (h : tRel a b) : stG a = stG b := by
  funext ln nx kd sta va
  simp only [stG, adG_t h]
theorem txF_t {a b : List Int32} (h : tRel a b) (ln : Nat) : ∀ (m l : Nat) (wr wa : Int32) (nx : Nat) (kd sta va tld lk hd ht bl sd : Int32) (rt : Int64) (ll lg sv : List Int32) (sp : Nat) (nm : List Int32) (po : List Int64) (so : Nat) (wy : List Int32), txF a ln m l wr wa nx kd sta va tld lk hd ht bl sd rt ll lg sv sp nm po so wy = txF b ln m l wr wa nx kd sta va tld lk hd ht bl sd rt ll lg sv sp nm po so wy
  | 0, _, _, _, _, _, _, _, _, _, _, _, _, _, _, _, _, _, _, _, _, _, _ => rfl
  | m + 1, l, wr, wa, nx, kd, sta, va, tld, lk, hd, ht, bl, sd, rt, ll, lg, sv, sp, nm, po, so, wy => by
    simp only [txF, stG_t h, liG_t h, txF_t h ln m]
