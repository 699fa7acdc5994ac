/-! Cells that a run doesn't look at: poison in their place. -/
def zPz : zE := .inl (7, 0, [0])
def zisP (e : zE) : Bool := match e with
  | .inl (t, _, _ :: _) => t == 7
  | _ => false
def zpa (q : Nat → zE) (h : zH) : zH := h.mapIdx (fun k e => bif zisP e then q k else e)
theorem zpa_len (q : Nat → zE) (h : zH) : (zpa q h).length = h.length := by unfold zpa; rw [List.length_mapIdx]
theorem zpa_get (q : Nat → zE) (h : zH) (k : Nat) : (zpa q h)[k]? = (h[k]?).map (fun e => bif zisP e then q k else e) := by unfold zpa; rw [List.getElem?_mapIdx]
theorem zpa_at {q : Nat → zE} {h : zH} {a : Nat} {e : zE} (hz : zat h a = some e) (he : zisP e = false) : zat (zpa q h) a = some e := by
  obtain ⟨h1, h2⟩ := zat_inv hz
  unfold zat
  rw [show (a % 2 == 0) = true by simp [h1]]
  show (zpa q h)[a / 2]? = some e
  rw [zpa_get, h2]
  show some (bif zisP e then q (a / 2) else e) = some e
  rw [he]
  rfl
theorem zpa_no {q : Nat → zE} {h : zH} {a : Nat} (hz : zat h a = none) : zat (zpa q h) a = none := by
  unfold zat at hz ⊢
  cases hb : (a % 2 == 0) with
  | false => rfl
  | true =>
    rw [hb] at hz
    have hz : h[a / 2]? = none := hz
    show (zpa q h)[a / 2]? = none
    rw [zpa_get, hz]
    rfl
theorem zpa_set {q : Nat → zE} {h : zH} {k : Nat} {x : zE} (hx : zisP x = false) : zpa q (h.set k x) = (zpa q h).set k x := by
  apply List.ext_getElem?
  intro j
  rw [zpa_get, List.getElem?_set, List.getElem?_set, zpa_get, zpa_len]
  by_cases hj : k = j
  · rw [if_pos hj, if_pos hj]
    by_cases hl : k < h.length
    · rw [if_pos hl]
      show some (bif zisP x then q j else x) = some x
      rw [hx]
      rfl
    · rw [if_neg hl]
      rfl
  · rw [if_neg hj, if_neg hj]
theorem zpa_app {q : Nat → zE} {h : zH} {x : zE} (hx : zisP x = false) : zpa q (h ++ [x]) = zpa q h ++ [x] := by
  unfold zpa
  rw [List.mapIdx_append]
  show _ ++ [bif zisP x then _ else x] = _
  rw [hx]
  rfl
theorem zisP_i {t n : Nat} {l : List Int32} (h : (t == 7) = false) : zisP (.inl (t, n, l)) = false := by
  cases l
  · rfl
  · exact h
def zPA (q : Nat → zE) (o o2 : Option zA) : Prop := match o with
  | none => True
  | some (.inl (pc, ls, st, h)) => o2 = some (.inl (pc, ls, st, zpa q h))
  | some (.inr (.inr (.inr (p, r, e)))) => o2 = some (.inr (.inr (.inr (p, r, e)))) ∧ zisP e = false
  | some (.inr (.inr (.inl v))) => o2 = some (.inr (.inr (.inl v)))
  | some (.inr (.inl v)) => o2 = some (.inr (.inl v))
theorem zPA_b {q : Nat → zE} {b : Bool} {o1 o2 p1 p2 : Option zA} (h1 : zPA q o1 p1) (h2 : zPA q o2 p2) : zPA q (bif b then o1 else o2) (bif b then p1 else p2) := by
  cases b
  · exact h2
  · exact h1
section ZPA
variable {q : Nat → zE} {g : zCt} {ls : zL} {st : List Value} {h : zH}
theorem zldi_p (k : Nat) (n : Nat) : zPA q (zldi k n ls st h) (zldi k n ls st (zpa q h)) := by
  unfold zldi
  split <;> first | exact rfl | exact trivial | exact zPA_b trivial rfl | exact zPA_b rfl rfl | exact zPA_b rfl trivial
theorem zldl_p (k : Nat) (n : Nat) : zPA q (zldl k n ls st h) (zldl k n ls st (zpa q h)) := by
  unfold zldl
  split <;> first | exact rfl | exact trivial | exact zPA_b trivial rfl | exact zPA_b rfl rfl | exact zPA_b rfl trivial
theorem zlda_p (k : Nat) (n : Nat) : zPA q (zlda k n ls st h) (zlda k n ls st (zpa q h)) := by
  unfold zlda
  split <;> first | exact rfl | exact trivial | exact zPA_b trivial rfl | exact zPA_b rfl rfl | exact zPA_b rfl trivial
theorem zsti_p (k : Nat) (n : Nat) : zPA q (zsti k n ls st h) (zsti k n ls st (zpa q h)) := by
  unfold zsti
  split <;> first | exact rfl | exact trivial | exact zPA_b trivial rfl | exact zPA_b rfl rfl | exact zPA_b rfl trivial
theorem zstl_p (k : Nat) (n : Nat) : zPA q (zstl k n ls st h) (zstl k n ls st (zpa q h)) := by
  unfold zstl
  split <;> first | exact rfl | exact trivial | exact zPA_b trivial rfl | exact zPA_b rfl rfl | exact zPA_b rfl trivial
theorem zsta_p (k : Nat) (n : Nat) : zPA q (zsta k n ls st h) (zsta k n ls st (zpa q h)) := by
  unfold zsta
  split <;> first | exact rfl | exact trivial | exact zPA_b trivial rfl | exact zPA_b rfl rfl | exact zPA_b rfl trivial
theorem zii_p (f : Int32 → Int32 → Int32) (n : Nat) : zPA q (zii f n ls st h) (zii f n ls st (zpa q h)) := by
  unfold zii
  split <;> first | exact rfl | exact trivial | exact zPA_b trivial rfl | exact zPA_b rfl rfl | exact zPA_b rfl trivial
theorem ziid_p (f : Int32 → Int32 → Int32) (n : Nat) : zPA q (ziid f n ls st h) (ziid f n ls st (zpa q h)) := by
  unfold ziid
  split <;> first | exact rfl | exact trivial | exact zPA_b trivial rfl | exact zPA_b rfl rfl | exact zPA_b rfl trivial
theorem zll_p (f : Int64 → Int64 → Int64) (n : Nat) : zPA q (zll f n ls st h) (zll f n ls st (zpa q h)) := by
  unfold zll
  split <;> first | exact rfl | exact trivial | exact zPA_b trivial rfl | exact zPA_b rfl rfl | exact zPA_b rfl trivial
theorem zlld_p (f : Int64 → Int64 → Int64) (n : Nat) : zPA q (zlld f n ls st h) (zlld f n ls st (zpa q h)) := by
  unfold zlld
  split <;> first | exact rfl | exact trivial | exact zPA_b trivial rfl | exact zPA_b rfl rfl | exact zPA_b rfl trivial
theorem zlsh_p (f : Int64 → Int32 → Int64) (n : Nat) : zPA q (zlsh f n ls st h) (zlsh f n ls st (zpa q h)) := by
  unfold zlsh
  split <;> first | exact rfl | exact trivial | exact zPA_b trivial rfl | exact zPA_b rfl rfl | exact zPA_b rfl trivial
theorem zi1_p (f : Int32 → Value) (n : Nat) : zPA q (zi1 f n ls st h) (zi1 f n ls st (zpa q h)) := by
  unfold zi1
  split <;> first | exact rfl | exact trivial | exact zPA_b trivial rfl | exact zPA_b rfl rfl | exact zPA_b rfl trivial
theorem zl1_p (f : Int64 → Value) (n : Nat) : zPA q (zl1 f n ls st h) (zl1 f n ls st (zpa q h)) := by
  unfold zl1
  split <;> first | exact rfl | exact trivial | exact zPA_b trivial rfl | exact zPA_b rfl rfl | exact zPA_b rfl trivial
theorem zif0_p (c : ClassFile.Cond) (k : Nat) (n : Nat) : zPA q (zif0 c k n ls st h) (zif0 c k n ls st (zpa q h)) := by
  unfold zif0
  split <;> first | exact rfl | exact trivial | exact zPA_b trivial rfl | exact zPA_b rfl rfl | exact zPA_b rfl trivial
theorem zif2_p (c : ClassFile.Cond) (k : Nat) (n : Nat) : zPA q (zif2 c k n ls st h) (zif2 c k n ls st (zpa q h)) := by
  unfold zif2
  split <;> first | exact rfl | exact trivial | exact zPA_b trivial rfl | exact zPA_b rfl rfl | exact zPA_b rfl trivial
theorem zobji_p (n : Nat) : zPA q (zobji n ls st h) (zobji n ls st (zpa q h)) := by
  unfold zobji
  split <;> first | exact rfl | exact trivial | exact zPA_b trivial rfl | exact zPA_b rfl rfl | exact zPA_b rfl trivial
theorem zdup2_p (n : Nat) : zPA q (zdup2 n ls st h) (zdup2 n ls st (zpa q h)) := by
  unfold zdup2
  split <;> first | exact rfl | exact trivial | exact zPA_b trivial rfl | exact zPA_b rfl rfl | exact zPA_b rfl trivial
theorem zdup_p (n : Nat) : zPA q (zdup n ls st h) (zdup n ls st (zpa q h)) := by
  unfold zdup
  split <;> first | exact rfl | exact trivial | exact zPA_b trivial rfl | exact zPA_b rfl rfl | exact zPA_b rfl trivial
theorem zpop_p (n : Nat) : zPA q (zpop n ls st h) (zpop n ls st (zpa q h)) := by
  unfold zpop
  split <;> first | exact rfl | exact trivial | exact zPA_b trivial rfl | exact zPA_b rfl rfl | exact zPA_b rfl trivial
theorem zpop2_p (n : Nat) : zPA q (zpop2 n ls st h) (zpop2 n ls st (zpa q h)) := by
  unfold zpop2
  split <;> first | exact rfl | exact trivial | exact zPA_b trivial rfl | exact zPA_b rfl rfl | exact zPA_b rfl trivial
theorem ztab_p (K : zK) (lo hi : Int) (tg : List Nat) : zPA q (ztab K lo hi tg ls st h) (ztab K lo hi tg ls st (zpa q h)) := by
  unfold ztab
  split
  · refine zPA_b rfl ?_
    split <;> first | exact rfl | exact trivial
  · exact trivial
theorem ziald_p (n : Nat) : zPA q (ziald g n ls st h) (ziald g n ls st (zpa q h)) := by
  unfold ziald
  split
  · next i a r =>
    (try dsimp only)
    cases hz : zat h a with
    | none =>
      rw [zpa_no hz]
      (try dsimp only)
      split <;> first | exact zPA_b rfl trivial | exact trivial
    | some e =>
      (try dsimp only)
      split
      · next hh => cases hh; rw [zpa_at hz (zisP_i rfl)]; exact zPA_b rfl trivial
      · exact trivial
      · next hh => cases hh
  · exact trivial
theorem zalen_p (n : Nat) : zPA q (zalen g n ls st h) (zalen g n ls st (zpa q h)) := by
  unfold zalen
  split
  · next a r =>
    (try dsimp only)
    cases hz : zat h a with
    | none =>
      rw [zpa_no hz]
      (try dsimp only)
      split <;> first | exact rfl | exact trivial
    | some e =>
      (try dsimp only)
      split
      · next hh => cases hh; rw [zpa_at hz (zisP_i rfl)]; exact rfl
      · next hh => cases hh; rw [zpa_at hz (zisP_i rfl)]; exact rfl
      · next hh => cases hh; rw [zpa_at hz rfl]; exact rfl
      · exact trivial
      · next hh => cases hh
  · exact trivial
theorem zbald_p (n : Nat) : zPA q (zbald n ls st h) (zbald n ls st (zpa q h)) := by
  unfold zbald
  split
  · (try dsimp only)
    split
    all_goals first | exact trivial | skip
    all_goals (rename_i hz; first | rw [zpa_at hz (zisP_i rfl)] | rw [zpa_at hz rfl])
    all_goals (try dsimp only)
    all_goals first | exact zPA_b rfl trivial | (refine zPA_b ?_ trivial; show _ = some _; rw [zpa_set (zisP_i rfl)]; rfl) | (refine zPA_b ?_ trivial; show _ = some _; rw [zpa_set rfl]; rfl) | (refine zPA_b ?_ trivial; split <;> first | exact rfl | exact trivial)
  · exact trivial
theorem zlald_p (n : Nat) : zPA q (zlald n ls st h) (zlald n ls st (zpa q h)) := by
  unfold zlald
  split
  · (try dsimp only)
    split
    all_goals first | exact trivial | skip
    all_goals (rename_i hz; first | rw [zpa_at hz (zisP_i rfl)] | rw [zpa_at hz rfl])
    all_goals (try dsimp only)
    all_goals first | exact zPA_b rfl trivial | (refine zPA_b ?_ trivial; show _ = some _; rw [zpa_set (zisP_i rfl)]; rfl) | (refine zPA_b ?_ trivial; show _ = some _; rw [zpa_set rfl]; rfl) | (refine zPA_b ?_ trivial; split <;> first | exact rfl | exact trivial)
  · exact trivial
theorem zaald_p (n : Nat) : zPA q (zaald n ls st h) (zaald n ls st (zpa q h)) := by
  unfold zaald
  split
  · (try dsimp only)
    split
    all_goals first | exact trivial | skip
    all_goals (rename_i hz; first | rw [zpa_at hz (zisP_i rfl)] | rw [zpa_at hz rfl])
    all_goals (try dsimp only)
    all_goals first | exact zPA_b rfl trivial | (refine zPA_b ?_ trivial; show _ = some _; rw [zpa_set (zisP_i rfl)]; rfl) | (refine zPA_b ?_ trivial; show _ = some _; rw [zpa_set rfl]; rfl) | (refine zPA_b ?_ trivial; split <;> first | exact rfl | exact trivial)
  · exact trivial
theorem ziast_p (n : Nat) : zPA q (ziast n ls st h) (ziast n ls st (zpa q h)) := by
  unfold ziast
  split
  · (try dsimp only)
    split
    all_goals first | exact trivial | skip
    all_goals (rename_i hz; first | rw [zpa_at hz (zisP_i rfl)] | rw [zpa_at hz rfl])
    all_goals (try dsimp only)
    all_goals first | exact zPA_b rfl trivial | (refine zPA_b ?_ trivial; show _ = some _; rw [zpa_set (zisP_i rfl)]; rfl) | (refine zPA_b ?_ trivial; show _ = some _; rw [zpa_set rfl]; rfl) | (refine zPA_b ?_ trivial; split <;> first | exact rfl | exact trivial)
  · exact trivial
theorem zbast_p (n : Nat) : zPA q (zbast n ls st h) (zbast n ls st (zpa q h)) := by
  unfold zbast
  split
  · (try dsimp only)
    split
    all_goals first | exact trivial | skip
    all_goals (rename_i hz; first | rw [zpa_at hz (zisP_i rfl)] | rw [zpa_at hz rfl])
    all_goals (try dsimp only)
    all_goals first | exact zPA_b rfl trivial | (refine zPA_b ?_ trivial; show _ = some _; rw [zpa_set (zisP_i rfl)]; rfl) | (refine zPA_b ?_ trivial; show _ = some _; rw [zpa_set rfl]; rfl) | (refine zPA_b ?_ trivial; split <;> first | exact rfl | exact trivial)
  · exact trivial
theorem zlast_p (n : Nat) : zPA q (zlast n ls st h) (zlast n ls st (zpa q h)) := by
  unfold zlast
  split
  · (try dsimp only)
    split
    all_goals first | exact trivial | skip
    all_goals (rename_i hz; first | rw [zpa_at hz (zisP_i rfl)] | rw [zpa_at hz rfl])
    all_goals (try dsimp only)
    all_goals first | exact zPA_b rfl trivial | (refine zPA_b ?_ trivial; show _ = some _; rw [zpa_set (zisP_i rfl)]; rfl) | (refine zPA_b ?_ trivial; show _ = some _; rw [zpa_set rfl]; rfl) | (refine zPA_b ?_ trivial; split <;> first | exact rfl | exact trivial)
  · exact trivial
theorem zget_p (ci k n : Nat) : zPA q (zget ci k n ls st h) (zget ci k n ls st (zpa q h)) := by
  unfold zget
  split
  · (try dsimp only)
    split
    all_goals first | exact trivial | skip
    all_goals (rename_i hz; first | rw [zpa_at hz (zisP_i rfl)] | rw [zpa_at hz rfl])
    all_goals (try dsimp only)
    all_goals first | exact zPA_b rfl trivial | (refine zPA_b ?_ trivial; show _ = some _; rw [zpa_set (zisP_i rfl)]; rfl) | (refine zPA_b ?_ trivial; show _ = some _; rw [zpa_set rfl]; rfl) | (refine zPA_b ?_ trivial; split <;> first | exact rfl | exact trivial)
  · exact trivial
theorem zput_p (ci k tt n : Nat) : zPA q (zput ci k tt n ls st h) (zput ci k tt n ls st (zpa q h)) := by
  unfold zput
  split
  · refine zPA_b ?_ trivial
    split
    · rename_i hz
      rw [zpa_at hz rfl]
      (try dsimp only)
      refine zPA_b ?_ trivial
      show _ = some _
      rw [zpa_set rfl]
      rfl
    · exact trivial
  · exact trivial
theorem zaast_p (n : Nat) : zPA q (zaast n ls st h) (zaast n ls st (zpa q h)) := by
  unfold zaast
  split
  · (try dsimp only)
    split
    · rename_i hz1 hz2
      rw [zpa_at hz1 rfl, zpa_at hz2 rfl]
      (try dsimp only)
      refine zPA_b ?_ trivial
      show _ = some _
      rw [zpa_set rfl]
      rfl
    · exact trivial
  · exact trivial
theorem zcopy_p (n : Nat) : zPA q (zcopy n ls st h) (zcopy n ls st (zpa q h)) := by
  unfold zcopy
  split
  · refine zPA_b trivial ?_
    split
    · rename_i hz1 hz2
      rw [zpa_at hz1 (zisP_i rfl), zpa_at hz2 (zisP_i rfl)]
      (try dsimp only)
      refine zPA_b ?_ trivial
      show _ = some _
      rw [zpa_set (zisP_i rfl)]
      rfl
    · rename_i hz1 hz2
      rw [zpa_at hz1 rfl, zpa_at hz2 rfl]
      (try dsimp only)
      refine zPA_b ?_ trivial
      show _ = some _
      rw [zpa_set rfl]
      rfl
    · exact trivial
  · exact trivial
theorem zcall_p (y b : Nat) : zPA q (zcall y b st) (zcall y b st) := by
  unfold zcall
  exact zPA_b rfl trivial
theorem zrecv_p {ci : Nat} {as : List Value} (hz : zrecv ci as h = true) : zrecv ci as (zpa q h) = true := by
  unfold zrecv at hz ⊢
  split at hz
  · (try dsimp only)
    split at hz
    · rename_i hh
      rw [zpa_at hh rfl]
      exact hz
    · cases hz
  · cases hz
theorem zcallV_p (y b ci : Nat) : zPA q (zcallV y b ci st h) (zcallV y b ci st (zpa q h)) := by
  unfold zcallV
  cases hz : zrecv ci (st.take (b % 64)).reverse h with
  | false => exact trivial
  | true => rw [zrecv_p hz]; exact zcall_p y b
theorem zcallI_p (y b : Nat) : zPA q (zcallI y b st) (zcallI y b st) := by
  unfold zcallI
  split
  · exact zcall_p y b
  · exact trivial
theorem znewa_p (k n : Nat) : zPA q (znewa k n st) (znewa k n st) := by
  unfold znewa
  split
  · refine zPA_b trivial ⟨rfl, ?_⟩
    cases (k == 3) <;> rfl
  · exact trivial
theorem zanew_p (n : Nat) : zPA q (zanew n st) (zanew n st) := by
  unfold zanew
  split
  · exact zPA_b trivial ⟨rfl, rfl⟩
  · exact trivial
theorem zret_p (n : Nat) : zPA q (zret n st) (zret n st) := by
  unfold zret
  split
  · exact zPA_b rfl trivial
  · exact trivial
theorem zlret_p : zPA q (zlret st) (zlret st) := by
  unfold zlret
  split <;> first | exact rfl | exact trivial
theorem zaret_p : zPA q (zaret st) (zaret st) := by
  unfold zaret
  split <;> first | exact rfl | exact trivial
theorem zvret_p : zPA q (zvret st) (zvret st) := by
  unfold zvret
  split <;> first | exact rfl | exact trivial
theorem zins_p (F : zFs) (tg : List Nat) (i : Instr) (K : zK) (len pc : Nat) : zPA q (zins g F tg i K len pc ls st h) (zins g F tg i K len pc ls st (zpa q h)) := by
  cases i
  case iinc k _ =>
    show zPA q (match zlv ls k, K.2.2 with | some (.int x), .int d => zs (pc + 3) (zst1 ls k (.int (x + d))) st h | _, _ => none) (match zlv ls k, K.2.2 with | some (.int x), .int d => zs (pc + 3) (zst1 ls k (.int (x + d))) st (zpa q h) | _, _ => none)
    split <;> first | exact rfl | exact trivial
  case lcmp =>
    show zPA q (match st with | .long y :: .long x :: r => zs (pc + 1) ls (.int (lg_cmp x y) :: r) h | _ => none) (match st with | .long y :: .long x :: r => zs (pc + 1) ls (.int (lg_cmp x y) :: r) (zpa q h) | _ => none)
    split <;> first | exact rfl | exact trivial
  case putfield _ =>
    show zPA q (match K.2.2 with | .retAddr t => zput K.1 K.2.1 t pc ls st h | _ => none) (match K.2.2 with | .retAddr t => zput K.1 K.2.1 t pc ls st (zpa q h) | _ => none)
    split <;> first | exact zput_p _ _ _ _ | exact trivial
  case invokevirtual _ =>
    show zPA q (match K.2.2 with | .retAddr ci => zcallV K.1 K.2.1 ci st h | _ => none) (match K.2.2 with | .retAddr ci => zcallV K.1 K.2.1 ci st (zpa q h) | _ => none)
    split <;> first | exact zcallV_p _ _ _ | exact trivial
  case invokestatic _ =>
    show zPA q (match K.2.2 with | .retAddr _ => zcopy (pc + 3) ls st h | .int _ => zcall K.1 K.2.1 st | _ => none) (match K.2.2 with | .retAddr _ => zcopy (pc + 3) ls st (zpa q h) | .int _ => zcall K.1 K.2.1 st | _ => none)
    split <;> first | exact zcopy_p _ | exact zcall_p _ _ | exact trivial
  case invokespecial _ =>
    show zPA q (match K.2.2 with | .null => zobji pc ls st h | .int _ => zcallI K.1 K.2.1 st | _ => none) (match K.2.2 with | .null => zobji pc ls st (zpa q h) | .int _ => zcallI K.1 K.2.1 st | _ => none)
    split <;> first | exact zobji_p _ | exact zcallI_p _ _ | exact trivial
  all_goals first | exact trivial | exact rfl | exact zldi_p _ _ | exact zldl_p _ _ | exact zlda_p _ _ | exact zsti_p _ _ | exact zstl_p _ _ | exact zsta_p _ _ | exact zii_p _ _ | exact ziid_p _ _ | exact zll_p _ _ | exact zlld_p _ _ | exact zlsh_p _ _ | exact zi1_p _ _ | exact zl1_p _ _ | exact zif0_p _ _ _ | exact zif2_p _ _ _ | exact ztab_p _ _ _ _ | exact ziald_p _ | exact zbald_p _ | exact zlald_p _ | exact zaald_p _ | exact ziast_p _ | exact zbast_p _ | exact zlast_p _ | exact zaast_p _ | exact zalen_p _ | exact zget_p _ _ _ | exact zdup_p _ | exact zdup2_p _ | exact zpop_p _ | exact zpop2_p _ | exact ⟨rfl, rfl⟩ | exact znewa_p _ _ | exact zanew_p _ | exact zret_p _ | exact zlret_p | exact zaret_p | exact zvret_p
end ZPA
theorem zrun_p {g : zCt} {F : zFs} {P : zCd} (q : Nat → zE) : ∀ {n y pc : Nat} {ls : zL} {st : List Value} {h : zH} {dc ds : Nat} {v : Option Value} {h2 : zH} {d1 s1 : Nat}, zrun g F P n y pc ls st h dc ds = some (v, h2, d1, s1) → zrun g F P n y pc ls st (zpa q h) dc ds = some (v, zpa q h2, d1, s1) := by
  intro n
  induction n with
  | zero => intro y pc ls st h dc ds v h2 d1 s1 hz; cases hz
  | succ n ih =>
    intro y pc ls st h dc ds v h2 d1 s1 hz
    unfold zrun at hz ⊢
    cases hP : P y pc with
    | none => rw [hP] at hz; cases hz
    | some w =>
      obtain ⟨i, len, K, tg⟩ := w
      rw [hP] at hz
      (try dsimp only at hz ⊢)
      have hl := zins_p (q := q) (g := g) (ls := ls) (st := st) (h := h) F tg i K len pc
      cases hi : zins g F tg i K len pc ls st h with
      | none => rw [hi] at hz; cases hz
      | some x =>
        rw [hi] at hz hl
        (try dsimp only at hz ⊢)
        match x, hz, hl with
        | .inl (pc2, ls2, st2, h3), hz, hl => rw [show _ = _ from hl]; exact ih hz
        | .inr (.inl (y2, as, rest)), hz, hl =>
          rw [show _ = _ from hl]
          (try dsimp only at hz ⊢)
          cases h1 : zrun g F P n y2 0 (lv_args 0 as) [] h 0 0 with
          | none => rw [h1] at hz; cases hz
          | some w =>
            obtain ⟨v1, h3, d2, s2⟩ := w
            rw [h1] at hz
            rw [ih h1]
            exact ih hz
        | .inr (.inr (.inl w)), hz, hl =>
          rw [show _ = _ from hl]
          have hz : some (w, h, dc, ds) = some (v, h2, d1, s1) := hz
          cases hz
          rfl
        | .inr (.inr (.inr (pc2, rest, e))), hz, hl =>
          have hl : _ = _ ∧ _ := hl
          rw [hl.1]
          (try dsimp only at hz ⊢)
          rw [zpa_len, ← zpa_app hl.2]
          exact ih hz
theorem zT_pa {g : zCt} {F : zFs} {P : zCd} {y pc : Nat} {ls : zL} {st : List Value} {h : zH} {dc ds : Nat} {v : Option Value} {h2 : zH} {d1 s1 : Nat} (q : Nat → zE) (hz : zT g F P y pc ls st h dc ds (v, h2, d1, s1)) : zT g F P y pc ls st (zpa q h) dc ds (v, zpa q h2, d1, s1) := by
  obtain ⟨n, hn⟩ := hz
  exact ⟨n, zrun_p q hn⟩
