/-! Locals by what they hold: a run goes on alike when more is known; rules over a heap that is a variable. -/
noncomputable def zNd (ls : zL) : Prop := (ls.map (fun q => q.1)).Nodup
/-- all that ls holds, ls2 holds -/
noncomputable def zSub (ls ls2 : zL) : Prop := ∀ i v, zlv ls i = some v → zlv ls2 i = some v
theorem zlv_cons (q : Nat × Value) (l : zL) (i : Nat) : zlv (q :: l) i = if q.1 = i then some q.2 else zlv l i := by
  show (bif q.1 == i then some q.2 else zlv l i) = _
  by_cases h : q.1 = i
  · rw [if_pos h, show (q.1 == i) = true by simp [h]]; rfl
  · rw [if_neg h, show (q.1 == i) = false by simp [h]]; rfl
theorem zlv_filter {p : Nat × Value → Bool} : ∀ {l : zL} {i : Nat} {w : Value}, zlv l i = some w → p (i, w) = true → zlv (l.filter p) i = some w
  | [], i, w, h, _ => by cases h
  | q :: l, i, w, h, hp => by
    rw [zlv_cons] at h
    by_cases hq : q.1 = i
    · rw [if_pos hq] at h
      cases h
      have e : q = (i, q.2) := by rw [← hq]
      rw [List.filter_cons, if_pos (by rw [e]; exact hp), zlv_cons, if_pos hq]
    · rw [if_neg hq] at h
      rw [List.filter_cons]
      by_cases hpq : p q = true
      · rw [if_pos hpq, zlv_cons, if_neg hq]
        exact zlv_filter h hp
      · rw [if_neg hpq]
        exact zlv_filter h hp
theorem zlv_mem_nd : ∀ {l : zL} {i : Nat} {w : Value}, zNd l → (i, w) ∈ l → zlv l i = some w
  | [], i, w, _, h => by cases h
  | q :: l, i, w, hn, h => by
    have hn2 : q.1 ∉ l.map (fun q => q.1) ∧ zNd l := by
      have := List.nodup_cons.mp (show (q.1 :: l.map (fun q => q.1)).Nodup from hn)
      exact this
    rw [zlv_cons]
    rcases List.mem_cons.mp h with rfl | h
    · rw [if_pos rfl]
    · rw [if_neg (fun e => hn2.1 (by rw [e]; exact List.mem_map.mpr ⟨(i, w), h, rfl⟩))]
      exact zlv_mem_nd hn2.2 h
theorem zNd_filter {p : Nat × Value → Bool} {l : zL} (h : zNd l) : zNd (l.filter p) := by
  unfold zNd at h ⊢
  exact h.sublist (List.filter_sublist.map _)
theorem zst1_nd {l : zL} (h : zNd l) (i : Nat) (v : Value) : zNd (zst1 l i v) := by
  unfold zst1
  refine List.nodup_cons.mpr ⟨?_, zNd_filter h⟩
  intro hm
  obtain ⟨q, hq, he⟩ := List.mem_map.mp hm
  have := (List.mem_filter.mp hq).2
  dsimp only at he
  simp [he] at this
theorem zst2_nd {l : zL} (h : zNd l) (i : Nat) (v : Value) : zNd (zst2 l i v) := by
  unfold zst2
  refine List.nodup_cons.mpr ⟨?_, zNd_filter h⟩
  intro hm
  obtain ⟨q, hq, he⟩ := List.mem_map.mp hm
  have := (List.mem_filter.mp hq).2
  dsimp only at he
  simp [he] at this
theorem zlv_filter_inv {p : Nat × Value → Bool} {l : zL} {i : Nat} {w : Value} (hn : zNd l) (h : zlv (l.filter p) i = some w) : zlv l i = some w ∧ p (i, w) = true := by
  have hm := List.mem_filter.mp (zlv_mem h)
  exact ⟨zlv_mem_nd hn hm.1, hm.2⟩
theorem zst1_sub {l l2 : zL} (hn : zNd l) (h : zSub l l2) (k : Nat) (v : Value) : zSub (zst1 l k v) (zst1 l2 k v) := by
  intro i w hw
  unfold zst1 at hw ⊢
  rw [zlv_cons] at hw ⊢
  by_cases hk : k = i
  · rw [if_pos hk] at hw ⊢; exact hw
  · rw [if_neg hk] at hw ⊢
    obtain ⟨h1, h2⟩ := zlv_filter_inv hn hw
    exact zlv_filter (h i w h1) h2
theorem zst2_sub {l l2 : zL} (hn : zNd l) (h : zSub l l2) (k : Nat) (v : Value) : zSub (zst2 l k v) (zst2 l2 k v) := by
  intro i w hw
  unfold zst2 at hw ⊢
  rw [zlv_cons] at hw ⊢
  by_cases hk : k = i
  · rw [if_pos hk] at hw ⊢; exact hw
  · rw [if_neg hk] at hw ⊢
    obtain ⟨h1, h2⟩ := zlv_filter_inv hn hw
    exact zlv_filter (h i w h1) h2
section ZSUB
variable {g : zCt} {F : zFs} {tg : List Nat} {K : zK} {len pc k n : Nat} {ls l2 : zL} {st : List Value} {h : zH}
/-- a step with more locals known is the same step with more locals known -/
noncomputable def zLift (x : Option zA) (ls l2 : zL) (x2 : Option zA) : Prop := match x with
  | some (.inl (pc2, ls3, st2, h2)) => ∃ l3, x2 = some (.inl (pc2, l3, st2, h2)) ∧ zNd ls3 ∧ zSub ls3 l3
  | some r => x2 = some r
  | none => True
theorem zLift_zs (hn : zNd ls) (hs : zSub ls l2) (pc : Nat) (st : List Value) (h : zH) : zLift (zs pc ls st h) ls l2 (zs pc l2 st h) := ⟨l2, rfl, hn, hs⟩
theorem zLift_ld (hn : zNd ls) (hs : zSub ls l2) : zLift (zldi k n ls st h) ls l2 (zldi k n l2 st h) ∧ zLift (zldl k n ls st h) ls l2 (zldl k n l2 st h) ∧ zLift (zlda k n ls st h) ls l2 (zlda k n l2 st h) := by
  cases hv : zlv ls k with
  | none => refine ⟨?_, ?_, ?_⟩ <;> (first | unfold zldi | unfold zldl | unfold zlda) <;> rw [hv] <;> exact trivial
  | some v =>
    have h2 := hs _ _ hv
    refine ⟨?_, ?_, ?_⟩
    · unfold zldi; rw [hv, h2]
      cases v <;> first | exact trivial | exact ⟨l2, rfl, hn, hs⟩
    · unfold zldl; rw [hv, h2]
      cases v <;> first | exact trivial | exact ⟨l2, rfl, hn, hs⟩
    · unfold zlda; rw [hv, h2]
      cases v <;> first | exact trivial | exact ⟨l2, rfl, hn, hs⟩
theorem zLift_st (hn : zNd ls) (hs : zSub ls l2) : zLift (zsti k n ls st h) ls l2 (zsti k n l2 st h) ∧ zLift (zstl k n ls st h) ls l2 (zstl k n l2 st h) ∧ zLift (zsta k n ls st h) ls l2 (zsta k n l2 st h) := by
  refine ⟨?_, ?_, ?_⟩
  · unfold zsti
    split
    · exact ⟨_, rfl, zst1_nd hn _ _, zst1_sub hn hs _ _⟩
    · exact trivial
  · unfold zstl
    split
    · exact ⟨_, rfl, zst2_nd hn _ _, zst2_sub hn hs _ _⟩
    · exact trivial
  · unfold zsta
    split
    · exact ⟨_, rfl, zst1_nd hn _ _, zst1_sub hn hs _ _⟩
    · exact ⟨_, rfl, zst1_nd hn _ _, zst1_sub hn hs _ _⟩
    · exact trivial
end ZSUB
theorem zii_l {ls l2 : zL} (hn : zNd ls) (hs : zSub ls l2) (f : Int32 → Int32 → Int32) (pc : Nat)  (st : List Value) (h : zH) : zLift (zii f pc ls st h) ls l2 (zii f pc l2 st h) := by
  unfold zii
  (try simp only [Bool.cond_eq_ite])
  (repeat' split) <;> first | exact trivial | exact zLift_zs hn hs _ _ _ | (simp_all [zLift, zs]; done)
theorem ziid_l {ls l2 : zL} (hn : zNd ls) (hs : zSub ls l2) (f : Int32 → Int32 → Int32) (pc : Nat)  (st : List Value) (h : zH) : zLift (ziid f pc ls st h) ls l2 (ziid f pc l2 st h) := by
  unfold ziid
  (try simp only [Bool.cond_eq_ite])
  (repeat' split) <;> first | exact trivial | exact zLift_zs hn hs _ _ _ | (simp_all [zLift, zs]; done)
theorem zll_l {ls l2 : zL} (hn : zNd ls) (hs : zSub ls l2) (f : Int64 → Int64 → Int64) (pc : Nat)  (st : List Value) (h : zH) : zLift (zll f pc ls st h) ls l2 (zll f pc l2 st h) := by
  unfold zll
  (try simp only [Bool.cond_eq_ite])
  (repeat' split) <;> first | exact trivial | exact zLift_zs hn hs _ _ _ | (simp_all [zLift, zs]; done)
theorem zlld_l {ls l2 : zL} (hn : zNd ls) (hs : zSub ls l2) (f : Int64 → Int64 → Int64) (pc : Nat)  (st : List Value) (h : zH) : zLift (zlld f pc ls st h) ls l2 (zlld f pc l2 st h) := by
  unfold zlld
  (try simp only [Bool.cond_eq_ite])
  (repeat' split) <;> first | exact trivial | exact zLift_zs hn hs _ _ _ | (simp_all [zLift, zs]; done)
theorem zlsh_l {ls l2 : zL} (hn : zNd ls) (hs : zSub ls l2) (f : Int64 → Int32 → Int64) (pc : Nat)  (st : List Value) (h : zH) : zLift (zlsh f pc ls st h) ls l2 (zlsh f pc l2 st h) := by
  unfold zlsh
  (try simp only [Bool.cond_eq_ite])
  (repeat' split) <;> first | exact trivial | exact zLift_zs hn hs _ _ _ | (simp_all [zLift, zs]; done)
theorem zi1_l {ls l2 : zL} (hn : zNd ls) (hs : zSub ls l2) (f : Int32 → Value) (pc : Nat)  (st : List Value) (h : zH) : zLift (zi1 f pc ls st h) ls l2 (zi1 f pc l2 st h) := by
  unfold zi1
  (try simp only [Bool.cond_eq_ite])
  (repeat' split) <;> first | exact trivial | exact zLift_zs hn hs _ _ _ | (simp_all [zLift, zs]; done)
theorem zl1_l {ls l2 : zL} (hn : zNd ls) (hs : zSub ls l2) (f : Int64 → Value) (pc : Nat)  (st : List Value) (h : zH) : zLift (zl1 f pc ls st h) ls l2 (zl1 f pc l2 st h) := by
  unfold zl1
  (try simp only [Bool.cond_eq_ite])
  (repeat' split) <;> first | exact trivial | exact zLift_zs hn hs _ _ _ | (simp_all [zLift, zs]; done)
theorem zif0_l {ls l2 : zL} (hn : zNd ls) (hs : zSub ls l2) (c : ClassFile.Cond) (t n : Nat)  (st : List Value) (h : zH) : zLift (zif0 c t n ls st h) ls l2 (zif0 c t n l2 st h) := by
  unfold zif0
  (try simp only [Bool.cond_eq_ite])
  (repeat' split) <;> first | exact trivial | exact zLift_zs hn hs _ _ _ | (simp_all [zLift, zs]; done)
theorem zif2_l {ls l2 : zL} (hn : zNd ls) (hs : zSub ls l2) (c : ClassFile.Cond) (t n : Nat)  (st : List Value) (h : zH) : zLift (zif2 c t n ls st h) ls l2 (zif2 c t n l2 st h) := by
  unfold zif2
  (try simp only [Bool.cond_eq_ite])
  (repeat' split) <;> first | exact trivial | exact zLift_zs hn hs _ _ _ | (simp_all [zLift, zs]; done)
theorem ziald_l {ls l2 : zL} (hn : zNd ls) (hs : zSub ls l2) (g : zCt) (pc : Nat)  (st : List Value) (h : zH) : zLift (ziald g pc ls st h) ls l2 (ziald g pc l2 st h) := by
  unfold ziald
  (try simp only [Bool.cond_eq_ite])
  (repeat' split) <;> first | exact trivial | exact zLift_zs hn hs _ _ _ | (simp_all [zLift, zs]; done)
theorem zbald_l {ls l2 : zL} (hn : zNd ls) (hs : zSub ls l2) (pc : Nat)  (st : List Value) (h : zH) : zLift (zbald pc ls st h) ls l2 (zbald pc l2 st h) := by
  unfold zbald
  (try simp only [Bool.cond_eq_ite])
  (repeat' split) <;> first | exact trivial | exact zLift_zs hn hs _ _ _ | (simp_all [zLift, zs]; done)
theorem zlald_l {ls l2 : zL} (hn : zNd ls) (hs : zSub ls l2) (pc : Nat)  (st : List Value) (h : zH) : zLift (zlald pc ls st h) ls l2 (zlald pc l2 st h) := by
  unfold zlald
  (try simp only [Bool.cond_eq_ite])
  (repeat' split) <;> first | exact trivial | exact zLift_zs hn hs _ _ _ | (simp_all [zLift, zs]; done)
theorem zaald_l {ls l2 : zL} (hn : zNd ls) (hs : zSub ls l2) (pc : Nat)  (st : List Value) (h : zH) : zLift (zaald pc ls st h) ls l2 (zaald pc l2 st h) := by
  unfold zaald
  (try simp only [Bool.cond_eq_ite])
  (repeat' split) <;> first | exact trivial | exact zLift_zs hn hs _ _ _ | (simp_all [zLift, zs]; done)
theorem ziast_l {ls l2 : zL} (hn : zNd ls) (hs : zSub ls l2) (pc : Nat)  (st : List Value) (h : zH) : zLift (ziast pc ls st h) ls l2 (ziast pc l2 st h) := by
  unfold ziast
  (try simp only [Bool.cond_eq_ite])
  (repeat' split) <;> first | exact trivial | exact zLift_zs hn hs _ _ _ | (simp_all [zLift, zs]; done)
theorem zbast_l {ls l2 : zL} (hn : zNd ls) (hs : zSub ls l2) (pc : Nat)  (st : List Value) (h : zH) : zLift (zbast pc ls st h) ls l2 (zbast pc l2 st h) := by
  unfold zbast
  (try simp only [Bool.cond_eq_ite])
  (repeat' split) <;> first | exact trivial | exact zLift_zs hn hs _ _ _ | (simp_all [zLift, zs]; done)
theorem zlast_l {ls l2 : zL} (hn : zNd ls) (hs : zSub ls l2) (pc : Nat)  (st : List Value) (h : zH) : zLift (zlast pc ls st h) ls l2 (zlast pc l2 st h) := by
  unfold zlast
  (try simp only [Bool.cond_eq_ite])
  (repeat' split) <;> first | exact trivial | exact zLift_zs hn hs _ _ _ | (simp_all [zLift, zs]; done)
theorem zaast_l {ls l2 : zL} (hn : zNd ls) (hs : zSub ls l2) (pc : Nat)  (st : List Value) (h : zH) : zLift (zaast pc ls st h) ls l2 (zaast pc l2 st h) := by
  unfold zaast
  (try simp only [Bool.cond_eq_ite])
  (repeat' split) <;> first | exact trivial | exact zLift_zs hn hs _ _ _ | (simp_all [zLift, zs]; done)
theorem zalen_l {ls l2 : zL} (hn : zNd ls) (hs : zSub ls l2) (g : zCt) (pc : Nat)  (st : List Value) (h : zH) : zLift (zalen g pc ls st h) ls l2 (zalen g pc l2 st h) := by
  unfold zalen
  (try simp only [Bool.cond_eq_ite])
  (repeat' split) <;> first | exact trivial | exact zLift_zs hn hs _ _ _ | (simp_all [zLift, zs]; done)
theorem zget_l {ls l2 : zL} (hn : zNd ls) (hs : zSub ls l2) (ci k pc : Nat)  (st : List Value) (h : zH) : zLift (zget ci k pc ls st h) ls l2 (zget ci k pc l2 st h) := by
  unfold zget
  (try simp only [Bool.cond_eq_ite])
  (repeat' split) <;> first | exact trivial | exact zLift_zs hn hs _ _ _ | (simp_all [zLift, zs]; done)
theorem zput_l {ls l2 : zL} (hn : zNd ls) (hs : zSub ls l2) (ci k t pc : Nat)  (st : List Value) (h : zH) : zLift (zput ci k t pc ls st h) ls l2 (zput ci k t pc l2 st h) := by
  unfold zput
  (try simp only [Bool.cond_eq_ite])
  (repeat' split) <;> first | exact trivial | exact zLift_zs hn hs _ _ _ | (simp_all [zLift, zs]; done)
theorem ztab_l {ls l2 : zL} (hn : zNd ls) (hs : zSub ls l2) (K : zK) (lo hi : Int) (tg : List Nat)  (st : List Value) (h : zH) : zLift (ztab K lo hi tg ls st h) ls l2 (ztab K lo hi tg l2 st h) := by
  unfold ztab
  (try simp only [Bool.cond_eq_ite])
  (repeat' split) <;> first | exact trivial | exact zLift_zs hn hs _ _ _ | (simp_all [zLift, zs]; done)
theorem zcopy_l {ls l2 : zL} (hn : zNd ls) (hs : zSub ls l2) (n : Nat)  (st : List Value) (h : zH) : zLift (zcopy n ls st h) ls l2 (zcopy n l2 st h) := by
  unfold zcopy
  (try simp only [Bool.cond_eq_ite])
  (repeat' split) <;> first | exact trivial | exact zLift_zs hn hs _ _ _ | (simp_all [zLift, zs]; done)
theorem zobji_l {ls l2 : zL} (hn : zNd ls) (hs : zSub ls l2) (pc : Nat)  (st : List Value) (h : zH) : zLift (zobji pc ls st h) ls l2 (zobji pc l2 st h) := by
  unfold zobji
  (try simp only [Bool.cond_eq_ite])
  (repeat' split) <;> first | exact trivial | exact zLift_zs hn hs _ _ _ | (simp_all [zLift, zs]; done)
theorem zdup2_l {ls l2 : zL} (hn : zNd ls) (hs : zSub ls l2) (pc : Nat)  (st : List Value) (h : zH) : zLift (zdup2 pc ls st h) ls l2 (zdup2 pc l2 st h) := by
  unfold zdup2
  (try simp only [Bool.cond_eq_ite])
  (repeat' split) <;> first | exact trivial | exact zLift_zs hn hs _ _ _ | (simp_all [zLift, zs]; done)
theorem zdup_l {ls l2 : zL} (hn : zNd ls) (hs : zSub ls l2) (pc : Nat)  (st : List Value) (h : zH) : zLift (zdup pc ls st h) ls l2 (zdup pc l2 st h) := by
  unfold zdup
  (try simp only [Bool.cond_eq_ite])
  (repeat' split) <;> first | exact trivial | exact zLift_zs hn hs _ _ _ | (simp_all [zLift, zs]; done)
theorem zpop_l {ls l2 : zL} (hn : zNd ls) (hs : zSub ls l2) (pc : Nat)  (st : List Value) (h : zH) : zLift (zpop pc ls st h) ls l2 (zpop pc l2 st h) := by
  unfold zpop
  (try simp only [Bool.cond_eq_ite])
  (repeat' split) <;> first | exact trivial | exact zLift_zs hn hs _ _ _ | (simp_all [zLift, zs]; done)
theorem zpop2_l {ls l2 : zL} (hn : zNd ls) (hs : zSub ls l2) (pc : Nat)  (st : List Value) (h : zH) : zLift (zpop2 pc ls st h) ls l2 (zpop2 pc l2 st h) := by
  unfold zpop2
  (try simp only [Bool.cond_eq_ite])
  (repeat' split) <;> first | exact trivial | exact zLift_zs hn hs _ _ _ | (simp_all [zLift, zs]; done)
theorem zLift_same {x : Option zA} {ls l2 : zL} (h : ∀ q, x ≠ some (.inl q)) : zLift x ls l2 x := by
  unfold zLift
  split
  · next pc2 ls3 st2 h2 => exact absurd rfl (h _)
  · rfl
  · exact trivial
set_option maxHeartbeats 4000000 in
theorem zins_lift {g : zCt} {F : zFs} {tg : List Nat} {K : zK} {len pc : Nat} {ls l2 : zL} {st : List Value} {h : zH} (hn : zNd ls) (hs : zSub ls l2) (i : Instr) : zLift (zins g F tg i K len pc ls st h) ls l2 (zins g F tg i K len pc l2 st h) := by
  cases i
  case iconst _ => exact zLift_zs hn hs _ _ _
  case bipush _ => exact zLift_zs hn hs _ _ _
  case sipush _ => exact zLift_zs hn hs _ _ _
  case ldc _ => exact zLift_zs hn hs _ _ _
  case ldc_w _ => exact zLift_zs hn hs _ _ _
  case ldc2_w _ => exact zLift_zs hn hs _ _ _
  case lconst _ => exact zLift_zs hn hs _ _ _
  case getstatic _ => exact zLift_zs hn hs _ _ _
  case iload _ => exact (zLift_ld hn hs).1
  case iload_n _ => exact (zLift_ld hn hs).1
  case lload _ => exact (zLift_ld hn hs).2.1
  case lload_n _ => exact (zLift_ld hn hs).2.1
  case aload _ => exact (zLift_ld hn hs).2.2
  case aload_n _ => exact (zLift_ld hn hs).2.2
  case istore _ => exact (zLift_st hn hs).1
  case istore_n _ => exact (zLift_st hn hs).1
  case lstore _ => exact (zLift_st hn hs).2.1
  case lstore_n _ => exact (zLift_st hn hs).2.1
  case astore _ => exact (zLift_st hn hs).2.2
  case astore_n _ => exact (zLift_st hn hs).2.2
  case iadd => exact zii_l hn hs _ _ _ _
  case isub => exact zii_l hn hs _ _ _ _
  case imul => exact zii_l hn hs _ _ _ _
  case iand => exact zii_l hn hs _ _ _ _
  case ior => exact zii_l hn hs _ _ _ _
  case ixor => exact zii_l hn hs _ _ _ _
  case ishl => exact zii_l hn hs _ _ _ _
  case ishr => exact zii_l hn hs _ _ _ _
  case iushr => exact zii_l hn hs _ _ _ _
  case idiv => exact ziid_l hn hs _ _ _ _
  case irem => exact ziid_l hn hs _ _ _ _
  case ladd => exact zll_l hn hs _ _ _ _
  case lsub => exact zll_l hn hs _ _ _ _
  case lmul => exact zll_l hn hs _ _ _ _
  case land => exact zll_l hn hs _ _ _ _
  case lor => exact zll_l hn hs _ _ _ _
  case lxor => exact zll_l hn hs _ _ _ _
  case ldiv => exact zlld_l hn hs _ _ _ _
  case lrem => exact zlld_l hn hs _ _ _ _
  case lshl => exact zlsh_l hn hs _ _ _ _
  case lshr => exact zlsh_l hn hs _ _ _ _
  case lushr => exact zlsh_l hn hs _ _ _ _
  case ineg => exact zi1_l hn hs _ _ _ _
  case i2l => exact zi1_l hn hs _ _ _ _
  case i2b => exact zi1_l hn hs _ _ _ _
  case i2c => exact zi1_l hn hs _ _ _ _
  case l2i => exact zl1_l hn hs _ _ _ _
  case lneg => exact zl1_l hn hs _ _ _ _
  case ifCond _ _ => exact zif0_l hn hs _ _ _ _ _
  case if_icmp _ _ => exact zif2_l hn hs _ _ _ _ _
  case goto _ => exact zLift_zs hn hs _ _ _
  case tableswitch _ _ _ _ => exact ztab_l hn hs _ _ _ _ _ _
  case iaload => exact ziald_l hn hs _ _ _ _
  case baload => exact zbald_l hn hs _ _ _
  case laload => exact zlald_l hn hs _ _ _
  case aaload => exact zaald_l hn hs _ _ _
  case iastore => exact ziast_l hn hs _ _ _
  case bastore => exact zbast_l hn hs _ _ _
  case lastore => exact zlast_l hn hs _ _ _
  case aastore => exact zaast_l hn hs _ _ _
  case arraylength => exact zalen_l hn hs _ _ _ _
  case getfield _ => exact zget_l hn hs _ _ _ _ _
  case dup => exact zdup_l hn hs _ _ _
  case dup2 => exact zdup2_l hn hs _ _ _
  case pop => exact zpop_l hn hs _ _ _
  case pop2 => exact zpop2_l hn hs _ _ _
  case iinc k n =>
    show zLift (match zlv ls k, K.2.2 with
      | some (.int x), .int d => zs (pc + 3) (zst1 ls k (.int (x + d))) st h
      | _, _ => none) ls l2 (match zlv l2 k, K.2.2 with
      | some (.int x), .int d => zs (pc + 3) (zst1 l2 k (.int (x + d))) st h
      | _, _ => none)
    cases hv : zlv ls k with
    | none => exact trivial
    | some v =>
      rw [hs _ _ hv]
      cases v <;> first | exact trivial | (cases K.2.2 <;> first | exact trivial | exact ⟨_, rfl, zst1_nd hn _ _, zst1_sub hn hs _ _⟩)
  case lcmp =>
    show zLift (match st with
      | .long y :: .long x :: r => zs (pc + 1) ls (.int (lg_cmp x y) :: r) h
      | _ => none) ls l2 (match st with
      | .long y :: .long x :: r => zs (pc + 1) l2 (.int (lg_cmp x y) :: r) h
      | _ => none)
    split
    · exact zLift_zs hn hs _ _ _
    · exact trivial
  case putfield k =>
    show zLift (match K.2.2 with
      | .retAddr t => zput K.1 K.2.1 t pc ls st h
      | _ => none) ls l2 (match K.2.2 with
      | .retAddr t => zput K.1 K.2.1 t pc l2 st h
      | _ => none)
    split
    · exact zput_l hn hs _ _ _ _ _ _
    · exact trivial
  case invokevirtual k =>
    show zLift (match K.2.2 with
      | .retAddr ci => zcallV K.1 K.2.1 ci st h
      | _ => none) ls l2 (match K.2.2 with
      | .retAddr ci => zcallV K.1 K.2.1 ci st h
      | _ => none)
    split
    · refine zLift_same (fun q hq => ?_)
      unfold zcallV at hq
      exact zcall_n _ _ _ _ (zb_inv hq).2
    · exact trivial
  case invokestatic k =>
    show zLift (match K.2.2 with
      | .retAddr _ => zcopy (pc + 3) ls st h
      | .int _ => zcall K.1 K.2.1 st
      | _ => none) ls l2 (match K.2.2 with
      | .retAddr _ => zcopy (pc + 3) l2 st h
      | .int _ => zcall K.1 K.2.1 st
      | _ => none)
    split
    · exact zcopy_l hn hs _ _ _
    · exact zLift_same (fun q hq => zcall_n _ _ _ _ hq)
    · exact trivial
  case invokespecial k =>
    show zLift (match K.2.2 with
      | .null => zobji pc ls st h
      | .int _ => zcallI K.1 K.2.1 st
      | _ => none) ls l2 (match K.2.2 with
      | .null => zobji pc l2 st h
      | .int _ => zcallI K.1 K.2.1 st
      | _ => none)
    split
    · exact zobji_l hn hs _ _ _
    · exact zLift_same (fun q hq => by obtain ⟨r, as2, q7, hz⟩ := zcallI_inv hq; exact zcall_n _ _ _ _ hz)
    · exact trivial
  case new k => rfl
  case newarray a =>
    show zLift (znewa K.1 pc st) ls l2 (znewa K.1 pc st)
    refine zLift_same (fun q hq => ?_)
    unfold znewa at hq
    simp only [Bool.cond_eq_ite] at hq
    (repeat' split at hq) <;> first | (cases hq; done) | (simp at hq; done)
  case anewarray k =>
    show zLift (zanew pc st) ls l2 (zanew pc st)
    refine zLift_same (fun q hq => ?_)
    unfold zanew at hq
    simp only [Bool.cond_eq_ite] at hq
    (repeat' split at hq) <;> first | (cases hq; done) | (simp at hq; done)
  case ireturn =>
    show zLift (zret K.1 st) ls l2 (zret K.1 st)
    refine zLift_same (fun q hq => ?_)
    unfold zret at hq
    split at hq
    · cases (zb_inv hq).2
    · cases hq
  case lreturn =>
    show zLift (zlret st) ls l2 (zlret st)
    refine zLift_same (fun q hq => ?_)
    unfold zlret at hq
    split at hq <;> cases hq
  case areturn =>
    show zLift (zaret st) ls l2 (zaret st)
    refine zLift_same (fun q hq => ?_)
    unfold zaret at hq
    split at hq <;> cases hq
  case return_ =>
    show zLift (zvret st) ls l2 (zvret st)
    refine zLift_same (fun q hq => ?_)
    unfold zvret at hq
    split at hq <;> cases hq
  all_goals exact trivial
theorem zrun_lift {g : zCt} {F : zFs} {P : zCd} : ∀ {n y pc : Nat} {ls l2 : zL} {st : List Value} {h : zH} {dc ds : Nat} {r : zR}, zNd ls → zSub ls l2 → zrun g F P n y pc ls st h dc ds = some r → zrun g F P n y pc l2 st h dc ds = some r := by
  intro n
  induction n with
  | zero => intro y pc ls l2 st h dc ds r hn hs hz; cases hz
  | succ n ih =>
    intro y pc ls l2 st h dc ds r hn hs hz
    unfold zrun at hz ⊢
    cases hP : P y pc with
    | none =>
      rw [hP] at hz
      (try dsimp only at hz ⊢)
      split at hz
      · cases hz
      · next pc2 st2 h2 d1 s1 hs1 =>
        exact ih hn hs hz
    | some q =>
      obtain ⟨i, len, K, tg⟩ := q
      rw [hP] at hz
      (try dsimp only at hz ⊢)
      have hl := zins_lift (g := g) (F := F) (tg := tg) (K := K) (len := len) (pc := pc) (st := st) (h := h) hn hs i
      cases hi : zins g F tg i K len pc ls st h with
      | none => rw [hi] at hz; cases hz
      | some x =>
        rw [hi] at hz hl
        (try dsimp only at hz ⊢)
        match x, hz, hl with
        | .inl (pc2, ls2, st2, h2), hz, hl =>
          obtain ⟨l3, e1, e2, e3⟩ := hl
          rw [e1]
          exact ih e2 e3 hz
        | .inr (.inl (y2, as, rest)), hz, hl =>
          have hl : zins g F tg i K len pc l2 st h = some (.inr (.inl (y2, as, rest))) := hl
          rw [hl]
          (try dsimp only at hz ⊢)
          cases h1 : zrun g F P n y2 0 (lv_args 0 as) [] h 0 0 with
          | none => rw [h1] at hz; cases hz
          | some q =>
            obtain ⟨v, h2, d1, s1⟩ := q
            rw [h1] at hz
            exact ih hn hs hz
        | .inr (.inr (.inl v)), hz, hl =>
          have hl : zins g F tg i K len pc l2 st h = some (.inr (.inr (.inl v))) := hl
          rw [hl]
          exact hz
        | .inr (.inr (.inr (pc2, rest, e))), hz, hl =>
          have hl : zins g F tg i K len pc l2 st h = some (.inr (.inr (.inr (pc2, rest, e)))) := hl
          rw [hl]
          exact ih hn hs hz
/-- fewer locals, in any order -/
theorem zT_ls {g : zCt} {F : zFs} {P : zCd} {y pc : Nat} {ls l2 : zL} {st : List Value} {h : zH} {dc ds : Nat} {r : zR} (ls' : zL) (e : ls' = ls) (hn : (ls.map (fun q => q.1)).Nodup) (hs : ∀ q ∈ ls, zlv l2 q.1 = some q.2) (k : zT g F P y pc ls st h dc ds r) : zT g F P y pc l2 st h dc ds r := by
  obtain ⟨n, hz⟩ := k
  refine ⟨n, zrun_lift hn (fun i v hv => ?_) hz⟩
  exact hs (i, v) (zlv_mem hv)
