/-! Which instructions only step. -/
theorem zs_s (pc : Nat) (ls : zL) (st : List Value) (h : zH) (r) : zs pc ls st h ≠ some (.inr r) := by intro q; cases q
theorem zldi_s (k n : Nat) (ls : zL) (st : List Value) (h : zH) (r) : zldi k n ls st h ≠ some (.inr r) := by
  intro q
  unfold zldi at q
  simp only [Bool.cond_eq_ite, zs] at q
  (repeat' split at q) <;> first | (cases q; done) | (simp at q; done)
theorem zldl_s (k n : Nat) (ls : zL) (st : List Value) (h : zH) (r) : zldl k n ls st h ≠ some (.inr r) := by
  intro q
  unfold zldl at q
  simp only [Bool.cond_eq_ite, zs] at q
  (repeat' split at q) <;> first | (cases q; done) | (simp at q; done)
theorem zlda_s (k n : Nat) (ls : zL) (st : List Value) (h : zH) (r) : zlda k n ls st h ≠ some (.inr r) := by
  intro q
  unfold zlda at q
  simp only [Bool.cond_eq_ite, zs] at q
  (repeat' split at q) <;> first | (cases q; done) | (simp at q; done)
theorem zsti_s (k n : Nat) (ls : zL) (st : List Value) (h : zH) (r) : zsti k n ls st h ≠ some (.inr r) := by
  intro q
  unfold zsti at q
  simp only [Bool.cond_eq_ite, zs] at q
  (repeat' split at q) <;> first | (cases q; done) | (simp at q; done)
theorem zstl_s (k n : Nat) (ls : zL) (st : List Value) (h : zH) (r) : zstl k n ls st h ≠ some (.inr r) := by
  intro q
  unfold zstl at q
  simp only [Bool.cond_eq_ite, zs] at q
  (repeat' split at q) <;> first | (cases q; done) | (simp at q; done)
theorem zsta_s (k n : Nat) (ls : zL) (st : List Value) (h : zH) (r) : zsta k n ls st h ≠ some (.inr r) := by
  intro q
  unfold zsta at q
  simp only [Bool.cond_eq_ite, zs] at q
  (repeat' split at q) <;> first | (cases q; done) | (simp at q; done)
theorem zii_s (f : Int32 → Int32 → Int32) (pc : Nat) (ls : zL) (st : List Value) (h : zH) (r) : zii f pc ls st h ≠ some (.inr r) := by
  intro q
  unfold zii at q
  simp only [Bool.cond_eq_ite, zs] at q
  (repeat' split at q) <;> first | (cases q; done) | (simp at q; done)
theorem ziid_s (f : Int32 → Int32 → Int32) (pc : Nat) (ls : zL) (st : List Value) (h : zH) (r) : ziid f pc ls st h ≠ some (.inr r) := by
  intro q
  unfold ziid at q
  simp only [Bool.cond_eq_ite, zs] at q
  (repeat' split at q) <;> first | (cases q; done) | (simp at q; done)
theorem zll_s (f : Int64 → Int64 → Int64) (pc : Nat) (ls : zL) (st : List Value) (h : zH) (r) : zll f pc ls st h ≠ some (.inr r) := by
  intro q
  unfold zll at q
  simp only [Bool.cond_eq_ite, zs] at q
  (repeat' split at q) <;> first | (cases q; done) | (simp at q; done)
theorem zlld_s (f : Int64 → Int64 → Int64) (pc : Nat) (ls : zL) (st : List Value) (h : zH) (r) : zlld f pc ls st h ≠ some (.inr r) := by
  intro q
  unfold zlld at q
  simp only [Bool.cond_eq_ite, zs] at q
  (repeat' split at q) <;> first | (cases q; done) | (simp at q; done)
theorem zlsh_s (f : Int64 → Int32 → Int64) (pc : Nat) (ls : zL) (st : List Value) (h : zH) (r) : zlsh f pc ls st h ≠ some (.inr r) := by
  intro q
  unfold zlsh at q
  simp only [Bool.cond_eq_ite, zs] at q
  (repeat' split at q) <;> first | (cases q; done) | (simp at q; done)
theorem zi1_s (f : Int32 → Value) (pc : Nat) (ls : zL) (st : List Value) (h : zH) (r) : zi1 f pc ls st h ≠ some (.inr r) := by
  intro q
  unfold zi1 at q
  simp only [Bool.cond_eq_ite, zs] at q
  (repeat' split at q) <;> first | (cases q; done) | (simp at q; done)
theorem zl1_s (f : Int64 → Value) (pc : Nat) (ls : zL) (st : List Value) (h : zH) (r) : zl1 f pc ls st h ≠ some (.inr r) := by
  intro q
  unfold zl1 at q
  simp only [Bool.cond_eq_ite, zs] at q
  (repeat' split at q) <;> first | (cases q; done) | (simp at q; done)
theorem zif0_s (c : ClassFile.Cond) (t n : Nat) (ls : zL) (st : List Value) (h : zH) (r) : zif0 c t n ls st h ≠ some (.inr r) := by
  intro q
  unfold zif0 at q
  simp only [Bool.cond_eq_ite, zs] at q
  (repeat' split at q) <;> first | (cases q; done) | (simp at q; done)
theorem zif2_s (c : ClassFile.Cond) (t n : Nat) (ls : zL) (st : List Value) (h : zH) (r) : zif2 c t n ls st h ≠ some (.inr r) := by
  intro q
  unfold zif2 at q
  simp only [Bool.cond_eq_ite, zs] at q
  (repeat' split at q) <;> first | (cases q; done) | (simp at q; done)
theorem ziald_s (g : zCt) (pc : Nat) (ls : zL) (st : List Value) (h : zH) (r) : ziald g pc ls st h ≠ some (.inr r) := by
  intro q
  unfold ziald at q
  simp only [Bool.cond_eq_ite, zs] at q
  (repeat' split at q) <;> first | (cases q; done) | (simp at q; done)
theorem zalen_s (g : zCt) (pc : Nat) (ls : zL) (st : List Value) (h : zH) (r) : zalen g pc ls st h ≠ some (.inr r) := by
  intro q
  unfold zalen at q
  simp only [Bool.cond_eq_ite, zs] at q
  (repeat' split at q) <;> first | (cases q; done) | (simp at q; done)
theorem zbald_s (pc : Nat) (ls : zL) (st : List Value) (h : zH) (r) : zbald pc ls st h ≠ some (.inr r) := by
  intro q
  unfold zbald at q
  simp only [Bool.cond_eq_ite, zs] at q
  (repeat' split at q) <;> first | (cases q; done) | (simp at q; done)
theorem zlald_s (pc : Nat) (ls : zL) (st : List Value) (h : zH) (r) : zlald pc ls st h ≠ some (.inr r) := by
  intro q
  unfold zlald at q
  simp only [Bool.cond_eq_ite, zs] at q
  (repeat' split at q) <;> first | (cases q; done) | (simp at q; done)
theorem zaald_s (pc : Nat) (ls : zL) (st : List Value) (h : zH) (r) : zaald pc ls st h ≠ some (.inr r) := by
  intro q
  unfold zaald at q
  simp only [Bool.cond_eq_ite, zs] at q
  (repeat' split at q) <;> first | (cases q; done) | (simp at q; done)
theorem ziast_s (pc : Nat) (ls : zL) (st : List Value) (h : zH) (r) : ziast pc ls st h ≠ some (.inr r) := by
  intro q
  unfold ziast at q
  simp only [Bool.cond_eq_ite, zs] at q
  (repeat' split at q) <;> first | (cases q; done) | (simp at q; done)
theorem zbast_s (pc : Nat) (ls : zL) (st : List Value) (h : zH) (r) : zbast pc ls st h ≠ some (.inr r) := by
  intro q
  unfold zbast at q
  simp only [Bool.cond_eq_ite, zs] at q
  (repeat' split at q) <;> first | (cases q; done) | (simp at q; done)
theorem zlast_s (pc : Nat) (ls : zL) (st : List Value) (h : zH) (r) : zlast pc ls st h ≠ some (.inr r) := by
  intro q
  unfold zlast at q
  simp only [Bool.cond_eq_ite, zs] at q
  (repeat' split at q) <;> first | (cases q; done) | (simp at q; done)
theorem zaast_s (pc : Nat) (ls : zL) (st : List Value) (h : zH) (r) : zaast pc ls st h ≠ some (.inr r) := by
  intro q
  unfold zaast at q
  simp only [Bool.cond_eq_ite, zs] at q
  (repeat' split at q) <;> first | (cases q; done) | (simp at q; done)
theorem zdup_s (pc : Nat) (ls : zL) (st : List Value) (h : zH) (r) : zdup pc ls st h ≠ some (.inr r) := by
  intro q
  unfold zdup at q
  simp only [Bool.cond_eq_ite, zs] at q
  (repeat' split at q) <;> first | (cases q; done) | (simp at q; done)
theorem zdup2_s (pc : Nat) (ls : zL) (st : List Value) (h : zH) (r) : zdup2 pc ls st h ≠ some (.inr r) := by
  intro q
  unfold zdup2 at q
  simp only [Bool.cond_eq_ite, zs] at q
  (repeat' split at q) <;> first | (cases q; done) | (simp at q; done)
theorem zpop_s (pc : Nat) (ls : zL) (st : List Value) (h : zH) (r) : zpop pc ls st h ≠ some (.inr r) := by
  intro q
  unfold zpop at q
  simp only [Bool.cond_eq_ite, zs] at q
  (repeat' split at q) <;> first | (cases q; done) | (simp at q; done)
theorem zpop2_s (pc : Nat) (ls : zL) (st : List Value) (h : zH) (r) : zpop2 pc ls st h ≠ some (.inr r) := by
  intro q
  unfold zpop2 at q
  simp only [Bool.cond_eq_ite, zs] at q
  (repeat' split at q) <;> first | (cases q; done) | (simp at q; done)
theorem zobji_s (pc : Nat) (ls : zL) (st : List Value) (h : zH) (r) : zobji pc ls st h ≠ some (.inr r) := by
  intro q
  unfold zobji at q
  simp only [Bool.cond_eq_ite, zs] at q
  (repeat' split at q) <;> first | (cases q; done) | (simp at q; done)
theorem zcopy_s (n : Nat) (ls : zL) (st : List Value) (h : zH) (r) : zcopy n ls st h ≠ some (.inr r) := by
  intro q
  unfold zcopy at q
  simp only [Bool.cond_eq_ite, zs] at q
  (repeat' split at q) <;> first | (cases q; done) | (simp at q; done)
theorem zget_s (ci k pc : Nat) (ls : zL) (st : List Value) (h : zH) (r) : zget ci k pc ls st h ≠ some (.inr r) := by
  intro q
  unfold zget at q
  simp only [Bool.cond_eq_ite, zs] at q
  (repeat' split at q) <;> first | (cases q; done) | (simp at q; done)
theorem zput_s (ci k t pc : Nat) (ls : zL) (st : List Value) (h : zH) (r) : zput ci k t pc ls st h ≠ some (.inr r) := by
  intro q
  unfold zput at q
  simp only [Bool.cond_eq_ite, zs] at q
  (repeat' split at q) <;> first | (cases q; done) | (simp at q; done)
theorem ztab_s (K : zK) (lo hi : Int) (tg : List Nat) (ls : zL) (st : List Value) (h : zH) (r) : ztab K lo hi tg ls st h ≠ some (.inr r) := by
  intro q
  unfold ztab at q
  simp only [Bool.cond_eq_ite, zs] at q
  (repeat' split at q) <;> first | (cases q; done) | (simp at q; done)
/-- the instructions that call, return or make a cell -/
noncomputable def zbig : Instr → Bool
  | .invokevirtual _ => true
  | .invokestatic _ => true
  | .invokespecial _ => true
  | .new _ => true
  | .newarray _ => true
  | .anewarray _ => true
  | .ireturn => true
  | .lreturn => true
  | .areturn => true
  | .return_ => true
  | _ => false
set_option maxHeartbeats 4000000 in
theorem zins_big {g : zCt} {F : zFs} {tg : List Nat} {i : Instr} {K : zK} {len pc : Nat} {ls : zL} {st : List Value} {h : zH} {r} (hz : zins g F tg i K len pc ls st h = some (.inr r)) : zbig i = true := by
  cases i
  case iinc k n =>
    exfalso
    have hz : (match zlv ls k, K.2.2 with
      | some (.int x), .int d => zs (pc + 3) (zst1 ls k (.int (x + d))) st h
      | _, _ => none) = some (.inr r) := hz
    split at hz
    · exact zs_s _ _ _ _ _ hz
    · cases hz
  case lcmp =>
    exfalso
    have hz : (match st with
      | .long y :: .long x :: r => zs (pc + 1) ls (.int (lg_cmp x y) :: r) h
      | _ => none) = some (.inr r) := hz
    split at hz
    · exact zs_s _ _ _ _ _ hz
    · cases hz
  case putfield k =>
    exfalso
    have hz : (match K.2.2 with
      | .retAddr t => zput K.1 K.2.1 t pc ls st h
      | _ => none) = some (.inr r) := hz
    split at hz
    · exact zput_s _ _ _ _ _ _ _ _ hz
    · cases hz
  case iconst _ => exact absurd hz (zs_s _ _ _ _ _)
  case bipush _ => exact absurd hz (zs_s _ _ _ _ _)
  case sipush _ => exact absurd hz (zs_s _ _ _ _ _)
  case ldc _ => exact absurd hz (zs_s _ _ _ _ _)
  case ldc_w _ => exact absurd hz (zs_s _ _ _ _ _)
  case ldc2_w _ => exact absurd hz (zs_s _ _ _ _ _)
  case lconst _ => exact absurd hz (zs_s _ _ _ _ _)
  case getstatic _ => exact absurd hz (zs_s _ _ _ _ _)
  case iload _ => exact absurd hz (zldi_s _ _ _ _ _ _)
  case iload_n _ => exact absurd hz (zldi_s _ _ _ _ _ _)
  case lload _ => exact absurd hz (zldl_s _ _ _ _ _ _)
  case lload_n _ => exact absurd hz (zldl_s _ _ _ _ _ _)
  case aload _ => exact absurd hz (zlda_s _ _ _ _ _ _)
  case aload_n _ => exact absurd hz (zlda_s _ _ _ _ _ _)
  case istore _ => exact absurd hz (zsti_s _ _ _ _ _ _)
  case istore_n _ => exact absurd hz (zsti_s _ _ _ _ _ _)
  case lstore _ => exact absurd hz (zstl_s _ _ _ _ _ _)
  case lstore_n _ => exact absurd hz (zstl_s _ _ _ _ _ _)
  case astore _ => exact absurd hz (zsta_s _ _ _ _ _ _)
  case astore_n _ => exact absurd hz (zsta_s _ _ _ _ _ _)
  case iadd => exact absurd hz (zii_s _ _ _ _ _ _)
  case isub => exact absurd hz (zii_s _ _ _ _ _ _)
  case imul => exact absurd hz (zii_s _ _ _ _ _ _)
  case iand => exact absurd hz (zii_s _ _ _ _ _ _)
  case ior => exact absurd hz (zii_s _ _ _ _ _ _)
  case ixor => exact absurd hz (zii_s _ _ _ _ _ _)
  case ishl => exact absurd hz (zii_s _ _ _ _ _ _)
  case ishr => exact absurd hz (zii_s _ _ _ _ _ _)
  case iushr => exact absurd hz (zii_s _ _ _ _ _ _)
  case idiv => exact absurd hz (ziid_s _ _ _ _ _ _)
  case irem => exact absurd hz (ziid_s _ _ _ _ _ _)
  case ladd => exact absurd hz (zll_s _ _ _ _ _ _)
  case lsub => exact absurd hz (zll_s _ _ _ _ _ _)
  case lmul => exact absurd hz (zll_s _ _ _ _ _ _)
  case land => exact absurd hz (zll_s _ _ _ _ _ _)
  case lor => exact absurd hz (zll_s _ _ _ _ _ _)
  case lxor => exact absurd hz (zll_s _ _ _ _ _ _)
  case ldiv => exact absurd hz (zlld_s _ _ _ _ _ _)
  case lrem => exact absurd hz (zlld_s _ _ _ _ _ _)
  case lshl => exact absurd hz (zlsh_s _ _ _ _ _ _)
  case lshr => exact absurd hz (zlsh_s _ _ _ _ _ _)
  case lushr => exact absurd hz (zlsh_s _ _ _ _ _ _)
  case ineg => exact absurd hz (zi1_s _ _ _ _ _ _)
  case i2l => exact absurd hz (zi1_s _ _ _ _ _ _)
  case i2b => exact absurd hz (zi1_s _ _ _ _ _ _)
  case i2c => exact absurd hz (zi1_s _ _ _ _ _ _)
  case l2i => exact absurd hz (zl1_s _ _ _ _ _ _)
  case lneg => exact absurd hz (zl1_s _ _ _ _ _ _)
  case ifCond _ _ => exact absurd hz (zif0_s _ _ _ _ _ _ _)
  case if_icmp _ _ => exact absurd hz (zif2_s _ _ _ _ _ _ _)
  case goto _ => exact absurd hz (zs_s _ _ _ _ _)
  case tableswitch _ _ _ _ => exact absurd hz (ztab_s _ _ _ _ _ _ _ _)
  case iaload => exact absurd hz (ziald_s _ _ _ _ _ _)
  case baload => exact absurd hz (zbald_s _ _ _ _ _)
  case laload => exact absurd hz (zlald_s _ _ _ _ _)
  case aaload => exact absurd hz (zaald_s _ _ _ _ _)
  case iastore => exact absurd hz (ziast_s _ _ _ _ _)
  case bastore => exact absurd hz (zbast_s _ _ _ _ _)
  case lastore => exact absurd hz (zlast_s _ _ _ _ _)
  case aastore => exact absurd hz (zaast_s _ _ _ _ _)
  case arraylength => exact absurd hz (zalen_s _ _ _ _ _ _)
  case getfield _ => exact absurd hz (zget_s _ _ _ _ _ _ _)
  case dup => exact absurd hz (zdup_s _ _ _ _ _)
  case dup2 => exact absurd hz (zdup2_s _ _ _ _ _)
  case pop => exact absurd hz (zpop_s _ _ _ _ _)
  case pop2 => exact absurd hz (zpop2_s _ _ _ _ _)
  case invokevirtual => rfl
  case invokestatic => rfl
  case invokespecial => rfl
  case new => rfl
  case newarray => rfl
  case anewarray => rfl
  case ireturn => rfl
  case lreturn => rfl
  case areturn => rfl
  case return_ => rfl
  all_goals exact nomatch (show (none : Option zA) = some _ from hz)
