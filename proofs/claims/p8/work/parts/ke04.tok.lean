/-! Both readers' tokens are the same. -/
/-- the class's token at nx -/
noncomputable def ctk (tb : List Int32) (ln nx : Nat) (kd va : Int32) : Nat × Int32 × Int32 × Int32 := (if (nI nx).toInt < (nI ln).toInt then (if (rHas tb ln nx (97 : Int32) (122 : Int32)) = (0 : Int32) then (if (rHas tb ln nx (48 : Int32) (57 : Int32)) = (0 : Int32) then (if (tb.getD ((nI nx)).toNatClampNeg 0) ≠ (45 : Int32) then (if (tb.getD ((nI nx)).toNatClampNeg 0) ≠ (59 : Int32) then ((nx + 1), (5 : Int32), (nI nx), va) else ((nx + 1), (4 : Int32), (nI nx), va)) else (if (rHas tb ln (nx + 1) (48 : Int32) (57 : Int32)) = (0 : Int32) then (if (tb.getD ((nI nx)).toNatClampNeg 0) ≠ (59 : Int32) then ((nx + 1), (5 : Int32), (nI nx), va) else ((nx + 1), (4 : Int32), (nI nx), va)) else (zlet (tdG tb ln (nx + 1)) (fun v79x => ((v79x.2), (3 : Int32), (nI nx), (-(v79x.1))))))) else (zlet (tdG tb ln nx) (fun v92x => ((v92x.2), (2 : Int32), (nI nx), (v92x.1))))) else (zlet (twG tb ln nx kd) (fun v100x => ((v100x.2.1), (v100x.2.2), (nI nx), (v100x.1))))) else (nx, (0 : Int32), (nI nx), va))
/-- the reference's token at p -/
noncomputable def rtk (tb : List Int32) (sz p : Nat) (va : Int32) : Nat × Nat × Int32 × Int32 := (if (mHere tb sz p) ≠ (-1 : Int32) then (if (mHere tb sz p).toInt < (97 : Int32).toInt then (if (mHere tb sz p).toInt < (48 : Int32).toInt then (if (mHere tb sz p) ≠ (59 : Int32) then (if (mHere tb sz p) ≠ (45 : Int32) then ((p + 1), p, (6 : Int32), va) else (if (mHere tb sz (p + 1)).toInt < (48 : Int32).toInt then ((p + 1), p, (6 : Int32), va) else (if (57 : Int32).toInt < (mHere tb sz (p + 1)).toInt then ((p + 1), p, (6 : Int32), va) else (zlet (mDig tb sz (p + 1)) (fun v51x => ((v51x.1), p, (3 : Int32), (-(v51x.2)))))))) else ((p + 1), p, (4 : Int32), va)) else (if (57 : Int32).toInt < (mHere tb sz p).toInt then (if (mHere tb sz p) ≠ (59 : Int32) then (if (mHere tb sz p) ≠ (45 : Int32) then ((p + 1), p, (6 : Int32), va) else (if (mHere tb sz (p + 1)).toInt < (48 : Int32).toInt then ((p + 1), p, (6 : Int32), va) else (if (57 : Int32).toInt < (mHere tb sz (p + 1)).toInt then ((p + 1), p, (6 : Int32), va) else (zlet (mDig tb sz (p + 1)) (fun v97x => ((v97x.1), p, (3 : Int32), (-(v97x.2)))))))) else ((p + 1), p, (4 : Int32), va)) else (zlet (mDig tb sz p) (fun v114x => ((v114x.1), p, (2 : Int32), (v114x.2)))))) else (if (122 : Int32).toInt < (mHere tb sz p).toInt then (if (mHere tb sz p).toInt < (48 : Int32).toInt then (if (mHere tb sz p) ≠ (59 : Int32) then (if (mHere tb sz p) ≠ (45 : Int32) then ((p + 1), p, (6 : Int32), va) else (if (mHere tb sz (p + 1)).toInt < (48 : Int32).toInt then ((p + 1), p, (6 : Int32), va) else (if (57 : Int32).toInt < (mHere tb sz (p + 1)).toInt then ((p + 1), p, (6 : Int32), va) else (zlet (mDig tb sz (p + 1)) (fun v154x => ((v154x.1), p, (3 : Int32), (-(v154x.2)))))))) else ((p + 1), p, (4 : Int32), va)) else (if (57 : Int32).toInt < (mHere tb sz p).toInt then (if (mHere tb sz p) ≠ (59 : Int32) then (if (mHere tb sz p) ≠ (45 : Int32) then ((p + 1), p, (6 : Int32), va) else (if (mHere tb sz (p + 1)).toInt < (48 : Int32).toInt then ((p + 1), p, (6 : Int32), va) else (if (57 : Int32).toInt < (mHere tb sz (p + 1)).toInt then ((p + 1), p, (6 : Int32), va) else (zlet (mDig tb sz (p + 1)) (fun v200x => ((v200x.1), p, (3 : Int32), (-(v200x.2)))))))) else ((p + 1), p, (4 : Int32), va)) else (zlet (mDig tb sz p) (fun v217x => ((v217x.1), p, (2 : Int32), (v217x.2)))))) else (zlet (msmF tb sz ((sz - p) + 1) p) (fun v220x => (if (mWrd tb (v220x) p) = (-1 : Int32) then (if ((nI (v220x)) - (nI p)).toInt ≤ (6 : Int32).toInt then (zlet (mNam tb (v220x) p) (fun v241x => ((v220x), p, (1 : Int32), (v241x)))) else ((v220x), p, (6 : Int32), (mWrd tb (v220x) p))) else ((v220x), p, (0 : Int32), (mWrd tb (v220x) p))))))) else (p, p, (5 : Int32), va))
theorem adF_s (tb : List Int32) (ln m nx : Nat) (kd sta va : Int32) : adF tb ln (m + 1) nx kd sta va = if (nI ln).toInt ≤ (nI nx).toInt then ctk tb ln nx kd va else if (tb.getD ((nI nx)).toNatClampNeg 0) = (32 : Int32) then adF tb ln m (nx + 1) kd sta va else if (tb.getD ((nI nx)).toNatClampNeg 0) ≠ (10 : Int32) then ctk tb ln nx kd va else adF tb ln m (nx + 1) kd sta va := rfl
theorem mTok_s (tb : List Int32) (sz at9 : Nat) (va : Int32) : mTok tb sz at9 va = rtk tb sz (mskF tb sz ((sz - at9) + 1) at9) va := rfl
theorem here_e {tb : List Int32} {ln p : Nat} (hln : ln ≤ 700) (hp : p < ln) : mHere tb ln p = tb.getD p 0 := by
  unfold mHere
  rw [nI_toInt (by omega), nI_toInt (by omega), if_neg (by omega)]
theorem here_n {tb : List Int32} {ln p : Nat} (hln : ln ≤ 700) (hp : ln ≤ p) (h2 : p ≤ 800) : mHere tb ln p = -1 := by
  unfold mHere
  rw [nI_toInt (by omega), nI_toInt (by omega), if_pos (by omega)]
theorem ad_sk {tb : List Int32} {ln : Nat} (hln : ln ≤ 700) (kd sta va : Int32) : ∀ (m nx : Nat), nx ≤ ln → ln - nx < m → adF tb ln m nx kd sta va = ctk tb ln (mskF tb ln m nx) kd va ∧ nx ≤ mskF tb ln m nx ∧ mskF tb ln m nx ≤ ln
  | 0, nx, _, h => absurd h (Nat.not_lt_zero _)
  | m + 1, nx, hx, hm => by
    have q1 := nI_toInt (n := ln) (by omega)
    have q2 := nI_toInt (n := nx) (by omega)
    rw [adF_s, q1, q2, nI_clamp (by omega)]
    unfold mskF
    by_cases h : (ln : Int) ≤ nx
    · rw [if_pos h, here_n hln (by omega) (by omega), if_neg (by decide), if_pos (by decide)]
      exact ⟨rfl, Nat.le_refl _, hx⟩
    · have ih := ad_sk (tb := tb) hln kd sta va m (nx + 1) (by omega) (by omega)
      rw [if_neg h, here_e hln (by omega)]
      by_cases h1 : tb.getD nx 0 = (32 : Int32)
      · rw [if_pos h1, h1, if_neg (by decide), if_neg (fun z => z rfl)]
        exact ⟨ih.1, by omega, ih.2.2⟩
      · rw [if_neg h1]
        by_cases h2 : tb.getD nx 0 = (10 : Int32)
        · rw [if_neg (fun z => z h2), if_pos h2]
          exact ⟨ih.1, by omega, ih.2.2⟩
        · rw [if_pos h2, if_neg h2, if_pos h1]
          exact ⟨rfl, Nat.le_refl _, hx⟩
