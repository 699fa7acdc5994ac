/-! Both readers' tokens are the same: the others; as a whole. -/
/-- the reference's token where no letter, no digit stands -/
noncomputable def rblk (tb : List Int32) (sz p : Nat) (va : Int32) : Nat × Nat × Int32 × Int32 := if (mHere tb sz p) ≠ (59 : Int32) then (if (mHere tb sz p) ≠ (45 : Int32) then ((p + 1), p, (6 : Int32), va) else (if (mHere tb sz (p + 1)).toInt < (48 : Int32).toInt then ((p + 1), p, (6 : Int32), va) else (if (57 : Int32).toInt < (mHere tb sz (p + 1)).toInt then ((p + 1), p, (6 : Int32), va) else (zlet (mDig tb sz (p + 1)) (fun v => (v.1, p, (3 : Int32), (-v.2))))))) else ((p + 1), p, (4 : Int32), va)
theorem tk_oth {tb : List Int32} {ln p : Nat} (hln : ln ≤ 700) (hp : p < ln) (kd va va2 : Int32) (hb : 0 ≤ (tb.getD p 0).toInt) (hd : ¬ (48 ≤ (tb.getD p 0).toInt ∧ (tb.getD p 0).toInt ≤ 57)) (hc : ¬ isL tb p) : tkR p va va2 (ctk tb ln p kd va) (rtk tb ln p va2) := by
  have q1 := nI_toInt (n := ln) (by omega)
  have q2 := nI_toInt (n := p) (by omega)
  have e48 : (48 : Int32).toInt = 48 := rfl
  have e57 : (57 : Int32).toInt = 57 := rfl
  have e97 : (97 : Int32).toInt = 97 := rfl
  have e122 : (122 : Int32).toInt = 122 := rfl
  have em1 : (-1 : Int32).toInt = -1 := rfl
  unfold isL at hc
  have r1 : rHas tb ln p 97 122 = 0 := rHas_0 hln (by omega) hc
  have r2 : rHas tb ln p 48 57 = 0 := by
    rw [rHas_e (by decide) hln (by omega), here_e hln hp]
    by_cases a : (tb.getD p 0).toInt < (48 : Int32).toInt
    · rw [if_pos a]
    · rw [if_neg a, if_pos (by omega)]
  have n1 : tb.getD p 0 ≠ -1 := fun z => by rw [z] at hb; omega
  have rb : rtk tb ln p va2 = rblk tb ln p va2 := by
    unfold rtk rblk
    rw [here_e hln hp, if_pos n1]
    by_cases a : (tb.getD p 0).toInt < (97 : Int32).toInt
    · rw [if_pos a]
      by_cases b : (tb.getD p 0).toInt < (48 : Int32).toInt
      · rw [if_pos b]
      · have g : (57 : Int32).toInt < (tb.getD p 0).toInt := by omega
        rw [if_neg b, if_pos g]
    · have g : (122 : Int32).toInt < (tb.getD p 0).toInt := by omega
      have g2 : (57 : Int32).toInt < (tb.getD p 0).toInt := by omega
      rw [if_neg a, if_pos g, if_neg (show ¬ (tb.getD p 0).toInt < (48 : Int32).toInt by omega), if_pos g2]
  rw [rb]
  unfold ctk rblk
  rw [here_e hln hp, if_pos (show (nI p).toInt < (nI ln).toInt by omega), r1, if_pos rfl, r2, if_pos rfl, nI_clamp (by omega)]
  by_cases c59 : tb.getD p 0 = (59 : Int32)
  · have c45 : tb.getD p 0 ≠ (45 : Int32) := fun z => by rw [z] at c59; exact absurd c59 (by decide)
    rw [if_pos c45, if_neg (fun z => z c59), if_neg (fun z => z c59)]
    exact ⟨rfl, rfl, rfl, Or.inr (Or.inl ⟨rfl, rfl, rfl, rfl⟩)⟩
  · by_cases c45 : tb.getD p 0 = (45 : Int32)
    · have n45 : ¬ (tb.getD p 0 ≠ (45 : Int32)) := fun z => z c45
      have r3 := rHas_e (tb := tb) (ln := ln) (p := p + 1) (lo := 48) (hi := 57) (by decide) hln (by omega)
      simp only [if_neg n45, if_pos c59, r3]
      by_cases a : (mHere tb ln (p + 1)).toInt < (48 : Int32).toInt
      · simp only [if_pos a, if_pos rfl]
        exact ⟨rfl, rfl, rfl, Or.inr (Or.inr (Or.inl ⟨rfl, rfl⟩))⟩
      · by_cases b : (57 : Int32).toInt < (mHere tb ln (p + 1)).toInt
        · simp only [if_neg a, if_pos b, if_pos rfl]
          exact ⟨rfl, rfl, rfl, Or.inr (Or.inr (Or.inl ⟨rfl, rfl⟩))⟩
        · simp only [if_neg a, if_neg b]
          rw [if_neg (show ¬ (1 : Int32) = 0 by decide)]
          have d := dig_e hln ((ln - (p + 1)) + 1) (p + 1) 0 0 (by omega) (by omega) vR_0 (tb := tb)
          exact ⟨d.1, rfl, rfl, Or.inr (Or.inr (Or.inr (Or.inr (Or.inl ⟨rfl, rfl, _, _, rfl, rfl, d.2⟩))))⟩
    · rw [if_pos c45, if_pos c59, if_pos c59, if_pos c45]
      exact ⟨rfl, rfl, rfl, Or.inr (Or.inr (Or.inl ⟨rfl, rfl⟩))⟩
/-- both readers' next token -/
theorem tok_e {tb : List Int32} {ln nx : Nat} (hln : ln ≤ 700) (hx : nx ≤ ln) (hb : ∀ i, i < ln → 0 ≤ (tb.getD i 0).toInt) (kd sta va va2 : Int32) : ∃ p, nx ≤ p ∧ p ≤ ln ∧ tkR p va va2 (adG tb ln nx kd sta va) (mTok tb ln nx va2) := by
  obtain ⟨a, b, c⟩ := ad_sk (tb := tb) hln kd sta va ((ln - nx) + 1) nx hx (by omega)
  refine ⟨_, b, c, ?_⟩
  have e : adG tb ln nx kd sta va = ctk tb ln (mskF tb ln ((ln - nx) + 1) nx) kd va := by
    unfold adG
    rw [a]
  rw [e, mTok_s]
  revert b c
  generalize mskF tb ln ((ln - nx) + 1) nx = p
  intro b c
  by_cases h : p = ln
  · rw [h]; exact tk_end hln kd va va2
  · have hp : p < ln := by omega
    by_cases d : 48 ≤ (tb.getD p 0).toInt ∧ (tb.getD p 0).toInt ≤ 57
    · exact tk_dig hln hp kd va va2 d
    · by_cases l : isL tb p
      · exact tk_wrd hln hp kd va va2 l
      · exact tk_oth hln hp kd va va2 (hb p hp) d l
