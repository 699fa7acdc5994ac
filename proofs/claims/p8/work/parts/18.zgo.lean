theorem zgo_st {g : zCt} {F : zFs} {P : zCd} {f y n : Nat} {s s2 s3 : zS6} (h1 : zone g F P f y s = some s2) (h2 : zgo g F P f y n s2 = some s3) : zgo g F P f y (n + 1) s = some s3 := by
  unfold zgo
  rw [h1]
  exact h2
theorem zone_cal {g : zCt} {F : zFs} {P : zCd} {f y pc dc ds y2 d1 s1 len : Nat} {ls : zL} {st as rest : List Value} {h h2 : zH} {v : Option Value} {i : Instr} {K : zK} {tg : List Nat} (hP : P y pc = some (i, len, K, tg)) (hi : zins g F tg i K len pc ls st h = some (.inr (.inl (y2, as, rest)))) (hc : zrun g F P f y2 0 (lv_args 0 as) [] h 0 0 = some (v, h2, d1, s1)) : zone g F P f y (pc, ls, st, h, dc, ds) = some (pc + 3, ls, v.toList ++ rest, h2, dc + d1, ds + s1) := by
  simp only [zone, hP, hi, hc]
theorem zone_stp {g : zCt} {F : zFs} {P : zCd} {f y pc dc ds pc2 len : Nat} {ls ls2 : zL} {st st2 : List Value} {h h2 : zH} {i : Instr} {K : zK} {tg : List Nat} (hP : P y pc = some (i, len, K, tg)) (hi : zins g F tg i K len pc ls st h = some (.inl (pc2, ls2, st2, h2))) : zone g F P f y (pc, ls, st, h, dc, ds) = some (pc2, ls2, st2, h2, dc, ds) := by
  simp only [zone, hP, hi]
