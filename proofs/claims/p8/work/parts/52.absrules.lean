/-! Rules over a heap that is a variable. -/
theorem zatN {h : zH} {a k : Nat} {e x : zE} (hz : zat h a = some e) (hn : a / 2 ≠ k) : zat (h.set k x) a = some e := by
  obtain ⟨h1, h2⟩ := zat_inv hz
  unfold zat
  rw [show (a % 2 == 0) = true by simp [h1]]
  show (h.set k x)[a / 2]? = some e
  rw [List.getElem?_set_ne (fun q => hn q.symm)]
  exact h2
theorem zatE {h : zH} {a : Nat} {e x : zE} (hz : zat h a = some e) : zat (h.set (a / 2) x) a = some x := by
  obtain ⟨h1, h2⟩ := zat_inv hz
  unfold zat
  rw [show (a % 2 == 0) = true by simp [h1]]
  show (h.set (a / 2) x)[a / 2]? = some x
  exact List.getElem?_set_self (List.getElem?_eq_some_iff.mp h2).1
section ZABS
variable {g : zCt} {F : zFs} {P : zCd} {y pc : Nat} {ls : zL} {rest : List Value} {h : zH} {dc ds : Nat} {r : zR} {K : zK} {tg : List Nat} {len : Nat}
theorem zT_getf {q ci k a : Nat} {w v : Value} {fs : List Value} (hP : P y pc = some (.getfield q, len, (ci, k, w), tg)) (hat : zat h a = some (.inr (.inr (.inr (ci, fs))))) (hf : fs[k]? = some v) (kk : zT g F P y (pc + 3) ls (v :: rest) h dc ds r) : zT g F P y pc ls (.ref a :: rest) h dc ds r :=
  zT_step hP (by show zget ci k pc ls (.ref a :: rest) h = _; unfold zget; (try dsimp only); rw [hat]; (try dsimp only); rw [show (ci == ci) = true by simp, hf]; rfl) kk
theorem zT_putf {q ci k a t : Nat} {v : Value} {fs : List Value} (hP : P y pc = some (.putfield q, len, (ci, k, .retAddr t), tg)) (hat : zat h a = some (.inr (.inr (.inr (ci, fs))))) (hk : zkind v t = true) (hl : Nat.blt k fs.length = true) (kk : zT g F P y (pc + 3) ls rest (h.set (a / 2) (.inr (.inr (.inr (ci, fs.set k v))))) dc ds r) : zT g F P y pc ls (v :: .ref a :: rest) h dc ds r :=
  zT_step hP (by show zput ci k t pc ls (v :: .ref a :: rest) h = _; unfold zput; (try dsimp only); rw [hk, hat]; (try dsimp only); rw [show (ci == ci) = true by simp, hl]; rfl) kk
theorem zT_alen {a n t : Nat} {f : List Int32} (hP : P y pc = some (.arraylength, len, K, tg)) (hat : zat h a = some (.inl (0, n, f))) (kk : zT g F P y (pc + 1) ls (.int (Int32.ofNat n) :: rest) h dc ds r) : zT g F P y pc ls (.ref a :: rest) h dc ds r :=
  zT_step hP (by show zalen g pc ls (.ref a :: rest) h = _; unfold zalen; (try dsimp only); rw [hat]; rfl) kk
theorem zT_alenl {a n : Nat} {f : List Int64} (hP : P y pc = some (.arraylength, len, K, tg)) (hat : zat h a = some (.inr (.inl (n, f)))) (kk : zT g F P y (pc + 1) ls (.int (Int32.ofNat n) :: rest) h dc ds r) : zT g F P y pc ls (.ref a :: rest) h dc ds r :=
  zT_step hP (by show zalen g pc ls (.ref a :: rest) h = _; unfold zalen; (try dsimp only); rw [hat]; rfl) kk
theorem zT_calv {q y2 b ci a : Nat} {st as : List Value} {fs : List Value} {v : Option Value} {h2 : zH} {d1 s1 : Nat} (hP : P y pc = some (.invokevirtual q, len, (y2, b, .retAddr ci), tg)) (has : (st.take (b % 64)).reverse = .ref a :: as) (hat : zat h a = some (.inr (.inr (.inr (ci, fs))))) (hcc : zcall y2 b st = some (.inr (.inl (y2, .ref a :: as, rest)))) (hc : zT g F P y2 0 (lv_args 0 (.ref a :: as)) [] h 0 0 (v, h2, d1, s1)) (k : zT g F P y (pc + 3) ls (v.toList ++ rest) h2 (dc + d1) (ds + s1) r) : zT g F P y pc ls st h dc ds r :=
  zT_call hP (by
    show zcallV y2 b ci st h = _
    unfold zcallV
    rw [has, show zrecv ci (.ref a :: as) h = true by unfold zrecv; (try dsimp only); rw [hat]; simp, hcc]
    rfl) hc k
end ZABS
