/-! Runs by what holds behind them: a weakest-precondition form of zT, branches with both ways, heaps by what they hold and by what has not changed. -/
noncomputable def wq (y pc : Nat) (ls : zL) (st : List Value) (h : zH) (dc ds : Nat) (Q : zR → Prop) : Prop := ∃ r, zT zg0 zF zP y pc ls st h dc ds r ∧ Q r
/-- all that stood and isn't in S stands as it was -/
noncomputable def wFr (S : List Nat) (h h2 : zH) : Prop := h.length ≤ h2.length ∧ ∀ q e, q ∉ S → zat h q = some e → zat h2 q = some e
theorem wFr_rf (S : List Nat) (h : zH) : wFr S h h := ⟨Nat.le_refl _, fun _ _ _ k => k⟩
theorem wFr_tr {S : List Nat} {h h2 h3 : zH} (a : wFr S h h2) (b : wFr S h2 h3) : wFr S h h3 := ⟨Nat.le_trans a.1 b.1, fun q e hq k => b.2 q e hq (a.2 q e hq k)⟩
theorem wFr_sub {S T : List Nat} {h h2 : zH} (a : wFr S h h2) (hs : ∀ q ∈ S, q ∈ T) : wFr T h h2 := ⟨a.1, fun q e hq k => a.2 q e (fun hm => hq (hs q hm)) k⟩
theorem wn0 {q : Nat} : q ∉ ([] : List Nat) := List.not_mem_nil
theorem wn1 {q a : Nat} (h : q ≠ a) : q ∉ [a] := fun hm => by
  rcases List.mem_cons.mp hm with k | k
  · exact h k
  · exact absurd k List.not_mem_nil
theorem wnc {q a : Nat} {S : List Nat} (h : q ≠ a) (hs : q ∉ S) : q ∉ a :: S := fun hm => by
  rcases List.mem_cons.mp hm with k | k
  · exact h k
  · exact hs k
noncomputable def wsub : zL → zL → Prop
  | [], _ => True
  | q :: l, l2 => zlv l2 q.1 = some q.2 ∧ wsub l l2
theorem wsub_mem : ∀ {l l2 : zL}, wsub l l2 → ∀ q ∈ l, zlv l2 q.1 = some q.2
  | [], _, _ => fun q hq => absurd hq List.not_mem_nil
  | p :: l, l2, h => fun q hq => by
    rcases List.mem_cons.mp hq with k | k
    · rw [k]; exact h.1
    · exact wsub_mem h.2 q k
theorem zat_lt {h : zH} {q : Nat} {e : zE} (k : zat h q = some e) : q < 2 * h.length := by
  obtain ⟨h1, h2⟩ := zat_inv k
  have h3 := (List.getElem?_eq_some_iff.mp h2).1
  omega
theorem wFr_set {h : zH} {a : Nat} {e x : zE} (hat : zat h a = some e) : wFr [a] h (h.set (a / 2) x) := by
  refine ⟨by rw [List.length_set]; exact Nat.le_refl _, fun q e2 hq k => ?_⟩
  refine zatN k (fun hn => hq ?_)
  obtain ⟨h1, -⟩ := zat_inv hat
  obtain ⟨h2, -⟩ := zat_inv k
  have : q = a := by omega
  rw [this]
  exact List.mem_cons_self
theorem wFr_app {h : zH} {x : zE} : wFr [] h (h ++ [x]) := by
  refine ⟨by rw [List.length_append]; omega, fun q e2 hq k => ?_⟩
  obtain ⟨h1, h2⟩ := zat_inv k
  unfold zat
  rw [show (q % 2 == 0) = true by simp [h1]]
  show (h ++ [x])[q / 2]? = some e2
  rw [List.getElem?_append_left (List.getElem?_eq_some_iff.mp h2).1]
  exact h2
theorem zat_app {h : zH} {x : zE} : zat (h ++ [x]) (2 * h.length) = some x := by
  unfold zat
  rw [show (2 * h.length % 2 == 0) = true by simp]
  show (h ++ [x])[2 * h.length / 2]? = some x
  rw [show 2 * h.length / 2 = h.length by omega, List.getElem?_append_right (Nat.le_refl _)]
  simp
section WQ
variable {y pc pf : Nat} {ls : zL} {st rest : List Value} {h : zH} {dc ds : Nat} {Q : zR → Prop} {len : Nat} {K : zK} {tg : List Nat}
theorem wq_T {r : zR} (k : zT zg0 zF zP y pc ls st h dc ds r) (q : Q r) : wq y pc ls st h dc ds Q := ⟨r, k, q⟩
theorem wq_mono {Q2 : zR → Prop} (k : wq y pc ls st h dc ds Q) (hq : ∀ r, Q r → Q2 r) : wq y pc ls st h dc ds Q2 := by
  obtain ⟨r, a, b⟩ := k
  exact ⟨r, a, hq r b⟩
theorem wq_gos {f : Nat} (n : Nat) {pc2 : Nat} {ls2 : zL} {st2 : List Value} {h2 : zH} {dc2 ds2 : Nat} (hz : zgo zg0 zF zP f y n (pc, ls, st, h, dc, ds) = some (pc2, ls2, st2, h2, dc2, ds2)) (k : wq y pc2 ls2 st2 h2 dc2 ds2 Q) : wq y pc ls st h dc ds Q := by
  obtain ⟨r, a, b⟩ := k
  exact ⟨r, zT_gos n hz a, b⟩
theorem wq_ls (l1 : zL) (hn : (l1.map (fun q => q.1)).Nodup) (hs : wsub l1 ls) (k : wq y pc l1 st h dc ds Q) : wq y pc ls st h dc ds Q := by
  obtain ⟨r, a, b⟩ := k
  exact ⟨r, zT_ls l1 rfl hn (wsub_mem hs) a, b⟩
theorem wq_ret {i : Instr} {v : Option Value} (hP : zP y pc = some (i, len, K, tg)) (hi : zins zg0 zF tg i K len pc ls st h = some (.inr (.inr (.inl v)))) (q : Q (v, h, dc, ds)) : wq y pc ls st h dc ds Q := ⟨_, zT_ret hP hi, q⟩
theorem wq_step {i : Instr} {pc2 : Nat} {ls2 : zL} {st2 : List Value} {h2 : zH} (hP : zP y pc = some (i, len, K, tg)) (hi : zins zg0 zF tg i K len pc ls st h = some (.inl (pc2, ls2, st2, h2))) (k : wq y pc2 ls2 st2 h2 dc ds Q) : wq y pc ls st h dc ds Q := by
  obtain ⟨r, a, b⟩ := k
  exact ⟨r, zT_step hP hi a, b⟩
/-- a call, its callee as part of the run -/
theorem wq_inl {i : Instr} {y2 : Nat} {as : List Value} (hpf : pc + 3 = pf) (hP : zP y pc = some (i, len, K, tg)) (hi : zins zg0 zF tg i K len pc ls st h = some (.inr (.inl (y2, as, rest)))) (hc : wq y2 0 (lv_args 0 as) [] h 0 0 (fun r => wq y pf ls (r.1.toList ++ rest) r.2.1 (dc + r.2.2.1) (ds + r.2.2.2) Q)) : wq y pc ls st h dc ds Q := by
  subst hpf
  obtain ⟨r, a, r2, b, q⟩ := hc
  exact ⟨r2, zT_call hP hi a b, q⟩
theorem wq_inlv {q0 y2 b ci a : Nat} {as fs : List Value} (hpf : pc + 3 = pf) (hP : zP y pc = some (.invokevirtual q0, len, (y2, b, .retAddr ci), tg)) (has : (st.take (b % 64)).reverse = .ref a :: as) (hat : zat h a = some (.inr (.inr (.inr (ci, fs))))) (hcc : zcall y2 b st = some (.inr (.inl (y2, .ref a :: as, rest)))) (hc : wq y2 0 (lv_args 0 (.ref a :: as)) [] h 0 0 (fun r => wq y pf ls (r.1.toList ++ rest) r.2.1 (dc + r.2.2.1) (ds + r.2.2.2) Q)) : wq y pc ls st h dc ds Q := by
  subst hpf
  obtain ⟨r, k1, r2, k2, q⟩ := hc
  exact ⟨r2, zT_calv hP has hat hcc k1 k2, q⟩
theorem wq_irem {x z : Int32} (hP : zP y pc = some (.irem, len, K, tg)) (hz : z ≠ 0) (k : wq y (pc + 1) ls (.int (x - x / z * z) :: rest) h dc ds Q) : wq y pc ls (.int z :: .int x :: rest) h dc ds Q :=
  wq_step hP (by show ziid (fun x y => x - x / y * y) pc ls (.int z :: .int x :: rest) h = _; unfold ziid; dsimp only; rw [decide_eq_false hz]; rfl) k
theorem wq_idiv {x z : Int32} (hP : zP y pc = some (.idiv, len, K, tg)) (hz : z ≠ 0) (k : wq y (pc + 1) ls (.int (x / z) :: rest) h dc ds Q) : wq y pc ls (.int z :: .int x :: rest) h dc ds Q :=
  wq_step hP (by show ziid (fun x y => x / y) pc ls (.int z :: .int x :: rest) h = _; unfold ziid; dsimp only; rw [decide_eq_false hz]; rfl) k
theorem wq_getf {q0 ci k a : Nat} {w v : Value} {fs : List Value} (hP : zP y pc = some (.getfield q0, len, (ci, k, w), tg)) (hat : zat h a = some (.inr (.inr (.inr (ci, fs))))) (hf : fs[k]? = some v) (hpf : pc + 3 = pf) (kk : wq y pf ls (v :: rest) h dc ds Q) : wq y pc ls (.ref a :: rest) h dc ds Q := by
  subst hpf
  obtain ⟨r, k1, k2⟩ := kk
  exact ⟨r, zT_getf hP hat hf k1, k2⟩
theorem wq_putf {q0 ci k a t : Nat} {v : Value} {fs : List Value} (hP : zP y pc = some (.putfield q0, len, (ci, k, .retAddr t), tg)) (hat : zat h a = some (.inr (.inr (.inr (ci, fs))))) (hk : zkind v t = true) (hl : Nat.blt k fs.length = true) (hpf : pc + 3 = pf) (kk : ∀ h2 : zH, zat h2 a = some (.inr (.inr (.inr (ci, fs.set k v)))) → wFr [a] h h2 → h2.length = h.length → wq y pf ls rest h2 dc ds Q) : wq y pc ls (v :: .ref a :: rest) h dc ds Q := by
  subst hpf
  obtain ⟨r, k1, k2⟩ := kk _ (zatE hat) (wFr_set hat) List.length_set
  exact ⟨r, zT_putf hP hat hk hl k1, k2⟩
theorem wq_iald {i : Int32} {a n : Nat} {f : List Int32} (hP : zP y pc = some (.iaload, len, K, tg)) (hat : zat h a = some (.inl (0, n, f))) (hin : zin i n = true) (hpf : pc + 1 = pf) (k : wq y pf ls (.int (f.getD i.toNatClampNeg 0) :: rest) h dc ds Q) : wq y pc ls (.int i :: .ref a :: rest) h dc ds Q := by
  subst hpf
  obtain ⟨r, k1, k2⟩ := k
  exact ⟨r, zT_iald hP hat hin k1, k2⟩
theorem wq_lald {i : Int32} {a n : Nat} {f : List Int64} (hP : zP y pc = some (.laload, len, K, tg)) (hat : zat h a = some (.inr (.inl (n, f)))) (hin : zin i n = true) (hpf : pc + 1 = pf) (k : wq y pf ls (.long (f.getD i.toNatClampNeg 0) :: rest) h dc ds Q) : wq y pc ls (.int i :: .ref a :: rest) h dc ds Q := by
  subst hpf
  obtain ⟨r, k1, k2⟩ := k
  exact ⟨r, zT_lald hP hat hin k1, k2⟩
theorem wq_ialdc {i : Int32} {a n : Nat} {f : Nat → Int32} (hP : zP y pc = some (.iaload, len, K, tg)) (hat : (zat h a = none ∧ zct zg0 a = some (0, n, f))) (hin : zin i n = true) (hpf : pc + 1 = pf) (k : wq y pf ls (.int (f i.toNatClampNeg) :: rest) h dc ds Q) : wq y pc ls (.int i :: .ref a :: rest) h dc ds Q := by
  subst hpf
  obtain ⟨r, k1, k2⟩ := k
  exact ⟨r, zT_ialdc hP hat hin k1, k2⟩
theorem wq_iast {x i : Int32} {a n : Nat} {f : List Int32} (hP : zP y pc = some (.iastore, len, K, tg)) (hat : zat h a = some (.inl (0, n, f))) (hin : zin i n = true) (hpf : pc + 1 = pf) (k : ∀ h2 : zH, zat h2 a = some (.inl (0, n, zset 0 f i.toNatClampNeg x)) → wFr [a] h h2 → h2.length = h.length → wq y pf ls rest h2 dc ds Q) : wq y pc ls (.int x :: .int i :: .ref a :: rest) h dc ds Q := by
  subst hpf
  obtain ⟨r, k1, k2⟩ := k _ (zatE hat) (wFr_set hat) List.length_set
  exact ⟨r, zT_iast hP hat hin k1, k2⟩
theorem wq_last {x : Int64} {i : Int32} {a n : Nat} {f : List Int64} (hP : zP y pc = some (.lastore, len, K, tg)) (hat : zat h a = some (.inr (.inl (n, f)))) (hin : zin i n = true) (hpf : pc + 1 = pf) (k : ∀ h2 : zH, zat h2 a = some (.inr (.inl (n, zset 0 f i.toNatClampNeg x))) → wFr [a] h h2 → h2.length = h.length → wq y pf ls rest h2 dc ds Q) : wq y pc ls (.long x :: .int i :: .ref a :: rest) h dc ds Q := by
  subst hpf
  obtain ⟨r, k1, k2⟩ := k _ (zatE hat) (wFr_set hat) List.length_set
  exact ⟨r, zT_last hP hat hin k1, k2⟩
theorem wq_alen {a n : Nat} {f : List Int32} (hP : zP y pc = some (.arraylength, len, K, tg)) (hat : zat h a = some (.inl (0, n, f))) (hpf : pc + 1 = pf) (kk : wq y pf ls (.int (nI n) :: rest) h dc ds Q) : wq y pc ls (.ref a :: rest) h dc ds Q := by
  subst hpf
  obtain ⟨r, k1, k2⟩ := kk
  exact ⟨r, zT_alen (t := 0) hP hat k1, k2⟩
theorem wq_alenl {a n : Nat} {f : List Int64} (hP : zP y pc = some (.arraylength, len, K, tg)) (hat : zat h a = some (.inr (.inl (n, f)))) (hpf : pc + 1 = pf) (kk : wq y pf ls (.int (nI n) :: rest) h dc ds Q) : wq y pc ls (.ref a :: rest) h dc ds Q := by
  subst hpf
  obtain ⟨r, k1, k2⟩ := kk
  exact ⟨r, zT_alenl hP hat k1, k2⟩
theorem wq_new {i : Instr} {pc2 : Nat} {e : zE} (hP : zP y pc = some (i, len, K, tg)) (hi : zins zg0 zF tg i K len pc ls st h = some (.inr (.inr (.inr (pc2, rest, e))))) (k : ∀ h2 : zH, zat h2 (2 * h.length) = some e → wFr [] h h2 → h2.length = h.length + 1 → wq y pc2 ls (.ref (2 * h.length) :: rest) h2 (dc + 1) (ds + zsz e) Q) : wq y pc ls st h dc ds Q := by
  obtain ⟨r, k1, k2⟩ := k _ zat_app wFr_app (by rw [List.length_append]; rfl)
  exact ⟨r, zT_new hP hi k1, k2⟩
theorem wq_newl {i : Int32} {w : ClassFile.ArrayType} {k2 : Nat} {k3 : Value} (hP : zP y pc = some (.newarray w, 2, (3, k2, k3), tg)) (h0 : 0 ≤ i.toInt) (h1 : i.toInt ≤ 67108864) (hpf : pc + 2 = pf) (k : ∀ h2 : zH, zat h2 (2 * h.length) = some (.inr (.inl (i.toNatClampNeg, []))) → wFr [] h h2 → h2.length = h.length + 1 → wq y pf ls (.ref (2 * h.length) :: rest) h2 (dc + 1) (ds + i.toNatClampNeg) Q) : wq y pc ls (.int i :: rest) h dc ds Q := by
  subst hpf
  refine wq_new hP ?_ k
  show znewa 3 pc (.int i :: rest) = _
  unfold znewa
  (try dsimp only)
  rw [decide_eq_false (show ¬ i < 0 from fun q => by have := Int32.lt_iff_toInt_lt.mp q; simp at this; omega)]
  rw [show Nat.ble i.toNatClampNeg 67108864 = true from Nat.ble_eq_true_of_le (by show i.toInt.toNat ≤ 67108864; omega)]
  rfl
theorem w_clamp {i : Int32} (h : 0 ≤ i.toInt) : (i.toNatClampNeg : Int) = i.toInt := by
  show ((i.toInt.toNat : Nat) : Int) = i.toInt
  omega
theorem w_cplt {sp c : Int32} {n : Nat} (h0 : 0 ≤ sp.toInt) (h2 : 0 ≤ c.toInt) (h3 : sp.toInt + c.toInt ≤ n) : Nat.ble (sp.toNatClampNeg + c.toNatClampNeg) n = true := by
  have e1 := w_clamp h0
  have e2 := w_clamp h2
  exact Nat.ble_eq_true_of_le (by omega)
theorem w_nlt0 {i : Int32} (h : 0 ≤ i.toInt) : decide (i < 0) = false := decide_eq_false (fun q => by have := Int32.lt_iff_toInt_lt.mp q; simp at this; omega)
theorem wq_cpi {sp dp c : Int32} {a b n0 n1 q0 w1 w2 w3 : Nat} {f f1 : List Int32} (hP : zP y pc = some (.invokestatic q0, len, (w1, w2, .retAddr w3), tg)) (hb : zat h b = some (.inl (0, n0, f))) (ha : zat h a = some (.inl (0, n1, f1))) (h0 : 0 ≤ sp.toInt) (h1 : 0 ≤ dp.toInt) (h2 : 0 ≤ c.toInt) (h3 : sp.toInt + c.toInt ≤ n0) (h4 : dp.toInt + c.toInt ≤ n1) (hpf : pc + 3 = pf) (k : ∀ h2 : zH, zat h2 a = some (.inl (0, n1, zcpy 0 f f1 sp.toNatClampNeg dp.toNatClampNeg c.toNatClampNeg)) → wFr [a] h h2 → h2.length = h.length → wq y pf ls [] h2 dc ds Q) : wq y pc ls [.int c, .int dp, .ref a, .int sp, .ref b] h dc ds Q := by
  subst hpf
  have kk := k _ (zatE ha) (wFr_set ha) List.length_set
  refine wq_step hP ?_ kk
  show zcopy (pc + 3) ls [.int c, .int dp, .ref a, .int sp, .ref b] h = _
  unfold zcopy
  (try dsimp only)
  rw [w_nlt0 h0, w_nlt0 h1, w_nlt0 h2, hb, ha]
  show (bif Nat.ble (sp.toNatClampNeg + c.toNatClampNeg) n0 && Nat.ble (dp.toNatClampNeg + c.toNatClampNeg) n1 then zs (pc + 3) ls [] (h.set (a / 2) (.inl (0, n1, zcpy 0 f f1 sp.toNatClampNeg dp.toNatClampNeg c.toNatClampNeg))) else none) = _
  rw [w_cplt h0 h2 h3, w_cplt h1 h2 h4]
  rfl
theorem wq_cpl {sp dp c : Int32} {a b n0 n1 q0 w1 w2 w3 : Nat} {f f1 : List Int64} (hP : zP y pc = some (.invokestatic q0, len, (w1, w2, .retAddr w3), tg)) (hb : zat h b = some (.inr (.inl (n0, f)))) (ha : zat h a = some (.inr (.inl (n1, f1)))) (h0 : 0 ≤ sp.toInt) (h1 : 0 ≤ dp.toInt) (h2 : 0 ≤ c.toInt) (h3 : sp.toInt + c.toInt ≤ n0) (h4 : dp.toInt + c.toInt ≤ n1) (hpf : pc + 3 = pf) (k : ∀ h2 : zH, zat h2 a = some (.inr (.inl (n1, zcpy 0 f f1 sp.toNatClampNeg dp.toNatClampNeg c.toNatClampNeg))) → wFr [a] h h2 → h2.length = h.length → wq y pf ls [] h2 dc ds Q) : wq y pc ls [.int c, .int dp, .ref a, .int sp, .ref b] h dc ds Q := by
  subst hpf
  have kk := k _ (zatE ha) (wFr_set ha) List.length_set
  refine wq_step hP ?_ kk
  show zcopy (pc + 3) ls [.int c, .int dp, .ref a, .int sp, .ref b] h = _
  unfold zcopy
  (try dsimp only)
  rw [w_nlt0 h0, w_nlt0 h1, w_nlt0 h2, hb, ha]
  show (bif Nat.ble (sp.toNatClampNeg + c.toNatClampNeg) n0 && Nat.ble (dp.toNatClampNeg + c.toNatClampNeg) n1 then zs (pc + 3) ls [] (h.set (a / 2) (.inr (.inl (n1, zcpy 0 f f1 sp.toNatClampNeg dp.toNatClampNeg c.toNatClampNeg)))) else none) = _
  rw [w_cplt h0 h2 h3, w_cplt h1 h2 h4]
  rfl

theorem zin_nI {n N : Nat} (h : n < N) (hN : N < 2147483648) : zin (nI n) N = true := by
  have h1 := nI_toInt (n := n) (by omega)
  exact zin_t (by omega) (by omega)
theorem wq_ialdn {i a n : Nat} {f : List Int32} (hP : zP y pc = some (.iaload, len, K, tg)) (hat : zat h a = some (.inl (0, n, f))) (hin : i < n) (hN : n < 2147483648) (hpf : pc + 1 = pf) (k : wq y pf ls (.int (f.getD i 0) :: rest) h dc ds Q) : wq y pc ls (.int (nI i) :: .ref a :: rest) h dc ds Q :=
  wq_iald hP hat (zin_nI hin hN) hpf (by rw [nI_clamp (by omega)]; exact k)
theorem wq_laldn {i a n : Nat} {f : List Int64} (hP : zP y pc = some (.laload, len, K, tg)) (hat : zat h a = some (.inr (.inl (n, f)))) (hin : i < n) (hN : n < 2147483648) (hpf : pc + 1 = pf) (k : wq y pf ls (.long (f.getD i 0) :: rest) h dc ds Q) : wq y pc ls (.int (nI i) :: .ref a :: rest) h dc ds Q :=
  wq_lald hP hat (zin_nI hin hN) hpf (by rw [nI_clamp (by omega)]; exact k)
theorem wq_iastn {x : Int32} {i a n : Nat} {f : List Int32} (hP : zP y pc = some (.iastore, len, K, tg)) (hat : zat h a = some (.inl (0, n, f))) (hin : i < n) (hN : n < 2147483648) (hpf : pc + 1 = pf) (k : ∀ h2 : zH, zat h2 a = some (.inl (0, n, zset 0 f i x)) → wFr [a] h h2 → h2.length = h.length → wq y pf ls rest h2 dc ds Q) : wq y pc ls (.int x :: .int (nI i) :: .ref a :: rest) h dc ds Q :=
  wq_iast hP hat (zin_nI hin hN) hpf (by rw [nI_clamp (by omega)]; exact k)
theorem wq_lastn {x : Int64} {i a n : Nat} {f : List Int64} (hP : zP y pc = some (.lastore, len, K, tg)) (hat : zat h a = some (.inr (.inl (n, f)))) (hin : i < n) (hN : n < 2147483648) (hpf : pc + 1 = pf) (k : ∀ h2 : zH, zat h2 a = some (.inr (.inl (n, zset 0 f i x))) → wFr [a] h h2 → h2.length = h.length → wq y pf ls rest h2 dc ds Q) : wq y pc ls (.long x :: .int (nI i) :: .ref a :: rest) h dc ds Q :=
  wq_last hP hat (zin_nI hin hN) hpf (by rw [nI_clamp (by omega)]; exact k)
theorem wq_newln {n : Nat} {w : ClassFile.ArrayType} {k2 : Nat} {k3 : Value} (hP : zP y pc = some (.newarray w, 2, (3, k2, k3), tg)) (hn : n ≤ 67108864) (hpf : pc + 2 = pf) (k : ∀ h2 : zH, zat h2 (2 * h.length) = some (.inr (.inl (n, []))) → wFr [] h h2 → h2.length = h.length + 1 → wq y pf ls (.ref (2 * h.length) :: rest) h2 (dc + 1) (ds + n) Q) : wq y pc ls (.int (nI n) :: rest) h dc ds Q := by
  have h1 := nI_toInt (n := n) (by omega)
  exact wq_newl hP (by omega) (by omega) hpf (by rw [nI_clamp (by omega)]; exact k)
theorem wq_vi {x x2 : Int32} (e : x = x2) (k : wq y pc ls (.int x2 :: rest) h dc ds Q) : wq y pc ls (.int x :: rest) h dc ds Q := e ▸ k
theorem wq_vl {x x2 : Int64} (e : x = x2) (k : wq y pc ls (.long x2 :: rest) h dc ds Q) : wq y pc ls (.long x :: rest) h dc ds Q := e ▸ k
theorem wq_lt0t {off : Int} {t : Nat} {x : Int32} (hP : zP y pc = some (.ifCond .lt off, 3, (t, 0, .null), [])) (hb : x.toInt < 0) (kt : wq y t ls rest h dc ds Q) : wq y pc ls (.int x :: rest) h dc ds Q := by
  obtain ⟨r, k1, k2⟩ := kt
  exact ⟨r, zT_if0 true hP (zc_lt_t hb) k1, k2⟩
theorem wq_lt0f {off : Int} {t : Nat} {x : Int32} (hP : zP y pc = some (.ifCond .lt off, 3, (t, 0, .null), [])) (hpf : pc + 3 = pf) (hb : 0 ≤ x.toInt) (kf : wq y pf ls rest h dc ds Q) : wq y pc ls (.int x :: rest) h dc ds Q := by
  subst hpf
  obtain ⟨r, k1, k2⟩ := kf
  exact ⟨r, zT_if0 false hP (zc_lt_f hb) k1, k2⟩
theorem wq_lt0 {off : Int} {t : Nat} {x : Int32} (hP : zP y pc = some (.ifCond .lt off, 3, (t, 0, .null), [])) (hpf : pc + 3 = pf) (kt : x.toInt < 0 → wq y t ls rest h dc ds Q) (kf : 0 ≤ x.toInt → wq y pf ls rest h dc ds Q) : wq y pc ls (.int x :: rest) h dc ds Q := by
  by_cases hb : x.toInt < 0
  · exact wq_lt0t hP hb (kt hb)
  · exact wq_lt0f hP hpf (Int.not_lt.mp hb) (kf (Int.not_lt.mp hb))
theorem wq_lt2t {off : Int} {t : Nat} {x z : Int32} (hP : zP y pc = some (.if_icmp .lt off, 3, (t, 0, .null), [])) (hb : x.toInt < z.toInt) (kt : wq y t ls rest h dc ds Q) : wq y pc ls (.int z :: .int x :: rest) h dc ds Q := by
  obtain ⟨r, k1, k2⟩ := kt
  exact ⟨r, zT_if2 true hP (zc_lt_t hb) k1, k2⟩
theorem wq_lt2f {off : Int} {t : Nat} {x z : Int32} (hP : zP y pc = some (.if_icmp .lt off, 3, (t, 0, .null), [])) (hpf : pc + 3 = pf) (hb : z.toInt ≤ x.toInt) (kf : wq y pf ls rest h dc ds Q) : wq y pc ls (.int z :: .int x :: rest) h dc ds Q := by
  subst hpf
  obtain ⟨r, k1, k2⟩ := kf
  exact ⟨r, zT_if2 false hP (zc_lt_f hb) k1, k2⟩
theorem wq_lt2 {off : Int} {t : Nat} {x z : Int32} (hP : zP y pc = some (.if_icmp .lt off, 3, (t, 0, .null), [])) (hpf : pc + 3 = pf) (kt : x.toInt < z.toInt → wq y t ls rest h dc ds Q) (kf : z.toInt ≤ x.toInt → wq y pf ls rest h dc ds Q) : wq y pc ls (.int z :: .int x :: rest) h dc ds Q := by
  by_cases hb : x.toInt < z.toInt
  · exact wq_lt2t hP hb (kt hb)
  · exact wq_lt2f hP hpf (Int.not_lt.mp hb) (kf (Int.not_lt.mp hb))
theorem wq_ge0t {off : Int} {t : Nat} {x : Int32} (hP : zP y pc = some (.ifCond .ge off, 3, (t, 0, .null), [])) (hb : 0 ≤ x.toInt) (kt : wq y t ls rest h dc ds Q) : wq y pc ls (.int x :: rest) h dc ds Q := by
  obtain ⟨r, k1, k2⟩ := kt
  exact ⟨r, zT_if0 true hP (zc_ge_t hb) k1, k2⟩
theorem wq_ge0f {off : Int} {t : Nat} {x : Int32} (hP : zP y pc = some (.ifCond .ge off, 3, (t, 0, .null), [])) (hpf : pc + 3 = pf) (hb : x.toInt < 0) (kf : wq y pf ls rest h dc ds Q) : wq y pc ls (.int x :: rest) h dc ds Q := by
  subst hpf
  obtain ⟨r, k1, k2⟩ := kf
  exact ⟨r, zT_if0 false hP (zc_ge_f hb) k1, k2⟩
theorem wq_ge0 {off : Int} {t : Nat} {x : Int32} (hP : zP y pc = some (.ifCond .ge off, 3, (t, 0, .null), [])) (hpf : pc + 3 = pf) (kt : 0 ≤ x.toInt → wq y t ls rest h dc ds Q) (kf : x.toInt < 0 → wq y pf ls rest h dc ds Q) : wq y pc ls (.int x :: rest) h dc ds Q := by
  by_cases hb : 0 ≤ x.toInt
  · exact wq_ge0t hP hb (kt hb)
  · exact wq_ge0f hP hpf (Int.not_le.mp hb) (kf (Int.not_le.mp hb))
theorem wq_ge2t {off : Int} {t : Nat} {x z : Int32} (hP : zP y pc = some (.if_icmp .ge off, 3, (t, 0, .null), [])) (hb : z.toInt ≤ x.toInt) (kt : wq y t ls rest h dc ds Q) : wq y pc ls (.int z :: .int x :: rest) h dc ds Q := by
  obtain ⟨r, k1, k2⟩ := kt
  exact ⟨r, zT_if2 true hP (zc_ge_t hb) k1, k2⟩
theorem wq_ge2f {off : Int} {t : Nat} {x z : Int32} (hP : zP y pc = some (.if_icmp .ge off, 3, (t, 0, .null), [])) (hpf : pc + 3 = pf) (hb : x.toInt < z.toInt) (kf : wq y pf ls rest h dc ds Q) : wq y pc ls (.int z :: .int x :: rest) h dc ds Q := by
  subst hpf
  obtain ⟨r, k1, k2⟩ := kf
  exact ⟨r, zT_if2 false hP (zc_ge_f hb) k1, k2⟩
theorem wq_ge2 {off : Int} {t : Nat} {x z : Int32} (hP : zP y pc = some (.if_icmp .ge off, 3, (t, 0, .null), [])) (hpf : pc + 3 = pf) (kt : z.toInt ≤ x.toInt → wq y t ls rest h dc ds Q) (kf : x.toInt < z.toInt → wq y pf ls rest h dc ds Q) : wq y pc ls (.int z :: .int x :: rest) h dc ds Q := by
  by_cases hb : z.toInt ≤ x.toInt
  · exact wq_ge2t hP hb (kt hb)
  · exact wq_ge2f hP hpf (Int.not_le.mp hb) (kf (Int.not_le.mp hb))
theorem wq_gt0t {off : Int} {t : Nat} {x : Int32} (hP : zP y pc = some (.ifCond .gt off, 3, (t, 0, .null), [])) (hb : 0 < x.toInt) (kt : wq y t ls rest h dc ds Q) : wq y pc ls (.int x :: rest) h dc ds Q := by
  obtain ⟨r, k1, k2⟩ := kt
  exact ⟨r, zT_if0 true hP (zc_gt_t hb) k1, k2⟩
theorem wq_gt0f {off : Int} {t : Nat} {x : Int32} (hP : zP y pc = some (.ifCond .gt off, 3, (t, 0, .null), [])) (hpf : pc + 3 = pf) (hb : x.toInt ≤ 0) (kf : wq y pf ls rest h dc ds Q) : wq y pc ls (.int x :: rest) h dc ds Q := by
  subst hpf
  obtain ⟨r, k1, k2⟩ := kf
  exact ⟨r, zT_if0 false hP (zc_gt_f hb) k1, k2⟩
theorem wq_gt0 {off : Int} {t : Nat} {x : Int32} (hP : zP y pc = some (.ifCond .gt off, 3, (t, 0, .null), [])) (hpf : pc + 3 = pf) (kt : 0 < x.toInt → wq y t ls rest h dc ds Q) (kf : x.toInt ≤ 0 → wq y pf ls rest h dc ds Q) : wq y pc ls (.int x :: rest) h dc ds Q := by
  by_cases hb : 0 < x.toInt
  · exact wq_gt0t hP hb (kt hb)
  · exact wq_gt0f hP hpf (Int.not_lt.mp hb) (kf (Int.not_lt.mp hb))
theorem wq_gt2t {off : Int} {t : Nat} {x z : Int32} (hP : zP y pc = some (.if_icmp .gt off, 3, (t, 0, .null), [])) (hb : z.toInt < x.toInt) (kt : wq y t ls rest h dc ds Q) : wq y pc ls (.int z :: .int x :: rest) h dc ds Q := by
  obtain ⟨r, k1, k2⟩ := kt
  exact ⟨r, zT_if2 true hP (zc_gt_t hb) k1, k2⟩
theorem wq_gt2f {off : Int} {t : Nat} {x z : Int32} (hP : zP y pc = some (.if_icmp .gt off, 3, (t, 0, .null), [])) (hpf : pc + 3 = pf) (hb : x.toInt ≤ z.toInt) (kf : wq y pf ls rest h dc ds Q) : wq y pc ls (.int z :: .int x :: rest) h dc ds Q := by
  subst hpf
  obtain ⟨r, k1, k2⟩ := kf
  exact ⟨r, zT_if2 false hP (zc_gt_f hb) k1, k2⟩
theorem wq_gt2 {off : Int} {t : Nat} {x z : Int32} (hP : zP y pc = some (.if_icmp .gt off, 3, (t, 0, .null), [])) (hpf : pc + 3 = pf) (kt : z.toInt < x.toInt → wq y t ls rest h dc ds Q) (kf : x.toInt ≤ z.toInt → wq y pf ls rest h dc ds Q) : wq y pc ls (.int z :: .int x :: rest) h dc ds Q := by
  by_cases hb : z.toInt < x.toInt
  · exact wq_gt2t hP hb (kt hb)
  · exact wq_gt2f hP hpf (Int.not_lt.mp hb) (kf (Int.not_lt.mp hb))
theorem wq_le0t {off : Int} {t : Nat} {x : Int32} (hP : zP y pc = some (.ifCond .le off, 3, (t, 0, .null), [])) (hb : x.toInt ≤ 0) (kt : wq y t ls rest h dc ds Q) : wq y pc ls (.int x :: rest) h dc ds Q := by
  obtain ⟨r, k1, k2⟩ := kt
  exact ⟨r, zT_if0 true hP (zc_le_t hb) k1, k2⟩
theorem wq_le0f {off : Int} {t : Nat} {x : Int32} (hP : zP y pc = some (.ifCond .le off, 3, (t, 0, .null), [])) (hpf : pc + 3 = pf) (hb : 0 < x.toInt) (kf : wq y pf ls rest h dc ds Q) : wq y pc ls (.int x :: rest) h dc ds Q := by
  subst hpf
  obtain ⟨r, k1, k2⟩ := kf
  exact ⟨r, zT_if0 false hP (zc_le_f hb) k1, k2⟩
theorem wq_le0 {off : Int} {t : Nat} {x : Int32} (hP : zP y pc = some (.ifCond .le off, 3, (t, 0, .null), [])) (hpf : pc + 3 = pf) (kt : x.toInt ≤ 0 → wq y t ls rest h dc ds Q) (kf : 0 < x.toInt → wq y pf ls rest h dc ds Q) : wq y pc ls (.int x :: rest) h dc ds Q := by
  by_cases hb : x.toInt ≤ 0
  · exact wq_le0t hP hb (kt hb)
  · exact wq_le0f hP hpf (Int.not_le.mp hb) (kf (Int.not_le.mp hb))
theorem wq_le2t {off : Int} {t : Nat} {x z : Int32} (hP : zP y pc = some (.if_icmp .le off, 3, (t, 0, .null), [])) (hb : x.toInt ≤ z.toInt) (kt : wq y t ls rest h dc ds Q) : wq y pc ls (.int z :: .int x :: rest) h dc ds Q := by
  obtain ⟨r, k1, k2⟩ := kt
  exact ⟨r, zT_if2 true hP (zc_le_t hb) k1, k2⟩
theorem wq_le2f {off : Int} {t : Nat} {x z : Int32} (hP : zP y pc = some (.if_icmp .le off, 3, (t, 0, .null), [])) (hpf : pc + 3 = pf) (hb : z.toInt < x.toInt) (kf : wq y pf ls rest h dc ds Q) : wq y pc ls (.int z :: .int x :: rest) h dc ds Q := by
  subst hpf
  obtain ⟨r, k1, k2⟩ := kf
  exact ⟨r, zT_if2 false hP (zc_le_f hb) k1, k2⟩
theorem wq_le2 {off : Int} {t : Nat} {x z : Int32} (hP : zP y pc = some (.if_icmp .le off, 3, (t, 0, .null), [])) (hpf : pc + 3 = pf) (kt : x.toInt ≤ z.toInt → wq y t ls rest h dc ds Q) (kf : z.toInt < x.toInt → wq y pf ls rest h dc ds Q) : wq y pc ls (.int z :: .int x :: rest) h dc ds Q := by
  by_cases hb : x.toInt ≤ z.toInt
  · exact wq_le2t hP hb (kt hb)
  · exact wq_le2f hP hpf (Int.not_le.mp hb) (kf (Int.not_le.mp hb))
theorem wq_eq0t {off : Int} {t : Nat} {x : Int32} (hP : zP y pc = some (.ifCond .eq off, 3, (t, 0, .null), [])) (hb : x = (0 : Int32)) (kt : wq y t ls rest h dc ds Q) : wq y pc ls (.int x :: rest) h dc ds Q := by
  obtain ⟨r, k1, k2⟩ := kt
  exact ⟨r, zT_if0 true hP (decide_eq_true hb) k1, k2⟩
theorem wq_eq0f {off : Int} {t : Nat} {x : Int32} (hP : zP y pc = some (.ifCond .eq off, 3, (t, 0, .null), [])) (hpf : pc + 3 = pf) (hb : x ≠ (0 : Int32)) (kf : wq y pf ls rest h dc ds Q) : wq y pc ls (.int x :: rest) h dc ds Q := by
  subst hpf
  obtain ⟨r, k1, k2⟩ := kf
  exact ⟨r, zT_if0 false hP (decide_eq_false hb) k1, k2⟩
theorem wq_eq0 {off : Int} {t : Nat} {x : Int32} (hP : zP y pc = some (.ifCond .eq off, 3, (t, 0, .null), [])) (hpf : pc + 3 = pf) (kt : x = (0 : Int32) → wq y t ls rest h dc ds Q) (kf : x ≠ (0 : Int32) → wq y pf ls rest h dc ds Q) : wq y pc ls (.int x :: rest) h dc ds Q := by
  by_cases hb : x = (0 : Int32)
  · exact wq_eq0t hP hb (kt hb)
  · exact wq_eq0f hP hpf hb (kf hb)
theorem wq_eq2t {off : Int} {t : Nat} {x z : Int32} (hP : zP y pc = some (.if_icmp .eq off, 3, (t, 0, .null), [])) (hb : x = z) (kt : wq y t ls rest h dc ds Q) : wq y pc ls (.int z :: .int x :: rest) h dc ds Q := by
  obtain ⟨r, k1, k2⟩ := kt
  exact ⟨r, zT_if2 true hP (decide_eq_true hb) k1, k2⟩
theorem wq_eq2f {off : Int} {t : Nat} {x z : Int32} (hP : zP y pc = some (.if_icmp .eq off, 3, (t, 0, .null), [])) (hpf : pc + 3 = pf) (hb : x ≠ z) (kf : wq y pf ls rest h dc ds Q) : wq y pc ls (.int z :: .int x :: rest) h dc ds Q := by
  subst hpf
  obtain ⟨r, k1, k2⟩ := kf
  exact ⟨r, zT_if2 false hP (decide_eq_false hb) k1, k2⟩
theorem wq_eq2 {off : Int} {t : Nat} {x z : Int32} (hP : zP y pc = some (.if_icmp .eq off, 3, (t, 0, .null), [])) (hpf : pc + 3 = pf) (kt : x = z → wq y t ls rest h dc ds Q) (kf : x ≠ z → wq y pf ls rest h dc ds Q) : wq y pc ls (.int z :: .int x :: rest) h dc ds Q := by
  by_cases hb : x = z
  · exact wq_eq2t hP hb (kt hb)
  · exact wq_eq2f hP hpf hb (kf hb)
theorem wq_ne0t {off : Int} {t : Nat} {x : Int32} (hP : zP y pc = some (.ifCond .ne off, 3, (t, 0, .null), [])) (hb : x ≠ (0 : Int32)) (kt : wq y t ls rest h dc ds Q) : wq y pc ls (.int x :: rest) h dc ds Q := by
  obtain ⟨r, k1, k2⟩ := kt
  exact ⟨r, zT_if0 true hP ((by show (!decide (x = (0 : Int32))) = true; rw [decide_eq_false hb]; rfl)) k1, k2⟩
theorem wq_ne0f {off : Int} {t : Nat} {x : Int32} (hP : zP y pc = some (.ifCond .ne off, 3, (t, 0, .null), [])) (hpf : pc + 3 = pf) (hb : x = (0 : Int32)) (kf : wq y pf ls rest h dc ds Q) : wq y pc ls (.int x :: rest) h dc ds Q := by
  subst hpf
  obtain ⟨r, k1, k2⟩ := kf
  exact ⟨r, zT_if0 false hP ((by show (!decide (x = (0 : Int32))) = false; rw [decide_eq_true hb]; rfl)) k1, k2⟩
theorem wq_ne0 {off : Int} {t : Nat} {x : Int32} (hP : zP y pc = some (.ifCond .ne off, 3, (t, 0, .null), [])) (hpf : pc + 3 = pf) (kt : x ≠ (0 : Int32) → wq y t ls rest h dc ds Q) (kf : x = (0 : Int32) → wq y pf ls rest h dc ds Q) : wq y pc ls (.int x :: rest) h dc ds Q := by
  by_cases hb : x ≠ (0 : Int32)
  · exact wq_ne0t hP hb (kt hb)
  · exact wq_ne0f hP hpf (Decidable.not_not.mp hb) (kf (Decidable.not_not.mp hb))
theorem wq_ne2t {off : Int} {t : Nat} {x z : Int32} (hP : zP y pc = some (.if_icmp .ne off, 3, (t, 0, .null), [])) (hb : x ≠ z) (kt : wq y t ls rest h dc ds Q) : wq y pc ls (.int z :: .int x :: rest) h dc ds Q := by
  obtain ⟨r, k1, k2⟩ := kt
  exact ⟨r, zT_if2 true hP ((by show (!decide (x = z)) = true; rw [decide_eq_false hb]; rfl)) k1, k2⟩
theorem wq_ne2f {off : Int} {t : Nat} {x z : Int32} (hP : zP y pc = some (.if_icmp .ne off, 3, (t, 0, .null), [])) (hpf : pc + 3 = pf) (hb : x = z) (kf : wq y pf ls rest h dc ds Q) : wq y pc ls (.int z :: .int x :: rest) h dc ds Q := by
  subst hpf
  obtain ⟨r, k1, k2⟩ := kf
  exact ⟨r, zT_if2 false hP ((by show (!decide (x = z)) = false; rw [decide_eq_true hb]; rfl)) k1, k2⟩
theorem wq_ne2 {off : Int} {t : Nat} {x z : Int32} (hP : zP y pc = some (.if_icmp .ne off, 3, (t, 0, .null), [])) (hpf : pc + 3 = pf) (kt : x ≠ z → wq y t ls rest h dc ds Q) (kf : x = z → wq y pf ls rest h dc ds Q) : wq y pc ls (.int z :: .int x :: rest) h dc ds Q := by
  by_cases hb : x ≠ z
  · exact wq_ne2t hP hb (kt hb)
  · exact wq_ne2f hP hpf (Decidable.not_not.mp hb) (kf (Decidable.not_not.mp hb))
end WQ
