/-! Solver.addFold, fold: the list of shoulders and elbows by which z is as wanted. -/
/-- the four rows hold these pairs, in order -/
noncomputable def wFo (p lk hd : Int32) (FL : List (Int32 × Int32)) (sh el wr ou : List Int32) : Prop := ∀ i q, FL[i]? = some q → sh.getD i 0 = q.1 ∧ el.getD i 0 = q.2 ∧ wr.getD i 0 = jw (p - (q.1 + q.2)) ∧ ou.getD i 0 = jout lk hd q.1 (q.1 + q.2) p
theorem wFo_nil (p lk hd : Int32) (sh el wr ou : List Int32) : wFo p lk hd [] sh el wr ou := fun i q h => by simp at h
theorem wFo_snoc {p lk hd : Int32} {FL : List (Int32 × Int32)} {sh el wr ou : List Int32} (h : wFo p lk hd FL sh el wr ou) (a e : Int32) : wFo p lk hd (FL ++ [(a, e)]) (zset 0 sh FL.length a) (zset 0 el FL.length e) (zset 0 wr FL.length (jw (p - (a + e)))) (zset 0 ou FL.length (jout lk hd a (a + e) p)) := by
  intro i q hq
  rw [zset_get, zset_get, zset_get, zset_get]
  by_cases hi : i < FL.length
  · rw [List.getElem?_append_left hi] at hq
    have hn : ¬ i = FL.length := by omega
    rw [if_neg hn, if_neg hn, if_neg hn, if_neg hn]
    exact h i q hq
  · rw [List.getElem?_append_right (by omega)] at hq
    have h0 : i - FL.length = 0 := by
      have := (List.getElem?_eq_some_iff.mp hq).1
      simp at this
      omega
    rw [h0] at hq
    cases hq
    have hn : i = FL.length := by omega
    rw [if_pos hn, if_pos hn, if_pos hn, if_pos hn]
    exact ⟨rfl, rfl, rfl, rfl⟩
set_option maxHeartbeats 4000000 in
theorem c_addFold {h : zH} {ra rl rg rv rn rp rw : Nat} {lk hd ht bl sd sp so : Int32} {rt : Int64} {rh rs : Nat} {sh el wr ou : List Int32} {p : Int32} {FL : List (Int32 × Int32)} (hA : zat h ra = some (.inr (.inr (.inr (0, [.int lk, .int hd, .int ht, .int bl, .int sd, .long rt, .ref rl, .ref rg, .ref rv, .int sp, .ref rn, .ref rp, .int so, .ref rw]))))) (hS : zat h 44 = some (.inr (.inr (.inr (7, [.ref ra, .ref rh, .ref 46, .int (nI FL.length), .ref 48, .ref 50, .ref 52, .ref 54, .ref 56, .ref rs]))))) (h48 : zat h 48 = some (.inl (0, 128, sh))) (h50 : zat h 50 = some (.inl (0, 128, el))) (h52 : zat h 52 = some (.inl (0, 128, wr))) (h54 : zat h 54 = some (.inl (0, 128, ou))) (ha : ra ≠ 44 ∧ ra ≠ 48 ∧ ra ≠ 50 ∧ ra ≠ 52 ∧ ra ≠ 54) (hF : wFo p lk hd FL sh el wr ou) (hn : FL.length < 128) (a e : Int32) : wq 87 0 [(0, .ref 44), (1, .int p), (2, .int a), (3, .int e)] [] h 0 0 (fun r => ∃ (h2 : zH) (sh2 el2 wr2 ou2 : List Int32), r = (none, h2, 0, 0) ∧ wFr [44, 48, 50, 52, 54] h h2 ∧ h2.length = h.length ∧ zat h2 44 = some (.inr (.inr (.inr (7, [.ref ra, .ref rh, .ref 46, .int (nI (FL.length + 1)), .ref 48, .ref 50, .ref 52, .ref 54, .ref 56, .ref rs])))) ∧ zat h2 48 = some (.inl (0, 128, sh2)) ∧ zat h2 50 = some (.inl (0, 128, el2)) ∧ zat h2 52 = some (.inl (0, 128, wr2)) ∧ zat h2 54 = some (.inl (0, 128, ou2)) ∧ wFo p lk hd (FL ++ [(a, e)]) sh2 el2 wr2 ou2) := by
  have hi := nI_toInt (n := FL.length) (by omega)
  refine wq_gos (f := 1) (pc2 := 1) (ls2 := [(0, .ref 44), (1, .int p), (2, .int a), (3, .int e)]) (st2 := [.ref 44]) (h2 := h) (dc2 := 0) (ds2 := 0) 1 rfl ?_
  refine wq_getf rfl hS rfl rfl ?_
  refine wq_gos (f := 1) (pc2 := 7) (ls2 := [(0, .ref 44), (1, .int p), (2, .int a), (3, .int e)]) (st2 := [.int 128, .int (nI FL.length)]) (h2 := h) (dc2 := 0) (ds2 := 0) 1 rfl ?_
  refine wq_lt2t rfl (by rw [hi]; exact Int.ofNat_lt.mpr hn) ?_
  refine wq_gos (f := 1) (pc2 := 17) (ls2 := [(4, .int (a + e)), (0, .ref 44), (1, .int p), (2, .int a), (3, .int e)]) (st2 := [.ref 44]) (h2 := h) (dc2 := 0) (ds2 := 0) 5 rfl ?_
  refine wq_getf rfl hS rfl rfl ?_
  refine wq_gos (f := 1) (pc2 := 21) (ls2 := [(4, .int (a + e)), (0, .ref 44), (1, .int p), (2, .int a), (3, .int e)]) (st2 := [.ref 44, .ref 48]) (h2 := h) (dc2 := 0) (ds2 := 0) 1 rfl ?_
  refine wq_getf rfl hS rfl rfl ?_
  refine wq_gos (f := 1) (pc2 := 25) (ls2 := [(4, .int (a + e)), (0, .ref 44), (1, .int p), (2, .int a), (3, .int e)]) (st2 := [.int a, .int (nI FL.length), .ref 48]) (h2 := h) (dc2 := 0) (ds2 := 0) 1 rfl ?_
  refine wq_iastn rfl h48 hn (by decide) rfl ?_
  intro h1x e2x f3x l4x
  have e2x : zat h1x 48 = some (.inl (0, 128, (zset 0 sh FL.length a))) := e2x
  refine wq_gos (f := 1) (pc2 := 27) (ls2 := [(4, .int (a + e)), (0, .ref 44), (1, .int p), (2, .int a), (3, .int e)]) (st2 := [.ref 44]) (h2 := h1x) (dc2 := 0) (ds2 := 0) 1 rfl ?_
  have e5x := (f3x.2 _ _ (wnc (by decide) wn0) hS)
  refine wq_getf rfl e5x rfl rfl ?_
  refine wq_gos (f := 1) (pc2 := 31) (ls2 := [(4, .int (a + e)), (0, .ref 44), (1, .int p), (2, .int a), (3, .int e)]) (st2 := [.ref 44, .ref 50]) (h2 := h1x) (dc2 := 0) (ds2 := 0) 1 rfl ?_
  refine wq_getf rfl e5x rfl rfl ?_
  refine wq_gos (f := 1) (pc2 := 35) (ls2 := [(4, .int (a + e)), (0, .ref 44), (1, .int p), (2, .int a), (3, .int e)]) (st2 := [.int e, .int (nI FL.length), .ref 50]) (h2 := h1x) (dc2 := 0) (ds2 := 0) 1 rfl ?_
  have e6x := (f3x.2 _ _ (wnc (by decide) wn0) h50)
  refine wq_iastn rfl e6x hn (by decide) rfl ?_
  intro h7x e8x f9x l10x
  have e8x : zat h7x 50 = some (.inl (0, 128, (zset 0 el FL.length e))) := e8x
  refine wq_gos (f := 1) (pc2 := 37) (ls2 := [(4, .int (a + e)), (0, .ref 44), (1, .int p), (2, .int a), (3, .int e)]) (st2 := [.ref 44]) (h2 := h7x) (dc2 := 0) (ds2 := 0) 1 rfl ?_
  have e11x := (f9x.2 _ _ (wnc (by decide) wn0) e5x)
  refine wq_getf rfl e11x rfl rfl ?_
  refine wq_gos (f := 1) (pc2 := 41) (ls2 := [(4, .int (a + e)), (0, .ref 44), (1, .int p), (2, .int a), (3, .int e)]) (st2 := [.ref 44, .ref 52]) (h2 := h7x) (dc2 := 0) (ds2 := 0) 1 rfl ?_
  refine wq_getf rfl e11x rfl rfl ?_
  refine wq_gos (f := 1) (pc2 := 48) (ls2 := [(4, .int (a + e)), (0, .ref 44), (1, .int p), (2, .int a), (3, .int e)]) (st2 := [.int (p - (a + e)), .int (nI FL.length), .ref 52]) (h2 := h7x) (dc2 := 0) (ds2 := 0) 3 rfl ?_
  refine wq_inl (y2 := 152) (as := [.int (p - (a + e))]) rfl rfl rfl (wq_T (c_w32 (p - (a + e)) h7x) ?_)
  show wq 87 51 [(4, .int (a + e)), (0, .ref 44), (1, .int p), (2, .int a), (3, .int e)] [.int (jw (p - (a + e))), .int (nI FL.length), .ref 52] h7x 0 0 _
  have e12x := (f9x.2 _ _ (wnc (by decide) wn0) (f3x.2 _ _ (wnc (by decide) wn0) h52))
  refine wq_iastn rfl e12x hn (by decide) rfl ?_
  intro h13x e14x f15x l16x
  have e14x : zat h13x 52 = some (.inl (0, 128, (zset 0 wr FL.length (jw (p - (a + e)))))) := e14x
  refine wq_gos (f := 1) (pc2 := 53) (ls2 := [(4, .int (a + e)), (0, .ref 44), (1, .int p), (2, .int a), (3, .int e)]) (st2 := [.ref 44]) (h2 := h13x) (dc2 := 0) (ds2 := 0) 1 rfl ?_
  have e17x := (f15x.2 _ _ (wnc (by decide) wn0) e11x)
  refine wq_getf rfl e17x rfl rfl ?_
  refine wq_gos (f := 1) (pc2 := 57) (ls2 := [(4, .int (a + e)), (0, .ref 44), (1, .int p), (2, .int a), (3, .int e)]) (st2 := [.ref 44, .ref 54]) (h2 := h13x) (dc2 := 0) (ds2 := 0) 1 rfl ?_
  refine wq_getf rfl e17x rfl rfl ?_
  refine wq_gos (f := 1) (pc2 := 61) (ls2 := [(4, .int (a + e)), (0, .ref 44), (1, .int p), (2, .int a), (3, .int e)]) (st2 := [.ref 44, .int (nI FL.length), .ref 54]) (h2 := h13x) (dc2 := 0) (ds2 := 0) 1 rfl ?_
  refine wq_getf rfl e17x rfl rfl ?_
  have e18x := (f15x.2 _ _ (wnc (by omega) wn0) (f9x.2 _ _ (wnc (by omega) wn0) (f3x.2 _ _ (wnc (by omega) wn0) hA)))
  refine wq_getf rfl e18x rfl rfl ?_
  refine wq_gos (f := 1) (pc2 := 68) (ls2 := [(4, .int (a + e)), (0, .ref 44), (1, .int p), (2, .int a), (3, .int e)]) (st2 := [.int a, .int lk, .int (nI FL.length), .ref 54]) (h2 := h13x) (dc2 := 0) (ds2 := 0) 1 rfl ?_
  refine wq_inl (y2 := 149) (as := [.int a]) rfl rfl rfl (wq_T (c_cos a h13x) ?_)
  show wq 87 71 [(4, .int (a + e)), (0, .ref 44), (1, .int p), (2, .int a), (3, .int e)] [.int (jcos a), .int lk, .int (nI FL.length), .ref 54] h13x 0 0 _
  refine wq_gos (f := 1) (pc2 := 73) (ls2 := [(4, .int (a + e)), (0, .ref 44), (1, .int p), (2, .int a), (3, .int e)]) (st2 := [.int (a + e), .int (jcos a), .int lk, .int (nI FL.length), .ref 54]) (h2 := h13x) (dc2 := 0) (ds2 := 0) 1 rfl ?_
  refine wq_inl (y2 := 149) (as := [.int (a + e)]) rfl rfl rfl (wq_T (c_cos (a + e) h13x) ?_)
  show wq 87 76 [(4, .int (a + e)), (0, .ref 44), (1, .int p), (2, .int a), (3, .int e)] [.int (jcos (a + e)), .int (jcos a), .int lk, .int (nI FL.length), .ref 54] h13x 0 0 _
  refine wq_gos (f := 1) (pc2 := 79) (ls2 := [(4, .int (a + e)), (0, .ref 44), (1, .int p), (2, .int a), (3, .int e)]) (st2 := [.ref 44, .int (lk * ((jcos a) + (jcos (a + e)))), .int (nI FL.length), .ref 54]) (h2 := h13x) (dc2 := 0) (ds2 := 0) 3 rfl ?_
  refine wq_getf rfl e17x rfl rfl ?_
  refine wq_getf rfl e18x rfl rfl ?_
  refine wq_gos (f := 1) (pc2 := 86) (ls2 := [(4, .int (a + e)), (0, .ref 44), (1, .int p), (2, .int a), (3, .int e)]) (st2 := [.int p, .int hd, .int (lk * ((jcos a) + (jcos (a + e)))), .int (nI FL.length), .ref 54]) (h2 := h13x) (dc2 := 0) (ds2 := 0) 1 rfl ?_
  refine wq_inl (y2 := 149) (as := [.int p]) rfl rfl rfl (wq_T (c_cos p h13x) ?_)
  show wq 87 89 [(4, .int (a + e)), (0, .ref 44), (1, .int p), (2, .int a), (3, .int e)] [.int (jcos p), .int hd, .int (lk * ((jcos a) + (jcos (a + e)))), .int (nI FL.length), .ref 54] h13x 0 0 _
  refine wq_gos (f := 1) (pc2 := 91) (ls2 := [(4, .int (a + e)), (0, .ref 44), (1, .int p), (2, .int a), (3, .int e)]) (st2 := [.int ((lk * ((jcos a) + (jcos (a + e)))) + (hd * (jcos p))), .int (nI FL.length), .ref 54]) (h2 := h13x) (dc2 := 0) (ds2 := 0) 2 rfl ?_
  have e19x := (f15x.2 _ _ (wnc (by decide) wn0) (f9x.2 _ _ (wnc (by decide) wn0) (f3x.2 _ _ (wnc (by decide) wn0) h54)))
  refine wq_iastn rfl e19x hn (by decide) rfl ?_
  intro h20x e21x f22x l23x
  have e21x : zat h20x 54 = some (.inl (0, 128, (zset 0 ou FL.length ((lk * ((jcos a) + (jcos (a + e)))) + (hd * (jcos p)))))) := e21x
  refine wq_gos (f := 1) (pc2 := 94) (ls2 := [(4, .int (a + e)), (0, .ref 44), (1, .int p), (2, .int a), (3, .int e)]) (st2 := [.ref 44, .ref 44]) (h2 := h20x) (dc2 := 0) (ds2 := 0) 2 rfl ?_
  have e24x := (f22x.2 _ _ (wnc (by decide) wn0) e17x)
  refine wq_getf rfl e24x rfl rfl ?_
  refine wq_gos (f := 1) (pc2 := 99) (ls2 := [(4, .int (a + e)), (0, .ref 44), (1, .int p), (2, .int a), (3, .int e)]) (st2 := [.int ((nI FL.length) + (1 : Int32)), .ref 44]) (h2 := h20x) (dc2 := 0) (ds2 := 0) 2 rfl ?_
  refine wq_putf rfl e24x rfl rfl rfl ?_
  intro h25x e26x f27x l28x
  have e26x : zat h25x 44 = some (.inr (.inr (.inr (7, [.ref ra, .ref rh, .ref 46, .int ((nI FL.length) + (1 : Int32)), .ref 48, .ref 50, .ref 52, .ref 54, .ref 56, .ref rs])))) := e26x
  have e29x := (f27x.2 _ _ (wnc (by decide) wn0) (f22x.2 _ _ (wnc (by decide) wn0) (f15x.2 _ _ (wnc (by decide) wn0) (f9x.2 _ _ (wnc (by decide) wn0) e2x))))
  have e30x := (f27x.2 _ _ (wnc (by decide) wn0) (f22x.2 _ _ (wnc (by decide) wn0) (f15x.2 _ _ (wnc (by decide) wn0) e8x)))
  have e31x := (f27x.2 _ _ (wnc (by decide) wn0) (f22x.2 _ _ (wnc (by decide) wn0) e14x))
  have e32x := (f27x.2 _ _ (wnc (by decide) wn0) e21x)
  refine wq_ret rfl rfl ⟨h25x, _, _, _, _, rfl, (wFr_tr (wFr_sub f3x (by simp)) (wFr_tr (wFr_sub f9x (by simp)) (wFr_tr (wFr_sub f15x (by simp)) (wFr_tr (wFr_sub f22x (by simp)) (wFr_sub f27x (by simp)))))), by omega, ?_, e29x, e30x, e31x, e32x, ?_⟩
  · rw [← nI_1]; exact e26x
  · exact wFo_snoc hF a e
/-- the elbows by which a shoulder comes to a sum of sines -/
noncomputable def sF1 (s a : Int32) : List (Int32 × Int32) := if jang (s - jsin a) = 99 then [] else if jw (jang (s - jsin a) - a) = jw (32 - jang (s - jsin a) - a) then [(a, jmin (jw (jang (s - jsin a) - a)) (jw (32 - jang (s - jsin a) - a)))] else [(a, jmin (jw (jang (s - jsin a) - a)) (jw (32 - jang (s - jsin a) - a))), (a, jmax (jw (jang (s - jsin a) - a)) (jw (32 - jang (s - jsin a) - a)))]
noncomputable def sF (s : Int32) : Nat → Int32 → List (Int32 × Int32)
  | 0, _ => []
  | n + 1, a => sF1 s a ++ sF s n (a + 1)
noncomputable def sRise (lk hd ht z p : Int32) : Int32 := z - 1000 * ht - hd * jsin p
noncomputable def sFold (lk hd ht z p : Int32) : List (Int32 × Int32) := if lk.toInt < (1 : Int32).toInt then [] else if sRise lk hd ht z p - sRise lk hd ht z p / lk * lk = 0 then sF (sRise lk hd ht z p / lk) 64 (-32) else []
theorem sF1_len (s a : Int32) : (sF1 s a).length ≤ 2 := by
  unfold sF1
  (repeat' split) <;> simp
set_option maxHeartbeats 4000000 in
theorem c_foldL {ra rl rg rv rn rp rw : Nat} {lk hd ht bl sd sp so : Int32} {rt : Int64} {rh rs : Nat} {p s rise : Int32} (ha : ra ≠ 44 ∧ ra ≠ 48 ∧ ra ≠ 50 ∧ ra ≠ 52 ∧ ra ≠ 54) : ∀ (n : Nat) (a : Int32) (h : zH) (FL : List (Int32 × Int32)) (sh el wr ou : List Int32), a.toInt + n = 32 → n ≤ 64 → FL.length + 2 * n ≤ 128 → zat h ra = some (.inr (.inr (.inr (0, [.int lk, .int hd, .int ht, .int bl, .int sd, .long rt, .ref rl, .ref rg, .ref rv, .int sp, .ref rn, .ref rp, .int so, .ref rw])))) → zat h 44 = some (.inr (.inr (.inr (7, [.ref ra, .ref rh, .ref 46, .int (nI FL.length), .ref 48, .ref 50, .ref 52, .ref 54, .ref 56, .ref rs])))) → zat h 48 = some (.inl (0, 128, sh)) → zat h 50 = some (.inl (0, 128, el)) → zat h 52 = some (.inl (0, 128, wr)) → zat h 54 = some (.inl (0, 128, ou)) → wFo p lk hd FL sh el wr ou → wq 86 75 [(0, .ref 44), (1, .int p), (2, .int rise), (3, .int s), (4, .int a)] [] h 0 0 (fun r => ∃ (h2 : zH) (sh2 el2 wr2 ou2 : List Int32), r = (none, h2, 0, 0) ∧ wFr [44, 48, 50, 52, 54] h h2 ∧ h2.length = h.length ∧ zat h2 44 = some (.inr (.inr (.inr (7, [.ref ra, .ref rh, .ref 46, .int (nI (FL ++ sF s n a).length), .ref 48, .ref 50, .ref 52, .ref 54, .ref 56, .ref rs])))) ∧ zat h2 48 = some (.inl (0, 128, sh2)) ∧ zat h2 50 = some (.inl (0, 128, el2)) ∧ zat h2 52 = some (.inl (0, 128, wr2)) ∧ zat h2 54 = some (.inl (0, 128, ou2)) ∧ wFo p lk hd (FL ++ sF s n a) sh2 el2 wr2 ou2) := by
  intro n
  induction n with
  | zero =>
    intro a h FL sh el wr ou ha1 hn64 hlen hA hS h48 h50 h52 h54 hF
    refine wq_gos (f := 1) (pc2 := 79) (ls2 := [(0, .ref 44), (1, .int p), (2, .int rise), (3, .int s), (4, .int a)]) (st2 := [.int 31, .int a]) (h2 := h) (dc2 := 0) (ds2 := 0) 2 rfl ?_
    refine wq_gt2t rfl (by show (31 : Int) < a.toInt; omega) ?_
    have hnil : FL ++ sF s 0 a = FL := by simp [sF]
    rw [hnil]
    exact wq_ret rfl rfl ⟨_, _, _, _, _, rfl, wFr_rf _ _, rfl, hS, h48, h50, h52, h54, hF⟩
  | succ n ih =>
    intro a h FL sh el wr ou ha1 hn64 hlen hA hS h48 h50 h52 h54 hF
    have ha2 : (a + 1).toInt = a.toInt + 1 := z_inc (by omega)
    refine wq_gos (f := 1) (pc2 := 79) (ls2 := [(0, .ref 44), (1, .int p), (2, .int rise), (3, .int s), (4, .int a)]) (st2 := [.int 31, .int a]) (h2 := h) (dc2 := 0) (ds2 := 0) 2 rfl ?_
    refine wq_gt2f rfl rfl (by show a.toInt ≤ (31 : Int); omega) ?_
    refine wq_gos (f := 1) (pc2 := 85) (ls2 := [(0, .ref 44), (1, .int p), (2, .int rise), (3, .int s), (4, .int a)]) (st2 := [.int a, .int s]) (h2 := h) (dc2 := 0) (ds2 := 0) 2 rfl ?_
    refine wq_inl (y2 := 150) (as := [.int a]) rfl rfl rfl (wq_T (c_sin a h) ?_)
    show wq 86 88 [(0, .ref 44), (1, .int p), (2, .int rise), (3, .int s), (4, .int a)] [.int (jsin a), .int s] h 0 0 _
    refine wq_gos (f := 1) (pc2 := 89) (ls2 := [(0, .ref 44), (1, .int p), (2, .int rise), (3, .int s), (4, .int a)]) (st2 := [.int (s - (jsin a))]) (h2 := h) (dc2 := 0) (ds2 := 0) 1 rfl ?_
    refine wq_inl (y2 := 88) (as := [.int (s - (jsin a))]) rfl rfl rfl (wq_T (c_ang (s - (jsin a)) h) ?_)
    show wq 86 92 [(0, .ref 44), (1, .int p), (2, .int rise), (3, .int s), (4, .int a)] [.int (jang (s - (jsin a)))] h 0 0 _
    refine wq_gos (f := 1) (pc2 := 98) (ls2 := [(5, .int (jang (s - (jsin a)))), (0, .ref 44), (1, .int p), (2, .int rise), (3, .int s), (4, .int a)]) (st2 := [.int 99, .int (jang (s - (jsin a)))]) (h2 := h) (dc2 := 0) (ds2 := 0) 3 rfl ?_
    refine wq_ne2 rfl rfl (fun b1x => ?_) (fun b1x => ?_)
    · refine wq_gos (f := 1) (pc2 := 109) (ls2 := [(5, .int (jang (s - (jsin a)))), (0, .ref 44), (1, .int p), (2, .int rise), (3, .int s), (4, .int a)]) (st2 := [.int ((jang (s - (jsin a))) - a)]) (h2 := h) (dc2 := 0) (ds2 := 0) 3 rfl ?_
      refine wq_inl (y2 := 152) (as := [.int ((jang (s - (jsin a))) - a)]) rfl rfl rfl (wq_T (c_w32 ((jang (s - (jsin a))) - a) h) ?_)
      show wq 86 112 [(5, .int (jang (s - (jsin a)))), (0, .ref 44), (1, .int p), (2, .int rise), (3, .int s), (4, .int a)] [.int (jw ((jang (s - (jsin a))) - a))] h 0 0 _
      refine wq_gos (f := 1) (pc2 := 122) (ls2 := [(6, .int (jw ((jang (s - (jsin a))) - a))), (5, .int (jang (s - (jsin a)))), (0, .ref 44), (1, .int p), (2, .int rise), (3, .int s), (4, .int a)]) (st2 := [.int (((32 : Int32) - (jang (s - (jsin a)))) - a)]) (h2 := h) (dc2 := 0) (ds2 := 0) 6 rfl ?_
      refine wq_inl (y2 := 152) (as := [.int (((32 : Int32) - (jang (s - (jsin a)))) - a)]) rfl rfl rfl (wq_T (c_w32 (((32 : Int32) - (jang (s - (jsin a)))) - a) h) ?_)
      show wq 86 125 [(6, .int (jw ((jang (s - (jsin a))) - a))), (5, .int (jang (s - (jsin a)))), (0, .ref 44), (1, .int p), (2, .int rise), (3, .int s), (4, .int a)] [.int (jw (((32 : Int32) - (jang (s - (jsin a)))) - a))] h 0 0 _
      refine wq_gos (f := 1) (pc2 := 135) (ls2 := [(7, .int (jw (((32 : Int32) - (jang (s - (jsin a)))) - a))), (6, .int (jw ((jang (s - (jsin a))) - a))), (5, .int (jang (s - (jsin a)))), (0, .ref 44), (1, .int p), (2, .int rise), (3, .int s), (4, .int a)]) (st2 := [.int (jw (((32 : Int32) - (jang (s - (jsin a)))) - a)), .int (jw ((jang (s - (jsin a))) - a)), .int a, .int p, .ref 44]) (h2 := h) (dc2 := 0) (ds2 := 0) 6 rfl ?_
      refine wq_inl (y2 := 285) (as := [.int (jw ((jang (s - (jsin a))) - a)), .int (jw (((32 : Int32) - (jang (s - (jsin a)))) - a))]) rfl rfl rfl (wq_T (c_min (jw ((jang (s - (jsin a))) - a)) (jw (((32 : Int32) - (jang (s - (jsin a)))) - a)) h) ?_)
      show wq 86 138 [(7, .int (jw (((32 : Int32) - (jang (s - (jsin a)))) - a))), (6, .int (jw ((jang (s - (jsin a))) - a))), (5, .int (jang (s - (jsin a)))), (0, .ref 44), (1, .int p), (2, .int rise), (3, .int s), (4, .int a)] [.int (jmin (jw ((jang (s - (jsin a))) - a)) (jw (((32 : Int32) - (jang (s - (jsin a)))) - a))), .int a, .int p, .ref 44] h 0 0 _
      refine wq_inlv (y2 := 87) (as := [.int p, .int a, .int (jmin (jw ((jang (s - (jsin a))) - a)) (jw (((32 : Int32) - (jang (s - (jsin a)))) - a)))]) rfl rfl rfl hS rfl (wq_mono (c_addFold hA hS h48 h50 h52 h54 ha hF (by (try simp only [List.length_append, List.length_cons, List.length_nil]); omega) a (jmin (jw ((jang (s - (jsin a))) - a)) (jw (((32 : Int32) - (jang (s - (jsin a)))) - a)))) ?_)
      rintro _ ⟨h2x, sh10x, el11x, wr12x, ou13x, rfl, f3x, l4x, e5x, e6x, e7x, e8x, e9x, F14x⟩
      have k15x : (FL ++ [(a, (jmin (jw ((jang (s - (jsin a))) - a)) (jw (((32 : Int32) - (jang (s - (jsin a)))) - a))))]).length = FL.length + 1 := by rw [List.length_append]; rfl
      rw [← k15x] at e5x
      show wq 86 141 [(7, .int (jw (((32 : Int32) - (jang (s - (jsin a)))) - a))), (6, .int (jw ((jang (s - (jsin a))) - a))), (5, .int (jang (s - (jsin a)))), (0, .ref 44), (1, .int p), (2, .int rise), (3, .int s), (4, .int a)] [] h2x 0 0 _
      refine wq_gos (f := 1) (pc2 := 145) (ls2 := [(7, .int (jw (((32 : Int32) - (jang (s - (jsin a)))) - a))), (6, .int (jw ((jang (s - (jsin a))) - a))), (5, .int (jang (s - (jsin a)))), (0, .ref 44), (1, .int p), (2, .int rise), (3, .int s), (4, .int a)]) (st2 := [.int (jw (((32 : Int32) - (jang (s - (jsin a)))) - a)), .int (jw ((jang (s - (jsin a))) - a))]) (h2 := h2x) (dc2 := 0) (ds2 := 0) 2 rfl ?_
      refine wq_eq2 rfl rfl (fun b16x => ?_) (fun b16x => ?_)
      · refine wq_gos (f := 1) (pc2 := 75) (ls2 := [(4, .int (a + 1)), (7, .int (jw (((32 : Int32) - (jang (s - (jsin a)))) - a))), (6, .int (jw ((jang (s - (jsin a))) - a))), (5, .int (jang (s - (jsin a)))), (0, .ref 44), (1, .int p), (2, .int rise), (3, .int s)]) (st2 := []) (h2 := h2x) (dc2 := 0) (ds2 := 0) 2 rfl ?_
        have e17x := (f3x.2 _ _ (wnc (by omega) (wnc (by omega) (wnc (by omega) (wnc (by omega) (wnc (by omega) wn0))))) hA)
        have hs : FL ++ sF s (n + 1) a = (FL ++ [(a, (jmin (jw ((jang (s - (jsin a))) - a)) (jw (((32 : Int32) - (jang (s - (jsin a)))) - a))))]) ++ sF s n (a + 1) := by
          show FL ++ (sF1 s a ++ sF s n (a + 1)) = _
          rw [show sF1 s a = [(a, (jmin (jw ((jang (s - (jsin a))) - a)) (jw (((32 : Int32) - (jang (s - (jsin a)))) - a))))] by unfold sF1; rw [if_neg b1x, if_pos b16x]]
          simp
        rw [hs]
        refine wq_ls [(0, .ref 44), (1, .int p), (2, .int rise), (3, .int s), (4, .int (a + 1))] (show ([0, 1, 2, 3, 4] : List Nat).Nodup by decide) ⟨rfl, rfl, rfl, rfl, rfl, trivial⟩ ?_
        refine wq_mono (ih (a + 1) h2x (FL ++ [(a, (jmin (jw ((jang (s - (jsin a))) - a)) (jw (((32 : Int32) - (jang (s - (jsin a)))) - a))))]) _ _ _ _ (by omega) (by omega) (by simp only [List.length_append, List.length_cons, List.length_nil]; omega) e17x e5x e6x e7x e8x e9x F14x) ?_
        rintro _ ⟨k0, k1, k2, k3, k4, rfl, k5, k6, k7⟩
        exact ⟨k0, k1, k2, k3, k4, rfl, wFr_tr (wFr_sub f3x (by simp)) k5, by omega, k7⟩
      · refine wq_gos (f := 1) (pc2 := 156) (ls2 := [(7, .int (jw (((32 : Int32) - (jang (s - (jsin a)))) - a))), (6, .int (jw ((jang (s - (jsin a))) - a))), (5, .int (jang (s - (jsin a)))), (0, .ref 44), (1, .int p), (2, .int rise), (3, .int s), (4, .int a)]) (st2 := [.int (jw (((32 : Int32) - (jang (s - (jsin a)))) - a)), .int (jw ((jang (s - (jsin a))) - a)), .int a, .int p, .ref 44]) (h2 := h2x) (dc2 := 0) (ds2 := 0) 5 rfl ?_
        refine wq_inl (y2 := 284) (as := [.int (jw ((jang (s - (jsin a))) - a)), .int (jw (((32 : Int32) - (jang (s - (jsin a)))) - a))]) rfl rfl rfl (wq_T (c_max (jw ((jang (s - (jsin a))) - a)) (jw (((32 : Int32) - (jang (s - (jsin a)))) - a)) h2x) ?_)
        show wq 86 159 [(7, .int (jw (((32 : Int32) - (jang (s - (jsin a)))) - a))), (6, .int (jw ((jang (s - (jsin a))) - a))), (5, .int (jang (s - (jsin a)))), (0, .ref 44), (1, .int p), (2, .int rise), (3, .int s), (4, .int a)] [.int (jmax (jw ((jang (s - (jsin a))) - a)) (jw (((32 : Int32) - (jang (s - (jsin a)))) - a))), .int a, .int p, .ref 44] h2x 0 0 _
        have e18x := (f3x.2 _ _ (wnc (by omega) (wnc (by omega) (wnc (by omega) (wnc (by omega) (wnc (by omega) wn0))))) hA)
        refine wq_inlv (y2 := 87) (as := [.int p, .int a, .int (jmax (jw ((jang (s - (jsin a))) - a)) (jw (((32 : Int32) - (jang (s - (jsin a)))) - a)))]) rfl rfl rfl e5x rfl (wq_mono (c_addFold e18x e5x e6x e7x e8x e9x ha F14x (by (try simp only [List.length_append, List.length_cons, List.length_nil]); omega) a (jmax (jw ((jang (s - (jsin a))) - a)) (jw (((32 : Int32) - (jang (s - (jsin a)))) - a)))) ?_)
        rintro _ ⟨h19x, sh27x, el28x, wr29x, ou30x, rfl, f20x, l21x, e22x, e23x, e24x, e25x, e26x, F31x⟩
        have k32x : ((FL ++ [(a, (jmin (jw ((jang (s - (jsin a))) - a)) (jw (((32 : Int32) - (jang (s - (jsin a)))) - a))))]) ++ [(a, (jmax (jw ((jang (s - (jsin a))) - a)) (jw (((32 : Int32) - (jang (s - (jsin a)))) - a))))]).length = (FL ++ [(a, (jmin (jw ((jang (s - (jsin a))) - a)) (jw (((32 : Int32) - (jang (s - (jsin a)))) - a))))]).length + 1 := by rw [List.length_append]; rfl
        rw [← k32x] at e22x
        show wq 86 162 [(7, .int (jw (((32 : Int32) - (jang (s - (jsin a)))) - a))), (6, .int (jw ((jang (s - (jsin a))) - a))), (5, .int (jang (s - (jsin a)))), (0, .ref 44), (1, .int p), (2, .int rise), (3, .int s), (4, .int a)] [] h19x 0 0 _
        refine wq_gos (f := 1) (pc2 := 75) (ls2 := [(4, .int (a + 1)), (7, .int (jw (((32 : Int32) - (jang (s - (jsin a)))) - a))), (6, .int (jw ((jang (s - (jsin a))) - a))), (5, .int (jang (s - (jsin a)))), (0, .ref 44), (1, .int p), (2, .int rise), (3, .int s)]) (st2 := []) (h2 := h19x) (dc2 := 0) (ds2 := 0) 2 rfl ?_
        have e33x := (f20x.2 _ _ (wnc (by omega) (wnc (by omega) (wnc (by omega) (wnc (by omega) (wnc (by omega) wn0))))) e18x)
        have hs : FL ++ sF s (n + 1) a = ((FL ++ [(a, (jmin (jw ((jang (s - (jsin a))) - a)) (jw (((32 : Int32) - (jang (s - (jsin a)))) - a))))]) ++ [(a, (jmax (jw ((jang (s - (jsin a))) - a)) (jw (((32 : Int32) - (jang (s - (jsin a)))) - a))))]) ++ sF s n (a + 1) := by
          show FL ++ (sF1 s a ++ sF s n (a + 1)) = _
          rw [show sF1 s a = [(a, (jmin (jw ((jang (s - (jsin a))) - a)) (jw (((32 : Int32) - (jang (s - (jsin a)))) - a)))), (a, (jmax (jw ((jang (s - (jsin a))) - a)) (jw (((32 : Int32) - (jang (s - (jsin a)))) - a))))] by unfold sF1; rw [if_neg b1x, if_neg b16x]]
          simp
        rw [hs]
        refine wq_ls [(0, .ref 44), (1, .int p), (2, .int rise), (3, .int s), (4, .int (a + 1))] (show ([0, 1, 2, 3, 4] : List Nat).Nodup by decide) ⟨rfl, rfl, rfl, rfl, rfl, trivial⟩ ?_
        refine wq_mono (ih (a + 1) h19x ((FL ++ [(a, (jmin (jw ((jang (s - (jsin a))) - a)) (jw (((32 : Int32) - (jang (s - (jsin a)))) - a))))]) ++ [(a, (jmax (jw ((jang (s - (jsin a))) - a)) (jw (((32 : Int32) - (jang (s - (jsin a)))) - a))))]) _ _ _ _ (by omega) (by omega) (by simp only [List.length_append, List.length_cons, List.length_nil]; omega) e33x e22x e23x e24x e25x e26x F31x) ?_
        rintro _ ⟨k0, k1, k2, k3, k4, rfl, k5, k6, k7⟩
        exact ⟨k0, k1, k2, k3, k4, rfl, wFr_tr (wFr_tr (wFr_sub f3x (by simp)) (wFr_sub f20x (by simp))) k5, by omega, k7⟩
    · refine wq_gos (f := 1) (pc2 := 75) (ls2 := [(4, .int (a + 1)), (5, .int (jang (s - (jsin a)))), (0, .ref 44), (1, .int p), (2, .int rise), (3, .int s)]) (st2 := []) (h2 := h) (dc2 := 0) (ds2 := 0) 3 rfl ?_
      have hs : FL ++ sF s (n + 1) a = FL ++ sF s n (a + 1) := by
        show FL ++ (sF1 s a ++ sF s n (a + 1)) = _
        rw [show sF1 s a = [] by unfold sF1; rw [if_pos b1x]]
        simp
      rw [hs]
      refine wq_ls [(0, .ref 44), (1, .int p), (2, .int rise), (3, .int s), (4, .int (a + 1))] (show ([0, 1, 2, 3, 4] : List Nat).Nodup by decide) ⟨rfl, rfl, rfl, rfl, rfl, trivial⟩ ?_
      refine wq_mono (ih (a + 1) h FL _ _ _ _ (by omega) (by omega) (by omega) hA hS h48 h50 h52 h54 hF) ?_
      rintro _ ⟨k0, k1, k2, k3, k4, rfl, k5, k6, k7⟩
      exact ⟨k0, k1, k2, k3, k4, rfl, wFr_tr (wFr_rf _ _) k5, by omega, k7⟩
set_option maxHeartbeats 4000000 in
theorem c_fold {h : zH} {ra rl rg rv rn rp rw : Nat} {lk hd ht bl sd sp so : Int32} {rt : Int64} {rh rs : Nat} {sh el wr ou : List Int32} {p : Int32} {n0 : Int32} {tg : List Int32} (hA : zat h ra = some (.inr (.inr (.inr (0, [.int lk, .int hd, .int ht, .int bl, .int sd, .long rt, .ref rl, .ref rg, .ref rv, .int sp, .ref rn, .ref rp, .int so, .ref rw]))))) (hS : zat h 44 = some (.inr (.inr (.inr (7, [.ref ra, .ref rh, .ref 46, .int n0, .ref 48, .ref 50, .ref 52, .ref 54, .ref 56, .ref rs]))))) (h48 : zat h 48 = some (.inl (0, 128, sh))) (h50 : zat h 50 = some (.inl (0, 128, el))) (h52 : zat h 52 = some (.inl (0, 128, wr))) (h54 : zat h 54 = some (.inl (0, 128, ou))) (h46 : zat h 46 = some (.inl (0, 6, tg))) (ha : ra ≠ 44 ∧ ra ≠ 48 ∧ ra ≠ 50 ∧ ra ≠ 52 ∧ ra ≠ 54) : wq 86 0 [(0, .ref 44), (1, .int p)] [] h 0 0 (fun r => ∃ (h2 : zH) (sh2 el2 wr2 ou2 : List Int32), r = (none, h2, 0, 0) ∧ wFr [44, 48, 50, 52, 54] h h2 ∧ h2.length = h.length ∧ zat h2 44 = some (.inr (.inr (.inr (7, [.ref ra, .ref rh, .ref 46, .int (nI (sFold lk hd ht (tg.getD 2 0) p).length), .ref 48, .ref 50, .ref 52, .ref 54, .ref 56, .ref rs])))) ∧ zat h2 48 = some (.inl (0, 128, sh2)) ∧ zat h2 50 = some (.inl (0, 128, el2)) ∧ zat h2 52 = some (.inl (0, 128, wr2)) ∧ zat h2 54 = some (.inl (0, 128, ou2)) ∧ wFo p lk hd (sFold lk hd ht (tg.getD 2 0) p) sh2 el2 wr2 ou2) := by
  refine wq_gos (f := 1) (pc2 := 2) (ls2 := [(0, .ref 44), (1, .int p)]) (st2 := [.int 0, .ref 44]) (h2 := h) (dc2 := 0) (ds2 := 0) 2 rfl ?_
  refine wq_putf rfl hS rfl rfl rfl ?_
  intro h1x e2x f3x l4x
  have e2x : zat h1x 44 = some (.inr (.inr (.inr (7, [.ref ra, .ref rh, .ref 46, .int 0, .ref 48, .ref 50, .ref 52, .ref 54, .ref 56, .ref rs])))) := e2x
  refine wq_gos (f := 1) (pc2 := 6) (ls2 := [(0, .ref 44), (1, .int p)]) (st2 := [.ref 44]) (h2 := h1x) (dc2 := 0) (ds2 := 0) 1 rfl ?_
  refine wq_getf rfl e2x rfl rfl ?_
  refine wq_gos (f := 1) (pc2 := 10) (ls2 := [(0, .ref 44), (1, .int p)]) (st2 := [.int 2, .ref 46]) (h2 := h1x) (dc2 := 0) (ds2 := 0) 1 rfl ?_
  have e5x := (f3x.2 _ _ (wnc (by decide) wn0) h46)
  refine wq_iald rfl e5x rfl rfl ?_
  refine wq_gos (f := 1) (pc2 := 15) (ls2 := [(0, .ref 44), (1, .int p)]) (st2 := [.ref 44, .int 1000, .int (tg.getD 2 0)]) (h2 := h1x) (dc2 := 0) (ds2 := 0) 2 rfl ?_
  refine wq_getf rfl e2x rfl rfl ?_
  have e6x := (f3x.2 _ _ (wnc (by omega) wn0) hA)
  refine wq_getf rfl e6x rfl rfl ?_
  refine wq_gos (f := 1) (pc2 := 24) (ls2 := [(0, .ref 44), (1, .int p)]) (st2 := [.ref 44, .int ((tg.getD 2 0) - ((1000 : Int32) * ht))]) (h2 := h1x) (dc2 := 0) (ds2 := 0) 3 rfl ?_
  refine wq_getf rfl e2x rfl rfl ?_
  refine wq_getf rfl e6x rfl rfl ?_
  refine wq_gos (f := 1) (pc2 := 31) (ls2 := [(0, .ref 44), (1, .int p)]) (st2 := [.int p, .int hd, .int ((tg.getD 2 0) - ((1000 : Int32) * ht))]) (h2 := h1x) (dc2 := 0) (ds2 := 0) 1 rfl ?_
  refine wq_inl (y2 := 150) (as := [.int p]) rfl rfl rfl (wq_T (c_sin p h1x) ?_)
  show wq 86 34 [(0, .ref 44), (1, .int p)] [.int (jsin p), .int hd, .int ((tg.getD 2 0) - ((1000 : Int32) * ht))] h1x 0 0 _
  refine wq_gos (f := 1) (pc2 := 38) (ls2 := [(2, .int (((tg.getD 2 0) - ((1000 : Int32) * ht)) - (hd * (jsin p)))), (0, .ref 44), (1, .int p)]) (st2 := [.ref 44]) (h2 := h1x) (dc2 := 0) (ds2 := 0) 4 rfl ?_
  refine wq_getf rfl e2x rfl rfl ?_
  refine wq_getf rfl e6x rfl rfl ?_
  refine wq_gos (f := 1) (pc2 := 45) (ls2 := [(2, .int (((tg.getD 2 0) - ((1000 : Int32) * ht)) - (hd * (jsin p)))), (0, .ref 44), (1, .int p)]) (st2 := [.int 1, .int lk]) (h2 := h1x) (dc2 := 0) (ds2 := 0) 1 rfl ?_
  refine wq_lt2 rfl rfl (fun b7x => ?_) (fun b7x => ?_)
  · have e8x := (f3x.2 _ _ (wnc (by decide) wn0) h48)
    have e9x := (f3x.2 _ _ (wnc (by decide) wn0) h50)
    have e10x := (f3x.2 _ _ (wnc (by decide) wn0) h52)
    have e11x := (f3x.2 _ _ (wnc (by decide) wn0) h54)
    have hs : sFold lk hd ht (tg.getD 2 0) p = [] := by unfold sFold sRise; rw [if_pos b7x]
    rw [hs]
    exact wq_ret rfl rfl ⟨_, _, _, _, _, rfl, (wFr_sub f3x (by simp)), by omega, e2x, e8x, e9x, e10x, e11x, wFo_nil _ _ _ _ _ _ _⟩
  · refine wq_gos (f := 1) (pc2 := 50) (ls2 := [(2, .int (((tg.getD 2 0) - ((1000 : Int32) * ht)) - (hd * (jsin p)))), (0, .ref 44), (1, .int p)]) (st2 := [.ref 44, .int (((tg.getD 2 0) - ((1000 : Int32) * ht)) - (hd * (jsin p)))]) (h2 := h1x) (dc2 := 0) (ds2 := 0) 2 rfl ?_
    refine wq_getf rfl e2x rfl rfl ?_
    refine wq_getf rfl e6x rfl rfl ?_
    refine wq_irem rfl (fun q => by have hb9 := b7x; rw [q] at hb9; exact absurd hb9 (by decide)) ?_
    refine wq_eq0 rfl rfl (fun b12x => ?_) (fun b12x => ?_)
    · refine wq_gos (f := 1) (pc2 := 63) (ls2 := [(2, .int (((tg.getD 2 0) - ((1000 : Int32) * ht)) - (hd * (jsin p)))), (0, .ref 44), (1, .int p)]) (st2 := [.ref 44, .int (((tg.getD 2 0) - ((1000 : Int32) * ht)) - (hd * (jsin p)))]) (h2 := h1x) (dc2 := 0) (ds2 := 0) 2 rfl ?_
      refine wq_getf rfl e2x rfl rfl ?_
      refine wq_getf rfl e6x rfl rfl ?_
      refine wq_idiv rfl (fun q => by have hb9 := b7x; rw [q] at hb9; exact absurd hb9 (by decide)) ?_
      refine wq_gos (f := 1) (pc2 := 75) (ls2 := [(4, .int (-32)), (3, .int ((((tg.getD 2 0) - ((1000 : Int32) * ht)) - (hd * (jsin p))) / lk)), (2, .int (((tg.getD 2 0) - ((1000 : Int32) * ht)) - (hd * (jsin p)))), (0, .ref 44), (1, .int p)]) (st2 := []) (h2 := h1x) (dc2 := 0) (ds2 := 0) 3 rfl ?_
      have e13x := (f3x.2 _ _ (wnc (by decide) wn0) h48)
      have e14x := (f3x.2 _ _ (wnc (by decide) wn0) h50)
      have e15x := (f3x.2 _ _ (wnc (by decide) wn0) h52)
      have e16x := (f3x.2 _ _ (wnc (by decide) wn0) h54)
      have hs : sFold lk hd ht (tg.getD 2 0) p = sF ((((tg.getD 2 0) - ((1000 : Int32) * ht)) - (hd * (jsin p))) / lk) 64 (-32) := by unfold sFold sRise; rw [if_neg (Int.not_lt.mpr b7x), if_pos b12x]
      rw [hs]
      refine wq_ls [(0, .ref 44), (1, .int p), (2, .int (((tg.getD 2 0) - ((1000 : Int32) * ht)) - (hd * (jsin p)))), (3, .int ((((tg.getD 2 0) - ((1000 : Int32) * ht)) - (hd * (jsin p))) / lk)), (4, .int (-32))] (show ([0, 1, 2, 3, 4] : List Nat).Nodup by decide) ⟨rfl, rfl, rfl, rfl, rfl, trivial⟩ ?_
      have hz := c_foldL (p := p) (s := (((tg.getD 2 0) - ((1000 : Int32) * ht)) - (hd * (jsin p))) / lk) (rise := (((tg.getD 2 0) - ((1000 : Int32) * ht)) - (hd * (jsin p)))) ha 64 (-32) h1x [] _ _ _ _ (by decide) (by decide) (by decide) e6x e2x e13x e14x e15x e16x (wFo_nil _ _ _ _ _ _ _)
      obtain ⟨r, z1, z2⟩ := hz
      obtain ⟨k0, k1, k2, k3, k4, z3, k5, k6, k7⟩ := z2
      rw [List.nil_append] at k7
      exact ⟨r, z1, k0, k1, k2, k3, k4, z3, wFr_tr (wFr_sub f3x (by simp)) k5, by omega, k7⟩
    · have e17x := (f3x.2 _ _ (wnc (by decide) wn0) h48)
      have e18x := (f3x.2 _ _ (wnc (by decide) wn0) h50)
      have e19x := (f3x.2 _ _ (wnc (by decide) wn0) h52)
      have e20x := (f3x.2 _ _ (wnc (by decide) wn0) h54)
      have hs : sFold lk hd ht (tg.getD 2 0) p = [] := by unfold sFold sRise; rw [if_neg (Int.not_lt.mpr b7x), if_neg b12x]
      rw [hs]
      exact wq_ret rfl rfl ⟨_, _, _, _, _, rfl, (wFr_sub f3x (by simp)), by omega, e2x, e17x, e18x, e19x, e20x, wFo_nil _ _ _ _ _ _ _⟩
