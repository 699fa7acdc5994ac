/-! The first state; the law as a whole. -/
noncomputable def cpH (i : Nat) : Nat := [16, 16, 16, 16, 16, 16, 16, 16, 16, 16, 16, 0, 0, 16, 16, 0, 0].getD i 0
theorem rwH_n : wRws rwH 117 := by
  have a : ∀ i, i < 17 → rwH i < 2 * 117 := by decide
  have b : ∀ i, i < 17 → ∀ j, j < 17 → i ≠ j → rwH i ≠ rwH j := by decide
  exact ⟨fun i hi => ⟨Or.inl rfl, a i hi⟩, fun i j hi hj => b i hi j hj⟩
theorem zH0_hs : wHs zH0 (fun _ => 0) (fun w => rwH (w + 1)) (fun w => cpH (w + 1)) (fun _ => 0) (fun _ => 0) (fun _ => 0) (fun _ => []) (fun _ => []) := fun w hw =>
  match w, hw with
    | 0, _ => ⟨rfl, rfl, rfl, Or.inl rfl, by decide, by decide⟩
    | 1, _ => ⟨rfl, rfl, rfl, Or.inl rfl, by decide, by decide⟩
    | 2, _ => ⟨rfl, rfl, rfl, Or.inl rfl, by decide, by decide⟩
    | 3, _ => ⟨rfl, rfl, rfl, Or.inl rfl, by decide, by decide⟩
    | 4, _ => ⟨rfl, rfl, rfl, Or.inl rfl, by decide, by decide⟩
    | 5, _ => ⟨rfl, rfl, rfl, Or.inl rfl, by decide, by decide⟩
    | 6, _ => ⟨rfl, rfl, rfl, Or.inl rfl, by decide, by decide⟩
    | 7, _ => ⟨rfl, rfl, rfl, Or.inl rfl, by decide, by decide⟩
    | w + 8, hw => absurd hw (by omega)
/-- the view of a new object -/
noncomputable def vH0 : cV := ((0, [], 0, -1, 0, 0, 0, 9, 4, 10, 2, 0, 70644700037184, [0, (-32), (-32), (-32), (-32), (-64)], [99, 31, 31, 31, 31, 63], [4, 4, 4, 4, 4, 4], [], [], []), (70644700037184, 0, 0, 0, [22000000, 0, 10000, 0, 0, 0], [], [], []))
theorem zH0_C : CI zH0 (kD cpH) (kS cpH) vH0 := by
  refine ⟨rwH, cpH, 0, 20, 70644700037184, 0, 0, 6, 0, 0, 9, 4, 10, 2, 0, 70644700037184, [0, (-32), (-32), (-32), (-32), (-64)], [99, 31, 31, 31, 31, 63], [4, 4, 4, 4, 4, 4], [], [], [], 0, 0, 0, [], 0, -1, [22000000, 0, 10000, 0, 0, 0], [], [], [], 0, 0, ?_, rfl, rfl, rfl⟩
  refine ⟨rfl, ⟨by decide, Or.inr rfl, rfl⟩, ?_, ?_, ?_, ?_, ⟨rfl, ?_, ?_, ?_, ?_⟩, ?_, ?_, ?_, ?_, rwH_n, by decide⟩
  · exact ⟨0, 0, 0, 0, 0, 0, .null, .null, rfl, rfl⟩
  · exact ⟨rfl, rfl, rfl, rfl, rfl, rfl, rfl, by unfold wScl; decide, by unfold wLm; decide, by unfold wSpd; decide, by decide, ⟨by decide, fun i hi => absurd hi (Nat.not_lt_zero i)⟩, Or.inl rfl⟩
  · exact ⟨_, _, _, _, _, _, _, _, _, _, _, _, _, _, rfl, rfl, rfl, rfl, rfl, rfl, rfl⟩
  · exact ⟨rfl, rfl, rfl, rfl, rfl, by decide, by decide⟩
  · exact ⟨_, _, _, _, _, _, _, _, _, _, rfl, rfl, rfl, rfl, rfl, rfl, rfl, rfl, Or.inl rfl, by decide⟩
  · exact ⟨0, 0, 0, 0, 0, [], [], [], [], fun _ => 0, fun _ => 0, fun _ => 0, fun _ => 0, fun _ => [], fun _ => [], rfl, rfl, rfl, zH0_hs, fun w hw => Nat.zero_le _, rfl, rfl, by decide, by decide, Or.inl ⟨rfl, rfl, rfl⟩⟩
  · exact ⟨_, _, _, _, _, rfl, rfl, rfl, rfl, by decide, by decide, fun e => absurd rfl e⟩
  · exact ⟨_, _, _, _, _, rfl, rfl, rfl, rfl, by decide, by decide, fun e => absurd rfl e⟩
  · exact ⟨_, _, _, _, _, _, rfl, rfl, rfl, Or.inl rfl, fun e => absurd rfl e, by decide, by decide⟩
  · exact ⟨_, _, _, _, _, _, _, rfl, rfl, rfl, rfl, by decide, by decide⟩
  · exact ⟨_, _, _, _, _, _, _, rfl, rfl, rfl, rfl, Or.inl rfl, by decide, Or.inl rfl, fun e => absurd e (by decide)⟩
  · exact ⟨_, rfl, rfl, Or.inl rfl⟩
theorem tRel_0 : tRel [] [] := fun i => Or.inl ⟨rfl, by show 0 ≤ (0 : Int32).toInt; decide, by show (0 : Int32).toInt ≤ 127; decide⟩
theorem zH0_tie : tie vH0 0 0 (-1) 0 [] [9, 4, 10, 2, 0, 0, 0, 9, 4, 10, 2, 0, 0, 0] [0, (-32), (-32), (-32), (-32), (-64), 0, (-32), (-32), (-32), (-32), (-64)] [99, 31, 31, 31, 31, 63, 99, 31, 31, 31, 31, 63] [4, 4, 4, 4, 4, 4, 4, 4, 4, 4, 4, 4] [0, 0, 0, 0, 0, 0, 0, 0, 0, 0, 0, 0] [0, 0, 0, 0, 0, 0, 0, 0] [0, 0, 0, 0, 0, 0, 0, 0, 0, 0, 0, 0, 0, 0, 0, 0, 0, 0, 0, 0, 0, 0, 0, 0, 0, 0, 0, 0, 0, 0, 0, 0, 0, 0, 0, 0, 0, 0, 0, 0, 0, 0, 0, 0, 0, 0, 0, 0] [0, 0, 0, 0, 0, 0, 0, 0, 0, 0] [0, 0, 0, 0, 0, 0] [22000000, 0, 10000, 0, 0, 0] [] 0 := by
  refine ⟨⟨rfl, tRel_0, rfl, rfl, rfl, ⟨rfl, rfl, rfl, rfl, rfl, rfl, rfl, by decide, by decide⟩, ?_, ?_, ?_, ?_, fun k hk => absurd hk (Nat.not_lt_zero _), fun k hk => absurd hk (Nat.not_lt_zero _), fun k hk => absurd hk (Nat.not_lt_zero _)⟩, ?_, ⟨?_, ?_⟩, ⟨rfl, by decide, by decide, fun k hk => absurd hk (Nat.not_lt_zero _)⟩, fun z => absurd rfl z⟩
  · decide
  · decide
  · decide
  · exact six_c (by decide +kernel) (by decide +kernel) (by decide +kernel) (by decide +kernel) (by decide +kernel) (by decide +kernel)
  · exact six_c (by decide +kernel) (by decide +kernel) (by decide +kernel) (by decide +kernel) (by decide +kernel) (by decide +kernel)
  · decide
  · decide
theorem zH0_M : MI zH0 (tie vH0) := by
  refine ⟨_, _, _, _, _, _, _, _, _, _, _, _, _, _, _, _, _, 0, 0, 0, 0, _, _, _, _, _, _, _, _, _, _, _, _, _, _, _, _, _, _, _, _, _, _, _, _, _, _, _, _, _, _, _, _, _, _, ⟨by decide, rfl, rfl, rfl, rfl, rfl, rfl, rfl, rfl, rfl, rfl, rfl, rfl, rfl, rfl, rfl, rfl, rfl, rfl, rfl, rfl, rfl, rfl, rfl, rfl, rfl, rfl, rfl, rfl, rfl, rfl, rfl, rfl, rfl, rfl, rfl⟩, ?_, ?_⟩
  rotate_left
  · exact zH0_tie
  refine ⟨by decide, Or.inl rfl, mSA_0 _ _ _ _ _ _, ?_, ?_, ?_, ?_, ?_, ?_⟩
  · exact ⟨rfl, by decide, ⟨0, rfl, by decide, fun i hi => absurd hi (Nat.not_lt_zero i), fun k hk => absurd hk (Nat.not_lt_zero k)⟩, by decide, by unfold wLm; decide, by decide⟩
  · have z : ∀ w, w < 8 → ([(-1), (-1), (-1), (-1), (-1), (-1), (-1), (-1)] : List Int32).getD w 0 = -1 := by decide
    exact fun w hw => Or.inl (z w hw)
  · unfold mNw; decide
  · exact fun k hk => absurd hk (Nat.not_lt_zero k)
  · exact fun e => absurd rfl e
  · have z : ∀ r, r < 2 → ([0, 0] : List Int32).getD r 0 = 0 := by decide
    exact ⟨fun q _ => by show -100000 ≤ (0 : Int32).toInt ∧ (0 : Int32).toInt ≤ 100000; decide, fun r hr e => absurd (z r hr) e⟩
theorem zfirst {L : Nat} (hL : L ≤ 3072) (xs : Nat → Int32) : ∃ (n : Nat) (h : zH) (dc ds : Nat), zrun (zg L xs) zF zP n 288 0 [(0, .ref 11)] [] [] 0 0 = some (some (.int 1), h, dc, ds) ∧ dc ≤ 601024 ∧ ds ≤ 7293034 := by
  obtain ⟨h, dc, ds, k, h1, h2⟩ := lloop (xs := xs) hL L 0 zH0 117 29934 (kD cpH) (kS cpH) vH0 ⟨zH0_C, zH0_M, _, rfl⟩ (by omega) (by omega) (by omega) (by omega)
  obtain ⟨n, hn⟩ := zT_gos 13 (zgo_le (zg0_le L xs) zinit) k
  exact ⟨n, h, dc, ds, hn, h1, h2⟩
