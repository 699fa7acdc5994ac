/-! The law's start put before its loop; a script that is too short. -/
theorem zfinish {L : Nat} {xs : Nat → Int32} (hd : ∃ (h : zH) (dc ds : Nat), zT (zg L xs) zF zP 288 23 [(4, .int 0), (3, .ref 232), (2, .ref 162), (1, .ref 0), (0, .ref 11)] [] zH0 117 29934 (some (.int 1), h, dc, ds) ∧ dc ≤ 600002 ∧ ds ≤ 7302232) : ∃ (n : Nat) (h : zH) (dc ds : Nat), zrun (zg L xs) zF zP n 288 0 [(0, .ref 11)] [] [] 0 0 = some (some (.int 1), h, dc, ds) ∧ dc ≤ 600002 ∧ ds ≤ 7302232 := by
  obtain ⟨h, dc, ds, k, h1, h2⟩ := hd
  obtain ⟨n, hn⟩ := zT_gos 13 (zgo_le (zg0_le L xs) zinit) k
  exact ⟨n, h, dc, ds, hn, h1, h2⟩
theorem zshort {L : Nat} (hL : L < 6) (xs : Nat → Int32) : ∃ (h : zH) (dc ds : Nat), zT (zg L xs) zF zP 288 23 [(4, .int 0), (3, .ref 232), (2, .ref 162), (1, .ref 0), (0, .ref 11)] [] zH0 117 29934 (some (.int 1), h, dc, ds) ∧ dc ≤ 600002 ∧ ds ≤ 7302232 := by
  refine ⟨zH0, 117, 29934, ?_, by decide, by decide⟩
  match L, hL with
  | 0, _ => exact zT_gos (f := 200000) (pc2 := 1811) (ls2 := [(4, .int 0), (3, .ref 232), (2, .ref 162), (1, .ref 0), (0, .ref 11)]) (st2 := [.int 1]) (h2 := zH0) (dc2 := 117) (ds2 := 29934) 7 rfl (zT_ret rfl rfl)
  | 1, _ => exact zT_gos (f := 200000) (pc2 := 1811) (ls2 := [(4, .int 0), (3, .ref 232), (2, .ref 162), (1, .ref 0), (0, .ref 11)]) (st2 := [.int 1]) (h2 := zH0) (dc2 := 117) (ds2 := 29934) 7 rfl (zT_ret rfl rfl)
  | 2, _ => exact zT_gos (f := 200000) (pc2 := 1811) (ls2 := [(4, .int 0), (3, .ref 232), (2, .ref 162), (1, .ref 0), (0, .ref 11)]) (st2 := [.int 1]) (h2 := zH0) (dc2 := 117) (ds2 := 29934) 7 rfl (zT_ret rfl rfl)
  | 3, _ => exact zT_gos (f := 200000) (pc2 := 1811) (ls2 := [(4, .int 0), (3, .ref 232), (2, .ref 162), (1, .ref 0), (0, .ref 11)]) (st2 := [.int 1]) (h2 := zH0) (dc2 := 117) (ds2 := 29934) 7 rfl (zT_ret rfl rfl)
  | 4, _ => exact zT_gos (f := 200000) (pc2 := 1811) (ls2 := [(4, .int 0), (3, .ref 232), (2, .ref 162), (1, .ref 0), (0, .ref 11)]) (st2 := [.int 1]) (h2 := zH0) (dc2 := 117) (ds2 := 29934) 7 rfl (zT_ret rfl rfl)
  | 5, _ => exact zT_gos (f := 200000) (pc2 := 1811) (ls2 := [(4, .int 0), (3, .ref 232), (2, .ref 162), (1, .ref 0), (0, .ref 11)]) (st2 := [.int 1]) (h2 := zH0) (dc2 := 117) (ds2 := 29934) 7 rfl (zT_ret rfl rfl)
