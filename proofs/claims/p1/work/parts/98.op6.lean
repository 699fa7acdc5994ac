/-! ops 6 and 11 at the first state. -/
theorem j6 {x : Int32} (h : 0 ≤ x.toInt ∧ x.toInt ≤ 5) : x = 0 ∨ x = 1 ∨ x = 2 ∨ x = 3 ∨ x = 4 ∨ x = 5 := by
  rcases (show x.toInt = 0 ∨ x.toInt = 1 ∨ x.toInt = 2 ∨ x.toInt = 3 ∨ x.toInt = 4 ∨ x.toInt = 5 by omega) with k | k | k | k | k | k
  · exact Or.inl (Int32.toInt_inj.mp k)
  · exact Or.inr (Or.inl (Int32.toInt_inj.mp k))
  · exact Or.inr (Or.inr (Or.inl (Int32.toInt_inj.mp k)))
  · exact Or.inr (Or.inr (Or.inr (Or.inl (Int32.toInt_inj.mp k))))
  · exact Or.inr (Or.inr (Or.inr (Or.inr (Or.inl (Int32.toInt_inj.mp k)))))
  · exact Or.inr (Or.inr (Or.inr (Or.inr (Or.inr (Int32.toInt_inj.mp k)))))
theorem r_set0 (v : Int32) : ∃ (w : Int32) (h1 h2 : zH), zT zg0 zF zP 107 0 [(0, .ref 0), (1, .int 0), (2, .int v)] [] zH0 0 0 (some (.int w), h1, 0, 0) ∧ zat h1 162 = some (.inr (.inr (.inr (10, mfs0)))) ∧ zT zg0 zF zP 212 0 [(0, .ref 162), (1, .int 0), (2, .int v)] [] h1 0 0 (some (.int w), h2, 0, 0) := by
  have hc : jallow [0, (-32), (-32), (-32), (-32), (-64), 0, (-32), (-32), (-32), (-32), (-64)] [99, 31, 31, 31, 31, 63, 99, 31, 31, 31, 31, 63] 0 v = jallow [0, (-32), (-32), (-32), (-32), (-64)] [99, 31, 31, 31, 31, 63] 0 v := jallow_c wLim0 (j := 0) (by decide) v
  cases hal : jallow [0, (-32), (-32), (-32), (-32), (-64)] [99, 31, 31, 31, 31, 63] 0 v with
  | true =>
    obtain ⟨r, z1, h1, rfl, f⟩ := c_set0 (h := zH0) (ra := 6) (ll := [0, (-32), (-32), (-32), (-32), (-64)]) (lg := [99, 31, 31, 31, 31, 63]) rfl rfl rfl rfl rfl rfl rfl rfl ⟨by decide, by decide, by decide⟩ v hal
    have g : ∀ q e, q ∉ [0, 36, 38, 40] → zat zH0 q = some e → zat h1 q = some e := f.2
    obtain ⟨r, y1, h2, rfl⟩ := m_set0 (h := h1) (fs := mfs0) (kn := [9, 4, 10, 2, 0, 0, 0, 9, 4, 10, 2, 0, 0, 0]) (lo := [0, (-32), (-32), (-32), (-32), (-64), 0, (-32), (-32), (-32), (-32), (-64)]) (hi := [99, 31, 31, 31, 31, 63, 99, 31, 31, 31, 31, 63]) (g _ _ (by decide) rfl) mC00 (g _ _ (by decide) rfl) (g _ _ (by decide) rfl) (g _ _ (by decide) rfl) rfl (g _ _ (by decide) rfl) (g _ _ (by decide) rfl) (g _ _ (by decide) rfl) (g _ _ (by decide) rfl) v (by rw [hc]; exact hal)
    exact ⟨1, h1, h2, z1, g _ _ (by decide) rfl, y1⟩
  | false =>
    obtain ⟨r, y1, h2, rfl⟩ := m_setN0 (h := zH0) (fs := mfs0) (kn := [9, 4, 10, 2, 0, 0, 0, 9, 4, 10, 2, 0, 0, 0]) (lo := [0, (-32), (-32), (-32), (-32), (-64), 0, (-32), (-32), (-32), (-32), (-64)]) (hi := [99, 31, 31, 31, 31, 63, 99, 31, 31, 31, 31, 63]) rfl mC00 rfl rfl rfl v (by rw [hc]; exact hal)
    exact ⟨0, zH0, h2, c_setN0 (h := zH0) (ra := 6) (ll := [0, (-32), (-32), (-32), (-32), (-64)]) (lg := [99, 31, 31, 31, 31, 63]) rfl rfl rfl rfl v hal, rfl, y1⟩
theorem r_set1 (v : Int32) : ∃ (w : Int32) (h1 h2 : zH), zT zg0 zF zP 107 0 [(0, .ref 0), (1, .int 1), (2, .int v)] [] zH0 0 0 (some (.int w), h1, 0, 0) ∧ zat h1 162 = some (.inr (.inr (.inr (10, mfs0)))) ∧ zT zg0 zF zP 212 0 [(0, .ref 162), (1, .int 1), (2, .int v)] [] h1 0 0 (some (.int w), h2, 0, 0) := by
  have hc : jallow [0, (-32), (-32), (-32), (-32), (-64), 0, (-32), (-32), (-32), (-32), (-64)] [99, 31, 31, 31, 31, 63, 99, 31, 31, 31, 31, 63] 1 v = jallow [0, (-32), (-32), (-32), (-32), (-64)] [99, 31, 31, 31, 31, 63] 1 v := jallow_c wLim0 (j := 1) (by decide) v
  cases hal : jallow [0, (-32), (-32), (-32), (-32), (-64)] [99, 31, 31, 31, 31, 63] 1 v with
  | true =>
    obtain ⟨r, z1, h1, rfl, f⟩ := c_set1 (h := zH0) (ra := 6) (ll := [0, (-32), (-32), (-32), (-32), (-64)]) (lg := [99, 31, 31, 31, 31, 63]) rfl rfl rfl rfl rfl rfl rfl rfl ⟨by decide, by decide, by decide⟩ v hal
    have g : ∀ q e, q ∉ [0, 36, 38, 40] → zat zH0 q = some e → zat h1 q = some e := f.2
    obtain ⟨r, y1, h2, rfl⟩ := m_set1 (h := h1) (fs := mfs0) (kn := [9, 4, 10, 2, 0, 0, 0, 9, 4, 10, 2, 0, 0, 0]) (lo := [0, (-32), (-32), (-32), (-32), (-64), 0, (-32), (-32), (-32), (-32), (-64)]) (hi := [99, 31, 31, 31, 31, 63, 99, 31, 31, 31, 31, 63]) (g _ _ (by decide) rfl) mC00 (g _ _ (by decide) rfl) (g _ _ (by decide) rfl) (g _ _ (by decide) rfl) rfl (g _ _ (by decide) rfl) (g _ _ (by decide) rfl) (g _ _ (by decide) rfl) (g _ _ (by decide) rfl) v (by rw [hc]; exact hal)
    exact ⟨1, h1, h2, z1, g _ _ (by decide) rfl, y1⟩
  | false =>
    obtain ⟨r, y1, h2, rfl⟩ := m_setN1 (h := zH0) (fs := mfs0) (kn := [9, 4, 10, 2, 0, 0, 0, 9, 4, 10, 2, 0, 0, 0]) (lo := [0, (-32), (-32), (-32), (-32), (-64), 0, (-32), (-32), (-32), (-32), (-64)]) (hi := [99, 31, 31, 31, 31, 63, 99, 31, 31, 31, 31, 63]) rfl mC00 rfl rfl rfl v (by rw [hc]; exact hal)
    exact ⟨0, zH0, h2, c_setN1 (h := zH0) (ra := 6) (ll := [0, (-32), (-32), (-32), (-32), (-64)]) (lg := [99, 31, 31, 31, 31, 63]) rfl rfl rfl rfl v hal, rfl, y1⟩
theorem r_set2 (v : Int32) : ∃ (w : Int32) (h1 h2 : zH), zT zg0 zF zP 107 0 [(0, .ref 0), (1, .int 2), (2, .int v)] [] zH0 0 0 (some (.int w), h1, 0, 0) ∧ zat h1 162 = some (.inr (.inr (.inr (10, mfs0)))) ∧ zT zg0 zF zP 212 0 [(0, .ref 162), (1, .int 2), (2, .int v)] [] h1 0 0 (some (.int w), h2, 0, 0) := by
  have hc : jallow [0, (-32), (-32), (-32), (-32), (-64), 0, (-32), (-32), (-32), (-32), (-64)] [99, 31, 31, 31, 31, 63, 99, 31, 31, 31, 31, 63] 2 v = jallow [0, (-32), (-32), (-32), (-32), (-64)] [99, 31, 31, 31, 31, 63] 2 v := jallow_c wLim0 (j := 2) (by decide) v
  cases hal : jallow [0, (-32), (-32), (-32), (-32), (-64)] [99, 31, 31, 31, 31, 63] 2 v with
  | true =>
    obtain ⟨r, z1, h1, rfl, f⟩ := c_set2 (h := zH0) (ra := 6) (ll := [0, (-32), (-32), (-32), (-32), (-64)]) (lg := [99, 31, 31, 31, 31, 63]) rfl rfl rfl rfl rfl rfl rfl rfl ⟨by decide, by decide, by decide⟩ v hal
    have g : ∀ q e, q ∉ [0, 36, 38, 40] → zat zH0 q = some e → zat h1 q = some e := f.2
    obtain ⟨r, y1, h2, rfl⟩ := m_set2 (h := h1) (fs := mfs0) (kn := [9, 4, 10, 2, 0, 0, 0, 9, 4, 10, 2, 0, 0, 0]) (lo := [0, (-32), (-32), (-32), (-32), (-64), 0, (-32), (-32), (-32), (-32), (-64)]) (hi := [99, 31, 31, 31, 31, 63, 99, 31, 31, 31, 31, 63]) (g _ _ (by decide) rfl) mC00 (g _ _ (by decide) rfl) (g _ _ (by decide) rfl) (g _ _ (by decide) rfl) rfl (g _ _ (by decide) rfl) (g _ _ (by decide) rfl) (g _ _ (by decide) rfl) (g _ _ (by decide) rfl) v (by rw [hc]; exact hal)
    exact ⟨1, h1, h2, z1, g _ _ (by decide) rfl, y1⟩
  | false =>
    obtain ⟨r, y1, h2, rfl⟩ := m_setN2 (h := zH0) (fs := mfs0) (kn := [9, 4, 10, 2, 0, 0, 0, 9, 4, 10, 2, 0, 0, 0]) (lo := [0, (-32), (-32), (-32), (-32), (-64), 0, (-32), (-32), (-32), (-32), (-64)]) (hi := [99, 31, 31, 31, 31, 63, 99, 31, 31, 31, 31, 63]) rfl mC00 rfl rfl rfl v (by rw [hc]; exact hal)
    exact ⟨0, zH0, h2, c_setN2 (h := zH0) (ra := 6) (ll := [0, (-32), (-32), (-32), (-32), (-64)]) (lg := [99, 31, 31, 31, 31, 63]) rfl rfl rfl rfl v hal, rfl, y1⟩
theorem r_set3 (v : Int32) : ∃ (w : Int32) (h1 h2 : zH), zT zg0 zF zP 107 0 [(0, .ref 0), (1, .int 3), (2, .int v)] [] zH0 0 0 (some (.int w), h1, 0, 0) ∧ zat h1 162 = some (.inr (.inr (.inr (10, mfs0)))) ∧ zT zg0 zF zP 212 0 [(0, .ref 162), (1, .int 3), (2, .int v)] [] h1 0 0 (some (.int w), h2, 0, 0) := by
  have hc : jallow [0, (-32), (-32), (-32), (-32), (-64), 0, (-32), (-32), (-32), (-32), (-64)] [99, 31, 31, 31, 31, 63, 99, 31, 31, 31, 31, 63] 3 v = jallow [0, (-32), (-32), (-32), (-32), (-64)] [99, 31, 31, 31, 31, 63] 3 v := jallow_c wLim0 (j := 3) (by decide) v
  cases hal : jallow [0, (-32), (-32), (-32), (-32), (-64)] [99, 31, 31, 31, 31, 63] 3 v with
  | true =>
    obtain ⟨r, z1, h1, rfl, f⟩ := c_set3 (h := zH0) (ra := 6) (ll := [0, (-32), (-32), (-32), (-32), (-64)]) (lg := [99, 31, 31, 31, 31, 63]) rfl rfl rfl rfl rfl rfl rfl rfl ⟨by decide, by decide, by decide⟩ v hal
    have g : ∀ q e, q ∉ [0, 36, 38, 40] → zat zH0 q = some e → zat h1 q = some e := f.2
    obtain ⟨r, y1, h2, rfl⟩ := m_set3 (h := h1) (fs := mfs0) (kn := [9, 4, 10, 2, 0, 0, 0, 9, 4, 10, 2, 0, 0, 0]) (lo := [0, (-32), (-32), (-32), (-32), (-64), 0, (-32), (-32), (-32), (-32), (-64)]) (hi := [99, 31, 31, 31, 31, 63, 99, 31, 31, 31, 31, 63]) (g _ _ (by decide) rfl) mC00 (g _ _ (by decide) rfl) (g _ _ (by decide) rfl) (g _ _ (by decide) rfl) rfl (g _ _ (by decide) rfl) (g _ _ (by decide) rfl) (g _ _ (by decide) rfl) (g _ _ (by decide) rfl) v (by rw [hc]; exact hal)
    exact ⟨1, h1, h2, z1, g _ _ (by decide) rfl, y1⟩
  | false =>
    obtain ⟨r, y1, h2, rfl⟩ := m_setN3 (h := zH0) (fs := mfs0) (kn := [9, 4, 10, 2, 0, 0, 0, 9, 4, 10, 2, 0, 0, 0]) (lo := [0, (-32), (-32), (-32), (-32), (-64), 0, (-32), (-32), (-32), (-32), (-64)]) (hi := [99, 31, 31, 31, 31, 63, 99, 31, 31, 31, 31, 63]) rfl mC00 rfl rfl rfl v (by rw [hc]; exact hal)
    exact ⟨0, zH0, h2, c_setN3 (h := zH0) (ra := 6) (ll := [0, (-32), (-32), (-32), (-32), (-64)]) (lg := [99, 31, 31, 31, 31, 63]) rfl rfl rfl rfl v hal, rfl, y1⟩
theorem r_set4 (v : Int32) : ∃ (w : Int32) (h1 h2 : zH), zT zg0 zF zP 107 0 [(0, .ref 0), (1, .int 4), (2, .int v)] [] zH0 0 0 (some (.int w), h1, 0, 0) ∧ zat h1 162 = some (.inr (.inr (.inr (10, mfs0)))) ∧ zT zg0 zF zP 212 0 [(0, .ref 162), (1, .int 4), (2, .int v)] [] h1 0 0 (some (.int w), h2, 0, 0) := by
  have hc : jallow [0, (-32), (-32), (-32), (-32), (-64), 0, (-32), (-32), (-32), (-32), (-64)] [99, 31, 31, 31, 31, 63, 99, 31, 31, 31, 31, 63] 4 v = jallow [0, (-32), (-32), (-32), (-32), (-64)] [99, 31, 31, 31, 31, 63] 4 v := jallow_c wLim0 (j := 4) (by decide) v
  cases hal : jallow [0, (-32), (-32), (-32), (-32), (-64)] [99, 31, 31, 31, 31, 63] 4 v with
  | true =>
    obtain ⟨r, z1, h1, rfl, f⟩ := c_set4 (h := zH0) (ra := 6) (ll := [0, (-32), (-32), (-32), (-32), (-64)]) (lg := [99, 31, 31, 31, 31, 63]) rfl rfl rfl rfl rfl rfl rfl rfl ⟨by decide, by decide, by decide⟩ v hal
    have g : ∀ q e, q ∉ [0, 36, 38, 40] → zat zH0 q = some e → zat h1 q = some e := f.2
    obtain ⟨r, y1, h2, rfl⟩ := m_set4 (h := h1) (fs := mfs0) (kn := [9, 4, 10, 2, 0, 0, 0, 9, 4, 10, 2, 0, 0, 0]) (lo := [0, (-32), (-32), (-32), (-32), (-64), 0, (-32), (-32), (-32), (-32), (-64)]) (hi := [99, 31, 31, 31, 31, 63, 99, 31, 31, 31, 31, 63]) (g _ _ (by decide) rfl) mC00 (g _ _ (by decide) rfl) (g _ _ (by decide) rfl) (g _ _ (by decide) rfl) rfl (g _ _ (by decide) rfl) (g _ _ (by decide) rfl) (g _ _ (by decide) rfl) (g _ _ (by decide) rfl) v (by rw [hc]; exact hal)
    exact ⟨1, h1, h2, z1, g _ _ (by decide) rfl, y1⟩
  | false =>
    obtain ⟨r, y1, h2, rfl⟩ := m_setN4 (h := zH0) (fs := mfs0) (kn := [9, 4, 10, 2, 0, 0, 0, 9, 4, 10, 2, 0, 0, 0]) (lo := [0, (-32), (-32), (-32), (-32), (-64), 0, (-32), (-32), (-32), (-32), (-64)]) (hi := [99, 31, 31, 31, 31, 63, 99, 31, 31, 31, 31, 63]) rfl mC00 rfl rfl rfl v (by rw [hc]; exact hal)
    exact ⟨0, zH0, h2, c_setN4 (h := zH0) (ra := 6) (ll := [0, (-32), (-32), (-32), (-32), (-64)]) (lg := [99, 31, 31, 31, 31, 63]) rfl rfl rfl rfl v hal, rfl, y1⟩
theorem r_set5 (v : Int32) : ∃ (w : Int32) (h1 h2 : zH), zT zg0 zF zP 107 0 [(0, .ref 0), (1, .int 5), (2, .int v)] [] zH0 0 0 (some (.int w), h1, 0, 0) ∧ zat h1 162 = some (.inr (.inr (.inr (10, mfs0)))) ∧ zT zg0 zF zP 212 0 [(0, .ref 162), (1, .int 5), (2, .int v)] [] h1 0 0 (some (.int w), h2, 0, 0) := by
  have hc : jallow [0, (-32), (-32), (-32), (-32), (-64), 0, (-32), (-32), (-32), (-32), (-64)] [99, 31, 31, 31, 31, 63, 99, 31, 31, 31, 31, 63] 5 v = jallow [0, (-32), (-32), (-32), (-32), (-64)] [99, 31, 31, 31, 31, 63] 5 v := jallow_c wLim0 (j := 5) (by decide) v
  cases hal : jallow [0, (-32), (-32), (-32), (-32), (-64)] [99, 31, 31, 31, 31, 63] 5 v with
  | true =>
    obtain ⟨r, z1, h1, rfl, f⟩ := c_set5 (h := zH0) (ra := 6) (ll := [0, (-32), (-32), (-32), (-32), (-64)]) (lg := [99, 31, 31, 31, 31, 63]) rfl rfl rfl rfl rfl rfl rfl rfl ⟨by decide, by decide, by decide⟩ v hal
    have g : ∀ q e, q ∉ [0, 36, 38, 40] → zat zH0 q = some e → zat h1 q = some e := f.2
    obtain ⟨r, y1, h2, rfl⟩ := m_set5 (h := h1) (fs := mfs0) (kn := [9, 4, 10, 2, 0, 0, 0, 9, 4, 10, 2, 0, 0, 0]) (lo := [0, (-32), (-32), (-32), (-32), (-64), 0, (-32), (-32), (-32), (-32), (-64)]) (hi := [99, 31, 31, 31, 31, 63, 99, 31, 31, 31, 31, 63]) (g _ _ (by decide) rfl) mC00 (g _ _ (by decide) rfl) (g _ _ (by decide) rfl) (g _ _ (by decide) rfl) rfl (g _ _ (by decide) rfl) (g _ _ (by decide) rfl) (g _ _ (by decide) rfl) (g _ _ (by decide) rfl) v (by rw [hc]; exact hal)
    exact ⟨1, h1, h2, z1, g _ _ (by decide) rfl, y1⟩
  | false =>
    obtain ⟨r, y1, h2, rfl⟩ := m_setN5 (h := zH0) (fs := mfs0) (kn := [9, 4, 10, 2, 0, 0, 0, 9, 4, 10, 2, 0, 0, 0]) (lo := [0, (-32), (-32), (-32), (-32), (-64), 0, (-32), (-32), (-32), (-32), (-64)]) (hi := [99, 31, 31, 31, 31, 63, 99, 31, 31, 31, 31, 63]) rfl mC00 rfl rfl rfl v (by rw [hc]; exact hal)
    exact ⟨0, zH0, h2, c_setN5 (h := zH0) (ra := 6) (ll := [0, (-32), (-32), (-32), (-32), (-64)]) (lg := [99, 31, 31, 31, 31, 63]) rfl rfl rfl rfl v hal, rfl, y1⟩
theorem zop_6 (xs : Nat → Int32) (h0 : xs 0 &&& 63 = 6) : zDone xs := by
  by_cases hL : (xs 1).toInt < 0
  · obtain ⟨r, y1, h2, rfl⟩ := m_setL (h := zH0) (fs := mfs0) rfl mC00 (v := xs 2) hL
    exact lw_6 xs h0 (c_setL hL) (rfl : zat zH0 162 = some (.inr (.inr (.inr (10, mfs0))))) y1 (by decide) (by decide)
  · by_cases hH : 6 ≤ (xs 1).toInt
    · obtain ⟨r, y1, h2, rfl⟩ := m_setH (h := zH0) (fs := mfs0) rfl mC00 (v := xs 2) hH
      exact lw_6 xs h0 (c_setH hH) (rfl : zat zH0 162 = some (.inr (.inr (.inr (10, mfs0))))) y1 (by decide) (by decide)
    · have key : ∃ (w : Int32) (h1 h2 : zH), zT zg0 zF zP 107 0 [(0, .ref 0), (1, .int (xs 1)), (2, .int (xs 2))] [] zH0 0 0 (some (.int w), h1, 0, 0) ∧ zat h1 162 = some (.inr (.inr (.inr (10, mfs0)))) ∧ zT zg0 zF zP 212 0 [(0, .ref 162), (1, .int (xs 1)), (2, .int (xs 2))] [] h1 0 0 (some (.int w), h2, 0, 0) := by
        rcases j6 (x := xs 1) (by omega) with k | k | k | k | k | k <;> rw [k]
        · exact r_set0 (xs 2)
        · exact r_set1 (xs 2)
        · exact r_set2 (xs 2)
        · exact r_set3 (xs 2)
        · exact r_set4 (xs 2)
        · exact r_set5 (xs 2)
      obtain ⟨w, h1, h2, z1, z2, z3⟩ := key
      exact lw_6 xs h0 z1 z2 z3 (by decide) (by decide)
theorem r_aim0 (v : Int64) : ∃ (w : Int32) (h1 h2 : zH), zT zg0 zF zP 112 0 [(0, .ref 0), (1, .int 0), (2, .long v)] [] zH0 0 0 (some (.int w), h1, 0, 0) ∧ zat h1 162 = some (.inr (.inr (.inr (10, mfs0)))) ∧ zT zg0 zF zP 218 0 [(0, .ref 162), (1, .int 0), (2, .long v)] [] h1 0 0 (some (.int w), h2, 0, 0) := by
  by_cases h1 : v.toInt < -1000000000
  · obtain ⟨r, y1, h2, rfl⟩ := m_aimA0 (h := zH0) (fs := mfs0) rfl mC00 h1
    exact ⟨0, zH0, h2, c_aimA0 h1, rfl, y1⟩
  · by_cases h2 : 1000000000 < v.toInt
    · obtain ⟨r, y1, h2, rfl⟩ := m_aimB0 (h := zH0) (fs := mfs0) rfl mC00 h2
      exact ⟨0, zH0, h2, c_aimB0 (by assumption), rfl, y1⟩
    · obtain ⟨r, z1, h3, rfl, f⟩ := c_aimG0 (h := zH0) (ra := 6) rfl rfl rfl rfl rfl (v := v) (by omega) (by omega)
      have g : ∀ q e, q ∉ [0, 36, 38, 40, 34] → zat zH0 q = some e → zat h3 q = some e := f.2
      obtain ⟨r, y1, h4, rfl⟩ := m_aimG0 (h := h3) (fs := mfs0) (kn := [9, 4, 10, 2, 0, 0, 0, 9, 4, 10, 2, 0, 0, 0]) (lo := [0, (-32), (-32), (-32), (-32), (-64), 0, (-32), (-32), (-32), (-32), (-64)]) (hi := [99, 31, 31, 31, 31, 63, 99, 31, 31, 31, 31, 63]) (g _ _ (by decide) rfl) mC00 (g _ _ (by decide) rfl) (g _ _ (by decide) rfl) (g _ _ (by decide) rfl) rfl (g _ _ (by decide) rfl) (g _ _ (by decide) rfl) (g _ _ (by decide) rfl) (g _ _ (by decide) rfl) (v := v) (by omega) (by omega)
      exact ⟨1, h3, h4, z1, g _ _ (by decide) rfl, y1⟩
theorem r_aim1 (v : Int64) : ∃ (w : Int32) (h1 h2 : zH), zT zg0 zF zP 112 0 [(0, .ref 0), (1, .int 1), (2, .long v)] [] zH0 0 0 (some (.int w), h1, 0, 0) ∧ zat h1 162 = some (.inr (.inr (.inr (10, mfs0)))) ∧ zT zg0 zF zP 218 0 [(0, .ref 162), (1, .int 1), (2, .long v)] [] h1 0 0 (some (.int w), h2, 0, 0) := by
  by_cases h1 : v.toInt < -1000000000
  · obtain ⟨r, y1, h2, rfl⟩ := m_aimA1 (h := zH0) (fs := mfs0) rfl mC00 h1
    exact ⟨0, zH0, h2, c_aimA1 h1, rfl, y1⟩
  · by_cases h2 : 1000000000 < v.toInt
    · obtain ⟨r, y1, h2, rfl⟩ := m_aimB1 (h := zH0) (fs := mfs0) rfl mC00 h2
      exact ⟨0, zH0, h2, c_aimB1 (by assumption), rfl, y1⟩
    · obtain ⟨r, z1, h3, rfl, f⟩ := c_aimG1 (h := zH0) (ra := 6) rfl rfl rfl rfl rfl (v := v) (by omega) (by omega)
      have g : ∀ q e, q ∉ [0, 36, 38, 40, 34] → zat zH0 q = some e → zat h3 q = some e := f.2
      obtain ⟨r, y1, h4, rfl⟩ := m_aimG1 (h := h3) (fs := mfs0) (kn := [9, 4, 10, 2, 0, 0, 0, 9, 4, 10, 2, 0, 0, 0]) (lo := [0, (-32), (-32), (-32), (-32), (-64), 0, (-32), (-32), (-32), (-32), (-64)]) (hi := [99, 31, 31, 31, 31, 63, 99, 31, 31, 31, 31, 63]) (g _ _ (by decide) rfl) mC00 (g _ _ (by decide) rfl) (g _ _ (by decide) rfl) (g _ _ (by decide) rfl) rfl (g _ _ (by decide) rfl) (g _ _ (by decide) rfl) (g _ _ (by decide) rfl) (g _ _ (by decide) rfl) (v := v) (by omega) (by omega)
      exact ⟨1, h3, h4, z1, g _ _ (by decide) rfl, y1⟩
theorem r_aim2 (v : Int64) : ∃ (w : Int32) (h1 h2 : zH), zT zg0 zF zP 112 0 [(0, .ref 0), (1, .int 2), (2, .long v)] [] zH0 0 0 (some (.int w), h1, 0, 0) ∧ zat h1 162 = some (.inr (.inr (.inr (10, mfs0)))) ∧ zT zg0 zF zP 218 0 [(0, .ref 162), (1, .int 2), (2, .long v)] [] h1 0 0 (some (.int w), h2, 0, 0) := by
  by_cases h1 : v.toInt < -1000000000
  · obtain ⟨r, y1, h2, rfl⟩ := m_aimA2 (h := zH0) (fs := mfs0) rfl mC00 h1
    exact ⟨0, zH0, h2, c_aimA2 h1, rfl, y1⟩
  · by_cases h2 : 1000000000 < v.toInt
    · obtain ⟨r, y1, h2, rfl⟩ := m_aimB2 (h := zH0) (fs := mfs0) rfl mC00 h2
      exact ⟨0, zH0, h2, c_aimB2 (by assumption), rfl, y1⟩
    · obtain ⟨r, z1, h3, rfl, f⟩ := c_aimG2 (h := zH0) (ra := 6) rfl rfl rfl rfl rfl (v := v) (by omega) (by omega)
      have g : ∀ q e, q ∉ [0, 36, 38, 40, 34] → zat zH0 q = some e → zat h3 q = some e := f.2
      obtain ⟨r, y1, h4, rfl⟩ := m_aimG2 (h := h3) (fs := mfs0) (kn := [9, 4, 10, 2, 0, 0, 0, 9, 4, 10, 2, 0, 0, 0]) (lo := [0, (-32), (-32), (-32), (-32), (-64), 0, (-32), (-32), (-32), (-32), (-64)]) (hi := [99, 31, 31, 31, 31, 63, 99, 31, 31, 31, 31, 63]) (g _ _ (by decide) rfl) mC00 (g _ _ (by decide) rfl) (g _ _ (by decide) rfl) (g _ _ (by decide) rfl) rfl (g _ _ (by decide) rfl) (g _ _ (by decide) rfl) (g _ _ (by decide) rfl) (g _ _ (by decide) rfl) (v := v) (by omega) (by omega)
      exact ⟨1, h3, h4, z1, g _ _ (by decide) rfl, y1⟩
theorem r_aim3 (v : Int64) : ∃ (w : Int32) (h1 h2 : zH), zT zg0 zF zP 112 0 [(0, .ref 0), (1, .int 3), (2, .long v)] [] zH0 0 0 (some (.int w), h1, 0, 0) ∧ zat h1 162 = some (.inr (.inr (.inr (10, mfs0)))) ∧ zT zg0 zF zP 218 0 [(0, .ref 162), (1, .int 3), (2, .long v)] [] h1 0 0 (some (.int w), h2, 0, 0) := by
  by_cases h1 : v.toInt < 0
  · obtain ⟨r, y1, h2, rfl⟩ := m_aimA3 (h := zH0) (fs := mfs0) rfl mC00 h1
    exact ⟨0, zH0, h2, c_aimA3 h1, rfl, y1⟩
  · by_cases h2 : 63 < v.toInt
    · obtain ⟨r, y1, h2, rfl⟩ := m_aimB3 (h := zH0) (fs := mfs0) rfl mC00 h2
      exact ⟨0, zH0, h2, c_aimB3 (by assumption), rfl, y1⟩
    · obtain ⟨r, z1, h3, rfl, f⟩ := c_aimG3 (h := zH0) (ra := 6) rfl rfl rfl rfl rfl (v := v) (by omega) (by omega)
      have g : ∀ q e, q ∉ [0, 36, 38, 40, 34] → zat zH0 q = some e → zat h3 q = some e := f.2
      obtain ⟨r, y1, h4, rfl⟩ := m_aimG3 (h := h3) (fs := mfs0) (kn := [9, 4, 10, 2, 0, 0, 0, 9, 4, 10, 2, 0, 0, 0]) (lo := [0, (-32), (-32), (-32), (-32), (-64), 0, (-32), (-32), (-32), (-32), (-64)]) (hi := [99, 31, 31, 31, 31, 63, 99, 31, 31, 31, 31, 63]) (g _ _ (by decide) rfl) mC00 (g _ _ (by decide) rfl) (g _ _ (by decide) rfl) (g _ _ (by decide) rfl) rfl (g _ _ (by decide) rfl) (g _ _ (by decide) rfl) (g _ _ (by decide) rfl) (g _ _ (by decide) rfl) (v := v) (by omega) (by omega)
      exact ⟨1, h3, h4, z1, g _ _ (by decide) rfl, y1⟩
theorem r_aim4 (v : Int64) : ∃ (w : Int32) (h1 h2 : zH), zT zg0 zF zP 112 0 [(0, .ref 0), (1, .int 4), (2, .long v)] [] zH0 0 0 (some (.int w), h1, 0, 0) ∧ zat h1 162 = some (.inr (.inr (.inr (10, mfs0)))) ∧ zT zg0 zF zP 218 0 [(0, .ref 162), (1, .int 4), (2, .long v)] [] h1 0 0 (some (.int w), h2, 0, 0) := by
  by_cases h1 : v.toInt < 0
  · obtain ⟨r, y1, h2, rfl⟩ := m_aimA4 (h := zH0) (fs := mfs0) rfl mC00 h1
    exact ⟨0, zH0, h2, c_aimA4 h1, rfl, y1⟩
  · by_cases h2 : 63 < v.toInt
    · obtain ⟨r, y1, h2, rfl⟩ := m_aimB4 (h := zH0) (fs := mfs0) rfl mC00 h2
      exact ⟨0, zH0, h2, c_aimB4 (by assumption), rfl, y1⟩
    · obtain ⟨r, z1, h3, rfl, f⟩ := c_aimG4 (h := zH0) (ra := 6) rfl rfl rfl rfl rfl (v := v) (by omega) (by omega)
      have g : ∀ q e, q ∉ [0, 36, 38, 40, 34] → zat zH0 q = some e → zat h3 q = some e := f.2
      obtain ⟨r, y1, h4, rfl⟩ := m_aimG4 (h := h3) (fs := mfs0) (kn := [9, 4, 10, 2, 0, 0, 0, 9, 4, 10, 2, 0, 0, 0]) (lo := [0, (-32), (-32), (-32), (-32), (-64), 0, (-32), (-32), (-32), (-32), (-64)]) (hi := [99, 31, 31, 31, 31, 63, 99, 31, 31, 31, 31, 63]) (g _ _ (by decide) rfl) mC00 (g _ _ (by decide) rfl) (g _ _ (by decide) rfl) (g _ _ (by decide) rfl) rfl (g _ _ (by decide) rfl) (g _ _ (by decide) rfl) (g _ _ (by decide) rfl) (g _ _ (by decide) rfl) (v := v) (by omega) (by omega)
      exact ⟨1, h3, h4, z1, g _ _ (by decide) rfl, y1⟩
theorem r_aim5 (v : Int64) : ∃ (w : Int32) (h1 h2 : zH), zT zg0 zF zP 112 0 [(0, .ref 0), (1, .int 5), (2, .long v)] [] zH0 0 0 (some (.int w), h1, 0, 0) ∧ zat h1 162 = some (.inr (.inr (.inr (10, mfs0)))) ∧ zT zg0 zF zP 218 0 [(0, .ref 162), (1, .int 5), (2, .long v)] [] h1 0 0 (some (.int w), h2, 0, 0) := by
  by_cases h1 : v.toInt < 0
  · obtain ⟨r, y1, h2, rfl⟩ := m_aimA5 (h := zH0) (fs := mfs0) rfl mC00 h1
    exact ⟨0, zH0, h2, c_aimA5 h1, rfl, y1⟩
  · by_cases h2 : 63 < v.toInt
    · obtain ⟨r, y1, h2, rfl⟩ := m_aimB5 (h := zH0) (fs := mfs0) rfl mC00 h2
      exact ⟨0, zH0, h2, c_aimB5 (by assumption), rfl, y1⟩
    · obtain ⟨r, z1, h3, rfl, f⟩ := c_aimG5 (h := zH0) (ra := 6) rfl rfl rfl rfl rfl (v := v) (by omega) (by omega)
      have g : ∀ q e, q ∉ [0, 36, 38, 40, 34] → zat zH0 q = some e → zat h3 q = some e := f.2
      obtain ⟨r, y1, h4, rfl⟩ := m_aimG5 (h := h3) (fs := mfs0) (kn := [9, 4, 10, 2, 0, 0, 0, 9, 4, 10, 2, 0, 0, 0]) (lo := [0, (-32), (-32), (-32), (-32), (-64), 0, (-32), (-32), (-32), (-32), (-64)]) (hi := [99, 31, 31, 31, 31, 63, 99, 31, 31, 31, 31, 63]) (g _ _ (by decide) rfl) mC00 (g _ _ (by decide) rfl) (g _ _ (by decide) rfl) (g _ _ (by decide) rfl) rfl (g _ _ (by decide) rfl) (g _ _ (by decide) rfl) (g _ _ (by decide) rfl) (g _ _ (by decide) rfl) (v := v) (by omega) (by omega)
      exact ⟨1, h3, h4, z1, g _ _ (by decide) rfl, y1⟩
set_option maxRecDepth 1000000 in
set_option maxHeartbeats 4000000 in
theorem lw_11 (xs : Nat → Int32) (h0 : xs 0 &&& 63 = 11) {v : Int32} {h1 h2 : zH} {d1 s1 d2 s2 : Nat} {fs : List Value} (hc : zT zg0 zF zP 112 0 [(0, .ref 0), (1, .int (xs 1)), (2, .long (((xs 2).toInt64 <<< (((32 : Int32)).toInt64 &&& 63)) ||| ((xs 3).toInt64 &&& (4294967295 : Int64))))] [] zH0 0 0 (some (.int v), h1, d1, s1)) (hX : zat h1 162 = some (.inr (.inr (.inr (10, fs))))) (hm : zT zg0 zF zP 218 0 [(0, .ref 162), (1, .int (xs 1)), (2, .long (((xs 2).toInt64 <<< (((32 : Int32)).toInt64 &&& 63)) ||| ((xs 3).toInt64 &&& (4294967295 : Int64))))] [] h1 0 0 (some (.int v), h2, d2, s2)) (hd : 117 + d1 + d2 ≤ 600002) (hs : 29934 + s1 + s2 ≤ 7302232) : zDone xs := by
  refine ⟨h2, 117 + d1 + d2, 29934 + s1 + s2, ?_, hd, hs⟩
  refine zT_gos (f := 200000) (pc2 := 37) (ls2 := [(4, .int 0), (3, .ref 232), (2, .ref 162), (1, .ref 0), (0, .ref 11)]) (st2 := [.int (xs 0)]) (h2 := zH0) (dc2 := 117) (ds2 := 29934) 9 rfl ?_
  refine zT_gos (f := 200000) (pc2 := 40) (ls2 := [(4, .int 0), (3, .ref 232), (2, .ref 162), (1, .ref 0), (0, .ref 11)]) (st2 := [.int ((xs 0) &&& (63 : Int32))]) (h2 := zH0) (dc2 := 117) (ds2 := 29934) 2 rfl ?_
  refine zT_val h0 ?_
  refine zT_gos (f := 200000) (pc2 := 645) (ls2 := [(4, .int 0), (3, .ref 232), (2, .ref 162), (1, .ref 0), (0, .ref 11)]) (st2 := [.long (((xs 2).toInt64 <<< (((32 : Int32)).toInt64 &&& 63)) ||| ((xs 3).toInt64 &&& (4294967295 : Int64))), .int (xs 1), .ref 0]) (h2 := zH0) (dc2 := 117) (ds2 := 29934) 24 rfl ?_
  refine zT_call (y2 := 112) (as := [.ref 0, .int (xs 1), .long (((xs 2).toInt64 <<< (((32 : Int32)).toInt64 &&& 63)) ||| ((xs 3).toInt64 &&& (4294967295 : Int64)))]) rfl rfl (zT_le (zg0_le 6 xs) hc) ?_
  refine zT_here (pc2 := 648) rfl ?_
  refine zT_gos (f := 200000) (pc2 := 677) (ls2 := [(4, .int 0), (3, .ref 232), (2, .ref 162), (1, .ref 0), (0, .ref 11)]) (st2 := [.long (((xs 2).toInt64 <<< (((32 : Int32)).toInt64 &&& 63)) ||| ((xs 3).toInt64 &&& (4294967295 : Int64))), .int (xs 1), .ref 162, .int v]) (h2 := h1) (dc2 := 117 + d1) (ds2 := 29934 + s1) 23 rfl ?_
  refine zT_calv (y2 := 218) (as := [.int (xs 1), .long (((xs 2).toInt64 <<< (((32 : Int32)).toInt64 &&& 63)) ||| ((xs 3).toInt64 &&& (4294967295 : Int64)))]) rfl rfl hX rfl (zT_le (zg0_le 6 xs) hm) ?_
  refine zT_here (pc2 := 680) rfl ?_
  refine zT_if2 true rfl (zc_eq_t rfl) ?_
  refine zT_here (pc2 := 1804) rfl ?_
  refine zT_gos (f := 200000) (pc2 := 1811) (ls2 := [(4, .int 6), (3, .ref 232), (2, .ref 162), (1, .ref 0), (0, .ref 11)]) (st2 := [.int 1]) (h2 := h2) (dc2 := 117 + d1 + d2) (ds2 := 29934 + s1 + s2) 9 rfl ?_
  exact zT_ret rfl rfl
theorem zop_11 (xs : Nat → Int32) (h0 : xs 0 &&& 63 = 11) : zDone xs := by
  by_cases hL : (xs 1).toInt < 0
  · obtain ⟨r, y1, h2, rfl⟩ := m_aimL (h := zH0) (fs := mfs0) rfl mC00 hL
    exact lw_11 xs h0 (c_aimL hL) (rfl : zat zH0 162 = some (.inr (.inr (.inr (10, mfs0))))) y1 (by decide) (by decide)
  · by_cases hH : 6 ≤ (xs 1).toInt
    · obtain ⟨r, y1, h2, rfl⟩ := m_aimH (h := zH0) (fs := mfs0) rfl mC00 hH
      exact lw_11 xs h0 (c_aimH hH) (rfl : zat zH0 162 = some (.inr (.inr (.inr (10, mfs0))))) y1 (by decide) (by decide)
    · have key : ∀ v : Int64, ∃ (w : Int32) (h1 h2 : zH), zT zg0 zF zP 112 0 [(0, .ref 0), (1, .int (xs 1)), (2, .long v)] [] zH0 0 0 (some (.int w), h1, 0, 0) ∧ zat h1 162 = some (.inr (.inr (.inr (10, mfs0)))) ∧ zT zg0 zF zP 218 0 [(0, .ref 162), (1, .int (xs 1)), (2, .long v)] [] h1 0 0 (some (.int w), h2, 0, 0) := by
        intro v
        rcases j6 (x := xs 1) (by omega) with k | k | k | k | k | k <;> rw [k]
        · exact r_aim0 v
        · exact r_aim1 v
        · exact r_aim2 v
        · exact r_aim3 v
        · exact r_aim4 v
        · exact r_aim5 v
      obtain ⟨w, h1, h2, z1, z2, z3⟩ := key _
      exact lw_11 xs h0 z1 z2 z3 (by decide) (by decide)
