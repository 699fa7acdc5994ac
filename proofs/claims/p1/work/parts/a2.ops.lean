/-! ops 12, 13, 15, 18 closed. -/
theorem r_o12  : ∃ (v : Int32) (h1 h2 : zH) (d s : Nat), zT zg0 zF zP 113 0 [(0, .ref 0)] [] zH0 0 0 (some (.int v), h1, d, s) ∧ zat h1 162 = some (.inr (.inr (.inr (10, mfs0)))) ∧ zT zg0 zF zP 229 0 [(0, .ref 162)] [] h1 0 0 (some (.int v), h2, 0, 0) ∧ d ≤ 1200 ∧ s ≤ 720000 := by
  obtain ⟨r, z1, h1, d, s, rfl, f, hd, hs⟩ := c_o12 (h := zH0) rfl rfl rfl rfl rfl rfl rfl rfl rfl rfl rfl rfl rfl rfl rfl rfl (by decide) 
  have g : ∀ q e, q ∉ [0, 36, 38, 40, 62, 60, 64, 44, 46, 48, 50, 52, 54, 56, 58] → zat zH0 q = some e → zat h1 q = some e := f.2
  obtain ⟨r, y1, h2, rfl⟩ := m_o12 (h := h1) (fs := mfs0) (g _ _ (by decide) rfl) mC00 (g _ _ (by decide) rfl) (g _ _ (by decide) rfl) (g _ _ (by decide) rfl) (g _ _ (by decide) rfl) (g _ _ (by decide) rfl) (g _ _ (by decide) rfl) (g _ _ (by decide) rfl) (g _ _ (by decide) rfl) rfl rfl 
  exact ⟨_, h1, h2, d, s, z1, g _ _ (by decide) rfl, y1, hd, hs⟩
theorem r_o15  : ∃ (v : Int32) (h1 h2 : zH) (d s : Nat), zT zg0 zF zP 116 0 [(0, .ref 0)] [] zH0 0 0 (some (.int v), h1, d, s) ∧ zat h1 162 = some (.inr (.inr (.inr (10, mfs0)))) ∧ zT zg0 zF zP 232 0 [(0, .ref 162)] [] h1 0 0 (some (.int v), h2, 0, 0) ∧ d ≤ 1200 ∧ s ≤ 720000 := by
  obtain ⟨r, z1, h1, d, s, rfl, f, hd, hs⟩ := c_o15 (h := zH0) rfl rfl rfl rfl rfl rfl rfl rfl rfl rfl rfl rfl rfl rfl rfl rfl (by decide) 
  have g : ∀ q e, q ∉ [0, 36, 38, 40, 62, 60, 64, 44, 46, 48, 50, 52, 54, 56, 58] → zat zH0 q = some e → zat h1 q = some e := f.2
  obtain ⟨r, y1, h2, rfl⟩ := m_o15 (h := h1) (fs := mfs0) (g _ _ (by decide) rfl) mC00 (g _ _ (by decide) rfl) (g _ _ (by decide) rfl) (g _ _ (by decide) rfl) (g _ _ (by decide) rfl) (g _ _ (by decide) rfl) (g _ _ (by decide) rfl) (g _ _ (by decide) rfl) (g _ _ (by decide) rfl) rfl rfl 
  exact ⟨_, h1, h2, d, s, z1, g _ _ (by decide) rfl, y1, hd, hs⟩
theorem r_o13jl {kk jj : Int32} (hj : jj.toInt < 0) : ∃ (v : Int32) (h1 h2 : zH) (d s : Nat), zT zg0 zF zP 114 0 [(0, .ref 0), (1, .int kk), (2, .int jj)] [] zH0 0 0 (some (.int v), h1, d, s) ∧ zat h1 162 = some (.inr (.inr (.inr (10, mfs0)))) ∧ zT zg0 zF zP 231 0 [(0, .ref 162), (1, .int kk), (2, .int jj)] [] h1 0 0 (some (.int v), h2, 0, 0) ∧ d ≤ 1200 ∧ s ≤ 720000 := by
  obtain ⟨r, z1, h1, d, s, rfl, f, hd, hs⟩ := c_o13jl (h := zH0) rfl rfl rfl rfl rfl rfl rfl rfl rfl rfl rfl rfl rfl rfl rfl rfl (by decide) hj
  have g : ∀ q e, q ∉ [0, 36, 38, 40, 62, 60, 64, 44, 46, 48, 50, 52, 54, 56, 58] → zat zH0 q = some e → zat h1 q = some e := f.2
  obtain ⟨r, y1, h2, rfl⟩ := m_o13jl (h := h1) (fs := mfs0) (g _ _ (by decide) rfl) mC00 (g _ _ (by decide) rfl) (g _ _ (by decide) rfl) (g _ _ (by decide) rfl) (g _ _ (by decide) rfl) (g _ _ (by decide) rfl) (g _ _ (by decide) rfl) (g _ _ (by decide) rfl) (g _ _ (by decide) rfl) rfl rfl hj
  exact ⟨_, h1, h2, d, s, z1, g _ _ (by decide) rfl, y1, hd, hs⟩
theorem r_o13jh {kk jj : Int32} (hj : 6 ≤ jj.toInt) : ∃ (v : Int32) (h1 h2 : zH) (d s : Nat), zT zg0 zF zP 114 0 [(0, .ref 0), (1, .int kk), (2, .int jj)] [] zH0 0 0 (some (.int v), h1, d, s) ∧ zat h1 162 = some (.inr (.inr (.inr (10, mfs0)))) ∧ zT zg0 zF zP 231 0 [(0, .ref 162), (1, .int kk), (2, .int jj)] [] h1 0 0 (some (.int v), h2, 0, 0) ∧ d ≤ 1200 ∧ s ≤ 720000 := by
  obtain ⟨r, z1, h1, d, s, rfl, f, hd, hs⟩ := c_o13jh (h := zH0) rfl rfl rfl rfl rfl rfl rfl rfl rfl rfl rfl rfl rfl rfl rfl rfl (by decide) hj
  have g : ∀ q e, q ∉ [0, 36, 38, 40, 62, 60, 64, 44, 46, 48, 50, 52, 54, 56, 58] → zat zH0 q = some e → zat h1 q = some e := f.2
  obtain ⟨r, y1, h2, rfl⟩ := m_o13jh (h := h1) (fs := mfs0) (g _ _ (by decide) rfl) mC00 (g _ _ (by decide) rfl) (g _ _ (by decide) rfl) (g _ _ (by decide) rfl) (g _ _ (by decide) rfl) (g _ _ (by decide) rfl) (g _ _ (by decide) rfl) (g _ _ (by decide) rfl) (g _ _ (by decide) rfl) rfl rfl hj
  exact ⟨_, h1, h2, d, s, z1, g _ _ (by decide) rfl, y1, hd, hs⟩
theorem r_o13kl0 {kk : Int32} (hk : kk.toInt < 0) : ∃ (v : Int32) (h1 h2 : zH) (d s : Nat), zT zg0 zF zP 114 0 [(0, .ref 0), (1, .int kk), (2, .int 0)] [] zH0 0 0 (some (.int v), h1, d, s) ∧ zat h1 162 = some (.inr (.inr (.inr (10, mfs0)))) ∧ zT zg0 zF zP 231 0 [(0, .ref 162), (1, .int kk), (2, .int 0)] [] h1 0 0 (some (.int v), h2, 0, 0) ∧ d ≤ 1200 ∧ s ≤ 720000 := by
  obtain ⟨r, z1, h1, d, s, rfl, f, hd, hs⟩ := c_o13kl0 (h := zH0) rfl rfl rfl rfl rfl rfl rfl rfl rfl rfl rfl rfl rfl rfl rfl rfl (by decide) hk
  have g : ∀ q e, q ∉ [0, 36, 38, 40, 62, 60, 64, 44, 46, 48, 50, 52, 54, 56, 58] → zat zH0 q = some e → zat h1 q = some e := f.2
  obtain ⟨r, y1, h2, rfl⟩ := m_o13kl0 (h := h1) (fs := mfs0) (g _ _ (by decide) rfl) mC00 (g _ _ (by decide) rfl) (g _ _ (by decide) rfl) (g _ _ (by decide) rfl) (g _ _ (by decide) rfl) (g _ _ (by decide) rfl) (g _ _ (by decide) rfl) (g _ _ (by decide) rfl) (g _ _ (by decide) rfl) rfl rfl hk
  exact ⟨_, h1, h2, d, s, z1, g _ _ (by decide) rfl, y1, hd, hs⟩
theorem r_o13kl1 {kk : Int32} (hk : kk.toInt < 0) : ∃ (v : Int32) (h1 h2 : zH) (d s : Nat), zT zg0 zF zP 114 0 [(0, .ref 0), (1, .int kk), (2, .int 1)] [] zH0 0 0 (some (.int v), h1, d, s) ∧ zat h1 162 = some (.inr (.inr (.inr (10, mfs0)))) ∧ zT zg0 zF zP 231 0 [(0, .ref 162), (1, .int kk), (2, .int 1)] [] h1 0 0 (some (.int v), h2, 0, 0) ∧ d ≤ 1200 ∧ s ≤ 720000 := by
  obtain ⟨r, z1, h1, d, s, rfl, f, hd, hs⟩ := c_o13kl1 (h := zH0) rfl rfl rfl rfl rfl rfl rfl rfl rfl rfl rfl rfl rfl rfl rfl rfl (by decide) hk
  have g : ∀ q e, q ∉ [0, 36, 38, 40, 62, 60, 64, 44, 46, 48, 50, 52, 54, 56, 58] → zat zH0 q = some e → zat h1 q = some e := f.2
  obtain ⟨r, y1, h2, rfl⟩ := m_o13kl1 (h := h1) (fs := mfs0) (g _ _ (by decide) rfl) mC00 (g _ _ (by decide) rfl) (g _ _ (by decide) rfl) (g _ _ (by decide) rfl) (g _ _ (by decide) rfl) (g _ _ (by decide) rfl) (g _ _ (by decide) rfl) (g _ _ (by decide) rfl) (g _ _ (by decide) rfl) rfl rfl hk
  exact ⟨_, h1, h2, d, s, z1, g _ _ (by decide) rfl, y1, hd, hs⟩
theorem r_o13kl2 {kk : Int32} (hk : kk.toInt < 0) : ∃ (v : Int32) (h1 h2 : zH) (d s : Nat), zT zg0 zF zP 114 0 [(0, .ref 0), (1, .int kk), (2, .int 2)] [] zH0 0 0 (some (.int v), h1, d, s) ∧ zat h1 162 = some (.inr (.inr (.inr (10, mfs0)))) ∧ zT zg0 zF zP 231 0 [(0, .ref 162), (1, .int kk), (2, .int 2)] [] h1 0 0 (some (.int v), h2, 0, 0) ∧ d ≤ 1200 ∧ s ≤ 720000 := by
  obtain ⟨r, z1, h1, d, s, rfl, f, hd, hs⟩ := c_o13kl2 (h := zH0) rfl rfl rfl rfl rfl rfl rfl rfl rfl rfl rfl rfl rfl rfl rfl rfl (by decide) hk
  have g : ∀ q e, q ∉ [0, 36, 38, 40, 62, 60, 64, 44, 46, 48, 50, 52, 54, 56, 58] → zat zH0 q = some e → zat h1 q = some e := f.2
  obtain ⟨r, y1, h2, rfl⟩ := m_o13kl2 (h := h1) (fs := mfs0) (g _ _ (by decide) rfl) mC00 (g _ _ (by decide) rfl) (g _ _ (by decide) rfl) (g _ _ (by decide) rfl) (g _ _ (by decide) rfl) (g _ _ (by decide) rfl) (g _ _ (by decide) rfl) (g _ _ (by decide) rfl) (g _ _ (by decide) rfl) rfl rfl hk
  exact ⟨_, h1, h2, d, s, z1, g _ _ (by decide) rfl, y1, hd, hs⟩
theorem r_o13kl3 {kk : Int32} (hk : kk.toInt < 0) : ∃ (v : Int32) (h1 h2 : zH) (d s : Nat), zT zg0 zF zP 114 0 [(0, .ref 0), (1, .int kk), (2, .int 3)] [] zH0 0 0 (some (.int v), h1, d, s) ∧ zat h1 162 = some (.inr (.inr (.inr (10, mfs0)))) ∧ zT zg0 zF zP 231 0 [(0, .ref 162), (1, .int kk), (2, .int 3)] [] h1 0 0 (some (.int v), h2, 0, 0) ∧ d ≤ 1200 ∧ s ≤ 720000 := by
  obtain ⟨r, z1, h1, d, s, rfl, f, hd, hs⟩ := c_o13kl3 (h := zH0) rfl rfl rfl rfl rfl rfl rfl rfl rfl rfl rfl rfl rfl rfl rfl rfl (by decide) hk
  have g : ∀ q e, q ∉ [0, 36, 38, 40, 62, 60, 64, 44, 46, 48, 50, 52, 54, 56, 58] → zat zH0 q = some e → zat h1 q = some e := f.2
  obtain ⟨r, y1, h2, rfl⟩ := m_o13kl3 (h := h1) (fs := mfs0) (g _ _ (by decide) rfl) mC00 (g _ _ (by decide) rfl) (g _ _ (by decide) rfl) (g _ _ (by decide) rfl) (g _ _ (by decide) rfl) (g _ _ (by decide) rfl) (g _ _ (by decide) rfl) (g _ _ (by decide) rfl) (g _ _ (by decide) rfl) rfl rfl hk
  exact ⟨_, h1, h2, d, s, z1, g _ _ (by decide) rfl, y1, hd, hs⟩
theorem r_o13kl4 {kk : Int32} (hk : kk.toInt < 0) : ∃ (v : Int32) (h1 h2 : zH) (d s : Nat), zT zg0 zF zP 114 0 [(0, .ref 0), (1, .int kk), (2, .int 4)] [] zH0 0 0 (some (.int v), h1, d, s) ∧ zat h1 162 = some (.inr (.inr (.inr (10, mfs0)))) ∧ zT zg0 zF zP 231 0 [(0, .ref 162), (1, .int kk), (2, .int 4)] [] h1 0 0 (some (.int v), h2, 0, 0) ∧ d ≤ 1200 ∧ s ≤ 720000 := by
  obtain ⟨r, z1, h1, d, s, rfl, f, hd, hs⟩ := c_o13kl4 (h := zH0) rfl rfl rfl rfl rfl rfl rfl rfl rfl rfl rfl rfl rfl rfl rfl rfl (by decide) hk
  have g : ∀ q e, q ∉ [0, 36, 38, 40, 62, 60, 64, 44, 46, 48, 50, 52, 54, 56, 58] → zat zH0 q = some e → zat h1 q = some e := f.2
  obtain ⟨r, y1, h2, rfl⟩ := m_o13kl4 (h := h1) (fs := mfs0) (g _ _ (by decide) rfl) mC00 (g _ _ (by decide) rfl) (g _ _ (by decide) rfl) (g _ _ (by decide) rfl) (g _ _ (by decide) rfl) (g _ _ (by decide) rfl) (g _ _ (by decide) rfl) (g _ _ (by decide) rfl) (g _ _ (by decide) rfl) rfl rfl hk
  exact ⟨_, h1, h2, d, s, z1, g _ _ (by decide) rfl, y1, hd, hs⟩
theorem r_o13kl5 {kk : Int32} (hk : kk.toInt < 0) : ∃ (v : Int32) (h1 h2 : zH) (d s : Nat), zT zg0 zF zP 114 0 [(0, .ref 0), (1, .int kk), (2, .int 5)] [] zH0 0 0 (some (.int v), h1, d, s) ∧ zat h1 162 = some (.inr (.inr (.inr (10, mfs0)))) ∧ zT zg0 zF zP 231 0 [(0, .ref 162), (1, .int kk), (2, .int 5)] [] h1 0 0 (some (.int v), h2, 0, 0) ∧ d ≤ 1200 ∧ s ≤ 720000 := by
  obtain ⟨r, z1, h1, d, s, rfl, f, hd, hs⟩ := c_o13kl5 (h := zH0) rfl rfl rfl rfl rfl rfl rfl rfl rfl rfl rfl rfl rfl rfl rfl rfl (by decide) hk
  have g : ∀ q e, q ∉ [0, 36, 38, 40, 62, 60, 64, 44, 46, 48, 50, 52, 54, 56, 58] → zat zH0 q = some e → zat h1 q = some e := f.2
  obtain ⟨r, y1, h2, rfl⟩ := m_o13kl5 (h := h1) (fs := mfs0) (g _ _ (by decide) rfl) mC00 (g _ _ (by decide) rfl) (g _ _ (by decide) rfl) (g _ _ (by decide) rfl) (g _ _ (by decide) rfl) (g _ _ (by decide) rfl) (g _ _ (by decide) rfl) (g _ _ (by decide) rfl) (g _ _ (by decide) rfl) rfl rfl hk
  exact ⟨_, h1, h2, d, s, z1, g _ _ (by decide) rfl, y1, hd, hs⟩
theorem r_o18kl {kk : Int32} (hk : kk.toInt < 0) : ∃ (v : Int32) (h1 h2 : zH) (d s : Nat), zT zg0 zF zP 119 0 [(0, .ref 0), (1, .int kk)] [] zH0 0 0 (some (.int v), h1, d, s) ∧ zat h1 162 = some (.inr (.inr (.inr (10, mfs0)))) ∧ zT zg0 zF zP 239 0 [(0, .ref 162), (1, .int kk)] [] h1 0 0 (some (.int v), h2, 0, 0) ∧ d ≤ 1200 ∧ s ≤ 720000 := by
  obtain ⟨r, z1, h1, d, s, rfl, f, hd, hs⟩ := c_o18kl (h := zH0) rfl rfl rfl rfl rfl rfl rfl rfl rfl rfl rfl rfl rfl rfl rfl rfl rfl rfl rfl (by decide) hk
  have g : ∀ q e, q ∉ [0, 36, 38, 40, 62, 60, 64, 44, 46, 48, 50, 52, 54, 56, 58] → zat zH0 q = some e → zat h1 q = some e := f.2
  obtain ⟨r, y1, h2, rfl⟩ := m_o18kl (h := h1) (fs := mfs0) (g _ _ (by decide) rfl) mC00 (g _ _ (by decide) rfl) (g _ _ (by decide) rfl) (g _ _ (by decide) rfl) (g _ _ (by decide) rfl) (g _ _ (by decide) rfl) (g _ _ (by decide) rfl) (g _ _ (by decide) rfl) (g _ _ (by decide) rfl) (g _ _ (by decide) rfl) (g _ _ (by decide) rfl) (g _ _ (by decide) rfl) rfl rfl hk
  exact ⟨_, h1, h2, d, s, z1, g _ _ (by decide) rfl, y1, hd, hs⟩
theorem r_o13kh0 {kk : Int32} (hk : 264 ≤ kk.toInt) : ∃ (v : Int32) (h1 h2 : zH) (d s : Nat), zT zg0 zF zP 114 0 [(0, .ref 0), (1, .int kk), (2, .int 0)] [] zH0 0 0 (some (.int v), h1, d, s) ∧ zat h1 162 = some (.inr (.inr (.inr (10, mfs0)))) ∧ zT zg0 zF zP 231 0 [(0, .ref 162), (1, .int kk), (2, .int 0)] [] h1 0 0 (some (.int v), h2, 0, 0) ∧ d ≤ 1200 ∧ s ≤ 720000 := by
  obtain ⟨r, z1, h1, d, s, rfl, f, hd, hs⟩ := c_o13kh0 (h := zH0) rfl rfl rfl rfl rfl rfl rfl rfl rfl rfl rfl rfl rfl rfl rfl rfl (by decide) hk
  have g : ∀ q e, q ∉ [0, 36, 38, 40, 62, 60, 64, 44, 46, 48, 50, 52, 54, 56, 58] → zat zH0 q = some e → zat h1 q = some e := f.2
  obtain ⟨r, y1, h2, rfl⟩ := m_o13kh0 (h := h1) (fs := mfs0) (g _ _ (by decide) rfl) mC00 (g _ _ (by decide) rfl) (g _ _ (by decide) rfl) (g _ _ (by decide) rfl) (g _ _ (by decide) rfl) (g _ _ (by decide) rfl) (g _ _ (by decide) rfl) (g _ _ (by decide) rfl) (g _ _ (by decide) rfl) rfl rfl hk
  exact ⟨_, h1, h2, d, s, z1, g _ _ (by decide) rfl, y1, hd, hs⟩
theorem r_o13kh1 {kk : Int32} (hk : 264 ≤ kk.toInt) : ∃ (v : Int32) (h1 h2 : zH) (d s : Nat), zT zg0 zF zP 114 0 [(0, .ref 0), (1, .int kk), (2, .int 1)] [] zH0 0 0 (some (.int v), h1, d, s) ∧ zat h1 162 = some (.inr (.inr (.inr (10, mfs0)))) ∧ zT zg0 zF zP 231 0 [(0, .ref 162), (1, .int kk), (2, .int 1)] [] h1 0 0 (some (.int v), h2, 0, 0) ∧ d ≤ 1200 ∧ s ≤ 720000 := by
  obtain ⟨r, z1, h1, d, s, rfl, f, hd, hs⟩ := c_o13kh1 (h := zH0) rfl rfl rfl rfl rfl rfl rfl rfl rfl rfl rfl rfl rfl rfl rfl rfl (by decide) hk
  have g : ∀ q e, q ∉ [0, 36, 38, 40, 62, 60, 64, 44, 46, 48, 50, 52, 54, 56, 58] → zat zH0 q = some e → zat h1 q = some e := f.2
  obtain ⟨r, y1, h2, rfl⟩ := m_o13kh1 (h := h1) (fs := mfs0) (g _ _ (by decide) rfl) mC00 (g _ _ (by decide) rfl) (g _ _ (by decide) rfl) (g _ _ (by decide) rfl) (g _ _ (by decide) rfl) (g _ _ (by decide) rfl) (g _ _ (by decide) rfl) (g _ _ (by decide) rfl) (g _ _ (by decide) rfl) rfl rfl hk
  exact ⟨_, h1, h2, d, s, z1, g _ _ (by decide) rfl, y1, hd, hs⟩
theorem r_o13kh2 {kk : Int32} (hk : 264 ≤ kk.toInt) : ∃ (v : Int32) (h1 h2 : zH) (d s : Nat), zT zg0 zF zP 114 0 [(0, .ref 0), (1, .int kk), (2, .int 2)] [] zH0 0 0 (some (.int v), h1, d, s) ∧ zat h1 162 = some (.inr (.inr (.inr (10, mfs0)))) ∧ zT zg0 zF zP 231 0 [(0, .ref 162), (1, .int kk), (2, .int 2)] [] h1 0 0 (some (.int v), h2, 0, 0) ∧ d ≤ 1200 ∧ s ≤ 720000 := by
  obtain ⟨r, z1, h1, d, s, rfl, f, hd, hs⟩ := c_o13kh2 (h := zH0) rfl rfl rfl rfl rfl rfl rfl rfl rfl rfl rfl rfl rfl rfl rfl rfl (by decide) hk
  have g : ∀ q e, q ∉ [0, 36, 38, 40, 62, 60, 64, 44, 46, 48, 50, 52, 54, 56, 58] → zat zH0 q = some e → zat h1 q = some e := f.2
  obtain ⟨r, y1, h2, rfl⟩ := m_o13kh2 (h := h1) (fs := mfs0) (g _ _ (by decide) rfl) mC00 (g _ _ (by decide) rfl) (g _ _ (by decide) rfl) (g _ _ (by decide) rfl) (g _ _ (by decide) rfl) (g _ _ (by decide) rfl) (g _ _ (by decide) rfl) (g _ _ (by decide) rfl) (g _ _ (by decide) rfl) rfl rfl hk
  exact ⟨_, h1, h2, d, s, z1, g _ _ (by decide) rfl, y1, hd, hs⟩
theorem r_o13kh3 {kk : Int32} (hk : 264 ≤ kk.toInt) : ∃ (v : Int32) (h1 h2 : zH) (d s : Nat), zT zg0 zF zP 114 0 [(0, .ref 0), (1, .int kk), (2, .int 3)] [] zH0 0 0 (some (.int v), h1, d, s) ∧ zat h1 162 = some (.inr (.inr (.inr (10, mfs0)))) ∧ zT zg0 zF zP 231 0 [(0, .ref 162), (1, .int kk), (2, .int 3)] [] h1 0 0 (some (.int v), h2, 0, 0) ∧ d ≤ 1200 ∧ s ≤ 720000 := by
  obtain ⟨r, z1, h1, d, s, rfl, f, hd, hs⟩ := c_o13kh3 (h := zH0) rfl rfl rfl rfl rfl rfl rfl rfl rfl rfl rfl rfl rfl rfl rfl rfl (by decide) hk
  have g : ∀ q e, q ∉ [0, 36, 38, 40, 62, 60, 64, 44, 46, 48, 50, 52, 54, 56, 58] → zat zH0 q = some e → zat h1 q = some e := f.2
  obtain ⟨r, y1, h2, rfl⟩ := m_o13kh3 (h := h1) (fs := mfs0) (g _ _ (by decide) rfl) mC00 (g _ _ (by decide) rfl) (g _ _ (by decide) rfl) (g _ _ (by decide) rfl) (g _ _ (by decide) rfl) (g _ _ (by decide) rfl) (g _ _ (by decide) rfl) (g _ _ (by decide) rfl) (g _ _ (by decide) rfl) rfl rfl hk
  exact ⟨_, h1, h2, d, s, z1, g _ _ (by decide) rfl, y1, hd, hs⟩
theorem r_o13kh4 {kk : Int32} (hk : 264 ≤ kk.toInt) : ∃ (v : Int32) (h1 h2 : zH) (d s : Nat), zT zg0 zF zP 114 0 [(0, .ref 0), (1, .int kk), (2, .int 4)] [] zH0 0 0 (some (.int v), h1, d, s) ∧ zat h1 162 = some (.inr (.inr (.inr (10, mfs0)))) ∧ zT zg0 zF zP 231 0 [(0, .ref 162), (1, .int kk), (2, .int 4)] [] h1 0 0 (some (.int v), h2, 0, 0) ∧ d ≤ 1200 ∧ s ≤ 720000 := by
  obtain ⟨r, z1, h1, d, s, rfl, f, hd, hs⟩ := c_o13kh4 (h := zH0) rfl rfl rfl rfl rfl rfl rfl rfl rfl rfl rfl rfl rfl rfl rfl rfl (by decide) hk
  have g : ∀ q e, q ∉ [0, 36, 38, 40, 62, 60, 64, 44, 46, 48, 50, 52, 54, 56, 58] → zat zH0 q = some e → zat h1 q = some e := f.2
  obtain ⟨r, y1, h2, rfl⟩ := m_o13kh4 (h := h1) (fs := mfs0) (g _ _ (by decide) rfl) mC00 (g _ _ (by decide) rfl) (g _ _ (by decide) rfl) (g _ _ (by decide) rfl) (g _ _ (by decide) rfl) (g _ _ (by decide) rfl) (g _ _ (by decide) rfl) (g _ _ (by decide) rfl) (g _ _ (by decide) rfl) rfl rfl hk
  exact ⟨_, h1, h2, d, s, z1, g _ _ (by decide) rfl, y1, hd, hs⟩
theorem r_o13kh5 {kk : Int32} (hk : 264 ≤ kk.toInt) : ∃ (v : Int32) (h1 h2 : zH) (d s : Nat), zT zg0 zF zP 114 0 [(0, .ref 0), (1, .int kk), (2, .int 5)] [] zH0 0 0 (some (.int v), h1, d, s) ∧ zat h1 162 = some (.inr (.inr (.inr (10, mfs0)))) ∧ zT zg0 zF zP 231 0 [(0, .ref 162), (1, .int kk), (2, .int 5)] [] h1 0 0 (some (.int v), h2, 0, 0) ∧ d ≤ 1200 ∧ s ≤ 720000 := by
  obtain ⟨r, z1, h1, d, s, rfl, f, hd, hs⟩ := c_o13kh5 (h := zH0) rfl rfl rfl rfl rfl rfl rfl rfl rfl rfl rfl rfl rfl rfl rfl rfl (by decide) hk
  have g : ∀ q e, q ∉ [0, 36, 38, 40, 62, 60, 64, 44, 46, 48, 50, 52, 54, 56, 58] → zat zH0 q = some e → zat h1 q = some e := f.2
  obtain ⟨r, y1, h2, rfl⟩ := m_o13kh5 (h := h1) (fs := mfs0) (g _ _ (by decide) rfl) mC00 (g _ _ (by decide) rfl) (g _ _ (by decide) rfl) (g _ _ (by decide) rfl) (g _ _ (by decide) rfl) (g _ _ (by decide) rfl) (g _ _ (by decide) rfl) (g _ _ (by decide) rfl) (g _ _ (by decide) rfl) rfl rfl hk
  exact ⟨_, h1, h2, d, s, z1, g _ _ (by decide) rfl, y1, hd, hs⟩
theorem r_o18kh {kk : Int32} (hk : 264 ≤ kk.toInt) : ∃ (v : Int32) (h1 h2 : zH) (d s : Nat), zT zg0 zF zP 119 0 [(0, .ref 0), (1, .int kk)] [] zH0 0 0 (some (.int v), h1, d, s) ∧ zat h1 162 = some (.inr (.inr (.inr (10, mfs0)))) ∧ zT zg0 zF zP 239 0 [(0, .ref 162), (1, .int kk)] [] h1 0 0 (some (.int v), h2, 0, 0) ∧ d ≤ 1200 ∧ s ≤ 720000 := by
  obtain ⟨r, z1, h1, d, s, rfl, f, hd, hs⟩ := c_o18kh (h := zH0) rfl rfl rfl rfl rfl rfl rfl rfl rfl rfl rfl rfl rfl rfl rfl rfl rfl rfl rfl (by decide) hk
  have g : ∀ q e, q ∉ [0, 36, 38, 40, 62, 60, 64, 44, 46, 48, 50, 52, 54, 56, 58] → zat zH0 q = some e → zat h1 q = some e := f.2
  obtain ⟨r, y1, h2, rfl⟩ := m_o18kh (h := h1) (fs := mfs0) (g _ _ (by decide) rfl) mC00 (g _ _ (by decide) rfl) (g _ _ (by decide) rfl) (g _ _ (by decide) rfl) (g _ _ (by decide) rfl) (g _ _ (by decide) rfl) (g _ _ (by decide) rfl) (g _ _ (by decide) rfl) (g _ _ (by decide) rfl) (g _ _ (by decide) rfl) (g _ _ (by decide) rfl) (g _ _ (by decide) rfl) rfl rfl hk
  exact ⟨_, h1, h2, d, s, z1, g _ _ (by decide) rfl, y1, hd, hs⟩
theorem r_o13g0 {K : Nat} (hK : K < 264) : ∃ (v : Int32) (h1 h2 : zH) (d s : Nat), zT zg0 zF zP 114 0 [(0, .ref 0), (1, .int (nI K)), (2, .int 0)] [] zH0 0 0 (some (.int v), h1, d, s) ∧ zat h1 162 = some (.inr (.inr (.inr (10, mfs0)))) ∧ zT zg0 zF zP 231 0 [(0, .ref 162), (1, .int (nI K)), (2, .int 0)] [] h1 0 0 (some (.int v), h2, 0, 0) ∧ d ≤ 1200 ∧ s ≤ 720000 := by
  obtain ⟨r, z1, h1, d, s, rfl, f, hd, hs⟩ := c_o13g0 (h := zH0) rfl rfl rfl rfl rfl rfl rfl rfl rfl rfl rfl rfl rfl rfl rfl rfl (by decide) hK
  have g : ∀ q e, q ∉ [0, 36, 38, 40, 62, 60, 64, 44, 46, 48, 50, 52, 54, 56, 58] → zat zH0 q = some e → zat h1 q = some e := f.2
  obtain ⟨r, y1, h2, rfl⟩ := m_o13g0 (h := h1) (fs := mfs0) (g _ _ (by decide) rfl) mC00 (g _ _ (by decide) rfl) (g _ _ (by decide) rfl) (g _ _ (by decide) rfl) (g _ _ (by decide) rfl) (g _ _ (by decide) rfl) (g _ _ (by decide) rfl) (g _ _ (by decide) rfl) (g _ _ (by decide) rfl) rfl rfl hK
  exact ⟨_, h1, h2, d, s, z1, g _ _ (by decide) rfl, y1, hd, hs⟩
theorem r_o13g1 {K : Nat} (hK : K < 264) : ∃ (v : Int32) (h1 h2 : zH) (d s : Nat), zT zg0 zF zP 114 0 [(0, .ref 0), (1, .int (nI K)), (2, .int 1)] [] zH0 0 0 (some (.int v), h1, d, s) ∧ zat h1 162 = some (.inr (.inr (.inr (10, mfs0)))) ∧ zT zg0 zF zP 231 0 [(0, .ref 162), (1, .int (nI K)), (2, .int 1)] [] h1 0 0 (some (.int v), h2, 0, 0) ∧ d ≤ 1200 ∧ s ≤ 720000 := by
  obtain ⟨r, z1, h1, d, s, rfl, f, hd, hs⟩ := c_o13g1 (h := zH0) rfl rfl rfl rfl rfl rfl rfl rfl rfl rfl rfl rfl rfl rfl rfl rfl (by decide) hK
  have g : ∀ q e, q ∉ [0, 36, 38, 40, 62, 60, 64, 44, 46, 48, 50, 52, 54, 56, 58] → zat zH0 q = some e → zat h1 q = some e := f.2
  obtain ⟨r, y1, h2, rfl⟩ := m_o13g1 (h := h1) (fs := mfs0) (g _ _ (by decide) rfl) mC00 (g _ _ (by decide) rfl) (g _ _ (by decide) rfl) (g _ _ (by decide) rfl) (g _ _ (by decide) rfl) (g _ _ (by decide) rfl) (g _ _ (by decide) rfl) (g _ _ (by decide) rfl) (g _ _ (by decide) rfl) rfl rfl hK
  exact ⟨_, h1, h2, d, s, z1, g _ _ (by decide) rfl, y1, hd, hs⟩
theorem r_o13g2 {K : Nat} (hK : K < 264) : ∃ (v : Int32) (h1 h2 : zH) (d s : Nat), zT zg0 zF zP 114 0 [(0, .ref 0), (1, .int (nI K)), (2, .int 2)] [] zH0 0 0 (some (.int v), h1, d, s) ∧ zat h1 162 = some (.inr (.inr (.inr (10, mfs0)))) ∧ zT zg0 zF zP 231 0 [(0, .ref 162), (1, .int (nI K)), (2, .int 2)] [] h1 0 0 (some (.int v), h2, 0, 0) ∧ d ≤ 1200 ∧ s ≤ 720000 := by
  obtain ⟨r, z1, h1, d, s, rfl, f, hd, hs⟩ := c_o13g2 (h := zH0) rfl rfl rfl rfl rfl rfl rfl rfl rfl rfl rfl rfl rfl rfl rfl rfl (by decide) hK
  have g : ∀ q e, q ∉ [0, 36, 38, 40, 62, 60, 64, 44, 46, 48, 50, 52, 54, 56, 58] → zat zH0 q = some e → zat h1 q = some e := f.2
  obtain ⟨r, y1, h2, rfl⟩ := m_o13g2 (h := h1) (fs := mfs0) (g _ _ (by decide) rfl) mC00 (g _ _ (by decide) rfl) (g _ _ (by decide) rfl) (g _ _ (by decide) rfl) (g _ _ (by decide) rfl) (g _ _ (by decide) rfl) (g _ _ (by decide) rfl) (g _ _ (by decide) rfl) (g _ _ (by decide) rfl) rfl rfl hK
  exact ⟨_, h1, h2, d, s, z1, g _ _ (by decide) rfl, y1, hd, hs⟩
theorem r_o13g3 {K : Nat} (hK : K < 264) : ∃ (v : Int32) (h1 h2 : zH) (d s : Nat), zT zg0 zF zP 114 0 [(0, .ref 0), (1, .int (nI K)), (2, .int 3)] [] zH0 0 0 (some (.int v), h1, d, s) ∧ zat h1 162 = some (.inr (.inr (.inr (10, mfs0)))) ∧ zT zg0 zF zP 231 0 [(0, .ref 162), (1, .int (nI K)), (2, .int 3)] [] h1 0 0 (some (.int v), h2, 0, 0) ∧ d ≤ 1200 ∧ s ≤ 720000 := by
  obtain ⟨r, z1, h1, d, s, rfl, f, hd, hs⟩ := c_o13g3 (h := zH0) rfl rfl rfl rfl rfl rfl rfl rfl rfl rfl rfl rfl rfl rfl rfl rfl (by decide) hK
  have g : ∀ q e, q ∉ [0, 36, 38, 40, 62, 60, 64, 44, 46, 48, 50, 52, 54, 56, 58] → zat zH0 q = some e → zat h1 q = some e := f.2
  obtain ⟨r, y1, h2, rfl⟩ := m_o13g3 (h := h1) (fs := mfs0) (g _ _ (by decide) rfl) mC00 (g _ _ (by decide) rfl) (g _ _ (by decide) rfl) (g _ _ (by decide) rfl) (g _ _ (by decide) rfl) (g _ _ (by decide) rfl) (g _ _ (by decide) rfl) (g _ _ (by decide) rfl) (g _ _ (by decide) rfl) rfl rfl hK
  exact ⟨_, h1, h2, d, s, z1, g _ _ (by decide) rfl, y1, hd, hs⟩
theorem r_o13g4 {K : Nat} (hK : K < 264) : ∃ (v : Int32) (h1 h2 : zH) (d s : Nat), zT zg0 zF zP 114 0 [(0, .ref 0), (1, .int (nI K)), (2, .int 4)] [] zH0 0 0 (some (.int v), h1, d, s) ∧ zat h1 162 = some (.inr (.inr (.inr (10, mfs0)))) ∧ zT zg0 zF zP 231 0 [(0, .ref 162), (1, .int (nI K)), (2, .int 4)] [] h1 0 0 (some (.int v), h2, 0, 0) ∧ d ≤ 1200 ∧ s ≤ 720000 := by
  obtain ⟨r, z1, h1, d, s, rfl, f, hd, hs⟩ := c_o13g4 (h := zH0) rfl rfl rfl rfl rfl rfl rfl rfl rfl rfl rfl rfl rfl rfl rfl rfl (by decide) hK
  have g : ∀ q e, q ∉ [0, 36, 38, 40, 62, 60, 64, 44, 46, 48, 50, 52, 54, 56, 58] → zat zH0 q = some e → zat h1 q = some e := f.2
  obtain ⟨r, y1, h2, rfl⟩ := m_o13g4 (h := h1) (fs := mfs0) (g _ _ (by decide) rfl) mC00 (g _ _ (by decide) rfl) (g _ _ (by decide) rfl) (g _ _ (by decide) rfl) (g _ _ (by decide) rfl) (g _ _ (by decide) rfl) (g _ _ (by decide) rfl) (g _ _ (by decide) rfl) (g _ _ (by decide) rfl) rfl rfl hK
  exact ⟨_, h1, h2, d, s, z1, g _ _ (by decide) rfl, y1, hd, hs⟩
theorem r_o13g5 {K : Nat} (hK : K < 264) : ∃ (v : Int32) (h1 h2 : zH) (d s : Nat), zT zg0 zF zP 114 0 [(0, .ref 0), (1, .int (nI K)), (2, .int 5)] [] zH0 0 0 (some (.int v), h1, d, s) ∧ zat h1 162 = some (.inr (.inr (.inr (10, mfs0)))) ∧ zT zg0 zF zP 231 0 [(0, .ref 162), (1, .int (nI K)), (2, .int 5)] [] h1 0 0 (some (.int v), h2, 0, 0) ∧ d ≤ 1200 ∧ s ≤ 720000 := by
  obtain ⟨r, z1, h1, d, s, rfl, f, hd, hs⟩ := c_o13g5 (h := zH0) rfl rfl rfl rfl rfl rfl rfl rfl rfl rfl rfl rfl rfl rfl rfl rfl (by decide) hK
  have g : ∀ q e, q ∉ [0, 36, 38, 40, 62, 60, 64, 44, 46, 48, 50, 52, 54, 56, 58] → zat zH0 q = some e → zat h1 q = some e := f.2
  obtain ⟨r, y1, h2, rfl⟩ := m_o13g5 (h := h1) (fs := mfs0) (g _ _ (by decide) rfl) mC00 (g _ _ (by decide) rfl) (g _ _ (by decide) rfl) (g _ _ (by decide) rfl) (g _ _ (by decide) rfl) (g _ _ (by decide) rfl) (g _ _ (by decide) rfl) (g _ _ (by decide) rfl) (g _ _ (by decide) rfl) rfl rfl hK
  exact ⟨_, h1, h2, d, s, z1, g _ _ (by decide) rfl, y1, hd, hs⟩
theorem r_o18g {K : Nat} (hK : K < 264) : ∃ (v : Int32) (h1 h2 : zH) (d s : Nat), zT zg0 zF zP 119 0 [(0, .ref 0), (1, .int (nI K))] [] zH0 0 0 (some (.int v), h1, d, s) ∧ zat h1 162 = some (.inr (.inr (.inr (10, mfs0)))) ∧ zT zg0 zF zP 239 0 [(0, .ref 162), (1, .int (nI K))] [] h1 0 0 (some (.int v), h2, 0, 0) ∧ d ≤ 1200 ∧ s ≤ 720000 := by
  obtain ⟨r, z1, h1, d, s, rfl, f, hd, hs⟩ := c_o18g (h := zH0) rfl rfl rfl rfl rfl rfl rfl rfl rfl rfl rfl rfl rfl rfl rfl rfl rfl rfl rfl (by decide) hK
  have g : ∀ q e, q ∉ [0, 36, 38, 40, 62, 60, 64, 44, 46, 48, 50, 52, 54, 56, 58] → zat zH0 q = some e → zat h1 q = some e := f.2
  obtain ⟨r, y1, h2, rfl⟩ := m_o18g (h := h1) (fs := mfs0) (g _ _ (by decide) rfl) mC00 (g _ _ (by decide) rfl) (g _ _ (by decide) rfl) (g _ _ (by decide) rfl) (g _ _ (by decide) rfl) (g _ _ (by decide) rfl) (g _ _ (by decide) rfl) (g _ _ (by decide) rfl) (g _ _ (by decide) rfl) (g _ _ (by decide) rfl) (g _ _ (by decide) rfl) (g _ _ (by decide) rfl) rfl rfl hK
  exact ⟨_, h1, h2, d, s, z1, g _ _ (by decide) rfl, y1, hd, hs⟩
theorem zop_12 (xs : Nat → Int32) (h0 : xs 0 &&& 63 = 12) : zDone xs := by
  have key := r_o12
  obtain ⟨v, h1, h2, d, s, z1, z2, z3, z4, z5⟩ := key
  exact lw_12 xs h0 z1 z2 z3 (by omega) (by omega)
theorem zop_15 (xs : Nat → Int32) (h0 : xs 0 &&& 63 = 15) : zDone xs := by
  have key := r_o15
  obtain ⟨v, h1, h2, d, s, z1, z2, z3, z4, z5⟩ := key
  exact lw_15 xs h0 z1 z2 z3 (by omega) (by omega)
theorem nI_k {x : Int32} (h : 0 ≤ x.toInt ∧ x.toInt < 264) : ∃ K : Nat, K < 264 ∧ x = nI K := ⟨x.toInt.toNat, by omega, Int32.toInt_inj.mp (by rw [nI_toInt (by omega)]; omega)⟩
theorem zop_13 (xs : Nat → Int32) (h0 : xs 0 &&& 63 = 13) : zDone xs := by
  have key : ∃ (v : Int32) (h1 h2 : zH) (d s : Nat), zT zg0 zF zP 114 0 [(0, .ref 0), (1, .int (xs 1)), (2, .int (xs 2))] [] zH0 0 0 (some (.int v), h1, d, s) ∧ zat h1 162 = some (.inr (.inr (.inr (10, mfs0)))) ∧ zT zg0 zF zP 231 0 [(0, .ref 162), (1, .int (xs 1)), (2, .int (xs 2))] [] h1 0 0 (some (.int v), h2, 0, 0) ∧ d ≤ 1200 ∧ s ≤ 720000 := by
    by_cases hL : (xs 2).toInt < 0
    · exact r_o13jl hL
    · by_cases hH : 6 ≤ (xs 2).toInt
      · exact r_o13jh hH
      · by_cases kL : (xs 1).toInt < 0
        · rcases j6 (x := xs 2) (by omega) with k | k | k | k | k | k <;> rw [k]
          · exact r_o13kl0 kL
          · exact r_o13kl1 kL
          · exact r_o13kl2 kL
          · exact r_o13kl3 kL
          · exact r_o13kl4 kL
          · exact r_o13kl5 kL
        · by_cases kH : 264 ≤ (xs 1).toInt
          · rcases j6 (x := xs 2) (by omega) with k | k | k | k | k | k <;> rw [k]
            · exact r_o13kh0 kH
            · exact r_o13kh1 kH
            · exact r_o13kh2 kH
            · exact r_o13kh3 kH
            · exact r_o13kh4 kH
            · exact r_o13kh5 kH
          · obtain ⟨K, hK, e⟩ := nI_k (x := xs 1) (by omega)
            rw [e]
            rcases j6 (x := xs 2) (by omega) with k | k | k | k | k | k <;> rw [k]
            · exact r_o13g0 hK
            · exact r_o13g1 hK
            · exact r_o13g2 hK
            · exact r_o13g3 hK
            · exact r_o13g4 hK
            · exact r_o13g5 hK
  obtain ⟨v, h1, h2, d, s, z1, z2, z3, z4, z5⟩ := key
  exact lw_13 xs h0 z1 z2 z3 (by omega) (by omega)
theorem zop_18 (xs : Nat → Int32) (h0 : xs 0 &&& 63 = 18) : zDone xs := by
  have key : ∃ (v : Int32) (h1 h2 : zH) (d s : Nat), zT zg0 zF zP 119 0 [(0, .ref 0), (1, .int (xs 1))] [] zH0 0 0 (some (.int v), h1, d, s) ∧ zat h1 162 = some (.inr (.inr (.inr (10, mfs0)))) ∧ zT zg0 zF zP 239 0 [(0, .ref 162), (1, .int (xs 1))] [] h1 0 0 (some (.int v), h2, 0, 0) ∧ d ≤ 1200 ∧ s ≤ 720000 := by
    by_cases kL : (xs 1).toInt < 0
    · exact r_o18kl kL
    · by_cases kH : 264 ≤ (xs 1).toInt
      · exact r_o18kh kH
      · obtain ⟨K, hK, e⟩ := nI_k (x := xs 1) (by omega)
        rw [e]
        exact r_o18g hK
  obtain ⟨v, h1, h2, d, s, z1, z2, z3, z4, z5⟩ := key
  exact lw_18 xs h0 z1 z2 z3 (by omega) (by omega)
