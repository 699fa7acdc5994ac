/-! ops 14, 16, 17 closed. -/
theorem r_o17  : ∃ (v : Int32) (h1 h2 : zH) (d s : Nat), zT zg0 zF zP 118 0 [(0, .ref 0)] [] zH0 0 0 (some (.int v), h1, d, s) ∧ zat h1 162 = some (.inr (.inr (.inr (10, mfs0)))) ∧ zT zg0 zF zP 238 0 [(0, .ref 162)] [] h1 0 0 (some (.int v), h2, 0, 0) ∧ d ≤ 1200 ∧ s ≤ 720000 := by
  obtain ⟨r, z1, h1, d, s, rfl, f, hd, hs⟩ := c_o17 (h := zH0) rfl rfl rfl rfl rfl rfl rfl rfl rfl rfl rfl rfl rfl rfl rfl rfl rfl (by decide) 
  have g : ∀ q e, q ∉ [0, 36, 38, 40, 62, 60, 64, 44, 46, 48, 50, 52, 54, 56, 58] → zat zH0 q = some e → zat h1 q = some e := f.2
  obtain ⟨r, y1, h2, rfl⟩ := m_o17 (h := h1) (fs := mfs0) (g _ _ (by decide) rfl) mC00 (g _ _ (by decide) rfl) (g _ _ (by decide) rfl) (g _ _ (by decide) rfl) (g _ _ (by decide) rfl) (g _ _ (by decide) rfl) (g _ _ (by decide) rfl) (g _ _ (by decide) rfl) (g _ _ (by decide) rfl) (g _ _ (by decide) rfl) (g _ _ (by decide) rfl) (g _ _ (by decide) rfl) rfl rfl 
  exact ⟨_, h1, h2, d, s, z1, g _ _ (by decide) rfl, y1, hd, hs⟩
theorem r_o16f  : ∃ (v : Int32) (h1 h2 : zH) (d s : Nat), zT zg0 zF zP 117 0 [(0, .ref 0), (1, .int 0)] [] zH0 0 0 (some (.int v), h1, d, s) ∧ zat h1 162 = some (.inr (.inr (.inr (10, mfs0)))) ∧ zT zg0 zF zP 237 0 [(0, .ref 162), (1, .int 0)] [] h1 0 0 (some (.int v), h2, 0, 0) ∧ d ≤ 1200 ∧ s ≤ 720000 := by
  obtain ⟨r, z1, h1, d, s, rfl, f, hd, hs⟩ := c_o16f (h := zH0) rfl rfl rfl rfl rfl rfl rfl rfl rfl rfl rfl rfl rfl rfl rfl rfl rfl (by decide) 
  have g : ∀ q e, q ∉ [0, 36, 38, 40, 62, 60, 64, 44, 46, 48, 50, 52, 54, 56, 58] → zat zH0 q = some e → zat h1 q = some e := f.2
  obtain ⟨r, y1, h2, rfl⟩ := m_o16f (h := h1) (fs := mfs0) (g _ _ (by decide) rfl) mC00 (g _ _ (by decide) rfl) (g _ _ (by decide) rfl) (g _ _ (by decide) rfl) (g _ _ (by decide) rfl) (g _ _ (by decide) rfl) (g _ _ (by decide) rfl) (g _ _ (by decide) rfl) (g _ _ (by decide) rfl) (g _ _ (by decide) rfl) (g _ _ (by decide) rfl) (g _ _ (by decide) rfl) rfl rfl 
  exact ⟨_, h1, h2, d, s, z1, g _ _ (by decide) rfl, y1, hd, hs⟩
theorem r_o16t  : ∃ (v : Int32) (h1 h2 : zH) (d s : Nat), zT zg0 zF zP 117 0 [(0, .ref 0), (1, .int 1)] [] zH0 0 0 (some (.int v), h1, d, s) ∧ zat h1 162 = some (.inr (.inr (.inr (10, mfs0)))) ∧ zT zg0 zF zP 237 0 [(0, .ref 162), (1, .int 1)] [] h1 0 0 (some (.int v), h2, 0, 0) ∧ d ≤ 1200 ∧ s ≤ 720000 := by
  obtain ⟨r, z1, h1, d, s, rfl, f, hd, hs⟩ := c_o16t (h := zH0) rfl rfl rfl rfl rfl rfl rfl rfl rfl rfl rfl rfl rfl rfl rfl rfl rfl (by decide) 
  have g : ∀ q e, q ∉ [0, 36, 38, 40, 62, 60, 64, 44, 46, 48, 50, 52, 54, 56, 58] → zat zH0 q = some e → zat h1 q = some e := f.2
  obtain ⟨r, y1, h2, rfl⟩ := m_o16t (h := h1) (fs := mfs0) (g _ _ (by decide) rfl) mC00 (g _ _ (by decide) rfl) (g _ _ (by decide) rfl) (g _ _ (by decide) rfl) (g _ _ (by decide) rfl) (g _ _ (by decide) rfl) (g _ _ (by decide) rfl) (g _ _ (by decide) rfl) (g _ _ (by decide) rfl) (g _ _ (by decide) rfl) (g _ _ (by decide) rfl) (g _ _ (by decide) rfl) rfl rfl 
  exact ⟨_, h1, h2, d, s, z1, g _ _ (by decide) rfl, y1, hd, hs⟩
theorem r_o14kl0 {kk : Int32} (hk : kk.toInt < 0) : ∃ (v : Int32) (h1 h2 : zH) (d s : Nat), zT zg0 zF zP 115 0 [(0, .ref 0), (1, .int kk), (2, .int 0)] [] zH0 0 0 (some (.int v), h1, d, s) ∧ zat h1 162 = some (.inr (.inr (.inr (10, mfs0)))) ∧ zT zg0 zF zP 236 0 [(0, .ref 162), (1, .int kk), (2, .int 0)] [] h1 0 0 (some (.int v), h2, 0, 0) ∧ d ≤ 1200 ∧ s ≤ 720000 := by
  obtain ⟨r, z1, h1, d, s, rfl, f, hd, hs⟩ := c_o14kl (h := zH0) rfl rfl rfl rfl rfl rfl rfl rfl rfl rfl rfl rfl rfl rfl rfl rfl rfl (by decide) hk
  have g : ∀ q e, q ∉ [0, 36, 38, 40, 62, 60, 64, 44, 46, 48, 50, 52, 54, 56, 58] → zat zH0 q = some e → zat h1 q = some e := f.2
  obtain ⟨r, y1, h2, rfl⟩ := m_o14kl0 (h := h1) (fs := mfs0) (g _ _ (by decide) rfl) mC00 (g _ _ (by decide) rfl) (g _ _ (by decide) rfl) (g _ _ (by decide) rfl) (g _ _ (by decide) rfl) (g _ _ (by decide) rfl) (g _ _ (by decide) rfl) (g _ _ (by decide) rfl) (g _ _ (by decide) rfl) (g _ _ (by decide) rfl) (g _ _ (by decide) rfl) (g _ _ (by decide) rfl) rfl rfl hk
  exact ⟨_, h1, h2, d, s, z1, g _ _ (by decide) rfl, y1, hd, hs⟩
theorem r_o14kl1 {kk : Int32} (hk : kk.toInt < 0) : ∃ (v : Int32) (h1 h2 : zH) (d s : Nat), zT zg0 zF zP 115 0 [(0, .ref 0), (1, .int kk), (2, .int 1)] [] zH0 0 0 (some (.int v), h1, d, s) ∧ zat h1 162 = some (.inr (.inr (.inr (10, mfs0)))) ∧ zT zg0 zF zP 236 0 [(0, .ref 162), (1, .int kk), (2, .int 1)] [] h1 0 0 (some (.int v), h2, 0, 0) ∧ d ≤ 1200 ∧ s ≤ 720000 := by
  obtain ⟨r, z1, h1, d, s, rfl, f, hd, hs⟩ := c_o14kl (h := zH0) rfl rfl rfl rfl rfl rfl rfl rfl rfl rfl rfl rfl rfl rfl rfl rfl rfl (by decide) hk
  have g : ∀ q e, q ∉ [0, 36, 38, 40, 62, 60, 64, 44, 46, 48, 50, 52, 54, 56, 58] → zat zH0 q = some e → zat h1 q = some e := f.2
  obtain ⟨r, y1, h2, rfl⟩ := m_o14kl1 (h := h1) (fs := mfs0) (g _ _ (by decide) rfl) mC00 (g _ _ (by decide) rfl) (g _ _ (by decide) rfl) (g _ _ (by decide) rfl) (g _ _ (by decide) rfl) (g _ _ (by decide) rfl) (g _ _ (by decide) rfl) (g _ _ (by decide) rfl) (g _ _ (by decide) rfl) (g _ _ (by decide) rfl) (g _ _ (by decide) rfl) (g _ _ (by decide) rfl) rfl rfl hk
  exact ⟨_, h1, h2, d, s, z1, g _ _ (by decide) rfl, y1, hd, hs⟩
theorem r_o14kl2 {kk : Int32} (hk : kk.toInt < 0) : ∃ (v : Int32) (h1 h2 : zH) (d s : Nat), zT zg0 zF zP 115 0 [(0, .ref 0), (1, .int kk), (2, .int 2)] [] zH0 0 0 (some (.int v), h1, d, s) ∧ zat h1 162 = some (.inr (.inr (.inr (10, mfs0)))) ∧ zT zg0 zF zP 236 0 [(0, .ref 162), (1, .int kk), (2, .int 2)] [] h1 0 0 (some (.int v), h2, 0, 0) ∧ d ≤ 1200 ∧ s ≤ 720000 := by
  obtain ⟨r, z1, h1, d, s, rfl, f, hd, hs⟩ := c_o14kl (h := zH0) rfl rfl rfl rfl rfl rfl rfl rfl rfl rfl rfl rfl rfl rfl rfl rfl rfl (by decide) hk
  have g : ∀ q e, q ∉ [0, 36, 38, 40, 62, 60, 64, 44, 46, 48, 50, 52, 54, 56, 58] → zat zH0 q = some e → zat h1 q = some e := f.2
  obtain ⟨r, y1, h2, rfl⟩ := m_o14kl2 (h := h1) (fs := mfs0) (g _ _ (by decide) rfl) mC00 (g _ _ (by decide) rfl) (g _ _ (by decide) rfl) (g _ _ (by decide) rfl) (g _ _ (by decide) rfl) (g _ _ (by decide) rfl) (g _ _ (by decide) rfl) (g _ _ (by decide) rfl) (g _ _ (by decide) rfl) (g _ _ (by decide) rfl) (g _ _ (by decide) rfl) (g _ _ (by decide) rfl) rfl rfl hk
  exact ⟨_, h1, h2, d, s, z1, g _ _ (by decide) rfl, y1, hd, hs⟩
theorem r_o14kl3 {kk : Int32} (hk : kk.toInt < 0) : ∃ (v : Int32) (h1 h2 : zH) (d s : Nat), zT zg0 zF zP 115 0 [(0, .ref 0), (1, .int kk), (2, .int 3)] [] zH0 0 0 (some (.int v), h1, d, s) ∧ zat h1 162 = some (.inr (.inr (.inr (10, mfs0)))) ∧ zT zg0 zF zP 236 0 [(0, .ref 162), (1, .int kk), (2, .int 3)] [] h1 0 0 (some (.int v), h2, 0, 0) ∧ d ≤ 1200 ∧ s ≤ 720000 := by
  obtain ⟨r, z1, h1, d, s, rfl, f, hd, hs⟩ := c_o14kl (h := zH0) rfl rfl rfl rfl rfl rfl rfl rfl rfl rfl rfl rfl rfl rfl rfl rfl rfl (by decide) hk
  have g : ∀ q e, q ∉ [0, 36, 38, 40, 62, 60, 64, 44, 46, 48, 50, 52, 54, 56, 58] → zat zH0 q = some e → zat h1 q = some e := f.2
  obtain ⟨r, y1, h2, rfl⟩ := m_o14kl3 (h := h1) (fs := mfs0) (g _ _ (by decide) rfl) mC00 (g _ _ (by decide) rfl) (g _ _ (by decide) rfl) (g _ _ (by decide) rfl) (g _ _ (by decide) rfl) (g _ _ (by decide) rfl) (g _ _ (by decide) rfl) (g _ _ (by decide) rfl) (g _ _ (by decide) rfl) (g _ _ (by decide) rfl) (g _ _ (by decide) rfl) (g _ _ (by decide) rfl) rfl rfl hk
  exact ⟨_, h1, h2, d, s, z1, g _ _ (by decide) rfl, y1, hd, hs⟩
theorem r_o14kl4 {kk : Int32} (hk : kk.toInt < 0) : ∃ (v : Int32) (h1 h2 : zH) (d s : Nat), zT zg0 zF zP 115 0 [(0, .ref 0), (1, .int kk), (2, .int 4)] [] zH0 0 0 (some (.int v), h1, d, s) ∧ zat h1 162 = some (.inr (.inr (.inr (10, mfs0)))) ∧ zT zg0 zF zP 236 0 [(0, .ref 162), (1, .int kk), (2, .int 4)] [] h1 0 0 (some (.int v), h2, 0, 0) ∧ d ≤ 1200 ∧ s ≤ 720000 := by
  obtain ⟨r, z1, h1, d, s, rfl, f, hd, hs⟩ := c_o14kl (h := zH0) rfl rfl rfl rfl rfl rfl rfl rfl rfl rfl rfl rfl rfl rfl rfl rfl rfl (by decide) hk
  have g : ∀ q e, q ∉ [0, 36, 38, 40, 62, 60, 64, 44, 46, 48, 50, 52, 54, 56, 58] → zat zH0 q = some e → zat h1 q = some e := f.2
  obtain ⟨r, y1, h2, rfl⟩ := m_o14kl4 (h := h1) (fs := mfs0) (g _ _ (by decide) rfl) mC00 (g _ _ (by decide) rfl) (g _ _ (by decide) rfl) (g _ _ (by decide) rfl) (g _ _ (by decide) rfl) (g _ _ (by decide) rfl) (g _ _ (by decide) rfl) (g _ _ (by decide) rfl) (g _ _ (by decide) rfl) (g _ _ (by decide) rfl) (g _ _ (by decide) rfl) (g _ _ (by decide) rfl) rfl rfl hk
  exact ⟨_, h1, h2, d, s, z1, g _ _ (by decide) rfl, y1, hd, hs⟩
theorem r_o14klwl {kk ww : Int32} (hk : kk.toInt < 0) (hw : ww.toInt < 0) : ∃ (v : Int32) (h1 h2 : zH) (d s : Nat), zT zg0 zF zP 115 0 [(0, .ref 0), (1, .int kk), (2, .int ww)] [] zH0 0 0 (some (.int v), h1, d, s) ∧ zat h1 162 = some (.inr (.inr (.inr (10, mfs0)))) ∧ zT zg0 zF zP 236 0 [(0, .ref 162), (1, .int kk), (2, .int ww)] [] h1 0 0 (some (.int v), h2, 0, 0) ∧ d ≤ 1200 ∧ s ≤ 720000 := by
  obtain ⟨r, z1, h1, d, s, rfl, f, hd, hs⟩ := c_o14kl (h := zH0) rfl rfl rfl rfl rfl rfl rfl rfl rfl rfl rfl rfl rfl rfl rfl rfl rfl (by decide) hk
  have g : ∀ q e, q ∉ [0, 36, 38, 40, 62, 60, 64, 44, 46, 48, 50, 52, 54, 56, 58] → zat zH0 q = some e → zat h1 q = some e := f.2
  obtain ⟨r, y1, h2, rfl⟩ := m_o14wl (h := h1) (fs := mfs0) (g _ _ (by decide) rfl) mC00 (g _ _ (by decide) rfl) (g _ _ (by decide) rfl) (g _ _ (by decide) rfl) (g _ _ (by decide) rfl) (g _ _ (by decide) rfl) (g _ _ (by decide) rfl) (g _ _ (by decide) rfl) (g _ _ (by decide) rfl) (g _ _ (by decide) rfl) (g _ _ (by decide) rfl) (g _ _ (by decide) rfl) rfl rfl hw
  exact ⟨_, h1, h2, d, s, z1, g _ _ (by decide) rfl, y1, hd, hs⟩
theorem r_o14klwh {kk ww : Int32} (hk : kk.toInt < 0) (hw : 4 < ww.toInt) : ∃ (v : Int32) (h1 h2 : zH) (d s : Nat), zT zg0 zF zP 115 0 [(0, .ref 0), (1, .int kk), (2, .int ww)] [] zH0 0 0 (some (.int v), h1, d, s) ∧ zat h1 162 = some (.inr (.inr (.inr (10, mfs0)))) ∧ zT zg0 zF zP 236 0 [(0, .ref 162), (1, .int kk), (2, .int ww)] [] h1 0 0 (some (.int v), h2, 0, 0) ∧ d ≤ 1200 ∧ s ≤ 720000 := by
  obtain ⟨r, z1, h1, d, s, rfl, f, hd, hs⟩ := c_o14kl (h := zH0) rfl rfl rfl rfl rfl rfl rfl rfl rfl rfl rfl rfl rfl rfl rfl rfl rfl (by decide) hk
  have g : ∀ q e, q ∉ [0, 36, 38, 40, 62, 60, 64, 44, 46, 48, 50, 52, 54, 56, 58] → zat zH0 q = some e → zat h1 q = some e := f.2
  obtain ⟨r, y1, h2, rfl⟩ := m_o14wh (h := h1) (fs := mfs0) (g _ _ (by decide) rfl) mC00 (g _ _ (by decide) rfl) (g _ _ (by decide) rfl) (g _ _ (by decide) rfl) (g _ _ (by decide) rfl) (g _ _ (by decide) rfl) (g _ _ (by decide) rfl) (g _ _ (by decide) rfl) (g _ _ (by decide) rfl) (g _ _ (by decide) rfl) (g _ _ (by decide) rfl) (g _ _ (by decide) rfl) rfl rfl hw
  exact ⟨_, h1, h2, d, s, z1, g _ _ (by decide) rfl, y1, hd, hs⟩
theorem r_o14kh0 {kk : Int32} (hk : 264 ≤ kk.toInt) : ∃ (v : Int32) (h1 h2 : zH) (d s : Nat), zT zg0 zF zP 115 0 [(0, .ref 0), (1, .int kk), (2, .int 0)] [] zH0 0 0 (some (.int v), h1, d, s) ∧ zat h1 162 = some (.inr (.inr (.inr (10, mfs0)))) ∧ zT zg0 zF zP 236 0 [(0, .ref 162), (1, .int kk), (2, .int 0)] [] h1 0 0 (some (.int v), h2, 0, 0) ∧ d ≤ 1200 ∧ s ≤ 720000 := by
  obtain ⟨r, z1, h1, d, s, rfl, f, hd, hs⟩ := c_o14kh (h := zH0) rfl rfl rfl rfl rfl rfl rfl rfl rfl rfl rfl rfl rfl rfl rfl rfl rfl (by decide) hk
  have g : ∀ q e, q ∉ [0, 36, 38, 40, 62, 60, 64, 44, 46, 48, 50, 52, 54, 56, 58] → zat zH0 q = some e → zat h1 q = some e := f.2
  obtain ⟨r, y1, h2, rfl⟩ := m_o14kh0 (h := h1) (fs := mfs0) (g _ _ (by decide) rfl) mC00 (g _ _ (by decide) rfl) (g _ _ (by decide) rfl) (g _ _ (by decide) rfl) (g _ _ (by decide) rfl) (g _ _ (by decide) rfl) (g _ _ (by decide) rfl) (g _ _ (by decide) rfl) (g _ _ (by decide) rfl) (g _ _ (by decide) rfl) (g _ _ (by decide) rfl) (g _ _ (by decide) rfl) rfl rfl hk
  exact ⟨_, h1, h2, d, s, z1, g _ _ (by decide) rfl, y1, hd, hs⟩
theorem r_o14kh1 {kk : Int32} (hk : 264 ≤ kk.toInt) : ∃ (v : Int32) (h1 h2 : zH) (d s : Nat), zT zg0 zF zP 115 0 [(0, .ref 0), (1, .int kk), (2, .int 1)] [] zH0 0 0 (some (.int v), h1, d, s) ∧ zat h1 162 = some (.inr (.inr (.inr (10, mfs0)))) ∧ zT zg0 zF zP 236 0 [(0, .ref 162), (1, .int kk), (2, .int 1)] [] h1 0 0 (some (.int v), h2, 0, 0) ∧ d ≤ 1200 ∧ s ≤ 720000 := by
  obtain ⟨r, z1, h1, d, s, rfl, f, hd, hs⟩ := c_o14kh (h := zH0) rfl rfl rfl rfl rfl rfl rfl rfl rfl rfl rfl rfl rfl rfl rfl rfl rfl (by decide) hk
  have g : ∀ q e, q ∉ [0, 36, 38, 40, 62, 60, 64, 44, 46, 48, 50, 52, 54, 56, 58] → zat zH0 q = some e → zat h1 q = some e := f.2
  obtain ⟨r, y1, h2, rfl⟩ := m_o14kh1 (h := h1) (fs := mfs0) (g _ _ (by decide) rfl) mC00 (g _ _ (by decide) rfl) (g _ _ (by decide) rfl) (g _ _ (by decide) rfl) (g _ _ (by decide) rfl) (g _ _ (by decide) rfl) (g _ _ (by decide) rfl) (g _ _ (by decide) rfl) (g _ _ (by decide) rfl) (g _ _ (by decide) rfl) (g _ _ (by decide) rfl) (g _ _ (by decide) rfl) rfl rfl hk
  exact ⟨_, h1, h2, d, s, z1, g _ _ (by decide) rfl, y1, hd, hs⟩
theorem r_o14kh2 {kk : Int32} (hk : 264 ≤ kk.toInt) : ∃ (v : Int32) (h1 h2 : zH) (d s : Nat), zT zg0 zF zP 115 0 [(0, .ref 0), (1, .int kk), (2, .int 2)] [] zH0 0 0 (some (.int v), h1, d, s) ∧ zat h1 162 = some (.inr (.inr (.inr (10, mfs0)))) ∧ zT zg0 zF zP 236 0 [(0, .ref 162), (1, .int kk), (2, .int 2)] [] h1 0 0 (some (.int v), h2, 0, 0) ∧ d ≤ 1200 ∧ s ≤ 720000 := by
  obtain ⟨r, z1, h1, d, s, rfl, f, hd, hs⟩ := c_o14kh (h := zH0) rfl rfl rfl rfl rfl rfl rfl rfl rfl rfl rfl rfl rfl rfl rfl rfl rfl (by decide) hk
  have g : ∀ q e, q ∉ [0, 36, 38, 40, 62, 60, 64, 44, 46, 48, 50, 52, 54, 56, 58] → zat zH0 q = some e → zat h1 q = some e := f.2
  obtain ⟨r, y1, h2, rfl⟩ := m_o14kh2 (h := h1) (fs := mfs0) (g _ _ (by decide) rfl) mC00 (g _ _ (by decide) rfl) (g _ _ (by decide) rfl) (g _ _ (by decide) rfl) (g _ _ (by decide) rfl) (g _ _ (by decide) rfl) (g _ _ (by decide) rfl) (g _ _ (by decide) rfl) (g _ _ (by decide) rfl) (g _ _ (by decide) rfl) (g _ _ (by decide) rfl) (g _ _ (by decide) rfl) rfl rfl hk
  exact ⟨_, h1, h2, d, s, z1, g _ _ (by decide) rfl, y1, hd, hs⟩
theorem r_o14kh3 {kk : Int32} (hk : 264 ≤ kk.toInt) : ∃ (v : Int32) (h1 h2 : zH) (d s : Nat), zT zg0 zF zP 115 0 [(0, .ref 0), (1, .int kk), (2, .int 3)] [] zH0 0 0 (some (.int v), h1, d, s) ∧ zat h1 162 = some (.inr (.inr (.inr (10, mfs0)))) ∧ zT zg0 zF zP 236 0 [(0, .ref 162), (1, .int kk), (2, .int 3)] [] h1 0 0 (some (.int v), h2, 0, 0) ∧ d ≤ 1200 ∧ s ≤ 720000 := by
  obtain ⟨r, z1, h1, d, s, rfl, f, hd, hs⟩ := c_o14kh (h := zH0) rfl rfl rfl rfl rfl rfl rfl rfl rfl rfl rfl rfl rfl rfl rfl rfl rfl (by decide) hk
  have g : ∀ q e, q ∉ [0, 36, 38, 40, 62, 60, 64, 44, 46, 48, 50, 52, 54, 56, 58] → zat zH0 q = some e → zat h1 q = some e := f.2
  obtain ⟨r, y1, h2, rfl⟩ := m_o14kh3 (h := h1) (fs := mfs0) (g _ _ (by decide) rfl) mC00 (g _ _ (by decide) rfl) (g _ _ (by decide) rfl) (g _ _ (by decide) rfl) (g _ _ (by decide) rfl) (g _ _ (by decide) rfl) (g _ _ (by decide) rfl) (g _ _ (by decide) rfl) (g _ _ (by decide) rfl) (g _ _ (by decide) rfl) (g _ _ (by decide) rfl) (g _ _ (by decide) rfl) rfl rfl hk
  exact ⟨_, h1, h2, d, s, z1, g _ _ (by decide) rfl, y1, hd, hs⟩
theorem r_o14kh4 {kk : Int32} (hk : 264 ≤ kk.toInt) : ∃ (v : Int32) (h1 h2 : zH) (d s : Nat), zT zg0 zF zP 115 0 [(0, .ref 0), (1, .int kk), (2, .int 4)] [] zH0 0 0 (some (.int v), h1, d, s) ∧ zat h1 162 = some (.inr (.inr (.inr (10, mfs0)))) ∧ zT zg0 zF zP 236 0 [(0, .ref 162), (1, .int kk), (2, .int 4)] [] h1 0 0 (some (.int v), h2, 0, 0) ∧ d ≤ 1200 ∧ s ≤ 720000 := by
  obtain ⟨r, z1, h1, d, s, rfl, f, hd, hs⟩ := c_o14kh (h := zH0) rfl rfl rfl rfl rfl rfl rfl rfl rfl rfl rfl rfl rfl rfl rfl rfl rfl (by decide) hk
  have g : ∀ q e, q ∉ [0, 36, 38, 40, 62, 60, 64, 44, 46, 48, 50, 52, 54, 56, 58] → zat zH0 q = some e → zat h1 q = some e := f.2
  obtain ⟨r, y1, h2, rfl⟩ := m_o14kh4 (h := h1) (fs := mfs0) (g _ _ (by decide) rfl) mC00 (g _ _ (by decide) rfl) (g _ _ (by decide) rfl) (g _ _ (by decide) rfl) (g _ _ (by decide) rfl) (g _ _ (by decide) rfl) (g _ _ (by decide) rfl) (g _ _ (by decide) rfl) (g _ _ (by decide) rfl) (g _ _ (by decide) rfl) (g _ _ (by decide) rfl) (g _ _ (by decide) rfl) rfl rfl hk
  exact ⟨_, h1, h2, d, s, z1, g _ _ (by decide) rfl, y1, hd, hs⟩
theorem r_o14khwl {kk ww : Int32} (hk : 264 ≤ kk.toInt) (hw : ww.toInt < 0) : ∃ (v : Int32) (h1 h2 : zH) (d s : Nat), zT zg0 zF zP 115 0 [(0, .ref 0), (1, .int kk), (2, .int ww)] [] zH0 0 0 (some (.int v), h1, d, s) ∧ zat h1 162 = some (.inr (.inr (.inr (10, mfs0)))) ∧ zT zg0 zF zP 236 0 [(0, .ref 162), (1, .int kk), (2, .int ww)] [] h1 0 0 (some (.int v), h2, 0, 0) ∧ d ≤ 1200 ∧ s ≤ 720000 := by
  obtain ⟨r, z1, h1, d, s, rfl, f, hd, hs⟩ := c_o14kh (h := zH0) rfl rfl rfl rfl rfl rfl rfl rfl rfl rfl rfl rfl rfl rfl rfl rfl rfl (by decide) hk
  have g : ∀ q e, q ∉ [0, 36, 38, 40, 62, 60, 64, 44, 46, 48, 50, 52, 54, 56, 58] → zat zH0 q = some e → zat h1 q = some e := f.2
  obtain ⟨r, y1, h2, rfl⟩ := m_o14wl (h := h1) (fs := mfs0) (g _ _ (by decide) rfl) mC00 (g _ _ (by decide) rfl) (g _ _ (by decide) rfl) (g _ _ (by decide) rfl) (g _ _ (by decide) rfl) (g _ _ (by decide) rfl) (g _ _ (by decide) rfl) (g _ _ (by decide) rfl) (g _ _ (by decide) rfl) (g _ _ (by decide) rfl) (g _ _ (by decide) rfl) (g _ _ (by decide) rfl) rfl rfl hw
  exact ⟨_, h1, h2, d, s, z1, g _ _ (by decide) rfl, y1, hd, hs⟩
theorem r_o14khwh {kk ww : Int32} (hk : 264 ≤ kk.toInt) (hw : 4 < ww.toInt) : ∃ (v : Int32) (h1 h2 : zH) (d s : Nat), zT zg0 zF zP 115 0 [(0, .ref 0), (1, .int kk), (2, .int ww)] [] zH0 0 0 (some (.int v), h1, d, s) ∧ zat h1 162 = some (.inr (.inr (.inr (10, mfs0)))) ∧ zT zg0 zF zP 236 0 [(0, .ref 162), (1, .int kk), (2, .int ww)] [] h1 0 0 (some (.int v), h2, 0, 0) ∧ d ≤ 1200 ∧ s ≤ 720000 := by
  obtain ⟨r, z1, h1, d, s, rfl, f, hd, hs⟩ := c_o14kh (h := zH0) rfl rfl rfl rfl rfl rfl rfl rfl rfl rfl rfl rfl rfl rfl rfl rfl rfl (by decide) hk
  have g : ∀ q e, q ∉ [0, 36, 38, 40, 62, 60, 64, 44, 46, 48, 50, 52, 54, 56, 58] → zat zH0 q = some e → zat h1 q = some e := f.2
  obtain ⟨r, y1, h2, rfl⟩ := m_o14wh (h := h1) (fs := mfs0) (g _ _ (by decide) rfl) mC00 (g _ _ (by decide) rfl) (g _ _ (by decide) rfl) (g _ _ (by decide) rfl) (g _ _ (by decide) rfl) (g _ _ (by decide) rfl) (g _ _ (by decide) rfl) (g _ _ (by decide) rfl) (g _ _ (by decide) rfl) (g _ _ (by decide) rfl) (g _ _ (by decide) rfl) (g _ _ (by decide) rfl) rfl rfl hw
  exact ⟨_, h1, h2, d, s, z1, g _ _ (by decide) rfl, y1, hd, hs⟩
theorem r_o14wl {K : Nat} {ww : Int32} (hK : K < 264) (hw : ww.toInt < 0) : ∃ (v : Int32) (h1 h2 : zH) (d s : Nat), zT zg0 zF zP 115 0 [(0, .ref 0), (1, .int (nI K)), (2, .int ww)] [] zH0 0 0 (some (.int v), h1, d, s) ∧ zat h1 162 = some (.inr (.inr (.inr (10, mfs0)))) ∧ zT zg0 zF zP 236 0 [(0, .ref 162), (1, .int (nI K)), (2, .int ww)] [] h1 0 0 (some (.int v), h2, 0, 0) ∧ d ≤ 1200 ∧ s ≤ 720000 := by
  obtain ⟨r, z1, h1, d, s, rfl, f, hd, hs⟩ := c_o14wl (h := zH0) rfl rfl rfl rfl rfl rfl rfl rfl rfl rfl rfl rfl rfl rfl rfl rfl rfl (by decide) hK hw
  have g : ∀ q e, q ∉ [0, 36, 38, 40, 62, 60, 64, 44, 46, 48, 50, 52, 54, 56, 58] → zat zH0 q = some e → zat h1 q = some e := f.2
  obtain ⟨r, y1, h2, rfl⟩ := m_o14wl (h := h1) (fs := mfs0) (g _ _ (by decide) rfl) mC00 (g _ _ (by decide) rfl) (g _ _ (by decide) rfl) (g _ _ (by decide) rfl) (g _ _ (by decide) rfl) (g _ _ (by decide) rfl) (g _ _ (by decide) rfl) (g _ _ (by decide) rfl) (g _ _ (by decide) rfl) (g _ _ (by decide) rfl) (g _ _ (by decide) rfl) (g _ _ (by decide) rfl) rfl rfl hw
  exact ⟨_, h1, h2, d, s, z1, g _ _ (by decide) rfl, y1, hd, hs⟩
theorem r_o14wh {K : Nat} {ww : Int32} (hK : K < 264) (hw : 4 < ww.toInt) : ∃ (v : Int32) (h1 h2 : zH) (d s : Nat), zT zg0 zF zP 115 0 [(0, .ref 0), (1, .int (nI K)), (2, .int ww)] [] zH0 0 0 (some (.int v), h1, d, s) ∧ zat h1 162 = some (.inr (.inr (.inr (10, mfs0)))) ∧ zT zg0 zF zP 236 0 [(0, .ref 162), (1, .int (nI K)), (2, .int ww)] [] h1 0 0 (some (.int v), h2, 0, 0) ∧ d ≤ 1200 ∧ s ≤ 720000 := by
  obtain ⟨r, z1, h1, d, s, rfl, f, hd, hs⟩ := c_o14wh (h := zH0) rfl rfl rfl rfl rfl rfl rfl rfl rfl rfl rfl rfl rfl rfl rfl rfl rfl (by decide) hK hw
  have g : ∀ q e, q ∉ [0, 36, 38, 40, 62, 60, 64, 44, 46, 48, 50, 52, 54, 56, 58] → zat zH0 q = some e → zat h1 q = some e := f.2
  obtain ⟨r, y1, h2, rfl⟩ := m_o14wh (h := h1) (fs := mfs0) (g _ _ (by decide) rfl) mC00 (g _ _ (by decide) rfl) (g _ _ (by decide) rfl) (g _ _ (by decide) rfl) (g _ _ (by decide) rfl) (g _ _ (by decide) rfl) (g _ _ (by decide) rfl) (g _ _ (by decide) rfl) (g _ _ (by decide) rfl) (g _ _ (by decide) rfl) (g _ _ (by decide) rfl) (g _ _ (by decide) rfl) rfl rfl hw
  exact ⟨_, h1, h2, d, s, z1, g _ _ (by decide) rfl, y1, hd, hs⟩
theorem r_o14g0 {K : Nat} (hK : K < 264) : ∃ (v : Int32) (h1 h2 : zH) (d s : Nat), zT zg0 zF zP 115 0 [(0, .ref 0), (1, .int (nI K)), (2, .int 0)] [] zH0 0 0 (some (.int v), h1, d, s) ∧ zat h1 162 = some (.inr (.inr (.inr (10, mfs0)))) ∧ zT zg0 zF zP 236 0 [(0, .ref 162), (1, .int (nI K)), (2, .int 0)] [] h1 0 0 (some (.int v), h2, 0, 0) ∧ d ≤ 1200 ∧ s ≤ 720000 := by
  obtain ⟨r, z1, h1, d, s, rfl, f, hd, hs⟩ := c_o14g0 (h := zH0) rfl rfl rfl rfl rfl rfl rfl rfl rfl rfl rfl rfl rfl rfl rfl rfl rfl (by decide) hK
  have g : ∀ q e, q ∉ [0, 36, 38, 40, 62, 60, 64, 44, 46, 48, 50, 52, 54, 56, 58] → zat zH0 q = some e → zat h1 q = some e := f.2
  obtain ⟨r, y1, h2, rfl⟩ := m_o14g0 (h := h1) (fs := mfs0) (g _ _ (by decide) rfl) mC00 (g _ _ (by decide) rfl) (g _ _ (by decide) rfl) (g _ _ (by decide) rfl) (g _ _ (by decide) rfl) (g _ _ (by decide) rfl) (g _ _ (by decide) rfl) (g _ _ (by decide) rfl) (g _ _ (by decide) rfl) (g _ _ (by decide) rfl) (g _ _ (by decide) rfl) (g _ _ (by decide) rfl) rfl rfl hK
  exact ⟨_, h1, h2, d, s, z1, g _ _ (by decide) rfl, y1, hd, hs⟩
theorem r_o14g1 {K : Nat} (hK : K < 264) : ∃ (v : Int32) (h1 h2 : zH) (d s : Nat), zT zg0 zF zP 115 0 [(0, .ref 0), (1, .int (nI K)), (2, .int 1)] [] zH0 0 0 (some (.int v), h1, d, s) ∧ zat h1 162 = some (.inr (.inr (.inr (10, mfs0)))) ∧ zT zg0 zF zP 236 0 [(0, .ref 162), (1, .int (nI K)), (2, .int 1)] [] h1 0 0 (some (.int v), h2, 0, 0) ∧ d ≤ 1200 ∧ s ≤ 720000 := by
  obtain ⟨r, z1, h1, d, s, rfl, f, hd, hs⟩ := c_o14g1 (h := zH0) rfl rfl rfl rfl rfl rfl rfl rfl rfl rfl rfl rfl rfl rfl rfl rfl rfl (by decide) hK
  have g : ∀ q e, q ∉ [0, 36, 38, 40, 62, 60, 64, 44, 46, 48, 50, 52, 54, 56, 58] → zat zH0 q = some e → zat h1 q = some e := f.2
  obtain ⟨r, y1, h2, rfl⟩ := m_o14g1 (h := h1) (fs := mfs0) (g _ _ (by decide) rfl) mC00 (g _ _ (by decide) rfl) (g _ _ (by decide) rfl) (g _ _ (by decide) rfl) (g _ _ (by decide) rfl) (g _ _ (by decide) rfl) (g _ _ (by decide) rfl) (g _ _ (by decide) rfl) (g _ _ (by decide) rfl) (g _ _ (by decide) rfl) (g _ _ (by decide) rfl) (g _ _ (by decide) rfl) rfl rfl hK
  exact ⟨_, h1, h2, d, s, z1, g _ _ (by decide) rfl, y1, hd, hs⟩
theorem r_o14g2 {K : Nat} (hK : K < 264) : ∃ (v : Int32) (h1 h2 : zH) (d s : Nat), zT zg0 zF zP 115 0 [(0, .ref 0), (1, .int (nI K)), (2, .int 2)] [] zH0 0 0 (some (.int v), h1, d, s) ∧ zat h1 162 = some (.inr (.inr (.inr (10, mfs0)))) ∧ zT zg0 zF zP 236 0 [(0, .ref 162), (1, .int (nI K)), (2, .int 2)] [] h1 0 0 (some (.int v), h2, 0, 0) ∧ d ≤ 1200 ∧ s ≤ 720000 := by
  obtain ⟨r, z1, h1, d, s, rfl, f, hd, hs⟩ := c_o14g2 (h := zH0) rfl rfl rfl rfl rfl rfl rfl rfl rfl rfl rfl rfl rfl rfl rfl rfl rfl (by decide) hK
  have g : ∀ q e, q ∉ [0, 36, 38, 40, 62, 60, 64, 44, 46, 48, 50, 52, 54, 56, 58] → zat zH0 q = some e → zat h1 q = some e := f.2
  obtain ⟨r, y1, h2, rfl⟩ := m_o14g2 (h := h1) (fs := mfs0) (g _ _ (by decide) rfl) mC00 (g _ _ (by decide) rfl) (g _ _ (by decide) rfl) (g _ _ (by decide) rfl) (g _ _ (by decide) rfl) (g _ _ (by decide) rfl) (g _ _ (by decide) rfl) (g _ _ (by decide) rfl) (g _ _ (by decide) rfl) (g _ _ (by decide) rfl) (g _ _ (by decide) rfl) (g _ _ (by decide) rfl) rfl rfl hK
  exact ⟨_, h1, h2, d, s, z1, g _ _ (by decide) rfl, y1, hd, hs⟩
theorem r_o14g3 {K : Nat} (hK : K < 264) : ∃ (v : Int32) (h1 h2 : zH) (d s : Nat), zT zg0 zF zP 115 0 [(0, .ref 0), (1, .int (nI K)), (2, .int 3)] [] zH0 0 0 (some (.int v), h1, d, s) ∧ zat h1 162 = some (.inr (.inr (.inr (10, mfs0)))) ∧ zT zg0 zF zP 236 0 [(0, .ref 162), (1, .int (nI K)), (2, .int 3)] [] h1 0 0 (some (.int v), h2, 0, 0) ∧ d ≤ 1200 ∧ s ≤ 720000 := by
  obtain ⟨r, z1, h1, d, s, rfl, f, hd, hs⟩ := c_o14g3 (h := zH0) rfl rfl rfl rfl rfl rfl rfl rfl rfl rfl rfl rfl rfl rfl rfl rfl rfl (by decide) hK
  have g : ∀ q e, q ∉ [0, 36, 38, 40, 62, 60, 64, 44, 46, 48, 50, 52, 54, 56, 58] → zat zH0 q = some e → zat h1 q = some e := f.2
  obtain ⟨r, y1, h2, rfl⟩ := m_o14g3 (h := h1) (fs := mfs0) (g _ _ (by decide) rfl) mC00 (g _ _ (by decide) rfl) (g _ _ (by decide) rfl) (g _ _ (by decide) rfl) (g _ _ (by decide) rfl) (g _ _ (by decide) rfl) (g _ _ (by decide) rfl) (g _ _ (by decide) rfl) (g _ _ (by decide) rfl) (g _ _ (by decide) rfl) (g _ _ (by decide) rfl) (g _ _ (by decide) rfl) rfl rfl hK
  exact ⟨_, h1, h2, d, s, z1, g _ _ (by decide) rfl, y1, hd, hs⟩
theorem r_o14g4 {K : Nat} (hK : K < 264) : ∃ (v : Int32) (h1 h2 : zH) (d s : Nat), zT zg0 zF zP 115 0 [(0, .ref 0), (1, .int (nI K)), (2, .int 4)] [] zH0 0 0 (some (.int v), h1, d, s) ∧ zat h1 162 = some (.inr (.inr (.inr (10, mfs0)))) ∧ zT zg0 zF zP 236 0 [(0, .ref 162), (1, .int (nI K)), (2, .int 4)] [] h1 0 0 (some (.int v), h2, 0, 0) ∧ d ≤ 1200 ∧ s ≤ 720000 := by
  obtain ⟨r, z1, h1, d, s, rfl, f, hd, hs⟩ := c_o14g4 (h := zH0) rfl rfl rfl rfl rfl rfl rfl rfl rfl rfl rfl rfl rfl rfl rfl rfl rfl (by decide) hK
  have g : ∀ q e, q ∉ [0, 36, 38, 40, 62, 60, 64, 44, 46, 48, 50, 52, 54, 56, 58] → zat zH0 q = some e → zat h1 q = some e := f.2
  obtain ⟨r, y1, h2, rfl⟩ := m_o14g4 (h := h1) (fs := mfs0) (g _ _ (by decide) rfl) mC00 (g _ _ (by decide) rfl) (g _ _ (by decide) rfl) (g _ _ (by decide) rfl) (g _ _ (by decide) rfl) (g _ _ (by decide) rfl) (g _ _ (by decide) rfl) (g _ _ (by decide) rfl) (g _ _ (by decide) rfl) (g _ _ (by decide) rfl) (g _ _ (by decide) rfl) (g _ _ (by decide) rfl) rfl rfl hK
  exact ⟨_, h1, h2, d, s, z1, g _ _ (by decide) rfl, y1, hd, hs⟩
theorem zop_17 (xs : Nat → Int32) (h0 : xs 0 &&& 63 = 17) : zDone xs := by
  have key := r_o17
  obtain ⟨v, h1, h2, d, s, z1, z2, z3, z4, z5⟩ := key
  exact lw_17 xs h0 z1 z2 z3 (by omega) (by omega)
theorem zop_16 (xs : Nat → Int32) (h0 : xs 0 &&& 63 = 16) : zDone xs := by
  by_cases hb : xs 1 = 0
  · obtain ⟨v, h1, h2, d, s, z1, z2, z3, z4, z5⟩ := r_o16f
    exact lw_16f xs h0 hb z1 z2 z3 (by omega) (by omega)
  · obtain ⟨v, h1, h2, d, s, z1, z2, z3, z4, z5⟩ := r_o16t
    exact lw_16t xs h0 hb z1 z2 z3 (by omega) (by omega)
theorem j5 {x : Int32} (h : 0 ≤ x.toInt ∧ x.toInt ≤ 4) : x = 0 ∨ x = 1 ∨ x = 2 ∨ x = 3 ∨ x = 4 := by
  rcases j6 (x := x) (by omega) with k | k | k | k | k | k
  · exact Or.inl k
  · exact Or.inr (Or.inl k)
  · exact Or.inr (Or.inr (Or.inl k))
  · exact Or.inr (Or.inr (Or.inr (Or.inl k)))
  · exact Or.inr (Or.inr (Or.inr (Or.inr k)))
  · rw [k] at h; exact absurd h.2 (by decide)
theorem zop_14 (xs : Nat → Int32) (h0 : xs 0 &&& 63 = 14) : zDone xs := by
  have key : ∃ (v : Int32) (h1 h2 : zH) (d s : Nat), zT zg0 zF zP 115 0 [(0, .ref 0), (1, .int (xs 1)), (2, .int (xs 2))] [] zH0 0 0 (some (.int v), h1, d, s) ∧ zat h1 162 = some (.inr (.inr (.inr (10, mfs0)))) ∧ zT zg0 zF zP 236 0 [(0, .ref 162), (1, .int (xs 1)), (2, .int (xs 2))] [] h1 0 0 (some (.int v), h2, 0, 0) ∧ d ≤ 1200 ∧ s ≤ 720000 := by
    by_cases kL : (xs 1).toInt < 0
    · by_cases wL : (xs 2).toInt < 0
      · exact r_o14klwl kL wL
      · by_cases wH : 4 < (xs 2).toInt
        · exact r_o14klwh kL wH
        · rcases j5 (x := xs 2) (by omega) with k | k | k | k | k <;> rw [k]
          · exact r_o14kl0 kL
          · exact r_o14kl1 kL
          · exact r_o14kl2 kL
          · exact r_o14kl3 kL
          · exact r_o14kl4 kL
    · by_cases kH : 264 ≤ (xs 1).toInt
      · by_cases wL : (xs 2).toInt < 0
        · exact r_o14khwl kH wL
        · by_cases wH : 4 < (xs 2).toInt
          · exact r_o14khwh kH wH
          · rcases j5 (x := xs 2) (by omega) with k | k | k | k | k <;> rw [k]
            · exact r_o14kh0 kH
            · exact r_o14kh1 kH
            · exact r_o14kh2 kH
            · exact r_o14kh3 kH
            · exact r_o14kh4 kH
      · obtain ⟨K, hK, e⟩ := nI_k (x := xs 1) (by omega)
        rw [e]
        by_cases wL : (xs 2).toInt < 0
        · exact r_o14wl hK wL
        · by_cases wH : 4 < (xs 2).toInt
          · exact r_o14wh hK wH
          · rcases j5 (x := xs 2) (by omega) with k | k | k | k | k <;> rw [k]
            · exact r_o14g0 hK
            · exact r_o14g1 hK
            · exact r_o14g2 hK
            · exact r_o14g3 hK
            · exact r_o14g4 hK
  obtain ⟨v, h1, h2, d, s, z1, z2, z3, z4, z5⟩ := key
  exact lw_14 xs h0 z1 z2 z3 (by omega) (by omega)
