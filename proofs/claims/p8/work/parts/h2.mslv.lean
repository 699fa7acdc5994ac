/-! The reference: AIM's solutions as they are kept. -/
theorem mC_mO {n0 n2 n14 n15 n16 n17 n18 n19 n20 n21 n22 n23 n27 n28 n32 n33 n34 n35 n39 n52 : Int32} : mC (mO n0 n2 n14 n15 n16 n17 n18 n19 n20 n21 n22 n23 n27 n28 n32 n33 n34 n35 n39 n52) := by
  refine ⟨rfl, fun p hp => ?_⟩
  unfold mR at hp
  rcases List.mem_cons.mp hp with rfl | hp
  · rfl
  rcases List.mem_cons.mp hp with rfl | hp
  · rfl
  rcases List.mem_cons.mp hp with rfl | hp
  · rfl
  rcases List.mem_cons.mp hp with rfl | hp
  · rfl
  rcases List.mem_cons.mp hp with rfl | hp
  · rfl
  rcases List.mem_cons.mp hp with rfl | hp
  · rfl
  rcases List.mem_cons.mp hp with rfl | hp
  · rfl
  rcases List.mem_cons.mp hp with rfl | hp
  · rfl
  rcases List.mem_cons.mp hp with rfl | hp
  · rfl
  rcases List.mem_cons.mp hp with rfl | hp
  · rfl
  rcases List.mem_cons.mp hp with rfl | hp
  · rfl
  rcases List.mem_cons.mp hp with rfl | hp
  · rfl
  rcases List.mem_cons.mp hp with rfl | hp
  · rfl
  rcases List.mem_cons.mp hp with rfl | hp
  · rfl
  rcases List.mem_cons.mp hp with rfl | hp
  · rfl
  rcases List.mem_cons.mp hp with rfl | hp
  · rfl
  rcases List.mem_cons.mp hp with rfl | hp
  · rfl
  rcases List.mem_cons.mp hp with rfl | hp
  · rfl
  rcases List.mem_cons.mp hp with rfl | hp
  · rfl
  rcases List.mem_cons.mp hp with rfl | hp
  · rfl
  rcases List.mem_cons.mp hp with rfl | hp
  · rfl
  rcases List.mem_cons.mp hp with rfl | hp
  · rfl
  rcases List.mem_cons.mp hp with rfl | hp
  · rfl
  rcases List.mem_cons.mp hp with rfl | hp
  · rfl
  rcases List.mem_cons.mp hp with rfl | hp
  · rfl
  rcases List.mem_cons.mp hp with rfl | hp
  · rfl
  rcases List.mem_cons.mp hp with rfl | hp
  · rfl
  rcases List.mem_cons.mp hp with rfl | hp
  · rfl
  rcases List.mem_cons.mp hp with rfl | hp
  · rfl
  rcases List.mem_cons.mp hp with rfl | hp
  · rfl
  rcases List.mem_cons.mp hp with rfl | hp
  · rfl
  rcases List.mem_cons.mp hp with rfl | hp
  · rfl
  rcases List.mem_cons.mp hp with rfl | hp
  · rfl
  rcases List.mem_cons.mp hp with rfl | hp
  · rfl
  exact absurd hp List.not_mem_nil
theorem mO_solved {n0 n2 n14 n15 n16 n17 n18 n19 n20 n21 n22 n23 n27 n28 n32 n33 n34 n35 n39 n52 x y : Int32} {fs2 : List Value} (hK : mK (mO n0 n2 n14 n15 n16 n17 n18 n19 n20 n21 n22 n23 n27 n28 n32 n33 n34 n35 n39 n52) fs2) (h34 : fs2[34]? = some (.int x)) (h35 : fs2[35]? = some (.int y)) : fs2 = mO n0 n2 n14 n15 n16 n17 n18 n19 n20 n21 n22 n23 n27 n28 n32 n33 (x) (y) n39 n52 := by
  have e : mO n0 n2 n14 n15 n16 n17 n18 n19 n20 n21 n22 n23 n27 n28 n32 n33 (x) (y) n39 n52 = ((mO n0 n2 n14 n15 n16 n17 n18 n19 n20 n21 n22 n23 n27 n28 n32 n33 n34 n35 n39 n52).set 34 (.int x)).set 35 (.int y) := rfl
  apply List.ext_getElem?
  intro k
  rw [e]
  by_cases k5 : k = 35
  · rw [k5, h35]; rfl
  · by_cases k4 : k = 34
    · rw [k4, h34]; rfl
    · rw [List.getElem?_set_ne (fun q => k5 q.symm), List.getElem?_set_ne (fun q => k4 q.symm)]
      exact hK k ⟨k4, k5⟩
theorem m_slv {h : zH} {n0 n2 n14 n15 n16 n17 n18 n19 n20 n21 n22 n23 n27 n28 n32 n33 n34 n35 n39 n52 : Int32} {kn lo hi on pa pb pl : List Int32} {fo : List Int64} {rp o : Nat} (hM : zat h 162 = some (.inr (.inr (.inr (10, mO n0 n2 n14 n15 n16 n17 n18 n19 n20 n21 n22 n23 n27 n28 n32 n33 n34 n35 n39 n52))))) (hKn : zat h 166 = some (.inl (0, 14, kn))) (hLo : zat h 168 = some (.inl (0, 12, lo))) (hHi : zat h 170 = some (.inl (0, 12, hi))) (hFo : zat h 196 = some (.inr (.inl (6000, fo)))) (hOn : zat h 204 = some (.inl (0, 6, on))) (h200 : zat h 200 = some (.inl (0, 4096, pa))) (h202 : zat h 202 = some (.inl (0, 4096, pb))) (hpl : zat h rp = some (.inl (0, 6, pl))) (ho : o ≤ 5400) (hrp : rp = 190 ∨ rp = 222) : wq 226 0 [(0, .ref 162), (1, .ref rp), (2, .int (nI o))] [] h 0 0 (fun rr9 => ∃ (h2 : zH) (wn2 : Int32) (fo2 : List Int64) (on2 : List Int32) (pa2 : List Int32) (pb2 : List Int32), rr9 = (none, h2, 0, 0) ∧ wFr [162, 196, 204, 200, 202] h h2 ∧ h2.length = h.length ∧ zat h2 162 = some (.inr (.inr (.inr (10, mO n0 n2 n14 n15 n16 n17 n18 n19 n20 n21 n22 n23 n27 n28 n32 n33 (mNum (mSol lo hi kn pl)) wn2 n39 n52)))) ∧ zat h2 196 = some (.inr (.inl (6000, fo2))) ∧ zat h2 204 = some (.inl (0, 6, on2)) ∧ zat h2 200 = some (.inl (0, 4096, pa2)) ∧ zat h2 202 = some (.inl (0, 4096, pb2)) ∧ (wFe (fun q => fo.getD q 0) o (mSol lo hi kn pl) fo2)) := by
  refine wq_mono (m_solvesE (f34 := .int n34) (f35 := .int n35) hM mC_mO hKn hLo hHi hFo ho hOn hpl hrp h200 h202) ?_
  rintro _ ⟨⟨h2, fs2, fo2, wn2, on2, rfl, f, l, e162, ⟨hC2, hK2⟩, e34, e35, eF, hfd, eN⟩, pa2, pb2, e200, e202⟩
  rw [mO_solved hK2 e34 e35] at e162
  exact ⟨h2, wn2, fo2, on2, pa2, pb2, rfl, f, l, e162, eF, eN, e200, e202, hfd⟩
