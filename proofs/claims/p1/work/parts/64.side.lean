/-! The reference's side alone: the class's 81 cells are poison. -/
def zHm : zH := List.replicate 81 zPz ++ zH0.drop 81
def zqH (H : zH) : Nat → zE := fun k => H.getD k zPz
set_option maxRecDepth 100000 in
theorem zH0_np : zH0.all (fun e => !(zisP e)) = true := by decide +kernel
set_option maxRecDepth 100000 in
theorem zH0_len : zH0.length = 117 := by decide +kernel
theorem zHm_lo {j : Nat} (hj : j < 81) : zHm[j]? = some zPz := by
  unfold zHm
  rw [List.getElem?_append_left (by rw [List.length_replicate]; exact hj), List.getElem?_replicate, if_pos hj]
theorem zHm_hi {j : Nat} (hj : 81 ≤ j) : zHm[j]? = zH0[j]? := by
  unfold zHm
  rw [List.getElem?_append_right (by rw [List.length_replicate]; exact hj), List.length_replicate, List.getElem?_drop, show 81 + (j - 81) = j by omega]
theorem zpa_m {H : zH} (hl : H.length = 117) (hk : ∀ j, 81 ≤ j → H[j]? = zH0[j]?) : zpa (zqH H) zHm = H := by
  apply List.ext_getElem?
  intro j
  rw [zpa_get]
  by_cases hj : j < 81
  · rw [zHm_lo hj]
    show some (zqH H j) = H[j]?
    unfold zqH
    rw [List.getD_eq_getElem?_getD, List.getElem?_eq_getElem (by omega)]
    rfl
  · rw [zHm_hi (by omega), hk j (by omega)]
    cases hz : zH0[j]? with
    | none => rfl
    | some e =>
      show some (bif zisP e then zqH H j else e) = some e
      have h1 := List.all_eq_true.mp zH0_np e (List.mem_of_getElem? hz)
      rw [show zisP e = false by simpa using h1]
      rfl
