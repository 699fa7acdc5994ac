/-! Every call on a new object; the law's walk from its entry. -/
theorem zall (xs : Nat → Int32) (h4 : xs 0 &&& 63 ≠ 4) : zDone xs := by
  have h63 := z_and63 (xs 0)
  by_cases hb : 41 < (xs 0 &&& 63).toInt
  · exact zop_def xs hb
  have key : ∀ n : Nat, (xs 0 &&& 63).toInt = n → n < 42 → xs 0 &&& 63 = nI n := fun n h hn => Int32.toInt_inj.mp (by rw [h, nI_toInt (by omega)])
  obtain ⟨n, hn⟩ : ∃ n : Nat, (xs 0 &&& 63).toInt = n := ⟨(xs 0 &&& 63).toInt.toNat, by omega⟩
  have hn2 : n < 42 := by omega
  have hk := key n hn hn2
  clear hn key
  match n, hn2, hk with
  | 0, _, hk => exact zop_0 xs hk
  | 1, _, hk => exact zop_1 xs hk
  | 2, _, hk => exact zop_2 xs hk
  | 3, _, hk => exact zop_3 xs hk
  | 4, _, hk => exact absurd hk h4
  | 5, _, hk => exact zop_5 xs hk
  | 6, _, hk => exact zop_6 xs hk
  | 7, _, hk => exact zop_7 xs hk
  | 8, _, hk => exact zop_8 xs hk
  | 9, _, hk => exact zop_9 xs hk
  | 10, _, hk => exact zop_10 xs hk
  | 11, _, hk => exact zop_11 xs hk
  | 12, _, hk => exact zop_12 xs hk
  | 13, _, hk => exact zop_13 xs hk
  | 14, _, hk => exact zop_14 xs hk
  | 15, _, hk => exact zop_15 xs hk
  | 16, _, hk => exact zop_16 xs hk
  | 17, _, hk => exact zop_17 xs hk
  | 18, _, hk => exact zop_18 xs hk
  | 19, _, hk => exact zop_19 xs hk
  | 20, _, hk => exact zop_20 xs hk
  | 21, _, hk => exact zop_21 xs hk
  | 22, _, hk => exact zop_22 xs hk
  | 23, _, hk => exact zop_23 xs hk
  | 24, _, hk => exact zop_24 xs hk
  | 25, _, hk => exact zop_25 xs hk
  | 26, _, hk => exact zop_26 xs hk
  | 27, _, hk => exact zop_27 xs hk
  | 28, _, hk => exact zop_28 xs hk
  | 29, _, hk => exact zop_29 xs hk
  | 30, _, hk => exact zop_30 xs hk
  | 31, _, hk => exact zop_31 xs hk
  | 32, _, hk => exact zop_32 xs hk
  | 33, _, hk => exact zop_33 xs hk
  | 34, _, hk => exact zop_34 xs hk
  | 35, _, hk => exact zop_35 xs hk
  | 36, _, hk => exact zop_36 xs hk
  | 37, _, hk => exact zop_37 xs hk
  | 38, _, hk => exact zop_38 xs hk
  | 39, _, hk => exact zop_39 xs hk
  | 40, _, hk => exact zop_40 xs hk
  | 41, _, hk => exact zop_41 xs hk
  | n + 42, h, _ => exact absurd h (by omega)
theorem whole_start {p : Program} {e : Env} {s : State} {m : MethodId} {below : List Frame} {meth : Method} {c : Code} (l : Launch) (hflags : l.flags = flags0) {b L : Nat} {xs : Nat → Int32} (hbd : L ≤ 6) (hnm : meth.name = "law") (C0 : lw_At p s m meth c b L xs) :
    W p l e room_1 s m #[Value.ref b] below meth c s.heap [] 0 0 (lw_Z below #[Value.ref b] s) (entryFrame m ([Value.ref b] : List Value).toArray 7) := by
  by_cases hL : L < 6
  · obtain ⟨n, h, dc, ds, hz, h1, h2⟩ := zfinish (zshort hL xs)
    exact zwhole l hnm C0 hz h1 h2
  · have h6 : L = 6 := by omega
    subst h6
    by_cases h4 : xs 0 &&& 63 = 4
    · have hlt : l.stackTraces = false := by
        unfold Launch.stackTraces
        rw [hflags]
        decide +kernel
      exact q4_whole l hlt h4 hnm C0
    · obtain ⟨n, h, dc, ds, hz, h1, h2⟩ := zfinish (zall xs h4)
      exact zwhole l hnm C0 hz h1 h2
