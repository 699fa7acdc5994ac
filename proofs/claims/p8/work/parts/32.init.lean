/-! The state behind the two constructors. -/
noncomputable def zH0 : zH := [
  .inr (.inr (.inr (9, [.ref 2, .int 0, .ref 4, .ref 6, .ref 20, .long 70644700037184, .ref 34, .ref 36, .int 0, .long 0, .ref 42, .ref 44, .ref 60, .ref 66, .ref 72, .ref 74, .ref 150, .ref 158]))),
  .inl (1, 700, []),
  .inr (.inr (.inr (4, [.int 0, .int (-1), .null, .int 0, .int 0, .int 0, .int 0, .int 0, .int 0, .null]))),
  .inr (.inr (.inr (0, [.int 9, .int 4, .int 10, .int 2, .int 0, .long 70644700037184, .ref 8, .ref 10, .ref 12, .int 0, .ref 14, .ref 16, .int 0, .ref 18]))),
  .inl (0, 6, [0, (-32), (-32), (-32), (-32), (-64)]),
  .inl (0, 6, [99, 31, 31, 31, 31, 63]),
  .inl (0, 6, [4, 4, 4, 4, 4, 4]),
  .inl (0, 8, []),
  .inr (.inl (8, [])),
  .inl (0, 10, []),
  .inr (.inr (.inr (0, [.int 0, .int 0, .int 0, .int 0, .int 0, .long 0, .ref 22, .ref 24, .ref 26, .int 0, .ref 28, .ref 30, .int 0, .ref 32]))),
  .inl (0, 6, []),
  .inl (0, 6, []),
  .inl (0, 6, []),
  .inl (0, 8, []),
  .inr (.inl (8, [])),
  .inl (0, 10, []),
  .inl (0, 6, [22000000, 0, 10000, 0, 0, 0]),
  .inr (.inr (.inr (2, [.int 0, .int 0, .ref 38, .ref 40]))),
  .inr (.inl (20, [])),
  .inl (0, 120, []),
  .inl (0, 6, []),
  .inr (.inr (.inr (7, [.null, .null, .ref 46, .int 0, .ref 48, .ref 50, .ref 52, .ref 54, .ref 56, .ref 58]))),
  .inl (0, 6, []),
  .inl (0, 128, []),
  .inl (0, 128, []),
  .inl (0, 128, []),
  .inl (0, 128, []),
  .inl (0, 101, []),
  .inr (.inl (16, [])),
  .inr (.inr (.inr (1, [.int 0, .int 0, .ref 62, .ref 64, .int 0, .int 0]))),
  .inr (.inl (16, [])),
  .inl (0, 6, []),
  .inr (.inr (.inr (1, [.int 0, .int 0, .ref 68, .ref 70, .int 0, .int 0]))),
  .inr (.inl (16, [])),
  .inl (0, 6, []),
  .inl (0, 6, []),
  .inr (.inr (.inr (3, [.ref 44, .ref 6, .ref 76, .ref 78, .ref 80, .ref 88, .int 0, .int 0, .ref 96, .int 0, .int 0, .int 0, .ref 98, .ref 100, .int 0]))),
  .inl (0, 6, []),
  .inr (.inr (.inl (8, [some 102, some 108, some 114, some 120, some 126, some 132, some 138, some 144]))),
  .inr (.inr (.inr (6, [.int 0, .long 0, .int 0, .ref 82, .ref 84, .ref 86]))),
  .inl (0, 10, []),
  .inl (0, 10, []),
  .inr (.inl (16, [])),
  .inr (.inr (.inr (6, [.int 0, .long 0, .int 0, .ref 90, .ref 92, .ref 94]))),
  .inl (0, 10, []),
  .inl (0, 10, []),
  .inr (.inl (16, [])),
  .inl (0, 10, []),
  .inl (0, 0, []),
  .inl (0, 0, []),
  .inr (.inr (.inr (1, [.int 0, .int 0, .ref 104, .ref 106, .int 0, .int 0]))),
  .inr (.inl (16, [])),
  .inl (0, 6, []),
  .inr (.inr (.inr (1, [.int 0, .int 0, .ref 110, .ref 112, .int 0, .int 0]))),
  .inr (.inl (16, [])),
  .inl (0, 6, []),
  .inr (.inr (.inr (1, [.int 0, .int 0, .ref 116, .ref 118, .int 0, .int 0]))),
  .inr (.inl (16, [])),
  .inl (0, 6, []),
  .inr (.inr (.inr (1, [.int 0, .int 0, .ref 122, .ref 124, .int 0, .int 0]))),
  .inr (.inl (16, [])),
  .inl (0, 6, []),
  .inr (.inr (.inr (1, [.int 0, .int 0, .ref 128, .ref 130, .int 0, .int 0]))),
  .inr (.inl (16, [])),
  .inl (0, 6, []),
  .inr (.inr (.inr (1, [.int 0, .int 0, .ref 134, .ref 136, .int 0, .int 0]))),
  .inr (.inl (16, [])),
  .inl (0, 6, []),
  .inr (.inr (.inr (1, [.int 0, .int 0, .ref 140, .ref 142, .int 0, .int 0]))),
  .inr (.inl (16, [])),
  .inl (0, 6, []),
  .inr (.inr (.inr (1, [.int 0, .int 0, .ref 146, .ref 148, .int 0, .int 0]))),
  .inr (.inl (16, [])),
  .inl (0, 6, []),
  .inr (.inr (.inr (5, [.ref 152, .ref 6, .ref 154, .ref 156, .int 0, .int 0, .long 0, .int 0]))),
  .inl (0, 8, []),
  .inl (0, 64, []),
  .inl (0, 0, []),
  .inr (.inr (.inr (8, [.ref 160]))),
  .inl (0, 0, []),
  .inr (.inr (.inr (10, [.int 0, .ref 164, .int 0, .ref 166, .ref 168, .ref 170, .ref 172, .ref 174, .ref 176, .ref 178, .ref 180, .ref 182, .ref 184, .ref 186, .int 0, .int 0, .int 0, .int 0, .int 0, .int 0, .int 0, .int 0, .int 0, .int (-1), .ref 188, .ref 190, .ref 192, .int 0, .int 0, .ref 194, .ref 196, .ref 198, .int 0, .int 0, .int 0, .int 0, .ref 200, .ref 202, .ref 204, .int 0, .ref 206, .ref 208, .ref 210, .ref 212, .ref 214, .ref 216, .ref 218, .ref 220, .ref 222, .ref 224, .ref 226, .ref 228, .int 0, .ref 230]))),
  .inl (0, 700, []),
  .inl (0, 14, [9, 4, 10, 2, 0, 0, 0, 9, 4, 10, 2, 0, 0, 0]),
  .inl (0, 12, [0, (-32), (-32), (-32), (-32), (-64), 0, (-32), (-32), (-32), (-32), (-64)]),
  .inl (0, 12, [99, 31, 31, 31, 31, 63, 99, 31, 31, 31, 31, 63]),
  .inl (0, 12, [4, 4, 4, 4, 4, 4, 4, 4, 4, 4, 4, 4]),
  .inl (0, 12, [0, 0, 0, 0, 0, 0, 0, 0, 0, 0, 0, 0]),
  .inl (0, 16, [0, 0, 0, 0, 0, 0, 0, 0]),
  .inl (0, 96, [0, 0, 0, 0, 0, 0, 0, 0, 0, 0, 0, 0, 0, 0, 0, 0, 0, 0, 0, 0, 0, 0, 0, 0, 0, 0, 0, 0, 0, 0, 0, 0, 0, 0, 0, 0, 0, 0, 0, 0, 0, 0, 0, 0, 0, 0, 0, 0]),
  .inl (0, 20, [0, 0, 0, 0, 0, 0, 0, 0, 0, 0]),
  .inl (2, 10, [0, 0, 0, 0, 0, 0, 0, 0, 0, 0]),
  .inl (2, 6, [0, 0, 0, 0, 0, 0]),
  .inl (2, 6, [0, 0, 0, 0, 0, 0]),
  .inl (0, 6, [0, 0, 0, 0, 0, 0]),
  .inl (0, 6, [22000000, 0, 10000, 0, 0, 0]),
  .inl (0, 252, []),
  .inl (0, 6, [22000000, 0, 10000, 0, 0, 0]),
  .inr (.inl (6000, [])),
  .inl (0, 8, [(-1), (-1), (-1), (-1), (-1), (-1), (-1), (-1)]),
  .inl (0, 4096, []),
  .inl (0, 4096, []),
  .inl (0, 6, []),
  .inl (0, 6, []),
  .inl (0, 6000, []),
  .inl (0, 2, []),
  .inl (2, 2, [0, 0]),
  .inl (0, 132, []),
  .inl (0, 20, []),
  .inl (0, 22, []),
  .inl (0, 6, []),
  .inl (0, 6, []),
  .inl (0, 6, []),
  .inl (0, 2048, []),
  .inr (.inl (4096, [])),
  .inl (0, 6, []),
  .inr (.inl (1, []))]
noncomputable def zeqE : zE → zE → Bool
  | .inl (a, b, l), .inl (a2, b2, l2) => a == a2 && (b == b2 && decide (l = l2))
  | .inr (.inl (b, l)), .inr (.inl (b2, l2)) => b == b2 && decide (l = l2)
  | .inr (.inr (.inl (b, l))), .inr (.inr (.inl (b2, l2))) => b == b2 && decide (l = l2)
  | .inr (.inr (.inr (b, l))), .inr (.inr (.inr (b2, l2))) => b == b2 && decide (l = l2)
  | _, _ => false
theorem zeqE_ok {a b : zE} (h : zeqE a b = true) : a = b := by
  unfold zeqE at h
  split at h
  · simp only [Bool.and_eq_true, beq_iff_eq, decide_eq_true_eq] at h
    obtain ⟨rfl, rfl, rfl⟩ := h
    rfl
  · simp only [Bool.and_eq_true, beq_iff_eq, decide_eq_true_eq] at h
    obtain ⟨rfl, rfl⟩ := h
    rfl
  · simp only [Bool.and_eq_true, beq_iff_eq, decide_eq_true_eq] at h
    obtain ⟨rfl, rfl⟩ := h
    rfl
  · simp only [Bool.and_eq_true, beq_iff_eq, decide_eq_true_eq] at h
    obtain ⟨rfl, rfl⟩ := h
    rfl
  · cases h
noncomputable def zeqH : zH → zH → Bool
  | [], [] => true
  | a :: l, b :: l2 => zeqE a b && zeqH l l2
  | _, _ => false
theorem zeqH_ok : ∀ {a b : zH}, zeqH a b = true → a = b
  | [], [], _ => rfl
  | a :: l, b :: l2, h => by
    simp only [zeqH, Bool.and_eq_true] at h
    rw [zeqE_ok h.1, zeqH_ok h.2]
  | [], _ :: _, h => by cases h
  | _ :: _, [], h => by cases h
/-- a closed run of some instructions, compared with a state -/
noncomputable def zis (x : Option zS6) (s : zS6) : Bool := match x with
  | some t => t.1 == s.1 && (decide (t.2.1 = s.2.1) && (decide (t.2.2.1 = s.2.2.1) && (zeqH t.2.2.2.1 s.2.2.2.1 && (t.2.2.2.2.1 == s.2.2.2.2.1 && t.2.2.2.2.2 == s.2.2.2.2.2))))
  | none => false
theorem zis_ok {x : Option zS6} {s : zS6} (h : zis x s = true) : x = some s := by
  unfold zis at h
  split at h
  · next t =>
    simp only [Bool.and_eq_true, beq_iff_eq, decide_eq_true_eq] at h
    obtain ⟨h1, h2, h3, h4, h5, h6⟩ := h
    have h7 := zeqH_ok h4
    obtain ⟨a1, a2, a3, a4, a5, a6⟩ := t
    obtain ⟨b1, b2, b3, b4, b5, b6⟩ := s
    dsimp only at h1 h2 h3 h7 h5 h6
    subst h1 h2 h3 h7 h5 h6
    rfl
  · cases h
set_option maxRecDepth 1000000 in
theorem zinit : zgo zg0 zF zP 6000 288 13 (0, [(0, .ref 11)], [], [], 0, 0) = some (23, [(4, .int 0), (3, .ref 232), (2, .ref 162), (1, .ref 0), (0, .ref 11)], [], zH0, 117, 29934) := zis_ok (by decide +kernel)
