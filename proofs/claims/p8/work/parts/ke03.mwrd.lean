/-! The words of the language, as the reference tests them. -/
theorem mws_0 {tb : List Int32} {at9 pl : Nat} (h7 : at9 ≤ 700) (hpl : pl ≤ at9) (hL : ∀ q, pl ≤ q → q < at9 → isL tb q) : mWs0 tb at9 pl = 1 ↔ at9 - pl = 4 ∧ lt5 tb (pl + 0) = 12 ∧ lt5 tb (pl + 1) = 9 ∧ lt5 tb (pl + 2) = 14 ∧ lt5 tb (pl + 3) = 11 := by
  have q9 := nI_toInt (n := at9) (by omega)
  have q0 := nI_toInt (n := pl + 0) (by omega)
  have q1 := nI_toInt (n := pl + 1) (by omega)
  have q2 := nI_toInt (n := pl + 2) (by omega)
  have q3 := nI_toInt (n := pl + 3) (by omega)
  unfold mWs0
  rw [q9, q0, q1, q2, q3]
  by_cases a0 : (at9 : Int) ≤ (pl + 0 : Nat)
  · rw [if_pos a0]
    exact ⟨fun e => absurd e (by decide), fun e => by have := e.1; omega⟩
  · rw [if_neg a0]
    have l0 := lt_c (hL (pl + 0) (by omega) (by omega)) (c := 108) (n := 12) (by decide)
    by_cases c0 : tb.getD (pl + 0) 0 = (108 : Int32)
    case neg =>
      rw [if_pos c0]
      exact ⟨fun e => absurd e (by decide), fun e => absurd (l0.mpr e.2.1) c0⟩
    rw [if_neg (fun z => z c0)]
    by_cases a1 : (at9 : Int) ≤ (pl + 1 : Nat)
    · rw [if_pos a1]
      exact ⟨fun e => absurd e (by decide), fun e => by have := e.1; omega⟩
    · rw [if_neg a1]
      have l1 := lt_c (hL (pl + 1) (by omega) (by omega)) (c := 105) (n := 9) (by decide)
      by_cases c1 : tb.getD (pl + 1) 0 = (105 : Int32)
      case neg =>
        rw [if_pos c1]
        exact ⟨fun e => absurd e (by decide), fun e => absurd (l1.mpr e.2.2.1) c1⟩
      rw [if_neg (fun z => z c1)]
      by_cases a2 : (at9 : Int) ≤ (pl + 2 : Nat)
      · rw [if_pos a2]
        exact ⟨fun e => absurd e (by decide), fun e => by have := e.1; omega⟩
      · rw [if_neg a2]
        have l2 := lt_c (hL (pl + 2) (by omega) (by omega)) (c := 110) (n := 14) (by decide)
        by_cases c2 : tb.getD (pl + 2) 0 = (110 : Int32)
        case neg =>
          rw [if_pos c2]
          exact ⟨fun e => absurd e (by decide), fun e => absurd (l2.mpr e.2.2.2.1) c2⟩
        rw [if_neg (fun z => z c2)]
        by_cases a3 : (at9 : Int) ≤ (pl + 3 : Nat)
        · rw [if_pos a3]
          exact ⟨fun e => absurd e (by decide), fun e => by have := e.1; omega⟩
        · rw [if_neg a3]
          have l3 := lt_c (hL (pl + 3) (by omega) (by omega)) (c := 107) (n := 11) (by decide)
          by_cases c3 : tb.getD (pl + 3) 0 = (107 : Int32)
          case neg =>
            rw [if_pos c3]
            exact ⟨fun e => absurd e (by decide), fun e => absurd (l3.mpr e.2.2.2.2) c3⟩
          rw [if_neg (fun z => z c3)]
          by_cases z : at9 = pl + 4
          · rw [if_neg (fun y => y (by rw [z]))]
            exact ⟨fun _ => ⟨by omega, l0.mp c0, l1.mp c1, l2.mp c2, l3.mp c3⟩, fun _ => rfl⟩
          · rw [if_pos (fun y => z (by have e := congrArg Int32.toInt y; rw [nI_toInt (by omega), q9] at e; omega))]
            exact ⟨fun e => absurd e (by decide), fun e => by have := e.1; omega⟩
theorem mws_1 {tb : List Int32} {at9 pl : Nat} (h7 : at9 ≤ 700) (hpl : pl ≤ at9) (hL : ∀ q, pl ≤ q → q < at9 → isL tb q) : mWs1 tb at9 pl = 1 ↔ at9 - pl = 4 ∧ lt5 tb (pl + 0) = 8 ∧ lt5 tb (pl + 1) = 1 ∧ lt5 tb (pl + 2) = 14 ∧ lt5 tb (pl + 3) = 4 := by
  have q9 := nI_toInt (n := at9) (by omega)
  have q0 := nI_toInt (n := pl + 0) (by omega)
  have q1 := nI_toInt (n := pl + 1) (by omega)
  have q2 := nI_toInt (n := pl + 2) (by omega)
  have q3 := nI_toInt (n := pl + 3) (by omega)
  unfold mWs1
  rw [q9, q0, q1, q2, q3]
  by_cases a0 : (at9 : Int) ≤ (pl + 0 : Nat)
  · rw [if_pos a0]
    exact ⟨fun e => absurd e (by decide), fun e => by have := e.1; omega⟩
  · rw [if_neg a0]
    have l0 := lt_c (hL (pl + 0) (by omega) (by omega)) (c := 104) (n := 8) (by decide)
    by_cases c0 : tb.getD (pl + 0) 0 = (104 : Int32)
    case neg =>
      rw [if_pos c0]
      exact ⟨fun e => absurd e (by decide), fun e => absurd (l0.mpr e.2.1) c0⟩
    rw [if_neg (fun z => z c0)]
    by_cases a1 : (at9 : Int) ≤ (pl + 1 : Nat)
    · rw [if_pos a1]
      exact ⟨fun e => absurd e (by decide), fun e => by have := e.1; omega⟩
    · rw [if_neg a1]
      have l1 := lt_c (hL (pl + 1) (by omega) (by omega)) (c := 97) (n := 1) (by decide)
      by_cases c1 : tb.getD (pl + 1) 0 = (97 : Int32)
      case neg =>
        rw [if_pos c1]
        exact ⟨fun e => absurd e (by decide), fun e => absurd (l1.mpr e.2.2.1) c1⟩
      rw [if_neg (fun z => z c1)]
      by_cases a2 : (at9 : Int) ≤ (pl + 2 : Nat)
      · rw [if_pos a2]
        exact ⟨fun e => absurd e (by decide), fun e => by have := e.1; omega⟩
      · rw [if_neg a2]
        have l2 := lt_c (hL (pl + 2) (by omega) (by omega)) (c := 110) (n := 14) (by decide)
        by_cases c2 : tb.getD (pl + 2) 0 = (110 : Int32)
        case neg =>
          rw [if_pos c2]
          exact ⟨fun e => absurd e (by decide), fun e => absurd (l2.mpr e.2.2.2.1) c2⟩
        rw [if_neg (fun z => z c2)]
        by_cases a3 : (at9 : Int) ≤ (pl + 3 : Nat)
        · rw [if_pos a3]
          exact ⟨fun e => absurd e (by decide), fun e => by have := e.1; omega⟩
        · rw [if_neg a3]
          have l3 := lt_c (hL (pl + 3) (by omega) (by omega)) (c := 100) (n := 4) (by decide)
          by_cases c3 : tb.getD (pl + 3) 0 = (100 : Int32)
          case neg =>
            rw [if_pos c3]
            exact ⟨fun e => absurd e (by decide), fun e => absurd (l3.mpr e.2.2.2.2) c3⟩
          rw [if_neg (fun z => z c3)]
          by_cases z : at9 = pl + 4
          · rw [if_neg (fun y => y (by rw [z]))]
            exact ⟨fun _ => ⟨by omega, l0.mp c0, l1.mp c1, l2.mp c2, l3.mp c3⟩, fun _ => rfl⟩
          · rw [if_pos (fun y => z (by have e := congrArg Int32.toInt y; rw [nI_toInt (by omega), q9] at e; omega))]
            exact ⟨fun e => absurd e (by decide), fun e => by have := e.1; omega⟩
theorem mws_2 {tb : List Int32} {at9 pl : Nat} (h7 : at9 ≤ 700) (hpl : pl ≤ at9) (hL : ∀ q, pl ≤ q → q < at9 → isL tb q) : mWs2 tb at9 pl = 1 ↔ at9 - pl = 6 ∧ lt5 tb (pl + 0) = 8 ∧ lt5 tb (pl + 1) = 5 ∧ lt5 tb (pl + 2) = 9 ∧ lt5 tb (pl + 3) = 7 ∧ lt5 tb (pl + 4) = 8 ∧ lt5 tb (pl + 5) = 20 := by
  have q9 := nI_toInt (n := at9) (by omega)
  have q0 := nI_toInt (n := pl + 0) (by omega)
  have q1 := nI_toInt (n := pl + 1) (by omega)
  have q2 := nI_toInt (n := pl + 2) (by omega)
  have q3 := nI_toInt (n := pl + 3) (by omega)
  have q4 := nI_toInt (n := pl + 4) (by omega)
  have q5 := nI_toInt (n := pl + 5) (by omega)
  unfold mWs2
  rw [q9, q0, q1, q2, q3, q4, q5]
  by_cases a0 : (at9 : Int) ≤ (pl + 0 : Nat)
  · rw [if_pos a0]
    exact ⟨fun e => absurd e (by decide), fun e => by have := e.1; omega⟩
  · rw [if_neg a0]
    have l0 := lt_c (hL (pl + 0) (by omega) (by omega)) (c := 104) (n := 8) (by decide)
    by_cases c0 : tb.getD (pl + 0) 0 = (104 : Int32)
    case neg =>
      rw [if_pos c0]
      exact ⟨fun e => absurd e (by decide), fun e => absurd (l0.mpr e.2.1) c0⟩
    rw [if_neg (fun z => z c0)]
    by_cases a1 : (at9 : Int) ≤ (pl + 1 : Nat)
    · rw [if_pos a1]
      exact ⟨fun e => absurd e (by decide), fun e => by have := e.1; omega⟩
    · rw [if_neg a1]
      have l1 := lt_c (hL (pl + 1) (by omega) (by omega)) (c := 101) (n := 5) (by decide)
      by_cases c1 : tb.getD (pl + 1) 0 = (101 : Int32)
      case neg =>
        rw [if_pos c1]
        exact ⟨fun e => absurd e (by decide), fun e => absurd (l1.mpr e.2.2.1) c1⟩
      rw [if_neg (fun z => z c1)]
      by_cases a2 : (at9 : Int) ≤ (pl + 2 : Nat)
      · rw [if_pos a2]
        exact ⟨fun e => absurd e (by decide), fun e => by have := e.1; omega⟩
      · rw [if_neg a2]
        have l2 := lt_c (hL (pl + 2) (by omega) (by omega)) (c := 105) (n := 9) (by decide)
        by_cases c2 : tb.getD (pl + 2) 0 = (105 : Int32)
        case neg =>
          rw [if_pos c2]
          exact ⟨fun e => absurd e (by decide), fun e => absurd (l2.mpr e.2.2.2.1) c2⟩
        rw [if_neg (fun z => z c2)]
        by_cases a3 : (at9 : Int) ≤ (pl + 3 : Nat)
        · rw [if_pos a3]
          exact ⟨fun e => absurd e (by decide), fun e => by have := e.1; omega⟩
        · rw [if_neg a3]
          have l3 := lt_c (hL (pl + 3) (by omega) (by omega)) (c := 103) (n := 7) (by decide)
          by_cases c3 : tb.getD (pl + 3) 0 = (103 : Int32)
          case neg =>
            rw [if_pos c3]
            exact ⟨fun e => absurd e (by decide), fun e => absurd (l3.mpr e.2.2.2.2.1) c3⟩
          rw [if_neg (fun z => z c3)]
          by_cases a4 : (at9 : Int) ≤ (pl + 4 : Nat)
          · rw [if_pos a4]
            exact ⟨fun e => absurd e (by decide), fun e => by have := e.1; omega⟩
          · rw [if_neg a4]
            have l4 := lt_c (hL (pl + 4) (by omega) (by omega)) (c := 104) (n := 8) (by decide)
            by_cases c4 : tb.getD (pl + 4) 0 = (104 : Int32)
            case neg =>
              rw [if_pos c4]
              exact ⟨fun e => absurd e (by decide), fun e => absurd (l4.mpr e.2.2.2.2.2.1) c4⟩
            rw [if_neg (fun z => z c4)]
            by_cases a5 : (at9 : Int) ≤ (pl + 5 : Nat)
            · rw [if_pos a5]
              exact ⟨fun e => absurd e (by decide), fun e => by have := e.1; omega⟩
            · rw [if_neg a5]
              have l5 := lt_c (hL (pl + 5) (by omega) (by omega)) (c := 116) (n := 20) (by decide)
              by_cases c5 : tb.getD (pl + 5) 0 = (116 : Int32)
              case neg =>
                rw [if_pos c5]
                exact ⟨fun e => absurd e (by decide), fun e => absurd (l5.mpr e.2.2.2.2.2.2) c5⟩
              rw [if_neg (fun z => z c5)]
              by_cases z : at9 = pl + 6
              · rw [if_neg (fun y => y (by rw [z]))]
                exact ⟨fun _ => ⟨by omega, l0.mp c0, l1.mp c1, l2.mp c2, l3.mp c3, l4.mp c4, l5.mp c5⟩, fun _ => rfl⟩
              · rw [if_pos (fun y => z (by have e := congrArg Int32.toInt y; rw [nI_toInt (by omega), q9] at e; omega))]
                exact ⟨fun e => absurd e (by decide), fun e => by have := e.1; omega⟩
theorem mws_3 {tb : List Int32} {at9 pl : Nat} (h7 : at9 ≤ 700) (hpl : pl ≤ at9) (hL : ∀ q, pl ≤ q → q < at9 → isL tb q) : mWs3 tb at9 pl = 1 ↔ at9 - pl = 5 ∧ lt5 tb (pl + 0) = 12 ∧ lt5 tb (pl + 1) = 9 ∧ lt5 tb (pl + 2) = 13 ∧ lt5 tb (pl + 3) = 9 ∧ lt5 tb (pl + 4) = 20 := by
  have q9 := nI_toInt (n := at9) (by omega)
  have q0 := nI_toInt (n := pl + 0) (by omega)
  have q1 := nI_toInt (n := pl + 1) (by omega)
  have q2 := nI_toInt (n := pl + 2) (by omega)
  have q3 := nI_toInt (n := pl + 3) (by omega)
  have q4 := nI_toInt (n := pl + 4) (by omega)
  unfold mWs3
  rw [q9, q0, q1, q2, q3, q4]
  by_cases a0 : (at9 : Int) ≤ (pl + 0 : Nat)
  · rw [if_pos a0]
    exact ⟨fun e => absurd e (by decide), fun e => by have := e.1; omega⟩
  · rw [if_neg a0]
    have l0 := lt_c (hL (pl + 0) (by omega) (by omega)) (c := 108) (n := 12) (by decide)
    by_cases c0 : tb.getD (pl + 0) 0 = (108 : Int32)
    case neg =>
      rw [if_pos c0]
      exact ⟨fun e => absurd e (by decide), fun e => absurd (l0.mpr e.2.1) c0⟩
    rw [if_neg (fun z => z c0)]
    by_cases a1 : (at9 : Int) ≤ (pl + 1 : Nat)
    · rw [if_pos a1]
      exact ⟨fun e => absurd e (by decide), fun e => by have := e.1; omega⟩
    · rw [if_neg a1]
      have l1 := lt_c (hL (pl + 1) (by omega) (by omega)) (c := 105) (n := 9) (by decide)
      by_cases c1 : tb.getD (pl + 1) 0 = (105 : Int32)
      case neg =>
        rw [if_pos c1]
        exact ⟨fun e => absurd e (by decide), fun e => absurd (l1.mpr e.2.2.1) c1⟩
      rw [if_neg (fun z => z c1)]
      by_cases a2 : (at9 : Int) ≤ (pl + 2 : Nat)
      · rw [if_pos a2]
        exact ⟨fun e => absurd e (by decide), fun e => by have := e.1; omega⟩
      · rw [if_neg a2]
        have l2 := lt_c (hL (pl + 2) (by omega) (by omega)) (c := 109) (n := 13) (by decide)
        by_cases c2 : tb.getD (pl + 2) 0 = (109 : Int32)
        case neg =>
          rw [if_pos c2]
          exact ⟨fun e => absurd e (by decide), fun e => absurd (l2.mpr e.2.2.2.1) c2⟩
        rw [if_neg (fun z => z c2)]
        by_cases a3 : (at9 : Int) ≤ (pl + 3 : Nat)
        · rw [if_pos a3]
          exact ⟨fun e => absurd e (by decide), fun e => by have := e.1; omega⟩
        · rw [if_neg a3]
          have l3 := lt_c (hL (pl + 3) (by omega) (by omega)) (c := 105) (n := 9) (by decide)
          by_cases c3 : tb.getD (pl + 3) 0 = (105 : Int32)
          case neg =>
            rw [if_pos c3]
            exact ⟨fun e => absurd e (by decide), fun e => absurd (l3.mpr e.2.2.2.2.1) c3⟩
          rw [if_neg (fun z => z c3)]
          by_cases a4 : (at9 : Int) ≤ (pl + 4 : Nat)
          · rw [if_pos a4]
            exact ⟨fun e => absurd e (by decide), fun e => by have := e.1; omega⟩
          · rw [if_neg a4]
            have l4 := lt_c (hL (pl + 4) (by omega) (by omega)) (c := 116) (n := 20) (by decide)
            by_cases c4 : tb.getD (pl + 4) 0 = (116 : Int32)
            case neg =>
              rw [if_pos c4]
              exact ⟨fun e => absurd e (by decide), fun e => absurd (l4.mpr e.2.2.2.2.2) c4⟩
            rw [if_neg (fun z => z c4)]
            by_cases z : at9 = pl + 5
            · rw [if_neg (fun y => y (by rw [z]))]
              exact ⟨fun _ => ⟨by omega, l0.mp c0, l1.mp c1, l2.mp c2, l3.mp c3, l4.mp c4⟩, fun _ => rfl⟩
            · rw [if_pos (fun y => z (by have e := congrArg Int32.toInt y; rw [nI_toInt (by omega), q9] at e; omega))]
              exact ⟨fun e => absurd e (by decide), fun e => by have := e.1; omega⟩
theorem mws_4 {tb : List Int32} {at9 pl : Nat} (h7 : at9 ≤ 700) (hpl : pl ≤ at9) (hL : ∀ q, pl ≤ q → q < at9 → isL tb q) : mWs4 tb at9 pl = 1 ↔ at9 - pl = 5 ∧ lt5 tb (pl + 0) = 19 ∧ lt5 tb (pl + 1) = 16 ∧ lt5 tb (pl + 2) = 5 ∧ lt5 tb (pl + 3) = 5 ∧ lt5 tb (pl + 4) = 4 := by
  have q9 := nI_toInt (n := at9) (by omega)
  have q0 := nI_toInt (n := pl + 0) (by omega)
  have q1 := nI_toInt (n := pl + 1) (by omega)
  have q2 := nI_toInt (n := pl + 2) (by omega)
  have q3 := nI_toInt (n := pl + 3) (by omega)
  have q4 := nI_toInt (n := pl + 4) (by omega)
  unfold mWs4
  rw [q9, q0, q1, q2, q3, q4]
  by_cases a0 : (at9 : Int) ≤ (pl + 0 : Nat)
  · rw [if_pos a0]
    exact ⟨fun e => absurd e (by decide), fun e => by have := e.1; omega⟩
  · rw [if_neg a0]
    have l0 := lt_c (hL (pl + 0) (by omega) (by omega)) (c := 115) (n := 19) (by decide)
    by_cases c0 : tb.getD (pl + 0) 0 = (115 : Int32)
    case neg =>
      rw [if_pos c0]
      exact ⟨fun e => absurd e (by decide), fun e => absurd (l0.mpr e.2.1) c0⟩
    rw [if_neg (fun z => z c0)]
    by_cases a1 : (at9 : Int) ≤ (pl + 1 : Nat)
    · rw [if_pos a1]
      exact ⟨fun e => absurd e (by decide), fun e => by have := e.1; omega⟩
    · rw [if_neg a1]
      have l1 := lt_c (hL (pl + 1) (by omega) (by omega)) (c := 112) (n := 16) (by decide)
      by_cases c1 : tb.getD (pl + 1) 0 = (112 : Int32)
      case neg =>
        rw [if_pos c1]
        exact ⟨fun e => absurd e (by decide), fun e => absurd (l1.mpr e.2.2.1) c1⟩
      rw [if_neg (fun z => z c1)]
      by_cases a2 : (at9 : Int) ≤ (pl + 2 : Nat)
      · rw [if_pos a2]
        exact ⟨fun e => absurd e (by decide), fun e => by have := e.1; omega⟩
      · rw [if_neg a2]
        have l2 := lt_c (hL (pl + 2) (by omega) (by omega)) (c := 101) (n := 5) (by decide)
        by_cases c2 : tb.getD (pl + 2) 0 = (101 : Int32)
        case neg =>
          rw [if_pos c2]
          exact ⟨fun e => absurd e (by decide), fun e => absurd (l2.mpr e.2.2.2.1) c2⟩
        rw [if_neg (fun z => z c2)]
        by_cases a3 : (at9 : Int) ≤ (pl + 3 : Nat)
        · rw [if_pos a3]
          exact ⟨fun e => absurd e (by decide), fun e => by have := e.1; omega⟩
        · rw [if_neg a3]
          have l3 := lt_c (hL (pl + 3) (by omega) (by omega)) (c := 101) (n := 5) (by decide)
          by_cases c3 : tb.getD (pl + 3) 0 = (101 : Int32)
          case neg =>
            rw [if_pos c3]
            exact ⟨fun e => absurd e (by decide), fun e => absurd (l3.mpr e.2.2.2.2.1) c3⟩
          rw [if_neg (fun z => z c3)]
          by_cases a4 : (at9 : Int) ≤ (pl + 4 : Nat)
          · rw [if_pos a4]
            exact ⟨fun e => absurd e (by decide), fun e => by have := e.1; omega⟩
          · rw [if_neg a4]
            have l4 := lt_c (hL (pl + 4) (by omega) (by omega)) (c := 100) (n := 4) (by decide)
            by_cases c4 : tb.getD (pl + 4) 0 = (100 : Int32)
            case neg =>
              rw [if_pos c4]
              exact ⟨fun e => absurd e (by decide), fun e => absurd (l4.mpr e.2.2.2.2.2) c4⟩
            rw [if_neg (fun z => z c4)]
            by_cases z : at9 = pl + 5
            · rw [if_neg (fun y => y (by rw [z]))]
              exact ⟨fun _ => ⟨by omega, l0.mp c0, l1.mp c1, l2.mp c2, l3.mp c3, l4.mp c4⟩, fun _ => rfl⟩
            · rw [if_pos (fun y => z (by have e := congrArg Int32.toInt y; rw [nI_toInt (by omega), q9] at e; omega))]
              exact ⟨fun e => absurd e (by decide), fun e => by have := e.1; omega⟩
theorem mws_5 {tb : List Int32} {at9 pl : Nat} (h7 : at9 ≤ 700) (hpl : pl ≤ at9) (hL : ∀ q, pl ≤ q → q < at9 → isL tb q) : mWs5 tb at9 pl = 1 ↔ at9 - pl = 5 ∧ lt5 tb (pl + 0) = 2 ∧ lt5 tb (pl + 1) = 12 ∧ lt5 tb (pl + 2) = 5 ∧ lt5 tb (pl + 3) = 14 ∧ lt5 tb (pl + 4) = 4 := by
  have q9 := nI_toInt (n := at9) (by omega)
  have q0 := nI_toInt (n := pl + 0) (by omega)
  have q1 := nI_toInt (n := pl + 1) (by omega)
  have q2 := nI_toInt (n := pl + 2) (by omega)
  have q3 := nI_toInt (n := pl + 3) (by omega)
  have q4 := nI_toInt (n := pl + 4) (by omega)
  unfold mWs5
  rw [q9, q0, q1, q2, q3, q4]
  by_cases a0 : (at9 : Int) ≤ (pl + 0 : Nat)
  · rw [if_pos a0]
    exact ⟨fun e => absurd e (by decide), fun e => by have := e.1; omega⟩
  · rw [if_neg a0]
    have l0 := lt_c (hL (pl + 0) (by omega) (by omega)) (c := 98) (n := 2) (by decide)
    by_cases c0 : tb.getD (pl + 0) 0 = (98 : Int32)
    case neg =>
      rw [if_pos c0]
      exact ⟨fun e => absurd e (by decide), fun e => absurd (l0.mpr e.2.1) c0⟩
    rw [if_neg (fun z => z c0)]
    by_cases a1 : (at9 : Int) ≤ (pl + 1 : Nat)
    · rw [if_pos a1]
      exact ⟨fun e => absurd e (by decide), fun e => by have := e.1; omega⟩
    · rw [if_neg a1]
      have l1 := lt_c (hL (pl + 1) (by omega) (by omega)) (c := 108) (n := 12) (by decide)
      by_cases c1 : tb.getD (pl + 1) 0 = (108 : Int32)
      case neg =>
        rw [if_pos c1]
        exact ⟨fun e => absurd e (by decide), fun e => absurd (l1.mpr e.2.2.1) c1⟩
      rw [if_neg (fun z => z c1)]
      by_cases a2 : (at9 : Int) ≤ (pl + 2 : Nat)
      · rw [if_pos a2]
        exact ⟨fun e => absurd e (by decide), fun e => by have := e.1; omega⟩
      · rw [if_neg a2]
        have l2 := lt_c (hL (pl + 2) (by omega) (by omega)) (c := 101) (n := 5) (by decide)
        by_cases c2 : tb.getD (pl + 2) 0 = (101 : Int32)
        case neg =>
          rw [if_pos c2]
          exact ⟨fun e => absurd e (by decide), fun e => absurd (l2.mpr e.2.2.2.1) c2⟩
        rw [if_neg (fun z => z c2)]
        by_cases a3 : (at9 : Int) ≤ (pl + 3 : Nat)
        · rw [if_pos a3]
          exact ⟨fun e => absurd e (by decide), fun e => by have := e.1; omega⟩
        · rw [if_neg a3]
          have l3 := lt_c (hL (pl + 3) (by omega) (by omega)) (c := 110) (n := 14) (by decide)
          by_cases c3 : tb.getD (pl + 3) 0 = (110 : Int32)
          case neg =>
            rw [if_pos c3]
            exact ⟨fun e => absurd e (by decide), fun e => absurd (l3.mpr e.2.2.2.2.1) c3⟩
          rw [if_neg (fun z => z c3)]
          by_cases a4 : (at9 : Int) ≤ (pl + 4 : Nat)
          · rw [if_pos a4]
            exact ⟨fun e => absurd e (by decide), fun e => by have := e.1; omega⟩
          · rw [if_neg a4]
            have l4 := lt_c (hL (pl + 4) (by omega) (by omega)) (c := 100) (n := 4) (by decide)
            by_cases c4 : tb.getD (pl + 4) 0 = (100 : Int32)
            case neg =>
              rw [if_pos c4]
              exact ⟨fun e => absurd e (by decide), fun e => absurd (l4.mpr e.2.2.2.2.2) c4⟩
            rw [if_neg (fun z => z c4)]
            by_cases z : at9 = pl + 5
            · rw [if_neg (fun y => y (by rw [z]))]
              exact ⟨fun _ => ⟨by omega, l0.mp c0, l1.mp c1, l2.mp c2, l3.mp c3, l4.mp c4⟩, fun _ => rfl⟩
            · rw [if_pos (fun y => z (by have e := congrArg Int32.toInt y; rw [nI_toInt (by omega), q9] at e; omega))]
              exact ⟨fun e => absurd e (by decide), fun e => by have := e.1; omega⟩
theorem mws_6 {tb : List Int32} {at9 pl : Nat} (h7 : at9 ≤ 700) (hpl : pl ≤ at9) (hL : ∀ q, pl ≤ q → q < at9 → isL tb q) : mWs6 tb at9 pl = 1 ↔ at9 - pl = 4 ∧ lt5 tb (pl + 0) = 19 ∧ lt5 tb (pl + 1) = 5 ∧ lt5 tb (pl + 2) = 5 ∧ lt5 tb (pl + 3) = 4 := by
  have q9 := nI_toInt (n := at9) (by omega)
  have q0 := nI_toInt (n := pl + 0) (by omega)
  have q1 := nI_toInt (n := pl + 1) (by omega)
  have q2 := nI_toInt (n := pl + 2) (by omega)
  have q3 := nI_toInt (n := pl + 3) (by omega)
  unfold mWs6
  rw [q9, q0, q1, q2, q3]
  by_cases a0 : (at9 : Int) ≤ (pl + 0 : Nat)
  · rw [if_pos a0]
    exact ⟨fun e => absurd e (by decide), fun e => by have := e.1; omega⟩
  · rw [if_neg a0]
    have l0 := lt_c (hL (pl + 0) (by omega) (by omega)) (c := 115) (n := 19) (by decide)
    by_cases c0 : tb.getD (pl + 0) 0 = (115 : Int32)
    case neg =>
      rw [if_pos c0]
      exact ⟨fun e => absurd e (by decide), fun e => absurd (l0.mpr e.2.1) c0⟩
    rw [if_neg (fun z => z c0)]
    by_cases a1 : (at9 : Int) ≤ (pl + 1 : Nat)
    · rw [if_pos a1]
      exact ⟨fun e => absurd e (by decide), fun e => by have := e.1; omega⟩
    · rw [if_neg a1]
      have l1 := lt_c (hL (pl + 1) (by omega) (by omega)) (c := 101) (n := 5) (by decide)
      by_cases c1 : tb.getD (pl + 1) 0 = (101 : Int32)
      case neg =>
        rw [if_pos c1]
        exact ⟨fun e => absurd e (by decide), fun e => absurd (l1.mpr e.2.2.1) c1⟩
      rw [if_neg (fun z => z c1)]
      by_cases a2 : (at9 : Int) ≤ (pl + 2 : Nat)
      · rw [if_pos a2]
        exact ⟨fun e => absurd e (by decide), fun e => by have := e.1; omega⟩
      · rw [if_neg a2]
        have l2 := lt_c (hL (pl + 2) (by omega) (by omega)) (c := 101) (n := 5) (by decide)
        by_cases c2 : tb.getD (pl + 2) 0 = (101 : Int32)
        case neg =>
          rw [if_pos c2]
          exact ⟨fun e => absurd e (by decide), fun e => absurd (l2.mpr e.2.2.2.1) c2⟩
        rw [if_neg (fun z => z c2)]
        by_cases a3 : (at9 : Int) ≤ (pl + 3 : Nat)
        · rw [if_pos a3]
          exact ⟨fun e => absurd e (by decide), fun e => by have := e.1; omega⟩
        · rw [if_neg a3]
          have l3 := lt_c (hL (pl + 3) (by omega) (by omega)) (c := 100) (n := 4) (by decide)
          by_cases c3 : tb.getD (pl + 3) 0 = (100 : Int32)
          case neg =>
            rw [if_pos c3]
            exact ⟨fun e => absurd e (by decide), fun e => absurd (l3.mpr e.2.2.2.2) c3⟩
          rw [if_neg (fun z => z c3)]
          by_cases z : at9 = pl + 4
          · rw [if_neg (fun y => y (by rw [z]))]
            exact ⟨fun _ => ⟨by omega, l0.mp c0, l1.mp c1, l2.mp c2, l3.mp c3⟩, fun _ => rfl⟩
          · rw [if_pos (fun y => z (by have e := congrArg Int32.toInt y; rw [nI_toInt (by omega), q9] at e; omega))]
            exact ⟨fun e => absurd e (by decide), fun e => by have := e.1; omega⟩
theorem mws_7 {tb : List Int32} {at9 pl : Nat} (h7 : at9 ≤ 700) (hpl : pl ≤ at9) (hL : ∀ q, pl ≤ q → q < at9 → isL tb q) : mWs7 tb at9 pl = 1 ↔ at9 - pl = 4 ∧ lt5 tb (pl + 0) = 18 ∧ lt5 tb (pl + 1) = 5 ∧ lt5 tb (pl + 2) = 19 ∧ lt5 tb (pl + 3) = 20 := by
  have q9 := nI_toInt (n := at9) (by omega)
  have q0 := nI_toInt (n := pl + 0) (by omega)
  have q1 := nI_toInt (n := pl + 1) (by omega)
  have q2 := nI_toInt (n := pl + 2) (by omega)
  have q3 := nI_toInt (n := pl + 3) (by omega)
  unfold mWs7
  rw [q9, q0, q1, q2, q3]
  by_cases a0 : (at9 : Int) ≤ (pl + 0 : Nat)
  · rw [if_pos a0]
    exact ⟨fun e => absurd e (by decide), fun e => by have := e.1; omega⟩
  · rw [if_neg a0]
    have l0 := lt_c (hL (pl + 0) (by omega) (by omega)) (c := 114) (n := 18) (by decide)
    by_cases c0 : tb.getD (pl + 0) 0 = (114 : Int32)
    case neg =>
      rw [if_pos c0]
      exact ⟨fun e => absurd e (by decide), fun e => absurd (l0.mpr e.2.1) c0⟩
    rw [if_neg (fun z => z c0)]
    by_cases a1 : (at9 : Int) ≤ (pl + 1 : Nat)
    · rw [if_pos a1]
      exact ⟨fun e => absurd e (by decide), fun e => by have := e.1; omega⟩
    · rw [if_neg a1]
      have l1 := lt_c (hL (pl + 1) (by omega) (by omega)) (c := 101) (n := 5) (by decide)
      by_cases c1 : tb.getD (pl + 1) 0 = (101 : Int32)
      case neg =>
        rw [if_pos c1]
        exact ⟨fun e => absurd e (by decide), fun e => absurd (l1.mpr e.2.2.1) c1⟩
      rw [if_neg (fun z => z c1)]
      by_cases a2 : (at9 : Int) ≤ (pl + 2 : Nat)
      · rw [if_pos a2]
        exact ⟨fun e => absurd e (by decide), fun e => by have := e.1; omega⟩
      · rw [if_neg a2]
        have l2 := lt_c (hL (pl + 2) (by omega) (by omega)) (c := 115) (n := 19) (by decide)
        by_cases c2 : tb.getD (pl + 2) 0 = (115 : Int32)
        case neg =>
          rw [if_pos c2]
          exact ⟨fun e => absurd e (by decide), fun e => absurd (l2.mpr e.2.2.2.1) c2⟩
        rw [if_neg (fun z => z c2)]
        by_cases a3 : (at9 : Int) ≤ (pl + 3 : Nat)
        · rw [if_pos a3]
          exact ⟨fun e => absurd e (by decide), fun e => by have := e.1; omega⟩
        · rw [if_neg a3]
          have l3 := lt_c (hL (pl + 3) (by omega) (by omega)) (c := 116) (n := 20) (by decide)
          by_cases c3 : tb.getD (pl + 3) 0 = (116 : Int32)
          case neg =>
            rw [if_pos c3]
            exact ⟨fun e => absurd e (by decide), fun e => absurd (l3.mpr e.2.2.2.2) c3⟩
          rw [if_neg (fun z => z c3)]
          by_cases z : at9 = pl + 4
          · rw [if_neg (fun y => y (by rw [z]))]
            exact ⟨fun _ => ⟨by omega, l0.mp c0, l1.mp c1, l2.mp c2, l3.mp c3⟩, fun _ => rfl⟩
          · rw [if_pos (fun y => z (by have e := congrArg Int32.toInt y; rw [nI_toInt (by omega), q9] at e; omega))]
            exact ⟨fun e => absurd e (by decide), fun e => by have := e.1; omega⟩
theorem mws_8 {tb : List Int32} {at9 pl : Nat} (h7 : at9 ≤ 700) (hpl : pl ≤ at9) (hL : ∀ q, pl ≤ q → q < at9 → isL tb q) : mWs8 tb at9 pl = 1 ↔ at9 - pl = 4 ∧ lt5 tb (pl + 0) = 19 ∧ lt5 tb (pl + 1) = 16 ∧ lt5 tb (pl + 2) = 15 ∧ lt5 tb (pl + 3) = 20 := by
  have q9 := nI_toInt (n := at9) (by omega)
  have q0 := nI_toInt (n := pl + 0) (by omega)
  have q1 := nI_toInt (n := pl + 1) (by omega)
  have q2 := nI_toInt (n := pl + 2) (by omega)
  have q3 := nI_toInt (n := pl + 3) (by omega)
  unfold mWs8
  rw [q9, q0, q1, q2, q3]
  by_cases a0 : (at9 : Int) ≤ (pl + 0 : Nat)
  · rw [if_pos a0]
    exact ⟨fun e => absurd e (by decide), fun e => by have := e.1; omega⟩
  · rw [if_neg a0]
    have l0 := lt_c (hL (pl + 0) (by omega) (by omega)) (c := 115) (n := 19) (by decide)
    by_cases c0 : tb.getD (pl + 0) 0 = (115 : Int32)
    case neg =>
      rw [if_pos c0]
      exact ⟨fun e => absurd e (by decide), fun e => absurd (l0.mpr e.2.1) c0⟩
    rw [if_neg (fun z => z c0)]
    by_cases a1 : (at9 : Int) ≤ (pl + 1 : Nat)
    · rw [if_pos a1]
      exact ⟨fun e => absurd e (by decide), fun e => by have := e.1; omega⟩
    · rw [if_neg a1]
      have l1 := lt_c (hL (pl + 1) (by omega) (by omega)) (c := 112) (n := 16) (by decide)
      by_cases c1 : tb.getD (pl + 1) 0 = (112 : Int32)
      case neg =>
        rw [if_pos c1]
        exact ⟨fun e => absurd e (by decide), fun e => absurd (l1.mpr e.2.2.1) c1⟩
      rw [if_neg (fun z => z c1)]
      by_cases a2 : (at9 : Int) ≤ (pl + 2 : Nat)
      · rw [if_pos a2]
        exact ⟨fun e => absurd e (by decide), fun e => by have := e.1; omega⟩
      · rw [if_neg a2]
        have l2 := lt_c (hL (pl + 2) (by omega) (by omega)) (c := 111) (n := 15) (by decide)
        by_cases c2 : tb.getD (pl + 2) 0 = (111 : Int32)
        case neg =>
          rw [if_pos c2]
          exact ⟨fun e => absurd e (by decide), fun e => absurd (l2.mpr e.2.2.2.1) c2⟩
        rw [if_neg (fun z => z c2)]
        by_cases a3 : (at9 : Int) ≤ (pl + 3 : Nat)
        · rw [if_pos a3]
          exact ⟨fun e => absurd e (by decide), fun e => by have := e.1; omega⟩
        · rw [if_neg a3]
          have l3 := lt_c (hL (pl + 3) (by omega) (by omega)) (c := 116) (n := 20) (by decide)
          by_cases c3 : tb.getD (pl + 3) 0 = (116 : Int32)
          case neg =>
            rw [if_pos c3]
            exact ⟨fun e => absurd e (by decide), fun e => absurd (l3.mpr e.2.2.2.2) c3⟩
          rw [if_neg (fun z => z c3)]
          by_cases z : at9 = pl + 4
          · rw [if_neg (fun y => y (by rw [z]))]
            exact ⟨fun _ => ⟨by omega, l0.mp c0, l1.mp c1, l2.mp c2, l3.mp c3⟩, fun _ => rfl⟩
          · rw [if_pos (fun y => z (by have e := congrArg Int32.toInt y; rw [nI_toInt (by omega), q9] at e; omega))]
            exact ⟨fun e => absurd e (by decide), fun e => by have := e.1; omega⟩
theorem mws_9 {tb : List Int32} {at9 pl : Nat} (h7 : at9 ≤ 700) (hpl : pl ≤ at9) (hL : ∀ q, pl ≤ q → q < at9 → isL tb q) : mWs9 tb at9 pl = 1 ↔ at9 - pl = 2 ∧ lt5 tb (pl + 0) = 7 ∧ lt5 tb (pl + 1) = 15 := by
  have q9 := nI_toInt (n := at9) (by omega)
  have q0 := nI_toInt (n := pl + 0) (by omega)
  have q1 := nI_toInt (n := pl + 1) (by omega)
  unfold mWs9
  rw [q9, q0, q1]
  by_cases a0 : (at9 : Int) ≤ (pl + 0 : Nat)
  · rw [if_pos a0]
    exact ⟨fun e => absurd e (by decide), fun e => by have := e.1; omega⟩
  · rw [if_neg a0]
    have l0 := lt_c (hL (pl + 0) (by omega) (by omega)) (c := 103) (n := 7) (by decide)
    by_cases c0 : tb.getD (pl + 0) 0 = (103 : Int32)
    case neg =>
      rw [if_pos c0]
      exact ⟨fun e => absurd e (by decide), fun e => absurd (l0.mpr e.2.1) c0⟩
    rw [if_neg (fun z => z c0)]
    by_cases a1 : (at9 : Int) ≤ (pl + 1 : Nat)
    · rw [if_pos a1]
      exact ⟨fun e => absurd e (by decide), fun e => by have := e.1; omega⟩
    · rw [if_neg a1]
      have l1 := lt_c (hL (pl + 1) (by omega) (by omega)) (c := 111) (n := 15) (by decide)
      by_cases c1 : tb.getD (pl + 1) 0 = (111 : Int32)
      case neg =>
        rw [if_pos c1]
        exact ⟨fun e => absurd e (by decide), fun e => absurd (l1.mpr e.2.2) c1⟩
      rw [if_neg (fun z => z c1)]
      by_cases z : at9 = pl + 2
      · rw [if_neg (fun y => y (by rw [z]))]
        exact ⟨fun _ => ⟨by omega, l0.mp c0, l1.mp c1⟩, fun _ => rfl⟩
      · rw [if_pos (fun y => z (by have e := congrArg Int32.toInt y; rw [nI_toInt (by omega), q9] at e; omega))]
        exact ⟨fun e => absurd e (by decide), fun e => by have := e.1; omega⟩
/-- which word of the language, by its number -/
noncomputable def wIx (v : Nat) : Int32 := if v = 412560384 then 0 else if v = 269946880 then 1 else if v = 273980692 then 2 else if v = 412526208 then 3 else if v = 654480512 then 4 else if v = 79870080 then 5 else if v = 642945024 then 6 else if v = 609865728 then 7 else if v = 654823424 then 8 else if v = 250609664 then 9 else -1
theorem mwrd_e {tb : List Int32} {at9 pl : Nat} (h7 : at9 ≤ 700) (hpl : pl ≤ at9) (hL : ∀ q, pl ≤ q → q < at9 → isL tb q) : mWrd tb at9 pl = if at9 - pl ≤ 6 then wIx (pwC tb pl (at9 - pl)) else -1 := by
  unfold mWrd wIx
  by_cases h : at9 - pl ≤ 6
  · rw [if_pos h]
    have hl : ∀ k, k < at9 - pl → isL tb (pl + k) := fun k hk => hL _ (by omega) (by omega)
    simp only [mws_0 h7 hpl hL, mws_1 h7 hpl hL, mws_2 h7 hpl hL, mws_3 h7 hpl hL, mws_4 h7 hpl hL, mws_5 h7 hpl hL, mws_6 h7 hpl hL, mws_7 h7 hpl hL, mws_8 h7 hpl hL, mws_9 h7 hpl hL, wdn_0 h hl, wdn_1 h hl, wdn_2 h hl, wdn_3 h hl, wdn_4 h hl, wdn_5 h hl, wdn_6 h hl, wdn_7 h hl, wdn_8 h hl, wdn_9 h hl]
  · rw [if_neg h]
    have f0 : ¬ mWs0 tb at9 pl = 1 := fun e => by have := ((mws_0 h7 hpl hL).mp e).1; omega
    have f1 : ¬ mWs1 tb at9 pl = 1 := fun e => by have := ((mws_1 h7 hpl hL).mp e).1; omega
    have f2 : ¬ mWs2 tb at9 pl = 1 := fun e => by have := ((mws_2 h7 hpl hL).mp e).1; omega
    have f3 : ¬ mWs3 tb at9 pl = 1 := fun e => by have := ((mws_3 h7 hpl hL).mp e).1; omega
    have f4 : ¬ mWs4 tb at9 pl = 1 := fun e => by have := ((mws_4 h7 hpl hL).mp e).1; omega
    have f5 : ¬ mWs5 tb at9 pl = 1 := fun e => by have := ((mws_5 h7 hpl hL).mp e).1; omega
    have f6 : ¬ mWs6 tb at9 pl = 1 := fun e => by have := ((mws_6 h7 hpl hL).mp e).1; omega
    have f7 : ¬ mWs7 tb at9 pl = 1 := fun e => by have := ((mws_7 h7 hpl hL).mp e).1; omega
    have f8 : ¬ mWs8 tb at9 pl = 1 := fun e => by have := ((mws_8 h7 hpl hL).mp e).1; omega
    have f9 : ¬ mWs9 tb at9 pl = 1 := fun e => by have := ((mws_9 h7 hpl hL).mp e).1; omega
    rw [if_neg f0, if_neg f1, if_neg f2, if_neg f3, if_neg f4, if_neg f5, if_neg f6, if_neg f7, if_neg f8, if_neg f9]
