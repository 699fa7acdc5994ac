/-! The reference's calls that solve, and the route's, at the state. -/
theorem mUnp_w {v : Int64} (h : mPkR v) (k : Nat) (a : List Int32) : mNw (mUnp v k a) k := by
  intro j hj
  have b0 := mJof_b h 0
  have b1 := mJof_b h 1
  have b2 := mJof_b h 2
  have b3 := mJof_b h 3
  have b4 := mJof_b h 4
  have b5 := mJof_b h 5
  unfold mUnp
  rw [zset_get, zset_get, zset_get, zset_get, zset_get, zset_get]
  generalize mJof v 0 = x0 at *
  generalize mJof v 1 = x1 at *
  generalize mJof v 2 = x2 at *
  generalize mJof v 3 = x3 at *
  generalize mJof v 4 = x4 at *
  generalize mJof v 5 = x5 at *
  by_cases e5 : k + j = k + 5
  · rw [if_pos e5]; omega
  · rw [if_neg e5]
    by_cases e4 : k + j = k + 4
    · rw [if_pos e4]; omega
    · rw [if_neg e4]
      by_cases e3 : k + j = k + 3
      · rw [if_pos e3]; omega
      · rw [if_neg e3]
        by_cases e2 : k + j = k + 2
        · rw [if_pos e2]; omega
        · rw [if_neg e2]
          by_cases e1 : k + j = k + 1
          · rw [if_pos e1]; omega
          · rw [if_neg e1]
            by_cases e0 : k + j = k + 0
            · rw [if_pos e0]; omega
            · exact absurd hj (by omega)
theorem add_48 {n : Nat} (h : n ≤ 600) : ((4800 : Int32) + nI n).toNatClampNeg = 4800 + n := by
  show (((4800 : Int32) + nI n).toInt).toNat = 4800 + n
  rw [Int32.toInt_add, nI_toInt (by omega), show (4800 : Int32).toInt = 4800 from rfl, Int.bmod_eq_of_le (by omega) (by omega)]
  omega
theorem mTk_v {F : Nat → Int64} {fo : List Int64} {s : mS} (hP : mPkS s) (hf : wFe F 4800 s fo) {k : Int32} (hk : 0 ≤ k.toInt ∧ k.toInt < (mNum s).toInt) (hb : (mNum s).toInt ≤ 600) : mPkR (fo.getD ((4800 : Int32) + k).toNatClampNeg 0) := by
  obtain ⟨n, e9, hn⟩ : ∃ n : Nat, k = nI n ∧ n ≤ 600 := ⟨k.toNatClampNeg, nI_cl hk.1, by show k.toInt.toNat ≤ 600; omega⟩
  subst e9
  rw [add_48 hn]
  rw [nI_toInt (by omega)] at hk
  rcases s with _ | l
  · have e : (mNum none).toInt = -3 := rfl
    omega
  · obtain ⟨⟨h6, hz⟩, _⟩ := hf
    have e : (mNum (some l)).toInt = (l.length : Int) := nI_toInt (by omega)
    have hl : n < l.length := by omega
    rw [hz n l[n] (List.getElem?_eq_getElem hl)]
    exact hP l rfl _ (List.getElem_mem hl)
set_option maxHeartbeats 4000000 in
theorem rCall_12 {h : zH} {R : vRl} (k : MI h R) : wq 229 0 [(0, .ref 162)] [] h 0 0 (rOk h R) := by
  refine MI_el k ?_
  intro n0 n14 n15 n16 n18 n19 n20 n21 n22 n23 n28 n32 n33 n34 n35 n39 n52 t pl u wn tb kn lo hi sv rt sn sq wy it hl hs nw am kp th fo sm pa pb on h1 tg ri hr pq ch co t1 sg tk tl pz dq ht c162 c164 c166 c168 c170 c172 c174 c176 c178 c180 c182 c184 c186 c188 c190 c192 c194 c196 c198 c200 c202 c204 c206 c208 c210 c212 c214 c216 c218 c220 c222 c224 c226 c228 c230 hu h01 hSA hFa hSP hNw hKp hK0 hRk hR
  refine wq_mono (m_sols c162 c166 c168 c170 c196 c204 c200 c202 c190 h01 hSA) ?_
  rintro _ ⟨h2, m34, m35, m39, fo2, on2, pa2, pb2, rfl, f, l, d162, d196, d204, d200, d202, x0, x1⟩
  exact rOk_i f l (by decide) _ ⟨_, _, _, _, _, _, _, _, _, _, _, _, _, _, _, _, _, _, _, _, _, _, _, _, _, _, _, _, _, _, _, _, _, _, _, _, _, _, _, _, _, _, _, _, _, _, _, _, _, _, _, _, _, _, _, ⟨ht, d162, wFr_at f (by decide) c164, wFr_at f (by decide) c166, wFr_at f (by decide) c168, wFr_at f (by decide) c170, wFr_at f (by decide) c172, wFr_at f (by decide) c174, wFr_at f (by decide) c176, wFr_at f (by decide) c178, wFr_at f (by decide) c180, wFr_at f (by decide) c182, wFr_at f (by decide) c184, wFr_at f (by decide) c186, wFr_at f (by decide) c188, wFr_at f (by decide) c190, wFr_at f (by decide) c192, wFr_at f (by decide) c194, d196, wFr_at f (by decide) c198, d200, d202, d204, wFr_at f (by decide) c206, wFr_at f (by decide) c208, wFr_at f (by decide) c210, wFr_at f (by decide) c212, wFr_at f (by decide) c214, wFr_at f (by decide) c216, wFr_at f (by decide) c218, wFr_at f (by decide) c220, wFr_at f (by decide) c222, wFr_at f (by decide) c224, wFr_at f (by decide) c226, wFr_at f (by decide) c228, wFr_at f (by decide) c230⟩, ⟨hu, (Or.inr rfl), (mSA_1 x0), hFa, (mSP_e hSP x0), hNw, hKp, hK0, hRk⟩, hR⟩
set_option maxHeartbeats 4000000 in
theorem rCall_13 {h : zH} {k9 j : Int32} {R : vRl} (k : MI h R) : wq 231 0 [(0, .ref 162), (1, .int k9), (2, .int j)] [] h 0 0 (rOk h R) := by
  refine MI_el k ?_
  intro n0 n14 n15 n16 n18 n19 n20 n21 n22 n23 n28 n32 n33 n34 n35 n39 n52 t pl u wn tb kn lo hi sv rt sn sq wy it hl hs nw am kp th fo sm pa pb on h1 tg ri hr pq ch co t1 sg tk tl pz dq ht c162 c164 c166 c168 c170 c172 c174 c176 c178 c180 c182 c184 c186 c188 c190 c192 c194 c196 c198 c200 c202 c204 c206 c208 c210 c212 c214 c216 c218 c220 c222 c224 c226 c228 c230 hu h01 hSA hFa hSP hNw hKp hK0 hRk hR
  by_cases hw9 : 0 ≤ j.toInt ∧ j.toInt ≤ 5
  · refine wq_mono (m_solJ c162 c166 c168 c170 c196 c204 c200 c202 c190 h01 hSA hw9) ?_
    rintro _ ⟨h2, m34, m35, m39, fo2, on2, pa2, pb2, rfl, f, l, d162, d196, d204, d200, d202, x0, x1⟩
    exact rOk_i f l (by decide) _ ⟨_, _, _, _, _, _, _, _, _, _, _, _, _, _, _, _, _, _, _, _, _, _, _, _, _, _, _, _, _, _, _, _, _, _, _, _, _, _, _, _, _, _, _, _, _, _, _, _, _, _, _, _, _, _, _, ⟨ht, d162, wFr_at f (by decide) c164, wFr_at f (by decide) c166, wFr_at f (by decide) c168, wFr_at f (by decide) c170, wFr_at f (by decide) c172, wFr_at f (by decide) c174, wFr_at f (by decide) c176, wFr_at f (by decide) c178, wFr_at f (by decide) c180, wFr_at f (by decide) c182, wFr_at f (by decide) c184, wFr_at f (by decide) c186, wFr_at f (by decide) c188, wFr_at f (by decide) c190, wFr_at f (by decide) c192, wFr_at f (by decide) c194, d196, wFr_at f (by decide) c198, d200, d202, d204, wFr_at f (by decide) c206, wFr_at f (by decide) c208, wFr_at f (by decide) c210, wFr_at f (by decide) c212, wFr_at f (by decide) c214, wFr_at f (by decide) c216, wFr_at f (by decide) c218, wFr_at f (by decide) c220, wFr_at f (by decide) c222, wFr_at f (by decide) c224, wFr_at f (by decide) c226, wFr_at f (by decide) c228, wFr_at f (by decide) c230⟩, ⟨hu, (Or.inr rfl), (mSA_1 x0), hFa, (mSP_e hSP x0), hNw, hKp, hK0, hRk⟩, hR⟩
  · refine wq_mono (m_solX c162 (by omega)) ?_
    rintro _ ⟨h2, rfl, f, l, d162⟩
    exact rOk_i f l (by decide) _ ⟨_, _, _, _, _, _, _, _, _, _, _, _, _, _, _, _, _, _, _, _, _, _, _, _, _, _, _, _, _, _, _, _, _, _, _, _, _, _, _, _, _, _, _, _, _, _, _, _, _, _, _, _, _, _, _, ⟨ht, d162, wFr_at f (by decide) c164, wFr_at f (by decide) c166, wFr_at f (by decide) c168, wFr_at f (by decide) c170, wFr_at f (by decide) c172, wFr_at f (by decide) c174, wFr_at f (by decide) c176, wFr_at f (by decide) c178, wFr_at f (by decide) c180, wFr_at f (by decide) c182, wFr_at f (by decide) c184, wFr_at f (by decide) c186, wFr_at f (by decide) c188, wFr_at f (by decide) c190, wFr_at f (by decide) c192, wFr_at f (by decide) c194, wFr_at f (by decide) c196, wFr_at f (by decide) c198, wFr_at f (by decide) c200, wFr_at f (by decide) c202, wFr_at f (by decide) c204, wFr_at f (by decide) c206, wFr_at f (by decide) c208, wFr_at f (by decide) c210, wFr_at f (by decide) c212, wFr_at f (by decide) c214, wFr_at f (by decide) c216, wFr_at f (by decide) c218, wFr_at f (by decide) c220, wFr_at f (by decide) c222, wFr_at f (by decide) c224, wFr_at f (by decide) c226, wFr_at f (by decide) c228, wFr_at f (by decide) c230⟩, ⟨hu, h01, hSA, hFa, hSP, hNw, hKp, hK0, hRk⟩, hR⟩
set_option maxHeartbeats 4000000 in
theorem rCall_14 {h : zH} {k9 w : Int32} {R : vRl} (k : MI h R) : wq 236 0 [(0, .ref 162), (1, .int k9), (2, .int w)] [] h 0 0 (rOk h R) := by
  refine MI_el k ?_
  intro n0 n14 n15 n16 n18 n19 n20 n21 n22 n23 n28 n32 n33 n34 n35 n39 n52 t pl u wn tb kn lo hi sv rt sn sq wy it hl hs nw am kp th fo sm pa pb on h1 tg ri hr pq ch co t1 sg tk tl pz dq ht c162 c164 c166 c168 c170 c172 c174 c176 c178 c180 c182 c184 c186 c188 c190 c192 c194 c196 c198 c200 c202 c204 c206 c208 c210 c212 c214 c216 c218 c220 c222 c224 c226 c228 c230 hu h01 hSA hFa hSP hNw hKp hK0 hRk hR
  by_cases hw9 : 0 ≤ w.toInt ∧ w.toInt ≤ 4
  · refine wq_mono (m_wayJ c162 c166 c168 c170 c196 c204 c200 c202 c190 c172 c188 c206 h01 hSA hw9 (mFa_s hFa)) ?_
    rintro _ ⟨h2, m34, m35, m39, fo2, on2, pa2, pb2, h12, rfl, f, l, d162, d196, d204, d200, d202, d206, x0, x1⟩
    exact rOk_i f l (by decide) _ ⟨_, _, _, _, _, _, _, _, _, _, _, _, _, _, _, _, _, _, _, _, _, _, _, _, _, _, _, _, _, _, _, _, _, _, _, _, _, _, _, _, _, _, _, _, _, _, _, _, _, _, _, _, _, _, _, ⟨ht, d162, wFr_at f (by decide) c164, wFr_at f (by decide) c166, wFr_at f (by decide) c168, wFr_at f (by decide) c170, wFr_at f (by decide) c172, wFr_at f (by decide) c174, wFr_at f (by decide) c176, wFr_at f (by decide) c178, wFr_at f (by decide) c180, wFr_at f (by decide) c182, wFr_at f (by decide) c184, wFr_at f (by decide) c186, wFr_at f (by decide) c188, wFr_at f (by decide) c190, wFr_at f (by decide) c192, wFr_at f (by decide) c194, d196, wFr_at f (by decide) c198, d200, d202, d204, d206, wFr_at f (by decide) c208, wFr_at f (by decide) c210, wFr_at f (by decide) c212, wFr_at f (by decide) c214, wFr_at f (by decide) c216, wFr_at f (by decide) c218, wFr_at f (by decide) c220, wFr_at f (by decide) c222, wFr_at f (by decide) c224, wFr_at f (by decide) c226, wFr_at f (by decide) c228, wFr_at f (by decide) c230⟩, ⟨hu, (Or.inr rfl), (mSA_1 x0), hFa, (mSP_e hSP x0), hNw, hKp, hK0, hRk⟩, hR⟩
  · refine wq_mono (m_wayX c162 (by omega)) ?_
    rintro _ ⟨h2, rfl, f, l, d162⟩
    exact rOk_i f l (by decide) _ ⟨_, _, _, _, _, _, _, _, _, _, _, _, _, _, _, _, _, _, _, _, _, _, _, _, _, _, _, _, _, _, _, _, _, _, _, _, _, _, _, _, _, _, _, _, _, _, _, _, _, _, _, _, _, _, _, ⟨ht, d162, wFr_at f (by decide) c164, wFr_at f (by decide) c166, wFr_at f (by decide) c168, wFr_at f (by decide) c170, wFr_at f (by decide) c172, wFr_at f (by decide) c174, wFr_at f (by decide) c176, wFr_at f (by decide) c178, wFr_at f (by decide) c180, wFr_at f (by decide) c182, wFr_at f (by decide) c184, wFr_at f (by decide) c186, wFr_at f (by decide) c188, wFr_at f (by decide) c190, wFr_at f (by decide) c192, wFr_at f (by decide) c194, wFr_at f (by decide) c196, wFr_at f (by decide) c198, wFr_at f (by decide) c200, wFr_at f (by decide) c202, wFr_at f (by decide) c204, wFr_at f (by decide) c206, wFr_at f (by decide) c208, wFr_at f (by decide) c210, wFr_at f (by decide) c212, wFr_at f (by decide) c214, wFr_at f (by decide) c216, wFr_at f (by decide) c218, wFr_at f (by decide) c220, wFr_at f (by decide) c222, wFr_at f (by decide) c224, wFr_at f (by decide) c226, wFr_at f (by decide) c228, wFr_at f (by decide) c230⟩, ⟨hu, h01, hSA, hFa, hSP, hNw, hKp, hK0, hRk⟩, hR⟩
set_option maxHeartbeats 4000000 in
theorem rCall_15 {h : zH} {R : vRl} (k : MI h R) : wq 232 0 [(0, .ref 162)] [] h 0 0 (rOk h R) := by
  refine MI_el k ?_
  intro n0 n14 n15 n16 n18 n19 n20 n21 n22 n23 n28 n32 n33 n34 n35 n39 n52 t pl u wn tb kn lo hi sv rt sn sq wy it hl hs nw am kp th fo sm pa pb on h1 tg ri hr pq ch co t1 sg tk tl pz dq ht c162 c164 c166 c168 c170 c172 c174 c176 c178 c180 c182 c184 c186 c188 c190 c192 c194 c196 c198 c200 c202 c204 c206 c208 c210 c212 c214 c216 c218 c220 c222 c224 c226 c228 c230 hu h01 hSA hFa hSP hNw hKp hK0 hRk hR
  refine m_why c162 c166 c168 c170 c196 c204 c200 c202 c190 h01 hSA ?_
  · intro h2 m34 m35 m39 fo2 on2 pa2 pb2 f l d162 d196 d204 d200 d202 x0 x1
    exact rOk_i f l (by decide) _ ⟨_, _, _, _, _, _, _, _, _, _, _, _, _, _, _, _, _, _, _, _, _, _, _, _, _, _, _, _, _, _, _, _, _, _, _, _, _, _, _, _, _, _, _, _, _, _, _, _, _, _, _, _, _, _, _, ⟨ht, d162, wFr_at f (by decide) c164, wFr_at f (by decide) c166, wFr_at f (by decide) c168, wFr_at f (by decide) c170, wFr_at f (by decide) c172, wFr_at f (by decide) c174, wFr_at f (by decide) c176, wFr_at f (by decide) c178, wFr_at f (by decide) c180, wFr_at f (by decide) c182, wFr_at f (by decide) c184, wFr_at f (by decide) c186, wFr_at f (by decide) c188, wFr_at f (by decide) c190, wFr_at f (by decide) c192, wFr_at f (by decide) c194, d196, wFr_at f (by decide) c198, d200, d202, d204, wFr_at f (by decide) c206, wFr_at f (by decide) c208, wFr_at f (by decide) c210, wFr_at f (by decide) c212, wFr_at f (by decide) c214, wFr_at f (by decide) c216, wFr_at f (by decide) c218, wFr_at f (by decide) c220, wFr_at f (by decide) c222, wFr_at f (by decide) c224, wFr_at f (by decide) c226, wFr_at f (by decide) c228, wFr_at f (by decide) c230⟩, ⟨hu, (Or.inr rfl), (mSA_1 x0), hFa, (mSP_e hSP x0), hNw, hKp, hK0, hRk⟩, hR⟩
set_option maxHeartbeats 4000000 in
theorem rCall_16 {h : zH} {u9 : Int32} {R : vRl} (k : MI h R) : wq 237 0 [(0, .ref 162), (1, .int u9)] [] h 0 0 (rOk h R) := by
  refine MI_el k ?_
  intro n0 n14 n15 n16 n18 n19 n20 n21 n22 n23 n28 n32 n33 n34 n35 n39 n52 t pl u wn tb kn lo hi sv rt sn sq wy it hl hs nw am kp th fo sm pa pb on h1 tg ri hr pq ch co t1 sg tk tl pz dq ht c162 c164 c166 c168 c170 c172 c174 c176 c178 c180 c182 c184 c186 c188 c190 c192 c194 c196 c198 c200 c202 c204 c206 c208 c210 c212 c214 c216 c218 c220 c222 c224 c226 c228 c230 hu h01 hSA hFa hSP hNw hKp hK0 hRk hR
  refine m_near c162 c166 c168 c170 c196 c204 c200 c202 c190 c172 c188 c206 h01 hSA (mFa_s hFa) ?_ ?_
  · intro h2 m34 m35 m39 fo2 on2 pa2 pb2 f l d162 d196 d204 d200 d202 x0 x1 x2
    exact rOk_i f l (by decide) _ ⟨_, _, _, _, _, _, _, _, _, _, _, _, _, _, _, _, _, _, _, _, _, _, _, _, _, _, _, _, _, _, _, _, _, _, _, _, _, _, _, _, _, _, _, _, _, _, _, _, _, _, _, _, _, _, _, ⟨ht, d162, wFr_at f (by decide) c164, wFr_at f (by decide) c166, wFr_at f (by decide) c168, wFr_at f (by decide) c170, wFr_at f (by decide) c172, wFr_at f (by decide) c174, wFr_at f (by decide) c176, wFr_at f (by decide) c178, wFr_at f (by decide) c180, wFr_at f (by decide) c182, wFr_at f (by decide) c184, wFr_at f (by decide) c186, wFr_at f (by decide) c188, wFr_at f (by decide) c190, wFr_at f (by decide) c192, wFr_at f (by decide) c194, d196, wFr_at f (by decide) c198, d200, d202, d204, wFr_at f (by decide) c206, wFr_at f (by decide) c208, wFr_at f (by decide) c210, wFr_at f (by decide) c212, wFr_at f (by decide) c214, wFr_at f (by decide) c216, wFr_at f (by decide) c218, wFr_at f (by decide) c220, wFr_at f (by decide) c222, wFr_at f (by decide) c224, wFr_at f (by decide) c226, wFr_at f (by decide) c228, wFr_at f (by decide) c230⟩, ⟨hu, (Or.inr rfl), (mSA_1 x0), hFa, (mSP_e hSP x0), hNw, hKp, hK0, hRk⟩, hR⟩
  · intro h2 m34 m35 m39 fo2 on2 pa2 pb2 h12 f l d162 d196 d204 d200 d202 d206 x0 x1 x2
    have s2 := mSA_1 x0
    rw [x2.1] at s2
    exact rOk_i f l (by decide) _ ⟨_, _, _, _, _, _, _, _, _, _, _, _, _, _, _, _, _, _, _, _, _, _, _, _, _, _, _, _, _, _, _, _, _, _, _, _, _, _, _, _, _, _, _, _, _, _, _, _, _, _, _, _, _, _, _, ⟨ht, d162, wFr_at f (by decide) c164, wFr_at f (by decide) c166, wFr_at f (by decide) c168, wFr_at f (by decide) c170, wFr_at f (by decide) c172, wFr_at f (by decide) c174, wFr_at f (by decide) c176, wFr_at f (by decide) c178, wFr_at f (by decide) c180, wFr_at f (by decide) c182, wFr_at f (by decide) c184, wFr_at f (by decide) c186, wFr_at f (by decide) c188, wFr_at f (by decide) c190, wFr_at f (by decide) c192, wFr_at f (by decide) c194, d196, wFr_at f (by decide) c198, d200, d202, d204, d206, wFr_at f (by decide) c208, wFr_at f (by decide) c210, wFr_at f (by decide) c212, wFr_at f (by decide) c214, wFr_at f (by decide) c216, wFr_at f (by decide) c218, wFr_at f (by decide) c220, wFr_at f (by decide) c222, wFr_at f (by decide) c224, wFr_at f (by decide) c226, wFr_at f (by decide) c228, wFr_at f (by decide) c230⟩, ⟨hu, (Or.inr rfl), s2, hFa, (mSP_e hSP x0), hNw, hKp, hK0, hRk⟩, hR⟩
set_option maxHeartbeats 4000000 in
theorem rCall_17 {h : zH} {R : vRl} (k : MI h R) : wq 238 0 [(0, .ref 162)] [] h 0 0 (rOk h R) := by
  refine MI_el k ?_
  intro n0 n14 n15 n16 n18 n19 n20 n21 n22 n23 n28 n32 n33 n34 n35 n39 n52 t pl u wn tb kn lo hi sv rt sn sq wy it hl hs nw am kp th fo sm pa pb on h1 tg ri hr pq ch co t1 sg tk tl pz dq ht c162 c164 c166 c168 c170 c172 c174 c176 c178 c180 c182 c184 c186 c188 c190 c192 c194 c196 c198 c200 c202 c204 c206 c208 c210 c212 c214 c216 c218 c220 c222 c224 c226 c228 c230 hu h01 hSA hFa hSP hNw hKp hK0 hRk hR
  refine m_clrs c162 c166 c168 c170 c196 c204 c200 c202 c190 c206 h01 hSA ?_ ?_
  · intro h2 m34 m35 m39 fo2 on2 pa2 pb2 f l d162 d196 d204 d200 d202 x0 x1 x2
    exact rOk_i f l (by decide) _ ⟨_, _, _, _, _, _, _, _, _, _, _, _, _, _, _, _, _, _, _, _, _, _, _, _, _, _, _, _, _, _, _, _, _, _, _, _, _, _, _, _, _, _, _, _, _, _, _, _, _, _, _, _, _, _, _, ⟨ht, d162, wFr_at f (by decide) c164, wFr_at f (by decide) c166, wFr_at f (by decide) c168, wFr_at f (by decide) c170, wFr_at f (by decide) c172, wFr_at f (by decide) c174, wFr_at f (by decide) c176, wFr_at f (by decide) c178, wFr_at f (by decide) c180, wFr_at f (by decide) c182, wFr_at f (by decide) c184, wFr_at f (by decide) c186, wFr_at f (by decide) c188, wFr_at f (by decide) c190, wFr_at f (by decide) c192, wFr_at f (by decide) c194, d196, wFr_at f (by decide) c198, d200, d202, d204, wFr_at f (by decide) c206, wFr_at f (by decide) c208, wFr_at f (by decide) c210, wFr_at f (by decide) c212, wFr_at f (by decide) c214, wFr_at f (by decide) c216, wFr_at f (by decide) c218, wFr_at f (by decide) c220, wFr_at f (by decide) c222, wFr_at f (by decide) c224, wFr_at f (by decide) c226, wFr_at f (by decide) c228, wFr_at f (by decide) c230⟩, ⟨hu, (Or.inr rfl), (mSA_1 x0), hFa, (mSP_e hSP x0), hNw, hKp, hK0, hRk⟩, hR⟩
  · intro h2 m34 m35 m39 fo2 on2 pa2 pb2 h12 f l d162 d196 d204 d200 d202 d206 x0 x1 x2
    have s2 := mSA_1 x0
    rw [x2.1] at s2
    exact rOk_i f l (by decide) _ ⟨_, _, _, _, _, _, _, _, _, _, _, _, _, _, _, _, _, _, _, _, _, _, _, _, _, _, _, _, _, _, _, _, _, _, _, _, _, _, _, _, _, _, _, _, _, _, _, _, _, _, _, _, _, _, _, ⟨ht, d162, wFr_at f (by decide) c164, wFr_at f (by decide) c166, wFr_at f (by decide) c168, wFr_at f (by decide) c170, wFr_at f (by decide) c172, wFr_at f (by decide) c174, wFr_at f (by decide) c176, wFr_at f (by decide) c178, wFr_at f (by decide) c180, wFr_at f (by decide) c182, wFr_at f (by decide) c184, wFr_at f (by decide) c186, wFr_at f (by decide) c188, wFr_at f (by decide) c190, wFr_at f (by decide) c192, wFr_at f (by decide) c194, d196, wFr_at f (by decide) c198, d200, d202, d204, d206, wFr_at f (by decide) c208, wFr_at f (by decide) c210, wFr_at f (by decide) c212, wFr_at f (by decide) c214, wFr_at f (by decide) c216, wFr_at f (by decide) c218, wFr_at f (by decide) c220, wFr_at f (by decide) c222, wFr_at f (by decide) c224, wFr_at f (by decide) c226, wFr_at f (by decide) c228, wFr_at f (by decide) c230⟩, ⟨hu, (Or.inr rfl), s2, hFa, (mSP_e hSP x0), hNw, hKp, hK0, hRk⟩, hR⟩
set_option maxHeartbeats 4000000 in
theorem rCall_18 {h : zH} {k9 : Int32} {R R2 : vRl} {a : Int32} (k : MI h R) (g : ∀ (t n22 n23 n28 tb kn lo hi sv rt sn sq wy nw am kp u : _), R t n22 n23 n28 tb kn lo hi sv rt sn sq wy nw am kp u → (mTak (mNum (mSol lo hi kn am)) k9 = 0 → (0 : Int32) = a ∧ R2 t n22 n23 n28 tb kn lo hi sv rt sn sq wy nw am kp u) ∧ (∀ fo2 : List Int64, wFd 4800 (mSol lo hi kn am) fo2 → mTak (mNum (mSol lo hi kn am)) k9 = 1 → (0 ≤ k9.toInt ∧ k9.toInt < (mNum (mSol lo hi kn am)).toInt) → (1 : Int32) = a ∧ R2 t n22 n23 n28 tb kn lo hi sv rt sn sq wy (mUnp (fo2.getD ((4800 : Int32) + k9).toNatClampNeg 0) 0 nw) am (mRem nw am kp u).2 (mRem nw am kp u).1)) : wq 239 0 [(0, .ref 162), (1, .int k9)] [] h 0 0 (rOkA a h R2) := by
  refine MI_el k ?_
  intro n0 n14 n15 n16 n18 n19 n20 n21 n22 n23 n28 n32 n33 n34 n35 n39 n52 t pl u wn tb kn lo hi sv rt sn sq wy it hl hs nw am kp th fo sm pa pb on h1 tg ri hr pq ch co t1 sg tk tl pz dq ht c162 c164 c166 c168 c170 c172 c174 c176 c178 c180 c182 c184 c186 c188 c190 c192 c194 c196 c198 c200 c202 c204 c206 c208 c210 c212 c214 c216 c218 c220 c222 c224 c226 c228 c230 hu h01 hSA hFa hSP hNw hKp hK0 hRk hR
  refine m_take c162 c166 c168 c170 c196 c204 c200 c202 c190 c188 c192 c212 h01 hSA hu ?_ ?_
  · intro h2 m34 m35 m39 fo2 on2 pa2 pb2 f l d162 d196 d204 d200 d202 x0 x1 x2
    obtain ⟨g1, g2⟩ := (g _ _ _ _ _ _ _ _ _ _ _ _ _ _ _ _ _ hR).1 x0
    subst g1
    exact ⟨rfl, rOk_i f l (by decide) _ ⟨_, _, _, _, _, _, _, _, _, _, _, _, _, _, _, _, _, _, _, _, _, _, _, _, _, _, _, _, _, _, _, _, _, _, _, _, _, _, _, _, _, _, _, _, _, _, _, _, _, _, _, _, _, _, _, ⟨ht, d162, wFr_at f (by decide) c164, wFr_at f (by decide) c166, wFr_at f (by decide) c168, wFr_at f (by decide) c170, wFr_at f (by decide) c172, wFr_at f (by decide) c174, wFr_at f (by decide) c176, wFr_at f (by decide) c178, wFr_at f (by decide) c180, wFr_at f (by decide) c182, wFr_at f (by decide) c184, wFr_at f (by decide) c186, wFr_at f (by decide) c188, wFr_at f (by decide) c190, wFr_at f (by decide) c192, wFr_at f (by decide) c194, d196, wFr_at f (by decide) c198, d200, d202, d204, wFr_at f (by decide) c206, wFr_at f (by decide) c208, wFr_at f (by decide) c210, wFr_at f (by decide) c212, wFr_at f (by decide) c214, wFr_at f (by decide) c216, wFr_at f (by decide) c218, wFr_at f (by decide) c220, wFr_at f (by decide) c222, wFr_at f (by decide) c224, wFr_at f (by decide) c226, wFr_at f (by decide) c228, wFr_at f (by decide) c230⟩, ⟨hu, (Or.inr rfl), (mSA_1 x1), hFa, (mSP_e hSP x1), hNw, hKp, hK0, hRk⟩, g2⟩⟩
  · intro h2 m34 m35 m39 fo2 on2 pa2 pb2 f l d162 d196 d204 d200 d202 d188 d192 d212 x0 x1 x2 x3 x4
    obtain ⟨r1, r2, r3⟩ := mRem_ok (am := am) hu hNw hKp hK0
    obtain ⟨g1, g2⟩ := (g _ _ _ _ _ _ _ _ _ _ _ _ _ _ _ _ _ hR).2 fo2 x1.1 x0 x3
    subst g1
    exact ⟨rfl, rOk_i f l (by decide) _ ⟨_, _, _, _, _, _, _, _, _, _, _, _, _, _, _, _, _, _, _, _, _, _, _, _, _, _, _, _, _, _, _, _, _, _, _, _, _, _, _, _, _, _, _, _, _, _, _, _, _, _, _, _, _, _, _, ⟨ht, d162, wFr_at f (by decide) c164, wFr_at f (by decide) c166, wFr_at f (by decide) c168, wFr_at f (by decide) c170, wFr_at f (by decide) c172, wFr_at f (by decide) c174, wFr_at f (by decide) c176, wFr_at f (by decide) c178, wFr_at f (by decide) c180, wFr_at f (by decide) c182, wFr_at f (by decide) c184, wFr_at f (by decide) c186, d188, wFr_at f (by decide) c190, d192, wFr_at f (by decide) c194, d196, wFr_at f (by decide) c198, d200, d202, d204, wFr_at f (by decide) c206, wFr_at f (by decide) c208, wFr_at f (by decide) c210, d212, wFr_at f (by decide) c214, wFr_at f (by decide) c216, wFr_at f (by decide) c218, wFr_at f (by decide) c220, wFr_at f (by decide) c222, wFr_at f (by decide) c224, wFr_at f (by decide) c226, wFr_at f (by decide) c228, wFr_at f (by decide) c230⟩, ⟨r1, (Or.inl rfl), (mSA_0 _ _ _ _ _ _), hFa, (mSP_e hSP x1), (mUnp_w (mTk_v (mSol_R hFa.2.2.2.2.1 kn am) x1 x3 x2.2) 0 nw), r2, r3, (mRk_mv hRk)⟩, g2⟩⟩
theorem MI_iv {h : zH} {P : Prop} {R : vRl} (k : MI h R) (g : ∀ (wn : Nat) (kn lo hi sv sq wy nw : List Int32) (n0 n2 n14 n15 n16 n17 n18 n19 n20 n21 n22 n23 n27 n28 n32 n33 n34 n35 n39 n52 : Int32) (am9 : mS), wn ≤ 10 → zat h 162 = some (.inr (.inr (.inr (10, mO n0 n2 n14 n15 n16 n17 n18 n19 n20 n21 n22 n23 n27 n28 n32 n33 n34 n35 n39 n52)))) → mIv h h wn kn lo hi sv sq wy nw n0 n2 n14 n15 n16 n17 n18 n19 n20 n21 n22 n23 n27 n28 n32 n33 n39 n52 am9 → (∀ h2, mIv h h2 wn kn lo hi sv sq wy nw 0 n2 n14 n15 n16 n17 n18 n19 n20 n21 n22 n23 n27 n28 n32 n33 n39 n52 am9 → MI h2 R ∧ wFx cM h h2 ∧ h2.length = h.length) → P) : P := by
  refine MI_el k ?_
  intro n0 n14 n15 n16 n18 n19 n20 n21 n22 n23 n28 n32 n33 n34 n35 n39 n52 t pl u wn tb kn lo hi sv rt sn sq wy it hl hs nw am kp th fo sm pa pb on h1 tg ri hr pq ch co t1 sg tk tl pz dq ht c162 c164 c166 c168 c170 c172 c174 c176 c178 c180 c182 c184 c186 c188 c190 c192 c194 c196 c198 c200 c202 c204 c206 c208 c210 c212 c214 c216 c218 c220 c222 c224 c226 c228 c230 hu h01 hSA hFa hSP hNw hKp hK0 hRk hR
  refine g wn kn lo hi sv sq wy nw n0 (nI t) n14 n15 n16 (nI pl) n18 n19 n20 n21 n22 n23 (nI u) n28 n32 n33 n34 n35 n39 n52 (if n33 = 1 then mSol lo hi kn am else none) hFa.2.1 c162 ?_ ?_
  · refine ⟨wFr_rf _ _, rfl, fo, sm, hr, tk, ⟨c166, c168, c170, c172, c178, c180, hFa⟩, ⟨n34, n35, on, pa, pb, th, sg, c162, c196, c204, c200, c202, c194, c222, c198⟩, hSP, ?_, c188, mNw_b hNw, ⟨tg, h1, t1, ri, pq, ch, co, c208, c206, c220, c210, c212, c214, c216, c218, hRk⟩, c224⟩
    by_cases e : n33 = 1
    · rw [if_pos e]; exact (hSA e).2
    · rw [if_neg e]; trivial
  · rintro h2 ⟨f, l, fo, sm, hr, tk, ⟨d166, d168, d170, d172, d178, d180, _⟩, ⟨n34, n35, on, pa, pb, th, sg, d162, d196, d204, d200, d202, d194, d222, d198⟩, hSP, hA9, d188, _, ⟨tg, h1, t1, ri, pq, ch, co, d208, d206, d220, d210, d212, d214, d216, d218, hRk⟩, d224⟩
    refine ⟨?_, wFx_of f (fun q hq => Or.inl (?_)), l⟩
    · have hSA2 : mSA n32 n33 lo hi kn am fo := fun e => by
        rw [if_pos e] at hA9
        exact ⟨(hSA e).1, hA9⟩
      exact ⟨_, _, _, _, _, _, _, _, _, _, _, _, _, _, _, _, _, _, _, _, _, _, _, _, _, _, _, _, _, _, _, _, _, _, _, _, _, _, _, _, _, _, _, _, _, _, _, _, _, _, _, _, _, _, _, ⟨ht, d162, wFr_at f (by decide) c164, d166, d168, d170, d172, wFr_at f (by decide) c174, wFr_at f (by decide) c176, d178, d180, wFr_at f (by decide) c182, wFr_at f (by decide) c184, wFr_at f (by decide) c186, d188, wFr_at f (by decide) c190, wFr_at f (by decide) c192, d194, d196, d198, d200, d202, d204, d206, d208, d210, d212, d214, d216, d218, d220, d222, d224, wFr_at f (by decide) c226, wFr_at f (by decide) c228, wFr_at f (by decide) c230⟩, ⟨hu, h01, hSA2, hFa, hSP, hNw, hKp, hK0, hRk⟩, hR⟩
    · have z : ∀ q ∈ [162, 194, 222, 196, 204, 200, 202, 198, 208, 206, 220, 210, 212, 214, 216, 218, 224], 162 ≤ q ∧ q < 232 := by decide
      exact z q hq
theorem rCall_m251_0 {h : zH} {R : vRl} (k : MI h R) : wq 251 0 [(0, .ref 162), (1, .int 0)] [] h 0 0 (rOk h R) := by
  refine MI_iv k ?_
  intro wn kn lo hi sv sq wy nw n0 n2 n14 n15 n16 n17 n18 n19 n20 n21 n22 n23 n27 n28 n32 n33 n34 n35 n39 n52 am9 hw10 hM hI hE
  refine wq_mono (m_o251_0 hM hI) ?_
  rintro _ ⟨v, h2, rfl, hI2⟩
  obtain ⟨a, b, c⟩ := hE _ hI2
  exact ⟨v, h2, rfl, a, b, c⟩
theorem rCall_m267_0 {h : zH} {R : vRl} (k : MI h R) : wq 267 0 [(0, .ref 162), (1, .int 0)] [] h 0 0 (rOk h R) := by
  refine MI_iv k ?_
  intro wn kn lo hi sv sq wy nw n0 n2 n14 n15 n16 n17 n18 n19 n20 n21 n22 n23 n27 n28 n32 n33 n34 n35 n39 n52 am9 hw10 hM hI hE
  refine wq_mono (m_o267_0 hM hI) ?_
  rintro _ ⟨v, h2, rfl, hI2⟩
  obtain ⟨a, b, c⟩ := hE _ hI2
  exact ⟨v, h2, rfl, a, b, c⟩
theorem rCall_m268_0 {h : zH} {R : vRl} (k : MI h R) : wq 268 0 [(0, .ref 162), (1, .int 0)] [] h 0 0 (rOk h R) := by
  refine MI_iv k ?_
  intro wn kn lo hi sv sq wy nw n0 n2 n14 n15 n16 n17 n18 n19 n20 n21 n22 n23 n27 n28 n32 n33 n34 n35 n39 n52 am9 hw10 hM hI hE
  refine wq_mono (m_o268_0 hM hI) ?_
  rintro _ ⟨v, h2, rfl, hI2⟩
  obtain ⟨a, b, c⟩ := hE _ hI2
  exact ⟨v, h2, rfl, a, b, c⟩
theorem rCall_m266_0 {h : zH} {R : vRl} (k : MI h R) : wq 266 0 [(0, .ref 162), (1, .int 0)] [] h 0 0 (rOkL h R) := by
  refine MI_iv k ?_
  intro wn kn lo hi sv sq wy nw n0 n2 n14 n15 n16 n17 n18 n19 n20 n21 n22 n23 n27 n28 n32 n33 n34 n35 n39 n52 am9 hw10 hM hI hE
  refine wq_mono (m_o266_0 hM hI) ?_
  rintro _ ⟨v, h2, rfl, hI2⟩
  obtain ⟨a, b, c⟩ := hE _ hI2
  exact ⟨v, h2, rfl, a, b, c⟩
theorem rCall_m252_0 {h : zH} {i : Int32} {R : vRl} (k : MI h R) : wq 252 0 [(0, .ref 162), (1, .int 0), (2, .int i)] [] h 0 0 (rOk h R) := by
  refine MI_iv k ?_
  intro wn kn lo hi sv sq wy nw n0 n2 n14 n15 n16 n17 n18 n19 n20 n21 n22 n23 n27 n28 n32 n33 n34 n35 n39 n52 am9 hw10 hM hI hE
  refine wq_mono (m_o252_0 hM hI) ?_
  rintro _ ⟨v, h2, rfl, hI2⟩
  obtain ⟨a, b, c⟩ := hE _ hI2
  exact ⟨v, h2, rfl, a, b, c⟩
theorem rCall_m260_0 {h : zH} {m9 : Int32} {R : vRl} (k : MI h R) : wq 260 0 [(0, .ref 162), (1, .int 0), (2, .int m9)] [] h 0 0 (rOk h R) := by
  refine MI_iv k ?_
  intro wn kn lo hi sv sq wy nw n0 n2 n14 n15 n16 n17 n18 n19 n20 n21 n22 n23 n27 n28 n32 n33 n34 n35 n39 n52 am9 hw10 hM hI hE
  refine wq_mono (m_o260_0 hM hI) ?_
  rintro _ ⟨v, h2, rfl, hI2⟩
  obtain ⟨a, b, c⟩ := hE _ hI2
  exact ⟨v, h2, rfl, a, b, c⟩
theorem rCall_m263_0 {h : zH} {w : Int32} {R : vRl} (k : MI h R) : wq 263 0 [(0, .ref 162), (1, .int 0), (2, .int w)] [] h 0 0 (rOk h R) := by
  refine MI_iv k ?_
  intro wn kn lo hi sv sq wy nw n0 n2 n14 n15 n16 n17 n18 n19 n20 n21 n22 n23 n27 n28 n32 n33 n34 n35 n39 n52 am9 hw10 hM hI hE
  refine wq_mono (m_o263_0 hM hI) ?_
  rintro _ ⟨v, h2, rfl, hI2⟩
  obtain ⟨a, b, c⟩ := hE _ hI2
  exact ⟨v, h2, rfl, a, b, c⟩
theorem rCall_m255_0 {h : zH} {n j : Int32} {R : vRl} (k : MI h R) : wq 255 0 [(0, .ref 162), (1, .int 0), (2, .int n), (3, .int j)] [] h 0 0 (rOk h R) := by
  refine MI_iv k ?_
  intro wn kn lo hi sv sq wy nw n0 n2 n14 n15 n16 n17 n18 n19 n20 n21 n22 n23 n27 n28 n32 n33 n34 n35 n39 n52 am9 hw10 hM hI hE
  by_cases hw9 : 0 ≤ j.toInt ∧ j.toInt ≤ 5
  · obtain ⟨j9, e9, hj9⟩ : ∃ n : Nat, j = nI n ∧ n ≤ 5 := ⟨j.toNatClampNeg, nI_cl hw9.1, by show j.toInt.toNat ≤ 5; omega⟩
    subst e9
    refine wq_mono (m_o255_0 hM hI (by omega)) ?_
    rintro _ ⟨v, h2, rfl, hI2⟩
    obtain ⟨a, b, c⟩ := hE _ hI2
    exact ⟨v, h2, rfl, a, b, c⟩
  · have hx9 : j.toInt < 0 ∨ 5 < j.toInt := by omega
    refine wq_mono (m_o255N_0 hM hI hx9) ?_
    rintro _ ⟨v, h2, rfl, hI2⟩
    obtain ⟨a, b, c⟩ := hE _ hI2
    exact ⟨v, h2, rfl, a, b, c⟩
theorem rCall_m256_0 {h : zH} {n j : Int32} {R : vRl} (k : MI h R) : wq 256 0 [(0, .ref 162), (1, .int 0), (2, .int n), (3, .int j)] [] h 0 0 (rOk h R) := by
  refine MI_iv k ?_
  intro wn kn lo hi sv sq wy nw n0 n2 n14 n15 n16 n17 n18 n19 n20 n21 n22 n23 n27 n28 n32 n33 n34 n35 n39 n52 am9 hw10 hM hI hE
  by_cases hw9 : 0 ≤ j.toInt ∧ j.toInt ≤ 5
  · obtain ⟨j9, e9, hj9⟩ : ∃ n : Nat, j = nI n ∧ n ≤ 5 := ⟨j.toNatClampNeg, nI_cl hw9.1, by show j.toInt.toNat ≤ 5; omega⟩
    subst e9
    refine wq_mono (m_o256_0 hM hI (by omega)) ?_
    rintro _ ⟨v, h2, rfl, hI2⟩
    obtain ⟨a, b, c⟩ := hE _ hI2
    exact ⟨v, h2, rfl, a, b, c⟩
  · have hx9 : j.toInt < 0 ∨ 5 < j.toInt := by omega
    refine wq_mono (m_o256N_0 hM hI hx9) ?_
    rintro _ ⟨v, h2, rfl, hI2⟩
    obtain ⟨a, b, c⟩ := hE _ hI2
    exact ⟨v, h2, rfl, a, b, c⟩
theorem rCall_m257_0 {h : zH} {j s9 : Int32} {R : vRl} (k : MI h R) : wq 257 0 [(0, .ref 162), (1, .int 0), (2, .int j), (3, .int s9)] [] h 0 0 (rOk h R) := by
  refine MI_iv k ?_
  intro wn kn lo hi sv sq wy nw n0 n2 n14 n15 n16 n17 n18 n19 n20 n21 n22 n23 n27 n28 n32 n33 n34 n35 n39 n52 am9 hw10 hM hI hE
  by_cases hw9 : 0 ≤ j.toInt ∧ j.toInt ≤ 5
  · obtain ⟨j9, e9, hj9⟩ : ∃ n : Nat, j = nI n ∧ n ≤ 5 := ⟨j.toNatClampNeg, nI_cl hw9.1, by show j.toInt.toNat ≤ 5; omega⟩
    subst e9
    refine wq_mono (m_o257_0 hM hI (by omega)) ?_
    rintro _ ⟨v, h2, rfl, hI2⟩
    obtain ⟨a, b, c⟩ := hE _ hI2
    exact ⟨v, h2, rfl, a, b, c⟩
  · have hx9 : j.toInt < 0 ∨ 5 < j.toInt := by omega
    refine wq_mono (m_o257N_0 hM hI hx9) ?_
    rintro _ ⟨v, h2, rfl, hI2⟩
    obtain ⟨a, b, c⟩ := hE _ hI2
    exact ⟨v, h2, rfl, a, b, c⟩
theorem rCall_m259_0 {h : zH} {i j : Int32} {R : vRl} (k : MI h R) : wq 259 0 [(0, .ref 162), (1, .int 0), (2, .int i), (3, .int j)] [] h 0 0 (rOk h R) := by
  refine MI_iv k ?_
  intro wn kn lo hi sv sq wy nw n0 n2 n14 n15 n16 n17 n18 n19 n20 n21 n22 n23 n27 n28 n32 n33 n34 n35 n39 n52 am9 hw10 hM hI hE
  by_cases hc : (0 ≤ i.toInt ∧ i.toInt < (wn : Int))
  · obtain ⟨i9, e8, hi9⟩ : ∃ n : Nat, i = nI n ∧ n < wn := ⟨i.toNatClampNeg, nI_cl hc.1, by show i.toInt.toNat < wn; omega⟩
    subst e8
    by_cases hw9 : 0 ≤ j.toInt ∧ j.toInt ≤ 5
    · obtain ⟨j9, e9, hj9⟩ : ∃ n : Nat, j = nI n ∧ n ≤ 5 := ⟨j.toNatClampNeg, nI_cl hw9.1, by show j.toInt.toNat ≤ 5; omega⟩
      subst e9
      refine wq_mono (m_o259_0 hM hI (by omega) hi9) ?_
      rintro _ ⟨v, h2, rfl, hI2⟩
      obtain ⟨a, b, c⟩ := hE _ hI2
      exact ⟨v, h2, rfl, a, b, c⟩
    · have hx9 : j.toInt < 0 ∨ 5 < j.toInt := by omega
      refine wq_mono (m_o259J_0 hM hI hx9) ?_
      rintro _ ⟨v, h2, rfl, hI2⟩
      obtain ⟨a, b, c⟩ := hE _ hI2
      exact ⟨v, h2, rfl, a, b, c⟩
  · refine wq_mono (m_o259I_0 hM hI (by omega)) ?_
    rintro _ ⟨v, h2, rfl, hI2⟩
    obtain ⟨a, b, c⟩ := hE _ hI2
    exact ⟨v, h2, rfl, a, b, c⟩
theorem rCall_m251_1 {h : zH} {R : vRl} (k : MI h R) : wq 251 0 [(0, .ref 162), (1, .int 1)] [] h 0 0 (rOk h R) := by
  refine MI_iv k ?_
  intro wn kn lo hi sv sq wy nw n0 n2 n14 n15 n16 n17 n18 n19 n20 n21 n22 n23 n27 n28 n32 n33 n34 n35 n39 n52 am9 hw10 hM hI hE
  refine wq_mono (m_o251_1 hM hI) ?_
  rintro _ ⟨v, h2, rfl, hI2⟩
  obtain ⟨a, b, c⟩ := hE _ hI2
  exact ⟨v, h2, rfl, a, b, c⟩
theorem rCall_m267_1 {h : zH} {R : vRl} (k : MI h R) : wq 267 0 [(0, .ref 162), (1, .int 1)] [] h 0 0 (rOk h R) := by
  refine MI_iv k ?_
  intro wn kn lo hi sv sq wy nw n0 n2 n14 n15 n16 n17 n18 n19 n20 n21 n22 n23 n27 n28 n32 n33 n34 n35 n39 n52 am9 hw10 hM hI hE
  refine wq_mono (m_o267_1 hM hI) ?_
  rintro _ ⟨v, h2, rfl, hI2⟩
  obtain ⟨a, b, c⟩ := hE _ hI2
  exact ⟨v, h2, rfl, a, b, c⟩
theorem rCall_m268_1 {h : zH} {R : vRl} (k : MI h R) : wq 268 0 [(0, .ref 162), (1, .int 1)] [] h 0 0 (rOk h R) := by
  refine MI_iv k ?_
  intro wn kn lo hi sv sq wy nw n0 n2 n14 n15 n16 n17 n18 n19 n20 n21 n22 n23 n27 n28 n32 n33 n34 n35 n39 n52 am9 hw10 hM hI hE
  refine wq_mono (m_o268_1 hM hI) ?_
  rintro _ ⟨v, h2, rfl, hI2⟩
  obtain ⟨a, b, c⟩ := hE _ hI2
  exact ⟨v, h2, rfl, a, b, c⟩
theorem rCall_m266_1 {h : zH} {R : vRl} (k : MI h R) : wq 266 0 [(0, .ref 162), (1, .int 1)] [] h 0 0 (rOkL h R) := by
  refine MI_iv k ?_
  intro wn kn lo hi sv sq wy nw n0 n2 n14 n15 n16 n17 n18 n19 n20 n21 n22 n23 n27 n28 n32 n33 n34 n35 n39 n52 am9 hw10 hM hI hE
  refine wq_mono (m_o266_1 hM hI) ?_
  rintro _ ⟨v, h2, rfl, hI2⟩
  obtain ⟨a, b, c⟩ := hE _ hI2
  exact ⟨v, h2, rfl, a, b, c⟩
theorem rCall_m252_1 {h : zH} {i : Int32} {R : vRl} (k : MI h R) : wq 252 0 [(0, .ref 162), (1, .int 1), (2, .int i)] [] h 0 0 (rOk h R) := by
  refine MI_iv k ?_
  intro wn kn lo hi sv sq wy nw n0 n2 n14 n15 n16 n17 n18 n19 n20 n21 n22 n23 n27 n28 n32 n33 n34 n35 n39 n52 am9 hw10 hM hI hE
  refine wq_mono (m_o252_1 hM hI) ?_
  rintro _ ⟨v, h2, rfl, hI2⟩
  obtain ⟨a, b, c⟩ := hE _ hI2
  exact ⟨v, h2, rfl, a, b, c⟩
theorem rCall_m260_1 {h : zH} {m9 : Int32} {R : vRl} (k : MI h R) : wq 260 0 [(0, .ref 162), (1, .int 1), (2, .int m9)] [] h 0 0 (rOk h R) := by
  refine MI_iv k ?_
  intro wn kn lo hi sv sq wy nw n0 n2 n14 n15 n16 n17 n18 n19 n20 n21 n22 n23 n27 n28 n32 n33 n34 n35 n39 n52 am9 hw10 hM hI hE
  refine wq_mono (m_o260_1 hM hI) ?_
  rintro _ ⟨v, h2, rfl, hI2⟩
  obtain ⟨a, b, c⟩ := hE _ hI2
  exact ⟨v, h2, rfl, a, b, c⟩
theorem rCall_m263_1 {h : zH} {w : Int32} {R : vRl} (k : MI h R) : wq 263 0 [(0, .ref 162), (1, .int 1), (2, .int w)] [] h 0 0 (rOk h R) := by
  refine MI_iv k ?_
  intro wn kn lo hi sv sq wy nw n0 n2 n14 n15 n16 n17 n18 n19 n20 n21 n22 n23 n27 n28 n32 n33 n34 n35 n39 n52 am9 hw10 hM hI hE
  refine wq_mono (m_o263_1 hM hI) ?_
  rintro _ ⟨v, h2, rfl, hI2⟩
  obtain ⟨a, b, c⟩ := hE _ hI2
  exact ⟨v, h2, rfl, a, b, c⟩
theorem rCall_m255_1 {h : zH} {n j : Int32} {R : vRl} (k : MI h R) : wq 255 0 [(0, .ref 162), (1, .int 1), (2, .int n), (3, .int j)] [] h 0 0 (rOk h R) := by
  refine MI_iv k ?_
  intro wn kn lo hi sv sq wy nw n0 n2 n14 n15 n16 n17 n18 n19 n20 n21 n22 n23 n27 n28 n32 n33 n34 n35 n39 n52 am9 hw10 hM hI hE
  by_cases hw9 : 0 ≤ j.toInt ∧ j.toInt ≤ 5
  · obtain ⟨j9, e9, hj9⟩ : ∃ n : Nat, j = nI n ∧ n ≤ 5 := ⟨j.toNatClampNeg, nI_cl hw9.1, by show j.toInt.toNat ≤ 5; omega⟩
    subst e9
    refine wq_mono (m_o255_1 hM hI (by omega)) ?_
    rintro _ ⟨v, h2, rfl, hI2⟩
    obtain ⟨a, b, c⟩ := hE _ hI2
    exact ⟨v, h2, rfl, a, b, c⟩
  · have hx9 : j.toInt < 0 ∨ 5 < j.toInt := by omega
    refine wq_mono (m_o255N_1 hM hI hx9) ?_
    rintro _ ⟨v, h2, rfl, hI2⟩
    obtain ⟨a, b, c⟩ := hE _ hI2
    exact ⟨v, h2, rfl, a, b, c⟩
theorem rCall_m256_1 {h : zH} {n j : Int32} {R : vRl} (k : MI h R) : wq 256 0 [(0, .ref 162), (1, .int 1), (2, .int n), (3, .int j)] [] h 0 0 (rOk h R) := by
  refine MI_iv k ?_
  intro wn kn lo hi sv sq wy nw n0 n2 n14 n15 n16 n17 n18 n19 n20 n21 n22 n23 n27 n28 n32 n33 n34 n35 n39 n52 am9 hw10 hM hI hE
  by_cases hw9 : 0 ≤ j.toInt ∧ j.toInt ≤ 5
  · obtain ⟨j9, e9, hj9⟩ : ∃ n : Nat, j = nI n ∧ n ≤ 5 := ⟨j.toNatClampNeg, nI_cl hw9.1, by show j.toInt.toNat ≤ 5; omega⟩
    subst e9
    refine wq_mono (m_o256_1 hM hI (by omega)) ?_
    rintro _ ⟨v, h2, rfl, hI2⟩
    obtain ⟨a, b, c⟩ := hE _ hI2
    exact ⟨v, h2, rfl, a, b, c⟩
  · have hx9 : j.toInt < 0 ∨ 5 < j.toInt := by omega
    refine wq_mono (m_o256N_1 hM hI hx9) ?_
    rintro _ ⟨v, h2, rfl, hI2⟩
    obtain ⟨a, b, c⟩ := hE _ hI2
    exact ⟨v, h2, rfl, a, b, c⟩
theorem rCall_m257_1 {h : zH} {j s9 : Int32} {R : vRl} (k : MI h R) : wq 257 0 [(0, .ref 162), (1, .int 1), (2, .int j), (3, .int s9)] [] h 0 0 (rOk h R) := by
  refine MI_iv k ?_
  intro wn kn lo hi sv sq wy nw n0 n2 n14 n15 n16 n17 n18 n19 n20 n21 n22 n23 n27 n28 n32 n33 n34 n35 n39 n52 am9 hw10 hM hI hE
  by_cases hw9 : 0 ≤ j.toInt ∧ j.toInt ≤ 5
  · obtain ⟨j9, e9, hj9⟩ : ∃ n : Nat, j = nI n ∧ n ≤ 5 := ⟨j.toNatClampNeg, nI_cl hw9.1, by show j.toInt.toNat ≤ 5; omega⟩
    subst e9
    refine wq_mono (m_o257_1 hM hI (by omega)) ?_
    rintro _ ⟨v, h2, rfl, hI2⟩
    obtain ⟨a, b, c⟩ := hE _ hI2
    exact ⟨v, h2, rfl, a, b, c⟩
  · have hx9 : j.toInt < 0 ∨ 5 < j.toInt := by omega
    refine wq_mono (m_o257N_1 hM hI hx9) ?_
    rintro _ ⟨v, h2, rfl, hI2⟩
    obtain ⟨a, b, c⟩ := hE _ hI2
    exact ⟨v, h2, rfl, a, b, c⟩
theorem rCall_m259_1 {h : zH} {i j : Int32} {R : vRl} (k : MI h R) : wq 259 0 [(0, .ref 162), (1, .int 1), (2, .int i), (3, .int j)] [] h 0 0 (rOk h R) := by
  refine MI_iv k ?_
  intro wn kn lo hi sv sq wy nw n0 n2 n14 n15 n16 n17 n18 n19 n20 n21 n22 n23 n27 n28 n32 n33 n34 n35 n39 n52 am9 hw10 hM hI hE
  by_cases hc : (0 ≤ i.toInt ∧ i.toInt < (wn : Int))
  · obtain ⟨i9, e8, hi9⟩ : ∃ n : Nat, i = nI n ∧ n < wn := ⟨i.toNatClampNeg, nI_cl hc.1, by show i.toInt.toNat < wn; omega⟩
    subst e8
    by_cases hw9 : 0 ≤ j.toInt ∧ j.toInt ≤ 5
    · obtain ⟨j9, e9, hj9⟩ : ∃ n : Nat, j = nI n ∧ n ≤ 5 := ⟨j.toNatClampNeg, nI_cl hw9.1, by show j.toInt.toNat ≤ 5; omega⟩
      subst e9
      refine wq_mono (m_o259_1 hM hI (by omega) hi9) ?_
      rintro _ ⟨v, h2, rfl, hI2⟩
      obtain ⟨a, b, c⟩ := hE _ hI2
      exact ⟨v, h2, rfl, a, b, c⟩
    · have hx9 : j.toInt < 0 ∨ 5 < j.toInt := by omega
      refine wq_mono (m_o259J_1 hM hI hx9) ?_
      rintro _ ⟨v, h2, rfl, hI2⟩
      obtain ⟨a, b, c⟩ := hE _ hI2
      exact ⟨v, h2, rfl, a, b, c⟩
  · refine wq_mono (m_o259I_1 hM hI (by omega)) ?_
    rintro _ ⟨v, h2, rfl, hI2⟩
    obtain ⟨a, b, c⟩ := hE _ hI2
    exact ⟨v, h2, rfl, a, b, c⟩
