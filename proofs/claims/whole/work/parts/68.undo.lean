/-! ===== 68: resell, undo ===== -/
/-- a resold row comes behind -/
def adR (T : Nat → Nat) (g p r d : Nat) : Nat → Nat := uT (uT (uT (uT (uT T (176 + 4 * T 4 + 0) g) (176 + 4 * T 4 + 1) p) (176 + 4 * T 4 + 2) r) (176 + 4 * T 4 + 3) d) 4 (T 4 + 1)
section RS
variable {n : Nat} {I : Nat → Nat → Int32} {J : Nat → Nat → Int64} {T U : Nat → Nat}
theorem adR_cases (T : Nat → Nat) (g p r d j : Nat) : (j = 4 ∧ adR T g p r d j = T 4 + 1) ∨ (j ≠ 4 ∧ ((j = 176 + 4 * T 4 ∧ adR T g p r d j = g) ∨ (j = 177 + 4 * T 4 ∧ adR T g p r d j = p) ∨ (j = 178 + 4 * T 4 ∧ adR T g p r d j = r) ∨ (j = 179 + 4 * T 4 ∧ adR T g p r d j = d) ∨ ((j < 176 + 4 * T 4 ∨ 180 + 4 * T 4 ≤ j) ∧ adR T g p r d j = T j))) := by
  unfold adR uT
  by_cases h1 : j = 4
  · rw [if_pos h1]; exact Or.inl ⟨h1, rfl⟩
  · rw [if_neg h1]
    refine Or.inr ⟨h1, ?_⟩
    by_cases h2 : j = 176 + 4 * T 4 + 3
    · rw [if_pos h2]; omega
    · rw [if_neg h2]
      by_cases h3 : j = 176 + 4 * T 4 + 2
      · rw [if_pos h3]; omega
      · rw [if_neg h3]
        by_cases h4 : j = 176 + 4 * T 4 + 1
        · rw [if_pos h4]; omega
        · rw [if_neg h4]
          by_cases h5 : j = 176 + 4 * T 4 + 0
          · rw [if_pos h5]; omega
          · rw [if_neg h5]; omega
set_option maxHeartbeats 4000000 in
theorem VT.adRow (hT : VT T) {g p r d : Nat} (h4 : T 4 < 12) (hg : g < T 1) (hp : 1 ≤ p ∧ p ≤ 9999) (hr : 1 ≤ r ∧ r ≤ 9999) (hd : d ≤ 999) : VT (adR T g p r d) := by
  have c := adR_cases T g p r d
  have f0 : adR T g p r d 0 = T 0 := by have := c 0; omega
  have f1 : adR T g p r d 1 = T 1 := by have := c 1; omega
  have f2 : adR T g p r d 2 = T 2 := by have := c 2; omega
  have f3 : adR T g p r d 3 = T 3 := by have := c 3; omega
  have f4 : adR T g p r d 4 = T 4 + 1 := by have := c 4; omega
  have f5 : adR T g p r d 5 = T 5 := by have := c 5; omega
  have f11 : adR T g p r d 11 = T 11 := by have := c 11; omega
  obtain ⟨ha, hb, c1, c2, c3, c4, c5, c6, c7, c8⟩ := hT
  have lo : ∀ j, j < 176 → j ≠ 4 → adR T g p r d j = T j := fun j h1 h2 => by have := c j; omega
  have hi : ∀ j, 224 ≤ j → adR T g p r d j = T j := fun j h1 => by have := c j; omega
  refine ⟨?_, ?_, ?_, ?_, ?_, ?_, ?_, ?_, ?_, ?_⟩
  · rw [f0, f1, f2, f3, f4, f5]; omega
  · rw [lo 6 (by omega) (by omega), lo 7 (by omega) (by omega), lo 8 (by omega) (by omega), lo 9 (by omega) (by omega), lo 10 (by omega) (by omega), f11]; exact hb
  · intro i hi'
    rw [f11] at hi'
    rw [f0, lo _ (by omega) (by omega), lo _ (by omega) (by omega)]
    exact c1 i hi'
  · intro i l hil hl
    rw [f11] at hl
    rw [lo _ (by omega) (by omega), lo _ (by omega) (by omega), lo _ (by omega) (by omega), lo _ (by omega) (by omega)]
    exact c2 i l hil hl
  · intro a h
    rw [f2] at h
    rw [lo _ (by omega) (by omega)]
    exact c3 a h
  · intro s hs
    rw [f3] at hs
    rw [f0, f1, lo _ (by omega) (by omega), lo _ (by omega) (by omega), lo _ (by omega) (by omega), lo _ (by omega) (by omega), lo _ (by omega) (by omega), lo _ (by omega) (by omega), lo _ (by omega) (by omega), lo _ (by omega) (by omega), lo _ (by omega) (by omega)]
    exact c4 s hs
  · intro x hx
    rw [f4] at hx
    rw [f1]
    have x0 := c (176 + 4 * x)
    have x1 := c (177 + 4 * x)
    have x2 := c (178 + 4 * x)
    have x3 := c (179 + 4 * x)
    by_cases hxr : x = T 4
    · exact ⟨by omega, by omega, by omega, by omega⟩
    · obtain ⟨d0, d1, d2, d3⟩ := c5 x (by omega)
      exact ⟨by omega, by omega, by omega, by omega⟩
  · intro i hi'
    rw [f1] at hi'
    rw [lo _ (by omega) (by omega)]
    exact c6 i hi'
  · intro b hb'
    rw [f5] at hb'
    rw [hi _ (by omega)]
    exact c7 b hb'
  · intro j
    have := c j
    have := c8 j
    have := c8 4
    omega
theorem told_eq (h : ∀ k, 11 ≤ k → k < 24 → U k = T k) (h11 : T 11 ≤ 6) (x y : Nat) : told U x y ↔ told T x y := by
  unfold told
  rw [h 11 (by omega) (by omega)]
  constructor
  · rintro ⟨k, hk, z⟩
    rw [h _ (by omega) (by omega), h _ (by omega) (by omega)] at z
    exact ⟨k, hk, z⟩
  · rintro ⟨k, hk, z⟩
    refine ⟨k, hk, ?_⟩
    rw [h _ (by omega) (by omega), h _ (by omega) (by omega)]
    exact z
theorem WR.same {b : Nat} (h : WR I b T) (hs : same T U) : WR I b U := by
  obtain ⟨h1, h2, h3, h4, h5, h6, h7, h8⟩ := h
  obtain ⟨s1, s2, s3, s4, s5, s6, s7⟩ := hs
  have e1 := s1 1 (by omega)
  have e2 := s1 2 (by omega)
  have e3 := s1 3 (by omega)
  have e4 := s1 4 (by omega)
  have e5 := s1 5 (by omega)
  refine ⟨fun k hk => by rw [← s1 k (by omega)]; exact h1 k hk, by rw [← s1 11 (by omega)]; exact h2, fun g j hg hj => by rw [← s2 g j (by omega) hj]; exact h3 g j (by omega) hj, fun a j ha hj => by rw [← s3 a j (by omega) hj]; exact h4 a j (by omega) hj, fun s j hs hj => by rw [← s4 s j (by omega) hj]; exact h5 s j (by omega) hj, fun r j hr hj => by rw [← s5 r j (by omega) hj]; exact h6 r j (by omega) hj, fun q j hq hj => by rw [← s6 q j (by omega) hj]; exact h7 q j (by omega) hj, fun p hp => ?_⟩
  obtain ⟨m, m1, m2, m3⟩ := h8 p hp
  exact ⟨m, m1, m2, fun q hq => by rw [← s7 p q]; exact m3 q hq⟩
theorem WR.less4 {b v : Nat} (hT : VT T) (h : WR I b T) (hv : v ≤ T 4) : WR (u2 I (b + 1) 4 (nI v)) b (uT T 4 v) := by
  have b0 := hT.1
  have b1 := hT.2.1
  obtain ⟨h1, h2, h3, h4, h5, h6, h7, h8⟩ := h
  refine ⟨fun k hk => ?_, ?_, fun g j hg hj => ?_, fun a j ha hj => ?_, fun s j hs hj => ?_, fun r j hr hj => ?_, fun q j hq hj => ?_, fun p hp => ?_⟩
  · by_cases hk4 : k = 4
    · subst hk4; rw [u2_at, uT_at]
    · rw [u2_no _ _ (by omega), uT_no _ _ hk4]; exact h1 k hk
  · rw [u2_no _ _ (by omega), uT_no _ _ (by omega)]; exact h2
  · rw [uT_no _ _ (by omega)] at hg
    rw [u2_no _ _ (by omega), uT_no _ _ (by omega)]; exact h3 g j hg hj
  · rw [uT_no _ _ (by omega)] at ha
    rw [u2_no _ _ (by omega), uT_no _ _ (by omega)]; exact h4 a j ha hj
  · rw [uT_no _ _ (by omega)] at hs
    rw [u2_no _ _ (by omega), uT_no _ _ (by omega)]; exact h5 s j hs hj
  · rw [uT_at] at hr
    rw [u2_no _ _ (by omega), uT_no _ _ (by omega)]; exact h6 r j (by omega) hj
  · rw [uT_no _ _ (by omega)] at hq
    rw [u2_no _ _ (by omega), uT_no _ _ (by omega)]; exact h7 q j hq hj
  · obtain ⟨m, m1, m2, m3⟩ := h8 p hp
    refine ⟨m, m1, by rw [u2_no _ _ (by omega)]; exact m2, fun q hq => by rw [told_uT (by omega) (by omega)]; exact m3 q hq⟩
end RS
set_option maxHeartbeats 8000000 in
theorem sim_resell : SIM_resell Inv 0 224 := by
  intro h c1 c2 c3 c4 hI
  obtain ⟨n, I, J, rfl, T, hI⟩ := hI
  have hI : INVT I J T := hI
  have hT := hI.1
  have hN := hI.2.1
  have hW := hI.2.2.1
  have b0 := hT.1
  have hR0 := hI.rq.th (nI 0)
  have noB : ∀ x2 x3 x4 : Int32, mX9_resell_b41 (mk n I J) 0 c1 x2 x3 x4 = some (M1, mk n I J) := fun x2 x3 x4 => by
    unfold mX9_resell_b41 mX9_resell_b42
    simp (disch := omega) only [mk_oO o_0, mk_oO o_1, mk_oO o_3, mk_gR f_0_0, mk_gR f_0_1, mk_gR f_0_2, mk_gR f_0_3, mk_gR f_0_4, mk_gR f_0_5, mk_gR f_0_6, mk_gR f_0_7, mk_gR f_0_8, mk_gR f_0_9, mk_gI f_0_10, mk_pI f_0_10, mk_gR f_1_0, mk_gI f_1_1, mk_pI f_1_1, mk_gR f_3_0, mk_gR f_3_1, mk_gR f_3_2, mk_gR f_3_3, mk_gR f_3_4, mk_gR f_3_5, mk_gR f_3_6, mk_gR f_3_7, ↓m_1, ↓m_2, i_0, i_1, i_2, i_3, i_4, i_6, i_5, i_12, i_11, i_10, i_9999, i_7, i_9, i_8, i_24, i_100, i_56, i_48, i_13, i_176, i_232, i_224, i_32, i_999, i_99, i_900, i_97, i_90, i_30, i_20, i_59, i_14, i_50, i_29, i_22, i_19, i_18, i_17, i_96, i_61, i_57, i_51, i_41, i_26, i_2552, i_255, i_25, i_23, i_21, i_16, i_15, i_122, i_10000, i_31, dzF, obs, b2_some, rz0, rz1, rzb, n01, n01', n10, n01e, nI_add, nI_mul, ↓reduceIte, not_false_eq_true, not_true_eq_false, ite_not, CW_t hW]
  by_cases h2 : ((1 : Nat) : Int) ≤ c2.toInt ∧ c2.toInt ≤ ((9999 : Nat) : Int)
  · obtain ⟨p, p1, p2, rfl⟩ := rng_of (by decide) h2
    by_cases h3 : ((1 : Nat) : Int) ≤ c3.toInt ∧ c3.toInt ≤ ((9999 : Nat) : Int)
    · obtain ⟨r, r1, r2, rfl⟩ := rng_of (by decide) h3
      by_cases h4 : ((0 : Nat) : Int) ≤ c4.toInt ∧ c4.toInt ≤ ((999 : Nat) : Int)
      · obtain ⟨d, d1, d2, rfl⟩ := rng_of (by decide) h4
        have hcl : mX9_resell (mk n I J) 0 c1 (nI p) (nI r) (nI d) = mX9_resell_b42 (mk n I J) 0 c1 (nI p) (nI r) (nI d) (nI 1) := by
          unfold mX9_resell
          simp (disch := omega) only [mk_oO o_0, mk_oO o_1, mk_oO o_3, mk_gR f_0_0, mk_gR f_0_1, mk_gR f_0_2, mk_gR f_0_3, mk_gR f_0_4, mk_gR f_0_5, mk_gR f_0_6, mk_gR f_0_7, mk_gR f_0_8, mk_gR f_0_9, mk_gI f_0_10, mk_pI f_0_10, mk_gR f_1_0, mk_gI f_1_1, mk_pI f_1_1, mk_gR f_3_0, mk_gR f_3_1, mk_gR f_3_2, mk_gR f_3_3, mk_gR f_3_4, mk_gR f_3_5, mk_gR f_3_6, mk_gR f_3_7, ↓m_1, ↓m_2, i_0, i_1, i_2, i_3, i_4, i_6, i_5, i_12, i_11, i_10, i_9999, i_7, i_9, i_8, i_24, i_100, i_56, i_48, i_13, i_176, i_232, i_224, i_32, i_999, i_99, i_900, i_97, i_90, i_30, i_20, i_59, i_14, i_50, i_29, i_22, i_19, i_18, i_17, i_96, i_61, i_57, i_51, i_41, i_26, i_2552, i_255, i_25, i_23, i_21, i_16, i_15, i_122, i_10000, i_31, dzF, obs, b2_some, rz0, rz1, rzb, n01, n01', n10, n01e, nI_add, nI_mul, ↓reduceIte, not_false_eq_true, not_true_eq_false, ite_not, ltF, nlt0]
        rw [hcl]
        unfold mX9_resell_b42 mX10_resell
        by_cases h1 : ixB c1 (T 1)
        · obtain ⟨g, hg, rfl⟩ := ixB_of (by omega) h1
          by_cases h12 : T 4 = 12
          · refine ⟨M1, mk n I J, _, ?_, ?_, hI.inv.fin0 (n := n) (x := nI 0) (scrt.refl I J)⟩
            · simp (disch := omega) only [mk_oO o_0, mk_oO o_1, mk_oO o_3, mk_gR f_0_0, mk_gR f_0_1, mk_gR f_0_2, mk_gR f_0_3, mk_gR f_0_4, mk_gR f_0_5, mk_gR f_0_6, mk_gR f_0_7, mk_gR f_0_8, mk_gR f_0_9, mk_gI f_0_10, mk_pI f_0_10, mk_gR f_1_0, mk_gI f_1_1, mk_pI f_1_1, mk_gR f_3_0, mk_gR f_3_1, mk_gR f_3_2, mk_gR f_3_3, mk_gR f_3_4, mk_gR f_3_5, mk_gR f_3_6, mk_gR f_3_7, ↓m_1, ↓m_2, i_0, i_1, i_2, i_3, i_4, i_6, i_5, i_12, i_11, i_10, i_9999, i_7, i_9, i_8, i_24, i_100, i_56, i_48, i_13, i_176, i_232, i_224, i_32, i_999, i_99, i_900, i_97, i_90, i_30, i_20, i_59, i_14, i_50, i_29, i_22, i_19, i_18, i_17, i_96, i_61, i_57, i_51, i_41, i_26, i_2552, i_255, i_25, i_23, i_21, i_16, i_15, i_122, i_10000, i_31, dzF, obs, b2_some, rz0, rz1, rzb, n01, n01', n10, n01e, nI_add, nI_mul, ↓reduceIte, not_false_eq_true, not_true_eq_false, ite_not, CW_t hW, has1 hT hW, ltF]
            · simp (disch := omega) only [mk_oO o_224, mk_gI f_224_0, mk_pI f_224_0, mk_gR f_224_1, mk_gR f_224_2, mk_gR f_224_3, mk_gR f_224_4, mk_gR f_224_5, mk_gI f_224_6, mk_pI f_224_6, mk_gR f_224_7, mk_gI f_224_8, mk_pI f_224_8, mk_gI f_224_9, mk_pI f_224_9, mk_gI f_224_10, mk_pI f_224_10, mk_gI f_224_11, mk_pI f_224_11, mk_gI f_224_12, mk_pI f_224_12, mk_gI f_224_13, mk_pI f_224_13, mk_gL f_224_14, mk_pL f_224_14, mk_gI f_224_15, mk_pI f_224_15, mk_gI f_224_16, mk_pI f_224_16, mk_gR f_224_17, mk_gR f_224_18, mk_gR f_224_19, mk_gI f_224_20, mk_pI f_224_20, mk_gR f_224_21, mk_gI f_224_22, mk_pI f_224_22, mk_gI f_224_23, mk_pI f_224_23, mk_gI f_224_24, mk_pI f_224_24, mk_gI f_224_25, mk_pI f_224_25, mk_gR f_224_26, mk_gI f_224_27, mk_pI f_224_27, mk_gI f_224_28, mk_pI f_224_28, mk_gR f_224_29, mk_gI f_224_30, mk_pI f_224_30, mk_gI f_224_31, mk_pI f_224_31, mk_gR f_224_32, mk_gI f_224_33, mk_pI f_224_33, ↓m_1, ↓m_2, i_0, i_1, i_2, i_3, i_4, i_6, i_5, i_12, i_11, i_10, i_9999, i_7, i_9, i_8, i_24, i_100, i_56, i_48, i_13, i_176, i_232, i_224, i_32, i_999, i_99, i_900, i_97, i_90, i_30, i_20, i_59, i_14, i_50, i_29, i_22, i_19, i_18, i_17, i_96, i_61, i_57, i_51, i_41, i_26, i_2552, i_255, i_25, i_23, i_21, i_16, i_15, i_122, i_10000, i_31, l_0, l_1, l_999, l_9999, dzF, obs, b2_some, rz0, rz1, rzb, n01, n01', n10, n01e, nI_add, nI_mul, ↓reduceIte, not_false_eq_true, not_true_eq_false, ite_not, R_now hR0.1, isIn1, within1, h12]
          · have h4' : T 4 < 12 := by omega
            have ac := adR_cases T g p r d
            obtain ⟨-, -, -, hTP, hM, hK0, hK1, ⟨u, nx, P, u1, nx1, b1, b2, b3, hP0, hP⟩, hG, hgg⟩ := id hI
            have hx : ∃ I1 : Nat → Nat → Int32, I1 = u2 (u2 (u2 (u2 (u2 I (31 + T 4) 0 (nI g)) (31 + T 4) 1 (nI p)) (31 + T 4) 2 (nI r)) (31 + T 4) 3 (nI d)) 4 4 (nI (T 4 + 1)) := ⟨_, rfl⟩
            obtain ⟨I1, hI1⟩ := hx
            have f1 : ∀ a c, a ≠ 31 + T 4 → ¬ (a = 4 ∧ c = 4) → I1 a c = I a c := fun a c k1 k2 => by
              rw [hI1, u2_no _ _ (by omega), u2_no _ _ (by omega), u2_no _ _ (by omega), u2_no _ _ (by omega), u2_no _ _ (by omega)]
            obtain ⟨I2, e2, f2, q1, q2, r0, r1', r2', r3⟩ := C_add (n := n) (J := J) (I := I1) u1 nx1 (by rw [f1 _ _ (by omega) (by omega)]; exact b2) (by rw [f1 _ _ (by omega) (by omega)]; exact b1) (nI 5) (nI 0) (nI 0) (nI (T 4))
            have hq2 : RQ T 10 (u2 I2 224 0 (nI 0)) := ⟨fun i hi => by rw [u2_no _ _ (by omega), f2 _ _ (by omega) (by omega), f1 _ _ (by omega) (by omega)]; exact hN i hi, by rw [u2_no _ _ (by omega), f2 _ _ (by omega) (by omega), f1 _ _ (by omega) (by omega)]; exact hgg⟩
            obtain ⟨I3, e3, f3, g1, g2, g3⟩ := R_acts (n := n) (J := J) (I := u2 I2 224 0 (nI 0)) u1 (by rw [u2_no _ _ (by omega), f2 _ _ (by omega) (by omega), f1 _ _ (by omega) (by omega)]; exact b3)
            have hq3 : RQ T 10 I3 := ⟨fun i hi => by rw [f3 _ _ (by omega) (by omega)]; exact hq2.1 i hi, by rw [f3 _ _ (by omega) (by omega)]; exact hq2.2⟩
            have hT' : VT (adR T g p r d) := hT.adRow h4' hg ⟨p1, p2⟩ ⟨r1, r2⟩ d2
            have lo : ∀ j, j < 176 → j ≠ 4 → adR T g p r d j = T j := fun j k1 k2 => by have := ac j; omega
            have a4 : adR T g p r d 4 = T 4 + 1 := by have := ac 4; omega
            have tl : ∀ x y, told (adR T g p r d) x y ↔ told T x y := told_eq (fun k k1 k2 => lo k (by omega) (by omega)) hT.2.1.2.2.2.2.2.2
            have hW1 : WR I1 3 (adR T g p r d) := by
              obtain ⟨w1, w2, w3, w4, w5, w6, w7, w8⟩ := hW
              refine ⟨fun k hk => ?_, ?_, fun g' j hg' hj => ?_, fun a j ha hj => ?_, fun s j hs hj => ?_, fun x j hx hj => ?_, fun q j hq hj => ?_, fun p' hp' => ?_⟩
              · by_cases hk4 : k = 4
                · subst hk4; rw [hI1, u2_at, a4]
                · rw [f1 _ _ (by omega) (by omega), lo k (by omega) hk4]; exact w1 k hk
              · rw [f1 _ _ (by omega) (by omega), lo 11 (by omega) (by omega)]; exact w2
              · rw [lo 1 (by omega) (by omega)] at hg'
                rw [f1 _ _ (by omega) (by omega), lo _ (by omega) (by omega)]; exact w3 g' j hg' hj
              · rw [lo 2 (by omega) (by omega)] at ha
                rw [f1 _ _ (by omega) (by omega), lo _ (by omega) (by omega)]; exact w4 a j ha hj
              · rw [lo 3 (by omega) (by omega)] at hs
                rw [f1 _ _ (by omega) (by omega), lo _ (by omega) (by omega)]; exact w5 s j hs hj
              · rw [a4] at hx
                have := ac (176 + 4 * x + j)
                by_cases hxr : x = T 4
                · subst hxr
                  rw [hI1, show 3 + 28 + T 4 = 31 + T 4 by omega, u2_no _ _ (by omega)]
                  rcases (by omega : j = 0 ∨ j = 1 ∨ j = 2 ∨ j = 3) with rfl | rfl | rfl | rfl
                  · rw [u2_no _ _ (by omega), u2_no _ _ (by omega), u2_no _ _ (by omega), u2_at]; congr 1; omega
                  · rw [u2_no _ _ (by omega), u2_no _ _ (by omega), u2_at]; congr 1; omega
                  · rw [u2_no _ _ (by omega), u2_at]; congr 1; omega
                  · rw [u2_at]; congr 1; omega
                · rw [f1 _ _ (by omega) (by omega), show adR T g p r d (176 + 4 * x + j) = T (176 + 4 * x + j) by omega]
                  exact w6 x j (by omega) hj
              · rw [lo 5 (by omega) (by omega)] at hq
                have := ac (224 + 2 * q + j)
                rw [f1 _ _ (by omega) (by omega), show adR T g p r d (224 + 2 * q + j) = T (224 + 2 * q + j) by omega]; exact w7 q j hq hj
              · obtain ⟨m, m1, m2, m3⟩ := w8 p' hp'
                exact ⟨m, m1, by rw [f1 _ _ (by omega) (by omega)]; exact m2, fun q hq => by rw [tl]; exact m3 q hq⟩
            have hact : actR (I2 (120 + nx)) (adR T g p r d) T := by
              refine Or.inr (Or.inr (Or.inr (Or.inr (Or.inr (Or.inl ⟨T 4, r0, r3, by omega, ?_⟩)))))
              have u4 : uT (adR T g p r d) 4 (T 4) 4 = T 4 := uT_at _ _ _
              refine ⟨fun k hk => ?_, fun a j ha hj => ?_, fun a j ha hj => ?_, fun a j ha hj => ?_, fun a j ha hj => ?_, fun a j ha hj => ?_, fun x y => ?_⟩
              · by_cases hk4 : k = 4
                · subst hk4; exact u4
                · rw [uT_no _ _ hk4, lo k (by omega) hk4]
              · rw [uT_no _ _ (by omega), lo 1 (by omega) (by omega)] at ha
                rw [uT_no _ _ (by omega), lo _ (by omega) (by omega)]
              · rw [uT_no _ _ (by omega), lo 2 (by omega) (by omega)] at ha
                rw [uT_no _ _ (by omega), lo _ (by omega) (by omega)]
              · rw [uT_no _ _ (by omega), lo 3 (by omega) (by omega)] at ha
                rw [uT_no _ _ (by omega), lo _ (by omega) (by omega)]
              · rw [u4] at ha
                have := ac (176 + 4 * a + j)
                rw [uT_no _ _ (by omega)]; omega
              · have := ac (224 + 2 * a + j)
                rw [uT_no _ _ (by omega)]; omega
              · rw [told_uT (by rw [lo 11 (by omega) (by omega)]; exact hT.2.1.2.2.2.2.2.2) (by omega), tl]
            have e4 : ∀ j, j < 232 → I3 225 j = nI (T j) := fun j hj => hq3.1.at hj
            have e44 := e4 4 (by decide)
            refine ⟨nI (T 4), mk n I2 J, mk n (u2 (u2 (u2 (u2 (u2 I3 225 (176 + 4 * T 4 + 0) (nI g)) 225 (176 + 4 * T 4 + 1) (nI p)) 225 (176 + 4 * T 4 + 2) (nI r)) 225 (176 + 4 * T 4 + 3) (nI d)) 225 4 (nI (T 4 + 1))) J, ?_, ?_, Inv.of ?_⟩
            · rw [hI1] at e2
              simp (disch := omega) only [mk_oO o_0, mk_oO o_1, mk_oO o_3, mk_gR f_0_0, mk_gR f_0_1, mk_gR f_0_2, mk_gR f_0_3, mk_gR f_0_4, mk_gR f_0_5, mk_gR f_0_6, mk_gR f_0_7, mk_gR f_0_8, mk_gR f_0_9, mk_gI f_0_10, mk_pI f_0_10, mk_gR f_1_0, mk_gI f_1_1, mk_pI f_1_1, mk_gR f_3_0, mk_gR f_3_1, mk_gR f_3_2, mk_gR f_3_3, mk_gR f_3_4, mk_gR f_3_5, mk_gR f_3_6, mk_gR f_3_7, ↓m_1, ↓m_2, i_0, i_1, i_2, i_3, i_4, i_6, i_5, i_12, i_11, i_10, i_9999, i_7, i_9, i_8, i_24, i_100, i_56, i_48, i_13, i_176, i_232, i_224, i_32, i_999, i_99, i_900, i_97, i_90, i_30, i_20, i_59, i_14, i_50, i_29, i_22, i_19, i_18, i_17, i_96, i_61, i_57, i_51, i_41, i_26, i_2552, i_255, i_25, i_23, i_21, i_16, i_15, i_122, i_10000, i_31, dzF, obs, b2_some, rz0, rz1, rzb, n01, n01', n10, n01e, nI_add, nI_mul, ↓reduceIte, not_false_eq_true, not_true_eq_false, ite_not, CW_t hW, has1 hT hW, ltT, R_30, S_31, mk_sIn a_4, e2]
            · simp (disch := omega) only [mk_oO o_224, mk_gI f_224_0, mk_pI f_224_0, mk_gR f_224_1, mk_gR f_224_2, mk_gR f_224_3, mk_gR f_224_4, mk_gR f_224_5, mk_gI f_224_6, mk_pI f_224_6, mk_gR f_224_7, mk_gI f_224_8, mk_pI f_224_8, mk_gI f_224_9, mk_pI f_224_9, mk_gI f_224_10, mk_pI f_224_10, mk_gI f_224_11, mk_pI f_224_11, mk_gI f_224_12, mk_pI f_224_12, mk_gI f_224_13, mk_pI f_224_13, mk_gL f_224_14, mk_pL f_224_14, mk_gI f_224_15, mk_pI f_224_15, mk_gI f_224_16, mk_pI f_224_16, mk_gR f_224_17, mk_gR f_224_18, mk_gR f_224_19, mk_gI f_224_20, mk_pI f_224_20, mk_gR f_224_21, mk_gI f_224_22, mk_pI f_224_22, mk_gI f_224_23, mk_pI f_224_23, mk_gI f_224_24, mk_pI f_224_24, mk_gI f_224_25, mk_pI f_224_25, mk_gR f_224_26, mk_gI f_224_27, mk_pI f_224_27, mk_gI f_224_28, mk_pI f_224_28, mk_gR f_224_29, mk_gI f_224_30, mk_pI f_224_30, mk_gI f_224_31, mk_pI f_224_31, mk_gR f_224_32, mk_gI f_224_33, mk_pI f_224_33, ↓m_1, ↓m_2, i_0, i_1, i_2, i_3, i_4, i_6, i_5, i_12, i_11, i_10, i_9999, i_7, i_9, i_8, i_24, i_100, i_56, i_48, i_13, i_176, i_232, i_224, i_32, i_999, i_99, i_900, i_97, i_90, i_30, i_20, i_59, i_14, i_50, i_29, i_22, i_19, i_18, i_17, i_96, i_61, i_57, i_51, i_41, i_26, i_2552, i_255, i_25, i_23, i_21, i_16, i_15, i_122, i_10000, i_31, l_0, l_1, l_999, l_9999, dzF, obs, b2_some, rz0, rz1, rzb, n01, n01', n10, n01e, nI_add, nI_mul, ↓reduceIte, not_false_eq_true, not_true_eq_false, ite_not, R_now hq2.1, isIn1, within1, eqF, e3, mk_aIn a_225, e44, mk_sIn a_225, u2_no, u2_at, nI_sub, Nat.add_sub_cancel]
            · refine INV.relA hI u1 nx1 hP0 hP hT' (lo 3 (by omega) (by omega)) (hW1.scr hT' (fun a c z1 z2 => f2 _ _ (by omega) (by omega))) hact (fun a c z1 z2 z3 => by rw [f2 _ _ z2 z3, f1 _ _ (by omega) (by omega)]) q1 q2 f3 g1 g2 g3 (fun a c z => by rw [u2_no _ _ (by omega), u2_no _ _ (by omega), u2_no _ _ (by omega), u2_no _ _ (by omega), u2_no _ _ (by omega)]) (fun j hj => ?_)
              rw [Nat.zero_add]
              have := ac j
              by_cases hj4 : j = 4
              · subst hj4; rw [u2_at, a4]
              · rw [u2_no _ _ (by omega)]
                by_cases k3 : j = 176 + 4 * T 4 + 3
                · rw [show adR T g p r d j = d by omega, k3, u2_at]
                · rw [u2_no _ _ (by omega)]
                  by_cases k2 : j = 176 + 4 * T 4 + 2
                  · rw [show adR T g p r d j = r by omega, k2, u2_at]
                  · rw [u2_no _ _ (by omega)]
                    by_cases k1 : j = 176 + 4 * T 4 + 1
                    · rw [show adR T g p r d j = p by omega, k1, u2_at]
                    · rw [u2_no _ _ (by omega)]
                      by_cases k0 : j = 176 + 4 * T 4 + 0
                      · rw [show adR T g p r d j = g by omega, k0, u2_at]
                      · rw [u2_no _ _ (by omega), e4 j hj, show adR T g p r d j = T j by omega]
        · refine ⟨M1, mk n I J, _, ?_, ?_, hI.inv.fin0 (n := n) (x := nI 0) (scrt.refl I J)⟩
          · simp (disch := omega) only [mk_oO o_0, mk_oO o_1, mk_oO o_3, mk_gR f_0_0, mk_gR f_0_1, mk_gR f_0_2, mk_gR f_0_3, mk_gR f_0_4, mk_gR f_0_5, mk_gR f_0_6, mk_gR f_0_7, mk_gR f_0_8, mk_gR f_0_9, mk_gI f_0_10, mk_pI f_0_10, mk_gR f_1_0, mk_gI f_1_1, mk_pI f_1_1, mk_gR f_3_0, mk_gR f_3_1, mk_gR f_3_2, mk_gR f_3_3, mk_gR f_3_4, mk_gR f_3_5, mk_gR f_3_6, mk_gR f_3_7, ↓m_1, ↓m_2, i_0, i_1, i_2, i_3, i_4, i_6, i_5, i_12, i_11, i_10, i_9999, i_7, i_9, i_8, i_24, i_100, i_56, i_48, i_13, i_176, i_232, i_224, i_32, i_999, i_99, i_900, i_97, i_90, i_30, i_20, i_59, i_14, i_50, i_29, i_22, i_19, i_18, i_17, i_96, i_61, i_57, i_51, i_41, i_26, i_2552, i_255, i_25, i_23, i_21, i_16, i_15, i_122, i_10000, i_31, dzF, obs, b2_some, rz0, rz1, rzb, n01, n01', n10, n01e, nI_add, nI_mul, ↓reduceIte, not_false_eq_true, not_true_eq_false, ite_not, CW_t hW, has0 hT hW (k := 1) (by decide) h1]
          · simp (disch := omega) only [mk_oO o_224, mk_gI f_224_0, mk_pI f_224_0, mk_gR f_224_1, mk_gR f_224_2, mk_gR f_224_3, mk_gR f_224_4, mk_gR f_224_5, mk_gI f_224_6, mk_pI f_224_6, mk_gR f_224_7, mk_gI f_224_8, mk_pI f_224_8, mk_gI f_224_9, mk_pI f_224_9, mk_gI f_224_10, mk_pI f_224_10, mk_gI f_224_11, mk_pI f_224_11, mk_gI f_224_12, mk_pI f_224_12, mk_gI f_224_13, mk_pI f_224_13, mk_gL f_224_14, mk_pL f_224_14, mk_gI f_224_15, mk_pI f_224_15, mk_gI f_224_16, mk_pI f_224_16, mk_gR f_224_17, mk_gR f_224_18, mk_gR f_224_19, mk_gI f_224_20, mk_pI f_224_20, mk_gR f_224_21, mk_gI f_224_22, mk_pI f_224_22, mk_gI f_224_23, mk_pI f_224_23, mk_gI f_224_24, mk_pI f_224_24, mk_gI f_224_25, mk_pI f_224_25, mk_gR f_224_26, mk_gI f_224_27, mk_pI f_224_27, mk_gI f_224_28, mk_pI f_224_28, mk_gR f_224_29, mk_gI f_224_30, mk_pI f_224_30, mk_gI f_224_31, mk_pI f_224_31, mk_gR f_224_32, mk_gI f_224_33, mk_pI f_224_33, ↓m_1, ↓m_2, i_0, i_1, i_2, i_3, i_4, i_6, i_5, i_12, i_11, i_10, i_9999, i_7, i_9, i_8, i_24, i_100, i_56, i_48, i_13, i_176, i_232, i_224, i_32, i_999, i_99, i_900, i_97, i_90, i_30, i_20, i_59, i_14, i_50, i_29, i_22, i_19, i_18, i_17, i_96, i_61, i_57, i_51, i_41, i_26, i_2552, i_255, i_25, i_23, i_21, i_16, i_15, i_122, i_10000, i_31, dzF, obs, b2_some, rz0, rz1, rzb, n01, n01', n10, n01e, nI_add, nI_mul, ↓reduceIte, not_false_eq_true, not_true_eq_false, ite_not, R_now hR0.1, isIn0 (hT.l31 1) h1]
      · refine ⟨M1, mk n I J, _, ?_, ?_, hI.inv.fin0 (n := n) (x := nI 0) (scrt.refl I J)⟩
        · unfold mX9_resell
          rcases rng_no (by decide) (by decide) h4 with z | ⟨z1, z2, z3⟩
          · simp (disch := omega) only [mk_oO o_0, mk_oO o_1, mk_oO o_3, mk_gR f_0_0, mk_gR f_0_1, mk_gR f_0_2, mk_gR f_0_3, mk_gR f_0_4, mk_gR f_0_5, mk_gR f_0_6, mk_gR f_0_7, mk_gR f_0_8, mk_gR f_0_9, mk_gI f_0_10, mk_pI f_0_10, mk_gR f_1_0, mk_gI f_1_1, mk_pI f_1_1, mk_gR f_3_0, mk_gR f_3_1, mk_gR f_3_2, mk_gR f_3_3, mk_gR f_3_4, mk_gR f_3_5, mk_gR f_3_6, mk_gR f_3_7, ↓m_1, ↓m_2, i_0, i_1, i_2, i_3, i_4, i_6, i_5, i_12, i_11, i_10, i_9999, i_7, i_9, i_8, i_24, i_100, i_56, i_48, i_13, i_176, i_232, i_224, i_32, i_999, i_99, i_900, i_97, i_90, i_30, i_20, i_59, i_14, i_50, i_29, i_22, i_19, i_18, i_17, i_96, i_61, i_57, i_51, i_41, i_26, i_2552, i_255, i_25, i_23, i_21, i_16, i_15, i_122, i_10000, i_31, dzF, obs, b2_some, rz0, rz1, rzb, n01, n01', n10, n01e, nI_add, nI_mul, ↓reduceIte, not_false_eq_true, not_true_eq_false, ite_not, ltF, z, noB]
          · simp (disch := omega) only [mk_oO o_0, mk_oO o_1, mk_oO o_3, mk_gR f_0_0, mk_gR f_0_1, mk_gR f_0_2, mk_gR f_0_3, mk_gR f_0_4, mk_gR f_0_5, mk_gR f_0_6, mk_gR f_0_7, mk_gR f_0_8, mk_gR f_0_9, mk_gI f_0_10, mk_pI f_0_10, mk_gR f_1_0, mk_gI f_1_1, mk_pI f_1_1, mk_gR f_3_0, mk_gR f_3_1, mk_gR f_3_2, mk_gR f_3_3, mk_gR f_3_4, mk_gR f_3_5, mk_gR f_3_6, mk_gR f_3_7, ↓m_1, ↓m_2, i_0, i_1, i_2, i_3, i_4, i_6, i_5, i_12, i_11, i_10, i_9999, i_7, i_9, i_8, i_24, i_100, i_56, i_48, i_13, i_176, i_232, i_224, i_32, i_999, i_99, i_900, i_97, i_90, i_30, i_20, i_59, i_14, i_50, i_29, i_22, i_19, i_18, i_17, i_96, i_61, i_57, i_51, i_41, i_26, i_2552, i_255, i_25, i_23, i_21, i_16, i_15, i_122, i_10000, i_31, dzF, obs, b2_some, rz0, rz1, rzb, n01, n01', n10, n01e, nI_add, nI_mul, ↓reduceIte, not_false_eq_true, not_true_eq_false, ite_not, ltF, z1, z3, noB]
        · unfold mX10_resell
          by_cases h1 : ixB c1 (T 1)
          · obtain ⟨g, hg, rfl⟩ := ixB_of (by omega) h1
            simp (disch := omega) only [mk_oO o_224, mk_gI f_224_0, mk_pI f_224_0, mk_gR f_224_1, mk_gR f_224_2, mk_gR f_224_3, mk_gR f_224_4, mk_gR f_224_5, mk_gI f_224_6, mk_pI f_224_6, mk_gR f_224_7, mk_gI f_224_8, mk_pI f_224_8, mk_gI f_224_9, mk_pI f_224_9, mk_gI f_224_10, mk_pI f_224_10, mk_gI f_224_11, mk_pI f_224_11, mk_gI f_224_12, mk_pI f_224_12, mk_gI f_224_13, mk_pI f_224_13, mk_gL f_224_14, mk_pL f_224_14, mk_gI f_224_15, mk_pI f_224_15, mk_gI f_224_16, mk_pI f_224_16, mk_gR f_224_17, mk_gR f_224_18, mk_gR f_224_19, mk_gI f_224_20, mk_pI f_224_20, mk_gR f_224_21, mk_gI f_224_22, mk_pI f_224_22, mk_gI f_224_23, mk_pI f_224_23, mk_gI f_224_24, mk_pI f_224_24, mk_gI f_224_25, mk_pI f_224_25, mk_gR f_224_26, mk_gI f_224_27, mk_pI f_224_27, mk_gI f_224_28, mk_pI f_224_28, mk_gR f_224_29, mk_gI f_224_30, mk_pI f_224_30, mk_gI f_224_31, mk_pI f_224_31, mk_gR f_224_32, mk_gI f_224_33, mk_pI f_224_33, ↓m_1, ↓m_2, i_0, i_1, i_2, i_3, i_4, i_6, i_5, i_12, i_11, i_10, i_9999, i_7, i_9, i_8, i_24, i_100, i_56, i_48, i_13, i_176, i_232, i_224, i_32, i_999, i_99, i_900, i_97, i_90, i_30, i_20, i_59, i_14, i_50, i_29, i_22, i_19, i_18, i_17, i_96, i_61, i_57, i_51, i_41, i_26, i_2552, i_255, i_25, i_23, i_21, i_16, i_15, i_122, i_10000, i_31, l_0, l_1, l_999, l_9999, dzF, obs, b2_some, rz0, rz1, rzb, n01, n01', n10, n01e, nI_add, nI_mul, ↓reduceIte, not_false_eq_true, not_true_eq_false, ite_not, R_now hR0.1, isIn1, within1, within0 (by decide) (by decide) h4]
          · simp (disch := omega) only [mk_oO o_224, mk_gI f_224_0, mk_pI f_224_0, mk_gR f_224_1, mk_gR f_224_2, mk_gR f_224_3, mk_gR f_224_4, mk_gR f_224_5, mk_gI f_224_6, mk_pI f_224_6, mk_gR f_224_7, mk_gI f_224_8, mk_pI f_224_8, mk_gI f_224_9, mk_pI f_224_9, mk_gI f_224_10, mk_pI f_224_10, mk_gI f_224_11, mk_pI f_224_11, mk_gI f_224_12, mk_pI f_224_12, mk_gI f_224_13, mk_pI f_224_13, mk_gL f_224_14, mk_pL f_224_14, mk_gI f_224_15, mk_pI f_224_15, mk_gI f_224_16, mk_pI f_224_16, mk_gR f_224_17, mk_gR f_224_18, mk_gR f_224_19, mk_gI f_224_20, mk_pI f_224_20, mk_gR f_224_21, mk_gI f_224_22, mk_pI f_224_22, mk_gI f_224_23, mk_pI f_224_23, mk_gI f_224_24, mk_pI f_224_24, mk_gI f_224_25, mk_pI f_224_25, mk_gR f_224_26, mk_gI f_224_27, mk_pI f_224_27, mk_gI f_224_28, mk_pI f_224_28, mk_gR f_224_29, mk_gI f_224_30, mk_pI f_224_30, mk_gI f_224_31, mk_pI f_224_31, mk_gR f_224_32, mk_gI f_224_33, mk_pI f_224_33, ↓m_1, ↓m_2, i_0, i_1, i_2, i_3, i_4, i_6, i_5, i_12, i_11, i_10, i_9999, i_7, i_9, i_8, i_24, i_100, i_56, i_48, i_13, i_176, i_232, i_224, i_32, i_999, i_99, i_900, i_97, i_90, i_30, i_20, i_59, i_14, i_50, i_29, i_22, i_19, i_18, i_17, i_96, i_61, i_57, i_51, i_41, i_26, i_2552, i_255, i_25, i_23, i_21, i_16, i_15, i_122, i_10000, i_31, dzF, obs, b2_some, rz0, rz1, rzb, n01, n01', n10, n01e, nI_add, nI_mul, ↓reduceIte, not_false_eq_true, not_true_eq_false, ite_not, R_now hR0.1, isIn0 (hT.l31 1) h1]
    · refine ⟨M1, mk n I J, _, ?_, ?_, hI.inv.fin0 (n := n) (x := nI 0) (scrt.refl I J)⟩
      · unfold mX9_resell
        rcases rng_no (by decide) (by decide) h3 with z | ⟨z1, z2, z3⟩
        · simp (disch := omega) only [mk_oO o_0, mk_oO o_1, mk_oO o_3, mk_gR f_0_0, mk_gR f_0_1, mk_gR f_0_2, mk_gR f_0_3, mk_gR f_0_4, mk_gR f_0_5, mk_gR f_0_6, mk_gR f_0_7, mk_gR f_0_8, mk_gR f_0_9, mk_gI f_0_10, mk_pI f_0_10, mk_gR f_1_0, mk_gI f_1_1, mk_pI f_1_1, mk_gR f_3_0, mk_gR f_3_1, mk_gR f_3_2, mk_gR f_3_3, mk_gR f_3_4, mk_gR f_3_5, mk_gR f_3_6, mk_gR f_3_7, ↓m_1, ↓m_2, i_0, i_1, i_2, i_3, i_4, i_6, i_5, i_12, i_11, i_10, i_9999, i_7, i_9, i_8, i_24, i_100, i_56, i_48, i_13, i_176, i_232, i_224, i_32, i_999, i_99, i_900, i_97, i_90, i_30, i_20, i_59, i_14, i_50, i_29, i_22, i_19, i_18, i_17, i_96, i_61, i_57, i_51, i_41, i_26, i_2552, i_255, i_25, i_23, i_21, i_16, i_15, i_122, i_10000, i_31, dzF, obs, b2_some, rz0, rz1, rzb, n01, n01', n10, n01e, nI_add, nI_mul, ↓reduceIte, not_false_eq_true, not_true_eq_false, ite_not, ltF, z, noB]
        · simp (disch := omega) only [mk_oO o_0, mk_oO o_1, mk_oO o_3, mk_gR f_0_0, mk_gR f_0_1, mk_gR f_0_2, mk_gR f_0_3, mk_gR f_0_4, mk_gR f_0_5, mk_gR f_0_6, mk_gR f_0_7, mk_gR f_0_8, mk_gR f_0_9, mk_gI f_0_10, mk_pI f_0_10, mk_gR f_1_0, mk_gI f_1_1, mk_pI f_1_1, mk_gR f_3_0, mk_gR f_3_1, mk_gR f_3_2, mk_gR f_3_3, mk_gR f_3_4, mk_gR f_3_5, mk_gR f_3_6, mk_gR f_3_7, ↓m_1, ↓m_2, i_0, i_1, i_2, i_3, i_4, i_6, i_5, i_12, i_11, i_10, i_9999, i_7, i_9, i_8, i_24, i_100, i_56, i_48, i_13, i_176, i_232, i_224, i_32, i_999, i_99, i_900, i_97, i_90, i_30, i_20, i_59, i_14, i_50, i_29, i_22, i_19, i_18, i_17, i_96, i_61, i_57, i_51, i_41, i_26, i_2552, i_255, i_25, i_23, i_21, i_16, i_15, i_122, i_10000, i_31, dzF, obs, b2_some, rz0, rz1, rzb, n01, n01', n10, n01e, nI_add, nI_mul, ↓reduceIte, not_false_eq_true, not_true_eq_false, ite_not, ltF, z1, z3, noB]
      · unfold mX10_resell
        by_cases h1 : ixB c1 (T 1)
        · obtain ⟨g, hg, rfl⟩ := ixB_of (by omega) h1
          simp (disch := omega) only [mk_oO o_224, mk_gI f_224_0, mk_pI f_224_0, mk_gR f_224_1, mk_gR f_224_2, mk_gR f_224_3, mk_gR f_224_4, mk_gR f_224_5, mk_gI f_224_6, mk_pI f_224_6, mk_gR f_224_7, mk_gI f_224_8, mk_pI f_224_8, mk_gI f_224_9, mk_pI f_224_9, mk_gI f_224_10, mk_pI f_224_10, mk_gI f_224_11, mk_pI f_224_11, mk_gI f_224_12, mk_pI f_224_12, mk_gI f_224_13, mk_pI f_224_13, mk_gL f_224_14, mk_pL f_224_14, mk_gI f_224_15, mk_pI f_224_15, mk_gI f_224_16, mk_pI f_224_16, mk_gR f_224_17, mk_gR f_224_18, mk_gR f_224_19, mk_gI f_224_20, mk_pI f_224_20, mk_gR f_224_21, mk_gI f_224_22, mk_pI f_224_22, mk_gI f_224_23, mk_pI f_224_23, mk_gI f_224_24, mk_pI f_224_24, mk_gI f_224_25, mk_pI f_224_25, mk_gR f_224_26, mk_gI f_224_27, mk_pI f_224_27, mk_gI f_224_28, mk_pI f_224_28, mk_gR f_224_29, mk_gI f_224_30, mk_pI f_224_30, mk_gI f_224_31, mk_pI f_224_31, mk_gR f_224_32, mk_gI f_224_33, mk_pI f_224_33, ↓m_1, ↓m_2, i_0, i_1, i_2, i_3, i_4, i_6, i_5, i_12, i_11, i_10, i_9999, i_7, i_9, i_8, i_24, i_100, i_56, i_48, i_13, i_176, i_232, i_224, i_32, i_999, i_99, i_900, i_97, i_90, i_30, i_20, i_59, i_14, i_50, i_29, i_22, i_19, i_18, i_17, i_96, i_61, i_57, i_51, i_41, i_26, i_2552, i_255, i_25, i_23, i_21, i_16, i_15, i_122, i_10000, i_31, l_0, l_1, l_999, l_9999, dzF, obs, b2_some, rz0, rz1, rzb, n01, n01', n10, n01e, nI_add, nI_mul, ↓reduceIte, not_false_eq_true, not_true_eq_false, ite_not, R_now hR0.1, isIn1, within1, within0 (by decide) (by decide) h3]
        · simp (disch := omega) only [mk_oO o_224, mk_gI f_224_0, mk_pI f_224_0, mk_gR f_224_1, mk_gR f_224_2, mk_gR f_224_3, mk_gR f_224_4, mk_gR f_224_5, mk_gI f_224_6, mk_pI f_224_6, mk_gR f_224_7, mk_gI f_224_8, mk_pI f_224_8, mk_gI f_224_9, mk_pI f_224_9, mk_gI f_224_10, mk_pI f_224_10, mk_gI f_224_11, mk_pI f_224_11, mk_gI f_224_12, mk_pI f_224_12, mk_gI f_224_13, mk_pI f_224_13, mk_gL f_224_14, mk_pL f_224_14, mk_gI f_224_15, mk_pI f_224_15, mk_gI f_224_16, mk_pI f_224_16, mk_gR f_224_17, mk_gR f_224_18, mk_gR f_224_19, mk_gI f_224_20, mk_pI f_224_20, mk_gR f_224_21, mk_gI f_224_22, mk_pI f_224_22, mk_gI f_224_23, mk_pI f_224_23, mk_gI f_224_24, mk_pI f_224_24, mk_gI f_224_25, mk_pI f_224_25, mk_gR f_224_26, mk_gI f_224_27, mk_pI f_224_27, mk_gI f_224_28, mk_pI f_224_28, mk_gR f_224_29, mk_gI f_224_30, mk_pI f_224_30, mk_gI f_224_31, mk_pI f_224_31, mk_gR f_224_32, mk_gI f_224_33, mk_pI f_224_33, ↓m_1, ↓m_2, i_0, i_1, i_2, i_3, i_4, i_6, i_5, i_12, i_11, i_10, i_9999, i_7, i_9, i_8, i_24, i_100, i_56, i_48, i_13, i_176, i_232, i_224, i_32, i_999, i_99, i_900, i_97, i_90, i_30, i_20, i_59, i_14, i_50, i_29, i_22, i_19, i_18, i_17, i_96, i_61, i_57, i_51, i_41, i_26, i_2552, i_255, i_25, i_23, i_21, i_16, i_15, i_122, i_10000, i_31, dzF, obs, b2_some, rz0, rz1, rzb, n01, n01', n10, n01e, nI_add, nI_mul, ↓reduceIte, not_false_eq_true, not_true_eq_false, ite_not, R_now hR0.1, isIn0 (hT.l31 1) h1]
  · refine ⟨M1, mk n I J, _, ?_, ?_, hI.inv.fin0 (n := n) (x := nI 0) (scrt.refl I J)⟩
    · unfold mX9_resell
      rcases rng_no (by decide) (by decide) h2 with z | ⟨z1, z2, z3⟩
      · simp (disch := omega) only [mk_oO o_0, mk_oO o_1, mk_oO o_3, mk_gR f_0_0, mk_gR f_0_1, mk_gR f_0_2, mk_gR f_0_3, mk_gR f_0_4, mk_gR f_0_5, mk_gR f_0_6, mk_gR f_0_7, mk_gR f_0_8, mk_gR f_0_9, mk_gI f_0_10, mk_pI f_0_10, mk_gR f_1_0, mk_gI f_1_1, mk_pI f_1_1, mk_gR f_3_0, mk_gR f_3_1, mk_gR f_3_2, mk_gR f_3_3, mk_gR f_3_4, mk_gR f_3_5, mk_gR f_3_6, mk_gR f_3_7, ↓m_1, ↓m_2, i_0, i_1, i_2, i_3, i_4, i_6, i_5, i_12, i_11, i_10, i_9999, i_7, i_9, i_8, i_24, i_100, i_56, i_48, i_13, i_176, i_232, i_224, i_32, i_999, i_99, i_900, i_97, i_90, i_30, i_20, i_59, i_14, i_50, i_29, i_22, i_19, i_18, i_17, i_96, i_61, i_57, i_51, i_41, i_26, i_2552, i_255, i_25, i_23, i_21, i_16, i_15, i_122, i_10000, i_31, dzF, obs, b2_some, rz0, rz1, rzb, n01, n01', n10, n01e, nI_add, nI_mul, ↓reduceIte, not_false_eq_true, not_true_eq_false, ite_not, z, noB]
      · simp (disch := omega) only [mk_oO o_0, mk_oO o_1, mk_oO o_3, mk_gR f_0_0, mk_gR f_0_1, mk_gR f_0_2, mk_gR f_0_3, mk_gR f_0_4, mk_gR f_0_5, mk_gR f_0_6, mk_gR f_0_7, mk_gR f_0_8, mk_gR f_0_9, mk_gI f_0_10, mk_pI f_0_10, mk_gR f_1_0, mk_gI f_1_1, mk_pI f_1_1, mk_gR f_3_0, mk_gR f_3_1, mk_gR f_3_2, mk_gR f_3_3, mk_gR f_3_4, mk_gR f_3_5, mk_gR f_3_6, mk_gR f_3_7, ↓m_1, ↓m_2, i_0, i_1, i_2, i_3, i_4, i_6, i_5, i_12, i_11, i_10, i_9999, i_7, i_9, i_8, i_24, i_100, i_56, i_48, i_13, i_176, i_232, i_224, i_32, i_999, i_99, i_900, i_97, i_90, i_30, i_20, i_59, i_14, i_50, i_29, i_22, i_19, i_18, i_17, i_96, i_61, i_57, i_51, i_41, i_26, i_2552, i_255, i_25, i_23, i_21, i_16, i_15, i_122, i_10000, i_31, dzF, obs, b2_some, rz0, rz1, rzb, n01, n01', n10, n01e, nI_add, nI_mul, ↓reduceIte, not_false_eq_true, not_true_eq_false, ite_not, z1, z3, noB]
    · unfold mX10_resell
      by_cases h1 : ixB c1 (T 1)
      · obtain ⟨g, hg, rfl⟩ := ixB_of (by omega) h1
        simp (disch := omega) only [mk_oO o_224, mk_gI f_224_0, mk_pI f_224_0, mk_gR f_224_1, mk_gR f_224_2, mk_gR f_224_3, mk_gR f_224_4, mk_gR f_224_5, mk_gI f_224_6, mk_pI f_224_6, mk_gR f_224_7, mk_gI f_224_8, mk_pI f_224_8, mk_gI f_224_9, mk_pI f_224_9, mk_gI f_224_10, mk_pI f_224_10, mk_gI f_224_11, mk_pI f_224_11, mk_gI f_224_12, mk_pI f_224_12, mk_gI f_224_13, mk_pI f_224_13, mk_gL f_224_14, mk_pL f_224_14, mk_gI f_224_15, mk_pI f_224_15, mk_gI f_224_16, mk_pI f_224_16, mk_gR f_224_17, mk_gR f_224_18, mk_gR f_224_19, mk_gI f_224_20, mk_pI f_224_20, mk_gR f_224_21, mk_gI f_224_22, mk_pI f_224_22, mk_gI f_224_23, mk_pI f_224_23, mk_gI f_224_24, mk_pI f_224_24, mk_gI f_224_25, mk_pI f_224_25, mk_gR f_224_26, mk_gI f_224_27, mk_pI f_224_27, mk_gI f_224_28, mk_pI f_224_28, mk_gR f_224_29, mk_gI f_224_30, mk_pI f_224_30, mk_gI f_224_31, mk_pI f_224_31, mk_gR f_224_32, mk_gI f_224_33, mk_pI f_224_33, ↓m_1, ↓m_2, i_0, i_1, i_2, i_3, i_4, i_6, i_5, i_12, i_11, i_10, i_9999, i_7, i_9, i_8, i_24, i_100, i_56, i_48, i_13, i_176, i_232, i_224, i_32, i_999, i_99, i_900, i_97, i_90, i_30, i_20, i_59, i_14, i_50, i_29, i_22, i_19, i_18, i_17, i_96, i_61, i_57, i_51, i_41, i_26, i_2552, i_255, i_25, i_23, i_21, i_16, i_15, i_122, i_10000, i_31, l_0, l_1, l_999, l_9999, dzF, obs, b2_some, rz0, rz1, rzb, n01, n01', n10, n01e, nI_add, nI_mul, ↓reduceIte, not_false_eq_true, not_true_eq_false, ite_not, R_now hR0.1, isIn1, within0 (by decide) (by decide) h2]
      · simp (disch := omega) only [mk_oO o_224, mk_gI f_224_0, mk_pI f_224_0, mk_gR f_224_1, mk_gR f_224_2, mk_gR f_224_3, mk_gR f_224_4, mk_gR f_224_5, mk_gI f_224_6, mk_pI f_224_6, mk_gR f_224_7, mk_gI f_224_8, mk_pI f_224_8, mk_gI f_224_9, mk_pI f_224_9, mk_gI f_224_10, mk_pI f_224_10, mk_gI f_224_11, mk_pI f_224_11, mk_gI f_224_12, mk_pI f_224_12, mk_gI f_224_13, mk_pI f_224_13, mk_gL f_224_14, mk_pL f_224_14, mk_gI f_224_15, mk_pI f_224_15, mk_gI f_224_16, mk_pI f_224_16, mk_gR f_224_17, mk_gR f_224_18, mk_gR f_224_19, mk_gI f_224_20, mk_pI f_224_20, mk_gR f_224_21, mk_gI f_224_22, mk_pI f_224_22, mk_gI f_224_23, mk_pI f_224_23, mk_gI f_224_24, mk_pI f_224_24, mk_gI f_224_25, mk_pI f_224_25, mk_gR f_224_26, mk_gI f_224_27, mk_pI f_224_27, mk_gI f_224_28, mk_pI f_224_28, mk_gR f_224_29, mk_gI f_224_30, mk_pI f_224_30, mk_gI f_224_31, mk_pI f_224_31, mk_gR f_224_32, mk_gI f_224_33, mk_pI f_224_33, ↓m_1, ↓m_2, i_0, i_1, i_2, i_3, i_4, i_6, i_5, i_12, i_11, i_10, i_9999, i_7, i_9, i_8, i_24, i_100, i_56, i_48, i_13, i_176, i_232, i_224, i_32, i_999, i_99, i_900, i_97, i_90, i_30, i_20, i_59, i_14, i_50, i_29, i_22, i_19, i_18, i_17, i_96, i_61, i_57, i_51, i_41, i_26, i_2552, i_255, i_25, i_23, i_21, i_16, i_15, i_122, i_10000, i_31, dzF, obs, b2_some, rz0, rz1, rzb, n01, n01', n10, n01e, nI_add, nI_mul, ↓reduceIte, not_false_eq_true, not_true_eq_false, ite_not, R_now hR0.1, isIn0 (hT.l31 1) h1]
