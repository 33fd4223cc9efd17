/-! ===== 69: undo ===== -/
section UN
variable {n : Nat} {I : Nat → Nat → Int32} {J : Nat → Nat → Int64} {T U : Nat → Nat}
set_option maxHeartbeats 4000000 in
/-- takeBack leads to what was told ahead -/
theorem C_takeBack (hT : VT T) (hW : WR I 3 T) {u nx : Nat} (hu : 1 ≤ u) (hu12 : u ≤ 12) (hx : nx < 12) (b1 : I 118 1 = nI nx) (b2 : I 118 2 = nI u) (ha : actR (I (120 + (nx + 12 - 1) % 12)) T U) : ∃ I', mX0_takeBack (mk n I J) 118 3 = some (mk n I' J) ∧ I' 118 1 = nI ((nx + 12 - 1) % 12) ∧ I' 118 2 = nI (u - 1) ∧ WR I' 3 U ∧ ∀ a c, ¬ (3 ≤ a ∧ a ≤ 47) → a ≠ 118 → I' a c = I a c := by
  have b0 := hT.1
  have h11 : T 11 ≤ 6 := hT.2.1.2.2.2.2.2.2
  have hm : (nx + 12 - 1) % 12 < 12 := by omega
  obtain ⟨I1, hI1⟩ : ∃ I1, I1 = u2 (u2 I 118 1 (nI ((nx + 12 - 1) % 12))) 118 2 (nI (u - 1)) := ⟨_, rfl⟩
  have f1 : ∀ a c, a ≠ 118 → I1 a c = I a c := fun a c k => by rw [hI1, u2_no _ _ (by omega), u2_no _ _ (by omega)]
  have d1 : I1 118 1 = nI ((nx + 12 - 1) % 12) := by rw [hI1, u2_no _ _ (by omega), u2_at]
  have d2 : I1 118 2 = nI (u - 1) := by rw [hI1, u2_at]
  have hW1 : WR I1 3 T := hW.scr hT (fun a c k1 k2 => f1 a c (by omega))
  have row : ∀ j, j < 4 → aI 0 (mk n I1 J) (120 + (nx + 12 - 1) % 12) (nI j) = some (I (120 + (nx + 12 - 1) % 12) j) := fun j hj => by rw [A_120 hm hj, f1 _ _ (by omega)]
  have fin : ∀ I' : Nat → Nat → Int32, (∀ a c, ¬ (3 ≤ a ∧ a ≤ 47) → I' a c = I1 a c) → WR I' 3 U → I' 118 1 = nI ((nx + 12 - 1) % 12) ∧ I' 118 2 = nI (u - 1) ∧ WR I' 3 U ∧ ∀ a c, ¬ (3 ≤ a ∧ a ≤ 47) → a ≠ 118 → I' a c = I a c := fun I' f w => ⟨by rw [f _ _ (by omega)]; exact d1, by rw [f _ _ (by omega)]; exact d2, w, fun a c k1 k2 => by rw [f _ _ k1, f1 _ _ k2]⟩
  have e12 : nx + 12 < 100 := by omega
  have hrow := R_119 (n := n) (I := I1) (J := J) hm
  unfold mX0_takeBack
  rcases ha with ⟨s, v, a0, a1, a3, hs, sm⟩ | ⟨s, v, a0, a1, a3, hs, sm⟩ | ⟨p, q, v, a0, a1, a2, a3, hp, hq, hpq, hv, ht, h11', t1, t3, t4⟩ | ⟨w, v, a0, a1, a3, hw, sm⟩ | ⟨v, a0, a3, sm⟩ | ⟨v, a0, a3, hv, sm⟩ | ⟨s, v, a0, a1, a3, hs, sm⟩ | ⟨s, v, a0, a1, a3, hs, sm⟩
  · refine ⟨u2 I1 (19 + s) 4 (nI v), ?_, fin _ (fun a c k => u2_no _ _ (by omega)) ?_⟩
    · rw [mk_oO o_118, mk_gI f_118_1, obs, b1, i_12, i_1, nI_add, nI_sub (by omega), mod12 (by omega), mk_pI f_118_1, obs, mk_gI f_118_2, obs, u2_no _ _ (by omega), b2, nI_sub (by omega), mk_pI f_118_2, obs, ← hI1, mk_gR f_118_0, obs, mk_gI f_118_1, obs, d1, hrow, obs, i_0, row 0 (by omega), obs, a0]
      simp (disch := omega) only [mk_oO o_0, mk_oO o_1, mk_oO o_3, mk_gR f_0_0, mk_gR f_0_1, mk_gR f_0_2, mk_gR f_0_3, mk_gR f_0_4, mk_gR f_0_5, mk_gR f_0_6, mk_gR f_0_7, mk_gR f_0_8, mk_gR f_0_9, mk_gI f_0_10, mk_pI f_0_10, mk_gR f_1_0, mk_gI f_1_1, mk_pI f_1_1, mk_gR f_3_0, mk_gR f_3_1, mk_gR f_3_2, mk_gR f_3_3, mk_gR f_3_4, mk_gR f_3_5, mk_gR f_3_6, mk_gR f_3_7, ↓m_1, ↓m_2, i_0, i_1, i_2, i_3, i_4, i_6, i_5, i_12, i_11, i_10, i_9999, i_7, i_9, i_8, i_24, i_100, i_56, i_48, i_13, i_176, i_232, i_224, i_32, i_999, i_99, i_900, i_97, i_90, i_30, i_20, i_59, i_14, i_50, i_29, i_22, i_19, i_18, i_17, i_96, i_61, i_57, i_51, i_41, i_26, i_2552, i_255, i_25, i_23, i_21, i_16, i_15, i_122, i_10000, i_31, dzF, obs, b2_some, rz0, rz1, rzb, n01, n01', n10, n01e, nI_add, nI_mul, ↓reduceIte, not_false_eq_true, not_true_eq_false, ite_not, row, a0, a1, a3, R_18, S_19]
    · have := hW1.set (k := 56 + 12 * s + 4) (c := 16 + s) (j := 4) (v := v) hT (Or.inr (Or.inl ⟨s, 4, by omega, by omega, rfl, rfl, rfl⟩))
      rw [show 3 + (16 + s) = 19 + s by omega] at this
      rw [show 60 + 12 * s = 56 + 12 * s + 4 by omega] at sm
      exact this.same sm
  · refine ⟨u2 I1 (19 + s) 6 (nI v), ?_, fin _ (fun a c k => u2_no _ _ (by omega)) ?_⟩
    · rw [mk_oO o_118, mk_gI f_118_1, obs, b1, i_12, i_1, nI_add, nI_sub (by omega), mod12 (by omega), mk_pI f_118_1, obs, mk_gI f_118_2, obs, u2_no _ _ (by omega), b2, nI_sub (by omega), mk_pI f_118_2, obs, ← hI1, mk_gR f_118_0, obs, mk_gI f_118_1, obs, d1, hrow, obs, i_0, row 0 (by omega), obs, a0]
      simp (disch := omega) only [mk_oO o_0, mk_oO o_1, mk_oO o_3, mk_gR f_0_0, mk_gR f_0_1, mk_gR f_0_2, mk_gR f_0_3, mk_gR f_0_4, mk_gR f_0_5, mk_gR f_0_6, mk_gR f_0_7, mk_gR f_0_8, mk_gR f_0_9, mk_gI f_0_10, mk_pI f_0_10, mk_gR f_1_0, mk_gI f_1_1, mk_pI f_1_1, mk_gR f_3_0, mk_gR f_3_1, mk_gR f_3_2, mk_gR f_3_3, mk_gR f_3_4, mk_gR f_3_5, mk_gR f_3_6, mk_gR f_3_7, ↓m_1, ↓m_2, i_0, i_1, i_2, i_3, i_4, i_6, i_5, i_12, i_11, i_10, i_9999, i_7, i_9, i_8, i_24, i_100, i_56, i_48, i_13, i_176, i_232, i_224, i_32, i_999, i_99, i_900, i_97, i_90, i_30, i_20, i_59, i_14, i_50, i_29, i_22, i_19, i_18, i_17, i_96, i_61, i_57, i_51, i_41, i_26, i_2552, i_255, i_25, i_23, i_21, i_16, i_15, i_122, i_10000, i_31, dzF, obs, b2_some, rz0, rz1, rzb, n01, n01', n10, n01e, nI_add, nI_mul, ↓reduceIte, not_false_eq_true, not_true_eq_false, ite_not, row, a0, a1, a3, R_18, S_19]
    · have := hW1.set (k := 56 + 12 * s + 6) (c := 16 + s) (j := 6) (v := v) hT (Or.inr (Or.inl ⟨s, 6, by omega, by omega, rfl, rfl, rfl⟩))
      rw [show 3 + (16 + s) = 19 + s by omega] at this
      rw [show 62 + 12 * s = 56 + 12 * s + 6 by omega] at sm
      exact this.same sm
  · obtain ⟨I2, e2, f2, w2⟩ := C_tell (n := n) (J := J) (Or.inl rfl) hW1 (by omega : p < 6) (by omega : q < 6) hpq hv h11 ht (by omega)
    refine ⟨I2, ?_, fin _ (fun a c k => f2 _ _ (by omega) (by omega)) (w2 U (fun k hk => (t1 k hk).symm) h11' (fun k hk => (t3 k hk).symm) t4)⟩
    unfold mX0_takeBack_b132
    rcases (by omega : v = 0 ∨ v = 1) with rfl | rfl
    · rw [mk_oO o_118, mk_gI f_118_1, obs, b1, i_12, i_1, nI_add, nI_sub (by omega), mod12 (by omega), mk_pI f_118_1, obs, mk_gI f_118_2, obs, u2_no _ _ (by omega), b2, nI_sub (by omega), mk_pI f_118_2, obs, ← hI1, mk_gR f_118_0, obs, mk_gI f_118_1, obs, d1, hrow, obs, i_0, row 0 (by omega), obs, a0]
      simp (disch := omega) only [mk_oO o_0, mk_oO o_1, mk_oO o_3, mk_gR f_0_0, mk_gR f_0_1, mk_gR f_0_2, mk_gR f_0_3, mk_gR f_0_4, mk_gR f_0_5, mk_gR f_0_6, mk_gR f_0_7, mk_gR f_0_8, mk_gR f_0_9, mk_gI f_0_10, mk_pI f_0_10, mk_gR f_1_0, mk_gI f_1_1, mk_pI f_1_1, mk_gR f_3_0, mk_gR f_3_1, mk_gR f_3_2, mk_gR f_3_3, mk_gR f_3_4, mk_gR f_3_5, mk_gR f_3_6, mk_gR f_3_7, ↓m_1, ↓m_2, i_0, i_1, i_2, i_3, i_4, i_6, i_5, i_12, i_11, i_10, i_9999, i_7, i_9, i_8, i_24, i_100, i_56, i_48, i_13, i_176, i_232, i_224, i_32, i_999, i_99, i_900, i_97, i_90, i_30, i_20, i_59, i_14, i_50, i_29, i_22, i_19, i_18, i_17, i_96, i_61, i_57, i_51, i_41, i_26, i_2552, i_255, i_25, i_23, i_21, i_16, i_15, i_122, i_10000, i_31, dzF, obs, b2_some, rz0, rz1, rzb, n01, n01', n10, n01e, nI_add, nI_mul, ↓reduceIte, not_false_eq_true, not_true_eq_false, ite_not, row, a0, a1, a2, a3, eqF, e2]
    · rw [mk_oO o_118, mk_gI f_118_1, obs, b1, i_12, i_1, nI_add, nI_sub (by omega), mod12 (by omega), mk_pI f_118_1, obs, mk_gI f_118_2, obs, u2_no _ _ (by omega), b2, nI_sub (by omega), mk_pI f_118_2, obs, ← hI1, mk_gR f_118_0, obs, mk_gI f_118_1, obs, d1, hrow, obs, i_0, row 0 (by omega), obs, a0]
      simp (disch := omega) only [mk_oO o_0, mk_oO o_1, mk_oO o_3, mk_gR f_0_0, mk_gR f_0_1, mk_gR f_0_2, mk_gR f_0_3, mk_gR f_0_4, mk_gR f_0_5, mk_gR f_0_6, mk_gR f_0_7, mk_gR f_0_8, mk_gR f_0_9, mk_gI f_0_10, mk_pI f_0_10, mk_gR f_1_0, mk_gI f_1_1, mk_pI f_1_1, mk_gR f_3_0, mk_gR f_3_1, mk_gR f_3_2, mk_gR f_3_3, mk_gR f_3_4, mk_gR f_3_5, mk_gR f_3_6, mk_gR f_3_7, ↓m_1, ↓m_2, i_0, i_1, i_2, i_3, i_4, i_6, i_5, i_12, i_11, i_10, i_9999, i_7, i_9, i_8, i_24, i_100, i_56, i_48, i_13, i_176, i_232, i_224, i_32, i_999, i_99, i_900, i_97, i_90, i_30, i_20, i_59, i_14, i_50, i_29, i_22, i_19, i_18, i_17, i_96, i_61, i_57, i_51, i_41, i_26, i_2552, i_255, i_25, i_23, i_21, i_16, i_15, i_122, i_10000, i_31, dzF, obs, b2_some, rz0, rz1, rzb, n01, n01', n10, n01e, nI_add, nI_mul, ↓reduceIte, not_false_eq_true, not_true_eq_false, ite_not, row, a0, a1, a2, a3, eqF, e2]
  · refine ⟨u2 I1 4 (6 + w) (nI v), ?_, fin _ (fun a c k => u2_no _ _ (by omega)) ?_⟩
    · rw [mk_oO o_118, mk_gI f_118_1, obs, b1, i_12, i_1, nI_add, nI_sub (by omega), mod12 (by omega), mk_pI f_118_1, obs, mk_gI f_118_2, obs, u2_no _ _ (by omega), b2, nI_sub (by omega), mk_pI f_118_2, obs, ← hI1, mk_gR f_118_0, obs, mk_gI f_118_1, obs, d1, hrow, obs, i_0, row 0 (by omega), obs, a0]
      simp (disch := omega) only [mk_oO o_0, mk_oO o_1, mk_oO o_3, mk_gR f_0_0, mk_gR f_0_1, mk_gR f_0_2, mk_gR f_0_3, mk_gR f_0_4, mk_gR f_0_5, mk_gR f_0_6, mk_gR f_0_7, mk_gR f_0_8, mk_gR f_0_9, mk_gI f_0_10, mk_pI f_0_10, mk_gR f_1_0, mk_gI f_1_1, mk_pI f_1_1, mk_gR f_3_0, mk_gR f_3_1, mk_gR f_3_2, mk_gR f_3_3, mk_gR f_3_4, mk_gR f_3_5, mk_gR f_3_6, mk_gR f_3_7, ↓m_1, ↓m_2, i_0, i_1, i_2, i_3, i_4, i_6, i_5, i_12, i_11, i_10, i_9999, i_7, i_9, i_8, i_24, i_100, i_56, i_48, i_13, i_176, i_232, i_224, i_32, i_999, i_99, i_900, i_97, i_90, i_30, i_20, i_59, i_14, i_50, i_29, i_22, i_19, i_18, i_17, i_96, i_61, i_57, i_51, i_41, i_26, i_2552, i_255, i_25, i_23, i_21, i_16, i_15, i_122, i_10000, i_31, dzF, obs, b2_some, rz0, rz1, rzb, n01, n01', n10, n01e, nI_add, nI_mul, ↓reduceIte, not_false_eq_true, not_true_eq_false, ite_not, row, a0, a1, a3, eqF, mk_sIn a_4]
    · exact (hW1.set (k := 6 + w) (c := 1) (j := 6 + w) (v := v) hT (Or.inl ⟨by omega, by omega, rfl, rfl⟩)).same sm
  · refine ⟨u2 I1 4 10 (nI v), ?_, fin _ (fun a c k => u2_no _ _ (by omega)) ?_⟩
    · rw [mk_oO o_118, mk_gI f_118_1, obs, b1, i_12, i_1, nI_add, nI_sub (by omega), mod12 (by omega), mk_pI f_118_1, obs, mk_gI f_118_2, obs, u2_no _ _ (by omega), b2, nI_sub (by omega), mk_pI f_118_2, obs, ← hI1, mk_gR f_118_0, obs, mk_gI f_118_1, obs, d1, hrow, obs, i_0, row 0 (by omega), obs, a0]
      simp (disch := omega) only [mk_oO o_0, mk_oO o_1, mk_oO o_3, mk_gR f_0_0, mk_gR f_0_1, mk_gR f_0_2, mk_gR f_0_3, mk_gR f_0_4, mk_gR f_0_5, mk_gR f_0_6, mk_gR f_0_7, mk_gR f_0_8, mk_gR f_0_9, mk_gI f_0_10, mk_pI f_0_10, mk_gR f_1_0, mk_gI f_1_1, mk_pI f_1_1, mk_gR f_3_0, mk_gR f_3_1, mk_gR f_3_2, mk_gR f_3_3, mk_gR f_3_4, mk_gR f_3_5, mk_gR f_3_6, mk_gR f_3_7, ↓m_1, ↓m_2, i_0, i_1, i_2, i_3, i_4, i_6, i_5, i_12, i_11, i_10, i_9999, i_7, i_9, i_8, i_24, i_100, i_56, i_48, i_13, i_176, i_232, i_224, i_32, i_999, i_99, i_900, i_97, i_90, i_30, i_20, i_59, i_14, i_50, i_29, i_22, i_19, i_18, i_17, i_96, i_61, i_57, i_51, i_41, i_26, i_2552, i_255, i_25, i_23, i_21, i_16, i_15, i_122, i_10000, i_31, dzF, obs, b2_some, rz0, rz1, rzb, n01, n01', n10, n01e, nI_add, nI_mul, ↓reduceIte, not_false_eq_true, not_true_eq_false, ite_not, row, a0, a3, eqF, mk_sIn a_4]
    · exact (hW1.set (k := 10) (c := 1) (j := 10) (v := v) hT (Or.inl ⟨by omega, by omega, rfl, rfl⟩)).same sm
  · refine ⟨u2 I1 4 4 (nI v), ?_, fin _ (fun a c k => u2_no _ _ (by omega)) ?_⟩
    · rw [mk_oO o_118, mk_gI f_118_1, obs, b1, i_12, i_1, nI_add, nI_sub (by omega), mod12 (by omega), mk_pI f_118_1, obs, mk_gI f_118_2, obs, u2_no _ _ (by omega), b2, nI_sub (by omega), mk_pI f_118_2, obs, ← hI1, mk_gR f_118_0, obs, mk_gI f_118_1, obs, d1, hrow, obs, i_0, row 0 (by omega), obs, a0]
      simp (disch := omega) only [mk_oO o_0, mk_oO o_1, mk_oO o_3, mk_gR f_0_0, mk_gR f_0_1, mk_gR f_0_2, mk_gR f_0_3, mk_gR f_0_4, mk_gR f_0_5, mk_gR f_0_6, mk_gR f_0_7, mk_gR f_0_8, mk_gR f_0_9, mk_gI f_0_10, mk_pI f_0_10, mk_gR f_1_0, mk_gI f_1_1, mk_pI f_1_1, mk_gR f_3_0, mk_gR f_3_1, mk_gR f_3_2, mk_gR f_3_3, mk_gR f_3_4, mk_gR f_3_5, mk_gR f_3_6, mk_gR f_3_7, ↓m_1, ↓m_2, i_0, i_1, i_2, i_3, i_4, i_6, i_5, i_12, i_11, i_10, i_9999, i_7, i_9, i_8, i_24, i_100, i_56, i_48, i_13, i_176, i_232, i_224, i_32, i_999, i_99, i_900, i_97, i_90, i_30, i_20, i_59, i_14, i_50, i_29, i_22, i_19, i_18, i_17, i_96, i_61, i_57, i_51, i_41, i_26, i_2552, i_255, i_25, i_23, i_21, i_16, i_15, i_122, i_10000, i_31, dzF, obs, b2_some, rz0, rz1, rzb, n01, n01', n10, n01e, nI_add, nI_mul, ↓reduceIte, not_false_eq_true, not_true_eq_false, ite_not, row, a0, a3, eqF, mk_sIn a_4]
    · exact (hW1.less4 hT hv).same sm
  · refine ⟨u2 I1 (14 + s) 1 (nI v), ?_, fin _ (fun a c k => u2_no _ _ (by omega)) ?_⟩
    · rw [mk_oO o_118, mk_gI f_118_1, obs, b1, i_12, i_1, nI_add, nI_sub (by omega), mod12 (by omega), mk_pI f_118_1, obs, mk_gI f_118_2, obs, u2_no _ _ (by omega), b2, nI_sub (by omega), mk_pI f_118_2, obs, ← hI1, mk_gR f_118_0, obs, mk_gI f_118_1, obs, d1, hrow, obs, i_0, row 0 (by omega), obs, a0]
      simp (disch := omega) only [mk_oO o_0, mk_oO o_1, mk_oO o_3, mk_gR f_0_0, mk_gR f_0_1, mk_gR f_0_2, mk_gR f_0_3, mk_gR f_0_4, mk_gR f_0_5, mk_gR f_0_6, mk_gR f_0_7, mk_gR f_0_8, mk_gR f_0_9, mk_gI f_0_10, mk_pI f_0_10, mk_gR f_1_0, mk_gI f_1_1, mk_pI f_1_1, mk_gR f_3_0, mk_gR f_3_1, mk_gR f_3_2, mk_gR f_3_3, mk_gR f_3_4, mk_gR f_3_5, mk_gR f_3_6, mk_gR f_3_7, ↓m_1, ↓m_2, i_0, i_1, i_2, i_3, i_4, i_6, i_5, i_12, i_11, i_10, i_9999, i_7, i_9, i_8, i_24, i_100, i_56, i_48, i_13, i_176, i_232, i_224, i_32, i_999, i_99, i_900, i_97, i_90, i_30, i_20, i_59, i_14, i_50, i_29, i_22, i_19, i_18, i_17, i_96, i_61, i_57, i_51, i_41, i_26, i_2552, i_255, i_25, i_23, i_21, i_16, i_15, i_122, i_10000, i_31, dzF, obs, b2_some, rz0, rz1, rzb, n01, n01', n10, n01e, nI_add, nI_mul, ↓reduceIte, not_false_eq_true, not_true_eq_false, ite_not, row, a0, a1, a3, eqF, R_13, S_14]
    · have := hW1.set (k := 48 + 2 * s + 1) (c := 11 + s) (j := 1) (v := v) hT (Or.inr (Or.inr (Or.inl ⟨s, 1, by omega, by omega, rfl, rfl, rfl⟩)))
      rw [show 3 + (11 + s) = 14 + s by omega] at this
      rw [show 49 + 2 * s = 48 + 2 * s + 1 by omega] at sm
      exact this.same sm
  · refine ⟨u2 I1 (44 + s) 1 (nI v), ?_, fin _ (fun a c k => u2_no _ _ (by omega)) ?_⟩
    · rw [mk_oO o_118, mk_gI f_118_1, obs, b1, i_12, i_1, nI_add, nI_sub (by omega), mod12 (by omega), mk_pI f_118_1, obs, mk_gI f_118_2, obs, u2_no _ _ (by omega), b2, nI_sub (by omega), mk_pI f_118_2, obs, ← hI1, mk_gR f_118_0, obs, mk_gI f_118_1, obs, d1, hrow, obs, i_0, row 0 (by omega), obs, a0]
      simp (disch := omega) only [mk_oO o_0, mk_oO o_1, mk_oO o_3, mk_gR f_0_0, mk_gR f_0_1, mk_gR f_0_2, mk_gR f_0_3, mk_gR f_0_4, mk_gR f_0_5, mk_gR f_0_6, mk_gR f_0_7, mk_gR f_0_8, mk_gR f_0_9, mk_gI f_0_10, mk_pI f_0_10, mk_gR f_1_0, mk_gI f_1_1, mk_pI f_1_1, mk_gR f_3_0, mk_gR f_3_1, mk_gR f_3_2, mk_gR f_3_3, mk_gR f_3_4, mk_gR f_3_5, mk_gR f_3_6, mk_gR f_3_7, ↓m_1, ↓m_2, i_0, i_1, i_2, i_3, i_4, i_6, i_5, i_12, i_11, i_10, i_9999, i_7, i_9, i_8, i_24, i_100, i_56, i_48, i_13, i_176, i_232, i_224, i_32, i_999, i_99, i_900, i_97, i_90, i_30, i_20, i_59, i_14, i_50, i_29, i_22, i_19, i_18, i_17, i_96, i_61, i_57, i_51, i_41, i_26, i_2552, i_255, i_25, i_23, i_21, i_16, i_15, i_122, i_10000, i_31, dzF, obs, b2_some, rz0, rz1, rzb, n01, n01', n10, n01e, nI_add, nI_mul, ↓reduceIte, not_false_eq_true, not_true_eq_false, ite_not, row, a0, a1, a3, eqF, R_43, S_44]
    · have := hW1.set (k := 224 + 2 * s + 1) (c := 41 + s) (j := 1) (v := v) hT (Or.inr (Or.inr (Or.inr ⟨s, 1, by omega, by omega, rfl, rfl, rfl⟩)))
      rw [show 3 + (41 + s) = 44 + s by omega] at this
      rw [show 225 + 2 * s = 224 + 2 * s + 1 by omega] at sm
      exact this.same sm
end UN
set_option maxHeartbeats 4000000 in
theorem sim_undo : SIM_undo Inv 0 224 := by
  intro h hI
  obtain ⟨n, I, J, rfl, T, hI⟩ := hI
  have hI : INVT I J T := hI
  have hT := hI.1
  have hN := hI.2.1
  have hW := hI.2.2.1
  have b0 := hT.1
  obtain ⟨-, -, -, hTP, hM, hK0, hK1, ⟨u, nx, P, u1, nx1, b1, b2, b3, hP0, hP⟩, hG, hg⟩ := id hI
  unfold mX9_undo mX10_undo
  have b3' : u2 I 224 0 (nI 0) 224 6 = nI u := by rw [u2_no _ _ (by omega)]; exact b3
  by_cases hu : u = 0
  · subst hu
    refine ⟨M1, mk n I J, _, ?_, ?_, hI.inv.fin0 (n := n) (x := nI 0) (scrt.refl I J)⟩
    · simp (disch := omega) only [mk_oO o_0, mk_oO o_1, mk_oO o_3, mk_gR f_0_0, mk_gR f_0_1, mk_gR f_0_2, mk_gR f_0_3, mk_gR f_0_4, mk_gR f_0_5, mk_gR f_0_6, mk_gR f_0_7, mk_gR f_0_8, mk_gR f_0_9, mk_gI f_0_10, mk_pI f_0_10, mk_gR f_1_0, mk_gI f_1_1, mk_pI f_1_1, mk_gR f_3_0, mk_gR f_3_1, mk_gR f_3_2, mk_gR f_3_3, mk_gR f_3_4, mk_gR f_3_5, mk_gR f_3_6, mk_gR f_3_7, mk_oO o_118, mk_gR f_118_0, mk_gI f_118_1, mk_pI f_118_1, mk_gI f_118_2, mk_pI f_118_2, ↓m_1, ↓m_2, i_0, i_1, i_2, i_3, i_4, i_6, i_5, i_12, i_11, i_10, i_9999, i_7, i_9, i_8, i_24, i_100, i_56, i_48, i_13, i_176, i_232, i_224, i_32, i_999, i_99, i_900, i_97, i_90, i_30, i_20, i_59, i_14, i_50, i_29, i_22, i_19, i_18, i_17, i_96, i_61, i_57, i_51, i_41, i_26, i_2552, i_255, i_25, i_23, i_21, i_16, i_15, i_122, i_10000, i_31, dzF, obs, b2_some, rz0, rz1, rzb, n01, n01', n10, n01e, nI_add, nI_mul, ↓reduceIte, not_false_eq_true, not_true_eq_false, ite_not, b1]
    · simp (disch := omega) only [mk_oO o_224, mk_gI f_224_0, mk_pI f_224_0, mk_gR f_224_1, mk_gR f_224_2, mk_gR f_224_3, mk_gR f_224_4, mk_gR f_224_5, mk_gI f_224_6, mk_pI f_224_6, mk_gR f_224_7, mk_gI f_224_8, mk_pI f_224_8, mk_gI f_224_9, mk_pI f_224_9, mk_gI f_224_10, mk_pI f_224_10, mk_gI f_224_11, mk_pI f_224_11, mk_gI f_224_12, mk_pI f_224_12, mk_gI f_224_13, mk_pI f_224_13, mk_gL f_224_14, mk_pL f_224_14, mk_gI f_224_15, mk_pI f_224_15, mk_gI f_224_16, mk_pI f_224_16, mk_gR f_224_17, mk_gR f_224_18, mk_gR f_224_19, mk_gI f_224_20, mk_pI f_224_20, mk_gR f_224_21, mk_gI f_224_22, mk_pI f_224_22, mk_gI f_224_23, mk_pI f_224_23, mk_gI f_224_24, mk_pI f_224_24, mk_gI f_224_25, mk_pI f_224_25, mk_gR f_224_26, mk_gI f_224_27, mk_pI f_224_27, mk_gI f_224_28, mk_pI f_224_28, mk_gR f_224_29, mk_gI f_224_30, mk_pI f_224_30, mk_gI f_224_31, mk_pI f_224_31, mk_gR f_224_32, mk_gI f_224_33, mk_pI f_224_33, ↓m_1, ↓m_2, i_0, i_1, i_2, i_3, i_4, i_6, i_5, i_12, i_11, i_10, i_9999, i_7, i_9, i_8, i_24, i_100, i_56, i_48, i_13, i_176, i_232, i_224, i_32, i_999, i_99, i_900, i_97, i_90, i_30, i_20, i_59, i_14, i_50, i_29, i_22, i_19, i_18, i_17, i_96, i_61, i_57, i_51, i_41, i_26, i_2552, i_255, i_25, i_23, i_21, i_16, i_15, i_122, i_10000, i_31, dzF, obs, b2_some, rz0, rz1, rzb, n01, n01', n10, n01e, nI_add, nI_mul, ↓reduceIte, not_false_eq_true, not_true_eq_false, ite_not, b3']
  · obtain ⟨v1, v2, v3, v4⟩ := hP 0 (by omega)
    rw [hP0, show (nx + 23 - 0) % 12 = (nx + 12 - 1) % 12 by omega] at v4
    obtain ⟨I1, e1, d1, d2, w1, f1⟩ := C_takeBack (n := n) (J := J) hT hW (by omega : 1 ≤ u) u1 nx1 b2 b1 v4
    have c6 : I1 224 6 = nI u := by rw [f1 _ _ (by omega) (by omega)]; exact b3
    obtain ⟨I2, e2, f2, g2⟩ := R_copies (n := n) (J := J) (k1 := 227) (k2 := 225) (d1 := 232 * (u - 1)) (d2 := 0) (u2 (u2 I1 224 0 (nI 0)) 224 6 (nI (u - 1))) a_227 a_225 (by decide) (by omega) (by decide) (by decide) (by decide)
    have c6' : I2 224 6 = nI (u - 1) := by rw [f2 _ _ (by omega), u2_at]
    have fr : ∀ a c, ¬ (3 ≤ a ∧ a ≤ 47) → a ≠ 118 → a ≠ 225 → ¬ (a = 224 ∧ c = 0) → ¬ (a = 224 ∧ c = 6) → I2 a c = I a c := fun a c k1 k2 k3 k4 k5 => by
      rw [f2 _ _ (by omega), u2_no _ _ (by omega), u2_no _ _ (by omega), f1 _ _ k1 k2]
    refine ⟨nI (u - 1), mk n I1 J, mk n I2 J, ?_, ?_, Inv.of ?_⟩
    · simp (disch := omega) only [mk_oO o_0, mk_oO o_1, mk_oO o_3, mk_gR f_0_0, mk_gR f_0_1, mk_gR f_0_2, mk_gR f_0_3, mk_gR f_0_4, mk_gR f_0_5, mk_gR f_0_6, mk_gR f_0_7, mk_gR f_0_8, mk_gR f_0_9, mk_gI f_0_10, mk_pI f_0_10, mk_gR f_1_0, mk_gI f_1_1, mk_pI f_1_1, mk_gR f_3_0, mk_gR f_3_1, mk_gR f_3_2, mk_gR f_3_3, mk_gR f_3_4, mk_gR f_3_5, mk_gR f_3_6, mk_gR f_3_7, mk_oO o_118, mk_gR f_118_0, mk_gI f_118_1, mk_pI f_118_1, mk_gI f_118_2, mk_pI f_118_2, ↓m_1, ↓m_2, i_0, i_1, i_2, i_3, i_4, i_6, i_5, i_12, i_11, i_10, i_9999, i_7, i_9, i_8, i_24, i_100, i_56, i_48, i_13, i_176, i_232, i_224, i_32, i_999, i_99, i_900, i_97, i_90, i_30, i_20, i_59, i_14, i_50, i_29, i_22, i_19, i_18, i_17, i_96, i_61, i_57, i_51, i_41, i_26, i_2552, i_255, i_25, i_23, i_21, i_16, i_15, i_122, i_10000, i_31, dzF, obs, b2_some, rz0, rz1, rzb, n01, n01', n10, n01e, nI_add, nI_mul, ↓reduceIte, not_false_eq_true, not_true_eq_false, ite_not, b1, eqF, e1, d2]
    · simp (disch := omega) only [mk_oO o_224, mk_gI f_224_0, mk_pI f_224_0, mk_gR f_224_1, mk_gR f_224_2, mk_gR f_224_3, mk_gR f_224_4, mk_gR f_224_5, mk_gI f_224_6, mk_pI f_224_6, mk_gR f_224_7, mk_gI f_224_8, mk_pI f_224_8, mk_gI f_224_9, mk_pI f_224_9, mk_gI f_224_10, mk_pI f_224_10, mk_gI f_224_11, mk_pI f_224_11, mk_gI f_224_12, mk_pI f_224_12, mk_gI f_224_13, mk_pI f_224_13, mk_gL f_224_14, mk_pL f_224_14, mk_gI f_224_15, mk_pI f_224_15, mk_gI f_224_16, mk_pI f_224_16, mk_gR f_224_17, mk_gR f_224_18, mk_gR f_224_19, mk_gI f_224_20, mk_pI f_224_20, mk_gR f_224_21, mk_gI f_224_22, mk_pI f_224_22, mk_gI f_224_23, mk_pI f_224_23, mk_gI f_224_24, mk_pI f_224_24, mk_gI f_224_25, mk_pI f_224_25, mk_gR f_224_26, mk_gI f_224_27, mk_pI f_224_27, mk_gI f_224_28, mk_pI f_224_28, mk_gR f_224_29, mk_gI f_224_30, mk_pI f_224_30, mk_gI f_224_31, mk_pI f_224_31, mk_gR f_224_32, mk_gI f_224_33, mk_pI f_224_33, ↓m_1, ↓m_2, i_0, i_1, i_2, i_3, i_4, i_6, i_5, i_12, i_11, i_10, i_9999, i_7, i_9, i_8, i_24, i_100, i_56, i_48, i_13, i_176, i_232, i_224, i_32, i_999, i_99, i_900, i_97, i_90, i_30, i_20, i_59, i_14, i_50, i_29, i_22, i_19, i_18, i_17, i_96, i_61, i_57, i_51, i_41, i_26, i_2552, i_255, i_25, i_23, i_21, i_16, i_15, i_122, i_10000, i_31, dzF, obs, b2_some, rz0, rz1, rzb, n01, n01', n10, n01e, nI_add, nI_mul, ↓reduceIte, not_false_eq_true, not_true_eq_false, ite_not, u2_no, c6, eqF, nI_sub, u2_at, e2, c6']
    · have t3 : P 1 3 = T 3 := v2
      have kp : ∀ k b, (b = 134 ∧ k = 0) ∨ (b = 179 ∧ k = 1) → KP I J T k b → KP I2 J (P 1) k b := by
        intro k b hb hk
        have g1 : I2 229 k = I 229 k := fr _ _ (by omega) (by omega) (by omega) (by omega) (by omega)
        have g2 : I2 0 10 = I 0 10 := fr _ _ (by omega) (by omega) (by omega) (by omega) (by omega)
        refine ⟨by rw [g1, g2]; exact hk.1, fun hz => ?_⟩
        rw [g1] at hz
        obtain ⟨K, k1, k2, k3, k4, k5⟩ := hk.2 hz
        exact ⟨K, k1, by rw [t3]; exact k2, k3.scr k1 (fun a c h1 h2 => fr _ _ (by omega) (by omega) (by omega) (by omega) (by omega)), fun j hj => by rw [fr _ _ (by omega) (by omega) (by omega) (by omega) (by omega)]; exact k4 j hj, fun s hs => k5 s (by omega)⟩
      obtain ⟨p, p1, p2, p3, p4⟩ := hTP
      refine ⟨P 1, v1, fun j hj => ?_, w1.scr v1 (fun a c k1 k2 => by rw [f2 _ _ (by omega), u2_no _ _ (by omega), u2_no _ _ (by omega)]), ⟨p, p1, by rw [fr _ _ (by omega) (by omega) (by omega) (by omega) (by omega)]; exact p2, by rw [fr _ _ (by omega) (by omega) (by omega) (by omega) (by omega)]; exact p3, fun k hk => by rw [fr 2 k (by omega) (by omega) (by omega) (by omega) (by omega), fr 230 k (by omega) (by omega) (by omega) (by omega) (by omega)]; exact p4 k hk⟩, fun s hs => hM s (by omega), kp 0 134 (by omega) hK0, kp 1 179 (by omega) hK1, ⟨u - 1, (nx + 12 - 1) % 12, fun j => P (j + 1), by omega, by omega, ?_, ?_, c6', rfl, fun j hj => ?_⟩, hG, by rw [fr _ _ (by omega) (by omega) (by omega) (by omega) (by omega)]; exact hg⟩
      · rw [g2 j hj, u2_no _ _ (by omega), u2_no _ _ (by omega), f1 _ _ (by omega) (by omega)]
        have := v3 j hj
        rw [show u - 1 - 0 = u - 1 by omega] at this
        exact this
      · rw [f2 _ _ (by omega), u2_no _ _ (by omega), u2_no _ _ (by omega)]; exact d2
      · rw [f2 _ _ (by omega), u2_no _ _ (by omega), u2_no _ _ (by omega)]; exact d1
      · obtain ⟨y1, y2, y3, y4⟩ := hP (j + 1) (by omega)
        refine ⟨y1, y2.trans t3.symm, fun i hi => ?_, ?_⟩
        · rw [fr _ _ (by omega) (by omega) (by omega) (by omega) (by omega), show u - 1 - 1 - j = u - 1 - (j + 1) by omega]
          exact y3 i hi
        · rw [show ((nx + 12 - 1) % 12 + 23 - j) % 12 = (nx + 23 - (j + 1)) % 12 by omega]
          rw [show I2 (120 + (nx + 23 - (j + 1)) % 12) = I (120 + (nx + 23 - (j + 1)) % 12) from funext fun c => fr _ _ (by omega) (by omega) (by omega) (by omega) (by omega)]
          exact y4
