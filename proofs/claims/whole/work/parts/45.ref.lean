/-! ===== 45: shares and what a sale is worth by its own price ===== -/
section RG
variable {n g : Nat} {J : Nat → Nat → Int64} {T : Nat → Nat}
theorem u2_at {α : Type} (I : Nat → Nat → α) (k f : Nat) (x : α) : u2 I k f x k f = x := by simp [u2]
theorem u2_no {α : Type} (I : Nat → Nat → α) {k f a b : Nat} (x : α) (h : ¬ (a = k ∧ b = f)) : u2 I k f x a b = I a b := if_neg h
theorem R_ahead_b12 {I : Nat → Nat → Int32} (hT : VT T) (h : RQ T g I) {a s t : Nat} (hs : s < 10) (ht : t < T 3) (r : PH → Nat → Int32 → Int32 → Int32 → Option (PH)) : mX10_looksAhead_b12 r (mk n I J) 224 (nI a) (nI s) (nI t) = mX10_looksAhead_b62 r (mk n I J) 224 (nI a) (nI s) (nI t) (nI (if ahead T t s then 1 else 0)) := by
  have b0 := hT.1
  unfold mX10_looksAhead_b12 mX10_looksAhead_b57 mX10_looksAhead_b61
  simp (disch := omega) only [mk_oO o_224, mk_gI f_224_0, mk_pI f_224_0, mk_gR f_224_1, mk_gR f_224_2, mk_gR f_224_3, mk_gR f_224_4, mk_gR f_224_5, mk_gI f_224_6, mk_pI f_224_6, mk_gR f_224_7, mk_gI f_224_8, mk_pI f_224_8, mk_gI f_224_9, mk_pI f_224_9, mk_gI f_224_10, mk_pI f_224_10, mk_gI f_224_11, mk_pI f_224_11, mk_gI f_224_12, mk_pI f_224_12, mk_gI f_224_13, mk_pI f_224_13, mk_gL f_224_14, mk_pL f_224_14, mk_gI f_224_15, mk_pI f_224_15, mk_gI f_224_16, mk_pI f_224_16, mk_gR f_224_17, mk_gR f_224_18, mk_gR f_224_19, mk_gI f_224_20, mk_pI f_224_20, mk_gR f_224_21, mk_gI f_224_22, mk_pI f_224_22, mk_gI f_224_23, mk_pI f_224_23, mk_gI f_224_24, mk_pI f_224_24, mk_gI f_224_25, mk_pI f_224_25, mk_gR f_224_26, mk_gI f_224_27, mk_pI f_224_27, mk_gI f_224_28, mk_pI f_224_28, mk_gR f_224_29, mk_gI f_224_30, mk_pI f_224_30, mk_gI f_224_31, mk_pI f_224_31, mk_gR f_224_32, mk_gI f_224_33, mk_pI f_224_33, ↓m_1, ↓m_2, i_0, i_1, i_2, i_3, i_4, i_6, i_5, i_12, i_11, i_10, i_9999, i_7, i_9, i_8, i_24, i_100, i_56, i_48, i_13, i_176, i_232, i_224, i_32, i_999, i_99, i_900, i_97, i_90, i_30, i_20, i_59, i_14, i_50, i_29, i_22, i_19, i_18, i_17, i_96, i_61, i_57, i_51, i_41, i_26, i_2552, i_255, i_25, i_23, i_21, i_16, i_15, i_122, i_10000, i_31, dzF, obs, b2_some, rz0, rz1, rzb, n01, n01', n10, n01e, nI_add, nI_mul, ↓reduceIte, not_false_eq_true, not_true_eq_false, ite_not, leF, R_now h.1, R_of h, nI_ltI (hT.l31 _) (hT.l31 _), nI_eq (hT.l31 _) (hT.l31 _), nI_leI (a := s) (b := t)]
  by_cases h1 : T (56 + 12 * t + 5) < T (56 + 12 * s + 5)
  · rw [if_pos h1, if_pos (Or.inl h1)]
  · rw [if_neg h1]
    by_cases h2 : T (56 + 12 * t + 5) = T (56 + 12 * s + 5)
    · rw [if_pos h2]
      by_cases h3 : s ≤ t
      · rw [if_pos h3, if_neg (by rintro (z | z) <;> omega)]
      · rw [if_neg h3, if_pos (Or.inr ⟨h2, by omega⟩)]
    · rw [if_neg h2, if_neg (by rintro (z | z) <;> omega)]
theorem R_aheadL (hT : VT T) {a s : Nat} (hs : s < 10) (ha : a < 4) : ∀ (k t fu : Nat) (I : Nat → Nat → Int32), t + k = T 3 → k < fu → RQ T g I → I 224 24 = nI (pcA T g a s t) → I 224 25 = nI (cnA T g a s t) → ∃ I', mX10_looksAhead_L12 fu (mk n I J) 224 (nI a) (nI s) (nI t) = some (mk n I' J) ∧ Fx SA I I' ∧ I' 224 24 = nI (pcA T g a s (T 3)) ∧ I' 224 25 = nI (cnA T g a s (T 3)) := by
  have b0 := hT.1
  intro k
  induction k with
  | zero =>
    intro t fu I ht hf h e1 e2
    obtain ⟨fu, rfl⟩ : ∃ f, fu = f + 1 := ⟨fu - 1, by omega⟩
    refine ⟨I, ?_, Fx.refl I, by rw [e1, show t = T 3 by omega], by rw [e2, show t = T 3 by omega]⟩
    show mX10_looksAhead_b12 _ _ _ _ _ _ = _
    unfold mX10_looksAhead_b12
    simp (disch := omega) only [mk_oO o_224, mk_gI f_224_0, mk_pI f_224_0, mk_gR f_224_1, mk_gR f_224_2, mk_gR f_224_3, mk_gR f_224_4, mk_gR f_224_5, mk_gI f_224_6, mk_pI f_224_6, mk_gR f_224_7, mk_gI f_224_8, mk_pI f_224_8, mk_gI f_224_9, mk_pI f_224_9, mk_gI f_224_10, mk_pI f_224_10, mk_gI f_224_11, mk_pI f_224_11, mk_gI f_224_12, mk_pI f_224_12, mk_gI f_224_13, mk_pI f_224_13, mk_gL f_224_14, mk_pL f_224_14, mk_gI f_224_15, mk_pI f_224_15, mk_gI f_224_16, mk_pI f_224_16, mk_gR f_224_17, mk_gR f_224_18, mk_gR f_224_19, mk_gI f_224_20, mk_pI f_224_20, mk_gR f_224_21, mk_gI f_224_22, mk_pI f_224_22, mk_gI f_224_23, mk_pI f_224_23, mk_gI f_224_24, mk_pI f_224_24, mk_gI f_224_25, mk_pI f_224_25, mk_gR f_224_26, mk_gI f_224_27, mk_pI f_224_27, mk_gI f_224_28, mk_pI f_224_28, mk_gR f_224_29, mk_gI f_224_30, mk_pI f_224_30, mk_gI f_224_31, mk_pI f_224_31, mk_gR f_224_32, mk_gI f_224_33, mk_pI f_224_33, ↓m_1, ↓m_2, i_0, i_1, i_2, i_3, i_4, i_6, i_5, i_12, i_11, i_10, i_9999, i_7, i_9, i_8, i_24, i_100, i_56, i_48, i_13, i_176, i_232, i_224, i_32, i_999, i_99, i_900, i_97, i_90, i_30, i_20, i_59, i_14, i_50, i_29, i_22, i_19, i_18, i_17, i_96, i_61, i_57, i_51, i_41, i_26, i_2552, i_255, i_25, i_23, i_21, i_16, i_15, i_122, i_10000, i_31, dzF, obs, b2_some, rz0, rz1, rzb, n01, n01', n10, n01e, nI_add, nI_mul, ↓reduceIte, not_false_eq_true, not_true_eq_false, ite_not, leT, leF, ltT, ltF, eqT, eqF, dz_no, R_now h.1]
  | succ k ih =>
    intro t fu I ht hf h e1 e2
    obtain ⟨fu, rfl⟩ : ∃ f, fu = f + 1 := ⟨fu - 1, by omega⟩
    have hb : mX10_looksAhead_L12 (fu + 1) (mk n I J) 224 (nI a) (nI s) (nI t) = _ := R_ahead_b12 (J := J) hT h hs (by omega : t < T 3) (mX10_looksAhead_L12 fu)
    rw [hb]
    unfold mX10_looksAhead_b62
    by_cases ha' : ahead T t s
    · by_cases hu : uses T g t a
      · have hc : ahead T t s ∧ uses T g t a := ⟨ha', hu⟩
        obtain ⟨I', e, f, p, q⟩ := ih (t + 1) fu (u2 (u2 I 224 24 (nI (pcA T g a s t + T (56 + 12 * t + 3)))) 224 25 (nI (cnA T g a s t + 1))) (by omega) (by omega) (h.fa ((Fx_u2 _ _ (by unfold SA; omega)).trans (Fx_u2 _ _ (by unfold SA; omega)))) (by rw [u2_no _ _ (by omega), u2_at, pcA, if_pos hc]) (by rw [u2_at, cnA, if_pos hc])
        refine ⟨I', ?_, Fx.trans ((Fx_u2 _ _ (by unfold SA; omega)).trans (Fx_u2 _ _ (by unfold SA; omega))) f, p, q⟩
        simp (disch := omega) only [mk_oO o_224, mk_gI f_224_0, mk_pI f_224_0, mk_gR f_224_1, mk_gR f_224_2, mk_gR f_224_3, mk_gR f_224_4, mk_gR f_224_5, mk_gI f_224_6, mk_pI f_224_6, mk_gR f_224_7, mk_gI f_224_8, mk_pI f_224_8, mk_gI f_224_9, mk_pI f_224_9, mk_gI f_224_10, mk_pI f_224_10, mk_gI f_224_11, mk_pI f_224_11, mk_gI f_224_12, mk_pI f_224_12, mk_gI f_224_13, mk_pI f_224_13, mk_gL f_224_14, mk_pL f_224_14, mk_gI f_224_15, mk_pI f_224_15, mk_gI f_224_16, mk_pI f_224_16, mk_gR f_224_17, mk_gR f_224_18, mk_gR f_224_19, mk_gI f_224_20, mk_pI f_224_20, mk_gR f_224_21, mk_gI f_224_22, mk_pI f_224_22, mk_gI f_224_23, mk_pI f_224_23, mk_gI f_224_24, mk_pI f_224_24, mk_gI f_224_25, mk_pI f_224_25, mk_gR f_224_26, mk_gI f_224_27, mk_pI f_224_27, mk_gI f_224_28, mk_pI f_224_28, mk_gR f_224_29, mk_gI f_224_30, mk_pI f_224_30, mk_gI f_224_31, mk_pI f_224_31, mk_gR f_224_32, mk_gI f_224_33, mk_pI f_224_33, ↓m_1, ↓m_2, i_0, i_1, i_2, i_3, i_4, i_6, i_5, i_12, i_11, i_10, i_9999, i_7, i_9, i_8, i_24, i_100, i_56, i_48, i_13, i_176, i_232, i_224, i_32, i_999, i_99, i_900, i_97, i_90, i_30, i_20, i_59, i_14, i_50, i_29, i_22, i_19, i_18, i_17, i_96, i_61, i_57, i_51, i_41, i_26, i_2552, i_255, i_25, i_23, i_21, i_16, i_15, i_122, i_10000, i_31, dzF, obs, b2_some, rz0, rz1, rzb, n01, n01', n10, n01e, nI_add, nI_mul, ↓reduceIte, not_false_eq_true, not_true_eq_false, ite_not, if_pos ha', if_pos hu, R_uses hT h, R_of h, e1, e2, u2_no]
        exact e
      · have hc : ¬ (ahead T t s ∧ uses T g t a) := fun z => hu z.2
        obtain ⟨I', e, f, p, q⟩ := ih (t + 1) fu I (by omega) (by omega) h (by rw [e1, pcA, if_neg hc, Nat.add_zero]) (by rw [e2, cnA, if_neg hc, Nat.add_zero])
        refine ⟨I', ?_, f, p, q⟩
        simp (disch := omega) only [mk_oO o_224, mk_gI f_224_0, mk_pI f_224_0, mk_gR f_224_1, mk_gR f_224_2, mk_gR f_224_3, mk_gR f_224_4, mk_gR f_224_5, mk_gI f_224_6, mk_pI f_224_6, mk_gR f_224_7, mk_gI f_224_8, mk_pI f_224_8, mk_gI f_224_9, mk_pI f_224_9, mk_gI f_224_10, mk_pI f_224_10, mk_gI f_224_11, mk_pI f_224_11, mk_gI f_224_12, mk_pI f_224_12, mk_gI f_224_13, mk_pI f_224_13, mk_gL f_224_14, mk_pL f_224_14, mk_gI f_224_15, mk_pI f_224_15, mk_gI f_224_16, mk_pI f_224_16, mk_gR f_224_17, mk_gR f_224_18, mk_gR f_224_19, mk_gI f_224_20, mk_pI f_224_20, mk_gR f_224_21, mk_gI f_224_22, mk_pI f_224_22, mk_gI f_224_23, mk_pI f_224_23, mk_gI f_224_24, mk_pI f_224_24, mk_gI f_224_25, mk_pI f_224_25, mk_gR f_224_26, mk_gI f_224_27, mk_pI f_224_27, mk_gI f_224_28, mk_pI f_224_28, mk_gR f_224_29, mk_gI f_224_30, mk_pI f_224_30, mk_gI f_224_31, mk_pI f_224_31, mk_gR f_224_32, mk_gI f_224_33, mk_pI f_224_33, ↓m_1, ↓m_2, i_0, i_1, i_2, i_3, i_4, i_6, i_5, i_12, i_11, i_10, i_9999, i_7, i_9, i_8, i_24, i_100, i_56, i_48, i_13, i_176, i_232, i_224, i_32, i_999, i_99, i_900, i_97, i_90, i_30, i_20, i_59, i_14, i_50, i_29, i_22, i_19, i_18, i_17, i_96, i_61, i_57, i_51, i_41, i_26, i_2552, i_255, i_25, i_23, i_21, i_16, i_15, i_122, i_10000, i_31, dzF, obs, b2_some, rz0, rz1, rzb, n01, n01', n10, n01e, nI_add, nI_mul, ↓reduceIte, not_false_eq_true, not_true_eq_false, ite_not, if_pos ha', if_neg hu, R_uses hT h]
        exact e
    · have hc : ¬ (ahead T t s ∧ uses T g t a) := fun z => ha' z.1
      obtain ⟨I', e, f, p, q⟩ := ih (t + 1) fu I (by omega) (by omega) h (by rw [e1, pcA, if_neg hc, Nat.add_zero]) (by rw [e2, cnA, if_neg hc, Nat.add_zero])
      refine ⟨I', ?_, f, p, q⟩
      simp (disch := omega) only [mk_oO o_224, mk_gI f_224_0, mk_pI f_224_0, mk_gR f_224_1, mk_gR f_224_2, mk_gR f_224_3, mk_gR f_224_4, mk_gR f_224_5, mk_gI f_224_6, mk_pI f_224_6, mk_gR f_224_7, mk_gI f_224_8, mk_pI f_224_8, mk_gI f_224_9, mk_pI f_224_9, mk_gI f_224_10, mk_pI f_224_10, mk_gI f_224_11, mk_pI f_224_11, mk_gI f_224_12, mk_pI f_224_12, mk_gI f_224_13, mk_pI f_224_13, mk_gL f_224_14, mk_pL f_224_14, mk_gI f_224_15, mk_pI f_224_15, mk_gI f_224_16, mk_pI f_224_16, mk_gR f_224_17, mk_gR f_224_18, mk_gR f_224_19, mk_gI f_224_20, mk_pI f_224_20, mk_gR f_224_21, mk_gI f_224_22, mk_pI f_224_22, mk_gI f_224_23, mk_pI f_224_23, mk_gI f_224_24, mk_pI f_224_24, mk_gI f_224_25, mk_pI f_224_25, mk_gR f_224_26, mk_gI f_224_27, mk_pI f_224_27, mk_gI f_224_28, mk_pI f_224_28, mk_gR f_224_29, mk_gI f_224_30, mk_pI f_224_30, mk_gI f_224_31, mk_pI f_224_31, mk_gR f_224_32, mk_gI f_224_33, mk_pI f_224_33, ↓m_1, ↓m_2, i_0, i_1, i_2, i_3, i_4, i_6, i_5, i_12, i_11, i_10, i_9999, i_7, i_9, i_8, i_24, i_100, i_56, i_48, i_13, i_176, i_232, i_224, i_32, i_999, i_99, i_900, i_97, i_90, i_30, i_20, i_59, i_14, i_50, i_29, i_22, i_19, i_18, i_17, i_96, i_61, i_57, i_51, i_41, i_26, i_2552, i_255, i_25, i_23, i_21, i_16, i_15, i_122, i_10000, i_31, dzF, obs, b2_some, rz0, rz1, rzb, n01, n01', n10, n01e, nI_add, nI_mul, ↓reduceIte, not_false_eq_true, not_true_eq_false, ite_not, if_neg ha']
      exact e
theorem R_looksAhead {I : Nat → Nat → Int32} (hT : VT T) (h : RQ T g I) {a s : Nat} (hs : s < 10) (ha : a < 4) : ∃ I', mX10_looksAhead (mk n I J) 224 (nI a) (nI s) = some (mk n I' J) ∧ Fx SA I I' ∧ I' 224 24 = nI (pcA T g a s (T 3)) ∧ I' 224 25 = nI (cnA T g a s (T 3)) := by
  have b0 := hT.1
  have f0 : Fx SA I (u2 (u2 I 224 24 (nI 0)) 224 25 (nI 0)) := (Fx_u2 _ _ (by unfold SA; omega)).trans (Fx_u2 _ _ (by unfold SA; omega))
  obtain ⟨I', e, f, p, q⟩ := R_aheadL (n := n) (J := J) hT hs ha (T 3) 0 FU (u2 (u2 I 224 24 (nI 0)) 224 25 (nI 0)) (by omega) (by unfold FU; omega) (h.fa f0) (by rw [u2_no _ _ (by omega), u2_at]; rfl) (by rw [u2_at]; rfl)
  refine ⟨I', ?_, f0.trans f, p, q⟩
  unfold mX10_looksAhead
  simp (disch := omega) only [mk_oO o_224, mk_gI f_224_0, mk_pI f_224_0, mk_gR f_224_1, mk_gR f_224_2, mk_gR f_224_3, mk_gR f_224_4, mk_gR f_224_5, mk_gI f_224_6, mk_pI f_224_6, mk_gR f_224_7, mk_gI f_224_8, mk_pI f_224_8, mk_gI f_224_9, mk_pI f_224_9, mk_gI f_224_10, mk_pI f_224_10, mk_gI f_224_11, mk_pI f_224_11, mk_gI f_224_12, mk_pI f_224_12, mk_gI f_224_13, mk_pI f_224_13, mk_gL f_224_14, mk_pL f_224_14, mk_gI f_224_15, mk_pI f_224_15, mk_gI f_224_16, mk_pI f_224_16, mk_gR f_224_17, mk_gR f_224_18, mk_gR f_224_19, mk_gI f_224_20, mk_pI f_224_20, mk_gR f_224_21, mk_gI f_224_22, mk_pI f_224_22, mk_gI f_224_23, mk_pI f_224_23, mk_gI f_224_24, mk_pI f_224_24, mk_gI f_224_25, mk_pI f_224_25, mk_gR f_224_26, mk_gI f_224_27, mk_pI f_224_27, mk_gI f_224_28, mk_pI f_224_28, mk_gR f_224_29, mk_gI f_224_30, mk_pI f_224_30, mk_gI f_224_31, mk_pI f_224_31, mk_gR f_224_32, mk_gI f_224_33, mk_pI f_224_33, ↓m_1, ↓m_2, i_0, i_1, i_2, i_3, i_4, i_6, i_5, i_12, i_11, i_10, i_9999, i_7, i_9, i_8, i_24, i_100, i_56, i_48, i_13, i_176, i_232, i_224, i_32, i_999, i_99, i_900, i_97, i_90, i_30, i_20, i_59, i_14, i_50, i_29, i_22, i_19, i_18, i_17, i_96, i_61, i_57, i_51, i_41, i_26, i_2552, i_255, i_25, i_23, i_21, i_16, i_15, i_122, i_10000, i_31, dzF, obs, b2_some, rz0, rz1, rzb, n01, n01', n10, n01e, nI_add, nI_mul, ↓reduceIte, not_false_eq_true, not_true_eq_false, ite_not]
  exact e
theorem R_shareOf {I : Nat → Nat → Int32} (hT : VT T) (h : RQ T g I) {a s : Nat} (hs : s < 10) (ha : a < 4) : ∃ I', mX10_shareOf (mk n I J) 224 (nI a) (nI s) = some (nI (share T g a s), mk n I' J) ∧ Fx SA I I' := by
  have b0 := hT.1
  have c1 := hT.le (48 + 2 * a + 1)
  have c2 := hT.le (48 + 2 * a + 0)
  have c3 := hT.le (56 + 12 * s + 3)
  by_cases hu : uses T g s a
  · obtain ⟨I', e, f, p, q⟩ := R_looksAhead (n := n) (J := J) hT h hs ha
    have h' := h.fa f
    have d1 := pcA_le (g := g) hT a s (T 3)
    have d2 := cnA_le (T := T) (g := g) a s (T 3)
    refine ⟨I', ?_, f⟩
    unfold mX10_shareOf share
    rw [if_pos hu]
    by_cases hz : T (48 + 2 * a + 1) = 0
    · rw [if_pos hz]
      simp (disch := omega) only [mk_oO o_224, mk_gI f_224_0, mk_pI f_224_0, mk_gR f_224_1, mk_gR f_224_2, mk_gR f_224_3, mk_gR f_224_4, mk_gR f_224_5, mk_gI f_224_6, mk_pI f_224_6, mk_gR f_224_7, mk_gI f_224_8, mk_pI f_224_8, mk_gI f_224_9, mk_pI f_224_9, mk_gI f_224_10, mk_pI f_224_10, mk_gI f_224_11, mk_pI f_224_11, mk_gI f_224_12, mk_pI f_224_12, mk_gI f_224_13, mk_pI f_224_13, mk_gL f_224_14, mk_pL f_224_14, mk_gI f_224_15, mk_pI f_224_15, mk_gI f_224_16, mk_pI f_224_16, mk_gR f_224_17, mk_gR f_224_18, mk_gR f_224_19, mk_gI f_224_20, mk_pI f_224_20, mk_gR f_224_21, mk_gI f_224_22, mk_pI f_224_22, mk_gI f_224_23, mk_pI f_224_23, mk_gI f_224_24, mk_pI f_224_24, mk_gI f_224_25, mk_pI f_224_25, mk_gR f_224_26, mk_gI f_224_27, mk_pI f_224_27, mk_gI f_224_28, mk_pI f_224_28, mk_gR f_224_29, mk_gI f_224_30, mk_pI f_224_30, mk_gI f_224_31, mk_pI f_224_31, mk_gR f_224_32, mk_gI f_224_33, mk_pI f_224_33, ↓m_1, ↓m_2, i_0, i_1, i_2, i_3, i_4, i_6, i_5, i_12, i_11, i_10, i_9999, i_7, i_9, i_8, i_24, i_100, i_56, i_48, i_13, i_176, i_232, i_224, i_32, i_999, i_99, i_900, i_97, i_90, i_30, i_20, i_59, i_14, i_50, i_29, i_22, i_19, i_18, i_17, i_96, i_61, i_57, i_51, i_41, i_26, i_2552, i_255, i_25, i_23, i_21, i_16, i_15, i_122, i_10000, i_31, dzF, obs, b2_some, rz0, rz1, rzb, n01, n01', n10, n01e, nI_add, nI_mul, ↓reduceIte, not_false_eq_true, not_true_eq_false, ite_not, if_pos hu, R_uses hT h, e, R_assistOf h', hz, q, nI_eq (a := cnA T g a s (T 3)) (b := 0)]
      split <;> rfl
    · rw [if_neg hz]
      unfold mX10_shareOf_b68
      simp (disch := omega) only [mk_oO o_224, mk_gI f_224_0, mk_pI f_224_0, mk_gR f_224_1, mk_gR f_224_2, mk_gR f_224_3, mk_gR f_224_4, mk_gR f_224_5, mk_gI f_224_6, mk_pI f_224_6, mk_gR f_224_7, mk_gI f_224_8, mk_pI f_224_8, mk_gI f_224_9, mk_pI f_224_9, mk_gI f_224_10, mk_pI f_224_10, mk_gI f_224_11, mk_pI f_224_11, mk_gI f_224_12, mk_pI f_224_12, mk_gI f_224_13, mk_pI f_224_13, mk_gL f_224_14, mk_pL f_224_14, mk_gI f_224_15, mk_pI f_224_15, mk_gI f_224_16, mk_pI f_224_16, mk_gR f_224_17, mk_gR f_224_18, mk_gR f_224_19, mk_gI f_224_20, mk_pI f_224_20, mk_gR f_224_21, mk_gI f_224_22, mk_pI f_224_22, mk_gI f_224_23, mk_pI f_224_23, mk_gI f_224_24, mk_pI f_224_24, mk_gI f_224_25, mk_pI f_224_25, mk_gR f_224_26, mk_gI f_224_27, mk_pI f_224_27, mk_gI f_224_28, mk_pI f_224_28, mk_gR f_224_29, mk_gI f_224_30, mk_pI f_224_30, mk_gI f_224_31, mk_pI f_224_31, mk_gR f_224_32, mk_gI f_224_33, mk_pI f_224_33, ↓m_1, ↓m_2, i_0, i_1, i_2, i_3, i_4, i_6, i_5, i_12, i_11, i_10, i_9999, i_7, i_9, i_8, i_24, i_100, i_56, i_48, i_13, i_176, i_232, i_224, i_32, i_999, i_99, i_900, i_97, i_90, i_30, i_20, i_59, i_14, i_50, i_29, i_22, i_19, i_18, i_17, i_96, i_61, i_57, i_51, i_41, i_26, i_2552, i_255, i_25, i_23, i_21, i_16, i_15, i_122, i_10000, i_31, dzF, obs, b2_some, rz0, rz1, rzb, n01, n01', n10, n01e, nI_add, nI_mul, ↓reduceIte, not_false_eq_true, not_true_eq_false, ite_not, if_pos hu, R_uses hT h, e, R_assistOf h', eqF, p, R_of h', nI_leI]
      by_cases h1 : T (48 + 2 * a + 1) ≤ pcA T g a s (T 3)
      · rw [if_pos h1]
        rw [show T (48 + 2 * a + 1) - pcA T g a s (T 3) = 0 by omega, Nat.zero_min, Nat.mul_zero, Nat.zero_div]
        by_cases h2 : T (56 + 12 * s + 3) ≤ 0
        · rw [if_pos h2, show T (56 + 12 * s + 3) = 0 by omega, nI_div (by omega) (by omega), Nat.mul_zero, Nat.zero_div]
        · rw [if_neg h2, nI_div (by omega) (by omega), Nat.zero_div]
      · rw [if_neg h1, nI_sub (by omega)]
        have hm1 : T (48 + 2 * a + 0) * T (56 + 12 * s + 3) ≤ 9999 * 9999 := Nat.mul_le_mul c2 c3
        have hm2 : T (48 + 2 * a + 0) * (T (48 + 2 * a + 1) - pcA T g a s (T 3)) ≤ 9999 * 9999 := Nat.mul_le_mul c2 (by omega)
        by_cases h2 : T (56 + 12 * s + 3) ≤ T (48 + 2 * a + 1) - pcA T g a s (T 3)
        · rw [if_pos (nI_le h2 (by omega)), nI_div (by omega) (by omega), Nat.min_eq_right h2]
        · rw [if_neg (nI_ge (by omega) (by omega)), nI_mul, nI_div (by omega) (by omega), Nat.min_eq_left (by omega)]
  · refine ⟨I, ?_, Fx.refl I⟩
    unfold mX10_shareOf share
    simp (disch := omega) only [mk_oO o_224, mk_gI f_224_0, mk_pI f_224_0, mk_gR f_224_1, mk_gR f_224_2, mk_gR f_224_3, mk_gR f_224_4, mk_gR f_224_5, mk_gI f_224_6, mk_pI f_224_6, mk_gR f_224_7, mk_gI f_224_8, mk_pI f_224_8, mk_gI f_224_9, mk_pI f_224_9, mk_gI f_224_10, mk_pI f_224_10, mk_gI f_224_11, mk_pI f_224_11, mk_gI f_224_12, mk_pI f_224_12, mk_gI f_224_13, mk_pI f_224_13, mk_gL f_224_14, mk_pL f_224_14, mk_gI f_224_15, mk_pI f_224_15, mk_gI f_224_16, mk_pI f_224_16, mk_gR f_224_17, mk_gR f_224_18, mk_gR f_224_19, mk_gI f_224_20, mk_pI f_224_20, mk_gR f_224_21, mk_gI f_224_22, mk_pI f_224_22, mk_gI f_224_23, mk_pI f_224_23, mk_gI f_224_24, mk_pI f_224_24, mk_gI f_224_25, mk_pI f_224_25, mk_gR f_224_26, mk_gI f_224_27, mk_pI f_224_27, mk_gI f_224_28, mk_pI f_224_28, mk_gR f_224_29, mk_gI f_224_30, mk_pI f_224_30, mk_gI f_224_31, mk_pI f_224_31, mk_gR f_224_32, mk_gI f_224_33, mk_pI f_224_33, ↓m_1, ↓m_2, i_0, i_1, i_2, i_3, i_4, i_6, i_5, i_12, i_11, i_10, i_9999, i_7, i_9, i_8, i_24, i_100, i_56, i_48, i_13, i_176, i_232, i_224, i_32, i_999, i_99, i_900, i_97, i_90, i_30, i_20, i_59, i_14, i_50, i_29, i_22, i_19, i_18, i_17, i_96, i_61, i_57, i_51, i_41, i_26, i_2552, i_255, i_25, i_23, i_21, i_16, i_15, i_122, i_10000, i_31, dzF, obs, b2_some, rz0, rz1, rzb, n01, n01', n10, n01e, nI_add, nI_mul, ↓reduceIte, not_false_eq_true, not_true_eq_false, ite_not, if_neg hu, R_uses hT h]
theorem R_sharesL (hT : VT T) {s : Nat} (hs : s < 10) : ∀ (k t fu : Nat) (I : Nat → Nat → Int32), t + k = T 2 → k < fu → RQ T g I → ∃ I', mX10_sharesOf_L4 fu (mk n I J) 224 (nI s) (nI (shares T g s t)) (nI t) = some (nI (shares T g s (T 2)), mk n I' J) ∧ Fx SA I I' := by
  have b0 := hT.1
  intro k
  induction k with
  | zero =>
    intro t fu I ht hf h
    obtain ⟨fu, rfl⟩ : ∃ f, fu = f + 1 := ⟨fu - 1, by omega⟩
    refine ⟨I, ?_, Fx.refl I⟩
    show mX10_sharesOf_b4 _ _ _ _ _ _ = _
    unfold mX10_sharesOf_b4
    simp (disch := omega) only [mk_oO o_224, mk_gI f_224_0, mk_pI f_224_0, mk_gR f_224_1, mk_gR f_224_2, mk_gR f_224_3, mk_gR f_224_4, mk_gR f_224_5, mk_gI f_224_6, mk_pI f_224_6, mk_gR f_224_7, mk_gI f_224_8, mk_pI f_224_8, mk_gI f_224_9, mk_pI f_224_9, mk_gI f_224_10, mk_pI f_224_10, mk_gI f_224_11, mk_pI f_224_11, mk_gI f_224_12, mk_pI f_224_12, mk_gI f_224_13, mk_pI f_224_13, mk_gL f_224_14, mk_pL f_224_14, mk_gI f_224_15, mk_pI f_224_15, mk_gI f_224_16, mk_pI f_224_16, mk_gR f_224_17, mk_gR f_224_18, mk_gR f_224_19, mk_gI f_224_20, mk_pI f_224_20, mk_gR f_224_21, mk_gI f_224_22, mk_pI f_224_22, mk_gI f_224_23, mk_pI f_224_23, mk_gI f_224_24, mk_pI f_224_24, mk_gI f_224_25, mk_pI f_224_25, mk_gR f_224_26, mk_gI f_224_27, mk_pI f_224_27, mk_gI f_224_28, mk_pI f_224_28, mk_gR f_224_29, mk_gI f_224_30, mk_pI f_224_30, mk_gI f_224_31, mk_pI f_224_31, mk_gR f_224_32, mk_gI f_224_33, mk_pI f_224_33, ↓m_1, ↓m_2, i_0, i_1, i_2, i_3, i_4, i_6, i_5, i_12, i_11, i_10, i_9999, i_7, i_9, i_8, i_24, i_100, i_56, i_48, i_13, i_176, i_232, i_224, i_32, i_999, i_99, i_900, i_97, i_90, i_30, i_20, i_59, i_14, i_50, i_29, i_22, i_19, i_18, i_17, i_96, i_61, i_57, i_51, i_41, i_26, i_2552, i_255, i_25, i_23, i_21, i_16, i_15, i_122, i_10000, i_31, dzF, obs, b2_some, rz0, rz1, rzb, n01, n01', n10, n01e, nI_add, nI_mul, ↓reduceIte, not_false_eq_true, not_true_eq_false, ite_not, leT, leF, ltT, ltF, eqT, eqF, dz_no, R_now h.1]
    rw [show t = T 2 by omega]
  | succ k ih =>
    intro t fu I ht hf h
    obtain ⟨fu, rfl⟩ : ∃ f, fu = f + 1 := ⟨fu - 1, by omega⟩
    obtain ⟨I1, e1, f1⟩ := R_shareOf (n := n) (J := J) hT h hs (by omega : t < 4)
    obtain ⟨I', e, f⟩ := ih (t + 1) fu I1 (by omega) (by omega) (h.fa f1)
    refine ⟨I', ?_, f1.trans f⟩
    show mX10_sharesOf_b4 _ _ _ _ _ _ = _
    unfold mX10_sharesOf_b4
    simp (disch := omega) only [mk_oO o_224, mk_gI f_224_0, mk_pI f_224_0, mk_gR f_224_1, mk_gR f_224_2, mk_gR f_224_3, mk_gR f_224_4, mk_gR f_224_5, mk_gI f_224_6, mk_pI f_224_6, mk_gR f_224_7, mk_gI f_224_8, mk_pI f_224_8, mk_gI f_224_9, mk_pI f_224_9, mk_gI f_224_10, mk_pI f_224_10, mk_gI f_224_11, mk_pI f_224_11, mk_gI f_224_12, mk_pI f_224_12, mk_gI f_224_13, mk_pI f_224_13, mk_gL f_224_14, mk_pL f_224_14, mk_gI f_224_15, mk_pI f_224_15, mk_gI f_224_16, mk_pI f_224_16, mk_gR f_224_17, mk_gR f_224_18, mk_gR f_224_19, mk_gI f_224_20, mk_pI f_224_20, mk_gR f_224_21, mk_gI f_224_22, mk_pI f_224_22, mk_gI f_224_23, mk_pI f_224_23, mk_gI f_224_24, mk_pI f_224_24, mk_gI f_224_25, mk_pI f_224_25, mk_gR f_224_26, mk_gI f_224_27, mk_pI f_224_27, mk_gI f_224_28, mk_pI f_224_28, mk_gR f_224_29, mk_gI f_224_30, mk_pI f_224_30, mk_gI f_224_31, mk_pI f_224_31, mk_gR f_224_32, mk_gI f_224_33, mk_pI f_224_33, ↓m_1, ↓m_2, i_0, i_1, i_2, i_3, i_4, i_6, i_5, i_12, i_11, i_10, i_9999, i_7, i_9, i_8, i_24, i_100, i_56, i_48, i_13, i_176, i_232, i_224, i_32, i_999, i_99, i_900, i_97, i_90, i_30, i_20, i_59, i_14, i_50, i_29, i_22, i_19, i_18, i_17, i_96, i_61, i_57, i_51, i_41, i_26, i_2552, i_255, i_25, i_23, i_21, i_16, i_15, i_122, i_10000, i_31, dzF, obs, b2_some, rz0, rz1, rzb, n01, n01', n10, n01e, nI_add, nI_mul, ↓reduceIte, not_false_eq_true, not_true_eq_false, ite_not, leF, R_now h.1, e1]
    exact e
theorem R_sharesOf {I : Nat → Nat → Int32} (hT : VT T) (h : RQ T g I) {s : Nat} (hs : s < 10) : ∃ I', mX10_sharesOf (mk n I J) 224 (nI s) = some (nI (shares T g s (T 2)), mk n I' J) ∧ Fx SA I I' := by
  have b0 := hT.1
  obtain ⟨I', e, f⟩ := R_sharesL (n := n) (J := J) hT hs (T 2) 0 FU I (by omega) (by unfold FU; omega) h
  refine ⟨I', ?_, f⟩
  unfold mX10_sharesOf
  rw [mk_oO o_224]
  exact e
theorem ownAt_le (hT : VT T) (s : Nat) {p : Nat} (hp : p ≤ 9999) (hs : s < T 3) : ownAt T g s p ≤ 300000000 := by
  have b0 := hT.1
  unfold ownAt
  have c1 := hT.le (56 + 12 * s + 3)
  have c2 := hT.le (56 + 12 * s + 8)
  have c3 := hT.le (56 + 12 * s + 9)
  have c4 := hT.le (56 + 12 * s + 10)
  have c5 : T (56 + 12 * s + 7) ≤ 99 := by have := (hT.2.2.2.2.2.1 s hs).2.2.2.2.2.2.2.1; rw [show 56 + 12 * s + 7 = 63 + 12 * s by omega]; exact this
  have c6 := shares_le (g := g) hT s (T 2)
  have c7 : p * T (56 + 12 * s + 3) ≤ 9999 * 9999 := Nat.mul_le_mul hp c1
  have c8 : p * T (56 + 12 * s + 3) * T (56 + 12 * s + 7) ≤ 9999 * 9999 * 99 := Nat.mul_le_mul c7 c5
  omega
theorem R_ownAt {I : Nat → Nat → Int32} (hT : VT T) (h : RQ T g I) {s p : Nat} (hs : s < T 3) (hp : p ≤ 9999) : ∃ I', mX10_ownAt (mk n I J) 224 (nI s) (nI p) = some (lN (ownAt T g s p), mk n I' J) ∧ Fx SA I I' := by
  have b0 := hT.1
  obtain ⟨I', e, f⟩ := R_sharesOf (n := n) (J := J) hT h (by omega : s < 10)
  refine ⟨I', ?_, f⟩
  have c1 := hT.le (56 + 12 * s + 3)
  have c5 : T (56 + 12 * s + 7) ≤ 99 := by have := (hT.2.2.2.2.2.1 s hs).2.2.2.2.2.2.2.1; rw [show 56 + 12 * s + 7 = 63 + 12 * s by omega]; exact this
  have c6 := shares_le (g := g) hT s (T 2)
  have c7 : p * T (56 + 12 * s + 3) ≤ 9999 * 9999 := Nat.mul_le_mul hp c1
  have c8 : p * T (56 + 12 * s + 3) * T (56 + 12 * s + 7) ≤ 9999 * 9999 * 99 := Nat.mul_le_mul c7 c5
  unfold mX10_ownAt ownAt
  simp (disch := omega) only [mk_oO o_224, mk_gI f_224_0, mk_pI f_224_0, mk_gR f_224_1, mk_gR f_224_2, mk_gR f_224_3, mk_gR f_224_4, mk_gR f_224_5, mk_gI f_224_6, mk_pI f_224_6, mk_gR f_224_7, mk_gI f_224_8, mk_pI f_224_8, mk_gI f_224_9, mk_pI f_224_9, mk_gI f_224_10, mk_pI f_224_10, mk_gI f_224_11, mk_pI f_224_11, mk_gI f_224_12, mk_pI f_224_12, mk_gI f_224_13, mk_pI f_224_13, mk_gL f_224_14, mk_pL f_224_14, mk_gI f_224_15, mk_pI f_224_15, mk_gI f_224_16, mk_pI f_224_16, mk_gR f_224_17, mk_gR f_224_18, mk_gR f_224_19, mk_gI f_224_20, mk_pI f_224_20, mk_gR f_224_21, mk_gI f_224_22, mk_pI f_224_22, mk_gI f_224_23, mk_pI f_224_23, mk_gI f_224_24, mk_pI f_224_24, mk_gI f_224_25, mk_pI f_224_25, mk_gR f_224_26, mk_gI f_224_27, mk_pI f_224_27, mk_gI f_224_28, mk_pI f_224_28, mk_gR f_224_29, mk_gI f_224_30, mk_pI f_224_30, mk_gI f_224_31, mk_pI f_224_31, mk_gR f_224_32, mk_gI f_224_33, mk_pI f_224_33, ↓m_1, ↓m_2, i_0, i_1, i_2, i_3, i_4, i_6, i_5, i_12, i_11, i_10, i_9999, i_7, i_9, i_8, i_24, i_100, i_56, i_48, i_13, i_176, i_232, i_224, i_32, i_999, i_99, i_900, i_97, i_90, i_30, i_20, i_59, i_14, i_50, i_29, i_22, i_19, i_18, i_17, i_96, i_61, i_57, i_51, i_41, i_26, i_2552, i_255, i_25, i_23, i_21, i_16, i_15, i_122, i_10000, i_31, l_100, dzF, obs, b2_some, rz0, rz1, rzb, n01, n01', n10, n01e, nI_add, nI_mul, ↓reduceIte, not_false_eq_true, not_true_eq_false, ite_not, R_of h, e, nI_l (hT.l31 _), nI_l, lN_add, lN_mul, lL_div]
theorem R_ownOf {I : Nat → Nat → Int32} (hT : VT T) (h : RQ T g I) {s : Nat} (hs : s < T 3) : ∃ I', mX10_ownOf (mk n I J) 224 (nI s) = some (lN (own T g s), mk n I' J) ∧ Fx SA I I' := by
  have b0 := hT.1
  obtain ⟨I', e, f⟩ := R_ownAt (n := n) (J := J) hT h hs (hT.le (56 + 12 * s + 4))
  refine ⟨I', ?_, f⟩
  unfold mX10_ownOf own
  simp (disch := omega) only [mk_oO o_224, mk_gI f_224_0, mk_pI f_224_0, mk_gR f_224_1, mk_gR f_224_2, mk_gR f_224_3, mk_gR f_224_4, mk_gR f_224_5, mk_gI f_224_6, mk_pI f_224_6, mk_gR f_224_7, mk_gI f_224_8, mk_pI f_224_8, mk_gI f_224_9, mk_pI f_224_9, mk_gI f_224_10, mk_pI f_224_10, mk_gI f_224_11, mk_pI f_224_11, mk_gI f_224_12, mk_pI f_224_12, mk_gI f_224_13, mk_pI f_224_13, mk_gL f_224_14, mk_pL f_224_14, mk_gI f_224_15, mk_pI f_224_15, mk_gI f_224_16, mk_pI f_224_16, mk_gR f_224_17, mk_gR f_224_18, mk_gR f_224_19, mk_gI f_224_20, mk_pI f_224_20, mk_gR f_224_21, mk_gI f_224_22, mk_pI f_224_22, mk_gI f_224_23, mk_pI f_224_23, mk_gI f_224_24, mk_pI f_224_24, mk_gI f_224_25, mk_pI f_224_25, mk_gR f_224_26, mk_gI f_224_27, mk_pI f_224_27, mk_gI f_224_28, mk_pI f_224_28, mk_gR f_224_29, mk_gI f_224_30, mk_pI f_224_30, mk_gI f_224_31, mk_pI f_224_31, mk_gR f_224_32, mk_gI f_224_33, mk_pI f_224_33, ↓m_1, ↓m_2, i_0, i_1, i_2, i_3, i_4, i_6, i_5, i_12, i_11, i_10, i_9999, i_7, i_9, i_8, i_24, i_100, i_56, i_48, i_13, i_176, i_232, i_224, i_32, i_999, i_99, i_900, i_97, i_90, i_30, i_20, i_59, i_14, i_50, i_29, i_22, i_19, i_18, i_17, i_96, i_61, i_57, i_51, i_41, i_26, i_2552, i_255, i_25, i_23, i_21, i_16, i_15, i_122, i_10000, i_31, dzF, obs, b2_some, rz0, rz1, rzb, n01, n01', n10, n01e, nI_add, nI_mul, ↓reduceIte, not_false_eq_true, not_true_eq_false, ite_not, R_of h, e]
end RG
