/-! ===== 63: acts: what is laid in the ring, in the reference's past ===== -/
section AB
variable {n : Nat} {J : Nat → Nat → Int64} {T : Nat → Nat}
theorem mod12 {a : Nat} (ha : a < 100) : nI a - nI a / nI 12 * nI 12 = nI (a % 12) := by
  rw [nI_div (by omega) (by omega), nI_mul, nI_sub (by omega)]
  congr 1
  omega
theorem mmin_nI {a b : Nat} (ha : a < 2 ^ 31) (hb : b < 2 ^ 31) : mmin (nI a) (nI b) = nI (min a b) := by
  show (if nI b < nI a then nI b else nI a) = _
  by_cases h : b < a
  · rw [if_pos (nI_lt h ha), Nat.min_eq_right (by omega)]
  · rw [if_neg (nI_nlt (by omega) hb), Nat.min_eq_left (by omega)]
theorem C_add {I : Nat → Nat → Int32} {u nx : Nat} (hu : u ≤ 12) (hx : nx < 12) (e1 : I 118 1 = nI nx) (e2 : I 118 2 = nI u) (x1 x2 x3 x4 : Int32) : ∃ I', mX0_add (mk n I J) 118 x1 x2 x3 x4 = some (mk n I' J) ∧ (∀ a c, a ≠ 118 → a ≠ 120 + nx → I' a c = I a c) ∧ I' 118 1 = nI ((nx + 1) % 12) ∧ I' 118 2 = nI (min (u + 1) 12) ∧ I' (120 + nx) 0 = x1 ∧ I' (120 + nx) 1 = x2 ∧ I' (120 + nx) 2 = x3 ∧ I' (120 + nx) 3 = x4 := by
  refine ⟨u2 (u2 (u2 (u2 (u2 (u2 I (120 + nx) 0 x1) (120 + nx) 1 x2) (120 + nx) 2 x3) (120 + nx) 3 x4) 118 1 (nI ((nx + 1) % 12))) 118 2 (nI (min (u + 1) 12)), ?_, ?_, ?_, ?_, ?_, ?_, ?_, ?_⟩
  · unfold mX0_add
    simp (disch := omega) only [mk_oO o_118, mk_gR f_118_0, mk_gI f_118_1, mk_pI f_118_1, mk_gI f_118_2, mk_pI f_118_2, ↓m_1, ↓m_2, i_0, i_1, i_2, i_3, i_4, i_6, i_5, i_12, i_11, i_10, i_9999, i_7, i_9, i_8, i_24, i_100, i_56, i_48, i_13, i_176, i_232, i_224, i_32, i_999, i_99, i_900, i_97, i_90, i_30, i_20, i_59, i_14, i_50, i_29, i_22, i_19, i_18, i_17, i_96, i_61, i_57, i_51, i_41, i_26, i_2552, i_255, i_25, i_23, i_21, i_16, i_15, i_122, i_10000, i_31, dzF, obs, b2_some, rz0, rz1, rzb, n01, n01', n10, n01e, nI_add, nI_mul, ↓reduceIte, not_false_eq_true, not_true_eq_false, ite_not, e1, e2, R_119, S_120, u2_no, mod12, mmin_nI]
  · intro a c h1 h2
    rw [u2_no _ _ (by omega), u2_no _ _ (by omega), u2_no _ _ (by omega), u2_no _ _ (by omega), u2_no _ _ (by omega), u2_no _ _ (by omega)]
  · rw [u2_no _ _ (by omega), u2_at]
  · rw [u2_at]
  · rw [u2_no _ _ (by omega), u2_no _ _ (by omega), u2_no _ _ (by omega), u2_no _ _ (by omega), u2_no _ _ (by omega), u2_at]
  · rw [u2_no _ _ (by omega), u2_no _ _ (by omega), u2_no _ _ (by omega), u2_no _ _ (by omega), u2_at]
  · rw [u2_no _ _ (by omega), u2_no _ _ (by omega), u2_no _ _ (by omega), u2_at]
  · rw [u2_no _ _ (by omega), u2_no _ _ (by omega), u2_at]
theorem R_copL {k1 k2 d1 d2 n1 n2 : Nat} (h1 : isI k1 0 n1 = true) (h2 : isI k2 0 n2 = true) (hk : k1 ≠ k2) (hd1 : d1 + 232 ≤ n1) (hd2 : d2 + 232 ≤ n2) (hn1 : n1 < 10000) (hn2 : n2 < 10000) : ∀ (k t fu : Nat) (I : Nat → Nat → Int32), t + k = 232 → k < fu → ∃ I', mX10_copies_L3 fu (mk n I J) k1 (nI d1) k2 (nI d2) (nI t) = some (mk n I' J) ∧ (∀ a c, ¬ (a = k2 ∧ d2 + t ≤ c ∧ c < d2 + 232) → I' a c = I a c) ∧ ∀ j, t ≤ j → j < 232 → I' k2 (d2 + j) = I k1 (d1 + j) := by
  intro k
  induction k with
  | zero =>
    intro t fu I ht hf
    obtain ⟨fu, rfl⟩ : ∃ f, fu = f + 1 := ⟨fu - 1, by omega⟩
    refine ⟨I, ?_, fun _ _ _ => rfl, fun j h1 h2 => by omega⟩
    show mX10_copies_b3 _ _ _ _ _ _ _ = _
    unfold mX10_copies_b3
    simp (disch := omega) only [↓m_1, ↓m_2, i_0, i_1, i_2, i_3, i_4, i_6, i_5, i_12, i_11, i_10, i_9999, i_7, i_9, i_8, i_24, i_100, i_56, i_48, i_13, i_176, i_232, i_224, i_32, i_999, i_99, i_900, i_97, i_90, i_30, i_20, i_59, i_14, i_50, i_29, i_22, i_19, i_18, i_17, i_96, i_61, i_57, i_51, i_41, i_26, i_2552, i_255, i_25, i_23, i_21, i_16, i_15, i_122, i_10000, i_31, dzF, obs, b2_some, rz0, rz1, rzb, n01, n01', n10, n01e, nI_add, nI_mul, ↓reduceIte, not_false_eq_true, not_true_eq_false, ite_not, leT]
  | succ k ih =>
    intro t fu I ht hf
    obtain ⟨fu, rfl⟩ : ∃ f, fu = f + 1 := ⟨fu - 1, by omega⟩
    obtain ⟨I', e, f, g⟩ := ih (t + 1) fu (u2 I k2 (d2 + t) (I k1 (d1 + t))) (by omega) (by omega)
    refine ⟨I', ?_, fun a c hn => ?_, fun j hj1 hj2 => ?_⟩
    · show mX10_copies_b3 _ _ _ _ _ _ _ = _
      unfold mX10_copies_b3
      simp (disch := omega) only [↓m_1, ↓m_2, i_0, i_1, i_2, i_3, i_4, i_6, i_5, i_12, i_11, i_10, i_9999, i_7, i_9, i_8, i_24, i_100, i_56, i_48, i_13, i_176, i_232, i_224, i_32, i_999, i_99, i_900, i_97, i_90, i_30, i_20, i_59, i_14, i_50, i_29, i_22, i_19, i_18, i_17, i_96, i_61, i_57, i_51, i_41, i_26, i_2552, i_255, i_25, i_23, i_21, i_16, i_15, i_122, i_10000, i_31, dzF, obs, b2_some, rz0, rz1, rzb, n01, n01', n10, n01e, nI_add, nI_mul, ↓reduceIte, not_false_eq_true, not_true_eq_false, ite_not, leF, mk_aIn h1, mk_sIn h2]
      exact e
    · rw [f a c (by omega), u2_no _ _ (by omega)]
    · by_cases hjt : j = t
      · subst hjt
        rw [f k2 (d2 + j) (by omega), u2_at]
      · rw [g j (by omega) hj2, u2_no _ _ (by omega)]
theorem R_copies {k1 k2 d1 d2 n1 n2 : Nat} (I : Nat → Nat → Int32) (h1 : isI k1 0 n1 = true) (h2 : isI k2 0 n2 = true) (hk : k1 ≠ k2) (hd1 : d1 + 232 ≤ n1) (hd2 : d2 + 232 ≤ n2) (hn1 : n1 < 10000) (hn2 : n2 < 10000) : ∃ I', mX10_copies (mk n I J) k1 (nI d1) k2 (nI d2) = some (mk n I' J) ∧ (∀ a c, ¬ (a = k2 ∧ d2 ≤ c ∧ c < d2 + 232) → I' a c = I a c) ∧ ∀ j, j < 232 → I' k2 (d2 + j) = I k1 (d1 + j) := by
  obtain ⟨I', e, f, g⟩ := R_copL (n := n) (J := J) h1 h2 hk hd1 hd2 hn1 hn2 232 0 FU I (by omega) (by unfold FU; omega)
  exact ⟨I', e, f, fun j hj => g j (Nat.zero_le _) hj⟩
theorem R_shL : ∀ (k t fu : Nat) (I : Nat → Nat → Int32), t + k = 2552 → k < fu → ∃ I', mX10_acts_L11 fu (mk n I J) 224 (nI t) = (gI 10 6 (mk n I' J) 224).bind (fun v42 => (pF 10 6 (mk n I' J) 224 (.inl (v42 - (1 : Int32)))).bind fun h47 => mX10_acts_b50 h47 224) ∧ (∀ a c, ¬ (a = 227 ∧ t ≤ c ∧ c < 2552) → I' a c = I a c) ∧ ∀ j, t ≤ j → j < 2552 → I' 227 j = I 227 (j + 232) := by
  intro k
  induction k with
  | zero =>
    intro t fu I ht hf
    obtain ⟨fu, rfl⟩ : ∃ f, fu = f + 1 := ⟨fu - 1, by omega⟩
    refine ⟨I, ?_, fun _ _ _ => rfl, fun j h1 h2 => by omega⟩
    show mX10_acts_b11 _ _ _ _ = _
    unfold mX10_acts_b11
    rw [i_2552, if_pos (nI_le (by omega) (by omega))]
  | succ k ih =>
    intro t fu I ht hf
    obtain ⟨fu, rfl⟩ : ∃ f, fu = f + 1 := ⟨fu - 1, by omega⟩
    obtain ⟨I', e, f, g⟩ := ih (t + 1) fu (u2 I 227 t (I 227 (t + 232))) (by omega) (by omega)
    refine ⟨I', ?_, fun a c hn => ?_, fun j hj1 hj2 => ?_⟩
    · rw [← e]
      show mX10_acts_b11 _ _ _ _ = _
      unfold mX10_acts_b11
      rw [i_2552, if_neg (nI_ge (by omega) (by omega))]
      simp (disch := omega) only [mk_oO o_224, mk_gI f_224_0, mk_pI f_224_0, mk_gR f_224_1, mk_gR f_224_2, mk_gR f_224_3, mk_gR f_224_4, mk_gR f_224_5, mk_gI f_224_6, mk_pI f_224_6, mk_gR f_224_7, mk_gI f_224_8, mk_pI f_224_8, mk_gI f_224_9, mk_pI f_224_9, mk_gI f_224_10, mk_pI f_224_10, mk_gI f_224_11, mk_pI f_224_11, mk_gI f_224_12, mk_pI f_224_12, mk_gI f_224_13, mk_pI f_224_13, mk_gL f_224_14, mk_pL f_224_14, mk_gI f_224_15, mk_pI f_224_15, mk_gI f_224_16, mk_pI f_224_16, mk_gR f_224_17, mk_gR f_224_18, mk_gR f_224_19, mk_gI f_224_20, mk_pI f_224_20, mk_gR f_224_21, mk_gI f_224_22, mk_pI f_224_22, mk_gI f_224_23, mk_pI f_224_23, mk_gI f_224_24, mk_pI f_224_24, mk_gI f_224_25, mk_pI f_224_25, mk_gR f_224_26, mk_gI f_224_27, mk_pI f_224_27, mk_gI f_224_28, mk_pI f_224_28, mk_gR f_224_29, mk_gI f_224_30, mk_pI f_224_30, mk_gI f_224_31, mk_pI f_224_31, mk_gR f_224_32, mk_gI f_224_33, mk_pI f_224_33, i_232, i_1, dzF, obs, b2_some, rz0, rz1, rzb, n01, n01', n10, n01e, nI_add, nI_mul, ↓reduceIte, not_false_eq_true, not_true_eq_false, ite_not, mk_aIn a_227, mk_sIn a_227]
    · rw [f a c (by omega), u2_no _ _ (by omega)]
    · by_cases hjt : j = t
      · subst hjt
        rw [f 227 j (by omega), u2_at]
      · rw [g j (by omega) hj2, u2_no _ _ (by omega)]
theorem R_acts50 {I : Nat → Nat → Int32} {u : Nat} (hu : u < 12) (e2 : I 224 6 = nI u) : ∃ I', mX10_acts_b50 (mk n I J) 224 = some (mk n I' J) ∧ (∀ a c, ¬ (a = 227 ∧ 232 * u ≤ c ∧ c < 232 * u + 232) → ¬ (a = 224 ∧ c = 6) → I' a c = I a c) ∧ I' 224 6 = nI (u + 1) ∧ ∀ j, j < 232 → I' 227 (232 * u + j) = I 225 j := by
  obtain ⟨I', e, f, g⟩ := R_copies (n := n) (J := J) (d1 := 0) (d2 := 232 * u) I a_225 a_227 (by decide) (by decide) (by omega) (by decide) (by decide)
  refine ⟨u2 I' 224 6 (nI (u + 1)), ?_, fun a c h1 h2 => ?_, u2_at _ _ _ _, fun j hj => ?_⟩
  · unfold mX10_acts_b50
    have e6 : I' 224 6 = nI u := by rw [f _ _ (by omega)]; exact e2
    simp (disch := omega) only [mk_oO o_224, mk_gI f_224_0, mk_pI f_224_0, mk_gR f_224_1, mk_gR f_224_2, mk_gR f_224_3, mk_gR f_224_4, mk_gR f_224_5, mk_gI f_224_6, mk_pI f_224_6, mk_gR f_224_7, mk_gI f_224_8, mk_pI f_224_8, mk_gI f_224_9, mk_pI f_224_9, mk_gI f_224_10, mk_pI f_224_10, mk_gI f_224_11, mk_pI f_224_11, mk_gI f_224_12, mk_pI f_224_12, mk_gI f_224_13, mk_pI f_224_13, mk_gL f_224_14, mk_pL f_224_14, mk_gI f_224_15, mk_pI f_224_15, mk_gI f_224_16, mk_pI f_224_16, mk_gR f_224_17, mk_gR f_224_18, mk_gR f_224_19, mk_gI f_224_20, mk_pI f_224_20, mk_gR f_224_21, mk_gI f_224_22, mk_pI f_224_22, mk_gI f_224_23, mk_pI f_224_23, mk_gI f_224_24, mk_pI f_224_24, mk_gI f_224_25, mk_pI f_224_25, mk_gR f_224_26, mk_gI f_224_27, mk_pI f_224_27, mk_gI f_224_28, mk_pI f_224_28, mk_gR f_224_29, mk_gI f_224_30, mk_pI f_224_30, mk_gI f_224_31, mk_pI f_224_31, mk_gR f_224_32, mk_gI f_224_33, mk_pI f_224_33, ↓m_1, ↓m_2, i_0, i_1, i_2, i_3, i_4, i_6, i_5, i_12, i_11, i_10, i_9999, i_7, i_9, i_8, i_24, i_100, i_56, i_48, i_13, i_176, i_232, i_224, i_32, i_999, i_99, i_900, i_97, i_90, i_30, i_20, i_59, i_14, i_50, i_29, i_22, i_19, i_18, i_17, i_96, i_61, i_57, i_51, i_41, i_26, i_2552, i_255, i_25, i_23, i_21, i_16, i_15, i_122, i_10000, i_31, dzF, obs, b2_some, rz0, rz1, rzb, n01, n01', n10, n01e, nI_add, nI_mul, ↓reduceIte, not_false_eq_true, not_true_eq_false, ite_not, e2, e, e6]
  · rw [u2_no _ _ (by omega), f a c h1]
  · rw [u2_no _ _ (by omega), g j hj, Nat.zero_add]
theorem R_acts {I : Nat → Nat → Int32} {u : Nat} (hu : u ≤ 12) (e2 : I 224 6 = nI u) : ∃ I', mX10_acts (mk n I J) 224 = some (mk n I' J) ∧ (∀ a c, a ≠ 227 → ¬ (a = 224 ∧ c = 6) → I' a c = I a c) ∧ I' 224 6 = nI (min (u + 1) 12) ∧ (∀ j, j < 232 → I' 227 (232 * min u 11 + j) = I 225 j) ∧ ∀ i j, i < min u 11 → j < 232 → I' 227 (232 * i + j) = I 227 (232 * (if u = 12 then i + 1 else i) + j) := by
  by_cases h12 : u = 12
  · subst h12
    obtain ⟨I1, e1, f1, g1⟩ := R_shL (n := n) (J := J) 2552 0 FU I (by omega) (by unfold FU; omega)
    have e6 : I1 224 6 = nI 12 := by rw [f1 _ _ (by omega)]; exact e2
    obtain ⟨I', e, f, p, g⟩ := R_acts50 (n := n) (J := J) (I := u2 I1 224 6 (nI 11)) (u := 11) (by decide) (u2_at _ _ _ _)
    refine ⟨I', ?_, fun a c h1 h2 => ?_, p, fun j hj => ?_, fun i j hi hj => ?_⟩
    · unfold mX10_acts
      simp (disch := omega) only [mk_oO o_224, mk_gI f_224_0, mk_pI f_224_0, mk_gR f_224_1, mk_gR f_224_2, mk_gR f_224_3, mk_gR f_224_4, mk_gR f_224_5, mk_gI f_224_6, mk_pI f_224_6, mk_gR f_224_7, mk_gI f_224_8, mk_pI f_224_8, mk_gI f_224_9, mk_pI f_224_9, mk_gI f_224_10, mk_pI f_224_10, mk_gI f_224_11, mk_pI f_224_11, mk_gI f_224_12, mk_pI f_224_12, mk_gI f_224_13, mk_pI f_224_13, mk_gL f_224_14, mk_pL f_224_14, mk_gI f_224_15, mk_pI f_224_15, mk_gI f_224_16, mk_pI f_224_16, mk_gR f_224_17, mk_gR f_224_18, mk_gR f_224_19, mk_gI f_224_20, mk_pI f_224_20, mk_gR f_224_21, mk_gI f_224_22, mk_pI f_224_22, mk_gI f_224_23, mk_pI f_224_23, mk_gI f_224_24, mk_pI f_224_24, mk_gI f_224_25, mk_pI f_224_25, mk_gR f_224_26, mk_gI f_224_27, mk_pI f_224_27, mk_gI f_224_28, mk_pI f_224_28, mk_gR f_224_29, mk_gI f_224_30, mk_pI f_224_30, mk_gI f_224_31, mk_pI f_224_31, mk_gR f_224_32, mk_gI f_224_33, mk_pI f_224_33, ↓m_1, ↓m_2, i_0, i_1, i_2, i_3, i_4, i_6, i_5, i_12, i_11, i_10, i_9999, i_7, i_9, i_8, i_24, i_100, i_56, i_48, i_13, i_176, i_232, i_224, i_32, i_999, i_99, i_900, i_97, i_90, i_30, i_20, i_59, i_14, i_50, i_29, i_22, i_19, i_18, i_17, i_96, i_61, i_57, i_51, i_41, i_26, i_2552, i_255, i_25, i_23, i_21, i_16, i_15, i_122, i_10000, i_31, dzF, obs, b2_some, rz0, rz1, rzb, n01, n01', n10, n01e, nI_add, nI_mul, ↓reduceIte, not_false_eq_true, not_true_eq_false, ite_not, e2, eqT]
      refine e1.trans ?_
      simp (disch := omega) only [mk_oO o_224, mk_gI f_224_0, mk_pI f_224_0, mk_gR f_224_1, mk_gR f_224_2, mk_gR f_224_3, mk_gR f_224_4, mk_gR f_224_5, mk_gI f_224_6, mk_pI f_224_6, mk_gR f_224_7, mk_gI f_224_8, mk_pI f_224_8, mk_gI f_224_9, mk_pI f_224_9, mk_gI f_224_10, mk_pI f_224_10, mk_gI f_224_11, mk_pI f_224_11, mk_gI f_224_12, mk_pI f_224_12, mk_gI f_224_13, mk_pI f_224_13, mk_gL f_224_14, mk_pL f_224_14, mk_gI f_224_15, mk_pI f_224_15, mk_gI f_224_16, mk_pI f_224_16, mk_gR f_224_17, mk_gR f_224_18, mk_gR f_224_19, mk_gI f_224_20, mk_pI f_224_20, mk_gR f_224_21, mk_gI f_224_22, mk_pI f_224_22, mk_gI f_224_23, mk_pI f_224_23, mk_gI f_224_24, mk_pI f_224_24, mk_gI f_224_25, mk_pI f_224_25, mk_gR f_224_26, mk_gI f_224_27, mk_pI f_224_27, mk_gI f_224_28, mk_pI f_224_28, mk_gR f_224_29, mk_gI f_224_30, mk_pI f_224_30, mk_gI f_224_31, mk_pI f_224_31, mk_gR f_224_32, mk_gI f_224_33, mk_pI f_224_33, ↓m_1, ↓m_2, i_0, i_1, i_2, i_3, i_4, i_6, i_5, i_12, i_11, i_10, i_9999, i_7, i_9, i_8, i_24, i_100, i_56, i_48, i_13, i_176, i_232, i_224, i_32, i_999, i_99, i_900, i_97, i_90, i_30, i_20, i_59, i_14, i_50, i_29, i_22, i_19, i_18, i_17, i_96, i_61, i_57, i_51, i_41, i_26, i_2552, i_255, i_25, i_23, i_21, i_16, i_15, i_122, i_10000, i_31, dzF, obs, b2_some, rz0, rz1, rzb, n01, n01', n10, n01e, nI_add, nI_mul, ↓reduceIte, not_false_eq_true, not_true_eq_false, ite_not, e6, nI_sub]
      exact e
    · rw [f a c (by omega) h2, u2_no _ _ (by omega), f1 a c (by omega)]
    · rw [show min 12 11 = 11 from rfl, g j hj, u2_no _ _ (by omega), f1 _ _ (by omega)]
    · rw [show min 12 11 = 11 from rfl] at hi
      rw [f _ _ (by omega) (by omega), u2_no _ _ (by omega), g1 _ (by omega) (by omega), if_pos rfl, show 232 * i + j + 232 = 232 * (i + 1) + j by omega]
  · obtain ⟨I', e, f, p, g⟩ := R_acts50 (n := n) (J := J) (I := I) (u := u) (by omega) e2
    refine ⟨I', ?_, fun a c h1 h2 => f a c (by omega) h2, by rw [p, Nat.min_eq_left (by omega)], fun j hj => ?_, fun i j hi hj => ?_⟩
    · unfold mX10_acts
      simp (disch := omega) only [mk_oO o_224, mk_gI f_224_0, mk_pI f_224_0, mk_gR f_224_1, mk_gR f_224_2, mk_gR f_224_3, mk_gR f_224_4, mk_gR f_224_5, mk_gI f_224_6, mk_pI f_224_6, mk_gR f_224_7, mk_gI f_224_8, mk_pI f_224_8, mk_gI f_224_9, mk_pI f_224_9, mk_gI f_224_10, mk_pI f_224_10, mk_gI f_224_11, mk_pI f_224_11, mk_gI f_224_12, mk_pI f_224_12, mk_gI f_224_13, mk_pI f_224_13, mk_gL f_224_14, mk_pL f_224_14, mk_gI f_224_15, mk_pI f_224_15, mk_gI f_224_16, mk_pI f_224_16, mk_gR f_224_17, mk_gR f_224_18, mk_gR f_224_19, mk_gI f_224_20, mk_pI f_224_20, mk_gR f_224_21, mk_gI f_224_22, mk_pI f_224_22, mk_gI f_224_23, mk_pI f_224_23, mk_gI f_224_24, mk_pI f_224_24, mk_gI f_224_25, mk_pI f_224_25, mk_gR f_224_26, mk_gI f_224_27, mk_pI f_224_27, mk_gI f_224_28, mk_pI f_224_28, mk_gR f_224_29, mk_gI f_224_30, mk_pI f_224_30, mk_gI f_224_31, mk_pI f_224_31, mk_gR f_224_32, mk_gI f_224_33, mk_pI f_224_33, ↓m_1, ↓m_2, i_0, i_1, i_2, i_3, i_4, i_6, i_5, i_12, i_11, i_10, i_9999, i_7, i_9, i_8, i_24, i_100, i_56, i_48, i_13, i_176, i_232, i_224, i_32, i_999, i_99, i_900, i_97, i_90, i_30, i_20, i_59, i_14, i_50, i_29, i_22, i_19, i_18, i_17, i_96, i_61, i_57, i_51, i_41, i_26, i_2552, i_255, i_25, i_23, i_21, i_16, i_15, i_122, i_10000, i_31, dzF, obs, b2_some, rz0, rz1, rzb, n01, n01', n10, n01e, nI_add, nI_mul, ↓reduceIte, not_false_eq_true, not_true_eq_false, ite_not, e2, eqF]
      exact e
    · rw [Nat.min_eq_left (by omega)]; exact g j hj
    · rw [Nat.min_eq_left (by omega)] at hi
      rw [f _ _ (by omega) (by omega), if_neg h12]
end AB
/-- what stands behind an act -/
theorem INV.act {I I' : Nat → Nat → Int32} {J : Nat → Nat → Int64} {T T' : Nat → Nat} {u nx : Nat} {P : Nat → Nat → Nat} (hT : VT T) (hN : NR I 225 0 T) (hTP : TP I) (hM : NM J T) (hK0 : KP I J T 0 134) (hK1 : KP I J T 1 179) (hG : GR J) (hg : I 224 23 = -1) (u1 : u ≤ 12) (nx1 : nx < 12) (hP0 : P 0 = T) (hP : ∀ j, j < u → VT (P (j + 1)) ∧ P (j + 1) 3 = T 3 ∧ NR I 227 (232 * (u - 1 - j)) (P (j + 1)) ∧ actR (I (120 + (nx + 23 - j) % 12)) (P j) (P (j + 1)))
    (hT' : VT T') (h3 : T' 3 = T 3) (hN' : NR I' 225 0 T') (hW' : WR I' 3 T') (hact : actR (I' (120 + nx)) T' T)
    (e1 : I' 118 1 = nI ((nx + 1) % 12)) (e2 : I' 118 2 = nI (min (u + 1) 12)) (e3 : I' 224 6 = nI (min (u + 1) 12)) (e4 : ∀ i c, i < 12 → i ≠ nx → I' (120 + i) c = I (120 + i) c)
    (e5 : ∀ j, j < 232 → I' 227 (232 * min u 11 + j) = I 225 j) (e6 : ∀ i j, i < min u 11 → j < 232 → I' 227 (232 * i + j) = I 227 (232 * (if u = 12 then i + 1 else i) + j))
    (e7 : ∀ a c, relI a c → ¬ (3 ≤ a ∧ a ≤ 47) → ¬ (118 ≤ a ∧ a ≤ 131) → a ≠ 225 → a ≠ 227 → ¬ (a = 224 ∧ c = 6) → I' a c = I a c) : INV I' J := by
  have kp : ∀ k b, (b = 134 ∧ k = 0) ∨ (b = 179 ∧ k = 1) → KP I J T k b → KP I' J T' k b := by
    intro k b hb h
    have f1 : I' 229 k = I 229 k := e7 _ _ (by unfold relI; omega) (by omega) (by omega) (by omega) (by omega) (by omega)
    have f2 : I' 0 10 = I 0 10 := e7 _ _ (by unfold relI; omega) (by omega) (by omega) (by omega) (by omega) (by omega)
    refine ⟨by rw [f1, f2]; exact h.1, fun hz => ?_⟩
    rw [f1] at hz
    obtain ⟨K, k1, k2, k3, k4, k5⟩ := h.2 hz
    exact ⟨K, k1, by rw [h3]; exact k2, k3.scr k1 (fun a c h1 h2 => e7 _ _ (by unfold relI; omega) (by omega) (by omega) (by omega) (by omega) (by omega)), fun j hj => by rw [e7 _ _ (by unfold relI; omega) (by omega) (by omega) (by omega) (by omega) (by omega)]; exact k4 j hj, fun s hs => k5 s (by omega)⟩
  obtain ⟨p, p1, p2, p3, p4⟩ := hTP
  refine ⟨T', hT', hN', hW', ⟨p, p1, ?_, ?_, fun k hk => ?_⟩, fun s hs => hM s (by omega), kp 0 134 (by omega) hK0, kp 1 179 (by omega) hK1, ⟨min (u + 1) 12, (nx + 1) % 12, fun j => if j = 0 then T' else P (j - 1), by omega, by omega, e2, e1, e3, rfl, fun j hj => ?_⟩, hG, ?_⟩
  · rw [e7 1 1 (by unfold relI; omega) (by omega) (by omega) (by omega) (by omega) (by omega)]; exact p2
  · rw [e7 224 8 (by unfold relI; omega) (by omega) (by omega) (by omega) (by omega) (by omega)]; exact p3
  · rw [e7 2 k (by unfold relI; omega) (by omega) (by omega) (by omega) (by omega) (by omega), e7 230 k (by unfold relI; omega) (by omega) (by omega) (by omega) (by omega) (by omega)]; exact p4 k hk
  · simp only [Nat.add_sub_cancel, Nat.add_eq_zero_iff, Nat.one_ne_zero, and_false, if_false]
    by_cases hj0 : j = 0
    · subst hj0
      simp only [if_true, hP0]
      refine ⟨hT, by omega, fun i hi => ?_, ?_⟩
      · rw [show 232 * (min (u + 1) 12 - 1 - 0) + i = 232 * min u 11 + i by omega, e5 i hi]
        have := hN i hi
        rw [Nat.zero_add] at this
        exact this
      · rw [show ((nx + 1) % 12 + 23 - 0) % 12 = nx by omega]
        exact hact
    · obtain ⟨j, rfl⟩ : ∃ i, j = i + 1 := ⟨j - 1, by omega⟩
      obtain ⟨w1, w2, w3, w4⟩ := hP j (by omega)
      simp only [if_neg hj0, Nat.add_sub_cancel]
      refine ⟨w1, by omega, fun i hi => ?_, ?_⟩
      · rw [e6 (min (u + 1) 12 - 1 - (j + 1)) i (by omega) hi]
        have := w3 i hi
        by_cases h12 : u = 12
        · rw [if_pos h12, show 232 * (min (u + 1) 12 - 1 - (j + 1) + 1) = 232 * (u - 1 - j) by omega]
          exact this
        · rw [if_neg h12, show 232 * (min (u + 1) 12 - 1 - (j + 1)) = 232 * (u - 1 - j) by omega]
          exact this
      · rw [show ((nx + 1) % 12 + 23 - (j + 1)) % 12 = (nx + 23 - j) % 12 by omega]
        rw [show I' (120 + (nx + 23 - j) % 12) = I (120 + (nx + 23 - j) % 12) from funext fun c => e4 _ c (by omega) (by omega)]
        exact w4
  · rw [e7 224 23 (by unfold relI; omega) (by omega) (by omega) (by omega) (by omega) (by omega)]; exact hg
