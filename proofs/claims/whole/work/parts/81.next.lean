/-! ===== 81: the class's next token ===== -/
section NX
variable {n : Nat} {b : Nat → Nat} {N : Nat}
/-- what the class's tokens stand on -/
def TKc (b : Nat → Nat) (N : Nat) (I : Nat → Nat → Int32) (J : Nat → Nat → Int64) : Prop := N ≤ 900 ∧ (∀ k, k < N → BYv (I 2 k) (b k)) ∧ I 98 2 = nI N ∧ GR J
def Fn (I I' : Nat → Nat → Int32) : Prop := ∀ a c, ¬ (a = 98 ∧ 3 ≤ c ∧ c ≤ 6) → I' a c = I a c
def Gn (J J' : Nat → Nat → Int64) : Prop := ∀ a c, a ≠ 98 → J' a c = J a c
theorem Fn.refl (I : Nat → Nat → Int32) : Fn I I := fun _ _ _ => rfl
theorem Gn.refl (J : Nat → Nat → Int64) : Gn J J := fun _ _ _ => rfl
theorem Fn.trans {I I' I'' : Nat → Nat → Int32} (h : Fn I I') (h' : Fn I' I'') : Fn I I'' := fun a c z => (h' a c z).trans (h a c z)
theorem Gn.trans {J J' J'' : Nat → Nat → Int64} (h : Gn J J') (h' : Gn J' J'') : Gn J J'' := fun a c z => (h' a c z).trans (h a c z)
theorem Fn_u (I : Nat → Nat → Int32) {c : Nat} (x : Int32) (h : 3 ≤ c ∧ c ≤ 6) : Fn I (u2 I 98 c x) := fun a d z => u2_no _ _ (by omega)
theorem Gn_u (J : Nat → Nat → Int64) (x : Int64) : Gn J (u2 J 98 7 x) := fun a d z => u2_no _ _ (by omega)
theorem TKc.fn {I I' : Nat → Nat → Int32} {J J' : Nat → Nat → Int64} (h : TKc b N I J) (hf : Fn I I') (hg : Gn J J') : TKc b N I' J' := ⟨h.1, fun k hk => by rw [hf 2 k (by omega)]; exact h.2.1 k hk, by rw [hf _ _ (by omega)]; exact h.2.2.1, fun i hi => by rw [hg _ _ (by omega)]; exact h.2.2.2 i hi⟩
theorem C_isLetter {h : PH} {v : Int32} {x : Nat} (hv : BYv v x) : mX7_isLetter h v = some (nI (if isLt x then 1 else 0), h) := by
  unfold mX7_isLetter
  simp only [i_97, i_122, i_0, i_1, rz0, rz1, hv.lt (c := 97) (by decide), hv.gt (c := 122) (by decide)]
  by_cases h1 : x < 97 ∨ 128 ≤ x
  · rw [if_pos h1, if_neg (by rintro ⟨w1, w2⟩; omega)]
  · rw [if_neg h1]
    by_cases h2 : 122 < x ∧ x < 128
    · rw [if_pos h2, if_neg (by rintro ⟨w1, w2⟩; omega)]
    · rw [if_neg h2, if_pos ⟨by omega, by omega⟩]
theorem C_isDigit {h : PH} {v : Int32} {x : Nat} (hv : BYv v x) : mX7_isDigit h v = some (nI (if isDg x then 1 else 0), h) := by
  unfold mX7_isDigit
  simp only [i_48, i_57, i_0, i_1, rz0, rz1, hv.lt (c := 48) (by decide), hv.gt (c := 57) (by decide)]
  by_cases h1 : x < 48 ∨ 128 ≤ x
  · rw [if_pos h1, if_neg (by rintro ⟨w1, w2⟩; omega)]
  · rw [if_neg h1]
    by_cases h2 : 57 < x ∧ x < 128
    · rw [if_pos h2, if_neg (by rintro ⟨w1, w2⟩; omega)]
    · rw [if_neg h2, if_pos ⟨by omega, by omega⟩]
theorem C_skipL {J : Nat → Nat → Int64} : ∀ (k q fu : Nat) (I : Nat → Nat → Int32), q + k = N → k < fu → TKc b N I J → I 98 3 = nI q → ∃ I', mX7_next_L0 fu (mk n I J) 98 = mX7_next_b52 (mk n I' J) 98 ∧ I' 98 3 = nI (skp b k q) ∧ Fn I I' := by
  intro k
  induction k with
  | zero =>
    intro q fu I hq hf h h3
    obtain ⟨fu, rfl⟩ : ∃ f, fu = f + 1 := ⟨fu - 1, by omega⟩
    have hN := h.1
    have h2 := h.2.2.1
    refine ⟨I, ?_, by rw [h3]; rfl, Fn.refl I⟩
    show mX7_next_b0 _ _ _ = _
    unfold mX7_next_b0
    simp (disch := omega) only [mk_oO o_48, mk_oO o_94, mk_oO o_98, mk_gR f_48_0, mk_gR f_48_1, mk_gR f_48_2, mk_gR f_48_3, mk_gR f_48_4, mk_gR f_48_5, mk_gR f_48_6, mk_gR f_48_7, mk_gR f_94_0, mk_gR f_94_1, mk_gR f_94_2, mk_gR f_94_3, mk_gR f_94_4, mk_gI f_94_5, mk_pI f_94_5, mk_gI f_94_6, mk_pI f_94_6, mk_gI f_94_7, mk_pI f_94_7, mk_gR f_98_0, mk_gR f_98_1, mk_gI f_98_2, mk_pI f_98_2, mk_gI f_98_3, mk_pI f_98_3, mk_gI f_98_4, mk_pI f_98_4, mk_gI f_98_5, mk_pI f_98_5, mk_gI f_98_6, mk_pI f_98_6, mk_gL f_98_7, mk_pL f_98_7, ↓m_1, ↓m_2, i_0, i_1, i_2, i_3, i_4, i_6, i_5, i_12, i_11, i_10, i_9999, i_7, i_9, i_8, i_24, i_100, i_56, i_48, i_13, i_176, i_232, i_224, i_32, i_999, i_99, i_900, i_97, i_90, i_30, i_20, i_59, i_14, i_50, i_29, i_22, i_19, i_18, i_17, i_96, i_61, i_57, i_51, i_41, i_26, i_2552, i_255, i_25, i_23, i_21, i_16, i_15, i_122, i_10000, i_31, obs, h3, h2, leT, ↓reduceIte]
  | succ k ih =>
    intro q fu I hq hf h h3
    obtain ⟨fu, rfl⟩ : ∃ f, fu = f + 1 := ⟨fu - 1, by omega⟩
    have hN := h.1
    have h2 := h.2.2.1
    have hv := h.2.1 q (by omega)
    have hr : aI 2 (mk n I J) 2 (nI q) = some (I 2 q) := mk_aIn a_2 (by omega) (by decide)
    show ∃ I', mX7_next_b0 _ _ _ = _ ∧ _
    unfold mX7_next_b0 mX7_next_b39 skp
    by_cases hc : b q = 32 ∨ b q = 10
    · obtain ⟨I', e, p, f⟩ := ih (q + 1) fu (u2 I 98 3 (nI (q + 1))) (by omega) (by omega) (h.fn (Fn_u I _ (by omega)) (Gn.refl J)) (u2_at _ _ _ _)
      refine ⟨I', ?_, by rw [if_pos hc]; exact p, (Fn_u I _ (by omega)).trans f⟩
      rw [← e]
      by_cases h32 : b q = 32
      · simp (disch := omega) only [mk_oO o_48, mk_oO o_94, mk_oO o_98, mk_gR f_48_0, mk_gR f_48_1, mk_gR f_48_2, mk_gR f_48_3, mk_gR f_48_4, mk_gR f_48_5, mk_gR f_48_6, mk_gR f_48_7, mk_gR f_94_0, mk_gR f_94_1, mk_gR f_94_2, mk_gR f_94_3, mk_gR f_94_4, mk_gI f_94_5, mk_pI f_94_5, mk_gI f_94_6, mk_pI f_94_6, mk_gI f_94_7, mk_pI f_94_7, mk_gR f_98_0, mk_gR f_98_1, mk_gI f_98_2, mk_pI f_98_2, mk_gI f_98_3, mk_pI f_98_3, mk_gI f_98_4, mk_pI f_98_4, mk_gI f_98_5, mk_pI f_98_5, mk_gI f_98_6, mk_pI f_98_6, mk_gL f_98_7, mk_pL f_98_7, ↓m_1, ↓m_2, i_0, i_1, i_2, i_3, i_4, i_6, i_5, i_12, i_11, i_10, i_9999, i_7, i_9, i_8, i_24, i_100, i_56, i_48, i_13, i_176, i_232, i_224, i_32, i_999, i_99, i_900, i_97, i_90, i_30, i_20, i_59, i_14, i_50, i_29, i_22, i_19, i_18, i_17, i_96, i_61, i_57, i_51, i_41, i_26, i_2552, i_255, i_25, i_23, i_21, i_16, i_15, i_122, i_10000, i_31, dzF, obs, b2_some, rz0, rz1, rzb, n01, n01', n10, n01e, nI_add, nI_mul, ↓reduceIte, not_false_eq_true, not_true_eq_false, ite_not, h3, h2, leF, hr, hv.eq (c := 32) (by decide), h32]
      · have h10 : b q = 10 := by omega
        simp (disch := omega) only [mk_oO o_48, mk_oO o_94, mk_oO o_98, mk_gR f_48_0, mk_gR f_48_1, mk_gR f_48_2, mk_gR f_48_3, mk_gR f_48_4, mk_gR f_48_5, mk_gR f_48_6, mk_gR f_48_7, mk_gR f_94_0, mk_gR f_94_1, mk_gR f_94_2, mk_gR f_94_3, mk_gR f_94_4, mk_gI f_94_5, mk_pI f_94_5, mk_gI f_94_6, mk_pI f_94_6, mk_gI f_94_7, mk_pI f_94_7, mk_gR f_98_0, mk_gR f_98_1, mk_gI f_98_2, mk_pI f_98_2, mk_gI f_98_3, mk_pI f_98_3, mk_gI f_98_4, mk_pI f_98_4, mk_gI f_98_5, mk_pI f_98_5, mk_gI f_98_6, mk_pI f_98_6, mk_gL f_98_7, mk_pL f_98_7, ↓m_1, ↓m_2, i_0, i_1, i_2, i_3, i_4, i_6, i_5, i_12, i_11, i_10, i_9999, i_7, i_9, i_8, i_24, i_100, i_56, i_48, i_13, i_176, i_232, i_224, i_32, i_999, i_99, i_900, i_97, i_90, i_30, i_20, i_59, i_14, i_50, i_29, i_22, i_19, i_18, i_17, i_96, i_61, i_57, i_51, i_41, i_26, i_2552, i_255, i_25, i_23, i_21, i_16, i_15, i_122, i_10000, i_31, dzF, obs, b2_some, rz0, rz1, rzb, n01, n01', n10, n01e, nI_add, nI_mul, ↓reduceIte, not_false_eq_true, not_true_eq_false, ite_not, h3, h2, leF, hr, hv.eq (c := 32) (by decide), hv.eq (c := 10) (by decide), h10, Nat.reduceEqDiff]
    · refine ⟨I, ?_, by rw [if_neg hc]; exact h3, Fn.refl I⟩
      have h32 : (b q = 32) = False := eq_false (fun z => hc (Or.inl z))
      have h10 : (b q = 10) = False := eq_false (fun z => hc (Or.inr z))
      simp (disch := omega) only [mk_oO o_48, mk_oO o_94, mk_oO o_98, mk_gR f_48_0, mk_gR f_48_1, mk_gR f_48_2, mk_gR f_48_3, mk_gR f_48_4, mk_gR f_48_5, mk_gR f_48_6, mk_gR f_48_7, mk_gR f_94_0, mk_gR f_94_1, mk_gR f_94_2, mk_gR f_94_3, mk_gR f_94_4, mk_gI f_94_5, mk_pI f_94_5, mk_gI f_94_6, mk_pI f_94_6, mk_gI f_94_7, mk_pI f_94_7, mk_gR f_98_0, mk_gR f_98_1, mk_gI f_98_2, mk_pI f_98_2, mk_gI f_98_3, mk_pI f_98_3, mk_gI f_98_4, mk_pI f_98_4, mk_gI f_98_5, mk_pI f_98_5, mk_gI f_98_6, mk_pI f_98_6, mk_gL f_98_7, mk_pL f_98_7, ↓m_1, ↓m_2, i_0, i_1, i_2, i_3, i_4, i_6, i_5, i_12, i_11, i_10, i_9999, i_7, i_9, i_8, i_24, i_100, i_56, i_48, i_13, i_176, i_232, i_224, i_32, i_999, i_99, i_900, i_97, i_90, i_30, i_20, i_59, i_14, i_50, i_29, i_22, i_19, i_18, i_17, i_96, i_61, i_57, i_51, i_41, i_26, i_2552, i_255, i_25, i_23, i_21, i_16, i_15, i_122, i_10000, i_31, obs, ↓reduceIte, h3, h2, leF, hr, hv.eq (c := 32) (by decide), hv.eq (c := 10) (by decide), h32, h10]
theorem C_twL {p : Nat} : ∀ (k q fu : Nat) (I : Nat → Nat → Int32) (J : Nat → Nat → Int64), q + k = N → k < fu → p ≤ q → TKc b N I J → I 98 3 = nI q → J 98 7 = lN (enc 27 (ltW b p (q - p))) → ∃ I' J', mX7_takeWord_L0 fu (mk n I J) 98 = mX7_takeWord_b67 (mk n I' J') 98 ∧ I' 98 3 = nI (rnL b k q) ∧ J' 98 7 = lN (enc 27 (ltW b p (rnL b k q - p))) ∧ (∀ a c, ¬ (a = 98 ∧ c = 3) → I' a c = I a c) ∧ Gn J J' := by
  intro k
  induction k with
  | zero =>
    intro q fu I J hq hf hp h h3 h7
    obtain ⟨fu, rfl⟩ : ∃ f, fu = f + 1 := ⟨fu - 1, by omega⟩
    have hN := h.1
    have h2 := h.2.2.1
    refine ⟨I, J, ?_, by rw [h3]; rfl, by rw [h7]; rfl, fun _ _ _ => rfl, Gn.refl J⟩
    show mX7_takeWord_b0 _ _ _ = _
    unfold mX7_takeWord_b0
    simp (disch := omega) only [mk_oO o_48, mk_oO o_94, mk_oO o_98, mk_gR f_48_0, mk_gR f_48_1, mk_gR f_48_2, mk_gR f_48_3, mk_gR f_48_4, mk_gR f_48_5, mk_gR f_48_6, mk_gR f_48_7, mk_gR f_94_0, mk_gR f_94_1, mk_gR f_94_2, mk_gR f_94_3, mk_gR f_94_4, mk_gI f_94_5, mk_pI f_94_5, mk_gI f_94_6, mk_pI f_94_6, mk_gI f_94_7, mk_pI f_94_7, mk_gR f_98_0, mk_gR f_98_1, mk_gI f_98_2, mk_pI f_98_2, mk_gI f_98_3, mk_pI f_98_3, mk_gI f_98_4, mk_pI f_98_4, mk_gI f_98_5, mk_pI f_98_5, mk_gI f_98_6, mk_pI f_98_6, mk_gL f_98_7, mk_pL f_98_7, ↓m_1, ↓m_2, i_0, i_1, i_2, i_3, i_4, i_6, i_5, i_12, i_11, i_10, i_9999, i_7, i_9, i_8, i_24, i_100, i_56, i_48, i_13, i_176, i_232, i_224, i_32, i_999, i_99, i_900, i_97, i_90, i_30, i_20, i_59, i_14, i_50, i_29, i_22, i_19, i_18, i_17, i_96, i_61, i_57, i_51, i_41, i_26, i_2552, i_255, i_25, i_23, i_21, i_16, i_15, i_122, i_10000, i_31, obs, h3, h2, leT, ↓reduceIte]
  | succ k ih =>
    intro q fu I J hq hf hp h h3 h7
    obtain ⟨fu, rfl⟩ : ∃ f, fu = f + 1 := ⟨fu - 1, by omega⟩
    have hN := h.1
    have h2 := h.2.2.1
    have hv := h.2.1 q (by omega)
    have hr : aI 2 (mk n I J) 2 (nI q) = some (I 2 q) := mk_aIn a_2 (by omega) (by decide)
    show ∃ I' J', mX7_takeWord_b0 _ _ _ = _ ∧ _
    unfold mX7_takeWord_b0 rnL
    by_cases hc : isLt (b q)
    · have hc1 := hc.1
      have hc2 := hc.2
      have e7 : lN (enc 27 (ltW b p (q - p))) * lN 27 + lN (b q - 97 + 1) = lN (enc 27 (ltW b p (q + 1 - p))) := by
        rw [show q + 1 - p = (q - p) + 1 by omega, ltW, enc_app, lN_mul, lN_add, show p + (q - p) = q by omega, show b q - 97 + 1 = b q - 96 by omega]
      obtain ⟨I', J', e, r1, r2, r3, r4⟩ := ih (q + 1) fu (u2 I 98 3 (nI (q + 1))) (u2 J 98 7 (lN (enc 27 (ltW b p (q + 1 - p))))) (by omega) (by omega) (by omega) (h.fn (Fn_u I _ (by omega)) (Gn_u J _)) (u2_at _ _ _ _) (u2_at _ _ _ _)
      refine ⟨I', J', ?_, by rw [if_pos hc]; exact r1, by rw [if_pos hc]; exact r2, fun a c z => by rw [r3 a c z, u2_no _ _ (by omega)], (Gn_u J _).trans r4⟩
      rw [← e, ← e7]
      have hb := hv.val (by omega)
      have hv' : BYv (nI (b q)) (b q) := by rw [← hb]; exact hv
      simp (disch := omega) only [mk_oO o_48, mk_oO o_94, mk_oO o_98, mk_gR f_48_0, mk_gR f_48_1, mk_gR f_48_2, mk_gR f_48_3, mk_gR f_48_4, mk_gR f_48_5, mk_gR f_48_6, mk_gR f_48_7, mk_gR f_94_0, mk_gR f_94_1, mk_gR f_94_2, mk_gR f_94_3, mk_gR f_94_4, mk_gI f_94_5, mk_pI f_94_5, mk_gI f_94_6, mk_pI f_94_6, mk_gI f_94_7, mk_pI f_94_7, mk_gR f_98_0, mk_gR f_98_1, mk_gI f_98_2, mk_pI f_98_2, mk_gI f_98_3, mk_pI f_98_3, mk_gI f_98_4, mk_pI f_98_4, mk_gI f_98_5, mk_pI f_98_5, mk_gI f_98_6, mk_pI f_98_6, mk_gL f_98_7, mk_pL f_98_7, ↓m_1, ↓m_2, i_0, i_1, i_2, i_3, i_4, i_6, i_5, i_12, i_11, i_10, i_9999, i_7, i_9, i_8, i_24, i_100, i_56, i_48, i_13, i_176, i_232, i_224, i_32, i_999, i_99, i_900, i_97, i_90, i_30, i_20, i_59, i_14, i_50, i_29, i_22, i_19, i_18, i_17, i_96, i_61, i_57, i_51, i_41, i_26, i_2552, i_255, i_25, i_23, i_21, i_16, i_15, i_122, i_10000, i_31, l_27, dzF, obs, b2_some, rz0, rz1, rzb, n01, n01', n10, n01e, nI_add, nI_mul, ↓reduceIte, not_false_eq_true, not_true_eq_false, ite_not, h3, h2, leF, hr, C_isLetter hv', if_pos hc, h7, hb, nI_sub, nI_l]
    · refine ⟨I, J, ?_, by rw [if_neg hc]; exact h3, by rw [if_neg hc]; exact h7, fun _ _ _ => rfl, Gn.refl J⟩
      simp (disch := omega) only [mk_oO o_48, mk_oO o_94, mk_oO o_98, mk_gR f_48_0, mk_gR f_48_1, mk_gR f_48_2, mk_gR f_48_3, mk_gR f_48_4, mk_gR f_48_5, mk_gR f_48_6, mk_gR f_48_7, mk_gR f_94_0, mk_gR f_94_1, mk_gR f_94_2, mk_gR f_94_3, mk_gR f_94_4, mk_gI f_94_5, mk_pI f_94_5, mk_gI f_94_6, mk_pI f_94_6, mk_gI f_94_7, mk_pI f_94_7, mk_gR f_98_0, mk_gR f_98_1, mk_gI f_98_2, mk_pI f_98_2, mk_gI f_98_3, mk_pI f_98_3, mk_gI f_98_4, mk_pI f_98_4, mk_gI f_98_5, mk_pI f_98_5, mk_gI f_98_6, mk_pI f_98_6, mk_gL f_98_7, mk_pL f_98_7, ↓m_1, ↓m_2, i_0, i_1, i_2, i_3, i_4, i_6, i_5, i_12, i_11, i_10, i_9999, i_7, i_9, i_8, i_24, i_100, i_56, i_48, i_13, i_176, i_232, i_224, i_32, i_999, i_99, i_900, i_97, i_90, i_30, i_20, i_59, i_14, i_50, i_29, i_22, i_19, i_18, i_17, i_96, i_61, i_57, i_51, i_41, i_26, i_2552, i_255, i_25, i_23, i_21, i_16, i_15, i_122, i_10000, i_31, dzF, obs, b2_some, rz0, rz1, rzb, n01, n01', n10, n01e, nI_add, nI_mul, ↓reduceIte, not_false_eq_true, not_true_eq_false, ite_not, h3, h2, leF, hr, C_isLetter hv, if_neg hc]
theorem C_tnL {p : Nat} : ∀ (k q fu : Nat) (I : Nat → Nat → Int32) (J : Nat → Nat → Int64), q + k = N → k < fu → p ≤ q → TKc b N I J → I 98 3 = nI q → J 98 7 = lN (dgV b p (q - p)) → ∃ I' J', mX7_takeNumber_L0 fu (mk n I J) 98 = mX7_takeNumber_b65 (mk n I' J') 98 ∧ I' 98 3 = nI (rnD b k q) ∧ J' 98 7 = lN (dgV b p (rnD b k q - p)) ∧ (∀ a c, ¬ (a = 98 ∧ c = 3) → I' a c = I a c) ∧ Gn J J' := by
  intro k
  induction k with
  | zero =>
    intro q fu I J hq hf hp h h3 h7
    obtain ⟨fu, rfl⟩ : ∃ f, fu = f + 1 := ⟨fu - 1, by omega⟩
    have hN := h.1
    have h2 := h.2.2.1
    refine ⟨I, J, ?_, by rw [h3]; rfl, by rw [h7]; rfl, fun _ _ _ => rfl, Gn.refl J⟩
    show mX7_takeNumber_b0 _ _ _ = _
    unfold mX7_takeNumber_b0
    simp (disch := omega) only [mk_oO o_48, mk_oO o_94, mk_oO o_98, mk_gR f_48_0, mk_gR f_48_1, mk_gR f_48_2, mk_gR f_48_3, mk_gR f_48_4, mk_gR f_48_5, mk_gR f_48_6, mk_gR f_48_7, mk_gR f_94_0, mk_gR f_94_1, mk_gR f_94_2, mk_gR f_94_3, mk_gR f_94_4, mk_gI f_94_5, mk_pI f_94_5, mk_gI f_94_6, mk_pI f_94_6, mk_gI f_94_7, mk_pI f_94_7, mk_gR f_98_0, mk_gR f_98_1, mk_gI f_98_2, mk_pI f_98_2, mk_gI f_98_3, mk_pI f_98_3, mk_gI f_98_4, mk_pI f_98_4, mk_gI f_98_5, mk_pI f_98_5, mk_gI f_98_6, mk_pI f_98_6, mk_gL f_98_7, mk_pL f_98_7, ↓m_1, ↓m_2, i_0, i_1, i_2, i_3, i_4, i_6, i_5, i_12, i_11, i_10, i_9999, i_7, i_9, i_8, i_24, i_100, i_56, i_48, i_13, i_176, i_232, i_224, i_32, i_999, i_99, i_900, i_97, i_90, i_30, i_20, i_59, i_14, i_50, i_29, i_22, i_19, i_18, i_17, i_96, i_61, i_57, i_51, i_41, i_26, i_2552, i_255, i_25, i_23, i_21, i_16, i_15, i_122, i_10000, i_31, obs, h3, h2, leT, ↓reduceIte]
  | succ k ih =>
    intro q fu I J hq hf hp h h3 h7
    obtain ⟨fu, rfl⟩ : ∃ f, fu = f + 1 := ⟨fu - 1, by omega⟩
    have hN := h.1
    have h2 := h.2.2.1
    have hv := h.2.1 q (by omega)
    have hr : aI 2 (mk n I J) 2 (nI q) = some (I 2 q) := mk_aIn a_2 (by omega) (by decide)
    show ∃ I' J', mX7_takeNumber_b0 _ _ _ = _ ∧ _
    unfold mX7_takeNumber_b0 rnD
    by_cases hc : isDg (b q)
    · have hc1 := hc.1
      have hc2 := hc.2
      have e7 : lN (dgV b p (q - p)) * lN 10 + lN (b q - 48) = lN (dgV b p (q + 1 - p)) := by
        rw [show q + 1 - p = (q - p) + 1 by omega, dgV, lN_mul, lN_add, show p + (q - p) = q by omega]
      obtain ⟨I', J', e, r1, r2, r3, r4⟩ := ih (q + 1) fu (u2 I 98 3 (nI (q + 1))) (u2 J 98 7 (lN (dgV b p (q + 1 - p)))) (by omega) (by omega) (by omega) (h.fn (Fn_u I _ (by omega)) (Gn_u J _)) (u2_at _ _ _ _) (u2_at _ _ _ _)
      refine ⟨I', J', ?_, by rw [if_pos hc]; exact r1, by rw [if_pos hc]; exact r2, fun a c z => by rw [r3 a c z, u2_no _ _ (by omega)], (Gn_u J _).trans r4⟩
      rw [← e, ← e7]
      have hb := hv.val (by omega)
      have hv' : BYv (nI (b q)) (b q) := by rw [← hb]; exact hv
      simp (disch := omega) only [mk_oO o_48, mk_oO o_94, mk_oO o_98, mk_gR f_48_0, mk_gR f_48_1, mk_gR f_48_2, mk_gR f_48_3, mk_gR f_48_4, mk_gR f_48_5, mk_gR f_48_6, mk_gR f_48_7, mk_gR f_94_0, mk_gR f_94_1, mk_gR f_94_2, mk_gR f_94_3, mk_gR f_94_4, mk_gI f_94_5, mk_pI f_94_5, mk_gI f_94_6, mk_pI f_94_6, mk_gI f_94_7, mk_pI f_94_7, mk_gR f_98_0, mk_gR f_98_1, mk_gI f_98_2, mk_pI f_98_2, mk_gI f_98_3, mk_pI f_98_3, mk_gI f_98_4, mk_pI f_98_4, mk_gI f_98_5, mk_pI f_98_5, mk_gI f_98_6, mk_pI f_98_6, mk_gL f_98_7, mk_pL f_98_7, ↓m_1, ↓m_2, i_0, i_1, i_2, i_3, i_4, i_6, i_5, i_12, i_11, i_10, i_9999, i_7, i_9, i_8, i_24, i_100, i_56, i_48, i_13, i_176, i_232, i_224, i_32, i_999, i_99, i_900, i_97, i_90, i_30, i_20, i_59, i_14, i_50, i_29, i_22, i_19, i_18, i_17, i_96, i_61, i_57, i_51, i_41, i_26, i_2552, i_255, i_25, i_23, i_21, i_16, i_15, i_122, i_10000, i_31, l_10, dzF, obs, b2_some, rz0, rz1, rzb, n01, n01', n10, n01e, nI_add, nI_mul, ↓reduceIte, not_false_eq_true, not_true_eq_false, ite_not, h3, h2, leF, hr, C_isDigit hv', if_pos hc, h7, hb, nI_sub, nI_l]
    · refine ⟨I, J, ?_, by rw [if_neg hc]; exact h3, by rw [if_neg hc]; exact h7, fun _ _ _ => rfl, Gn.refl J⟩
      simp (disch := omega) only [mk_oO o_48, mk_oO o_94, mk_oO o_98, mk_gR f_48_0, mk_gR f_48_1, mk_gR f_48_2, mk_gR f_48_3, mk_gR f_48_4, mk_gR f_48_5, mk_gR f_48_6, mk_gR f_48_7, mk_gR f_94_0, mk_gR f_94_1, mk_gR f_94_2, mk_gR f_94_3, mk_gR f_94_4, mk_gI f_94_5, mk_pI f_94_5, mk_gI f_94_6, mk_pI f_94_6, mk_gI f_94_7, mk_pI f_94_7, mk_gR f_98_0, mk_gR f_98_1, mk_gI f_98_2, mk_pI f_98_2, mk_gI f_98_3, mk_pI f_98_3, mk_gI f_98_4, mk_pI f_98_4, mk_gI f_98_5, mk_pI f_98_5, mk_gI f_98_6, mk_pI f_98_6, mk_gL f_98_7, mk_pL f_98_7, ↓m_1, ↓m_2, i_0, i_1, i_2, i_3, i_4, i_6, i_5, i_12, i_11, i_10, i_9999, i_7, i_9, i_8, i_24, i_100, i_56, i_48, i_13, i_176, i_232, i_224, i_32, i_999, i_99, i_900, i_97, i_90, i_30, i_20, i_59, i_14, i_50, i_29, i_22, i_19, i_18, i_17, i_96, i_61, i_57, i_51, i_41, i_26, i_2552, i_255, i_25, i_23, i_21, i_16, i_15, i_122, i_10000, i_31, dzF, obs, b2_some, rz0, rz1, rzb, n01, n01', n10, n01e, nI_add, nI_mul, ↓reduceIte, not_false_eq_true, not_true_eq_false, ite_not, h3, h2, leF, hr, C_isDigit hv, if_neg hc]
theorem C_gwL {w : List Nat} (hw : isW w) {J : Nat → Nat → Int64} (hG : GR J) (h7 : J 98 7 = lN (enc 27 w)) : ∀ (k t fu : Nat) (I : Nat → Nat → Int32), t + k = 30 → k < fu → I 98 5 = nI 1 → I 98 6 = ixW (gxN w t) → ∃ I', mX7_takeWord_L92 fu (mk n I J) 98 (nI t) = some (mk n I' J) ∧ I' 98 6 = ixW (gxN w 30) ∧ ∀ a c, ¬ (a = 98 ∧ c = 6) → I' a c = I a c := by
  obtain ⟨w1, w2, w3⟩ := hw
  have hv := enc_lt (b := 27) (by decide) 7 w w2 w3
  have hvb : enc 27 w < 10460353203 := hv
  intro k
  induction k with
  | zero =>
    intro t fu I ht hf h5 h6
    obtain ⟨fu, rfl⟩ : ∃ f, fu = f + 1 := ⟨fu - 1, by omega⟩
    refine ⟨I, ?_, by rw [h6, show t = 30 by omega], fun _ _ _ => rfl⟩
    show mX7_takeWord_b92 _ _ _ _ = _
    unfold mX7_takeWord_b92
    simp (disch := omega) only [↓m_1, ↓m_2, i_0, i_1, i_2, i_3, i_4, i_6, i_5, i_12, i_11, i_10, i_9999, i_7, i_9, i_8, i_24, i_100, i_56, i_48, i_13, i_176, i_232, i_224, i_32, i_999, i_99, i_900, i_97, i_90, i_30, i_20, i_59, i_14, i_50, i_29, i_22, i_19, i_18, i_17, i_96, i_61, i_57, i_51, i_41, i_26, i_2552, i_255, i_25, i_23, i_21, i_16, i_15, i_122, i_10000, i_31, leT, ↓reduceIte]
  | succ k ih =>
    intro t fu I ht hf h5 h6
    obtain ⟨fu, rfl⟩ : ∃ f, fu = f + 1 := ⟨fu - 1, by omega⟩
    have hg := hG t (by omega)
    have hgb : enc 27 (gramW.getD t []) < 10460353203 := enc_lt (b := 27) (by decide) 7 _ (gram_l t (by omega)) (gram_w t (by omega))
    show ∃ I', mX7_takeWord_b92 _ _ _ _ = _ ∧ _
    unfold mX7_takeWord_b92
    by_cases hc : w = gramW.getD t []
    · obtain ⟨I', e, r1, r2⟩ := ih (t + 1) fu (u2 I 98 6 (nI t)) (by omega) (by omega) (by rw [u2_no _ _ (by omega)]; exact h5) (by rw [u2_at, gxN, if_pos hc, ixW, if_neg (by omega)])
      refine ⟨I', ?_, r1, fun a c z => by rw [r2 a c z, u2_no _ _ (by omega)]⟩
      rw [← e]
      rw [← hc] at hg
      simp (disch := omega) only [mk_oO o_48, mk_oO o_94, mk_oO o_98, mk_gR f_48_0, mk_gR f_48_1, mk_gR f_48_2, mk_gR f_48_3, mk_gR f_48_4, mk_gR f_48_5, mk_gR f_48_6, mk_gR f_48_7, mk_gR f_94_0, mk_gR f_94_1, mk_gR f_94_2, mk_gR f_94_3, mk_gR f_94_4, mk_gI f_94_5, mk_pI f_94_5, mk_gI f_94_6, mk_pI f_94_6, mk_gI f_94_7, mk_pI f_94_7, mk_gR f_98_0, mk_gR f_98_1, mk_gI f_98_2, mk_pI f_98_2, mk_gI f_98_3, mk_pI f_98_3, mk_gI f_98_4, mk_pI f_98_4, mk_gI f_98_5, mk_pI f_98_5, mk_gI f_98_6, mk_pI f_98_6, mk_gL f_98_7, mk_pL f_98_7, ↓m_1, ↓m_2, i_0, i_1, i_2, i_3, i_4, i_6, i_5, i_12, i_11, i_10, i_9999, i_7, i_9, i_8, i_24, i_100, i_56, i_48, i_13, i_176, i_232, i_224, i_32, i_999, i_99, i_900, i_97, i_90, i_30, i_20, i_59, i_14, i_50, i_29, i_22, i_19, i_18, i_17, i_96, i_61, i_57, i_51, i_41, i_26, i_2552, i_255, i_25, i_23, i_21, i_16, i_15, i_122, i_10000, i_31, dzF, obs, b2_some, rz0, rz1, rzb, n01, n01', n10, n01e, nI_add, nI_mul, ↓reduceIte, not_false_eq_true, not_true_eq_false, ite_not, leF, h5, mk_aLn a_99, hg, h7]
    · obtain ⟨I', e, r1, r2⟩ := ih (t + 1) fu I (by omega) (by omega) h5 (by rw [h6, gxN, if_neg hc])
      refine ⟨I', ?_, r1, r2⟩
      rw [← e]
      have hne : (lN (enc 27 (gramW.getD t [])) = lN (enc 27 w)) = False := eq_false (fun z => hc (enc_inj (by decide) w3 (gram_w t (by omega)) ((lL_eq (by omega) (by omega)).mp z).symm))
      simp (disch := omega) only [mk_oO o_48, mk_oO o_94, mk_oO o_98, mk_gR f_48_0, mk_gR f_48_1, mk_gR f_48_2, mk_gR f_48_3, mk_gR f_48_4, mk_gR f_48_5, mk_gR f_48_6, mk_gR f_48_7, mk_gR f_94_0, mk_gR f_94_1, mk_gR f_94_2, mk_gR f_94_3, mk_gR f_94_4, mk_gI f_94_5, mk_pI f_94_5, mk_gI f_94_6, mk_pI f_94_6, mk_gI f_94_7, mk_pI f_94_7, mk_gR f_98_0, mk_gR f_98_1, mk_gI f_98_2, mk_pI f_98_2, mk_gI f_98_3, mk_pI f_98_3, mk_gI f_98_4, mk_pI f_98_4, mk_gI f_98_5, mk_pI f_98_5, mk_gI f_98_6, mk_pI f_98_6, mk_gL f_98_7, mk_pL f_98_7, ↓m_1, ↓m_2, i_0, i_1, i_2, i_3, i_4, i_6, i_5, i_12, i_11, i_10, i_9999, i_7, i_9, i_8, i_24, i_100, i_56, i_48, i_13, i_176, i_232, i_224, i_32, i_999, i_99, i_900, i_97, i_90, i_30, i_20, i_59, i_14, i_50, i_29, i_22, i_19, i_18, i_17, i_96, i_61, i_57, i_51, i_41, i_26, i_2552, i_255, i_25, i_23, i_21, i_16, i_15, i_122, i_10000, i_31, dzF, obs, b2_some, rz0, rz1, rzb, n01, n01', n10, n01e, nI_add, nI_mul, ↓reduceIte, not_false_eq_true, not_true_eq_false, ite_not, leF, h5, mk_aLn a_99, hg, h7, hne]
set_option maxHeartbeats 4000000 in
theorem C_next {I : Nat → Nat → Int32} {J : Nat → Nat → Int64} (h : TKc b N I J) {q : Nat} (hq : q ≤ N) (h3 : I 98 3 = nI q) : ∃ I' J', mX7_next (mk n I J) 98 = some (mk n I' J') ∧ Fn I I' ∧ Gn J J' ∧ I' 98 3 = nI (tE b N q) ∧ I' 98 4 = nI (tP b N q) ∧ I' 98 5 = nI (tK b N q) ∧ I' 98 6 = ixW (tG b N q) ∧ (tK b N q = 1 → J' 98 7 = lN (enc 27 (tW b N q))) ∧ (tK b N q = 2 → J' 98 7 = lN (tV b N q)) := by
  have hN := h.1
  obtain ⟨I1, e1, r1, f1⟩ := C_skipL (n := n) (J := J) (N - q) q FU I (by omega) (by unfold FU; omega) h h3
  have hp := tP_in (b := b) hq
  have r1' : I1 98 3 = nI (tP b N q) := r1
  have hT1 := h.fn f1 (Gn.refl J)
  have h2 := hT1.2.2.1
  -- the token's start
  obtain ⟨I2, hI2⟩ : ∃ I2, I2 = u2 (u2 I1 98 4 (nI (tP b N q))) 98 6 M1 := ⟨_, rfl⟩
  obtain ⟨J2, hJ2⟩ : ∃ J2, J2 = u2 J 98 7 (lN 0) := ⟨_, rfl⟩
  have f2 : Fn I1 I2 := by rw [hI2]; exact (Fn_u I1 _ (by omega)).trans (Fn_u _ _ (by omega))
  have g2 : Gn J J2 := by rw [hJ2]; exact Gn_u J _
  have hT2 := hT1.fn f2 g2
  have a3 : I2 98 3 = nI (tP b N q) := by rw [hI2, u2_no _ _ (by omega), u2_no _ _ (by omega)]; exact r1'
  have a4 : I2 98 4 = nI (tP b N q) := by rw [hI2, u2_no _ _ (by omega), u2_at]
  have a6 : I2 98 6 = M1 := by rw [hI2, u2_at]
  have a7 : J2 98 7 = lN 0 := by rw [hJ2, u2_at]
  have a2 := hT2.2.2.1
  have fF := f1.trans f2
  have main : ∀ I' J', mX7_next_b52 (mk n I1 J) 98 = some (mk n I' J') → mX7_next (mk n I J) 98 = some (mk n I' J') := fun I' J' e => by
    unfold mX7_next
    rw [mk_oO o_98]
    exact e1.trans e
  by_cases hE : N ≤ tP b N q
  · have kd : tK b N q = 0 := by unfold tK kdP; rw [if_pos hE]
    have ed : tE b N q = tP b N q := by unfold tE edP; rw [if_pos hE]
    have gd : tG b N q = 30 := by unfold tG; rw [if_neg (by omega)]
    refine ⟨u2 I2 98 5 (nI 0), J2, main _ _ ?_, fF.trans (Fn_u _ _ (by omega)), g2, by rw [u2_no _ _ (by omega), ed]; exact a3, by rw [u2_no _ _ (by omega)]; exact a4, by rw [u2_at, kd], by rw [u2_no _ _ (by omega), a6, gd]; rfl, fun z => by omega, fun z => by omega⟩
    unfold mX7_next_b52
    simp (disch := omega) only [mk_oO o_48, mk_oO o_94, mk_oO o_98, mk_gR f_48_0, mk_gR f_48_1, mk_gR f_48_2, mk_gR f_48_3, mk_gR f_48_4, mk_gR f_48_5, mk_gR f_48_6, mk_gR f_48_7, mk_gR f_94_0, mk_gR f_94_1, mk_gR f_94_2, mk_gR f_94_3, mk_gR f_94_4, mk_gI f_94_5, mk_pI f_94_5, mk_gI f_94_6, mk_pI f_94_6, mk_gI f_94_7, mk_pI f_94_7, mk_gR f_98_0, mk_gR f_98_1, mk_gI f_98_2, mk_pI f_98_2, mk_gI f_98_3, mk_pI f_98_3, mk_gI f_98_4, mk_pI f_98_4, mk_gI f_98_5, mk_pI f_98_5, mk_gI f_98_6, mk_pI f_98_6, mk_gL f_98_7, mk_pL f_98_7, ↓m_1, ↓m_2, i_0, i_1, i_2, i_3, i_4, i_6, i_5, i_12, i_11, i_10, i_9999, i_7, i_9, i_8, i_24, i_100, i_56, i_48, i_13, i_176, i_232, i_224, i_32, i_999, i_99, i_900, i_97, i_90, i_30, i_20, i_59, i_14, i_50, i_29, i_22, i_19, i_18, i_17, i_96, i_61, i_57, i_51, i_41, i_26, i_2552, i_255, i_25, i_23, i_21, i_16, i_15, i_122, i_10000, i_31, l_0, dzF, obs, b2_some, rz0, rz1, rzb, n01, n01', n10, n01e, nI_add, nI_mul, ↓reduceIte, not_false_eq_true, not_true_eq_false, ite_not, r1', u2_no, ← hI2, ← hJ2, a3, a2, h2, ltF]
  · have hr : aI 2 (mk n I2 J2) 2 (nI (tP b N q)) = some (I2 2 (tP b N q)) := mk_aIn a_2 (by omega) (by decide)
    have hv := hT2.2.1 (tP b N q) (by omega)
    by_cases h59 : b (tP b N q) = 59
    · have kd : tK b N q = 3 := by unfold tK kdP; rw [if_neg hE, if_pos h59]
      have ed : tE b N q = tP b N q + 1 := by unfold tE edP; rw [if_neg hE, if_pos h59]
      have gd : tG b N q = 30 := by unfold tG; rw [if_neg (by omega)]
      refine ⟨u2 (u2 I2 98 5 (nI 3)) 98 3 (nI (tP b N q + 1)), J2, main _ _ ?_, (fF.trans (Fn_u _ _ (by omega))).trans (Fn_u _ _ (by omega)), g2, by rw [u2_at, ed], by rw [u2_no _ _ (by omega), u2_no _ _ (by omega)]; exact a4, by rw [u2_no _ _ (by omega), u2_at, kd], by rw [u2_no _ _ (by omega), u2_no _ _ (by omega), a6, gd]; rfl, fun z => by omega, fun z => by omega⟩
      unfold mX7_next_b52
      simp (disch := omega) only [mk_oO o_48, mk_oO o_94, mk_oO o_98, mk_gR f_48_0, mk_gR f_48_1, mk_gR f_48_2, mk_gR f_48_3, mk_gR f_48_4, mk_gR f_48_5, mk_gR f_48_6, mk_gR f_48_7, mk_gR f_94_0, mk_gR f_94_1, mk_gR f_94_2, mk_gR f_94_3, mk_gR f_94_4, mk_gI f_94_5, mk_pI f_94_5, mk_gI f_94_6, mk_pI f_94_6, mk_gI f_94_7, mk_pI f_94_7, mk_gR f_98_0, mk_gR f_98_1, mk_gI f_98_2, mk_pI f_98_2, mk_gI f_98_3, mk_pI f_98_3, mk_gI f_98_4, mk_pI f_98_4, mk_gI f_98_5, mk_pI f_98_5, mk_gI f_98_6, mk_pI f_98_6, mk_gL f_98_7, mk_pL f_98_7, ↓m_1, ↓m_2, i_0, i_1, i_2, i_3, i_4, i_6, i_5, i_12, i_11, i_10, i_9999, i_7, i_9, i_8, i_24, i_100, i_56, i_48, i_13, i_176, i_232, i_224, i_32, i_999, i_99, i_900, i_97, i_90, i_30, i_20, i_59, i_14, i_50, i_29, i_22, i_19, i_18, i_17, i_96, i_61, i_57, i_51, i_41, i_26, i_2552, i_255, i_25, i_23, i_21, i_16, i_15, i_122, i_10000, i_31, l_0, dzF, obs, b2_some, rz0, rz1, rzb, n01, n01', n10, n01e, nI_add, nI_mul, ↓reduceIte, not_false_eq_true, not_true_eq_false, ite_not, r1', u2_no, ← hI2, ← hJ2, a3, a2, h2, ltT, hr, hv.eq (c := 59) (by decide), h59]
    · have hne : (I2 2 (tP b N q) = nI 59) = False := by rw [hv.eq (by decide)]; exact eq_false h59
      by_cases hl : isLt (b (tP b N q))
      · obtain ⟨I3, J3, e3, p1, p2, p3, p4⟩ := C_twL (n := n) (p := tP b N q) (N - tP b N q) (tP b N q) FU I2 J2 (by omega) (by unfold FU; omega) (Nat.le_refl _) hT2 a3 (by rw [a7, Nat.sub_self]; rfl)
        have hin := rnL_in b (N - tP b N q) (tP b N q)
        have ed : tE b N q = rnL b (N - tP b N q) (tP b N q) := by unfold tE edP; rw [if_neg hE, if_neg h59, if_pos hl]
        rw [← ed] at p1 p2 hin
        have hE2 := tE_in (b := b) hq
        have p2' : J3 98 7 = lN (enc 27 (tW b N q)) := p2
        have pre : mX7_next_b52 (mk n I1 J) 98 = (mX7_takeWord (mk n I2 J2) 98).bind fun h137 => some h137 := by
          unfold mX7_next_b52
          simp (disch := omega) only [mk_oO o_48, mk_oO o_94, mk_oO o_98, mk_gR f_48_0, mk_gR f_48_1, mk_gR f_48_2, mk_gR f_48_3, mk_gR f_48_4, mk_gR f_48_5, mk_gR f_48_6, mk_gR f_48_7, mk_gR f_94_0, mk_gR f_94_1, mk_gR f_94_2, mk_gR f_94_3, mk_gR f_94_4, mk_gI f_94_5, mk_pI f_94_5, mk_gI f_94_6, mk_pI f_94_6, mk_gI f_94_7, mk_pI f_94_7, mk_gR f_98_0, mk_gR f_98_1, mk_gI f_98_2, mk_pI f_98_2, mk_gI f_98_3, mk_pI f_98_3, mk_gI f_98_4, mk_pI f_98_4, mk_gI f_98_5, mk_pI f_98_5, mk_gI f_98_6, mk_pI f_98_6, mk_gL f_98_7, mk_pL f_98_7, ↓m_1, ↓m_2, i_0, i_1, i_2, i_3, i_4, i_6, i_5, i_12, i_11, i_10, i_9999, i_7, i_9, i_8, i_24, i_100, i_56, i_48, i_13, i_176, i_232, i_224, i_32, i_999, i_99, i_900, i_97, i_90, i_30, i_20, i_59, i_14, i_50, i_29, i_22, i_19, i_18, i_17, i_96, i_61, i_57, i_51, i_41, i_26, i_2552, i_255, i_25, i_23, i_21, i_16, i_15, i_122, i_10000, i_31, l_0, dzF, obs, b2_some, rz0, rz1, rzb, n01, n01', n10, n01e, nI_add, nI_mul, ↓reduceIte, not_false_eq_true, not_true_eq_false, ite_not, r1', u2_no, ← hI2, ← hJ2, a3, a2, h2, ltT, hr, hne, C_isLetter hv, if_pos hl]
        have hG3 : GR J3 := fun i hi => by rw [p4 _ _ (by omega)]; exact hT2.2.2.2 i hi
        have a43 : I3 98 4 = nI (tP b N q) := by rw [p3 _ _ (by omega)]; exact a4
        have fn3 : Fn I2 I3 := fun a c z => p3 a c (by omega)
        by_cases h7 : tE b N q - tP b N q ≤ 7
        · have kd : tK b N q = 1 := by unfold tK kdP; rw [if_neg hE, if_neg h59, if_pos hl, ← ed, if_pos h7]
          have gd : tG b N q = gx (tW b N q) := by unfold tG; rw [if_pos kd]
          obtain ⟨hw, -, -⟩ := tK_word hq kd
          obtain ⟨I4, e4, q1, q2⟩ := C_gwL (n := n) hw hG3 p2' 30 0 FU (u2 I3 98 5 (nI 1)) (by omega) (by unfold FU; omega) (u2_at _ _ _ _) (by rw [u2_no _ _ (by omega), p3 _ _ (by omega), a6]; rfl)
          have fn4 : Fn I3 I4 := fun a c z => by rw [q2 a c (by omega), u2_no _ _ (by omega)]
          refine ⟨I4, J3, main _ _ ?_, (fF.trans fn3).trans fn4, g2.trans p4, by rw [q2 _ _ (by omega), u2_no _ _ (by omega)]; exact p1, by rw [q2 _ _ (by omega), u2_no _ _ (by omega)]; exact a43, by rw [q2 _ _ (by omega), u2_at, kd], by rw [q1, gd]; rfl, fun _ => p2', fun z => by omega⟩
          rw [pre]
          unfold mX7_takeWord
          rw [mk_oO o_98, e3]
          unfold mX7_takeWord_b67 mX7_takeWord_b87
          simp (disch := omega) only [mk_oO o_48, mk_oO o_94, mk_oO o_98, mk_gR f_48_0, mk_gR f_48_1, mk_gR f_48_2, mk_gR f_48_3, mk_gR f_48_4, mk_gR f_48_5, mk_gR f_48_6, mk_gR f_48_7, mk_gR f_94_0, mk_gR f_94_1, mk_gR f_94_2, mk_gR f_94_3, mk_gR f_94_4, mk_gI f_94_5, mk_pI f_94_5, mk_gI f_94_6, mk_pI f_94_6, mk_gI f_94_7, mk_pI f_94_7, mk_gR f_98_0, mk_gR f_98_1, mk_gI f_98_2, mk_pI f_98_2, mk_gI f_98_3, mk_pI f_98_3, mk_gI f_98_4, mk_pI f_98_4, mk_gI f_98_5, mk_pI f_98_5, mk_gI f_98_6, mk_pI f_98_6, mk_gL f_98_7, mk_pL f_98_7, ↓m_1, ↓m_2, i_0, i_1, i_2, i_3, i_4, i_6, i_5, i_12, i_11, i_10, i_9999, i_7, i_9, i_8, i_24, i_100, i_56, i_48, i_13, i_176, i_232, i_224, i_32, i_999, i_99, i_900, i_97, i_90, i_30, i_20, i_59, i_14, i_50, i_29, i_22, i_19, i_18, i_17, i_96, i_61, i_57, i_51, i_41, i_26, i_2552, i_255, i_25, i_23, i_21, i_16, i_15, i_122, i_10000, i_31, dzF, obs, b2_some, rz0, rz1, rzb, n01, n01', n10, n01e, nI_add, nI_mul, ↓reduceIte, not_false_eq_true, not_true_eq_false, ite_not, p1, a43, nI_sub, leT, e4]
        · have kd : tK b N q = 4 := by unfold tK kdP; rw [if_neg hE, if_neg h59, if_pos hl, ← ed, if_neg h7]
          have gd : tG b N q = 30 := by unfold tG; rw [if_neg (by omega)]
          have fu1 : ∃ f, FU = f + 1 := ⟨19999, rfl⟩
          obtain ⟨f, hfu⟩ := fu1
          refine ⟨u2 I3 98 5 (nI 4), J3, main _ _ ?_, (fF.trans fn3).trans (Fn_u _ _ (by omega)), g2.trans p4, by rw [u2_no _ _ (by omega)]; exact p1, by rw [u2_no _ _ (by omega)]; exact a43, by rw [u2_at, kd], by rw [u2_no _ _ (by omega), p3 _ _ (by omega), a6, gd]; rfl, fun z => by omega, fun z => by omega⟩
          rw [pre]
          unfold mX7_takeWord
          rw [mk_oO o_98, e3]
          unfold mX7_takeWord_b67 mX7_takeWord_b87
          rw [hfu]
          simp (disch := omega) only [mX7_takeWord_L92, mX7_takeWord_b92, mk_oO o_48, mk_oO o_94, mk_oO o_98, mk_gR f_48_0, mk_gR f_48_1, mk_gR f_48_2, mk_gR f_48_3, mk_gR f_48_4, mk_gR f_48_5, mk_gR f_48_6, mk_gR f_48_7, mk_gR f_94_0, mk_gR f_94_1, mk_gR f_94_2, mk_gR f_94_3, mk_gR f_94_4, mk_gI f_94_5, mk_pI f_94_5, mk_gI f_94_6, mk_pI f_94_6, mk_gI f_94_7, mk_pI f_94_7, mk_gR f_98_0, mk_gR f_98_1, mk_gI f_98_2, mk_pI f_98_2, mk_gI f_98_3, mk_pI f_98_3, mk_gI f_98_4, mk_pI f_98_4, mk_gI f_98_5, mk_pI f_98_5, mk_gI f_98_6, mk_pI f_98_6, mk_gL f_98_7, mk_pL f_98_7, ↓m_1, ↓m_2, i_0, i_1, i_2, i_3, i_4, i_6, i_5, i_12, i_11, i_10, i_9999, i_7, i_9, i_8, i_24, i_100, i_56, i_48, i_13, i_176, i_232, i_224, i_32, i_999, i_99, i_900, i_97, i_90, i_30, i_20, i_59, i_14, i_50, i_29, i_22, i_19, i_18, i_17, i_96, i_61, i_57, i_51, i_41, i_26, i_2552, i_255, i_25, i_23, i_21, i_16, i_15, i_122, i_10000, i_31, dzF, obs, b2_some, rz0, rz1, rzb, n01, n01', n10, n01e, nI_add, nI_mul, ↓reduceIte, not_false_eq_true, not_true_eq_false, ite_not, p1, a43, nI_sub, leF, u2_at, eqF]
      · by_cases hd : isDg (b (tP b N q))
        · obtain ⟨I3, J3, e3, p1, p2, p3, p4⟩ := C_tnL (n := n) (p := tP b N q) (N - tP b N q) (tP b N q) FU I2 J2 (by omega) (by unfold FU; omega) (Nat.le_refl _) hT2 a3 (by rw [a7, Nat.sub_self]; rfl)
          have hin := rnD_in b (N - tP b N q) (tP b N q)
          have ed : tE b N q = rnD b (N - tP b N q) (tP b N q) := by unfold tE edP; rw [if_neg hE, if_neg h59, if_neg hl, if_pos hd]
          rw [← ed] at p1 p2 hin
          have hE2 := tE_in (b := b) hq
          have p2' : J3 98 7 = lN (tV b N q) := p2
          have pre : mX7_next_b52 (mk n I1 J) 98 = (mX7_takeNumber (mk n I2 J2) 98).bind fun h137 => some h137 := by
            unfold mX7_next_b52
            simp (disch := omega) only [mk_oO o_48, mk_oO o_94, mk_oO o_98, mk_gR f_48_0, mk_gR f_48_1, mk_gR f_48_2, mk_gR f_48_3, mk_gR f_48_4, mk_gR f_48_5, mk_gR f_48_6, mk_gR f_48_7, mk_gR f_94_0, mk_gR f_94_1, mk_gR f_94_2, mk_gR f_94_3, mk_gR f_94_4, mk_gI f_94_5, mk_pI f_94_5, mk_gI f_94_6, mk_pI f_94_6, mk_gI f_94_7, mk_pI f_94_7, mk_gR f_98_0, mk_gR f_98_1, mk_gI f_98_2, mk_pI f_98_2, mk_gI f_98_3, mk_pI f_98_3, mk_gI f_98_4, mk_pI f_98_4, mk_gI f_98_5, mk_pI f_98_5, mk_gI f_98_6, mk_pI f_98_6, mk_gL f_98_7, mk_pL f_98_7, ↓m_1, ↓m_2, i_0, i_1, i_2, i_3, i_4, i_6, i_5, i_12, i_11, i_10, i_9999, i_7, i_9, i_8, i_24, i_100, i_56, i_48, i_13, i_176, i_232, i_224, i_32, i_999, i_99, i_900, i_97, i_90, i_30, i_20, i_59, i_14, i_50, i_29, i_22, i_19, i_18, i_17, i_96, i_61, i_57, i_51, i_41, i_26, i_2552, i_255, i_25, i_23, i_21, i_16, i_15, i_122, i_10000, i_31, l_0, dzF, obs, b2_some, rz0, rz1, rzb, n01, n01', n10, n01e, nI_add, nI_mul, ↓reduceIte, not_false_eq_true, not_true_eq_false, ite_not, r1', u2_no, ← hI2, ← hJ2, a3, a2, h2, ltT, hr, hne, C_isLetter hv, if_neg hl, C_isDigit hv, if_pos hd]
          have a43 : I3 98 4 = nI (tP b N q) := by rw [p3 _ _ (by omega)]; exact a4
          have fn3 : Fn I2 I3 := fun a c z => p3 a c (by omega)
          have gd : tG b N q = 30 := by
            unfold tG
            refine if_neg (fun z => ?_)
            unfold tK kdP at z
            rw [if_neg hE, if_neg h59, if_neg hl, if_pos hd] at z
            split at z <;> omega
          have nx : ∀ s : Nat, (s = 2 ∧ tE b N q - tP b N q ≤ 4) ∨ (s = 4 ∧ ¬ tE b N q - tP b N q ≤ 4) → mX7_next_b52 (mk n I1 J) 98 = some (mk n (u2 I3 98 5 (nI s)) J3) := by
            intro s hs
            rw [pre]
            unfold mX7_takeNumber
            rw [mk_oO o_98, e3]
            unfold mX7_takeNumber_b65 mX7_takeNumber_b84
            rcases hs with ⟨rfl, z⟩ | ⟨rfl, z⟩
            · simp (disch := omega) only [mk_oO o_48, mk_oO o_94, mk_oO o_98, mk_gR f_48_0, mk_gR f_48_1, mk_gR f_48_2, mk_gR f_48_3, mk_gR f_48_4, mk_gR f_48_5, mk_gR f_48_6, mk_gR f_48_7, mk_gR f_94_0, mk_gR f_94_1, mk_gR f_94_2, mk_gR f_94_3, mk_gR f_94_4, mk_gI f_94_5, mk_pI f_94_5, mk_gI f_94_6, mk_pI f_94_6, mk_gI f_94_7, mk_pI f_94_7, mk_gR f_98_0, mk_gR f_98_1, mk_gI f_98_2, mk_pI f_98_2, mk_gI f_98_3, mk_pI f_98_3, mk_gI f_98_4, mk_pI f_98_4, mk_gI f_98_5, mk_pI f_98_5, mk_gI f_98_6, mk_pI f_98_6, mk_gL f_98_7, mk_pL f_98_7, ↓m_1, ↓m_2, i_0, i_1, i_2, i_3, i_4, i_6, i_5, i_12, i_11, i_10, i_9999, i_7, i_9, i_8, i_24, i_100, i_56, i_48, i_13, i_176, i_232, i_224, i_32, i_999, i_99, i_900, i_97, i_90, i_30, i_20, i_59, i_14, i_50, i_29, i_22, i_19, i_18, i_17, i_96, i_61, i_57, i_51, i_41, i_26, i_2552, i_255, i_25, i_23, i_21, i_16, i_15, i_122, i_10000, i_31, dzF, obs, b2_some, rz0, rz1, rzb, n01, n01', n10, n01e, nI_add, nI_mul, ↓reduceIte, not_false_eq_true, not_true_eq_false, ite_not, p1, a43, nI_sub, leT]
            · simp (disch := omega) only [mk_oO o_48, mk_oO o_94, mk_oO o_98, mk_gR f_48_0, mk_gR f_48_1, mk_gR f_48_2, mk_gR f_48_3, mk_gR f_48_4, mk_gR f_48_5, mk_gR f_48_6, mk_gR f_48_7, mk_gR f_94_0, mk_gR f_94_1, mk_gR f_94_2, mk_gR f_94_3, mk_gR f_94_4, mk_gI f_94_5, mk_pI f_94_5, mk_gI f_94_6, mk_pI f_94_6, mk_gI f_94_7, mk_pI f_94_7, mk_gR f_98_0, mk_gR f_98_1, mk_gI f_98_2, mk_pI f_98_2, mk_gI f_98_3, mk_pI f_98_3, mk_gI f_98_4, mk_pI f_98_4, mk_gI f_98_5, mk_pI f_98_5, mk_gI f_98_6, mk_pI f_98_6, mk_gL f_98_7, mk_pL f_98_7, ↓m_1, ↓m_2, i_0, i_1, i_2, i_3, i_4, i_6, i_5, i_12, i_11, i_10, i_9999, i_7, i_9, i_8, i_24, i_100, i_56, i_48, i_13, i_176, i_232, i_224, i_32, i_999, i_99, i_900, i_97, i_90, i_30, i_20, i_59, i_14, i_50, i_29, i_22, i_19, i_18, i_17, i_96, i_61, i_57, i_51, i_41, i_26, i_2552, i_255, i_25, i_23, i_21, i_16, i_15, i_122, i_10000, i_31, dzF, obs, b2_some, rz0, rz1, rzb, n01, n01', n10, n01e, nI_add, nI_mul, ↓reduceIte, not_false_eq_true, not_true_eq_false, ite_not, p1, a43, nI_sub, leF]
          by_cases h4 : tE b N q - tP b N q ≤ 4
          · have kd : tK b N q = 2 := by unfold tK kdP; rw [if_neg hE, if_neg h59, if_neg hl, if_pos hd, ← ed, if_pos h4]
            exact ⟨u2 I3 98 5 (nI 2), J3, main _ _ (nx 2 (Or.inl ⟨rfl, h4⟩)), (fF.trans fn3).trans (Fn_u _ _ (by omega)), g2.trans p4, by rw [u2_no _ _ (by omega)]; exact p1, by rw [u2_no _ _ (by omega)]; exact a43, by rw [u2_at, kd], by rw [u2_no _ _ (by omega), p3 _ _ (by omega), a6, gd]; rfl, fun z => by omega, fun _ => p2'⟩
          · have kd : tK b N q = 4 := by unfold tK kdP; rw [if_neg hE, if_neg h59, if_neg hl, if_pos hd, ← ed, if_neg h4]
            exact ⟨u2 I3 98 5 (nI 4), J3, main _ _ (nx 4 (Or.inr ⟨rfl, h4⟩)), (fF.trans fn3).trans (Fn_u _ _ (by omega)), g2.trans p4, by rw [u2_no _ _ (by omega)]; exact p1, by rw [u2_no _ _ (by omega)]; exact a43, by rw [u2_at, kd], by rw [u2_no _ _ (by omega), p3 _ _ (by omega), a6, gd]; rfl, fun z => by omega, fun z => by omega⟩
        · have kd : tK b N q = 4 := by unfold tK kdP; rw [if_neg hE, if_neg h59, if_neg hl, if_neg hd]
          have ed : tE b N q = tP b N q := by unfold tE edP; rw [if_neg hE, if_neg h59, if_neg hl, if_neg hd]
          have gd : tG b N q = 30 := by unfold tG; rw [if_neg (by omega)]
          refine ⟨u2 I2 98 5 (nI 4), J2, main _ _ ?_, fF.trans (Fn_u _ _ (by omega)), g2, by rw [u2_no _ _ (by omega), ed]; exact a3, by rw [u2_no _ _ (by omega)]; exact a4, by rw [u2_at, kd], by rw [u2_no _ _ (by omega), a6, gd]; rfl, fun z => by omega, fun z => by omega⟩
          unfold mX7_next_b52
          simp (disch := omega) only [mk_oO o_48, mk_oO o_94, mk_oO o_98, mk_gR f_48_0, mk_gR f_48_1, mk_gR f_48_2, mk_gR f_48_3, mk_gR f_48_4, mk_gR f_48_5, mk_gR f_48_6, mk_gR f_48_7, mk_gR f_94_0, mk_gR f_94_1, mk_gR f_94_2, mk_gR f_94_3, mk_gR f_94_4, mk_gI f_94_5, mk_pI f_94_5, mk_gI f_94_6, mk_pI f_94_6, mk_gI f_94_7, mk_pI f_94_7, mk_gR f_98_0, mk_gR f_98_1, mk_gI f_98_2, mk_pI f_98_2, mk_gI f_98_3, mk_pI f_98_3, mk_gI f_98_4, mk_pI f_98_4, mk_gI f_98_5, mk_pI f_98_5, mk_gI f_98_6, mk_pI f_98_6, mk_gL f_98_7, mk_pL f_98_7, ↓m_1, ↓m_2, i_0, i_1, i_2, i_3, i_4, i_6, i_5, i_12, i_11, i_10, i_9999, i_7, i_9, i_8, i_24, i_100, i_56, i_48, i_13, i_176, i_232, i_224, i_32, i_999, i_99, i_900, i_97, i_90, i_30, i_20, i_59, i_14, i_50, i_29, i_22, i_19, i_18, i_17, i_96, i_61, i_57, i_51, i_41, i_26, i_2552, i_255, i_25, i_23, i_21, i_16, i_15, i_122, i_10000, i_31, l_0, dzF, obs, b2_some, rz0, rz1, rzb, n01, n01', n10, n01e, nI_add, nI_mul, ↓reduceIte, not_false_eq_true, not_true_eq_false, ite_not, r1', u2_no, ← hI2, ← hJ2, a3, a2, h2, ltT, hr, hne, C_isLetter hv, if_neg hl, C_isDigit hv, if_neg hd]
end NX
