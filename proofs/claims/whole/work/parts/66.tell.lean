/-! ===== 66: kin told, or no more ===== -/
/-- two and two are one pair -/
abbrev pr2 (p q x y : Nat) : Prop := (x = p ∧ y = q) ∨ (x = q ∧ y = p)
theorem nI_m1 {a : Nat} (h : 1 ≤ a) : nI a + M1 = nI (a - 1) := by
  have : M1 = (0 : Int32) - nI 1 := id rfl
  rw [this, Int32.zero_sub, ← Int32.sub_eq_add_neg, nI_sub h]
theorem xor_bit (m a i : Nat) : (m ^^^ 2 ^ a).testBit i = (if i = a then !m.testBit i else m.testBit i) := by
  rw [Nat.testBit_xor, tb_2p]
  by_cases h : i = a
  · subst h; simp
  · rw [if_neg h, decide_eq_false (fun z => h z.symm)]; simp
section TL
variable {n : Nat} {I : Nat → Nat → Int32} {J : Nat → Nat → Int64} {T T' : Nat → Nat}
theorem C_isTold {b : Nat} (hb : b = 3 ∨ b = 48) (hW : WR I b T) {p q : Nat} (hp : p < 6) (hq : q < 6) : (told T p q ∧ mX8_isTold (mk n I J) b (nI p) (nI q) = some (nI 1, mk n I J)) ∨ (¬ told T p q ∧ mX8_isTold (mk n I J) b (nI p) (nI q) = some (nI 0, mk n I J)) := by
  obtain ⟨m, m1, m2, m3⟩ := hW.2.2.2.2.2.2.2 p hp
  have m4 := m3 q hq
  by_cases ht : m.testBit q = true
  · refine Or.inl ⟨m4.mp ht, ?_⟩
    unfold mX8_isTold
    rcases hb with rfl | rfl <;> simp (disch := omega) only [mk_oO o_0, mk_oO o_1, mk_oO o_3, mk_gR f_0_0, mk_gR f_0_1, mk_gR f_0_2, mk_gR f_0_3, mk_gR f_0_4, mk_gR f_0_5, mk_gR f_0_6, mk_gR f_0_7, mk_gR f_0_8, mk_gR f_0_9, mk_gI f_0_10, mk_pI f_0_10, mk_gR f_1_0, mk_gI f_1_1, mk_pI f_1_1, mk_gR f_3_0, mk_gR f_3_1, mk_gR f_3_2, mk_gR f_3_3, mk_gR f_3_4, mk_gR f_3_5, mk_gR f_3_6, mk_gR f_3_7, mk_oO o_48, mk_oO o_94, mk_oO o_98, mk_gR f_48_0, mk_gR f_48_1, mk_gR f_48_2, mk_gR f_48_3, mk_gR f_48_4, mk_gR f_48_5, mk_gR f_48_6, mk_gR f_48_7, mk_gR f_94_0, mk_gR f_94_1, mk_gR f_94_2, mk_gR f_94_3, mk_gR f_94_4, mk_gI f_94_5, mk_pI f_94_5, mk_gI f_94_6, mk_pI f_94_6, mk_gI f_94_7, mk_pI f_94_7, mk_gR f_98_0, mk_gR f_98_1, mk_gI f_98_2, mk_pI f_98_2, mk_gI f_98_3, mk_pI f_98_3, mk_gI f_98_4, mk_pI f_98_4, mk_gI f_98_5, mk_pI f_98_5, mk_gI f_98_6, mk_pI f_98_6, mk_gL f_98_7, mk_pL f_98_7, ↓m_1, ↓m_2, i_0, i_1, i_2, i_3, i_4, i_6, i_5, i_12, i_11, i_10, i_9999, i_7, i_9, i_8, i_24, i_100, i_56, i_48, i_13, i_176, i_232, i_224, i_32, i_999, i_99, i_900, i_97, i_90, i_30, i_20, i_59, i_14, i_50, i_29, i_22, i_19, i_18, i_17, i_96, i_61, i_57, i_51, i_41, i_26, i_2552, i_255, i_25, i_23, i_21, i_16, i_15, i_122, i_10000, i_31, dzF, obs, b2_some, rz0, rz1, rzb, n01, n01', n10, n01e, nI_add, nI_mul, ↓reduceIte, not_false_eq_true, not_true_eq_false, ite_not, mk_aIn a_5, mk_aIn a_50, m2, nI_bit, if_pos ht]
  · refine Or.inr ⟨fun z => ht (m4.mpr z), ?_⟩
    unfold mX8_isTold
    rcases hb with rfl | rfl <;> simp (disch := omega) only [mk_oO o_0, mk_oO o_1, mk_oO o_3, mk_gR f_0_0, mk_gR f_0_1, mk_gR f_0_2, mk_gR f_0_3, mk_gR f_0_4, mk_gR f_0_5, mk_gR f_0_6, mk_gR f_0_7, mk_gR f_0_8, mk_gR f_0_9, mk_gI f_0_10, mk_pI f_0_10, mk_gR f_1_0, mk_gI f_1_1, mk_pI f_1_1, mk_gR f_3_0, mk_gR f_3_1, mk_gR f_3_2, mk_gR f_3_3, mk_gR f_3_4, mk_gR f_3_5, mk_gR f_3_6, mk_gR f_3_7, mk_oO o_48, mk_oO o_94, mk_oO o_98, mk_gR f_48_0, mk_gR f_48_1, mk_gR f_48_2, mk_gR f_48_3, mk_gR f_48_4, mk_gR f_48_5, mk_gR f_48_6, mk_gR f_48_7, mk_gR f_94_0, mk_gR f_94_1, mk_gR f_94_2, mk_gR f_94_3, mk_gR f_94_4, mk_gI f_94_5, mk_pI f_94_5, mk_gI f_94_6, mk_pI f_94_6, mk_gI f_94_7, mk_pI f_94_7, mk_gR f_98_0, mk_gR f_98_1, mk_gI f_98_2, mk_pI f_98_2, mk_gI f_98_3, mk_pI f_98_3, mk_gI f_98_4, mk_pI f_98_4, mk_gI f_98_5, mk_pI f_98_5, mk_gI f_98_6, mk_pI f_98_6, mk_gL f_98_7, mk_pL f_98_7, ↓m_1, ↓m_2, i_0, i_1, i_2, i_3, i_4, i_6, i_5, i_12, i_11, i_10, i_9999, i_7, i_9, i_8, i_24, i_100, i_56, i_48, i_13, i_176, i_232, i_224, i_32, i_999, i_99, i_900, i_97, i_90, i_30, i_20, i_59, i_14, i_50, i_29, i_22, i_19, i_18, i_17, i_96, i_61, i_57, i_51, i_41, i_26, i_2552, i_255, i_25, i_23, i_21, i_16, i_15, i_122, i_10000, i_31, dzF, obs, b2_some, rz0, rz1, rzb, n01, n01', n10, n01e, nI_add, nI_mul, ↓reduceIte, not_false_eq_true, not_true_eq_false, ite_not, mk_aIn a_5, mk_aIn a_50, m2, nI_bit, if_neg ht]
/-- what tell() leaves of the world at b -/
def tellI (I : Nat → Nat → Int32) (b p q x y z : Nat) : Nat → Nat → Int32 := u2 (u2 (u2 I (b + 2) p (nI x)) (b + 2) q (nI y)) (b + 1) 13 (nI z)
theorem C_tell {b : Nat} (hb : b = 3 ∨ b = 48) (hW : WR I b T) {p q v : Nat} (hp : p < 6) (hq : q < 6) (hpq : p ≠ q) (hv : v ≤ 1) (h11 : T 11 ≤ 6) (ht : v = 1 ↔ ¬ told T p q) (hz : v = 0 → 1 ≤ T 11) : ∃ I', mX8_tell (mk n I J) b (nI p) (nI q) (nI v) = some (mk n I' J) ∧ (∀ a c, ¬ (a = b + 1 ∧ c = 13) → a ≠ b + 2 → I' a c = I a c) ∧ ∀ T', (∀ k, k < 11 → T' k = T k) → T' 11 + (1 - v) = T 11 + v → (∀ k, 24 ≤ k → T' k = T k) → (∀ x y, told T' x y ↔ if pr2 p q x y then v = 1 else told T x y) → WR I' b T' := by
  obtain ⟨h1, h2, h3, h4, h5, h6, h7, h8⟩ := id hW
  obtain ⟨mp, mp1, mp2, mp3⟩ := h8 p hp
  obtain ⟨mq, mq1, mq2, mq3⟩ := h8 q hq
  have hpq2 : told T q p ↔ told T p q := ⟨told.symm, told.symm⟩
  have l1 : mp ^^^ 2 ^ q < 2 ^ 6 := Nat.xor_lt_two_pow mp1 (p2_lt hq)
  have l2 : mq ^^^ 2 ^ p < 2 ^ 6 := Nat.xor_lt_two_pow mq1 (p2_lt hp)
  refine ⟨tellI I b p q (mp ^^^ 2 ^ q) (mq ^^^ 2 ^ p) (if v = 1 then T 11 + 1 else T 11 - 1), ?_, ?_, ?_⟩
  · have key : ∀ e : Int32, mX8_isTold (mk n I J) b (nI p) (nI q) = some (e, mk n I J) → e ≠ nI v → mX8_tell (mk n I J) b (nI p) (nI q) (nI v) = some (mk n (tellI I b p q (mp ^^^ 2 ^ q) (mq ^^^ 2 ^ p) (if v = 1 then T 11 + 1 else T 11 - 1)) J) := by
      intro e he hne
      unfold mX8_tell mX8_tell_b57 tellI
      have h2' : I (b + 1) 13 = nI (T 11) := h2
      rcases hb with rfl | rfl
      · rcases (by omega : v = 0 ∨ v = 1) with rfl | rfl
        · have := hz rfl
          simp (disch := omega) only [mk_oO o_0, mk_oO o_1, mk_oO o_3, mk_gR f_0_0, mk_gR f_0_1, mk_gR f_0_2, mk_gR f_0_3, mk_gR f_0_4, mk_gR f_0_5, mk_gR f_0_6, mk_gR f_0_7, mk_gR f_0_8, mk_gR f_0_9, mk_gI f_0_10, mk_pI f_0_10, mk_gR f_1_0, mk_gI f_1_1, mk_pI f_1_1, mk_gR f_3_0, mk_gR f_3_1, mk_gR f_3_2, mk_gR f_3_3, mk_gR f_3_4, mk_gR f_3_5, mk_gR f_3_6, mk_gR f_3_7, ↓m_1, ↓m_2, i_0, i_1, i_2, i_3, i_4, i_6, i_5, i_12, i_11, i_10, i_9999, i_7, i_9, i_8, i_24, i_100, i_56, i_48, i_13, i_176, i_232, i_224, i_32, i_999, i_99, i_900, i_97, i_90, i_30, i_20, i_59, i_14, i_50, i_29, i_22, i_19, i_18, i_17, i_96, i_61, i_57, i_51, i_41, i_26, i_2552, i_255, i_25, i_23, i_21, i_16, i_15, i_122, i_10000, i_31, dzF, obs, b2_some, rz0, rz1, rzb, n01, n01', n10, n01e, nI_add, nI_mul, ↓reduceIte, not_false_eq_true, not_true_eq_false, ite_not, eqF, he, hne, mk_aIn a_5, mp2, mq2, nI_and, nI_one_shl2, nI_xor, mk_sIn a_5, u2_no, mk_aIn a_4, h2', mk_sIn a_4, nI_m1, Nat.zero_ne_one]
        · simp (disch := omega) only [mk_oO o_0, mk_oO o_1, mk_oO o_3, mk_gR f_0_0, mk_gR f_0_1, mk_gR f_0_2, mk_gR f_0_3, mk_gR f_0_4, mk_gR f_0_5, mk_gR f_0_6, mk_gR f_0_7, mk_gR f_0_8, mk_gR f_0_9, mk_gI f_0_10, mk_pI f_0_10, mk_gR f_1_0, mk_gI f_1_1, mk_pI f_1_1, mk_gR f_3_0, mk_gR f_3_1, mk_gR f_3_2, mk_gR f_3_3, mk_gR f_3_4, mk_gR f_3_5, mk_gR f_3_6, mk_gR f_3_7, ↓m_1, ↓m_2, i_0, i_1, i_2, i_3, i_4, i_6, i_5, i_12, i_11, i_10, i_9999, i_7, i_9, i_8, i_24, i_100, i_56, i_48, i_13, i_176, i_232, i_224, i_32, i_999, i_99, i_900, i_97, i_90, i_30, i_20, i_59, i_14, i_50, i_29, i_22, i_19, i_18, i_17, i_96, i_61, i_57, i_51, i_41, i_26, i_2552, i_255, i_25, i_23, i_21, i_16, i_15, i_122, i_10000, i_31, dzF, obs, b2_some, rz0, rz1, rzb, n01, n01', n10, n01e, nI_add, nI_mul, ↓reduceIte, not_false_eq_true, not_true_eq_false, ite_not, eqF, he, hne, mk_aIn a_5, mp2, mq2, nI_and, nI_one_shl2, nI_xor, mk_sIn a_5, u2_no, mk_aIn a_4, h2', mk_sIn a_4]
      · rcases (by omega : v = 0 ∨ v = 1) with rfl | rfl
        · have := hz rfl
          simp (disch := omega) only [mk_oO o_48, mk_oO o_94, mk_oO o_98, mk_gR f_48_0, mk_gR f_48_1, mk_gR f_48_2, mk_gR f_48_3, mk_gR f_48_4, mk_gR f_48_5, mk_gR f_48_6, mk_gR f_48_7, mk_gR f_94_0, mk_gR f_94_1, mk_gR f_94_2, mk_gR f_94_3, mk_gR f_94_4, mk_gI f_94_5, mk_pI f_94_5, mk_gI f_94_6, mk_pI f_94_6, mk_gI f_94_7, mk_pI f_94_7, mk_gR f_98_0, mk_gR f_98_1, mk_gI f_98_2, mk_pI f_98_2, mk_gI f_98_3, mk_pI f_98_3, mk_gI f_98_4, mk_pI f_98_4, mk_gI f_98_5, mk_pI f_98_5, mk_gI f_98_6, mk_pI f_98_6, mk_gL f_98_7, mk_pL f_98_7, ↓m_1, ↓m_2, i_0, i_1, i_2, i_3, i_4, i_6, i_5, i_12, i_11, i_10, i_9999, i_7, i_9, i_8, i_24, i_100, i_56, i_48, i_13, i_176, i_232, i_224, i_32, i_999, i_99, i_900, i_97, i_90, i_30, i_20, i_59, i_14, i_50, i_29, i_22, i_19, i_18, i_17, i_96, i_61, i_57, i_51, i_41, i_26, i_2552, i_255, i_25, i_23, i_21, i_16, i_15, i_122, i_10000, i_31, dzF, obs, b2_some, rz0, rz1, rzb, n01, n01', n10, n01e, nI_add, nI_mul, ↓reduceIte, not_false_eq_true, not_true_eq_false, ite_not, eqF, he, hne, mk_aIn a_50, mp2, mq2, nI_and, nI_one_shl2, nI_xor, mk_sIn a_50, u2_no, mk_aIn a_49, h2', mk_sIn a_49, nI_m1, Nat.zero_ne_one]
        · simp (disch := omega) only [mk_oO o_48, mk_oO o_94, mk_oO o_98, mk_gR f_48_0, mk_gR f_48_1, mk_gR f_48_2, mk_gR f_48_3, mk_gR f_48_4, mk_gR f_48_5, mk_gR f_48_6, mk_gR f_48_7, mk_gR f_94_0, mk_gR f_94_1, mk_gR f_94_2, mk_gR f_94_3, mk_gR f_94_4, mk_gI f_94_5, mk_pI f_94_5, mk_gI f_94_6, mk_pI f_94_6, mk_gI f_94_7, mk_pI f_94_7, mk_gR f_98_0, mk_gR f_98_1, mk_gI f_98_2, mk_pI f_98_2, mk_gI f_98_3, mk_pI f_98_3, mk_gI f_98_4, mk_pI f_98_4, mk_gI f_98_5, mk_pI f_98_5, mk_gI f_98_6, mk_pI f_98_6, mk_gL f_98_7, mk_pL f_98_7, ↓m_1, ↓m_2, i_0, i_1, i_2, i_3, i_4, i_6, i_5, i_12, i_11, i_10, i_9999, i_7, i_9, i_8, i_24, i_100, i_56, i_48, i_13, i_176, i_232, i_224, i_32, i_999, i_99, i_900, i_97, i_90, i_30, i_20, i_59, i_14, i_50, i_29, i_22, i_19, i_18, i_17, i_96, i_61, i_57, i_51, i_41, i_26, i_2552, i_255, i_25, i_23, i_21, i_16, i_15, i_122, i_10000, i_31, dzF, obs, b2_some, rz0, rz1, rzb, n01, n01', n10, n01e, nI_add, nI_mul, ↓reduceIte, not_false_eq_true, not_true_eq_false, ite_not, eqF, he, hne, mk_aIn a_50, mp2, mq2, nI_and, nI_one_shl2, nI_xor, mk_sIn a_50, u2_no, mk_aIn a_49, h2', mk_sIn a_49]
    rcases C_isTold (n := n) (J := J) hb hW hp hq with ⟨z, e⟩ | ⟨z, e⟩
    · have : v = 0 := by
        have hne : ¬ v = 1 := fun w => ht.mp w z
        omega
      exact key _ e (by rw [this]; exact fun w => by rw [n10] at w; exact w)
    · have : v = 1 := ht.mpr z
      exact key _ e (by rw [this]; exact fun w => by rw [n01e] at w; exact w)
  · intro a c k1 k2
    unfold tellI
    rw [u2_no _ _ (by omega), u2_no _ _ (by omega), u2_no _ _ (by omega)]
  · intro T' t1 t2 t3 t4
    have fr : ∀ a c, ¬ (a = b + 1 ∧ c = 13) → a ≠ b + 2 → tellI I b p q (mp ^^^ 2 ^ q) (mq ^^^ 2 ^ p) (if v = 1 then T 11 + 1 else T 11 - 1) a c = I a c := fun a c k1 k2 => by
      unfold tellI
      rw [u2_no _ _ (by omega), u2_no _ _ (by omega), u2_no _ _ (by omega)]
    refine ⟨fun k hk => ?_, ?_, fun g j hg hj => ?_, fun a j ha hj => ?_, fun s j hs hj => ?_, fun r j hr hj => ?_, fun x j hx hj => ?_, fun x hx => ?_⟩
    · rw [fr _ _ (by omega) (by omega), t1 k hk]; exact h1 k hk
    · unfold tellI
      rw [u2_at]
      congr 1
      rcases (by omega : v = 0 ∨ v = 1) with rfl | rfl
      · rw [if_neg (by decide)]; omega
      · rw [if_pos rfl]; omega
    · rw [t1 1 (by omega)] at hg
      rw [fr _ _ (by omega) (by omega), t3 _ (by omega)]; exact h3 g j hg hj
    · rw [t1 2 (by omega)] at ha
      rw [fr _ _ (by omega) (by omega), t3 _ (by omega)]; exact h4 a j ha hj
    · rw [t1 3 (by omega)] at hs
      rw [fr _ _ (by omega) (by omega), t3 _ (by omega)]; exact h5 s j hs hj
    · rw [t1 4 (by omega)] at hr
      rw [fr _ _ (by omega) (by omega), t3 _ (by omega)]; exact h6 r j hr hj
    · rw [t1 5 (by omega)] at hx
      rw [fr _ _ (by omega) (by omega), t3 _ (by omega)]; exact h7 x j hx hj
    · by_cases xp : x = p
      · subst xp
        refine ⟨mp ^^^ 2 ^ q, l1, ?_, fun y hy => ?_⟩
        · unfold tellI
          rw [u2_no _ _ (by omega), u2_no _ _ (by omega), u2_at]
        · rw [xor_bit, t4 x y]
          by_cases yq : y = q
          · subst yq
            rw [if_pos rfl, if_pos (Or.inl ⟨rfl, rfl⟩), ht, ← mp3 y hy]
            simp
          · rw [if_neg yq, if_neg (by rintro (z | z) <;> omega)]
            exact mp3 y hy
      · by_cases xq : x = q
        · subst xq
          refine ⟨mq ^^^ 2 ^ p, l2, ?_, fun y hy => ?_⟩
          · unfold tellI
            rw [u2_no _ _ (by omega), u2_at]
          · rw [xor_bit, t4 x y]
            by_cases yp : y = p
            · subst yp
              rw [if_pos rfl, if_pos (Or.inr ⟨rfl, rfl⟩), ht, ← hpq2, ← mq3 y hy]
              simp
            · rw [if_neg yp, if_neg (by rintro (z | z) <;> omega)]
              exact mq3 y hy
        · obtain ⟨m, m1, m2, m3⟩ := h8 x hx
          refine ⟨m, m1, ?_, fun y hy => ?_⟩
          · unfold tellI
            rw [u2_no _ _ (by omega), u2_no _ _ (by omega), u2_no _ _ (by omega)]
            exact m2
          · rw [t4 x y, if_neg (by rintro (z | z) <;> omega)]
            exact m3 y hy
/-- a pair comes behind -/
def adP (T : Nat → Nat) (p q : Nat) : Nat → Nat := uT (uT (uT T (12 + 2 * T 11) p) (12 + 2 * T 11 + 1) q) 11 (T 11 + 1)
/-- the k-th pair goes -/
def rmP (T : Nat → Nat) (k : Nat) : Nat → Nat := fun j => if j = 11 then T 11 - 1 else if 12 + 2 * k ≤ j ∧ j < 22 then T (j + 2) else T j
theorem adP_cases (T : Nat → Nat) (p q j : Nat) : (j = 11 ∧ adP T p q j = T 11 + 1) ∨ (j = 12 + 2 * T 11 ∧ adP T p q j = p) ∨ (j = 12 + 2 * T 11 + 1 ∧ adP T p q j = q) ∨ (j ≠ 11 ∧ j ≠ 12 + 2 * T 11 ∧ j ≠ 12 + 2 * T 11 + 1 ∧ adP T p q j = T j) := by
  unfold adP uT
  by_cases h1 : j = 11
  · rw [if_pos h1]; exact Or.inl ⟨h1, rfl⟩
  · rw [if_neg h1]
    by_cases h2 : j = 12 + 2 * T 11 + 1
    · rw [if_pos h2]; exact Or.inr (Or.inr (Or.inl ⟨h2, rfl⟩))
    · rw [if_neg h2]
      by_cases h3 : j = 12 + 2 * T 11
      · rw [if_pos h3]; exact Or.inr (Or.inl ⟨h3, rfl⟩)
      · rw [if_neg h3]; exact Or.inr (Or.inr (Or.inr ⟨h1, h3, h2, rfl⟩))
theorem rmP_cases (T : Nat → Nat) (k j : Nat) : (j = 11 ∧ rmP T k j = T 11 - 1) ∨ (j ≠ 11 ∧ 12 + 2 * k ≤ j ∧ j < 22 ∧ rmP T k j = T (j + 2)) ∨ (j ≠ 11 ∧ ¬ (12 + 2 * k ≤ j ∧ j < 22) ∧ rmP T k j = T j) := by
  unfold rmP
  by_cases h1 : j = 11
  · rw [if_pos h1]; exact Or.inl ⟨h1, rfl⟩
  · rw [if_neg h1]
    by_cases h2 : 12 + 2 * k ≤ j ∧ j < 22
    · rw [if_pos h2]; exact Or.inr (Or.inl ⟨h1, h2.1, h2.2, rfl⟩)
    · rw [if_neg h2]; exact Or.inr (Or.inr ⟨h1, h2, rfl⟩)
theorem told_ad {p q : Nat} (h11 : T 11 < 6) (x y : Nat) : told (adP T p q) x y ↔ if pr2 p q x y then True else told T x y := by
  have e11 : adP T p q 11 = T 11 + 1 := by
    have := adP_cases T p q 11; omega
  constructor
  · rintro ⟨k, hk, h⟩
    rw [e11] at hk
    by_cases hp : pr2 p q x y
    · rw [if_pos hp]; trivial
    · rw [if_neg hp]
      have a1 := adP_cases T p q (12 + 2 * k)
      have a2 := adP_cases T p q (13 + 2 * k)
      by_cases hk1 : k = T 11
      · have b1 : adP T p q (12 + 2 * k) = p := by omega
        have b2 : adP T p q (13 + 2 * k) = q := by omega
        rw [b1, b2] at h
        exact absurd (by omega) hp
      · exact ⟨k, by omega, by omega⟩
  · intro h
    by_cases hp : pr2 p q x y
    · refine ⟨T 11, by omega, ?_⟩
      have a1 := adP_cases T p q (12 + 2 * T 11)
      have a2 := adP_cases T p q (13 + 2 * T 11)
      unfold pr2 at hp
      omega
    · rw [if_neg hp] at h
      obtain ⟨k, hk, h⟩ := h
      refine ⟨k, by omega, ?_⟩
      have a1 := adP_cases T p q (12 + 2 * k)
      have a2 := adP_cases T p q (13 + 2 * k)
      omega
theorem told_rm (hT : VT T) {k p q : Nat} (hk : k < T 11) (hpq : pr2 p q (T (12 + 2 * k)) (T (13 + 2 * k))) (x y : Nat) : told (rmP T k) x y ↔ if pr2 p q x y then False else told T x y := by
  have h11 : T 11 ≤ 6 := hT.2.1.2.2.2.2.2.2
  have c2 := hT.2.2.2.1
  have e11 : rmP T k 11 = T 11 - 1 := by
    have := rmP_cases T k 11; omega
  unfold pr2 at hpq ⊢
  constructor
  · rintro ⟨i, hi, h⟩
    rw [e11] at hi
    have a1 := rmP_cases T k (12 + 2 * i)
    have a2 := rmP_cases T k (13 + 2 * i)
    by_cases hik : i < k
    · have b1 : rmP T k (12 + 2 * i) = T (12 + 2 * i) := by omega
      have b2 : rmP T k (13 + 2 * i) = T (13 + 2 * i) := by omega
      rw [b1, b2] at h
      have := c2 i k hik hk
      rw [if_neg (by omega)]
      exact ⟨i, by omega, h⟩
    · have b1 : rmP T k (12 + 2 * i) = T (12 + 2 * (i + 1)) := by
        rw [show 12 + 2 * (i + 1) = 12 + 2 * i + 2 by omega]; omega
      have b2 : rmP T k (13 + 2 * i) = T (13 + 2 * (i + 1)) := by
        rw [show 13 + 2 * (i + 1) = 13 + 2 * i + 2 by omega]; omega
      rw [b1, b2] at h
      have := c2 k (i + 1) (by omega) (by omega)
      rw [if_neg (by omega)]
      exact ⟨i + 1, by omega, h⟩
  · intro h
    by_cases hp : (x = p ∧ y = q) ∨ (x = q ∧ y = p)
    · rw [if_pos hp] at h; exact absurd h id
    · rw [if_neg hp] at h
      obtain ⟨i, hi, h⟩ := h
      have hne : i ≠ k := fun z => by subst z; omega
      by_cases hik : i < k
      · refine ⟨i, by omega, ?_⟩
        have a1 := rmP_cases T k (12 + 2 * i)
        have a2 := rmP_cases T k (13 + 2 * i)
        omega
      · obtain ⟨i, rfl⟩ : ∃ l, i = l + 1 := ⟨i - 1, by omega⟩
        refine ⟨i, by omega, ?_⟩
        have b1 : rmP T k (12 + 2 * i) = T (12 + 2 * (i + 1)) := by
          have a1 := rmP_cases T k (12 + 2 * i)
          rw [show 12 + 2 * (i + 1) = 12 + 2 * i + 2 by omega]; omega
        have b2 : rmP T k (13 + 2 * i) = T (13 + 2 * (i + 1)) := by
          have a2 := rmP_cases T k (13 + 2 * i)
          rw [show 13 + 2 * (i + 1) = 13 + 2 * i + 2 by omega]; omega
        rw [b1, b2]
        exact h
end TL
