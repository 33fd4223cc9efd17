/-! ===== 73: needs ===== -/
/-- the least near by tests, the class's way -/
def lsN (o : Nat) (m : Nat) : List Nat → Nat
  | [] => m
  | x :: l => lsN o (if x = 0 then m else min m ((((o - x) + (x - o)) * 100 + x - 1) / x)) l
section NE
variable {n g : Nat} {I : Nat → Nat → Int32} {J : Nat → Nat → Int64} {T : Nat → Nat}
theorem near_ceil {o near x : Nat} (hx : 1 ≤ x) : nearT o near x = true ↔ (((o - x) + (x - o)) * 100 + x - 1) / x ≤ near := by
  unfold nearT
  rw [decide_eq_true_iff]
  generalize (o - x) + (x - o) = a
  have e : (a * 100 + x - 1) / x ≤ near ↔ (a * 100 + x - 1) / x < near + 1 := by omega
  rw [e, Nat.div_lt_iff_lt_mul hx, Nat.add_mul, Nat.one_mul]
  omega
theorem near_zero {o near : Nat} (ho : 1 ≤ o) : nearT o near 0 = false := by
  unfold nearT
  rw [decide_eq_false_iff_not]
  omega
theorem lsN_le {o near : Nat} (ho : 1 ≤ o) : ∀ (l : List Nat) (m : Nat), lsN o m l ≤ near ↔ m ≤ near ∨ l.any (nearT o near) = true
  | [], m => by simp [lsN]
  | x :: l, m => by
    rw [lsN, lsN_le ho l, List.any_cons, Bool.or_eq_true]
    by_cases hx : x = 0
    · subst hx
      rw [if_pos rfl, near_zero ho]
      simp
    · rw [if_neg hx, near_ceil (by omega)]
      generalize (((o - x) + (x - o)) * 100 + x - 1) / x = c
      constructor
      · rintro (h | h)
        · rcases Nat.le_total m c with z | z
          · rw [Nat.min_eq_left z] at h; exact Or.inl h
          · rw [Nat.min_eq_right z] at h; exact Or.inr (Or.inl h)
        · exact Or.inr (Or.inr h)
      · rintro (h | h | h)
        · exact Or.inl (Nat.le_trans (Nat.min_le_left _ _) h)
        · exact Or.inl (Nat.le_trans (Nat.min_le_right _ _) h)
        · exact Or.inr h
theorem lmin_lN {a b : Nat} (ha : a < 2 ^ 63) (hb : b < 2 ^ 63) : lmin (lN a) (lN b) = lN (min a b) := by
  show (if lN b < lN a then lN b else lN a) = _
  by_cases h : b < a
  · rw [if_pos ((lL_lt hb ha).mpr h), Nat.min_eq_right (by omega)]
  · rw [if_neg (fun z => h ((lL_lt hb ha).mp z)), Nat.min_eq_left (by omega)]
theorem leL0 {a : Nat} (h : 1 ≤ a) (h' : a < 2 ^ 63) : (lN a ≤ lN 0) = False := eq_false (fun z => by have := (lL_le h' (by decide)).mp z; omega)
theorem own_pos (hT : VT T) {s : Nat} (hs : s < T 3) : 1 ≤ own T g s := by
  have h1 := hT.sp hs
  have h2 : 1 ≤ T (56 + 12 * s + 4) := by
    have := (hT.2.2.2.2.2.1 s hs).2.2.2.2.1
    rw [show 56 + 12 * s + 4 = 60 + 12 * s by omega]; exact this
  unfold own ownAt
  have : 1 ≤ T (56 + 12 * s + 4) * T (56 + 12 * s + 3) := Nat.mul_pos h2 h1
  omega
theorem C_lnL (hT : VT T) (h : CS T g I J) {s : Nat} (hs : s < T 3) {l : List Nat} (hl : LC I J l) (hlen : l.length ≤ 11) (hx : ∀ x ∈ l, x ≤ 300000000000000) : ∀ (k t fu m : Nat), t + k = l.length → k < fu → m ≤ 51 → mX1_leastNear_L7 fu (mk n I J) 111 (nI s) (lN m) (nI t) = some (if lsN (own T g s) m (l.drop t) ≤ 50 then nI (lsN (own T g s) m (l.drop t)) else M2, mk n I J) := by
  have b0 := hT.1
  have ho := own_le (g := g) hT hs
  have hJo := h.2.own hs
  intro k
  induction k with
  | zero =>
    intro t fu m ht hf hm
    obtain ⟨fu, rfl⟩ : ∃ f, fu = f + 1 := ⟨fu - 1, by omega⟩
    show mX1_leastNear_b7 _ _ _ _ _ _ = _
    unfold mX1_leastNear_b7
    rw [List.drop_eq_nil_of_le (by omega), lsN]
    simp (disch := omega) only [mk_oO o_111, mk_gR f_111_0, mk_gR f_111_1, mk_gR f_111_2, mk_gR f_111_3, mk_gI f_111_4, mk_pI f_111_4, mk_gI f_111_5, mk_pI f_111_5, mk_gL f_111_6, mk_pL f_111_6, mk_gI f_111_7, mk_pI f_111_7, mk_gR f_111_8, mk_gI f_111_9, mk_pI f_111_9, mk_gI f_111_10, mk_pI f_111_10, ↓m_1, ↓m_2, i_0, i_1, i_2, i_3, i_4, i_6, i_5, i_12, i_11, i_10, i_9999, i_7, i_9, i_8, i_24, i_100, i_56, i_48, i_13, i_176, i_232, i_224, i_32, i_999, i_99, i_900, i_97, i_90, i_30, i_20, i_59, i_14, i_50, i_29, i_22, i_19, i_18, i_17, i_96, i_61, i_57, i_51, i_41, i_26, i_2552, i_255, i_25, i_23, i_21, i_16, i_15, i_122, i_10000, i_31, l_50, dzF, obs, b2_some, rz0, rz1, rzb, n01, n01', n10, n01e, nI_add, nI_mul, ↓reduceIte, not_false_eq_true, not_true_eq_false, ite_not, leT, hl.1, lL_le, lN_i]
    by_cases h50 : m ≤ 50
    · rw [if_pos h50, if_pos h50]
    · rw [if_neg h50, if_neg h50]
  | succ k ih =>
    intro t fu m ht hf hm
    obtain ⟨fu, rfl⟩ : ∃ f, fu = f + 1 := ⟨fu - 1, by omega⟩
    have htl : t < l.length := by omega
    have hJ : J 113 t = lN l[t] := hl.2 t l[t] (List.getElem?_eq_getElem htl)
    have hb := hx l[t] (List.getElem_mem htl)
    rw [List.drop_eq_getElem_cons htl, lsN]
    generalize l[t] = x at hJ hb
    show mX1_leastNear_b7 _ _ _ _ _ _ = _
    unfold mX1_leastNear_b7
    by_cases hz : x = 0
    · subst hz
      have e := ih (t + 1) fu m (by omega) (by omega) hm
      rw [if_pos rfl]
      simp (disch := omega) only [mk_oO o_111, mk_gR f_111_0, mk_gR f_111_1, mk_gR f_111_2, mk_gR f_111_3, mk_gI f_111_4, mk_pI f_111_4, mk_gI f_111_5, mk_pI f_111_5, mk_gL f_111_6, mk_pL f_111_6, mk_gI f_111_7, mk_pI f_111_7, mk_gR f_111_8, mk_gI f_111_9, mk_pI f_111_9, mk_gI f_111_10, mk_pI f_111_10, ↓m_1, ↓m_2, i_0, i_1, i_2, i_3, i_4, i_6, i_5, i_12, i_11, i_10, i_9999, i_7, i_9, i_8, i_24, i_100, i_56, i_48, i_13, i_176, i_232, i_224, i_32, i_999, i_99, i_900, i_97, i_90, i_30, i_20, i_59, i_14, i_50, i_29, i_22, i_19, i_18, i_17, i_96, i_61, i_57, i_51, i_41, i_26, i_2552, i_255, i_25, i_23, i_21, i_16, i_15, i_122, i_10000, i_31, l_0, dzF, obs, b2_some, rz0, rz1, rzb, n01, n01', n10, n01e, nI_add, nI_mul, ↓reduceIte, not_false_eq_true, not_true_eq_false, ite_not, leF, hl.1, mk_aLn a_113, hJ, lL_le, Nat.le_refl]
      exact e
    · rw [if_neg hz]
      have hc : (((own T g s - x) + (x - own T g s)) * 100 + x - 1) / x < 2 ^ 63 := Nat.lt_of_le_of_lt (Nat.div_le_self _ _) (by omega)
      have e := ih (t + 1) fu (min m ((((own T g s - x) + (x - own T g s)) * 100 + x - 1) / x)) (by omega) (by omega) (Nat.le_trans (Nat.min_le_left _ _) hm)
      rw [← e]
      simp (disch := omega) only [mk_oO o_111, mk_gR f_111_0, mk_gR f_111_1, mk_gR f_111_2, mk_gR f_111_3, mk_gI f_111_4, mk_pI f_111_4, mk_gI f_111_5, mk_pI f_111_5, mk_gL f_111_6, mk_pL f_111_6, mk_gI f_111_7, mk_pI f_111_7, mk_gR f_111_8, mk_gI f_111_9, mk_pI f_111_9, mk_gI f_111_10, mk_pI f_111_10, mk_oO o_100, mk_gR f_100_0, mk_gR f_100_1, mk_gR f_100_2, mk_gI f_100_3, mk_pI f_100_3, mk_gR f_100_4, mk_gR f_100_5, mk_gR f_100_6, mk_gR f_100_7, ↓m_1, ↓m_2, i_0, i_1, i_2, i_3, i_4, i_6, i_5, i_12, i_11, i_10, i_9999, i_7, i_9, i_8, i_24, i_100, i_56, i_48, i_13, i_176, i_232, i_224, i_32, i_999, i_99, i_900, i_97, i_90, i_30, i_20, i_59, i_14, i_50, i_29, i_22, i_19, i_18, i_17, i_96, i_61, i_57, i_51, i_41, i_26, i_2552, i_255, i_25, i_23, i_21, i_16, i_15, i_122, i_10000, i_31, l_0, l_1, l_100, dzF, obs, b2_some, rz0, rz1, rzb, n01, n01', n10, n01e, nI_add, nI_mul, ↓reduceIte, not_false_eq_true, not_true_eq_false, ite_not, leF, hl.1, mk_aLn a_113, mk_aLn a_109, hJ, hJo, leL0, labs_sub, lN_mul, lN_add, lN_sub, C_cut, lmin_lN]
theorem C_leastNear (hT : VT T) (h : CS T g I J) {s : Nat} (hs : s < T 3) {l : List Nat} (hl : LC I J l) (hlen : l.length ≤ 11) (hx : ∀ x ∈ l, x ≤ 300000000000000) : mX1_leastNear (mk n I J) 111 (nI s) = some (if lsN (own T g s) 51 l ≤ 50 then nI (lsN (own T g s) 51 l) else M2, mk n I J) := by
  unfold mX1_leastNear
  rw [mk_oO o_111]
  exact C_lnL hT h hs hl hlen hx l.length 0 FU 51 (by omega) (by unfold FU; omega) (by omega)
theorem R_needL {l : List Nat} (h : LT I J l) (hl : l.length ≤ 11) (hx : ∀ x ∈ l, x ≤ 300000000000000) {o : Nat} (ho : o ≤ 300000000000000) (ho1 : 1 ≤ o) : ∀ (k t fu : Nat), t + k = 51 → k < fu → t ≤ lsN o 51 l → mX10_needs_L29 fu (mk n I J) 224 (lN o) (nI t) = some (if lsN o 51 l ≤ 50 then nI (lsN o 51 l) else M2, mk n I J) := by
  intro k
  induction k with
  | zero =>
    intro t fu ht hf hm
    obtain ⟨fu, rfl⟩ : ∃ f, fu = f + 1 := ⟨fu - 1, by omega⟩
    show mX10_needs_b29 _ _ _ _ _ = _
    unfold mX10_needs_b29
    rw [show (if lsN o 51 l ≤ 50 then nI (lsN o 51 l) else M2) = M2 from if_neg (by omega)]
    simp (disch := omega) only [↓m_1, ↓m_2, i_0, i_1, i_2, i_3, i_4, i_6, i_5, i_12, i_11, i_10, i_9999, i_7, i_9, i_8, i_24, i_100, i_56, i_48, i_13, i_176, i_232, i_224, i_32, i_999, i_99, i_900, i_97, i_90, i_30, i_20, i_59, i_14, i_50, i_29, i_22, i_19, i_18, i_17, i_96, i_61, i_57, i_51, i_41, i_26, i_2552, i_255, i_25, i_23, i_21, i_16, i_15, i_122, i_10000, i_31, dzF, obs, b2_some, rz0, rz1, rzb, n01, n01', n10, n01e, nI_add, nI_mul, ↓reduceIte, not_false_eq_true, not_true_eq_false, ite_not, ltT]
  | succ k ih =>
    intro t fu ht hf hm
    obtain ⟨fu, rfl⟩ : ∃ f, fu = f + 1 := ⟨fu - 1, by omega⟩
    have e1 := R_isNear (n := n) h hl hx ho (near := t) (by omega)
    have e2 := lsN_le (near := t) ho1 l 51
    show mX10_needs_b29 _ _ _ _ _ = _
    unfold mX10_needs_b29
    by_cases hc : l.any (nearT o t) = true
    · have : lsN o 51 l = t := by have := e2.mpr (Or.inr hc); omega
      rw [this, show (if t ≤ 50 then nI t else M2) = nI t from if_pos (by omega)]
      simp (disch := omega) only [↓m_1, ↓m_2, i_0, i_1, i_2, i_3, i_4, i_6, i_5, i_12, i_11, i_10, i_9999, i_7, i_9, i_8, i_24, i_100, i_56, i_48, i_13, i_176, i_232, i_224, i_32, i_999, i_99, i_900, i_97, i_90, i_30, i_20, i_59, i_14, i_50, i_29, i_22, i_19, i_18, i_17, i_96, i_61, i_57, i_51, i_41, i_26, i_2552, i_255, i_25, i_23, i_21, i_16, i_15, i_122, i_10000, i_31, dzF, obs, b2_some, rz0, rz1, rzb, n01, n01', n10, n01e, nI_add, nI_mul, ↓reduceIte, not_false_eq_true, not_true_eq_false, ite_not, ltF, e1, if_pos hc]
    · have hlt : t + 1 ≤ lsN o 51 l := by
        have : ¬ lsN o 51 l ≤ t := fun z => by
          rcases e2.mp z with w | w
          · omega
          · exact hc w
        omega
      have e := ih (t + 1) fu (by omega) (by omega) hlt
      simp (disch := omega) only [↓m_1, ↓m_2, i_0, i_1, i_2, i_3, i_4, i_6, i_5, i_12, i_11, i_10, i_9999, i_7, i_9, i_8, i_24, i_100, i_56, i_48, i_13, i_176, i_232, i_224, i_32, i_999, i_99, i_900, i_97, i_90, i_30, i_20, i_59, i_14, i_50, i_29, i_22, i_19, i_18, i_17, i_96, i_61, i_57, i_51, i_41, i_26, i_2552, i_255, i_25, i_23, i_21, i_16, i_15, i_122, i_10000, i_31, dzF, obs, b2_some, rz0, rz1, rzb, n01, n01', n10, n01e, nI_add, nI_mul, ↓reduceIte, not_false_eq_true, not_true_eq_false, ite_not, ltF, e1, if_neg hc]
      exact e
end NE
set_option maxHeartbeats 4000000 in
theorem sim_needs : SIM_needs Inv 0 224 := by
  intro h c1 hI
  obtain ⟨n, I, J, rfl, hI⟩ := hI
  obtain ⟨T, hT, hW, hR⟩ := hI.use
  have b0 := hT.1
  have hR0 := hR.th (nI 0)
  unfold mX9_needs mX10_needs
  by_cases h1 : ixB c1 (T 3)
  · obtain ⟨s, hs, rfl⟩ := ixB_of (by omega) h1
    obtain ⟨I1, J1, e1, f1, j1, l1⟩ := C_llook (n := n) (J := J) (g := 10) hT hW
    obtain ⟨I2, J2, e2, f2, c2⟩ := C_gatherTests (n := n) hT l1.1 hs
    have e1' : mX1_look (mk n I J) 111 M1 = some (mk n I1 J1) := e1
    have s2 := scrt.gat f1 j1 f2
    have hR1 := (hR.sc s2).th (nI 0)
    obtain ⟨I3, J3, e3, q3, l3⟩ := R_laysTests (n := n) (J := J2) hT hR1 hs
    obtain ⟨I4, e4, f4⟩ := R_ownOf (n := n) (J := J3) hT (hR1.qf q3) hs
    have e5 := C_leastNear (n := n) hT (l1.1.gf hT f2) hs c2 (tests_len hT hs) (tests_le hT hs)
    have ho := own_le (g := 10) hT hs
    have e6 := R_needL (n := n) (l3.fa f4) (tests_len hT hs) (tests_le hT hs) (o := own T 10 s) (by omega) (own_pos hT hs) 51 0 FU (by omega) (by unfold FU; omega) (Nat.zero_le _)
    refine ⟨if lsN (own T 10 s) 51 (tests T 10 s) ≤ 50 then nI (lsN (own T 10 s) 51 (tests T 10 s)) else M2, mk n I2 J2, mk n I4 J3, ?_, ?_, hI.finQ s2 (q3.trans (QF.fa f4))⟩
    · simp (disch := omega) only [mk_oO o_0, mk_oO o_1, mk_oO o_3, mk_gR f_0_0, mk_gR f_0_1, mk_gR f_0_2, mk_gR f_0_3, mk_gR f_0_4, mk_gR f_0_5, mk_gR f_0_6, mk_gR f_0_7, mk_gR f_0_8, mk_gR f_0_9, mk_gI f_0_10, mk_pI f_0_10, mk_gR f_1_0, mk_gI f_1_1, mk_pI f_1_1, mk_gR f_3_0, mk_gR f_3_1, mk_gR f_3_2, mk_gR f_3_3, mk_gR f_3_4, mk_gR f_3_5, mk_gR f_3_6, mk_gR f_3_7, mk_oO o_111, mk_gR f_111_0, mk_gR f_111_1, mk_gR f_111_2, mk_gR f_111_3, mk_gI f_111_4, mk_pI f_111_4, mk_gI f_111_5, mk_pI f_111_5, mk_gL f_111_6, mk_pL f_111_6, mk_gI f_111_7, mk_pI f_111_7, mk_gR f_111_8, mk_gI f_111_9, mk_pI f_111_9, mk_gI f_111_10, mk_pI f_111_10, ↓m_1, ↓m_2, i_0, i_1, i_2, i_3, i_4, i_6, i_5, i_12, i_11, i_10, i_9999, i_7, i_9, i_8, i_24, i_100, i_56, i_48, i_13, i_176, i_232, i_224, i_32, i_999, i_99, i_900, i_97, i_90, i_30, i_20, i_59, i_14, i_50, i_29, i_22, i_19, i_18, i_17, i_96, i_61, i_57, i_51, i_41, i_26, i_2552, i_255, i_25, i_23, i_21, i_16, i_15, i_122, i_10000, i_31, dzF, obs, b2_some, rz0, rz1, rzb, n01, n01', n10, n01e, nI_add, nI_mul, ↓reduceIte, not_false_eq_true, not_true_eq_false, ite_not, has1 hT hW, e1', e2, e5]
    · simp (disch := omega) only [mk_oO o_224, mk_gI f_224_0, mk_pI f_224_0, mk_gR f_224_1, mk_gR f_224_2, mk_gR f_224_3, mk_gR f_224_4, mk_gR f_224_5, mk_gI f_224_6, mk_pI f_224_6, mk_gR f_224_7, mk_gI f_224_8, mk_pI f_224_8, mk_gI f_224_9, mk_pI f_224_9, mk_gI f_224_10, mk_pI f_224_10, mk_gI f_224_11, mk_pI f_224_11, mk_gI f_224_12, mk_pI f_224_12, mk_gI f_224_13, mk_pI f_224_13, mk_gL f_224_14, mk_pL f_224_14, mk_gI f_224_15, mk_pI f_224_15, mk_gI f_224_16, mk_pI f_224_16, mk_gR f_224_17, mk_gR f_224_18, mk_gR f_224_19, mk_gI f_224_20, mk_pI f_224_20, mk_gR f_224_21, mk_gI f_224_22, mk_pI f_224_22, mk_gI f_224_23, mk_pI f_224_23, mk_gI f_224_24, mk_pI f_224_24, mk_gI f_224_25, mk_pI f_224_25, mk_gR f_224_26, mk_gI f_224_27, mk_pI f_224_27, mk_gI f_224_28, mk_pI f_224_28, mk_gR f_224_29, mk_gI f_224_30, mk_pI f_224_30, mk_gI f_224_31, mk_pI f_224_31, mk_gR f_224_32, mk_gI f_224_33, mk_pI f_224_33, ↓m_1, ↓m_2, i_0, i_1, i_2, i_3, i_4, i_6, i_5, i_12, i_11, i_10, i_9999, i_7, i_9, i_8, i_24, i_100, i_56, i_48, i_13, i_176, i_232, i_224, i_32, i_999, i_99, i_900, i_97, i_90, i_30, i_20, i_59, i_14, i_50, i_29, i_22, i_19, i_18, i_17, i_96, i_61, i_57, i_51, i_41, i_26, i_2552, i_255, i_25, i_23, i_21, i_16, i_15, i_122, i_10000, i_31, dzF, obs, b2_some, rz0, rz1, rzb, n01, n01', n10, n01e, nI_add, nI_mul, ↓reduceIte, not_false_eq_true, not_true_eq_false, ite_not, isSale1 hT hR1, e3, e4]
      exact e6
  · refine ⟨M1, mk n I J, _, ?_, ?_, hI.fin0 (n := n) (x := nI 0) (scrt.refl I J)⟩
    · simp (disch := omega) only [mk_oO o_0, mk_oO o_1, mk_oO o_3, mk_gR f_0_0, mk_gR f_0_1, mk_gR f_0_2, mk_gR f_0_3, mk_gR f_0_4, mk_gR f_0_5, mk_gR f_0_6, mk_gR f_0_7, mk_gR f_0_8, mk_gR f_0_9, mk_gI f_0_10, mk_pI f_0_10, mk_gR f_1_0, mk_gI f_1_1, mk_pI f_1_1, mk_gR f_3_0, mk_gR f_3_1, mk_gR f_3_2, mk_gR f_3_3, mk_gR f_3_4, mk_gR f_3_5, mk_gR f_3_6, mk_gR f_3_7, ↓m_1, ↓m_2, i_0, i_1, i_2, i_3, i_4, i_6, i_5, i_12, i_11, i_10, i_9999, i_7, i_9, i_8, i_24, i_100, i_56, i_48, i_13, i_176, i_232, i_224, i_32, i_999, i_99, i_900, i_97, i_90, i_30, i_20, i_59, i_14, i_50, i_29, i_22, i_19, i_18, i_17, i_96, i_61, i_57, i_51, i_41, i_26, i_2552, i_255, i_25, i_23, i_21, i_16, i_15, i_122, i_10000, i_31, dzF, obs, b2_some, rz0, rz1, rzb, n01, n01', n10, n01e, nI_add, nI_mul, ↓reduceIte, not_false_eq_true, not_true_eq_false, ite_not, has0 hT hW (k := 3) (by decide) h1]
    · simp (disch := omega) only [mk_oO o_224, mk_gI f_224_0, mk_pI f_224_0, mk_gR f_224_1, mk_gR f_224_2, mk_gR f_224_3, mk_gR f_224_4, mk_gR f_224_5, mk_gI f_224_6, mk_pI f_224_6, mk_gR f_224_7, mk_gI f_224_8, mk_pI f_224_8, mk_gI f_224_9, mk_pI f_224_9, mk_gI f_224_10, mk_pI f_224_10, mk_gI f_224_11, mk_pI f_224_11, mk_gI f_224_12, mk_pI f_224_12, mk_gI f_224_13, mk_pI f_224_13, mk_gL f_224_14, mk_pL f_224_14, mk_gI f_224_15, mk_pI f_224_15, mk_gI f_224_16, mk_pI f_224_16, mk_gR f_224_17, mk_gR f_224_18, mk_gR f_224_19, mk_gI f_224_20, mk_pI f_224_20, mk_gR f_224_21, mk_gI f_224_22, mk_pI f_224_22, mk_gI f_224_23, mk_pI f_224_23, mk_gI f_224_24, mk_pI f_224_24, mk_gI f_224_25, mk_pI f_224_25, mk_gR f_224_26, mk_gI f_224_27, mk_pI f_224_27, mk_gI f_224_28, mk_pI f_224_28, mk_gR f_224_29, mk_gI f_224_30, mk_pI f_224_30, mk_gI f_224_31, mk_pI f_224_31, mk_gR f_224_32, mk_gI f_224_33, mk_pI f_224_33, ↓m_1, ↓m_2, i_0, i_1, i_2, i_3, i_4, i_6, i_5, i_12, i_11, i_10, i_9999, i_7, i_9, i_8, i_24, i_100, i_56, i_48, i_13, i_176, i_232, i_224, i_32, i_999, i_99, i_900, i_97, i_90, i_30, i_20, i_59, i_14, i_50, i_29, i_22, i_19, i_18, i_17, i_96, i_61, i_57, i_51, i_41, i_26, i_2552, i_255, i_25, i_23, i_21, i_16, i_15, i_122, i_10000, i_31, dzF, obs, b2_some, rz0, rz1, rzb, n01, n01', n10, n01e, nI_add, nI_mul, ↓reduceIte, not_false_eq_true, not_true_eq_false, ite_not, isSale0 hT hR0 h1]
