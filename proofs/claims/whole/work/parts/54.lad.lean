/-! ===== 54: the ladder: tests, and who passes by itself ===== -/
def SD (a c : Nat) : Prop := 111 ≤ a ∧ a ≤ 117
def SDJ (a : Nat) : Prop := a = 111 ∨ a = 113
def SG (a c : Nat) : Prop := a = 111 ∧ c = 4
def SGJ (a : Nat) : Prop := a = 113
theorem Fx.sub {S S' : Nat → Nat → Prop} {I I' : Nat → Nat → Int32} (h : Fx S I I') (hs : ∀ a c, S a c → S' a c) : Fx S' I I' := h.mono hs
theorem FJ.sub {S S' : Nat → Prop} {J J' : Nat → Nat → Int64} (h : FJ S J J') (hs : ∀ a, S a → S' a) : FJ S' J J' := fun a c hn => h a c (fun z => hn (hs a z))
theorem SG_SD (a c : Nat) (h : SG a c) : SD a c := by unfold SG at h; unfold SD; omega
theorem SGJ_SDJ (a : Nat) (h : SGJ a) : SDJ a := Or.inr h
theorem SD_SC (a c : Nat) (h : SD a c) : SC a c := by unfold SD at h; unfold SC; omega
theorem SDJ_SCJ (a : Nat) (h : SDJ a) : SCJ a := Or.inr h
/-- world and ledger -/
def CS (T : Nat → Nat) (g : Nat) (I : Nat → Nat → Int32) (J : Nat → Nat → Int64) : Prop := WR I 3 T ∧ LG T g I J
theorem CS.fd {T : Nat → Nat} {g : Nat} {I I' : Nat → Nat → Int32} {J J' : Nat → Nat → Int64} (h : CS T g I J) (hT : VT T) (hI : Fx SD I I') (hJ : FJ SDJ J J') : CS T g I' J' := by
  have b0 := hT.1
  refine ⟨h.1.fc hT (hI.mono SD_SC), ?_, fun p hp => ?_, fun s hs => ?_, fun s hs => ?_, fun a s ha hs => ?_, fun s hs => ?_, fun s hs => ?_⟩
  · rw [hI _ _ (by unfold SD; omega)]; exact h.2.1
  · obtain ⟨m, m1, m2, m3⟩ := h.2.2.1 p hp
    exact ⟨m, m1, by rw [hI _ _ (by unfold SD; omega)]; exact m2, m3⟩
  · rw [hI _ _ (by unfold SD; omega)]; exact h.2.2.2.1 s hs
  · rw [hI _ _ (by unfold SD; omega)]; exact h.2.2.2.2.1 s hs
  · rw [hI _ _ (by unfold SD; omega)]; exact h.2.2.2.2.2.1 a s ha hs
  · rw [hJ _ _ (by unfold SDJ; omega)]; exact h.2.2.2.2.2.2.1 s hs
  · rw [hI _ _ (by unfold SD; omega)]; exact h.2.2.2.2.2.2.2 s hs
/-- the tests lie in the ladder -/
def LC (I : Nat → Nat → Int32) (J : Nat → Nat → Int64) (l : List Nat) : Prop := I 111 4 = nI l.length ∧ ∀ k x, l[k]? = some x → J 113 k = lN x
theorem LC.add {I : Nat → Nat → Int32} {J : Nat → Nat → Int64} {l : List Nat} (h : LC I J l) (x : Nat) : LC (u2 I 111 4 (nI (l.length + 1))) (u2 J 113 l.length (lN x)) (l ++ [x]) := by
  refine ⟨by rw [u2_at, List.length_append]; rfl, fun k y hk => ?_⟩
  by_cases hk1 : k < l.length
  · rw [List.getElem?_append_left hk1] at hk
    rw [u2_no _ _ (by omega)]
    exact h.2 k y hk
  · rw [List.getElem?_append_right (by omega)] at hk
    have hk2 : k = l.length := by
      have := (List.getElem?_eq_some_iff.mp hk).1
      simp only [List.length_cons, List.length_nil] at this
      omega
    subst hk2
    simp only [Nat.sub_self, List.getElem?_cons_zero, Option.some.injEq] at hk
    rw [u2_at, hk]
theorem labs_sub {o x : Nat} (ho : o < 2 ^ 62) (hx : x < 2 ^ 62) : labs (lN o - lN x) = lN ((o - x) + (x - o)) := by
  unfold labs
  by_cases h : x < o
  · have e : lN o - lN x = lN (o - x) := lN_sub (by omega)
    rw [e, if_pos (show (0 : Int64) < lN (o - x) from (lL_lt (a := 0) (by decide) (by omega)).mpr (by omega)), show x - o = 0 by omega, Nat.add_zero]
  · have e : lN o - lN x = -(lN (x - o)) := by rw [← lN_sub (by omega), Int64.neg_sub]
    have h1 : (-(lN (x - o))).toInt = -((x - o : Nat) : Int) := by
      rw [Int64.toInt_neg, lL_toInt (by omega)]
      apply Int.bmod_eq_of_le <;> omega
    rw [e, if_neg (fun z => by rw [Int64.lt_iff_toInt_lt, h1] at z; exact absurd (show (0 : Int) < -((x - o : Nat) : Int) from z) (by omega)), Int64.neg_neg, show o - x = 0 by omega, Nat.zero_add]
theorem mabs_sub {a b : Nat} (ha : a < 2 ^ 30) (hb : b < 2 ^ 30) : mabs (nI a - nI b) = nI ((a - b) + (b - a)) := by
  unfold mabs
  by_cases h : b ≤ a
  · rw [nI_sub h, if_pos (show (0 : Int32) ≤ nI (a - b) from nI_pos' (by omega)), show b - a = 0 by omega, Nat.add_zero]
  · rw [if_neg (fun z => by rw [Int32.le_iff_toInt_le, sub_toInt ha hb] at z; exact absurd (show (0 : Int) ≤ (a : Int) - b from z) (by omega)), Int32.zero_sub, Int32.neg_sub, nI_sub (by omega), show a - b = 0 by omega, Nat.zero_add]
section LA
variable {n g : Nat} {I : Nat → Nat → Int32} {J : Nat → Nat → Int64} {T : Nat → Nat}
theorem C_isAnother (h : CS T g I J) {s t : Nat} (hs : s < 10) (ht : t < 10) : mX2_isAnother (mk n I J) 100 (nI s) (nI t) = some (nI (if ¬ t = s ∧ ¬ t = g then 1 else 0), mk n I J) := by
  have hg := h.2.1
  unfold mX2_isAnother
  by_cases c1 : t = s
  · simp (disch := omega) only [mk_oO o_100, mk_gR f_100_0, mk_gR f_100_1, mk_gR f_100_2, mk_gI f_100_3, mk_pI f_100_3, mk_gR f_100_4, mk_gR f_100_5, mk_gR f_100_6, mk_gR f_100_7, ↓m_1, ↓m_2, i_0, i_1, i_2, i_3, i_4, i_6, i_5, i_12, i_11, i_10, i_9999, i_7, i_9, i_8, i_24, i_100, i_56, i_48, i_13, i_176, i_232, i_224, i_32, i_999, i_99, i_900, i_97, i_90, i_30, i_20, i_59, i_14, i_50, i_29, i_22, i_19, i_18, i_17, i_96, i_61, i_57, i_51, i_41, i_26, i_2552, i_255, i_25, i_23, i_21, i_16, i_15, i_122, i_10000, i_31, dzF, obs, b2_some, rz0, rz1, rzb, n01, n01', n10, n01e, nI_add, nI_mul, ↓reduceIte, not_false_eq_true, not_true_eq_false, ite_not, eqT, c1, not_true_eq_false, false_and]
  · by_cases c2 : t = g
    · simp (disch := omega) only [mk_oO o_100, mk_gR f_100_0, mk_gR f_100_1, mk_gR f_100_2, mk_gI f_100_3, mk_pI f_100_3, mk_gR f_100_4, mk_gR f_100_5, mk_gR f_100_6, mk_gR f_100_7, ↓m_1, ↓m_2, i_0, i_1, i_2, i_3, i_4, i_6, i_5, i_12, i_11, i_10, i_9999, i_7, i_9, i_8, i_24, i_100, i_56, i_48, i_13, i_176, i_232, i_224, i_32, i_999, i_99, i_900, i_97, i_90, i_30, i_20, i_59, i_14, i_50, i_29, i_22, i_19, i_18, i_17, i_96, i_61, i_57, i_51, i_41, i_26, i_2552, i_255, i_25, i_23, i_21, i_16, i_15, i_122, i_10000, i_31, dzF, obs, b2_some, rz0, rz1, rzb, n01, n01', n10, n01e, nI_add, nI_mul, ↓reduceIte, not_false_eq_true, not_true_eq_false, ite_not, eqF, hg, goN_eq, if_pos c2]
      rw [if_neg (fun z => z.2 c2)]
    · simp (disch := omega) only [mk_oO o_100, mk_gR f_100_0, mk_gR f_100_1, mk_gR f_100_2, mk_gI f_100_3, mk_pI f_100_3, mk_gR f_100_4, mk_gR f_100_5, mk_gR f_100_6, mk_gR f_100_7, ↓m_1, ↓m_2, i_0, i_1, i_2, i_3, i_4, i_6, i_5, i_12, i_11, i_10, i_9999, i_7, i_9, i_8, i_24, i_100, i_56, i_48, i_13, i_176, i_232, i_224, i_32, i_999, i_99, i_900, i_97, i_90, i_30, i_20, i_59, i_14, i_50, i_29, i_22, i_19, i_18, i_17, i_96, i_61, i_57, i_51, i_41, i_26, i_2552, i_255, i_25, i_23, i_21, i_16, i_15, i_122, i_10000, i_31, dzF, obs, b2_some, rz0, rz1, rzb, n01, n01', n10, n01e, nI_add, nI_mul, ↓reduceIte, not_false_eq_true, not_true_eq_false, ite_not, eqF, hg, goN_eq, if_neg c2]
      rw [if_pos ⟨c1, c2⟩]
theorem C_isAmongKin (hT : VT T) (h : CS T g I J) {s : Nat} (hs : s < T 3) : mX2_isAmongKin (mk n I J) 100 (nI s) = some (nI (if btw T s then 1 else 0), mk n I J) := by
  have b0 := hT.1
  have e := h.2.2.2.1 s hs
  unfold mX2_isAmongKin
  simp (disch := omega) only [mk_oO o_100, mk_gR f_100_0, mk_gR f_100_1, mk_gR f_100_2, mk_gI f_100_3, mk_pI f_100_3, mk_gR f_100_4, mk_gR f_100_5, mk_gR f_100_6, mk_gR f_100_7, ↓m_1, ↓m_2, i_0, i_1, i_2, i_3, i_4, i_6, i_5, i_12, i_11, i_10, i_9999, i_7, i_9, i_8, i_24, i_100, i_56, i_48, i_13, i_176, i_232, i_224, i_32, i_999, i_99, i_900, i_97, i_90, i_30, i_20, i_59, i_14, i_50, i_29, i_22, i_19, i_18, i_17, i_96, i_61, i_57, i_51, i_41, i_26, i_2552, i_255, i_25, i_23, i_21, i_16, i_15, i_122, i_10000, i_31, dzF, obs, b2_some, rz0, rz1, rzb, n01, n01', n10, n01e, nI_add, nI_mul, ↓reduceIte, not_false_eq_true, not_true_eq_false, ite_not, mk_aIn a_102, e]
theorem C_isInWindow (hT : VT T) (h : CS T g I J) {s t : Nat} (hs : s < T 3) (ht : t < T 3) : mX2_isInWindow (mk n I J) 100 (nI s) (nI t) = some (nI (if nearDay T s t then 1 else 0), mk n I J) := by
  have b0 := hT.1
  have c1 := hT.le (56 + 12 * s + 5)
  have c2 := hT.le (56 + 12 * t + 5)
  have c3 := hT.le 7
  have hW := h.1
  have e : mabs (nI (T (56 + 12 * s + 5)) - nI (T (56 + 12 * t + 5))) = _ := mabs_sub (by omega) (by omega)
  unfold mX2_isInWindow
  simp (disch := omega) only [mk_oO o_100, mk_gR f_100_0, mk_gR f_100_1, mk_gR f_100_2, mk_gI f_100_3, mk_pI f_100_3, mk_gR f_100_4, mk_gR f_100_5, mk_gR f_100_6, mk_gR f_100_7, mk_oO o_0, mk_oO o_1, mk_oO o_3, mk_gR f_0_0, mk_gR f_0_1, mk_gR f_0_2, mk_gR f_0_3, mk_gR f_0_4, mk_gR f_0_5, mk_gR f_0_6, mk_gR f_0_7, mk_gR f_0_8, mk_gR f_0_9, mk_gI f_0_10, mk_pI f_0_10, mk_gR f_1_0, mk_gI f_1_1, mk_pI f_1_1, mk_gR f_3_0, mk_gR f_3_1, mk_gR f_3_2, mk_gR f_3_3, mk_gR f_3_4, mk_gR f_3_5, mk_gR f_3_6, mk_gR f_3_7, ↓m_1, ↓m_2, i_0, i_1, i_2, i_3, i_4, i_6, i_5, i_12, i_11, i_10, i_9999, i_7, i_9, i_8, i_24, i_100, i_56, i_48, i_13, i_176, i_232, i_224, i_32, i_999, i_99, i_900, i_97, i_90, i_30, i_20, i_59, i_14, i_50, i_29, i_22, i_19, i_18, i_17, i_96, i_61, i_57, i_51, i_41, i_26, i_2552, i_255, i_25, i_23, i_21, i_16, i_15, i_122, i_10000, i_31, dzF, obs, b2_some, rz0, rz1, rzb, n01, n01', n10, n01e, nI_add, nI_mul, ↓reduceIte, not_false_eq_true, not_true_eq_false, ite_not, R_18, CW_s hT hW, CW_t hW, e, nI_ltI]
  by_cases hc : nearDay T s t
  · rw [if_pos hc, if_neg (by omega)]
  · rw [if_neg hc, if_pos (by omega)]
theorem C_measure (hT : VT T) (h : CS T g I J) {s : Nat} (hs : s < T 3) : mX2_measure (mk n I J) 100 (nI s) = some (lN (T (56 + 12 * s + 3) * (100 - less T s)), mk n I J) := by
  have b0 := hT.1
  have hW := h.1
  have e := h.2.2.2.2.1 s hs
  have c1 := lvl_le hT s
  have c2 := less_le hT s
  have c4 : lvl T s ≤ T 5 := lvN_le _ _
  unfold mX2_measure mX2_measure_b28
  by_cases hz : lvl T s = 0
  · have hl : less T s = 0 := if_pos hz
    simp (disch := omega) only [mk_oO o_100, mk_gR f_100_0, mk_gR f_100_1, mk_gR f_100_2, mk_gI f_100_3, mk_pI f_100_3, mk_gR f_100_4, mk_gR f_100_5, mk_gR f_100_6, mk_gR f_100_7, mk_oO o_0, mk_oO o_1, mk_oO o_3, mk_gR f_0_0, mk_gR f_0_1, mk_gR f_0_2, mk_gR f_0_3, mk_gR f_0_4, mk_gR f_0_5, mk_gR f_0_6, mk_gR f_0_7, mk_gR f_0_8, mk_gR f_0_9, mk_gI f_0_10, mk_pI f_0_10, mk_gR f_1_0, mk_gI f_1_1, mk_pI f_1_1, mk_gR f_3_0, mk_gR f_3_1, mk_gR f_3_2, mk_gR f_3_3, mk_gR f_3_4, mk_gR f_3_5, mk_gR f_3_6, mk_gR f_3_7, ↓m_1, ↓m_2, i_0, i_1, i_2, i_3, i_4, i_6, i_5, i_12, i_11, i_10, i_9999, i_7, i_9, i_8, i_24, i_100, i_56, i_48, i_13, i_176, i_232, i_224, i_32, i_999, i_99, i_900, i_97, i_90, i_30, i_20, i_59, i_14, i_50, i_29, i_22, i_19, i_18, i_17, i_96, i_61, i_57, i_51, i_41, i_26, i_2552, i_255, i_25, i_23, i_21, i_16, i_15, i_122, i_10000, i_31, dzF, obs, b2_some, rz0, rz1, rzb, n01, n01', n10, n01e, nI_add, nI_mul, ↓reduceIte, not_false_eq_true, not_true_eq_false, ite_not, mk_aIn a_103, e, hz, R_18, CW_s hT hW, nI_sub, nI_l, nI_l (hT.l31 _), lN_mul, hl]
  · have hl : less T s = T (224 + 2 * (lvl T s - 1) + 1) := by
      unfold less
      rw [if_neg hz, show 224 + 2 * lvl T s - 1 = 224 + 2 * (lvl T s - 1) + 1 by omega]
    rw [hl] at c2
    simp (disch := omega) only [mk_oO o_100, mk_gR f_100_0, mk_gR f_100_1, mk_gR f_100_2, mk_gI f_100_3, mk_pI f_100_3, mk_gR f_100_4, mk_gR f_100_5, mk_gR f_100_6, mk_gR f_100_7, mk_oO o_0, mk_oO o_1, mk_oO o_3, mk_gR f_0_0, mk_gR f_0_1, mk_gR f_0_2, mk_gR f_0_3, mk_gR f_0_4, mk_gR f_0_5, mk_gR f_0_6, mk_gR f_0_7, mk_gR f_0_8, mk_gR f_0_9, mk_gI f_0_10, mk_pI f_0_10, mk_gR f_1_0, mk_gI f_1_1, mk_pI f_1_1, mk_gR f_3_0, mk_gR f_3_1, mk_gR f_3_2, mk_gR f_3_3, mk_gR f_3_4, mk_gR f_3_5, mk_gR f_3_6, mk_gR f_3_7, ↓m_1, ↓m_2, i_0, i_1, i_2, i_3, i_4, i_6, i_5, i_12, i_11, i_10, i_9999, i_7, i_9, i_8, i_24, i_100, i_56, i_48, i_13, i_176, i_232, i_224, i_32, i_999, i_99, i_900, i_97, i_90, i_30, i_20, i_59, i_14, i_50, i_29, i_22, i_19, i_18, i_17, i_96, i_61, i_57, i_51, i_41, i_26, i_2552, i_255, i_25, i_23, i_21, i_16, i_15, i_122, i_10000, i_31, dzF, obs, b2_some, rz0, rz1, rzb, n01, n01', n10, n01e, nI_add, nI_mul, ↓reduceIte, not_false_eq_true, not_true_eq_false, ite_not, mk_aIn a_103, e, eqF, nI_sub, R_43, CW_q hT hW, R_18, CW_s hT hW, nI_l, nI_l (hT.l31 _), lN_mul, hl]
theorem C_brought (hT : VT T) (h : CS T g I J) {s t : Nat} (hs : s < T 3) (ht : t < T 3) : mX2_brought (mk n I J) 100 (nI s) (nI t) = some (lN (brought T g s t), mk n I J) := by
  have b0 := hT.1
  have e := h.2.2.2.2.2.2.1 t ht
  have c3 := br_num (g := g) hT (s := s) ht
  have c4 := br_den hT ht
  rw [Nat.mul_assoc] at c3
  unfold mX2_brought brought
  rw [Nat.mul_assoc (own T g t)]
  simp (disch := omega) only [mk_oO o_100, mk_gR f_100_0, mk_gR f_100_1, mk_gR f_100_2, mk_gI f_100_3, mk_pI f_100_3, mk_gR f_100_4, mk_gR f_100_5, mk_gR f_100_6, mk_gR f_100_7, ↓m_1, ↓m_2, i_0, i_1, i_2, i_3, i_4, i_6, i_5, i_12, i_11, i_10, i_9999, i_7, i_9, i_8, i_24, i_100, i_56, i_48, i_13, i_176, i_232, i_224, i_32, i_999, i_99, i_900, i_97, i_90, i_30, i_20, i_59, i_14, i_50, i_29, i_22, i_19, i_18, i_17, i_96, i_61, i_57, i_51, i_41, i_26, i_2552, i_255, i_25, i_23, i_21, i_16, i_15, i_122, i_10000, i_31, dzF, obs, b2_some, rz0, rz1, rzb, n01, n01', n10, n01e, nI_add, nI_mul, ↓reduceIte, not_false_eq_true, not_true_eq_false, ite_not, mk_aLn a_109, e, C_measure hT h, lN_mul, C_cut]
theorem C_resoldWorth (hT : VT T) (h : CS T g I J) {s : Nat} (hs : s < T 3) : mX2_resoldWorth (mk n I J) 100 (nI s) = some (if rsP T s = 0 then K1 else lN (rsV T s), mk n I J) := by
  have b0 := hT.1
  have b2 := hT.2.1
  have hW := h.1
  have e := h.2.2.2.2.2.2.2 s hs
  have c5 := rsP_le hT s
  have c6 := hT.le (56 + 12 * s + 3)
  have c7 : T (56 + 12 * s + 3) * rsP T s ≤ 9999 * 9999 := Nat.mul_le_mul c6 c5
  have c8 : T (56 + 12 * s + 3) * rsP T s * (100 - T 8) ≤ 9999 * 9999 * 100 := Nat.mul_le_mul c7 (by omega)
  unfold mX2_resoldWorth
  by_cases hz : rsP T s = 0
  · simp (disch := omega) only [mk_oO o_100, mk_gR f_100_0, mk_gR f_100_1, mk_gR f_100_2, mk_gI f_100_3, mk_pI f_100_3, mk_gR f_100_4, mk_gR f_100_5, mk_gR f_100_6, mk_gR f_100_7, mk_oO o_0, mk_oO o_1, mk_oO o_3, mk_gR f_0_0, mk_gR f_0_1, mk_gR f_0_2, mk_gR f_0_3, mk_gR f_0_4, mk_gR f_0_5, mk_gR f_0_6, mk_gR f_0_7, mk_gR f_0_8, mk_gR f_0_9, mk_gI f_0_10, mk_pI f_0_10, mk_gR f_1_0, mk_gI f_1_1, mk_pI f_1_1, mk_gR f_3_0, mk_gR f_3_1, mk_gR f_3_2, mk_gR f_3_3, mk_gR f_3_4, mk_gR f_3_5, mk_gR f_3_6, mk_gR f_3_7, ↓m_1, ↓m_2, i_0, i_1, i_2, i_3, i_4, i_6, i_5, i_12, i_11, i_10, i_9999, i_7, i_9, i_8, i_24, i_100, i_56, i_48, i_13, i_176, i_232, i_224, i_32, i_999, i_99, i_900, i_97, i_90, i_30, i_20, i_59, i_14, i_50, i_29, i_22, i_19, i_18, i_17, i_96, i_61, i_57, i_51, i_41, i_26, i_2552, i_255, i_25, i_23, i_21, i_16, i_15, i_122, i_10000, i_31, ↓k_1, dzF, obs, b2_some, rz0, rz1, rzb, n01, n01', n10, n01e, nI_add, nI_mul, ↓reduceIte, not_false_eq_true, not_true_eq_false, ite_not, mk_aIn a_110, e, pN_M1, if_pos hz]
  · have h5 : pN (rsP T s) = nI (rsP T s) := if_neg hz
    rw [h5] at e
    simp (disch := omega) only [mk_oO o_100, mk_gR f_100_0, mk_gR f_100_1, mk_gR f_100_2, mk_gI f_100_3, mk_pI f_100_3, mk_gR f_100_4, mk_gR f_100_5, mk_gR f_100_6, mk_gR f_100_7, mk_oO o_0, mk_oO o_1, mk_oO o_3, mk_gR f_0_0, mk_gR f_0_1, mk_gR f_0_2, mk_gR f_0_3, mk_gR f_0_4, mk_gR f_0_5, mk_gR f_0_6, mk_gR f_0_7, mk_gR f_0_8, mk_gR f_0_9, mk_gI f_0_10, mk_pI f_0_10, mk_gR f_1_0, mk_gI f_1_1, mk_pI f_1_1, mk_gR f_3_0, mk_gR f_3_1, mk_gR f_3_2, mk_gR f_3_3, mk_gR f_3_4, mk_gR f_3_5, mk_gR f_3_6, mk_gR f_3_7, ↓m_1, ↓m_2, i_0, i_1, i_2, i_3, i_4, i_6, i_5, i_12, i_11, i_10, i_9999, i_7, i_9, i_8, i_24, i_100, i_56, i_48, i_13, i_176, i_232, i_224, i_32, i_999, i_99, i_900, i_97, i_90, i_30, i_20, i_59, i_14, i_50, i_29, i_22, i_19, i_18, i_17, i_96, i_61, i_57, i_51, i_41, i_26, i_2552, i_255, i_25, i_23, i_21, i_16, i_15, i_122, i_10000, i_31, ↓k_1, dzF, obs, b2_some, rz0, rz1, rzb, n01, n01', n10, n01e, nI_add, nI_mul, ↓reduceIte, not_false_eq_true, not_true_eq_false, ite_not, mk_aIn a_110, e, nM1, if_neg hz, R_18, CW_s hT hW, CW_t hW, nI_sub, nI_l, nI_l (hT.l31 _), lN_mul, C_cut]
    rfl
theorem C_madeWorth (hT : VT T) (h : CS T g I J) {s : Nat} (hs : s < T 3) : mX2_madeWorth (mk n I J) 100 (nI s) = some (if mkC T s = 0 then K1 else lN (mkV T g s), mk n I J) := by
  have b0 := hT.1
  have hW := h.1
  have c1 := hT.sg hs
  have c2 : T (24 + 4 * T (56 + 12 * s + 0) + 2) < 2 ^ 31 := hT.l31 _
  have c3 := mk_num hT hs
  have c4 := hT.gp (hT.sg hs)
  have e := C_broughtAlong (n := n) (J := J) hT hW hs (fun a ha => h.2.2.2.2.2.1 a s ha hs)
  unfold mX2_madeWorth
  by_cases hz : mkC T s = 0
  · have hz' : T (24 + 4 * T (56 + 12 * s + 0) + 2) = 0 := hz
    simp (disch := omega) only [mk_oO o_100, mk_gR f_100_0, mk_gR f_100_1, mk_gR f_100_2, mk_gI f_100_3, mk_pI f_100_3, mk_gR f_100_4, mk_gR f_100_5, mk_gR f_100_6, mk_gR f_100_7, mk_oO o_0, mk_oO o_1, mk_oO o_3, mk_gR f_0_0, mk_gR f_0_1, mk_gR f_0_2, mk_gR f_0_3, mk_gR f_0_4, mk_gR f_0_5, mk_gR f_0_6, mk_gR f_0_7, mk_gR f_0_8, mk_gR f_0_9, mk_gI f_0_10, mk_pI f_0_10, mk_gR f_1_0, mk_gI f_1_1, mk_pI f_1_1, mk_gR f_3_0, mk_gR f_3_1, mk_gR f_3_2, mk_gR f_3_3, mk_gR f_3_4, mk_gR f_3_5, mk_gR f_3_6, mk_gR f_3_7, ↓m_1, ↓m_2, i_0, i_1, i_2, i_3, i_4, i_6, i_5, i_12, i_11, i_10, i_9999, i_7, i_9, i_8, i_24, i_100, i_56, i_48, i_13, i_176, i_232, i_224, i_32, i_999, i_99, i_900, i_97, i_90, i_30, i_20, i_59, i_14, i_50, i_29, i_22, i_19, i_18, i_17, i_96, i_61, i_57, i_51, i_41, i_26, i_2552, i_255, i_25, i_23, i_21, i_16, i_15, i_122, i_10000, i_31, ↓k_1, dzF, obs, b2_some, rz0, rz1, rzb, n01, n01', n10, n01e, nI_add, nI_mul, ↓reduceIte, not_false_eq_true, not_true_eq_false, ite_not, R_18, CW_s hT hW, R_6, CW_g hT hW, hz', if_pos hz]
  · have hz' : ¬ T (24 + 4 * T (56 + 12 * s + 0) + 2) = 0 := hz
    unfold mkC at c3
    simp (disch := omega) only [mk_oO o_100, mk_gR f_100_0, mk_gR f_100_1, mk_gR f_100_2, mk_gI f_100_3, mk_pI f_100_3, mk_gR f_100_4, mk_gR f_100_5, mk_gR f_100_6, mk_gR f_100_7, mk_oO o_0, mk_oO o_1, mk_oO o_3, mk_gR f_0_0, mk_gR f_0_1, mk_gR f_0_2, mk_gR f_0_3, mk_gR f_0_4, mk_gR f_0_5, mk_gR f_0_6, mk_gR f_0_7, mk_gR f_0_8, mk_gR f_0_9, mk_gI f_0_10, mk_pI f_0_10, mk_gR f_1_0, mk_gI f_1_1, mk_pI f_1_1, mk_gR f_3_0, mk_gR f_3_1, mk_gR f_3_2, mk_gR f_3_3, mk_gR f_3_4, mk_gR f_3_5, mk_gR f_3_6, mk_gR f_3_7, ↓m_1, ↓m_2, i_0, i_1, i_2, i_3, i_4, i_6, i_5, i_12, i_11, i_10, i_9999, i_7, i_9, i_8, i_24, i_100, i_56, i_48, i_13, i_176, i_232, i_224, i_32, i_999, i_99, i_900, i_97, i_90, i_30, i_20, i_59, i_14, i_50, i_29, i_22, i_19, i_18, i_17, i_96, i_61, i_57, i_51, i_41, i_26, i_2552, i_255, i_25, i_23, i_21, i_16, i_15, i_122, i_10000, i_31, ↓k_1, l_100, dzF, obs, b2_some, rz0, rz1, rzb, n01, n01', n10, n01e, nI_add, nI_mul, ↓reduceIte, not_false_eq_true, not_true_eq_false, ite_not, R_18, CW_s hT hW, R_6, CW_g hT hW, eqF, if_neg hz, e, nI_l, nI_l (hT.l31 _), lN_mul, lN_add, lL_div]
    have e9 : ∀ a b c d : Nat, a + (b + c + d) = a + b + c + d := by intros; omega
    unfold mkV mkC
    rw [e9]
theorem like_cases (a b : Nat) : like T a b = 0 ∨ like T a b = 1 ∨ like T a b = 2 := by
  unfold like
  repeat' split
  all_goals omega
theorem like_one (a b : Nat) : like T a b = 1 ↔ a = b := by
  unfold like
  constructor
  · intro h
    apply Decidable.byContradiction
    intro hab
    rw [if_neg hab] at h
    split at h
    · split at h <;> omega
    · omega
  · intro h; rw [if_pos h]
theorem C_isTestFor (hT : VT T) (h : CS T g I J) {s t : Nat} (hs : s < T 3) (ht : t < T 3) : mX1_isTestFor (mk n I J) 111 (nI s) (nI t) = some (nI (if tstP T g s t then 1 else 0), mk n I J) := by
  have b0 := hT.1
  have hW := h.1
  have c1 := hT.sg hs
  have c2 := hT.sg ht
  have c3 := hT.le (56 + 12 * t + 6)
  have hlc := like_cases (T := T) (T (56 + 12 * s + 0)) (T (56 + 12 * t + 0))
  have hl1 := like_one (T := T) (T (56 + 12 * s + 0)) (T (56 + 12 * t + 0))
  unfold mX1_isTestFor mX1_isTestFor_b82
  by_cases a1 : ¬ t = s ∧ ¬ t = g
  · by_cases a2 : T (56 + 12 * t + 6) = 0
    · by_cases a3 : btw T t
      · simp (disch := omega) only [mk_oO o_111, mk_gR f_111_0, mk_gR f_111_1, mk_gR f_111_2, mk_gR f_111_3, mk_gI f_111_4, mk_pI f_111_4, mk_gI f_111_5, mk_pI f_111_5, mk_gL f_111_6, mk_pL f_111_6, mk_gI f_111_7, mk_pI f_111_7, mk_gR f_111_8, mk_gI f_111_9, mk_pI f_111_9, mk_gI f_111_10, mk_pI f_111_10, mk_oO o_100, mk_gR f_100_0, mk_gR f_100_1, mk_gR f_100_2, mk_gI f_100_3, mk_pI f_100_3, mk_gR f_100_4, mk_gR f_100_5, mk_gR f_100_6, mk_gR f_100_7, mk_oO o_0, mk_oO o_1, mk_oO o_3, mk_gR f_0_0, mk_gR f_0_1, mk_gR f_0_2, mk_gR f_0_3, mk_gR f_0_4, mk_gR f_0_5, mk_gR f_0_6, mk_gR f_0_7, mk_gR f_0_8, mk_gR f_0_9, mk_gI f_0_10, mk_pI f_0_10, mk_gR f_1_0, mk_gI f_1_1, mk_pI f_1_1, mk_gR f_3_0, mk_gR f_3_1, mk_gR f_3_2, mk_gR f_3_3, mk_gR f_3_4, mk_gR f_3_5, mk_gR f_3_6, mk_gR f_3_7, ↓m_1, ↓m_2, i_0, i_1, i_2, i_3, i_4, i_6, i_5, i_12, i_11, i_10, i_9999, i_7, i_9, i_8, i_24, i_100, i_56, i_48, i_13, i_176, i_232, i_224, i_32, i_999, i_99, i_900, i_97, i_90, i_30, i_20, i_59, i_14, i_50, i_29, i_22, i_19, i_18, i_17, i_96, i_61, i_57, i_51, i_41, i_26, i_2552, i_255, i_25, i_23, i_21, i_16, i_15, i_122, i_10000, i_31, dzF, obs, b2_some, rz0, rz1, rzb, n01, n01', n10, n01e, nI_add, nI_mul, ↓reduceIte, not_false_eq_true, not_true_eq_false, ite_not, R_18, CW_s hT hW, C_isAnother h, if_pos a1, a2, C_isAmongKin hT h, if_pos a3]
        rw [if_neg (fun z => z.2.2.2.1 a3)]
      · by_cases a4 : T (56 + 12 * s + 0) = T (56 + 12 * t + 0)
        · by_cases a5 : nearDay T s t
          · simp (disch := omega) only [mk_oO o_111, mk_gR f_111_0, mk_gR f_111_1, mk_gR f_111_2, mk_gR f_111_3, mk_gI f_111_4, mk_pI f_111_4, mk_gI f_111_5, mk_pI f_111_5, mk_gL f_111_6, mk_pL f_111_6, mk_gI f_111_7, mk_pI f_111_7, mk_gR f_111_8, mk_gI f_111_9, mk_pI f_111_9, mk_gI f_111_10, mk_pI f_111_10, mk_oO o_100, mk_gR f_100_0, mk_gR f_100_1, mk_gR f_100_2, mk_gI f_100_3, mk_pI f_100_3, mk_gR f_100_4, mk_gR f_100_5, mk_gR f_100_6, mk_gR f_100_7, mk_oO o_0, mk_oO o_1, mk_oO o_3, mk_gR f_0_0, mk_gR f_0_1, mk_gR f_0_2, mk_gR f_0_3, mk_gR f_0_4, mk_gR f_0_5, mk_gR f_0_6, mk_gR f_0_7, mk_gR f_0_8, mk_gR f_0_9, mk_gI f_0_10, mk_pI f_0_10, mk_gR f_1_0, mk_gI f_1_1, mk_pI f_1_1, mk_gR f_3_0, mk_gR f_3_1, mk_gR f_3_2, mk_gR f_3_3, mk_gR f_3_4, mk_gR f_3_5, mk_gR f_3_6, mk_gR f_3_7, ↓m_1, ↓m_2, i_0, i_1, i_2, i_3, i_4, i_6, i_5, i_12, i_11, i_10, i_9999, i_7, i_9, i_8, i_24, i_100, i_56, i_48, i_13, i_176, i_232, i_224, i_32, i_999, i_99, i_900, i_97, i_90, i_30, i_20, i_59, i_14, i_50, i_29, i_22, i_19, i_18, i_17, i_96, i_61, i_57, i_51, i_41, i_26, i_2552, i_255, i_25, i_23, i_21, i_16, i_15, i_122, i_10000, i_31, dzF, obs, b2_some, rz0, rz1, rzb, n01, n01', n10, n01e, nI_add, nI_mul, ↓reduceIte, not_false_eq_true, not_true_eq_false, ite_not, R_18, CW_s hT hW, C_isAnother h, if_pos a1, a2, C_isAmongKin hT h, if_neg a3, eqT, C_isInWindow hT h, if_pos a5]
            rw [if_pos ⟨a1.1, a1.2, a2, a3, by rw [hl1.mpr a4]; decide, a5⟩]
          · simp (disch := omega) only [mk_oO o_111, mk_gR f_111_0, mk_gR f_111_1, mk_gR f_111_2, mk_gR f_111_3, mk_gI f_111_4, mk_pI f_111_4, mk_gI f_111_5, mk_pI f_111_5, mk_gL f_111_6, mk_pL f_111_6, mk_gI f_111_7, mk_pI f_111_7, mk_gR f_111_8, mk_gI f_111_9, mk_pI f_111_9, mk_gI f_111_10, mk_pI f_111_10, mk_oO o_100, mk_gR f_100_0, mk_gR f_100_1, mk_gR f_100_2, mk_gI f_100_3, mk_pI f_100_3, mk_gR f_100_4, mk_gR f_100_5, mk_gR f_100_6, mk_gR f_100_7, mk_oO o_0, mk_oO o_1, mk_oO o_3, mk_gR f_0_0, mk_gR f_0_1, mk_gR f_0_2, mk_gR f_0_3, mk_gR f_0_4, mk_gR f_0_5, mk_gR f_0_6, mk_gR f_0_7, mk_gR f_0_8, mk_gR f_0_9, mk_gI f_0_10, mk_pI f_0_10, mk_gR f_1_0, mk_gI f_1_1, mk_pI f_1_1, mk_gR f_3_0, mk_gR f_3_1, mk_gR f_3_2, mk_gR f_3_3, mk_gR f_3_4, mk_gR f_3_5, mk_gR f_3_6, mk_gR f_3_7, ↓m_1, ↓m_2, i_0, i_1, i_2, i_3, i_4, i_6, i_5, i_12, i_11, i_10, i_9999, i_7, i_9, i_8, i_24, i_100, i_56, i_48, i_13, i_176, i_232, i_224, i_32, i_999, i_99, i_900, i_97, i_90, i_30, i_20, i_59, i_14, i_50, i_29, i_22, i_19, i_18, i_17, i_96, i_61, i_57, i_51, i_41, i_26, i_2552, i_255, i_25, i_23, i_21, i_16, i_15, i_122, i_10000, i_31, dzF, obs, b2_some, rz0, rz1, rzb, n01, n01', n10, n01e, nI_add, nI_mul, ↓reduceIte, not_false_eq_true, not_true_eq_false, ite_not, R_18, CW_s hT hW, C_isAnother h, if_pos a1, a2, C_isAmongKin hT h, if_neg a3, eqT, C_isInWindow hT h, if_neg a5]
            rw [if_neg (fun z => a5 z.2.2.2.2.2)]
        · have a4' : ¬ like T (T (56 + 12 * s + 0)) (T (56 + 12 * t + 0)) = 1 := fun z => a4 (hl1.mp z)
          by_cases a6 : like T (T (56 + 12 * s + 0)) (T (56 + 12 * t + 0)) = 2
          · by_cases a5 : nearDay T s t
            · simp (disch := omega) only [mk_oO o_111, mk_gR f_111_0, mk_gR f_111_1, mk_gR f_111_2, mk_gR f_111_3, mk_gI f_111_4, mk_pI f_111_4, mk_gI f_111_5, mk_pI f_111_5, mk_gL f_111_6, mk_pL f_111_6, mk_gI f_111_7, mk_pI f_111_7, mk_gR f_111_8, mk_gI f_111_9, mk_pI f_111_9, mk_gI f_111_10, mk_pI f_111_10, mk_oO o_100, mk_gR f_100_0, mk_gR f_100_1, mk_gR f_100_2, mk_gI f_100_3, mk_pI f_100_3, mk_gR f_100_4, mk_gR f_100_5, mk_gR f_100_6, mk_gR f_100_7, mk_oO o_0, mk_oO o_1, mk_oO o_3, mk_gR f_0_0, mk_gR f_0_1, mk_gR f_0_2, mk_gR f_0_3, mk_gR f_0_4, mk_gR f_0_5, mk_gR f_0_6, mk_gR f_0_7, mk_gR f_0_8, mk_gR f_0_9, mk_gI f_0_10, mk_pI f_0_10, mk_gR f_1_0, mk_gI f_1_1, mk_pI f_1_1, mk_gR f_3_0, mk_gR f_3_1, mk_gR f_3_2, mk_gR f_3_3, mk_gR f_3_4, mk_gR f_3_5, mk_gR f_3_6, mk_gR f_3_7, ↓m_1, ↓m_2, i_0, i_1, i_2, i_3, i_4, i_6, i_5, i_12, i_11, i_10, i_9999, i_7, i_9, i_8, i_24, i_100, i_56, i_48, i_13, i_176, i_232, i_224, i_32, i_999, i_99, i_900, i_97, i_90, i_30, i_20, i_59, i_14, i_50, i_29, i_22, i_19, i_18, i_17, i_96, i_61, i_57, i_51, i_41, i_26, i_2552, i_255, i_25, i_23, i_21, i_16, i_15, i_122, i_10000, i_31, dzF, obs, b2_some, rz0, rz1, rzb, n01, n01', n10, n01e, nI_add, nI_mul, ↓reduceIte, not_false_eq_true, not_true_eq_false, ite_not, R_18, CW_s hT hW, C_isAnother h, if_pos a1, a2, C_isAmongKin hT h, if_neg a3, eqF, C_areSimilar hT hW, if_pos a6, C_isInWindow hT h, if_pos a5]
              rw [if_pos ⟨a1.1, a1.2, a2, a3, by omega, a5⟩]
            · simp (disch := omega) only [mk_oO o_111, mk_gR f_111_0, mk_gR f_111_1, mk_gR f_111_2, mk_gR f_111_3, mk_gI f_111_4, mk_pI f_111_4, mk_gI f_111_5, mk_pI f_111_5, mk_gL f_111_6, mk_pL f_111_6, mk_gI f_111_7, mk_pI f_111_7, mk_gR f_111_8, mk_gI f_111_9, mk_pI f_111_9, mk_gI f_111_10, mk_pI f_111_10, mk_oO o_100, mk_gR f_100_0, mk_gR f_100_1, mk_gR f_100_2, mk_gI f_100_3, mk_pI f_100_3, mk_gR f_100_4, mk_gR f_100_5, mk_gR f_100_6, mk_gR f_100_7, mk_oO o_0, mk_oO o_1, mk_oO o_3, mk_gR f_0_0, mk_gR f_0_1, mk_gR f_0_2, mk_gR f_0_3, mk_gR f_0_4, mk_gR f_0_5, mk_gR f_0_6, mk_gR f_0_7, mk_gR f_0_8, mk_gR f_0_9, mk_gI f_0_10, mk_pI f_0_10, mk_gR f_1_0, mk_gI f_1_1, mk_pI f_1_1, mk_gR f_3_0, mk_gR f_3_1, mk_gR f_3_2, mk_gR f_3_3, mk_gR f_3_4, mk_gR f_3_5, mk_gR f_3_6, mk_gR f_3_7, ↓m_1, ↓m_2, i_0, i_1, i_2, i_3, i_4, i_6, i_5, i_12, i_11, i_10, i_9999, i_7, i_9, i_8, i_24, i_100, i_56, i_48, i_13, i_176, i_232, i_224, i_32, i_999, i_99, i_900, i_97, i_90, i_30, i_20, i_59, i_14, i_50, i_29, i_22, i_19, i_18, i_17, i_96, i_61, i_57, i_51, i_41, i_26, i_2552, i_255, i_25, i_23, i_21, i_16, i_15, i_122, i_10000, i_31, dzF, obs, b2_some, rz0, rz1, rzb, n01, n01', n10, n01e, nI_add, nI_mul, ↓reduceIte, not_false_eq_true, not_true_eq_false, ite_not, R_18, CW_s hT hW, C_isAnother h, if_pos a1, a2, C_isAmongKin hT h, if_neg a3, eqF, C_areSimilar hT hW, if_pos a6, C_isInWindow hT h, if_neg a5]
              rw [if_neg (fun z => a5 z.2.2.2.2.2)]
          · simp (disch := omega) only [mk_oO o_111, mk_gR f_111_0, mk_gR f_111_1, mk_gR f_111_2, mk_gR f_111_3, mk_gI f_111_4, mk_pI f_111_4, mk_gI f_111_5, mk_pI f_111_5, mk_gL f_111_6, mk_pL f_111_6, mk_gI f_111_7, mk_pI f_111_7, mk_gR f_111_8, mk_gI f_111_9, mk_pI f_111_9, mk_gI f_111_10, mk_pI f_111_10, mk_oO o_100, mk_gR f_100_0, mk_gR f_100_1, mk_gR f_100_2, mk_gI f_100_3, mk_pI f_100_3, mk_gR f_100_4, mk_gR f_100_5, mk_gR f_100_6, mk_gR f_100_7, mk_oO o_0, mk_oO o_1, mk_oO o_3, mk_gR f_0_0, mk_gR f_0_1, mk_gR f_0_2, mk_gR f_0_3, mk_gR f_0_4, mk_gR f_0_5, mk_gR f_0_6, mk_gR f_0_7, mk_gR f_0_8, mk_gR f_0_9, mk_gI f_0_10, mk_pI f_0_10, mk_gR f_1_0, mk_gI f_1_1, mk_pI f_1_1, mk_gR f_3_0, mk_gR f_3_1, mk_gR f_3_2, mk_gR f_3_3, mk_gR f_3_4, mk_gR f_3_5, mk_gR f_3_6, mk_gR f_3_7, ↓m_1, ↓m_2, i_0, i_1, i_2, i_3, i_4, i_6, i_5, i_12, i_11, i_10, i_9999, i_7, i_9, i_8, i_24, i_100, i_56, i_48, i_13, i_176, i_232, i_224, i_32, i_999, i_99, i_900, i_97, i_90, i_30, i_20, i_59, i_14, i_50, i_29, i_22, i_19, i_18, i_17, i_96, i_61, i_57, i_51, i_41, i_26, i_2552, i_255, i_25, i_23, i_21, i_16, i_15, i_122, i_10000, i_31, dzF, obs, b2_some, rz0, rz1, rzb, n01, n01', n10, n01e, nI_add, nI_mul, ↓reduceIte, not_false_eq_true, not_true_eq_false, ite_not, R_18, CW_s hT hW, C_isAnother h, if_pos a1, a2, C_isAmongKin hT h, if_neg a3, eqF, C_areSimilar hT hW, if_neg a6]
            rw [if_neg (fun z => by have := z.2.2.2.2.1; omega)]
    · simp (disch := omega) only [mk_oO o_111, mk_gR f_111_0, mk_gR f_111_1, mk_gR f_111_2, mk_gR f_111_3, mk_gI f_111_4, mk_pI f_111_4, mk_gI f_111_5, mk_pI f_111_5, mk_gL f_111_6, mk_pL f_111_6, mk_gI f_111_7, mk_pI f_111_7, mk_gR f_111_8, mk_gI f_111_9, mk_pI f_111_9, mk_gI f_111_10, mk_pI f_111_10, mk_oO o_100, mk_gR f_100_0, mk_gR f_100_1, mk_gR f_100_2, mk_gI f_100_3, mk_pI f_100_3, mk_gR f_100_4, mk_gR f_100_5, mk_gR f_100_6, mk_gR f_100_7, mk_oO o_0, mk_oO o_1, mk_oO o_3, mk_gR f_0_0, mk_gR f_0_1, mk_gR f_0_2, mk_gR f_0_3, mk_gR f_0_4, mk_gR f_0_5, mk_gR f_0_6, mk_gR f_0_7, mk_gR f_0_8, mk_gR f_0_9, mk_gI f_0_10, mk_pI f_0_10, mk_gR f_1_0, mk_gI f_1_1, mk_pI f_1_1, mk_gR f_3_0, mk_gR f_3_1, mk_gR f_3_2, mk_gR f_3_3, mk_gR f_3_4, mk_gR f_3_5, mk_gR f_3_6, mk_gR f_3_7, ↓m_1, ↓m_2, i_0, i_1, i_2, i_3, i_4, i_6, i_5, i_12, i_11, i_10, i_9999, i_7, i_9, i_8, i_24, i_100, i_56, i_48, i_13, i_176, i_232, i_224, i_32, i_999, i_99, i_900, i_97, i_90, i_30, i_20, i_59, i_14, i_50, i_29, i_22, i_19, i_18, i_17, i_96, i_61, i_57, i_51, i_41, i_26, i_2552, i_255, i_25, i_23, i_21, i_16, i_15, i_122, i_10000, i_31, dzF, obs, b2_some, rz0, rz1, rzb, n01, n01', n10, n01e, nI_add, nI_mul, ↓reduceIte, not_false_eq_true, not_true_eq_false, ite_not, R_18, CW_s hT hW, C_isAnother h, if_pos a1, eqF]
      rw [if_neg (fun z => a2 z.2.2.1)]
  · simp (disch := omega) only [mk_oO o_111, mk_gR f_111_0, mk_gR f_111_1, mk_gR f_111_2, mk_gR f_111_3, mk_gI f_111_4, mk_pI f_111_4, mk_gI f_111_5, mk_pI f_111_5, mk_gL f_111_6, mk_pL f_111_6, mk_gI f_111_7, mk_pI f_111_7, mk_gR f_111_8, mk_gI f_111_9, mk_pI f_111_9, mk_gI f_111_10, mk_pI f_111_10, mk_oO o_100, mk_gR f_100_0, mk_gR f_100_1, mk_gR f_100_2, mk_gI f_100_3, mk_pI f_100_3, mk_gR f_100_4, mk_gR f_100_5, mk_gR f_100_6, mk_gR f_100_7, mk_oO o_0, mk_oO o_1, mk_oO o_3, mk_gR f_0_0, mk_gR f_0_1, mk_gR f_0_2, mk_gR f_0_3, mk_gR f_0_4, mk_gR f_0_5, mk_gR f_0_6, mk_gR f_0_7, mk_gR f_0_8, mk_gR f_0_9, mk_gI f_0_10, mk_pI f_0_10, mk_gR f_1_0, mk_gI f_1_1, mk_pI f_1_1, mk_gR f_3_0, mk_gR f_3_1, mk_gR f_3_2, mk_gR f_3_3, mk_gR f_3_4, mk_gR f_3_5, mk_gR f_3_6, mk_gR f_3_7, ↓m_1, ↓m_2, i_0, i_1, i_2, i_3, i_4, i_6, i_5, i_12, i_11, i_10, i_9999, i_7, i_9, i_8, i_24, i_100, i_56, i_48, i_13, i_176, i_232, i_224, i_32, i_999, i_99, i_900, i_97, i_90, i_30, i_20, i_59, i_14, i_50, i_29, i_22, i_19, i_18, i_17, i_96, i_61, i_57, i_51, i_41, i_26, i_2552, i_255, i_25, i_23, i_21, i_16, i_15, i_122, i_10000, i_31, dzF, obs, b2_some, rz0, rz1, rzb, n01, n01', n10, n01e, nI_add, nI_mul, ↓reduceIte, not_false_eq_true, not_true_eq_false, ite_not, R_18, CW_s hT hW, C_isAnother h, if_neg a1]
    rw [if_neg (fun z => a1 ⟨z.1, z.2.1⟩)]
theorem C_addTest {l : List Nat} (h : LC I J l) (hl : l.length < 11) {x : Nat} (hx : x < 2 ^ 63) : mX1_addTest (mk n I J) 111 (lN x) = some (mk n (u2 I 111 4 (nI (l.length + 1))) (u2 J 113 l.length (lN x))) := by
  unfold mX1_addTest
  simp (disch := omega) only [mk_oO o_111, mk_gR f_111_0, mk_gR f_111_1, mk_gR f_111_2, mk_gR f_111_3, mk_gI f_111_4, mk_pI f_111_4, mk_gI f_111_5, mk_pI f_111_5, mk_gL f_111_6, mk_pL f_111_6, mk_gI f_111_7, mk_pI f_111_7, mk_gR f_111_8, mk_gI f_111_9, mk_pI f_111_9, mk_gI f_111_10, mk_pI f_111_10, ↓m_1, ↓m_2, i_0, i_1, i_2, i_3, i_4, i_6, i_5, i_12, i_11, i_10, i_9999, i_7, i_9, i_8, i_24, i_100, i_56, i_48, i_13, i_176, i_232, i_224, i_32, i_999, i_99, i_900, i_97, i_90, i_30, i_20, i_59, i_14, i_50, i_29, i_22, i_19, i_18, i_17, i_96, i_61, i_57, i_51, i_41, i_26, i_2552, i_255, i_25, i_23, i_21, i_16, i_15, i_122, i_10000, i_31, ↓k_1, dzF, obs, b2_some, rz0, rz1, rzb, n01, n01', n10, n01e, nI_add, nI_mul, ↓reduceIte, not_false_eq_true, not_true_eq_false, ite_not, lK1, h.1, leF, mk_sLn a_113]
theorem C_addTestF : mX1_addTest (mk n I J) 111 K1 = some (mk n I J) := by
  unfold mX1_addTest
  simp (disch := omega) only [mk_oO o_111, mk_gR f_111_0, mk_gR f_111_1, mk_gR f_111_2, mk_gR f_111_3, mk_gI f_111_4, mk_pI f_111_4, mk_gI f_111_5, mk_pI f_111_5, mk_gL f_111_6, mk_pL f_111_6, mk_gI f_111_7, mk_pI f_111_7, mk_gR f_111_8, mk_gI f_111_9, mk_pI f_111_9, mk_gI f_111_10, mk_pI f_111_10, ↓m_1, ↓m_2, i_0, i_1, i_2, i_3, i_4, i_6, i_5, i_12, i_11, i_10, i_9999, i_7, i_9, i_8, i_24, i_100, i_56, i_48, i_13, i_176, i_232, i_224, i_32, i_999, i_99, i_900, i_97, i_90, i_30, i_20, i_59, i_14, i_50, i_29, i_22, i_19, i_18, i_17, i_96, i_61, i_57, i_51, i_41, i_26, i_2552, i_255, i_25, i_23, i_21, i_16, i_15, i_122, i_10000, i_31, ↓k_1, dzF, obs, b2_some, rz0, rz1, rzb, n01, n01', n10, n01e, nI_add, nI_mul, ↓reduceIte, not_false_eq_true, not_true_eq_false, ite_not]
/-- only the tests are laid anew -/
def GF (I : Nat → Nat → Int32) (J : Nat → Nat → Int64) (I' : Nat → Nat → Int32) (J' : Nat → Nat → Int64) : Prop := Fx SG I I' ∧ FJ SGJ J J'
theorem GF.refl (I : Nat → Nat → Int32) (J : Nat → Nat → Int64) : GF I J I J := ⟨Fx.refl I, FJ.refl J⟩
theorem GF.trans {I I' I'' : Nat → Nat → Int32} {J J' J'' : Nat → Nat → Int64} (h : GF I J I' J') (h' : GF I' J' I'' J'') : GF I J I'' J'' := ⟨h.1.trans h'.1, h.2.trans h'.2⟩
theorem CS.gf {I' : Nat → Nat → Int32} {J' : Nat → Nat → Int64} (h : CS T g I J) (hT : VT T) (hf : GF I J I' J') : CS T g I' J' := h.fd hT (hf.1.mono SG_SD) (hf.2.sub SGJ_SDJ)
theorem GF.one (I : Nat → Nat → Int32) (J : Nat → Nat → Int64) (x : Int32) (k : Nat) (y : Int64) : GF I J (u2 I 111 4 x) (u2 J 113 k y) := ⟨Fx_u2 _ _ ⟨rfl, rfl⟩, FJ_u2 _ _ rfl⟩
theorem C_gathL (hT : VT T) {s : Nat} (hs : s < T 3) : ∀ (k t fu : Nat) (I : Nat → Nat → Int32) (J : Nat → Nat → Int64), t + k = T 3 → k < fu → CS T g I J → LC I J (tsl T g s t) → ∃ I' J', mX1_gatherTests_L7 fu (mk n I J) 111 (nI s) (nI t) = some (mk n I' J') ∧ GF I J I' J' ∧ LC I' J' (tests T g s) := by
  have b0 := hT.1
  intro k
  induction k with
  | zero =>
    intro t fu I J ht hf h hl
    obtain ⟨fu, rfl⟩ : ∃ f, fu = f + 1 := ⟨fu - 1, by omega⟩
    rw [show t = T 3 by omega] at hl
    have hlen := (tsl_len (T := T) g s (T 3)).2 hs
    have hW := h.1
    have e1 := C_resoldWorth (n := n) hT h hs
    have s2 : ∃ I2 J2, mX1_addTest (mk n I J) 111 (if rsP T s = 0 then K1 else lN (rsV T s)) = some (mk n I2 J2) ∧ GF I J I2 J2 ∧ LC I2 J2 (tsl T g s (T 3) ++ (if rsP T s = 0 then [] else [rsV T s])) := by
      by_cases hz : rsP T s = 0
      · rw [if_pos hz, if_pos hz, List.append_nil]
        exact ⟨_, _, C_addTestF, GF.refl _ _, hl⟩
      · rw [if_neg hz, if_neg hz]
        exact ⟨_, _, C_addTest hl (by omega) (by have := rsV_le hT s; omega), GF.one _ _ _ _ _, hl.add _⟩
    obtain ⟨I2, J2, e2, q2, l2⟩ := s2
    have h2 := h.gf hT q2
    have e3 := C_madeWorth (n := n) hT h2 hs
    have hlen2 : (tsl T g s (T 3) ++ (if rsP T s = 0 then [] else [rsV T s])).length < 11 := by
      rw [List.length_append]; split <;> simp only [List.length_cons, List.length_nil] <;> omega
    have s4 : ∃ I4 J4, mX1_addTest (mk n I2 J2) 111 (if mkC T s = 0 then K1 else lN (mkV T g s)) = some (mk n I4 J4) ∧ GF I2 J2 I4 J4 ∧ LC I4 J4 (tests T g s) := by
      unfold tests
      by_cases hz : mkC T s = 0
      · rw [if_pos hz, if_pos hz, List.append_nil]
        exact ⟨_, _, C_addTestF, GF.refl _ _, l2⟩
      · rw [if_neg hz, if_neg hz]
        exact ⟨_, _, C_addTest l2 hlen2 (by have := mkV_le (g := g) hT hs; omega), GF.one _ _ _ _ _, l2.add _⟩
    obtain ⟨I4, J4, e4, q4, l4⟩ := s4
    refine ⟨I4, J4, ?_, q2.trans q4, l4⟩
    show mX1_gatherTests_b7 _ _ _ _ _ = _
    unfold mX1_gatherTests_b7
    simp (disch := omega) only [mk_oO o_111, mk_gR f_111_0, mk_gR f_111_1, mk_gR f_111_2, mk_gR f_111_3, mk_gI f_111_4, mk_pI f_111_4, mk_gI f_111_5, mk_pI f_111_5, mk_gL f_111_6, mk_pL f_111_6, mk_gI f_111_7, mk_pI f_111_7, mk_gR f_111_8, mk_gI f_111_9, mk_pI f_111_9, mk_gI f_111_10, mk_pI f_111_10, mk_oO o_0, mk_oO o_1, mk_oO o_3, mk_gR f_0_0, mk_gR f_0_1, mk_gR f_0_2, mk_gR f_0_3, mk_gR f_0_4, mk_gR f_0_5, mk_gR f_0_6, mk_gR f_0_7, mk_gR f_0_8, mk_gR f_0_9, mk_gI f_0_10, mk_pI f_0_10, mk_gR f_1_0, mk_gI f_1_1, mk_pI f_1_1, mk_gR f_3_0, mk_gR f_3_1, mk_gR f_3_2, mk_gR f_3_3, mk_gR f_3_4, mk_gR f_3_5, mk_gR f_3_6, mk_gR f_3_7, ↓m_1, ↓m_2, i_0, i_1, i_2, i_3, i_4, i_6, i_5, i_12, i_11, i_10, i_9999, i_7, i_9, i_8, i_24, i_100, i_56, i_48, i_13, i_176, i_232, i_224, i_32, i_999, i_99, i_900, i_97, i_90, i_30, i_20, i_59, i_14, i_50, i_29, i_22, i_19, i_18, i_17, i_96, i_61, i_57, i_51, i_41, i_26, i_2552, i_255, i_25, i_23, i_21, i_16, i_15, i_122, i_10000, i_31, dzF, obs, b2_some, rz0, rz1, rzb, n01, n01', n10, n01e, nI_add, nI_mul, ↓reduceIte, not_false_eq_true, not_true_eq_false, ite_not, leT, CW_t hW, e1, e2, e3, e4]
  | succ k ih =>
    intro t fu I J ht hf h hl
    obtain ⟨fu, rfl⟩ : ∃ f, fu = f + 1 := ⟨fu - 1, by omega⟩
    have ht3 : t < T 3 := by omega
    have hlen := tsl_len (T := T) g s t
    have hW := h.1
    show ∃ I' J', mX1_gatherTests_b7 _ _ _ _ _ = _ ∧ _
    unfold mX1_gatherTests_b7
    by_cases hc : tstP T g s t
    · have hb := brought_le (g := g) (s := s) hT ht3
      have e2 := C_addTest (n := n) hl (by omega) (x := brought T g s t) (by omega)
      obtain ⟨I3, J3, e3, q3, l3⟩ := ih (t + 1) fu _ _ (by omega) (by omega) (h.gf hT (GF.one I J (nI ((tsl T g s t).length + 1)) (tsl T g s t).length (lN (brought T g s t)))) (by rw [tsl, if_pos hc]; exact hl.add _)
      refine ⟨I3, J3, ?_, GF.trans (GF.one _ _ _ _ _) q3, l3⟩
      simp (disch := omega) only [mk_oO o_111, mk_gR f_111_0, mk_gR f_111_1, mk_gR f_111_2, mk_gR f_111_3, mk_gI f_111_4, mk_pI f_111_4, mk_gI f_111_5, mk_pI f_111_5, mk_gL f_111_6, mk_pL f_111_6, mk_gI f_111_7, mk_pI f_111_7, mk_gR f_111_8, mk_gI f_111_9, mk_pI f_111_9, mk_gI f_111_10, mk_pI f_111_10, mk_oO o_0, mk_oO o_1, mk_oO o_3, mk_gR f_0_0, mk_gR f_0_1, mk_gR f_0_2, mk_gR f_0_3, mk_gR f_0_4, mk_gR f_0_5, mk_gR f_0_6, mk_gR f_0_7, mk_gR f_0_8, mk_gR f_0_9, mk_gI f_0_10, mk_pI f_0_10, mk_gR f_1_0, mk_gI f_1_1, mk_pI f_1_1, mk_gR f_3_0, mk_gR f_3_1, mk_gR f_3_2, mk_gR f_3_3, mk_gR f_3_4, mk_gR f_3_5, mk_gR f_3_6, mk_gR f_3_7, ↓m_1, ↓m_2, i_0, i_1, i_2, i_3, i_4, i_6, i_5, i_12, i_11, i_10, i_9999, i_7, i_9, i_8, i_24, i_100, i_56, i_48, i_13, i_176, i_232, i_224, i_32, i_999, i_99, i_900, i_97, i_90, i_30, i_20, i_59, i_14, i_50, i_29, i_22, i_19, i_18, i_17, i_96, i_61, i_57, i_51, i_41, i_26, i_2552, i_255, i_25, i_23, i_21, i_16, i_15, i_122, i_10000, i_31, dzF, obs, b2_some, rz0, rz1, rzb, n01, n01', n10, n01e, nI_add, nI_mul, ↓reduceIte, not_false_eq_true, not_true_eq_false, ite_not, leF, CW_t hW, C_isTestFor hT h, if_pos hc, C_brought hT h, e2]
      exact e3
    · obtain ⟨I3, J3, e3, q3, l3⟩ := ih (t + 1) fu I J (by omega) (by omega) h (by rw [tsl, if_neg hc, List.append_nil]; exact hl)
      refine ⟨I3, J3, ?_, q3, l3⟩
      simp (disch := omega) only [mk_oO o_111, mk_gR f_111_0, mk_gR f_111_1, mk_gR f_111_2, mk_gR f_111_3, mk_gI f_111_4, mk_pI f_111_4, mk_gI f_111_5, mk_pI f_111_5, mk_gL f_111_6, mk_pL f_111_6, mk_gI f_111_7, mk_pI f_111_7, mk_gR f_111_8, mk_gI f_111_9, mk_pI f_111_9, mk_gI f_111_10, mk_pI f_111_10, mk_oO o_0, mk_oO o_1, mk_oO o_3, mk_gR f_0_0, mk_gR f_0_1, mk_gR f_0_2, mk_gR f_0_3, mk_gR f_0_4, mk_gR f_0_5, mk_gR f_0_6, mk_gR f_0_7, mk_gR f_0_8, mk_gR f_0_9, mk_gI f_0_10, mk_pI f_0_10, mk_gR f_1_0, mk_gI f_1_1, mk_pI f_1_1, mk_gR f_3_0, mk_gR f_3_1, mk_gR f_3_2, mk_gR f_3_3, mk_gR f_3_4, mk_gR f_3_5, mk_gR f_3_6, mk_gR f_3_7, ↓m_1, ↓m_2, i_0, i_1, i_2, i_3, i_4, i_6, i_5, i_12, i_11, i_10, i_9999, i_7, i_9, i_8, i_24, i_100, i_56, i_48, i_13, i_176, i_232, i_224, i_32, i_999, i_99, i_900, i_97, i_90, i_30, i_20, i_59, i_14, i_50, i_29, i_22, i_19, i_18, i_17, i_96, i_61, i_57, i_51, i_41, i_26, i_2552, i_255, i_25, i_23, i_21, i_16, i_15, i_122, i_10000, i_31, dzF, obs, b2_some, rz0, rz1, rzb, n01, n01', n10, n01e, nI_add, nI_mul, ↓reduceIte, not_false_eq_true, not_true_eq_false, ite_not, leF, CW_t hW, C_isTestFor hT h, if_neg hc]
      exact e3
theorem C_gatherTests (hT : VT T) (h : CS T g I J) {s : Nat} (hs : s < T 3) : ∃ I' J', mX1_gatherTests (mk n I J) 111 (nI s) = some (mk n I' J') ∧ GF I J I' J' ∧ LC I' J' (tests T g s) := by
  have b0 := hT.1
  have f0 : GF I J (u2 I 111 4 (nI 0)) J := ⟨Fx_u2 _ _ ⟨rfl, rfl⟩, FJ.refl J⟩
  obtain ⟨I', J', e, q, l⟩ := C_gathL (n := n) hT hs (T 3) 0 FU (u2 I 111 4 (nI 0)) J (by omega) (by unfold FU; omega) (h.gf hT f0) ⟨by rw [u2_at]; rfl, fun k x hk => by rw [tsl] at hk; simp at hk⟩
  refine ⟨I', J', ?_, f0.trans q, l⟩
  unfold mX1_gatherTests
  simp (disch := omega) only [mk_oO o_111, mk_gR f_111_0, mk_gR f_111_1, mk_gR f_111_2, mk_gR f_111_3, mk_gI f_111_4, mk_pI f_111_4, mk_gI f_111_5, mk_pI f_111_5, mk_gL f_111_6, mk_pL f_111_6, mk_gI f_111_7, mk_pI f_111_7, mk_gR f_111_8, mk_gI f_111_9, mk_pI f_111_9, mk_gI f_111_10, mk_pI f_111_10, ↓m_1, ↓m_2, i_0, i_1, i_2, i_3, i_4, i_6, i_5, i_12, i_11, i_10, i_9999, i_7, i_9, i_8, i_24, i_100, i_56, i_48, i_13, i_176, i_232, i_224, i_32, i_999, i_99, i_900, i_97, i_90, i_30, i_20, i_59, i_14, i_50, i_29, i_22, i_19, i_18, i_17, i_96, i_61, i_57, i_51, i_41, i_26, i_2552, i_255, i_25, i_23, i_21, i_16, i_15, i_122, i_10000, i_31, dzF, obs, b2_some, rz0, rz1, rzb, n01, n01', n10, n01e, nI_add, nI_mul, ↓reduceIte, not_false_eq_true, not_true_eq_false, ite_not]
  exact e
theorem C_slack (hT : VT T) (hW : WR I 3 T) {x : Nat} (hx : x ≤ 300000000000000) : mX2_slack (mk n I J) 100 (lN x) = some (lN (x * T 6 / 100), mk n I J) := by
  have b1 := hT.2.1
  have c1 : x * T 6 ≤ 300000000000000 * 50 := Nat.mul_le_mul hx (by omega)
  unfold mX2_slack
  simp (disch := omega) only [mk_oO o_100, mk_gR f_100_0, mk_gR f_100_1, mk_gR f_100_2, mk_gI f_100_3, mk_pI f_100_3, mk_gR f_100_4, mk_gR f_100_5, mk_gR f_100_6, mk_gR f_100_7, mk_oO o_0, mk_oO o_1, mk_oO o_3, mk_gR f_0_0, mk_gR f_0_1, mk_gR f_0_2, mk_gR f_0_3, mk_gR f_0_4, mk_gR f_0_5, mk_gR f_0_6, mk_gR f_0_7, mk_gR f_0_8, mk_gR f_0_9, mk_gI f_0_10, mk_pI f_0_10, mk_gR f_1_0, mk_gI f_1_1, mk_pI f_1_1, mk_gR f_3_0, mk_gR f_3_1, mk_gR f_3_2, mk_gR f_3_3, mk_gR f_3_4, mk_gR f_3_5, mk_gR f_3_6, mk_gR f_3_7, ↓m_1, ↓m_2, i_0, i_1, i_2, i_3, i_4, i_6, i_5, i_12, i_11, i_10, i_9999, i_7, i_9, i_8, i_24, i_100, i_56, i_48, i_13, i_176, i_232, i_224, i_32, i_999, i_99, i_900, i_97, i_90, i_30, i_20, i_59, i_14, i_50, i_29, i_22, i_19, i_18, i_17, i_96, i_61, i_57, i_51, i_41, i_26, i_2552, i_255, i_25, i_23, i_21, i_16, i_15, i_122, i_10000, i_31, l_100, dzF, obs, b2_some, rz0, rz1, rzb, n01, n01', n10, n01e, nI_add, nI_mul, ↓reduceIte, not_false_eq_true, not_true_eq_false, ite_not, CW_t hW, nI_l, lN_mul, lL_div]
theorem C_nearL (hT : VT T) (h : CS T g I J) {s : Nat} (hs : s < T 3) {l : List Nat} (hl : LC I J l) (hlen : l.length ≤ 11) (hx : ∀ x ∈ l, x ≤ 300000000000000) : ∀ (k t fu : Nat), t + k = l.length → k < fu → mX1_isNearATest_L2 fu (mk n I J) 111 (nI s) (nI t) = some (nI (if (l.drop t).any (nearT (own T g s) (T 6)) = true then 1 else 0), mk n I J) := by
  have b0 := hT.1
  have b1 := hT.2.1
  have hW := h.1
  intro k
  induction k with
  | zero =>
    intro t fu ht hf
    obtain ⟨fu, rfl⟩ : ∃ f, fu = f + 1 := ⟨fu - 1, by omega⟩
    show mX1_isNearATest_b2 _ _ _ _ _ = _
    unfold mX1_isNearATest_b2
    rw [List.drop_eq_nil_of_le (by omega)]
    simp (disch := omega) only [mk_oO o_111, mk_gR f_111_0, mk_gR f_111_1, mk_gR f_111_2, mk_gR f_111_3, mk_gI f_111_4, mk_pI f_111_4, mk_gI f_111_5, mk_pI f_111_5, mk_gL f_111_6, mk_pL f_111_6, mk_gI f_111_7, mk_pI f_111_7, mk_gR f_111_8, mk_gI f_111_9, mk_pI f_111_9, mk_gI f_111_10, mk_pI f_111_10, ↓m_1, ↓m_2, i_0, i_1, i_2, i_3, i_4, i_6, i_5, i_12, i_11, i_10, i_9999, i_7, i_9, i_8, i_24, i_100, i_56, i_48, i_13, i_176, i_232, i_224, i_32, i_999, i_99, i_900, i_97, i_90, i_30, i_20, i_59, i_14, i_50, i_29, i_22, i_19, i_18, i_17, i_96, i_61, i_57, i_51, i_41, i_26, i_2552, i_255, i_25, i_23, i_21, i_16, i_15, i_122, i_10000, i_31, dzF, obs, b2_some, rz0, rz1, rzb, n01, n01', n10, n01e, nI_add, nI_mul, ↓reduceIte, not_false_eq_true, not_true_eq_false, ite_not, leT, hl.1, List.any_nil, Bool.false_eq_true]
  | succ k ih =>
    intro t fu ht hf
    obtain ⟨fu, rfl⟩ : ∃ f, fu = f + 1 := ⟨fu - 1, by omega⟩
    have e := ih (t + 1) fu (by omega) (by omega)
    have htl : t < l.length := by omega
    have hJ : J 113 t = lN l[t] := hl.2 t l[t] (List.getElem?_eq_getElem htl)
    have hb := hx l[t] (List.getElem_mem htl)
    rw [List.drop_eq_getElem_cons htl, List.any_cons]
    generalize l[t] = x at hJ hb
    have ho := own_le (g := g) hT hs
    have hJ2 := h.2.2.2.2.2.2.1 s hs
    have hm : T 6 * x ≤ 50 * 300000000000000 := Nat.mul_le_mul (by omega) hb
    have hn2 : nearT (own T g s) (T 6) x = decide (100 * ((own T g s - x) + (x - own T g s)) ≤ T 6 * x) := rfl
    generalize own T g s = o at hJ2 ho hn2 e
    have hla : labs (lN o - lN x) = lN ((o - x) + (x - o)) := labs_sub (by omega) (by omega)
    show mX1_isNearATest_b2 _ _ _ _ _ = _
    unfold mX1_isNearATest_b2
    simp (disch := omega) only [mk_oO o_111, mk_gR f_111_0, mk_gR f_111_1, mk_gR f_111_2, mk_gR f_111_3, mk_gI f_111_4, mk_pI f_111_4, mk_gI f_111_5, mk_pI f_111_5, mk_gL f_111_6, mk_pL f_111_6, mk_gI f_111_7, mk_pI f_111_7, mk_gR f_111_8, mk_gI f_111_9, mk_pI f_111_9, mk_gI f_111_10, mk_pI f_111_10, mk_oO o_100, mk_gR f_100_0, mk_gR f_100_1, mk_gR f_100_2, mk_gI f_100_3, mk_pI f_100_3, mk_gR f_100_4, mk_gR f_100_5, mk_gR f_100_6, mk_gR f_100_7, ↓m_1, ↓m_2, i_0, i_1, i_2, i_3, i_4, i_6, i_5, i_12, i_11, i_10, i_9999, i_7, i_9, i_8, i_24, i_100, i_56, i_48, i_13, i_176, i_232, i_224, i_32, i_999, i_99, i_900, i_97, i_90, i_30, i_20, i_59, i_14, i_50, i_29, i_22, i_19, i_18, i_17, i_96, i_61, i_57, i_51, i_41, i_26, i_2552, i_255, i_25, i_23, i_21, i_16, i_15, i_122, i_10000, i_31, dzF, obs, b2_some, rz0, rz1, rzb, n01, n01', n10, n01e, nI_add, nI_mul, ↓reduceIte, not_false_eq_true, not_true_eq_false, ite_not, leF, hl.1, mk_aLn a_109, hJ2, mk_aLn a_113, hJ, C_slack hT hW hb, hla]
    rw [Nat.mul_comm x (T 6)]
    by_cases c2 : T 6 * x / 100 < (o - x) + (x - o)
    · rw [if_pos ((lL_lt (by omega) (by omega)).mpr c2), hn2, decide_eq_false (by omega), Bool.false_or]; exact e
    · rw [if_neg (fun z => c2 ((lL_lt (by omega) (by omega)).mp z)), hn2, decide_eq_true (by omega), Bool.true_or, if_pos rfl]
theorem C_isNearATest (hT : VT T) (h : CS T g I J) {s : Nat} (hs : s < T 3) {l : List Nat} (hl : LC I J l) (hlen : l.length ≤ 11) (hx : ∀ x ∈ l, x ≤ 300000000000000) : mX1_isNearATest (mk n I J) 111 (nI s) = some (nI (if l.any (nearT (own T g s) (T 6)) = true then 1 else 0), mk n I J) := by
  unfold mX1_isNearATest
  rw [mk_oO o_111]
  exact C_nearL hT h hs hl hlen hx l.length 0 FU (by omega) (by unfold FU; omega)
theorem C_judge (hT : VT T) (h : CS T g I J) {s : Nat} (hs : s < T 3) : ∃ I' J', mX1_judge (mk n I J) 111 (nI s) = some (nI (ownW T g s), mk n I' J') ∧ GF I J I' J' := by
  have b0 := hT.1
  have hW := h.1
  have c0 := hT.sbo hs
  unfold mX1_judge
  by_cases c1 : T (56 + 12 * s + 6) = 0
  · have c1' : ¬ T (56 + 12 * s + 6) = 1 := by omega
    by_cases c2 : btw T s
    · obtain ⟨I1, J1, e1, q1, l1⟩ := C_gatherTests (n := n) hT h hs
      have h1 := h.gf hT q1
      have hlen := tests_len (g := g) hT hs
      have e2 := C_isNearATest (n := n) hT h1 hs l1 hlen (tests_le hT hs)
      refine ⟨I1, J1, ?_, q1⟩
      by_cases c4 : (tests T g s).length = 0
      · have c3 : ¬ (tests T g s).any (nearT (own T g s) (T 6)) = true := by rw [List.length_eq_zero_iff.mp c4]; simp
        have hw : ownW T g s = 12 := by unfold ownW; rw [if_neg c1', if_pos c2, if_neg c3, if_pos c4]
        simp (disch := omega) only [mk_oO o_111, mk_gR f_111_0, mk_gR f_111_1, mk_gR f_111_2, mk_gR f_111_3, mk_gI f_111_4, mk_pI f_111_4, mk_gI f_111_5, mk_pI f_111_5, mk_gL f_111_6, mk_pL f_111_6, mk_gI f_111_7, mk_pI f_111_7, mk_gR f_111_8, mk_gI f_111_9, mk_pI f_111_9, mk_gI f_111_10, mk_pI f_111_10, mk_oO o_0, mk_oO o_1, mk_oO o_3, mk_gR f_0_0, mk_gR f_0_1, mk_gR f_0_2, mk_gR f_0_3, mk_gR f_0_4, mk_gR f_0_5, mk_gR f_0_6, mk_gR f_0_7, mk_gR f_0_8, mk_gR f_0_9, mk_gI f_0_10, mk_pI f_0_10, mk_gR f_1_0, mk_gI f_1_1, mk_pI f_1_1, mk_gR f_3_0, mk_gR f_3_1, mk_gR f_3_2, mk_gR f_3_3, mk_gR f_3_4, mk_gR f_3_5, mk_gR f_3_6, mk_gR f_3_7, ↓m_1, ↓m_2, i_0, i_1, i_2, i_3, i_4, i_6, i_5, i_12, i_11, i_10, i_9999, i_7, i_9, i_8, i_24, i_100, i_56, i_48, i_13, i_176, i_232, i_224, i_32, i_999, i_99, i_900, i_97, i_90, i_30, i_20, i_59, i_14, i_50, i_29, i_22, i_19, i_18, i_17, i_96, i_61, i_57, i_51, i_41, i_26, i_2552, i_255, i_25, i_23, i_21, i_16, i_15, i_122, i_10000, i_31, dzF, obs, b2_some, rz0, rz1, rzb, n01, n01', n10, n01e, nI_add, nI_mul, ↓reduceIte, not_false_eq_true, not_true_eq_false, ite_not, R_18, CW_s hT hW, c1, C_isAmongKin hT h, if_pos c2, e1, l1.1, c4, hw]
      · by_cases c3 : (tests T g s).any (nearT (own T g s) (T 6)) = true
        · have hw : ownW T g s = 0 := by unfold ownW; rw [if_neg c1', if_pos c2, if_pos c3]
          simp (disch := omega) only [mk_oO o_111, mk_gR f_111_0, mk_gR f_111_1, mk_gR f_111_2, mk_gR f_111_3, mk_gI f_111_4, mk_pI f_111_4, mk_gI f_111_5, mk_pI f_111_5, mk_gL f_111_6, mk_pL f_111_6, mk_gI f_111_7, mk_pI f_111_7, mk_gR f_111_8, mk_gI f_111_9, mk_pI f_111_9, mk_gI f_111_10, mk_pI f_111_10, mk_oO o_0, mk_oO o_1, mk_oO o_3, mk_gR f_0_0, mk_gR f_0_1, mk_gR f_0_2, mk_gR f_0_3, mk_gR f_0_4, mk_gR f_0_5, mk_gR f_0_6, mk_gR f_0_7, mk_gR f_0_8, mk_gR f_0_9, mk_gI f_0_10, mk_pI f_0_10, mk_gR f_1_0, mk_gI f_1_1, mk_pI f_1_1, mk_gR f_3_0, mk_gR f_3_1, mk_gR f_3_2, mk_gR f_3_3, mk_gR f_3_4, mk_gR f_3_5, mk_gR f_3_6, mk_gR f_3_7, ↓m_1, ↓m_2, i_0, i_1, i_2, i_3, i_4, i_6, i_5, i_12, i_11, i_10, i_9999, i_7, i_9, i_8, i_24, i_100, i_56, i_48, i_13, i_176, i_232, i_224, i_32, i_999, i_99, i_900, i_97, i_90, i_30, i_20, i_59, i_14, i_50, i_29, i_22, i_19, i_18, i_17, i_96, i_61, i_57, i_51, i_41, i_26, i_2552, i_255, i_25, i_23, i_21, i_16, i_15, i_122, i_10000, i_31, dzF, obs, b2_some, rz0, rz1, rzb, n01, n01', n10, n01e, nI_add, nI_mul, ↓reduceIte, not_false_eq_true, not_true_eq_false, ite_not, R_18, CW_s hT hW, c1, C_isAmongKin hT h, if_pos c2, e1, l1.1, eqF, e2, if_pos c3, hw]
        · have hw : ownW T g s = 13 := by unfold ownW; rw [if_neg c1', if_pos c2, if_neg c3, if_neg c4]
          simp (disch := omega) only [mk_oO o_111, mk_gR f_111_0, mk_gR f_111_1, mk_gR f_111_2, mk_gR f_111_3, mk_gI f_111_4, mk_pI f_111_4, mk_gI f_111_5, mk_pI f_111_5, mk_gL f_111_6, mk_pL f_111_6, mk_gI f_111_7, mk_pI f_111_7, mk_gR f_111_8, mk_gI f_111_9, mk_pI f_111_9, mk_gI f_111_10, mk_pI f_111_10, mk_oO o_0, mk_oO o_1, mk_oO o_3, mk_gR f_0_0, mk_gR f_0_1, mk_gR f_0_2, mk_gR f_0_3, mk_gR f_0_4, mk_gR f_0_5, mk_gR f_0_6, mk_gR f_0_7, mk_gR f_0_8, mk_gR f_0_9, mk_gI f_0_10, mk_pI f_0_10, mk_gR f_1_0, mk_gI f_1_1, mk_pI f_1_1, mk_gR f_3_0, mk_gR f_3_1, mk_gR f_3_2, mk_gR f_3_3, mk_gR f_3_4, mk_gR f_3_5, mk_gR f_3_6, mk_gR f_3_7, ↓m_1, ↓m_2, i_0, i_1, i_2, i_3, i_4, i_6, i_5, i_12, i_11, i_10, i_9999, i_7, i_9, i_8, i_24, i_100, i_56, i_48, i_13, i_176, i_232, i_224, i_32, i_999, i_99, i_900, i_97, i_90, i_30, i_20, i_59, i_14, i_50, i_29, i_22, i_19, i_18, i_17, i_96, i_61, i_57, i_51, i_41, i_26, i_2552, i_255, i_25, i_23, i_21, i_16, i_15, i_122, i_10000, i_31, dzF, obs, b2_some, rz0, rz1, rzb, n01, n01', n10, n01e, nI_add, nI_mul, ↓reduceIte, not_false_eq_true, not_true_eq_false, ite_not, R_18, CW_s hT hW, c1, C_isAmongKin hT h, if_pos c2, e1, l1.1, eqF, e2, if_neg c3, hw]
    · refine ⟨I, J, ?_, GF.refl I J⟩
      have hw : ownW T g s = 0 := by unfold ownW; rw [if_neg c1', if_neg c2]
      simp (disch := omega) only [mk_oO o_111, mk_gR f_111_0, mk_gR f_111_1, mk_gR f_111_2, mk_gR f_111_3, mk_gI f_111_4, mk_pI f_111_4, mk_gI f_111_5, mk_pI f_111_5, mk_gL f_111_6, mk_pL f_111_6, mk_gI f_111_7, mk_pI f_111_7, mk_gR f_111_8, mk_gI f_111_9, mk_pI f_111_9, mk_gI f_111_10, mk_pI f_111_10, mk_oO o_0, mk_oO o_1, mk_oO o_3, mk_gR f_0_0, mk_gR f_0_1, mk_gR f_0_2, mk_gR f_0_3, mk_gR f_0_4, mk_gR f_0_5, mk_gR f_0_6, mk_gR f_0_7, mk_gR f_0_8, mk_gR f_0_9, mk_gI f_0_10, mk_pI f_0_10, mk_gR f_1_0, mk_gI f_1_1, mk_pI f_1_1, mk_gR f_3_0, mk_gR f_3_1, mk_gR f_3_2, mk_gR f_3_3, mk_gR f_3_4, mk_gR f_3_5, mk_gR f_3_6, mk_gR f_3_7, ↓m_1, ↓m_2, i_0, i_1, i_2, i_3, i_4, i_6, i_5, i_12, i_11, i_10, i_9999, i_7, i_9, i_8, i_24, i_100, i_56, i_48, i_13, i_176, i_232, i_224, i_32, i_999, i_99, i_900, i_97, i_90, i_30, i_20, i_59, i_14, i_50, i_29, i_22, i_19, i_18, i_17, i_96, i_61, i_57, i_51, i_41, i_26, i_2552, i_255, i_25, i_23, i_21, i_16, i_15, i_122, i_10000, i_31, dzF, obs, b2_some, rz0, rz1, rzb, n01, n01', n10, n01e, nI_add, nI_mul, ↓reduceIte, not_false_eq_true, not_true_eq_false, ite_not, R_18, CW_s hT hW, c1, C_isAmongKin hT h, if_neg c2, hw]
  · refine ⟨I, J, ?_, GF.refl I J⟩
    have hw : ownW T g s = 11 := if_pos (by omega)
    simp (disch := omega) only [mk_oO o_111, mk_gR f_111_0, mk_gR f_111_1, mk_gR f_111_2, mk_gR f_111_3, mk_gI f_111_4, mk_pI f_111_4, mk_gI f_111_5, mk_pI f_111_5, mk_gL f_111_6, mk_pL f_111_6, mk_gI f_111_7, mk_pI f_111_7, mk_gR f_111_8, mk_gI f_111_9, mk_pI f_111_9, mk_gI f_111_10, mk_pI f_111_10, mk_oO o_0, mk_oO o_1, mk_oO o_3, mk_gR f_0_0, mk_gR f_0_1, mk_gR f_0_2, mk_gR f_0_3, mk_gR f_0_4, mk_gR f_0_5, mk_gR f_0_6, mk_gR f_0_7, mk_gR f_0_8, mk_gR f_0_9, mk_gI f_0_10, mk_pI f_0_10, mk_gR f_1_0, mk_gI f_1_1, mk_pI f_1_1, mk_gR f_3_0, mk_gR f_3_1, mk_gR f_3_2, mk_gR f_3_3, mk_gR f_3_4, mk_gR f_3_5, mk_gR f_3_6, mk_gR f_3_7, ↓m_1, ↓m_2, i_0, i_1, i_2, i_3, i_4, i_6, i_5, i_12, i_11, i_10, i_9999, i_7, i_9, i_8, i_24, i_100, i_56, i_48, i_13, i_176, i_232, i_224, i_32, i_999, i_99, i_900, i_97, i_90, i_30, i_20, i_59, i_14, i_50, i_29, i_22, i_19, i_18, i_17, i_96, i_61, i_57, i_51, i_41, i_26, i_2552, i_255, i_25, i_23, i_21, i_16, i_15, i_122, i_10000, i_31, dzF, obs, b2_some, rz0, rz1, rzb, n01, n01', n10, n01e, nI_add, nI_mul, ↓reduceIte, not_false_eq_true, not_true_eq_false, ite_not, R_18, CW_s hT hW, eqF, hw]
/-- the ladder has looked -/
def LL (T : Nat → Nat) (g : Nat) (I : Nat → Nat → Int32) (J : Nat → Nat → Int64) : Prop := CS T g I J ∧ ∀ s, s < T 3 → I 112 s = nI (ownW T g s)
theorem C_llL (hT : VT T) : ∀ (k t fu : Nat) (I : Nat → Nat → Int32) (J : Nat → Nat → Int64), t + k = T 3 → k < fu → CS T g I J → (∀ s, s < t → I 112 s = nI (ownW T g s)) → ∃ I' J', mX1_look_L10 fu (mk n I J) 111 (nI t) = some (mk n I' J') ∧ Fx SD I I' ∧ FJ SDJ J J' ∧ LL T g I' J' := by
  have b0 := hT.1
  intro k
  induction k with
  | zero =>
    intro t fu I J ht hf h hl
    obtain ⟨fu, rfl⟩ : ∃ f, fu = f + 1 := ⟨fu - 1, by omega⟩
    have hW := h.1
    refine ⟨I, J, ?_, Fx.refl I, FJ.refl J, h, fun s hs => hl s (by omega)⟩
    show mX1_look_b10 _ _ _ _ = _
    unfold mX1_look_b10
    simp (disch := omega) only [mk_oO o_111, mk_gR f_111_0, mk_gR f_111_1, mk_gR f_111_2, mk_gR f_111_3, mk_gI f_111_4, mk_pI f_111_4, mk_gI f_111_5, mk_pI f_111_5, mk_gL f_111_6, mk_pL f_111_6, mk_gI f_111_7, mk_pI f_111_7, mk_gR f_111_8, mk_gI f_111_9, mk_pI f_111_9, mk_gI f_111_10, mk_pI f_111_10, mk_oO o_0, mk_oO o_1, mk_oO o_3, mk_gR f_0_0, mk_gR f_0_1, mk_gR f_0_2, mk_gR f_0_3, mk_gR f_0_4, mk_gR f_0_5, mk_gR f_0_6, mk_gR f_0_7, mk_gR f_0_8, mk_gR f_0_9, mk_gI f_0_10, mk_pI f_0_10, mk_gR f_1_0, mk_gI f_1_1, mk_pI f_1_1, mk_gR f_3_0, mk_gR f_3_1, mk_gR f_3_2, mk_gR f_3_3, mk_gR f_3_4, mk_gR f_3_5, mk_gR f_3_6, mk_gR f_3_7, ↓m_1, ↓m_2, i_0, i_1, i_2, i_3, i_4, i_6, i_5, i_12, i_11, i_10, i_9999, i_7, i_9, i_8, i_24, i_100, i_56, i_48, i_13, i_176, i_232, i_224, i_32, i_999, i_99, i_900, i_97, i_90, i_30, i_20, i_59, i_14, i_50, i_29, i_22, i_19, i_18, i_17, i_96, i_61, i_57, i_51, i_41, i_26, i_2552, i_255, i_25, i_23, i_21, i_16, i_15, i_122, i_10000, i_31, dzF, obs, b2_some, rz0, rz1, rzb, n01, n01', n10, n01e, nI_add, nI_mul, ↓reduceIte, not_false_eq_true, not_true_eq_false, ite_not, leT, CW_t hW]
  | succ k ih =>
    intro t fu I J ht hf h hl
    obtain ⟨fu, rfl⟩ : ∃ f, fu = f + 1 := ⟨fu - 1, by omega⟩
    have hW := h.1
    obtain ⟨I1, J1, e1, q1⟩ := C_judge (n := n) hT h (by omega : t < T 3)
    have f2 : Fx SD I (u2 I1 112 t (nI (ownW T g t))) := (q1.1.mono SG_SD).trans (Fx_u2 _ _ (by unfold SD; omega))
    obtain ⟨I', J', e, p1, p2, p3⟩ := ih (t + 1) fu (u2 I1 112 t (nI (ownW T g t))) J1 (by omega) (by omega) (h.fd hT f2 (q1.2.sub SGJ_SDJ)) (fun s hs => by
      by_cases hst : s = t
      · subst hst; rw [u2_at]
      · rw [u2_no _ _ (by omega), q1.1 _ _ (by unfold SG; omega)]; exact hl s (by omega))
    refine ⟨I', J', ?_, f2.trans p1, (q1.2.sub SGJ_SDJ).trans p2, p3⟩
    show mX1_look_b10 _ _ _ _ = _
    unfold mX1_look_b10
    simp (disch := omega) only [mk_oO o_111, mk_gR f_111_0, mk_gR f_111_1, mk_gR f_111_2, mk_gR f_111_3, mk_gI f_111_4, mk_pI f_111_4, mk_gI f_111_5, mk_pI f_111_5, mk_gL f_111_6, mk_pL f_111_6, mk_gI f_111_7, mk_pI f_111_7, mk_gR f_111_8, mk_gI f_111_9, mk_pI f_111_9, mk_gI f_111_10, mk_pI f_111_10, mk_oO o_0, mk_oO o_1, mk_oO o_3, mk_gR f_0_0, mk_gR f_0_1, mk_gR f_0_2, mk_gR f_0_3, mk_gR f_0_4, mk_gR f_0_5, mk_gR f_0_6, mk_gR f_0_7, mk_gR f_0_8, mk_gR f_0_9, mk_gI f_0_10, mk_pI f_0_10, mk_gR f_1_0, mk_gI f_1_1, mk_pI f_1_1, mk_gR f_3_0, mk_gR f_3_1, mk_gR f_3_2, mk_gR f_3_3, mk_gR f_3_4, mk_gR f_3_5, mk_gR f_3_6, mk_gR f_3_7, ↓m_1, ↓m_2, i_0, i_1, i_2, i_3, i_4, i_6, i_5, i_12, i_11, i_10, i_9999, i_7, i_9, i_8, i_24, i_100, i_56, i_48, i_13, i_176, i_232, i_224, i_32, i_999, i_99, i_900, i_97, i_90, i_30, i_20, i_59, i_14, i_50, i_29, i_22, i_19, i_18, i_17, i_96, i_61, i_57, i_51, i_41, i_26, i_2552, i_255, i_25, i_23, i_21, i_16, i_15, i_122, i_10000, i_31, dzF, obs, b2_some, rz0, rz1, rzb, n01, n01', n10, n01e, nI_add, nI_mul, ↓reduceIte, not_false_eq_true, not_true_eq_false, ite_not, leF, CW_t hW, e1, mk_sIn a_112]
    exact e
theorem C_llook (hT : VT T) (h : WR I 3 T) : ∃ I' J', mX1_look (mk n I J) 111 (goN g) = some (mk n I' J') ∧ Fx SC I I' ∧ FJ SCJ J J' ∧ LL T g I' J' := by
  have b0 := hT.1
  obtain ⟨I1, J1, e1, f1, j1, l1⟩ := C_look (n := n) (J := J) (g := g) hT h
  obtain ⟨I2, J2, e2, f2, j2, l2⟩ := C_llL (n := n) hT (T 3) 0 FU I1 J1 (by omega) (by unfold FU; omega) ⟨h.fc hT f1, l1⟩ (fun s hs => absurd hs (Nat.not_lt_zero _))
  refine ⟨I2, J2, ?_, f1.trans (f2.mono SD_SC), j1.trans (j2.sub SDJ_SCJ), l2⟩
  unfold mX1_look
  simp (disch := omega) only [mk_oO o_111, mk_gR f_111_0, mk_gR f_111_1, mk_gR f_111_2, mk_gR f_111_3, mk_gI f_111_4, mk_pI f_111_4, mk_gI f_111_5, mk_pI f_111_5, mk_gL f_111_6, mk_pL f_111_6, mk_gI f_111_7, mk_pI f_111_7, mk_gR f_111_8, mk_gI f_111_9, mk_pI f_111_9, mk_gI f_111_10, mk_pI f_111_10, ↓m_1, ↓m_2, i_0, i_1, i_2, i_3, i_4, i_6, i_5, i_12, i_11, i_10, i_9999, i_7, i_9, i_8, i_24, i_100, i_56, i_48, i_13, i_176, i_232, i_224, i_32, i_999, i_99, i_900, i_97, i_90, i_30, i_20, i_59, i_14, i_50, i_29, i_22, i_19, i_18, i_17, i_96, i_61, i_57, i_51, i_41, i_26, i_2552, i_255, i_25, i_23, i_21, i_16, i_15, i_122, i_10000, i_31, dzF, obs, b2_some, rz0, rz1, rzb, n01, n01', n10, n01e, nI_add, nI_mul, ↓reduceIte, not_false_eq_true, not_true_eq_false, ite_not, e1]
  exact e2
end LA
