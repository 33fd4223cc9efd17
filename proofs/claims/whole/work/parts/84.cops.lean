/-! ===== 84: the class's steps, without a fault ===== -/
section CP
variable {n : Nat} {b : Nat → Nat} {N q : Nat} {nm : NmL} {I : Nat → Nat → Int32} {J : Nat → Nat → Int64}
theorem tK_le4 (q : Nat) : tK b N q ≤ 4 := by
  unfold tK kdP
  repeat' split
  all_goals omega
theorem CNm.fn {I' : Nat → Nat → Int32} {J' : Nat → Nat → Int64} (h : CNm nm I J) (f : Fn I I') (g : Gn J J') : CNm nm I' J' := ⟨by rw [f _ _ (by omega)]; exact h.1, fun k x hk => by rw [f 96 k (by omega), f 97 k (by omega), g 95 k (by omega)]; exact h.2 k x hk⟩
/-- a fault is met at the token behind q -/
theorem CRd.bad {I1 : Nat → Nat → Int32} {J1 : Nat → Nat → Int64} (h : CRd b N q nm I J) (f1 : Fn I I1) (g1 : Gn J J1) (a3 : I1 98 3 = nI (tE b N q)) {k : Nat} (hk : 1 ≤ k ∧ k < 8) : FRd b N (8 * tP b N q + k) (u2 I1 94 7 (nI (8 * tP b N q + k))) J1 ∧ Fo I (u2 I1 94 7 (nI (8 * tP b N q + k))) ∧ Go J J1 := by
  obtain ⟨h1, h2, h3, h4, h5, h6⟩ := h
  have hN := h1.1
  have hp := tP_in (b := b) h2
  refine ⟨⟨⟨(h1.fn f1 g1).same (fun k => u2_no _ _ (by omega)) (u2_no _ _ (by omega)) (fun _ => rfl), ⟨_, (tE_in h2).2, by rw [u2_no _ _ (by omega)]; exact a3⟩, ⟨nm.length, h6.1, by rw [u2_no _ _ (by omega), f1 _ _ (by omega)]; exact h5.1⟩⟩, u2_at _ _ _ _, by omega, by omega⟩, f1.fo.trans (fun a c z1 z2 z3 z4 => u2_no _ _ (by omega)), g1.go⟩
theorem CRd.ok {I1 : Nat → Nat → Int32} {J1 : Nat → Nat → Int64} (h : CRd b N q nm I J) (f1 : Fn I I1) (g1 : Gn J J1) (a3 : I1 98 3 = nI (tE b N q)) : CRd b N (tE b N q) nm I1 J1 := by
  obtain ⟨h1, h2, h3, h4, h5, h6⟩ := h
  exact ⟨h1.fn f1 g1, (tE_in h2).2, a3, by rw [f1 _ _ (by omega)]; exact h4, h5.fn f1 g1, h6⟩
theorem C_expect (h : CRd b N q nm I J) {x : Nat} (hx : x < 30) (ok : tG b N q = x) : ∃ I' J', mX4_expect (mk n I J) 94 (nI x) = some (mk n I' J') ∧ CRd b N (tE b N q) nm I' J' ∧ Fo I I' ∧ Go J J' := by
  obtain ⟨I1, J1, e, f1, g1, a3, a4, a5, a6, -⟩ := C_next (n := n) h.1 h.2.1 h.2.2.1
  have hg := tG_le (b := b) (N := N) q
  refine ⟨I1, J1, ?_, h.ok f1 g1 a3, f1.fo, g1.go⟩
  unfold mX4_expect
  simp (disch := omega) only [mk_oO o_48, mk_oO o_94, mk_oO o_98, mk_gR f_48_0, mk_gR f_48_1, mk_gR f_48_2, mk_gR f_48_3, mk_gR f_48_4, mk_gR f_48_5, mk_gR f_48_6, mk_gR f_48_7, mk_gR f_94_0, mk_gR f_94_1, mk_gR f_94_2, mk_gR f_94_3, mk_gR f_94_4, mk_gI f_94_5, mk_pI f_94_5, mk_gI f_94_6, mk_pI f_94_6, mk_gI f_94_7, mk_pI f_94_7, mk_gR f_98_0, mk_gR f_98_1, mk_gI f_98_2, mk_pI f_98_2, mk_gI f_98_3, mk_pI f_98_3, mk_gI f_98_4, mk_pI f_98_4, mk_gI f_98_5, mk_pI f_98_5, mk_gI f_98_6, mk_pI f_98_6, mk_gL f_98_7, mk_pL f_98_7, obs, e, a6, ixW_eq, ok, if_true]
theorem C_expectF (h : CRd b N q nm I J) {x : Nat} (hx : x < 30) (no : ¬ tG b N q = x) : ∃ I' J', mX4_expect (mk n I J) 94 (nI x) = some (mk n I' J') ∧ FRd b N (8 * tP b N q + 1) I' J' ∧ Fo I I' ∧ Go J J' := by
  obtain ⟨I1, J1, e, f1, g1, a3, a4, a5, a6, -⟩ := C_next (n := n) h.1 h.2.1 h.2.2.1
  have hg := tG_le (b := b) (N := N) q
  have h7 : I1 94 7 = nI 0 := by rw [f1 _ _ (by omega)]; exact h.2.2.2.1
  refine ⟨_, J1, ?_, h.bad f1 g1 a3 (k := 1) (by omega)⟩
  unfold mX4_expect
  simp (disch := omega) only [mk_oO o_48, mk_oO o_94, mk_oO o_98, mk_gR f_48_0, mk_gR f_48_1, mk_gR f_48_2, mk_gR f_48_3, mk_gR f_48_4, mk_gR f_48_5, mk_gR f_48_6, mk_gR f_48_7, mk_gR f_94_0, mk_gR f_94_1, mk_gR f_94_2, mk_gR f_94_3, mk_gR f_94_4, mk_gI f_94_5, mk_pI f_94_5, mk_gI f_94_6, mk_pI f_94_6, mk_gI f_94_7, mk_pI f_94_7, mk_gR f_98_0, mk_gR f_98_1, mk_gI f_98_2, mk_pI f_98_2, mk_gI f_98_3, mk_pI f_98_3, mk_gI f_98_4, mk_pI f_98_4, mk_gI f_98_5, mk_pI f_98_5, mk_gI f_98_6, mk_pI f_98_6, mk_gL f_98_7, mk_pL f_98_7, obs, e, a6, ixW_eq, no, if_false, i_1, fail0 h7 a4]
theorem C_number (h : CRd b N q nm I J) {lo hi : Nat} (hh : hi ≤ 9999) (ok : tK b N q = 2 ∧ lo ≤ tV b N q ∧ tV b N q ≤ hi) : ∃ I' J', mX4_number (mk n I J) 94 (nI lo) (nI hi) = some (nI (tV b N q), mk n I' J') ∧ CRd b N (tE b N q) nm I' J' ∧ Fo I I' ∧ Go J J' := by
  obtain ⟨I1, J1, e, f1, g1, a3, a4, a5, a6, -, a8⟩ := C_next (n := n) h.1 h.2.1 h.2.2.1
  have hv := (tK_num h.2.1 ok.1).1
  have a8' := a8 ok.1
  have h7 : I1 94 7 = nI 0 := by rw [f1 _ _ (by omega)]; exact h.2.2.2.1
  refine ⟨I1, J1, ?_, h.ok f1 g1 a3, f1.fo, g1.go⟩
  unfold mX4_number mX4_number_b57
  rw [ok.1] at a5
  have c1 : (lN (tV b N q) < lN lo) = False := eq_false (fun z => by have := (lL_lt (by omega) (by omega)).mp z; omega)
  have c2 : (lN (tV b N q) ≤ lN hi) = True := eq_true ((lL_le (by omega) (by omega)).mpr ok.2.2)
  simp (disch := omega) only [mk_oO o_48, mk_oO o_94, mk_oO o_98, mk_gR f_48_0, mk_gR f_48_1, mk_gR f_48_2, mk_gR f_48_3, mk_gR f_48_4, mk_gR f_48_5, mk_gR f_48_6, mk_gR f_48_7, mk_gR f_94_0, mk_gR f_94_1, mk_gR f_94_2, mk_gR f_94_3, mk_gR f_94_4, mk_gI f_94_5, mk_pI f_94_5, mk_gI f_94_6, mk_pI f_94_6, mk_gI f_94_7, mk_pI f_94_7, mk_gR f_98_0, mk_gR f_98_1, mk_gI f_98_2, mk_pI f_98_2, mk_gI f_98_3, mk_pI f_98_3, mk_gI f_98_4, mk_pI f_98_4, mk_gI f_98_5, mk_pI f_98_5, mk_gI f_98_6, mk_pI f_98_6, mk_gL f_98_7, mk_pL f_98_7, ↓m_1, ↓m_2, i_0, i_1, i_2, i_3, i_4, i_6, i_5, i_12, i_11, i_10, i_9999, i_7, i_9, i_8, i_24, i_100, i_56, i_48, i_13, i_176, i_232, i_224, i_32, i_999, i_99, i_900, i_97, i_90, i_30, i_20, i_59, i_14, i_50, i_29, i_22, i_19, i_18, i_17, i_96, i_61, i_57, i_51, i_41, i_26, i_2552, i_255, i_25, i_23, i_21, i_16, i_15, i_122, i_10000, i_31, dzF, obs, b2_some, rz0, rz1, rzb, n01, n01', n10, n01e, nI_add, nI_mul, ↓reduceIte, not_false_eq_true, not_true_eq_false, ite_not, e, a5, a8', nI_l, c1, c2, h7, lN_i]
theorem C_numberF (h : CRd b N q nm I J) {lo hi : Nat} (hh : hi ≤ 9999) (hlo : lo ≤ 10000) (no : ¬ (tK b N q = 2 ∧ lo ≤ tV b N q ∧ tV b N q ≤ hi)) : ∃ I' J', mX4_number (mk n I J) 94 (nI lo) (nI hi) = some (nI lo, mk n I' J') ∧ FRd b N (8 * tP b N q + if tK b N q = 2 then 4 else 1) I' J' ∧ Fo I I' ∧ Go J J' := by
  obtain ⟨I1, J1, e, f1, g1, a3, a4, a5, a6, -, a8⟩ := C_next (n := n) h.1 h.2.1 h.2.2.1
  have h7 : I1 94 7 = nI 0 := by rw [f1 _ _ (by omega)]; exact h.2.2.2.1
  have hk4 := tK_le4 (b := b) (N := N) q
  have hN := h.1.1
  have hp := tP_in (b := b) h.2.1
  unfold mX4_number mX4_number_b52 mX4_number_b57
  by_cases h2 : tK b N q = 2
  · have hv := (tK_num h.2.1 h2).1
    have a8' := a8 h2
    rw [if_pos h2]
    refine ⟨_, J1, ?_, h.bad f1 g1 a3 (k := 4) (by omega)⟩
    rw [h2] at a5
    by_cases hl : tV b N q < lo
    · have c1 : (lN (tV b N q) < lN lo) = True := eq_true ((lL_lt (by omega) (by omega)).mpr hl)
      simp (disch := omega) only [mk_oO o_48, mk_oO o_94, mk_oO o_98, mk_gR f_48_0, mk_gR f_48_1, mk_gR f_48_2, mk_gR f_48_3, mk_gR f_48_4, mk_gR f_48_5, mk_gR f_48_6, mk_gR f_48_7, mk_gR f_94_0, mk_gR f_94_1, mk_gR f_94_2, mk_gR f_94_3, mk_gR f_94_4, mk_gI f_94_5, mk_pI f_94_5, mk_gI f_94_6, mk_pI f_94_6, mk_gI f_94_7, mk_pI f_94_7, mk_gR f_98_0, mk_gR f_98_1, mk_gI f_98_2, mk_pI f_98_2, mk_gI f_98_3, mk_pI f_98_3, mk_gI f_98_4, mk_pI f_98_4, mk_gI f_98_5, mk_pI f_98_5, mk_gI f_98_6, mk_pI f_98_6, mk_gL f_98_7, mk_pL f_98_7, ↓m_1, ↓m_2, i_0, i_1, i_2, i_3, i_4, i_6, i_5, i_12, i_11, i_10, i_9999, i_7, i_9, i_8, i_24, i_100, i_56, i_48, i_13, i_176, i_232, i_224, i_32, i_999, i_99, i_900, i_97, i_90, i_30, i_20, i_59, i_14, i_50, i_29, i_22, i_19, i_18, i_17, i_96, i_61, i_57, i_51, i_41, i_26, i_2552, i_255, i_25, i_23, i_21, i_16, i_15, i_122, i_10000, i_31, dzF, obs, b2_some, rz0, rz1, rzb, n01, n01', n10, n01e, nI_add, nI_mul, ↓reduceIte, not_false_eq_true, not_true_eq_false, ite_not, e, a5, a8', nI_l, c1, fail0 h7 a4, u2_at, eqF]
    · have c1 : (lN (tV b N q) < lN lo) = False := eq_false (fun z => by have := (lL_lt (by omega) (by omega)).mp z; omega)
      have c2 : (lN (tV b N q) ≤ lN hi) = False := eq_false (fun z => by have := (lL_le (by omega) (by omega)).mp z; omega)
      simp (disch := omega) only [mk_oO o_48, mk_oO o_94, mk_oO o_98, mk_gR f_48_0, mk_gR f_48_1, mk_gR f_48_2, mk_gR f_48_3, mk_gR f_48_4, mk_gR f_48_5, mk_gR f_48_6, mk_gR f_48_7, mk_gR f_94_0, mk_gR f_94_1, mk_gR f_94_2, mk_gR f_94_3, mk_gR f_94_4, mk_gI f_94_5, mk_pI f_94_5, mk_gI f_94_6, mk_pI f_94_6, mk_gI f_94_7, mk_pI f_94_7, mk_gR f_98_0, mk_gR f_98_1, mk_gI f_98_2, mk_pI f_98_2, mk_gI f_98_3, mk_pI f_98_3, mk_gI f_98_4, mk_pI f_98_4, mk_gI f_98_5, mk_pI f_98_5, mk_gI f_98_6, mk_pI f_98_6, mk_gL f_98_7, mk_pL f_98_7, ↓m_1, ↓m_2, i_0, i_1, i_2, i_3, i_4, i_6, i_5, i_12, i_11, i_10, i_9999, i_7, i_9, i_8, i_24, i_100, i_56, i_48, i_13, i_176, i_232, i_224, i_32, i_999, i_99, i_900, i_97, i_90, i_30, i_20, i_59, i_14, i_50, i_29, i_22, i_19, i_18, i_17, i_96, i_61, i_57, i_51, i_41, i_26, i_2552, i_255, i_25, i_23, i_21, i_16, i_15, i_122, i_10000, i_31, dzF, obs, b2_some, rz0, rz1, rzb, n01, n01', n10, n01e, nI_add, nI_mul, ↓reduceIte, not_false_eq_true, not_true_eq_false, ite_not, e, a5, a8', nI_l, c1, c2, fail0 h7 a4, u2_at, eqF]
  · rw [if_neg h2]
    refine ⟨_, J1, ?_, h.bad f1 g1 a3 (k := 1) (by omega)⟩
    simp (disch := omega) only [mk_oO o_48, mk_oO o_94, mk_oO o_98, mk_gR f_48_0, mk_gR f_48_1, mk_gR f_48_2, mk_gR f_48_3, mk_gR f_48_4, mk_gR f_48_5, mk_gR f_48_6, mk_gR f_48_7, mk_gR f_94_0, mk_gR f_94_1, mk_gR f_94_2, mk_gR f_94_3, mk_gR f_94_4, mk_gI f_94_5, mk_pI f_94_5, mk_gI f_94_6, mk_pI f_94_6, mk_gI f_94_7, mk_pI f_94_7, mk_gR f_98_0, mk_gR f_98_1, mk_gI f_98_2, mk_pI f_98_2, mk_gI f_98_3, mk_pI f_98_3, mk_gI f_98_4, mk_pI f_98_4, mk_gI f_98_5, mk_pI f_98_5, mk_gI f_98_6, mk_pI f_98_6, mk_gL f_98_7, mk_pL f_98_7, ↓m_1, ↓m_2, i_0, i_1, i_2, i_3, i_4, i_6, i_5, i_12, i_11, i_10, i_9999, i_7, i_9, i_8, i_24, i_100, i_56, i_48, i_13, i_176, i_232, i_224, i_32, i_999, i_99, i_900, i_97, i_90, i_30, i_20, i_59, i_14, i_50, i_29, i_22, i_19, i_18, i_17, i_96, i_61, i_57, i_51, i_41, i_26, i_2552, i_255, i_25, i_23, i_21, i_16, i_15, i_122, i_10000, i_31, dzF, obs, b2_some, rz0, rz1, rzb, n01, n01', n10, n01e, nI_add, nI_mul, ↓reduceIte, not_false_eq_true, not_true_eq_false, ite_not, e, a5, eqF, fail0 h7 a4, u2_at]
theorem C_giveName (h : CRd b N q nm I J) {s c : Nat} (hs : s ≤ 3) (hc : c < 10) (h49 : I 49 s = nI c) (ok : okName b N q) (ok2 : fnd (tW b N q) nm = nm.length) (hl : nm.length < 26) : ∃ I' J', mX4_giveName (mk n I J) 94 (nI s) = some (mk n I' J') ∧ CRd b N (tE b N q) (nm ++ [(tW b N q, s, c)]) I' J' ∧ Fo I I' ∧ Go J J' ∧ J' 98 7 = lN (enc 27 (tW b N q)) := by
  obtain ⟨I1, J1, e, f1, g1, a3, a4, a5, a6, a7, -⟩ := C_next (n := n) h.1 h.2.1 h.2.2.1
  obtain ⟨hw, -, -⟩ := tK_word h.2.1 ok.1
  have a7' := a7 ok.1
  have h1 := h.ok f1 g1 a3
  obtain ⟨k1, k2, k3, k4, k5, k6⟩ := id h1
  have e1 := C_isName (n := n) (J := J1) a5 a6
  have e2 := C_fdW (n := n) k5 k6 hw
  rw [if_pos ok2] at e2
  rw [if_pos ok] at e1
  have h491 : I1 49 s = nI c := by rw [f1 _ _ (by omega)]; exact h49
  refine ⟨u2 (u2 (u2 I1 96 nm.length (nI s)) 97 nm.length (nI c)) 94 5 (nI (nm.length + 1)), u2 J1 95 nm.length (lN (enc 27 (tW b N q))), ?_, ⟨k1.same (fun k => by rw [u2_no _ _ (by omega), u2_no _ _ (by omega), u2_no _ _ (by omega)]) (by rw [u2_no _ _ (by omega), u2_no _ _ (by omega), u2_no _ _ (by omega)]) (fun k => u2_no _ _ (by omega)), k2, by rw [u2_no _ _ (by omega), u2_no _ _ (by omega), u2_no _ _ (by omega)]; exact k3, by rw [u2_no _ _ (by omega), u2_no _ _ (by omega), u2_no _ _ (by omega)]; exact k4, ⟨by rw [u2_at, List.length_append]; rfl, fun k x hk => ?_⟩, ?_⟩, f1.fo.trans (fun a c z1 z2 z3 z4 => by rw [u2_no _ _ (by omega), u2_no _ _ (by omega), u2_no _ _ (by omega)]), g1.go.trans (fun a c z1 z2 => u2_no _ _ (by omega)), by rw [u2_no _ _ (by omega)]; exact a7'⟩
  · have k51 := k5.1
    unfold mX4_giveName
    simp (disch := omega) only [mk_oO o_48, mk_oO o_94, mk_oO o_98, mk_gR f_48_0, mk_gR f_48_1, mk_gR f_48_2, mk_gR f_48_3, mk_gR f_48_4, mk_gR f_48_5, mk_gR f_48_6, mk_gR f_48_7, mk_gR f_94_0, mk_gR f_94_1, mk_gR f_94_2, mk_gR f_94_3, mk_gR f_94_4, mk_gI f_94_5, mk_pI f_94_5, mk_gI f_94_6, mk_pI f_94_6, mk_gI f_94_7, mk_pI f_94_7, mk_gR f_98_0, mk_gR f_98_1, mk_gI f_98_2, mk_pI f_98_2, mk_gI f_98_3, mk_pI f_98_3, mk_gI f_98_4, mk_pI f_98_4, mk_gI f_98_5, mk_pI f_98_5, mk_gI f_98_6, mk_pI f_98_6, mk_gL f_98_7, mk_pL f_98_7, ↓m_1, ↓m_2, i_0, i_1, i_2, i_3, i_4, i_6, i_5, i_12, i_11, i_10, i_9999, i_7, i_9, i_8, i_24, i_100, i_56, i_48, i_13, i_176, i_232, i_224, i_32, i_999, i_99, i_900, i_97, i_90, i_30, i_20, i_59, i_14, i_50, i_29, i_22, i_19, i_18, i_17, i_96, i_61, i_57, i_51, i_41, i_26, i_2552, i_255, i_25, i_23, i_21, i_16, i_15, i_122, i_10000, i_31, dzF, obs, b2_some, rz0, rz1, rzb, n01, n01', n10, n01e, nI_add, nI_mul, ↓reduceIte, not_false_eq_true, not_true_eq_false, ite_not, e, e1, a7', e2, k51, leF, mk_sLn a_95, mk_sIn a_96, u2_no, mk_aIn a_49, h491, mk_sIn a_97]
  · by_cases hk1 : k < nm.length
    · rw [List.getElem?_append_left hk1] at hk
      rw [u2_no _ _ (by omega), u2_no _ _ (by omega), u2_no _ _ (by omega), u2_no _ _ (by omega), u2_no _ _ (by omega), u2_no _ _ (by omega), u2_no _ _ (by omega)]
      exact k5.2 k x hk
    · rw [List.getElem?_append_right (by omega)] at hk
      have hk2 : k = nm.length := by
        have := (List.getElem?_eq_some_iff.mp hk).1
        simp only [List.length_cons, List.length_nil] at this
        omega
      subst hk2
      simp only [Nat.sub_self, List.getElem?_cons_zero, Option.some.injEq] at hk
      subst hk
      exact ⟨u2_at _ _ _ _, by rw [u2_no _ _ (by omega), u2_no _ _ (by omega), u2_at], by rw [u2_no _ _ (by omega), u2_at]⟩
  · refine ⟨by rw [List.length_append]; simp only [List.length_cons, List.length_nil]; omega, fun x hx => ?_, fun i j x y hij hi hj => ?_⟩
    · rcases List.mem_append.mp hx with z | z
      · exact k6.2.1 x z
      · rw [List.mem_singleton.mp z]; exact ⟨hw, hs, hc⟩
    · have hjl := (List.getElem?_eq_some_iff.mp hj).1
      rw [List.length_append] at hjl
      simp only [List.length_cons, List.length_nil] at hjl
      rw [List.getElem?_append_left (by omega)] at hi
      by_cases hj1 : j < nm.length
      · rw [List.getElem?_append_left hj1] at hj
        exact k6.2.2 i j x y hij hi hj
      · rw [List.getElem?_append_right (by omega), show j - nm.length = 0 by omega] at hj
        simp only [List.getElem?_cons_zero, Option.some.injEq] at hj
        subst hj
        have hil : i < nm.length := by omega
        rw [List.getElem?_eq_getElem hil] at hi
        cases hi
        exact fnd_no _ nm ok2 i hil
theorem C_giveNameF (h : CRd b N q nm I J) {s : Nat} (no : ¬ (okName b N q ∧ fnd (tW b N q) nm = nm.length)) : ∃ I' J', mX4_giveName (mk n I J) 94 (nI s) = some (mk n I' J') ∧ FRd b N (8 * tP b N q + if okName b N q then 2 else 1) I' J' ∧ Fo I I' ∧ Go J J' := by
  obtain ⟨I1, J1, e, f1, g1, a3, a4, a5, a6, a7, -⟩ := C_next (n := n) h.1 h.2.1 h.2.2.1
  have h7 : I1 94 7 = nI 0 := by rw [f1 _ _ (by omega)]; exact h.2.2.2.1
  have e1 := C_isName (n := n) (J := J1) a5 a6
  unfold mX4_giveName
  by_cases ok : okName b N q
  · rw [if_pos ok] at e1 ⊢
    obtain ⟨hw, -, -⟩ := tK_word h.2.1 ok.1
    have a7' := a7 ok.1
    have h1 := h.ok f1 g1 a3
    have e2 := C_fdW (n := n) h1.2.2.2.2.1 h1.2.2.2.2.2 hw
    have hn : ¬ fnd (tW b N q) nm = nm.length := fun z => no ⟨ok, z⟩
    have hl := fnd_le (tW b N q) nm
    have h26 := h.2.2.2.2.2.1
    rw [if_neg hn] at e2
    refine ⟨_, J1, ?_, h.bad f1 g1 a3 (k := 2) (by omega)⟩
    simp (disch := omega) only [mk_oO o_48, mk_oO o_94, mk_oO o_98, mk_gR f_48_0, mk_gR f_48_1, mk_gR f_48_2, mk_gR f_48_3, mk_gR f_48_4, mk_gR f_48_5, mk_gR f_48_6, mk_gR f_48_7, mk_gR f_94_0, mk_gR f_94_1, mk_gR f_94_2, mk_gR f_94_3, mk_gR f_94_4, mk_gI f_94_5, mk_pI f_94_5, mk_gI f_94_6, mk_pI f_94_6, mk_gI f_94_7, mk_pI f_94_7, mk_gR f_98_0, mk_gR f_98_1, mk_gI f_98_2, mk_pI f_98_2, mk_gI f_98_3, mk_pI f_98_3, mk_gI f_98_4, mk_pI f_98_4, mk_gI f_98_5, mk_pI f_98_5, mk_gI f_98_6, mk_pI f_98_6, mk_gL f_98_7, mk_pL f_98_7, ↓m_1, ↓m_2, i_0, i_1, i_2, i_3, i_4, i_6, i_5, i_12, i_11, i_10, i_9999, i_7, i_9, i_8, i_24, i_100, i_56, i_48, i_13, i_176, i_232, i_224, i_32, i_999, i_99, i_900, i_97, i_90, i_30, i_20, i_59, i_14, i_50, i_29, i_22, i_19, i_18, i_17, i_96, i_61, i_57, i_51, i_41, i_26, i_2552, i_255, i_25, i_23, i_21, i_16, i_15, i_122, i_10000, i_31, dzF, obs, b2_some, rz0, rz1, rzb, n01, n01', n10, n01e, nI_add, nI_mul, ↓reduceIte, not_false_eq_true, not_true_eq_false, ite_not, e, e1, a7', e2, nM1, fail0 h7 a4]
  · rw [if_neg ok] at e1 ⊢
    refine ⟨_, J1, ?_, h.bad f1 g1 a3 (k := 1) (by omega)⟩
    simp (disch := omega) only [mk_oO o_48, mk_oO o_94, mk_oO o_98, mk_gR f_48_0, mk_gR f_48_1, mk_gR f_48_2, mk_gR f_48_3, mk_gR f_48_4, mk_gR f_48_5, mk_gR f_48_6, mk_gR f_48_7, mk_gR f_94_0, mk_gR f_94_1, mk_gR f_94_2, mk_gR f_94_3, mk_gR f_94_4, mk_gI f_94_5, mk_pI f_94_5, mk_gI f_94_6, mk_pI f_94_6, mk_gI f_94_7, mk_pI f_94_7, mk_gR f_98_0, mk_gR f_98_1, mk_gI f_98_2, mk_pI f_98_2, mk_gI f_98_3, mk_pI f_98_3, mk_gI f_98_4, mk_pI f_98_4, mk_gI f_98_5, mk_pI f_98_5, mk_gI f_98_6, mk_pI f_98_6, mk_gL f_98_7, mk_pL f_98_7, ↓m_1, ↓m_2, i_0, i_1, i_2, i_3, i_4, i_6, i_5, i_12, i_11, i_10, i_9999, i_7, i_9, i_8, i_24, i_100, i_56, i_48, i_13, i_176, i_232, i_224, i_32, i_999, i_99, i_900, i_97, i_90, i_30, i_20, i_59, i_14, i_50, i_29, i_22, i_19, i_18, i_17, i_96, i_61, i_57, i_51, i_41, i_26, i_2552, i_255, i_25, i_23, i_21, i_16, i_15, i_122, i_10000, i_31, dzF, obs, b2_some, rz0, rz1, rzb, n01, n01', n10, n01e, nI_add, nI_mul, ↓reduceIte, not_false_eq_true, not_true_eq_false, ite_not, e, e1, fail0 h7 a4]
/-- the number of the one of a sort that is named -/
abbrev isT (b : Nat → Nat) (N q : Nat) (nm : NmL) (s c : Nat) : Prop := okName b N q ∧ ∃ x, nm[fnd (tW b N q) nm]? = some x ∧ x.2.1 = s ∧ x.2.2 = c
theorem C_toldOf (h : CRd b N q nm I J) {s c : Nat} (ok : isT b N q nm s c) : ∃ I' J', mX4_toldOf (mk n I J) 94 (nI s) = some (nI c, mk n I' J') ∧ CRd b N (tE b N q) nm I' J' ∧ Fo I I' ∧ Go J J' ∧ I' 98 4 = nI (tP b N q) := by
  obtain ⟨I1, J1, e, f1, g1, a3, a4, a5, a6, a7, -⟩ := C_next (n := n) h.1 h.2.1 h.2.2.1
  obtain ⟨ok1, x, hx, x1, x2⟩ := ok
  obtain ⟨hw, -, -⟩ := tK_word h.2.1 ok1.1
  have a7' := a7 ok1.1
  have h1 := h.ok f1 g1 a3
  have hlt := (List.getElem?_eq_some_iff.mp hx).1
  have e1 := C_isName (n := n) (J := J1) a5 a6
  have e2 := C_fdW (n := n) h1.2.2.2.2.1 h1.2.2.2.2.2 hw
  have h26 := h.2.2.2.2.2.1
  rw [if_neg (by omega)] at e2
  rw [if_pos ok1] at e1
  obtain ⟨-, y1, y2⟩ := h1.2.2.2.2.1.2 _ x hx
  have h7 : I1 94 7 = nI 0 := h1.2.2.2.1
  rw [x1] at y1
  rw [x2] at y2
  refine ⟨I1, J1, ?_, h1, f1.fo, g1.go, a4⟩
  unfold mX4_toldOf mX4_toldOf_b57
  simp (disch := omega) only [mk_oO o_48, mk_oO o_94, mk_oO o_98, mk_gR f_48_0, mk_gR f_48_1, mk_gR f_48_2, mk_gR f_48_3, mk_gR f_48_4, mk_gR f_48_5, mk_gR f_48_6, mk_gR f_48_7, mk_gR f_94_0, mk_gR f_94_1, mk_gR f_94_2, mk_gR f_94_3, mk_gR f_94_4, mk_gI f_94_5, mk_pI f_94_5, mk_gI f_94_6, mk_pI f_94_6, mk_gI f_94_7, mk_pI f_94_7, mk_gR f_98_0, mk_gR f_98_1, mk_gI f_98_2, mk_pI f_98_2, mk_gI f_98_3, mk_pI f_98_3, mk_gI f_98_4, mk_pI f_98_4, mk_gI f_98_5, mk_pI f_98_5, mk_gI f_98_6, mk_pI f_98_6, mk_gL f_98_7, mk_pL f_98_7, ↓m_1, ↓m_2, i_0, i_1, i_2, i_3, i_4, i_6, i_5, i_12, i_11, i_10, i_9999, i_7, i_9, i_8, i_24, i_100, i_56, i_48, i_13, i_176, i_232, i_224, i_32, i_999, i_99, i_900, i_97, i_90, i_30, i_20, i_59, i_14, i_50, i_29, i_22, i_19, i_18, i_17, i_96, i_61, i_57, i_51, i_41, i_26, i_2552, i_255, i_25, i_23, i_21, i_16, i_15, i_122, i_10000, i_31, dzF, obs, b2_some, rz0, rz1, rzb, n01, n01', n10, n01e, nI_add, nI_mul, ↓reduceIte, not_false_eq_true, not_true_eq_false, ite_not, e, e1, a7', e2, nM1, mk_aIn a_96, y1, h7, mk_aIn a_97, y2]
theorem C_toldOfF (h : CRd b N q nm I J) {s : Nat} (hs : s ≤ 3) (no : ¬ ∃ c, isT b N q nm s c) : ∃ I' J', mX4_toldOf (mk n I J) 94 (nI s) = some (nI 0, mk n I' J') ∧ FRd b N (8 * tP b N q + if okName b N q then 3 else 1) I' J' ∧ Fo I I' ∧ Go J J' := by
  obtain ⟨I1, J1, e, f1, g1, a3, a4, a5, a6, a7, -⟩ := C_next (n := n) h.1 h.2.1 h.2.2.1
  have h1 := h.ok f1 g1 a3
  have h7 : I1 94 7 = nI 0 := h1.2.2.2.1
  have e1 := C_isName (n := n) (J := J1) a5 a6
  have hN := h.1.1
  have hp := tP_in (b := b) h.2.1
  have h26 := h.2.2.2.2.2.1
  have e57 : ∀ (k : Nat) (x : Int32), 1 ≤ k ∧ k < 8 → mX4_toldOf_b57 (mk n (u2 I1 94 7 (nI (8 * tP b N q + k))) J1) 94 x = some (nI 0, mk n (u2 I1 94 7 (nI (8 * tP b N q + k))) J1) := fun k x hk => by
    unfold mX4_toldOf_b57
    simp (disch := omega) only [mk_oO o_48, mk_oO o_94, mk_oO o_98, mk_gR f_48_0, mk_gR f_48_1, mk_gR f_48_2, mk_gR f_48_3, mk_gR f_48_4, mk_gR f_48_5, mk_gR f_48_6, mk_gR f_48_7, mk_gR f_94_0, mk_gR f_94_1, mk_gR f_94_2, mk_gR f_94_3, mk_gR f_94_4, mk_gI f_94_5, mk_pI f_94_5, mk_gI f_94_6, mk_pI f_94_6, mk_gI f_94_7, mk_pI f_94_7, mk_gR f_98_0, mk_gR f_98_1, mk_gI f_98_2, mk_pI f_98_2, mk_gI f_98_3, mk_pI f_98_3, mk_gI f_98_4, mk_pI f_98_4, mk_gI f_98_5, mk_pI f_98_5, mk_gI f_98_6, mk_pI f_98_6, mk_gL f_98_7, mk_pL f_98_7, ↓m_1, ↓m_2, i_0, i_1, i_2, i_3, i_4, i_6, i_5, i_12, i_11, i_10, i_9999, i_7, i_9, i_8, i_24, i_100, i_56, i_48, i_13, i_176, i_232, i_224, i_32, i_999, i_99, i_900, i_97, i_90, i_30, i_20, i_59, i_14, i_50, i_29, i_22, i_19, i_18, i_17, i_96, i_61, i_57, i_51, i_41, i_26, i_2552, i_255, i_25, i_23, i_21, i_16, i_15, i_122, i_10000, i_31, dzF, obs, b2_some, rz0, rz1, rzb, n01, n01', n10, n01e, nI_add, nI_mul, ↓reduceIte, not_false_eq_true, not_true_eq_false, ite_not, u2_at, eqF]
  unfold mX4_toldOf mX4_toldOf_b52
  by_cases ok : okName b N q
  · rw [if_pos ok] at e1 ⊢
    obtain ⟨hw, -, -⟩ := tK_word h.2.1 ok.1
    have a7' := a7 ok.1
    have e2 := C_fdW (n := n) h1.2.2.2.2.1 h1.2.2.2.2.2 hw
    have hl := fnd_le (tW b N q) nm
    refine ⟨_, J1, ?_, h.bad f1 g1 a3 (k := 3) (by omega)⟩
    by_cases hn : fnd (tW b N q) nm = nm.length
    · rw [if_pos hn] at e2
      simp (disch := omega) only [mk_oO o_48, mk_oO o_94, mk_oO o_98, mk_gR f_48_0, mk_gR f_48_1, mk_gR f_48_2, mk_gR f_48_3, mk_gR f_48_4, mk_gR f_48_5, mk_gR f_48_6, mk_gR f_48_7, mk_gR f_94_0, mk_gR f_94_1, mk_gR f_94_2, mk_gR f_94_3, mk_gR f_94_4, mk_gI f_94_5, mk_pI f_94_5, mk_gI f_94_6, mk_pI f_94_6, mk_gI f_94_7, mk_pI f_94_7, mk_gR f_98_0, mk_gR f_98_1, mk_gI f_98_2, mk_pI f_98_2, mk_gI f_98_3, mk_pI f_98_3, mk_gI f_98_4, mk_pI f_98_4, mk_gI f_98_5, mk_pI f_98_5, mk_gI f_98_6, mk_pI f_98_6, mk_gL f_98_7, mk_pL f_98_7, ↓m_1, ↓m_2, i_0, i_1, i_2, i_3, i_4, i_6, i_5, i_12, i_11, i_10, i_9999, i_7, i_9, i_8, i_24, i_100, i_56, i_48, i_13, i_176, i_232, i_224, i_32, i_999, i_99, i_900, i_97, i_90, i_30, i_20, i_59, i_14, i_50, i_29, i_22, i_19, i_18, i_17, i_96, i_61, i_57, i_51, i_41, i_26, i_2552, i_255, i_25, i_23, i_21, i_16, i_15, i_122, i_10000, i_31, dzF, obs, b2_some, rz0, rz1, rzb, n01, n01', n10, n01e, nI_add, nI_mul, ↓reduceIte, not_false_eq_true, not_true_eq_false, ite_not, e, e1, a7', e2, fail0 h7 a4, e57]
    · rw [if_neg hn] at e2
      have hlt : fnd (tW b N q) nm < nm.length := by omega
      have hx := List.getElem?_eq_getElem hlt
      obtain ⟨-, y1, y2⟩ := h1.2.2.2.2.1.2 _ _ hx
      have hin := h.2.2.2.2.2.2.1 _ (List.getElem_mem hlt)
      have hne : ¬ (nm[fnd (tW b N q) nm]).2.1 = s := fun z => no ⟨_, ok, _, hx, z, rfl⟩
      generalize nm[fnd (tW b N q) nm] = x at *
      simp (disch := omega) only [mk_oO o_48, mk_oO o_94, mk_oO o_98, mk_gR f_48_0, mk_gR f_48_1, mk_gR f_48_2, mk_gR f_48_3, mk_gR f_48_4, mk_gR f_48_5, mk_gR f_48_6, mk_gR f_48_7, mk_gR f_94_0, mk_gR f_94_1, mk_gR f_94_2, mk_gR f_94_3, mk_gR f_94_4, mk_gI f_94_5, mk_pI f_94_5, mk_gI f_94_6, mk_pI f_94_6, mk_gI f_94_7, mk_pI f_94_7, mk_gR f_98_0, mk_gR f_98_1, mk_gI f_98_2, mk_pI f_98_2, mk_gI f_98_3, mk_pI f_98_3, mk_gI f_98_4, mk_pI f_98_4, mk_gI f_98_5, mk_pI f_98_5, mk_gI f_98_6, mk_pI f_98_6, mk_gL f_98_7, mk_pL f_98_7, ↓m_1, ↓m_2, i_0, i_1, i_2, i_3, i_4, i_6, i_5, i_12, i_11, i_10, i_9999, i_7, i_9, i_8, i_24, i_100, i_56, i_48, i_13, i_176, i_232, i_224, i_32, i_999, i_99, i_900, i_97, i_90, i_30, i_20, i_59, i_14, i_50, i_29, i_22, i_19, i_18, i_17, i_96, i_61, i_57, i_51, i_41, i_26, i_2552, i_255, i_25, i_23, i_21, i_16, i_15, i_122, i_10000, i_31, dzF, obs, b2_some, rz0, rz1, rzb, n01, n01', n10, n01e, nI_add, nI_mul, ↓reduceIte, not_false_eq_true, not_true_eq_false, ite_not, e, e1, a7', e2, nM1, mk_aIn a_96, y1, eqF, fail0 h7 a4, e57]
  · rw [if_neg ok] at e1 ⊢
    obtain ⟨m, hm⟩ : ∃ m : Int32, mX4_find (mk n I1 J1) 94 (J1 98 7) = some (m, mk n I1 J1) := by
      rcases C_fd (n := n) (J := J1) h26 h1.2.2.2.2.1.1 (J1 98 7) with ⟨i, -, -, -, i4⟩ | ⟨-, i2⟩
      · exact ⟨_, i4⟩
      · exact ⟨_, i2⟩
    refine ⟨_, J1, ?_, h.bad f1 g1 a3 (k := 1) (by omega)⟩
    simp (disch := omega) only [mk_oO o_48, mk_oO o_94, mk_oO o_98, mk_gR f_48_0, mk_gR f_48_1, mk_gR f_48_2, mk_gR f_48_3, mk_gR f_48_4, mk_gR f_48_5, mk_gR f_48_6, mk_gR f_48_7, mk_gR f_94_0, mk_gR f_94_1, mk_gR f_94_2, mk_gR f_94_3, mk_gR f_94_4, mk_gI f_94_5, mk_pI f_94_5, mk_gI f_94_6, mk_pI f_94_6, mk_gI f_94_7, mk_pI f_94_7, mk_gR f_98_0, mk_gR f_98_1, mk_gI f_98_2, mk_pI f_98_2, mk_gI f_98_3, mk_pI f_98_3, mk_gI f_98_4, mk_pI f_98_4, mk_gI f_98_5, mk_pI f_98_5, mk_gI f_98_6, mk_pI f_98_6, mk_gL f_98_7, mk_pL f_98_7, ↓m_1, ↓m_2, i_0, i_1, i_2, i_3, i_4, i_6, i_5, i_12, i_11, i_10, i_9999, i_7, i_9, i_8, i_24, i_100, i_56, i_48, i_13, i_176, i_232, i_224, i_32, i_999, i_99, i_900, i_97, i_90, i_30, i_20, i_59, i_14, i_50, i_29, i_22, i_19, i_18, i_17, i_96, i_61, i_57, i_51, i_41, i_26, i_2552, i_255, i_25, i_23, i_21, i_16, i_15, i_122, i_10000, i_31, dzF, obs, b2_some, rz0, rz1, rzb, n01, n01', n10, n01e, nI_add, nI_mul, ↓reduceIte, not_false_eq_true, not_true_eq_false, ite_not, e, hm, e1, fail0 h7 a4, e57]
end CP
