/-! ===== 56: the climb ===== -/
/-- what the climb left in the ladder -/
def CLm (T : Nat → Nat) (g s u : Nat) (I : Nat → Nat → Int32) (J : Nat → Nat → Int64) : Prop := I 111 9 = nI (stp T g s u) ∧ (∀ j, j < stp T g s u → I 114 j = nI (byW T g s (mth u j))) ∧ I 111 10 = (if stp T g s u = 6 then nI 0 else nI (mth u (stp T g s u))) ∧ (stp T g s u < 6 → J 111 6 = lN (byV T g s (mth u (stp T g s u))))
theorem ord_t {u k : Nat} (hu : u ≤ 1) (hk : k < 6) : (if nI u = nI 0 then tI 3 (nI k) else tI 4 (nI k)) = some (nI (mth u k)) := by
  rcases (by omega : u = 0 ∨ u = 1) with rfl | rfl <;> rcases (by omega : k = 0 ∨ k = 1 ∨ k = 2 ∨ k = 3 ∨ k = 4 ∨ k = 5) with rfl | rfl | rfl | rfl | rfl | rfl <;> decide +kernel
section CM
variable {n g : Nat} {I : Nat → Nat → Int32} {J : Nat → Nat → Int64} {T : Nat → Nat}
theorem C_climbL (hT : VT T) {s u : Nat} (hs : s < T 3) (hu : u ≤ 1) : ∀ (k t fu : Nat) (I : Nat → Nat → Int32) (J : Nat → Nat → Int64), t + k = 6 → k < fu → LL T g I J → I 111 9 = nI t → (∀ j, j < t → I 114 j = nI (byW T g s (mth u j))) → I 111 10 = nI 0 → stp T g s u = stF (fun k => byW T g s (mth u k)) k t → ∃ I' J', mX1_climb_L12 fu (mk n I J) 111 (nI s) (nI u) (nI t) = some (mk n I' J') ∧ Fx SLd I I' ∧ FJ SKJ J J' ∧ CLm T g s u I' J' := by
  have b0 := hT.1
  intro k
  induction k with
  | zero =>
    intro t fu I J ht hf h h9 hr h10 he
    obtain ⟨fu, rfl⟩ : ∃ f, fu = f + 1 := ⟨fu - 1, by omega⟩
    have h6 : stp T g s u = 6 := by rw [he]; unfold stF; omega
    refine ⟨I, J, ?_, Fx.refl I, FJ.refl J, by rw [h6, h9, show t = 6 by omega], fun j hj => hr j (by omega), by rw [if_pos h6]; exact h10, fun z => absurd z (by omega)⟩
    show mX1_climb_b12 _ _ _ _ _ _ = _
    unfold mX1_climb_b12
    simp (disch := omega) only [↓m_1, ↓m_2, i_0, i_1, i_2, i_3, i_4, i_6, i_5, i_12, i_11, i_10, i_9999, i_7, i_9, i_8, i_24, i_100, i_56, i_48, i_13, i_176, i_232, i_224, i_32, i_999, i_99, i_900, i_97, i_90, i_30, i_20, i_59, i_14, i_50, i_29, i_22, i_19, i_18, i_17, i_96, i_61, i_57, i_51, i_41, i_26, i_2552, i_255, i_25, i_23, i_21, i_16, i_15, i_122, i_10000, i_31, leT, ↓reduceIte]
  | succ k ih =>
    intro t fu I J ht hf h h9 hr h10 he
    obtain ⟨fu, rfl⟩ : ∃ f, fu = f + 1 := ⟨fu - 1, by omega⟩
    have hmi := mth_in (u := u) (by omega : t < 6)
    obtain ⟨I1, J1, e1, f1, j1, a1, a2, a3⟩ := C_ask (n := n) hT h hs hmi.1 hmi.2
    have h1 := h.fl hT (f1.mono SK_SLd) j1
    have hot := ord_t hu (by omega : t < 6)
    have key : ∀ v : Option PH, mX1_climb_b35 (mX1_climb_L12 fu) (mk n I J) 111 (nI s) (nI u) (nI t) (nI (mth u t)) = v → mX1_climb_L12 (fu + 1) (mk n I J) 111 (nI s) (nI u) (nI t) = v := by
      intro v hv
      show mX1_climb_b12 _ _ _ _ _ _ = _
      unfold mX1_climb_b12
      by_cases hz : nI u = nI 0
      · rw [if_pos hz] at hot
        simp (disch := omega) only [↓m_1, ↓m_2, i_0, i_1, i_2, i_3, i_4, i_6, i_5, i_12, i_11, i_10, i_9999, i_7, i_9, i_8, i_24, i_100, i_56, i_48, i_13, i_176, i_232, i_224, i_32, i_999, i_99, i_900, i_97, i_90, i_30, i_20, i_59, i_14, i_50, i_29, i_22, i_19, i_18, i_17, i_96, i_61, i_57, i_51, i_41, i_26, i_2552, i_255, i_25, i_23, i_21, i_16, i_15, i_122, i_10000, i_31, leF, ↓reduceIte, if_pos hz, hot, obs]
        exact hv
      · rw [if_neg hz] at hot
        simp (disch := omega) only [↓m_1, ↓m_2, i_0, i_1, i_2, i_3, i_4, i_6, i_5, i_12, i_11, i_10, i_9999, i_7, i_9, i_8, i_24, i_100, i_56, i_48, i_13, i_176, i_232, i_224, i_32, i_999, i_99, i_900, i_97, i_90, i_30, i_20, i_59, i_14, i_50, i_29, i_22, i_19, i_18, i_17, i_96, i_61, i_57, i_51, i_41, i_26, i_2552, i_255, i_25, i_23, i_21, i_16, i_15, i_122, i_10000, i_31, leF, ↓reduceIte, if_neg hz, hot, obs]
        exact hv
    have g9 : I1 111 9 = nI t := by rw [f1 _ _ (by unfold SK; omega)]; exact h9
    have g10 : I1 111 10 = nI 0 := by rw [f1 _ _ (by unfold SK; omega)]; exact h10
    have gr : ∀ j, j < t → I1 114 j = nI (byW T g s (mth u j)) := fun j hj => by rw [f1 _ _ (by unfold SK; omega)]; exact hr j hj
    have hwl := byW_lt (T := T) (g := g) s (mth u t)
    rw [stF] at he
    by_cases hz : byW T g s (mth u t) = 0
    · rw [if_pos hz] at he
      rw [hz] at a1
      have f2 : Fx SLd I (u2 I1 111 10 (nI (mth u t))) := (f1.mono SK_SLd).trans (Fx_u2 _ _ (by unfold SLd; omega))
      refine ⟨u2 I1 111 10 (nI (mth u t)), J1, key _ ?_, f2, j1, ?_, fun j hj => ?_, ?_, fun _ => ?_⟩
      · unfold mX1_climb_b35
        clear hwl hz he
        simp (disch := omega) only [mk_oO o_111, mk_gR f_111_0, mk_gR f_111_1, mk_gR f_111_2, mk_gR f_111_3, mk_gI f_111_4, mk_pI f_111_4, mk_gI f_111_5, mk_pI f_111_5, mk_gL f_111_6, mk_pL f_111_6, mk_gI f_111_7, mk_pI f_111_7, mk_gR f_111_8, mk_gI f_111_9, mk_pI f_111_9, mk_gI f_111_10, mk_pI f_111_10, ↓m_1, ↓m_2, i_0, i_1, i_2, i_3, i_4, i_6, i_5, i_12, i_11, i_10, i_9999, i_7, i_9, i_8, i_24, i_100, i_56, i_48, i_13, i_176, i_232, i_224, i_32, i_999, i_99, i_900, i_97, i_90, i_30, i_20, i_59, i_14, i_50, i_29, i_22, i_19, i_18, i_17, i_96, i_61, i_57, i_51, i_41, i_26, i_2552, i_255, i_25, i_23, i_21, i_16, i_15, i_122, i_10000, i_31, dzF, obs, b2_some, rz0, rz1, rzb, n01, n01', n10, n01e, nI_add, nI_mul, ↓reduceIte, not_false_eq_true, not_true_eq_false, ite_not, e1, a1]
      · rw [he, u2_no _ _ (by omega)]; exact g9
      · rw [u2_no _ _ (by omega)]; exact gr j (by omega)
      · rw [u2_at, he, if_neg (by omega)]
      · rw [he]; exact a2 hz
    · rw [if_neg hz] at he
      have f2 : Fx SLd I (u2 (u2 I1 114 t (nI (byW T g s (mth u t)))) 111 9 (nI (t + 1))) := (f1.mono SK_SLd).trans ((Fx_u2 _ _ (by unfold SLd; omega)).trans (Fx_u2 _ _ (by unfold SLd; omega)))
      obtain ⟨I3, J3, e3, p1, p2, p3⟩ := ih (t + 1) fu (u2 (u2 I1 114 t (nI (byW T g s (mth u t)))) 111 9 (nI (t + 1))) J1 (by omega) (by omega) (h.fl hT f2 j1) (by rw [u2_at]) (fun j hj => by
        rw [u2_no _ _ (by omega)]
        by_cases hjt : j = t
        · subst hjt; rw [u2_at]
        · rw [u2_no _ _ (by omega)]; exact gr j (by omega)) (by rw [u2_no _ _ (by omega), u2_no _ _ (by omega)]; exact g10) he
      refine ⟨I3, J3, key _ ?_, f2.trans p1, j1.trans p2, p3⟩
      unfold mX1_climb_b35
      clear p3 a2 he gr
      generalize byW T g s (mth u t) = w at a1 e3 hz hwl
      simp (disch := omega) only [mk_oO o_111, mk_gR f_111_0, mk_gR f_111_1, mk_gR f_111_2, mk_gR f_111_3, mk_gI f_111_4, mk_pI f_111_4, mk_gI f_111_5, mk_pI f_111_5, mk_gL f_111_6, mk_pL f_111_6, mk_gI f_111_7, mk_pI f_111_7, mk_gR f_111_8, mk_gI f_111_9, mk_pI f_111_9, mk_gI f_111_10, mk_pI f_111_10, ↓m_1, ↓m_2, i_0, i_1, i_2, i_3, i_4, i_6, i_5, i_12, i_11, i_10, i_9999, i_7, i_9, i_8, i_24, i_100, i_56, i_48, i_13, i_176, i_232, i_224, i_32, i_999, i_99, i_900, i_97, i_90, i_30, i_20, i_59, i_14, i_50, i_29, i_22, i_19, i_18, i_17, i_96, i_61, i_57, i_51, i_41, i_26, i_2552, i_255, i_25, i_23, i_21, i_16, i_15, i_122, i_10000, i_31, dzF, obs, b2_some, rz0, rz1, rzb, n01, n01', n10, n01e, nI_add, nI_mul, ↓reduceIte, not_false_eq_true, not_true_eq_false, ite_not, e1, a1, eqF, g9, mk_sIn a_114, u2_no]
      exact e3
theorem C_climb (hT : VT T) (h : LL T g I J) {s u : Nat} (hs : s < T 3) (hu : u ≤ 1) : ∃ I' J', mX1_climb (mk n I J) 111 (nI s) (nI u) = some (mk n I' J') ∧ Fx SLd I I' ∧ FJ SKJ J J' ∧ CLm T g s u I' J' := by
  have f0 : Fx SLd I (u2 (u2 I 111 9 (nI 0)) 111 10 (nI 0)) := (Fx_u2 _ _ (by unfold SLd; omega)).trans (Fx_u2 _ _ (by unfold SLd; omega))
  obtain ⟨I', J', e, p1, p2, p3⟩ := C_climbL (n := n) hT hs hu 6 0 FU (u2 (u2 I 111 9 (nI 0)) 111 10 (nI 0)) J (by omega) (by unfold FU; omega) (h.fl hT f0 (FJ.refl J)) (by rw [u2_no _ _ (by omega), u2_at]) (fun j hj => absurd hj (Nat.not_lt_zero _)) (by rw [u2_at]) rfl
  refine ⟨I', J', ?_, f0.trans p1, p2, p3⟩
  unfold mX1_climb
  simp (disch := omega) only [mk_oO o_111, mk_gR f_111_0, mk_gR f_111_1, mk_gR f_111_2, mk_gR f_111_3, mk_gI f_111_4, mk_pI f_111_4, mk_gI f_111_5, mk_pI f_111_5, mk_gL f_111_6, mk_pL f_111_6, mk_gI f_111_7, mk_pI f_111_7, mk_gR f_111_8, mk_gI f_111_9, mk_pI f_111_9, mk_gI f_111_10, mk_pI f_111_10, ↓m_1, ↓m_2, i_0, i_1, i_2, i_3, i_4, i_6, i_5, i_12, i_11, i_10, i_9999, i_7, i_9, i_8, i_24, i_100, i_56, i_48, i_13, i_176, i_232, i_224, i_32, i_999, i_99, i_900, i_97, i_90, i_30, i_20, i_59, i_14, i_50, i_29, i_22, i_19, i_18, i_17, i_96, i_61, i_57, i_51, i_41, i_26, i_2552, i_255, i_25, i_23, i_21, i_16, i_15, i_122, i_10000, i_31, dzF, obs, b2_some, rz0, rz1, rzb, n01, n01', n10, n01e, nI_add, nI_mul, ↓reduceIte, not_false_eq_true, not_true_eq_false, ite_not]
  exact e
theorem C_answer {s u : Nat} (h : CLm T g s u I J) : mX1_answer (mk n I J) 111 = some (wrV T g s u, mk n I J) := by
  obtain ⟨h1, h2, h3, h4⟩ := h
  have c1 := stp_le (T := T) (g := g) s u
  unfold mX1_answer wrV
  by_cases h6 : stp T g s u = 6
  · rw [if_pos h6] at h3 ⊢
    simp (disch := omega) only [mk_oO o_111, mk_gR f_111_0, mk_gR f_111_1, mk_gR f_111_2, mk_gR f_111_3, mk_gI f_111_4, mk_pI f_111_4, mk_gI f_111_5, mk_pI f_111_5, mk_gL f_111_6, mk_pL f_111_6, mk_gI f_111_7, mk_pI f_111_7, mk_gR f_111_8, mk_gI f_111_9, mk_pI f_111_9, mk_gI f_111_10, mk_pI f_111_10, ↓m_1, ↓m_2, i_0, i_1, i_2, i_3, i_4, i_6, i_5, i_12, i_11, i_10, i_9999, i_7, i_9, i_8, i_24, i_100, i_56, i_48, i_13, i_176, i_232, i_224, i_32, i_999, i_99, i_900, i_97, i_90, i_30, i_20, i_59, i_14, i_50, i_29, i_22, i_19, i_18, i_17, i_96, i_61, i_57, i_51, i_41, i_26, i_2552, i_255, i_25, i_23, i_21, i_16, i_15, i_122, i_10000, i_31, ↓k_2, dzF, obs, b2_some, rz0, rz1, rzb, n01, n01', n10, n01e, nI_add, nI_mul, ↓reduceIte, not_false_eq_true, not_true_eq_false, ite_not, h3]
  · rw [if_neg h6] at h3 ⊢
    have h4' := h4 (by omega)
    have hmi := mth_in (u := u) (by omega : stp T g s u < 6)
    generalize mth u (stp T g s u) = m at h3 h4' hmi
    simp (disch := omega) only [mk_oO o_111, mk_gR f_111_0, mk_gR f_111_1, mk_gR f_111_2, mk_gR f_111_3, mk_gI f_111_4, mk_pI f_111_4, mk_gI f_111_5, mk_pI f_111_5, mk_gL f_111_6, mk_pL f_111_6, mk_gI f_111_7, mk_pI f_111_7, mk_gR f_111_8, mk_gI f_111_9, mk_pI f_111_9, mk_gI f_111_10, mk_pI f_111_10, ↓m_1, ↓m_2, i_0, i_1, i_2, i_3, i_4, i_6, i_5, i_12, i_11, i_10, i_9999, i_7, i_9, i_8, i_24, i_100, i_56, i_48, i_13, i_176, i_232, i_224, i_32, i_999, i_99, i_900, i_97, i_90, i_30, i_20, i_59, i_14, i_50, i_29, i_22, i_19, i_18, i_17, i_96, i_61, i_57, i_51, i_41, i_26, i_2552, i_255, i_25, i_23, i_21, i_16, i_15, i_122, i_10000, i_31, ↓k_2, dzF, obs, b2_some, rz0, rz1, rzb, n01, n01', n10, n01e, nI_add, nI_mul, ↓reduceIte, not_false_eq_true, not_true_eq_false, ite_not, h3, eqF, h4']
theorem C_isTurned (hT : VT T) (hW : WR I 3 T) : mX9_isTurned (mk n I J) 0 = some (nI (T 10), mk n I J) := by
  have b1 := hT.2.1
  unfold mX9_isTurned
  by_cases h : T 10 = 1
  · simp (disch := omega) only [mk_oO o_0, mk_oO o_1, mk_oO o_3, mk_gR f_0_0, mk_gR f_0_1, mk_gR f_0_2, mk_gR f_0_3, mk_gR f_0_4, mk_gR f_0_5, mk_gR f_0_6, mk_gR f_0_7, mk_gR f_0_8, mk_gR f_0_9, mk_gI f_0_10, mk_pI f_0_10, mk_gR f_1_0, mk_gI f_1_1, mk_pI f_1_1, mk_gR f_3_0, mk_gR f_3_1, mk_gR f_3_2, mk_gR f_3_3, mk_gR f_3_4, mk_gR f_3_5, mk_gR f_3_6, mk_gR f_3_7, ↓m_1, ↓m_2, i_0, i_1, i_2, i_3, i_4, i_6, i_5, i_12, i_11, i_10, i_9999, i_7, i_9, i_8, i_24, i_100, i_56, i_48, i_13, i_176, i_232, i_224, i_32, i_999, i_99, i_900, i_97, i_90, i_30, i_20, i_59, i_14, i_50, i_29, i_22, i_19, i_18, i_17, i_96, i_61, i_57, i_51, i_41, i_26, i_2552, i_255, i_25, i_23, i_21, i_16, i_15, i_122, i_10000, i_31, dzF, obs, b2_some, rz0, rz1, rzb, n01, n01', n10, n01e, nI_add, nI_mul, ↓reduceIte, not_false_eq_true, not_true_eq_false, ite_not, CW_t hW, eqT, h]
  · have h0 : T 10 = 0 := by omega
    simp (disch := omega) only [mk_oO o_0, mk_oO o_1, mk_oO o_3, mk_gR f_0_0, mk_gR f_0_1, mk_gR f_0_2, mk_gR f_0_3, mk_gR f_0_4, mk_gR f_0_5, mk_gR f_0_6, mk_gR f_0_7, mk_gR f_0_8, mk_gR f_0_9, mk_gI f_0_10, mk_pI f_0_10, mk_gR f_1_0, mk_gI f_1_1, mk_pI f_1_1, mk_gR f_3_0, mk_gR f_3_1, mk_gR f_3_2, mk_gR f_3_3, mk_gR f_3_4, mk_gR f_3_5, mk_gR f_3_6, mk_gR f_3_7, ↓m_1, ↓m_2, i_0, i_1, i_2, i_3, i_4, i_6, i_5, i_12, i_11, i_10, i_9999, i_7, i_9, i_8, i_24, i_100, i_56, i_48, i_13, i_176, i_232, i_224, i_32, i_999, i_99, i_900, i_97, i_90, i_30, i_20, i_59, i_14, i_50, i_29, i_22, i_19, i_18, i_17, i_96, i_61, i_57, i_51, i_41, i_26, i_2552, i_255, i_25, i_23, i_21, i_16, i_15, i_122, i_10000, i_31, dzF, obs, b2_some, rz0, rz1, rzb, n01, n01', n10, n01e, nI_add, nI_mul, ↓reduceIte, not_false_eq_true, not_true_eq_false, ite_not, CW_t hW, eqF, h0]
theorem C_worthInOrder (hT : VT T) (hW : WR I 3 T) {s u : Nat} (hs : s < T 3) (hu : u ≤ 1) : ∃ I' J', mX9_worthInOrder (mk n I J) 0 (nI s) (nI u) = some (wrV T 10 s u, mk n I' J') ∧ Fx SC I I' ∧ FJ SCJ J J' := by
  classical
  obtain ⟨I1, J1, e1, f1, j1, l1⟩ := C_llook (n := n) (J := J) (g := 10) hT hW
  obtain ⟨I2, J2, e2, f2, j2, c2⟩ := C_climb (n := n) hT l1 hs hu
  have e3 := C_answer (n := n) c2
  have b0 := hT.1
  have hx : ixB (nI s) (T 3) := ixB_nI hs (by omega)
  refine ⟨I2, J2, ?_, f1.trans (f2.mono (fun a c z => by unfold SLd at z; unfold SC; omega)), j1.trans (j2.sub (fun a z => Or.inr (Or.inl z)))⟩
  have e0 : mX8_has (mk n I J) 3 (nI 3) (nI s) = some (nI 1, mk n I J) := by rw [has_ev (k := 3) (by decide) hT hW, if_pos hx]
  unfold mX9_worthInOrder
  simp only [mk_oO o_0, mk_oO o_1, mk_oO o_3, mk_gR f_0_0, mk_gR f_0_1, mk_gR f_0_2, mk_gR f_0_3, mk_gR f_0_4, mk_gR f_0_5, mk_gR f_0_6, mk_gR f_0_7, mk_gR f_0_8, mk_gR f_0_9, mk_gI f_0_10, mk_pI f_0_10, mk_gR f_1_0, mk_gI f_1_1, mk_pI f_1_1, mk_gR f_3_0, mk_gR f_3_1, mk_gR f_3_2, mk_gR f_3_3, mk_gR f_3_4, mk_gR f_3_5, mk_gR f_3_6, mk_gR f_3_7, ↓m_1, ↓m_2, i_0, i_1, i_2, i_3, i_4, i_6, i_5, i_12, i_11, i_10, i_9999, i_7, i_9, i_8, i_24, i_100, i_56, i_48, i_13, i_176, i_232, i_224, i_32, i_999, i_99, i_900, i_97, i_90, i_30, i_20, i_59, i_14, i_50, i_29, i_22, i_19, i_18, i_17, i_96, i_61, i_57, i_51, i_41, i_26, i_2552, i_255, i_25, i_23, i_21, i_16, i_15, i_122, i_10000, i_31, ↓k_1, dzF, obs, b2_some, rz0, rz1, rzb, n01, n01', n10, n01e, nI_add, nI_mul, ↓reduceIte, not_false_eq_true, not_true_eq_false, ite_not, e0, show M1 = goN 10 from rfl, e1, e2, e3]
end CM
