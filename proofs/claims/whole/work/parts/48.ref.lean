/-! ===== 48: by others; the climb ===== -/
def bN (b : Bool × Nat × Nat) : Int64 := if b.2.2 = 10 then K2 else lN b.2.1
def bO (b : Bool) : Int32 := nI (if b = true then 1 else 0)
theorem goN_M1 {f : Nat} (h : f ≤ 10) : (goN f = M1) = (f = 10) := by
  unfold goN
  by_cases hf : f < 10
  · rw [if_pos hf, nM1 (by omega)]; exact (eq_false (by omega)).symm
  · rw [if_neg hf]; exact (eq_true rfl).trans (eq_true (by omega)).symm
theorem bO_0 (b : Bool) : (bO b = nI 0) = (b = false) := by unfold bO; cases b <;> simp; decide
theorem goN_lt {f : Nat} (h : f < 10) : goN f = nI f := if_pos h
/-- the method at a step -/
def mth (u k : Nat) : Nat := if u = 1 ∧ k = 3 then 5 else if u = 1 ∧ k = 4 then 4 else k + 1
/-- the first step from k on, of at most f, that doesn't fail -/
def stF (P : Nat → Nat) : Nat → Nat → Nat
  | 0, k => k
  | f + 1, k => if P k = 0 then k else stF P f (k + 1)
def stp (T : Nat → Nat) (g s u : Nat) : Nat := stF (fun k => byW T g s (mth u k)) 6 0
def wrV (T : Nat → Nat) (g s u : Nat) : Int64 := if stp T g s u = 6 then K2 else lN (byV T g s (mth u (stp T g s u)))
def wrM (T : Nat → Nat) (g s u : Nat) : Int32 := if stp T g s u = 6 then M2 else nI (mth u (stp T g s u))
/-- what the climb left: why each method above failed -/
def WY (T : Nat → Nat) (g s u : Nat) (I : Nat → Nat → Int32) (k : Nat) : Prop := I 224 30 = nI k ∧ ∀ j, j < k → I 236 j = nI (byW T g s (mth u j))
/-- the climb was asked -/
def WF (I : Nat → Nat → Int32) (J : Nat → Nat → Int64) (I' : Nat → Nat → Int32) (J' : Nat → Nat → Int64) : Prop := Fx SW I I' ∧ FJ SJ J J'
theorem WF.refl (I : Nat → Nat → Int32) (J : Nat → Nat → Int64) : WF I J I J := ⟨Fx.refl I, FJ.refl J⟩
theorem WF.trans {I I' I'' : Nat → Nat → Int32} {J J' J'' : Nat → Nat → Int64} (h : WF I J I' J') (h' : WF I' J' I'' J'') : WF I J I'' J'' := ⟨h.1.trans h'.1, h.2.trans h'.2⟩
theorem QF.wf {I I' : Nat → Nat → Int32} {J J' : Nat → Nat → Int64} (h : QF I J I' J') : WF I J I' J' := ⟨h.1.mono SQ_SW, h.2⟩
theorem RQ.wf {T : Nat → Nat} {g : Nat} {I I' : Nat → Nat → Int32} {J J' : Nat → Nat → Int64} (h : RQ T g I) (hf : WF I J I' J') : RQ T g I' := h.fw hf.1
section RJ
variable {n g : Nat} {I : Nat → Nat → Int32} {J : Nat → Nat → Int64} {T : Nat → Nat}
theorem ot_ok (hT : VT T) (s how : Nat) : ∀ t, t ≤ T 3 → ((ot T g s how t).2.2 = 10 ∨ (ot T g s how t).2.2 < t) ∧ (ot T g s how t).2.1 ≤ 300000000000000
  | 0, _ => ⟨Or.inl rfl, Nat.zero_le _⟩
  | t + 1, ht => by
    obtain ⟨h1, h2⟩ := ot_ok hT s how t (by omega)
    unfold ot otS
    split
    · dsimp only
      split
      · exact ⟨Or.inr (Nat.lt_succ_self t), brought_le hT (by omega)⟩
      · exact ⟨by omega, h2⟩
    · exact ⟨by omega, h2⟩
theorem R_oth88 {I' : Nat → Nat → Int32} {s how t v : Nat} (ht : t < 10) (hv : v ≤ 300000000000000) (e : mX10_brought (mk n I J) 224 (nI s) (nI t) = some (lN v, mk n I' J)) (b : Bool × Nat × Nat) (hb1 : b.2.2 ≤ 10) (hb2 : b.2.1 ≤ 300000000000000) (same : Prop) [Decidable same] (hc : b.1 = true → same) (r : PH → Nat → Int32 → Int32 → Int32 → Int64 → Int32 → Int32 → Option (Int64 × PH)) : mX10_byOthers_b88 r (mk n I J) 224 (nI s) (nI how) (bO b.1) (bN b) (goN b.2.2) (nI t) (nI (if same then 1 else 0)) = r (mk n I' J) 224 (nI s) (nI how) (bO (b.1 || decide same)) (bN (b.1 || decide same, if b.2.2 = 10 ∨ (same ∧ b.1 = false) ∨ v < b.2.1 then (v, t) else b.2)) (goN (if b.2.2 = 10 ∨ (same ∧ b.1 = false) ∨ v < b.2.1 then (v, t) else b.2).2) (nI (t + 1)) := by
  obtain ⟨bl, bv, bf⟩ := b
  dsimp only at hb1 hb2 hc ⊢
  have take : ∀ z : Bool, bN (z, v, t) = lN v := fun z => if_neg (by show ¬ t = 10; omega)
  unfold mX10_byOthers_b88 mX10_byOthers_b102 mX10_byOthers_b126 mX10_byOthers_b134 mX10_byOthers_b142 mX10_byOthers_b151
  by_cases hs : same
  · simp (disch := omega) only [mk_oO o_224, mk_gI f_224_0, mk_pI f_224_0, mk_gR f_224_1, mk_gR f_224_2, mk_gR f_224_3, mk_gR f_224_4, mk_gR f_224_5, mk_gI f_224_6, mk_pI f_224_6, mk_gR f_224_7, mk_gI f_224_8, mk_pI f_224_8, mk_gI f_224_9, mk_pI f_224_9, mk_gI f_224_10, mk_pI f_224_10, mk_gI f_224_11, mk_pI f_224_11, mk_gI f_224_12, mk_pI f_224_12, mk_gI f_224_13, mk_pI f_224_13, mk_gL f_224_14, mk_pL f_224_14, mk_gI f_224_15, mk_pI f_224_15, mk_gI f_224_16, mk_pI f_224_16, mk_gR f_224_17, mk_gR f_224_18, mk_gR f_224_19, mk_gI f_224_20, mk_pI f_224_20, mk_gR f_224_21, mk_gI f_224_22, mk_pI f_224_22, mk_gI f_224_23, mk_pI f_224_23, mk_gI f_224_24, mk_pI f_224_24, mk_gI f_224_25, mk_pI f_224_25, mk_gR f_224_26, mk_gI f_224_27, mk_pI f_224_27, mk_gI f_224_28, mk_pI f_224_28, mk_gR f_224_29, mk_gI f_224_30, mk_pI f_224_30, mk_gI f_224_31, mk_pI f_224_31, mk_gR f_224_32, mk_gI f_224_33, mk_pI f_224_33, ↓m_1, ↓m_2, i_0, i_1, i_2, i_3, i_4, i_6, i_5, i_12, i_11, i_10, i_9999, i_7, i_9, i_8, i_24, i_100, i_56, i_48, i_13, i_176, i_232, i_224, i_32, i_999, i_99, i_900, i_97, i_90, i_30, i_20, i_59, i_14, i_50, i_29, i_22, i_19, i_18, i_17, i_96, i_61, i_57, i_51, i_41, i_26, i_2552, i_255, i_25, i_23, i_21, i_16, i_15, i_122, i_10000, i_31, dzF, obs, b2_some, rz0, rz1, rzb, n01, n01', n10, n01e, nI_add, nI_mul, ↓reduceIte, not_false_eq_true, not_true_eq_false, ite_not, e, goN_M1, bO_0, if_pos hs]
    by_cases h10 : bf = 10
    · cases bl <;> simp [h10, hs, bO, take, goN_lt ht]
    · have e4 : ∀ z : Bool, bN (z, bv, bf) = lN bv := fun z => if_neg h10
      cases bl
      · simp [h10, hs, bO, take, goN_lt ht]
      · by_cases hvb : v < bv
        · have : ¬ lN bv ≤ lN v := fun z => by have := (lL_le (by omega) (by omega)).mp z; omega
          simp [h10, hs, bO, take, goN_lt ht, e4, this, hvb]
        · have : lN bv ≤ lN v := (lL_le (by omega) (by omega)).mpr (by omega)
          simp [h10, hs, bO, take, e4, this, hvb]
  · have hbl : bl = false := by cases bl; rfl; exact absurd (hc rfl) hs
    subst hbl
    simp (disch := omega) only [mk_oO o_224, mk_gI f_224_0, mk_pI f_224_0, mk_gR f_224_1, mk_gR f_224_2, mk_gR f_224_3, mk_gR f_224_4, mk_gR f_224_5, mk_gI f_224_6, mk_pI f_224_6, mk_gR f_224_7, mk_gI f_224_8, mk_pI f_224_8, mk_gI f_224_9, mk_pI f_224_9, mk_gI f_224_10, mk_pI f_224_10, mk_gI f_224_11, mk_pI f_224_11, mk_gI f_224_12, mk_pI f_224_12, mk_gI f_224_13, mk_pI f_224_13, mk_gL f_224_14, mk_pL f_224_14, mk_gI f_224_15, mk_pI f_224_15, mk_gI f_224_16, mk_pI f_224_16, mk_gR f_224_17, mk_gR f_224_18, mk_gR f_224_19, mk_gI f_224_20, mk_pI f_224_20, mk_gR f_224_21, mk_gI f_224_22, mk_pI f_224_22, mk_gI f_224_23, mk_pI f_224_23, mk_gI f_224_24, mk_pI f_224_24, mk_gI f_224_25, mk_pI f_224_25, mk_gR f_224_26, mk_gI f_224_27, mk_pI f_224_27, mk_gI f_224_28, mk_pI f_224_28, mk_gR f_224_29, mk_gI f_224_30, mk_pI f_224_30, mk_gI f_224_31, mk_pI f_224_31, mk_gR f_224_32, mk_gI f_224_33, mk_pI f_224_33, ↓m_1, ↓m_2, i_0, i_1, i_2, i_3, i_4, i_6, i_5, i_12, i_11, i_10, i_9999, i_7, i_9, i_8, i_24, i_100, i_56, i_48, i_13, i_176, i_232, i_224, i_32, i_999, i_99, i_900, i_97, i_90, i_30, i_20, i_59, i_14, i_50, i_29, i_22, i_19, i_18, i_17, i_96, i_61, i_57, i_51, i_41, i_26, i_2552, i_255, i_25, i_23, i_21, i_16, i_15, i_122, i_10000, i_31, dzF, obs, b2_some, rz0, rz1, rzb, n01, n01', n10, n01e, nI_add, nI_mul, ↓reduceIte, not_false_eq_true, not_true_eq_false, ite_not, e, goN_M1, bO_0, if_neg hs]
    by_cases h10 : bf = 10
    · simp [h10, hs, bO, take, goN_lt ht]
    · have e4 : ∀ z : Bool, bN (z, bv, bf) = lN bv := fun z => if_neg h10
      by_cases hvb : v < bv
      · have : ¬ lN bv ≤ lN v := fun z => by have := (lL_le (by omega) (by omega)).mp z; omega
        simp [h10, hs, bO, take, goN_lt ht, e4, this, hvb]
      · have : lN bv ≤ lN v := (lL_le (by omega) (by omega)).mpr (by omega)
        simp [h10, hs, bO, e4, this, hvb]
theorem ownW_lt (s : Nat) : ownW T g s < 1000 := by
  unfold ownW
  repeat' split
  all_goals decide
theorem R_othL (hT : VT T) {s how : Nat} (hs : s < T 3) (hh : how = 1 ∨ how = 2 ∨ how = 3) : ∀ (k t fu : Nat) (I : Nat → Nat → Int32) (J : Nat → Nat → Int64), t + k = T 3 → k < fu → RQ T g I → ∃ I' J', mX10_byOthers_L13 fu (mk n I J) 224 (nI s) (nI how) (bO (ot T g s how t).1) (bN (ot T g s how t)) (goN (ot T g s how t).2.2) (nI t) = some (if othF T g s how = 10 then fl (othW how) else lN (othV T g s how), mk n I' J') ∧ QF I J I' J' ∧ I' 224 28 = goN (othF T g s how) := by
  have b0 := hT.1
  intro k
  induction k with
  | zero =>
    intro t fu I J ht hf h
    obtain ⟨fu, rfl⟩ : ∃ f, fu = f + 1 := ⟨fu - 1, by omega⟩
    have hok := ot_ok (g := g) hT s how t (by omega)
    rw [show t = T 3 by omega] at hok ⊢
    refine ⟨u2 I 224 28 (goN (othF T g s how)), J, ?_, ⟨Fx_u2 _ _ (by unfold SQ; omega), FJ.refl J⟩, by rw [u2_at]⟩
    show mX10_byOthers_b13 _ _ _ _ _ _ _ _ _ = _
    unfold mX10_byOthers_b13 mX10_byOthers_b192 mX10_fails
    simp (disch := omega) only [mk_oO o_224, mk_gI f_224_0, mk_pI f_224_0, mk_gR f_224_1, mk_gR f_224_2, mk_gR f_224_3, mk_gR f_224_4, mk_gR f_224_5, mk_gI f_224_6, mk_pI f_224_6, mk_gR f_224_7, mk_gI f_224_8, mk_pI f_224_8, mk_gI f_224_9, mk_pI f_224_9, mk_gI f_224_10, mk_pI f_224_10, mk_gI f_224_11, mk_pI f_224_11, mk_gI f_224_12, mk_pI f_224_12, mk_gI f_224_13, mk_pI f_224_13, mk_gL f_224_14, mk_pL f_224_14, mk_gI f_224_15, mk_pI f_224_15, mk_gI f_224_16, mk_pI f_224_16, mk_gR f_224_17, mk_gR f_224_18, mk_gR f_224_19, mk_gI f_224_20, mk_pI f_224_20, mk_gR f_224_21, mk_gI f_224_22, mk_pI f_224_22, mk_gI f_224_23, mk_pI f_224_23, mk_gI f_224_24, mk_pI f_224_24, mk_gI f_224_25, mk_pI f_224_25, mk_gR f_224_26, mk_gI f_224_27, mk_pI f_224_27, mk_gI f_224_28, mk_pI f_224_28, mk_gR f_224_29, mk_gI f_224_30, mk_pI f_224_30, mk_gI f_224_31, mk_pI f_224_31, mk_gR f_224_32, mk_gI f_224_33, mk_pI f_224_33, ↓m_1, ↓m_2, i_0, i_1, i_2, i_3, i_4, i_6, i_5, i_12, i_11, i_10, i_9999, i_7, i_9, i_8, i_24, i_100, i_56, i_48, i_13, i_176, i_232, i_224, i_32, i_999, i_99, i_900, i_97, i_90, i_30, i_20, i_59, i_14, i_50, i_29, i_22, i_19, i_18, i_17, i_96, i_61, i_57, i_51, i_41, i_26, i_2552, i_255, i_25, i_23, i_21, i_16, i_15, i_122, i_10000, i_31, dzF, obs, b2_some, rz0, rz1, rzb, n01, n01', n10, n01e, nI_add, nI_mul, ↓reduceIte, not_false_eq_true, not_true_eq_false, ite_not, leT, R_now h.1, goN_M1]
    by_cases hz : othF T g s how = 10
    · have hz' : (ot T g s how (T 3)).2.2 = 10 := hz
      rw [if_pos hz', if_pos hz]
      rcases hh with rfl | rfl | rfl <;> simp (disch := omega) only [eqF, eqT, ↓reduceIte] <;> rfl
    · have hz' : ¬ (ot T g s how (T 3)).2.2 = 10 := hz
      rw [if_neg hz', if_neg hz]
      unfold bN
      rw [if_neg hz']
      rfl
  | succ k ih =>
    intro t fu I J ht hf h
    obtain ⟨fu, rfl⟩ : ∃ f, fu = f + 1 := ⟨fu - 1, by omega⟩
    have ht3 : t < T 3 := by omega
    have hok := ot_ok (g := g) hT s how t (by omega)
    show ∃ I' J', mX10_byOthers_b13 _ _ _ _ _ _ _ _ _ = _ ∧ _
    unfold mX10_byOthers_b13 mX10_byOthers_b87
    have skip : ∀ {I1 : Nat → Nat → Int32} {J1 : Nat → Nat → Int64}, QF I J I1 J1 → ¬ (cand T g s how t ∧ ((ot T g s how t).1 = true → sameL T s how t)) → ∃ I' J', mX10_byOthers_L13 fu (mk n I1 J1) 224 (nI s) (nI how) (bO (ot T g s how t).1) (bN (ot T g s how t)) (goN (ot T g s how t).2.2) (nI (t + 1)) = some (if othF T g s how = 10 then fl (othW how) else lN (othV T g s how), mk n I' J') ∧ QF I J I' J' ∧ I' 224 28 = goN (othF T g s how) := by
      intro I1 J1 q1 hno
      obtain ⟨I2, J2, e2, q2, p2⟩ := ih (t + 1) fu I1 J1 (by omega) (by omega) (h.qf q1)
      rw [ot, otS, if_neg hno] at e2
      exact ⟨I2, J2, e2, q1.trans q2, p2⟩
    by_cases c1 : t = s
    · obtain ⟨I2, J2, e2, q2, p2⟩ := skip (QF.refl I J) (fun z => z.1.1 c1)
      refine ⟨I2, J2, ?_, q2, p2⟩
      simp (disch := omega) only [mk_oO o_224, mk_gI f_224_0, mk_pI f_224_0, mk_gR f_224_1, mk_gR f_224_2, mk_gR f_224_3, mk_gR f_224_4, mk_gR f_224_5, mk_gI f_224_6, mk_pI f_224_6, mk_gR f_224_7, mk_gI f_224_8, mk_pI f_224_8, mk_gI f_224_9, mk_pI f_224_9, mk_gI f_224_10, mk_pI f_224_10, mk_gI f_224_11, mk_pI f_224_11, mk_gI f_224_12, mk_pI f_224_12, mk_gI f_224_13, mk_pI f_224_13, mk_gL f_224_14, mk_pL f_224_14, mk_gI f_224_15, mk_pI f_224_15, mk_gI f_224_16, mk_pI f_224_16, mk_gR f_224_17, mk_gR f_224_18, mk_gR f_224_19, mk_gI f_224_20, mk_pI f_224_20, mk_gR f_224_21, mk_gI f_224_22, mk_pI f_224_22, mk_gI f_224_23, mk_pI f_224_23, mk_gI f_224_24, mk_pI f_224_24, mk_gI f_224_25, mk_pI f_224_25, mk_gR f_224_26, mk_gI f_224_27, mk_pI f_224_27, mk_gI f_224_28, mk_pI f_224_28, mk_gR f_224_29, mk_gI f_224_30, mk_pI f_224_30, mk_gI f_224_31, mk_pI f_224_31, mk_gR f_224_32, mk_gI f_224_33, mk_pI f_224_33, ↓m_1, ↓m_2, i_0, i_1, i_2, i_3, i_4, i_6, i_5, i_12, i_11, i_10, i_9999, i_7, i_9, i_8, i_24, i_100, i_56, i_48, i_13, i_176, i_232, i_224, i_32, i_999, i_99, i_900, i_97, i_90, i_30, i_20, i_59, i_14, i_50, i_29, i_22, i_19, i_18, i_17, i_96, i_61, i_57, i_51, i_41, i_26, i_2552, i_255, i_25, i_23, i_21, i_16, i_15, i_122, i_10000, i_31, dzF, obs, b2_some, rz0, rz1, rzb, n01, n01', n10, n01e, nI_add, nI_mul, ↓reduceIte, not_false_eq_true, not_true_eq_false, ite_not, leF, R_now h.1, eqT]
      exact e2
    · by_cases c2 : t = g
      · obtain ⟨I2, J2, e2, q2, p2⟩ := skip (QF.refl I J) (fun z => z.1.2.1 c2)
        refine ⟨I2, J2, ?_, q2, p2⟩
        simp (disch := omega) only [mk_oO o_224, mk_gI f_224_0, mk_pI f_224_0, mk_gR f_224_1, mk_gR f_224_2, mk_gR f_224_3, mk_gR f_224_4, mk_gR f_224_5, mk_gI f_224_6, mk_pI f_224_6, mk_gR f_224_7, mk_gI f_224_8, mk_pI f_224_8, mk_gI f_224_9, mk_pI f_224_9, mk_gI f_224_10, mk_pI f_224_10, mk_gI f_224_11, mk_pI f_224_11, mk_gI f_224_12, mk_pI f_224_12, mk_gI f_224_13, mk_pI f_224_13, mk_gL f_224_14, mk_pL f_224_14, mk_gI f_224_15, mk_pI f_224_15, mk_gI f_224_16, mk_pI f_224_16, mk_gR f_224_17, mk_gR f_224_18, mk_gR f_224_19, mk_gI f_224_20, mk_pI f_224_20, mk_gR f_224_21, mk_gI f_224_22, mk_pI f_224_22, mk_gI f_224_23, mk_pI f_224_23, mk_gI f_224_24, mk_pI f_224_24, mk_gI f_224_25, mk_pI f_224_25, mk_gR f_224_26, mk_gI f_224_27, mk_pI f_224_27, mk_gI f_224_28, mk_pI f_224_28, mk_gR f_224_29, mk_gI f_224_30, mk_pI f_224_30, mk_gI f_224_31, mk_pI f_224_31, mk_gR f_224_32, mk_gI f_224_33, mk_pI f_224_33, ↓m_1, ↓m_2, i_0, i_1, i_2, i_3, i_4, i_6, i_5, i_12, i_11, i_10, i_9999, i_7, i_9, i_8, i_24, i_100, i_56, i_48, i_13, i_176, i_232, i_224, i_32, i_999, i_99, i_900, i_97, i_90, i_30, i_20, i_59, i_14, i_50, i_29, i_22, i_19, i_18, i_17, i_96, i_61, i_57, i_51, i_41, i_26, i_2552, i_255, i_25, i_23, i_21, i_16, i_15, i_122, i_10000, i_31, dzF, obs, b2_some, rz0, rz1, rzb, n01, n01', n10, n01e, nI_add, nI_mul, ↓reduceIte, not_false_eq_true, not_true_eq_false, ite_not, leF, R_now h.1, eqF, R_isThere h, if_pos c2]
        exact e2
      · by_cases c3 : isOf T s t how
        · obtain ⟨I1, J1, e1, q1⟩ := R_byOwn (n := n) (J := J) hT h ht3
          have h1 := h.qf q1
          by_cases c4 : ownW T g t = 0
          · have hv : vN (ownW T g t) (own T g t) = lN (own T g t) := by unfold vN; rw [if_pos c4]
            have c5 := own_le (g := g) hT ht3
            have hcand : cand T g s how t := ⟨c1, c2, c3, c4⟩
            by_cases c6 : (ot T g s how t).1 = true → sameL T s how t
            · obtain ⟨I2, e2, f2⟩ := R_brought (n := n) (J := J1) hT h1 hs ht3
              obtain ⟨I3, J3, e3, q3, p3⟩ := ih (t + 1) fu I2 J1 (by omega) (by omega) (h1.fa f2)
              rw [ot, otS, if_pos ⟨hcand, c6⟩] at e3
              refine ⟨I3, J3, ?_, (q1.trans (QF.fa f2)).trans q3, p3⟩
              have key := R_oth88 (s := s) (how := how) (by omega : t < 10) (brought_le (s := s) hT ht3) e2 (ot T g s how t) (by omega) hok.2 (sameL T s how t) c6 (mX10_byOthers_L13 fu)
              rcases hh with rfl | rfl | rfl
              · simp (disch := omega) only [mk_oO o_224, mk_gI f_224_0, mk_pI f_224_0, mk_gR f_224_1, mk_gR f_224_2, mk_gR f_224_3, mk_gR f_224_4, mk_gR f_224_5, mk_gI f_224_6, mk_pI f_224_6, mk_gR f_224_7, mk_gI f_224_8, mk_pI f_224_8, mk_gI f_224_9, mk_pI f_224_9, mk_gI f_224_10, mk_pI f_224_10, mk_gI f_224_11, mk_pI f_224_11, mk_gI f_224_12, mk_pI f_224_12, mk_gI f_224_13, mk_pI f_224_13, mk_gL f_224_14, mk_pL f_224_14, mk_gI f_224_15, mk_pI f_224_15, mk_gI f_224_16, mk_pI f_224_16, mk_gR f_224_17, mk_gR f_224_18, mk_gR f_224_19, mk_gI f_224_20, mk_pI f_224_20, mk_gR f_224_21, mk_gI f_224_22, mk_pI f_224_22, mk_gI f_224_23, mk_pI f_224_23, mk_gI f_224_24, mk_pI f_224_24, mk_gI f_224_25, mk_pI f_224_25, mk_gR f_224_26, mk_gI f_224_27, mk_pI f_224_27, mk_gI f_224_28, mk_pI f_224_28, mk_gR f_224_29, mk_gI f_224_30, mk_pI f_224_30, mk_gI f_224_31, mk_pI f_224_31, mk_gR f_224_32, mk_gI f_224_33, mk_pI f_224_33, ↓m_1, ↓m_2, i_0, i_1, i_2, i_3, i_4, i_6, i_5, i_12, i_11, i_10, i_9999, i_7, i_9, i_8, i_24, i_100, i_56, i_48, i_13, i_176, i_232, i_224, i_32, i_999, i_99, i_900, i_97, i_90, i_30, i_20, i_59, i_14, i_50, i_29, i_22, i_19, i_18, i_17, i_96, i_61, i_57, i_51, i_41, i_26, i_2552, i_255, i_25, i_23, i_21, i_16, i_15, i_122, i_10000, i_31, l_0, dzF, obs, b2_some, rz0, rz1, rzb, n01, n01', n10, n01e, nI_add, nI_mul, ↓reduceIte, not_false_eq_true, not_true_eq_false, ite_not, leF, R_now h.1, eqF, R_isThere h, if_neg c2, R_isOf hT h, if_pos c3, e1, hv, lge0, R_levelOf hT h1]
                by_cases c7 : lvl T s = lvl T t
                · rw [if_pos ⟨by decide, c7⟩] at key
                  simp only [c7, ↓reduceIte]
                  exact key.trans e3
                · rw [if_neg (fun z => c7 z.2)] at key
                  have := lvl_le hT s
                  have := lvl_le hT t
                  simp (disch := omega) only [eqF, ↓reduceIte]
                  exact key.trans e3
              · simp (disch := omega) only [mk_oO o_224, mk_gI f_224_0, mk_pI f_224_0, mk_gR f_224_1, mk_gR f_224_2, mk_gR f_224_3, mk_gR f_224_4, mk_gR f_224_5, mk_gI f_224_6, mk_pI f_224_6, mk_gR f_224_7, mk_gI f_224_8, mk_pI f_224_8, mk_gI f_224_9, mk_pI f_224_9, mk_gI f_224_10, mk_pI f_224_10, mk_gI f_224_11, mk_pI f_224_11, mk_gI f_224_12, mk_pI f_224_12, mk_gI f_224_13, mk_pI f_224_13, mk_gL f_224_14, mk_pL f_224_14, mk_gI f_224_15, mk_pI f_224_15, mk_gI f_224_16, mk_pI f_224_16, mk_gR f_224_17, mk_gR f_224_18, mk_gR f_224_19, mk_gI f_224_20, mk_pI f_224_20, mk_gR f_224_21, mk_gI f_224_22, mk_pI f_224_22, mk_gI f_224_23, mk_pI f_224_23, mk_gI f_224_24, mk_pI f_224_24, mk_gI f_224_25, mk_pI f_224_25, mk_gR f_224_26, mk_gI f_224_27, mk_pI f_224_27, mk_gI f_224_28, mk_pI f_224_28, mk_gR f_224_29, mk_gI f_224_30, mk_pI f_224_30, mk_gI f_224_31, mk_pI f_224_31, mk_gR f_224_32, mk_gI f_224_33, mk_pI f_224_33, ↓m_1, ↓m_2, i_0, i_1, i_2, i_3, i_4, i_6, i_5, i_12, i_11, i_10, i_9999, i_7, i_9, i_8, i_24, i_100, i_56, i_48, i_13, i_176, i_232, i_224, i_32, i_999, i_99, i_900, i_97, i_90, i_30, i_20, i_59, i_14, i_50, i_29, i_22, i_19, i_18, i_17, i_96, i_61, i_57, i_51, i_41, i_26, i_2552, i_255, i_25, i_23, i_21, i_16, i_15, i_122, i_10000, i_31, l_0, dzF, obs, b2_some, rz0, rz1, rzb, n01, n01', n10, n01e, nI_add, nI_mul, ↓reduceIte, not_false_eq_true, not_true_eq_false, ite_not, leF, R_now h.1, eqF, R_isThere h, if_neg c2, R_isOf hT h, if_pos c3, e1, hv, lge0, R_levelOf hT h1]
                by_cases c7 : lvl T s = lvl T t
                · rw [if_pos ⟨by decide, c7⟩] at key
                  simp only [c7, ↓reduceIte]
                  exact key.trans e3
                · rw [if_neg (fun z => c7 z.2)] at key
                  have := lvl_le hT s
                  have := lvl_le hT t
                  simp (disch := omega) only [eqF, ↓reduceIte]
                  exact key.trans e3
              · simp (disch := omega) only [mk_oO o_224, mk_gI f_224_0, mk_pI f_224_0, mk_gR f_224_1, mk_gR f_224_2, mk_gR f_224_3, mk_gR f_224_4, mk_gR f_224_5, mk_gI f_224_6, mk_pI f_224_6, mk_gR f_224_7, mk_gI f_224_8, mk_pI f_224_8, mk_gI f_224_9, mk_pI f_224_9, mk_gI f_224_10, mk_pI f_224_10, mk_gI f_224_11, mk_pI f_224_11, mk_gI f_224_12, mk_pI f_224_12, mk_gI f_224_13, mk_pI f_224_13, mk_gL f_224_14, mk_pL f_224_14, mk_gI f_224_15, mk_pI f_224_15, mk_gI f_224_16, mk_pI f_224_16, mk_gR f_224_17, mk_gR f_224_18, mk_gR f_224_19, mk_gI f_224_20, mk_pI f_224_20, mk_gR f_224_21, mk_gI f_224_22, mk_pI f_224_22, mk_gI f_224_23, mk_pI f_224_23, mk_gI f_224_24, mk_pI f_224_24, mk_gI f_224_25, mk_pI f_224_25, mk_gR f_224_26, mk_gI f_224_27, mk_pI f_224_27, mk_gI f_224_28, mk_pI f_224_28, mk_gR f_224_29, mk_gI f_224_30, mk_pI f_224_30, mk_gI f_224_31, mk_pI f_224_31, mk_gR f_224_32, mk_gI f_224_33, mk_pI f_224_33, ↓m_1, ↓m_2, i_0, i_1, i_2, i_3, i_4, i_6, i_5, i_12, i_11, i_10, i_9999, i_7, i_9, i_8, i_24, i_100, i_56, i_48, i_13, i_176, i_232, i_224, i_32, i_999, i_99, i_900, i_97, i_90, i_30, i_20, i_59, i_14, i_50, i_29, i_22, i_19, i_18, i_17, i_96, i_61, i_57, i_51, i_41, i_26, i_2552, i_255, i_25, i_23, i_21, i_16, i_15, i_122, i_10000, i_31, l_0, dzF, obs, b2_some, rz0, rz1, rzb, n01, n01', n10, n01e, nI_add, nI_mul, ↓reduceIte, not_false_eq_true, not_true_eq_false, ite_not, leF, leT, R_now h.1, eqF, R_isThere h, if_neg c2, R_isOf hT h, if_pos c3, e1, hv, lge0]
                rw [if_neg (fun z => absurd z.1 (by decide))] at key
                exact key.trans e3
            · obtain ⟨I3, J3, e3, q3, p3⟩ := skip q1 (fun z => c6 z.2)
              refine ⟨I3, J3, ?_, q3, p3⟩
              have hl1 : (ot T g s how t).1 = true := by
                cases hx : (ot T g s how t).1
                · exact absurd (fun z => absurd (hx.symm.trans z) (by decide)) c6
                · rfl
              have c8 : ¬ sameL T s how t := fun z => c6 (fun _ => z)
              rw [hl1] at e3
              unfold mX10_byOthers_b88
              rcases hh with rfl | rfl | rfl
              · have c7 : ¬ lvl T s = lvl T t := fun z => c8 ⟨by decide, z⟩
                have := lvl_le hT s
                have := lvl_le hT t
                simp (disch := omega) only [mk_oO o_224, mk_gI f_224_0, mk_pI f_224_0, mk_gR f_224_1, mk_gR f_224_2, mk_gR f_224_3, mk_gR f_224_4, mk_gR f_224_5, mk_gI f_224_6, mk_pI f_224_6, mk_gR f_224_7, mk_gI f_224_8, mk_pI f_224_8, mk_gI f_224_9, mk_pI f_224_9, mk_gI f_224_10, mk_pI f_224_10, mk_gI f_224_11, mk_pI f_224_11, mk_gI f_224_12, mk_pI f_224_12, mk_gI f_224_13, mk_pI f_224_13, mk_gL f_224_14, mk_pL f_224_14, mk_gI f_224_15, mk_pI f_224_15, mk_gI f_224_16, mk_pI f_224_16, mk_gR f_224_17, mk_gR f_224_18, mk_gR f_224_19, mk_gI f_224_20, mk_pI f_224_20, mk_gR f_224_21, mk_gI f_224_22, mk_pI f_224_22, mk_gI f_224_23, mk_pI f_224_23, mk_gI f_224_24, mk_pI f_224_24, mk_gI f_224_25, mk_pI f_224_25, mk_gR f_224_26, mk_gI f_224_27, mk_pI f_224_27, mk_gI f_224_28, mk_pI f_224_28, mk_gR f_224_29, mk_gI f_224_30, mk_pI f_224_30, mk_gI f_224_31, mk_pI f_224_31, mk_gR f_224_32, mk_gI f_224_33, mk_pI f_224_33, ↓m_1, ↓m_2, i_0, i_1, i_2, i_3, i_4, i_6, i_5, i_12, i_11, i_10, i_9999, i_7, i_9, i_8, i_24, i_100, i_56, i_48, i_13, i_176, i_232, i_224, i_32, i_999, i_99, i_900, i_97, i_90, i_30, i_20, i_59, i_14, i_50, i_29, i_22, i_19, i_18, i_17, i_96, i_61, i_57, i_51, i_41, i_26, i_2552, i_255, i_25, i_23, i_21, i_16, i_15, i_122, i_10000, i_31, l_0, dzF, obs, b2_some, rz0, rz1, rzb, n01, n01', n10, n01e, nI_add, nI_mul, ↓reduceIte, not_false_eq_true, not_true_eq_false, ite_not, leF, R_now h.1, eqF, R_isThere h, if_neg c2, R_isOf hT h, if_pos c3, e1, hv, lge0, R_levelOf hT h1, hl1, bO_0, Bool.true_eq_false]
                exact e3
              · have c7 : ¬ lvl T s = lvl T t := fun z => c8 ⟨by decide, z⟩
                have := lvl_le hT s
                have := lvl_le hT t
                simp (disch := omega) only [mk_oO o_224, mk_gI f_224_0, mk_pI f_224_0, mk_gR f_224_1, mk_gR f_224_2, mk_gR f_224_3, mk_gR f_224_4, mk_gR f_224_5, mk_gI f_224_6, mk_pI f_224_6, mk_gR f_224_7, mk_gI f_224_8, mk_pI f_224_8, mk_gI f_224_9, mk_pI f_224_9, mk_gI f_224_10, mk_pI f_224_10, mk_gI f_224_11, mk_pI f_224_11, mk_gI f_224_12, mk_pI f_224_12, mk_gI f_224_13, mk_pI f_224_13, mk_gL f_224_14, mk_pL f_224_14, mk_gI f_224_15, mk_pI f_224_15, mk_gI f_224_16, mk_pI f_224_16, mk_gR f_224_17, mk_gR f_224_18, mk_gR f_224_19, mk_gI f_224_20, mk_pI f_224_20, mk_gR f_224_21, mk_gI f_224_22, mk_pI f_224_22, mk_gI f_224_23, mk_pI f_224_23, mk_gI f_224_24, mk_pI f_224_24, mk_gI f_224_25, mk_pI f_224_25, mk_gR f_224_26, mk_gI f_224_27, mk_pI f_224_27, mk_gI f_224_28, mk_pI f_224_28, mk_gR f_224_29, mk_gI f_224_30, mk_pI f_224_30, mk_gI f_224_31, mk_pI f_224_31, mk_gR f_224_32, mk_gI f_224_33, mk_pI f_224_33, ↓m_1, ↓m_2, i_0, i_1, i_2, i_3, i_4, i_6, i_5, i_12, i_11, i_10, i_9999, i_7, i_9, i_8, i_24, i_100, i_56, i_48, i_13, i_176, i_232, i_224, i_32, i_999, i_99, i_900, i_97, i_90, i_30, i_20, i_59, i_14, i_50, i_29, i_22, i_19, i_18, i_17, i_96, i_61, i_57, i_51, i_41, i_26, i_2552, i_255, i_25, i_23, i_21, i_16, i_15, i_122, i_10000, i_31, l_0, dzF, obs, b2_some, rz0, rz1, rzb, n01, n01', n10, n01e, nI_add, nI_mul, ↓reduceIte, not_false_eq_true, not_true_eq_false, ite_not, leF, R_now h.1, eqF, R_isThere h, if_neg c2, R_isOf hT h, if_pos c3, e1, hv, lge0, R_levelOf hT h1, hl1, bO_0, Bool.true_eq_false]
                exact e3
              · simp (disch := omega) only [mk_oO o_224, mk_gI f_224_0, mk_pI f_224_0, mk_gR f_224_1, mk_gR f_224_2, mk_gR f_224_3, mk_gR f_224_4, mk_gR f_224_5, mk_gI f_224_6, mk_pI f_224_6, mk_gR f_224_7, mk_gI f_224_8, mk_pI f_224_8, mk_gI f_224_9, mk_pI f_224_9, mk_gI f_224_10, mk_pI f_224_10, mk_gI f_224_11, mk_pI f_224_11, mk_gI f_224_12, mk_pI f_224_12, mk_gI f_224_13, mk_pI f_224_13, mk_gL f_224_14, mk_pL f_224_14, mk_gI f_224_15, mk_pI f_224_15, mk_gI f_224_16, mk_pI f_224_16, mk_gR f_224_17, mk_gR f_224_18, mk_gR f_224_19, mk_gI f_224_20, mk_pI f_224_20, mk_gR f_224_21, mk_gI f_224_22, mk_pI f_224_22, mk_gI f_224_23, mk_pI f_224_23, mk_gI f_224_24, mk_pI f_224_24, mk_gI f_224_25, mk_pI f_224_25, mk_gR f_224_26, mk_gI f_224_27, mk_pI f_224_27, mk_gI f_224_28, mk_pI f_224_28, mk_gR f_224_29, mk_gI f_224_30, mk_pI f_224_30, mk_gI f_224_31, mk_pI f_224_31, mk_gR f_224_32, mk_gI f_224_33, mk_pI f_224_33, ↓m_1, ↓m_2, i_0, i_1, i_2, i_3, i_4, i_6, i_5, i_12, i_11, i_10, i_9999, i_7, i_9, i_8, i_24, i_100, i_56, i_48, i_13, i_176, i_232, i_224, i_32, i_999, i_99, i_900, i_97, i_90, i_30, i_20, i_59, i_14, i_50, i_29, i_22, i_19, i_18, i_17, i_96, i_61, i_57, i_51, i_41, i_26, i_2552, i_255, i_25, i_23, i_21, i_16, i_15, i_122, i_10000, i_31, l_0, dzF, obs, b2_some, rz0, rz1, rzb, n01, n01', n10, n01e, nI_add, nI_mul, ↓reduceIte, not_false_eq_true, not_true_eq_false, ite_not, leF, leT, R_now h.1, eqF, R_isThere h, if_neg c2, R_isOf hT h, if_pos c3, e1, hv, lge0, hl1, bO_0, Bool.true_eq_false]
                exact e3
          · have hv : vN (ownW T g t) (own T g t) = fl (ownW T g t) := by unfold vN; rw [if_neg c4]
            have c5 := ownW_lt (T := T) (g := g) t
            obtain ⟨I2, J2, e2, q2, p2⟩ := skip q1 (fun z => c4 z.1.2.2.2)
            refine ⟨I2, J2, ?_, q2, p2⟩
            have hng := fl_ge0 c5
            rw [hv] at e1
            generalize fl (ownW T g t) = v at e1 hng
            clear c4 c5 hv
            have hx : mX10_isOf (mk n I J) 224 (nI s) (nI t) (nI how) = some (nI 1, mk n I J) := by rw [R_isOf hT h hs ht3 (by omega), if_pos c3]
            simp (disch := omega) only [mk_oO o_224, mk_gI f_224_0, mk_pI f_224_0, mk_gR f_224_1, mk_gR f_224_2, mk_gR f_224_3, mk_gR f_224_4, mk_gR f_224_5, mk_gI f_224_6, mk_pI f_224_6, mk_gR f_224_7, mk_gI f_224_8, mk_pI f_224_8, mk_gI f_224_9, mk_pI f_224_9, mk_gI f_224_10, mk_pI f_224_10, mk_gI f_224_11, mk_pI f_224_11, mk_gI f_224_12, mk_pI f_224_12, mk_gI f_224_13, mk_pI f_224_13, mk_gL f_224_14, mk_pL f_224_14, mk_gI f_224_15, mk_pI f_224_15, mk_gI f_224_16, mk_pI f_224_16, mk_gR f_224_17, mk_gR f_224_18, mk_gR f_224_19, mk_gI f_224_20, mk_pI f_224_20, mk_gR f_224_21, mk_gI f_224_22, mk_pI f_224_22, mk_gI f_224_23, mk_pI f_224_23, mk_gI f_224_24, mk_pI f_224_24, mk_gI f_224_25, mk_pI f_224_25, mk_gR f_224_26, mk_gI f_224_27, mk_pI f_224_27, mk_gI f_224_28, mk_pI f_224_28, mk_gR f_224_29, mk_gI f_224_30, mk_pI f_224_30, mk_gI f_224_31, mk_pI f_224_31, mk_gR f_224_32, mk_gI f_224_33, mk_pI f_224_33, ↓m_1, ↓m_2, i_0, i_1, i_2, i_3, i_4, i_6, i_5, i_12, i_11, i_10, i_9999, i_7, i_9, i_8, i_24, i_100, i_56, i_48, i_13, i_176, i_232, i_224, i_32, i_999, i_99, i_900, i_97, i_90, i_30, i_20, i_59, i_14, i_50, i_29, i_22, i_19, i_18, i_17, i_96, i_61, i_57, i_51, i_41, i_26, i_2552, i_255, i_25, i_23, i_21, i_16, i_15, i_122, i_10000, i_31, l_0, dzF, obs, b2_some, rz0, rz1, rzb, n01, n01', n10, n01e, nI_add, nI_mul, ↓reduceIte, not_false_eq_true, not_true_eq_false, ite_not, leF, R_now h.1, eqF, R_isThere h, if_neg c2, hx, e1, hng]
            exact e2
        · obtain ⟨I2, J2, e2, q2, p2⟩ := skip (QF.refl I J) (fun z => c3 z.1.2.2.1)
          refine ⟨I2, J2, ?_, q2, p2⟩
          simp (disch := omega) only [mk_oO o_224, mk_gI f_224_0, mk_pI f_224_0, mk_gR f_224_1, mk_gR f_224_2, mk_gR f_224_3, mk_gR f_224_4, mk_gR f_224_5, mk_gI f_224_6, mk_pI f_224_6, mk_gR f_224_7, mk_gI f_224_8, mk_pI f_224_8, mk_gI f_224_9, mk_pI f_224_9, mk_gI f_224_10, mk_pI f_224_10, mk_gI f_224_11, mk_pI f_224_11, mk_gI f_224_12, mk_pI f_224_12, mk_gI f_224_13, mk_pI f_224_13, mk_gL f_224_14, mk_pL f_224_14, mk_gI f_224_15, mk_pI f_224_15, mk_gI f_224_16, mk_pI f_224_16, mk_gR f_224_17, mk_gR f_224_18, mk_gR f_224_19, mk_gI f_224_20, mk_pI f_224_20, mk_gR f_224_21, mk_gI f_224_22, mk_pI f_224_22, mk_gI f_224_23, mk_pI f_224_23, mk_gI f_224_24, mk_pI f_224_24, mk_gI f_224_25, mk_pI f_224_25, mk_gR f_224_26, mk_gI f_224_27, mk_pI f_224_27, mk_gI f_224_28, mk_pI f_224_28, mk_gR f_224_29, mk_gI f_224_30, mk_pI f_224_30, mk_gI f_224_31, mk_pI f_224_31, mk_gR f_224_32, mk_gI f_224_33, mk_pI f_224_33, ↓m_1, ↓m_2, i_0, i_1, i_2, i_3, i_4, i_6, i_5, i_12, i_11, i_10, i_9999, i_7, i_9, i_8, i_24, i_100, i_56, i_48, i_13, i_176, i_232, i_224, i_32, i_999, i_99, i_900, i_97, i_90, i_30, i_20, i_59, i_14, i_50, i_29, i_22, i_19, i_18, i_17, i_96, i_61, i_57, i_51, i_41, i_26, i_2552, i_255, i_25, i_23, i_21, i_16, i_15, i_122, i_10000, i_31, dzF, obs, b2_some, rz0, rz1, rzb, n01, n01', n10, n01e, nI_add, nI_mul, ↓reduceIte, not_false_eq_true, not_true_eq_false, ite_not, leF, R_now h.1, eqF, R_isThere h, if_neg c2, R_isOf hT h, if_neg c3]
          exact e2
theorem R_byOthers (hT : VT T) (h : RQ T g I) {s how : Nat} (hs : s < T 3) (hh : how = 1 ∨ how = 2 ∨ how = 3) : ∃ I' J', mX10_byOthers (mk n I J) 224 (nI s) (nI how) = some (if othF T g s how = 10 then fl (othW how) else lN (othV T g s how), mk n I' J') ∧ QF I J I' J' ∧ I' 224 28 = goN (othF T g s how) := by
  have b0 := hT.1
  unfold mX10_byOthers
  rw [mk_oO o_224]
  exact R_othL hT hs hh (T 3) 0 FU I J (by omega) (by unfold FU; omega) h
/-- what base tells behind a method -/
def baI (T : Nat → Nat) (g s m : Nat) : Int32 := if m = 2 then goN (othF T g s 1) else if m = 3 then goN (othF T g s 2) else if m = 4 then pN (rsP T s) else goN (othF T g s 3)
theorem R_byMethod (hT : VT T) (h : RQ T g I) {s m : Nat} (hs : s < T 3) (h1 : 1 ≤ m) (h6 : m ≤ 6) : ∃ I' J', mX10_byMethod (mk n I J) 224 (nI s) (nI m) = some (vN (byW T g s m) (byV T g s m), mk n I' J') ∧ QF I J I' J' ∧ (m ≠ 1 → m ≠ 5 → I' 224 28 = baI T g s m) := by
  have key : ∀ {v : Int64} {w x : Nat} {c : Prop} [Decidable c], v = (if c then fl w else lN x) → w ≠ 0 → v = vN (if c then w else 0) x := by
    intro v w x c _ e hw
    rw [e]
    unfold vN
    by_cases hc : c
    · rw [if_pos hc, if_pos hc, if_neg hw]
    · rw [if_neg hc, if_neg hc, if_pos rfl]
  unfold mX10_byMethod byW byV baI
  rcases (by omega : m = 1 ∨ m = 2 ∨ m = 3 ∨ m = 4 ∨ m = 5 ∨ m = 6) with rfl | rfl | rfl | rfl | rfl | rfl
  · obtain ⟨I1, J1, e1, q1⟩ := R_byOwn (n := n) (J := J) hT h hs
    refine ⟨I1, J1, ?_, q1, fun z => absurd rfl z⟩
    simp (disch := omega) only [mk_oO o_224, mk_gI f_224_0, mk_pI f_224_0, mk_gR f_224_1, mk_gR f_224_2, mk_gR f_224_3, mk_gR f_224_4, mk_gR f_224_5, mk_gI f_224_6, mk_pI f_224_6, mk_gR f_224_7, mk_gI f_224_8, mk_pI f_224_8, mk_gI f_224_9, mk_pI f_224_9, mk_gI f_224_10, mk_pI f_224_10, mk_gI f_224_11, mk_pI f_224_11, mk_gI f_224_12, mk_pI f_224_12, mk_gI f_224_13, mk_pI f_224_13, mk_gL f_224_14, mk_pL f_224_14, mk_gI f_224_15, mk_pI f_224_15, mk_gI f_224_16, mk_pI f_224_16, mk_gR f_224_17, mk_gR f_224_18, mk_gR f_224_19, mk_gI f_224_20, mk_pI f_224_20, mk_gR f_224_21, mk_gI f_224_22, mk_pI f_224_22, mk_gI f_224_23, mk_pI f_224_23, mk_gI f_224_24, mk_pI f_224_24, mk_gI f_224_25, mk_pI f_224_25, mk_gR f_224_26, mk_gI f_224_27, mk_pI f_224_27, mk_gI f_224_28, mk_pI f_224_28, mk_gR f_224_29, mk_gI f_224_30, mk_pI f_224_30, mk_gI f_224_31, mk_pI f_224_31, mk_gR f_224_32, mk_gI f_224_33, mk_pI f_224_33, ↓m_1, ↓m_2, i_0, i_1, i_2, i_3, i_4, i_6, i_5, i_12, i_11, i_10, i_9999, i_7, i_9, i_8, i_24, i_100, i_56, i_48, i_13, i_176, i_232, i_224, i_32, i_999, i_99, i_900, i_97, i_90, i_30, i_20, i_59, i_14, i_50, i_29, i_22, i_19, i_18, i_17, i_96, i_61, i_57, i_51, i_41, i_26, i_2552, i_255, i_25, i_23, i_21, i_16, i_15, i_122, i_10000, i_31, dzF, obs, b2_some, rz0, rz1, rzb, n01, n01', n10, n01e, nI_add, nI_mul, ↓reduceIte, not_false_eq_true, not_true_eq_false, ite_not, e1]
  · obtain ⟨I1, J1, e1, q1, p1⟩ := R_byOthers (n := n) (J := J) hT h hs (how := 1) (by omega)
    refine ⟨I1, J1, ?_, q1, fun _ _ => p1⟩
    simp (disch := omega) only [mk_oO o_224, mk_gI f_224_0, mk_pI f_224_0, mk_gR f_224_1, mk_gR f_224_2, mk_gR f_224_3, mk_gR f_224_4, mk_gR f_224_5, mk_gI f_224_6, mk_pI f_224_6, mk_gR f_224_7, mk_gI f_224_8, mk_pI f_224_8, mk_gI f_224_9, mk_pI f_224_9, mk_gI f_224_10, mk_pI f_224_10, mk_gI f_224_11, mk_pI f_224_11, mk_gI f_224_12, mk_pI f_224_12, mk_gI f_224_13, mk_pI f_224_13, mk_gL f_224_14, mk_pL f_224_14, mk_gI f_224_15, mk_pI f_224_15, mk_gI f_224_16, mk_pI f_224_16, mk_gR f_224_17, mk_gR f_224_18, mk_gR f_224_19, mk_gI f_224_20, mk_pI f_224_20, mk_gR f_224_21, mk_gI f_224_22, mk_pI f_224_22, mk_gI f_224_23, mk_pI f_224_23, mk_gI f_224_24, mk_pI f_224_24, mk_gI f_224_25, mk_pI f_224_25, mk_gR f_224_26, mk_gI f_224_27, mk_pI f_224_27, mk_gI f_224_28, mk_pI f_224_28, mk_gR f_224_29, mk_gI f_224_30, mk_pI f_224_30, mk_gI f_224_31, mk_pI f_224_31, mk_gR f_224_32, mk_gI f_224_33, mk_pI f_224_33, ↓m_1, ↓m_2, i_0, i_1, i_2, i_3, i_4, i_6, i_5, i_12, i_11, i_10, i_9999, i_7, i_9, i_8, i_24, i_100, i_56, i_48, i_13, i_176, i_232, i_224, i_32, i_999, i_99, i_900, i_97, i_90, i_30, i_20, i_59, i_14, i_50, i_29, i_22, i_19, i_18, i_17, i_96, i_61, i_57, i_51, i_41, i_26, i_2552, i_255, i_25, i_23, i_21, i_16, i_15, i_122, i_10000, i_31, dzF, obs, b2_some, rz0, rz1, rzb, n01, n01', n10, n01e, nI_add, nI_mul, ↓reduceIte, not_false_eq_true, not_true_eq_false, ite_not, eqF, e1]
    rw [key rfl (by decide)]
    rfl
  · obtain ⟨I1, J1, e1, q1, p1⟩ := R_byOthers (n := n) (J := J) hT h hs (how := 2) (by omega)
    refine ⟨I1, J1, ?_, q1, fun _ _ => p1⟩
    simp (disch := omega) only [mk_oO o_224, mk_gI f_224_0, mk_pI f_224_0, mk_gR f_224_1, mk_gR f_224_2, mk_gR f_224_3, mk_gR f_224_4, mk_gR f_224_5, mk_gI f_224_6, mk_pI f_224_6, mk_gR f_224_7, mk_gI f_224_8, mk_pI f_224_8, mk_gI f_224_9, mk_pI f_224_9, mk_gI f_224_10, mk_pI f_224_10, mk_gI f_224_11, mk_pI f_224_11, mk_gI f_224_12, mk_pI f_224_12, mk_gI f_224_13, mk_pI f_224_13, mk_gL f_224_14, mk_pL f_224_14, mk_gI f_224_15, mk_pI f_224_15, mk_gI f_224_16, mk_pI f_224_16, mk_gR f_224_17, mk_gR f_224_18, mk_gR f_224_19, mk_gI f_224_20, mk_pI f_224_20, mk_gR f_224_21, mk_gI f_224_22, mk_pI f_224_22, mk_gI f_224_23, mk_pI f_224_23, mk_gI f_224_24, mk_pI f_224_24, mk_gI f_224_25, mk_pI f_224_25, mk_gR f_224_26, mk_gI f_224_27, mk_pI f_224_27, mk_gI f_224_28, mk_pI f_224_28, mk_gR f_224_29, mk_gI f_224_30, mk_pI f_224_30, mk_gI f_224_31, mk_pI f_224_31, mk_gR f_224_32, mk_gI f_224_33, mk_pI f_224_33, ↓m_1, ↓m_2, i_0, i_1, i_2, i_3, i_4, i_6, i_5, i_12, i_11, i_10, i_9999, i_7, i_9, i_8, i_24, i_100, i_56, i_48, i_13, i_176, i_232, i_224, i_32, i_999, i_99, i_900, i_97, i_90, i_30, i_20, i_59, i_14, i_50, i_29, i_22, i_19, i_18, i_17, i_96, i_61, i_57, i_51, i_41, i_26, i_2552, i_255, i_25, i_23, i_21, i_16, i_15, i_122, i_10000, i_31, dzF, obs, b2_some, rz0, rz1, rzb, n01, n01', n10, n01e, nI_add, nI_mul, ↓reduceIte, not_false_eq_true, not_true_eq_false, ite_not, eqF, e1]
    rw [key rfl (by decide)]
    rfl
  · refine ⟨_, J, ?_, ⟨Fx_u2 I (pN (rsP T s)) (k := 224) (f := 28) (by unfold SQ; omega), FJ.refl J⟩, fun _ _ => by rw [u2_at]; rfl⟩
    simp (disch := omega) only [mk_oO o_224, mk_gI f_224_0, mk_pI f_224_0, mk_gR f_224_1, mk_gR f_224_2, mk_gR f_224_3, mk_gR f_224_4, mk_gR f_224_5, mk_gI f_224_6, mk_pI f_224_6, mk_gR f_224_7, mk_gI f_224_8, mk_pI f_224_8, mk_gI f_224_9, mk_pI f_224_9, mk_gI f_224_10, mk_pI f_224_10, mk_gI f_224_11, mk_pI f_224_11, mk_gI f_224_12, mk_pI f_224_12, mk_gI f_224_13, mk_pI f_224_13, mk_gL f_224_14, mk_pL f_224_14, mk_gI f_224_15, mk_pI f_224_15, mk_gI f_224_16, mk_pI f_224_16, mk_gR f_224_17, mk_gR f_224_18, mk_gR f_224_19, mk_gI f_224_20, mk_pI f_224_20, mk_gR f_224_21, mk_gI f_224_22, mk_pI f_224_22, mk_gI f_224_23, mk_pI f_224_23, mk_gI f_224_24, mk_pI f_224_24, mk_gI f_224_25, mk_pI f_224_25, mk_gR f_224_26, mk_gI f_224_27, mk_pI f_224_27, mk_gI f_224_28, mk_pI f_224_28, mk_gR f_224_29, mk_gI f_224_30, mk_pI f_224_30, mk_gI f_224_31, mk_pI f_224_31, mk_gR f_224_32, mk_gI f_224_33, mk_pI f_224_33, ↓m_1, ↓m_2, i_0, i_1, i_2, i_3, i_4, i_6, i_5, i_12, i_11, i_10, i_9999, i_7, i_9, i_8, i_24, i_100, i_56, i_48, i_13, i_176, i_232, i_224, i_32, i_999, i_99, i_900, i_97, i_90, i_30, i_20, i_59, i_14, i_50, i_29, i_22, i_19, i_18, i_17, i_96, i_61, i_57, i_51, i_41, i_26, i_2552, i_255, i_25, i_23, i_21, i_16, i_15, i_122, i_10000, i_31, dzF, obs, b2_some, rz0, rz1, rzb, n01, n01', n10, n01e, nI_add, nI_mul, ↓reduceIte, not_false_eq_true, not_true_eq_false, ite_not, eqF, R_byResold hT h hs]
    rw [key rfl (by decide)]
    rfl
  · obtain ⟨I1, e1, f1⟩ := R_byMaking (n := n) (J := J) hT h hs
    refine ⟨I1, J, ?_, QF.fa f1, fun _ z => absurd rfl z⟩
    simp (disch := omega) only [mk_oO o_224, mk_gI f_224_0, mk_pI f_224_0, mk_gR f_224_1, mk_gR f_224_2, mk_gR f_224_3, mk_gR f_224_4, mk_gR f_224_5, mk_gI f_224_6, mk_pI f_224_6, mk_gR f_224_7, mk_gI f_224_8, mk_pI f_224_8, mk_gI f_224_9, mk_pI f_224_9, mk_gI f_224_10, mk_pI f_224_10, mk_gI f_224_11, mk_pI f_224_11, mk_gI f_224_12, mk_pI f_224_12, mk_gI f_224_13, mk_pI f_224_13, mk_gL f_224_14, mk_pL f_224_14, mk_gI f_224_15, mk_pI f_224_15, mk_gI f_224_16, mk_pI f_224_16, mk_gR f_224_17, mk_gR f_224_18, mk_gR f_224_19, mk_gI f_224_20, mk_pI f_224_20, mk_gR f_224_21, mk_gI f_224_22, mk_pI f_224_22, mk_gI f_224_23, mk_pI f_224_23, mk_gI f_224_24, mk_pI f_224_24, mk_gI f_224_25, mk_pI f_224_25, mk_gR f_224_26, mk_gI f_224_27, mk_pI f_224_27, mk_gI f_224_28, mk_pI f_224_28, mk_gR f_224_29, mk_gI f_224_30, mk_pI f_224_30, mk_gI f_224_31, mk_pI f_224_31, mk_gR f_224_32, mk_gI f_224_33, mk_pI f_224_33, ↓m_1, ↓m_2, i_0, i_1, i_2, i_3, i_4, i_6, i_5, i_12, i_11, i_10, i_9999, i_7, i_9, i_8, i_24, i_100, i_56, i_48, i_13, i_176, i_232, i_224, i_32, i_999, i_99, i_900, i_97, i_90, i_30, i_20, i_59, i_14, i_50, i_29, i_22, i_19, i_18, i_17, i_96, i_61, i_57, i_51, i_41, i_26, i_2552, i_255, i_25, i_23, i_21, i_16, i_15, i_122, i_10000, i_31, dzF, obs, b2_some, rz0, rz1, rzb, n01, n01', n10, n01e, nI_add, nI_mul, ↓reduceIte, not_false_eq_true, not_true_eq_false, ite_not, eqF, e1]
    rw [key rfl (by decide)]
    rfl
  · obtain ⟨I1, J1, e1, q1, p1⟩ := R_byOthers (n := n) (J := J) hT h hs (how := 3) (by omega)
    refine ⟨I1, J1, ?_, q1, fun _ _ => p1⟩
    simp (disch := omega) only [mk_oO o_224, mk_gI f_224_0, mk_pI f_224_0, mk_gR f_224_1, mk_gR f_224_2, mk_gR f_224_3, mk_gR f_224_4, mk_gR f_224_5, mk_gI f_224_6, mk_pI f_224_6, mk_gR f_224_7, mk_gI f_224_8, mk_pI f_224_8, mk_gI f_224_9, mk_pI f_224_9, mk_gI f_224_10, mk_pI f_224_10, mk_gI f_224_11, mk_pI f_224_11, mk_gI f_224_12, mk_pI f_224_12, mk_gI f_224_13, mk_pI f_224_13, mk_gL f_224_14, mk_pL f_224_14, mk_gI f_224_15, mk_pI f_224_15, mk_gI f_224_16, mk_pI f_224_16, mk_gR f_224_17, mk_gR f_224_18, mk_gR f_224_19, mk_gI f_224_20, mk_pI f_224_20, mk_gR f_224_21, mk_gI f_224_22, mk_pI f_224_22, mk_gI f_224_23, mk_pI f_224_23, mk_gI f_224_24, mk_pI f_224_24, mk_gI f_224_25, mk_pI f_224_25, mk_gR f_224_26, mk_gI f_224_27, mk_pI f_224_27, mk_gI f_224_28, mk_pI f_224_28, mk_gR f_224_29, mk_gI f_224_30, mk_pI f_224_30, mk_gI f_224_31, mk_pI f_224_31, mk_gR f_224_32, mk_gI f_224_33, mk_pI f_224_33, ↓m_1, ↓m_2, i_0, i_1, i_2, i_3, i_4, i_6, i_5, i_12, i_11, i_10, i_9999, i_7, i_9, i_8, i_24, i_100, i_56, i_48, i_13, i_176, i_232, i_224, i_32, i_999, i_99, i_900, i_97, i_90, i_30, i_20, i_59, i_14, i_50, i_29, i_22, i_19, i_18, i_17, i_96, i_61, i_57, i_51, i_41, i_26, i_2552, i_255, i_25, i_23, i_21, i_16, i_15, i_122, i_10000, i_31, dzF, obs, b2_some, rz0, rz1, rzb, n01, n01', n10, n01e, nI_add, nI_mul, ↓reduceIte, not_false_eq_true, not_true_eq_false, ite_not, eqF, e1]
    rw [key rfl (by decide)]
    rfl
theorem byW_lt (s m : Nat) : byW T g s m < 1000 := by
  have := ownW_lt (T := T) (g := g) s
  unfold byW
  repeat' split
  all_goals omega
theorem othV_le (hT : VT T) (s how : Nat) : othV T g s how ≤ 300000000000000 := (ot_ok hT s how (T 3) (Nat.le_refl _)).2
theorem byV_le (hT : VT T) {s : Nat} (hs : s < T 3) (m : Nat) : byV T g s m ≤ 300000000000000 := by
  have c1 := own_le (g := g) hT hs
  have c2 := othV_le (g := g) hT s 1
  have c3 := othV_le (g := g) hT s 2
  have c4 := othV_le (g := g) hT s 3
  have c5 := rsV_le hT s
  have c6 := mkV_le (g := g) hT hs
  unfold byV
  repeat' split
  all_goals omega
theorem R_methodAt {h : PH} {u k : Nat} (hu : u ≤ 1) (hk : k < 6) : mX10_methodAt h (nI k) (nI u) = some (nI (mth u k), h) := by
  unfold mX10_methodAt mX10_methodAt_b14 mth
  by_cases h1 : u = 1
  · subst h1
    by_cases h3 : k = 3
    · subst h3; rfl
    · by_cases h4 : k = 4
      · subst h4; rfl
      · simp (disch := omega) only [↓m_1, ↓m_2, i_0, i_1, i_2, i_3, i_4, i_6, i_5, i_12, i_11, i_10, i_9999, i_7, i_9, i_8, i_24, i_100, i_56, i_48, i_13, i_176, i_232, i_224, i_32, i_999, i_99, i_900, i_97, i_90, i_30, i_20, i_59, i_14, i_50, i_29, i_22, i_19, i_18, i_17, i_96, i_61, i_57, i_51, i_41, i_26, i_2552, i_255, i_25, i_23, i_21, i_16, i_15, i_122, i_10000, i_31, dzF, obs, b2_some, rz0, rz1, rzb, n01, n01', n10, n01e, nI_add, nI_mul, ↓reduceIte, not_false_eq_true, not_true_eq_false, ite_not, eqF, h3, h4, and_false]
  · simp (disch := omega) only [↓m_1, ↓m_2, i_0, i_1, i_2, i_3, i_4, i_6, i_5, i_12, i_11, i_10, i_9999, i_7, i_9, i_8, i_24, i_100, i_56, i_48, i_13, i_176, i_232, i_224, i_32, i_999, i_99, i_900, i_97, i_90, i_30, i_20, i_59, i_14, i_50, i_29, i_22, i_19, i_18, i_17, i_96, i_61, i_57, i_51, i_41, i_26, i_2552, i_255, i_25, i_23, i_21, i_16, i_15, i_122, i_10000, i_31, dzF, obs, b2_some, rz0, rz1, rzb, n01, n01', n10, n01e, nI_add, nI_mul, ↓reduceIte, not_false_eq_true, not_true_eq_false, ite_not, eqF, h1, false_and]
theorem mth_in {u k : Nat} (hk : k < 6) : 1 ≤ mth u k ∧ mth u k ≤ 6 := by
  unfold mth
  repeat' split
  all_goals omega
theorem K2_fl {w : Nat} (hw : w < 1000) : (K2 - fl w).toInt32 = nI w := by
  have h : K2 - fl w = lN w := by
    apply Int64.toInt_inj.mp
    rw [Int64.toInt_sub, K2_toInt, fl_neg hw, lL_toInt (by omega)]
    apply (Int.bmod_eq_of_le _ _).trans
    · omega
    · omega
    · omega
  rw [h, lN_i]
theorem stF_le (P : Nat → Nat) : ∀ f k, stF P f k ≤ f + k
  | 0, k => by unfold stF; omega
  | f + 1, k => by
    unfold stF
    split
    · omega
    · have := stF_le P f (k + 1); omega
theorem stp_le (s u : Nat) : stp T g s u ≤ 6 := stF_le _ 6 0
theorem R_wbL (hT : VT T) {s u : Nat} (hs : s < T 3) (hu : u ≤ 1) : ∀ (k t fu : Nat) (I : Nat → Nat → Int32) (J : Nat → Nat → Int64), t + k = 6 → k < fu → RQ T g I → WY T g s u I t → I 224 31 = M2 → stp T g s u = stF (fun k => byW T g s (mth u k)) k t → ∃ I' J', mX10_worthBy_L13 fu (mk n I J) 224 (nI s) (nI u) (nI t) = some (wrV T g s u, mk n I' J') ∧ WF I J I' J' ∧ WY T g s u I' (stp T g s u) ∧ I' 224 31 = wrM T g s u := by
  have b0 := hT.1
  intro k
  induction k with
  | zero =>
    intro t fu I J ht hf h hw hm he
    obtain ⟨fu, rfl⟩ : ∃ f, fu = f + 1 := ⟨fu - 1, by omega⟩
    have h6 : stp T g s u = 6 := by rw [he]; unfold stF; omega
    refine ⟨I, J, ?_, WF.refl I J, by rw [h6, show 6 = t by omega]; exact hw, by unfold wrM; rw [if_pos h6, hm]⟩
    show mX10_worthBy_b13 _ _ _ _ _ _ = _
    unfold mX10_worthBy_b13 wrV
    rw [if_pos h6]
    simp (disch := omega) only [↓m_1, ↓m_2, i_0, i_1, i_2, i_3, i_4, i_6, i_5, i_12, i_11, i_10, i_9999, i_7, i_9, i_8, i_24, i_100, i_56, i_48, i_13, i_176, i_232, i_224, i_32, i_999, i_99, i_900, i_97, i_90, i_30, i_20, i_59, i_14, i_50, i_29, i_22, i_19, i_18, i_17, i_96, i_61, i_57, i_51, i_41, i_26, i_2552, i_255, i_25, i_23, i_21, i_16, i_15, i_122, i_10000, i_31, leT, ↓reduceIte, ↓k_2]
  | succ k ih =>
    intro t fu I J ht hf h hw hm he
    obtain ⟨fu, rfl⟩ : ∃ f, fu = f + 1 := ⟨fu - 1, by omega⟩
    have hmi := mth_in (u := u) (by omega : t < 6)
    obtain ⟨I1, J1, e1, q1, -⟩ := R_byMethod (n := n) (J := J) hT h hs hmi.1 hmi.2
    have h1 := h.qf q1
    have hbw := byW_lt (T := T) (g := g) s (mth u t)
    have hbv := byV_le (g := g) hT hs (mth u t)
    have hmt := R_methodAt (h := mk n I J) hu (by omega : t < 6)
    rw [stF] at he
    by_cases hz : byW T g s (mth u t) = 0
    · rw [if_pos hz] at he
      refine ⟨u2 I1 224 31 (nI (mth u t)), J1, ?_, ⟨(q1.1.mono SQ_SW).trans (Fx_u2 _ _ (by unfold SW; omega)), q1.2⟩, ?_, by unfold wrM; rw [u2_at, he, if_neg (by omega)]⟩
      · show mX10_worthBy_b13 _ _ _ _ _ _ = _
        unfold mX10_worthBy_b13 wrV
        have hv : vN (byW T g s (mth u t)) (byV T g s (mth u t)) = lN (byV T g s (mth u t)) := by unfold vN; rw [if_pos hz]
        rw [hv] at e1
        rw [he, if_neg (by omega : ¬ t = 6)]
        simp (disch := omega) only [mk_oO o_224, mk_gI f_224_0, mk_pI f_224_0, mk_gR f_224_1, mk_gR f_224_2, mk_gR f_224_3, mk_gR f_224_4, mk_gR f_224_5, mk_gI f_224_6, mk_pI f_224_6, mk_gR f_224_7, mk_gI f_224_8, mk_pI f_224_8, mk_gI f_224_9, mk_pI f_224_9, mk_gI f_224_10, mk_pI f_224_10, mk_gI f_224_11, mk_pI f_224_11, mk_gI f_224_12, mk_pI f_224_12, mk_gI f_224_13, mk_pI f_224_13, mk_gL f_224_14, mk_pL f_224_14, mk_gI f_224_15, mk_pI f_224_15, mk_gI f_224_16, mk_pI f_224_16, mk_gR f_224_17, mk_gR f_224_18, mk_gR f_224_19, mk_gI f_224_20, mk_pI f_224_20, mk_gR f_224_21, mk_gI f_224_22, mk_pI f_224_22, mk_gI f_224_23, mk_pI f_224_23, mk_gI f_224_24, mk_pI f_224_24, mk_gI f_224_25, mk_pI f_224_25, mk_gR f_224_26, mk_gI f_224_27, mk_pI f_224_27, mk_gI f_224_28, mk_pI f_224_28, mk_gR f_224_29, mk_gI f_224_30, mk_pI f_224_30, mk_gI f_224_31, mk_pI f_224_31, mk_gR f_224_32, mk_gI f_224_33, mk_pI f_224_33, ↓m_1, ↓m_2, i_0, i_1, i_2, i_3, i_4, i_6, i_5, i_12, i_11, i_10, i_9999, i_7, i_9, i_8, i_24, i_100, i_56, i_48, i_13, i_176, i_232, i_224, i_32, i_999, i_99, i_900, i_97, i_90, i_30, i_20, i_59, i_14, i_50, i_29, i_22, i_19, i_18, i_17, i_96, i_61, i_57, i_51, i_41, i_26, i_2552, i_255, i_25, i_23, i_21, i_16, i_15, i_122, i_10000, i_31, l_0, dzF, obs, b2_some, rz0, rz1, rzb, n01, n01', n10, n01e, nI_add, nI_mul, ↓reduceIte, not_false_eq_true, not_true_eq_false, ite_not, leF, hmt, e1, llt0]
      · rw [he]
        exact ⟨by rw [u2_no _ _ (by omega), q1.1 _ _ (by unfold SQ; omega)]; exact hw.1, fun j hj => by rw [u2_no _ _ (by omega), q1.1 _ _ (by unfold SQ; omega)]; exact hw.2 j hj⟩
    · rw [if_neg hz] at he
      have hv : vN (byW T g s (mth u t)) (byV T g s (mth u t)) = fl (byW T g s (mth u t)) := by unfold vN; rw [if_neg hz]
      rw [hv] at e1
      have hng := fl_lt0 hbw
      have hk2 := K2_fl hbw
      have w1 : I1 224 30 = nI t := by rw [q1.1 _ _ (by unfold SQ; omega)]; exact hw.1
      obtain ⟨I3, J3, e3, q3, p3, r3⟩ := ih (t + 1) fu (u2 (u2 I1 236 t (nI (byW T g s (mth u t)))) 224 30 (nI (t + 1))) J1 (by omega) (by omega) (h1.fw ((Fx_u2 _ _ (by unfold SW; omega)).trans (Fx_u2 _ _ (by unfold SW; omega)))) ⟨by rw [u2_at], fun j hj => by
        rw [u2_no _ _ (by omega)]
        by_cases hjt : j = t
        · subst hjt; rw [u2_at]
        · rw [u2_no _ _ (by omega), q1.1 _ _ (by unfold SQ; omega)]
          exact hw.2 j (by omega)⟩ (by rw [u2_no _ _ (by omega), u2_no _ _ (by omega), q1.1 _ _ (by unfold SQ; omega)]; exact hm) he
      refine ⟨I3, J3, ?_, ⟨((q1.1.mono SQ_SW).trans ((Fx_u2 _ _ (by unfold SW; omega)).trans (Fx_u2 _ _ (by unfold SW; omega)))).trans q3.1, q1.2.trans q3.2⟩, p3, r3⟩
      show mX10_worthBy_b13 _ _ _ _ _ _ = _
      unfold mX10_worthBy_b13
      generalize fl (byW T g s (mth u t)) = v at e1 hng hk2
      generalize byW T g s (mth u t) = w at hk2 e3
      clear hz hbw hbv he hv
      simp (disch := omega) only [mk_oO o_224, mk_gI f_224_0, mk_pI f_224_0, mk_gR f_224_1, mk_gR f_224_2, mk_gR f_224_3, mk_gR f_224_4, mk_gR f_224_5, mk_gI f_224_6, mk_pI f_224_6, mk_gR f_224_7, mk_gI f_224_8, mk_pI f_224_8, mk_gI f_224_9, mk_pI f_224_9, mk_gI f_224_10, mk_pI f_224_10, mk_gI f_224_11, mk_pI f_224_11, mk_gI f_224_12, mk_pI f_224_12, mk_gI f_224_13, mk_pI f_224_13, mk_gL f_224_14, mk_pL f_224_14, mk_gI f_224_15, mk_pI f_224_15, mk_gI f_224_16, mk_pI f_224_16, mk_gR f_224_17, mk_gR f_224_18, mk_gR f_224_19, mk_gI f_224_20, mk_pI f_224_20, mk_gR f_224_21, mk_gI f_224_22, mk_pI f_224_22, mk_gI f_224_23, mk_pI f_224_23, mk_gI f_224_24, mk_pI f_224_24, mk_gI f_224_25, mk_pI f_224_25, mk_gR f_224_26, mk_gI f_224_27, mk_pI f_224_27, mk_gI f_224_28, mk_pI f_224_28, mk_gR f_224_29, mk_gI f_224_30, mk_pI f_224_30, mk_gI f_224_31, mk_pI f_224_31, mk_gR f_224_32, mk_gI f_224_33, mk_pI f_224_33, ↓m_1, ↓m_2, i_0, i_1, i_2, i_3, i_4, i_6, i_5, i_12, i_11, i_10, i_9999, i_7, i_9, i_8, i_24, i_100, i_56, i_48, i_13, i_176, i_232, i_224, i_32, i_999, i_99, i_900, i_97, i_90, i_30, i_20, i_59, i_14, i_50, i_29, i_22, i_19, i_18, i_17, i_96, i_61, i_57, i_51, i_41, i_26, i_2552, i_255, i_25, i_23, i_21, i_16, i_15, i_122, i_10000, i_31, l_0, ↓k_2, dzF, obs, b2_some, rz0, rz1, rzb, n01, n01', n10, n01e, nI_add, nI_mul, ↓reduceIte, not_false_eq_true, not_true_eq_false, ite_not, leF, hmt, e1, hng, w1, mk_sIn a_236, u2_no, hk2]
      exact e3
theorem R_worthBy (hT : VT T) (h : RQ T g I) {s u : Nat} (hs : s < T 3) (hu : u ≤ 1) : ∃ I' J', mX10_worthBy (mk n I J) 224 (nI s) (nI u) = some (wrV T g s u, mk n I' J') ∧ WF I J I' J' ∧ WY T g s u I' (stp T g s u) ∧ I' 224 31 = wrM T g s u := by
  have f0 : Fx SW I (u2 (u2 I 224 30 (nI 0)) 224 31 M2) := (Fx_u2 _ _ (by unfold SW; omega)).trans (Fx_u2 _ _ (by unfold SW; omega))
  obtain ⟨I', J', e, q, p, r⟩ := R_wbL (n := n) hT hs hu 6 0 FU (u2 (u2 I 224 30 (nI 0)) 224 31 M2) J (by omega) (by unfold FU; omega) (h.fw f0) ⟨by rw [u2_no _ _ (by omega), u2_at], fun j hj => absurd hj (by omega)⟩ (by rw [u2_at]) rfl
  refine ⟨I', J', ?_, WF.trans ⟨f0, FJ.refl J⟩ q, p, r⟩
  unfold mX10_worthBy
  simp (disch := omega) only [mk_oO o_224, mk_gI f_224_0, mk_pI f_224_0, mk_gR f_224_1, mk_gR f_224_2, mk_gR f_224_3, mk_gR f_224_4, mk_gR f_224_5, mk_gI f_224_6, mk_pI f_224_6, mk_gR f_224_7, mk_gI f_224_8, mk_pI f_224_8, mk_gI f_224_9, mk_pI f_224_9, mk_gI f_224_10, mk_pI f_224_10, mk_gI f_224_11, mk_pI f_224_11, mk_gI f_224_12, mk_pI f_224_12, mk_gI f_224_13, mk_pI f_224_13, mk_gL f_224_14, mk_pL f_224_14, mk_gI f_224_15, mk_pI f_224_15, mk_gI f_224_16, mk_pI f_224_16, mk_gR f_224_17, mk_gR f_224_18, mk_gR f_224_19, mk_gI f_224_20, mk_pI f_224_20, mk_gR f_224_21, mk_gI f_224_22, mk_pI f_224_22, mk_gI f_224_23, mk_pI f_224_23, mk_gI f_224_24, mk_pI f_224_24, mk_gI f_224_25, mk_pI f_224_25, mk_gR f_224_26, mk_gI f_224_27, mk_pI f_224_27, mk_gI f_224_28, mk_pI f_224_28, mk_gR f_224_29, mk_gI f_224_30, mk_pI f_224_30, mk_gI f_224_31, mk_pI f_224_31, mk_gR f_224_32, mk_gI f_224_33, mk_pI f_224_33, ↓m_1, ↓m_2, i_0, i_1, i_2, i_3, i_4, i_6, i_5, i_12, i_11, i_10, i_9999, i_7, i_9, i_8, i_24, i_100, i_56, i_48, i_13, i_176, i_232, i_224, i_32, i_999, i_99, i_900, i_97, i_90, i_30, i_20, i_59, i_14, i_50, i_29, i_22, i_19, i_18, i_17, i_96, i_61, i_57, i_51, i_41, i_26, i_2552, i_255, i_25, i_23, i_21, i_16, i_15, i_122, i_10000, i_31, dzF, obs, b2_some, rz0, rz1, rzb, n01, n01', n10, n01e, nI_add, nI_mul, ↓reduceIte, not_false_eq_true, not_true_eq_false, ite_not]
  exact e
theorem R_worthOf (hT : VT T) (h : RQ T g I) {s : Nat} (hs : s < T 3) : ∃ I' J', mX10_worthOf (mk n I J) 224 (nI s) = some (wrV T g s (T 10), mk n I' J') ∧ WF I J I' J' ∧ WY T g s (T 10) I' (stp T g s (T 10)) ∧ I' 224 31 = wrM T g s (T 10) := by
  have b1 := hT.2.1
  obtain ⟨I', J', e, q, p, r⟩ := R_worthBy (n := n) (J := J) hT h hs (by omega : T 10 ≤ 1)
  refine ⟨I', J', ?_, q, p, r⟩
  unfold mX10_worthOf
  simp (disch := omega) only [mk_oO o_224, mk_gI f_224_0, mk_pI f_224_0, mk_gR f_224_1, mk_gR f_224_2, mk_gR f_224_3, mk_gR f_224_4, mk_gR f_224_5, mk_gI f_224_6, mk_pI f_224_6, mk_gR f_224_7, mk_gI f_224_8, mk_pI f_224_8, mk_gI f_224_9, mk_pI f_224_9, mk_gI f_224_10, mk_pI f_224_10, mk_gI f_224_11, mk_pI f_224_11, mk_gI f_224_12, mk_pI f_224_12, mk_gI f_224_13, mk_pI f_224_13, mk_gL f_224_14, mk_pL f_224_14, mk_gI f_224_15, mk_pI f_224_15, mk_gI f_224_16, mk_pI f_224_16, mk_gR f_224_17, mk_gR f_224_18, mk_gR f_224_19, mk_gI f_224_20, mk_pI f_224_20, mk_gR f_224_21, mk_gI f_224_22, mk_pI f_224_22, mk_gI f_224_23, mk_pI f_224_23, mk_gI f_224_24, mk_pI f_224_24, mk_gI f_224_25, mk_pI f_224_25, mk_gR f_224_26, mk_gI f_224_27, mk_pI f_224_27, mk_gI f_224_28, mk_pI f_224_28, mk_gR f_224_29, mk_gI f_224_30, mk_pI f_224_30, mk_gI f_224_31, mk_pI f_224_31, mk_gR f_224_32, mk_gI f_224_33, mk_pI f_224_33, ↓m_1, ↓m_2, i_0, i_1, i_2, i_3, i_4, i_6, i_5, i_12, i_11, i_10, i_9999, i_7, i_9, i_8, i_24, i_100, i_56, i_48, i_13, i_176, i_232, i_224, i_32, i_999, i_99, i_900, i_97, i_90, i_30, i_20, i_59, i_14, i_50, i_29, i_22, i_19, i_18, i_17, i_96, i_61, i_57, i_51, i_41, i_26, i_2552, i_255, i_25, i_23, i_21, i_16, i_15, i_122, i_10000, i_31, dzF, obs, b2_some, rz0, rz1, rzb, n01, n01', n10, n01e, nI_add, nI_mul, ↓reduceIte, not_false_eq_true, not_true_eq_false, ite_not, R_now h.1, e]
end RJ
