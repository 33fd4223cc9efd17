/-! ===== 47: tests, the six methods ===== -/
abbrev tstP (T : Nat → Nat) (g s t : Nat) : Prop := ¬ t = s ∧ ¬ t = g ∧ T (56 + 12 * t + 6) = 0 ∧ ¬ btw T t ∧ 0 < like T (T (56 + 12 * s + 0)) (T (56 + 12 * t + 0)) ∧ nearDay T s t
def tsl (T : Nat → Nat) (g s : Nat) : Nat → List Nat
  | 0 => []
  | t + 1 => tsl T g s t ++ if tstP T g s t then [brought T g s t] else []
def tests (T : Nat → Nat) (g s : Nat) : List Nat := (tsl T g s (T 3) ++ (if rsP T s = 0 then [] else [rsV T s])) ++ (if mkC T s = 0 then [] else [mkV T g s])
/-- the tests lie in the reference -/
def LT (I : Nat → Nat → Int32) (J : Nat → Nat → Int64) (l : List Nat) : Prop := I 224 27 = nI l.length ∧ ∀ k x, l[k]? = some x → J 235 k = lN x
def FJ (S : Nat → Prop) (J J' : Nat → Nat → Int64) : Prop := ∀ a c, ¬ S a → J' a c = J a c
theorem FJ.refl {S : Nat → Prop} (J : Nat → Nat → Int64) : FJ S J J := fun _ _ _ => rfl
theorem FJ.trans {S : Nat → Prop} {I I' I'' : Nat → Nat → Int64} (h : FJ S I I') (h' : FJ S I' I'') : FJ S I I'' := fun a c hn => (h' a c hn).trans (h a c hn)
theorem FJ_u2 {S : Nat → Prop} (J : Nat → Nat → Int64) {k f : Nat} (x : Int64) (hs : S k) : FJ S J (u2 J k f x) := fun a c hn => by
  unfold u2
  rw [if_neg]
  rintro ⟨rfl, rfl⟩
  exact hn hs
def SJ (a : Nat) : Prop := a = 235
/-- a question was asked -/
def QF (I : Nat → Nat → Int32) (J : Nat → Nat → Int64) (I' : Nat → Nat → Int32) (J' : Nat → Nat → Int64) : Prop := Fx SQ I I' ∧ FJ SJ J J'
theorem QF.refl (I : Nat → Nat → Int32) (J : Nat → Nat → Int64) : QF I J I J := ⟨Fx.refl I, FJ.refl J⟩
theorem QF.trans {I I' I'' : Nat → Nat → Int32} {J J' J'' : Nat → Nat → Int64} (h : QF I J I' J') (h' : QF I' J' I'' J'') : QF I J I'' J'' := ⟨h.1.trans h'.1, h.2.trans h'.2⟩
theorem QF.fa {I I' : Nat → Nat → Int32} {J : Nat → Nat → Int64} (h : Fx SA I I') : QF I J I' J := ⟨h.mono SA_SQ, FJ.refl J⟩
theorem RQ.qf {T : Nat → Nat} {g : Nat} {I I' : Nat → Nat → Int32} {J J' : Nat → Nat → Int64} (h : RQ T g I) (hf : QF I J I' J') : RQ T g I' := h.fx hf.1
theorem LT.fa {I I' : Nat → Nat → Int32} {J : Nat → Nat → Int64} {l : List Nat} (h : LT I J l) (hf : Fx SA I I') : LT I' J l := ⟨by rw [hf _ _ (by unfold SA; omega)]; exact h.1, h.2⟩
/-- near one of the tests -/
def nearT (o near x : Nat) : Bool := decide (100 * ((o - x) + (x - o)) ≤ near * x)
def ownW (T : Nat → Nat) (g s : Nat) : Nat := if T (56 + 12 * s + 6) = 1 then 11 else if btw T s then (if (tests T g s).any (nearT (own T g s) (T 6)) = true then 0 else if (tests T g s).length = 0 then 12 else 13) else 0
abbrev isOf (T : Nat → Nat) (s t how : Nat) : Prop := if how = 3 then T (24 + 4 * T (56 + 12 * s + 0) + 0) = T (24 + 4 * T (56 + 12 * t + 0) + 0) else like T (T (56 + 12 * s + 0)) (T (56 + 12 * t + 0)) = how ∧ nearDay T s t
abbrev cand (T : Nat → Nat) (g s how t : Nat) : Prop := ¬ t = s ∧ ¬ t = g ∧ isOf T s t how ∧ ownW T g t = 0
abbrev sameL (T : Nat → Nat) (s how t : Nat) : Prop := how < 3 ∧ lvl T s = lvl T t
/-- level, best, first -/
def otS (T : Nat → Nat) (g s how t : Nat) (b : Bool × Nat × Nat) : Bool × Nat × Nat :=
  if cand T g s how t ∧ (b.1 = true → sameL T s how t) then (b.1 || decide (sameL T s how t), if b.2.2 = 10 ∨ (sameL T s how t ∧ b.1 = false) ∨ brought T g s t < b.2.1 then (brought T g s t, t) else b.2) else b
def ot (T : Nat → Nat) (g s how : Nat) : Nat → Bool × Nat × Nat
  | 0 => (false, 0, 10)
  | t + 1 => otS T g s how t (ot T g s how t)
/-- by others: its first, its value -/
def othF (T : Nat → Nat) (g s how : Nat) : Nat := (ot T g s how (T 3)).2.2
def othV (T : Nat → Nat) (g s how : Nat) : Nat := (ot T g s how (T 3)).2.1
def othW (how : Nat) : Nat := if how = 3 then 61 else 10 * how + 11
/-- by a method: why it failed (0: it did not), and its value -/
def byW (T : Nat → Nat) (g s m : Nat) : Nat := if m = 1 then ownW T g s else if m = 2 then (if othF T g s 1 = 10 then 21 else 0) else if m = 3 then (if othF T g s 2 = 10 then 31 else 0) else if m = 4 then (if rsP T s = 0 then 41 else 0) else if m = 5 then (if mkC T s = 0 then 51 else 0) else (if othF T g s 3 = 10 then 61 else 0)
def byV (T : Nat → Nat) (g s m : Nat) : Nat := if m = 1 then own T g s else if m = 2 then othV T g s 1 else if m = 3 then othV T g s 2 else if m = 4 then rsV T s else if m = 5 then mkV T g s else othV T g s 3
section RI
variable {n g : Nat} {I : Nat → Nat → Int32} {J : Nat → Nat → Int64} {T : Nat → Nat}
theorem tsl_len (g s : Nat) : ∀ t, (tsl T g s t).length ≤ t ∧ (s < t → (tsl T g s t).length + 1 ≤ t)
  | 0 => ⟨Nat.le_refl _, fun h => absurd h (Nat.not_lt_zero _)⟩
  | t + 1 => by
    obtain ⟨h1, h2⟩ := tsl_len g s t
    unfold tsl
    rw [List.length_append]
    by_cases hc : tstP T g s t
    · rw [if_pos hc]
      have := hc.1
      simp only [List.length_cons, List.length_nil]
      exact ⟨by omega, fun h => by have := h2 (by omega); omega⟩
    · rw [if_neg hc]
      simp only [List.length_nil]
      exact ⟨by omega, fun h => by omega⟩
theorem tsl_le (hT : VT T) (s : Nat) : ∀ t, t ≤ T 3 → ∀ x ∈ tsl T g s t, x ≤ 300000000000000
  | 0, _, x, hx => absurd hx List.not_mem_nil
  | t + 1, ht, x, hx => by
    unfold tsl at hx
    rcases List.mem_append.mp hx with h | h
    · exact tsl_le hT s t (by omega) x h
    · split at h
      · rw [List.mem_singleton.mp h]; exact brought_le hT (by omega)
      · exact absurd h List.not_mem_nil
theorem rsV_le (hT : VT T) (s : Nat) : rsV T s ≤ 300000000000000 := by
  unfold rsV
  have c7 : T (56 + 12 * s + 3) * rsP T s * (100 - T 8) ≤ 9999 * 9999 * 100 := Nat.mul_le_mul (Nat.mul_le_mul (hT.le _) (rsP_le hT s)) (by omega)
  exact Nat.le_trans (Nat.div_le_self _ _) (Nat.le_trans c7 (by decide))
theorem tests_le (hT : VT T) {s : Nat} (hs : s < T 3) : ∀ x ∈ tests T g s, x ≤ 300000000000000 := by
  intro x hx
  unfold tests at hx
  rcases List.mem_append.mp hx with h | h
  · rcases List.mem_append.mp h with h | h
    · exact tsl_le hT s _ (Nat.le_refl _) x h
    · split at h
      · exact absurd h List.not_mem_nil
      · rw [List.mem_singleton.mp h]; exact rsV_le hT s
  · split at h
    · exact absurd h List.not_mem_nil
    · rw [List.mem_singleton.mp h]; exact Nat.le_trans (mkV_le hT hs) (by decide)
theorem tests_len (hT : VT T) {s : Nat} (hs : s < T 3) : (tests T g s).length ≤ 11 := by
  have b0 := hT.1
  have := (tsl_len (T := T) g s (T 3)).2 hs
  unfold tests
  rw [List.length_append, List.length_append]
  split <;> split <;> simp only [List.length_cons, List.length_nil] <;> omega
theorem fl_neg {w : Nat} (hw : w < 1000) : (fl w).toInt = -2 - (w : Int) := by
  unfold fl
  rw [Int32.toInt_toInt64, Int32.toInt_sub, M2_toInt, nI_toInt (by omega)]
  apply Int.bmod_eq_of_le <;> omega
theorem fl_lt0 {w : Nat} (hw : w < 1000) : (fl w < lN 0) = True := eq_true (by
  rw [Int64.lt_iff_toInt_lt, fl_neg hw, lL_toInt (by decide)]; omega)
theorem fl_ge0 {w : Nat} (hw : w < 1000) : (lN 0 ≤ fl w) = False := eq_false (by
  rw [Int64.le_iff_toInt_le, fl_neg hw, lL_toInt (by decide)]; omega)
theorem lge0 {a : Nat} (h : a < 2 ^ 63) : (lN 0 ≤ lN a) = True := eq_true ((lL_le (by decide) h).mpr (Nat.zero_le _))
theorem LT.add {l : List Nat} (h : LT I J l) (x : Nat) : LT (u2 I 224 27 (nI (l.length + 1))) (u2 J 235 l.length (lN x)) (l ++ [x]) := by
  refine ⟨by rw [u2_at, List.length_append]; rfl, fun k y hk => ?_⟩
  by_cases hk1 : k < l.length
  · rw [List.getElem?_append_left hk1] at hk
    rw [u2_no _ _ (by omega)]
    exact h.2 k y hk
  · rw [List.getElem?_append_right (by omega)] at hk
    have hk2 : k = l.length := by
      have := (List.getElem?_eq_some_iff.mp hk).1
      simp only [List.length_cons, List.length_nil] at this
      omega
    subst hk2
    simp only [Nat.sub_self, List.getElem?_cons_zero, Option.some.injEq] at hk
    rw [u2_at, hk]
theorem R_adds {l : List Nat} (h : LT I J l) (hl : l.length < 12) {x : Nat} (hx : x < 2 ^ 63) : ∃ I' J', mX10_adds (mk n I J) 224 (lN x) = some (mk n I' J') ∧ QF I J I' J' ∧ LT I' J' (l ++ [x]) := by
  refine ⟨_, _, ?_, ⟨Fx_u2 _ _ (by unfold SQ; omega), FJ_u2 _ _ rfl⟩, h.add x⟩
  unfold mX10_adds
  simp (disch := omega) only [mk_oO o_224, mk_gI f_224_0, mk_pI f_224_0, mk_gR f_224_1, mk_gR f_224_2, mk_gR f_224_3, mk_gR f_224_4, mk_gR f_224_5, mk_gI f_224_6, mk_pI f_224_6, mk_gR f_224_7, mk_gI f_224_8, mk_pI f_224_8, mk_gI f_224_9, mk_pI f_224_9, mk_gI f_224_10, mk_pI f_224_10, mk_gI f_224_11, mk_pI f_224_11, mk_gI f_224_12, mk_pI f_224_12, mk_gI f_224_13, mk_pI f_224_13, mk_gL f_224_14, mk_pL f_224_14, mk_gI f_224_15, mk_pI f_224_15, mk_gI f_224_16, mk_pI f_224_16, mk_gR f_224_17, mk_gR f_224_18, mk_gR f_224_19, mk_gI f_224_20, mk_pI f_224_20, mk_gR f_224_21, mk_gI f_224_22, mk_pI f_224_22, mk_gI f_224_23, mk_pI f_224_23, mk_gI f_224_24, mk_pI f_224_24, mk_gI f_224_25, mk_pI f_224_25, mk_gR f_224_26, mk_gI f_224_27, mk_pI f_224_27, mk_gI f_224_28, mk_pI f_224_28, mk_gR f_224_29, mk_gI f_224_30, mk_pI f_224_30, mk_gI f_224_31, mk_pI f_224_31, mk_gR f_224_32, mk_gI f_224_33, mk_pI f_224_33, ↓m_1, ↓m_2, i_0, i_1, i_2, i_3, i_4, i_6, i_5, i_12, i_11, i_10, i_9999, i_7, i_9, i_8, i_24, i_100, i_56, i_48, i_13, i_176, i_232, i_224, i_32, i_999, i_99, i_900, i_97, i_90, i_30, i_20, i_59, i_14, i_50, i_29, i_22, i_19, i_18, i_17, i_96, i_61, i_57, i_51, i_41, i_26, i_2552, i_255, i_25, i_23, i_21, i_16, i_15, i_122, i_10000, i_31, l_0, dzF, obs, b2_some, rz0, rz1, rzb, n01, n01', n10, n01e, nI_add, nI_mul, ↓reduceIte, not_false_eq_true, not_true_eq_false, ite_not, llt0, h.1, mk_sLn a_235]
theorem R_addsF {w : Nat} (hw : w < 1000) : mX10_adds (mk n I J) 224 (fl w) = some (mk n I J) := by
  unfold mX10_adds
  simp (disch := omega) only [mk_oO o_224, mk_gI f_224_0, mk_pI f_224_0, mk_gR f_224_1, mk_gR f_224_2, mk_gR f_224_3, mk_gR f_224_4, mk_gR f_224_5, mk_gI f_224_6, mk_pI f_224_6, mk_gR f_224_7, mk_gI f_224_8, mk_pI f_224_8, mk_gI f_224_9, mk_pI f_224_9, mk_gI f_224_10, mk_pI f_224_10, mk_gI f_224_11, mk_pI f_224_11, mk_gI f_224_12, mk_pI f_224_12, mk_gI f_224_13, mk_pI f_224_13, mk_gL f_224_14, mk_pL f_224_14, mk_gI f_224_15, mk_pI f_224_15, mk_gI f_224_16, mk_pI f_224_16, mk_gR f_224_17, mk_gR f_224_18, mk_gR f_224_19, mk_gI f_224_20, mk_pI f_224_20, mk_gR f_224_21, mk_gI f_224_22, mk_pI f_224_22, mk_gI f_224_23, mk_pI f_224_23, mk_gI f_224_24, mk_pI f_224_24, mk_gI f_224_25, mk_pI f_224_25, mk_gR f_224_26, mk_gI f_224_27, mk_pI f_224_27, mk_gI f_224_28, mk_pI f_224_28, mk_gR f_224_29, mk_gI f_224_30, mk_pI f_224_30, mk_gI f_224_31, mk_pI f_224_31, mk_gR f_224_32, mk_gI f_224_33, mk_pI f_224_33, ↓m_1, ↓m_2, i_0, i_1, i_2, i_3, i_4, i_6, i_5, i_12, i_11, i_10, i_9999, i_7, i_9, i_8, i_24, i_100, i_56, i_48, i_13, i_176, i_232, i_224, i_32, i_999, i_99, i_900, i_97, i_90, i_30, i_20, i_59, i_14, i_50, i_29, i_22, i_19, i_18, i_17, i_96, i_61, i_57, i_51, i_41, i_26, i_2552, i_255, i_25, i_23, i_21, i_16, i_15, i_122, i_10000, i_31, l_0, dzF, obs, b2_some, rz0, rz1, rzb, n01, n01', n10, n01e, nI_add, nI_mul, ↓reduceIte, not_false_eq_true, not_true_eq_false, ite_not, fl_lt0]
theorem R_laysL (hT : VT T) {s : Nat} (hs : s < T 3) : ∀ (k t fu : Nat) (I : Nat → Nat → Int32) (J : Nat → Nat → Int64), t + k = T 3 → k < fu → RQ T g I → LT I J (tsl T g s t) → ∃ I' J', mX10_laysTests_L7 fu (mk n I J) 224 (nI s) (nI t) = some (mk n I' J') ∧ QF I J I' J' ∧ LT I' J' (tests T g s) := by
  have b0 := hT.1
  intro k
  induction k with
  | zero =>
    intro t fu I J ht hf h hl
    obtain ⟨fu, rfl⟩ : ∃ f, fu = f + 1 := ⟨fu - 1, by omega⟩
    rw [show t = T 3 by omega] at hl
    have hlen := (tsl_len (T := T) g s (T 3)).2 hs
    have e1 := R_byResold (n := n) (J := J) hT h hs
    have h1 : RQ T g (u2 I 224 28 (pN (rsP T s))) := h.fx (Fx_u2 _ _ (by unfold SQ; omega))
    have hl1 : LT (u2 I 224 28 (pN (rsP T s))) J (tsl T g s (T 3)) := ⟨by rw [u2_no _ _ (by omega)]; exact hl.1, hl.2⟩
    have q1 : QF I J (u2 I 224 28 (pN (rsP T s))) J := ⟨Fx_u2 _ _ (by unfold SQ; omega), FJ.refl J⟩
    have s2 : ∃ I2 J2, mX10_adds (mk n (u2 I 224 28 (pN (rsP T s))) J) 224 (if rsP T s = 0 then fl 41 else lN (rsV T s)) = some (mk n I2 J2) ∧ QF (u2 I 224 28 (pN (rsP T s))) J I2 J2 ∧ LT I2 J2 (tsl T g s (T 3) ++ (if rsP T s = 0 then [] else [rsV T s])) := by
      by_cases hz : rsP T s = 0
      · rw [if_pos hz, if_pos hz, List.append_nil]
        exact ⟨_, _, R_addsF (by decide), QF.refl _ _, hl1⟩
      · rw [if_neg hz, if_neg hz]
        exact R_adds hl1 (by omega) (by have := rsV_le hT s; omega)
    obtain ⟨I2, J2, e2, q2, l2⟩ := s2
    obtain ⟨I3, e3, f3⟩ := R_byMaking (n := n) (J := J2) hT (h1.qf q2) hs
    have l3 := l2.fa f3
    have hlen2 : (tsl T g s (T 3) ++ (if rsP T s = 0 then [] else [rsV T s])).length < 12 := by
      rw [List.length_append]; split <;> simp only [List.length_cons, List.length_nil] <;> omega
    have s4 : ∃ I4 J4, mX10_adds (mk n I3 J2) 224 (if mkC T s = 0 then fl 51 else lN (mkV T g s)) = some (mk n I4 J4) ∧ QF I3 J2 I4 J4 ∧ LT I4 J4 (tests T g s) := by
      unfold tests
      by_cases hz : mkC T s = 0
      · rw [if_pos hz, if_pos hz, List.append_nil]
        exact ⟨_, _, R_addsF (by decide), QF.refl _ _, l3⟩
      · rw [if_neg hz, if_neg hz]
        exact R_adds l3 hlen2 (by have := mkV_le (g := g) hT hs; omega)
    obtain ⟨I4, J4, e4, q4, l4⟩ := s4
    refine ⟨I4, J4, ?_, ((q1.trans q2).trans (QF.fa f3)).trans q4, l4⟩
    show mX10_laysTests_b7 _ _ _ _ _ = _
    unfold mX10_laysTests_b7
    simp (disch := omega) only [mk_oO o_224, mk_gI f_224_0, mk_pI f_224_0, mk_gR f_224_1, mk_gR f_224_2, mk_gR f_224_3, mk_gR f_224_4, mk_gR f_224_5, mk_gI f_224_6, mk_pI f_224_6, mk_gR f_224_7, mk_gI f_224_8, mk_pI f_224_8, mk_gI f_224_9, mk_pI f_224_9, mk_gI f_224_10, mk_pI f_224_10, mk_gI f_224_11, mk_pI f_224_11, mk_gI f_224_12, mk_pI f_224_12, mk_gI f_224_13, mk_pI f_224_13, mk_gL f_224_14, mk_pL f_224_14, mk_gI f_224_15, mk_pI f_224_15, mk_gI f_224_16, mk_pI f_224_16, mk_gR f_224_17, mk_gR f_224_18, mk_gR f_224_19, mk_gI f_224_20, mk_pI f_224_20, mk_gR f_224_21, mk_gI f_224_22, mk_pI f_224_22, mk_gI f_224_23, mk_pI f_224_23, mk_gI f_224_24, mk_pI f_224_24, mk_gI f_224_25, mk_pI f_224_25, mk_gR f_224_26, mk_gI f_224_27, mk_pI f_224_27, mk_gI f_224_28, mk_pI f_224_28, mk_gR f_224_29, mk_gI f_224_30, mk_pI f_224_30, mk_gI f_224_31, mk_pI f_224_31, mk_gR f_224_32, mk_gI f_224_33, mk_pI f_224_33, ↓m_1, ↓m_2, i_0, i_1, i_2, i_3, i_4, i_6, i_5, i_12, i_11, i_10, i_9999, i_7, i_9, i_8, i_24, i_100, i_56, i_48, i_13, i_176, i_232, i_224, i_32, i_999, i_99, i_900, i_97, i_90, i_30, i_20, i_59, i_14, i_50, i_29, i_22, i_19, i_18, i_17, i_96, i_61, i_57, i_51, i_41, i_26, i_2552, i_255, i_25, i_23, i_21, i_16, i_15, i_122, i_10000, i_31, dzF, obs, b2_some, rz0, rz1, rzb, n01, n01', n10, n01e, nI_add, nI_mul, ↓reduceIte, not_false_eq_true, not_true_eq_false, ite_not, leT, R_now h.1, e1, e2, e3, e4]
  | succ k ih =>
    intro t fu I J ht hf h hl
    obtain ⟨fu, rfl⟩ : ∃ f, fu = f + 1 := ⟨fu - 1, by omega⟩
    have ht3 : t < T 3 := by omega
    have hlen := tsl_len (T := T) g s t
    show ∃ I' J', mX10_laysTests_b7 _ _ _ _ _ = _ ∧ _
    unfold mX10_laysTests_b7
    have hk : like T (T (56 + 12 * s + 0)) (T (56 + 12 * t + 0)) < 2 ^ 31 := by unfold like; split <;> (try split) <;> (try split) <;> decide
    by_cases hc : tstP T g s t
    · obtain ⟨c1, c2, c3, c4, c5, c6⟩ := id hc
      obtain ⟨I1, e1, f1⟩ := R_brought (n := n) (J := J) hT h hs ht3
      obtain ⟨I2, J2, e2, q2, l2⟩ := R_adds (n := n) (hl.fa f1) (by omega) (x := brought T g s t) (by have := brought_le (g := g) (s := s) hT ht3; omega)
      obtain ⟨I3, J3, e3, q3, l3⟩ := ih (t + 1) fu I2 J2 (by omega) (by omega) ((h.fa f1).qf q2) (by rw [tsl, if_pos hc]; exact l2)
      refine ⟨I3, J3, ?_, ((QF.fa f1).trans q2).trans q3, l3⟩
      simp (disch := omega) only [mk_oO o_224, mk_gI f_224_0, mk_pI f_224_0, mk_gR f_224_1, mk_gR f_224_2, mk_gR f_224_3, mk_gR f_224_4, mk_gR f_224_5, mk_gI f_224_6, mk_pI f_224_6, mk_gR f_224_7, mk_gI f_224_8, mk_pI f_224_8, mk_gI f_224_9, mk_pI f_224_9, mk_gI f_224_10, mk_pI f_224_10, mk_gI f_224_11, mk_pI f_224_11, mk_gI f_224_12, mk_pI f_224_12, mk_gI f_224_13, mk_pI f_224_13, mk_gL f_224_14, mk_pL f_224_14, mk_gI f_224_15, mk_pI f_224_15, mk_gI f_224_16, mk_pI f_224_16, mk_gR f_224_17, mk_gR f_224_18, mk_gR f_224_19, mk_gI f_224_20, mk_pI f_224_20, mk_gR f_224_21, mk_gI f_224_22, mk_pI f_224_22, mk_gI f_224_23, mk_pI f_224_23, mk_gI f_224_24, mk_pI f_224_24, mk_gI f_224_25, mk_pI f_224_25, mk_gR f_224_26, mk_gI f_224_27, mk_pI f_224_27, mk_gI f_224_28, mk_pI f_224_28, mk_gR f_224_29, mk_gI f_224_30, mk_pI f_224_30, mk_gI f_224_31, mk_pI f_224_31, mk_gR f_224_32, mk_gI f_224_33, mk_pI f_224_33, ↓m_1, ↓m_2, i_0, i_1, i_2, i_3, i_4, i_6, i_5, i_12, i_11, i_10, i_9999, i_7, i_9, i_8, i_24, i_100, i_56, i_48, i_13, i_176, i_232, i_224, i_32, i_999, i_99, i_900, i_97, i_90, i_30, i_20, i_59, i_14, i_50, i_29, i_22, i_19, i_18, i_17, i_96, i_61, i_57, i_51, i_41, i_26, i_2552, i_255, i_25, i_23, i_21, i_16, i_15, i_122, i_10000, i_31, dzF, obs, b2_some, rz0, rz1, rzb, n01, n01', n10, n01e, nI_add, nI_mul, ↓reduceIte, not_false_eq_true, not_true_eq_false, ite_not, leF, R_now h.1, eqF, R_isThere h, if_neg c2, R_of h, c3, R_isBetweenKin hT h, if_neg c4, R_likeSales hT h, R_isNearDay hT h, if_pos c6, e1, e2]
      exact e3
    · obtain ⟨I3, J3, e3, q3, l3⟩ := ih (t + 1) fu I J (by omega) (by omega) h (by rw [tsl, if_neg hc, List.append_nil]; exact hl)
      refine ⟨I3, J3, ?_, q3, l3⟩
      by_cases c1 : t = s
      · simp (disch := omega) only [mk_oO o_224, mk_gI f_224_0, mk_pI f_224_0, mk_gR f_224_1, mk_gR f_224_2, mk_gR f_224_3, mk_gR f_224_4, mk_gR f_224_5, mk_gI f_224_6, mk_pI f_224_6, mk_gR f_224_7, mk_gI f_224_8, mk_pI f_224_8, mk_gI f_224_9, mk_pI f_224_9, mk_gI f_224_10, mk_pI f_224_10, mk_gI f_224_11, mk_pI f_224_11, mk_gI f_224_12, mk_pI f_224_12, mk_gI f_224_13, mk_pI f_224_13, mk_gL f_224_14, mk_pL f_224_14, mk_gI f_224_15, mk_pI f_224_15, mk_gI f_224_16, mk_pI f_224_16, mk_gR f_224_17, mk_gR f_224_18, mk_gR f_224_19, mk_gI f_224_20, mk_pI f_224_20, mk_gR f_224_21, mk_gI f_224_22, mk_pI f_224_22, mk_gI f_224_23, mk_pI f_224_23, mk_gI f_224_24, mk_pI f_224_24, mk_gI f_224_25, mk_pI f_224_25, mk_gR f_224_26, mk_gI f_224_27, mk_pI f_224_27, mk_gI f_224_28, mk_pI f_224_28, mk_gR f_224_29, mk_gI f_224_30, mk_pI f_224_30, mk_gI f_224_31, mk_pI f_224_31, mk_gR f_224_32, mk_gI f_224_33, mk_pI f_224_33, ↓m_1, ↓m_2, i_0, i_1, i_2, i_3, i_4, i_6, i_5, i_12, i_11, i_10, i_9999, i_7, i_9, i_8, i_24, i_100, i_56, i_48, i_13, i_176, i_232, i_224, i_32, i_999, i_99, i_900, i_97, i_90, i_30, i_20, i_59, i_14, i_50, i_29, i_22, i_19, i_18, i_17, i_96, i_61, i_57, i_51, i_41, i_26, i_2552, i_255, i_25, i_23, i_21, i_16, i_15, i_122, i_10000, i_31, dzF, obs, b2_some, rz0, rz1, rzb, n01, n01', n10, n01e, nI_add, nI_mul, ↓reduceIte, not_false_eq_true, not_true_eq_false, ite_not, leF, R_now h.1, eqT]
        exact e3
      · by_cases c2 : t = g
        · simp (disch := omega) only [mk_oO o_224, mk_gI f_224_0, mk_pI f_224_0, mk_gR f_224_1, mk_gR f_224_2, mk_gR f_224_3, mk_gR f_224_4, mk_gR f_224_5, mk_gI f_224_6, mk_pI f_224_6, mk_gR f_224_7, mk_gI f_224_8, mk_pI f_224_8, mk_gI f_224_9, mk_pI f_224_9, mk_gI f_224_10, mk_pI f_224_10, mk_gI f_224_11, mk_pI f_224_11, mk_gI f_224_12, mk_pI f_224_12, mk_gI f_224_13, mk_pI f_224_13, mk_gL f_224_14, mk_pL f_224_14, mk_gI f_224_15, mk_pI f_224_15, mk_gI f_224_16, mk_pI f_224_16, mk_gR f_224_17, mk_gR f_224_18, mk_gR f_224_19, mk_gI f_224_20, mk_pI f_224_20, mk_gR f_224_21, mk_gI f_224_22, mk_pI f_224_22, mk_gI f_224_23, mk_pI f_224_23, mk_gI f_224_24, mk_pI f_224_24, mk_gI f_224_25, mk_pI f_224_25, mk_gR f_224_26, mk_gI f_224_27, mk_pI f_224_27, mk_gI f_224_28, mk_pI f_224_28, mk_gR f_224_29, mk_gI f_224_30, mk_pI f_224_30, mk_gI f_224_31, mk_pI f_224_31, mk_gR f_224_32, mk_gI f_224_33, mk_pI f_224_33, ↓m_1, ↓m_2, i_0, i_1, i_2, i_3, i_4, i_6, i_5, i_12, i_11, i_10, i_9999, i_7, i_9, i_8, i_24, i_100, i_56, i_48, i_13, i_176, i_232, i_224, i_32, i_999, i_99, i_900, i_97, i_90, i_30, i_20, i_59, i_14, i_50, i_29, i_22, i_19, i_18, i_17, i_96, i_61, i_57, i_51, i_41, i_26, i_2552, i_255, i_25, i_23, i_21, i_16, i_15, i_122, i_10000, i_31, dzF, obs, b2_some, rz0, rz1, rzb, n01, n01', n10, n01e, nI_add, nI_mul, ↓reduceIte, not_false_eq_true, not_true_eq_false, ite_not, leF, R_now h.1, eqF, R_isThere h, if_pos c2]
          exact e3
        · by_cases c3 : T (56 + 12 * t + 6) = 0
          · by_cases c4 : btw T t
            · simp (disch := omega) only [mk_oO o_224, mk_gI f_224_0, mk_pI f_224_0, mk_gR f_224_1, mk_gR f_224_2, mk_gR f_224_3, mk_gR f_224_4, mk_gR f_224_5, mk_gI f_224_6, mk_pI f_224_6, mk_gR f_224_7, mk_gI f_224_8, mk_pI f_224_8, mk_gI f_224_9, mk_pI f_224_9, mk_gI f_224_10, mk_pI f_224_10, mk_gI f_224_11, mk_pI f_224_11, mk_gI f_224_12, mk_pI f_224_12, mk_gI f_224_13, mk_pI f_224_13, mk_gL f_224_14, mk_pL f_224_14, mk_gI f_224_15, mk_pI f_224_15, mk_gI f_224_16, mk_pI f_224_16, mk_gR f_224_17, mk_gR f_224_18, mk_gR f_224_19, mk_gI f_224_20, mk_pI f_224_20, mk_gR f_224_21, mk_gI f_224_22, mk_pI f_224_22, mk_gI f_224_23, mk_pI f_224_23, mk_gI f_224_24, mk_pI f_224_24, mk_gI f_224_25, mk_pI f_224_25, mk_gR f_224_26, mk_gI f_224_27, mk_pI f_224_27, mk_gI f_224_28, mk_pI f_224_28, mk_gR f_224_29, mk_gI f_224_30, mk_pI f_224_30, mk_gI f_224_31, mk_pI f_224_31, mk_gR f_224_32, mk_gI f_224_33, mk_pI f_224_33, ↓m_1, ↓m_2, i_0, i_1, i_2, i_3, i_4, i_6, i_5, i_12, i_11, i_10, i_9999, i_7, i_9, i_8, i_24, i_100, i_56, i_48, i_13, i_176, i_232, i_224, i_32, i_999, i_99, i_900, i_97, i_90, i_30, i_20, i_59, i_14, i_50, i_29, i_22, i_19, i_18, i_17, i_96, i_61, i_57, i_51, i_41, i_26, i_2552, i_255, i_25, i_23, i_21, i_16, i_15, i_122, i_10000, i_31, dzF, obs, b2_some, rz0, rz1, rzb, n01, n01', n10, n01e, nI_add, nI_mul, ↓reduceIte, not_false_eq_true, not_true_eq_false, ite_not, leF, R_now h.1, eqF, R_isThere h, if_neg c2, R_of h, c3, R_isBetweenKin hT h, if_pos c4]
              exact e3
            · by_cases c5 : 0 < like T (T (56 + 12 * s + 0)) (T (56 + 12 * t + 0))
              · have c6 : ¬ nearDay T s t := fun z => hc ⟨c1, c2, c3, c4, c5, z⟩
                simp (disch := omega) only [mk_oO o_224, mk_gI f_224_0, mk_pI f_224_0, mk_gR f_224_1, mk_gR f_224_2, mk_gR f_224_3, mk_gR f_224_4, mk_gR f_224_5, mk_gI f_224_6, mk_pI f_224_6, mk_gR f_224_7, mk_gI f_224_8, mk_pI f_224_8, mk_gI f_224_9, mk_pI f_224_9, mk_gI f_224_10, mk_pI f_224_10, mk_gI f_224_11, mk_pI f_224_11, mk_gI f_224_12, mk_pI f_224_12, mk_gI f_224_13, mk_pI f_224_13, mk_gL f_224_14, mk_pL f_224_14, mk_gI f_224_15, mk_pI f_224_15, mk_gI f_224_16, mk_pI f_224_16, mk_gR f_224_17, mk_gR f_224_18, mk_gR f_224_19, mk_gI f_224_20, mk_pI f_224_20, mk_gR f_224_21, mk_gI f_224_22, mk_pI f_224_22, mk_gI f_224_23, mk_pI f_224_23, mk_gI f_224_24, mk_pI f_224_24, mk_gI f_224_25, mk_pI f_224_25, mk_gR f_224_26, mk_gI f_224_27, mk_pI f_224_27, mk_gI f_224_28, mk_pI f_224_28, mk_gR f_224_29, mk_gI f_224_30, mk_pI f_224_30, mk_gI f_224_31, mk_pI f_224_31, mk_gR f_224_32, mk_gI f_224_33, mk_pI f_224_33, ↓m_1, ↓m_2, i_0, i_1, i_2, i_3, i_4, i_6, i_5, i_12, i_11, i_10, i_9999, i_7, i_9, i_8, i_24, i_100, i_56, i_48, i_13, i_176, i_232, i_224, i_32, i_999, i_99, i_900, i_97, i_90, i_30, i_20, i_59, i_14, i_50, i_29, i_22, i_19, i_18, i_17, i_96, i_61, i_57, i_51, i_41, i_26, i_2552, i_255, i_25, i_23, i_21, i_16, i_15, i_122, i_10000, i_31, dzF, obs, b2_some, rz0, rz1, rzb, n01, n01', n10, n01e, nI_add, nI_mul, ↓reduceIte, not_false_eq_true, not_true_eq_false, ite_not, leF, R_now h.1, eqF, R_isThere h, if_neg c2, R_of h, c3, R_isBetweenKin hT h, if_neg c4, R_likeSales hT h, R_isNearDay hT h, if_neg c6]
                exact e3
              · simp (disch := omega) only [mk_oO o_224, mk_gI f_224_0, mk_pI f_224_0, mk_gR f_224_1, mk_gR f_224_2, mk_gR f_224_3, mk_gR f_224_4, mk_gR f_224_5, mk_gI f_224_6, mk_pI f_224_6, mk_gR f_224_7, mk_gI f_224_8, mk_pI f_224_8, mk_gI f_224_9, mk_pI f_224_9, mk_gI f_224_10, mk_pI f_224_10, mk_gI f_224_11, mk_pI f_224_11, mk_gI f_224_12, mk_pI f_224_12, mk_gI f_224_13, mk_pI f_224_13, mk_gL f_224_14, mk_pL f_224_14, mk_gI f_224_15, mk_pI f_224_15, mk_gI f_224_16, mk_pI f_224_16, mk_gR f_224_17, mk_gR f_224_18, mk_gR f_224_19, mk_gI f_224_20, mk_pI f_224_20, mk_gR f_224_21, mk_gI f_224_22, mk_pI f_224_22, mk_gI f_224_23, mk_pI f_224_23, mk_gI f_224_24, mk_pI f_224_24, mk_gI f_224_25, mk_pI f_224_25, mk_gR f_224_26, mk_gI f_224_27, mk_pI f_224_27, mk_gI f_224_28, mk_pI f_224_28, mk_gR f_224_29, mk_gI f_224_30, mk_pI f_224_30, mk_gI f_224_31, mk_pI f_224_31, mk_gR f_224_32, mk_gI f_224_33, mk_pI f_224_33, ↓m_1, ↓m_2, i_0, i_1, i_2, i_3, i_4, i_6, i_5, i_12, i_11, i_10, i_9999, i_7, i_9, i_8, i_24, i_100, i_56, i_48, i_13, i_176, i_232, i_224, i_32, i_999, i_99, i_900, i_97, i_90, i_30, i_20, i_59, i_14, i_50, i_29, i_22, i_19, i_18, i_17, i_96, i_61, i_57, i_51, i_41, i_26, i_2552, i_255, i_25, i_23, i_21, i_16, i_15, i_122, i_10000, i_31, dzF, obs, b2_some, rz0, rz1, rzb, n01, n01', n10, n01e, nI_add, nI_mul, ↓reduceIte, not_false_eq_true, not_true_eq_false, ite_not, leF, leT, R_now h.1, eqF, R_isThere h, if_neg c2, R_of h, c3, R_isBetweenKin hT h, if_neg c4, R_likeSales hT h]
                exact e3
          · have c7 := hT.le (56 + 12 * t + 6)
            simp (disch := omega) only [mk_oO o_224, mk_gI f_224_0, mk_pI f_224_0, mk_gR f_224_1, mk_gR f_224_2, mk_gR f_224_3, mk_gR f_224_4, mk_gR f_224_5, mk_gI f_224_6, mk_pI f_224_6, mk_gR f_224_7, mk_gI f_224_8, mk_pI f_224_8, mk_gI f_224_9, mk_pI f_224_9, mk_gI f_224_10, mk_pI f_224_10, mk_gI f_224_11, mk_pI f_224_11, mk_gI f_224_12, mk_pI f_224_12, mk_gI f_224_13, mk_pI f_224_13, mk_gL f_224_14, mk_pL f_224_14, mk_gI f_224_15, mk_pI f_224_15, mk_gI f_224_16, mk_pI f_224_16, mk_gR f_224_17, mk_gR f_224_18, mk_gR f_224_19, mk_gI f_224_20, mk_pI f_224_20, mk_gR f_224_21, mk_gI f_224_22, mk_pI f_224_22, mk_gI f_224_23, mk_pI f_224_23, mk_gI f_224_24, mk_pI f_224_24, mk_gI f_224_25, mk_pI f_224_25, mk_gR f_224_26, mk_gI f_224_27, mk_pI f_224_27, mk_gI f_224_28, mk_pI f_224_28, mk_gR f_224_29, mk_gI f_224_30, mk_pI f_224_30, mk_gI f_224_31, mk_pI f_224_31, mk_gR f_224_32, mk_gI f_224_33, mk_pI f_224_33, ↓m_1, ↓m_2, i_0, i_1, i_2, i_3, i_4, i_6, i_5, i_12, i_11, i_10, i_9999, i_7, i_9, i_8, i_24, i_100, i_56, i_48, i_13, i_176, i_232, i_224, i_32, i_999, i_99, i_900, i_97, i_90, i_30, i_20, i_59, i_14, i_50, i_29, i_22, i_19, i_18, i_17, i_96, i_61, i_57, i_51, i_41, i_26, i_2552, i_255, i_25, i_23, i_21, i_16, i_15, i_122, i_10000, i_31, dzF, obs, b2_some, rz0, rz1, rzb, n01, n01', n10, n01e, nI_add, nI_mul, ↓reduceIte, not_false_eq_true, not_true_eq_false, ite_not, leF, R_now h.1, eqF, R_isThere h, if_neg c2, R_of h]
            exact e3
theorem R_laysTests (hT : VT T) (h : RQ T g I) {s : Nat} (hs : s < T 3) : ∃ I' J', mX10_laysTests (mk n I J) 224 (nI s) = some (mk n I' J') ∧ QF I J I' J' ∧ LT I' J' (tests T g s) := by
  have b0 := hT.1
  have f0 : Fx SQ I (u2 I 224 27 (nI 0)) := Fx_u2 _ _ (by unfold SQ; omega)
  obtain ⟨I', J', e, q, l⟩ := R_laysL (n := n) hT hs (T 3) 0 FU (u2 I 224 27 (nI 0)) J (by omega) (by unfold FU; omega) (h.fx f0) ⟨by rw [u2_at]; rfl, fun k x hk => by rw [tsl] at hk; simp at hk⟩
  refine ⟨I', J', ?_, QF.trans ⟨f0, FJ.refl J⟩ q, l⟩
  unfold mX10_laysTests
  simp (disch := omega) only [mk_oO o_224, mk_gI f_224_0, mk_pI f_224_0, mk_gR f_224_1, mk_gR f_224_2, mk_gR f_224_3, mk_gR f_224_4, mk_gR f_224_5, mk_gI f_224_6, mk_pI f_224_6, mk_gR f_224_7, mk_gI f_224_8, mk_pI f_224_8, mk_gI f_224_9, mk_pI f_224_9, mk_gI f_224_10, mk_pI f_224_10, mk_gI f_224_11, mk_pI f_224_11, mk_gI f_224_12, mk_pI f_224_12, mk_gI f_224_13, mk_pI f_224_13, mk_gL f_224_14, mk_pL f_224_14, mk_gI f_224_15, mk_pI f_224_15, mk_gI f_224_16, mk_pI f_224_16, mk_gR f_224_17, mk_gR f_224_18, mk_gR f_224_19, mk_gI f_224_20, mk_pI f_224_20, mk_gR f_224_21, mk_gI f_224_22, mk_pI f_224_22, mk_gI f_224_23, mk_pI f_224_23, mk_gI f_224_24, mk_pI f_224_24, mk_gI f_224_25, mk_pI f_224_25, mk_gR f_224_26, mk_gI f_224_27, mk_pI f_224_27, mk_gI f_224_28, mk_pI f_224_28, mk_gR f_224_29, mk_gI f_224_30, mk_pI f_224_30, mk_gI f_224_31, mk_pI f_224_31, mk_gR f_224_32, mk_gI f_224_33, mk_pI f_224_33, ↓m_1, ↓m_2, i_0, i_1, i_2, i_3, i_4, i_6, i_5, i_12, i_11, i_10, i_9999, i_7, i_9, i_8, i_24, i_100, i_56, i_48, i_13, i_176, i_232, i_224, i_32, i_999, i_99, i_900, i_97, i_90, i_30, i_20, i_59, i_14, i_50, i_29, i_22, i_19, i_18, i_17, i_96, i_61, i_57, i_51, i_41, i_26, i_2552, i_255, i_25, i_23, i_21, i_16, i_15, i_122, i_10000, i_31, dzF, obs, b2_some, rz0, rz1, rzb, n01, n01', n10, n01e, nI_add, nI_mul, ↓reduceIte, not_false_eq_true, not_true_eq_false, ite_not]
  exact e
theorem R_isNearL {l : List Nat} (h : LT I J l) (hl : l.length ≤ 11) (hx : ∀ x ∈ l, x ≤ 300000000000000) {o near : Nat} (ho : o ≤ 300000000000000) (hn : near ≤ 100) : ∀ (k t fu : Nat), t + k = l.length → k < fu → mX10_isNear_L3 fu (mk n I J) 224 (lN o) (nI near) (nI t) = some (nI (if (l.drop t).any (nearT o near) = true then 1 else 0), mk n I J) := by
  intro k
  induction k with
  | zero =>
    intro t fu ht hf
    obtain ⟨fu, rfl⟩ : ∃ f, fu = f + 1 := ⟨fu - 1, by omega⟩
    show mX10_isNear_b3 _ _ _ _ _ _ = _
    unfold mX10_isNear_b3
    rw [List.drop_eq_nil_of_le (by omega)]
    simp (disch := omega) only [mk_oO o_224, mk_gI f_224_0, mk_pI f_224_0, mk_gR f_224_1, mk_gR f_224_2, mk_gR f_224_3, mk_gR f_224_4, mk_gR f_224_5, mk_gI f_224_6, mk_pI f_224_6, mk_gR f_224_7, mk_gI f_224_8, mk_pI f_224_8, mk_gI f_224_9, mk_pI f_224_9, mk_gI f_224_10, mk_pI f_224_10, mk_gI f_224_11, mk_pI f_224_11, mk_gI f_224_12, mk_pI f_224_12, mk_gI f_224_13, mk_pI f_224_13, mk_gL f_224_14, mk_pL f_224_14, mk_gI f_224_15, mk_pI f_224_15, mk_gI f_224_16, mk_pI f_224_16, mk_gR f_224_17, mk_gR f_224_18, mk_gR f_224_19, mk_gI f_224_20, mk_pI f_224_20, mk_gR f_224_21, mk_gI f_224_22, mk_pI f_224_22, mk_gI f_224_23, mk_pI f_224_23, mk_gI f_224_24, mk_pI f_224_24, mk_gI f_224_25, mk_pI f_224_25, mk_gR f_224_26, mk_gI f_224_27, mk_pI f_224_27, mk_gI f_224_28, mk_pI f_224_28, mk_gR f_224_29, mk_gI f_224_30, mk_pI f_224_30, mk_gI f_224_31, mk_pI f_224_31, mk_gR f_224_32, mk_gI f_224_33, mk_pI f_224_33, ↓m_1, ↓m_2, i_0, i_1, i_2, i_3, i_4, i_6, i_5, i_12, i_11, i_10, i_9999, i_7, i_9, i_8, i_24, i_100, i_56, i_48, i_13, i_176, i_232, i_224, i_32, i_999, i_99, i_900, i_97, i_90, i_30, i_20, i_59, i_14, i_50, i_29, i_22, i_19, i_18, i_17, i_96, i_61, i_57, i_51, i_41, i_26, i_2552, i_255, i_25, i_23, i_21, i_16, i_15, i_122, i_10000, i_31, dzF, obs, b2_some, rz0, rz1, rzb, n01, n01', n10, n01e, nI_add, nI_mul, ↓reduceIte, not_false_eq_true, not_true_eq_false, ite_not, leT, h.1, List.any_nil, Bool.false_eq_true]
  | succ k ih =>
    intro t fu ht hf
    obtain ⟨fu, rfl⟩ : ∃ f, fu = f + 1 := ⟨fu - 1, by omega⟩
    have e := ih (t + 1) fu (by omega) (by omega)
    have htl : t < l.length := by omega
    have hJ : J 235 t = lN l[t] := h.2 t l[t] (List.getElem?_eq_getElem htl)
    have hb := hx l[t] (List.getElem_mem htl)
    rw [List.drop_eq_getElem_cons htl, List.any_cons]
    generalize l[t] = x at hJ hb
    have hm : near * x ≤ 100 * 300000000000000 := Nat.mul_le_mul hn hb
    show mX10_isNear_b3 _ _ _ _ _ _ = _
    unfold mX10_isNear_b3 mX10_isNear_b45
    have hn2 : nearT o near x = decide (100 * ((o - x) + (x - o)) ≤ near * x) := rfl
    by_cases c1 : o ≤ x
    · simp (disch := omega) only [mk_oO o_224, mk_gI f_224_0, mk_pI f_224_0, mk_gR f_224_1, mk_gR f_224_2, mk_gR f_224_3, mk_gR f_224_4, mk_gR f_224_5, mk_gI f_224_6, mk_pI f_224_6, mk_gR f_224_7, mk_gI f_224_8, mk_pI f_224_8, mk_gI f_224_9, mk_pI f_224_9, mk_gI f_224_10, mk_pI f_224_10, mk_gI f_224_11, mk_pI f_224_11, mk_gI f_224_12, mk_pI f_224_12, mk_gI f_224_13, mk_pI f_224_13, mk_gL f_224_14, mk_pL f_224_14, mk_gI f_224_15, mk_pI f_224_15, mk_gI f_224_16, mk_pI f_224_16, mk_gR f_224_17, mk_gR f_224_18, mk_gR f_224_19, mk_gI f_224_20, mk_pI f_224_20, mk_gR f_224_21, mk_gI f_224_22, mk_pI f_224_22, mk_gI f_224_23, mk_pI f_224_23, mk_gI f_224_24, mk_pI f_224_24, mk_gI f_224_25, mk_pI f_224_25, mk_gR f_224_26, mk_gI f_224_27, mk_pI f_224_27, mk_gI f_224_28, mk_pI f_224_28, mk_gR f_224_29, mk_gI f_224_30, mk_pI f_224_30, mk_gI f_224_31, mk_pI f_224_31, mk_gR f_224_32, mk_gI f_224_33, mk_pI f_224_33, ↓m_1, ↓m_2, i_0, i_1, i_2, i_3, i_4, i_6, i_5, i_12, i_11, i_10, i_9999, i_7, i_9, i_8, i_24, i_100, i_56, i_48, i_13, i_176, i_232, i_224, i_32, i_999, i_99, i_900, i_97, i_90, i_30, i_20, i_59, i_14, i_50, i_29, i_22, i_19, i_18, i_17, i_96, i_61, i_57, i_51, i_41, i_26, i_2552, i_255, i_25, i_23, i_21, i_16, i_15, i_122, i_10000, i_31, l_100, dzF, obs, b2_some, rz0, rz1, rzb, n01, n01', n10, n01e, nI_add, nI_mul, ↓reduceIte, not_false_eq_true, not_true_eq_false, ite_not, leF, h.1, mk_aLn a_235, hJ, lL_le, if_pos c1, lN_sub, nI_l, lN_mul, lL_lt]
      by_cases c2 : near * x < 100 * (x - o)
      · rw [if_pos c2, hn2, decide_eq_false (by omega), Bool.false_or]; exact e
      · rw [if_neg c2, hn2, decide_eq_true (by omega), Bool.true_or, if_pos rfl]
    · simp (disch := omega) only [mk_oO o_224, mk_gI f_224_0, mk_pI f_224_0, mk_gR f_224_1, mk_gR f_224_2, mk_gR f_224_3, mk_gR f_224_4, mk_gR f_224_5, mk_gI f_224_6, mk_pI f_224_6, mk_gR f_224_7, mk_gI f_224_8, mk_pI f_224_8, mk_gI f_224_9, mk_pI f_224_9, mk_gI f_224_10, mk_pI f_224_10, mk_gI f_224_11, mk_pI f_224_11, mk_gI f_224_12, mk_pI f_224_12, mk_gI f_224_13, mk_pI f_224_13, mk_gL f_224_14, mk_pL f_224_14, mk_gI f_224_15, mk_pI f_224_15, mk_gI f_224_16, mk_pI f_224_16, mk_gR f_224_17, mk_gR f_224_18, mk_gR f_224_19, mk_gI f_224_20, mk_pI f_224_20, mk_gR f_224_21, mk_gI f_224_22, mk_pI f_224_22, mk_gI f_224_23, mk_pI f_224_23, mk_gI f_224_24, mk_pI f_224_24, mk_gI f_224_25, mk_pI f_224_25, mk_gR f_224_26, mk_gI f_224_27, mk_pI f_224_27, mk_gI f_224_28, mk_pI f_224_28, mk_gR f_224_29, mk_gI f_224_30, mk_pI f_224_30, mk_gI f_224_31, mk_pI f_224_31, mk_gR f_224_32, mk_gI f_224_33, mk_pI f_224_33, ↓m_1, ↓m_2, i_0, i_1, i_2, i_3, i_4, i_6, i_5, i_12, i_11, i_10, i_9999, i_7, i_9, i_8, i_24, i_100, i_56, i_48, i_13, i_176, i_232, i_224, i_32, i_999, i_99, i_900, i_97, i_90, i_30, i_20, i_59, i_14, i_50, i_29, i_22, i_19, i_18, i_17, i_96, i_61, i_57, i_51, i_41, i_26, i_2552, i_255, i_25, i_23, i_21, i_16, i_15, i_122, i_10000, i_31, l_100, dzF, obs, b2_some, rz0, rz1, rzb, n01, n01', n10, n01e, nI_add, nI_mul, ↓reduceIte, not_false_eq_true, not_true_eq_false, ite_not, leF, h.1, mk_aLn a_235, hJ, lL_le, if_neg c1, lN_sub, nI_l, lN_mul, lL_lt]
      by_cases c2 : near * x < 100 * (o - x)
      · rw [if_pos c2, hn2, decide_eq_false (by omega), Bool.false_or]; exact e
      · rw [if_neg c2, hn2, decide_eq_true (by omega), Bool.true_or, if_pos rfl]
theorem R_isNear {l : List Nat} (h : LT I J l) (hl : l.length ≤ 11) (hx : ∀ x ∈ l, x ≤ 300000000000000) {o near : Nat} (ho : o ≤ 300000000000000) (hn : near ≤ 100) : mX10_isNear (mk n I J) 224 (lN o) (nI near) = some (nI (if l.any (nearT o near) = true then 1 else 0), mk n I J) := by
  unfold mX10_isNear
  rw [mk_oO o_224]
  exact R_isNearL h hl hx ho hn l.length 0 FU (by omega) (by unfold FU; omega)
theorem R_doesPass (hT : VT T) (h : RQ T g I) {s : Nat} (hs : s < T 3) : ∃ I' J', mX10_doesPass (mk n I J) 224 (nI s) = some (nI (if (tests T g s).any (nearT (own T g s) (T 6)) = true then 1 else 0), mk n I' J') ∧ QF I J I' J' ∧ LT I' J' (tests T g s) := by
  have b0 := hT.1
  have b1 := hT.2.1
  obtain ⟨I1, J1, e1, q1, l1⟩ := R_laysTests (n := n) (J := J) hT h hs
  obtain ⟨I2, e2, f2⟩ := R_ownOf (n := n) (J := J1) hT (h.qf q1) hs
  have h2 := (h.qf q1).fa f2
  have e3 := R_isNear (n := n) (l1.fa f2) (tests_len hT hs) (tests_le hT hs) (o := own T g s) (near := T 6) (by have := own_le (g := g) hT hs; omega) (by omega)
  refine ⟨I2, J1, ?_, q1.trans (QF.fa f2), l1.fa f2⟩
  unfold mX10_doesPass
  simp (disch := omega) only [mk_oO o_224, mk_gI f_224_0, mk_pI f_224_0, mk_gR f_224_1, mk_gR f_224_2, mk_gR f_224_3, mk_gR f_224_4, mk_gR f_224_5, mk_gI f_224_6, mk_pI f_224_6, mk_gR f_224_7, mk_gI f_224_8, mk_pI f_224_8, mk_gI f_224_9, mk_pI f_224_9, mk_gI f_224_10, mk_pI f_224_10, mk_gI f_224_11, mk_pI f_224_11, mk_gI f_224_12, mk_pI f_224_12, mk_gI f_224_13, mk_pI f_224_13, mk_gL f_224_14, mk_pL f_224_14, mk_gI f_224_15, mk_pI f_224_15, mk_gI f_224_16, mk_pI f_224_16, mk_gR f_224_17, mk_gR f_224_18, mk_gR f_224_19, mk_gI f_224_20, mk_pI f_224_20, mk_gR f_224_21, mk_gI f_224_22, mk_pI f_224_22, mk_gI f_224_23, mk_pI f_224_23, mk_gI f_224_24, mk_pI f_224_24, mk_gI f_224_25, mk_pI f_224_25, mk_gR f_224_26, mk_gI f_224_27, mk_pI f_224_27, mk_gI f_224_28, mk_pI f_224_28, mk_gR f_224_29, mk_gI f_224_30, mk_pI f_224_30, mk_gI f_224_31, mk_pI f_224_31, mk_gR f_224_32, mk_gI f_224_33, mk_pI f_224_33, ↓m_1, ↓m_2, i_0, i_1, i_2, i_3, i_4, i_6, i_5, i_12, i_11, i_10, i_9999, i_7, i_9, i_8, i_24, i_100, i_56, i_48, i_13, i_176, i_232, i_224, i_32, i_999, i_99, i_900, i_97, i_90, i_30, i_20, i_59, i_14, i_50, i_29, i_22, i_19, i_18, i_17, i_96, i_61, i_57, i_51, i_41, i_26, i_2552, i_255, i_25, i_23, i_21, i_16, i_15, i_122, i_10000, i_31, dzF, obs, b2_some, rz0, rz1, rzb, n01, n01', n10, n01e, nI_add, nI_mul, ↓reduceIte, not_false_eq_true, not_true_eq_false, ite_not, e1, e2, R_now h2.1, e3]
theorem R_byOwn (hT : VT T) (h : RQ T g I) {s : Nat} (hs : s < T 3) : ∃ I' J', mX10_byOwn (mk n I J) 224 (nI s) = some (vN (ownW T g s) (own T g s), mk n I' J') ∧ QF I J I' J' := by
  have b0 := hT.1
  have b1 := hT.sbo hs
  unfold mX10_byOwn mX10_byOwn_b33 mX10_byOwn_b53 mX10_fails
  by_cases c1 : T (56 + 12 * s + 6) = 1
  · refine ⟨I, J, ?_, QF.refl I J⟩
    have hw : ownW T g s = 11 := if_pos c1
    simp (disch := omega) only [mk_oO o_224, mk_gI f_224_0, mk_pI f_224_0, mk_gR f_224_1, mk_gR f_224_2, mk_gR f_224_3, mk_gR f_224_4, mk_gR f_224_5, mk_gI f_224_6, mk_pI f_224_6, mk_gR f_224_7, mk_gI f_224_8, mk_pI f_224_8, mk_gI f_224_9, mk_pI f_224_9, mk_gI f_224_10, mk_pI f_224_10, mk_gI f_224_11, mk_pI f_224_11, mk_gI f_224_12, mk_pI f_224_12, mk_gI f_224_13, mk_pI f_224_13, mk_gL f_224_14, mk_pL f_224_14, mk_gI f_224_15, mk_pI f_224_15, mk_gI f_224_16, mk_pI f_224_16, mk_gR f_224_17, mk_gR f_224_18, mk_gR f_224_19, mk_gI f_224_20, mk_pI f_224_20, mk_gR f_224_21, mk_gI f_224_22, mk_pI f_224_22, mk_gI f_224_23, mk_pI f_224_23, mk_gI f_224_24, mk_pI f_224_24, mk_gI f_224_25, mk_pI f_224_25, mk_gR f_224_26, mk_gI f_224_27, mk_pI f_224_27, mk_gI f_224_28, mk_pI f_224_28, mk_gR f_224_29, mk_gI f_224_30, mk_pI f_224_30, mk_gI f_224_31, mk_pI f_224_31, mk_gR f_224_32, mk_gI f_224_33, mk_pI f_224_33, ↓m_1, ↓m_2, i_0, i_1, i_2, i_3, i_4, i_6, i_5, i_12, i_11, i_10, i_9999, i_7, i_9, i_8, i_24, i_100, i_56, i_48, i_13, i_176, i_232, i_224, i_32, i_999, i_99, i_900, i_97, i_90, i_30, i_20, i_59, i_14, i_50, i_29, i_22, i_19, i_18, i_17, i_96, i_61, i_57, i_51, i_41, i_26, i_2552, i_255, i_25, i_23, i_21, i_16, i_15, i_122, i_10000, i_31, dzF, obs, b2_some, rz0, rz1, rzb, n01, n01', n10, n01e, nI_add, nI_mul, ↓reduceIte, not_false_eq_true, not_true_eq_false, ite_not, R_of h, c1, hw, vN, fl, eqF]
    rfl
  · by_cases c2 : btw T s
    · obtain ⟨I1, J1, e1, q1, l1⟩ := R_doesPass (n := n) (J := J) hT h hs
      by_cases c3 : (tests T g s).any (nearT (own T g s) (T 6)) = true
      · obtain ⟨I2, e2, f2⟩ := R_ownOf (n := n) (J := J1) hT (h.qf q1) hs
        refine ⟨I2, J1, ?_, q1.trans (QF.fa f2)⟩
        have hw : ownW T g s = 0 := by unfold ownW; rw [if_neg c1, if_pos c2, if_pos c3]
        simp (disch := omega) only [mk_oO o_224, mk_gI f_224_0, mk_pI f_224_0, mk_gR f_224_1, mk_gR f_224_2, mk_gR f_224_3, mk_gR f_224_4, mk_gR f_224_5, mk_gI f_224_6, mk_pI f_224_6, mk_gR f_224_7, mk_gI f_224_8, mk_pI f_224_8, mk_gI f_224_9, mk_pI f_224_9, mk_gI f_224_10, mk_pI f_224_10, mk_gI f_224_11, mk_pI f_224_11, mk_gI f_224_12, mk_pI f_224_12, mk_gI f_224_13, mk_pI f_224_13, mk_gL f_224_14, mk_pL f_224_14, mk_gI f_224_15, mk_pI f_224_15, mk_gI f_224_16, mk_pI f_224_16, mk_gR f_224_17, mk_gR f_224_18, mk_gR f_224_19, mk_gI f_224_20, mk_pI f_224_20, mk_gR f_224_21, mk_gI f_224_22, mk_pI f_224_22, mk_gI f_224_23, mk_pI f_224_23, mk_gI f_224_24, mk_pI f_224_24, mk_gI f_224_25, mk_pI f_224_25, mk_gR f_224_26, mk_gI f_224_27, mk_pI f_224_27, mk_gI f_224_28, mk_pI f_224_28, mk_gR f_224_29, mk_gI f_224_30, mk_pI f_224_30, mk_gI f_224_31, mk_pI f_224_31, mk_gR f_224_32, mk_gI f_224_33, mk_pI f_224_33, ↓m_1, ↓m_2, i_0, i_1, i_2, i_3, i_4, i_6, i_5, i_12, i_11, i_10, i_9999, i_7, i_9, i_8, i_24, i_100, i_56, i_48, i_13, i_176, i_232, i_224, i_32, i_999, i_99, i_900, i_97, i_90, i_30, i_20, i_59, i_14, i_50, i_29, i_22, i_19, i_18, i_17, i_96, i_61, i_57, i_51, i_41, i_26, i_2552, i_255, i_25, i_23, i_21, i_16, i_15, i_122, i_10000, i_31, dzF, obs, b2_some, rz0, rz1, rzb, n01, n01', n10, n01e, nI_add, nI_mul, ↓reduceIte, not_false_eq_true, not_true_eq_false, ite_not, R_of h, eqF, R_isBetweenKin hT h, if_pos c2, e1, if_pos c3, e2, hw, vN]
      · refine ⟨I1, J1, ?_, q1⟩
        have hl := tests_len (g := g) hT hs
        by_cases c4 : (tests T g s).length = 0
        · have hw : ownW T g s = 12 := by unfold ownW; rw [if_neg c1, if_pos c2, if_neg c3, if_pos c4]
          simp (disch := omega) only [mk_oO o_224, mk_gI f_224_0, mk_pI f_224_0, mk_gR f_224_1, mk_gR f_224_2, mk_gR f_224_3, mk_gR f_224_4, mk_gR f_224_5, mk_gI f_224_6, mk_pI f_224_6, mk_gR f_224_7, mk_gI f_224_8, mk_pI f_224_8, mk_gI f_224_9, mk_pI f_224_9, mk_gI f_224_10, mk_pI f_224_10, mk_gI f_224_11, mk_pI f_224_11, mk_gI f_224_12, mk_pI f_224_12, mk_gI f_224_13, mk_pI f_224_13, mk_gL f_224_14, mk_pL f_224_14, mk_gI f_224_15, mk_pI f_224_15, mk_gI f_224_16, mk_pI f_224_16, mk_gR f_224_17, mk_gR f_224_18, mk_gR f_224_19, mk_gI f_224_20, mk_pI f_224_20, mk_gR f_224_21, mk_gI f_224_22, mk_pI f_224_22, mk_gI f_224_23, mk_pI f_224_23, mk_gI f_224_24, mk_pI f_224_24, mk_gI f_224_25, mk_pI f_224_25, mk_gR f_224_26, mk_gI f_224_27, mk_pI f_224_27, mk_gI f_224_28, mk_pI f_224_28, mk_gR f_224_29, mk_gI f_224_30, mk_pI f_224_30, mk_gI f_224_31, mk_pI f_224_31, mk_gR f_224_32, mk_gI f_224_33, mk_pI f_224_33, ↓m_1, ↓m_2, i_0, i_1, i_2, i_3, i_4, i_6, i_5, i_12, i_11, i_10, i_9999, i_7, i_9, i_8, i_24, i_100, i_56, i_48, i_13, i_176, i_232, i_224, i_32, i_999, i_99, i_900, i_97, i_90, i_30, i_20, i_59, i_14, i_50, i_29, i_22, i_19, i_18, i_17, i_96, i_61, i_57, i_51, i_41, i_26, i_2552, i_255, i_25, i_23, i_21, i_16, i_15, i_122, i_10000, i_31, dzF, obs, b2_some, rz0, rz1, rzb, n01, n01', n10, n01e, nI_add, nI_mul, ↓reduceIte, not_false_eq_true, not_true_eq_false, ite_not, R_of h, eqF, R_isBetweenKin hT h, if_pos c2, e1, if_neg c3, l1.1, c4, hw, vN, fl]
          rfl
        · have hw : ownW T g s = 13 := by unfold ownW; rw [if_neg c1, if_pos c2, if_neg c3, if_neg c4]
          simp (disch := omega) only [mk_oO o_224, mk_gI f_224_0, mk_pI f_224_0, mk_gR f_224_1, mk_gR f_224_2, mk_gR f_224_3, mk_gR f_224_4, mk_gR f_224_5, mk_gI f_224_6, mk_pI f_224_6, mk_gR f_224_7, mk_gI f_224_8, mk_pI f_224_8, mk_gI f_224_9, mk_pI f_224_9, mk_gI f_224_10, mk_pI f_224_10, mk_gI f_224_11, mk_pI f_224_11, mk_gI f_224_12, mk_pI f_224_12, mk_gI f_224_13, mk_pI f_224_13, mk_gL f_224_14, mk_pL f_224_14, mk_gI f_224_15, mk_pI f_224_15, mk_gI f_224_16, mk_pI f_224_16, mk_gR f_224_17, mk_gR f_224_18, mk_gR f_224_19, mk_gI f_224_20, mk_pI f_224_20, mk_gR f_224_21, mk_gI f_224_22, mk_pI f_224_22, mk_gI f_224_23, mk_pI f_224_23, mk_gI f_224_24, mk_pI f_224_24, mk_gI f_224_25, mk_pI f_224_25, mk_gR f_224_26, mk_gI f_224_27, mk_pI f_224_27, mk_gI f_224_28, mk_pI f_224_28, mk_gR f_224_29, mk_gI f_224_30, mk_pI f_224_30, mk_gI f_224_31, mk_pI f_224_31, mk_gR f_224_32, mk_gI f_224_33, mk_pI f_224_33, ↓m_1, ↓m_2, i_0, i_1, i_2, i_3, i_4, i_6, i_5, i_12, i_11, i_10, i_9999, i_7, i_9, i_8, i_24, i_100, i_56, i_48, i_13, i_176, i_232, i_224, i_32, i_999, i_99, i_900, i_97, i_90, i_30, i_20, i_59, i_14, i_50, i_29, i_22, i_19, i_18, i_17, i_96, i_61, i_57, i_51, i_41, i_26, i_2552, i_255, i_25, i_23, i_21, i_16, i_15, i_122, i_10000, i_31, dzF, obs, b2_some, rz0, rz1, rzb, n01, n01', n10, n01e, nI_add, nI_mul, ↓reduceIte, not_false_eq_true, not_true_eq_false, ite_not, R_of h, eqF, R_isBetweenKin hT h, if_pos c2, e1, if_neg c3, l1.1, hw, vN, fl]
          rfl
    · obtain ⟨I2, e2, f2⟩ := R_ownOf (n := n) (J := J) hT h hs
      refine ⟨I2, J, ?_, QF.fa f2⟩
      have hw : ownW T g s = 0 := by unfold ownW; rw [if_neg c1, if_neg c2]
      simp (disch := omega) only [mk_oO o_224, mk_gI f_224_0, mk_pI f_224_0, mk_gR f_224_1, mk_gR f_224_2, mk_gR f_224_3, mk_gR f_224_4, mk_gR f_224_5, mk_gI f_224_6, mk_pI f_224_6, mk_gR f_224_7, mk_gI f_224_8, mk_pI f_224_8, mk_gI f_224_9, mk_pI f_224_9, mk_gI f_224_10, mk_pI f_224_10, mk_gI f_224_11, mk_pI f_224_11, mk_gI f_224_12, mk_pI f_224_12, mk_gI f_224_13, mk_pI f_224_13, mk_gL f_224_14, mk_pL f_224_14, mk_gI f_224_15, mk_pI f_224_15, mk_gI f_224_16, mk_pI f_224_16, mk_gR f_224_17, mk_gR f_224_18, mk_gR f_224_19, mk_gI f_224_20, mk_pI f_224_20, mk_gR f_224_21, mk_gI f_224_22, mk_pI f_224_22, mk_gI f_224_23, mk_pI f_224_23, mk_gI f_224_24, mk_pI f_224_24, mk_gI f_224_25, mk_pI f_224_25, mk_gR f_224_26, mk_gI f_224_27, mk_pI f_224_27, mk_gI f_224_28, mk_pI f_224_28, mk_gR f_224_29, mk_gI f_224_30, mk_pI f_224_30, mk_gI f_224_31, mk_pI f_224_31, mk_gR f_224_32, mk_gI f_224_33, mk_pI f_224_33, ↓m_1, ↓m_2, i_0, i_1, i_2, i_3, i_4, i_6, i_5, i_12, i_11, i_10, i_9999, i_7, i_9, i_8, i_24, i_100, i_56, i_48, i_13, i_176, i_232, i_224, i_32, i_999, i_99, i_900, i_97, i_90, i_30, i_20, i_59, i_14, i_50, i_29, i_22, i_19, i_18, i_17, i_96, i_61, i_57, i_51, i_41, i_26, i_2552, i_255, i_25, i_23, i_21, i_16, i_15, i_122, i_10000, i_31, dzF, obs, b2_some, rz0, rz1, rzb, n01, n01', n10, n01e, nI_add, nI_mul, ↓reduceIte, not_false_eq_true, not_true_eq_false, ite_not, R_of h, eqF, R_isBetweenKin hT h, if_neg c2, e2, hw, vN]
theorem R_isOf (hT : VT T) (h : RQ T g I) {s t how : Nat} (hs : s < T 3) (ht : t < T 3) (hh : how < 10) : mX10_isOf (mk n I J) 224 (nI s) (nI t) (nI how) = some (nI (if isOf T s t how then 1 else 0), mk n I J) := by
  have b0 := hT.1
  have c1 := hT.sg hs
  have c2 := hT.sg ht
  have hk : like T (T (56 + 12 * s + 0)) (T (56 + 12 * t + 0)) < 2 ^ 31 := by unfold like; split <;> (try split) <;> (try split) <;> decide
  unfold mX10_isOf
  by_cases h3 : how = 3
  · subst h3
    simp (disch := omega) only [mk_oO o_224, mk_gI f_224_0, mk_pI f_224_0, mk_gR f_224_1, mk_gR f_224_2, mk_gR f_224_3, mk_gR f_224_4, mk_gR f_224_5, mk_gI f_224_6, mk_pI f_224_6, mk_gR f_224_7, mk_gI f_224_8, mk_pI f_224_8, mk_gI f_224_9, mk_pI f_224_9, mk_gI f_224_10, mk_pI f_224_10, mk_gI f_224_11, mk_pI f_224_11, mk_gI f_224_12, mk_pI f_224_12, mk_gI f_224_13, mk_pI f_224_13, mk_gL f_224_14, mk_pL f_224_14, mk_gI f_224_15, mk_pI f_224_15, mk_gI f_224_16, mk_pI f_224_16, mk_gR f_224_17, mk_gR f_224_18, mk_gR f_224_19, mk_gI f_224_20, mk_pI f_224_20, mk_gR f_224_21, mk_gI f_224_22, mk_pI f_224_22, mk_gI f_224_23, mk_pI f_224_23, mk_gI f_224_24, mk_pI f_224_24, mk_gI f_224_25, mk_pI f_224_25, mk_gR f_224_26, mk_gI f_224_27, mk_pI f_224_27, mk_gI f_224_28, mk_pI f_224_28, mk_gR f_224_29, mk_gI f_224_30, mk_pI f_224_30, mk_gI f_224_31, mk_pI f_224_31, mk_gR f_224_32, mk_gI f_224_33, mk_pI f_224_33, ↓m_1, ↓m_2, i_0, i_1, i_2, i_3, i_4, i_6, i_5, i_12, i_11, i_10, i_9999, i_7, i_9, i_8, i_24, i_100, i_56, i_48, i_13, i_176, i_232, i_224, i_32, i_999, i_99, i_900, i_97, i_90, i_30, i_20, i_59, i_14, i_50, i_29, i_22, i_19, i_18, i_17, i_96, i_61, i_57, i_51, i_41, i_26, i_2552, i_255, i_25, i_23, i_21, i_16, i_15, i_122, i_10000, i_31, dzF, obs, b2_some, rz0, rz1, rzb, n01, n01', n10, n01e, nI_add, nI_mul, ↓reduceIte, not_false_eq_true, not_true_eq_false, ite_not, R_of h, R_good h, nI_eq (hT.l31 _) (hT.l31 _), isOf]
    split <;> rfl
  · simp (disch := omega) only [mk_oO o_224, mk_gI f_224_0, mk_pI f_224_0, mk_gR f_224_1, mk_gR f_224_2, mk_gR f_224_3, mk_gR f_224_4, mk_gR f_224_5, mk_gI f_224_6, mk_pI f_224_6, mk_gR f_224_7, mk_gI f_224_8, mk_pI f_224_8, mk_gI f_224_9, mk_pI f_224_9, mk_gI f_224_10, mk_pI f_224_10, mk_gI f_224_11, mk_pI f_224_11, mk_gI f_224_12, mk_pI f_224_12, mk_gI f_224_13, mk_pI f_224_13, mk_gL f_224_14, mk_pL f_224_14, mk_gI f_224_15, mk_pI f_224_15, mk_gI f_224_16, mk_pI f_224_16, mk_gR f_224_17, mk_gR f_224_18, mk_gR f_224_19, mk_gI f_224_20, mk_pI f_224_20, mk_gR f_224_21, mk_gI f_224_22, mk_pI f_224_22, mk_gI f_224_23, mk_pI f_224_23, mk_gI f_224_24, mk_pI f_224_24, mk_gI f_224_25, mk_pI f_224_25, mk_gR f_224_26, mk_gI f_224_27, mk_pI f_224_27, mk_gI f_224_28, mk_pI f_224_28, mk_gR f_224_29, mk_gI f_224_30, mk_pI f_224_30, mk_gI f_224_31, mk_pI f_224_31, mk_gR f_224_32, mk_gI f_224_33, mk_pI f_224_33, ↓m_1, ↓m_2, i_0, i_1, i_2, i_3, i_4, i_6, i_5, i_12, i_11, i_10, i_9999, i_7, i_9, i_8, i_24, i_100, i_56, i_48, i_13, i_176, i_232, i_224, i_32, i_999, i_99, i_900, i_97, i_90, i_30, i_20, i_59, i_14, i_50, i_29, i_22, i_19, i_18, i_17, i_96, i_61, i_57, i_51, i_41, i_26, i_2552, i_255, i_25, i_23, i_21, i_16, i_15, i_122, i_10000, i_31, dzF, obs, b2_some, rz0, rz1, rzb, n01, n01', n10, n01e, nI_add, nI_mul, ↓reduceIte, not_false_eq_true, not_true_eq_false, ite_not, eqF, R_likeSales hT h, R_isNearDay hT h, nI_eq, isOf, if_neg h3]
    by_cases c3 : like T (T (56 + 12 * s + 0)) (T (56 + 12 * t + 0)) = how
    · rw [if_pos c3]
      by_cases c4 : nearDay T s t
      · rw [if_pos c4, if_pos ⟨c3, c4⟩]
      · rw [if_neg c4, if_neg (fun z => c4 z.2)]
    · rw [if_neg c3, if_neg (fun z => c3 z.1)]
end RI
