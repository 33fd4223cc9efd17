/-! ===== 75: prices ===== -/
/-- the spans lie in the class -/
def LPq (I : Nat → Nat → Int32) (q : List (Nat × Nat)) : Prop := I 115 4 = nI q.length ∧ ∀ k y, q[k]? = some y → I 116 k = nI y.1 ∧ I 117 k = nI y.2
def SPn (a c : Nat) : Prop := (a = 115 ∧ c = 4) ∨ a = 116 ∨ a = 117
theorem SPn_SC (a c : Nat) (h : SPn a c) : SC a c := by unfold SPn at h; unfold SC; omega
def prN (T : Nat → Nat) (s p : Nat) : Nat := p * T (56 + 12 * s + 3) + p * T (56 + 12 * s + 3) * T (56 + 12 * s + 7) / 100
def fxN (T : Nat → Nat) (g s : Nat) : Nat := T (56 + 12 * s + 8) + T (56 + 12 * s + 9) + T (56 + 12 * s + 10) + shares T g s (T 2)
theorem ownAt_pr (T : Nat → Nat) (g s p : Nat) : ownAt T g s p = prN T s p + fxN T g s := by unfold ownAt prN fxN; omega
section PS
variable {n g : Nat} {I : Nat → Nat → Int32} {J : Nat → Nat → Int64} {T : Nat → Nat}
theorem own_inc (hT : VT T) {s : Nat} (hs : s < T 3) : sInc (ownAt T g s) := by
  intro p
  rw [ownAt_pr, ownAt_pr]
  unfold prN
  have h1 := hT.sp hs
  have e : (p + 1) * T (56 + 12 * s + 3) = p * T (56 + 12 * s + 3) + T (56 + 12 * s + 3) := by rw [Nat.add_mul, Nat.one_mul]
  have h2 : p * T (56 + 12 * s + 3) * T (56 + 12 * s + 7) / 100 ≤ (p + 1) * T (56 + 12 * s + 3) * T (56 + 12 * s + 7) / 100 := Nat.div_le_div_right (Nat.mul_le_mul_right _ (Nat.mul_le_mul_right _ (by omega)))
  omega
theorem CS.fp {I' : Nat → Nat → Int32} (h : CS T g I J) (hT : VT T) (hf : Fx SPn I I') : CS T g I' J := h.fd hT (hf.mono (fun a c z => by unfold SPn at z; unfold SD; omega)) (FJ.refl J)
theorem prN_le (hT : VT T) {s p : Nat} (hs : s < T 3) (hp : p ≤ 10000) : prN T s p ≤ 300000000 := by
  have c1 := hT.le (56 + 12 * s + 3)
  have c5 := hT.sr hs
  have c7 : p * T (56 + 12 * s + 3) ≤ 10000 * 9999 := Nat.mul_le_mul hp c1
  have c8 : p * T (56 + 12 * s + 3) * T (56 + 12 * s + 7) ≤ 10000 * 9999 * 99 := Nat.mul_le_mul c7 c5
  unfold prN
  omega
theorem C_pbL (hT : VT T) (hW : WR I 3 T) {s v : Nat} (hs : s < T 3) (hv : v ≤ 1000000000000000) : ∀ (k a b r fu : Nat), a < b → b ≤ 10000 → b - a ≤ k + 1 → r + k ≤ 9999 → k < fu → (a = 0 ∨ ownAt T g s a < v) → (b = 10000 ∨ v ≤ ownAt T g s b) → ∃ z, mX5_pricesBelow_L42 fu (mk n I J) 115 (nI s) (lN v) (lN (fxN T g s)) (nI a) (nI b) (nI r) = some (nI z, mk n I J) ∧ z ≤ 9999 ∧ (z = 0 ∨ ownAt T g s z < v) ∧ (z = 9999 ∨ v ≤ ownAt T g s (z + 1)) := by
  have b0 := hT.1
  have hfx : fxN T g s ≤ 100000 := by
    unfold fxN
    have c2 := hT.le (56 + 12 * s + 8)
    have c3 := hT.le (56 + 12 * s + 9)
    have c4 := hT.le (56 + 12 * s + 10)
    have c6 := shares_le (g := g) hT s (T 2)
    omega
  intro k
  induction k with
  | zero =>
    intro a b r fu hab hb hk hr hf h1 h2
    obtain ⟨fu, rfl⟩ : ∃ f, fu = f + 1 := ⟨fu - 1, by omega⟩
    have e : b = a + 1 := by omega
    subst e
    refine ⟨a, ?_, by omega, h1, by omega⟩
    show mX5_pricesBelow_b42 _ _ _ _ _ _ _ _ _ = _
    unfold mX5_pricesBelow_b42
    by_cases hr9 : 9999 ≤ r
    · simp (disch := omega) only [↓m_1, ↓m_2, i_0, i_1, i_2, i_3, i_4, i_6, i_5, i_12, i_11, i_10, i_9999, i_7, i_9, i_8, i_24, i_100, i_56, i_48, i_13, i_176, i_232, i_224, i_32, i_999, i_99, i_900, i_97, i_90, i_30, i_20, i_59, i_14, i_50, i_29, i_22, i_19, i_18, i_17, i_96, i_61, i_57, i_51, i_41, i_26, i_2552, i_255, i_25, i_23, i_21, i_16, i_15, i_122, i_10000, i_31, leT, ↓reduceIte]
    · simp (disch := omega) only [↓m_1, ↓m_2, i_0, i_1, i_2, i_3, i_4, i_6, i_5, i_12, i_11, i_10, i_9999, i_7, i_9, i_8, i_24, i_100, i_56, i_48, i_13, i_176, i_232, i_224, i_32, i_999, i_99, i_900, i_97, i_90, i_30, i_20, i_59, i_14, i_50, i_29, i_22, i_19, i_18, i_17, i_96, i_61, i_57, i_51, i_41, i_26, i_2552, i_255, i_25, i_23, i_21, i_16, i_15, i_122, i_10000, i_31, leF, leT, nI_sub, ↓reduceIte]
  | succ k ih =>
    intro a b r fu hab hb hk hr hf h1 h2
    obtain ⟨fu, rfl⟩ : ∃ f, fu = f + 1 := ⟨fu - 1, by omega⟩
    by_cases hg : b - a ≤ 1
    · have e : b = a + 1 := by omega
      subst e
      refine ⟨a, ?_, by omega, h1, by omega⟩
      show mX5_pricesBelow_b42 _ _ _ _ _ _ _ _ _ = _
      unfold mX5_pricesBelow_b42
      simp (disch := omega) only [↓m_1, ↓m_2, i_0, i_1, i_2, i_3, i_4, i_6, i_5, i_12, i_11, i_10, i_9999, i_7, i_9, i_8, i_24, i_100, i_56, i_48, i_13, i_176, i_232, i_224, i_32, i_999, i_99, i_900, i_97, i_90, i_30, i_20, i_59, i_14, i_50, i_29, i_22, i_19, i_18, i_17, i_96, i_61, i_57, i_51, i_41, i_26, i_2552, i_255, i_25, i_23, i_21, i_16, i_15, i_122, i_10000, i_31, leF, leT, nI_sub, ↓reduceIte]
    · have hpr := prN_le hT hs (by omega : (a + b) / 2 ≤ 10000)
      have ho := ownAt_pr T g s ((a + b) / 2)
      have hcp := C_priced (n := n) (J := J) hT hW hs (by omega : (a + b) / 2 ≤ 10000)
      have hcp' : mX2_priced (mk n I J) 100 (nI s) (nI ((a + b) / 2)) = some (lN (prN T s ((a + b) / 2)), mk n I J) := hcp
      by_cases hc : v ≤ ownAt T g s ((a + b) / 2)
      · obtain ⟨z, e, r1, r2, r3⟩ := ih a ((a + b) / 2) (r + 1) fu (by omega) (by omega) (by omega) (by omega) (by omega) h1 (Or.inr hc)
        refine ⟨z, ?_, r1, r2, r3⟩
        show mX5_pricesBelow_b42 _ _ _ _ _ _ _ _ _ = _
        unfold mX5_pricesBelow_b42
        rw [ho] at hc
        simp (disch := omega) only [mk_oO o_115, mk_gR f_115_0, mk_gR f_115_1, mk_gR f_115_2, mk_gR f_115_3, mk_gI f_115_4, mk_pI f_115_4, ↓m_1, ↓m_2, i_0, i_1, i_2, i_3, i_4, i_6, i_5, i_12, i_11, i_10, i_9999, i_7, i_9, i_8, i_24, i_100, i_56, i_48, i_13, i_176, i_232, i_224, i_32, i_999, i_99, i_900, i_97, i_90, i_30, i_20, i_59, i_14, i_50, i_29, i_22, i_19, i_18, i_17, i_96, i_61, i_57, i_51, i_41, i_26, i_2552, i_255, i_25, i_23, i_21, i_16, i_15, i_122, i_10000, i_31, dzF, obs, b2_some, rz0, rz1, rzb, n01, n01', n10, n01e, nI_add, nI_mul, ↓reduceIte, not_false_eq_true, not_true_eq_false, ite_not, leF, nI_sub, nI_div, hcp', lN_add, lL_le, if_pos hc]
        exact e
      · obtain ⟨z, e, r1, r2, r3⟩ := ih ((a + b) / 2) b (r + 1) fu (by omega) (by omega) (by omega) (by omega) (by omega) (Or.inr (by omega)) h2
        refine ⟨z, ?_, r1, r2, r3⟩
        show mX5_pricesBelow_b42 _ _ _ _ _ _ _ _ _ = _
        unfold mX5_pricesBelow_b42
        rw [ho] at hc
        simp (disch := omega) only [mk_oO o_115, mk_gR f_115_0, mk_gR f_115_1, mk_gR f_115_2, mk_gR f_115_3, mk_gI f_115_4, mk_pI f_115_4, ↓m_1, ↓m_2, i_0, i_1, i_2, i_3, i_4, i_6, i_5, i_12, i_11, i_10, i_9999, i_7, i_9, i_8, i_24, i_100, i_56, i_48, i_13, i_176, i_232, i_224, i_32, i_999, i_99, i_900, i_97, i_90, i_30, i_20, i_59, i_14, i_50, i_29, i_22, i_19, i_18, i_17, i_96, i_61, i_57, i_51, i_41, i_26, i_2552, i_255, i_25, i_23, i_21, i_16, i_15, i_122, i_10000, i_31, dzF, obs, b2_some, rz0, rz1, rzb, n01, n01', n10, n01e, nI_add, nI_mul, ↓reduceIte, not_false_eq_true, not_true_eq_false, ite_not, leF, nI_sub, nI_div, hcp', lN_add, lL_le, if_neg hc]
        exact e
theorem C_pricesBelow (hT : VT T) (h : CS T g I J) {s v : Nat} (hs : s < T 3) (hv : v ≤ 1000000000000000) : mX5_pricesBelow (mk n I J) 115 (nI s) (lN v) = some (nI (pbF (ownAt T g s) v 9999), mk n I J) := by
  have b0 := hT.1
  have hW := h.1
  obtain ⟨z, e, r1, r2, r3⟩ := C_pbL (n := n) (J := J) (g := g) hT hW hs hv 9999 0 10000 0 FU (by omega) (by omega) (by omega) (by omega) (by unfold FU; omega) (Or.inl rfl) (Or.inl rfl)
  rw [pbF_eq (own_inc hT hs) r1 r2 r3]
  have hp := hT.le (56 + 12 * s + 4)
  have hcp : mX2_priced (mk n I J) 100 (nI s) (nI (T (56 + 12 * s + 4))) = some (lN (prN T s (T (56 + 12 * s + 4))), mk n I J) := C_priced hT hW hs (by omega)
  have ho : own T g s = prN T s (T (56 + 12 * s + 4)) + fxN T g s := ownAt_pr T g s _
  have hol := own_le (g := g) hT hs
  have e2 : lN (own T g s) - lN (prN T s (T (56 + 12 * s + 4))) = lN (fxN T g s) := by rw [lN_sub (by omega), ho, Nat.add_sub_cancel_left]
  unfold mX5_pricesBelow
  simp (disch := omega) only [mk_oO o_115, mk_gR f_115_0, mk_gR f_115_1, mk_gR f_115_2, mk_gR f_115_3, mk_gI f_115_4, mk_pI f_115_4, mk_oO o_100, mk_gR f_100_0, mk_gR f_100_1, mk_gR f_100_2, mk_gI f_100_3, mk_pI f_100_3, mk_gR f_100_4, mk_gR f_100_5, mk_gR f_100_6, mk_gR f_100_7, mk_oO o_0, mk_oO o_1, mk_oO o_3, mk_gR f_0_0, mk_gR f_0_1, mk_gR f_0_2, mk_gR f_0_3, mk_gR f_0_4, mk_gR f_0_5, mk_gR f_0_6, mk_gR f_0_7, mk_gR f_0_8, mk_gR f_0_9, mk_gI f_0_10, mk_pI f_0_10, mk_gR f_1_0, mk_gI f_1_1, mk_pI f_1_1, mk_gR f_3_0, mk_gR f_3_1, mk_gR f_3_2, mk_gR f_3_3, mk_gR f_3_4, mk_gR f_3_5, mk_gR f_3_6, mk_gR f_3_7, ↓m_1, ↓m_2, i_0, i_1, i_2, i_3, i_4, i_6, i_5, i_12, i_11, i_10, i_9999, i_7, i_9, i_8, i_24, i_100, i_56, i_48, i_13, i_176, i_232, i_224, i_32, i_999, i_99, i_900, i_97, i_90, i_30, i_20, i_59, i_14, i_50, i_29, i_22, i_19, i_18, i_17, i_96, i_61, i_57, i_51, i_41, i_26, i_2552, i_255, i_25, i_23, i_21, i_16, i_15, i_122, i_10000, i_31, dzF, obs, b2_some, rz0, rz1, rzb, n01, n01', n10, n01e, nI_add, nI_mul, ↓reduceIte, not_false_eq_true, not_true_eq_false, ite_not, mk_aLn a_109, h.2.own hs, R_18, CW_s hT hW, hcp, e2]
  exact e
theorem LPq.add {q : List (Nat × Nat)} (h : LPq I q) (lo hi : Nat) : LPq (u2 (u2 (u2 I 116 q.length (nI lo)) 117 q.length (nI hi)) 115 4 (nI (q.length + 1))) (q ++ [(lo, hi)]) := by
  refine ⟨by rw [u2_at, List.length_append]; rfl, fun k y hk => ?_⟩
  by_cases hk1 : k < q.length
  · rw [List.getElem?_append_left hk1] at hk
    rw [u2_no _ _ (by omega), u2_no _ _ (by omega), u2_no _ _ (by omega), u2_no _ _ (by omega), u2_no _ _ (by omega), u2_no _ _ (by omega)]
    exact h.2 k y hk
  · rw [List.getElem?_append_right (by omega)] at hk
    have hk2 : k = q.length := by
      have := (List.getElem?_eq_some_iff.mp hk).1
      simp only [List.length_cons, List.length_nil] at this
      omega
    subst hk2
    simp only [Nat.sub_self, List.getElem?_cons_zero, Option.some.injEq] at hk
    rw [← hk, u2_no _ _ (by omega), u2_no _ _ (by omega), u2_at, u2_no _ _ (by omega), u2_at]
    exact ⟨rfl, rfl⟩
theorem LPq.wr {q : List (Nat × Nat)} (h : LPq I q) (x y : Int32) : LPq (u2 (u2 I 116 q.length x) 117 q.length y) q := by
  refine ⟨by rw [u2_no _ _ (by omega), u2_no _ _ (by omega)]; exact h.1, fun k z hk => ?_⟩
  have := (List.getElem?_eq_some_iff.mp hk).1
  rw [u2_no _ _ (by omega), u2_no _ _ (by omega), u2_no _ _ (by omega), u2_no _ _ (by omega)]
  exact h.2 k z hk
theorem C_findL (hT : VT T) {s : Nat} (hs : s < T 3) {l : List Nat} (hlen : l.length ≤ 11) (hx : ∀ x ∈ l, x ≤ 300000000000000) (hJ : ∀ k x, l[k]? = some x → J 113 k = lN x) : ∀ (k t fu : Nat) (I : Nat → Nat → Int32) (q : List (Nat × Nat)), t + k = l.length → k < fu → CS T g I J → LPq I q → q.length ≤ t → ∃ I', mX5_find_L8 fu (mk n I J) 115 (nI s) 113 (nI l.length) (nI t) = some (mk n I' J) ∧ Fx SPn I I' ∧ LPq I' (q ++ spn T (ownAt T g s) (l.drop t)) := by
  have b0 := hT.1
  have b1 := hT.2.1
  intro k
  induction k with
  | zero =>
    intro t fu I q ht hf h hq hql
    obtain ⟨fu, rfl⟩ : ∃ f, fu = f + 1 := ⟨fu - 1, by omega⟩
    refine ⟨I, ?_, Fx.refl I, by rw [List.drop_eq_nil_of_le (by omega), spn, List.append_nil]; exact hq⟩
    show mX5_find_b8 _ _ _ _ _ _ _ = _
    unfold mX5_find_b8
    rw [if_pos (nI_le (by omega) (by omega))]
  | succ k ih =>
    intro t fu I q ht hf h hq hql
    obtain ⟨fu, rfl⟩ : ∃ f, fu = f + 1 := ⟨fu - 1, by omega⟩
    have htl : t < l.length := by omega
    have hJt : J 113 t = lN l[t] := hJ t l[t] (List.getElem?_eq_getElem htl)
    have hb := hx l[t] (List.getElem_mem htl)
    rw [List.drop_eq_getElem_cons htl, spn]
    generalize l[t] = x at hJt hb
    have hsl : slN T x ≤ x := by
      unfold slN
      apply Nat.div_le_of_le_mul
      rw [Nat.mul_comm]
      exact Nat.mul_le_mul_right _ (by omega)
    have eS : mX2_slack (mk n I J) 100 (lN x) = some (lN (slN T x), mk n I J) := C_slack hT h.1 hb
    have e1 := C_pricesBelow (n := n) hT h hs (v := x - slN T x) (by omega)
    have f1 : Fx SPn I (u2 I 116 q.length (nI (loN T (ownAt T g s) x))) := Fx_u2 _ _ (Or.inr (Or.inl rfl))
    have h1 := h.fp hT f1
    have e2 := C_pricesBelow (n := n) hT h1 hs (v := x + slN T x + 1) (by omega)
    have f2 : Fx SPn I (u2 (u2 I 116 q.length (nI (loN T (ownAt T g s) x))) 117 q.length (nI (hiN T (ownAt T g s) x))) := f1.trans (Fx_u2 _ _ (Or.inr (Or.inr rfl)))
    have h2 := h.fp hT f2
    have hhi : hiN T (ownAt T g s) x ≤ 9999 := pbF_le _ _ _
    have hlo : loN T (ownAt T g s) x ≤ 10000 := by unfold loN; have := pbF_le (ownAt T g s) (x - slN T x) 9999; omega
    have eL : nI (pbF (ownAt T g s) (x - slN T x) 9999) + nI 1 = nI (loN T (ownAt T g s) x) := nI_add _ _
    have eH : pbF (ownAt T g s) (x + slN T x + 1) 9999 = hiN T (ownAt T g s) x := rfl
    rw [eH] at e2
    have hl5 : aN 1 (mk n I J) 113 = some (nI 11) := mk_aNJ a_113
    by_cases hc : loN T (ownAt T g s) x ≤ hiN T (ownAt T g s) x
    · rw [if_pos hc]
      have f3 : Fx SPn I (u2 (u2 (u2 I 116 q.length (nI (loN T (ownAt T g s) x))) 117 q.length (nI (hiN T (ownAt T g s) x))) 115 4 (nI (q.length + 1))) := f2.trans (Fx_u2 _ _ (Or.inl ⟨rfl, rfl⟩))
      obtain ⟨I', e, f', p'⟩ := ih (t + 1) fu _ _ (by omega) (by omega) (h.fp hT f3) (hq.add _ _) (by rw [List.length_append]; simp only [List.length_cons, List.length_nil]; omega)
      refine ⟨I', ?_, f3.trans f', by rw [← List.append_assoc]; exact p'⟩
      show mX5_find_b8 _ _ _ _ _ _ _ = _
      unfold mX5_find_b8
      generalize loN T (ownAt T g s) x = lo at *
      generalize hiN T (ownAt T g s) x = hi at *
      generalize pbF (ownAt T g s) (x - slN T x) 9999 = pb at *
      generalize slN T x = sl at *
      simp (disch := omega) only [mk_oO o_115, mk_gR f_115_0, mk_gR f_115_1, mk_gR f_115_2, mk_gR f_115_3, mk_gI f_115_4, mk_pI f_115_4, ↓m_1, ↓m_2, i_0, i_1, i_2, i_3, i_4, i_6, i_5, i_12, i_11, i_10, i_9999, i_7, i_9, i_8, i_24, i_100, i_56, i_48, i_13, i_176, i_232, i_224, i_32, i_999, i_99, i_900, i_97, i_90, i_30, i_20, i_59, i_14, i_50, i_29, i_22, i_19, i_18, i_17, i_96, i_61, i_57, i_51, i_41, i_26, i_2552, i_255, i_25, i_23, i_21, i_16, i_15, i_122, i_10000, i_31, l_1, dzF, obs, b2_some, rz0, rz1, rzb, n01, n01', n10, n01e, nI_add, nI_mul, ↓reduceIte, not_false_eq_true, not_true_eq_false, ite_not, leF, hl5, hq.1, mk_aLn a_113, hJt, eS, lN_sub, lN_add, e1, eL, mk_sIn a_116, u2_no, e2, mk_sIn a_117, mk_aIn a_116, mk_aIn a_117, u2_at, ltF]
      exact e
    · rw [if_neg hc, List.nil_append]
      obtain ⟨I', e, f', p'⟩ := ih (t + 1) fu _ q (by omega) (by omega) h2 (hq.wr _ _) (by omega)
      refine ⟨I', ?_, f2.trans f', p'⟩
      show mX5_find_b8 _ _ _ _ _ _ _ = _
      unfold mX5_find_b8
      generalize loN T (ownAt T g s) x = lo at *
      generalize hiN T (ownAt T g s) x = hi at *
      generalize pbF (ownAt T g s) (x - slN T x) 9999 = pb at *
      generalize slN T x = sl at *
      simp (disch := omega) only [mk_oO o_115, mk_gR f_115_0, mk_gR f_115_1, mk_gR f_115_2, mk_gR f_115_3, mk_gI f_115_4, mk_pI f_115_4, ↓m_1, ↓m_2, i_0, i_1, i_2, i_3, i_4, i_6, i_5, i_12, i_11, i_10, i_9999, i_7, i_9, i_8, i_24, i_100, i_56, i_48, i_13, i_176, i_232, i_224, i_32, i_999, i_99, i_900, i_97, i_90, i_30, i_20, i_59, i_14, i_50, i_29, i_22, i_19, i_18, i_17, i_96, i_61, i_57, i_51, i_41, i_26, i_2552, i_255, i_25, i_23, i_21, i_16, i_15, i_122, i_10000, i_31, l_1, dzF, obs, b2_some, rz0, rz1, rzb, n01, n01', n10, n01e, nI_add, nI_mul, ↓reduceIte, not_false_eq_true, not_true_eq_false, ite_not, leF, hl5, hq.1, mk_aLn a_113, hJt, eS, lN_sub, lN_add, e1, eL, mk_sIn a_116, u2_no, e2, mk_sIn a_117, mk_aIn a_116, mk_aIn a_117, u2_at, ltT]
      exact e
theorem C_find (hT : VT T) (h : CS T g I J) {s : Nat} (hs : s < T 3) {l : List Nat} (hl : LC I J l) (hlen : l.length ≤ 11) (hx : ∀ x ∈ l, x ≤ 300000000000000) : ∃ I', mX5_find (mk n I J) 115 (nI s) 113 (nI l.length) = some (mk n I' J) ∧ Fx SPn I I' ∧ LPq I' (spn T (ownAt T g s) l) := by
  have f0 : Fx SPn I (u2 I 115 4 (nI 0)) := Fx_u2 _ _ (Or.inl ⟨rfl, rfl⟩)
  obtain ⟨I', e, f, p⟩ := C_findL (n := n) (g := g) hT hs hlen hx hl.2 l.length 0 FU (u2 I 115 4 (nI 0)) [] (by omega) (by unfold FU; omega) (h.fp hT f0) ⟨u2_at _ _ _ _, fun k y hk => by simp at hk⟩ (Nat.zero_le _)
  refine ⟨I', ?_, f0.trans f, p⟩
  unfold mX5_find
  simp (disch := omega) only [mk_oO o_115, mk_gR f_115_0, mk_gR f_115_1, mk_gR f_115_2, mk_gR f_115_3, mk_gI f_115_4, mk_pI f_115_4, ↓m_1, ↓m_2, i_0, i_1, i_2, i_3, i_4, i_6, i_5, i_12, i_11, i_10, i_9999, i_7, i_9, i_8, i_24, i_100, i_56, i_48, i_13, i_176, i_232, i_224, i_32, i_999, i_99, i_900, i_97, i_90, i_30, i_20, i_59, i_14, i_50, i_29, i_22, i_19, i_18, i_17, i_96, i_61, i_57, i_51, i_41, i_26, i_2552, i_255, i_25, i_23, i_21, i_16, i_15, i_122, i_10000, i_31, dzF, obs, b2_some, rz0, rz1, rzb, n01, n01', n10, n01e, nI_add, nI_mul, ↓reduceIte, not_false_eq_true, not_true_eq_false, ite_not]
  exact e
theorem spn_len (f : Nat → Nat) : ∀ l, (spn T f l).length ≤ l.length
  | [] => Nat.le_refl _
  | x :: l => by
    have := spn_len f l
    unfold spn
    rw [List.length_append, List.length_cons]
    split <;> simp only [List.length_cons, List.length_nil] <;> omega
/-- the lowest that ends beyond r, among the first t -/
def lbOk (q : List (Nat × Nat)) (r t m : Nat) : Prop := (m = 100 ∧ ∀ k y, k < t → q[k]? = some y → y.2 ≤ r) ∨ (m < t ∧ ∃ z, q[m]? = some z ∧ r < z.2 ∧ ∀ k y, k < t → q[k]? = some y → r < y.2 → z.1 ≤ y.1)
def ixN (m : Nat) : Int32 := if m = 100 then M1 else nI m
theorem C_lbL {q : List (Nat × Nat)} (h : LPq I q) (hq : q.length ≤ 11) (hin : ∀ y ∈ q, 1 ≤ y.1 ∧ y.1 ≤ y.2 ∧ y.2 ≤ 9999) {r : Nat} (hr : r ≤ 9999) : ∀ (k t fu m : Nat), t + k = q.length → k < fu → lbOk q r t m → ∃ m', mX5_lowestBeyond_L4 fu (mk n I J) 115 (nI r) (ixN m) (nI t) = some (ixN m', mk n I J) ∧ lbOk q r q.length m' := by
  intro k
  induction k with
  | zero =>
    intro t fu m ht hf hm
    obtain ⟨fu, rfl⟩ : ∃ f, fu = f + 1 := ⟨fu - 1, by omega⟩
    refine ⟨m, ?_, by rw [show q.length = t by omega]; exact hm⟩
    show mX5_lowestBeyond_b4 _ _ _ _ _ _ = _
    unfold mX5_lowestBeyond_b4
    simp (disch := omega) only [mk_oO o_115, mk_gR f_115_0, mk_gR f_115_1, mk_gR f_115_2, mk_gR f_115_3, mk_gI f_115_4, mk_pI f_115_4, ↓m_1, ↓m_2, i_0, i_1, i_2, i_3, i_4, i_6, i_5, i_12, i_11, i_10, i_9999, i_7, i_9, i_8, i_24, i_100, i_56, i_48, i_13, i_176, i_232, i_224, i_32, i_999, i_99, i_900, i_97, i_90, i_30, i_20, i_59, i_14, i_50, i_29, i_22, i_19, i_18, i_17, i_96, i_61, i_57, i_51, i_41, i_26, i_2552, i_255, i_25, i_23, i_21, i_16, i_15, i_122, i_10000, i_31, dzF, obs, b2_some, rz0, rz1, rzb, n01, n01', n10, n01e, nI_add, nI_mul, ↓reduceIte, not_false_eq_true, not_true_eq_false, ite_not, h.1, leT]
  | succ k ih =>
    intro t fu m ht hf hm
    obtain ⟨fu, rfl⟩ : ∃ f, fu = f + 1 := ⟨fu - 1, by omega⟩
    have htl : t < q.length := by omega
    have hqt : q[t]? = some q[t] := List.getElem?_eq_getElem htl
    obtain ⟨j1, j2⟩ := h.2 t _ hqt
    have hb := hin q[t] (List.getElem_mem htl)
    generalize q[t] = y at hqt j1 j2 hb
    have split : ∀ k' y', k' < t + 1 → q[k']? = some y' → (k' < t ∧ q[k']? = some y') ∨ y' = y := fun k' y' h1 h2 => by
      by_cases hk : k' = t
      · subst hk; rw [hqt] at h2; cases h2; exact Or.inr rfl
      · exact Or.inl ⟨by omega, h2⟩
    show ∃ m', mX5_lowestBeyond_b4 _ _ _ _ _ _ = _ ∧ _
    unfold mX5_lowestBeyond_b4
    by_cases hc : y.2 ≤ r
    · obtain ⟨m', e, p⟩ := ih (t + 1) fu m (by omega) (by omega) (by
        rcases hm with ⟨m1, m2⟩ | ⟨m1, z, m2, m3, m4⟩
        · refine Or.inl ⟨m1, fun k' y' h1 h2 => ?_⟩
          rcases split k' y' h1 h2 with ⟨w1, w2⟩ | w
          · exact m2 k' y' w1 w2
          · subst w; exact hc
        · refine Or.inr ⟨by omega, z, m2, m3, fun k' y' h1 h2 h3 => ?_⟩
          rcases split k' y' h1 h2 with ⟨w1, w2⟩ | w
          · exact m4 k' y' w1 w2 h3
          · subst w; omega)
      refine ⟨m', ?_, p⟩
      simp (disch := omega) only [mk_oO o_115, mk_gR f_115_0, mk_gR f_115_1, mk_gR f_115_2, mk_gR f_115_3, mk_gI f_115_4, mk_pI f_115_4, ↓m_1, ↓m_2, i_0, i_1, i_2, i_3, i_4, i_6, i_5, i_12, i_11, i_10, i_9999, i_7, i_9, i_8, i_24, i_100, i_56, i_48, i_13, i_176, i_232, i_224, i_32, i_999, i_99, i_900, i_97, i_90, i_30, i_20, i_59, i_14, i_50, i_29, i_22, i_19, i_18, i_17, i_96, i_61, i_57, i_51, i_41, i_26, i_2552, i_255, i_25, i_23, i_21, i_16, i_15, i_122, i_10000, i_31, dzF, obs, b2_some, rz0, rz1, rzb, n01, n01', n10, n01e, nI_add, nI_mul, ↓reduceIte, not_false_eq_true, not_true_eq_false, ite_not, h.1, leF, mk_aIn a_117, j2, leT]
      exact e
    · rcases hm with ⟨m1, m2⟩ | ⟨m1, z, m2, m3, m4⟩
      · obtain ⟨m', e, p⟩ := ih (t + 1) fu t (by omega) (by omega) (Or.inr ⟨by omega, y, hqt, by omega, fun k' y' h1 h2 h3 => by
          rcases split k' y' h1 h2 with ⟨w1, w2⟩ | w
          · have := m2 k' y' w1 w2; omega
          · subst w; exact Nat.le_refl _⟩)
        refine ⟨m', ?_, p⟩
        unfold ixN at e ⊢
        rw [if_neg (by omega : ¬ t = 100)] at e
        rw [if_pos m1]
        simp (disch := omega) only [mk_oO o_115, mk_gR f_115_0, mk_gR f_115_1, mk_gR f_115_2, mk_gR f_115_3, mk_gI f_115_4, mk_pI f_115_4, ↓m_1, ↓m_2, i_0, i_1, i_2, i_3, i_4, i_6, i_5, i_12, i_11, i_10, i_9999, i_7, i_9, i_8, i_24, i_100, i_56, i_48, i_13, i_176, i_232, i_224, i_32, i_999, i_99, i_900, i_97, i_90, i_30, i_20, i_59, i_14, i_50, i_29, i_22, i_19, i_18, i_17, i_96, i_61, i_57, i_51, i_41, i_26, i_2552, i_255, i_25, i_23, i_21, i_16, i_15, i_122, i_10000, i_31, dzF, obs, b2_some, rz0, rz1, rzb, n01, n01', n10, n01e, nI_add, nI_mul, ↓reduceIte, not_false_eq_true, not_true_eq_false, ite_not, h.1, leF, mk_aIn a_117, j2]
        exact e
      · obtain ⟨i1, i2⟩ := h.2 m z m2
        have hbz := hin z (List.mem_of_getElem? m2)
        have hml : m < q.length := (List.getElem?_eq_some_iff.mp m2).1
        by_cases hl : z.1 ≤ y.1
        · obtain ⟨m', e, p⟩ := ih (t + 1) fu m (by omega) (by omega) (Or.inr ⟨by omega, z, m2, m3, fun k' y' h1 h2 h3 => by
            rcases split k' y' h1 h2 with ⟨w1, w2⟩ | w
            · exact m4 k' y' w1 w2 h3
            · subst w; exact hl⟩)
          refine ⟨m', ?_, p⟩
          unfold ixN at e ⊢
          rw [if_neg (by omega : ¬ m = 100)] at e ⊢
          simp (disch := omega) only [mk_oO o_115, mk_gR f_115_0, mk_gR f_115_1, mk_gR f_115_2, mk_gR f_115_3, mk_gI f_115_4, mk_pI f_115_4, ↓m_1, ↓m_2, i_0, i_1, i_2, i_3, i_4, i_6, i_5, i_12, i_11, i_10, i_9999, i_7, i_9, i_8, i_24, i_100, i_56, i_48, i_13, i_176, i_232, i_224, i_32, i_999, i_99, i_900, i_97, i_90, i_30, i_20, i_59, i_14, i_50, i_29, i_22, i_19, i_18, i_17, i_96, i_61, i_57, i_51, i_41, i_26, i_2552, i_255, i_25, i_23, i_21, i_16, i_15, i_122, i_10000, i_31, dzF, obs, b2_some, rz0, rz1, rzb, n01, n01', n10, n01e, nI_add, nI_mul, ↓reduceIte, not_false_eq_true, not_true_eq_false, ite_not, h.1, leF, mk_aIn a_117, j2, nM1, mk_aIn a_116, j1, i1, leT]
          exact e
        · obtain ⟨m', e, p⟩ := ih (t + 1) fu t (by omega) (by omega) (Or.inr ⟨by omega, y, hqt, by omega, fun k' y' h1 h2 h3 => by
            rcases split k' y' h1 h2 with ⟨w1, w2⟩ | w
            · have := m4 k' y' w1 w2 h3; omega
            · subst w; exact Nat.le_refl _⟩)
          refine ⟨m', ?_, p⟩
          unfold ixN at e ⊢
          rw [if_neg (by omega : ¬ t = 100)] at e
          rw [if_neg (by omega : ¬ m = 100)]
          simp (disch := omega) only [mk_oO o_115, mk_gR f_115_0, mk_gR f_115_1, mk_gR f_115_2, mk_gR f_115_3, mk_gI f_115_4, mk_pI f_115_4, ↓m_1, ↓m_2, i_0, i_1, i_2, i_3, i_4, i_6, i_5, i_12, i_11, i_10, i_9999, i_7, i_9, i_8, i_24, i_100, i_56, i_48, i_13, i_176, i_232, i_224, i_32, i_999, i_99, i_900, i_97, i_90, i_30, i_20, i_59, i_14, i_50, i_29, i_22, i_19, i_18, i_17, i_96, i_61, i_57, i_51, i_41, i_26, i_2552, i_255, i_25, i_23, i_21, i_16, i_15, i_122, i_10000, i_31, dzF, obs, b2_some, rz0, rz1, rzb, n01, n01', n10, n01e, nI_add, nI_mul, ↓reduceIte, not_false_eq_true, not_true_eq_false, ite_not, h.1, leF, mk_aIn a_117, j2, nM1, mk_aIn a_116, j1, i1]
          exact e
theorem C_lowestBeyond {q : List (Nat × Nat)} (h : LPq I q) (hq : q.length ≤ 11) (hin : ∀ y ∈ q, 1 ≤ y.1 ∧ y.1 ≤ y.2 ∧ y.2 ≤ 9999) {r : Nat} (hr : r ≤ 9999) : (mX5_lowestBeyond (mk n I J) 115 (nI r) = some (M1, mk n I J) ∧ ∀ y ∈ q, y.2 ≤ r) ∨ ∃ m z, mX5_lowestBeyond (mk n I J) 115 (nI r) = some (nI m, mk n I J) ∧ m < 11 ∧ q[m]? = some z ∧ r < z.2 ∧ ∀ y ∈ q, r < y.2 → z.1 ≤ y.1 := by
  obtain ⟨m, e, p⟩ := C_lbL (n := n) (J := J) h hq hin hr q.length 0 FU 100 (by omega) (by unfold FU; omega) (Or.inl ⟨rfl, fun k y h1 => by omega⟩)
  have e' : mX5_lowestBeyond (mk n I J) 115 (nI r) = some (ixN m, mk n I J) := by
    unfold mX5_lowestBeyond
    rw [mk_oO o_115]
    exact e
  rcases p with ⟨m1, m2⟩ | ⟨m1, z, m2, m3, m4⟩
  · refine Or.inl ⟨by rw [e']; unfold ixN; rw [if_pos m1], fun y hy => ?_⟩
    obtain ⟨k, hk, rfl⟩ := List.getElem_of_mem hy
    exact m2 k _ hk (List.getElem?_eq_getElem hk)
  · refine Or.inr ⟨m, z, by rw [e']; unfold ixN; rw [if_neg (by omega)], by omega, m2, m3, fun y hy hr' => ?_⟩
    obtain ⟨k, hk, rfl⟩ := List.getElem_of_mem hy
    exact m4 k _ hk (List.getElem?_eq_getElem hk) hr'
theorem mmax_nI {a b : Nat} (ha : a < 2 ^ 31) (hb : b < 2 ^ 31) : mmax (nI a) (nI b) = nI (max a b) := by
  show (if nI a < nI b then nI b else nI a) = _
  by_cases h : a < b
  · rw [if_pos (nI_lt h hb), Nat.max_eq_right (by omega)]
  · rw [if_neg (nI_nlt (by omega) ha), Nat.max_eq_left (by omega)]
theorem C_sizeL {q : List (Nat × Nat)} (h : LPq I q) (hq : q.length ≤ 11) (hin : ∀ y ∈ q, 1 ≤ y.1 ∧ y.1 ≤ y.2 ∧ y.2 ≤ 9999) {c : Nat → Bool} (hc : ∀ p, 1 ≤ p → p ≤ 9999 → (c p = true ↔ covB q p)) : ∀ (k t fu r : Nat), t + k = q.length → k < fu → r ≤ 9999 → nbY r q ≤ k → mX5_size_L6 fu (mk n I J) 115 (nI (cnC c r)) (nI r) (nI t) = some (nI (cnC c 9999), mk n I J) := by
  have fin : ∀ r, r ≤ 9999 → (∀ y ∈ q, y.2 ≤ r) → cnC c 9999 = cnC c r := fun r hr hy => cnC_none 9999 hr (fun p h1 h2 => by
    cases hcp : c p with
    | false => rfl
    | true =>
      obtain ⟨y, y1, y2, y3⟩ := (hc p (by omega) h2).mp hcp
      have := hy y y1
      omega)
  intro k
  induction k with
  | zero =>
    intro t fu r ht hf hr hn
    obtain ⟨fu, rfl⟩ : ∃ f, fu = f + 1 := ⟨fu - 1, by omega⟩
    show mX5_size_b6 _ _ _ _ _ _ = _
    unfold mX5_size_b6
    rw [fin r hr (nbY_zero q (by omega))]
    simp (disch := omega) only [mk_oO o_115, mk_gR f_115_0, mk_gR f_115_1, mk_gR f_115_2, mk_gR f_115_3, mk_gI f_115_4, mk_pI f_115_4, ↓m_1, ↓m_2, i_0, i_1, i_2, i_3, i_4, i_6, i_5, i_12, i_11, i_10, i_9999, i_7, i_9, i_8, i_24, i_100, i_56, i_48, i_13, i_176, i_232, i_224, i_32, i_999, i_99, i_900, i_97, i_90, i_30, i_20, i_59, i_14, i_50, i_29, i_22, i_19, i_18, i_17, i_96, i_61, i_57, i_51, i_41, i_26, i_2552, i_255, i_25, i_23, i_21, i_16, i_15, i_122, i_10000, i_31, dzF, obs, b2_some, rz0, rz1, rzb, n01, n01', n10, n01e, nI_add, nI_mul, ↓reduceIte, not_false_eq_true, not_true_eq_false, ite_not, h.1, leT]
  | succ k ih =>
    intro t fu r ht hf hr hn
    obtain ⟨fu, rfl⟩ : ∃ f, fu = f + 1 := ⟨fu - 1, by omega⟩
    show mX5_size_b6 _ _ _ _ _ _ = _
    unfold mX5_size_b6
    rcases C_lowestBeyond (n := n) (J := J) h hq hin hr with ⟨e, hy⟩ | ⟨m, z, e, m11, hz, hrz, hlo⟩
    · rw [fin r hr hy]
      simp (disch := omega) only [mk_oO o_115, mk_gR f_115_0, mk_gR f_115_1, mk_gR f_115_2, mk_gR f_115_3, mk_gI f_115_4, mk_pI f_115_4, ↓m_1, ↓m_2, i_0, i_1, i_2, i_3, i_4, i_6, i_5, i_12, i_11, i_10, i_9999, i_7, i_9, i_8, i_24, i_100, i_56, i_48, i_13, i_176, i_232, i_224, i_32, i_999, i_99, i_900, i_97, i_90, i_30, i_20, i_59, i_14, i_50, i_29, i_22, i_19, i_18, i_17, i_96, i_61, i_57, i_51, i_41, i_26, i_2552, i_255, i_25, i_23, i_21, i_16, i_15, i_122, i_10000, i_31, dzF, obs, b2_some, rz0, rz1, rzb, n01, n01', n10, n01e, nI_add, nI_mul, ↓reduceIte, not_false_eq_true, not_true_eq_false, ite_not, h.1, leF, e]
    · obtain ⟨i1, i2⟩ := h.2 m z hz
      have hmem := List.mem_of_getElem? hz
      have hbz := hin z hmem
      have hcs : cnC c z.2 = cnC c r + (z.2 - max (z.1 - 1) r) := cnC_span hbz.1 z.2 (by omega) (fun p h1 h2 => by
        rw [hc p (by omega) (by omega)]
        constructor
        · rintro ⟨y, y1, y2, y3⟩
          have := hlo y y1 (by omega)
          omega
        · intro hp
          exact ⟨z, hmem, hp, h2⟩)
      have e3 := ih (t + 1) fu z.2 (by omega) (by omega) (by omega) (by have := nbY_lt (r := r) (r' := z.2) (by omega) q ⟨z, hmem, hrz, Nat.le_refl _⟩; omega)
      rw [hcs] at e3
      simp (disch := omega) only [mk_oO o_115, mk_gR f_115_0, mk_gR f_115_1, mk_gR f_115_2, mk_gR f_115_3, mk_gI f_115_4, mk_pI f_115_4, ↓m_1, ↓m_2, i_0, i_1, i_2, i_3, i_4, i_6, i_5, i_12, i_11, i_10, i_9999, i_7, i_9, i_8, i_24, i_100, i_56, i_48, i_13, i_176, i_232, i_224, i_32, i_999, i_99, i_900, i_97, i_90, i_30, i_20, i_59, i_14, i_50, i_29, i_22, i_19, i_18, i_17, i_96, i_61, i_57, i_51, i_41, i_26, i_2552, i_255, i_25, i_23, i_21, i_16, i_15, i_122, i_10000, i_31, dzF, obs, b2_some, rz0, rz1, rzb, n01, n01', n10, n01e, nI_add, nI_mul, ↓reduceIte, not_false_eq_true, not_true_eq_false, ite_not, h.1, leF, e, nM1, mk_aIn a_117, i2, mk_aIn a_116, i1, nI_sub, mmax_nI]
      exact e3
theorem C_size {q : List (Nat × Nat)} (h : LPq I q) (hq : q.length ≤ 11) (hin : ∀ y ∈ q, 1 ≤ y.1 ∧ y.1 ≤ y.2 ∧ y.2 ≤ 9999) {c : Nat → Bool} (hc : ∀ p, 1 ≤ p → p ≤ 9999 → (c p = true ↔ covB q p)) : mX5_size (mk n I J) 115 = some (nI (cnC c 9999), mk n I J) := by
  unfold mX5_size
  rw [mk_oO o_115]
  exact C_sizeL h hq hin hc q.length 0 FU 0 (by omega) (by unfold FU; omega) (by omega) (nbY_len 0 q)
theorem C_least {q : List (Nat × Nat)} (h : LPq I q) (hq : q.length ≤ 11) (hin : ∀ y ∈ q, 1 ≤ y.1 ∧ y.1 ≤ y.2 ∧ y.2 ≤ 9999) {c : Nat → Bool} (hc : ∀ p, 1 ≤ p → p ≤ 9999 → (c p = true ↔ covB q p)) : mX5_least (mk n I J) 115 = some (pN (leC c 9999), mk n I J) := by
  unfold mX5_least
  rcases C_lowestBeyond (n := n) (J := J) (r := 0) h hq hin (by omega) with ⟨e, hy⟩ | ⟨m, z, e, m11, hz, hrz, hlo⟩
  · rw [leC_none 9999 (fun p h1 h2 => by
      cases hcp : c p with
      | false => rfl
      | true =>
        obtain ⟨y, y1, y2, y3⟩ := (hc p h1 h2).mp hcp
        have := hy y y1
        omega)]
    simp (disch := omega) only [mk_oO o_115, mk_gR f_115_0, mk_gR f_115_1, mk_gR f_115_2, mk_gR f_115_3, mk_gI f_115_4, mk_pI f_115_4, ↓m_1, ↓m_2, i_0, i_1, i_2, i_3, i_4, i_6, i_5, i_12, i_11, i_10, i_9999, i_7, i_9, i_8, i_24, i_100, i_56, i_48, i_13, i_176, i_232, i_224, i_32, i_999, i_99, i_900, i_97, i_90, i_30, i_20, i_59, i_14, i_50, i_29, i_22, i_19, i_18, i_17, i_96, i_61, i_57, i_51, i_41, i_26, i_2552, i_255, i_25, i_23, i_21, i_16, i_15, i_122, i_10000, i_31, dzF, obs, b2_some, rz0, rz1, rzb, n01, n01', n10, n01e, nI_add, nI_mul, ↓reduceIte, not_false_eq_true, not_true_eq_false, ite_not, e]
    rfl
  · obtain ⟨i1, i2⟩ := h.2 m z hz
    have hmem := List.mem_of_getElem? hz
    have hbz := hin z hmem
    rw [leC_eq hbz.1 ((hc _ hbz.1 (by omega)).mpr ⟨z, hmem, Nat.le_refl _, hbz.2.1⟩) (fun p h1 h2 => by
      cases hcp : c p with
      | false => rfl
      | true =>
        obtain ⟨y, y1, y2, y3⟩ := (hc p h1 (by omega)).mp hcp
        have := hlo y y1 (by have := hin y y1; omega)
        omega) 9999 (by omega)]
    unfold pN
    rw [if_neg (by omega)]
    simp (disch := omega) only [mk_oO o_115, mk_gR f_115_0, mk_gR f_115_1, mk_gR f_115_2, mk_gR f_115_3, mk_gI f_115_4, mk_pI f_115_4, ↓m_1, ↓m_2, i_0, i_1, i_2, i_3, i_4, i_6, i_5, i_12, i_11, i_10, i_9999, i_7, i_9, i_8, i_24, i_100, i_56, i_48, i_13, i_176, i_232, i_224, i_32, i_999, i_99, i_900, i_97, i_90, i_30, i_20, i_59, i_14, i_50, i_29, i_22, i_19, i_18, i_17, i_96, i_61, i_57, i_51, i_41, i_26, i_2552, i_255, i_25, i_23, i_21, i_16, i_15, i_122, i_10000, i_31, dzF, obs, b2_some, rz0, rz1, rzb, n01, n01', n10, n01e, nI_add, nI_mul, ↓reduceIte, not_false_eq_true, not_true_eq_false, ite_not, e, nM1, mk_aIn a_116, i1]
/-- the greatest end -/
def mxY : List (Nat × Nat) → Nat → Nat
  | [], m => m
  | y :: q, m => mxY q (max m y.2)
theorem mxY_ge : ∀ (q : List (Nat × Nat)) (m : Nat), m ≤ mxY q m ∧ ∀ y ∈ q, y.2 ≤ mxY q m
  | [], m => ⟨Nat.le_refl _, fun y hy => absurd hy List.not_mem_nil⟩
  | z :: q, m => by
    obtain ⟨h1, h2⟩ := mxY_ge q (max m z.2)
    unfold mxY
    refine ⟨by omega, fun y hy => ?_⟩
    rcases List.mem_cons.mp hy with e | e
    · subst e; omega
    · exact h2 y e
theorem mxY_in : ∀ (q : List (Nat × Nat)) (m : Nat), mxY q m = m ∨ ∃ y ∈ q, mxY q m = y.2
  | [], m => Or.inl rfl
  | z :: q, m => by
    unfold mxY
    rcases mxY_in q (max m z.2) with e | ⟨y, y1, y2⟩
    · rcases Nat.le_total m z.2 with w | w
      · exact Or.inr ⟨z, List.mem_cons_self .., by rw [e, Nat.max_eq_right w]⟩
      · exact Or.inl (by rw [e, Nat.max_eq_left w])
    · exact Or.inr ⟨y, List.mem_cons_of_mem _ y1, y2⟩
theorem mmaxP {a b : Nat} (ha : a < 2 ^ 31) (hb : 1 ≤ b) (hb' : b < 2 ^ 31) : mmax (pN a) (nI b) = pN (max a b) := by
  unfold pN
  rw [if_neg (by omega : ¬ max a b = 0)]
  by_cases hz : a = 0
  · subst hz
    rw [if_pos rfl]
    show (if M1 < nI b then nI b else M1) = _
    rw [if_pos (by rw [Int32.lt_iff_toInt_lt, M1_toInt, nI_toInt hb']; omega), Nat.max_eq_right (by omega)]
  · rw [if_neg hz, mmax_nI ha hb']
theorem C_grL {q : List (Nat × Nat)} (h : LPq I q) (hq : q.length ≤ 11) (hin : ∀ y ∈ q, 1 ≤ y.1 ∧ y.1 ≤ y.2 ∧ y.2 ≤ 9999) : ∀ (k t fu m : Nat), t + k = q.length → k < fu → m ≤ 9999 → mX5_greatest_L4 fu (mk n I J) 115 (pN m) (nI t) = some (pN (mxY (q.drop t) m), mk n I J) := by
  intro k
  induction k with
  | zero =>
    intro t fu m ht hf hm
    obtain ⟨fu, rfl⟩ : ∃ f, fu = f + 1 := ⟨fu - 1, by omega⟩
    show mX5_greatest_b4 _ _ _ _ _ = _
    unfold mX5_greatest_b4
    rw [List.drop_eq_nil_of_le (by omega), mxY]
    simp (disch := omega) only [mk_oO o_115, mk_gR f_115_0, mk_gR f_115_1, mk_gR f_115_2, mk_gR f_115_3, mk_gI f_115_4, mk_pI f_115_4, ↓m_1, ↓m_2, i_0, i_1, i_2, i_3, i_4, i_6, i_5, i_12, i_11, i_10, i_9999, i_7, i_9, i_8, i_24, i_100, i_56, i_48, i_13, i_176, i_232, i_224, i_32, i_999, i_99, i_900, i_97, i_90, i_30, i_20, i_59, i_14, i_50, i_29, i_22, i_19, i_18, i_17, i_96, i_61, i_57, i_51, i_41, i_26, i_2552, i_255, i_25, i_23, i_21, i_16, i_15, i_122, i_10000, i_31, dzF, obs, b2_some, rz0, rz1, rzb, n01, n01', n10, n01e, nI_add, nI_mul, ↓reduceIte, not_false_eq_true, not_true_eq_false, ite_not, h.1, leT]
  | succ k ih =>
    intro t fu m ht hf hm
    obtain ⟨fu, rfl⟩ : ∃ f, fu = f + 1 := ⟨fu - 1, by omega⟩
    have htl : t < q.length := by omega
    have hqt : q[t]? = some q[t] := List.getElem?_eq_getElem htl
    obtain ⟨j1, j2⟩ := h.2 t _ hqt
    have hb := hin q[t] (List.getElem_mem htl)
    rw [List.drop_eq_getElem_cons htl, mxY]
    generalize q[t] = y at hqt j1 j2 hb
    have e := ih (t + 1) fu (max m y.2) (by omega) (by omega) (by omega)
    show mX5_greatest_b4 _ _ _ _ _ = _
    unfold mX5_greatest_b4
    simp (disch := omega) only [mk_oO o_115, mk_gR f_115_0, mk_gR f_115_1, mk_gR f_115_2, mk_gR f_115_3, mk_gI f_115_4, mk_pI f_115_4, ↓m_1, ↓m_2, i_0, i_1, i_2, i_3, i_4, i_6, i_5, i_12, i_11, i_10, i_9999, i_7, i_9, i_8, i_24, i_100, i_56, i_48, i_13, i_176, i_232, i_224, i_32, i_999, i_99, i_900, i_97, i_90, i_30, i_20, i_59, i_14, i_50, i_29, i_22, i_19, i_18, i_17, i_96, i_61, i_57, i_51, i_41, i_26, i_2552, i_255, i_25, i_23, i_21, i_16, i_15, i_122, i_10000, i_31, dzF, obs, b2_some, rz0, rz1, rzb, n01, n01', n10, n01e, nI_add, nI_mul, ↓reduceIte, not_false_eq_true, not_true_eq_false, ite_not, h.1, leF, mk_aIn a_117, j2, mmaxP]
    exact e
theorem C_greatest {q : List (Nat × Nat)} (h : LPq I q) (hq : q.length ≤ 11) (hin : ∀ y ∈ q, 1 ≤ y.1 ∧ y.1 ≤ y.2 ∧ y.2 ≤ 9999) {c : Nat → Bool} (hc : ∀ p, 1 ≤ p → p ≤ 9999 → (c p = true ↔ covB q p)) : mX5_greatest (mk n I J) 115 = some (pN (moC c 9999), mk n I J) := by
  have e := C_grL (n := n) (J := J) h hq hin q.length 0 FU 0 (by omega) (by unfold FU; omega) (by omega)
  obtain ⟨g1, g2⟩ := mxY_ge q 0
  have hz : moC c 9999 = mxY q 0 := by
    rcases mxY_in q 0 with w | ⟨y, y1, y2⟩
    · rw [w]
      refine moC_none 9999 (fun p h1 h2 => ?_)
      cases hcp : c p with
      | false => rfl
      | true =>
        obtain ⟨y, y1, y2, y3⟩ := (hc p h1 h2).mp hcp
        have := g2 y y1
        omega
    · have hb := hin y y1
      refine moC_eq (by omega) ((hc _ (by omega) (by omega)).mpr ⟨y, y1, by omega, by omega⟩) 9999 (by omega) (fun p h1 h2 => ?_)
      cases hcp : c p with
      | false => rfl
      | true =>
        obtain ⟨y', w1, w2, w3⟩ := (hc p (by omega) h2).mp hcp
        have := g2 y' w1
        omega
  unfold mX5_greatest
  rw [mk_oO o_115, hz]
  exact e
/-- a price passes -/
def cPr (T : Nat → Nat) (g s : Nat) (p : Nat) : Bool := (tests T g s).any (nearT (ownAt T g s p) (T 6))
theorem R_prL (hT : VT T) {s w : Nat} (hs : s < T 3) (hw : w ≤ 2) : ∀ (k t fu : Nat) (I : Nat → Nat → Int32), t + k = 9999 → k < fu → RQ T g I → LT I J (tests T g s) → ∃ I', mX10_prices_L44 fu (mk n I J) 224 (nI s) (nI w) (nI (cnC (cPr T g s) t)) (pN (leC (cPr T g s) t)) (pN (moC (cPr T g s) t)) (nI (t + 1)) = some (if w = 0 then nI (cnC (cPr T g s) 9999) else if w = 1 then pN (leC (cPr T g s) 9999) else pN (moC (cPr T g s) 9999), mk n I' J) ∧ Fx SA I I' := by
  have b0 := hT.1
  have b1 := hT.2.1
  intro k
  induction k with
  | zero =>
    intro t fu I ht hf h hl
    obtain ⟨fu, rfl⟩ : ∃ f, fu = f + 1 := ⟨fu - 1, by omega⟩
    have e9 : t = 9999 := by omega
    subst e9
    refine ⟨I, ?_, Fx.refl I⟩
    show mX10_prices_b44 _ _ _ _ _ _ _ _ _ = _
    unfold mX10_prices_b44
    rcases (by omega : w = 0 ∨ w = 1 ∨ w = 2) with rfl | rfl | rfl
    · simp (disch := omega) only [↓m_1, ↓m_2, i_0, i_1, i_2, i_3, i_4, i_6, i_5, i_12, i_11, i_10, i_9999, i_7, i_9, i_8, i_24, i_100, i_56, i_48, i_13, i_176, i_232, i_224, i_32, i_999, i_99, i_900, i_97, i_90, i_30, i_20, i_59, i_14, i_50, i_29, i_22, i_19, i_18, i_17, i_96, i_61, i_57, i_51, i_41, i_26, i_2552, i_255, i_25, i_23, i_21, i_16, i_15, i_122, i_10000, i_31, dzF, obs, b2_some, rz0, rz1, rzb, n01, n01', n10, n01e, nI_add, nI_mul, ↓reduceIte, not_false_eq_true, not_true_eq_false, ite_not, ltT]
    · simp (disch := omega) only [↓m_1, ↓m_2, i_0, i_1, i_2, i_3, i_4, i_6, i_5, i_12, i_11, i_10, i_9999, i_7, i_9, i_8, i_24, i_100, i_56, i_48, i_13, i_176, i_232, i_224, i_32, i_999, i_99, i_900, i_97, i_90, i_30, i_20, i_59, i_14, i_50, i_29, i_22, i_19, i_18, i_17, i_96, i_61, i_57, i_51, i_41, i_26, i_2552, i_255, i_25, i_23, i_21, i_16, i_15, i_122, i_10000, i_31, dzF, obs, b2_some, rz0, rz1, rzb, n01, n01', n10, n01e, nI_add, nI_mul, ↓reduceIte, not_false_eq_true, not_true_eq_false, ite_not, ltT, eqF, Nat.one_ne_zero]
    · simp (disch := omega) only [↓m_1, ↓m_2, i_0, i_1, i_2, i_3, i_4, i_6, i_5, i_12, i_11, i_10, i_9999, i_7, i_9, i_8, i_24, i_100, i_56, i_48, i_13, i_176, i_232, i_224, i_32, i_999, i_99, i_900, i_97, i_90, i_30, i_20, i_59, i_14, i_50, i_29, i_22, i_19, i_18, i_17, i_96, i_61, i_57, i_51, i_41, i_26, i_2552, i_255, i_25, i_23, i_21, i_16, i_15, i_122, i_10000, i_31, dzF, obs, b2_some, rz0, rz1, rzb, n01, n01', n10, n01e, nI_add, nI_mul, ↓reduceIte, not_false_eq_true, not_true_eq_false, ite_not, ltT, eqF, Nat.reduceEqDiff]
  | succ k ih =>
    intro t fu I ht hf h hl
    obtain ⟨fu, rfl⟩ : ∃ f, fu = f + 1 := ⟨fu - 1, by omega⟩
    obtain ⟨I1, e1, f1⟩ := R_ownAt (n := n) (J := J) hT h hs (by omega : t + 1 ≤ 9999)
    have h1 := h.fa f1
    have ho := ownAt_le (g := g) hT s (by omega : t + 1 ≤ 9999) hs
    have e2 := R_isNear (n := n) (hl.fa f1) (tests_len hT hs) (tests_le hT hs) (o := ownAt T g s (t + 1)) (near := T 6) (by omega) (by omega)
    obtain ⟨I2, e, f2⟩ := ih (t + 1) fu I1 (by omega) (by omega) h1 (hl.fa f1)
    refine ⟨I2, ?_, f1.trans f2⟩
    have hle := leC_le (cPr T g s) t
    show mX10_prices_b44 _ _ _ _ _ _ _ _ _ = _
    unfold mX10_prices_b44
    rw [cnC, leC, moC] at e
    by_cases hc : cPr T g s (t + 1) = true
    · have hc' : (tests T g s).any (nearT (ownAt T g s (t + 1)) (T 6)) = true := hc
      rw [if_pos hc, if_pos hc, if_pos hc] at e
      have epm : pN (t + 1) = nI (t + 1) := if_neg (by omega)
      by_cases hz : leC (cPr T g s) t = 0
      · rw [if_pos hz, epm] at e
        simp (disch := omega) only [mk_oO o_224, mk_gI f_224_0, mk_pI f_224_0, mk_gR f_224_1, mk_gR f_224_2, mk_gR f_224_3, mk_gR f_224_4, mk_gR f_224_5, mk_gI f_224_6, mk_pI f_224_6, mk_gR f_224_7, mk_gI f_224_8, mk_pI f_224_8, mk_gI f_224_9, mk_pI f_224_9, mk_gI f_224_10, mk_pI f_224_10, mk_gI f_224_11, mk_pI f_224_11, mk_gI f_224_12, mk_pI f_224_12, mk_gI f_224_13, mk_pI f_224_13, mk_gL f_224_14, mk_pL f_224_14, mk_gI f_224_15, mk_pI f_224_15, mk_gI f_224_16, mk_pI f_224_16, mk_gR f_224_17, mk_gR f_224_18, mk_gR f_224_19, mk_gI f_224_20, mk_pI f_224_20, mk_gR f_224_21, mk_gI f_224_22, mk_pI f_224_22, mk_gI f_224_23, mk_pI f_224_23, mk_gI f_224_24, mk_pI f_224_24, mk_gI f_224_25, mk_pI f_224_25, mk_gR f_224_26, mk_gI f_224_27, mk_pI f_224_27, mk_gI f_224_28, mk_pI f_224_28, mk_gR f_224_29, mk_gI f_224_30, mk_pI f_224_30, mk_gI f_224_31, mk_pI f_224_31, mk_gR f_224_32, mk_gI f_224_33, mk_pI f_224_33, ↓m_1, ↓m_2, i_0, i_1, i_2, i_3, i_4, i_6, i_5, i_12, i_11, i_10, i_9999, i_7, i_9, i_8, i_24, i_100, i_56, i_48, i_13, i_176, i_232, i_224, i_32, i_999, i_99, i_900, i_97, i_90, i_30, i_20, i_59, i_14, i_50, i_29, i_22, i_19, i_18, i_17, i_96, i_61, i_57, i_51, i_41, i_26, i_2552, i_255, i_25, i_23, i_21, i_16, i_15, i_122, i_10000, i_31, dzF, obs, b2_some, rz0, rz1, rzb, n01, n01', n10, n01e, nI_add, nI_mul, ↓reduceIte, not_false_eq_true, not_true_eq_false, ite_not, ltF, e1, R_now h1.1, e2, if_pos hc', pN_M1, hz]
        exact e
      · rw [if_neg hz, epm] at e
        simp (disch := omega) only [mk_oO o_224, mk_gI f_224_0, mk_pI f_224_0, mk_gR f_224_1, mk_gR f_224_2, mk_gR f_224_3, mk_gR f_224_4, mk_gR f_224_5, mk_gI f_224_6, mk_pI f_224_6, mk_gR f_224_7, mk_gI f_224_8, mk_pI f_224_8, mk_gI f_224_9, mk_pI f_224_9, mk_gI f_224_10, mk_pI f_224_10, mk_gI f_224_11, mk_pI f_224_11, mk_gI f_224_12, mk_pI f_224_12, mk_gI f_224_13, mk_pI f_224_13, mk_gL f_224_14, mk_pL f_224_14, mk_gI f_224_15, mk_pI f_224_15, mk_gI f_224_16, mk_pI f_224_16, mk_gR f_224_17, mk_gR f_224_18, mk_gR f_224_19, mk_gI f_224_20, mk_pI f_224_20, mk_gR f_224_21, mk_gI f_224_22, mk_pI f_224_22, mk_gI f_224_23, mk_pI f_224_23, mk_gI f_224_24, mk_pI f_224_24, mk_gI f_224_25, mk_pI f_224_25, mk_gR f_224_26, mk_gI f_224_27, mk_pI f_224_27, mk_gI f_224_28, mk_pI f_224_28, mk_gR f_224_29, mk_gI f_224_30, mk_pI f_224_30, mk_gI f_224_31, mk_pI f_224_31, mk_gR f_224_32, mk_gI f_224_33, mk_pI f_224_33, ↓m_1, ↓m_2, i_0, i_1, i_2, i_3, i_4, i_6, i_5, i_12, i_11, i_10, i_9999, i_7, i_9, i_8, i_24, i_100, i_56, i_48, i_13, i_176, i_232, i_224, i_32, i_999, i_99, i_900, i_97, i_90, i_30, i_20, i_59, i_14, i_50, i_29, i_22, i_19, i_18, i_17, i_96, i_61, i_57, i_51, i_41, i_26, i_2552, i_255, i_25, i_23, i_21, i_16, i_15, i_122, i_10000, i_31, dzF, obs, b2_some, rz0, rz1, rzb, n01, n01', n10, n01e, nI_add, nI_mul, ↓reduceIte, not_false_eq_true, not_true_eq_false, ite_not, ltF, e1, R_now h1.1, e2, if_pos hc', pN_M1, hz]
        exact e
    · have hc' : ¬ (tests T g s).any (nearT (ownAt T g s (t + 1)) (T 6)) = true := hc
      rw [if_neg hc, if_neg hc, if_neg hc, Nat.add_zero] at e
      have e' : leC (cPr T g s) t = (if leC (cPr T g s) t = 0 then 0 else leC (cPr T g s) t) := by split <;> omega
      rw [← e'] at e
      simp (disch := omega) only [mk_oO o_224, mk_gI f_224_0, mk_pI f_224_0, mk_gR f_224_1, mk_gR f_224_2, mk_gR f_224_3, mk_gR f_224_4, mk_gR f_224_5, mk_gI f_224_6, mk_pI f_224_6, mk_gR f_224_7, mk_gI f_224_8, mk_pI f_224_8, mk_gI f_224_9, mk_pI f_224_9, mk_gI f_224_10, mk_pI f_224_10, mk_gI f_224_11, mk_pI f_224_11, mk_gI f_224_12, mk_pI f_224_12, mk_gI f_224_13, mk_pI f_224_13, mk_gL f_224_14, mk_pL f_224_14, mk_gI f_224_15, mk_pI f_224_15, mk_gI f_224_16, mk_pI f_224_16, mk_gR f_224_17, mk_gR f_224_18, mk_gR f_224_19, mk_gI f_224_20, mk_pI f_224_20, mk_gR f_224_21, mk_gI f_224_22, mk_pI f_224_22, mk_gI f_224_23, mk_pI f_224_23, mk_gI f_224_24, mk_pI f_224_24, mk_gI f_224_25, mk_pI f_224_25, mk_gR f_224_26, mk_gI f_224_27, mk_pI f_224_27, mk_gI f_224_28, mk_pI f_224_28, mk_gR f_224_29, mk_gI f_224_30, mk_pI f_224_30, mk_gI f_224_31, mk_pI f_224_31, mk_gR f_224_32, mk_gI f_224_33, mk_pI f_224_33, ↓m_1, ↓m_2, i_0, i_1, i_2, i_3, i_4, i_6, i_5, i_12, i_11, i_10, i_9999, i_7, i_9, i_8, i_24, i_100, i_56, i_48, i_13, i_176, i_232, i_224, i_32, i_999, i_99, i_900, i_97, i_90, i_30, i_20, i_59, i_14, i_50, i_29, i_22, i_19, i_18, i_17, i_96, i_61, i_57, i_51, i_41, i_26, i_2552, i_255, i_25, i_23, i_21, i_16, i_15, i_122, i_10000, i_31, dzF, obs, b2_some, rz0, rz1, rzb, n01, n01', n10, n01e, nI_add, nI_mul, ↓reduceIte, not_false_eq_true, not_true_eq_false, ite_not, ltF, e1, R_now h1.1, e2, if_neg hc']
      exact e
end PS
set_option maxHeartbeats 4000000 in
theorem sim_prices : SIM_prices Inv 0 224 := by
  intro h c1 c2 hI
  obtain ⟨n, I, J, rfl, hI⟩ := hI
  obtain ⟨T, hT, hW, hR⟩ := hI.use
  have b0 := hT.1
  have b1 := hT.2.1
  have hR0 := hR.th (nI 0)
  unfold mX9_prices mX10_prices
  by_cases h1 : ixB c1 (T 3)
  · obtain ⟨s, hs, rfl⟩ := ixB_of (by omega) h1
    by_cases h2 : ((0 : Nat) : Int) ≤ c2.toInt ∧ c2.toInt ≤ ((2 : Nat) : Int)
    · obtain ⟨w, w1, w2, rfl⟩ := rng_of (by decide) h2
      obtain ⟨I1, J1, e1, f1, j1, l1⟩ := C_llook (n := n) (J := J) (g := 10) hT hW
      obtain ⟨I2, J2, e2, f2, c2⟩ := C_gatherTests (n := n) hT l1.1 hs
      have e1' : mX1_look (mk n I J) 111 M1 = some (mk n I1 J1) := e1
      obtain ⟨I3, e3, f3, p3⟩ := C_find (n := n) hT (l1.1.gf hT f2) hs c2 (tests_len hT hs) (tests_le hT hs)
      have s2 := (scrt.gat f1 j1 f2).trans (scrt.fc (f3.mono SPn_SC) (FJ.refl J2))
      have hR1 := (hR.sc s2).th (nI 0)
      obtain ⟨I4, J4, e4, q4, l4⟩ := R_laysTests (n := n) (J := J2) hT hR1 hs
      obtain ⟨I5, e5, f5⟩ := R_prL (n := n) (J := J4) (w := w) hT hs w2 9999 0 FU I4 (by omega) (by unfold FU; omega) (hR1.qf q4) l4
      have hq : (spn T (ownAt T 10 s) (tests T 10 s)).length ≤ 11 := Nat.le_trans (spn_len _ _) (tests_len hT hs)
      have hin := spn_in (T := T) (f := ownAt T 10 s) (tests T 10 s)
      have hc : ∀ p, 1 ≤ p → p ≤ 9999 → (cPr T 10 s p = true ↔ covB (spn T (ownAt T 10 s) (tests T 10 s)) p) := fun p q1 q2 => spn_cov (own_inc hT hs) (by omega) q1 q2 _
      have e6 := C_size (n := n) (J := J2) p3 hq hin hc
      have e7 := C_least (n := n) (J := J2) p3 hq hin hc
      have e8 := C_greatest (n := n) (J := J2) p3 hq hin hc
      refine ⟨if w = 0 then nI (cnC (cPr T 10 s) 9999) else if w = 1 then pN (leC (cPr T 10 s) 9999) else pN (moC (cPr T 10 s) 9999), mk n I3 J2, mk n I5 J4, ?_, ?_, hI.finQ s2 (q4.trans (QF.fa f5))⟩
      · rcases (by omega : w = 0 ∨ w = 1 ∨ w = 2) with rfl | rfl | rfl
        · simp (disch := omega) only [mk_oO o_0, mk_oO o_1, mk_oO o_3, mk_gR f_0_0, mk_gR f_0_1, mk_gR f_0_2, mk_gR f_0_3, mk_gR f_0_4, mk_gR f_0_5, mk_gR f_0_6, mk_gR f_0_7, mk_gR f_0_8, mk_gR f_0_9, mk_gI f_0_10, mk_pI f_0_10, mk_gR f_1_0, mk_gI f_1_1, mk_pI f_1_1, mk_gR f_3_0, mk_gR f_3_1, mk_gR f_3_2, mk_gR f_3_3, mk_gR f_3_4, mk_gR f_3_5, mk_gR f_3_6, mk_gR f_3_7, mk_oO o_111, mk_gR f_111_0, mk_gR f_111_1, mk_gR f_111_2, mk_gR f_111_3, mk_gI f_111_4, mk_pI f_111_4, mk_gI f_111_5, mk_pI f_111_5, mk_gL f_111_6, mk_pL f_111_6, mk_gI f_111_7, mk_pI f_111_7, mk_gR f_111_8, mk_gI f_111_9, mk_pI f_111_9, mk_gI f_111_10, mk_pI f_111_10, ↓m_1, ↓m_2, i_0, i_1, i_2, i_3, i_4, i_6, i_5, i_12, i_11, i_10, i_9999, i_7, i_9, i_8, i_24, i_100, i_56, i_48, i_13, i_176, i_232, i_224, i_32, i_999, i_99, i_900, i_97, i_90, i_30, i_20, i_59, i_14, i_50, i_29, i_22, i_19, i_18, i_17, i_96, i_61, i_57, i_51, i_41, i_26, i_2552, i_255, i_25, i_23, i_21, i_16, i_15, i_122, i_10000, i_31, dzF, obs, b2_some, rz0, rz1, rzb, n01, n01', n10, n01e, nI_add, nI_mul, ↓reduceIte, not_false_eq_true, not_true_eq_false, ite_not, has1 hT hW, nlt0, leT, e1', e2, c2.1, e3, e6]
        · simp (disch := omega) only [mk_oO o_0, mk_oO o_1, mk_oO o_3, mk_gR f_0_0, mk_gR f_0_1, mk_gR f_0_2, mk_gR f_0_3, mk_gR f_0_4, mk_gR f_0_5, mk_gR f_0_6, mk_gR f_0_7, mk_gR f_0_8, mk_gR f_0_9, mk_gI f_0_10, mk_pI f_0_10, mk_gR f_1_0, mk_gI f_1_1, mk_pI f_1_1, mk_gR f_3_0, mk_gR f_3_1, mk_gR f_3_2, mk_gR f_3_3, mk_gR f_3_4, mk_gR f_3_5, mk_gR f_3_6, mk_gR f_3_7, mk_oO o_111, mk_gR f_111_0, mk_gR f_111_1, mk_gR f_111_2, mk_gR f_111_3, mk_gI f_111_4, mk_pI f_111_4, mk_gI f_111_5, mk_pI f_111_5, mk_gL f_111_6, mk_pL f_111_6, mk_gI f_111_7, mk_pI f_111_7, mk_gR f_111_8, mk_gI f_111_9, mk_pI f_111_9, mk_gI f_111_10, mk_pI f_111_10, ↓m_1, ↓m_2, i_0, i_1, i_2, i_3, i_4, i_6, i_5, i_12, i_11, i_10, i_9999, i_7, i_9, i_8, i_24, i_100, i_56, i_48, i_13, i_176, i_232, i_224, i_32, i_999, i_99, i_900, i_97, i_90, i_30, i_20, i_59, i_14, i_50, i_29, i_22, i_19, i_18, i_17, i_96, i_61, i_57, i_51, i_41, i_26, i_2552, i_255, i_25, i_23, i_21, i_16, i_15, i_122, i_10000, i_31, dzF, obs, b2_some, rz0, rz1, rzb, n01, n01', n10, n01e, nI_add, nI_mul, ↓reduceIte, not_false_eq_true, not_true_eq_false, ite_not, has1 hT hW, nlt0, leT, e1', e2, c2.1, e3, eqF, e7, Nat.one_ne_zero]
        · simp (disch := omega) only [mk_oO o_0, mk_oO o_1, mk_oO o_3, mk_gR f_0_0, mk_gR f_0_1, mk_gR f_0_2, mk_gR f_0_3, mk_gR f_0_4, mk_gR f_0_5, mk_gR f_0_6, mk_gR f_0_7, mk_gR f_0_8, mk_gR f_0_9, mk_gI f_0_10, mk_pI f_0_10, mk_gR f_1_0, mk_gI f_1_1, mk_pI f_1_1, mk_gR f_3_0, mk_gR f_3_1, mk_gR f_3_2, mk_gR f_3_3, mk_gR f_3_4, mk_gR f_3_5, mk_gR f_3_6, mk_gR f_3_7, mk_oO o_111, mk_gR f_111_0, mk_gR f_111_1, mk_gR f_111_2, mk_gR f_111_3, mk_gI f_111_4, mk_pI f_111_4, mk_gI f_111_5, mk_pI f_111_5, mk_gL f_111_6, mk_pL f_111_6, mk_gI f_111_7, mk_pI f_111_7, mk_gR f_111_8, mk_gI f_111_9, mk_pI f_111_9, mk_gI f_111_10, mk_pI f_111_10, ↓m_1, ↓m_2, i_0, i_1, i_2, i_3, i_4, i_6, i_5, i_12, i_11, i_10, i_9999, i_7, i_9, i_8, i_24, i_100, i_56, i_48, i_13, i_176, i_232, i_224, i_32, i_999, i_99, i_900, i_97, i_90, i_30, i_20, i_59, i_14, i_50, i_29, i_22, i_19, i_18, i_17, i_96, i_61, i_57, i_51, i_41, i_26, i_2552, i_255, i_25, i_23, i_21, i_16, i_15, i_122, i_10000, i_31, dzF, obs, b2_some, rz0, rz1, rzb, n01, n01', n10, n01e, nI_add, nI_mul, ↓reduceIte, not_false_eq_true, not_true_eq_false, ite_not, has1 hT hW, nlt0, leT, e1', e2, c2.1, e3, eqF, e8, Nat.reduceEqDiff]
      · simp (disch := omega) only [mk_oO o_224, mk_gI f_224_0, mk_pI f_224_0, mk_gR f_224_1, mk_gR f_224_2, mk_gR f_224_3, mk_gR f_224_4, mk_gR f_224_5, mk_gI f_224_6, mk_pI f_224_6, mk_gR f_224_7, mk_gI f_224_8, mk_pI f_224_8, mk_gI f_224_9, mk_pI f_224_9, mk_gI f_224_10, mk_pI f_224_10, mk_gI f_224_11, mk_pI f_224_11, mk_gI f_224_12, mk_pI f_224_12, mk_gI f_224_13, mk_pI f_224_13, mk_gL f_224_14, mk_pL f_224_14, mk_gI f_224_15, mk_pI f_224_15, mk_gI f_224_16, mk_pI f_224_16, mk_gR f_224_17, mk_gR f_224_18, mk_gR f_224_19, mk_gI f_224_20, mk_pI f_224_20, mk_gR f_224_21, mk_gI f_224_22, mk_pI f_224_22, mk_gI f_224_23, mk_pI f_224_23, mk_gI f_224_24, mk_pI f_224_24, mk_gI f_224_25, mk_pI f_224_25, mk_gR f_224_26, mk_gI f_224_27, mk_pI f_224_27, mk_gI f_224_28, mk_pI f_224_28, mk_gR f_224_29, mk_gI f_224_30, mk_pI f_224_30, mk_gI f_224_31, mk_pI f_224_31, mk_gR f_224_32, mk_gI f_224_33, mk_pI f_224_33, ↓m_1, ↓m_2, i_0, i_1, i_2, i_3, i_4, i_6, i_5, i_12, i_11, i_10, i_9999, i_7, i_9, i_8, i_24, i_100, i_56, i_48, i_13, i_176, i_232, i_224, i_32, i_999, i_99, i_900, i_97, i_90, i_30, i_20, i_59, i_14, i_50, i_29, i_22, i_19, i_18, i_17, i_96, i_61, i_57, i_51, i_41, i_26, i_2552, i_255, i_25, i_23, i_21, i_16, i_15, i_122, i_10000, i_31, l_0, l_2, dzF, obs, b2_some, rz0, rz1, rzb, n01, n01', n10, n01e, nI_add, nI_mul, ↓reduceIte, not_false_eq_true, not_true_eq_false, ite_not, isSale1 hT hR1, within1, e4]
        exact e5
    · refine ⟨M2, mk n I J, _, ?_, ?_, hI.fin0 (n := n) (x := nI 0) (scrt.refl I J)⟩
      · rcases rng_no (by decide) (by decide) h2 with z | ⟨z1, z2, z3⟩
        · simp (disch := omega) only [mk_oO o_0, mk_oO o_1, mk_oO o_3, mk_gR f_0_0, mk_gR f_0_1, mk_gR f_0_2, mk_gR f_0_3, mk_gR f_0_4, mk_gR f_0_5, mk_gR f_0_6, mk_gR f_0_7, mk_gR f_0_8, mk_gR f_0_9, mk_gI f_0_10, mk_pI f_0_10, mk_gR f_1_0, mk_gI f_1_1, mk_pI f_1_1, mk_gR f_3_0, mk_gR f_3_1, mk_gR f_3_2, mk_gR f_3_3, mk_gR f_3_4, mk_gR f_3_5, mk_gR f_3_6, mk_gR f_3_7, ↓m_1, ↓m_2, i_0, i_1, i_2, i_3, i_4, i_6, i_5, i_12, i_11, i_10, i_9999, i_7, i_9, i_8, i_24, i_100, i_56, i_48, i_13, i_176, i_232, i_224, i_32, i_999, i_99, i_900, i_97, i_90, i_30, i_20, i_59, i_14, i_50, i_29, i_22, i_19, i_18, i_17, i_96, i_61, i_57, i_51, i_41, i_26, i_2552, i_255, i_25, i_23, i_21, i_16, i_15, i_122, i_10000, i_31, dzF, obs, b2_some, rz0, rz1, rzb, n01, n01', n10, n01e, nI_add, nI_mul, ↓reduceIte, not_false_eq_true, not_true_eq_false, ite_not, has1 hT hW, z]
        · simp (disch := omega) only [mk_oO o_0, mk_oO o_1, mk_oO o_3, mk_gR f_0_0, mk_gR f_0_1, mk_gR f_0_2, mk_gR f_0_3, mk_gR f_0_4, mk_gR f_0_5, mk_gR f_0_6, mk_gR f_0_7, mk_gR f_0_8, mk_gR f_0_9, mk_gI f_0_10, mk_pI f_0_10, mk_gR f_1_0, mk_gI f_1_1, mk_pI f_1_1, mk_gR f_3_0, mk_gR f_3_1, mk_gR f_3_2, mk_gR f_3_3, mk_gR f_3_4, mk_gR f_3_5, mk_gR f_3_6, mk_gR f_3_7, ↓m_1, ↓m_2, i_0, i_1, i_2, i_3, i_4, i_6, i_5, i_12, i_11, i_10, i_9999, i_7, i_9, i_8, i_24, i_100, i_56, i_48, i_13, i_176, i_232, i_224, i_32, i_999, i_99, i_900, i_97, i_90, i_30, i_20, i_59, i_14, i_50, i_29, i_22, i_19, i_18, i_17, i_96, i_61, i_57, i_51, i_41, i_26, i_2552, i_255, i_25, i_23, i_21, i_16, i_15, i_122, i_10000, i_31, dzF, obs, b2_some, rz0, rz1, rzb, n01, n01', n10, n01e, nI_add, nI_mul, ↓reduceIte, not_false_eq_true, not_true_eq_false, ite_not, has1 hT hW, z1, z2]
      · simp (disch := omega) only [mk_oO o_224, mk_gI f_224_0, mk_pI f_224_0, mk_gR f_224_1, mk_gR f_224_2, mk_gR f_224_3, mk_gR f_224_4, mk_gR f_224_5, mk_gI f_224_6, mk_pI f_224_6, mk_gR f_224_7, mk_gI f_224_8, mk_pI f_224_8, mk_gI f_224_9, mk_pI f_224_9, mk_gI f_224_10, mk_pI f_224_10, mk_gI f_224_11, mk_pI f_224_11, mk_gI f_224_12, mk_pI f_224_12, mk_gI f_224_13, mk_pI f_224_13, mk_gL f_224_14, mk_pL f_224_14, mk_gI f_224_15, mk_pI f_224_15, mk_gI f_224_16, mk_pI f_224_16, mk_gR f_224_17, mk_gR f_224_18, mk_gR f_224_19, mk_gI f_224_20, mk_pI f_224_20, mk_gR f_224_21, mk_gI f_224_22, mk_pI f_224_22, mk_gI f_224_23, mk_pI f_224_23, mk_gI f_224_24, mk_pI f_224_24, mk_gI f_224_25, mk_pI f_224_25, mk_gR f_224_26, mk_gI f_224_27, mk_pI f_224_27, mk_gI f_224_28, mk_pI f_224_28, mk_gR f_224_29, mk_gI f_224_30, mk_pI f_224_30, mk_gI f_224_31, mk_pI f_224_31, mk_gR f_224_32, mk_gI f_224_33, mk_pI f_224_33, ↓m_1, ↓m_2, i_0, i_1, i_2, i_3, i_4, i_6, i_5, i_12, i_11, i_10, i_9999, i_7, i_9, i_8, i_24, i_100, i_56, i_48, i_13, i_176, i_232, i_224, i_32, i_999, i_99, i_900, i_97, i_90, i_30, i_20, i_59, i_14, i_50, i_29, i_22, i_19, i_18, i_17, i_96, i_61, i_57, i_51, i_41, i_26, i_2552, i_255, i_25, i_23, i_21, i_16, i_15, i_122, i_10000, i_31, l_0, l_2, dzF, obs, b2_some, rz0, rz1, rzb, n01, n01', n10, n01e, nI_add, nI_mul, ↓reduceIte, not_false_eq_true, not_true_eq_false, ite_not, isSale1 hT hR0, within0 (by decide) (by decide) h2]
  · refine ⟨M2, mk n I J, _, ?_, ?_, hI.fin0 (n := n) (x := nI 0) (scrt.refl I J)⟩
    · simp (disch := omega) only [mk_oO o_0, mk_oO o_1, mk_oO o_3, mk_gR f_0_0, mk_gR f_0_1, mk_gR f_0_2, mk_gR f_0_3, mk_gR f_0_4, mk_gR f_0_5, mk_gR f_0_6, mk_gR f_0_7, mk_gR f_0_8, mk_gR f_0_9, mk_gI f_0_10, mk_pI f_0_10, mk_gR f_1_0, mk_gI f_1_1, mk_pI f_1_1, mk_gR f_3_0, mk_gR f_3_1, mk_gR f_3_2, mk_gR f_3_3, mk_gR f_3_4, mk_gR f_3_5, mk_gR f_3_6, mk_gR f_3_7, ↓m_1, ↓m_2, i_0, i_1, i_2, i_3, i_4, i_6, i_5, i_12, i_11, i_10, i_9999, i_7, i_9, i_8, i_24, i_100, i_56, i_48, i_13, i_176, i_232, i_224, i_32, i_999, i_99, i_900, i_97, i_90, i_30, i_20, i_59, i_14, i_50, i_29, i_22, i_19, i_18, i_17, i_96, i_61, i_57, i_51, i_41, i_26, i_2552, i_255, i_25, i_23, i_21, i_16, i_15, i_122, i_10000, i_31, dzF, obs, b2_some, rz0, rz1, rzb, n01, n01', n10, n01e, nI_add, nI_mul, ↓reduceIte, not_false_eq_true, not_true_eq_false, ite_not, has0 hT hW (k := 3) (by decide) h1]
    · simp (disch := omega) only [mk_oO o_224, mk_gI f_224_0, mk_pI f_224_0, mk_gR f_224_1, mk_gR f_224_2, mk_gR f_224_3, mk_gR f_224_4, mk_gR f_224_5, mk_gI f_224_6, mk_pI f_224_6, mk_gR f_224_7, mk_gI f_224_8, mk_pI f_224_8, mk_gI f_224_9, mk_pI f_224_9, mk_gI f_224_10, mk_pI f_224_10, mk_gI f_224_11, mk_pI f_224_11, mk_gI f_224_12, mk_pI f_224_12, mk_gI f_224_13, mk_pI f_224_13, mk_gL f_224_14, mk_pL f_224_14, mk_gI f_224_15, mk_pI f_224_15, mk_gI f_224_16, mk_pI f_224_16, mk_gR f_224_17, mk_gR f_224_18, mk_gR f_224_19, mk_gI f_224_20, mk_pI f_224_20, mk_gR f_224_21, mk_gI f_224_22, mk_pI f_224_22, mk_gI f_224_23, mk_pI f_224_23, mk_gI f_224_24, mk_pI f_224_24, mk_gI f_224_25, mk_pI f_224_25, mk_gR f_224_26, mk_gI f_224_27, mk_pI f_224_27, mk_gI f_224_28, mk_pI f_224_28, mk_gR f_224_29, mk_gI f_224_30, mk_pI f_224_30, mk_gI f_224_31, mk_pI f_224_31, mk_gR f_224_32, mk_gI f_224_33, mk_pI f_224_33, ↓m_1, ↓m_2, i_0, i_1, i_2, i_3, i_4, i_6, i_5, i_12, i_11, i_10, i_9999, i_7, i_9, i_8, i_24, i_100, i_56, i_48, i_13, i_176, i_232, i_224, i_32, i_999, i_99, i_900, i_97, i_90, i_30, i_20, i_59, i_14, i_50, i_29, i_22, i_19, i_18, i_17, i_96, i_61, i_57, i_51, i_41, i_26, i_2552, i_255, i_25, i_23, i_21, i_16, i_15, i_122, i_10000, i_31, dzF, obs, b2_some, rz0, rz1, rzb, n01, n01', n10, n01e, nI_add, nI_mul, ↓reduceIte, not_false_eq_true, not_true_eq_false, ite_not, isSale0 hT hR0 h1]
