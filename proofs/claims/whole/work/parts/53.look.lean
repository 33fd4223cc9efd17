/-! ===== 53: the ledger's look ===== -/
def SCJ (a : Nat) : Prop := a = 109 ∨ a = 111 ∨ a = 113
/-- the ledger has looked, with sale g left out -/
def LG (T : Nat → Nat) (g : Nat) (I : Nat → Nat → Int32) (J : Nat → Nat → Int64) : Prop :=
  I 100 3 = goN g ∧ KB T I ∧ (∀ s, s < T 3 → I 102 s = nI (if btw T s then 1 else 0)) ∧ (∀ s, s < T 3 → I 103 s = nI (lvl T s)) ∧
  (∀ a s, a < T 2 → s < T 3 → I (105 + a) s = nI (share T g a s)) ∧ (∀ s, s < T 3 → J 109 s = lN (own T g s)) ∧ ∀ s, s < T 3 → I 110 s = pN (rsP T s)
theorem narB {c : Prop} [Decidable c] : vp_nar .boolean (nI (if c then 1 else 0)) = nI (if c then 1 else 0) := by
  by_cases h : c
  · simp only [if_pos h]; rfl
  · simp only [if_neg h]; rfl
section LK
variable {n g : Nat} {J : Nat → Nat → Int64} {T : Nat → Nat}
theorem C_alongL {I : Nat → Nat → Int32} (hT : VT T) (h : WR I 3 T) {s x : Nat} (hs : s < T 3) (hsh : ∀ a, a < T 2 → I (105 + a) s = nI (share T g a s)) : ∀ (k t fu : Nat), t + k = T 2 → k < fu → mX2_broughtAlong_L30 fu (mk n I J) 100 (nI s) (lN (x + shares T g s t)) (nI t) = some (lN (x + shares T g s (T 2)), mk n I J) := by
  have b0 := hT.1
  intro k
  induction k with
  | zero =>
    intro t fu ht hf
    obtain ⟨fu, rfl⟩ : ∃ f, fu = f + 1 := ⟨fu - 1, by omega⟩
    show mX2_broughtAlong_b30 _ _ _ _ _ _ = _
    unfold mX2_broughtAlong_b30
    simp (disch := omega) only [mk_oO o_100, mk_gR f_100_0, mk_gR f_100_1, mk_gR f_100_2, mk_gI f_100_3, mk_pI f_100_3, mk_gR f_100_4, mk_gR f_100_5, mk_gR f_100_6, mk_gR f_100_7, mk_oO o_0, mk_oO o_1, mk_oO o_3, mk_gR f_0_0, mk_gR f_0_1, mk_gR f_0_2, mk_gR f_0_3, mk_gR f_0_4, mk_gR f_0_5, mk_gR f_0_6, mk_gR f_0_7, mk_gR f_0_8, mk_gR f_0_9, mk_gI f_0_10, mk_pI f_0_10, mk_gR f_1_0, mk_gI f_1_1, mk_pI f_1_1, mk_gR f_3_0, mk_gR f_3_1, mk_gR f_3_2, mk_gR f_3_3, mk_gR f_3_4, mk_gR f_3_5, mk_gR f_3_6, mk_gR f_3_7, ↓m_1, ↓m_2, i_0, i_1, i_2, i_3, i_4, i_6, i_5, i_12, i_11, i_10, i_9999, i_7, i_9, i_8, i_24, i_100, i_56, i_48, i_13, i_176, i_232, i_224, i_32, i_999, i_99, i_900, i_97, i_90, i_30, i_20, i_59, i_14, i_50, i_29, i_22, i_19, i_18, i_17, i_96, i_61, i_57, i_51, i_41, i_26, i_2552, i_255, i_25, i_23, i_21, i_16, i_15, i_122, i_10000, i_31, dzF, obs, b2_some, rz0, rz1, rzb, n01, n01', n10, n01e, nI_add, nI_mul, ↓reduceIte, not_false_eq_true, not_true_eq_false, ite_not, leT, CW_t h]
    rw [show t = T 2 by omega]
  | succ k ih =>
    intro t fu ht hf
    obtain ⟨fu, rfl⟩ : ∃ f, fu = f + 1 := ⟨fu - 1, by omega⟩
    have e := ih (t + 1) fu (by omega) (by omega)
    rw [shares, ← Nat.add_assoc] at e
    have e1 := hsh t (by omega)
    have c1 := share_le (g := g) hT t s
    show mX2_broughtAlong_b30 _ _ _ _ _ _ = _
    unfold mX2_broughtAlong_b30
    simp (disch := omega) only [mk_oO o_100, mk_gR f_100_0, mk_gR f_100_1, mk_gR f_100_2, mk_gI f_100_3, mk_pI f_100_3, mk_gR f_100_4, mk_gR f_100_5, mk_gR f_100_6, mk_gR f_100_7, mk_oO o_0, mk_oO o_1, mk_oO o_3, mk_gR f_0_0, mk_gR f_0_1, mk_gR f_0_2, mk_gR f_0_3, mk_gR f_0_4, mk_gR f_0_5, mk_gR f_0_6, mk_gR f_0_7, mk_gR f_0_8, mk_gR f_0_9, mk_gI f_0_10, mk_pI f_0_10, mk_gR f_1_0, mk_gI f_1_1, mk_pI f_1_1, mk_gR f_3_0, mk_gR f_3_1, mk_gR f_3_2, mk_gR f_3_3, mk_gR f_3_4, mk_gR f_3_5, mk_gR f_3_6, mk_gR f_3_7, ↓m_1, ↓m_2, i_0, i_1, i_2, i_3, i_4, i_6, i_5, i_12, i_11, i_10, i_9999, i_7, i_9, i_8, i_24, i_100, i_56, i_48, i_13, i_176, i_232, i_224, i_32, i_999, i_99, i_900, i_97, i_90, i_30, i_20, i_59, i_14, i_50, i_29, i_22, i_19, i_18, i_17, i_96, i_61, i_57, i_51, i_41, i_26, i_2552, i_255, i_25, i_23, i_21, i_16, i_15, i_122, i_10000, i_31, dzF, obs, b2_some, rz0, rz1, rzb, n01, n01', n10, n01e, nI_add, nI_mul, ↓reduceIte, not_false_eq_true, not_true_eq_false, ite_not, leF, CW_t h, R_104, A_105, e1, nI_l, lN_add]
    exact e
theorem C_broughtAlong {I : Nat → Nat → Int32} (hT : VT T) (h : WR I 3 T) {s : Nat} (hs : s < T 3) (hsh : ∀ a, a < T 2 → I (105 + a) s = nI (share T g a s)) : mX2_broughtAlong (mk n I J) 100 (nI s) = some (lN (T (56 + 12 * s + 9) + T (56 + 12 * s + 10) + shares T g s (T 2)), mk n I J) := by
  have b0 := hT.1
  have c1 := hT.le (56 + 12 * s + 9)
  have c2 := hT.le (56 + 12 * s + 10)
  have e := C_alongL (n := n) (J := J) hT h (x := T (56 + 12 * s + 9) + T (56 + 12 * s + 10)) hs hsh (T 2) 0 FU (by omega) (by unfold FU; omega)
  rw [shares, Nat.add_zero] at e
  unfold mX2_broughtAlong
  simp (disch := omega) only [mk_oO o_100, mk_gR f_100_0, mk_gR f_100_1, mk_gR f_100_2, mk_gI f_100_3, mk_pI f_100_3, mk_gR f_100_4, mk_gR f_100_5, mk_gR f_100_6, mk_gR f_100_7, mk_oO o_0, mk_oO o_1, mk_oO o_3, mk_gR f_0_0, mk_gR f_0_1, mk_gR f_0_2, mk_gR f_0_3, mk_gR f_0_4, mk_gR f_0_5, mk_gR f_0_6, mk_gR f_0_7, mk_gR f_0_8, mk_gR f_0_9, mk_gI f_0_10, mk_pI f_0_10, mk_gR f_1_0, mk_gI f_1_1, mk_pI f_1_1, mk_gR f_3_0, mk_gR f_3_1, mk_gR f_3_2, mk_gR f_3_3, mk_gR f_3_4, mk_gR f_3_5, mk_gR f_3_6, mk_gR f_3_7, ↓m_1, ↓m_2, i_0, i_1, i_2, i_3, i_4, i_6, i_5, i_12, i_11, i_10, i_9999, i_7, i_9, i_8, i_24, i_100, i_56, i_48, i_13, i_176, i_232, i_224, i_32, i_999, i_99, i_900, i_97, i_90, i_30, i_20, i_59, i_14, i_50, i_29, i_22, i_19, i_18, i_17, i_96, i_61, i_57, i_51, i_41, i_26, i_2552, i_255, i_25, i_23, i_21, i_16, i_15, i_122, i_10000, i_31, dzF, obs, b2_some, rz0, rz1, rzb, n01, n01', n10, n01e, nI_add, nI_mul, ↓reduceIte, not_false_eq_true, not_true_eq_false, ite_not, R_18, CW_s hT h, nI_l]
  exact e
/-- the rows of sales below t are laid -/
def LGt (T : Nat → Nat) (g t : Nat) (I : Nat → Nat → Int32) (J : Nat → Nat → Int64) : Prop :=
  (∀ s, s < t → I 102 s = nI (if btw T s then 1 else 0)) ∧ (∀ s, s < t → I 103 s = nI (lvl T s)) ∧ (∀ s, s < t → J 109 s = lN (own T g s)) ∧ ∀ s, s < t → I 110 s = pN (rsP T s)
def S37 (a c : Nat) : Prop := a = 102 ∨ a = 103 ∨ a = 110
theorem S37_SC (a c : Nat) (h : S37 a c) : SC a c := by unfold S37 at h; unfold SC; omega
theorem C_lookL37 (hT : VT T) : ∀ (k t fu : Nat) (I : Nat → Nat → Int32) (J : Nat → Nat → Int64), t + k = T 3 → k < fu → WR I 3 T → KB T I → (∀ a s, a < T 2 → s < T 3 → I (105 + a) s = nI (share T g a s)) → LGt T g t I J → ∃ I' J', mX2_look_L37 fu (mk n I J) 100 (nI t) = some (mk n I' J') ∧ Fx S37 I I' ∧ FJ SCJ J J' ∧ LGt T g (T 3) I' J' := by
  have b0 := hT.1
  intro k
  induction k with
  | zero =>
    intro t fu I J ht hf h hK hsh hl
    obtain ⟨fu, rfl⟩ : ∃ f, fu = f + 1 := ⟨fu - 1, by omega⟩
    refine ⟨I, J, ?_, Fx.refl I, FJ.refl J, by rw [show T 3 = t by omega]; exact hl⟩
    show mX2_look_b37 _ _ _ _ = _
    unfold mX2_look_b37
    simp (disch := omega) only [mk_oO o_100, mk_gR f_100_0, mk_gR f_100_1, mk_gR f_100_2, mk_gI f_100_3, mk_pI f_100_3, mk_gR f_100_4, mk_gR f_100_5, mk_gR f_100_6, mk_gR f_100_7, mk_oO o_0, mk_oO o_1, mk_oO o_3, mk_gR f_0_0, mk_gR f_0_1, mk_gR f_0_2, mk_gR f_0_3, mk_gR f_0_4, mk_gR f_0_5, mk_gR f_0_6, mk_gR f_0_7, mk_gR f_0_8, mk_gR f_0_9, mk_gI f_0_10, mk_pI f_0_10, mk_gR f_1_0, mk_gI f_1_1, mk_pI f_1_1, mk_gR f_3_0, mk_gR f_3_1, mk_gR f_3_2, mk_gR f_3_3, mk_gR f_3_4, mk_gR f_3_5, mk_gR f_3_6, mk_gR f_3_7, ↓m_1, ↓m_2, i_0, i_1, i_2, i_3, i_4, i_6, i_5, i_12, i_11, i_10, i_9999, i_7, i_9, i_8, i_24, i_100, i_56, i_48, i_13, i_176, i_232, i_224, i_32, i_999, i_99, i_900, i_97, i_90, i_30, i_20, i_59, i_14, i_50, i_29, i_22, i_19, i_18, i_17, i_96, i_61, i_57, i_51, i_41, i_26, i_2552, i_255, i_25, i_23, i_21, i_16, i_15, i_122, i_10000, i_31, dzF, obs, b2_some, rz0, rz1, rzb, n01, n01', n10, n01e, nI_add, nI_mul, ↓reduceIte, not_false_eq_true, not_true_eq_false, ite_not, leT, CW_t h]
  | succ k ih =>
    intro t fu I J ht hf h hK hsh hl
    obtain ⟨fu, rfl⟩ : ∃ f, fu = f + 1 := ⟨fu - 1, by omega⟩
    have ht3 : t < T 3 := by omega
    have fr : ∀ {I1 : Nat → Nat → Int32}, Fx S37 I I1 → WR I1 3 T ∧ KB T I1 ∧ (∀ a s, a < T 2 → s < T 3 → I1 (105 + a) s = nI (share T g a s)) := by
      intro I1 f1
      refine ⟨h.fc hT (f1.mono S37_SC), fun p hp => ?_, fun a s ha hs => ?_⟩
      · obtain ⟨m, m1, m2, m3⟩ := hK p hp
        exact ⟨m, m1, by rw [f1 _ _ (by unfold S37; omega)]; exact m2, m3⟩
      · rw [f1 _ _ (by unfold S37; omega)]; exact hsh a s ha hs
    have f1 : Fx S37 I (u2 I 102 t (nI (if btw T t then 1 else 0))) := Fx_u2 _ _ (by unfold S37; omega)
    have f2 : Fx S37 I (u2 (u2 I 102 t (nI (if btw T t then 1 else 0))) 103 t (nI (lvl T t))) := f1.trans (Fx_u2 _ _ (by unfold S37; omega))
    have f3 : Fx S37 I (u2 (u2 (u2 I 102 t (nI (if btw T t then 1 else 0))) 103 t (nI (lvl T t))) 110 t (pN (rsP T t))) := f2.trans (Fx_u2 _ _ (by unfold S37; omega))
    obtain ⟨w1, k1, s1⟩ := fr f1
    obtain ⟨w2, k2, s2⟩ := fr f2
    obtain ⟨w3, k3, s3⟩ := fr f3
    have c1 := hT.ss ht3
    have c2 := hT.sb ht3
    have e1 := C_areKin (n := n) (J := J) hT hK c1 (by omega : T (56 + 12 * t + 2) < 32)
    have e2 := C_levelOf (n := n) (J := J) hT w1 ht3
    have e3 := C_priced (n := n) (J := J) hT w2 ht3 (p := T (56 + 12 * t + 4)) (by have := hT.le (56 + 12 * t + 4); omega)
    have e4 := C_broughtAlong (n := n) (J := J) hT w2 ht3 (fun a ha => s2 a t ha ht3)
    have e5 := C_priceResold (n := n) (J := u2 J 109 t (lN (own T g t))) hT w2 ht3
    have ho : T (56 + 12 * t + 4) * T (56 + 12 * t + 3) + T (56 + 12 * t + 4) * T (56 + 12 * t + 3) * T (56 + 12 * t + 7) / 100 + T (56 + 12 * t + 8) + (T (56 + 12 * t + 9) + T (56 + 12 * t + 10) + shares T g t (T 2)) = own T g t := by
      unfold own ownAt; omega
    obtain ⟨I', J', e, q1, q2, q3⟩ := ih (t + 1) fu (u2 (u2 (u2 I 102 t (nI (if btw T t then 1 else 0))) 103 t (nI (lvl T t))) 110 t (pN (rsP T t))) (u2 J 109 t (lN (own T g t))) (by omega) (by omega) w3 k3 s3 ⟨fun s hs => by
        rw [u2_no _ _ (by omega), u2_no _ _ (by omega)]
        by_cases hst : s = t
        · subst hst; rw [u2_at]
        · rw [u2_no _ _ (by omega)]; exact hl.1 s (by omega), fun s hs => by
        rw [u2_no _ _ (by omega)]
        by_cases hst : s = t
        · subst hst; rw [u2_at]
        · rw [u2_no _ _ (by omega), u2_no _ _ (by omega)]; exact hl.2.1 s (by omega), fun s hs => by
        by_cases hst : s = t
        · subst hst; rw [u2_at]
        · rw [u2_no _ _ (by omega)]; exact hl.2.2.1 s (by omega), fun s hs => by
        by_cases hst : s = t
        · subst hst; rw [u2_at]
        · rw [u2_no _ _ (by omega), u2_no _ _ (by omega), u2_no _ _ (by omega)]; exact hl.2.2.2 s (by omega)⟩
    refine ⟨I', J', ?_, f3.trans q1, FJ.trans (FJ_u2 _ _ (by unfold SCJ; omega)) q2, q3⟩
    show mX2_look_b37 _ _ _ _ = _
    unfold mX2_look_b37
    simp (disch := omega) only [mk_oO o_100, mk_gR f_100_0, mk_gR f_100_1, mk_gR f_100_2, mk_gI f_100_3, mk_pI f_100_3, mk_gR f_100_4, mk_gR f_100_5, mk_gR f_100_6, mk_gR f_100_7, mk_oO o_0, mk_oO o_1, mk_oO o_3, mk_gR f_0_0, mk_gR f_0_1, mk_gR f_0_2, mk_gR f_0_3, mk_gR f_0_4, mk_gR f_0_5, mk_gR f_0_6, mk_gR f_0_7, mk_gR f_0_8, mk_gR f_0_9, mk_gI f_0_10, mk_pI f_0_10, mk_gR f_1_0, mk_gI f_1_1, mk_pI f_1_1, mk_gR f_3_0, mk_gR f_3_1, mk_gR f_3_2, mk_gR f_3_3, mk_gR f_3_4, mk_gR f_3_5, mk_gR f_3_6, mk_gR f_3_7, ↓m_1, ↓m_2, i_0, i_1, i_2, i_3, i_4, i_6, i_5, i_12, i_11, i_10, i_9999, i_7, i_9, i_8, i_24, i_100, i_56, i_48, i_13, i_176, i_232, i_224, i_32, i_999, i_99, i_900, i_97, i_90, i_30, i_20, i_59, i_14, i_50, i_29, i_22, i_19, i_18, i_17, i_96, i_61, i_57, i_51, i_41, i_26, i_2552, i_255, i_25, i_23, i_21, i_16, i_15, i_122, i_10000, i_31, dzF, obs, b2_some, rz0, rz1, rzb, n01, n01', n10, n01e, nI_add, nI_mul, ↓reduceIte, not_false_eq_true, not_true_eq_false, ite_not, leF, CW_t h, R_18, CW_s hT h, e1, mk_sBn a_102, narB, e2, mk_sIn a_103, CW_s hT w2, e3, e4, nI_l (hT.l31 _), lN_add, ho, mk_sLn a_109, e5, mk_sIn a_110]
    exact e
theorem C_lookL11 (hT : VT T) : ∀ (k t fu : Nat) (I : Nat → Nat → Int32), t + k = T 2 → k < fu → WR I 3 T → I 100 3 = goN g → KB T I → (∀ a s, a < t → s < T 3 → I (105 + a) s = nI (share T g a s)) → ∃ I' J', mX2_look_L11 fu (mk n I J) 100 (nI t) = some (mk n I' J') ∧ Fx SC I I' ∧ FJ SCJ J J' ∧ LG T g I' J' := by
  have b0 := hT.1
  intro k
  induction k with
  | zero =>
    intro t fu I ht hf h hg hK hsh
    obtain ⟨fu, rfl⟩ : ∃ f, fu = f + 1 := ⟨fu - 1, by omega⟩
    have ht2 : t = T 2 := by omega
    subst ht2
    obtain ⟨I', J', e, q1, q2, q3⟩ := C_lookL37 (n := n) hT (T 3) 0 FU I J (by omega) (by unfold FU; omega) h hK hsh ⟨fun s hs => absurd hs (Nat.not_lt_zero _), fun s hs => absurd hs (Nat.not_lt_zero _), fun s hs => absurd hs (Nat.not_lt_zero _), fun s hs => absurd hs (Nat.not_lt_zero _)⟩
    refine ⟨I', J', ?_, q1.mono S37_SC, q2, by rw [q1 _ _ (by unfold S37; omega)]; exact hg, fun p hp => ?_, q3.1, q3.2.1, fun a s ha hs => ?_, q3.2.2.1, q3.2.2.2⟩
    · show mX2_look_b11 _ _ _ _ = _
      unfold mX2_look_b11
      simp (disch := omega) only [mk_oO o_100, mk_gR f_100_0, mk_gR f_100_1, mk_gR f_100_2, mk_gI f_100_3, mk_pI f_100_3, mk_gR f_100_4, mk_gR f_100_5, mk_gR f_100_6, mk_gR f_100_7, mk_oO o_0, mk_oO o_1, mk_oO o_3, mk_gR f_0_0, mk_gR f_0_1, mk_gR f_0_2, mk_gR f_0_3, mk_gR f_0_4, mk_gR f_0_5, mk_gR f_0_6, mk_gR f_0_7, mk_gR f_0_8, mk_gR f_0_9, mk_gI f_0_10, mk_pI f_0_10, mk_gR f_1_0, mk_gI f_1_1, mk_pI f_1_1, mk_gR f_3_0, mk_gR f_3_1, mk_gR f_3_2, mk_gR f_3_3, mk_gR f_3_4, mk_gR f_3_5, mk_gR f_3_6, mk_gR f_3_7, ↓m_1, ↓m_2, i_0, i_1, i_2, i_3, i_4, i_6, i_5, i_12, i_11, i_10, i_9999, i_7, i_9, i_8, i_24, i_100, i_56, i_48, i_13, i_176, i_232, i_224, i_32, i_999, i_99, i_900, i_97, i_90, i_30, i_20, i_59, i_14, i_50, i_29, i_22, i_19, i_18, i_17, i_96, i_61, i_57, i_51, i_41, i_26, i_2552, i_255, i_25, i_23, i_21, i_16, i_15, i_122, i_10000, i_31, dzF, obs, b2_some, rz0, rz1, rzb, n01, n01', n10, n01e, nI_add, nI_mul, ↓reduceIte, not_false_eq_true, not_true_eq_false, ite_not, leT, CW_t h]
      exact e
    · obtain ⟨m, m1, m2, m3⟩ := hK p hp
      exact ⟨m, m1, by rw [q1 _ _ (by unfold S37; omega)]; exact m2, m3⟩
    · rw [q1 _ _ (by unfold S37; omega)]; exact hsh a s ha hs
  | succ k ih =>
    intro t fu I ht hf h hg hK hsh
    obtain ⟨fu, rfl⟩ : ∃ f, fu = f + 1 := ⟨fu - 1, by omega⟩
    obtain ⟨I1, e1, f1, p1⟩ := C_shareOut (n := n) (J := J) (g := g) hT h hg (by omega : t < T 2)
    obtain ⟨I', J', e, q1, q2, q3⟩ := ih (t + 1) fu I1 (by omega) (by omega) (h.fc hT (f1.sc (by omega))) (by rw [f1 _ _ (by omega)]; exact hg) (fun p hp => by
      obtain ⟨m, m1, m2, m3⟩ := hK p hp
      exact ⟨m, m1, by rw [f1 _ _ (by omega)]; exact m2, m3⟩) (fun a s ha hs => by
      by_cases hat : a = t
      · subst hat; exact p1 s hs
      · rw [f1 _ _ (by omega)]; exact hsh a s (by omega) hs)
    refine ⟨I', J', ?_, (f1.sc (by omega)).trans q1, q2, q3⟩
    show mX2_look_b11 _ _ _ _ = _
    unfold mX2_look_b11
    simp (disch := omega) only [mk_oO o_100, mk_gR f_100_0, mk_gR f_100_1, mk_gR f_100_2, mk_gI f_100_3, mk_pI f_100_3, mk_gR f_100_4, mk_gR f_100_5, mk_gR f_100_6, mk_gR f_100_7, mk_oO o_0, mk_oO o_1, mk_oO o_3, mk_gR f_0_0, mk_gR f_0_1, mk_gR f_0_2, mk_gR f_0_3, mk_gR f_0_4, mk_gR f_0_5, mk_gR f_0_6, mk_gR f_0_7, mk_gR f_0_8, mk_gR f_0_9, mk_gI f_0_10, mk_pI f_0_10, mk_gR f_1_0, mk_gI f_1_1, mk_pI f_1_1, mk_gR f_3_0, mk_gR f_3_1, mk_gR f_3_2, mk_gR f_3_3, mk_gR f_3_4, mk_gR f_3_5, mk_gR f_3_6, mk_gR f_3_7, ↓m_1, ↓m_2, i_0, i_1, i_2, i_3, i_4, i_6, i_5, i_12, i_11, i_10, i_9999, i_7, i_9, i_8, i_24, i_100, i_56, i_48, i_13, i_176, i_232, i_224, i_32, i_999, i_99, i_900, i_97, i_90, i_30, i_20, i_59, i_14, i_50, i_29, i_22, i_19, i_18, i_17, i_96, i_61, i_57, i_51, i_41, i_26, i_2552, i_255, i_25, i_23, i_21, i_16, i_15, i_122, i_10000, i_31, dzF, obs, b2_some, rz0, rz1, rzb, n01, n01', n10, n01e, nI_add, nI_mul, ↓reduceIte, not_false_eq_true, not_true_eq_false, ite_not, leF, CW_t h, e1]
    exact e
theorem C_look {I : Nat → Nat → Int32} (hT : VT T) (h : WR I 3 T) : ∃ I' J', mX2_look (mk n I J) 100 (goN g) = some (mk n I' J') ∧ Fx SC I I' ∧ FJ SCJ J J' ∧ LG T g I' J' := by
  have b0 := hT.1
  have f0 : Fx SC I (u2 I 100 3 (goN g)) := Fx_u2 _ _ (by unfold SC; omega)
  obtain ⟨I1, e1, f1, k1⟩ := C_closeKin (n := n) (J := J) hT (h.fc hT f0)
  have hg1 : I1 100 3 = goN g := by rw [f1 _ _ (by unfold S101; omega), u2_at]
  obtain ⟨I', J', e, q1, q2, q3⟩ := C_lookL11 (n := n) (J := J) (g := g) hT (T 2) 0 FU I1 (by omega) (by unfold FU; omega) (h.fc hT (f0.trans (f1.mono S101_SC))) hg1 k1 (fun a s ha => absurd ha (Nat.not_lt_zero _))
  refine ⟨I', J', ?_, (f0.trans (f1.mono S101_SC)).trans q1, q2, q3⟩
  unfold mX2_look
  simp (disch := omega) only [mk_oO o_100, mk_gR f_100_0, mk_gR f_100_1, mk_gR f_100_2, mk_gI f_100_3, mk_pI f_100_3, mk_gR f_100_4, mk_gR f_100_5, mk_gR f_100_6, mk_gR f_100_7, ↓m_1, ↓m_2, i_0, i_1, i_2, i_3, i_4, i_6, i_5, i_12, i_11, i_10, i_9999, i_7, i_9, i_8, i_24, i_100, i_56, i_48, i_13, i_176, i_232, i_224, i_32, i_999, i_99, i_900, i_97, i_90, i_30, i_20, i_59, i_14, i_50, i_29, i_22, i_19, i_18, i_17, i_96, i_61, i_57, i_51, i_41, i_26, i_2552, i_255, i_25, i_23, i_21, i_16, i_15, i_122, i_10000, i_31, dzF, obs, b2_some, rz0, rz1, rzb, n01, n01', n10, n01e, nI_add, nI_mul, ↓reduceIte, not_false_eq_true, not_true_eq_false, ite_not, e1]
  exact e
end LK
