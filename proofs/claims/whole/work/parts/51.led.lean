/-! ===== 51: the ledger: kin, levels, what was resold ===== -/
def SC (a c : Nat) : Prop := 100 ≤ a ∧ a ≤ 117
theorem WR.fc {T : Nat → Nat} {I I' : Nat → Nat → Int32} (h : WR I 3 T) (hT : VT T) (hf : Fx SC I I') : WR I' 3 T := h.scr hT (fun a c h1 h2 => hf a c (by unfold SC; omega))
def S101 (a c : Nat) : Prop := a = 101
theorem S101_SC (a c : Nat) (h : S101 a c) : SC a c := by unfold S101 at h; unfold SC; omega
/-- kin, as the ledger's bits tell it -/
def KB (T : Nat → Nat) (I : Nat → Nat → Int32) : Prop := ∀ p, p < T 0 → ∃ m, m < 64 ∧ I 101 p = nI m ∧ ∀ q, m.testBit q = true ↔ akin T p q
/-- rows that method 4 may look at -/
def rwB (T : Nat → Nat) (s how : Nat) : Nat → Nat
  | 0 => 0
  | r + 1 => if rowF T s r how then rwB T s how r ||| 2 ^ r else rwB T s how r
section LE
variable {n g : Nat} {J : Nat → Nat → Int64} {T : Nat → Nat}
theorem C_kin51 (hT : VT T) {b : Nat} (hb : b < T 0) {B : Nat → Nat} (hB : ∀ p, p < T 0 → B p < 64) (r44 : PH → Nat → Int32 → Int32 → Option (PH)) : ∀ (k t fu : Nat) (I : Nat → Nat → Int32), t + k = T 0 → k < fu → (∀ p, p < T 0 → I 101 p = nI (if p < t then wP (T 0) b B p else B p)) → ∃ I', mX2_closeKin_L51 r44 fu (mk n I J) 100 (nI (T 0)) (nI b) (nI t) = r44 (mk n I' J) 100 (nI (T 0)) (nI (b + 1)) ∧ Fx S101 I I' ∧ ∀ p, p < T 0 → I' 101 p = nI (wP (T 0) b B p) := by
  have b0 := hT.1
  have hbb : ∀ t, (if b < t then wP (T 0) b B b else B b) = B b := by
    intro t
    split
    · unfold wP
      split
      · exact Nat.or_self _
      · rfl
    · rfl
  intro k
  induction k with
  | zero =>
    intro t fu I ht hf h
    obtain ⟨fu, rfl⟩ : ∃ f, fu = f + 1 := ⟨fu - 1, by omega⟩
    refine ⟨I, ?_, Fx.refl I, fun p hp => by rw [h p hp, if_pos (by omega)]⟩
    show mX2_closeKin_b51 _ _ _ _ _ _ _ = _
    unfold mX2_closeKin_b51
    simp (disch := omega) only [↓m_1, ↓m_2, i_0, i_1, i_2, i_3, i_4, i_6, i_5, i_12, i_11, i_10, i_9999, i_7, i_9, i_8, i_24, i_100, i_56, i_48, i_13, i_176, i_232, i_224, i_32, i_999, i_99, i_900, i_97, i_90, i_30, i_20, i_59, i_14, i_50, i_29, i_22, i_19, i_18, i_17, i_96, i_61, i_57, i_51, i_41, i_26, i_2552, i_255, i_25, i_23, i_21, i_16, i_15, i_122, i_10000, i_31, dzF, obs, b2_some, rz0, rz1, rzb, n01, n01', n10, n01e, nI_add, nI_mul, ↓reduceIte, not_false_eq_true, not_true_eq_false, ite_not, leT]
  | succ k ih =>
    intro t fu I ht hf h
    obtain ⟨fu, rfl⟩ : ∃ f, fu = f + 1 := ⟨fu - 1, by omega⟩
    have ht0 : t < T 0 := by omega
    have e1 : I 101 t = nI (B t) := by rw [h t ht0, if_neg (by omega)]
    have e2 : I 101 b = nI (B b) := by rw [h b hb, hbb]
    have l1 := hB t ht0
    by_cases hc : (B t).testBit b = true
    · have hw : wP (T 0) b B t = B t ||| B b := if_pos ⟨ht0, hc⟩
      obtain ⟨I', e, f, p⟩ := ih (t + 1) fu (u2 I 101 t (nI (B t ||| B b))) (by omega) (by omega) (fun p hp => by
        by_cases hpt : p = t
        · subst hpt; rw [u2_at, if_pos (by omega), hw]
        · rw [u2_no _ _ (by omega), h p hp]
          by_cases h1 : p < t
          · rw [if_pos h1, if_pos (by omega)]
          · rw [if_neg h1, if_neg (by omega)])
      refine ⟨I', ?_, Fx.trans (Fx_u2 _ _ rfl) f, p⟩
      show mX2_closeKin_b51 _ _ _ _ _ _ _ = _
      unfold mX2_closeKin_b51 mX2_areKin
      simp (disch := omega) only [mk_oO o_100, mk_gR f_100_0, mk_gR f_100_1, mk_gR f_100_2, mk_gI f_100_3, mk_pI f_100_3, mk_gR f_100_4, mk_gR f_100_5, mk_gR f_100_6, mk_gR f_100_7, ↓m_1, ↓m_2, i_0, i_1, i_2, i_3, i_4, i_6, i_5, i_12, i_11, i_10, i_9999, i_7, i_9, i_8, i_24, i_100, i_56, i_48, i_13, i_176, i_232, i_224, i_32, i_999, i_99, i_900, i_97, i_90, i_30, i_20, i_59, i_14, i_50, i_29, i_22, i_19, i_18, i_17, i_96, i_61, i_57, i_51, i_41, i_26, i_2552, i_255, i_25, i_23, i_21, i_16, i_15, i_122, i_10000, i_31, dzF, obs, b2_some, rz0, rz1, rzb, n01, n01', n10, n01e, nI_add, nI_mul, ↓reduceIte, not_false_eq_true, not_true_eq_false, ite_not, leF, mk_aIn a_101, e1, e2, nI_and, nI_bit2, if_pos hc, mk_sIn a_101, nI_or]
      exact e
    · have hw : wP (T 0) b B t = B t := if_neg (fun z => hc z.2)
      obtain ⟨I', e, f, p⟩ := ih (t + 1) fu I (by omega) (by omega) (fun p hp => by
        rw [h p hp]
        by_cases h1 : p < t
        · rw [if_pos h1, if_pos (by omega)]
        · rw [if_neg h1]
          by_cases h2 : p = t
          · subst h2; rw [if_pos (by omega), hw]
          · rw [if_neg (by omega)])
      refine ⟨I', ?_, f, p⟩
      show mX2_closeKin_b51 _ _ _ _ _ _ _ = _
      unfold mX2_closeKin_b51 mX2_areKin
      simp (disch := omega) only [mk_oO o_100, mk_gR f_100_0, mk_gR f_100_1, mk_gR f_100_2, mk_gI f_100_3, mk_pI f_100_3, mk_gR f_100_4, mk_gR f_100_5, mk_gR f_100_6, mk_gR f_100_7, ↓m_1, ↓m_2, i_0, i_1, i_2, i_3, i_4, i_6, i_5, i_12, i_11, i_10, i_9999, i_7, i_9, i_8, i_24, i_100, i_56, i_48, i_13, i_176, i_232, i_224, i_32, i_999, i_99, i_900, i_97, i_90, i_30, i_20, i_59, i_14, i_50, i_29, i_22, i_19, i_18, i_17, i_96, i_61, i_57, i_51, i_41, i_26, i_2552, i_255, i_25, i_23, i_21, i_16, i_15, i_122, i_10000, i_31, dzF, obs, b2_some, rz0, rz1, rzb, n01, n01', n10, n01e, nI_add, nI_mul, ↓reduceIte, not_false_eq_true, not_true_eq_false, ite_not, leF, mk_aIn a_101, e1, e2, nI_and, nI_bit2, if_neg hc]
      exact e
theorem wP_lt {N b : Nat} {B : Nat → Nat} (hb : b < N) (hB : ∀ p, p < N → B p < 64) : ∀ p, p < N → wP N b B p < 64 := by
  intro p hp
  unfold wP
  split
  · exact Nat.or_lt_two_pow (n := 6) (hB p hp) (hB b hb)
  · exact hB p hp
theorem wB_lt {N : Nat} {B : Nat → Nat} (hB : ∀ p, p < N → B p < 64) : ∀ b, b ≤ N → ∀ p, p < N → wB N B b p < 64
  | 0, _ => hB
  | b + 1, hb => wP_lt (by omega) (wB_lt hB b (by omega))
theorem C_kin44 (hT : VT T) {B : Nat → Nat} (hB : ∀ p, p < T 0 → B p < 64) : ∀ (k t fu : Nat) (I : Nat → Nat → Int32), t + k = T 0 → k < fu → (∀ p, p < T 0 → I 101 p = nI (wB (T 0) B t p)) → ∃ I', mX2_closeKin_L44 fu (mk n I J) 100 (nI (T 0)) (nI t) = some (mk n I' J) ∧ Fx S101 I I' ∧ ∀ p, p < T 0 → I' 101 p = nI (wB (T 0) B (T 0) p) := by
  have b0 := hT.1
  intro k
  induction k with
  | zero =>
    intro t fu I ht hf h
    obtain ⟨fu, rfl⟩ : ∃ f, fu = f + 1 := ⟨fu - 1, by omega⟩
    refine ⟨I, ?_, Fx.refl I, fun p hp => by rw [h p hp, show t = T 0 by omega]⟩
    show mX2_closeKin_b44 _ _ _ _ _ = _
    unfold mX2_closeKin_b44
    simp (disch := omega) only [↓m_1, ↓m_2, i_0, i_1, i_2, i_3, i_4, i_6, i_5, i_12, i_11, i_10, i_9999, i_7, i_9, i_8, i_24, i_100, i_56, i_48, i_13, i_176, i_232, i_224, i_32, i_999, i_99, i_900, i_97, i_90, i_30, i_20, i_59, i_14, i_50, i_29, i_22, i_19, i_18, i_17, i_96, i_61, i_57, i_51, i_41, i_26, i_2552, i_255, i_25, i_23, i_21, i_16, i_15, i_122, i_10000, i_31, dzF, obs, b2_some, rz0, rz1, rzb, n01, n01', n10, n01e, nI_add, nI_mul, ↓reduceIte, not_false_eq_true, not_true_eq_false, ite_not, leT]
  | succ k ih =>
    intro t fu I ht hf h
    obtain ⟨fu, rfl⟩ : ∃ f, fu = f + 1 := ⟨fu - 1, by omega⟩
    obtain ⟨I1, e1, f1, p1⟩ := C_kin51 (n := n) (J := J) hT (b := t) (by omega) (wB_lt hB t (by omega)) (mX2_closeKin_L44 fu) (T 0) 0 FU I (by omega) (by unfold FU; omega) (fun p hp => by rw [if_neg (by omega)]; exact h p hp)
    obtain ⟨I2, e2, f2, p2⟩ := ih (t + 1) fu I1 (by omega) (by omega) p1
    refine ⟨I2, ?_, f1.trans f2, p2⟩
    show mX2_closeKin_b44 _ _ _ _ _ = _
    unfold mX2_closeKin_b44
    simp (disch := omega) only [↓m_1, ↓m_2, i_0, i_1, i_2, i_3, i_4, i_6, i_5, i_12, i_11, i_10, i_9999, i_7, i_9, i_8, i_24, i_100, i_56, i_48, i_13, i_176, i_232, i_224, i_32, i_999, i_99, i_900, i_97, i_90, i_30, i_20, i_59, i_14, i_50, i_29, i_22, i_19, i_18, i_17, i_96, i_61, i_57, i_51, i_41, i_26, i_2552, i_255, i_25, i_23, i_21, i_16, i_15, i_122, i_10000, i_31, leF, ↓reduceIte]
    exact e1.trans e2
theorem C_kin12 (hT : VT T) {m : Nat → Nat} (hm : ∀ p, p < T 0 → m p < 64) : ∀ (k t fu : Nat) (I : Nat → Nat → Int32), t + k = T 0 → k < fu → (∀ p, p < T 0 → I 5 p = nI (m p)) → (∀ p, p < t → I 101 p = nI (m p ||| 2 ^ p)) → ∃ I', mX2_closeKin_L12 fu (mk n I J) 100 (nI (T 0)) (nI t) = some (mk n I' J) ∧ Fx S101 I I' ∧ ∀ p, p < T 0 → I' 101 p = nI (wB (T 0) (fun p => m p ||| 2 ^ p) (T 0) p) := by
  have b0 := hT.1
  intro k
  induction k with
  | zero =>
    intro t fu I ht hf h h'
    obtain ⟨fu, rfl⟩ : ∃ f, fu = f + 1 := ⟨fu - 1, by omega⟩
    obtain ⟨I1, e1, f1, p1⟩ := C_kin44 (n := n) (J := J) hT (B := fun p => m p ||| 2 ^ p) (fun p hp => Nat.or_lt_two_pow (n := 6) (hm p hp) (p2_lt (by omega))) (T 0) 0 FU I (by omega) (by unfold FU; omega) (fun p hp => h' p (by omega))
    refine ⟨I1, ?_, f1, p1⟩
    show mX2_closeKin_b12 _ _ _ _ _ = _
    unfold mX2_closeKin_b12
    simp (disch := omega) only [↓m_1, ↓m_2, i_0, i_1, i_2, i_3, i_4, i_6, i_5, i_12, i_11, i_10, i_9999, i_7, i_9, i_8, i_24, i_100, i_56, i_48, i_13, i_176, i_232, i_224, i_32, i_999, i_99, i_900, i_97, i_90, i_30, i_20, i_59, i_14, i_50, i_29, i_22, i_19, i_18, i_17, i_96, i_61, i_57, i_51, i_41, i_26, i_2552, i_255, i_25, i_23, i_21, i_16, i_15, i_122, i_10000, i_31, leT, ↓reduceIte]
    exact e1
  | succ k ih =>
    intro t fu I ht hf h h'
    obtain ⟨fu, rfl⟩ : ∃ f, fu = f + 1 := ⟨fu - 1, by omega⟩
    have e5 := h t (by omega)
    obtain ⟨I1, e1, f1, p1⟩ := ih (t + 1) fu (u2 I 101 t (nI (m t ||| 2 ^ t))) (by omega) (by omega) (fun p hp => by rw [u2_no _ _ (by omega)]; exact h p hp) (fun p hp => by
      by_cases hpt : p = t
      · subst hpt; rw [u2_at]
      · rw [u2_no _ _ (by omega)]; exact h' p (by omega))
    refine ⟨I1, ?_, Fx.trans (Fx_u2 _ _ rfl) f1, p1⟩
    show mX2_closeKin_b12 _ _ _ _ _ = _
    unfold mX2_closeKin_b12
    simp (disch := omega) only [mk_oO o_100, mk_gR f_100_0, mk_gR f_100_1, mk_gR f_100_2, mk_gI f_100_3, mk_pI f_100_3, mk_gR f_100_4, mk_gR f_100_5, mk_gR f_100_6, mk_gR f_100_7, mk_oO o_0, mk_oO o_1, mk_oO o_3, mk_gR f_0_0, mk_gR f_0_1, mk_gR f_0_2, mk_gR f_0_3, mk_gR f_0_4, mk_gR f_0_5, mk_gR f_0_6, mk_gR f_0_7, mk_gR f_0_8, mk_gR f_0_9, mk_gI f_0_10, mk_pI f_0_10, mk_gR f_1_0, mk_gI f_1_1, mk_pI f_1_1, mk_gR f_3_0, mk_gR f_3_1, mk_gR f_3_2, mk_gR f_3_3, mk_gR f_3_4, mk_gR f_3_5, mk_gR f_3_6, mk_gR f_3_7, ↓m_1, ↓m_2, i_0, i_1, i_2, i_3, i_4, i_6, i_5, i_12, i_11, i_10, i_9999, i_7, i_9, i_8, i_24, i_100, i_56, i_48, i_13, i_176, i_232, i_224, i_32, i_999, i_99, i_900, i_97, i_90, i_30, i_20, i_59, i_14, i_50, i_29, i_22, i_19, i_18, i_17, i_96, i_61, i_57, i_51, i_41, i_26, i_2552, i_255, i_25, i_23, i_21, i_16, i_15, i_122, i_10000, i_31, dzF, obs, b2_some, rz0, rz1, rzb, n01, n01', n10, n01e, nI_add, nI_mul, ↓reduceIte, not_false_eq_true, not_true_eq_false, ite_not, leF, mk_aIn a_5, e5, nI_and, nI_one_shl2, nI_or, mk_sIn a_101]
    exact e1
theorem C_closeKin {I : Nat → Nat → Int32} (hT : VT T) (hW : WR I 3 T) : ∃ I', mX2_closeKin (mk n I J) 100 = some (mk n I' J) ∧ Fx S101 I I' ∧ KB T I' := by
  have b0 := hT.1
  have h8 := hW.2.2.2.2.2.2.2
  obtain ⟨m, hm⟩ : ∃ m : Nat → Nat, ∀ p, p < 6 → m p < 64 ∧ I 5 p = nI (m p) ∧ ∀ q, q < 6 → ((m p).testBit q = true ↔ told T p q) := by
    refine ⟨fun p => if h : p < 6 then Classical.choose (h8 p h) else 0, fun p hp => ?_⟩
    simp only [dif_pos hp]
    exact Classical.choose_spec (h8 p hp)
  obtain ⟨I1, e1, f1, p1⟩ := C_kin12 (n := n) (J := J) hT (m := m) (fun p hp => (hm p (by omega)).1) (T 0) 0 FU I (by omega) (by unfold FU; omega) (fun p hp => (hm p (by omega)).2.1) (fun p hp => absurd hp (Nat.not_lt_zero _))
  refine ⟨I1, ?_, f1, fun p hp => ⟨_, wB_lt (fun p hp => Nat.or_lt_two_pow (n := 6) (hm p (by omega)).1 (p2_lt (by omega))) (T 0) (Nat.le_refl _) p hp, p1 p hp, fun q => ?_⟩⟩
  · unfold mX2_closeKin
    simp (disch := omega) only [mk_oO o_100, mk_gR f_100_0, mk_gR f_100_1, mk_gR f_100_2, mk_gI f_100_3, mk_pI f_100_3, mk_gR f_100_4, mk_gR f_100_5, mk_gR f_100_6, mk_gR f_100_7, mk_oO o_0, mk_oO o_1, mk_oO o_3, mk_gR f_0_0, mk_gR f_0_1, mk_gR f_0_2, mk_gR f_0_3, mk_gR f_0_4, mk_gR f_0_5, mk_gR f_0_6, mk_gR f_0_7, mk_gR f_0_8, mk_gR f_0_9, mk_gI f_0_10, mk_pI f_0_10, mk_gR f_1_0, mk_gI f_1_1, mk_pI f_1_1, mk_gR f_3_0, mk_gR f_3_1, mk_gR f_3_2, mk_gR f_3_3, mk_gR f_3_4, mk_gR f_3_5, mk_gR f_3_6, mk_gR f_3_7, ↓m_1, ↓m_2, i_0, i_1, i_2, i_3, i_4, i_6, i_5, i_12, i_11, i_10, i_9999, i_7, i_9, i_8, i_24, i_100, i_56, i_48, i_13, i_176, i_232, i_224, i_32, i_999, i_99, i_900, i_97, i_90, i_30, i_20, i_59, i_14, i_50, i_29, i_22, i_19, i_18, i_17, i_96, i_61, i_57, i_51, i_41, i_26, i_2552, i_255, i_25, i_23, i_21, i_16, i_15, i_122, i_10000, i_31, dzF, obs, b2_some, rz0, rz1, rzb, n01, n01', n10, n01e, nI_add, nI_mul, ↓reduceIte, not_false_eq_true, not_true_eq_false, ite_not, CW_t hW]
    exact e1
  · rw [akin_conn hT (by omega)]
    refine wB_conn hT (fun p q hp => ?_) hp
    rw [Nat.testBit_or, Bool.or_eq_true, tb_2p, decide_eq_true_eq]
    by_cases hq : q < 6
    · rw [(hm p (by omega)).2.2 q hq]
      constructor
      · rintro (z | z); exact Or.inl z; exact Or.inr z.symm
      · rintro (z | z); exact Or.inl z; exact Or.inr z.symm
    · have hp2 : 2 ^ 6 ≤ 2 ^ q := Nat.pow_le_pow_right (by decide) (by omega)
      rw [Nat.testBit_lt_two_pow (Nat.lt_of_lt_of_le (hm p (by omega)).1 hp2)]
      constructor
      · rintro (z | z); exact absurd z (by decide); exact Or.inr z.symm
      · rintro (z | z)
        · have := (told_lt hT z).2; omega
        · exact Or.inr z.symm
theorem C_areKin {I : Nat → Nat → Int32} (hT : VT T) (hK : KB T I) {p q : Nat} (hp : p < T 0) (hq : q < 32) : mX2_areKin (mk n I J) 100 (nI p) (nI q) = some (nI (if akin T p q then 1 else 0), mk n I J) := by
  have b0 := hT.1
  obtain ⟨m, m1, m2, m3⟩ := hK p hp
  unfold mX2_areKin
  simp (disch := omega) only [mk_oO o_100, mk_gR f_100_0, mk_gR f_100_1, mk_gR f_100_2, mk_gI f_100_3, mk_pI f_100_3, mk_gR f_100_4, mk_gR f_100_5, mk_gR f_100_6, mk_gR f_100_7, ↓m_1, ↓m_2, i_0, i_1, i_2, i_3, i_4, i_6, i_5, i_12, i_11, i_10, i_9999, i_7, i_9, i_8, i_24, i_100, i_56, i_48, i_13, i_176, i_232, i_224, i_32, i_999, i_99, i_900, i_97, i_90, i_30, i_20, i_59, i_14, i_50, i_29, i_22, i_19, i_18, i_17, i_96, i_61, i_57, i_51, i_41, i_26, i_2552, i_255, i_25, i_23, i_21, i_16, i_15, i_122, i_10000, i_31, dzF, obs, b2_some, rz0, rz1, rzb, n01, n01', n10, n01e, nI_add, nI_mul, ↓reduceIte, not_false_eq_true, not_true_eq_false, ite_not, mk_aIn a_101, m2, nI_and, nI_bit2]
  by_cases hc : akin T p q
  · rw [if_pos ((m3 q).mpr hc), if_pos hc]
  · rw [if_neg (fun z => hc ((m3 q).mp z)), if_neg hc]
variable {I : Nat → Nat → Int32}
theorem C_levelL (hT : VT T) (h : WR I 3 T) {s : Nat} (hs : s < T 3) : ∀ (k t fu : Nat), t + k = T 5 → k < fu → mX8_levelOf_L4 fu (mk n I J) 3 (nI s) (nI (lvN T (T (56 + 12 * s + 3)) t)) (nI t) = some (nI (lvl T s), mk n I J) := by
  have b0 := hT.1
  intro k
  induction k with
  | zero =>
    intro t fu ht hf
    obtain ⟨fu, rfl⟩ : ∃ f, fu = f + 1 := ⟨fu - 1, by omega⟩
    show mX8_levelOf_b4 _ _ _ _ _ _ = _
    unfold mX8_levelOf_b4
    simp (disch := omega) only [mk_oO o_0, mk_oO o_1, mk_oO o_3, mk_gR f_0_0, mk_gR f_0_1, mk_gR f_0_2, mk_gR f_0_3, mk_gR f_0_4, mk_gR f_0_5, mk_gR f_0_6, mk_gR f_0_7, mk_gR f_0_8, mk_gR f_0_9, mk_gI f_0_10, mk_pI f_0_10, mk_gR f_1_0, mk_gI f_1_1, mk_pI f_1_1, mk_gR f_3_0, mk_gR f_3_1, mk_gR f_3_2, mk_gR f_3_3, mk_gR f_3_4, mk_gR f_3_5, mk_gR f_3_6, mk_gR f_3_7, ↓m_1, ↓m_2, i_0, i_1, i_2, i_3, i_4, i_6, i_5, i_12, i_11, i_10, i_9999, i_7, i_9, i_8, i_24, i_100, i_56, i_48, i_13, i_176, i_232, i_224, i_32, i_999, i_99, i_900, i_97, i_90, i_30, i_20, i_59, i_14, i_50, i_29, i_22, i_19, i_18, i_17, i_96, i_61, i_57, i_51, i_41, i_26, i_2552, i_255, i_25, i_23, i_21, i_16, i_15, i_122, i_10000, i_31, dzF, obs, b2_some, rz0, rz1, rzb, n01, n01', n10, n01e, nI_add, nI_mul, ↓reduceIte, not_false_eq_true, not_true_eq_false, ite_not, leT, CW_t h]
    rw [show t = T 5 by omega]; rfl
  | succ k ih =>
    intro t fu ht hf
    obtain ⟨fu, rfl⟩ : ∃ f, fu = f + 1 := ⟨fu - 1, by omega⟩
    show mX8_levelOf_b4 _ _ _ _ _ _ = _
    unfold mX8_levelOf_b4
    have e := ih (t + 1) fu (by omega) (by omega)
    simp (disch := omega) only [mk_oO o_0, mk_oO o_1, mk_oO o_3, mk_gR f_0_0, mk_gR f_0_1, mk_gR f_0_2, mk_gR f_0_3, mk_gR f_0_4, mk_gR f_0_5, mk_gR f_0_6, mk_gR f_0_7, mk_gR f_0_8, mk_gR f_0_9, mk_gI f_0_10, mk_pI f_0_10, mk_gR f_1_0, mk_gI f_1_1, mk_pI f_1_1, mk_gR f_3_0, mk_gR f_3_1, mk_gR f_3_2, mk_gR f_3_3, mk_gR f_3_4, mk_gR f_3_5, mk_gR f_3_6, mk_gR f_3_7, ↓m_1, ↓m_2, i_0, i_1, i_2, i_3, i_4, i_6, i_5, i_12, i_11, i_10, i_9999, i_7, i_9, i_8, i_24, i_100, i_56, i_48, i_13, i_176, i_232, i_224, i_32, i_999, i_99, i_900, i_97, i_90, i_30, i_20, i_59, i_14, i_50, i_29, i_22, i_19, i_18, i_17, i_96, i_61, i_57, i_51, i_41, i_26, i_2552, i_255, i_25, i_23, i_21, i_16, i_15, i_122, i_10000, i_31, dzF, obs, b2_some, rz0, rz1, rzb, n01, n01', n10, n01e, nI_add, nI_mul, ↓reduceIte, not_false_eq_true, not_true_eq_false, ite_not, leF, CW_t h, R_18, R_43, CW_s hT h, CW_q hT h, nI_ltI (hT.l31 _) (hT.l31 _)]
    rw [lvN] at e
    split
    · rename_i hc; simp only [Nat.add_zero] at hc; rw [if_pos hc] at e; exact e
    · rename_i hc; simp only [Nat.add_zero] at hc; rw [if_neg hc] at e; exact e
theorem C_levelOf (hT : VT T) (h : WR I 3 T) {s : Nat} (hs : s < T 3) : mX8_levelOf (mk n I J) 3 (nI s) = some (nI (lvl T s), mk n I J) := by
  unfold mX8_levelOf
  rw [mk_oO o_3]
  have b0 := hT.1
  exact C_levelL hT h hs (T 5) 0 FU (by omega) (by unfold FU; omega)
theorem C_areSimilar (hT : VT T) (h : WR I 3 T) {a b : Nat} (ha : a < T 1) (hb : b < T 1) : mX8_areSimilar (mk n I J) 3 (nI a) (nI b) = some (nI (if like T a b = 2 then 1 else 0), mk n I J) := by
  have b0 := hT.1
  unfold mX8_areSimilar like
  by_cases h1 : a = b
  · simp (disch := omega) only [mk_oO o_0, mk_oO o_1, mk_oO o_3, mk_gR f_0_0, mk_gR f_0_1, mk_gR f_0_2, mk_gR f_0_3, mk_gR f_0_4, mk_gR f_0_5, mk_gR f_0_6, mk_gR f_0_7, mk_gR f_0_8, mk_gR f_0_9, mk_gI f_0_10, mk_pI f_0_10, mk_gR f_1_0, mk_gI f_1_1, mk_pI f_1_1, mk_gR f_3_0, mk_gR f_3_1, mk_gR f_3_2, mk_gR f_3_3, mk_gR f_3_4, mk_gR f_3_5, mk_gR f_3_6, mk_gR f_3_7, ↓m_1, ↓m_2, i_0, i_1, i_2, i_3, i_4, i_6, i_5, i_12, i_11, i_10, i_9999, i_7, i_9, i_8, i_24, i_100, i_56, i_48, i_13, i_176, i_232, i_224, i_32, i_999, i_99, i_900, i_97, i_90, i_30, i_20, i_59, i_14, i_50, i_29, i_22, i_19, i_18, i_17, i_96, i_61, i_57, i_51, i_41, i_26, i_2552, i_255, i_25, i_23, i_21, i_16, i_15, i_122, i_10000, i_31, dzF, obs, b2_some, rz0, rz1, rzb, n01, n01', n10, n01e, nI_add, nI_mul, ↓reduceIte, not_false_eq_true, not_true_eq_false, ite_not, eqT, if_pos h1]
    rfl
  · simp (disch := omega) only [mk_oO o_0, mk_oO o_1, mk_oO o_3, mk_gR f_0_0, mk_gR f_0_1, mk_gR f_0_2, mk_gR f_0_3, mk_gR f_0_4, mk_gR f_0_5, mk_gR f_0_6, mk_gR f_0_7, mk_gR f_0_8, mk_gR f_0_9, mk_gI f_0_10, mk_pI f_0_10, mk_gR f_1_0, mk_gI f_1_1, mk_pI f_1_1, mk_gR f_3_0, mk_gR f_3_1, mk_gR f_3_2, mk_gR f_3_3, mk_gR f_3_4, mk_gR f_3_5, mk_gR f_3_6, mk_gR f_3_7, ↓m_1, ↓m_2, i_0, i_1, i_2, i_3, i_4, i_6, i_5, i_12, i_11, i_10, i_9999, i_7, i_9, i_8, i_24, i_100, i_56, i_48, i_13, i_176, i_232, i_224, i_32, i_999, i_99, i_900, i_97, i_90, i_30, i_20, i_59, i_14, i_50, i_29, i_22, i_19, i_18, i_17, i_96, i_61, i_57, i_51, i_41, i_26, i_2552, i_255, i_25, i_23, i_21, i_16, i_15, i_122, i_10000, i_31, dzF, obs, b2_some, rz0, rz1, rzb, n01, n01', n10, n01e, nI_add, nI_mul, ↓reduceIte, not_false_eq_true, not_true_eq_false, ite_not, eqF, if_neg h1, R_6, CW_g hT h, nI_eq (hT.l31 _) (hT.l31 _)]
    by_cases h2 : T (24 + 4 * a + 0) = T (24 + 4 * b + 0)
    · rw [if_pos h2, if_pos h2]
      by_cases h3 : T (24 + 4 * a + 1) = T (24 + 4 * b + 1)
      · rw [if_pos h3, if_pos h3]; rfl
      · rw [if_neg h3, if_neg h3]; rfl
    · rw [if_neg h2, if_neg h2]; rfl
theorem C_priced (hT : VT T) (h : WR I 3 T) {s p : Nat} (hs : s < T 3) (hp : p ≤ 10000) : mX2_priced (mk n I J) 100 (nI s) (nI p) = some (lN (p * T (56 + 12 * s + 3) + p * T (56 + 12 * s + 3) * T (56 + 12 * s + 7) / 100), mk n I J) := by
  have b0 := hT.1
  have c1 : p * T (56 + 12 * s + 3) ≤ 10000 * 9999 := Nat.mul_le_mul hp (hT.le _)
  have c2 : p * T (56 + 12 * s + 3) * T (56 + 12 * s + 7) ≤ 10000 * 9999 * 99 := Nat.mul_le_mul c1 (hT.sr hs)
  unfold mX2_priced
  simp (disch := omega) only [mk_oO o_100, mk_gR f_100_0, mk_gR f_100_1, mk_gR f_100_2, mk_gI f_100_3, mk_pI f_100_3, mk_gR f_100_4, mk_gR f_100_5, mk_gR f_100_6, mk_gR f_100_7, mk_oO o_0, mk_oO o_1, mk_oO o_3, mk_gR f_0_0, mk_gR f_0_1, mk_gR f_0_2, mk_gR f_0_3, mk_gR f_0_4, mk_gR f_0_5, mk_gR f_0_6, mk_gR f_0_7, mk_gR f_0_8, mk_gR f_0_9, mk_gI f_0_10, mk_pI f_0_10, mk_gR f_1_0, mk_gI f_1_1, mk_pI f_1_1, mk_gR f_3_0, mk_gR f_3_1, mk_gR f_3_2, mk_gR f_3_3, mk_gR f_3_4, mk_gR f_3_5, mk_gR f_3_6, mk_gR f_3_7, ↓m_1, ↓m_2, i_0, i_1, i_2, i_3, i_4, i_6, i_5, i_12, i_11, i_10, i_9999, i_7, i_9, i_8, i_24, i_100, i_56, i_48, i_13, i_176, i_232, i_224, i_32, i_999, i_99, i_900, i_97, i_90, i_30, i_20, i_59, i_14, i_50, i_29, i_22, i_19, i_18, i_17, i_96, i_61, i_57, i_51, i_41, i_26, i_2552, i_255, i_25, i_23, i_21, i_16, i_15, i_122, i_10000, i_31, l_100, dzF, obs, b2_some, rz0, rz1, rzb, n01, n01', n10, n01e, nI_add, nI_mul, ↓reduceIte, not_false_eq_true, not_true_eq_false, ite_not, R_18, CW_s hT h, nI_l (hT.l31 _), nI_l, lN_mul, lN_add, lL_div]
theorem rwB_tb (s how : Nat) : ∀ r i, (rwB T s how r).testBit i = true ↔ i < r ∧ rowF T s i how
  | 0, i => by
    unfold rwB
    rw [Nat.zero_testBit]
    constructor
    · intro z; exact absurd z (by decide)
    · rintro ⟨z, -⟩; exact absurd z (Nat.not_lt_zero _)
  | r + 1, i => by
    have ih := rwB_tb s how r i
    unfold rwB
    split
    · rename_i hc
      rw [Nat.testBit_or, Bool.or_eq_true, tb_2p, decide_eq_true_eq, ih]
      constructor
      · rintro (⟨z1, z2⟩ | rfl)
        · exact ⟨by omega, z2⟩
        · exact ⟨by omega, hc⟩
      · rintro ⟨z1, z2⟩
        by_cases h : r = i
        · exact Or.inr h
        · exact Or.inl ⟨by omega, z2⟩
    · rename_i hc
      rw [ih]
      constructor
      · rintro ⟨z1, z2⟩; exact ⟨by omega, z2⟩
      · rintro ⟨z1, z2⟩
        by_cases h : i = r
        · subst h; exact absurd z2 hc
        · exact ⟨by omega, z2⟩
theorem rwB_lt (s how : Nat) : ∀ r, r ≤ 12 → rwB T s how r < 2 ^ 12
  | 0, _ => by unfold rwB; decide
  | r + 1, h => by
    have ih := rwB_lt s how r (by omega)
    unfold rwB
    split
    · exact Nat.or_lt_two_pow ih (Nat.pow_lt_pow_right (by decide) (by omega))
    · exact ih
theorem C_rowsL (hT : VT T) (h : WR I 3 T) {s how : Nat} (hs : s < T 3) (hh : how = 1 ∨ how = 2) : ∀ (k t fu : Nat), t + k = T 4 → k < fu → mX2_rowsFor_L18 fu (mk n I J) 100 (nI s) (nI (how - 1)) (nI (T (56 + 12 * s + 0))) (nI (rwB T s how t)) (nI t) = some (nI (rwB T s how (T 4)), mk n I J) := by
  have b0 := hT.1
  intro k
  induction k with
  | zero =>
    intro t fu ht hf
    obtain ⟨fu, rfl⟩ : ∃ f, fu = f + 1 := ⟨fu - 1, by omega⟩
    show mX2_rowsFor_b18 _ _ _ _ _ _ _ _ = _
    unfold mX2_rowsFor_b18
    simp (disch := omega) only [mk_oO o_100, mk_gR f_100_0, mk_gR f_100_1, mk_gR f_100_2, mk_gI f_100_3, mk_pI f_100_3, mk_gR f_100_4, mk_gR f_100_5, mk_gR f_100_6, mk_gR f_100_7, mk_oO o_0, mk_oO o_1, mk_oO o_3, mk_gR f_0_0, mk_gR f_0_1, mk_gR f_0_2, mk_gR f_0_3, mk_gR f_0_4, mk_gR f_0_5, mk_gR f_0_6, mk_gR f_0_7, mk_gR f_0_8, mk_gR f_0_9, mk_gI f_0_10, mk_pI f_0_10, mk_gR f_1_0, mk_gI f_1_1, mk_pI f_1_1, mk_gR f_3_0, mk_gR f_3_1, mk_gR f_3_2, mk_gR f_3_3, mk_gR f_3_4, mk_gR f_3_5, mk_gR f_3_6, mk_gR f_3_7, ↓m_1, ↓m_2, i_0, i_1, i_2, i_3, i_4, i_6, i_5, i_12, i_11, i_10, i_9999, i_7, i_9, i_8, i_24, i_100, i_56, i_48, i_13, i_176, i_232, i_224, i_32, i_999, i_99, i_900, i_97, i_90, i_30, i_20, i_59, i_14, i_50, i_29, i_22, i_19, i_18, i_17, i_96, i_61, i_57, i_51, i_41, i_26, i_2552, i_255, i_25, i_23, i_21, i_16, i_15, i_122, i_10000, i_31, dzF, obs, b2_some, rz0, rz1, rzb, n01, n01', n10, n01e, nI_add, nI_mul, ↓reduceIte, not_false_eq_true, not_true_eq_false, ite_not, leT, CW_t h]
    rw [show t = T 4 by omega]
  | succ k ih =>
    intro t fu ht hf
    obtain ⟨fu, rfl⟩ : ∃ f, fu = f + 1 := ⟨fu - 1, by omega⟩
    have e := ih (t + 1) fu (by omega) (by omega)
    have ht4 : t < T 4 := by omega
    have c1 := hT.sg hs
    have c2 := hT.rg ht4
    have c4 := hT.le 7
    have key : mX2_rowsFor_b100 (mX2_rowsFor_L18 fu) (mk n I J) 100 (nI s) (nI (how - 1)) (nI (T (56 + 12 * s + 0))) (nI (rwB T s how t)) (nI t) (nI (T (176 + 4 * t + 3)) - nI (T (56 + 12 * s + 5))) (nI (if like T (T (56 + 12 * s + 0)) (T (176 + 4 * t + 0)) = how then 1 else 0)) = some (nI (rwB T s how (T 4)), mk n I J) := by
      unfold mX2_rowsFor_b100
      simp (disch := omega) only [mk_oO o_100, mk_gR f_100_0, mk_gR f_100_1, mk_gR f_100_2, mk_gI f_100_3, mk_pI f_100_3, mk_gR f_100_4, mk_gR f_100_5, mk_gR f_100_6, mk_gR f_100_7, mk_oO o_0, mk_oO o_1, mk_oO o_3, mk_gR f_0_0, mk_gR f_0_1, mk_gR f_0_2, mk_gR f_0_3, mk_gR f_0_4, mk_gR f_0_5, mk_gR f_0_6, mk_gR f_0_7, mk_gR f_0_8, mk_gR f_0_9, mk_gI f_0_10, mk_pI f_0_10, mk_gR f_1_0, mk_gI f_1_1, mk_pI f_1_1, mk_gR f_3_0, mk_gR f_3_1, mk_gR f_3_2, mk_gR f_3_3, mk_gR f_3_4, mk_gR f_3_5, mk_gR f_3_6, mk_gR f_3_7, ↓m_1, ↓m_2, i_0, i_1, i_2, i_3, i_4, i_6, i_5, i_12, i_11, i_10, i_9999, i_7, i_9, i_8, i_24, i_100, i_56, i_48, i_13, i_176, i_232, i_224, i_32, i_999, i_99, i_900, i_97, i_90, i_30, i_20, i_59, i_14, i_50, i_29, i_22, i_19, i_18, i_17, i_96, i_61, i_57, i_51, i_41, i_26, i_2552, i_255, i_25, i_23, i_21, i_16, i_15, i_122, i_10000, i_31, dzF, obs, b2_some, rz0, rz1, rzb, n01, n01', n10, n01e, nI_add, nI_mul, ↓reduceIte, not_false_eq_true, not_true_eq_false, ite_not, CW_t h, sublt0 (hT.l30 _) (hT.l30 _), ltsub (hT.l30 _) (hT.l30 _), nI_and, nI_one_shl2, nI_or]
      rw [rwB] at e
      by_cases h1 : like T (T (56 + 12 * s + 0)) (T (176 + 4 * t + 0)) = how
      · rw [if_pos h1]
        by_cases h2 : T (176 + 4 * t + 3) < T (56 + 12 * s + 5)
        · rw [if_neg (by omega)] at e
          rw [if_pos h2]; exact e
        · rw [if_neg h2]
          by_cases h3 : 3 * T 7 + T (56 + 12 * s + 5) < T (176 + 4 * t + 3)
          · rw [if_neg (by omega)] at e
            rw [if_pos h3]; exact e
          · rw [if_pos ⟨h1, by omega, by omega⟩] at e
            rw [if_neg h3]; exact e
      · rw [if_neg (fun z => h1 z.1)] at e
        rw [if_neg h1]; exact e
    show mX2_rowsFor_b18 _ _ _ _ _ _ _ _ = _
    unfold mX2_rowsFor_b18
    rcases hh with rfl | rfl
    · simp (disch := omega) only [mk_oO o_100, mk_gR f_100_0, mk_gR f_100_1, mk_gR f_100_2, mk_gI f_100_3, mk_pI f_100_3, mk_gR f_100_4, mk_gR f_100_5, mk_gR f_100_6, mk_gR f_100_7, mk_oO o_0, mk_oO o_1, mk_oO o_3, mk_gR f_0_0, mk_gR f_0_1, mk_gR f_0_2, mk_gR f_0_3, mk_gR f_0_4, mk_gR f_0_5, mk_gR f_0_6, mk_gR f_0_7, mk_gR f_0_8, mk_gR f_0_9, mk_gI f_0_10, mk_pI f_0_10, mk_gR f_1_0, mk_gI f_1_1, mk_pI f_1_1, mk_gR f_3_0, mk_gR f_3_1, mk_gR f_3_2, mk_gR f_3_3, mk_gR f_3_4, mk_gR f_3_5, mk_gR f_3_6, mk_gR f_3_7, ↓m_1, ↓m_2, i_0, i_1, i_2, i_3, i_4, i_6, i_5, i_12, i_11, i_10, i_9999, i_7, i_9, i_8, i_24, i_100, i_56, i_48, i_13, i_176, i_232, i_224, i_32, i_999, i_99, i_900, i_97, i_90, i_30, i_20, i_59, i_14, i_50, i_29, i_22, i_19, i_18, i_17, i_96, i_61, i_57, i_51, i_41, i_26, i_2552, i_255, i_25, i_23, i_21, i_16, i_15, i_122, i_10000, i_31, dzF, obs, b2_some, rz0, rz1, rzb, n01, n01', n10, n01e, nI_add, nI_mul, ↓reduceIte, not_false_eq_true, not_true_eq_false, ite_not, leF, CW_t h, R_30, R_18, CW_r hT h, CW_s hT h, eqT, nI_eq (hT.l31 _) (hT.l31 _)]
      by_cases h1 : T (56 + 12 * s + 0) = T (176 + 4 * t + 0)
      · rw [if_pos (show like T (T (56 + 12 * s + 0)) (T (176 + 4 * t + 0)) = 1 from by unfold like; rw [if_pos h1])] at key
        rw [if_pos h1]; exact key
      · rw [if_neg (show ¬ like T (T (56 + 12 * s + 0)) (T (176 + 4 * t + 0)) = 1 from by unfold like; rw [if_neg h1]; split <;> (try split) <;> decide)] at key
        rw [if_neg h1]; exact key
    · simp (disch := omega) only [mk_oO o_100, mk_gR f_100_0, mk_gR f_100_1, mk_gR f_100_2, mk_gI f_100_3, mk_pI f_100_3, mk_gR f_100_4, mk_gR f_100_5, mk_gR f_100_6, mk_gR f_100_7, mk_oO o_0, mk_oO o_1, mk_oO o_3, mk_gR f_0_0, mk_gR f_0_1, mk_gR f_0_2, mk_gR f_0_3, mk_gR f_0_4, mk_gR f_0_5, mk_gR f_0_6, mk_gR f_0_7, mk_gR f_0_8, mk_gR f_0_9, mk_gI f_0_10, mk_pI f_0_10, mk_gR f_1_0, mk_gI f_1_1, mk_pI f_1_1, mk_gR f_3_0, mk_gR f_3_1, mk_gR f_3_2, mk_gR f_3_3, mk_gR f_3_4, mk_gR f_3_5, mk_gR f_3_6, mk_gR f_3_7, ↓m_1, ↓m_2, i_0, i_1, i_2, i_3, i_4, i_6, i_5, i_12, i_11, i_10, i_9999, i_7, i_9, i_8, i_24, i_100, i_56, i_48, i_13, i_176, i_232, i_224, i_32, i_999, i_99, i_900, i_97, i_90, i_30, i_20, i_59, i_14, i_50, i_29, i_22, i_19, i_18, i_17, i_96, i_61, i_57, i_51, i_41, i_26, i_2552, i_255, i_25, i_23, i_21, i_16, i_15, i_122, i_10000, i_31, dzF, obs, b2_some, rz0, rz1, rzb, n01, n01', n10, n01e, nI_add, nI_mul, ↓reduceIte, not_false_eq_true, not_true_eq_false, ite_not, leF, CW_t h, R_30, R_18, CW_r hT h, CW_s hT h, eqF, C_areSimilar hT h]
      exact key
theorem C_rowsFor (hT : VT T) (h : WR I 3 T) {s how : Nat} (hs : s < T 3) (hh : how = 1 ∨ how = 2) : mX2_rowsFor (mk n I J) 100 (nI s) (nI (how - 1)) = some (nI (rwB T s how (T 4)), mk n I J) := by
  have b0 := hT.1
  unfold mX2_rowsFor
  simp (disch := omega) only [mk_oO o_100, mk_gR f_100_0, mk_gR f_100_1, mk_gR f_100_2, mk_gI f_100_3, mk_pI f_100_3, mk_gR f_100_4, mk_gR f_100_5, mk_gR f_100_6, mk_gR f_100_7, mk_oO o_0, mk_oO o_1, mk_oO o_3, mk_gR f_0_0, mk_gR f_0_1, mk_gR f_0_2, mk_gR f_0_3, mk_gR f_0_4, mk_gR f_0_5, mk_gR f_0_6, mk_gR f_0_7, mk_gR f_0_8, mk_gR f_0_9, mk_gI f_0_10, mk_pI f_0_10, mk_gR f_1_0, mk_gI f_1_1, mk_pI f_1_1, mk_gR f_3_0, mk_gR f_3_1, mk_gR f_3_2, mk_gR f_3_3, mk_gR f_3_4, mk_gR f_3_5, mk_gR f_3_6, mk_gR f_3_7, ↓m_1, ↓m_2, i_0, i_1, i_2, i_3, i_4, i_6, i_5, i_12, i_11, i_10, i_9999, i_7, i_9, i_8, i_24, i_100, i_56, i_48, i_13, i_176, i_232, i_224, i_32, i_999, i_99, i_900, i_97, i_90, i_30, i_20, i_59, i_14, i_50, i_29, i_22, i_19, i_18, i_17, i_96, i_61, i_57, i_51, i_41, i_26, i_2552, i_255, i_25, i_23, i_21, i_16, i_15, i_122, i_10000, i_31, dzF, obs, b2_some, rz0, rz1, rzb, n01, n01', n10, n01e, nI_add, nI_mul, ↓reduceIte, not_false_eq_true, not_true_eq_false, ite_not, R_18, CW_s hT h]
  exact C_rowsL hT h hs hh (T 4) 0 FU (by omega) (by unfold FU; omega)
theorem C_piecesL (hT : VT T) (h : WR I 3 T) {s how p : Nat} (hp : p < 2 ^ 31) : ∀ (k t fu : Nat), t + k = T 4 → k < fu → mX2_piecesAt_L5 fu (mk n I J) 100 (nI (rwB T s how (T 4))) (nI p) (nI (pcs T s how p t)) (nI t) = some (nI (pcs T s how p (T 4)), mk n I J) := by
  have b0 := hT.1
  have hl := rwB_lt (T := T) s how (T 4) (by omega)
  intro k
  induction k with
  | zero =>
    intro t fu ht hf
    obtain ⟨fu, rfl⟩ : ∃ f, fu = f + 1 := ⟨fu - 1, by omega⟩
    show mX2_piecesAt_b5 _ _ _ _ _ _ _ = _
    unfold mX2_piecesAt_b5
    simp (disch := omega) only [mk_oO o_100, mk_gR f_100_0, mk_gR f_100_1, mk_gR f_100_2, mk_gI f_100_3, mk_pI f_100_3, mk_gR f_100_4, mk_gR f_100_5, mk_gR f_100_6, mk_gR f_100_7, mk_oO o_0, mk_oO o_1, mk_oO o_3, mk_gR f_0_0, mk_gR f_0_1, mk_gR f_0_2, mk_gR f_0_3, mk_gR f_0_4, mk_gR f_0_5, mk_gR f_0_6, mk_gR f_0_7, mk_gR f_0_8, mk_gR f_0_9, mk_gI f_0_10, mk_pI f_0_10, mk_gR f_1_0, mk_gI f_1_1, mk_pI f_1_1, mk_gR f_3_0, mk_gR f_3_1, mk_gR f_3_2, mk_gR f_3_3, mk_gR f_3_4, mk_gR f_3_5, mk_gR f_3_6, mk_gR f_3_7, ↓m_1, ↓m_2, i_0, i_1, i_2, i_3, i_4, i_6, i_5, i_12, i_11, i_10, i_9999, i_7, i_9, i_8, i_24, i_100, i_56, i_48, i_13, i_176, i_232, i_224, i_32, i_999, i_99, i_900, i_97, i_90, i_30, i_20, i_59, i_14, i_50, i_29, i_22, i_19, i_18, i_17, i_96, i_61, i_57, i_51, i_41, i_26, i_2552, i_255, i_25, i_23, i_21, i_16, i_15, i_122, i_10000, i_31, dzF, obs, b2_some, rz0, rz1, rzb, n01, n01', n10, n01e, nI_add, nI_mul, ↓reduceIte, not_false_eq_true, not_true_eq_false, ite_not, leT, CW_t h]
    rw [show t = T 4 by omega]
  | succ k ih =>
    intro t fu ht hf
    obtain ⟨fu, rfl⟩ : ∃ f, fu = f + 1 := ⟨fu - 1, by omega⟩
    have e := ih (t + 1) fu (by omega) (by omega)
    have tb := rwB_tb (T := T) s how (T 4) t
    rw [pcs] at e
    show mX2_piecesAt_b5 _ _ _ _ _ _ _ = _
    unfold mX2_piecesAt_b5
    by_cases hc : rowF T s t how
    · have hb := tb.mpr ⟨by omega, hc⟩
      by_cases hd : T (176 + 4 * t + 2) = p
      · rw [if_pos ⟨hc, hd⟩] at e
        simp (disch := omega) only [mk_oO o_100, mk_gR f_100_0, mk_gR f_100_1, mk_gR f_100_2, mk_gI f_100_3, mk_pI f_100_3, mk_gR f_100_4, mk_gR f_100_5, mk_gR f_100_6, mk_gR f_100_7, mk_oO o_0, mk_oO o_1, mk_oO o_3, mk_gR f_0_0, mk_gR f_0_1, mk_gR f_0_2, mk_gR f_0_3, mk_gR f_0_4, mk_gR f_0_5, mk_gR f_0_6, mk_gR f_0_7, mk_gR f_0_8, mk_gR f_0_9, mk_gI f_0_10, mk_pI f_0_10, mk_gR f_1_0, mk_gI f_1_1, mk_pI f_1_1, mk_gR f_3_0, mk_gR f_3_1, mk_gR f_3_2, mk_gR f_3_3, mk_gR f_3_4, mk_gR f_3_5, mk_gR f_3_6, mk_gR f_3_7, ↓m_1, ↓m_2, i_0, i_1, i_2, i_3, i_4, i_6, i_5, i_12, i_11, i_10, i_9999, i_7, i_9, i_8, i_24, i_100, i_56, i_48, i_13, i_176, i_232, i_224, i_32, i_999, i_99, i_900, i_97, i_90, i_30, i_20, i_59, i_14, i_50, i_29, i_22, i_19, i_18, i_17, i_96, i_61, i_57, i_51, i_41, i_26, i_2552, i_255, i_25, i_23, i_21, i_16, i_15, i_122, i_10000, i_31, dzF, obs, b2_some, rz0, rz1, rzb, n01, n01', n10, n01e, nI_add, nI_mul, ↓reduceIte, not_false_eq_true, not_true_eq_false, ite_not, leF, CW_t h, nI_and, nI_bit2, if_pos hb, R_30, CW_r hT h, hd]
        exact e
      · rw [if_neg (fun z => hd z.2)] at e
        simp (disch := omega) only [mk_oO o_100, mk_gR f_100_0, mk_gR f_100_1, mk_gR f_100_2, mk_gI f_100_3, mk_pI f_100_3, mk_gR f_100_4, mk_gR f_100_5, mk_gR f_100_6, mk_gR f_100_7, mk_oO o_0, mk_oO o_1, mk_oO o_3, mk_gR f_0_0, mk_gR f_0_1, mk_gR f_0_2, mk_gR f_0_3, mk_gR f_0_4, mk_gR f_0_5, mk_gR f_0_6, mk_gR f_0_7, mk_gR f_0_8, mk_gR f_0_9, mk_gI f_0_10, mk_pI f_0_10, mk_gR f_1_0, mk_gI f_1_1, mk_pI f_1_1, mk_gR f_3_0, mk_gR f_3_1, mk_gR f_3_2, mk_gR f_3_3, mk_gR f_3_4, mk_gR f_3_5, mk_gR f_3_6, mk_gR f_3_7, ↓m_1, ↓m_2, i_0, i_1, i_2, i_3, i_4, i_6, i_5, i_12, i_11, i_10, i_9999, i_7, i_9, i_8, i_24, i_100, i_56, i_48, i_13, i_176, i_232, i_224, i_32, i_999, i_99, i_900, i_97, i_90, i_30, i_20, i_59, i_14, i_50, i_29, i_22, i_19, i_18, i_17, i_96, i_61, i_57, i_51, i_41, i_26, i_2552, i_255, i_25, i_23, i_21, i_16, i_15, i_122, i_10000, i_31, dzF, obs, b2_some, rz0, rz1, rzb, n01, n01', n10, n01e, nI_add, nI_mul, ↓reduceIte, not_false_eq_true, not_true_eq_false, ite_not, leF, CW_t h, nI_and, nI_bit2, if_pos hb, R_30, CW_r hT h, nI_eq (hT.l31 _) hp, if_neg hd]
        exact e
    · have hb : ¬ (rwB T s how (T 4)).testBit t = true := fun z => hc (tb.mp z).2
      rw [if_neg (fun z => hc z.1)] at e
      simp (disch := omega) only [mk_oO o_100, mk_gR f_100_0, mk_gR f_100_1, mk_gR f_100_2, mk_gI f_100_3, mk_pI f_100_3, mk_gR f_100_4, mk_gR f_100_5, mk_gR f_100_6, mk_gR f_100_7, mk_oO o_0, mk_oO o_1, mk_oO o_3, mk_gR f_0_0, mk_gR f_0_1, mk_gR f_0_2, mk_gR f_0_3, mk_gR f_0_4, mk_gR f_0_5, mk_gR f_0_6, mk_gR f_0_7, mk_gR f_0_8, mk_gR f_0_9, mk_gI f_0_10, mk_pI f_0_10, mk_gR f_1_0, mk_gI f_1_1, mk_pI f_1_1, mk_gR f_3_0, mk_gR f_3_1, mk_gR f_3_2, mk_gR f_3_3, mk_gR f_3_4, mk_gR f_3_5, mk_gR f_3_6, mk_gR f_3_7, ↓m_1, ↓m_2, i_0, i_1, i_2, i_3, i_4, i_6, i_5, i_12, i_11, i_10, i_9999, i_7, i_9, i_8, i_24, i_100, i_56, i_48, i_13, i_176, i_232, i_224, i_32, i_999, i_99, i_900, i_97, i_90, i_30, i_20, i_59, i_14, i_50, i_29, i_22, i_19, i_18, i_17, i_96, i_61, i_57, i_51, i_41, i_26, i_2552, i_255, i_25, i_23, i_21, i_16, i_15, i_122, i_10000, i_31, dzF, obs, b2_some, rz0, rz1, rzb, n01, n01', n10, n01e, nI_add, nI_mul, ↓reduceIte, not_false_eq_true, not_true_eq_false, ite_not, leF, CW_t h, nI_and, nI_bit2, if_neg hb]
      exact e
theorem C_piecesAt (hT : VT T) (h : WR I 3 T) {s how p : Nat} (hp : p < 2 ^ 31) : mX2_piecesAt (mk n I J) 100 (nI (rwB T s how (T 4))) (nI p) = some (nI (pcs T s how p (T 4)), mk n I J) := by
  have b0 := hT.1
  unfold mX2_piecesAt
  rw [mk_oO o_100]
  exact C_piecesL hT h hp (T 4) 0 FU (by omega) (by unfold FU; omega)
theorem pcs_pos (hT : VT T) {s how r : Nat} (hr : r < T 4) (hc : rowF T s r how) : ∀ d, 1 ≤ pcs T s how (T (176 + 4 * r + 2)) (r + 1 + d)
  | 0 => by
    show 1 ≤ pcs T s how (T (176 + 4 * r + 2)) (r + 1)
    rw [pcs, if_pos ⟨hc, rfl⟩]
    have := hT.rp hr
    omega
  | d + 1 => by
    have := pcs_pos hT hr hc d
    rw [show r + 1 + (d + 1) = (r + 1 + d) + 1 by omega, pcs]
    omega
theorem pcs_pos' (hT : VT T) {s how r : Nat} (hr : r < T 4) (hc : rowF T s r how) : 1 ≤ pcs T s how (T (176 + 4 * r + 2)) (T 4) := by
  have := pcs_pos hT hr hc (T 4 - (r + 1))
  rw [show r + 1 + (T 4 - (r + 1)) = T 4 by omega] at this
  exact this
theorem bp_zero (hT : VT T) (s how : Nat) : ∀ r, r ≤ T 4 → ((bp T s how r).1 = 0 ↔ (bp T s how r).2 = 0) ∧ ((bp T s how r).1 = 0 ↔ ∀ i, i < r → ¬ rowF T s i how)
  | 0, _ => ⟨Iff.rfl, ⟨fun _ i hi => absurd hi (Nat.not_lt_zero _), fun _ => rfl⟩⟩
  | r + 1, hr => by
    obtain ⟨h1, h2⟩ := bp_zero hT s how r (by omega)
    have c1 := hT.rr (by omega : r < T 4)
    unfold bp bpS
    by_cases hc : rowF T s r how
    · have c2 := pcs_pos' hT (by omega : r < T 4) hc
      have hno : ¬ ∀ i, i < r + 1 → ¬ rowF T s i how := fun z => z r (by omega) hc
      rw [if_pos hc]
      split
      · dsimp only
        exact ⟨⟨fun z => by omega, fun z => by omega⟩, ⟨fun z => by omega, fun z => absurd z hno⟩⟩
      · rename_i h3
        have h4 : ¬ (bp T s how r).1 = 0 := fun z => h3 (Or.inl z)
        exact ⟨h1, ⟨fun z => absurd z h4, fun z => absurd z hno⟩⟩
    · rw [if_neg hc]
      refine ⟨h1, h2.trans ⟨fun z i hi => ?_, fun z i hi => z i (by omega)⟩⟩
      by_cases hir : i = r
      · subst hir; exact hc
      · exact z i (by omega)
theorem C_mostL (hT : VT T) (h : WR I 3 T) {s how : Nat} : ∀ (k t fu : Nat), t + k = T 4 → k < fu → mX2_priceOfMost_L7 fu (mk n I J) 100 (nI (rwB T s how (T 4))) (pN (bp T s how t).1) (nI (bp T s how t).2) (nI t) = some (pN (bp T s how (T 4)).1, mk n I J) := by
  have b0 := hT.1
  have hl := rwB_lt (T := T) s how (T 4) (by omega)
  intro k
  induction k with
  | zero =>
    intro t fu ht hf
    obtain ⟨fu, rfl⟩ : ∃ f, fu = f + 1 := ⟨fu - 1, by omega⟩
    show mX2_priceOfMost_b7 _ _ _ _ _ _ _ = _
    unfold mX2_priceOfMost_b7
    simp (disch := omega) only [mk_oO o_100, mk_gR f_100_0, mk_gR f_100_1, mk_gR f_100_2, mk_gI f_100_3, mk_pI f_100_3, mk_gR f_100_4, mk_gR f_100_5, mk_gR f_100_6, mk_gR f_100_7, mk_oO o_0, mk_oO o_1, mk_oO o_3, mk_gR f_0_0, mk_gR f_0_1, mk_gR f_0_2, mk_gR f_0_3, mk_gR f_0_4, mk_gR f_0_5, mk_gR f_0_6, mk_gR f_0_7, mk_gR f_0_8, mk_gR f_0_9, mk_gI f_0_10, mk_pI f_0_10, mk_gR f_1_0, mk_gI f_1_1, mk_pI f_1_1, mk_gR f_3_0, mk_gR f_3_1, mk_gR f_3_2, mk_gR f_3_3, mk_gR f_3_4, mk_gR f_3_5, mk_gR f_3_6, mk_gR f_3_7, ↓m_1, ↓m_2, i_0, i_1, i_2, i_3, i_4, i_6, i_5, i_12, i_11, i_10, i_9999, i_7, i_9, i_8, i_24, i_100, i_56, i_48, i_13, i_176, i_232, i_224, i_32, i_999, i_99, i_900, i_97, i_90, i_30, i_20, i_59, i_14, i_50, i_29, i_22, i_19, i_18, i_17, i_96, i_61, i_57, i_51, i_41, i_26, i_2552, i_255, i_25, i_23, i_21, i_16, i_15, i_122, i_10000, i_31, dzF, obs, b2_some, rz0, rz1, rzb, n01, n01', n10, n01e, nI_add, nI_mul, ↓reduceIte, not_false_eq_true, not_true_eq_false, ite_not, leT, CW_t h]
    rw [show t = T 4 by omega]
  | succ k ih =>
    intro t fu ht hf
    obtain ⟨fu, rfl⟩ : ∃ f, fu = f + 1 := ⟨fu - 1, by omega⟩
    have e := ih (t + 1) fu (by omega) (by omega)
    have tb := rwB_tb (T := T) s how (T 4) t
    have c1 := bp_le hT s how t
    have c2 := hT.rr (by omega : t < T 4)
    have c3 := hT.le (176 + 4 * t + 2)
    have c4 := pcs_le hT s how (T (176 + 4 * t + 2)) (T 4)
    have c5 := (bp_zero hT s how t (by omega)).1
    show mX2_priceOfMost_b7 _ _ _ _ _ _ _ = _
    unfold mX2_priceOfMost_b7
    rw [bp] at e
    unfold bpS at e
    by_cases hc : rowF T s t how
    · have hb := tb.mpr ⟨by omega, hc⟩
      have c6 := pcs_pos' hT (by omega : t < T 4) hc
      rw [if_pos hc] at e
      have take : pN (T (176 + 4 * t + 2)) = nI (T (176 + 4 * t + 2)) := if_neg (by omega)
      simp (disch := omega) only [mk_oO o_100, mk_gR f_100_0, mk_gR f_100_1, mk_gR f_100_2, mk_gI f_100_3, mk_pI f_100_3, mk_gR f_100_4, mk_gR f_100_5, mk_gR f_100_6, mk_gR f_100_7, mk_oO o_0, mk_oO o_1, mk_oO o_3, mk_gR f_0_0, mk_gR f_0_1, mk_gR f_0_2, mk_gR f_0_3, mk_gR f_0_4, mk_gR f_0_5, mk_gR f_0_6, mk_gR f_0_7, mk_gR f_0_8, mk_gR f_0_9, mk_gI f_0_10, mk_pI f_0_10, mk_gR f_1_0, mk_gI f_1_1, mk_pI f_1_1, mk_gR f_3_0, mk_gR f_3_1, mk_gR f_3_2, mk_gR f_3_3, mk_gR f_3_4, mk_gR f_3_5, mk_gR f_3_6, mk_gR f_3_7, ↓m_1, ↓m_2, i_0, i_1, i_2, i_3, i_4, i_6, i_5, i_12, i_11, i_10, i_9999, i_7, i_9, i_8, i_24, i_100, i_56, i_48, i_13, i_176, i_232, i_224, i_32, i_999, i_99, i_900, i_97, i_90, i_30, i_20, i_59, i_14, i_50, i_29, i_22, i_19, i_18, i_17, i_96, i_61, i_57, i_51, i_41, i_26, i_2552, i_255, i_25, i_23, i_21, i_16, i_15, i_122, i_10000, i_31, dzF, obs, b2_some, rz0, rz1, rzb, n01, n01', n10, n01e, nI_add, nI_mul, ↓reduceIte, not_false_eq_true, not_true_eq_false, ite_not, leF, CW_t h, nI_and, nI_bit2, if_pos hb, R_30, CW_r hT h, C_piecesAt hT h, nI_ltI, nI_eq]
      by_cases h2 : (bp T s how t).2 < pcs T s how (T (176 + 4 * t + 2)) (T 4)
      · rw [if_pos h2]
        rw [if_pos (Or.inr (Or.inl h2)), take] at e
        exact e
      · rw [if_neg h2]
        have h1 : ¬ (bp T s how t).1 = 0 := fun z => by have := c5.mp z; omega
        have h5 : pN (bp T s how t).1 = nI (bp T s how t).1 := if_neg h1
        by_cases h3 : pcs T s how (T (176 + 4 * t + 2)) (T 4) = (bp T s how t).2
        · rw [if_pos h3]
          simp (disch := omega) only [h5, nI_leI]
          by_cases h4 : (bp T s how t).1 ≤ T (176 + 4 * t + 2)
          · rw [if_pos h4]
            rw [if_neg (by omega), h5] at e
            exact e
          · rw [if_neg h4]
            rw [if_pos (by omega), take] at e
            exact e
        · rw [if_neg h3]
          rw [if_neg (by omega)] at e
          exact e
    · have hb : ¬ (rwB T s how (T 4)).testBit t = true := fun z => hc (tb.mp z).2
      rw [if_neg hc] at e
      simp (disch := omega) only [mk_oO o_100, mk_gR f_100_0, mk_gR f_100_1, mk_gR f_100_2, mk_gI f_100_3, mk_pI f_100_3, mk_gR f_100_4, mk_gR f_100_5, mk_gR f_100_6, mk_gR f_100_7, mk_oO o_0, mk_oO o_1, mk_oO o_3, mk_gR f_0_0, mk_gR f_0_1, mk_gR f_0_2, mk_gR f_0_3, mk_gR f_0_4, mk_gR f_0_5, mk_gR f_0_6, mk_gR f_0_7, mk_gR f_0_8, mk_gR f_0_9, mk_gI f_0_10, mk_pI f_0_10, mk_gR f_1_0, mk_gI f_1_1, mk_pI f_1_1, mk_gR f_3_0, mk_gR f_3_1, mk_gR f_3_2, mk_gR f_3_3, mk_gR f_3_4, mk_gR f_3_5, mk_gR f_3_6, mk_gR f_3_7, ↓m_1, ↓m_2, i_0, i_1, i_2, i_3, i_4, i_6, i_5, i_12, i_11, i_10, i_9999, i_7, i_9, i_8, i_24, i_100, i_56, i_48, i_13, i_176, i_232, i_224, i_32, i_999, i_99, i_900, i_97, i_90, i_30, i_20, i_59, i_14, i_50, i_29, i_22, i_19, i_18, i_17, i_96, i_61, i_57, i_51, i_41, i_26, i_2552, i_255, i_25, i_23, i_21, i_16, i_15, i_122, i_10000, i_31, dzF, obs, b2_some, rz0, rz1, rzb, n01, n01', n10, n01e, nI_add, nI_mul, ↓reduceIte, not_false_eq_true, not_true_eq_false, ite_not, leF, CW_t h, nI_and, nI_bit2, if_neg hb]
      exact e
theorem C_priceOfMost (hT : VT T) (h : WR I 3 T) {s how : Nat} : mX2_priceOfMost (mk n I J) 100 (nI (rwB T s how (T 4))) = some (pN (bp T s how (T 4)).1, mk n I J) := by
  have b0 := hT.1
  unfold mX2_priceOfMost
  rw [mk_oO o_100]
  exact C_mostL hT h (T 4) 0 FU (by omega) (by unfold FU; omega)
theorem rwB_zero (hT : VT T) (s how : Nat) : rwB T s how (T 4) = 0 ↔ (bp T s how (T 4)).1 = 0 := by
  rw [(bp_zero hT s how (T 4) (Nat.le_refl _)).2]
  constructor
  · intro z i hi hc
    have := (rwB_tb (T := T) s how (T 4) i).mpr ⟨hi, hc⟩
    rw [z, Nat.zero_testBit] at this
    exact absurd this (by decide)
  · intro z
    apply Nat.eq_of_testBit_eq
    intro i
    rw [Nat.zero_testBit]
    cases hx : (rwB T s how (T 4)).testBit i
    · rfl
    · have := (rwB_tb (T := T) s how (T 4) i).mp hx
      exact absurd this.2 (z i this.1)
theorem C_priceResold (hT : VT T) (h : WR I 3 T) {s : Nat} (hs : s < T 3) : mX2_priceResold (mk n I J) 100 (nI s) = some (pN (rsP T s), mk n I J) := by
  have b0 := hT.1
  have l1 := rwB_lt (T := T) s 1 (T 4) (by omega)
  have e1 := C_rowsFor (n := n) (J := J) hT h hs (how := 1) (by omega)
  have e2 := C_rowsFor (n := n) (J := J) hT h hs (how := 2) (by omega)
  unfold mX2_priceResold mX2_priceResold_b22 rsP
  by_cases hz : (bp T s 1 (T 4)).1 = 0
  · have hz' := (rwB_zero hT s 1).mpr hz
    rw [hz'] at e1
    simp (disch := omega) only [mk_oO o_100, mk_gR f_100_0, mk_gR f_100_1, mk_gR f_100_2, mk_gI f_100_3, mk_pI f_100_3, mk_gR f_100_4, mk_gR f_100_5, mk_gR f_100_6, mk_gR f_100_7, ↓m_1, ↓m_2, i_0, i_1, i_2, i_3, i_4, i_6, i_5, i_12, i_11, i_10, i_9999, i_7, i_9, i_8, i_24, i_100, i_56, i_48, i_13, i_176, i_232, i_224, i_32, i_999, i_99, i_900, i_97, i_90, i_30, i_20, i_59, i_14, i_50, i_29, i_22, i_19, i_18, i_17, i_96, i_61, i_57, i_51, i_41, i_26, i_2552, i_255, i_25, i_23, i_21, i_16, i_15, i_122, i_10000, i_31, dzF, obs, b2_some, rz0, rz1, rzb, n01, n01', n10, n01e, nI_add, nI_mul, ↓reduceIte, not_false_eq_true, not_true_eq_false, ite_not, e1, e2, C_priceOfMost hT h, if_pos hz]
  · have hz' : ¬ rwB T s 1 (T 4) = 0 := fun z => hz ((rwB_zero hT s 1).mp z)
    simp (disch := omega) only [mk_oO o_100, mk_gR f_100_0, mk_gR f_100_1, mk_gR f_100_2, mk_gI f_100_3, mk_pI f_100_3, mk_gR f_100_4, mk_gR f_100_5, mk_gR f_100_6, mk_gR f_100_7, ↓m_1, ↓m_2, i_0, i_1, i_2, i_3, i_4, i_6, i_5, i_12, i_11, i_10, i_9999, i_7, i_9, i_8, i_24, i_100, i_56, i_48, i_13, i_176, i_232, i_224, i_32, i_999, i_99, i_900, i_97, i_90, i_30, i_20, i_59, i_14, i_50, i_29, i_22, i_19, i_18, i_17, i_96, i_61, i_57, i_51, i_41, i_26, i_2552, i_255, i_25, i_23, i_21, i_16, i_15, i_122, i_10000, i_31, dzF, obs, b2_some, rz0, rz1, rzb, n01, n01', n10, n01e, nI_add, nI_mul, ↓reduceIte, not_false_eq_true, not_true_eq_false, ite_not, e1, eqF, C_priceOfMost hT h, if_neg hz]
end LE
