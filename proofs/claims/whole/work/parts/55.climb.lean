/-! ===== 55: the six methods, the climb ===== -/
/-- the first of the least -/
def am (P : Nat → Bool) (f : Nat → Nat) : Nat → Nat × Nat
  | 0 => (0, 10)
  | t + 1 => if P t = true then (if (am P f t).2 = 10 ∨ f t < (am P f t).1 then (f t, t) else am P f t) else am P f t
def levB (T : Nat → Nat) (g s how : Nat) : Nat → Bool
  | 0 => false
  | t + 1 => levB T g s how t || decide (cand T g s how t ∧ sameL T s how t)
def cdB (T : Nat → Nat) (g s how t : Nat) : Bool := decide (cand T g s how t)
def csB (T : Nat → Nat) (g s how t : Nat) : Bool := decide (cand T g s how t ∧ sameL T s how t)
/-- sources as bits; those of the same level -/
def srB (T : Nat → Nat) (g s how : Nat) : Nat → Nat
  | 0 => 0
  | t + 1 => if cand T g s how t then srB T g s how t ||| 2 ^ t else srB T g s how t
def lvB (T : Nat → Nat) (g s how : Nat) : Nat → Nat
  | 0 => 0
  | t + 1 => if cand T g s how t ∧ lvl T s = lvl T t then lvB T g s how t ||| 2 ^ t else lvB T g s how t
theorem bits_tb {P : Nat → Prop} [DecidablePred P] {B : Nat → Nat} (h0 : B 0 = 0) (h1 : ∀ t, B (t + 1) = if P t then B t ||| 2 ^ t else B t) : ∀ r i, (B r).testBit i = true ↔ i < r ∧ P i
  | 0, i => by
    rw [h0, Nat.zero_testBit]
    constructor
    · intro z; exact absurd z (by decide)
    · rintro ⟨z, -⟩; exact absurd z (Nat.not_lt_zero _)
  | r + 1, i => by
    have ih := bits_tb h0 h1 r i
    rw [h1]
    split
    · rename_i hc
      rw [tb_add, ih]
      constructor
      · rintro (⟨z1, z2⟩ | rfl)
        · exact ⟨by omega, z2⟩
        · exact ⟨by omega, hc⟩
      · rintro ⟨z1, z2⟩
        by_cases h : i = r
        · exact Or.inr h
        · exact Or.inl ⟨by omega, z2⟩
    · rename_i hc
      rw [ih]
      constructor
      · rintro ⟨z1, z2⟩; exact ⟨by omega, z2⟩
      · rintro ⟨z1, z2⟩
        by_cases h : i = r
        · subst h; exact absurd z2 hc
        · exact ⟨by omega, z2⟩
theorem bits_lt {P : Nat → Prop} [DecidablePred P] {B : Nat → Nat} (h0 : B 0 = 0) (h1 : ∀ t, B (t + 1) = if P t then B t ||| 2 ^ t else B t) (N : Nat) : ∀ r, r ≤ N → B r < 2 ^ N
  | 0, _ => by rw [h0]; exact Nat.two_pow_pos N
  | r + 1, h => by
    have ih := bits_lt h0 h1 N r (by omega)
    rw [h1]
    split
    · exact Nat.or_lt_two_pow ih (Nat.pow_lt_pow_right (by decide) (by omega))
    · exact ih
theorem bits_zero {P : Nat → Prop} [DecidablePred P] {B : Nat → Nat} (h0 : B 0 = 0) (h1 : ∀ t, B (t + 1) = if P t then B t ||| 2 ^ t else B t) (N : Nat) : B N = 0 ↔ ∀ i, i < N → ¬ P i := by
  constructor
  · intro z i hi hp
    have := (bits_tb h0 h1 N i).mpr ⟨hi, hp⟩
    rw [z, Nat.zero_testBit] at this
    exact absurd this (by decide)
  · intro z
    apply Nat.eq_of_testBit_eq
    intro i
    rw [Nat.zero_testBit]
    cases hx : (B N).testBit i
    · rfl
    · have := (bits_tb h0 h1 N i).mp hx
      exact absurd this.2 (z i this.1)
section AM
variable {T : Nat → Nat} {g s how : Nat}
theorem levB_iff : ∀ t, levB T g s how t = true ↔ ∃ i, i < t ∧ cand T g s how i ∧ sameL T s how i
  | 0 => ⟨fun z => absurd z (by unfold levB; decide), fun ⟨i, hi, _⟩ => absurd hi (Nat.not_lt_zero _)⟩
  | t + 1 => by
    rw [levB, Bool.or_eq_true, levB_iff t, decide_eq_true_eq]
    constructor
    · rintro (⟨i, h1, h2⟩ | h)
      · exact ⟨i, by omega, h2⟩
      · exact ⟨t, by omega, h⟩
    · rintro ⟨i, h1, h2⟩
      by_cases h : i = t
      · subst h; exact Or.inr h2
      · exact Or.inl ⟨i, by omega, h2⟩
theorem am_none {P : Nat → Bool} {f : Nat → Nat} : ∀ t, (∀ i, i < t → P i = false) → am P f t = (0, 10)
  | 0, _ => rfl
  | t + 1, h => by
    rw [am, h t (by omega)]
    exact am_none t (fun i hi => h i (by omega))
theorem am_congr {P Q : Nat → Bool} {f : Nat → Nat} : ∀ t, (∀ i, i < t → P i = Q i) → am P f t = am Q f t
  | 0, _ => rfl
  | t + 1, h => by
    rw [am, am, h t (by omega), am_congr t (fun i hi => h i (by omega))]
theorem ot_am : ∀ t, ot T g s how t = (levB T g s how t, am (if levB T g s how t = true then csB T g s how else cdB T g s how) (brought T g s) t)
  | 0 => rfl
  | t + 1 => by
    have ih := ot_am t
    rw [ot, ih]
    unfold otS
    rw [levB]
    by_cases hc : cand T g s how t
    · by_cases hs : sameL T s how t
      · rw [if_pos ⟨hc, fun _ => hs⟩, decide_eq_true hs, decide_eq_true (⟨hc, hs⟩ : cand T g s how t ∧ sameL T s how t)]
        simp only [Bool.or_true, if_true]
        have hcs : csB T g s how t = true := decide_eq_true ⟨hc, hs⟩
        rw [am, if_pos hcs]
        cases hl : levB T g s how t
        · have hno : am (csB T g s how) (brought T g s) t = (0, 10) := am_none t (fun i hi => by
            cases hx : csB T g s how i
            · rfl
            · have := (levB_iff (T := T) (g := g) (s := s) (how := how) t).mpr ⟨i, hi, of_decide_eq_true hx⟩
              rw [hl] at this
              exact absurd this (by decide))
          rw [hno, if_pos (Or.inr (Or.inl ⟨hs, rfl⟩)), if_pos (Or.inl rfl)]
        · simp only [if_true]
          by_cases h10 : (am (csB T g s how) (brought T g s) t).2 = 10 ∨ brought T g s t < (am (csB T g s how) (brought T g s) t).1
          · rw [if_pos h10, if_pos (by rcases h10 with z | z; exact Or.inl z; exact Or.inr (Or.inr z))]
          · rw [if_neg h10, if_neg (by
              rintro (z | z | z)
              · exact h10 (Or.inl z)
              · exact absurd z.2 (by decide)
              · exact h10 (Or.inr z))]
      · have hcs : csB T g s how t = false := decide_eq_false (fun z => hs z.2)
        rw [decide_eq_false hs, decide_eq_false (fun z => hs z.2 : ¬ (cand T g s how t ∧ sameL T s how t))]
        cases hl : levB T g s how t
        · rw [if_pos ⟨hc, fun z => absurd (show false = true from z) (by decide)⟩]
          have hcd : cdB T g s how t = true := decide_eq_true hc
          simp only [Bool.or_false, Bool.false_eq_true, if_false]
          rw [am, if_pos hcd]
          by_cases h10 : (am (cdB T g s how) (brought T g s) t).2 = 10 ∨ brought T g s t < (am (cdB T g s how) (brought T g s) t).1
          · rw [if_pos h10, if_pos (by rcases h10 with z | z; exact Or.inl z; exact Or.inr (Or.inr z))]
          · rw [if_neg h10, if_neg (by
              rintro (z | z | z)
              · exact h10 (Or.inl z)
              · exact absurd z.1 hs
              · exact h10 (Or.inr z))]
        · rw [if_neg (fun z => hs (z.2 rfl))]
          simp only [Bool.or_false, if_true]
          rw [am, hcs]
          rfl
    · rw [if_neg (fun z => hc z.1), decide_eq_false (fun z => hc z.1 : ¬ (cand T g s how t ∧ sameL T s how t)), Bool.or_false]
      have hcs : csB T g s how t = false := decide_eq_false (fun z => hc z.1)
      have hcd : cdB T g s how t = false := decide_eq_false hc
      cases hl : levB T g s how t
      · simp only [Bool.false_eq_true, if_false]
        rw [am, hcd]
        rfl
      · simp only [if_true]
        rw [am, hcs]
        rfl
theorem am_ok {P : Nat → Bool} {f : Nat → Nat} : ∀ t, (am P f t).2 = 10 ∨ (am P f t).2 < t
  | 0 => Or.inl rfl
  | t + 1 => by
    have ih := am_ok (P := P) (f := f) t
    unfold am
    split
    · split
      · exact Or.inr (Nat.lt_succ_self t)
      · omega
    · omega
end AM
/-- which sources are taken -/
def tkB (T : Nat → Nat) (g s how : Nat) : Nat := if how = 3 ∨ lvB T g s how (T 3) = 0 then srB T g s how (T 3) else lvB T g s how (T 3)
def hwM (m : Nat) : Nat := if m = 6 then 3 else m - 1
/-- what a method left in the ladder -/
def AK (T : Nat → Nat) (g s m : Nat) (I : Nat → Nat → Int32) (J : Nat → Nat → Int64) : Prop := I 111 5 = nI (byW T g s m) ∧ (byW T g s m = 0 → J 111 6 = lN (byV T g s m)) ∧ (m ≠ 1 → m ≠ 5 → I 111 7 = baI T g s m)
def SK (a c : Nat) : Prop := a = 111 ∧ (c = 5 ∨ c = 7)
def SKJ (a : Nat) : Prop := a = 111
def SLd (a c : Nat) : Prop := (a = 111 ∧ (c = 5 ∨ c = 7 ∨ c = 9 ∨ c = 10)) ∨ a = 114
theorem SK_SLd (a c : Nat) (h : SK a c) : SLd a c := by unfold SK at h; unfold SLd; omega
theorem LL.fl {T : Nat → Nat} {g : Nat} {I I' : Nat → Nat → Int32} {J J' : Nat → Nat → Int64} (h : LL T g I J) (hT : VT T) (hI : Fx SLd I I') (hJ : FJ SKJ J J') : LL T g I' J' := ⟨h.1.fd hT (hI.mono (fun a c z => by unfold SLd at z; unfold SD; omega)) (hJ.sub (fun a z => Or.inl z)), fun s hs => by rw [hI _ _ (by unfold SLd; omega)]; exact h.2 s hs⟩
section CL
variable {n g : Nat} {I : Nat → Nat → Int32} {J : Nat → Nat → Int64} {T : Nat → Nat}
theorem C_fits (hT : VT T) (h : CS T g I J) {s t m : Nat} (hs : s < T 3) (ht : t < T 3) (hm : m = 2 ∨ m = 3 ∨ m = 6) : mX1_fits (mk n I J) 111 (nI s) (nI t) (nI m) = some (nI (if isOf T s t (hwM m) then 1 else 0), mk n I J) := by
  have b0 := hT.1
  have hW := h.1
  have c1 := hT.sg hs
  have c2 := hT.sg ht
  have hl1 := like_one (T := T) (T (56 + 12 * s + 0)) (T (56 + 12 * t + 0))
  unfold mX1_fits mX1_fits_b96
  rcases hm with rfl | rfl | rfl
  · have hio : isOf T s t (hwM 2) ↔ T (56 + 12 * s + 0) = T (56 + 12 * t + 0) ∧ nearDay T s t := by
      show (if hwM 2 = 3 then _ else _) ↔ _
      rw [if_neg (by decide)]
      show (like T _ _ = 1 ∧ _) ↔ _
      rw [hl1]
    by_cases a4 : T (56 + 12 * s + 0) = T (56 + 12 * t + 0)
    · by_cases a5 : nearDay T s t
      · simp (disch := omega) only [mk_oO o_111, mk_gR f_111_0, mk_gR f_111_1, mk_gR f_111_2, mk_gR f_111_3, mk_gI f_111_4, mk_pI f_111_4, mk_gI f_111_5, mk_pI f_111_5, mk_gL f_111_6, mk_pL f_111_6, mk_gI f_111_7, mk_pI f_111_7, mk_gR f_111_8, mk_gI f_111_9, mk_pI f_111_9, mk_gI f_111_10, mk_pI f_111_10, mk_oO o_0, mk_oO o_1, mk_oO o_3, mk_gR f_0_0, mk_gR f_0_1, mk_gR f_0_2, mk_gR f_0_3, mk_gR f_0_4, mk_gR f_0_5, mk_gR f_0_6, mk_gR f_0_7, mk_gR f_0_8, mk_gR f_0_9, mk_gI f_0_10, mk_pI f_0_10, mk_gR f_1_0, mk_gI f_1_1, mk_pI f_1_1, mk_gR f_3_0, mk_gR f_3_1, mk_gR f_3_2, mk_gR f_3_3, mk_gR f_3_4, mk_gR f_3_5, mk_gR f_3_6, mk_gR f_3_7, ↓m_1, ↓m_2, i_0, i_1, i_2, i_3, i_4, i_6, i_5, i_12, i_11, i_10, i_9999, i_7, i_9, i_8, i_24, i_100, i_56, i_48, i_13, i_176, i_232, i_224, i_32, i_999, i_99, i_900, i_97, i_90, i_30, i_20, i_59, i_14, i_50, i_29, i_22, i_19, i_18, i_17, i_96, i_61, i_57, i_51, i_41, i_26, i_2552, i_255, i_25, i_23, i_21, i_16, i_15, i_122, i_10000, i_31, dzF, obs, b2_some, rz0, rz1, rzb, n01, n01', n10, n01e, nI_add, nI_mul, ↓reduceIte, not_false_eq_true, not_true_eq_false, ite_not, R_18, CW_s hT hW, eqF, eqT, C_isInWindow hT h, if_pos a5]
        rw [if_pos (hio.mpr ⟨a4, a5⟩)]
      · simp (disch := omega) only [mk_oO o_111, mk_gR f_111_0, mk_gR f_111_1, mk_gR f_111_2, mk_gR f_111_3, mk_gI f_111_4, mk_pI f_111_4, mk_gI f_111_5, mk_pI f_111_5, mk_gL f_111_6, mk_pL f_111_6, mk_gI f_111_7, mk_pI f_111_7, mk_gR f_111_8, mk_gI f_111_9, mk_pI f_111_9, mk_gI f_111_10, mk_pI f_111_10, mk_oO o_0, mk_oO o_1, mk_oO o_3, mk_gR f_0_0, mk_gR f_0_1, mk_gR f_0_2, mk_gR f_0_3, mk_gR f_0_4, mk_gR f_0_5, mk_gR f_0_6, mk_gR f_0_7, mk_gR f_0_8, mk_gR f_0_9, mk_gI f_0_10, mk_pI f_0_10, mk_gR f_1_0, mk_gI f_1_1, mk_pI f_1_1, mk_gR f_3_0, mk_gR f_3_1, mk_gR f_3_2, mk_gR f_3_3, mk_gR f_3_4, mk_gR f_3_5, mk_gR f_3_6, mk_gR f_3_7, ↓m_1, ↓m_2, i_0, i_1, i_2, i_3, i_4, i_6, i_5, i_12, i_11, i_10, i_9999, i_7, i_9, i_8, i_24, i_100, i_56, i_48, i_13, i_176, i_232, i_224, i_32, i_999, i_99, i_900, i_97, i_90, i_30, i_20, i_59, i_14, i_50, i_29, i_22, i_19, i_18, i_17, i_96, i_61, i_57, i_51, i_41, i_26, i_2552, i_255, i_25, i_23, i_21, i_16, i_15, i_122, i_10000, i_31, dzF, obs, b2_some, rz0, rz1, rzb, n01, n01', n10, n01e, nI_add, nI_mul, ↓reduceIte, not_false_eq_true, not_true_eq_false, ite_not, R_18, CW_s hT hW, eqF, eqT, C_isInWindow hT h, if_neg a5]
        rw [if_neg (fun z => a5 (hio.mp z).2)]
    · simp (disch := omega) only [mk_oO o_111, mk_gR f_111_0, mk_gR f_111_1, mk_gR f_111_2, mk_gR f_111_3, mk_gI f_111_4, mk_pI f_111_4, mk_gI f_111_5, mk_pI f_111_5, mk_gL f_111_6, mk_pL f_111_6, mk_gI f_111_7, mk_pI f_111_7, mk_gR f_111_8, mk_gI f_111_9, mk_pI f_111_9, mk_gI f_111_10, mk_pI f_111_10, mk_oO o_0, mk_oO o_1, mk_oO o_3, mk_gR f_0_0, mk_gR f_0_1, mk_gR f_0_2, mk_gR f_0_3, mk_gR f_0_4, mk_gR f_0_5, mk_gR f_0_6, mk_gR f_0_7, mk_gR f_0_8, mk_gR f_0_9, mk_gI f_0_10, mk_pI f_0_10, mk_gR f_1_0, mk_gI f_1_1, mk_pI f_1_1, mk_gR f_3_0, mk_gR f_3_1, mk_gR f_3_2, mk_gR f_3_3, mk_gR f_3_4, mk_gR f_3_5, mk_gR f_3_6, mk_gR f_3_7, ↓m_1, ↓m_2, i_0, i_1, i_2, i_3, i_4, i_6, i_5, i_12, i_11, i_10, i_9999, i_7, i_9, i_8, i_24, i_100, i_56, i_48, i_13, i_176, i_232, i_224, i_32, i_999, i_99, i_900, i_97, i_90, i_30, i_20, i_59, i_14, i_50, i_29, i_22, i_19, i_18, i_17, i_96, i_61, i_57, i_51, i_41, i_26, i_2552, i_255, i_25, i_23, i_21, i_16, i_15, i_122, i_10000, i_31, dzF, obs, b2_some, rz0, rz1, rzb, n01, n01', n10, n01e, nI_add, nI_mul, ↓reduceIte, not_false_eq_true, not_true_eq_false, ite_not, R_18, CW_s hT hW, eqF]
      rw [if_neg (fun z => a4 (hio.mp z).1)]
  · have hio : isOf T s t (hwM 3) ↔ like T (T (56 + 12 * s + 0)) (T (56 + 12 * t + 0)) = 2 ∧ nearDay T s t := by
      show (if hwM 3 = 3 then _ else _) ↔ _
      rw [if_neg (by decide)]
      exact Iff.rfl
    by_cases a4 : like T (T (56 + 12 * s + 0)) (T (56 + 12 * t + 0)) = 2
    · by_cases a5 : nearDay T s t
      · simp (disch := omega) only [mk_oO o_111, mk_gR f_111_0, mk_gR f_111_1, mk_gR f_111_2, mk_gR f_111_3, mk_gI f_111_4, mk_pI f_111_4, mk_gI f_111_5, mk_pI f_111_5, mk_gL f_111_6, mk_pL f_111_6, mk_gI f_111_7, mk_pI f_111_7, mk_gR f_111_8, mk_gI f_111_9, mk_pI f_111_9, mk_gI f_111_10, mk_pI f_111_10, mk_oO o_0, mk_oO o_1, mk_oO o_3, mk_gR f_0_0, mk_gR f_0_1, mk_gR f_0_2, mk_gR f_0_3, mk_gR f_0_4, mk_gR f_0_5, mk_gR f_0_6, mk_gR f_0_7, mk_gR f_0_8, mk_gR f_0_9, mk_gI f_0_10, mk_pI f_0_10, mk_gR f_1_0, mk_gI f_1_1, mk_pI f_1_1, mk_gR f_3_0, mk_gR f_3_1, mk_gR f_3_2, mk_gR f_3_3, mk_gR f_3_4, mk_gR f_3_5, mk_gR f_3_6, mk_gR f_3_7, ↓m_1, ↓m_2, i_0, i_1, i_2, i_3, i_4, i_6, i_5, i_12, i_11, i_10, i_9999, i_7, i_9, i_8, i_24, i_100, i_56, i_48, i_13, i_176, i_232, i_224, i_32, i_999, i_99, i_900, i_97, i_90, i_30, i_20, i_59, i_14, i_50, i_29, i_22, i_19, i_18, i_17, i_96, i_61, i_57, i_51, i_41, i_26, i_2552, i_255, i_25, i_23, i_21, i_16, i_15, i_122, i_10000, i_31, dzF, obs, b2_some, rz0, rz1, rzb, n01, n01', n10, n01e, nI_add, nI_mul, ↓reduceIte, not_false_eq_true, not_true_eq_false, ite_not, R_18, CW_s hT hW, eqF, C_areSimilar hT hW, if_pos a4, C_isInWindow hT h, if_pos a5]
        rw [if_pos (hio.mpr ⟨a4, a5⟩)]
      · simp (disch := omega) only [mk_oO o_111, mk_gR f_111_0, mk_gR f_111_1, mk_gR f_111_2, mk_gR f_111_3, mk_gI f_111_4, mk_pI f_111_4, mk_gI f_111_5, mk_pI f_111_5, mk_gL f_111_6, mk_pL f_111_6, mk_gI f_111_7, mk_pI f_111_7, mk_gR f_111_8, mk_gI f_111_9, mk_pI f_111_9, mk_gI f_111_10, mk_pI f_111_10, mk_oO o_0, mk_oO o_1, mk_oO o_3, mk_gR f_0_0, mk_gR f_0_1, mk_gR f_0_2, mk_gR f_0_3, mk_gR f_0_4, mk_gR f_0_5, mk_gR f_0_6, mk_gR f_0_7, mk_gR f_0_8, mk_gR f_0_9, mk_gI f_0_10, mk_pI f_0_10, mk_gR f_1_0, mk_gI f_1_1, mk_pI f_1_1, mk_gR f_3_0, mk_gR f_3_1, mk_gR f_3_2, mk_gR f_3_3, mk_gR f_3_4, mk_gR f_3_5, mk_gR f_3_6, mk_gR f_3_7, ↓m_1, ↓m_2, i_0, i_1, i_2, i_3, i_4, i_6, i_5, i_12, i_11, i_10, i_9999, i_7, i_9, i_8, i_24, i_100, i_56, i_48, i_13, i_176, i_232, i_224, i_32, i_999, i_99, i_900, i_97, i_90, i_30, i_20, i_59, i_14, i_50, i_29, i_22, i_19, i_18, i_17, i_96, i_61, i_57, i_51, i_41, i_26, i_2552, i_255, i_25, i_23, i_21, i_16, i_15, i_122, i_10000, i_31, dzF, obs, b2_some, rz0, rz1, rzb, n01, n01', n10, n01e, nI_add, nI_mul, ↓reduceIte, not_false_eq_true, not_true_eq_false, ite_not, R_18, CW_s hT hW, eqF, C_areSimilar hT hW, if_pos a4, C_isInWindow hT h, if_neg a5]
        rw [if_neg (fun z => a5 (hio.mp z).2)]
    · simp (disch := omega) only [mk_oO o_111, mk_gR f_111_0, mk_gR f_111_1, mk_gR f_111_2, mk_gR f_111_3, mk_gI f_111_4, mk_pI f_111_4, mk_gI f_111_5, mk_pI f_111_5, mk_gL f_111_6, mk_pL f_111_6, mk_gI f_111_7, mk_pI f_111_7, mk_gR f_111_8, mk_gI f_111_9, mk_pI f_111_9, mk_gI f_111_10, mk_pI f_111_10, mk_oO o_0, mk_oO o_1, mk_oO o_3, mk_gR f_0_0, mk_gR f_0_1, mk_gR f_0_2, mk_gR f_0_3, mk_gR f_0_4, mk_gR f_0_5, mk_gR f_0_6, mk_gR f_0_7, mk_gR f_0_8, mk_gR f_0_9, mk_gI f_0_10, mk_pI f_0_10, mk_gR f_1_0, mk_gI f_1_1, mk_pI f_1_1, mk_gR f_3_0, mk_gR f_3_1, mk_gR f_3_2, mk_gR f_3_3, mk_gR f_3_4, mk_gR f_3_5, mk_gR f_3_6, mk_gR f_3_7, ↓m_1, ↓m_2, i_0, i_1, i_2, i_3, i_4, i_6, i_5, i_12, i_11, i_10, i_9999, i_7, i_9, i_8, i_24, i_100, i_56, i_48, i_13, i_176, i_232, i_224, i_32, i_999, i_99, i_900, i_97, i_90, i_30, i_20, i_59, i_14, i_50, i_29, i_22, i_19, i_18, i_17, i_96, i_61, i_57, i_51, i_41, i_26, i_2552, i_255, i_25, i_23, i_21, i_16, i_15, i_122, i_10000, i_31, dzF, obs, b2_some, rz0, rz1, rzb, n01, n01', n10, n01e, nI_add, nI_mul, ↓reduceIte, not_false_eq_true, not_true_eq_false, ite_not, R_18, CW_s hT hW, eqF, C_areSimilar hT hW, if_neg a4]
      rw [if_neg (fun z => a4 (hio.mp z).1)]
  · have hio : isOf T s t (hwM 6) ↔ T (24 + 4 * T (56 + 12 * s + 0) + 0) = T (24 + 4 * T (56 + 12 * t + 0) + 0) := by
      show (if hwM 6 = 3 then _ else _) ↔ _
      rw [if_pos (by decide)]
    by_cases a4 : T (24 + 4 * T (56 + 12 * s + 0) + 0) = T (24 + 4 * T (56 + 12 * t + 0) + 0)
    · simp (disch := omega) only [mk_oO o_111, mk_gR f_111_0, mk_gR f_111_1, mk_gR f_111_2, mk_gR f_111_3, mk_gI f_111_4, mk_pI f_111_4, mk_gI f_111_5, mk_pI f_111_5, mk_gL f_111_6, mk_pL f_111_6, mk_gI f_111_7, mk_pI f_111_7, mk_gR f_111_8, mk_gI f_111_9, mk_pI f_111_9, mk_gI f_111_10, mk_pI f_111_10, mk_oO o_0, mk_oO o_1, mk_oO o_3, mk_gR f_0_0, mk_gR f_0_1, mk_gR f_0_2, mk_gR f_0_3, mk_gR f_0_4, mk_gR f_0_5, mk_gR f_0_6, mk_gR f_0_7, mk_gR f_0_8, mk_gR f_0_9, mk_gI f_0_10, mk_pI f_0_10, mk_gR f_1_0, mk_gI f_1_1, mk_pI f_1_1, mk_gR f_3_0, mk_gR f_3_1, mk_gR f_3_2, mk_gR f_3_3, mk_gR f_3_4, mk_gR f_3_5, mk_gR f_3_6, mk_gR f_3_7, ↓m_1, ↓m_2, i_0, i_1, i_2, i_3, i_4, i_6, i_5, i_12, i_11, i_10, i_9999, i_7, i_9, i_8, i_24, i_100, i_56, i_48, i_13, i_176, i_232, i_224, i_32, i_999, i_99, i_900, i_97, i_90, i_30, i_20, i_59, i_14, i_50, i_29, i_22, i_19, i_18, i_17, i_96, i_61, i_57, i_51, i_41, i_26, i_2552, i_255, i_25, i_23, i_21, i_16, i_15, i_122, i_10000, i_31, dzF, obs, b2_some, rz0, rz1, rzb, n01, n01', n10, n01e, nI_add, nI_mul, ↓reduceIte, not_false_eq_true, not_true_eq_false, ite_not, R_18, CW_s hT hW, R_6, CW_g hT hW, nI_eq (hT.l31 _) (hT.l31 _), if_pos a4]
      rw [if_pos (hio.mpr a4)]
    · simp (disch := omega) only [mk_oO o_111, mk_gR f_111_0, mk_gR f_111_1, mk_gR f_111_2, mk_gR f_111_3, mk_gI f_111_4, mk_pI f_111_4, mk_gI f_111_5, mk_pI f_111_5, mk_gL f_111_6, mk_pL f_111_6, mk_gI f_111_7, mk_pI f_111_7, mk_gR f_111_8, mk_gI f_111_9, mk_pI f_111_9, mk_gI f_111_10, mk_pI f_111_10, mk_oO o_0, mk_oO o_1, mk_oO o_3, mk_gR f_0_0, mk_gR f_0_1, mk_gR f_0_2, mk_gR f_0_3, mk_gR f_0_4, mk_gR f_0_5, mk_gR f_0_6, mk_gR f_0_7, mk_gR f_0_8, mk_gR f_0_9, mk_gI f_0_10, mk_pI f_0_10, mk_gR f_1_0, mk_gI f_1_1, mk_pI f_1_1, mk_gR f_3_0, mk_gR f_3_1, mk_gR f_3_2, mk_gR f_3_3, mk_gR f_3_4, mk_gR f_3_5, mk_gR f_3_6, mk_gR f_3_7, ↓m_1, ↓m_2, i_0, i_1, i_2, i_3, i_4, i_6, i_5, i_12, i_11, i_10, i_9999, i_7, i_9, i_8, i_24, i_100, i_56, i_48, i_13, i_176, i_232, i_224, i_32, i_999, i_99, i_900, i_97, i_90, i_30, i_20, i_59, i_14, i_50, i_29, i_22, i_19, i_18, i_17, i_96, i_61, i_57, i_51, i_41, i_26, i_2552, i_255, i_25, i_23, i_21, i_16, i_15, i_122, i_10000, i_31, dzF, obs, b2_some, rz0, rz1, rzb, n01, n01', n10, n01e, nI_add, nI_mul, ↓reduceIte, not_false_eq_true, not_true_eq_false, ite_not, R_18, CW_s hT hW, R_6, CW_g hT hW, nI_eq (hT.l31 _) (hT.l31 _), if_neg a4]
      rw [if_neg (fun z => a4 (hio.mp z))]
theorem C_srcL (hT : VT T) (h : LL T g I J) {s m : Nat} (hs : s < T 3) (hm : m = 2 ∨ m = 3 ∨ m = 6) : ∀ (k t fu : Nat), t + k = T 3 → k < fu → mX1_sourcesFor_L8 fu (mk n I J) 111 (nI s) (nI m) (nI (srB T g s (hwM m) t)) (nI (lvB T g s (hwM m) t)) (nI t) = some (nI (tkB T g s (hwM m)), mk n I J) := by
  have b0 := hT.1
  have hW := h.1.1
  have hmm : hwM m = 3 ↔ m = 6 := by rcases hm with rfl | rfl | rfl <;> decide
  intro k
  induction k with
  | zero =>
    intro t fu ht hf
    obtain ⟨fu, rfl⟩ : ∃ f, fu = f + 1 := ⟨fu - 1, by omega⟩
    rw [show t = T 3 by omega]
    have l2 : lvB T g s (hwM m) (T 3) < 2 ^ 10 := bits_lt (P := fun t => cand T g s (hwM m) t ∧ lvl T s = lvl T t) rfl (fun _ => rfl) 10 (T 3) (by omega)
    show mX1_sourcesFor_b8 _ _ _ _ _ _ _ _ = _
    unfold mX1_sourcesFor_b8 mX1_sourcesFor_b114 tkB
    by_cases h6 : m = 6
    · rw [if_pos (show hwM m = 3 ∨ lvB T g s (hwM m) (T 3) = 0 from Or.inl (hmm.mpr h6))]
      simp (disch := omega) only [mk_oO o_111, mk_gR f_111_0, mk_gR f_111_1, mk_gR f_111_2, mk_gR f_111_3, mk_gI f_111_4, mk_pI f_111_4, mk_gI f_111_5, mk_pI f_111_5, mk_gL f_111_6, mk_pL f_111_6, mk_gI f_111_7, mk_pI f_111_7, mk_gR f_111_8, mk_gI f_111_9, mk_pI f_111_9, mk_gI f_111_10, mk_pI f_111_10, mk_oO o_0, mk_oO o_1, mk_oO o_3, mk_gR f_0_0, mk_gR f_0_1, mk_gR f_0_2, mk_gR f_0_3, mk_gR f_0_4, mk_gR f_0_5, mk_gR f_0_6, mk_gR f_0_7, mk_gR f_0_8, mk_gR f_0_9, mk_gI f_0_10, mk_pI f_0_10, mk_gR f_1_0, mk_gI f_1_1, mk_pI f_1_1, mk_gR f_3_0, mk_gR f_3_1, mk_gR f_3_2, mk_gR f_3_3, mk_gR f_3_4, mk_gR f_3_5, mk_gR f_3_6, mk_gR f_3_7, ↓m_1, ↓m_2, i_0, i_1, i_2, i_3, i_4, i_6, i_5, i_12, i_11, i_10, i_9999, i_7, i_9, i_8, i_24, i_100, i_56, i_48, i_13, i_176, i_232, i_224, i_32, i_999, i_99, i_900, i_97, i_90, i_30, i_20, i_59, i_14, i_50, i_29, i_22, i_19, i_18, i_17, i_96, i_61, i_57, i_51, i_41, i_26, i_2552, i_255, i_25, i_23, i_21, i_16, i_15, i_122, i_10000, i_31, dzF, obs, b2_some, rz0, rz1, rzb, n01, n01', n10, n01e, nI_add, nI_mul, ↓reduceIte, not_false_eq_true, not_true_eq_false, ite_not, leT, CW_t hW, eqT]
    · have h3 : ¬ hwM m = 3 := fun z => h6 (hmm.mp z)
      generalize lvB T g s (hwM m) (T 3) = lb at l2
      by_cases hz : lb = 0
      · rw [if_pos (show hwM m = 3 ∨ lb = 0 from Or.inr hz)]
        simp (disch := omega) only [mk_oO o_111, mk_gR f_111_0, mk_gR f_111_1, mk_gR f_111_2, mk_gR f_111_3, mk_gI f_111_4, mk_pI f_111_4, mk_gI f_111_5, mk_pI f_111_5, mk_gL f_111_6, mk_pL f_111_6, mk_gI f_111_7, mk_pI f_111_7, mk_gR f_111_8, mk_gI f_111_9, mk_pI f_111_9, mk_gI f_111_10, mk_pI f_111_10, mk_oO o_0, mk_oO o_1, mk_oO o_3, mk_gR f_0_0, mk_gR f_0_1, mk_gR f_0_2, mk_gR f_0_3, mk_gR f_0_4, mk_gR f_0_5, mk_gR f_0_6, mk_gR f_0_7, mk_gR f_0_8, mk_gR f_0_9, mk_gI f_0_10, mk_pI f_0_10, mk_gR f_1_0, mk_gI f_1_1, mk_pI f_1_1, mk_gR f_3_0, mk_gR f_3_1, mk_gR f_3_2, mk_gR f_3_3, mk_gR f_3_4, mk_gR f_3_5, mk_gR f_3_6, mk_gR f_3_7, ↓m_1, ↓m_2, i_0, i_1, i_2, i_3, i_4, i_6, i_5, i_12, i_11, i_10, i_9999, i_7, i_9, i_8, i_24, i_100, i_56, i_48, i_13, i_176, i_232, i_224, i_32, i_999, i_99, i_900, i_97, i_90, i_30, i_20, i_59, i_14, i_50, i_29, i_22, i_19, i_18, i_17, i_96, i_61, i_57, i_51, i_41, i_26, i_2552, i_255, i_25, i_23, i_21, i_16, i_15, i_122, i_10000, i_31, dzF, obs, b2_some, rz0, rz1, rzb, n01, n01', n10, n01e, nI_add, nI_mul, ↓reduceIte, not_false_eq_true, not_true_eq_false, ite_not, leT, CW_t hW, eqF, eqT]
      · rw [if_neg (show ¬ (hwM m = 3 ∨ lb = 0) from by rintro (z | z); exact h3 z; exact hz z)]
        simp (disch := omega) only [mk_oO o_111, mk_gR f_111_0, mk_gR f_111_1, mk_gR f_111_2, mk_gR f_111_3, mk_gI f_111_4, mk_pI f_111_4, mk_gI f_111_5, mk_pI f_111_5, mk_gL f_111_6, mk_pL f_111_6, mk_gI f_111_7, mk_pI f_111_7, mk_gR f_111_8, mk_gI f_111_9, mk_pI f_111_9, mk_gI f_111_10, mk_pI f_111_10, mk_oO o_0, mk_oO o_1, mk_oO o_3, mk_gR f_0_0, mk_gR f_0_1, mk_gR f_0_2, mk_gR f_0_3, mk_gR f_0_4, mk_gR f_0_5, mk_gR f_0_6, mk_gR f_0_7, mk_gR f_0_8, mk_gR f_0_9, mk_gI f_0_10, mk_pI f_0_10, mk_gR f_1_0, mk_gI f_1_1, mk_pI f_1_1, mk_gR f_3_0, mk_gR f_3_1, mk_gR f_3_2, mk_gR f_3_3, mk_gR f_3_4, mk_gR f_3_5, mk_gR f_3_6, mk_gR f_3_7, ↓m_1, ↓m_2, i_0, i_1, i_2, i_3, i_4, i_6, i_5, i_12, i_11, i_10, i_9999, i_7, i_9, i_8, i_24, i_100, i_56, i_48, i_13, i_176, i_232, i_224, i_32, i_999, i_99, i_900, i_97, i_90, i_30, i_20, i_59, i_14, i_50, i_29, i_22, i_19, i_18, i_17, i_96, i_61, i_57, i_51, i_41, i_26, i_2552, i_255, i_25, i_23, i_21, i_16, i_15, i_122, i_10000, i_31, dzF, obs, b2_some, rz0, rz1, rzb, n01, n01', n10, n01e, nI_add, nI_mul, ↓reduceIte, not_false_eq_true, not_true_eq_false, ite_not, leT, CW_t hW, eqF]
  | succ k ih =>
    intro t fu ht hf
    obtain ⟨fu, rfl⟩ : ∃ f, fu = f + 1 := ⟨fu - 1, by omega⟩
    have e := ih (t + 1) fu (by omega) (by omega)
    have ht3 : t < T 3 := by omega
    have hl1 := h.1.2.2.2.2.1 s hs
    have hl2 := h.1.2.2.2.2.1 t ht3
    have hw := h.2 t ht3
    have hwl := ownW_lt (T := T) (g := g) t
    have v1 := lvl_le hT s
    have v2 := lvl_le hT t
    rw [srB, lvB] at e
    show mX1_sourcesFor_b8 _ _ _ _ _ _ _ _ = _
    unfold mX1_sourcesFor_b8
    by_cases a1 : ¬ t = s ∧ ¬ t = g
    · by_cases a2 : ownW T g t = 0
      · rw [a2] at hw
        by_cases a3 : isOf T s t (hwM m)
        · have hc : cand T g s (hwM m) t := ⟨a1.1, a1.2, a3, a2⟩
          clear a2 hwl
          rw [if_pos hc] at e
          by_cases a4 : lvl T s = lvl T t
          · rw [if_pos ⟨hc, a4⟩] at e
            simp (disch := omega) only [mk_oO o_111, mk_gR f_111_0, mk_gR f_111_1, mk_gR f_111_2, mk_gR f_111_3, mk_gI f_111_4, mk_pI f_111_4, mk_gI f_111_5, mk_pI f_111_5, mk_gL f_111_6, mk_pL f_111_6, mk_gI f_111_7, mk_pI f_111_7, mk_gR f_111_8, mk_gI f_111_9, mk_pI f_111_9, mk_gI f_111_10, mk_pI f_111_10, mk_oO o_100, mk_gR f_100_0, mk_gR f_100_1, mk_gR f_100_2, mk_gI f_100_3, mk_pI f_100_3, mk_gR f_100_4, mk_gR f_100_5, mk_gR f_100_6, mk_gR f_100_7, mk_oO o_0, mk_oO o_1, mk_oO o_3, mk_gR f_0_0, mk_gR f_0_1, mk_gR f_0_2, mk_gR f_0_3, mk_gR f_0_4, mk_gR f_0_5, mk_gR f_0_6, mk_gR f_0_7, mk_gR f_0_8, mk_gR f_0_9, mk_gI f_0_10, mk_pI f_0_10, mk_gR f_1_0, mk_gI f_1_1, mk_pI f_1_1, mk_gR f_3_0, mk_gR f_3_1, mk_gR f_3_2, mk_gR f_3_3, mk_gR f_3_4, mk_gR f_3_5, mk_gR f_3_6, mk_gR f_3_7, ↓m_1, ↓m_2, i_0, i_1, i_2, i_3, i_4, i_6, i_5, i_12, i_11, i_10, i_9999, i_7, i_9, i_8, i_24, i_100, i_56, i_48, i_13, i_176, i_232, i_224, i_32, i_999, i_99, i_900, i_97, i_90, i_30, i_20, i_59, i_14, i_50, i_29, i_22, i_19, i_18, i_17, i_96, i_61, i_57, i_51, i_41, i_26, i_2552, i_255, i_25, i_23, i_21, i_16, i_15, i_122, i_10000, i_31, dzF, obs, b2_some, rz0, rz1, rzb, n01, n01', n10, n01e, nI_add, nI_mul, ↓reduceIte, not_false_eq_true, not_true_eq_false, ite_not, leF, CW_t hW, C_isAnother h.1, if_pos a1, mk_aIn a_112, hw, C_fits hT h.1 hs ht3 hm, if_pos a3, mk_aIn a_103, hl1, hl2, eqT, nI_and, nI_one_shl2, nI_or]
            exact e
          · rw [if_neg (fun z => a4 z.2)] at e
            simp (disch := omega) only [mk_oO o_111, mk_gR f_111_0, mk_gR f_111_1, mk_gR f_111_2, mk_gR f_111_3, mk_gI f_111_4, mk_pI f_111_4, mk_gI f_111_5, mk_pI f_111_5, mk_gL f_111_6, mk_pL f_111_6, mk_gI f_111_7, mk_pI f_111_7, mk_gR f_111_8, mk_gI f_111_9, mk_pI f_111_9, mk_gI f_111_10, mk_pI f_111_10, mk_oO o_100, mk_gR f_100_0, mk_gR f_100_1, mk_gR f_100_2, mk_gI f_100_3, mk_pI f_100_3, mk_gR f_100_4, mk_gR f_100_5, mk_gR f_100_6, mk_gR f_100_7, mk_oO o_0, mk_oO o_1, mk_oO o_3, mk_gR f_0_0, mk_gR f_0_1, mk_gR f_0_2, mk_gR f_0_3, mk_gR f_0_4, mk_gR f_0_5, mk_gR f_0_6, mk_gR f_0_7, mk_gR f_0_8, mk_gR f_0_9, mk_gI f_0_10, mk_pI f_0_10, mk_gR f_1_0, mk_gI f_1_1, mk_pI f_1_1, mk_gR f_3_0, mk_gR f_3_1, mk_gR f_3_2, mk_gR f_3_3, mk_gR f_3_4, mk_gR f_3_5, mk_gR f_3_6, mk_gR f_3_7, ↓m_1, ↓m_2, i_0, i_1, i_2, i_3, i_4, i_6, i_5, i_12, i_11, i_10, i_9999, i_7, i_9, i_8, i_24, i_100, i_56, i_48, i_13, i_176, i_232, i_224, i_32, i_999, i_99, i_900, i_97, i_90, i_30, i_20, i_59, i_14, i_50, i_29, i_22, i_19, i_18, i_17, i_96, i_61, i_57, i_51, i_41, i_26, i_2552, i_255, i_25, i_23, i_21, i_16, i_15, i_122, i_10000, i_31, dzF, obs, b2_some, rz0, rz1, rzb, n01, n01', n10, n01e, nI_add, nI_mul, ↓reduceIte, not_false_eq_true, not_true_eq_false, ite_not, leF, CW_t hW, C_isAnother h.1, if_pos a1, mk_aIn a_112, hw, C_fits hT h.1 hs ht3 hm, if_pos a3, mk_aIn a_103, hl1, hl2, eqF, nI_and, nI_one_shl2, nI_or]
            exact e
        · rw [if_neg (fun z => a3 z.2.2.1), if_neg (fun z => a3 z.1.2.2.1)] at e
          clear a2 hwl
          simp (disch := omega) only [mk_oO o_111, mk_gR f_111_0, mk_gR f_111_1, mk_gR f_111_2, mk_gR f_111_3, mk_gI f_111_4, mk_pI f_111_4, mk_gI f_111_5, mk_pI f_111_5, mk_gL f_111_6, mk_pL f_111_6, mk_gI f_111_7, mk_pI f_111_7, mk_gR f_111_8, mk_gI f_111_9, mk_pI f_111_9, mk_gI f_111_10, mk_pI f_111_10, mk_oO o_100, mk_gR f_100_0, mk_gR f_100_1, mk_gR f_100_2, mk_gI f_100_3, mk_pI f_100_3, mk_gR f_100_4, mk_gR f_100_5, mk_gR f_100_6, mk_gR f_100_7, mk_oO o_0, mk_oO o_1, mk_oO o_3, mk_gR f_0_0, mk_gR f_0_1, mk_gR f_0_2, mk_gR f_0_3, mk_gR f_0_4, mk_gR f_0_5, mk_gR f_0_6, mk_gR f_0_7, mk_gR f_0_8, mk_gR f_0_9, mk_gI f_0_10, mk_pI f_0_10, mk_gR f_1_0, mk_gI f_1_1, mk_pI f_1_1, mk_gR f_3_0, mk_gR f_3_1, mk_gR f_3_2, mk_gR f_3_3, mk_gR f_3_4, mk_gR f_3_5, mk_gR f_3_6, mk_gR f_3_7, ↓m_1, ↓m_2, i_0, i_1, i_2, i_3, i_4, i_6, i_5, i_12, i_11, i_10, i_9999, i_7, i_9, i_8, i_24, i_100, i_56, i_48, i_13, i_176, i_232, i_224, i_32, i_999, i_99, i_900, i_97, i_90, i_30, i_20, i_59, i_14, i_50, i_29, i_22, i_19, i_18, i_17, i_96, i_61, i_57, i_51, i_41, i_26, i_2552, i_255, i_25, i_23, i_21, i_16, i_15, i_122, i_10000, i_31, dzF, obs, b2_some, rz0, rz1, rzb, n01, n01', n10, n01e, nI_add, nI_mul, ↓reduceIte, not_false_eq_true, not_true_eq_false, ite_not, leF, CW_t hW, C_isAnother h.1, if_pos a1, mk_aIn a_112, hw, C_fits hT h.1 hs ht3 hm, if_neg a3]
          exact e
      · rw [if_neg (fun z => a2 z.2.2.2), if_neg (fun z => a2 z.1.2.2.2)] at e
        generalize ownW T g t = w at hw a2 hwl
        simp (disch := omega) only [mk_oO o_111, mk_gR f_111_0, mk_gR f_111_1, mk_gR f_111_2, mk_gR f_111_3, mk_gI f_111_4, mk_pI f_111_4, mk_gI f_111_5, mk_pI f_111_5, mk_gL f_111_6, mk_pL f_111_6, mk_gI f_111_7, mk_pI f_111_7, mk_gR f_111_8, mk_gI f_111_9, mk_pI f_111_9, mk_gI f_111_10, mk_pI f_111_10, mk_oO o_100, mk_gR f_100_0, mk_gR f_100_1, mk_gR f_100_2, mk_gI f_100_3, mk_pI f_100_3, mk_gR f_100_4, mk_gR f_100_5, mk_gR f_100_6, mk_gR f_100_7, mk_oO o_0, mk_oO o_1, mk_oO o_3, mk_gR f_0_0, mk_gR f_0_1, mk_gR f_0_2, mk_gR f_0_3, mk_gR f_0_4, mk_gR f_0_5, mk_gR f_0_6, mk_gR f_0_7, mk_gR f_0_8, mk_gR f_0_9, mk_gI f_0_10, mk_pI f_0_10, mk_gR f_1_0, mk_gI f_1_1, mk_pI f_1_1, mk_gR f_3_0, mk_gR f_3_1, mk_gR f_3_2, mk_gR f_3_3, mk_gR f_3_4, mk_gR f_3_5, mk_gR f_3_6, mk_gR f_3_7, ↓m_1, ↓m_2, i_0, i_1, i_2, i_3, i_4, i_6, i_5, i_12, i_11, i_10, i_9999, i_7, i_9, i_8, i_24, i_100, i_56, i_48, i_13, i_176, i_232, i_224, i_32, i_999, i_99, i_900, i_97, i_90, i_30, i_20, i_59, i_14, i_50, i_29, i_22, i_19, i_18, i_17, i_96, i_61, i_57, i_51, i_41, i_26, i_2552, i_255, i_25, i_23, i_21, i_16, i_15, i_122, i_10000, i_31, dzF, obs, b2_some, rz0, rz1, rzb, n01, n01', n10, n01e, nI_add, nI_mul, ↓reduceIte, not_false_eq_true, not_true_eq_false, ite_not, leF, CW_t hW, C_isAnother h.1, if_pos a1, mk_aIn a_112, hw, eqF]
        exact e
    · rw [if_neg (fun z => a1 ⟨z.1, z.2.1⟩), if_neg (fun z => a1 ⟨z.1.1, z.1.2.1⟩)] at e
      clear hwl
      simp (disch := omega) only [mk_oO o_111, mk_gR f_111_0, mk_gR f_111_1, mk_gR f_111_2, mk_gR f_111_3, mk_gI f_111_4, mk_pI f_111_4, mk_gI f_111_5, mk_pI f_111_5, mk_gL f_111_6, mk_pL f_111_6, mk_gI f_111_7, mk_pI f_111_7, mk_gR f_111_8, mk_gI f_111_9, mk_pI f_111_9, mk_gI f_111_10, mk_pI f_111_10, mk_oO o_100, mk_gR f_100_0, mk_gR f_100_1, mk_gR f_100_2, mk_gI f_100_3, mk_pI f_100_3, mk_gR f_100_4, mk_gR f_100_5, mk_gR f_100_6, mk_gR f_100_7, mk_oO o_0, mk_oO o_1, mk_oO o_3, mk_gR f_0_0, mk_gR f_0_1, mk_gR f_0_2, mk_gR f_0_3, mk_gR f_0_4, mk_gR f_0_5, mk_gR f_0_6, mk_gR f_0_7, mk_gR f_0_8, mk_gR f_0_9, mk_gI f_0_10, mk_pI f_0_10, mk_gR f_1_0, mk_gI f_1_1, mk_pI f_1_1, mk_gR f_3_0, mk_gR f_3_1, mk_gR f_3_2, mk_gR f_3_3, mk_gR f_3_4, mk_gR f_3_5, mk_gR f_3_6, mk_gR f_3_7, ↓m_1, ↓m_2, i_0, i_1, i_2, i_3, i_4, i_6, i_5, i_12, i_11, i_10, i_9999, i_7, i_9, i_8, i_24, i_100, i_56, i_48, i_13, i_176, i_232, i_224, i_32, i_999, i_99, i_900, i_97, i_90, i_30, i_20, i_59, i_14, i_50, i_29, i_22, i_19, i_18, i_17, i_96, i_61, i_57, i_51, i_41, i_26, i_2552, i_255, i_25, i_23, i_21, i_16, i_15, i_122, i_10000, i_31, dzF, obs, b2_some, rz0, rz1, rzb, n01, n01', n10, n01e, nI_add, nI_mul, ↓reduceIte, not_false_eq_true, not_true_eq_false, ite_not, leF, CW_t hW, C_isAnother h.1, if_neg a1]
      exact e
theorem C_sourcesFor (hT : VT T) (h : LL T g I J) {s m : Nat} (hs : s < T 3) (hm : m = 2 ∨ m = 3 ∨ m = 6) : mX1_sourcesFor (mk n I J) 111 (nI s) (nI m) = some (nI (tkB T g s (hwM m)), mk n I J) := by
  have b0 := hT.1
  unfold mX1_sourcesFor
  rw [mk_oO o_111]
  exact C_srcL hT h hs hm (T 3) 0 FU (by omega) (by unfold FU; omega)
theorem C_bringL (hT : VT T) {s Q : Nat} (hs : s < T 3) (hQ : Q < 2 ^ 10) : ∀ (k t fu : Nat) (I : Nat → Nat → Int32) (J : Nat → Nat → Int64), t + k = T 3 → k < fu → LL T g I J → I 111 7 = goN (am (fun i => Q.testBit i) (brought T g s) t).2 → J 111 6 = (if (am (fun i => Q.testBit i) (brought T g s) t).2 = 10 then K1 else lN (am (fun i => Q.testBit i) (brought T g s) t).1) → (am (fun i => Q.testBit i) (brought T g s) t).1 ≤ 300000000000000 → ∃ I' J', mX1_bringLeast_L9 fu (mk n I J) 111 (nI s) (nI Q) (nI t) = some (mk n I' J') ∧ Fx SK I I' ∧ FJ SKJ J J' ∧ I' 111 7 = goN (am (fun i => Q.testBit i) (brought T g s) (T 3)).2 ∧ J' 111 6 = (if (am (fun i => Q.testBit i) (brought T g s) (T 3)).2 = 10 then K1 else lN (am (fun i => Q.testBit i) (brought T g s) (T 3)).1) := by
  have b0 := hT.1
  intro k
  induction k with
  | zero =>
    intro t fu I J ht hf h e1 e2 _
    obtain ⟨fu, rfl⟩ : ∃ f, fu = f + 1 := ⟨fu - 1, by omega⟩
    have hW := h.1.1
    refine ⟨I, J, ?_, Fx.refl I, FJ.refl J, by rw [show T 3 = t by omega]; exact e1, by rw [show T 3 = t by omega]; exact e2⟩
    show mX1_bringLeast_b9 _ _ _ _ _ _ = _
    unfold mX1_bringLeast_b9
    simp (disch := omega) only [mk_oO o_111, mk_gR f_111_0, mk_gR f_111_1, mk_gR f_111_2, mk_gR f_111_3, mk_gI f_111_4, mk_pI f_111_4, mk_gI f_111_5, mk_pI f_111_5, mk_gL f_111_6, mk_pL f_111_6, mk_gI f_111_7, mk_pI f_111_7, mk_gR f_111_8, mk_gI f_111_9, mk_pI f_111_9, mk_gI f_111_10, mk_pI f_111_10, mk_oO o_0, mk_oO o_1, mk_oO o_3, mk_gR f_0_0, mk_gR f_0_1, mk_gR f_0_2, mk_gR f_0_3, mk_gR f_0_4, mk_gR f_0_5, mk_gR f_0_6, mk_gR f_0_7, mk_gR f_0_8, mk_gR f_0_9, mk_gI f_0_10, mk_pI f_0_10, mk_gR f_1_0, mk_gI f_1_1, mk_pI f_1_1, mk_gR f_3_0, mk_gR f_3_1, mk_gR f_3_2, mk_gR f_3_3, mk_gR f_3_4, mk_gR f_3_5, mk_gR f_3_6, mk_gR f_3_7, ↓m_1, ↓m_2, i_0, i_1, i_2, i_3, i_4, i_6, i_5, i_12, i_11, i_10, i_9999, i_7, i_9, i_8, i_24, i_100, i_56, i_48, i_13, i_176, i_232, i_224, i_32, i_999, i_99, i_900, i_97, i_90, i_30, i_20, i_59, i_14, i_50, i_29, i_22, i_19, i_18, i_17, i_96, i_61, i_57, i_51, i_41, i_26, i_2552, i_255, i_25, i_23, i_21, i_16, i_15, i_122, i_10000, i_31, dzF, obs, b2_some, rz0, rz1, rzb, n01, n01', n10, n01e, nI_add, nI_mul, ↓reduceIte, not_false_eq_true, not_true_eq_false, ite_not, leT, CW_t hW]
  | succ k ih =>
    intro t fu I J ht hf h e1 e2 hle
    obtain ⟨fu, rfl⟩ : ∃ f, fu = f + 1 := ⟨fu - 1, by omega⟩
    have hW := h.1.1
    have ht3 : t < T 3 := by omega
    have hok := am_ok (P := fun i => Q.testBit i) (f := brought T g s) t
    have hbr := brought_le (g := g) (s := s) hT ht3
    show ∃ I' J', mX1_bringLeast_b9 _ _ _ _ _ _ = _ ∧ _
    unfold mX1_bringLeast_b9
    have take : am (fun i => Q.testBit i) (brought T g s) (t + 1) = (brought T g s t, t) → ∃ I' J', mX1_bringLeast_b62 (mX1_bringLeast_L9 fu) (mk n I J) 111 (nI s) (nI Q) (nI t) (lN (brought T g s t)) = some (mk n I' J') ∧ Fx SK I I' ∧ FJ SKJ J J' ∧ I' 111 7 = goN (am (fun i => Q.testBit i) (brought T g s) (T 3)).2 ∧ J' 111 6 = (if (am (fun i => Q.testBit i) (brought T g s) (T 3)).2 = 10 then K1 else lN (am (fun i => Q.testBit i) (brought T g s) (T 3)).1) := by
      intro ha
      have f0 : Fx SK I (u2 I 111 7 (nI t)) := Fx_u2 _ _ (by unfold SK; omega)
      have j0 : FJ SKJ J (u2 J 111 6 (lN (brought T g s t))) := FJ_u2 _ _ rfl
      obtain ⟨I', J', e, p1, p2, p3, p4⟩ := ih (t + 1) fu (u2 I 111 7 (nI t)) (u2 J 111 6 (lN (brought T g s t))) (by omega) (by omega) (h.fl hT (f0.mono SK_SLd) j0) (by rw [u2_at, ha]; exact (goN_lt (by omega)).symm) (by rw [u2_at, ha]; exact (if_neg (show ¬ t = 10 by omega)).symm) (by rw [ha]; exact hbr)
      refine ⟨I', J', ?_, f0.trans p1, j0.trans p2, p3, p4⟩
      unfold mX1_bringLeast_b62
      simp (disch := omega) only [mk_oO o_111, mk_gR f_111_0, mk_gR f_111_1, mk_gR f_111_2, mk_gR f_111_3, mk_gI f_111_4, mk_pI f_111_4, mk_gI f_111_5, mk_pI f_111_5, mk_gL f_111_6, mk_pL f_111_6, mk_gI f_111_7, mk_pI f_111_7, mk_gR f_111_8, mk_gI f_111_9, mk_pI f_111_9, mk_gI f_111_10, mk_pI f_111_10, ↓m_1, ↓m_2, i_0, i_1, i_2, i_3, i_4, i_6, i_5, i_12, i_11, i_10, i_9999, i_7, i_9, i_8, i_24, i_100, i_56, i_48, i_13, i_176, i_232, i_224, i_32, i_999, i_99, i_900, i_97, i_90, i_30, i_20, i_59, i_14, i_50, i_29, i_22, i_19, i_18, i_17, i_96, i_61, i_57, i_51, i_41, i_26, i_2552, i_255, i_25, i_23, i_21, i_16, i_15, i_122, i_10000, i_31, dzF, obs, b2_some, rz0, rz1, rzb, n01, n01', n10, n01e, nI_add, nI_mul, ↓reduceIte, not_false_eq_true, not_true_eq_false, ite_not]
      exact e
    have keep : am (fun i => Q.testBit i) (brought T g s) (t + 1) = am (fun i => Q.testBit i) (brought T g s) t → ∃ I' J', mX1_bringLeast_L9 fu (mk n I J) 111 (nI s) (nI Q) (nI (t + 1)) = some (mk n I' J') ∧ Fx SK I I' ∧ FJ SKJ J J' ∧ I' 111 7 = goN (am (fun i => Q.testBit i) (brought T g s) (T 3)).2 ∧ J' 111 6 = (if (am (fun i => Q.testBit i) (brought T g s) (T 3)).2 = 10 then K1 else lN (am (fun i => Q.testBit i) (brought T g s) (T 3)).1) := by
      intro ha
      exact ih (t + 1) fu I J (by omega) (by omega) h (by rw [ha]; exact e1) (by rw [ha]; exact e2) (by rw [ha]; exact hle)
    rw [am] at take keep
    generalize am (fun i => Q.testBit i) (brought T g s) t = b at e1 e2 hle hok take keep
    by_cases hb : Q.testBit t = true
    · rw [if_pos hb] at take keep
      by_cases h10 : b.2 = 10
      · obtain ⟨I', J', e, p⟩ := take (if_pos (Or.inl h10))
        refine ⟨I', J', ?_, p⟩
        rw [h10] at e1
        have e1' : I 111 7 = M1 := e1
        simp (disch := omega) only [mk_oO o_111, mk_gR f_111_0, mk_gR f_111_1, mk_gR f_111_2, mk_gR f_111_3, mk_gI f_111_4, mk_pI f_111_4, mk_gI f_111_5, mk_pI f_111_5, mk_gL f_111_6, mk_pL f_111_6, mk_gI f_111_7, mk_pI f_111_7, mk_gR f_111_8, mk_gI f_111_9, mk_pI f_111_9, mk_gI f_111_10, mk_pI f_111_10, mk_oO o_0, mk_oO o_1, mk_oO o_3, mk_gR f_0_0, mk_gR f_0_1, mk_gR f_0_2, mk_gR f_0_3, mk_gR f_0_4, mk_gR f_0_5, mk_gR f_0_6, mk_gR f_0_7, mk_gR f_0_8, mk_gR f_0_9, mk_gI f_0_10, mk_pI f_0_10, mk_gR f_1_0, mk_gI f_1_1, mk_pI f_1_1, mk_gR f_3_0, mk_gR f_3_1, mk_gR f_3_2, mk_gR f_3_3, mk_gR f_3_4, mk_gR f_3_5, mk_gR f_3_6, mk_gR f_3_7, ↓m_1, ↓m_2, i_0, i_1, i_2, i_3, i_4, i_6, i_5, i_12, i_11, i_10, i_9999, i_7, i_9, i_8, i_24, i_100, i_56, i_48, i_13, i_176, i_232, i_224, i_32, i_999, i_99, i_900, i_97, i_90, i_30, i_20, i_59, i_14, i_50, i_29, i_22, i_19, i_18, i_17, i_96, i_61, i_57, i_51, i_41, i_26, i_2552, i_255, i_25, i_23, i_21, i_16, i_15, i_122, i_10000, i_31, dzF, obs, b2_some, rz0, rz1, rzb, n01, n01', n10, n01e, nI_add, nI_mul, ↓reduceIte, not_false_eq_true, not_true_eq_false, ite_not, leF, CW_t hW, nI_and, nI_bit2, if_pos hb, C_brought hT h.1, e1']
        exact e
      · rw [if_neg h10] at e2
        rw [goN_lt (by omega)] at e1
        by_cases hlt : brought T g s t < b.1
        · obtain ⟨I', J', e, p⟩ := take (if_pos (Or.inr hlt))
          refine ⟨I', J', ?_, p⟩
          have hn : ¬ lN b.1 ≤ lN (brought T g s t) := fun z => by have := (lL_le (by omega) (by omega)).mp z; omega
          simp (disch := omega) only [mk_oO o_111, mk_gR f_111_0, mk_gR f_111_1, mk_gR f_111_2, mk_gR f_111_3, mk_gI f_111_4, mk_pI f_111_4, mk_gI f_111_5, mk_pI f_111_5, mk_gL f_111_6, mk_pL f_111_6, mk_gI f_111_7, mk_pI f_111_7, mk_gR f_111_8, mk_gI f_111_9, mk_pI f_111_9, mk_gI f_111_10, mk_pI f_111_10, mk_oO o_0, mk_oO o_1, mk_oO o_3, mk_gR f_0_0, mk_gR f_0_1, mk_gR f_0_2, mk_gR f_0_3, mk_gR f_0_4, mk_gR f_0_5, mk_gR f_0_6, mk_gR f_0_7, mk_gR f_0_8, mk_gR f_0_9, mk_gI f_0_10, mk_pI f_0_10, mk_gR f_1_0, mk_gI f_1_1, mk_pI f_1_1, mk_gR f_3_0, mk_gR f_3_1, mk_gR f_3_2, mk_gR f_3_3, mk_gR f_3_4, mk_gR f_3_5, mk_gR f_3_6, mk_gR f_3_7, ↓m_1, ↓m_2, i_0, i_1, i_2, i_3, i_4, i_6, i_5, i_12, i_11, i_10, i_9999, i_7, i_9, i_8, i_24, i_100, i_56, i_48, i_13, i_176, i_232, i_224, i_32, i_999, i_99, i_900, i_97, i_90, i_30, i_20, i_59, i_14, i_50, i_29, i_22, i_19, i_18, i_17, i_96, i_61, i_57, i_51, i_41, i_26, i_2552, i_255, i_25, i_23, i_21, i_16, i_15, i_122, i_10000, i_31, dzF, obs, b2_some, rz0, rz1, rzb, n01, n01', n10, n01e, nI_add, nI_mul, ↓reduceIte, not_false_eq_true, not_true_eq_false, ite_not, leF, CW_t hW, nI_and, nI_bit2, if_pos hb, C_brought hT h.1, e1, nM1, e2, if_neg hn]
          exact e
        · obtain ⟨I', J', e, p⟩ := keep (if_neg (by rintro (z | z); exact h10 z; exact hlt z))
          refine ⟨I', J', ?_, p⟩
          have hn : lN b.1 ≤ lN (brought T g s t) := (lL_le (by omega) (by omega)).mpr (by omega)
          simp (disch := omega) only [mk_oO o_111, mk_gR f_111_0, mk_gR f_111_1, mk_gR f_111_2, mk_gR f_111_3, mk_gI f_111_4, mk_pI f_111_4, mk_gI f_111_5, mk_pI f_111_5, mk_gL f_111_6, mk_pL f_111_6, mk_gI f_111_7, mk_pI f_111_7, mk_gR f_111_8, mk_gI f_111_9, mk_pI f_111_9, mk_gI f_111_10, mk_pI f_111_10, mk_oO o_0, mk_oO o_1, mk_oO o_3, mk_gR f_0_0, mk_gR f_0_1, mk_gR f_0_2, mk_gR f_0_3, mk_gR f_0_4, mk_gR f_0_5, mk_gR f_0_6, mk_gR f_0_7, mk_gR f_0_8, mk_gR f_0_9, mk_gI f_0_10, mk_pI f_0_10, mk_gR f_1_0, mk_gI f_1_1, mk_pI f_1_1, mk_gR f_3_0, mk_gR f_3_1, mk_gR f_3_2, mk_gR f_3_3, mk_gR f_3_4, mk_gR f_3_5, mk_gR f_3_6, mk_gR f_3_7, ↓m_1, ↓m_2, i_0, i_1, i_2, i_3, i_4, i_6, i_5, i_12, i_11, i_10, i_9999, i_7, i_9, i_8, i_24, i_100, i_56, i_48, i_13, i_176, i_232, i_224, i_32, i_999, i_99, i_900, i_97, i_90, i_30, i_20, i_59, i_14, i_50, i_29, i_22, i_19, i_18, i_17, i_96, i_61, i_57, i_51, i_41, i_26, i_2552, i_255, i_25, i_23, i_21, i_16, i_15, i_122, i_10000, i_31, dzF, obs, b2_some, rz0, rz1, rzb, n01, n01', n10, n01e, nI_add, nI_mul, ↓reduceIte, not_false_eq_true, not_true_eq_false, ite_not, leF, CW_t hW, nI_and, nI_bit2, if_pos hb, C_brought hT h.1, e1, nM1, e2, if_pos hn]
          exact e
    · rw [if_neg hb] at take keep
      obtain ⟨I', J', e, p⟩ := keep rfl
      refine ⟨I', J', ?_, p⟩
      simp (disch := omega) only [mk_oO o_111, mk_gR f_111_0, mk_gR f_111_1, mk_gR f_111_2, mk_gR f_111_3, mk_gI f_111_4, mk_pI f_111_4, mk_gI f_111_5, mk_pI f_111_5, mk_gL f_111_6, mk_pL f_111_6, mk_gI f_111_7, mk_pI f_111_7, mk_gR f_111_8, mk_gI f_111_9, mk_pI f_111_9, mk_gI f_111_10, mk_pI f_111_10, mk_oO o_0, mk_oO o_1, mk_oO o_3, mk_gR f_0_0, mk_gR f_0_1, mk_gR f_0_2, mk_gR f_0_3, mk_gR f_0_4, mk_gR f_0_5, mk_gR f_0_6, mk_gR f_0_7, mk_gR f_0_8, mk_gR f_0_9, mk_gI f_0_10, mk_pI f_0_10, mk_gR f_1_0, mk_gI f_1_1, mk_pI f_1_1, mk_gR f_3_0, mk_gR f_3_1, mk_gR f_3_2, mk_gR f_3_3, mk_gR f_3_4, mk_gR f_3_5, mk_gR f_3_6, mk_gR f_3_7, ↓m_1, ↓m_2, i_0, i_1, i_2, i_3, i_4, i_6, i_5, i_12, i_11, i_10, i_9999, i_7, i_9, i_8, i_24, i_100, i_56, i_48, i_13, i_176, i_232, i_224, i_32, i_999, i_99, i_900, i_97, i_90, i_30, i_20, i_59, i_14, i_50, i_29, i_22, i_19, i_18, i_17, i_96, i_61, i_57, i_51, i_41, i_26, i_2552, i_255, i_25, i_23, i_21, i_16, i_15, i_122, i_10000, i_31, dzF, obs, b2_some, rz0, rz1, rzb, n01, n01', n10, n01e, nI_add, nI_mul, ↓reduceIte, not_false_eq_true, not_true_eq_false, ite_not, leF, CW_t hW, nI_and, nI_bit2, if_neg hb]
      exact e
theorem tk_am (s how : Nat) (hh : how = 1 ∨ how = 2 ∨ how = 3) : am (fun i => (tkB T g s how).testBit i) (brought T g s) (T 3) = (ot T g s how (T 3)).2 := by
  have hlt3 : ¬ how = 3 → how < 3 := by omega
  have h1 : ∀ i, (srB T g s how (T 3)).testBit i = true ↔ i < T 3 ∧ cand T g s how i := bits_tb (P := fun t => cand T g s how t) rfl (fun _ => rfl) (T 3)
  have h2 : ∀ i, (lvB T g s how (T 3)).testBit i = true ↔ i < T 3 ∧ cand T g s how i ∧ lvl T s = lvl T i := bits_tb (P := fun t => cand T g s how t ∧ lvl T s = lvl T t) rfl (fun _ => rfl) (T 3)
  have h3 : lvB T g s how (T 3) = 0 ↔ ∀ i, i < T 3 → ¬ (cand T g s how i ∧ lvl T s = lvl T i) := bits_zero (P := fun t => cand T g s how t ∧ lvl T s = lvl T t) rfl (fun _ => rfl) (T 3)
  have h4 := levB_iff (T := T) (g := g) (s := s) (how := how) (T 3)
  rw [ot_am]
  apply am_congr
  intro i hi
  apply Bool.eq_iff_iff.mpr
  unfold tkB
  cases hl : levB T g s how (T 3)
  · have hc : how = 3 ∨ lvB T g s how (T 3) = 0 := by
      by_cases h : how = 3
      · exact Or.inl h
      · refine Or.inr (h3.mpr (fun j hj z => ?_))
        have := h4.mpr ⟨j, hj, z.1, hlt3 h, z.2⟩
        rw [hl] at this
        exact absurd this (by decide)
    rw [if_pos hc, h1]
    simp only [Bool.false_eq_true, if_false]
    unfold cdB
    rw [decide_eq_true_eq]
    exact ⟨fun z => z.2, fun z => ⟨hi, z⟩⟩
  · obtain ⟨j, hj, hcj, hsj⟩ := h4.mp hl
    have hc : ¬ (how = 3 ∨ lvB T g s how (T 3) = 0) := by
      rintro (z | z)
      · exact absurd hsj.1 (by rw [z]; decide)
      · exact h3.mp z j hj ⟨hcj, hsj.2⟩
    rw [if_neg hc, h2]
    simp only [if_true]
    unfold csB
    rw [decide_eq_true_eq]
    exact ⟨fun z => ⟨z.2.1, hsj.1, z.2.2⟩, fun z => ⟨hi, z.1, z.2.2⟩⟩
theorem C_ask (hT : VT T) (h : LL T g I J) {s m : Nat} (hs : s < T 3) (h1 : 1 ≤ m) (h6 : m ≤ 6) : ∃ I' J', mX1_ask (mk n I J) 111 (nI s) (nI m) = some (mk n I' J') ∧ Fx SK I I' ∧ FJ SKJ J J' ∧ AK T g s m I' J' := by
  have b0 := hT.1
  have f0 : Fx SK I (u2 I 111 7 M1) := Fx_u2 _ _ (by unfold SK; omega)
  have hL0 : LL T g (u2 I 111 7 M1) J := h.fl hT (f0.mono SK_SLd) (FJ.refl J)
  have others : ∀ m, (m = 2 ∨ m = 3 ∨ m = 6) → byW T g s m = (if othF T g s (hwM m) = 10 then m * 10 + 1 else 0) → byV T g s m = othV T g s (hwM m) → baI T g s m = goN (othF T g s (hwM m)) → ∃ I' J', mX1_ask (mk n I J) 111 (nI s) (nI m) = some (mk n I' J') ∧ Fx SK I I' ∧ FJ SKJ J J' ∧ AK T g s m I' J' := by
    intro m hm w1 w2 w3
    have hh : hwM m = 1 ∨ hwM m = 2 ∨ hwM m = 3 := by rcases hm with rfl | rfl | rfl <;> decide
    have hQ : tkB T g s (hwM m) < 2 ^ 10 := by
      have l1 : srB T g s (hwM m) (T 3) < 2 ^ 10 := bits_lt (P := fun t => cand T g s (hwM m) t) rfl (fun _ => rfl) 10 (T 3) (by omega)
      have l2 : lvB T g s (hwM m) (T 3) < 2 ^ 10 := bits_lt (P := fun t => cand T g s (hwM m) t ∧ lvl T s = lvl T t) rfl (fun _ => rfl) 10 (T 3) (by omega)
      unfold tkB
      split
      · exact l1
      · exact l2
    have e1 := C_sourcesFor (n := n) hT hL0 hs hm
    have j0 : FJ SKJ J (u2 J 111 6 K1) := FJ_u2 _ _ rfl
    obtain ⟨I2, J2, e2, p1, p2, p3, p4⟩ := C_bringL (n := n) hT hs hQ (T 3) 0 FU (u2 I 111 7 M1) (u2 J 111 6 K1) (by omega) (by unfold FU; omega) (hL0.fl hT (Fx.refl _) j0) (by rw [u2_at]; rfl) (by rw [u2_at]; rfl) (Nat.zero_le _)
    rw [tk_am s (hwM m) hh] at p3 p4
    have p3' : I2 111 7 = goN (othF T g s (hwM m)) := p3
    have p4' : J2 111 6 = (if othF T g s (hwM m) = 10 then K1 else lN (othV T g s (hwM m))) := p4
    have c1 := othV_le (g := g) hT s (hwM m)
    have e3 : mX1_bringLeast (mk n (u2 I 111 7 M1) J) 111 (nI s) (nI (tkB T g s (hwM m))) = some (mk n I2 J2) := by
      unfold mX1_bringLeast
      simp (disch := omega) only [mk_oO o_111, mk_gR f_111_0, mk_gR f_111_1, mk_gR f_111_2, mk_gR f_111_3, mk_gI f_111_4, mk_pI f_111_4, mk_gI f_111_5, mk_pI f_111_5, mk_gL f_111_6, mk_pL f_111_6, mk_gI f_111_7, mk_pI f_111_7, mk_gR f_111_8, mk_gI f_111_9, mk_pI f_111_9, mk_gI f_111_10, mk_pI f_111_10, ↓m_1, ↓m_2, i_0, i_1, i_2, i_3, i_4, i_6, i_5, i_12, i_11, i_10, i_9999, i_7, i_9, i_8, i_24, i_100, i_56, i_48, i_13, i_176, i_232, i_224, i_32, i_999, i_99, i_900, i_97, i_90, i_30, i_20, i_59, i_14, i_50, i_29, i_22, i_19, i_18, i_17, i_96, i_61, i_57, i_51, i_41, i_26, i_2552, i_255, i_25, i_23, i_21, i_16, i_15, i_122, i_10000, i_31, ↓k_1, dzF, obs, b2_some, rz0, rz1, rzb, n01, n01', n10, n01e, nI_add, nI_mul, ↓reduceIte, not_false_eq_true, not_true_eq_false, ite_not]
      exact e2
    have f3 : Fx SK I2 (u2 I2 111 5 (nI (byW T g s m))) := Fx_u2 _ _ (by unfold SK; omega)
    refine ⟨u2 I2 111 5 (nI (byW T g s m)), J2, ?_, (f0.trans p1).trans f3, j0.trans p2, by rw [u2_at], fun hz => ?_, fun _ _ => ?_⟩
    · rw [w1]
      generalize tkB T g s (hwM m) = Q at e1 e3
      unfold mX1_ask mX1_ask_b98 mX1_ask_b120
      by_cases hz : othF T g s (hwM m) = 10
      · rw [if_pos hz] at p4'
        have e5 : (nI m * nI 10 + nI 1) = nI (m * 10 + 1) := by rw [nI_mul, nI_add]
        rcases hm with rfl | rfl | rfl <;> simp (disch := omega) only [mk_oO o_111, mk_gR f_111_0, mk_gR f_111_1, mk_gR f_111_2, mk_gR f_111_3, mk_gI f_111_4, mk_pI f_111_4, mk_gI f_111_5, mk_pI f_111_5, mk_gL f_111_6, mk_pL f_111_6, mk_gI f_111_7, mk_pI f_111_7, mk_gR f_111_8, mk_gI f_111_9, mk_pI f_111_9, mk_gI f_111_10, mk_pI f_111_10, ↓m_1, ↓m_2, i_0, i_1, i_2, i_3, i_4, i_6, i_5, i_12, i_11, i_10, i_9999, i_7, i_9, i_8, i_24, i_100, i_56, i_48, i_13, i_176, i_232, i_224, i_32, i_999, i_99, i_900, i_97, i_90, i_30, i_20, i_59, i_14, i_50, i_29, i_22, i_19, i_18, i_17, i_96, i_61, i_57, i_51, i_41, i_26, i_2552, i_255, i_25, i_23, i_21, i_16, i_15, i_122, i_10000, i_31, ↓k_1, dzF, obs, b2_some, rz0, rz1, rzb, n01, n01', n10, n01e, nI_add, nI_mul, ↓reduceIte, not_false_eq_true, not_true_eq_false, ite_not, eqF, e1, e3, p4', if_pos hz]
      · rw [if_neg hz] at p4'
        rcases hm with rfl | rfl | rfl <;> simp (disch := omega) only [mk_oO o_111, mk_gR f_111_0, mk_gR f_111_1, mk_gR f_111_2, mk_gR f_111_3, mk_gI f_111_4, mk_pI f_111_4, mk_gI f_111_5, mk_pI f_111_5, mk_gL f_111_6, mk_pL f_111_6, mk_gI f_111_7, mk_pI f_111_7, mk_gR f_111_8, mk_gI f_111_9, mk_pI f_111_9, mk_gI f_111_10, mk_pI f_111_10, ↓m_1, ↓m_2, i_0, i_1, i_2, i_3, i_4, i_6, i_5, i_12, i_11, i_10, i_9999, i_7, i_9, i_8, i_24, i_100, i_56, i_48, i_13, i_176, i_232, i_224, i_32, i_999, i_99, i_900, i_97, i_90, i_30, i_20, i_59, i_14, i_50, i_29, i_22, i_19, i_18, i_17, i_96, i_61, i_57, i_51, i_41, i_26, i_2552, i_255, i_25, i_23, i_21, i_16, i_15, i_122, i_10000, i_31, ↓k_1, dzF, obs, b2_some, rz0, rz1, rzb, n01, n01', n10, n01e, nI_add, nI_mul, ↓reduceIte, not_false_eq_true, not_true_eq_false, ite_not, eqF, e1, e3, p4', lK1, if_neg hz]
    · rw [w1] at hz
      rw [p4', w2]
      by_cases h10 : othF T g s (hwM m) = 10
      · rw [if_pos h10] at hz; omega
      · rw [if_neg h10]
    · rw [u2_no _ _ (by omega), p3', w3]
  rcases (by omega : m = 1 ∨ m = 4 ∨ m = 5 ∨ (m = 2 ∨ m = 3 ∨ m = 6)) with rfl | rfl | rfl | hm
  · have e1 := h.1.2.2.2.2.2.2.1 s hs
    have e2 := h.2 s hs
    have f3 : Fx SK I (u2 (u2 I 111 7 M1) 111 5 (nI (ownW T g s))) := f0.trans (Fx_u2 _ _ (by unfold SK; omega))
    refine ⟨_, _, ?_, f3, FJ_u2 J (lN (own T g s)) (k := 111) (f := 6) rfl, by rw [u2_at]; rfl, fun _ => by rw [u2_at]; rfl, fun z => absurd rfl z⟩
    generalize ownW T g s = w at e2
    generalize own T g s = o at e1
    unfold mX1_ask
    simp (disch := omega) only [mk_oO o_111, mk_gR f_111_0, mk_gR f_111_1, mk_gR f_111_2, mk_gR f_111_3, mk_gI f_111_4, mk_pI f_111_4, mk_gI f_111_5, mk_pI f_111_5, mk_gL f_111_6, mk_pL f_111_6, mk_gI f_111_7, mk_pI f_111_7, mk_gR f_111_8, mk_gI f_111_9, mk_pI f_111_9, mk_gI f_111_10, mk_pI f_111_10, mk_oO o_100, mk_gR f_100_0, mk_gR f_100_1, mk_gR f_100_2, mk_gI f_100_3, mk_pI f_100_3, mk_gR f_100_4, mk_gR f_100_5, mk_gR f_100_6, mk_gR f_100_7, ↓m_1, ↓m_2, i_0, i_1, i_2, i_3, i_4, i_6, i_5, i_12, i_11, i_10, i_9999, i_7, i_9, i_8, i_24, i_100, i_56, i_48, i_13, i_176, i_232, i_224, i_32, i_999, i_99, i_900, i_97, i_90, i_30, i_20, i_59, i_14, i_50, i_29, i_22, i_19, i_18, i_17, i_96, i_61, i_57, i_51, i_41, i_26, i_2552, i_255, i_25, i_23, i_21, i_16, i_15, i_122, i_10000, i_31, dzF, obs, b2_some, rz0, rz1, rzb, n01, n01', n10, n01e, nI_add, nI_mul, ↓reduceIte, not_false_eq_true, not_true_eq_false, ite_not, mk_aLn a_109, e1, mk_aIn a_112, u2_no, e2]
  · have e1 := h.1.2.2.2.2.2.2.2 s hs
    have hw : byW T g s 4 = if rsP T s = 0 then 41 else 0 := rfl
    have hv : byV T g s 4 = rsV T s := rfl
    have c1 := rsP_le hT s
    have c2 := rsV_le hT s
    have f1 : Fx SK I (u2 (u2 I 111 7 M1) 111 7 (pN (rsP T s))) := f0.trans (Fx_u2 _ _ (by unfold SK; omega))
    have hL1 := h.fl hT (f1.mono SK_SLd) (FJ.refl J)
    have e3 := C_resoldWorth (n := n) hT hL1.1 hs
    refine ⟨_, _, ?_, f1.trans (Fx_u2 _ (nI (byW T g s 4)) (k := 111) (f := 5) (by unfold SK; omega)), FJ_u2 J (if rsP T s = 0 then K1 else lN (rsV T s)) (k := 111) (f := 6) rfl, by rw [u2_at], fun hz => ?_, fun _ _ => by rw [u2_no _ _ (by omega), u2_at]; rfl⟩
    · rw [hw]
      unfold mX1_ask mX1_ask_b98 mX1_ask_b120
      by_cases hz : rsP T s = 0
      · simp only [if_pos hz] at e3 ⊢
        simp (disch := omega) only [mk_oO o_111, mk_gR f_111_0, mk_gR f_111_1, mk_gR f_111_2, mk_gR f_111_3, mk_gI f_111_4, mk_pI f_111_4, mk_gI f_111_5, mk_pI f_111_5, mk_gL f_111_6, mk_pL f_111_6, mk_gI f_111_7, mk_pI f_111_7, mk_gR f_111_8, mk_gI f_111_9, mk_pI f_111_9, mk_gI f_111_10, mk_pI f_111_10, mk_oO o_100, mk_gR f_100_0, mk_gR f_100_1, mk_gR f_100_2, mk_gI f_100_3, mk_pI f_100_3, mk_gR f_100_4, mk_gR f_100_5, mk_gR f_100_6, mk_gR f_100_7, ↓m_1, ↓m_2, i_0, i_1, i_2, i_3, i_4, i_6, i_5, i_12, i_11, i_10, i_9999, i_7, i_9, i_8, i_24, i_100, i_56, i_48, i_13, i_176, i_232, i_224, i_32, i_999, i_99, i_900, i_97, i_90, i_30, i_20, i_59, i_14, i_50, i_29, i_22, i_19, i_18, i_17, i_96, i_61, i_57, i_51, i_41, i_26, i_2552, i_255, i_25, i_23, i_21, i_16, i_15, i_122, i_10000, i_31, ↓k_1, dzF, obs, b2_some, rz0, rz1, rzb, n01, n01', n10, n01e, nI_add, nI_mul, ↓reduceIte, not_false_eq_true, not_true_eq_false, ite_not, eqF, mk_aIn a_110, u2_no, e1, e3, u2_at]
      · simp only [if_neg hz] at e3 ⊢
        simp (disch := omega) only [mk_oO o_111, mk_gR f_111_0, mk_gR f_111_1, mk_gR f_111_2, mk_gR f_111_3, mk_gI f_111_4, mk_pI f_111_4, mk_gI f_111_5, mk_pI f_111_5, mk_gL f_111_6, mk_pL f_111_6, mk_gI f_111_7, mk_pI f_111_7, mk_gR f_111_8, mk_gI f_111_9, mk_pI f_111_9, mk_gI f_111_10, mk_pI f_111_10, mk_oO o_100, mk_gR f_100_0, mk_gR f_100_1, mk_gR f_100_2, mk_gI f_100_3, mk_pI f_100_3, mk_gR f_100_4, mk_gR f_100_5, mk_gR f_100_6, mk_gR f_100_7, ↓m_1, ↓m_2, i_0, i_1, i_2, i_3, i_4, i_6, i_5, i_12, i_11, i_10, i_9999, i_7, i_9, i_8, i_24, i_100, i_56, i_48, i_13, i_176, i_232, i_224, i_32, i_999, i_99, i_900, i_97, i_90, i_30, i_20, i_59, i_14, i_50, i_29, i_22, i_19, i_18, i_17, i_96, i_61, i_57, i_51, i_41, i_26, i_2552, i_255, i_25, i_23, i_21, i_16, i_15, i_122, i_10000, i_31, ↓k_1, dzF, obs, b2_some, rz0, rz1, rzb, n01, n01', n10, n01e, nI_add, nI_mul, ↓reduceIte, not_false_eq_true, not_true_eq_false, ite_not, eqF, mk_aIn a_110, u2_no, e1, e3, u2_at, lK1]
    · rw [hw] at hz
      rw [u2_at, hv]
      by_cases h0 : rsP T s = 0
      · rw [if_pos h0] at hz; omega
      · rw [if_neg h0]
  · have hw : byW T g s 5 = if mkC T s = 0 then 51 else 0 := rfl
    have hv : byV T g s 5 = mkV T g s := rfl
    have c2 := mkV_le (g := g) hT hs
    have e3 := C_madeWorth (n := n) hT hL0.1 hs
    refine ⟨_, _, ?_, f0.trans (Fx_u2 _ (nI (byW T g s 5)) (k := 111) (f := 5) (by unfold SK; omega)), FJ_u2 J (if mkC T s = 0 then K1 else lN (mkV T g s)) (k := 111) (f := 6) rfl, by rw [u2_at], fun hz => ?_, fun _ z => absurd rfl z⟩
    · rw [hw]
      unfold mX1_ask mX1_ask_b98 mX1_ask_b120
      by_cases hz : mkC T s = 0
      · simp only [if_pos hz] at e3 ⊢
        simp (disch := omega) only [mk_oO o_111, mk_gR f_111_0, mk_gR f_111_1, mk_gR f_111_2, mk_gR f_111_3, mk_gI f_111_4, mk_pI f_111_4, mk_gI f_111_5, mk_pI f_111_5, mk_gL f_111_6, mk_pL f_111_6, mk_gI f_111_7, mk_pI f_111_7, mk_gR f_111_8, mk_gI f_111_9, mk_pI f_111_9, mk_gI f_111_10, mk_pI f_111_10, mk_oO o_100, mk_gR f_100_0, mk_gR f_100_1, mk_gR f_100_2, mk_gI f_100_3, mk_pI f_100_3, mk_gR f_100_4, mk_gR f_100_5, mk_gR f_100_6, mk_gR f_100_7, ↓m_1, ↓m_2, i_0, i_1, i_2, i_3, i_4, i_6, i_5, i_12, i_11, i_10, i_9999, i_7, i_9, i_8, i_24, i_100, i_56, i_48, i_13, i_176, i_232, i_224, i_32, i_999, i_99, i_900, i_97, i_90, i_30, i_20, i_59, i_14, i_50, i_29, i_22, i_19, i_18, i_17, i_96, i_61, i_57, i_51, i_41, i_26, i_2552, i_255, i_25, i_23, i_21, i_16, i_15, i_122, i_10000, i_31, ↓k_1, dzF, obs, b2_some, rz0, rz1, rzb, n01, n01', n10, n01e, nI_add, nI_mul, ↓reduceIte, not_false_eq_true, not_true_eq_false, ite_not, eqF, e3, u2_at]
      · simp only [if_neg hz] at e3 ⊢
        simp (disch := omega) only [mk_oO o_111, mk_gR f_111_0, mk_gR f_111_1, mk_gR f_111_2, mk_gR f_111_3, mk_gI f_111_4, mk_pI f_111_4, mk_gI f_111_5, mk_pI f_111_5, mk_gL f_111_6, mk_pL f_111_6, mk_gI f_111_7, mk_pI f_111_7, mk_gR f_111_8, mk_gI f_111_9, mk_pI f_111_9, mk_gI f_111_10, mk_pI f_111_10, mk_oO o_100, mk_gR f_100_0, mk_gR f_100_1, mk_gR f_100_2, mk_gI f_100_3, mk_pI f_100_3, mk_gR f_100_4, mk_gR f_100_5, mk_gR f_100_6, mk_gR f_100_7, ↓m_1, ↓m_2, i_0, i_1, i_2, i_3, i_4, i_6, i_5, i_12, i_11, i_10, i_9999, i_7, i_9, i_8, i_24, i_100, i_56, i_48, i_13, i_176, i_232, i_224, i_32, i_999, i_99, i_900, i_97, i_90, i_30, i_20, i_59, i_14, i_50, i_29, i_22, i_19, i_18, i_17, i_96, i_61, i_57, i_51, i_41, i_26, i_2552, i_255, i_25, i_23, i_21, i_16, i_15, i_122, i_10000, i_31, ↓k_1, dzF, obs, b2_some, rz0, rz1, rzb, n01, n01', n10, n01e, nI_add, nI_mul, ↓reduceIte, not_false_eq_true, not_true_eq_false, ite_not, eqF, e3, u2_at, lK1]
    · rw [hw] at hz
      rw [u2_at, hv]
      by_cases h0 : mkC T s = 0
      · rw [if_pos h0] at hz; omega
      · rw [if_neg h0]
  · refine others m hm ?_ ?_ ?_
    · rcases hm with rfl | rfl | rfl <;> rfl
    · rcases hm with rfl | rfl | rfl <;> rfl
    · rcases hm with rfl | rfl | rfl <;> rfl
end CL
