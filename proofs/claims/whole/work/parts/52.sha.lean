/-! ===== 52: shares, one user after the other ===== -/
/-- the first of the users that are not served, among the first t sales: 10: none -/
def fuS (T : Nat → Nat) (g a S t f : Nat) : Nat := if uses T g t a ∧ S.testBit t = false ∧ (f = 10 ∨ T (56 + 12 * t + 5) < T (56 + 12 * f + 5)) then t else f
def fuN (T : Nat → Nat) (g a S : Nat) : Nat → Nat
  | 0 => 10
  | t + 1 => fuS T g a S t (fuN T g a S t)
/-- users not served, among the first t sales -/
def unS (T : Nat → Nat) (g a S : Nat) : Nat → Nat
  | 0 => 0
  | t + 1 => unS T g a S t + if uses T g t a ∧ S.testBit t = false then 1 else 0
/-- pieces of those served -/
def pcS (T : Nat → Nat) (S : Nat) : Nat → Nat
  | 0 => 0
  | t + 1 => pcS T S t + if S.testBit t = true then T (56 + 12 * t + 3) else 0
/-- those served are users, and none that is not served is ahead of one that is -/
def srv (T : Nat → Nat) (g a S : Nat) : Prop := (∀ t, S.testBit t = true → t < T 3 ∧ uses T g t a) ∧ ∀ t t', S.testBit t = true → t' < T 3 → uses T g t' a → ahead T t' t → S.testBit t' = true
section SH
variable {n g : Nat} {J : Nat → Nat → Int64} {T : Nat → Nat}
theorem fuN_ok (hT : VT T) (a S : Nat) : ∀ t, t ≤ T 3 → (fuN T g a S t = 10 ∧ ∀ i, i < t → ¬ (uses T g i a ∧ S.testBit i = false)) ∨ (fuN T g a S t < t ∧ (uses T g (fuN T g a S t) a ∧ S.testBit (fuN T g a S t) = false) ∧ ∀ i, i < t → uses T g i a → S.testBit i = false → i ≠ fuN T g a S t → ahead T (fuN T g a S t) i)
  | 0, _ => Or.inl ⟨rfl, fun i hi => absurd hi (Nat.not_lt_zero _)⟩
  | t + 1, ht => by
    have b0 := hT.1
    have ih := fuN_ok hT a S t (by omega)
    rw [fuN]
    generalize fuN T g a S t = f at ih
    unfold fuS
    by_cases hc : uses T g t a ∧ S.testBit t = false
    · rcases ih with ⟨h1, h2⟩ | ⟨h1, h2, h3⟩
      · rw [if_pos ⟨hc.1, hc.2, Or.inl h1⟩]
        exact Or.inr ⟨by omega, hc, fun i hi hu hs hne => absurd ⟨hu, hs⟩ (h2 i (by omega))⟩
      · by_cases hd : T (56 + 12 * t + 5) < T (56 + 12 * f + 5)
        · rw [if_pos ⟨hc.1, hc.2, Or.inr hd⟩]
          refine Or.inr ⟨by omega, hc, fun i hi hu hs hne => ?_⟩
          by_cases hif : i = f
          · subst hif; exact Or.inl hd
          · have := h3 i (by omega) hu hs hif
            rcases this with z | z
            · exact Or.inl (by omega)
            · exact Or.inl (by omega)
        · rw [if_neg (fun z => by have := z.2.2; omega)]
          refine Or.inr ⟨by omega, h2, fun i hi hu hs hne => ?_⟩
          by_cases hit : i = t
          · subst hit
            by_cases he : T (56 + 12 * i + 5) = T (56 + 12 * f + 5)
            · exact Or.inr ⟨he.symm, h1⟩
            · exact Or.inl (by omega)
          · exact h3 i (by omega) hu hs hne
    · rw [if_neg (fun z => hc ⟨z.1, z.2.1⟩)]
      rcases ih with ⟨h1, h2⟩ | ⟨h1, h2, h3⟩
      · refine Or.inl ⟨h1, fun i hi => ?_⟩
        by_cases hit : i = t
        · subst hit; exact hc
        · exact h2 i (by omega)
      · refine Or.inr ⟨by omega, h2, fun i hi hu hs hne => ?_⟩
        by_cases hit : i = t
        · subst hit; exact absurd ⟨hu, hs⟩ hc
        · exact h3 i (by omega) hu hs hne
theorem tb_add {S f i : Nat} : (S ||| 2 ^ f).testBit i = true ↔ S.testBit i = true ∨ i = f := by
  rw [Nat.testBit_or, Bool.or_eq_true, tb_2p, decide_eq_true_eq]
  constructor
  · rintro (z | z); exact Or.inl z; exact Or.inr z.symm
  · rintro (z | z); exact Or.inl z; exact Or.inr z.symm
theorem tb_add_ne {S f i : Nat} (h : i ≠ f) : (S ||| 2 ^ f).testBit i = S.testBit i := by
  rw [Nat.testBit_or, tb_2p, decide_eq_false (fun z => h z.symm), Bool.or_false]
theorem unS_add {a S f : Nat} (hf : uses T g f a ∧ S.testBit f = false) : ∀ t, unS T g a (S ||| 2 ^ f) t + (if f < t then 1 else 0) = unS T g a S t
  | 0 => by rw [if_neg (Nat.not_lt_zero _)]; rfl
  | t + 1 => by
    have ih := unS_add hf t
    unfold unS
    by_cases h : t = f
    · subst h
      have h1 : (S ||| 2 ^ t).testBit t = true := tb_add.mpr (Or.inr rfl)
      rw [if_neg (by omega)] at ih
      rw [if_pos (by omega : t < t + 1), if_pos hf, if_neg (fun z => absurd (h1.symm.trans z.2) (by decide))]
      omega
    · rw [tb_add_ne h]
      by_cases h2 : f < t
      · rw [if_pos h2] at ih; rw [if_pos (by omega : f < t + 1)]; omega
      · rw [if_neg h2] at ih; rw [if_neg (by omega : ¬ f < t + 1)]; omega
theorem pcS_add {S f : Nat} (hf : S.testBit f = false) : ∀ t, pcS T (S ||| 2 ^ f) t = pcS T S t + (if f < t then T (56 + 12 * f + 3) else 0)
  | 0 => by rw [if_neg (Nat.not_lt_zero _)]; rfl
  | t + 1 => by
    have ih := pcS_add hf t
    unfold pcS
    by_cases h : t = f
    · subst h
      have h1 : (S ||| 2 ^ t).testBit t = true := tb_add.mpr (Or.inr rfl)
      rw [if_neg (by omega)] at ih
      rw [if_pos (by omega : t < t + 1), if_pos h1, if_neg (fun z => absurd (hf.symm.trans z) (by decide)), ih]
    · rw [tb_add_ne h, ih]
      by_cases h2 : f < t
      · rw [if_pos h2, if_pos (by omega : f < t + 1)]; omega
      · rw [if_neg h2, if_neg (by omega : ¬ f < t + 1)]; omega
theorem unS_le (a S : Nat) : ∀ t, unS T g a S t ≤ t
  | 0 => Nat.le_refl _
  | t + 1 => by
    have := unS_le a S t
    unfold unS
    split <;> omega
theorem unS_zero {a S : Nat} : ∀ t, unS T g a S t = 0 → ∀ i, i < t → uses T g i a → S.testBit i = true
  | 0, _, i, hi, _ => absurd hi (Nat.not_lt_zero _)
  | t + 1, h, i, hi, hu => by
    rw [unS] at h
    by_cases hc : uses T g t a ∧ S.testBit t = false
    · rw [if_pos hc] at h; omega
    · rw [if_neg hc] at h
      by_cases hit : i = t
      · subst hit
        cases hx : S.testBit i
        · exact absurd ⟨hu, hx⟩ hc
        · rfl
      · exact unS_zero t h i (by omega) hu
/-- all that is ahead of the next is served, and nothing else -/
theorem ahead_srv {a S f : Nat} (hS : srv T g a S) (hf : f < T 3) (hu : uses T g f a) (hn : S.testBit f = false) (hfirst : ∀ i, i < T 3 → uses T g i a → S.testBit i = false → i ≠ f → ahead T f i) {t : Nat} (ht : t < T 3) : (ahead T t f ∧ uses T g t a) ↔ S.testBit t = true := by
  constructor
  · rintro ⟨h1, h2⟩
    cases hx : S.testBit t
    · exfalso
      by_cases htf : t = f
      · subst htf; rcases h1 with z | z <;> omega
      · have := hfirst t ht h2 hx htf
        rcases h1 with z | z <;> rcases this with y | y <;> omega
    · rfl
  · intro h
    refine ⟨?_, (hS.1 t h).2⟩
    apply Decidable.byContradiction
    intro hna
    have htf : t ≠ f := fun z => by subst z; rw [hn] at h; exact absurd h (by decide)
    have : ahead T f t := by
      by_cases h1 : T (56 + 12 * f + 5) < T (56 + 12 * t + 5)
      · exact Or.inl h1
      · by_cases h2 : T (56 + 12 * f + 5) = T (56 + 12 * t + 5)
        · refine Or.inr ⟨h2, ?_⟩
          apply Decidable.byContradiction
          intro h3
          exact hna (Or.inr ⟨h2.symm, by omega⟩)
        · exact absurd (Or.inl (by omega)) hna
    have := hS.2 t f h hf hu this
    rw [hn] at this
    exact absurd this (by decide)
theorem pcA_srv {a S f : Nat} (h : ∀ t, t < T 3 → ((ahead T t f ∧ uses T g t a) ↔ S.testBit t = true)) : ∀ t, t ≤ T 3 → pcA T g a f t = pcS T S t ∧ (cnA T g a f t = 0 ↔ ∀ i, i < t → S.testBit i = false)
  | 0, _ => ⟨rfl, ⟨fun _ i hi => absurd hi (Nat.not_lt_zero _), fun _ => rfl⟩⟩
  | t + 1, ht => by
    obtain ⟨h1, h2⟩ := pcA_srv h t (by omega)
    have h3 := h t (by omega)
    rw [pcA, pcS, cnA]
    by_cases hc : ahead T t f ∧ uses T g t a
    · have hc' := h3.mp hc
      rw [if_pos hc, if_pos hc', if_pos hc, h1]
      refine ⟨rfl, ⟨fun z => by omega, fun z => ?_⟩⟩
      have := z t (by omega)
      rw [hc'] at this
      exact absurd this (by decide)
    · have hc' : ¬ S.testBit t = true := fun z => hc (h3.mpr z)
      rw [if_neg hc, if_neg hc', if_neg hc, h1]
      refine ⟨rfl, h2.trans ⟨fun z i hi => ?_, fun z i hi => z i (by omega)⟩⟩
      by_cases hit : i = t
      · subst hit; exact Bool.eq_false_iff.mpr hc'
      · exact z i (by omega)
theorem srv_add {a S f : Nat} (hS : srv T g a S) (hf : f < T 3) (hu : uses T g f a) (hn : S.testBit f = false) (hfirst : ∀ i, i < T 3 → uses T g i a → S.testBit i = false → i ≠ f → ahead T f i) : srv T g a (S ||| 2 ^ f) := by
  refine ⟨fun t h => ?_, fun t t' h ht' hu' ha => ?_⟩
  · rcases tb_add.mp h with z | z
    · exact hS.1 t z
    · subst z; exact ⟨hf, hu⟩
  · apply tb_add.mpr
    rcases tb_add.mp h with z | z
    · exact Or.inl (hS.2 t t' z ht' hu' ha)
    · subst z
      exact Or.inl ((ahead_srv hS hf hu hn hfirst ht').mp ⟨ha, hu'⟩)
theorem C_fuL {I : Nat → Nat → Int32} (hT : VT T) (h : WR I 3 T) (hg : I 100 3 = goN g) {a S : Nat} (ha : a < 4) (hS : S < 2 ^ 10) : ∀ (k t fu : Nat), t + k = T 3 → k < fu → mX2_firstUser_L5 fu (mk n I J) 100 (nI a) (nI S) (goN (fuN T g a S t)) (nI t) = some (goN (fuN T g a S (T 3)), mk n I J) := by
  have b0 := hT.1
  intro k
  induction k with
  | zero =>
    intro t fu ht hf
    obtain ⟨fu, rfl⟩ : ∃ f, fu = f + 1 := ⟨fu - 1, by omega⟩
    show mX2_firstUser_b5 _ _ _ _ _ _ _ = _
    unfold mX2_firstUser_b5
    simp (disch := omega) only [mk_oO o_100, mk_gR f_100_0, mk_gR f_100_1, mk_gR f_100_2, mk_gI f_100_3, mk_pI f_100_3, mk_gR f_100_4, mk_gR f_100_5, mk_gR f_100_6, mk_gR f_100_7, mk_oO o_0, mk_oO o_1, mk_oO o_3, mk_gR f_0_0, mk_gR f_0_1, mk_gR f_0_2, mk_gR f_0_3, mk_gR f_0_4, mk_gR f_0_5, mk_gR f_0_6, mk_gR f_0_7, mk_gR f_0_8, mk_gR f_0_9, mk_gI f_0_10, mk_pI f_0_10, mk_gR f_1_0, mk_gI f_1_1, mk_pI f_1_1, mk_gR f_3_0, mk_gR f_3_1, mk_gR f_3_2, mk_gR f_3_3, mk_gR f_3_4, mk_gR f_3_5, mk_gR f_3_6, mk_gR f_3_7, ↓m_1, ↓m_2, i_0, i_1, i_2, i_3, i_4, i_6, i_5, i_12, i_11, i_10, i_9999, i_7, i_9, i_8, i_24, i_100, i_56, i_48, i_13, i_176, i_232, i_224, i_32, i_999, i_99, i_900, i_97, i_90, i_30, i_20, i_59, i_14, i_50, i_29, i_22, i_19, i_18, i_17, i_96, i_61, i_57, i_51, i_41, i_26, i_2552, i_255, i_25, i_23, i_21, i_16, i_15, i_122, i_10000, i_31, dzF, obs, b2_some, rz0, rz1, rzb, n01, n01', n10, n01e, nI_add, nI_mul, ↓reduceIte, not_false_eq_true, not_true_eq_false, ite_not, leT, CW_t h]
    rw [show t = T 3 by omega]
  | succ k ih =>
    intro t fu ht hf
    obtain ⟨fu, rfl⟩ : ∃ f, fu = f + 1 := ⟨fu - 1, by omega⟩
    have e := ih (t + 1) fu (by omega) (by omega)
    have ht3 : t < T 3 := by omega
    have c1 := hT.su ht3
    have hok := fuN_ok (g := g) hT a S t (by omega)
    rw [fuN] at e
    generalize fuN T g a S t = f at e hok
    have hf10 : f = 10 ∨ f < t := by rcases hok with z | z; exact Or.inl z.1; exact Or.inr z.1
    clear hok
    unfold fuS at e
    show mX2_firstUser_b5 _ _ _ _ _ _ _ = _
    unfold mX2_firstUser_b5 mX2_firstUser_b44
    by_cases hu : (T (56 + 12 * t + 11)).testBit a = true
    · by_cases hgo : t = g
      · rw [if_neg (fun z => z.1.1 hgo)] at e
        simp (disch := omega) only [mk_oO o_100, mk_gR f_100_0, mk_gR f_100_1, mk_gR f_100_2, mk_gI f_100_3, mk_pI f_100_3, mk_gR f_100_4, mk_gR f_100_5, mk_gR f_100_6, mk_gR f_100_7, mk_oO o_0, mk_oO o_1, mk_oO o_3, mk_gR f_0_0, mk_gR f_0_1, mk_gR f_0_2, mk_gR f_0_3, mk_gR f_0_4, mk_gR f_0_5, mk_gR f_0_6, mk_gR f_0_7, mk_gR f_0_8, mk_gR f_0_9, mk_gI f_0_10, mk_pI f_0_10, mk_gR f_1_0, mk_gI f_1_1, mk_pI f_1_1, mk_gR f_3_0, mk_gR f_3_1, mk_gR f_3_2, mk_gR f_3_3, mk_gR f_3_4, mk_gR f_3_5, mk_gR f_3_6, mk_gR f_3_7, ↓m_1, ↓m_2, i_0, i_1, i_2, i_3, i_4, i_6, i_5, i_12, i_11, i_10, i_9999, i_7, i_9, i_8, i_24, i_100, i_56, i_48, i_13, i_176, i_232, i_224, i_32, i_999, i_99, i_900, i_97, i_90, i_30, i_20, i_59, i_14, i_50, i_29, i_22, i_19, i_18, i_17, i_96, i_61, i_57, i_51, i_41, i_26, i_2552, i_255, i_25, i_23, i_21, i_16, i_15, i_122, i_10000, i_31, dzF, obs, b2_some, rz0, rz1, rzb, n01, n01', n10, n01e, nI_add, nI_mul, ↓reduceIte, not_false_eq_true, not_true_eq_false, ite_not, leF, CW_t h, R_18, CW_s hT h, nI_and, nI_bit2, if_pos hu, hg, goN_eq, if_pos hgo]
        exact e
      · by_cases hs : S.testBit t = true
        · rw [if_neg (fun z => absurd (hs.symm.trans z.2.1) (by decide))] at e
          simp (disch := omega) only [mk_oO o_100, mk_gR f_100_0, mk_gR f_100_1, mk_gR f_100_2, mk_gI f_100_3, mk_pI f_100_3, mk_gR f_100_4, mk_gR f_100_5, mk_gR f_100_6, mk_gR f_100_7, mk_oO o_0, mk_oO o_1, mk_oO o_3, mk_gR f_0_0, mk_gR f_0_1, mk_gR f_0_2, mk_gR f_0_3, mk_gR f_0_4, mk_gR f_0_5, mk_gR f_0_6, mk_gR f_0_7, mk_gR f_0_8, mk_gR f_0_9, mk_gI f_0_10, mk_pI f_0_10, mk_gR f_1_0, mk_gI f_1_1, mk_pI f_1_1, mk_gR f_3_0, mk_gR f_3_1, mk_gR f_3_2, mk_gR f_3_3, mk_gR f_3_4, mk_gR f_3_5, mk_gR f_3_6, mk_gR f_3_7, ↓m_1, ↓m_2, i_0, i_1, i_2, i_3, i_4, i_6, i_5, i_12, i_11, i_10, i_9999, i_7, i_9, i_8, i_24, i_100, i_56, i_48, i_13, i_176, i_232, i_224, i_32, i_999, i_99, i_900, i_97, i_90, i_30, i_20, i_59, i_14, i_50, i_29, i_22, i_19, i_18, i_17, i_96, i_61, i_57, i_51, i_41, i_26, i_2552, i_255, i_25, i_23, i_21, i_16, i_15, i_122, i_10000, i_31, dzF, obs, b2_some, rz0, rz1, rzb, n01, n01', n10, n01e, nI_add, nI_mul, ↓reduceIte, not_false_eq_true, not_true_eq_false, ite_not, leF, CW_t h, R_18, CW_s hT h, nI_and, nI_bit2, if_pos hu, hg, goN_eq, if_neg hgo, if_pos hs]
          exact e
        · have hs' : S.testBit t = false := Bool.eq_false_iff.mpr hs
          rcases hf10 with h10 | hft
          · rw [if_pos ⟨⟨hgo, hu⟩, hs', Or.inl h10⟩, goN_lt (by omega)] at e
            have hm : goN f = M1 := by rw [h10]; rfl
            simp (disch := omega) only [mk_oO o_100, mk_gR f_100_0, mk_gR f_100_1, mk_gR f_100_2, mk_gI f_100_3, mk_pI f_100_3, mk_gR f_100_4, mk_gR f_100_5, mk_gR f_100_6, mk_gR f_100_7, mk_oO o_0, mk_oO o_1, mk_oO o_3, mk_gR f_0_0, mk_gR f_0_1, mk_gR f_0_2, mk_gR f_0_3, mk_gR f_0_4, mk_gR f_0_5, mk_gR f_0_6, mk_gR f_0_7, mk_gR f_0_8, mk_gR f_0_9, mk_gI f_0_10, mk_pI f_0_10, mk_gR f_1_0, mk_gI f_1_1, mk_pI f_1_1, mk_gR f_3_0, mk_gR f_3_1, mk_gR f_3_2, mk_gR f_3_3, mk_gR f_3_4, mk_gR f_3_5, mk_gR f_3_6, mk_gR f_3_7, ↓m_1, ↓m_2, i_0, i_1, i_2, i_3, i_4, i_6, i_5, i_12, i_11, i_10, i_9999, i_7, i_9, i_8, i_24, i_100, i_56, i_48, i_13, i_176, i_232, i_224, i_32, i_999, i_99, i_900, i_97, i_90, i_30, i_20, i_59, i_14, i_50, i_29, i_22, i_19, i_18, i_17, i_96, i_61, i_57, i_51, i_41, i_26, i_2552, i_255, i_25, i_23, i_21, i_16, i_15, i_122, i_10000, i_31, dzF, obs, b2_some, rz0, rz1, rzb, n01, n01', n10, n01e, nI_add, nI_mul, ↓reduceIte, not_false_eq_true, not_true_eq_false, ite_not, leF, CW_t h, R_18, CW_s hT h, nI_and, nI_bit2, if_pos hu, hg, goN_eq, if_neg hgo, if_neg hs, hm]
            exact e
          · have hm : goN f = nI f := goN_lt (by omega)
            rw [hm]
            simp (disch := omega) only [mk_oO o_100, mk_gR f_100_0, mk_gR f_100_1, mk_gR f_100_2, mk_gI f_100_3, mk_pI f_100_3, mk_gR f_100_4, mk_gR f_100_5, mk_gR f_100_6, mk_gR f_100_7, mk_oO o_0, mk_oO o_1, mk_oO o_3, mk_gR f_0_0, mk_gR f_0_1, mk_gR f_0_2, mk_gR f_0_3, mk_gR f_0_4, mk_gR f_0_5, mk_gR f_0_6, mk_gR f_0_7, mk_gR f_0_8, mk_gR f_0_9, mk_gI f_0_10, mk_pI f_0_10, mk_gR f_1_0, mk_gI f_1_1, mk_pI f_1_1, mk_gR f_3_0, mk_gR f_3_1, mk_gR f_3_2, mk_gR f_3_3, mk_gR f_3_4, mk_gR f_3_5, mk_gR f_3_6, mk_gR f_3_7, ↓m_1, ↓m_2, i_0, i_1, i_2, i_3, i_4, i_6, i_5, i_12, i_11, i_10, i_9999, i_7, i_9, i_8, i_24, i_100, i_56, i_48, i_13, i_176, i_232, i_224, i_32, i_999, i_99, i_900, i_97, i_90, i_30, i_20, i_59, i_14, i_50, i_29, i_22, i_19, i_18, i_17, i_96, i_61, i_57, i_51, i_41, i_26, i_2552, i_255, i_25, i_23, i_21, i_16, i_15, i_122, i_10000, i_31, dzF, obs, b2_some, rz0, rz1, rzb, n01, n01', n10, n01e, nI_add, nI_mul, ↓reduceIte, not_false_eq_true, not_true_eq_false, ite_not, leF, CW_t h, R_18, CW_s hT h, nI_and, nI_bit2, if_pos hu, hg, goN_eq, if_neg hgo, if_neg hs, nM1, nI_leI (hT.l31 _) (hT.l31 _)]
            by_cases hd : T (56 + 12 * f + 5) ≤ T (56 + 12 * t + 5)
            · rw [if_neg (fun z => by have := z.2.2; omega), hm] at e
              rw [if_pos hd]; exact e
            · rw [if_pos ⟨⟨hgo, hu⟩, hs', Or.inr (by omega)⟩, goN_lt (by omega)] at e
              rw [if_neg hd]; exact e
    · rw [if_neg (fun z => hu z.1.2)] at e
      simp (disch := omega) only [mk_oO o_100, mk_gR f_100_0, mk_gR f_100_1, mk_gR f_100_2, mk_gI f_100_3, mk_pI f_100_3, mk_gR f_100_4, mk_gR f_100_5, mk_gR f_100_6, mk_gR f_100_7, mk_oO o_0, mk_oO o_1, mk_oO o_3, mk_gR f_0_0, mk_gR f_0_1, mk_gR f_0_2, mk_gR f_0_3, mk_gR f_0_4, mk_gR f_0_5, mk_gR f_0_6, mk_gR f_0_7, mk_gR f_0_8, mk_gR f_0_9, mk_gI f_0_10, mk_pI f_0_10, mk_gR f_1_0, mk_gI f_1_1, mk_pI f_1_1, mk_gR f_3_0, mk_gR f_3_1, mk_gR f_3_2, mk_gR f_3_3, mk_gR f_3_4, mk_gR f_3_5, mk_gR f_3_6, mk_gR f_3_7, ↓m_1, ↓m_2, i_0, i_1, i_2, i_3, i_4, i_6, i_5, i_12, i_11, i_10, i_9999, i_7, i_9, i_8, i_24, i_100, i_56, i_48, i_13, i_176, i_232, i_224, i_32, i_999, i_99, i_900, i_97, i_90, i_30, i_20, i_59, i_14, i_50, i_29, i_22, i_19, i_18, i_17, i_96, i_61, i_57, i_51, i_41, i_26, i_2552, i_255, i_25, i_23, i_21, i_16, i_15, i_122, i_10000, i_31, dzF, obs, b2_some, rz0, rz1, rzb, n01, n01', n10, n01e, nI_add, nI_mul, ↓reduceIte, not_false_eq_true, not_true_eq_false, ite_not, leF, CW_t h, R_18, CW_s hT h, nI_and, nI_bit2, if_neg hu]
      exact e
theorem C_firstUser {I : Nat → Nat → Int32} (hT : VT T) (h : WR I 3 T) (hg : I 100 3 = goN g) {a S : Nat} (ha : a < 4) (hS : S < 2 ^ 10) : mX2_firstUser (mk n I J) 100 (nI a) (nI S) = some (goN (fuN T g a S (T 3)), mk n I J) := by
  have b0 := hT.1
  unfold mX2_firstUser
  rw [mk_oO o_100]
  exact C_fuL hT h hg ha hS (T 3) 0 FU (by omega) (by unfold FU; omega)
theorem C_cut {h : PH} {x y : Nat} (hx : x < 2 ^ 63) (hy : y < 2 ^ 63) (hy0 : 1 ≤ y) : mX9_cut h (lN x) (lN y) = some (lN (x / y), h) := by
  have h1 : ¬ lN y ≤ lN 0 := fun z => by have := (lL_le hy (by decide)).mp z; omega
  unfold mX9_cut
  simp (disch := omega) only [l_0, if_neg h1, lF0, dzF, lL_div]
theorem C_fillL {b len : Nat} (hb : isI b 0 len = true) (hl : len < 100) : ∀ (k t fu : Nat) (I : Nat → Nat → Int32), t + k = len → k < fu → (∀ i, i < t → I b i = nI 0) → ∃ I', mJ7_fill_53178_L5 fu (mk n I J) b (nI 0) (nI t) (nI len) = some (mk n I' J) ∧ (∀ a c, a ≠ b → I' a c = I a c) ∧ ∀ i, i < len → I' b i = nI 0 := by
  intro k
  induction k with
  | zero =>
    intro t fu I ht hf h
    obtain ⟨fu, rfl⟩ : ∃ f, fu = f + 1 := ⟨fu - 1, by omega⟩
    refine ⟨I, ?_, fun _ _ _ => rfl, fun i hi => h i (by omega)⟩
    show mJ7_fill_53178_b5 _ _ _ _ _ _ = _
    unfold mJ7_fill_53178_b5
    simp (disch := omega) only [leT, ↓reduceIte]
  | succ k ih =>
    intro t fu I ht hf h
    obtain ⟨fu, rfl⟩ : ∃ f, fu = f + 1 := ⟨fu - 1, by omega⟩
    obtain ⟨I', e, f, p⟩ := ih (t + 1) fu (u2 I b t (nI 0)) (by omega) (by omega) (fun i hi => by
      by_cases hit : i = t
      · subst hit; rw [u2_at]
      · rw [u2_no _ _ (by omega)]; exact h i (by omega))
    refine ⟨I', ?_, fun a c ha => by rw [f a c ha, u2_no _ _ (by omega)], p⟩
    show mJ7_fill_53178_b5 _ _ _ _ _ _ = _
    unfold mJ7_fill_53178_b5
    simp (disch := omega) only [↓m_1, ↓m_2, i_0, i_1, i_2, i_3, i_4, i_6, i_5, i_12, i_11, i_10, i_9999, i_7, i_9, i_8, i_24, i_100, i_56, i_48, i_13, i_176, i_232, i_224, i_32, i_999, i_99, i_900, i_97, i_90, i_30, i_20, i_59, i_14, i_50, i_29, i_22, i_19, i_18, i_17, i_96, i_61, i_57, i_51, i_41, i_26, i_2552, i_255, i_25, i_23, i_21, i_16, i_15, i_122, i_10000, i_31, dzF, obs, b2_some, rz0, rz1, rzb, n01, n01', n10, n01e, nI_add, nI_mul, ↓reduceIte, not_false_eq_true, not_true_eq_false, ite_not, leF, mk_sIn hb]
    exact e
theorem C_fill {I : Nat → Nat → Int32} {b len : Nat} (hb : isI b 0 len = true) (hl : len < 100) : ∃ I', mJ7_fill_53178 (mk n I J) b (nI 0) = some (mk n I' J) ∧ (∀ a c, a ≠ b → I' a c = I a c) ∧ ∀ i, i < len → I' b i = nI 0 := by
  obtain ⟨I', e, f, p⟩ := C_fillL (n := n) (J := J) hb hl len 0 FU I (by omega) (by unfold FU; omega) (fun i hi => absurd hi (Nat.not_lt_zero _))
  refine ⟨I', ?_, f, p⟩
  unfold mJ7_fill_53178
  simp only [mk_aN hb, obs, i_0]
  exact e
/-- the row of shares of assist a: of those served as they are, else 0 -/
def shR (T : Nat → Nat) (g a S : Nat) (I : Nat → Nat → Int32) : Prop := ∀ s, s < T 3 → I (105 + a) s = nI (if S.testBit s = true then share T g a s else 0)
def Frow (a : Nat) (I I' : Nat → Nat → Int32) : Prop := ∀ x c, x ≠ 105 + a → I' x c = I x c
theorem Frow.sc {a : Nat} (ha : a < 4) {I I' : Nat → Nat → Int32} (h : Frow a I I') : Fx SC I I' := fun x c hn => h x c (fun z => hn (by subst z; unfold SC; omega))
theorem share_no {a s : Nat} (h : ¬ uses T g s a) : share T g a s = 0 := if_neg h
/-- all users are served: the row is right -/
theorem shR_done {a S : Nat} {I : Nat → Nat → Int32} (h : shR T g a S I) (hall : ∀ i, i < T 3 → uses T g i a → S.testBit i = true) : ∀ s, s < T 3 → I (105 + a) s = nI (share T g a s) := by
  intro s hs
  rw [h s hs]
  by_cases hu : uses T g s a
  · rw [if_pos (hall s hs hu)]
  · rw [share_no hu]
    split <;> rfl
theorem C_shL (hT : VT T) {a : Nat} (ha : a < T 2) : ∀ (k i fu S : Nat) (I : Nat → Nat → Int32), i + k = T 3 → k < fu → WR I 3 T → I 100 3 = goN g → S < 2 ^ 10 → srv T g a S → (T (48 + 2 * a + 1) = 0 → S = 0) → unS T g a S (T 3) ≤ k → shR T g a S I → ∃ I', mX2_shareOut_L43 fu (mk n I J) 100 (nI a) (nI (T (48 + 2 * a + 0))) (nI (T (48 + 2 * a + 1))) (nI (T (48 + 2 * a + 1) - pcS T S (T 3))) (nI S) (nI i) = some (mk n I' J) ∧ Frow a I I' ∧ ∀ s, s < T 3 → I' (105 + a) s = nI (share T g a s) := by
  have b0 := hT.1
  have c1 := hT.le (48 + 2 * a + 1)
  have c2 := hT.le (48 + 2 * a + 0)
  intro k
  induction k with
  | zero =>
    intro i fu S I hi hf h hg hS10 hS hS0 hun hr
    obtain ⟨fu, rfl⟩ : ∃ f, fu = f + 1 := ⟨fu - 1, by omega⟩
    refine ⟨I, ?_, fun _ _ _ => rfl, shR_done hr (unS_zero (T 3) (by omega))⟩
    show mX2_shareOut_b43 _ _ _ _ _ _ _ _ _ = _
    unfold mX2_shareOut_b43
    simp (disch := omega) only [mk_oO o_100, mk_gR f_100_0, mk_gR f_100_1, mk_gR f_100_2, mk_gI f_100_3, mk_pI f_100_3, mk_gR f_100_4, mk_gR f_100_5, mk_gR f_100_6, mk_gR f_100_7, mk_oO o_0, mk_oO o_1, mk_oO o_3, mk_gR f_0_0, mk_gR f_0_1, mk_gR f_0_2, mk_gR f_0_3, mk_gR f_0_4, mk_gR f_0_5, mk_gR f_0_6, mk_gR f_0_7, mk_gR f_0_8, mk_gR f_0_9, mk_gI f_0_10, mk_pI f_0_10, mk_gR f_1_0, mk_gI f_1_1, mk_pI f_1_1, mk_gR f_3_0, mk_gR f_3_1, mk_gR f_3_2, mk_gR f_3_3, mk_gR f_3_4, mk_gR f_3_5, mk_gR f_3_6, mk_gR f_3_7, ↓m_1, ↓m_2, i_0, i_1, i_2, i_3, i_4, i_6, i_5, i_12, i_11, i_10, i_9999, i_7, i_9, i_8, i_24, i_100, i_56, i_48, i_13, i_176, i_232, i_224, i_32, i_999, i_99, i_900, i_97, i_90, i_30, i_20, i_59, i_14, i_50, i_29, i_22, i_19, i_18, i_17, i_96, i_61, i_57, i_51, i_41, i_26, i_2552, i_255, i_25, i_23, i_21, i_16, i_15, i_122, i_10000, i_31, dzF, obs, b2_some, rz0, rz1, rzb, n01, n01', n10, n01e, nI_add, nI_mul, ↓reduceIte, not_false_eq_true, not_true_eq_false, ite_not, leT, CW_t h]
  | succ k ih =>
    intro i fu S I hi hf h hg hS10 hS hS0 hun hr
    obtain ⟨fu, rfl⟩ : ∃ f, fu = f + 1 := ⟨fu - 1, by omega⟩
    have e1 := C_firstUser (n := n) (J := J) hT h hg (by omega : a < 4) hS10
    rcases fuN_ok (g := g) hT a S (T 3) (Nat.le_refl _) with ⟨h10, hno⟩ | ⟨hf3, ⟨hu, hn⟩, hfirst⟩
    · refine ⟨I, ?_, fun _ _ _ => rfl, shR_done hr (fun j hj huj => ?_)⟩
      · have hm : goN (fuN T g a S (T 3)) = M1 := by rw [h10]; rfl
        show mX2_shareOut_b43 _ _ _ _ _ _ _ _ _ = _
        unfold mX2_shareOut_b43
        simp (disch := omega) only [mk_oO o_100, mk_gR f_100_0, mk_gR f_100_1, mk_gR f_100_2, mk_gI f_100_3, mk_pI f_100_3, mk_gR f_100_4, mk_gR f_100_5, mk_gR f_100_6, mk_gR f_100_7, mk_oO o_0, mk_oO o_1, mk_oO o_3, mk_gR f_0_0, mk_gR f_0_1, mk_gR f_0_2, mk_gR f_0_3, mk_gR f_0_4, mk_gR f_0_5, mk_gR f_0_6, mk_gR f_0_7, mk_gR f_0_8, mk_gR f_0_9, mk_gI f_0_10, mk_pI f_0_10, mk_gR f_1_0, mk_gI f_1_1, mk_pI f_1_1, mk_gR f_3_0, mk_gR f_3_1, mk_gR f_3_2, mk_gR f_3_3, mk_gR f_3_4, mk_gR f_3_5, mk_gR f_3_6, mk_gR f_3_7, ↓m_1, ↓m_2, i_0, i_1, i_2, i_3, i_4, i_6, i_5, i_12, i_11, i_10, i_9999, i_7, i_9, i_8, i_24, i_100, i_56, i_48, i_13, i_176, i_232, i_224, i_32, i_999, i_99, i_900, i_97, i_90, i_30, i_20, i_59, i_14, i_50, i_29, i_22, i_19, i_18, i_17, i_96, i_61, i_57, i_51, i_41, i_26, i_2552, i_255, i_25, i_23, i_21, i_16, i_15, i_122, i_10000, i_31, dzF, obs, b2_some, rz0, rz1, rzb, n01, n01', n10, n01e, nI_add, nI_mul, ↓reduceIte, not_false_eq_true, not_true_eq_false, ite_not, leF, CW_t h, e1, hm]
      · cases hx : S.testBit j
        · exact absurd ⟨huj, hx⟩ (hno j hj)
        · rfl
    · generalize fuN T g a S (T 3) = f at e1 hf3 hu hn hfirst
      rw [goN_lt (by omega)] at e1
      have hsrv := fun (t : Nat) (ht : t < T 3) => ahead_srv hS hf3 hu hn hfirst ht
      obtain ⟨hp, hc⟩ := pcA_srv hsrv (T 3) (Nat.le_refl _)
      have c3 := hT.le (56 + 12 * f + 3)
      by_cases hz : T (48 + 2 * a + 1) = 0
      · have hs0 := hS0 hz
        subst hs0
        have hcn : cnA T g a f (T 3) = 0 := hc.mpr (fun j _ => Nat.zero_testBit j)
        have hsf : share T g a f = T (48 + 2 * a + 0) := by unfold share; rw [if_pos hu, if_pos hz, if_pos hcn]
        refine ⟨u2 I (105 + a) f (nI (T (48 + 2 * a + 0))), ?_, fun x c hx => u2_no _ _ (by omega), fun s hs => ?_⟩
        · show mX2_shareOut_b43 _ _ _ _ _ _ _ _ _ = _
          unfold mX2_shareOut_b43
          simp (disch := omega) only [mk_oO o_100, mk_gR f_100_0, mk_gR f_100_1, mk_gR f_100_2, mk_gI f_100_3, mk_pI f_100_3, mk_gR f_100_4, mk_gR f_100_5, mk_gR f_100_6, mk_gR f_100_7, mk_oO o_0, mk_oO o_1, mk_oO o_3, mk_gR f_0_0, mk_gR f_0_1, mk_gR f_0_2, mk_gR f_0_3, mk_gR f_0_4, mk_gR f_0_5, mk_gR f_0_6, mk_gR f_0_7, mk_gR f_0_8, mk_gR f_0_9, mk_gI f_0_10, mk_pI f_0_10, mk_gR f_1_0, mk_gI f_1_1, mk_pI f_1_1, mk_gR f_3_0, mk_gR f_3_1, mk_gR f_3_2, mk_gR f_3_3, mk_gR f_3_4, mk_gR f_3_5, mk_gR f_3_6, mk_gR f_3_7, ↓m_1, ↓m_2, i_0, i_1, i_2, i_3, i_4, i_6, i_5, i_12, i_11, i_10, i_9999, i_7, i_9, i_8, i_24, i_100, i_56, i_48, i_13, i_176, i_232, i_224, i_32, i_999, i_99, i_900, i_97, i_90, i_30, i_20, i_59, i_14, i_50, i_29, i_22, i_19, i_18, i_17, i_96, i_61, i_57, i_51, i_41, i_26, i_2552, i_255, i_25, i_23, i_21, i_16, i_15, i_122, i_10000, i_31, dzF, obs, b2_some, rz0, rz1, rzb, n01, n01', n10, n01e, nI_add, nI_mul, ↓reduceIte, not_false_eq_true, not_true_eq_false, ite_not, leF, CW_t h, e1, nM1, hz, R_104, S_105]
        · by_cases hsf' : s = f
          · subst hsf'; rw [u2_at, hsf]
          · rw [u2_no _ _ (by omega), hr s hs, Nat.zero_testBit]
            have : share T g a s = 0 := by
              unfold share
              by_cases hus : uses T g s a
              · rw [if_pos hus, if_pos hz, if_neg]
                intro hz2
                have hah := hfirst s hs hus (Nat.zero_testBit s) hsf'
                have : ∀ t, t ≤ T 3 → cnA T g a s t = 0 → ∀ j, j < t → ¬ (ahead T j s ∧ uses T g j a) := by
                  intro t
                  induction t with
                  | zero => intro _ _ j hj; exact absurd hj (Nat.not_lt_zero _)
                  | succ t ih2 =>
                    intro ht hct j hj
                    rw [cnA] at hct
                    by_cases hcc : ahead T t s ∧ uses T g t a
                    · rw [if_pos hcc] at hct; omega
                    · rw [if_neg hcc] at hct
                      by_cases hjt : j = t
                      · subst hjt; exact hcc
                      · exact ih2 (by omega) hct j (by omega)
                exact this (T 3) (Nat.le_refl _) hz2 f hf3 ⟨hah, hu⟩
              · rw [if_neg hus]
            rw [this]
            rfl
      · have hlt : S ||| 2 ^ f < 2 ^ 10 := Nat.or_lt_two_pow hS10 (Nat.pow_lt_pow_right (by decide) (by omega))
        have hps := pcS_add (T := T) hn (T 3)
        rw [if_pos hf3] at hps
        have huns := unS_add (T := T) ⟨hu, hn⟩ (T 3)
        rw [if_pos hf3] at huns
        have hsf : share T g a f = T (48 + 2 * a + 0) * min (T (48 + 2 * a + 1) - pcS T S (T 3)) (T (56 + 12 * f + 3)) / T (48 + 2 * a + 1) := by
          unfold share; rw [if_pos hu, if_neg hz, hp]
        have hmn : mmin (nI (T (48 + 2 * a + 1) - pcS T S (T 3))) (nI (T (56 + 12 * f + 3))) = nI (min (T (48 + 2 * a + 1) - pcS T S (T 3)) (T (56 + 12 * f + 3))) := by
          unfold mmin
          by_cases hlt : T (56 + 12 * f + 3) < T (48 + 2 * a + 1) - pcS T S (T 3)
          · rw [if_pos (nI_lt hlt (by omega)), Nat.min_eq_right (by omega)]
          · rw [if_neg (nI_nlt (by omega) (by omega)), Nat.min_eq_left (by omega)]
        obtain ⟨I', e, fr, p⟩ := ih (i + 1) fu (S ||| 2 ^ f) (u2 I (105 + a) f (nI (share T g a f))) (by omega) (by omega) (h.fc hT (Fx_u2 _ _ (by unfold SC; omega))) (by rw [u2_no _ _ (by omega)]; exact hg) hlt (srv_add hS hf3 hu hn hfirst) (fun z => absurd z hz) (by omega) (fun s hs => by
          by_cases hsf' : s = f
          · subst hsf'; rw [u2_at, if_pos (tb_add.mpr (Or.inr rfl))]
          · rw [u2_no _ _ (by omega), hr s hs, tb_add_ne hsf'])
        refine ⟨I', ?_, fun x c hx => by rw [fr x c hx, u2_no _ _ (by omega)], p⟩
        have hm1 : T (48 + 2 * a + 0) * min (T (48 + 2 * a + 1) - pcS T S (T 3)) (T (56 + 12 * f + 3)) ≤ 9999 * 9999 := Nat.mul_le_mul c2 (by omega)
        have hl1 : T (48 + 2 * a + 1) - pcS T S (T 3) - min (T (48 + 2 * a + 1) - pcS T S (T 3)) (T (56 + 12 * f + 3)) = T (48 + 2 * a + 1) - pcS T (S ||| 2 ^ f) (T 3) := by rw [hps]; omega
        rw [hsf, ← hl1] at e
        show mX2_shareOut_b43 _ _ _ _ _ _ _ _ _ = _
        unfold mX2_shareOut_b43
        simp (disch := omega) only [mk_oO o_100, mk_gR f_100_0, mk_gR f_100_1, mk_gR f_100_2, mk_gI f_100_3, mk_pI f_100_3, mk_gR f_100_4, mk_gR f_100_5, mk_gR f_100_6, mk_gR f_100_7, mk_oO o_0, mk_oO o_1, mk_oO o_3, mk_gR f_0_0, mk_gR f_0_1, mk_gR f_0_2, mk_gR f_0_3, mk_gR f_0_4, mk_gR f_0_5, mk_gR f_0_6, mk_gR f_0_7, mk_gR f_0_8, mk_gR f_0_9, mk_gI f_0_10, mk_pI f_0_10, mk_gR f_1_0, mk_gI f_1_1, mk_pI f_1_1, mk_gR f_3_0, mk_gR f_3_1, mk_gR f_3_2, mk_gR f_3_3, mk_gR f_3_4, mk_gR f_3_5, mk_gR f_3_6, mk_gR f_3_7, ↓m_1, ↓m_2, i_0, i_1, i_2, i_3, i_4, i_6, i_5, i_12, i_11, i_10, i_9999, i_7, i_9, i_8, i_24, i_100, i_56, i_48, i_13, i_176, i_232, i_224, i_32, i_999, i_99, i_900, i_97, i_90, i_30, i_20, i_59, i_14, i_50, i_29, i_22, i_19, i_18, i_17, i_96, i_61, i_57, i_51, i_41, i_26, i_2552, i_255, i_25, i_23, i_21, i_16, i_15, i_122, i_10000, i_31, dzF, obs, b2_some, rz0, rz1, rzb, n01, n01', n10, n01e, nI_add, nI_mul, ↓reduceIte, not_false_eq_true, not_true_eq_false, ite_not, leF, CW_t h, e1, nM1, eqF, R_18, CW_s hT h, R_104, hmn, nI_l, nI_l (hT.l31 _), lN_mul, C_cut, S_105, lN_i, nI_sub, nI_and, nI_one_shl2, nI_or]
        exact e
theorem pcS_zero : ∀ t, pcS T 0 t = 0
  | 0 => rfl
  | t + 1 => by rw [pcS, pcS_zero t, Nat.zero_testBit]; rfl
theorem C_shareOut {I : Nat → Nat → Int32} (hT : VT T) (h : WR I 3 T) (hg : I 100 3 = goN g) {a : Nat} (ha : a < T 2) : ∃ I', mX2_shareOut (mk n I J) 100 (nI a) = some (mk n I' J) ∧ Frow a I I' ∧ ∀ s, s < T 3 → I' (105 + a) s = nI (share T g a s) := by
  have b0 := hT.1
  obtain ⟨I1, e1, f1, p1⟩ := C_fill (n := n) (J := J) (I := I) (r_104 a (by omega)) (by decide)
  have f1' : Frow a I I1 := f1
  obtain ⟨I2, e2, f2, p2⟩ := C_shL (n := n) (J := J) (g := g) hT ha (T 3) 0 FU 0 I1 (by omega) (by unfold FU; omega) (h.fc hT (f1'.sc (by omega))) (by rw [f1 _ _ (by omega)]; exact hg) (by decide) ⟨fun t z => absurd z (by rw [Nat.zero_testBit]; decide), fun t t' z => absurd z (by rw [Nat.zero_testBit]; decide)⟩ (fun _ => rfl) (unS_le a 0 (T 3)) (fun s hs => by rw [p1 s (by omega), Nat.zero_testBit]; rfl)
  refine ⟨I2, ?_, fun x c hx => by rw [f2 x c hx, f1 x c hx], p2⟩
  rw [pcS_zero, Nat.sub_zero] at e2
  unfold mX2_shareOut
  simp (disch := omega) only [mk_oO o_100, mk_gR f_100_0, mk_gR f_100_1, mk_gR f_100_2, mk_gI f_100_3, mk_pI f_100_3, mk_gR f_100_4, mk_gR f_100_5, mk_gR f_100_6, mk_gR f_100_7, mk_oO o_0, mk_oO o_1, mk_oO o_3, mk_gR f_0_0, mk_gR f_0_1, mk_gR f_0_2, mk_gR f_0_3, mk_gR f_0_4, mk_gR f_0_5, mk_gR f_0_6, mk_gR f_0_7, mk_gR f_0_8, mk_gR f_0_9, mk_gI f_0_10, mk_pI f_0_10, mk_gR f_1_0, mk_gI f_1_1, mk_pI f_1_1, mk_gR f_3_0, mk_gR f_3_1, mk_gR f_3_2, mk_gR f_3_3, mk_gR f_3_4, mk_gR f_3_5, mk_gR f_3_6, mk_gR f_3_7, ↓m_1, ↓m_2, i_0, i_1, i_2, i_3, i_4, i_6, i_5, i_12, i_11, i_10, i_9999, i_7, i_9, i_8, i_24, i_100, i_56, i_48, i_13, i_176, i_232, i_224, i_32, i_999, i_99, i_900, i_97, i_90, i_30, i_20, i_59, i_14, i_50, i_29, i_22, i_19, i_18, i_17, i_96, i_61, i_57, i_51, i_41, i_26, i_2552, i_255, i_25, i_23, i_21, i_16, i_15, i_122, i_10000, i_31, dzF, obs, b2_some, rz0, rz1, rzb, n01, n01', n10, n01e, nI_add, nI_mul, ↓reduceIte, not_false_eq_true, not_true_eq_false, ite_not, R_13, CW_a hT h, R_104, e1]
  exact e2
end SH
