/-! ===== 91: a sale's line, the class's ===== -/
/-- the extras from q on: a fault or none, where they end, the row -/
def exS (b : Nat → Nat) (N : Nat) (nm : NmL) : Nat → Nat → (Nat → Nat) → Nat → Option Nat × Nat × (Nat → Nat)
  | 0, q, R, _ => (none, q, R)
  | k + 1, q, R, m => if tG b N q < 24 ∨ tG b N q = 30 then (none, q, R) else if tG b N q = 29 then (match tnQ b N (tE b N q) nm 2 with
      | none => (some (ftT b N (tE b N q)), q, R)
      | some a => if (R 11).testBit a = true then (some (8 * tP b N (tE b N q) + 2), q, R) else exS b N nm k (tE b N (tE b N q)) (uT R 11 (R 11 ||| 2 ^ a)) m)
    else if m.testBit (tG b N q) = true then (some (8 * tP b N q + 2), q, R) else if tG b N q = 24 then exS b N nm k (tE b N q) (uT R 6 1) (m ||| 2 ^ 24)
    else if okN b N (tE b N q) 0 (if tG b N q = 25 then 99 else 9999) then exS b N nm k (tE b N (tE b N q)) (uT R (tG b N q - 18) (tV b N (tE b N q))) (m ||| 2 ^ tG b N q) else (some (ftN b N (tE b N q)), q, R)
def rOK (R : Nat → Nat) : Prop := R 6 ≤ 1 ∧ R 7 ≤ 99 ∧ R 11 < 16 ∧ ∀ i, R i ≤ 9999
theorem or_lt16 {x a : Nat} (hx : x < 16) (ha : a < 4) : x ||| 2 ^ a < 16 := Nat.or_lt_two_pow (n := 4) hx (Nat.pow_lt_pow_right (by decide) ha)
theorem rOK.u11 {R : Nat → Nat} (h : rOK R) {a : Nat} (ha : a < 4) : rOK (uT R 11 (R 11 ||| 2 ^ a)) := by
  have := or_lt16 h.2.2.1 ha
  unfold uT
  refine ⟨?_, ?_, ?_, fun i => ?_⟩
  · rw [if_neg (by decide)]; exact h.1
  · rw [if_neg (by decide)]; exact h.2.1
  · rw [if_pos rfl]; exact this
  · split
    · omega
    · exact h.2.2.2 i
theorem rOK.u6 {R : Nat → Nat} (h : rOK R) : rOK (uT R 6 1) := by
  unfold uT
  refine ⟨?_, ?_, ?_, fun i => ?_⟩
  · rw [if_pos rfl]; decide
  · rw [if_neg (by decide)]; exact h.2.1
  · rw [if_neg (by decide)]; exact h.2.2.1
  · split
    · omega
    · exact h.2.2.2 i
theorem rOK.ug {R : Nat → Nat} (h : rOK R) {g v : Nat} (hg : 25 ≤ g ∧ g ≤ 28) (hv : v ≤ if g = 25 then 99 else 9999) : rOK (uT R (g - 18) v) := by
  unfold uT
  refine ⟨?_, ?_, ?_, fun i => ?_⟩
  · rw [if_neg (by omega)]; exact h.1
  · by_cases h25 : g = 25
    · rw [if_pos (by omega)]; rw [if_pos h25] at hv; exact hv
    · rw [if_neg (by omega)]; exact h.2.1
  · rw [if_neg (by omega)]; exact h.2.2.1
  · split
    · split at hv <;> omega
    · exact h.2.2.2 i
section EX
variable {n : Nat} {b : Nat → Nat} {N : Nat} {nm : NmL} {J : Nat → Nat → Int64}
theorem tG_pro {q : Nat} (hq : q ≤ N) (h : tG b N q ≠ 30) : tK b N q = 1 ∧ q < tE b N q := by
  have h1 : tK b N q = 1 := by
    rcases Nat.lt_or_ge (tK b N q) 1 with z | z
    · exact absurd (if_neg (by omega)) h
    · by_cases z2 : tK b N q = 1
      · exact z2
      · exact absurd (if_neg z2) h
  exact ⟨h1, (tK_word hq h1).2.1⟩
theorem exS_in {D : Nat → Nat} (hB : NB nm D) (h2 : D 2 ≤ 4) : ∀ (k q : Nat) (R : Nat → Nat) (m : Nat), q ≤ N → rOK R → q ≤ (exS b N nm k q R m).2.1 ∧ (exS b N nm k q R m).2.1 ≤ N ∧ rOK (exS b N nm k q R m).2.2 ∧ ∀ i, i < 6 → (exS b N nm k q R m).2.2 i = R i
  | 0, q, R, m, hq, hR => ⟨Nat.le_refl _, hq, hR, fun _ _ => rfl⟩
  | k + 1, q, R, m, hq, hR => by
    have hg := tG_le (b := b) (N := N) q
    have e1 := tE_in (b := b) hq
    have e2 := tE_in (b := b) e1.2
    have stop : ∀ o : Option Nat, q ≤ (o, q, R).2.1 ∧ (o, q, R).2.1 ≤ N ∧ rOK (o, q, R).2.2 ∧ ∀ i, i < 6 → (o, q, R).2.2 i = R i := fun o => ⟨Nat.le_refl _, hq, hR, fun _ _ => rfl⟩
    unfold exS
    by_cases h1 : tG b N q < 24 ∨ tG b N q = 30
    · rw [if_pos h1]; exact stop _
    rw [if_neg h1]
    by_cases h29 : tG b N q = 29
    · rw [if_pos h29]
      cases ht : tnQ b N (tE b N q) nm 2 with
      | none => exact stop _
      | some a =>
        have ha := hB.lt ht
        show _ ∧ _
        dsimp only
        by_cases hb : (R 11).testBit a = true
        · rw [if_pos hb]; exact stop _
        · rw [if_neg hb]
          obtain ⟨a1, a2, a3, a4⟩ := exS_in hB h2 k (tE b N (tE b N q)) (uT R 11 (R 11 ||| 2 ^ a)) m e2.2 (hR.u11 (by omega))
          exact ⟨by omega, a2, a3, fun i hi => by rw [a4 i hi]; exact if_neg (by omega)⟩
    rw [if_neg h29]
    by_cases hb : m.testBit (tG b N q) = true
    · rw [if_pos hb]; exact stop _
    rw [if_neg hb]
    by_cases h24 : tG b N q = 24
    · rw [if_pos h24]
      obtain ⟨a1, a2, a3, a4⟩ := exS_in hB h2 k (tE b N q) (uT R 6 1) (m ||| 2 ^ 24) e1.2 hR.u6
      exact ⟨by omega, a2, a3, fun i hi => by rw [a4 i hi]; exact if_neg (by omega)⟩
    rw [if_neg h24]
    by_cases hn : okN b N (tE b N q) 0 (if tG b N q = 25 then 99 else 9999)
    · rw [if_pos hn]
      obtain ⟨a1, a2, a3, a4⟩ := exS_in hB h2 k (tE b N (tE b N q)) (uT R (tG b N q - 18) (tV b N (tE b N q))) (m ||| 2 ^ tG b N q) e2.2 (hR.ug (by omega) hn.2.2)
      exact ⟨by omega, a2, a3, fun i hi => by rw [a4 i hi]; exact if_neg (by omega)⟩
    · rw [if_neg hn]; exact stop _
/-- behind a fault the class's loop ends -/
theorem E_stop {f rc i fu : Nat} {I : Nat → Nat → Int32} (h : FRd b N f I J) (m : Int32) (hi : i ≤ 1000) (hf : 0 < fu) : mX4_readExtras_L4 fu (mk n I J) 94 rc m (nI i) = some (mk n I J) := by
  obtain ⟨fu, rfl⟩ : ∃ f, fu = f + 1 := ⟨fu - 1, by omega⟩
  have h7 := h.2.1
  have h1 := h.2.2.1
  have h2 := h.2.2.2
  show mX4_readExtras_b4 _ _ _ _ _ _ = _
  unfold mX4_readExtras_b4
  by_cases hi9 : 900 ≤ i
  · simp (disch := omega) only [mk_oO o_48, mk_oO o_94, mk_oO o_98, mk_gR f_48_0, mk_gR f_48_1, mk_gR f_48_2, mk_gR f_48_3, mk_gR f_48_4, mk_gR f_48_5, mk_gR f_48_6, mk_gR f_48_7, mk_gR f_94_0, mk_gR f_94_1, mk_gR f_94_2, mk_gR f_94_3, mk_gR f_94_4, mk_gI f_94_5, mk_pI f_94_5, mk_gI f_94_6, mk_pI f_94_6, mk_gI f_94_7, mk_pI f_94_7, mk_gR f_98_0, mk_gR f_98_1, mk_gI f_98_2, mk_pI f_98_2, mk_gI f_98_3, mk_pI f_98_3, mk_gI f_98_4, mk_pI f_98_4, mk_gI f_98_5, mk_pI f_98_5, mk_gI f_98_6, mk_pI f_98_6, mk_gL f_98_7, mk_pL f_98_7, ↓m_1, ↓m_2, i_0, i_1, i_2, i_3, i_4, i_6, i_5, i_12, i_11, i_10, i_9999, i_7, i_9, i_8, i_24, i_100, i_56, i_48, i_13, i_176, i_232, i_224, i_32, i_999, i_99, i_900, i_97, i_90, i_30, i_20, i_59, i_14, i_50, i_29, i_22, i_19, i_18, i_17, i_96, i_61, i_57, i_51, i_41, i_26, i_2552, i_255, i_25, i_23, i_21, i_16, i_15, i_122, i_10000, i_31, dzF, obs, b2_some, rz0, rz1, rzb, n01, n01', n10, n01e, nI_add, nI_mul, ↓reduceIte, not_false_eq_true, not_true_eq_false, ite_not, leT]
  · simp (disch := omega) only [mk_oO o_48, mk_oO o_94, mk_oO o_98, mk_gR f_48_0, mk_gR f_48_1, mk_gR f_48_2, mk_gR f_48_3, mk_gR f_48_4, mk_gR f_48_5, mk_gR f_48_6, mk_gR f_48_7, mk_gR f_94_0, mk_gR f_94_1, mk_gR f_94_2, mk_gR f_94_3, mk_gR f_94_4, mk_gI f_94_5, mk_pI f_94_5, mk_gI f_94_6, mk_pI f_94_6, mk_gI f_94_7, mk_pI f_94_7, mk_gR f_98_0, mk_gR f_98_1, mk_gI f_98_2, mk_pI f_98_2, mk_gI f_98_3, mk_pI f_98_3, mk_gI f_98_4, mk_pI f_98_4, mk_gI f_98_5, mk_pI f_98_5, mk_gI f_98_6, mk_pI f_98_6, mk_gL f_98_7, mk_pL f_98_7, ↓m_1, ↓m_2, i_0, i_1, i_2, i_3, i_4, i_6, i_5, i_12, i_11, i_10, i_9999, i_7, i_9, i_8, i_24, i_100, i_56, i_48, i_13, i_176, i_232, i_224, i_32, i_999, i_99, i_900, i_97, i_90, i_30, i_20, i_59, i_14, i_50, i_29, i_22, i_19, i_18, i_17, i_96, i_61, i_57, i_51, i_41, i_26, i_2552, i_255, i_25, i_23, i_21, i_16, i_15, i_122, i_10000, i_31, dzF, obs, b2_some, rz0, rz1, rzb, n01, n01', n10, n01e, nI_add, nI_mul, ↓reduceIte, not_false_eq_true, not_true_eq_false, ite_not, leF, h7, eqF]
theorem M1_24 : (M1 < nI 24) = True := eq_true (by decide)
theorem and_p0 {x a : Nat} (hx : x < 16) (ha : a < 4) : (nI x &&& nI (2 ^ a) = nI 0) = ¬ (x.testBit a = true) := by
  have : ∀ x : Fin 16, ∀ a : Fin 4, (nI x.1 &&& nI (2 ^ a.1) = nI 0) ↔ ¬ (x.1.testBit a.1 = true) := by decide
  exact propext (this ⟨x, hx⟩ ⟨a, ha⟩)
end EX
