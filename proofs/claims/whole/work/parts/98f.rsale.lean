/-! ===== 98f: the extras and a sale, the reference's ===== -/
section RE
variable {n : Nat} {b : Nat → Nat} {N q : Nat} {nm : NmL} {I : Nat → Nat → Int32} {J : Nat → Nat → Int64}
theorem RE_head (h : RRd b N q nm I J) (r2 : PH → Nat → Int32 → Int32 → Option (Int32 × PH)) (p x : Int32) : mX10_extras_b2 r2 (mk n I J) 224 p x = mX10_extras_b93 r2 (mk n I J) 224 p x (if tG b N q < 24 ∨ tG b N q = 30 then M1 else nI (tG b N q - 18)) := by
  have hg := tG_le (b := b) (N := N) q
  unfold mX10_extras_b2
  rcases (by omega : tG b N q = 24 ∨ tG b N q = 25 ∨ tG b N q = 26 ∨ tG b N q = 27 ∨ tG b N q = 28 ∨ tG b N q = 29 ∨ (tG b N q < 24 ∨ tG b N q = 30)) with z | z | z | z | z | z | z
  · rw [if_neg (show ¬ (tG b N q < 24 ∨ tG b N q = 30) by omega)]
    simp only [l_2610628, is_24 h, z, b2_some, ↓reduceIte, i_0, n10, i_6]
  · rw [if_neg (show ¬ (tG b N q < 24 ∨ tG b N q = 30) by omega)]
    simp only [l_2610628, l_19856929433, is_24 h, is_25 h, z, b2_some, Nat.reduceEqDiff, ↓reduceIte, i_0, n10, i_7]
  · rw [if_neg (show ¬ (tG b N q < 24 ∨ tG b N q = 30) by omega)]
    simp only [l_2610628, l_19856929433, l_6309, is_24 h, is_25 h, is_26 h, z, b2_some, Nat.reduceEqDiff, ↓reduceIte, i_0, n10, i_8]
  · rw [if_neg (show ¬ (tG b N q < 24 ∨ tG b N q = 30) by omega)]
    simp only [l_2610628, l_19856929433, l_6309, l_17216939463, is_24 h, is_25 h, is_26 h, is_27 h, z, b2_some, Nat.reduceEqDiff, ↓reduceIte, i_0, n10, i_9]
  · rw [if_neg (show ¬ (tG b N q < 24 ∨ tG b N q = 30) by omega)]
    simp only [l_2610628, l_19856929433, l_6309, l_17216939463, l_7051975956, is_24 h, is_25 h, is_26 h, is_27 h, is_28 h, z, b2_some, Nat.reduceEqDiff, ↓reduceIte, i_0, n10, i_10]
  · rw [if_neg (show ¬ (tG b N q < 24 ∨ tG b N q = 30) by omega)]
    simp only [l_2610628, l_19856929433, l_6309, l_17216939463, l_7051975956, l_707763, is_24 h, is_25 h, is_26 h, is_27 h, is_28 h, is_29 h, z, b2_some, Nat.reduceEqDiff, ↓reduceIte, i_0, n10, i_11]
  · have n24 : ¬ tG b N q = 24 := by omega
    have n25 : ¬ tG b N q = 25 := by omega
    have n26 : ¬ tG b N q = 26 := by omega
    have n27 : ¬ tG b N q = 27 := by omega
    have n28 : ¬ tG b N q = 28 := by omega
    have n29 : ¬ tG b N q = 29 := by omega
    rw [if_pos z]
    simp only [l_2610628, l_19856929433, l_6309, l_17216939463, l_7051975956, l_707763, is_24 h, is_25 h, is_26 h, is_27 h, is_28 h, is_29 h, n24, n25, n26, n27, n28, n29, b2_some, ↓reduceIte, i_0, m_1]
/-- what the extras leave -/
def ExR (n : Nat) (b : Nat → Nat) (N : Nat) (nm : NmL) (p : Nat) (I : Nat → Nat → Int32) (J : Nat → Nat → Int64) (r : Option Nat × Nat × (Nat → Nat)) (c : Option (Int32 × PH)) : Prop := ∃ I' J', Fr I I' ∧ Gq J J' ∧ (∀ d, d < p ∨ p + 12 ≤ d → I' 226 d = I 226 d) ∧ I' 224 22 = I 224 22 ∧ ((r.1 = none ∧ c = some (nI 1, mk n I' J') ∧ RRd b N r.2.1 nm I' J' ∧ ∀ j, j < 12 → I' 226 (p + j) = nI (r.2.2 j)) ∨ (∃ f, r.1 = some f ∧ c = some (nI 0, mk n I' J') ∧ I' 224 15 = nI f))
theorem RE_loop {p : Nat} (hp : 12 ≤ p ∧ p + 12 ≤ 232) {D : Nat → Nat} (hB : NB nm D) (h2 : D 2 ≤ 4) : ∀ (k q fu : Nat) (I : Nat → Nat → Int32) (J : Nat → Nat → Int64) (R : Nat → Nat) (m x : Nat), N - q < k → k < fu → RRd b N q nm I J → (∀ j, j < 12 → I 226 (p + j) = nI (R j)) → rOK R → x < 2 ^ 11 → (∀ g, 24 ≤ g → g ≤ 28 → x.testBit (g - 18) = m.testBit g) → ExR n b N nm p I J (exS b N nm k q R m) (mX10_extras_L2 fu (mk n I J) 224 (nI p) (nI x)) := by
  intro k
  induction k with
  | zero => intro q fu I J R m x h1; exact absurd h1 (Nat.not_lt_zero _)
  | succ k ih =>
    intro q fu I J R m x hk hf h hR ho hx hxm
    obtain ⟨fu, rfl⟩ : ∃ f, fu = f + 1 := ⟨fu - 1, by omega⟩
    have hN := h.1.1
    have hq := h.2.1
    have hg := tG_le (b := b) (N := N) q
    have p1 := tE_in (b := b) hq
    have p2 := tE_in (b := b) p1.2
    have e0 : mX10_extras_L2 (fu + 1) (mk n I J) 224 (nI p) (nI x) = _ := RE_head h (mX10_extras_L2 fu) (nI p) (nI x)
    by_cases hA : tG b N q < 24 ∨ tG b N q = 30
    · rw [show exS b N nm (k + 1) q R m = (none, q, R) by rw [exS, if_pos hA]]
      refine ⟨I, J, Fr.refl _, Gq.refl _, fun _ _ => rfl, rfl, Or.inl ⟨rfl, ?_, h, hR⟩⟩
      rw [e0, if_pos hA]
      unfold mX10_extras_b93
      rw [if_pos (show M1 = -1 from rfl)]
      exact rz1 _
    rw [if_neg hA] at e0
    obtain ⟨hK1, hlt⟩ := tG_pro hq (fun z => hA (Or.inr z))
    have hM : ¬ nI (tG b N q - 18) = (-1 : Int32) := by rw [m_1]; exact of_eq_false (nM1 (by omega))
    by_cases h29 : tG b N q = 29
    · obtain ⟨I1, J1, e1, r1, f1, g1⟩ := R_step (n := n) h (by omega)
      have hb93 : mX10_extras_L2 (fu + 1) (mk n I J) 224 (nI p) (nI x) = b2 (mX10_usesExtra (mk n I J) 224 (nI p)) fun v109 h109 => if v109 = 0 then rz (0 : Int32) h109 else mX10_extras_L2 fu h109 224 (nI p) (nI x) := by
        rw [e0]
        unfold mX10_extras_b93
        rw [if_neg hM, if_pos (show nI (tG b N q - 18) = 11 by rw [h29]; rfl)]
      rcases R_ish (n := n) r1 (s := 2) (by decide) with ⟨a, m2, e2, r2, hK2⟩ | ⟨m2, e2⟩
      rotate_left
      · rw [show exS b N nm (k + 1) q R m = (some (ftT b N (tE b N q)), q, R) by rw [exS, if_neg hA, if_pos h29, m2]]
        refine ⟨_, J1, f1.fr.trans (Fq_u _ (nI (ftT b N (tE b N q))) (Or.inl rfl)).fr, g1.gq, fun d hd => by rw [u2_no _ _ (by omega), f1.d _ _ (by omega)], by rw [u2_no _ _ (by omega), f1.d _ _ (by omega)], Or.inr ⟨_, rfl, ?_, u2_at _ _ _ _⟩⟩
        rw [hb93]
        unfold mX10_usesExtra
        simp (disch := omega) only [mk_oO o_224, mk_gI f_224_0, mk_pI f_224_0, mk_gR f_224_1, mk_gR f_224_2, mk_gR f_224_3, mk_gR f_224_4, mk_gR f_224_5, mk_gI f_224_6, mk_pI f_224_6, mk_gR f_224_7, mk_gI f_224_8, mk_pI f_224_8, mk_gI f_224_9, mk_pI f_224_9, mk_gI f_224_10, mk_pI f_224_10, mk_gI f_224_11, mk_pI f_224_11, mk_gI f_224_12, mk_pI f_224_12, mk_gI f_224_13, mk_pI f_224_13, mk_gL f_224_14, mk_pL f_224_14, mk_gI f_224_15, mk_pI f_224_15, mk_gI f_224_16, mk_pI f_224_16, mk_gR f_224_17, mk_gR f_224_18, mk_gR f_224_19, mk_gI f_224_20, mk_pI f_224_20, mk_gR f_224_21, mk_gI f_224_22, mk_pI f_224_22, mk_gI f_224_23, mk_pI f_224_23, mk_gI f_224_24, mk_pI f_224_24, mk_gI f_224_25, mk_pI f_224_25, mk_gR f_224_26, mk_gI f_224_27, mk_pI f_224_27, mk_gI f_224_28, mk_pI f_224_28, mk_gR f_224_29, mk_gI f_224_30, mk_pI f_224_30, mk_gI f_224_31, mk_pI f_224_31, mk_gR f_224_32, mk_gI f_224_33, mk_pI f_224_33, ↓m_1, ↓m_2, i_0, i_1, i_2, i_3, i_4, i_6, i_5, i_12, i_11, i_10, i_9999, i_7, i_9, i_8, i_24, i_100, i_56, i_48, i_13, i_176, i_232, i_224, i_32, i_999, i_99, i_900, i_97, i_90, i_30, i_20, i_59, i_14, i_50, i_29, i_22, i_19, i_18, i_17, i_96, i_61, i_57, i_51, i_41, i_26, i_2552, i_255, i_25, i_23, i_21, i_16, i_15, i_122, i_10000, i_31, dzF, obs, b2_some, rz0, rz1, rzb, n01, n01', n10, n01e, nI_add, nI_mul, ↓reduceIte, not_false_eq_true, not_true_eq_false, ite_not, e1, e2]
      have ha : a < 4 := by have := hB.lt m2; omega
      have v2 : u2 I1 224 16 (nI a) 226 (p + 11) = nI (R 11) := by rw [u2_no _ _ (by omega), f1.d _ _ (by omega)]; exact hR 11 (by decide)
      have h16 := ho.2.2.1
      have eh : ∀ H : PH, mX10_has H (nI (R 11)) (nI a) = some (nI (if (R 11).testBit a = true then 1 else 0), H) := fun H => R_has (by omega) (by omega)
      by_cases hb : (R 11).testBit a = true
      · rw [show exS b N nm (k + 1) q R m = (some (8 * tP b N (tE b N q) + 2), q, R) by rw [exS, if_neg hA, if_pos h29, m2]; exact if_pos hb]
        refine ⟨_, J1, (f1.fr.trans (Fq_u _ (nI a) (Or.inr (Or.inl rfl))).fr).trans (Fq_u _ (nI (8 * tP b N (tE b N q) + 2)) (Or.inl rfl)).fr, g1.gq, fun d hd => by rw [u2_no _ _ (by omega), u2_no _ _ (by omega), f1.d _ _ (by omega)], by rw [u2_no _ _ (by omega), u2_no _ _ (by omega), f1.d _ _ (by omega)], Or.inr ⟨_, rfl, ?_, u2_at _ _ _ _⟩⟩
        rw [hb93]
        unfold mX10_usesExtra
        simp (disch := omega) only [mk_oO o_224, mk_gI f_224_0, mk_pI f_224_0, mk_gR f_224_1, mk_gR f_224_2, mk_gR f_224_3, mk_gR f_224_4, mk_gR f_224_5, mk_gI f_224_6, mk_pI f_224_6, mk_gR f_224_7, mk_gI f_224_8, mk_pI f_224_8, mk_gI f_224_9, mk_pI f_224_9, mk_gI f_224_10, mk_pI f_224_10, mk_gI f_224_11, mk_pI f_224_11, mk_gI f_224_12, mk_pI f_224_12, mk_gI f_224_13, mk_pI f_224_13, mk_gL f_224_14, mk_pL f_224_14, mk_gI f_224_15, mk_pI f_224_15, mk_gI f_224_16, mk_pI f_224_16, mk_gR f_224_17, mk_gR f_224_18, mk_gR f_224_19, mk_gI f_224_20, mk_pI f_224_20, mk_gR f_224_21, mk_gI f_224_22, mk_pI f_224_22, mk_gI f_224_23, mk_pI f_224_23, mk_gI f_224_24, mk_pI f_224_24, mk_gI f_224_25, mk_pI f_224_25, mk_gR f_224_26, mk_gI f_224_27, mk_pI f_224_27, mk_gI f_224_28, mk_pI f_224_28, mk_gR f_224_29, mk_gI f_224_30, mk_pI f_224_30, mk_gI f_224_31, mk_pI f_224_31, mk_gR f_224_32, mk_gI f_224_33, mk_pI f_224_33, ↓m_1, ↓m_2, i_0, i_1, i_2, i_3, i_4, i_6, i_5, i_12, i_11, i_10, i_9999, i_7, i_9, i_8, i_24, i_100, i_56, i_48, i_13, i_176, i_232, i_224, i_32, i_999, i_99, i_900, i_97, i_90, i_30, i_20, i_59, i_14, i_50, i_29, i_22, i_19, i_18, i_17, i_96, i_61, i_57, i_51, i_41, i_26, i_2552, i_255, i_25, i_23, i_21, i_16, i_15, i_122, i_10000, i_31, dzF, obs, b2_some, rz0, rz1, rzb, n01, n01', n10, n01e, nI_add, nI_mul, ↓reduceIte, not_false_eq_true, not_true_eq_false, ite_not, e1, e2, mk_aIn a_226, v2, u2_at, eh, hb, R_bad r2]
      · rw [show exS b N nm (k + 1) q R m = exS b N nm k (tE b N (tE b N q)) (uT R 11 (R 11 ||| 2 ^ a)) m by rw [exS, if_neg hA, if_pos h29, m2]; exact if_neg hb]
        obtain ⟨I3, J3, e3, r3, f3, g3⟩ := R_step (n := n) (r2.d (p + 11) (nI (R 11 ||| 2 ^ a))) (by omega)
        have z3 : ∀ d, d ≠ p + 11 → I3 226 d = I 226 d := fun d hd => by rw [f3.d _ _ (by omega), u2_no _ _ (by omega), u2_no _ _ (by omega), f1.d _ _ (by omega)]
        obtain ⟨I', J', x1, x2, x3, x4, x5⟩ := ih (tE b N (tE b N q)) fu I3 J3 (uT R 11 (R 11 ||| 2 ^ a)) m x (by omega) (by omega) r3 (fun j hj => by
          by_cases hj11 : j = 11
          · subst hj11; rw [f3.d _ _ (by omega), u2_at, uTa]
          · rw [z3 _ (by omega), uTn hj11]; exact hR j hj) (ho.u11 ha) hx hxm
        have hd : mX10_extras_L2 (fu + 1) (mk n I J) 224 (nI p) (nI x) = mX10_extras_L2 fu (mk n I3 J3) 224 (nI p) (nI x) := by
          rw [hb93]
          unfold mX10_usesExtra
          simp (disch := omega) only [mk_oO o_224, mk_gI f_224_0, mk_pI f_224_0, mk_gR f_224_1, mk_gR f_224_2, mk_gR f_224_3, mk_gR f_224_4, mk_gR f_224_5, mk_gI f_224_6, mk_pI f_224_6, mk_gR f_224_7, mk_gI f_224_8, mk_pI f_224_8, mk_gI f_224_9, mk_pI f_224_9, mk_gI f_224_10, mk_pI f_224_10, mk_gI f_224_11, mk_pI f_224_11, mk_gI f_224_12, mk_pI f_224_12, mk_gI f_224_13, mk_pI f_224_13, mk_gL f_224_14, mk_pL f_224_14, mk_gI f_224_15, mk_pI f_224_15, mk_gI f_224_16, mk_pI f_224_16, mk_gR f_224_17, mk_gR f_224_18, mk_gR f_224_19, mk_gI f_224_20, mk_pI f_224_20, mk_gR f_224_21, mk_gI f_224_22, mk_pI f_224_22, mk_gI f_224_23, mk_pI f_224_23, mk_gI f_224_24, mk_pI f_224_24, mk_gI f_224_25, mk_pI f_224_25, mk_gR f_224_26, mk_gI f_224_27, mk_pI f_224_27, mk_gI f_224_28, mk_pI f_224_28, mk_gR f_224_29, mk_gI f_224_30, mk_pI f_224_30, mk_gI f_224_31, mk_pI f_224_31, mk_gR f_224_32, mk_gI f_224_33, mk_pI f_224_33, ↓m_1, ↓m_2, i_0, i_1, i_2, i_3, i_4, i_6, i_5, i_12, i_11, i_10, i_9999, i_7, i_9, i_8, i_24, i_100, i_56, i_48, i_13, i_176, i_232, i_224, i_32, i_999, i_99, i_900, i_97, i_90, i_30, i_20, i_59, i_14, i_50, i_29, i_22, i_19, i_18, i_17, i_96, i_61, i_57, i_51, i_41, i_26, i_2552, i_255, i_25, i_23, i_21, i_16, i_15, i_122, i_10000, i_31, dzF, obs, b2_some, rz0, rz1, rzb, n01, n01', n10, n01e, nI_add, nI_mul, ↓reduceIte, not_false_eq_true, not_true_eq_false, ite_not, e1, e2, mk_aIn a_226, v2, u2_at, eh, hb, Bool.false_eq_true, nI_one_shl, nI_or, mk_sIn a_226, e3]
        rw [hd]
        exact ⟨I', J', ((((f1.fr.trans (Fq_u _ (nI a) (Or.inr (Or.inl rfl))).fr).trans (Fr_d _ _ _)).trans f3.fr).trans x1), ((g1.gq.trans g3.gq).trans x2), fun d hd => by rw [x3 d hd, z3 d (by omega)], by rw [x4, f3.d _ _ (by omega), u2_no _ _ (by omega), u2_no _ _ (by omega), f1.d _ _ (by omega)], x5⟩
    have hG2 : 24 ≤ tG b N q ∧ tG b N q ≤ 28 := by omega
    have h11 : ¬ nI (tG b N q - 18) = (11 : Int32) := by rw [i_11]; exact of_eq_false (eqF (by omega) (by omega) (by omega))
    have ht := hxm _ hG2.1 hG2.2
    have eh : ∀ H : PH, mX10_has H (nI x) (nI (tG b N q - 18)) = some (nI (if x.testBit (tG b N q - 18) = true then 1 else 0), H) := fun H => R_has (by omega) (by omega)
    by_cases hb : m.testBit (tG b N q) = true
    · rw [show exS b N nm (k + 1) q R m = (some (8 * tP b N q + 2), q, R) by rw [exS, if_neg hA, if_neg h29, if_pos hb]]
      refine ⟨_, J, (Fq_u _ (nI (8 * tP b N q + 2)) (Or.inl rfl)).fr, Gq.refl _, fun d hd => u2_no _ _ (by omega), u2_no _ _ (by omega), Or.inr ⟨_, rfl, ?_, u2_at _ _ _ _⟩⟩
      rw [e0]
      unfold mX10_extras_b93
      rw [if_neg hM, if_neg h11, eh, b2_some, if_pos (ht.trans hb), if_neg (show ¬ nI 1 = 0 by decide), i_2, R_bad h, b2_some]
      exact rz0 _
    · have hbx : ¬ x.testBit (tG b N q - 18) = true := by rw [ht]; exact hb
      obtain ⟨I1, J1, e1, r1, f1, g1⟩ := R_step (n := n) h (by omega)
      have eo : nI x ||| ((1 : Int32) <<< (nI (tG b N q - 18) &&& (31 : Int32))) = nI (x ||| 2 ^ (tG b N q - 18)) := by rw [i_1, i_31, nI_one_shl (by omega), nI_or]
      have hxo : x ||| 2 ^ (tG b N q - 18) < 2 ^ 11 := Nat.or_lt_two_pow hx (Nat.pow_lt_pow_right (by decide) (by omega))
      have hxm' : ∀ g, 24 ≤ g → g ≤ 28 → (x ||| 2 ^ (tG b N q - 18)).testBit (g - 18) = (m ||| 2 ^ tG b N q).testBit g := fun g z1 z2 => by
        rw [Nat.testBit_or, Nat.testBit_or, hxm g z1 z2, tb_2p, tb_2p]
        congr 1
        by_cases hgg : tG b N q = g
        · rw [decide_eq_true (by omega), decide_eq_true hgg]
        · rw [decide_eq_false (by omega), decide_eq_false hgg]
      have e93 : mX10_extras_L2 (fu + 1) (mk n I J) 224 (nI p) (nI x) = if nI (tG b N q - 18) = 6 then (pF 10 16 (mk n I1 J1) 224 (.inl (1 : Int32))).bind (fun h149 => mX10_extras_b179 (mX10_extras_L2 fu) h149 224 (nI p) (nI (x ||| 2 ^ (tG b N q - 18))) (nI (tG b N q - 18))) else if nI (tG b N q - 18) = 7 then mX10_extras_b171 (mX10_extras_L2 fu) (mk n I1 J1) 224 (nI p) (nI (x ||| 2 ^ (tG b N q - 18))) (nI (tG b N q - 18)) 224 (0 : Int32) (99 : Int32) else mX10_extras_b171 (mX10_extras_L2 fu) (mk n I1 J1) 224 (nI p) (nI (x ||| 2 ^ (tG b N q - 18))) (nI (tG b N q - 18)) 224 (0 : Int32) (9999 : Int32) := by
        rw [e0]
        unfold mX10_extras_b93
        rw [if_neg hM, if_neg h11, eh, b2_some, if_neg hbx, if_pos (show nI 0 = 0 from rfl), e1, obs, eo]
      by_cases h24 : tG b N q = 24
      · rw [show exS b N nm (k + 1) q R m = exS b N nm k (tE b N q) (uT R 6 1) (m ||| 2 ^ tG b N q) by rw [exS, if_neg hA, if_neg h29, if_neg hb, if_pos h24, h24]]
        obtain ⟨I', J', x1, x2, x3, x4, x5⟩ := ih (tE b N q) fu (u2 (u2 I1 224 16 (nI 1)) 226 (p + 6) (nI 1)) J1 (uT R 6 1) (m ||| 2 ^ tG b N q) (x ||| 2 ^ (tG b N q - 18)) (by omega) (by omega) ((r1.got _).d _ _) (fun j hj => by
          by_cases hj6 : j = 6
          · subst hj6; rw [u2_at, uTa]
          · rw [u2_no _ _ (by omega), u2_no _ _ (by omega), f1.d _ _ (by omega), uTn hj6]; exact hR j hj) ho.u6 hxo hxm'
        have hd : mX10_extras_L2 (fu + 1) (mk n I J) 224 (nI p) (nI x) = mX10_extras_L2 fu (mk n (u2 (u2 I1 224 16 (nI 1)) 226 (p + 6) (nI 1)) J1) 224 (nI p) (nI (x ||| 2 ^ (tG b N q - 18))) := by
          have h6 : tG b N q - 18 = 6 := by omega
          rw [e93, h6, if_pos (show nI 6 = 6 from rfl)]
          unfold mX10_extras_b179
          simp (disch := omega) only [mk_oO o_224, mk_gI f_224_0, mk_pI f_224_0, mk_gR f_224_1, mk_gR f_224_2, mk_gR f_224_3, mk_gR f_224_4, mk_gR f_224_5, mk_gI f_224_6, mk_pI f_224_6, mk_gR f_224_7, mk_gI f_224_8, mk_pI f_224_8, mk_gI f_224_9, mk_pI f_224_9, mk_gI f_224_10, mk_pI f_224_10, mk_gI f_224_11, mk_pI f_224_11, mk_gI f_224_12, mk_pI f_224_12, mk_gI f_224_13, mk_pI f_224_13, mk_gL f_224_14, mk_pL f_224_14, mk_gI f_224_15, mk_pI f_224_15, mk_gI f_224_16, mk_pI f_224_16, mk_gR f_224_17, mk_gR f_224_18, mk_gR f_224_19, mk_gI f_224_20, mk_pI f_224_20, mk_gR f_224_21, mk_gI f_224_22, mk_pI f_224_22, mk_gI f_224_23, mk_pI f_224_23, mk_gI f_224_24, mk_pI f_224_24, mk_gI f_224_25, mk_pI f_224_25, mk_gR f_224_26, mk_gI f_224_27, mk_pI f_224_27, mk_gI f_224_28, mk_pI f_224_28, mk_gR f_224_29, mk_gI f_224_30, mk_pI f_224_30, mk_gI f_224_31, mk_pI f_224_31, mk_gR f_224_32, mk_gI f_224_33, mk_pI f_224_33, ↓m_1, ↓m_2, i_0, i_1, i_2, i_3, i_4, i_6, i_5, i_12, i_11, i_10, i_9999, i_7, i_9, i_8, i_24, i_100, i_56, i_48, i_13, i_176, i_232, i_224, i_32, i_999, i_99, i_900, i_97, i_90, i_30, i_20, i_59, i_14, i_50, i_29, i_22, i_19, i_18, i_17, i_96, i_61, i_57, i_51, i_41, i_26, i_2552, i_255, i_25, i_23, i_21, i_16, i_15, i_122, i_10000, i_31, dzF, obs, b2_some, rz0, rz1, rzb, n01, n01', n10, n01e, nI_add, nI_mul, ↓reduceIte, not_false_eq_true, not_true_eq_false, ite_not, u2_at, mk_sIn a_226]
        rw [hd]
        exact ⟨I', J', ((f1.fr.trans (Fq_u _ (nI 1) (Or.inr (Or.inl rfl))).fr).trans (Fr_d _ _ _)).trans x1, g1.gq.trans x2, fun d hd => by rw [x3 d hd, u2_no _ _ (by omega), u2_no _ _ (by omega), f1.d _ _ (by omega)], by rw [x4, u2_no _ _ (by omega), u2_no _ _ (by omega), f1.d _ _ (by omega)], x5⟩
      · obtain ⟨hi', hhi, hhi2⟩ : ∃ hi', hi' = (if tG b N q = 25 then 99 else 9999) ∧ hi' ≤ 9999 := ⟨_, rfl, by split <;> decide⟩
        have e171 : mX10_extras_L2 (fu + 1) (mk n I J) 224 (nI p) (nI x) = mX10_extras_b171 (mX10_extras_L2 fu) (mk n I1 J1) 224 (nI p) (nI (x ||| 2 ^ (tG b N q - 18))) (nI (tG b N q - 18)) 224 (nI 0) (nI hi') := by
          rw [e93, if_neg (show ¬ nI (tG b N q - 18) = (6 : Int32) by rw [i_6]; exact of_eq_false (eqF (by omega) (by omega) (by omega)))]
          by_cases h25 : tG b N q = 25
          · rw [if_pos (show nI (tG b N q - 18) = (7 : Int32) by rw [h25]; rfl), hhi, if_pos h25]
            rfl
          · rw [if_neg (show ¬ nI (tG b N q - 18) = (7 : Int32) by rw [i_7]; exact of_eq_false (eqF (by omega) (by omega) (by omega))), hhi, if_neg h25]
            rfl
        by_cases hn : okN b N (tE b N q) 0 hi'
        · rw [show exS b N nm (k + 1) q R m = exS b N nm k (tE b N (tE b N q)) (uT R (tG b N q - 18) (tV b N (tE b N q))) (m ||| 2 ^ tG b N q) by rw [exS, if_neg hA, if_neg h29, if_neg hb, if_neg h24, ← hhi, if_pos hn]]
          obtain ⟨I2, J2, e2, r2, v2, f2, g2⟩ := R_number (n := n) r1 (lo := 0) (hi := hi') hhi2 hn
          obtain ⟨I', J', x1, x2, x3, x4, x5⟩ := ih (tE b N (tE b N q)) fu (u2 I2 226 (p + (tG b N q - 18)) (nI (tV b N (tE b N q)))) J2 (uT R (tG b N q - 18) (tV b N (tE b N q))) (m ||| 2 ^ tG b N q) (x ||| 2 ^ (tG b N q - 18)) (by omega) (by omega) (r2.d _ _) (fun j hj => by
            by_cases hj6 : j = tG b N q - 18
            · subst hj6; rw [u2_at, uTa]
            · rw [u2_no _ _ (by omega), f2.d _ _ (by omega), f1.d _ _ (by omega), uTn hj6]; exact hR j hj) (ho.ug (by omega) (hhi ▸ hn.2.2)) hxo hxm'
          have hd : mX10_extras_L2 (fu + 1) (mk n I J) 224 (nI p) (nI x) = mX10_extras_L2 fu (mk n (u2 I2 226 (p + (tG b N q - 18)) (nI (tV b N (tE b N q)))) J2) 224 (nI p) (nI (x ||| 2 ^ (tG b N q - 18))) := by
            rw [e171]
            unfold mX10_extras_b171 mX10_extras_b179
            simp (disch := omega) only [mk_oO o_224, mk_gI f_224_0, mk_pI f_224_0, mk_gR f_224_1, mk_gR f_224_2, mk_gR f_224_3, mk_gR f_224_4, mk_gR f_224_5, mk_gI f_224_6, mk_pI f_224_6, mk_gR f_224_7, mk_gI f_224_8, mk_pI f_224_8, mk_gI f_224_9, mk_pI f_224_9, mk_gI f_224_10, mk_pI f_224_10, mk_gI f_224_11, mk_pI f_224_11, mk_gI f_224_12, mk_pI f_224_12, mk_gI f_224_13, mk_pI f_224_13, mk_gL f_224_14, mk_pL f_224_14, mk_gI f_224_15, mk_pI f_224_15, mk_gI f_224_16, mk_pI f_224_16, mk_gR f_224_17, mk_gR f_224_18, mk_gR f_224_19, mk_gI f_224_20, mk_pI f_224_20, mk_gR f_224_21, mk_gI f_224_22, mk_pI f_224_22, mk_gI f_224_23, mk_pI f_224_23, mk_gI f_224_24, mk_pI f_224_24, mk_gI f_224_25, mk_pI f_224_25, mk_gR f_224_26, mk_gI f_224_27, mk_pI f_224_27, mk_gI f_224_28, mk_pI f_224_28, mk_gR f_224_29, mk_gI f_224_30, mk_pI f_224_30, mk_gI f_224_31, mk_pI f_224_31, mk_gR f_224_32, mk_gI f_224_33, mk_pI f_224_33, ↓m_1, ↓m_2, i_0, i_1, i_2, i_3, i_4, i_6, i_5, i_12, i_11, i_10, i_9999, i_7, i_9, i_8, i_24, i_100, i_56, i_48, i_13, i_176, i_232, i_224, i_32, i_999, i_99, i_900, i_97, i_90, i_30, i_20, i_59, i_14, i_50, i_29, i_22, i_19, i_18, i_17, i_96, i_61, i_57, i_51, i_41, i_26, i_2552, i_255, i_25, i_23, i_21, i_16, i_15, i_122, i_10000, i_31, dzF, obs, b2_some, rz0, rz1, rzb, n01, n01', n10, n01e, nI_add, nI_mul, ↓reduceIte, not_false_eq_true, not_true_eq_false, ite_not, e2, v2, mk_sIn a_226]
          rw [hd]
          exact ⟨I', J', ((f1.fr.trans f2.fr).trans (Fr_d _ _ _)).trans x1, (g1.gq.trans g2).trans x2, fun d hd => by rw [x3 d hd, u2_no _ _ (by omega), f2.d _ _ (by omega), f1.d _ _ (by omega)], by rw [x4, u2_no _ _ (by omega), f2.d _ _ (by omega), f1.d _ _ (by omega)], x5⟩
        · rw [show exS b N nm (k + 1) q R m = (some (ftN b N (tE b N q)), q, R) by rw [exS, if_neg hA, if_neg h29, if_neg hb, if_neg h24, ← hhi, if_neg hn]]
          have e2 : mX10_number (mk n I1 J1) 224 (nI 0) (nI hi') = some (nI 0, mk n (u2 I1 224 15 (nI (ftN b N (tE b N q)))) J1) := R_numberF (n := n) r1 (lo := 0) (hi := hi') hhi2 (by omega) hn
          refine ⟨_, J1, f1.fr.trans (Fq_u _ (nI (ftN b N (tE b N q))) (Or.inl rfl)).fr, g1.gq, fun d hd => by rw [u2_no _ _ (by omega), f1.d _ _ (by omega)], by rw [u2_no _ _ (by omega), f1.d _ _ (by omega)], Or.inr ⟨_, rfl, ?_, u2_at _ _ _ _⟩⟩
          rw [e171]
          unfold mX10_extras_b171
          simp (disch := omega) only [mk_oO o_224, mk_gI f_224_0, mk_pI f_224_0, mk_gR f_224_1, mk_gR f_224_2, mk_gR f_224_3, mk_gR f_224_4, mk_gR f_224_5, mk_gI f_224_6, mk_pI f_224_6, mk_gR f_224_7, mk_gI f_224_8, mk_pI f_224_8, mk_gI f_224_9, mk_pI f_224_9, mk_gI f_224_10, mk_pI f_224_10, mk_gI f_224_11, mk_pI f_224_11, mk_gI f_224_12, mk_pI f_224_12, mk_gI f_224_13, mk_pI f_224_13, mk_gL f_224_14, mk_pL f_224_14, mk_gI f_224_15, mk_pI f_224_15, mk_gI f_224_16, mk_pI f_224_16, mk_gR f_224_17, mk_gR f_224_18, mk_gR f_224_19, mk_gI f_224_20, mk_pI f_224_20, mk_gR f_224_21, mk_gI f_224_22, mk_pI f_224_22, mk_gI f_224_23, mk_pI f_224_23, mk_gI f_224_24, mk_pI f_224_24, mk_gI f_224_25, mk_pI f_224_25, mk_gR f_224_26, mk_gI f_224_27, mk_pI f_224_27, mk_gI f_224_28, mk_pI f_224_28, mk_gR f_224_29, mk_gI f_224_30, mk_pI f_224_30, mk_gI f_224_31, mk_pI f_224_31, mk_gR f_224_32, mk_gI f_224_33, mk_pI f_224_33, ↓m_1, ↓m_2, i_0, i_1, i_2, i_3, i_4, i_6, i_5, i_12, i_11, i_10, i_9999, i_7, i_9, i_8, i_24, i_100, i_56, i_48, i_13, i_176, i_232, i_224, i_32, i_999, i_99, i_900, i_97, i_90, i_30, i_20, i_59, i_14, i_50, i_29, i_22, i_19, i_18, i_17, i_96, i_61, i_57, i_51, i_41, i_26, i_2552, i_255, i_25, i_23, i_21, i_16, i_15, i_122, i_10000, i_31, dzF, obs, b2_some, rz0, rz1, rzb, n01, n01', n10, n01e, nI_add, nI_mul, ↓reduceIte, not_false_eq_true, not_true_eq_false, ite_not, e2]
end RE
