/-! ===== 82: the reference's next token ===== -/
section GO
variable {n : Nat} {b : Nat → Nat} {N : Nat}
def TKr (b : Nat → Nat) (N : Nat) (I : Nat → Nat → Int32) : Prop := N ≤ 900 ∧ (∀ k, k < N → b k < 256 ∧ I 230 k &&& nI 255 = nI (b k)) ∧ I 224 9 = nI N
def Fg (I I' : Nat → Nat → Int32) : Prop := ∀ a c, ¬ (a = 224 ∧ 10 ≤ c ∧ c ≤ 13) → I' a c = I a c
def Gg (J J' : Nat → Nat → Int64) : Prop := ∀ a c, a ≠ 224 → J' a c = J a c
theorem Fg.refl (I : Nat → Nat → Int32) : Fg I I := fun _ _ _ => rfl
theorem Gg.refl (J : Nat → Nat → Int64) : Gg J J := fun _ _ _ => rfl
theorem Fg.trans {I I' I'' : Nat → Nat → Int32} (h : Fg I I') (h' : Fg I' I'') : Fg I I'' := fun a c z => (h' a c z).trans (h a c z)
theorem Gg.trans {J J' J'' : Nat → Nat → Int64} (h : Gg J J') (h' : Gg J' J'') : Gg J J'' := fun a c z => (h' a c z).trans (h a c z)
theorem Fg_u (I : Nat → Nat → Int32) {c : Nat} (x : Int32) (h : 10 ≤ c ∧ c ≤ 13) : Fg I (u2 I 224 c x) := fun a d z => u2_no _ _ (by omega)
theorem Gg_u (J : Nat → Nat → Int64) (x : Int64) : Gg J (u2 J 224 14 x) := fun a d z => u2_no _ _ (by omega)
theorem TKr.fg {I I' : Nat → Nat → Int32} (h : TKr b N I) (hf : Fg I I') : TKr b N I' := ⟨h.1, fun k hk => by rw [hf 230 k (by omega)]; exact h.2.1 k hk, by rw [hf _ _ (by omega)]; exact h.2.2⟩
variable {I : Nat → Nat → Int32} {J : Nat → Nat → Int64}
theorem byAt1 (h : TKr b N I) {k : Nat} (hk : k < N) : mX10_byteAt (mk n I J) 224 (nI k) = some (nI (b k), mk n I J) := by
  have hN := h.1
  have h9 := h.2.2
  have hb := (h.2.1 k hk).2
  unfold mX10_byteAt
  simp (disch := omega) only [mk_oO o_224, mk_gI f_224_0, mk_pI f_224_0, mk_gR f_224_1, mk_gR f_224_2, mk_gR f_224_3, mk_gR f_224_4, mk_gR f_224_5, mk_gI f_224_6, mk_pI f_224_6, mk_gR f_224_7, mk_gI f_224_8, mk_pI f_224_8, mk_gI f_224_9, mk_pI f_224_9, mk_gI f_224_10, mk_pI f_224_10, mk_gI f_224_11, mk_pI f_224_11, mk_gI f_224_12, mk_pI f_224_12, mk_gI f_224_13, mk_pI f_224_13, mk_gL f_224_14, mk_pL f_224_14, mk_gI f_224_15, mk_pI f_224_15, mk_gI f_224_16, mk_pI f_224_16, mk_gR f_224_17, mk_gR f_224_18, mk_gR f_224_19, mk_gI f_224_20, mk_pI f_224_20, mk_gR f_224_21, mk_gI f_224_22, mk_pI f_224_22, mk_gI f_224_23, mk_pI f_224_23, mk_gI f_224_24, mk_pI f_224_24, mk_gI f_224_25, mk_pI f_224_25, mk_gR f_224_26, mk_gI f_224_27, mk_pI f_224_27, mk_gI f_224_28, mk_pI f_224_28, mk_gR f_224_29, mk_gI f_224_30, mk_pI f_224_30, mk_gI f_224_31, mk_pI f_224_31, mk_gR f_224_32, mk_gI f_224_33, mk_pI f_224_33, ↓m_1, ↓m_2, i_0, i_1, i_2, i_3, i_4, i_6, i_5, i_12, i_11, i_10, i_9999, i_7, i_9, i_8, i_24, i_100, i_56, i_48, i_13, i_176, i_232, i_224, i_32, i_999, i_99, i_900, i_97, i_90, i_30, i_20, i_59, i_14, i_50, i_29, i_22, i_19, i_18, i_17, i_96, i_61, i_57, i_51, i_41, i_26, i_2552, i_255, i_25, i_23, i_21, i_16, i_15, i_122, i_10000, i_31, dzF, obs, b2_some, rz0, rz1, rzb, n01, n01', n10, n01e, nI_add, nI_mul, ↓reduceIte, not_false_eq_true, not_true_eq_false, ite_not, h9, leF, mk_aIn a_230, hb]
theorem byAt0 (h : TKr b N I) {k : Nat} (hk : N ≤ k) (hk' : k < 2 ^ 31) : mX10_byteAt (mk n I J) 224 (nI k) = some (M1, mk n I J) := by
  have hN := h.1
  have h9 := h.2.2
  unfold mX10_byteAt
  simp (disch := omega) only [mk_oO o_224, mk_gI f_224_0, mk_pI f_224_0, mk_gR f_224_1, mk_gR f_224_2, mk_gR f_224_3, mk_gR f_224_4, mk_gR f_224_5, mk_gI f_224_6, mk_pI f_224_6, mk_gR f_224_7, mk_gI f_224_8, mk_pI f_224_8, mk_gI f_224_9, mk_pI f_224_9, mk_gI f_224_10, mk_pI f_224_10, mk_gI f_224_11, mk_pI f_224_11, mk_gI f_224_12, mk_pI f_224_12, mk_gI f_224_13, mk_pI f_224_13, mk_gL f_224_14, mk_pL f_224_14, mk_gI f_224_15, mk_pI f_224_15, mk_gI f_224_16, mk_pI f_224_16, mk_gR f_224_17, mk_gR f_224_18, mk_gR f_224_19, mk_gI f_224_20, mk_pI f_224_20, mk_gR f_224_21, mk_gI f_224_22, mk_pI f_224_22, mk_gI f_224_23, mk_pI f_224_23, mk_gI f_224_24, mk_pI f_224_24, mk_gI f_224_25, mk_pI f_224_25, mk_gR f_224_26, mk_gI f_224_27, mk_pI f_224_27, mk_gI f_224_28, mk_pI f_224_28, mk_gR f_224_29, mk_gI f_224_30, mk_pI f_224_30, mk_gI f_224_31, mk_pI f_224_31, mk_gR f_224_32, mk_gI f_224_33, mk_pI f_224_33, ↓m_1, ↓m_2, i_0, i_1, i_2, i_3, i_4, i_6, i_5, i_12, i_11, i_10, i_9999, i_7, i_9, i_8, i_24, i_100, i_56, i_48, i_13, i_176, i_232, i_224, i_32, i_999, i_99, i_900, i_97, i_90, i_30, i_20, i_59, i_14, i_50, i_29, i_22, i_19, i_18, i_17, i_96, i_61, i_57, i_51, i_41, i_26, i_2552, i_255, i_25, i_23, i_21, i_16, i_15, i_122, i_10000, i_31, dzF, obs, b2_some, rz0, rz1, rzb, n01, n01', n10, n01e, nI_add, nI_mul, ↓reduceIte, not_false_eq_true, not_true_eq_false, ite_not, h9, leT]
theorem win1 {h : PH} {x lo hi : Nat} (h1 : lo ≤ x) (h2 : x ≤ hi) (h3 : hi < 2 ^ 31) : mX10_within h (Int32.toInt64 (nI x)) (lN lo) (lN hi) = some (nI 1, h) := within1 h1 h2 h3
theorem win0 {h : PH} {x lo hi : Nat} (hx : ¬ (lo ≤ x ∧ x ≤ hi)) (h1 : x < 2 ^ 31) (h2 : lo < 2 ^ 31) (h3 : hi < 2 ^ 31) : mX10_within h (Int32.toInt64 (nI x)) (lN lo) (lN hi) = some (nI 0, h) := within0 h2 h3 (by rw [nI_toInt h1]; omega)
theorem winM {h : PH} {lo hi : Nat} (h2 : lo < 2 ^ 31) (h3 : hi < 2 ^ 31) : mX10_within h (Int32.toInt64 M1) (lN lo) (lN hi) = some (nI 0, h) := within0 h2 h3 (by rw [M1_toInt]; omega)
theorem M1_32 : (M1 = nI 32) = False := nM1' (by decide)
theorem M1_10 : (M1 = nI 10) = False := nM1' (by decide)
theorem M1_0 : (nI 0 ≤ M1) = False := eq_false (by decide)
/-- what go() does behind the blanks -/
def goB (h : PH) : Option PH :=
  (gI 10 11 h 224).bind fun v41 =>
  (pF 10 10 h 224 (.inl v41)).bind fun h44 =>
  (pF 10 13 h44 224 (.inl (0 : Int32))).bind fun h49 =>
  (pF 10 14 h49 224 (.inr (.inl (0 : Int64)))).bind fun h54 =>
  (gI 10 11 h54 224).bind fun v59 =>
  b2 (mX10_byteAt h54 224 v59) fun v62 h62 =>
  if 0 ≤ v62 then (
  b2 (mX10_within h62 (Int32.toInt64 v62) (97 : Int64) (122 : Int64)) fun v86 h86 =>
  if v86 = 0 then (
  b2 (mX10_within h86 (Int32.toInt64 v62) (48 : Int64) (57 : Int64)) fun v207 h207 =>
  if v207 = 0 then (
  (gI 10 11 h207 224).bind fun v317 =>
  (pF 10 11 h207 224 (.inl (v317 + (1 : Int32)))).bind fun h322 =>
  if v62 = (59 : Int32) then (
  mX10_go_b337 h322 224 (3 : Int32)) else (
  mX10_go_b337 h322 224 (4 : Int32))) else (
  mX10_go_L213 FU h207 224)) else (
  mX10_go_L92 FU h86 224)) else (
  (pF 10 12 h62 224 (.inl (0 : Int32))).bind fun h72 =>
  some h72)
theorem R_skipL : ∀ (k q fu : Nat) (I : Nat → Nat → Int32), q + k = N → k < fu → TKr b N I → I 224 11 = nI q → ∃ I', mX10_go_L0 fu (mk n I J) 224 = goB (mk n I' J) ∧ I' 224 11 = nI (skp b k q) ∧ Fg I I' := by
  intro k
  induction k with
  | zero =>
    intro q fu I hq hf h h3
    obtain ⟨fu, rfl⟩ : ∃ f, fu = f + 1 := ⟨fu - 1, by omega⟩
    have hN := h.1
    refine ⟨I, ?_, by rw [h3]; rfl, Fg.refl I⟩
    show mX10_go_b0 _ _ _ = _
    unfold mX10_go_b0
    rw [mk_gI f_224_11, obs, h3, byAt0 h (by omega) (by omega), b2_some, i_32, if_neg (by rw [M1_32]; exact id), mk_gI f_224_11, obs, h3, byAt0 h (by omega) (by omega), b2_some, i_10, if_neg (by rw [M1_10]; exact id)]
    rfl
  | succ k ih =>
    intro q fu I hq hf h h3
    obtain ⟨fu, rfl⟩ : ∃ f, fu = f + 1 := ⟨fu - 1, by omega⟩
    have hN := h.1
    have hb := (h.2.1 q (by omega)).1
    have e0 := byAt1 (n := n) (J := J) h (by omega : q < N)
    show ∃ I', mX10_go_b0 _ _ _ = _ ∧ _
    unfold mX10_go_b0 skp
    by_cases hc : b q = 32 ∨ b q = 10
    · obtain ⟨I', e, p, f⟩ := ih (q + 1) fu (u2 I 224 11 (nI (q + 1))) (by omega) (by omega) (h.fg (Fg_u I _ (by omega))) (u2_at _ _ _ _)
      refine ⟨I', ?_, by rw [if_pos hc]; exact p, (Fg_u I _ (by omega)).trans f⟩
      rw [← e]
      unfold mX10_go_b26
      rw [mk_gI f_224_11, obs, h3, e0, b2_some, i_32, i_10, i_1]
      by_cases h32 : b q = 32
      · rw [if_pos (congrArg nI h32), mk_gI f_224_11, obs, h3, mk_pI f_224_11, obs, nI_add]
      · have h10 : b q = 10 := by omega
        rw [if_neg (fun z => h32 ((nI_eq (by omega) (by omega)).mp z)), mk_gI f_224_11, obs, h3, e0, b2_some, if_pos (congrArg nI h10), mk_gI f_224_11, obs, h3, mk_pI f_224_11, obs, nI_add]
    · refine ⟨I, ?_, by rw [if_neg hc]; exact h3, Fg.refl I⟩
      rw [mk_gI f_224_11, obs, h3, e0, b2_some, i_32, i_10, if_neg (fun z => hc (Or.inl ((nI_eq (by omega) (by omega)).mp z))), mk_gI f_224_11, obs, h3, e0, b2_some, if_neg (fun z => hc (Or.inr ((nI_eq (by omega) (by omega)).mp z)))]
      rfl
theorem R_gwL {p : Nat} : ∀ (k q fu : Nat) (I : Nat → Nat → Int32) (J : Nat → Nat → Int64), q + k = N → k < fu → p ≤ q → TKr b N I → I 224 10 = nI p → I 224 11 = nI q → J 224 14 = lN (enc 32 (ltW b p (min (q - p) 7))) → ∃ I' J', mX10_go_L92 fu (mk n I J) 224 = some (mk n I' J') ∧ I' 224 11 = nI (rnL b k q) ∧ J' 224 14 = lN (enc 32 (ltW b p (min (rnL b k q - p) 7))) ∧ I' 224 12 = nI (if rnL b k q - p ≤ 7 then 1 else 4) ∧ (∀ a c, ¬ (a = 224 ∧ (c = 11 ∨ c = 12)) → I' a c = I a c) ∧ Gg J J' := by
  have fin : ∀ (q : Nat) (I : Nat → Nat → Int32) (J : Nat → Nat → Int64) (v : Int32), p ≤ q → q ≤ 900 → I 224 10 = nI p → I 224 11 = nI q → mX10_byteAt (mk n I J) 224 (nI q) = some (v, mk n I J) → mX10_within (mk n I J) (Int32.toInt64 v) (lN 97) (lN 122) = some (nI 0, mk n I J) → ∀ fu, mX10_go_b92 (mX10_go_L92 fu) (mk n I J) 224 = some (mk n (u2 I 224 12 (nI (if q - p ≤ 7 then 1 else 4))) J) := by
    intro q I J v hp hq h10 h11 e1 e2 fu
    unfold mX10_go_b92 mX10_go_b193
    by_cases h7 : q - p ≤ 7
    · rw [if_pos h7]
      simp (disch := omega) only [mk_oO o_224, mk_gI f_224_0, mk_pI f_224_0, mk_gR f_224_1, mk_gR f_224_2, mk_gR f_224_3, mk_gR f_224_4, mk_gR f_224_5, mk_gI f_224_6, mk_pI f_224_6, mk_gR f_224_7, mk_gI f_224_8, mk_pI f_224_8, mk_gI f_224_9, mk_pI f_224_9, mk_gI f_224_10, mk_pI f_224_10, mk_gI f_224_11, mk_pI f_224_11, mk_gI f_224_12, mk_pI f_224_12, mk_gI f_224_13, mk_pI f_224_13, mk_gL f_224_14, mk_pL f_224_14, mk_gI f_224_15, mk_pI f_224_15, mk_gI f_224_16, mk_pI f_224_16, mk_gR f_224_17, mk_gR f_224_18, mk_gR f_224_19, mk_gI f_224_20, mk_pI f_224_20, mk_gR f_224_21, mk_gI f_224_22, mk_pI f_224_22, mk_gI f_224_23, mk_pI f_224_23, mk_gI f_224_24, mk_pI f_224_24, mk_gI f_224_25, mk_pI f_224_25, mk_gR f_224_26, mk_gI f_224_27, mk_pI f_224_27, mk_gI f_224_28, mk_pI f_224_28, mk_gR f_224_29, mk_gI f_224_30, mk_pI f_224_30, mk_gI f_224_31, mk_pI f_224_31, mk_gR f_224_32, mk_gI f_224_33, mk_pI f_224_33, ↓m_1, ↓m_2, i_0, i_1, i_2, i_3, i_4, i_6, i_5, i_12, i_11, i_10, i_9999, i_7, i_9, i_8, i_24, i_100, i_56, i_48, i_13, i_176, i_232, i_224, i_32, i_999, i_99, i_900, i_97, i_90, i_30, i_20, i_59, i_14, i_50, i_29, i_22, i_19, i_18, i_17, i_96, i_61, i_57, i_51, i_41, i_26, i_2552, i_255, i_25, i_23, i_21, i_16, i_15, i_122, i_10000, i_31, l_97, l_122, dzF, obs, b2_some, rz0, rz1, rzb, n01, n01', n10, n01e, nI_add, nI_mul, ↓reduceIte, not_false_eq_true, not_true_eq_false, ite_not, h11, h10, e1, e2, nI_sub, leT]
    · rw [if_neg h7]
      simp (disch := omega) only [mk_oO o_224, mk_gI f_224_0, mk_pI f_224_0, mk_gR f_224_1, mk_gR f_224_2, mk_gR f_224_3, mk_gR f_224_4, mk_gR f_224_5, mk_gI f_224_6, mk_pI f_224_6, mk_gR f_224_7, mk_gI f_224_8, mk_pI f_224_8, mk_gI f_224_9, mk_pI f_224_9, mk_gI f_224_10, mk_pI f_224_10, mk_gI f_224_11, mk_pI f_224_11, mk_gI f_224_12, mk_pI f_224_12, mk_gI f_224_13, mk_pI f_224_13, mk_gL f_224_14, mk_pL f_224_14, mk_gI f_224_15, mk_pI f_224_15, mk_gI f_224_16, mk_pI f_224_16, mk_gR f_224_17, mk_gR f_224_18, mk_gR f_224_19, mk_gI f_224_20, mk_pI f_224_20, mk_gR f_224_21, mk_gI f_224_22, mk_pI f_224_22, mk_gI f_224_23, mk_pI f_224_23, mk_gI f_224_24, mk_pI f_224_24, mk_gI f_224_25, mk_pI f_224_25, mk_gR f_224_26, mk_gI f_224_27, mk_pI f_224_27, mk_gI f_224_28, mk_pI f_224_28, mk_gR f_224_29, mk_gI f_224_30, mk_pI f_224_30, mk_gI f_224_31, mk_pI f_224_31, mk_gR f_224_32, mk_gI f_224_33, mk_pI f_224_33, ↓m_1, ↓m_2, i_0, i_1, i_2, i_3, i_4, i_6, i_5, i_12, i_11, i_10, i_9999, i_7, i_9, i_8, i_24, i_100, i_56, i_48, i_13, i_176, i_232, i_224, i_32, i_999, i_99, i_900, i_97, i_90, i_30, i_20, i_59, i_14, i_50, i_29, i_22, i_19, i_18, i_17, i_96, i_61, i_57, i_51, i_41, i_26, i_2552, i_255, i_25, i_23, i_21, i_16, i_15, i_122, i_10000, i_31, l_97, l_122, dzF, obs, b2_some, rz0, rz1, rzb, n01, n01', n10, n01e, nI_add, nI_mul, ↓reduceIte, not_false_eq_true, not_true_eq_false, ite_not, h11, h10, e1, e2, nI_sub, leF]
  intro k
  induction k with
  | zero =>
    intro q fu I J hq hf hp h h10 h11 h14
    obtain ⟨fu, rfl⟩ : ∃ f, fu = f + 1 := ⟨fu - 1, by omega⟩
    have hN := h.1
    exact ⟨_, J, fin q I J M1 hp (by omega) h10 h11 (byAt0 h (by omega) (by omega)) (winM (by decide) (by decide)) fu, by rw [u2_no _ _ (by omega), h11]; rfl, h14, by rw [u2_at]; rfl, fun a c z => u2_no _ _ (by omega), Gg.refl J⟩
  | succ k ih =>
    intro q fu I J hq hf hp h h10 h11 h14
    obtain ⟨fu, rfl⟩ : ∃ f, fu = f + 1 := ⟨fu - 1, by omega⟩
    have hN := h.1
    have hb := (h.2.1 q (by omega)).1
    have e0 := byAt1 (n := n) (J := J) h (by omega : q < N)
    unfold rnL
    by_cases hc : isLt (b q)
    · have hc1 := hc.1
      have hc2 := hc.2
      have e1 := win1 (h := mk n I J) hc1 hc2 (by decide)
      by_cases h7 : q - p < 7
      · have e14 : lN 32 * lN (enc 32 (ltW b p (min (q - p) 7))) + lN (b q) - lN 96 = lN (enc 32 (ltW b p (min (q + 1 - p) 7))) := by
          rw [Nat.min_eq_left (by omega), Nat.min_eq_left (by omega), show q + 1 - p = (q - p) + 1 by omega, ltW, enc_app, lN_mul, lN_add, lN_sub (by omega), show p + (q - p) = q by omega]
          congr 1
          omega
        obtain ⟨I', J', e, r1, r2, r3, r4, r5⟩ := ih (q + 1) fu (u2 I 224 11 (nI (q + 1))) (u2 J 224 14 (lN (enc 32 (ltW b p (min (q + 1 - p) 7))))) (by omega) (by omega) (by omega) (h.fg (Fg_u I _ (by omega))) (by rw [u2_no _ _ (by omega)]; exact h10) (u2_at _ _ _ _) (u2_at _ _ _ _)
        rw [if_pos hc]
        refine ⟨I', J', ?_, r1, r2, r3, fun a c z => by rw [r4 a c z, u2_no _ _ (by omega)], (Gg_u J _).trans r5⟩
        rw [← e, ← e14]
        show mX10_go_b92 _ _ _ = _
        unfold mX10_go_b92 mX10_go_b157
        have e1' : mX10_within (mk n I J) (lN (b q)) (lN 97) (lN 122) = some (nI 1, mk n I J) := by rw [← nI_l (by omega)]; exact e1
        simp (disch := omega) only [mk_oO o_224, mk_gI f_224_0, mk_pI f_224_0, mk_gR f_224_1, mk_gR f_224_2, mk_gR f_224_3, mk_gR f_224_4, mk_gR f_224_5, mk_gI f_224_6, mk_pI f_224_6, mk_gR f_224_7, mk_gI f_224_8, mk_pI f_224_8, mk_gI f_224_9, mk_pI f_224_9, mk_gI f_224_10, mk_pI f_224_10, mk_gI f_224_11, mk_pI f_224_11, mk_gI f_224_12, mk_pI f_224_12, mk_gI f_224_13, mk_pI f_224_13, mk_gL f_224_14, mk_pL f_224_14, mk_gI f_224_15, mk_pI f_224_15, mk_gI f_224_16, mk_pI f_224_16, mk_gR f_224_17, mk_gR f_224_18, mk_gR f_224_19, mk_gI f_224_20, mk_pI f_224_20, mk_gR f_224_21, mk_gI f_224_22, mk_pI f_224_22, mk_gI f_224_23, mk_pI f_224_23, mk_gI f_224_24, mk_pI f_224_24, mk_gI f_224_25, mk_pI f_224_25, mk_gR f_224_26, mk_gI f_224_27, mk_pI f_224_27, mk_gI f_224_28, mk_pI f_224_28, mk_gR f_224_29, mk_gI f_224_30, mk_pI f_224_30, mk_gI f_224_31, mk_pI f_224_31, mk_gR f_224_32, mk_gI f_224_33, mk_pI f_224_33, ↓m_1, ↓m_2, i_0, i_1, i_2, i_3, i_4, i_6, i_5, i_12, i_11, i_10, i_9999, i_7, i_9, i_8, i_24, i_100, i_56, i_48, i_13, i_176, i_232, i_224, i_32, i_999, i_99, i_900, i_97, i_90, i_30, i_20, i_59, i_14, i_50, i_29, i_22, i_19, i_18, i_17, i_96, i_61, i_57, i_51, i_41, i_26, i_2552, i_255, i_25, i_23, i_21, i_16, i_15, i_122, i_10000, i_31, l_97, l_122, l_32, l_96, dzF, obs, b2_some, rz0, rz1, rzb, n01, n01', n10, n01e, nI_add, nI_mul, ↓reduceIte, not_false_eq_true, not_true_eq_false, ite_not, h11, h10, e0, e1', nI_sub, leF, h14, nI_l]
      · obtain ⟨I', J', e, r1, r2, r3, r4, r5⟩ := ih (q + 1) fu (u2 I 224 11 (nI (q + 1))) (u2 J 224 14 (J 224 14)) (by omega) (by omega) (by omega) (h.fg (Fg_u I _ (by omega))) (by rw [u2_no _ _ (by omega)]; exact h10) (u2_at _ _ _ _) (by rw [u2_at, h14, Nat.min_eq_right (by omega), Nat.min_eq_right (by omega)])
        rw [if_pos hc]
        refine ⟨I', J', ?_, r1, r2, r3, fun a c z => by rw [r4 a c z, u2_no _ _ (by omega)], (Gg_u J _).trans r5⟩
        rw [← e]
        show mX10_go_b92 _ _ _ = _
        unfold mX10_go_b92 mX10_go_b157
        simp (disch := omega) only [mk_oO o_224, mk_gI f_224_0, mk_pI f_224_0, mk_gR f_224_1, mk_gR f_224_2, mk_gR f_224_3, mk_gR f_224_4, mk_gR f_224_5, mk_gI f_224_6, mk_pI f_224_6, mk_gR f_224_7, mk_gI f_224_8, mk_pI f_224_8, mk_gI f_224_9, mk_pI f_224_9, mk_gI f_224_10, mk_pI f_224_10, mk_gI f_224_11, mk_pI f_224_11, mk_gI f_224_12, mk_pI f_224_12, mk_gI f_224_13, mk_pI f_224_13, mk_gL f_224_14, mk_pL f_224_14, mk_gI f_224_15, mk_pI f_224_15, mk_gI f_224_16, mk_pI f_224_16, mk_gR f_224_17, mk_gR f_224_18, mk_gR f_224_19, mk_gI f_224_20, mk_pI f_224_20, mk_gR f_224_21, mk_gI f_224_22, mk_pI f_224_22, mk_gI f_224_23, mk_pI f_224_23, mk_gI f_224_24, mk_pI f_224_24, mk_gI f_224_25, mk_pI f_224_25, mk_gR f_224_26, mk_gI f_224_27, mk_pI f_224_27, mk_gI f_224_28, mk_pI f_224_28, mk_gR f_224_29, mk_gI f_224_30, mk_pI f_224_30, mk_gI f_224_31, mk_pI f_224_31, mk_gR f_224_32, mk_gI f_224_33, mk_pI f_224_33, ↓m_1, ↓m_2, i_0, i_1, i_2, i_3, i_4, i_6, i_5, i_12, i_11, i_10, i_9999, i_7, i_9, i_8, i_24, i_100, i_56, i_48, i_13, i_176, i_232, i_224, i_32, i_999, i_99, i_900, i_97, i_90, i_30, i_20, i_59, i_14, i_50, i_29, i_22, i_19, i_18, i_17, i_96, i_61, i_57, i_51, i_41, i_26, i_2552, i_255, i_25, i_23, i_21, i_16, i_15, i_122, i_10000, i_31, l_97, l_122, l_32, l_96, dzF, obs, b2_some, rz0, rz1, rzb, n01, n01', n10, n01e, nI_add, nI_mul, ↓reduceIte, not_false_eq_true, not_true_eq_false, ite_not, h11, h10, e0, e1, nI_sub, leT]
    · rw [if_neg hc]
      exact ⟨_, J, fin q I J (nI (b q)) hp (by omega) h10 h11 e0 (win0 hc (by omega) (by decide) (by decide)) fu, by rw [u2_no _ _ (by omega)]; exact h11, h14, by rw [u2_at], fun a c z => u2_no _ _ (by omega), Gg.refl J⟩
theorem R_gdL {p : Nat} : ∀ (k q fu : Nat) (I : Nat → Nat → Int32), q + k = N → k < fu → p ≤ q → TKr b N I → I 224 10 = nI p → I 224 11 = nI q → I 224 13 = nI (dgV b p (min (q - p) 4)) → ∃ I', mX10_go_L213 fu (mk n I J) 224 = some (mk n I' J) ∧ I' 224 11 = nI (rnD b k q) ∧ I' 224 13 = nI (dgV b p (min (rnD b k q - p) 4)) ∧ I' 224 12 = nI (if rnD b k q - p ≤ 4 then 2 else 4) ∧ (∀ a c, ¬ (a = 224 ∧ (c = 11 ∨ c = 12 ∨ c = 13)) → I' a c = I a c) := by
  have fin : ∀ (q : Nat) (I : Nat → Nat → Int32) (v : Int32), p ≤ q → q ≤ 900 → I 224 10 = nI p → I 224 11 = nI q → mX10_byteAt (mk n I J) 224 (nI q) = some (v, mk n I J) → mX10_within (mk n I J) (Int32.toInt64 v) (lN 48) (lN 57) = some (nI 0, mk n I J) → ∀ fu, mX10_go_b213 (mX10_go_L213 fu) (mk n I J) 224 = some (mk n (u2 I 224 12 (nI (if q - p ≤ 4 then 2 else 4))) J) := by
    intro q I v hp hq h10 h11 e1 e2 fu
    unfold mX10_go_b213 mX10_go_b309
    by_cases h7 : q - p ≤ 4
    · rw [if_pos h7]
      simp (disch := omega) only [mk_oO o_224, mk_gI f_224_0, mk_pI f_224_0, mk_gR f_224_1, mk_gR f_224_2, mk_gR f_224_3, mk_gR f_224_4, mk_gR f_224_5, mk_gI f_224_6, mk_pI f_224_6, mk_gR f_224_7, mk_gI f_224_8, mk_pI f_224_8, mk_gI f_224_9, mk_pI f_224_9, mk_gI f_224_10, mk_pI f_224_10, mk_gI f_224_11, mk_pI f_224_11, mk_gI f_224_12, mk_pI f_224_12, mk_gI f_224_13, mk_pI f_224_13, mk_gL f_224_14, mk_pL f_224_14, mk_gI f_224_15, mk_pI f_224_15, mk_gI f_224_16, mk_pI f_224_16, mk_gR f_224_17, mk_gR f_224_18, mk_gR f_224_19, mk_gI f_224_20, mk_pI f_224_20, mk_gR f_224_21, mk_gI f_224_22, mk_pI f_224_22, mk_gI f_224_23, mk_pI f_224_23, mk_gI f_224_24, mk_pI f_224_24, mk_gI f_224_25, mk_pI f_224_25, mk_gR f_224_26, mk_gI f_224_27, mk_pI f_224_27, mk_gI f_224_28, mk_pI f_224_28, mk_gR f_224_29, mk_gI f_224_30, mk_pI f_224_30, mk_gI f_224_31, mk_pI f_224_31, mk_gR f_224_32, mk_gI f_224_33, mk_pI f_224_33, ↓m_1, ↓m_2, i_0, i_1, i_2, i_3, i_4, i_6, i_5, i_12, i_11, i_10, i_9999, i_7, i_9, i_8, i_24, i_100, i_56, i_48, i_13, i_176, i_232, i_224, i_32, i_999, i_99, i_900, i_97, i_90, i_30, i_20, i_59, i_14, i_50, i_29, i_22, i_19, i_18, i_17, i_96, i_61, i_57, i_51, i_41, i_26, i_2552, i_255, i_25, i_23, i_21, i_16, i_15, i_122, i_10000, i_31, l_48, l_57, dzF, obs, b2_some, rz0, rz1, rzb, n01, n01', n10, n01e, nI_add, nI_mul, ↓reduceIte, not_false_eq_true, not_true_eq_false, ite_not, h11, h10, e1, e2, nI_sub, leT]
    · rw [if_neg h7]
      simp (disch := omega) only [mk_oO o_224, mk_gI f_224_0, mk_pI f_224_0, mk_gR f_224_1, mk_gR f_224_2, mk_gR f_224_3, mk_gR f_224_4, mk_gR f_224_5, mk_gI f_224_6, mk_pI f_224_6, mk_gR f_224_7, mk_gI f_224_8, mk_pI f_224_8, mk_gI f_224_9, mk_pI f_224_9, mk_gI f_224_10, mk_pI f_224_10, mk_gI f_224_11, mk_pI f_224_11, mk_gI f_224_12, mk_pI f_224_12, mk_gI f_224_13, mk_pI f_224_13, mk_gL f_224_14, mk_pL f_224_14, mk_gI f_224_15, mk_pI f_224_15, mk_gI f_224_16, mk_pI f_224_16, mk_gR f_224_17, mk_gR f_224_18, mk_gR f_224_19, mk_gI f_224_20, mk_pI f_224_20, mk_gR f_224_21, mk_gI f_224_22, mk_pI f_224_22, mk_gI f_224_23, mk_pI f_224_23, mk_gI f_224_24, mk_pI f_224_24, mk_gI f_224_25, mk_pI f_224_25, mk_gR f_224_26, mk_gI f_224_27, mk_pI f_224_27, mk_gI f_224_28, mk_pI f_224_28, mk_gR f_224_29, mk_gI f_224_30, mk_pI f_224_30, mk_gI f_224_31, mk_pI f_224_31, mk_gR f_224_32, mk_gI f_224_33, mk_pI f_224_33, ↓m_1, ↓m_2, i_0, i_1, i_2, i_3, i_4, i_6, i_5, i_12, i_11, i_10, i_9999, i_7, i_9, i_8, i_24, i_100, i_56, i_48, i_13, i_176, i_232, i_224, i_32, i_999, i_99, i_900, i_97, i_90, i_30, i_20, i_59, i_14, i_50, i_29, i_22, i_19, i_18, i_17, i_96, i_61, i_57, i_51, i_41, i_26, i_2552, i_255, i_25, i_23, i_21, i_16, i_15, i_122, i_10000, i_31, l_48, l_57, dzF, obs, b2_some, rz0, rz1, rzb, n01, n01', n10, n01e, nI_add, nI_mul, ↓reduceIte, not_false_eq_true, not_true_eq_false, ite_not, h11, h10, e1, e2, nI_sub, leF]
  intro k
  induction k with
  | zero =>
    intro q fu I hq hf hp h h10 h11 h13
    obtain ⟨fu, rfl⟩ : ∃ f, fu = f + 1 := ⟨fu - 1, by omega⟩
    have hN := h.1
    exact ⟨_, fin q I M1 hp (by omega) h10 h11 (byAt0 h (by omega) (by omega)) (winM (by decide) (by decide)) fu, by rw [u2_no _ _ (by omega), h11]; rfl, by rw [u2_no _ _ (by omega)]; exact h13, by rw [u2_at]; rfl, fun a c z => u2_no _ _ (by omega)⟩
  | succ k ih =>
    intro q fu I hq hf hp h h10 h11 h13
    obtain ⟨fu, rfl⟩ : ∃ f, fu = f + 1 := ⟨fu - 1, by omega⟩
    have hN := h.1
    have hb := (h.2.1 q (by omega)).1
    have e0 := byAt1 (n := n) (J := J) h (by omega : q < N)
    unfold rnD
    by_cases hc : isDg (b q)
    · have hc1 := hc.1
      have hc2 := hc.2
      have e1 := win1 (h := mk n I J) hc1 hc2 (by decide)
      by_cases h7 : q - p < 4
      · have e14 : nI (10 * dgV b p (min (q - p) 4) + b q) - nI 48 = nI (dgV b p (min (q + 1 - p) 4)) := by
          rw [Nat.min_eq_left (by omega), Nat.min_eq_left (by omega), show q + 1 - p = (q - p) + 1 by omega, dgV, nI_sub (by omega), show p + (q - p) = q by omega]
          congr 1
          omega
        obtain ⟨I', e, r1, r2, r3, r4⟩ := ih (q + 1) fu (u2 (u2 I 224 13 (nI (dgV b p (min (q + 1 - p) 4)))) 224 11 (nI (q + 1))) (by omega) (by omega) (by omega) (h.fg ((Fg_u I _ (by omega)).trans (Fg_u _ _ (by omega)))) (by rw [u2_no _ _ (by omega), u2_no _ _ (by omega)]; exact h10) (u2_at _ _ _ _) (by rw [u2_no _ _ (by omega), u2_at])
        rw [if_pos hc]
        refine ⟨I', ?_, r1, r2, r3, fun a c z => by rw [r4 a c z, u2_no _ _ (by omega), u2_no _ _ (by omega)]⟩
        rw [← e, ← e14]
        show mX10_go_b213 _ _ _ = _
        unfold mX10_go_b213 mX10_go_b274
        simp (disch := omega) only [mk_oO o_224, mk_gI f_224_0, mk_pI f_224_0, mk_gR f_224_1, mk_gR f_224_2, mk_gR f_224_3, mk_gR f_224_4, mk_gR f_224_5, mk_gI f_224_6, mk_pI f_224_6, mk_gR f_224_7, mk_gI f_224_8, mk_pI f_224_8, mk_gI f_224_9, mk_pI f_224_9, mk_gI f_224_10, mk_pI f_224_10, mk_gI f_224_11, mk_pI f_224_11, mk_gI f_224_12, mk_pI f_224_12, mk_gI f_224_13, mk_pI f_224_13, mk_gL f_224_14, mk_pL f_224_14, mk_gI f_224_15, mk_pI f_224_15, mk_gI f_224_16, mk_pI f_224_16, mk_gR f_224_17, mk_gR f_224_18, mk_gR f_224_19, mk_gI f_224_20, mk_pI f_224_20, mk_gR f_224_21, mk_gI f_224_22, mk_pI f_224_22, mk_gI f_224_23, mk_pI f_224_23, mk_gI f_224_24, mk_pI f_224_24, mk_gI f_224_25, mk_pI f_224_25, mk_gR f_224_26, mk_gI f_224_27, mk_pI f_224_27, mk_gI f_224_28, mk_pI f_224_28, mk_gR f_224_29, mk_gI f_224_30, mk_pI f_224_30, mk_gI f_224_31, mk_pI f_224_31, mk_gR f_224_32, mk_gI f_224_33, mk_pI f_224_33, ↓m_1, ↓m_2, i_0, i_1, i_2, i_3, i_4, i_6, i_5, i_12, i_11, i_10, i_9999, i_7, i_9, i_8, i_24, i_100, i_56, i_48, i_13, i_176, i_232, i_224, i_32, i_999, i_99, i_900, i_97, i_90, i_30, i_20, i_59, i_14, i_50, i_29, i_22, i_19, i_18, i_17, i_96, i_61, i_57, i_51, i_41, i_26, i_2552, i_255, i_25, i_23, i_21, i_16, i_15, i_122, i_10000, i_31, l_48, l_57, dzF, obs, b2_some, rz0, rz1, rzb, n01, n01', n10, n01e, nI_add, nI_mul, ↓reduceIte, not_false_eq_true, not_true_eq_false, ite_not, h11, h10, e0, e1, nI_sub (show p ≤ q by omega), leF, h13, u2_no]
      · obtain ⟨I', e, r1, r2, r3, r4⟩ := ih (q + 1) fu (u2 (u2 I 224 13 (I 224 13)) 224 11 (nI (q + 1))) (by omega) (by omega) (by omega) (h.fg ((Fg_u I _ (by omega)).trans (Fg_u _ _ (by omega)))) (by rw [u2_no _ _ (by omega), u2_no _ _ (by omega)]; exact h10) (u2_at _ _ _ _) (by rw [u2_no _ _ (by omega), u2_at, h13, Nat.min_eq_right (by omega), Nat.min_eq_right (by omega)])
        rw [if_pos hc]
        refine ⟨I', ?_, r1, r2, r3, fun a c z => by rw [r4 a c z, u2_no _ _ (by omega), u2_no _ _ (by omega)]⟩
        rw [← e]
        show mX10_go_b213 _ _ _ = _
        unfold mX10_go_b213 mX10_go_b274
        simp (disch := omega) only [mk_oO o_224, mk_gI f_224_0, mk_pI f_224_0, mk_gR f_224_1, mk_gR f_224_2, mk_gR f_224_3, mk_gR f_224_4, mk_gR f_224_5, mk_gI f_224_6, mk_pI f_224_6, mk_gR f_224_7, mk_gI f_224_8, mk_pI f_224_8, mk_gI f_224_9, mk_pI f_224_9, mk_gI f_224_10, mk_pI f_224_10, mk_gI f_224_11, mk_pI f_224_11, mk_gI f_224_12, mk_pI f_224_12, mk_gI f_224_13, mk_pI f_224_13, mk_gL f_224_14, mk_pL f_224_14, mk_gI f_224_15, mk_pI f_224_15, mk_gI f_224_16, mk_pI f_224_16, mk_gR f_224_17, mk_gR f_224_18, mk_gR f_224_19, mk_gI f_224_20, mk_pI f_224_20, mk_gR f_224_21, mk_gI f_224_22, mk_pI f_224_22, mk_gI f_224_23, mk_pI f_224_23, mk_gI f_224_24, mk_pI f_224_24, mk_gI f_224_25, mk_pI f_224_25, mk_gR f_224_26, mk_gI f_224_27, mk_pI f_224_27, mk_gI f_224_28, mk_pI f_224_28, mk_gR f_224_29, mk_gI f_224_30, mk_pI f_224_30, mk_gI f_224_31, mk_pI f_224_31, mk_gR f_224_32, mk_gI f_224_33, mk_pI f_224_33, ↓m_1, ↓m_2, i_0, i_1, i_2, i_3, i_4, i_6, i_5, i_12, i_11, i_10, i_9999, i_7, i_9, i_8, i_24, i_100, i_56, i_48, i_13, i_176, i_232, i_224, i_32, i_999, i_99, i_900, i_97, i_90, i_30, i_20, i_59, i_14, i_50, i_29, i_22, i_19, i_18, i_17, i_96, i_61, i_57, i_51, i_41, i_26, i_2552, i_255, i_25, i_23, i_21, i_16, i_15, i_122, i_10000, i_31, l_48, l_57, dzF, obs, b2_some, rz0, rz1, rzb, n01, n01', n10, n01e, nI_add, nI_mul, ↓reduceIte, not_false_eq_true, not_true_eq_false, ite_not, h11, h10, e0, e1, nI_sub, leT, u2_no]
    · rw [if_neg hc]
      exact ⟨_, fin q I (nI (b q)) hp (by omega) h10 h11 e0 (win0 hc (by omega) (by decide) (by decide)) fu, by rw [u2_no _ _ (by omega)]; exact h11, by rw [u2_no _ _ (by omega)]; exact h13, by rw [u2_at], fun a c z => u2_no _ _ (by omega)⟩
/-- the reference holds the token at or behind q -/
def TR (b : Nat → Nat) (N q : Nat) (I : Nat → Nat → Int32) (J : Nat → Nat → Int64) : Prop := I 224 10 = nI (tP b N q) ∧ I 224 12 = nI (tK b N q) ∧ (tK b N q ≠ 4 → I 224 11 = nI (tE b N q)) ∧ (tK b N q = 1 → J 224 14 = lN (enc 32 (tW b N q))) ∧ (tK b N q = 2 → I 224 13 = nI (tV b N q))
set_option maxHeartbeats 4000000 in
theorem R_go {I : Nat → Nat → Int32} {J : Nat → Nat → Int64} (h : TKr b N I) {q : Nat} (hq : q ≤ N) (h3 : I 224 11 = nI q) : ∃ I' J', mX10_go (mk n I J) 224 = some (mk n I' J') ∧ Fg I I' ∧ Gg J J' ∧ TR b N q I' J' := by
  have hN := h.1
  obtain ⟨I1, e1, r1, f1⟩ := R_skipL (n := n) (J := J) (N - q) q FU I (by omega) (by unfold FU; omega) h h3
  have hp := tP_in (b := b) hq
  have r1' : I1 224 11 = nI (tP b N q) := r1
  obtain ⟨I2, hI2⟩ : ∃ I2, I2 = u2 (u2 I1 224 10 (nI (tP b N q))) 224 13 (nI 0) := ⟨_, rfl⟩
  obtain ⟨J2, hJ2⟩ : ∃ J2, J2 = u2 J 224 14 (lN 0) := ⟨_, rfl⟩
  have f2 : Fg I1 I2 := by rw [hI2]; exact (Fg_u I1 _ (by omega)).trans (Fg_u _ _ (by omega))
  have g2 : Gg J J2 := by rw [hJ2]; exact Gg_u J _
  have hT2 := (h.fg f1).fg f2
  have a10 : I2 224 10 = nI (tP b N q) := by rw [hI2, u2_no _ _ (by omega), u2_at]
  have a11 : I2 224 11 = nI (tP b N q) := by rw [hI2, u2_no _ _ (by omega), u2_no _ _ (by omega)]; exact r1'
  have a13 : I2 224 13 = nI 0 := by rw [hI2, u2_at]
  have a14 : J2 224 14 = lN 0 := by rw [hJ2, u2_at]
  have fF := f1.trans f2
  have main : ∀ I' J', goB (mk n I1 J) = some (mk n I' J') → mX10_go (mk n I J) 224 = some (mk n I' J') := fun I' J' e => by
    unfold mX10_go
    rw [mk_oO o_224]
    exact e1.trans e
  by_cases hE : N ≤ tP b N q
  · have kd : tK b N q = 0 := by unfold tK kdP; rw [if_pos hE]
    have ed : tE b N q = tP b N q := by unfold tE edP; rw [if_pos hE]
    have e0 := byAt0 (n := n) (J := J2) hT2 hE (by omega)
    refine ⟨u2 I2 224 12 (nI 0), J2, main _ _ ?_, fF.trans (Fg_u _ _ (by omega)), g2, by rw [u2_no _ _ (by omega)]; exact a10, by rw [u2_at, kd], fun _ => by rw [u2_no _ _ (by omega), ed]; exact a11, fun z => by omega, fun z => by omega⟩
    unfold goB
    simp (disch := omega) only [mk_oO o_224, mk_gI f_224_0, mk_pI f_224_0, mk_gR f_224_1, mk_gR f_224_2, mk_gR f_224_3, mk_gR f_224_4, mk_gR f_224_5, mk_gI f_224_6, mk_pI f_224_6, mk_gR f_224_7, mk_gI f_224_8, mk_pI f_224_8, mk_gI f_224_9, mk_pI f_224_9, mk_gI f_224_10, mk_pI f_224_10, mk_gI f_224_11, mk_pI f_224_11, mk_gI f_224_12, mk_pI f_224_12, mk_gI f_224_13, mk_pI f_224_13, mk_gL f_224_14, mk_pL f_224_14, mk_gI f_224_15, mk_pI f_224_15, mk_gI f_224_16, mk_pI f_224_16, mk_gR f_224_17, mk_gR f_224_18, mk_gR f_224_19, mk_gI f_224_20, mk_pI f_224_20, mk_gR f_224_21, mk_gI f_224_22, mk_pI f_224_22, mk_gI f_224_23, mk_pI f_224_23, mk_gI f_224_24, mk_pI f_224_24, mk_gI f_224_25, mk_pI f_224_25, mk_gR f_224_26, mk_gI f_224_27, mk_pI f_224_27, mk_gI f_224_28, mk_pI f_224_28, mk_gR f_224_29, mk_gI f_224_30, mk_pI f_224_30, mk_gI f_224_31, mk_pI f_224_31, mk_gR f_224_32, mk_gI f_224_33, mk_pI f_224_33, ↓m_1, ↓m_2, i_0, i_1, i_2, i_3, i_4, i_6, i_5, i_12, i_11, i_10, i_9999, i_7, i_9, i_8, i_24, i_100, i_56, i_48, i_13, i_176, i_232, i_224, i_32, i_999, i_99, i_900, i_97, i_90, i_30, i_20, i_59, i_14, i_50, i_29, i_22, i_19, i_18, i_17, i_96, i_61, i_57, i_51, i_41, i_26, i_2552, i_255, i_25, i_23, i_21, i_16, i_15, i_122, i_10000, i_31, l_0, dzF, obs, b2_some, rz0, rz1, rzb, n01, n01', n10, n01e, nI_add, nI_mul, ↓reduceIte, not_false_eq_true, not_true_eq_false, ite_not, r1', ← hI2, ← hJ2, a11, e0, M1_0]
  · have e0 := byAt1 (n := n) (J := J2) hT2 (by omega : tP b N q < N)
    have hb := (hT2.2.1 (tP b N q) (by omega)).1
    by_cases hl : isLt (b (tP b N q))
    · have hl1 := hl.1
      have hl2 := hl.2
      have h59 : ¬ b (tP b N q) = 59 := by omega
      have e2 := win1 (h := mk n I2 J2) hl1 hl2 (by decide)
      obtain ⟨I3, J3, e3, p1, p2, p3, p4, p5⟩ := R_gwL (n := n) (p := tP b N q) (N - tP b N q) (tP b N q) FU I2 J2 (by omega) (by unfold FU; omega) (Nat.le_refl _) hT2 a10 a11 (by rw [a14, Nat.sub_self]; rfl)
      have ed : tE b N q = rnL b (N - tP b N q) (tP b N q) := by unfold tE edP; rw [if_neg hE, if_neg h59, if_pos hl]
      have kd : tK b N q = if tE b N q - tP b N q ≤ 7 then 1 else 4 := by unfold tK kdP; rw [if_neg hE, if_neg h59, if_pos hl, ← ed]
      rw [← ed] at p1 p2 p3
      refine ⟨I3, J3, main _ _ ?_, fF.trans (fun a c z => p4 a c (by omega)), g2.trans p5, by rw [p4 _ _ (by omega)]; exact a10, by rw [p3, kd], fun _ => p1, fun z => ?_, fun z => ?_⟩
      · unfold goB
        simp (disch := omega) only [mk_oO o_224, mk_gI f_224_0, mk_pI f_224_0, mk_gR f_224_1, mk_gR f_224_2, mk_gR f_224_3, mk_gR f_224_4, mk_gR f_224_5, mk_gI f_224_6, mk_pI f_224_6, mk_gR f_224_7, mk_gI f_224_8, mk_pI f_224_8, mk_gI f_224_9, mk_pI f_224_9, mk_gI f_224_10, mk_pI f_224_10, mk_gI f_224_11, mk_pI f_224_11, mk_gI f_224_12, mk_pI f_224_12, mk_gI f_224_13, mk_pI f_224_13, mk_gL f_224_14, mk_pL f_224_14, mk_gI f_224_15, mk_pI f_224_15, mk_gI f_224_16, mk_pI f_224_16, mk_gR f_224_17, mk_gR f_224_18, mk_gR f_224_19, mk_gI f_224_20, mk_pI f_224_20, mk_gR f_224_21, mk_gI f_224_22, mk_pI f_224_22, mk_gI f_224_23, mk_pI f_224_23, mk_gI f_224_24, mk_pI f_224_24, mk_gI f_224_25, mk_pI f_224_25, mk_gR f_224_26, mk_gI f_224_27, mk_pI f_224_27, mk_gI f_224_28, mk_pI f_224_28, mk_gR f_224_29, mk_gI f_224_30, mk_pI f_224_30, mk_gI f_224_31, mk_pI f_224_31, mk_gR f_224_32, mk_gI f_224_33, mk_pI f_224_33, ↓m_1, ↓m_2, i_0, i_1, i_2, i_3, i_4, i_6, i_5, i_12, i_11, i_10, i_9999, i_7, i_9, i_8, i_24, i_100, i_56, i_48, i_13, i_176, i_232, i_224, i_32, i_999, i_99, i_900, i_97, i_90, i_30, i_20, i_59, i_14, i_50, i_29, i_22, i_19, i_18, i_17, i_96, i_61, i_57, i_51, i_41, i_26, i_2552, i_255, i_25, i_23, i_21, i_16, i_15, i_122, i_10000, i_31, l_0, l_97, l_122, dzF, obs, b2_some, rz0, rz1, rzb, n01, n01', n10, n01e, nI_add, nI_mul, ↓reduceIte, not_false_eq_true, not_true_eq_false, ite_not, r1', ← hI2, ← hJ2, a11, e0, leT, e2]
        exact e3
      · have h7 : tE b N q - tP b N q ≤ 7 := by rw [kd] at z; split at z <;> omega
        rw [p2, Nat.min_eq_left h7]; rfl
      · rw [kd] at z; split at z <;> omega
    · have e2 := win0 (h := mk n I2 J2) hl (by omega) (by decide) (by decide)
      by_cases hd : isDg (b (tP b N q))
      · have hd1 := hd.1
        have hd2 := hd.2
        have h59 : ¬ b (tP b N q) = 59 := by omega
        have e4 := win1 (h := mk n I2 J2) hd1 hd2 (by decide)
        obtain ⟨I3, e3, p1, p2, p3, p4⟩ := R_gdL (n := n) (J := J2) (p := tP b N q) (N - tP b N q) (tP b N q) FU I2 (by omega) (by unfold FU; omega) (Nat.le_refl _) hT2 a10 a11 (by rw [a13, Nat.sub_self]; rfl)
        have ed : tE b N q = rnD b (N - tP b N q) (tP b N q) := by unfold tE edP; rw [if_neg hE, if_neg h59, if_neg hl, if_pos hd]
        have kd : tK b N q = if tE b N q - tP b N q ≤ 4 then 2 else 4 := by unfold tK kdP; rw [if_neg hE, if_neg h59, if_neg hl, if_pos hd, ← ed]
        rw [← ed] at p1 p2 p3
        refine ⟨I3, J2, main _ _ ?_, fF.trans (fun a c z => p4 a c (by omega)), g2, by rw [p4 _ _ (by omega)]; exact a10, by rw [p3, kd], fun _ => p1, fun z => ?_, fun z => ?_⟩
        · unfold goB
          simp (disch := omega) only [mk_oO o_224, mk_gI f_224_0, mk_pI f_224_0, mk_gR f_224_1, mk_gR f_224_2, mk_gR f_224_3, mk_gR f_224_4, mk_gR f_224_5, mk_gI f_224_6, mk_pI f_224_6, mk_gR f_224_7, mk_gI f_224_8, mk_pI f_224_8, mk_gI f_224_9, mk_pI f_224_9, mk_gI f_224_10, mk_pI f_224_10, mk_gI f_224_11, mk_pI f_224_11, mk_gI f_224_12, mk_pI f_224_12, mk_gI f_224_13, mk_pI f_224_13, mk_gL f_224_14, mk_pL f_224_14, mk_gI f_224_15, mk_pI f_224_15, mk_gI f_224_16, mk_pI f_224_16, mk_gR f_224_17, mk_gR f_224_18, mk_gR f_224_19, mk_gI f_224_20, mk_pI f_224_20, mk_gR f_224_21, mk_gI f_224_22, mk_pI f_224_22, mk_gI f_224_23, mk_pI f_224_23, mk_gI f_224_24, mk_pI f_224_24, mk_gI f_224_25, mk_pI f_224_25, mk_gR f_224_26, mk_gI f_224_27, mk_pI f_224_27, mk_gI f_224_28, mk_pI f_224_28, mk_gR f_224_29, mk_gI f_224_30, mk_pI f_224_30, mk_gI f_224_31, mk_pI f_224_31, mk_gR f_224_32, mk_gI f_224_33, mk_pI f_224_33, ↓m_1, ↓m_2, i_0, i_1, i_2, i_3, i_4, i_6, i_5, i_12, i_11, i_10, i_9999, i_7, i_9, i_8, i_24, i_100, i_56, i_48, i_13, i_176, i_232, i_224, i_32, i_999, i_99, i_900, i_97, i_90, i_30, i_20, i_59, i_14, i_50, i_29, i_22, i_19, i_18, i_17, i_96, i_61, i_57, i_51, i_41, i_26, i_2552, i_255, i_25, i_23, i_21, i_16, i_15, i_122, i_10000, i_31, l_0, l_97, l_122, l_48, l_57, dzF, obs, b2_some, rz0, rz1, rzb, n01, n01', n10, n01e, nI_add, nI_mul, ↓reduceIte, not_false_eq_true, not_true_eq_false, ite_not, r1', ← hI2, ← hJ2, a11, e0, leT, e2, e4]
          exact e3
        · rw [kd] at z; split at z <;> omega
        · have h4 : tE b N q - tP b N q ≤ 4 := by rw [kd] at z; split at z <;> omega
          rw [p2, Nat.min_eq_left h4]; rfl
      · have e4 := win0 (h := mk n I2 J2) hd (by omega) (by decide) (by decide)
        by_cases h59 : b (tP b N q) = 59
        · have kd : tK b N q = 3 := by unfold tK kdP; rw [if_neg hE, if_pos h59]
          have ed : tE b N q = tP b N q + 1 := by unfold tE edP; rw [if_neg hE, if_pos h59]
          refine ⟨u2 (u2 I2 224 11 (nI (tP b N q + 1))) 224 12 (nI 3), J2, main _ _ ?_, (fF.trans (Fg_u _ _ (by omega))).trans (Fg_u _ _ (by omega)), g2, by rw [u2_no _ _ (by omega), u2_no _ _ (by omega)]; exact a10, by rw [u2_at, kd], fun _ => by rw [u2_no _ _ (by omega), u2_at, ed], fun z => by omega, fun z => by omega⟩
          unfold goB mX10_go_b337
          rw [h59] at e0 e2 e4
          simp (disch := omega) only [mk_oO o_224, mk_gI f_224_0, mk_pI f_224_0, mk_gR f_224_1, mk_gR f_224_2, mk_gR f_224_3, mk_gR f_224_4, mk_gR f_224_5, mk_gI f_224_6, mk_pI f_224_6, mk_gR f_224_7, mk_gI f_224_8, mk_pI f_224_8, mk_gI f_224_9, mk_pI f_224_9, mk_gI f_224_10, mk_pI f_224_10, mk_gI f_224_11, mk_pI f_224_11, mk_gI f_224_12, mk_pI f_224_12, mk_gI f_224_13, mk_pI f_224_13, mk_gL f_224_14, mk_pL f_224_14, mk_gI f_224_15, mk_pI f_224_15, mk_gI f_224_16, mk_pI f_224_16, mk_gR f_224_17, mk_gR f_224_18, mk_gR f_224_19, mk_gI f_224_20, mk_pI f_224_20, mk_gR f_224_21, mk_gI f_224_22, mk_pI f_224_22, mk_gI f_224_23, mk_pI f_224_23, mk_gI f_224_24, mk_pI f_224_24, mk_gI f_224_25, mk_pI f_224_25, mk_gR f_224_26, mk_gI f_224_27, mk_pI f_224_27, mk_gI f_224_28, mk_pI f_224_28, mk_gR f_224_29, mk_gI f_224_30, mk_pI f_224_30, mk_gI f_224_31, mk_pI f_224_31, mk_gR f_224_32, mk_gI f_224_33, mk_pI f_224_33, ↓m_1, ↓m_2, i_0, i_1, i_2, i_3, i_4, i_6, i_5, i_12, i_11, i_10, i_9999, i_7, i_9, i_8, i_24, i_100, i_56, i_48, i_13, i_176, i_232, i_224, i_32, i_999, i_99, i_900, i_97, i_90, i_30, i_20, i_59, i_14, i_50, i_29, i_22, i_19, i_18, i_17, i_96, i_61, i_57, i_51, i_41, i_26, i_2552, i_255, i_25, i_23, i_21, i_16, i_15, i_122, i_10000, i_31, l_0, l_97, l_122, l_48, l_57, dzF, obs, b2_some, rz0, rz1, rzb, n01, n01', n10, n01e, nI_add, nI_mul, ↓reduceIte, not_false_eq_true, not_true_eq_false, ite_not, r1', ← hI2, ← hJ2, a11, e0, leT, e2, e4]
        · have kd : tK b N q = 4 := by unfold tK kdP; rw [if_neg hE, if_neg h59, if_neg hl, if_neg hd]
          refine ⟨u2 (u2 I2 224 11 (nI (tP b N q + 1))) 224 12 (nI 4), J2, main _ _ ?_, (fF.trans (Fg_u _ _ (by omega))).trans (Fg_u _ _ (by omega)), g2, by rw [u2_no _ _ (by omega), u2_no _ _ (by omega)]; exact a10, by rw [u2_at, kd], fun z => absurd kd z, fun z => by omega, fun z => by omega⟩
          unfold goB mX10_go_b337
          simp (disch := omega) only [mk_oO o_224, mk_gI f_224_0, mk_pI f_224_0, mk_gR f_224_1, mk_gR f_224_2, mk_gR f_224_3, mk_gR f_224_4, mk_gR f_224_5, mk_gI f_224_6, mk_pI f_224_6, mk_gR f_224_7, mk_gI f_224_8, mk_pI f_224_8, mk_gI f_224_9, mk_pI f_224_9, mk_gI f_224_10, mk_pI f_224_10, mk_gI f_224_11, mk_pI f_224_11, mk_gI f_224_12, mk_pI f_224_12, mk_gI f_224_13, mk_pI f_224_13, mk_gL f_224_14, mk_pL f_224_14, mk_gI f_224_15, mk_pI f_224_15, mk_gI f_224_16, mk_pI f_224_16, mk_gR f_224_17, mk_gR f_224_18, mk_gR f_224_19, mk_gI f_224_20, mk_pI f_224_20, mk_gR f_224_21, mk_gI f_224_22, mk_pI f_224_22, mk_gI f_224_23, mk_pI f_224_23, mk_gI f_224_24, mk_pI f_224_24, mk_gI f_224_25, mk_pI f_224_25, mk_gR f_224_26, mk_gI f_224_27, mk_pI f_224_27, mk_gI f_224_28, mk_pI f_224_28, mk_gR f_224_29, mk_gI f_224_30, mk_pI f_224_30, mk_gI f_224_31, mk_pI f_224_31, mk_gR f_224_32, mk_gI f_224_33, mk_pI f_224_33, ↓m_1, ↓m_2, i_0, i_1, i_2, i_3, i_4, i_6, i_5, i_12, i_11, i_10, i_9999, i_7, i_9, i_8, i_24, i_100, i_56, i_48, i_13, i_176, i_232, i_224, i_32, i_999, i_99, i_900, i_97, i_90, i_30, i_20, i_59, i_14, i_50, i_29, i_22, i_19, i_18, i_17, i_96, i_61, i_57, i_51, i_41, i_26, i_2552, i_255, i_25, i_23, i_21, i_16, i_15, i_122, i_10000, i_31, l_0, l_97, l_122, l_48, l_57, dzF, obs, b2_some, rz0, rz1, rzb, n01, n01', n10, n01e, nI_add, nI_mul, ↓reduceIte, not_false_eq_true, not_true_eq_false, ite_not, r1', ← hI2, ← hJ2, a11, e0, leT, e2, e4, eqF]
end GO
