/-! ===== 98h: the reference's loop over the lines ===== -/
def tailT (h : PH) (x : Int32) : Option (Int32 × PH) := (gR 10 2 h 224).bind fun v100 => (gR 10 1 h 224).bind fun v105 => (mX10_copies h v100 (0 : Int32) v105 (0 : Int32)).bind fun h109 => mX10_text_L114 FU h109 224 x (0 : Int32)
section RH
variable {n : Nat} {b : Nat → Nat} {N : Nat}
theorem R_ends {q : Nat} {nm : NmL} {I : Nat → Nat → Int32} {J : Nat → Nat → Int64} (h : RRd b N q nm I J) : (tK b N q = 3 ∧ ∃ I' J', mX10_ends (mk n I J) 224 = some (nI 1, mk n I' J') ∧ RRd b N (tE b N q) nm I' J' ∧ Fg I I' ∧ Gg J J') ∨ (tK b N q ≠ 3 ∧ mX10_ends (mk n I J) 224 = some (nI 0, mk n (u2 I 224 15 (nI (8 * tP b N q + 1))) J)) := by
  have t2 := h.2.2.1.2.1
  have hK := tK_le4 (b := b) (N := N) q
  unfold mX10_ends
  by_cases h3 : tK b N q = 3
  · obtain ⟨I', J', e, r, f, g⟩ := R_step (n := n) h (by omega)
    refine Or.inl ⟨h3, I', J', ?_, r, f, g⟩
    rw [h3] at t2
    simp (disch := omega) only [mk_oO o_224, mk_gI f_224_0, mk_pI f_224_0, mk_gR f_224_1, mk_gR f_224_2, mk_gR f_224_3, mk_gR f_224_4, mk_gR f_224_5, mk_gI f_224_6, mk_pI f_224_6, mk_gR f_224_7, mk_gI f_224_8, mk_pI f_224_8, mk_gI f_224_9, mk_pI f_224_9, mk_gI f_224_10, mk_pI f_224_10, mk_gI f_224_11, mk_pI f_224_11, mk_gI f_224_12, mk_pI f_224_12, mk_gI f_224_13, mk_pI f_224_13, mk_gL f_224_14, mk_pL f_224_14, mk_gI f_224_15, mk_pI f_224_15, mk_gI f_224_16, mk_pI f_224_16, mk_gR f_224_17, mk_gR f_224_18, mk_gR f_224_19, mk_gI f_224_20, mk_pI f_224_20, mk_gR f_224_21, mk_gI f_224_22, mk_pI f_224_22, mk_gI f_224_23, mk_pI f_224_23, mk_gI f_224_24, mk_pI f_224_24, mk_gI f_224_25, mk_pI f_224_25, mk_gR f_224_26, mk_gI f_224_27, mk_pI f_224_27, mk_gI f_224_28, mk_pI f_224_28, mk_gR f_224_29, mk_gI f_224_30, mk_pI f_224_30, mk_gI f_224_31, mk_pI f_224_31, mk_gR f_224_32, mk_gI f_224_33, mk_pI f_224_33, ↓m_1, ↓m_2, i_0, i_1, i_2, i_3, i_4, i_6, i_5, i_12, i_11, i_10, i_9999, i_7, i_9, i_8, i_24, i_100, i_56, i_48, i_13, i_176, i_232, i_224, i_32, i_999, i_99, i_900, i_97, i_90, i_30, i_20, i_59, i_14, i_50, i_29, i_22, i_19, i_18, i_17, i_96, i_61, i_57, i_51, i_41, i_26, i_2552, i_255, i_25, i_23, i_21, i_16, i_15, i_122, i_10000, i_31, dzF, obs, b2_some, rz0, rz1, rzb, n01, n01', n10, n01e, nI_add, nI_mul, ↓reduceIte, not_false_eq_true, not_true_eq_false, ite_not, t2, e]
  · refine Or.inr ⟨h3, ?_⟩
    simp (disch := omega) only [mk_oO o_224, mk_gI f_224_0, mk_pI f_224_0, mk_gR f_224_1, mk_gR f_224_2, mk_gR f_224_3, mk_gR f_224_4, mk_gR f_224_5, mk_gI f_224_6, mk_pI f_224_6, mk_gR f_224_7, mk_gI f_224_8, mk_pI f_224_8, mk_gI f_224_9, mk_pI f_224_9, mk_gI f_224_10, mk_pI f_224_10, mk_gI f_224_11, mk_pI f_224_11, mk_gI f_224_12, mk_pI f_224_12, mk_gI f_224_13, mk_pI f_224_13, mk_gL f_224_14, mk_pL f_224_14, mk_gI f_224_15, mk_pI f_224_15, mk_gI f_224_16, mk_pI f_224_16, mk_gR f_224_17, mk_gR f_224_18, mk_gR f_224_19, mk_gI f_224_20, mk_pI f_224_20, mk_gR f_224_21, mk_gI f_224_22, mk_pI f_224_22, mk_gI f_224_23, mk_pI f_224_23, mk_gI f_224_24, mk_pI f_224_24, mk_gI f_224_25, mk_pI f_224_25, mk_gR f_224_26, mk_gI f_224_27, mk_pI f_224_27, mk_gI f_224_28, mk_pI f_224_28, mk_gR f_224_29, mk_gI f_224_30, mk_pI f_224_30, mk_gI f_224_31, mk_pI f_224_31, mk_gR f_224_32, mk_gI f_224_33, mk_pI f_224_33, ↓m_1, ↓m_2, i_0, i_1, i_2, i_3, i_4, i_6, i_5, i_12, i_11, i_10, i_9999, i_7, i_9, i_8, i_24, i_100, i_56, i_48, i_13, i_176, i_232, i_224, i_32, i_999, i_99, i_900, i_97, i_90, i_30, i_20, i_59, i_14, i_50, i_29, i_22, i_19, i_18, i_17, i_96, i_61, i_57, i_51, i_41, i_26, i_2552, i_255, i_25, i_23, i_21, i_16, i_15, i_122, i_10000, i_31, dzF, obs, b2_some, rz0, rz1, rzb, n01, n01', n10, n01e, nI_add, nI_mul, ↓reduceIte, not_false_eq_true, not_true_eq_false, ite_not, t2, eqF, R_bad h]
theorem R_loop : ∀ (k q l fu : Nat) (I : Nat → Nat → Int32) (J : Nat → Nat → Int64) (nm : NmL) (D : Nat → Nat) (u : Nat), N - q < k → k < fu → PI nm D → RRd b N q nm I J → NR I 226 0 D → RB I u → ∃ I' J', Fr I I' ∧ Gq J J' ∧ ((∃ f, (rdF b N k q nm D u l).1 = some f ∧ mX10_text_L64 fu (mk n I J) 224 (nI l) = some ((-2 : Int32) - nI f, mk n I' J')) ∨ ((rdF b N k q nm D u l).1 = none ∧ mX10_text_L64 fu (mk n I J) 224 (nI l) = tailT (mk n I' J') (nI (rdF b N k q nm D u l).2.1) ∧ NR I' 226 0 (rdF b N k q nm D u l).2.2.2 ∧ RNm (rdF b N k q nm D u l).2.2.1 I' J')) := by
  intro k
  induction k with
  | zero => intro q l fu I J nm D u h1; exact absurd h1 (Nat.not_lt_zero _)
  | succ k ih =>
    intro q l fu I J nm D u hk hf hP h hN hU
    obtain ⟨fu, rfl⟩ : ∃ f, fu = f + 1 := ⟨fu - 1, by omega⟩
    have hq := h.2.1
    have t2 := h.2.2.1.2.1
    have hK := tK_le4 (b := b) (N := N) q
    by_cases h0 : tK b N q = 0
    · have er : rdF b N (k + 1) q nm D u l = (none, l, nm, D) := by rw [rdF, if_pos h0]
      rw [er]
      refine ⟨I, J, Fr.refl _, Gq.refl _, Or.inr ⟨rfl, ?_, hN, h.2.2.2.2.1⟩⟩
      show mX10_text_b64 _ _ _ _ = _
      unfold mX10_text_b64 tailT
      rw [mk_gI f_224_12, obs, t2, h0, if_pos (show nI 0 = 0 from rfl)]
    · have hd : mX10_text_L64 (fu + 1) (mk n I J) 224 (nI l) = b2 (mX10_line (mk n I J) 224) fun v72 h72 => if v72 = 0 then mX10_text_b85 h72 224 else b2 (mX10_ends h72 224) fun v79 h79 => if v79 = 0 then mX10_text_b85 h79 224 else mX10_text_L64 fu h79 224 (nI l + 1) := by
        show mX10_text_b64 _ _ _ _ = _
        unfold mX10_text_b64
        rw [mk_gI f_224_12, obs, t2, if_neg (show ¬ nI (tK b N q) = 0 by rw [i_0]; exact of_eq_false (eqF h0 (by omega) (by omega)))]
      have b85 : ∀ (X : Nat → Nat → Int32) (Y : Nat → Nat → Int64), mX10_text_b85 (mk n X Y) 224 = some ((-2 : Int32) - X 224 15, mk n X Y) := fun X Y => by
        unfold mX10_text_b85
        rw [mk_gI f_224_15, obs]
      rw [hd]
      obtain ⟨I1, J1, f1, g1, ⟨m1, e1, r1, n1, u1⟩ | ⟨f, m1, e1, v1⟩⟩ := R_line (n := n) h hN hU hP
      · rw [e1, b2_some, if_neg (show ¬ nI 1 = 0 by decide)]
        rcases R_ends (n := n) r1 with ⟨h3, I2, J2, e2, r2, f2, g2⟩ | ⟨h3, e2⟩
        · rw [e2, b2_some, if_neg (show ¬ nI 1 = 0 by decide), i_1, nI_add]
          obtain ⟨hP', hq1, hq2⟩ := PI_next hP h.2.2.2.2.2 hq m1
          have pe := tE_in (b := b) hq1
          have er : rdF b N (k + 1) q nm D u l = rdF b N k (tE b N (lnF b N q nm D u).2.1) (lnF b N q nm D u).2.2.1 (lnF b N q nm D u).2.2.2.1 (lnF b N q nm D u).2.2.2.2 (l + 1) := by rw [rdF, if_neg h0, m1, md_ok h3]
          rw [er]
          obtain ⟨I', J', x1, x2, x3⟩ := ih (tE b N (lnF b N q nm D u).2.1) (l + 1) fu I2 J2 (lnF b N q nm D u).2.2.1 (lnF b N q nm D u).2.2.2.1 (lnF b N q nm D u).2.2.2.2 (by omega) (by omega) hP' r2 (fun j hj => by rw [f2.d _ _ (by omega)]; exact n1 j hj) (u1.same (f2.d _ _ (by omega)))
          exact ⟨I', J', (f1.trans f2.fr).trans x1, (g1.trans g2.gq).trans x2, x3⟩
        · have er : rdF b N (k + 1) q nm D u l = (some (8 * tP b N (lnF b N q nm D u).2.1 + 1), l, nm, D) := by rw [rdF, if_neg h0, m1, md_no h3]
          rw [er]
          refine ⟨_, J1, f1.trans (Fq_u _ (nI (8 * tP b N (lnF b N q nm D u).2.1 + 1)) (Or.inl rfl)).fr, g1, Or.inl ⟨_, rfl, ?_⟩⟩
          rw [e2, b2_some, if_pos (show nI 0 = 0 from rfl), b85, u2_at]
      · have er : rdF b N (k + 1) q nm D u l = (some f, l, nm, D) := by rw [rdF, if_neg h0, m1, md_some]
        rw [er]
        refine ⟨I1, J1, f1, g1, Or.inl ⟨f, rfl, ?_⟩⟩
        rw [e1, b2_some, if_pos (show nI 0 = 0 from rfl), b85, v1]
theorem R_114 {nm : NmL} {x : Int32} {I : Nat → Nat → Int32} (ho : NMok nm) (hU : ∀ y ∈ nm, ∀ z ∈ nm, y.2.1 = 3 → z.2.1 = 3 → y.2.2 = z.2.2 → y.1 = z.1) : ∀ (k t fu : Nat) (J : Nat → Nat → Int64), t + k = nm.length → k < fu → RNm nm I J → (∀ i y, i < t → nm[i]? = some y → y.2.1 = 3 → J 234 y.2.2 = lN (enc 32 y.1)) → ∃ J', mX10_text_L114 fu (mk n I J) 224 x (nI t) = some (x, mk n (u2 (u2 (u2 I 224 6 (nI 0)) 229 0 (nI 0)) 229 1 (nI 0)) J') ∧ (∀ a c, a ≠ 234 → J' a c = J a c) ∧ ∀ y ∈ nm, y.2.1 = 3 → J' 234 y.2.2 = lN (enc 32 y.1) := by
  have h26 := ho.1
  have nb : vp_nar .boolean (nI 0) = nI 0 := by decide
  intro k
  induction k with
  | zero =>
    intro t fu J ht hf hR hd
    obtain ⟨fu, rfl⟩ : ∃ f, fu = f + 1 := ⟨fu - 1, by omega⟩
    have h20 := hR.1
    refine ⟨J, ?_, fun _ _ _ => rfl, fun y hy h3 => ?_⟩
    · show mX10_text_b114 _ _ _ _ _ = _
      unfold mX10_text_b114
      simp (disch := omega) only [mk_oO o_224, mk_gI f_224_0, mk_pI f_224_0, mk_gR f_224_1, mk_gR f_224_2, mk_gR f_224_3, mk_gR f_224_4, mk_gR f_224_5, mk_gI f_224_6, mk_pI f_224_6, mk_gR f_224_7, mk_gI f_224_8, mk_pI f_224_8, mk_gI f_224_9, mk_pI f_224_9, mk_gI f_224_10, mk_pI f_224_10, mk_gI f_224_11, mk_pI f_224_11, mk_gI f_224_12, mk_pI f_224_12, mk_gI f_224_13, mk_pI f_224_13, mk_gL f_224_14, mk_pL f_224_14, mk_gI f_224_15, mk_pI f_224_15, mk_gI f_224_16, mk_pI f_224_16, mk_gR f_224_17, mk_gR f_224_18, mk_gR f_224_19, mk_gI f_224_20, mk_pI f_224_20, mk_gR f_224_21, mk_gI f_224_22, mk_pI f_224_22, mk_gI f_224_23, mk_pI f_224_23, mk_gI f_224_24, mk_pI f_224_24, mk_gI f_224_25, mk_pI f_224_25, mk_gR f_224_26, mk_gI f_224_27, mk_pI f_224_27, mk_gI f_224_28, mk_pI f_224_28, mk_gR f_224_29, mk_gI f_224_30, mk_pI f_224_30, mk_gI f_224_31, mk_pI f_224_31, mk_gR f_224_32, mk_gI f_224_33, mk_pI f_224_33, ↓m_1, ↓m_2, i_0, i_1, i_2, i_3, i_4, i_6, i_5, i_12, i_11, i_10, i_9999, i_7, i_9, i_8, i_24, i_100, i_56, i_48, i_13, i_176, i_232, i_224, i_32, i_999, i_99, i_900, i_97, i_90, i_30, i_20, i_59, i_14, i_50, i_29, i_22, i_19, i_18, i_17, i_96, i_61, i_57, i_51, i_41, i_26, i_2552, i_255, i_25, i_23, i_21, i_16, i_15, i_122, i_10000, i_31, dzF, obs, b2_some, rz0, rz1, rzb, n01, n01', n10, n01e, nI_add, nI_mul, ↓reduceIte, not_false_eq_true, not_true_eq_false, ite_not, h20, leT, mk_sBn a_229, nb]
    · obtain ⟨i, hi⟩ := List.getElem?_of_mem hy
      exact hd i y (by have := (List.getElem?_eq_some_iff.mp hi).1; omega) hi h3
  | succ k ih =>
    intro t fu J ht hf hR hd
    obtain ⟨fu, rfl⟩ : ∃ f, fu = f + 1 := ⟨fu - 1, by omega⟩
    have h20 := hR.1
    have htl : t < nm.length := by omega
    have hgt := List.getElem?_eq_getElem htl
    obtain ⟨y1, y2, y3⟩ := hR.2 t _ hgt
    have hin := ho.2.1 _ (List.getElem_mem htl)
    generalize hy : nm[t] = y at *
    have hym : y ∈ nm := List.mem_of_getElem? hgt
    obtain ⟨-, so, sn⟩ := hin
    by_cases h3 : y.2.1 = 3
    · rw [h3] at y2
      obtain ⟨J', x1, x2, x3⟩ := ih (t + 1) fu (u2 J 234 y.2.2 (lN (enc 32 y.1))) (by omega) (by omega) ⟨h20, fun k' x' hk' => by rw [u2_no _ _ (by omega)]; exact hR.2 k' x' hk'⟩ (fun i z hi hz hz3 => by
        by_cases hzy : z.2.2 = y.2.2
        · rw [hzy, u2_at, hU y hym z (List.mem_of_getElem? hz) h3 hz3 hzy.symm]
        · rw [u2_no _ _ (by omega)]
          by_cases hit : i = t
          · subst hit
            rw [hgt] at hz
            cases hz
            exact absurd rfl hzy
          · exact hd i z (by omega) hz hz3)
      refine ⟨J', ?_, fun a c z => by rw [x2 a c z, u2_no _ _ (by omega)], x3⟩
      rw [← x1]
      show mX10_text_b114 _ _ _ _ _ = _
      unfold mX10_text_b114
      rw [mk_gI f_224_20, obs, h20, if_neg (of_eq_false (leF (by omega) (by omega))), mk_gR f_224_18, obs, mk_aIn a_232 (by omega) (by decide), y2, obs, if_pos (show nI 3 = 3 from rfl), mk_gR f_224_21, obs, mk_gR f_224_19, obs, mk_aIn a_233 (by omega) (by decide), y3, obs, mk_gR f_224_17, obs, mk_aLn a_231 (by omega) (by decide), y1, obs, mk_sLn a_234 (by omega) (by decide), obs, i_1, nI_add]
    · obtain ⟨J', x1, x2, x3⟩ := ih (t + 1) fu J (by omega) (by omega) hR (fun i z hi hz hz3 => by
        by_cases hit : i = t
        · subst hit
          rw [hgt] at hz
          cases hz
          exact absurd hz3 h3
        · exact hd i z (by omega) hz hz3)
      refine ⟨J', ?_, x2, x3⟩
      rw [← x1]
      show mX10_text_b114 _ _ _ _ _ = _
      unfold mX10_text_b114
      rw [mk_gI f_224_20, obs, h20, if_neg (of_eq_false (leF (by omega) (by omega))), mk_gR f_224_18, obs, mk_aIn a_232 (by omega) (by decide), y2, obs, if_neg (show ¬ nI y.2.1 = 3 by rw [i_3]; exact of_eq_false (eqF h3 (by omega) (by omega))), i_1, nI_add]
theorem R_tail {nm : NmL} {D : Nat → Nat} {x : Int32} {I : Nat → Nat → Int32} {J : Nat → Nat → Int64} (ho : NMok nm) (hU : ∀ y ∈ nm, ∀ z ∈ nm, y.2.1 = 3 → z.2.1 = 3 → y.2.2 = z.2.2 → y.1 = z.1) (hN : NR I 226 0 D) (hR : RNm nm I J) : ∃ I' J', tailT (mk n I J) x = some (x, mk n I' J') ∧ NR I' 225 0 D ∧ I' 224 6 = nI 0 ∧ I' 229 0 = nI 0 ∧ I' 229 1 = nI 0 ∧ (∀ a c, a ≠ 225 → ¬ (a = 224 ∧ c = 6) → a ≠ 229 → I' a c = I a c) ∧ (∀ a c, a ≠ 234 → J' a c = J a c) ∧ ∀ y ∈ nm, y.2.1 = 3 → J' 234 y.2.2 = lN (enc 32 y.1) := by
  obtain ⟨I1, e1, f1, c1⟩ := R_copies (n := n) (J := J) (k1 := 226) (k2 := 225) (d1 := 0) (d2 := 0) I a_226 a_225 (by decide) (by decide) (by decide) (by decide) (by decide)
  have hR1 : RNm nm I1 J := ⟨by rw [f1 _ _ (by omega)]; exact hR.1, fun k y hk => by rw [f1 232 k (by omega), f1 233 k (by omega)]; exact hR.2 k y hk⟩
  obtain ⟨J', e2, j2, d2⟩ := R_114 (n := n) (x := x) (I := I1) ho hU nm.length 0 FU J (by omega) (by have := ho.1; unfold FU; omega) hR1 (fun i y hi => by omega)
  refine ⟨u2 (u2 (u2 I1 224 6 (nI 0)) 229 0 (nI 0)) 229 1 (nI 0), J', ?_, fun j hj => ?_, ?_, ?_, u2_at _ _ _ _, fun a c z1 z2 z3 => ?_, j2, d2⟩
  · unfold tailT
    rw [mk_gR f_224_2, obs, mk_gR f_224_1, obs, i_0, e1, obs]
    exact e2
  · rw [u2_no _ _ (by omega), u2_no _ _ (by omega), u2_no _ _ (by omega), c1 j hj]; exact hN j hj
  · rw [u2_no _ _ (by omega), u2_no _ _ (by omega), u2_at]
  · rw [u2_no _ _ (by omega), u2_at]
  · rw [u2_no _ _ (by omega), u2_no _ _ (by omega), u2_no _ _ (by omega), f1 _ _ (by omega)]
end RH
