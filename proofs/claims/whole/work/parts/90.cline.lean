/-! ===== 90: assist and kin, the class's ===== -/
section CM3
variable {n : Nat} {b : Nat → Nat} {N q : Nat} {nm : NmL} {I : Nat → Nat → Int32} {J : Nat → Nat → Int64} {D : Nat → Nat} {o : Option Nat}
theorem C_assist (h : CRd b N q nm I J) (hW : WR I 48 D) (h2 : D 2 < 4) (hl : nm.length < 26) : ∃ I' J', mX4_readAssist (mk n I J) 94 = some (mk n I' J') ∧ CM b N (oAssist b N q nm) (qAssist b N q) (nm ++ [(tW b N q, 2, D 2)]) I' J' ∧ Fw I I' ∧ Go J J' ∧ (oAssist b N q nm = none → Rw I I' 2 (D 2 + 1) (59 + D 2) 2 (rowL (lAssist b N q))) := by
  have w1 : I 49 2 = nI (D 2) := hW.1 2 (by decide)
  have hN := h.1.1
  obtain ⟨I1, J1, e1, r1, f1, g1, -⟩ := A_give (n := n) (o := none) (s := 2) (c := D 2) h (by decide) (by omega) w1 hl
  obtain ⟨I2, J2, I3, J3, x3, e2, e3, r3, f3, g3, v3⟩ := A_aft (n := n) r1 (x := 14) (lo := 1) (hi := 9999) (by decide) (by decide) (by decide) (59 + D 2) 0 (by omega)
  obtain ⟨I4, J4, e4, r4, f4, g4, t4⟩ := A_nxt (n := n) (r3.keep (I' := u2 (u2 I3 (59 + D 2) 0 (nI x3)) (59 + D 2) 1 (nI 0)) (fun a c z => u2_no _ _ (by omega)))
  change CM b N (oAssist1 b N q nm) (tE b N (q2 b N (tE b N q))) _ I4 J4 at r4
  change oAssist1 b N q nm = none → _ at t4
  change oAssist1 b N q nm = none → _ at v3
  have hg := tG_le (b := b) (N := N) (q2 b N (tE b N q))
  -- the rest of the row
  have key : ∃ I5 J5, (if I4 98 6 = nI 16 then b2 (mX4_number (mk n I4 J4) 94 (nI 1) (nI 9999)) fun v h => (sI h (59 + D 2) (nI 1) v).bind fun h => mX4_readAssist_b94 h 94 else if I4 98 6 = nI 15 then mX4_readAssist_b94 (mk n I4 J4) 94 else (mX4_fail (mk n I4 J4) 94 (nI 1)).bind fun h => mX4_readAssist_b94 h 94) = mX4_readAssist_b94 (mk n I5 J5) 94 ∧ CM b N (oAssist b N q nm) (qAssist b N q) (nm ++ [(tW b N q, 2, D 2)]) I5 J5 ∧ (∀ a c, a < 94 ∨ 99 ≤ a → ¬ (a = 59 + D 2 ∧ c = 1) → I5 a c = I4 a c) ∧ I5 94 6 = I4 94 6 ∧ Go J4 J5 ∧ (oAssist b N q nm = none → oAssist1 b N q nm = none ∧ I5 (59 + D 2) 1 = nI (if tG b N (q2 b N (tE b N q)) = 15 then 0 else tV b N (tE b N (q2 b N (tE b N q))))) := by
    obtain ⟨I5, J5, e5, r5, f5, g5⟩ := A_number (n := n) r4 (lo := 1) (hi := 9999) (by decide) (by decide)
    have h41 : I4 (59 + D 2) 1 = nI 0 := by simp (disch := omega) only [f4.at, u2_at]
    have hq2 : ∀ {q : Nat}, q ≤ N → tE b N q ≤ N := fun z => (tE_in z).2
    have hp := tP_in (b := b) (N := N) (hq2 (hq2 (hq2 h.2.1)))
    cases ho : oAssist1 b N q nm with
    | none =>
      rw [ho] at r4 e5 r5
      obtain ⟨a4, -, a6⟩ := t4 ho
      have hG : ∀ y, y < 30 → ((I4 98 6 = nI y) = (tG b N (q2 b N (tE b N q)) = y)) := fun y hy => by rw [a6]; exact ixW_eq hg hy
      by_cases h15 : tG b N (q2 b N (tE b N q)) = 15
      · have oA : oAssist b N q nm = none := by unfold oAssist; rw [if_pos h15, ho]
        have qA : qAssist b N q = tE b N (q2 b N (tE b N q)) := if_pos h15
        refine ⟨I4, J4, ?_, by rw [oA, qA]; exact r4, fun _ _ _ _ => rfl, rfl, Go.refl _, fun _ => ⟨rfl, by rw [if_pos h15]; exact h41⟩⟩
        rw [if_neg (by rw [hG 16 (by decide)]; omega), if_pos ((hG 15 (by decide)).mpr h15)]
      · have oA : oAssist b N q nm = mA b N none (q2 b N (tE b N q)) 16 1 9999 := by unfold oAssist; rw [if_neg h15, ho]
        have qA : qAssist b N q = q2 b N (q2 b N (tE b N q)) := if_neg h15
        by_cases h16 : tG b N (q2 b N (tE b N q)) = 16
        · have oB : mA b N none (q2 b N (tE b N q)) 16 1 9999 = md none (okN b N (tE b N (q2 b N (tE b N q))) 1 9999) (ftN b N (tE b N (q2 b N (tE b N q)))) := by unfold mA; rw [md_t h16]
          have v5 : oAssist b N q nm = none → nvl b N (tE b N (q2 b N (tE b N q))) 1 (oAssist b N q nm) = tV b N (tE b N (q2 b N (tE b N q))) := fun z => if_pos z
          rw [← oB, ← oA] at e5 r5
          generalize nvl b N (tE b N (q2 b N (tE b N q))) 1 (oAssist b N q nm) = x5 at *
          refine ⟨u2 I5 (59 + D 2) 1 (nI x5), J5, ?_, by rw [qA]; exact r5.keep (fun a c z => u2_no _ _ (by omega)), fun a c z1 z2 => by rw [u2_no _ _ z2]; exact f5.at a c z1, by rw [u2_no _ _ (by omega)]; exact f5.six, g5, fun z => ⟨rfl, by rw [if_neg h15, u2_at, v5 z]⟩⟩
          rw [if_pos ((hG 16 (by decide)).mpr h16), e5, b2_some, mk_sIn (r_58 _ h2) (by omega) (by decide), obs]
        · obtain ⟨I6, e6, r6, f6⟩ := A_fail (n := n) r4 (p := tP b N (q2 b N (tE b N q))) (k := 1) (by omega) (by unfold q2 at *; omega) (fun _ => a4)
          have oB : oAssist b N q nm = md none False (8 * tP b N (q2 b N (tE b N q)) + 1) := by
            rw [oA]
            unfold mA
            rw [md_f h16, md_F]
            rfl
          refine ⟨I6, J4, ?_, ?_, fun a c z1 z2 => f6.at a c z1, f6.six, Go.refl _, fun z => ?_⟩
          · rw [if_neg (by rw [hG 16 (by decide)]; exact h16), if_neg (by rw [hG 15 (by decide)]; exact h15), e6, obs]
          · rw [oB, md_F] at *
            exact r6
          · rw [oB, md_F] at z; cases z
    | some f =>
      rw [ho] at r4 e5 r5
      have oA : oAssist b N q nm = some f := by
        unfold oAssist
        rw [ho]
        split <;> rfl
      rw [oA]
      generalize nvl b N (tE b N (q2 b N (tE b N q))) 1 (md (some f) (okN b N (tE b N (q2 b N (tE b N q))) 1 9999) (ftN b N (tE b N (q2 b N (tE b N q))))) = x5 at e5
      obtain ⟨I6, e6, r6, f6⟩ := A_fail (n := n) r4 (p := 0) (k := 1) (by omega) (by omega) (fun z => by cases z)
      by_cases h16 : I4 98 6 = nI 16
      · refine ⟨u2 I5 (59 + D 2) 1 (nI x5), J5, ?_, r5.keep (fun a c z => u2_no _ _ (by omega)), fun a c z1 z2 => by rw [u2_no _ _ z2]; exact f5.at a c z1, by rw [u2_no _ _ (by omega)]; exact f5.six, g5, fun z => by cases z⟩
        rw [if_pos h16, e5, b2_some, mk_sIn (r_58 _ h2) (by omega) (by decide), obs]
      · by_cases h15 : I4 98 6 = nI 15
        · refine ⟨I4, J4, ?_, r4, fun _ _ _ _ => rfl, rfl, Go.refl _, fun z => by cases z⟩
          rw [if_neg h16, if_pos h15]
        · refine ⟨I6, J4, ?_, r6, fun a c z1 z2 => f6.at a c z1, f6.six, Go.refl _, fun z => by cases z⟩
          rw [if_neg h16, if_neg h15, e6, obs]
  obtain ⟨I5, J5, e5, r5, f5, s5, g5, v5⟩ := key
  have w5 : I5 49 2 = nI (D 2) := by
    rw [f5 _ _ (by omega) (by omega)]
    simp (disch := omega) only [f4.at, u2_no, f3.at, f1.at, w1]
  refine ⟨u2 I5 49 2 (nI (D 2 + 1)), J5, ?_, r5.keep (fun a c z => u2_no _ _ (by omega)), fun a c z => by rw [u2_no _ _ (by omega), f5 a c (by omega) (by omega)]; simp (disch := omega) only [u2_no, f4.at, f3.at, f1.at], ((g1.trans g3).trans g4).trans g5, fun ok => ?_⟩
  · unfold mX4_readAssist
    simp (disch := omega) only [mk_oO o_48, mk_oO o_94, mk_oO o_98, mk_gR f_48_0, mk_gR f_48_1, mk_gR f_48_2, mk_gR f_48_3, mk_gR f_48_4, mk_gR f_48_5, mk_gR f_48_6, mk_gR f_48_7, mk_gR f_94_0, mk_gR f_94_1, mk_gR f_94_2, mk_gR f_94_3, mk_gR f_94_4, mk_gI f_94_5, mk_pI f_94_5, mk_gI f_94_6, mk_pI f_94_6, mk_gI f_94_7, mk_pI f_94_7, mk_gR f_98_0, mk_gR f_98_1, mk_gI f_98_2, mk_pI f_98_2, mk_gI f_98_3, mk_pI f_98_3, mk_gI f_98_4, mk_pI f_98_4, mk_gI f_98_5, mk_pI f_98_5, mk_gI f_98_6, mk_pI f_98_6, mk_gL f_98_7, mk_pL f_98_7, ↓m_1, ↓m_2, i_0, i_1, i_2, i_3, i_4, i_6, i_5, i_12, i_11, i_10, i_9999, i_7, i_9, i_8, i_24, i_100, i_56, i_48, i_13, i_176, i_232, i_224, i_32, i_999, i_99, i_900, i_97, i_90, i_30, i_20, i_59, i_14, i_50, i_29, i_22, i_19, i_18, i_17, i_96, i_61, i_57, i_51, i_41, i_26, i_2552, i_255, i_25, i_23, i_21, i_16, i_15, i_122, i_10000, i_31, dzF, obs, b2_some, rz0, rz1, rzb, n01, n01', n10, n01e, nI_add, nI_mul, ↓reduceIte, not_false_eq_true, not_true_eq_false, ite_not, mk_aIn a_49, w1, mk_aRn a_58 (q_58 _ h2), e1, e2, e3, mk_sIn (r_58 _ h2), e4]
    refine e5.trans ?_
    unfold mX4_readAssist_b94
    simp (disch := omega) only [mk_oO o_48, mk_oO o_94, mk_oO o_98, mk_gR f_48_0, mk_gR f_48_1, mk_gR f_48_2, mk_gR f_48_3, mk_gR f_48_4, mk_gR f_48_5, mk_gR f_48_6, mk_gR f_48_7, mk_gR f_94_0, mk_gR f_94_1, mk_gR f_94_2, mk_gR f_94_3, mk_gR f_94_4, mk_gI f_94_5, mk_pI f_94_5, mk_gI f_94_6, mk_pI f_94_6, mk_gI f_94_7, mk_pI f_94_7, mk_gR f_98_0, mk_gR f_98_1, mk_gI f_98_2, mk_pI f_98_2, mk_gI f_98_3, mk_pI f_98_3, mk_gI f_98_4, mk_pI f_98_4, mk_gI f_98_5, mk_pI f_98_5, mk_gI f_98_6, mk_pI f_98_6, mk_gL f_98_7, mk_pL f_98_7, ↓m_1, ↓m_2, i_0, i_1, i_2, i_3, i_4, i_6, i_5, i_12, i_11, i_10, i_9999, i_7, i_9, i_8, i_24, i_100, i_56, i_48, i_13, i_176, i_232, i_224, i_32, i_999, i_99, i_900, i_97, i_90, i_30, i_20, i_59, i_14, i_50, i_29, i_22, i_19, i_18, i_17, i_96, i_61, i_57, i_51, i_41, i_26, i_2552, i_255, i_25, i_23, i_21, i_16, i_15, i_122, i_10000, i_31, dzF, obs, b2_some, rz0, rz1, rzb, n01, n01', n10, n01e, nI_add, nI_mul, ↓reduceIte, not_false_eq_true, not_true_eq_false, ite_not, mk_aIn a_49, w5, mk_sIn a_49]
  · obtain ⟨o1, y5⟩ := v5 ok
    have y3 := v3 o1
    refine ⟨u2_at _ _ _ _, fun i hi => ?_, fun a c z1 z2 z3 z4 => ?_, ?_⟩
    · rcases (by omega : i = 0 ∨ i = 1) with rfl | rfl
      · show _ = nI (tV b N (tE b N (tE b N q)))
        rw [← y3, u2_no _ _ (by omega), f5 _ _ (by omega) (by omega)]
        simp (disch := omega) only [u2_no, f4.at, u2_at]
      · rw [u2_no _ _ (by omega), y5]
        rfl
    · rw [u2_no _ _ (by omega), f5 a c (by omega) (by omega)]
      simp (disch := omega) only [u2_no, f4.at, f3.at, f1.at]
    · rw [u2_no _ _ (by omega), s5]
      simp (disch := omega) only [u2_no, f4.six, f3.six, f1.six]
theorem tn_lt (hB : NB nm D) {s m : Nat} (h1 : D s ≤ m) (hm : 0 < m) : (tnQ b N q nm s).getD 0 < m := by
  cases ht : tnQ b N q nm s with
  | none => exact hm
  | some c =>
    have := hB.lt ht
    show c < m
    omega
theorem C_kin (h : CRd b N q nm I J) (hW : WR I 48 D) (hT : VT D) (hB : NB nm D) (h11 : D 11 < 6) : ∃ I' J', mX4_readKin (mk n I J) 94 = some (mk n I' J') ∧ CM b N (oKin b N q nm D) (q2 b N q) nm I' J' ∧ Fw I I' ∧ Go J J' ∧ (oKin b N q nm D = none → WR I' 48 (adP D ((tnQ b N q nm 0).getD 0) ((tnQ b N (tE b N q) nm 0).getD 0)) ∧ I' 94 6 = I 94 6) := by
  have hN := h.1.1
  obtain ⟨I1, J1, e1, r1, f1, g1, -⟩ := A_told (n := n) (o := none) (s := 0) h (by decide)
  change _ = some (nI ((tnQ b N q nm 0).getD 0), _) at e1
  obtain ⟨I2, J2, e2, r2, f2, g2, a2⟩ := A_told (n := n) (s := 0) r1 (by decide)
  have k1 := tn_lt (b := b) (N := N) (q := q) hB hT.1.1 (by decide)
  have hq1 := (tE_in (b := b) h.2.1).2
  have hp := tP_in (b := b) (N := N) hq1
  have hv : ∃ v, tvl b N (tE b N q) nm 0 (md none ((tnQ b N q nm 0).isSome = true) (ftT b N q)) = v ∧ v < 6 ∧ (md none ((tnQ b N q nm 0).isSome = true) (ftT b N q) = none → v = (tnQ b N (tE b N q) nm 0).getD 0) := by
    refine ⟨_, rfl, ?_, fun z => if_pos z⟩
    unfold tvl
    split
    · exact tn_lt hB hT.1.1 (by decide)
    · decide
  obtain ⟨v, hv1, hv6, hvn⟩ := hv
  rw [hv1] at e2
  have hW2 : WR I2 48 D := hW.scr hT (fun a c z1 z2 => by rw [f2.at a c (by omega), f1.at a c (by omega)])
  obtain ⟨I3, e3, r3, f3⟩ := A_fail (n := n) r2 (p := tP b N (tE b N q)) (k := 4) (by omega) (by omega) a2
  obtain ⟨I4, e4, r4, f4⟩ := A_fail (n := n) r2 (p := tP b N (tE b N q)) (k := 2) (by omega) (by omega) a2
  generalize hu : (tnQ b N q nm 0).getD 0 = u at *
  -- the modes
  have hm : ∀ (o2 : Option Nat), o2 = md (md none ((tnQ b N q nm 0).isSome = true) (ftT b N q)) ((tnQ b N (tE b N q) nm 0).isSome = true) (ftT b N (tE b N q)) → (u = v → oKin b N q nm D = md o2 False (8 * tP b N (tE b N q) + 4)) ∧ (u ≠ v → told D u v → oKin b N q nm D = md o2 False (8 * tP b N (tE b N q) + 2)) ∧ (u ≠ v → ¬ told D u v → o2 = none → oKin b N q nm D = none) ∧ (∀ f, o2 = some f → oKin b N q nm D = some f) ∧ (oKin b N q nm D = none → v = (tnQ b N (tE b N q) nm 0).getD 0 ∧ u ≠ v ∧ ¬ told D u v) := by
    intro o2 h2
    unfold oKin
    rw [← h2, hu]
    cases ho : o2 with
    | none =>
      rw [ho] at h2
      have hz := (md_none.mp h2.symm).1
      have hvv := hvn hz
      rw [← hvv]
      refine ⟨fun z => ?_, fun z1 z2 => ?_, fun z1 z2 _ => ?_, fun f z => (by cases z), fun z => ?_⟩
      · rw [md_f (ok := u ≠ v) (fun w => w z), md_F]; rfl
      · rw [md_t (ok := u ≠ v) z1, @md_f _ (¬ told D u v) (Classical.propDecidable _) _ (fun w => w z2)]
      · rw [md_t (ok := u ≠ v) z1, @md_t _ (¬ told D u v) (Classical.propDecidable _) _ z2]
      · obtain ⟨z1, z2⟩ := (@md_none _ (¬ told D u v) (Classical.propDecidable _) _).mp z
        exact ⟨rfl, (md_none.mp z1).2, z2⟩
    | some f => exact ⟨fun _ => rfl, fun _ _ => rfl, fun _ _ z => (by cases z), fun f' z => (by cases z; rfl), fun z => (by cases z)⟩
  obtain ⟨m1, m2, m3, m4, m5⟩ := hm _ rfl
  by_cases huv : u = v
  · refine ⟨I3, J2, ?_, by rw [m1 huv]; exact r3, fun a c z => by rw [f3.fw a c z, f2.fw a c z, f1.fw a c z], g1.trans g2, fun z => absurd huv (m5 z).2.1⟩
    unfold mX4_readKin
    simp (disch := omega) only [mk_oO o_48, mk_oO o_94, mk_oO o_98, mk_gR f_48_0, mk_gR f_48_1, mk_gR f_48_2, mk_gR f_48_3, mk_gR f_48_4, mk_gR f_48_5, mk_gR f_48_6, mk_gR f_48_7, mk_gR f_94_0, mk_gR f_94_1, mk_gR f_94_2, mk_gR f_94_3, mk_gR f_94_4, mk_gI f_94_5, mk_pI f_94_5, mk_gI f_94_6, mk_pI f_94_6, mk_gI f_94_7, mk_pI f_94_7, mk_gR f_98_0, mk_gR f_98_1, mk_gI f_98_2, mk_pI f_98_2, mk_gI f_98_3, mk_pI f_98_3, mk_gI f_98_4, mk_pI f_98_4, mk_gI f_98_5, mk_pI f_98_5, mk_gI f_98_6, mk_pI f_98_6, mk_gL f_98_7, mk_pL f_98_7, ↓m_1, ↓m_2, i_0, i_1, i_2, i_3, i_4, i_6, i_5, i_12, i_11, i_10, i_9999, i_7, i_9, i_8, i_24, i_100, i_56, i_48, i_13, i_176, i_232, i_224, i_32, i_999, i_99, i_900, i_97, i_90, i_30, i_20, i_59, i_14, i_50, i_29, i_22, i_19, i_18, i_17, i_96, i_61, i_57, i_51, i_41, i_26, i_2552, i_255, i_25, i_23, i_21, i_16, i_15, i_122, i_10000, i_31, dzF, obs, b2_some, rz0, rz1, rzb, n01, n01', n10, n01e, nI_add, nI_mul, ↓reduceIte, not_false_eq_true, not_true_eq_false, ite_not, e1, e2, huv, e3]
  · have huv' : (nI u = nI v) = False := eq_false (by rw [nI_eq (by omega) (by omega)]; exact huv)
    rcases C_isTold (n := n) (J := J2) (Or.inr rfl) hW2 k1 hv6 with ⟨ht, et⟩ | ⟨ht, et⟩
    · refine ⟨I4, J2, ?_, by rw [m2 huv ht]; exact r4, fun a c z => by rw [f4.fw a c z, f2.fw a c z, f1.fw a c z], g1.trans g2, fun z => absurd ht (m5 z).2.2⟩
      unfold mX4_readKin
      simp (disch := omega) only [mk_oO o_48, mk_oO o_94, mk_oO o_98, mk_gR f_48_0, mk_gR f_48_1, mk_gR f_48_2, mk_gR f_48_3, mk_gR f_48_4, mk_gR f_48_5, mk_gR f_48_6, mk_gR f_48_7, mk_gR f_94_0, mk_gR f_94_1, mk_gR f_94_2, mk_gR f_94_3, mk_gR f_94_4, mk_gI f_94_5, mk_pI f_94_5, mk_gI f_94_6, mk_pI f_94_6, mk_gI f_94_7, mk_pI f_94_7, mk_gR f_98_0, mk_gR f_98_1, mk_gI f_98_2, mk_pI f_98_2, mk_gI f_98_3, mk_pI f_98_3, mk_gI f_98_4, mk_pI f_98_4, mk_gI f_98_5, mk_pI f_98_5, mk_gI f_98_6, mk_pI f_98_6, mk_gL f_98_7, mk_pL f_98_7, ↓m_1, ↓m_2, i_0, i_1, i_2, i_3, i_4, i_6, i_5, i_12, i_11, i_10, i_9999, i_7, i_9, i_8, i_24, i_100, i_56, i_48, i_13, i_176, i_232, i_224, i_32, i_999, i_99, i_900, i_97, i_90, i_30, i_20, i_59, i_14, i_50, i_29, i_22, i_19, i_18, i_17, i_96, i_61, i_57, i_51, i_41, i_26, i_2552, i_255, i_25, i_23, i_21, i_16, i_15, i_122, i_10000, i_31, dzF, obs, b2_some, rz0, rz1, rzb, n01, n01', n10, n01e, nI_add, nI_mul, ↓reduceIte, not_false_eq_true, not_true_eq_false, ite_not, e1, e2, huv', et, e4]
    · obtain ⟨I5, e5, f5, w5⟩ := C_tell (n := n) (J := J2) (Or.inr rfl) hW2 k1 hv6 huv (v := 1) (by decide) (by omega) (by simp [ht]) (by omega)
      refine ⟨I5, J2, ?_, ?_, fun a c z => by rw [f5 a c (by omega) (by omega), f2.fw a c z, f1.fw a c z], g1.trans g2, fun z => ⟨?_, by rw [f5 _ _ (by omega) (by omega), f2.six, f1.six]⟩⟩
      · unfold mX4_readKin
        simp (disch := omega) only [mk_oO o_48, mk_oO o_94, mk_oO o_98, mk_gR f_48_0, mk_gR f_48_1, mk_gR f_48_2, mk_gR f_48_3, mk_gR f_48_4, mk_gR f_48_5, mk_gR f_48_6, mk_gR f_48_7, mk_gR f_94_0, mk_gR f_94_1, mk_gR f_94_2, mk_gR f_94_3, mk_gR f_94_4, mk_gI f_94_5, mk_pI f_94_5, mk_gI f_94_6, mk_pI f_94_6, mk_gI f_94_7, mk_pI f_94_7, mk_gR f_98_0, mk_gR f_98_1, mk_gI f_98_2, mk_pI f_98_2, mk_gI f_98_3, mk_pI f_98_3, mk_gI f_98_4, mk_pI f_98_4, mk_gI f_98_5, mk_pI f_98_5, mk_gI f_98_6, mk_pI f_98_6, mk_gL f_98_7, mk_pL f_98_7, ↓m_1, ↓m_2, i_0, i_1, i_2, i_3, i_4, i_6, i_5, i_12, i_11, i_10, i_9999, i_7, i_9, i_8, i_24, i_100, i_56, i_48, i_13, i_176, i_232, i_224, i_32, i_999, i_99, i_900, i_97, i_90, i_30, i_20, i_59, i_14, i_50, i_29, i_22, i_19, i_18, i_17, i_96, i_61, i_57, i_51, i_41, i_26, i_2552, i_255, i_25, i_23, i_21, i_16, i_15, i_122, i_10000, i_31, dzF, obs, b2_some, rz0, rz1, rzb, n01, n01', n10, n01e, nI_add, nI_mul, ↓reduceIte, not_false_eq_true, not_true_eq_false, ite_not, e1, e2, huv', et, e5]
      · cases ho : md (md none ((tnQ b N q nm 0).isSome = true) (ftT b N q)) ((tnQ b N (tE b N q) nm 0).isSome = true) (ftT b N (tE b N q)) with
        | none => rw [m3 huv ht ho]; rw [ho] at r2; exact r2.keep (fun a c z => f5 a c (by omega) (by omega))
        | some f => rw [m4 f ho]; rw [ho] at r2; exact r2.keep (fun a c z => f5 a c (by omega) (by omega))
      · rw [← (m5 z).1]
        refine w5 (adP D u v) (fun k hk => ?_) ?_ (fun k hk => ?_) (fun x y => by rw [told_ad h11]; simp)
        · unfold adP uT
          rw [if_neg (by omega), if_neg (by omega), if_neg (by omega)]
        · unfold adP uT
          rw [if_pos rfl]
        · unfold adP uT
          rw [if_neg (by omega), if_neg (by omega), if_neg (by omega)]
end CM3
