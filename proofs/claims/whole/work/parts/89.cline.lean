/-! ===== 89: more of the class's lines ===== -/
section CM2
variable {n : Nat} {b : Nat → Nat} {N q : Nat} {nm : NmL} {I : Nat → Nat → Int32} {J : Nat → Nat → Int64} {D : Nat → Nat} {o : Option Nat}
theorem A_aft (h : CM b N o q nm I J) {x lo hi : Nat} (hx : x < 30) (hh : hi ≤ 9999) (hlo : lo ≤ 10000) (rc k : Nat) (hrc : rc < 94 ∧ rc ≠ 2) : ∃ I1 J1 I2 J2 v, mX4_expect (mk n I J) 94 (nI x) = some (mk n I1 J1) ∧ mX4_number (mk n I1 J1) 94 (nI lo) (nI hi) = some (nI v, mk n I2 J2) ∧ CM b N (mA b N o q x lo hi) (q2 b N q) nm (u2 I2 rc k (nI v)) J2 ∧ Fo I I2 ∧ Go J J2 ∧ (mA b N o q x lo hi = none → v = tV b N (tE b N q)) := by
  obtain ⟨I1, J1, e1, r1, f1, g1⟩ := A_expect (n := n) h hx
  obtain ⟨I2, J2, e2, r2, f2, g2⟩ := A_number (n := n) r1 hh hlo
  exact ⟨I1, J1, I2, J2, _, e1, e2, r2.keep (fun a c z => u2_no _ _ (by omega)), f1.trans f2, g1.trans g2, fun z => if_pos z⟩
theorem A_nxt (h : CM b N o q nm I J) : ∃ I' J', mX7_next (mk n I J) 98 = some (mk n I' J') ∧ CM b N o (tE b N q) nm I' J' ∧ Fo I I' ∧ Go J J' ∧ (o = none → I' 98 4 = nI (tP b N q) ∧ I' 98 5 = nI (tK b N q) ∧ I' 98 6 = ixW (tG b N q)) := by
  cases o with
  | none =>
    have h' : CRd b N q nm I J := h
    obtain ⟨I1, J1, e, f1, g1, a3, a4, a5, a6, a7, -⟩ := C_next (n := n) h'.1 h'.2.1 h'.2.2.1
    exact ⟨I1, J1, e, h'.ok f1 g1 a3, f1.fo, g1.go, fun _ => ⟨a4, a5, a6⟩⟩
  | some f =>
    obtain ⟨I1, J1, e, r, f1, g1⟩ := T_next (n := n) h
    exact ⟨I1, J1, e, r, f1, g1, fun z => by cases z⟩
theorem CRd.six (h : CRd b N q nm I J) (x : Int32) : CRd b N q nm (u2 I 94 6 x) J := by
  obtain ⟨h1, h2, h3, h4, ⟨h5, h6⟩, h7⟩ := h
  exact ⟨h1.same (fun k => u2_no _ _ (by omega)) (u2_no _ _ (by omega)) (fun _ => rfl), h2, by rw [u2_no _ _ (by omega)]; exact h3, by rw [u2_no _ _ (by omega)]; exact h4, ⟨by rw [u2_no _ _ (by omega)]; exact h5, fun k x hk => by rw [u2_no _ _ (by omega), u2_no _ _ (by omega)]; exact h6 k x hk⟩, h7⟩
theorem C_resold (h : CRd b N q nm I J) (hW : WR I 48 D) (h4 : D 4 < 12) : ∃ I' J', mX4_readResold (mk n I J) 94 = some (mk n I' J') ∧ CM b N (oResold b N q nm) (q2 b N (q2 b N (q2 b N (tE b N q)))) nm I' J' ∧ Fw I I' ∧ Go J J' ∧ (oResold b N q nm = none → Rw I I' 4 (D 4 + 1) (76 + D 4) 4 (rowL (lResold b N q nm))) := by
  have w1 : I 49 4 = nI (D 4) := hW.1 4 (by decide)
  obtain ⟨I1, J1, e1, r1, f1, g1, -⟩ := A_told (n := n) (o := none) (s := 1) h (by decide)
  change _ = some (nI ((tnQ b N q nm 1).getD 0), _) at e1
  obtain ⟨I2, J2, I3, J3, x3, e2, e3, r3, f3, g3, v3⟩ := A_aft (n := n) (r1.keep (I' := u2 I1 (76 + D 4) 0 (nI ((tnQ b N q nm 1).getD 0))) (fun a c z => u2_no _ _ (by omega))) (x := 17) (lo := 1) (hi := 9999) (by decide) (by decide) (by decide) (76 + D 4) 1 (by omega)
  obtain ⟨I4, J4, I5, J5, x5, e4, e5, r5, f5, g5, v5⟩ := A_aft (n := n) r3 (x := 18) (lo := 1) (hi := 9999) (by decide) (by decide) (by decide) (76 + D 4) 2 (by omega)
  obtain ⟨I6, J6, I7, J7, x7, e6, e7, r7, f7, g7, v7⟩ := A_aft (n := n) r5 (x := 19) (lo := 0) (hi := 999) (by decide) (by decide) (by decide) (76 + D 4) 3 (by omega)
  have w7 : u2 I7 (76 + D 4) 3 (nI x7) 49 4 = nI (D 4) := by simp (disch := omega) only [f7.at, f5.at, u2_no, f3.at, f1.at, w1]
  refine ⟨u2 (u2 I7 (76 + D 4) 3 (nI x7)) 49 4 (nI (D 4 + 1)), J7, ?_, r7.keep (fun a c z => by simp (disch := omega) only [u2_no]), fun a c z => by simp (disch := omega) only [u2_no, f7.at, f5.at, f3.at, f1.at], ((g1.trans g3).trans g5).trans g7, fun ok => ?_⟩
  · unfold mX4_readResold
    simp (disch := omega) only [mk_oO o_48, mk_oO o_94, mk_oO o_98, mk_gR f_48_0, mk_gR f_48_1, mk_gR f_48_2, mk_gR f_48_3, mk_gR f_48_4, mk_gR f_48_5, mk_gR f_48_6, mk_gR f_48_7, mk_gR f_94_0, mk_gR f_94_1, mk_gR f_94_2, mk_gR f_94_3, mk_gR f_94_4, mk_gI f_94_5, mk_pI f_94_5, mk_gI f_94_6, mk_pI f_94_6, mk_gI f_94_7, mk_pI f_94_7, mk_gR f_98_0, mk_gR f_98_1, mk_gI f_98_2, mk_pI f_98_2, mk_gI f_98_3, mk_pI f_98_3, mk_gI f_98_4, mk_pI f_98_4, mk_gI f_98_5, mk_pI f_98_5, mk_gI f_98_6, mk_pI f_98_6, mk_gL f_98_7, mk_pL f_98_7, ↓m_1, ↓m_2, i_0, i_1, i_2, i_3, i_4, i_6, i_5, i_12, i_11, i_10, i_9999, i_7, i_9, i_8, i_24, i_100, i_56, i_48, i_13, i_176, i_232, i_224, i_32, i_999, i_99, i_900, i_97, i_90, i_30, i_20, i_59, i_14, i_50, i_29, i_22, i_19, i_18, i_17, i_96, i_61, i_57, i_51, i_41, i_26, i_2552, i_255, i_25, i_23, i_21, i_16, i_15, i_122, i_10000, i_31, dzF, obs, b2_some, rz0, rz1, rzb, n01, n01', n10, n01e, nI_add, nI_mul, ↓reduceIte, not_false_eq_true, not_true_eq_false, ite_not, mk_aIn a_49, w1, mk_aRn a_75 (q_75 _ h4), e1, e2, e3, mk_sIn (r_75 _ h4), e4, e5, e6, e7, w7, mk_sIn a_49]
  · have ok2 := (mA_none.mp ok).1
    have ok1 := (mA_none.mp ok2).1
    have y3 := v3 ok1
    have y5 := v5 ok2
    have y7 := v7 ok
    refine ⟨u2_at _ _ _ _, fun i hi => ?_, fun a c z1 z2 z3 z4 => by simp (disch := omega) only [u2_no, f7.at, f5.at, f3.at, f1.at], by simp (disch := omega) only [u2_no, f7.six, f5.six, f3.six, f1.six]⟩
    rcases (by omega : i = 0 ∨ i = 1 ∨ i = 2 ∨ i = 3) with rfl | rfl | rfl | rfl
    · show _ = nI ((tnQ b N q nm 1).getD 0)
      simp (disch := omega) only [u2_no, f7.at, f5.at, f3.at, u2_at]
    · show _ = nI (tV b N (tE b N (tE b N q)))
      rw [← y3]
      simp (disch := omega) only [u2_no, f7.at, f5.at, u2_at]
    · show _ = nI (tV b N (tE b N (q2 b N (tE b N q))))
      rw [← y5]
      simp (disch := omega) only [u2_no, f7.at, u2_at]
    · show _ = nI (tV b N (tE b N (q2 b N (q2 b N (tE b N q)))))
      rw [← y7]
      simp (disch := omega) only [u2_no, u2_at]
theorem C_band (h : CRd b N q nm I J) (hW : WR I 48 D) (hT : VT D) (h5 : D 5 < 4) : ∃ I' J', mX4_readBand (mk n I J) 94 = some (mk n I' J') ∧ CM b N (oBand b N q D) (q2 b N (q2 b N q)) nm I' J' ∧ Fw I I' ∧ Go J J' ∧ (oBand b N q D = none → Rw I I' 5 (D 5 + 1) (89 + D 5) 2 (rowL (lBand b N q))) := by
  have w1 : I 49 5 = nI (D 5) := hW.1 5 (by decide)
  have h9 := hT.2.2.2.2.2.2.2.2.2
  have hlo : bLo D ≤ 10000 := by
    unfold bLo
    have := h9 (224 + 2 * (D 5 - 1))
    split <;> omega
  obtain ⟨I2, J2, I3, J3, x3, e2, e3, r3, f3, g3, v3⟩ := A_aft (n := n) (o := none) h (x := 22) (lo := bLo D) (hi := 9999) (by decide) (by decide) hlo (89 + D 5) 0 (by omega)
  obtain ⟨I4, J4, I5, J5, x5, e4, e5, r5, f5, g5, v5⟩ := A_aft (n := n) r3 (x := 23) (lo := 0) (hi := 90) (by decide) (by decide) (by decide) (89 + D 5) 1 (by omega)
  have w5 : u2 I5 (89 + D 5) 1 (nI x5) 49 5 = nI (D 5) := by simp (disch := omega) only [f5.at, u2_no, f3.at, w1]
  have eb : mX4_readBand_b33 (mk n I J) 94 (nI (D 5)) (nI (bLo D)) = some (mk n (u2 (u2 I5 (89 + D 5) 1 (nI x5)) 49 5 (nI (D 5 + 1))) J5) := by
    unfold mX4_readBand_b33
    simp (disch := omega) only [mk_oO o_48, mk_oO o_94, mk_oO o_98, mk_gR f_48_0, mk_gR f_48_1, mk_gR f_48_2, mk_gR f_48_3, mk_gR f_48_4, mk_gR f_48_5, mk_gR f_48_6, mk_gR f_48_7, mk_gR f_94_0, mk_gR f_94_1, mk_gR f_94_2, mk_gR f_94_3, mk_gR f_94_4, mk_gI f_94_5, mk_pI f_94_5, mk_gI f_94_6, mk_pI f_94_6, mk_gI f_94_7, mk_pI f_94_7, mk_gR f_98_0, mk_gR f_98_1, mk_gI f_98_2, mk_pI f_98_2, mk_gI f_98_3, mk_pI f_98_3, mk_gI f_98_4, mk_pI f_98_4, mk_gI f_98_5, mk_pI f_98_5, mk_gI f_98_6, mk_pI f_98_6, mk_gL f_98_7, mk_pL f_98_7, ↓m_1, ↓m_2, i_0, i_1, i_2, i_3, i_4, i_6, i_5, i_12, i_11, i_10, i_9999, i_7, i_9, i_8, i_24, i_100, i_56, i_48, i_13, i_176, i_232, i_224, i_32, i_999, i_99, i_900, i_97, i_90, i_30, i_20, i_59, i_14, i_50, i_29, i_22, i_19, i_18, i_17, i_96, i_61, i_57, i_51, i_41, i_26, i_2552, i_255, i_25, i_23, i_21, i_16, i_15, i_122, i_10000, i_31, dzF, obs, b2_some, rz0, rz1, rzb, n01, n01', n10, n01e, nI_add, nI_mul, ↓reduceIte, not_false_eq_true, not_true_eq_false, ite_not, mk_aIn a_49, mk_aRn a_88 (q_88 _ h5), e2, e3, mk_sIn (r_88 _ h5), e4, e5, w5, mk_sIn a_49]
  refine ⟨u2 (u2 I5 (89 + D 5) 1 (nI x5)) 49 5 (nI (D 5 + 1)), J5, ?_, r5.keep (fun a c z => by simp (disch := omega) only [u2_no]), fun a c z => by simp (disch := omega) only [u2_no, f5.at, f3.at], g3.trans g5, fun ok => ?_⟩
  · unfold mX4_readBand
    by_cases hz : D 5 = 0
    · have hb : bLo D = 2 := if_pos hz
      rw [hb] at eb
      rw [hz] at eb w1 ⊢
      simp (disch := omega) only [mk_oO o_48, mk_oO o_94, mk_oO o_98, mk_gR f_48_0, mk_gR f_48_1, mk_gR f_48_2, mk_gR f_48_3, mk_gR f_48_4, mk_gR f_48_5, mk_gR f_48_6, mk_gR f_48_7, mk_gR f_94_0, mk_gR f_94_1, mk_gR f_94_2, mk_gR f_94_3, mk_gR f_94_4, mk_gI f_94_5, mk_pI f_94_5, mk_gI f_94_6, mk_pI f_94_6, mk_gI f_94_7, mk_pI f_94_7, mk_gR f_98_0, mk_gR f_98_1, mk_gI f_98_2, mk_pI f_98_2, mk_gI f_98_3, mk_pI f_98_3, mk_gI f_98_4, mk_pI f_98_4, mk_gI f_98_5, mk_pI f_98_5, mk_gI f_98_6, mk_pI f_98_6, mk_gL f_98_7, mk_pL f_98_7, ↓m_1, ↓m_2, i_0, i_1, i_2, i_3, i_4, i_6, i_5, i_12, i_11, i_10, i_9999, i_7, i_9, i_8, i_24, i_100, i_56, i_48, i_13, i_176, i_232, i_224, i_32, i_999, i_99, i_900, i_97, i_90, i_30, i_20, i_59, i_14, i_50, i_29, i_22, i_19, i_18, i_17, i_96, i_61, i_57, i_51, i_41, i_26, i_2552, i_255, i_25, i_23, i_21, i_16, i_15, i_122, i_10000, i_31, dzF, obs, b2_some, rz0, rz1, rzb, n01, n01', n10, n01e, nI_add, nI_mul, ↓reduceIte, not_false_eq_true, not_true_eq_false, ite_not, mk_aIn a_49, w1, eb]
    · have hb : bLo D = D (224 + 2 * (D 5 - 1)) + 1 := if_neg hz
      rw [hb] at eb
      have wr : I (89 + (D 5 - 1)) 0 = nI (D (224 + 2 * (D 5 - 1))) := hW.2.2.2.2.2.2.1 (D 5 - 1) 0 (by omega) (by omega)
      simp (disch := omega) only [mk_oO o_48, mk_oO o_94, mk_oO o_98, mk_gR f_48_0, mk_gR f_48_1, mk_gR f_48_2, mk_gR f_48_3, mk_gR f_48_4, mk_gR f_48_5, mk_gR f_48_6, mk_gR f_48_7, mk_gR f_94_0, mk_gR f_94_1, mk_gR f_94_2, mk_gR f_94_3, mk_gR f_94_4, mk_gI f_94_5, mk_pI f_94_5, mk_gI f_94_6, mk_pI f_94_6, mk_gI f_94_7, mk_pI f_94_7, mk_gR f_98_0, mk_gR f_98_1, mk_gI f_98_2, mk_pI f_98_2, mk_gI f_98_3, mk_pI f_98_3, mk_gI f_98_4, mk_pI f_98_4, mk_gI f_98_5, mk_pI f_98_5, mk_gI f_98_6, mk_pI f_98_6, mk_gL f_98_7, mk_pL f_98_7, ↓m_1, ↓m_2, i_0, i_1, i_2, i_3, i_4, i_6, i_5, i_12, i_11, i_10, i_9999, i_7, i_9, i_8, i_24, i_100, i_56, i_48, i_13, i_176, i_232, i_224, i_32, i_999, i_99, i_900, i_97, i_90, i_30, i_20, i_59, i_14, i_50, i_29, i_22, i_19, i_18, i_17, i_96, i_61, i_57, i_51, i_41, i_26, i_2552, i_255, i_25, i_23, i_21, i_16, i_15, i_122, i_10000, i_31, dzF, obs, b2_some, rz0, rz1, rzb, n01, n01', n10, n01e, nI_add, nI_mul, ↓reduceIte, not_false_eq_true, not_true_eq_false, ite_not, mk_aIn a_49, w1, eqF, nI_sub, mk_aRn a_88 (q_88 (D 5 - 1) (by omega)), mk_aIn (r_88 (D 5 - 1) (by omega)), wr, eb]
  · have ok1 := (mA_none.mp ok).1
    have y3 := v3 ok1
    have y5 := v5 ok
    refine ⟨u2_at _ _ _ _, fun i hi => ?_, fun a c z1 z2 z3 z4 => by simp (disch := omega) only [u2_no, f5.at, f3.at], by simp (disch := omega) only [u2_no, f5.six, f3.six]⟩
    rcases (by omega : i = 0 ∨ i = 1) with rfl | rfl
    · show _ = nI (tV b N (tE b N q))
      rw [← y3]
      simp (disch := omega) only [u2_no, f5.at, u2_at]
    · show _ = nI (tV b N (tE b N (q2 b N q)))
      rw [← y5]
      simp (disch := omega) only [u2_no, u2_at]
theorem gMade_lt (hB : NB nm D) (h1 : D 1 ≤ 6) : gMade b N q nm < 6 := by
  unfold gMade
  cases ht : tnQ b N q nm 1 with
  | none => exact (by decide : 0 < 6)
  | some c =>
    have := hB.lt ht
    show c < 6
    omega
theorem C_made (h : CRd b N q nm I J) (hW : WR I 48 D) (hT : VT D) (hB : NB nm D) : ∃ I' J', mX4_readMade (mk n I J) 94 = some (mk n I' J') ∧ CM b N (oMade b N q nm D) (q2 b N (q2 b N (tE b N q))) nm I' J' ∧ Fw I I' ∧ Go J J' ∧ (oMade b N q nm D = none → I' (52 + gMade b N q nm) 2 = nI (tV b N (tE b N (tE b N q))) ∧ I' (52 + gMade b N q nm) 3 = nI (tV b N (tE b N (q2 b N (tE b N q)))) ∧ (∀ a c, 48 ≤ a → a < 94 → ¬ (a = 52 + gMade b N q nm ∧ (c = 2 ∨ c = 3)) → I' a c = I a c) ∧ I' 94 6 = I 94 6) := by
  have hg6 := gMade_lt (b := b) (N := N) (q := q) hB hT.1.2.1
  obtain ⟨I1, J1, e1, r1, f1, g1, a4⟩ := A_told (n := n) (o := none) (s := 1) h (by decide)
  change _ = some (nI (gMade b N q nm), _) at e1
  -- behind the test
  have key : ∃ I2, (∀ rest : PH → Option PH, (if I1 (52 + gMade b N q nm) 2 = nI 0 then rest (mk n I1 J1) else (mX4_fail (mk n I1 J1) 94 (nI 2)).bind rest) = rest (mk n I2 J1)) ∧ CM b N (md (md none ((tnQ b N q nm 1).isSome = true) (ftT b N q)) (D (26 + 4 * gMade b N q nm) = 0) (8 * tP b N q + 2)) (tE b N q) nm I2 J1 ∧ Fo I1 I2 := by
    have hp := tP_in (b := b) (N := N) h.2.1
    have hN := h.1.1
    obtain ⟨I2, e2, r2, f2⟩ := A_fail (n := n) r1 (p := tP b N q) (k := 2) (by omega) (by omega) a4
    by_cases hs : (tnQ b N q nm 1).isSome = true
    · obtain ⟨c, hc⟩ := Option.isSome_iff_exists.mp hs
      have hgc : gMade b N q nm = c := by unfold gMade; rw [hc]; rfl
      have hlt := hB.lt hc
      have hv : I1 (52 + gMade b N q nm) 2 = nI (D (26 + 4 * gMade b N q nm)) := by
        rw [f1.at _ _ (by omega), hgc, show 26 + 4 * c = 24 + 4 * c + 2 by omega]
        exact hW.2.2.1 c 2 hlt (by decide)
      have h9 := hT.2.2.2.2.2.2.2.2.2 (26 + 4 * gMade b N q nm)
      by_cases hz : D (26 + 4 * gMade b N q nm) = 0
      · refine ⟨I1, fun rest => ?_, by rw [md_t hz]; exact r1, Fo.refl _⟩
        rw [hv, hz, if_pos rfl]
      · refine ⟨I2, fun rest => ?_, by rw [md_f hz]; exact r2, f2⟩
        rw [hv, if_neg (by rw [nI_eq (by omega) (by omega)]; exact hz), e2]
        rfl
    · have ho : md none ((tnQ b N q nm 1).isSome = true) (ftT b N q) = some (ftT b N q) := md_no hs
      rw [ho] at r1 r2 ⊢
      by_cases hz : I1 (52 + gMade b N q nm) 2 = nI 0
      · exact ⟨I1, fun rest => if_pos hz, r1, Fo.refl _⟩
      · refine ⟨I2, fun rest => ?_, r2, f2⟩
        rw [if_neg hz, e2]
        rfl
  obtain ⟨I2, e2, r2, f2⟩ := key
  obtain ⟨I4, J4, I5, J5, x5, e4, e5, r5, f5, g5, v5⟩ := A_aft (n := n) r2 (x := 20) (lo := 1) (hi := 9999) (by decide) (by decide) (by decide) (52 + gMade b N q nm) 2 (by omega)
  obtain ⟨I6, J6, I7, J7, x7, e6, e7, r7, f7, g7, v7⟩ := A_aft (n := n) r5 (x := 21) (lo := 0) (hi := 99) (by decide) (by decide) (by decide) (52 + gMade b N q nm) 3 (by omega)
  have eb : mX4_readMade_b25 (mk n I2 J1) 94 (52 + gMade b N q nm) = some (mk n (u2 I7 (52 + gMade b N q nm) 3 (nI x7)) J7) := by
    unfold mX4_readMade_b25
    simp (disch := omega) only [mk_oO o_48, mk_oO o_94, mk_oO o_98, mk_gR f_48_0, mk_gR f_48_1, mk_gR f_48_2, mk_gR f_48_3, mk_gR f_48_4, mk_gR f_48_5, mk_gR f_48_6, mk_gR f_48_7, mk_gR f_94_0, mk_gR f_94_1, mk_gR f_94_2, mk_gR f_94_3, mk_gR f_94_4, mk_gI f_94_5, mk_pI f_94_5, mk_gI f_94_6, mk_pI f_94_6, mk_gI f_94_7, mk_pI f_94_7, mk_gR f_98_0, mk_gR f_98_1, mk_gI f_98_2, mk_pI f_98_2, mk_gI f_98_3, mk_pI f_98_3, mk_gI f_98_4, mk_pI f_98_4, mk_gI f_98_5, mk_pI f_98_5, mk_gI f_98_6, mk_pI f_98_6, mk_gL f_98_7, mk_pL f_98_7, ↓m_1, ↓m_2, i_0, i_1, i_2, i_3, i_4, i_6, i_5, i_12, i_11, i_10, i_9999, i_7, i_9, i_8, i_24, i_100, i_56, i_48, i_13, i_176, i_232, i_224, i_32, i_999, i_99, i_900, i_97, i_90, i_30, i_20, i_59, i_14, i_50, i_29, i_22, i_19, i_18, i_17, i_96, i_61, i_57, i_51, i_41, i_26, i_2552, i_255, i_25, i_23, i_21, i_16, i_15, i_122, i_10000, i_31, dzF, obs, b2_some, rz0, rz1, rzb, n01, n01', n10, n01e, nI_add, nI_mul, ↓reduceIte, not_false_eq_true, not_true_eq_false, ite_not, e4, e5, mk_sIn (r_51 _ hg6), e6, e7]
  refine ⟨_, J7, ?_, r7, fun a c z => by simp (disch := omega) only [u2_no, f7.at, f5.at, f2.at, f1.at], (g1.trans g5).trans g7, fun ok => ?_⟩
  · unfold mX4_readMade
    simp (disch := omega) only [mk_oO o_48, mk_oO o_94, mk_oO o_98, mk_gR f_48_0, mk_gR f_48_1, mk_gR f_48_2, mk_gR f_48_3, mk_gR f_48_4, mk_gR f_48_5, mk_gR f_48_6, mk_gR f_48_7, mk_gR f_94_0, mk_gR f_94_1, mk_gR f_94_2, mk_gR f_94_3, mk_gR f_94_4, mk_gI f_94_5, mk_pI f_94_5, mk_gI f_94_6, mk_pI f_94_6, mk_gI f_94_7, mk_pI f_94_7, mk_gR f_98_0, mk_gR f_98_1, mk_gI f_98_2, mk_pI f_98_2, mk_gI f_98_3, mk_pI f_98_3, mk_gI f_98_4, mk_pI f_98_4, mk_gI f_98_5, mk_pI f_98_5, mk_gI f_98_6, mk_pI f_98_6, mk_gL f_98_7, mk_pL f_98_7, ↓m_1, ↓m_2, i_0, i_1, i_2, i_3, i_4, i_6, i_5, i_12, i_11, i_10, i_9999, i_7, i_9, i_8, i_24, i_100, i_56, i_48, i_13, i_176, i_232, i_224, i_32, i_999, i_99, i_900, i_97, i_90, i_30, i_20, i_59, i_14, i_50, i_29, i_22, i_19, i_18, i_17, i_96, i_61, i_57, i_51, i_41, i_26, i_2552, i_255, i_25, i_23, i_21, i_16, i_15, i_122, i_10000, i_31, dzF, obs, b2_some, rz0, rz1, rzb, n01, n01', n10, n01e, nI_add, nI_mul, ↓reduceIte, not_false_eq_true, not_true_eq_false, ite_not, e1, mk_aRn a_51 (q_51 _ hg6), mk_aIn (r_51 _ hg6)]
    rw [e2 (fun h => mX4_readMade_b25 h 94 (52 + gMade b N q nm))]
    exact eb
  · have ok1 := (mA_none.mp ok).1
    refine ⟨?_, ?_, fun a c z1 z2 z3 => by simp (disch := omega) only [u2_no, f7.at, f5.at, f2.at, f1.at], by simp (disch := omega) only [u2_no, f7.six, f5.six, f2.six, f1.six]⟩
    · rw [← v5 ok1]
      simp (disch := omega) only [u2_no, f7.at, u2_at]
    · rw [← v7 ok]
      simp (disch := omega) only [u2_at]
theorem C_rule (h : CRd b N q nm I J) {w m : Nat} (hw : w < 4) (h6 : I 94 6 = nI m) : ∃ I' J', mX4_readRule (mk n I J) 94 (nI (8 + w)) = some (mk n I' J') ∧ CM b N (oRule b N q w) (tE b N q) nm I' J' ∧ Fw I I' ∧ Go J J' ∧ (oRule b N q w = none → I' 49 (6 + w) = nI (tV b N q) ∧ (∀ a c, 48 ≤ a → a < 94 → ¬ (a = 49 ∧ c = 6 + w) → I' a c = I a c) ∧ I' 94 6 = nI (m ||| 2 ^ (8 + w))) := by
  have hr := rLoHi hw
  obtain ⟨I1, J1, e1, r1, f1, g1⟩ := A_number (n := n) (o := none) (h.six (nI (m ||| 2 ^ (8 + w)))) (lo := rLo w) (hi := rHi w) (by omega) (by omega)
  have v1 : oRule b N q w = none → nvl b N q (rLo w) (oRule b N q w) = tV b N q := fun z => if_pos z
  change _ = some (nI (nvl b N q (rLo w) (oRule b N q w)), _) at e1
  generalize nvl b N q (rLo w) (oRule b N q w) = x1 at *
  refine ⟨u2 I1 49 (6 + w) (nI x1), J1, ?_, r1.keep (fun a c z => u2_no _ _ (by omega)), fun a c z => by simp (disch := omega) only [u2_no, f1.at], g1, fun ok => ⟨by rw [u2_at, v1 ok], fun a c z1 z2 z3 => by simp (disch := omega) only [u2_no, f1.at], by simp (disch := omega) only [u2_no, f1.six, u2_at]⟩⟩
  unfold mX4_readRule
  simp (disch := omega) only [mk_oO o_48, mk_oO o_94, mk_oO o_98, mk_gR f_48_0, mk_gR f_48_1, mk_gR f_48_2, mk_gR f_48_3, mk_gR f_48_4, mk_gR f_48_5, mk_gR f_48_6, mk_gR f_48_7, mk_gR f_94_0, mk_gR f_94_1, mk_gR f_94_2, mk_gR f_94_3, mk_gR f_94_4, mk_gI f_94_5, mk_pI f_94_5, mk_gI f_94_6, mk_pI f_94_6, mk_gI f_94_7, mk_pI f_94_7, mk_gR f_98_0, mk_gR f_98_1, mk_gI f_98_2, mk_pI f_98_2, mk_gI f_98_3, mk_pI f_98_3, mk_gI f_98_4, mk_pI f_98_4, mk_gI f_98_5, mk_pI f_98_5, mk_gI f_98_6, mk_pI f_98_6, mk_gL f_98_7, mk_pL f_98_7, ↓m_1, ↓m_2, i_0, i_1, i_2, i_3, i_4, i_6, i_5, i_12, i_11, i_10, i_9999, i_7, i_9, i_8, i_24, i_100, i_56, i_48, i_13, i_176, i_232, i_224, i_32, i_999, i_99, i_900, i_97, i_90, i_30, i_20, i_59, i_14, i_50, i_29, i_22, i_19, i_18, i_17, i_96, i_61, i_57, i_51, i_41, i_26, i_2552, i_255, i_25, i_23, i_21, i_16, i_15, i_122, i_10000, i_31, dzF, obs, b2_some, rz0, rz1, rzb, n01, n01', n10, n01e, nI_add, nI_mul, ↓reduceIte, not_false_eq_true, not_true_eq_false, ite_not, h6, nI_one_shl, nI_or, nI_sub, Nat.add_sub_cancel_left, tI0 hw, tI1 hw, e1, mk_sIn a_49]
end CM2
