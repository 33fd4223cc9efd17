/-! ===== 96: a line, the class's ===== -/
def fullP (g : Nat) (D : Nat → Nat) : Prop := (g = 0 ∧ 6 ≤ D 0) ∨ (g = 1 ∧ 6 ≤ D 11) ∨ (g = 2 ∧ 6 ≤ D 1) ∨ (g = 3 ∧ 4 ≤ D 2) ∨ (g = 4 ∧ 10 ≤ D 3) ∨ (g = 5 ∧ 12 ≤ D 4) ∨ (g = 7 ∧ 4 ≤ D 5)
section LF
variable {b : Nat → Nat} {N q : Nat} {nm : NmL} {D : Nat → Nat} {u : Nat}
theorem lnF0 (hg : tG b N q = 0) (h : D 0 < 6) : lnF b N q nm D u = (md none (okG b N (tE b N q) nm) (ftG b N (tE b N q)), tE b N (tE b N q), nm ++ [(tW b N (tE b N q), 0, D 0)], rwT D 0 (D 0 + 1) 0 0 (rowL []), u) := by
  unfold lnF
  rw [hg, if_pos rfl, if_pos h]
theorem lnF0f (hg : tG b N q = 0) (h : ¬ D 0 < 6) : lnF b N q nm D u = (some (8 * tP b N q + 5), q, nm, D, u) := by
  unfold lnF
  rw [hg, if_pos rfl, if_neg h]
theorem lnF1 (hg : tG b N q = 1) (h : D 11 < 6) : lnF b N q nm D u = (oKin b N (tE b N q) nm D, q2 b N (tE b N q), nm, adP D ((tnQ b N (tE b N q) nm 0).getD 0) ((tnQ b N (tE b N (tE b N q)) nm 0).getD 0), u) := by
  unfold lnF
  rw [hg, if_neg (by decide), if_pos rfl, if_pos h]
theorem lnF1f (hg : tG b N q = 1) (h : ¬ D 11 < 6) : lnF b N q nm D u = (some (8 * tP b N q + 5), q, nm, D, u) := by
  unfold lnF
  rw [hg, if_neg (by decide), if_pos rfl, if_neg h]
theorem lnF2 (hg : tG b N q = 2) (h : D 1 < 6) : lnF b N q nm D u = (oGood b N (tE b N q) nm, q2 b N (q2 b N (tE b N (tE b N q))), nm ++ [(tW b N (tE b N q), 1, D 1)], rwT D 1 (D 1 + 1) (24 + 4 * D 1) 4 (rowL (lGood b N (tE b N q))), u) := by
  unfold lnF
  rw [hg, if_neg (by decide), if_neg (by decide), if_pos rfl, if_pos h]
theorem lnF2f (hg : tG b N q = 2) (h : ¬ D 1 < 6) : lnF b N q nm D u = (some (8 * tP b N q + 5), q, nm, D, u) := by
  unfold lnF
  rw [hg, if_neg (by decide), if_neg (by decide), if_pos rfl, if_neg h]
theorem lnF3 (hg : tG b N q = 3) (h : D 2 < 4) : lnF b N q nm D u = (oAssist b N (tE b N q) nm, qAssist b N (tE b N q), nm ++ [(tW b N (tE b N q), 2, D 2)], rwT D 2 (D 2 + 1) (48 + 2 * D 2) 2 (rowL (lAssist b N (tE b N q))), u) := by
  unfold lnF
  rw [hg, if_neg (by decide), if_neg (by decide), if_neg (by decide), if_pos rfl, if_pos h]
theorem lnF3f (hg : tG b N q = 3) (h : ¬ D 2 < 4) : lnF b N q nm D u = (some (8 * tP b N q + 5), q, nm, D, u) := by
  unfold lnF
  rw [hg, if_neg (by decide), if_neg (by decide), if_neg (by decide), if_pos rfl, if_neg h]
theorem lnF4 (hg : tG b N q = 4) (h : D 3 < 10) : lnF b N q nm D u = (oSaleX b N (tE b N q) nm (D 3), (rSale b N (tE b N q) nm (D 3)).2.1, nmS b N (tE b N q) nm (D 3), rwT D 3 (D 3 + 1) (56 + 12 * D 3) 12 (rSale b N (tE b N q) nm (D 3)).2.2, u) := by
  unfold lnF
  rw [hg, if_neg (by decide), if_neg (by decide), if_neg (by decide), if_neg (by decide), if_pos rfl, if_pos h]
theorem lnF4f (hg : tG b N q = 4) (h : ¬ D 3 < 10) : lnF b N q nm D u = (some (8 * tP b N q + 5), q, nm, D, u) := by
  unfold lnF
  rw [hg, if_neg (by decide), if_neg (by decide), if_neg (by decide), if_neg (by decide), if_pos rfl, if_neg h]
theorem lnF5 (hg : tG b N q = 5) (h : D 4 < 12) : lnF b N q nm D u = (oResold b N (tE b N q) nm, q2 b N (q2 b N (q2 b N (tE b N (tE b N q)))), nm, rwT D 4 (D 4 + 1) (176 + 4 * D 4) 4 (rowL (lResold b N (tE b N q) nm)), u) := by
  unfold lnF
  rw [hg, if_neg (by decide), if_neg (by decide), if_neg (by decide), if_neg (by decide), if_neg (by decide), if_pos rfl, if_pos h]
theorem lnF5f (hg : tG b N q = 5) (h : ¬ D 4 < 12) : lnF b N q nm D u = (some (8 * tP b N q + 5), q, nm, D, u) := by
  unfold lnF
  rw [hg, if_neg (by decide), if_neg (by decide), if_neg (by decide), if_neg (by decide), if_neg (by decide), if_pos rfl, if_neg h]
theorem lnF6 (hg : tG b N q = 6) : lnF b N q nm D u = (oMade b N (tE b N q) nm D, q2 b N (q2 b N (tE b N (tE b N q))), nm, uT (uT D (26 + 4 * gMade b N (tE b N q) nm) (tV b N (tE b N (tE b N (tE b N q))))) (27 + 4 * gMade b N (tE b N q) nm) (tV b N (tE b N (q2 b N (tE b N (tE b N q))))), u) := by
  unfold lnF
  rw [hg, if_neg (by decide), if_neg (by decide), if_neg (by decide), if_neg (by decide), if_neg (by decide), if_neg (by decide), if_pos rfl]
theorem lnF7 (hg : tG b N q = 7) (h : D 5 < 4) : lnF b N q nm D u = (oBand b N (tE b N q) D, q2 b N (q2 b N (tE b N q)), nm, rwT D 5 (D 5 + 1) (224 + 2 * D 5) 2 (rowL (lBand b N (tE b N q))), u) := by
  unfold lnF
  rw [hg, if_neg (by decide), if_neg (by decide), if_neg (by decide), if_neg (by decide), if_neg (by decide), if_neg (by decide), if_neg (by decide), if_pos rfl, if_pos h]
theorem lnF7f (hg : tG b N q = 7) (h : ¬ D 5 < 4) : lnF b N q nm D u = (some (8 * tP b N q + 5), q, nm, D, u) := by
  unfold lnF
  rw [hg, if_neg (by decide), if_neg (by decide), if_neg (by decide), if_neg (by decide), if_neg (by decide), if_neg (by decide), if_neg (by decide), if_pos rfl, if_neg h]
theorem lnF8 {w : Nat} (hw : w < 4) (hg : tG b N q = 8 + w) (h : ¬ u.testBit w = true) : lnF b N q nm D u = (oRule b N (tE b N q) w, tE b N (tE b N q), nm, uT D (6 + w) (tV b N (tE b N q)), u ||| 2 ^ w) := by
  unfold lnF
  rw [hg, Nat.add_sub_cancel_left, if_neg (by omega), if_neg (by omega), if_neg (by omega), if_neg (by omega), if_neg (by omega), if_neg (by omega), if_neg (by omega), if_neg (by omega), if_pos (by omega), if_neg h]
theorem lnF8f {w : Nat} (hw : w < 4) (hg : tG b N q = 8 + w) (h : u.testBit w = true) : lnF b N q nm D u = (some (8 * tP b N q + 2), q, nm, D, u) := by
  unfold lnF
  rw [hg, Nat.add_sub_cancel_left, if_neg (by omega), if_neg (by omega), if_neg (by omega), if_neg (by omega), if_neg (by omega), if_neg (by omega), if_neg (by omega), if_neg (by omega), if_pos (by omega), if_pos h]
theorem lnF30 (hg : 12 ≤ tG b N q) : lnF b N q nm D u = (some (8 * tP b N q + 1), q, nm, D, u) := by
  unfold lnF
  rw [if_neg (by omega), if_neg (by omega), if_neg (by omega), if_neg (by omega), if_neg (by omega), if_neg (by omega), if_neg (by omega), if_neg (by omega), if_neg (by omega)]
theorem lnFull {g : Nat} (hg : tG b N q = g) (h : fullP g D) : lnF b N q nm D u = (some (8 * tP b N q + 5), q, nm, D, u) := by
  rcases h with ⟨rfl, h⟩ | ⟨rfl, h⟩ | ⟨rfl, h⟩ | ⟨rfl, h⟩ | ⟨rfl, h⟩ | ⟨rfl, h⟩ | ⟨rfl, h⟩
  · exact lnF0f hg (by omega)
  · exact lnF1f hg (by omega)
  · exact lnF2f hg (by omega)
  · exact lnF3f hg (by omega)
  · exact lnF4f hg (by omega)
  · exact lnF5f hg (by omega)
  · exact lnF7f hg (by omega)
end LF
/-- the rules told, in the class and in the reference -/
def CB (I : Nat → Nat → Int32) (u : Nat) : Prop := ∃ m, m < 2 ^ 12 ∧ I 94 6 = nI m ∧ ∀ w, w < 4 → m.testBit (8 + w) = u.testBit w
/-- the sales' names in the class's draft -/
def SN (nm : NmL) (D : Nat → Nat) (J : Nat → Nat → Int64) : Prop := (∀ x ∈ nm, x.2.1 = 3 → J 74 x.2.2 = lN (enc 27 x.1)) ∧ ∀ s, s < D 3 → ∃ x ∈ nm, x.2.1 = 3 ∧ x.2.2 = s
def CI (b : Nat → Nat) (N q : Nat) (nm : NmL) (D : Nat → Nat) (u : Nat) (I : Nat → Nat → Int32) (J : Nat → Nat → Int64) : Prop := CRd b N (tE b N q) nm I J ∧ q ≤ N ∧ I 98 4 = nI (tP b N q) ∧ I 98 5 = nI (tK b N q) ∧ I 98 6 = ixW (tG b N q) ∧ WR I 48 D ∧ CB I u ∧ SN nm D J
section CQ
variable {n : Nat} {b : Nat → Nat} {N q : Nat} {nm : NmL} {I : Nat → Nat → Int32} {J : Nat → Nat → Int64} {D : Nat → Nat} {u : Nat} {o : Option Nat}
theorem C_full (hW : WR I 48 D) (hT : VT D) {g : Nat} (hg : g ≤ 11) : (fullP g D ∧ mX4_isFull (mk n I J) 94 (nI g) = some (nI 1, mk n I J)) ∨ (¬ fullP g D ∧ mX4_isFull (mk n I J) 94 (nI g) = some (nI 0, mk n I J)) := by
  have b0 := hT.1
  have b1 := hT.2.1
  have w0 : I 49 0 = nI (D 0) := hW.1 0 (by decide)
  have w1 : I 49 1 = nI (D 1) := hW.1 1 (by decide)
  have w2 : I 49 2 = nI (D 2) := hW.1 2 (by decide)
  have w3 : I 49 3 = nI (D 3) := hW.1 3 (by decide)
  have w4 : I 49 4 = nI (D 4) := hW.1 4 (by decide)
  have w5 : I 49 5 = nI (D 5) := hW.1 5 (by decide)
  have w13 : I 49 13 = nI (D 11) := hW.2.1
  unfold mX4_isFull
  by_cases hf : fullP g D
  · refine Or.inl ⟨hf, ?_⟩
    rcases hf with ⟨rfl, h⟩ | ⟨rfl, h⟩ | ⟨rfl, h⟩ | ⟨rfl, h⟩ | ⟨rfl, h⟩ | ⟨rfl, h⟩ | ⟨rfl, h⟩
    all_goals simp (disch := omega) only [mk_oO o_48, mk_oO o_94, mk_oO o_98, mk_gR f_48_0, mk_gR f_48_1, mk_gR f_48_2, mk_gR f_48_3, mk_gR f_48_4, mk_gR f_48_5, mk_gR f_48_6, mk_gR f_48_7, mk_gR f_94_0, mk_gR f_94_1, mk_gR f_94_2, mk_gR f_94_3, mk_gR f_94_4, mk_gI f_94_5, mk_pI f_94_5, mk_gI f_94_6, mk_pI f_94_6, mk_gI f_94_7, mk_pI f_94_7, mk_gR f_98_0, mk_gR f_98_1, mk_gI f_98_2, mk_pI f_98_2, mk_gI f_98_3, mk_pI f_98_3, mk_gI f_98_4, mk_pI f_98_4, mk_gI f_98_5, mk_pI f_98_5, mk_gI f_98_6, mk_pI f_98_6, mk_gL f_98_7, mk_pL f_98_7, ↓m_1, ↓m_2, i_0, i_1, i_2, i_3, i_4, i_6, i_5, i_12, i_11, i_10, i_9999, i_7, i_9, i_8, i_24, i_100, i_56, i_48, i_13, i_176, i_232, i_224, i_32, i_999, i_99, i_900, i_97, i_90, i_30, i_20, i_59, i_14, i_50, i_29, i_22, i_19, i_18, i_17, i_96, i_61, i_57, i_51, i_41, i_26, i_2552, i_255, i_25, i_23, i_21, i_16, i_15, i_122, i_10000, i_31, dzF, obs, b2_some, rz0, rz1, rzb, n01, n01', n10, n01e, nI_add, nI_mul, ↓reduceIte, not_false_eq_true, not_true_eq_false, ite_not, eqF, mk_aIn a_49, w0, w1, w2, w3, w4, w5, w13, ltF]
  · refine Or.inr ⟨hf, ?_⟩
    unfold fullP at hf
    rcases (by omega : g = 0 ∨ g = 1 ∨ g = 2 ∨ g = 3 ∨ g = 4 ∨ g = 5 ∨ g = 6 ∨ g = 7 ∨ 8 ≤ g) with rfl | rfl | rfl | rfl | rfl | rfl | rfl | rfl | hg8
    all_goals simp (disch := omega) only [mk_oO o_48, mk_oO o_94, mk_oO o_98, mk_gR f_48_0, mk_gR f_48_1, mk_gR f_48_2, mk_gR f_48_3, mk_gR f_48_4, mk_gR f_48_5, mk_gR f_48_6, mk_gR f_48_7, mk_gR f_94_0, mk_gR f_94_1, mk_gR f_94_2, mk_gR f_94_3, mk_gR f_94_4, mk_gI f_94_5, mk_pI f_94_5, mk_gI f_94_6, mk_pI f_94_6, mk_gI f_94_7, mk_pI f_94_7, mk_gR f_98_0, mk_gR f_98_1, mk_gI f_98_2, mk_pI f_98_2, mk_gI f_98_3, mk_pI f_98_3, mk_gI f_98_4, mk_pI f_98_4, mk_gI f_98_5, mk_pI f_98_5, mk_gI f_98_6, mk_pI f_98_6, mk_gL f_98_7, mk_pL f_98_7, ↓m_1, ↓m_2, i_0, i_1, i_2, i_3, i_4, i_6, i_5, i_12, i_11, i_10, i_9999, i_7, i_9, i_8, i_24, i_100, i_56, i_48, i_13, i_176, i_232, i_224, i_32, i_999, i_99, i_900, i_97, i_90, i_30, i_20, i_59, i_14, i_50, i_29, i_22, i_19, i_18, i_17, i_96, i_61, i_57, i_51, i_41, i_26, i_2552, i_255, i_25, i_23, i_21, i_16, i_15, i_122, i_10000, i_31, dzF, obs, b2_some, rz0, rz1, rzb, n01, n01', n10, n01e, nI_add, nI_mul, ↓reduceIte, not_false_eq_true, not_true_eq_false, ite_not, eqF, mk_aIn a_49, w0, w1, w2, w3, w4, w5, w13, ltT]
theorem CRd.fl (h : CRd b N q nm I J) {p k : Nat} (hk : 1 ≤ k ∧ k < 8) (hp : p ≤ 900) : FRd b N (8 * p + k) (u2 I 94 7 (nI (8 * p + k))) J := by
  obtain ⟨h1, h2, h3, h4, h5, h6⟩ := h
  exact ⟨⟨h1.same (fun k => u2_no _ _ (by omega)) (u2_no _ _ (by omega)) (fun _ => rfl), ⟨q, h2, by rw [u2_no _ _ (by omega)]; exact h3⟩, ⟨nm.length, h6.1, by rw [u2_no _ _ (by omega)]; exact h5.1⟩⟩, u2_at _ _ _ _, by omega, by omega⟩
theorem C_start (h : CI b N q nm D u I J) (hT : VT D) : (∃ f, (lnF b N q nm D u) = (some f, q, nm, D, u) ∧ mX4_checkStart (mk n I J) 94 (ixW (tG b N q)) = some (mk n (u2 I 94 7 (nI f)) J) ∧ FRd b N f (u2 I 94 7 (nI f)) J) ∨ (tG b N q ≤ 11 ∧ ¬ fullP (tG b N q) D ∧ (∀ w, tG b N q = 8 + w → ¬ u.testBit w = true) ∧ mX4_checkStart (mk n I J) 94 (ixW (tG b N q)) = some (mk n I J)) := by
  obtain ⟨h1, hq, a4, a5, a6, hW, ⟨m, m1, m2, m3⟩, hS⟩ := h
  have hN := h1.1.1
  have pp := tP_in (b := b) (N := N) hq
  have h7 := h1.2.2.2.1
  have hg := tG_le (b := b) (N := N) q
  by_cases h12 : 12 ≤ tG b N q
  · refine Or.inl ⟨8 * tP b N q + 1, lnF30 h12, ?_, h1.fl (by omega) (by omega)⟩
    have e10 : mX4_checkStart_b10 (mk n I J) 94 = some (mk n (u2 I 94 7 (nI (8 * tP b N q + 1))) J) := by
      unfold mX4_checkStart_b10
      rw [i_1, fail0 h7 a4, obs]
    unfold mX4_checkStart
    rw [mk_oO o_94, e10]
    by_cases h30 : tG b N q = 30
    · rw [show ixW (tG b N q) = M1 from if_pos h30, if_pos (show M1 < 0 by decide)]
    · rw [show ixW (tG b N q) = nI (tG b N q) from if_neg h30, i_0, if_neg (of_eq_false (ltF (by omega) (by omega))), i_11, if_neg (of_eq_false (leF (by omega) (by omega)))]
  · have ex : ixW (tG b N q) = nI (tG b N q) := if_neg (by omega)
    rw [ex]
    have e43 : (fullP (tG b N q) D ∧ mX4_checkStart_b43 (mk n I J) 94 (nI (tG b N q)) = some (mk n (u2 I 94 7 (nI (8 * tP b N q + 5))) J)) ∨ (¬ fullP (tG b N q) D ∧ mX4_checkStart_b43 (mk n I J) 94 (nI (tG b N q)) = some (mk n I J)) := by
      unfold mX4_checkStart_b43
      rcases C_full (n := n) (J := J) hW hT (by omega : tG b N q ≤ 11) with ⟨z, ez⟩ | ⟨z, ez⟩
      · refine Or.inl ⟨z, ?_⟩
        rw [ez, b2_some, if_neg (show ¬ nI 1 = 0 by decide), i_5, fail0 h7 a4, obs]
      · refine Or.inr ⟨z, ?_⟩
        rw [ez, b2_some, if_pos (show nI 0 = 0 from rfl)]
    have hpre : mX4_checkStart (mk n I J) 94 (nI (tG b N q)) = if tG b N q < 8 then mX4_checkStart_b43 (mk n I J) 94 (nI (tG b N q)) else if m.testBit (tG b N q) = true then some (mk n (u2 I 94 7 (nI (8 * tP b N q + 2))) J) else mX4_checkStart_b43 (mk n I J) 94 (nI (tG b N q)) := by
      unfold mX4_checkStart
      rw [mk_oO o_94, i_0, if_neg (of_eq_false (ltF (by omega) (by omega))), i_11, if_pos (of_eq_true (leT (by omega) (by omega))), i_8]
      by_cases h8 : tG b N q < 8
      · rw [if_pos (of_eq_true (ltT h8 (by omega))), if_pos h8]
      · rw [if_neg (of_eq_false (ltF (by omega) (by omega))), if_neg h8, mk_gI f_94_6, obs, m2, i_1, i_31, nI_bit (by omega) (by omega), i_2, fail0 h7 a4, obs]
        by_cases hb : m.testBit (tG b N q) = true
        · rw [if_pos hb, if_pos hb, if_neg (show ¬ nI 1 = nI 0 by decide)]
        · rw [if_neg hb, if_neg hb, if_pos rfl]
    by_cases h8 : tG b N q < 8
    · rw [if_pos h8] at hpre
      rcases e43 with ⟨z, ez⟩ | ⟨z, ez⟩
      · exact Or.inl ⟨_, lnFull rfl z, hpre.trans ez, h1.fl (by omega) (by omega)⟩
      · exact Or.inr ⟨by omega, z, fun w hw => by omega, hpre.trans ez⟩
    · rw [if_neg h8] at hpre
      obtain ⟨w, hw, hw4⟩ : ∃ w, tG b N q = 8 + w ∧ w < 4 := ⟨tG b N q - 8, by omega, by omega⟩
      have hmu := m3 w hw4
      rw [← hw] at hmu
      by_cases hb : m.testBit (tG b N q) = true
      · rw [if_pos hb] at hpre
        exact Or.inl ⟨_, lnF8f hw4 hw (by rw [← hmu]; exact hb), hpre, h1.fl (by omega) (by omega)⟩
      · rw [if_neg hb] at hpre
        rcases e43 with ⟨z, ez⟩ | ⟨z, ez⟩
        · exfalso
          unfold fullP at z
          omega
        · refine Or.inr ⟨by omega, z, fun w' hw' => ?_, hpre.trans ez⟩
          have : w' = w := by omega
          subst this
          rw [← hmu]; exact hb
theorem C_end (h : CM b N o q nm I J) (hq : o = none → q ≤ N) (hN : N ≤ 900) : ∃ I' J', mX4_readLine_b158 (mk n I J) 94 = some (mk n I' J') ∧ CM b N (md o (tK b N q = 3) (8 * tP b N q + 1)) (tE b N q) nm I' J' ∧ Fo I I' ∧ Go J J' := by
  obtain ⟨I1, J1, e1, r1, f1, g1, t1⟩ := A_nxt (n := n) h
  have hK := tK_le4 (b := b) (N := N) q
  have hd : mX4_readLine_b158 (mk n I J) 94 = if I1 98 5 = 3 then some (mk n I1 J1) else (mX4_fail (mk n I1 J1) 94 1).bind fun h => some h := by
    unfold mX4_readLine_b158
    rw [mk_gR f_94_0, obs, e1, obs, mk_gR f_94_0, obs, mk_gI f_98_5, obs]
  cases o with
  | none =>
    obtain ⟨a4, a5, -⟩ := t1 rfl
    have pp := tP_in (b := b) (N := N) (hq rfl)
    by_cases h3 : tK b N q = 3
    · refine ⟨I1, J1, ?_, by rw [md_ok h3]; exact r1, f1, g1⟩
      rw [hd, a5, h3, if_pos (show nI 3 = 3 from rfl)]
    · obtain ⟨I2, e2, r2, f2⟩ := A_fail (n := n) r1 (p := tP b N q) (k := 1) (by omega) (by omega) (fun _ => a4)
      refine ⟨I2, J1, ?_, by rw [md_no h3]; rw [md_no id] at r2; exact r2, f1.trans f2, g1⟩
      rw [hd, a5, i_3, if_neg (of_eq_false (eqF h3 (by omega) (by omega))), i_1, e2, obs]
  | some f =>
    obtain ⟨I2, e2, r2, f2⟩ := A_fail (n := n) r1 (p := 0) (k := 1) (by omega) (by omega) (fun z => by cases z)
    by_cases h3 : I1 98 5 = 3
    · refine ⟨I1, J1, ?_, r1, f1, g1⟩
      rw [hd, if_pos h3]
    · refine ⟨I2, J1, ?_, r2, f1.trans f2, g1⟩
      rw [hd, if_neg h3, i_1, e2, obs]
end CQ
