/-! ===== 98g: the reference's line, whole ===== -/
section RG
variable {n : Nat} {b : Nat → Nat} {N q : Nat} {nm : NmL} {I : Nat → Nat → Int32} {J : Nat → Nat → Int64} {D : Nat → Nat} {u : Nat}
theorem RLsale (h : RRd b N q nm I J) (hN : NR I 226 0 D) (hU : RB I u) (hP : PI nm D) (hg : tG b N q = 4) : LnR n b N I J (lnF b N q nm D u) (mX10_saleLine (mk n I J) 224) := by
  have b0 := hP.1.1
  have hB := hP.2.1
  have h9 := hP.1.2.2.2.2.2.2.2.2.2
  have v0 : I 226 3 = nI (D 3) := hN.a (by decide)
  have h1n : ¬ nI 1 = nI 0 := by decide
  have h0p : nI 0 = nI 0 := rfl
  unfold mX10_saleLine
  rw [mk_oO o_224, mk_gR f_224_2, obs, i_3, mk_aIn a_226 (by decide) (by decide), obs, v0]
  simp only [i_0, i_1, i_2, i_4, i_10, i_12, i_56, nI_mul, nI_add]
  rcases R_begins (n := n) h hN (k := 3) (m := 10) (by decide) (by decide) (h9 3) (by omega) with ⟨hc, e⟩ | ⟨hc, I1, J1, e1, r1, f1, g1⟩
  · rw [e, b2_some, if_pos h0p]
    exact LnR.no _ (by rw [lnF4f hg (by omega)]) (rz0 _) (u2_at _ _ _ _) (Fq_u _ _ (by omega)).fr (Gq.refl _)
  have hlt : D 3 < 10 := by omega
  rw [lnF4 hg hlt, e1, b2_some, if_neg h1n]
  have v1 : I1 226 3 = nI (D 3) := by rw [f1.d _ _ (by omega)]; exact v0
  rcases R_nam (n := n) r1 (s := 3) (c := D 3) (by decide) (by omega) v1 (hP.len (by omega)) with ⟨I2, J2, m2, e2, r2, f2, g2⟩ | ⟨f, I2, J2, m2, e2, v2, f2, g2⟩
  rotate_left
  · rw [e2, b2_some, if_pos h0p]
    exact LnR.no f (by show oSaleX b N (tE b N q) nm (D 3) = _; unfold oSaleX oSale3 oSale2 oSale1; rw [m2]; rfl) (rz0 _) v2 (f1.fr.trans f2.fr) (g1.gq.trans g2)
  rw [e2, b2_some, if_neg h1n]
  rcases R_knw (n := n) r2 (s := 1) (by decide) with ⟨x0, I3, J3, m3, e3, r3, v3, f3, g3⟩ | ⟨I3, J3, m3, e3, v3, f3, g3⟩
  rotate_left
  · change tgS b N (tE b N q) nm (D 3) = none at m3
    rw [e3, b2_some, if_pos h0p]
    exact LnR.no (ftT b N (tE b N (tE b N q))) (by show oSaleX b N (tE b N q) nm (D 3) = _; unfold oSaleX oSale3 oSale2 oSale1; rw [m2, m3]; rfl) (rz0 _) v3 ((f1.fr.trans f2.fr).trans f3.fr) ((g1.gq.trans g2).trans g3)
  change tgS b N (tE b N q) nm (D 3) = some x0 at m3
  rw [e3, b2_some, if_neg h1n, mk_gR f_224_2, obs, mk_gI f_224_16, obs, v3, mk_sIn a_226 (by omega) (by decide), obs]
  rcases R_knw (n := n) (r3.d (56 + 12 * D 3 + 0) (nI x0)) (s := 0) (by decide) with ⟨x1, I4, J4, m4, e4, r4, v4, f4, g4⟩ | ⟨I4, J4, m4, e4, v4, f4, g4⟩
  rotate_left
  · change tpS b N (tE b N q) nm (D 3) = none at m4
    rw [e4, b2_some, if_pos h0p]
    exact LnR.no (ftT b N (tE b N (tE b N (tE b N q)))) (by show oSaleX b N (tE b N q) nm (D 3) = _; unfold oSaleX oSale3 oSale2 oSale1; rw [m2, m3, m4]; rfl) (rz0 _) v4 ((((f1.fr.trans f2.fr).trans f3.fr).trans (Fr_d _ _ _)).trans f4.fr) (((g1.gq.trans g2).trans g3).trans g4)
  change tpS b N (tE b N q) nm (D 3) = some x1 at m4
  rw [e4, b2_some, if_neg h1n, mk_gR f_224_2, obs, mk_gI f_224_16, obs, v4, mk_sIn a_226 (by omega) (by decide), obs]
  have hB' := hB.sale (b := b) (N := N) (tE b N q)
  have x1lt := hB'.lt m4
  rw [uTn (by decide)] at x1lt
  rcases R_ish (n := n) (r4.d (56 + 12 * D 3 + 1) (nI x1)) (s := 0) (by decide) with ⟨x2, m5, e5, r5, hK5⟩ | ⟨m5, e5⟩
  rotate_left
  · change tbS b N (tE b N q) nm (D 3) = none at m5
    rw [e5, b2_some, if_pos h0p]
    exact LnR.no (ftT b N (tE b N (tE b N (tE b N (tE b N q))))) (by show oSaleX b N (tE b N q) nm (D 3) = _; unfold oSaleX oSale3 oSale2 oSale1; rw [m2, m3, m4, m5]; rfl) (rz0 _) (u2_at _ _ _ _) ((((((f1.fr.trans f2.fr).trans f3.fr).trans (Fr_d _ _ _)).trans f4.fr).trans (Fr_d _ _ _)).trans (Fq_u _ _ (Or.inl rfl)).fr) (((g1.gq.trans g2).trans g3).trans g4)
  change tbS b N (tE b N q) nm (D 3) = some x2 at m5
  have x2lt := hB'.lt m5
  rw [uTn (by decide)] at x2lt
  have os1 : oSale1 b N (tE b N q) nm (D 3) = none := by
    unfold oSale1
    rw [m2, m3, m4, m5]
    rfl
  have fr5 : Fr I (u2 (u2 I4 226 (56 + 12 * D 3 + 1) (nI x1)) 224 16 (nI x2)) := (((((f1.fr.trans f2.fr).trans f3.fr).trans (Fr_d _ _ _)).trans f4.fr).trans (Fr_d _ _ _)).trans (Fq_u _ _ (Or.inr (Or.inl rfl))).fr
  have w51 : u2 (u2 I4 226 (56 + 12 * D 3 + 1) (nI x1)) 224 16 (nI x2) 226 (56 + 12 * D 3 + 1) = nI x1 := by rw [u2_no _ _ (by omega), u2_at]
  have w5g : u2 (u2 I4 226 (56 + 12 * D 3 + 1) (nI x1)) 224 16 (nI x2) 224 16 = nI x2 := u2_at _ _ _ _
  rw [e5, b2_some, if_neg h1n, mk_gI f_224_16, w5g, obs, mk_gR f_224_2, obs, mk_aIn a_226 (by omega) (by decide), w51, obs]
  by_cases h12 : x2 = x1
  · rw [if_pos (by rw [h12]), R_bad r5, b2_some]
    refine LnR.no (I' := u2 (u2 (u2 I4 226 (56 + 12 * D 3 + 1) (nI x1)) 224 16 (nI x2)) 224 15 (nI (8 * tP b N (tE b N (tE b N (tE b N (tE b N q)))) + 4))) (J' := J4) (8 * tP b N (tE b N (tE b N (tE b N (tE b N q)))) + 4) ?_ (rz0 _) (u2_at _ _ _ _) (fr5.trans (Fq_u _ _ (Or.inl rfl)).fr) (((g1.gq.trans g2).trans g3).trans g4)
    show oSaleX b N (tE b N q) nm (D 3) = _
    have : oSale2 b N (tE b N q) nm (D 3) = some (8 * tP b N (tE b N (tE b N (tE b N (tE b N q)))) + 4) := by
      unfold oSale2
      rw [os1]
      exact md_no (by rw [m4, m5]; exact fun z => z h12.symm)
    unfold oSaleX oSale3
    rw [this]
    rfl
  have hne : ¬ nI x2 = nI x1 := of_eq_false (eqF h12 (by omega) (by omega))
  have os2 : oSale2 b N (tE b N q) nm (D 3) = none := by
    unfold oSale2
    rw [os1]
    exact md_ok (by rw [m4, m5]; exact fun z => h12 z.symm)
  obtain ⟨I6, J6, e6, r6, f6, g6⟩ := R_step (n := n) (r5.d (56 + 12 * D 3 + 2) (nI x2)) (by omega)
  have z6 : ∀ d, d < 56 + 12 * D 3 ∨ 56 + 12 * D 3 + 2 < d → I6 226 d = I 226 d := fun d hd => by rw [f6.d _ _ (by omega), u2_no _ _ (by omega), u2_no _ _ (by omega), u2_no _ _ (by omega), f4.d _ _ (by omega), u2_no _ _ (by omega), f3.d _ _ (by omega), f2.d _ _ (by omega), f1.d _ _ (by omega)]
  have y6 : I6 224 22 = I 224 22 := by rw [f6.d _ _ (by omega), u2_no _ _ (by omega), u2_no _ _ (by omega), u2_no _ _ (by omega), f4.d _ _ (by omega), u2_no _ _ (by omega), f3.d _ _ (by omega), f2.d _ _ (by omega), f1.d _ _ (by omega)]
  have fr6 : Fr I I6 := (fr5.trans (Fr_d _ _ _)).trans f6.fr
  have gr6 : Gq J J6 := (((g1.gq.trans g2).trans g3).trans g4).trans g6.gq
  rw [if_neg hne, obs, obs, mk_sIn a_226 (by omega) (by decide), obs, e6, obs]
  rcases R_trd (n := n) r6 (p := 56 + 12 * D 3 + 3) (by omega) with ⟨I7, J7, m7, e7, r7, y1, y2, y3, y4, y5, f7, g7⟩ | ⟨f, I7, J7, m7, e7, v7, f7, g7⟩
  rotate_left
  · rw [e7, b2_some, if_pos h0p]
    refine LnR.no f ?_ (rz0 _) v7 (fr6.trans f7) (gr6.trans g7)
    show oSaleX b N (tE b N q) nm (D 3) = _
    have : oSale3 b N (tE b N q) nm (D 3) = some f := by unfold oSale3; rw [os2]; exact m7
    unfold oSaleX
    rw [this]
  rw [e7, b2_some, if_neg h1n]
  have os3 : oSale3 b N (tE b N q) nm (D 3) = none := by unfold oSale3; rw [os2]; exact m7
  obtain ⟨hr, -⟩ := lSale_ok hB hP.1 (qle h.2.1).1 os3
  have om : oSaleX b N (tE b N q) nm (D 3) = (rSale b N (tE b N q) nm (D 3)).1 := by unfold oSaleX; rw [os3]
  have hrow : ∀ j, j < 12 → I7 226 (56 + 12 * D 3 + j) = nI (rowL (lSale b N (tE b N q) nm (D 3)) j) := fun j hj => by
    rcases (by omega : j = 0 ∨ j = 1 ∨ j = 2 ∨ j = 3 ∨ j = 4 ∨ j = 5 ∨ 6 ≤ j) with rfl | rfl | rfl | rfl | rfl | rfl | hj6
    · show _ = nI ((tgS b N (tE b N q) nm (D 3)).getD 0)
      rw [m3, y4 _ (by omega), f6.d _ _ (by omega), u2_no _ _ (by omega), u2_no _ _ (by omega), u2_no _ _ (by omega), f4.d _ _ (by omega), u2_at]
      rfl
    · show _ = nI ((tpS b N (tE b N q) nm (D 3)).getD 0)
      rw [m4, y4 _ (by omega), f6.d _ _ (by omega), u2_no _ _ (by omega), w51]
      rfl
    · show _ = nI ((tbS b N (tE b N q) nm (D 3)).getD 0)
      rw [m5, y4 _ (by omega), f6.d _ _ (by omega), u2_at]
      rfl
    · exact y1
    · exact y2
    · exact y3
    · have : rowL (lSale b N (tE b N q) nm (D 3)) j = 0 := by
        rcases (by omega : j = 6 ∨ j = 7 ∨ j = 8 ∨ j = 9 ∨ j = 10 ∨ j = 11) with rfl | rfl | rfl | rfl | rfl | rfl <;> rfl
      rw [this, y4 _ (by omega), z6 _ (by omega), hN.a (by omega), hP.2.2.2.2 _ (by omega) (by omega)]
  have ex := RE_loop (n := n) (p := 56 + 12 * D 3) (by omega) hB' (by rw [uTn (by decide)]; exact hP.1.1.2.2.1) (N + 1) (qSale b N (tE b N q)) FU I7 J7 (rowL (lSale b N (tE b N q) nm (D 3))) 0 0 (by omega) (by have := h.1.1; unfold FU; omega) r7 hrow hr (by decide) (fun g _ _ => by rw [Nat.zero_testBit, Nat.zero_testBit])
  obtain ⟨I8, J8, f8, g8, o8, s8, ex⟩ := ex
  have eL : mX10_extras (mk n I7 J7) 224 (nI (56 + 12 * D 3)) = mX10_extras_L2 FU (mk n I7 J7) 224 (nI (56 + 12 * D 3)) (nI 0) := by
    unfold mX10_extras
    rw [mk_oO o_224]
    rfl
  rw [eL]
  rcases ex with ⟨m8, e8, r8, w8⟩ | ⟨f, m8, e8, v8⟩
  · have w83 : I8 226 3 = nI (D 3) := by rw [o8 _ (by omega), y4 _ (by omega), z6 _ (by omega)]; exact v0
    rw [e8, b2_some, if_neg h1n, mk_gR f_224_2, obs, mk_aIn a_226 (by decide) (by decide), w83, obs, nI_add, mk_sIn a_226 (by decide) (by decide), obs]
    refine LnR.yes (I' := u2 I8 226 3 (nI (D 3 + 1))) (J' := J8) (om.trans m8) (rz1 _) (r8.d _ _) ?_ (hU.same ?_) (((fr6.trans f7).trans f8).trans (Fr_d _ _ _)) ((gr6.trans g7).trans g8)
    · refine hN.row (u2_at _ _ _ _) (fun i hi => ?_) (fun c z1 z2 => ?_) (Or.inl (by omega))
      · rw [u2_no _ _ (by omega)]; exact w8 i hi
      · rw [u2_no _ _ (by omega), o8 _ (by omega), y4 _ (by omega), z6 _ (by omega)]
    · rw [u2_no _ _ (by omega), s8, y5, y6]
  · rw [e8, b2_some, if_pos h0p]
    exact LnR.no f (om.trans m8) (rz0 _) v8 ((fr6.trans f7).trans f8) ((gr6.trans g7).trans g8)
theorem LnR.rz {r : Option Nat × Nat × NmL × (Nat → Nat) × Nat} {c : Option (Int32 × PH)} (h : LnR n b N I J r c) : LnR n b N I J r (b2 c fun v h => rz v h) := by
  obtain ⟨I', J', h1, h2, ⟨h3, h4, h5⟩ | ⟨f, h3, h4, h5⟩⟩ := h
  · exact ⟨I', J', h1, h2, Or.inl ⟨h3, by rw [h4, b2_some]; exact rz1 _, h5⟩⟩
  · exact ⟨I', J', h1, h2, Or.inr ⟨f, h3, by rw [h4, b2_some]; exact rz0 _, h5⟩⟩
set_option maxHeartbeats 4000000 in
theorem R_line (h : RRd b N q nm I J) (hN : NR I 226 0 D) (hU : RB I u) (hP : PI nm D) : LnR n b N I J (lnF b N q nm D u) (mX10_line (mk n I J) 224) := by
  have hg := tG_le (b := b) (N := N) q
  have no : ∀ {k : Nat}, tG b N q ≠ k → (if tG b N q = k then 1 else 0) = 0 := fun z => if_neg z
  unfold mX10_line
  rw [mk_oO o_224, l_16829081, is_0 h, b2_some]
  by_cases g0 : tG b N q = 0
  · rw [if_pos g0, if_neg (show ¬ nI 1 = 0 by decide)]; exact (RLparty h hN hU hP g0).rz
  rw [if_neg g0, if_pos (show nI 0 = 0 from rfl), l_11566, is_1 h, b2_some]
  by_cases g1 : tG b N q = 1
  · rw [if_pos g1, if_neg (show ¬ nI 1 = 0 by decide)]; exact (RLkin h hN hU hP g1).rz
  rw [if_neg g1, if_pos (show nI 0 = 0 from rfl), l_245220, is_2 h, b2_some]
  by_cases g2 : tG b N q = 2
  · rw [if_pos g2, if_neg (show ¬ nI 1 = 0 by decide)]; exact (RLgood h hN hU hP g2).rz
  rw [if_neg g2, if_pos (show nI 0 = 0 from rfl), l_54109812, is_3 h, b2_some]
  by_cases g3 : tG b N q = 3
  · rw [if_pos g3, if_neg (show ¬ nI 1 = 0 by decide)]; exact (RLassist h hN hU hP g3).rz
  rw [if_neg g3, if_pos (show nI 0 = 0 from rfl), l_624005, is_4 h, b2_some]
  by_cases g4 : tG b N q = 4
  · rw [if_pos g4, if_neg (show ¬ nI 1 = 0 by decide)]; exact (RLsale h hN hU hP g4).rz
  rw [if_neg g4, if_pos (show nI 0 = 0 from rfl), l_609860996, is_5 h, b2_some]
  by_cases g5 : tG b N q = 5
  · rw [if_pos g5, if_neg (show ¬ nI 1 = 0 by decide)]; exact (RLresold h hN hU hP g5).rz
  rw [if_neg g5, if_pos (show nI 0 = 0 from rfl), l_427141, is_6 h, b2_some]
  by_cases g6 : tG b N q = 6
  · rw [if_pos g6, if_neg (show ¬ nI 1 = 0 by decide)]; exact (RLmade h hN hU hP g6).rz
  rw [if_neg g6, if_pos (show nI 0 = 0 from rfl), l_67012, is_7 h, b2_some]
  by_cases g7 : tG b N q = 7
  · rw [if_pos g7, if_neg (show ¬ nI 1 = 0 by decide)]; exact (RLband h hN hU hP g7).rz
  rw [if_neg g7, if_pos (show nI 0 = 0 from rfl), l_463922, is_8 h, b2_some]
  have rul : ∀ w, w < 4 → tG b N q = 8 + w → LnR n b N I J (lnF b N q nm D u) (mX10_line_b181 (mk n I J) 224 (nI (6 + w))) := fun w hw hgw => by
    unfold mX10_line_b181
    rw [if_neg (show ¬ nI (6 + w) = -1 by rw [m_1]; exact of_eq_false (nM1 (by omega)))]
    exact (RLrule h hN hU hP hw hgw).rz
  by_cases g8 : tG b N q = 8
  · rw [if_pos g8, if_neg (show ¬ nI 1 = 0 by decide)]; exact rul 0 (by decide) g8
  rw [if_neg g8, if_pos (show nI 0 = 0 from rfl), l_781652471, is_9 h, b2_some]
  by_cases g9 : tG b N q = 9
  · rw [if_pos g9, if_neg (show ¬ nI 1 = 0 by decide)]; exact rul 1 (by decide) g9
  rw [if_neg g9, if_pos (show nI 0 = 0 from rfl), l_437853486, is_10 h, b2_some]
  by_cases g10 : tG b N q = 10
  · rw [if_pos g10, if_neg (show ¬ nI 1 = 0 by decide)]; exact rul 2 (by decide) g10
  rw [if_neg g10, if_pos (show nI 0 = 0 from rfl), l_153241, is_11 h, b2_some]
  by_cases g11 : tG b N q = 11
  · rw [if_pos g11, if_neg (show ¬ nI 1 = 0 by decide)]; exact rul 3 (by decide) g11
  rw [if_neg g11, if_pos (show nI 0 = 0 from rfl), lnF30 (by omega)]
  unfold mX10_line_b181
  rw [if_pos rfl, i_1, R_bad h]
  exact LnR.no (I' := u2 I 224 15 (nI (8 * tP b N q + 1))) (J' := J) (8 * tP b N q + 1) rfl (by rw [b2_some]; exact rz0 _) (u2_at _ _ _ _) (Fq_u _ _ (Or.inl rfl)).fr (Gq.refl _)
end RG
