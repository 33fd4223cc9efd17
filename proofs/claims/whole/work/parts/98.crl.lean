/-! ===== 98: the class's line, whole ===== -/
section RL
variable {n : Nat} {b : Nat → Nat} {N q : Nat} {nm : NmL} {I : Nat → Nat → Int32} {J : Nat → Nat → Int64} {D : Nat → Nat} {u : Nat}
theorem CB.same {I' : Nat → Nat → Int32} (h : CB I u) (e : I' 94 6 = I 94 6) : CB I' u := by
  obtain ⟨m, m1, m2, m3⟩ := h
  exact ⟨m, m1, e.trans m2, m3⟩
theorem SN.same {J' : Nat → Nat → Int64} {D' : Nat → Nat} (h : SN nm D J) (hJ : ∀ s, J' 74 s = J 74 s) (hD : D' 3 = D 3) : SN nm D' J' := ⟨fun x hx h3 => by rw [hJ]; exact h.1 x hx h3, fun s hs => h.2 s (by rw [← hD]; exact hs)⟩
theorem SN.app {J' : Nat → Nat → Int64} {D' : Nat → Nat} (h : SN nm D J) (hJ : ∀ s, J' 74 s = J 74 s) (hD : D' 3 = D 3) (w : List Nat) {s : Nat} (c : Nat) (hs : s ≠ 3) : SN (nm ++ [(w, s, c)]) D' J' := by
  refine ⟨fun x hx h3 => ?_, fun t ht => ?_⟩
  · rw [hJ]
    rcases List.mem_append.mp hx with z | z
    · exact h.1 x z h3
    · rw [List.mem_singleton.mp z] at h3
      exact absurd h3 hs
  · obtain ⟨x, hx, x1, x2⟩ := h.2 t (by rw [← hD]; exact ht)
    exact ⟨x, List.mem_append.mpr (Or.inl hx), x1, x2⟩
theorem SN.sale {J' : Nat → Nat → Int64} {D' : Nat → Nat} (h : SN nm D J) (hB : NB nm D) (w : List Nat) (h1 : J' 74 (D 3) = lN (enc 27 w)) (h2 : ∀ s, s ≠ D 3 → J' 74 s = J 74 s) (hD : D' 3 = D 3 + 1) : SN (nm ++ [(w, 3, D 3)]) D' J' := by
  refine ⟨fun x hx h3 => ?_, fun t ht => ?_⟩
  · rcases List.mem_append.mp hx with z | z
    · have := hB x z
      rw [h3] at this
      rw [h2 _ (by omega)]
      exact h.1 x z h3
    · rw [List.mem_singleton.mp z]; exact h1
  · by_cases hc : t = D 3
    · exact ⟨_, List.mem_append.mpr (Or.inr (List.mem_singleton.mpr rfl)), rfl, hc.symm⟩
    · obtain ⟨x, hx, x1, x2⟩ := h.2 t (by omega)
      exact ⟨x, List.mem_append.mpr (Or.inl hx), x1, x2⟩
/-- what a line leaves in the class -/
def LnC (n : Nat) (b : Nat → Nat) (N : Nat) (I : Nat → Nat → Int32) (J : Nat → Nat → Int64) (r : Option Nat × Nat × NmL × (Nat → Nat) × Nat) (h' : PH) : Prop := ∃ I' J', h' = mk n I' J' ∧ CM b N (md r.1 (tK b N r.2.1 = 3) (8 * tP b N r.2.1 + 1)) (tE b N r.2.1) r.2.2.1 I' J' ∧ Fw I I' ∧ Gw J J' ∧ (r.1 = none → WR I' 48 r.2.2.2.1 ∧ CB I' r.2.2.2.2 ∧ SN r.2.2.1 r.2.2.2.1 J')
/-- a line and its end -/
theorem ln_end {o : Option Nat} {q' : Nat} {nm' : NmL} {D' : Nat → Nat} {u' : Nat} {I1 : Nat → Nat → Int32} {J1 : Nat → Nat → Int64} (hN : N ≤ 900) (h : CM b N o q' nm' I1 J1) (hq : o = none → q' ≤ N) (hT : o = none → VT D') (hF : Fw I I1) (hG : Go J J1) (hw : o = none → WR I1 48 D' ∧ CB I1 u' ∧ SN nm' D' J1) : ∃ h', mX4_readLine_b158 (mk n I1 J1) 94 = some h' ∧ LnC n b N I J (o, q', nm', D', u') h' := by
  obtain ⟨I2, J2, e2, r2, f2, g2⟩ := C_end (n := n) h hq hN
  refine ⟨_, e2, I2, J2, rfl, r2, hF.trans f2.fw, hG.gw.trans g2.gw, fun z => ?_⟩
  obtain ⟨w1, w2, w3⟩ := hw z
  exact ⟨w1.scr (hT z) (fun a c z1 z2 => f2.at a c (by omega)), w2.same f2.six, w3.same (fun s => g2 _ _ (by decide) (by decide)) rfl⟩
theorem C_rl (hP : PI nm D) (h : CI b N q nm D u I J) (hg : tG b N q ≤ 11) (hf : ¬ fullP (tG b N q) D) (hu : ∀ w, tG b N q = 8 + w → ¬ u.testBit w = true) : ∃ h', mX4_readLine (mk n I J) 94 (nI (tG b N q)) = some h' ∧ LnC n b N I J (lnF b N q nm D u) h' := by
  obtain ⟨h1, hq, a4, a5, a6, hW, hC, hS⟩ := h
  have hT := hP.1
  have hB := hP.2.1
  have b0 := hT.1
  have hN := h1.1.1
  have ho := h1.2.2.2.2.2
  have nx := PI_next (b := b) (N := N) (q := q) (u := u) hP ho hq
  have d74 : ∀ {J1 : Nat → Nat → Int64}, Go J J1 → ∀ s, J1 74 s = J 74 s := fun g s => g _ _ (by decide) (by decide)
  unfold fullP at hf
  unfold mX4_readLine
  rw [mk_oO o_94]
  rcases (by omega : tG b N q = 0 ∨ tG b N q = 1 ∨ tG b N q = 2 ∨ tG b N q = 3 ∨ tG b N q = 4 ∨ tG b N q = 5 ∨ tG b N q = 6 ∨ tG b N q = 7 ∨ 8 ≤ tG b N q) with g | g | g | g | g | g | g | g | g
  · have hc : D 0 < 6 := by omega
    rw [lnF0 g hc] at nx ⊢
    obtain ⟨I1, J1, e1, r1, f1, g1, w1⟩ := C_party (n := n) h1 hW hc (hP.len (by omega))
    rw [g, if_pos (show nI 0 = 0 from rfl), e1, obs]
    exact ln_end hN r1 (fun z => (nx z).2.1) (fun z => (nx z).1.1) f1 g1 (fun _ => ⟨hW.party hT hc w1, hC.same w1.2.2.2, hS.app (d74 g1) (rwT_out (by omega) (by omega)) _ _ (by decide)⟩)
  · have hc : D 11 < 6 := by omega
    rw [lnF1 g hc] at nx ⊢
    obtain ⟨I1, J1, e1, r1, f1, g1, w1⟩ := C_kin (n := n) h1 hW hT hB hc
    rw [g, if_neg (show ¬ nI 1 = 0 by decide), if_pos (show nI 1 = 1 from rfl), e1, obs]
    exact ln_end hN r1 (fun z => (nx z).2.1) (fun z => (nx z).1.1) f1 g1 (fun z => ⟨(w1 z).1, hC.same (w1 z).2, hS.same (d74 g1) (by unfold adP; rw [uTn (by omega), uTn (by omega), uTn (by omega)])⟩)
  · have hc : D 1 < 6 := by omega
    rw [lnF2 g hc] at nx ⊢
    obtain ⟨I1, J1, e1, r1, f1, g1, w1⟩ := C_good (n := n) h1 hW hc (hP.len (by omega))
    rw [g, if_neg (show ¬ nI 2 = 0 by decide), if_neg (show ¬ nI 2 = 1 by decide), if_pos (show nI 2 = 2 from rfl), e1, obs]
    exact ln_end hN r1 (fun z => (nx z).2.1) (fun z => (nx z).1.1) f1 g1 (fun z => ⟨hW.good hT hc (w1 z), hC.same (w1 z).2.2.2, hS.app (d74 g1) (rwT_out (by omega) (by omega)) _ _ (by decide)⟩)
  · have hc : D 2 < 4 := by omega
    rw [lnF3 g hc] at nx ⊢
    obtain ⟨I1, J1, e1, r1, f1, g1, w1⟩ := C_assist (n := n) h1 hW hc (hP.len (by omega))
    rw [g, if_neg (show ¬ nI 3 = 0 by decide), if_neg (show ¬ nI 3 = 1 by decide), if_neg (show ¬ nI 3 = 2 by decide), if_pos (show nI 3 = 3 from rfl), e1, obs]
    exact ln_end hN r1 (fun z => (nx z).2.1) (fun z => (nx z).1.1) f1 g1 (fun z => ⟨hW.assist hT hc (w1 z), hC.same (w1 z).2.2.2, hS.app (d74 g1) (rwT_out (by omega) (by omega)) _ _ (by decide)⟩)
  · have hc : D 3 < 10 := by omega
    rw [lnF4 g hc] at nx ⊢
    have p1 := qle (b := b) hq
    have hlt := (tG_pro (b := b) (N := N) hq (by omega)).2
    obtain ⟨I1, J1, e1, r1, f1, s1, g1, w1⟩ := C_saleH (n := n) h1 hW hT hB hc (hP.len (by omega))
    have x0 : I 49 3 = nI (D 3) := hW.1 3 (by decide)
    have x1 : I1 49 3 = nI (D 3) := by rw [f1 _ _ (by omega) (by omega)]; exact x0
    -- the extras
    have key : ∃ I2 J2, mX4_readExtras (mk n I1 J1) 94 (64 + D 3) = some (mk n I2 J2) ∧ CM b N (md (oSaleX b N (tE b N q) nm (D 3)) (tK b N (rSale b N (tE b N q) nm (D 3)).2.1 = 3) (8 * tP b N (rSale b N (tE b N q) nm (D 3)).2.1 + 1)) (tE b N (rSale b N (tE b N q) nm (D 3)).2.1) (nmS b N (tE b N q) nm (D 3)) I2 J2 ∧ (∀ a c, a < 94 ∨ 99 ≤ a → a ≠ 64 + D 3 → I2 a c = I1 a c) ∧ I2 94 6 = I1 94 6 ∧ Go J1 J2 ∧ (oSaleX b N (tE b N q) nm (D 3) = none → ∀ j, j < 12 → I2 (64 + D 3) j = nI ((rSale b N (tE b N q) nm (D 3)).2.2 j)) := by
      unfold mX4_readExtras
      rw [mk_oO o_94]
      unfold oSaleX
      cases ho3 : oSale3 b N (tE b N q) nm (D 3) with
      | none =>
        rw [ho3] at r1
        have r1' : CRd b N (qSale b N (tE b N q)) (nmS b N (tE b N q) nm (D 3)) I1 J1 := r1
        obtain ⟨hr, -⟩ := lSale_ok hB hT p1.1 ho3
        have e4 : tE b N q ≤ qSale b N (tE b N q) := by
          have y1 := s4le (b := b) p1.1
          have y2 := q2le (b := b) y1.1
          have y3 := q2le (b := b) y2.1
          have y4 := q2le (b := b) y3.1
          unfold qSale
          omega
        exact E_loop (n := n) (r_63 _ hc) (by omega) (hB.sale (b := b) (N := N) (tE b N q)) (by rw [uTn (by decide)]; exact hT.1.2.2.1) (N + 1) (qSale b N (tE b N q)) 0 FU I1 J1 (rowL (lSale b N (tE b N q) nm (D 3))) 0 (by omega) (by unfold FU; omega) (by omega) r1' (w1 ho3).1 hr (by decide)
      | some f =>
        rw [ho3] at r1
        exact ⟨I1, J1, E_stop (i := 0) (fu := FU) r1 _ (by decide) (by unfold FU; decide), r1, fun _ _ _ _ => rfl, rfl, Go.refl _, fun z => by cases z⟩
    obtain ⟨I2, J2, e2, r2, f2, s2, g2, w2⟩ := key
    have x2 : I2 49 3 = nI (D 3) := by rw [f2 _ _ (by omega) (by omega)]; exact x1
    refine ⟨_, ?_, u2 I2 49 3 (nI (D 3 + 1)), J2, rfl, r2.keep (fun a c z => u2_no _ _ (by omega)), fun a c z => by rw [u2_no _ _ (by omega), f2 a c (by omega) (by omega), f1 a c (by omega) (by omega)], g1.trans g2.gw, fun z => ?_⟩
    · rw [g, if_neg (show ¬ nI 4 = 0 by decide), if_neg (show ¬ nI 4 = 1 by decide), if_neg (show ¬ nI 4 = 2 by decide), if_neg (show ¬ nI 4 = 3 by decide), if_pos (show nI 4 = 4 from rfl)]
      simp (disch := omega) only [mk_oO o_48, mk_oO o_94, mk_oO o_98, mk_gR f_48_0, mk_gR f_48_1, mk_gR f_48_2, mk_gR f_48_3, mk_gR f_48_4, mk_gR f_48_5, mk_gR f_48_6, mk_gR f_48_7, mk_gR f_94_0, mk_gR f_94_1, mk_gR f_94_2, mk_gR f_94_3, mk_gR f_94_4, mk_gI f_94_5, mk_pI f_94_5, mk_gI f_94_6, mk_pI f_94_6, mk_gI f_94_7, mk_pI f_94_7, mk_gR f_98_0, mk_gR f_98_1, mk_gI f_98_2, mk_pI f_98_2, mk_gI f_98_3, mk_pI f_98_3, mk_gI f_98_4, mk_pI f_98_4, mk_gI f_98_5, mk_pI f_98_5, mk_gI f_98_6, mk_pI f_98_6, mk_gL f_98_7, mk_pL f_98_7, ↓m_1, ↓m_2, i_0, i_1, i_2, i_3, i_4, i_6, i_5, i_12, i_11, i_10, i_9999, i_7, i_9, i_8, i_24, i_100, i_56, i_48, i_13, i_176, i_232, i_224, i_32, i_999, i_99, i_900, i_97, i_90, i_30, i_20, i_59, i_14, i_50, i_29, i_22, i_19, i_18, i_17, i_96, i_61, i_57, i_51, i_41, i_26, i_2552, i_255, i_25, i_23, i_21, i_16, i_15, i_122, i_10000, i_31, dzF, obs, b2_some, rz0, rz1, rzb, n01, n01', n10, n01e, nI_add, nI_mul, ↓reduceIte, not_false_eq_true, not_true_eq_false, ite_not, mk_aIn a_49, x0, mk_aRn a_63 (q_63 _ hc), e1, x1, e2, x2, mk_sIn a_49]
    · have z3 := (oSaleX_none z).1
      refine ⟨hW.sale hT hc ⟨u2_at _ _ _ _, fun i hi => by rw [u2_no _ _ (by omega)]; exact w2 z i hi, fun a c z1 z2 z3 z4 => by rw [u2_no _ _ (by omega), f2 a c (by omega) z4, f1 a c (by omega) z4], by rw [u2_no _ _ (by omega), s2, s1]⟩, hC.same (by rw [u2_no _ _ (by omega), s2, s1]), ?_⟩
      exact hS.sale hB _ (by rw [g2 _ _ (by decide) (by decide)]; exact (w1 z3).2.1) (fun s hs => by rw [g2 _ _ (by decide) (by decide)]; exact (w1 z3).2.2 s hs) (show rwT D 3 (D 3 + 1) (56 + 12 * D 3) 12 (rSale b N (tE b N q) nm (D 3)).2.2 3 = D 3 + 1 from rwT_c _ _ _ _ _ _)
  · have hc : D 4 < 12 := by omega
    rw [lnF5 g hc] at nx ⊢
    obtain ⟨I1, J1, e1, r1, f1, g1, w1⟩ := C_resold (n := n) h1 hW hc
    rw [g, if_neg (show ¬ nI 5 = 0 by decide), if_neg (show ¬ nI 5 = 1 by decide), if_neg (show ¬ nI 5 = 2 by decide), if_neg (show ¬ nI 5 = 3 by decide), if_neg (show ¬ nI 5 = 4 by decide), if_pos (show nI 5 = 5 from rfl), e1, obs]
    exact ln_end hN r1 (fun z => (nx z).2.1) (fun z => (nx z).1.1) f1 g1 (fun z => ⟨hW.resold hT hc (w1 z), hC.same (w1 z).2.2.2, hS.same (d74 g1) (rwT_out (by omega) (by omega))⟩)
  · rw [lnF6 g] at nx ⊢
    obtain ⟨I1, J1, e1, r1, f1, g1, w1⟩ := C_made (n := n) h1 hW hT hB
    rw [g, if_neg (show ¬ nI 6 = 0 by decide), if_neg (show ¬ nI 6 = 1 by decide), if_neg (show ¬ nI 6 = 2 by decide), if_neg (show ¬ nI 6 = 3 by decide), if_neg (show ¬ nI 6 = 4 by decide), if_neg (show ¬ nI 6 = 5 by decide), if_pos (show nI 6 = 6 from rfl), e1, obs]
    refine ln_end hN r1 (fun z => (nx z).2.1) (fun z => (nx z).1.1) f1 g1 (fun z => ?_)
    obtain ⟨k1, k2, k3⟩ := mA_none.mp z
    obtain ⟨k4, k5, k6⟩ := mA_none.mp k1
    have y1 : gMade b N (tE b N q) nm < D 1 := tn_some (md_none.mp (md_none.mp k4).1).2 hB
    obtain ⟨v1, v2, v3, v4⟩ := w1 z
    exact ⟨hW.made hT y1 v1 v2 v3, hC.same v4, hS.same (d74 g1) (by rw [uTn (by omega), uTn (by omega)])⟩
  · have hc : D 5 < 4 := by omega
    rw [lnF7 g hc] at nx ⊢
    obtain ⟨I1, J1, e1, r1, f1, g1, w1⟩ := C_band (n := n) h1 hW hT hc
    rw [g, if_neg (show ¬ nI 7 = 0 by decide), if_neg (show ¬ nI 7 = 1 by decide), if_neg (show ¬ nI 7 = 2 by decide), if_neg (show ¬ nI 7 = 3 by decide), if_neg (show ¬ nI 7 = 4 by decide), if_neg (show ¬ nI 7 = 5 by decide), if_neg (show ¬ nI 7 = 6 by decide), if_pos (show nI 7 = 7 from rfl), e1, obs]
    exact ln_end hN r1 (fun z => (nx z).2.1) (fun z => (nx z).1.1) f1 g1 (fun z => ⟨hW.band hT hc (w1 z), hC.same (w1 z).2.2.2, hS.same (d74 g1) (rwT_out (by omega) (by omega))⟩)
  · obtain ⟨w, hw, hw4⟩ : ∃ w, tG b N q = 8 + w ∧ w < 4 := ⟨tG b N q - 8, by omega, by omega⟩
    have hb := hu w hw
    rw [lnF8 hw4 hw hb] at nx ⊢
    obtain ⟨m, m1, m2, m3⟩ := id hC
    obtain ⟨I1, J1, e1, r1, f1, g1, w1⟩ := C_rule (n := n) h1 hw4 m2
    have no : ∀ k : Nat, k < 8 → ¬ nI (8 + w) = nI k := fun k hk => of_eq_false (eqF (by omega) (by omega) (by omega))
    rw [hw, if_neg (show ¬ nI (8 + w) = (0 : Int32) from no 0 (by decide)), if_neg (show ¬ nI (8 + w) = (1 : Int32) from no 1 (by decide)), if_neg (show ¬ nI (8 + w) = (2 : Int32) from no 2 (by decide)), if_neg (show ¬ nI (8 + w) = (3 : Int32) from no 3 (by decide)), if_neg (show ¬ nI (8 + w) = (4 : Int32) from no 4 (by decide)), if_neg (show ¬ nI (8 + w) = (5 : Int32) from no 5 (by decide)), if_neg (show ¬ nI (8 + w) = (6 : Int32) from no 6 (by decide)), if_neg (show ¬ nI (8 + w) = (7 : Int32) from no 7 (by decide)), e1, obs]
    refine ln_end hN r1 (fun z => (nx z).2.1) (fun z => (nx z).1.1) f1 g1 (fun z => ?_)
    obtain ⟨v1, v2, v3⟩ := w1 z
    refine ⟨hW.rule hT hw4 v1 v2, ⟨m ||| 2 ^ (8 + w), Nat.or_lt_two_pow m1 (Nat.pow_lt_pow_right (by decide) (by omega)), v3, fun w' hw' => ?_⟩, hS.same (d74 g1) (uTn (by omega))⟩
    rw [Nat.testBit_or, Nat.testBit_or, m3 w' hw', tb_2p, tb_2p]
    congr 1
    by_cases hww : w = w'
    · subst hww; simp
    · rw [decide_eq_false (by omega), decide_eq_false hww]
theorem C_line (hP : PI nm D) (h : CI b N q nm D u I J) : ∃ h', (∀ X : PH → Option (Int32 × PH), ((mX4_checkStart (mk n I J) 94 (ixW (tG b N q))).bind fun h73 => (gI 4 7 h73 94).bind fun v77 => if v77 = 0 then (mX4_readLine h73 94 (ixW (tG b N q))).bind X else X h73) = X h') ∧ LnC n b N I J (lnF b N q nm D u) h' := by
  rcases C_start (n := n) h hP.1 with ⟨f, er, e1, r1⟩ | ⟨hg, hf, hu, e1⟩
  · rw [er]
    have f1 := r1.2.2.1
    have f2 := r1.2.2.2
    refine ⟨_, fun X => ?_, u2 I 94 7 (nI f), J, rfl, r1, fun a c z => u2_no _ _ (by omega), Gw.refl _, fun z => by cases z⟩
    rw [e1, obs, mk_gI f_94_7, obs, u2_at, i_0, if_neg (of_eq_false (eqF (by omega) (by omega) (by omega)))]
  · obtain ⟨h', e2, hL⟩ := C_rl (n := n) hP h hg hf hu
    refine ⟨h', fun X => ?_, hL⟩
    have ex : ixW (tG b N q) = nI (tG b N q) := if_neg (by omega)
    rw [e1, obs, mk_gI f_94_7, obs, h.1.2.2.2.1, if_pos (show nI 0 = 0 from rfl), ex, e2, obs]
end RL
