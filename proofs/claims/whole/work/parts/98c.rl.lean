/-! ===== 98c: the reference's lines ===== -/
theorem NMok.add {b : Nat → Nat} {N q : Nat} {nm : NmL} (h : NMok nm) {s c : Nat} (hq : q ≤ N) (ok : okG b N q nm) (hs : s ≤ 3) (hc : c < 10) (hl : nm.length < 26) : NMok (nm ++ [(tW b N q, s, c)]) := by
  obtain ⟨hw, -, -⟩ := tK_word hq ok.1.1
  refine ⟨by rw [List.length_append]; simp only [List.length_cons, List.length_nil]; omega, fun x hx => ?_, fun i j x y hij hi hj => ?_⟩
  · rcases List.mem_append.mp hx with z | z
    · exact h.2.1 x z
    · rw [List.mem_singleton.mp z]; exact ⟨hw, hs, hc⟩
  · have hjl := (List.getElem?_eq_some_iff.mp hj).1
    rw [List.length_append] at hjl
    simp only [List.length_cons, List.length_nil] at hjl
    rw [List.getElem?_append_left (by omega)] at hi
    by_cases hj1 : j < nm.length
    · rw [List.getElem?_append_left hj1] at hj
      exact h.2.2 i j x y hij hi hj
    · rw [List.getElem?_append_right (by omega), show j - nm.length = 0 by omega] at hj
      simp only [List.getElem?_cons_zero, Option.some.injEq] at hj
      subst hj
      have hil : i < nm.length := by omega
      rw [List.getElem?_eq_getElem hil] at hi
      cases hi
      exact fnd_no _ nm ok.2 i hil
def RB (I : Nat → Nat → Int32) (u : Nat) : Prop := ∃ r, r < 2 ^ 10 ∧ I 224 22 = nI r ∧ ∀ w, w < 4 → r.testBit (6 + w) = u.testBit w
def Fr (I I' : Nat → Nat → Int32) : Prop := ∀ a c, ¬ (a = 224 ∧ ((10 ≤ c ∧ c ≤ 16) ∨ c = 20 ∨ c = 22)) → a ≠ 226 → a ≠ 232 → a ≠ 233 → I' a c = I a c
theorem Fr.refl (I : Nat → Nat → Int32) : Fr I I := fun _ _ _ _ _ _ => rfl
theorem Fr.trans {I I' I'' : Nat → Nat → Int32} (h : Fr I I') (h' : Fr I' I'') : Fr I I'' := fun a c z1 z2 z3 z4 => (h' a c z1 z2 z3 z4).trans (h a c z1 z2 z3 z4)
theorem Fq.fr {I I' : Nat → Nat → Int32} (h : Fq I I') : Fr I I' := fun a c z1 _ z3 z4 => h a c (by omega) z3 z4
theorem Fg.fr {I I' : Nat → Nat → Int32} (h : Fg I I') : Fr I I' := h.fq.fr
theorem Fr_d (I : Nat → Nat → Int32) (c : Nat) (x : Int32) : Fr I (u2 I 226 c x) := fun a d z1 z2 z3 z4 => u2_no _ _ (by omega)
theorem Fq.d {I I' : Nat → Nat → Int32} (h : Fq I I') : ∀ a c, a = 226 ∨ (a = 224 ∧ c = 22) → I' a c = I a c := fun a c z => h a c (by omega) (by omega) (by omega)
theorem Fg.d {I I' : Nat → Nat → Int32} (h : Fg I I') : ∀ a c, a = 226 ∨ (a = 224 ∧ c = 22) → I' a c = I a c := h.fq.d
def LnR (n : Nat) (b : Nat → Nat) (N : Nat) (I : Nat → Nat → Int32) (J : Nat → Nat → Int64) (r : Option Nat × Nat × NmL × (Nat → Nat) × Nat) (c : Option (Int32 × PH)) : Prop := ∃ I' J', Fr I I' ∧ Gq J J' ∧ ((r.1 = none ∧ c = some (nI 1, mk n I' J') ∧ RRd b N r.2.1 r.2.2.1 I' J' ∧ NR I' 226 0 r.2.2.2.1 ∧ RB I' r.2.2.2.2) ∨ (∃ f, r.1 = some f ∧ c = some (nI 0, mk n I' J') ∧ I' 224 15 = nI f))
section RX
variable {n : Nat} {b : Nat → Nat} {N q : Nat} {nm : NmL} {I I' : Nat → Nat → Int32} {J : Nat → Nat → Int64} {D : Nat → Nat} {u : Nat}
theorem NR.a {j : Nat} (h : NR I 226 0 D) (hj : j < 232) : I 226 j = nI (D j) := by
  have := h j hj
  rwa [Nat.zero_add] at this
theorem NR.row {cnt v base len : Nat} {R : Nat → Nat} (h : NR I 226 0 D) (h1 : I' 226 cnt = nI v) (h2 : ∀ i, i < len → I' 226 (base + i) = nI (R i)) (h3 : ∀ c, c ≠ cnt → c < base ∨ base + len ≤ c → I' 226 c = I 226 c) (hcb : cnt < base ∨ len = 0) : NR I' 226 0 (rwT D cnt v base len R) := by
  intro j hj
  rw [Nat.zero_add]
  by_cases hc : j = cnt
  · subst hc; rw [rwT_c]; exact h1
  · by_cases hb : j < base ∨ base + len ≤ j
    · rw [rwT_out hc hb, h3 j hc hb]; exact h.a hj
    · rw [show j = base + (j - base) by omega, rwT_in (by omega) (by omega)]
      exact h2 _ (by omega)
theorem RB.same (h : RB I u) (e : I' 224 22 = I 224 22) : RB I' u := by
  obtain ⟨m, m1, m2, m3⟩ := h
  exact ⟨m, m1, e.trans m2, m3⟩
theorem RRd.d (h : RRd b N q nm I J) (c : Nat) (x : Int32) : RRd b N q nm (u2 I 226 c x) J := h.keep (fun a d z => u2_no _ _ (by omega))
theorem R_aft (h : RRd b N q nm I J) {x lo hi : Nat} (hx : x < 30) (hh : hi ≤ 9999) (hlo : lo ≤ 10000) : (∃ I' J', mA b N none q x lo hi = none ∧ mX10_after (mk n I J) 224 (lN (enc 32 (gramW.getD x []))) (nI lo) (nI hi) = some (nI 1, mk n I' J') ∧ RRd b N (q2 b N q) nm I' J' ∧ I' 224 16 = nI (tV b N (tE b N q)) ∧ Fq I I' ∧ Gq J J') ∨ (∃ f I' J', mA b N none q x lo hi = some f ∧ mX10_after (mk n I J) 224 (lN (enc 32 (gramW.getD x []))) (nI lo) (nI hi) = some (nI 0, mk n I' J') ∧ I' 224 15 = nI f ∧ Fq I I' ∧ Gq J J') := by
  by_cases ok : okA b N q x lo hi
  · obtain ⟨I', J', e, r, v, f, g⟩ := R_after (n := n) h hx hh ok
    exact Or.inl ⟨I', J', mA_none.mpr ⟨rfl, ok⟩, e, r, v, f, g⟩
  · obtain ⟨I', J', e, v, f, g⟩ := R_afterF (n := n) h hx hh hlo ok
    refine Or.inr ⟨_, I', J', ?_, e, v, f, g⟩
    unfold mA ftA
    by_cases hG : tG b N q = x
    · rw [md_ok hG, if_pos hG]
      exact md_no (fun z => ok ⟨hG, z⟩)
    · rw [md_no hG, if_neg hG]
      rfl
theorem R_nam (h : RRd b N q nm I J) {s c : Nat} (hs : s ≤ 3) (hc : c < 10) (h226 : I 226 s = nI c) (hl : nm.length < 26) : (∃ I' J', md none (okG b N q nm) (ftG b N q) = none ∧ mX10_name (mk n I J) 224 (nI s) = some (nI 1, mk n I' J') ∧ RRd b N (tE b N q) (nm ++ [(tW b N q, s, c)]) I' J' ∧ Fq I I' ∧ Gq J J') ∨ (∃ f I' J', md none (okG b N q nm) (ftG b N q) = some f ∧ mX10_name (mk n I J) 224 (nI s) = some (nI 0, mk n I' J') ∧ I' 224 15 = nI f ∧ Fq I I' ∧ Gq J J') := by
  by_cases ok : okG b N q nm
  · obtain ⟨I', J', e, r, f, g⟩ := R_name (n := n) h hs hc h226 ok.1 ok.2 hl (h.2.2.2.2.2.add h.2.1 ok hs hc hl)
    exact Or.inl ⟨I', J', md_ok ok, e, r, f, g⟩
  · exact Or.inr ⟨_, _, J, md_no ok, R_nameF h ok, u2_at _ _ _ _, Fq_u _ _ (by omega), Gq.refl _⟩
theorem R_knw (h : RRd b N q nm I J) {s : Nat} (hs : s ≤ 3) : (∃ c I' J', tnQ b N q nm s = some c ∧ mX10_known (mk n I J) 224 (nI s) = some (nI 1, mk n I' J') ∧ RRd b N (tE b N q) nm I' J' ∧ I' 224 16 = nI c ∧ Fq I I' ∧ Gq J J') ∨ (∃ I' J', tnQ b N q nm s = none ∧ mX10_known (mk n I J) 224 (nI s) = some (nI 0, mk n I' J') ∧ I' 224 15 = nI (ftT b N q) ∧ Fq I I' ∧ Gq J J') := by
  cases ht : tnQ b N q nm s with
  | some c =>
    obtain ⟨I', J', e, r, v, f, g⟩ := R_known (n := n) h hs (tnQ_isT.mp ht)
    exact Or.inl ⟨c, I', J', rfl, e, r, v, f, g⟩
  | none => exact Or.inr ⟨_, J, rfl, R_knownF h hs (fun ⟨c, z⟩ => by rw [tnQ_isT.mpr z] at ht; cases ht), u2_at _ _ _ _, Fq_u _ _ (by omega), Gq.refl _⟩
theorem R_ish (h : RRd b N q nm I J) {s : Nat} (hs : s ≤ 3) : (∃ c, tnQ b N q nm s = some c ∧ mX10_isHere (mk n I J) 224 (nI s) = some (nI 1, mk n (u2 I 224 16 (nI c)) J) ∧ RRd b N q nm (u2 I 224 16 (nI c)) J ∧ tK b N q = 1) ∨ (tnQ b N q nm s = none ∧ mX10_isHere (mk n I J) 224 (nI s) = some (nI 0, mk n (u2 I 224 15 (nI (ftT b N q))) J)) := by
  cases ht : tnQ b N q nm s with
  | some c => exact Or.inl ⟨c, rfl, R_isHere h hs (tnQ_isT.mp ht), h.got _, (tnQ_isT.mp ht).1.1⟩
  | none => exact Or.inr ⟨rfl, R_isHereF h hs (fun ⟨c, z⟩ => by rw [tnQ_isT.mpr z] at ht; cases ht)⟩
/-- the start of a line -/
theorem R_begins (h : RRd b N q nm I J) (hN : NR I 226 0 D) {k m : Nat} (hk : k < 12) (hm : m < 100) (hD : D k ≤ 9999) (hG : tG b N q ≠ 30) : (D k = m ∧ mX10_begins (mk n I J) 224 (nI k) (nI m) = some (nI 0, mk n (u2 I 224 15 (nI (8 * tP b N q + 5))) J)) ∨ (D k ≠ m ∧ ∃ I' J', mX10_begins (mk n I J) 224 (nI k) (nI m) = some (nI 1, mk n I' J') ∧ RRd b N (tE b N q) nm I' J' ∧ Fg I I' ∧ Gg J J') := by
  have hv := hN.a (j := k) (by omega)
  have hK := (tG_pro h.2.1 hG).1
  unfold mX10_begins
  by_cases hc : D k = m
  · refine Or.inl ⟨hc, ?_⟩
    rw [hc] at hv
    simp (disch := omega) only [mk_oO o_224, mk_gI f_224_0, mk_pI f_224_0, mk_gR f_224_1, mk_gR f_224_2, mk_gR f_224_3, mk_gR f_224_4, mk_gR f_224_5, mk_gI f_224_6, mk_pI f_224_6, mk_gR f_224_7, mk_gI f_224_8, mk_pI f_224_8, mk_gI f_224_9, mk_pI f_224_9, mk_gI f_224_10, mk_pI f_224_10, mk_gI f_224_11, mk_pI f_224_11, mk_gI f_224_12, mk_pI f_224_12, mk_gI f_224_13, mk_pI f_224_13, mk_gL f_224_14, mk_pL f_224_14, mk_gI f_224_15, mk_pI f_224_15, mk_gI f_224_16, mk_pI f_224_16, mk_gR f_224_17, mk_gR f_224_18, mk_gR f_224_19, mk_gI f_224_20, mk_pI f_224_20, mk_gR f_224_21, mk_gI f_224_22, mk_pI f_224_22, mk_gI f_224_23, mk_pI f_224_23, mk_gI f_224_24, mk_pI f_224_24, mk_gI f_224_25, mk_pI f_224_25, mk_gR f_224_26, mk_gI f_224_27, mk_pI f_224_27, mk_gI f_224_28, mk_pI f_224_28, mk_gR f_224_29, mk_gI f_224_30, mk_pI f_224_30, mk_gI f_224_31, mk_pI f_224_31, mk_gR f_224_32, mk_gI f_224_33, mk_pI f_224_33, ↓m_1, ↓m_2, i_0, i_1, i_2, i_3, i_4, i_6, i_5, i_12, i_11, i_10, i_9999, i_7, i_9, i_8, i_24, i_100, i_56, i_48, i_13, i_176, i_232, i_224, i_32, i_999, i_99, i_900, i_97, i_90, i_30, i_20, i_59, i_14, i_50, i_29, i_22, i_19, i_18, i_17, i_96, i_61, i_57, i_51, i_41, i_26, i_2552, i_255, i_25, i_23, i_21, i_16, i_15, i_122, i_10000, i_31, dzF, obs, b2_some, rz0, rz1, rzb, n01, n01', n10, n01e, nI_add, nI_mul, ↓reduceIte, not_false_eq_true, not_true_eq_false, ite_not, mk_aIn a_226, hv, R_bad h]
  · refine Or.inr ⟨hc, ?_⟩
    obtain ⟨I', J', e, r, f, g⟩ := R_step (n := n) h (by omega)
    refine ⟨I', J', ?_, r, f, g⟩
    simp (disch := omega) only [mk_oO o_224, mk_gI f_224_0, mk_pI f_224_0, mk_gR f_224_1, mk_gR f_224_2, mk_gR f_224_3, mk_gR f_224_4, mk_gR f_224_5, mk_gI f_224_6, mk_pI f_224_6, mk_gR f_224_7, mk_gI f_224_8, mk_pI f_224_8, mk_gI f_224_9, mk_pI f_224_9, mk_gI f_224_10, mk_pI f_224_10, mk_gI f_224_11, mk_pI f_224_11, mk_gI f_224_12, mk_pI f_224_12, mk_gI f_224_13, mk_pI f_224_13, mk_gL f_224_14, mk_pL f_224_14, mk_gI f_224_15, mk_pI f_224_15, mk_gI f_224_16, mk_pI f_224_16, mk_gR f_224_17, mk_gR f_224_18, mk_gR f_224_19, mk_gI f_224_20, mk_pI f_224_20, mk_gR f_224_21, mk_gI f_224_22, mk_pI f_224_22, mk_gI f_224_23, mk_pI f_224_23, mk_gI f_224_24, mk_pI f_224_24, mk_gI f_224_25, mk_pI f_224_25, mk_gR f_224_26, mk_gI f_224_27, mk_pI f_224_27, mk_gI f_224_28, mk_pI f_224_28, mk_gR f_224_29, mk_gI f_224_30, mk_pI f_224_30, mk_gI f_224_31, mk_pI f_224_31, mk_gR f_224_32, mk_gI f_224_33, mk_pI f_224_33, ↓m_1, ↓m_2, i_0, i_1, i_2, i_3, i_4, i_6, i_5, i_12, i_11, i_10, i_9999, i_7, i_9, i_8, i_24, i_100, i_56, i_48, i_13, i_176, i_232, i_224, i_32, i_999, i_99, i_900, i_97, i_90, i_30, i_20, i_59, i_14, i_50, i_29, i_22, i_19, i_18, i_17, i_96, i_61, i_57, i_51, i_41, i_26, i_2552, i_255, i_25, i_23, i_21, i_16, i_15, i_122, i_10000, i_31, dzF, obs, b2_some, rz0, rz1, rzb, n01, n01', n10, n01e, nI_add, nI_mul, ↓reduceIte, not_false_eq_true, not_true_eq_false, ite_not, mk_aIn a_226, hv, eqF, e]
theorem LnR.no {r : Option Nat × Nat × NmL × (Nat → Nat) × Nat} {c : Option (Int32 × PH)} {J' : Nat → Nat → Int64} (f : Nat) (h1 : r.1 = some f) (h2 : c = some (nI 0, mk n I' J')) (h3 : I' 224 15 = nI f) (h4 : Fr I I') (h5 : Gq J J') : LnR n b N I J r c := ⟨I', J', h4, h5, Or.inr ⟨f, h1, h2, h3⟩⟩
theorem LnR.yes {r : Option Nat × Nat × NmL × (Nat → Nat) × Nat} {c : Option (Int32 × PH)} {J' : Nat → Nat → Int64} (h1 : r.1 = none) (h2 : c = some (nI 1, mk n I' J')) (h3 : RRd b N r.2.1 r.2.2.1 I' J') (h6 : NR I' 226 0 r.2.2.2.1) (h7 : RB I' r.2.2.2.2) (h4 : Fr I I') (h5 : Gq J J') : LnR n b N I J r c := ⟨I', J', h4, h5, Or.inl ⟨h1, h2, h3, h6, h7⟩⟩
theorem RLparty (h : RRd b N q nm I J) (hN : NR I 226 0 D) (hU : RB I u) (hP : PI nm D) (hg : tG b N q = 0) : LnR n b N I J (lnF b N q nm D u) (mX10_partyLine (mk n I J) 224) := by
  have b0 := hP.1.1
  unfold mX10_partyLine
  rcases R_begins (n := n) h hN (k := 0) (m := 6) (by decide) (by decide) (hP.1.2.2.2.2.2.2.2.2.2 0) (by omega) with ⟨hc, e⟩ | ⟨hc, I1, J1, e1, r1, f1, g1⟩
  · exact LnR.no _ (by rw [lnF0f hg (by omega)]) (by simp only [mk_oO o_224, mk_gI f_224_0, mk_pI f_224_0, mk_gR f_224_1, mk_gR f_224_2, mk_gR f_224_3, mk_gR f_224_4, mk_gR f_224_5, mk_gI f_224_6, mk_pI f_224_6, mk_gR f_224_7, mk_gI f_224_8, mk_pI f_224_8, mk_gI f_224_9, mk_pI f_224_9, mk_gI f_224_10, mk_pI f_224_10, mk_gI f_224_11, mk_pI f_224_11, mk_gI f_224_12, mk_pI f_224_12, mk_gI f_224_13, mk_pI f_224_13, mk_gL f_224_14, mk_pL f_224_14, mk_gI f_224_15, mk_pI f_224_15, mk_gI f_224_16, mk_pI f_224_16, mk_gR f_224_17, mk_gR f_224_18, mk_gR f_224_19, mk_gI f_224_20, mk_pI f_224_20, mk_gR f_224_21, mk_gI f_224_22, mk_pI f_224_22, mk_gI f_224_23, mk_pI f_224_23, mk_gI f_224_24, mk_pI f_224_24, mk_gI f_224_25, mk_pI f_224_25, mk_gR f_224_26, mk_gI f_224_27, mk_pI f_224_27, mk_gI f_224_28, mk_pI f_224_28, mk_gR f_224_29, mk_gI f_224_30, mk_pI f_224_30, mk_gI f_224_31, mk_pI f_224_31, mk_gR f_224_32, mk_gI f_224_33, mk_pI f_224_33, ↓m_1, ↓m_2, i_0, i_1, i_2, i_3, i_4, i_6, i_5, i_12, i_11, i_10, i_9999, i_7, i_9, i_8, i_24, i_100, i_56, i_48, i_13, i_176, i_232, i_224, i_32, i_999, i_99, i_900, i_97, i_90, i_30, i_20, i_59, i_14, i_50, i_29, i_22, i_19, i_18, i_17, i_96, i_61, i_57, i_51, i_41, i_26, i_2552, i_255, i_25, i_23, i_21, i_16, i_15, i_122, i_10000, i_31, dzF, obs, b2_some, rz0, rz1, rzb, n01, n01', n10, n01e, nI_add, nI_mul, ↓reduceIte, not_false_eq_true, not_true_eq_false, ite_not, e]) (u2_at _ _ _ _) (Fq_u _ _ (by omega)).fr (Gq.refl _)
  · rw [lnF0 hg (by omega)]
    have v1 : I1 226 0 = nI (D 0) := by rw [f1.d _ _ (by omega)]; exact hN.a (by decide)
    rcases R_nam (n := n) r1 (s := 0) (c := D 0) (by decide) (by omega) v1 (hP.len (by omega)) with ⟨I2, J2, m2, e2, r2, f2, g2⟩ | ⟨f, I2, J2, m2, e2, v2, f2, g2⟩
    · have w2 : I2 226 0 = nI (D 0) := by rw [f2.d _ _ (by omega)]; exact v1
      refine LnR.yes (I' := u2 I2 226 0 (nI (D 0 + 1))) (J' := J2) m2 ?_ (r2.d _ _) ?_ (hU.same ?_) ((f1.fr.trans f2.fr).trans (Fr_d _ _ _)) (g1.gq.trans g2)
      · simp (disch := omega) only [mk_oO o_224, mk_gI f_224_0, mk_pI f_224_0, mk_gR f_224_1, mk_gR f_224_2, mk_gR f_224_3, mk_gR f_224_4, mk_gR f_224_5, mk_gI f_224_6, mk_pI f_224_6, mk_gR f_224_7, mk_gI f_224_8, mk_pI f_224_8, mk_gI f_224_9, mk_pI f_224_9, mk_gI f_224_10, mk_pI f_224_10, mk_gI f_224_11, mk_pI f_224_11, mk_gI f_224_12, mk_pI f_224_12, mk_gI f_224_13, mk_pI f_224_13, mk_gL f_224_14, mk_pL f_224_14, mk_gI f_224_15, mk_pI f_224_15, mk_gI f_224_16, mk_pI f_224_16, mk_gR f_224_17, mk_gR f_224_18, mk_gR f_224_19, mk_gI f_224_20, mk_pI f_224_20, mk_gR f_224_21, mk_gI f_224_22, mk_pI f_224_22, mk_gI f_224_23, mk_pI f_224_23, mk_gI f_224_24, mk_pI f_224_24, mk_gI f_224_25, mk_pI f_224_25, mk_gR f_224_26, mk_gI f_224_27, mk_pI f_224_27, mk_gI f_224_28, mk_pI f_224_28, mk_gR f_224_29, mk_gI f_224_30, mk_pI f_224_30, mk_gI f_224_31, mk_pI f_224_31, mk_gR f_224_32, mk_gI f_224_33, mk_pI f_224_33, ↓m_1, ↓m_2, i_0, i_1, i_2, i_3, i_4, i_6, i_5, i_12, i_11, i_10, i_9999, i_7, i_9, i_8, i_24, i_100, i_56, i_48, i_13, i_176, i_232, i_224, i_32, i_999, i_99, i_900, i_97, i_90, i_30, i_20, i_59, i_14, i_50, i_29, i_22, i_19, i_18, i_17, i_96, i_61, i_57, i_51, i_41, i_26, i_2552, i_255, i_25, i_23, i_21, i_16, i_15, i_122, i_10000, i_31, dzF, obs, b2_some, rz0, rz1, rzb, n01, n01', n10, n01e, nI_add, nI_mul, ↓reduceIte, not_false_eq_true, not_true_eq_false, ite_not, e1, e2, mk_aIn a_226, w2, mk_sIn a_226]
      · refine hN.row (u2_at _ _ _ _) (fun i hi => by omega) (fun c z1 z2 => ?_) (Or.inr rfl)
        rw [u2_no _ _ (by omega), f2.d _ _ (by omega), f1.d _ _ (by omega)]
      · rw [u2_no _ _ (by omega), f2.d _ _ (by omega), f1.d _ _ (by omega)]
    · exact LnR.no f m2 (by simp only [mk_oO o_224, mk_gI f_224_0, mk_pI f_224_0, mk_gR f_224_1, mk_gR f_224_2, mk_gR f_224_3, mk_gR f_224_4, mk_gR f_224_5, mk_gI f_224_6, mk_pI f_224_6, mk_gR f_224_7, mk_gI f_224_8, mk_pI f_224_8, mk_gI f_224_9, mk_pI f_224_9, mk_gI f_224_10, mk_pI f_224_10, mk_gI f_224_11, mk_pI f_224_11, mk_gI f_224_12, mk_pI f_224_12, mk_gI f_224_13, mk_pI f_224_13, mk_gL f_224_14, mk_pL f_224_14, mk_gI f_224_15, mk_pI f_224_15, mk_gI f_224_16, mk_pI f_224_16, mk_gR f_224_17, mk_gR f_224_18, mk_gR f_224_19, mk_gI f_224_20, mk_pI f_224_20, mk_gR f_224_21, mk_gI f_224_22, mk_pI f_224_22, mk_gI f_224_23, mk_pI f_224_23, mk_gI f_224_24, mk_pI f_224_24, mk_gI f_224_25, mk_pI f_224_25, mk_gR f_224_26, mk_gI f_224_27, mk_pI f_224_27, mk_gI f_224_28, mk_pI f_224_28, mk_gR f_224_29, mk_gI f_224_30, mk_pI f_224_30, mk_gI f_224_31, mk_pI f_224_31, mk_gR f_224_32, mk_gI f_224_33, mk_pI f_224_33, ↓m_1, ↓m_2, i_0, i_1, i_2, i_3, i_4, i_6, i_5, i_12, i_11, i_10, i_9999, i_7, i_9, i_8, i_24, i_100, i_56, i_48, i_13, i_176, i_232, i_224, i_32, i_999, i_99, i_900, i_97, i_90, i_30, i_20, i_59, i_14, i_50, i_29, i_22, i_19, i_18, i_17, i_96, i_61, i_57, i_51, i_41, i_26, i_2552, i_255, i_25, i_23, i_21, i_16, i_15, i_122, i_10000, i_31, dzF, obs, b2_some, rz0, rz1, rzb, n01, n01', n10, n01e, nI_add, nI_mul, ↓reduceIte, not_false_eq_true, not_true_eq_false, ite_not, e1, e2]) v2 (f1.fr.trans f2.fr) (g1.gq.trans g2)
theorem RLgood (h : RRd b N q nm I J) (hN : NR I 226 0 D) (hU : RB I u) (hP : PI nm D) (hg : tG b N q = 2) : LnR n b N I J (lnF b N q nm D u) (mX10_goodLine (mk n I J) 224) := by
  have b0 := hP.1.1
  unfold mX10_goodLine
  rcases R_begins (n := n) h hN (k := 1) (m := 6) (by decide) (by decide) (hP.1.2.2.2.2.2.2.2.2.2 1) (by omega) with ⟨hc, e⟩ | ⟨hc, I1, J1, e1, r1, f1, g1⟩
  · exact LnR.no _ (by rw [lnF2f hg (by omega)]) (by simp only [mk_oO o_224, mk_gI f_224_0, mk_pI f_224_0, mk_gR f_224_1, mk_gR f_224_2, mk_gR f_224_3, mk_gR f_224_4, mk_gR f_224_5, mk_gI f_224_6, mk_pI f_224_6, mk_gR f_224_7, mk_gI f_224_8, mk_pI f_224_8, mk_gI f_224_9, mk_pI f_224_9, mk_gI f_224_10, mk_pI f_224_10, mk_gI f_224_11, mk_pI f_224_11, mk_gI f_224_12, mk_pI f_224_12, mk_gI f_224_13, mk_pI f_224_13, mk_gL f_224_14, mk_pL f_224_14, mk_gI f_224_15, mk_pI f_224_15, mk_gI f_224_16, mk_pI f_224_16, mk_gR f_224_17, mk_gR f_224_18, mk_gR f_224_19, mk_gI f_224_20, mk_pI f_224_20, mk_gR f_224_21, mk_gI f_224_22, mk_pI f_224_22, mk_gI f_224_23, mk_pI f_224_23, mk_gI f_224_24, mk_pI f_224_24, mk_gI f_224_25, mk_pI f_224_25, mk_gR f_224_26, mk_gI f_224_27, mk_pI f_224_27, mk_gI f_224_28, mk_pI f_224_28, mk_gR f_224_29, mk_gI f_224_30, mk_pI f_224_30, mk_gI f_224_31, mk_pI f_224_31, mk_gR f_224_32, mk_gI f_224_33, mk_pI f_224_33, ↓m_1, ↓m_2, i_0, i_1, i_2, i_3, i_4, i_6, i_5, i_12, i_11, i_10, i_9999, i_7, i_9, i_8, i_24, i_100, i_56, i_48, i_13, i_176, i_232, i_224, i_32, i_999, i_99, i_900, i_97, i_90, i_30, i_20, i_59, i_14, i_50, i_29, i_22, i_19, i_18, i_17, i_96, i_61, i_57, i_51, i_41, i_26, i_2552, i_255, i_25, i_23, i_21, i_16, i_15, i_122, i_10000, i_31, dzF, obs, b2_some, rz0, rz1, rzb, n01, n01', n10, n01e, nI_add, nI_mul, ↓reduceIte, not_false_eq_true, not_true_eq_false, ite_not, e]) (u2_at _ _ _ _) (Fq_u _ _ (by omega)).fr (Gq.refl _)
  · rw [lnF2 hg (by omega)]
    have v1 : I1 226 1 = nI (D 1) := by rw [f1.d _ _ (by omega)]; exact hN.a (by decide)
    rcases R_nam (n := n) r1 (s := 1) (c := D 1) (by decide) (by omega) v1 (hP.len (by omega)) with ⟨I2, J2, m2, e2, r2, f2, g2⟩ | ⟨f, I2, J2, m2, e2, v2, f2, g2⟩
    rotate_left
    · exact LnR.no f (by unfold oGood; rw [m2]; rfl) (by simp only [mk_oO o_224, mk_gI f_224_0, mk_pI f_224_0, mk_gR f_224_1, mk_gR f_224_2, mk_gR f_224_3, mk_gR f_224_4, mk_gR f_224_5, mk_gI f_224_6, mk_pI f_224_6, mk_gR f_224_7, mk_gI f_224_8, mk_pI f_224_8, mk_gI f_224_9, mk_pI f_224_9, mk_gI f_224_10, mk_pI f_224_10, mk_gI f_224_11, mk_pI f_224_11, mk_gI f_224_12, mk_pI f_224_12, mk_gI f_224_13, mk_pI f_224_13, mk_gL f_224_14, mk_pL f_224_14, mk_gI f_224_15, mk_pI f_224_15, mk_gI f_224_16, mk_pI f_224_16, mk_gR f_224_17, mk_gR f_224_18, mk_gR f_224_19, mk_gI f_224_20, mk_pI f_224_20, mk_gR f_224_21, mk_gI f_224_22, mk_pI f_224_22, mk_gI f_224_23, mk_pI f_224_23, mk_gI f_224_24, mk_pI f_224_24, mk_gI f_224_25, mk_pI f_224_25, mk_gR f_224_26, mk_gI f_224_27, mk_pI f_224_27, mk_gI f_224_28, mk_pI f_224_28, mk_gR f_224_29, mk_gI f_224_30, mk_pI f_224_30, mk_gI f_224_31, mk_pI f_224_31, mk_gR f_224_32, mk_gI f_224_33, mk_pI f_224_33, ↓m_1, ↓m_2, i_0, i_1, i_2, i_3, i_4, i_6, i_5, i_12, i_11, i_10, i_9999, i_7, i_9, i_8, i_24, i_100, i_56, i_48, i_13, i_176, i_232, i_224, i_32, i_999, i_99, i_900, i_97, i_90, i_30, i_20, i_59, i_14, i_50, i_29, i_22, i_19, i_18, i_17, i_96, i_61, i_57, i_51, i_41, i_26, i_2552, i_255, i_25, i_23, i_21, i_16, i_15, i_122, i_10000, i_31, dzF, obs, b2_some, rz0, rz1, rzb, n01, n01', n10, n01e, nI_add, nI_mul, ↓reduceIte, not_false_eq_true, not_true_eq_false, ite_not, e1, e2]) v2 (f1.fr.trans f2.fr) (g1.gq.trans g2)
    have w2 : I2 226 1 = nI (D 1) := by rw [f2.d _ _ (by omega)]; exact v1
    rcases R_aft (n := n) r2 (x := 12) (lo := 0) (hi := 9) (by decide) (by decide) (by decide) with ⟨I3, J3, m3, e3, r3, v3, f3, g3⟩ | ⟨f, I3, J3, m3, e3, v3, f3, g3⟩
    rotate_left
    · change mX10_after _ _ (lN 7945904) _ _ = _ at e3
      exact LnR.no f (by unfold oGood; rw [m2, m3]; rfl) (by simp (disch := omega) only [mk_oO o_224, mk_gI f_224_0, mk_pI f_224_0, mk_gR f_224_1, mk_gR f_224_2, mk_gR f_224_3, mk_gR f_224_4, mk_gR f_224_5, mk_gI f_224_6, mk_pI f_224_6, mk_gR f_224_7, mk_gI f_224_8, mk_pI f_224_8, mk_gI f_224_9, mk_pI f_224_9, mk_gI f_224_10, mk_pI f_224_10, mk_gI f_224_11, mk_pI f_224_11, mk_gI f_224_12, mk_pI f_224_12, mk_gI f_224_13, mk_pI f_224_13, mk_gL f_224_14, mk_pL f_224_14, mk_gI f_224_15, mk_pI f_224_15, mk_gI f_224_16, mk_pI f_224_16, mk_gR f_224_17, mk_gR f_224_18, mk_gR f_224_19, mk_gI f_224_20, mk_pI f_224_20, mk_gR f_224_21, mk_gI f_224_22, mk_pI f_224_22, mk_gI f_224_23, mk_pI f_224_23, mk_gI f_224_24, mk_pI f_224_24, mk_gI f_224_25, mk_pI f_224_25, mk_gR f_224_26, mk_gI f_224_27, mk_pI f_224_27, mk_gI f_224_28, mk_pI f_224_28, mk_gR f_224_29, mk_gI f_224_30, mk_pI f_224_30, mk_gI f_224_31, mk_pI f_224_31, mk_gR f_224_32, mk_gI f_224_33, mk_pI f_224_33, ↓m_1, ↓m_2, i_0, i_1, i_2, i_3, i_4, i_6, i_5, i_12, i_11, i_10, i_9999, i_7, i_9, i_8, i_24, i_100, i_56, i_48, i_13, i_176, i_232, i_224, i_32, i_999, i_99, i_900, i_97, i_90, i_30, i_20, i_59, i_14, i_50, i_29, i_22, i_19, i_18, i_17, i_96, i_61, i_57, i_51, i_41, i_26, i_2552, i_255, i_25, i_23, i_21, i_16, i_15, i_122, i_10000, i_31, ↓k_1, ↓k_2, l_0, l_1, l_10, l_100, l_27, l_9999, l_89, l_6, l_97, l_57, l_48, l_31, l_3, l_2, l_122, l_999, l_96, l_90, l_51, l_50, l_32, l_12, l_24627848, l_7945904, l_781652471, l_707763, l_7051975956, l_67012, l_6605428, l_6309, l_624005, l_609860996, l_556243252, l_546475187, l_54109812, l_463922, l_437853486, l_427141, l_4153, l_398963, l_394692, l_2610628, l_245220, l_215533, l_19856929433, l_17376357, l_17216939463, l_16829081, l_153241, l_11566, l_114292, l_6333843, l_387420489, l_1000000000000000000, dzF, obs, b2_some, rz0, rz1, rzb, n01, n01', n10, n01e, nI_add, nI_mul, ↓reduceIte, not_false_eq_true, not_true_eq_false, ite_not, e1, e2, mk_aIn a_226, w2, e3]) v3 ((f1.fr.trans f2.fr).trans f3.fr) ((g1.gq.trans g2).trans g3)
    change mX10_after _ _ (lN 7945904) _ _ = _ at e3
    rcases R_aft (n := n) (r3.d (24 + 4 * D 1 + 0) (nI (tV b N (tE b N (tE b N (tE b N q)))))) (x := 13) (lo := 0) (hi := 9) (by decide) (by decide) (by decide) with ⟨I4, J4, m4, e4, r4, v4, f4, g4⟩ | ⟨f, I4, J4, m4, e4, v4, f4, g4⟩
    rotate_left
    · change mX10_after _ _ (lN 394692) _ _ = _ at e4
      exact LnR.no f (by unfold oGood; rw [m2, m3, m4]) (by simp (disch := omega) only [mk_oO o_224, mk_gI f_224_0, mk_pI f_224_0, mk_gR f_224_1, mk_gR f_224_2, mk_gR f_224_3, mk_gR f_224_4, mk_gR f_224_5, mk_gI f_224_6, mk_pI f_224_6, mk_gR f_224_7, mk_gI f_224_8, mk_pI f_224_8, mk_gI f_224_9, mk_pI f_224_9, mk_gI f_224_10, mk_pI f_224_10, mk_gI f_224_11, mk_pI f_224_11, mk_gI f_224_12, mk_pI f_224_12, mk_gI f_224_13, mk_pI f_224_13, mk_gL f_224_14, mk_pL f_224_14, mk_gI f_224_15, mk_pI f_224_15, mk_gI f_224_16, mk_pI f_224_16, mk_gR f_224_17, mk_gR f_224_18, mk_gR f_224_19, mk_gI f_224_20, mk_pI f_224_20, mk_gR f_224_21, mk_gI f_224_22, mk_pI f_224_22, mk_gI f_224_23, mk_pI f_224_23, mk_gI f_224_24, mk_pI f_224_24, mk_gI f_224_25, mk_pI f_224_25, mk_gR f_224_26, mk_gI f_224_27, mk_pI f_224_27, mk_gI f_224_28, mk_pI f_224_28, mk_gR f_224_29, mk_gI f_224_30, mk_pI f_224_30, mk_gI f_224_31, mk_pI f_224_31, mk_gR f_224_32, mk_gI f_224_33, mk_pI f_224_33, ↓m_1, ↓m_2, i_0, i_1, i_2, i_3, i_4, i_6, i_5, i_12, i_11, i_10, i_9999, i_7, i_9, i_8, i_24, i_100, i_56, i_48, i_13, i_176, i_232, i_224, i_32, i_999, i_99, i_900, i_97, i_90, i_30, i_20, i_59, i_14, i_50, i_29, i_22, i_19, i_18, i_17, i_96, i_61, i_57, i_51, i_41, i_26, i_2552, i_255, i_25, i_23, i_21, i_16, i_15, i_122, i_10000, i_31, ↓k_1, ↓k_2, l_0, l_1, l_10, l_100, l_27, l_9999, l_89, l_6, l_97, l_57, l_48, l_31, l_3, l_2, l_122, l_999, l_96, l_90, l_51, l_50, l_32, l_12, l_24627848, l_7945904, l_781652471, l_707763, l_7051975956, l_67012, l_6605428, l_6309, l_624005, l_609860996, l_556243252, l_546475187, l_54109812, l_463922, l_437853486, l_427141, l_4153, l_398963, l_394692, l_2610628, l_245220, l_215533, l_19856929433, l_17376357, l_17216939463, l_16829081, l_153241, l_11566, l_114292, l_6333843, l_387420489, l_1000000000000000000, dzF, obs, b2_some, rz0, rz1, rzb, n01, n01', n10, n01e, nI_add, nI_mul, ↓reduceIte, not_false_eq_true, not_true_eq_false, ite_not, e1, e2, mk_aIn a_226, w2, e3, v3, mk_sIn a_226, e4]) v4 ((((f1.fr.trans f2.fr).trans f3.fr).trans (Fr_d _ _ _)).trans f4.fr) (((g1.gq.trans g2).trans g3).trans g4)
    change mX10_after _ _ (lN 394692) _ _ = _ at e4
    have z4 : ∀ c, c ≠ 24 + 4 * D 1 → I4 226 c = nI (D c) ∨ 232 ≤ c := fun c hc' => by
      by_cases h232 : c < 232
      · left
        rw [f4.d _ _ (by omega), u2_no _ _ (by omega), f3.d _ _ (by omega), f2.d _ _ (by omega), f1.d _ _ (by omega)]
        exact hN.a h232
      · right; omega
    have w4 : u2 I4 226 (24 + 4 * D 1 + 1) (nI (tV b N (tE b N (q2 b N (tE b N (tE b N q)))))) 226 1 = nI (D 1) := by
      rw [u2_no _ _ (by omega)]
      rcases z4 1 (by omega) with z | z
      · exact z
      · omega
    refine LnR.yes (I' := u2 (u2 I4 226 (24 + 4 * D 1 + 1) (nI (tV b N (tE b N (q2 b N (tE b N (tE b N q))))))) 226 1 (nI (D 1 + 1))) (J' := J4) (by show oGood b N (tE b N q) nm = none; unfold oGood; rw [m2, m3, m4]) ?_ ((r4.d _ _).d _ _) ?_ (hU.same ?_) ((((((f1.fr.trans f2.fr).trans f3.fr).trans (Fr_d _ _ _)).trans f4.fr).trans (Fr_d _ _ _)).trans (Fr_d _ _ _)) (((g1.gq.trans g2).trans g3).trans g4)
    · simp (disch := omega) only [mk_oO o_224, mk_gI f_224_0, mk_pI f_224_0, mk_gR f_224_1, mk_gR f_224_2, mk_gR f_224_3, mk_gR f_224_4, mk_gR f_224_5, mk_gI f_224_6, mk_pI f_224_6, mk_gR f_224_7, mk_gI f_224_8, mk_pI f_224_8, mk_gI f_224_9, mk_pI f_224_9, mk_gI f_224_10, mk_pI f_224_10, mk_gI f_224_11, mk_pI f_224_11, mk_gI f_224_12, mk_pI f_224_12, mk_gI f_224_13, mk_pI f_224_13, mk_gL f_224_14, mk_pL f_224_14, mk_gI f_224_15, mk_pI f_224_15, mk_gI f_224_16, mk_pI f_224_16, mk_gR f_224_17, mk_gR f_224_18, mk_gR f_224_19, mk_gI f_224_20, mk_pI f_224_20, mk_gR f_224_21, mk_gI f_224_22, mk_pI f_224_22, mk_gI f_224_23, mk_pI f_224_23, mk_gI f_224_24, mk_pI f_224_24, mk_gI f_224_25, mk_pI f_224_25, mk_gR f_224_26, mk_gI f_224_27, mk_pI f_224_27, mk_gI f_224_28, mk_pI f_224_28, mk_gR f_224_29, mk_gI f_224_30, mk_pI f_224_30, mk_gI f_224_31, mk_pI f_224_31, mk_gR f_224_32, mk_gI f_224_33, mk_pI f_224_33, ↓m_1, ↓m_2, i_0, i_1, i_2, i_3, i_4, i_6, i_5, i_12, i_11, i_10, i_9999, i_7, i_9, i_8, i_24, i_100, i_56, i_48, i_13, i_176, i_232, i_224, i_32, i_999, i_99, i_900, i_97, i_90, i_30, i_20, i_59, i_14, i_50, i_29, i_22, i_19, i_18, i_17, i_96, i_61, i_57, i_51, i_41, i_26, i_2552, i_255, i_25, i_23, i_21, i_16, i_15, i_122, i_10000, i_31, ↓k_1, ↓k_2, l_0, l_1, l_10, l_100, l_27, l_9999, l_89, l_6, l_97, l_57, l_48, l_31, l_3, l_2, l_122, l_999, l_96, l_90, l_51, l_50, l_32, l_12, l_24627848, l_7945904, l_781652471, l_707763, l_7051975956, l_67012, l_6605428, l_6309, l_624005, l_609860996, l_556243252, l_546475187, l_54109812, l_463922, l_437853486, l_427141, l_4153, l_398963, l_394692, l_2610628, l_245220, l_215533, l_19856929433, l_17376357, l_17216939463, l_16829081, l_153241, l_11566, l_114292, l_6333843, l_387420489, l_1000000000000000000, dzF, obs, b2_some, rz0, rz1, rzb, n01, n01', n10, n01e, nI_add, nI_mul, ↓reduceIte, not_false_eq_true, not_true_eq_false, ite_not, e1, e2, mk_aIn a_226, w2, e3, v3, mk_sIn a_226, e4, v4, w4]
    · refine hN.row (u2_at _ _ _ _) (fun i hi => ?_) (fun c z1 z2 => ?_) (Or.inl (by omega))
      · rcases (by omega : i = 0 ∨ i = 1 ∨ i = 2 ∨ i = 3) with rfl | rfl | rfl | rfl
        · show _ = nI (tV b N (tE b N (tE b N (tE b N q))))
          rw [u2_no _ _ (by omega), u2_no _ _ (by omega), f4.d _ _ (by omega), u2_at]
        · show _ = nI (tV b N (tE b N (q2 b N (tE b N (tE b N q)))))
          rw [u2_no _ _ (by omega), u2_at]
        · show _ = nI 0
          rw [u2_no _ _ (by omega), u2_no _ _ (by omega)]
          rcases z4 (24 + 4 * D 1 + 2) (by omega) with z | z
          · rw [z, hP.2.2.2.1 _ (by omega) (by omega)]
          · omega
        · show _ = nI 0
          rw [u2_no _ _ (by omega), u2_no _ _ (by omega)]
          rcases z4 (24 + 4 * D 1 + 3) (by omega) with z | z
          · rw [z, hP.2.2.2.1 _ (by omega) (by omega)]
          · omega
      · rw [u2_no _ _ (by omega), u2_no _ _ (by omega), f4.d _ _ (by omega), u2_no _ _ (by omega), f3.d _ _ (by omega), f2.d _ _ (by omega), f1.d _ _ (by omega)]
    · rw [u2_no _ _ (by omega), u2_no _ _ (by omega), f4.d _ _ (by omega), u2_no _ _ (by omega), f3.d _ _ (by omega), f2.d _ _ (by omega), f1.d _ _ (by omega)]
end RX
