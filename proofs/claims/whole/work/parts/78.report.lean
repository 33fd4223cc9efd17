/-! ===== 78: report ===== -/
/-- a sale's row in the report -/
def rpS (T : Nat → Nat) (W : Nat → List Nat) (s : Nat) : List Nat := (W s).map (96 + ·) ++ (if stp T 10 s (T 10) = 6 then txL 3 else txL 4 ++ dec (mth (T 10) (stp T 10 s (T 10))) ++ txL 5 ++ dec (byV T 10 s (mth (T 10) (stp T 10 s (T 10)))) ++ txL 6)
def rpL (T : Nat → Nat) (W : Nat → List Nat) : Nat → List Nat
  | 0 => []
  | s + 1 => rpL T W s ++ rpS T W s
section RP
variable {n : Nat} {T : Nat → Nat} {W : Nat → List Nat}
theorem dec_len {v k : Nat} (hk : k ≤ 17) (h : v < 10 ^ (k + 1)) : (dec v).length ≤ k + 1 := by
  have h18 : v < 10 ^ 18 := Nat.lt_of_lt_of_le h (Nat.pow_le_pow_right (by decide) (by omega))
  obtain ⟨d1, d2, d3⟩ := dec_ok h18
  unfold dec
  rw [hiD_len]
  rcases d1 with w | w
  · omega
  · have : 10 ^ nmD 17 0 v < 10 ^ (k + 1) := Nat.lt_of_le_of_lt w h
    have := (Nat.pow_lt_pow_iff_right (by decide : 1 < 10)).mp this
    omega
theorem rpS_len (hT : VT T) (hW : ∀ s, s < T 3 → isW (W s)) {s : Nat} (hs : s < T 3) : (rpS T W s).length ≤ 37 := by
  have hw := (hW s hs).2.1
  unfold rpS
  rw [List.length_append, List.length_map]
  by_cases h6 : stp T 10 s (T 10) = 6
  · rw [if_pos h6]
    have : (txL 3).length = 9 := rfl
    omega
  · rw [if_neg h6]
    have hl := stp_le (T := T) (g := 10) s (T 10)
    have hm := mth_in (u := T 10) (by omega : stp T 10 s (T 10) < 6)
    have hv := byV_le (g := 10) hT hs (mth (T 10) (stp T 10 s (T 10)))
    have l1 := dec_len (v := mth (T 10) (stp T 10 s (T 10))) (k := 0) (by omega) (by omega)
    have l2 := dec_len (v := byV T 10 s (mth (T 10) (stp T 10 s (T 10)))) (k := 14) (by omega) (by omega)
    have a1 : (txL 4).length = 4 := rfl
    have a2 : (txL 5).length = 7 := rfl
    have a3 : (txL 6).length = 3 := rfl
    simp only [List.length_append]
    omega
theorem rpL_len (hT : VT T) (hW : ∀ s, s < T 3 → isW (W s)) : ∀ t, t ≤ T 3 → (rpL T W t).length ≤ 37 * t
  | 0, _ => Nat.le_refl _
  | t + 1, ht => by
    rw [rpL, List.length_append]
    have := rpL_len hT hW t (by omega)
    have := rpS_len hT hW (by omega : t < T 3)
    omega
theorem LL.fpg {I I' : Nat → Nat → Int32} {J : Nat → Nat → Int64} {g : Nat} (h : LL T g I J) (hT : VT T) (hf : Fx SPg I I') : LL T g I' J := by
  obtain ⟨⟨hW', h1, h2, h3, h4, h5, h6, h7⟩, h8⟩ := h
  have hx : ∀ a c, a ≤ 131 → I' a c = I a c := fun a c z => hf a c (by unfold SPg; omega)
  refine ⟨⟨hW'.scr hT (fun a c k1 k2 => hx a c (by omega)), by rw [hx _ _ (by omega)]; exact h1, fun p hp => ?_, fun s hs => by rw [hx _ _ (by omega)]; exact h3 s hs, fun s hs => by rw [hx _ _ (by omega)]; exact h4 s hs, fun a s ha hs => by rw [hx _ _ (by have := hT.1; omega)]; exact h5 a s ha hs, h6, fun s hs => by rw [hx _ _ (by omega)]; exact h7 s hs⟩, fun s hs => by rw [hx _ _ (by omega)]; exact h8 s hs⟩
  obtain ⟨m, m1, m2, m3⟩ := h2 p hp
  exact ⟨m, m1, by rw [hx _ _ (by omega)]; exact m2, m3⟩
def SRp (a c : Nat) : Prop := SC a c ∨ SPg a c
theorem C_wrL (hT : VT T) (hW : ∀ s, s < T 3 → isW (W s)) : ∀ (k t fu : Nat) (I : Nat → Nat → Int32) (J : Nat → Nat → Int64), t + k = T 3 → k < fu → LL T 10 I J → (∀ s, s < T 3 → J 29 s = lN (enc 27 (W s))) → PGl I (rpL T W t) → ∃ I' J', mX9_writeReport_L18 fu (mk n I J) 0 (nI t) = some (mk n I' J') ∧ Fx SRp I I' ∧ FJ SCJ J J' ∧ PGl I' (rpL T W (T 3)) := by
  have b0 := hT.1
  have b1 := hT.2.1
  intro k
  induction k with
  | zero =>
    intro t fu I J ht hf h hj hp
    obtain ⟨fu, rfl⟩ : ∃ f, fu = f + 1 := ⟨fu - 1, by omega⟩
    refine ⟨I, J, ?_, Fx.refl I, FJ.refl J, by rw [show T 3 = t by omega]; exact hp⟩
    show mX9_writeReport_b18 _ _ _ _ = _
    unfold mX9_writeReport_b18
    simp (disch := omega) only [mk_oO o_0, mk_oO o_1, mk_oO o_3, mk_gR f_0_0, mk_gR f_0_1, mk_gR f_0_2, mk_gR f_0_3, mk_gR f_0_4, mk_gR f_0_5, mk_gR f_0_6, mk_gR f_0_7, mk_gR f_0_8, mk_gR f_0_9, mk_gI f_0_10, mk_pI f_0_10, mk_gR f_1_0, mk_gI f_1_1, mk_pI f_1_1, mk_gR f_3_0, mk_gR f_3_1, mk_gR f_3_2, mk_gR f_3_3, mk_gR f_3_4, mk_gR f_3_5, mk_gR f_3_6, mk_gR f_3_7, ↓m_1, ↓m_2, i_0, i_1, i_2, i_3, i_4, i_6, i_5, i_12, i_11, i_10, i_9999, i_7, i_9, i_8, i_24, i_100, i_56, i_48, i_13, i_176, i_232, i_224, i_32, i_999, i_99, i_900, i_97, i_90, i_30, i_20, i_59, i_14, i_50, i_29, i_22, i_19, i_18, i_17, i_96, i_61, i_57, i_51, i_41, i_26, i_2552, i_255, i_25, i_23, i_21, i_16, i_15, i_122, i_10000, i_31, dzF, obs, b2_some, rz0, rz1, rzb, n01, n01', n10, n01e, nI_add, nI_mul, ↓reduceIte, not_false_eq_true, not_true_eq_false, ite_not, leT, CW_t h.1.1]
  | succ k ih =>
    intro t fu I J ht hf h hj hp
    obtain ⟨fu, rfl⟩ : ∃ f, fu = f + 1 := ⟨fu - 1, by omega⟩
    have hts : t < T 3 := by omega
    have hlen := rpL_len hT hW t (by omega)
    obtain ⟨I1, J1, e1, f1, j1, -, -, d1, d2⟩ := C_climb (n := n) hT h hts (by omega : T 10 ≤ 1)
    have h1 := h.fl hT f1 j1
    have hp1 : PGl I1 (rpL T W t) := ⟨by rw [f1 _ _ (by unfold SLd; omega)]; exact hp.1, fun k x hk => by rw [f1 _ _ (by unfold SLd; omega)]; exact hp.2 k x hk⟩
    have hj1 : ∀ s, s < T 3 → J1 29 s = lN (enc 27 (W s)) := fun s hs => by rw [j1 _ _ (by unfold SKJ; omega)]; exact hj s hs
    have hw := hW t hts
    obtain ⟨I2, e2, f2, p2⟩ := C_addWord (n := n) (J := J1) hp1 (by omega) hw
    have hwl : ((W t).map (96 + ·)).length ≤ 7 := by rw [List.length_map]; exact hw.2.1
    have g2 : I2 111 10 = I1 111 10 := f2 _ _ (by unfold SPg; omega)
    have fr : Fx SRp I I2 := (f1.mono (fun a c z => Or.inl (by unfold SLd at z; unfold SC; omega))).trans (f2.mono (fun a c z => Or.inr z))
    have jr : FJ SCJ J J1 := j1.sub (fun a z => Or.inr (Or.inl z))
    show ∃ I' J', mX9_writeReport_b18 _ _ _ _ = _ ∧ _
    unfold mX9_writeReport_b18
    by_cases h6 : stp T 10 t (T 10) = 6
    · rw [if_pos h6] at d1
      obtain ⟨I3, e3, f3, p3⟩ := C_addText (n := n) (J := J1) (i := 3) (by omega) (by omega) p2 (by rw [List.length_append]; omega)
      have hpr : rpL T W t ++ (W t).map (96 + ·) ++ txL 3 = rpL T W (t + 1) := by rw [rpL, rpS, if_pos h6, List.append_assoc]
      rw [hpr] at p3
      obtain ⟨I', J', e, f, j, p⟩ := ih (t + 1) fu I3 J1 (by omega) (by omega) ((h1.fpg hT f2).fpg hT f3) hj1 p3
      refine ⟨I', J', ?_, (fr.trans (f3.mono (fun a c z => Or.inr z))).trans f, jr.trans j, p⟩
      simp (disch := omega) only [mk_oO o_0, mk_oO o_1, mk_oO o_3, mk_gR f_0_0, mk_gR f_0_1, mk_gR f_0_2, mk_gR f_0_3, mk_gR f_0_4, mk_gR f_0_5, mk_gR f_0_6, mk_gR f_0_7, mk_gR f_0_8, mk_gR f_0_9, mk_gI f_0_10, mk_pI f_0_10, mk_gR f_1_0, mk_gI f_1_1, mk_pI f_1_1, mk_gR f_3_0, mk_gR f_3_1, mk_gR f_3_2, mk_gR f_3_3, mk_gR f_3_4, mk_gR f_3_5, mk_gR f_3_6, mk_gR f_3_7, mk_oO o_111, mk_gR f_111_0, mk_gR f_111_1, mk_gR f_111_2, mk_gR f_111_3, mk_gI f_111_4, mk_pI f_111_4, mk_gI f_111_5, mk_pI f_111_5, mk_gL f_111_6, mk_pL f_111_6, mk_gI f_111_7, mk_pI f_111_7, mk_gR f_111_8, mk_gI f_111_9, mk_pI f_111_9, mk_gI f_111_10, mk_pI f_111_10, ↓m_1, ↓m_2, i_0, i_1, i_2, i_3, i_4, i_6, i_5, i_12, i_11, i_10, i_9999, i_7, i_9, i_8, i_24, i_100, i_56, i_48, i_13, i_176, i_232, i_224, i_32, i_999, i_99, i_900, i_97, i_90, i_30, i_20, i_59, i_14, i_50, i_29, i_22, i_19, i_18, i_17, i_96, i_61, i_57, i_51, i_41, i_26, i_2552, i_255, i_25, i_23, i_21, i_16, i_15, i_122, i_10000, i_31, dzF, obs, b2_some, rz0, rz1, rzb, n01, n01', n10, n01e, nI_add, nI_mul, ↓reduceIte, not_false_eq_true, not_true_eq_false, ite_not, leF, CW_t h.1.1, C_isTurned hT h.1.1, e1, mk_aLn a_29, hj1 t hts, e2, g2, d1, e3]
      exact e
    · rw [if_neg h6] at d1
      have hl := stp_le (T := T) (g := 10) t (T 10)
      have hm := mth_in (u := T 10) (by omega : stp T 10 t (T 10) < 6)
      have hv := byV_le (g := 10) hT hts (mth (T 10) (stp T 10 t (T 10)))
      have d2' := d2 (by omega)
      have l1 := dec_len (v := mth (T 10) (stp T 10 t (T 10))) (k := 0) (by omega) (by omega)
      have l2 := dec_len (v := byV T 10 t (mth (T 10) (stp T 10 t (T 10)))) (k := 14) (by omega) (by omega)
      have a1 : (txL 4).length = 4 := rfl
      have a2 : (txL 5).length = 7 := rfl
      have hpr : rpL T W t ++ (W t).map (96 + ·) ++ txL 4 ++ dec (mth (T 10) (stp T 10 t (T 10))) ++ txL 5 ++ dec (byV T 10 t (mth (T 10) (stp T 10 t (T 10)))) ++ txL 6 = rpL T W (t + 1) := by rw [rpL, rpS, if_neg h6]; simp only [List.append_assoc]
      generalize hV : byV T 10 t (mth (T 10) (stp T 10 t (T 10))) = V at *
      generalize hM : mth (T 10) (stp T 10 t (T 10)) = M at *
      obtain ⟨I3, e3, f3, p3⟩ := C_addText (n := n) (J := J1) (i := 4) (by omega) (by omega) p2 (by rw [List.length_append]; omega)
      obtain ⟨I4, e4, f4, p4⟩ := C_addNumber (n := n) (J := J1) (v := M) p3 (by omega) (by simp only [List.length_append]; omega)
      obtain ⟨I5, e5, f5, p5⟩ := C_addText (n := n) (J := J1) (i := 5) (by omega) (by omega) p4 (by simp only [List.length_append]; omega)
      obtain ⟨I6, e6, f6, p6⟩ := C_addNumber (n := n) (J := J1) (v := V) p5 (by omega) (by simp only [List.length_append]; omega)
      obtain ⟨I7, e7, f7, p7⟩ := C_addText (n := n) (J := J1) (i := 6) (by omega) (by omega) p6 (by simp only [List.length_append]; omega)
      rw [hpr] at p7
      have g3 : I3 111 10 = nI M := by rw [f3 _ _ (by unfold SPg; omega), g2]; exact d1
      obtain ⟨I', J', e, f, j, p⟩ := ih (t + 1) fu I7 J1 (by omega) (by omega) ((((((h1.fpg hT f2).fpg hT f3).fpg hT f4).fpg hT f5).fpg hT f6).fpg hT f7) hj1 p7
      refine ⟨I', J', ?_, (fr.trans (((((f3.trans f4).trans f5).trans f6).trans f7).mono (fun a c z => Or.inr z))).trans f, jr.trans j, p⟩
      simp (disch := omega) only [mk_oO o_0, mk_oO o_1, mk_oO o_3, mk_gR f_0_0, mk_gR f_0_1, mk_gR f_0_2, mk_gR f_0_3, mk_gR f_0_4, mk_gR f_0_5, mk_gR f_0_6, mk_gR f_0_7, mk_gR f_0_8, mk_gR f_0_9, mk_gI f_0_10, mk_pI f_0_10, mk_gR f_1_0, mk_gI f_1_1, mk_pI f_1_1, mk_gR f_3_0, mk_gR f_3_1, mk_gR f_3_2, mk_gR f_3_3, mk_gR f_3_4, mk_gR f_3_5, mk_gR f_3_6, mk_gR f_3_7, mk_oO o_111, mk_gR f_111_0, mk_gR f_111_1, mk_gR f_111_2, mk_gR f_111_3, mk_gI f_111_4, mk_pI f_111_4, mk_gI f_111_5, mk_pI f_111_5, mk_gL f_111_6, mk_pL f_111_6, mk_gI f_111_7, mk_pI f_111_7, mk_gR f_111_8, mk_gI f_111_9, mk_pI f_111_9, mk_gI f_111_10, mk_pI f_111_10, ↓m_1, ↓m_2, i_0, i_1, i_2, i_3, i_4, i_6, i_5, i_12, i_11, i_10, i_9999, i_7, i_9, i_8, i_24, i_100, i_56, i_48, i_13, i_176, i_232, i_224, i_32, i_999, i_99, i_900, i_97, i_90, i_30, i_20, i_59, i_14, i_50, i_29, i_22, i_19, i_18, i_17, i_96, i_61, i_57, i_51, i_41, i_26, i_2552, i_255, i_25, i_23, i_21, i_16, i_15, i_122, i_10000, i_31, dzF, obs, b2_some, rz0, rz1, rzb, n01, n01', n10, n01e, nI_add, nI_mul, ↓reduceIte, not_false_eq_true, not_true_eq_false, ite_not, leF, CW_t h.1.1, C_isTurned hT h.1.1, e1, mk_aLn a_29, hj1 t hts, e2, g2, d1, eqF, e3, g3, nI_l, e4, e5, d2', e6, e7]
      exact e
/-- the reference's small words -/
def wBy : List Nat := [2, 25]
def wWorth : List Nat := [23, 15, 18, 20, 8]
def wFails : List Nat := [6, 1, 9, 12, 19]
def SWo (a c : Nat) : Prop := SW a c ∨ SOu a c
theorem RQ.fo {g : Nat} {I I' : Nat → Nat → Int32} (h : RQ T g I) (hf : Fx SOu I I') : RQ T g I' := ⟨fun j hj => by rw [hf _ _ (by unfold SOu; omega)]; exact h.1 j hj, by rw [hf _ _ (by unfold SOu; omega)]; exact h.2⟩
theorem OUl.fw {I I' : Nat → Nat → Int32} {l : List Nat} (h : OUl I l) (hf : Fx SW I I') : OUl I' l := ⟨by rw [hf _ _ (by unfold SW; omega)]; exact h.1, fun k x hk => by rw [hf _ _ (by unfold SW; omega)]; exact h.2 k x hk⟩
theorem R_rpL (hT : VT T) (hW : ∀ s, s < T 3 → isW (W s)) {c : Int32} : ∀ (k t fu : Nat) (I : Nat → Nat → Int32) (J : Nat → Nat → Int64), t + k = T 3 → k < fu → RQ T 10 I → (∀ s, s < T 3 → J 234 s = lN (enc 32 (W s))) → OUl I (rpL T W t) → ∃ I' J', mX10_report_L12 fu (mk n I J) 224 c (nI t) = (if c = M1 then some (nI (rpL T W (T 3)).length, mk n I' J') else if M1 ≤ c then (if nI (rpL T W (T 3)).length ≤ c then some (M2, mk n I' J') else (aI 0 (mk n I' J') 237 c).bind fun v => some (v, mk n I' J')) else some (M1, mk n I' J')) ∧ Fx SWo I I' ∧ FJ SJ J J' ∧ OUl I' (rpL T W (T 3)) := by
  have b0 := hT.1
  have b1 := hT.2.1
  intro k
  induction k with
  | zero =>
    intro t fu I J ht hf h hj hp
    obtain ⟨fu, rfl⟩ : ∃ f, fu = f + 1 := ⟨fu - 1, by omega⟩
    have et : t = T 3 := by omega
    rw [et] at hp ⊢
    refine ⟨I, J, ?_, Fx.refl I, FJ.refl J, hp⟩
    show mX10_report_b12 _ _ _ _ _ = _
    unfold mX10_report_b12
    simp (disch := omega) only [mk_oO o_224, mk_gI f_224_0, mk_pI f_224_0, mk_gR f_224_1, mk_gR f_224_2, mk_gR f_224_3, mk_gR f_224_4, mk_gR f_224_5, mk_gI f_224_6, mk_pI f_224_6, mk_gR f_224_7, mk_gI f_224_8, mk_pI f_224_8, mk_gI f_224_9, mk_pI f_224_9, mk_gI f_224_10, mk_pI f_224_10, mk_gI f_224_11, mk_pI f_224_11, mk_gI f_224_12, mk_pI f_224_12, mk_gI f_224_13, mk_pI f_224_13, mk_gL f_224_14, mk_pL f_224_14, mk_gI f_224_15, mk_pI f_224_15, mk_gI f_224_16, mk_pI f_224_16, mk_gR f_224_17, mk_gR f_224_18, mk_gR f_224_19, mk_gI f_224_20, mk_pI f_224_20, mk_gR f_224_21, mk_gI f_224_22, mk_pI f_224_22, mk_gI f_224_23, mk_pI f_224_23, mk_gI f_224_24, mk_pI f_224_24, mk_gI f_224_25, mk_pI f_224_25, mk_gR f_224_26, mk_gI f_224_27, mk_pI f_224_27, mk_gI f_224_28, mk_pI f_224_28, mk_gR f_224_29, mk_gI f_224_30, mk_pI f_224_30, mk_gI f_224_31, mk_pI f_224_31, mk_gR f_224_32, mk_gI f_224_33, mk_pI f_224_33, ↓m_1, ↓m_2, i_0, i_1, i_2, i_3, i_4, i_6, i_5, i_12, i_11, i_10, i_9999, i_7, i_9, i_8, i_24, i_100, i_56, i_48, i_13, i_176, i_232, i_224, i_32, i_999, i_99, i_900, i_97, i_90, i_30, i_20, i_59, i_14, i_50, i_29, i_22, i_19, i_18, i_17, i_96, i_61, i_57, i_51, i_41, i_26, i_2552, i_255, i_25, i_23, i_21, i_16, i_15, i_122, i_10000, i_31, dzF, obs, b2_some, rz0, rz1, rzb, n01, n01', n10, n01e, nI_add, nI_mul, ↓reduceIte, not_false_eq_true, not_true_eq_false, ite_not, leT, R_now h.1, hp.1]
  | succ k ih =>
    intro t fu I J ht hf h hj hp
    obtain ⟨fu, rfl⟩ : ∃ f, fu = f + 1 := ⟨fu - 1, by omega⟩
    have hts : t < T 3 := by omega
    have hlen := rpL_len hT hW t (by omega)
    obtain ⟨I1, J1, e1, q1, -, w1⟩ := R_worthOf (n := n) (J := J) hT h hts
    have h1 := h.wf q1
    have hp1 := hp.fw q1.1
    have hj1 : ∀ s, s < T 3 → J1 234 s = lN (enc 32 (W s)) := fun s hs => by rw [q1.2 _ _ (by unfold SJ; omega)]; exact hj s hs
    have hw := hW t hts
    have hwl : ((W t).map (96 + ·)).length ≤ 7 := by rw [List.length_map]; exact hw.2.1
    have mo : ∀ {A B : Nat → Nat → Int32}, Fx SOu A B → Fx SWo A B := fun z => z.mono (fun a c w => Or.inr w)
    obtain ⟨I2, e2, f2, p2⟩ := R_saysWord (n := n) (J := J1) hp1 (by omega) hw.2.1 hw.2.2
    have fr : Fx SWo I I2 := (q1.1.mono (fun a c w => Or.inl w)).trans (mo f2)
    have kBy : lN 89 = lN (enc 32 wBy) := rfl
    have kWo : lN 24627848 = lN (enc 32 wWorth) := rfl
    have kFa : lN 6333843 = lN (enc 32 wFails) := rfl
    have cBy : ∀ c ∈ wBy, 1 ≤ c ∧ c ≤ 26 := by decide
    have cWo : ∀ c ∈ wWorth, 1 ≤ c ∧ c ≤ 26 := by decide
    have cFa : ∀ c ∈ wFails, 1 ≤ c ∧ c ≤ 26 := by decide
    show ∃ I' J', mX10_report_b12 _ _ _ _ _ = _ ∧ _
    unfold mX10_report_b12 mX10_report_b82
    unfold wrV at e1
    by_cases h6 : stp T 10 t (T 10) = 6
    · rw [if_pos h6] at e1
      obtain ⟨I3, e3, f3, p3⟩ := R_saysWord (n := n) (J := J1) (w := wFails) p2 (by simp only [List.length_append, List.length_cons, List.length_nil]; omega) (by decide) cFa
      have lF : (wFails.map (96 + ·)).length = 5 := rfl
      obtain ⟨I4, e4, f4, p4⟩ := R_says (n := n) (J := J1) p3 (by simp only [List.length_append, List.length_cons, List.length_nil]; omega) 59
      obtain ⟨I5, e5, f5, p5⟩ := R_says (n := n) (J := J1) p4 (by simp only [List.length_append, List.length_cons, List.length_nil]; omega) 32
      have hpr : rpL T W t ++ (W t).map (96 + ·) ++ [32] ++ wFails.map (96 + ·) ++ [32] ++ [59] ++ [32] = rpL T W (t + 1) := by
        rw [rpL, rpS, if_pos h6]; simp only [List.append_assoc]; rfl
      rw [hpr] at p5
      obtain ⟨I', J', e, f, j, p⟩ := ih (t + 1) fu I5 J1 (by omega) (by omega) ((((h1.fo f2).fo f3).fo f4).fo f5) hj1 p5
      refine ⟨I', J', ?_, (fr.trans (mo ((f3.trans f4).trans f5))).trans f, q1.2.trans j, p⟩
      simp (disch := omega) only [mk_oO o_224, mk_gI f_224_0, mk_pI f_224_0, mk_gR f_224_1, mk_gR f_224_2, mk_gR f_224_3, mk_gR f_224_4, mk_gR f_224_5, mk_gI f_224_6, mk_pI f_224_6, mk_gR f_224_7, mk_gI f_224_8, mk_pI f_224_8, mk_gI f_224_9, mk_pI f_224_9, mk_gI f_224_10, mk_pI f_224_10, mk_gI f_224_11, mk_pI f_224_11, mk_gI f_224_12, mk_pI f_224_12, mk_gI f_224_13, mk_pI f_224_13, mk_gL f_224_14, mk_pL f_224_14, mk_gI f_224_15, mk_pI f_224_15, mk_gI f_224_16, mk_pI f_224_16, mk_gR f_224_17, mk_gR f_224_18, mk_gR f_224_19, mk_gI f_224_20, mk_pI f_224_20, mk_gR f_224_21, mk_gI f_224_22, mk_pI f_224_22, mk_gI f_224_23, mk_pI f_224_23, mk_gI f_224_24, mk_pI f_224_24, mk_gI f_224_25, mk_pI f_224_25, mk_gR f_224_26, mk_gI f_224_27, mk_pI f_224_27, mk_gI f_224_28, mk_pI f_224_28, mk_gR f_224_29, mk_gI f_224_30, mk_pI f_224_30, mk_gI f_224_31, mk_pI f_224_31, mk_gR f_224_32, mk_gI f_224_33, mk_pI f_224_33, ↓m_1, ↓m_2, i_0, i_1, i_2, i_3, i_4, i_6, i_5, i_12, i_11, i_10, i_9999, i_7, i_9, i_8, i_24, i_100, i_56, i_48, i_13, i_176, i_232, i_224, i_32, i_999, i_99, i_900, i_97, i_90, i_30, i_20, i_59, i_14, i_50, i_29, i_22, i_19, i_18, i_17, i_96, i_61, i_57, i_51, i_41, i_26, i_2552, i_255, i_25, i_23, i_21, i_16, i_15, i_122, i_10000, i_31, l_0, l_6333843, kFa, dzF, obs, b2_some, rz0, rz1, rzb, n01, n01', n10, n01e, nI_add, nI_mul, ↓reduceIte, not_false_eq_true, not_true_eq_false, ite_not, leF, R_now h.1, e1, mk_aLn a_234, hj1 t hts, e2, K2_ge0, e3, e4, e5]
      exact e
    · rw [if_neg h6] at e1
      unfold wrM at w1
      rw [if_neg h6] at w1
      have hl := stp_le (T := T) (g := 10) t (T 10)
      have hm := mth_in (u := T 10) (by omega : stp T 10 t (T 10) < 6)
      have hv := byV_le (g := 10) hT hts (mth (T 10) (stp T 10 t (T 10)))
      have l1 := dec_len (v := mth (T 10) (stp T 10 t (T 10))) (k := 0) (by omega) (by omega)
      have l2 := dec_len (v := byV T 10 t (mth (T 10) (stp T 10 t (T 10)))) (k := 14) (by omega) (by omega)
      have hpr : rpL T W t ++ (W t).map (96 + ·) ++ [32] ++ wBy.map (96 + ·) ++ [32] ++ dec (mth (T 10) (stp T 10 t (T 10))) ++ [32] ++ wWorth.map (96 + ·) ++ [32] ++ dec (byV T 10 t (mth (T 10) (stp T 10 t (T 10)))) ++ [32] ++ [59] ++ [32] = rpL T W (t + 1) := by
        rw [rpL, rpS, if_neg h6]; simp only [List.append_assoc]; rfl
      generalize hV : byV T 10 t (mth (T 10) (stp T 10 t (T 10))) = V at *
      generalize hM : mth (T 10) (stp T 10 t (T 10)) = M at *
      have lB : (wBy.map (96 + ·)).length = 2 := rfl
      have lW : (wWorth.map (96 + ·)).length = 5 := rfl
      obtain ⟨I3, e3, f3, p3⟩ := R_saysWord (n := n) (J := J1) (w := wBy) p2 (by simp only [List.length_append, List.length_cons, List.length_nil]; omega) (by decide) cBy
      have w3 : I3 224 31 = nI M := by rw [f3 _ _ (by unfold SOu; omega), f2 _ _ (by unfold SOu; omega)]; exact w1
      obtain ⟨I4, e4, f4, p4⟩ := R_saysNumber (n := n) (J := J1) (v := M) p3 (by omega) (by simp only [List.length_append, List.length_cons, List.length_nil]; omega)
      obtain ⟨I5, e5, f5, p5⟩ := R_saysWord (n := n) (J := J1) (w := wWorth) p4 (by simp only [List.length_append, List.length_cons, List.length_nil]; omega) (by decide) cWo
      obtain ⟨I6, e6, f6, p6⟩ := R_saysNumber (n := n) (J := J1) (v := V) p5 (by omega) (by simp only [List.length_append, List.length_cons, List.length_nil]; omega)
      obtain ⟨I7, e7, f7, p7⟩ := R_says (n := n) (J := J1) p6 (by simp only [List.length_append, List.length_cons, List.length_nil]; omega) 59
      obtain ⟨I8, e8, f8, p8⟩ := R_says (n := n) (J := J1) p7 (by simp only [List.length_append, List.length_cons, List.length_nil]; omega) 32
      rw [hpr] at p8
      obtain ⟨I', J', e, f, j, p⟩ := ih (t + 1) fu I8 J1 (by omega) (by omega) ((((((( h1.fo f2).fo f3).fo f4).fo f5).fo f6).fo f7).fo f8) hj1 p8
      refine ⟨I', J', ?_, (fr.trans (mo (((((f3.trans f4).trans f5).trans f6).trans f7).trans f8))).trans f, q1.2.trans j, p⟩
      simp (disch := omega) only [mk_oO o_224, mk_gI f_224_0, mk_pI f_224_0, mk_gR f_224_1, mk_gR f_224_2, mk_gR f_224_3, mk_gR f_224_4, mk_gR f_224_5, mk_gI f_224_6, mk_pI f_224_6, mk_gR f_224_7, mk_gI f_224_8, mk_pI f_224_8, mk_gI f_224_9, mk_pI f_224_9, mk_gI f_224_10, mk_pI f_224_10, mk_gI f_224_11, mk_pI f_224_11, mk_gI f_224_12, mk_pI f_224_12, mk_gI f_224_13, mk_pI f_224_13, mk_gL f_224_14, mk_pL f_224_14, mk_gI f_224_15, mk_pI f_224_15, mk_gI f_224_16, mk_pI f_224_16, mk_gR f_224_17, mk_gR f_224_18, mk_gR f_224_19, mk_gI f_224_20, mk_pI f_224_20, mk_gR f_224_21, mk_gI f_224_22, mk_pI f_224_22, mk_gI f_224_23, mk_pI f_224_23, mk_gI f_224_24, mk_pI f_224_24, mk_gI f_224_25, mk_pI f_224_25, mk_gR f_224_26, mk_gI f_224_27, mk_pI f_224_27, mk_gI f_224_28, mk_pI f_224_28, mk_gR f_224_29, mk_gI f_224_30, mk_pI f_224_30, mk_gI f_224_31, mk_pI f_224_31, mk_gR f_224_32, mk_gI f_224_33, mk_pI f_224_33, ↓m_1, ↓m_2, i_0, i_1, i_2, i_3, i_4, i_6, i_5, i_12, i_11, i_10, i_9999, i_7, i_9, i_8, i_24, i_100, i_56, i_48, i_13, i_176, i_232, i_224, i_32, i_999, i_99, i_900, i_97, i_90, i_30, i_20, i_59, i_14, i_50, i_29, i_22, i_19, i_18, i_17, i_96, i_61, i_57, i_51, i_41, i_26, i_2552, i_255, i_25, i_23, i_21, i_16, i_15, i_122, i_10000, i_31, l_0, l_89, l_24627848, kBy, kWo, dzF, obs, b2_some, rz0, rz1, rzb, n01, n01', n10, n01e, nI_add, nI_mul, ↓reduceIte, not_false_eq_true, not_true_eq_false, ite_not, leF, R_now h.1, e1, mk_aLn a_234, hj1 t hts, e2, lge0, e3, w3, nI_l, e4, e5, e6, e7, e8]
      exact e
end RP
set_option maxHeartbeats 4000000 in
theorem sim_report : SIM_report Inv 0 224 := by
  intro h c1 hI
  obtain ⟨n, I, J, rfl, T, hI⟩ := hI
  have hI : INVT I J T := hI
  have hT := hI.1
  have hW := hI.2.2.1
  have hR := hI.rq
  have hM := hI.2.2.2.2.1
  have b0 := hT.1
  have hch : ∀ s : Nat, ∃ w : List Nat, s < T 3 → isW w ∧ J 29 s = lN (enc 27 w) ∧ J 234 s = lN (enc 32 w) := fun s => by
    by_cases hs : s < T 3
    · obtain ⟨w, h1, h2, h3⟩ := hM s hs
      exact ⟨w, fun _ => ⟨h1, h2, h3⟩⟩
    · exact ⟨[], fun z => absurd z hs⟩
  obtain ⟨W, hWd⟩ := Classical.axiomOfChoice hch
  have hw : ∀ s, s < T 3 → isW (W s) := fun s hs => (hWd s hs).1
  have hlen := rpL_len hT hw (T 3) (Nat.le_refl _)
  -- the class
  have f0 : Fx SPg I (u2 I 132 1 (nI 0)) := Fx_u2 _ _ (Or.inl ⟨rfl, rfl⟩)
  obtain ⟨I1, J1, e1, f1, j1, l1⟩ := C_llook (n := n) (J := J) (g := 10) hT (hW.scr hT (fun a c k1 k2 => f0 a c (by unfold SPg; omega)) : WR (u2 I 132 1 (nI 0)) 3 T)
  have e1' : mX1_look (mk n (u2 I 132 1 (nI 0)) J) 111 M1 = some (mk n I1 J1) := e1
  have p0 : PGl I1 (rpL T W 0) := ⟨by rw [f1 _ _ (by unfold SC; omega), u2_at]; rfl, fun k x hk => by simp [rpL] at hk⟩
  obtain ⟨I2, J2, e2, f2, j2, p2⟩ := C_wrL (n := n) hT hw (T 3) 0 FU I1 J1 (by omega) (by unfold FU; omega) l1 (fun s hs => by rw [j1 _ _ (by unfold SCJ; omega)]; exact (hWd s hs).2.1) p0
  have eW : mX9_writeReport (mk n I J) 0 = some (mk n I2 J2) := by
    unfold mX9_writeReport
    simp (disch := omega) only [mk_oO o_0, mk_oO o_1, mk_oO o_3, mk_gR f_0_0, mk_gR f_0_1, mk_gR f_0_2, mk_gR f_0_3, mk_gR f_0_4, mk_gR f_0_5, mk_gR f_0_6, mk_gR f_0_7, mk_gR f_0_8, mk_gR f_0_9, mk_gI f_0_10, mk_pI f_0_10, mk_gR f_1_0, mk_gI f_1_1, mk_pI f_1_1, mk_gR f_3_0, mk_gR f_3_1, mk_gR f_3_2, mk_gR f_3_3, mk_gR f_3_4, mk_gR f_3_5, mk_gR f_3_6, mk_gR f_3_7, mk_oO o_132, mk_gR f_132_0, mk_gI f_132_1, mk_pI f_132_1, ↓m_1, ↓m_2, i_0, i_1, i_2, i_3, i_4, i_6, i_5, i_12, i_11, i_10, i_9999, i_7, i_9, i_8, i_24, i_100, i_56, i_48, i_13, i_176, i_232, i_224, i_32, i_999, i_99, i_900, i_97, i_90, i_30, i_20, i_59, i_14, i_50, i_29, i_22, i_19, i_18, i_17, i_96, i_61, i_57, i_51, i_41, i_26, i_2552, i_255, i_25, i_23, i_21, i_16, i_15, i_122, i_10000, i_31, dzF, obs, b2_some, rz0, rz1, rzb, n01, n01', n10, n01e, nI_add, nI_mul, ↓reduceIte, not_false_eq_true, not_true_eq_false, ite_not, e1']
    exact e2
  have s2 : scrt I J I2 J2 := ⟨fun a c r => by rw [f2 _ _ (by unfold relI at r; unfold SRp SC SPg; omega), f1 _ _ (by unfold relI at r; unfold SC; omega), f0 _ _ (by unfold relI at r; unfold SPg; omega)], fun a c r => by rw [j2 _ _ (by unfold relJ at r; unfold SCJ; omega), j1 _ _ (by unfold relJ at r; unfold SCJ; omega)]⟩
  -- the reference, over any heap that tells the same
  have rf : ∀ (A : Nat → Nat → Int32) (B : Nat → Nat → Int64), scrt I J A B → ∃ I4 J4, mX10_report (mk n A B) 224 c1 = (if c1 = M1 then some (nI (rpL T W (T 3)).length, mk n I4 J4) else if M1 ≤ c1 then (if nI (rpL T W (T 3)).length ≤ c1 then some (M2, mk n I4 J4) else (aI 0 (mk n I4 J4) 237 c1).bind fun v => some (v, mk n I4 J4)) else some (M1, mk n I4 J4)) ∧ scrt I J I4 J4 ∧ OUl I4 (rpL T W (T 3)) := by
    intro A B sc
    have fo : Fx SWo A (u2 (u2 A 224 0 (nI 0)) 224 33 (nI 0)) := (Fx_u2 _ _ (Or.inl (by unfold SW; omega))).trans (Fx_u2 _ _ (Or.inr (Or.inl ⟨rfl, rfl⟩)))
    have hR1 : RQ T 10 (u2 (u2 A 224 0 (nI 0)) 224 33 (nI 0)) := ((hR.sc sc).th (nI 0)).fo (Fx_u2 _ _ (Or.inl ⟨rfl, rfl⟩))
    obtain ⟨I4, J4, e4, f4, j4, p4⟩ := R_rpL (n := n) (c := c1) hT hw (T 3) 0 FU (u2 (u2 A 224 0 (nI 0)) 224 33 (nI 0)) B (by omega) (by unfold FU; omega) hR1 (fun s hs => by rw [sc.2 _ _ (by unfold relJ; omega)]; exact (hWd s hs).2.2) ⟨by rw [u2_at]; rfl, fun k x hk => by simp [rpL] at hk⟩
    refine ⟨I4, J4, ?_, sc.trans ⟨fun a c r => by rw [f4 _ _ (by unfold relI at r; unfold SWo SW SOu; omega), fo _ _ (by unfold relI at r; unfold SWo SW SOu; omega)], fun a c r => j4 _ _ (by unfold relJ at r; unfold SJ; omega)⟩, p4⟩
    unfold mX10_report
    simp (disch := omega) only [mk_oO o_224, mk_gI f_224_0, mk_pI f_224_0, mk_gR f_224_1, mk_gR f_224_2, mk_gR f_224_3, mk_gR f_224_4, mk_gR f_224_5, mk_gI f_224_6, mk_pI f_224_6, mk_gR f_224_7, mk_gI f_224_8, mk_pI f_224_8, mk_gI f_224_9, mk_pI f_224_9, mk_gI f_224_10, mk_pI f_224_10, mk_gI f_224_11, mk_pI f_224_11, mk_gI f_224_12, mk_pI f_224_12, mk_gI f_224_13, mk_pI f_224_13, mk_gL f_224_14, mk_pL f_224_14, mk_gI f_224_15, mk_pI f_224_15, mk_gI f_224_16, mk_pI f_224_16, mk_gR f_224_17, mk_gR f_224_18, mk_gR f_224_19, mk_gI f_224_20, mk_pI f_224_20, mk_gR f_224_21, mk_gI f_224_22, mk_pI f_224_22, mk_gI f_224_23, mk_pI f_224_23, mk_gI f_224_24, mk_pI f_224_24, mk_gI f_224_25, mk_pI f_224_25, mk_gR f_224_26, mk_gI f_224_27, mk_pI f_224_27, mk_gI f_224_28, mk_pI f_224_28, mk_gR f_224_29, mk_gI f_224_30, mk_pI f_224_30, mk_gI f_224_31, mk_pI f_224_31, mk_gR f_224_32, mk_gI f_224_33, mk_pI f_224_33, i_0, obs]
    exact e4
  unfold mX9_report
  rcases m1_cases c1 with hc | hc | ⟨k, hk, hc⟩
  · obtain ⟨I4, J4, e4, s4, p4⟩ := rf I J (scrt.refl I J)
    have hne : ¬ c1 = M1 := fun z => by rw [z, M1_M1] at hc; exact true_ne_false hc
    refine ⟨M1, mk n I J, mk n I4 J4, ?_, ?_, Inv.of (hI.inv.sc s4)⟩
    · simp (disch := omega) only [mk_oO o_0, mk_oO o_1, mk_oO o_3, mk_gR f_0_0, mk_gR f_0_1, mk_gR f_0_2, mk_gR f_0_3, mk_gR f_0_4, mk_gR f_0_5, mk_gR f_0_6, mk_gR f_0_7, mk_gR f_0_8, mk_gR f_0_9, mk_gI f_0_10, mk_pI f_0_10, mk_gR f_1_0, mk_gI f_1_1, mk_pI f_1_1, mk_gR f_3_0, mk_gR f_3_1, mk_gR f_3_2, mk_gR f_3_3, mk_gR f_3_4, mk_gR f_3_5, mk_gR f_3_6, mk_gR f_3_7, ↓m_1, ↓m_2, i_0, i_1, i_2, i_3, i_4, i_6, i_5, i_12, i_11, i_10, i_9999, i_7, i_9, i_8, i_24, i_100, i_56, i_48, i_13, i_176, i_232, i_224, i_32, i_999, i_99, i_900, i_97, i_90, i_30, i_20, i_59, i_14, i_50, i_29, i_22, i_19, i_18, i_17, i_96, i_61, i_57, i_51, i_41, i_26, i_2552, i_255, i_25, i_23, i_21, i_16, i_15, i_122, i_10000, i_31, dzF, obs, b2_some, rz0, rz1, rzb, n01, n01', n10, n01e, nI_add, nI_mul, ↓reduceIte, not_false_eq_true, not_true_eq_false, ite_not, hc]
    · rw [e4, if_neg hne]
      simp only [hc, if_false]
  · subst hc
    obtain ⟨I4, J4, e4, s4, p4⟩ := rf I2 J2 s2
    refine ⟨nI (rpL T W (T 3)).length, mk n I2 J2, mk n I4 J4, ?_, ?_, Inv.of (hI.inv.sc s4)⟩
    · simp (disch := omega) only [mk_oO o_0, mk_oO o_1, mk_oO o_3, mk_gR f_0_0, mk_gR f_0_1, mk_gR f_0_2, mk_gR f_0_3, mk_gR f_0_4, mk_gR f_0_5, mk_gR f_0_6, mk_gR f_0_7, mk_gR f_0_8, mk_gR f_0_9, mk_gI f_0_10, mk_pI f_0_10, mk_gR f_1_0, mk_gI f_1_1, mk_pI f_1_1, mk_gR f_3_0, mk_gR f_3_1, mk_gR f_3_2, mk_gR f_3_3, mk_gR f_3_4, mk_gR f_3_5, mk_gR f_3_6, mk_gR f_3_7, mk_oO o_132, mk_gR f_132_0, mk_gI f_132_1, mk_pI f_132_1, ↓m_1, ↓m_2, i_0, i_1, i_2, i_3, i_4, i_6, i_5, i_12, i_11, i_10, i_9999, i_7, i_9, i_8, i_24, i_100, i_56, i_48, i_13, i_176, i_232, i_224, i_32, i_999, i_99, i_900, i_97, i_90, i_30, i_20, i_59, i_14, i_50, i_29, i_22, i_19, i_18, i_17, i_96, i_61, i_57, i_51, i_41, i_26, i_2552, i_255, i_25, i_23, i_21, i_16, i_15, i_122, i_10000, i_31, dzF, obs, b2_some, rz0, rz1, rzb, n01, n01', n10, n01e, nI_add, nI_mul, ↓reduceIte, not_false_eq_true, not_true_eq_false, ite_not, M1_M1, eW, p2.1]
    · rw [e4, if_pos rfl]
  · subst hc
    obtain ⟨I4, J4, e4, s4, p4⟩ := rf I2 J2 s2
    have hne : ¬ nI k = M1 := fun z => by rw [nM1 hk] at z; exact z
    by_cases hkl : k < (rpL T W (T 3)).length
    · have hg := List.getElem?_eq_getElem hkl
      have a1 := p2.2 k _ hg
      have a2 := p4.2 k _ hg
      have i133 : isI 133 2 480 = true := rfl
      refine ⟨nI (rpL T W (T 3))[k], mk n I2 J2, mk n I4 J4, ?_, ?_, Inv.of (hI.inv.sc s4)⟩
      · simp (disch := omega) only [mk_oO o_0, mk_oO o_1, mk_oO o_3, mk_gR f_0_0, mk_gR f_0_1, mk_gR f_0_2, mk_gR f_0_3, mk_gR f_0_4, mk_gR f_0_5, mk_gR f_0_6, mk_gR f_0_7, mk_gR f_0_8, mk_gR f_0_9, mk_gI f_0_10, mk_pI f_0_10, mk_gR f_1_0, mk_gI f_1_1, mk_pI f_1_1, mk_gR f_3_0, mk_gR f_3_1, mk_gR f_3_2, mk_gR f_3_3, mk_gR f_3_4, mk_gR f_3_5, mk_gR f_3_6, mk_gR f_3_7, mk_oO o_132, mk_gR f_132_0, mk_gI f_132_1, mk_pI f_132_1, ↓m_1, ↓m_2, i_0, i_1, i_2, i_3, i_4, i_6, i_5, i_12, i_11, i_10, i_9999, i_7, i_9, i_8, i_24, i_100, i_56, i_48, i_13, i_176, i_232, i_224, i_32, i_999, i_99, i_900, i_97, i_90, i_30, i_20, i_59, i_14, i_50, i_29, i_22, i_19, i_18, i_17, i_96, i_61, i_57, i_51, i_41, i_26, i_2552, i_255, i_25, i_23, i_21, i_16, i_15, i_122, i_10000, i_31, dzF, obs, b2_some, rz0, rz1, rzb, n01, n01', n10, n01e, nI_add, nI_mul, ↓reduceIte, not_false_eq_true, not_true_eq_false, ite_not, M1_nI, nM1, eW, p2.1, leF, mk_aIn i133, a1]
      · rw [e4, if_neg hne]
        simp (disch := omega) only [M1_nI, if_true, leF, if_false, mk_aIn a_237, a2, obs]
    · refine ⟨M2, mk n I2 J2, mk n I4 J4, ?_, ?_, Inv.of (hI.inv.sc s4)⟩
      · simp (disch := omega) only [mk_oO o_0, mk_oO o_1, mk_oO o_3, mk_gR f_0_0, mk_gR f_0_1, mk_gR f_0_2, mk_gR f_0_3, mk_gR f_0_4, mk_gR f_0_5, mk_gR f_0_6, mk_gR f_0_7, mk_gR f_0_8, mk_gR f_0_9, mk_gI f_0_10, mk_pI f_0_10, mk_gR f_1_0, mk_gI f_1_1, mk_pI f_1_1, mk_gR f_3_0, mk_gR f_3_1, mk_gR f_3_2, mk_gR f_3_3, mk_gR f_3_4, mk_gR f_3_5, mk_gR f_3_6, mk_gR f_3_7, mk_oO o_132, mk_gR f_132_0, mk_gI f_132_1, mk_pI f_132_1, ↓m_1, ↓m_2, i_0, i_1, i_2, i_3, i_4, i_6, i_5, i_12, i_11, i_10, i_9999, i_7, i_9, i_8, i_24, i_100, i_56, i_48, i_13, i_176, i_232, i_224, i_32, i_999, i_99, i_900, i_97, i_90, i_30, i_20, i_59, i_14, i_50, i_29, i_22, i_19, i_18, i_17, i_96, i_61, i_57, i_51, i_41, i_26, i_2552, i_255, i_25, i_23, i_21, i_16, i_15, i_122, i_10000, i_31, dzF, obs, b2_some, rz0, rz1, rzb, n01, n01', n10, n01e, nI_add, nI_mul, ↓reduceIte, not_false_eq_true, not_true_eq_false, ite_not, M1_nI, nM1, eW, p2.1, leT]
      · rw [e4, if_neg hne]
        simp (disch := omega) only [M1_nI, if_true, leT]
