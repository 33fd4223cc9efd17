/-! ===== 98i: how both begin to read ===== -/
def D0 : Nat → Nat := fun j => if j = 6 then 5 else if j = 7 then 30 else if j = 8 then 20 else if j = 9 then 10 else 0
theorem D0_z {j : Nat} (h : j < 6 ∨ 10 ≤ j) : D0 j = 0 := by
  unfold D0
  rw [if_neg (by omega), if_neg (by omega), if_neg (by omega), if_neg (by omega)]
theorem D0_nt (p q : Nat) : ¬ told D0 p q := fun ⟨k, hk, _⟩ => by
  rw [D0_z (by omega)] at hk
  exact absurd hk (Nat.not_lt_zero _)
theorem VT_D0 : VT D0 := by
  have z : ∀ {j : Nat}, j < 6 ∨ 10 ≤ j → D0 j = 0 := fun h => D0_z h
  refine ⟨by decide, by decide, fun k hk => ?_, fun k l _ hl => ?_, fun a ha => ?_, fun s hs => ?_, fun r hr => ?_, fun g hg => ?_, fun q hq => ?_, fun k => ?_⟩
  · rw [z (by omega)] at hk; omega
  · rw [z (by omega)] at hl; omega
  · rw [z (by omega)] at ha; omega
  · rw [z (by omega)] at hs; omega
  · rw [z (by omega)] at hr; omega
  · rw [z (by omega)] at hg; omega
  · rw [z (by omega)] at hq; omega
  · unfold D0
    split
    · omega
    · split
      · omega
      · split
        · omega
        · split <;> omega
theorem PI_D0 : PI [] D0 := ⟨VT_D0, fun x hx => absurd hx List.not_mem_nil, by decide, fun j a c => D0_z (by omega), fun j a c => D0_z (by omega)⟩
section TS
variable {n : Nat}
theorem C_cl18 {f : Nat} (I : Nat → Nat → Int32) (J : Nat → Nat → Int64) : mX8_clear_L18 (f + 5) (mk n I J) 48 (nI 0) = some (mk n (u2 (u2 (u2 (u2 I 49 6 (nI 5)) 49 7 (nI 30)) 49 8 (nI 20)) 49 9 (nI 10)) J) := by
  have t0 : tI 2 (nI 0) = some (nI 5) := rfl
  have t1 : tI 2 (nI 1) = some (nI 30) := rfl
  have t2 : tI 2 (nI 2) = some (nI 20) := rfl
  have t3 : tI 2 (nI 3) = some (nI 10) := rfl
  have st : ∀ (g w v : Nat) (X : Nat → Nat → Int32), w < 4 → tI 2 (nI w) = some (nI v) → mX8_clear_L18 (g + 1) (mk n X J) 48 (nI w) = mX8_clear_L18 g (mk n (u2 X 49 (6 + w) (nI v)) J) 48 (nI (w + 1)) := fun g w v X hw ht => by
    show mX8_clear_b18 _ _ _ _ = _
    unfold mX8_clear_b18
    simp (disch := omega) only [mk_oO o_48, mk_oO o_94, mk_oO o_98, mk_gR f_48_0, mk_gR f_48_1, mk_gR f_48_2, mk_gR f_48_3, mk_gR f_48_4, mk_gR f_48_5, mk_gR f_48_6, mk_gR f_48_7, mk_gR f_94_0, mk_gR f_94_1, mk_gR f_94_2, mk_gR f_94_3, mk_gR f_94_4, mk_gI f_94_5, mk_pI f_94_5, mk_gI f_94_6, mk_pI f_94_6, mk_gI f_94_7, mk_pI f_94_7, mk_gR f_98_0, mk_gR f_98_1, mk_gI f_98_2, mk_pI f_98_2, mk_gI f_98_3, mk_pI f_98_3, mk_gI f_98_4, mk_pI f_98_4, mk_gI f_98_5, mk_pI f_98_5, mk_gI f_98_6, mk_pI f_98_6, mk_gL f_98_7, mk_pL f_98_7, ↓m_1, ↓m_2, i_0, i_1, i_2, i_3, i_4, i_6, i_5, i_12, i_11, i_10, i_9999, i_7, i_9, i_8, i_24, i_100, i_56, i_48, i_13, i_176, i_232, i_224, i_32, i_999, i_99, i_900, i_97, i_90, i_30, i_20, i_59, i_14, i_50, i_29, i_22, i_19, i_18, i_17, i_96, i_61, i_57, i_51, i_41, i_26, i_2552, i_255, i_25, i_23, i_21, i_16, i_15, i_122, i_10000, i_31, dzF, obs, b2_some, rz0, rz1, rzb, n01, n01', n10, n01e, nI_add, nI_mul, ↓reduceIte, not_false_eq_true, not_true_eq_false, ite_not, leF, ht, mk_sIn a_49]
  have en : ∀ (g : Nat) (X : Nat → Nat → Int32), mX8_clear_L18 (g + 1) (mk n X J) 48 (nI 4) = some (mk n X J) := fun g X => by
    show mX8_clear_b18 _ _ _ _ = _
    unfold mX8_clear_b18
    rw [if_pos (show (4 : Int32) ≤ nI 4 by decide)]
  rw [st (f + 4) 0 5 I (by decide) t0, st (f + 3) 1 30 _ (by decide) t1, st (f + 2) 2 20 _ (by decide) t2, st (f + 1) 3 10 _ (by decide) t3, en]
theorem C_clear (I : Nat → Nat → Int32) (J : Nat → Nat → Int64) : ∃ I', mX8_clear (mk n I J) 48 = some (mk n I' J) ∧ (∀ a c, a ≠ 49 → a ≠ 50 → I' a c = I a c) ∧ WR I' 48 D0 := by
  obtain ⟨I1, e1, f1, z1⟩ := C_fill (n := n) (J := J) (I := I) a_49 (by decide)
  obtain ⟨I2, e2, f2, z2⟩ := C_fill (n := n) (J := J) (I := I1) a_50 (by decide)
  obtain ⟨f, hf⟩ : ∃ f, FU = f + 5 := ⟨FU - 5, by unfold FU; rfl⟩
  have e3 := C_cl18 (n := n) (f := f) I2 J
  rw [← hf] at e3
  refine ⟨u2 (u2 (u2 (u2 I2 49 6 (nI 5)) 49 7 (nI 30)) 49 8 (nI 20)) 49 9 (nI 10), ?_, fun a c y1 y2 => ?_, ?_⟩
  · unfold mX8_clear
    rw [mk_oO o_48, mk_gR f_48_0, obs, show (0 : Int32) = nI 0 from rfl, e1, obs, mk_gR f_48_1, obs, e2, obs]
    exact e3
  · simp (disch := omega) only [u2_no, f2, f1]
  · have z49 : ∀ i, i < 14 → I2 49 i = nI 0 := fun i hi => by rw [f2 _ _ (by omega)]; exact z1 i hi
    refine ⟨fun k hk => ?_, ?_, fun g j hg => ?_, fun g j hg => ?_, fun g j hg => ?_, fun g j hg => ?_, fun g j hg => ?_, fun p hp => ⟨0, by decide, ?_, fun q hq => ?_⟩⟩
    · show _ = nI (D0 k)
      rcases (by omega : k = 6 ∨ k = 7 ∨ k = 8 ∨ k = 9 ∨ (k < 6 ∨ 10 ≤ k)) with rfl | rfl | rfl | rfl | hk2
      · simp (disch := omega) only [u2_no, u2_at]; rfl
      · simp (disch := omega) only [u2_no, u2_at]; rfl
      · simp (disch := omega) only [u2_no, u2_at]; rfl
      · rw [u2_at]; rfl
      · rw [D0_z hk2, u2_no _ _ (by omega), u2_no _ _ (by omega), u2_no _ _ (by omega), u2_no _ _ (by omega)]; exact z49 k (by omega)
    · rw [D0_z (by omega), u2_no _ _ (by omega), u2_no _ _ (by omega), u2_no _ _ (by omega), u2_no _ _ (by omega)]; exact z49 13 (by decide)
    · rw [D0_z (by omega)] at hg; omega
    · rw [D0_z (by omega)] at hg; omega
    · rw [D0_z (by omega)] at hg; omega
    · rw [D0_z (by omega)] at hg; omega
    · rw [D0_z (by omega)] at hg; omega
    · rw [u2_no _ _ (by omega), u2_no _ _ (by omega), u2_no _ _ (by omega), u2_no _ _ (by omega)]; exact z2 p hp
    · rw [Nat.zero_testBit]
      exact ⟨fun z => (by cases z), fun z => absurd z (D0_nt p q)⟩
theorem C_read {b : Nat → Nat} {N : Nat} {I : Nat → Nat → Int32} {J : Nat → Nat → Int64} (hN : N ≤ 900) (hb : ∀ k, k < N → BYv (I 2 k) (b k)) (hG : GR J) : ∃ I' J', mX4_read (mk n I J) 94 (nI N) = some (ansR (rdF b N (N + 1) 0 [] D0 0 0).1 (rdF b N (N + 1) 0 [] D0 0 0).2.1, mk n I' J') ∧ Fw I I' ∧ Gw J J' ∧ ((rdF b N (N + 1) 0 [] D0 0 0).1 = none → PI (rdF b N (N + 1) 0 [] D0 0 0).2.2.1 (rdF b N (N + 1) 0 [] D0 0 0).2.2.2 ∧ NMok (rdF b N (N + 1) 0 [] D0 0 0).2.2.1 ∧ WR I' 48 (rdF b N (N + 1) 0 [] D0 0 0).2.2.2 ∧ SN (rdF b N (N + 1) 0 [] D0 0 0).2.2.1 (rdF b N (N + 1) 0 [] D0 0 0).2.2.2 J') ∧ (∀ f, (rdF b N (N + 1) 0 [] D0 0 0).1 = some f → f < 100000) ∧ (rdF b N (N + 1) 0 [] D0 0 0).2.1 ≤ 900 := by
  obtain ⟨I1, e1, f1, w1⟩ := C_clear (n := n) I J
  have h0 : CRd b N 0 [] (u2 (u2 (u2 (u2 (u2 I1 94 5 (nI 0)) 94 6 (nI 0)) 94 7 (nI 0)) 98 2 (nI N)) 98 3 (nI 0)) J := by
    refine ⟨⟨hN, fun k hk => ?_, ?_, hG⟩, Nat.zero_le _, u2_at _ _ _ _, ?_, ⟨?_, fun k x hk => by cases hk⟩, by decide, fun x hx => absurd hx List.not_mem_nil, fun i j x y _ hi => by cases hi⟩
    · simp (disch := omega) only [u2_no, f1]; exact hb k hk
    · simp (disch := omega) only [u2_no, u2_at]
    · simp (disch := omega) only [u2_no, u2_at]
    · simp (disch := omega) only [u2_no, u2_at]; rfl
  obtain ⟨I3, J3, e3, r3, f3, g3, t3⟩ := A_nxt (n := n) (o := none) h0
  obtain ⟨a4, a5, a6⟩ := t3 rfl
  have w3 : WR I3 48 D0 := w1.scr VT_D0 (fun a c z1 z2 => by simp (disch := omega) only [f3.at, u2_no])
  have hCI : CI b N 0 [] D0 0 I3 J3 := ⟨r3, Nat.zero_le _, a4, a5, a6, w3, ⟨0, by decide, by rw [f3.six]; simp (disch := omega) only [u2_no, u2_at], fun w _ => by rw [Nat.zero_testBit, Nat.zero_testBit]⟩, fun x hx => absurd hx List.not_mem_nil, fun s hs => by rw [D0_z (by omega)] at hs; omega⟩
  obtain ⟨I', J', x1, x2, x3, x4, x5, x6⟩ := C_loop (n := n) (b := b) (N := N) (N + 1) 0 0 FU I3 J3 [] D0 0 (by omega) (by unfold FU; omega) (Nat.le_refl _) PI_D0 hCI
  refine ⟨I', J', ?_, Fw.trans (fun a c z => ?_) x2, Gw.trans g3.gw x3, x4, x5, x6⟩
  · unfold mX4_read mX7_start
    have hmn : mmin (nI N) (Int32.ofNat 900) = nI N := by
      rw [show Int32.ofNat 900 = nI 900 from rfl, mmin_nI (by omega) (by omega), Nat.min_eq_left hN]
    simp (disch := omega) only [mk_oO o_48, mk_oO o_94, mk_oO o_98, mk_gR f_48_0, mk_gR f_48_1, mk_gR f_48_2, mk_gR f_48_3, mk_gR f_48_4, mk_gR f_48_5, mk_gR f_48_6, mk_gR f_48_7, mk_gR f_94_0, mk_gR f_94_1, mk_gR f_94_2, mk_gR f_94_3, mk_gR f_94_4, mk_gI f_94_5, mk_pI f_94_5, mk_gI f_94_6, mk_pI f_94_6, mk_gI f_94_7, mk_pI f_94_7, mk_gR f_98_0, mk_gR f_98_1, mk_gI f_98_2, mk_pI f_98_2, mk_gI f_98_3, mk_pI f_98_3, mk_gI f_98_4, mk_pI f_98_4, mk_gI f_98_5, mk_pI f_98_5, mk_gI f_98_6, mk_pI f_98_6, mk_gL f_98_7, mk_pL f_98_7, ↓m_1, ↓m_2, i_0, i_1, i_2, i_3, i_4, i_6, i_5, i_12, i_11, i_10, i_9999, i_7, i_9, i_8, i_24, i_100, i_56, i_48, i_13, i_176, i_232, i_224, i_32, i_999, i_99, i_900, i_97, i_90, i_30, i_20, i_59, i_14, i_50, i_29, i_22, i_19, i_18, i_17, i_96, i_61, i_57, i_51, i_41, i_26, i_2552, i_255, i_25, i_23, i_21, i_16, i_15, i_122, i_10000, i_31, dzF, obs, b2_some, rz0, rz1, rzb, n01, n01', n10, n01e, nI_add, nI_mul, ↓reduceIte, not_false_eq_true, not_true_eq_false, ite_not, e1, mk_aN a_2, hmn, e3]
    exact x1
  · simp (disch := omega) only [f3.at, u2_no, f1]
theorem R_ruL {J : Nat → Nat → Int64} : ∀ (k t fu : Nat) (I : Nat → Nat → Int32), t + k = 232 → k < fu → (∀ i, i < t → I 226 i = nI 0) → ∃ I', mX10_rules_L2 fu (mk n I J) 226 (nI t) = some (mk n I' J) ∧ (∀ a c, a ≠ 226 → I' a c = I a c) ∧ NR I' 226 0 D0 := by
  intro k
  induction k with
  | zero =>
    intro t fu I ht hf hz
    obtain ⟨fu, rfl⟩ : ∃ f, fu = f + 1 := ⟨fu - 1, by omega⟩
    refine ⟨u2 (u2 (u2 (u2 I 226 6 (nI 5)) 226 7 (nI 30)) 226 8 (nI 20)) 226 9 (nI 10), ?_, fun a c z => by simp (disch := omega) only [u2_no], fun j hj => ?_⟩
    · show mX10_rules_b2 _ _ _ _ = _
      unfold mX10_rules_b2
      simp (disch := omega) only [mk_oO o_224, mk_gI f_224_0, mk_pI f_224_0, mk_gR f_224_1, mk_gR f_224_2, mk_gR f_224_3, mk_gR f_224_4, mk_gR f_224_5, mk_gI f_224_6, mk_pI f_224_6, mk_gR f_224_7, mk_gI f_224_8, mk_pI f_224_8, mk_gI f_224_9, mk_pI f_224_9, mk_gI f_224_10, mk_pI f_224_10, mk_gI f_224_11, mk_pI f_224_11, mk_gI f_224_12, mk_pI f_224_12, mk_gI f_224_13, mk_pI f_224_13, mk_gL f_224_14, mk_pL f_224_14, mk_gI f_224_15, mk_pI f_224_15, mk_gI f_224_16, mk_pI f_224_16, mk_gR f_224_17, mk_gR f_224_18, mk_gR f_224_19, mk_gI f_224_20, mk_pI f_224_20, mk_gR f_224_21, mk_gI f_224_22, mk_pI f_224_22, mk_gI f_224_23, mk_pI f_224_23, mk_gI f_224_24, mk_pI f_224_24, mk_gI f_224_25, mk_pI f_224_25, mk_gR f_224_26, mk_gI f_224_27, mk_pI f_224_27, mk_gI f_224_28, mk_pI f_224_28, mk_gR f_224_29, mk_gI f_224_30, mk_pI f_224_30, mk_gI f_224_31, mk_pI f_224_31, mk_gR f_224_32, mk_gI f_224_33, mk_pI f_224_33, ↓m_1, ↓m_2, i_0, i_1, i_2, i_3, i_4, i_6, i_5, i_12, i_11, i_10, i_9999, i_7, i_9, i_8, i_24, i_100, i_56, i_48, i_13, i_176, i_232, i_224, i_32, i_999, i_99, i_900, i_97, i_90, i_30, i_20, i_59, i_14, i_50, i_29, i_22, i_19, i_18, i_17, i_96, i_61, i_57, i_51, i_41, i_26, i_2552, i_255, i_25, i_23, i_21, i_16, i_15, i_122, i_10000, i_31, dzF, obs, b2_some, rz0, rz1, rzb, n01, n01', n10, n01e, nI_add, nI_mul, ↓reduceIte, not_false_eq_true, not_true_eq_false, ite_not, leT, mk_sIn a_226]
    · rw [Nat.zero_add]
      rcases (by omega : j = 6 ∨ j = 7 ∨ j = 8 ∨ j = 9 ∨ (j < 6 ∨ 10 ≤ j)) with rfl | rfl | rfl | rfl | hk2
      · simp (disch := omega) only [u2_no, u2_at]; rfl
      · simp (disch := omega) only [u2_no, u2_at]; rfl
      · simp (disch := omega) only [u2_no, u2_at]; rfl
      · rw [u2_at]; rfl
      · rw [D0_z hk2, u2_no _ _ (by omega), u2_no _ _ (by omega), u2_no _ _ (by omega), u2_no _ _ (by omega)]; exact hz j (by omega)
  | succ k ih =>
    intro t fu I ht hf hz
    obtain ⟨fu, rfl⟩ : ∃ f, fu = f + 1 := ⟨fu - 1, by omega⟩
    obtain ⟨I', x1, x2, x3⟩ := ih (t + 1) fu (u2 I 226 t (nI 0)) (by omega) (by omega) (fun i hi => by
      by_cases hit : i = t
      · subst hit; exact u2_at _ _ _ _
      · rw [u2_no _ _ (by omega)]; exact hz i (by omega))
    refine ⟨I', ?_, fun a c z => by rw [x2 a c z, u2_no _ _ (by omega)], x3⟩
    rw [← x1]
    show mX10_rules_b2 _ _ _ _ = _
    unfold mX10_rules_b2
    simp (disch := omega) only [mk_oO o_224, mk_gI f_224_0, mk_pI f_224_0, mk_gR f_224_1, mk_gR f_224_2, mk_gR f_224_3, mk_gR f_224_4, mk_gR f_224_5, mk_gI f_224_6, mk_pI f_224_6, mk_gR f_224_7, mk_gI f_224_8, mk_pI f_224_8, mk_gI f_224_9, mk_pI f_224_9, mk_gI f_224_10, mk_pI f_224_10, mk_gI f_224_11, mk_pI f_224_11, mk_gI f_224_12, mk_pI f_224_12, mk_gI f_224_13, mk_pI f_224_13, mk_gL f_224_14, mk_pL f_224_14, mk_gI f_224_15, mk_pI f_224_15, mk_gI f_224_16, mk_pI f_224_16, mk_gR f_224_17, mk_gR f_224_18, mk_gR f_224_19, mk_gI f_224_20, mk_pI f_224_20, mk_gR f_224_21, mk_gI f_224_22, mk_pI f_224_22, mk_gI f_224_23, mk_pI f_224_23, mk_gI f_224_24, mk_pI f_224_24, mk_gI f_224_25, mk_pI f_224_25, mk_gR f_224_26, mk_gI f_224_27, mk_pI f_224_27, mk_gI f_224_28, mk_pI f_224_28, mk_gR f_224_29, mk_gI f_224_30, mk_pI f_224_30, mk_gI f_224_31, mk_pI f_224_31, mk_gR f_224_32, mk_gI f_224_33, mk_pI f_224_33, ↓m_1, ↓m_2, i_0, i_1, i_2, i_3, i_4, i_6, i_5, i_12, i_11, i_10, i_9999, i_7, i_9, i_8, i_24, i_100, i_56, i_48, i_13, i_176, i_232, i_224, i_32, i_999, i_99, i_900, i_97, i_90, i_30, i_20, i_59, i_14, i_50, i_29, i_22, i_19, i_18, i_17, i_96, i_61, i_57, i_51, i_41, i_26, i_2552, i_255, i_25, i_23, i_21, i_16, i_15, i_122, i_10000, i_31, dzF, obs, b2_some, rz0, rz1, rzb, n01, n01', n10, n01e, nI_add, nI_mul, ↓reduceIte, not_false_eq_true, not_true_eq_false, ite_not, leF, mk_sIn a_226]
theorem R_text {b : Nat → Nat} {N p : Nat} {I : Nat → Nat → Int32} {J : Nat → Nat → Int64} (hN : N ≤ p) (hp : p ≤ 900) (h8 : I 224 8 = nI p) (hb : ∀ k, k < N → b k < 256 ∧ I 230 k &&& nI 255 = nI (b k)) : ∃ I' J', mX10_text (mk n I J) 224 (nI N) = mX10_text_L64 FU (mk n I' J') 224 (nI 0) ∧ RRd b N 0 [] I' J' ∧ NR I' 226 0 D0 ∧ RB I' 0 ∧ I' 224 8 = nI 0 ∧ (∀ a c, ¬ (a = 224 ∧ c = 0) → ¬ (a = 224 ∧ ((8 ≤ c ∧ c ≤ 16) ∨ c = 20 ∨ c = 22)) → a ≠ 226 → I' a c = I a c) ∧ Gq J J' := by
  obtain ⟨I1, e1, f1, n1⟩ := R_ruL (n := n) (J := J) 232 0 FU (u2 (u2 (u2 (u2 (u2 (u2 (u2 I 224 0 (nI 0)) 224 9 (nI N)) 224 8 (nI 0)) 224 11 (nI 0)) 224 15 (nI 0)) 224 20 (nI 0)) 224 22 (nI 0)) (by omega) (by unfold FU; omega) (fun i hi => by omega)
  have hTK : TKr b N I1 := ⟨by omega, fun k hk => by simp (disch := omega) only [f1, u2_no]; exact hb k hk, by simp (disch := omega) only [f1, u2_no, u2_at]⟩
  obtain ⟨I2, J2, e2, f2, g2, t2⟩ := R_go (n := n) (J := J) hTK (q := 0) (Nat.zero_le _) (by simp (disch := omega) only [f1, u2_no, u2_at])
  refine ⟨I2, J2, ?_, ⟨hTK.fg f2, Nat.zero_le _, t2, ?_, ⟨?_, fun k x hk => by cases hk⟩, by decide, fun x hx => absurd hx List.not_mem_nil, fun i j x y _ hi => by cases hi⟩, fun j hj => by rw [f2.d _ _ (by omega)]; exact n1 j hj, ⟨0, by decide, ?_, fun w _ => by rw [Nat.zero_testBit, Nat.zero_testBit]⟩, ?_, fun a c z1 z2 z3 => ?_, g2.gq⟩
  · have hr : mX10_rules (mk n (u2 (u2 (u2 (u2 (u2 (u2 (u2 I 224 0 (nI 0)) 224 9 (nI N)) 224 8 (nI 0)) 224 11 (nI 0)) 224 15 (nI 0)) 224 20 (nI 0)) 224 22 (nI 0)) J) 226 = some (mk n I1 J) := e1
    unfold mX10_text
    simp (disch := omega) only [mk_oO o_224, mk_gI f_224_0, mk_pI f_224_0, mk_gR f_224_1, mk_gR f_224_2, mk_gR f_224_3, mk_gR f_224_4, mk_gR f_224_5, mk_gI f_224_6, mk_pI f_224_6, mk_gR f_224_7, mk_gI f_224_8, mk_pI f_224_8, mk_gI f_224_9, mk_pI f_224_9, mk_gI f_224_10, mk_pI f_224_10, mk_gI f_224_11, mk_pI f_224_11, mk_gI f_224_12, mk_pI f_224_12, mk_gI f_224_13, mk_pI f_224_13, mk_gL f_224_14, mk_pL f_224_14, mk_gI f_224_15, mk_pI f_224_15, mk_gI f_224_16, mk_pI f_224_16, mk_gR f_224_17, mk_gR f_224_18, mk_gR f_224_19, mk_gI f_224_20, mk_pI f_224_20, mk_gR f_224_21, mk_gI f_224_22, mk_pI f_224_22, mk_gI f_224_23, mk_pI f_224_23, mk_gI f_224_24, mk_pI f_224_24, mk_gI f_224_25, mk_pI f_224_25, mk_gR f_224_26, mk_gI f_224_27, mk_pI f_224_27, mk_gI f_224_28, mk_pI f_224_28, mk_gR f_224_29, mk_gI f_224_30, mk_pI f_224_30, mk_gI f_224_31, mk_pI f_224_31, mk_gR f_224_32, mk_gI f_224_33, mk_pI f_224_33, ↓m_1, ↓m_2, i_0, i_1, i_2, i_3, i_4, i_6, i_5, i_12, i_11, i_10, i_9999, i_7, i_9, i_8, i_24, i_100, i_56, i_48, i_13, i_176, i_232, i_224, i_32, i_999, i_99, i_900, i_97, i_90, i_30, i_20, i_59, i_14, i_50, i_29, i_22, i_19, i_18, i_17, i_96, i_61, i_57, i_51, i_41, i_26, i_2552, i_255, i_25, i_23, i_21, i_16, i_15, i_122, i_10000, i_31, l_0, dzF, obs, b2_some, rz0, rz1, rzb, n01, n01', n10, n01e, nI_add, nI_mul, ↓reduceIte, not_false_eq_true, not_true_eq_false, ite_not, u2_no, h8, nI_l, within1, hr, e2]
    have w := within1 (h := mk n (u2 I 224 0 (nI 0)) J) (a := 0) (i := N) (m := p) (by omega) hN (by omega)
    simp (disch := omega) only [nI_l] at w
    simp (disch := omega) only [mk_oO o_224, mk_gI f_224_0, mk_pI f_224_0, mk_gR f_224_1, mk_gR f_224_2, mk_gR f_224_3, mk_gR f_224_4, mk_gR f_224_5, mk_gI f_224_6, mk_pI f_224_6, mk_gR f_224_7, mk_gI f_224_8, mk_pI f_224_8, mk_gI f_224_9, mk_pI f_224_9, mk_gI f_224_10, mk_pI f_224_10, mk_gI f_224_11, mk_pI f_224_11, mk_gI f_224_12, mk_pI f_224_12, mk_gI f_224_13, mk_pI f_224_13, mk_gL f_224_14, mk_pL f_224_14, mk_gI f_224_15, mk_pI f_224_15, mk_gI f_224_16, mk_pI f_224_16, mk_gR f_224_17, mk_gR f_224_18, mk_gR f_224_19, mk_gI f_224_20, mk_pI f_224_20, mk_gR f_224_21, mk_gI f_224_22, mk_pI f_224_22, mk_gI f_224_23, mk_pI f_224_23, mk_gI f_224_24, mk_pI f_224_24, mk_gI f_224_25, mk_pI f_224_25, mk_gR f_224_26, mk_gI f_224_27, mk_pI f_224_27, mk_gI f_224_28, mk_pI f_224_28, mk_gR f_224_29, mk_gI f_224_30, mk_pI f_224_30, mk_gI f_224_31, mk_pI f_224_31, mk_gR f_224_32, mk_gI f_224_33, mk_pI f_224_33, ↓m_1, ↓m_2, i_0, i_1, i_2, i_3, i_4, i_6, i_5, i_12, i_11, i_10, i_9999, i_7, i_9, i_8, i_24, i_100, i_56, i_48, i_13, i_176, i_232, i_224, i_32, i_999, i_99, i_900, i_97, i_90, i_30, i_20, i_59, i_14, i_50, i_29, i_22, i_19, i_18, i_17, i_96, i_61, i_57, i_51, i_41, i_26, i_2552, i_255, i_25, i_23, i_21, i_16, i_15, i_122, i_10000, i_31, l_0, dzF, obs, b2_some, rz0, rz1, rzb, n01, n01', n10, n01e, nI_add, nI_mul, ↓reduceIte, not_false_eq_true, not_true_eq_false, ite_not, w, hr, e2]
  · rw [f2 _ _ (by omega)]; simp (disch := omega) only [f1, u2_no, u2_at]
  · rw [f2 _ _ (by omega)]; simp (disch := omega) only [f1, u2_no, u2_at]; rfl
  · rw [f2 _ _ (by omega)]; simp (disch := omega) only [f1, u2_no, u2_at]
  · rw [f2 _ _ (by omega)]; simp (disch := omega) only [f1, u2_no, u2_at]
  · rw [f2 _ _ (by omega)]; simp (disch := omega) only [f1, u2_no]
end TS
