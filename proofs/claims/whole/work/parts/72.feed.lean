/-! ===== 72: feed ===== -/
def M8 : Int32 := -8
theorem m_8 : (-8 : Int32) = M8 := id rfl
theorem e24 : nI 24 + M8 = nI 16 := by decide
theorem e16 : nI 16 + M8 = nI 8 := by decide
theorem e8 : nI 8 + M8 = nI 0 := by decide
theorem e0 : (nI 0 + M8 < nI 0) = True := eq_true (by decide)
/-- a byte of a number -/
def bt (x : Int32) (s : Nat) : Int32 := vp_nar .byte (Int8.toInt32 (Int32.toInt8 (x >>> (nI s &&& nI 31))))
theorem bt_eq (x : Int32) (s : Nat) : vp_nar .byte (Int8.toInt32 (Int32.toInt8 (x >>> (nI s &&& nI 31)))) = bt x s := rfl
theorem nar_byte (x : Int8) : vp_nar .byte x.toInt32 = x.toInt32 := by
  show (x.toInt32).toInt8.toInt32 = x.toInt32
  rw [Int8.toInt8_toInt32]
theorem bt_ok (x : Int32) (s : Nat) : (bt x s).toInt8.toInt32 = bt x s := by
  unfold bt
  rw [nar_byte, Int8.toInt8_toInt32]
section FE
variable {n : Nat} {J : Nat → Nat → Int64}
/-- four bytes lie at p and on of cell k -/
def by4 (I : Nat → Nat → Int32) (k p : Nat) (x : Int32) : Prop := I k p = bt x 24 ∧ I k (p + 1) = bt x 16 ∧ I k (p + 2) = bt x 8 ∧ I k (p + 3) = bt x 0
theorem C_tadd {I : Nat → Nat → Int32} {p : Nat} (hp : p + 4 ≤ 900) (e : I 1 1 = nI p) (x : Int32) : ∃ I', mX6_add (mk n I J) 1 x = some (mk n I' J) ∧ I' 1 1 = nI (p + 4) ∧ (∀ a c, ¬ (a = 1 ∧ c = 1) → ¬ (a = 2 ∧ p ≤ c ∧ c < p + 4) → I' a c = I a c) ∧ by4 I' 2 p x := by
  obtain ⟨f, hf⟩ : ∃ f, FU = f + 5 := ⟨19995, rfl⟩
  refine ⟨u2 (u2 (u2 (u2 (u2 (u2 (u2 (u2 I 2 p (bt x 24)) 1 1 (nI (p + 1))) 2 (p + 1) (bt x 16)) 1 1 (nI (p + 1 + 1))) 2 (p + 1 + 1) (bt x 8)) 1 1 (nI (p + 1 + 1 + 1))) 2 (p + 1 + 1 + 1) (bt x 0)) 1 1 (nI (p + 1 + 1 + 1 + 1)), ?_, u2_at _ _ _ _, fun a c h1 h2 => ?_, ?_⟩
  · unfold mX6_add
    rw [hf]
    simp (disch := omega) only [mX6_add_L3, mX6_add_b3, mk_oO o_0, mk_oO o_1, mk_oO o_3, mk_gR f_0_0, mk_gR f_0_1, mk_gR f_0_2, mk_gR f_0_3, mk_gR f_0_4, mk_gR f_0_5, mk_gR f_0_6, mk_gR f_0_7, mk_gR f_0_8, mk_gR f_0_9, mk_gI f_0_10, mk_pI f_0_10, mk_gR f_1_0, mk_gI f_1_1, mk_pI f_1_1, mk_gR f_3_0, mk_gR f_3_1, mk_gR f_3_2, mk_gR f_3_3, mk_gR f_3_4, mk_gR f_3_5, mk_gR f_3_6, mk_gR f_3_7, ↓m_8, ↓m_1, ↓m_2, i_0, i_1, i_2, i_3, i_4, i_6, i_5, i_12, i_11, i_10, i_9999, i_7, i_9, i_8, i_24, i_100, i_56, i_48, i_13, i_176, i_232, i_224, i_32, i_999, i_99, i_900, i_97, i_90, i_30, i_20, i_59, i_14, i_50, i_29, i_22, i_19, i_18, i_17, i_96, i_61, i_57, i_51, i_41, i_26, i_2552, i_255, i_25, i_23, i_21, i_16, i_15, i_122, i_10000, i_31, dzF, obs, b2_some, rz0, rz1, rzb, n01, n01', n10, n01e, nI_add, nI_mul, ↓reduceIte, not_false_eq_true, not_true_eq_false, ite_not, nlt0, e, u2_at, u2_no, leF, mk_sBn a_2, bt_eq, e24, e16, e8, e0]
  · rw [u2_no _ _ (by omega), u2_no _ _ (by omega), u2_no _ _ (by omega), u2_no _ _ (by omega), u2_no _ _ (by omega), u2_no _ _ (by omega), u2_no _ _ (by omega), u2_no _ _ (by omega)]
  · refine ⟨?_, ?_, ?_, ?_⟩
    · rw [u2_no _ _ (by omega), u2_no _ _ (by omega), u2_no _ _ (by omega), u2_no _ _ (by omega), u2_no _ _ (by omega), u2_no _ _ (by omega), u2_no _ _ (by omega), u2_at]
    · rw [u2_no _ _ (by omega), u2_no _ _ (by omega), u2_no _ _ (by omega), u2_no _ _ (by omega), u2_no _ _ (by omega), u2_at]
    · rw [u2_no _ _ (by omega), u2_no _ _ (by omega), u2_no _ _ (by omega), u2_at]
    · rw [u2_no _ _ (by omega), u2_at]
theorem R_puts {I : Nat → Nat → Int32} {p : Nat} (hp : p + 4 ≤ 900) (e : I 224 8 = nI p) (x : Int32) : ∃ I', mX10_puts (mk n I J) 224 x = some (mk n I' J) ∧ I' 224 8 = nI (p + 4) ∧ (∀ a c, ¬ (a = 224 ∧ c = 8) → ¬ (a = 230 ∧ p ≤ c ∧ c < p + 4) → I' a c = I a c) ∧ by4 I' 230 p x := by
  obtain ⟨f, hf⟩ : ∃ f, FU = f + 5 := ⟨19995, rfl⟩
  refine ⟨u2 (u2 (u2 (u2 (u2 (u2 (u2 (u2 I 230 p (bt x 24)) 224 8 (nI (p + 1))) 230 (p + 1) (bt x 16)) 224 8 (nI (p + 1 + 1))) 230 (p + 1 + 1) (bt x 8)) 224 8 (nI (p + 1 + 1 + 1))) 230 (p + 1 + 1 + 1) (bt x 0)) 224 8 (nI (p + 1 + 1 + 1 + 1)), ?_, u2_at _ _ _ _, fun a c h1 h2 => ?_, ?_⟩
  · unfold mX10_puts
    rw [hf]
    simp (disch := omega) only [mX10_puts_L3, mX10_puts_b3, mk_oO o_224, mk_gI f_224_0, mk_pI f_224_0, mk_gR f_224_1, mk_gR f_224_2, mk_gR f_224_3, mk_gR f_224_4, mk_gR f_224_5, mk_gI f_224_6, mk_pI f_224_6, mk_gR f_224_7, mk_gI f_224_8, mk_pI f_224_8, mk_gI f_224_9, mk_pI f_224_9, mk_gI f_224_10, mk_pI f_224_10, mk_gI f_224_11, mk_pI f_224_11, mk_gI f_224_12, mk_pI f_224_12, mk_gI f_224_13, mk_pI f_224_13, mk_gL f_224_14, mk_pL f_224_14, mk_gI f_224_15, mk_pI f_224_15, mk_gI f_224_16, mk_pI f_224_16, mk_gR f_224_17, mk_gR f_224_18, mk_gR f_224_19, mk_gI f_224_20, mk_pI f_224_20, mk_gR f_224_21, mk_gI f_224_22, mk_pI f_224_22, mk_gI f_224_23, mk_pI f_224_23, mk_gI f_224_24, mk_pI f_224_24, mk_gI f_224_25, mk_pI f_224_25, mk_gR f_224_26, mk_gI f_224_27, mk_pI f_224_27, mk_gI f_224_28, mk_pI f_224_28, mk_gR f_224_29, mk_gI f_224_30, mk_pI f_224_30, mk_gI f_224_31, mk_pI f_224_31, mk_gR f_224_32, mk_gI f_224_33, mk_pI f_224_33, ↓m_8, ↓m_1, ↓m_2, i_0, i_1, i_2, i_3, i_4, i_6, i_5, i_12, i_11, i_10, i_9999, i_7, i_9, i_8, i_24, i_100, i_56, i_48, i_13, i_176, i_232, i_224, i_32, i_999, i_99, i_900, i_97, i_90, i_30, i_20, i_59, i_14, i_50, i_29, i_22, i_19, i_18, i_17, i_96, i_61, i_57, i_51, i_41, i_26, i_2552, i_255, i_25, i_23, i_21, i_16, i_15, i_122, i_10000, i_31, dzF, obs, b2_some, rz0, rz1, rzb, n01, n01', n10, n01e, nI_add, nI_mul, ↓reduceIte, not_false_eq_true, not_true_eq_false, ite_not, nlt0, e, u2_at, u2_no, mk_sBn a_230, bt_eq, e24, e16, e8, e0]
  · rw [u2_no _ _ (by omega), u2_no _ _ (by omega), u2_no _ _ (by omega), u2_no _ _ (by omega), u2_no _ _ (by omega), u2_no _ _ (by omega), u2_no _ _ (by omega), u2_no _ _ (by omega)]
  · refine ⟨?_, ?_, ?_, ?_⟩
    · rw [u2_no _ _ (by omega), u2_no _ _ (by omega), u2_no _ _ (by omega), u2_no _ _ (by omega), u2_no _ _ (by omega), u2_no _ _ (by omega), u2_no _ _ (by omega), u2_at]
    · rw [u2_no _ _ (by omega), u2_no _ _ (by omega), u2_no _ _ (by omega), u2_no _ _ (by omega), u2_no _ _ (by omega), u2_at]
    · rw [u2_no _ _ (by omega), u2_no _ _ (by omega), u2_no _ _ (by omega), u2_at]
    · rw [u2_no _ _ (by omega), u2_at]
theorem by4.kept {I I' : Nat → Nat → Int32} {k p : Nat} {x : Int32} (h : by4 I k p x) (hf : ∀ c, p ≤ c → c < p + 4 → I' k c = I k c) : by4 I' k p x := ⟨by rw [hf _ (by omega) (by omega)]; exact h.1, by rw [hf _ (by omega) (by omega)]; exact h.2.1, by rw [hf _ (by omega) (by omega)]; exact h.2.2.1, by rw [hf _ (by omega) (by omega)]; exact h.2.2.2⟩
/-- both tapes have the same four bytes -/
theorem by4.two {I I' : Nat → Nat → Int32} {p : Nat} {x : Int32} (h : by4 I 2 p x) (h' : by4 I' 230 p x) {k : Nat} (h1 : p ≤ k) (h2 : k < p + 4) : I 2 k = I' 230 k ∧ (I 2 k).toInt8.toInt32 = I 2 k := by
  obtain ⟨a1, a2, a3, a4⟩ := h
  obtain ⟨c1, c2, c3, c4⟩ := h'
  rcases (by omega : k = p ∨ k = p + 1 ∨ k = p + 2 ∨ k = p + 3) with rfl | rfl | rfl | rfl
  · rw [a1, c1]; exact ⟨rfl, bt_ok _ _⟩
  · rw [a2, c2]; exact ⟨rfl, bt_ok _ _⟩
  · rw [a3, c3]; exact ⟨rfl, bt_ok _ _⟩
  · rw [a4, c4]; exact ⟨rfl, bt_ok _ _⟩
end FE
set_option maxHeartbeats 4000000 in
theorem sim_feed : SIM_feed Inv 0 224 := by
  intro h x1 x2 x3 x4 x5 hI
  obtain ⟨n, I, J, rfl, T, hI⟩ := hI
  have hI : INVT I J T := hI
  obtain ⟨hT, hN, hW, ⟨p, p1, p2, p3, p4⟩, hM, hK0, hK1, hA, hG, hg⟩ := id hI
  have p3' : u2 I 224 0 (nI 0) 224 8 = nI p := by rw [u2_no _ _ (by omega)]; exact p3
  unfold mX9_feed mX10_feed
  by_cases hp : p + 20 ≤ 900
  · obtain ⟨A1, e1, a1, f1, y1⟩ := C_tadd (n := n) (J := J) (I := I) (p := p) (by omega) p2 x1
    obtain ⟨A2, e2, a2, f2, y2⟩ := C_tadd (n := n) (J := J) (I := A1) (p := p + 4) (by omega) a1 x2
    obtain ⟨A3, e3, a3, f3, y3⟩ := C_tadd (n := n) (J := J) (I := A2) (p := p + 4 + 4) (by omega) a2 x3
    obtain ⟨A4, e4, a4, f4, y4⟩ := C_tadd (n := n) (J := J) (I := A3) (p := p + 4 + 4 + 4) (by omega) a3 x4
    obtain ⟨A5, e5, a5, f5, y5⟩ := C_tadd (n := n) (J := J) (I := A4) (p := p + 4 + 4 + 4 + 4) (by omega) a4 x5
    have fA : ∀ a c, ¬ (a = 1 ∧ c = 1) → ¬ (a = 2 ∧ p ≤ c ∧ c < p + 20) → A5 a c = I a c := fun a c k1 k2 => by
      rw [f5 _ _ k1 (by omega), f4 _ _ k1 (by omega), f3 _ _ k1 (by omega), f2 _ _ k1 (by omega), f1 _ _ k1 (by omega)]
    have q0 : u2 A5 224 0 (nI 0) 224 8 = nI p := by rw [u2_no _ _ (by omega), fA _ _ (by omega) (by omega)]; exact p3
    obtain ⟨B1, d1, b1, g1, z1⟩ := R_puts (n := n) (J := J) (I := u2 A5 224 0 (nI 0)) (p := p) (by omega) q0 x1
    obtain ⟨B2, d2, b2, g2, z2⟩ := R_puts (n := n) (J := J) (I := B1) (p := p + 4) (by omega) b1 x2
    obtain ⟨B3, d3, b3, g3, z3⟩ := R_puts (n := n) (J := J) (I := B2) (p := p + 4 + 4) (by omega) b2 x3
    obtain ⟨B4, d4, b4, g4, z4⟩ := R_puts (n := n) (J := J) (I := B3) (p := p + 4 + 4 + 4) (by omega) b3 x4
    obtain ⟨B5, d5, b5, g5, z5⟩ := R_puts (n := n) (J := J) (I := B4) (p := p + 4 + 4 + 4 + 4) (by omega) b4 x5
    have gB : ∀ a c, ¬ (a = 224 ∧ c = 8) → ¬ (a = 224 ∧ c = 0) → ¬ (a = 230 ∧ p ≤ c ∧ c < p + 20) → B5 a c = A5 a c := fun a c k1 k3 k2 => by
      rw [g5 _ _ k1 (by omega), g4 _ _ k1 (by omega), g3 _ _ k1 (by omega), g2 _ _ k1 (by omega), g1 _ _ k1 (by omega), u2_no _ _ (by omega)]
    have fr : ∀ a c, ¬ (a = 224 ∧ c = 8) → ¬ (a = 224 ∧ c = 0) → ¬ (a = 1 ∧ c = 1) → ¬ (a = 230 ∧ p ≤ c ∧ c < p + 20) → ¬ (a = 2 ∧ p ≤ c ∧ c < p + 20) → B5 a c = I a c := fun a c k1 k2 k3 k4 k5 => by rw [gB _ _ k1 k2 k4, fA _ _ k3 k5]
    refine ⟨nI (p + 4 + 4 + 4 + 4 + 4), mk n A5 J, mk n B5 J, ?_, ?_, Inv.of ?_⟩
    · simp (disch := omega) only [mk_oO o_0, mk_oO o_1, mk_oO o_3, mk_gR f_0_0, mk_gR f_0_1, mk_gR f_0_2, mk_gR f_0_3, mk_gR f_0_4, mk_gR f_0_5, mk_gR f_0_6, mk_gR f_0_7, mk_gR f_0_8, mk_gR f_0_9, mk_gI f_0_10, mk_pI f_0_10, mk_gR f_1_0, mk_gI f_1_1, mk_pI f_1_1, mk_gR f_3_0, mk_gR f_3_1, mk_gR f_3_2, mk_gR f_3_3, mk_gR f_3_4, mk_gR f_3_5, mk_gR f_3_6, mk_gR f_3_7, ↓m_1, ↓m_2, i_0, i_1, i_2, i_3, i_4, i_6, i_5, i_12, i_11, i_10, i_9999, i_7, i_9, i_8, i_24, i_100, i_56, i_48, i_13, i_176, i_232, i_224, i_32, i_999, i_99, i_900, i_97, i_90, i_30, i_20, i_59, i_14, i_50, i_29, i_22, i_19, i_18, i_17, i_96, i_61, i_57, i_51, i_41, i_26, i_2552, i_255, i_25, i_23, i_21, i_16, i_15, i_122, i_10000, i_31, dzF, obs, b2_some, rz0, rz1, rzb, n01, n01', n10, n01e, nI_add, nI_mul, ↓reduceIte, not_false_eq_true, not_true_eq_false, ite_not, p2, leT, e1, e2, e3, e4, e5, a5]
    · simp (disch := omega) only [mk_oO o_224, mk_gI f_224_0, mk_pI f_224_0, mk_gR f_224_1, mk_gR f_224_2, mk_gR f_224_3, mk_gR f_224_4, mk_gR f_224_5, mk_gI f_224_6, mk_pI f_224_6, mk_gR f_224_7, mk_gI f_224_8, mk_pI f_224_8, mk_gI f_224_9, mk_pI f_224_9, mk_gI f_224_10, mk_pI f_224_10, mk_gI f_224_11, mk_pI f_224_11, mk_gI f_224_12, mk_pI f_224_12, mk_gI f_224_13, mk_pI f_224_13, mk_gL f_224_14, mk_pL f_224_14, mk_gI f_224_15, mk_pI f_224_15, mk_gI f_224_16, mk_pI f_224_16, mk_gR f_224_17, mk_gR f_224_18, mk_gR f_224_19, mk_gI f_224_20, mk_pI f_224_20, mk_gR f_224_21, mk_gI f_224_22, mk_pI f_224_22, mk_gI f_224_23, mk_pI f_224_23, mk_gI f_224_24, mk_pI f_224_24, mk_gI f_224_25, mk_pI f_224_25, mk_gR f_224_26, mk_gI f_224_27, mk_pI f_224_27, mk_gI f_224_28, mk_pI f_224_28, mk_gR f_224_29, mk_gI f_224_30, mk_pI f_224_30, mk_gI f_224_31, mk_pI f_224_31, mk_gR f_224_32, mk_gI f_224_33, mk_pI f_224_33, ↓m_1, ↓m_2, i_0, i_1, i_2, i_3, i_4, i_6, i_5, i_12, i_11, i_10, i_9999, i_7, i_9, i_8, i_24, i_100, i_56, i_48, i_13, i_176, i_232, i_224, i_32, i_999, i_99, i_900, i_97, i_90, i_30, i_20, i_59, i_14, i_50, i_29, i_22, i_19, i_18, i_17, i_96, i_61, i_57, i_51, i_41, i_26, i_2552, i_255, i_25, i_23, i_21, i_16, i_15, i_122, i_10000, i_31, dzF, obs, b2_some, rz0, rz1, rzb, n01, n01', n10, n01e, nI_add, nI_mul, ↓reduceIte, not_false_eq_true, not_true_eq_false, ite_not, q0, leT, d1, d2, d3, d4, d5, b5]
    · obtain ⟨u, nx, P, u1, nx1, q1, q2, q3, hP0, hP⟩ := hA
      have kp : ∀ k b, (b = 134 ∧ k = 0) ∨ (b = 179 ∧ k = 1) → KP I J T k b → KP B5 J T k b := by
        intro k b hb hk
        have g1 : B5 229 k = I 229 k := fr _ _ (by omega) (by omega) (by omega) (by omega) (by omega)
        have g2 : B5 0 10 = I 0 10 := fr _ _ (by omega) (by omega) (by omega) (by omega) (by omega)
        refine ⟨by rw [g1, g2]; exact hk.1, fun hz => ?_⟩
        rw [g1] at hz
        obtain ⟨K, k1, k2, k3, k4, k5⟩ := hk.2 hz
        exact ⟨K, k1, k2, k3.scr k1 (fun a c h1 h2 => fr _ _ (by omega) (by omega) (by omega) (by omega) (by omega)), fun j hj => by rw [fr _ _ (by omega) (by omega) (by omega) (by omega) (by omega)]; exact k4 j hj, k5⟩
      refine ⟨T, hT, fun j hj => by rw [fr _ _ (by omega) (by omega) (by omega) (by omega) (by omega)]; exact hN j hj, hW.scr hT (fun a c k1 k2 => fr _ _ (by omega) (by omega) (by omega) (by omega) (by omega)), ⟨p + 4 + 4 + 4 + 4 + 4, by omega, ?_, b5, fun k hk => ?_⟩, hM, kp 0 134 (by omega) hK0, kp 1 179 (by omega) hK1, ⟨u, nx, P, u1, nx1, by rw [fr _ _ (by omega) (by omega) (by omega) (by omega) (by omega)]; exact q1, by rw [fr _ _ (by omega) (by omega) (by omega) (by omega) (by omega)]; exact q2, by rw [fr _ _ (by omega) (by omega) (by omega) (by omega) (by omega)]; exact q3, hP0, fun j hj => ?_⟩, hG, by rw [fr _ _ (by omega) (by omega) (by omega) (by omega) (by omega)]; exact hg⟩
      · rw [gB _ _ (by omega) (by omega) (by omega)]; exact a5
      · rw [gB 2 k (by omega) (by omega) (by omega)]
        by_cases k1 : k < p
        · rw [fA 2 k (by omega) (by omega), fr 230 k (by omega) (by omega) (by omega) (by omega) (by omega)]
          exact p4 k k1
        · rcases (by omega : (p ≤ k ∧ k < p + 4) ∨ (p + 4 ≤ k ∧ k < p + 4 + 4) ∨ (p + 4 + 4 ≤ k ∧ k < p + 4 + 4 + 4) ∨ (p + 4 + 4 + 4 ≤ k ∧ k < p + 4 + 4 + 4 + 4) ∨ (p + 4 + 4 + 4 + 4 ≤ k ∧ k < p + 4 + 4 + 4 + 4 + 4)) with w | w | w | w | w
          · rw [f5 _ _ (by omega) (by omega), f4 _ _ (by omega) (by omega), f3 _ _ (by omega) (by omega), f2 _ _ (by omega) (by omega), g5 _ _ (by omega) (by omega), g4 _ _ (by omega) (by omega), g3 _ _ (by omega) (by omega), g2 _ _ (by omega) (by omega)]
            exact y1.two z1 w.1 w.2
          · rw [f5 _ _ (by omega) (by omega), f4 _ _ (by omega) (by omega), f3 _ _ (by omega) (by omega), g5 _ _ (by omega) (by omega), g4 _ _ (by omega) (by omega), g3 _ _ (by omega) (by omega)]
            exact y2.two z2 w.1 w.2
          · rw [f5 _ _ (by omega) (by omega), f4 _ _ (by omega) (by omega), g5 _ _ (by omega) (by omega), g4 _ _ (by omega) (by omega)]
            exact y3.two z3 w.1 w.2
          · rw [f5 _ _ (by omega) (by omega), g5 _ _ (by omega) (by omega)]
            exact y4.two z4 w.1 w.2
          · exact y5.two z5 w.1 w.2
      · obtain ⟨y1, y2, y3, y4⟩ := hP j hj
        refine ⟨y1, y2, fun i hi => by rw [fr _ _ (by omega) (by omega) (by omega) (by omega) (by omega)]; exact y3 i hi, ?_⟩
        rw [show B5 (120 + (nx + 23 - j) % 12) = I (120 + (nx + 23 - j) % 12) from funext fun c => fr _ _ (by omega) (by omega) (by omega) (by omega) (by omega)]
        exact y4
  · refine ⟨M1, mk n I J, _, ?_, ?_, hI.inv.fin0 (n := n) (x := nI 0) (scrt.refl I J)⟩
    · simp (disch := omega) only [mk_oO o_0, mk_oO o_1, mk_oO o_3, mk_gR f_0_0, mk_gR f_0_1, mk_gR f_0_2, mk_gR f_0_3, mk_gR f_0_4, mk_gR f_0_5, mk_gR f_0_6, mk_gR f_0_7, mk_gR f_0_8, mk_gR f_0_9, mk_gI f_0_10, mk_pI f_0_10, mk_gR f_1_0, mk_gI f_1_1, mk_pI f_1_1, mk_gR f_3_0, mk_gR f_3_1, mk_gR f_3_2, mk_gR f_3_3, mk_gR f_3_4, mk_gR f_3_5, mk_gR f_3_6, mk_gR f_3_7, ↓m_1, ↓m_2, i_0, i_1, i_2, i_3, i_4, i_6, i_5, i_12, i_11, i_10, i_9999, i_7, i_9, i_8, i_24, i_100, i_56, i_48, i_13, i_176, i_232, i_224, i_32, i_999, i_99, i_900, i_97, i_90, i_30, i_20, i_59, i_14, i_50, i_29, i_22, i_19, i_18, i_17, i_96, i_61, i_57, i_51, i_41, i_26, i_2552, i_255, i_25, i_23, i_21, i_16, i_15, i_122, i_10000, i_31, dzF, obs, b2_some, rz0, rz1, rzb, n01, n01', n10, n01e, nI_add, nI_mul, ↓reduceIte, not_false_eq_true, not_true_eq_false, ite_not, p2, leF]
    · simp (disch := omega) only [mk_oO o_224, mk_gI f_224_0, mk_pI f_224_0, mk_gR f_224_1, mk_gR f_224_2, mk_gR f_224_3, mk_gR f_224_4, mk_gR f_224_5, mk_gI f_224_6, mk_pI f_224_6, mk_gR f_224_7, mk_gI f_224_8, mk_pI f_224_8, mk_gI f_224_9, mk_pI f_224_9, mk_gI f_224_10, mk_pI f_224_10, mk_gI f_224_11, mk_pI f_224_11, mk_gI f_224_12, mk_pI f_224_12, mk_gI f_224_13, mk_pI f_224_13, mk_gL f_224_14, mk_pL f_224_14, mk_gI f_224_15, mk_pI f_224_15, mk_gI f_224_16, mk_pI f_224_16, mk_gR f_224_17, mk_gR f_224_18, mk_gR f_224_19, mk_gI f_224_20, mk_pI f_224_20, mk_gR f_224_21, mk_gI f_224_22, mk_pI f_224_22, mk_gI f_224_23, mk_pI f_224_23, mk_gI f_224_24, mk_pI f_224_24, mk_gI f_224_25, mk_pI f_224_25, mk_gR f_224_26, mk_gI f_224_27, mk_pI f_224_27, mk_gI f_224_28, mk_pI f_224_28, mk_gR f_224_29, mk_gI f_224_30, mk_pI f_224_30, mk_gI f_224_31, mk_pI f_224_31, mk_gR f_224_32, mk_gI f_224_33, mk_pI f_224_33, ↓m_1, ↓m_2, i_0, i_1, i_2, i_3, i_4, i_6, i_5, i_12, i_11, i_10, i_9999, i_7, i_9, i_8, i_24, i_100, i_56, i_48, i_13, i_176, i_232, i_224, i_32, i_999, i_99, i_900, i_97, i_90, i_30, i_20, i_59, i_14, i_50, i_29, i_22, i_19, i_18, i_17, i_96, i_61, i_57, i_51, i_41, i_26, i_2552, i_255, i_25, i_23, i_21, i_16, i_15, i_122, i_10000, i_31, dzF, obs, b2_some, rz0, rz1, rzb, n01, n01', n10, n01e, nI_add, nI_mul, ↓reduceIte, not_false_eq_true, not_true_eq_false, ite_not, p3', leF]
