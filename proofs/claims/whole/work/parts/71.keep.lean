/-! ===== 71: keep ===== -/
def kW (k : Nat) : Nat := if k = 0 then 134 else 179
section KE
variable {n : Nat} {I : Nat → Nat → Int32} {J : Nat → Nat → Int64} {T : Nat → Nat}
theorem and1 (y : BitVec 32) : y &&& 1#32 = 0#32 ↔ y.getLsbD 0 = false := by
  constructor
  · intro h
    have : (y &&& 1#32).getLsbD 0 = (0#32).getLsbD 0 := by rw [h]
    simpa using this
  · intro h
    apply BitVec.eq_of_getLsbD_eq
    intro i hi
    rw [BitVec.getLsbD_and, BitVec.getLsbD_one]
    by_cases h0 : i = 0
    · subst h0; rw [h]; simp
    · simp [h0]
theorem bitI (x : Int32) {j : Nat} (hj : j < 31) : ((x >>> (nI j &&& nI 31)) &&& nI 1 = nI 0) ↔ x.toBitVec.getLsbD j = false := by
  rw [← Int32.toBitVec_inj, Int32.toBitVec_and, Int32.toBitVec_shiftRight]
  show x.toBitVec.sshiftRight ((nI j &&& nI 31).toBitVec.smod 32).toNat &&& 1#32 = 0#32 ↔ _
  rw [nI_sh (by omega), and1, BitVec.getLsbD_sshiftRight]
  simp only [Nat.zero_add, Nat.add_zero]
  rw [if_pos (by omega)]
  simp
theorem bitSet (x : Int32) {k j : Nat} (hk : k < 31) (hj : j < 31) : (x ||| (nI 1 <<< (nI k &&& nI 31))).toBitVec.getLsbD j = (x.toBitVec.getLsbD j || decide (k = j)) := by
  rw [nI_one_shl hk, Int32.toBitVec_or, BitVec.getLsbD_or, nI_bv, BitVec.getLsbD_ofNat, Nat.testBit_two_pow]
  simp [show j < 32 by omega]
theorem KP.bit {k b : Nat} (hk : k < 2) (h : KP I J T k b) : ∃ z, z ≤ 1 ∧ I 229 k = nI z ∧ (z = 1 ↔ (I 0 10).toBitVec.getLsbD k = true) := by
  obtain ⟨⟨z, z1, z2, z3⟩, -⟩ := h
  refine ⟨z, z1, z2, ?_⟩
  rw [z3]
  have := bitI (I 0 10) (by omega : k < 31)
  have e : (I 0 10 >>> (nI k &&& 31)) &&& 1 = 0 ↔ (I 0 10).toBitVec.getLsbD k = false := this
  rw [ne_eq, e]
  simp
theorem KP.mkb {k b : Nat} (hk : k < 2) {z : Nat} (z1 : z ≤ 1) (z2 : I 229 k = nI z) (z3 : z = 1 ↔ (I 0 10).toBitVec.getLsbD k = true) (h : I 229 k = 1 → ∃ K, VT K ∧ K 3 = T 3 ∧ WR I b K ∧ NR I 228 (232 * k) K ∧ ∀ s, s < T 3 → J (b + 26) s = J 29 s) : KP I J T k b := by
  refine ⟨⟨z, z1, z2, ?_⟩, h⟩
  rw [z3]
  have e : (I 0 10 >>> (nI k &&& 31)) &&& 1 = 0 ↔ (I 0 10).toBitVec.getLsbD k = false := bitI (I 0 10) (by omega : k < 31)
  rw [ne_eq, e]
  simp
end KE
set_option maxHeartbeats 8000000 in
theorem sim_keep : SIM_keep Inv 0 224 := by
  intro h c1 c2 hb hI
  obtain ⟨n, I, J, rfl, T, hI⟩ := hI
  have hI : INVT I J T := hI
  have hT := hI.1
  have hN := hI.2.1
  have hW := hI.2.2.1
  have b0 := hT.1
  obtain ⟨-, -, -, hTP, hM, hK0, hK1, hA, hG, hg⟩ := id hI
  obtain ⟨v, hv, rfl⟩ : ∃ v, v ≤ 1 ∧ c2 = nI v := by
    rcases hb with z | z
    · exact ⟨0, by omega, z⟩
    · exact ⟨1, by omega, z⟩
  by_cases h1 : ixB c1 2
  · obtain ⟨k, hk, rfl⟩ := ixB_of (by omega) h1
    have hKk : KP I J T k (kW k) := by
      rcases (by omega : k = 0 ∨ k = 1) with rfl | rfl
      · exact hK0
      · exact hK1
    have hwd : isWd (kW k) := by
      rcases (by omega : k = 0 ∨ k = 1) with rfl | rfl
      · exact Or.inr (Or.inr (Or.inl rfl))
      · exact Or.inr (Or.inr (Or.inr rfl))
    have hwr : kW k = 134 ∨ kW k = 179 := by
      rcases (by omega : k = 0 ∨ k = 1) with rfl | rfl
      · exact Or.inl rfl
      · exact Or.inr rfl
    have hkw : ∀ k', k' < 2 → k' ≠ k → kW k' ≠ kW k ∧ (kW k' + 44 < kW k ∨ kW k + 44 < kW k') := fun k' h1 h2 => by
      rcases (by omega : (k = 0 ∧ k' = 1) ∨ (k = 1 ∧ k' = 0)) with ⟨rfl, rfl⟩ | ⟨rfl, rfl⟩ <;> decide
    have hq : ∀ I' J', aR 4 (mk n I' J') 93 (nI k) = some (kW k) := fun I' J' => by
      refine mk_aRn a_93 ?_ hk (by decide)
      rcases (by omega : k = 0 ∨ k = 1) with rfl | rfl <;> rfl
    obtain ⟨z, z1, z2, z3⟩ := hKk.bit hk
    rcases (by omega : v = 0 ∨ v = 1) with rfl | rfl
    · -- a keep is laid
      obtain ⟨I1, e1, f1, w1⟩ := C_take (n := n) I J (b1 := 3) (b0 := kW k) (Or.inl rfl) hwd (by omega)
      have hW1 := w1 T hT hW
      obtain ⟨X, hX⟩ : ∃ X, X = I 0 10 ||| (nI 1 <<< (nI k &&& nI 31)) := ⟨_, rfl⟩
      have e010 : I1 0 10 = I 0 10 := f1 _ _ (by omega)
      have hR1 : NR (u2 (u2 I1 0 10 X) 224 0 (nI 0)) 225 0 T := fun j hj => by rw [u2_no _ _ (by omega), u2_no _ _ (by omega), f1 _ _ (by omega)]; exact hN j hj
      obtain ⟨I2, e2, f2, g2⟩ := R_copies (n := n) (J := cpR J 29 (kW k + 26) 10) (k1 := 225) (k2 := 228) (d1 := 0) (d2 := 232 * k) (u2 (u2 I1 0 10 X) 224 0 (nI 0)) a_225 a_228 (by decide) (by decide) (by omega) (by decide) (by decide)
      obtain ⟨I3, hI3⟩ : ∃ I3, I3 = u2 I2 229 k (nI 1) := ⟨_, rfl⟩
      have fr : ∀ a c, ¬ (kW k ≤ a ∧ a ≤ kW k + 44) → ¬ (a = 0 ∧ c = 10) → ¬ (a = 224 ∧ c = 0) → ¬ (a = 228 ∧ 232 * k ≤ c ∧ c < 232 * k + 232) → ¬ (a = 229 ∧ c = k) → I3 a c = I a c := fun a c k1 k2 k3 k4 k5 => by
        rw [hI3, u2_no _ _ (by omega), f2 _ _ (by omega), u2_no _ _ (by omega), u2_no _ _ (by omega), f1 _ _ k1]
      have x010 : I3 0 10 = X := by rw [hI3, u2_no _ _ (by omega), f2 _ _ (by omega), u2_no _ _ (by omega), u2_at]
      refine ⟨nI 1, mk n (u2 I1 0 10 X) (cpR J 29 (kW k + 26) 10), mk n I3 (cpR J 29 (kW k + 26) 10), ?_, ?_, Inv.of ?_⟩
      · unfold mX9_keep mX9_keep_b26
        simp (disch := omega) only [mk_oO o_0, mk_oO o_1, mk_oO o_3, mk_gR f_0_0, mk_gR f_0_1, mk_gR f_0_2, mk_gR f_0_3, mk_gR f_0_4, mk_gR f_0_5, mk_gR f_0_6, mk_gR f_0_7, mk_gR f_0_8, mk_gR f_0_9, mk_gI f_0_10, mk_pI f_0_10, mk_gR f_1_0, mk_gI f_1_1, mk_pI f_1_1, mk_gR f_3_0, mk_gR f_3_1, mk_gR f_3_2, mk_gR f_3_3, mk_gR f_3_4, mk_gR f_3_5, mk_gR f_3_6, mk_gR f_3_7, ↓m_1, ↓m_2, i_0, i_1, i_2, i_3, i_4, i_6, i_5, i_12, i_11, i_10, i_9999, i_7, i_9, i_8, i_24, i_100, i_56, i_48, i_13, i_176, i_232, i_224, i_32, i_999, i_99, i_900, i_97, i_90, i_30, i_20, i_59, i_14, i_50, i_29, i_22, i_19, i_18, i_17, i_96, i_61, i_57, i_51, i_41, i_26, i_2552, i_255, i_25, i_23, i_21, i_16, i_15, i_122, i_10000, i_31, dzF, obs, b2_some, rz0, rz1, rzb, n01, n01', n10, n01e, nI_add, nI_mul, ↓reduceIte, not_false_eq_true, not_true_eq_false, ite_not, nlt0, leF, hq, e1, e010, ← hX]
      · unfold mX10_keep mX10_keep_b30
        have nb : vp_nar .boolean (nI 1) = nI 1 := rfl
        simp (disch := omega) only [mk_oO o_224, mk_gI f_224_0, mk_pI f_224_0, mk_gR f_224_1, mk_gR f_224_2, mk_gR f_224_3, mk_gR f_224_4, mk_gR f_224_5, mk_gI f_224_6, mk_pI f_224_6, mk_gR f_224_7, mk_gI f_224_8, mk_pI f_224_8, mk_gI f_224_9, mk_pI f_224_9, mk_gI f_224_10, mk_pI f_224_10, mk_gI f_224_11, mk_pI f_224_11, mk_gI f_224_12, mk_pI f_224_12, mk_gI f_224_13, mk_pI f_224_13, mk_gL f_224_14, mk_pL f_224_14, mk_gI f_224_15, mk_pI f_224_15, mk_gI f_224_16, mk_pI f_224_16, mk_gR f_224_17, mk_gR f_224_18, mk_gR f_224_19, mk_gI f_224_20, mk_pI f_224_20, mk_gR f_224_21, mk_gI f_224_22, mk_pI f_224_22, mk_gI f_224_23, mk_pI f_224_23, mk_gI f_224_24, mk_pI f_224_24, mk_gI f_224_25, mk_pI f_224_25, mk_gR f_224_26, mk_gI f_224_27, mk_pI f_224_27, mk_gI f_224_28, mk_pI f_224_28, mk_gR f_224_29, mk_gI f_224_30, mk_pI f_224_30, mk_gI f_224_31, mk_pI f_224_31, mk_gR f_224_32, mk_gI f_224_33, mk_pI f_224_33, ↓m_1, ↓m_2, i_0, i_1, i_2, i_3, i_4, i_6, i_5, i_12, i_11, i_10, i_9999, i_7, i_9, i_8, i_24, i_100, i_56, i_48, i_13, i_176, i_232, i_224, i_32, i_999, i_99, i_900, i_97, i_90, i_30, i_20, i_59, i_14, i_50, i_29, i_22, i_19, i_18, i_17, i_96, i_61, i_57, i_51, i_41, i_26, i_2552, i_255, i_25, i_23, i_21, i_16, i_15, i_122, i_10000, i_31, l_0, l_1, dzF, obs, b2_some, rz0, rz1, rzb, n01, n01', n10, n01e, nI_add, nI_mul, ↓reduceIte, not_false_eq_true, not_true_eq_false, ite_not, within1, e2, mk_sBn a_229, nb, ← hI3]
      · have hkp : ∀ k', k' < 2 → KP I3 (cpR J 29 (kW k + 26) 10) T k' (kW k') := by
          intro k' hk'
          by_cases hkk : k' = k
          · subst hkk
            refine KP.mkb hk' (z := 1) (by omega) (by rw [hI3, u2_at]) ?_ (fun _ => ⟨T, hT, rfl, hW1.scr hT (fun a c k1 k2 => ?_), fun j hj => ?_, fun s hs => ?_⟩)
            · rw [x010, hX, bitSet _ (by omega) (by omega)]; simp
            · rw [hI3, u2_no _ _ (by omega), f2 _ _ (by omega), u2_no _ _ (by omega), u2_no _ _ (by omega)]
            · rw [hI3, u2_no _ _ (by omega), g2 j hj, hR1 j hj]
            · rw [cpR_at _ (by omega), cpR_no _ (by omega)]
          · have hw := hkw k' hk' hkk
            have hKo : KP I J T k' (kW k') := by
              rcases (by omega : k' = 0 ∨ k' = 1) with rfl | rfl
              · exact hK0
              · exact hK1
            obtain ⟨y, y1, y2, y3⟩ := hKo.bit hk'
            have hwr' : kW k' = 134 ∨ kW k' = 179 := by
              rcases (by omega : k' = 0 ∨ k' = 1) with rfl | rfl
              · exact Or.inl rfl
              · exact Or.inr rfl
            have e229 : I3 229 k' = I 229 k' := fr _ _ (by omega) (by omega) (by omega) (by omega) (by omega)
            refine KP.mkb hk' y1 (by rw [e229]; exact y2) ?_ (fun hz => ?_)
            · rw [x010, hX, bitSet _ (by omega) (by omega), y3]
              simp [show ¬ k = k' from fun w => hkk w.symm]
            · rw [e229] at hz
              obtain ⟨K, k1, k2, k3, k4, k5⟩ := hKo.2 hz
              refine ⟨K, k1, k2, k3.scr k1 (fun a c m1 m2 => fr _ _ (by omega) (by omega) (by omega) (by omega) (by omega)), fun j hj => by rw [fr _ _ (by omega) (by omega) (by omega) (by omega) (by omega)]; exact k4 j hj, fun s hs => ?_⟩
              rw [cpR_no _ (by omega), cpR_no _ (by omega)]
              exact k5 s hs
        obtain ⟨p, p1, p2, p3, p4⟩ := hTP
        obtain ⟨u, nx, P, u1, nx1, q1, q2, q3, hP0, hP⟩ := hA
        refine ⟨T, hT, fun j hj => by rw [fr _ _ (by omega) (by omega) (by omega) (by omega) (by omega)]; exact hN j hj, hW.scr hT (fun a c m1 m2 => fr _ _ (by omega) (by omega) (by omega) (by omega) (by omega)), ⟨p, p1, by rw [fr _ _ (by omega) (by omega) (by omega) (by omega) (by omega)]; exact p2, by rw [fr _ _ (by omega) (by omega) (by omega) (by omega) (by omega)]; exact p3, fun i hi => by rw [fr 2 i (by omega) (by omega) (by omega) (by omega) (by omega), fr 230 i (by omega) (by omega) (by omega) (by omega) (by omega)]; exact p4 i hi⟩, fun s hs => by rw [cpR_no _ (by omega), cpR_no _ (by omega)]; exact hM s hs, hkp 0 (by omega), hkp 1 (by omega), ⟨u, nx, P, u1, nx1, by rw [fr _ _ (by omega) (by omega) (by omega) (by omega) (by omega)]; exact q1, by rw [fr _ _ (by omega) (by omega) (by omega) (by omega) (by omega)]; exact q2, by rw [fr _ _ (by omega) (by omega) (by omega) (by omega) (by omega)]; exact q3, hP0, fun j hj => ?_⟩, fun i hi => by rw [cpR_no _ (by omega)]; exact hG i hi, by rw [fr _ _ (by omega) (by omega) (by omega) (by omega) (by omega)]; exact hg⟩
        obtain ⟨y1, y2, y3, y4⟩ := hP j hj
        refine ⟨y1, y2, fun i hi => by rw [fr _ _ (by omega) (by omega) (by omega) (by omega) (by omega)]; exact y3 i hi, ?_⟩
        rw [show I3 (120 + (nx + 23 - j) % 12) = I (120 + (nx + 23 - j) % 12) from funext fun c => fr _ _ (by omega) (by omega) (by omega) (by omega) (by omega)]
        exact y4
    · -- gone back to
      have hbit := bitI (I 0 10) (by omega : k < 31)
      by_cases hz : z = 1
      · subst hz
        obtain ⟨K, k1, k2, k3, k4, k5⟩ := hKk.2 z2
        have bt : (I 0 10).toBitVec.getLsbD k = true := z3.mp rfl
        have hne : ((I 0 10 >>> (nI k &&& nI 31)) &&& nI 1 = nI 0) = False := eq_false (fun w => by rw [hbit, bt] at w; cases w)
        obtain ⟨I1, e1, f1, w1⟩ := C_take (n := n) I J (b1 := kW k) (b0 := 3) hwd (Or.inl rfl) (by omega)
        have hW1 := w1 K k1 k3
        obtain ⟨I2, e2, f2, g2⟩ := R_copies (n := n) (J := cpR J (kW k + 26) 29 10) (k1 := 228) (k2 := 225) (d1 := 232 * k) (d2 := 0) (u2 (u2 I1 118 2 (nI 0)) 224 0 (nI 0)) a_228 a_225 (by decide) (by omega) (by decide) (by decide) (by decide)
        have fr : ∀ a c, ¬ (3 ≤ a ∧ a ≤ 47) → ¬ (a = 118 ∧ c = 2) → ¬ (a = 224 ∧ c = 0) → ¬ (a = 224 ∧ c = 6) → a ≠ 225 → u2 I2 224 6 (nI 0) a c = I a c := fun a c m1 m2 m3 m4 m5 => by
          rw [u2_no _ _ (by omega), f2 _ _ (by omega), u2_no _ _ (by omega), u2_no _ _ (by omega), f1 _ _ (by omega)]
        have e229 : u2 (u2 I1 118 2 (nI 0)) 224 0 (nI 0) 229 k = nI 1 := by rw [u2_no _ _ (by omega), u2_no _ _ (by omega), f1 _ _ (by omega)]; exact z2
        have j29 : ∀ s, s < T 3 → cpR J (kW k + 26) 29 10 29 s = J 29 s := fun s hs => by rw [cpR_at _ (by omega)]; exact k5 s hs
        refine ⟨nI 1, mk n (u2 I1 118 2 (nI 0)) (cpR J (kW k + 26) 29 10), mk n (u2 I2 224 6 (nI 0)) (cpR J (kW k + 26) 29 10), ?_, ?_, Inv.of ?_⟩
        · unfold mX9_keep mX9_keep_b26 mX0_clear
          simp (disch := omega) only [mk_oO o_0, mk_oO o_1, mk_oO o_3, mk_gR f_0_0, mk_gR f_0_1, mk_gR f_0_2, mk_gR f_0_3, mk_gR f_0_4, mk_gR f_0_5, mk_gR f_0_6, mk_gR f_0_7, mk_gR f_0_8, mk_gR f_0_9, mk_gI f_0_10, mk_pI f_0_10, mk_gR f_1_0, mk_gI f_1_1, mk_pI f_1_1, mk_gR f_3_0, mk_gR f_3_1, mk_gR f_3_2, mk_gR f_3_3, mk_gR f_3_4, mk_gR f_3_5, mk_gR f_3_6, mk_gR f_3_7, mk_oO o_118, mk_gR f_118_0, mk_gI f_118_1, mk_pI f_118_1, mk_gI f_118_2, mk_pI f_118_2, ↓m_1, ↓m_2, i_0, i_1, i_2, i_3, i_4, i_6, i_5, i_12, i_11, i_10, i_9999, i_7, i_9, i_8, i_24, i_100, i_56, i_48, i_13, i_176, i_232, i_224, i_32, i_999, i_99, i_900, i_97, i_90, i_30, i_20, i_59, i_14, i_50, i_29, i_22, i_19, i_18, i_17, i_96, i_61, i_57, i_51, i_41, i_26, i_2552, i_255, i_25, i_23, i_21, i_16, i_15, i_122, i_10000, i_31, dzF, obs, b2_some, rz0, rz1, rzb, n01, n01', n10, n01e, nI_add, nI_mul, ↓reduceIte, not_false_eq_true, not_true_eq_false, ite_not, nlt0, leF, hne, hq, e1]
        · unfold mX10_keep mX10_keep_b30
          simp (disch := omega) only [mk_oO o_224, mk_gI f_224_0, mk_pI f_224_0, mk_gR f_224_1, mk_gR f_224_2, mk_gR f_224_3, mk_gR f_224_4, mk_gR f_224_5, mk_gI f_224_6, mk_pI f_224_6, mk_gR f_224_7, mk_gI f_224_8, mk_pI f_224_8, mk_gI f_224_9, mk_pI f_224_9, mk_gI f_224_10, mk_pI f_224_10, mk_gI f_224_11, mk_pI f_224_11, mk_gI f_224_12, mk_pI f_224_12, mk_gI f_224_13, mk_pI f_224_13, mk_gL f_224_14, mk_pL f_224_14, mk_gI f_224_15, mk_pI f_224_15, mk_gI f_224_16, mk_pI f_224_16, mk_gR f_224_17, mk_gR f_224_18, mk_gR f_224_19, mk_gI f_224_20, mk_pI f_224_20, mk_gR f_224_21, mk_gI f_224_22, mk_pI f_224_22, mk_gI f_224_23, mk_pI f_224_23, mk_gI f_224_24, mk_pI f_224_24, mk_gI f_224_25, mk_pI f_224_25, mk_gR f_224_26, mk_gI f_224_27, mk_pI f_224_27, mk_gI f_224_28, mk_pI f_224_28, mk_gR f_224_29, mk_gI f_224_30, mk_pI f_224_30, mk_gI f_224_31, mk_pI f_224_31, mk_gR f_224_32, mk_gI f_224_33, mk_pI f_224_33, ↓m_1, ↓m_2, i_0, i_1, i_2, i_3, i_4, i_6, i_5, i_12, i_11, i_10, i_9999, i_7, i_9, i_8, i_24, i_100, i_56, i_48, i_13, i_176, i_232, i_224, i_32, i_999, i_99, i_900, i_97, i_90, i_30, i_20, i_59, i_14, i_50, i_29, i_22, i_19, i_18, i_17, i_96, i_61, i_57, i_51, i_41, i_26, i_2552, i_255, i_25, i_23, i_21, i_16, i_15, i_122, i_10000, i_31, l_0, l_1, dzF, obs, b2_some, rz0, rz1, rzb, n01, n01', n10, n01e, nI_add, nI_mul, ↓reduceIte, not_false_eq_true, not_true_eq_false, ite_not, within1, mk_aIn a_229, e229, e2]
        · have hkp : ∀ k', k' < 2 → KP (u2 I2 224 6 (nI 0)) (cpR J (kW k + 26) 29 10) K k' (kW k') := by
            intro k' hk'
            have hKo : KP I J T k' (kW k') := by
              rcases (by omega : k' = 0 ∨ k' = 1) with rfl | rfl
              · exact hK0
              · exact hK1
            have hwr' : kW k' = 134 ∨ kW k' = 179 := by
              rcases (by omega : k' = 0 ∨ k' = 1) with rfl | rfl
              · exact Or.inl rfl
              · exact Or.inr rfl
            have e1 : u2 I2 224 6 (nI 0) 229 k' = I 229 k' := fr _ _ (by omega) (by omega) (by omega) (by omega) (by omega)
            have e2 : u2 I2 224 6 (nI 0) 0 10 = I 0 10 := fr _ _ (by omega) (by omega) (by omega) (by omega) (by omega)
            refine ⟨by rw [e1, e2]; exact hKo.1, fun hz => ?_⟩
            rw [e1] at hz
            obtain ⟨L, l1, l2, l3, l4, l5⟩ := hKo.2 hz
            exact ⟨L, l1, by rw [k2]; exact l2, l3.scr l1 (fun a c m1 m2 => fr _ _ (by omega) (by omega) (by omega) (by omega) (by omega)), fun j hj => by rw [fr _ _ (by omega) (by omega) (by omega) (by omega) (by omega)]; exact l4 j hj, fun s hs => by rw [j29 s (by omega), cpR_no _ (by omega)]; exact l5 s (by omega)⟩
          obtain ⟨p, p1, p2, p3, p4⟩ := hTP
          obtain ⟨u, nx, P, u1, nx1, q1, q2, q3, hP0, hP⟩ := hA
          refine ⟨K, k1, fun j hj => ?_, hW1.scr k1 (fun a c m1 m2 => by rw [u2_no _ _ (by omega), f2 _ _ (by omega), u2_no _ _ (by omega), u2_no _ _ (by omega)]), ⟨p, p1, by rw [fr _ _ (by omega) (by omega) (by omega) (by omega) (by omega)]; exact p2, by rw [fr _ _ (by omega) (by omega) (by omega) (by omega) (by omega)]; exact p3, fun i hi => by rw [fr 2 i (by omega) (by omega) (by omega) (by omega) (by omega), fr 230 i (by omega) (by omega) (by omega) (by omega) (by omega)]; exact p4 i hi⟩, fun s hs => by rw [j29 s (by omega), cpR_no _ (by omega)]; exact hM s (by omega), hkp 0 (by omega), hkp 1 (by omega), ⟨0, nx, fun _ => K, by omega, nx1, ?_, by rw [fr _ _ (by omega) (by omega) (by omega) (by omega) (by omega)]; exact q2, by rw [u2_at], rfl, fun j hj => absurd hj (Nat.not_lt_zero _)⟩, fun i hi => by rw [cpR_no _ (by omega)]; exact hG i hi, by rw [fr _ _ (by omega) (by omega) (by omega) (by omega) (by omega)]; exact hg⟩
          · rw [u2_no _ _ (by omega), g2 j hj, u2_no _ _ (by omega), u2_no _ _ (by omega), f1 _ _ (by omega)]
            exact k4 j hj
          · rw [u2_no _ _ (by omega), f2 _ _ (by omega), u2_no _ _ (by omega), u2_at]
      · have bt : (I 0 10).toBitVec.getLsbD k = false := by
          cases hc : (I 0 10).toBitVec.getLsbD k with
          | false => rfl
          | true => exact absurd (z3.mpr hc) hz
        have he : ((I 0 10 >>> (nI k &&& nI 31)) &&& nI 1 = nI 0) = True := eq_true (hbit.mpr bt)
        have e229 : u2 I 224 0 (nI 0) 229 k = nI 0 := by rw [u2_no _ _ (by omega), z2, show z = 0 by omega]
        refine ⟨nI 0, mk n I J, _, ?_, ?_, hI.inv.fin0 (n := n) (x := nI 0) (scrt.refl I J)⟩
        · unfold mX9_keep
          simp (disch := omega) only [mk_oO o_0, mk_oO o_1, mk_oO o_3, mk_gR f_0_0, mk_gR f_0_1, mk_gR f_0_2, mk_gR f_0_3, mk_gR f_0_4, mk_gR f_0_5, mk_gR f_0_6, mk_gR f_0_7, mk_gR f_0_8, mk_gR f_0_9, mk_gI f_0_10, mk_pI f_0_10, mk_gR f_1_0, mk_gI f_1_1, mk_pI f_1_1, mk_gR f_3_0, mk_gR f_3_1, mk_gR f_3_2, mk_gR f_3_3, mk_gR f_3_4, mk_gR f_3_5, mk_gR f_3_6, mk_gR f_3_7, ↓m_1, ↓m_2, i_0, i_1, i_2, i_3, i_4, i_6, i_5, i_12, i_11, i_10, i_9999, i_7, i_9, i_8, i_24, i_100, i_56, i_48, i_13, i_176, i_232, i_224, i_32, i_999, i_99, i_900, i_97, i_90, i_30, i_20, i_59, i_14, i_50, i_29, i_22, i_19, i_18, i_17, i_96, i_61, i_57, i_51, i_41, i_26, i_2552, i_255, i_25, i_23, i_21, i_16, i_15, i_122, i_10000, i_31, dzF, obs, b2_some, rz0, rz1, rzb, n01, n01', n10, n01e, nI_add, nI_mul, ↓reduceIte, not_false_eq_true, not_true_eq_false, ite_not, nlt0, leF, he]
        · unfold mX10_keep
          simp (disch := omega) only [mk_oO o_224, mk_gI f_224_0, mk_pI f_224_0, mk_gR f_224_1, mk_gR f_224_2, mk_gR f_224_3, mk_gR f_224_4, mk_gR f_224_5, mk_gI f_224_6, mk_pI f_224_6, mk_gR f_224_7, mk_gI f_224_8, mk_pI f_224_8, mk_gI f_224_9, mk_pI f_224_9, mk_gI f_224_10, mk_pI f_224_10, mk_gI f_224_11, mk_pI f_224_11, mk_gI f_224_12, mk_pI f_224_12, mk_gI f_224_13, mk_pI f_224_13, mk_gL f_224_14, mk_pL f_224_14, mk_gI f_224_15, mk_pI f_224_15, mk_gI f_224_16, mk_pI f_224_16, mk_gR f_224_17, mk_gR f_224_18, mk_gR f_224_19, mk_gI f_224_20, mk_pI f_224_20, mk_gR f_224_21, mk_gI f_224_22, mk_pI f_224_22, mk_gI f_224_23, mk_pI f_224_23, mk_gI f_224_24, mk_pI f_224_24, mk_gI f_224_25, mk_pI f_224_25, mk_gR f_224_26, mk_gI f_224_27, mk_pI f_224_27, mk_gI f_224_28, mk_pI f_224_28, mk_gR f_224_29, mk_gI f_224_30, mk_pI f_224_30, mk_gI f_224_31, mk_pI f_224_31, mk_gR f_224_32, mk_gI f_224_33, mk_pI f_224_33, ↓m_1, ↓m_2, i_0, i_1, i_2, i_3, i_4, i_6, i_5, i_12, i_11, i_10, i_9999, i_7, i_9, i_8, i_24, i_100, i_56, i_48, i_13, i_176, i_232, i_224, i_32, i_999, i_99, i_900, i_97, i_90, i_30, i_20, i_59, i_14, i_50, i_29, i_22, i_19, i_18, i_17, i_96, i_61, i_57, i_51, i_41, i_26, i_2552, i_255, i_25, i_23, i_21, i_16, i_15, i_122, i_10000, i_31, l_0, l_1, dzF, obs, b2_some, rz0, rz1, rzb, n01, n01', n10, n01e, nI_add, nI_mul, ↓reduceIte, not_false_eq_true, not_true_eq_false, ite_not, within1, mk_aIn a_229, e229]
  · refine ⟨nI 0, mk n I J, _, ?_, ?_, hI.inv.fin0 (n := n) (x := nI 0) (scrt.refl I J)⟩
    · unfold mX9_keep
      rcases xrange (by decide) h1 with z | ⟨z1, z2⟩
      · simp (disch := omega) only [mk_oO o_0, mk_oO o_1, mk_oO o_3, mk_gR f_0_0, mk_gR f_0_1, mk_gR f_0_2, mk_gR f_0_3, mk_gR f_0_4, mk_gR f_0_5, mk_gR f_0_6, mk_gR f_0_7, mk_gR f_0_8, mk_gR f_0_9, mk_gI f_0_10, mk_pI f_0_10, mk_gR f_1_0, mk_gI f_1_1, mk_pI f_1_1, mk_gR f_3_0, mk_gR f_3_1, mk_gR f_3_2, mk_gR f_3_3, mk_gR f_3_4, mk_gR f_3_5, mk_gR f_3_6, mk_gR f_3_7, ↓m_1, ↓m_2, i_0, i_1, i_2, i_3, i_4, i_6, i_5, i_12, i_11, i_10, i_9999, i_7, i_9, i_8, i_24, i_100, i_56, i_48, i_13, i_176, i_232, i_224, i_32, i_999, i_99, i_900, i_97, i_90, i_30, i_20, i_59, i_14, i_50, i_29, i_22, i_19, i_18, i_17, i_96, i_61, i_57, i_51, i_41, i_26, i_2552, i_255, i_25, i_23, i_21, i_16, i_15, i_122, i_10000, i_31, dzF, obs, b2_some, rz0, rz1, rzb, n01, n01', n10, n01e, nI_add, nI_mul, ↓reduceIte, not_false_eq_true, not_true_eq_false, ite_not, z]
      · have z3 : nI 2 ≤ c1 := Int32.not_lt.mp z2
        simp (disch := omega) only [mk_oO o_0, mk_oO o_1, mk_oO o_3, mk_gR f_0_0, mk_gR f_0_1, mk_gR f_0_2, mk_gR f_0_3, mk_gR f_0_4, mk_gR f_0_5, mk_gR f_0_6, mk_gR f_0_7, mk_gR f_0_8, mk_gR f_0_9, mk_gI f_0_10, mk_pI f_0_10, mk_gR f_1_0, mk_gI f_1_1, mk_pI f_1_1, mk_gR f_3_0, mk_gR f_3_1, mk_gR f_3_2, mk_gR f_3_3, mk_gR f_3_4, mk_gR f_3_5, mk_gR f_3_6, mk_gR f_3_7, ↓m_1, ↓m_2, i_0, i_1, i_2, i_3, i_4, i_6, i_5, i_12, i_11, i_10, i_9999, i_7, i_9, i_8, i_24, i_100, i_56, i_48, i_13, i_176, i_232, i_224, i_32, i_999, i_99, i_900, i_97, i_90, i_30, i_20, i_59, i_14, i_50, i_29, i_22, i_19, i_18, i_17, i_96, i_61, i_57, i_51, i_41, i_26, i_2552, i_255, i_25, i_23, i_21, i_16, i_15, i_122, i_10000, i_31, dzF, obs, b2_some, rz0, rz1, rzb, n01, n01', n10, n01e, nI_add, nI_mul, ↓reduceIte, not_false_eq_true, not_true_eq_false, ite_not, z1, z3]
    · unfold mX10_keep
      simp (disch := omega) only [mk_oO o_224, mk_gI f_224_0, mk_pI f_224_0, mk_gR f_224_1, mk_gR f_224_2, mk_gR f_224_3, mk_gR f_224_4, mk_gR f_224_5, mk_gI f_224_6, mk_pI f_224_6, mk_gR f_224_7, mk_gI f_224_8, mk_pI f_224_8, mk_gI f_224_9, mk_pI f_224_9, mk_gI f_224_10, mk_pI f_224_10, mk_gI f_224_11, mk_pI f_224_11, mk_gI f_224_12, mk_pI f_224_12, mk_gI f_224_13, mk_pI f_224_13, mk_gL f_224_14, mk_pL f_224_14, mk_gI f_224_15, mk_pI f_224_15, mk_gI f_224_16, mk_pI f_224_16, mk_gR f_224_17, mk_gR f_224_18, mk_gR f_224_19, mk_gI f_224_20, mk_pI f_224_20, mk_gR f_224_21, mk_gI f_224_22, mk_pI f_224_22, mk_gI f_224_23, mk_pI f_224_23, mk_gI f_224_24, mk_pI f_224_24, mk_gI f_224_25, mk_pI f_224_25, mk_gR f_224_26, mk_gI f_224_27, mk_pI f_224_27, mk_gI f_224_28, mk_pI f_224_28, mk_gR f_224_29, mk_gI f_224_30, mk_pI f_224_30, mk_gI f_224_31, mk_pI f_224_31, mk_gR f_224_32, mk_gI f_224_33, mk_pI f_224_33, ↓m_1, ↓m_2, i_0, i_1, i_2, i_3, i_4, i_6, i_5, i_12, i_11, i_10, i_9999, i_7, i_9, i_8, i_24, i_100, i_56, i_48, i_13, i_176, i_232, i_224, i_32, i_999, i_99, i_900, i_97, i_90, i_30, i_20, i_59, i_14, i_50, i_29, i_22, i_19, i_18, i_17, i_96, i_61, i_57, i_51, i_41, i_26, i_2552, i_255, i_25, i_23, i_21, i_16, i_15, i_122, i_10000, i_31, l_0, l_1, dzF, obs, b2_some, rz0, rz1, rzb, n01, n01', n10, n01e, nI_add, nI_mul, ↓reduceIte, not_false_eq_true, not_true_eq_false, ite_not, within0 (by decide) (by decide) (ixB_in h1)]
