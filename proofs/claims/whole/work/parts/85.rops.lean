/-! ===== 85: the reference's steps ===== -/
def RNm (nm : NmL) (I : Nat → Nat → Int32) (J : Nat → Nat → Int64) : Prop := I 224 20 = nI nm.length ∧ ∀ (k : Nat) (x : List Nat × Nat × Nat), nm[k]? = some x → J 231 k = lN (enc 32 x.1) ∧ I 232 k = nI x.2.1 ∧ I 233 k = nI x.2.2
/-- the reference holds the token at or behind q, and no fault -/
def RRd (b : Nat → Nat) (N q : Nat) (nm : NmL) (I : Nat → Nat → Int32) (J : Nat → Nat → Int64) : Prop := TKr b N I ∧ q ≤ N ∧ TR b N q I J ∧ I 224 15 = nI 0 ∧ RNm nm I J ∧ NMok nm
def Fq (I I' : Nat → Nat → Int32) : Prop := ∀ a c, ¬ (a = 224 ∧ ((10 ≤ c ∧ c ≤ 13) ∨ c = 15 ∨ c = 16 ∨ c = 20)) → a ≠ 232 → a ≠ 233 → I' a c = I a c
def Gq (J J' : Nat → Nat → Int64) : Prop := ∀ a c, a ≠ 224 → a ≠ 231 → J' a c = J a c
theorem Fq.refl (I : Nat → Nat → Int32) : Fq I I := fun _ _ _ _ _ => rfl
theorem Gq.refl (J : Nat → Nat → Int64) : Gq J J := fun _ _ _ _ => rfl
theorem Fq.trans {I I' I'' : Nat → Nat → Int32} (h : Fq I I') (h' : Fq I' I'') : Fq I I'' := fun a c z1 z2 z3 => (h' a c z1 z2 z3).trans (h a c z1 z2 z3)
theorem Gq.trans {J J' J'' : Nat → Nat → Int64} (h : Gq J J') (h' : Gq J' J'') : Gq J J'' := fun a c z1 z2 => (h' a c z1 z2).trans (h a c z1 z2)
theorem Fg.fq {I I' : Nat → Nat → Int32} (h : Fg I I') : Fq I I' := fun a c z _ _ => h a c (by omega)
theorem Gg.gq {J J' : Nat → Nat → Int64} (h : Gg J J') : Gq J J' := fun a c z _ => h a c z
theorem Fq_u (I : Nat → Nat → Int32) {c : Nat} (x : Int32) (h : c = 15 ∨ c = 16 ∨ c = 20) : Fq I (u2 I 224 c x) := fun a d z1 z2 z3 => u2_no _ _ (by omega)
section RO
variable {n : Nat} {b : Nat → Nat} {N q : Nat} {nm : NmL} {I : Nat → Nat → Int32} {J : Nat → Nat → Int64}
theorem RRd.keep {I' : Nat → Nat → Int32} (h : RRd b N q nm I J) (hf : ∀ a c, a = 230 ∨ a = 232 ∨ a = 233 ∨ (a = 224 ∧ c ≠ 16) → I' a c = I a c) : RRd b N q nm I' J := by
  obtain ⟨h1, h2, ⟨t1, t2, t3, t4, t5⟩, h4, ⟨h5, h6⟩, h7⟩ := h
  exact ⟨⟨h1.1, fun k hk => by rw [hf 230 k (by omega)]; exact h1.2.1 k hk, by rw [hf _ _ (by omega)]; exact h1.2.2⟩, h2, ⟨by rw [hf _ _ (by omega)]; exact t1, by rw [hf _ _ (by omega)]; exact t2, fun z => by rw [hf _ _ (by omega)]; exact t3 z, t4, fun z => by rw [hf _ _ (by omega)]; exact t5 z⟩, by rw [hf _ _ (by omega)]; exact h4, ⟨by rw [hf _ _ (by omega)]; exact h5, fun k x hk => by rw [hf 232 k (by omega), hf 233 k (by omega)]; exact h6 k x hk⟩, h7⟩
theorem RRd.got (h : RRd b N q nm I J) (x : Int32) : RRd b N q nm (u2 I 224 16 x) J := h.keep (fun a c z => u2_no _ _ (by omega))
theorem R_is (h : RRd b N q nm I J) {x : Nat} (hx : x < 30) : mX10_is (mk n I J) 224 (lN (enc 32 (gramW.getD x []))) = some (nI (if tG b N q = x then 1 else 0), mk n I J) := by
  obtain ⟨h1, h2, ⟨t1, t2, t3, t4, t5⟩, h4, h5⟩ := h
  have hk := tK_le4 (b := b) (N := N) q
  unfold mX10_is
  by_cases h1 : tK b N q = 1
  · have hw := (tK_word h2 h1).1
    have e14 := t4 h1
    have hg : tG b N q = gx (tW b N q) := if_pos h1
    have b1 : enc 32 (tW b N q) < 34359738368 := enc_lt (by decide) 7 _ hw.2.1 hw.2.2
    have b2' : enc 32 (gramW.getD x []) < 34359738368 := enc_lt (by decide) 7 _ (gram_l x hx) (gram_w x hx)
    rw [h1] at t2
    by_cases hc : tG b N q = x
    · have : tW b N q = gramW.getD x [] := (gx_iff hx).mp (hg ▸ hc)
      rw [if_pos hc]
      rw [this] at e14
      simp (disch := omega) only [mk_oO o_224, mk_gI f_224_0, mk_pI f_224_0, mk_gR f_224_1, mk_gR f_224_2, mk_gR f_224_3, mk_gR f_224_4, mk_gR f_224_5, mk_gI f_224_6, mk_pI f_224_6, mk_gR f_224_7, mk_gI f_224_8, mk_pI f_224_8, mk_gI f_224_9, mk_pI f_224_9, mk_gI f_224_10, mk_pI f_224_10, mk_gI f_224_11, mk_pI f_224_11, mk_gI f_224_12, mk_pI f_224_12, mk_gI f_224_13, mk_pI f_224_13, mk_gL f_224_14, mk_pL f_224_14, mk_gI f_224_15, mk_pI f_224_15, mk_gI f_224_16, mk_pI f_224_16, mk_gR f_224_17, mk_gR f_224_18, mk_gR f_224_19, mk_gI f_224_20, mk_pI f_224_20, mk_gR f_224_21, mk_gI f_224_22, mk_pI f_224_22, mk_gI f_224_23, mk_pI f_224_23, mk_gI f_224_24, mk_pI f_224_24, mk_gI f_224_25, mk_pI f_224_25, mk_gR f_224_26, mk_gI f_224_27, mk_pI f_224_27, mk_gI f_224_28, mk_pI f_224_28, mk_gR f_224_29, mk_gI f_224_30, mk_pI f_224_30, mk_gI f_224_31, mk_pI f_224_31, mk_gR f_224_32, mk_gI f_224_33, mk_pI f_224_33, ↓m_1, ↓m_2, i_0, i_1, i_2, i_3, i_4, i_6, i_5, i_12, i_11, i_10, i_9999, i_7, i_9, i_8, i_24, i_100, i_56, i_48, i_13, i_176, i_232, i_224, i_32, i_999, i_99, i_900, i_97, i_90, i_30, i_20, i_59, i_14, i_50, i_29, i_22, i_19, i_18, i_17, i_96, i_61, i_57, i_51, i_41, i_26, i_2552, i_255, i_25, i_23, i_21, i_16, i_15, i_122, i_10000, i_31, dzF, obs, b2_some, rz0, rz1, rzb, n01, n01', n10, n01e, nI_add, nI_mul, ↓reduceIte, not_false_eq_true, not_true_eq_false, ite_not, t2, e14]
    · have hne : (lN (enc 32 (tW b N q)) = lN (enc 32 (gramW.getD x []))) = False := eq_false (fun z => hc (hg.trans ((gx_iff hx).mpr (enc_inj (by decide) hw.2.2 (gram_w x hx) ((lL_eq (by omega) (by omega)).mp z)))))
      rw [if_neg hc]
      simp (disch := omega) only [mk_oO o_224, mk_gI f_224_0, mk_pI f_224_0, mk_gR f_224_1, mk_gR f_224_2, mk_gR f_224_3, mk_gR f_224_4, mk_gR f_224_5, mk_gI f_224_6, mk_pI f_224_6, mk_gR f_224_7, mk_gI f_224_8, mk_pI f_224_8, mk_gI f_224_9, mk_pI f_224_9, mk_gI f_224_10, mk_pI f_224_10, mk_gI f_224_11, mk_pI f_224_11, mk_gI f_224_12, mk_pI f_224_12, mk_gI f_224_13, mk_pI f_224_13, mk_gL f_224_14, mk_pL f_224_14, mk_gI f_224_15, mk_pI f_224_15, mk_gI f_224_16, mk_pI f_224_16, mk_gR f_224_17, mk_gR f_224_18, mk_gR f_224_19, mk_gI f_224_20, mk_pI f_224_20, mk_gR f_224_21, mk_gI f_224_22, mk_pI f_224_22, mk_gI f_224_23, mk_pI f_224_23, mk_gI f_224_24, mk_pI f_224_24, mk_gI f_224_25, mk_pI f_224_25, mk_gR f_224_26, mk_gI f_224_27, mk_pI f_224_27, mk_gI f_224_28, mk_pI f_224_28, mk_gR f_224_29, mk_gI f_224_30, mk_pI f_224_30, mk_gI f_224_31, mk_pI f_224_31, mk_gR f_224_32, mk_gI f_224_33, mk_pI f_224_33, ↓m_1, ↓m_2, i_0, i_1, i_2, i_3, i_4, i_6, i_5, i_12, i_11, i_10, i_9999, i_7, i_9, i_8, i_24, i_100, i_56, i_48, i_13, i_176, i_232, i_224, i_32, i_999, i_99, i_900, i_97, i_90, i_30, i_20, i_59, i_14, i_50, i_29, i_22, i_19, i_18, i_17, i_96, i_61, i_57, i_51, i_41, i_26, i_2552, i_255, i_25, i_23, i_21, i_16, i_15, i_122, i_10000, i_31, dzF, obs, b2_some, rz0, rz1, rzb, n01, n01', n10, n01e, nI_add, nI_mul, ↓reduceIte, not_false_eq_true, not_true_eq_false, ite_not, t2, e14, hne]
  · have hc : ¬ tG b N q = x := by
      have : tG b N q = 30 := if_neg h1
      omega
    rw [if_neg hc]
    simp (disch := omega) only [mk_oO o_224, mk_gI f_224_0, mk_pI f_224_0, mk_gR f_224_1, mk_gR f_224_2, mk_gR f_224_3, mk_gR f_224_4, mk_gR f_224_5, mk_gI f_224_6, mk_pI f_224_6, mk_gR f_224_7, mk_gI f_224_8, mk_pI f_224_8, mk_gI f_224_9, mk_pI f_224_9, mk_gI f_224_10, mk_pI f_224_10, mk_gI f_224_11, mk_pI f_224_11, mk_gI f_224_12, mk_pI f_224_12, mk_gI f_224_13, mk_pI f_224_13, mk_gL f_224_14, mk_pL f_224_14, mk_gI f_224_15, mk_pI f_224_15, mk_gI f_224_16, mk_pI f_224_16, mk_gR f_224_17, mk_gR f_224_18, mk_gR f_224_19, mk_gI f_224_20, mk_pI f_224_20, mk_gR f_224_21, mk_gI f_224_22, mk_pI f_224_22, mk_gI f_224_23, mk_pI f_224_23, mk_gI f_224_24, mk_pI f_224_24, mk_gI f_224_25, mk_pI f_224_25, mk_gR f_224_26, mk_gI f_224_27, mk_pI f_224_27, mk_gI f_224_28, mk_pI f_224_28, mk_gR f_224_29, mk_gI f_224_30, mk_pI f_224_30, mk_gI f_224_31, mk_pI f_224_31, mk_gR f_224_32, mk_gI f_224_33, mk_pI f_224_33, ↓m_1, ↓m_2, i_0, i_1, i_2, i_3, i_4, i_6, i_5, i_12, i_11, i_10, i_9999, i_7, i_9, i_8, i_24, i_100, i_56, i_48, i_13, i_176, i_232, i_224, i_32, i_999, i_99, i_900, i_97, i_90, i_30, i_20, i_59, i_14, i_50, i_29, i_22, i_19, i_18, i_17, i_96, i_61, i_57, i_51, i_41, i_26, i_2552, i_255, i_25, i_23, i_21, i_16, i_15, i_122, i_10000, i_31, dzF, obs, b2_some, rz0, rz1, rzb, n01, n01', n10, n01e, nI_add, nI_mul, ↓reduceIte, not_false_eq_true, not_true_eq_false, ite_not, t2, eqF]
theorem is_0 (h : RRd b N q nm I J) : mX10_is (mk n I J) 224 (lN 16829081) = some (nI (if tG b N q = 0 then 1 else 0), mk n I J) := R_is h (x := 0) (by decide)
theorem is_1 (h : RRd b N q nm I J) : mX10_is (mk n I J) 224 (lN 11566) = some (nI (if tG b N q = 1 then 1 else 0), mk n I J) := R_is h (x := 1) (by decide)
theorem is_2 (h : RRd b N q nm I J) : mX10_is (mk n I J) 224 (lN 245220) = some (nI (if tG b N q = 2 then 1 else 0), mk n I J) := R_is h (x := 2) (by decide)
theorem is_3 (h : RRd b N q nm I J) : mX10_is (mk n I J) 224 (lN 54109812) = some (nI (if tG b N q = 3 then 1 else 0), mk n I J) := R_is h (x := 3) (by decide)
theorem is_4 (h : RRd b N q nm I J) : mX10_is (mk n I J) 224 (lN 624005) = some (nI (if tG b N q = 4 then 1 else 0), mk n I J) := R_is h (x := 4) (by decide)
theorem is_5 (h : RRd b N q nm I J) : mX10_is (mk n I J) 224 (lN 609860996) = some (nI (if tG b N q = 5 then 1 else 0), mk n I J) := R_is h (x := 5) (by decide)
theorem is_6 (h : RRd b N q nm I J) : mX10_is (mk n I J) 224 (lN 427141) = some (nI (if tG b N q = 6 then 1 else 0), mk n I J) := R_is h (x := 6) (by decide)
theorem is_7 (h : RRd b N q nm I J) : mX10_is (mk n I J) 224 (lN 67012) = some (nI (if tG b N q = 7 then 1 else 0), mk n I J) := R_is h (x := 7) (by decide)
theorem is_8 (h : RRd b N q nm I J) : mX10_is (mk n I J) 224 (lN 463922) = some (nI (if tG b N q = 8 then 1 else 0), mk n I J) := R_is h (x := 8) (by decide)
theorem is_9 (h : RRd b N q nm I J) : mX10_is (mk n I J) 224 (lN 781652471) = some (nI (if tG b N q = 9 then 1 else 0), mk n I J) := R_is h (x := 9) (by decide)
theorem is_10 (h : RRd b N q nm I J) : mX10_is (mk n I J) 224 (lN 437853486) = some (nI (if tG b N q = 10 then 1 else 0), mk n I J) := R_is h (x := 10) (by decide)
theorem is_11 (h : RRd b N q nm I J) : mX10_is (mk n I J) 224 (lN 153241) = some (nI (if tG b N q = 11 then 1 else 0), mk n I J) := R_is h (x := 11) (by decide)
theorem is_12 (h : RRd b N q nm I J) : mX10_is (mk n I J) 224 (lN 7945904) = some (nI (if tG b N q = 12 then 1 else 0), mk n I J) := R_is h (x := 12) (by decide)
theorem is_13 (h : RRd b N q nm I J) : mX10_is (mk n I J) 224 (lN 394692) = some (nI (if tG b N q = 13 then 1 else 0), mk n I J) := R_is h (x := 13) (by decide)
theorem is_14 (h : RRd b N q nm I J) : mX10_is (mk n I J) 224 (lN 24627848) = some (nI (if tG b N q = 14 then 1 else 0), mk n I J) := R_is h (x := 14) (by decide)
theorem is_15 (h : RRd b N q nm I J) : mX10_is (mk n I J) 224 (lN 6605428) = some (nI (if tG b N q = 15 then 1 else 0), mk n I J) := R_is h (x := 15) (by decide)
theorem is_16 (h : RRd b N q nm I J) : mX10_is (mk n I J) 224 (lN 89) = some (nI (if tG b N q = 16 then 1 else 0), mk n I J) := R_is h (x := 16) (by decide)
theorem is_17 (h : RRd b N q nm I J) : mX10_is (mk n I J) 224 (lN 546475187) = some (nI (if tG b N q = 17 then 1 else 0), mk n I J) := R_is h (x := 17) (by decide)
theorem is_18 (h : RRd b N q nm I J) : mX10_is (mk n I J) 224 (lN 17376357) = some (nI (if tG b N q = 18 then 1 else 0), mk n I J) := R_is h (x := 18) (by decide)
theorem is_19 (h : RRd b N q nm I J) : mX10_is (mk n I J) 224 (lN 4153) = some (nI (if tG b N q = 19 then 1 else 0), mk n I J) := R_is h (x := 19) (by decide)
theorem is_20 (h : RRd b N q nm I J) : mX10_is (mk n I J) 224 (lN 114292) = some (nI (if tG b N q = 20 then 1 else 0), mk n I J) := R_is h (x := 20) (by decide)
theorem is_21 (h : RRd b N q nm I J) : mX10_is (mk n I J) 224 (lN 556243252) = some (nI (if tG b N q = 21 then 1 else 0), mk n I J) := R_is h (x := 21) (by decide)
theorem is_22 (h : RRd b N q nm I J) : mX10_is (mk n I J) 224 (lN 215533) = some (nI (if tG b N q = 22 then 1 else 0), mk n I J) := R_is h (x := 22) (by decide)
theorem is_23 (h : RRd b N q nm I J) : mX10_is (mk n I J) 224 (lN 398963) = some (nI (if tG b N q = 23 then 1 else 0), mk n I J) := R_is h (x := 23) (by decide)
theorem is_24 (h : RRd b N q nm I J) : mX10_is (mk n I J) 224 (lN 2610628) = some (nI (if tG b N q = 24 then 1 else 0), mk n I J) := R_is h (x := 24) (by decide)
theorem is_25 (h : RRd b N q nm I J) : mX10_is (mk n I J) 224 (lN 19856929433) = some (nI (if tG b N q = 25 then 1 else 0), mk n I J) := R_is h (x := 25) (by decide)
theorem is_26 (h : RRd b N q nm I J) : mX10_is (mk n I J) 224 (lN 6309) = some (nI (if tG b N q = 26 then 1 else 0), mk n I J) := R_is h (x := 26) (by decide)
theorem is_27 (h : RRd b N q nm I J) : mX10_is (mk n I J) 224 (lN 17216939463) = some (nI (if tG b N q = 27 then 1 else 0), mk n I J) := R_is h (x := 27) (by decide)
theorem is_28 (h : RRd b N q nm I J) : mX10_is (mk n I J) 224 (lN 7051975956) = some (nI (if tG b N q = 28 then 1 else 0), mk n I J) := R_is h (x := 28) (by decide)
theorem is_29 (h : RRd b N q nm I J) : mX10_is (mk n I J) 224 (lN 707763) = some (nI (if tG b N q = 29 then 1 else 0), mk n I J) := R_is h (x := 29) (by decide)
set_option maxHeartbeats 8000000 in
theorem R_isName (h : RRd b N q nm I J) : mX10_isName (mk n I J) 224 = some (nI (if okName b N q then 1 else 0), mk n I J) := by
  have hk := tK_le4 (b := b) (N := N) q
  have hg := tG_le (b := b) (N := N) q
  have t2 := h.2.2.1.2.1
  have b345z : mX10_isName_b345 (mk n I J) 224 (nI 0) = some (nI (if tK b N q = 1 then 1 else 0), mk n I J) := by
    unfold mX10_isName_b345
    by_cases h1 : tK b N q = 1
    · rw [show (if tK b N q = 1 then 1 else 0) = 1 from if_pos h1]
      rw [h1] at t2
      simp (disch := omega) only [mk_oO o_224, mk_gI f_224_0, mk_pI f_224_0, mk_gR f_224_1, mk_gR f_224_2, mk_gR f_224_3, mk_gR f_224_4, mk_gR f_224_5, mk_gI f_224_6, mk_pI f_224_6, mk_gR f_224_7, mk_gI f_224_8, mk_pI f_224_8, mk_gI f_224_9, mk_pI f_224_9, mk_gI f_224_10, mk_pI f_224_10, mk_gI f_224_11, mk_pI f_224_11, mk_gI f_224_12, mk_pI f_224_12, mk_gI f_224_13, mk_pI f_224_13, mk_gL f_224_14, mk_pL f_224_14, mk_gI f_224_15, mk_pI f_224_15, mk_gI f_224_16, mk_pI f_224_16, mk_gR f_224_17, mk_gR f_224_18, mk_gR f_224_19, mk_gI f_224_20, mk_pI f_224_20, mk_gR f_224_21, mk_gI f_224_22, mk_pI f_224_22, mk_gI f_224_23, mk_pI f_224_23, mk_gI f_224_24, mk_pI f_224_24, mk_gI f_224_25, mk_pI f_224_25, mk_gR f_224_26, mk_gI f_224_27, mk_pI f_224_27, mk_gI f_224_28, mk_pI f_224_28, mk_gR f_224_29, mk_gI f_224_30, mk_pI f_224_30, mk_gI f_224_31, mk_pI f_224_31, mk_gR f_224_32, mk_gI f_224_33, mk_pI f_224_33, ↓m_1, ↓m_2, i_0, i_1, i_2, i_3, i_4, i_6, i_5, i_12, i_11, i_10, i_9999, i_7, i_9, i_8, i_24, i_100, i_56, i_48, i_13, i_176, i_232, i_224, i_32, i_999, i_99, i_900, i_97, i_90, i_30, i_20, i_59, i_14, i_50, i_29, i_22, i_19, i_18, i_17, i_96, i_61, i_57, i_51, i_41, i_26, i_2552, i_255, i_25, i_23, i_21, i_16, i_15, i_122, i_10000, i_31, dzF, obs, b2_some, rz0, rz1, rzb, n01, n01', n10, n01e, nI_add, nI_mul, ↓reduceIte, not_false_eq_true, not_true_eq_false, ite_not, t2]
    · rw [show (if tK b N q = 1 then 1 else 0) = 0 from if_neg h1]
      simp (disch := omega) only [mk_oO o_224, mk_gI f_224_0, mk_pI f_224_0, mk_gR f_224_1, mk_gR f_224_2, mk_gR f_224_3, mk_gR f_224_4, mk_gR f_224_5, mk_gI f_224_6, mk_pI f_224_6, mk_gR f_224_7, mk_gI f_224_8, mk_pI f_224_8, mk_gI f_224_9, mk_pI f_224_9, mk_gI f_224_10, mk_pI f_224_10, mk_gI f_224_11, mk_pI f_224_11, mk_gI f_224_12, mk_pI f_224_12, mk_gI f_224_13, mk_pI f_224_13, mk_gL f_224_14, mk_pL f_224_14, mk_gI f_224_15, mk_pI f_224_15, mk_gI f_224_16, mk_pI f_224_16, mk_gR f_224_17, mk_gR f_224_18, mk_gR f_224_19, mk_gI f_224_20, mk_pI f_224_20, mk_gR f_224_21, mk_gI f_224_22, mk_pI f_224_22, mk_gI f_224_23, mk_pI f_224_23, mk_gI f_224_24, mk_pI f_224_24, mk_gI f_224_25, mk_pI f_224_25, mk_gR f_224_26, mk_gI f_224_27, mk_pI f_224_27, mk_gI f_224_28, mk_pI f_224_28, mk_gR f_224_29, mk_gI f_224_30, mk_pI f_224_30, mk_gI f_224_31, mk_pI f_224_31, mk_gR f_224_32, mk_gI f_224_33, mk_pI f_224_33, ↓m_1, ↓m_2, i_0, i_1, i_2, i_3, i_4, i_6, i_5, i_12, i_11, i_10, i_9999, i_7, i_9, i_8, i_24, i_100, i_56, i_48, i_13, i_176, i_232, i_224, i_32, i_999, i_99, i_900, i_97, i_90, i_30, i_20, i_59, i_14, i_50, i_29, i_22, i_19, i_18, i_17, i_96, i_61, i_57, i_51, i_41, i_26, i_2552, i_255, i_25, i_23, i_21, i_16, i_15, i_122, i_10000, i_31, dzF, obs, b2_some, rz0, rz1, rzb, n01, n01', n10, n01e, nI_add, nI_mul, ↓reduceIte, not_false_eq_true, not_true_eq_false, ite_not, t2, eqF]
  have b345o : mX10_isName_b345 (mk n I J) 224 (nI 1) = some (nI 0, mk n I J) := by
    unfold mX10_isName_b345
    by_cases h1 : tK b N q = 1
    · rw [h1] at t2
      simp (disch := omega) only [mk_oO o_224, mk_gI f_224_0, mk_pI f_224_0, mk_gR f_224_1, mk_gR f_224_2, mk_gR f_224_3, mk_gR f_224_4, mk_gR f_224_5, mk_gI f_224_6, mk_pI f_224_6, mk_gR f_224_7, mk_gI f_224_8, mk_pI f_224_8, mk_gI f_224_9, mk_pI f_224_9, mk_gI f_224_10, mk_pI f_224_10, mk_gI f_224_11, mk_pI f_224_11, mk_gI f_224_12, mk_pI f_224_12, mk_gI f_224_13, mk_pI f_224_13, mk_gL f_224_14, mk_pL f_224_14, mk_gI f_224_15, mk_pI f_224_15, mk_gI f_224_16, mk_pI f_224_16, mk_gR f_224_17, mk_gR f_224_18, mk_gR f_224_19, mk_gI f_224_20, mk_pI f_224_20, mk_gR f_224_21, mk_gI f_224_22, mk_pI f_224_22, mk_gI f_224_23, mk_pI f_224_23, mk_gI f_224_24, mk_pI f_224_24, mk_gI f_224_25, mk_pI f_224_25, mk_gR f_224_26, mk_gI f_224_27, mk_pI f_224_27, mk_gI f_224_28, mk_pI f_224_28, mk_gR f_224_29, mk_gI f_224_30, mk_pI f_224_30, mk_gI f_224_31, mk_pI f_224_31, mk_gR f_224_32, mk_gI f_224_33, mk_pI f_224_33, ↓m_1, ↓m_2, i_0, i_1, i_2, i_3, i_4, i_6, i_5, i_12, i_11, i_10, i_9999, i_7, i_9, i_8, i_24, i_100, i_56, i_48, i_13, i_176, i_232, i_224, i_32, i_999, i_99, i_900, i_97, i_90, i_30, i_20, i_59, i_14, i_50, i_29, i_22, i_19, i_18, i_17, i_96, i_61, i_57, i_51, i_41, i_26, i_2552, i_255, i_25, i_23, i_21, i_16, i_15, i_122, i_10000, i_31, dzF, obs, b2_some, rz0, rz1, rzb, n01, n01', n10, n01e, nI_add, nI_mul, ↓reduceIte, not_false_eq_true, not_true_eq_false, ite_not, t2]
    · simp (disch := omega) only [mk_oO o_224, mk_gI f_224_0, mk_pI f_224_0, mk_gR f_224_1, mk_gR f_224_2, mk_gR f_224_3, mk_gR f_224_4, mk_gR f_224_5, mk_gI f_224_6, mk_pI f_224_6, mk_gR f_224_7, mk_gI f_224_8, mk_pI f_224_8, mk_gI f_224_9, mk_pI f_224_9, mk_gI f_224_10, mk_pI f_224_10, mk_gI f_224_11, mk_pI f_224_11, mk_gI f_224_12, mk_pI f_224_12, mk_gI f_224_13, mk_pI f_224_13, mk_gL f_224_14, mk_pL f_224_14, mk_gI f_224_15, mk_pI f_224_15, mk_gI f_224_16, mk_pI f_224_16, mk_gR f_224_17, mk_gR f_224_18, mk_gR f_224_19, mk_gI f_224_20, mk_pI f_224_20, mk_gR f_224_21, mk_gI f_224_22, mk_pI f_224_22, mk_gI f_224_23, mk_pI f_224_23, mk_gI f_224_24, mk_pI f_224_24, mk_gI f_224_25, mk_pI f_224_25, mk_gR f_224_26, mk_gI f_224_27, mk_pI f_224_27, mk_gI f_224_28, mk_pI f_224_28, mk_gR f_224_29, mk_gI f_224_30, mk_pI f_224_30, mk_gI f_224_31, mk_pI f_224_31, mk_gR f_224_32, mk_gI f_224_33, mk_pI f_224_33, ↓m_1, ↓m_2, i_0, i_1, i_2, i_3, i_4, i_6, i_5, i_12, i_11, i_10, i_9999, i_7, i_9, i_8, i_24, i_100, i_56, i_48, i_13, i_176, i_232, i_224, i_32, i_999, i_99, i_900, i_97, i_90, i_30, i_20, i_59, i_14, i_50, i_29, i_22, i_19, i_18, i_17, i_96, i_61, i_57, i_51, i_41, i_26, i_2552, i_255, i_25, i_23, i_21, i_16, i_15, i_122, i_10000, i_31, dzF, obs, b2_some, rz0, rz1, rzb, n01, n01', n10, n01e, nI_add, nI_mul, ↓reduceIte, not_false_eq_true, not_true_eq_false, ite_not, t2, eqF]
  have yes : ∀ {o : Option (Int32 × PH)}, o = some (nI 0, mk n I J) → tG b N q ≠ 30 → o = some (nI (if okName b N q then 1 else 0), mk n I J) := fun e z => by rw [e, if_neg (fun w => z w.2)]
  by_cases h30 : tG b N q = 30
  · have e : (if okName b N q then 1 else 0) = (if tK b N q = 1 then 1 else 0) := by
      by_cases h1 : tK b N q = 1
      · rw [if_pos ⟨h1, h30⟩, if_pos h1]
      · rw [if_neg (fun z => h1 z.1), if_neg h1]
    rw [e, ← b345z]
    unfold mX10_isName mX10_isName_b65 mX10_isName_b135 mX10_isName_b205 mX10_isName_b275
    simp only [mk_oO o_224, i_0, i_1, l_16829081, l_11566, l_245220, l_54109812, l_624005, l_609860996, l_427141, l_67012, l_463922, l_781652471, l_437853486, l_153241, l_7945904, l_394692, l_24627848, l_6605428, l_89, l_546475187, l_17376357, l_4153, l_114292, l_556243252, l_215533, l_398963, l_2610628, l_19856929433, l_6309, l_17216939463, l_7051975956, l_707763, is_0 h, is_1 h, is_2 h, is_3 h, is_4 h, is_5 h, is_6 h, is_7 h, is_8 h, is_9 h, is_10 h, is_11 h, is_12 h, is_13 h, is_14 h, is_15 h, is_16 h, is_17 h, is_18 h, is_19 h, is_20 h, is_21 h, is_22 h, is_23 h, is_24 h, is_25 h, is_26 h, is_27 h, is_28 h, is_29 h, h30, Nat.reduceEqDiff, b2_some, ↓reduceIte]
  · refine yes ?_ h30
    unfold mX10_isName mX10_isName_b60 mX10_isName_b65 mX10_isName_b130 mX10_isName_b135 mX10_isName_b200 mX10_isName_b205 mX10_isName_b270 mX10_isName_b275 mX10_isName_b340
    rcases (by omega : tG b N q = 0 ∨ tG b N q = 1 ∨ tG b N q = 2 ∨ tG b N q = 3 ∨ tG b N q = 4 ∨ tG b N q = 5 ∨ tG b N q = 6 ∨ tG b N q = 7 ∨ tG b N q = 8 ∨ tG b N q = 9 ∨ tG b N q = 10 ∨ tG b N q = 11 ∨ tG b N q = 12 ∨ tG b N q = 13 ∨ tG b N q = 14 ∨ tG b N q = 15 ∨ tG b N q = 16 ∨ tG b N q = 17 ∨ tG b N q = 18 ∨ tG b N q = 19 ∨ tG b N q = 20 ∨ tG b N q = 21 ∨ tG b N q = 22 ∨ tG b N q = 23 ∨ tG b N q = 24 ∨ tG b N q = 25 ∨ tG b N q = 26 ∨ tG b N q = 27 ∨ tG b N q = 28 ∨ tG b N q = 29) with z | z | z | z | z | z | z | z | z | z | z | z | z | z | z | z | z | z | z | z | z | z | z | z | z | z | z | z | z | z
    all_goals simp only [mk_oO o_224, i_0, i_1, l_16829081, l_11566, l_245220, l_54109812, l_624005, l_609860996, l_427141, l_67012, l_463922, l_781652471, l_437853486, l_153241, l_7945904, l_394692, l_24627848, l_6605428, l_89, l_546475187, l_17376357, l_4153, l_114292, l_556243252, l_215533, l_398963, l_2610628, l_19856929433, l_6309, l_17216939463, l_7051975956, l_707763, is_0 h, is_1 h, is_2 h, is_3 h, is_4 h, is_5 h, is_6 h, is_7 h, is_8 h, is_9 h, is_10 h, is_11 h, is_12 h, is_13 h, is_14 h, is_15 h, is_16 h, is_17 h, is_18 h, is_19 h, is_20 h, is_21 h, is_22 h, is_23 h, is_24 h, is_25 h, is_26 h, is_27 h, is_28 h, is_29 h, z, Nat.reduceEqDiff, b2_some, ↓reduceIte, n10, b345o]
theorem R_bad (h : RRd b N q nm I J) (k : Nat) : mX10_bad (mk n I J) 224 (nI k) = some (nI 0, mk n (u2 I 224 15 (nI (8 * tP b N q + k))) J) := by
  have h15 := h.2.2.2.1
  have t1 := h.2.2.1.1
  unfold mX10_bad mX10_bad_b24
  simp (disch := omega) only [mk_oO o_224, mk_gI f_224_0, mk_pI f_224_0, mk_gR f_224_1, mk_gR f_224_2, mk_gR f_224_3, mk_gR f_224_4, mk_gR f_224_5, mk_gI f_224_6, mk_pI f_224_6, mk_gR f_224_7, mk_gI f_224_8, mk_pI f_224_8, mk_gI f_224_9, mk_pI f_224_9, mk_gI f_224_10, mk_pI f_224_10, mk_gI f_224_11, mk_pI f_224_11, mk_gI f_224_12, mk_pI f_224_12, mk_gI f_224_13, mk_pI f_224_13, mk_gL f_224_14, mk_pL f_224_14, mk_gI f_224_15, mk_pI f_224_15, mk_gI f_224_16, mk_pI f_224_16, mk_gR f_224_17, mk_gR f_224_18, mk_gR f_224_19, mk_gI f_224_20, mk_pI f_224_20, mk_gR f_224_21, mk_gI f_224_22, mk_pI f_224_22, mk_gI f_224_23, mk_pI f_224_23, mk_gI f_224_24, mk_pI f_224_24, mk_gI f_224_25, mk_pI f_224_25, mk_gR f_224_26, mk_gI f_224_27, mk_pI f_224_27, mk_gI f_224_28, mk_pI f_224_28, mk_gR f_224_29, mk_gI f_224_30, mk_pI f_224_30, mk_gI f_224_31, mk_pI f_224_31, mk_gR f_224_32, mk_gI f_224_33, mk_pI f_224_33, ↓m_1, ↓m_2, i_0, i_1, i_2, i_3, i_4, i_6, i_5, i_12, i_11, i_10, i_9999, i_7, i_9, i_8, i_24, i_100, i_56, i_48, i_13, i_176, i_232, i_224, i_32, i_999, i_99, i_900, i_97, i_90, i_30, i_20, i_59, i_14, i_50, i_29, i_22, i_19, i_18, i_17, i_96, i_61, i_57, i_51, i_41, i_26, i_2552, i_255, i_25, i_23, i_21, i_16, i_15, i_122, i_10000, i_31, dzF, obs, b2_some, rz0, rz1, rzb, n01, n01', n10, n01e, nI_add, nI_mul, ↓reduceIte, not_false_eq_true, not_true_eq_false, ite_not, h15, t1]
theorem RNm.fg {I' : Nat → Nat → Int32} {J' : Nat → Nat → Int64} (h : RNm nm I J) (f : Fg I I') (g : Gg J J') : RNm nm I' J' := ⟨by rw [f _ _ (by omega)]; exact h.1, fun k x hk => by rw [f 232 k (by omega), f 233 k (by omega), g 231 k (by omega)]; exact h.2 k x hk⟩
/-- a token further -/
theorem R_step (h : RRd b N q nm I J) (hk : tK b N q ≠ 4) : ∃ I' J', mX10_go (mk n I J) 224 = some (mk n I' J') ∧ RRd b N (tE b N q) nm I' J' ∧ Fg I I' ∧ Gg J J' := by
  obtain ⟨h1, h2, h3, h4, h5, h6⟩ := h
  obtain ⟨I', J', e, f, g, t⟩ := R_go (n := n) (J := J) h1 (tE_in h2).2 (h3.2.2.1 hk)
  exact ⟨I', J', e, ⟨h1.fg f, (tE_in h2).2, t, by rw [f _ _ (by omega)]; exact h4, h5.fg f g, h6⟩, f, g⟩
theorem R_number (h : RRd b N q nm I J) {lo hi : Nat} (hh : hi ≤ 9999) (ok : tK b N q = 2 ∧ lo ≤ tV b N q ∧ tV b N q ≤ hi) : ∃ I' J', mX10_number (mk n I J) 224 (nI lo) (nI hi) = some (nI 1, mk n I' J') ∧ RRd b N (tE b N q) nm I' J' ∧ I' 224 16 = nI (tV b N q) ∧ Fq I I' ∧ Gq J J' := by
  have t2 := h.2.2.1.2.1
  have t5 := h.2.2.1.2.2.2.2 ok.1
  have hv := (tK_num h.2.1 ok.1).1
  obtain ⟨I1, J1, e, r, f, g⟩ := R_step (n := n) (h.got (nI (tV b N q))) (by omega)
  refine ⟨I1, J1, ?_, r, by rw [f _ _ (by omega), u2_at], (Fq_u I _ (by omega)).trans f.fq, g.gq⟩
  rw [ok.1] at t2
  have w : ∀ H : PH, mX10_within H (lN (tV b N q)) (lN lo) (lN hi) = some (nI 1, H) := fun H => by
    rw [← nI_l (by omega)]; exact within1 ok.2.1 ok.2.2 (by omega)
  unfold mX10_number
  simp (disch := omega) only [mk_oO o_224, mk_gI f_224_0, mk_pI f_224_0, mk_gR f_224_1, mk_gR f_224_2, mk_gR f_224_3, mk_gR f_224_4, mk_gR f_224_5, mk_gI f_224_6, mk_pI f_224_6, mk_gR f_224_7, mk_gI f_224_8, mk_pI f_224_8, mk_gI f_224_9, mk_pI f_224_9, mk_gI f_224_10, mk_pI f_224_10, mk_gI f_224_11, mk_pI f_224_11, mk_gI f_224_12, mk_pI f_224_12, mk_gI f_224_13, mk_pI f_224_13, mk_gL f_224_14, mk_pL f_224_14, mk_gI f_224_15, mk_pI f_224_15, mk_gI f_224_16, mk_pI f_224_16, mk_gR f_224_17, mk_gR f_224_18, mk_gR f_224_19, mk_gI f_224_20, mk_pI f_224_20, mk_gR f_224_21, mk_gI f_224_22, mk_pI f_224_22, mk_gI f_224_23, mk_pI f_224_23, mk_gI f_224_24, mk_pI f_224_24, mk_gI f_224_25, mk_pI f_224_25, mk_gR f_224_26, mk_gI f_224_27, mk_pI f_224_27, mk_gI f_224_28, mk_pI f_224_28, mk_gR f_224_29, mk_gI f_224_30, mk_pI f_224_30, mk_gI f_224_31, mk_pI f_224_31, mk_gR f_224_32, mk_gI f_224_33, mk_pI f_224_33, ↓m_1, ↓m_2, i_0, i_1, i_2, i_3, i_4, i_6, i_5, i_12, i_11, i_10, i_9999, i_7, i_9, i_8, i_24, i_100, i_56, i_48, i_13, i_176, i_232, i_224, i_32, i_999, i_99, i_900, i_97, i_90, i_30, i_20, i_59, i_14, i_50, i_29, i_22, i_19, i_18, i_17, i_96, i_61, i_57, i_51, i_41, i_26, i_2552, i_255, i_25, i_23, i_21, i_16, i_15, i_122, i_10000, i_31, dzF, obs, b2_some, rz0, rz1, rzb, n01, n01', n10, n01e, nI_add, nI_mul, ↓reduceIte, not_false_eq_true, not_true_eq_false, ite_not, t2, t5, nI_l, w, e]
theorem R_numberF (h : RRd b N q nm I J) {lo hi : Nat} (hh : hi ≤ 9999) (hlo : lo ≤ 10000) (no : ¬ (tK b N q = 2 ∧ lo ≤ tV b N q ∧ tV b N q ≤ hi)) : mX10_number (mk n I J) 224 (nI lo) (nI hi) = some (nI 0, mk n (u2 I 224 15 (nI (8 * tP b N q + if tK b N q = 2 then 4 else 1))) J) := by
  have t2 := h.2.2.1.2.1
  have hk := tK_le4 (b := b) (N := N) q
  unfold mX10_number
  by_cases h2 : tK b N q = 2
  · have t5 := h.2.2.1.2.2.2.2 h2
    have hv := (tK_num h.2.1 h2).1
    have w : ∀ H : PH, mX10_within H (lN (tV b N q)) (lN lo) (lN hi) = some (nI 0, H) := fun H => by
      rw [← nI_l (by omega)]
      exact within0 (by omega) (by omega) (by rw [nI_toInt (by omega)]; omega)
    rw [show (if tK b N q = 2 then 4 else 1) = 4 from if_pos h2]
    rw [h2] at t2
    simp (disch := omega) only [mk_oO o_224, mk_gI f_224_0, mk_pI f_224_0, mk_gR f_224_1, mk_gR f_224_2, mk_gR f_224_3, mk_gR f_224_4, mk_gR f_224_5, mk_gI f_224_6, mk_pI f_224_6, mk_gR f_224_7, mk_gI f_224_8, mk_pI f_224_8, mk_gI f_224_9, mk_pI f_224_9, mk_gI f_224_10, mk_pI f_224_10, mk_gI f_224_11, mk_pI f_224_11, mk_gI f_224_12, mk_pI f_224_12, mk_gI f_224_13, mk_pI f_224_13, mk_gL f_224_14, mk_pL f_224_14, mk_gI f_224_15, mk_pI f_224_15, mk_gI f_224_16, mk_pI f_224_16, mk_gR f_224_17, mk_gR f_224_18, mk_gR f_224_19, mk_gI f_224_20, mk_pI f_224_20, mk_gR f_224_21, mk_gI f_224_22, mk_pI f_224_22, mk_gI f_224_23, mk_pI f_224_23, mk_gI f_224_24, mk_pI f_224_24, mk_gI f_224_25, mk_pI f_224_25, mk_gR f_224_26, mk_gI f_224_27, mk_pI f_224_27, mk_gI f_224_28, mk_pI f_224_28, mk_gR f_224_29, mk_gI f_224_30, mk_pI f_224_30, mk_gI f_224_31, mk_pI f_224_31, mk_gR f_224_32, mk_gI f_224_33, mk_pI f_224_33, ↓m_1, ↓m_2, i_0, i_1, i_2, i_3, i_4, i_6, i_5, i_12, i_11, i_10, i_9999, i_7, i_9, i_8, i_24, i_100, i_56, i_48, i_13, i_176, i_232, i_224, i_32, i_999, i_99, i_900, i_97, i_90, i_30, i_20, i_59, i_14, i_50, i_29, i_22, i_19, i_18, i_17, i_96, i_61, i_57, i_51, i_41, i_26, i_2552, i_255, i_25, i_23, i_21, i_16, i_15, i_122, i_10000, i_31, dzF, obs, b2_some, rz0, rz1, rzb, n01, n01', n10, n01e, nI_add, nI_mul, ↓reduceIte, not_false_eq_true, not_true_eq_false, ite_not, t2, t5, nI_l, w, R_bad h]
  · rw [show (if tK b N q = 2 then 4 else 1) = 1 from if_neg h2]
    simp (disch := omega) only [mk_oO o_224, mk_gI f_224_0, mk_pI f_224_0, mk_gR f_224_1, mk_gR f_224_2, mk_gR f_224_3, mk_gR f_224_4, mk_gR f_224_5, mk_gI f_224_6, mk_pI f_224_6, mk_gR f_224_7, mk_gI f_224_8, mk_pI f_224_8, mk_gI f_224_9, mk_pI f_224_9, mk_gI f_224_10, mk_pI f_224_10, mk_gI f_224_11, mk_pI f_224_11, mk_gI f_224_12, mk_pI f_224_12, mk_gI f_224_13, mk_pI f_224_13, mk_gL f_224_14, mk_pL f_224_14, mk_gI f_224_15, mk_pI f_224_15, mk_gI f_224_16, mk_pI f_224_16, mk_gR f_224_17, mk_gR f_224_18, mk_gR f_224_19, mk_gI f_224_20, mk_pI f_224_20, mk_gR f_224_21, mk_gI f_224_22, mk_pI f_224_22, mk_gI f_224_23, mk_pI f_224_23, mk_gI f_224_24, mk_pI f_224_24, mk_gI f_224_25, mk_pI f_224_25, mk_gR f_224_26, mk_gI f_224_27, mk_pI f_224_27, mk_gI f_224_28, mk_pI f_224_28, mk_gR f_224_29, mk_gI f_224_30, mk_pI f_224_30, mk_gI f_224_31, mk_pI f_224_31, mk_gR f_224_32, mk_gI f_224_33, mk_pI f_224_33, ↓m_1, ↓m_2, i_0, i_1, i_2, i_3, i_4, i_6, i_5, i_12, i_11, i_10, i_9999, i_7, i_9, i_8, i_24, i_100, i_56, i_48, i_13, i_176, i_232, i_224, i_32, i_999, i_99, i_900, i_97, i_90, i_30, i_20, i_59, i_14, i_50, i_29, i_22, i_19, i_18, i_17, i_96, i_61, i_57, i_51, i_41, i_26, i_2552, i_255, i_25, i_23, i_21, i_16, i_15, i_122, i_10000, i_31, dzF, obs, b2_some, rz0, rz1, rzb, n01, n01', n10, n01e, nI_add, nI_mul, ↓reduceIte, not_false_eq_true, not_true_eq_false, ite_not, t2, eqF, R_bad h]
/-- a word of the grammar and a number behind it -/
abbrev okA (b : Nat → Nat) (N q x lo hi : Nat) : Prop := tG b N q = x ∧ tK b N (tE b N q) = 2 ∧ lo ≤ tV b N (tE b N q) ∧ tV b N (tE b N q) ≤ hi
/-- where it goes wrong -/
def ftA (b : Nat → Nat) (N q x : Nat) : Nat := if tG b N q = x then 8 * tP b N (tE b N q) + (if tK b N (tE b N q) = 2 then 4 else 1) else 8 * tP b N q + 1
theorem tG_k {x : Nat} (hx : x < 30) (h : tG b N q = x) : tK b N q = 1 := by
  unfold tG at h
  split at h
  · assumption
  · omega
theorem R_after (h : RRd b N q nm I J) {x lo hi : Nat} (hx : x < 30) (hh : hi ≤ 9999) (ok : okA b N q x lo hi) : ∃ I' J', mX10_after (mk n I J) 224 (lN (enc 32 (gramW.getD x []))) (nI lo) (nI hi) = some (nI 1, mk n I' J') ∧ RRd b N (tE b N (tE b N q)) nm I' J' ∧ I' 224 16 = nI (tV b N (tE b N q)) ∧ Fq I I' ∧ Gq J J' := by
  have e0 := R_is (n := n) h hx
  rw [if_pos ok.1] at e0
  obtain ⟨I1, J1, e1, r1, f1, g1⟩ := R_step (n := n) h (by rw [tG_k hx ok.1]; decide)
  obtain ⟨I2, J2, e2, r2, a2, f2, g2⟩ := R_number (n := n) r1 hh ok.2
  refine ⟨I2, J2, ?_, r2, a2, f1.fq.trans f2, g1.gq.trans g2⟩
  unfold mX10_after
  simp (disch := omega) only [mk_oO o_224, mk_gI f_224_0, mk_pI f_224_0, mk_gR f_224_1, mk_gR f_224_2, mk_gR f_224_3, mk_gR f_224_4, mk_gR f_224_5, mk_gI f_224_6, mk_pI f_224_6, mk_gR f_224_7, mk_gI f_224_8, mk_pI f_224_8, mk_gI f_224_9, mk_pI f_224_9, mk_gI f_224_10, mk_pI f_224_10, mk_gI f_224_11, mk_pI f_224_11, mk_gI f_224_12, mk_pI f_224_12, mk_gI f_224_13, mk_pI f_224_13, mk_gL f_224_14, mk_pL f_224_14, mk_gI f_224_15, mk_pI f_224_15, mk_gI f_224_16, mk_pI f_224_16, mk_gR f_224_17, mk_gR f_224_18, mk_gR f_224_19, mk_gI f_224_20, mk_pI f_224_20, mk_gR f_224_21, mk_gI f_224_22, mk_pI f_224_22, mk_gI f_224_23, mk_pI f_224_23, mk_gI f_224_24, mk_pI f_224_24, mk_gI f_224_25, mk_pI f_224_25, mk_gR f_224_26, mk_gI f_224_27, mk_pI f_224_27, mk_gI f_224_28, mk_pI f_224_28, mk_gR f_224_29, mk_gI f_224_30, mk_pI f_224_30, mk_gI f_224_31, mk_pI f_224_31, mk_gR f_224_32, mk_gI f_224_33, mk_pI f_224_33, ↓m_1, ↓m_2, i_0, i_1, i_2, i_3, i_4, i_6, i_5, i_12, i_11, i_10, i_9999, i_7, i_9, i_8, i_24, i_100, i_56, i_48, i_13, i_176, i_232, i_224, i_32, i_999, i_99, i_900, i_97, i_90, i_30, i_20, i_59, i_14, i_50, i_29, i_22, i_19, i_18, i_17, i_96, i_61, i_57, i_51, i_41, i_26, i_2552, i_255, i_25, i_23, i_21, i_16, i_15, i_122, i_10000, i_31, dzF, obs, b2_some, rz0, rz1, rzb, n01, n01', n10, n01e, nI_add, nI_mul, ↓reduceIte, not_false_eq_true, not_true_eq_false, ite_not, e0, e1, e2]
theorem R_afterF (h : RRd b N q nm I J) {x lo hi : Nat} (hx : x < 30) (hh : hi ≤ 9999) (hlo : lo ≤ 10000) (no : ¬ okA b N q x lo hi) : ∃ I' J', mX10_after (mk n I J) 224 (lN (enc 32 (gramW.getD x []))) (nI lo) (nI hi) = some (nI 0, mk n I' J') ∧ I' 224 15 = nI (ftA b N q x) ∧ Fq I I' ∧ Gq J J' := by
  have e0 := R_is (n := n) h hx
  unfold mX10_after ftA
  by_cases hg : tG b N q = x
  · rw [if_pos hg] at e0
    obtain ⟨I1, J1, e1, r1, f1, g1⟩ := R_step (n := n) h (by rw [tG_k hx hg]; decide)
    have e2 := R_numberF (n := n) r1 hh hlo (fun z => no ⟨hg, z⟩)
    refine ⟨_, J1, ?_, by rw [u2_at, if_pos hg], f1.fq.trans (Fq_u _ _ (by omega)), g1.gq⟩
    simp (disch := omega) only [mk_oO o_224, mk_gI f_224_0, mk_pI f_224_0, mk_gR f_224_1, mk_gR f_224_2, mk_gR f_224_3, mk_gR f_224_4, mk_gR f_224_5, mk_gI f_224_6, mk_pI f_224_6, mk_gR f_224_7, mk_gI f_224_8, mk_pI f_224_8, mk_gI f_224_9, mk_pI f_224_9, mk_gI f_224_10, mk_pI f_224_10, mk_gI f_224_11, mk_pI f_224_11, mk_gI f_224_12, mk_pI f_224_12, mk_gI f_224_13, mk_pI f_224_13, mk_gL f_224_14, mk_pL f_224_14, mk_gI f_224_15, mk_pI f_224_15, mk_gI f_224_16, mk_pI f_224_16, mk_gR f_224_17, mk_gR f_224_18, mk_gR f_224_19, mk_gI f_224_20, mk_pI f_224_20, mk_gR f_224_21, mk_gI f_224_22, mk_pI f_224_22, mk_gI f_224_23, mk_pI f_224_23, mk_gI f_224_24, mk_pI f_224_24, mk_gI f_224_25, mk_pI f_224_25, mk_gR f_224_26, mk_gI f_224_27, mk_pI f_224_27, mk_gI f_224_28, mk_pI f_224_28, mk_gR f_224_29, mk_gI f_224_30, mk_pI f_224_30, mk_gI f_224_31, mk_pI f_224_31, mk_gR f_224_32, mk_gI f_224_33, mk_pI f_224_33, ↓m_1, ↓m_2, i_0, i_1, i_2, i_3, i_4, i_6, i_5, i_12, i_11, i_10, i_9999, i_7, i_9, i_8, i_24, i_100, i_56, i_48, i_13, i_176, i_232, i_224, i_32, i_999, i_99, i_900, i_97, i_90, i_30, i_20, i_59, i_14, i_50, i_29, i_22, i_19, i_18, i_17, i_96, i_61, i_57, i_51, i_41, i_26, i_2552, i_255, i_25, i_23, i_21, i_16, i_15, i_122, i_10000, i_31, dzF, obs, b2_some, rz0, rz1, rzb, n01, n01', n10, n01e, nI_add, nI_mul, ↓reduceIte, not_false_eq_true, not_true_eq_false, ite_not, e0, e1, e2]
  · rw [if_neg hg] at e0
    refine ⟨_, J, ?_, by rw [u2_at, if_neg hg], Fq_u _ _ (by omega), Gq.refl J⟩
    simp (disch := omega) only [mk_oO o_224, mk_gI f_224_0, mk_pI f_224_0, mk_gR f_224_1, mk_gR f_224_2, mk_gR f_224_3, mk_gR f_224_4, mk_gR f_224_5, mk_gI f_224_6, mk_pI f_224_6, mk_gR f_224_7, mk_gI f_224_8, mk_pI f_224_8, mk_gI f_224_9, mk_pI f_224_9, mk_gI f_224_10, mk_pI f_224_10, mk_gI f_224_11, mk_pI f_224_11, mk_gI f_224_12, mk_pI f_224_12, mk_gI f_224_13, mk_pI f_224_13, mk_gL f_224_14, mk_pL f_224_14, mk_gI f_224_15, mk_pI f_224_15, mk_gI f_224_16, mk_pI f_224_16, mk_gR f_224_17, mk_gR f_224_18, mk_gR f_224_19, mk_gI f_224_20, mk_pI f_224_20, mk_gR f_224_21, mk_gI f_224_22, mk_pI f_224_22, mk_gI f_224_23, mk_pI f_224_23, mk_gI f_224_24, mk_pI f_224_24, mk_gI f_224_25, mk_pI f_224_25, mk_gR f_224_26, mk_gI f_224_27, mk_pI f_224_27, mk_gI f_224_28, mk_pI f_224_28, mk_gR f_224_29, mk_gI f_224_30, mk_pI f_224_30, mk_gI f_224_31, mk_pI f_224_31, mk_gR f_224_32, mk_gI f_224_33, mk_pI f_224_33, ↓m_1, ↓m_2, i_0, i_1, i_2, i_3, i_4, i_6, i_5, i_12, i_11, i_10, i_9999, i_7, i_9, i_8, i_24, i_100, i_56, i_48, i_13, i_176, i_232, i_224, i_32, i_999, i_99, i_900, i_97, i_90, i_30, i_20, i_59, i_14, i_50, i_29, i_22, i_19, i_18, i_17, i_96, i_61, i_57, i_51, i_41, i_26, i_2552, i_255, i_25, i_23, i_21, i_16, i_15, i_122, i_10000, i_31, dzF, obs, b2_some, rz0, rz1, rzb, n01, n01', n10, n01e, nI_add, nI_mul, ↓reduceIte, not_false_eq_true, not_true_eq_false, ite_not, e0, R_bad h]
theorem R_nmL (h : RRd b N q nm I J) {s c : Nat} (hs : s ≤ 3) (hc : c < 10) (h226 : I 226 s = nI c) (ok : okName b N q) (ok2 : fnd (tW b N q) nm = nm.length) (hl : nm.length < 26) : ∀ (k t fu : Nat), t + k = nm.length → k < fu → mX10_name_L15 fu (mk n I J) 224 (nI s) (nI t) = (mX10_go (mk n (u2 (u2 (u2 I 232 nm.length (nI s)) 233 nm.length (nI c)) 224 20 (nI (nm.length + 1))) (u2 J 231 nm.length (lN (enc 32 (tW b N q))))) 224).bind fun h98 => rz (1 : Int32) h98 := by
  have t4 := h.2.2.1.2.2.2.1 ok.1
  have h20 := h.2.2.2.2.1.1
  have hw := (tK_word h.2.1 ok.1).1
  have b1 : enc 32 (tW b N q) < 34359738368 := enc_lt (by decide) 7 _ hw.2.1 hw.2.2
  intro k
  induction k with
  | zero =>
    intro t fu ht hf
    obtain ⟨fu, rfl⟩ : ∃ f, fu = f + 1 := ⟨fu - 1, by omega⟩
    show mX10_name_b15 _ _ _ _ _ = _
    unfold mX10_name_b15
    simp (disch := omega) only [mk_oO o_224, mk_gI f_224_0, mk_pI f_224_0, mk_gR f_224_1, mk_gR f_224_2, mk_gR f_224_3, mk_gR f_224_4, mk_gR f_224_5, mk_gI f_224_6, mk_pI f_224_6, mk_gR f_224_7, mk_gI f_224_8, mk_pI f_224_8, mk_gI f_224_9, mk_pI f_224_9, mk_gI f_224_10, mk_pI f_224_10, mk_gI f_224_11, mk_pI f_224_11, mk_gI f_224_12, mk_pI f_224_12, mk_gI f_224_13, mk_pI f_224_13, mk_gL f_224_14, mk_pL f_224_14, mk_gI f_224_15, mk_pI f_224_15, mk_gI f_224_16, mk_pI f_224_16, mk_gR f_224_17, mk_gR f_224_18, mk_gR f_224_19, mk_gI f_224_20, mk_pI f_224_20, mk_gR f_224_21, mk_gI f_224_22, mk_pI f_224_22, mk_gI f_224_23, mk_pI f_224_23, mk_gI f_224_24, mk_pI f_224_24, mk_gI f_224_25, mk_pI f_224_25, mk_gR f_224_26, mk_gI f_224_27, mk_pI f_224_27, mk_gI f_224_28, mk_pI f_224_28, mk_gR f_224_29, mk_gI f_224_30, mk_pI f_224_30, mk_gI f_224_31, mk_pI f_224_31, mk_gR f_224_32, mk_gI f_224_33, mk_pI f_224_33, ↓m_1, ↓m_2, i_0, i_1, i_2, i_3, i_4, i_6, i_5, i_12, i_11, i_10, i_9999, i_7, i_9, i_8, i_24, i_100, i_56, i_48, i_13, i_176, i_232, i_224, i_32, i_999, i_99, i_900, i_97, i_90, i_30, i_20, i_59, i_14, i_50, i_29, i_22, i_19, i_18, i_17, i_96, i_61, i_57, i_51, i_41, i_26, i_2552, i_255, i_25, i_23, i_21, i_16, i_15, i_122, i_10000, i_31, obs, h20, leT, ↓reduceIte, t4, mk_sLn a_231, mk_sIn a_232, u2_no, mk_aIn a_226, h226, mk_sIn a_233, nI_add]
  | succ k ih =>
    intro t fu ht hf
    obtain ⟨fu, rfl⟩ : ∃ f, fu = f + 1 := ⟨fu - 1, by omega⟩
    have htl : t < nm.length := by omega
    have hx := h.2.2.2.2.1.2 t _ (List.getElem?_eq_getElem htl)
    have hin := h.2.2.2.2.2.2.1 _ (List.getElem_mem htl)
    have b2' : enc 32 (nm[t]).1 < 34359738368 := enc_lt (by decide) 7 _ hin.1.2.1 hin.1.2.2
    have hne : (lN (enc 32 (nm[t]).1) = lN (enc 32 (tW b N q))) = False := eq_false (fun z => fnd_no _ nm ok2 t htl (enc_inj (by decide) hin.1.2.2 hw.2.2 ((lL_eq (by omega) (by omega)).mp z)))
    have hj := hx.1
    rw [← ih (t + 1) fu (by omega) (by omega)]
    show mX10_name_b15 _ _ _ _ _ = _
    unfold mX10_name_b15
    simp (disch := omega) only [mk_oO o_224, mk_gI f_224_0, mk_pI f_224_0, mk_gR f_224_1, mk_gR f_224_2, mk_gR f_224_3, mk_gR f_224_4, mk_gR f_224_5, mk_gI f_224_6, mk_pI f_224_6, mk_gR f_224_7, mk_gI f_224_8, mk_pI f_224_8, mk_gI f_224_9, mk_pI f_224_9, mk_gI f_224_10, mk_pI f_224_10, mk_gI f_224_11, mk_pI f_224_11, mk_gI f_224_12, mk_pI f_224_12, mk_gI f_224_13, mk_pI f_224_13, mk_gL f_224_14, mk_pL f_224_14, mk_gI f_224_15, mk_pI f_224_15, mk_gI f_224_16, mk_pI f_224_16, mk_gR f_224_17, mk_gR f_224_18, mk_gR f_224_19, mk_gI f_224_20, mk_pI f_224_20, mk_gR f_224_21, mk_gI f_224_22, mk_pI f_224_22, mk_gI f_224_23, mk_pI f_224_23, mk_gI f_224_24, mk_pI f_224_24, mk_gI f_224_25, mk_pI f_224_25, mk_gR f_224_26, mk_gI f_224_27, mk_pI f_224_27, mk_gI f_224_28, mk_pI f_224_28, mk_gR f_224_29, mk_gI f_224_30, mk_pI f_224_30, mk_gI f_224_31, mk_pI f_224_31, mk_gR f_224_32, mk_gI f_224_33, mk_pI f_224_33, ↓m_1, ↓m_2, i_0, i_1, i_2, i_3, i_4, i_6, i_5, i_12, i_11, i_10, i_9999, i_7, i_9, i_8, i_24, i_100, i_56, i_48, i_13, i_176, i_232, i_224, i_32, i_999, i_99, i_900, i_97, i_90, i_30, i_20, i_59, i_14, i_50, i_29, i_22, i_19, i_18, i_17, i_96, i_61, i_57, i_51, i_41, i_26, i_2552, i_255, i_25, i_23, i_21, i_16, i_15, i_122, i_10000, i_31, dzF, obs, b2_some, rz0, rz1, rzb, n01, n01', n10, n01e, nI_add, nI_mul, ↓reduceIte, not_false_eq_true, not_true_eq_false, ite_not, h20, leF, mk_aLn a_231, hj, t4, hne]
theorem R_name (h : RRd b N q nm I J) {s c : Nat} (hs : s ≤ 3) (hc : c < 10) (h226 : I 226 s = nI c) (ok : okName b N q) (ok2 : fnd (tW b N q) nm = nm.length) (hl : nm.length < 26) (hn' : NMok (nm ++ [(tW b N q, s, c)])) : ∃ I' J', mX10_name (mk n I J) 224 (nI s) = some (nI 1, mk n I' J') ∧ RRd b N (tE b N q) (nm ++ [(tW b N q, s, c)]) I' J' ∧ Fq I I' ∧ Gq J J' := by
  have e0 := R_isName (n := n) h
  rw [if_pos ok] at e0
  have e1 := R_nmL (n := n) h hs hc h226 ok ok2 hl nm.length 0 FU (by omega) (by unfold FU; omega)
  obtain ⟨h1, h2, ⟨t1, t2, t3, t4, t5⟩, h4, h5, h6⟩ := id h
  have h' : RRd b N q (nm ++ [(tW b N q, s, c)]) (u2 (u2 (u2 I 232 nm.length (nI s)) 233 nm.length (nI c)) 224 20 (nI (nm.length + 1))) (u2 J 231 nm.length (lN (enc 32 (tW b N q)))) := by
    have fr : ∀ a d, a ≠ 232 → a ≠ 233 → ¬ (a = 224 ∧ d = 20) → u2 (u2 (u2 I 232 nm.length (nI s)) 233 nm.length (nI c)) 224 20 (nI (nm.length + 1)) a d = I a d := fun a d z1 z2 z3 => by rw [u2_no _ _ (by omega), u2_no _ _ (by omega), u2_no _ _ (by omega)]
    refine ⟨⟨h1.1, fun k hk => by rw [fr 230 k (by omega) (by omega) (by omega)]; exact h1.2.1 k hk, by rw [fr _ _ (by omega) (by omega) (by omega)]; exact h1.2.2⟩, h2, ⟨by rw [fr _ _ (by omega) (by omega) (by omega)]; exact t1, by rw [fr _ _ (by omega) (by omega) (by omega)]; exact t2, fun z => by rw [fr _ _ (by omega) (by omega) (by omega)]; exact t3 z, fun z => by rw [u2_no _ _ (by omega)]; exact t4 z, fun z => by rw [fr _ _ (by omega) (by omega) (by omega)]; exact t5 z⟩, by rw [fr _ _ (by omega) (by omega) (by omega)]; exact h4, ⟨by rw [u2_at, List.length_append]; rfl, fun k x hk => ?_⟩, hn'⟩
    by_cases hk1 : k < nm.length
    · rw [List.getElem?_append_left hk1] at hk
      rw [u2_no _ _ (by omega), u2_no _ _ (by omega), u2_no _ _ (by omega), u2_no _ _ (by omega), u2_no _ _ (by omega), u2_no _ _ (by omega), u2_no _ _ (by omega)]
      exact h5.2 k x hk
    · rw [List.getElem?_append_right (by omega)] at hk
      have hk2 : k = nm.length := by
        have := (List.getElem?_eq_some_iff.mp hk).1
        simp only [List.length_cons, List.length_nil] at this
        omega
      subst hk2
      simp only [Nat.sub_self, List.getElem?_cons_zero, Option.some.injEq] at hk
      subst hk
      exact ⟨u2_at _ _ _ _, by rw [u2_no _ _ (by omega), u2_no _ _ (by omega), u2_at], by rw [u2_no _ _ (by omega), u2_at]⟩
  obtain ⟨I1, J1, e2, r2, f2, g2⟩ := R_step (n := n) h' (by rw [ok.1]; decide)
  refine ⟨I1, J1, ?_, r2, Fq.trans (fun a d z1 z2 z3 => by rw [u2_no _ _ (by omega), u2_no _ _ (by omega), u2_no _ _ (by omega)]) f2.fq, Gq.trans (fun a d z1 z2 => u2_no _ _ (by omega)) g2.gq⟩
  unfold mX10_name
  rw [mk_oO o_224, e0, b2_some, i_0, if_neg (by rw [n10]; exact id), e1, e2]
  rfl
theorem R_nmF (h : RRd b N q nm I J) {s : Nat} (ok : okName b N q) (no : fnd (tW b N q) nm < nm.length) : ∀ (k t fu : Nat), t + k = fnd (tW b N q) nm → k < fu → mX10_name_L15 fu (mk n I J) 224 (nI s) (nI t) = some (nI 0, mk n (u2 I 224 15 (nI (8 * tP b N q + 2))) J) := by
  have t4 := h.2.2.1.2.2.2.1 ok.1
  have h20 := h.2.2.2.2.1.1
  have h26 := h.2.2.2.2.2.1
  have hw := (tK_word h.2.1 ok.1).1
  have b1 : enc 32 (tW b N q) < 34359738368 := enc_lt (by decide) 7 _ hw.2.1 hw.2.2
  obtain ⟨f1, f2⟩ := fnd_at _ nm no
  intro k
  induction k with
  | zero =>
    intro t fu ht hf
    obtain ⟨fu, rfl⟩ : ∃ f, fu = f + 1 := ⟨fu - 1, by omega⟩
    have et : t = fnd (tW b N q) nm := by omega
    subst et
    have hj := (h.2.2.2.2.1.2 _ _ (List.getElem?_eq_getElem no)).1
    rw [f1] at hj
    show mX10_name_b15 _ _ _ _ _ = _
    unfold mX10_name_b15
    simp (disch := omega) only [mk_oO o_224, mk_gI f_224_0, mk_pI f_224_0, mk_gR f_224_1, mk_gR f_224_2, mk_gR f_224_3, mk_gR f_224_4, mk_gR f_224_5, mk_gI f_224_6, mk_pI f_224_6, mk_gR f_224_7, mk_gI f_224_8, mk_pI f_224_8, mk_gI f_224_9, mk_pI f_224_9, mk_gI f_224_10, mk_pI f_224_10, mk_gI f_224_11, mk_pI f_224_11, mk_gI f_224_12, mk_pI f_224_12, mk_gI f_224_13, mk_pI f_224_13, mk_gL f_224_14, mk_pL f_224_14, mk_gI f_224_15, mk_pI f_224_15, mk_gI f_224_16, mk_pI f_224_16, mk_gR f_224_17, mk_gR f_224_18, mk_gR f_224_19, mk_gI f_224_20, mk_pI f_224_20, mk_gR f_224_21, mk_gI f_224_22, mk_pI f_224_22, mk_gI f_224_23, mk_pI f_224_23, mk_gI f_224_24, mk_pI f_224_24, mk_gI f_224_25, mk_pI f_224_25, mk_gR f_224_26, mk_gI f_224_27, mk_pI f_224_27, mk_gI f_224_28, mk_pI f_224_28, mk_gR f_224_29, mk_gI f_224_30, mk_pI f_224_30, mk_gI f_224_31, mk_pI f_224_31, mk_gR f_224_32, mk_gI f_224_33, mk_pI f_224_33, ↓m_1, ↓m_2, i_0, i_1, i_2, i_3, i_4, i_6, i_5, i_12, i_11, i_10, i_9999, i_7, i_9, i_8, i_24, i_100, i_56, i_48, i_13, i_176, i_232, i_224, i_32, i_999, i_99, i_900, i_97, i_90, i_30, i_20, i_59, i_14, i_50, i_29, i_22, i_19, i_18, i_17, i_96, i_61, i_57, i_51, i_41, i_26, i_2552, i_255, i_25, i_23, i_21, i_16, i_15, i_122, i_10000, i_31, dzF, obs, b2_some, rz0, rz1, rzb, n01, n01', n10, n01e, nI_add, nI_mul, ↓reduceIte, not_false_eq_true, not_true_eq_false, ite_not, h20, leF, mk_aLn a_231, hj, t4, R_bad h]
  | succ k ih =>
    intro t fu ht hf
    obtain ⟨fu, rfl⟩ : ∃ f, fu = f + 1 := ⟨fu - 1, by omega⟩
    have htl : t < nm.length := by omega
    have hj := (h.2.2.2.2.1.2 t _ (List.getElem?_eq_getElem htl)).1
    have hin := h.2.2.2.2.2.2.1 _ (List.getElem_mem htl)
    have b2' : enc 32 (nm[t]).1 < 34359738368 := enc_lt (by decide) 7 _ hin.1.2.1 hin.1.2.2
    have hne : (lN (enc 32 (nm[t]).1) = lN (enc 32 (tW b N q))) = False := eq_false (fun z => f2 t (by omega) (enc_inj (by decide) hin.1.2.2 hw.2.2 ((lL_eq (by omega) (by omega)).mp z)))
    rw [← ih (t + 1) fu (by omega) (by omega)]
    show mX10_name_b15 _ _ _ _ _ = _
    unfold mX10_name_b15
    simp (disch := omega) only [mk_oO o_224, mk_gI f_224_0, mk_pI f_224_0, mk_gR f_224_1, mk_gR f_224_2, mk_gR f_224_3, mk_gR f_224_4, mk_gR f_224_5, mk_gI f_224_6, mk_pI f_224_6, mk_gR f_224_7, mk_gI f_224_8, mk_pI f_224_8, mk_gI f_224_9, mk_pI f_224_9, mk_gI f_224_10, mk_pI f_224_10, mk_gI f_224_11, mk_pI f_224_11, mk_gI f_224_12, mk_pI f_224_12, mk_gI f_224_13, mk_pI f_224_13, mk_gL f_224_14, mk_pL f_224_14, mk_gI f_224_15, mk_pI f_224_15, mk_gI f_224_16, mk_pI f_224_16, mk_gR f_224_17, mk_gR f_224_18, mk_gR f_224_19, mk_gI f_224_20, mk_pI f_224_20, mk_gR f_224_21, mk_gI f_224_22, mk_pI f_224_22, mk_gI f_224_23, mk_pI f_224_23, mk_gI f_224_24, mk_pI f_224_24, mk_gI f_224_25, mk_pI f_224_25, mk_gR f_224_26, mk_gI f_224_27, mk_pI f_224_27, mk_gI f_224_28, mk_pI f_224_28, mk_gR f_224_29, mk_gI f_224_30, mk_pI f_224_30, mk_gI f_224_31, mk_pI f_224_31, mk_gR f_224_32, mk_gI f_224_33, mk_pI f_224_33, ↓m_1, ↓m_2, i_0, i_1, i_2, i_3, i_4, i_6, i_5, i_12, i_11, i_10, i_9999, i_7, i_9, i_8, i_24, i_100, i_56, i_48, i_13, i_176, i_232, i_224, i_32, i_999, i_99, i_900, i_97, i_90, i_30, i_20, i_59, i_14, i_50, i_29, i_22, i_19, i_18, i_17, i_96, i_61, i_57, i_51, i_41, i_26, i_2552, i_255, i_25, i_23, i_21, i_16, i_15, i_122, i_10000, i_31, dzF, obs, b2_some, rz0, rz1, rzb, n01, n01', n10, n01e, nI_add, nI_mul, ↓reduceIte, not_false_eq_true, not_true_eq_false, ite_not, h20, leF, mk_aLn a_231, hj, t4, hne]
theorem R_nameF (h : RRd b N q nm I J) {s : Nat} (no : ¬ (okName b N q ∧ fnd (tW b N q) nm = nm.length)) : mX10_name (mk n I J) 224 (nI s) = some (nI 0, mk n (u2 I 224 15 (nI (8 * tP b N q + if okName b N q then 2 else 1))) J) := by
  have e0 := R_isName (n := n) h
  have hl := fnd_le (tW b N q) nm
  have h26 := h.2.2.2.2.2.1
  unfold mX10_name
  by_cases ok : okName b N q
  · rw [show (if okName b N q then 1 else 0) = 1 from if_pos ok] at e0
    rw [show (if okName b N q then 2 else 1) = 2 from if_pos ok]
    have hn : ¬ fnd (tW b N q) nm = nm.length := fun z => no ⟨ok, z⟩
    have e1 := R_nmF (n := n) (s := s) h ok (by omega) (fnd (tW b N q) nm) 0 FU (by omega) (by unfold FU; omega)
    rw [mk_oO o_224, e0, b2_some, i_0, if_neg (by rw [n10]; exact id)]
    exact e1
  · rw [show (if okName b N q then 1 else 0) = 0 from if_neg ok] at e0
    rw [show (if okName b N q then 2 else 1) = 1 from if_neg ok]
    simp (disch := omega) only [mk_oO o_224, mk_gI f_224_0, mk_pI f_224_0, mk_gR f_224_1, mk_gR f_224_2, mk_gR f_224_3, mk_gR f_224_4, mk_gR f_224_5, mk_gI f_224_6, mk_pI f_224_6, mk_gR f_224_7, mk_gI f_224_8, mk_pI f_224_8, mk_gI f_224_9, mk_pI f_224_9, mk_gI f_224_10, mk_pI f_224_10, mk_gI f_224_11, mk_pI f_224_11, mk_gI f_224_12, mk_pI f_224_12, mk_gI f_224_13, mk_pI f_224_13, mk_gL f_224_14, mk_pL f_224_14, mk_gI f_224_15, mk_pI f_224_15, mk_gI f_224_16, mk_pI f_224_16, mk_gR f_224_17, mk_gR f_224_18, mk_gR f_224_19, mk_gI f_224_20, mk_pI f_224_20, mk_gR f_224_21, mk_gI f_224_22, mk_pI f_224_22, mk_gI f_224_23, mk_pI f_224_23, mk_gI f_224_24, mk_pI f_224_24, mk_gI f_224_25, mk_pI f_224_25, mk_gR f_224_26, mk_gI f_224_27, mk_pI f_224_27, mk_gI f_224_28, mk_pI f_224_28, mk_gR f_224_29, mk_gI f_224_30, mk_pI f_224_30, mk_gI f_224_31, mk_pI f_224_31, mk_gR f_224_32, mk_gI f_224_33, mk_pI f_224_33, ↓m_1, ↓m_2, i_0, i_1, i_2, i_3, i_4, i_6, i_5, i_12, i_11, i_10, i_9999, i_7, i_9, i_8, i_24, i_100, i_56, i_48, i_13, i_176, i_232, i_224, i_32, i_999, i_99, i_900, i_97, i_90, i_30, i_20, i_59, i_14, i_50, i_29, i_22, i_19, i_18, i_17, i_96, i_61, i_57, i_51, i_41, i_26, i_2552, i_255, i_25, i_23, i_21, i_16, i_15, i_122, i_10000, i_31, dzF, obs, b2_some, rz0, rz1, rzb, n01, n01', n10, n01e, nI_add, nI_mul, ↓reduceIte, not_false_eq_true, not_true_eq_false, ite_not, e0, R_bad h]
theorem R_ihL (h : RRd b N q nm I J) {s c : Nat} (hs : s ≤ 3) (ok : isT b N q nm s c) : ∀ (k t fu : Nat), t + k = fnd (tW b N q) nm → k < fu → mX10_isHere_L15 fu (mk n I J) 224 (nI s) (nI t) = some (nI 1, mk n (u2 I 224 16 (nI c)) J) := by
  obtain ⟨ok1, x, hx, x1, x2⟩ := ok
  have t4 := h.2.2.1.2.2.2.1 ok1.1
  have h20 := h.2.2.2.2.1.1
  have h26 := h.2.2.2.2.2.1
  have hw := (tK_word h.2.1 ok1.1).1
  have b1 : enc 32 (tW b N q) < 34359738368 := enc_lt (by decide) 7 _ hw.2.1 hw.2.2
  have no := (List.getElem?_eq_some_iff.mp hx).1
  obtain ⟨f1, f2⟩ := fnd_at _ nm no
  intro k
  induction k with
  | zero =>
    intro t fu ht hf
    obtain ⟨fu, rfl⟩ : ∃ f, fu = f + 1 := ⟨fu - 1, by omega⟩
    have et : t = fnd (tW b N q) nm := by omega
    subst et
    obtain ⟨hj, y1, y2⟩ := h.2.2.2.2.1.2 _ _ hx
    have : x = nm[fnd (tW b N q) nm] := by rw [List.getElem?_eq_getElem no] at hx; cases hx; rfl
    rw [this, f1] at hj
    rw [x1] at y1
    rw [x2] at y2
    show mX10_isHere_b15 _ _ _ _ _ = _
    unfold mX10_isHere_b15
    simp (disch := omega) only [mk_oO o_224, mk_gI f_224_0, mk_pI f_224_0, mk_gR f_224_1, mk_gR f_224_2, mk_gR f_224_3, mk_gR f_224_4, mk_gR f_224_5, mk_gI f_224_6, mk_pI f_224_6, mk_gR f_224_7, mk_gI f_224_8, mk_pI f_224_8, mk_gI f_224_9, mk_pI f_224_9, mk_gI f_224_10, mk_pI f_224_10, mk_gI f_224_11, mk_pI f_224_11, mk_gI f_224_12, mk_pI f_224_12, mk_gI f_224_13, mk_pI f_224_13, mk_gL f_224_14, mk_pL f_224_14, mk_gI f_224_15, mk_pI f_224_15, mk_gI f_224_16, mk_pI f_224_16, mk_gR f_224_17, mk_gR f_224_18, mk_gR f_224_19, mk_gI f_224_20, mk_pI f_224_20, mk_gR f_224_21, mk_gI f_224_22, mk_pI f_224_22, mk_gI f_224_23, mk_pI f_224_23, mk_gI f_224_24, mk_pI f_224_24, mk_gI f_224_25, mk_pI f_224_25, mk_gR f_224_26, mk_gI f_224_27, mk_pI f_224_27, mk_gI f_224_28, mk_pI f_224_28, mk_gR f_224_29, mk_gI f_224_30, mk_pI f_224_30, mk_gI f_224_31, mk_pI f_224_31, mk_gR f_224_32, mk_gI f_224_33, mk_pI f_224_33, ↓m_1, ↓m_2, i_0, i_1, i_2, i_3, i_4, i_6, i_5, i_12, i_11, i_10, i_9999, i_7, i_9, i_8, i_24, i_100, i_56, i_48, i_13, i_176, i_232, i_224, i_32, i_999, i_99, i_900, i_97, i_90, i_30, i_20, i_59, i_14, i_50, i_29, i_22, i_19, i_18, i_17, i_96, i_61, i_57, i_51, i_41, i_26, i_2552, i_255, i_25, i_23, i_21, i_16, i_15, i_122, i_10000, i_31, dzF, obs, b2_some, rz0, rz1, rzb, n01, n01', n10, n01e, nI_add, nI_mul, ↓reduceIte, not_false_eq_true, not_true_eq_false, ite_not, h20, leF, mk_aLn a_231, hj, t4, mk_aIn a_232, y1, mk_aIn a_233, y2]
  | succ k ih =>
    intro t fu ht hf
    obtain ⟨fu, rfl⟩ : ∃ f, fu = f + 1 := ⟨fu - 1, by omega⟩
    have htl : t < nm.length := by omega
    have hj := (h.2.2.2.2.1.2 t _ (List.getElem?_eq_getElem htl)).1
    have hin := h.2.2.2.2.2.2.1 _ (List.getElem_mem htl)
    have b2' : enc 32 (nm[t]).1 < 34359738368 := enc_lt (by decide) 7 _ hin.1.2.1 hin.1.2.2
    have hne : (lN (enc 32 (nm[t]).1) = lN (enc 32 (tW b N q))) = False := eq_false (fun z => f2 t (by omega) (enc_inj (by decide) hin.1.2.2 hw.2.2 ((lL_eq (by omega) (by omega)).mp z)))
    rw [← ih (t + 1) fu (by omega) (by omega)]
    show mX10_isHere_b15 _ _ _ _ _ = _
    unfold mX10_isHere_b15
    simp (disch := omega) only [mk_oO o_224, mk_gI f_224_0, mk_pI f_224_0, mk_gR f_224_1, mk_gR f_224_2, mk_gR f_224_3, mk_gR f_224_4, mk_gR f_224_5, mk_gI f_224_6, mk_pI f_224_6, mk_gR f_224_7, mk_gI f_224_8, mk_pI f_224_8, mk_gI f_224_9, mk_pI f_224_9, mk_gI f_224_10, mk_pI f_224_10, mk_gI f_224_11, mk_pI f_224_11, mk_gI f_224_12, mk_pI f_224_12, mk_gI f_224_13, mk_pI f_224_13, mk_gL f_224_14, mk_pL f_224_14, mk_gI f_224_15, mk_pI f_224_15, mk_gI f_224_16, mk_pI f_224_16, mk_gR f_224_17, mk_gR f_224_18, mk_gR f_224_19, mk_gI f_224_20, mk_pI f_224_20, mk_gR f_224_21, mk_gI f_224_22, mk_pI f_224_22, mk_gI f_224_23, mk_pI f_224_23, mk_gI f_224_24, mk_pI f_224_24, mk_gI f_224_25, mk_pI f_224_25, mk_gR f_224_26, mk_gI f_224_27, mk_pI f_224_27, mk_gI f_224_28, mk_pI f_224_28, mk_gR f_224_29, mk_gI f_224_30, mk_pI f_224_30, mk_gI f_224_31, mk_pI f_224_31, mk_gR f_224_32, mk_gI f_224_33, mk_pI f_224_33, ↓m_1, ↓m_2, i_0, i_1, i_2, i_3, i_4, i_6, i_5, i_12, i_11, i_10, i_9999, i_7, i_9, i_8, i_24, i_100, i_56, i_48, i_13, i_176, i_232, i_224, i_32, i_999, i_99, i_900, i_97, i_90, i_30, i_20, i_59, i_14, i_50, i_29, i_22, i_19, i_18, i_17, i_96, i_61, i_57, i_51, i_41, i_26, i_2552, i_255, i_25, i_23, i_21, i_16, i_15, i_122, i_10000, i_31, dzF, obs, b2_some, rz0, rz1, rzb, n01, n01', n10, n01e, nI_add, nI_mul, ↓reduceIte, not_false_eq_true, not_true_eq_false, ite_not, h20, leF, mk_aLn a_231, hj, t4, hne]
theorem R_isHere (h : RRd b N q nm I J) {s c : Nat} (hs : s ≤ 3) (ok : isT b N q nm s c) : mX10_isHere (mk n I J) 224 (nI s) = some (nI 1, mk n (u2 I 224 16 (nI c)) J) := by
  have e0 := R_isName (n := n) h
  rw [if_pos ok.1] at e0
  have hl := fnd_le (tW b N q) nm
  have h26 := h.2.2.2.2.2.1
  unfold mX10_isHere
  rw [mk_oO o_224, e0, b2_some, i_0, if_neg (by rw [n10]; exact id)]
  exact R_ihL h hs ok (fnd (tW b N q) nm) 0 FU (by omega) (by unfold FU; omega)
theorem R_ihF (h : RRd b N q nm I J) {s : Nat} (hs : s ≤ 3) (ok : okName b N q) (no : ¬ ∃ c, isT b N q nm s c) : ∀ (k t fu : Nat), t + k = nm.length → k < fu → mX10_isHere_L15 fu (mk n I J) 224 (nI s) (nI t) = some (nI 0, mk n (u2 I 224 15 (nI (8 * tP b N q + 3))) J) := by
  have t4 := h.2.2.1.2.2.2.1 ok.1
  have h20 := h.2.2.2.2.1.1
  have h26 := h.2.2.2.2.2.1
  have hw := (tK_word h.2.1 ok.1).1
  have b1 : enc 32 (tW b N q) < 34359738368 := enc_lt (by decide) 7 _ hw.2.1 hw.2.2
  intro k
  induction k with
  | zero =>
    intro t fu ht hf
    obtain ⟨fu, rfl⟩ : ∃ f, fu = f + 1 := ⟨fu - 1, by omega⟩
    show mX10_isHere_b15 _ _ _ _ _ = _
    unfold mX10_isHere_b15
    simp (disch := omega) only [mk_oO o_224, mk_gI f_224_0, mk_pI f_224_0, mk_gR f_224_1, mk_gR f_224_2, mk_gR f_224_3, mk_gR f_224_4, mk_gR f_224_5, mk_gI f_224_6, mk_pI f_224_6, mk_gR f_224_7, mk_gI f_224_8, mk_pI f_224_8, mk_gI f_224_9, mk_pI f_224_9, mk_gI f_224_10, mk_pI f_224_10, mk_gI f_224_11, mk_pI f_224_11, mk_gI f_224_12, mk_pI f_224_12, mk_gI f_224_13, mk_pI f_224_13, mk_gL f_224_14, mk_pL f_224_14, mk_gI f_224_15, mk_pI f_224_15, mk_gI f_224_16, mk_pI f_224_16, mk_gR f_224_17, mk_gR f_224_18, mk_gR f_224_19, mk_gI f_224_20, mk_pI f_224_20, mk_gR f_224_21, mk_gI f_224_22, mk_pI f_224_22, mk_gI f_224_23, mk_pI f_224_23, mk_gI f_224_24, mk_pI f_224_24, mk_gI f_224_25, mk_pI f_224_25, mk_gR f_224_26, mk_gI f_224_27, mk_pI f_224_27, mk_gI f_224_28, mk_pI f_224_28, mk_gR f_224_29, mk_gI f_224_30, mk_pI f_224_30, mk_gI f_224_31, mk_pI f_224_31, mk_gR f_224_32, mk_gI f_224_33, mk_pI f_224_33, ↓m_1, ↓m_2, i_0, i_1, i_2, i_3, i_4, i_6, i_5, i_12, i_11, i_10, i_9999, i_7, i_9, i_8, i_24, i_100, i_56, i_48, i_13, i_176, i_232, i_224, i_32, i_999, i_99, i_900, i_97, i_90, i_30, i_20, i_59, i_14, i_50, i_29, i_22, i_19, i_18, i_17, i_96, i_61, i_57, i_51, i_41, i_26, i_2552, i_255, i_25, i_23, i_21, i_16, i_15, i_122, i_10000, i_31, dzF, obs, b2_some, rz0, rz1, rzb, n01, n01', n10, n01e, nI_add, nI_mul, ↓reduceIte, not_false_eq_true, not_true_eq_false, ite_not, h20, leT, R_bad h]
  | succ k ih =>
    intro t fu ht hf
    obtain ⟨fu, rfl⟩ : ∃ f, fu = f + 1 := ⟨fu - 1, by omega⟩
    have htl : t < nm.length := by omega
    have hgt := List.getElem?_eq_getElem htl
    obtain ⟨hj, y1, y2⟩ := h.2.2.2.2.1.2 t _ hgt
    have hin := h.2.2.2.2.2.2.1 _ (List.getElem_mem htl)
    have b2' : enc 32 (nm[t]).1 < 34359738368 := enc_lt (by decide) 7 _ hin.1.2.1 hin.1.2.2
    rw [← ih (t + 1) fu (by omega) (by omega)]
    show mX10_isHere_b15 _ _ _ _ _ = _
    unfold mX10_isHere_b15
    by_cases hc : (nm[t]).1 = tW b N q
    · -- the first of this name: it must be of another sort
      have hfl : fnd (tW b N q) nm < nm.length := by
        have hl := fnd_le (tW b N q) nm
        rcases Nat.lt_or_ge (fnd (tW b N q) nm) nm.length with z | z
        · exact z
        · exact absurd hc (fnd_no _ nm (by omega) t htl)
      obtain ⟨f1, f2⟩ := fnd_at _ nm hfl
      have hft : fnd (tW b N q) nm = t := by
        rcases Nat.lt_trichotomy (fnd (tW b N q) nm) t with z | z | z
        · exact absurd (f1.trans hc.symm) (h.2.2.2.2.2.2.2 _ _ _ _ z (List.getElem?_eq_getElem hfl) hgt)
        · exact z
        · exact absurd hc (f2 t z)
      have hne : ¬ (nm[t]).2.1 = s := fun z => no ⟨_, ok, _, by rw [hft]; exact hgt, z, rfl⟩
      rw [hc] at hj
      generalize (nm[t]).2.1 = so at *
      have hso : so ≤ 3 := hin.2.1
      simp (disch := omega) only [mk_oO o_224, mk_gI f_224_0, mk_pI f_224_0, mk_gR f_224_1, mk_gR f_224_2, mk_gR f_224_3, mk_gR f_224_4, mk_gR f_224_5, mk_gI f_224_6, mk_pI f_224_6, mk_gR f_224_7, mk_gI f_224_8, mk_pI f_224_8, mk_gI f_224_9, mk_pI f_224_9, mk_gI f_224_10, mk_pI f_224_10, mk_gI f_224_11, mk_pI f_224_11, mk_gI f_224_12, mk_pI f_224_12, mk_gI f_224_13, mk_pI f_224_13, mk_gL f_224_14, mk_pL f_224_14, mk_gI f_224_15, mk_pI f_224_15, mk_gI f_224_16, mk_pI f_224_16, mk_gR f_224_17, mk_gR f_224_18, mk_gR f_224_19, mk_gI f_224_20, mk_pI f_224_20, mk_gR f_224_21, mk_gI f_224_22, mk_pI f_224_22, mk_gI f_224_23, mk_pI f_224_23, mk_gI f_224_24, mk_pI f_224_24, mk_gI f_224_25, mk_pI f_224_25, mk_gR f_224_26, mk_gI f_224_27, mk_pI f_224_27, mk_gI f_224_28, mk_pI f_224_28, mk_gR f_224_29, mk_gI f_224_30, mk_pI f_224_30, mk_gI f_224_31, mk_pI f_224_31, mk_gR f_224_32, mk_gI f_224_33, mk_pI f_224_33, ↓m_1, ↓m_2, i_0, i_1, i_2, i_3, i_4, i_6, i_5, i_12, i_11, i_10, i_9999, i_7, i_9, i_8, i_24, i_100, i_56, i_48, i_13, i_176, i_232, i_224, i_32, i_999, i_99, i_900, i_97, i_90, i_30, i_20, i_59, i_14, i_50, i_29, i_22, i_19, i_18, i_17, i_96, i_61, i_57, i_51, i_41, i_26, i_2552, i_255, i_25, i_23, i_21, i_16, i_15, i_122, i_10000, i_31, dzF, obs, b2_some, rz0, rz1, rzb, n01, n01', n10, n01e, nI_add, nI_mul, ↓reduceIte, not_false_eq_true, not_true_eq_false, ite_not, h20, leF, mk_aLn a_231, hj, t4, mk_aIn a_232, y1, eqF]
    · have hne : (lN (enc 32 (nm[t]).1) = lN (enc 32 (tW b N q))) = False := eq_false (fun z => hc (enc_inj (by decide) hin.1.2.2 hw.2.2 ((lL_eq (by omega) (by omega)).mp z)))
      simp (disch := omega) only [mk_oO o_224, mk_gI f_224_0, mk_pI f_224_0, mk_gR f_224_1, mk_gR f_224_2, mk_gR f_224_3, mk_gR f_224_4, mk_gR f_224_5, mk_gI f_224_6, mk_pI f_224_6, mk_gR f_224_7, mk_gI f_224_8, mk_pI f_224_8, mk_gI f_224_9, mk_pI f_224_9, mk_gI f_224_10, mk_pI f_224_10, mk_gI f_224_11, mk_pI f_224_11, mk_gI f_224_12, mk_pI f_224_12, mk_gI f_224_13, mk_pI f_224_13, mk_gL f_224_14, mk_pL f_224_14, mk_gI f_224_15, mk_pI f_224_15, mk_gI f_224_16, mk_pI f_224_16, mk_gR f_224_17, mk_gR f_224_18, mk_gR f_224_19, mk_gI f_224_20, mk_pI f_224_20, mk_gR f_224_21, mk_gI f_224_22, mk_pI f_224_22, mk_gI f_224_23, mk_pI f_224_23, mk_gI f_224_24, mk_pI f_224_24, mk_gI f_224_25, mk_pI f_224_25, mk_gR f_224_26, mk_gI f_224_27, mk_pI f_224_27, mk_gI f_224_28, mk_pI f_224_28, mk_gR f_224_29, mk_gI f_224_30, mk_pI f_224_30, mk_gI f_224_31, mk_pI f_224_31, mk_gR f_224_32, mk_gI f_224_33, mk_pI f_224_33, ↓m_1, ↓m_2, i_0, i_1, i_2, i_3, i_4, i_6, i_5, i_12, i_11, i_10, i_9999, i_7, i_9, i_8, i_24, i_100, i_56, i_48, i_13, i_176, i_232, i_224, i_32, i_999, i_99, i_900, i_97, i_90, i_30, i_20, i_59, i_14, i_50, i_29, i_22, i_19, i_18, i_17, i_96, i_61, i_57, i_51, i_41, i_26, i_2552, i_255, i_25, i_23, i_21, i_16, i_15, i_122, i_10000, i_31, dzF, obs, b2_some, rz0, rz1, rzb, n01, n01', n10, n01e, nI_add, nI_mul, ↓reduceIte, not_false_eq_true, not_true_eq_false, ite_not, h20, leF, mk_aLn a_231, hj, t4, hne]
theorem R_isHereF (h : RRd b N q nm I J) {s : Nat} (hs : s ≤ 3) (no : ¬ ∃ c, isT b N q nm s c) : mX10_isHere (mk n I J) 224 (nI s) = some (nI 0, mk n (u2 I 224 15 (nI (8 * tP b N q + if okName b N q then 3 else 1))) J) := by
  have e0 := R_isName (n := n) h
  have h26 := h.2.2.2.2.2.1
  unfold mX10_isHere
  by_cases ok : okName b N q
  · rw [show (if okName b N q then 1 else 0) = 1 from if_pos ok] at e0
    rw [show (if okName b N q then 3 else 1) = 3 from if_pos ok]
    rw [mk_oO o_224, e0, b2_some, i_0, if_neg (by rw [n10]; exact id)]
    exact R_ihF h hs ok no nm.length 0 FU (by omega) (by unfold FU; omega)
  · rw [show (if okName b N q then 1 else 0) = 0 from if_neg ok] at e0
    rw [show (if okName b N q then 3 else 1) = 1 from if_neg ok]
    simp (disch := omega) only [mk_oO o_224, mk_gI f_224_0, mk_pI f_224_0, mk_gR f_224_1, mk_gR f_224_2, mk_gR f_224_3, mk_gR f_224_4, mk_gR f_224_5, mk_gI f_224_6, mk_pI f_224_6, mk_gR f_224_7, mk_gI f_224_8, mk_pI f_224_8, mk_gI f_224_9, mk_pI f_224_9, mk_gI f_224_10, mk_pI f_224_10, mk_gI f_224_11, mk_pI f_224_11, mk_gI f_224_12, mk_pI f_224_12, mk_gI f_224_13, mk_pI f_224_13, mk_gL f_224_14, mk_pL f_224_14, mk_gI f_224_15, mk_pI f_224_15, mk_gI f_224_16, mk_pI f_224_16, mk_gR f_224_17, mk_gR f_224_18, mk_gR f_224_19, mk_gI f_224_20, mk_pI f_224_20, mk_gR f_224_21, mk_gI f_224_22, mk_pI f_224_22, mk_gI f_224_23, mk_pI f_224_23, mk_gI f_224_24, mk_pI f_224_24, mk_gI f_224_25, mk_pI f_224_25, mk_gR f_224_26, mk_gI f_224_27, mk_pI f_224_27, mk_gI f_224_28, mk_pI f_224_28, mk_gR f_224_29, mk_gI f_224_30, mk_pI f_224_30, mk_gI f_224_31, mk_pI f_224_31, mk_gR f_224_32, mk_gI f_224_33, mk_pI f_224_33, ↓m_1, ↓m_2, i_0, i_1, i_2, i_3, i_4, i_6, i_5, i_12, i_11, i_10, i_9999, i_7, i_9, i_8, i_24, i_100, i_56, i_48, i_13, i_176, i_232, i_224, i_32, i_999, i_99, i_900, i_97, i_90, i_30, i_20, i_59, i_14, i_50, i_29, i_22, i_19, i_18, i_17, i_96, i_61, i_57, i_51, i_41, i_26, i_2552, i_255, i_25, i_23, i_21, i_16, i_15, i_122, i_10000, i_31, dzF, obs, b2_some, rz0, rz1, rzb, n01, n01', n10, n01e, nI_add, nI_mul, ↓reduceIte, not_false_eq_true, not_true_eq_false, ite_not, e0, R_bad h]
theorem R_known (h : RRd b N q nm I J) {s c : Nat} (hs : s ≤ 3) (ok : isT b N q nm s c) : ∃ I' J', mX10_known (mk n I J) 224 (nI s) = some (nI 1, mk n I' J') ∧ RRd b N (tE b N q) nm I' J' ∧ I' 224 16 = nI c ∧ Fq I I' ∧ Gq J J' := by
  have e0 := R_isHere (n := n) h hs ok
  obtain ⟨I1, J1, e1, r1, f1, g1⟩ := R_step (n := n) (h.got (nI c)) (by rw [ok.1.1]; decide)
  refine ⟨I1, J1, ?_, r1, by rw [f1 _ _ (by omega), u2_at], (Fq_u _ _ (by omega)).trans f1.fq, g1.gq⟩
  unfold mX10_known
  simp (disch := omega) only [mk_oO o_224, mk_gI f_224_0, mk_pI f_224_0, mk_gR f_224_1, mk_gR f_224_2, mk_gR f_224_3, mk_gR f_224_4, mk_gR f_224_5, mk_gI f_224_6, mk_pI f_224_6, mk_gR f_224_7, mk_gI f_224_8, mk_pI f_224_8, mk_gI f_224_9, mk_pI f_224_9, mk_gI f_224_10, mk_pI f_224_10, mk_gI f_224_11, mk_pI f_224_11, mk_gI f_224_12, mk_pI f_224_12, mk_gI f_224_13, mk_pI f_224_13, mk_gL f_224_14, mk_pL f_224_14, mk_gI f_224_15, mk_pI f_224_15, mk_gI f_224_16, mk_pI f_224_16, mk_gR f_224_17, mk_gR f_224_18, mk_gR f_224_19, mk_gI f_224_20, mk_pI f_224_20, mk_gR f_224_21, mk_gI f_224_22, mk_pI f_224_22, mk_gI f_224_23, mk_pI f_224_23, mk_gI f_224_24, mk_pI f_224_24, mk_gI f_224_25, mk_pI f_224_25, mk_gR f_224_26, mk_gI f_224_27, mk_pI f_224_27, mk_gI f_224_28, mk_pI f_224_28, mk_gR f_224_29, mk_gI f_224_30, mk_pI f_224_30, mk_gI f_224_31, mk_pI f_224_31, mk_gR f_224_32, mk_gI f_224_33, mk_pI f_224_33, ↓m_1, ↓m_2, i_0, i_1, i_2, i_3, i_4, i_6, i_5, i_12, i_11, i_10, i_9999, i_7, i_9, i_8, i_24, i_100, i_56, i_48, i_13, i_176, i_232, i_224, i_32, i_999, i_99, i_900, i_97, i_90, i_30, i_20, i_59, i_14, i_50, i_29, i_22, i_19, i_18, i_17, i_96, i_61, i_57, i_51, i_41, i_26, i_2552, i_255, i_25, i_23, i_21, i_16, i_15, i_122, i_10000, i_31, dzF, obs, b2_some, rz0, rz1, rzb, n01, n01', n10, n01e, nI_add, nI_mul, ↓reduceIte, not_false_eq_true, not_true_eq_false, ite_not, e0, e1]
theorem R_knownF (h : RRd b N q nm I J) {s : Nat} (hs : s ≤ 3) (no : ¬ ∃ c, isT b N q nm s c) : mX10_known (mk n I J) 224 (nI s) = some (nI 0, mk n (u2 I 224 15 (nI (8 * tP b N q + if okName b N q then 3 else 1))) J) := by
  have e0 := R_isHereF (n := n) h hs no
  unfold mX10_known
  simp (disch := omega) only [mk_oO o_224, mk_gI f_224_0, mk_pI f_224_0, mk_gR f_224_1, mk_gR f_224_2, mk_gR f_224_3, mk_gR f_224_4, mk_gR f_224_5, mk_gI f_224_6, mk_pI f_224_6, mk_gR f_224_7, mk_gI f_224_8, mk_pI f_224_8, mk_gI f_224_9, mk_pI f_224_9, mk_gI f_224_10, mk_pI f_224_10, mk_gI f_224_11, mk_pI f_224_11, mk_gI f_224_12, mk_pI f_224_12, mk_gI f_224_13, mk_pI f_224_13, mk_gL f_224_14, mk_pL f_224_14, mk_gI f_224_15, mk_pI f_224_15, mk_gI f_224_16, mk_pI f_224_16, mk_gR f_224_17, mk_gR f_224_18, mk_gR f_224_19, mk_gI f_224_20, mk_pI f_224_20, mk_gR f_224_21, mk_gI f_224_22, mk_pI f_224_22, mk_gI f_224_23, mk_pI f_224_23, mk_gI f_224_24, mk_pI f_224_24, mk_gI f_224_25, mk_pI f_224_25, mk_gR f_224_26, mk_gI f_224_27, mk_pI f_224_27, mk_gI f_224_28, mk_pI f_224_28, mk_gR f_224_29, mk_gI f_224_30, mk_pI f_224_30, mk_gI f_224_31, mk_pI f_224_31, mk_gR f_224_32, mk_gI f_224_33, mk_pI f_224_33, ↓m_1, ↓m_2, i_0, i_1, i_2, i_3, i_4, i_6, i_5, i_12, i_11, i_10, i_9999, i_7, i_9, i_8, i_24, i_100, i_56, i_48, i_13, i_176, i_232, i_224, i_32, i_999, i_99, i_900, i_97, i_90, i_30, i_20, i_59, i_14, i_50, i_29, i_22, i_19, i_18, i_17, i_96, i_61, i_57, i_51, i_41, i_26, i_2552, i_255, i_25, i_23, i_21, i_16, i_15, i_122, i_10000, i_31, dzF, obs, b2_some, rz0, rz1, rzb, n01, n01', n10, n01e, nI_add, nI_mul, ↓reduceIte, not_false_eq_true, not_true_eq_false, ite_not, e0]
end RO
