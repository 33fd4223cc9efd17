/-! ===== 44: the reference's questions: what is told of sales ===== -/
theorem leT {a b : Nat} (h : a ≤ b) (hb : b < 2 ^ 31) : (nI a ≤ nI b) = True := eq_true (nI_le h hb)
theorem leF {a b : Nat} (h : b < a) (hb : a < 2 ^ 31) : (nI a ≤ nI b) = False := eq_false (nI_ge h hb)
theorem ltT {a b : Nat} (h : a < b) (hb : b < 2 ^ 31) : (nI a < nI b) = True := eq_true (nI_lt h hb)
theorem ltF {a b : Nat} (h : b ≤ a) (hb : a < 2 ^ 31) : (nI a < nI b) = False := eq_false (nI_nlt h hb)
theorem eqT {a b : Nat} (h : a = b) : (nI a = nI b) = True := eq_true (congrArg nI h)
theorem eqF {a b : Nat} (h : a ≠ b) (ha : a < 2 ^ 31) (hb : b < 2 ^ 31) : (nI a = nI b) = False := eq_false (fun e => h ((nI_eq ha hb).mp e))
/-- the sale that is left out: 10 and above: none -/
def goN (g : Nat) : Int32 := if g < 10 then nI g else M1
theorem goN_eq {s g : Nat} (hs : s < 10) : (nI s = goN g) = (s = g) := by
  unfold goN
  by_cases h : g < 10
  · rw [if_pos h]; exact propext (nI_eq (by omega) (by omega))
  · rw [if_neg h, nM1 (by omega)]; exact (eq_false (by omega)).symm
/-- only places of S are told anew -/
def Fx (S : Nat → Nat → Prop) (I I' : Nat → Nat → Int32) : Prop := ∀ a c, ¬ S a c → I' a c = I a c
theorem Fx.refl {S : Nat → Nat → Prop} (I : Nat → Nat → Int32) : Fx S I I := fun _ _ _ => rfl
theorem Fx.trans {S : Nat → Nat → Prop} {I I' I'' : Nat → Nat → Int32} (h : Fx S I I') (h' : Fx S I' I'') : Fx S I I'' := fun a c hn => (h' a c hn).trans (h a c hn)
theorem Fx.mono {S S' : Nat → Nat → Prop} {I I' : Nat → Nat → Int32} (h : Fx S I I') (hs : ∀ a c, S a c → S' a c) : Fx S' I I' := fun a c hn => h a c (fun z => hn (hs a c z))
theorem Fx_u2 {S : Nat → Nat → Prop} (I : Nat → Nat → Int32) {k f : Nat} (x : Int32) (hs : S k f) : Fx S I (u2 I k f x) := fun a c hn => by
  unfold u2
  rw [if_neg]
  rintro ⟨rfl, rfl⟩
  exact hn hs
/-- places that shares are counted at -/
def SA (a c : Nat) : Prop := a = 224 ∧ (c = 24 ∨ c = 25)
/-- places that questions to the reference write to -/
def SQ (a c : Nat) : Prop := a = 224 ∧ (c = 24 ∨ c = 25 ∨ c = 27 ∨ c = 28)
def SW (a c : Nat) : Prop := (a = 224 ∧ (c = 0 ∨ c = 24 ∨ c = 25 ∨ c = 27 ∨ c = 28 ∨ c = 30 ∨ c = 31)) ∨ a = 236
theorem SQ_SW (a c : Nat) (h : SQ a c) : SW a c := by unfold SQ at h; unfold SW; omega
def RQ (T : Nat → Nat) (g : Nat) (I : Nat → Nat → Int32) : Prop := NR I 225 0 T ∧ I 224 23 = goN g
theorem RQ.fx {T : Nat → Nat} {g : Nat} {I I' : Nat → Nat → Int32} (h : RQ T g I) (hf : Fx SQ I I') : RQ T g I' := ⟨fun j hj => by rw [hf _ _ (by unfold SQ; omega)]; exact h.1 j hj, by rw [hf _ _ (by unfold SQ; omega)]; exact h.2⟩
theorem RQ.fw {T : Nat → Nat} {g : Nat} {I I' : Nat → Nat → Int32} (h : RQ T g I) (hf : Fx SW I I') : RQ T g I' := ⟨fun j hj => by rw [hf _ _ (by unfold SW; omega)]; exact h.1 j hj, by rw [hf _ _ (by unfold SW; omega)]; exact h.2⟩
theorem SA_SQ (a c : Nat) (h : SA a c) : SQ a c := by unfold SA at h; unfold SQ; omega
theorem RQ.fa {T : Nat → Nat} {g : Nat} {I I' : Nat → Nat → Int32} (h : RQ T g I) (hf : Fx SA I I') : RQ T g I' := h.fx (hf.mono SA_SQ)
/-- how many bands a number of pieces reaches -/
def lvN (T : Nat → Nat) (p : Nat) : Nat → Nat
  | 0 => 0
  | k + 1 => if p < T (224 + 2 * k) then lvN T p k else k + 1
def lvl (T : Nat → Nat) (s : Nat) : Nat := lvN T (T (56 + 12 * s + 3)) (T 5)
def less (T : Nat → Nat) (s : Nat) : Nat := if lvl T s = 0 then 0 else T (224 + 2 * lvl T s - 1)
def like (T : Nat → Nat) (g h : Nat) : Nat := if g = h then 1 else if T (24 + 4 * g + 0) = T (24 + 4 * h + 0) then (if T (24 + 4 * g + 1) = T (24 + 4 * h + 1) then 2 else 0) else 0
abbrev uses (T : Nat → Nat) (g s a : Nat) : Prop := ¬ s = g ∧ (T (56 + 12 * s + 11)).testBit a = true
abbrev ahead (T : Nat → Nat) (t s : Nat) : Prop := T (56 + 12 * t + 5) < T (56 + 12 * s + 5) ∨ T (56 + 12 * t + 5) = T (56 + 12 * s + 5) ∧ t < s
/-- pieces of the first t sales that are ahead of s and use a; how many these are -/
def pcA (T : Nat → Nat) (g a s : Nat) : Nat → Nat
  | 0 => 0
  | t + 1 => pcA T g a s t + if ahead T t s ∧ uses T g t a then T (56 + 12 * t + 3) else 0
def cnA (T : Nat → Nat) (g a s : Nat) : Nat → Nat
  | 0 => 0
  | t + 1 => cnA T g a s t + if ahead T t s ∧ uses T g t a then 1 else 0
def share (T : Nat → Nat) (g a s : Nat) : Nat :=
  if uses T g s a then
    if T (48 + 2 * a + 1) = 0 then (if cnA T g a s (T 3) = 0 then T (48 + 2 * a + 0) else 0)
    else T (48 + 2 * a + 0) * min (T (48 + 2 * a + 1) - pcA T g a s (T 3)) (T (56 + 12 * s + 3)) / T (48 + 2 * a + 1)
  else 0
def shares (T : Nat → Nat) (g s : Nat) : Nat → Nat
  | 0 => 0
  | a + 1 => shares T g s a + share T g a s
def ownAt (T : Nat → Nat) (g s p : Nat) : Nat := p * T (56 + 12 * s + 3) + p * T (56 + 12 * s + 3) * T (56 + 12 * s + 7) / 100 + T (56 + 12 * s + 8) + T (56 + 12 * s + 9) + T (56 + 12 * s + 10) + shares T g s (T 2)
def own (T : Nat → Nat) (g s : Nat) : Nat := ownAt T g s (T (56 + 12 * s + 4))
section RF
variable {n g : Nat} {I : Nat → Nat → Int32} {J : Nat → Nat → Int64} {T : Nat → Nat}
theorem pcA_le (hT : VT T) (a s t : Nat) : pcA T g a s t ≤ 9999 * t := by
  induction t with
  | zero => exact Nat.le_refl _
  | succ t ih =>
    unfold pcA
    have := hT.le (56 + 12 * t + 3)
    split <;> omega
theorem cnA_le (a s t : Nat) : cnA T g a s t ≤ t := by
  induction t with
  | zero => exact Nat.le_refl _
  | succ t ih =>
    unfold cnA
    split <;> omega
theorem share_le (hT : VT T) (a s : Nat) : share T g a s ≤ 9999 := by
  unfold share
  have h0 := hT.le (48 + 2 * a + 0)
  split
  · split
    · split <;> omega
    · rename_i hz
      apply Nat.le_trans _ h0
      apply Nat.div_le_of_le_mul
      rw [Nat.mul_comm]
      exact Nat.mul_le_mul_right _ (by omega)
  · omega
theorem shares_le (hT : VT T) (s a : Nat) : shares T g s a ≤ 9999 * a := by
  induction a with
  | zero => exact Nat.le_refl _
  | succ a ih =>
    unfold shares
    have := share_le (g := g) hT a s
    omega
theorem lvN_le (p k : Nat) : lvN T p k ≤ k := by
  induction k with
  | zero => exact Nat.le_refl _
  | succ k ih =>
    unfold lvN
    split <;> omega
theorem lvl_le (hT : VT T) (s : Nat) : lvl T s ≤ 4 := Nat.le_trans (lvN_le _ _) hT.1.2.2.2.2.2
theorem less_le (hT : VT T) (s : Nat) : less T s ≤ 90 := by
  unfold less
  have h := lvN_le (T := T) (T (56 + 12 * s + 3)) (T 5)
  have h' : lvl T s ≤ T 5 := h
  split
  · omega
  · rename_i hz
    have := hT.2.2.2.2.2.2.2.2.1 (lvl T s - 1) (by omega)
    rw [show 224 + 2 * lvl T s - 1 = 225 + 2 * (lvl T s - 1) by omega]
    exact this
theorem R_isSale (hT : VT T) (h : RQ T g I) {x : Int32} [Decidable (ixB x (T 3))] : mX10_isSale (mk n I J) 224 x = some (nI (if ixB x (T 3) then 1 else 0), mk n I J) := by
  unfold mX10_isSale
  simp (disch := omega) only [mk_oO o_224, mk_gI f_224_0, mk_pI f_224_0, mk_gR f_224_1, mk_gR f_224_2, mk_gR f_224_3, mk_gR f_224_4, mk_gR f_224_5, mk_gI f_224_6, mk_pI f_224_6, mk_gR f_224_7, mk_gI f_224_8, mk_pI f_224_8, mk_gI f_224_9, mk_pI f_224_9, mk_gI f_224_10, mk_pI f_224_10, mk_gI f_224_11, mk_pI f_224_11, mk_gI f_224_12, mk_pI f_224_12, mk_gI f_224_13, mk_pI f_224_13, mk_gL f_224_14, mk_pL f_224_14, mk_gI f_224_15, mk_pI f_224_15, mk_gI f_224_16, mk_pI f_224_16, mk_gR f_224_17, mk_gR f_224_18, mk_gR f_224_19, mk_gI f_224_20, mk_pI f_224_20, mk_gR f_224_21, mk_gI f_224_22, mk_pI f_224_22, mk_gI f_224_23, mk_pI f_224_23, mk_gI f_224_24, mk_pI f_224_24, mk_gI f_224_25, mk_pI f_224_25, mk_gR f_224_26, mk_gI f_224_27, mk_pI f_224_27, mk_gI f_224_28, mk_pI f_224_28, mk_gR f_224_29, mk_gI f_224_30, mk_pI f_224_30, mk_gI f_224_31, mk_pI f_224_31, mk_gR f_224_32, mk_gI f_224_33, mk_pI f_224_33, ↓m_1, ↓m_2, i_0, i_1, i_2, i_3, i_4, i_6, i_5, i_12, i_11, i_10, i_9999, i_7, i_9, i_8, i_24, i_100, i_56, i_48, i_13, i_176, i_232, i_224, i_32, i_999, i_99, i_900, i_97, i_90, i_30, i_20, i_59, i_14, i_50, i_29, i_22, i_19, i_18, i_17, i_96, i_61, i_57, i_51, i_41, i_26, i_2552, i_255, i_25, i_23, i_21, i_16, i_15, i_122, i_10000, i_31, dzF, obs, b2_some, rz0, rz1, rzb, n01, n01', n10, n01e, nI_add, nI_mul, ↓reduceIte, not_false_eq_true, not_true_eq_false, ite_not, R_now h.1, isIn_ev (hT.l31 3)]
theorem R_of (h : RQ T g I) {s j : Nat} (hs : s < 10) (hj : j < 12) : mX10_of (mk n I J) 224 (nI s) (nI j) = some (nI (T (56 + 12 * s + j)), mk n I J) := by
  unfold mX10_of
  simp (disch := omega) only [mk_oO o_224, mk_gI f_224_0, mk_pI f_224_0, mk_gR f_224_1, mk_gR f_224_2, mk_gR f_224_3, mk_gR f_224_4, mk_gR f_224_5, mk_gI f_224_6, mk_pI f_224_6, mk_gR f_224_7, mk_gI f_224_8, mk_pI f_224_8, mk_gI f_224_9, mk_pI f_224_9, mk_gI f_224_10, mk_pI f_224_10, mk_gI f_224_11, mk_pI f_224_11, mk_gI f_224_12, mk_pI f_224_12, mk_gI f_224_13, mk_pI f_224_13, mk_gL f_224_14, mk_pL f_224_14, mk_gI f_224_15, mk_pI f_224_15, mk_gI f_224_16, mk_pI f_224_16, mk_gR f_224_17, mk_gR f_224_18, mk_gR f_224_19, mk_gI f_224_20, mk_pI f_224_20, mk_gR f_224_21, mk_gI f_224_22, mk_pI f_224_22, mk_gI f_224_23, mk_pI f_224_23, mk_gI f_224_24, mk_pI f_224_24, mk_gI f_224_25, mk_pI f_224_25, mk_gR f_224_26, mk_gI f_224_27, mk_pI f_224_27, mk_gI f_224_28, mk_pI f_224_28, mk_gR f_224_29, mk_gI f_224_30, mk_pI f_224_30, mk_gI f_224_31, mk_pI f_224_31, mk_gR f_224_32, mk_gI f_224_33, mk_pI f_224_33, ↓m_1, ↓m_2, i_0, i_1, i_2, i_3, i_4, i_6, i_5, i_12, i_11, i_10, i_9999, i_7, i_9, i_8, i_24, i_100, i_56, i_48, i_13, i_176, i_232, i_224, i_32, i_999, i_99, i_900, i_97, i_90, i_30, i_20, i_59, i_14, i_50, i_29, i_22, i_19, i_18, i_17, i_96, i_61, i_57, i_51, i_41, i_26, i_2552, i_255, i_25, i_23, i_21, i_16, i_15, i_122, i_10000, i_31, dzF, obs, b2_some, rz0, rz1, rzb, n01, n01', n10, n01e, nI_add, nI_mul, ↓reduceIte, not_false_eq_true, not_true_eq_false, ite_not, R_now h.1]
theorem R_good (h : RQ T g I) {s j : Nat} (hs : s < 6) (hj : j < 4) : mX10_good (mk n I J) 224 (nI s) (nI j) = some (nI (T (24 + 4 * s + j)), mk n I J) := by
  unfold mX10_good
  simp (disch := omega) only [mk_oO o_224, mk_gI f_224_0, mk_pI f_224_0, mk_gR f_224_1, mk_gR f_224_2, mk_gR f_224_3, mk_gR f_224_4, mk_gR f_224_5, mk_gI f_224_6, mk_pI f_224_6, mk_gR f_224_7, mk_gI f_224_8, mk_pI f_224_8, mk_gI f_224_9, mk_pI f_224_9, mk_gI f_224_10, mk_pI f_224_10, mk_gI f_224_11, mk_pI f_224_11, mk_gI f_224_12, mk_pI f_224_12, mk_gI f_224_13, mk_pI f_224_13, mk_gL f_224_14, mk_pL f_224_14, mk_gI f_224_15, mk_pI f_224_15, mk_gI f_224_16, mk_pI f_224_16, mk_gR f_224_17, mk_gR f_224_18, mk_gR f_224_19, mk_gI f_224_20, mk_pI f_224_20, mk_gR f_224_21, mk_gI f_224_22, mk_pI f_224_22, mk_gI f_224_23, mk_pI f_224_23, mk_gI f_224_24, mk_pI f_224_24, mk_gI f_224_25, mk_pI f_224_25, mk_gR f_224_26, mk_gI f_224_27, mk_pI f_224_27, mk_gI f_224_28, mk_pI f_224_28, mk_gR f_224_29, mk_gI f_224_30, mk_pI f_224_30, mk_gI f_224_31, mk_pI f_224_31, mk_gR f_224_32, mk_gI f_224_33, mk_pI f_224_33, ↓m_1, ↓m_2, i_0, i_1, i_2, i_3, i_4, i_6, i_5, i_12, i_11, i_10, i_9999, i_7, i_9, i_8, i_24, i_100, i_56, i_48, i_13, i_176, i_232, i_224, i_32, i_999, i_99, i_900, i_97, i_90, i_30, i_20, i_59, i_14, i_50, i_29, i_22, i_19, i_18, i_17, i_96, i_61, i_57, i_51, i_41, i_26, i_2552, i_255, i_25, i_23, i_21, i_16, i_15, i_122, i_10000, i_31, dzF, obs, b2_some, rz0, rz1, rzb, n01, n01', n10, n01e, nI_add, nI_mul, ↓reduceIte, not_false_eq_true, not_true_eq_false, ite_not, R_now h.1]
theorem R_assistOf (h : RQ T g I) {s j : Nat} (hs : s < 4) (hj : j < 2) : mX10_assistOf (mk n I J) 224 (nI s) (nI j) = some (nI (T (48 + 2 * s + j)), mk n I J) := by
  unfold mX10_assistOf
  simp (disch := omega) only [mk_oO o_224, mk_gI f_224_0, mk_pI f_224_0, mk_gR f_224_1, mk_gR f_224_2, mk_gR f_224_3, mk_gR f_224_4, mk_gR f_224_5, mk_gI f_224_6, mk_pI f_224_6, mk_gR f_224_7, mk_gI f_224_8, mk_pI f_224_8, mk_gI f_224_9, mk_pI f_224_9, mk_gI f_224_10, mk_pI f_224_10, mk_gI f_224_11, mk_pI f_224_11, mk_gI f_224_12, mk_pI f_224_12, mk_gI f_224_13, mk_pI f_224_13, mk_gL f_224_14, mk_pL f_224_14, mk_gI f_224_15, mk_pI f_224_15, mk_gI f_224_16, mk_pI f_224_16, mk_gR f_224_17, mk_gR f_224_18, mk_gR f_224_19, mk_gI f_224_20, mk_pI f_224_20, mk_gR f_224_21, mk_gI f_224_22, mk_pI f_224_22, mk_gI f_224_23, mk_pI f_224_23, mk_gI f_224_24, mk_pI f_224_24, mk_gI f_224_25, mk_pI f_224_25, mk_gR f_224_26, mk_gI f_224_27, mk_pI f_224_27, mk_gI f_224_28, mk_pI f_224_28, mk_gR f_224_29, mk_gI f_224_30, mk_pI f_224_30, mk_gI f_224_31, mk_pI f_224_31, mk_gR f_224_32, mk_gI f_224_33, mk_pI f_224_33, ↓m_1, ↓m_2, i_0, i_1, i_2, i_3, i_4, i_6, i_5, i_12, i_11, i_10, i_9999, i_7, i_9, i_8, i_24, i_100, i_56, i_48, i_13, i_176, i_232, i_224, i_32, i_999, i_99, i_900, i_97, i_90, i_30, i_20, i_59, i_14, i_50, i_29, i_22, i_19, i_18, i_17, i_96, i_61, i_57, i_51, i_41, i_26, i_2552, i_255, i_25, i_23, i_21, i_16, i_15, i_122, i_10000, i_31, dzF, obs, b2_some, rz0, rz1, rzb, n01, n01', n10, n01e, nI_add, nI_mul, ↓reduceIte, not_false_eq_true, not_true_eq_false, ite_not, R_now h.1]
theorem R_row (h : RQ T g I) {s j : Nat} (hs : s < 12) (hj : j < 4) : mX10_row (mk n I J) 224 (nI s) (nI j) = some (nI (T (176 + 4 * s + j)), mk n I J) := by
  unfold mX10_row
  simp (disch := omega) only [mk_oO o_224, mk_gI f_224_0, mk_pI f_224_0, mk_gR f_224_1, mk_gR f_224_2, mk_gR f_224_3, mk_gR f_224_4, mk_gR f_224_5, mk_gI f_224_6, mk_pI f_224_6, mk_gR f_224_7, mk_gI f_224_8, mk_pI f_224_8, mk_gI f_224_9, mk_pI f_224_9, mk_gI f_224_10, mk_pI f_224_10, mk_gI f_224_11, mk_pI f_224_11, mk_gI f_224_12, mk_pI f_224_12, mk_gI f_224_13, mk_pI f_224_13, mk_gL f_224_14, mk_pL f_224_14, mk_gI f_224_15, mk_pI f_224_15, mk_gI f_224_16, mk_pI f_224_16, mk_gR f_224_17, mk_gR f_224_18, mk_gR f_224_19, mk_gI f_224_20, mk_pI f_224_20, mk_gR f_224_21, mk_gI f_224_22, mk_pI f_224_22, mk_gI f_224_23, mk_pI f_224_23, mk_gI f_224_24, mk_pI f_224_24, mk_gI f_224_25, mk_pI f_224_25, mk_gR f_224_26, mk_gI f_224_27, mk_pI f_224_27, mk_gI f_224_28, mk_pI f_224_28, mk_gR f_224_29, mk_gI f_224_30, mk_pI f_224_30, mk_gI f_224_31, mk_pI f_224_31, mk_gR f_224_32, mk_gI f_224_33, mk_pI f_224_33, ↓m_1, ↓m_2, i_0, i_1, i_2, i_3, i_4, i_6, i_5, i_12, i_11, i_10, i_9999, i_7, i_9, i_8, i_24, i_100, i_56, i_48, i_13, i_176, i_232, i_224, i_32, i_999, i_99, i_900, i_97, i_90, i_30, i_20, i_59, i_14, i_50, i_29, i_22, i_19, i_18, i_17, i_96, i_61, i_57, i_51, i_41, i_26, i_2552, i_255, i_25, i_23, i_21, i_16, i_15, i_122, i_10000, i_31, dzF, obs, b2_some, rz0, rz1, rzb, n01, n01', n10, n01e, nI_add, nI_mul, ↓reduceIte, not_false_eq_true, not_true_eq_false, ite_not, R_now h.1]
theorem R_levelL (hT : VT T) (h : RQ T g I) {s : Nat} (hs : s < 10) : ∀ (k t fu : Nat), t + k = T 5 → k < fu → mX10_levelOf_L4 fu (mk n I J) 224 (nI s) (nI (lvN T (T (56 + 12 * s + 3)) t)) (nI t) = some (nI (lvl T s), mk n I J) := by
  have b0 := hT.1
  intro k
  induction k with
  | zero =>
    intro t fu ht hf
    obtain ⟨fu, rfl⟩ : ∃ f, fu = f + 1 := ⟨fu - 1, by omega⟩
    show mX10_levelOf_b4 _ _ _ _ _ _ = _
    unfold mX10_levelOf_b4
    simp (disch := omega) only [mk_oO o_224, mk_gI f_224_0, mk_pI f_224_0, mk_gR f_224_1, mk_gR f_224_2, mk_gR f_224_3, mk_gR f_224_4, mk_gR f_224_5, mk_gI f_224_6, mk_pI f_224_6, mk_gR f_224_7, mk_gI f_224_8, mk_pI f_224_8, mk_gI f_224_9, mk_pI f_224_9, mk_gI f_224_10, mk_pI f_224_10, mk_gI f_224_11, mk_pI f_224_11, mk_gI f_224_12, mk_pI f_224_12, mk_gI f_224_13, mk_pI f_224_13, mk_gL f_224_14, mk_pL f_224_14, mk_gI f_224_15, mk_pI f_224_15, mk_gI f_224_16, mk_pI f_224_16, mk_gR f_224_17, mk_gR f_224_18, mk_gR f_224_19, mk_gI f_224_20, mk_pI f_224_20, mk_gR f_224_21, mk_gI f_224_22, mk_pI f_224_22, mk_gI f_224_23, mk_pI f_224_23, mk_gI f_224_24, mk_pI f_224_24, mk_gI f_224_25, mk_pI f_224_25, mk_gR f_224_26, mk_gI f_224_27, mk_pI f_224_27, mk_gI f_224_28, mk_pI f_224_28, mk_gR f_224_29, mk_gI f_224_30, mk_pI f_224_30, mk_gI f_224_31, mk_pI f_224_31, mk_gR f_224_32, mk_gI f_224_33, mk_pI f_224_33, ↓m_1, ↓m_2, i_0, i_1, i_2, i_3, i_4, i_6, i_5, i_12, i_11, i_10, i_9999, i_7, i_9, i_8, i_24, i_100, i_56, i_48, i_13, i_176, i_232, i_224, i_32, i_999, i_99, i_900, i_97, i_90, i_30, i_20, i_59, i_14, i_50, i_29, i_22, i_19, i_18, i_17, i_96, i_61, i_57, i_51, i_41, i_26, i_2552, i_255, i_25, i_23, i_21, i_16, i_15, i_122, i_10000, i_31, dzF, obs, b2_some, rz0, rz1, rzb, n01, n01', n10, n01e, nI_add, nI_mul, ↓reduceIte, not_false_eq_true, not_true_eq_false, ite_not, leT, leF, ltT, ltF, eqT, eqF, dz_no, R_now h.1]
    rw [show t = T 5 by omega]; rfl
  | succ k ih =>
    intro t fu ht hf
    obtain ⟨fu, rfl⟩ : ∃ f, fu = f + 1 := ⟨fu - 1, by omega⟩
    show mX10_levelOf_b4 _ _ _ _ _ _ = _
    unfold mX10_levelOf_b4
    have e := ih (t + 1) fu (by omega) (by omega)
    simp (disch := omega) only [mk_oO o_224, mk_gI f_224_0, mk_pI f_224_0, mk_gR f_224_1, mk_gR f_224_2, mk_gR f_224_3, mk_gR f_224_4, mk_gR f_224_5, mk_gI f_224_6, mk_pI f_224_6, mk_gR f_224_7, mk_gI f_224_8, mk_pI f_224_8, mk_gI f_224_9, mk_pI f_224_9, mk_gI f_224_10, mk_pI f_224_10, mk_gI f_224_11, mk_pI f_224_11, mk_gI f_224_12, mk_pI f_224_12, mk_gI f_224_13, mk_pI f_224_13, mk_gL f_224_14, mk_pL f_224_14, mk_gI f_224_15, mk_pI f_224_15, mk_gI f_224_16, mk_pI f_224_16, mk_gR f_224_17, mk_gR f_224_18, mk_gR f_224_19, mk_gI f_224_20, mk_pI f_224_20, mk_gR f_224_21, mk_gI f_224_22, mk_pI f_224_22, mk_gI f_224_23, mk_pI f_224_23, mk_gI f_224_24, mk_pI f_224_24, mk_gI f_224_25, mk_pI f_224_25, mk_gR f_224_26, mk_gI f_224_27, mk_pI f_224_27, mk_gI f_224_28, mk_pI f_224_28, mk_gR f_224_29, mk_gI f_224_30, mk_pI f_224_30, mk_gI f_224_31, mk_pI f_224_31, mk_gR f_224_32, mk_gI f_224_33, mk_pI f_224_33, ↓m_1, ↓m_2, i_0, i_1, i_2, i_3, i_4, i_6, i_5, i_12, i_11, i_10, i_9999, i_7, i_9, i_8, i_24, i_100, i_56, i_48, i_13, i_176, i_232, i_224, i_32, i_999, i_99, i_900, i_97, i_90, i_30, i_20, i_59, i_14, i_50, i_29, i_22, i_19, i_18, i_17, i_96, i_61, i_57, i_51, i_41, i_26, i_2552, i_255, i_25, i_23, i_21, i_16, i_15, i_122, i_10000, i_31, dzF, obs, b2_some, rz0, rz1, rzb, n01, n01', n10, n01e, nI_add, nI_mul, ↓reduceIte, not_false_eq_true, not_true_eq_false, ite_not, leF, R_now h.1, R_of h, nI_ltI (hT.l31 _) (hT.l31 _)]
    unfold lvN at e
    split
    · rename_i hc; rw [if_pos hc] at e; exact e
    · rename_i hc; rw [if_neg hc] at e; exact e
theorem R_levelOf (hT : VT T) (h : RQ T g I) {s : Nat} (hs : s < 10) : mX10_levelOf (mk n I J) 224 (nI s) = some (nI (lvl T s), mk n I J) := by
  unfold mX10_levelOf
  rw [mk_oO o_224]
  have b0 := hT.1
  exact R_levelL hT h hs (T 5) 0 FU (by omega) (by unfold FU; omega)
theorem R_lessOf (hT : VT T) (h : RQ T g I) {s : Nat} (hs : s < 10) : mX10_lessOf (mk n I J) 224 (nI s) = some (nI (less T s), mk n I J) := by
  have b1 := lvl_le hT s
  unfold mX10_lessOf less
  by_cases hz : lvl T s = 0
  · simp (disch := omega) only [mk_oO o_224, mk_gI f_224_0, mk_pI f_224_0, mk_gR f_224_1, mk_gR f_224_2, mk_gR f_224_3, mk_gR f_224_4, mk_gR f_224_5, mk_gI f_224_6, mk_pI f_224_6, mk_gR f_224_7, mk_gI f_224_8, mk_pI f_224_8, mk_gI f_224_9, mk_pI f_224_9, mk_gI f_224_10, mk_pI f_224_10, mk_gI f_224_11, mk_pI f_224_11, mk_gI f_224_12, mk_pI f_224_12, mk_gI f_224_13, mk_pI f_224_13, mk_gL f_224_14, mk_pL f_224_14, mk_gI f_224_15, mk_pI f_224_15, mk_gI f_224_16, mk_pI f_224_16, mk_gR f_224_17, mk_gR f_224_18, mk_gR f_224_19, mk_gI f_224_20, mk_pI f_224_20, mk_gR f_224_21, mk_gI f_224_22, mk_pI f_224_22, mk_gI f_224_23, mk_pI f_224_23, mk_gI f_224_24, mk_pI f_224_24, mk_gI f_224_25, mk_pI f_224_25, mk_gR f_224_26, mk_gI f_224_27, mk_pI f_224_27, mk_gI f_224_28, mk_pI f_224_28, mk_gR f_224_29, mk_gI f_224_30, mk_pI f_224_30, mk_gI f_224_31, mk_pI f_224_31, mk_gR f_224_32, mk_gI f_224_33, mk_pI f_224_33, ↓m_1, ↓m_2, i_0, i_1, i_2, i_3, i_4, i_6, i_5, i_12, i_11, i_10, i_9999, i_7, i_9, i_8, i_24, i_100, i_56, i_48, i_13, i_176, i_232, i_224, i_32, i_999, i_99, i_900, i_97, i_90, i_30, i_20, i_59, i_14, i_50, i_29, i_22, i_19, i_18, i_17, i_96, i_61, i_57, i_51, i_41, i_26, i_2552, i_255, i_25, i_23, i_21, i_16, i_15, i_122, i_10000, i_31, dzF, obs, b2_some, rz0, rz1, rzb, n01, n01', n10, n01e, nI_add, nI_mul, ↓reduceIte, not_false_eq_true, not_true_eq_false, ite_not, leT, leF, ltT, ltF, eqT, eqF, dz_no, R_levelOf hT h hs, if_pos hz]
  · simp (disch := omega) only [mk_oO o_224, mk_gI f_224_0, mk_pI f_224_0, mk_gR f_224_1, mk_gR f_224_2, mk_gR f_224_3, mk_gR f_224_4, mk_gR f_224_5, mk_gI f_224_6, mk_pI f_224_6, mk_gR f_224_7, mk_gI f_224_8, mk_pI f_224_8, mk_gI f_224_9, mk_pI f_224_9, mk_gI f_224_10, mk_pI f_224_10, mk_gI f_224_11, mk_pI f_224_11, mk_gI f_224_12, mk_pI f_224_12, mk_gI f_224_13, mk_pI f_224_13, mk_gL f_224_14, mk_pL f_224_14, mk_gI f_224_15, mk_pI f_224_15, mk_gI f_224_16, mk_pI f_224_16, mk_gR f_224_17, mk_gR f_224_18, mk_gR f_224_19, mk_gI f_224_20, mk_pI f_224_20, mk_gR f_224_21, mk_gI f_224_22, mk_pI f_224_22, mk_gI f_224_23, mk_pI f_224_23, mk_gI f_224_24, mk_pI f_224_24, mk_gI f_224_25, mk_pI f_224_25, mk_gR f_224_26, mk_gI f_224_27, mk_pI f_224_27, mk_gI f_224_28, mk_pI f_224_28, mk_gR f_224_29, mk_gI f_224_30, mk_pI f_224_30, mk_gI f_224_31, mk_pI f_224_31, mk_gR f_224_32, mk_gI f_224_33, mk_pI f_224_33, ↓m_1, ↓m_2, i_0, i_1, i_2, i_3, i_4, i_6, i_5, i_12, i_11, i_10, i_9999, i_7, i_9, i_8, i_24, i_100, i_56, i_48, i_13, i_176, i_232, i_224, i_32, i_999, i_99, i_900, i_97, i_90, i_30, i_20, i_59, i_14, i_50, i_29, i_22, i_19, i_18, i_17, i_96, i_61, i_57, i_51, i_41, i_26, i_2552, i_255, i_25, i_23, i_21, i_16, i_15, i_122, i_10000, i_31, dzF, obs, b2_some, rz0, rz1, rzb, n01, n01', n10, n01e, nI_add, nI_mul, ↓reduceIte, not_false_eq_true, not_true_eq_false, ite_not, leT, leF, ltT, ltF, eqT, eqF, dz_no, R_levelOf hT h hs, if_neg hz, nI_sub, R_now h.1]
theorem R_likeness (hT : VT T) (h : RQ T g I) {a b : Nat} (ha : a < 6) (hb : b < 6) : mX10_likeness (mk n I J) 224 (nI a) (nI b) = some (nI (like T a b), mk n I J) := by
  unfold mX10_likeness like
  simp (disch := omega) only [mk_oO o_224, mk_gI f_224_0, mk_pI f_224_0, mk_gR f_224_1, mk_gR f_224_2, mk_gR f_224_3, mk_gR f_224_4, mk_gR f_224_5, mk_gI f_224_6, mk_pI f_224_6, mk_gR f_224_7, mk_gI f_224_8, mk_pI f_224_8, mk_gI f_224_9, mk_pI f_224_9, mk_gI f_224_10, mk_pI f_224_10, mk_gI f_224_11, mk_pI f_224_11, mk_gI f_224_12, mk_pI f_224_12, mk_gI f_224_13, mk_pI f_224_13, mk_gL f_224_14, mk_pL f_224_14, mk_gI f_224_15, mk_pI f_224_15, mk_gI f_224_16, mk_pI f_224_16, mk_gR f_224_17, mk_gR f_224_18, mk_gR f_224_19, mk_gI f_224_20, mk_pI f_224_20, mk_gR f_224_21, mk_gI f_224_22, mk_pI f_224_22, mk_gI f_224_23, mk_pI f_224_23, mk_gI f_224_24, mk_pI f_224_24, mk_gI f_224_25, mk_pI f_224_25, mk_gR f_224_26, mk_gI f_224_27, mk_pI f_224_27, mk_gI f_224_28, mk_pI f_224_28, mk_gR f_224_29, mk_gI f_224_30, mk_pI f_224_30, mk_gI f_224_31, mk_pI f_224_31, mk_gR f_224_32, mk_gI f_224_33, mk_pI f_224_33, ↓m_1, ↓m_2, i_0, i_1, i_2, i_3, i_4, i_6, i_5, i_12, i_11, i_10, i_9999, i_7, i_9, i_8, i_24, i_100, i_56, i_48, i_13, i_176, i_232, i_224, i_32, i_999, i_99, i_900, i_97, i_90, i_30, i_20, i_59, i_14, i_50, i_29, i_22, i_19, i_18, i_17, i_96, i_61, i_57, i_51, i_41, i_26, i_2552, i_255, i_25, i_23, i_21, i_16, i_15, i_122, i_10000, i_31, dzF, obs, b2_some, rz0, rz1, rzb, n01, n01', n10, n01e, nI_add, nI_mul, ↓reduceIte, not_false_eq_true, not_true_eq_false, ite_not, R_good h, nI_eq (hT.l31 _) (hT.l31 _), nI_eq (a := a) (b := b)]
  split
  · rfl
  · split
    · split <;> rfl
    · rfl
theorem R_isThere (h : RQ T g I) {s : Nat} (hs : s < 10) : mX10_isThere (mk n I J) 224 (nI s) = some (nI (if s = g then 0 else 1), mk n I J) := by
  unfold mX10_isThere
  simp (disch := omega) only [mk_oO o_224, mk_gI f_224_0, mk_pI f_224_0, mk_gR f_224_1, mk_gR f_224_2, mk_gR f_224_3, mk_gR f_224_4, mk_gR f_224_5, mk_gI f_224_6, mk_pI f_224_6, mk_gR f_224_7, mk_gI f_224_8, mk_pI f_224_8, mk_gI f_224_9, mk_pI f_224_9, mk_gI f_224_10, mk_pI f_224_10, mk_gI f_224_11, mk_pI f_224_11, mk_gI f_224_12, mk_pI f_224_12, mk_gI f_224_13, mk_pI f_224_13, mk_gL f_224_14, mk_pL f_224_14, mk_gI f_224_15, mk_pI f_224_15, mk_gI f_224_16, mk_pI f_224_16, mk_gR f_224_17, mk_gR f_224_18, mk_gR f_224_19, mk_gI f_224_20, mk_pI f_224_20, mk_gR f_224_21, mk_gI f_224_22, mk_pI f_224_22, mk_gI f_224_23, mk_pI f_224_23, mk_gI f_224_24, mk_pI f_224_24, mk_gI f_224_25, mk_pI f_224_25, mk_gR f_224_26, mk_gI f_224_27, mk_pI f_224_27, mk_gI f_224_28, mk_pI f_224_28, mk_gR f_224_29, mk_gI f_224_30, mk_pI f_224_30, mk_gI f_224_31, mk_pI f_224_31, mk_gR f_224_32, mk_gI f_224_33, mk_pI f_224_33, ↓m_1, ↓m_2, i_0, i_1, i_2, i_3, i_4, i_6, i_5, i_12, i_11, i_10, i_9999, i_7, i_9, i_8, i_24, i_100, i_56, i_48, i_13, i_176, i_232, i_224, i_32, i_999, i_99, i_900, i_97, i_90, i_30, i_20, i_59, i_14, i_50, i_29, i_22, i_19, i_18, i_17, i_96, i_61, i_57, i_51, i_41, i_26, i_2552, i_255, i_25, i_23, i_21, i_16, i_15, i_122, i_10000, i_31, dzF, obs, b2_some, rz0, rz1, rzb, n01, n01', n10, n01e, nI_add, nI_mul, ↓reduceIte, not_false_eq_true, not_true_eq_false, ite_not, h.2, goN_eq]
  split <;> rfl
theorem R_has {h : PH} {m k : Nat} (hm : m < 2 ^ 31) (hk : k < 32) : mX10_has h (nI m) (nI k) = some (nI (if m.testBit k = true then 1 else 0), h) := by
  unfold mX10_has
  simp (disch := omega) only [↓m_1, ↓m_2, i_0, i_1, i_2, i_3, i_4, i_6, i_5, i_12, i_11, i_10, i_9999, i_7, i_9, i_8, i_24, i_100, i_56, i_48, i_13, i_176, i_232, i_224, i_32, i_999, i_99, i_900, i_97, i_90, i_30, i_20, i_59, i_14, i_50, i_29, i_22, i_19, i_18, i_17, i_96, i_61, i_57, i_51, i_41, i_26, i_2552, i_255, i_25, i_23, i_21, i_16, i_15, i_122, i_10000, i_31, dzF, obs, b2_some, rz0, rz1, rzb, n01, n01', n10, n01e, nI_add, nI_mul, ↓reduceIte, not_false_eq_true, not_true_eq_false, ite_not, nI_bit hm hk]
  split <;> rfl
theorem R_uses (hT : VT T) (h : RQ T g I) {s a : Nat} (hs : s < 10) (ha : a < 4) : mX10_uses (mk n I J) 224 (nI s) (nI a) = some (nI (if uses T g s a then 1 else 0), mk n I J) := by
  unfold mX10_uses
  have b1 := hT.l31 (56 + 12 * s + 11)
  by_cases hg : s = g
  · simp (disch := omega) only [mk_oO o_224, mk_gI f_224_0, mk_pI f_224_0, mk_gR f_224_1, mk_gR f_224_2, mk_gR f_224_3, mk_gR f_224_4, mk_gR f_224_5, mk_gI f_224_6, mk_pI f_224_6, mk_gR f_224_7, mk_gI f_224_8, mk_pI f_224_8, mk_gI f_224_9, mk_pI f_224_9, mk_gI f_224_10, mk_pI f_224_10, mk_gI f_224_11, mk_pI f_224_11, mk_gI f_224_12, mk_pI f_224_12, mk_gI f_224_13, mk_pI f_224_13, mk_gL f_224_14, mk_pL f_224_14, mk_gI f_224_15, mk_pI f_224_15, mk_gI f_224_16, mk_pI f_224_16, mk_gR f_224_17, mk_gR f_224_18, mk_gR f_224_19, mk_gI f_224_20, mk_pI f_224_20, mk_gR f_224_21, mk_gI f_224_22, mk_pI f_224_22, mk_gI f_224_23, mk_pI f_224_23, mk_gI f_224_24, mk_pI f_224_24, mk_gI f_224_25, mk_pI f_224_25, mk_gR f_224_26, mk_gI f_224_27, mk_pI f_224_27, mk_gI f_224_28, mk_pI f_224_28, mk_gR f_224_29, mk_gI f_224_30, mk_pI f_224_30, mk_gI f_224_31, mk_pI f_224_31, mk_gR f_224_32, mk_gI f_224_33, mk_pI f_224_33, ↓m_1, ↓m_2, i_0, i_1, i_2, i_3, i_4, i_6, i_5, i_12, i_11, i_10, i_9999, i_7, i_9, i_8, i_24, i_100, i_56, i_48, i_13, i_176, i_232, i_224, i_32, i_999, i_99, i_900, i_97, i_90, i_30, i_20, i_59, i_14, i_50, i_29, i_22, i_19, i_18, i_17, i_96, i_61, i_57, i_51, i_41, i_26, i_2552, i_255, i_25, i_23, i_21, i_16, i_15, i_122, i_10000, i_31, dzF, obs, b2_some, rz0, rz1, rzb, n01, n01', n10, n01e, nI_add, nI_mul, ↓reduceIte, not_false_eq_true, not_true_eq_false, ite_not, R_isThere h, if_pos hg]
    simp [uses, hg]
  · simp (disch := omega) only [mk_oO o_224, mk_gI f_224_0, mk_pI f_224_0, mk_gR f_224_1, mk_gR f_224_2, mk_gR f_224_3, mk_gR f_224_4, mk_gR f_224_5, mk_gI f_224_6, mk_pI f_224_6, mk_gR f_224_7, mk_gI f_224_8, mk_pI f_224_8, mk_gI f_224_9, mk_pI f_224_9, mk_gI f_224_10, mk_pI f_224_10, mk_gI f_224_11, mk_pI f_224_11, mk_gI f_224_12, mk_pI f_224_12, mk_gI f_224_13, mk_pI f_224_13, mk_gL f_224_14, mk_pL f_224_14, mk_gI f_224_15, mk_pI f_224_15, mk_gI f_224_16, mk_pI f_224_16, mk_gR f_224_17, mk_gR f_224_18, mk_gR f_224_19, mk_gI f_224_20, mk_pI f_224_20, mk_gR f_224_21, mk_gI f_224_22, mk_pI f_224_22, mk_gI f_224_23, mk_pI f_224_23, mk_gI f_224_24, mk_pI f_224_24, mk_gI f_224_25, mk_pI f_224_25, mk_gR f_224_26, mk_gI f_224_27, mk_pI f_224_27, mk_gI f_224_28, mk_pI f_224_28, mk_gR f_224_29, mk_gI f_224_30, mk_pI f_224_30, mk_gI f_224_31, mk_pI f_224_31, mk_gR f_224_32, mk_gI f_224_33, mk_pI f_224_33, ↓m_1, ↓m_2, i_0, i_1, i_2, i_3, i_4, i_6, i_5, i_12, i_11, i_10, i_9999, i_7, i_9, i_8, i_24, i_100, i_56, i_48, i_13, i_176, i_232, i_224, i_32, i_999, i_99, i_900, i_97, i_90, i_30, i_20, i_59, i_14, i_50, i_29, i_22, i_19, i_18, i_17, i_96, i_61, i_57, i_51, i_41, i_26, i_2552, i_255, i_25, i_23, i_21, i_16, i_15, i_122, i_10000, i_31, dzF, obs, b2_some, rz0, rz1, rzb, n01, n01', n10, n01e, nI_add, nI_mul, ↓reduceIte, not_false_eq_true, not_true_eq_false, ite_not, R_isThere h, if_neg hg, R_of h, R_has]
    simp only [uses, hg, not_false_eq_true, true_and]
    split <;> simp_all
end RF
