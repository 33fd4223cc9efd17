/-! ===== 43: numbers, and reads at a known place ===== -/
theorem i_0 : (0 : Int32) = nI 0 := id rfl
theorem i_1 : (1 : Int32) = nI 1 := id rfl
theorem i_2 : (2 : Int32) = nI 2 := id rfl
theorem i_3 : (3 : Int32) = nI 3 := id rfl
theorem i_4 : (4 : Int32) = nI 4 := id rfl
theorem i_6 : (6 : Int32) = nI 6 := id rfl
theorem i_5 : (5 : Int32) = nI 5 := id rfl
theorem i_12 : (12 : Int32) = nI 12 := id rfl
theorem i_11 : (11 : Int32) = nI 11 := id rfl
theorem i_10 : (10 : Int32) = nI 10 := id rfl
theorem i_9999 : (9999 : Int32) = nI 9999 := id rfl
theorem i_7 : (7 : Int32) = nI 7 := id rfl
theorem i_9 : (9 : Int32) = nI 9 := id rfl
theorem i_8 : (8 : Int32) = nI 8 := id rfl
theorem i_24 : (24 : Int32) = nI 24 := id rfl
theorem i_100 : (100 : Int32) = nI 100 := id rfl
theorem i_56 : (56 : Int32) = nI 56 := id rfl
theorem i_48 : (48 : Int32) = nI 48 := id rfl
theorem i_13 : (13 : Int32) = nI 13 := id rfl
theorem i_176 : (176 : Int32) = nI 176 := id rfl
theorem i_232 : (232 : Int32) = nI 232 := id rfl
theorem i_224 : (224 : Int32) = nI 224 := id rfl
theorem i_32 : (32 : Int32) = nI 32 := id rfl
theorem i_999 : (999 : Int32) = nI 999 := id rfl
theorem i_99 : (99 : Int32) = nI 99 := id rfl
theorem i_900 : (900 : Int32) = nI 900 := id rfl
theorem i_97 : (97 : Int32) = nI 97 := id rfl
theorem i_90 : (90 : Int32) = nI 90 := id rfl
theorem i_30 : (30 : Int32) = nI 30 := id rfl
theorem i_20 : (20 : Int32) = nI 20 := id rfl
theorem i_59 : (59 : Int32) = nI 59 := id rfl
theorem i_14 : (14 : Int32) = nI 14 := id rfl
theorem i_50 : (50 : Int32) = nI 50 := id rfl
theorem i_29 : (29 : Int32) = nI 29 := id rfl
theorem i_22 : (22 : Int32) = nI 22 := id rfl
theorem i_19 : (19 : Int32) = nI 19 := id rfl
theorem i_18 : (18 : Int32) = nI 18 := id rfl
theorem i_17 : (17 : Int32) = nI 17 := id rfl
theorem i_96 : (96 : Int32) = nI 96 := id rfl
theorem i_61 : (61 : Int32) = nI 61 := id rfl
theorem i_57 : (57 : Int32) = nI 57 := id rfl
theorem i_51 : (51 : Int32) = nI 51 := id rfl
theorem i_41 : (41 : Int32) = nI 41 := id rfl
theorem i_26 : (26 : Int32) = nI 26 := id rfl
theorem i_2552 : (2552 : Int32) = nI 2552 := id rfl
theorem i_255 : (255 : Int32) = nI 255 := id rfl
theorem i_25 : (25 : Int32) = nI 25 := id rfl
theorem i_23 : (23 : Int32) = nI 23 := id rfl
theorem i_21 : (21 : Int32) = nI 21 := id rfl
theorem i_16 : (16 : Int32) = nI 16 := id rfl
theorem i_15 : (15 : Int32) = nI 15 := id rfl
theorem i_122 : (122 : Int32) = nI 122 := id rfl
theorem i_10000 : (10000 : Int32) = nI 10000 := id rfl
theorem i_31 : (31 : Int32) = nI 31 := id rfl
theorem l_0 : (0 : Int64) = lN 0 := id rfl
theorem l_1 : (1 : Int64) = lN 1 := id rfl
theorem l_10 : (10 : Int64) = lN 10 := id rfl
theorem l_100 : (100 : Int64) = lN 100 := id rfl
theorem l_27 : (27 : Int64) = lN 27 := id rfl
theorem l_9999 : (9999 : Int64) = lN 9999 := id rfl
theorem l_89 : (89 : Int64) = lN 89 := id rfl
theorem l_6 : (6 : Int64) = lN 6 := id rfl
theorem l_97 : (97 : Int64) = lN 97 := id rfl
theorem l_57 : (57 : Int64) = lN 57 := id rfl
theorem l_48 : (48 : Int64) = lN 48 := id rfl
theorem l_31 : (31 : Int64) = lN 31 := id rfl
theorem l_3 : (3 : Int64) = lN 3 := id rfl
theorem l_2 : (2 : Int64) = lN 2 := id rfl
theorem l_122 : (122 : Int64) = lN 122 := id rfl
theorem l_999 : (999 : Int64) = lN 999 := id rfl
theorem l_96 : (96 : Int64) = lN 96 := id rfl
theorem l_90 : (90 : Int64) = lN 90 := id rfl
theorem l_51 : (51 : Int64) = lN 51 := id rfl
theorem l_50 : (50 : Int64) = lN 50 := id rfl
theorem l_32 : (32 : Int64) = lN 32 := id rfl
theorem l_12 : (12 : Int64) = lN 12 := id rfl
theorem l_24627848 : (24627848 : Int64) = lN 24627848 := id rfl
theorem l_7945904 : (7945904 : Int64) = lN 7945904 := id rfl
theorem l_781652471 : (781652471 : Int64) = lN 781652471 := id rfl
theorem l_707763 : (707763 : Int64) = lN 707763 := id rfl
theorem l_7051975956 : (7051975956 : Int64) = lN 7051975956 := id rfl
theorem l_67012 : (67012 : Int64) = lN 67012 := id rfl
theorem l_6605428 : (6605428 : Int64) = lN 6605428 := id rfl
theorem l_6309 : (6309 : Int64) = lN 6309 := id rfl
theorem l_624005 : (624005 : Int64) = lN 624005 := id rfl
theorem l_609860996 : (609860996 : Int64) = lN 609860996 := id rfl
theorem l_556243252 : (556243252 : Int64) = lN 556243252 := id rfl
theorem l_546475187 : (546475187 : Int64) = lN 546475187 := id rfl
theorem l_54109812 : (54109812 : Int64) = lN 54109812 := id rfl
theorem l_463922 : (463922 : Int64) = lN 463922 := id rfl
theorem l_437853486 : (437853486 : Int64) = lN 437853486 := id rfl
theorem l_427141 : (427141 : Int64) = lN 427141 := id rfl
theorem l_4153 : (4153 : Int64) = lN 4153 := id rfl
theorem l_398963 : (398963 : Int64) = lN 398963 := id rfl
theorem l_394692 : (394692 : Int64) = lN 394692 := id rfl
theorem l_2610628 : (2610628 : Int64) = lN 2610628 := id rfl
theorem l_245220 : (245220 : Int64) = lN 245220 := id rfl
theorem l_215533 : (215533 : Int64) = lN 215533 := id rfl
theorem l_19856929433 : (19856929433 : Int64) = lN 19856929433 := id rfl
theorem l_17376357 : (17376357 : Int64) = lN 17376357 := id rfl
theorem l_17216939463 : (17216939463 : Int64) = lN 17216939463 := id rfl
theorem l_16829081 : (16829081 : Int64) = lN 16829081 := id rfl
theorem l_153241 : (153241 : Int64) = lN 153241 := id rfl
theorem l_11566 : (11566 : Int64) = lN 11566 := id rfl
theorem l_114292 : (114292 : Int64) = lN 114292 := id rfl
theorem l_6333843 : (6333843 : Int64) = lN 6333843 := id rfl
theorem l_387420489 : (387420489 : Int64) = lN 387420489 := id rfl
theorem l_1000000000000000000 : (1000000000000000000 : Int64) = lN 1000000000000000000 := id rfl
def M1 : Int32 := -1
def M2 : Int32 := -2
def K1 : Int64 := -1
def K2 : Int64 := -2
theorem m_1 : (-1 : Int32) = M1 := id rfl
theorem m_2 : (-2 : Int32) = M2 := id rfl
theorem k_1 : (-1 : Int64) = K1 := id rfl
theorem k_2 : (-2 : Int64) = K2 := id rfl
theorem M1_toInt : M1.toInt = -1 := rfl
theorem M2_toInt : M2.toInt = -2 := rfl
theorem K1_toInt : K1.toInt = -1 := rfl
theorem K2_toInt : K2.toInt = -2 := rfl
theorem M1_l : M1.toInt64 = K1 := id rfl
theorem M2_l : M2.toInt64 = K2 := id rfl
theorem K1_i : K1.toInt32 = M1 := id rfl
theorem K2_i : K2.toInt32 = M2 := id rfl
theorem nI_mul (a b : Nat) : nI a * nI b = nI (a * b) := (Int32.ofNat_mul a b).symm
theorem nI_sub {a b : Nat} (h : b ≤ a) : nI a - nI b = nI (a - b) := by
  have e : nI a = nI (a - b) + nI b := by rw [nI_add, Nat.sub_add_cancel h]
  rw [e, Int32.add_sub_cancel]
theorem nI_bv (n : Nat) : (nI n).toBitVec = BitVec.ofNat 32 n := rfl
theorem nI_or (a b : Nat) : nI a ||| nI b = nI (a ||| b) := by
  apply Int32.toBitVec_inj.mp; rw [Int32.toBitVec_or, nI_bv, nI_bv, nI_bv]; apply BitVec.eq_of_getLsbD_eq; intro i hi; simp [BitVec.getLsbD_ofNat, Nat.testBit_or, hi]
theorem nI_xor (a b : Nat) : nI a ^^^ nI b = nI (a ^^^ b) := by
  apply Int32.toBitVec_inj.mp; rw [Int32.toBitVec_xor, nI_bv, nI_bv, nI_bv]; apply BitVec.eq_of_getLsbD_eq; intro i hi; simp [BitVec.getLsbD_ofNat, Nat.testBit_xor, hi]
theorem nI_and (a b : Nat) : nI a &&& nI b = nI (a &&& b) := by
  apply Int32.toBitVec_inj.mp; rw [Int32.toBitVec_and, nI_bv, nI_bv, nI_bv]; apply BitVec.eq_of_getLsbD_eq; intro i hi; simp [BitVec.getLsbD_ofNat, Nat.testBit_and, hi]
theorem nI_sh {k : Nat} (hk : k < 32) : ((nI k &&& nI 31).toBitVec.smod 32).toNat = k := by
  have h : ∀ k : Fin 32, ((nI k.1 &&& nI 31).toBitVec.smod 32).toNat = k.1 := by decide +kernel
  exact h ⟨k, hk⟩
theorem nI_shr {m k : Nat} (hm : m < 2 ^ 31) (hk : k < 32) : nI m >>> (nI k &&& nI 31) = nI (m / 2 ^ k) := pk_shrN hm _ k (nI_sh hk)
theorem nI_bit {m k : Nat} (hm : m < 2 ^ 31) (hk : k < 32) : (nI m >>> (nI k &&& nI 31)) &&& nI 1 = nI (if m.testBit k = true then 1 else 0) := by
  rw [nI_shr hm hk, nI_and, Nat.and_one_is_mod, ← Nat.shiftRight_eq_div_pow]
  simp only [Nat.testBit, Nat.and_comm 1, Nat.and_one_is_mod]
  rcases Nat.mod_two_eq_zero_or_one (m >>> k) with h | h <;> simp [h]
theorem nI_one_shl {k : Nat} (hk : k < 31) : nI 1 <<< (nI k &&& nI 31) = nI (2 ^ k) := by
  have h : ∀ k : Fin 31, nI 1 <<< (nI k.1 &&& nI 31) = nI (2 ^ k.1) := by decide +kernel
  exact h ⟨k, hk⟩
theorem and31 {k : Nat} (hk : k < 32) : k &&& 31 = k := by
  rw [show (31 : Nat) = 2 ^ 5 - 1 from rfl, Nat.and_two_pow_sub_one_eq_mod]
  omega
theorem nI_one_shl2 {k : Nat} (hk : k < 31) : nI 1 <<< nI (k &&& 31) = nI (2 ^ k) := by
  rw [← nI_and]; exact nI_one_shl hk
theorem nI_bit2 {m k : Nat} (hm : m < 2 ^ 31) (hk : k < 32) : (nI m >>> nI (k &&& 31)) &&& nI 1 = nI (if m.testBit k = true then 1 else 0) := by
  rw [← nI_and]; exact nI_bit hm hk
theorem nI_div {a b : Nat} (ha : a < 2 ^ 31) (hb : b < 2 ^ 31) : nI a / nI b = nI (a / b) := by
  apply Int32.toInt_inj.mp
  have h1 : a / b < 2 ^ 31 := Nat.lt_of_le_of_lt (Nat.div_le_self a b) ha
  rw [Int32.toInt_div, nI_toInt ha, nI_toInt hb, nI_toInt h1]
  rw [show ((a : Int).tdiv (b : Int)) = ((a / b : Nat) : Int) from by rw [Int.ofNat_tdiv]]
  generalize a / b = q at h1
  apply Int.bmod_eq_of_le <;> omega
theorem lL_toInt {n : Nat} (h : n < 2 ^ 63) : (lN n).toInt = (n : Int) := lg_ofNat_toInt h
theorem lL_le {a b : Nat} (ha : a < 2 ^ 63) (hb : b < 2 ^ 63) : lN a ≤ lN b ↔ a ≤ b := by
  rw [Int64.le_iff_toInt_le, lL_toInt ha, lL_toInt hb]; omega
theorem lL_lt {a b : Nat} (ha : a < 2 ^ 63) (hb : b < 2 ^ 63) : lN a < lN b ↔ a < b := by
  rw [Int64.lt_iff_toInt_lt, lL_toInt ha, lL_toInt hb]; omega
theorem lL_eq {a b : Nat} (ha : a < 2 ^ 63) (hb : b < 2 ^ 63) : lN a = lN b ↔ a = b := by
  rw [← Int64.toInt_inj, lL_toInt ha, lL_toInt hb]; omega
theorem lL_div {a b : Nat} (ha : a < 2 ^ 63) (hb : b < 2 ^ 63) : lN a / lN b = lN (a / b) := by
  apply Int64.toInt_inj.mp
  have h1 : a / b < 2 ^ 63 := Nat.lt_of_le_of_lt (Nat.div_le_self a b) ha
  rw [Int64.toInt_div, lL_toInt ha, lL_toInt hb, lL_toInt h1]
  rw [show ((a : Int).tdiv (b : Int)) = ((a / b : Nat) : Int) from by rw [Int.ofNat_tdiv]]
  generalize a / b = q at h1
  apply Int.bmod_eq_of_le <;> omega
theorem nM1 {a : Nat} (h : a < 2 ^ 31) : (nI a = M1) = False := by
  rw [← Int32.toInt_inj, nI_toInt h, M1_toInt]; simp <;> omega
theorem nM1' {a : Nat} (h : a < 2 ^ 31) : (M1 = nI a) = False := by
  rw [← Int32.toInt_inj, nI_toInt h, M1_toInt]; simp <;> omega
theorem nM2 {a : Nat} (h : a < 2 ^ 31) : (nI a = M2) = False := by
  rw [← Int32.toInt_inj, nI_toInt h, M2_toInt]; simp <;> omega
theorem lK1 {a : Nat} (h : a < 2 ^ 63) : (lN a = K1) = False := by
  rw [← Int64.toInt_inj, lL_toInt h, K1_toInt]; simp <;> omega
theorem lK2 {a : Nat} (h : a < 2 ^ 63) : (lN a = K2) = False := by
  rw [← Int64.toInt_inj, lL_toInt h, K2_toInt]; simp <;> omega
theorem nlt0 {a : Nat} (h : a < 2 ^ 31) : (nI a < nI 0) = False := by
  rw [nI_ltI h (by decide)]; simp
theorem llt0 {a : Nat} (h : a < 2 ^ 63) : (lN a < lN 0) = False := by
  rw [lL_lt h (by decide)]; simp
theorem nltM1 {a : Nat} (h : a < 2 ^ 31) : (nI a < M1) = False := by
  rw [Int32.lt_iff_toInt_lt, nI_toInt h, M1_toInt]; exact eq_false (by omega)
theorem rz0 {α : Type} (x : α) : rz (nI 0) x = some (nI 0, x) := if_pos (Or.inl rfl)
theorem rz1 {α : Type} (x : α) : rz (nI 1) x = some (nI 1, x) := if_pos (Or.inr rfl)
theorem rzb {α : Type} {c : Prop} [Decidable c] (x : α) : rz (nI (if c then 1 else 0)) x = some (nI (if c then 1 else 0), x) := by
  by_cases h : c
  · simp only [if_pos h, rz1]
  · simp only [if_neg h, rz0]
theorem b2_some {α β : Type} (x : α) (h : PH) (f : α → PH → Option β) : b2 (some (x, h)) f = f x h := id rfl
theorem obs {α β : Type} (x : α) (f : α → Option β) : (some x).bind f = f x := id rfl
theorem n01 {c : Prop} [Decidable c] : (nI (if c then 1 else 0) = nI 0) = ¬ c := by
  by_cases h : c
  · rw [if_pos h]; simp [h]; decide
  · rw [if_neg h]; simp [h]
theorem n01' {c : Prop} [Decidable c] : (nI (if c then 1 else 0) = nI 1) = c := by
  by_cases h : c
  · rw [if_pos h]; simp [h]
  · rw [if_neg h]; simp [h]; decide
theorem n10 : (nI 1 = nI 0) = False := by simp; decide
theorem n01e : (nI 0 = nI 1) = False := by simp; decide
theorem dzF {α : Type} [Decidable False] (x : Option α) : dz False x = x := if_neg id
theorem dz_no {α : Type} {c : Prop} [Decidable c] (x : Option α) (h : ¬ c) : dz c x = x := if_neg h
/-- an index below t -/
def ixB (x : Int32) (t : Nat) : Prop := 0 ≤ x.toInt ∧ x.toInt < (t : Int)
theorem lt0 {x : Int32} : x < nI 0 ↔ ¬ 0 ≤ x.toInt := by
  rw [Int32.lt_iff_toInt_lt]
  show x.toInt < 0 ↔ _
  omega
theorem nI_le_x {t : Nat} (ht : t < 2 ^ 31) {x : Int32} : nI t ≤ x ↔ ¬ x.toInt < (t : Int) := by
  rw [Int32.le_iff_toInt_le, nI_toInt ht]
  omega
theorem nI_lt_x {t : Nat} (ht : t < 2 ^ 31) {x : Int32} : nI t < x ↔ (t : Int) < x.toInt := by
  rw [Int32.lt_iff_toInt_lt, nI_toInt ht]
theorem x_lt_nI {x : Int32} {m : Nat} (hm : m < 2 ^ 31) : x < nI m ↔ x.toInt < (m : Int) := by
  rw [Int32.lt_iff_toInt_lt, nI_toInt hm]
theorem x_le_nI {x : Int32} {m : Nat} (hm : m < 2 ^ 31) : x ≤ nI m ↔ x.toInt ≤ (m : Int) := by
  rw [Int32.le_iff_toInt_le, nI_toInt hm]
theorem ixB_of {x : Int32} {t : Nat} (ht : t < 2 ^ 31) (h : ixB x t) : ∃ i, i < t ∧ x = nI i := vp_in_of (vp_in_iff.mpr h) ht
theorem ixB_nI {i t : Nat} (h : i < t) (ht : t < 2 ^ 31) : 0 ≤ (nI i).toInt ∧ (nI i).toInt < (t : Int) := vp_in_iff.mp (vp_in_nI h ht)
theorem wide_in {x : Int32} {a m : Nat} (ha : a < 2 ^ 31) (hm : m < 2 ^ 31) : ((lN a ≤ x.toInt64 ∧ x.toInt64 ≤ lN m) ↔ (a : Int) ≤ x.toInt ∧ x.toInt ≤ (m : Int)) := by
  rw [Int64.le_iff_toInt_le, Int64.le_iff_toInt_le, Int32.toInt_toInt64, lN_toInt hm, lN_toInt ha]
section BS
variable {n : Nat} {I : Nat → Nat → Int32} {J : Nat → Nat → Int64} {T : Nat → Nat}
theorem mk_aIn {k t len i : Nat} (h : isI k t len = true) (hi : i < len) (hl : len < 2 ^ 31) : aI t (mk n I J) k (nI i) = some (I k i) := by
  rw [mk_aI h, if_pos (ixB_nI hi hl), nI_clamp (by omega)]
theorem mk_aLn {k len i : Nat} (h : isJ k len = true) (hi : i < len) (hl : len < 2 ^ 31) : aL (mk n I J) k (nI i) = some (J k i) := by
  rw [mk_aL h, if_pos (ixB_nI hi hl), nI_clamp (by omega)]
theorem mk_sIn {k len i : Nat} (h : isI k 0 len = true) (hi : i < len) (hl : len < 2 ^ 31) (x : Int32) : sI (mk n I J) k (nI i) x = some (mk n (u2 I k i x) J) := by
  rw [mk_sI h, if_pos (ixB_nI hi hl), nI_clamp (by omega)]
theorem mk_sBn {k t len i : Nat} {ty : FieldType} (h : isI k t len = true) (hi : i < len) (hl : len < 2 ^ 31) (x : Int32) : sB t ty (mk n I J) k (nI i) x = some (mk n (u2 I k i (vp_nar ty x)) J) := by
  rw [mk_sB h, if_pos (ixB_nI hi hl), nI_clamp (by omega)]
theorem mk_sLn {k len i : Nat} (h : isJ k len = true) (hi : i < len) (hl : len < 2 ^ 31) (x : Int64) : sL (mk n I J) k (nI i) x = some (mk n I (u2 J k i x)) := by
  rw [mk_sL h, if_pos (ixB_nI hi hl), nI_clamp (by omega)]
theorem mk_aRn {k t len i r : Nat} (h : isQ k t len = true) (hr : ptQ k i = some r) (hi : i < len) (hl : len < 2 ^ 31) : aR t (mk n I J) k (nI i) = some r := by
  rw [mk_aR h, if_pos (ixB_nI hi hl), nI_clamp (by omega), hr]
theorem R_6 {i : Nat} (hi : i < 6) : aR 5 (mk n I J) 6 (nI i) = some (7 + i) := mk_aRn a_6 (q_6 i hi) hi (by decide)
theorem R_13 {i : Nat} (hi : i < 4) : aR 5 (mk n I J) 13 (nI i) = some (14 + i) := mk_aRn a_13 (q_13 i hi) hi (by decide)
theorem R_18 {i : Nat} (hi : i < 10) : aR 5 (mk n I J) 18 (nI i) = some (19 + i) := mk_aRn a_18 (q_18 i hi) hi (by decide)
theorem R_30 {i : Nat} (hi : i < 12) : aR 5 (mk n I J) 30 (nI i) = some (31 + i) := mk_aRn a_30 (q_30 i hi) hi (by decide)
theorem R_43 {i : Nat} (hi : i < 4) : aR 5 (mk n I J) 43 (nI i) = some (44 + i) := mk_aRn a_43 (q_43 i hi) hi (by decide)
theorem R_104 {i : Nat} (hi : i < 4) : aR 5 (mk n I J) 104 (nI i) = some (105 + i) := mk_aRn a_104 (q_104 i hi) hi (by decide)
theorem R_119 {i : Nat} (hi : i < 12) : aR 5 (mk n I J) 119 (nI i) = some (120 + i) := mk_aRn a_119 (q_119 i hi) hi (by decide)
theorem A_7 {i j : Nat} (hi : i < 6) (hj : j < 4) : aI 0 (mk n I J) (7 + i) (nI j) = some (I (7 + i) j) := mk_aIn (r_6 i hi) hj (by decide)
theorem A_14 {i j : Nat} (hi : i < 4) (hj : j < 2) : aI 0 (mk n I J) (14 + i) (nI j) = some (I (14 + i) j) := mk_aIn (r_13 i hi) hj (by decide)
theorem A_19 {i j : Nat} (hi : i < 10) (hj : j < 12) : aI 0 (mk n I J) (19 + i) (nI j) = some (I (19 + i) j) := mk_aIn (r_18 i hi) hj (by decide)
theorem A_31 {i j : Nat} (hi : i < 12) (hj : j < 4) : aI 0 (mk n I J) (31 + i) (nI j) = some (I (31 + i) j) := mk_aIn (r_30 i hi) hj (by decide)
theorem A_44 {i j : Nat} (hi : i < 4) (hj : j < 2) : aI 0 (mk n I J) (44 + i) (nI j) = some (I (44 + i) j) := mk_aIn (r_43 i hi) hj (by decide)
theorem A_105 {i j : Nat} (hi : i < 4) (hj : j < 10) : aI 0 (mk n I J) (105 + i) (nI j) = some (I (105 + i) j) := mk_aIn (r_104 i hi) hj (by decide)
theorem A_120 {i j : Nat} (hi : i < 12) (hj : j < 4) : aI 0 (mk n I J) (120 + i) (nI j) = some (I (120 + i) j) := mk_aIn (r_119 i hi) hj (by decide)
theorem S_7 {i j : Nat} {x : Int32} (hi : i < 6) (hj : j < 4) : sI (mk n I J) (7 + i) (nI j) x = some (mk n (u2 I (7 + i) j x) J) := mk_sIn (r_6 i hi) hj (by decide) x
theorem S_14 {i j : Nat} {x : Int32} (hi : i < 4) (hj : j < 2) : sI (mk n I J) (14 + i) (nI j) x = some (mk n (u2 I (14 + i) j x) J) := mk_sIn (r_13 i hi) hj (by decide) x
theorem S_19 {i j : Nat} {x : Int32} (hi : i < 10) (hj : j < 12) : sI (mk n I J) (19 + i) (nI j) x = some (mk n (u2 I (19 + i) j x) J) := mk_sIn (r_18 i hi) hj (by decide) x
theorem S_31 {i j : Nat} {x : Int32} (hi : i < 12) (hj : j < 4) : sI (mk n I J) (31 + i) (nI j) x = some (mk n (u2 I (31 + i) j x) J) := mk_sIn (r_30 i hi) hj (by decide) x
theorem S_44 {i j : Nat} {x : Int32} (hi : i < 4) (hj : j < 2) : sI (mk n I J) (44 + i) (nI j) x = some (mk n (u2 I (44 + i) j x) J) := mk_sIn (r_43 i hi) hj (by decide) x
theorem S_105 {i j : Nat} {x : Int32} (hi : i < 4) (hj : j < 10) : sI (mk n I J) (105 + i) (nI j) x = some (mk n (u2 I (105 + i) j x) J) := mk_sIn (r_104 i hi) hj (by decide) x
theorem S_120 {i j : Nat} {x : Int32} (hi : i < 12) (hj : j < 4) : sI (mk n I J) (120 + i) (nI j) x = some (mk n (u2 I (120 + i) j x) J) := mk_sIn (r_119 i hi) hj (by decide) x
theorem VT.le (h : VT T) (k : Nat) : T k ≤ 9999 := h.2.2.2.2.2.2.2.2.2 k
theorem VT.l31 (h : VT T) (k : Nat) : T k < 2 ^ 31 := Nat.lt_of_le_of_lt (h.le k) (by decide)
theorem NR.at (h : NR I 225 0 T) {k : Nat} (hk : k < 232) : I 225 k = nI (T k) := by
  have := h k hk
  rw [Nat.zero_add] at this
  exact this
theorem R_now (h : NR I 225 0 T) {k : Nat} (hk : k < 232) : aI 0 (mk n I J) 225 (nI k) = some (nI (T k)) := by
  rw [mk_aIn a_225 hk (by decide), h.at hk]
theorem WR.t (h : WR I 3 T) {k : Nat} (hk : k < 11) : I 4 k = nI (T k) := h.1 k hk
theorem WR.g (h : WR I 3 T) {g j : Nat} (hg : g < T 1) (hj : j < 4) : I (7 + g) j = nI (T (24 + 4 * g + j)) := h.2.2.1 g j hg hj
theorem WR.a (h : WR I 3 T) {g j : Nat} (hg : g < T 2) (hj : j < 2) : I (14 + g) j = nI (T (48 + 2 * g + j)) := h.2.2.2.1 g j hg hj
theorem WR.s (h : WR I 3 T) {g j : Nat} (hg : g < T 3) (hj : j < 12) : I (19 + g) j = nI (T (56 + 12 * g + j)) := h.2.2.2.2.1 g j hg hj
theorem WR.r (h : WR I 3 T) {g j : Nat} (hg : g < T 4) (hj : j < 4) : I (31 + g) j = nI (T (176 + 4 * g + j)) := h.2.2.2.2.2.1 g j hg hj
theorem WR.q (h : WR I 3 T) {g j : Nat} (hg : g < T 5) (hj : j < 2) : I (44 + g) j = nI (T (224 + 2 * g + j)) := h.2.2.2.2.2.2.1 g j hg hj
theorem CW_t (h : WR I 3 T) {k : Nat} (hk : k < 11) : aI 0 (mk n I J) 4 (nI k) = some (nI (T k)) := by
  rw [mk_aIn a_4 (by omega) (by decide), h.t hk]
theorem CW_g (hT : VT T) (h : WR I 3 T) {g j : Nat} (hg : g < T 1) (hj : j < 4) : aI 0 (mk n I J) (7 + g) (nI j) = some (nI (T (24 + 4 * g + j))) := by
  have := hT.1
  rw [A_7 (by omega) hj, h.g hg hj]
theorem CW_a (hT : VT T) (h : WR I 3 T) {g j : Nat} (hg : g < T 2) (hj : j < 2) : aI 0 (mk n I J) (14 + g) (nI j) = some (nI (T (48 + 2 * g + j))) := by
  have := hT.1
  rw [A_14 (by omega) hj, h.a hg hj]
theorem CW_s (hT : VT T) (h : WR I 3 T) {g j : Nat} (hg : g < T 3) (hj : j < 12) : aI 0 (mk n I J) (19 + g) (nI j) = some (nI (T (56 + 12 * g + j))) := by
  have := hT.1
  rw [A_19 (by omega) hj, h.s hg hj]
theorem CW_r (hT : VT T) (h : WR I 3 T) {g j : Nat} (hg : g < T 4) (hj : j < 4) : aI 0 (mk n I J) (31 + g) (nI j) = some (nI (T (176 + 4 * g + j))) := by
  have := hT.1
  rw [A_31 (by omega) hj, h.r hg hj]
theorem CW_q (hT : VT T) (h : WR I 3 T) {g j : Nat} (hg : g < T 5) (hj : j < 2) : aI 0 (mk n I J) (44 + g) (nI j) = some (nI (T (224 + 2 * g + j))) := by
  have := hT.1
  rw [A_44 (by omega) hj, h.q hg hj]
/-- World.has -/
theorem has_ev {k : Nat} (hk : k < 11) (hT : VT T) (hW : WR I 3 T) {x : Int32} [Decidable (ixB x (T k))] : mX8_has (mk n I J) 3 (nI k) x = some (nI (if ixB x (T k) then 1 else 0), mk n I J) := by
  unfold mX8_has
  simp only [mk_oO o_3, mk_gR f_3_0, Option.bind_some, CW_t hW hk, i_0, i_1, rz0, rz1]
  by_cases h1 : x < nI 0
  · rw [if_pos h1, if_neg (fun h => lt0.mp h1 h.1)]
  · have h2 : 0 ≤ x.toInt := Decidable.not_not.mp (fun h => h1 (lt0.mpr h))
    rw [if_neg h1]
    by_cases h3 : nI (T k) ≤ x
    · rw [if_pos h3, if_neg (fun h => (nI_le_x (hT.l31 k)).mp h3 h.2)]
    · rw [if_neg h3, if_pos ⟨h2, Decidable.not_not.mp (fun h => h3 ((nI_le_x (hT.l31 k)).mpr h))⟩]
/-- isIn -/
theorem isIn_ev {h : PH} {x : Int32} {t : Nat} (htt : t < 2 ^ 31) [Decidable (ixB x t)] : mX10_isIn h (nI t) x = some (nI (if ixB x t then 1 else 0), h) := by
  unfold mX10_isIn
  simp only [i_0, i_1, rz0, rz1]
  by_cases h1 : x < nI 0
  · rw [if_pos h1, if_neg (fun h => lt0.mp h1 h.1)]
  · have h2 : 0 ≤ x.toInt := Decidable.not_not.mp (fun h => h1 (lt0.mpr h))
    rw [if_neg h1]
    by_cases h3 : nI t ≤ x
    · rw [if_pos h3, if_neg (fun h => (nI_le_x htt).mp h3 h.2)]
    · rw [if_neg h3, if_pos ⟨h2, Decidable.not_not.mp (fun h => h3 ((nI_le_x htt).mpr h))⟩]
theorem within_ev {h : PH} {x a b : Int64} [Decidable (a ≤ x ∧ x ≤ b)] : mX10_within h x a b = some (nI (if a ≤ x ∧ x ≤ b then 1 else 0), h) := by
  unfold mX10_within
  simp only [i_0, i_1, rz0, rz1]
  by_cases h1 : x < a
  · rw [if_pos h1, if_neg (fun h => (Int64.not_le.mpr h1) h.1)]
  · rw [if_neg h1]
    by_cases h3 : b < x
    · rw [if_pos h3, if_neg (fun h => (Int64.not_le.mpr h3) h.2)]
    · rw [if_neg h3, if_pos ⟨Int64.not_lt.mp h1, Int64.not_lt.mp h3⟩]
end BS
