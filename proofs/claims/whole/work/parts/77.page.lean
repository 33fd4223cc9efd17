/-! ===== 77: what is written ===== -/
theorem pf_shr {a d : Nat} {D : Int64} (hD : (D.toBitVec.smod 64).toNat = d) (h : a < 2 ^ 62) : lN a >>> D = lN (a / 2 ^ d) := by
  have hd : a / 2 ^ d ≤ a := Nat.div_le_self _ _
  apply Int64.toInt_inj.mp
  have e : (lN a >>> D).toInt = (lN a).toInt >>> d := by
    rw [← hD]
    exact BitVec.toInt_sshiftRight ..
  rw [e, Int.shiftRight_eq_div_pow, lL_toInt (by omega), lL_toInt (by omega)]
  rfl
/-- the page holds l -/
def PGl (I : Nat → Nat → Int32) (l : List Nat) : Prop := I 132 1 = nI l.length ∧ ∀ k x, l[k]? = some x → I 133 k = nI x
def OUl (I : Nat → Nat → Int32) (l : List Nat) : Prop := I 224 33 = nI l.length ∧ ∀ k x, l[k]? = some x → I 237 k = nI x
def SPg (a c : Nat) : Prop := (a = 132 ∧ c = 1) ∨ a = 133
def SOu (a c : Nat) : Prop := (a = 224 ∧ c = 33) ∨ a = 237
theorem byte_nI {x : Nat} (h : x < 128) : vp_nar .byte (Int8.toInt32 (Int32.toInt8 (nI x))) = nI x := by
  have : ∀ x : Fin 128, Int8.toInt32 (Int32.toInt8 (nI x.1)) = nI x.1 := by decide +kernel
  rw [nar_byte]
  exact this ⟨x, h⟩
theorem l00 : (lN 0 ≤ lN 0) = True := eq_true ((lL_le (by decide) (by decide)).mpr (Nat.le_refl _))
section PA
variable {n : Nat} {J : Nat → Nat → Int64}
theorem lapp {I I' : Nat → Nat → Int32} {a : Nat} {l : List Nat} {x : Nat} (h : ∀ k y, l[k]? = some y → I a k = nI y) (e1 : I' a l.length = nI x) (e2 : ∀ k, k < l.length → I' a k = I a k) : ∀ k y, (l ++ [x])[k]? = some y → I' a k = nI y := by
  intro k y hk
  by_cases hk1 : k < l.length
  · rw [List.getElem?_append_left hk1] at hk
    rw [e2 k hk1]
    exact h k y hk
  · rw [List.getElem?_append_right (by omega)] at hk
    have hk2 : k = l.length := by
      have := (List.getElem?_eq_some_iff.mp hk).1
      simp only [List.length_cons, List.length_nil] at this
      omega
    subst hk2
    simp only [Nat.sub_self, List.getElem?_cons_zero, Option.some.injEq] at hk
    rw [e1, hk]
theorem C_padd {I : Nat → Nat → Int32} {l : List Nat} (h : PGl I l) (hl : l.length < 480) {x : Nat} (hx : x < 128) : ∃ I', mX3_add (mk n I J) 132 (nI x) = some (mk n I' J) ∧ Fx SPg I I' ∧ PGl I' (l ++ [x]) := by
  refine ⟨u2 (u2 I 133 l.length (nI x)) 132 1 (nI (l.length + 1)), ?_, (Fx_u2 _ _ (Or.inr rfl)).trans (Fx_u2 _ _ (Or.inl ⟨rfl, rfl⟩)), by rw [u2_at, List.length_append]; rfl, lapp h.2 (by rw [u2_no _ _ (by omega), u2_at]) (fun k hk => by rw [u2_no _ _ (by omega), u2_no _ _ (by omega)])⟩
  have hN : aN 2 (mk n I J) 133 = some (nI 480) := mk_aN (show isI 133 2 480 = true from rfl)
  unfold mX3_add
  simp (disch := omega) only [mk_oO o_132, mk_gR f_132_0, mk_gI f_132_1, mk_pI f_132_1, ↓m_1, ↓m_2, i_0, i_1, i_2, i_3, i_4, i_6, i_5, i_12, i_11, i_10, i_9999, i_7, i_9, i_8, i_24, i_100, i_56, i_48, i_13, i_176, i_232, i_224, i_32, i_999, i_99, i_900, i_97, i_90, i_30, i_20, i_59, i_14, i_50, i_29, i_22, i_19, i_18, i_17, i_96, i_61, i_57, i_51, i_41, i_26, i_2552, i_255, i_25, i_23, i_21, i_16, i_15, i_122, i_10000, i_31, dzF, obs, b2_some, rz0, rz1, rzb, n01, n01', n10, n01e, nI_add, nI_mul, ↓reduceIte, not_false_eq_true, not_true_eq_false, ite_not, h.1, hN, leF, mk_sBn (show isI 133 2 480 = true from rfl), byte_nI, u2_no]
theorem R_says {I : Nat → Nat → Int32} {l : List Nat} (h : OUl I l) (hl : l.length < 600) (x : Nat) : ∃ I', mX10_says (mk n I J) 224 (nI x) = some (mk n I' J) ∧ Fx SOu I I' ∧ OUl I' (l ++ [x]) := by
  refine ⟨u2 (u2 I 237 l.length (nI x)) 224 33 (nI (l.length + 1)), ?_, (Fx_u2 _ _ (Or.inr rfl)).trans (Fx_u2 _ _ (Or.inl ⟨rfl, rfl⟩)), by rw [u2_at, List.length_append]; rfl, lapp h.2 (by rw [u2_no _ _ (by omega), u2_at]) (fun k hk => by rw [u2_no _ _ (by omega), u2_no _ _ (by omega)])⟩
  unfold mX10_says
  simp (disch := omega) only [mk_oO o_224, mk_gI f_224_0, mk_pI f_224_0, mk_gR f_224_1, mk_gR f_224_2, mk_gR f_224_3, mk_gR f_224_4, mk_gR f_224_5, mk_gI f_224_6, mk_pI f_224_6, mk_gR f_224_7, mk_gI f_224_8, mk_pI f_224_8, mk_gI f_224_9, mk_pI f_224_9, mk_gI f_224_10, mk_pI f_224_10, mk_gI f_224_11, mk_pI f_224_11, mk_gI f_224_12, mk_pI f_224_12, mk_gI f_224_13, mk_pI f_224_13, mk_gL f_224_14, mk_pL f_224_14, mk_gI f_224_15, mk_pI f_224_15, mk_gI f_224_16, mk_pI f_224_16, mk_gR f_224_17, mk_gR f_224_18, mk_gR f_224_19, mk_gI f_224_20, mk_pI f_224_20, mk_gR f_224_21, mk_gI f_224_22, mk_pI f_224_22, mk_gI f_224_23, mk_pI f_224_23, mk_gI f_224_24, mk_pI f_224_24, mk_gI f_224_25, mk_pI f_224_25, mk_gR f_224_26, mk_gI f_224_27, mk_pI f_224_27, mk_gI f_224_28, mk_pI f_224_28, mk_gR f_224_29, mk_gI f_224_30, mk_pI f_224_30, mk_gI f_224_31, mk_pI f_224_31, mk_gR f_224_32, mk_gI f_224_33, mk_pI f_224_33, ↓m_1, ↓m_2, i_0, i_1, i_2, i_3, i_4, i_6, i_5, i_12, i_11, i_10, i_9999, i_7, i_9, i_8, i_24, i_100, i_56, i_48, i_13, i_176, i_232, i_224, i_32, i_999, i_99, i_900, i_97, i_90, i_30, i_20, i_59, i_14, i_50, i_29, i_22, i_19, i_18, i_17, i_96, i_61, i_57, i_51, i_41, i_26, i_2552, i_255, i_25, i_23, i_21, i_16, i_15, i_122, i_10000, i_31, dzF, obs, b2_some, rz0, rz1, rzb, n01, n01', n10, n01e, nI_add, nI_mul, ↓reduceIte, not_false_eq_true, not_true_eq_false, ite_not, h.1, mk_sIn a_237, u2_no]
def unW (k : Nat) : Nat := if k = 0 then 0 else 27 ^ (k - 1)
theorem unW_div (k : Nat) : 27 ^ k / 27 = unW k := by
  cases k with
  | zero => rfl
  | succ k =>
    unfold unW
    rw [if_neg (by omega), Nat.pow_succ, Nat.mul_div_cancel _ (by decide)]
    rfl
theorem modB {x b : Nat} (hb : 0 < b) : x - x / b * b = x % b := by
  have := Nat.div_add_mod x b
  rw [Nat.mul_comm] at this
  omega
theorem C_wordL {v : Nat} (hv : v < 27 ^ 7) : ∀ (k fu : Nat) (I : Nat → Nat → Int32) (l : List Nat), k ≤ 7 → k < fu → PGl I l → l.length + k ≤ 480 → ∃ I', mX3_addWord_L4 fu (mk n I J) 132 (lN v) (lN (unW k)) = some (mk n I' J) ∧ Fx SPg I I' ∧ PGl I' (l ++ outB 27 k v) := by
  intro k
  induction k with
  | zero =>
    intro fu I l hk hf h hl
    obtain ⟨fu, rfl⟩ : ∃ f, fu = f + 1 := ⟨fu - 1, by omega⟩
    refine ⟨I, ?_, Fx.refl I, by rw [outB, List.append_nil]; exact h⟩
    show mX3_addWord_b4 _ _ _ _ _ = _
    unfold mX3_addWord_b4
    rw [show unW 0 = 0 from rfl, l_0, if_pos ((lL_le (by decide) (by decide)).mpr (Nat.le_refl _))]
  | succ k ih =>
    intro fu I l hk hf h hl
    obtain ⟨fu, rfl⟩ : ∃ f, fu = f + 1 := ⟨fu - 1, by omega⟩
    have hu : unW (k + 1) = 27 ^ k := if_neg (by omega)
    have hu1 : 1 ≤ 27 ^ k := Nat.pow_pos (by decide)
    have hu2 : 27 ^ k ≤ 27 ^ 6 := Nat.pow_le_pow_right (by decide) (by omega)
    have hd := unW_div k
    have hq : v / 27 ^ k ≤ v := Nat.div_le_self _ _
    have hm : v / 27 ^ k % 27 < 27 := Nat.mod_lt _ (by decide)
    have hmb := modB (x := v / 27 ^ k) (b := 27) (by decide)
    have hvb : v < 10460353203 := hv
    have hub : 27 ^ k ≤ 387420489 := hu2
    show ∃ I', mX3_addWord_b4 _ _ _ _ _ = _ ∧ _
    rw [hu, outB_hi]
    unfold dgB mX3_addWord_b4
    generalize hU : 27 ^ k = U at *
    generalize hX : v / U = X at *
    have hle : X / 27 * 27 ≤ X := Nat.div_mul_le_self _ _
    by_cases hz : X % 27 = 0
    · obtain ⟨I', e, f, p⟩ := ih fu I l (by omega) (by omega) h (by omega)
      refine ⟨I', ?_, f, by rw [if_pos hz, List.nil_append]; exact p⟩
      simp (disch := omega) only [↓m_1, ↓m_2, i_0, i_1, i_2, i_3, i_4, i_6, i_5, i_12, i_11, i_10, i_9999, i_7, i_9, i_8, i_24, i_100, i_56, i_48, i_13, i_176, i_232, i_224, i_32, i_999, i_99, i_900, i_97, i_90, i_30, i_20, i_59, i_14, i_50, i_29, i_22, i_19, i_18, i_17, i_96, i_61, i_57, i_51, i_41, i_26, i_2552, i_255, i_25, i_23, i_21, i_16, i_15, i_122, i_10000, i_31, l_0, l_27, dzF, obs, b2_some, rz0, rz1, rzb, n01, n01', n10, n01e, nI_add, nI_mul, ↓reduceIte, not_false_eq_true, not_true_eq_false, ite_not, leL0, lF0, lL_div, hX, lN_mul, lN_sub, hmb, hz, hd, l00]
      exact e
    · obtain ⟨I1, e1, f1, p1⟩ := C_padd (n := n) (J := J) h (by omega) (x := 96 + X % 27) (by omega)
      obtain ⟨I', e, f, p⟩ := ih fu I1 (l ++ [96 + X % 27]) (by omega) (by omega) p1 (by rw [List.length_append]; simp only [List.length_cons, List.length_nil]; omega)
      refine ⟨I', ?_, f1.trans f, by rw [if_neg hz, ← List.append_assoc]; exact p⟩
      have en : X % 27 - 1 + 97 = 96 + X % 27 := by omega
      simp (disch := omega) only [↓m_1, ↓m_2, i_0, i_1, i_2, i_3, i_4, i_6, i_5, i_12, i_11, i_10, i_9999, i_7, i_9, i_8, i_24, i_100, i_56, i_48, i_13, i_176, i_232, i_224, i_32, i_999, i_99, i_900, i_97, i_90, i_30, i_20, i_59, i_14, i_50, i_29, i_22, i_19, i_18, i_17, i_96, i_61, i_57, i_51, i_41, i_26, i_2552, i_255, i_25, i_23, i_21, i_16, i_15, i_122, i_10000, i_31, l_0, l_27, dzF, obs, b2_some, rz0, rz1, rzb, n01, n01', n10, n01e, nI_add, nI_mul, ↓reduceIte, not_false_eq_true, not_true_eq_false, ite_not, leL0, lF0, lL_div, hX, lN_mul, lN_sub, hmb, hd, lN_i, nI_sub, en, e1]
      exact e
theorem C_addWord {I : Nat → Nat → Int32} {l : List Nat} (h : PGl I l) (hl : l.length + 7 ≤ 480) {w : List Nat} (hw : isW w) : ∃ I', mX3_addWord (mk n I J) 132 (lN (enc 27 w)) = some (mk n I' J) ∧ Fx SPg I I' ∧ PGl I' (l ++ w.map (96 + ·)) := by
  obtain ⟨w1, w2, w3⟩ := hw
  have hv := enc_lt (b := 27) (by decide) 7 w w2 w3
  obtain ⟨I', e, f, p⟩ := C_wordL (n := n) (J := J) hv 7 FU I l (by omega) (by unfold FU; omega) h hl
  rw [outB_enc (by decide) 7 w w2 w3] at p
  refine ⟨I', ?_, f, p⟩
  unfold mX3_addWord
  rw [mk_oO o_132, l_387420489]
  exact e
def M5 : Int32 := -5
theorem m_5 : (-5 : Int32) = M5 := id rfl
def shW (k : Nat) : Int32 := if k = 0 then M5 else nI (5 * (k - 1))
theorem shW_m5 {k : Nat} (hk : k < 7) : nI (5 * k) + M5 = shW k := by
  have : ∀ k : Fin 7, nI (5 * k.1) + M5 = shW k.1 := by decide +kernel
  exact this ⟨k, hk⟩
theorem shW_sm {k : Nat} (hk : k < 7) : (((nI (5 * k)).toInt64 &&& 63).toBitVec.smod 64).toNat = 5 * k := by
  have : ∀ k : Fin 7, (((nI (5 * k.1)).toInt64 &&& 63).toBitVec.smod 64).toNat = 5 * k.1 := by decide +kernel
  exact this ⟨k, hk⟩
theorem lL_and31 {x : Nat} : lN x &&& lN 31 = lN (x % 32) := by
  apply Int64.toBitVec_inj.mp
  rw [Int64.toBitVec_and]
  show BitVec.ofNat 64 x &&& BitVec.ofNat 64 31 = BitVec.ofNat 64 (x % 32)
  rw [← BitVec.ofNat_and, show (31 : Nat) = 2 ^ 5 - 1 from rfl, Nat.and_two_pow_sub_one_eq_mod]
theorem R_swL {v : Nat} (hv : v < 32 ^ 7) : ∀ (k fu : Nat) (I : Nat → Nat → Int32) (l : List Nat), k ≤ 7 → k < fu → OUl I l → l.length + k < 600 → ∃ I', mX10_saysWord_L3 fu (mk n I J) 224 (lN v) (shW k) = some (mk n I' J) ∧ Fx SOu I I' ∧ OUl I' (l ++ outB 32 k v ++ [32]) := by
  intro k
  induction k with
  | zero =>
    intro fu I l hk hf h hl
    obtain ⟨fu, rfl⟩ : ∃ f, fu = f + 1 := ⟨fu - 1, by omega⟩
    obtain ⟨I1, e1, f1, p1⟩ := R_says (n := n) (J := J) h (by omega) 32
    refine ⟨I1, ?_, f1, by rw [outB, List.append_nil]; exact p1⟩
    show mX10_saysWord_b3 _ _ _ _ _ = _
    unfold mX10_saysWord_b3
    rw [show shW 0 = M5 from rfl, if_pos (show M5 < 0 by decide), i_32, e1]
    rfl
  | succ k ih =>
    intro fu I l hk hf h hl
    obtain ⟨fu, rfl⟩ : ∃ f, fu = f + 1 := ⟨fu - 1, by omega⟩
    have hs : shW (k + 1) = nI (5 * k) := if_neg (by omega)
    have hvb : v < 34359738368 := hv
    have e32 : (32 : Nat) ^ k = 2 ^ (5 * k) := by rw [show (32 : Nat) = 2 ^ 5 from rfl, ← Nat.pow_mul]
    have es : lN v >>> ((nI (5 * k)).toInt64 &&& 63) = lN (v / 32 ^ k) := by rw [pf_shr (shW_sm (by omega)) (by omega), e32]
    have hm : v / 32 ^ k % 32 < 32 := Nat.mod_lt _ (by decide)
    have e5 := shW_m5 (k := k) (by omega)
    show ∃ I', mX10_saysWord_b3 _ _ _ _ _ = _ ∧ _
    rw [hs, outB_hi]
    unfold dgB mX10_saysWord_b3
    generalize v / 32 ^ k = X at *
    have k1 : ¬ nI (5 * k) < 0 := nI_nlt (b := 0) (Nat.zero_le _) (by omega)
    have k2 : Int64.toInt32 ((lN v >>> ((nI (5 * k)).toInt64 &&& 63)) &&& (31 : Int64)) = nI (X % 32) := by rw [es, l_31, lL_and31, lN_i]
    rw [if_neg k1, k2, m_5, e5, i_96, nI_add]
    by_cases hz : X % 32 = 0
    · obtain ⟨I', e, f, p⟩ := ih fu I l (by omega) (by omega) h (by omega)
      refine ⟨I', ?_, f, by rw [if_pos hz, List.nil_append]; exact p⟩
      rw [hz, if_pos (show nI 0 ≤ 0 by decide)]
      exact e
    · obtain ⟨I1, e1, f1, p1⟩ := R_says (n := n) (J := J) h (by omega) (96 + X % 32)
      obtain ⟨I', e, f, p⟩ := ih fu I1 (l ++ [96 + X % 32]) (by omega) (by omega) p1 (by rw [List.length_append]; simp only [List.length_cons, List.length_nil]; omega)
      refine ⟨I', ?_, f1.trans f, by rw [if_neg hz, ← List.append_assoc]; exact p⟩
      rw [if_neg (show ¬ nI (X % 32) ≤ 0 from nI_ge (a := 0) (b := X % 32) (by omega) (by omega)), e1]
      exact e
theorem R_saysWord {I : Nat → Nat → Int32} {l : List Nat} (h : OUl I l) (hl : l.length + 8 < 600) {w : List Nat} (w2 : w.length ≤ 7) (w3 : ∀ c ∈ w, 1 ≤ c ∧ c ≤ 26) : ∃ I', mX10_saysWord (mk n I J) 224 (lN (enc 32 w)) = some (mk n I' J) ∧ Fx SOu I I' ∧ OUl I' (l ++ w.map (96 + ·) ++ [32]) := by
  have hv := enc_lt (b := 32) (by decide) 7 w w2 w3
  obtain ⟨I', e, f, p⟩ := R_swL (n := n) (J := J) hv 7 FU I l (by omega) (by unfold FU; omega) h (by omega)
  rw [outB_enc (by decide) 7 w w2 w3] at p
  refine ⟨I', ?_, f, p⟩
  unfold mX10_saysWord
  rw [mk_oO o_224, i_30]
  exact e
/-- a unit of tens -/
def unD (k : Nat) : Nat := if k = 0 then 0 else 10 ^ (k - 1)
theorem unD_div (k : Nat) : 10 ^ k / 10 = unD k := by
  cases k with
  | zero => rfl
  | succ k =>
    unfold unD
    rw [if_neg (by omega), Nat.pow_succ, Nat.mul_div_cancel _ (by decide)]
    rfl
/-- digits below k -/
def loD (k v : Nat) : List Nat := match k with
  | 0 => []
  | k + 1 => hiD k v
theorem C_numL {v m : Nat} (hv : v < 10 ^ 18) (h1 : m = 0 ∨ 10 ^ m ≤ v) (h2 : v < 10 ^ (m + 1)) : ∀ (k fu : Nat) (I : Nat → Nat → Int32) (l : List Nat), k ≤ 19 → k < fu → PGl I l → l.length + min k (m + 1) ≤ 480 → ∃ I', mX3_addNumber_L4 fu (mk n I J) 132 (lN v) (lN (unD k)) = some (mk n I' J) ∧ Fx SPg I I' ∧ PGl I' (l ++ if k ≤ m + 1 then loD k v else hiD m v) := by
  intro k
  induction k with
  | zero =>
    intro fu I l hk hf h hl
    obtain ⟨fu, rfl⟩ : ∃ f, fu = f + 1 := ⟨fu - 1, by omega⟩
    refine ⟨I, ?_, Fx.refl I, by rw [if_pos (by omega), loD, List.append_nil]; exact h⟩
    show mX3_addNumber_b4 _ _ _ _ _ = _
    unfold mX3_addNumber_b4
    rw [show unD 0 = 0 from rfl, l_0, if_pos ((lL_le (by decide) (by decide)).mpr (Nat.le_refl _))]
  | succ k ih =>
    intro fu I l hk hf h hl
    obtain ⟨fu, rfl⟩ : ∃ f, fu = f + 1 := ⟨fu - 1, by omega⟩
    have hu : unD (k + 1) = 10 ^ k := if_neg (by omega)
    have hu1 : 1 ≤ 10 ^ k := Nat.pow_pos (by decide)
    have hu2 : 10 ^ k ≤ 10 ^ 18 := Nat.pow_le_pow_right (by decide) (by omega)
    have hd := unD_div k
    have hub : 10 ^ k ≤ 1000000000000000000 := hu2
    have hvb : v < 1000000000000000000 := hv
    have hq : v / 10 ^ k ≤ v := Nat.div_le_self _ _
    have hm10 : v / 10 ^ k % 10 < 10 := Nat.mod_lt _ (by decide)
    have hmb := modB (x := v / 10 ^ k) (b := 10) (by decide)
    have hc : loD (k + 1) v = (48 + v / 10 ^ k % 10) :: loD k v := by
      show hiD k v = _
      rw [hiD_cons]
      cases k <;> rfl
    have key : (k ≤ m → (k = 0 ∨ 10 ^ k ≤ v)) ∧ (m < k → v < 10 ^ k ∧ k ≠ 0 ∧ 10 ^ k ≠ 1) := by
      refine ⟨fun z => ?_, fun z => ⟨Nat.lt_of_lt_of_le h2 (Nat.pow_le_pow_right (by decide) z), by omega, ?_⟩⟩
      · rcases h1 with w | w
        · exact Or.inl (by omega)
        · exact Or.inr (Nat.le_trans (Nat.pow_le_pow_right (by decide) z) w)
      · have : 10 ^ 1 ≤ 10 ^ k := Nat.pow_le_pow_right (by decide) (by omega)
        omega
    have p0 : k = 0 → 10 ^ k = 1 := fun z => by subst z; rfl
    show ∃ I', mX3_addNumber_b4 _ _ _ _ _ = _ ∧ _
    rw [hu]
    unfold mX3_addNumber_b4 mX3_addNumber_b22
    generalize hU : 10 ^ k = U at *
    generalize hX : v / U = X at *
    have hle : X / 10 * 10 ≤ X := Nat.div_mul_le_self _ _
    by_cases hkm : k ≤ m
    · obtain ⟨I1, e1, f1, p1⟩ := C_padd (n := n) (J := J) h (by omega) (x := 48 + X % 10) (by omega)
      obtain ⟨I', e, f, p⟩ := ih fu I1 (l ++ [48 + X % 10]) (by omega) (by omega) p1 (by rw [List.length_append]; simp only [List.length_cons, List.length_nil]; omega)
      refine ⟨I', ?_, f1.trans f, ?_⟩
      · have en : X % 10 + 48 = 48 + X % 10 := by omega
        by_cases hUv : U ≤ v
        · simp (disch := omega) only [↓m_1, ↓m_2, i_0, i_1, i_2, i_3, i_4, i_6, i_5, i_12, i_11, i_10, i_9999, i_7, i_9, i_8, i_24, i_100, i_56, i_48, i_13, i_176, i_232, i_224, i_32, i_999, i_99, i_900, i_97, i_90, i_30, i_20, i_59, i_14, i_50, i_29, i_22, i_19, i_18, i_17, i_96, i_61, i_57, i_51, i_41, i_26, i_2552, i_255, i_25, i_23, i_21, i_16, i_15, i_122, i_10000, i_31, l_0, l_1, l_10, dzF, obs, b2_some, rz0, rz1, rzb, n01, n01', n10, n01e, nI_add, nI_mul, ↓reduceIte, not_false_eq_true, not_true_eq_false, ite_not, leL0, show (lN U ≤ lN v) = True from eq_true ((lL_le (by omega) (by omega)).mpr hUv), lF0, lL_div, hX, lN_mul, lN_sub, hmb, hd, lN_i, en, e1]
          exact e
        · have hU1 : U = 1 := by
            rcases key.1 hkm with w | w
            · exact p0 w
            · omega
          subst hU1
          simp (disch := omega) only [↓m_1, ↓m_2, i_0, i_1, i_2, i_3, i_4, i_6, i_5, i_12, i_11, i_10, i_9999, i_7, i_9, i_8, i_24, i_100, i_56, i_48, i_13, i_176, i_232, i_224, i_32, i_999, i_99, i_900, i_97, i_90, i_30, i_20, i_59, i_14, i_50, i_29, i_22, i_19, i_18, i_17, i_96, i_61, i_57, i_51, i_41, i_26, i_2552, i_255, i_25, i_23, i_21, i_16, i_15, i_122, i_10000, i_31, l_0, l_1, l_10, dzF, obs, b2_some, rz0, rz1, rzb, n01, n01', n10, n01e, nI_add, nI_mul, ↓reduceIte, not_false_eq_true, not_true_eq_false, ite_not, leL0, show (lN 1 ≤ lN v) = False from eq_false (fun z => hUv ((lL_le (by omega) (by omega)).mp z)), lF0, lL_div, hX, lN_mul, lN_sub, hmb, hd, lN_i, en, e1]
          exact e
      · rw [if_pos (by omega), hc]
        rw [if_pos (by omega)] at p
        rw [List.append_assoc] at p
        exact p
    · obtain ⟨k1, k2, k3⟩ := key.2 (by omega)
      obtain ⟨I', e, f, p⟩ := ih fu I l (by omega) (by omega) h (by omega)
      have hne : ¬ lN U = lN 1 := fun z => k3 ((lL_eq (by omega) (by omega)).mp z)
      refine ⟨I', ?_, f, ?_⟩
      · simp (disch := omega) only [↓m_1, ↓m_2, i_0, i_1, i_2, i_3, i_4, i_6, i_5, i_12, i_11, i_10, i_9999, i_7, i_9, i_8, i_24, i_100, i_56, i_48, i_13, i_176, i_232, i_224, i_32, i_999, i_99, i_900, i_97, i_90, i_30, i_20, i_59, i_14, i_50, i_29, i_22, i_19, i_18, i_17, i_96, i_61, i_57, i_51, i_41, i_26, i_2552, i_255, i_25, i_23, i_21, i_16, i_15, i_122, i_10000, i_31, l_0, l_1, l_10, dzF, obs, b2_some, rz0, rz1, rzb, n01, n01', n10, n01e, nI_add, nI_mul, ↓reduceIte, not_false_eq_true, not_true_eq_false, ite_not, leL0, show (lN U ≤ lN v) = False from eq_false (fun z => by have := (lL_le (by omega) (by omega)).mp z; omega), if_neg hne, lL_div, hd]
        exact e
      · rw [if_neg (by omega)]
        by_cases hk1 : k ≤ m + 1
        · have : k = m + 1 := by omega
          subst this
          rw [if_pos (Nat.le_refl _)] at p
          exact p
        · rw [if_neg hk1] at p
          exact p
theorem C_addNumber {I : Nat → Nat → Int32} {l : List Nat} {v : Nat} (h : PGl I l) (hv : v < 10 ^ 18) (hl : l.length + (dec v).length ≤ 480) : ∃ I', mX3_addNumber (mk n I J) 132 (lN v) = some (mk n I' J) ∧ Fx SPg I I' ∧ PGl I' (l ++ dec v) := by
  obtain ⟨d1, d2, d3⟩ := dec_ok hv
  unfold dec at hl ⊢
  rw [hiD_len] at hl
  obtain ⟨I', e, f, p⟩ := C_numL (n := n) (J := J) hv d1 d2 19 FU I l (by omega) (by unfold FU; omega) h (by omega)
  rw [if_neg (by omega)] at p
  refine ⟨I', ?_, f, p⟩
  unfold mX3_addNumber
  rw [mk_oO o_132, l_1000000000000000000]
  exact e
theorem R_snL {v : Nat} (hv : v < 10 ^ 18) : ∀ (k fu : Nat) (I : Nat → Nat → Int32) (l : List Nat), k ≤ 18 → k < fu → OUl I l → l.length + k < 600 → ∃ I', mX10_saysNumber_L21 fu (mk n I J) 224 (lN v) (lN (unD k)) = some (mk n I' J) ∧ Fx SOu I I' ∧ OUl I' (l ++ loD k v ++ [32]) := by
  intro k
  induction k with
  | zero =>
    intro fu I l hk hf h hl
    obtain ⟨fu, rfl⟩ : ∃ f, fu = f + 1 := ⟨fu - 1, by omega⟩
    obtain ⟨I1, e1, f1, p1⟩ := R_says (n := n) (J := J) h (by omega) 32
    refine ⟨I1, ?_, f1, by rw [loD, List.append_nil]; exact p1⟩
    show mX10_saysNumber_b21 _ _ _ _ _ = _
    unfold mX10_saysNumber_b21
    rw [show unD 0 = 0 from rfl, l_0, if_pos ((lL_le (by decide) (by decide)).mpr (Nat.le_refl _)), i_32, e1]
    rfl
  | succ k ih =>
    intro fu I l hk hf h hl
    obtain ⟨fu, rfl⟩ : ∃ f, fu = f + 1 := ⟨fu - 1, by omega⟩
    have hu : unD (k + 1) = 10 ^ k := if_neg (by omega)
    have hu1 : 1 ≤ 10 ^ k := Nat.pow_pos (by decide)
    have hu2 : 10 ^ k ≤ 10 ^ 18 := Nat.pow_le_pow_right (by decide) (by omega)
    have hd := unD_div k
    have hub : 10 ^ k ≤ 1000000000000000000 := hu2
    have hvb : v < 1000000000000000000 := hv
    have hq : v / 10 ^ k ≤ v := Nat.div_le_self _ _
    have hmb := modB (x := v / 10 ^ k) (b := 10) (by decide)
    have hc : loD (k + 1) v = (48 + v / 10 ^ k % 10) :: loD k v := by
      show hiD k v = _
      rw [hiD_cons]
      cases k <;> rfl
    show ∃ I', mX10_saysNumber_b21 _ _ _ _ _ = _ ∧ _
    rw [hu, hc]
    unfold mX10_saysNumber_b21
    generalize hU : 10 ^ k = U at *
    generalize hX : v / U = X at *
    have hle : X / 10 * 10 ≤ X := Nat.div_mul_le_self _ _
    obtain ⟨I1, e1, f1, p1⟩ := R_says (n := n) (J := J) h (by omega) (48 + X % 10)
    obtain ⟨I', e, f, p⟩ := ih fu I1 (l ++ [48 + X % 10]) (by omega) (by omega) p1 (by rw [List.length_append]; simp only [List.length_cons, List.length_nil]; omega)
    refine ⟨I', ?_, f1.trans f, ?_⟩
    · simp (disch := omega) only [↓m_1, ↓m_2, i_0, i_1, i_2, i_3, i_4, i_6, i_5, i_12, i_11, i_10, i_9999, i_7, i_9, i_8, i_24, i_100, i_56, i_48, i_13, i_176, i_232, i_224, i_32, i_999, i_99, i_900, i_97, i_90, i_30, i_20, i_59, i_14, i_50, i_29, i_22, i_19, i_18, i_17, i_96, i_61, i_57, i_51, i_41, i_26, i_2552, i_255, i_25, i_23, i_21, i_16, i_15, i_122, i_10000, i_31, l_0, l_10, dzF, obs, b2_some, rz0, rz1, rzb, n01, n01', n10, n01e, nI_add, nI_mul, ↓reduceIte, not_false_eq_true, not_true_eq_false, ite_not, leL0, lF0, lL_div, hX, lN_mul, lN_sub, hmb, hd, lN_i, e1]
      exact e
    · rw [List.append_assoc l] at p
      exact p
theorem R_snT {v : Nat} (hv : v < 10 ^ 18) {I : Nat → Nat → Int32} : ∀ (f t fu : Nat), t + f = 17 → f < fu → mX10_saysNumber_L2 fu (mk n I J) 224 (lN v) (lN (10 ^ t)) = mX10_saysNumber_L21 FU (mk n I J) 224 (lN v) (lN (10 ^ nmD f t v)) := by
  intro f
  induction f with
  | zero =>
    intro t fu ht hf
    obtain ⟨fu, rfl⟩ : ∃ f, fu = f + 1 := ⟨fu - 1, by omega⟩
    have et : t = 17 := by omega
    subst et
    have hvb : v < 1000000000000000000 := hv
    have hq : v / 10 ^ 17 < 10 := by
      rw [Nat.div_lt_iff_lt_mul (Nat.pow_pos (by decide))]
      exact hvb
    show mX10_saysNumber_b2 _ _ _ _ _ = _
    unfold mX10_saysNumber_b2 nmD
    have hu : (10 : Nat) ^ 17 = 100000000000000000 := rfl
    rw [hu] at hq ⊢
    simp (disch := omega) only [l_0, l_10, dz_no, lF0, dzF, lL_div, lL_lt, if_pos hq]
  | succ f ih =>
    intro t fu ht hf
    obtain ⟨fu, rfl⟩ : ∃ f, fu = f + 1 := ⟨fu - 1, by omega⟩
    have hvb : v < 1000000000000000000 := hv
    have hu1 : 1 ≤ 10 ^ t := Nat.pow_pos (by decide)
    have hu2 : 10 ^ t ≤ 10 ^ 17 := Nat.pow_le_pow_right (by decide) (by omega)
    have hub : 10 ^ t ≤ 100000000000000000 := hu2
    have hq0 : v / 10 ^ t ≤ v := Nat.div_le_self _ _
    have e := ih (t + 1) fu (by omega) (by omega)
    rw [Nat.pow_succ] at e
    show mX10_saysNumber_b2 _ _ _ _ _ = _
    unfold mX10_saysNumber_b2 nmD
    by_cases hq : v / 10 ^ t < 10
    · rw [if_pos hq]
      simp (disch := omega) only [l_0, l_10, lF0, dzF, lL_div, lL_lt, if_pos hq]
    · rw [if_neg hq]
      simp (disch := omega) only [l_0, l_10, lF0, dzF, lL_div, lL_lt, if_neg hq, lN_mul]
      exact e
theorem R_saysNumber {I : Nat → Nat → Int32} {l : List Nat} {v : Nat} (h : OUl I l) (hv : v < 10 ^ 18) (hl : l.length + (dec v).length < 600) : ∃ I', mX10_saysNumber (mk n I J) 224 (lN v) = some (mk n I' J) ∧ Fx SOu I I' ∧ OUl I' (l ++ dec v ++ [32]) := by
  obtain ⟨d1, d2, d3⟩ := dec_ok hv
  unfold dec at hl ⊢
  rw [hiD_len] at hl
  obtain ⟨I', e, f, p⟩ := R_snL (n := n) (J := J) hv (nmD 17 0 v + 1) FU I l (by omega) (by unfold FU; omega) h (by omega)
  refine ⟨I', ?_, f, p⟩
  unfold mX10_saysNumber
  rw [mk_oO o_224, l_1]
  exact (R_snT hv 17 0 FU (by omega) (by unfold FU; omega)).trans e
/-- the class's texts -/
def txL (i : Nat) : List Nat := if i = 3 then [32, 102, 97, 105, 108, 115, 32, 59, 32] else if i = 4 then [32, 98, 121, 32] else if i = 5 then [32, 119, 111, 114, 116, 104, 32] else [32, 59, 32]
theorem kLen_t {i : Nat} (h : 3 ≤ i) (h' : i ≤ 6) : kLen i = some (nI (txL i).length) := by
  rcases (by omega : i = 3 ∨ i = 4 ∨ i = 5 ∨ i = 6) with rfl | rfl | rfl | rfl <;> rfl
theorem kAt_t : ∀ i, i < 7 → 3 ≤ i → ∀ t, t < (txL i).length → kAt i (nI t) = some (nI ((txL i).getD t 0)) ∧ (txL i).getD t 0 < 128 := by decide +kernel
theorem tx_len {i : Nat} : (txL i).length ≤ 9 := by
  unfold txL
  split
  · decide
  · split
    · decide
    · split <;> decide
theorem C_textL {i : Nat} (hi : 3 ≤ i) (hi' : i ≤ 6) : ∀ (k t fu : Nat) (I : Nat → Nat → Int32) (l : List Nat), t + k = (txL i).length → k < fu → PGl I l → l.length + k ≤ 480 → ∃ I', mX3_addText_L2 fu (mk n I J) 132 i (nI t) = some (mk n I' J) ∧ Fx SPg I I' ∧ PGl I' (l ++ (txL i).drop t) := by
  have hlen := tx_len (i := i)
  intro k
  induction k with
  | zero =>
    intro t fu I l ht hf h hl
    obtain ⟨fu, rfl⟩ : ∃ f, fu = f + 1 := ⟨fu - 1, by omega⟩
    refine ⟨I, ?_, Fx.refl I, by rw [List.drop_eq_nil_of_le (by omega), List.append_nil]; exact h⟩
    show mX3_addText_b2 _ _ _ _ _ = _
    unfold mX3_addText_b2
    rw [kLen_t hi hi', obs, if_pos (nI_le (by omega) (by omega))]
  | succ k ih =>
    intro t fu I l ht hf h hl
    obtain ⟨fu, rfl⟩ : ∃ f, fu = f + 1 := ⟨fu - 1, by omega⟩
    have htl : t < (txL i).length := by omega
    obtain ⟨ek, el⟩ := kAt_t i (by omega) hi t htl
    have eg : (txL i).getD t 0 = (txL i)[t] := by rw [List.getD_eq_getElem?_getD, List.getElem?_eq_getElem htl]; rfl
    rw [eg] at ek el
    obtain ⟨I1, e1, f1, p1⟩ := C_padd (n := n) (J := J) h (by omega) el
    obtain ⟨I', e, f, p⟩ := ih (t + 1) fu I1 _ (by omega) (by omega) p1 (by rw [List.length_append]; simp only [List.length_cons, List.length_nil]; omega)
    refine ⟨I', ?_, f1.trans f, ?_⟩
    · show mX3_addText_b2 _ _ _ _ _ = _
      unfold mX3_addText_b2
      rw [kLen_t hi hi', obs, if_neg (nI_ge (by omega) (by omega)), ek, obs, e1, obs, i_1, nI_add]
      exact e
    · rw [List.drop_eq_getElem_cons htl]
      rw [List.append_assoc] at p
      exact p
theorem C_addText {I : Nat → Nat → Int32} {l : List Nat} {i : Nat} (hi : 3 ≤ i) (hi' : i ≤ 6) (h : PGl I l) (hl : l.length + 9 ≤ 480) : ∃ I', mX3_addText (mk n I J) 132 i = some (mk n I' J) ∧ Fx SPg I I' ∧ PGl I' (l ++ txL i) := by
  have hlen := tx_len (i := i)
  obtain ⟨I', e, f, p⟩ := C_textL (n := n) (J := J) hi hi' (txL i).length 0 FU I l (by omega) (by unfold FU; omega) h (by omega)
  refine ⟨I', ?_, f, p⟩
  unfold mX3_addText
  rw [mk_oO o_132]
  exact e
end PA
