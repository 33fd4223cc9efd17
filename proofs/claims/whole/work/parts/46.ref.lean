/-! ===== 46: kin, days, what is brought, what was resold, what making costs ===== -/
def kinSt (T : Nat → Nat) (k m : Nat) : Nat := if m &&& (2 ^ T (12 + 2 * k) ||| 2 ^ T (12 + 2 * k + 1)) = 0 then m else m ||| (2 ^ T (12 + 2 * k) ||| 2 ^ T (12 + 2 * k + 1))
/-- one round over the first k pairs -/
def kinRd (T : Nat → Nat) (m : Nat) : Nat → Nat
  | 0 => m
  | k + 1 => kinSt T k (kinRd T m k)
def kinS (T : Nat → Nat) (p : Nat) : Nat → Nat
  | 0 => 2 ^ p
  | r + 1 => kinRd T (kinS T p r) (T 11)
abbrev akin (T : Nat → Nat) (p q : Nat) : Prop := (kinS T p 6).testBit q = true
abbrev btw (T : Nat → Nat) (s : Nat) : Prop := akin T (T (56 + 12 * s + 1)) (T (56 + 12 * s + 2))
abbrev nearDay (T : Nat → Nat) (s t : Nat) : Prop := T (56 + 12 * s + 5) ≤ T 7 + T (56 + 12 * t + 5) ∧ T (56 + 12 * t + 5) ≤ T 7 + T (56 + 12 * s + 5)
def brought (T : Nat → Nat) (g s t : Nat) : Nat := own T g t * T (56 + 12 * s + 3) * (100 - less T s) / (T (56 + 12 * t + 3) * (100 - less T t))
abbrev rowF (T : Nat → Nat) (s r how : Nat) : Prop := like T (T (56 + 12 * s + 0)) (T (176 + 4 * r + 0)) = how ∧ T (56 + 12 * s + 5) ≤ T (176 + 4 * r + 3) ∧ T (176 + 4 * r + 3) ≤ 3 * T 7 + T (56 + 12 * s + 5)
def pcs (T : Nat → Nat) (s how p : Nat) : Nat → Nat
  | 0 => 0
  | r + 1 => pcs T s how p r + if rowF T s r how ∧ T (176 + 4 * r + 2) = p then T (176 + 4 * r + 1) else 0
/-- the best price (0: none) and its pieces -/
def bpS (T : Nat → Nat) (s how r : Nat) (b : Nat × Nat) : Nat × Nat :=
  if rowF T s r how then (if b.1 = 0 ∨ b.2 < pcs T s how (T (176 + 4 * r + 2)) (T 4) ∨ (pcs T s how (T (176 + 4 * r + 2)) (T 4) = b.2 ∧ T (176 + 4 * r + 2) < b.1) then (T (176 + 4 * r + 2), pcs T s how (T (176 + 4 * r + 2)) (T 4)) else b) else b
def bp (T : Nat → Nat) (s how : Nat) : Nat → Nat × Nat
  | 0 => (0, 0)
  | r + 1 => bpS T s how r (bp T s how r)
def rsP (T : Nat → Nat) (s : Nat) : Nat := if (bp T s 1 (T 4)).1 = 0 then (bp T s 2 (T 4)).1 else (bp T s 1 (T 4)).1
def rsV (T : Nat → Nat) (s : Nat) : Nat := T (56 + 12 * s + 3) * rsP T s * (100 - T 8) / (100 + T 9)
def mkC (T : Nat → Nat) (s : Nat) : Nat := T (24 + 4 * T (56 + 12 * s + 0) + 2)
def mkV (T : Nat → Nat) (g s : Nat) : Nat := T (56 + 12 * s + 3) * mkC T s * (100 + T (24 + 4 * T (56 + 12 * s + 0) + 3)) / 100 + T (56 + 12 * s + 9) + T (56 + 12 * s + 10) + shares T g s (T 2)
/-- a failure's number -/
def fl (w : Nat) : Int64 := Int32.toInt64 (M2 - nI w)
def vN (w v : Nat) : Int64 := if w = 0 then lN v else fl w
def pN (b : Nat) : Int32 := if b = 0 then M1 else nI b
theorem pN_M1 {b : Nat} (h : b < 2 ^ 31) : (pN b = M1) = (b = 0) := by
  unfold pN
  split
  · rename_i z; simp [z]
  · rename_i z; rw [nM1 h]; simp [z]
section RH
variable {n g : Nat} {I : Nat → Nat → Int32} {J : Nat → Nat → Int64} {T : Nat → Nat}
theorem sub_toInt {a b : Nat} (ha : a < 2 ^ 30) (hb : b < 2 ^ 30) : (nI a - nI b).toInt = (a : Int) - b := by
  rw [Int32.toInt_sub, nI_toInt (by omega), nI_toInt (by omega)]
  apply Int.bmod_eq_of_le <;> omega
theorem ltsub {a b w : Nat} (ha : a < 2 ^ 30) (hb : b < 2 ^ 30) (hw : w < 2 ^ 30) : (nI w < nI a - nI b) = (w + b < a) := by
  rw [Int32.lt_iff_toInt_lt, sub_toInt ha hb, nI_toInt (by omega)]
  apply propext; omega
theorem sublt0 {a b : Nat} (ha : a < 2 ^ 30) (hb : b < 2 ^ 30) : (nI a - nI b < nI 0) = (a < b) := by
  rw [Int32.lt_iff_toInt_lt, sub_toInt ha hb, nI_toInt (by omega)]
  apply propext; omega
theorem negsub (a b : Nat) : -(nI a - nI b) = nI b - nI a := Int32.neg_sub
theorem VT.l30 (h : VT T) (k : Nat) : T k < 2 ^ 30 := Nat.lt_of_le_of_lt (h.le k) (by decide)
theorem VT.sg (h : VT T) {s : Nat} (hs : s < T 3) : T (56 + 12 * s + 0) < T 1 := (h.2.2.2.2.2.1 s hs).1
theorem VT.ss (h : VT T) {s : Nat} (hs : s < T 3) : T (56 + 12 * s + 1) < T 0 := by
  have := (h.2.2.2.2.2.1 s hs).2.1
  rw [show 56 + 12 * s + 1 = 57 + 12 * s by omega]; exact this
theorem VT.sb (h : VT T) {s : Nat} (hs : s < T 3) : T (56 + 12 * s + 2) < T 0 := by
  have := (h.2.2.2.2.2.1 s hs).2.2.1
  rw [show 56 + 12 * s + 2 = 58 + 12 * s by omega]; exact this
theorem VT.sp (h : VT T) {s : Nat} (hs : s < T 3) : 1 ≤ T (56 + 12 * s + 3) := by
  have := (h.2.2.2.2.2.1 s hs).2.2.2.1
  rw [show 56 + 12 * s + 3 = 59 + 12 * s by omega]; exact this
theorem VT.sr (h : VT T) {s : Nat} (hs : s < T 3) : T (56 + 12 * s + 7) ≤ 99 := by
  have := (h.2.2.2.2.2.1 s hs).2.2.2.2.2.2.2.1
  rw [show 56 + 12 * s + 7 = 63 + 12 * s by omega]; exact this
theorem VT.sbo (h : VT T) {s : Nat} (hs : s < T 3) : T (56 + 12 * s + 6) ≤ 1 := by
  have := (h.2.2.2.2.2.1 s hs).2.2.2.2.2.2.1
  rw [show 56 + 12 * s + 6 = 62 + 12 * s by omega]; exact this
theorem VT.su (h : VT T) {s : Nat} (hs : s < T 3) : T (56 + 12 * s + 11) < 16 := by
  have := (h.2.2.2.2.2.1 s hs).2.2.2.2.2.2.2.2
  rw [show 56 + 12 * s + 11 = 67 + 12 * s by omega]; exact this
theorem VT.rg (h : VT T) {r : Nat} (hr : r < T 4) : T (176 + 4 * r + 0) < T 1 := (h.2.2.2.2.2.2.1 r hr).1
theorem VT.rp (h : VT T) {r : Nat} (hr : r < T 4) : 1 ≤ T (176 + 4 * r + 1) := by
  have := (h.2.2.2.2.2.2.1 r hr).2.1
  rw [show 176 + 4 * r + 1 = 177 + 4 * r by omega]; exact this
theorem VT.rr (h : VT T) {r : Nat} (hr : r < T 4) : 1 ≤ T (176 + 4 * r + 2) := by
  have := (h.2.2.2.2.2.2.1 r hr).2.2.1
  rw [show 176 + 4 * r + 2 = 178 + 4 * r by omega]; exact this
theorem VT.gp (h : VT T) {s : Nat} (hs : s < T 1) : T (24 + 4 * s + 3) ≤ 99 := by
  have := h.2.2.2.2.2.2.2.1 s hs
  rw [show 24 + 4 * s + 3 = 27 + 4 * s by omega]; exact this
theorem VT.k1 (h : VT T) {k : Nat} (hk : k < T 11) : T (12 + 2 * k) < T 0 := (h.2.2.1 k hk).1
theorem VT.k2 (h : VT T) {k : Nat} (hk : k < T 11) : T (12 + 2 * k + 1) < T 0 := by
  have := (h.2.2.1 k hk).2.1
  rw [show 12 + 2 * k + 1 = 13 + 2 * k by omega]; exact this
theorem p2_lt {a : Nat} (h : a < 6) : 2 ^ a < 2 ^ 6 := Nat.pow_lt_pow_right (by decide) h
theorem kinSt_lt (hT : VT T) {k m : Nat} (hk : k < T 11) (hm : m < 2 ^ 6) : kinSt T k m < 2 ^ 6 := by
  have b0 := hT.1
  have c1 := hT.k1 hk
  have c2 := hT.k2 hk
  unfold kinSt
  split
  · exact hm
  · exact Nat.or_lt_two_pow hm (Nat.or_lt_two_pow (p2_lt (by omega)) (p2_lt (by omega)))
theorem kinRd_lt (hT : VT T) {m : Nat} (hm : m < 2 ^ 6) : ∀ k, k ≤ T 11 → kinRd T m k < 2 ^ 6
  | 0, _ => hm
  | k + 1, hk => kinSt_lt hT (by omega) (kinRd_lt hT hm k (by omega))
theorem kinS_lt (hT : VT T) {p : Nat} (hp : p < 6) : ∀ r, kinS T p r < 2 ^ 6
  | 0 => p2_lt hp
  | r + 1 => kinRd_lt hT (kinS_lt hT hp r) (T 11) (Nat.le_refl _)
theorem R_kinL17 (hT : VT T) (h : RQ T g I) {q m x : Nat} (hm : m < 2 ^ 6) (r7 : PH → Nat → Int32 → Int32 → Int32 → Option (Int32 × PH)) : ∀ (k t fu : Nat), t + k = T 11 → k < fu → mX10_areKin_L17 r7 fu (mk n I J) 224 (nI q) (nI (kinRd T m t)) (nI x) (nI t) = r7 (mk n I J) 224 (nI q) (nI (kinRd T m (T 11))) (nI (x + 1)) := by
  have b0 := hT.1
  have b1 : T 11 ≤ 6 := hT.2.1.2.2.2.2.2.2
  intro k
  induction k with
  | zero =>
    intro t fu ht hf
    obtain ⟨fu, rfl⟩ : ∃ f, fu = f + 1 := ⟨fu - 1, by omega⟩
    show mX10_areKin_b17 _ _ _ _ _ _ _ _ = _
    unfold mX10_areKin_b17
    simp (disch := omega) only [mk_oO o_224, mk_gI f_224_0, mk_pI f_224_0, mk_gR f_224_1, mk_gR f_224_2, mk_gR f_224_3, mk_gR f_224_4, mk_gR f_224_5, mk_gI f_224_6, mk_pI f_224_6, mk_gR f_224_7, mk_gI f_224_8, mk_pI f_224_8, mk_gI f_224_9, mk_pI f_224_9, mk_gI f_224_10, mk_pI f_224_10, mk_gI f_224_11, mk_pI f_224_11, mk_gI f_224_12, mk_pI f_224_12, mk_gI f_224_13, mk_pI f_224_13, mk_gL f_224_14, mk_pL f_224_14, mk_gI f_224_15, mk_pI f_224_15, mk_gI f_224_16, mk_pI f_224_16, mk_gR f_224_17, mk_gR f_224_18, mk_gR f_224_19, mk_gI f_224_20, mk_pI f_224_20, mk_gR f_224_21, mk_gI f_224_22, mk_pI f_224_22, mk_gI f_224_23, mk_pI f_224_23, mk_gI f_224_24, mk_pI f_224_24, mk_gI f_224_25, mk_pI f_224_25, mk_gR f_224_26, mk_gI f_224_27, mk_pI f_224_27, mk_gI f_224_28, mk_pI f_224_28, mk_gR f_224_29, mk_gI f_224_30, mk_pI f_224_30, mk_gI f_224_31, mk_pI f_224_31, mk_gR f_224_32, mk_gI f_224_33, mk_pI f_224_33, ↓m_1, ↓m_2, i_0, i_1, i_2, i_3, i_4, i_6, i_5, i_12, i_11, i_10, i_9999, i_7, i_9, i_8, i_24, i_100, i_56, i_48, i_13, i_176, i_232, i_224, i_32, i_999, i_99, i_900, i_97, i_90, i_30, i_20, i_59, i_14, i_50, i_29, i_22, i_19, i_18, i_17, i_96, i_61, i_57, i_51, i_41, i_26, i_2552, i_255, i_25, i_23, i_21, i_16, i_15, i_122, i_10000, i_31, dzF, obs, b2_some, rz0, rz1, rzb, n01, n01', n10, n01e, nI_add, nI_mul, ↓reduceIte, not_false_eq_true, not_true_eq_false, ite_not, leT, leF, ltT, ltF, eqT, eqF, dz_no, R_now h.1]
    rw [show t = T 11 by omega]
  | succ k ih =>
    intro t fu ht hf
    obtain ⟨fu, rfl⟩ : ∃ f, fu = f + 1 := ⟨fu - 1, by omega⟩
    have c1 := hT.k1 (by omega : t < T 11)
    have c2 := hT.k2 (by omega : t < T 11)
    have e := ih (t + 1) fu (by omega) (by omega)
    have hl := kinRd_lt hT hm t (by omega)
    have hb : 2 ^ T (12 + 2 * t) ||| 2 ^ T (12 + 2 * t + 1) < 2 ^ 6 := Nat.or_lt_two_pow (p2_lt (by omega)) (p2_lt (by omega))
    have ha : kinRd T m t &&& (2 ^ T (12 + 2 * t) ||| 2 ^ T (12 + 2 * t + 1)) < 2 ^ 6 := Nat.and_lt_two_pow _ hb
    show mX10_areKin_b17 _ _ _ _ _ _ _ _ = _
    unfold mX10_areKin_b17
    simp (disch := omega) only [mk_oO o_224, mk_gI f_224_0, mk_pI f_224_0, mk_gR f_224_1, mk_gR f_224_2, mk_gR f_224_3, mk_gR f_224_4, mk_gR f_224_5, mk_gI f_224_6, mk_pI f_224_6, mk_gR f_224_7, mk_gI f_224_8, mk_pI f_224_8, mk_gI f_224_9, mk_pI f_224_9, mk_gI f_224_10, mk_pI f_224_10, mk_gI f_224_11, mk_pI f_224_11, mk_gI f_224_12, mk_pI f_224_12, mk_gI f_224_13, mk_pI f_224_13, mk_gL f_224_14, mk_pL f_224_14, mk_gI f_224_15, mk_pI f_224_15, mk_gI f_224_16, mk_pI f_224_16, mk_gR f_224_17, mk_gR f_224_18, mk_gR f_224_19, mk_gI f_224_20, mk_pI f_224_20, mk_gR f_224_21, mk_gI f_224_22, mk_pI f_224_22, mk_gI f_224_23, mk_pI f_224_23, mk_gI f_224_24, mk_pI f_224_24, mk_gI f_224_25, mk_pI f_224_25, mk_gR f_224_26, mk_gI f_224_27, mk_pI f_224_27, mk_gI f_224_28, mk_pI f_224_28, mk_gR f_224_29, mk_gI f_224_30, mk_pI f_224_30, mk_gI f_224_31, mk_pI f_224_31, mk_gR f_224_32, mk_gI f_224_33, mk_pI f_224_33, ↓m_1, ↓m_2, i_0, i_1, i_2, i_3, i_4, i_6, i_5, i_12, i_11, i_10, i_9999, i_7, i_9, i_8, i_24, i_100, i_56, i_48, i_13, i_176, i_232, i_224, i_32, i_999, i_99, i_900, i_97, i_90, i_30, i_20, i_59, i_14, i_50, i_29, i_22, i_19, i_18, i_17, i_96, i_61, i_57, i_51, i_41, i_26, i_2552, i_255, i_25, i_23, i_21, i_16, i_15, i_122, i_10000, i_31, dzF, obs, b2_some, rz0, rz1, rzb, n01, n01', n10, n01e, nI_add, nI_mul, ↓reduceIte, not_false_eq_true, not_true_eq_false, ite_not, leF, R_now h.1, nI_one_shl2, nI_or, nI_and, nI_eq, Nat.or_zero]
    rw [kinRd] at e
    unfold kinSt at e
    split
    · rename_i hc; rw [if_pos hc] at e; exact e
    · rename_i hc; rw [if_neg hc] at e; exact e
theorem R_kinL7 (hT : VT T) (h : RQ T g I) {p q : Nat} (hp : p < 6) (hq : q < 6) : ∀ (k t fu : Nat), t + k = 6 → k < fu → mX10_areKin_L7 fu (mk n I J) 224 (nI q) (nI (kinS T p t)) (nI t) = some (nI (if akin T p q then 1 else 0), mk n I J) := by
  have b1 : T 11 ≤ 6 := hT.2.1.2.2.2.2.2.2
  intro k
  induction k with
  | zero =>
    intro t fu ht hf
    obtain ⟨fu, rfl⟩ : ∃ f, fu = f + 1 := ⟨fu - 1, by omega⟩
    have hl := kinS_lt hT hp t
    show mX10_areKin_b7 _ _ _ _ _ _ = _
    unfold mX10_areKin_b7
    simp (disch := omega) only [mk_oO o_224, mk_gI f_224_0, mk_pI f_224_0, mk_gR f_224_1, mk_gR f_224_2, mk_gR f_224_3, mk_gR f_224_4, mk_gR f_224_5, mk_gI f_224_6, mk_pI f_224_6, mk_gR f_224_7, mk_gI f_224_8, mk_pI f_224_8, mk_gI f_224_9, mk_pI f_224_9, mk_gI f_224_10, mk_pI f_224_10, mk_gI f_224_11, mk_pI f_224_11, mk_gI f_224_12, mk_pI f_224_12, mk_gI f_224_13, mk_pI f_224_13, mk_gL f_224_14, mk_pL f_224_14, mk_gI f_224_15, mk_pI f_224_15, mk_gI f_224_16, mk_pI f_224_16, mk_gR f_224_17, mk_gR f_224_18, mk_gR f_224_19, mk_gI f_224_20, mk_pI f_224_20, mk_gR f_224_21, mk_gI f_224_22, mk_pI f_224_22, mk_gI f_224_23, mk_pI f_224_23, mk_gI f_224_24, mk_pI f_224_24, mk_gI f_224_25, mk_pI f_224_25, mk_gR f_224_26, mk_gI f_224_27, mk_pI f_224_27, mk_gI f_224_28, mk_pI f_224_28, mk_gR f_224_29, mk_gI f_224_30, mk_pI f_224_30, mk_gI f_224_31, mk_pI f_224_31, mk_gR f_224_32, mk_gI f_224_33, mk_pI f_224_33, ↓m_1, ↓m_2, i_0, i_1, i_2, i_3, i_4, i_6, i_5, i_12, i_11, i_10, i_9999, i_7, i_9, i_8, i_24, i_100, i_56, i_48, i_13, i_176, i_232, i_224, i_32, i_999, i_99, i_900, i_97, i_90, i_30, i_20, i_59, i_14, i_50, i_29, i_22, i_19, i_18, i_17, i_96, i_61, i_57, i_51, i_41, i_26, i_2552, i_255, i_25, i_23, i_21, i_16, i_15, i_122, i_10000, i_31, dzF, obs, b2_some, rz0, rz1, rzb, n01, n01', n10, n01e, nI_add, nI_mul, ↓reduceIte, not_false_eq_true, not_true_eq_false, ite_not, leT, leF, ltT, ltF, eqT, eqF, dz_no, R_now h.1, R_has]
    rw [show t = 6 by omega]
  | succ k ih =>
    intro t fu ht hf
    obtain ⟨fu, rfl⟩ : ∃ f, fu = f + 1 := ⟨fu - 1, by omega⟩
    show mX10_areKin_b7 _ _ _ _ _ _ = _
    unfold mX10_areKin_b7
    have e := R_kinL17 (n := n) (J := J) (q := q) (x := t) hT h (kinS_lt hT hp t) (mX10_areKin_L7 fu) (T 11) 0 FU (by omega) (by unfold FU; omega)
    simp (disch := omega) only [↓m_1, ↓m_2, i_0, i_1, i_2, i_3, i_4, i_6, i_5, i_12, i_11, i_10, i_9999, i_7, i_9, i_8, i_24, i_100, i_56, i_48, i_13, i_176, i_232, i_224, i_32, i_999, i_99, i_900, i_97, i_90, i_30, i_20, i_59, i_14, i_50, i_29, i_22, i_19, i_18, i_17, i_96, i_61, i_57, i_51, i_41, i_26, i_2552, i_255, i_25, i_23, i_21, i_16, i_15, i_122, i_10000, i_31, leF, ↓reduceIte]
    refine Eq.trans e ?_
    exact ih (t + 1) fu (by omega) (by omega)
theorem R_areKin (hT : VT T) (h : RQ T g I) {p q : Nat} (hp : p < 6) (hq : q < 6) : mX10_areKin (mk n I J) 224 (nI p) (nI q) = some (nI (if akin T p q then 1 else 0), mk n I J) := by
  unfold mX10_areKin
  simp (disch := omega) only [mk_oO o_224, mk_gI f_224_0, mk_pI f_224_0, mk_gR f_224_1, mk_gR f_224_2, mk_gR f_224_3, mk_gR f_224_4, mk_gR f_224_5, mk_gI f_224_6, mk_pI f_224_6, mk_gR f_224_7, mk_gI f_224_8, mk_pI f_224_8, mk_gI f_224_9, mk_pI f_224_9, mk_gI f_224_10, mk_pI f_224_10, mk_gI f_224_11, mk_pI f_224_11, mk_gI f_224_12, mk_pI f_224_12, mk_gI f_224_13, mk_pI f_224_13, mk_gL f_224_14, mk_pL f_224_14, mk_gI f_224_15, mk_pI f_224_15, mk_gI f_224_16, mk_pI f_224_16, mk_gR f_224_17, mk_gR f_224_18, mk_gR f_224_19, mk_gI f_224_20, mk_pI f_224_20, mk_gR f_224_21, mk_gI f_224_22, mk_pI f_224_22, mk_gI f_224_23, mk_pI f_224_23, mk_gI f_224_24, mk_pI f_224_24, mk_gI f_224_25, mk_pI f_224_25, mk_gR f_224_26, mk_gI f_224_27, mk_pI f_224_27, mk_gI f_224_28, mk_pI f_224_28, mk_gR f_224_29, mk_gI f_224_30, mk_pI f_224_30, mk_gI f_224_31, mk_pI f_224_31, mk_gR f_224_32, mk_gI f_224_33, mk_pI f_224_33, ↓m_1, ↓m_2, i_0, i_1, i_2, i_3, i_4, i_6, i_5, i_12, i_11, i_10, i_9999, i_7, i_9, i_8, i_24, i_100, i_56, i_48, i_13, i_176, i_232, i_224, i_32, i_999, i_99, i_900, i_97, i_90, i_30, i_20, i_59, i_14, i_50, i_29, i_22, i_19, i_18, i_17, i_96, i_61, i_57, i_51, i_41, i_26, i_2552, i_255, i_25, i_23, i_21, i_16, i_15, i_122, i_10000, i_31, nI_one_shl]
  exact R_kinL7 hT h hp hq 6 0 FU (by omega) (by unfold FU; omega)
theorem R_isBetweenKin (hT : VT T) (h : RQ T g I) {s : Nat} (hs : s < T 3) : mX10_isBetweenKin (mk n I J) 224 (nI s) = some (nI (if btw T s then 1 else 0), mk n I J) := by
  have b0 := hT.1
  have c1 := hT.ss hs
  have c2 := hT.sb hs
  unfold mX10_isBetweenKin
  simp (disch := omega) only [mk_oO o_224, mk_gI f_224_0, mk_pI f_224_0, mk_gR f_224_1, mk_gR f_224_2, mk_gR f_224_3, mk_gR f_224_4, mk_gR f_224_5, mk_gI f_224_6, mk_pI f_224_6, mk_gR f_224_7, mk_gI f_224_8, mk_pI f_224_8, mk_gI f_224_9, mk_pI f_224_9, mk_gI f_224_10, mk_pI f_224_10, mk_gI f_224_11, mk_pI f_224_11, mk_gI f_224_12, mk_pI f_224_12, mk_gI f_224_13, mk_pI f_224_13, mk_gL f_224_14, mk_pL f_224_14, mk_gI f_224_15, mk_pI f_224_15, mk_gI f_224_16, mk_pI f_224_16, mk_gR f_224_17, mk_gR f_224_18, mk_gR f_224_19, mk_gI f_224_20, mk_pI f_224_20, mk_gR f_224_21, mk_gI f_224_22, mk_pI f_224_22, mk_gI f_224_23, mk_pI f_224_23, mk_gI f_224_24, mk_pI f_224_24, mk_gI f_224_25, mk_pI f_224_25, mk_gR f_224_26, mk_gI f_224_27, mk_pI f_224_27, mk_gI f_224_28, mk_pI f_224_28, mk_gR f_224_29, mk_gI f_224_30, mk_pI f_224_30, mk_gI f_224_31, mk_pI f_224_31, mk_gR f_224_32, mk_gI f_224_33, mk_pI f_224_33, ↓m_1, ↓m_2, i_0, i_1, i_2, i_3, i_4, i_6, i_5, i_12, i_11, i_10, i_9999, i_7, i_9, i_8, i_24, i_100, i_56, i_48, i_13, i_176, i_232, i_224, i_32, i_999, i_99, i_900, i_97, i_90, i_30, i_20, i_59, i_14, i_50, i_29, i_22, i_19, i_18, i_17, i_96, i_61, i_57, i_51, i_41, i_26, i_2552, i_255, i_25, i_23, i_21, i_16, i_15, i_122, i_10000, i_31, dzF, obs, b2_some, rz0, rz1, rzb, n01, n01', n10, n01e, nI_add, nI_mul, ↓reduceIte, not_false_eq_true, not_true_eq_false, ite_not, R_of h, R_areKin hT h]
theorem R_isNearDay (hT : VT T) (h : RQ T g I) {s t : Nat} (hs : s < 10) (ht : t < 10) : mX10_isNearDay (mk n I J) 224 (nI s) (nI t) = some (nI (if nearDay T s t then 1 else 0), mk n I J) := by
  unfold mX10_isNearDay
  simp (disch := omega) only [mk_oO o_224, mk_gI f_224_0, mk_pI f_224_0, mk_gR f_224_1, mk_gR f_224_2, mk_gR f_224_3, mk_gR f_224_4, mk_gR f_224_5, mk_gI f_224_6, mk_pI f_224_6, mk_gR f_224_7, mk_gI f_224_8, mk_pI f_224_8, mk_gI f_224_9, mk_pI f_224_9, mk_gI f_224_10, mk_pI f_224_10, mk_gI f_224_11, mk_pI f_224_11, mk_gI f_224_12, mk_pI f_224_12, mk_gI f_224_13, mk_pI f_224_13, mk_gL f_224_14, mk_pL f_224_14, mk_gI f_224_15, mk_pI f_224_15, mk_gI f_224_16, mk_pI f_224_16, mk_gR f_224_17, mk_gR f_224_18, mk_gR f_224_19, mk_gI f_224_20, mk_pI f_224_20, mk_gR f_224_21, mk_gI f_224_22, mk_pI f_224_22, mk_gI f_224_23, mk_pI f_224_23, mk_gI f_224_24, mk_pI f_224_24, mk_gI f_224_25, mk_pI f_224_25, mk_gR f_224_26, mk_gI f_224_27, mk_pI f_224_27, mk_gI f_224_28, mk_pI f_224_28, mk_gR f_224_29, mk_gI f_224_30, mk_pI f_224_30, mk_gI f_224_31, mk_pI f_224_31, mk_gR f_224_32, mk_gI f_224_33, mk_pI f_224_33, ↓m_1, ↓m_2, i_0, i_1, i_2, i_3, i_4, i_6, i_5, i_12, i_11, i_10, i_9999, i_7, i_9, i_8, i_24, i_100, i_56, i_48, i_13, i_176, i_232, i_224, i_32, i_999, i_99, i_900, i_97, i_90, i_30, i_20, i_59, i_14, i_50, i_29, i_22, i_19, i_18, i_17, i_96, i_61, i_57, i_51, i_41, i_26, i_2552, i_255, i_25, i_23, i_21, i_16, i_15, i_122, i_10000, i_31, dzF, obs, b2_some, rz0, rz1, rzb, n01, n01', n10, n01e, nI_add, nI_mul, ↓reduceIte, not_false_eq_true, not_true_eq_false, ite_not, R_of h, R_now h.1, negsub, ltsub (hT.l30 _) (hT.l30 _) (hT.l30 _)]
  by_cases h1 : T 7 + T (56 + 12 * t + 5) < T (56 + 12 * s + 5)
  · rw [if_pos h1, if_neg (by omega)]
  · rw [if_neg h1]
    by_cases h2 : T 7 + T (56 + 12 * s + 5) < T (56 + 12 * t + 5)
    · rw [if_pos h2, if_neg (by omega)]
    · rw [if_neg h2, if_pos (by omega)]
theorem R_likeSales (hT : VT T) (h : RQ T g I) {s t : Nat} (hs : s < T 3) (ht : t < T 3) : mX10_likeSales (mk n I J) 224 (nI s) (nI t) = some (nI (like T (T (56 + 12 * s + 0)) (T (56 + 12 * t + 0))), mk n I J) := by
  have b0 := hT.1
  have c1 := hT.sg hs
  have c2 := hT.sg ht
  unfold mX10_likeSales
  simp (disch := omega) only [mk_oO o_224, mk_gI f_224_0, mk_pI f_224_0, mk_gR f_224_1, mk_gR f_224_2, mk_gR f_224_3, mk_gR f_224_4, mk_gR f_224_5, mk_gI f_224_6, mk_pI f_224_6, mk_gR f_224_7, mk_gI f_224_8, mk_pI f_224_8, mk_gI f_224_9, mk_pI f_224_9, mk_gI f_224_10, mk_pI f_224_10, mk_gI f_224_11, mk_pI f_224_11, mk_gI f_224_12, mk_pI f_224_12, mk_gI f_224_13, mk_pI f_224_13, mk_gL f_224_14, mk_pL f_224_14, mk_gI f_224_15, mk_pI f_224_15, mk_gI f_224_16, mk_pI f_224_16, mk_gR f_224_17, mk_gR f_224_18, mk_gR f_224_19, mk_gI f_224_20, mk_pI f_224_20, mk_gR f_224_21, mk_gI f_224_22, mk_pI f_224_22, mk_gI f_224_23, mk_pI f_224_23, mk_gI f_224_24, mk_pI f_224_24, mk_gI f_224_25, mk_pI f_224_25, mk_gR f_224_26, mk_gI f_224_27, mk_pI f_224_27, mk_gI f_224_28, mk_pI f_224_28, mk_gR f_224_29, mk_gI f_224_30, mk_pI f_224_30, mk_gI f_224_31, mk_pI f_224_31, mk_gR f_224_32, mk_gI f_224_33, mk_pI f_224_33, ↓m_1, ↓m_2, i_0, i_1, i_2, i_3, i_4, i_6, i_5, i_12, i_11, i_10, i_9999, i_7, i_9, i_8, i_24, i_100, i_56, i_48, i_13, i_176, i_232, i_224, i_32, i_999, i_99, i_900, i_97, i_90, i_30, i_20, i_59, i_14, i_50, i_29, i_22, i_19, i_18, i_17, i_96, i_61, i_57, i_51, i_41, i_26, i_2552, i_255, i_25, i_23, i_21, i_16, i_15, i_122, i_10000, i_31, dzF, obs, b2_some, rz0, rz1, rzb, n01, n01', n10, n01e, nI_add, nI_mul, ↓reduceIte, not_false_eq_true, not_true_eq_false, ite_not, R_of h, R_likeness hT h]
theorem own_le (hT : VT T) {s : Nat} (hs : s < T 3) : own T g s ≤ 300000000 := ownAt_le hT s (hT.le _) hs
theorem br_num (hT : VT T) {s t : Nat} (ht : t < T 3) : own T g t * T (56 + 12 * s + 3) * (100 - less T s) ≤ 300000000 * 9999 * 100 := Nat.mul_le_mul (Nat.mul_le_mul (own_le hT ht) (hT.le _)) (by omega)
theorem br_den (hT : VT T) {t : Nat} (ht : t < T 3) : 1 ≤ T (56 + 12 * t + 3) * (100 - less T t) ∧ T (56 + 12 * t + 3) * (100 - less T t) ≤ 9999 * 100 := by
  have := less_le hT t
  exact ⟨Nat.mul_pos (hT.sp ht) (by omega), Nat.mul_le_mul (hT.le _) (by omega)⟩
theorem brought_le (hT : VT T) {s t : Nat} (ht : t < T 3) : brought T g s t ≤ 300000000000000 := by
  unfold brought
  exact Nat.le_trans (Nat.div_le_self _ _) (Nat.le_trans (br_num hT ht) (by decide))
theorem lF0 {a : Nat} (h : 1 ≤ a) (h' : a < 2 ^ 63) : (lN a = lN 0) = False := eq_false (fun e => by have := (lL_eq h' (by decide)).mp e; omega)
theorem R_brought (hT : VT T) (h : RQ T g I) {s t : Nat} (hs : s < T 3) (ht : t < T 3) : ∃ I', mX10_brought (mk n I J) 224 (nI s) (nI t) = some (lN (brought T g s t), mk n I' J) ∧ Fx SA I I' := by
  have b0 := hT.1
  obtain ⟨I', e, f⟩ := R_ownOf (n := n) (J := J) hT h ht
  have h' := h.fa f
  refine ⟨I', ?_, f⟩
  have c1 := less_le hT s
  have c2 := less_le hT t
  have c3 := br_num (g := g) hT (s := s) ht
  have c4 := br_den hT ht
  unfold mX10_brought brought
  simp (disch := omega) only [mk_oO o_224, mk_gI f_224_0, mk_pI f_224_0, mk_gR f_224_1, mk_gR f_224_2, mk_gR f_224_3, mk_gR f_224_4, mk_gR f_224_5, mk_gI f_224_6, mk_pI f_224_6, mk_gR f_224_7, mk_gI f_224_8, mk_pI f_224_8, mk_gI f_224_9, mk_pI f_224_9, mk_gI f_224_10, mk_pI f_224_10, mk_gI f_224_11, mk_pI f_224_11, mk_gI f_224_12, mk_pI f_224_12, mk_gI f_224_13, mk_pI f_224_13, mk_gL f_224_14, mk_pL f_224_14, mk_gI f_224_15, mk_pI f_224_15, mk_gI f_224_16, mk_pI f_224_16, mk_gR f_224_17, mk_gR f_224_18, mk_gR f_224_19, mk_gI f_224_20, mk_pI f_224_20, mk_gR f_224_21, mk_gI f_224_22, mk_pI f_224_22, mk_gI f_224_23, mk_pI f_224_23, mk_gI f_224_24, mk_pI f_224_24, mk_gI f_224_25, mk_pI f_224_25, mk_gR f_224_26, mk_gI f_224_27, mk_pI f_224_27, mk_gI f_224_28, mk_pI f_224_28, mk_gR f_224_29, mk_gI f_224_30, mk_pI f_224_30, mk_gI f_224_31, mk_pI f_224_31, mk_gR f_224_32, mk_gI f_224_33, mk_pI f_224_33, ↓m_1, ↓m_2, i_0, i_1, i_2, i_3, i_4, i_6, i_5, i_12, i_11, i_10, i_9999, i_7, i_9, i_8, i_24, i_100, i_56, i_48, i_13, i_176, i_232, i_224, i_32, i_999, i_99, i_900, i_97, i_90, i_30, i_20, i_59, i_14, i_50, i_29, i_22, i_19, i_18, i_17, i_96, i_61, i_57, i_51, i_41, i_26, i_2552, i_255, i_25, i_23, i_21, i_16, i_15, i_122, i_10000, i_31, l_0, dzF, obs, b2_some, rz0, rz1, rzb, n01, n01', n10, n01e, nI_add, nI_mul, ↓reduceIte, not_false_eq_true, not_true_eq_false, ite_not, R_of h', R_lessOf hT h', e, nI_sub, nI_l, nI_l (hT.l31 _), lN_mul, lF0, lL_div]
theorem R_isRowFor (hT : VT T) (h : RQ T g I) {s r how : Nat} (hs : s < T 3) (hr : r < T 4) (hh : how < 10) : mX10_isRowFor (mk n I J) 224 (nI s) (nI r) (nI how) = some (nI (if rowF T s r how then 1 else 0), mk n I J) := by
  have b0 := hT.1
  have c1 := hT.sg hs
  have c2 := hT.rg hr
  have c3 : like T (T (56 + 12 * s + 0)) (T (176 + 4 * r + 0)) < 2 ^ 31 := by unfold like; split <;> (try split) <;> (try split) <;> decide
  have c4 := hT.le 7
  unfold mX10_isRowFor
  simp (disch := omega) only [mk_oO o_224, mk_gI f_224_0, mk_pI f_224_0, mk_gR f_224_1, mk_gR f_224_2, mk_gR f_224_3, mk_gR f_224_4, mk_gR f_224_5, mk_gI f_224_6, mk_pI f_224_6, mk_gR f_224_7, mk_gI f_224_8, mk_pI f_224_8, mk_gI f_224_9, mk_pI f_224_9, mk_gI f_224_10, mk_pI f_224_10, mk_gI f_224_11, mk_pI f_224_11, mk_gI f_224_12, mk_pI f_224_12, mk_gI f_224_13, mk_pI f_224_13, mk_gL f_224_14, mk_pL f_224_14, mk_gI f_224_15, mk_pI f_224_15, mk_gI f_224_16, mk_pI f_224_16, mk_gR f_224_17, mk_gR f_224_18, mk_gR f_224_19, mk_gI f_224_20, mk_pI f_224_20, mk_gR f_224_21, mk_gI f_224_22, mk_pI f_224_22, mk_gI f_224_23, mk_pI f_224_23, mk_gI f_224_24, mk_pI f_224_24, mk_gI f_224_25, mk_pI f_224_25, mk_gR f_224_26, mk_gI f_224_27, mk_pI f_224_27, mk_gI f_224_28, mk_pI f_224_28, mk_gR f_224_29, mk_gI f_224_30, mk_pI f_224_30, mk_gI f_224_31, mk_pI f_224_31, mk_gR f_224_32, mk_gI f_224_33, mk_pI f_224_33, ↓m_1, ↓m_2, i_0, i_1, i_2, i_3, i_4, i_6, i_5, i_12, i_11, i_10, i_9999, i_7, i_9, i_8, i_24, i_100, i_56, i_48, i_13, i_176, i_232, i_224, i_32, i_999, i_99, i_900, i_97, i_90, i_30, i_20, i_59, i_14, i_50, i_29, i_22, i_19, i_18, i_17, i_96, i_61, i_57, i_51, i_41, i_26, i_2552, i_255, i_25, i_23, i_21, i_16, i_15, i_122, i_10000, i_31, dzF, obs, b2_some, rz0, rz1, rzb, n01, n01', n10, n01e, nI_add, nI_mul, ↓reduceIte, not_false_eq_true, not_true_eq_false, ite_not, R_of h, R_row h, R_likeness hT h, R_now h.1, sublt0 (hT.l30 _) (hT.l30 _), ltsub (hT.l30 _) (hT.l30 _), nI_eq]
  by_cases h1 : like T (T (56 + 12 * s + 0)) (T (176 + 4 * r + 0)) = how
  · rw [if_pos h1]
    by_cases h2 : T (176 + 4 * r + 3) < T (56 + 12 * s + 5)
    · rw [if_pos h2, if_neg (by omega)]
    · rw [if_neg h2]
      by_cases h3 : 3 * T 7 + T (56 + 12 * s + 5) < T (176 + 4 * r + 3)
      · rw [if_pos h3, if_neg (by omega)]
      · rw [if_neg h3, if_pos ⟨h1, by omega, by omega⟩]
  · rw [if_neg h1, if_neg (fun z => h1 z.1)]
theorem pcs_le (hT : VT T) (s how p r : Nat) : pcs T s how p r ≤ 9999 * r := by
  induction r with
  | zero => exact Nat.le_refl _
  | succ t ih =>
    unfold pcs
    have := hT.le (176 + 4 * t + 1)
    split <;> omega
theorem R_piecesL (hT : VT T) (h : RQ T g I) {s how p : Nat} (hs : s < T 3) (hh : how < 10) (hp : p < 2 ^ 31) : ∀ (k t fu : Nat), t + k = T 4 → k < fu → mX10_piecesAt_L6 fu (mk n I J) 224 (nI s) (nI p) (nI how) (nI (pcs T s how p t)) (nI t) = some (nI (pcs T s how p (T 4)), mk n I J) := by
  have b0 := hT.1
  intro k
  induction k with
  | zero =>
    intro t fu ht hf
    obtain ⟨fu, rfl⟩ : ∃ f, fu = f + 1 := ⟨fu - 1, by omega⟩
    show mX10_piecesAt_b6 _ _ _ _ _ _ _ _ = _
    unfold mX10_piecesAt_b6
    simp (disch := omega) only [mk_oO o_224, mk_gI f_224_0, mk_pI f_224_0, mk_gR f_224_1, mk_gR f_224_2, mk_gR f_224_3, mk_gR f_224_4, mk_gR f_224_5, mk_gI f_224_6, mk_pI f_224_6, mk_gR f_224_7, mk_gI f_224_8, mk_pI f_224_8, mk_gI f_224_9, mk_pI f_224_9, mk_gI f_224_10, mk_pI f_224_10, mk_gI f_224_11, mk_pI f_224_11, mk_gI f_224_12, mk_pI f_224_12, mk_gI f_224_13, mk_pI f_224_13, mk_gL f_224_14, mk_pL f_224_14, mk_gI f_224_15, mk_pI f_224_15, mk_gI f_224_16, mk_pI f_224_16, mk_gR f_224_17, mk_gR f_224_18, mk_gR f_224_19, mk_gI f_224_20, mk_pI f_224_20, mk_gR f_224_21, mk_gI f_224_22, mk_pI f_224_22, mk_gI f_224_23, mk_pI f_224_23, mk_gI f_224_24, mk_pI f_224_24, mk_gI f_224_25, mk_pI f_224_25, mk_gR f_224_26, mk_gI f_224_27, mk_pI f_224_27, mk_gI f_224_28, mk_pI f_224_28, mk_gR f_224_29, mk_gI f_224_30, mk_pI f_224_30, mk_gI f_224_31, mk_pI f_224_31, mk_gR f_224_32, mk_gI f_224_33, mk_pI f_224_33, ↓m_1, ↓m_2, i_0, i_1, i_2, i_3, i_4, i_6, i_5, i_12, i_11, i_10, i_9999, i_7, i_9, i_8, i_24, i_100, i_56, i_48, i_13, i_176, i_232, i_224, i_32, i_999, i_99, i_900, i_97, i_90, i_30, i_20, i_59, i_14, i_50, i_29, i_22, i_19, i_18, i_17, i_96, i_61, i_57, i_51, i_41, i_26, i_2552, i_255, i_25, i_23, i_21, i_16, i_15, i_122, i_10000, i_31, dzF, obs, b2_some, rz0, rz1, rzb, n01, n01', n10, n01e, nI_add, nI_mul, ↓reduceIte, not_false_eq_true, not_true_eq_false, ite_not, leT, leF, ltT, ltF, eqT, eqF, dz_no, R_now h.1]
    rw [show t = T 4 by omega]
  | succ k ih =>
    intro t fu ht hf
    obtain ⟨fu, rfl⟩ : ∃ f, fu = f + 1 := ⟨fu - 1, by omega⟩
    have e := ih (t + 1) fu (by omega) (by omega)
    show mX10_piecesAt_b6 _ _ _ _ _ _ _ _ = _
    unfold mX10_piecesAt_b6
    rw [pcs] at e
    by_cases hc : rowF T s t how
    · by_cases hd : T (176 + 4 * t + 2) = p
      · rw [if_pos ⟨hc, hd⟩] at e
        simp (disch := omega) only [mk_oO o_224, mk_gI f_224_0, mk_pI f_224_0, mk_gR f_224_1, mk_gR f_224_2, mk_gR f_224_3, mk_gR f_224_4, mk_gR f_224_5, mk_gI f_224_6, mk_pI f_224_6, mk_gR f_224_7, mk_gI f_224_8, mk_pI f_224_8, mk_gI f_224_9, mk_pI f_224_9, mk_gI f_224_10, mk_pI f_224_10, mk_gI f_224_11, mk_pI f_224_11, mk_gI f_224_12, mk_pI f_224_12, mk_gI f_224_13, mk_pI f_224_13, mk_gL f_224_14, mk_pL f_224_14, mk_gI f_224_15, mk_pI f_224_15, mk_gI f_224_16, mk_pI f_224_16, mk_gR f_224_17, mk_gR f_224_18, mk_gR f_224_19, mk_gI f_224_20, mk_pI f_224_20, mk_gR f_224_21, mk_gI f_224_22, mk_pI f_224_22, mk_gI f_224_23, mk_pI f_224_23, mk_gI f_224_24, mk_pI f_224_24, mk_gI f_224_25, mk_pI f_224_25, mk_gR f_224_26, mk_gI f_224_27, mk_pI f_224_27, mk_gI f_224_28, mk_pI f_224_28, mk_gR f_224_29, mk_gI f_224_30, mk_pI f_224_30, mk_gI f_224_31, mk_pI f_224_31, mk_gR f_224_32, mk_gI f_224_33, mk_pI f_224_33, ↓m_1, ↓m_2, i_0, i_1, i_2, i_3, i_4, i_6, i_5, i_12, i_11, i_10, i_9999, i_7, i_9, i_8, i_24, i_100, i_56, i_48, i_13, i_176, i_232, i_224, i_32, i_999, i_99, i_900, i_97, i_90, i_30, i_20, i_59, i_14, i_50, i_29, i_22, i_19, i_18, i_17, i_96, i_61, i_57, i_51, i_41, i_26, i_2552, i_255, i_25, i_23, i_21, i_16, i_15, i_122, i_10000, i_31, dzF, obs, b2_some, rz0, rz1, rzb, n01, n01', n10, n01e, nI_add, nI_mul, ↓reduceIte, not_false_eq_true, not_true_eq_false, ite_not, leF, R_now h.1, R_isRowFor hT h hs, if_pos hc, R_row h, hd]
        exact e
      · rw [if_neg (fun z => hd z.2)] at e
        simp (disch := omega) only [mk_oO o_224, mk_gI f_224_0, mk_pI f_224_0, mk_gR f_224_1, mk_gR f_224_2, mk_gR f_224_3, mk_gR f_224_4, mk_gR f_224_5, mk_gI f_224_6, mk_pI f_224_6, mk_gR f_224_7, mk_gI f_224_8, mk_pI f_224_8, mk_gI f_224_9, mk_pI f_224_9, mk_gI f_224_10, mk_pI f_224_10, mk_gI f_224_11, mk_pI f_224_11, mk_gI f_224_12, mk_pI f_224_12, mk_gI f_224_13, mk_pI f_224_13, mk_gL f_224_14, mk_pL f_224_14, mk_gI f_224_15, mk_pI f_224_15, mk_gI f_224_16, mk_pI f_224_16, mk_gR f_224_17, mk_gR f_224_18, mk_gR f_224_19, mk_gI f_224_20, mk_pI f_224_20, mk_gR f_224_21, mk_gI f_224_22, mk_pI f_224_22, mk_gI f_224_23, mk_pI f_224_23, mk_gI f_224_24, mk_pI f_224_24, mk_gI f_224_25, mk_pI f_224_25, mk_gR f_224_26, mk_gI f_224_27, mk_pI f_224_27, mk_gI f_224_28, mk_pI f_224_28, mk_gR f_224_29, mk_gI f_224_30, mk_pI f_224_30, mk_gI f_224_31, mk_pI f_224_31, mk_gR f_224_32, mk_gI f_224_33, mk_pI f_224_33, ↓m_1, ↓m_2, i_0, i_1, i_2, i_3, i_4, i_6, i_5, i_12, i_11, i_10, i_9999, i_7, i_9, i_8, i_24, i_100, i_56, i_48, i_13, i_176, i_232, i_224, i_32, i_999, i_99, i_900, i_97, i_90, i_30, i_20, i_59, i_14, i_50, i_29, i_22, i_19, i_18, i_17, i_96, i_61, i_57, i_51, i_41, i_26, i_2552, i_255, i_25, i_23, i_21, i_16, i_15, i_122, i_10000, i_31, dzF, obs, b2_some, rz0, rz1, rzb, n01, n01', n10, n01e, nI_add, nI_mul, ↓reduceIte, not_false_eq_true, not_true_eq_false, ite_not, leF, R_now h.1, R_isRowFor hT h hs, if_pos hc, R_row h, nI_eq (hT.l31 _) hp, if_neg hd]
        exact e
    · rw [if_neg (fun z => hc z.1)] at e
      simp (disch := omega) only [mk_oO o_224, mk_gI f_224_0, mk_pI f_224_0, mk_gR f_224_1, mk_gR f_224_2, mk_gR f_224_3, mk_gR f_224_4, mk_gR f_224_5, mk_gI f_224_6, mk_pI f_224_6, mk_gR f_224_7, mk_gI f_224_8, mk_pI f_224_8, mk_gI f_224_9, mk_pI f_224_9, mk_gI f_224_10, mk_pI f_224_10, mk_gI f_224_11, mk_pI f_224_11, mk_gI f_224_12, mk_pI f_224_12, mk_gI f_224_13, mk_pI f_224_13, mk_gL f_224_14, mk_pL f_224_14, mk_gI f_224_15, mk_pI f_224_15, mk_gI f_224_16, mk_pI f_224_16, mk_gR f_224_17, mk_gR f_224_18, mk_gR f_224_19, mk_gI f_224_20, mk_pI f_224_20, mk_gR f_224_21, mk_gI f_224_22, mk_pI f_224_22, mk_gI f_224_23, mk_pI f_224_23, mk_gI f_224_24, mk_pI f_224_24, mk_gI f_224_25, mk_pI f_224_25, mk_gR f_224_26, mk_gI f_224_27, mk_pI f_224_27, mk_gI f_224_28, mk_pI f_224_28, mk_gR f_224_29, mk_gI f_224_30, mk_pI f_224_30, mk_gI f_224_31, mk_pI f_224_31, mk_gR f_224_32, mk_gI f_224_33, mk_pI f_224_33, ↓m_1, ↓m_2, i_0, i_1, i_2, i_3, i_4, i_6, i_5, i_12, i_11, i_10, i_9999, i_7, i_9, i_8, i_24, i_100, i_56, i_48, i_13, i_176, i_232, i_224, i_32, i_999, i_99, i_900, i_97, i_90, i_30, i_20, i_59, i_14, i_50, i_29, i_22, i_19, i_18, i_17, i_96, i_61, i_57, i_51, i_41, i_26, i_2552, i_255, i_25, i_23, i_21, i_16, i_15, i_122, i_10000, i_31, dzF, obs, b2_some, rz0, rz1, rzb, n01, n01', n10, n01e, nI_add, nI_mul, ↓reduceIte, not_false_eq_true, not_true_eq_false, ite_not, leF, R_now h.1, R_isRowFor hT h hs, if_neg hc]
      exact e
theorem R_piecesAt (hT : VT T) (h : RQ T g I) {s how p : Nat} (hs : s < T 3) (hh : how < 10) (hp : p < 2 ^ 31) : mX10_piecesAt (mk n I J) 224 (nI s) (nI p) (nI how) = some (nI (pcs T s how p (T 4)), mk n I J) := by
  have b0 := hT.1
  unfold mX10_piecesAt
  rw [mk_oO o_224]
  exact R_piecesL hT h hs hh hp (T 4) 0 FU (by omega) (by unfold FU; omega)
theorem bp_le (hT : VT T) (s how r : Nat) : (bp T s how r).1 ≤ 9999 ∧ (bp T s how r).2 ≤ 9999 * T 4 := by
  induction r with
  | zero => exact ⟨Nat.zero_le 9999, Nat.zero_le _⟩
  | succ r ih =>
    unfold bp bpS
    have c1 := hT.le (176 + 4 * r + 2)
    have c2 := pcs_le hT s how (T (176 + 4 * r + 2)) (T 4)
    split
    · split
      · exact ⟨c1, c2⟩
      · exact ih
    · exact ih
theorem R_bestL (hT : VT T) (h : RQ T g I) {s how : Nat} (hs : s < T 3) (hh : how < 10) : ∀ (k t fu : Nat), t + k = T 4 → k < fu → mX10_bestPrice_L8 fu (mk n I J) 224 (nI s) (nI how) (pN (bp T s how t).1) (nI (bp T s how t).2) (nI t) = some (pN (bp T s how (T 4)).1, mk n I J) := by
  have b0 := hT.1
  intro k
  induction k with
  | zero =>
    intro t fu ht hf
    obtain ⟨fu, rfl⟩ : ∃ f, fu = f + 1 := ⟨fu - 1, by omega⟩
    show mX10_bestPrice_b8 _ _ _ _ _ _ _ _ = _
    unfold mX10_bestPrice_b8
    simp (disch := omega) only [mk_oO o_224, mk_gI f_224_0, mk_pI f_224_0, mk_gR f_224_1, mk_gR f_224_2, mk_gR f_224_3, mk_gR f_224_4, mk_gR f_224_5, mk_gI f_224_6, mk_pI f_224_6, mk_gR f_224_7, mk_gI f_224_8, mk_pI f_224_8, mk_gI f_224_9, mk_pI f_224_9, mk_gI f_224_10, mk_pI f_224_10, mk_gI f_224_11, mk_pI f_224_11, mk_gI f_224_12, mk_pI f_224_12, mk_gI f_224_13, mk_pI f_224_13, mk_gL f_224_14, mk_pL f_224_14, mk_gI f_224_15, mk_pI f_224_15, mk_gI f_224_16, mk_pI f_224_16, mk_gR f_224_17, mk_gR f_224_18, mk_gR f_224_19, mk_gI f_224_20, mk_pI f_224_20, mk_gR f_224_21, mk_gI f_224_22, mk_pI f_224_22, mk_gI f_224_23, mk_pI f_224_23, mk_gI f_224_24, mk_pI f_224_24, mk_gI f_224_25, mk_pI f_224_25, mk_gR f_224_26, mk_gI f_224_27, mk_pI f_224_27, mk_gI f_224_28, mk_pI f_224_28, mk_gR f_224_29, mk_gI f_224_30, mk_pI f_224_30, mk_gI f_224_31, mk_pI f_224_31, mk_gR f_224_32, mk_gI f_224_33, mk_pI f_224_33, ↓m_1, ↓m_2, i_0, i_1, i_2, i_3, i_4, i_6, i_5, i_12, i_11, i_10, i_9999, i_7, i_9, i_8, i_24, i_100, i_56, i_48, i_13, i_176, i_232, i_224, i_32, i_999, i_99, i_900, i_97, i_90, i_30, i_20, i_59, i_14, i_50, i_29, i_22, i_19, i_18, i_17, i_96, i_61, i_57, i_51, i_41, i_26, i_2552, i_255, i_25, i_23, i_21, i_16, i_15, i_122, i_10000, i_31, dzF, obs, b2_some, rz0, rz1, rzb, n01, n01', n10, n01e, nI_add, nI_mul, ↓reduceIte, not_false_eq_true, not_true_eq_false, ite_not, leT, leF, ltT, ltF, eqT, eqF, dz_no, R_now h.1]
    rw [show t = T 4 by omega]
  | succ k ih =>
    intro t fu ht hf
    obtain ⟨fu, rfl⟩ : ∃ f, fu = f + 1 := ⟨fu - 1, by omega⟩
    have e := ih (t + 1) fu (by omega) (by omega)
    have c1 := bp_le hT s how t
    have c2 := hT.rr (by omega : t < T 4)
    have c3 := hT.le (176 + 4 * t + 2)
    have c4 := pcs_le hT s how (T (176 + 4 * t + 2)) (T 4)
    show mX10_bestPrice_b8 _ _ _ _ _ _ _ _ = _
    unfold mX10_bestPrice_b8
    rw [bp] at e
    unfold bpS at e
    by_cases hc : rowF T s t how
    · rw [if_pos hc] at e
      simp (disch := omega) only [mk_oO o_224, mk_gI f_224_0, mk_pI f_224_0, mk_gR f_224_1, mk_gR f_224_2, mk_gR f_224_3, mk_gR f_224_4, mk_gR f_224_5, mk_gI f_224_6, mk_pI f_224_6, mk_gR f_224_7, mk_gI f_224_8, mk_pI f_224_8, mk_gI f_224_9, mk_pI f_224_9, mk_gI f_224_10, mk_pI f_224_10, mk_gI f_224_11, mk_pI f_224_11, mk_gI f_224_12, mk_pI f_224_12, mk_gI f_224_13, mk_pI f_224_13, mk_gL f_224_14, mk_pL f_224_14, mk_gI f_224_15, mk_pI f_224_15, mk_gI f_224_16, mk_pI f_224_16, mk_gR f_224_17, mk_gR f_224_18, mk_gR f_224_19, mk_gI f_224_20, mk_pI f_224_20, mk_gR f_224_21, mk_gI f_224_22, mk_pI f_224_22, mk_gI f_224_23, mk_pI f_224_23, mk_gI f_224_24, mk_pI f_224_24, mk_gI f_224_25, mk_pI f_224_25, mk_gR f_224_26, mk_gI f_224_27, mk_pI f_224_27, mk_gI f_224_28, mk_pI f_224_28, mk_gR f_224_29, mk_gI f_224_30, mk_pI f_224_30, mk_gI f_224_31, mk_pI f_224_31, mk_gR f_224_32, mk_gI f_224_33, mk_pI f_224_33, ↓m_1, ↓m_2, i_0, i_1, i_2, i_3, i_4, i_6, i_5, i_12, i_11, i_10, i_9999, i_7, i_9, i_8, i_24, i_100, i_56, i_48, i_13, i_176, i_232, i_224, i_32, i_999, i_99, i_900, i_97, i_90, i_30, i_20, i_59, i_14, i_50, i_29, i_22, i_19, i_18, i_17, i_96, i_61, i_57, i_51, i_41, i_26, i_2552, i_255, i_25, i_23, i_21, i_16, i_15, i_122, i_10000, i_31, dzF, obs, b2_some, rz0, rz1, rzb, n01, n01', n10, n01e, nI_add, nI_mul, ↓reduceIte, not_false_eq_true, not_true_eq_false, ite_not, leF, R_now h.1, R_isRowFor hT h hs, if_pos hc, R_row h, R_piecesAt hT h hs, pN_M1, nI_ltI, nI_eq]
      by_cases h1 : (bp T s how t).1 = 0
      · rw [if_pos h1]
        rw [if_pos (Or.inl h1)] at e
        unfold pN at e
        rw [if_neg (by omega)] at e
        exact e
      · rw [if_neg h1]
        by_cases h2 : (bp T s how t).2 < pcs T s how (T (176 + 4 * t + 2)) (T 4)
        · rw [if_pos h2]
          rw [if_pos (Or.inr (Or.inl h2))] at e
          unfold pN at e
          rw [if_neg (by omega)] at e
          exact e
        · rw [if_neg h2]
          by_cases h3 : pcs T s how (T (176 + 4 * t + 2)) (T 4) = (bp T s how t).2
          · rw [if_pos h3]
            have h5 : pN (bp T s how t).1 = nI (bp T s how t).1 := if_neg h1
            simp (disch := omega) only [h5, nI_leI]
            by_cases h4 : (bp T s how t).1 ≤ T (176 + 4 * t + 2)
            · rw [if_pos h4]
              rw [if_neg (by omega), h5] at e
              exact e
            · rw [if_neg h4]
              rw [if_pos (by omega)] at e
              unfold pN at e
              rw [if_neg (by omega)] at e
              exact e
          · rw [if_neg h3]
            rw [if_neg (by omega)] at e
            exact e
    · rw [if_neg hc] at e
      simp (disch := omega) only [mk_oO o_224, mk_gI f_224_0, mk_pI f_224_0, mk_gR f_224_1, mk_gR f_224_2, mk_gR f_224_3, mk_gR f_224_4, mk_gR f_224_5, mk_gI f_224_6, mk_pI f_224_6, mk_gR f_224_7, mk_gI f_224_8, mk_pI f_224_8, mk_gI f_224_9, mk_pI f_224_9, mk_gI f_224_10, mk_pI f_224_10, mk_gI f_224_11, mk_pI f_224_11, mk_gI f_224_12, mk_pI f_224_12, mk_gI f_224_13, mk_pI f_224_13, mk_gL f_224_14, mk_pL f_224_14, mk_gI f_224_15, mk_pI f_224_15, mk_gI f_224_16, mk_pI f_224_16, mk_gR f_224_17, mk_gR f_224_18, mk_gR f_224_19, mk_gI f_224_20, mk_pI f_224_20, mk_gR f_224_21, mk_gI f_224_22, mk_pI f_224_22, mk_gI f_224_23, mk_pI f_224_23, mk_gI f_224_24, mk_pI f_224_24, mk_gI f_224_25, mk_pI f_224_25, mk_gR f_224_26, mk_gI f_224_27, mk_pI f_224_27, mk_gI f_224_28, mk_pI f_224_28, mk_gR f_224_29, mk_gI f_224_30, mk_pI f_224_30, mk_gI f_224_31, mk_pI f_224_31, mk_gR f_224_32, mk_gI f_224_33, mk_pI f_224_33, ↓m_1, ↓m_2, i_0, i_1, i_2, i_3, i_4, i_6, i_5, i_12, i_11, i_10, i_9999, i_7, i_9, i_8, i_24, i_100, i_56, i_48, i_13, i_176, i_232, i_224, i_32, i_999, i_99, i_900, i_97, i_90, i_30, i_20, i_59, i_14, i_50, i_29, i_22, i_19, i_18, i_17, i_96, i_61, i_57, i_51, i_41, i_26, i_2552, i_255, i_25, i_23, i_21, i_16, i_15, i_122, i_10000, i_31, dzF, obs, b2_some, rz0, rz1, rzb, n01, n01', n10, n01e, nI_add, nI_mul, ↓reduceIte, not_false_eq_true, not_true_eq_false, ite_not, leF, R_now h.1, R_isRowFor hT h hs, if_neg hc]
      exact e
theorem R_bestPrice (hT : VT T) (h : RQ T g I) {s how : Nat} (hs : s < T 3) (hh : how < 10) : mX10_bestPrice (mk n I J) 224 (nI s) (nI how) = some (pN (bp T s how (T 4)).1, mk n I J) := by
  have b0 := hT.1
  unfold mX10_bestPrice
  rw [mk_oO o_224]
  exact R_bestL hT h hs hh (T 4) 0 FU (by omega) (by unfold FU; omega)
theorem rsP_le (hT : VT T) (s : Nat) : rsP T s ≤ 9999 := by
  unfold rsP
  split
  · exact (bp_le hT s 2 (T 4)).1
  · exact (bp_le hT s 1 (T 4)).1
theorem R_byResold (hT : VT T) (h : RQ T g I) {s : Nat} (hs : s < T 3) : mX10_byResold (mk n I J) 224 (nI s) = some (if rsP T s = 0 then fl 41 else lN (rsV T s), mk n (u2 I 224 28 (pN (rsP T s))) J) := by
  have b0 := hT.1
  have b2 := hT.2.1
  have c1 := (bp_le hT s 1 (T 4)).1
  have c2 := (bp_le hT s 2 (T 4)).1
  have c5 := rsP_le hT s
  have c6 := hT.le (56 + 12 * s + 3)
  have h2 : RQ T g (u2 I 224 28 (pN (rsP T s))) := h.fx (Fx_u2 _ _ (by unfold SQ; omega))
  have c7 : T (56 + 12 * s + 3) * rsP T s ≤ 9999 * 9999 := Nat.mul_le_mul c6 c5
  have c8 : T (56 + 12 * s + 3) * rsP T s * (100 - T 8) ≤ 9999 * 9999 * 100 := Nat.mul_le_mul c7 (by omega)
  have key : mX10_byResold_b22 (mk n I J) 224 (nI s) (pN (rsP T s)) = some (if rsP T s = 0 then fl 41 else lN (rsV T s), mk n (u2 I 224 28 (pN (rsP T s))) J) := by
    unfold mX10_byResold_b22 mX10_fails
    by_cases hz : rsP T s = 0
    · simp (disch := omega) only [mk_oO o_224, mk_gI f_224_0, mk_pI f_224_0, mk_gR f_224_1, mk_gR f_224_2, mk_gR f_224_3, mk_gR f_224_4, mk_gR f_224_5, mk_gI f_224_6, mk_pI f_224_6, mk_gR f_224_7, mk_gI f_224_8, mk_pI f_224_8, mk_gI f_224_9, mk_pI f_224_9, mk_gI f_224_10, mk_pI f_224_10, mk_gI f_224_11, mk_pI f_224_11, mk_gI f_224_12, mk_pI f_224_12, mk_gI f_224_13, mk_pI f_224_13, mk_gL f_224_14, mk_pL f_224_14, mk_gI f_224_15, mk_pI f_224_15, mk_gI f_224_16, mk_pI f_224_16, mk_gR f_224_17, mk_gR f_224_18, mk_gR f_224_19, mk_gI f_224_20, mk_pI f_224_20, mk_gR f_224_21, mk_gI f_224_22, mk_pI f_224_22, mk_gI f_224_23, mk_pI f_224_23, mk_gI f_224_24, mk_pI f_224_24, mk_gI f_224_25, mk_pI f_224_25, mk_gR f_224_26, mk_gI f_224_27, mk_pI f_224_27, mk_gI f_224_28, mk_pI f_224_28, mk_gR f_224_29, mk_gI f_224_30, mk_pI f_224_30, mk_gI f_224_31, mk_pI f_224_31, mk_gR f_224_32, mk_gI f_224_33, mk_pI f_224_33, ↓m_1, ↓m_2, i_0, i_1, i_2, i_3, i_4, i_6, i_5, i_12, i_11, i_10, i_9999, i_7, i_9, i_8, i_24, i_100, i_56, i_48, i_13, i_176, i_232, i_224, i_32, i_999, i_99, i_900, i_97, i_90, i_30, i_20, i_59, i_14, i_50, i_29, i_22, i_19, i_18, i_17, i_96, i_61, i_57, i_51, i_41, i_26, i_2552, i_255, i_25, i_23, i_21, i_16, i_15, i_122, i_10000, i_31, dzF, obs, b2_some, rz0, rz1, rzb, n01, n01', n10, n01e, nI_add, nI_mul, ↓reduceIte, not_false_eq_true, not_true_eq_false, ite_not, pN_M1, if_pos hz, fl]
    · have h5 : pN (rsP T s) = nI (rsP T s) := if_neg hz
      rw [h5] at h2 ⊢
      simp (disch := omega) only [mk_oO o_224, mk_gI f_224_0, mk_pI f_224_0, mk_gR f_224_1, mk_gR f_224_2, mk_gR f_224_3, mk_gR f_224_4, mk_gR f_224_5, mk_gI f_224_6, mk_pI f_224_6, mk_gR f_224_7, mk_gI f_224_8, mk_pI f_224_8, mk_gI f_224_9, mk_pI f_224_9, mk_gI f_224_10, mk_pI f_224_10, mk_gI f_224_11, mk_pI f_224_11, mk_gI f_224_12, mk_pI f_224_12, mk_gI f_224_13, mk_pI f_224_13, mk_gL f_224_14, mk_pL f_224_14, mk_gI f_224_15, mk_pI f_224_15, mk_gI f_224_16, mk_pI f_224_16, mk_gR f_224_17, mk_gR f_224_18, mk_gR f_224_19, mk_gI f_224_20, mk_pI f_224_20, mk_gR f_224_21, mk_gI f_224_22, mk_pI f_224_22, mk_gI f_224_23, mk_pI f_224_23, mk_gI f_224_24, mk_pI f_224_24, mk_gI f_224_25, mk_pI f_224_25, mk_gR f_224_26, mk_gI f_224_27, mk_pI f_224_27, mk_gI f_224_28, mk_pI f_224_28, mk_gR f_224_29, mk_gI f_224_30, mk_pI f_224_30, mk_gI f_224_31, mk_pI f_224_31, mk_gR f_224_32, mk_gI f_224_33, mk_pI f_224_33, ↓m_1, ↓m_2, i_0, i_1, i_2, i_3, i_4, i_6, i_5, i_12, i_11, i_10, i_9999, i_7, i_9, i_8, i_24, i_100, i_56, i_48, i_13, i_176, i_232, i_224, i_32, i_999, i_99, i_900, i_97, i_90, i_30, i_20, i_59, i_14, i_50, i_29, i_22, i_19, i_18, i_17, i_96, i_61, i_57, i_51, i_41, i_26, i_2552, i_255, i_25, i_23, i_21, i_16, i_15, i_122, i_10000, i_31, l_0, dzF, obs, b2_some, rz0, rz1, rzb, n01, n01', n10, n01e, nI_add, nI_mul, ↓reduceIte, not_false_eq_true, not_true_eq_false, ite_not, nM1, if_neg hz, R_of h2, R_now h2.1, nI_sub, nI_l, nI_l (hT.l31 _), lN_mul, lF0, lL_div]
      unfold rsV
      rfl
  unfold mX10_byResold
  by_cases h1 : (bp T s 1 (T 4)).1 = 0
  · have e : rsP T s = (bp T s 2 (T 4)).1 := if_pos h1
    rw [e] at key ⊢
    simp (disch := omega) only [mk_oO o_224, mk_gI f_224_0, mk_pI f_224_0, mk_gR f_224_1, mk_gR f_224_2, mk_gR f_224_3, mk_gR f_224_4, mk_gR f_224_5, mk_gI f_224_6, mk_pI f_224_6, mk_gR f_224_7, mk_gI f_224_8, mk_pI f_224_8, mk_gI f_224_9, mk_pI f_224_9, mk_gI f_224_10, mk_pI f_224_10, mk_gI f_224_11, mk_pI f_224_11, mk_gI f_224_12, mk_pI f_224_12, mk_gI f_224_13, mk_pI f_224_13, mk_gL f_224_14, mk_pL f_224_14, mk_gI f_224_15, mk_pI f_224_15, mk_gI f_224_16, mk_pI f_224_16, mk_gR f_224_17, mk_gR f_224_18, mk_gR f_224_19, mk_gI f_224_20, mk_pI f_224_20, mk_gR f_224_21, mk_gI f_224_22, mk_pI f_224_22, mk_gI f_224_23, mk_pI f_224_23, mk_gI f_224_24, mk_pI f_224_24, mk_gI f_224_25, mk_pI f_224_25, mk_gR f_224_26, mk_gI f_224_27, mk_pI f_224_27, mk_gI f_224_28, mk_pI f_224_28, mk_gR f_224_29, mk_gI f_224_30, mk_pI f_224_30, mk_gI f_224_31, mk_pI f_224_31, mk_gR f_224_32, mk_gI f_224_33, mk_pI f_224_33, ↓m_1, ↓m_2, i_0, i_1, i_2, i_3, i_4, i_6, i_5, i_12, i_11, i_10, i_9999, i_7, i_9, i_8, i_24, i_100, i_56, i_48, i_13, i_176, i_232, i_224, i_32, i_999, i_99, i_900, i_97, i_90, i_30, i_20, i_59, i_14, i_50, i_29, i_22, i_19, i_18, i_17, i_96, i_61, i_57, i_51, i_41, i_26, i_2552, i_255, i_25, i_23, i_21, i_16, i_15, i_122, i_10000, i_31, dzF, obs, b2_some, rz0, rz1, rzb, n01, n01', n10, n01e, nI_add, nI_mul, ↓reduceIte, not_false_eq_true, not_true_eq_false, ite_not, R_bestPrice hT h hs, pN_M1, if_pos h1]
    exact key
  · have e : rsP T s = (bp T s 1 (T 4)).1 := if_neg h1
    rw [e] at key ⊢
    simp (disch := omega) only [mk_oO o_224, mk_gI f_224_0, mk_pI f_224_0, mk_gR f_224_1, mk_gR f_224_2, mk_gR f_224_3, mk_gR f_224_4, mk_gR f_224_5, mk_gI f_224_6, mk_pI f_224_6, mk_gR f_224_7, mk_gI f_224_8, mk_pI f_224_8, mk_gI f_224_9, mk_pI f_224_9, mk_gI f_224_10, mk_pI f_224_10, mk_gI f_224_11, mk_pI f_224_11, mk_gI f_224_12, mk_pI f_224_12, mk_gI f_224_13, mk_pI f_224_13, mk_gL f_224_14, mk_pL f_224_14, mk_gI f_224_15, mk_pI f_224_15, mk_gI f_224_16, mk_pI f_224_16, mk_gR f_224_17, mk_gR f_224_18, mk_gR f_224_19, mk_gI f_224_20, mk_pI f_224_20, mk_gR f_224_21, mk_gI f_224_22, mk_pI f_224_22, mk_gI f_224_23, mk_pI f_224_23, mk_gI f_224_24, mk_pI f_224_24, mk_gI f_224_25, mk_pI f_224_25, mk_gR f_224_26, mk_gI f_224_27, mk_pI f_224_27, mk_gI f_224_28, mk_pI f_224_28, mk_gR f_224_29, mk_gI f_224_30, mk_pI f_224_30, mk_gI f_224_31, mk_pI f_224_31, mk_gR f_224_32, mk_gI f_224_33, mk_pI f_224_33, ↓m_1, ↓m_2, i_0, i_1, i_2, i_3, i_4, i_6, i_5, i_12, i_11, i_10, i_9999, i_7, i_9, i_8, i_24, i_100, i_56, i_48, i_13, i_176, i_232, i_224, i_32, i_999, i_99, i_900, i_97, i_90, i_30, i_20, i_59, i_14, i_50, i_29, i_22, i_19, i_18, i_17, i_96, i_61, i_57, i_51, i_41, i_26, i_2552, i_255, i_25, i_23, i_21, i_16, i_15, i_122, i_10000, i_31, dzF, obs, b2_some, rz0, rz1, rzb, n01, n01', n10, n01e, nI_add, nI_mul, ↓reduceIte, not_false_eq_true, not_true_eq_false, ite_not, R_bestPrice hT h hs, pN_M1, if_neg h1]
    rw [if_neg h1] at key
    exact key
theorem mk_num (hT : VT T) {s : Nat} (hs : s < T 3) : T (56 + 12 * s + 3) * mkC T s * (100 + T (24 + 4 * T (56 + 12 * s + 0) + 3)) ≤ 9999 * 9999 * 199 := Nat.mul_le_mul (Nat.mul_le_mul (hT.le _) (hT.le _)) (by have := hT.gp (hT.sg hs); omega)
theorem mkV_le (hT : VT T) {s : Nat} (hs : s < T 3) : mkV T g s ≤ 300000000 := by
  have b0 := hT.1
  unfold mkV
  have c1 := mk_num hT hs
  have c2 := shares_le (g := g) hT s (T 2)
  have c3 := hT.le (56 + 12 * s + 9)
  have c4 := hT.le (56 + 12 * s + 10)
  omega
theorem R_byMaking (hT : VT T) (h : RQ T g I) {s : Nat} (hs : s < T 3) : ∃ I', mX10_byMaking (mk n I J) 224 (nI s) = some (if mkC T s = 0 then fl 51 else lN (mkV T g s), mk n I' J) ∧ Fx SA I I' := by
  have b0 := hT.1
  have c1 := hT.sg hs
  have c2 : T (24 + 4 * T (56 + 12 * s + 0) + 2) < 2 ^ 31 := hT.l31 _
  have c3 := mk_num hT hs
  have c4 := hT.gp (hT.sg hs)
  have c5 := shares_le (g := g) hT s (T 2)
  unfold mX10_byMaking mX10_fails
  by_cases hz : mkC T s = 0
  · refine ⟨I, ?_, Fx.refl I⟩
    have hz' : T (24 + 4 * T (56 + 12 * s + 0) + 2) = 0 := hz
    simp (disch := omega) only [mk_oO o_224, mk_gI f_224_0, mk_pI f_224_0, mk_gR f_224_1, mk_gR f_224_2, mk_gR f_224_3, mk_gR f_224_4, mk_gR f_224_5, mk_gI f_224_6, mk_pI f_224_6, mk_gR f_224_7, mk_gI f_224_8, mk_pI f_224_8, mk_gI f_224_9, mk_pI f_224_9, mk_gI f_224_10, mk_pI f_224_10, mk_gI f_224_11, mk_pI f_224_11, mk_gI f_224_12, mk_pI f_224_12, mk_gI f_224_13, mk_pI f_224_13, mk_gL f_224_14, mk_pL f_224_14, mk_gI f_224_15, mk_pI f_224_15, mk_gI f_224_16, mk_pI f_224_16, mk_gR f_224_17, mk_gR f_224_18, mk_gR f_224_19, mk_gI f_224_20, mk_pI f_224_20, mk_gR f_224_21, mk_gI f_224_22, mk_pI f_224_22, mk_gI f_224_23, mk_pI f_224_23, mk_gI f_224_24, mk_pI f_224_24, mk_gI f_224_25, mk_pI f_224_25, mk_gR f_224_26, mk_gI f_224_27, mk_pI f_224_27, mk_gI f_224_28, mk_pI f_224_28, mk_gR f_224_29, mk_gI f_224_30, mk_pI f_224_30, mk_gI f_224_31, mk_pI f_224_31, mk_gR f_224_32, mk_gI f_224_33, mk_pI f_224_33, ↓m_1, ↓m_2, i_0, i_1, i_2, i_3, i_4, i_6, i_5, i_12, i_11, i_10, i_9999, i_7, i_9, i_8, i_24, i_100, i_56, i_48, i_13, i_176, i_232, i_224, i_32, i_999, i_99, i_900, i_97, i_90, i_30, i_20, i_59, i_14, i_50, i_29, i_22, i_19, i_18, i_17, i_96, i_61, i_57, i_51, i_41, i_26, i_2552, i_255, i_25, i_23, i_21, i_16, i_15, i_122, i_10000, i_31, dzF, obs, b2_some, rz0, rz1, rzb, n01, n01', n10, n01e, nI_add, nI_mul, ↓reduceIte, not_false_eq_true, not_true_eq_false, ite_not, R_of h, R_good h, hz', if_pos hz, fl]
  · obtain ⟨I', e, f⟩ := R_sharesOf (n := n) (J := J) hT h (by omega : s < 10)
    refine ⟨I', ?_, f⟩
    have hz' : ¬ T (24 + 4 * T (56 + 12 * s + 0) + 2) = 0 := hz
    unfold mkC at c3
    simp (disch := omega) only [mk_oO o_224, mk_gI f_224_0, mk_pI f_224_0, mk_gR f_224_1, mk_gR f_224_2, mk_gR f_224_3, mk_gR f_224_4, mk_gR f_224_5, mk_gI f_224_6, mk_pI f_224_6, mk_gR f_224_7, mk_gI f_224_8, mk_pI f_224_8, mk_gI f_224_9, mk_pI f_224_9, mk_gI f_224_10, mk_pI f_224_10, mk_gI f_224_11, mk_pI f_224_11, mk_gI f_224_12, mk_pI f_224_12, mk_gI f_224_13, mk_pI f_224_13, mk_gL f_224_14, mk_pL f_224_14, mk_gI f_224_15, mk_pI f_224_15, mk_gI f_224_16, mk_pI f_224_16, mk_gR f_224_17, mk_gR f_224_18, mk_gR f_224_19, mk_gI f_224_20, mk_pI f_224_20, mk_gR f_224_21, mk_gI f_224_22, mk_pI f_224_22, mk_gI f_224_23, mk_pI f_224_23, mk_gI f_224_24, mk_pI f_224_24, mk_gI f_224_25, mk_pI f_224_25, mk_gR f_224_26, mk_gI f_224_27, mk_pI f_224_27, mk_gI f_224_28, mk_pI f_224_28, mk_gR f_224_29, mk_gI f_224_30, mk_pI f_224_30, mk_gI f_224_31, mk_pI f_224_31, mk_gR f_224_32, mk_gI f_224_33, mk_pI f_224_33, ↓m_1, ↓m_2, i_0, i_1, i_2, i_3, i_4, i_6, i_5, i_12, i_11, i_10, i_9999, i_7, i_9, i_8, i_24, i_100, i_56, i_48, i_13, i_176, i_232, i_224, i_32, i_999, i_99, i_900, i_97, i_90, i_30, i_20, i_59, i_14, i_50, i_29, i_22, i_19, i_18, i_17, i_96, i_61, i_57, i_51, i_41, i_26, i_2552, i_255, i_25, i_23, i_21, i_16, i_15, i_122, i_10000, i_31, l_100, dzF, obs, b2_some, rz0, rz1, rzb, n01, n01', n10, n01e, nI_add, nI_mul, ↓reduceIte, not_false_eq_true, not_true_eq_false, ite_not, R_of h, R_good h, eqF, if_neg hz, e, nI_l, nI_l (hT.l31 _), lN_mul, lN_add, lL_div]
    rfl
end RH
