/-! ===== 64: acts that tell one number anew ===== -/
theorem uT_at (T : Nat → Nat) (k x : Nat) : uT T k x k = x := if_pos rfl
theorem uT_no (T : Nat → Nat) {k j : Nat} (x : Nat) (h : j ≠ k) : uT T k x j = T j := if_neg h
theorem uT_back (T : Nat → Nat) (k x : Nat) : uT (uT T k x) k (T k) = T := by
  funext j
  by_cases h : j = k
  · subst h; rw [uT_at]
  · rw [uT_no _ _ h, uT_no _ _ h]
theorem same.refl (T : Nat → Nat) : same T T := ⟨fun _ _ => rfl, fun _ _ _ _ => rfl, fun _ _ _ _ => rfl, fun _ _ _ _ => rfl, fun _ _ _ _ => rfl, fun _ _ _ _ => rfl, fun _ _ => Iff.rfl⟩
/-- what may be told anew -/
def okS (k v : Nat) : Prop := (k = 6 ∧ v ≤ 50) ∨ (k = 7 ∧ 1 ≤ v ∧ v ≤ 999) ∨ (k = 8 ∧ v ≤ 90) ∨ (k = 9 ∧ v ≤ 99) ∨ (k = 10 ∧ v ≤ 1) ∨ (60 ≤ k ∧ k ≤ 168 ∧ (k - 60) % 12 = 0 ∧ 1 ≤ v ∧ v ≤ 9999) ∨ (62 ≤ k ∧ k ≤ 170 ∧ (k - 62) % 12 = 0 ∧ v ≤ 1) ∨ (49 ≤ k ∧ k ≤ 55 ∧ (k - 49) % 2 = 0 ∧ v ≤ 9999) ∨ (225 ≤ k ∧ k ≤ 231 ∧ (k - 225) % 2 = 0 ∧ v ≤ 90)
set_option maxHeartbeats 4000000 in
theorem VT.set {T : Nat → Nat} (hT : VT T) {k v : Nat} (ho : okS k v) : VT (uT T k v) := by
  have g : ∀ j, (j = k ∧ uT T k v j = v) ∨ (j ≠ k ∧ uT T k v j = T j) := fun j => by
    by_cases h : j = k
    · exact Or.inl ⟨h, if_pos h⟩
    · exact Or.inr ⟨h, if_neg h⟩
  unfold okS at ho
  have g0 := g 0
  have g1 := g 1
  have g2 := g 2
  have g3 := g 3
  have g4 := g 4
  have g5 := g 5
  have g11 := g 11
  have f0 : uT T k v 0 = T 0 := by omega
  have f1 : uT T k v 1 = T 1 := by omega
  have f2 : uT T k v 2 = T 2 := by omega
  have f3 : uT T k v 3 = T 3 := by omega
  have f4 : uT T k v 4 = T 4 := by omega
  have f5 : uT T k v 5 = T 5 := by omega
  have f11 : uT T k v 11 = T 11 := by omega
  clear g0 g1 g2 g3 g4 g5 g11
  obtain ⟨ha, hb, c1, c2, c3, c4, c5, c6, c7, c8⟩ := hT
  refine ⟨?_, ?_, ?_, ?_, ?_, ?_, ?_, ?_, ?_, ?_⟩
  · rw [f0, f1, f2, f3, f4, f5]; exact ha
  · have g6 := g 6
    have g7 := g 7
    have g8 := g 8
    have g9 := g 9
    have g10 := g 10
    omega
  · intro i hi
    have x1 := g (12 + 2 * i)
    have x2 := g (13 + 2 * i)
    have := c1 i (by omega)
    omega
  · intro i l hil hl
    have x1 := g (12 + 2 * i)
    have x2 := g (13 + 2 * i)
    have x3 := g (12 + 2 * l)
    have x4 := g (13 + 2 * l)
    have := c2 i l hil (by omega)
    rw [show uT T k v (12 + 2 * i) = T (12 + 2 * i) by omega, show uT T k v (13 + 2 * i) = T (13 + 2 * i) by omega, show uT T k v (12 + 2 * l) = T (12 + 2 * l) by omega, show uT T k v (13 + 2 * l) = T (13 + 2 * l) by omega]
    exact this
  · intro a h
    have x1 := g (48 + 2 * a)
    have := c3 a (by omega)
    omega
  · intro s hs
    have x0 := g (56 + 12 * s)
    have x1 := g (57 + 12 * s)
    have x2 := g (58 + 12 * s)
    have x3 := g (59 + 12 * s)
    have x4 := g (60 + 12 * s)
    have x5 := g (61 + 12 * s)
    have x6 := g (62 + 12 * s)
    have x7 := g (63 + 12 * s)
    have x11 := g (67 + 12 * s)
    obtain ⟨d0, d1, d2, d3, d4, d5, d6, d7, d8⟩ := c4 s (by omega)
    refine ⟨by clear x1 x2 x3 x4 x5 x6 x7 x11; omega, by clear x0 x2 x3 x4 x5 x6 x7 x11; omega, by clear x0 x1 x3 x4 x5 x6 x7 x11; omega, by clear x0 x1 x2 x4 x5 x6 x7 x11; omega, by clear x0 x1 x2 x3 x5 x6 x7 x11; omega, by clear x0 x1 x2 x3 x4 x6 x7 x11; omega, by clear x0 x1 x2 x3 x4 x5 x7 x11; omega, by clear x0 x1 x2 x3 x4 x5 x6 x11; omega, by clear x0 x1 x2 x3 x4 x5 x6 x7; omega⟩
  · intro r hr
    have x0 := g (176 + 4 * r)
    have x1 := g (177 + 4 * r)
    have x2 := g (178 + 4 * r)
    have x3 := g (179 + 4 * r)
    obtain ⟨d0, d1, d2, d3⟩ := c5 r (by omega)
    exact ⟨by omega, by omega, by omega, by omega⟩
  · intro i hi
    have x0 := g (27 + 4 * i)
    have := c6 i (by omega)
    omega
  · intro b hb
    have x0 := g (225 + 2 * b)
    have := c7 b (by omega)
    omega
  · intro j
    have x0 := g j
    have := c8 j
    omega
theorem told_uT {T : Nat → Nat} {k v : Nat} (hT : T 11 ≤ 6) (hk : k < 11 ∨ 24 ≤ k) (p q : Nat) : told (uT T k v) p q ↔ told T p q := by
  unfold told
  rw [uT_no _ _ (by omega : 11 ≠ k)]
  constructor
  · rintro ⟨i, hi, h⟩
    refine ⟨i, hi, ?_⟩
    rw [uT_no _ _ (by omega), uT_no _ _ (by omega)] at h
    exact h
  · rintro ⟨i, hi, h⟩
    refine ⟨i, hi, ?_⟩
    rw [uT_no _ _ (by omega), uT_no _ _ (by omega)]
    exact h
/-- one number of the world told anew -/
def plc (k c j : Nat) : Prop := (6 ≤ k ∧ k ≤ 10 ∧ c = 1 ∧ j = k) ∨ (∃ s i, s < 10 ∧ i < 12 ∧ k = 56 + 12 * s + i ∧ c = 16 + s ∧ j = i) ∨ (∃ s i, s < 4 ∧ i < 2 ∧ k = 48 + 2 * s + i ∧ c = 11 + s ∧ j = i) ∨ (∃ s i, s < 4 ∧ i < 2 ∧ k = 224 + 2 * s + i ∧ c = 41 + s ∧ j = i)
set_option maxHeartbeats 4000000 in
theorem WR.set {I : Nat → Nat → Int32} {T : Nat → Nat} {b k c j v : Nat} (hT : VT T) (h : WR I b T) (hp : plc k c j) : WR (u2 I (b + c) j (nI v)) b (uT T k v) := by
  obtain ⟨⟨v0, v1, v2, v3, v4, v5⟩, v6, -⟩ := hT
  obtain ⟨h1, h2, h3, h4, h5, h6, h7, h8⟩ := h
  have hk : 6 ≤ k ∧ (k < 11 ∨ 48 ≤ k) ∧ ¬ (176 ≤ k ∧ k < 224) := by
    rcases hp with hp | ⟨s, i, hs, hi, e1, e2, e3⟩ | ⟨s, i, hs, hi, e1, e2, e3⟩ | ⟨s, i, hs, hi, e1, e2, e3⟩ <;> omega
  have f1 : uT T k v 1 = T 1 := uT_no _ _ (by omega)
  have f2 : uT T k v 2 = T 2 := uT_no _ _ (by omega)
  have f3 : uT T k v 3 = T 3 := uT_no _ _ (by omega)
  have f4 : uT T k v 4 = T 4 := uT_no _ _ (by omega)
  have f5 : uT T k v 5 = T 5 := uT_no _ _ (by omega)
  have key : ∀ c' j' k', (k' = k ∧ c' = c ∧ j' = j) ∨ (k' ≠ k ∧ ¬ (c' = c ∧ j' = j)) → I (b + c') j' = nI (T k') → u2 I (b + c) j (nI v) (b + c') j' = nI (uT T k v k') := by
    intro c' j' k' hc e
    rcases hc with ⟨rfl, rfl, rfl⟩ | ⟨z1, z2⟩
    · rw [u2_at, uT_at]
    · rw [u2_no _ _ (by omega), uT_no _ _ z1]; exact e
  refine ⟨fun i hi => ?_, ?_, fun g i hg hi => ?_, fun a i ha hi => ?_, fun s i hs hi => ?_, fun r i hr hi => ?_, fun q i hq hi => ?_, fun p hp' => ?_⟩
  · refine key 1 i i ?_ (h1 i hi)
    rcases hp with hp | ⟨s', i', hs', hi', e1, e2, e3⟩ | ⟨s', i', hs', hi', e1, e2, e3⟩ | ⟨s', i', hs', hi', e1, e2, e3⟩ <;> omega
  · refine key 1 13 11 ?_ h2
    rcases hp with hp | ⟨s', i', hs', hi', e1, e2, e3⟩ | ⟨s', i', hs', hi', e1, e2, e3⟩ | ⟨s', i', hs', hi', e1, e2, e3⟩ <;> omega
  · rw [f1] at hg
    rw [Nat.add_assoc]
    refine key (4 + g) i _ ?_ (by rw [← Nat.add_assoc]; exact h3 g i hg hi)
    rcases hp with hp | ⟨s', i', hs', hi', e1, e2, e3⟩ | ⟨s', i', hs', hi', e1, e2, e3⟩ | ⟨s', i', hs', hi', e1, e2, e3⟩ <;> omega
  · rw [f2] at ha
    rw [Nat.add_assoc]
    refine key (11 + a) i _ ?_ (by rw [← Nat.add_assoc]; exact h4 a i ha hi)
    rcases hp with hp | ⟨s', i', hs', hi', e1, e2, e3⟩ | ⟨s', i', hs', hi', e1, e2, e3⟩ | ⟨s', i', hs', hi', e1, e2, e3⟩ <;> omega
  · rw [f3] at hs
    rw [Nat.add_assoc]
    refine key (16 + s) i _ ?_ (by rw [← Nat.add_assoc]; exact h5 s i hs hi)
    rcases hp with hp | ⟨s', i', hs', hi', e1, e2, e3⟩ | ⟨s', i', hs', hi', e1, e2, e3⟩ | ⟨s', i', hs', hi', e1, e2, e3⟩ <;> omega
  · rw [f4] at hr
    rw [Nat.add_assoc]
    refine key (28 + r) i _ ?_ (by rw [← Nat.add_assoc]; exact h6 r i hr hi)
    rcases hp with hp | ⟨s', i', hs', hi', e1, e2, e3⟩ | ⟨s', i', hs', hi', e1, e2, e3⟩ | ⟨s', i', hs', hi', e1, e2, e3⟩ <;> omega
  · rw [f5] at hq
    rw [Nat.add_assoc]
    refine key (41 + q) i _ ?_ (by rw [← Nat.add_assoc]; exact h7 q i hq hi)
    rcases hp with hp | ⟨s', i', hs', hi', e1, e2, e3⟩ | ⟨s', i', hs', hi', e1, e2, e3⟩ | ⟨s', i', hs', hi', e1, e2, e3⟩ <;> omega
  · obtain ⟨m, m1, m2, m3⟩ := h8 p hp'
    refine ⟨m, m1, ?_, fun q hq => by rw [told_uT (by omega) (by omega)]; exact m3 q hq⟩
    rw [u2_no _ _ (by rcases hp with hp | ⟨s', i', hs', hi', e1, e2, e3⟩ | ⟨s', i', hs', hi', e1, e2, e3⟩ | ⟨s', i', hs', hi', e1, e2, e3⟩ <;> omega)]
    exact m2
theorem NR.set {I : Nat → Nat → Int32} {T : Nat → Nat} {k v : Nat} (h : NR I 225 0 T) : NR (u2 I 225 k (nI v)) 225 0 (uT T k v) := by
  intro j hj
  rw [Nat.zero_add]
  by_cases hjk : j = k
  · subst hjk; rw [u2_at, uT_at]
  · rw [u2_no _ _ (by omega), uT_no _ _ hjk]
    exact h.at hj
section AS
variable {n : Nat} {J : Nat → Nat → Int64} {T : Nat → Nat}
theorem R_sets {I : Nat → Nat → Int32} {u k v : Nat} (hT : VT T) (hN : NR I 225 0 T) (hk : k < 232) (hv : v ≤ 9999) (hne : T k ≠ v) (hu : u ≤ 12) (e2 : I 224 6 = nI u) : ∃ I', mX10_sets (mk n I J) 224 (nI k) (nI v) = some (nI (T k), mk n (u2 I' 225 k (nI v)) J) ∧ (∀ a c, a ≠ 227 → ¬ (a = 224 ∧ c = 6) → I' a c = I a c) ∧ I' 224 6 = nI (min (u + 1) 12) ∧ (∀ j, j < 232 → I' 227 (232 * min u 11 + j) = I 225 j) ∧ ∀ i j, i < min u 11 → j < 232 → I' 227 (232 * i + j) = I 227 (232 * (if u = 12 then i + 1 else i) + j) := by
  obtain ⟨I', e, r⟩ := R_acts (n := n) (J := J) hu e2
  refine ⟨I', ?_, r⟩
  have := hT.le k
  unfold mX10_sets
  simp (disch := omega) only [mk_oO o_224, mk_gI f_224_0, mk_pI f_224_0, mk_gR f_224_1, mk_gR f_224_2, mk_gR f_224_3, mk_gR f_224_4, mk_gR f_224_5, mk_gI f_224_6, mk_pI f_224_6, mk_gR f_224_7, mk_gI f_224_8, mk_pI f_224_8, mk_gI f_224_9, mk_pI f_224_9, mk_gI f_224_10, mk_pI f_224_10, mk_gI f_224_11, mk_pI f_224_11, mk_gI f_224_12, mk_pI f_224_12, mk_gI f_224_13, mk_pI f_224_13, mk_gL f_224_14, mk_pL f_224_14, mk_gI f_224_15, mk_pI f_224_15, mk_gI f_224_16, mk_pI f_224_16, mk_gR f_224_17, mk_gR f_224_18, mk_gR f_224_19, mk_gI f_224_20, mk_pI f_224_20, mk_gR f_224_21, mk_gI f_224_22, mk_pI f_224_22, mk_gI f_224_23, mk_pI f_224_23, mk_gI f_224_24, mk_pI f_224_24, mk_gI f_224_25, mk_pI f_224_25, mk_gR f_224_26, mk_gI f_224_27, mk_pI f_224_27, mk_gI f_224_28, mk_pI f_224_28, mk_gR f_224_29, mk_gI f_224_30, mk_pI f_224_30, mk_gI f_224_31, mk_pI f_224_31, mk_gR f_224_32, mk_gI f_224_33, mk_pI f_224_33, ↓m_1, ↓m_2, i_0, i_1, i_2, i_3, i_4, i_6, i_5, i_12, i_11, i_10, i_9999, i_7, i_9, i_8, i_24, i_100, i_56, i_48, i_13, i_176, i_232, i_224, i_32, i_999, i_99, i_900, i_97, i_90, i_30, i_20, i_59, i_14, i_50, i_29, i_22, i_19, i_18, i_17, i_96, i_61, i_57, i_51, i_41, i_26, i_2552, i_255, i_25, i_23, i_21, i_16, i_15, i_122, i_10000, i_31, dzF, obs, b2_some, rz0, rz1, rzb, n01, n01', n10, n01e, nI_add, nI_mul, ↓reduceIte, not_false_eq_true, not_true_eq_false, ite_not, R_now hN, eqF, e, mk_sIn a_225]
theorem R_setsF {I : Nat → Nat → Int32} {k : Nat} (hN : NR I 225 0 T) (hk : k < 232) : mX10_sets (mk n I J) 224 (nI k) (nI (T k)) = some (M1, mk n I J) := by
  unfold mX10_sets
  simp (disch := omega) only [mk_oO o_224, mk_gI f_224_0, mk_pI f_224_0, mk_gR f_224_1, mk_gR f_224_2, mk_gR f_224_3, mk_gR f_224_4, mk_gR f_224_5, mk_gI f_224_6, mk_pI f_224_6, mk_gR f_224_7, mk_gI f_224_8, mk_pI f_224_8, mk_gI f_224_9, mk_pI f_224_9, mk_gI f_224_10, mk_pI f_224_10, mk_gI f_224_11, mk_pI f_224_11, mk_gI f_224_12, mk_pI f_224_12, mk_gI f_224_13, mk_pI f_224_13, mk_gL f_224_14, mk_pL f_224_14, mk_gI f_224_15, mk_pI f_224_15, mk_gI f_224_16, mk_pI f_224_16, mk_gR f_224_17, mk_gR f_224_18, mk_gR f_224_19, mk_gI f_224_20, mk_pI f_224_20, mk_gR f_224_21, mk_gI f_224_22, mk_pI f_224_22, mk_gI f_224_23, mk_pI f_224_23, mk_gI f_224_24, mk_pI f_224_24, mk_gI f_224_25, mk_pI f_224_25, mk_gR f_224_26, mk_gI f_224_27, mk_pI f_224_27, mk_gI f_224_28, mk_pI f_224_28, mk_gR f_224_29, mk_gI f_224_30, mk_pI f_224_30, mk_gI f_224_31, mk_pI f_224_31, mk_gR f_224_32, mk_gI f_224_33, mk_pI f_224_33, ↓m_1, ↓m_2, i_0, i_1, i_2, i_3, i_4, i_6, i_5, i_12, i_11, i_10, i_9999, i_7, i_9, i_8, i_24, i_100, i_56, i_48, i_13, i_176, i_232, i_224, i_32, i_999, i_99, i_900, i_97, i_90, i_30, i_20, i_59, i_14, i_50, i_29, i_22, i_19, i_18, i_17, i_96, i_61, i_57, i_51, i_41, i_26, i_2552, i_255, i_25, i_23, i_21, i_16, i_15, i_122, i_10000, i_31, dzF, obs, b2_some, rz0, rz1, rzb, n01, n01', n10, n01e, nI_add, nI_mul, ↓reduceIte, not_false_eq_true, not_true_eq_false, ite_not, R_now hN]
/-- both have set one number: the end -/
theorem INV.setA {I I1 I2 I3 : Nat → Nat → Int32} (hI : INV I J) {u nx : Nat} {P : Nat → Nat → Nat} (hT : VT T) (hN : NR I 225 0 T) (hW : WR I 3 T) (hTP : TP I) (hM : NM J T) (hK0 : KP I J T 0 134) (hK1 : KP I J T 1 179) (hG : GR J) (hg : I 224 23 = -1) (u1 : u ≤ 12) (nx1 : nx < 12) (hP0 : P 0 = T) (hP : ∀ j, j < u → VT (P (j + 1)) ∧ P (j + 1) 3 = T 3 ∧ NR I 227 (232 * (u - 1 - j)) (P (j + 1)) ∧ actR (I (120 + (nx + 23 - j) % 12)) (P j) (P (j + 1)))
    {k c j v : Nat} (ho : okS k v) (hp : plc k c j) (hI1 : I1 = u2 I (3 + c) j (nI v)) (hc : c ≤ 44)
    (f1 : ∀ a c, a ≠ 118 → a ≠ 120 + nx → I2 a c = I1 a c) (e1 : I2 118 1 = nI ((nx + 1) % 12)) (e2 : I2 118 2 = nI (min (u + 1) 12)) (hact : actR (I2 (120 + nx)) (uT T k v) T)
    {x : Int32} (f2 : ∀ a c, a ≠ 227 → ¬ (a = 224 ∧ c = 6) → I3 a c = u2 I2 224 0 x a c) (e3 : I3 224 6 = nI (min (u + 1) 12)) (e5 : ∀ j, j < 232 → I3 227 (232 * min u 11 + j) = u2 I2 224 0 x 225 j) (e6 : ∀ i j, i < min u 11 → j < 232 → I3 227 (232 * i + j) = u2 I2 224 0 x 227 (232 * (if u = 12 then i + 1 else i) + j)) : INV (u2 I3 225 k (nI v)) J := by
  have hk : k < 232 := by unfold okS at ho; omega
  have hk3 : k ≠ 3 := by unfold okS at ho; omega
  have g : ∀ a c', a ≠ 227 → ¬ (a = 224 ∧ c' = 6) → ¬ (a = 224 ∧ c' = 0) → a ≠ 118 → a ≠ 120 + nx → a ≠ 225 → u2 I3 225 k (nI v) a c' = I1 a c' := fun a c' h1 h2 h3 h4 h5 h6 => by
    rw [u2_no _ _ (by omega), f2 a c' h1 h2, u2_no _ _ (by omega), f1 a c' h4 h5]
  have g' : ∀ a c', a ≠ 227 → ¬ (a = 224 ∧ c' = 6) → ¬ (a = 224 ∧ c' = 0) → a ≠ 118 → a ≠ 120 + nx → a ≠ 225 → a ≠ 3 + c → u2 I3 225 k (nI v) a c' = I a c' := fun a c' h1 h2 h3 h4 h5 h6 h7 => by
    rw [g a c' h1 h2 h3 h4 h5 h6, hI1, u2_no _ _ (by omega)]
  refine INV.act hT hN hTP hM hK0 hK1 hG hg u1 nx1 hP0 hP (hT.set ho) (uT_no _ _ (by omega)) ?_ ?_ ?_ ?_ ?_ ?_ (fun i c' hi hn => ?_) (fun j' hj => ?_) (fun i j' hi hj => ?_) (fun a c' hr h1 h2 h3 h4 h5 => ?_)
  · refine NR.set (fun j' hj => ?_)
    rw [Nat.zero_add, f2 _ _ (by omega) (by omega), u2_no _ _ (by omega), f1 _ _ (by omega) (by omega), hI1, u2_no _ _ (by omega)]
    exact hN.at hj
  · refine WR.scr (I := I1) (hT.set ho) (by rw [hI1]; exact hW.set hT hp) (fun a c' h1 h2 => ?_)
    exact g a c' (by omega) (by omega) (by omega) (by omega) (by omega) (by omega)
  · rw [show u2 I3 225 k (nI v) (120 + nx) = I2 (120 + nx) from funext fun c' => by rw [u2_no _ _ (by omega), f2 _ _ (by omega) (by omega), u2_no _ _ (by omega)]]
    exact hact
  · rw [u2_no _ _ (by omega), f2 _ _ (by omega) (by omega), u2_no _ _ (by omega)]; exact e1
  · rw [u2_no _ _ (by omega), f2 _ _ (by omega) (by omega), u2_no _ _ (by omega)]; exact e2
  · rw [u2_no _ _ (by omega)]; exact e3
  · exact g' _ _ (by omega) (by omega) (by omega) (by omega) (by omega) (by omega) (by omega)
  · rw [u2_no _ _ (by omega), e5 j' hj, u2_no _ _ (by omega), f1 _ _ (by omega) (by omega), hI1, u2_no _ _ (by omega)]
  · rw [u2_no _ _ (by omega), e6 i j' hi hj, u2_no _ _ (by omega), f1 _ _ (by omega) (by omega), hI1, u2_no _ _ (by omega)]
  · exact g' _ _ (by omega) (by omega) (by unfold relI at hr; omega) (by omega) (by omega) (by omega) (by omega)
end AS
