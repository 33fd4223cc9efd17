/-! ===== 67: relate ===== -/
section RL
variable {n : Nat} {I : Nat → Nat → Int32} {J : Nat → Nat → Int64} {T T' : Nat → Nat}
/-- bounds where only pairs change -/
theorem VT.pairs (hT : VT T) (h1 : ∀ k, k < 11 → T' k = T k) (h2 : ∀ k, 24 ≤ k → T' k = T k) (h3 : T' 11 ≤ 6) (h4 : ∀ k, k < T' 11 → T' (12 + 2 * k) < T 0 ∧ T' (13 + 2 * k) < T 0 ∧ T' (12 + 2 * k) ≠ T' (13 + 2 * k)) (h5 : ∀ k l, k < l → l < T' 11 → ¬ ((T' (12 + 2 * k) = T' (12 + 2 * l) ∧ T' (13 + 2 * k) = T' (13 + 2 * l)) ∨ (T' (12 + 2 * k) = T' (13 + 2 * l) ∧ T' (13 + 2 * k) = T' (12 + 2 * l)))) (h6 : ∀ k, T' k ≤ 9999) : VT T' := by
  obtain ⟨ha, hb, c1, c2, c3, c4, c5, c6, c7, c8⟩ := hT
  have e0 := h1 0 (by omega)
  have e1 := h1 1 (by omega)
  have e2 := h1 2 (by omega)
  have e3 := h1 3 (by omega)
  have e4 := h1 4 (by omega)
  have e5 := h1 5 (by omega)
  refine ⟨by rw [e0, e1, e2, e3, e4, e5]; exact ha, ?_, fun k hk => by rw [e0]; exact h4 k hk, h5, fun a h => ?_, fun s hs => ?_, fun r hr => ?_, fun g hg => ?_, fun b hb' => ?_, h6⟩
  · rw [h1 6 (by omega), h1 7 (by omega), h1 8 (by omega), h1 9 (by omega), h1 10 (by omega)]
    exact ⟨hb.1, hb.2.1, hb.2.2.1, hb.2.2.2.1, hb.2.2.2.2.1, hb.2.2.2.2.2.1, h3⟩
  · rw [h2 _ (by omega)]; exact c3 a (by omega)
  · rw [e0, e1, h2 _ (by omega), h2 _ (by omega), h2 _ (by omega), h2 _ (by omega), h2 _ (by omega), h2 _ (by omega), h2 _ (by omega), h2 _ (by omega), h2 _ (by omega)]
    exact c4 s (by omega)
  · rw [e1, h2 _ (by omega), h2 _ (by omega), h2 _ (by omega), h2 _ (by omega)]
    exact c5 r (by omega)
  · rw [h2 _ (by omega)]; exact c6 g (by omega)
  · rw [h2 _ (by omega)]; exact c7 b (by omega)
theorem VT.ad (hT : VT T) {p q : Nat} (hp : p < T 0) (hq : q < T 0) (hpq : p ≠ q) (h11 : T 11 < 6) (ht : ¬ told T p q) : VT (adP T p q) := by
  have b0 := hT.1
  have c := adP_cases T p q
  have e11 : adP T p q 11 = T 11 + 1 := by have := c 11; omega
  refine hT.pairs (fun k hk => ?_) (fun k hk => ?_) (by omega) (fun k hk => ?_) (fun k l hkl hl => ?_) (fun k => ?_)
  · have := c k; omega
  · have := c k; omega
  · have a1 := c (12 + 2 * k)
    have a2 := c (13 + 2 * k)
    by_cases hk1 : k = T 11
    · omega
    · have := hT.2.2.1 k (by omega)
      omega
  · have a1 := c (12 + 2 * k)
    have a2 := c (13 + 2 * k)
    have a3 := c (12 + 2 * l)
    have a4 := c (13 + 2 * l)
    by_cases hl1 : l = T 11
    · have b1 : adP T p q (12 + 2 * k) = T (12 + 2 * k) := by omega
      have b2 : adP T p q (13 + 2 * k) = T (13 + 2 * k) := by omega
      have b3 : adP T p q (12 + 2 * l) = p := by omega
      have b4 : adP T p q (13 + 2 * l) = q := by omega
      rw [b1, b2, b3, b4]
      exact fun z => ht ⟨k, by omega, z⟩
    · have := hT.2.2.2.1 k l hkl (by omega)
      rw [show adP T p q (12 + 2 * k) = T (12 + 2 * k) by omega, show adP T p q (13 + 2 * k) = T (13 + 2 * k) by omega, show adP T p q (12 + 2 * l) = T (12 + 2 * l) by omega, show adP T p q (13 + 2 * l) = T (13 + 2 * l) by omega]
      exact this
  · have := c k
    have := hT.le k
    omega
theorem VT.rm (hT : VT T) {k : Nat} (hk : k < T 11) : VT (rmP T k) := by
  have b0 := hT.1
  have h11 : T 11 ≤ 6 := hT.2.1.2.2.2.2.2.2
  have c := rmP_cases T k
  have e11 : rmP T k 11 = T 11 - 1 := by have := c 11; omega
  have at1 : ∀ i, i < T 11 - 1 → ∃ i', i' < T 11 ∧ (i' = i ∨ i' = i + 1) ∧ (i < k → i' = i) ∧ (k ≤ i → i' = i + 1) ∧ rmP T k (12 + 2 * i) = T (12 + 2 * i') ∧ rmP T k (13 + 2 * i) = T (13 + 2 * i') := by
    intro i hi
    have a1 := c (12 + 2 * i)
    have a2 := c (13 + 2 * i)
    by_cases hik : i < k
    · exact ⟨i, by omega, Or.inl rfl, fun _ => rfl, fun _ => by omega, by omega, by omega⟩
    · exact ⟨i + 1, by omega, Or.inr rfl, fun _ => by omega, fun _ => rfl, by rw [show 12 + 2 * (i + 1) = 12 + 2 * i + 2 by omega]; omega, by rw [show 13 + 2 * (i + 1) = 13 + 2 * i + 2 by omega]; omega⟩
  refine hT.pairs (fun i hi => ?_) (fun i hi => ?_) (by omega) (fun i hi => ?_) (fun i l hil hl => ?_) (fun i => ?_)
  · have := c i; omega
  · have := c i; omega
  · obtain ⟨i', h1, -, -, -, h5, h6⟩ := at1 i (by omega)
    rw [h5, h6]
    exact hT.2.2.1 i' h1
  · obtain ⟨i', h1, h2, h3, h4, h5, h6⟩ := at1 i (by omega)
    obtain ⟨l', g1, g2, g3, g4, g5, g6⟩ := at1 l (by omega)
    rw [h5, h6, g5, g6]
    exact hT.2.2.2.1 i' l' (by omega) g1
  · have := c i
    have := hT.le i
    have := hT.le (i + 2)
    omega
/-- the reference finds a pair -/
theorem R_pairL {r : Nat} (hr : isI r 0 232 = true) (hN : NR I r 0 T) (h11 : T 11 ≤ 6) (hb : ∀ k, T k ≤ 9999) {p q : Nat} (hp : p < 6) (hq : q < 6) : ∀ (k t fu : Nat), t + k = T 11 → k < fu → (∃ i, t ≤ i ∧ i < T 11 ∧ pr2 p q (T (12 + 2 * i)) (T (13 + 2 * i)) ∧ mX10_pairOf_L2 fu (mk n I J) r (nI p) (nI q) (nI t) = some (nI i, mk n I J)) ∨ ((∀ i, t ≤ i → i < T 11 → ¬ pr2 p q (T (12 + 2 * i)) (T (13 + 2 * i))) ∧ mX10_pairOf_L2 fu (mk n I J) r (nI p) (nI q) (nI t) = some (M1, mk n I J)) := by
  have rd : ∀ j, j < 232 → aI 0 (mk n I J) r (nI j) = some (nI (T j)) := fun j hj => by
    rw [mk_aIn hr hj (by decide)]
    have := hN j hj
    rw [Nat.zero_add] at this
    rw [this]
  intro k
  induction k with
  | zero =>
    intro t fu ht hf
    obtain ⟨fu, rfl⟩ : ∃ f, fu = f + 1 := ⟨fu - 1, by omega⟩
    refine Or.inr ⟨fun i h1 h2 => by omega, ?_⟩
    show mX10_pairOf_b2 _ _ _ _ _ _ = _
    unfold mX10_pairOf_b2
    simp (disch := omega) only [↓m_1, ↓m_2, i_0, i_1, i_2, i_3, i_4, i_6, i_5, i_12, i_11, i_10, i_9999, i_7, i_9, i_8, i_24, i_100, i_56, i_48, i_13, i_176, i_232, i_224, i_32, i_999, i_99, i_900, i_97, i_90, i_30, i_20, i_59, i_14, i_50, i_29, i_22, i_19, i_18, i_17, i_96, i_61, i_57, i_51, i_41, i_26, i_2552, i_255, i_25, i_23, i_21, i_16, i_15, i_122, i_10000, i_31, dzF, obs, b2_some, rz0, rz1, rzb, n01, n01', n10, n01e, nI_add, nI_mul, ↓reduceIte, not_false_eq_true, not_true_eq_false, ite_not, rd, leT]
  | succ k ih =>
    intro t fu ht hf
    obtain ⟨fu, rfl⟩ : ∃ f, fu = f + 1 := ⟨fu - 1, by omega⟩
    have b1 := hb (12 + 2 * t)
    have b2 := hb (12 + 2 * t + 1)
    have e0 : mX10_pairOf_L2 (fu + 1) (mk n I J) r (nI p) (nI q) (nI t) = if pr2 p q (T (12 + 2 * t)) (T (13 + 2 * t)) then some (nI t, mk n I J) else mX10_pairOf_L2 fu (mk n I J) r (nI p) (nI q) (nI (t + 1)) := by
      show mX10_pairOf_b2 _ _ _ _ _ _ = _
      unfold mX10_pairOf_b2 mX10_pairOf_b44
      rw [show 13 + 2 * t = 12 + 2 * t + 1 by omega]
      simp (disch := omega) only [↓m_1, ↓m_2, i_0, i_1, i_2, i_3, i_4, i_6, i_5, i_12, i_11, i_10, i_9999, i_7, i_9, i_8, i_24, i_100, i_56, i_48, i_13, i_176, i_232, i_224, i_32, i_999, i_99, i_900, i_97, i_90, i_30, i_20, i_59, i_14, i_50, i_29, i_22, i_19, i_18, i_17, i_96, i_61, i_57, i_51, i_41, i_26, i_2552, i_255, i_25, i_23, i_21, i_16, i_15, i_122, i_10000, i_31, dzF, obs, b2_some, rz0, rz1, rzb, n01, n01', n10, n01e, nI_add, nI_mul, ↓reduceIte, not_false_eq_true, not_true_eq_false, ite_not, rd, leF, nI_eq]
      by_cases h1 : T (12 + 2 * t) = p
      · by_cases h2 : T (12 + 2 * t + 1) = q
        · rw [if_pos h1, if_pos h2, if_pos (Or.inl ⟨h1, h2⟩)]
        · rw [if_pos h1, if_neg h2]
          by_cases h3 : T (12 + 2 * t) = q
          · by_cases h4 : T (12 + 2 * t + 1) = p
            · rw [if_pos h3, if_pos h4, if_pos (Or.inr ⟨h3, h4⟩)]
            · rw [if_pos h3, if_neg h4, if_neg (by rintro (z | z) <;> omega)]
          · rw [if_neg h3, if_neg (by rintro (z | z) <;> omega)]
      · rw [if_neg h1]
        by_cases h3 : T (12 + 2 * t) = q
        · by_cases h4 : T (12 + 2 * t + 1) = p
          · rw [if_pos h3, if_pos h4, if_pos (Or.inr ⟨h3, h4⟩)]
          · rw [if_pos h3, if_neg h4, if_neg (by rintro (z | z) <;> omega)]
        · rw [if_neg h3, if_neg (by rintro (z | z) <;> omega)]
    by_cases hm : pr2 p q (T (12 + 2 * t)) (T (13 + 2 * t))
    · rw [if_pos hm] at e0
      exact Or.inl ⟨t, Nat.le_refl _, by omega, hm, e0⟩
    · rw [if_neg hm] at e0
      rcases ih (t + 1) fu (by omega) (by omega) with ⟨i, h1, h2, h3, h4⟩ | ⟨h1, h2⟩
      · exact Or.inl ⟨i, by omega, h2, h3, e0.trans h4⟩
      · refine Or.inr ⟨fun i k1 k2 => ?_, e0.trans h2⟩
        by_cases hit : i = t
        · subst hit; exact hm
        · exact h1 i (by omega) k2
theorem pr2_told {p q k : Nat} (hk : k < T 11) (h : pr2 p q (T (12 + 2 * k)) (T (13 + 2 * k))) : told T p q := ⟨k, hk, by unfold pr2 at h; omega⟩
theorem R_pairOf {r : Nat} (hr : isI r 0 232 = true) (hN : NR I r 0 T) (h11 : T 11 ≤ 6) (hb : ∀ k, T k ≤ 9999) {p q : Nat} (hp : p < 6) (hq : q < 6) : (∃ i, i < T 11 ∧ pr2 p q (T (12 + 2 * i)) (T (13 + 2 * i)) ∧ told T p q ∧ mX10_pairOf (mk n I J) r (nI p) (nI q) = some (nI i, mk n I J)) ∨ (¬ told T p q ∧ mX10_pairOf (mk n I J) r (nI p) (nI q) = some (M1, mk n I J)) := by
  rcases R_pairL (n := n) (J := J) hr hN h11 hb hp hq (T 11) 0 FU (by omega) (by unfold FU; omega) with ⟨i, -, h2, h3, h4⟩ | ⟨h1, h2⟩
  · exact Or.inl ⟨i, h2, h3, pr2_told h2 h3, h4⟩
  · refine Or.inr ⟨?_, h2⟩
    rintro ⟨k, hk, h⟩
    exact h1 k (Nat.zero_le _) hk (by unfold pr2; omega)
/-- pairs behind one move up -/
theorem R_rmL {k0 : Nat} : ∀ (k t fu : Nat) (I : Nat → Nat → Int32), t + k = 22 → k < fu → ∃ I', mX10_relate_L150 fu (mk n I J) 224 (nI t) = (gR 10 1 (mk n I' J) 224).bind (fun v180 => (aI 0 (mk n I' J) v180 (11 : Int32)).bind fun v186 => (sI (mk n I' J) v180 (11 : Int32) (v186 - (1 : Int32))).bind fun h189 => rz (1 : Int32) h189) ∧ (∀ a c, ¬ (a = 225 ∧ t ≤ c ∧ c < 22) → I' a c = I a c) ∧ ∀ j, t ≤ j → j < 22 → I' 225 j = I 225 (j + 2) := by
  intro k
  induction k with
  | zero =>
    intro t fu I ht hf
    obtain ⟨fu, rfl⟩ : ∃ f, fu = f + 1 := ⟨fu - 1, by omega⟩
    refine ⟨I, ?_, fun _ _ _ => rfl, fun j h1 h2 => by omega⟩
    show mX10_relate_b150 _ _ _ _ = _
    unfold mX10_relate_b150
    rw [i_22, if_pos (nI_le (by omega) (by omega))]
  | succ k ih =>
    intro t fu I ht hf
    obtain ⟨fu, rfl⟩ : ∃ f, fu = f + 1 := ⟨fu - 1, by omega⟩
    obtain ⟨I', e, f, g⟩ := ih (t + 1) fu (u2 I 225 t (I 225 (t + 2))) (by omega) (by omega)
    refine ⟨I', ?_, fun a c hn => ?_, fun j hj1 hj2 => ?_⟩
    · rw [← e]
      show mX10_relate_b150 _ _ _ _ = _
      unfold mX10_relate_b150
      rw [i_22, if_neg (nI_ge (by omega) (by omega))]
      simp (disch := omega) only [mk_oO o_224, mk_gI f_224_0, mk_pI f_224_0, mk_gR f_224_1, mk_gR f_224_2, mk_gR f_224_3, mk_gR f_224_4, mk_gR f_224_5, mk_gI f_224_6, mk_pI f_224_6, mk_gR f_224_7, mk_gI f_224_8, mk_pI f_224_8, mk_gI f_224_9, mk_pI f_224_9, mk_gI f_224_10, mk_pI f_224_10, mk_gI f_224_11, mk_pI f_224_11, mk_gI f_224_12, mk_pI f_224_12, mk_gI f_224_13, mk_pI f_224_13, mk_gL f_224_14, mk_pL f_224_14, mk_gI f_224_15, mk_pI f_224_15, mk_gI f_224_16, mk_pI f_224_16, mk_gR f_224_17, mk_gR f_224_18, mk_gR f_224_19, mk_gI f_224_20, mk_pI f_224_20, mk_gR f_224_21, mk_gI f_224_22, mk_pI f_224_22, mk_gI f_224_23, mk_pI f_224_23, mk_gI f_224_24, mk_pI f_224_24, mk_gI f_224_25, mk_pI f_224_25, mk_gR f_224_26, mk_gI f_224_27, mk_pI f_224_27, mk_gI f_224_28, mk_pI f_224_28, mk_gR f_224_29, mk_gI f_224_30, mk_pI f_224_30, mk_gI f_224_31, mk_pI f_224_31, mk_gR f_224_32, mk_gI f_224_33, mk_pI f_224_33, i_2, i_1, dzF, obs, b2_some, rz0, rz1, rzb, n01, n01', n10, n01e, nI_add, nI_mul, ↓reduceIte, not_false_eq_true, not_true_eq_false, ite_not, mk_aIn a_225, mk_sIn a_225]
    · rw [f a c (by omega), u2_no _ _ (by omega)]
    · by_cases hjt : j = t
      · subst hjt
        rw [f 225 j (by omega), u2_at]
      · rw [g j (by omega) hj2, u2_no _ _ (by omega)]
/-- both have told a pair anew: the end -/
theorem INV.relA {I2 I3 I4 : Nat → Nat → Int32} {u nx : Nat} {P : Nat → Nat → Nat} (hI : INVT I J T) (u1 : u ≤ 12) (nx1 : nx < 12) (hP0 : P 0 = T) (hP : ∀ j, j < u → VT (P (j + 1)) ∧ P (j + 1) 3 = T 3 ∧ NR I 227 (232 * (u - 1 - j)) (P (j + 1)) ∧ actR (I (120 + (nx + 23 - j) % 12)) (P j) (P (j + 1)))
    (hT' : VT T') (h3 : T' 3 = T 3) (hW2 : WR I2 3 T') (hact : actR (I2 (120 + nx)) T' T)
    (f1 : ∀ a c, ¬ (3 ≤ a ∧ a ≤ 47) → a ≠ 118 → a ≠ 120 + nx → I2 a c = I a c) (e1 : I2 118 1 = nI ((nx + 1) % 12)) (e2 : I2 118 2 = nI (min (u + 1) 12))
    {x : Int32} (f2 : ∀ a c, a ≠ 227 → ¬ (a = 224 ∧ c = 6) → I3 a c = u2 I2 224 0 x a c) (e3 : I3 224 6 = nI (min (u + 1) 12)) (e5 : ∀ j, j < 232 → I3 227 (232 * min u 11 + j) = u2 I2 224 0 x 225 j) (e6 : ∀ i j, i < min u 11 → j < 232 → I3 227 (232 * i + j) = u2 I2 224 0 x 227 (232 * (if u = 12 then i + 1 else i) + j))
    (f4 : ∀ a c, a ≠ 225 → I4 a c = I3 a c) (hN4 : NR I4 225 0 T') : INV I4 J := by
  obtain ⟨hT, hN, hW, hTP, hM, hK0, hK1, -, hG, hg⟩ := hI
  have g : ∀ a c', a ≠ 227 → ¬ (a = 224 ∧ c' = 6) → ¬ (a = 224 ∧ c' = 0) → a ≠ 225 → I4 a c' = I2 a c' := fun a c' h1 h2 h3 h6 => by
    rw [f4 a c' h6, f2 a c' h1 h2, u2_no _ _ (by omega)]
  refine INV.act hT hN hTP hM hK0 hK1 hG hg u1 nx1 hP0 hP hT' h3 hN4 ?_ ?_ ?_ ?_ ?_ (fun i c' hi hn => ?_) (fun j' hj => ?_) (fun i j' hi hj => ?_) (fun a c' hr h1 h2 h3 h4 h5 => ?_)
  · exact hW2.scr hT' (fun a c' h1 h2 => g a c' (by omega) (by omega) (by omega) (by omega))
  · rw [show I4 (120 + nx) = I2 (120 + nx) from funext fun c' => g _ _ (by omega) (by omega) (by omega) (by omega)]
    exact hact
  · rw [g _ _ (by omega) (by omega) (by omega) (by omega)]; exact e1
  · rw [g _ _ (by omega) (by omega) (by omega) (by omega)]; exact e2
  · rw [f4 _ _ (by omega)]; exact e3
  · rw [g _ _ (by omega) (by omega) (by omega) (by omega)]; exact f1 _ _ (by omega) (by omega) (by omega)
  · rw [f4 _ _ (by omega), e5 j' hj, u2_no _ _ (by omega), f1 _ _ (by omega) (by omega) (by omega)]
  · rw [f4 _ _ (by omega), e6 i j' hi hj, u2_no _ _ (by omega), f1 _ _ (by omega) (by omega) (by omega)]
  · rw [g _ _ (by omega) (by omega) (by unfold relI at hr; omega) (by omega)]; exact f1 _ _ (by omega) (by omega) (by omega)
end RL
set_option maxHeartbeats 8000000 in
theorem sim_relate : SIM_relate Inv 0 224 := by
  intro h c1 c2 c3 hb hI
  obtain ⟨n, I, J, rfl, T, hI⟩ := hI
  have hI : INVT I J T := hI
  have hT := hI.1
  have hN := hI.2.1
  have hW := hI.2.2.1
  have b0 := hT.1
  have h11 : T 11 ≤ 6 := hT.2.1.2.2.2.2.2.2
  have hR0 := hI.rq.th (nI 0)
  obtain ⟨v, hv, rfl⟩ : ∃ v, v ≤ 1 ∧ c3 = nI v := by
    rcases hb with z | z
    · exact ⟨0, by omega, z⟩
    · exact ⟨1, by omega, z⟩
  have fin : ∀ I' : Nat → Nat → Int32, (∀ a c, I' a c = I a c) → Inv (mk n (u2 I' 224 0 (nI 0)) J) := fun I' hh => by
    have : I' = I := funext fun a => funext fun c => hh a c
    subst this
    exact hI.inv.fin0 (n := n) (x := nI 0) (scrt.refl I' J)
  unfold mX9_relate mX10_relate
  by_cases h1 : ixB c1 (T 0)
  · obtain ⟨p, hp, rfl⟩ := ixB_of (by omega) h1
    by_cases h2 : ixB c2 (T 0)
    · obtain ⟨q, hq, rfl⟩ := ixB_of (by omega) h2
      by_cases hpq : p = q
      · subst hpq
        refine ⟨nI 0, mk n I J, _, ?_, ?_, hI.inv.fin0 (n := n) (x := nI 0) (scrt.refl I J)⟩
        · simp (disch := omega) only [mk_oO o_0, mk_oO o_1, mk_oO o_3, mk_gR f_0_0, mk_gR f_0_1, mk_gR f_0_2, mk_gR f_0_3, mk_gR f_0_4, mk_gR f_0_5, mk_gR f_0_6, mk_gR f_0_7, mk_gR f_0_8, mk_gR f_0_9, mk_gI f_0_10, mk_pI f_0_10, mk_gR f_1_0, mk_gI f_1_1, mk_pI f_1_1, mk_gR f_3_0, mk_gR f_3_1, mk_gR f_3_2, mk_gR f_3_3, mk_gR f_3_4, mk_gR f_3_5, mk_gR f_3_6, mk_gR f_3_7, ↓m_1, ↓m_2, i_0, i_1, i_2, i_3, i_4, i_6, i_5, i_12, i_11, i_10, i_9999, i_7, i_9, i_8, i_24, i_100, i_56, i_48, i_13, i_176, i_232, i_224, i_32, i_999, i_99, i_900, i_97, i_90, i_30, i_20, i_59, i_14, i_50, i_29, i_22, i_19, i_18, i_17, i_96, i_61, i_57, i_51, i_41, i_26, i_2552, i_255, i_25, i_23, i_21, i_16, i_15, i_122, i_10000, i_31, dzF, obs, b2_some, rz0, rz1, rzb, n01, n01', n10, n01e, nI_add, nI_mul, ↓reduceIte, not_false_eq_true, not_true_eq_false, ite_not, has1 hT hW]
        · simp (disch := omega) only [mk_oO o_224, mk_gI f_224_0, mk_pI f_224_0, mk_gR f_224_1, mk_gR f_224_2, mk_gR f_224_3, mk_gR f_224_4, mk_gR f_224_5, mk_gI f_224_6, mk_pI f_224_6, mk_gR f_224_7, mk_gI f_224_8, mk_pI f_224_8, mk_gI f_224_9, mk_pI f_224_9, mk_gI f_224_10, mk_pI f_224_10, mk_gI f_224_11, mk_pI f_224_11, mk_gI f_224_12, mk_pI f_224_12, mk_gI f_224_13, mk_pI f_224_13, mk_gL f_224_14, mk_pL f_224_14, mk_gI f_224_15, mk_pI f_224_15, mk_gI f_224_16, mk_pI f_224_16, mk_gR f_224_17, mk_gR f_224_18, mk_gR f_224_19, mk_gI f_224_20, mk_pI f_224_20, mk_gR f_224_21, mk_gI f_224_22, mk_pI f_224_22, mk_gI f_224_23, mk_pI f_224_23, mk_gI f_224_24, mk_pI f_224_24, mk_gI f_224_25, mk_pI f_224_25, mk_gR f_224_26, mk_gI f_224_27, mk_pI f_224_27, mk_gI f_224_28, mk_pI f_224_28, mk_gR f_224_29, mk_gI f_224_30, mk_pI f_224_30, mk_gI f_224_31, mk_pI f_224_31, mk_gR f_224_32, mk_gI f_224_33, mk_pI f_224_33, ↓m_1, ↓m_2, i_0, i_1, i_2, i_3, i_4, i_6, i_5, i_12, i_11, i_10, i_9999, i_7, i_9, i_8, i_24, i_100, i_56, i_48, i_13, i_176, i_232, i_224, i_32, i_999, i_99, i_900, i_97, i_90, i_30, i_20, i_59, i_14, i_50, i_29, i_22, i_19, i_18, i_17, i_96, i_61, i_57, i_51, i_41, i_26, i_2552, i_255, i_25, i_23, i_21, i_16, i_15, i_122, i_10000, i_31, dzF, obs, b2_some, rz0, rz1, rzb, n01, n01', n10, n01e, nI_add, nI_mul, ↓reduceIte, not_false_eq_true, not_true_eq_false, ite_not, R_now hR0.1, isIn1]
      · have hp6 : p < 6 := by omega
        have hq6 : q < 6 := by omega
        -- what tell and the acts do
        have go : (v = 1 ↔ ¬ told T p q) → (v = 1 → T 11 < 6) → (v = 0 → 1 ≤ T 11) → ∀ T', VT T' → (∀ k, k < 11 → T' k = T k) → T' 11 + (1 - v) = T 11 + v → (∀ k, 24 ≤ k → T' k = T k) → (∀ x y, told T' x y ↔ if pr2 p q x y then v = 1 else told T x y) → ∃ I1 I2 I3, mX8_tell (mk n I J) 3 (nI p) (nI q) (nI v) = some (mk n I1 J) ∧ mX0_add (mk n I1 J) 118 (nI 2) (nI p) (nI q) (nI (1 - v)) = some (mk n I2 J) ∧ RQ T 10 (u2 I2 224 0 (nI 0)) ∧ mX10_acts (mk n (u2 I2 224 0 (nI 0)) J) 224 = some (mk n I3 J) ∧ RQ T 10 I3 ∧ ∀ I4 : Nat → Nat → Int32, (∀ a c, a ≠ 225 → I4 a c = I3 a c) → NR I4 225 0 T' → INV I4 J := by
          intro ht hlt hz T' hT' t1 t2 t3 t4
          obtain ⟨-, -, -, hTP, hM, hK0, hK1, ⟨u, nx, P, u1, nx1, b1, b2, b3, hP0, hP⟩, hG, hg⟩ := id hI
          obtain ⟨I1, e1, f1, w1⟩ := C_tell (n := n) (J := J) (Or.inl rfl) hW hp6 hq6 hpq hv h11 ht hz
          obtain ⟨I2, e2, f2, p1, p2, r0, r1, r2, r3⟩ := C_add (n := n) (J := J) (I := I1) u1 nx1 (by rw [f1 _ _ (by omega) (by omega)]; exact b2) (by rw [f1 _ _ (by omega) (by omega)]; exact b1) (nI 2) (nI p) (nI q) (nI (1 - v))
          have q2 : RQ T 10 (u2 I2 224 0 (nI 0)) := ⟨fun i hi => by rw [u2_no _ _ (by omega), f2 _ _ (by omega) (by omega), f1 _ _ (by omega) (by omega)]; exact hN i hi, by rw [u2_no _ _ (by omega), f2 _ _ (by omega) (by omega), f1 _ _ (by omega) (by omega)]; exact hg⟩
          obtain ⟨I3, e3, f3, g1, g2, g3⟩ := R_acts (n := n) (J := J) (I := u2 I2 224 0 (nI 0)) u1 (by rw [u2_no _ _ (by omega), f2 _ _ (by omega) (by omega), f1 _ _ (by omega) (by omega)]; exact b3)
          have q3 : RQ T 10 I3 := ⟨fun i hi => by rw [f3 _ _ (by omega) (by omega)]; exact q2.1 i hi, by rw [f3 _ _ (by omega) (by omega)]; exact q2.2⟩
          have hW1 := w1 T' t1 t2 t3 t4
          have hact : actR (I2 (120 + nx)) T' T := by
            refine Or.inr (Or.inr (Or.inl ⟨p, q, 1 - v, r0, r1, r2, r3, by rw [t1 0 (by omega)]; exact hp, by rw [t1 0 (by omega)]; exact hq, hpq, by omega, ?_, by omega, fun k hk => t1 k hk, fun k hk => t3 k hk, fun x y => ?_⟩))
            · rw [t4 p q, if_pos (Or.inl ⟨rfl, rfl⟩)]
              omega
            · rw [t4 x y]
              by_cases hxy : pr2 p q x y
              · rw [if_pos hxy]
                have : told T x y ↔ told T p q := by
                  rcases hxy with ⟨rfl, rfl⟩ | ⟨rfl, rfl⟩
                  · exact Iff.rfl
                  · exact ⟨told.symm, told.symm⟩
                rw [this]
                by_cases hh : told T p q
                · have : ¬ v = 1 := fun z => ht.mp z hh
                  simp only [hh, true_iff]; omega
                · have : v = 1 := ht.mpr hh
                  simp only [hh, false_iff]; omega
              · rw [if_neg hxy, if_neg hxy]
          refine ⟨I1, I2, I3, e1, e2, q2, e3, q3, fun I4 f4 hN4 => ?_⟩
          exact INV.relA hI u1 nx1 hP0 hP hT' (t1 3 (by omega)) (hW1.scr hT' (fun a c z1 z2 => f2 _ _ (by omega) (by omega))) hact (fun a c z1 z2 z3 => by rw [f2 _ _ z2 z3, f1 _ _ (by omega) (by omega)]) p1 p2 f3 g1 g2 g3 f4 hN4
        rcases C_isTold (n := n) (J := J) (Or.inl rfl) hW hp6 hq6 with ⟨ht, et⟩ | ⟨ht, et⟩
        · rcases (by omega : v = 0 ∨ v = 1) with rfl | rfl
          · -- told, no more
            rcases R_pairOf (n := n) (J := J) a_225 hN h11 hT.le hp6 hq6 with ⟨k, hk, hpr, -, -⟩ | ⟨z, -⟩
            · have rc := rmP_cases T k
              obtain ⟨I1, I2, I3, e1, e2, q2, e3, q3, fn⟩ := go (by simp [ht]) (by omega) (by omega) (rmP T k) (hT.rm hk) (fun i hi => by have := rc i; omega) (by have := rc 11; omega) (fun i hi => by have := rc i; omega) (fun x y => by rw [told_rm hT hk hpr]; simp)
              rcases R_pairOf (n := n) (J := J) a_225 q2.1 h11 hT.le hp6 hq6 with ⟨k', hk', hpr', -, ep⟩ | ⟨z, -⟩
              · have : k' = k := by
                  rcases Nat.lt_trichotomy k k' with z | z | z
                  · have := hT.2.2.2.1 k k' z hk'
                    unfold pr2 at hpr hpr'
                    exact absurd (by omega) this
                  · exact z.symm
                  · have := hT.2.2.2.1 k' k z hk
                    unfold pr2 at hpr hpr'
                    exact absurd (by omega) this
                subst this
                obtain ⟨I4, e4, f4, g4⟩ := R_rmL (k0 := k') (n := n) (J := J) (22 - (12 + 2 * k')) (12 + 2 * k') FU I3 (by omega) (by unfold FU; omega)
                have e411 : I4 225 11 = nI (T 11) := by rw [f4 _ _ (by omega)]; exact q3.1.at (by decide)
                refine ⟨nI 1, mk n I2 J, mk n (u2 I4 225 11 (nI (T 11 - 1))) J, ?_, ?_, Inv.of (fn _ (fun a c z => by rw [u2_no _ _ (by omega), f4 _ _ (by omega)]) (fun j hj => ?_))⟩
                · unfold mX9_relate_b65 mX9_relate_b91
                  simp (disch := omega) only [mk_oO o_0, mk_oO o_1, mk_oO o_3, mk_gR f_0_0, mk_gR f_0_1, mk_gR f_0_2, mk_gR f_0_3, mk_gR f_0_4, mk_gR f_0_5, mk_gR f_0_6, mk_gR f_0_7, mk_gR f_0_8, mk_gR f_0_9, mk_gI f_0_10, mk_pI f_0_10, mk_gR f_1_0, mk_gI f_1_1, mk_pI f_1_1, mk_gR f_3_0, mk_gR f_3_1, mk_gR f_3_2, mk_gR f_3_3, mk_gR f_3_4, mk_gR f_3_5, mk_gR f_3_6, mk_gR f_3_7, ↓m_1, ↓m_2, i_0, i_1, i_2, i_3, i_4, i_6, i_5, i_12, i_11, i_10, i_9999, i_7, i_9, i_8, i_24, i_100, i_56, i_48, i_13, i_176, i_232, i_224, i_32, i_999, i_99, i_900, i_97, i_90, i_30, i_20, i_59, i_14, i_50, i_29, i_22, i_19, i_18, i_17, i_96, i_61, i_57, i_51, i_41, i_26, i_2552, i_255, i_25, i_23, i_21, i_16, i_15, i_122, i_10000, i_31, dzF, obs, b2_some, rz0, rz1, rzb, n01, n01', n10, n01e, nI_add, nI_mul, ↓reduceIte, not_false_eq_true, not_true_eq_false, ite_not, has1 hT hW, eqF, et, e1, e2]
                · unfold mX10_relate_b61 mX10_relate_b82
                  simp (disch := omega) only [mk_oO o_224, mk_gI f_224_0, mk_pI f_224_0, mk_gR f_224_1, mk_gR f_224_2, mk_gR f_224_3, mk_gR f_224_4, mk_gR f_224_5, mk_gI f_224_6, mk_pI f_224_6, mk_gR f_224_7, mk_gI f_224_8, mk_pI f_224_8, mk_gI f_224_9, mk_pI f_224_9, mk_gI f_224_10, mk_pI f_224_10, mk_gI f_224_11, mk_pI f_224_11, mk_gI f_224_12, mk_pI f_224_12, mk_gI f_224_13, mk_pI f_224_13, mk_gL f_224_14, mk_pL f_224_14, mk_gI f_224_15, mk_pI f_224_15, mk_gI f_224_16, mk_pI f_224_16, mk_gR f_224_17, mk_gR f_224_18, mk_gR f_224_19, mk_gI f_224_20, mk_pI f_224_20, mk_gR f_224_21, mk_gI f_224_22, mk_pI f_224_22, mk_gI f_224_23, mk_pI f_224_23, mk_gI f_224_24, mk_pI f_224_24, mk_gI f_224_25, mk_pI f_224_25, mk_gR f_224_26, mk_gI f_224_27, mk_pI f_224_27, mk_gI f_224_28, mk_pI f_224_28, mk_gR f_224_29, mk_gI f_224_30, mk_pI f_224_30, mk_gI f_224_31, mk_pI f_224_31, mk_gR f_224_32, mk_gI f_224_33, mk_pI f_224_33, ↓m_1, ↓m_2, i_0, i_1, i_2, i_3, i_4, i_6, i_5, i_12, i_11, i_10, i_9999, i_7, i_9, i_8, i_24, i_100, i_56, i_48, i_13, i_176, i_232, i_224, i_32, i_999, i_99, i_900, i_97, i_90, i_30, i_20, i_59, i_14, i_50, i_29, i_22, i_19, i_18, i_17, i_96, i_61, i_57, i_51, i_41, i_26, i_2552, i_255, i_25, i_23, i_21, i_16, i_15, i_122, i_10000, i_31, dzF, obs, b2_some, rz0, rz1, rzb, n01, n01', n10, n01e, nI_add, nI_mul, ↓reduceIte, not_false_eq_true, not_true_eq_false, ite_not, R_now q2.1, isIn1, eqF, ep, nM1, e3]
                  refine e4.trans ?_
                  simp (disch := omega) only [mk_oO o_224, mk_gI f_224_0, mk_pI f_224_0, mk_gR f_224_1, mk_gR f_224_2, mk_gR f_224_3, mk_gR f_224_4, mk_gR f_224_5, mk_gI f_224_6, mk_pI f_224_6, mk_gR f_224_7, mk_gI f_224_8, mk_pI f_224_8, mk_gI f_224_9, mk_pI f_224_9, mk_gI f_224_10, mk_pI f_224_10, mk_gI f_224_11, mk_pI f_224_11, mk_gI f_224_12, mk_pI f_224_12, mk_gI f_224_13, mk_pI f_224_13, mk_gL f_224_14, mk_pL f_224_14, mk_gI f_224_15, mk_pI f_224_15, mk_gI f_224_16, mk_pI f_224_16, mk_gR f_224_17, mk_gR f_224_18, mk_gR f_224_19, mk_gI f_224_20, mk_pI f_224_20, mk_gR f_224_21, mk_gI f_224_22, mk_pI f_224_22, mk_gI f_224_23, mk_pI f_224_23, mk_gI f_224_24, mk_pI f_224_24, mk_gI f_224_25, mk_pI f_224_25, mk_gR f_224_26, mk_gI f_224_27, mk_pI f_224_27, mk_gI f_224_28, mk_pI f_224_28, mk_gR f_224_29, mk_gI f_224_30, mk_pI f_224_30, mk_gI f_224_31, mk_pI f_224_31, mk_gR f_224_32, mk_gI f_224_33, mk_pI f_224_33, ↓m_1, ↓m_2, i_0, i_1, i_2, i_3, i_4, i_6, i_5, i_12, i_11, i_10, i_9999, i_7, i_9, i_8, i_24, i_100, i_56, i_48, i_13, i_176, i_232, i_224, i_32, i_999, i_99, i_900, i_97, i_90, i_30, i_20, i_59, i_14, i_50, i_29, i_22, i_19, i_18, i_17, i_96, i_61, i_57, i_51, i_41, i_26, i_2552, i_255, i_25, i_23, i_21, i_16, i_15, i_122, i_10000, i_31, dzF, obs, b2_some, rz0, rz1, rzb, n01, n01', n10, n01e, nI_add, nI_mul, ↓reduceIte, not_false_eq_true, not_true_eq_false, ite_not, mk_aIn a_225, e411, nI_sub, mk_sIn a_225]
                · rw [Nat.zero_add]
                  have := rc j
                  by_cases hj11 : j = 11
                  · subst hj11
                    rw [u2_at, show rmP T k' 11 = T 11 - 1 by omega]
                  · rw [u2_no _ _ (by omega)]
                    by_cases hjr : 12 + 2 * k' ≤ j ∧ j < 22
                    · rw [g4 j hjr.1 hjr.2, q3.1.at (by omega), show rmP T k' j = T (j + 2) by omega]
                    · rw [f4 _ _ (by omega), q3.1.at hj, show rmP T k' j = T j by omega]
              · exact absurd ht z
            · exact absurd ht z
          · -- told already
            refine ⟨nI 0, mk n I J, _, ?_, ?_, hI.inv.fin0 (n := n) (x := nI 0) (scrt.refl I J)⟩
            · simp (disch := omega) only [mk_oO o_0, mk_oO o_1, mk_oO o_3, mk_gR f_0_0, mk_gR f_0_1, mk_gR f_0_2, mk_gR f_0_3, mk_gR f_0_4, mk_gR f_0_5, mk_gR f_0_6, mk_gR f_0_7, mk_gR f_0_8, mk_gR f_0_9, mk_gI f_0_10, mk_pI f_0_10, mk_gR f_1_0, mk_gI f_1_1, mk_pI f_1_1, mk_gR f_3_0, mk_gR f_3_1, mk_gR f_3_2, mk_gR f_3_3, mk_gR f_3_4, mk_gR f_3_5, mk_gR f_3_6, mk_gR f_3_7, ↓m_1, ↓m_2, i_0, i_1, i_2, i_3, i_4, i_6, i_5, i_12, i_11, i_10, i_9999, i_7, i_9, i_8, i_24, i_100, i_56, i_48, i_13, i_176, i_232, i_224, i_32, i_999, i_99, i_900, i_97, i_90, i_30, i_20, i_59, i_14, i_50, i_29, i_22, i_19, i_18, i_17, i_96, i_61, i_57, i_51, i_41, i_26, i_2552, i_255, i_25, i_23, i_21, i_16, i_15, i_122, i_10000, i_31, dzF, obs, b2_some, rz0, rz1, rzb, n01, n01', n10, n01e, nI_add, nI_mul, ↓reduceIte, not_false_eq_true, not_true_eq_false, ite_not, has1 hT hW, eqF, et]
            · rcases R_pairOf (n := n) (J := J) a_225 hR0.1 h11 hT.le hp6 hq6 with ⟨k, hk, -, -, ep⟩ | ⟨z, -⟩
              · unfold mX10_relate_b61
                simp (disch := omega) only [mk_oO o_224, mk_gI f_224_0, mk_pI f_224_0, mk_gR f_224_1, mk_gR f_224_2, mk_gR f_224_3, mk_gR f_224_4, mk_gR f_224_5, mk_gI f_224_6, mk_pI f_224_6, mk_gR f_224_7, mk_gI f_224_8, mk_pI f_224_8, mk_gI f_224_9, mk_pI f_224_9, mk_gI f_224_10, mk_pI f_224_10, mk_gI f_224_11, mk_pI f_224_11, mk_gI f_224_12, mk_pI f_224_12, mk_gI f_224_13, mk_pI f_224_13, mk_gL f_224_14, mk_pL f_224_14, mk_gI f_224_15, mk_pI f_224_15, mk_gI f_224_16, mk_pI f_224_16, mk_gR f_224_17, mk_gR f_224_18, mk_gR f_224_19, mk_gI f_224_20, mk_pI f_224_20, mk_gR f_224_21, mk_gI f_224_22, mk_pI f_224_22, mk_gI f_224_23, mk_pI f_224_23, mk_gI f_224_24, mk_pI f_224_24, mk_gI f_224_25, mk_pI f_224_25, mk_gR f_224_26, mk_gI f_224_27, mk_pI f_224_27, mk_gI f_224_28, mk_pI f_224_28, mk_gR f_224_29, mk_gI f_224_30, mk_pI f_224_30, mk_gI f_224_31, mk_pI f_224_31, mk_gR f_224_32, mk_gI f_224_33, mk_pI f_224_33, ↓m_1, ↓m_2, i_0, i_1, i_2, i_3, i_4, i_6, i_5, i_12, i_11, i_10, i_9999, i_7, i_9, i_8, i_24, i_100, i_56, i_48, i_13, i_176, i_232, i_224, i_32, i_999, i_99, i_900, i_97, i_90, i_30, i_20, i_59, i_14, i_50, i_29, i_22, i_19, i_18, i_17, i_96, i_61, i_57, i_51, i_41, i_26, i_2552, i_255, i_25, i_23, i_21, i_16, i_15, i_122, i_10000, i_31, dzF, obs, b2_some, rz0, rz1, rzb, n01, n01', n10, n01e, nI_add, nI_mul, ↓reduceIte, not_false_eq_true, not_true_eq_false, ite_not, R_now hR0.1, isIn1, eqF, ep, nM1]
              · exact absurd ht z
        · rcases (by omega : v = 0 ∨ v = 1) with rfl | rfl
          · -- not told
            refine ⟨nI 0, mk n I J, _, ?_, ?_, hI.inv.fin0 (n := n) (x := nI 0) (scrt.refl I J)⟩
            · simp (disch := omega) only [mk_oO o_0, mk_oO o_1, mk_oO o_3, mk_gR f_0_0, mk_gR f_0_1, mk_gR f_0_2, mk_gR f_0_3, mk_gR f_0_4, mk_gR f_0_5, mk_gR f_0_6, mk_gR f_0_7, mk_gR f_0_8, mk_gR f_0_9, mk_gI f_0_10, mk_pI f_0_10, mk_gR f_1_0, mk_gI f_1_1, mk_pI f_1_1, mk_gR f_3_0, mk_gR f_3_1, mk_gR f_3_2, mk_gR f_3_3, mk_gR f_3_4, mk_gR f_3_5, mk_gR f_3_6, mk_gR f_3_7, ↓m_1, ↓m_2, i_0, i_1, i_2, i_3, i_4, i_6, i_5, i_12, i_11, i_10, i_9999, i_7, i_9, i_8, i_24, i_100, i_56, i_48, i_13, i_176, i_232, i_224, i_32, i_999, i_99, i_900, i_97, i_90, i_30, i_20, i_59, i_14, i_50, i_29, i_22, i_19, i_18, i_17, i_96, i_61, i_57, i_51, i_41, i_26, i_2552, i_255, i_25, i_23, i_21, i_16, i_15, i_122, i_10000, i_31, dzF, obs, b2_some, rz0, rz1, rzb, n01, n01', n10, n01e, nI_add, nI_mul, ↓reduceIte, not_false_eq_true, not_true_eq_false, ite_not, has1 hT hW, eqF, et]
            · rcases R_pairOf (n := n) (J := J) a_225 hR0.1 h11 hT.le hp6 hq6 with ⟨k, hk, -, z, -⟩ | ⟨-, ep⟩
              · exact absurd z ht
              · unfold mX10_relate_b61
                simp (disch := omega) only [mk_oO o_224, mk_gI f_224_0, mk_pI f_224_0, mk_gR f_224_1, mk_gR f_224_2, mk_gR f_224_3, mk_gR f_224_4, mk_gR f_224_5, mk_gI f_224_6, mk_pI f_224_6, mk_gR f_224_7, mk_gI f_224_8, mk_pI f_224_8, mk_gI f_224_9, mk_pI f_224_9, mk_gI f_224_10, mk_pI f_224_10, mk_gI f_224_11, mk_pI f_224_11, mk_gI f_224_12, mk_pI f_224_12, mk_gI f_224_13, mk_pI f_224_13, mk_gL f_224_14, mk_pL f_224_14, mk_gI f_224_15, mk_pI f_224_15, mk_gI f_224_16, mk_pI f_224_16, mk_gR f_224_17, mk_gR f_224_18, mk_gR f_224_19, mk_gI f_224_20, mk_pI f_224_20, mk_gR f_224_21, mk_gI f_224_22, mk_pI f_224_22, mk_gI f_224_23, mk_pI f_224_23, mk_gI f_224_24, mk_pI f_224_24, mk_gI f_224_25, mk_pI f_224_25, mk_gR f_224_26, mk_gI f_224_27, mk_pI f_224_27, mk_gI f_224_28, mk_pI f_224_28, mk_gR f_224_29, mk_gI f_224_30, mk_pI f_224_30, mk_gI f_224_31, mk_pI f_224_31, mk_gR f_224_32, mk_gI f_224_33, mk_pI f_224_33, ↓m_1, ↓m_2, i_0, i_1, i_2, i_3, i_4, i_6, i_5, i_12, i_11, i_10, i_9999, i_7, i_9, i_8, i_24, i_100, i_56, i_48, i_13, i_176, i_232, i_224, i_32, i_999, i_99, i_900, i_97, i_90, i_30, i_20, i_59, i_14, i_50, i_29, i_22, i_19, i_18, i_17, i_96, i_61, i_57, i_51, i_41, i_26, i_2552, i_255, i_25, i_23, i_21, i_16, i_15, i_122, i_10000, i_31, dzF, obs, b2_some, rz0, rz1, rzb, n01, n01', n10, n01e, nI_add, nI_mul, ↓reduceIte, not_false_eq_true, not_true_eq_false, ite_not, R_now hR0.1, isIn1, eqF, ep]
          · have w13 : I 4 13 = nI (T 11) := hW.2.1
            by_cases h6 : T 11 = 6
            · refine ⟨nI 0, mk n I J, _, ?_, ?_, hI.inv.fin0 (n := n) (x := nI 0) (scrt.refl I J)⟩
              · simp (disch := omega) only [mk_oO o_0, mk_oO o_1, mk_oO o_3, mk_gR f_0_0, mk_gR f_0_1, mk_gR f_0_2, mk_gR f_0_3, mk_gR f_0_4, mk_gR f_0_5, mk_gR f_0_6, mk_gR f_0_7, mk_gR f_0_8, mk_gR f_0_9, mk_gI f_0_10, mk_pI f_0_10, mk_gR f_1_0, mk_gI f_1_1, mk_pI f_1_1, mk_gR f_3_0, mk_gR f_3_1, mk_gR f_3_2, mk_gR f_3_3, mk_gR f_3_4, mk_gR f_3_5, mk_gR f_3_6, mk_gR f_3_7, ↓m_1, ↓m_2, i_0, i_1, i_2, i_3, i_4, i_6, i_5, i_12, i_11, i_10, i_9999, i_7, i_9, i_8, i_24, i_100, i_56, i_48, i_13, i_176, i_232, i_224, i_32, i_999, i_99, i_900, i_97, i_90, i_30, i_20, i_59, i_14, i_50, i_29, i_22, i_19, i_18, i_17, i_96, i_61, i_57, i_51, i_41, i_26, i_2552, i_255, i_25, i_23, i_21, i_16, i_15, i_122, i_10000, i_31, dzF, obs, b2_some, rz0, rz1, rzb, n01, n01', n10, n01e, nI_add, nI_mul, ↓reduceIte, not_false_eq_true, not_true_eq_false, ite_not, has1 hT hW, eqF, et, mk_aIn a_4, w13, ltF]
              · rcases R_pairOf (n := n) (J := J) a_225 hR0.1 h11 hT.le hp6 hq6 with ⟨k, hk, -, z, -⟩ | ⟨-, ep⟩
                · exact absurd z ht
                · unfold mX10_relate_b61
                  simp (disch := omega) only [mk_oO o_224, mk_gI f_224_0, mk_pI f_224_0, mk_gR f_224_1, mk_gR f_224_2, mk_gR f_224_3, mk_gR f_224_4, mk_gR f_224_5, mk_gI f_224_6, mk_pI f_224_6, mk_gR f_224_7, mk_gI f_224_8, mk_pI f_224_8, mk_gI f_224_9, mk_pI f_224_9, mk_gI f_224_10, mk_pI f_224_10, mk_gI f_224_11, mk_pI f_224_11, mk_gI f_224_12, mk_pI f_224_12, mk_gI f_224_13, mk_pI f_224_13, mk_gL f_224_14, mk_pL f_224_14, mk_gI f_224_15, mk_pI f_224_15, mk_gI f_224_16, mk_pI f_224_16, mk_gR f_224_17, mk_gR f_224_18, mk_gR f_224_19, mk_gI f_224_20, mk_pI f_224_20, mk_gR f_224_21, mk_gI f_224_22, mk_pI f_224_22, mk_gI f_224_23, mk_pI f_224_23, mk_gI f_224_24, mk_pI f_224_24, mk_gI f_224_25, mk_pI f_224_25, mk_gR f_224_26, mk_gI f_224_27, mk_pI f_224_27, mk_gI f_224_28, mk_pI f_224_28, mk_gR f_224_29, mk_gI f_224_30, mk_pI f_224_30, mk_gI f_224_31, mk_pI f_224_31, mk_gR f_224_32, mk_gI f_224_33, mk_pI f_224_33, ↓m_1, ↓m_2, i_0, i_1, i_2, i_3, i_4, i_6, i_5, i_12, i_11, i_10, i_9999, i_7, i_9, i_8, i_24, i_100, i_56, i_48, i_13, i_176, i_232, i_224, i_32, i_999, i_99, i_900, i_97, i_90, i_30, i_20, i_59, i_14, i_50, i_29, i_22, i_19, i_18, i_17, i_96, i_61, i_57, i_51, i_41, i_26, i_2552, i_255, i_25, i_23, i_21, i_16, i_15, i_122, i_10000, i_31, dzF, obs, b2_some, rz0, rz1, rzb, n01, n01', n10, n01e, nI_add, nI_mul, ↓reduceIte, not_false_eq_true, not_true_eq_false, ite_not, R_now hR0.1, isIn1, eqF, ep, h6]
            · have ac := adP_cases T p q
              obtain ⟨I1, I2, I3, e1, e2, q2, e3, q3, fn⟩ := go (by simp [ht]) (by omega) (by omega) (adP T p q) (hT.ad hp hq hpq (by omega) ht) (fun i hi => by have := ac i; omega) (by have := ac 11; omega) (fun i hi => by have := ac i; omega) (fun x y => by rw [told_ad (by omega)]; simp)
              refine ⟨nI 1, mk n I2 J, mk n (u2 (u2 (u2 I3 225 (12 + 2 * T 11) (nI p)) 225 (12 + 2 * T 11 + 1) (nI q)) 225 11 (nI (T 11 + 1))) J, ?_, ?_, Inv.of (fn _ (fun a c z => by rw [u2_no _ _ (by omega), u2_no _ _ (by omega), u2_no _ _ (by omega)]) (fun j hj => ?_))⟩
              · unfold mX9_relate_b65 mX9_relate_b91
                simp (disch := omega) only [mk_oO o_0, mk_oO o_1, mk_oO o_3, mk_gR f_0_0, mk_gR f_0_1, mk_gR f_0_2, mk_gR f_0_3, mk_gR f_0_4, mk_gR f_0_5, mk_gR f_0_6, mk_gR f_0_7, mk_gR f_0_8, mk_gR f_0_9, mk_gI f_0_10, mk_pI f_0_10, mk_gR f_1_0, mk_gI f_1_1, mk_pI f_1_1, mk_gR f_3_0, mk_gR f_3_1, mk_gR f_3_2, mk_gR f_3_3, mk_gR f_3_4, mk_gR f_3_5, mk_gR f_3_6, mk_gR f_3_7, ↓m_1, ↓m_2, i_0, i_1, i_2, i_3, i_4, i_6, i_5, i_12, i_11, i_10, i_9999, i_7, i_9, i_8, i_24, i_100, i_56, i_48, i_13, i_176, i_232, i_224, i_32, i_999, i_99, i_900, i_97, i_90, i_30, i_20, i_59, i_14, i_50, i_29, i_22, i_19, i_18, i_17, i_96, i_61, i_57, i_51, i_41, i_26, i_2552, i_255, i_25, i_23, i_21, i_16, i_15, i_122, i_10000, i_31, dzF, obs, b2_some, rz0, rz1, rzb, n01, n01', n10, n01e, nI_add, nI_mul, ↓reduceIte, not_false_eq_true, not_true_eq_false, ite_not, has1 hT hW, eqF, et, mk_aIn a_4, w13, ltT, e1, e2]
              · rcases R_pairOf (n := n) (J := J) a_225 q2.1 h11 hT.le hp6 hq6 with ⟨k, hk, -, z, -⟩ | ⟨-, ep⟩
                · exact absurd z ht
                · have q311 : I3 225 11 = nI (T 11) := q3.1.at (by decide)
                  unfold mX10_relate_b61 mX10_relate_b82
                  simp (disch := omega) only [mk_oO o_224, mk_gI f_224_0, mk_pI f_224_0, mk_gR f_224_1, mk_gR f_224_2, mk_gR f_224_3, mk_gR f_224_4, mk_gR f_224_5, mk_gI f_224_6, mk_pI f_224_6, mk_gR f_224_7, mk_gI f_224_8, mk_pI f_224_8, mk_gI f_224_9, mk_pI f_224_9, mk_gI f_224_10, mk_pI f_224_10, mk_gI f_224_11, mk_pI f_224_11, mk_gI f_224_12, mk_pI f_224_12, mk_gI f_224_13, mk_pI f_224_13, mk_gL f_224_14, mk_pL f_224_14, mk_gI f_224_15, mk_pI f_224_15, mk_gI f_224_16, mk_pI f_224_16, mk_gR f_224_17, mk_gR f_224_18, mk_gR f_224_19, mk_gI f_224_20, mk_pI f_224_20, mk_gR f_224_21, mk_gI f_224_22, mk_pI f_224_22, mk_gI f_224_23, mk_pI f_224_23, mk_gI f_224_24, mk_pI f_224_24, mk_gI f_224_25, mk_pI f_224_25, mk_gR f_224_26, mk_gI f_224_27, mk_pI f_224_27, mk_gI f_224_28, mk_pI f_224_28, mk_gR f_224_29, mk_gI f_224_30, mk_pI f_224_30, mk_gI f_224_31, mk_pI f_224_31, mk_gR f_224_32, mk_gI f_224_33, mk_pI f_224_33, ↓m_1, ↓m_2, i_0, i_1, i_2, i_3, i_4, i_6, i_5, i_12, i_11, i_10, i_9999, i_7, i_9, i_8, i_24, i_100, i_56, i_48, i_13, i_176, i_232, i_224, i_32, i_999, i_99, i_900, i_97, i_90, i_30, i_20, i_59, i_14, i_50, i_29, i_22, i_19, i_18, i_17, i_96, i_61, i_57, i_51, i_41, i_26, i_2552, i_255, i_25, i_23, i_21, i_16, i_15, i_122, i_10000, i_31, dzF, obs, b2_some, rz0, rz1, rzb, n01, n01', n10, n01e, nI_add, nI_mul, ↓reduceIte, not_false_eq_true, not_true_eq_false, ite_not, R_now q2.1, isIn1, eqF, ep, e3, mk_aIn a_225, q311, mk_sIn a_225, u2_no]
              · rw [Nat.zero_add]
                have := ac j
                by_cases hj11 : j = 11
                · subst hj11
                  rw [u2_at, show adP T p q 11 = T 11 + 1 by omega]
                · rw [u2_no _ _ (by omega)]
                  by_cases hj2 : j = 12 + 2 * T 11 + 1
                  · rw [show adP T p q j = q by omega, hj2, u2_at]
                  · rw [u2_no _ _ (by omega)]
                    by_cases hj3 : j = 12 + 2 * T 11
                    · rw [show adP T p q j = p by omega, hj3, u2_at]
                    · rw [u2_no _ _ (by omega), q3.1.at hj, show adP T p q j = T j by omega]
    · refine ⟨nI 0, mk n I J, _, ?_, ?_, hI.inv.fin0 (n := n) (x := nI 0) (scrt.refl I J)⟩
      · simp (disch := omega) only [mk_oO o_0, mk_oO o_1, mk_oO o_3, mk_gR f_0_0, mk_gR f_0_1, mk_gR f_0_2, mk_gR f_0_3, mk_gR f_0_4, mk_gR f_0_5, mk_gR f_0_6, mk_gR f_0_7, mk_gR f_0_8, mk_gR f_0_9, mk_gI f_0_10, mk_pI f_0_10, mk_gR f_1_0, mk_gI f_1_1, mk_pI f_1_1, mk_gR f_3_0, mk_gR f_3_1, mk_gR f_3_2, mk_gR f_3_3, mk_gR f_3_4, mk_gR f_3_5, mk_gR f_3_6, mk_gR f_3_7, ↓m_1, ↓m_2, i_0, i_1, i_2, i_3, i_4, i_6, i_5, i_12, i_11, i_10, i_9999, i_7, i_9, i_8, i_24, i_100, i_56, i_48, i_13, i_176, i_232, i_224, i_32, i_999, i_99, i_900, i_97, i_90, i_30, i_20, i_59, i_14, i_50, i_29, i_22, i_19, i_18, i_17, i_96, i_61, i_57, i_51, i_41, i_26, i_2552, i_255, i_25, i_23, i_21, i_16, i_15, i_122, i_10000, i_31, dzF, obs, b2_some, rz0, rz1, rzb, n01, n01', n10, n01e, nI_add, nI_mul, ↓reduceIte, not_false_eq_true, not_true_eq_false, ite_not, has1 hT hW, has0 hT hW (k := 0) (by decide) h2]
      · simp (disch := omega) only [mk_oO o_224, mk_gI f_224_0, mk_pI f_224_0, mk_gR f_224_1, mk_gR f_224_2, mk_gR f_224_3, mk_gR f_224_4, mk_gR f_224_5, mk_gI f_224_6, mk_pI f_224_6, mk_gR f_224_7, mk_gI f_224_8, mk_pI f_224_8, mk_gI f_224_9, mk_pI f_224_9, mk_gI f_224_10, mk_pI f_224_10, mk_gI f_224_11, mk_pI f_224_11, mk_gI f_224_12, mk_pI f_224_12, mk_gI f_224_13, mk_pI f_224_13, mk_gL f_224_14, mk_pL f_224_14, mk_gI f_224_15, mk_pI f_224_15, mk_gI f_224_16, mk_pI f_224_16, mk_gR f_224_17, mk_gR f_224_18, mk_gR f_224_19, mk_gI f_224_20, mk_pI f_224_20, mk_gR f_224_21, mk_gI f_224_22, mk_pI f_224_22, mk_gI f_224_23, mk_pI f_224_23, mk_gI f_224_24, mk_pI f_224_24, mk_gI f_224_25, mk_pI f_224_25, mk_gR f_224_26, mk_gI f_224_27, mk_pI f_224_27, mk_gI f_224_28, mk_pI f_224_28, mk_gR f_224_29, mk_gI f_224_30, mk_pI f_224_30, mk_gI f_224_31, mk_pI f_224_31, mk_gR f_224_32, mk_gI f_224_33, mk_pI f_224_33, ↓m_1, ↓m_2, i_0, i_1, i_2, i_3, i_4, i_6, i_5, i_12, i_11, i_10, i_9999, i_7, i_9, i_8, i_24, i_100, i_56, i_48, i_13, i_176, i_232, i_224, i_32, i_999, i_99, i_900, i_97, i_90, i_30, i_20, i_59, i_14, i_50, i_29, i_22, i_19, i_18, i_17, i_96, i_61, i_57, i_51, i_41, i_26, i_2552, i_255, i_25, i_23, i_21, i_16, i_15, i_122, i_10000, i_31, dzF, obs, b2_some, rz0, rz1, rzb, n01, n01', n10, n01e, nI_add, nI_mul, ↓reduceIte, not_false_eq_true, not_true_eq_false, ite_not, R_now hR0.1, isIn1, isIn0 (hT.l31 0) h2]
  · refine ⟨nI 0, mk n I J, _, ?_, ?_, hI.inv.fin0 (n := n) (x := nI 0) (scrt.refl I J)⟩
    · simp (disch := omega) only [mk_oO o_0, mk_oO o_1, mk_oO o_3, mk_gR f_0_0, mk_gR f_0_1, mk_gR f_0_2, mk_gR f_0_3, mk_gR f_0_4, mk_gR f_0_5, mk_gR f_0_6, mk_gR f_0_7, mk_gR f_0_8, mk_gR f_0_9, mk_gI f_0_10, mk_pI f_0_10, mk_gR f_1_0, mk_gI f_1_1, mk_pI f_1_1, mk_gR f_3_0, mk_gR f_3_1, mk_gR f_3_2, mk_gR f_3_3, mk_gR f_3_4, mk_gR f_3_5, mk_gR f_3_6, mk_gR f_3_7, ↓m_1, ↓m_2, i_0, i_1, i_2, i_3, i_4, i_6, i_5, i_12, i_11, i_10, i_9999, i_7, i_9, i_8, i_24, i_100, i_56, i_48, i_13, i_176, i_232, i_224, i_32, i_999, i_99, i_900, i_97, i_90, i_30, i_20, i_59, i_14, i_50, i_29, i_22, i_19, i_18, i_17, i_96, i_61, i_57, i_51, i_41, i_26, i_2552, i_255, i_25, i_23, i_21, i_16, i_15, i_122, i_10000, i_31, dzF, obs, b2_some, rz0, rz1, rzb, n01, n01', n10, n01e, nI_add, nI_mul, ↓reduceIte, not_false_eq_true, not_true_eq_false, ite_not, has0 hT hW (k := 0) (by decide) h1]
    · simp (disch := omega) only [mk_oO o_224, mk_gI f_224_0, mk_pI f_224_0, mk_gR f_224_1, mk_gR f_224_2, mk_gR f_224_3, mk_gR f_224_4, mk_gR f_224_5, mk_gI f_224_6, mk_pI f_224_6, mk_gR f_224_7, mk_gI f_224_8, mk_pI f_224_8, mk_gI f_224_9, mk_pI f_224_9, mk_gI f_224_10, mk_pI f_224_10, mk_gI f_224_11, mk_pI f_224_11, mk_gI f_224_12, mk_pI f_224_12, mk_gI f_224_13, mk_pI f_224_13, mk_gL f_224_14, mk_pL f_224_14, mk_gI f_224_15, mk_pI f_224_15, mk_gI f_224_16, mk_pI f_224_16, mk_gR f_224_17, mk_gR f_224_18, mk_gR f_224_19, mk_gI f_224_20, mk_pI f_224_20, mk_gR f_224_21, mk_gI f_224_22, mk_pI f_224_22, mk_gI f_224_23, mk_pI f_224_23, mk_gI f_224_24, mk_pI f_224_24, mk_gI f_224_25, mk_pI f_224_25, mk_gR f_224_26, mk_gI f_224_27, mk_pI f_224_27, mk_gI f_224_28, mk_pI f_224_28, mk_gR f_224_29, mk_gI f_224_30, mk_pI f_224_30, mk_gI f_224_31, mk_pI f_224_31, mk_gR f_224_32, mk_gI f_224_33, mk_pI f_224_33, ↓m_1, ↓m_2, i_0, i_1, i_2, i_3, i_4, i_6, i_5, i_12, i_11, i_10, i_9999, i_7, i_9, i_8, i_24, i_100, i_56, i_48, i_13, i_176, i_232, i_224, i_32, i_999, i_99, i_900, i_97, i_90, i_30, i_20, i_59, i_14, i_50, i_29, i_22, i_19, i_18, i_17, i_96, i_61, i_57, i_51, i_41, i_26, i_2552, i_255, i_25, i_23, i_21, i_16, i_15, i_122, i_10000, i_31, dzF, obs, b2_some, rz0, rz1, rzb, n01, n01', n10, n01e, nI_add, nI_mul, ↓reduceIte, not_false_eq_true, not_true_eq_false, ite_not, R_now hR0.1, isIn0 (hT.l31 0) h1]
