/-! ===== 83: the class's steps through a line ===== -/
def fnd (w : List Nat) : List (List Nat × Nat × Nat) → Nat
  | [] => 0
  | x :: l => if x.1 = w then 0 else fnd w l + 1
theorem fnd_le (w : List Nat) : ∀ l, fnd w l ≤ l.length
  | [] => Nat.le_refl _
  | x :: l => by
    have := fnd_le w l
    unfold fnd
    rw [List.length_cons]
    split <;> omega
theorem fnd_at (w : List Nat) : ∀ (l : List (List Nat × Nat × Nat)) (h : fnd w l < l.length), (l[fnd w l]).1 = w ∧ ∀ i (hi : i < fnd w l), (l[i]'(by omega)).1 ≠ w
  | [], h => by exact absurd h (by simp [fnd])
  | x :: l, h => by
    by_cases hx : x.1 = w
    · have e : fnd w (x :: l) = 0 := if_pos hx
      refine ⟨by simp only [e, List.getElem_cons_zero]; exact hx, fun i hi => by omega⟩
    · have e : fnd w (x :: l) = fnd w l + 1 := if_neg hx
      have hl : fnd w l < l.length := by rw [e, List.length_cons] at h; omega
      obtain ⟨h1, h2⟩ := fnd_at w l hl
      refine ⟨by simp only [e, List.getElem_cons_succ]; exact h1, fun i hi => ?_⟩
      cases i with
      | zero => exact hx
      | succ i => simp only [List.getElem_cons_succ]; exact h2 i (by omega)
theorem fnd_no (w : List Nat) : ∀ (l : List (List Nat × Nat × Nat)), fnd w l = l.length → ∀ i (hi : i < l.length), (l[i]).1 ≠ w
  | [], _, i, hi => absurd hi (Nat.not_lt_zero _)
  | x :: l, h, i, hi => by
    by_cases hx : x.1 = w
    · have e : fnd w (x :: l) = 0 := if_pos hx
      rw [e, List.length_cons] at h; omega
    · have e : fnd w (x :: l) = fnd w l + 1 := if_neg hx
      have hl : fnd w l = l.length := by rw [e, List.length_cons] at h; omega
      cases i with
      | zero => exact hx
      | succ i => simp only [List.getElem_cons_succ]; exact fnd_no w l hl i (by rw [List.length_cons] at hi; omega)
abbrev NmL : Type := List (List Nat × Nat × Nat)
def NMok (nm : NmL) : Prop := nm.length ≤ 26 ∧ (∀ x ∈ nm, isW x.1 ∧ x.2.1 ≤ 3 ∧ x.2.2 < 10) ∧ ∀ (i j : Nat) (x y : List Nat × Nat × Nat), i < j → nm[i]? = some x → nm[j]? = some y → x.1 ≠ y.1
def CNm (nm : NmL) (I : Nat → Nat → Int32) (J : Nat → Nat → Int64) : Prop := I 94 5 = nI nm.length ∧ ∀ (k : Nat) (x : List Nat × Nat × Nat), nm[k]? = some x → J 95 k = lN (enc 27 x.1) ∧ I 96 k = nI x.2.1 ∧ I 97 k = nI x.2.2
def WKd (b : Nat → Nat) (N : Nat) (I : Nat → Nat → Int32) (J : Nat → Nat → Int64) : Prop := TKc b N I J ∧ (∃ q, q ≤ N ∧ I 98 3 = nI q) ∧ ∃ m, m ≤ 26 ∧ I 94 5 = nI m
/-- behind a fault -/
def FRd (b : Nat → Nat) (N : Nat) (f : Nat) (I : Nat → Nat → Int32) (J : Nat → Nat → Int64) : Prop := WKd b N I J ∧ I 94 7 = nI f ∧ 1 ≤ f ∧ f < 100000
/-- no fault yet, at q -/
def CRd (b : Nat → Nat) (N q : Nat) (nm : NmL) (I : Nat → Nat → Int32) (J : Nat → Nat → Int64) : Prop := TKc b N I J ∧ q ≤ N ∧ I 98 3 = nI q ∧ I 94 7 = nI 0 ∧ CNm nm I J ∧ NMok nm
def Fo (I I' : Nat → Nat → Int32) : Prop := ∀ a c, ¬ (a = 98 ∧ 3 ≤ c ∧ c ≤ 6) → ¬ (a = 94 ∧ (c = 5 ∨ c = 7)) → a ≠ 96 → a ≠ 97 → I' a c = I a c
def Go (J J' : Nat → Nat → Int64) : Prop := ∀ a c, a ≠ 98 → a ≠ 95 → J' a c = J a c
theorem Fo.refl (I : Nat → Nat → Int32) : Fo I I := fun _ _ _ _ _ _ => rfl
theorem Go.refl (J : Nat → Nat → Int64) : Go J J := fun _ _ _ _ => rfl
theorem Fo.trans {I I' I'' : Nat → Nat → Int32} (h : Fo I I') (h' : Fo I' I'') : Fo I I'' := fun a c z1 z2 z3 z4 => (h' a c z1 z2 z3 z4).trans (h a c z1 z2 z3 z4)
theorem Go.trans {J J' J'' : Nat → Nat → Int64} (h : Go J J') (h' : Go J' J'') : Go J J'' := fun a c z1 z2 => (h' a c z1 z2).trans (h a c z1 z2)
theorem Fn.fo {I I' : Nat → Nat → Int32} (h : Fn I I') : Fo I I' := fun a c z _ _ _ => h a c z
theorem Gn.go {J J' : Nat → Nat → Int64} (h : Gn J J') : Go J J' := fun a c z _ => h a c z
abbrev okName (b : Nat → Nat) (N q : Nat) : Prop := tK b N q = 1 ∧ tG b N q = 30
section CO
variable {n : Nat} {b : Nat → Nat} {N q f : Nat} {nm : NmL} {I : Nat → Nat → Int32} {J : Nat → Nat → Int64}
theorem TKc.same {I' : Nat → Nat → Int32} {J' : Nat → Nat → Int64} (h : TKc b N I J) (h1 : ∀ k, I' 2 k = I 2 k) (h2 : I' 98 2 = I 98 2) (h3 : ∀ k, J' 99 k = J 99 k) : TKc b N I' J' := ⟨h.1, fun k hk => by rw [h1 k]; exact h.2.1 k hk, by rw [h2]; exact h.2.2.1, fun i hi => by rw [h3 i]; exact h.2.2.2 i hi⟩
theorem FRd.keep {I' : Nat → Nat → Int32} (h : FRd b N f I J) (hf : ∀ a c, a = 2 ∨ a = 94 ∨ a = 98 → I' a c = I a c) : FRd b N f I' J := by
  obtain ⟨⟨h1, ⟨q, q1, q2⟩, ⟨m, m1, m2⟩⟩, h2, h3, h4⟩ := h
  exact ⟨⟨h1.same (fun k => hf 2 k (by omega)) (hf _ _ (by omega)) (fun _ => rfl), ⟨q, q1, by rw [hf _ _ (by omega)]; exact q2⟩, ⟨m, m1, by rw [hf _ _ (by omega)]; exact m2⟩⟩, by rw [hf _ _ (by omega)]; exact h2, h3, h4⟩
theorem FRd.keepJ {J' : Nat → Nat → Int64} (h : FRd b N f I J) (hf : ∀ c, J' 99 c = J 99 c) : FRd b N f I J' := ⟨⟨h.1.1.same (fun _ => rfl) rfl hf, h.1.2⟩, h.2⟩
theorem CRd.keep {I' : Nat → Nat → Int32} (h : CRd b N q nm I J) (hf : ∀ a c, a = 2 ∨ a = 94 ∨ a = 96 ∨ a = 97 ∨ a = 98 → I' a c = I a c) : CRd b N q nm I' J := by
  obtain ⟨h1, h2, h3, h4, ⟨h5, h6⟩, h7⟩ := h
  exact ⟨h1.same (fun k => hf 2 k (by omega)) (hf _ _ (by omega)) (fun _ => rfl), h2, by rw [hf _ _ (by omega)]; exact h3, by rw [hf _ _ (by omega)]; exact h4, ⟨by rw [hf _ _ (by omega)]; exact h5, fun k x hk => by rw [hf 96 k (by omega), hf 97 k (by omega)]; exact h6 k x hk⟩, h7⟩
theorem CRd.keepJ {J' : Nat → Nat → Int64} (h : CRd b N q nm I J) (hf : ∀ a c, a = 95 ∨ a = 99 → J' a c = J a c) : CRd b N q nm I J' := by
  obtain ⟨h1, h2, h3, h4, ⟨h5, h6⟩, h7⟩ := h
  exact ⟨h1.same (fun _ => rfl) rfl (fun c => hf 99 c (by omega)), h2, h3, h4, ⟨h5, fun k x hk => by rw [hf 95 k (by omega)]; exact h6 k x hk⟩, h7⟩
theorem failF (h : I 94 7 = nI f) (h1 : 1 ≤ f) (h2 : f < 100000) (k : Int32) : mX4_fail (mk n I J) 94 k = some (mk n I J) := by
  unfold mX4_fail
  simp (disch := omega) only [mk_oO o_48, mk_oO o_94, mk_oO o_98, mk_gR f_48_0, mk_gR f_48_1, mk_gR f_48_2, mk_gR f_48_3, mk_gR f_48_4, mk_gR f_48_5, mk_gR f_48_6, mk_gR f_48_7, mk_gR f_94_0, mk_gR f_94_1, mk_gR f_94_2, mk_gR f_94_3, mk_gR f_94_4, mk_gI f_94_5, mk_pI f_94_5, mk_gI f_94_6, mk_pI f_94_6, mk_gI f_94_7, mk_pI f_94_7, mk_gR f_98_0, mk_gR f_98_1, mk_gI f_98_2, mk_pI f_98_2, mk_gI f_98_3, mk_pI f_98_3, mk_gI f_98_4, mk_pI f_98_4, mk_gI f_98_5, mk_pI f_98_5, mk_gI f_98_6, mk_pI f_98_6, mk_gL f_98_7, mk_pL f_98_7, ↓m_1, ↓m_2, i_0, i_1, i_2, i_3, i_4, i_6, i_5, i_12, i_11, i_10, i_9999, i_7, i_9, i_8, i_24, i_100, i_56, i_48, i_13, i_176, i_232, i_224, i_32, i_999, i_99, i_900, i_97, i_90, i_30, i_20, i_59, i_14, i_50, i_29, i_22, i_19, i_18, i_17, i_96, i_61, i_57, i_51, i_41, i_26, i_2552, i_255, i_25, i_23, i_21, i_16, i_15, i_122, i_10000, i_31, dzF, obs, b2_some, rz0, rz1, rzb, n01, n01', n10, n01e, nI_add, nI_mul, ↓reduceIte, not_false_eq_true, not_true_eq_false, ite_not, h, eqF]
theorem fail0 {p k : Nat} (h : I 94 7 = nI 0) (h4 : I 98 4 = nI p) : mX4_fail (mk n I J) 94 (nI k) = some (mk n (u2 I 94 7 (nI (8 * p + k))) J) := by
  unfold mX4_fail
  simp (disch := omega) only [mk_oO o_48, mk_oO o_94, mk_oO o_98, mk_gR f_48_0, mk_gR f_48_1, mk_gR f_48_2, mk_gR f_48_3, mk_gR f_48_4, mk_gR f_48_5, mk_gR f_48_6, mk_gR f_48_7, mk_gR f_94_0, mk_gR f_94_1, mk_gR f_94_2, mk_gR f_94_3, mk_gR f_94_4, mk_gI f_94_5, mk_pI f_94_5, mk_gI f_94_6, mk_pI f_94_6, mk_gI f_94_7, mk_pI f_94_7, mk_gR f_98_0, mk_gR f_98_1, mk_gI f_98_2, mk_pI f_98_2, mk_gI f_98_3, mk_pI f_98_3, mk_gI f_98_4, mk_pI f_98_4, mk_gI f_98_5, mk_pI f_98_5, mk_gI f_98_6, mk_pI f_98_6, mk_gL f_98_7, mk_pL f_98_7, ↓m_1, ↓m_2, i_0, i_1, i_2, i_3, i_4, i_6, i_5, i_12, i_11, i_10, i_9999, i_7, i_9, i_8, i_24, i_100, i_56, i_48, i_13, i_176, i_232, i_224, i_32, i_999, i_99, i_900, i_97, i_90, i_30, i_20, i_59, i_14, i_50, i_29, i_22, i_19, i_18, i_17, i_96, i_61, i_57, i_51, i_41, i_26, i_2552, i_255, i_25, i_23, i_21, i_16, i_15, i_122, i_10000, i_31, dzF, obs, b2_some, rz0, rz1, rzb, n01, n01', n10, n01e, nI_add, nI_mul, ↓reduceIte, not_false_eq_true, not_true_eq_false, ite_not, h, h4]
/-- a token further, behind a fault -/
theorem T_next (h : FRd b N f I J) : ∃ I' J', mX7_next (mk n I J) 98 = some (mk n I' J') ∧ FRd b N f I' J' ∧ Fo I I' ∧ Go J J' := by
  obtain ⟨⟨h1, ⟨q, q1, q2⟩, m⟩, h2, h3⟩ := h
  obtain ⟨I', J', e, f1, g1, a3, -⟩ := C_next (n := n) h1 q1 q2
  refine ⟨I', J', e, ⟨⟨h1.fn f1 g1, ⟨_, (tE_in q1).2, a3⟩, ?_⟩, by rw [f1 _ _ (by omega)]; exact h2, h3⟩, f1.fo, g1.go⟩
  obtain ⟨m, m1, m2⟩ := m
  exact ⟨m, m1, by rw [f1 _ _ (by omega)]; exact m2⟩
theorem T_expect (h : FRd b N f I J) (x : Int32) : ∃ I' J', mX4_expect (mk n I J) 94 x = some (mk n I' J') ∧ FRd b N f I' J' ∧ Fo I I' ∧ Go J J' := by
  obtain ⟨I', J', e, h', f1, g1⟩ := T_next (n := n) h
  refine ⟨I', J', ?_, h', f1, g1⟩
  unfold mX4_expect
  simp (disch := omega) only [mk_oO o_48, mk_oO o_94, mk_oO o_98, mk_gR f_48_0, mk_gR f_48_1, mk_gR f_48_2, mk_gR f_48_3, mk_gR f_48_4, mk_gR f_48_5, mk_gR f_48_6, mk_gR f_48_7, mk_gR f_94_0, mk_gR f_94_1, mk_gR f_94_2, mk_gR f_94_3, mk_gR f_94_4, mk_gI f_94_5, mk_pI f_94_5, mk_gI f_94_6, mk_pI f_94_6, mk_gI f_94_7, mk_pI f_94_7, mk_gR f_98_0, mk_gR f_98_1, mk_gI f_98_2, mk_pI f_98_2, mk_gI f_98_3, mk_pI f_98_3, mk_gI f_98_4, mk_pI f_98_4, mk_gI f_98_5, mk_pI f_98_5, mk_gI f_98_6, mk_pI f_98_6, mk_gL f_98_7, mk_pL f_98_7, obs, e, failF h'.2.1 h'.2.2.1 h'.2.2.2, ite_self]
theorem T_number (h : FRd b N f I J) (lo hi : Int32) : ∃ I' J', mX4_number (mk n I J) 94 lo hi = some (lo, mk n I' J') ∧ FRd b N f I' J' ∧ Fo I I' ∧ Go J J' := by
  obtain ⟨I', J', e, h', f1, g1⟩ := T_next (n := n) h
  refine ⟨I', J', ?_, h', f1, g1⟩
  have hz := h'.2.1
  have h3 := h'.2.2.1
  have h4 := h'.2.2.2
  have e57 : mX4_number_b57 (mk n I' J') 94 lo = some (lo, mk n I' J') := by
    unfold mX4_number_b57
    simp (disch := omega) only [mk_oO o_48, mk_oO o_94, mk_oO o_98, mk_gR f_48_0, mk_gR f_48_1, mk_gR f_48_2, mk_gR f_48_3, mk_gR f_48_4, mk_gR f_48_5, mk_gR f_48_6, mk_gR f_48_7, mk_gR f_94_0, mk_gR f_94_1, mk_gR f_94_2, mk_gR f_94_3, mk_gR f_94_4, mk_gI f_94_5, mk_pI f_94_5, mk_gI f_94_6, mk_pI f_94_6, mk_gI f_94_7, mk_pI f_94_7, mk_gR f_98_0, mk_gR f_98_1, mk_gI f_98_2, mk_pI f_98_2, mk_gI f_98_3, mk_pI f_98_3, mk_gI f_98_4, mk_pI f_98_4, mk_gI f_98_5, mk_pI f_98_5, mk_gI f_98_6, mk_pI f_98_6, mk_gL f_98_7, mk_pL f_98_7, ↓m_1, ↓m_2, i_0, i_1, i_2, i_3, i_4, i_6, i_5, i_12, i_11, i_10, i_9999, i_7, i_9, i_8, i_24, i_100, i_56, i_48, i_13, i_176, i_232, i_224, i_32, i_999, i_99, i_900, i_97, i_90, i_30, i_20, i_59, i_14, i_50, i_29, i_22, i_19, i_18, i_17, i_96, i_61, i_57, i_51, i_41, i_26, i_2552, i_255, i_25, i_23, i_21, i_16, i_15, i_122, i_10000, i_31, dzF, obs, b2_some, rz0, rz1, rzb, n01, n01', n10, n01e, nI_add, nI_mul, ↓reduceIte, not_false_eq_true, not_true_eq_false, ite_not, hz, eqF]
  unfold mX4_number mX4_number_b52
  simp (disch := omega) only [mk_oO o_48, mk_oO o_94, mk_oO o_98, mk_gR f_48_0, mk_gR f_48_1, mk_gR f_48_2, mk_gR f_48_3, mk_gR f_48_4, mk_gR f_48_5, mk_gR f_48_6, mk_gR f_48_7, mk_gR f_94_0, mk_gR f_94_1, mk_gR f_94_2, mk_gR f_94_3, mk_gR f_94_4, mk_gI f_94_5, mk_pI f_94_5, mk_gI f_94_6, mk_pI f_94_6, mk_gI f_94_7, mk_pI f_94_7, mk_gR f_98_0, mk_gR f_98_1, mk_gI f_98_2, mk_pI f_98_2, mk_gI f_98_3, mk_pI f_98_3, mk_gI f_98_4, mk_pI f_98_4, mk_gI f_98_5, mk_pI f_98_5, mk_gI f_98_6, mk_pI f_98_6, mk_gL f_98_7, mk_pL f_98_7, obs, e, failF h'.2.1 h'.2.2.1 h'.2.2.2, e57, ite_self]
/-- the name's place, if it is there -/
theorem C_fdL {y : Int64} {m : Nat} (hm : m ≤ 26) (h5 : I 94 5 = nI m) : ∀ (k t fu : Nat), t + k = m → k < fu → (∃ i, t ≤ i ∧ i < m ∧ J 95 i = y ∧ (∀ j, t ≤ j → j < i → J 95 j ≠ y) ∧ mX4_find_L2 fu (mk n I J) 94 y (nI t) = some (nI i, mk n I J)) ∨ ((∀ j, t ≤ j → j < m → J 95 j ≠ y) ∧ mX4_find_L2 fu (mk n I J) 94 y (nI t) = some (M1, mk n I J)) := by
  intro k
  induction k with
  | zero =>
    intro t fu ht hf
    obtain ⟨fu, rfl⟩ : ∃ f, fu = f + 1 := ⟨fu - 1, by omega⟩
    refine Or.inr ⟨fun j h1 h2 => by omega, ?_⟩
    show mX4_find_b2 _ _ _ _ _ = _
    unfold mX4_find_b2
    simp (disch := omega) only [mk_oO o_48, mk_oO o_94, mk_oO o_98, mk_gR f_48_0, mk_gR f_48_1, mk_gR f_48_2, mk_gR f_48_3, mk_gR f_48_4, mk_gR f_48_5, mk_gR f_48_6, mk_gR f_48_7, mk_gR f_94_0, mk_gR f_94_1, mk_gR f_94_2, mk_gR f_94_3, mk_gR f_94_4, mk_gI f_94_5, mk_pI f_94_5, mk_gI f_94_6, mk_pI f_94_6, mk_gI f_94_7, mk_pI f_94_7, mk_gR f_98_0, mk_gR f_98_1, mk_gI f_98_2, mk_pI f_98_2, mk_gI f_98_3, mk_pI f_98_3, mk_gI f_98_4, mk_pI f_98_4, mk_gI f_98_5, mk_pI f_98_5, mk_gI f_98_6, mk_pI f_98_6, mk_gL f_98_7, mk_pL f_98_7, ↓m_1, ↓m_2, i_0, i_1, i_2, i_3, i_4, i_6, i_5, i_12, i_11, i_10, i_9999, i_7, i_9, i_8, i_24, i_100, i_56, i_48, i_13, i_176, i_232, i_224, i_32, i_999, i_99, i_900, i_97, i_90, i_30, i_20, i_59, i_14, i_50, i_29, i_22, i_19, i_18, i_17, i_96, i_61, i_57, i_51, i_41, i_26, i_2552, i_255, i_25, i_23, i_21, i_16, i_15, i_122, i_10000, i_31, dzF, obs, b2_some, rz0, rz1, rzb, n01, n01', n10, n01e, nI_add, nI_mul, ↓reduceIte, not_false_eq_true, not_true_eq_false, ite_not, h5, leT]
  | succ k ih =>
    intro t fu ht hf
    obtain ⟨fu, rfl⟩ : ∃ f, fu = f + 1 := ⟨fu - 1, by omega⟩
    have e0 : mX4_find_L2 (fu + 1) (mk n I J) 94 y (nI t) = if J 95 t = y then some (nI t, mk n I J) else mX4_find_L2 fu (mk n I J) 94 y (nI (t + 1)) := by
      show mX4_find_b2 _ _ _ _ _ = _
      unfold mX4_find_b2
      simp (disch := omega) only [mk_oO o_48, mk_oO o_94, mk_oO o_98, mk_gR f_48_0, mk_gR f_48_1, mk_gR f_48_2, mk_gR f_48_3, mk_gR f_48_4, mk_gR f_48_5, mk_gR f_48_6, mk_gR f_48_7, mk_gR f_94_0, mk_gR f_94_1, mk_gR f_94_2, mk_gR f_94_3, mk_gR f_94_4, mk_gI f_94_5, mk_pI f_94_5, mk_gI f_94_6, mk_pI f_94_6, mk_gI f_94_7, mk_pI f_94_7, mk_gR f_98_0, mk_gR f_98_1, mk_gI f_98_2, mk_pI f_98_2, mk_gI f_98_3, mk_pI f_98_3, mk_gI f_98_4, mk_pI f_98_4, mk_gI f_98_5, mk_pI f_98_5, mk_gI f_98_6, mk_pI f_98_6, mk_gL f_98_7, mk_pL f_98_7, ↓m_1, ↓m_2, i_0, i_1, i_2, i_3, i_4, i_6, i_5, i_12, i_11, i_10, i_9999, i_7, i_9, i_8, i_24, i_100, i_56, i_48, i_13, i_176, i_232, i_224, i_32, i_999, i_99, i_900, i_97, i_90, i_30, i_20, i_59, i_14, i_50, i_29, i_22, i_19, i_18, i_17, i_96, i_61, i_57, i_51, i_41, i_26, i_2552, i_255, i_25, i_23, i_21, i_16, i_15, i_122, i_10000, i_31, dzF, obs, b2_some, rz0, rz1, rzb, n01, n01', n10, n01e, nI_add, nI_mul, ↓reduceIte, not_false_eq_true, not_true_eq_false, ite_not, h5, leF, mk_aLn a_95]
    by_cases hc : J 95 t = y
    · rw [if_pos hc] at e0
      exact Or.inl ⟨t, Nat.le_refl _, by omega, hc, fun j h1 h2 => by omega, e0⟩
    · rw [if_neg hc] at e0
      rcases ih (t + 1) fu (by omega) (by omega) with ⟨i, h1, h2, h3, h4, h5⟩ | ⟨h1, h2⟩
      · refine Or.inl ⟨i, by omega, h2, h3, fun j k1 k2 => ?_, e0.trans h5⟩
        by_cases hj : j = t
        · subst hj; exact hc
        · exact h4 j (by omega) k2
      · refine Or.inr ⟨fun j k1 k2 => ?_, e0.trans h2⟩
        by_cases hj : j = t
        · subst hj; exact hc
        · exact h1 j (by omega) k2
theorem C_fd {m : Nat} (hm : m ≤ 26) (h5 : I 94 5 = nI m) (y : Int64) : (∃ i, i < m ∧ J 95 i = y ∧ (∀ j, j < i → J 95 j ≠ y) ∧ mX4_find (mk n I J) 94 y = some (nI i, mk n I J)) ∨ ((∀ j, j < m → J 95 j ≠ y) ∧ mX4_find (mk n I J) 94 y = some (M1, mk n I J)) := by
  have e0 : mX4_find (mk n I J) 94 y = mX4_find_L2 FU (mk n I J) 94 y (nI 0) := by
    unfold mX4_find
    rw [mk_oO o_94]
    rfl
  rw [e0]
  rcases C_fdL (n := n) (J := J) (y := y) hm h5 m 0 FU (by omega) (by unfold FU; omega) with ⟨i, h1, h2, h3, h4, h5⟩ | ⟨h1, h2⟩
  · exact Or.inl ⟨i, h2, h3, fun j hj => h4 j (Nat.zero_le _) hj, h5⟩
  · exact Or.inr ⟨fun j hj => h1 j (Nat.zero_le _) hj, h2⟩
/-- the same, of a word -/
theorem C_fdW (hc : CNm nm I J) (ho : NMok nm) {w : List Nat} (hw : isW w) : mX4_find (mk n I J) 94 (lN (enc 27 w)) = some (if fnd w nm = nm.length then M1 else nI (fnd w nm), mk n I J) := by
  have bw : enc 27 w < 10460353203 := enc_lt (by decide) 7 w hw.2.1 hw.2.2
  have key : ∀ i (hi : i < nm.length), (J 95 i = lN (enc 27 w) ↔ (nm[i]).1 = w) := fun i hi => by
    have hx := ho.2.1 nm[i] (List.getElem_mem hi)
    have hb : enc 27 (nm[i]).1 < 10460353203 := enc_lt (by decide) 7 _ hx.1.2.1 hx.1.2.2
    rw [(hc.2 i _ (List.getElem?_eq_getElem hi)).1, lL_eq (by omega) (by omega)]
    exact ⟨fun z => enc_inj (by decide) hx.1.2.2 hw.2.2 z, fun z => by rw [z]⟩
  rcases C_fd (n := n) (J := J) ho.1 hc.1 (lN (enc 27 w)) with ⟨i, h1, h2, h3, h4⟩ | ⟨h1, h2⟩
  · have hl := fnd_le w nm
    have e1 := (key i h1).mp h2
    have hlt : fnd w nm < nm.length := by
      rcases Nat.lt_or_ge (fnd w nm) nm.length with z | z
      · exact z
      · exact absurd e1 (fnd_no w nm (by omega) i h1)
    obtain ⟨f1, f2⟩ := fnd_at w nm hlt
    have : fnd w nm = i := by
      rcases Nat.lt_trichotomy (fnd w nm) i with z | z | z
      · exact absurd ((key _ hlt).mpr f1) (h3 _ z)
      · exact z
      · exact absurd e1 (f2 i z)
    rw [h4, if_neg (by omega), this]
  · have : fnd w nm = nm.length := by
      have hl := fnd_le w nm
      rcases Nat.lt_or_ge (fnd w nm) nm.length with z | z
      · exact absurd ((key _ z).mpr (fnd_at w nm z).1) (h1 _ z)
      · omega
    rw [h2, if_pos this]
theorem C_isName (h5 : I 98 5 = nI (tK b N q)) (h6 : I 98 6 = ixW (tG b N q)) : mX7_isName (mk n I J) 98 = some (nI (if okName b N q then 1 else 0), mk n I J) := by
  have hg := tG_le (b := b) (N := N) q
  have hk : tK b N q ≤ 4 := by
    unfold tK kdP
    repeat' split
    all_goals omega
  unfold mX7_isName
  by_cases h1 : tK b N q = 1
  · by_cases h2 : tG b N q = 30
    · rw [if_pos ⟨h1, h2⟩]
      simp (disch := omega) only [mk_oO o_48, mk_oO o_94, mk_oO o_98, mk_gR f_48_0, mk_gR f_48_1, mk_gR f_48_2, mk_gR f_48_3, mk_gR f_48_4, mk_gR f_48_5, mk_gR f_48_6, mk_gR f_48_7, mk_gR f_94_0, mk_gR f_94_1, mk_gR f_94_2, mk_gR f_94_3, mk_gR f_94_4, mk_gI f_94_5, mk_pI f_94_5, mk_gI f_94_6, mk_pI f_94_6, mk_gI f_94_7, mk_pI f_94_7, mk_gR f_98_0, mk_gR f_98_1, mk_gI f_98_2, mk_pI f_98_2, mk_gI f_98_3, mk_pI f_98_3, mk_gI f_98_4, mk_pI f_98_4, mk_gI f_98_5, mk_pI f_98_5, mk_gI f_98_6, mk_pI f_98_6, mk_gL f_98_7, mk_pL f_98_7, ↓m_1, ↓m_2, i_0, i_1, i_2, i_3, i_4, i_6, i_5, i_12, i_11, i_10, i_9999, i_7, i_9, i_8, i_24, i_100, i_56, i_48, i_13, i_176, i_232, i_224, i_32, i_999, i_99, i_900, i_97, i_90, i_30, i_20, i_59, i_14, i_50, i_29, i_22, i_19, i_18, i_17, i_96, i_61, i_57, i_51, i_41, i_26, i_2552, i_255, i_25, i_23, i_21, i_16, i_15, i_122, i_10000, i_31, dzF, obs, b2_some, rz0, rz1, rzb, n01, n01', n10, n01e, nI_add, nI_mul, ↓reduceIte, not_false_eq_true, not_true_eq_false, ite_not, h5, h6, h1, ixW_M1, h2]
    · rw [if_neg (fun z => h2 z.2)]
      simp (disch := omega) only [mk_oO o_48, mk_oO o_94, mk_oO o_98, mk_gR f_48_0, mk_gR f_48_1, mk_gR f_48_2, mk_gR f_48_3, mk_gR f_48_4, mk_gR f_48_5, mk_gR f_48_6, mk_gR f_48_7, mk_gR f_94_0, mk_gR f_94_1, mk_gR f_94_2, mk_gR f_94_3, mk_gR f_94_4, mk_gI f_94_5, mk_pI f_94_5, mk_gI f_94_6, mk_pI f_94_6, mk_gI f_94_7, mk_pI f_94_7, mk_gR f_98_0, mk_gR f_98_1, mk_gI f_98_2, mk_pI f_98_2, mk_gI f_98_3, mk_pI f_98_3, mk_gI f_98_4, mk_pI f_98_4, mk_gI f_98_5, mk_pI f_98_5, mk_gI f_98_6, mk_pI f_98_6, mk_gL f_98_7, mk_pL f_98_7, ↓m_1, ↓m_2, i_0, i_1, i_2, i_3, i_4, i_6, i_5, i_12, i_11, i_10, i_9999, i_7, i_9, i_8, i_24, i_100, i_56, i_48, i_13, i_176, i_232, i_224, i_32, i_999, i_99, i_900, i_97, i_90, i_30, i_20, i_59, i_14, i_50, i_29, i_22, i_19, i_18, i_17, i_96, i_61, i_57, i_51, i_41, i_26, i_2552, i_255, i_25, i_23, i_21, i_16, i_15, i_122, i_10000, i_31, dzF, obs, b2_some, rz0, rz1, rzb, n01, n01', n10, n01e, nI_add, nI_mul, ↓reduceIte, not_false_eq_true, not_true_eq_false, ite_not, h5, h6, h1, ixW_M1, h2]
  · rw [if_neg (fun z => h1 z.1)]
    simp (disch := omega) only [mk_oO o_48, mk_oO o_94, mk_oO o_98, mk_gR f_48_0, mk_gR f_48_1, mk_gR f_48_2, mk_gR f_48_3, mk_gR f_48_4, mk_gR f_48_5, mk_gR f_48_6, mk_gR f_48_7, mk_gR f_94_0, mk_gR f_94_1, mk_gR f_94_2, mk_gR f_94_3, mk_gR f_94_4, mk_gI f_94_5, mk_pI f_94_5, mk_gI f_94_6, mk_pI f_94_6, mk_gI f_94_7, mk_pI f_94_7, mk_gR f_98_0, mk_gR f_98_1, mk_gI f_98_2, mk_pI f_98_2, mk_gI f_98_3, mk_pI f_98_3, mk_gI f_98_4, mk_pI f_98_4, mk_gI f_98_5, mk_pI f_98_5, mk_gI f_98_6, mk_pI f_98_6, mk_gL f_98_7, mk_pL f_98_7, ↓m_1, ↓m_2, i_0, i_1, i_2, i_3, i_4, i_6, i_5, i_12, i_11, i_10, i_9999, i_7, i_9, i_8, i_24, i_100, i_56, i_48, i_13, i_176, i_232, i_224, i_32, i_999, i_99, i_900, i_97, i_90, i_30, i_20, i_59, i_14, i_50, i_29, i_22, i_19, i_18, i_17, i_96, i_61, i_57, i_51, i_41, i_26, i_2552, i_255, i_25, i_23, i_21, i_16, i_15, i_122, i_10000, i_31, dzF, obs, b2_some, rz0, rz1, rzb, n01, n01', n10, n01e, nI_add, nI_mul, ↓reduceIte, not_false_eq_true, not_true_eq_false, ite_not, h5, eqF]
theorem T_giveName (h : FRd b N f I J) {s : Nat} (hs : s ≤ 3) : ∃ I' J', mX4_giveName (mk n I J) 94 (nI s) = some (mk n I' J') ∧ FRd b N f I' J' ∧ Fo I I' ∧ Go J J' := by
  obtain ⟨I1, J1, e, h', f1, g1⟩ := T_next (n := n) h
  obtain ⟨⟨k1, k2, ⟨m, m1, m2⟩⟩, k3, k4, k5⟩ := id h'
  have ff : ∀ k : Int32, mX4_fail (mk n I1 J1) 94 k = some (mk n I1 J1) := fun k => failF h'.2.1 h'.2.2.1 h'.2.2.2 k
  have hn : ∃ v, mX7_isName (mk n I1 J1) 98 = some (v, mk n I1 J1) := by
    unfold mX7_isName
    simp (disch := omega) only [mk_oO o_48, mk_oO o_94, mk_oO o_98, mk_gR f_48_0, mk_gR f_48_1, mk_gR f_48_2, mk_gR f_48_3, mk_gR f_48_4, mk_gR f_48_5, mk_gR f_48_6, mk_gR f_48_7, mk_gR f_94_0, mk_gR f_94_1, mk_gR f_94_2, mk_gR f_94_3, mk_gR f_94_4, mk_gI f_94_5, mk_pI f_94_5, mk_gI f_94_6, mk_pI f_94_6, mk_gI f_94_7, mk_pI f_94_7, mk_gR f_98_0, mk_gR f_98_1, mk_gI f_98_2, mk_pI f_98_2, mk_gI f_98_3, mk_pI f_98_3, mk_gI f_98_4, mk_pI f_98_4, mk_gI f_98_5, mk_pI f_98_5, mk_gI f_98_6, mk_pI f_98_6, mk_gL f_98_7, mk_pL f_98_7, ↓m_1, ↓m_2, i_0, i_1, i_2, i_3, i_4, i_6, i_5, i_12, i_11, i_10, i_9999, i_7, i_9, i_8, i_24, i_100, i_56, i_48, i_13, i_176, i_232, i_224, i_32, i_999, i_99, i_900, i_97, i_90, i_30, i_20, i_59, i_14, i_50, i_29, i_22, i_19, i_18, i_17, i_96, i_61, i_57, i_51, i_41, i_26, i_2552, i_255, i_25, i_23, i_21, i_16, i_15, i_122, i_10000, i_31, dzF, obs, b2_some, rz0, rz1, rzb, n01, n01', n10, n01e, nI_add, nI_mul, ↓reduceIte, not_false_eq_true, not_true_eq_false, ite_not]
    by_cases z1 : I1 98 5 = nI 1
    · by_cases z2 : I1 98 6 = M1
      · exact ⟨_, by rw [if_pos z1, if_pos z2]⟩
      · exact ⟨_, by rw [if_pos z1, if_neg z2]⟩
    · exact ⟨_, by rw [if_neg z1]⟩
  obtain ⟨v, hn⟩ := hn
  unfold mX4_giveName
  by_cases hv : v = nI 0
  · refine ⟨I1, J1, ?_, h', f1, g1⟩
    simp (disch := omega) only [mk_oO o_48, mk_oO o_94, mk_oO o_98, mk_gR f_48_0, mk_gR f_48_1, mk_gR f_48_2, mk_gR f_48_3, mk_gR f_48_4, mk_gR f_48_5, mk_gR f_48_6, mk_gR f_48_7, mk_gR f_94_0, mk_gR f_94_1, mk_gR f_94_2, mk_gR f_94_3, mk_gR f_94_4, mk_gI f_94_5, mk_pI f_94_5, mk_gI f_94_6, mk_pI f_94_6, mk_gI f_94_7, mk_pI f_94_7, mk_gR f_98_0, mk_gR f_98_1, mk_gI f_98_2, mk_pI f_98_2, mk_gI f_98_3, mk_pI f_98_3, mk_gI f_98_4, mk_pI f_98_4, mk_gI f_98_5, mk_pI f_98_5, mk_gI f_98_6, mk_pI f_98_6, mk_gL f_98_7, mk_pL f_98_7, ↓m_1, ↓m_2, i_0, i_1, i_2, i_3, i_4, i_6, i_5, i_12, i_11, i_10, i_9999, i_7, i_9, i_8, i_24, i_100, i_56, i_48, i_13, i_176, i_232, i_224, i_32, i_999, i_99, i_900, i_97, i_90, i_30, i_20, i_59, i_14, i_50, i_29, i_22, i_19, i_18, i_17, i_96, i_61, i_57, i_51, i_41, i_26, i_2552, i_255, i_25, i_23, i_21, i_16, i_15, i_122, i_10000, i_31, dzF, obs, b2_some, rz0, rz1, rzb, n01, n01', n10, n01e, nI_add, nI_mul, ↓reduceIte, not_false_eq_true, not_true_eq_false, ite_not, e, hn, hv, ff]
  · rcases C_fd (n := n) (J := J1) m1 m2 (J1 98 7) with ⟨i, i1, -, -, i4⟩ | ⟨-, i2⟩
    · refine ⟨I1, J1, ?_, h', f1, g1⟩
      simp (disch := omega) only [mk_oO o_48, mk_oO o_94, mk_oO o_98, mk_gR f_48_0, mk_gR f_48_1, mk_gR f_48_2, mk_gR f_48_3, mk_gR f_48_4, mk_gR f_48_5, mk_gR f_48_6, mk_gR f_48_7, mk_gR f_94_0, mk_gR f_94_1, mk_gR f_94_2, mk_gR f_94_3, mk_gR f_94_4, mk_gI f_94_5, mk_pI f_94_5, mk_gI f_94_6, mk_pI f_94_6, mk_gI f_94_7, mk_pI f_94_7, mk_gR f_98_0, mk_gR f_98_1, mk_gI f_98_2, mk_pI f_98_2, mk_gI f_98_3, mk_pI f_98_3, mk_gI f_98_4, mk_pI f_98_4, mk_gI f_98_5, mk_pI f_98_5, mk_gI f_98_6, mk_pI f_98_6, mk_gL f_98_7, mk_pL f_98_7, ↓m_1, ↓m_2, i_0, i_1, i_2, i_3, i_4, i_6, i_5, i_12, i_11, i_10, i_9999, i_7, i_9, i_8, i_24, i_100, i_56, i_48, i_13, i_176, i_232, i_224, i_32, i_999, i_99, i_900, i_97, i_90, i_30, i_20, i_59, i_14, i_50, i_29, i_22, i_19, i_18, i_17, i_96, i_61, i_57, i_51, i_41, i_26, i_2552, i_255, i_25, i_23, i_21, i_16, i_15, i_122, i_10000, i_31, dzF, obs, b2_some, rz0, rz1, rzb, n01, n01', n10, n01e, nI_add, nI_mul, ↓reduceIte, not_false_eq_true, not_true_eq_false, ite_not, e, hn, hv, i4, nM1, ff]
    · by_cases hm : m = 26
      · refine ⟨I1, J1, ?_, h', f1, g1⟩
        simp (disch := omega) only [mk_oO o_48, mk_oO o_94, mk_oO o_98, mk_gR f_48_0, mk_gR f_48_1, mk_gR f_48_2, mk_gR f_48_3, mk_gR f_48_4, mk_gR f_48_5, mk_gR f_48_6, mk_gR f_48_7, mk_gR f_94_0, mk_gR f_94_1, mk_gR f_94_2, mk_gR f_94_3, mk_gR f_94_4, mk_gI f_94_5, mk_pI f_94_5, mk_gI f_94_6, mk_pI f_94_6, mk_gI f_94_7, mk_pI f_94_7, mk_gR f_98_0, mk_gR f_98_1, mk_gI f_98_2, mk_pI f_98_2, mk_gI f_98_3, mk_pI f_98_3, mk_gI f_98_4, mk_pI f_98_4, mk_gI f_98_5, mk_pI f_98_5, mk_gI f_98_6, mk_pI f_98_6, mk_gL f_98_7, mk_pL f_98_7, ↓m_1, ↓m_2, i_0, i_1, i_2, i_3, i_4, i_6, i_5, i_12, i_11, i_10, i_9999, i_7, i_9, i_8, i_24, i_100, i_56, i_48, i_13, i_176, i_232, i_224, i_32, i_999, i_99, i_900, i_97, i_90, i_30, i_20, i_59, i_14, i_50, i_29, i_22, i_19, i_18, i_17, i_96, i_61, i_57, i_51, i_41, i_26, i_2552, i_255, i_25, i_23, i_21, i_16, i_15, i_122, i_10000, i_31, dzF, obs, b2_some, rz0, rz1, rzb, n01, n01', n10, n01e, nI_add, nI_mul, ↓reduceIte, not_false_eq_true, not_true_eq_false, ite_not, e, hn, hv, i2, m2, leT]
      · refine ⟨u2 (u2 (u2 I1 96 m (nI s)) 97 m (I1 49 s)) 94 5 (nI (m + 1)), u2 J1 95 m (J1 98 7), ?_, ⟨⟨k1.same (fun k => by rw [u2_no _ _ (by omega), u2_no _ _ (by omega), u2_no _ _ (by omega)]) (by rw [u2_no _ _ (by omega), u2_no _ _ (by omega), u2_no _ _ (by omega)]) (fun k => u2_no _ _ (by omega)), ?_, ⟨m + 1, by omega, u2_at _ _ _ _⟩⟩, by rw [u2_no _ _ (by omega), u2_no _ _ (by omega), u2_no _ _ (by omega)]; exact k3, k4, k5⟩, f1.trans (fun a c z1 z2 z3 z4 => by rw [u2_no _ _ (by omega), u2_no _ _ (by omega), u2_no _ _ (by omega)]), g1.trans (fun a c z1 z2 => u2_no _ _ (by omega))⟩
        · simp (disch := omega) only [mk_oO o_48, mk_oO o_94, mk_oO o_98, mk_gR f_48_0, mk_gR f_48_1, mk_gR f_48_2, mk_gR f_48_3, mk_gR f_48_4, mk_gR f_48_5, mk_gR f_48_6, mk_gR f_48_7, mk_gR f_94_0, mk_gR f_94_1, mk_gR f_94_2, mk_gR f_94_3, mk_gR f_94_4, mk_gI f_94_5, mk_pI f_94_5, mk_gI f_94_6, mk_pI f_94_6, mk_gI f_94_7, mk_pI f_94_7, mk_gR f_98_0, mk_gR f_98_1, mk_gI f_98_2, mk_pI f_98_2, mk_gI f_98_3, mk_pI f_98_3, mk_gI f_98_4, mk_pI f_98_4, mk_gI f_98_5, mk_pI f_98_5, mk_gI f_98_6, mk_pI f_98_6, mk_gL f_98_7, mk_pL f_98_7, ↓m_1, ↓m_2, i_0, i_1, i_2, i_3, i_4, i_6, i_5, i_12, i_11, i_10, i_9999, i_7, i_9, i_8, i_24, i_100, i_56, i_48, i_13, i_176, i_232, i_224, i_32, i_999, i_99, i_900, i_97, i_90, i_30, i_20, i_59, i_14, i_50, i_29, i_22, i_19, i_18, i_17, i_96, i_61, i_57, i_51, i_41, i_26, i_2552, i_255, i_25, i_23, i_21, i_16, i_15, i_122, i_10000, i_31, dzF, obs, b2_some, rz0, rz1, rzb, n01, n01', n10, n01e, nI_add, nI_mul, ↓reduceIte, not_false_eq_true, not_true_eq_false, ite_not, e, hn, hv, i2, m2, leF, mk_sLn a_95, mk_sIn a_96, u2_no, mk_aIn a_49, mk_sIn a_97]
        · obtain ⟨q, q1, q2⟩ := k2
          exact ⟨q, q1, by rw [u2_no _ _ (by omega), u2_no _ _ (by omega), u2_no _ _ (by omega)]; exact q2⟩
theorem T_toldOf (h : FRd b N f I J) (s : Int32) : ∃ I' J', mX4_toldOf (mk n I J) 94 s = some (nI 0, mk n I' J') ∧ FRd b N f I' J' ∧ Fo I I' ∧ Go J J' := by
  obtain ⟨I1, J1, e, h', f1, g1⟩ := T_next (n := n) h
  obtain ⟨⟨k1, k2, ⟨m, m1, m2⟩⟩, k3, k4, k5⟩ := id h'
  have ff : ∀ k : Int32, mX4_fail (mk n I1 J1) 94 k = some (mk n I1 J1) := fun k => failF h'.2.1 h'.2.2.1 h'.2.2.2 k
  have e57 : ∀ x : Int32, mX4_toldOf_b57 (mk n I1 J1) 94 x = some (nI 0, mk n I1 J1) := fun x => by
    unfold mX4_toldOf_b57
    simp (disch := omega) only [mk_oO o_48, mk_oO o_94, mk_oO o_98, mk_gR f_48_0, mk_gR f_48_1, mk_gR f_48_2, mk_gR f_48_3, mk_gR f_48_4, mk_gR f_48_5, mk_gR f_48_6, mk_gR f_48_7, mk_gR f_94_0, mk_gR f_94_1, mk_gR f_94_2, mk_gR f_94_3, mk_gR f_94_4, mk_gI f_94_5, mk_pI f_94_5, mk_gI f_94_6, mk_pI f_94_6, mk_gI f_94_7, mk_pI f_94_7, mk_gR f_98_0, mk_gR f_98_1, mk_gI f_98_2, mk_pI f_98_2, mk_gI f_98_3, mk_pI f_98_3, mk_gI f_98_4, mk_pI f_98_4, mk_gI f_98_5, mk_pI f_98_5, mk_gI f_98_6, mk_pI f_98_6, mk_gL f_98_7, mk_pL f_98_7, ↓m_1, ↓m_2, i_0, i_1, i_2, i_3, i_4, i_6, i_5, i_12, i_11, i_10, i_9999, i_7, i_9, i_8, i_24, i_100, i_56, i_48, i_13, i_176, i_232, i_224, i_32, i_999, i_99, i_900, i_97, i_90, i_30, i_20, i_59, i_14, i_50, i_29, i_22, i_19, i_18, i_17, i_96, i_61, i_57, i_51, i_41, i_26, i_2552, i_255, i_25, i_23, i_21, i_16, i_15, i_122, i_10000, i_31, dzF, obs, b2_some, rz0, rz1, rzb, n01, n01', n10, n01e, nI_add, nI_mul, ↓reduceIte, not_false_eq_true, not_true_eq_false, ite_not, k3, eqF]
  have e52 : ∀ x : Int32, mX4_toldOf_b52 (mk n I1 J1) 94 x = some (nI 0, mk n I1 J1) := fun x => by
    unfold mX4_toldOf_b52
    rw [ff, obs, e57]
  have hn : ∃ v, mX7_isName (mk n I1 J1) 98 = some (v, mk n I1 J1) := by
    unfold mX7_isName
    simp (disch := omega) only [mk_oO o_48, mk_oO o_94, mk_oO o_98, mk_gR f_48_0, mk_gR f_48_1, mk_gR f_48_2, mk_gR f_48_3, mk_gR f_48_4, mk_gR f_48_5, mk_gR f_48_6, mk_gR f_48_7, mk_gR f_94_0, mk_gR f_94_1, mk_gR f_94_2, mk_gR f_94_3, mk_gR f_94_4, mk_gI f_94_5, mk_pI f_94_5, mk_gI f_94_6, mk_pI f_94_6, mk_gI f_94_7, mk_pI f_94_7, mk_gR f_98_0, mk_gR f_98_1, mk_gI f_98_2, mk_pI f_98_2, mk_gI f_98_3, mk_pI f_98_3, mk_gI f_98_4, mk_pI f_98_4, mk_gI f_98_5, mk_pI f_98_5, mk_gI f_98_6, mk_pI f_98_6, mk_gL f_98_7, mk_pL f_98_7, ↓m_1, ↓m_2, i_0, i_1, i_2, i_3, i_4, i_6, i_5, i_12, i_11, i_10, i_9999, i_7, i_9, i_8, i_24, i_100, i_56, i_48, i_13, i_176, i_232, i_224, i_32, i_999, i_99, i_900, i_97, i_90, i_30, i_20, i_59, i_14, i_50, i_29, i_22, i_19, i_18, i_17, i_96, i_61, i_57, i_51, i_41, i_26, i_2552, i_255, i_25, i_23, i_21, i_16, i_15, i_122, i_10000, i_31, dzF, obs, b2_some, rz0, rz1, rzb, n01, n01', n10, n01e, nI_add, nI_mul, ↓reduceIte, not_false_eq_true, not_true_eq_false, ite_not]
    by_cases z1 : I1 98 5 = nI 1
    · by_cases z2 : I1 98 6 = M1
      · exact ⟨_, by rw [if_pos z1, if_pos z2]⟩
      · exact ⟨_, by rw [if_pos z1, if_neg z2]⟩
    · exact ⟨_, by rw [if_neg z1]⟩
  obtain ⟨v, hn⟩ := hn
  refine ⟨I1, J1, ?_, h', f1, g1⟩
  unfold mX4_toldOf
  rcases C_fd (n := n) (J := J1) m1 m2 (J1 98 7) with ⟨i, i1, -, -, i4⟩ | ⟨-, i2⟩
  · simp (disch := omega) only [mk_oO o_48, mk_oO o_94, mk_oO o_98, mk_gR f_48_0, mk_gR f_48_1, mk_gR f_48_2, mk_gR f_48_3, mk_gR f_48_4, mk_gR f_48_5, mk_gR f_48_6, mk_gR f_48_7, mk_gR f_94_0, mk_gR f_94_1, mk_gR f_94_2, mk_gR f_94_3, mk_gR f_94_4, mk_gI f_94_5, mk_pI f_94_5, mk_gI f_94_6, mk_pI f_94_6, mk_gI f_94_7, mk_pI f_94_7, mk_gR f_98_0, mk_gR f_98_1, mk_gI f_98_2, mk_pI f_98_2, mk_gI f_98_3, mk_pI f_98_3, mk_gI f_98_4, mk_pI f_98_4, mk_gI f_98_5, mk_pI f_98_5, mk_gI f_98_6, mk_pI f_98_6, mk_gL f_98_7, mk_pL f_98_7, obs, b2_some, e, i4, hn, ff, e57, e52, mk_aIn a_96, ite_self]
  · simp (disch := omega) only [mk_oO o_48, mk_oO o_94, mk_oO o_98, mk_gR f_48_0, mk_gR f_48_1, mk_gR f_48_2, mk_gR f_48_3, mk_gR f_48_4, mk_gR f_48_5, mk_gR f_48_6, mk_gR f_48_7, mk_gR f_94_0, mk_gR f_94_1, mk_gR f_94_2, mk_gR f_94_3, mk_gR f_94_4, mk_gI f_94_5, mk_pI f_94_5, mk_gI f_94_6, mk_pI f_94_6, mk_gI f_94_7, mk_pI f_94_7, mk_gR f_98_0, mk_gR f_98_1, mk_gI f_98_2, mk_pI f_98_2, mk_gI f_98_3, mk_pI f_98_3, mk_gI f_98_4, mk_pI f_98_4, mk_gI f_98_5, mk_pI f_98_5, mk_gI f_98_6, mk_pI f_98_6, mk_gL f_98_7, mk_pL f_98_7, ↓m_1, ↓m_2, i_0, i_1, i_2, i_3, i_4, i_6, i_5, i_12, i_11, i_10, i_9999, i_7, i_9, i_8, i_24, i_100, i_56, i_48, i_13, i_176, i_232, i_224, i_32, i_999, i_99, i_900, i_97, i_90, i_30, i_20, i_59, i_14, i_50, i_29, i_22, i_19, i_18, i_17, i_96, i_61, i_57, i_51, i_41, i_26, i_2552, i_255, i_25, i_23, i_21, i_16, i_15, i_122, i_10000, i_31, obs, b2_some, e, i2, hn, ff, e57, e52, ite_self, ↓reduceIte]
end CO
