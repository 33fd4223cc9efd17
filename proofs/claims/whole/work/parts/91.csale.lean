/-! ===== 91: a sale's line, the class's ===== -/
/-- the extras from q on: a fault or none, where they end, the row -/
def exS (b : Nat → Nat) (N : Nat) (nm : NmL) : Nat → Nat → (Nat → Nat) → Nat → Option Nat × Nat × (Nat → Nat)
  | 0, q, R, _ => (none, q, R)
  | k + 1, q, R, m => if tG b N q < 24 ∨ tG b N q = 30 then (none, q, R) else if tG b N q = 29 then (match tnQ b N (tE b N q) nm 2 with
      | none => (some (ftT b N (tE b N q)), q, R)
      | some a => if (R 11).testBit a = true then (some (8 * tP b N (tE b N q) + 2), q, R) else exS b N nm k (tE b N (tE b N q)) (uT R 11 (R 11 ||| 2 ^ a)) m)
    else if m.testBit (tG b N q) = true then (some (8 * tP b N q + 2), q, R) else if tG b N q = 24 then exS b N nm k (tE b N q) (uT R 6 1) (m ||| 2 ^ 24)
    else if okN b N (tE b N q) 0 (if tG b N q = 25 then 99 else 9999) then exS b N nm k (tE b N (tE b N q)) (uT R (tG b N q - 18) (tV b N (tE b N q))) (m ||| 2 ^ tG b N q) else (some (ftN b N (tE b N q)), q, R)
def rOK (R : Nat → Nat) : Prop := R 6 ≤ 1 ∧ R 7 ≤ 99 ∧ R 11 < 16 ∧ ∀ i, R i ≤ 9999
theorem or_lt16 {x a : Nat} (hx : x < 16) (ha : a < 4) : x ||| 2 ^ a < 16 := Nat.or_lt_two_pow (n := 4) hx (Nat.pow_lt_pow_right (by decide) ha)
theorem uTa (R : Nat → Nat) (k v : Nat) : uT R k v k = v := if_pos rfl
theorem uTn {R : Nat → Nat} {k v i : Nat} (h : i ≠ k) : uT R k v i = R i := if_neg h
theorem rOK.u11 {R : Nat → Nat} (h : rOK R) {a : Nat} (ha : a < 4) : rOK (uT R 11 (R 11 ||| 2 ^ a)) := by
  have := or_lt16 h.2.2.1 ha
  refine ⟨by rw [uTn (by decide)]; exact h.1, by rw [uTn (by decide)]; exact h.2.1, by rw [uTa]; exact this, fun i => ?_⟩
  by_cases hi : i = 11
  · subst hi; rw [uTa]; omega
  · rw [uTn hi]; exact h.2.2.2 i
theorem rOK.u6 {R : Nat → Nat} (h : rOK R) : rOK (uT R 6 1) := by
  refine ⟨by rw [uTa]; decide, by rw [uTn (by decide)]; exact h.2.1, by rw [uTn (by decide)]; exact h.2.2.1, fun i => ?_⟩
  by_cases hi : i = 6
  · subst hi; rw [uTa]; omega
  · rw [uTn hi]; exact h.2.2.2 i
theorem rOK.ug {R : Nat → Nat} (h : rOK R) {g v : Nat} (hg : 25 ≤ g ∧ g ≤ 28) (hv : v ≤ if g = 25 then 99 else 9999) : rOK (uT R (g - 18) v) := by
  refine ⟨by rw [uTn (by omega)]; exact h.1, ?_, by rw [uTn (by omega)]; exact h.2.2.1, fun i => ?_⟩
  · by_cases h25 : g = 25
    · rw [show g - 18 = 7 by omega, uTa]; rw [if_pos h25] at hv; exact hv
    · rw [uTn (by omega)]; exact h.2.1
  · by_cases hi : i = g - 18
    · subst hi
      rw [uTa]
      split at hv <;> omega
    · rw [uTn hi]; exact h.2.2.2 i
section EX
variable {n : Nat} {b : Nat → Nat} {N : Nat} {nm : NmL} {J : Nat → Nat → Int64}
theorem tG_pro {q : Nat} (hq : q ≤ N) (h : tG b N q ≠ 30) : tK b N q = 1 ∧ q < tE b N q := by
  have h1 : tK b N q = 1 := by
    rcases Nat.lt_or_ge (tK b N q) 1 with z | z
    · exact absurd (if_neg (by omega)) h
    · by_cases z2 : tK b N q = 1
      · exact z2
      · exact absurd (if_neg z2) h
  exact ⟨h1, (tK_word hq h1).2.1⟩
theorem exS_in {D : Nat → Nat} (hB : NB nm D) (h2 : D 2 ≤ 4) : ∀ (k q : Nat) (R : Nat → Nat) (m : Nat), q ≤ N → rOK R → q ≤ (exS b N nm k q R m).2.1 ∧ (exS b N nm k q R m).2.1 ≤ N ∧ rOK (exS b N nm k q R m).2.2 ∧ ∀ i, i < 6 → (exS b N nm k q R m).2.2 i = R i
  | 0, q, R, m, hq, hR => ⟨Nat.le_refl _, hq, hR, fun _ _ => rfl⟩
  | k + 1, q, R, m, hq, hR => by
    have hg := tG_le (b := b) (N := N) q
    have e1 := tE_in (b := b) hq
    have e2 := tE_in (b := b) e1.2
    have stop : ∀ o : Option Nat, q ≤ (o, q, R).2.1 ∧ (o, q, R).2.1 ≤ N ∧ rOK (o, q, R).2.2 ∧ ∀ i, i < 6 → (o, q, R).2.2 i = R i := fun o => ⟨Nat.le_refl _, hq, hR, fun _ _ => rfl⟩
    unfold exS
    by_cases h1 : tG b N q < 24 ∨ tG b N q = 30
    · rw [if_pos h1]; exact stop _
    rw [if_neg h1]
    by_cases h29 : tG b N q = 29
    · rw [if_pos h29]
      cases ht : tnQ b N (tE b N q) nm 2 with
      | none => exact stop _
      | some a =>
        have ha := hB.lt ht
        show _ ∧ _
        dsimp only
        by_cases hb : (R 11).testBit a = true
        · rw [if_pos hb]; exact stop _
        · rw [if_neg hb]
          obtain ⟨a1, a2, a3, a4⟩ := exS_in hB h2 k (tE b N (tE b N q)) (uT R 11 (R 11 ||| 2 ^ a)) m e2.2 (hR.u11 (by omega))
          exact ⟨by omega, a2, a3, fun i hi => by rw [a4 i hi]; exact uTn (by omega)⟩
    rw [if_neg h29]
    by_cases hb : m.testBit (tG b N q) = true
    · rw [if_pos hb]; exact stop _
    rw [if_neg hb]
    by_cases h24 : tG b N q = 24
    · rw [if_pos h24]
      obtain ⟨a1, a2, a3, a4⟩ := exS_in hB h2 k (tE b N q) (uT R 6 1) (m ||| 2 ^ 24) e1.2 hR.u6
      exact ⟨by omega, a2, a3, fun i hi => by rw [a4 i hi]; exact uTn (by omega)⟩
    rw [if_neg h24]
    by_cases hn : okN b N (tE b N q) 0 (if tG b N q = 25 then 99 else 9999)
    · rw [if_pos hn]
      obtain ⟨a1, a2, a3, a4⟩ := exS_in hB h2 k (tE b N (tE b N q)) (uT R (tG b N q - 18) (tV b N (tE b N q))) (m ||| 2 ^ tG b N q) e2.2 (hR.ug (by omega) hn.2.2)
      exact ⟨by omega, a2, a3, fun i hi => by rw [a4 i hi]; exact uTn (by omega)⟩
    · rw [if_neg hn]; exact stop _
/-- behind a fault the class's loop ends -/
theorem E_stop {f rc i fu : Nat} {I : Nat → Nat → Int32} (h : FRd b N f I J) (m : Int32) (hi : i ≤ 1000) (hf : 0 < fu) : mX4_readExtras_L4 fu (mk n I J) 94 rc m (nI i) = some (mk n I J) := by
  obtain ⟨fu, rfl⟩ : ∃ f, fu = f + 1 := ⟨fu - 1, by omega⟩
  have h7 := h.2.1
  have h1 := h.2.2.1
  have h2 := h.2.2.2
  show mX4_readExtras_b4 _ _ _ _ _ _ = _
  unfold mX4_readExtras_b4
  rw [i_900]
  by_cases hi9 : 900 ≤ i
  · rw [if_pos (of_eq_true (leT (by omega) (by omega)))]
  · rw [if_neg (of_eq_false (leF (by omega) (by omega))), mk_gI f_94_7, obs, h7, i_0, if_neg (of_eq_false (eqF (by omega) (by omega) (by omega)))]
theorem M1_24 : (M1 < nI 24) = True := eq_true (by decide)
theorem and_p0 {x a : Nat} (hx : x < 16) (ha : a < 4) : (nI x &&& nI (2 ^ a) = nI 0) = ¬ (x.testBit a = true) := by
  have : ∀ x : Fin 16, ∀ a : Fin 4, (nI x.1 &&& nI (2 ^ a.1) = nI 0) ↔ ¬ (x.1.testBit a.1 = true) := by decide
  exact propext (this ⟨x, hx⟩ ⟨a, ha⟩)
end EX
