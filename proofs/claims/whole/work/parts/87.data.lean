/-! ===== 87: what a line tells, as numbers ===== -/
/-- one number c, and a row of len numbers from base on, told anew -/
def rwT (D : Nat → Nat) (c v base len : Nat) (R : Nat → Nat) : Nat → Nat := fun j => if j = c then v else if base ≤ j ∧ j < base + len then R (j - base) else D j
theorem rwT_c (D : Nat → Nat) (c v base len : Nat) (R : Nat → Nat) : rwT D c v base len R c = v := if_pos rfl
theorem rwT_in {D : Nat → Nat} {c v base len : Nat} {R : Nat → Nat} {i : Nat} (h : base + i ≠ c) (hi : i < len) : rwT D c v base len R (base + i) = R i := by
  unfold rwT
  rw [if_neg h, if_pos ⟨by omega, by omega⟩, Nat.add_sub_cancel_left]
theorem rwT_out {D : Nat → Nat} {c v base len : Nat} {R : Nat → Nat} {j : Nat} (h : j ≠ c) (hj : j < base ∨ base + len ≤ j) : rwT D c v base len R j = D j := by
  unfold rwT
  rw [if_neg h, if_neg (by omega)]
/-- bounds: what stays -/
theorem VT.ext {D D' : Nat → Nat} (hT : VT D) (hc : D' 0 ≤ 6 ∧ D' 1 ≤ 6 ∧ D' 2 ≤ 4 ∧ D' 3 ≤ 10 ∧ D' 4 ≤ 12 ∧ D' 5 ≤ 4) (hge : D 0 ≤ D' 0 ∧ D 1 ≤ D' 1) (hr : ∀ k, 6 ≤ k → k < 24 → D' k = D k) (ha : ∀ a, a < D' 2 → 1 ≤ D' (48 + 2 * a))
    (hs : ∀ s, s < D' 3 → D' (56 + 12 * s) < D' 1 ∧ D' (57 + 12 * s) < D' 0 ∧ D' (58 + 12 * s) < D' 0 ∧ 1 ≤ D' (59 + 12 * s) ∧ 1 ≤ D' (60 + 12 * s) ∧ D' (61 + 12 * s) ≤ 999 ∧ D' (62 + 12 * s) ≤ 1 ∧ D' (63 + 12 * s) ≤ 99 ∧ D' (67 + 12 * s) < 16)
    (hq : ∀ r, r < D' 4 → D' (176 + 4 * r) < D' 1 ∧ 1 ≤ D' (177 + 4 * r) ∧ 1 ≤ D' (178 + 4 * r) ∧ D' (179 + 4 * r) ≤ 999) (hg : ∀ g, g < D' 1 → D' (27 + 4 * g) ≤ 99) (hb : ∀ b, b < D' 5 → D' (225 + 2 * b) ≤ 90) (h9 : ∀ k, D' k ≤ 9999) : VT D' := by
  obtain ⟨-, b1, c1, c2, -⟩ := hT
  refine ⟨hc, ?_, fun k hk => ?_, fun k l hkl hl => ?_, ha, hs, hq, hg, hb, h9⟩
  · rw [hr 6 (by omega) (by omega), hr 7 (by omega) (by omega), hr 8 (by omega) (by omega), hr 9 (by omega) (by omega), hr 10 (by omega) (by omega), hr 11 (by omega) (by omega)]; exact b1
  · rw [hr 11 (by omega) (by omega)] at hk
    have := c1 k hk
    rw [hr (12 + 2 * k) (by omega) (by omega), hr (13 + 2 * k) (by omega) (by omega)]
    omega
  · rw [hr 11 (by omega) (by omega)] at hl
    rw [hr (12 + 2 * k) (by omega) (by omega), hr (12 + 2 * l) (by omega) (by omega), hr (13 + 2 * k) (by omega) (by omega), hr (13 + 2 * l) (by omega) (by omega)]
    exact c2 k l hkl hl
/-- the world at b tells D' where its rows do -/
theorem WR.ext {I I' : Nat → Nat → Int32} {D D' : Nat → Nat} {b : Nat} (h : WR I b D) (hD : D 11 ≤ 6) (ht : ∀ k, k < 11 → I' (b + 1) k = nI (D' k)) (h13 : I' (b + 1) 13 = I (b + 1) 13) (hk : ∀ p, p < 6 → I' (b + 2) p = I (b + 2) p) (hr : ∀ k, 11 ≤ k → k < 24 → D' k = D k)
    (hg : ∀ g j, g < D' 1 → j < 4 → I' (b + 4 + g) j = nI (D' (24 + 4 * g + j))) (ha : ∀ a j, a < D' 2 → j < 2 → I' (b + 11 + a) j = nI (D' (48 + 2 * a + j))) (hs : ∀ s j, s < D' 3 → j < 12 → I' (b + 16 + s) j = nI (D' (56 + 12 * s + j))) (hq : ∀ r j, r < D' 4 → j < 4 → I' (b + 28 + r) j = nI (D' (176 + 4 * r + j))) (hb : ∀ q j, q < D' 5 → j < 2 → I' (b + 41 + q) j = nI (D' (224 + 2 * q + j))) : WR I' b D' := by
  obtain ⟨h1, h2, h3, h4, h5, h6, h7, h8⟩ := h
  refine ⟨ht, by rw [h13, hr 11 (by omega) (by omega)]; exact h2, hg, ha, hs, hq, hb, fun p hp => ?_⟩
  obtain ⟨m, m1, m2, m3⟩ := h8 p hp
  exact ⟨m, m1, by rw [hk p hp]; exact m2, fun q hq => by rw [told_eq hr hD]; exact m3 q hq⟩
section DT
variable {I I' : Nat → Nat → Int32} {D : Nat → Nat} {R : Nat → Nat}
theorem VT.party (hT : VT D) (h : D 0 < 6) : VT (rwT D 0 (D 0 + 1) 0 0 R) := by
  have o : ∀ j, j ≠ 0 → rwT D 0 (D 0 + 1) 0 0 R j = D j := fun j hj => rwT_out hj (by omega)
  have b0 := hT.1
  have c0 : rwT D 0 (D 0 + 1) 0 0 R 0 = D 0 + 1 := rwT_c _ _ _ _ _ _
  obtain ⟨-, -, -, -, c3, c4, c5, c6, c7, c8⟩ := id hT
  refine hT.ext (by rw [c0, o 1 (by omega), o 2 (by omega), o 3 (by omega), o 4 (by omega), o 5 (by omega)]; omega) (by rw [c0, o 1 (by omega)]; omega) (fun k h1 h2 => o k (by omega)) (fun a h => ?_) (fun s h => ?_) (fun r h => ?_) (fun g h => ?_) (fun q h => ?_) (fun k => ?_)
  · rw [o 2 (by omega)] at h; rw [o _ (by omega)]; exact c3 a h
  · rw [o 3 (by omega)] at h
    have := c4 s h
    rw [c0, o 1 (by omega), o _ (by omega), o _ (by omega), o _ (by omega), o _ (by omega), o _ (by omega), o _ (by omega), o _ (by omega), o _ (by omega), o _ (by omega)]
    omega
  · rw [o 4 (by omega)] at h
    rw [o 1 (by omega), o _ (by omega), o _ (by omega), o _ (by omega), o _ (by omega)]; exact c5 r h
  · rw [o 1 (by omega)] at h; rw [o _ (by omega)]; exact c6 g h
  · rw [o 5 (by omega)] at h; rw [o _ (by omega)]; exact c7 q h
  · by_cases hk : k = 0
    · subst hk; rw [c0]; omega
    · rw [o k hk]; exact c8 k
theorem VT.good (hT : VT D) (h : D 1 < 6) (h3 : R 3 ≤ 99) (h9 : ∀ i, R i ≤ 9999) : VT (rwT D 1 (D 1 + 1) (24 + 4 * D 1) 4 R) := by
  have o : ∀ j, j ≠ 1 → j < 24 + 4 * D 1 ∨ 28 + 4 * D 1 ≤ j → rwT D 1 (D 1 + 1) (24 + 4 * D 1) 4 R j = D j := fun j hj hj' => rwT_out hj (by omega)
  have b0 := hT.1
  have c0 : rwT D 1 (D 1 + 1) (24 + 4 * D 1) 4 R 1 = D 1 + 1 := rwT_c _ _ _ _ _ _
  have ri : ∀ i, i < 4 → rwT D 1 (D 1 + 1) (24 + 4 * D 1) 4 R (24 + 4 * D 1 + i) = R i := fun i hi => rwT_in (by omega) hi
  obtain ⟨-, -, -, -, c3, c4, c5, c6, c7, c8⟩ := id hT
  refine hT.ext (by rw [c0, o 0 (by omega) (by omega), o 2 (by omega) (by omega), o 3 (by omega) (by omega), o 4 (by omega) (by omega), o 5 (by omega) (by omega)]; omega) (by rw [c0, o 0 (by omega) (by omega)]; omega) (fun k h1 h2 => o k (by omega) (by omega)) (fun a h => ?_) (fun s h => ?_) (fun r h => ?_) (fun g h => ?_) (fun q h => ?_) (fun k => ?_)
  · rw [o 2 (by omega) (by omega)] at h; rw [o _ (by omega) (by omega)]; exact c3 a h
  · rw [o 3 (by omega) (by omega)] at h
    have := c4 s h
    rw [c0, o 0 (by omega) (by omega), o _ (by omega) (by omega), o _ (by omega) (by omega), o _ (by omega) (by omega), o _ (by omega) (by omega), o _ (by omega) (by omega), o _ (by omega) (by omega), o _ (by omega) (by omega), o _ (by omega) (by omega), o _ (by omega) (by omega)]
    omega
  · rw [o 4 (by omega) (by omega)] at h
    have := c5 r h
    rw [c0, o _ (by omega) (by omega), o _ (by omega) (by omega), o _ (by omega) (by omega), o _ (by omega) (by omega)]
    omega
  · rw [c0] at h
    by_cases hg : g = D 1
    · subst hg
      rw [show 27 + 4 * D 1 = 24 + 4 * D 1 + 3 by omega, ri 3 (by omega)]; exact h3
    · rw [o _ (by omega) (by omega)]; exact c6 g (by omega)
  · rw [o 5 (by omega) (by omega)] at h; rw [o _ (by omega) (by omega)]; exact c7 q h
  · by_cases hk : k = 1
    · subst hk; rw [c0]; omega
    · by_cases hk2 : k < 24 + 4 * D 1 ∨ 28 + 4 * D 1 ≤ k
      · rw [o k hk hk2]; exact c8 k
      · rw [show k = 24 + 4 * D 1 + (k - (24 + 4 * D 1)) by omega, ri _ (by omega)]; exact h9 _
theorem VT.assist (hT : VT D) (h : D 2 < 4) (h0 : 1 ≤ R 0) (h9 : ∀ i, R i ≤ 9999) : VT (rwT D 2 (D 2 + 1) (48 + 2 * D 2) 2 R) := by
  have o : ∀ j, j ≠ 2 → j < 48 + 2 * D 2 ∨ 50 + 2 * D 2 ≤ j → rwT D 2 (D 2 + 1) (48 + 2 * D 2) 2 R j = D j := fun j hj hj' => rwT_out hj (by omega)
  have b0 := hT.1
  have c0 : rwT D 2 (D 2 + 1) (48 + 2 * D 2) 2 R 2 = D 2 + 1 := rwT_c _ _ _ _ _ _
  have ri : ∀ i, i < 2 → rwT D 2 (D 2 + 1) (48 + 2 * D 2) 2 R (48 + 2 * D 2 + i) = R i := fun i hi => rwT_in (by omega) hi
  obtain ⟨-, -, -, -, c3, c4, c5, c6, c7, c8⟩ := id hT
  refine hT.ext (by rw [c0, o 0 (by omega) (by omega), o 1 (by omega) (by omega), o 3 (by omega) (by omega), o 4 (by omega) (by omega), o 5 (by omega) (by omega)]; omega) (by rw [o 0 (by omega) (by omega), o 1 (by omega) (by omega)]; omega) (fun k h1 h2 => o k (by omega) (by omega)) (fun a h => ?_) (fun s h => ?_) (fun r h => ?_) (fun g h => ?_) (fun q h => ?_) (fun k => ?_)
  · rw [c0] at h
    by_cases hg : a = D 2
    · subst hg
      have r0 : rwT D 2 (D 2 + 1) (48 + 2 * D 2) 2 R (48 + 2 * D 2) = R 0 := ri 0 (by omega)
      rw [r0]; exact h0
    · rw [o _ (by omega) (by omega)]; exact c3 a (by omega)
  · rw [o 3 (by omega) (by omega)] at h
    rw [o 0 (by omega) (by omega), o 1 (by omega) (by omega), o _ (by omega) (by omega), o _ (by omega) (by omega), o _ (by omega) (by omega), o _ (by omega) (by omega), o _ (by omega) (by omega), o _ (by omega) (by omega), o _ (by omega) (by omega), o _ (by omega) (by omega), o _ (by omega) (by omega)]
    exact c4 s h
  · rw [o 4 (by omega) (by omega)] at h
    rw [o 1 (by omega) (by omega), o _ (by omega) (by omega), o _ (by omega) (by omega), o _ (by omega) (by omega), o _ (by omega) (by omega)]; exact c5 r h
  · rw [o 1 (by omega) (by omega)] at h; rw [o _ (by omega) (by omega)]; exact c6 g h
  · rw [o 5 (by omega) (by omega)] at h; rw [o _ (by omega) (by omega)]; exact c7 q h
  · by_cases hk : k = 2
    · subst hk; rw [c0]; omega
    · by_cases hk2 : k < 48 + 2 * D 2 ∨ 50 + 2 * D 2 ≤ k
      · rw [o k hk hk2]; exact c8 k
      · rw [show k = 48 + 2 * D 2 + (k - (48 + 2 * D 2)) by omega, ri _ (by omega)]; exact h9 _
theorem VT.sale (hT : VT D) (h : D 3 < 10) (hR : R 0 < D 1 ∧ R 1 < D 0 ∧ R 2 < D 0 ∧ 1 ≤ R 3 ∧ 1 ≤ R 4 ∧ R 5 ≤ 999 ∧ R 6 ≤ 1 ∧ R 7 ≤ 99 ∧ R 11 < 16) (h9 : ∀ i, R i ≤ 9999) : VT (rwT D 3 (D 3 + 1) (56 + 12 * D 3) 12 R) := by
  have o : ∀ j, j ≠ 3 → j < 56 + 12 * D 3 ∨ 68 + 12 * D 3 ≤ j → rwT D 3 (D 3 + 1) (56 + 12 * D 3) 12 R j = D j := fun j hj hj' => rwT_out hj (by omega)
  have b0 := hT.1
  have c0 : rwT D 3 (D 3 + 1) (56 + 12 * D 3) 12 R 3 = D 3 + 1 := rwT_c _ _ _ _ _ _
  have ri : ∀ i, i < 12 → rwT D 3 (D 3 + 1) (56 + 12 * D 3) 12 R (56 + 12 * D 3 + i) = R i := fun i hi => rwT_in (by omega) hi
  obtain ⟨-, -, -, -, c3, c4, c5, c6, c7, c8⟩ := id hT
  refine hT.ext (by rw [c0, o 0 (by omega) (by omega), o 1 (by omega) (by omega), o 2 (by omega) (by omega), o 4 (by omega) (by omega), o 5 (by omega) (by omega)]; omega) (by rw [o 0 (by omega) (by omega), o 1 (by omega) (by omega)]; omega) (fun k h1 h2 => o k (by omega) (by omega)) (fun a h => ?_) (fun s h => ?_) (fun r h => ?_) (fun g h => ?_) (fun q h => ?_) (fun k => ?_)
  · rw [o 2 (by omega) (by omega)] at h; rw [o _ (by omega) (by omega)]; exact c3 a h
  · rw [c0] at h
    rw [o 0 (by omega) (by omega), o 1 (by omega) (by omega)]
    by_cases hg : s = D 3
    · subst hg
      have r0 : rwT D 3 (D 3 + 1) (56 + 12 * D 3) 12 R (56 + 12 * D 3) = R 0 := ri 0 (by omega)
      rw [r0, show 57 + 12 * D 3 = 56 + 12 * D 3 + 1 by omega, show 58 + 12 * D 3 = 56 + 12 * D 3 + 2 by omega, show 59 + 12 * D 3 = 56 + 12 * D 3 + 3 by omega, show 60 + 12 * D 3 = 56 + 12 * D 3 + 4 by omega, show 61 + 12 * D 3 = 56 + 12 * D 3 + 5 by omega, show 62 + 12 * D 3 = 56 + 12 * D 3 + 6 by omega, show 63 + 12 * D 3 = 56 + 12 * D 3 + 7 by omega, show 67 + 12 * D 3 = 56 + 12 * D 3 + 11 by omega, ri 1 (by omega), ri 2 (by omega), ri 3 (by omega), ri 4 (by omega), ri 5 (by omega), ri 6 (by omega), ri 7 (by omega), ri 11 (by omega)]
      exact hR
    · rw [o _ (by omega) (by omega), o _ (by omega) (by omega), o _ (by omega) (by omega), o _ (by omega) (by omega), o _ (by omega) (by omega), o _ (by omega) (by omega), o _ (by omega) (by omega), o _ (by omega) (by omega), o _ (by omega) (by omega)]
      exact c4 s (by omega)
  · rw [o 4 (by omega) (by omega)] at h
    rw [o 1 (by omega) (by omega), o _ (by omega) (by omega), o _ (by omega) (by omega), o _ (by omega) (by omega), o _ (by omega) (by omega)]; exact c5 r h
  · rw [o 1 (by omega) (by omega)] at h; rw [o _ (by omega) (by omega)]; exact c6 g h
  · rw [o 5 (by omega) (by omega)] at h; rw [o _ (by omega) (by omega)]; exact c7 q h
  · by_cases hk : k = 3
    · subst hk; rw [c0]; omega
    · by_cases hk2 : k < 56 + 12 * D 3 ∨ 68 + 12 * D 3 ≤ k
      · rw [o k hk hk2]; exact c8 k
      · rw [show k = 56 + 12 * D 3 + (k - (56 + 12 * D 3)) by omega, ri _ (by omega)]; exact h9 _
theorem VT.resold (hT : VT D) (h : D 4 < 12) (hR : R 0 < D 1 ∧ 1 ≤ R 1 ∧ 1 ≤ R 2 ∧ R 3 ≤ 999) (h9 : ∀ i, R i ≤ 9999) : VT (rwT D 4 (D 4 + 1) (176 + 4 * D 4) 4 R) := by
  have o : ∀ j, j ≠ 4 → j < 176 + 4 * D 4 ∨ 180 + 4 * D 4 ≤ j → rwT D 4 (D 4 + 1) (176 + 4 * D 4) 4 R j = D j := fun j hj hj' => rwT_out hj (by omega)
  have b0 := hT.1
  have c0 : rwT D 4 (D 4 + 1) (176 + 4 * D 4) 4 R 4 = D 4 + 1 := rwT_c _ _ _ _ _ _
  have ri : ∀ i, i < 4 → rwT D 4 (D 4 + 1) (176 + 4 * D 4) 4 R (176 + 4 * D 4 + i) = R i := fun i hi => rwT_in (by omega) hi
  obtain ⟨-, -, -, -, c3, c4, c5, c6, c7, c8⟩ := id hT
  refine hT.ext (by rw [c0, o 0 (by omega) (by omega), o 1 (by omega) (by omega), o 2 (by omega) (by omega), o 3 (by omega) (by omega), o 5 (by omega) (by omega)]; omega) (by rw [o 0 (by omega) (by omega), o 1 (by omega) (by omega)]; omega) (fun k h1 h2 => o k (by omega) (by omega)) (fun a h => ?_) (fun s h => ?_) (fun r h => ?_) (fun g h => ?_) (fun q h => ?_) (fun k => ?_)
  · rw [o 2 (by omega) (by omega)] at h; rw [o _ (by omega) (by omega)]; exact c3 a h
  · rw [o 3 (by omega) (by omega)] at h
    rw [o 0 (by omega) (by omega), o 1 (by omega) (by omega), o _ (by omega) (by omega), o _ (by omega) (by omega), o _ (by omega) (by omega), o _ (by omega) (by omega), o _ (by omega) (by omega), o _ (by omega) (by omega), o _ (by omega) (by omega), o _ (by omega) (by omega), o _ (by omega) (by omega)]
    exact c4 s h
  · rw [c0] at h
    rw [o 1 (by omega) (by omega)]
    by_cases hg : r = D 4
    · subst hg
      have r0 : rwT D 4 (D 4 + 1) (176 + 4 * D 4) 4 R (176 + 4 * D 4) = R 0 := ri 0 (by omega)
      rw [r0, show 177 + 4 * D 4 = 176 + 4 * D 4 + 1 by omega, show 178 + 4 * D 4 = 176 + 4 * D 4 + 2 by omega, show 179 + 4 * D 4 = 176 + 4 * D 4 + 3 by omega, ri 1 (by omega), ri 2 (by omega), ri 3 (by omega)]
      exact hR
    · rw [o _ (by omega) (by omega), o _ (by omega) (by omega), o _ (by omega) (by omega), o _ (by omega) (by omega)]; exact c5 r (by omega)
  · rw [o 1 (by omega) (by omega)] at h; rw [o _ (by omega) (by omega)]; exact c6 g h
  · rw [o 5 (by omega) (by omega)] at h; rw [o _ (by omega) (by omega)]; exact c7 q h
  · by_cases hk : k = 4
    · subst hk; rw [c0]; omega
    · by_cases hk2 : k < 176 + 4 * D 4 ∨ 180 + 4 * D 4 ≤ k
      · rw [o k hk hk2]; exact c8 k
      · rw [show k = 176 + 4 * D 4 + (k - (176 + 4 * D 4)) by omega, ri _ (by omega)]; exact h9 _
theorem VT.band (hT : VT D) (h : D 5 < 4) (h1 : R 1 ≤ 90) (h9 : ∀ i, R i ≤ 9999) : VT (rwT D 5 (D 5 + 1) (224 + 2 * D 5) 2 R) := by
  have o : ∀ j, j ≠ 5 → j < 224 + 2 * D 5 ∨ 226 + 2 * D 5 ≤ j → rwT D 5 (D 5 + 1) (224 + 2 * D 5) 2 R j = D j := fun j hj hj' => rwT_out hj (by omega)
  have b0 := hT.1
  have c0 : rwT D 5 (D 5 + 1) (224 + 2 * D 5) 2 R 5 = D 5 + 1 := rwT_c _ _ _ _ _ _
  have ri : ∀ i, i < 2 → rwT D 5 (D 5 + 1) (224 + 2 * D 5) 2 R (224 + 2 * D 5 + i) = R i := fun i hi => rwT_in (by omega) hi
  obtain ⟨-, -, -, -, c3, c4, c5, c6, c7, c8⟩ := id hT
  refine hT.ext (by rw [c0, o 0 (by omega) (by omega), o 1 (by omega) (by omega), o 2 (by omega) (by omega), o 3 (by omega) (by omega), o 4 (by omega) (by omega)]; omega) (by rw [o 0 (by omega) (by omega), o 1 (by omega) (by omega)]; omega) (fun k h1 h2 => o k (by omega) (by omega)) (fun a h => ?_) (fun s h => ?_) (fun r h => ?_) (fun g h => ?_) (fun q h => ?_) (fun k => ?_)
  · rw [o 2 (by omega) (by omega)] at h; rw [o _ (by omega) (by omega)]; exact c3 a h
  · rw [o 3 (by omega) (by omega)] at h
    rw [o 0 (by omega) (by omega), o 1 (by omega) (by omega), o _ (by omega) (by omega), o _ (by omega) (by omega), o _ (by omega) (by omega), o _ (by omega) (by omega), o _ (by omega) (by omega), o _ (by omega) (by omega), o _ (by omega) (by omega), o _ (by omega) (by omega), o _ (by omega) (by omega)]
    exact c4 s h
  · rw [o 4 (by omega) (by omega)] at h
    rw [o 1 (by omega) (by omega), o _ (by omega) (by omega), o _ (by omega) (by omega), o _ (by omega) (by omega), o _ (by omega) (by omega)]; exact c5 r h
  · rw [o 1 (by omega) (by omega)] at h; rw [o _ (by omega) (by omega)]; exact c6 g h
  · rw [c0] at h
    by_cases hg : q = D 5
    · subst hg
      rw [show 225 + 2 * D 5 = 224 + 2 * D 5 + 1 by omega, ri 1 (by omega)]; exact h1
    · rw [o _ (by omega) (by omega)]; exact c7 q (by omega)
  · by_cases hk : k = 5
    · subst hk; rw [c0]; omega
    · by_cases hk2 : k < 224 + 2 * D 5 ∨ 226 + 2 * D 5 ≤ k
      · rw [o k hk hk2]; exact c8 k
      · rw [show k = 224 + 2 * D 5 + (k - (224 + 2 * D 5)) by omega, ri _ (by omega)]; exact h9 _
end DT
