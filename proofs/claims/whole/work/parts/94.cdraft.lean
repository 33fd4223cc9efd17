/-! ===== 94: the class's draft behind a line ===== -/
section WD
variable {I I' : Nat → Nat → Int32} {D : Nat → Nat} {R : Nat → Nat}
theorem WR.good (hT : VT D) (h : WR I 48 D) (hlt : D 1 < 6) (hR : Rw I I' 1 (D 1 + 1) (52 + D 1) 4 R) : WR I' 48 (rwT D 1 (D 1 + 1) (24 + 4 * D 1) 4 R) := by
  obtain ⟨k1, k2, k3, -⟩ := hR
  have b0 := hT.1
  have b1 := hT.2.1
  have o : ∀ j, j ≠ 1 → j < 24 + 4 * D 1 ∨ 28 + 4 * D 1 ≤ j → rwT D 1 (D 1 + 1) (24 + 4 * D 1) 4 R j = D j := fun j hj hj' => rwT_out hj (by omega)
  have c0 : rwT D 1 (D 1 + 1) (24 + 4 * D 1) 4 R 1 = D 1 + 1 := rwT_c _ _ _ _ _ _
  have ri : ∀ i, i < 4 → rwT D 1 (D 1 + 1) (24 + 4 * D 1) 4 R (24 + 4 * D 1 + i) = R i := fun i hi => rwT_in (by omega) hi
  generalize rwT D 1 (D 1 + 1) (24 + 4 * D 1) 4 R = D' at *
  obtain ⟨h0, h13, h1, h2, h3, h4, h5, h8⟩ := id h
  refine h.ext (by omega) (fun k hk => ?_) (k3 _ _ (by omega) (by omega) (by omega) (by omega)) (fun p hp => k3 _ _ (by omega) (by omega) (by omega) (by omega)) (fun k z1 z2 => o k (by omega) (by omega)) ?_ (fun x j hx hj => by rw [o 2 (by omega) (by omega)] at hx; rw [k3 _ _ (by omega) (by omega) (by omega) (by omega), o _ (by omega) (by omega)]; exact h2 x j hx hj) (fun x j hx hj => by rw [o 3 (by omega) (by omega)] at hx; rw [k3 _ _ (by omega) (by omega) (by omega) (by omega), o _ (by omega) (by omega)]; exact h3 x j hx hj) (fun x j hx hj => by rw [o 4 (by omega) (by omega)] at hx; rw [k3 _ _ (by omega) (by omega) (by omega) (by omega), o _ (by omega) (by omega)]; exact h4 x j hx hj) (fun x j hx hj => by rw [o 5 (by omega) (by omega)] at hx; rw [k3 _ _ (by omega) (by omega) (by omega) (by omega), o _ (by omega) (by omega)]; exact h5 x j hx hj)
  · by_cases hc : k = 1
    · subst hc; rw [c0]; exact k1
    · rw [k3 _ _ (by omega) (by omega) (by omega) (by omega), o k hc (by omega)]; exact h0 k hk
  · intro x j hx hj
    rw [c0] at hx
    by_cases hc : x = D 1
    · subst hc; rw [ri j hj]; exact k2 j hj
    · rw [k3 _ _ (by omega) (by omega) (by omega) (by omega), o _ (by omega) (by omega)]; exact h1 x j (by omega) hj
theorem WR.assist (hT : VT D) (h : WR I 48 D) (hlt : D 2 < 4) (hR : Rw I I' 2 (D 2 + 1) (59 + D 2) 2 R) : WR I' 48 (rwT D 2 (D 2 + 1) (48 + 2 * D 2) 2 R) := by
  obtain ⟨k1, k2, k3, -⟩ := hR
  have b0 := hT.1
  have b1 := hT.2.1
  have o : ∀ j, j ≠ 2 → j < 48 + 2 * D 2 ∨ 50 + 2 * D 2 ≤ j → rwT D 2 (D 2 + 1) (48 + 2 * D 2) 2 R j = D j := fun j hj hj' => rwT_out hj (by omega)
  have c0 : rwT D 2 (D 2 + 1) (48 + 2 * D 2) 2 R 2 = D 2 + 1 := rwT_c _ _ _ _ _ _
  have ri : ∀ i, i < 2 → rwT D 2 (D 2 + 1) (48 + 2 * D 2) 2 R (48 + 2 * D 2 + i) = R i := fun i hi => rwT_in (by omega) hi
  generalize rwT D 2 (D 2 + 1) (48 + 2 * D 2) 2 R = D' at *
  obtain ⟨h0, h13, h1, h2, h3, h4, h5, h8⟩ := id h
  refine h.ext (by omega) (fun k hk => ?_) (k3 _ _ (by omega) (by omega) (by omega) (by omega)) (fun p hp => k3 _ _ (by omega) (by omega) (by omega) (by omega)) (fun k z1 z2 => o k (by omega) (by omega)) (fun x j hx hj => by rw [o 1 (by omega) (by omega)] at hx; rw [k3 _ _ (by omega) (by omega) (by omega) (by omega), o _ (by omega) (by omega)]; exact h1 x j hx hj) ?_ (fun x j hx hj => by rw [o 3 (by omega) (by omega)] at hx; rw [k3 _ _ (by omega) (by omega) (by omega) (by omega), o _ (by omega) (by omega)]; exact h3 x j hx hj) (fun x j hx hj => by rw [o 4 (by omega) (by omega)] at hx; rw [k3 _ _ (by omega) (by omega) (by omega) (by omega), o _ (by omega) (by omega)]; exact h4 x j hx hj) (fun x j hx hj => by rw [o 5 (by omega) (by omega)] at hx; rw [k3 _ _ (by omega) (by omega) (by omega) (by omega), o _ (by omega) (by omega)]; exact h5 x j hx hj)
  · by_cases hc : k = 2
    · subst hc; rw [c0]; exact k1
    · rw [k3 _ _ (by omega) (by omega) (by omega) (by omega), o k hc (by omega)]; exact h0 k hk
  · intro x j hx hj
    rw [c0] at hx
    by_cases hc : x = D 2
    · subst hc; rw [ri j hj]; exact k2 j hj
    · rw [k3 _ _ (by omega) (by omega) (by omega) (by omega), o _ (by omega) (by omega)]; exact h2 x j (by omega) hj
theorem WR.sale (hT : VT D) (h : WR I 48 D) (hlt : D 3 < 10) (hR : Rw I I' 3 (D 3 + 1) (64 + D 3) 12 R) : WR I' 48 (rwT D 3 (D 3 + 1) (56 + 12 * D 3) 12 R) := by
  obtain ⟨k1, k2, k3, -⟩ := hR
  have b0 := hT.1
  have b1 := hT.2.1
  have o : ∀ j, j ≠ 3 → j < 56 + 12 * D 3 ∨ 68 + 12 * D 3 ≤ j → rwT D 3 (D 3 + 1) (56 + 12 * D 3) 12 R j = D j := fun j hj hj' => rwT_out hj (by omega)
  have c0 : rwT D 3 (D 3 + 1) (56 + 12 * D 3) 12 R 3 = D 3 + 1 := rwT_c _ _ _ _ _ _
  have ri : ∀ i, i < 12 → rwT D 3 (D 3 + 1) (56 + 12 * D 3) 12 R (56 + 12 * D 3 + i) = R i := fun i hi => rwT_in (by omega) hi
  generalize rwT D 3 (D 3 + 1) (56 + 12 * D 3) 12 R = D' at *
  obtain ⟨h0, h13, h1, h2, h3, h4, h5, h8⟩ := id h
  refine h.ext (by omega) (fun k hk => ?_) (k3 _ _ (by omega) (by omega) (by omega) (by omega)) (fun p hp => k3 _ _ (by omega) (by omega) (by omega) (by omega)) (fun k z1 z2 => o k (by omega) (by omega)) (fun x j hx hj => by rw [o 1 (by omega) (by omega)] at hx; rw [k3 _ _ (by omega) (by omega) (by omega) (by omega), o _ (by omega) (by omega)]; exact h1 x j hx hj) (fun x j hx hj => by rw [o 2 (by omega) (by omega)] at hx; rw [k3 _ _ (by omega) (by omega) (by omega) (by omega), o _ (by omega) (by omega)]; exact h2 x j hx hj) ?_ (fun x j hx hj => by rw [o 4 (by omega) (by omega)] at hx; rw [k3 _ _ (by omega) (by omega) (by omega) (by omega), o _ (by omega) (by omega)]; exact h4 x j hx hj) (fun x j hx hj => by rw [o 5 (by omega) (by omega)] at hx; rw [k3 _ _ (by omega) (by omega) (by omega) (by omega), o _ (by omega) (by omega)]; exact h5 x j hx hj)
  · by_cases hc : k = 3
    · subst hc; rw [c0]; exact k1
    · rw [k3 _ _ (by omega) (by omega) (by omega) (by omega), o k hc (by omega)]; exact h0 k hk
  · intro x j hx hj
    rw [c0] at hx
    by_cases hc : x = D 3
    · subst hc; rw [ri j hj]; exact k2 j hj
    · rw [k3 _ _ (by omega) (by omega) (by omega) (by omega), o _ (by omega) (by omega)]; exact h3 x j (by omega) hj
theorem WR.resold (hT : VT D) (h : WR I 48 D) (hlt : D 4 < 12) (hR : Rw I I' 4 (D 4 + 1) (76 + D 4) 4 R) : WR I' 48 (rwT D 4 (D 4 + 1) (176 + 4 * D 4) 4 R) := by
  obtain ⟨k1, k2, k3, -⟩ := hR
  have b0 := hT.1
  have b1 := hT.2.1
  have o : ∀ j, j ≠ 4 → j < 176 + 4 * D 4 ∨ 180 + 4 * D 4 ≤ j → rwT D 4 (D 4 + 1) (176 + 4 * D 4) 4 R j = D j := fun j hj hj' => rwT_out hj (by omega)
  have c0 : rwT D 4 (D 4 + 1) (176 + 4 * D 4) 4 R 4 = D 4 + 1 := rwT_c _ _ _ _ _ _
  have ri : ∀ i, i < 4 → rwT D 4 (D 4 + 1) (176 + 4 * D 4) 4 R (176 + 4 * D 4 + i) = R i := fun i hi => rwT_in (by omega) hi
  generalize rwT D 4 (D 4 + 1) (176 + 4 * D 4) 4 R = D' at *
  obtain ⟨h0, h13, h1, h2, h3, h4, h5, h8⟩ := id h
  refine h.ext (by omega) (fun k hk => ?_) (k3 _ _ (by omega) (by omega) (by omega) (by omega)) (fun p hp => k3 _ _ (by omega) (by omega) (by omega) (by omega)) (fun k z1 z2 => o k (by omega) (by omega)) (fun x j hx hj => by rw [o 1 (by omega) (by omega)] at hx; rw [k3 _ _ (by omega) (by omega) (by omega) (by omega), o _ (by omega) (by omega)]; exact h1 x j hx hj) (fun x j hx hj => by rw [o 2 (by omega) (by omega)] at hx; rw [k3 _ _ (by omega) (by omega) (by omega) (by omega), o _ (by omega) (by omega)]; exact h2 x j hx hj) (fun x j hx hj => by rw [o 3 (by omega) (by omega)] at hx; rw [k3 _ _ (by omega) (by omega) (by omega) (by omega), o _ (by omega) (by omega)]; exact h3 x j hx hj) ?_ (fun x j hx hj => by rw [o 5 (by omega) (by omega)] at hx; rw [k3 _ _ (by omega) (by omega) (by omega) (by omega), o _ (by omega) (by omega)]; exact h5 x j hx hj)
  · by_cases hc : k = 4
    · subst hc; rw [c0]; exact k1
    · rw [k3 _ _ (by omega) (by omega) (by omega) (by omega), o k hc (by omega)]; exact h0 k hk
  · intro x j hx hj
    rw [c0] at hx
    by_cases hc : x = D 4
    · subst hc; rw [ri j hj]; exact k2 j hj
    · rw [k3 _ _ (by omega) (by omega) (by omega) (by omega), o _ (by omega) (by omega)]; exact h4 x j (by omega) hj
theorem WR.band (hT : VT D) (h : WR I 48 D) (hlt : D 5 < 4) (hR : Rw I I' 5 (D 5 + 1) (89 + D 5) 2 R) : WR I' 48 (rwT D 5 (D 5 + 1) (224 + 2 * D 5) 2 R) := by
  obtain ⟨k1, k2, k3, -⟩ := hR
  have b0 := hT.1
  have b1 := hT.2.1
  have o : ∀ j, j ≠ 5 → j < 224 + 2 * D 5 ∨ 226 + 2 * D 5 ≤ j → rwT D 5 (D 5 + 1) (224 + 2 * D 5) 2 R j = D j := fun j hj hj' => rwT_out hj (by omega)
  have c0 : rwT D 5 (D 5 + 1) (224 + 2 * D 5) 2 R 5 = D 5 + 1 := rwT_c _ _ _ _ _ _
  have ri : ∀ i, i < 2 → rwT D 5 (D 5 + 1) (224 + 2 * D 5) 2 R (224 + 2 * D 5 + i) = R i := fun i hi => rwT_in (by omega) hi
  generalize rwT D 5 (D 5 + 1) (224 + 2 * D 5) 2 R = D' at *
  obtain ⟨h0, h13, h1, h2, h3, h4, h5, h8⟩ := id h
  refine h.ext (by omega) (fun k hk => ?_) (k3 _ _ (by omega) (by omega) (by omega) (by omega)) (fun p hp => k3 _ _ (by omega) (by omega) (by omega) (by omega)) (fun k z1 z2 => o k (by omega) (by omega)) (fun x j hx hj => by rw [o 1 (by omega) (by omega)] at hx; rw [k3 _ _ (by omega) (by omega) (by omega) (by omega), o _ (by omega) (by omega)]; exact h1 x j hx hj) (fun x j hx hj => by rw [o 2 (by omega) (by omega)] at hx; rw [k3 _ _ (by omega) (by omega) (by omega) (by omega), o _ (by omega) (by omega)]; exact h2 x j hx hj) (fun x j hx hj => by rw [o 3 (by omega) (by omega)] at hx; rw [k3 _ _ (by omega) (by omega) (by omega) (by omega), o _ (by omega) (by omega)]; exact h3 x j hx hj) (fun x j hx hj => by rw [o 4 (by omega) (by omega)] at hx; rw [k3 _ _ (by omega) (by omega) (by omega) (by omega), o _ (by omega) (by omega)]; exact h4 x j hx hj) ?_
  · by_cases hc : k = 5
    · subst hc; rw [c0]; exact k1
    · rw [k3 _ _ (by omega) (by omega) (by omega) (by omega), o k hc (by omega)]; exact h0 k hk
  · intro x j hx hj
    rw [c0] at hx
    by_cases hc : x = D 5
    · subst hc; rw [ri j hj]; exact k2 j hj
    · rw [k3 _ _ (by omega) (by omega) (by omega) (by omega), o _ (by omega) (by omega)]; exact h5 x j (by omega) hj
theorem WR.party (hT : VT D) (h : WR I 48 D) (hlt : D 0 < 6) (hR : Rw I I' 0 (D 0 + 1) 0 0 R) : WR I' 48 (rwT D 0 (D 0 + 1) 0 0 R) := by
  obtain ⟨k1, k2, k3, -⟩ := hR
  have b0 := hT.1
  have b1 := hT.2.1
  have o : ∀ j, j ≠ 0 → True → rwT D 0 (D 0 + 1) 0 0 R j = D j := fun j hj _ => rwT_out hj (by omega)
  have c0 : rwT D 0 (D 0 + 1) 0 0 R 0 = D 0 + 1 := rwT_c _ _ _ _ _ _
  generalize rwT D 0 (D 0 + 1) 0 0 R = D' at *
  obtain ⟨h0, h13, h1, h2, h3, h4, h5, h8⟩ := id h
  refine h.ext (by omega) (fun k hk => ?_) (k3 _ _ (by omega) (by omega) (by omega) (by omega)) (fun p hp => k3 _ _ (by omega) (by omega) (by omega) (by omega)) (fun k z1 z2 => o k (by omega) trivial) (fun x j hx hj => by rw [o 1 (by omega) trivial] at hx; rw [k3 _ _ (by omega) (by omega) (by omega) (by omega), o _ (by omega) trivial]; exact h1 x j hx hj) (fun x j hx hj => by rw [o 2 (by omega) trivial] at hx; rw [k3 _ _ (by omega) (by omega) (by omega) (by omega), o _ (by omega) trivial]; exact h2 x j hx hj) (fun x j hx hj => by rw [o 3 (by omega) trivial] at hx; rw [k3 _ _ (by omega) (by omega) (by omega) (by omega), o _ (by omega) trivial]; exact h3 x j hx hj) (fun x j hx hj => by rw [o 4 (by omega) trivial] at hx; rw [k3 _ _ (by omega) (by omega) (by omega) (by omega), o _ (by omega) trivial]; exact h4 x j hx hj) (fun x j hx hj => by rw [o 5 (by omega) trivial] at hx; rw [k3 _ _ (by omega) (by omega) (by omega) (by omega), o _ (by omega) trivial]; exact h5 x j hx hj)
  by_cases hc : k = 0
  · subst hc; rw [c0]; exact k1
  · rw [k3 _ _ (by omega) (by omega) (by omega) (by omega), o k hc trivial]; exact h0 k hk
theorem WR.made (hT : VT D) (h : WR I 48 D) {g x y : Nat} (hg : g < D 1) (k1 : I' (52 + g) 2 = nI x) (k2 : I' (52 + g) 3 = nI y) (k3 : ∀ a c, 48 ≤ a → a < 94 → ¬ (a = 52 + g ∧ (c = 2 ∨ c = 3)) → I' a c = I a c) : WR I' 48 (uT (uT D (26 + 4 * g) x) (27 + 4 * g) y) := by
  have b0 := hT.1
  have b1 := hT.2.1
  have o : ∀ j, j ≠ 26 + 4 * g → j ≠ 27 + 4 * g → uT (uT D (26 + 4 * g) x) (27 + 4 * g) y j = D j := fun j h1 h2 => by rw [uTn h2, uTn h1]
  have c2 : uT (uT D (26 + 4 * g) x) (27 + 4 * g) y (26 + 4 * g) = x := by rw [uTn (by omega), uTa]
  have c3 : uT (uT D (26 + 4 * g) x) (27 + 4 * g) y (27 + 4 * g) = y := uTa _ _ _
  generalize uT (uT D (26 + 4 * g) x) (27 + 4 * g) y = D' at *
  obtain ⟨h0, h13, h1, h2, h3, h4, h5, h8⟩ := id h
  refine h.ext (by omega) (fun k hk => by rw [k3 _ _ (by omega) (by omega) (by omega), o k (by omega) (by omega)]; exact h0 k hk) (k3 _ _ (by omega) (by omega) (by omega)) (fun p hp => k3 _ _ (by omega) (by omega) (by omega)) (fun k z1 z2 => o k (by omega) (by omega)) (fun z j hz hj => ?_) (fun z j hz hj => by rw [o 2 (by omega) (by omega)] at hz; rw [k3 _ _ (by omega) (by omega) (by omega), o _ (by omega) (by omega)]; exact h2 z j hz hj) (fun z j hz hj => by rw [o 3 (by omega) (by omega)] at hz; rw [k3 _ _ (by omega) (by omega) (by omega), o _ (by omega) (by omega)]; exact h3 z j hz hj) (fun z j hz hj => by rw [o 4 (by omega) (by omega)] at hz; rw [k3 _ _ (by omega) (by omega) (by omega), o _ (by omega) (by omega)]; exact h4 z j hz hj) (fun z j hz hj => by rw [o 5 (by omega) (by omega)] at hz; rw [k3 _ _ (by omega) (by omega) (by omega), o _ (by omega) (by omega)]; exact h5 z j hz hj)
  rw [o 1 (by omega) (by omega)] at hz
  by_cases hc : z = g ∧ (j = 2 ∨ j = 3)
  · obtain ⟨rfl, rfl | rfl⟩ := hc
    · rw [show 24 + 4 * z + 2 = 26 + 4 * z by omega, c2]; exact k1
    · rw [show 24 + 4 * z + 3 = 27 + 4 * z by omega, c3]; exact k2
  · rw [k3 _ _ (by omega) (by omega) (by omega), o _ (by omega) (by omega)]; exact h1 z j hz hj
theorem WR.rule (hT : VT D) (h : WR I 48 D) {w x : Nat} (hw : w < 4) (k1 : I' 49 (6 + w) = nI x) (k3 : ∀ a c, 48 ≤ a → a < 94 → ¬ (a = 49 ∧ c = 6 + w) → I' a c = I a c) : WR I' 48 (uT D (6 + w) x) := by
  have b0 := hT.1
  have b1 := hT.2.1
  have o : ∀ j, j ≠ 6 + w → uT D (6 + w) x j = D j := fun j h2 => uTn h2
  have c2 : uT D (6 + w) x (6 + w) = x := uTa _ _ _
  generalize uT D (6 + w) x = D' at *
  obtain ⟨h0, h13, h1, h2, h3, h4, h5, h8⟩ := id h
  refine h.ext (by omega) (fun k hk => ?_) (k3 _ _ (by omega) (by omega) (by omega)) (fun p hp => k3 _ _ (by omega) (by omega) (by omega)) (fun k z1 z2 => o k (by omega)) (fun z j hz hj => by rw [o 1 (by omega)] at hz; rw [k3 _ _ (by omega) (by omega) (by omega), o _ (by omega)]; exact h1 z j hz hj) (fun z j hz hj => by rw [o 2 (by omega)] at hz; rw [k3 _ _ (by omega) (by omega) (by omega), o _ (by omega)]; exact h2 z j hz hj) (fun z j hz hj => by rw [o 3 (by omega)] at hz; rw [k3 _ _ (by omega) (by omega) (by omega), o _ (by omega)]; exact h3 z j hz hj) (fun z j hz hj => by rw [o 4 (by omega)] at hz; rw [k3 _ _ (by omega) (by omega) (by omega), o _ (by omega)]; exact h4 z j hz hj) (fun z j hz hj => by rw [o 5 (by omega)] at hz; rw [k3 _ _ (by omega) (by omega) (by omega), o _ (by omega)]; exact h5 z j hz hj)
  by_cases hc : k = 6 + w
  · subst hc; rw [c2]; exact k1
  · rw [k3 _ _ (by omega) (by omega) (by omega), o _ hc]; exact h0 k hk
theorem VT.made (hT : VT D) {g x y : Nat} (hx : x ≤ 9999) (hy : y ≤ 99) (hg : g < D 1) : VT (uT (uT D (26 + 4 * g) x) (27 + 4 * g) y) := by
  have b0 := hT.1
  have o : ∀ j, j ≠ 26 + 4 * g → j ≠ 27 + 4 * g → uT (uT D (26 + 4 * g) x) (27 + 4 * g) y j = D j := fun j h1 h2 => by rw [uTn h2, uTn h1]
  have c2 : uT (uT D (26 + 4 * g) x) (27 + 4 * g) y (26 + 4 * g) = x := by rw [uTn (by omega), uTa]
  have c3 : uT (uT D (26 + 4 * g) x) (27 + 4 * g) y (27 + 4 * g) = y := uTa _ _ _
  generalize uT (uT D (26 + 4 * g) x) (27 + 4 * g) y = D' at *
  obtain ⟨-, -, -, -, c3', c4, c5, c6, c7, c8⟩ := id hT
  refine hT.ext (by rw [o 0 (by omega) (by omega), o 1 (by omega) (by omega), o 2 (by omega) (by omega), o 3 (by omega) (by omega), o 4 (by omega) (by omega), o 5 (by omega) (by omega)]; omega) (by rw [o 0 (by omega) (by omega), o 1 (by omega) (by omega)]; omega) (fun k h1 h2 => o k (by omega) (by omega)) (fun a h => ?_) (fun s h => ?_) (fun r h => ?_) (fun z h => ?_) (fun q h => ?_) (fun k => ?_)
  · rw [o 2 (by omega) (by omega)] at h; rw [o _ (by omega) (by omega)]; exact c3' a h
  · rw [o 3 (by omega) (by omega)] at h
    rw [o 0 (by omega) (by omega), o 1 (by omega) (by omega), o _ (by omega) (by omega), o _ (by omega) (by omega), o _ (by omega) (by omega), o _ (by omega) (by omega), o _ (by omega) (by omega), o _ (by omega) (by omega), o _ (by omega) (by omega), o _ (by omega) (by omega), o _ (by omega) (by omega)]
    exact c4 s h
  · rw [o 4 (by omega) (by omega)] at h
    rw [o 1 (by omega) (by omega), o _ (by omega) (by omega), o _ (by omega) (by omega), o _ (by omega) (by omega), o _ (by omega) (by omega)]; exact c5 r h
  · rw [o 1 (by omega) (by omega)] at h
    by_cases hc : z = g
    · subst hc; rw [c3]; exact hy
    · rw [o _ (by omega) (by omega)]; exact c6 z h
  · rw [o 5 (by omega) (by omega)] at h; rw [o _ (by omega) (by omega)]; exact c7 q h
  · by_cases h1 : k = 26 + 4 * g
    · subst h1; rw [c2]; exact hx
    · by_cases h2 : k = 27 + 4 * g
      · subst h2; rw [c3]; omega
      · rw [o k h1 h2]; exact c8 k
end WD
