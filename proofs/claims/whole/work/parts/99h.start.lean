/-! ===== 99h: the start ===== -/
/-- what the first numbers must be, of any numbers -/
theorem inv_first {I : Nat → Nat → Int32} {J : Nat → Nat → Int64} (h4 : ∀ k, k < 14 → I 4 k = nI (D0 k)) (h5 : ∀ p, p < 6 → I 5 p = nI 0) (h225 : ∀ j, j < 232 → I 225 (0 + j) = nI (D0 j)) (s1 : I 1 1 = nI 0) (s2 : I 224 8 = nI 0) (s3 : I 229 0 = nI 0) (s4 : I 229 1 = nI 0) (s5 : I 0 10 = nI 0) (s6 : I 118 2 = nI 0) (s7 : I 118 1 = nI 0) (s8 : I 224 6 = nI 0) (s9 : I 224 23 = -1) (h99 : ∀ i, i < 30 → J 99 i = lN (enc 27 (gramW.getD i []))) : INV I J := by
  refine ⟨D0, VT_D0, h225, ⟨fun k hk => h4 k (by omega), ?_, fun g j hg => ?_, fun g j hg => ?_, fun g j hg => ?_, fun g j hg => ?_, fun g j hg => ?_, fun p hp => ⟨0, by decide, h5 p hp, fun q hq => ?_⟩⟩, ⟨0, by omega, s1, s2, fun k hk => by omega⟩, fun s hs => ?_, KP.none (by decide) s3 s5, KP.none (by decide) s4 s5, ⟨0, 0, fun _ => D0, by omega, by omega, s6, s7, s8, rfl, fun j hj => by omega⟩, h99, s9⟩
  · rw [D0_z (by omega), ← D0_z (j := 13) (by omega)]; exact h4 13 (by decide)
  · rw [D0_z (by omega)] at hg; omega
  · rw [D0_z (by omega)] at hg; omega
  · rw [D0_z (by omega)] at hg; omega
  · rw [D0_z (by omega)] at hg; omega
  · rw [D0_z (by omega)] at hg; omega
  · rw [Nat.zero_testBit]
    exact ⟨fun z => (by cases z), fun z => absurd z (D0_nt p q)⟩
  · rw [D0_z (by omega)] at hs; omega
theorem st_inv : Inv hC := by
  obtain ⟨s1, s2, s3, s4, s5, s6, s7, s8, s9⟩ := st_s
  exact ⟨239, fun k => iof (hC.2 k), fun k => jof (hC.2 k), hC_mk, inv_first (I := fun k => iof (hC.2 k)) (J := fun k => jof (hC.2 k)) st_4 st_5 st_225 s1 s2 s3 s4 s5 s6 s7 s8 s9 st_99⟩
