/-! ===== 99h: the start ===== -/
theorem st_inv : Inv hC := by
  obtain ⟨s1, s2, s3, s4, s5, s6, s7, s8, s9⟩ := st_s
  refine ⟨239, _, _, hC_mk, D0, VT_D0, fun j hj => st_225 j hj, ⟨fun k hk => st_4 k (by omega), ?_, fun g j hg => ?_, fun g j hg => ?_, fun g j hg => ?_, fun g j hg => ?_, fun g j hg => ?_, fun p hp => ⟨0, by decide, st_5 p hp, fun q hq => ?_⟩⟩, ⟨0, by omega, s1, s2, fun k hk => by omega⟩, fun s hs => ?_, KP.none (by decide) s3 s5, KP.none (by decide) s4 s5, ⟨0, 0, fun _ => D0, by omega, by omega, s6, s7, s8, rfl, fun j hj => by omega⟩, fun i hi => st_99 i hi, s9⟩
  · rw [D0_z (by omega), ← D0_z (j := 13) (by omega)]; exact st_4 13 (by decide)
  · rw [D0_z (by omega)] at hg; omega
  · rw [D0_z (by omega)] at hg; omega
  · rw [D0_z (by omega)] at hg; omega
  · rw [D0_z (by omega)] at hg; omega
  · rw [D0_z (by omega)] at hg; omega
  · rw [Nat.zero_testBit]
    exact ⟨fun z => (by cases z), fun z => absurd z (D0_nt p q)⟩
  · rw [D0_z (by omega)] at hs; omega
