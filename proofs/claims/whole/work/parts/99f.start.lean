/-! ===== 99f: the grammar ===== -/
theorem st_99 : ∀ i, i < 30 → jof (hC.2 99) i = lN (enc 27 (gramW.getD i [])) := by decide +kernel
