/-! ===== 99e: the first numbers ===== -/
theorem st_4 : ∀ k, k < 14 → iof (hC.2 4) k = nI (D0 k) := by decide +kernel
theorem st_5 : ∀ p, p < 6 → iof (hC.2 5) p = nI 0 := by decide +kernel
theorem st_s : iof (hC.2 1) 1 = nI 0 ∧ iof (hC.2 224) 8 = nI 0 ∧ iof (hC.2 229) 0 = nI 0 ∧ iof (hC.2 229) 1 = nI 0 ∧ iof (hC.2 0) 10 = nI 0 ∧ iof (hC.2 118) 2 = nI 0 ∧ iof (hC.2 118) 1 = nI 0 ∧ iof (hC.2 224) 6 = nI 0 ∧ iof (hC.2 224) 23 = -1 := by decide +kernel
