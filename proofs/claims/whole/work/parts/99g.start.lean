/-! ===== 99g: the rules in the reference ===== -/
theorem st_225_0 : ∀ j, j < 15 → iof (hC.2 225) (0 + j) = nI (D0 (0 + j)) := by decide +kernel
theorem st_225_1 : ∀ j, j < 15 → iof (hC.2 225) (15 + j) = nI (D0 (15 + j)) := by decide +kernel
theorem st_225_2 : ∀ j, j < 15 → iof (hC.2 225) (30 + j) = nI (D0 (30 + j)) := by decide +kernel
theorem st_225_3 : ∀ j, j < 15 → iof (hC.2 225) (45 + j) = nI (D0 (45 + j)) := by decide +kernel
theorem st_225_4 : ∀ j, j < 15 → iof (hC.2 225) (60 + j) = nI (D0 (60 + j)) := by decide +kernel
theorem st_225_5 : ∀ j, j < 15 → iof (hC.2 225) (75 + j) = nI (D0 (75 + j)) := by decide +kernel
theorem st_225_6 : ∀ j, j < 15 → iof (hC.2 225) (90 + j) = nI (D0 (90 + j)) := by decide +kernel
theorem st_225_7 : ∀ j, j < 15 → iof (hC.2 225) (105 + j) = nI (D0 (105 + j)) := by decide +kernel
theorem st_225_8 : ∀ j, j < 15 → iof (hC.2 225) (120 + j) = nI (D0 (120 + j)) := by decide +kernel
theorem st_225_9 : ∀ j, j < 15 → iof (hC.2 225) (135 + j) = nI (D0 (135 + j)) := by decide +kernel
theorem st_225_10 : ∀ j, j < 15 → iof (hC.2 225) (150 + j) = nI (D0 (150 + j)) := by decide +kernel
theorem st_225_11 : ∀ j, j < 15 → iof (hC.2 225) (165 + j) = nI (D0 (165 + j)) := by decide +kernel
theorem st_225_12 : ∀ j, j < 15 → iof (hC.2 225) (180 + j) = nI (D0 (180 + j)) := by decide +kernel
theorem st_225_13 : ∀ j, j < 15 → iof (hC.2 225) (195 + j) = nI (D0 (195 + j)) := by decide +kernel
theorem st_225_14 : ∀ j, j < 15 → iof (hC.2 225) (210 + j) = nI (D0 (210 + j)) := by decide +kernel
theorem st_225_15 : ∀ j, j < 7 → iof (hC.2 225) (225 + j) = nI (D0 (225 + j)) := by decide +kernel
theorem st_225 : ∀ j, j < 232 → iof (hC.2 225) (0 + j) = nI (D0 j) := fun j hj => by
  rw [Nat.zero_add]
  by_cases h0 : j < 15
  · have := st_225_0 (j - 0) (by omega)
    rwa [show 0 + (j - 0) = j by omega] at this
  by_cases h1 : j < 30
  · have := st_225_1 (j - 15) (by omega)
    rwa [show 15 + (j - 15) = j by omega] at this
  by_cases h2 : j < 45
  · have := st_225_2 (j - 30) (by omega)
    rwa [show 30 + (j - 30) = j by omega] at this
  by_cases h3 : j < 60
  · have := st_225_3 (j - 45) (by omega)
    rwa [show 45 + (j - 45) = j by omega] at this
  by_cases h4 : j < 75
  · have := st_225_4 (j - 60) (by omega)
    rwa [show 60 + (j - 60) = j by omega] at this
  by_cases h5 : j < 90
  · have := st_225_5 (j - 75) (by omega)
    rwa [show 75 + (j - 75) = j by omega] at this
  by_cases h6 : j < 105
  · have := st_225_6 (j - 90) (by omega)
    rwa [show 90 + (j - 90) = j by omega] at this
  by_cases h7 : j < 120
  · have := st_225_7 (j - 105) (by omega)
    rwa [show 105 + (j - 105) = j by omega] at this
  by_cases h8 : j < 135
  · have := st_225_8 (j - 120) (by omega)
    rwa [show 120 + (j - 120) = j by omega] at this
  by_cases h9 : j < 150
  · have := st_225_9 (j - 135) (by omega)
    rwa [show 135 + (j - 135) = j by omega] at this
  by_cases h10 : j < 165
  · have := st_225_10 (j - 150) (by omega)
    rwa [show 150 + (j - 150) = j by omega] at this
  by_cases h11 : j < 180
  · have := st_225_11 (j - 165) (by omega)
    rwa [show 165 + (j - 165) = j by omega] at this
  by_cases h12 : j < 195
  · have := st_225_12 (j - 180) (by omega)
    rwa [show 180 + (j - 180) = j by omega] at this
  by_cases h13 : j < 210
  · have := st_225_13 (j - 195) (by omega)
    rwa [show 195 + (j - 195) = j by omega] at this
  by_cases h14 : j < 225
  · have := st_225_14 (j - 210) (by omega)
    rwa [show 210 + (j - 210) = j by omega] at this
  have := st_225_15 (j - 225) (by omega)
  rwa [show 225 + (j - 225) = j by omega] at this
