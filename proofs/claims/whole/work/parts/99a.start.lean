/-! ===== 99a: the heap behind the constructors ===== -/
theorem st_n : (mL_start.map fun r => (r.1, r.2.1, r.2.2.1, r.2.2.2.1)) = some (0, 224, 238, 239) := by decide +kernel
