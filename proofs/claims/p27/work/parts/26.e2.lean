/-! BY HAND (2): years, computed -/
set_option maxRecDepth 100000 in
theorem years_1 : fL_years 2147483648 = some 1 := by decide +kernel
