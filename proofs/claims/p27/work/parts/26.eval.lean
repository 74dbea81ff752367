/-! BY HAND: years and texts, computed -/
theorem f1_eval : fL_faultOf 2147483648 0 0 = some 0 := by decide +kernel
