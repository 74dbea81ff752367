/-! BY HAND (1): texts, computed -/
theorem texts_1 : fL_texts 2147483648 = some 1 := by decide +kernel
