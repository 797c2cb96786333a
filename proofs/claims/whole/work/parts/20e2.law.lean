/-! ===== printed by wip/whole/gencode3.py: the law, in pieces ===== -/
theorem okL_12 : ck_lp 13 true fL_law [1298] kLp12 kLc12 = true := by decide +kernel
theorem okL_13 : ck_lp 13 true fL_law [1388] kLp13 kLc13 = true := by decide +kernel
theorem okL_14 : ck_lp 13 true fL_law [1473] kLp14 kLc14 = true := by decide +kernel
theorem okL_15 : ck_lp 13 true fL_law [1558] kLp15 kLc15 = true := by decide +kernel
theorem okL_16 : ck_lp 13 true fL_law [1637] kLp16 kLc16 = true := by decide +kernel
theorem okL_17 : ck_lp 13 true fL_law [1721] kLp17 kLc17 = true := by decide +kernel
