/-! ===== printed by wip/whole/gencode3.py: the law, in pieces ===== -/
theorem okL_18 : ck_lp 13 true fL_law [1799] kLp18 kLc18 = true := by decide +kernel
theorem okL_19 : ck_lp 13 true fL_law [1876] kLp19 kLc19 = true := by decide +kernel
theorem okL_20 : ck_lp 13 true fL_law [1966] kLp20 kLc20 = true := by decide +kernel
theorem okL_21 : ck_l 13 true fL_law kLp21 kLc21 = true := by decide +kernel
