/-! ===== printed by wip/whole/gencode3.py: the law, in pieces ===== -/
theorem okL_0 : ck_lp 13 true fL_law [296] kLp0 kLc0 = true := by decide +kernel
theorem okL_1 : ck_lp 13 true fL_law [384] kLp1 kLc1 = true := by decide +kernel
theorem okL_2 : ck_lp 13 true fL_law [473] kLp2 kLc2 = true := by decide +kernel
theorem okL_3 : ck_lp 13 true fL_law [567] kLp3 kLc3 = true := by decide +kernel
theorem okL_4 : ck_lp 13 true fL_law [651] kLp4 kLc4 = true := by decide +kernel
theorem okL_5 : ck_lp 13 true fL_law [730] kLp5 kLc5 = true := by decide +kernel
