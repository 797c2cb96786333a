/-! ===== printed by wip/whole/gencode3.py: the law, in pieces ===== -/
theorem okL_6 : ck_lp 13 true fL_law [809] kLp6 kLc6 = true := by decide +kernel
theorem okL_7 : ck_lp 13 true fL_law [889] kLp7 kLc7 = true := by decide +kernel
theorem okL_8 : ck_lp 13 true fL_law [969] kLp8 kLc8 = true := by decide +kernel
theorem okL_9 : ck_lp 13 true fL_law [1048] kLp9 kLc9 = true := by decide +kernel
theorem okL_10 : ck_lp 13 true fL_law [1131] kLp10 kLc10 = true := by decide +kernel
theorem okL_11 : ck_lp 13 true fL_law [1217] kLp11 kLc11 = true := by decide +kernel
