/-! ===== printed by wip/whole/gencode3.py: the law, in pieces ===== -/
set_option maxRecDepth 20000 in
theorem kL_eq : kL_law = kLc0 ++ (kLc1 ++ (kLc2 ++ (kLc3 ++ (kLc4 ++ (kLc5 ++ (kLc6 ++ (kLc7 ++ (kLc8 ++ (kLc9 ++ (kLc10 ++ (kLc11 ++ (kLc12 ++ (kLc13 ++ (kLc14 ++ (kLc15 ++ (kLc16 ++ (kLc17 ++ (kLc18 ++ (kLc19 ++ (kLc20 ++ (kLc21))))))))))))))))))))) := rfl
set_option maxRecDepth 20000 in
theorem pL_eq : f_p fL_law = kLp0 ++ (kLp1 ++ (kLp2 ++ (kLp3 ++ (kLp4 ++ (kLp5 ++ (kLp6 ++ (kLp7 ++ (kLp8 ++ (kLp9 ++ (kLp10 ++ (kLp11 ++ (kLp12 ++ (kLp13 ++ (kLp14 ++ (kLp15 ++ (kLp16 ++ (kLp17 ++ (kLp18 ++ (kLp19 ++ (kLp20 ++ (kLp21))))))))))))))))))))) := rfl
theorem okL_l : ck_l 13 true fL_law (kLp0 ++ (kLp1 ++ (kLp2 ++ (kLp3 ++ (kLp4 ++ (kLp5 ++ (kLp6 ++ (kLp7 ++ (kLp8 ++ (kLp9 ++ (kLp10 ++ (kLp11 ++ (kLp12 ++ (kLp13 ++ (kLp14 ++ (kLp15 ++ (kLp16 ++ (kLp17 ++ (kLp18 ++ (kLp19 ++ (kLp20 ++ (kLp21)))))))))))))))))))))) (kLc0 ++ (kLc1 ++ (kLc2 ++ (kLc3 ++ (kLc4 ++ (kLc5 ++ (kLc6 ++ (kLc7 ++ (kLc8 ++ (kLc9 ++ (kLc10 ++ (kLc11 ++ (kLc12 ++ (kLc13 ++ (kLc14 ++ (kLc15 ++ (kLc16 ++ (kLc17 ++ (kLc18 ++ (kLc19 ++ (kLc20 ++ (kLc21)))))))))))))))))))))) = true := (ck_l_app (ck_l_app (ck_l_app (ck_l_app (ck_l_app (ck_l_app (ck_l_app (ck_l_app (ck_l_app (ck_l_app (ck_l_app (ck_l_app (ck_l_app (ck_l_app (ck_l_app (ck_l_app (ck_l_app (ck_l_app (ck_l_app (ck_l_app (ck_l_app okL_21 okL_20) okL_19) okL_18) okL_17) okL_16) okL_15) okL_14) okL_13) okL_12) okL_11) okL_10) okL_9) okL_8) okL_7) okL_6) okL_5) okL_4) okL_3) okL_2) okL_1) okL_0)
theorem okL_law : ck_m 13 true (kL_law, 7, 1) fL_law = true := by
  unfold ck_m
  rw [pL_eq]
  simp only [kL_eq, okL_l, Bool.and_true, Bool.and_eq_true, decide_eq_true_eq]
  exact ⟨⟨rfl, rfl⟩, rfl⟩
