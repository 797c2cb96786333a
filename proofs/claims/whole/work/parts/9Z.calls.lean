variable {N : Int}
/-! ===== printed by wip/whole/gen9Z.py: lines of the model that are calls; the end of a line ===== -/
theorem b_line0 {μ : Nat → Nat → Int} {c s : Nat} {v : Int} {ν' : Nat → Nat → Int} (hv : v = 0 ∨ v = 1) (K : Cl PT 185 [mR 118] (mkh μ c s) (fun r => r = (some (some (mI v)), mkh ν' c s))) : Rn PT none kX12_line 4 [some (mR 118)] [] (mkh μ c s) (fun r => r = (some (some (mI v)), mkh ν' c s)) := by
  refine rn_aload_n (k' := 5) rfl rfl rfl ?_
  refine rn_callP (k' := 6) (y := 185) (vs := [mR 118]) (S' := []) (v := some (mI (v))) (h' := mkh ν' c s) rfl rfl rfl (K) ?_
  show Rn PT none kX12_line 6 [some (mR 118)] [mI (v)] (mkh ν' c s) _
  refine rn_iret rfl (Or.inr (by omega)) ?_
  rfl
theorem b_line3 {μ : Nat → Nat → Int} {c s : Nat} {v : Int} {ν' : Nat → Nat → Int} (hv : v = 0 ∨ v = 1) (K : Cl PT 186 [mR 118, mI 0] (mkh μ c s) (fun r => r = (some (some (mI v)), mkh ν' c s))) : Rn PT none kX12_line 74 [some (mR 118)] [] (mkh μ c s) (fun r => r = (some (some (mI v)), mkh ν' c s)) := by
  refine rn_aload_n (k' := 75) rfl rfl rfl ?_
  refine rn_iconst (k' := 76) rfl rfl ?_
  refine rn_callP (k' := 77) (y := 186) (vs := [mR 118, mI (0)]) (S' := []) (v := some (mI (v))) (h' := mkh ν' c s) rfl rfl rfl (K) ?_
  show Rn PT none kX12_line 77 [some (mR 118)] [mI (v)] (mkh ν' c s) _
  refine rn_iret rfl (Or.inr (by omega)) ?_
  rfl
theorem b_line4 {μ : Nat → Nat → Int} {c s : Nat} {v : Int} {ν' : Nat → Nat → Int} (hv : v = 0 ∨ v = 1) (K : Cl PT 186 [mR 118, mI 1] (mkh μ c s) (fun r => r = (some (some (mI v)), mkh ν' c s))) : Rn PT none kX12_line 82 [some (mR 118)] [] (mkh μ c s) (fun r => r = (some (some (mI v)), mkh ν' c s)) := by
  refine rn_aload_n (k' := 83) rfl rfl rfl ?_
  refine rn_iconst (k' := 84) rfl rfl ?_
  refine rn_callP (k' := 85) (y := 186) (vs := [mR 118, mI (1)]) (S' := []) (v := some (mI (v))) (h' := mkh ν' c s) rfl rfl rfl (K) ?_
  show Rn PT none kX12_line 85 [some (mR 118)] [mI (v)] (mkh ν' c s) _
  refine rn_iret rfl (Or.inr (by omega)) ?_
  rfl
theorem b_line5 {μ : Nat → Nat → Int} {c s : Nat} {v : Int} {ν' : Nat → Nat → Int} (hv : v = 0 ∨ v = 1) (K : Cl PT 186 [mR 118, mI 2] (mkh μ c s) (fun r => r = (some (some (mI v)), mkh ν' c s))) : Rn PT none kX12_line 90 [some (mR 118)] [] (mkh μ c s) (fun r => r = (some (some (mI v)), mkh ν' c s)) := by
  refine rn_aload_n (k' := 91) rfl rfl rfl ?_
  refine rn_iconst (k' := 92) rfl rfl ?_
  refine rn_callP (k' := 93) (y := 186) (vs := [mR 118, mI (2)]) (S' := []) (v := some (mI (v))) (h' := mkh ν' c s) rfl rfl rfl (K) ?_
  show Rn PT none kX12_line 93 [some (mR 118)] [mI (v)] (mkh ν' c s) _
  refine rn_iret rfl (Or.inr (by omega)) ?_
  rfl
theorem b_line6 {μ : Nat → Nat → Int} {c s : Nat} {v : Int} {ν' : Nat → Nat → Int} (hv : v = 0 ∨ v = 1) (K : Cl PT 188 [mR 118, mI 109, mI 5] (mkh μ c s) (fun r => r = (some (some (mI v)), mkh ν' c s))) : Rn PT none kX12_line 98 [some (mR 118)] [] (mkh μ c s) (fun r => r = (some (some (mI v)), mkh ν' c s)) := by
  refine rn_aload_n (k' := 99) rfl rfl rfl ?_
  refine rn_bipush (k' := 100) rfl rfl ?_
  refine rn_iconst (k' := 101) rfl rfl ?_
  refine rn_callP (k' := 102) (y := 188) (vs := [mR 118, mI (109), mI (5)]) (S' := []) (v := some (mI (v))) (h' := mkh ν' c s) rfl rfl rfl (K) ?_
  show Rn PT none kX12_line 102 [some (mR 118)] [mI (v)] (mkh ν' c s) _
  refine rn_iret rfl (Or.inr (by omega)) ?_
  rfl
theorem b_line7 {μ : Nat → Nat → Int} {c s : Nat} {v : Int} {ν' : Nat → Nat → Int} (hv : v = 0 ∨ v = 1) (K : Cl PT 188 [mR 118, mI 209, mI 6] (mkh μ c s) (fun r => r = (some (some (mI v)), mkh ν' c s))) : Rn PT none kX12_line 107 [some (mR 118)] [] (mkh μ c s) (fun r => r = (some (some (mI v)), mkh ν' c s)) := by
  refine rn_aload_n (k' := 108) rfl rfl rfl ?_
  refine rn_sipush (k' := 109) rfl rfl ?_
  refine rn_bipush (k' := 110) rfl rfl ?_
  refine rn_callP (k' := 111) (y := 188) (vs := [mR 118, mI (209), mI (6)]) (S' := []) (v := some (mI (v))) (h' := mkh ν' c s) rfl rfl rfl (K) ?_
  show Rn PT none kX12_line 111 [some (mR 118)] [mI (v)] (mkh ν' c s) _
  refine rn_iret rfl (Or.inr (by omega)) ?_
  rfl
theorem b_line8 {μ : Nat → Nat → Int} {c s : Nat} {v : Int} {ν' : Nat → Nat → Int} (hv : v = 0 ∨ v = 1) (K : Cl PT 188 [mR 118, mI 309, mI 7] (mkh μ c s) (fun r => r = (some (some (mI v)), mkh ν' c s))) : Rn PT none kX12_line 116 [some (mR 118)] [] (mkh μ c s) (fun r => r = (some (some (mI v)), mkh ν' c s)) := by
  refine rn_aload_n (k' := 117) rfl rfl rfl ?_
  refine rn_sipush (k' := 118) rfl rfl ?_
  refine rn_bipush (k' := 119) rfl rfl ?_
  refine rn_callP (k' := 120) (y := 188) (vs := [mR 118, mI (309), mI (7)]) (S' := []) (v := some (mI (v))) (h' := mkh ν' c s) rfl rfl rfl (K) ?_
  show Rn PT none kX12_line 120 [some (mR 118)] [mI (v)] (mkh ν' c s) _
  refine rn_iret rfl (Or.inr (by omega)) ?_
  rfl
theorem b_line9 {μ : Nat → Nat → Int} {c s : Nat} {v : Int} {ν' : Nat → Nat → Int} (hv : v = 0 ∨ v = 1) (K : Cl PT 189 [mR 118] (mkh μ c s) (fun r => r = (some (some (mI v)), mkh ν' c s))) : Rn PT none kX12_line 125 [some (mR 118)] [] (mkh μ c s) (fun r => r = (some (some (mI v)), mkh ν' c s)) := by
  refine rn_aload_n (k' := 126) rfl rfl rfl ?_
  refine rn_callP (k' := 127) (y := 189) (vs := [mR 118]) (S' := []) (v := some (mI (v))) (h' := mkh ν' c s) rfl rfl rfl (K) ?_
  show Rn PT none kX12_line 127 [some (mR 118)] [mI (v)] (mkh ν' c s) _
  refine rn_iret rfl (Or.inr (by omega)) ?_
  rfl
theorem m_once0_had {μ : Nat → Nat → Int} {c s : Nat} {b : Nat → Int} {n m p : Nat} (hM : MSt μ b n m p) {O : Nat} (hO : μ 118 20 = (O : Int)) (hO8 : O < 8) (hbt : O / 2 ^ 0 % 2 = 1) : Rn PT none kX12_line 11 [some (mR 118)] [] (mkh μ c s) (fun r => ∃ ν', r = (some (some (mI 0)), mkh ν' c s) ∧ ν' 118 15 = 3 ∧ ν' 118 16 = ((tkP b n m p : Nat) : Int) ∧ MFr μ ν') := by
  refine rn_aload_n (k' := 12) rfl rfl rfl ?_
  refine rn_iconst (k' := 13) rfl rfl ?_
  refine rn_callP (k' := 14) (y := 184) (vs := [mR 118, mI (0)]) (S' := []) (v := some (mI (0))) (h' := mkh (m_set (m_set μ 118 15 (3)) 118 16 (((tkP b n m p : Nat) : Int))) c s) rfl rfl rfl (g_once0X (μ := μ) (c := c) (s := s) hM hO hO8 hbt) ?_
  show Rn PT none kX12_line 14 [some (mR 118)] [mI (0)] (mkh (m_set (m_set μ 118 15 (3)) 118 16 (((tkP b n m p : Nat) : Int))) c s) _
  refine rn_if_ne (k' := 15) rfl rfl (fun hc1 => ?_) (fun hc1 => ?_)
  · exfalso; omega
  · skip
    refine rn_iconst (k' := 16) rfl rfl ?_
    refine rn_iret rfl (Or.inr (by omega)) ?_
    exact ⟨_, rfl, rfl, rfl, (MFr.s (MFr.s MFr.r (by decide)) (by decide))⟩
theorem m_once1_had {μ : Nat → Nat → Int} {c s : Nat} {b : Nat → Int} {n m p : Nat} (hM : MSt μ b n m p) {O : Nat} (hO : μ 118 20 = (O : Int)) (hO8 : O < 8) (hbt : O / 2 ^ 1 % 2 = 1) : Rn PT none kX12_line 49 [some (mR 118)] [] (mkh μ c s) (fun r => ∃ ν', r = (some (some (mI 0)), mkh ν' c s) ∧ ν' 118 15 = 3 ∧ ν' 118 16 = ((tkP b n m p : Nat) : Int) ∧ MFr μ ν') := by
  refine rn_aload_n (k' := 50) rfl rfl rfl ?_
  refine rn_iconst (k' := 51) rfl rfl ?_
  refine rn_callP (k' := 52) (y := 184) (vs := [mR 118, mI (1)]) (S' := []) (v := some (mI (0))) (h' := mkh (m_set (m_set μ 118 15 (3)) 118 16 (((tkP b n m p : Nat) : Int))) c s) rfl rfl rfl (g_once1X (μ := μ) (c := c) (s := s) hM hO hO8 hbt) ?_
  show Rn PT none kX12_line 52 [some (mR 118)] [mI (0)] (mkh (m_set (m_set μ 118 15 (3)) 118 16 (((tkP b n m p : Nat) : Int))) c s) _
  refine rn_if_ne (k' := 53) rfl rfl (fun hc1 => ?_) (fun hc1 => ?_)
  · exfalso; omega
  · skip
    refine rn_iconst (k' := 54) rfl rfl ?_
    refine rn_iret rfl (Or.inr (by omega)) ?_
    exact ⟨_, rfl, rfl, rfl, (MFr.s (MFr.s MFr.r (by decide)) (by decide))⟩
theorem m_once2_had {μ : Nat → Nat → Int} {c s : Nat} {b : Nat → Int} {n m p : Nat} (hM : MSt μ b n m p) {O : Nat} (hO : μ 118 20 = (O : Int)) (hO8 : O < 8) (hbt : O / 2 ^ 2 % 2 = 1) : Rn PT none kX12_line 136 [some (mR 118)] [] (mkh μ c s) (fun r => ∃ ν', r = (some (some (mI 0)), mkh ν' c s) ∧ ν' 118 15 = 3 ∧ ν' 118 16 = ((tkP b n m p : Nat) : Int) ∧ MFr μ ν') := by
  refine rn_aload_n (k' := 137) rfl rfl rfl ?_
  refine rn_iconst (k' := 138) rfl rfl ?_
  refine rn_callP (k' := 139) (y := 184) (vs := [mR 118, mI (2)]) (S' := []) (v := some (mI (0))) (h' := mkh (m_set (m_set μ 118 15 (3)) 118 16 (((tkP b n m p : Nat) : Int))) c s) rfl rfl rfl (g_once2X (μ := μ) (c := c) (s := s) hM hO hO8 hbt) ?_
  show Rn PT none kX12_line 139 [some (mR 118)] [mI (0)] (mkh (m_set (m_set μ 118 15 (3)) 118 16 (((tkP b n m p : Nat) : Int))) c s) _
  refine rn_if_ne (k' := 140) rfl rfl (fun hc1 => ?_) (fun hc1 => ?_)
  · exfalso; omega
  · skip
    refine rn_iconst (k' := 141) rfl rfl ?_
    refine rn_iret rfl (Or.inr (by omega)) ?_
    exact ⟨_, rfl, rfl, rfl, (MFr.s (MFr.s MFr.r (by decide)) (by decide))⟩
