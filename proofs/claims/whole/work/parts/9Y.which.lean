variable {N : Int}
/-! ===== printed by wip/whole/gen9Y.py: which line it is ===== -/
theorem d_line0 {μ : Nat → Nat → Int} {c s : Nat} (h5 : μ 1 5 = 1) (hx : ix (μ 4) (μ 1 6) 16 0 = 0) {v : Int} {μ' : Nat → Nat → Int} (K : Cl PT 52 [mR 3, mR 54] (mkh μ c s) (fun r => r = (some (some (mI v)), mkh μ' c s))) (hv : v = 0 ∨ v = 1) : Cl PT 51 [mR 3, mR 54] (mkh μ c s) (fun r => r = (some (some (mI v)), mkh μ' c s)) := by
  refine ⟨_, PT_51, Nat.le_of_ble_eq_true rfl, ?_⟩
  show Rn PT none kX5_readMoorLine 0 [some (mR 3), some (mR 54), none] [] (mkh μ c s) _
  refine rn_aload_n (k' := 1) rfl rfl rfl ?_
  refine rn_callP (k' := 2) (y := 46) (vs := [mR 3]) (S' := []) (v := some (mI (0))) (h' := mkh μ c s) rfl rfl rfl (by have hz := c_wordRead (μ := μ) (c := c) (s := s) h5; rw [hx] at hz; exact hz) ?_
  show Rn PT none kX5_readMoorLine 2 [some (mR 3), some (mR 54), none] [mI (0)] (mkh μ c s) _
  refine rn_istore_n (k' := 3) (L' := [some (mR 3), some (mR 54), some (mI (0))]) rfl rfl (Nat.le_of_ble_eq_true rfl) rfl ?_
  refine rn_iload_n (k' := 4) rfl rfl rfl ?_
  rcases (show ((0 : Int) < 0 ∨ 10 < (0 : Int)) ∨ (0 : Int) = 0 ∨ (0 : Int) = 1 ∨ (0 : Int) = 2 ∨ (0 : Int) = 3 ∨ (0 : Int) = 4 ∨ (0 : Int) = 5 ∨ (0 : Int) = 6 ∨ (0 : Int) = 7 ∨ (0 : Int) = 8 ∨ (0 : Int) = 9 ∨ (0 : Int) = 10 by omega) with hs1 | hs1 | hs1 | hs1 | hs1 | hs1 | hs1 | hs1 | hs1 | hs1 | hs1 | hs1
  · exfalso; omega
  · refine rn_swI (j := 0) (t' := 5) rfl (by omega) rfl ?_
    refine rn_aload_n (k' := 6) rfl rfl rfl ?_
    refine rn_aload_n (k' := 7) rfl rfl rfl ?_
    refine rn_callP (k' := 8) (y := 52) (vs := [mR 3, mR 54]) (S' := []) (v := some (mI (v))) (h' := mkh μ' c s) rfl rfl rfl (K) ?_
    show Rn PT none kX5_readMoorLine 8 [some (mR 3), some (mR 54), some (mI (0))] [mI (v)] (mkh μ' c s) _
    refine rn_iret rfl (Or.inr (by omega)) ?_
    rfl
  · exfalso; omega
  · exfalso; omega
  · exfalso; omega
  · exfalso; omega
  · exfalso; omega
  · exfalso; omega
  · exfalso; omega
  · exfalso; omega
  · exfalso; omega
  · exfalso; omega
theorem d_line1 {μ : Nat → Nat → Int} {c s : Nat} (h5 : μ 1 5 = 1) (hx : ix (μ 4) (μ 1 6) 16 0 = 1) {v : Int} {μ' : Nat → Nat → Int} (K : Cl PT 53 [mR 3, mR 54] (mkh μ c s) (fun r => r = (some (some (mI v)), mkh μ' c s))) (hv : v = 0 ∨ v = 1) : Cl PT 51 [mR 3, mR 54] (mkh μ c s) (fun r => r = (some (some (mI v)), mkh μ' c s)) := by
  refine ⟨_, PT_51, Nat.le_of_ble_eq_true rfl, ?_⟩
  show Rn PT none kX5_readMoorLine 0 [some (mR 3), some (mR 54), none] [] (mkh μ c s) _
  refine rn_aload_n (k' := 1) rfl rfl rfl ?_
  refine rn_callP (k' := 2) (y := 46) (vs := [mR 3]) (S' := []) (v := some (mI (1))) (h' := mkh μ c s) rfl rfl rfl (by have hz := c_wordRead (μ := μ) (c := c) (s := s) h5; rw [hx] at hz; exact hz) ?_
  show Rn PT none kX5_readMoorLine 2 [some (mR 3), some (mR 54), none] [mI (1)] (mkh μ c s) _
  refine rn_istore_n (k' := 3) (L' := [some (mR 3), some (mR 54), some (mI (1))]) rfl rfl (Nat.le_of_ble_eq_true rfl) rfl ?_
  refine rn_iload_n (k' := 4) rfl rfl rfl ?_
  rcases (show ((1 : Int) < 0 ∨ 10 < (1 : Int)) ∨ (1 : Int) = 0 ∨ (1 : Int) = 1 ∨ (1 : Int) = 2 ∨ (1 : Int) = 3 ∨ (1 : Int) = 4 ∨ (1 : Int) = 5 ∨ (1 : Int) = 6 ∨ (1 : Int) = 7 ∨ (1 : Int) = 8 ∨ (1 : Int) = 9 ∨ (1 : Int) = 10 by omega) with hs1 | hs1 | hs1 | hs1 | hs1 | hs1 | hs1 | hs1 | hs1 | hs1 | hs1 | hs1
  · exfalso; omega
  · exfalso; omega
  · refine rn_swI (j := 1) (t' := 9) rfl (by omega) rfl ?_
    refine rn_aload_n (k' := 10) rfl rfl rfl ?_
    refine rn_aload_n (k' := 11) rfl rfl rfl ?_
    refine rn_callP (k' := 12) (y := 53) (vs := [mR 3, mR 54]) (S' := []) (v := some (mI (v))) (h' := mkh μ' c s) rfl rfl rfl (K) ?_
    show Rn PT none kX5_readMoorLine 12 [some (mR 3), some (mR 54), some (mI (1))] [mI (v)] (mkh μ' c s) _
    refine rn_iret rfl (Or.inr (by omega)) ?_
    rfl
  · exfalso; omega
  · exfalso; omega
  · exfalso; omega
  · exfalso; omega
  · exfalso; omega
  · exfalso; omega
  · exfalso; omega
  · exfalso; omega
  · exfalso; omega
theorem d_line2 {μ : Nat → Nat → Int} {c s : Nat} (h5 : μ 1 5 = 1) (hx : ix (μ 4) (μ 1 6) 16 0 = 2) {v : Int} {μ' : Nat → Nat → Int} (K : Cl PT 54 [mR 3, mR 54] (mkh μ c s) (fun r => r = (some (some (mI v)), mkh μ' c s))) (hv : v = 0 ∨ v = 1) : Cl PT 51 [mR 3, mR 54] (mkh μ c s) (fun r => r = (some (some (mI v)), mkh μ' c s)) := by
  refine ⟨_, PT_51, Nat.le_of_ble_eq_true rfl, ?_⟩
  show Rn PT none kX5_readMoorLine 0 [some (mR 3), some (mR 54), none] [] (mkh μ c s) _
  refine rn_aload_n (k' := 1) rfl rfl rfl ?_
  refine rn_callP (k' := 2) (y := 46) (vs := [mR 3]) (S' := []) (v := some (mI (2))) (h' := mkh μ c s) rfl rfl rfl (by have hz := c_wordRead (μ := μ) (c := c) (s := s) h5; rw [hx] at hz; exact hz) ?_
  show Rn PT none kX5_readMoorLine 2 [some (mR 3), some (mR 54), none] [mI (2)] (mkh μ c s) _
  refine rn_istore_n (k' := 3) (L' := [some (mR 3), some (mR 54), some (mI (2))]) rfl rfl (Nat.le_of_ble_eq_true rfl) rfl ?_
  refine rn_iload_n (k' := 4) rfl rfl rfl ?_
  rcases (show ((2 : Int) < 0 ∨ 10 < (2 : Int)) ∨ (2 : Int) = 0 ∨ (2 : Int) = 1 ∨ (2 : Int) = 2 ∨ (2 : Int) = 3 ∨ (2 : Int) = 4 ∨ (2 : Int) = 5 ∨ (2 : Int) = 6 ∨ (2 : Int) = 7 ∨ (2 : Int) = 8 ∨ (2 : Int) = 9 ∨ (2 : Int) = 10 by omega) with hs1 | hs1 | hs1 | hs1 | hs1 | hs1 | hs1 | hs1 | hs1 | hs1 | hs1 | hs1
  · exfalso; omega
  · exfalso; omega
  · exfalso; omega
  · refine rn_swI (j := 2) (t' := 13) rfl (by omega) rfl ?_
    refine rn_aload_n (k' := 14) rfl rfl rfl ?_
    refine rn_aload_n (k' := 15) rfl rfl rfl ?_
    refine rn_callP (k' := 16) (y := 54) (vs := [mR 3, mR 54]) (S' := []) (v := some (mI (v))) (h' := mkh μ' c s) rfl rfl rfl (K) ?_
    show Rn PT none kX5_readMoorLine 16 [some (mR 3), some (mR 54), some (mI (2))] [mI (v)] (mkh μ' c s) _
    refine rn_iret rfl (Or.inr (by omega)) ?_
    rfl
  · exfalso; omega
  · exfalso; omega
  · exfalso; omega
  · exfalso; omega
  · exfalso; omega
  · exfalso; omega
  · exfalso; omega
  · exfalso; omega
theorem d_line3 {μ : Nat → Nat → Int} {c s : Nat} (h5 : μ 1 5 = 1) (hx : ix (μ 4) (μ 1 6) 16 0 = 3) {v : Int} {μ' : Nat → Nat → Int} (K : Cl PT 55 [mR 3, mR 54, mI 0] (mkh μ c s) (fun r => r = (some (some (mI v)), mkh μ' c s))) (hv : v = 0 ∨ v = 1) : Cl PT 51 [mR 3, mR 54] (mkh μ c s) (fun r => r = (some (some (mI v)), mkh μ' c s)) := by
  refine ⟨_, PT_51, Nat.le_of_ble_eq_true rfl, ?_⟩
  show Rn PT none kX5_readMoorLine 0 [some (mR 3), some (mR 54), none] [] (mkh μ c s) _
  refine rn_aload_n (k' := 1) rfl rfl rfl ?_
  refine rn_callP (k' := 2) (y := 46) (vs := [mR 3]) (S' := []) (v := some (mI (3))) (h' := mkh μ c s) rfl rfl rfl (by have hz := c_wordRead (μ := μ) (c := c) (s := s) h5; rw [hx] at hz; exact hz) ?_
  show Rn PT none kX5_readMoorLine 2 [some (mR 3), some (mR 54), none] [mI (3)] (mkh μ c s) _
  refine rn_istore_n (k' := 3) (L' := [some (mR 3), some (mR 54), some (mI (3))]) rfl rfl (Nat.le_of_ble_eq_true rfl) rfl ?_
  refine rn_iload_n (k' := 4) rfl rfl rfl ?_
  rcases (show ((3 : Int) < 0 ∨ 10 < (3 : Int)) ∨ (3 : Int) = 0 ∨ (3 : Int) = 1 ∨ (3 : Int) = 2 ∨ (3 : Int) = 3 ∨ (3 : Int) = 4 ∨ (3 : Int) = 5 ∨ (3 : Int) = 6 ∨ (3 : Int) = 7 ∨ (3 : Int) = 8 ∨ (3 : Int) = 9 ∨ (3 : Int) = 10 by omega) with hs1 | hs1 | hs1 | hs1 | hs1 | hs1 | hs1 | hs1 | hs1 | hs1 | hs1 | hs1
  · exfalso; omega
  · exfalso; omega
  · exfalso; omega
  · exfalso; omega
  · refine rn_swI (j := 3) (t' := 17) rfl (by omega) rfl ?_
    refine rn_aload_n (k' := 18) rfl rfl rfl ?_
    refine rn_aload_n (k' := 19) rfl rfl rfl ?_
    refine rn_iload_n (k' := 20) rfl rfl rfl ?_
    refine rn_iconst (k' := 21) rfl rfl ?_
    refine rn_isub (k' := 22) rfl rfl (by omega) ?_
    refine rn_callP (k' := 23) (y := 55) (vs := [mR 3, mR 54, mI (3 - 3)]) (S' := []) (v := some (mI (v))) (h' := mkh μ' c s) rfl rfl rfl (K) ?_
    show Rn PT none kX5_readMoorLine 23 [some (mR 3), some (mR 54), some (mI (3))] [mI (v)] (mkh μ' c s) _
    refine rn_iret rfl (Or.inr (by omega)) ?_
    rfl
  · exfalso; omega
  · exfalso; omega
  · exfalso; omega
  · exfalso; omega
  · exfalso; omega
  · exfalso; omega
  · exfalso; omega
theorem d_line4 {μ : Nat → Nat → Int} {c s : Nat} (h5 : μ 1 5 = 1) (hx : ix (μ 4) (μ 1 6) 16 0 = 4) {v : Int} {μ' : Nat → Nat → Int} (K : Cl PT 55 [mR 3, mR 54, mI 1] (mkh μ c s) (fun r => r = (some (some (mI v)), mkh μ' c s))) (hv : v = 0 ∨ v = 1) : Cl PT 51 [mR 3, mR 54] (mkh μ c s) (fun r => r = (some (some (mI v)), mkh μ' c s)) := by
  refine ⟨_, PT_51, Nat.le_of_ble_eq_true rfl, ?_⟩
  show Rn PT none kX5_readMoorLine 0 [some (mR 3), some (mR 54), none] [] (mkh μ c s) _
  refine rn_aload_n (k' := 1) rfl rfl rfl ?_
  refine rn_callP (k' := 2) (y := 46) (vs := [mR 3]) (S' := []) (v := some (mI (4))) (h' := mkh μ c s) rfl rfl rfl (by have hz := c_wordRead (μ := μ) (c := c) (s := s) h5; rw [hx] at hz; exact hz) ?_
  show Rn PT none kX5_readMoorLine 2 [some (mR 3), some (mR 54), none] [mI (4)] (mkh μ c s) _
  refine rn_istore_n (k' := 3) (L' := [some (mR 3), some (mR 54), some (mI (4))]) rfl rfl (Nat.le_of_ble_eq_true rfl) rfl ?_
  refine rn_iload_n (k' := 4) rfl rfl rfl ?_
  rcases (show ((4 : Int) < 0 ∨ 10 < (4 : Int)) ∨ (4 : Int) = 0 ∨ (4 : Int) = 1 ∨ (4 : Int) = 2 ∨ (4 : Int) = 3 ∨ (4 : Int) = 4 ∨ (4 : Int) = 5 ∨ (4 : Int) = 6 ∨ (4 : Int) = 7 ∨ (4 : Int) = 8 ∨ (4 : Int) = 9 ∨ (4 : Int) = 10 by omega) with hs1 | hs1 | hs1 | hs1 | hs1 | hs1 | hs1 | hs1 | hs1 | hs1 | hs1 | hs1
  · exfalso; omega
  · exfalso; omega
  · exfalso; omega
  · exfalso; omega
  · exfalso; omega
  · refine rn_swI (j := 4) (t' := 17) rfl (by omega) rfl ?_
    refine rn_aload_n (k' := 18) rfl rfl rfl ?_
    refine rn_aload_n (k' := 19) rfl rfl rfl ?_
    refine rn_iload_n (k' := 20) rfl rfl rfl ?_
    refine rn_iconst (k' := 21) rfl rfl ?_
    refine rn_isub (k' := 22) rfl rfl (by omega) ?_
    refine rn_callP (k' := 23) (y := 55) (vs := [mR 3, mR 54, mI (4 - 3)]) (S' := []) (v := some (mI (v))) (h' := mkh μ' c s) rfl rfl rfl (K) ?_
    show Rn PT none kX5_readMoorLine 23 [some (mR 3), some (mR 54), some (mI (4))] [mI (v)] (mkh μ' c s) _
    refine rn_iret rfl (Or.inr (by omega)) ?_
    rfl
  · exfalso; omega
  · exfalso; omega
  · exfalso; omega
  · exfalso; omega
  · exfalso; omega
  · exfalso; omega
theorem d_line5 {μ : Nat → Nat → Int} {c s : Nat} (h5 : μ 1 5 = 1) (hx : ix (μ 4) (μ 1 6) 16 0 = 5) {v : Int} {μ' : Nat → Nat → Int} (K : Cl PT 55 [mR 3, mR 54, mI 2] (mkh μ c s) (fun r => r = (some (some (mI v)), mkh μ' c s))) (hv : v = 0 ∨ v = 1) : Cl PT 51 [mR 3, mR 54] (mkh μ c s) (fun r => r = (some (some (mI v)), mkh μ' c s)) := by
  refine ⟨_, PT_51, Nat.le_of_ble_eq_true rfl, ?_⟩
  show Rn PT none kX5_readMoorLine 0 [some (mR 3), some (mR 54), none] [] (mkh μ c s) _
  refine rn_aload_n (k' := 1) rfl rfl rfl ?_
  refine rn_callP (k' := 2) (y := 46) (vs := [mR 3]) (S' := []) (v := some (mI (5))) (h' := mkh μ c s) rfl rfl rfl (by have hz := c_wordRead (μ := μ) (c := c) (s := s) h5; rw [hx] at hz; exact hz) ?_
  show Rn PT none kX5_readMoorLine 2 [some (mR 3), some (mR 54), none] [mI (5)] (mkh μ c s) _
  refine rn_istore_n (k' := 3) (L' := [some (mR 3), some (mR 54), some (mI (5))]) rfl rfl (Nat.le_of_ble_eq_true rfl) rfl ?_
  refine rn_iload_n (k' := 4) rfl rfl rfl ?_
  rcases (show ((5 : Int) < 0 ∨ 10 < (5 : Int)) ∨ (5 : Int) = 0 ∨ (5 : Int) = 1 ∨ (5 : Int) = 2 ∨ (5 : Int) = 3 ∨ (5 : Int) = 4 ∨ (5 : Int) = 5 ∨ (5 : Int) = 6 ∨ (5 : Int) = 7 ∨ (5 : Int) = 8 ∨ (5 : Int) = 9 ∨ (5 : Int) = 10 by omega) with hs1 | hs1 | hs1 | hs1 | hs1 | hs1 | hs1 | hs1 | hs1 | hs1 | hs1 | hs1
  · exfalso; omega
  · exfalso; omega
  · exfalso; omega
  · exfalso; omega
  · exfalso; omega
  · exfalso; omega
  · refine rn_swI (j := 5) (t' := 17) rfl (by omega) rfl ?_
    refine rn_aload_n (k' := 18) rfl rfl rfl ?_
    refine rn_aload_n (k' := 19) rfl rfl rfl ?_
    refine rn_iload_n (k' := 20) rfl rfl rfl ?_
    refine rn_iconst (k' := 21) rfl rfl ?_
    refine rn_isub (k' := 22) rfl rfl (by omega) ?_
    refine rn_callP (k' := 23) (y := 55) (vs := [mR 3, mR 54, mI (5 - 3)]) (S' := []) (v := some (mI (v))) (h' := mkh μ' c s) rfl rfl rfl (K) ?_
    show Rn PT none kX5_readMoorLine 23 [some (mR 3), some (mR 54), some (mI (5))] [mI (v)] (mkh μ' c s) _
    refine rn_iret rfl (Or.inr (by omega)) ?_
    rfl
  · exfalso; omega
  · exfalso; omega
  · exfalso; omega
  · exfalso; omega
  · exfalso; omega
theorem d_line6 {μ : Nat → Nat → Int} {c s : Nat} (h5 : μ 1 5 = 1) (hx : ix (μ 4) (μ 1 6) 16 0 = 6) {v : Int} {μ' : Nat → Nat → Int} (K : Cl PT 56 [mR 3, mR 54, mI 0] (mkh μ c s) (fun r => r = (some (some (mI v)), mkh μ' c s))) (hv : v = 0 ∨ v = 1) : Cl PT 51 [mR 3, mR 54] (mkh μ c s) (fun r => r = (some (some (mI v)), mkh μ' c s)) := by
  refine ⟨_, PT_51, Nat.le_of_ble_eq_true rfl, ?_⟩
  show Rn PT none kX5_readMoorLine 0 [some (mR 3), some (mR 54), none] [] (mkh μ c s) _
  refine rn_aload_n (k' := 1) rfl rfl rfl ?_
  refine rn_callP (k' := 2) (y := 46) (vs := [mR 3]) (S' := []) (v := some (mI (6))) (h' := mkh μ c s) rfl rfl rfl (by have hz := c_wordRead (μ := μ) (c := c) (s := s) h5; rw [hx] at hz; exact hz) ?_
  show Rn PT none kX5_readMoorLine 2 [some (mR 3), some (mR 54), none] [mI (6)] (mkh μ c s) _
  refine rn_istore_n (k' := 3) (L' := [some (mR 3), some (mR 54), some (mI (6))]) rfl rfl (Nat.le_of_ble_eq_true rfl) rfl ?_
  refine rn_iload_n (k' := 4) rfl rfl rfl ?_
  rcases (show ((6 : Int) < 0 ∨ 10 < (6 : Int)) ∨ (6 : Int) = 0 ∨ (6 : Int) = 1 ∨ (6 : Int) = 2 ∨ (6 : Int) = 3 ∨ (6 : Int) = 4 ∨ (6 : Int) = 5 ∨ (6 : Int) = 6 ∨ (6 : Int) = 7 ∨ (6 : Int) = 8 ∨ (6 : Int) = 9 ∨ (6 : Int) = 10 by omega) with hs1 | hs1 | hs1 | hs1 | hs1 | hs1 | hs1 | hs1 | hs1 | hs1 | hs1 | hs1
  · exfalso; omega
  · exfalso; omega
  · exfalso; omega
  · exfalso; omega
  · exfalso; omega
  · exfalso; omega
  · exfalso; omega
  · refine rn_swI (j := 6) (t' := 24) rfl (by omega) rfl ?_
    refine rn_aload_n (k' := 25) rfl rfl rfl ?_
    refine rn_aload_n (k' := 26) rfl rfl rfl ?_
    refine rn_iload_n (k' := 27) rfl rfl rfl ?_
    refine rn_bipush (k' := 28) rfl rfl ?_
    refine rn_isub (k' := 29) rfl rfl (by omega) ?_
    refine rn_callP (k' := 30) (y := 56) (vs := [mR 3, mR 54, mI (6 - 6)]) (S' := []) (v := some (mI (v))) (h' := mkh μ' c s) rfl rfl rfl (K) ?_
    show Rn PT none kX5_readMoorLine 30 [some (mR 3), some (mR 54), some (mI (6))] [mI (v)] (mkh μ' c s) _
    refine rn_iret rfl (Or.inr (by omega)) ?_
    rfl
  · exfalso; omega
  · exfalso; omega
  · exfalso; omega
  · exfalso; omega
theorem d_line7 {μ : Nat → Nat → Int} {c s : Nat} (h5 : μ 1 5 = 1) (hx : ix (μ 4) (μ 1 6) 16 0 = 7) {v : Int} {μ' : Nat → Nat → Int} (K : Cl PT 56 [mR 3, mR 54, mI 1] (mkh μ c s) (fun r => r = (some (some (mI v)), mkh μ' c s))) (hv : v = 0 ∨ v = 1) : Cl PT 51 [mR 3, mR 54] (mkh μ c s) (fun r => r = (some (some (mI v)), mkh μ' c s)) := by
  refine ⟨_, PT_51, Nat.le_of_ble_eq_true rfl, ?_⟩
  show Rn PT none kX5_readMoorLine 0 [some (mR 3), some (mR 54), none] [] (mkh μ c s) _
  refine rn_aload_n (k' := 1) rfl rfl rfl ?_
  refine rn_callP (k' := 2) (y := 46) (vs := [mR 3]) (S' := []) (v := some (mI (7))) (h' := mkh μ c s) rfl rfl rfl (by have hz := c_wordRead (μ := μ) (c := c) (s := s) h5; rw [hx] at hz; exact hz) ?_
  show Rn PT none kX5_readMoorLine 2 [some (mR 3), some (mR 54), none] [mI (7)] (mkh μ c s) _
  refine rn_istore_n (k' := 3) (L' := [some (mR 3), some (mR 54), some (mI (7))]) rfl rfl (Nat.le_of_ble_eq_true rfl) rfl ?_
  refine rn_iload_n (k' := 4) rfl rfl rfl ?_
  rcases (show ((7 : Int) < 0 ∨ 10 < (7 : Int)) ∨ (7 : Int) = 0 ∨ (7 : Int) = 1 ∨ (7 : Int) = 2 ∨ (7 : Int) = 3 ∨ (7 : Int) = 4 ∨ (7 : Int) = 5 ∨ (7 : Int) = 6 ∨ (7 : Int) = 7 ∨ (7 : Int) = 8 ∨ (7 : Int) = 9 ∨ (7 : Int) = 10 by omega) with hs1 | hs1 | hs1 | hs1 | hs1 | hs1 | hs1 | hs1 | hs1 | hs1 | hs1 | hs1
  · exfalso; omega
  · exfalso; omega
  · exfalso; omega
  · exfalso; omega
  · exfalso; omega
  · exfalso; omega
  · exfalso; omega
  · exfalso; omega
  · refine rn_swI (j := 7) (t' := 24) rfl (by omega) rfl ?_
    refine rn_aload_n (k' := 25) rfl rfl rfl ?_
    refine rn_aload_n (k' := 26) rfl rfl rfl ?_
    refine rn_iload_n (k' := 27) rfl rfl rfl ?_
    refine rn_bipush (k' := 28) rfl rfl ?_
    refine rn_isub (k' := 29) rfl rfl (by omega) ?_
    refine rn_callP (k' := 30) (y := 56) (vs := [mR 3, mR 54, mI (7 - 6)]) (S' := []) (v := some (mI (v))) (h' := mkh μ' c s) rfl rfl rfl (K) ?_
    show Rn PT none kX5_readMoorLine 30 [some (mR 3), some (mR 54), some (mI (7))] [mI (v)] (mkh μ' c s) _
    refine rn_iret rfl (Or.inr (by omega)) ?_
    rfl
  · exfalso; omega
  · exfalso; omega
  · exfalso; omega
theorem d_line8 {μ : Nat → Nat → Int} {c s : Nat} (h5 : μ 1 5 = 1) (hx : ix (μ 4) (μ 1 6) 16 0 = 8) {v : Int} {μ' : Nat → Nat → Int} (K : Cl PT 56 [mR 3, mR 54, mI 2] (mkh μ c s) (fun r => r = (some (some (mI v)), mkh μ' c s))) (hv : v = 0 ∨ v = 1) : Cl PT 51 [mR 3, mR 54] (mkh μ c s) (fun r => r = (some (some (mI v)), mkh μ' c s)) := by
  refine ⟨_, PT_51, Nat.le_of_ble_eq_true rfl, ?_⟩
  show Rn PT none kX5_readMoorLine 0 [some (mR 3), some (mR 54), none] [] (mkh μ c s) _
  refine rn_aload_n (k' := 1) rfl rfl rfl ?_
  refine rn_callP (k' := 2) (y := 46) (vs := [mR 3]) (S' := []) (v := some (mI (8))) (h' := mkh μ c s) rfl rfl rfl (by have hz := c_wordRead (μ := μ) (c := c) (s := s) h5; rw [hx] at hz; exact hz) ?_
  show Rn PT none kX5_readMoorLine 2 [some (mR 3), some (mR 54), none] [mI (8)] (mkh μ c s) _
  refine rn_istore_n (k' := 3) (L' := [some (mR 3), some (mR 54), some (mI (8))]) rfl rfl (Nat.le_of_ble_eq_true rfl) rfl ?_
  refine rn_iload_n (k' := 4) rfl rfl rfl ?_
  rcases (show ((8 : Int) < 0 ∨ 10 < (8 : Int)) ∨ (8 : Int) = 0 ∨ (8 : Int) = 1 ∨ (8 : Int) = 2 ∨ (8 : Int) = 3 ∨ (8 : Int) = 4 ∨ (8 : Int) = 5 ∨ (8 : Int) = 6 ∨ (8 : Int) = 7 ∨ (8 : Int) = 8 ∨ (8 : Int) = 9 ∨ (8 : Int) = 10 by omega) with hs1 | hs1 | hs1 | hs1 | hs1 | hs1 | hs1 | hs1 | hs1 | hs1 | hs1 | hs1
  · exfalso; omega
  · exfalso; omega
  · exfalso; omega
  · exfalso; omega
  · exfalso; omega
  · exfalso; omega
  · exfalso; omega
  · exfalso; omega
  · exfalso; omega
  · refine rn_swI (j := 8) (t' := 24) rfl (by omega) rfl ?_
    refine rn_aload_n (k' := 25) rfl rfl rfl ?_
    refine rn_aload_n (k' := 26) rfl rfl rfl ?_
    refine rn_iload_n (k' := 27) rfl rfl rfl ?_
    refine rn_bipush (k' := 28) rfl rfl ?_
    refine rn_isub (k' := 29) rfl rfl (by omega) ?_
    refine rn_callP (k' := 30) (y := 56) (vs := [mR 3, mR 54, mI (8 - 6)]) (S' := []) (v := some (mI (v))) (h' := mkh μ' c s) rfl rfl rfl (K) ?_
    show Rn PT none kX5_readMoorLine 30 [some (mR 3), some (mR 54), some (mI (8))] [mI (v)] (mkh μ' c s) _
    refine rn_iret rfl (Or.inr (by omega)) ?_
    rfl
  · exfalso; omega
  · exfalso; omega
theorem d_line9 {μ : Nat → Nat → Int} {c s : Nat} (h5 : μ 1 5 = 1) (hx : ix (μ 4) (μ 1 6) 16 0 = 9) {v : Int} {μ' : Nat → Nat → Int} (K : Cl PT 57 [mR 3, mR 54] (mkh μ c s) (fun r => r = (some (some (mI v)), mkh μ' c s))) (hv : v = 0 ∨ v = 1) : Cl PT 51 [mR 3, mR 54] (mkh μ c s) (fun r => r = (some (some (mI v)), mkh μ' c s)) := by
  refine ⟨_, PT_51, Nat.le_of_ble_eq_true rfl, ?_⟩
  show Rn PT none kX5_readMoorLine 0 [some (mR 3), some (mR 54), none] [] (mkh μ c s) _
  refine rn_aload_n (k' := 1) rfl rfl rfl ?_
  refine rn_callP (k' := 2) (y := 46) (vs := [mR 3]) (S' := []) (v := some (mI (9))) (h' := mkh μ c s) rfl rfl rfl (by have hz := c_wordRead (μ := μ) (c := c) (s := s) h5; rw [hx] at hz; exact hz) ?_
  show Rn PT none kX5_readMoorLine 2 [some (mR 3), some (mR 54), none] [mI (9)] (mkh μ c s) _
  refine rn_istore_n (k' := 3) (L' := [some (mR 3), some (mR 54), some (mI (9))]) rfl rfl (Nat.le_of_ble_eq_true rfl) rfl ?_
  refine rn_iload_n (k' := 4) rfl rfl rfl ?_
  rcases (show ((9 : Int) < 0 ∨ 10 < (9 : Int)) ∨ (9 : Int) = 0 ∨ (9 : Int) = 1 ∨ (9 : Int) = 2 ∨ (9 : Int) = 3 ∨ (9 : Int) = 4 ∨ (9 : Int) = 5 ∨ (9 : Int) = 6 ∨ (9 : Int) = 7 ∨ (9 : Int) = 8 ∨ (9 : Int) = 9 ∨ (9 : Int) = 10 by omega) with hs1 | hs1 | hs1 | hs1 | hs1 | hs1 | hs1 | hs1 | hs1 | hs1 | hs1 | hs1
  · exfalso; omega
  · exfalso; omega
  · exfalso; omega
  · exfalso; omega
  · exfalso; omega
  · exfalso; omega
  · exfalso; omega
  · exfalso; omega
  · exfalso; omega
  · exfalso; omega
  · refine rn_swI (j := 9) (t' := 31) rfl (by omega) rfl ?_
    refine rn_aload_n (k' := 32) rfl rfl rfl ?_
    refine rn_aload_n (k' := 33) rfl rfl rfl ?_
    refine rn_callP (k' := 34) (y := 57) (vs := [mR 3, mR 54]) (S' := []) (v := some (mI (v))) (h' := mkh μ' c s) rfl rfl rfl (K) ?_
    show Rn PT none kX5_readMoorLine 34 [some (mR 3), some (mR 54), some (mI (9))] [mI (v)] (mkh μ' c s) _
    refine rn_iret rfl (Or.inr (by omega)) ?_
    rfl
  · exfalso; omega
theorem d_line10 {μ : Nat → Nat → Int} {c s : Nat} (h5 : μ 1 5 = 1) (hx : ix (μ 4) (μ 1 6) 16 0 = 10) {v : Int} {μ' : Nat → Nat → Int} (K : Cl PT 58 [mR 3, mR 54] (mkh μ c s) (fun r => r = (some (some (mI v)), mkh μ' c s))) (hv : v = 0 ∨ v = 1) : Cl PT 51 [mR 3, mR 54] (mkh μ c s) (fun r => r = (some (some (mI v)), mkh μ' c s)) := by
  refine ⟨_, PT_51, Nat.le_of_ble_eq_true rfl, ?_⟩
  show Rn PT none kX5_readMoorLine 0 [some (mR 3), some (mR 54), none] [] (mkh μ c s) _
  refine rn_aload_n (k' := 1) rfl rfl rfl ?_
  refine rn_callP (k' := 2) (y := 46) (vs := [mR 3]) (S' := []) (v := some (mI (10))) (h' := mkh μ c s) rfl rfl rfl (by have hz := c_wordRead (μ := μ) (c := c) (s := s) h5; rw [hx] at hz; exact hz) ?_
  show Rn PT none kX5_readMoorLine 2 [some (mR 3), some (mR 54), none] [mI (10)] (mkh μ c s) _
  refine rn_istore_n (k' := 3) (L' := [some (mR 3), some (mR 54), some (mI (10))]) rfl rfl (Nat.le_of_ble_eq_true rfl) rfl ?_
  refine rn_iload_n (k' := 4) rfl rfl rfl ?_
  rcases (show ((10 : Int) < 0 ∨ 10 < (10 : Int)) ∨ (10 : Int) = 0 ∨ (10 : Int) = 1 ∨ (10 : Int) = 2 ∨ (10 : Int) = 3 ∨ (10 : Int) = 4 ∨ (10 : Int) = 5 ∨ (10 : Int) = 6 ∨ (10 : Int) = 7 ∨ (10 : Int) = 8 ∨ (10 : Int) = 9 ∨ (10 : Int) = 10 by omega) with hs1 | hs1 | hs1 | hs1 | hs1 | hs1 | hs1 | hs1 | hs1 | hs1 | hs1 | hs1
  · exfalso; omega
  · exfalso; omega
  · exfalso; omega
  · exfalso; omega
  · exfalso; omega
  · exfalso; omega
  · exfalso; omega
  · exfalso; omega
  · exfalso; omega
  · exfalso; omega
  · exfalso; omega
  · refine rn_swI (j := 10) (t' := 35) rfl (by omega) rfl ?_
    refine rn_aload_n (k' := 36) rfl rfl rfl ?_
    refine rn_aload_n (k' := 37) rfl rfl rfl ?_
    refine rn_callP (k' := 38) (y := 58) (vs := [mR 3, mR 54]) (S' := []) (v := some (mI (v))) (h' := mkh μ' c s) rfl rfl rfl (K) ?_
    show Rn PT none kX5_readMoorLine 38 [some (mR 3), some (mR 54), some (mI (10))] [mI (v)] (mkh μ' c s) _
    refine rn_iret rfl (Or.inr (by omega)) ?_
    rfl
theorem d_lineA {μ : Nat → Nat → Int} {c s : Nat} (h5 : ¬ μ 1 5 = 1) : Cl PT 51 [mR 3, mR 54] (mkh μ c s) (fun r => r = (some (some (mI 0)), mkh (m_set μ 3 2 1) c s)) := by
  refine ⟨_, PT_51, Nat.le_of_ble_eq_true rfl, ?_⟩
  show Rn PT none kX5_readMoorLine 0 [some (mR 3), some (mR 54), none] [] (mkh μ c s) _
  refine rn_aload_n (k' := 1) rfl rfl rfl ?_
  refine rn_callP (k' := 2) (y := 46) (vs := [mR 3]) (S' := []) (v := some (mI (-1))) (h' := mkh μ c s) rfl rfl rfl (c_wordReadX (μ := μ) h5) ?_
  show Rn PT none kX5_readMoorLine 2 [some (mR 3), some (mR 54), none] [mI (-1)] (mkh μ c s) _
  refine rn_istore_n (k' := 3) (L' := [some (mR 3), some (mR 54), some (mI (-1))]) rfl rfl (Nat.le_of_ble_eq_true rfl) rfl ?_
  refine rn_iload_n (k' := 4) rfl rfl rfl ?_
  rcases (show (-1 < 0 ∨ 10 < -1) ∨ -1 = 0 ∨ -1 = 1 ∨ -1 = 2 ∨ -1 = 3 ∨ -1 = 4 ∨ -1 = 5 ∨ -1 = 6 ∨ -1 = 7 ∨ -1 = 8 ∨ -1 = 9 ∨ -1 = 10 by omega) with hs1 | hs1 | hs1 | hs1 | hs1 | hs1 | hs1 | hs1 | hs1 | hs1 | hs1 | hs1
  · refine rn_swO rfl hs1 ?_
    refine rn_aload_n (k' := 40) rfl rfl rfl ?_
    refine rn_iconst (k' := 41) rfl rfl ?_
    refine rn_callP (k' := 42) (y := 45) (vs := [mR 3, mI (1)]) (S' := []) (v := some (mI (0))) (h' := mkh (m_set μ 3 2 (1)) c s) rfl rfl rfl (g_fail (μ := μ) (e := 1)) ?_
    show Rn PT none kX5_readMoorLine 42 [some (mR 3), some (mR 54), some (mI (-1))] [mI (0)] (mkh (m_set μ 3 2 (1)) c s) _
    refine rn_iret rfl (Or.inr (by omega)) ?_
    rfl
  · exfalso; omega
  · exfalso; omega
  · exfalso; omega
  · exfalso; omega
  · exfalso; omega
  · exfalso; omega
  · exfalso; omega
  · exfalso; omega
  · exfalso; omega
  · exfalso; omega
  · exfalso; omega
theorem d_lineB {μ : Nat → Nat → Int} {c s : Nat} (h5 : μ 1 5 = 1) (hx : ix (μ 4) (μ 1 6) 16 0 = -1 ∨ 11 ≤ ix (μ 4) (μ 1 6) 16 0) : Cl PT 51 [mR 3, mR 54] (mkh μ c s) (fun r => r = (some (some (mI 0)), mkh (m_set μ 3 2 1) c s)) := by
  refine ⟨_, PT_51, Nat.le_of_ble_eq_true rfl, ?_⟩
  show Rn PT none kX5_readMoorLine 0 [some (mR 3), some (mR 54), none] [] (mkh μ c s) _
  refine rn_aload_n (k' := 1) rfl rfl rfl ?_
  refine rn_callP (k' := 2) (y := 46) (vs := [mR 3]) (S' := []) (v := some (mI (ix (μ 4) (μ 1 6) 16 0))) (h' := mkh μ c s) rfl rfl rfl (c_wordRead (μ := μ) h5) ?_
  show Rn PT none kX5_readMoorLine 2 [some (mR 3), some (mR 54), none] [mI (ix (μ 4) (μ 1 6) 16 0)] (mkh μ c s) _
  refine rn_istore_n (k' := 3) (L' := [some (mR 3), some (mR 54), some (mI (ix (μ 4) (μ 1 6) 16 0))]) rfl rfl (Nat.le_of_ble_eq_true rfl) rfl ?_
  refine rn_iload_n (k' := 4) rfl rfl rfl ?_
  rcases (show (ix (μ 4) (μ 1 6) 16 0 < 0 ∨ 10 < ix (μ 4) (μ 1 6) 16 0) ∨ ix (μ 4) (μ 1 6) 16 0 = 0 ∨ ix (μ 4) (μ 1 6) 16 0 = 1 ∨ ix (μ 4) (μ 1 6) 16 0 = 2 ∨ ix (μ 4) (μ 1 6) 16 0 = 3 ∨ ix (μ 4) (μ 1 6) 16 0 = 4 ∨ ix (μ 4) (μ 1 6) 16 0 = 5 ∨ ix (μ 4) (μ 1 6) 16 0 = 6 ∨ ix (μ 4) (μ 1 6) 16 0 = 7 ∨ ix (μ 4) (μ 1 6) 16 0 = 8 ∨ ix (μ 4) (μ 1 6) 16 0 = 9 ∨ ix (μ 4) (μ 1 6) 16 0 = 10 by omega) with hs1 | hs1 | hs1 | hs1 | hs1 | hs1 | hs1 | hs1 | hs1 | hs1 | hs1 | hs1
  · refine rn_swO rfl hs1 ?_
    refine rn_aload_n (k' := 40) rfl rfl rfl ?_
    refine rn_iconst (k' := 41) rfl rfl ?_
    refine rn_callP (k' := 42) (y := 45) (vs := [mR 3, mI (1)]) (S' := []) (v := some (mI (0))) (h' := mkh (m_set μ 3 2 (1)) c s) rfl rfl rfl (g_fail (μ := μ) (e := 1)) ?_
    show Rn PT none kX5_readMoorLine 42 [some (mR 3), some (mR 54), some (mI (ix (μ 4) (μ 1 6) 16 0))] [mI (0)] (mkh (m_set μ 3 2 (1)) c s) _
    refine rn_iret rfl (Or.inr (by omega)) ?_
    rfl
  · exfalso; omega
  · exfalso; omega
  · exfalso; omega
  · exfalso; omega
  · exfalso; omega
  · exfalso; omega
  · exfalso; omega
  · exfalso; omega
  · exfalso; omega
  · exfalso; omega
  · exfalso; omega
theorem e_line0 {μ : Nat → Nat → Int} {c s : Nat} (h11 : μ 118 11 = 1) (h17 : μ 118 17 = 7499639) {Q : MR → Prop} (K : Rn PT none kX12_line 4 [some (mR 118)] [] (mkh μ c s) Q) : Cl PT 183 [mR 118] (mkh μ c s) Q := by
  refine ⟨_, PT_183, Nat.le_of_ble_eq_true rfl, ?_⟩
  show Rn PT none kX12_line 0 [some (mR 118)] [] (mkh μ c s) _
  refine rn_aload_n (k' := 1) rfl rfl rfl ?_
  refine rn_ldc2_w (k' := 2) rfl rfl ?_
  by_cases hq1 : μ 118 11 = 1 ∧ μ 118 17 = 7499639
  · refine rn_callP (k' := 3) (y := 177) (vs := [mR 118, mJ (7499639)]) (S' := []) (v := some (mI 1)) (h' := mkh μ c s) rfl rfl rfl (by have hz : Cl PT 177 [mR 118, mJ (7499639)] (mkh μ c s) (fun r => r = (some (some (mI (if μ 118 11 = 1 ∧ μ 118 17 = 7499639 then 1 else 0))), mkh μ c s)) := c_X12_isWord (w := 7499639) (μ := μ) (c := c) (s := s); rw [if_pos hq1] at hz; exact hz) ?_
    show Rn PT none kX12_line 3 [some (mR 118)] [mI (1)] (mkh μ c s) _
    refine rn_if_eq (k' := 4) rfl rfl (fun hc2 => ?_) (fun hc2 => ?_)
    · exfalso; omega
    · skip
      exact K
  · exfalso; omega
theorem e_line1 {μ : Nat → Nat → Int} {c s : Nat} (h11 : μ 118 11 = 1) (h17 : μ 118 17 = 7102839) {Q : MR → Prop} (K : Rn PT none kX12_line 11 [some (mR 118)] [] (mkh μ c s) Q) : Cl PT 183 [mR 118] (mkh μ c s) Q := by
  refine ⟨_, PT_183, Nat.le_of_ble_eq_true rfl, ?_⟩
  show Rn PT none kX12_line 0 [some (mR 118)] [] (mkh μ c s) _
  refine rn_aload_n (k' := 1) rfl rfl rfl ?_
  refine rn_ldc2_w (k' := 2) rfl rfl ?_
  by_cases hq1 : μ 118 11 = 1 ∧ μ 118 17 = 7499639
  · exfalso; omega
  · refine rn_callP (k' := 3) (y := 177) (vs := [mR 118, mJ (7499639)]) (S' := []) (v := some (mI 0)) (h' := mkh μ c s) rfl rfl rfl (by have hz : Cl PT 177 [mR 118, mJ (7499639)] (mkh μ c s) (fun r => r = (some (some (mI (if μ 118 11 = 1 ∧ μ 118 17 = 7499639 then 1 else 0))), mkh μ c s)) := c_X12_isWord (w := 7499639) (μ := μ) (c := c) (s := s); rw [if_neg hq1] at hz; exact hz) ?_
    show Rn PT none kX12_line 3 [some (mR 118)] [mI (0)] (mkh μ c s) _
    refine rn_if_eq (k' := 4) rfl rfl (fun hc2 => ?_) (fun hc2 => ?_)
    · skip
      refine rn_aload_n (k' := 8) rfl rfl rfl ?_
      refine rn_ldc2_w (k' := 9) rfl rfl ?_
      by_cases hq3 : μ 118 11 = 1 ∧ μ 118 17 = 7102839
      · refine rn_callP (k' := 10) (y := 177) (vs := [mR 118, mJ (7102839)]) (S' := []) (v := some (mI 1)) (h' := mkh μ c s) rfl rfl rfl (by have hz : Cl PT 177 [mR 118, mJ (7102839)] (mkh μ c s) (fun r => r = (some (some (mI (if μ 118 11 = 1 ∧ μ 118 17 = 7102839 then 1 else 0))), mkh μ c s)) := c_X12_isWord (w := 7102839) (μ := μ) (c := c) (s := s); rw [if_pos hq3] at hz; exact hz) ?_
        show Rn PT none kX12_line 10 [some (mR 118)] [mI (1)] (mkh μ c s) _
        refine rn_if_eq (k' := 11) rfl rfl (fun hc4 => ?_) (fun hc4 => ?_)
        · exfalso; omega
        · skip
          exact K
      · exfalso; omega
    · exfalso; omega
theorem e_line2 {μ : Nat → Nat → Int} {c s : Nat} (h11 : μ 118 11 = 1) (h17 : μ 118 17 = 127996155553138) {Q : MR → Prop} (K : Rn PT none kX12_line 49 [some (mR 118)] [] (mkh μ c s) Q) : Cl PT 183 [mR 118] (mkh μ c s) Q := by
  refine ⟨_, PT_183, Nat.le_of_ble_eq_true rfl, ?_⟩
  show Rn PT none kX12_line 0 [some (mR 118)] [] (mkh μ c s) _
  refine rn_aload_n (k' := 1) rfl rfl rfl ?_
  refine rn_ldc2_w (k' := 2) rfl rfl ?_
  by_cases hq1 : μ 118 11 = 1 ∧ μ 118 17 = 7499639
  · exfalso; omega
  · refine rn_callP (k' := 3) (y := 177) (vs := [mR 118, mJ (7499639)]) (S' := []) (v := some (mI 0)) (h' := mkh μ c s) rfl rfl rfl (by have hz : Cl PT 177 [mR 118, mJ (7499639)] (mkh μ c s) (fun r => r = (some (some (mI (if μ 118 11 = 1 ∧ μ 118 17 = 7499639 then 1 else 0))), mkh μ c s)) := c_X12_isWord (w := 7499639) (μ := μ) (c := c) (s := s); rw [if_neg hq1] at hz; exact hz) ?_
    show Rn PT none kX12_line 3 [some (mR 118)] [mI (0)] (mkh μ c s) _
    refine rn_if_eq (k' := 4) rfl rfl (fun hc2 => ?_) (fun hc2 => ?_)
    · skip
      refine rn_aload_n (k' := 8) rfl rfl rfl ?_
      refine rn_ldc2_w (k' := 9) rfl rfl ?_
      by_cases hq3 : μ 118 11 = 1 ∧ μ 118 17 = 7102839
      · exfalso; omega
      · refine rn_callP (k' := 10) (y := 177) (vs := [mR 118, mJ (7102839)]) (S' := []) (v := some (mI 0)) (h' := mkh μ c s) rfl rfl rfl (by have hz : Cl PT 177 [mR 118, mJ (7102839)] (mkh μ c s) (fun r => r = (some (some (mI (if μ 118 11 = 1 ∧ μ 118 17 = 7102839 then 1 else 0))), mkh μ c s)) := c_X12_isWord (w := 7102839) (μ := μ) (c := c) (s := s); rw [if_neg hq3] at hz; exact hz) ?_
        show Rn PT none kX12_line 10 [some (mR 118)] [mI (0)] (mkh μ c s) _
        refine rn_if_eq (k' := 11) rfl rfl (fun hc4 => ?_) (fun hc4 => ?_)
        · skip
          refine rn_aload_n (k' := 46) rfl rfl rfl ?_
          refine rn_ldc2_w (k' := 47) rfl rfl ?_
          by_cases hq5 : μ 118 11 = 1 ∧ μ 118 17 = 127996155553138
          · refine rn_callP (k' := 48) (y := 177) (vs := [mR 118, mJ (127996155553138)]) (S' := []) (v := some (mI 1)) (h' := mkh μ c s) rfl rfl rfl (by have hz : Cl PT 177 [mR 118, mJ (127996155553138)] (mkh μ c s) (fun r => r = (some (some (mI (if μ 118 11 = 1 ∧ μ 118 17 = 127996155553138 then 1 else 0))), mkh μ c s)) := c_X12_isWord (w := 127996155553138) (μ := μ) (c := c) (s := s); rw [if_pos hq5] at hz; exact hz) ?_
            show Rn PT none kX12_line 48 [some (mR 118)] [mI (1)] (mkh μ c s) _
            refine rn_if_eq (k' := 49) rfl rfl (fun hc6 => ?_) (fun hc6 => ?_)
            · exfalso; omega
            · skip
              exact K
          · exfalso; omega
        · exfalso; omega
    · exfalso; omega
theorem e_line3 {μ : Nat → Nat → Int} {c s : Nat} (h11 : μ 118 11 = 1) (h17 : μ 118 17 = 512736126322) {Q : MR → Prop} (K : Rn PT none kX12_line 74 [some (mR 118)] [] (mkh μ c s) Q) : Cl PT 183 [mR 118] (mkh μ c s) Q := by
  refine ⟨_, PT_183, Nat.le_of_ble_eq_true rfl, ?_⟩
  show Rn PT none kX12_line 0 [some (mR 118)] [] (mkh μ c s) _
  refine rn_aload_n (k' := 1) rfl rfl rfl ?_
  refine rn_ldc2_w (k' := 2) rfl rfl ?_
  by_cases hq1 : μ 118 11 = 1 ∧ μ 118 17 = 7499639
  · exfalso; omega
  · refine rn_callP (k' := 3) (y := 177) (vs := [mR 118, mJ (7499639)]) (S' := []) (v := some (mI 0)) (h' := mkh μ c s) rfl rfl rfl (by have hz : Cl PT 177 [mR 118, mJ (7499639)] (mkh μ c s) (fun r => r = (some (some (mI (if μ 118 11 = 1 ∧ μ 118 17 = 7499639 then 1 else 0))), mkh μ c s)) := c_X12_isWord (w := 7499639) (μ := μ) (c := c) (s := s); rw [if_neg hq1] at hz; exact hz) ?_
    show Rn PT none kX12_line 3 [some (mR 118)] [mI (0)] (mkh μ c s) _
    refine rn_if_eq (k' := 4) rfl rfl (fun hc2 => ?_) (fun hc2 => ?_)
    · skip
      refine rn_aload_n (k' := 8) rfl rfl rfl ?_
      refine rn_ldc2_w (k' := 9) rfl rfl ?_
      by_cases hq3 : μ 118 11 = 1 ∧ μ 118 17 = 7102839
      · exfalso; omega
      · refine rn_callP (k' := 10) (y := 177) (vs := [mR 118, mJ (7102839)]) (S' := []) (v := some (mI 0)) (h' := mkh μ c s) rfl rfl rfl (by have hz : Cl PT 177 [mR 118, mJ (7102839)] (mkh μ c s) (fun r => r = (some (some (mI (if μ 118 11 = 1 ∧ μ 118 17 = 7102839 then 1 else 0))), mkh μ c s)) := c_X12_isWord (w := 7102839) (μ := μ) (c := c) (s := s); rw [if_neg hq3] at hz; exact hz) ?_
        show Rn PT none kX12_line 10 [some (mR 118)] [mI (0)] (mkh μ c s) _
        refine rn_if_eq (k' := 11) rfl rfl (fun hc4 => ?_) (fun hc4 => ?_)
        · skip
          refine rn_aload_n (k' := 46) rfl rfl rfl ?_
          refine rn_ldc2_w (k' := 47) rfl rfl ?_
          by_cases hq5 : μ 118 11 = 1 ∧ μ 118 17 = 127996155553138
          · exfalso; omega
          · refine rn_callP (k' := 48) (y := 177) (vs := [mR 118, mJ (127996155553138)]) (S' := []) (v := some (mI 0)) (h' := mkh μ c s) rfl rfl rfl (by have hz : Cl PT 177 [mR 118, mJ (127996155553138)] (mkh μ c s) (fun r => r = (some (some (mI (if μ 118 11 = 1 ∧ μ 118 17 = 127996155553138 then 1 else 0))), mkh μ c s)) := c_X12_isWord (w := 127996155553138) (μ := μ) (c := c) (s := s); rw [if_neg hq5] at hz; exact hz) ?_
            show Rn PT none kX12_line 48 [some (mR 118)] [mI (0)] (mkh μ c s) _
            refine rn_if_eq (k' := 49) rfl rfl (fun hc6 => ?_) (fun hc6 => ?_)
            · skip
              refine rn_aload_n (k' := 71) rfl rfl rfl ?_
              refine rn_ldc2_w (k' := 72) rfl rfl ?_
              by_cases hq7 : μ 118 11 = 1 ∧ μ 118 17 = 512736126322
              · refine rn_callP (k' := 73) (y := 177) (vs := [mR 118, mJ (512736126322)]) (S' := []) (v := some (mI 1)) (h' := mkh μ c s) rfl rfl rfl (by have hz : Cl PT 177 [mR 118, mJ (512736126322)] (mkh μ c s) (fun r => r = (some (some (mI (if μ 118 11 = 1 ∧ μ 118 17 = 512736126322 then 1 else 0))), mkh μ c s)) := c_X12_isWord (w := 512736126322) (μ := μ) (c := c) (s := s); rw [if_pos hq7] at hz; exact hz) ?_
                show Rn PT none kX12_line 73 [some (mR 118)] [mI (1)] (mkh μ c s) _
                refine rn_if_eq (k' := 74) rfl rfl (fun hc8 => ?_) (fun hc8 => ?_)
                · exfalso; omega
                · skip
                  exact K
              · exfalso; omega
            · exfalso; omega
        · exfalso; omega
    · exfalso; omega
theorem e_line4 {μ : Nat → Nat → Int} {c s : Nat} (h11 : μ 118 11 = 1) (h17 : μ 118 17 = 2003398244) {Q : MR → Prop} (K : Rn PT none kX12_line 82 [some (mR 118)] [] (mkh μ c s) Q) : Cl PT 183 [mR 118] (mkh μ c s) Q := by
  refine ⟨_, PT_183, Nat.le_of_ble_eq_true rfl, ?_⟩
  show Rn PT none kX12_line 0 [some (mR 118)] [] (mkh μ c s) _
  refine rn_aload_n (k' := 1) rfl rfl rfl ?_
  refine rn_ldc2_w (k' := 2) rfl rfl ?_
  by_cases hq1 : μ 118 11 = 1 ∧ μ 118 17 = 7499639
  · exfalso; omega
  · refine rn_callP (k' := 3) (y := 177) (vs := [mR 118, mJ (7499639)]) (S' := []) (v := some (mI 0)) (h' := mkh μ c s) rfl rfl rfl (by have hz : Cl PT 177 [mR 118, mJ (7499639)] (mkh μ c s) (fun r => r = (some (some (mI (if μ 118 11 = 1 ∧ μ 118 17 = 7499639 then 1 else 0))), mkh μ c s)) := c_X12_isWord (w := 7499639) (μ := μ) (c := c) (s := s); rw [if_neg hq1] at hz; exact hz) ?_
    show Rn PT none kX12_line 3 [some (mR 118)] [mI (0)] (mkh μ c s) _
    refine rn_if_eq (k' := 4) rfl rfl (fun hc2 => ?_) (fun hc2 => ?_)
    · skip
      refine rn_aload_n (k' := 8) rfl rfl rfl ?_
      refine rn_ldc2_w (k' := 9) rfl rfl ?_
      by_cases hq3 : μ 118 11 = 1 ∧ μ 118 17 = 7102839
      · exfalso; omega
      · refine rn_callP (k' := 10) (y := 177) (vs := [mR 118, mJ (7102839)]) (S' := []) (v := some (mI 0)) (h' := mkh μ c s) rfl rfl rfl (by have hz : Cl PT 177 [mR 118, mJ (7102839)] (mkh μ c s) (fun r => r = (some (some (mI (if μ 118 11 = 1 ∧ μ 118 17 = 7102839 then 1 else 0))), mkh μ c s)) := c_X12_isWord (w := 7102839) (μ := μ) (c := c) (s := s); rw [if_neg hq3] at hz; exact hz) ?_
        show Rn PT none kX12_line 10 [some (mR 118)] [mI (0)] (mkh μ c s) _
        refine rn_if_eq (k' := 11) rfl rfl (fun hc4 => ?_) (fun hc4 => ?_)
        · skip
          refine rn_aload_n (k' := 46) rfl rfl rfl ?_
          refine rn_ldc2_w (k' := 47) rfl rfl ?_
          by_cases hq5 : μ 118 11 = 1 ∧ μ 118 17 = 127996155553138
          · exfalso; omega
          · refine rn_callP (k' := 48) (y := 177) (vs := [mR 118, mJ (127996155553138)]) (S' := []) (v := some (mI 0)) (h' := mkh μ c s) rfl rfl rfl (by have hz : Cl PT 177 [mR 118, mJ (127996155553138)] (mkh μ c s) (fun r => r = (some (some (mI (if μ 118 11 = 1 ∧ μ 118 17 = 127996155553138 then 1 else 0))), mkh μ c s)) := c_X12_isWord (w := 127996155553138) (μ := μ) (c := c) (s := s); rw [if_neg hq5] at hz; exact hz) ?_
            show Rn PT none kX12_line 48 [some (mR 118)] [mI (0)] (mkh μ c s) _
            refine rn_if_eq (k' := 49) rfl rfl (fun hc6 => ?_) (fun hc6 => ?_)
            · skip
              refine rn_aload_n (k' := 71) rfl rfl rfl ?_
              refine rn_ldc2_w (k' := 72) rfl rfl ?_
              by_cases hq7 : μ 118 11 = 1 ∧ μ 118 17 = 512736126322
              · exfalso; omega
              · refine rn_callP (k' := 73) (y := 177) (vs := [mR 118, mJ (512736126322)]) (S' := []) (v := some (mI 0)) (h' := mkh μ c s) rfl rfl rfl (by have hz : Cl PT 177 [mR 118, mJ (512736126322)] (mkh μ c s) (fun r => r = (some (some (mI (if μ 118 11 = 1 ∧ μ 118 17 = 512736126322 then 1 else 0))), mkh μ c s)) := c_X12_isWord (w := 512736126322) (μ := μ) (c := c) (s := s); rw [if_neg hq7] at hz; exact hz) ?_
                show Rn PT none kX12_line 73 [some (mR 118)] [mI (0)] (mkh μ c s) _
                refine rn_if_eq (k' := 74) rfl rfl (fun hc8 => ?_) (fun hc8 => ?_)
                · skip
                  refine rn_aload_n (k' := 79) rfl rfl rfl ?_
                  refine rn_ldc2_w (k' := 80) rfl rfl ?_
                  by_cases hq9 : μ 118 11 = 1 ∧ μ 118 17 = 2003398244
                  · refine rn_callP (k' := 81) (y := 177) (vs := [mR 118, mJ (2003398244)]) (S' := []) (v := some (mI 1)) (h' := mkh μ c s) rfl rfl rfl (by have hz : Cl PT 177 [mR 118, mJ (2003398244)] (mkh μ c s) (fun r => r = (some (some (mI (if μ 118 11 = 1 ∧ μ 118 17 = 2003398244 then 1 else 0))), mkh μ c s)) := c_X12_isWord (w := 2003398244) (μ := μ) (c := c) (s := s); rw [if_pos hq9] at hz; exact hz) ?_
                    show Rn PT none kX12_line 81 [some (mR 118)] [mI (1)] (mkh μ c s) _
                    refine rn_if_eq (k' := 82) rfl rfl (fun hc10 => ?_) (fun hc10 => ?_)
                    · exfalso; omega
                    · skip
                      exact K
                  · exfalso; omega
                · exfalso; omega
            · exfalso; omega
        · exfalso; omega
    · exfalso; omega
theorem e_line5 {μ : Nat → Nat → Int} {c s : Nat} (h11 : μ 118 11 = 1) (h17 : μ 118 17 = 6713191) {Q : MR → Prop} (K : Rn PT none kX12_line 90 [some (mR 118)] [] (mkh μ c s) Q) : Cl PT 183 [mR 118] (mkh μ c s) Q := by
  refine ⟨_, PT_183, Nat.le_of_ble_eq_true rfl, ?_⟩
  show Rn PT none kX12_line 0 [some (mR 118)] [] (mkh μ c s) _
  refine rn_aload_n (k' := 1) rfl rfl rfl ?_
  refine rn_ldc2_w (k' := 2) rfl rfl ?_
  by_cases hq1 : μ 118 11 = 1 ∧ μ 118 17 = 7499639
  · exfalso; omega
  · refine rn_callP (k' := 3) (y := 177) (vs := [mR 118, mJ (7499639)]) (S' := []) (v := some (mI 0)) (h' := mkh μ c s) rfl rfl rfl (by have hz : Cl PT 177 [mR 118, mJ (7499639)] (mkh μ c s) (fun r => r = (some (some (mI (if μ 118 11 = 1 ∧ μ 118 17 = 7499639 then 1 else 0))), mkh μ c s)) := c_X12_isWord (w := 7499639) (μ := μ) (c := c) (s := s); rw [if_neg hq1] at hz; exact hz) ?_
    show Rn PT none kX12_line 3 [some (mR 118)] [mI (0)] (mkh μ c s) _
    refine rn_if_eq (k' := 4) rfl rfl (fun hc2 => ?_) (fun hc2 => ?_)
    · skip
      refine rn_aload_n (k' := 8) rfl rfl rfl ?_
      refine rn_ldc2_w (k' := 9) rfl rfl ?_
      by_cases hq3 : μ 118 11 = 1 ∧ μ 118 17 = 7102839
      · exfalso; omega
      · refine rn_callP (k' := 10) (y := 177) (vs := [mR 118, mJ (7102839)]) (S' := []) (v := some (mI 0)) (h' := mkh μ c s) rfl rfl rfl (by have hz : Cl PT 177 [mR 118, mJ (7102839)] (mkh μ c s) (fun r => r = (some (some (mI (if μ 118 11 = 1 ∧ μ 118 17 = 7102839 then 1 else 0))), mkh μ c s)) := c_X12_isWord (w := 7102839) (μ := μ) (c := c) (s := s); rw [if_neg hq3] at hz; exact hz) ?_
        show Rn PT none kX12_line 10 [some (mR 118)] [mI (0)] (mkh μ c s) _
        refine rn_if_eq (k' := 11) rfl rfl (fun hc4 => ?_) (fun hc4 => ?_)
        · skip
          refine rn_aload_n (k' := 46) rfl rfl rfl ?_
          refine rn_ldc2_w (k' := 47) rfl rfl ?_
          by_cases hq5 : μ 118 11 = 1 ∧ μ 118 17 = 127996155553138
          · exfalso; omega
          · refine rn_callP (k' := 48) (y := 177) (vs := [mR 118, mJ (127996155553138)]) (S' := []) (v := some (mI 0)) (h' := mkh μ c s) rfl rfl rfl (by have hz : Cl PT 177 [mR 118, mJ (127996155553138)] (mkh μ c s) (fun r => r = (some (some (mI (if μ 118 11 = 1 ∧ μ 118 17 = 127996155553138 then 1 else 0))), mkh μ c s)) := c_X12_isWord (w := 127996155553138) (μ := μ) (c := c) (s := s); rw [if_neg hq5] at hz; exact hz) ?_
            show Rn PT none kX12_line 48 [some (mR 118)] [mI (0)] (mkh μ c s) _
            refine rn_if_eq (k' := 49) rfl rfl (fun hc6 => ?_) (fun hc6 => ?_)
            · skip
              refine rn_aload_n (k' := 71) rfl rfl rfl ?_
              refine rn_ldc2_w (k' := 72) rfl rfl ?_
              by_cases hq7 : μ 118 11 = 1 ∧ μ 118 17 = 512736126322
              · exfalso; omega
              · refine rn_callP (k' := 73) (y := 177) (vs := [mR 118, mJ (512736126322)]) (S' := []) (v := some (mI 0)) (h' := mkh μ c s) rfl rfl rfl (by have hz : Cl PT 177 [mR 118, mJ (512736126322)] (mkh μ c s) (fun r => r = (some (some (mI (if μ 118 11 = 1 ∧ μ 118 17 = 512736126322 then 1 else 0))), mkh μ c s)) := c_X12_isWord (w := 512736126322) (μ := μ) (c := c) (s := s); rw [if_neg hq7] at hz; exact hz) ?_
                show Rn PT none kX12_line 73 [some (mR 118)] [mI (0)] (mkh μ c s) _
                refine rn_if_eq (k' := 74) rfl rfl (fun hc8 => ?_) (fun hc8 => ?_)
                · skip
                  refine rn_aload_n (k' := 79) rfl rfl rfl ?_
                  refine rn_ldc2_w (k' := 80) rfl rfl ?_
                  by_cases hq9 : μ 118 11 = 1 ∧ μ 118 17 = 2003398244
                  · exfalso; omega
                  · refine rn_callP (k' := 81) (y := 177) (vs := [mR 118, mJ (2003398244)]) (S' := []) (v := some (mI 0)) (h' := mkh μ c s) rfl rfl rfl (by have hz : Cl PT 177 [mR 118, mJ (2003398244)] (mkh μ c s) (fun r => r = (some (some (mI (if μ 118 11 = 1 ∧ μ 118 17 = 2003398244 then 1 else 0))), mkh μ c s)) := c_X12_isWord (w := 2003398244) (μ := μ) (c := c) (s := s); rw [if_neg hq9] at hz; exact hz) ?_
                    show Rn PT none kX12_line 81 [some (mR 118)] [mI (0)] (mkh μ c s) _
                    refine rn_if_eq (k' := 82) rfl rfl (fun hc10 => ?_) (fun hc10 => ?_)
                    · skip
                      refine rn_aload_n (k' := 87) rfl rfl rfl ?_
                      refine rn_ldc2_w (k' := 88) rfl rfl ?_
                      by_cases hq11 : μ 118 11 = 1 ∧ μ 118 17 = 6713191
                      · refine rn_callP (k' := 89) (y := 177) (vs := [mR 118, mJ (6713191)]) (S' := []) (v := some (mI 1)) (h' := mkh μ c s) rfl rfl rfl (by have hz : Cl PT 177 [mR 118, mJ (6713191)] (mkh μ c s) (fun r => r = (some (some (mI (if μ 118 11 = 1 ∧ μ 118 17 = 6713191 then 1 else 0))), mkh μ c s)) := c_X12_isWord (w := 6713191) (μ := μ) (c := c) (s := s); rw [if_pos hq11] at hz; exact hz) ?_
                        show Rn PT none kX12_line 89 [some (mR 118)] [mI (1)] (mkh μ c s) _
                        refine rn_if_eq (k' := 90) rfl rfl (fun hc12 => ?_) (fun hc12 => ?_)
                        · exfalso; omega
                        · skip
                          exact K
                      · exfalso; omega
                    · exfalso; omega
                · exfalso; omega
            · exfalso; omega
        · exfalso; omega
    · exfalso; omega
theorem e_line6 {μ : Nat → Nat → Int} {c s : Nat} (h11 : μ 118 11 = 1) (h17 : μ 118 17 = 1685024626) {Q : MR → Prop} (K : Rn PT none kX12_line 98 [some (mR 118)] [] (mkh μ c s) Q) : Cl PT 183 [mR 118] (mkh μ c s) Q := by
  refine ⟨_, PT_183, Nat.le_of_ble_eq_true rfl, ?_⟩
  show Rn PT none kX12_line 0 [some (mR 118)] [] (mkh μ c s) _
  refine rn_aload_n (k' := 1) rfl rfl rfl ?_
  refine rn_ldc2_w (k' := 2) rfl rfl ?_
  by_cases hq1 : μ 118 11 = 1 ∧ μ 118 17 = 7499639
  · exfalso; omega
  · refine rn_callP (k' := 3) (y := 177) (vs := [mR 118, mJ (7499639)]) (S' := []) (v := some (mI 0)) (h' := mkh μ c s) rfl rfl rfl (by have hz : Cl PT 177 [mR 118, mJ (7499639)] (mkh μ c s) (fun r => r = (some (some (mI (if μ 118 11 = 1 ∧ μ 118 17 = 7499639 then 1 else 0))), mkh μ c s)) := c_X12_isWord (w := 7499639) (μ := μ) (c := c) (s := s); rw [if_neg hq1] at hz; exact hz) ?_
    show Rn PT none kX12_line 3 [some (mR 118)] [mI (0)] (mkh μ c s) _
    refine rn_if_eq (k' := 4) rfl rfl (fun hc2 => ?_) (fun hc2 => ?_)
    · skip
      refine rn_aload_n (k' := 8) rfl rfl rfl ?_
      refine rn_ldc2_w (k' := 9) rfl rfl ?_
      by_cases hq3 : μ 118 11 = 1 ∧ μ 118 17 = 7102839
      · exfalso; omega
      · refine rn_callP (k' := 10) (y := 177) (vs := [mR 118, mJ (7102839)]) (S' := []) (v := some (mI 0)) (h' := mkh μ c s) rfl rfl rfl (by have hz : Cl PT 177 [mR 118, mJ (7102839)] (mkh μ c s) (fun r => r = (some (some (mI (if μ 118 11 = 1 ∧ μ 118 17 = 7102839 then 1 else 0))), mkh μ c s)) := c_X12_isWord (w := 7102839) (μ := μ) (c := c) (s := s); rw [if_neg hq3] at hz; exact hz) ?_
        show Rn PT none kX12_line 10 [some (mR 118)] [mI (0)] (mkh μ c s) _
        refine rn_if_eq (k' := 11) rfl rfl (fun hc4 => ?_) (fun hc4 => ?_)
        · skip
          refine rn_aload_n (k' := 46) rfl rfl rfl ?_
          refine rn_ldc2_w (k' := 47) rfl rfl ?_
          by_cases hq5 : μ 118 11 = 1 ∧ μ 118 17 = 127996155553138
          · exfalso; omega
          · refine rn_callP (k' := 48) (y := 177) (vs := [mR 118, mJ (127996155553138)]) (S' := []) (v := some (mI 0)) (h' := mkh μ c s) rfl rfl rfl (by have hz : Cl PT 177 [mR 118, mJ (127996155553138)] (mkh μ c s) (fun r => r = (some (some (mI (if μ 118 11 = 1 ∧ μ 118 17 = 127996155553138 then 1 else 0))), mkh μ c s)) := c_X12_isWord (w := 127996155553138) (μ := μ) (c := c) (s := s); rw [if_neg hq5] at hz; exact hz) ?_
            show Rn PT none kX12_line 48 [some (mR 118)] [mI (0)] (mkh μ c s) _
            refine rn_if_eq (k' := 49) rfl rfl (fun hc6 => ?_) (fun hc6 => ?_)
            · skip
              refine rn_aload_n (k' := 71) rfl rfl rfl ?_
              refine rn_ldc2_w (k' := 72) rfl rfl ?_
              by_cases hq7 : μ 118 11 = 1 ∧ μ 118 17 = 512736126322
              · exfalso; omega
              · refine rn_callP (k' := 73) (y := 177) (vs := [mR 118, mJ (512736126322)]) (S' := []) (v := some (mI 0)) (h' := mkh μ c s) rfl rfl rfl (by have hz : Cl PT 177 [mR 118, mJ (512736126322)] (mkh μ c s) (fun r => r = (some (some (mI (if μ 118 11 = 1 ∧ μ 118 17 = 512736126322 then 1 else 0))), mkh μ c s)) := c_X12_isWord (w := 512736126322) (μ := μ) (c := c) (s := s); rw [if_neg hq7] at hz; exact hz) ?_
                show Rn PT none kX12_line 73 [some (mR 118)] [mI (0)] (mkh μ c s) _
                refine rn_if_eq (k' := 74) rfl rfl (fun hc8 => ?_) (fun hc8 => ?_)
                · skip
                  refine rn_aload_n (k' := 79) rfl rfl rfl ?_
                  refine rn_ldc2_w (k' := 80) rfl rfl ?_
                  by_cases hq9 : μ 118 11 = 1 ∧ μ 118 17 = 2003398244
                  · exfalso; omega
                  · refine rn_callP (k' := 81) (y := 177) (vs := [mR 118, mJ (2003398244)]) (S' := []) (v := some (mI 0)) (h' := mkh μ c s) rfl rfl rfl (by have hz : Cl PT 177 [mR 118, mJ (2003398244)] (mkh μ c s) (fun r => r = (some (some (mI (if μ 118 11 = 1 ∧ μ 118 17 = 2003398244 then 1 else 0))), mkh μ c s)) := c_X12_isWord (w := 2003398244) (μ := μ) (c := c) (s := s); rw [if_neg hq9] at hz; exact hz) ?_
                    show Rn PT none kX12_line 81 [some (mR 118)] [mI (0)] (mkh μ c s) _
                    refine rn_if_eq (k' := 82) rfl rfl (fun hc10 => ?_) (fun hc10 => ?_)
                    · skip
                      refine rn_aload_n (k' := 87) rfl rfl rfl ?_
                      refine rn_ldc2_w (k' := 88) rfl rfl ?_
                      by_cases hq11 : μ 118 11 = 1 ∧ μ 118 17 = 6713191
                      · exfalso; omega
                      · refine rn_callP (k' := 89) (y := 177) (vs := [mR 118, mJ (6713191)]) (S' := []) (v := some (mI 0)) (h' := mkh μ c s) rfl rfl rfl (by have hz : Cl PT 177 [mR 118, mJ (6713191)] (mkh μ c s) (fun r => r = (some (some (mI (if μ 118 11 = 1 ∧ μ 118 17 = 6713191 then 1 else 0))), mkh μ c s)) := c_X12_isWord (w := 6713191) (μ := μ) (c := c) (s := s); rw [if_neg hq11] at hz; exact hz) ?_
                        show Rn PT none kX12_line 89 [some (mR 118)] [mI (0)] (mkh μ c s) _
                        refine rn_if_eq (k' := 90) rfl rfl (fun hc12 => ?_) (fun hc12 => ?_)
                        · skip
                          refine rn_aload_n (k' := 95) rfl rfl rfl ?_
                          refine rn_ldc2_w (k' := 96) rfl rfl ?_
                          by_cases hq13 : μ 118 11 = 1 ∧ μ 118 17 = 1685024626
                          · refine rn_callP (k' := 97) (y := 177) (vs := [mR 118, mJ (1685024626)]) (S' := []) (v := some (mI 1)) (h' := mkh μ c s) rfl rfl rfl (by have hz : Cl PT 177 [mR 118, mJ (1685024626)] (mkh μ c s) (fun r => r = (some (some (mI (if μ 118 11 = 1 ∧ μ 118 17 = 1685024626 then 1 else 0))), mkh μ c s)) := c_X12_isWord (w := 1685024626) (μ := μ) (c := c) (s := s); rw [if_pos hq13] at hz; exact hz) ?_
                            show Rn PT none kX12_line 97 [some (mR 118)] [mI (1)] (mkh μ c s) _
                            refine rn_if_eq (k' := 98) rfl rfl (fun hc14 => ?_) (fun hc14 => ?_)
                            · exfalso; omega
                            · skip
                              exact K
                          · exfalso; omega
                        · exfalso; omega
                    · exfalso; omega
                · exfalso; omega
            · exfalso; omega
        · exfalso; omega
    · exfalso; omega
theorem e_line7 {μ : Nat → Nat → Int} {c s : Nat} (h11 : μ 118 11 = 1) (h17 : μ 118 17 = 7173476) {Q : MR → Prop} (K : Rn PT none kX12_line 107 [some (mR 118)] [] (mkh μ c s) Q) : Cl PT 183 [mR 118] (mkh μ c s) Q := by
  refine ⟨_, PT_183, Nat.le_of_ble_eq_true rfl, ?_⟩
  show Rn PT none kX12_line 0 [some (mR 118)] [] (mkh μ c s) _
  refine rn_aload_n (k' := 1) rfl rfl rfl ?_
  refine rn_ldc2_w (k' := 2) rfl rfl ?_
  by_cases hq1 : μ 118 11 = 1 ∧ μ 118 17 = 7499639
  · exfalso; omega
  · refine rn_callP (k' := 3) (y := 177) (vs := [mR 118, mJ (7499639)]) (S' := []) (v := some (mI 0)) (h' := mkh μ c s) rfl rfl rfl (by have hz : Cl PT 177 [mR 118, mJ (7499639)] (mkh μ c s) (fun r => r = (some (some (mI (if μ 118 11 = 1 ∧ μ 118 17 = 7499639 then 1 else 0))), mkh μ c s)) := c_X12_isWord (w := 7499639) (μ := μ) (c := c) (s := s); rw [if_neg hq1] at hz; exact hz) ?_
    show Rn PT none kX12_line 3 [some (mR 118)] [mI (0)] (mkh μ c s) _
    refine rn_if_eq (k' := 4) rfl rfl (fun hc2 => ?_) (fun hc2 => ?_)
    · skip
      refine rn_aload_n (k' := 8) rfl rfl rfl ?_
      refine rn_ldc2_w (k' := 9) rfl rfl ?_
      by_cases hq3 : μ 118 11 = 1 ∧ μ 118 17 = 7102839
      · exfalso; omega
      · refine rn_callP (k' := 10) (y := 177) (vs := [mR 118, mJ (7102839)]) (S' := []) (v := some (mI 0)) (h' := mkh μ c s) rfl rfl rfl (by have hz : Cl PT 177 [mR 118, mJ (7102839)] (mkh μ c s) (fun r => r = (some (some (mI (if μ 118 11 = 1 ∧ μ 118 17 = 7102839 then 1 else 0))), mkh μ c s)) := c_X12_isWord (w := 7102839) (μ := μ) (c := c) (s := s); rw [if_neg hq3] at hz; exact hz) ?_
        show Rn PT none kX12_line 10 [some (mR 118)] [mI (0)] (mkh μ c s) _
        refine rn_if_eq (k' := 11) rfl rfl (fun hc4 => ?_) (fun hc4 => ?_)
        · skip
          refine rn_aload_n (k' := 46) rfl rfl rfl ?_
          refine rn_ldc2_w (k' := 47) rfl rfl ?_
          by_cases hq5 : μ 118 11 = 1 ∧ μ 118 17 = 127996155553138
          · exfalso; omega
          · refine rn_callP (k' := 48) (y := 177) (vs := [mR 118, mJ (127996155553138)]) (S' := []) (v := some (mI 0)) (h' := mkh μ c s) rfl rfl rfl (by have hz : Cl PT 177 [mR 118, mJ (127996155553138)] (mkh μ c s) (fun r => r = (some (some (mI (if μ 118 11 = 1 ∧ μ 118 17 = 127996155553138 then 1 else 0))), mkh μ c s)) := c_X12_isWord (w := 127996155553138) (μ := μ) (c := c) (s := s); rw [if_neg hq5] at hz; exact hz) ?_
            show Rn PT none kX12_line 48 [some (mR 118)] [mI (0)] (mkh μ c s) _
            refine rn_if_eq (k' := 49) rfl rfl (fun hc6 => ?_) (fun hc6 => ?_)
            · skip
              refine rn_aload_n (k' := 71) rfl rfl rfl ?_
              refine rn_ldc2_w (k' := 72) rfl rfl ?_
              by_cases hq7 : μ 118 11 = 1 ∧ μ 118 17 = 512736126322
              · exfalso; omega
              · refine rn_callP (k' := 73) (y := 177) (vs := [mR 118, mJ (512736126322)]) (S' := []) (v := some (mI 0)) (h' := mkh μ c s) rfl rfl rfl (by have hz : Cl PT 177 [mR 118, mJ (512736126322)] (mkh μ c s) (fun r => r = (some (some (mI (if μ 118 11 = 1 ∧ μ 118 17 = 512736126322 then 1 else 0))), mkh μ c s)) := c_X12_isWord (w := 512736126322) (μ := μ) (c := c) (s := s); rw [if_neg hq7] at hz; exact hz) ?_
                show Rn PT none kX12_line 73 [some (mR 118)] [mI (0)] (mkh μ c s) _
                refine rn_if_eq (k' := 74) rfl rfl (fun hc8 => ?_) (fun hc8 => ?_)
                · skip
                  refine rn_aload_n (k' := 79) rfl rfl rfl ?_
                  refine rn_ldc2_w (k' := 80) rfl rfl ?_
                  by_cases hq9 : μ 118 11 = 1 ∧ μ 118 17 = 2003398244
                  · exfalso; omega
                  · refine rn_callP (k' := 81) (y := 177) (vs := [mR 118, mJ (2003398244)]) (S' := []) (v := some (mI 0)) (h' := mkh μ c s) rfl rfl rfl (by have hz : Cl PT 177 [mR 118, mJ (2003398244)] (mkh μ c s) (fun r => r = (some (some (mI (if μ 118 11 = 1 ∧ μ 118 17 = 2003398244 then 1 else 0))), mkh μ c s)) := c_X12_isWord (w := 2003398244) (μ := μ) (c := c) (s := s); rw [if_neg hq9] at hz; exact hz) ?_
                    show Rn PT none kX12_line 81 [some (mR 118)] [mI (0)] (mkh μ c s) _
                    refine rn_if_eq (k' := 82) rfl rfl (fun hc10 => ?_) (fun hc10 => ?_)
                    · skip
                      refine rn_aload_n (k' := 87) rfl rfl rfl ?_
                      refine rn_ldc2_w (k' := 88) rfl rfl ?_
                      by_cases hq11 : μ 118 11 = 1 ∧ μ 118 17 = 6713191
                      · exfalso; omega
                      · refine rn_callP (k' := 89) (y := 177) (vs := [mR 118, mJ (6713191)]) (S' := []) (v := some (mI 0)) (h' := mkh μ c s) rfl rfl rfl (by have hz : Cl PT 177 [mR 118, mJ (6713191)] (mkh μ c s) (fun r => r = (some (some (mI (if μ 118 11 = 1 ∧ μ 118 17 = 6713191 then 1 else 0))), mkh μ c s)) := c_X12_isWord (w := 6713191) (μ := μ) (c := c) (s := s); rw [if_neg hq11] at hz; exact hz) ?_
                        show Rn PT none kX12_line 89 [some (mR 118)] [mI (0)] (mkh μ c s) _
                        refine rn_if_eq (k' := 90) rfl rfl (fun hc12 => ?_) (fun hc12 => ?_)
                        · skip
                          refine rn_aload_n (k' := 95) rfl rfl rfl ?_
                          refine rn_ldc2_w (k' := 96) rfl rfl ?_
                          by_cases hq13 : μ 118 11 = 1 ∧ μ 118 17 = 1685024626
                          · exfalso; omega
                          · refine rn_callP (k' := 97) (y := 177) (vs := [mR 118, mJ (1685024626)]) (S' := []) (v := some (mI 0)) (h' := mkh μ c s) rfl rfl rfl (by have hz : Cl PT 177 [mR 118, mJ (1685024626)] (mkh μ c s) (fun r => r = (some (some (mI (if μ 118 11 = 1 ∧ μ 118 17 = 1685024626 then 1 else 0))), mkh μ c s)) := c_X12_isWord (w := 1685024626) (μ := μ) (c := c) (s := s); rw [if_neg hq13] at hz; exact hz) ?_
                            show Rn PT none kX12_line 97 [some (mR 118)] [mI (0)] (mkh μ c s) _
                            refine rn_if_eq (k' := 98) rfl rfl (fun hc14 => ?_) (fun hc14 => ?_)
                            · skip
                              refine rn_aload_n (k' := 104) rfl rfl rfl ?_
                              refine rn_ldc2_w (k' := 105) rfl rfl ?_
                              by_cases hq15 : μ 118 11 = 1 ∧ μ 118 17 = 7173476
                              · refine rn_callP (k' := 106) (y := 177) (vs := [mR 118, mJ (7173476)]) (S' := []) (v := some (mI 1)) (h' := mkh μ c s) rfl rfl rfl (by have hz : Cl PT 177 [mR 118, mJ (7173476)] (mkh μ c s) (fun r => r = (some (some (mI (if μ 118 11 = 1 ∧ μ 118 17 = 7173476 then 1 else 0))), mkh μ c s)) := c_X12_isWord (w := 7173476) (μ := μ) (c := c) (s := s); rw [if_pos hq15] at hz; exact hz) ?_
                                show Rn PT none kX12_line 106 [some (mR 118)] [mI (1)] (mkh μ c s) _
                                refine rn_if_eq (k' := 107) rfl rfl (fun hc16 => ?_) (fun hc16 => ?_)
                                · exfalso; omega
                                · skip
                                  exact K
                              · exfalso; omega
                            · exfalso; omega
                        · exfalso; omega
                    · exfalso; omega
                · exfalso; omega
            · exfalso; omega
        · exfalso; omega
    · exfalso; omega
theorem e_line8 {μ : Nat → Nat → Int} {c s : Nat} (h11 : μ 118 11 = 1) (h17 : μ 118 17 = 119165551928690) {Q : MR → Prop} (K : Rn PT none kX12_line 116 [some (mR 118)] [] (mkh μ c s) Q) : Cl PT 183 [mR 118] (mkh μ c s) Q := by
  refine ⟨_, PT_183, Nat.le_of_ble_eq_true rfl, ?_⟩
  show Rn PT none kX12_line 0 [some (mR 118)] [] (mkh μ c s) _
  refine rn_aload_n (k' := 1) rfl rfl rfl ?_
  refine rn_ldc2_w (k' := 2) rfl rfl ?_
  by_cases hq1 : μ 118 11 = 1 ∧ μ 118 17 = 7499639
  · exfalso; omega
  · refine rn_callP (k' := 3) (y := 177) (vs := [mR 118, mJ (7499639)]) (S' := []) (v := some (mI 0)) (h' := mkh μ c s) rfl rfl rfl (by have hz : Cl PT 177 [mR 118, mJ (7499639)] (mkh μ c s) (fun r => r = (some (some (mI (if μ 118 11 = 1 ∧ μ 118 17 = 7499639 then 1 else 0))), mkh μ c s)) := c_X12_isWord (w := 7499639) (μ := μ) (c := c) (s := s); rw [if_neg hq1] at hz; exact hz) ?_
    show Rn PT none kX12_line 3 [some (mR 118)] [mI (0)] (mkh μ c s) _
    refine rn_if_eq (k' := 4) rfl rfl (fun hc2 => ?_) (fun hc2 => ?_)
    · skip
      refine rn_aload_n (k' := 8) rfl rfl rfl ?_
      refine rn_ldc2_w (k' := 9) rfl rfl ?_
      by_cases hq3 : μ 118 11 = 1 ∧ μ 118 17 = 7102839
      · exfalso; omega
      · refine rn_callP (k' := 10) (y := 177) (vs := [mR 118, mJ (7102839)]) (S' := []) (v := some (mI 0)) (h' := mkh μ c s) rfl rfl rfl (by have hz : Cl PT 177 [mR 118, mJ (7102839)] (mkh μ c s) (fun r => r = (some (some (mI (if μ 118 11 = 1 ∧ μ 118 17 = 7102839 then 1 else 0))), mkh μ c s)) := c_X12_isWord (w := 7102839) (μ := μ) (c := c) (s := s); rw [if_neg hq3] at hz; exact hz) ?_
        show Rn PT none kX12_line 10 [some (mR 118)] [mI (0)] (mkh μ c s) _
        refine rn_if_eq (k' := 11) rfl rfl (fun hc4 => ?_) (fun hc4 => ?_)
        · skip
          refine rn_aload_n (k' := 46) rfl rfl rfl ?_
          refine rn_ldc2_w (k' := 47) rfl rfl ?_
          by_cases hq5 : μ 118 11 = 1 ∧ μ 118 17 = 127996155553138
          · exfalso; omega
          · refine rn_callP (k' := 48) (y := 177) (vs := [mR 118, mJ (127996155553138)]) (S' := []) (v := some (mI 0)) (h' := mkh μ c s) rfl rfl rfl (by have hz : Cl PT 177 [mR 118, mJ (127996155553138)] (mkh μ c s) (fun r => r = (some (some (mI (if μ 118 11 = 1 ∧ μ 118 17 = 127996155553138 then 1 else 0))), mkh μ c s)) := c_X12_isWord (w := 127996155553138) (μ := μ) (c := c) (s := s); rw [if_neg hq5] at hz; exact hz) ?_
            show Rn PT none kX12_line 48 [some (mR 118)] [mI (0)] (mkh μ c s) _
            refine rn_if_eq (k' := 49) rfl rfl (fun hc6 => ?_) (fun hc6 => ?_)
            · skip
              refine rn_aload_n (k' := 71) rfl rfl rfl ?_
              refine rn_ldc2_w (k' := 72) rfl rfl ?_
              by_cases hq7 : μ 118 11 = 1 ∧ μ 118 17 = 512736126322
              · exfalso; omega
              · refine rn_callP (k' := 73) (y := 177) (vs := [mR 118, mJ (512736126322)]) (S' := []) (v := some (mI 0)) (h' := mkh μ c s) rfl rfl rfl (by have hz : Cl PT 177 [mR 118, mJ (512736126322)] (mkh μ c s) (fun r => r = (some (some (mI (if μ 118 11 = 1 ∧ μ 118 17 = 512736126322 then 1 else 0))), mkh μ c s)) := c_X12_isWord (w := 512736126322) (μ := μ) (c := c) (s := s); rw [if_neg hq7] at hz; exact hz) ?_
                show Rn PT none kX12_line 73 [some (mR 118)] [mI (0)] (mkh μ c s) _
                refine rn_if_eq (k' := 74) rfl rfl (fun hc8 => ?_) (fun hc8 => ?_)
                · skip
                  refine rn_aload_n (k' := 79) rfl rfl rfl ?_
                  refine rn_ldc2_w (k' := 80) rfl rfl ?_
                  by_cases hq9 : μ 118 11 = 1 ∧ μ 118 17 = 2003398244
                  · exfalso; omega
                  · refine rn_callP (k' := 81) (y := 177) (vs := [mR 118, mJ (2003398244)]) (S' := []) (v := some (mI 0)) (h' := mkh μ c s) rfl rfl rfl (by have hz : Cl PT 177 [mR 118, mJ (2003398244)] (mkh μ c s) (fun r => r = (some (some (mI (if μ 118 11 = 1 ∧ μ 118 17 = 2003398244 then 1 else 0))), mkh μ c s)) := c_X12_isWord (w := 2003398244) (μ := μ) (c := c) (s := s); rw [if_neg hq9] at hz; exact hz) ?_
                    show Rn PT none kX12_line 81 [some (mR 118)] [mI (0)] (mkh μ c s) _
                    refine rn_if_eq (k' := 82) rfl rfl (fun hc10 => ?_) (fun hc10 => ?_)
                    · skip
                      refine rn_aload_n (k' := 87) rfl rfl rfl ?_
                      refine rn_ldc2_w (k' := 88) rfl rfl ?_
                      by_cases hq11 : μ 118 11 = 1 ∧ μ 118 17 = 6713191
                      · exfalso; omega
                      · refine rn_callP (k' := 89) (y := 177) (vs := [mR 118, mJ (6713191)]) (S' := []) (v := some (mI 0)) (h' := mkh μ c s) rfl rfl rfl (by have hz : Cl PT 177 [mR 118, mJ (6713191)] (mkh μ c s) (fun r => r = (some (some (mI (if μ 118 11 = 1 ∧ μ 118 17 = 6713191 then 1 else 0))), mkh μ c s)) := c_X12_isWord (w := 6713191) (μ := μ) (c := c) (s := s); rw [if_neg hq11] at hz; exact hz) ?_
                        show Rn PT none kX12_line 89 [some (mR 118)] [mI (0)] (mkh μ c s) _
                        refine rn_if_eq (k' := 90) rfl rfl (fun hc12 => ?_) (fun hc12 => ?_)
                        · skip
                          refine rn_aload_n (k' := 95) rfl rfl rfl ?_
                          refine rn_ldc2_w (k' := 96) rfl rfl ?_
                          by_cases hq13 : μ 118 11 = 1 ∧ μ 118 17 = 1685024626
                          · exfalso; omega
                          · refine rn_callP (k' := 97) (y := 177) (vs := [mR 118, mJ (1685024626)]) (S' := []) (v := some (mI 0)) (h' := mkh μ c s) rfl rfl rfl (by have hz : Cl PT 177 [mR 118, mJ (1685024626)] (mkh μ c s) (fun r => r = (some (some (mI (if μ 118 11 = 1 ∧ μ 118 17 = 1685024626 then 1 else 0))), mkh μ c s)) := c_X12_isWord (w := 1685024626) (μ := μ) (c := c) (s := s); rw [if_neg hq13] at hz; exact hz) ?_
                            show Rn PT none kX12_line 97 [some (mR 118)] [mI (0)] (mkh μ c s) _
                            refine rn_if_eq (k' := 98) rfl rfl (fun hc14 => ?_) (fun hc14 => ?_)
                            · skip
                              refine rn_aload_n (k' := 104) rfl rfl rfl ?_
                              refine rn_ldc2_w (k' := 105) rfl rfl ?_
                              by_cases hq15 : μ 118 11 = 1 ∧ μ 118 17 = 7173476
                              · exfalso; omega
                              · refine rn_callP (k' := 106) (y := 177) (vs := [mR 118, mJ (7173476)]) (S' := []) (v := some (mI 0)) (h' := mkh μ c s) rfl rfl rfl (by have hz : Cl PT 177 [mR 118, mJ (7173476)] (mkh μ c s) (fun r => r = (some (some (mI (if μ 118 11 = 1 ∧ μ 118 17 = 7173476 then 1 else 0))), mkh μ c s)) := c_X12_isWord (w := 7173476) (μ := μ) (c := c) (s := s); rw [if_neg hq15] at hz; exact hz) ?_
                                show Rn PT none kX12_line 106 [some (mR 118)] [mI (0)] (mkh μ c s) _
                                refine rn_if_eq (k' := 107) rfl rfl (fun hc16 => ?_) (fun hc16 => ?_)
                                · skip
                                  refine rn_aload_n (k' := 113) rfl rfl rfl ?_
                                  refine rn_ldc2_w (k' := 114) rfl rfl ?_
                                  by_cases hq17 : μ 118 11 = 1 ∧ μ 118 17 = 119165551928690
                                  · refine rn_callP (k' := 115) (y := 177) (vs := [mR 118, mJ (119165551928690)]) (S' := []) (v := some (mI 1)) (h' := mkh μ c s) rfl rfl rfl (by have hz : Cl PT 177 [mR 118, mJ (119165551928690)] (mkh μ c s) (fun r => r = (some (some (mI (if μ 118 11 = 1 ∧ μ 118 17 = 119165551928690 then 1 else 0))), mkh μ c s)) := c_X12_isWord (w := 119165551928690) (μ := μ) (c := c) (s := s); rw [if_pos hq17] at hz; exact hz) ?_
                                    show Rn PT none kX12_line 115 [some (mR 118)] [mI (1)] (mkh μ c s) _
                                    refine rn_if_eq (k' := 116) rfl rfl (fun hc18 => ?_) (fun hc18 => ?_)
                                    · exfalso; omega
                                    · skip
                                      exact K
                                  · exfalso; omega
                                · exfalso; omega
                            · exfalso; omega
                        · exfalso; omega
                    · exfalso; omega
                · exfalso; omega
            · exfalso; omega
        · exfalso; omega
    · exfalso; omega
theorem e_line9 {μ : Nat → Nat → Int} {c s : Nat} (h11 : μ 118 11 = 1) (h17 : μ 118 17 = 1751478884) {Q : MR → Prop} (K : Rn PT none kX12_line 125 [some (mR 118)] [] (mkh μ c s) Q) : Cl PT 183 [mR 118] (mkh μ c s) Q := by
  refine ⟨_, PT_183, Nat.le_of_ble_eq_true rfl, ?_⟩
  show Rn PT none kX12_line 0 [some (mR 118)] [] (mkh μ c s) _
  refine rn_aload_n (k' := 1) rfl rfl rfl ?_
  refine rn_ldc2_w (k' := 2) rfl rfl ?_
  by_cases hq1 : μ 118 11 = 1 ∧ μ 118 17 = 7499639
  · exfalso; omega
  · refine rn_callP (k' := 3) (y := 177) (vs := [mR 118, mJ (7499639)]) (S' := []) (v := some (mI 0)) (h' := mkh μ c s) rfl rfl rfl (by have hz : Cl PT 177 [mR 118, mJ (7499639)] (mkh μ c s) (fun r => r = (some (some (mI (if μ 118 11 = 1 ∧ μ 118 17 = 7499639 then 1 else 0))), mkh μ c s)) := c_X12_isWord (w := 7499639) (μ := μ) (c := c) (s := s); rw [if_neg hq1] at hz; exact hz) ?_
    show Rn PT none kX12_line 3 [some (mR 118)] [mI (0)] (mkh μ c s) _
    refine rn_if_eq (k' := 4) rfl rfl (fun hc2 => ?_) (fun hc2 => ?_)
    · skip
      refine rn_aload_n (k' := 8) rfl rfl rfl ?_
      refine rn_ldc2_w (k' := 9) rfl rfl ?_
      by_cases hq3 : μ 118 11 = 1 ∧ μ 118 17 = 7102839
      · exfalso; omega
      · refine rn_callP (k' := 10) (y := 177) (vs := [mR 118, mJ (7102839)]) (S' := []) (v := some (mI 0)) (h' := mkh μ c s) rfl rfl rfl (by have hz : Cl PT 177 [mR 118, mJ (7102839)] (mkh μ c s) (fun r => r = (some (some (mI (if μ 118 11 = 1 ∧ μ 118 17 = 7102839 then 1 else 0))), mkh μ c s)) := c_X12_isWord (w := 7102839) (μ := μ) (c := c) (s := s); rw [if_neg hq3] at hz; exact hz) ?_
        show Rn PT none kX12_line 10 [some (mR 118)] [mI (0)] (mkh μ c s) _
        refine rn_if_eq (k' := 11) rfl rfl (fun hc4 => ?_) (fun hc4 => ?_)
        · skip
          refine rn_aload_n (k' := 46) rfl rfl rfl ?_
          refine rn_ldc2_w (k' := 47) rfl rfl ?_
          by_cases hq5 : μ 118 11 = 1 ∧ μ 118 17 = 127996155553138
          · exfalso; omega
          · refine rn_callP (k' := 48) (y := 177) (vs := [mR 118, mJ (127996155553138)]) (S' := []) (v := some (mI 0)) (h' := mkh μ c s) rfl rfl rfl (by have hz : Cl PT 177 [mR 118, mJ (127996155553138)] (mkh μ c s) (fun r => r = (some (some (mI (if μ 118 11 = 1 ∧ μ 118 17 = 127996155553138 then 1 else 0))), mkh μ c s)) := c_X12_isWord (w := 127996155553138) (μ := μ) (c := c) (s := s); rw [if_neg hq5] at hz; exact hz) ?_
            show Rn PT none kX12_line 48 [some (mR 118)] [mI (0)] (mkh μ c s) _
            refine rn_if_eq (k' := 49) rfl rfl (fun hc6 => ?_) (fun hc6 => ?_)
            · skip
              refine rn_aload_n (k' := 71) rfl rfl rfl ?_
              refine rn_ldc2_w (k' := 72) rfl rfl ?_
              by_cases hq7 : μ 118 11 = 1 ∧ μ 118 17 = 512736126322
              · exfalso; omega
              · refine rn_callP (k' := 73) (y := 177) (vs := [mR 118, mJ (512736126322)]) (S' := []) (v := some (mI 0)) (h' := mkh μ c s) rfl rfl rfl (by have hz : Cl PT 177 [mR 118, mJ (512736126322)] (mkh μ c s) (fun r => r = (some (some (mI (if μ 118 11 = 1 ∧ μ 118 17 = 512736126322 then 1 else 0))), mkh μ c s)) := c_X12_isWord (w := 512736126322) (μ := μ) (c := c) (s := s); rw [if_neg hq7] at hz; exact hz) ?_
                show Rn PT none kX12_line 73 [some (mR 118)] [mI (0)] (mkh μ c s) _
                refine rn_if_eq (k' := 74) rfl rfl (fun hc8 => ?_) (fun hc8 => ?_)
                · skip
                  refine rn_aload_n (k' := 79) rfl rfl rfl ?_
                  refine rn_ldc2_w (k' := 80) rfl rfl ?_
                  by_cases hq9 : μ 118 11 = 1 ∧ μ 118 17 = 2003398244
                  · exfalso; omega
                  · refine rn_callP (k' := 81) (y := 177) (vs := [mR 118, mJ (2003398244)]) (S' := []) (v := some (mI 0)) (h' := mkh μ c s) rfl rfl rfl (by have hz : Cl PT 177 [mR 118, mJ (2003398244)] (mkh μ c s) (fun r => r = (some (some (mI (if μ 118 11 = 1 ∧ μ 118 17 = 2003398244 then 1 else 0))), mkh μ c s)) := c_X12_isWord (w := 2003398244) (μ := μ) (c := c) (s := s); rw [if_neg hq9] at hz; exact hz) ?_
                    show Rn PT none kX12_line 81 [some (mR 118)] [mI (0)] (mkh μ c s) _
                    refine rn_if_eq (k' := 82) rfl rfl (fun hc10 => ?_) (fun hc10 => ?_)
                    · skip
                      refine rn_aload_n (k' := 87) rfl rfl rfl ?_
                      refine rn_ldc2_w (k' := 88) rfl rfl ?_
                      by_cases hq11 : μ 118 11 = 1 ∧ μ 118 17 = 6713191
                      · exfalso; omega
                      · refine rn_callP (k' := 89) (y := 177) (vs := [mR 118, mJ (6713191)]) (S' := []) (v := some (mI 0)) (h' := mkh μ c s) rfl rfl rfl (by have hz : Cl PT 177 [mR 118, mJ (6713191)] (mkh μ c s) (fun r => r = (some (some (mI (if μ 118 11 = 1 ∧ μ 118 17 = 6713191 then 1 else 0))), mkh μ c s)) := c_X12_isWord (w := 6713191) (μ := μ) (c := c) (s := s); rw [if_neg hq11] at hz; exact hz) ?_
                        show Rn PT none kX12_line 89 [some (mR 118)] [mI (0)] (mkh μ c s) _
                        refine rn_if_eq (k' := 90) rfl rfl (fun hc12 => ?_) (fun hc12 => ?_)
                        · skip
                          refine rn_aload_n (k' := 95) rfl rfl rfl ?_
                          refine rn_ldc2_w (k' := 96) rfl rfl ?_
                          by_cases hq13 : μ 118 11 = 1 ∧ μ 118 17 = 1685024626
                          · exfalso; omega
                          · refine rn_callP (k' := 97) (y := 177) (vs := [mR 118, mJ (1685024626)]) (S' := []) (v := some (mI 0)) (h' := mkh μ c s) rfl rfl rfl (by have hz : Cl PT 177 [mR 118, mJ (1685024626)] (mkh μ c s) (fun r => r = (some (some (mI (if μ 118 11 = 1 ∧ μ 118 17 = 1685024626 then 1 else 0))), mkh μ c s)) := c_X12_isWord (w := 1685024626) (μ := μ) (c := c) (s := s); rw [if_neg hq13] at hz; exact hz) ?_
                            show Rn PT none kX12_line 97 [some (mR 118)] [mI (0)] (mkh μ c s) _
                            refine rn_if_eq (k' := 98) rfl rfl (fun hc14 => ?_) (fun hc14 => ?_)
                            · skip
                              refine rn_aload_n (k' := 104) rfl rfl rfl ?_
                              refine rn_ldc2_w (k' := 105) rfl rfl ?_
                              by_cases hq15 : μ 118 11 = 1 ∧ μ 118 17 = 7173476
                              · exfalso; omega
                              · refine rn_callP (k' := 106) (y := 177) (vs := [mR 118, mJ (7173476)]) (S' := []) (v := some (mI 0)) (h' := mkh μ c s) rfl rfl rfl (by have hz : Cl PT 177 [mR 118, mJ (7173476)] (mkh μ c s) (fun r => r = (some (some (mI (if μ 118 11 = 1 ∧ μ 118 17 = 7173476 then 1 else 0))), mkh μ c s)) := c_X12_isWord (w := 7173476) (μ := μ) (c := c) (s := s); rw [if_neg hq15] at hz; exact hz) ?_
                                show Rn PT none kX12_line 106 [some (mR 118)] [mI (0)] (mkh μ c s) _
                                refine rn_if_eq (k' := 107) rfl rfl (fun hc16 => ?_) (fun hc16 => ?_)
                                · skip
                                  refine rn_aload_n (k' := 113) rfl rfl rfl ?_
                                  refine rn_ldc2_w (k' := 114) rfl rfl ?_
                                  by_cases hq17 : μ 118 11 = 1 ∧ μ 118 17 = 119165551928690
                                  · exfalso; omega
                                  · refine rn_callP (k' := 115) (y := 177) (vs := [mR 118, mJ (119165551928690)]) (S' := []) (v := some (mI 0)) (h' := mkh μ c s) rfl rfl rfl (by have hz : Cl PT 177 [mR 118, mJ (119165551928690)] (mkh μ c s) (fun r => r = (some (some (mI (if μ 118 11 = 1 ∧ μ 118 17 = 119165551928690 then 1 else 0))), mkh μ c s)) := c_X12_isWord (w := 119165551928690) (μ := μ) (c := c) (s := s); rw [if_neg hq17] at hz; exact hz) ?_
                                    show Rn PT none kX12_line 115 [some (mR 118)] [mI (0)] (mkh μ c s) _
                                    refine rn_if_eq (k' := 116) rfl rfl (fun hc18 => ?_) (fun hc18 => ?_)
                                    · skip
                                      refine rn_aload_n (k' := 122) rfl rfl rfl ?_
                                      refine rn_ldc2_w (k' := 123) rfl rfl ?_
                                      by_cases hq19 : μ 118 11 = 1 ∧ μ 118 17 = 1751478884
                                      · refine rn_callP (k' := 124) (y := 177) (vs := [mR 118, mJ (1751478884)]) (S' := []) (v := some (mI 1)) (h' := mkh μ c s) rfl rfl rfl (by have hz : Cl PT 177 [mR 118, mJ (1751478884)] (mkh μ c s) (fun r => r = (some (some (mI (if μ 118 11 = 1 ∧ μ 118 17 = 1751478884 then 1 else 0))), mkh μ c s)) := c_X12_isWord (w := 1751478884) (μ := μ) (c := c) (s := s); rw [if_pos hq19] at hz; exact hz) ?_
                                        show Rn PT none kX12_line 124 [some (mR 118)] [mI (1)] (mkh μ c s) _
                                        refine rn_if_eq (k' := 125) rfl rfl (fun hc20 => ?_) (fun hc20 => ?_)
                                        · exfalso; omega
                                        · skip
                                          exact K
                                      · exfalso; omega
                                    · exfalso; omega
                                · exfalso; omega
                            · exfalso; omega
                        · exfalso; omega
                    · exfalso; omega
                · exfalso; omega
            · exfalso; omega
        · exfalso; omega
    · exfalso; omega
theorem e_line10 {μ : Nat → Nat → Int} {c s : Nat} (h11 : μ 118 11 = 1) (h17 : μ 118 17 = 2003790950) {Q : MR → Prop} (K : Rn PT none kX12_line 136 [some (mR 118)] [] (mkh μ c s) Q) : Cl PT 183 [mR 118] (mkh μ c s) Q := by
  refine ⟨_, PT_183, Nat.le_of_ble_eq_true rfl, ?_⟩
  show Rn PT none kX12_line 0 [some (mR 118)] [] (mkh μ c s) _
  refine rn_aload_n (k' := 1) rfl rfl rfl ?_
  refine rn_ldc2_w (k' := 2) rfl rfl ?_
  by_cases hq1 : μ 118 11 = 1 ∧ μ 118 17 = 7499639
  · exfalso; omega
  · refine rn_callP (k' := 3) (y := 177) (vs := [mR 118, mJ (7499639)]) (S' := []) (v := some (mI 0)) (h' := mkh μ c s) rfl rfl rfl (by have hz : Cl PT 177 [mR 118, mJ (7499639)] (mkh μ c s) (fun r => r = (some (some (mI (if μ 118 11 = 1 ∧ μ 118 17 = 7499639 then 1 else 0))), mkh μ c s)) := c_X12_isWord (w := 7499639) (μ := μ) (c := c) (s := s); rw [if_neg hq1] at hz; exact hz) ?_
    show Rn PT none kX12_line 3 [some (mR 118)] [mI (0)] (mkh μ c s) _
    refine rn_if_eq (k' := 4) rfl rfl (fun hc2 => ?_) (fun hc2 => ?_)
    · skip
      refine rn_aload_n (k' := 8) rfl rfl rfl ?_
      refine rn_ldc2_w (k' := 9) rfl rfl ?_
      by_cases hq3 : μ 118 11 = 1 ∧ μ 118 17 = 7102839
      · exfalso; omega
      · refine rn_callP (k' := 10) (y := 177) (vs := [mR 118, mJ (7102839)]) (S' := []) (v := some (mI 0)) (h' := mkh μ c s) rfl rfl rfl (by have hz : Cl PT 177 [mR 118, mJ (7102839)] (mkh μ c s) (fun r => r = (some (some (mI (if μ 118 11 = 1 ∧ μ 118 17 = 7102839 then 1 else 0))), mkh μ c s)) := c_X12_isWord (w := 7102839) (μ := μ) (c := c) (s := s); rw [if_neg hq3] at hz; exact hz) ?_
        show Rn PT none kX12_line 10 [some (mR 118)] [mI (0)] (mkh μ c s) _
        refine rn_if_eq (k' := 11) rfl rfl (fun hc4 => ?_) (fun hc4 => ?_)
        · skip
          refine rn_aload_n (k' := 46) rfl rfl rfl ?_
          refine rn_ldc2_w (k' := 47) rfl rfl ?_
          by_cases hq5 : μ 118 11 = 1 ∧ μ 118 17 = 127996155553138
          · exfalso; omega
          · refine rn_callP (k' := 48) (y := 177) (vs := [mR 118, mJ (127996155553138)]) (S' := []) (v := some (mI 0)) (h' := mkh μ c s) rfl rfl rfl (by have hz : Cl PT 177 [mR 118, mJ (127996155553138)] (mkh μ c s) (fun r => r = (some (some (mI (if μ 118 11 = 1 ∧ μ 118 17 = 127996155553138 then 1 else 0))), mkh μ c s)) := c_X12_isWord (w := 127996155553138) (μ := μ) (c := c) (s := s); rw [if_neg hq5] at hz; exact hz) ?_
            show Rn PT none kX12_line 48 [some (mR 118)] [mI (0)] (mkh μ c s) _
            refine rn_if_eq (k' := 49) rfl rfl (fun hc6 => ?_) (fun hc6 => ?_)
            · skip
              refine rn_aload_n (k' := 71) rfl rfl rfl ?_
              refine rn_ldc2_w (k' := 72) rfl rfl ?_
              by_cases hq7 : μ 118 11 = 1 ∧ μ 118 17 = 512736126322
              · exfalso; omega
              · refine rn_callP (k' := 73) (y := 177) (vs := [mR 118, mJ (512736126322)]) (S' := []) (v := some (mI 0)) (h' := mkh μ c s) rfl rfl rfl (by have hz : Cl PT 177 [mR 118, mJ (512736126322)] (mkh μ c s) (fun r => r = (some (some (mI (if μ 118 11 = 1 ∧ μ 118 17 = 512736126322 then 1 else 0))), mkh μ c s)) := c_X12_isWord (w := 512736126322) (μ := μ) (c := c) (s := s); rw [if_neg hq7] at hz; exact hz) ?_
                show Rn PT none kX12_line 73 [some (mR 118)] [mI (0)] (mkh μ c s) _
                refine rn_if_eq (k' := 74) rfl rfl (fun hc8 => ?_) (fun hc8 => ?_)
                · skip
                  refine rn_aload_n (k' := 79) rfl rfl rfl ?_
                  refine rn_ldc2_w (k' := 80) rfl rfl ?_
                  by_cases hq9 : μ 118 11 = 1 ∧ μ 118 17 = 2003398244
                  · exfalso; omega
                  · refine rn_callP (k' := 81) (y := 177) (vs := [mR 118, mJ (2003398244)]) (S' := []) (v := some (mI 0)) (h' := mkh μ c s) rfl rfl rfl (by have hz : Cl PT 177 [mR 118, mJ (2003398244)] (mkh μ c s) (fun r => r = (some (some (mI (if μ 118 11 = 1 ∧ μ 118 17 = 2003398244 then 1 else 0))), mkh μ c s)) := c_X12_isWord (w := 2003398244) (μ := μ) (c := c) (s := s); rw [if_neg hq9] at hz; exact hz) ?_
                    show Rn PT none kX12_line 81 [some (mR 118)] [mI (0)] (mkh μ c s) _
                    refine rn_if_eq (k' := 82) rfl rfl (fun hc10 => ?_) (fun hc10 => ?_)
                    · skip
                      refine rn_aload_n (k' := 87) rfl rfl rfl ?_
                      refine rn_ldc2_w (k' := 88) rfl rfl ?_
                      by_cases hq11 : μ 118 11 = 1 ∧ μ 118 17 = 6713191
                      · exfalso; omega
                      · refine rn_callP (k' := 89) (y := 177) (vs := [mR 118, mJ (6713191)]) (S' := []) (v := some (mI 0)) (h' := mkh μ c s) rfl rfl rfl (by have hz : Cl PT 177 [mR 118, mJ (6713191)] (mkh μ c s) (fun r => r = (some (some (mI (if μ 118 11 = 1 ∧ μ 118 17 = 6713191 then 1 else 0))), mkh μ c s)) := c_X12_isWord (w := 6713191) (μ := μ) (c := c) (s := s); rw [if_neg hq11] at hz; exact hz) ?_
                        show Rn PT none kX12_line 89 [some (mR 118)] [mI (0)] (mkh μ c s) _
                        refine rn_if_eq (k' := 90) rfl rfl (fun hc12 => ?_) (fun hc12 => ?_)
                        · skip
                          refine rn_aload_n (k' := 95) rfl rfl rfl ?_
                          refine rn_ldc2_w (k' := 96) rfl rfl ?_
                          by_cases hq13 : μ 118 11 = 1 ∧ μ 118 17 = 1685024626
                          · exfalso; omega
                          · refine rn_callP (k' := 97) (y := 177) (vs := [mR 118, mJ (1685024626)]) (S' := []) (v := some (mI 0)) (h' := mkh μ c s) rfl rfl rfl (by have hz : Cl PT 177 [mR 118, mJ (1685024626)] (mkh μ c s) (fun r => r = (some (some (mI (if μ 118 11 = 1 ∧ μ 118 17 = 1685024626 then 1 else 0))), mkh μ c s)) := c_X12_isWord (w := 1685024626) (μ := μ) (c := c) (s := s); rw [if_neg hq13] at hz; exact hz) ?_
                            show Rn PT none kX12_line 97 [some (mR 118)] [mI (0)] (mkh μ c s) _
                            refine rn_if_eq (k' := 98) rfl rfl (fun hc14 => ?_) (fun hc14 => ?_)
                            · skip
                              refine rn_aload_n (k' := 104) rfl rfl rfl ?_
                              refine rn_ldc2_w (k' := 105) rfl rfl ?_
                              by_cases hq15 : μ 118 11 = 1 ∧ μ 118 17 = 7173476
                              · exfalso; omega
                              · refine rn_callP (k' := 106) (y := 177) (vs := [mR 118, mJ (7173476)]) (S' := []) (v := some (mI 0)) (h' := mkh μ c s) rfl rfl rfl (by have hz : Cl PT 177 [mR 118, mJ (7173476)] (mkh μ c s) (fun r => r = (some (some (mI (if μ 118 11 = 1 ∧ μ 118 17 = 7173476 then 1 else 0))), mkh μ c s)) := c_X12_isWord (w := 7173476) (μ := μ) (c := c) (s := s); rw [if_neg hq15] at hz; exact hz) ?_
                                show Rn PT none kX12_line 106 [some (mR 118)] [mI (0)] (mkh μ c s) _
                                refine rn_if_eq (k' := 107) rfl rfl (fun hc16 => ?_) (fun hc16 => ?_)
                                · skip
                                  refine rn_aload_n (k' := 113) rfl rfl rfl ?_
                                  refine rn_ldc2_w (k' := 114) rfl rfl ?_
                                  by_cases hq17 : μ 118 11 = 1 ∧ μ 118 17 = 119165551928690
                                  · exfalso; omega
                                  · refine rn_callP (k' := 115) (y := 177) (vs := [mR 118, mJ (119165551928690)]) (S' := []) (v := some (mI 0)) (h' := mkh μ c s) rfl rfl rfl (by have hz : Cl PT 177 [mR 118, mJ (119165551928690)] (mkh μ c s) (fun r => r = (some (some (mI (if μ 118 11 = 1 ∧ μ 118 17 = 119165551928690 then 1 else 0))), mkh μ c s)) := c_X12_isWord (w := 119165551928690) (μ := μ) (c := c) (s := s); rw [if_neg hq17] at hz; exact hz) ?_
                                    show Rn PT none kX12_line 115 [some (mR 118)] [mI (0)] (mkh μ c s) _
                                    refine rn_if_eq (k' := 116) rfl rfl (fun hc18 => ?_) (fun hc18 => ?_)
                                    · skip
                                      refine rn_aload_n (k' := 122) rfl rfl rfl ?_
                                      refine rn_ldc2_w (k' := 123) rfl rfl ?_
                                      by_cases hq19 : μ 118 11 = 1 ∧ μ 118 17 = 1751478884
                                      · exfalso; omega
                                      · refine rn_callP (k' := 124) (y := 177) (vs := [mR 118, mJ (1751478884)]) (S' := []) (v := some (mI 0)) (h' := mkh μ c s) rfl rfl rfl (by have hz : Cl PT 177 [mR 118, mJ (1751478884)] (mkh μ c s) (fun r => r = (some (some (mI (if μ 118 11 = 1 ∧ μ 118 17 = 1751478884 then 1 else 0))), mkh μ c s)) := c_X12_isWord (w := 1751478884) (μ := μ) (c := c) (s := s); rw [if_neg hq19] at hz; exact hz) ?_
                                        show Rn PT none kX12_line 124 [some (mR 118)] [mI (0)] (mkh μ c s) _
                                        refine rn_if_eq (k' := 125) rfl rfl (fun hc20 => ?_) (fun hc20 => ?_)
                                        · skip
                                          refine rn_aload_n (k' := 129) rfl rfl rfl ?_
                                          refine rn_ldc2_w (k' := 130) rfl rfl ?_
                                          by_cases hq21 : μ 118 11 = 1 ∧ μ 118 17 = 2003790950
                                          · refine rn_callP (k' := 131) (y := 177) (vs := [mR 118, mJ (2003790950)]) (S' := []) (v := some (mI 1)) (h' := mkh μ c s) rfl rfl rfl (by have hz : Cl PT 177 [mR 118, mJ (2003790950)] (mkh μ c s) (fun r => r = (some (some (mI (if μ 118 11 = 1 ∧ μ 118 17 = 2003790950 then 1 else 0))), mkh μ c s)) := c_X12_isWord (w := 2003790950) (μ := μ) (c := c) (s := s); rw [if_pos hq21] at hz; exact hz) ?_
                                            show Rn PT none kX12_line 131 [some (mR 118)] [mI (1)] (mkh μ c s) _
                                            refine rn_if_ne (k' := 132) rfl rfl (fun hc22 => ?_) (fun hc22 => ?_)
                                            · skip
                                              exact K
                                            · exfalso; omega
                                          · exfalso; omega
                                        · exfalso; omega
                                    · exfalso; omega
                                · exfalso; omega
                            · exfalso; omega
                        · exfalso; omega
                    · exfalso; omega
                · exfalso; omega
            · exfalso; omega
        · exfalso; omega
    · exfalso; omega
theorem e_lineN {μ : Nat → Nat → Int} {c s : Nat} (hno : μ 118 11 = 1 → ¬ μ 118 17 = 7499639 ∧ ¬ μ 118 17 = 7102839 ∧ ¬ μ 118 17 = 127996155553138 ∧ ¬ μ 118 17 = 512736126322 ∧ ¬ μ 118 17 = 2003398244 ∧ ¬ μ 118 17 = 6713191 ∧ ¬ μ 118 17 = 1685024626 ∧ ¬ μ 118 17 = 7173476 ∧ ¬ μ 118 17 = 119165551928690 ∧ ¬ μ 118 17 = 1751478884 ∧ ¬ μ 118 17 = 2003790950) : Cl PT 183 [mR 118] (mkh μ c s) (fun r => r = (some (some (mI 0)), mkh (m_set (m_set μ 118 15 1) 118 16 (μ 118 12)) c s)) := by
  refine ⟨_, PT_183, Nat.le_of_ble_eq_true rfl, ?_⟩
  show Rn PT none kX12_line 0 [some (mR 118)] [] (mkh μ c s) _
  refine rn_aload_n (k' := 1) rfl rfl rfl ?_
  refine rn_ldc2_w (k' := 2) rfl rfl ?_
  by_cases hq1 : μ 118 11 = 1 ∧ μ 118 17 = 7499639
  · exfalso; omega
  · refine rn_callP (k' := 3) (y := 177) (vs := [mR 118, mJ (7499639)]) (S' := []) (v := some (mI 0)) (h' := mkh μ c s) rfl rfl rfl (by have hz : Cl PT 177 [mR 118, mJ (7499639)] (mkh μ c s) (fun r => r = (some (some (mI (if μ 118 11 = 1 ∧ μ 118 17 = 7499639 then 1 else 0))), mkh μ c s)) := c_X12_isWord (w := 7499639) (μ := μ) (c := c) (s := s); rw [if_neg hq1] at hz; exact hz) ?_
    show Rn PT none kX12_line 3 [some (mR 118)] [mI (0)] (mkh μ c s) _
    refine rn_if_eq (k' := 4) rfl rfl (fun hc2 => ?_) (fun hc2 => ?_)
    · skip
      refine rn_aload_n (k' := 8) rfl rfl rfl ?_
      refine rn_ldc2_w (k' := 9) rfl rfl ?_
      by_cases hq3 : μ 118 11 = 1 ∧ μ 118 17 = 7102839
      · exfalso; omega
      · refine rn_callP (k' := 10) (y := 177) (vs := [mR 118, mJ (7102839)]) (S' := []) (v := some (mI 0)) (h' := mkh μ c s) rfl rfl rfl (by have hz : Cl PT 177 [mR 118, mJ (7102839)] (mkh μ c s) (fun r => r = (some (some (mI (if μ 118 11 = 1 ∧ μ 118 17 = 7102839 then 1 else 0))), mkh μ c s)) := c_X12_isWord (w := 7102839) (μ := μ) (c := c) (s := s); rw [if_neg hq3] at hz; exact hz) ?_
        show Rn PT none kX12_line 10 [some (mR 118)] [mI (0)] (mkh μ c s) _
        refine rn_if_eq (k' := 11) rfl rfl (fun hc4 => ?_) (fun hc4 => ?_)
        · skip
          refine rn_aload_n (k' := 46) rfl rfl rfl ?_
          refine rn_ldc2_w (k' := 47) rfl rfl ?_
          by_cases hq5 : μ 118 11 = 1 ∧ μ 118 17 = 127996155553138
          · exfalso; omega
          · refine rn_callP (k' := 48) (y := 177) (vs := [mR 118, mJ (127996155553138)]) (S' := []) (v := some (mI 0)) (h' := mkh μ c s) rfl rfl rfl (by have hz : Cl PT 177 [mR 118, mJ (127996155553138)] (mkh μ c s) (fun r => r = (some (some (mI (if μ 118 11 = 1 ∧ μ 118 17 = 127996155553138 then 1 else 0))), mkh μ c s)) := c_X12_isWord (w := 127996155553138) (μ := μ) (c := c) (s := s); rw [if_neg hq5] at hz; exact hz) ?_
            show Rn PT none kX12_line 48 [some (mR 118)] [mI (0)] (mkh μ c s) _
            refine rn_if_eq (k' := 49) rfl rfl (fun hc6 => ?_) (fun hc6 => ?_)
            · skip
              refine rn_aload_n (k' := 71) rfl rfl rfl ?_
              refine rn_ldc2_w (k' := 72) rfl rfl ?_
              by_cases hq7 : μ 118 11 = 1 ∧ μ 118 17 = 512736126322
              · exfalso; omega
              · refine rn_callP (k' := 73) (y := 177) (vs := [mR 118, mJ (512736126322)]) (S' := []) (v := some (mI 0)) (h' := mkh μ c s) rfl rfl rfl (by have hz : Cl PT 177 [mR 118, mJ (512736126322)] (mkh μ c s) (fun r => r = (some (some (mI (if μ 118 11 = 1 ∧ μ 118 17 = 512736126322 then 1 else 0))), mkh μ c s)) := c_X12_isWord (w := 512736126322) (μ := μ) (c := c) (s := s); rw [if_neg hq7] at hz; exact hz) ?_
                show Rn PT none kX12_line 73 [some (mR 118)] [mI (0)] (mkh μ c s) _
                refine rn_if_eq (k' := 74) rfl rfl (fun hc8 => ?_) (fun hc8 => ?_)
                · skip
                  refine rn_aload_n (k' := 79) rfl rfl rfl ?_
                  refine rn_ldc2_w (k' := 80) rfl rfl ?_
                  by_cases hq9 : μ 118 11 = 1 ∧ μ 118 17 = 2003398244
                  · exfalso; omega
                  · refine rn_callP (k' := 81) (y := 177) (vs := [mR 118, mJ (2003398244)]) (S' := []) (v := some (mI 0)) (h' := mkh μ c s) rfl rfl rfl (by have hz : Cl PT 177 [mR 118, mJ (2003398244)] (mkh μ c s) (fun r => r = (some (some (mI (if μ 118 11 = 1 ∧ μ 118 17 = 2003398244 then 1 else 0))), mkh μ c s)) := c_X12_isWord (w := 2003398244) (μ := μ) (c := c) (s := s); rw [if_neg hq9] at hz; exact hz) ?_
                    show Rn PT none kX12_line 81 [some (mR 118)] [mI (0)] (mkh μ c s) _
                    refine rn_if_eq (k' := 82) rfl rfl (fun hc10 => ?_) (fun hc10 => ?_)
                    · skip
                      refine rn_aload_n (k' := 87) rfl rfl rfl ?_
                      refine rn_ldc2_w (k' := 88) rfl rfl ?_
                      by_cases hq11 : μ 118 11 = 1 ∧ μ 118 17 = 6713191
                      · exfalso; omega
                      · refine rn_callP (k' := 89) (y := 177) (vs := [mR 118, mJ (6713191)]) (S' := []) (v := some (mI 0)) (h' := mkh μ c s) rfl rfl rfl (by have hz : Cl PT 177 [mR 118, mJ (6713191)] (mkh μ c s) (fun r => r = (some (some (mI (if μ 118 11 = 1 ∧ μ 118 17 = 6713191 then 1 else 0))), mkh μ c s)) := c_X12_isWord (w := 6713191) (μ := μ) (c := c) (s := s); rw [if_neg hq11] at hz; exact hz) ?_
                        show Rn PT none kX12_line 89 [some (mR 118)] [mI (0)] (mkh μ c s) _
                        refine rn_if_eq (k' := 90) rfl rfl (fun hc12 => ?_) (fun hc12 => ?_)
                        · skip
                          refine rn_aload_n (k' := 95) rfl rfl rfl ?_
                          refine rn_ldc2_w (k' := 96) rfl rfl ?_
                          by_cases hq13 : μ 118 11 = 1 ∧ μ 118 17 = 1685024626
                          · exfalso; omega
                          · refine rn_callP (k' := 97) (y := 177) (vs := [mR 118, mJ (1685024626)]) (S' := []) (v := some (mI 0)) (h' := mkh μ c s) rfl rfl rfl (by have hz : Cl PT 177 [mR 118, mJ (1685024626)] (mkh μ c s) (fun r => r = (some (some (mI (if μ 118 11 = 1 ∧ μ 118 17 = 1685024626 then 1 else 0))), mkh μ c s)) := c_X12_isWord (w := 1685024626) (μ := μ) (c := c) (s := s); rw [if_neg hq13] at hz; exact hz) ?_
                            show Rn PT none kX12_line 97 [some (mR 118)] [mI (0)] (mkh μ c s) _
                            refine rn_if_eq (k' := 98) rfl rfl (fun hc14 => ?_) (fun hc14 => ?_)
                            · skip
                              refine rn_aload_n (k' := 104) rfl rfl rfl ?_
                              refine rn_ldc2_w (k' := 105) rfl rfl ?_
                              by_cases hq15 : μ 118 11 = 1 ∧ μ 118 17 = 7173476
                              · exfalso; omega
                              · refine rn_callP (k' := 106) (y := 177) (vs := [mR 118, mJ (7173476)]) (S' := []) (v := some (mI 0)) (h' := mkh μ c s) rfl rfl rfl (by have hz : Cl PT 177 [mR 118, mJ (7173476)] (mkh μ c s) (fun r => r = (some (some (mI (if μ 118 11 = 1 ∧ μ 118 17 = 7173476 then 1 else 0))), mkh μ c s)) := c_X12_isWord (w := 7173476) (μ := μ) (c := c) (s := s); rw [if_neg hq15] at hz; exact hz) ?_
                                show Rn PT none kX12_line 106 [some (mR 118)] [mI (0)] (mkh μ c s) _
                                refine rn_if_eq (k' := 107) rfl rfl (fun hc16 => ?_) (fun hc16 => ?_)
                                · skip
                                  refine rn_aload_n (k' := 113) rfl rfl rfl ?_
                                  refine rn_ldc2_w (k' := 114) rfl rfl ?_
                                  by_cases hq17 : μ 118 11 = 1 ∧ μ 118 17 = 119165551928690
                                  · exfalso; omega
                                  · refine rn_callP (k' := 115) (y := 177) (vs := [mR 118, mJ (119165551928690)]) (S' := []) (v := some (mI 0)) (h' := mkh μ c s) rfl rfl rfl (by have hz : Cl PT 177 [mR 118, mJ (119165551928690)] (mkh μ c s) (fun r => r = (some (some (mI (if μ 118 11 = 1 ∧ μ 118 17 = 119165551928690 then 1 else 0))), mkh μ c s)) := c_X12_isWord (w := 119165551928690) (μ := μ) (c := c) (s := s); rw [if_neg hq17] at hz; exact hz) ?_
                                    show Rn PT none kX12_line 115 [some (mR 118)] [mI (0)] (mkh μ c s) _
                                    refine rn_if_eq (k' := 116) rfl rfl (fun hc18 => ?_) (fun hc18 => ?_)
                                    · skip
                                      refine rn_aload_n (k' := 122) rfl rfl rfl ?_
                                      refine rn_ldc2_w (k' := 123) rfl rfl ?_
                                      by_cases hq19 : μ 118 11 = 1 ∧ μ 118 17 = 1751478884
                                      · exfalso; omega
                                      · refine rn_callP (k' := 124) (y := 177) (vs := [mR 118, mJ (1751478884)]) (S' := []) (v := some (mI 0)) (h' := mkh μ c s) rfl rfl rfl (by have hz : Cl PT 177 [mR 118, mJ (1751478884)] (mkh μ c s) (fun r => r = (some (some (mI (if μ 118 11 = 1 ∧ μ 118 17 = 1751478884 then 1 else 0))), mkh μ c s)) := c_X12_isWord (w := 1751478884) (μ := μ) (c := c) (s := s); rw [if_neg hq19] at hz; exact hz) ?_
                                        show Rn PT none kX12_line 124 [some (mR 118)] [mI (0)] (mkh μ c s) _
                                        refine rn_if_eq (k' := 125) rfl rfl (fun hc20 => ?_) (fun hc20 => ?_)
                                        · skip
                                          refine rn_aload_n (k' := 129) rfl rfl rfl ?_
                                          refine rn_ldc2_w (k' := 130) rfl rfl ?_
                                          by_cases hq21 : μ 118 11 = 1 ∧ μ 118 17 = 2003790950
                                          · exfalso; omega
                                          · refine rn_callP (k' := 131) (y := 177) (vs := [mR 118, mJ (2003790950)]) (S' := []) (v := some (mI 0)) (h' := mkh μ c s) rfl rfl rfl (by have hz : Cl PT 177 [mR 118, mJ (2003790950)] (mkh μ c s) (fun r => r = (some (some (mI (if μ 118 11 = 1 ∧ μ 118 17 = 2003790950 then 1 else 0))), mkh μ c s)) := c_X12_isWord (w := 2003790950) (μ := μ) (c := c) (s := s); rw [if_neg hq21] at hz; exact hz) ?_
                                            show Rn PT none kX12_line 131 [some (mR 118)] [mI (0)] (mkh μ c s) _
                                            refine rn_if_ne (k' := 132) rfl rfl (fun hc22 => ?_) (fun hc22 => ?_)
                                            · exfalso; omega
                                            · skip
                                              refine rn_aload_n (k' := 133) rfl rfl rfl ?_
                                              refine rn_iconst (k' := 134) rfl rfl ?_
                                              refine rn_callP (k' := 135) (y := 176) (vs := [mR 118, mI (1)]) (S' := []) (v := some (mI (0))) (h' := mkh (m_set (m_set μ 118 15 (1)) 118 16 (μ 118 12)) c s) rfl rfl rfl (g_bad (μ := μ) (e := 1)) ?_
                                              show Rn PT none kX12_line 135 [some (mR 118)] [mI (0)] (mkh (m_set (m_set μ 118 15 (1)) 118 16 (μ 118 12)) c s) _
                                              refine rn_iret rfl (Or.inr (by omega)) ?_
                                              rfl
                                        · exfalso; omega
                                    · exfalso; omega
                                · exfalso; omega
                            · exfalso; omega
                        · exfalso; omega
                    · exfalso; omega
                · exfalso; omega
            · exfalso; omega
        · exfalso; omega
    · exfalso; omega
theorem kw_0 : en 256 0 (kw 0) = 7499639 := by decide
theorem kw_1 : en 256 0 (kw 1) = 7102839 := by decide
theorem kw_2 : en 256 0 (kw 2) = 127996155553138 := by decide
theorem kw_3 : en 256 0 (kw 3) = 512736126322 := by decide
theorem kw_4 : en 256 0 (kw 4) = 2003398244 := by decide
theorem kw_5 : en 256 0 (kw 5) = 6713191 := by decide
theorem kw_6 : en 256 0 (kw 6) = 1685024626 := by decide
theorem kw_7 : en 256 0 (kw 7) = 7173476 := by decide
theorem kw_8 : en 256 0 (kw 8) = 119165551928690 := by decide
theorem kw_9 : en 256 0 (kw 9) = 1751478884 := by decide
theorem kw_10 : en 256 0 (kw 10) = 2003790950 := by decide
