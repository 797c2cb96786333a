variable {N : Int}
/-! ===== printed by wip/whole/gen9b.py: a moor emptied ===== -/
theorem k_empty {μ : Nat → Nat → Int} {c s : Nat} : ∃ μ', (CF μ μ' ∧ (∀ j, j < 300 → μ' 56 j = -1) ∧ (∀ j, j < 3 → μ' 57 j = 0) ∧ (∀ j, j < 90 → μ' 58 j = -1) ∧ μ' 54 7 = 0 ∧ μ' 54 8 = 0 ∧ μ' 54 9 = 0 ∧ μ' 54 10 = 1 ∧ μ' 54 11 = 99 ∧ μ' 54 12 = 0 ∧ μ' 54 13 = 0 ∧ μ' 54 14 = -1 ∧ μ' 54 15 = 0 ∧ μ' 54 16 = 0 ∧ μ' 54 17 = 0 ∧ μ' 55 = μ 55 ∧ μ' 59 = μ 59 ∧ μ' 60 = μ 60 ∧ μ' 61 = μ 61 ∧ μ' 1 = μ 1 ∧ μ' 3 = μ 3) ∧ Cl PT 27 [mR 54] (mkh μ c s) (fun r => r = (some none, mkh μ' c s)) := by
  refine Cl.ex (g := fun μ' => (some none, mkh μ' c s)) ?_
  refine ⟨_, PT_27, Nat.le_of_ble_eq_true rfl, ?_⟩
  show Rn PT none kX3_empty 0 [some (mR 54)] [] (mkh μ c s) _
  refine rn_aload_n (k' := 1) rfl rfl rfl ?_
  refine rn_getR (k' := 2) rfl rfl K0_54 (by decide) rfl R0_54_1 ?_
  refine rn_iconst (k' := 3) rfl rfl ?_
  refine rn_callP (k' := 4) (y := 275) (vs := [mR 56, mI (-1)]) (S' := []) (v := none) (h' := mkh (m_upd μ 56 (fl (fun _ => -1) (μ 56) 300)) c s) rfl rfl rfl (c_fill K0_56 (by decide)) ?_
  show Rn PT none kX3_empty 4 [some (mR 54)] [] (mkh (m_upd μ 56 (fl (fun _ => -1) (μ 56) 300)) c s) _
  refine rn_aload_n (k' := 5) rfl rfl rfl ?_
  refine rn_getR (k' := 6) rfl rfl K0_54 (by decide) rfl R0_54_2 ?_
  refine rn_iconst (k' := 7) rfl rfl ?_
  refine rn_callP (k' := 8) (y := 275) (vs := [mR 57, mI (0)]) (S' := []) (v := none) (h' := mkh (m_upd (m_upd μ 56 (fl (fun _ => -1) (μ 56) 300)) 57 (fl (fun _ => 0) ((m_upd μ 56 (fl (fun _ => -1) (μ 56) 300)) 57) 3)) c s) rfl rfl rfl (c_fill K0_57 (by decide)) ?_
  show Rn PT none kX3_empty 8 [some (mR 54)] [] (mkh (m_upd (m_upd μ 56 (fl (fun _ => -1) (μ 56) 300)) 57 (fl (fun _ => 0) ((m_upd μ 56 (fl (fun _ => -1) (μ 56) 300)) 57) 3)) c s) _
  refine rn_aload_n (k' := 9) rfl rfl rfl ?_
  refine rn_getR (k' := 10) rfl rfl K0_54 (by decide) rfl R0_54_3 ?_
  refine rn_iconst (k' := 11) rfl rfl ?_
  refine rn_callP (k' := 12) (y := 275) (vs := [mR 58, mI (-1)]) (S' := []) (v := none) (h' := mkh (m_upd (m_upd (m_upd μ 56 (fl (fun _ => -1) (μ 56) 300)) 57 (fl (fun _ => 0) ((m_upd μ 56 (fl (fun _ => -1) (μ 56) 300)) 57) 3)) 58 (fl (fun _ => -1) ((m_upd (m_upd μ 56 (fl (fun _ => -1) (μ 56) 300)) 57 (fl (fun _ => 0) ((m_upd μ 56 (fl (fun _ => -1) (μ 56) 300)) 57) 3)) 58) 90)) c s) rfl rfl rfl (c_fill K0_58 (by decide)) ?_
  show Rn PT none kX3_empty 12 [some (mR 54)] [] (mkh (m_upd (m_upd (m_upd μ 56 (fl (fun _ => -1) (μ 56) 300)) 57 (fl (fun _ => 0) ((m_upd μ 56 (fl (fun _ => -1) (μ 56) 300)) 57) 3)) 58 (fl (fun _ => -1) ((m_upd (m_upd μ 56 (fl (fun _ => -1) (μ 56) 300)) 57 (fl (fun _ => 0) ((m_upd μ 56 (fl (fun _ => -1) (μ 56) 300)) 57) 3)) 58) 90)) c s) _
  refine rn_aload_n (k' := 13) rfl rfl rfl ?_
  refine rn_iconst (k' := 14) rfl rfl ?_
  refine rn_putI (k' := 15) rfl rfl K0_54 (by decide) rfl ?_
  refine rn_aload_n (k' := 16) rfl rfl rfl ?_
  refine rn_iconst (k' := 17) rfl rfl ?_
  refine rn_putI (k' := 18) rfl rfl K0_54 (by decide) rfl ?_
  refine rn_aload_n (k' := 19) rfl rfl rfl ?_
  refine rn_iconst (k' := 20) rfl rfl ?_
  refine rn_putI (k' := 21) rfl rfl K0_54 (by decide) rfl ?_
  refine rn_aload_n (k' := 22) rfl rfl rfl ?_
  refine rn_iconst (k' := 23) rfl rfl ?_
  refine rn_putI (k' := 24) rfl rfl K0_54 (by decide) rfl ?_
  refine rn_aload_n (k' := 25) rfl rfl rfl ?_
  refine rn_bipush (k' := 26) rfl rfl ?_
  refine rn_putI (k' := 27) rfl rfl K0_54 (by decide) rfl ?_
  refine rn_aload_n (k' := 28) rfl rfl rfl ?_
  refine rn_iconst (k' := 29) rfl rfl ?_
  refine rn_putI (k' := 30) rfl rfl K0_54 (by decide) rfl ?_
  refine rn_aload_n (k' := 31) rfl rfl rfl ?_
  refine rn_iconst (k' := 32) rfl rfl ?_
  refine rn_putI (k' := 33) rfl rfl K0_54 (by decide) rfl ?_
  refine rn_aload_n (k' := 34) rfl rfl rfl ?_
  refine rn_iconst (k' := 35) rfl rfl ?_
  refine rn_putI (k' := 36) rfl rfl K0_54 (by decide) rfl ?_
  refine rn_aload_n (k' := 37) rfl rfl rfl ?_
  refine rn_iconst (k' := 38) rfl rfl ?_
  refine rn_putI (k' := 39) rfl rfl K0_54 (by decide) rfl ?_
  refine rn_aload_n (k' := 40) rfl rfl rfl ?_
  refine rn_iconst (k' := 41) rfl rfl ?_
  refine rn_putZ (k' := 42) rfl rfl K0_54 (by decide) rfl (by omega) ?_
  refine rn_aload_n (k' := 43) rfl rfl rfl ?_
  refine rn_iconst (k' := 44) rfl rfl ?_
  refine rn_putZ (k' := 45) rfl rfl K0_54 (by decide) rfl (by omega) ?_
  refine rn_vret rfl ?_
  refine ⟨_, rfl, (CF.s (CF.s (CF.s (CF.s (CF.s (CF.s (CF.s (CF.s (CF.s (CF.s (CF.s (CF.u (CF.u (CF.u CF.r (by decide)) (by decide)) (by decide)) (by decide)) (by decide)) (by decide)) (by decide)) (by decide)) (by decide)) (by decide)) (by decide)) (by decide)) (by decide)) (by decide)), ?_, ?_, ?_, rfl, rfl, rfl, rfl, rfl, rfl, rfl, rfl, rfl, rfl, rfl, rfl, rfl, rfl, rfl, rfl, rfl⟩
  · intro j hj; exact if_pos hj
  · intro j hj; exact if_pos hj
  · intro j hj; exact if_pos hj
