variable {N : Int}
/-! ===== printed by wip/whole/gen9n.py: a plan read ===== -/
abbrev plst (μ : Nat → Nat → Int) : Nat → Nat → Int := m_set (m_set (m_set (m_set μ 3 2 0) 62 0 0) 1 2 400) 1 3 0
theorem pkr_go {μ : Nat → Nat → Int} {c s : Nat} {Q : MR → Prop} (K : Rn PT none kX5_readPlan 12 [some (mR 3), some (mR 62), some (mR 6), some (mI 0)] [] (mkh (plst μ) c s) Q) : Cl PT 44 [mR 3, mR 62, mR 6] (mkh μ c s) Q := by
  refine ⟨_, PT_44, Nat.le_of_ble_eq_true rfl, ?_⟩
  show Rn PT none kX5_readPlan 0 [some (mR 3), some (mR 62), some (mR 6), none] [] (mkh μ c s) _
  refine rn_aload_n (k' := 1) rfl rfl rfl ?_
  refine rn_iconst (k' := 2) rfl rfl ?_
  refine rn_putI (k' := 3) rfl rfl K0_3 (by decide) rfl ?_
  refine rn_aload_n (k' := 4) rfl rfl rfl ?_
  refine rn_iconst (k' := 5) rfl rfl ?_
  refine rn_putI (k' := 6) rfl rfl K0_62 (by decide) rfl ?_
  refine rn_aload_n (k' := 7) rfl rfl rfl ?_
  refine rn_getR (k' := 8) rfl rfl K0_3 (by decide) rfl R0_3_0 ?_
  refine rn_sipush (k' := 9) rfl rfl ?_
  refine rn_callP (k' := 10) (y := 68) (vs := [mR 1, mI (400)]) (S' := []) (v := none) (h' := mkh (m_set (m_set (m_set (m_set μ 3 2 (0)) 62 0 (0)) 1 2 (400)) 1 3 (0)) c s) rfl rfl rfl (c_beginText (μ := (m_set (m_set μ 3 2 (0)) 62 0 (0))) (c := c) (s := s)) ?_
  show Rn PT none kX5_readPlan 10 [some (mR 3), some (mR 62), some (mR 6), none] [] (mkh (m_set (m_set (m_set (m_set μ 3 2 (0)) 62 0 (0)) 1 2 (400)) 1 3 (0)) c s) _
  refine rn_iconst (k' := 11) rfl rfl ?_
  refine rn_istore_n (k' := 12) (L' := [some (mR 3), some (mR 62), some (mR 6), some (mI (0))]) rfl rfl (Nat.le_of_ble_eq_true rfl) rfl ?_
  exact K
theorem x_plan_bad {μ μ1 : Nat → Nat → Int} {c s : Nat} {z : Int} (hz : z < 0) (hR : Cl PT 44 [mR 3, mR 62, mR 6] (mkh μ c s) (fun r => r = (some (some (mI z)), mkh μ1 c s))) : Cl PT 105 [mR 0] (mkh μ c s) (fun r => r = (some (some (mI z)), mkh (m_set μ1 1 1 0) c s)) := by
  refine ⟨_, PT_105, Nat.le_of_ble_eq_true rfl, ?_⟩
  show Rn PT none kX11_plan 0 [some (mR 0), none] [] (mkh μ c s) _
  refine rn_aload_n (k' := 1) rfl rfl rfl ?_
  refine rn_getR (k' := 2) rfl rfl K0_0 (by decide) rfl R0_0_1 ?_
  refine rn_aload_n (k' := 3) rfl rfl rfl ?_
  refine rn_getR (k' := 4) rfl rfl K0_0 (by decide) rfl R0_0_7 ?_
  refine rn_aload_n (k' := 5) rfl rfl rfl ?_
  refine rn_getR (k' := 6) rfl rfl K0_0 (by decide) rfl R0_0_3 ?_
  refine rn_callP (k' := 7) (y := 44) (vs := [mR 3, mR 62, mR 6]) (S' := []) (v := some (mI (z))) (h' := mkh μ1 c s) rfl rfl rfl (hR) ?_
  show Rn PT none kX11_plan 7 [some (mR 0), none] [mI (z)] (mkh μ1 c s) _
  refine rn_istore_n (k' := 8) (L' := [some (mR 0), some (mI (z))]) rfl rfl (Nat.le_of_ble_eq_true rfl) rfl ?_
  refine rn_aload_n (k' := 9) rfl rfl rfl ?_
  refine rn_getR (k' := 10) rfl rfl K0_0 (by decide) rfl R0_0_0 ?_
  refine rn_iconst (k' := 11) rfl rfl ?_
  refine rn_putI (k' := 12) rfl rfl K0_1 (by decide) rfl ?_
  refine rn_iload_n (k' := 13) rfl rfl rfl ?_
  refine rn_if_lt (k' := 14) rfl rfl (fun hc2 => ?_) (fun hc2 => ?_)
  · skip
    refine rn_iload_n (k' := 21) rfl rfl rfl ?_
    refine rn_iret rfl (Or.inl rfl) ?_
    rfl
  · exfalso; omega
theorem x_plan_ok {μ μ1 : Nat → Nat → Int} {c s : Nat} {z : Int} (hz : ¬ z < 0) (hR : Cl PT 44 [mR 3, mR 62, mR 6] (mkh μ c s) (fun r => r = (some (some (mI z)), mkh μ1 c s))) : Cl PT 105 [mR 0] (mkh μ c s) (fun r => r = (some (some (mI z)), mkh (pcp (m_set μ1 1 1 0) 17 62) c s)) := by
  refine ⟨_, PT_105, Nat.le_of_ble_eq_true rfl, ?_⟩
  show Rn PT none kX11_plan 0 [some (mR 0), none] [] (mkh μ c s) _
  refine rn_aload_n (k' := 1) rfl rfl rfl ?_
  refine rn_getR (k' := 2) rfl rfl K0_0 (by decide) rfl R0_0_1 ?_
  refine rn_aload_n (k' := 3) rfl rfl rfl ?_
  refine rn_getR (k' := 4) rfl rfl K0_0 (by decide) rfl R0_0_7 ?_
  refine rn_aload_n (k' := 5) rfl rfl rfl ?_
  refine rn_getR (k' := 6) rfl rfl K0_0 (by decide) rfl R0_0_3 ?_
  refine rn_callP (k' := 7) (y := 44) (vs := [mR 3, mR 62, mR 6]) (S' := []) (v := some (mI (z))) (h' := mkh μ1 c s) rfl rfl rfl (hR) ?_
  show Rn PT none kX11_plan 7 [some (mR 0), none] [mI (z)] (mkh μ1 c s) _
  refine rn_istore_n (k' := 8) (L' := [some (mR 0), some (mI (z))]) rfl rfl (Nat.le_of_ble_eq_true rfl) rfl ?_
  refine rn_aload_n (k' := 9) rfl rfl rfl ?_
  refine rn_getR (k' := 10) rfl rfl K0_0 (by decide) rfl R0_0_0 ?_
  refine rn_iconst (k' := 11) rfl rfl ?_
  refine rn_putI (k' := 12) rfl rfl K0_1 (by decide) rfl ?_
  refine rn_iload_n (k' := 13) rfl rfl rfl ?_
  refine rn_if_lt (k' := 14) rfl rfl (fun hc2 => ?_) (fun hc2 => ?_)
  · exfalso; omega
  · skip
    refine rn_aload_n (k' := 15) rfl rfl rfl ?_
    refine rn_getR (k' := 16) rfl rfl K0_0 (by decide) rfl R0_0_2 ?_
    refine rn_getR (k' := 17) rfl rfl K0_5 (by decide) rfl R0_5_2 ?_
    refine rn_aload_n (k' := 18) rfl rfl rfl ?_
    refine rn_getR (k' := 19) rfl rfl K0_0 (by decide) rfl R0_0_7 ?_
    refine rn_callP (k' := 20) (y := 41) (vs := [mR 17, mR 62]) (S' := []) (v := none) (h' := mkh (pcp (m_set μ1 1 1 (0)) 17 62) c s) rfl rfl rfl (c_pcopy_17_62 (μ := (m_set μ1 1 1 (0))) (c := c) (s := s)) ?_
    show Rn PT none kX11_plan 20 [some (mR 0), some (mI (z))] [] (mkh (pcp (m_set μ1 1 1 (0)) 17 62) c s) _
    refine rn_iload_n (k' := 21) rfl rfl rfl ?_
    refine rn_iret rfl (Or.inl rfl) ?_
    rfl
abbrev pmst (μ : Nat → Nat → Int) : Nat → Nat → Int := (m_set (m_set (m_set (m_set (m_set (m_set (m_set μ 118 0 (0)) 118 3 (μ 118 2)) 118 2 (0)) 118 4 (0)) 118 5 (400)) 118 15 (0)) 118 41 (0))
theorem pmr_go {μ μ2 : Nat → Nat → Int} {c s : Nat} {Q : MR → Prop} (hN : Cl PT 175 [mR 118] (mkh (pmst μ) c s) (fun r => r = (some none, mkh μ2 c s))) (K : Rn PT none kX12_plan 14 [some (mR 118), none] [] (mkh μ2 c s) Q) : Cl PT 266 [mR 118] (mkh μ c s) Q := by
  refine ⟨_, PT_266, Nat.le_of_ble_eq_true rfl, ?_⟩
  show Rn PT none kX12_plan 0 [some (mR 118), none] [] (mkh μ c s) _
  refine rn_aload_n (k' := 1) rfl rfl rfl ?_
  refine rn_iconst (k' := 2) rfl rfl ?_
  refine rn_putI (k' := 3) rfl rfl K0_118 (by decide) rfl ?_
  refine rn_aload_n (k' := 4) rfl rfl rfl ?_
  refine rn_sipush (k' := 5) rfl rfl ?_
  refine rn_callP (k' := 6) (y := 166) (vs := [mR 118, mI (400)]) (S' := []) (v := none) (h' := mkh (m_set (m_set (m_set (m_set (m_set μ 118 0 (0)) 118 3 (μ 118 2)) 118 2 (0)) 118 4 (0)) 118 5 (400)) c s) rfl rfl rfl (c_taken (μ := (m_set μ 118 0 (0))) (c := c) (s := s)) ?_
  show Rn PT none kX12_plan 6 [some (mR 118), none] [] (mkh (m_set (m_set (m_set (m_set (m_set μ 118 0 (0)) 118 3 (μ 118 2)) 118 2 (0)) 118 4 (0)) 118 5 (400)) c s) _
  refine rn_aload_n (k' := 7) rfl rfl rfl ?_
  refine rn_iconst (k' := 8) rfl rfl ?_
  refine rn_putI (k' := 9) rfl rfl K0_118 (by decide) rfl ?_
  refine rn_aload_n (k' := 10) rfl rfl rfl ?_
  refine rn_iconst (k' := 11) rfl rfl ?_
  refine rn_putI (k' := 12) rfl rfl K0_118 (by decide) rfl ?_
  refine rn_aload_n (k' := 13) rfl rfl rfl ?_
  refine rn_callP (k' := 14) (y := 175) (vs := [mR 118]) (S' := []) (v := none) (h' := mkh μ2 c s) rfl rfl rfl (hN) ?_
  show Rn PT none kX12_plan 14 [some (mR 118), none] [] (mkh μ2 c s) _
  exact K
set_option maxHeartbeats 4000000 in
theorem l_pcopy {μ : Nat → Nat → Int} {c s : Nat} {l9 : Nat} (h41 : μ 118 41 = (l9 : Int)) (hl : l9 ≤ 30) : ∀ (d n : Nat) (k : Int) (G : Nat → Int), k = (n : Int) → n + d = 4 * l9 + 1 → (∀ j, j < 536 → G j = μ 120 j) → (∀ j, j < n → G (536 + j) = μ 122 j) → Rn PT none kX12_plan 44 [some (mR 118), some (mI (k))] [] (mkh (m_upd μ 120 G) c s) (fun r => ∃ G, r = (some (some (mI (μ 118 41))), mkh (m_upd μ 120 G) c s) ∧ (∀ j, j < 536 → G j = μ 120 j) ∧ (∀ j, j < 4 * l9 + 1 → G (536 + j) = μ 122 j)) := by
  intro d
  induction d with
  | zero =>
    intro n k G ek hn g1 g2
    subst ek
    refine rn_iload_n (k' := 45) rfl rfl rfl ?_
    refine rn_iconst (k' := 46) rfl rfl ?_
    refine rn_aload_n (k' := 47) rfl rfl rfl ?_
    refine rn_getI (k' := 48) rfl rfl K0_118 (by decide) rfl ?_
    show Rn PT none kX12_plan 48 [some (mR 118), some (mI ((n : Int)))] [mI (μ 118 41), mI (4), mI ((n : Int))] (mkh (m_upd μ 120 G) c s) _
    refine rn_imul (k' := 49) rfl rfl (by omega) ?_
    refine rn_icmp_gt (k' := 50) rfl rfl (fun hc1 => ?_) (fun hc1 => ?_)
    · skip
      refine rn_aload_n (k' := 63) rfl rfl rfl ?_
      refine rn_getI (k' := 64) rfl rfl K0_118 (by decide) rfl ?_
      show Rn PT none kX12_plan 64 [some (mR 118), some (mI ((n : Int)))] [mI (μ 118 41)] (mkh (m_upd μ 120 G) c s) _
      refine rn_iret rfl (Or.inl rfl) ?_
      exact ⟨G, rfl, g1, fun j hj => g2 j (by omega)⟩
    · exfalso; omega
  | succ d ih =>
    intro n k G ek hn g1 g2
    subst ek
    refine rn_iload_n (k' := 45) rfl rfl rfl ?_
    refine rn_iconst (k' := 46) rfl rfl ?_
    refine rn_aload_n (k' := 47) rfl rfl rfl ?_
    refine rn_getI (k' := 48) rfl rfl K0_118 (by decide) rfl ?_
    show Rn PT none kX12_plan 48 [some (mR 118), some (mI ((n : Int)))] [mI (μ 118 41), mI (4), mI ((n : Int))] (mkh (m_upd μ 120 G) c s) _
    refine rn_imul (k' := 49) rfl rfl (by omega) ?_
    refine rn_icmp_gt (k' := 50) rfl rfl (fun hc1 => ?_) (fun hc1 => ?_)
    · exfalso; omega
    · skip
      refine rn_aload_n (k' := 51) rfl rfl rfl ?_
      refine rn_getR (k' := 52) rfl rfl K0_118 (by decide) rfl R0_118_6 ?_
      refine rn_sipush (k' := 53) rfl rfl ?_
      refine rn_iload_n (k' := 54) rfl rfl rfl ?_
      refine rn_iadd (k' := 55) rfl rfl (by omega) ?_
      refine rn_aload_n (k' := 56) rfl rfl rfl ?_
      refine rn_getR (k' := 57) rfl rfl K0_118 (by decide) rfl R0_118_8 ?_
      refine rn_iload_n (k' := 58) rfl rfl rfl ?_
      refine rn_iaload (k' := 59) rfl rfl K0_122 (by omega) (by omega) ?_
      show Rn PT none kX12_plan 59 [some (mR 118), some (mI ((n : Int)))] [mI (μ 122 (n)), mI (536 + (n : Int)), mR 120] (mkh (m_upd μ 120 G) c s) _
      refine rn_iastore (k' := 60) rfl rfl K0_120 (by omega) (by omega) ?_
      refine rn_iinc (k' := 61) (L' := [some (mR 118), some (mI ((n : Int) + 1))]) rfl rfl rfl (by omega) rfl ?_
      refine rn_goto rfl ?_
      show Rn PT none kX12_plan 44 [some (mR 118), some (mI ((n : Int) + 1))] [] (mkh (m_set (m_upd μ 120 G) 120 (536 + n) (μ 122 (n))) c s) _
      rw [set_upd_eq]
      refine ih (n + 1) _ _ (by omega) (by omega) (fun j hj => ?_) (fun j hj => ?_)
      · rw [fs_ne_ (by omega)]; exact g1 j hj
      · by_cases c1 : j = n
        · rw [c1]; exact if_pos rfl
        · rw [fs_ne_ (by omega)]; exact g2 j (by omega)
theorem pmr_36 {μ : Nat → Nat → Int} {c s l9 : Nat} (h41 : μ 118 41 = (l9 : Int)) (hl : l9 ≤ 30) : Rn PT none kX12_plan 36 [some (mR 118), none] [] (mkh μ c s) (fun r => ∃ G, r = (some (some (mI (μ 118 41))), mkh (m_upd (m_set μ 122 0 (μ 118 41)) 120 G) c s) ∧ (∀ j, j < 536 → G j = μ 120 j) ∧ (∀ j, j < 4 * l9 + 1 → G (536 + j) = m_set μ 122 0 (μ 118 41) 122 j)) := by
  refine rn_aload_n (k' := 37) rfl rfl rfl ?_
  refine rn_getR (k' := 38) rfl rfl K0_118 (by decide) rfl R0_118_8 ?_
  refine rn_iconst (k' := 39) rfl rfl ?_
  refine rn_aload_n (k' := 40) rfl rfl rfl ?_
  refine rn_getI (k' := 41) rfl rfl K0_118 (by decide) rfl ?_
  refine rn_iastore (k' := 42) rfl rfl K0_122 (by omega) (by omega) ?_
  refine rn_iconst (k' := 43) rfl rfl ?_
  refine rn_istore_n (k' := 44) (L' := [some (mR 118), some (mI (0))]) rfl rfl (Nat.le_of_ble_eq_true rfl) rfl ?_
  have hz := l_pcopy (μ := m_set μ 122 0 (μ 118 41)) (c := c) (s := s) (l9 := l9) h41 hl (4 * l9 + 1) 0 0 (μ 120) rfl (by omega) (fun _ _ => rfl) (fun j hj => absurd hj (by omega))
  rw [show m_upd (m_set μ 122 0 (μ 118 41)) 120 (μ 120) = m_set μ 122 0 (μ 118 41) from upd_self (μ := m_set μ 122 0 (μ 118 41)) (a := 120)] at hz
  exact hz
theorem I_scene.congr6 {μ μ' : Nat → Nat → Int} (h : I_scene μ) (h8 : μ 6 13 ≤ 8) (e6 : μ' 6 = μ 6) (e14 : μ' 14 = μ 14) (e15 : μ' 15 = μ 15) (e16 : μ' 16 = μ 16) (e : ∀ j, j < 536 → μ' 120 j = μ 120 j) : I_scene μ' := by
  obtain ⟨i1, i2, i3, i4, i5, i6, i7, i8, i9, i10, i11, i12, i13⟩ := h
  unfold I_scene
  rw [e6, e14, e15, e16, e 517 (by decide), e 534 (by decide), e 535 (by decide)]
  refine ⟨i1, i2, i3, i4, i5, i6, i7, i8, fun j hj => ?_, i10, i11, i12, i13⟩
  rw [e _ (by omega), e _ (by omega)]
  exact i9 j hj
set_option maxHeartbeats 4000000 in
theorem pok_inv {μ σ ν μ2 : Nat → Nat → Int} (hI : Inv N μ) (hs : ∀ r, ¬ r = 1 → ¬ r = 3 → (r < 62 ∨ 65 < r) → σ r = μ r) (G1 : ∀ r, ¬ r = 118 → ¬ r = 122 → ν r = pcp (m_set σ 1 1 0) 17 62 r) (G2 : ∀ j, 22 ≤ j → ¬ j = 41 → ν 118 j = μ 118 j) (G3 : ν 118 2 = 0) (h3 : σ 3 2 = 0) (h15 : ν 118 15 = 0) (hR : RelP σ ν 0)
    (q118 : ∀ j, μ2 118 j = ν 118 j) (qr : ∀ r, ¬ r = 120 → ¬ r = 122 → μ2 r = ν r) (q1 : ∀ j, j < 536 → μ2 120 j = ν 120 j) (q2 : μ2 120 536 = σ 62 0) (q3 : ∀ j : Nat, 1 ≤ j → (j : Int) < 4 * σ 62 0 + 1 → μ2 120 (536 + j) = ν 122 j) : Inv N μ2 := by
  obtain ⟨⟨p1, p2⟩, hP⟩ := hR
  have R : ∀ r, ¬ r = 118 → ¬ r = 120 → ¬ r = 122 → μ2 r = pcp (m_set σ 1 1 0) 17 62 r := fun r a1 a2 a3 => (qr r a2 a3).trans (G1 r a1 a3)
  have O : ∀ r, (r < 17 ∨ 20 < r) → ¬ r = 1 → pcp (m_set σ 1 1 0) 17 62 r = σ r := fun r a1 a2 => (pcp_o (by omega)).trans (row_set a2)
  have RO : ∀ r, (r < 17 ∨ 20 < r) → ¬ r = 1 → ¬ r = 3 → (r < 62 ∨ 65 < r) → ¬ r = 118 → ¬ r = 120 → ¬ r = 122 → μ2 r = μ r := fun r a1 a2 a3 a4 a5 a6 a7 => (R r a5 a6 a7).trans ((O r a1 a2).trans (hs r a2 a3 a4))
  have F : ∀ j, 22 ≤ j → ¬ j = 41 → μ2 118 j = μ 118 j := fun j hj h41 => (q118 j).trans (G2 j hj h41)
  have q120 : ∀ j, j < 536 → μ2 120 j = μ 120 j := fun j hj => (q1 j hj).trans (by rw [G1 120 (by decide) (by decide), O 120 (by decide) (by decide), hs 120 (by decide) (by decide) (by decide)])
  have a17 : μ2 17 0 = σ 62 0 := by rw [(R 17 (by decide) (by decide) (by decide))]; rfl
  have r18 : ∀ j, μ2 18 j = fl (σ 63) (σ 18) 30 j := fun j => by rw [(R 18 (by decide) (by decide) (by decide))]; rfl
  have r19 : ∀ j, μ2 19 j = fl (σ 64) (σ 19) 30 j := fun j => by rw [(R 19 (by decide) (by decide) (by decide))]; rfl
  have r20 : ∀ j, μ2 20 j = fl (σ 65) (σ 20) 30 j := fun j => by rw [(R 20 (by decide) (by decide) (by decide))]; rfl
  have e6 := (RO 6 (by decide) (by decide) (by decide) (by decide) (by decide) (by decide) (by decide))
  have s6 : σ 6 = μ 6 := hs 6 (by decide) (by decide) (by decide)
  obtain ⟨t1, t2, t3⟩ := hI.tape
  have h8 := hI.land.2.2.2.2.2.1.2
  refine Inv.mk ⟨?_, ?_, fun j => ?_⟩ ?_ (hI.land.congr (RO 6 (by decide) (by decide) (by decide) (by decide) (by decide) (by decide) (by decide)) (RO 7 (by decide) (by decide) (by decide) (by decide) (by decide) (by decide) (by decide)) (RO 8 (by decide) (by decide) (by decide) (by decide) (by decide) (by decide) (by decide)) (RO 9 (by decide) (by decide) (by decide) (by decide) (by decide) (by decide) (by decide)) (RO 10 (by decide) (by decide) (by decide) (by decide) (by decide) (by decide) (by decide)) (fun j hj => q120 j (by omega))) (hI.scene.congr6 h8 (RO 6 (by decide) (by decide) (by decide) (by decide) (by decide) (by decide) (by decide)) (RO 14 (by decide) (by decide) (by decide) (by decide) (by decide) (by decide) (by decide)) (RO 15 (by decide) (by decide) (by decide) (by decide) (by decide) (by decide) (by decide)) (RO 16 (by decide) (by decide) (by decide) (by decide) (by decide) (by decide) (by decide)) q120) (hI.last.congr (by rw [(RO 0 (by decide) (by decide) (by decide) (by decide) (by decide) (by decide) (by decide))]) (F 31 (by decide) (by decide)) (RO 130 (by decide) (by decide) (by decide) (by decide) (by decide) (by decide) (by decide)) (RO 116 (by decide) (by decide) (by decide) (by decide) (by decide) (by decide) (by decide)) (by rw [(RO 0 (by decide) (by decide) (by decide) (by decide) (by decide) (by decide) (by decide))]) (F 39 (by decide) (by decide)) (RO 135 (by decide) (by decide) (by decide) (by decide) (by decide) (by decide) (by decide)) (RO 117 (by decide) (by decide) (by decide) (by decide) (by decide) (by decide) (by decide)) (by rw [(RO 112 (by decide) (by decide) (by decide) (by decide) (by decide) (by decide) (by decide))]) (F 37 (by decide) (by decide)) (RO 134 (by decide) (by decide) (by decide) (by decide) (by decide) (by decide) (by decide)) (RO 115 (by decide) (by decide) (by decide) (by decide) (by decide) (by decide) (by decide)) (by rw [(RO 82 (by decide) (by decide) (by decide) (by decide) (by decide) (by decide) (by decide))]) (F 44 (by decide) (by decide)) (RO 136 (by decide) (by decide) (by decide) (by decide) (by decide) (by decide) (by decide)) (RO 87 (by decide) (by decide) (by decide) (by decide) (by decide) (by decide) (by decide))) ?_ (hI.names.congr h8 (RO 6 (by decide) (by decide) (by decide) (by decide) (by decide) (by decide) (by decide)) (RO 11 (by decide) (by decide) (by decide) (by decide) (by decide) (by decide) (by decide)) (fun j hj => by rw [(RO 123 (by decide) (by decide) (by decide) (by decide) (by decide) (by decide) (by decide))])) (by rw [(RO 14 (by decide) (by decide) (by decide) (by decide) (by decide) (by decide) (by decide))]; exact hI.took) (hI.undo.congr (RO 6 (by decide) (by decide) (by decide) (by decide) (by decide) (by decide) (by decide)) (by rw [(RO 82 (by decide) (by decide) (by decide) (by decide) (by decide) (by decide) (by decide))]) (by rw [(RO 82 (by decide) (by decide) (by decide) (by decide) (by decide) (by decide) (by decide))]) (F 34 (by decide) (by decide)) (fun a h1 h2 => RO a (by omega) (by omega) (by omega) (by omega) (by omega) (by omega) (by omega)) (RO 131 (by decide) (by decide) (by decide) (by decide) (by decide) (by decide) (by decide))) (hI.kept.congr (fun a h1 h2 => RO a (by omega) (by omega) (by omega) (by omega) (by omega) (by omega) (by omega)) (RO 138 (by decide) (by decide) (by decide) (by decide) (by decide) (by decide) (by decide)) (RO 139 (by decide) (by decide) (by decide) (by decide) (by decide) (by decide) (by decide)) (RO 140 (by decide) (by decide) (by decide) (by decide) (by decide) (by decide) (by decide))) (hI.words.congr (RO 4 (by decide) (by decide) (by decide) (by decide) (by decide) (by decide) (by decide)) (RO 124 (by decide) (by decide) (by decide) (by decide) (by decide) (by decide) (by decide))) (hI.fresh.congr (RO 55 (by decide) (by decide) (by decide) (by decide) (by decide) (by decide) (by decide)) (RO 60 (by decide) (by decide) (by decide) (by decide) (by decide) (by decide) (by decide)) (RO 61 (by decide) (by decide) (by decide) (by decide) (by decide) (by decide) (by decide))) ?_
  · rw [(R 1 (by decide) (by decide) (by decide))]
    exact ⟨Int.le_refl 0, (by decide : (0 : Int) ≤ 940)⟩
  · rw [q118 2, (R 1 (by decide) (by decide) (by decide))]
    exact G3
  · rw [(RO 119 (by decide) (by decide) (by decide) (by decide) (by decide) (by decide) (by decide)), (RO 2 (by decide) (by decide) (by decide) (by decide) (by decide) (by decide) (by decide))]
    exact t3 j
  · show μ2 3 2 = μ2 118 15
    rw [q118 15, h15, (R 3 (by decide) (by decide) (by decide)), O 3 (by decide) (by decide)]
    exact h3
  · refine ⟨by omega, q2.trans a17.symm, fun i hi => ?_⟩
    rw [a17] at hi
    have hi3 : i < 30 := by omega
    have z := hP i (by omega)
    have v1 := q3 (1 + 4 * i) (by omega) (by omega)
    have v2 := q3 (2 + 4 * i) (by omega) (by omega)
    have v3 := q3 (3 + 4 * i) (by omega) (by omega)
    rw [show 536 + (1 + 4 * i) = 537 + 4 * i by omega] at v1
    rw [show 536 + (2 + 4 * i) = 538 + 4 * i by omega] at v2
    rw [show 536 + (3 + 4 * i) = 539 + 4 * i by omega] at v3
    rw [s6] at z
    rw [r18, r19, r20, fl_lt hi3, fl_lt hi3, fl_lt hi3, v1, v2, v3, e6]
    obtain ⟨y1, y2, y3, y4, y5, y6, y7⟩ := z
    refine ⟨y1, y2, y3, y4, fun y => ?_, y6, y7⟩
    have y8 := (y4 (by omega)).1.1
    rw [tmm10 y8, tdd10 y8]
    exact y5 y
  · unfold I_flag
    rw [e6]
    exact hI.flag
theorem po_pre {x : Nat → Nat → Int} {c s : Nat} {b : Nat → Int} {n : Nat} (hb : x 2 = b) (ht : ∀ j, b j = x 119 j % 256) (hn : n ≤ 940) (h2 : x 118 2 = (n : Int)) : ∃ ν, (MSt ν b n 400 0 ∧ ν 118 15 = 0 ∧ ν 118 41 = 0 ∧ ν 118 2 = 0 ∧ (∀ j, 22 ≤ j → ¬ j = 41 → ν 118 j = x 118 j) ∧ (∀ r, ¬ r = 118 → ν r = x r)) ∧ ∀ Q : MR → Prop, Rn PT none kX12_plan 14 [some (mR 118), none] [] (mkh ν c s) Q → Cl PT 266 [mR 118] (mkh x c s) Q := by
  obtain ⟨H, ⟨hm, hf⟩, hc⟩ := g_next (μ := pmst x) (c := c) (s := s) (b := b) (n := n) (m := 400) (p := 0) hb ht hn (Nat.zero_le _) h2 rfl rfl
  have g : ∀ j, ¬ j = 4 → ¬ j = 11 → ¬ j = 12 → ¬ j = 13 → ¬ j = 14 → ¬ j = 17 → H j = pmst x 118 j := hf
  refine ⟨m_upd (pmst x) 118 H, ⟨⟨hb, ht, hn, Nat.zero_le _, hm⟩, ?_, ?_, ?_, ?_, ?_⟩, fun Q K => pmr_go hc K⟩
  · exact (g 15 (by decide) (by decide) (by decide) (by decide) (by decide) (by decide)).trans rfl
  · exact (g 41 (by decide) (by decide) (by decide) (by decide) (by decide) (by decide)).trans rfl
  · exact (g 2 (by decide) (by decide) (by decide) (by decide) (by decide) (by decide)).trans rfl
  · intro j hj h41
    refine (g j (by omega) (by omega) (by omega) (by omega) (by omega) (by omega)).trans ?_
    exact (set_mis (by omega)).trans ((set_mis (by omega)).trans ((set_mis (by omega)).trans ((set_mis (by omega)).trans ((set_mis (by omega)).trans ((set_mis (by omega)).trans (set_mis (by omega)))))))
  · intro r h1
    rw [row_upd h1]
    show pmst x r = x r
    unfold pmst
    rw [row_set h1, row_set h1, row_set h1, row_set h1, row_set h1, row_set h1, row_set h1]
set_option maxHeartbeats 4000000 in
theorem pair_43 : (0 ≤ N ∧ N ≤ 511) → PairJ (Inv N) (Inv (N + 1)) 105 266 [] := by
  intro hN μ c s hI
  obtain ⟨t1, t2, t3⟩ := hI.tape
  obtain ⟨n, hn⟩ : ∃ n : Nat, μ 1 1 = (n : Int) := ⟨(μ 1 1).toNat, by omega⟩
  have hn9 : n ≤ 940 := by omega
  have cfr : ∀ r, ¬ r = 1 → ¬ r = 3 → ¬ r = 62 → plst μ r = μ r := fun r a1 a2 a3 => (row_set a1).trans ((row_set a1).trans ((row_set a3).trans (row_set a2)))
  have hC : CSt (plst μ) (μ 2) n 400 0 := ⟨rfl, hn9, Nat.zero_le _, hn, rfl, rfl⟩
  have hL := hI.land
  have key : ∀ x : Nat → Nat → Int, x 2 = μ 2 → x 119 = μ 119 → x 118 = μ 118 → x 124 = μ 124 → x 120 = μ 120 → x 123 = μ 123 → ∃ σ ν, (∀ r, ¬ r = 1 → ¬ r = 3 → (r < 62 ∨ 65 < r) → σ r = μ r) ∧ (∀ r, ¬ r = 118 → ¬ r = 122 → ν r = x r) ∧ (∀ j, 22 ≤ j → ¬ j = 41 → ν 118 j = μ 118 j) ∧ ν 118 2 = 0 ∧
      ((RelP σ ν 0 ∧ σ 3 2 = 0 ∧ ν 118 15 = 0 ∧ Rn PT none kX5_readPlan 12 [some (mR 3), some (mR 62), some (mR 6), some (mI 0)] [] (mkh (plst μ) c s) (fun r => r = (some (some (mI (σ 62 0))), mkh σ c s)) ∧ (∀ Q : MR → Prop, Rn PT none kX12_plan 36 [some (mR 118), none] [] (mkh ν c s) Q → Cl PT 266 [mR 118] (mkh x c s) Q)) ∨
       (∃ t : Nat, t ≤ 940 ∧ σ 3 2 = ν 118 15 ∧ Rn PT none kX5_readPlan 12 [some (mR 3), some (mR 62), some (mR 6), some (mI 0)] [] (mkh (plst μ) c s) (fun r => r = (some (some (mI (-1 - (t : Int)))), mkh σ c s)) ∧ Cl PT 266 [mR 118] (mkh x c s) (fun r => r = (some (some (mI (-1 - (t : Int)))), mkh ν c s)))) := by
    intro x x2 x119 x118 x124 x120 x123
    obtain ⟨ν0, ⟨mS, y15, y41, y2, yf, yr⟩, hgo⟩ := po_pre (x := x) (c := c) (s := s) (b := μ 2) (n := n) x2 (fun j => by rw [x119]; exact (t3 j).2) hn9 (by rw [x118]; exact t2.trans hn)
    have hPL : RelP (plst μ) ν0 0 := ⟨⟨⟨(by decide : (0 : Int) ≤ 0), (by decide : (0 : Int) + 0 ≤ 30)⟩, y41⟩, fun i hi => absurd (show (i : Int) < 0 + 0 from hi) (by omega)⟩
    obtain ⟨l1, l2, l3, l4, l5, l6, l7, l8, l9, l10, l11, l12, l13, l14, _⟩ := hL
    have e120 : ν0 120 = μ 120 := (yr 120 (by decide)).trans x120
    have e123 : ν0 123 = μ 123 := (yr 123 (by decide)).trans x123
    have hLD : RelD (plst μ) ν0 := by
      refine ⟨⟨l1, l2, l6, ?_, ?_, ?_⟩, fun j hj => ?_⟩
      · rw [e120]; exact l9
      · rw [e120]; exact l10
      · rw [e120]; exact l14
      · rw [e123, Nat.zero_add]; exact hI.names j hj
    obtain ⟨σ, ν, c1, f1, hz⟩ := po_loop (b := μ 2) (n := n) (m := 400) (c := c) (s := s) (n + 1) 0 (plst μ) ν0 0 (by omega) hC mS hPL hLD rfl hI.words ((yr 124 (by decide)).trans x124) rfl y15
    have cg : ∀ r, ¬ r = 1 → ¬ r = 3 → (r < 62 ∨ 65 < r) → σ r = μ r := fun r a1 a2 a3 => (c1 r a1 a2 a3).trans (cfr r a1 a2 (by omega))
    have g1 : ∀ r, ¬ r = 118 → ¬ r = 122 → ν r = x r := fun r a1 a2 => (f1.1 r a1 a2).trans (yr r a1)
    have g2 : ∀ j, 22 ≤ j → ¬ j = 41 → ν 118 j = μ 118 j := fun j hj h41 => (f1.2 j (.inl ⟨hj, h41⟩)).trans ((yf j hj h41).trans (by rw [x118]))
    have g3 : ν 118 2 = 0 := (f1.2 2 (.inr (by decide))).trans y2
    rcases hz with ⟨r1, r2, r3, r5, r6⟩ | ⟨t, r1, r2, r3, r4⟩
    · exact ⟨σ, ν, cg, g1, g2, g3, .inl ⟨r1, r2, r3, r5, fun Q K => hgo Q (r6 Q K)⟩⟩
    · exact ⟨σ, ν, cg, g1, g2, g3, .inr ⟨t, r1, r2, r3, hgo _ r4⟩⟩
  obtain ⟨z, σ, cg, hrun⟩ : ∃ z σ, (∀ r, ¬ r = 1 → ¬ r = 3 → (r < 62 ∨ 65 < r) → σ r = μ r) ∧ Rn PT none kX5_readPlan 12 [some (mR 3), some (mR 62), some (mR 6), some (mI 0)] [] (mkh (plst μ) c s) (fun r => r = (some (some (mI z)), mkh σ c s)) := by
    obtain ⟨σ, ν, cg, _, _, _, hz⟩ := key μ rfl rfl rfl rfl rfl rfl
    rcases hz with ⟨r1, r2, r3, r5, _⟩ | ⟨t, r1, r2, r3, _⟩
    · exact ⟨_, σ, cg, r5⟩
    · exact ⟨_, σ, cg, r3⟩
  have cgI : FrmC μ σ := ⟨fun r a1 a2 a3 => cg r a1 a2 (by omega), hI.fresh.congr (cg 55 (by decide) (by decide) (by decide)) (cg 60 (by decide) (by decide) (by decide)) (cg 61 (by decide) (by decide) (by decide))⟩
  by_cases hz : z < 0
  · obtain ⟨σ2, ν, cg2, g1, g2, g3, hcase⟩ := key (m_set σ 1 1 0) (cg 2 (by decide) (by decide) (by decide)) (cg 119 (by decide) (by decide) (by decide)) (cg 118 (by decide) (by decide) (by decide)) (cg 124 (by decide) (by decide) (by decide)) (cg 120 (by decide) (by decide) (by decide)) (cg 123 (by decide) (by decide) (by decide))
    rcases hcase with ⟨r1, r2, r3, r5, _⟩ | ⟨t, r1, r2, r3, r4⟩
    · exfalso
      have e := res_inj (Rn.det r5 hrun)
      have := r1.1.1.1
      omega
    · obtain ⟨ez, es⟩ := res_inj (Rn.det r3 hrun)
      subst es
      rw [ez] at r4
      have G : FrmM (m_set σ2 1 1 0) ν := ⟨fun r a1 _ a2 _ => g1 r a1 a2, fun j hj h41 => (g2 j hj h41).trans (by rw [row_set (by decide), cg 118 (by decide) (by decide) (by decide)]), g3, fun j _ => by rw [g1 123 (by decide) (by decide)]⟩
      exact ⟨z, _, ν, x_plan_bad hz (pkr_go hrun), r4, (bad_inv hI cgI G r2).le (by omega)⟩
  · have O : ∀ r, (r < 17 ∨ 20 < r) → ¬ r = 1 → pcp (m_set σ 1 1 0) 17 62 r = σ r := fun r a1 a2 => (pcp_o (by omega)).trans (row_set a2)
    obtain ⟨σ2, ν, cg2, g1, g2, g3, hcase⟩ := key (pcp (m_set σ 1 1 0) 17 62) ((O 2 (by decide) (by decide)).trans (cg 2 (by decide) (by decide) (by decide))) ((O 119 (by decide) (by decide)).trans (cg 119 (by decide) (by decide) (by decide))) ((O 118 (by decide) (by decide)).trans (cg 118 (by decide) (by decide) (by decide))) ((O 124 (by decide) (by decide)).trans (cg 124 (by decide) (by decide) (by decide))) ((O 120 (by decide) (by decide)).trans (cg 120 (by decide) (by decide) (by decide))) ((O 123 (by decide) (by decide)).trans (cg 123 (by decide) (by decide) (by decide)))
    rcases hcase with ⟨r1, r2, r3, r5, r6⟩ | ⟨t, r1, r2, r3, r4⟩
    · obtain ⟨ez, es⟩ := res_inj (Rn.det r5 hrun)
      subst es
      have r1b := r1.1
      obtain ⟨l9, hl⟩ : ∃ l9 : Nat, σ2 62 0 = (l9 : Int) := ⟨(σ2 62 0).toNat, by omega⟩
      obtain ⟨G, ⟨q1, q2⟩, hM⟩ := (r6 _ (pmr_36 (μ := ν) (c := c) (s := s) (l9 := l9) (by omega) (by omega))).ex (g := fun G => (some (some (mI (ν 118 41))), mkh (m_upd (m_set ν 122 0 (ν 118 41)) 120 G) c s))
      rw [r1b.2, ez] at hM
      refine ⟨z, _, m_upd (m_set ν 122 0 (ν 118 41)) 120 G, x_plan_ok hz (pkr_go hrun), by rw [r1b.2, ez]; exact hM, (pok_inv (N := N) (μ := μ) (σ := σ2) (ν := ν) (μ2 := m_upd (m_set ν 122 0 (ν 118 41)) 120 G) hI cg g1 g2 g3 r2 r3 r1 (fun _ => rfl) (fun r a1 a2 => (row_upd a1).trans (row_set a2)) q1 ?_ (fun j h1 h2 => ?_)).le (by omega)⟩
      · show G 536 = σ2 62 0
        rw [show (536 : Nat) = 536 + 0 from rfl, q2 0 (by omega)]
        exact r1b.2
      · show G (536 + j) = ν 122 j
        rw [q2 j (by omega)]
        exact set_mis (by omega)
    · exfalso
      have e := res_inj (Rn.det r3 hrun)
      omega
