variable {N : Int}
/-! ===== printed by wip/whole/gen9Q.py: cells ===== -/
theorem g_ccellX0 {μ : Nat → Nat → Int} {c s : Nat} {b : Nat → Int} {n m p : Nat} (hC0 : CSt μ b n m p) (c8 : 0 ≤ μ 54 8 ∧ μ 54 8 ≤ 10) (c9 : 0 ≤ μ 54 9 ∧ μ 54 9 ≤ 10) (e0 : ¬ eN b n m p 0 (μ 54 8 - 1) = 0) : ∃ A, (CTk b n m p A) ∧ Cl PT 48 [mR 3, mR 54] (mkh μ c s) (fun r => r = (some (some (mI (-1))), mkh (m_set (m_upd μ 1 A) 3 2 (eN b n m p 0 (μ 54 8 - 1))) c s)) := by
  refine Cl.ex (g := fun A => (some (some (mI (-1))), mkh (m_set (m_upd μ 1 A) 3 2 (eN b n m p 0 (μ 54 8 - 1))) c s)) ?_
  refine ⟨_, PT_48, Nat.le_of_ble_eq_true rfl, ?_⟩
  show Rn PT none kX5_readCell 0 [some (mR 3), some (mR 54), none] [] (mkh μ c s) _
  refine rn_aload_n (k' := 1) rfl rfl rfl ?_
  refine rn_iconst (k' := 2) rfl rfl ?_
  refine rn_aload_n (k' := 3) rfl rfl rfl ?_
  refine rn_getI (k' := 4) rfl rfl K0_54 (by decide) rfl ?_
  refine rn_iconst (k' := 5) rfl rfl ?_
  refine rn_isub (k' := 6) rfl rfl (by omega) ?_
  obtain ⟨A0, hA0, hc0⟩ := g_numX (μ := μ) (c := c) (s := s) (b := b) (n := n) (m := m) (p := p) (lo := 0) (hi := (μ 54 8) - 1) hC0 e0
  refine rn_callP (k' := 7) (y := 47) (vs := [mR 3, mI (0), mI ((μ 54 8) - 1)]) (S' := []) (v := some (mI (0))) (h' := mkh (m_set (m_upd μ 1 A0) 3 2 (eN b n m p (0) ((μ 54 8) - 1))) c s) rfl rfl rfl (hc0) ?_
  show Rn PT none kX5_readCell 7 [some (mR 3), some (mR 54), none] [mI (0)] (mkh (m_set (m_upd μ 1 A0) 3 2 (eN b n m p (0) ((μ 54 8) - 1))) c s) _
  refine rn_if_ne (k' := 8) rfl rfl (fun hc1 => ?_) (fun hc1 => ?_)
  · exfalso; omega
  · skip
    refine rn_iconst (k' := 9) rfl rfl ?_
    refine rn_iret rfl (Or.inl rfl) ?_
    refine ⟨A0, ?_, hA0⟩
    rfl
theorem g_ccellX1 {μ : Nat → Nat → Int} {c s : Nat} {b : Nat → Int} {n m p : Nat} (hC0 : CSt μ b n m p) (c8 : 0 ≤ μ 54 8 ∧ μ 54 8 ≤ 10) (c9 : 0 ≤ μ 54 9 ∧ μ 54 9 ≤ 10) (e0 : eN b n m p 0 (μ 54 8 - 1) = 0) (e1 : ¬ eN b n m (tkN b n m p) 0 (μ 54 9 - 1) = 0) : ∃ A, (CTk b n m (tkN b n m p) A) ∧ Cl PT 48 [mR 3, mR 54] (mkh μ c s) (fun r => r = (some (some (mI (-1))), mkh (m_set (m_upd μ 1 A) 3 2 (eN b n m (tkN b n m p) 0 (μ 54 9 - 1))) c s)) := by
  refine Cl.ex (g := fun A => (some (some (mI (-1))), mkh (m_set (m_upd μ 1 A) 3 2 (eN b n m (tkN b n m p) 0 (μ 54 9 - 1))) c s)) ?_
  refine ⟨_, PT_48, Nat.le_of_ble_eq_true rfl, ?_⟩
  show Rn PT none kX5_readCell 0 [some (mR 3), some (mR 54), none] [] (mkh μ c s) _
  refine rn_aload_n (k' := 1) rfl rfl rfl ?_
  refine rn_iconst (k' := 2) rfl rfl ?_
  refine rn_aload_n (k' := 3) rfl rfl rfl ?_
  refine rn_getI (k' := 4) rfl rfl K0_54 (by decide) rfl ?_
  refine rn_iconst (k' := 5) rfl rfl ?_
  refine rn_isub (k' := 6) rfl rfl (by omega) ?_
  obtain ⟨A0, hA0, hc0⟩ := g_num (μ := μ) (c := c) (s := s) (b := b) (n := n) (m := m) (p := p) (lo := 0) (hi := (μ 54 8) - 1) hC0 e0
  have hC1 : CSt (m_upd μ 1 A0) b n m (tkN b n m p) := ⟨hC0.1, hC0.2.1, (tkN_b hC0.2.2.1).2.1, hA0.1, hA0.2.1, hA0.2.2.1⟩
  have tn0 := tk_num (eN_ok e0).1
  have a60 := hA0.2.2.2.2.2
  refine rn_callP (k' := 7) (y := 47) (vs := [mR 3, mI (0), mI ((μ 54 8) - 1)]) (S' := []) (v := some (mI (1))) (h' := mkh (m_upd μ 1 A0) c s) rfl rfl rfl (hc0) ?_
  show Rn PT none kX5_readCell 7 [some (mR 3), some (mR 54), none] [mI (1)] (mkh (m_upd μ 1 A0) c s) _
  refine rn_if_ne (k' := 8) rfl rfl (fun hc1 => ?_) (fun hc1 => ?_)
  · skip
    refine rn_aload_n (k' := 11) rfl rfl rfl ?_
    refine rn_getR (k' := 12) rfl rfl K0_3 (by decide) rfl R0_3_0 ?_
    refine rn_getI (k' := 13) rfl rfl K0_1 (by decide) rfl ?_
    show Rn PT none kX5_readCell 13 [some (mR 3), some (mR 54), none] [mI (A0 6)] (mkh (m_upd μ 1 A0) c s) _
    refine rn_istore_n (k' := 14) (L' := [some (mR 3), some (mR 54), some (mI (A0 6))]) rfl rfl (Nat.le_of_ble_eq_true rfl) rfl ?_
    refine rn_aload_n (k' := 15) rfl rfl rfl ?_
    refine rn_iconst (k' := 16) rfl rfl ?_
    refine rn_aload_n (k' := 17) rfl rfl rfl ?_
    refine rn_getI (k' := 18) rfl rfl K0_54 (by decide) rfl ?_
    show Rn PT none kX5_readCell 18 [some (mR 3), some (mR 54), some (mI (A0 6))] [mI (μ 54 9), mI (0), mR 3] (mkh (m_upd μ 1 A0) c s) _
    refine rn_iconst (k' := 19) rfl rfl ?_
    refine rn_isub (k' := 20) rfl rfl (by omega) ?_
    obtain ⟨A1, hA1, hc1⟩ := g_numX (μ := (m_upd μ 1 A0)) (c := c) (s := s) (b := b) (n := n) (m := m) (p := (tkN b n m p)) (lo := 0) (hi := (μ 54 9) - 1) hC1 e1
    refine rn_callP (k' := 21) (y := 47) (vs := [mR 3, mI (0), mI ((μ 54 9) - 1)]) (S' := []) (v := some (mI (0))) (h' := mkh (m_set (m_upd (m_upd μ 1 A0) 1 A1) 3 2 (eN b n m (tkN b n m p) (0) ((μ 54 9) - 1))) c s) rfl rfl rfl (hc1) ?_
    show Rn PT none kX5_readCell 21 [some (mR 3), some (mR 54), some (mI (A0 6))] [mI (0)] (mkh (m_set (m_upd (m_upd μ 1 A0) 1 A1) 3 2 (eN b n m (tkN b n m p) (0) ((μ 54 9) - 1))) c s) _
    refine rn_if_eq (k' := 22) rfl rfl (fun hc2 => ?_) (fun hc2 => ?_)
    · skip
      refine rn_iconst (k' := 31) rfl rfl ?_
      refine rn_iret rfl (Or.inl rfl) ?_
      refine ⟨A1, ?_, hA1⟩
      rw [upd_upd]
    · exfalso; omega
  · exfalso; omega
theorem g_ccell {μ : Nat → Nat → Int} {c s : Nat} {b : Nat → Int} {n m p : Nat} (hC0 : CSt μ b n m p) (c8 : 0 ≤ μ 54 8 ∧ μ 54 8 ≤ 10) (c9 : 0 ≤ μ 54 9 ∧ μ 54 9 ≤ 10) (e0 : eN b n m p 0 (μ 54 8 - 1) = 0) (e1 : eN b n m (tkN b n m p) 0 (μ 54 9 - 1) = 0) : ∃ A, (CTk b n m (tkN b n m p) A) ∧ Cl PT 48 [mR 3, mR 54] (mkh μ c s) (fun r => r = (some (some (mI (10 * tkV b n m (tkN b n m p) + tkV b n m p))), mkh (m_upd μ 1 A) c s)) := by
  refine Cl.ex (g := fun A => (some (some (mI (10 * tkV b n m (tkN b n m p) + tkV b n m p))), mkh (m_upd μ 1 A) c s)) ?_
  refine ⟨_, PT_48, Nat.le_of_ble_eq_true rfl, ?_⟩
  show Rn PT none kX5_readCell 0 [some (mR 3), some (mR 54), none] [] (mkh μ c s) _
  refine rn_aload_n (k' := 1) rfl rfl rfl ?_
  refine rn_iconst (k' := 2) rfl rfl ?_
  refine rn_aload_n (k' := 3) rfl rfl rfl ?_
  refine rn_getI (k' := 4) rfl rfl K0_54 (by decide) rfl ?_
  refine rn_iconst (k' := 5) rfl rfl ?_
  refine rn_isub (k' := 6) rfl rfl (by omega) ?_
  obtain ⟨A0, hA0, hc0⟩ := g_num (μ := μ) (c := c) (s := s) (b := b) (n := n) (m := m) (p := p) (lo := 0) (hi := (μ 54 8) - 1) hC0 e0
  have hC1 : CSt (m_upd μ 1 A0) b n m (tkN b n m p) := ⟨hC0.1, hC0.2.1, (tkN_b hC0.2.2.1).2.1, hA0.1, hA0.2.1, hA0.2.2.1⟩
  have tn0 := tk_num (eN_ok e0).1
  have a60 := hA0.2.2.2.2.2
  refine rn_callP (k' := 7) (y := 47) (vs := [mR 3, mI (0), mI ((μ 54 8) - 1)]) (S' := []) (v := some (mI (1))) (h' := mkh (m_upd μ 1 A0) c s) rfl rfl rfl (hc0) ?_
  show Rn PT none kX5_readCell 7 [some (mR 3), some (mR 54), none] [mI (1)] (mkh (m_upd μ 1 A0) c s) _
  refine rn_if_ne (k' := 8) rfl rfl (fun hc1 => ?_) (fun hc1 => ?_)
  · skip
    refine rn_aload_n (k' := 11) rfl rfl rfl ?_
    refine rn_getR (k' := 12) rfl rfl K0_3 (by decide) rfl R0_3_0 ?_
    refine rn_getI (k' := 13) rfl rfl K0_1 (by decide) rfl ?_
    show Rn PT none kX5_readCell 13 [some (mR 3), some (mR 54), none] [mI (A0 6)] (mkh (m_upd μ 1 A0) c s) _
    refine rn_istore_n (k' := 14) (L' := [some (mR 3), some (mR 54), some (mI (A0 6))]) rfl rfl (Nat.le_of_ble_eq_true rfl) rfl ?_
    refine rn_aload_n (k' := 15) rfl rfl rfl ?_
    refine rn_iconst (k' := 16) rfl rfl ?_
    refine rn_aload_n (k' := 17) rfl rfl rfl ?_
    refine rn_getI (k' := 18) rfl rfl K0_54 (by decide) rfl ?_
    show Rn PT none kX5_readCell 18 [some (mR 3), some (mR 54), some (mI (A0 6))] [mI (μ 54 9), mI (0), mR 3] (mkh (m_upd μ 1 A0) c s) _
    refine rn_iconst (k' := 19) rfl rfl ?_
    refine rn_isub (k' := 20) rfl rfl (by omega) ?_
    obtain ⟨A1, hA1, hc1⟩ := g_num (μ := (m_upd μ 1 A0)) (c := c) (s := s) (b := b) (n := n) (m := m) (p := (tkN b n m p)) (lo := 0) (hi := (μ 54 9) - 1) hC1 e1
    have hC2 : CSt (m_upd (m_upd μ 1 A0) 1 A1) b n m (tkN b n m (tkN b n m p)) := ⟨hC1.1, hC1.2.1, (tkN_b hC1.2.2.1).2.1, hA1.1, hA1.2.1, hA1.2.2.1⟩
    have tn1 := tk_num (eN_ok e1).1
    have a61 := hA1.2.2.2.2.2
    refine rn_callP (k' := 21) (y := 47) (vs := [mR 3, mI (0), mI ((μ 54 9) - 1)]) (S' := []) (v := some (mI (1))) (h' := mkh (m_upd (m_upd μ 1 A0) 1 A1) c s) rfl rfl rfl (hc1) ?_
    show Rn PT none kX5_readCell 21 [some (mR 3), some (mR 54), some (mI (A0 6))] [mI (1)] (mkh (m_upd (m_upd μ 1 A0) 1 A1) c s) _
    refine rn_if_eq (k' := 22) rfl rfl (fun hc2 => ?_) (fun hc2 => ?_)
    · exfalso; omega
    · skip
      refine rn_bipush (k' := 23) rfl rfl ?_
      refine rn_aload_n (k' := 24) rfl rfl rfl ?_
      refine rn_getR (k' := 25) rfl rfl K0_3 (by decide) rfl R0_3_0 ?_
      refine rn_getI (k' := 26) rfl rfl K0_1 (by decide) rfl ?_
      show Rn PT none kX5_readCell 26 [some (mR 3), some (mR 54), some (mI (A0 6))] [mI (A1 6), mI (10)] (mkh (m_upd (m_upd μ 1 A0) 1 A1) c s) _
      refine rn_imul (k' := 27) rfl rfl (by omega) ?_
      refine rn_iload_n (k' := 28) rfl rfl rfl ?_
      refine rn_iadd (k' := 29) rfl rfl (by omega) ?_
      refine rn_goto rfl ?_
      refine rn_iret rfl (Or.inl rfl) ?_
      refine ⟨A1, ?_, hA1⟩
      rw [upd_upd, hA0.2.2.2.2.2, hA1.2.2.2.2.2]
  · exfalso; omega
theorem g_tcellX0 {μ : Nat → Nat → Int} {c s : Nat} {b : Nat → Int} {n m p : Nat} (hM0 : MSt μ b n m p) (c8 : 0 ≤ μ 121 0 ∧ μ 121 0 ≤ 10) (c9 : 0 ≤ μ 121 1 ∧ μ 121 1 ≤ 10) (e0 : ¬ eN b n m p 0 (μ 121 0 - 1) = 0) : ∃ H, (FRt H (μ 118)) ∧ Cl PT 187 [mR 118] (mkh μ c s) (fun r => r = (some (some (mI 0)), mkh (m_set (m_set (m_upd μ 118 H) 118 15 (eN b n m p 0 (μ 121 0 - 1))) 118 16 ((tkP b n m p : Nat) : Int)) c s)) := by
  refine Cl.ex (g := fun H => (some (some (mI 0)), mkh (m_set (m_set (m_upd μ 118 H) 118 15 (eN b n m p 0 (μ 121 0 - 1))) 118 16 ((tkP b n m p : Nat) : Int)) c s)) ?_
  refine ⟨_, PT_187, Nat.le_of_ble_eq_true rfl, ?_⟩
  show Rn PT none kX12_takesCell 0 [some (mR 118), none] [] (mkh μ c s) _
  refine rn_aload_n (k' := 1) rfl rfl rfl ?_
  refine rn_iconst (k' := 2) rfl rfl ?_
  refine rn_aload_n (k' := 3) rfl rfl rfl ?_
  refine rn_getR (k' := 4) rfl rfl K0_118 (by decide) rfl R0_118_7 ?_
  refine rn_iconst (k' := 5) rfl rfl ?_
  refine rn_iaload (k' := 6) rfl rfl K0_121 (by omega) (by omega) ?_
  show Rn PT none kX12_takesCell 6 [some (mR 118), none] [mI (μ 121 0), mI (0), mR 118] (mkh μ c s) _
  refine rn_iconst (k' := 7) rfl rfl ?_
  refine rn_isub (k' := 8) rfl rfl (by omega) ?_
  have hc0 := g_takesX (μ := μ) (c := c) (s := s) (b := b) (n := n) (m := m) (p := p) (lo := 0) (hi := (μ 121 0) - 1) hM0 e0
  refine rn_callP (k' := 9) (y := 181) (vs := [mR 118, mI (0), mI ((μ 121 0) - 1)]) (S' := []) (v := some (mI (0))) (h' := mkh (m_set (m_set μ 118 15 (eN b n m p (0) ((μ 121 0) - 1))) 118 16 (((tkP b n m p : Nat) : Int))) c s) rfl rfl rfl (hc0) ?_
  show Rn PT none kX12_takesCell 9 [some (mR 118), none] [mI (0)] (mkh (m_set (m_set μ 118 15 (eN b n m p (0) ((μ 121 0) - 1))) 118 16 (((tkP b n m p : Nat) : Int))) c s) _
  refine rn_if_ne (k' := 10) rfl rfl (fun hc1 => ?_) (fun hc1 => ?_)
  · exfalso; omega
  · skip
    refine rn_iconst (k' := 11) rfl rfl ?_
    refine rn_iret rfl (Or.inr (by omega)) ?_
    exact ⟨μ 118, by rw [upd_self], fun _ _ _ _ _ _ _ _ => rfl⟩
theorem g_tcellX1 {μ : Nat → Nat → Int} {c s : Nat} {b : Nat → Int} {n m p : Nat} (hM0 : MSt μ b n m p) (c8 : 0 ≤ μ 121 0 ∧ μ 121 0 ≤ 10) (c9 : 0 ≤ μ 121 1 ∧ μ 121 1 ≤ 10) (e0 : eN b n m p 0 (μ 121 0 - 1) = 0) (e1 : ¬ eN b n m (tkN b n m p) 0 (μ 121 1 - 1) = 0) : ∃ H, (FRt H (μ 118)) ∧ Cl PT 187 [mR 118] (mkh μ c s) (fun r => r = (some (some (mI 0)), mkh (m_set (m_set (m_upd μ 118 H) 118 15 (eN b n m (tkN b n m p) 0 (μ 121 1 - 1))) 118 16 ((tkP b n m (tkN b n m p) : Nat) : Int)) c s)) := by
  refine Cl.ex (g := fun H => (some (some (mI 0)), mkh (m_set (m_set (m_upd μ 118 H) 118 15 (eN b n m (tkN b n m p) 0 (μ 121 1 - 1))) 118 16 ((tkP b n m (tkN b n m p) : Nat) : Int)) c s)) ?_
  refine ⟨_, PT_187, Nat.le_of_ble_eq_true rfl, ?_⟩
  show Rn PT none kX12_takesCell 0 [some (mR 118), none] [] (mkh μ c s) _
  refine rn_aload_n (k' := 1) rfl rfl rfl ?_
  refine rn_iconst (k' := 2) rfl rfl ?_
  refine rn_aload_n (k' := 3) rfl rfl rfl ?_
  refine rn_getR (k' := 4) rfl rfl K0_118 (by decide) rfl R0_118_7 ?_
  refine rn_iconst (k' := 5) rfl rfl ?_
  refine rn_iaload (k' := 6) rfl rfl K0_121 (by omega) (by omega) ?_
  show Rn PT none kX12_takesCell 6 [some (mR 118), none] [mI (μ 121 0), mI (0), mR 118] (mkh μ c s) _
  refine rn_iconst (k' := 7) rfl rfl ?_
  refine rn_isub (k' := 8) rfl rfl (by omega) ?_
  obtain ⟨H0, ⟨hm0, hv0, hf0⟩, hc0⟩ := g_takes (μ := μ) (c := c) (s := s) (b := b) (n := n) (m := m) (p := p) (lo := 0) (hi := (μ 121 0) - 1) hM0 e0
  have hM1 : MSt (m_upd μ 118 H0) b n m (tkN b n m p) := ⟨hM0.1, hM0.2.1, hM0.2.2.1, (tkN_b hM0.2.2.2.1).2.1, hm0⟩
  have tn0 := tk_num (eN_ok e0).1
  refine rn_callP (k' := 9) (y := 181) (vs := [mR 118, mI (0), mI ((μ 121 0) - 1)]) (S' := []) (v := some (mI (1))) (h' := mkh (m_upd μ 118 H0) c s) rfl rfl rfl (hc0) ?_
  show Rn PT none kX12_takesCell 9 [some (mR 118), none] [mI (1)] (mkh (m_upd μ 118 H0) c s) _
  refine rn_if_ne (k' := 10) rfl rfl (fun hc1 => ?_) (fun hc1 => ?_)
  · skip
    refine rn_aload_n (k' := 13) rfl rfl rfl ?_
    refine rn_getI (k' := 14) rfl rfl K0_118 (by decide) rfl ?_
    show Rn PT none kX12_takesCell 14 [some (mR 118), none] [mI (H0 18)] (mkh (m_upd μ 118 H0) c s) _
    refine rn_istore_n (k' := 15) (L' := [some (mR 118), some (mI (H0 18))]) rfl rfl (Nat.le_of_ble_eq_true rfl) rfl ?_
    refine rn_aload_n (k' := 16) rfl rfl rfl ?_
    refine rn_iconst (k' := 17) rfl rfl ?_
    refine rn_aload_n (k' := 18) rfl rfl rfl ?_
    refine rn_getR (k' := 19) rfl rfl K0_118 (by decide) rfl R0_118_7 ?_
    refine rn_iconst (k' := 20) rfl rfl ?_
    refine rn_iaload (k' := 21) rfl rfl K0_121 (by omega) (by omega) ?_
    show Rn PT none kX12_takesCell 21 [some (mR 118), some (mI (H0 18))] [mI (μ 121 1), mI (0), mR 118] (mkh (m_upd μ 118 H0) c s) _
    refine rn_iconst (k' := 22) rfl rfl ?_
    refine rn_isub (k' := 23) rfl rfl (by omega) ?_
    have hc1 := g_takesX (μ := (m_upd μ 118 H0)) (c := c) (s := s) (b := b) (n := n) (m := m) (p := (tkN b n m p)) (lo := 0) (hi := (μ 121 1) - 1) hM1 e1
    refine rn_callP (k' := 24) (y := 181) (vs := [mR 118, mI (0), mI ((μ 121 1) - 1)]) (S' := []) (v := some (mI (0))) (h' := mkh (m_set (m_set (m_upd μ 118 H0) 118 15 (eN b n m (tkN b n m p) (0) ((μ 121 1) - 1))) 118 16 (((tkP b n m (tkN b n m p) : Nat) : Int))) c s) rfl rfl rfl (hc1) ?_
    show Rn PT none kX12_takesCell 24 [some (mR 118), some (mI (H0 18))] [mI (0)] (mkh (m_set (m_set (m_upd μ 118 H0) 118 15 (eN b n m (tkN b n m p) (0) ((μ 121 1) - 1))) 118 16 (((tkP b n m (tkN b n m p) : Nat) : Int))) c s) _
    refine rn_if_ne (k' := 25) rfl rfl (fun hc2 => ?_) (fun hc2 => ?_)
    · exfalso; omega
    · skip
      refine rn_iconst (k' := 26) rfl rfl ?_
      refine rn_iret rfl (Or.inr (by omega)) ?_
      exact ⟨H0, rfl, hf0⟩
  · exfalso; omega
theorem g_tcell {μ : Nat → Nat → Int} {c s : Nat} {b : Nat → Int} {n m p : Nat} (hM0 : MSt μ b n m p) (c8 : 0 ≤ μ 121 0 ∧ μ 121 0 ≤ 10) (c9 : 0 ≤ μ 121 1 ∧ μ 121 1 ≤ 10) (e0 : eN b n m p 0 (μ 121 0 - 1) = 0) (e1 : eN b n m (tkN b n m p) 0 (μ 121 1 - 1) = 0) : ∃ H, (MTk b n m (tkN b n m (tkN b n m p)) H ∧ H 18 = 10 * tkV b n m (tkN b n m p) + tkV b n m p ∧ FRt H (μ 118)) ∧ Cl PT 187 [mR 118] (mkh μ c s) (fun r => r = (some (some (mI 1)), mkh (m_upd μ 118 H) c s)) := by
  refine Cl.ex (g := fun H => (some (some (mI 1)), mkh (m_upd μ 118 H) c s)) ?_
  refine ⟨_, PT_187, Nat.le_of_ble_eq_true rfl, ?_⟩
  show Rn PT none kX12_takesCell 0 [some (mR 118), none] [] (mkh μ c s) _
  refine rn_aload_n (k' := 1) rfl rfl rfl ?_
  refine rn_iconst (k' := 2) rfl rfl ?_
  refine rn_aload_n (k' := 3) rfl rfl rfl ?_
  refine rn_getR (k' := 4) rfl rfl K0_118 (by decide) rfl R0_118_7 ?_
  refine rn_iconst (k' := 5) rfl rfl ?_
  refine rn_iaload (k' := 6) rfl rfl K0_121 (by omega) (by omega) ?_
  show Rn PT none kX12_takesCell 6 [some (mR 118), none] [mI (μ 121 0), mI (0), mR 118] (mkh μ c s) _
  refine rn_iconst (k' := 7) rfl rfl ?_
  refine rn_isub (k' := 8) rfl rfl (by omega) ?_
  obtain ⟨H0, ⟨hm0, hv0, hf0⟩, hc0⟩ := g_takes (μ := μ) (c := c) (s := s) (b := b) (n := n) (m := m) (p := p) (lo := 0) (hi := (μ 121 0) - 1) hM0 e0
  have hM1 : MSt (m_upd μ 118 H0) b n m (tkN b n m p) := ⟨hM0.1, hM0.2.1, hM0.2.2.1, (tkN_b hM0.2.2.2.1).2.1, hm0⟩
  have tn0 := tk_num (eN_ok e0).1
  refine rn_callP (k' := 9) (y := 181) (vs := [mR 118, mI (0), mI ((μ 121 0) - 1)]) (S' := []) (v := some (mI (1))) (h' := mkh (m_upd μ 118 H0) c s) rfl rfl rfl (hc0) ?_
  show Rn PT none kX12_takesCell 9 [some (mR 118), none] [mI (1)] (mkh (m_upd μ 118 H0) c s) _
  refine rn_if_ne (k' := 10) rfl rfl (fun hc1 => ?_) (fun hc1 => ?_)
  · skip
    refine rn_aload_n (k' := 13) rfl rfl rfl ?_
    refine rn_getI (k' := 14) rfl rfl K0_118 (by decide) rfl ?_
    show Rn PT none kX12_takesCell 14 [some (mR 118), none] [mI (H0 18)] (mkh (m_upd μ 118 H0) c s) _
    refine rn_istore_n (k' := 15) (L' := [some (mR 118), some (mI (H0 18))]) rfl rfl (Nat.le_of_ble_eq_true rfl) rfl ?_
    refine rn_aload_n (k' := 16) rfl rfl rfl ?_
    refine rn_iconst (k' := 17) rfl rfl ?_
    refine rn_aload_n (k' := 18) rfl rfl rfl ?_
    refine rn_getR (k' := 19) rfl rfl K0_118 (by decide) rfl R0_118_7 ?_
    refine rn_iconst (k' := 20) rfl rfl ?_
    refine rn_iaload (k' := 21) rfl rfl K0_121 (by omega) (by omega) ?_
    show Rn PT none kX12_takesCell 21 [some (mR 118), some (mI (H0 18))] [mI (μ 121 1), mI (0), mR 118] (mkh (m_upd μ 118 H0) c s) _
    refine rn_iconst (k' := 22) rfl rfl ?_
    refine rn_isub (k' := 23) rfl rfl (by omega) ?_
    obtain ⟨H1, ⟨hm1, hv1, hf1⟩, hc1⟩ := g_takes (μ := (m_upd μ 118 H0)) (c := c) (s := s) (b := b) (n := n) (m := m) (p := (tkN b n m p)) (lo := 0) (hi := (μ 121 1) - 1) hM1 e1
    have hM2 : MSt (m_upd (m_upd μ 118 H0) 118 H1) b n m (tkN b n m (tkN b n m p)) := ⟨hM1.1, hM1.2.1, hM1.2.2.1, (tkN_b hM1.2.2.2.1).2.1, hm1⟩
    have tn1 := tk_num (eN_ok e1).1
    refine rn_callP (k' := 24) (y := 181) (vs := [mR 118, mI (0), mI ((μ 121 1) - 1)]) (S' := []) (v := some (mI (1))) (h' := mkh (m_upd (m_upd μ 118 H0) 118 H1) c s) rfl rfl rfl (hc1) ?_
    show Rn PT none kX12_takesCell 24 [some (mR 118), some (mI (H0 18))] [mI (1)] (mkh (m_upd (m_upd μ 118 H0) 118 H1) c s) _
    refine rn_if_ne (k' := 25) rfl rfl (fun hc2 => ?_) (fun hc2 => ?_)
    · skip
      refine rn_aload_n (k' := 28) rfl rfl rfl ?_
      refine rn_bipush (k' := 29) rfl rfl ?_
      refine rn_aload_n (k' := 30) rfl rfl rfl ?_
      refine rn_getI (k' := 31) rfl rfl K0_118 (by decide) rfl ?_
      show Rn PT none kX12_takesCell 31 [some (mR 118), some (mI (H0 18))] [mI (H1 18), mI (10), mR 118] (mkh (m_upd (m_upd μ 118 H0) 118 H1) c s) _
      refine rn_imul (k' := 32) rfl rfl (by omega) ?_
      refine rn_iload_n (k' := 33) rfl rfl rfl ?_
      refine rn_iadd (k' := 34) rfl rfl (by omega) ?_
      refine rn_putI (k' := 35) rfl rfl K0_118 (by decide) rfl ?_
      refine rn_iconst (k' := 36) rfl rfl ?_
      refine rn_iret rfl (Or.inr (by omega)) ?_
      refine ⟨fs H1 18 (10 * H1 18 + H0 18), by rw [set_upd_eq, upd_upd], hm1, ?_, ?_⟩
      · show 10 * H1 18 + H0 18 = _; rw [hv1, hv0]
      · intro j j1 j2 j3 j4 j5 j6 j7
        refine Eq.trans (b := H1 j) ?_ ((hf1 j j1 j2 j3 j4 j5 j6 j7).trans (hf0 j j1 j2 j3 j4 j5 j6 j7))
        simp [fs, j7]
    · exfalso; omega
  · exfalso; omega
