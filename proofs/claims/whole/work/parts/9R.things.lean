variable {N : Int}
/-! ===== printed by wip/whole/gen9R.py: wolf and thing lines by the class ===== -/
set_option maxHeartbeats 1000000 in
theorem k_wolf_x0 {μ : Nat → Nat → Int} {c s : Nat} {b : Nat → Int} {n m p : Nat} (c8 : 0 ≤ μ 54 8 ∧ μ 54 8 ≤ 10) (c9 : 0 ≤ μ 54 9 ∧ μ 54 9 ≤ 10) (hC0 : CSt μ b n m p) (e0 : ¬ eN b n m p 0 (μ 54 8 - 1) = 0) (h14 : μ 54 14 = -1) : ∃ μ', (μ' 3 2 = eN b n m p 0 (μ 54 8 - 1) ∧ μ' 1 4 = ((tkP b n m p : Nat) : Int) ∧ CF μ μ') ∧ Cl PT 58 [mR 3, mR 54] (mkh μ c s) (fun r => r = (some (some (mI 0)), mkh μ' c s)) := by
  refine Cl.ex (g := fun μ' => (some (some (mI 0)), mkh μ' c s)) ?_
  refine ⟨_, PT_58, Nat.le_of_ble_eq_true rfl, ?_⟩
  show Rn PT none kX5_readWolf 0 [some (mR 3), some (mR 54), none] [] (mkh μ c s) _
  refine rn_aload_n (k' := 1) rfl rfl rfl ?_
  refine rn_getI (k' := 2) rfl rfl K0_54 (by decide) rfl ?_
  refine rn_iconst (k' := 3) rfl rfl ?_
  refine rn_icmp_eq (k' := 4) rfl rfl (fun hc1 => ?_) (fun hc1 => ?_)
  · skip
    refine rn_aload_n (k' := 9) rfl rfl rfl ?_
    refine rn_aload_n (k' := 10) rfl rfl rfl ?_
    obtain ⟨A0, hA0, hc0⟩ := g_ccellX0 (μ := μ) (c := c) (s := s) (b := b) (n := n) (m := m) (p := p) hC0 c8 c9 e0
    refine rn_callP (k' := 11) (y := 48) (vs := [mR 3, mR 54]) (S' := []) (v := some (mI (-1))) (h' := mkh (m_set (m_upd μ 1 A0) 3 2 (eN b n m p 0 (μ 54 8 - 1))) c s) rfl rfl rfl (hc0) ?_
    show Rn PT none kX5_readWolf 11 [some (mR 3), some (mR 54), none] [mI (-1)] (mkh (m_set (m_upd μ 1 A0) 3 2 (eN b n m p 0 (μ 54 8 - 1))) c s) _
    refine rn_istore_n (k' := 12) (L' := [some (mR 3), some (mR 54), some (mI (-1))]) rfl rfl (Nat.le_of_ble_eq_true rfl) rfl ?_
    refine rn_iload_n (k' := 13) rfl rfl rfl ?_
    refine rn_iconst (k' := 14) rfl rfl ?_
    refine rn_icmp_eq (k' := 15) rfl rfl (fun hc2 => ?_) (fun hc2 => ?_)
    · skip
      refine rn_iconst (k' := 21) rfl rfl ?_
      refine rn_iret rfl (Or.inr (by omega)) ?_
      exact ⟨_, rfl, rfl, hA0.2.2.2.1, (CF.s (CF.u CF.r (by decide)) (by decide))⟩
    · exfalso; omega
  · exfalso; omega
set_option maxHeartbeats 1000000 in
theorem k_wolf_x1 {μ : Nat → Nat → Int} {c s : Nat} {b : Nat → Int} {n m p : Nat} (c8 : 0 ≤ μ 54 8 ∧ μ 54 8 ≤ 10) (c9 : 0 ≤ μ 54 9 ∧ μ 54 9 ≤ 10) (hC0 : CSt μ b n m p) (e0 : eN b n m p 0 (μ 54 8 - 1) = 0) (e1 : ¬ eN b n m (tkN b n m p) 0 (μ 54 9 - 1) = 0) (h14 : μ 54 14 = -1) : ∃ μ', (μ' 3 2 = eN b n m (tkN b n m p) 0 (μ 54 9 - 1) ∧ μ' 1 4 = ((tkP b n m (tkN b n m p) : Nat) : Int) ∧ CF μ μ') ∧ Cl PT 58 [mR 3, mR 54] (mkh μ c s) (fun r => r = (some (some (mI 0)), mkh μ' c s)) := by
  refine Cl.ex (g := fun μ' => (some (some (mI 0)), mkh μ' c s)) ?_
  refine ⟨_, PT_58, Nat.le_of_ble_eq_true rfl, ?_⟩
  show Rn PT none kX5_readWolf 0 [some (mR 3), some (mR 54), none] [] (mkh μ c s) _
  refine rn_aload_n (k' := 1) rfl rfl rfl ?_
  refine rn_getI (k' := 2) rfl rfl K0_54 (by decide) rfl ?_
  refine rn_iconst (k' := 3) rfl rfl ?_
  refine rn_icmp_eq (k' := 4) rfl rfl (fun hc1 => ?_) (fun hc1 => ?_)
  · skip
    refine rn_aload_n (k' := 9) rfl rfl rfl ?_
    refine rn_aload_n (k' := 10) rfl rfl rfl ?_
    obtain ⟨A1, hA1, hc1⟩ := g_ccellX1 (μ := μ) (c := c) (s := s) (b := b) (n := n) (m := m) (p := p) hC0 c8 c9 e0 e1
    refine rn_callP (k' := 11) (y := 48) (vs := [mR 3, mR 54]) (S' := []) (v := some (mI (-1))) (h' := mkh (m_set (m_upd μ 1 A1) 3 2 (eN b n m (tkN b n m p) 0 (μ 54 9 - 1))) c s) rfl rfl rfl (hc1) ?_
    show Rn PT none kX5_readWolf 11 [some (mR 3), some (mR 54), none] [mI (-1)] (mkh (m_set (m_upd μ 1 A1) 3 2 (eN b n m (tkN b n m p) 0 (μ 54 9 - 1))) c s) _
    refine rn_istore_n (k' := 12) (L' := [some (mR 3), some (mR 54), some (mI (-1))]) rfl rfl (Nat.le_of_ble_eq_true rfl) rfl ?_
    refine rn_iload_n (k' := 13) rfl rfl rfl ?_
    refine rn_iconst (k' := 14) rfl rfl ?_
    refine rn_icmp_eq (k' := 15) rfl rfl (fun hc2 => ?_) (fun hc2 => ?_)
    · skip
      refine rn_iconst (k' := 21) rfl rfl ?_
      refine rn_iret rfl (Or.inr (by omega)) ?_
      exact ⟨_, rfl, rfl, hA1.2.2.2.1, (CF.s (CF.u CF.r (by decide)) (by decide))⟩
    · exfalso; omega
  · exfalso; omega
set_option maxHeartbeats 1000000 in
theorem k_wolf_x2 {μ : Nat → Nat → Int} {c s : Nat} {b : Nat → Int} {n m p : Nat} (c8 : 0 ≤ μ 54 8 ∧ μ 54 8 ≤ 10) (c9 : 0 ≤ μ 54 9 ∧ μ 54 9 ≤ 10) (hC0 : CSt μ b n m p) (e0 : eN b n m p 0 (μ 54 8 - 1) = 0) (e1 : eN b n m (tkN b n m p) 0 (μ 54 9 - 1) = 0) (e2 : ¬ eN b n m (tkN b n m (tkN b n m p)) 0 99 = 0) (h14 : μ 54 14 = -1) : ∃ μ', (μ' 3 2 = eN b n m (tkN b n m (tkN b n m p)) 0 99 ∧ μ' 1 4 = ((tkP b n m (tkN b n m (tkN b n m p)) : Nat) : Int) ∧ CF μ μ') ∧ Cl PT 58 [mR 3, mR 54] (mkh μ c s) (fun r => r = (some (some (mI 0)), mkh μ' c s)) := by
  refine Cl.ex (g := fun μ' => (some (some (mI 0)), mkh μ' c s)) ?_
  refine ⟨_, PT_58, Nat.le_of_ble_eq_true rfl, ?_⟩
  show Rn PT none kX5_readWolf 0 [some (mR 3), some (mR 54), none] [] (mkh μ c s) _
  refine rn_aload_n (k' := 1) rfl rfl rfl ?_
  refine rn_getI (k' := 2) rfl rfl K0_54 (by decide) rfl ?_
  refine rn_iconst (k' := 3) rfl rfl ?_
  refine rn_icmp_eq (k' := 4) rfl rfl (fun hc1 => ?_) (fun hc1 => ?_)
  · skip
    refine rn_aload_n (k' := 9) rfl rfl rfl ?_
    refine rn_aload_n (k' := 10) rfl rfl rfl ?_
    obtain ⟨A1, hA1, hc1⟩ := g_ccell (μ := μ) (c := c) (s := s) (b := b) (n := n) (m := m) (p := p) hC0 c8 c9 e0 e1
    have hC2 : CSt (m_upd μ 1 A1) b n m (tkN b n m (tkN b n m p)) := ⟨hC0.1, hC0.2.1, (tkN_b (tkN_b hC0.2.2.1).2.1).2.1, hA1.1, hA1.2.1, hA1.2.2.1⟩
    have ty0 := eN_ok e0
    have ty1 := eN_ok e1
    refine rn_callP (k' := 11) (y := 48) (vs := [mR 3, mR 54]) (S' := []) (v := some (mI (10 * tkV b n m (tkN b n m p) + tkV b n m p))) (h' := mkh (m_upd μ 1 A1) c s) rfl rfl rfl (hc1) ?_
    show Rn PT none kX5_readWolf 11 [some (mR 3), some (mR 54), none] [mI (10 * tkV b n m (tkN b n m p) + tkV b n m p)] (mkh (m_upd μ 1 A1) c s) _
    refine rn_istore_n (k' := 12) (L' := [some (mR 3), some (mR 54), some (mI (10 * tkV b n m (tkN b n m p) + tkV b n m p))]) rfl rfl (Nat.le_of_ble_eq_true rfl) rfl ?_
    refine rn_iload_n (k' := 13) rfl rfl rfl ?_
    refine rn_iconst (k' := 14) rfl rfl ?_
    refine rn_icmp_eq (k' := 15) rfl rfl (fun hc2 => ?_) (fun hc2 => ?_)
    · exfalso; omega
    · skip
      refine rn_aload_n (k' := 16) rfl rfl rfl ?_
      refine rn_iconst (k' := 17) rfl rfl ?_
      refine rn_bipush (k' := 18) rfl rfl ?_
      obtain ⟨A2, hA2, hc2⟩ := g_numX (μ := (m_upd μ 1 A1)) (c := c) (s := s) (b := b) (n := n) (m := m) (p := (tkN b n m (tkN b n m p))) (lo := 0) (hi := 99) hC2 e2
      refine rn_callP (k' := 19) (y := 47) (vs := [mR 3, mI (0), mI (99)]) (S' := []) (v := some (mI (0))) (h' := mkh (m_set (m_upd (m_upd μ 1 A1) 1 A2) 3 2 (eN b n m (tkN b n m (tkN b n m p)) (0) (99))) c s) rfl rfl rfl (hc2) ?_
      show Rn PT none kX5_readWolf 19 [some (mR 3), some (mR 54), some (mI (10 * tkV b n m (tkN b n m p) + tkV b n m p))] [mI (0)] (mkh (m_set (m_upd (m_upd μ 1 A1) 1 A2) 3 2 (eN b n m (tkN b n m (tkN b n m p)) (0) (99))) c s) _
      refine rn_if_ne (k' := 20) rfl rfl (fun hc3 => ?_) (fun hc3 => ?_)
      · exfalso; omega
      · skip
        refine rn_iconst (k' := 21) rfl rfl ?_
        refine rn_iret rfl (Or.inr (by omega)) ?_
        exact ⟨_, rfl, rfl, hA2.2.2.2.1, (CF.s (CF.u (CF.u CF.r (by decide)) (by decide)) (by decide))⟩
  · exfalso; omega
set_option maxHeartbeats 1000000 in
theorem k_wolf_x3 {μ : Nat → Nat → Int} {c s : Nat} {b : Nat → Int} {n m p : Nat} (c8 : 0 ≤ μ 54 8 ∧ μ 54 8 ≤ 10) (c9 : 0 ≤ μ 54 9 ∧ μ 54 9 ≤ 10) (hC0 : CSt μ b n m p) (e0 : eN b n m p 0 (μ 54 8 - 1) = 0) (e1 : eN b n m (tkN b n m p) 0 (μ 54 9 - 1) = 0) (e2 : eN b n m (tkN b n m (tkN b n m p)) 0 99 = 0) (e3 : ¬ tkK b n m (tkN b n m (tkN b n m (tkN b n m p))) = 3) (h14 : μ 54 14 = -1) : ∃ μ', (μ' 3 2 = 1 ∧ μ' 1 4 = ((tkP b n m (tkN b n m (tkN b n m (tkN b n m p))) : Nat) : Int) ∧ CF μ μ') ∧ Cl PT 58 [mR 3, mR 54] (mkh μ c s) (fun r => r = (some (some (mI 0)), mkh μ' c s)) := by
  refine Cl.ex (g := fun μ' => (some (some (mI 0)), mkh μ' c s)) ?_
  refine ⟨_, PT_58, Nat.le_of_ble_eq_true rfl, ?_⟩
  show Rn PT none kX5_readWolf 0 [some (mR 3), some (mR 54), none] [] (mkh μ c s) _
  refine rn_aload_n (k' := 1) rfl rfl rfl ?_
  refine rn_getI (k' := 2) rfl rfl K0_54 (by decide) rfl ?_
  refine rn_iconst (k' := 3) rfl rfl ?_
  refine rn_icmp_eq (k' := 4) rfl rfl (fun hc1 => ?_) (fun hc1 => ?_)
  · skip
    refine rn_aload_n (k' := 9) rfl rfl rfl ?_
    refine rn_aload_n (k' := 10) rfl rfl rfl ?_
    obtain ⟨A1, hA1, hc1⟩ := g_ccell (μ := μ) (c := c) (s := s) (b := b) (n := n) (m := m) (p := p) hC0 c8 c9 e0 e1
    have hC2 : CSt (m_upd μ 1 A1) b n m (tkN b n m (tkN b n m p)) := ⟨hC0.1, hC0.2.1, (tkN_b (tkN_b hC0.2.2.1).2.1).2.1, hA1.1, hA1.2.1, hA1.2.2.1⟩
    have ty0 := eN_ok e0
    have ty1 := eN_ok e1
    refine rn_callP (k' := 11) (y := 48) (vs := [mR 3, mR 54]) (S' := []) (v := some (mI (10 * tkV b n m (tkN b n m p) + tkV b n m p))) (h' := mkh (m_upd μ 1 A1) c s) rfl rfl rfl (hc1) ?_
    show Rn PT none kX5_readWolf 11 [some (mR 3), some (mR 54), none] [mI (10 * tkV b n m (tkN b n m p) + tkV b n m p)] (mkh (m_upd μ 1 A1) c s) _
    refine rn_istore_n (k' := 12) (L' := [some (mR 3), some (mR 54), some (mI (10 * tkV b n m (tkN b n m p) + tkV b n m p))]) rfl rfl (Nat.le_of_ble_eq_true rfl) rfl ?_
    refine rn_iload_n (k' := 13) rfl rfl rfl ?_
    refine rn_iconst (k' := 14) rfl rfl ?_
    refine rn_icmp_eq (k' := 15) rfl rfl (fun hc2 => ?_) (fun hc2 => ?_)
    · exfalso; omega
    · skip
      refine rn_aload_n (k' := 16) rfl rfl rfl ?_
      refine rn_iconst (k' := 17) rfl rfl ?_
      refine rn_bipush (k' := 18) rfl rfl ?_
      obtain ⟨A2, hA2, hc2⟩ := g_num (μ := (m_upd μ 1 A1)) (c := c) (s := s) (b := b) (n := n) (m := m) (p := (tkN b n m (tkN b n m p))) (lo := 0) (hi := 99) hC2 e2
      have hC3 : CSt (m_upd (m_upd μ 1 A1) 1 A2) b n m (tkN b n m (tkN b n m (tkN b n m p))) := ⟨hC2.1, hC2.2.1, (tkN_b hC2.2.2.1).2.1, hA2.1, hA2.2.1, hA2.2.2.1⟩
      refine rn_callP (k' := 19) (y := 47) (vs := [mR 3, mI (0), mI (99)]) (S' := []) (v := some (mI (1))) (h' := mkh (m_upd (m_upd μ 1 A1) 1 A2) c s) rfl rfl rfl (hc2) ?_
      show Rn PT none kX5_readWolf 19 [some (mR 3), some (mR 54), some (mI (10 * tkV b n m (tkN b n m p) + tkV b n m p))] [mI (1)] (mkh (m_upd (m_upd μ 1 A1) 1 A2) c s) _
      refine rn_if_ne (k' := 20) rfl rfl (fun hc3 => ?_) (fun hc3 => ?_)
      · skip
        refine rn_aload_n (k' := 23) rfl rfl rfl ?_
        refine rn_iload_n (k' := 24) rfl rfl rfl ?_
        refine rn_putI (k' := 25) rfl rfl K0_54 (by decide) rfl ?_
        refine rn_aload_n (k' := 26) rfl rfl rfl ?_
        refine rn_aload_n (k' := 27) rfl rfl rfl ?_
        refine rn_getR (k' := 28) rfl rfl K0_3 (by decide) rfl R0_3_0 ?_
        refine rn_getI (k' := 29) rfl rfl K0_1 (by decide) rfl ?_
        show Rn PT none kX5_readWolf 29 [some (mR 3), some (mR 54), some (mI (10 * tkV b n m (tkN b n m p) + tkV b n m p))] [mI (A2 6), mR 54] (mkh (m_set (m_upd (m_upd μ 1 A1) 1 A2) 54 14 (10 * tkV b n m (tkN b n m p) + tkV b n m p)) c s) _
        refine rn_putI (k' := 30) rfl rfl K0_54 (by decide) rfl ?_
        refine rn_aload_n (k' := 31) rfl rfl rfl ?_
        obtain ⟨A3, hA3, hc3⟩ := g_endX (μ := (m_set (m_set (m_upd (m_upd μ 1 A1) 1 A2) 54 14 (10 * tkV b n m (tkN b n m p) + tkV b n m p)) 54 15 (A2 6))) (c := c) (s := s) (b := b) (n := n) (m := m) (p := (tkN b n m (tkN b n m (tkN b n m p)))) hC3 e3
        refine rn_callP (k' := 32) (y := 50) (vs := [mR 3]) (S' := []) (v := some (mI (0))) (h' := mkh (m_set (m_upd (m_set (m_set (m_upd (m_upd μ 1 A1) 1 A2) 54 14 (10 * tkV b n m (tkN b n m p) + tkV b n m p)) 54 15 (A2 6)) 1 A3) 3 2 (1)) c s) rfl rfl rfl (hc3) ?_
        show Rn PT none kX5_readWolf 32 [some (mR 3), some (mR 54), some (mI (10 * tkV b n m (tkN b n m p) + tkV b n m p))] [mI (0)] (mkh (m_set (m_upd (m_set (m_set (m_upd (m_upd μ 1 A1) 1 A2) 54 14 (10 * tkV b n m (tkN b n m p) + tkV b n m p)) 54 15 (A2 6)) 1 A3) 3 2 (1)) c s) _
        refine rn_iret rfl (Or.inr (by omega)) ?_
        exact ⟨_, rfl, rfl, hA3.2.2.2.1, (CF.s (CF.u (CF.s (CF.s (CF.u (CF.u CF.r (by decide)) (by decide)) (by decide)) (by decide)) (by decide)) (by decide))⟩
      · exfalso; omega
  · exfalso; omega
set_option maxHeartbeats 1000000 in
theorem k_wolf_had {μ : Nat → Nat → Int} {c s : Nat} {b : Nat → Int} {n m p : Nat} (c8 : 0 ≤ μ 54 8 ∧ μ 54 8 ≤ 10) (c9 : 0 ≤ μ 54 9 ∧ μ 54 9 ≤ 10) (hC0 : CSt μ b n m p) (h14 : ¬ μ 54 14 = -1) : ∃ μ', (μ' 3 2 = 3 ∧ μ' 1 4 = μ 1 4 ∧ CF μ μ') ∧ Cl PT 58 [mR 3, mR 54] (mkh μ c s) (fun r => r = (some (some (mI 0)), mkh μ' c s)) := by
  refine Cl.ex (g := fun μ' => (some (some (mI 0)), mkh μ' c s)) ?_
  refine ⟨_, PT_58, Nat.le_of_ble_eq_true rfl, ?_⟩
  show Rn PT none kX5_readWolf 0 [some (mR 3), some (mR 54), none] [] (mkh μ c s) _
  refine rn_aload_n (k' := 1) rfl rfl rfl ?_
  refine rn_getI (k' := 2) rfl rfl K0_54 (by decide) rfl ?_
  refine rn_iconst (k' := 3) rfl rfl ?_
  refine rn_icmp_eq (k' := 4) rfl rfl (fun hc1 => ?_) (fun hc1 => ?_)
  · exfalso; omega
  · skip
    refine rn_aload_n (k' := 5) rfl rfl rfl ?_
    refine rn_iconst (k' := 6) rfl rfl ?_
    refine rn_callP (k' := 7) (y := 45) (vs := [mR 3, mI (3)]) (S' := []) (v := some (mI (0))) (h' := mkh (m_set μ 3 2 (3)) c s) rfl rfl rfl (g_fail (μ := μ) (e := 3)) ?_
    show Rn PT none kX5_readWolf 7 [some (mR 3), some (mR 54), none] [mI (0)] (mkh (m_set μ 3 2 (3)) c s) _
    refine rn_iret rfl (Or.inr (by omega)) ?_
    exact ⟨_, rfl, rfl, rfl, (CF.s CF.r (by decide))⟩
set_option maxHeartbeats 1000000 in
theorem k_wolf_ok {μ : Nat → Nat → Int} {c s : Nat} {b : Nat → Int} {n m p : Nat} (c8 : 0 ≤ μ 54 8 ∧ μ 54 8 ≤ 10) (c9 : 0 ≤ μ 54 9 ∧ μ 54 9 ≤ 10) (hC0 : CSt μ b n m p) (e0 : eN b n m p 0 (μ 54 8 - 1) = 0) (e1 : eN b n m (tkN b n m p) 0 (μ 54 9 - 1) = 0) (e2 : eN b n m (tkN b n m (tkN b n m p)) 0 99 = 0) (e3 : tkK b n m (tkN b n m (tkN b n m (tkN b n m p))) = 3) (h14 : μ 54 14 = -1) : ∃ μ', (CSt μ' b n m (tkN b n m (tkN b n m (tkN b n m (tkN b n m p)))) ∧ CFo μ μ' ∧ μ' 54 14 = 10 * tkV b n m (tkN b n m p) + tkV b n m p ∧ μ' 54 15 = tkV b n m (tkN b n m (tkN b n m p)) ∧ (∀ j, ¬ j = 14 → ¬ j = 15 → μ' 54 j = μ 54 j) ∧ μ' 55 = μ 55 ∧ μ' 56 = μ 56 ∧ μ' 57 = μ 57 ∧ μ' 58 = μ 58 ∧ μ' 59 = μ 59 ∧ μ' 60 = μ 60 ∧ μ' 61 = μ 61) ∧ Cl PT 58 [mR 3, mR 54] (mkh μ c s) (fun r => r = (some (some (mI 1)), mkh μ' c s)) := by
  refine Cl.ex (g := fun μ' => (some (some (mI 1)), mkh μ' c s)) ?_
  refine ⟨_, PT_58, Nat.le_of_ble_eq_true rfl, ?_⟩
  show Rn PT none kX5_readWolf 0 [some (mR 3), some (mR 54), none] [] (mkh μ c s) _
  refine rn_aload_n (k' := 1) rfl rfl rfl ?_
  refine rn_getI (k' := 2) rfl rfl K0_54 (by decide) rfl ?_
  refine rn_iconst (k' := 3) rfl rfl ?_
  refine rn_icmp_eq (k' := 4) rfl rfl (fun hc1 => ?_) (fun hc1 => ?_)
  · skip
    refine rn_aload_n (k' := 9) rfl rfl rfl ?_
    refine rn_aload_n (k' := 10) rfl rfl rfl ?_
    obtain ⟨A1, hA1, hc1⟩ := g_ccell (μ := μ) (c := c) (s := s) (b := b) (n := n) (m := m) (p := p) hC0 c8 c9 e0 e1
    have hC2 : CSt (m_upd μ 1 A1) b n m (tkN b n m (tkN b n m p)) := ⟨hC0.1, hC0.2.1, (tkN_b (tkN_b hC0.2.2.1).2.1).2.1, hA1.1, hA1.2.1, hA1.2.2.1⟩
    have ty0 := eN_ok e0
    have ty1 := eN_ok e1
    refine rn_callP (k' := 11) (y := 48) (vs := [mR 3, mR 54]) (S' := []) (v := some (mI (10 * tkV b n m (tkN b n m p) + tkV b n m p))) (h' := mkh (m_upd μ 1 A1) c s) rfl rfl rfl (hc1) ?_
    show Rn PT none kX5_readWolf 11 [some (mR 3), some (mR 54), none] [mI (10 * tkV b n m (tkN b n m p) + tkV b n m p)] (mkh (m_upd μ 1 A1) c s) _
    refine rn_istore_n (k' := 12) (L' := [some (mR 3), some (mR 54), some (mI (10 * tkV b n m (tkN b n m p) + tkV b n m p))]) rfl rfl (Nat.le_of_ble_eq_true rfl) rfl ?_
    refine rn_iload_n (k' := 13) rfl rfl rfl ?_
    refine rn_iconst (k' := 14) rfl rfl ?_
    refine rn_icmp_eq (k' := 15) rfl rfl (fun hc2 => ?_) (fun hc2 => ?_)
    · exfalso; omega
    · skip
      refine rn_aload_n (k' := 16) rfl rfl rfl ?_
      refine rn_iconst (k' := 17) rfl rfl ?_
      refine rn_bipush (k' := 18) rfl rfl ?_
      obtain ⟨A2, hA2, hc2⟩ := g_num (μ := (m_upd μ 1 A1)) (c := c) (s := s) (b := b) (n := n) (m := m) (p := (tkN b n m (tkN b n m p))) (lo := 0) (hi := 99) hC2 e2
      have hC3 : CSt (m_upd (m_upd μ 1 A1) 1 A2) b n m (tkN b n m (tkN b n m (tkN b n m p))) := ⟨hC2.1, hC2.2.1, (tkN_b hC2.2.2.1).2.1, hA2.1, hA2.2.1, hA2.2.2.1⟩
      refine rn_callP (k' := 19) (y := 47) (vs := [mR 3, mI (0), mI (99)]) (S' := []) (v := some (mI (1))) (h' := mkh (m_upd (m_upd μ 1 A1) 1 A2) c s) rfl rfl rfl (hc2) ?_
      show Rn PT none kX5_readWolf 19 [some (mR 3), some (mR 54), some (mI (10 * tkV b n m (tkN b n m p) + tkV b n m p))] [mI (1)] (mkh (m_upd (m_upd μ 1 A1) 1 A2) c s) _
      refine rn_if_ne (k' := 20) rfl rfl (fun hc3 => ?_) (fun hc3 => ?_)
      · skip
        refine rn_aload_n (k' := 23) rfl rfl rfl ?_
        refine rn_iload_n (k' := 24) rfl rfl rfl ?_
        refine rn_putI (k' := 25) rfl rfl K0_54 (by decide) rfl ?_
        refine rn_aload_n (k' := 26) rfl rfl rfl ?_
        refine rn_aload_n (k' := 27) rfl rfl rfl ?_
        refine rn_getR (k' := 28) rfl rfl K0_3 (by decide) rfl R0_3_0 ?_
        refine rn_getI (k' := 29) rfl rfl K0_1 (by decide) rfl ?_
        show Rn PT none kX5_readWolf 29 [some (mR 3), some (mR 54), some (mI (10 * tkV b n m (tkN b n m p) + tkV b n m p))] [mI (A2 6), mR 54] (mkh (m_set (m_upd (m_upd μ 1 A1) 1 A2) 54 14 (10 * tkV b n m (tkN b n m p) + tkV b n m p)) c s) _
        refine rn_putI (k' := 30) rfl rfl K0_54 (by decide) rfl ?_
        refine rn_aload_n (k' := 31) rfl rfl rfl ?_
        obtain ⟨A3, hA3, hc3⟩ := g_end (μ := (m_set (m_set (m_upd (m_upd μ 1 A1) 1 A2) 54 14 (10 * tkV b n m (tkN b n m p) + tkV b n m p)) 54 15 (A2 6))) (c := c) (s := s) (b := b) (n := n) (m := m) (p := (tkN b n m (tkN b n m (tkN b n m p)))) hC3 e3
        have hC4 : CSt (m_upd (m_set (m_set (m_upd (m_upd μ 1 A1) 1 A2) 54 14 (10 * tkV b n m (tkN b n m p) + tkV b n m p)) 54 15 (A2 6)) 1 A3) b n m (tkN b n m (tkN b n m (tkN b n m (tkN b n m p)))) := ⟨hC3.1, hC3.2.1, (tkN_b hC3.2.2.1).2.1, hA3.1, hA3.2.1, hA3.2.2.1⟩
        refine rn_callP (k' := 32) (y := 50) (vs := [mR 3]) (S' := []) (v := some (mI (1))) (h' := mkh (m_upd (m_set (m_set (m_upd (m_upd μ 1 A1) 1 A2) 54 14 (10 * tkV b n m (tkN b n m p) + tkV b n m p)) 54 15 (A2 6)) 1 A3) c s) rfl rfl rfl (hc3) ?_
        show Rn PT none kX5_readWolf 32 [some (mR 3), some (mR 54), some (mI (10 * tkV b n m (tkN b n m p) + tkV b n m p))] [mI (1)] (mkh (m_upd (m_set (m_set (m_upd (m_upd μ 1 A1) 1 A2) 54 14 (10 * tkV b n m (tkN b n m p) + tkV b n m p)) 54 15 (A2 6)) 1 A3) c s) _
        refine rn_iret rfl (Or.inr (by omega)) ?_
        exact ⟨_, rfl, hC4, ⟨(CF.u (CF.s (CF.s (CF.u (CF.u CF.r (by decide)) (by decide)) (by decide)) (by decide)) (by decide)), rfl⟩, ⟨rfl, hA2.2.2.2.2.2, (fun j h14 h15 => by simp [m_set, m_upd, h14, h15]), rfl, rfl, rfl, rfl, rfl, rfl, rfl⟩⟩
      · exfalso; omega
  · exfalso; omega
set_option maxHeartbeats 1000000 in
theorem k_thing0_x0 {μ : Nat → Nat → Int} {c s : Nat} {b : Nat → Int} {n m p : Nat} (c8 : 0 ≤ μ 54 8 ∧ μ 54 8 ≤ 10) (c9 : 0 ≤ μ 54 9 ∧ μ 54 9 ≤ 10) (c57 : 0 ≤ μ 57 0) (hC0 : CSt μ b n m p) (e0 : ¬ eN b n m p 0 (μ 54 8 - 1) = 0) (hf12 : ¬ 12 ≤ μ 57 0) : ∃ μ', (μ' 3 2 = eN b n m p 0 (μ 54 8 - 1) ∧ μ' 1 4 = ((tkP b n m p : Nat) : Int) ∧ CF μ μ') ∧ Cl PT 56 [mR 3, mR 54, mI (0)] (mkh μ c s) (fun r => r = (some (some (mI 0)), mkh μ' c s)) := by
  refine Cl.ex (g := fun μ' => (some (some (mI 0)), mkh μ' c s)) ?_
  refine ⟨_, PT_56, Nat.le_of_ble_eq_true rfl, ?_⟩
  show Rn PT none kX5_readThing 0 [some (mR 3), some (mR 54), some (mI (0)), none, none] [] (mkh μ c s) _
  refine rn_aload_n (k' := 1) rfl rfl rfl ?_
  refine rn_getR (k' := 2) rfl rfl K0_54 (by decide) rfl R0_54_2 ?_
  refine rn_iload_n (k' := 3) rfl rfl rfl ?_
  refine rn_iaload (k' := 4) rfl rfl K0_57 (by omega) (by omega) ?_
  show Rn PT none kX5_readThing 4 [some (mR 3), some (mR 54), some (mI (0)), none, none] [mI (μ 57 0)] (mkh μ c s) _
  refine rn_bipush (k' := 5) rfl rfl ?_
  refine rn_icmp_lt (k' := 6) rfl rfl (fun hc1 => ?_) (fun hc1 => ?_)
  · skip
    refine rn_aload_n (k' := 11) rfl rfl rfl ?_
    refine rn_aload_n (k' := 12) rfl rfl rfl ?_
    obtain ⟨A0, hA0, hc0⟩ := g_ccellX0 (μ := μ) (c := c) (s := s) (b := b) (n := n) (m := m) (p := p) hC0 c8 c9 e0
    refine rn_callP (k' := 13) (y := 48) (vs := [mR 3, mR 54]) (S' := []) (v := some (mI (-1))) (h' := mkh (m_set (m_upd μ 1 A0) 3 2 (eN b n m p 0 (μ 54 8 - 1))) c s) rfl rfl rfl (hc0) ?_
    show Rn PT none kX5_readThing 13 [some (mR 3), some (mR 54), some (mI (0)), none, none] [mI (-1)] (mkh (m_set (m_upd μ 1 A0) 3 2 (eN b n m p 0 (μ 54 8 - 1))) c s) _
    refine rn_istore_n (k' := 14) (L' := [some (mR 3), some (mR 54), some (mI (0)), some (mI (-1)), none]) rfl rfl (Nat.le_of_ble_eq_true rfl) rfl ?_
    refine rn_iload_n (k' := 15) rfl rfl rfl ?_
    refine rn_iconst (k' := 16) rfl rfl ?_
    refine rn_icmp_ne (k' := 17) rfl rfl (fun hc2 => ?_) (fun hc2 => ?_)
    · exfalso; omega
    · skip
      refine rn_iconst (k' := 18) rfl rfl ?_
      refine rn_iret rfl (Or.inr (by omega)) ?_
      exact ⟨_, rfl, rfl, hA0.2.2.2.1, (CF.s (CF.u CF.r (by decide)) (by decide))⟩
  · exfalso; omega
set_option maxHeartbeats 1000000 in
theorem k_thing0_x1 {μ : Nat → Nat → Int} {c s : Nat} {b : Nat → Int} {n m p : Nat} (c8 : 0 ≤ μ 54 8 ∧ μ 54 8 ≤ 10) (c9 : 0 ≤ μ 54 9 ∧ μ 54 9 ≤ 10) (c57 : 0 ≤ μ 57 0) (hC0 : CSt μ b n m p) (e0 : eN b n m p 0 (μ 54 8 - 1) = 0) (e1 : ¬ eN b n m (tkN b n m p) 0 (μ 54 9 - 1) = 0) (hf12 : ¬ 12 ≤ μ 57 0) : ∃ μ', (μ' 3 2 = eN b n m (tkN b n m p) 0 (μ 54 9 - 1) ∧ μ' 1 4 = ((tkP b n m (tkN b n m p) : Nat) : Int) ∧ CF μ μ') ∧ Cl PT 56 [mR 3, mR 54, mI (0)] (mkh μ c s) (fun r => r = (some (some (mI 0)), mkh μ' c s)) := by
  refine Cl.ex (g := fun μ' => (some (some (mI 0)), mkh μ' c s)) ?_
  refine ⟨_, PT_56, Nat.le_of_ble_eq_true rfl, ?_⟩
  show Rn PT none kX5_readThing 0 [some (mR 3), some (mR 54), some (mI (0)), none, none] [] (mkh μ c s) _
  refine rn_aload_n (k' := 1) rfl rfl rfl ?_
  refine rn_getR (k' := 2) rfl rfl K0_54 (by decide) rfl R0_54_2 ?_
  refine rn_iload_n (k' := 3) rfl rfl rfl ?_
  refine rn_iaload (k' := 4) rfl rfl K0_57 (by omega) (by omega) ?_
  show Rn PT none kX5_readThing 4 [some (mR 3), some (mR 54), some (mI (0)), none, none] [mI (μ 57 0)] (mkh μ c s) _
  refine rn_bipush (k' := 5) rfl rfl ?_
  refine rn_icmp_lt (k' := 6) rfl rfl (fun hc1 => ?_) (fun hc1 => ?_)
  · skip
    refine rn_aload_n (k' := 11) rfl rfl rfl ?_
    refine rn_aload_n (k' := 12) rfl rfl rfl ?_
    obtain ⟨A1, hA1, hc1⟩ := g_ccellX1 (μ := μ) (c := c) (s := s) (b := b) (n := n) (m := m) (p := p) hC0 c8 c9 e0 e1
    refine rn_callP (k' := 13) (y := 48) (vs := [mR 3, mR 54]) (S' := []) (v := some (mI (-1))) (h' := mkh (m_set (m_upd μ 1 A1) 3 2 (eN b n m (tkN b n m p) 0 (μ 54 9 - 1))) c s) rfl rfl rfl (hc1) ?_
    show Rn PT none kX5_readThing 13 [some (mR 3), some (mR 54), some (mI (0)), none, none] [mI (-1)] (mkh (m_set (m_upd μ 1 A1) 3 2 (eN b n m (tkN b n m p) 0 (μ 54 9 - 1))) c s) _
    refine rn_istore_n (k' := 14) (L' := [some (mR 3), some (mR 54), some (mI (0)), some (mI (-1)), none]) rfl rfl (Nat.le_of_ble_eq_true rfl) rfl ?_
    refine rn_iload_n (k' := 15) rfl rfl rfl ?_
    refine rn_iconst (k' := 16) rfl rfl ?_
    refine rn_icmp_ne (k' := 17) rfl rfl (fun hc2 => ?_) (fun hc2 => ?_)
    · exfalso; omega
    · skip
      refine rn_iconst (k' := 18) rfl rfl ?_
      refine rn_iret rfl (Or.inr (by omega)) ?_
      exact ⟨_, rfl, rfl, hA1.2.2.2.1, (CF.s (CF.u CF.r (by decide)) (by decide))⟩
  · exfalso; omega
set_option maxHeartbeats 1000000 in
theorem k_thing0_x2 {μ : Nat → Nat → Int} {c s : Nat} {b : Nat → Int} {n m p : Nat} (c8 : 0 ≤ μ 54 8 ∧ μ 54 8 ≤ 10) (c9 : 0 ≤ μ 54 9 ∧ μ 54 9 ≤ 10) (c57 : 0 ≤ μ 57 0) (hC0 : CSt μ b n m p) (e0 : eN b n m p 0 (μ 54 8 - 1) = 0) (e1 : eN b n m (tkN b n m p) 0 (μ 54 9 - 1) = 0) (e2 : ¬ eN b n m (tkN b n m (tkN b n m p)) 0 99 = 0) (hf12 : ¬ 12 ≤ μ 57 0) {j0 : Nat} (hj : 10 * tkV b n m (tkN b n m p) + tkV b n m p = (j0 : Int)) (hd : μ 56 (0 + j0) = -1) : ∃ μ', (μ' 3 2 = eN b n m (tkN b n m (tkN b n m p)) 0 99 ∧ μ' 1 4 = ((tkP b n m (tkN b n m (tkN b n m p)) : Nat) : Int) ∧ CF μ μ') ∧ Cl PT 56 [mR 3, mR 54, mI (0)] (mkh μ c s) (fun r => r = (some (some (mI 0)), mkh μ' c s)) := by
  refine Cl.ex (g := fun μ' => (some (some (mI 0)), mkh μ' c s)) ?_
  refine ⟨_, PT_56, Nat.le_of_ble_eq_true rfl, ?_⟩
  show Rn PT none kX5_readThing 0 [some (mR 3), some (mR 54), some (mI (0)), none, none] [] (mkh μ c s) _
  refine rn_aload_n (k' := 1) rfl rfl rfl ?_
  refine rn_getR (k' := 2) rfl rfl K0_54 (by decide) rfl R0_54_2 ?_
  refine rn_iload_n (k' := 3) rfl rfl rfl ?_
  refine rn_iaload (k' := 4) rfl rfl K0_57 (by omega) (by omega) ?_
  show Rn PT none kX5_readThing 4 [some (mR 3), some (mR 54), some (mI (0)), none, none] [mI (μ 57 0)] (mkh μ c s) _
  refine rn_bipush (k' := 5) rfl rfl ?_
  refine rn_icmp_lt (k' := 6) rfl rfl (fun hc1 => ?_) (fun hc1 => ?_)
  · skip
    refine rn_aload_n (k' := 11) rfl rfl rfl ?_
    refine rn_aload_n (k' := 12) rfl rfl rfl ?_
    obtain ⟨A1, hA1, hc1⟩ := g_ccell (μ := μ) (c := c) (s := s) (b := b) (n := n) (m := m) (p := p) hC0 c8 c9 e0 e1
    have hC2 : CSt (m_upd μ 1 A1) b n m (tkN b n m (tkN b n m p)) := ⟨hC0.1, hC0.2.1, (tkN_b (tkN_b hC0.2.2.1).2.1).2.1, hA1.1, hA1.2.1, hA1.2.2.1⟩
    have ty0 := eN_ok e0
    have ty1 := eN_ok e1
    have hi0 : (0 * 100 + (10 * tkV b n m (tkN b n m p) + tkV b n m p)).toNat = 0 + j0 := by omega
    have hr0 : μ 56 (0 * 100 + (10 * tkV b n m (tkN b n m p) + tkV b n m p)).toNat = μ 56 (0 + j0) := by rw [hi0]
    refine rn_callP (k' := 13) (y := 48) (vs := [mR 3, mR 54]) (S' := []) (v := some (mI (10 * tkV b n m (tkN b n m p) + tkV b n m p))) (h' := mkh (m_upd μ 1 A1) c s) rfl rfl rfl (hc1) ?_
    show Rn PT none kX5_readThing 13 [some (mR 3), some (mR 54), some (mI (0)), none, none] [mI (10 * tkV b n m (tkN b n m p) + tkV b n m p)] (mkh (m_upd μ 1 A1) c s) _
    refine rn_istore_n (k' := 14) (L' := [some (mR 3), some (mR 54), some (mI (0)), some (mI (10 * tkV b n m (tkN b n m p) + tkV b n m p)), none]) rfl rfl (Nat.le_of_ble_eq_true rfl) rfl ?_
    refine rn_iload_n (k' := 15) rfl rfl rfl ?_
    refine rn_iconst (k' := 16) rfl rfl ?_
    refine rn_icmp_ne (k' := 17) rfl rfl (fun hc2 => ?_) (fun hc2 => ?_)
    · skip
      refine rn_iload_n (k' := 20) rfl rfl rfl ?_
      refine rn_bipush (k' := 21) rfl rfl ?_
      refine rn_imul (k' := 22) rfl rfl (by omega) ?_
      refine rn_iload_n (k' := 23) rfl rfl rfl ?_
      refine rn_iadd (k' := 24) rfl rfl (by omega) ?_
      refine rn_istore (k' := 25) (L' := [some (mR 3), some (mR 54), some (mI (0)), some (mI (10 * tkV b n m (tkN b n m p) + tkV b n m p)), some (mI ((0 * 100) + (10 * tkV b n m (tkN b n m p) + tkV b n m p)))]) rfl rfl (Nat.le_of_ble_eq_true rfl) rfl ?_
      refine rn_aload_n (k' := 26) rfl rfl rfl ?_
      refine rn_getR (k' := 27) rfl rfl K0_54 (by decide) rfl R0_54_1 ?_
      refine rn_iload (k' := 28) rfl rfl rfl ?_
      refine rn_iaload (k' := 29) rfl rfl K0_56 (by omega) (by omega) ?_
      show Rn PT none kX5_readThing 29 [some (mR 3), some (mR 54), some (mI (0)), some (mI (10 * tkV b n m (tkN b n m p) + tkV b n m p)), some (mI ((0 * 100) + (10 * tkV b n m (tkN b n m p) + tkV b n m p)))] [mI (μ 56 (((0 * 100) + (10 * tkV b n m (tkN b n m p) + tkV b n m p)).toNat))] (mkh (m_upd μ 1 A1) c s) _
      rw [hr0]
      refine rn_iconst (k' := 30) rfl rfl ?_
      refine rn_icmp_eq (k' := 31) rfl rfl (fun hc3 => ?_) (fun hc3 => ?_)
      · skip
        refine rn_iload_n (k' := 36) rfl rfl rfl ?_
        refine rn_iconst (k' := 37) rfl rfl ?_
        refine rn_icmp_eq (k' := 38) rfl rfl (fun hc4 => ?_) (fun hc4 => ?_)
        · exfalso; omega
        · skip
          refine rn_aload_n (k' := 39) rfl rfl rfl ?_
          refine rn_iconst (k' := 40) rfl rfl ?_
          refine rn_bipush (k' := 41) rfl rfl ?_
          obtain ⟨A2, hA2, hc2⟩ := g_numX (μ := (m_upd μ 1 A1)) (c := c) (s := s) (b := b) (n := n) (m := m) (p := (tkN b n m (tkN b n m p))) (lo := 0) (hi := 99) hC2 e2
          refine rn_callP (k' := 42) (y := 47) (vs := [mR 3, mI (0), mI (99)]) (S' := []) (v := some (mI (0))) (h' := mkh (m_set (m_upd (m_upd μ 1 A1) 1 A2) 3 2 (eN b n m (tkN b n m (tkN b n m p)) (0) (99))) c s) rfl rfl rfl (hc2) ?_
          show Rn PT none kX5_readThing 42 [some (mR 3), some (mR 54), some (mI (0)), some (mI (10 * tkV b n m (tkN b n m p) + tkV b n m p)), some (mI ((0 * 100) + (10 * tkV b n m (tkN b n m p) + tkV b n m p)))] [mI (0)] (mkh (m_set (m_upd (m_upd μ 1 A1) 1 A2) 3 2 (eN b n m (tkN b n m (tkN b n m p)) (0) (99))) c s) _
          refine rn_if_ne (k' := 43) rfl rfl (fun hc5 => ?_) (fun hc5 => ?_)
          · exfalso; omega
          · skip
            refine rn_iconst (k' := 44) rfl rfl ?_
            refine rn_iret rfl (Or.inr (by omega)) ?_
            exact ⟨_, rfl, rfl, hA2.2.2.2.1, (CF.s (CF.u (CF.u CF.r (by decide)) (by decide)) (by decide))⟩
      · exfalso; omega
    · exfalso; omega
  · exfalso; omega
set_option maxHeartbeats 1000000 in
theorem k_thing0_x3 {μ : Nat → Nat → Int} {c s : Nat} {b : Nat → Int} {n m p : Nat} (c8 : 0 ≤ μ 54 8 ∧ μ 54 8 ≤ 10) (c9 : 0 ≤ μ 54 9 ∧ μ 54 9 ≤ 10) (c57 : 0 ≤ μ 57 0) (hC0 : CSt μ b n m p) (e0 : eN b n m p 0 (μ 54 8 - 1) = 0) (e1 : eN b n m (tkN b n m p) 0 (μ 54 9 - 1) = 0) (e2 : eN b n m (tkN b n m (tkN b n m p)) 0 99 = 0) (e3 : ¬ tkK b n m (tkN b n m (tkN b n m (tkN b n m p))) = 3) (hf12 : ¬ 12 ≤ μ 57 0) {j0 : Nat} (hj : 10 * tkV b n m (tkN b n m p) + tkV b n m p = (j0 : Int)) (hd : μ 56 (0 + j0) = -1) : ∃ μ', (μ' 3 2 = 1 ∧ μ' 1 4 = ((tkP b n m (tkN b n m (tkN b n m (tkN b n m p))) : Nat) : Int) ∧ CF μ μ') ∧ Cl PT 56 [mR 3, mR 54, mI (0)] (mkh μ c s) (fun r => r = (some (some (mI 0)), mkh μ' c s)) := by
  refine Cl.ex (g := fun μ' => (some (some (mI 0)), mkh μ' c s)) ?_
  refine ⟨_, PT_56, Nat.le_of_ble_eq_true rfl, ?_⟩
  show Rn PT none kX5_readThing 0 [some (mR 3), some (mR 54), some (mI (0)), none, none] [] (mkh μ c s) _
  refine rn_aload_n (k' := 1) rfl rfl rfl ?_
  refine rn_getR (k' := 2) rfl rfl K0_54 (by decide) rfl R0_54_2 ?_
  refine rn_iload_n (k' := 3) rfl rfl rfl ?_
  refine rn_iaload (k' := 4) rfl rfl K0_57 (by omega) (by omega) ?_
  show Rn PT none kX5_readThing 4 [some (mR 3), some (mR 54), some (mI (0)), none, none] [mI (μ 57 0)] (mkh μ c s) _
  refine rn_bipush (k' := 5) rfl rfl ?_
  refine rn_icmp_lt (k' := 6) rfl rfl (fun hc1 => ?_) (fun hc1 => ?_)
  · skip
    refine rn_aload_n (k' := 11) rfl rfl rfl ?_
    refine rn_aload_n (k' := 12) rfl rfl rfl ?_
    obtain ⟨A1, hA1, hc1⟩ := g_ccell (μ := μ) (c := c) (s := s) (b := b) (n := n) (m := m) (p := p) hC0 c8 c9 e0 e1
    have hC2 : CSt (m_upd μ 1 A1) b n m (tkN b n m (tkN b n m p)) := ⟨hC0.1, hC0.2.1, (tkN_b (tkN_b hC0.2.2.1).2.1).2.1, hA1.1, hA1.2.1, hA1.2.2.1⟩
    have ty0 := eN_ok e0
    have ty1 := eN_ok e1
    have hi0 : (0 * 100 + (10 * tkV b n m (tkN b n m p) + tkV b n m p)).toNat = 0 + j0 := by omega
    have hr0 : μ 56 (0 * 100 + (10 * tkV b n m (tkN b n m p) + tkV b n m p)).toNat = μ 56 (0 + j0) := by rw [hi0]
    refine rn_callP (k' := 13) (y := 48) (vs := [mR 3, mR 54]) (S' := []) (v := some (mI (10 * tkV b n m (tkN b n m p) + tkV b n m p))) (h' := mkh (m_upd μ 1 A1) c s) rfl rfl rfl (hc1) ?_
    show Rn PT none kX5_readThing 13 [some (mR 3), some (mR 54), some (mI (0)), none, none] [mI (10 * tkV b n m (tkN b n m p) + tkV b n m p)] (mkh (m_upd μ 1 A1) c s) _
    refine rn_istore_n (k' := 14) (L' := [some (mR 3), some (mR 54), some (mI (0)), some (mI (10 * tkV b n m (tkN b n m p) + tkV b n m p)), none]) rfl rfl (Nat.le_of_ble_eq_true rfl) rfl ?_
    refine rn_iload_n (k' := 15) rfl rfl rfl ?_
    refine rn_iconst (k' := 16) rfl rfl ?_
    refine rn_icmp_ne (k' := 17) rfl rfl (fun hc2 => ?_) (fun hc2 => ?_)
    · skip
      refine rn_iload_n (k' := 20) rfl rfl rfl ?_
      refine rn_bipush (k' := 21) rfl rfl ?_
      refine rn_imul (k' := 22) rfl rfl (by omega) ?_
      refine rn_iload_n (k' := 23) rfl rfl rfl ?_
      refine rn_iadd (k' := 24) rfl rfl (by omega) ?_
      refine rn_istore (k' := 25) (L' := [some (mR 3), some (mR 54), some (mI (0)), some (mI (10 * tkV b n m (tkN b n m p) + tkV b n m p)), some (mI ((0 * 100) + (10 * tkV b n m (tkN b n m p) + tkV b n m p)))]) rfl rfl (Nat.le_of_ble_eq_true rfl) rfl ?_
      refine rn_aload_n (k' := 26) rfl rfl rfl ?_
      refine rn_getR (k' := 27) rfl rfl K0_54 (by decide) rfl R0_54_1 ?_
      refine rn_iload (k' := 28) rfl rfl rfl ?_
      refine rn_iaload (k' := 29) rfl rfl K0_56 (by omega) (by omega) ?_
      show Rn PT none kX5_readThing 29 [some (mR 3), some (mR 54), some (mI (0)), some (mI (10 * tkV b n m (tkN b n m p) + tkV b n m p)), some (mI ((0 * 100) + (10 * tkV b n m (tkN b n m p) + tkV b n m p)))] [mI (μ 56 (((0 * 100) + (10 * tkV b n m (tkN b n m p) + tkV b n m p)).toNat))] (mkh (m_upd μ 1 A1) c s) _
      rw [hr0]
      refine rn_iconst (k' := 30) rfl rfl ?_
      refine rn_icmp_eq (k' := 31) rfl rfl (fun hc3 => ?_) (fun hc3 => ?_)
      · skip
        refine rn_iload_n (k' := 36) rfl rfl rfl ?_
        refine rn_iconst (k' := 37) rfl rfl ?_
        refine rn_icmp_eq (k' := 38) rfl rfl (fun hc4 => ?_) (fun hc4 => ?_)
        · exfalso; omega
        · skip
          refine rn_aload_n (k' := 39) rfl rfl rfl ?_
          refine rn_iconst (k' := 40) rfl rfl ?_
          refine rn_bipush (k' := 41) rfl rfl ?_
          obtain ⟨A2, hA2, hc2⟩ := g_num (μ := (m_upd μ 1 A1)) (c := c) (s := s) (b := b) (n := n) (m := m) (p := (tkN b n m (tkN b n m p))) (lo := 0) (hi := 99) hC2 e2
          have hC3 : CSt (m_upd (m_upd μ 1 A1) 1 A2) b n m (tkN b n m (tkN b n m (tkN b n m p))) := ⟨hC2.1, hC2.2.1, (tkN_b hC2.2.2.1).2.1, hA2.1, hA2.2.1, hA2.2.2.1⟩
          refine rn_callP (k' := 42) (y := 47) (vs := [mR 3, mI (0), mI (99)]) (S' := []) (v := some (mI (1))) (h' := mkh (m_upd (m_upd μ 1 A1) 1 A2) c s) rfl rfl rfl (hc2) ?_
          show Rn PT none kX5_readThing 42 [some (mR 3), some (mR 54), some (mI (0)), some (mI (10 * tkV b n m (tkN b n m p) + tkV b n m p)), some (mI ((0 * 100) + (10 * tkV b n m (tkN b n m p) + tkV b n m p)))] [mI (1)] (mkh (m_upd (m_upd μ 1 A1) 1 A2) c s) _
          refine rn_if_ne (k' := 43) rfl rfl (fun hc5 => ?_) (fun hc5 => ?_)
          · skip
            refine rn_aload_n (k' := 46) rfl rfl rfl ?_
            refine rn_getR (k' := 47) rfl rfl K0_54 (by decide) rfl R0_54_1 ?_
            refine rn_iload (k' := 48) rfl rfl rfl ?_
            refine rn_iload_n (k' := 49) rfl rfl rfl ?_
            refine rn_iconst (k' := 50) rfl rfl ?_
            refine rn_icmp_ne (k' := 51) rfl rfl (fun hc6 => ?_) (fun hc6 => ?_)
            · skip
              refine rn_aload_n (k' := 54) rfl rfl rfl ?_
              refine rn_getR (k' := 55) rfl rfl K0_3 (by decide) rfl R0_3_0 ?_
              refine rn_getI (k' := 56) rfl rfl K0_1 (by decide) rfl ?_
              show Rn PT none kX5_readThing 56 [some (mR 3), some (mR 54), some (mI (0)), some (mI (10 * tkV b n m (tkN b n m p) + tkV b n m p)), some (mI ((0 * 100) + (10 * tkV b n m (tkN b n m p) + tkV b n m p)))] [mI (A2 6), mI ((0 * 100) + (10 * tkV b n m (tkN b n m p) + tkV b n m p)), mR 56] (mkh (m_upd (m_upd μ 1 A1) 1 A2) c s) _
              refine rn_iastore (k' := 57) rfl rfl K0_56 (by omega) (by omega) ?_
              refine rn_aload_n (k' := 58) rfl rfl rfl ?_
              refine rn_getR (k' := 59) rfl rfl K0_54 (by decide) rfl R0_54_2 ?_
              refine rn_iload_n (k' := 60) rfl rfl rfl ?_
              refine rn_dup2 (k' := 61) rfl rfl ?_
              refine rn_iaload (k' := 62) rfl rfl K0_57 (by omega) (by omega) ?_
              show Rn PT none kX5_readThing 62 [some (mR 3), some (mR 54), some (mI (0)), some (mI (10 * tkV b n m (tkN b n m p) + tkV b n m p)), some (mI ((0 * 100) + (10 * tkV b n m (tkN b n m p) + tkV b n m p)))] [mI (μ 57 0), mI (0), mR 57] (mkh (m_set (m_upd (m_upd μ 1 A1) 1 A2) 56 (((0 * 100) + (10 * tkV b n m (tkN b n m p) + tkV b n m p)).toNat) (A2 6)) c s) _
              refine rn_iconst (k' := 63) rfl rfl ?_
              refine rn_iadd (k' := 64) rfl rfl (by omega) ?_
              refine rn_iastore (k' := 65) rfl rfl K0_57 (by omega) (by omega) ?_
              refine rn_aload_n (k' := 66) rfl rfl rfl ?_
              obtain ⟨A3, hA3, hc3⟩ := g_endX (μ := (m_set (m_set (m_upd (m_upd μ 1 A1) 1 A2) 56 (((0 * 100) + (10 * tkV b n m (tkN b n m p) + tkV b n m p)).toNat) (A2 6)) 57 0 ((μ 57 0) + 1))) (c := c) (s := s) (b := b) (n := n) (m := m) (p := (tkN b n m (tkN b n m (tkN b n m p)))) hC3 e3
              refine rn_callP (k' := 67) (y := 50) (vs := [mR 3]) (S' := []) (v := some (mI (0))) (h' := mkh (m_set (m_upd (m_set (m_set (m_upd (m_upd μ 1 A1) 1 A2) 56 (((0 * 100) + (10 * tkV b n m (tkN b n m p) + tkV b n m p)).toNat) (A2 6)) 57 0 ((μ 57 0) + 1)) 1 A3) 3 2 (1)) c s) rfl rfl rfl (hc3) ?_
              show Rn PT none kX5_readThing 67 [some (mR 3), some (mR 54), some (mI (0)), some (mI (10 * tkV b n m (tkN b n m p) + tkV b n m p)), some (mI ((0 * 100) + (10 * tkV b n m (tkN b n m p) + tkV b n m p)))] [mI (0)] (mkh (m_set (m_upd (m_set (m_set (m_upd (m_upd μ 1 A1) 1 A2) 56 (((0 * 100) + (10 * tkV b n m (tkN b n m p) + tkV b n m p)).toNat) (A2 6)) 57 0 ((μ 57 0) + 1)) 1 A3) 3 2 (1)) c s) _
              refine rn_iret rfl (Or.inr (by omega)) ?_
              exact ⟨_, rfl, rfl, hA3.2.2.2.1, (CF.s (CF.u (CF.s (CF.s (CF.u (CF.u CF.r (by decide)) (by decide)) (by decide)) (by decide)) (by decide)) (by decide))⟩
            · exfalso; omega
          · exfalso; omega
      · exfalso; omega
    · exfalso; omega
  · exfalso; omega
set_option maxHeartbeats 1000000 in
theorem k_thing0_full {μ : Nat → Nat → Int} {c s : Nat} {b : Nat → Int} {n m p : Nat} (c8 : 0 ≤ μ 54 8 ∧ μ 54 8 ≤ 10) (c9 : 0 ≤ μ 54 9 ∧ μ 54 9 ≤ 10) (c57 : 0 ≤ μ 57 0) (hC0 : CSt μ b n m p) (hf12 : 12 ≤ μ 57 0) : ∃ μ', (μ' 3 2 = 4 ∧ μ' 1 4 = μ 1 4 ∧ CF μ μ') ∧ Cl PT 56 [mR 3, mR 54, mI (0)] (mkh μ c s) (fun r => r = (some (some (mI 0)), mkh μ' c s)) := by
  refine Cl.ex (g := fun μ' => (some (some (mI 0)), mkh μ' c s)) ?_
  refine ⟨_, PT_56, Nat.le_of_ble_eq_true rfl, ?_⟩
  show Rn PT none kX5_readThing 0 [some (mR 3), some (mR 54), some (mI (0)), none, none] [] (mkh μ c s) _
  refine rn_aload_n (k' := 1) rfl rfl rfl ?_
  refine rn_getR (k' := 2) rfl rfl K0_54 (by decide) rfl R0_54_2 ?_
  refine rn_iload_n (k' := 3) rfl rfl rfl ?_
  refine rn_iaload (k' := 4) rfl rfl K0_57 (by omega) (by omega) ?_
  show Rn PT none kX5_readThing 4 [some (mR 3), some (mR 54), some (mI (0)), none, none] [mI (μ 57 0)] (mkh μ c s) _
  refine rn_bipush (k' := 5) rfl rfl ?_
  refine rn_icmp_lt (k' := 6) rfl rfl (fun hc1 => ?_) (fun hc1 => ?_)
  · exfalso; omega
  · skip
    refine rn_aload_n (k' := 7) rfl rfl rfl ?_
    refine rn_iconst (k' := 8) rfl rfl ?_
    refine rn_callP (k' := 9) (y := 45) (vs := [mR 3, mI (4)]) (S' := []) (v := some (mI (0))) (h' := mkh (m_set μ 3 2 (4)) c s) rfl rfl rfl (g_fail (μ := μ) (e := 4)) ?_
    show Rn PT none kX5_readThing 9 [some (mR 3), some (mR 54), some (mI (0)), none, none] [mI (0)] (mkh (m_set μ 3 2 (4)) c s) _
    refine rn_iret rfl (Or.inr (by omega)) ?_
    exact ⟨_, rfl, rfl, rfl, (CF.s CF.r (by decide))⟩
set_option maxHeartbeats 1000000 in
theorem k_thing0_had {μ : Nat → Nat → Int} {c s : Nat} {b : Nat → Int} {n m p : Nat} (c8 : 0 ≤ μ 54 8 ∧ μ 54 8 ≤ 10) (c9 : 0 ≤ μ 54 9 ∧ μ 54 9 ≤ 10) (c57 : 0 ≤ μ 57 0) (hC0 : CSt μ b n m p) (e0 : eN b n m p 0 (μ 54 8 - 1) = 0) (e1 : eN b n m (tkN b n m p) 0 (μ 54 9 - 1) = 0) (hf12 : ¬ 12 ≤ μ 57 0) {j0 : Nat} (hj : 10 * tkV b n m (tkN b n m p) + tkV b n m p = (j0 : Int)) (hd : ¬ μ 56 (0 + j0) = -1) : ∃ μ', (μ' 3 2 = 3 ∧ μ' 1 4 = ((tkP b n m (tkN b n m p) : Nat) : Int) ∧ CF μ μ') ∧ Cl PT 56 [mR 3, mR 54, mI (0)] (mkh μ c s) (fun r => r = (some (some (mI 0)), mkh μ' c s)) := by
  refine Cl.ex (g := fun μ' => (some (some (mI 0)), mkh μ' c s)) ?_
  refine ⟨_, PT_56, Nat.le_of_ble_eq_true rfl, ?_⟩
  show Rn PT none kX5_readThing 0 [some (mR 3), some (mR 54), some (mI (0)), none, none] [] (mkh μ c s) _
  refine rn_aload_n (k' := 1) rfl rfl rfl ?_
  refine rn_getR (k' := 2) rfl rfl K0_54 (by decide) rfl R0_54_2 ?_
  refine rn_iload_n (k' := 3) rfl rfl rfl ?_
  refine rn_iaload (k' := 4) rfl rfl K0_57 (by omega) (by omega) ?_
  show Rn PT none kX5_readThing 4 [some (mR 3), some (mR 54), some (mI (0)), none, none] [mI (μ 57 0)] (mkh μ c s) _
  refine rn_bipush (k' := 5) rfl rfl ?_
  refine rn_icmp_lt (k' := 6) rfl rfl (fun hc1 => ?_) (fun hc1 => ?_)
  · skip
    refine rn_aload_n (k' := 11) rfl rfl rfl ?_
    refine rn_aload_n (k' := 12) rfl rfl rfl ?_
    obtain ⟨A1, hA1, hc1⟩ := g_ccell (μ := μ) (c := c) (s := s) (b := b) (n := n) (m := m) (p := p) hC0 c8 c9 e0 e1
    have hC2 : CSt (m_upd μ 1 A1) b n m (tkN b n m (tkN b n m p)) := ⟨hC0.1, hC0.2.1, (tkN_b (tkN_b hC0.2.2.1).2.1).2.1, hA1.1, hA1.2.1, hA1.2.2.1⟩
    have ty0 := eN_ok e0
    have ty1 := eN_ok e1
    have hi0 : (0 * 100 + (10 * tkV b n m (tkN b n m p) + tkV b n m p)).toNat = 0 + j0 := by omega
    have hr0 : μ 56 (0 * 100 + (10 * tkV b n m (tkN b n m p) + tkV b n m p)).toNat = μ 56 (0 + j0) := by rw [hi0]
    refine rn_callP (k' := 13) (y := 48) (vs := [mR 3, mR 54]) (S' := []) (v := some (mI (10 * tkV b n m (tkN b n m p) + tkV b n m p))) (h' := mkh (m_upd μ 1 A1) c s) rfl rfl rfl (hc1) ?_
    show Rn PT none kX5_readThing 13 [some (mR 3), some (mR 54), some (mI (0)), none, none] [mI (10 * tkV b n m (tkN b n m p) + tkV b n m p)] (mkh (m_upd μ 1 A1) c s) _
    refine rn_istore_n (k' := 14) (L' := [some (mR 3), some (mR 54), some (mI (0)), some (mI (10 * tkV b n m (tkN b n m p) + tkV b n m p)), none]) rfl rfl (Nat.le_of_ble_eq_true rfl) rfl ?_
    refine rn_iload_n (k' := 15) rfl rfl rfl ?_
    refine rn_iconst (k' := 16) rfl rfl ?_
    refine rn_icmp_ne (k' := 17) rfl rfl (fun hc2 => ?_) (fun hc2 => ?_)
    · skip
      refine rn_iload_n (k' := 20) rfl rfl rfl ?_
      refine rn_bipush (k' := 21) rfl rfl ?_
      refine rn_imul (k' := 22) rfl rfl (by omega) ?_
      refine rn_iload_n (k' := 23) rfl rfl rfl ?_
      refine rn_iadd (k' := 24) rfl rfl (by omega) ?_
      refine rn_istore (k' := 25) (L' := [some (mR 3), some (mR 54), some (mI (0)), some (mI (10 * tkV b n m (tkN b n m p) + tkV b n m p)), some (mI ((0 * 100) + (10 * tkV b n m (tkN b n m p) + tkV b n m p)))]) rfl rfl (Nat.le_of_ble_eq_true rfl) rfl ?_
      refine rn_aload_n (k' := 26) rfl rfl rfl ?_
      refine rn_getR (k' := 27) rfl rfl K0_54 (by decide) rfl R0_54_1 ?_
      refine rn_iload (k' := 28) rfl rfl rfl ?_
      refine rn_iaload (k' := 29) rfl rfl K0_56 (by omega) (by omega) ?_
      show Rn PT none kX5_readThing 29 [some (mR 3), some (mR 54), some (mI (0)), some (mI (10 * tkV b n m (tkN b n m p) + tkV b n m p)), some (mI ((0 * 100) + (10 * tkV b n m (tkN b n m p) + tkV b n m p)))] [mI (μ 56 (((0 * 100) + (10 * tkV b n m (tkN b n m p) + tkV b n m p)).toNat))] (mkh (m_upd μ 1 A1) c s) _
      rw [hr0]
      refine rn_iconst (k' := 30) rfl rfl ?_
      refine rn_icmp_eq (k' := 31) rfl rfl (fun hc3 => ?_) (fun hc3 => ?_)
      · exfalso; omega
      · skip
        refine rn_aload_n (k' := 32) rfl rfl rfl ?_
        refine rn_iconst (k' := 33) rfl rfl ?_
        refine rn_callP (k' := 34) (y := 45) (vs := [mR 3, mI (3)]) (S' := []) (v := some (mI (0))) (h' := mkh (m_set (m_upd μ 1 A1) 3 2 (3)) c s) rfl rfl rfl (g_fail (μ := (m_upd μ 1 A1)) (e := 3)) ?_
        show Rn PT none kX5_readThing 34 [some (mR 3), some (mR 54), some (mI (0)), some (mI (10 * tkV b n m (tkN b n m p) + tkV b n m p)), some (mI ((0 * 100) + (10 * tkV b n m (tkN b n m p) + tkV b n m p)))] [mI (0)] (mkh (m_set (m_upd μ 1 A1) 3 2 (3)) c s) _
        refine rn_iret rfl (Or.inr (by omega)) ?_
        exact ⟨_, rfl, rfl, hA1.2.2.2.1, (CF.s (CF.u CF.r (by decide)) (by decide))⟩
    · exfalso; omega
  · exfalso; omega
set_option maxHeartbeats 1000000 in
theorem k_thing0_ok {μ : Nat → Nat → Int} {c s : Nat} {b : Nat → Int} {n m p : Nat} (c8 : 0 ≤ μ 54 8 ∧ μ 54 8 ≤ 10) (c9 : 0 ≤ μ 54 9 ∧ μ 54 9 ≤ 10) (c57 : 0 ≤ μ 57 0) (hC0 : CSt μ b n m p) (e0 : eN b n m p 0 (μ 54 8 - 1) = 0) (e1 : eN b n m (tkN b n m p) 0 (μ 54 9 - 1) = 0) (e2 : eN b n m (tkN b n m (tkN b n m p)) 0 99 = 0) (e3 : tkK b n m (tkN b n m (tkN b n m (tkN b n m p))) = 3) (hf12 : ¬ 12 ≤ μ 57 0) {j0 : Nat} (hj : 10 * tkV b n m (tkN b n m p) + tkV b n m p = (j0 : Int)) (hd : μ 56 (0 + j0) = -1) : ∃ μ', (CSt μ' b n m (tkN b n m (tkN b n m (tkN b n m (tkN b n m p)))) ∧ CFo μ μ' ∧ μ' 56 (0 + j0) = tkV b n m (tkN b n m (tkN b n m p)) ∧ (∀ j, ¬ j = (0 + j0) → μ' 56 j = μ 56 j) ∧ μ' 57 0 = μ 57 0 + 1 ∧ (∀ j, ¬ j = 0 → μ' 57 j = μ 57 j) ∧ μ' 54 = μ 54 ∧ μ' 55 = μ 55 ∧ μ' 58 = μ 58 ∧ μ' 59 = μ 59 ∧ μ' 60 = μ 60 ∧ μ' 61 = μ 61) ∧ Cl PT 56 [mR 3, mR 54, mI (0)] (mkh μ c s) (fun r => r = (some (some (mI 1)), mkh μ' c s)) := by
  refine Cl.ex (g := fun μ' => (some (some (mI 1)), mkh μ' c s)) ?_
  refine ⟨_, PT_56, Nat.le_of_ble_eq_true rfl, ?_⟩
  show Rn PT none kX5_readThing 0 [some (mR 3), some (mR 54), some (mI (0)), none, none] [] (mkh μ c s) _
  refine rn_aload_n (k' := 1) rfl rfl rfl ?_
  refine rn_getR (k' := 2) rfl rfl K0_54 (by decide) rfl R0_54_2 ?_
  refine rn_iload_n (k' := 3) rfl rfl rfl ?_
  refine rn_iaload (k' := 4) rfl rfl K0_57 (by omega) (by omega) ?_
  show Rn PT none kX5_readThing 4 [some (mR 3), some (mR 54), some (mI (0)), none, none] [mI (μ 57 0)] (mkh μ c s) _
  refine rn_bipush (k' := 5) rfl rfl ?_
  refine rn_icmp_lt (k' := 6) rfl rfl (fun hc1 => ?_) (fun hc1 => ?_)
  · skip
    refine rn_aload_n (k' := 11) rfl rfl rfl ?_
    refine rn_aload_n (k' := 12) rfl rfl rfl ?_
    obtain ⟨A1, hA1, hc1⟩ := g_ccell (μ := μ) (c := c) (s := s) (b := b) (n := n) (m := m) (p := p) hC0 c8 c9 e0 e1
    have hC2 : CSt (m_upd μ 1 A1) b n m (tkN b n m (tkN b n m p)) := ⟨hC0.1, hC0.2.1, (tkN_b (tkN_b hC0.2.2.1).2.1).2.1, hA1.1, hA1.2.1, hA1.2.2.1⟩
    have ty0 := eN_ok e0
    have ty1 := eN_ok e1
    have hi0 : (0 * 100 + (10 * tkV b n m (tkN b n m p) + tkV b n m p)).toNat = 0 + j0 := by omega
    have hr0 : μ 56 (0 * 100 + (10 * tkV b n m (tkN b n m p) + tkV b n m p)).toNat = μ 56 (0 + j0) := by rw [hi0]
    refine rn_callP (k' := 13) (y := 48) (vs := [mR 3, mR 54]) (S' := []) (v := some (mI (10 * tkV b n m (tkN b n m p) + tkV b n m p))) (h' := mkh (m_upd μ 1 A1) c s) rfl rfl rfl (hc1) ?_
    show Rn PT none kX5_readThing 13 [some (mR 3), some (mR 54), some (mI (0)), none, none] [mI (10 * tkV b n m (tkN b n m p) + tkV b n m p)] (mkh (m_upd μ 1 A1) c s) _
    refine rn_istore_n (k' := 14) (L' := [some (mR 3), some (mR 54), some (mI (0)), some (mI (10 * tkV b n m (tkN b n m p) + tkV b n m p)), none]) rfl rfl (Nat.le_of_ble_eq_true rfl) rfl ?_
    refine rn_iload_n (k' := 15) rfl rfl rfl ?_
    refine rn_iconst (k' := 16) rfl rfl ?_
    refine rn_icmp_ne (k' := 17) rfl rfl (fun hc2 => ?_) (fun hc2 => ?_)
    · skip
      refine rn_iload_n (k' := 20) rfl rfl rfl ?_
      refine rn_bipush (k' := 21) rfl rfl ?_
      refine rn_imul (k' := 22) rfl rfl (by omega) ?_
      refine rn_iload_n (k' := 23) rfl rfl rfl ?_
      refine rn_iadd (k' := 24) rfl rfl (by omega) ?_
      refine rn_istore (k' := 25) (L' := [some (mR 3), some (mR 54), some (mI (0)), some (mI (10 * tkV b n m (tkN b n m p) + tkV b n m p)), some (mI ((0 * 100) + (10 * tkV b n m (tkN b n m p) + tkV b n m p)))]) rfl rfl (Nat.le_of_ble_eq_true rfl) rfl ?_
      refine rn_aload_n (k' := 26) rfl rfl rfl ?_
      refine rn_getR (k' := 27) rfl rfl K0_54 (by decide) rfl R0_54_1 ?_
      refine rn_iload (k' := 28) rfl rfl rfl ?_
      refine rn_iaload (k' := 29) rfl rfl K0_56 (by omega) (by omega) ?_
      show Rn PT none kX5_readThing 29 [some (mR 3), some (mR 54), some (mI (0)), some (mI (10 * tkV b n m (tkN b n m p) + tkV b n m p)), some (mI ((0 * 100) + (10 * tkV b n m (tkN b n m p) + tkV b n m p)))] [mI (μ 56 (((0 * 100) + (10 * tkV b n m (tkN b n m p) + tkV b n m p)).toNat))] (mkh (m_upd μ 1 A1) c s) _
      rw [hr0]
      refine rn_iconst (k' := 30) rfl rfl ?_
      refine rn_icmp_eq (k' := 31) rfl rfl (fun hc3 => ?_) (fun hc3 => ?_)
      · skip
        refine rn_iload_n (k' := 36) rfl rfl rfl ?_
        refine rn_iconst (k' := 37) rfl rfl ?_
        refine rn_icmp_eq (k' := 38) rfl rfl (fun hc4 => ?_) (fun hc4 => ?_)
        · exfalso; omega
        · skip
          refine rn_aload_n (k' := 39) rfl rfl rfl ?_
          refine rn_iconst (k' := 40) rfl rfl ?_
          refine rn_bipush (k' := 41) rfl rfl ?_
          obtain ⟨A2, hA2, hc2⟩ := g_num (μ := (m_upd μ 1 A1)) (c := c) (s := s) (b := b) (n := n) (m := m) (p := (tkN b n m (tkN b n m p))) (lo := 0) (hi := 99) hC2 e2
          have hC3 : CSt (m_upd (m_upd μ 1 A1) 1 A2) b n m (tkN b n m (tkN b n m (tkN b n m p))) := ⟨hC2.1, hC2.2.1, (tkN_b hC2.2.2.1).2.1, hA2.1, hA2.2.1, hA2.2.2.1⟩
          refine rn_callP (k' := 42) (y := 47) (vs := [mR 3, mI (0), mI (99)]) (S' := []) (v := some (mI (1))) (h' := mkh (m_upd (m_upd μ 1 A1) 1 A2) c s) rfl rfl rfl (hc2) ?_
          show Rn PT none kX5_readThing 42 [some (mR 3), some (mR 54), some (mI (0)), some (mI (10 * tkV b n m (tkN b n m p) + tkV b n m p)), some (mI ((0 * 100) + (10 * tkV b n m (tkN b n m p) + tkV b n m p)))] [mI (1)] (mkh (m_upd (m_upd μ 1 A1) 1 A2) c s) _
          refine rn_if_ne (k' := 43) rfl rfl (fun hc5 => ?_) (fun hc5 => ?_)
          · skip
            refine rn_aload_n (k' := 46) rfl rfl rfl ?_
            refine rn_getR (k' := 47) rfl rfl K0_54 (by decide) rfl R0_54_1 ?_
            refine rn_iload (k' := 48) rfl rfl rfl ?_
            refine rn_iload_n (k' := 49) rfl rfl rfl ?_
            refine rn_iconst (k' := 50) rfl rfl ?_
            refine rn_icmp_ne (k' := 51) rfl rfl (fun hc6 => ?_) (fun hc6 => ?_)
            · skip
              refine rn_aload_n (k' := 54) rfl rfl rfl ?_
              refine rn_getR (k' := 55) rfl rfl K0_3 (by decide) rfl R0_3_0 ?_
              refine rn_getI (k' := 56) rfl rfl K0_1 (by decide) rfl ?_
              show Rn PT none kX5_readThing 56 [some (mR 3), some (mR 54), some (mI (0)), some (mI (10 * tkV b n m (tkN b n m p) + tkV b n m p)), some (mI ((0 * 100) + (10 * tkV b n m (tkN b n m p) + tkV b n m p)))] [mI (A2 6), mI ((0 * 100) + (10 * tkV b n m (tkN b n m p) + tkV b n m p)), mR 56] (mkh (m_upd (m_upd μ 1 A1) 1 A2) c s) _
              refine rn_iastore (k' := 57) rfl rfl K0_56 (by omega) (by omega) ?_
              refine rn_aload_n (k' := 58) rfl rfl rfl ?_
              refine rn_getR (k' := 59) rfl rfl K0_54 (by decide) rfl R0_54_2 ?_
              refine rn_iload_n (k' := 60) rfl rfl rfl ?_
              refine rn_dup2 (k' := 61) rfl rfl ?_
              refine rn_iaload (k' := 62) rfl rfl K0_57 (by omega) (by omega) ?_
              show Rn PT none kX5_readThing 62 [some (mR 3), some (mR 54), some (mI (0)), some (mI (10 * tkV b n m (tkN b n m p) + tkV b n m p)), some (mI ((0 * 100) + (10 * tkV b n m (tkN b n m p) + tkV b n m p)))] [mI (μ 57 0), mI (0), mR 57] (mkh (m_set (m_upd (m_upd μ 1 A1) 1 A2) 56 (((0 * 100) + (10 * tkV b n m (tkN b n m p) + tkV b n m p)).toNat) (A2 6)) c s) _
              refine rn_iconst (k' := 63) rfl rfl ?_
              refine rn_iadd (k' := 64) rfl rfl (by omega) ?_
              refine rn_iastore (k' := 65) rfl rfl K0_57 (by omega) (by omega) ?_
              refine rn_aload_n (k' := 66) rfl rfl rfl ?_
              obtain ⟨A3, hA3, hc3⟩ := g_end (μ := (m_set (m_set (m_upd (m_upd μ 1 A1) 1 A2) 56 (((0 * 100) + (10 * tkV b n m (tkN b n m p) + tkV b n m p)).toNat) (A2 6)) 57 0 ((μ 57 0) + 1))) (c := c) (s := s) (b := b) (n := n) (m := m) (p := (tkN b n m (tkN b n m (tkN b n m p)))) hC3 e3
              have hC4 : CSt (m_upd (m_set (m_set (m_upd (m_upd μ 1 A1) 1 A2) 56 (((0 * 100) + (10 * tkV b n m (tkN b n m p) + tkV b n m p)).toNat) (A2 6)) 57 0 ((μ 57 0) + 1)) 1 A3) b n m (tkN b n m (tkN b n m (tkN b n m (tkN b n m p)))) := ⟨hC3.1, hC3.2.1, (tkN_b hC3.2.2.1).2.1, hA3.1, hA3.2.1, hA3.2.2.1⟩
              refine rn_callP (k' := 67) (y := 50) (vs := [mR 3]) (S' := []) (v := some (mI (1))) (h' := mkh (m_upd (m_set (m_set (m_upd (m_upd μ 1 A1) 1 A2) 56 (((0 * 100) + (10 * tkV b n m (tkN b n m p) + tkV b n m p)).toNat) (A2 6)) 57 0 ((μ 57 0) + 1)) 1 A3) c s) rfl rfl rfl (hc3) ?_
              show Rn PT none kX5_readThing 67 [some (mR 3), some (mR 54), some (mI (0)), some (mI (10 * tkV b n m (tkN b n m p) + tkV b n m p)), some (mI ((0 * 100) + (10 * tkV b n m (tkN b n m p) + tkV b n m p)))] [mI (1)] (mkh (m_upd (m_set (m_set (m_upd (m_upd μ 1 A1) 1 A2) 56 (((0 * 100) + (10 * tkV b n m (tkN b n m p) + tkV b n m p)).toNat) (A2 6)) 57 0 ((μ 57 0) + 1)) 1 A3) c s) _
              refine rn_iret rfl (Or.inr (by omega)) ?_
              exact ⟨_, rfl, hC4, ⟨(CF.u (CF.s (CF.s (CF.u (CF.u CF.r (by decide)) (by decide)) (by decide)) (by decide)) (by decide)), rfl⟩, ⟨(set_hit hi0).trans hA2.2.2.2.2.2, (fun j hj2 => set_mis (by omega)), rfl, (fun j hj2 => set_mis hj2), rfl, rfl, rfl, rfl, rfl, rfl⟩⟩
            · exfalso; omega
          · exfalso; omega
      · exfalso; omega
    · exfalso; omega
  · exfalso; omega
set_option maxHeartbeats 1000000 in
theorem k_thing1_x0 {μ : Nat → Nat → Int} {c s : Nat} {b : Nat → Int} {n m p : Nat} (c8 : 0 ≤ μ 54 8 ∧ μ 54 8 ≤ 10) (c9 : 0 ≤ μ 54 9 ∧ μ 54 9 ≤ 10) (c57 : 0 ≤ μ 57 1) (hC0 : CSt μ b n m p) (e0 : ¬ eN b n m p 0 (μ 54 8 - 1) = 0) (hf12 : ¬ 12 ≤ μ 57 1) : ∃ μ', (μ' 3 2 = eN b n m p 0 (μ 54 8 - 1) ∧ μ' 1 4 = ((tkP b n m p : Nat) : Int) ∧ CF μ μ') ∧ Cl PT 56 [mR 3, mR 54, mI (1)] (mkh μ c s) (fun r => r = (some (some (mI 0)), mkh μ' c s)) := by
  refine Cl.ex (g := fun μ' => (some (some (mI 0)), mkh μ' c s)) ?_
  refine ⟨_, PT_56, Nat.le_of_ble_eq_true rfl, ?_⟩
  show Rn PT none kX5_readThing 0 [some (mR 3), some (mR 54), some (mI (1)), none, none] [] (mkh μ c s) _
  refine rn_aload_n (k' := 1) rfl rfl rfl ?_
  refine rn_getR (k' := 2) rfl rfl K0_54 (by decide) rfl R0_54_2 ?_
  refine rn_iload_n (k' := 3) rfl rfl rfl ?_
  refine rn_iaload (k' := 4) rfl rfl K0_57 (by omega) (by omega) ?_
  show Rn PT none kX5_readThing 4 [some (mR 3), some (mR 54), some (mI (1)), none, none] [mI (μ 57 1)] (mkh μ c s) _
  refine rn_bipush (k' := 5) rfl rfl ?_
  refine rn_icmp_lt (k' := 6) rfl rfl (fun hc1 => ?_) (fun hc1 => ?_)
  · skip
    refine rn_aload_n (k' := 11) rfl rfl rfl ?_
    refine rn_aload_n (k' := 12) rfl rfl rfl ?_
    obtain ⟨A0, hA0, hc0⟩ := g_ccellX0 (μ := μ) (c := c) (s := s) (b := b) (n := n) (m := m) (p := p) hC0 c8 c9 e0
    refine rn_callP (k' := 13) (y := 48) (vs := [mR 3, mR 54]) (S' := []) (v := some (mI (-1))) (h' := mkh (m_set (m_upd μ 1 A0) 3 2 (eN b n m p 0 (μ 54 8 - 1))) c s) rfl rfl rfl (hc0) ?_
    show Rn PT none kX5_readThing 13 [some (mR 3), some (mR 54), some (mI (1)), none, none] [mI (-1)] (mkh (m_set (m_upd μ 1 A0) 3 2 (eN b n m p 0 (μ 54 8 - 1))) c s) _
    refine rn_istore_n (k' := 14) (L' := [some (mR 3), some (mR 54), some (mI (1)), some (mI (-1)), none]) rfl rfl (Nat.le_of_ble_eq_true rfl) rfl ?_
    refine rn_iload_n (k' := 15) rfl rfl rfl ?_
    refine rn_iconst (k' := 16) rfl rfl ?_
    refine rn_icmp_ne (k' := 17) rfl rfl (fun hc2 => ?_) (fun hc2 => ?_)
    · exfalso; omega
    · skip
      refine rn_iconst (k' := 18) rfl rfl ?_
      refine rn_iret rfl (Or.inr (by omega)) ?_
      exact ⟨_, rfl, rfl, hA0.2.2.2.1, (CF.s (CF.u CF.r (by decide)) (by decide))⟩
  · exfalso; omega
set_option maxHeartbeats 1000000 in
theorem k_thing1_x1 {μ : Nat → Nat → Int} {c s : Nat} {b : Nat → Int} {n m p : Nat} (c8 : 0 ≤ μ 54 8 ∧ μ 54 8 ≤ 10) (c9 : 0 ≤ μ 54 9 ∧ μ 54 9 ≤ 10) (c57 : 0 ≤ μ 57 1) (hC0 : CSt μ b n m p) (e0 : eN b n m p 0 (μ 54 8 - 1) = 0) (e1 : ¬ eN b n m (tkN b n m p) 0 (μ 54 9 - 1) = 0) (hf12 : ¬ 12 ≤ μ 57 1) : ∃ μ', (μ' 3 2 = eN b n m (tkN b n m p) 0 (μ 54 9 - 1) ∧ μ' 1 4 = ((tkP b n m (tkN b n m p) : Nat) : Int) ∧ CF μ μ') ∧ Cl PT 56 [mR 3, mR 54, mI (1)] (mkh μ c s) (fun r => r = (some (some (mI 0)), mkh μ' c s)) := by
  refine Cl.ex (g := fun μ' => (some (some (mI 0)), mkh μ' c s)) ?_
  refine ⟨_, PT_56, Nat.le_of_ble_eq_true rfl, ?_⟩
  show Rn PT none kX5_readThing 0 [some (mR 3), some (mR 54), some (mI (1)), none, none] [] (mkh μ c s) _
  refine rn_aload_n (k' := 1) rfl rfl rfl ?_
  refine rn_getR (k' := 2) rfl rfl K0_54 (by decide) rfl R0_54_2 ?_
  refine rn_iload_n (k' := 3) rfl rfl rfl ?_
  refine rn_iaload (k' := 4) rfl rfl K0_57 (by omega) (by omega) ?_
  show Rn PT none kX5_readThing 4 [some (mR 3), some (mR 54), some (mI (1)), none, none] [mI (μ 57 1)] (mkh μ c s) _
  refine rn_bipush (k' := 5) rfl rfl ?_
  refine rn_icmp_lt (k' := 6) rfl rfl (fun hc1 => ?_) (fun hc1 => ?_)
  · skip
    refine rn_aload_n (k' := 11) rfl rfl rfl ?_
    refine rn_aload_n (k' := 12) rfl rfl rfl ?_
    obtain ⟨A1, hA1, hc1⟩ := g_ccellX1 (μ := μ) (c := c) (s := s) (b := b) (n := n) (m := m) (p := p) hC0 c8 c9 e0 e1
    refine rn_callP (k' := 13) (y := 48) (vs := [mR 3, mR 54]) (S' := []) (v := some (mI (-1))) (h' := mkh (m_set (m_upd μ 1 A1) 3 2 (eN b n m (tkN b n m p) 0 (μ 54 9 - 1))) c s) rfl rfl rfl (hc1) ?_
    show Rn PT none kX5_readThing 13 [some (mR 3), some (mR 54), some (mI (1)), none, none] [mI (-1)] (mkh (m_set (m_upd μ 1 A1) 3 2 (eN b n m (tkN b n m p) 0 (μ 54 9 - 1))) c s) _
    refine rn_istore_n (k' := 14) (L' := [some (mR 3), some (mR 54), some (mI (1)), some (mI (-1)), none]) rfl rfl (Nat.le_of_ble_eq_true rfl) rfl ?_
    refine rn_iload_n (k' := 15) rfl rfl rfl ?_
    refine rn_iconst (k' := 16) rfl rfl ?_
    refine rn_icmp_ne (k' := 17) rfl rfl (fun hc2 => ?_) (fun hc2 => ?_)
    · exfalso; omega
    · skip
      refine rn_iconst (k' := 18) rfl rfl ?_
      refine rn_iret rfl (Or.inr (by omega)) ?_
      exact ⟨_, rfl, rfl, hA1.2.2.2.1, (CF.s (CF.u CF.r (by decide)) (by decide))⟩
  · exfalso; omega
set_option maxHeartbeats 1000000 in
theorem k_thing1_x2 {μ : Nat → Nat → Int} {c s : Nat} {b : Nat → Int} {n m p : Nat} (c8 : 0 ≤ μ 54 8 ∧ μ 54 8 ≤ 10) (c9 : 0 ≤ μ 54 9 ∧ μ 54 9 ≤ 10) (c57 : 0 ≤ μ 57 1) (hC0 : CSt μ b n m p) (e0 : eN b n m p 0 (μ 54 8 - 1) = 0) (e1 : eN b n m (tkN b n m p) 0 (μ 54 9 - 1) = 0) (e2 : ¬ eN b n m (tkN b n m (tkN b n m p)) 0 99 = 0) (hf12 : ¬ 12 ≤ μ 57 1) {j0 : Nat} (hj : 10 * tkV b n m (tkN b n m p) + tkV b n m p = (j0 : Int)) (hd : μ 56 (100 + j0) = -1) : ∃ μ', (μ' 3 2 = eN b n m (tkN b n m (tkN b n m p)) 0 99 ∧ μ' 1 4 = ((tkP b n m (tkN b n m (tkN b n m p)) : Nat) : Int) ∧ CF μ μ') ∧ Cl PT 56 [mR 3, mR 54, mI (1)] (mkh μ c s) (fun r => r = (some (some (mI 0)), mkh μ' c s)) := by
  refine Cl.ex (g := fun μ' => (some (some (mI 0)), mkh μ' c s)) ?_
  refine ⟨_, PT_56, Nat.le_of_ble_eq_true rfl, ?_⟩
  show Rn PT none kX5_readThing 0 [some (mR 3), some (mR 54), some (mI (1)), none, none] [] (mkh μ c s) _
  refine rn_aload_n (k' := 1) rfl rfl rfl ?_
  refine rn_getR (k' := 2) rfl rfl K0_54 (by decide) rfl R0_54_2 ?_
  refine rn_iload_n (k' := 3) rfl rfl rfl ?_
  refine rn_iaload (k' := 4) rfl rfl K0_57 (by omega) (by omega) ?_
  show Rn PT none kX5_readThing 4 [some (mR 3), some (mR 54), some (mI (1)), none, none] [mI (μ 57 1)] (mkh μ c s) _
  refine rn_bipush (k' := 5) rfl rfl ?_
  refine rn_icmp_lt (k' := 6) rfl rfl (fun hc1 => ?_) (fun hc1 => ?_)
  · skip
    refine rn_aload_n (k' := 11) rfl rfl rfl ?_
    refine rn_aload_n (k' := 12) rfl rfl rfl ?_
    obtain ⟨A1, hA1, hc1⟩ := g_ccell (μ := μ) (c := c) (s := s) (b := b) (n := n) (m := m) (p := p) hC0 c8 c9 e0 e1
    have hC2 : CSt (m_upd μ 1 A1) b n m (tkN b n m (tkN b n m p)) := ⟨hC0.1, hC0.2.1, (tkN_b (tkN_b hC0.2.2.1).2.1).2.1, hA1.1, hA1.2.1, hA1.2.2.1⟩
    have ty0 := eN_ok e0
    have ty1 := eN_ok e1
    have hi0 : (1 * 100 + (10 * tkV b n m (tkN b n m p) + tkV b n m p)).toNat = 100 + j0 := by omega
    have hr0 : μ 56 (1 * 100 + (10 * tkV b n m (tkN b n m p) + tkV b n m p)).toNat = μ 56 (100 + j0) := by rw [hi0]
    refine rn_callP (k' := 13) (y := 48) (vs := [mR 3, mR 54]) (S' := []) (v := some (mI (10 * tkV b n m (tkN b n m p) + tkV b n m p))) (h' := mkh (m_upd μ 1 A1) c s) rfl rfl rfl (hc1) ?_
    show Rn PT none kX5_readThing 13 [some (mR 3), some (mR 54), some (mI (1)), none, none] [mI (10 * tkV b n m (tkN b n m p) + tkV b n m p)] (mkh (m_upd μ 1 A1) c s) _
    refine rn_istore_n (k' := 14) (L' := [some (mR 3), some (mR 54), some (mI (1)), some (mI (10 * tkV b n m (tkN b n m p) + tkV b n m p)), none]) rfl rfl (Nat.le_of_ble_eq_true rfl) rfl ?_
    refine rn_iload_n (k' := 15) rfl rfl rfl ?_
    refine rn_iconst (k' := 16) rfl rfl ?_
    refine rn_icmp_ne (k' := 17) rfl rfl (fun hc2 => ?_) (fun hc2 => ?_)
    · skip
      refine rn_iload_n (k' := 20) rfl rfl rfl ?_
      refine rn_bipush (k' := 21) rfl rfl ?_
      refine rn_imul (k' := 22) rfl rfl (by omega) ?_
      refine rn_iload_n (k' := 23) rfl rfl rfl ?_
      refine rn_iadd (k' := 24) rfl rfl (by omega) ?_
      refine rn_istore (k' := 25) (L' := [some (mR 3), some (mR 54), some (mI (1)), some (mI (10 * tkV b n m (tkN b n m p) + tkV b n m p)), some (mI ((1 * 100) + (10 * tkV b n m (tkN b n m p) + tkV b n m p)))]) rfl rfl (Nat.le_of_ble_eq_true rfl) rfl ?_
      refine rn_aload_n (k' := 26) rfl rfl rfl ?_
      refine rn_getR (k' := 27) rfl rfl K0_54 (by decide) rfl R0_54_1 ?_
      refine rn_iload (k' := 28) rfl rfl rfl ?_
      refine rn_iaload (k' := 29) rfl rfl K0_56 (by omega) (by omega) ?_
      show Rn PT none kX5_readThing 29 [some (mR 3), some (mR 54), some (mI (1)), some (mI (10 * tkV b n m (tkN b n m p) + tkV b n m p)), some (mI ((1 * 100) + (10 * tkV b n m (tkN b n m p) + tkV b n m p)))] [mI (μ 56 (((1 * 100) + (10 * tkV b n m (tkN b n m p) + tkV b n m p)).toNat))] (mkh (m_upd μ 1 A1) c s) _
      rw [hr0]
      refine rn_iconst (k' := 30) rfl rfl ?_
      refine rn_icmp_eq (k' := 31) rfl rfl (fun hc3 => ?_) (fun hc3 => ?_)
      · skip
        refine rn_iload_n (k' := 36) rfl rfl rfl ?_
        refine rn_iconst (k' := 37) rfl rfl ?_
        refine rn_icmp_eq (k' := 38) rfl rfl (fun hc4 => ?_) (fun hc4 => ?_)
        · exfalso; omega
        · skip
          refine rn_aload_n (k' := 39) rfl rfl rfl ?_
          refine rn_iconst (k' := 40) rfl rfl ?_
          refine rn_bipush (k' := 41) rfl rfl ?_
          obtain ⟨A2, hA2, hc2⟩ := g_numX (μ := (m_upd μ 1 A1)) (c := c) (s := s) (b := b) (n := n) (m := m) (p := (tkN b n m (tkN b n m p))) (lo := 0) (hi := 99) hC2 e2
          refine rn_callP (k' := 42) (y := 47) (vs := [mR 3, mI (0), mI (99)]) (S' := []) (v := some (mI (0))) (h' := mkh (m_set (m_upd (m_upd μ 1 A1) 1 A2) 3 2 (eN b n m (tkN b n m (tkN b n m p)) (0) (99))) c s) rfl rfl rfl (hc2) ?_
          show Rn PT none kX5_readThing 42 [some (mR 3), some (mR 54), some (mI (1)), some (mI (10 * tkV b n m (tkN b n m p) + tkV b n m p)), some (mI ((1 * 100) + (10 * tkV b n m (tkN b n m p) + tkV b n m p)))] [mI (0)] (mkh (m_set (m_upd (m_upd μ 1 A1) 1 A2) 3 2 (eN b n m (tkN b n m (tkN b n m p)) (0) (99))) c s) _
          refine rn_if_ne (k' := 43) rfl rfl (fun hc5 => ?_) (fun hc5 => ?_)
          · exfalso; omega
          · skip
            refine rn_iconst (k' := 44) rfl rfl ?_
            refine rn_iret rfl (Or.inr (by omega)) ?_
            exact ⟨_, rfl, rfl, hA2.2.2.2.1, (CF.s (CF.u (CF.u CF.r (by decide)) (by decide)) (by decide))⟩
      · exfalso; omega
    · exfalso; omega
  · exfalso; omega
set_option maxHeartbeats 1000000 in
theorem k_thing1_x3 {μ : Nat → Nat → Int} {c s : Nat} {b : Nat → Int} {n m p : Nat} (c8 : 0 ≤ μ 54 8 ∧ μ 54 8 ≤ 10) (c9 : 0 ≤ μ 54 9 ∧ μ 54 9 ≤ 10) (c57 : 0 ≤ μ 57 1) (hC0 : CSt μ b n m p) (e0 : eN b n m p 0 (μ 54 8 - 1) = 0) (e1 : eN b n m (tkN b n m p) 0 (μ 54 9 - 1) = 0) (e2 : eN b n m (tkN b n m (tkN b n m p)) 0 99 = 0) (e3 : ¬ tkK b n m (tkN b n m (tkN b n m (tkN b n m p))) = 3) (hf12 : ¬ 12 ≤ μ 57 1) {j0 : Nat} (hj : 10 * tkV b n m (tkN b n m p) + tkV b n m p = (j0 : Int)) (hd : μ 56 (100 + j0) = -1) : ∃ μ', (μ' 3 2 = 1 ∧ μ' 1 4 = ((tkP b n m (tkN b n m (tkN b n m (tkN b n m p))) : Nat) : Int) ∧ CF μ μ') ∧ Cl PT 56 [mR 3, mR 54, mI (1)] (mkh μ c s) (fun r => r = (some (some (mI 0)), mkh μ' c s)) := by
  refine Cl.ex (g := fun μ' => (some (some (mI 0)), mkh μ' c s)) ?_
  refine ⟨_, PT_56, Nat.le_of_ble_eq_true rfl, ?_⟩
  show Rn PT none kX5_readThing 0 [some (mR 3), some (mR 54), some (mI (1)), none, none] [] (mkh μ c s) _
  refine rn_aload_n (k' := 1) rfl rfl rfl ?_
  refine rn_getR (k' := 2) rfl rfl K0_54 (by decide) rfl R0_54_2 ?_
  refine rn_iload_n (k' := 3) rfl rfl rfl ?_
  refine rn_iaload (k' := 4) rfl rfl K0_57 (by omega) (by omega) ?_
  show Rn PT none kX5_readThing 4 [some (mR 3), some (mR 54), some (mI (1)), none, none] [mI (μ 57 1)] (mkh μ c s) _
  refine rn_bipush (k' := 5) rfl rfl ?_
  refine rn_icmp_lt (k' := 6) rfl rfl (fun hc1 => ?_) (fun hc1 => ?_)
  · skip
    refine rn_aload_n (k' := 11) rfl rfl rfl ?_
    refine rn_aload_n (k' := 12) rfl rfl rfl ?_
    obtain ⟨A1, hA1, hc1⟩ := g_ccell (μ := μ) (c := c) (s := s) (b := b) (n := n) (m := m) (p := p) hC0 c8 c9 e0 e1
    have hC2 : CSt (m_upd μ 1 A1) b n m (tkN b n m (tkN b n m p)) := ⟨hC0.1, hC0.2.1, (tkN_b (tkN_b hC0.2.2.1).2.1).2.1, hA1.1, hA1.2.1, hA1.2.2.1⟩
    have ty0 := eN_ok e0
    have ty1 := eN_ok e1
    have hi0 : (1 * 100 + (10 * tkV b n m (tkN b n m p) + tkV b n m p)).toNat = 100 + j0 := by omega
    have hr0 : μ 56 (1 * 100 + (10 * tkV b n m (tkN b n m p) + tkV b n m p)).toNat = μ 56 (100 + j0) := by rw [hi0]
    refine rn_callP (k' := 13) (y := 48) (vs := [mR 3, mR 54]) (S' := []) (v := some (mI (10 * tkV b n m (tkN b n m p) + tkV b n m p))) (h' := mkh (m_upd μ 1 A1) c s) rfl rfl rfl (hc1) ?_
    show Rn PT none kX5_readThing 13 [some (mR 3), some (mR 54), some (mI (1)), none, none] [mI (10 * tkV b n m (tkN b n m p) + tkV b n m p)] (mkh (m_upd μ 1 A1) c s) _
    refine rn_istore_n (k' := 14) (L' := [some (mR 3), some (mR 54), some (mI (1)), some (mI (10 * tkV b n m (tkN b n m p) + tkV b n m p)), none]) rfl rfl (Nat.le_of_ble_eq_true rfl) rfl ?_
    refine rn_iload_n (k' := 15) rfl rfl rfl ?_
    refine rn_iconst (k' := 16) rfl rfl ?_
    refine rn_icmp_ne (k' := 17) rfl rfl (fun hc2 => ?_) (fun hc2 => ?_)
    · skip
      refine rn_iload_n (k' := 20) rfl rfl rfl ?_
      refine rn_bipush (k' := 21) rfl rfl ?_
      refine rn_imul (k' := 22) rfl rfl (by omega) ?_
      refine rn_iload_n (k' := 23) rfl rfl rfl ?_
      refine rn_iadd (k' := 24) rfl rfl (by omega) ?_
      refine rn_istore (k' := 25) (L' := [some (mR 3), some (mR 54), some (mI (1)), some (mI (10 * tkV b n m (tkN b n m p) + tkV b n m p)), some (mI ((1 * 100) + (10 * tkV b n m (tkN b n m p) + tkV b n m p)))]) rfl rfl (Nat.le_of_ble_eq_true rfl) rfl ?_
      refine rn_aload_n (k' := 26) rfl rfl rfl ?_
      refine rn_getR (k' := 27) rfl rfl K0_54 (by decide) rfl R0_54_1 ?_
      refine rn_iload (k' := 28) rfl rfl rfl ?_
      refine rn_iaload (k' := 29) rfl rfl K0_56 (by omega) (by omega) ?_
      show Rn PT none kX5_readThing 29 [some (mR 3), some (mR 54), some (mI (1)), some (mI (10 * tkV b n m (tkN b n m p) + tkV b n m p)), some (mI ((1 * 100) + (10 * tkV b n m (tkN b n m p) + tkV b n m p)))] [mI (μ 56 (((1 * 100) + (10 * tkV b n m (tkN b n m p) + tkV b n m p)).toNat))] (mkh (m_upd μ 1 A1) c s) _
      rw [hr0]
      refine rn_iconst (k' := 30) rfl rfl ?_
      refine rn_icmp_eq (k' := 31) rfl rfl (fun hc3 => ?_) (fun hc3 => ?_)
      · skip
        refine rn_iload_n (k' := 36) rfl rfl rfl ?_
        refine rn_iconst (k' := 37) rfl rfl ?_
        refine rn_icmp_eq (k' := 38) rfl rfl (fun hc4 => ?_) (fun hc4 => ?_)
        · exfalso; omega
        · skip
          refine rn_aload_n (k' := 39) rfl rfl rfl ?_
          refine rn_iconst (k' := 40) rfl rfl ?_
          refine rn_bipush (k' := 41) rfl rfl ?_
          obtain ⟨A2, hA2, hc2⟩ := g_num (μ := (m_upd μ 1 A1)) (c := c) (s := s) (b := b) (n := n) (m := m) (p := (tkN b n m (tkN b n m p))) (lo := 0) (hi := 99) hC2 e2
          have hC3 : CSt (m_upd (m_upd μ 1 A1) 1 A2) b n m (tkN b n m (tkN b n m (tkN b n m p))) := ⟨hC2.1, hC2.2.1, (tkN_b hC2.2.2.1).2.1, hA2.1, hA2.2.1, hA2.2.2.1⟩
          refine rn_callP (k' := 42) (y := 47) (vs := [mR 3, mI (0), mI (99)]) (S' := []) (v := some (mI (1))) (h' := mkh (m_upd (m_upd μ 1 A1) 1 A2) c s) rfl rfl rfl (hc2) ?_
          show Rn PT none kX5_readThing 42 [some (mR 3), some (mR 54), some (mI (1)), some (mI (10 * tkV b n m (tkN b n m p) + tkV b n m p)), some (mI ((1 * 100) + (10 * tkV b n m (tkN b n m p) + tkV b n m p)))] [mI (1)] (mkh (m_upd (m_upd μ 1 A1) 1 A2) c s) _
          refine rn_if_ne (k' := 43) rfl rfl (fun hc5 => ?_) (fun hc5 => ?_)
          · skip
            refine rn_aload_n (k' := 46) rfl rfl rfl ?_
            refine rn_getR (k' := 47) rfl rfl K0_54 (by decide) rfl R0_54_1 ?_
            refine rn_iload (k' := 48) rfl rfl rfl ?_
            refine rn_iload_n (k' := 49) rfl rfl rfl ?_
            refine rn_iconst (k' := 50) rfl rfl ?_
            refine rn_icmp_ne (k' := 51) rfl rfl (fun hc6 => ?_) (fun hc6 => ?_)
            · skip
              refine rn_aload_n (k' := 54) rfl rfl rfl ?_
              refine rn_getR (k' := 55) rfl rfl K0_3 (by decide) rfl R0_3_0 ?_
              refine rn_getI (k' := 56) rfl rfl K0_1 (by decide) rfl ?_
              show Rn PT none kX5_readThing 56 [some (mR 3), some (mR 54), some (mI (1)), some (mI (10 * tkV b n m (tkN b n m p) + tkV b n m p)), some (mI ((1 * 100) + (10 * tkV b n m (tkN b n m p) + tkV b n m p)))] [mI (A2 6), mI ((1 * 100) + (10 * tkV b n m (tkN b n m p) + tkV b n m p)), mR 56] (mkh (m_upd (m_upd μ 1 A1) 1 A2) c s) _
              refine rn_iastore (k' := 57) rfl rfl K0_56 (by omega) (by omega) ?_
              refine rn_aload_n (k' := 58) rfl rfl rfl ?_
              refine rn_getR (k' := 59) rfl rfl K0_54 (by decide) rfl R0_54_2 ?_
              refine rn_iload_n (k' := 60) rfl rfl rfl ?_
              refine rn_dup2 (k' := 61) rfl rfl ?_
              refine rn_iaload (k' := 62) rfl rfl K0_57 (by omega) (by omega) ?_
              show Rn PT none kX5_readThing 62 [some (mR 3), some (mR 54), some (mI (1)), some (mI (10 * tkV b n m (tkN b n m p) + tkV b n m p)), some (mI ((1 * 100) + (10 * tkV b n m (tkN b n m p) + tkV b n m p)))] [mI (μ 57 1), mI (1), mR 57] (mkh (m_set (m_upd (m_upd μ 1 A1) 1 A2) 56 (((1 * 100) + (10 * tkV b n m (tkN b n m p) + tkV b n m p)).toNat) (A2 6)) c s) _
              refine rn_iconst (k' := 63) rfl rfl ?_
              refine rn_iadd (k' := 64) rfl rfl (by omega) ?_
              refine rn_iastore (k' := 65) rfl rfl K0_57 (by omega) (by omega) ?_
              refine rn_aload_n (k' := 66) rfl rfl rfl ?_
              obtain ⟨A3, hA3, hc3⟩ := g_endX (μ := (m_set (m_set (m_upd (m_upd μ 1 A1) 1 A2) 56 (((1 * 100) + (10 * tkV b n m (tkN b n m p) + tkV b n m p)).toNat) (A2 6)) 57 1 ((μ 57 1) + 1))) (c := c) (s := s) (b := b) (n := n) (m := m) (p := (tkN b n m (tkN b n m (tkN b n m p)))) hC3 e3
              refine rn_callP (k' := 67) (y := 50) (vs := [mR 3]) (S' := []) (v := some (mI (0))) (h' := mkh (m_set (m_upd (m_set (m_set (m_upd (m_upd μ 1 A1) 1 A2) 56 (((1 * 100) + (10 * tkV b n m (tkN b n m p) + tkV b n m p)).toNat) (A2 6)) 57 1 ((μ 57 1) + 1)) 1 A3) 3 2 (1)) c s) rfl rfl rfl (hc3) ?_
              show Rn PT none kX5_readThing 67 [some (mR 3), some (mR 54), some (mI (1)), some (mI (10 * tkV b n m (tkN b n m p) + tkV b n m p)), some (mI ((1 * 100) + (10 * tkV b n m (tkN b n m p) + tkV b n m p)))] [mI (0)] (mkh (m_set (m_upd (m_set (m_set (m_upd (m_upd μ 1 A1) 1 A2) 56 (((1 * 100) + (10 * tkV b n m (tkN b n m p) + tkV b n m p)).toNat) (A2 6)) 57 1 ((μ 57 1) + 1)) 1 A3) 3 2 (1)) c s) _
              refine rn_iret rfl (Or.inr (by omega)) ?_
              exact ⟨_, rfl, rfl, hA3.2.2.2.1, (CF.s (CF.u (CF.s (CF.s (CF.u (CF.u CF.r (by decide)) (by decide)) (by decide)) (by decide)) (by decide)) (by decide))⟩
            · exfalso; omega
          · exfalso; omega
      · exfalso; omega
    · exfalso; omega
  · exfalso; omega
set_option maxHeartbeats 1000000 in
theorem k_thing1_full {μ : Nat → Nat → Int} {c s : Nat} {b : Nat → Int} {n m p : Nat} (c8 : 0 ≤ μ 54 8 ∧ μ 54 8 ≤ 10) (c9 : 0 ≤ μ 54 9 ∧ μ 54 9 ≤ 10) (c57 : 0 ≤ μ 57 1) (hC0 : CSt μ b n m p) (hf12 : 12 ≤ μ 57 1) : ∃ μ', (μ' 3 2 = 4 ∧ μ' 1 4 = μ 1 4 ∧ CF μ μ') ∧ Cl PT 56 [mR 3, mR 54, mI (1)] (mkh μ c s) (fun r => r = (some (some (mI 0)), mkh μ' c s)) := by
  refine Cl.ex (g := fun μ' => (some (some (mI 0)), mkh μ' c s)) ?_
  refine ⟨_, PT_56, Nat.le_of_ble_eq_true rfl, ?_⟩
  show Rn PT none kX5_readThing 0 [some (mR 3), some (mR 54), some (mI (1)), none, none] [] (mkh μ c s) _
  refine rn_aload_n (k' := 1) rfl rfl rfl ?_
  refine rn_getR (k' := 2) rfl rfl K0_54 (by decide) rfl R0_54_2 ?_
  refine rn_iload_n (k' := 3) rfl rfl rfl ?_
  refine rn_iaload (k' := 4) rfl rfl K0_57 (by omega) (by omega) ?_
  show Rn PT none kX5_readThing 4 [some (mR 3), some (mR 54), some (mI (1)), none, none] [mI (μ 57 1)] (mkh μ c s) _
  refine rn_bipush (k' := 5) rfl rfl ?_
  refine rn_icmp_lt (k' := 6) rfl rfl (fun hc1 => ?_) (fun hc1 => ?_)
  · exfalso; omega
  · skip
    refine rn_aload_n (k' := 7) rfl rfl rfl ?_
    refine rn_iconst (k' := 8) rfl rfl ?_
    refine rn_callP (k' := 9) (y := 45) (vs := [mR 3, mI (4)]) (S' := []) (v := some (mI (0))) (h' := mkh (m_set μ 3 2 (4)) c s) rfl rfl rfl (g_fail (μ := μ) (e := 4)) ?_
    show Rn PT none kX5_readThing 9 [some (mR 3), some (mR 54), some (mI (1)), none, none] [mI (0)] (mkh (m_set μ 3 2 (4)) c s) _
    refine rn_iret rfl (Or.inr (by omega)) ?_
    exact ⟨_, rfl, rfl, rfl, (CF.s CF.r (by decide))⟩
set_option maxHeartbeats 1000000 in
theorem k_thing1_had {μ : Nat → Nat → Int} {c s : Nat} {b : Nat → Int} {n m p : Nat} (c8 : 0 ≤ μ 54 8 ∧ μ 54 8 ≤ 10) (c9 : 0 ≤ μ 54 9 ∧ μ 54 9 ≤ 10) (c57 : 0 ≤ μ 57 1) (hC0 : CSt μ b n m p) (e0 : eN b n m p 0 (μ 54 8 - 1) = 0) (e1 : eN b n m (tkN b n m p) 0 (μ 54 9 - 1) = 0) (hf12 : ¬ 12 ≤ μ 57 1) {j0 : Nat} (hj : 10 * tkV b n m (tkN b n m p) + tkV b n m p = (j0 : Int)) (hd : ¬ μ 56 (100 + j0) = -1) : ∃ μ', (μ' 3 2 = 3 ∧ μ' 1 4 = ((tkP b n m (tkN b n m p) : Nat) : Int) ∧ CF μ μ') ∧ Cl PT 56 [mR 3, mR 54, mI (1)] (mkh μ c s) (fun r => r = (some (some (mI 0)), mkh μ' c s)) := by
  refine Cl.ex (g := fun μ' => (some (some (mI 0)), mkh μ' c s)) ?_
  refine ⟨_, PT_56, Nat.le_of_ble_eq_true rfl, ?_⟩
  show Rn PT none kX5_readThing 0 [some (mR 3), some (mR 54), some (mI (1)), none, none] [] (mkh μ c s) _
  refine rn_aload_n (k' := 1) rfl rfl rfl ?_
  refine rn_getR (k' := 2) rfl rfl K0_54 (by decide) rfl R0_54_2 ?_
  refine rn_iload_n (k' := 3) rfl rfl rfl ?_
  refine rn_iaload (k' := 4) rfl rfl K0_57 (by omega) (by omega) ?_
  show Rn PT none kX5_readThing 4 [some (mR 3), some (mR 54), some (mI (1)), none, none] [mI (μ 57 1)] (mkh μ c s) _
  refine rn_bipush (k' := 5) rfl rfl ?_
  refine rn_icmp_lt (k' := 6) rfl rfl (fun hc1 => ?_) (fun hc1 => ?_)
  · skip
    refine rn_aload_n (k' := 11) rfl rfl rfl ?_
    refine rn_aload_n (k' := 12) rfl rfl rfl ?_
    obtain ⟨A1, hA1, hc1⟩ := g_ccell (μ := μ) (c := c) (s := s) (b := b) (n := n) (m := m) (p := p) hC0 c8 c9 e0 e1
    have hC2 : CSt (m_upd μ 1 A1) b n m (tkN b n m (tkN b n m p)) := ⟨hC0.1, hC0.2.1, (tkN_b (tkN_b hC0.2.2.1).2.1).2.1, hA1.1, hA1.2.1, hA1.2.2.1⟩
    have ty0 := eN_ok e0
    have ty1 := eN_ok e1
    have hi0 : (1 * 100 + (10 * tkV b n m (tkN b n m p) + tkV b n m p)).toNat = 100 + j0 := by omega
    have hr0 : μ 56 (1 * 100 + (10 * tkV b n m (tkN b n m p) + tkV b n m p)).toNat = μ 56 (100 + j0) := by rw [hi0]
    refine rn_callP (k' := 13) (y := 48) (vs := [mR 3, mR 54]) (S' := []) (v := some (mI (10 * tkV b n m (tkN b n m p) + tkV b n m p))) (h' := mkh (m_upd μ 1 A1) c s) rfl rfl rfl (hc1) ?_
    show Rn PT none kX5_readThing 13 [some (mR 3), some (mR 54), some (mI (1)), none, none] [mI (10 * tkV b n m (tkN b n m p) + tkV b n m p)] (mkh (m_upd μ 1 A1) c s) _
    refine rn_istore_n (k' := 14) (L' := [some (mR 3), some (mR 54), some (mI (1)), some (mI (10 * tkV b n m (tkN b n m p) + tkV b n m p)), none]) rfl rfl (Nat.le_of_ble_eq_true rfl) rfl ?_
    refine rn_iload_n (k' := 15) rfl rfl rfl ?_
    refine rn_iconst (k' := 16) rfl rfl ?_
    refine rn_icmp_ne (k' := 17) rfl rfl (fun hc2 => ?_) (fun hc2 => ?_)
    · skip
      refine rn_iload_n (k' := 20) rfl rfl rfl ?_
      refine rn_bipush (k' := 21) rfl rfl ?_
      refine rn_imul (k' := 22) rfl rfl (by omega) ?_
      refine rn_iload_n (k' := 23) rfl rfl rfl ?_
      refine rn_iadd (k' := 24) rfl rfl (by omega) ?_
      refine rn_istore (k' := 25) (L' := [some (mR 3), some (mR 54), some (mI (1)), some (mI (10 * tkV b n m (tkN b n m p) + tkV b n m p)), some (mI ((1 * 100) + (10 * tkV b n m (tkN b n m p) + tkV b n m p)))]) rfl rfl (Nat.le_of_ble_eq_true rfl) rfl ?_
      refine rn_aload_n (k' := 26) rfl rfl rfl ?_
      refine rn_getR (k' := 27) rfl rfl K0_54 (by decide) rfl R0_54_1 ?_
      refine rn_iload (k' := 28) rfl rfl rfl ?_
      refine rn_iaload (k' := 29) rfl rfl K0_56 (by omega) (by omega) ?_
      show Rn PT none kX5_readThing 29 [some (mR 3), some (mR 54), some (mI (1)), some (mI (10 * tkV b n m (tkN b n m p) + tkV b n m p)), some (mI ((1 * 100) + (10 * tkV b n m (tkN b n m p) + tkV b n m p)))] [mI (μ 56 (((1 * 100) + (10 * tkV b n m (tkN b n m p) + tkV b n m p)).toNat))] (mkh (m_upd μ 1 A1) c s) _
      rw [hr0]
      refine rn_iconst (k' := 30) rfl rfl ?_
      refine rn_icmp_eq (k' := 31) rfl rfl (fun hc3 => ?_) (fun hc3 => ?_)
      · exfalso; omega
      · skip
        refine rn_aload_n (k' := 32) rfl rfl rfl ?_
        refine rn_iconst (k' := 33) rfl rfl ?_
        refine rn_callP (k' := 34) (y := 45) (vs := [mR 3, mI (3)]) (S' := []) (v := some (mI (0))) (h' := mkh (m_set (m_upd μ 1 A1) 3 2 (3)) c s) rfl rfl rfl (g_fail (μ := (m_upd μ 1 A1)) (e := 3)) ?_
        show Rn PT none kX5_readThing 34 [some (mR 3), some (mR 54), some (mI (1)), some (mI (10 * tkV b n m (tkN b n m p) + tkV b n m p)), some (mI ((1 * 100) + (10 * tkV b n m (tkN b n m p) + tkV b n m p)))] [mI (0)] (mkh (m_set (m_upd μ 1 A1) 3 2 (3)) c s) _
        refine rn_iret rfl (Or.inr (by omega)) ?_
        exact ⟨_, rfl, rfl, hA1.2.2.2.1, (CF.s (CF.u CF.r (by decide)) (by decide))⟩
    · exfalso; omega
  · exfalso; omega
set_option maxHeartbeats 1000000 in
theorem k_thing1_ok {μ : Nat → Nat → Int} {c s : Nat} {b : Nat → Int} {n m p : Nat} (c8 : 0 ≤ μ 54 8 ∧ μ 54 8 ≤ 10) (c9 : 0 ≤ μ 54 9 ∧ μ 54 9 ≤ 10) (c57 : 0 ≤ μ 57 1) (hC0 : CSt μ b n m p) (e0 : eN b n m p 0 (μ 54 8 - 1) = 0) (e1 : eN b n m (tkN b n m p) 0 (μ 54 9 - 1) = 0) (e2 : eN b n m (tkN b n m (tkN b n m p)) 0 99 = 0) (e3 : tkK b n m (tkN b n m (tkN b n m (tkN b n m p))) = 3) (hf12 : ¬ 12 ≤ μ 57 1) {j0 : Nat} (hj : 10 * tkV b n m (tkN b n m p) + tkV b n m p = (j0 : Int)) (hd : μ 56 (100 + j0) = -1) : ∃ μ', (CSt μ' b n m (tkN b n m (tkN b n m (tkN b n m (tkN b n m p)))) ∧ CFo μ μ' ∧ μ' 56 (100 + j0) = tkV b n m (tkN b n m (tkN b n m p)) ∧ (∀ j, ¬ j = (100 + j0) → μ' 56 j = μ 56 j) ∧ μ' 57 1 = μ 57 1 + 1 ∧ (∀ j, ¬ j = 1 → μ' 57 j = μ 57 j) ∧ μ' 54 = μ 54 ∧ μ' 55 = μ 55 ∧ μ' 58 = μ 58 ∧ μ' 59 = μ 59 ∧ μ' 60 = μ 60 ∧ μ' 61 = μ 61) ∧ Cl PT 56 [mR 3, mR 54, mI (1)] (mkh μ c s) (fun r => r = (some (some (mI 1)), mkh μ' c s)) := by
  refine Cl.ex (g := fun μ' => (some (some (mI 1)), mkh μ' c s)) ?_
  refine ⟨_, PT_56, Nat.le_of_ble_eq_true rfl, ?_⟩
  show Rn PT none kX5_readThing 0 [some (mR 3), some (mR 54), some (mI (1)), none, none] [] (mkh μ c s) _
  refine rn_aload_n (k' := 1) rfl rfl rfl ?_
  refine rn_getR (k' := 2) rfl rfl K0_54 (by decide) rfl R0_54_2 ?_
  refine rn_iload_n (k' := 3) rfl rfl rfl ?_
  refine rn_iaload (k' := 4) rfl rfl K0_57 (by omega) (by omega) ?_
  show Rn PT none kX5_readThing 4 [some (mR 3), some (mR 54), some (mI (1)), none, none] [mI (μ 57 1)] (mkh μ c s) _
  refine rn_bipush (k' := 5) rfl rfl ?_
  refine rn_icmp_lt (k' := 6) rfl rfl (fun hc1 => ?_) (fun hc1 => ?_)
  · skip
    refine rn_aload_n (k' := 11) rfl rfl rfl ?_
    refine rn_aload_n (k' := 12) rfl rfl rfl ?_
    obtain ⟨A1, hA1, hc1⟩ := g_ccell (μ := μ) (c := c) (s := s) (b := b) (n := n) (m := m) (p := p) hC0 c8 c9 e0 e1
    have hC2 : CSt (m_upd μ 1 A1) b n m (tkN b n m (tkN b n m p)) := ⟨hC0.1, hC0.2.1, (tkN_b (tkN_b hC0.2.2.1).2.1).2.1, hA1.1, hA1.2.1, hA1.2.2.1⟩
    have ty0 := eN_ok e0
    have ty1 := eN_ok e1
    have hi0 : (1 * 100 + (10 * tkV b n m (tkN b n m p) + tkV b n m p)).toNat = 100 + j0 := by omega
    have hr0 : μ 56 (1 * 100 + (10 * tkV b n m (tkN b n m p) + tkV b n m p)).toNat = μ 56 (100 + j0) := by rw [hi0]
    refine rn_callP (k' := 13) (y := 48) (vs := [mR 3, mR 54]) (S' := []) (v := some (mI (10 * tkV b n m (tkN b n m p) + tkV b n m p))) (h' := mkh (m_upd μ 1 A1) c s) rfl rfl rfl (hc1) ?_
    show Rn PT none kX5_readThing 13 [some (mR 3), some (mR 54), some (mI (1)), none, none] [mI (10 * tkV b n m (tkN b n m p) + tkV b n m p)] (mkh (m_upd μ 1 A1) c s) _
    refine rn_istore_n (k' := 14) (L' := [some (mR 3), some (mR 54), some (mI (1)), some (mI (10 * tkV b n m (tkN b n m p) + tkV b n m p)), none]) rfl rfl (Nat.le_of_ble_eq_true rfl) rfl ?_
    refine rn_iload_n (k' := 15) rfl rfl rfl ?_
    refine rn_iconst (k' := 16) rfl rfl ?_
    refine rn_icmp_ne (k' := 17) rfl rfl (fun hc2 => ?_) (fun hc2 => ?_)
    · skip
      refine rn_iload_n (k' := 20) rfl rfl rfl ?_
      refine rn_bipush (k' := 21) rfl rfl ?_
      refine rn_imul (k' := 22) rfl rfl (by omega) ?_
      refine rn_iload_n (k' := 23) rfl rfl rfl ?_
      refine rn_iadd (k' := 24) rfl rfl (by omega) ?_
      refine rn_istore (k' := 25) (L' := [some (mR 3), some (mR 54), some (mI (1)), some (mI (10 * tkV b n m (tkN b n m p) + tkV b n m p)), some (mI ((1 * 100) + (10 * tkV b n m (tkN b n m p) + tkV b n m p)))]) rfl rfl (Nat.le_of_ble_eq_true rfl) rfl ?_
      refine rn_aload_n (k' := 26) rfl rfl rfl ?_
      refine rn_getR (k' := 27) rfl rfl K0_54 (by decide) rfl R0_54_1 ?_
      refine rn_iload (k' := 28) rfl rfl rfl ?_
      refine rn_iaload (k' := 29) rfl rfl K0_56 (by omega) (by omega) ?_
      show Rn PT none kX5_readThing 29 [some (mR 3), some (mR 54), some (mI (1)), some (mI (10 * tkV b n m (tkN b n m p) + tkV b n m p)), some (mI ((1 * 100) + (10 * tkV b n m (tkN b n m p) + tkV b n m p)))] [mI (μ 56 (((1 * 100) + (10 * tkV b n m (tkN b n m p) + tkV b n m p)).toNat))] (mkh (m_upd μ 1 A1) c s) _
      rw [hr0]
      refine rn_iconst (k' := 30) rfl rfl ?_
      refine rn_icmp_eq (k' := 31) rfl rfl (fun hc3 => ?_) (fun hc3 => ?_)
      · skip
        refine rn_iload_n (k' := 36) rfl rfl rfl ?_
        refine rn_iconst (k' := 37) rfl rfl ?_
        refine rn_icmp_eq (k' := 38) rfl rfl (fun hc4 => ?_) (fun hc4 => ?_)
        · exfalso; omega
        · skip
          refine rn_aload_n (k' := 39) rfl rfl rfl ?_
          refine rn_iconst (k' := 40) rfl rfl ?_
          refine rn_bipush (k' := 41) rfl rfl ?_
          obtain ⟨A2, hA2, hc2⟩ := g_num (μ := (m_upd μ 1 A1)) (c := c) (s := s) (b := b) (n := n) (m := m) (p := (tkN b n m (tkN b n m p))) (lo := 0) (hi := 99) hC2 e2
          have hC3 : CSt (m_upd (m_upd μ 1 A1) 1 A2) b n m (tkN b n m (tkN b n m (tkN b n m p))) := ⟨hC2.1, hC2.2.1, (tkN_b hC2.2.2.1).2.1, hA2.1, hA2.2.1, hA2.2.2.1⟩
          refine rn_callP (k' := 42) (y := 47) (vs := [mR 3, mI (0), mI (99)]) (S' := []) (v := some (mI (1))) (h' := mkh (m_upd (m_upd μ 1 A1) 1 A2) c s) rfl rfl rfl (hc2) ?_
          show Rn PT none kX5_readThing 42 [some (mR 3), some (mR 54), some (mI (1)), some (mI (10 * tkV b n m (tkN b n m p) + tkV b n m p)), some (mI ((1 * 100) + (10 * tkV b n m (tkN b n m p) + tkV b n m p)))] [mI (1)] (mkh (m_upd (m_upd μ 1 A1) 1 A2) c s) _
          refine rn_if_ne (k' := 43) rfl rfl (fun hc5 => ?_) (fun hc5 => ?_)
          · skip
            refine rn_aload_n (k' := 46) rfl rfl rfl ?_
            refine rn_getR (k' := 47) rfl rfl K0_54 (by decide) rfl R0_54_1 ?_
            refine rn_iload (k' := 48) rfl rfl rfl ?_
            refine rn_iload_n (k' := 49) rfl rfl rfl ?_
            refine rn_iconst (k' := 50) rfl rfl ?_
            refine rn_icmp_ne (k' := 51) rfl rfl (fun hc6 => ?_) (fun hc6 => ?_)
            · skip
              refine rn_aload_n (k' := 54) rfl rfl rfl ?_
              refine rn_getR (k' := 55) rfl rfl K0_3 (by decide) rfl R0_3_0 ?_
              refine rn_getI (k' := 56) rfl rfl K0_1 (by decide) rfl ?_
              show Rn PT none kX5_readThing 56 [some (mR 3), some (mR 54), some (mI (1)), some (mI (10 * tkV b n m (tkN b n m p) + tkV b n m p)), some (mI ((1 * 100) + (10 * tkV b n m (tkN b n m p) + tkV b n m p)))] [mI (A2 6), mI ((1 * 100) + (10 * tkV b n m (tkN b n m p) + tkV b n m p)), mR 56] (mkh (m_upd (m_upd μ 1 A1) 1 A2) c s) _
              refine rn_iastore (k' := 57) rfl rfl K0_56 (by omega) (by omega) ?_
              refine rn_aload_n (k' := 58) rfl rfl rfl ?_
              refine rn_getR (k' := 59) rfl rfl K0_54 (by decide) rfl R0_54_2 ?_
              refine rn_iload_n (k' := 60) rfl rfl rfl ?_
              refine rn_dup2 (k' := 61) rfl rfl ?_
              refine rn_iaload (k' := 62) rfl rfl K0_57 (by omega) (by omega) ?_
              show Rn PT none kX5_readThing 62 [some (mR 3), some (mR 54), some (mI (1)), some (mI (10 * tkV b n m (tkN b n m p) + tkV b n m p)), some (mI ((1 * 100) + (10 * tkV b n m (tkN b n m p) + tkV b n m p)))] [mI (μ 57 1), mI (1), mR 57] (mkh (m_set (m_upd (m_upd μ 1 A1) 1 A2) 56 (((1 * 100) + (10 * tkV b n m (tkN b n m p) + tkV b n m p)).toNat) (A2 6)) c s) _
              refine rn_iconst (k' := 63) rfl rfl ?_
              refine rn_iadd (k' := 64) rfl rfl (by omega) ?_
              refine rn_iastore (k' := 65) rfl rfl K0_57 (by omega) (by omega) ?_
              refine rn_aload_n (k' := 66) rfl rfl rfl ?_
              obtain ⟨A3, hA3, hc3⟩ := g_end (μ := (m_set (m_set (m_upd (m_upd μ 1 A1) 1 A2) 56 (((1 * 100) + (10 * tkV b n m (tkN b n m p) + tkV b n m p)).toNat) (A2 6)) 57 1 ((μ 57 1) + 1))) (c := c) (s := s) (b := b) (n := n) (m := m) (p := (tkN b n m (tkN b n m (tkN b n m p)))) hC3 e3
              have hC4 : CSt (m_upd (m_set (m_set (m_upd (m_upd μ 1 A1) 1 A2) 56 (((1 * 100) + (10 * tkV b n m (tkN b n m p) + tkV b n m p)).toNat) (A2 6)) 57 1 ((μ 57 1) + 1)) 1 A3) b n m (tkN b n m (tkN b n m (tkN b n m (tkN b n m p)))) := ⟨hC3.1, hC3.2.1, (tkN_b hC3.2.2.1).2.1, hA3.1, hA3.2.1, hA3.2.2.1⟩
              refine rn_callP (k' := 67) (y := 50) (vs := [mR 3]) (S' := []) (v := some (mI (1))) (h' := mkh (m_upd (m_set (m_set (m_upd (m_upd μ 1 A1) 1 A2) 56 (((1 * 100) + (10 * tkV b n m (tkN b n m p) + tkV b n m p)).toNat) (A2 6)) 57 1 ((μ 57 1) + 1)) 1 A3) c s) rfl rfl rfl (hc3) ?_
              show Rn PT none kX5_readThing 67 [some (mR 3), some (mR 54), some (mI (1)), some (mI (10 * tkV b n m (tkN b n m p) + tkV b n m p)), some (mI ((1 * 100) + (10 * tkV b n m (tkN b n m p) + tkV b n m p)))] [mI (1)] (mkh (m_upd (m_set (m_set (m_upd (m_upd μ 1 A1) 1 A2) 56 (((1 * 100) + (10 * tkV b n m (tkN b n m p) + tkV b n m p)).toNat) (A2 6)) 57 1 ((μ 57 1) + 1)) 1 A3) c s) _
              refine rn_iret rfl (Or.inr (by omega)) ?_
              exact ⟨_, rfl, hC4, ⟨(CF.u (CF.s (CF.s (CF.u (CF.u CF.r (by decide)) (by decide)) (by decide)) (by decide)) (by decide)), rfl⟩, ⟨(set_hit hi0).trans hA2.2.2.2.2.2, (fun j hj2 => set_mis (by omega)), rfl, (fun j hj2 => set_mis hj2), rfl, rfl, rfl, rfl, rfl, rfl⟩⟩
            · exfalso; omega
          · exfalso; omega
      · exfalso; omega
    · exfalso; omega
  · exfalso; omega
set_option maxHeartbeats 1000000 in
theorem k_thing2_x0 {μ : Nat → Nat → Int} {c s : Nat} {b : Nat → Int} {n m p : Nat} (c8 : 0 ≤ μ 54 8 ∧ μ 54 8 ≤ 10) (c9 : 0 ≤ μ 54 9 ∧ μ 54 9 ≤ 10) (c57 : 0 ≤ μ 57 2) (hC0 : CSt μ b n m p) (e0 : ¬ eN b n m p 0 (μ 54 8 - 1) = 0) (hf12 : ¬ 12 ≤ μ 57 2) : ∃ μ', (μ' 3 2 = eN b n m p 0 (μ 54 8 - 1) ∧ μ' 1 4 = ((tkP b n m p : Nat) : Int) ∧ CF μ μ') ∧ Cl PT 56 [mR 3, mR 54, mI (2)] (mkh μ c s) (fun r => r = (some (some (mI 0)), mkh μ' c s)) := by
  refine Cl.ex (g := fun μ' => (some (some (mI 0)), mkh μ' c s)) ?_
  refine ⟨_, PT_56, Nat.le_of_ble_eq_true rfl, ?_⟩
  show Rn PT none kX5_readThing 0 [some (mR 3), some (mR 54), some (mI (2)), none, none] [] (mkh μ c s) _
  refine rn_aload_n (k' := 1) rfl rfl rfl ?_
  refine rn_getR (k' := 2) rfl rfl K0_54 (by decide) rfl R0_54_2 ?_
  refine rn_iload_n (k' := 3) rfl rfl rfl ?_
  refine rn_iaload (k' := 4) rfl rfl K0_57 (by omega) (by omega) ?_
  show Rn PT none kX5_readThing 4 [some (mR 3), some (mR 54), some (mI (2)), none, none] [mI (μ 57 2)] (mkh μ c s) _
  refine rn_bipush (k' := 5) rfl rfl ?_
  refine rn_icmp_lt (k' := 6) rfl rfl (fun hc1 => ?_) (fun hc1 => ?_)
  · skip
    refine rn_aload_n (k' := 11) rfl rfl rfl ?_
    refine rn_aload_n (k' := 12) rfl rfl rfl ?_
    obtain ⟨A0, hA0, hc0⟩ := g_ccellX0 (μ := μ) (c := c) (s := s) (b := b) (n := n) (m := m) (p := p) hC0 c8 c9 e0
    refine rn_callP (k' := 13) (y := 48) (vs := [mR 3, mR 54]) (S' := []) (v := some (mI (-1))) (h' := mkh (m_set (m_upd μ 1 A0) 3 2 (eN b n m p 0 (μ 54 8 - 1))) c s) rfl rfl rfl (hc0) ?_
    show Rn PT none kX5_readThing 13 [some (mR 3), some (mR 54), some (mI (2)), none, none] [mI (-1)] (mkh (m_set (m_upd μ 1 A0) 3 2 (eN b n m p 0 (μ 54 8 - 1))) c s) _
    refine rn_istore_n (k' := 14) (L' := [some (mR 3), some (mR 54), some (mI (2)), some (mI (-1)), none]) rfl rfl (Nat.le_of_ble_eq_true rfl) rfl ?_
    refine rn_iload_n (k' := 15) rfl rfl rfl ?_
    refine rn_iconst (k' := 16) rfl rfl ?_
    refine rn_icmp_ne (k' := 17) rfl rfl (fun hc2 => ?_) (fun hc2 => ?_)
    · exfalso; omega
    · skip
      refine rn_iconst (k' := 18) rfl rfl ?_
      refine rn_iret rfl (Or.inr (by omega)) ?_
      exact ⟨_, rfl, rfl, hA0.2.2.2.1, (CF.s (CF.u CF.r (by decide)) (by decide))⟩
  · exfalso; omega
set_option maxHeartbeats 1000000 in
theorem k_thing2_x1 {μ : Nat → Nat → Int} {c s : Nat} {b : Nat → Int} {n m p : Nat} (c8 : 0 ≤ μ 54 8 ∧ μ 54 8 ≤ 10) (c9 : 0 ≤ μ 54 9 ∧ μ 54 9 ≤ 10) (c57 : 0 ≤ μ 57 2) (hC0 : CSt μ b n m p) (e0 : eN b n m p 0 (μ 54 8 - 1) = 0) (e1 : ¬ eN b n m (tkN b n m p) 0 (μ 54 9 - 1) = 0) (hf12 : ¬ 12 ≤ μ 57 2) : ∃ μ', (μ' 3 2 = eN b n m (tkN b n m p) 0 (μ 54 9 - 1) ∧ μ' 1 4 = ((tkP b n m (tkN b n m p) : Nat) : Int) ∧ CF μ μ') ∧ Cl PT 56 [mR 3, mR 54, mI (2)] (mkh μ c s) (fun r => r = (some (some (mI 0)), mkh μ' c s)) := by
  refine Cl.ex (g := fun μ' => (some (some (mI 0)), mkh μ' c s)) ?_
  refine ⟨_, PT_56, Nat.le_of_ble_eq_true rfl, ?_⟩
  show Rn PT none kX5_readThing 0 [some (mR 3), some (mR 54), some (mI (2)), none, none] [] (mkh μ c s) _
  refine rn_aload_n (k' := 1) rfl rfl rfl ?_
  refine rn_getR (k' := 2) rfl rfl K0_54 (by decide) rfl R0_54_2 ?_
  refine rn_iload_n (k' := 3) rfl rfl rfl ?_
  refine rn_iaload (k' := 4) rfl rfl K0_57 (by omega) (by omega) ?_
  show Rn PT none kX5_readThing 4 [some (mR 3), some (mR 54), some (mI (2)), none, none] [mI (μ 57 2)] (mkh μ c s) _
  refine rn_bipush (k' := 5) rfl rfl ?_
  refine rn_icmp_lt (k' := 6) rfl rfl (fun hc1 => ?_) (fun hc1 => ?_)
  · skip
    refine rn_aload_n (k' := 11) rfl rfl rfl ?_
    refine rn_aload_n (k' := 12) rfl rfl rfl ?_
    obtain ⟨A1, hA1, hc1⟩ := g_ccellX1 (μ := μ) (c := c) (s := s) (b := b) (n := n) (m := m) (p := p) hC0 c8 c9 e0 e1
    refine rn_callP (k' := 13) (y := 48) (vs := [mR 3, mR 54]) (S' := []) (v := some (mI (-1))) (h' := mkh (m_set (m_upd μ 1 A1) 3 2 (eN b n m (tkN b n m p) 0 (μ 54 9 - 1))) c s) rfl rfl rfl (hc1) ?_
    show Rn PT none kX5_readThing 13 [some (mR 3), some (mR 54), some (mI (2)), none, none] [mI (-1)] (mkh (m_set (m_upd μ 1 A1) 3 2 (eN b n m (tkN b n m p) 0 (μ 54 9 - 1))) c s) _
    refine rn_istore_n (k' := 14) (L' := [some (mR 3), some (mR 54), some (mI (2)), some (mI (-1)), none]) rfl rfl (Nat.le_of_ble_eq_true rfl) rfl ?_
    refine rn_iload_n (k' := 15) rfl rfl rfl ?_
    refine rn_iconst (k' := 16) rfl rfl ?_
    refine rn_icmp_ne (k' := 17) rfl rfl (fun hc2 => ?_) (fun hc2 => ?_)
    · exfalso; omega
    · skip
      refine rn_iconst (k' := 18) rfl rfl ?_
      refine rn_iret rfl (Or.inr (by omega)) ?_
      exact ⟨_, rfl, rfl, hA1.2.2.2.1, (CF.s (CF.u CF.r (by decide)) (by decide))⟩
  · exfalso; omega
set_option maxHeartbeats 1000000 in
theorem k_thing2_x2 {μ : Nat → Nat → Int} {c s : Nat} {b : Nat → Int} {n m p : Nat} (c8 : 0 ≤ μ 54 8 ∧ μ 54 8 ≤ 10) (c9 : 0 ≤ μ 54 9 ∧ μ 54 9 ≤ 10) (c57 : 0 ≤ μ 57 2) (hC0 : CSt μ b n m p) (e0 : eN b n m p 0 (μ 54 8 - 1) = 0) (e1 : eN b n m (tkN b n m p) 0 (μ 54 9 - 1) = 0) (e2 : ¬ tkK b n m (tkN b n m (tkN b n m p)) = 3) (hf12 : ¬ 12 ≤ μ 57 2) {j0 : Nat} (hj : 10 * tkV b n m (tkN b n m p) + tkV b n m p = (j0 : Int)) (hd : μ 56 (200 + j0) = -1) : ∃ μ', (μ' 3 2 = 1 ∧ μ' 1 4 = ((tkP b n m (tkN b n m (tkN b n m p)) : Nat) : Int) ∧ CF μ μ') ∧ Cl PT 56 [mR 3, mR 54, mI (2)] (mkh μ c s) (fun r => r = (some (some (mI 0)), mkh μ' c s)) := by
  refine Cl.ex (g := fun μ' => (some (some (mI 0)), mkh μ' c s)) ?_
  refine ⟨_, PT_56, Nat.le_of_ble_eq_true rfl, ?_⟩
  show Rn PT none kX5_readThing 0 [some (mR 3), some (mR 54), some (mI (2)), none, none] [] (mkh μ c s) _
  refine rn_aload_n (k' := 1) rfl rfl rfl ?_
  refine rn_getR (k' := 2) rfl rfl K0_54 (by decide) rfl R0_54_2 ?_
  refine rn_iload_n (k' := 3) rfl rfl rfl ?_
  refine rn_iaload (k' := 4) rfl rfl K0_57 (by omega) (by omega) ?_
  show Rn PT none kX5_readThing 4 [some (mR 3), some (mR 54), some (mI (2)), none, none] [mI (μ 57 2)] (mkh μ c s) _
  refine rn_bipush (k' := 5) rfl rfl ?_
  refine rn_icmp_lt (k' := 6) rfl rfl (fun hc1 => ?_) (fun hc1 => ?_)
  · skip
    refine rn_aload_n (k' := 11) rfl rfl rfl ?_
    refine rn_aload_n (k' := 12) rfl rfl rfl ?_
    obtain ⟨A1, hA1, hc1⟩ := g_ccell (μ := μ) (c := c) (s := s) (b := b) (n := n) (m := m) (p := p) hC0 c8 c9 e0 e1
    have hC2 : CSt (m_upd μ 1 A1) b n m (tkN b n m (tkN b n m p)) := ⟨hC0.1, hC0.2.1, (tkN_b (tkN_b hC0.2.2.1).2.1).2.1, hA1.1, hA1.2.1, hA1.2.2.1⟩
    have ty0 := eN_ok e0
    have ty1 := eN_ok e1
    have hi0 : (2 * 100 + (10 * tkV b n m (tkN b n m p) + tkV b n m p)).toNat = 200 + j0 := by omega
    have hr0 : μ 56 (2 * 100 + (10 * tkV b n m (tkN b n m p) + tkV b n m p)).toNat = μ 56 (200 + j0) := by rw [hi0]
    refine rn_callP (k' := 13) (y := 48) (vs := [mR 3, mR 54]) (S' := []) (v := some (mI (10 * tkV b n m (tkN b n m p) + tkV b n m p))) (h' := mkh (m_upd μ 1 A1) c s) rfl rfl rfl (hc1) ?_
    show Rn PT none kX5_readThing 13 [some (mR 3), some (mR 54), some (mI (2)), none, none] [mI (10 * tkV b n m (tkN b n m p) + tkV b n m p)] (mkh (m_upd μ 1 A1) c s) _
    refine rn_istore_n (k' := 14) (L' := [some (mR 3), some (mR 54), some (mI (2)), some (mI (10 * tkV b n m (tkN b n m p) + tkV b n m p)), none]) rfl rfl (Nat.le_of_ble_eq_true rfl) rfl ?_
    refine rn_iload_n (k' := 15) rfl rfl rfl ?_
    refine rn_iconst (k' := 16) rfl rfl ?_
    refine rn_icmp_ne (k' := 17) rfl rfl (fun hc2 => ?_) (fun hc2 => ?_)
    · skip
      refine rn_iload_n (k' := 20) rfl rfl rfl ?_
      refine rn_bipush (k' := 21) rfl rfl ?_
      refine rn_imul (k' := 22) rfl rfl (by omega) ?_
      refine rn_iload_n (k' := 23) rfl rfl rfl ?_
      refine rn_iadd (k' := 24) rfl rfl (by omega) ?_
      refine rn_istore (k' := 25) (L' := [some (mR 3), some (mR 54), some (mI (2)), some (mI (10 * tkV b n m (tkN b n m p) + tkV b n m p)), some (mI ((2 * 100) + (10 * tkV b n m (tkN b n m p) + tkV b n m p)))]) rfl rfl (Nat.le_of_ble_eq_true rfl) rfl ?_
      refine rn_aload_n (k' := 26) rfl rfl rfl ?_
      refine rn_getR (k' := 27) rfl rfl K0_54 (by decide) rfl R0_54_1 ?_
      refine rn_iload (k' := 28) rfl rfl rfl ?_
      refine rn_iaload (k' := 29) rfl rfl K0_56 (by omega) (by omega) ?_
      show Rn PT none kX5_readThing 29 [some (mR 3), some (mR 54), some (mI (2)), some (mI (10 * tkV b n m (tkN b n m p) + tkV b n m p)), some (mI ((2 * 100) + (10 * tkV b n m (tkN b n m p) + tkV b n m p)))] [mI (μ 56 (((2 * 100) + (10 * tkV b n m (tkN b n m p) + tkV b n m p)).toNat))] (mkh (m_upd μ 1 A1) c s) _
      rw [hr0]
      refine rn_iconst (k' := 30) rfl rfl ?_
      refine rn_icmp_eq (k' := 31) rfl rfl (fun hc3 => ?_) (fun hc3 => ?_)
      · skip
        refine rn_iload_n (k' := 36) rfl rfl rfl ?_
        refine rn_iconst (k' := 37) rfl rfl ?_
        refine rn_icmp_eq (k' := 38) rfl rfl (fun hc4 => ?_) (fun hc4 => ?_)
        · skip
          refine rn_aload_n (k' := 46) rfl rfl rfl ?_
          refine rn_getR (k' := 47) rfl rfl K0_54 (by decide) rfl R0_54_1 ?_
          refine rn_iload (k' := 48) rfl rfl rfl ?_
          refine rn_iload_n (k' := 49) rfl rfl rfl ?_
          refine rn_iconst (k' := 50) rfl rfl ?_
          refine rn_icmp_ne (k' := 51) rfl rfl (fun hc5 => ?_) (fun hc5 => ?_)
          · exfalso; omega
          · skip
            refine rn_iconst (k' := 52) rfl rfl ?_
            refine rn_goto rfl ?_
            refine rn_iastore (k' := 57) rfl rfl K0_56 (by omega) (by omega) ?_
            refine rn_aload_n (k' := 58) rfl rfl rfl ?_
            refine rn_getR (k' := 59) rfl rfl K0_54 (by decide) rfl R0_54_2 ?_
            refine rn_iload_n (k' := 60) rfl rfl rfl ?_
            refine rn_dup2 (k' := 61) rfl rfl ?_
            refine rn_iaload (k' := 62) rfl rfl K0_57 (by omega) (by omega) ?_
            show Rn PT none kX5_readThing 62 [some (mR 3), some (mR 54), some (mI (2)), some (mI (10 * tkV b n m (tkN b n m p) + tkV b n m p)), some (mI ((2 * 100) + (10 * tkV b n m (tkN b n m p) + tkV b n m p)))] [mI (μ 57 2), mI (2), mR 57] (mkh (m_set (m_upd μ 1 A1) 56 (((2 * 100) + (10 * tkV b n m (tkN b n m p) + tkV b n m p)).toNat) (0)) c s) _
            refine rn_iconst (k' := 63) rfl rfl ?_
            refine rn_iadd (k' := 64) rfl rfl (by omega) ?_
            refine rn_iastore (k' := 65) rfl rfl K0_57 (by omega) (by omega) ?_
            refine rn_aload_n (k' := 66) rfl rfl rfl ?_
            obtain ⟨A2, hA2, hc2⟩ := g_endX (μ := (m_set (m_set (m_upd μ 1 A1) 56 (((2 * 100) + (10 * tkV b n m (tkN b n m p) + tkV b n m p)).toNat) (0)) 57 2 ((μ 57 2) + 1))) (c := c) (s := s) (b := b) (n := n) (m := m) (p := (tkN b n m (tkN b n m p))) hC2 e2
            refine rn_callP (k' := 67) (y := 50) (vs := [mR 3]) (S' := []) (v := some (mI (0))) (h' := mkh (m_set (m_upd (m_set (m_set (m_upd μ 1 A1) 56 (((2 * 100) + (10 * tkV b n m (tkN b n m p) + tkV b n m p)).toNat) (0)) 57 2 ((μ 57 2) + 1)) 1 A2) 3 2 (1)) c s) rfl rfl rfl (hc2) ?_
            show Rn PT none kX5_readThing 67 [some (mR 3), some (mR 54), some (mI (2)), some (mI (10 * tkV b n m (tkN b n m p) + tkV b n m p)), some (mI ((2 * 100) + (10 * tkV b n m (tkN b n m p) + tkV b n m p)))] [mI (0)] (mkh (m_set (m_upd (m_set (m_set (m_upd μ 1 A1) 56 (((2 * 100) + (10 * tkV b n m (tkN b n m p) + tkV b n m p)).toNat) (0)) 57 2 ((μ 57 2) + 1)) 1 A2) 3 2 (1)) c s) _
            refine rn_iret rfl (Or.inr (by omega)) ?_
            exact ⟨_, rfl, rfl, hA2.2.2.2.1, (CF.s (CF.u (CF.s (CF.s (CF.u CF.r (by decide)) (by decide)) (by decide)) (by decide)) (by decide))⟩
        · exfalso; omega
      · exfalso; omega
    · exfalso; omega
  · exfalso; omega
set_option maxHeartbeats 1000000 in
theorem k_thing2_full {μ : Nat → Nat → Int} {c s : Nat} {b : Nat → Int} {n m p : Nat} (c8 : 0 ≤ μ 54 8 ∧ μ 54 8 ≤ 10) (c9 : 0 ≤ μ 54 9 ∧ μ 54 9 ≤ 10) (c57 : 0 ≤ μ 57 2) (hC0 : CSt μ b n m p) (hf12 : 12 ≤ μ 57 2) : ∃ μ', (μ' 3 2 = 4 ∧ μ' 1 4 = μ 1 4 ∧ CF μ μ') ∧ Cl PT 56 [mR 3, mR 54, mI (2)] (mkh μ c s) (fun r => r = (some (some (mI 0)), mkh μ' c s)) := by
  refine Cl.ex (g := fun μ' => (some (some (mI 0)), mkh μ' c s)) ?_
  refine ⟨_, PT_56, Nat.le_of_ble_eq_true rfl, ?_⟩
  show Rn PT none kX5_readThing 0 [some (mR 3), some (mR 54), some (mI (2)), none, none] [] (mkh μ c s) _
  refine rn_aload_n (k' := 1) rfl rfl rfl ?_
  refine rn_getR (k' := 2) rfl rfl K0_54 (by decide) rfl R0_54_2 ?_
  refine rn_iload_n (k' := 3) rfl rfl rfl ?_
  refine rn_iaload (k' := 4) rfl rfl K0_57 (by omega) (by omega) ?_
  show Rn PT none kX5_readThing 4 [some (mR 3), some (mR 54), some (mI (2)), none, none] [mI (μ 57 2)] (mkh μ c s) _
  refine rn_bipush (k' := 5) rfl rfl ?_
  refine rn_icmp_lt (k' := 6) rfl rfl (fun hc1 => ?_) (fun hc1 => ?_)
  · exfalso; omega
  · skip
    refine rn_aload_n (k' := 7) rfl rfl rfl ?_
    refine rn_iconst (k' := 8) rfl rfl ?_
    refine rn_callP (k' := 9) (y := 45) (vs := [mR 3, mI (4)]) (S' := []) (v := some (mI (0))) (h' := mkh (m_set μ 3 2 (4)) c s) rfl rfl rfl (g_fail (μ := μ) (e := 4)) ?_
    show Rn PT none kX5_readThing 9 [some (mR 3), some (mR 54), some (mI (2)), none, none] [mI (0)] (mkh (m_set μ 3 2 (4)) c s) _
    refine rn_iret rfl (Or.inr (by omega)) ?_
    exact ⟨_, rfl, rfl, rfl, (CF.s CF.r (by decide))⟩
set_option maxHeartbeats 1000000 in
theorem k_thing2_had {μ : Nat → Nat → Int} {c s : Nat} {b : Nat → Int} {n m p : Nat} (c8 : 0 ≤ μ 54 8 ∧ μ 54 8 ≤ 10) (c9 : 0 ≤ μ 54 9 ∧ μ 54 9 ≤ 10) (c57 : 0 ≤ μ 57 2) (hC0 : CSt μ b n m p) (e0 : eN b n m p 0 (μ 54 8 - 1) = 0) (e1 : eN b n m (tkN b n m p) 0 (μ 54 9 - 1) = 0) (hf12 : ¬ 12 ≤ μ 57 2) {j0 : Nat} (hj : 10 * tkV b n m (tkN b n m p) + tkV b n m p = (j0 : Int)) (hd : ¬ μ 56 (200 + j0) = -1) : ∃ μ', (μ' 3 2 = 3 ∧ μ' 1 4 = ((tkP b n m (tkN b n m p) : Nat) : Int) ∧ CF μ μ') ∧ Cl PT 56 [mR 3, mR 54, mI (2)] (mkh μ c s) (fun r => r = (some (some (mI 0)), mkh μ' c s)) := by
  refine Cl.ex (g := fun μ' => (some (some (mI 0)), mkh μ' c s)) ?_
  refine ⟨_, PT_56, Nat.le_of_ble_eq_true rfl, ?_⟩
  show Rn PT none kX5_readThing 0 [some (mR 3), some (mR 54), some (mI (2)), none, none] [] (mkh μ c s) _
  refine rn_aload_n (k' := 1) rfl rfl rfl ?_
  refine rn_getR (k' := 2) rfl rfl K0_54 (by decide) rfl R0_54_2 ?_
  refine rn_iload_n (k' := 3) rfl rfl rfl ?_
  refine rn_iaload (k' := 4) rfl rfl K0_57 (by omega) (by omega) ?_
  show Rn PT none kX5_readThing 4 [some (mR 3), some (mR 54), some (mI (2)), none, none] [mI (μ 57 2)] (mkh μ c s) _
  refine rn_bipush (k' := 5) rfl rfl ?_
  refine rn_icmp_lt (k' := 6) rfl rfl (fun hc1 => ?_) (fun hc1 => ?_)
  · skip
    refine rn_aload_n (k' := 11) rfl rfl rfl ?_
    refine rn_aload_n (k' := 12) rfl rfl rfl ?_
    obtain ⟨A1, hA1, hc1⟩ := g_ccell (μ := μ) (c := c) (s := s) (b := b) (n := n) (m := m) (p := p) hC0 c8 c9 e0 e1
    have hC2 : CSt (m_upd μ 1 A1) b n m (tkN b n m (tkN b n m p)) := ⟨hC0.1, hC0.2.1, (tkN_b (tkN_b hC0.2.2.1).2.1).2.1, hA1.1, hA1.2.1, hA1.2.2.1⟩
    have ty0 := eN_ok e0
    have ty1 := eN_ok e1
    have hi0 : (2 * 100 + (10 * tkV b n m (tkN b n m p) + tkV b n m p)).toNat = 200 + j0 := by omega
    have hr0 : μ 56 (2 * 100 + (10 * tkV b n m (tkN b n m p) + tkV b n m p)).toNat = μ 56 (200 + j0) := by rw [hi0]
    refine rn_callP (k' := 13) (y := 48) (vs := [mR 3, mR 54]) (S' := []) (v := some (mI (10 * tkV b n m (tkN b n m p) + tkV b n m p))) (h' := mkh (m_upd μ 1 A1) c s) rfl rfl rfl (hc1) ?_
    show Rn PT none kX5_readThing 13 [some (mR 3), some (mR 54), some (mI (2)), none, none] [mI (10 * tkV b n m (tkN b n m p) + tkV b n m p)] (mkh (m_upd μ 1 A1) c s) _
    refine rn_istore_n (k' := 14) (L' := [some (mR 3), some (mR 54), some (mI (2)), some (mI (10 * tkV b n m (tkN b n m p) + tkV b n m p)), none]) rfl rfl (Nat.le_of_ble_eq_true rfl) rfl ?_
    refine rn_iload_n (k' := 15) rfl rfl rfl ?_
    refine rn_iconst (k' := 16) rfl rfl ?_
    refine rn_icmp_ne (k' := 17) rfl rfl (fun hc2 => ?_) (fun hc2 => ?_)
    · skip
      refine rn_iload_n (k' := 20) rfl rfl rfl ?_
      refine rn_bipush (k' := 21) rfl rfl ?_
      refine rn_imul (k' := 22) rfl rfl (by omega) ?_
      refine rn_iload_n (k' := 23) rfl rfl rfl ?_
      refine rn_iadd (k' := 24) rfl rfl (by omega) ?_
      refine rn_istore (k' := 25) (L' := [some (mR 3), some (mR 54), some (mI (2)), some (mI (10 * tkV b n m (tkN b n m p) + tkV b n m p)), some (mI ((2 * 100) + (10 * tkV b n m (tkN b n m p) + tkV b n m p)))]) rfl rfl (Nat.le_of_ble_eq_true rfl) rfl ?_
      refine rn_aload_n (k' := 26) rfl rfl rfl ?_
      refine rn_getR (k' := 27) rfl rfl K0_54 (by decide) rfl R0_54_1 ?_
      refine rn_iload (k' := 28) rfl rfl rfl ?_
      refine rn_iaload (k' := 29) rfl rfl K0_56 (by omega) (by omega) ?_
      show Rn PT none kX5_readThing 29 [some (mR 3), some (mR 54), some (mI (2)), some (mI (10 * tkV b n m (tkN b n m p) + tkV b n m p)), some (mI ((2 * 100) + (10 * tkV b n m (tkN b n m p) + tkV b n m p)))] [mI (μ 56 (((2 * 100) + (10 * tkV b n m (tkN b n m p) + tkV b n m p)).toNat))] (mkh (m_upd μ 1 A1) c s) _
      rw [hr0]
      refine rn_iconst (k' := 30) rfl rfl ?_
      refine rn_icmp_eq (k' := 31) rfl rfl (fun hc3 => ?_) (fun hc3 => ?_)
      · exfalso; omega
      · skip
        refine rn_aload_n (k' := 32) rfl rfl rfl ?_
        refine rn_iconst (k' := 33) rfl rfl ?_
        refine rn_callP (k' := 34) (y := 45) (vs := [mR 3, mI (3)]) (S' := []) (v := some (mI (0))) (h' := mkh (m_set (m_upd μ 1 A1) 3 2 (3)) c s) rfl rfl rfl (g_fail (μ := (m_upd μ 1 A1)) (e := 3)) ?_
        show Rn PT none kX5_readThing 34 [some (mR 3), some (mR 54), some (mI (2)), some (mI (10 * tkV b n m (tkN b n m p) + tkV b n m p)), some (mI ((2 * 100) + (10 * tkV b n m (tkN b n m p) + tkV b n m p)))] [mI (0)] (mkh (m_set (m_upd μ 1 A1) 3 2 (3)) c s) _
        refine rn_iret rfl (Or.inr (by omega)) ?_
        exact ⟨_, rfl, rfl, hA1.2.2.2.1, (CF.s (CF.u CF.r (by decide)) (by decide))⟩
    · exfalso; omega
  · exfalso; omega
set_option maxHeartbeats 1000000 in
theorem k_thing2_ok {μ : Nat → Nat → Int} {c s : Nat} {b : Nat → Int} {n m p : Nat} (c8 : 0 ≤ μ 54 8 ∧ μ 54 8 ≤ 10) (c9 : 0 ≤ μ 54 9 ∧ μ 54 9 ≤ 10) (c57 : 0 ≤ μ 57 2) (hC0 : CSt μ b n m p) (e0 : eN b n m p 0 (μ 54 8 - 1) = 0) (e1 : eN b n m (tkN b n m p) 0 (μ 54 9 - 1) = 0) (e2 : tkK b n m (tkN b n m (tkN b n m p)) = 3) (hf12 : ¬ 12 ≤ μ 57 2) {j0 : Nat} (hj : 10 * tkV b n m (tkN b n m p) + tkV b n m p = (j0 : Int)) (hd : μ 56 (200 + j0) = -1) : ∃ μ', (CSt μ' b n m (tkN b n m (tkN b n m (tkN b n m p))) ∧ CFo μ μ' ∧ μ' 56 (200 + j0) = 0 ∧ (∀ j, ¬ j = (200 + j0) → μ' 56 j = μ 56 j) ∧ μ' 57 2 = μ 57 2 + 1 ∧ (∀ j, ¬ j = 2 → μ' 57 j = μ 57 j) ∧ μ' 54 = μ 54 ∧ μ' 55 = μ 55 ∧ μ' 58 = μ 58 ∧ μ' 59 = μ 59 ∧ μ' 60 = μ 60 ∧ μ' 61 = μ 61) ∧ Cl PT 56 [mR 3, mR 54, mI (2)] (mkh μ c s) (fun r => r = (some (some (mI 1)), mkh μ' c s)) := by
  refine Cl.ex (g := fun μ' => (some (some (mI 1)), mkh μ' c s)) ?_
  refine ⟨_, PT_56, Nat.le_of_ble_eq_true rfl, ?_⟩
  show Rn PT none kX5_readThing 0 [some (mR 3), some (mR 54), some (mI (2)), none, none] [] (mkh μ c s) _
  refine rn_aload_n (k' := 1) rfl rfl rfl ?_
  refine rn_getR (k' := 2) rfl rfl K0_54 (by decide) rfl R0_54_2 ?_
  refine rn_iload_n (k' := 3) rfl rfl rfl ?_
  refine rn_iaload (k' := 4) rfl rfl K0_57 (by omega) (by omega) ?_
  show Rn PT none kX5_readThing 4 [some (mR 3), some (mR 54), some (mI (2)), none, none] [mI (μ 57 2)] (mkh μ c s) _
  refine rn_bipush (k' := 5) rfl rfl ?_
  refine rn_icmp_lt (k' := 6) rfl rfl (fun hc1 => ?_) (fun hc1 => ?_)
  · skip
    refine rn_aload_n (k' := 11) rfl rfl rfl ?_
    refine rn_aload_n (k' := 12) rfl rfl rfl ?_
    obtain ⟨A1, hA1, hc1⟩ := g_ccell (μ := μ) (c := c) (s := s) (b := b) (n := n) (m := m) (p := p) hC0 c8 c9 e0 e1
    have hC2 : CSt (m_upd μ 1 A1) b n m (tkN b n m (tkN b n m p)) := ⟨hC0.1, hC0.2.1, (tkN_b (tkN_b hC0.2.2.1).2.1).2.1, hA1.1, hA1.2.1, hA1.2.2.1⟩
    have ty0 := eN_ok e0
    have ty1 := eN_ok e1
    have hi0 : (2 * 100 + (10 * tkV b n m (tkN b n m p) + tkV b n m p)).toNat = 200 + j0 := by omega
    have hr0 : μ 56 (2 * 100 + (10 * tkV b n m (tkN b n m p) + tkV b n m p)).toNat = μ 56 (200 + j0) := by rw [hi0]
    refine rn_callP (k' := 13) (y := 48) (vs := [mR 3, mR 54]) (S' := []) (v := some (mI (10 * tkV b n m (tkN b n m p) + tkV b n m p))) (h' := mkh (m_upd μ 1 A1) c s) rfl rfl rfl (hc1) ?_
    show Rn PT none kX5_readThing 13 [some (mR 3), some (mR 54), some (mI (2)), none, none] [mI (10 * tkV b n m (tkN b n m p) + tkV b n m p)] (mkh (m_upd μ 1 A1) c s) _
    refine rn_istore_n (k' := 14) (L' := [some (mR 3), some (mR 54), some (mI (2)), some (mI (10 * tkV b n m (tkN b n m p) + tkV b n m p)), none]) rfl rfl (Nat.le_of_ble_eq_true rfl) rfl ?_
    refine rn_iload_n (k' := 15) rfl rfl rfl ?_
    refine rn_iconst (k' := 16) rfl rfl ?_
    refine rn_icmp_ne (k' := 17) rfl rfl (fun hc2 => ?_) (fun hc2 => ?_)
    · skip
      refine rn_iload_n (k' := 20) rfl rfl rfl ?_
      refine rn_bipush (k' := 21) rfl rfl ?_
      refine rn_imul (k' := 22) rfl rfl (by omega) ?_
      refine rn_iload_n (k' := 23) rfl rfl rfl ?_
      refine rn_iadd (k' := 24) rfl rfl (by omega) ?_
      refine rn_istore (k' := 25) (L' := [some (mR 3), some (mR 54), some (mI (2)), some (mI (10 * tkV b n m (tkN b n m p) + tkV b n m p)), some (mI ((2 * 100) + (10 * tkV b n m (tkN b n m p) + tkV b n m p)))]) rfl rfl (Nat.le_of_ble_eq_true rfl) rfl ?_
      refine rn_aload_n (k' := 26) rfl rfl rfl ?_
      refine rn_getR (k' := 27) rfl rfl K0_54 (by decide) rfl R0_54_1 ?_
      refine rn_iload (k' := 28) rfl rfl rfl ?_
      refine rn_iaload (k' := 29) rfl rfl K0_56 (by omega) (by omega) ?_
      show Rn PT none kX5_readThing 29 [some (mR 3), some (mR 54), some (mI (2)), some (mI (10 * tkV b n m (tkN b n m p) + tkV b n m p)), some (mI ((2 * 100) + (10 * tkV b n m (tkN b n m p) + tkV b n m p)))] [mI (μ 56 (((2 * 100) + (10 * tkV b n m (tkN b n m p) + tkV b n m p)).toNat))] (mkh (m_upd μ 1 A1) c s) _
      rw [hr0]
      refine rn_iconst (k' := 30) rfl rfl ?_
      refine rn_icmp_eq (k' := 31) rfl rfl (fun hc3 => ?_) (fun hc3 => ?_)
      · skip
        refine rn_iload_n (k' := 36) rfl rfl rfl ?_
        refine rn_iconst (k' := 37) rfl rfl ?_
        refine rn_icmp_eq (k' := 38) rfl rfl (fun hc4 => ?_) (fun hc4 => ?_)
        · skip
          refine rn_aload_n (k' := 46) rfl rfl rfl ?_
          refine rn_getR (k' := 47) rfl rfl K0_54 (by decide) rfl R0_54_1 ?_
          refine rn_iload (k' := 48) rfl rfl rfl ?_
          refine rn_iload_n (k' := 49) rfl rfl rfl ?_
          refine rn_iconst (k' := 50) rfl rfl ?_
          refine rn_icmp_ne (k' := 51) rfl rfl (fun hc5 => ?_) (fun hc5 => ?_)
          · exfalso; omega
          · skip
            refine rn_iconst (k' := 52) rfl rfl ?_
            refine rn_goto rfl ?_
            refine rn_iastore (k' := 57) rfl rfl K0_56 (by omega) (by omega) ?_
            refine rn_aload_n (k' := 58) rfl rfl rfl ?_
            refine rn_getR (k' := 59) rfl rfl K0_54 (by decide) rfl R0_54_2 ?_
            refine rn_iload_n (k' := 60) rfl rfl rfl ?_
            refine rn_dup2 (k' := 61) rfl rfl ?_
            refine rn_iaload (k' := 62) rfl rfl K0_57 (by omega) (by omega) ?_
            show Rn PT none kX5_readThing 62 [some (mR 3), some (mR 54), some (mI (2)), some (mI (10 * tkV b n m (tkN b n m p) + tkV b n m p)), some (mI ((2 * 100) + (10 * tkV b n m (tkN b n m p) + tkV b n m p)))] [mI (μ 57 2), mI (2), mR 57] (mkh (m_set (m_upd μ 1 A1) 56 (((2 * 100) + (10 * tkV b n m (tkN b n m p) + tkV b n m p)).toNat) (0)) c s) _
            refine rn_iconst (k' := 63) rfl rfl ?_
            refine rn_iadd (k' := 64) rfl rfl (by omega) ?_
            refine rn_iastore (k' := 65) rfl rfl K0_57 (by omega) (by omega) ?_
            refine rn_aload_n (k' := 66) rfl rfl rfl ?_
            obtain ⟨A2, hA2, hc2⟩ := g_end (μ := (m_set (m_set (m_upd μ 1 A1) 56 (((2 * 100) + (10 * tkV b n m (tkN b n m p) + tkV b n m p)).toNat) (0)) 57 2 ((μ 57 2) + 1))) (c := c) (s := s) (b := b) (n := n) (m := m) (p := (tkN b n m (tkN b n m p))) hC2 e2
            have hC3 : CSt (m_upd (m_set (m_set (m_upd μ 1 A1) 56 (((2 * 100) + (10 * tkV b n m (tkN b n m p) + tkV b n m p)).toNat) (0)) 57 2 ((μ 57 2) + 1)) 1 A2) b n m (tkN b n m (tkN b n m (tkN b n m p))) := ⟨hC2.1, hC2.2.1, (tkN_b hC2.2.2.1).2.1, hA2.1, hA2.2.1, hA2.2.2.1⟩
            refine rn_callP (k' := 67) (y := 50) (vs := [mR 3]) (S' := []) (v := some (mI (1))) (h' := mkh (m_upd (m_set (m_set (m_upd μ 1 A1) 56 (((2 * 100) + (10 * tkV b n m (tkN b n m p) + tkV b n m p)).toNat) (0)) 57 2 ((μ 57 2) + 1)) 1 A2) c s) rfl rfl rfl (hc2) ?_
            show Rn PT none kX5_readThing 67 [some (mR 3), some (mR 54), some (mI (2)), some (mI (10 * tkV b n m (tkN b n m p) + tkV b n m p)), some (mI ((2 * 100) + (10 * tkV b n m (tkN b n m p) + tkV b n m p)))] [mI (1)] (mkh (m_upd (m_set (m_set (m_upd μ 1 A1) 56 (((2 * 100) + (10 * tkV b n m (tkN b n m p) + tkV b n m p)).toNat) (0)) 57 2 ((μ 57 2) + 1)) 1 A2) c s) _
            refine rn_iret rfl (Or.inr (by omega)) ?_
            exact ⟨_, rfl, hC3, ⟨(CF.u (CF.s (CF.s (CF.u CF.r (by decide)) (by decide)) (by decide)) (by decide)), rfl⟩, ⟨(set_hit hi0), (fun j hj2 => set_mis (by omega)), rfl, (fun j hj2 => set_mis hj2), rfl, rfl, rfl, rfl, rfl, rfl⟩⟩
        · exfalso; omega
      · exfalso; omega
    · exfalso; omega
  · exfalso; omega
