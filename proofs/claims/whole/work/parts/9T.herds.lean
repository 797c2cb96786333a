variable {N : Int}
/-! ===== printed by wip/whole/gen9T.py: herd lines by the class ===== -/
set_option maxHeartbeats 1000000 in
theorem k_herd_x0 {μ : Nat → Nat → Int} {c s : Nat} {b : Nat → Int} {n m p : Nat} (c8 : 0 ≤ μ 54 8 ∧ μ 54 8 ≤ 10) (c9 : 0 ≤ μ 54 9 ∧ μ 54 9 ≤ 10) (hC0 : CSt μ b n m p) (e0 : ¬ (tkK b n m p = 1 ∧ ix (μ 4) (tkV b n m p) 16 0 = -1)) {k9 : Nat} (hk9 : k9 ≤ 8) (h13 : μ 54 13 = (k9 : Int)) (h8 : ¬ k9 = 8) : ∃ μ', (μ' 3 2 = 1 ∧ μ' 1 4 = ((tkP b n m p : Nat) : Int) ∧ CF μ μ') ∧ Cl PT 57 [mR 3, mR 54] (mkh μ c s) (fun r => r = (some (some (mI 0)), mkh μ' c s)) := by
  refine Cl.ex (g := fun μ' => (some (some (mI 0)), mkh μ' c s)) ?_
  refine ⟨_, PT_57, Nat.le_of_ble_eq_true rfl, ?_⟩
  show Rn PT none kX5_readHerd 0 [some (mR 3), some (mR 54), none, none] [] (mkh μ c s) _
  refine rn_aload_n (k' := 1) rfl rfl rfl ?_
  refine rn_getI (k' := 2) rfl rfl K0_54 (by decide) rfl ?_
  refine rn_bipush (k' := 3) rfl rfl ?_
  refine rn_icmp_lt (k' := 4) rfl rfl (fun hc1 => ?_) (fun hc1 => ?_)
  · skip
    refine rn_aload_n (k' := 9) rfl rfl rfl ?_
    obtain ⟨A0, hA0, hc0⟩ := g_nameX (μ := μ) (c := c) (s := s) hC0 e0
    refine rn_callP (k' := 10) (y := 49) (vs := [mR 3]) (S' := []) (v := some (mI (0))) (h' := mkh (m_set (m_upd μ 1 A0) 3 2 (1)) c s) rfl rfl rfl (hc0) ?_
    show Rn PT none kX5_readHerd 10 [some (mR 3), some (mR 54), none, none] [mI (0)] (mkh (m_set (m_upd μ 1 A0) 3 2 (1)) c s) _
    refine rn_if_ne (k' := 11) rfl rfl (fun hc2 => ?_) (fun hc2 => ?_)
    · exfalso; omega
    · skip
      refine rn_iconst (k' := 12) rfl rfl ?_
      refine rn_iret rfl (Or.inr (by omega)) ?_
      exact ⟨_, rfl, rfl, hA0.2.2.2.1, (CF.s (CF.u CF.r (by decide)) (by decide))⟩
  · exfalso; omega
set_option maxHeartbeats 1000000 in
theorem k_herd_x1 {μ : Nat → Nat → Int} {c s : Nat} {b : Nat → Int} {n m p : Nat} (c8 : 0 ≤ μ 54 8 ∧ μ 54 8 ≤ 10) (c9 : 0 ≤ μ 54 9 ∧ μ 54 9 ≤ 10) (hC0 : CSt μ b n m p) (e0 : (tkK b n m p = 1 ∧ ix (μ 4) (tkV b n m p) 16 0 = -1)) (e1 : ¬ eN b n m (tkN b n m p) 0 (μ 54 8 - 1) = 0) {k9 : Nat} (hk9 : k9 ≤ 8) (h13 : μ 54 13 = (k9 : Int)) (h8 : ¬ k9 = 8) (d0 : ix (μ 59) (tkV b n m p) k9 0 = -1) : ∃ μ', (μ' 3 2 = eN b n m (tkN b n m p) 0 (μ 54 8 - 1) ∧ μ' 1 4 = ((tkP b n m (tkN b n m p) : Nat) : Int) ∧ CF μ μ') ∧ Cl PT 57 [mR 3, mR 54] (mkh μ c s) (fun r => r = (some (some (mI 0)), mkh μ' c s)) := by
  refine Cl.ex (g := fun μ' => (some (some (mI 0)), mkh μ' c s)) ?_
  refine ⟨_, PT_57, Nat.le_of_ble_eq_true rfl, ?_⟩
  show Rn PT none kX5_readHerd 0 [some (mR 3), some (mR 54), none, none] [] (mkh μ c s) _
  refine rn_aload_n (k' := 1) rfl rfl rfl ?_
  refine rn_getI (k' := 2) rfl rfl K0_54 (by decide) rfl ?_
  refine rn_bipush (k' := 3) rfl rfl ?_
  refine rn_icmp_lt (k' := 4) rfl rfl (fun hc1 => ?_) (fun hc1 => ?_)
  · skip
    refine rn_aload_n (k' := 9) rfl rfl rfl ?_
    obtain ⟨A0, hA0, hc0⟩ := g_name (μ := μ) (c := c) (s := s) hC0 e0.1 e0.2
    have hC1 : CSt (m_upd μ 1 A0) b n m (tkN b n m p) := ⟨hC0.1, hC0.2.1, (tkN_b hC0.2.2.1).2.1, hA0.1, hA0.2.1, hA0.2.2.1⟩
    have a60 := hA0.2.2.2.2.2
    refine rn_callP (k' := 10) (y := 49) (vs := [mR 3]) (S' := []) (v := some (mI (1))) (h' := mkh (m_upd μ 1 A0) c s) rfl rfl rfl (hc0) ?_
    show Rn PT none kX5_readHerd 10 [some (mR 3), some (mR 54), none, none] [mI (1)] (mkh (m_upd μ 1 A0) c s) _
    refine rn_if_ne (k' := 11) rfl rfl (fun hc2 => ?_) (fun hc2 => ?_)
    · skip
      refine rn_aload_n (k' := 14) rfl rfl rfl ?_
      refine rn_getR (k' := 15) rfl rfl K0_3 (by decide) rfl R0_3_0 ?_
      refine rn_getI (k' := 16) rfl rfl K0_1 (by decide) rfl ?_
      show Rn PT none kX5_readHerd 16 [some (mR 3), some (mR 54), none, none] [mI (A0 6)] (mkh (m_upd μ 1 A0) c s) _
      refine rn_istore_n (k' := 17) (L' := [some (mR 3), some (mR 54), some (mI (A0 6)), none]) rfl rfl (Nat.le_of_ble_eq_true rfl) rfl ?_
      refine rn_aload_n (k' := 18) rfl rfl rfl ?_
      refine rn_iload_n (k' := 19) rfl rfl rfl ?_
      have hdn : ix (μ 59) (A0 6) k9 0 = -1 := by rw [a60]; exact d0
      refine rn_callP (k' := 20) (y := 31) (vs := [mR 54, mI (A0 6)]) (S' := []) (v := some (mI (ix (μ 59) (A0 6) k9 0))) (h' := mkh (m_upd μ 1 A0) c s) rfl rfl rfl (c_named_f (μ := (m_upd μ 1 A0)) (v := A0 6) hk9 h13) ?_
      show Rn PT none kX5_readHerd 20 [some (mR 3), some (mR 54), some (mI (A0 6)), none] [mI (ix (μ 59) (A0 6) k9 0)] (mkh (m_upd μ 1 A0) c s) _
      refine rn_iconst (k' := 21) rfl rfl ?_
      refine rn_icmp_eq (k' := 22) rfl rfl (fun hc3 => ?_) (fun hc3 => ?_)
      · skip
        refine rn_aload_n (k' := 27) rfl rfl rfl ?_
        refine rn_aload_n (k' := 28) rfl rfl rfl ?_
        obtain ⟨A1, hA1, hc1⟩ := g_ccellX0 (μ := (m_upd μ 1 A0)) (c := c) (s := s) (b := b) (n := n) (m := m) (p := (tkN b n m p)) hC1 c8 c9 e1
        refine rn_callP (k' := 29) (y := 48) (vs := [mR 3, mR 54]) (S' := []) (v := some (mI (-1))) (h' := mkh (m_set (m_upd (m_upd μ 1 A0) 1 A1) 3 2 (eN b n m (tkN b n m p) 0 (μ 54 8 - 1))) c s) rfl rfl rfl (hc1) ?_
        show Rn PT none kX5_readHerd 29 [some (mR 3), some (mR 54), some (mI (A0 6)), none] [mI (-1)] (mkh (m_set (m_upd (m_upd μ 1 A0) 1 A1) 3 2 (eN b n m (tkN b n m p) 0 (μ 54 8 - 1))) c s) _
        refine rn_istore_n (k' := 30) (L' := [some (mR 3), some (mR 54), some (mI (A0 6)), some (mI (-1))]) rfl rfl (Nat.le_of_ble_eq_true rfl) rfl ?_
        refine rn_iload_n (k' := 31) rfl rfl rfl ?_
        refine rn_iconst (k' := 32) rfl rfl ?_
        refine rn_icmp_eq (k' := 33) rfl rfl (fun hc4 => ?_) (fun hc4 => ?_)
        · skip
          refine rn_iconst (k' := 39) rfl rfl ?_
          refine rn_iret rfl (Or.inr (by omega)) ?_
          exact ⟨_, rfl, rfl, hA1.2.2.2.1, (CF.s (CF.u (CF.u CF.r (by decide)) (by decide)) (by decide))⟩
        · exfalso; omega
      · exfalso; omega
    · exfalso; omega
  · exfalso; omega
set_option maxHeartbeats 1000000 in
theorem k_herd_x2 {μ : Nat → Nat → Int} {c s : Nat} {b : Nat → Int} {n m p : Nat} (c8 : 0 ≤ μ 54 8 ∧ μ 54 8 ≤ 10) (c9 : 0 ≤ μ 54 9 ∧ μ 54 9 ≤ 10) (hC0 : CSt μ b n m p) (e0 : (tkK b n m p = 1 ∧ ix (μ 4) (tkV b n m p) 16 0 = -1)) (e1 : eN b n m (tkN b n m p) 0 (μ 54 8 - 1) = 0) (e2 : ¬ eN b n m (tkN b n m (tkN b n m p)) 0 (μ 54 9 - 1) = 0) {k9 : Nat} (hk9 : k9 ≤ 8) (h13 : μ 54 13 = (k9 : Int)) (h8 : ¬ k9 = 8) (d0 : ix (μ 59) (tkV b n m p) k9 0 = -1) : ∃ μ', (μ' 3 2 = eN b n m (tkN b n m (tkN b n m p)) 0 (μ 54 9 - 1) ∧ μ' 1 4 = ((tkP b n m (tkN b n m (tkN b n m p)) : Nat) : Int) ∧ CF μ μ') ∧ Cl PT 57 [mR 3, mR 54] (mkh μ c s) (fun r => r = (some (some (mI 0)), mkh μ' c s)) := by
  refine Cl.ex (g := fun μ' => (some (some (mI 0)), mkh μ' c s)) ?_
  refine ⟨_, PT_57, Nat.le_of_ble_eq_true rfl, ?_⟩
  show Rn PT none kX5_readHerd 0 [some (mR 3), some (mR 54), none, none] [] (mkh μ c s) _
  refine rn_aload_n (k' := 1) rfl rfl rfl ?_
  refine rn_getI (k' := 2) rfl rfl K0_54 (by decide) rfl ?_
  refine rn_bipush (k' := 3) rfl rfl ?_
  refine rn_icmp_lt (k' := 4) rfl rfl (fun hc1 => ?_) (fun hc1 => ?_)
  · skip
    refine rn_aload_n (k' := 9) rfl rfl rfl ?_
    obtain ⟨A0, hA0, hc0⟩ := g_name (μ := μ) (c := c) (s := s) hC0 e0.1 e0.2
    have hC1 : CSt (m_upd μ 1 A0) b n m (tkN b n m p) := ⟨hC0.1, hC0.2.1, (tkN_b hC0.2.2.1).2.1, hA0.1, hA0.2.1, hA0.2.2.1⟩
    have a60 := hA0.2.2.2.2.2
    refine rn_callP (k' := 10) (y := 49) (vs := [mR 3]) (S' := []) (v := some (mI (1))) (h' := mkh (m_upd μ 1 A0) c s) rfl rfl rfl (hc0) ?_
    show Rn PT none kX5_readHerd 10 [some (mR 3), some (mR 54), none, none] [mI (1)] (mkh (m_upd μ 1 A0) c s) _
    refine rn_if_ne (k' := 11) rfl rfl (fun hc2 => ?_) (fun hc2 => ?_)
    · skip
      refine rn_aload_n (k' := 14) rfl rfl rfl ?_
      refine rn_getR (k' := 15) rfl rfl K0_3 (by decide) rfl R0_3_0 ?_
      refine rn_getI (k' := 16) rfl rfl K0_1 (by decide) rfl ?_
      show Rn PT none kX5_readHerd 16 [some (mR 3), some (mR 54), none, none] [mI (A0 6)] (mkh (m_upd μ 1 A0) c s) _
      refine rn_istore_n (k' := 17) (L' := [some (mR 3), some (mR 54), some (mI (A0 6)), none]) rfl rfl (Nat.le_of_ble_eq_true rfl) rfl ?_
      refine rn_aload_n (k' := 18) rfl rfl rfl ?_
      refine rn_iload_n (k' := 19) rfl rfl rfl ?_
      have hdn : ix (μ 59) (A0 6) k9 0 = -1 := by rw [a60]; exact d0
      refine rn_callP (k' := 20) (y := 31) (vs := [mR 54, mI (A0 6)]) (S' := []) (v := some (mI (ix (μ 59) (A0 6) k9 0))) (h' := mkh (m_upd μ 1 A0) c s) rfl rfl rfl (c_named_f (μ := (m_upd μ 1 A0)) (v := A0 6) hk9 h13) ?_
      show Rn PT none kX5_readHerd 20 [some (mR 3), some (mR 54), some (mI (A0 6)), none] [mI (ix (μ 59) (A0 6) k9 0)] (mkh (m_upd μ 1 A0) c s) _
      refine rn_iconst (k' := 21) rfl rfl ?_
      refine rn_icmp_eq (k' := 22) rfl rfl (fun hc3 => ?_) (fun hc3 => ?_)
      · skip
        refine rn_aload_n (k' := 27) rfl rfl rfl ?_
        refine rn_aload_n (k' := 28) rfl rfl rfl ?_
        obtain ⟨A2, hA2, hc2⟩ := g_ccellX1 (μ := (m_upd μ 1 A0)) (c := c) (s := s) (b := b) (n := n) (m := m) (p := (tkN b n m p)) hC1 c8 c9 e1 e2
        refine rn_callP (k' := 29) (y := 48) (vs := [mR 3, mR 54]) (S' := []) (v := some (mI (-1))) (h' := mkh (m_set (m_upd (m_upd μ 1 A0) 1 A2) 3 2 (eN b n m (tkN b n m (tkN b n m p)) 0 (μ 54 9 - 1))) c s) rfl rfl rfl (hc2) ?_
        show Rn PT none kX5_readHerd 29 [some (mR 3), some (mR 54), some (mI (A0 6)), none] [mI (-1)] (mkh (m_set (m_upd (m_upd μ 1 A0) 1 A2) 3 2 (eN b n m (tkN b n m (tkN b n m p)) 0 (μ 54 9 - 1))) c s) _
        refine rn_istore_n (k' := 30) (L' := [some (mR 3), some (mR 54), some (mI (A0 6)), some (mI (-1))]) rfl rfl (Nat.le_of_ble_eq_true rfl) rfl ?_
        refine rn_iload_n (k' := 31) rfl rfl rfl ?_
        refine rn_iconst (k' := 32) rfl rfl ?_
        refine rn_icmp_eq (k' := 33) rfl rfl (fun hc4 => ?_) (fun hc4 => ?_)
        · skip
          refine rn_iconst (k' := 39) rfl rfl ?_
          refine rn_iret rfl (Or.inr (by omega)) ?_
          exact ⟨_, rfl, rfl, hA2.2.2.2.1, (CF.s (CF.u (CF.u CF.r (by decide)) (by decide)) (by decide))⟩
        · exfalso; omega
      · exfalso; omega
    · exfalso; omega
  · exfalso; omega
set_option maxHeartbeats 1000000 in
theorem k_herd_x3 {μ : Nat → Nat → Int} {c s : Nat} {b : Nat → Int} {n m p : Nat} (c8 : 0 ≤ μ 54 8 ∧ μ 54 8 ≤ 10) (c9 : 0 ≤ μ 54 9 ∧ μ 54 9 ≤ 10) (hC0 : CSt μ b n m p) (e0 : (tkK b n m p = 1 ∧ ix (μ 4) (tkV b n m p) 16 0 = -1)) (e1 : eN b n m (tkN b n m p) 0 (μ 54 8 - 1) = 0) (e2 : eN b n m (tkN b n m (tkN b n m p)) 0 (μ 54 9 - 1) = 0) (e3 : ¬ eN b n m (tkN b n m (tkN b n m (tkN b n m p))) 0 99 = 0) {k9 : Nat} (hk9 : k9 ≤ 8) (h13 : μ 54 13 = (k9 : Int)) (h8 : ¬ k9 = 8) (d0 : ix (μ 59) (tkV b n m p) k9 0 = -1) : ∃ μ', (μ' 3 2 = eN b n m (tkN b n m (tkN b n m (tkN b n m p))) 0 99 ∧ μ' 1 4 = ((tkP b n m (tkN b n m (tkN b n m (tkN b n m p))) : Nat) : Int) ∧ CF μ μ') ∧ Cl PT 57 [mR 3, mR 54] (mkh μ c s) (fun r => r = (some (some (mI 0)), mkh μ' c s)) := by
  refine Cl.ex (g := fun μ' => (some (some (mI 0)), mkh μ' c s)) ?_
  refine ⟨_, PT_57, Nat.le_of_ble_eq_true rfl, ?_⟩
  show Rn PT none kX5_readHerd 0 [some (mR 3), some (mR 54), none, none] [] (mkh μ c s) _
  refine rn_aload_n (k' := 1) rfl rfl rfl ?_
  refine rn_getI (k' := 2) rfl rfl K0_54 (by decide) rfl ?_
  refine rn_bipush (k' := 3) rfl rfl ?_
  refine rn_icmp_lt (k' := 4) rfl rfl (fun hc1 => ?_) (fun hc1 => ?_)
  · skip
    refine rn_aload_n (k' := 9) rfl rfl rfl ?_
    obtain ⟨A0, hA0, hc0⟩ := g_name (μ := μ) (c := c) (s := s) hC0 e0.1 e0.2
    have hC1 : CSt (m_upd μ 1 A0) b n m (tkN b n m p) := ⟨hC0.1, hC0.2.1, (tkN_b hC0.2.2.1).2.1, hA0.1, hA0.2.1, hA0.2.2.1⟩
    have a60 := hA0.2.2.2.2.2
    refine rn_callP (k' := 10) (y := 49) (vs := [mR 3]) (S' := []) (v := some (mI (1))) (h' := mkh (m_upd μ 1 A0) c s) rfl rfl rfl (hc0) ?_
    show Rn PT none kX5_readHerd 10 [some (mR 3), some (mR 54), none, none] [mI (1)] (mkh (m_upd μ 1 A0) c s) _
    refine rn_if_ne (k' := 11) rfl rfl (fun hc2 => ?_) (fun hc2 => ?_)
    · skip
      refine rn_aload_n (k' := 14) rfl rfl rfl ?_
      refine rn_getR (k' := 15) rfl rfl K0_3 (by decide) rfl R0_3_0 ?_
      refine rn_getI (k' := 16) rfl rfl K0_1 (by decide) rfl ?_
      show Rn PT none kX5_readHerd 16 [some (mR 3), some (mR 54), none, none] [mI (A0 6)] (mkh (m_upd μ 1 A0) c s) _
      refine rn_istore_n (k' := 17) (L' := [some (mR 3), some (mR 54), some (mI (A0 6)), none]) rfl rfl (Nat.le_of_ble_eq_true rfl) rfl ?_
      refine rn_aload_n (k' := 18) rfl rfl rfl ?_
      refine rn_iload_n (k' := 19) rfl rfl rfl ?_
      have hdn : ix (μ 59) (A0 6) k9 0 = -1 := by rw [a60]; exact d0
      refine rn_callP (k' := 20) (y := 31) (vs := [mR 54, mI (A0 6)]) (S' := []) (v := some (mI (ix (μ 59) (A0 6) k9 0))) (h' := mkh (m_upd μ 1 A0) c s) rfl rfl rfl (c_named_f (μ := (m_upd μ 1 A0)) (v := A0 6) hk9 h13) ?_
      show Rn PT none kX5_readHerd 20 [some (mR 3), some (mR 54), some (mI (A0 6)), none] [mI (ix (μ 59) (A0 6) k9 0)] (mkh (m_upd μ 1 A0) c s) _
      refine rn_iconst (k' := 21) rfl rfl ?_
      refine rn_icmp_eq (k' := 22) rfl rfl (fun hc3 => ?_) (fun hc3 => ?_)
      · skip
        refine rn_aload_n (k' := 27) rfl rfl rfl ?_
        refine rn_aload_n (k' := 28) rfl rfl rfl ?_
        obtain ⟨A2, hA2, hc2⟩ := g_ccell (μ := (m_upd μ 1 A0)) (c := c) (s := s) (b := b) (n := n) (m := m) (p := (tkN b n m p)) hC1 c8 c9 e1 e2
        have hC3 : CSt (m_upd (m_upd μ 1 A0) 1 A2) b n m (tkN b n m (tkN b n m (tkN b n m p))) := ⟨hC1.1, hC1.2.1, (tkN_b (tkN_b hC1.2.2.1).2.1).2.1, hA2.1, hA2.2.1, hA2.2.2.1⟩
        have ty1 := eN_ok e1
        have ty2 := eN_ok e2
        refine rn_callP (k' := 29) (y := 48) (vs := [mR 3, mR 54]) (S' := []) (v := some (mI (10 * tkV b n m (tkN b n m (tkN b n m p)) + tkV b n m (tkN b n m p)))) (h' := mkh (m_upd (m_upd μ 1 A0) 1 A2) c s) rfl rfl rfl (hc2) ?_
        show Rn PT none kX5_readHerd 29 [some (mR 3), some (mR 54), some (mI (A0 6)), none] [mI (10 * tkV b n m (tkN b n m (tkN b n m p)) + tkV b n m (tkN b n m p))] (mkh (m_upd (m_upd μ 1 A0) 1 A2) c s) _
        refine rn_istore_n (k' := 30) (L' := [some (mR 3), some (mR 54), some (mI (A0 6)), some (mI (10 * tkV b n m (tkN b n m (tkN b n m p)) + tkV b n m (tkN b n m p)))]) rfl rfl (Nat.le_of_ble_eq_true rfl) rfl ?_
        refine rn_iload_n (k' := 31) rfl rfl rfl ?_
        refine rn_iconst (k' := 32) rfl rfl ?_
        refine rn_icmp_eq (k' := 33) rfl rfl (fun hc4 => ?_) (fun hc4 => ?_)
        · exfalso; omega
        · skip
          refine rn_aload_n (k' := 34) rfl rfl rfl ?_
          refine rn_iconst (k' := 35) rfl rfl ?_
          refine rn_bipush (k' := 36) rfl rfl ?_
          obtain ⟨A3, hA3, hc3⟩ := g_numX (μ := (m_upd (m_upd μ 1 A0) 1 A2)) (c := c) (s := s) (b := b) (n := n) (m := m) (p := (tkN b n m (tkN b n m (tkN b n m p)))) (lo := 0) (hi := 99) hC3 e3
          refine rn_callP (k' := 37) (y := 47) (vs := [mR 3, mI (0), mI (99)]) (S' := []) (v := some (mI (0))) (h' := mkh (m_set (m_upd (m_upd (m_upd μ 1 A0) 1 A2) 1 A3) 3 2 (eN b n m (tkN b n m (tkN b n m (tkN b n m p))) (0) (99))) c s) rfl rfl rfl (hc3) ?_
          show Rn PT none kX5_readHerd 37 [some (mR 3), some (mR 54), some (mI (A0 6)), some (mI (10 * tkV b n m (tkN b n m (tkN b n m p)) + tkV b n m (tkN b n m p)))] [mI (0)] (mkh (m_set (m_upd (m_upd (m_upd μ 1 A0) 1 A2) 1 A3) 3 2 (eN b n m (tkN b n m (tkN b n m (tkN b n m p))) (0) (99))) c s) _
          refine rn_if_ne (k' := 38) rfl rfl (fun hc5 => ?_) (fun hc5 => ?_)
          · exfalso; omega
          · skip
            refine rn_iconst (k' := 39) rfl rfl ?_
            refine rn_iret rfl (Or.inr (by omega)) ?_
            exact ⟨_, rfl, rfl, hA3.2.2.2.1, (CF.s (CF.u (CF.u (CF.u CF.r (by decide)) (by decide)) (by decide)) (by decide))⟩
      · exfalso; omega
    · exfalso; omega
  · exfalso; omega
set_option maxHeartbeats 1000000 in
theorem k_herd_x4 {μ : Nat → Nat → Int} {c s : Nat} {b : Nat → Int} {n m p : Nat} (c8 : 0 ≤ μ 54 8 ∧ μ 54 8 ≤ 10) (c9 : 0 ≤ μ 54 9 ∧ μ 54 9 ≤ 10) (hC0 : CSt μ b n m p) (e0 : (tkK b n m p = 1 ∧ ix (μ 4) (tkV b n m p) 16 0 = -1)) (e1 : eN b n m (tkN b n m p) 0 (μ 54 8 - 1) = 0) (e2 : eN b n m (tkN b n m (tkN b n m p)) 0 (μ 54 9 - 1) = 0) (e3 : eN b n m (tkN b n m (tkN b n m (tkN b n m p))) 0 99 = 0) (e4 : ¬ tkK b n m (tkN b n m (tkN b n m (tkN b n m (tkN b n m p)))) = 3) {k9 : Nat} (hk9 : k9 ≤ 8) (h13 : μ 54 13 = (k9 : Int)) (h8 : ¬ k9 = 8) (d0 : ix (μ 59) (tkV b n m p) k9 0 = -1) : ∃ μ', (μ' 3 2 = 1 ∧ μ' 1 4 = ((tkP b n m (tkN b n m (tkN b n m (tkN b n m (tkN b n m p)))) : Nat) : Int) ∧ CF μ μ') ∧ Cl PT 57 [mR 3, mR 54] (mkh μ c s) (fun r => r = (some (some (mI 0)), mkh μ' c s)) := by
  refine Cl.ex (g := fun μ' => (some (some (mI 0)), mkh μ' c s)) ?_
  refine ⟨_, PT_57, Nat.le_of_ble_eq_true rfl, ?_⟩
  show Rn PT none kX5_readHerd 0 [some (mR 3), some (mR 54), none, none] [] (mkh μ c s) _
  refine rn_aload_n (k' := 1) rfl rfl rfl ?_
  refine rn_getI (k' := 2) rfl rfl K0_54 (by decide) rfl ?_
  refine rn_bipush (k' := 3) rfl rfl ?_
  refine rn_icmp_lt (k' := 4) rfl rfl (fun hc1 => ?_) (fun hc1 => ?_)
  · skip
    refine rn_aload_n (k' := 9) rfl rfl rfl ?_
    obtain ⟨A0, hA0, hc0⟩ := g_name (μ := μ) (c := c) (s := s) hC0 e0.1 e0.2
    have hC1 : CSt (m_upd μ 1 A0) b n m (tkN b n m p) := ⟨hC0.1, hC0.2.1, (tkN_b hC0.2.2.1).2.1, hA0.1, hA0.2.1, hA0.2.2.1⟩
    have a60 := hA0.2.2.2.2.2
    refine rn_callP (k' := 10) (y := 49) (vs := [mR 3]) (S' := []) (v := some (mI (1))) (h' := mkh (m_upd μ 1 A0) c s) rfl rfl rfl (hc0) ?_
    show Rn PT none kX5_readHerd 10 [some (mR 3), some (mR 54), none, none] [mI (1)] (mkh (m_upd μ 1 A0) c s) _
    refine rn_if_ne (k' := 11) rfl rfl (fun hc2 => ?_) (fun hc2 => ?_)
    · skip
      refine rn_aload_n (k' := 14) rfl rfl rfl ?_
      refine rn_getR (k' := 15) rfl rfl K0_3 (by decide) rfl R0_3_0 ?_
      refine rn_getI (k' := 16) rfl rfl K0_1 (by decide) rfl ?_
      show Rn PT none kX5_readHerd 16 [some (mR 3), some (mR 54), none, none] [mI (A0 6)] (mkh (m_upd μ 1 A0) c s) _
      refine rn_istore_n (k' := 17) (L' := [some (mR 3), some (mR 54), some (mI (A0 6)), none]) rfl rfl (Nat.le_of_ble_eq_true rfl) rfl ?_
      refine rn_aload_n (k' := 18) rfl rfl rfl ?_
      refine rn_iload_n (k' := 19) rfl rfl rfl ?_
      have hdn : ix (μ 59) (A0 6) k9 0 = -1 := by rw [a60]; exact d0
      refine rn_callP (k' := 20) (y := 31) (vs := [mR 54, mI (A0 6)]) (S' := []) (v := some (mI (ix (μ 59) (A0 6) k9 0))) (h' := mkh (m_upd μ 1 A0) c s) rfl rfl rfl (c_named_f (μ := (m_upd μ 1 A0)) (v := A0 6) hk9 h13) ?_
      show Rn PT none kX5_readHerd 20 [some (mR 3), some (mR 54), some (mI (A0 6)), none] [mI (ix (μ 59) (A0 6) k9 0)] (mkh (m_upd μ 1 A0) c s) _
      refine rn_iconst (k' := 21) rfl rfl ?_
      refine rn_icmp_eq (k' := 22) rfl rfl (fun hc3 => ?_) (fun hc3 => ?_)
      · skip
        refine rn_aload_n (k' := 27) rfl rfl rfl ?_
        refine rn_aload_n (k' := 28) rfl rfl rfl ?_
        obtain ⟨A2, hA2, hc2⟩ := g_ccell (μ := (m_upd μ 1 A0)) (c := c) (s := s) (b := b) (n := n) (m := m) (p := (tkN b n m p)) hC1 c8 c9 e1 e2
        have hC3 : CSt (m_upd (m_upd μ 1 A0) 1 A2) b n m (tkN b n m (tkN b n m (tkN b n m p))) := ⟨hC1.1, hC1.2.1, (tkN_b (tkN_b hC1.2.2.1).2.1).2.1, hA2.1, hA2.2.1, hA2.2.2.1⟩
        have ty1 := eN_ok e1
        have ty2 := eN_ok e2
        refine rn_callP (k' := 29) (y := 48) (vs := [mR 3, mR 54]) (S' := []) (v := some (mI (10 * tkV b n m (tkN b n m (tkN b n m p)) + tkV b n m (tkN b n m p)))) (h' := mkh (m_upd (m_upd μ 1 A0) 1 A2) c s) rfl rfl rfl (hc2) ?_
        show Rn PT none kX5_readHerd 29 [some (mR 3), some (mR 54), some (mI (A0 6)), none] [mI (10 * tkV b n m (tkN b n m (tkN b n m p)) + tkV b n m (tkN b n m p))] (mkh (m_upd (m_upd μ 1 A0) 1 A2) c s) _
        refine rn_istore_n (k' := 30) (L' := [some (mR 3), some (mR 54), some (mI (A0 6)), some (mI (10 * tkV b n m (tkN b n m (tkN b n m p)) + tkV b n m (tkN b n m p)))]) rfl rfl (Nat.le_of_ble_eq_true rfl) rfl ?_
        refine rn_iload_n (k' := 31) rfl rfl rfl ?_
        refine rn_iconst (k' := 32) rfl rfl ?_
        refine rn_icmp_eq (k' := 33) rfl rfl (fun hc4 => ?_) (fun hc4 => ?_)
        · exfalso; omega
        · skip
          refine rn_aload_n (k' := 34) rfl rfl rfl ?_
          refine rn_iconst (k' := 35) rfl rfl ?_
          refine rn_bipush (k' := 36) rfl rfl ?_
          obtain ⟨A3, hA3, hc3⟩ := g_num (μ := (m_upd (m_upd μ 1 A0) 1 A2)) (c := c) (s := s) (b := b) (n := n) (m := m) (p := (tkN b n m (tkN b n m (tkN b n m p)))) (lo := 0) (hi := 99) hC3 e3
          have hC4 : CSt (m_upd (m_upd (m_upd μ 1 A0) 1 A2) 1 A3) b n m (tkN b n m (tkN b n m (tkN b n m (tkN b n m p)))) := ⟨hC3.1, hC3.2.1, (tkN_b hC3.2.2.1).2.1, hA3.1, hA3.2.1, hA3.2.2.1⟩
          have hi9 : (μ 54 13).toNat = k9 := by omega
          have hv60 : 0 ≤ 10 * tkV b n m (tkN b n m (tkN b n m p)) + tkV b n m (tkN b n m p) ∧ 10 * tkV b n m (tkN b n m (tkN b n m p)) + tkV b n m (tkN b n m p) ≤ 99 := by have q1 := eN_ok e1; have q2 := eN_ok e2; omega
          have hv61 : 0 ≤ A3 6 ∧ A3 6 ≤ 99 := by have q3 := eN_ok e3; have q6 := hA3.2.2.2.2.2; omega
          refine rn_callP (k' := 37) (y := 47) (vs := [mR 3, mI (0), mI (99)]) (S' := []) (v := some (mI (1))) (h' := mkh (m_upd (m_upd (m_upd μ 1 A0) 1 A2) 1 A3) c s) rfl rfl rfl (hc3) ?_
          show Rn PT none kX5_readHerd 37 [some (mR 3), some (mR 54), some (mI (A0 6)), some (mI (10 * tkV b n m (tkN b n m (tkN b n m p)) + tkV b n m (tkN b n m p)))] [mI (1)] (mkh (m_upd (m_upd (m_upd μ 1 A0) 1 A2) 1 A3) c s) _
          refine rn_if_ne (k' := 38) rfl rfl (fun hc5 => ?_) (fun hc5 => ?_)
          · skip
            refine rn_aload_n (k' := 41) rfl rfl rfl ?_
            refine rn_getR (k' := 42) rfl rfl K0_54 (by decide) rfl R0_54_4 ?_
            refine rn_aload_n (k' := 43) rfl rfl rfl ?_
            refine rn_getI (k' := 44) rfl rfl K0_54 (by decide) rfl ?_
            show Rn PT none kX5_readHerd 44 [some (mR 3), some (mR 54), some (mI (A0 6)), some (mI (10 * tkV b n m (tkN b n m (tkN b n m p)) + tkV b n m (tkN b n m p)))] [mI (μ 54 13), mR 59] (mkh (m_upd (m_upd (m_upd μ 1 A0) 1 A2) 1 A3) c s) _
            refine rn_iload_n (k' := 45) rfl rfl rfl ?_
            refine rn_iastore (k' := 46) rfl rfl K0_59 (by omega) (by omega) ?_
            refine rn_aload_n (k' := 47) rfl rfl rfl ?_
            refine rn_getR (k' := 48) rfl rfl K0_54 (by decide) rfl R0_54_5 ?_
            refine rn_aload_n (k' := 49) rfl rfl rfl ?_
            refine rn_getI (k' := 50) rfl rfl K0_54 (by decide) rfl ?_
            show Rn PT none kX5_readHerd 50 [some (mR 3), some (mR 54), some (mI (A0 6)), some (mI (10 * tkV b n m (tkN b n m (tkN b n m p)) + tkV b n m (tkN b n m p)))] [mI (μ 54 13), mR 60] (mkh (m_set (m_upd (m_upd (m_upd μ 1 A0) 1 A2) 1 A3) 59 ((μ 54 13).toNat) (A0 6)) c s) _
            refine rn_iload_n (k' := 51) rfl rfl rfl ?_
            refine rn_iastore (k' := 52) rfl rfl K0_60 (by omega) (by omega) ?_
            refine rn_aload_n (k' := 53) rfl rfl rfl ?_
            refine rn_getR (k' := 54) rfl rfl K0_54 (by decide) rfl R0_54_6 ?_
            refine rn_aload_n (k' := 55) rfl rfl rfl ?_
            refine rn_getI (k' := 56) rfl rfl K0_54 (by decide) rfl ?_
            show Rn PT none kX5_readHerd 56 [some (mR 3), some (mR 54), some (mI (A0 6)), some (mI (10 * tkV b n m (tkN b n m (tkN b n m p)) + tkV b n m (tkN b n m p)))] [mI (μ 54 13), mR 61] (mkh (m_set (m_set (m_upd (m_upd (m_upd μ 1 A0) 1 A2) 1 A3) 59 ((μ 54 13).toNat) (A0 6)) 60 ((μ 54 13).toNat) (10 * tkV b n m (tkN b n m (tkN b n m p)) + tkV b n m (tkN b n m p))) c s) _
            refine rn_aload_n (k' := 57) rfl rfl rfl ?_
            refine rn_getR (k' := 58) rfl rfl K0_3 (by decide) rfl R0_3_0 ?_
            refine rn_getI (k' := 59) rfl rfl K0_1 (by decide) rfl ?_
            show Rn PT none kX5_readHerd 59 [some (mR 3), some (mR 54), some (mI (A0 6)), some (mI (10 * tkV b n m (tkN b n m (tkN b n m p)) + tkV b n m (tkN b n m p)))] [mI (A3 6), mI (μ 54 13), mR 61] (mkh (m_set (m_set (m_upd (m_upd (m_upd μ 1 A0) 1 A2) 1 A3) 59 ((μ 54 13).toNat) (A0 6)) 60 ((μ 54 13).toNat) (10 * tkV b n m (tkN b n m (tkN b n m p)) + tkV b n m (tkN b n m p))) c s) _
            refine rn_iastore (k' := 60) rfl rfl K0_61 (by omega) (by omega) ?_
            refine rn_aload_n (k' := 61) rfl rfl rfl ?_
            refine rn_dupR (k' := 62) rfl rfl ?_
            refine rn_getI (k' := 63) rfl rfl K0_54 (by decide) rfl ?_
            show Rn PT none kX5_readHerd 63 [some (mR 3), some (mR 54), some (mI (A0 6)), some (mI (10 * tkV b n m (tkN b n m (tkN b n m p)) + tkV b n m (tkN b n m p)))] [mI (μ 54 13), mR 54] (mkh (m_set (m_set (m_set (m_upd (m_upd (m_upd μ 1 A0) 1 A2) 1 A3) 59 ((μ 54 13).toNat) (A0 6)) 60 ((μ 54 13).toNat) (10 * tkV b n m (tkN b n m (tkN b n m p)) + tkV b n m (tkN b n m p))) 61 ((μ 54 13).toNat) (A3 6)) c s) _
            refine rn_iconst (k' := 64) rfl rfl ?_
            refine rn_iadd (k' := 65) rfl rfl (by omega) ?_
            refine rn_putI (k' := 66) rfl rfl K0_54 (by decide) rfl ?_
            refine rn_aload_n (k' := 67) rfl rfl rfl ?_
            obtain ⟨A4, hA4, hc4⟩ := g_endX (μ := (m_set (m_set (m_set (m_set (m_upd (m_upd (m_upd μ 1 A0) 1 A2) 1 A3) 59 ((μ 54 13).toNat) (A0 6)) 60 ((μ 54 13).toNat) (10 * tkV b n m (tkN b n m (tkN b n m p)) + tkV b n m (tkN b n m p))) 61 ((μ 54 13).toNat) (A3 6)) 54 13 ((μ 54 13) + 1))) (c := c) (s := s) (b := b) (n := n) (m := m) (p := (tkN b n m (tkN b n m (tkN b n m (tkN b n m p))))) hC4 e4
            refine rn_callP (k' := 68) (y := 50) (vs := [mR 3]) (S' := []) (v := some (mI (0))) (h' := mkh (m_set (m_upd (m_set (m_set (m_set (m_set (m_upd (m_upd (m_upd μ 1 A0) 1 A2) 1 A3) 59 ((μ 54 13).toNat) (A0 6)) 60 ((μ 54 13).toNat) (10 * tkV b n m (tkN b n m (tkN b n m p)) + tkV b n m (tkN b n m p))) 61 ((μ 54 13).toNat) (A3 6)) 54 13 ((μ 54 13) + 1)) 1 A4) 3 2 (1)) c s) rfl rfl rfl (hc4) ?_
            show Rn PT none kX5_readHerd 68 [some (mR 3), some (mR 54), some (mI (A0 6)), some (mI (10 * tkV b n m (tkN b n m (tkN b n m p)) + tkV b n m (tkN b n m p)))] [mI (0)] (mkh (m_set (m_upd (m_set (m_set (m_set (m_set (m_upd (m_upd (m_upd μ 1 A0) 1 A2) 1 A3) 59 ((μ 54 13).toNat) (A0 6)) 60 ((μ 54 13).toNat) (10 * tkV b n m (tkN b n m (tkN b n m p)) + tkV b n m (tkN b n m p))) 61 ((μ 54 13).toNat) (A3 6)) 54 13 ((μ 54 13) + 1)) 1 A4) 3 2 (1)) c s) _
            refine rn_iret rfl (Or.inr (by omega)) ?_
            exact ⟨_, rfl, rfl, hA4.2.2.2.1, (CF.s (CF.u (CF.s (CF.sv (CF.sv (CF.s (CF.u (CF.u (CF.u CF.r (by decide)) (by decide)) (by decide)) (by decide)) (by decide) hv60) (by decide) hv61) (by decide)) (by decide)) (by decide))⟩
          · exfalso; omega
      · exfalso; omega
    · exfalso; omega
  · exfalso; omega
set_option maxHeartbeats 1000000 in
theorem k_herd_full {μ : Nat → Nat → Int} {c s : Nat} {b : Nat → Int} {n m p : Nat} (c8 : 0 ≤ μ 54 8 ∧ μ 54 8 ≤ 10) (c9 : 0 ≤ μ 54 9 ∧ μ 54 9 ≤ 10) (hC0 : CSt μ b n m p) {k9 : Nat} (hk9 : k9 ≤ 8) (h13 : μ 54 13 = (k9 : Int)) (h8 : k9 = 8) : ∃ μ', (μ' 3 2 = 4 ∧ μ' 1 4 = μ 1 4 ∧ CF μ μ') ∧ Cl PT 57 [mR 3, mR 54] (mkh μ c s) (fun r => r = (some (some (mI 0)), mkh μ' c s)) := by
  refine Cl.ex (g := fun μ' => (some (some (mI 0)), mkh μ' c s)) ?_
  refine ⟨_, PT_57, Nat.le_of_ble_eq_true rfl, ?_⟩
  show Rn PT none kX5_readHerd 0 [some (mR 3), some (mR 54), none, none] [] (mkh μ c s) _
  refine rn_aload_n (k' := 1) rfl rfl rfl ?_
  refine rn_getI (k' := 2) rfl rfl K0_54 (by decide) rfl ?_
  refine rn_bipush (k' := 3) rfl rfl ?_
  refine rn_icmp_lt (k' := 4) rfl rfl (fun hc1 => ?_) (fun hc1 => ?_)
  · exfalso; omega
  · skip
    refine rn_aload_n (k' := 5) rfl rfl rfl ?_
    refine rn_iconst (k' := 6) rfl rfl ?_
    refine rn_callP (k' := 7) (y := 45) (vs := [mR 3, mI (4)]) (S' := []) (v := some (mI (0))) (h' := mkh (m_set μ 3 2 (4)) c s) rfl rfl rfl (g_fail (μ := μ) (e := 4)) ?_
    show Rn PT none kX5_readHerd 7 [some (mR 3), some (mR 54), none, none] [mI (0)] (mkh (m_set μ 3 2 (4)) c s) _
    refine rn_iret rfl (Or.inr (by omega)) ?_
    exact ⟨_, rfl, rfl, rfl, (CF.s CF.r (by decide))⟩
set_option maxHeartbeats 1000000 in
theorem k_herd_had {μ : Nat → Nat → Int} {c s : Nat} {b : Nat → Int} {n m p : Nat} (c8 : 0 ≤ μ 54 8 ∧ μ 54 8 ≤ 10) (c9 : 0 ≤ μ 54 9 ∧ μ 54 9 ≤ 10) (hC0 : CSt μ b n m p) (e0 : (tkK b n m p = 1 ∧ ix (μ 4) (tkV b n m p) 16 0 = -1)) {k9 : Nat} (hk9 : k9 ≤ 8) (h13 : μ 54 13 = (k9 : Int)) (h8 : ¬ k9 = 8) (d0 : ¬ ix (μ 59) (tkV b n m p) k9 0 = -1) : ∃ μ', (μ' 3 2 = 3 ∧ μ' 1 4 = ((tkP b n m p : Nat) : Int) ∧ CF μ μ') ∧ Cl PT 57 [mR 3, mR 54] (mkh μ c s) (fun r => r = (some (some (mI 0)), mkh μ' c s)) := by
  refine Cl.ex (g := fun μ' => (some (some (mI 0)), mkh μ' c s)) ?_
  refine ⟨_, PT_57, Nat.le_of_ble_eq_true rfl, ?_⟩
  show Rn PT none kX5_readHerd 0 [some (mR 3), some (mR 54), none, none] [] (mkh μ c s) _
  refine rn_aload_n (k' := 1) rfl rfl rfl ?_
  refine rn_getI (k' := 2) rfl rfl K0_54 (by decide) rfl ?_
  refine rn_bipush (k' := 3) rfl rfl ?_
  refine rn_icmp_lt (k' := 4) rfl rfl (fun hc1 => ?_) (fun hc1 => ?_)
  · skip
    refine rn_aload_n (k' := 9) rfl rfl rfl ?_
    obtain ⟨A0, hA0, hc0⟩ := g_name (μ := μ) (c := c) (s := s) hC0 e0.1 e0.2
    have hC1 : CSt (m_upd μ 1 A0) b n m (tkN b n m p) := ⟨hC0.1, hC0.2.1, (tkN_b hC0.2.2.1).2.1, hA0.1, hA0.2.1, hA0.2.2.1⟩
    have a60 := hA0.2.2.2.2.2
    refine rn_callP (k' := 10) (y := 49) (vs := [mR 3]) (S' := []) (v := some (mI (1))) (h' := mkh (m_upd μ 1 A0) c s) rfl rfl rfl (hc0) ?_
    show Rn PT none kX5_readHerd 10 [some (mR 3), some (mR 54), none, none] [mI (1)] (mkh (m_upd μ 1 A0) c s) _
    refine rn_if_ne (k' := 11) rfl rfl (fun hc2 => ?_) (fun hc2 => ?_)
    · skip
      refine rn_aload_n (k' := 14) rfl rfl rfl ?_
      refine rn_getR (k' := 15) rfl rfl K0_3 (by decide) rfl R0_3_0 ?_
      refine rn_getI (k' := 16) rfl rfl K0_1 (by decide) rfl ?_
      show Rn PT none kX5_readHerd 16 [some (mR 3), some (mR 54), none, none] [mI (A0 6)] (mkh (m_upd μ 1 A0) c s) _
      refine rn_istore_n (k' := 17) (L' := [some (mR 3), some (mR 54), some (mI (A0 6)), none]) rfl rfl (Nat.le_of_ble_eq_true rfl) rfl ?_
      refine rn_aload_n (k' := 18) rfl rfl rfl ?_
      refine rn_iload_n (k' := 19) rfl rfl rfl ?_
      have hdn : ¬ ix (μ 59) (A0 6) k9 0 = -1 := by rw [a60]; exact d0
      refine rn_callP (k' := 20) (y := 31) (vs := [mR 54, mI (A0 6)]) (S' := []) (v := some (mI (ix (μ 59) (A0 6) k9 0))) (h' := mkh (m_upd μ 1 A0) c s) rfl rfl rfl (c_named_f (μ := (m_upd μ 1 A0)) (v := A0 6) hk9 h13) ?_
      show Rn PT none kX5_readHerd 20 [some (mR 3), some (mR 54), some (mI (A0 6)), none] [mI (ix (μ 59) (A0 6) k9 0)] (mkh (m_upd μ 1 A0) c s) _
      refine rn_iconst (k' := 21) rfl rfl ?_
      refine rn_icmp_eq (k' := 22) rfl rfl (fun hc3 => ?_) (fun hc3 => ?_)
      · exfalso; omega
      · skip
        refine rn_aload_n (k' := 23) rfl rfl rfl ?_
        refine rn_iconst (k' := 24) rfl rfl ?_
        refine rn_callP (k' := 25) (y := 45) (vs := [mR 3, mI (3)]) (S' := []) (v := some (mI (0))) (h' := mkh (m_set (m_upd μ 1 A0) 3 2 (3)) c s) rfl rfl rfl (g_fail (μ := (m_upd μ 1 A0)) (e := 3)) ?_
        show Rn PT none kX5_readHerd 25 [some (mR 3), some (mR 54), some (mI (A0 6)), none] [mI (0)] (mkh (m_set (m_upd μ 1 A0) 3 2 (3)) c s) _
        refine rn_iret rfl (Or.inr (by omega)) ?_
        exact ⟨_, rfl, rfl, hA0.2.2.2.1, (CF.s (CF.u CF.r (by decide)) (by decide))⟩
    · exfalso; omega
  · exfalso; omega
set_option maxHeartbeats 1000000 in
theorem k_herd_ok {μ : Nat → Nat → Int} {c s : Nat} {b : Nat → Int} {n m p : Nat} (c8 : 0 ≤ μ 54 8 ∧ μ 54 8 ≤ 10) (c9 : 0 ≤ μ 54 9 ∧ μ 54 9 ≤ 10) (hC0 : CSt μ b n m p) (e0 : (tkK b n m p = 1 ∧ ix (μ 4) (tkV b n m p) 16 0 = -1)) (e1 : eN b n m (tkN b n m p) 0 (μ 54 8 - 1) = 0) (e2 : eN b n m (tkN b n m (tkN b n m p)) 0 (μ 54 9 - 1) = 0) (e3 : eN b n m (tkN b n m (tkN b n m (tkN b n m p))) 0 99 = 0) (e4 : tkK b n m (tkN b n m (tkN b n m (tkN b n m (tkN b n m p)))) = 3) {k9 : Nat} (hk9 : k9 ≤ 8) (h13 : μ 54 13 = (k9 : Int)) (h8 : ¬ k9 = 8) (d0 : ix (μ 59) (tkV b n m p) k9 0 = -1) : ∃ μ', (CSt μ' b n m (tkN b n m (tkN b n m (tkN b n m (tkN b n m (tkN b n m p))))) ∧ CFo μ μ' ∧ μ' 59 k9 = tkV b n m p ∧ (∀ j, ¬ j = k9 → μ' 59 j = μ 59 j) ∧ μ' 60 k9 = 10 * tkV b n m (tkN b n m (tkN b n m p)) + tkV b n m (tkN b n m p) ∧ (∀ j, ¬ j = k9 → μ' 60 j = μ 60 j) ∧ μ' 61 k9 = tkV b n m (tkN b n m (tkN b n m (tkN b n m p))) ∧ (∀ j, ¬ j = k9 → μ' 61 j = μ 61 j) ∧ μ' 54 13 = (k9 : Int) + 1 ∧ (∀ j, ¬ j = 13 → μ' 54 j = μ 54 j) ∧ μ' 55 = μ 55 ∧ μ' 56 = μ 56 ∧ μ' 57 = μ 57 ∧ μ' 58 = μ 58) ∧ Cl PT 57 [mR 3, mR 54] (mkh μ c s) (fun r => r = (some (some (mI 1)), mkh μ' c s)) := by
  refine Cl.ex (g := fun μ' => (some (some (mI 1)), mkh μ' c s)) ?_
  refine ⟨_, PT_57, Nat.le_of_ble_eq_true rfl, ?_⟩
  show Rn PT none kX5_readHerd 0 [some (mR 3), some (mR 54), none, none] [] (mkh μ c s) _
  refine rn_aload_n (k' := 1) rfl rfl rfl ?_
  refine rn_getI (k' := 2) rfl rfl K0_54 (by decide) rfl ?_
  refine rn_bipush (k' := 3) rfl rfl ?_
  refine rn_icmp_lt (k' := 4) rfl rfl (fun hc1 => ?_) (fun hc1 => ?_)
  · skip
    refine rn_aload_n (k' := 9) rfl rfl rfl ?_
    obtain ⟨A0, hA0, hc0⟩ := g_name (μ := μ) (c := c) (s := s) hC0 e0.1 e0.2
    have hC1 : CSt (m_upd μ 1 A0) b n m (tkN b n m p) := ⟨hC0.1, hC0.2.1, (tkN_b hC0.2.2.1).2.1, hA0.1, hA0.2.1, hA0.2.2.1⟩
    have a60 := hA0.2.2.2.2.2
    refine rn_callP (k' := 10) (y := 49) (vs := [mR 3]) (S' := []) (v := some (mI (1))) (h' := mkh (m_upd μ 1 A0) c s) rfl rfl rfl (hc0) ?_
    show Rn PT none kX5_readHerd 10 [some (mR 3), some (mR 54), none, none] [mI (1)] (mkh (m_upd μ 1 A0) c s) _
    refine rn_if_ne (k' := 11) rfl rfl (fun hc2 => ?_) (fun hc2 => ?_)
    · skip
      refine rn_aload_n (k' := 14) rfl rfl rfl ?_
      refine rn_getR (k' := 15) rfl rfl K0_3 (by decide) rfl R0_3_0 ?_
      refine rn_getI (k' := 16) rfl rfl K0_1 (by decide) rfl ?_
      show Rn PT none kX5_readHerd 16 [some (mR 3), some (mR 54), none, none] [mI (A0 6)] (mkh (m_upd μ 1 A0) c s) _
      refine rn_istore_n (k' := 17) (L' := [some (mR 3), some (mR 54), some (mI (A0 6)), none]) rfl rfl (Nat.le_of_ble_eq_true rfl) rfl ?_
      refine rn_aload_n (k' := 18) rfl rfl rfl ?_
      refine rn_iload_n (k' := 19) rfl rfl rfl ?_
      have hdn : ix (μ 59) (A0 6) k9 0 = -1 := by rw [a60]; exact d0
      refine rn_callP (k' := 20) (y := 31) (vs := [mR 54, mI (A0 6)]) (S' := []) (v := some (mI (ix (μ 59) (A0 6) k9 0))) (h' := mkh (m_upd μ 1 A0) c s) rfl rfl rfl (c_named_f (μ := (m_upd μ 1 A0)) (v := A0 6) hk9 h13) ?_
      show Rn PT none kX5_readHerd 20 [some (mR 3), some (mR 54), some (mI (A0 6)), none] [mI (ix (μ 59) (A0 6) k9 0)] (mkh (m_upd μ 1 A0) c s) _
      refine rn_iconst (k' := 21) rfl rfl ?_
      refine rn_icmp_eq (k' := 22) rfl rfl (fun hc3 => ?_) (fun hc3 => ?_)
      · skip
        refine rn_aload_n (k' := 27) rfl rfl rfl ?_
        refine rn_aload_n (k' := 28) rfl rfl rfl ?_
        obtain ⟨A2, hA2, hc2⟩ := g_ccell (μ := (m_upd μ 1 A0)) (c := c) (s := s) (b := b) (n := n) (m := m) (p := (tkN b n m p)) hC1 c8 c9 e1 e2
        have hC3 : CSt (m_upd (m_upd μ 1 A0) 1 A2) b n m (tkN b n m (tkN b n m (tkN b n m p))) := ⟨hC1.1, hC1.2.1, (tkN_b (tkN_b hC1.2.2.1).2.1).2.1, hA2.1, hA2.2.1, hA2.2.2.1⟩
        have ty1 := eN_ok e1
        have ty2 := eN_ok e2
        refine rn_callP (k' := 29) (y := 48) (vs := [mR 3, mR 54]) (S' := []) (v := some (mI (10 * tkV b n m (tkN b n m (tkN b n m p)) + tkV b n m (tkN b n m p)))) (h' := mkh (m_upd (m_upd μ 1 A0) 1 A2) c s) rfl rfl rfl (hc2) ?_
        show Rn PT none kX5_readHerd 29 [some (mR 3), some (mR 54), some (mI (A0 6)), none] [mI (10 * tkV b n m (tkN b n m (tkN b n m p)) + tkV b n m (tkN b n m p))] (mkh (m_upd (m_upd μ 1 A0) 1 A2) c s) _
        refine rn_istore_n (k' := 30) (L' := [some (mR 3), some (mR 54), some (mI (A0 6)), some (mI (10 * tkV b n m (tkN b n m (tkN b n m p)) + tkV b n m (tkN b n m p)))]) rfl rfl (Nat.le_of_ble_eq_true rfl) rfl ?_
        refine rn_iload_n (k' := 31) rfl rfl rfl ?_
        refine rn_iconst (k' := 32) rfl rfl ?_
        refine rn_icmp_eq (k' := 33) rfl rfl (fun hc4 => ?_) (fun hc4 => ?_)
        · exfalso; omega
        · skip
          refine rn_aload_n (k' := 34) rfl rfl rfl ?_
          refine rn_iconst (k' := 35) rfl rfl ?_
          refine rn_bipush (k' := 36) rfl rfl ?_
          obtain ⟨A3, hA3, hc3⟩ := g_num (μ := (m_upd (m_upd μ 1 A0) 1 A2)) (c := c) (s := s) (b := b) (n := n) (m := m) (p := (tkN b n m (tkN b n m (tkN b n m p)))) (lo := 0) (hi := 99) hC3 e3
          have hC4 : CSt (m_upd (m_upd (m_upd μ 1 A0) 1 A2) 1 A3) b n m (tkN b n m (tkN b n m (tkN b n m (tkN b n m p)))) := ⟨hC3.1, hC3.2.1, (tkN_b hC3.2.2.1).2.1, hA3.1, hA3.2.1, hA3.2.2.1⟩
          have hi9 : (μ 54 13).toNat = k9 := by omega
          have hv60 : 0 ≤ 10 * tkV b n m (tkN b n m (tkN b n m p)) + tkV b n m (tkN b n m p) ∧ 10 * tkV b n m (tkN b n m (tkN b n m p)) + tkV b n m (tkN b n m p) ≤ 99 := by have q1 := eN_ok e1; have q2 := eN_ok e2; omega
          have hv61 : 0 ≤ A3 6 ∧ A3 6 ≤ 99 := by have q3 := eN_ok e3; have q6 := hA3.2.2.2.2.2; omega
          refine rn_callP (k' := 37) (y := 47) (vs := [mR 3, mI (0), mI (99)]) (S' := []) (v := some (mI (1))) (h' := mkh (m_upd (m_upd (m_upd μ 1 A0) 1 A2) 1 A3) c s) rfl rfl rfl (hc3) ?_
          show Rn PT none kX5_readHerd 37 [some (mR 3), some (mR 54), some (mI (A0 6)), some (mI (10 * tkV b n m (tkN b n m (tkN b n m p)) + tkV b n m (tkN b n m p)))] [mI (1)] (mkh (m_upd (m_upd (m_upd μ 1 A0) 1 A2) 1 A3) c s) _
          refine rn_if_ne (k' := 38) rfl rfl (fun hc5 => ?_) (fun hc5 => ?_)
          · skip
            refine rn_aload_n (k' := 41) rfl rfl rfl ?_
            refine rn_getR (k' := 42) rfl rfl K0_54 (by decide) rfl R0_54_4 ?_
            refine rn_aload_n (k' := 43) rfl rfl rfl ?_
            refine rn_getI (k' := 44) rfl rfl K0_54 (by decide) rfl ?_
            show Rn PT none kX5_readHerd 44 [some (mR 3), some (mR 54), some (mI (A0 6)), some (mI (10 * tkV b n m (tkN b n m (tkN b n m p)) + tkV b n m (tkN b n m p)))] [mI (μ 54 13), mR 59] (mkh (m_upd (m_upd (m_upd μ 1 A0) 1 A2) 1 A3) c s) _
            refine rn_iload_n (k' := 45) rfl rfl rfl ?_
            refine rn_iastore (k' := 46) rfl rfl K0_59 (by omega) (by omega) ?_
            refine rn_aload_n (k' := 47) rfl rfl rfl ?_
            refine rn_getR (k' := 48) rfl rfl K0_54 (by decide) rfl R0_54_5 ?_
            refine rn_aload_n (k' := 49) rfl rfl rfl ?_
            refine rn_getI (k' := 50) rfl rfl K0_54 (by decide) rfl ?_
            show Rn PT none kX5_readHerd 50 [some (mR 3), some (mR 54), some (mI (A0 6)), some (mI (10 * tkV b n m (tkN b n m (tkN b n m p)) + tkV b n m (tkN b n m p)))] [mI (μ 54 13), mR 60] (mkh (m_set (m_upd (m_upd (m_upd μ 1 A0) 1 A2) 1 A3) 59 ((μ 54 13).toNat) (A0 6)) c s) _
            refine rn_iload_n (k' := 51) rfl rfl rfl ?_
            refine rn_iastore (k' := 52) rfl rfl K0_60 (by omega) (by omega) ?_
            refine rn_aload_n (k' := 53) rfl rfl rfl ?_
            refine rn_getR (k' := 54) rfl rfl K0_54 (by decide) rfl R0_54_6 ?_
            refine rn_aload_n (k' := 55) rfl rfl rfl ?_
            refine rn_getI (k' := 56) rfl rfl K0_54 (by decide) rfl ?_
            show Rn PT none kX5_readHerd 56 [some (mR 3), some (mR 54), some (mI (A0 6)), some (mI (10 * tkV b n m (tkN b n m (tkN b n m p)) + tkV b n m (tkN b n m p)))] [mI (μ 54 13), mR 61] (mkh (m_set (m_set (m_upd (m_upd (m_upd μ 1 A0) 1 A2) 1 A3) 59 ((μ 54 13).toNat) (A0 6)) 60 ((μ 54 13).toNat) (10 * tkV b n m (tkN b n m (tkN b n m p)) + tkV b n m (tkN b n m p))) c s) _
            refine rn_aload_n (k' := 57) rfl rfl rfl ?_
            refine rn_getR (k' := 58) rfl rfl K0_3 (by decide) rfl R0_3_0 ?_
            refine rn_getI (k' := 59) rfl rfl K0_1 (by decide) rfl ?_
            show Rn PT none kX5_readHerd 59 [some (mR 3), some (mR 54), some (mI (A0 6)), some (mI (10 * tkV b n m (tkN b n m (tkN b n m p)) + tkV b n m (tkN b n m p)))] [mI (A3 6), mI (μ 54 13), mR 61] (mkh (m_set (m_set (m_upd (m_upd (m_upd μ 1 A0) 1 A2) 1 A3) 59 ((μ 54 13).toNat) (A0 6)) 60 ((μ 54 13).toNat) (10 * tkV b n m (tkN b n m (tkN b n m p)) + tkV b n m (tkN b n m p))) c s) _
            refine rn_iastore (k' := 60) rfl rfl K0_61 (by omega) (by omega) ?_
            refine rn_aload_n (k' := 61) rfl rfl rfl ?_
            refine rn_dupR (k' := 62) rfl rfl ?_
            refine rn_getI (k' := 63) rfl rfl K0_54 (by decide) rfl ?_
            show Rn PT none kX5_readHerd 63 [some (mR 3), some (mR 54), some (mI (A0 6)), some (mI (10 * tkV b n m (tkN b n m (tkN b n m p)) + tkV b n m (tkN b n m p)))] [mI (μ 54 13), mR 54] (mkh (m_set (m_set (m_set (m_upd (m_upd (m_upd μ 1 A0) 1 A2) 1 A3) 59 ((μ 54 13).toNat) (A0 6)) 60 ((μ 54 13).toNat) (10 * tkV b n m (tkN b n m (tkN b n m p)) + tkV b n m (tkN b n m p))) 61 ((μ 54 13).toNat) (A3 6)) c s) _
            refine rn_iconst (k' := 64) rfl rfl ?_
            refine rn_iadd (k' := 65) rfl rfl (by omega) ?_
            refine rn_putI (k' := 66) rfl rfl K0_54 (by decide) rfl ?_
            refine rn_aload_n (k' := 67) rfl rfl rfl ?_
            obtain ⟨A4, hA4, hc4⟩ := g_end (μ := (m_set (m_set (m_set (m_set (m_upd (m_upd (m_upd μ 1 A0) 1 A2) 1 A3) 59 ((μ 54 13).toNat) (A0 6)) 60 ((μ 54 13).toNat) (10 * tkV b n m (tkN b n m (tkN b n m p)) + tkV b n m (tkN b n m p))) 61 ((μ 54 13).toNat) (A3 6)) 54 13 ((μ 54 13) + 1))) (c := c) (s := s) (b := b) (n := n) (m := m) (p := (tkN b n m (tkN b n m (tkN b n m (tkN b n m p))))) hC4 e4
            have hC5 : CSt (m_upd (m_set (m_set (m_set (m_set (m_upd (m_upd (m_upd μ 1 A0) 1 A2) 1 A3) 59 ((μ 54 13).toNat) (A0 6)) 60 ((μ 54 13).toNat) (10 * tkV b n m (tkN b n m (tkN b n m p)) + tkV b n m (tkN b n m p))) 61 ((μ 54 13).toNat) (A3 6)) 54 13 ((μ 54 13) + 1)) 1 A4) b n m (tkN b n m (tkN b n m (tkN b n m (tkN b n m (tkN b n m p))))) := ⟨hC4.1, hC4.2.1, (tkN_b hC4.2.2.1).2.1, hA4.1, hA4.2.1, hA4.2.2.1⟩
            refine rn_callP (k' := 68) (y := 50) (vs := [mR 3]) (S' := []) (v := some (mI (1))) (h' := mkh (m_upd (m_set (m_set (m_set (m_set (m_upd (m_upd (m_upd μ 1 A0) 1 A2) 1 A3) 59 ((μ 54 13).toNat) (A0 6)) 60 ((μ 54 13).toNat) (10 * tkV b n m (tkN b n m (tkN b n m p)) + tkV b n m (tkN b n m p))) 61 ((μ 54 13).toNat) (A3 6)) 54 13 ((μ 54 13) + 1)) 1 A4) c s) rfl rfl rfl (hc4) ?_
            show Rn PT none kX5_readHerd 68 [some (mR 3), some (mR 54), some (mI (A0 6)), some (mI (10 * tkV b n m (tkN b n m (tkN b n m p)) + tkV b n m (tkN b n m p)))] [mI (1)] (mkh (m_upd (m_set (m_set (m_set (m_set (m_upd (m_upd (m_upd μ 1 A0) 1 A2) 1 A3) 59 ((μ 54 13).toNat) (A0 6)) 60 ((μ 54 13).toNat) (10 * tkV b n m (tkN b n m (tkN b n m p)) + tkV b n m (tkN b n m p))) 61 ((μ 54 13).toNat) (A3 6)) 54 13 ((μ 54 13) + 1)) 1 A4) c s) _
            refine rn_iret rfl (Or.inr (by omega)) ?_
            exact ⟨_, rfl, hC5, ⟨(CF.u (CF.s (CF.sv (CF.sv (CF.s (CF.u (CF.u (CF.u CF.r (by decide)) (by decide)) (by decide)) (by decide)) (by decide) hv60) (by decide) hv61) (by decide)) (by decide)), rfl⟩, ⟨(set_hit hi9).trans a60, (fun j hj => set_mis (by omega)), (set_hit hi9), (fun j hj => set_mis (by omega)), (set_hit hi9).trans hA3.2.2.2.2.2, (fun j hj => set_mis (by omega)), (show μ 54 13 + 1 = _ by rw [h13]), (fun j h13 => by simp [m_set, m_upd, h13]), rfl, rfl, rfl, rfl⟩⟩
          · exfalso; omega
      · exfalso; omega
    · exfalso; omega
  · exfalso; omega
