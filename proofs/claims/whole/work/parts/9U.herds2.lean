variable {N : Int}
/-! ===== printed by wip/whole/gen9U.py: herd lines by the model ===== -/
set_option maxHeartbeats 1000000 in
theorem m_herd_full {μ : Nat → Nat → Int} {c s : Nat} {b : Nat → Int} {n m p : Nat} (hM : MSt μ b n m p) (hk : tkK b n m p = 1) (c8 : 0 ≤ μ 121 0 ∧ μ 121 0 ≤ 10) (c9 : 0 ≤ μ 121 1 ∧ μ 121 1 ≤ 10) {k9 : Nat} (hk9 : k9 ≤ 8) (h8 : μ 121 8 = (k9 : Int)) (hk8 : k9 = 8) : ∃ ν', (ν' 118 15 = 4 ∧ ν' 118 16 = ((tkP b n m p : Nat) : Int) ∧ MFr μ ν') ∧ Cl PT 189 [mR 118] (mkh μ c s) (fun r => r = (some (some (mI 0)), mkh ν' c s)) := by
  refine Cl.ex (g := fun ν' => (some (some (mI 0)), mkh ν' c s)) ?_
  refine ⟨_, PT_189, Nat.le_of_ble_eq_true rfl, ?_⟩
  show Rn PT none kX12_readHerd 0 [some (mR 118), none] [] (mkh μ c s) _
  refine rn_aload_n (k' := 1) rfl rfl rfl ?_
  refine rn_getR (k' := 2) rfl rfl K0_118 (by decide) rfl R0_118_7 ?_
  refine rn_bipush (k' := 3) rfl rfl ?_
  refine rn_iaload (k' := 4) rfl rfl K0_121 (by omega) (by omega) ?_
  show Rn PT none kX12_readHerd 4 [some (mR 118), none] [mI (μ 121 8)] (mkh μ c s) _
  refine rn_istore_n (k' := 5) (L' := [some (mR 118), some (mI (μ 121 8))]) rfl rfl (Nat.le_of_ble_eq_true rfl) rfl ?_
  refine rn_iload_n (k' := 6) rfl rfl rfl ?_
  refine rn_bipush (k' := 7) rfl rfl ?_
  refine rn_icmp_ne (k' := 8) rfl rfl (fun hc1 => ?_) (fun hc1 => ?_)
  · exfalso; omega
  · skip
    refine rn_aload_n (k' := 9) rfl rfl rfl ?_
    refine rn_iconst (k' := 10) rfl rfl ?_
    refine rn_callP (k' := 11) (y := 176) (vs := [mR 118, mI (4)]) (S' := []) (v := some (mI (0))) (h' := mkh (m_set (m_set μ 118 15 (4)) 118 16 (μ 118 12)) c s) rfl rfl rfl (g_bad (μ := μ) (e := 4)) ?_
    show Rn PT none kX12_readHerd 11 [some (mR 118), some (mI (μ 121 8))] [mI (0)] (mkh (m_set (m_set μ 118 15 (4)) 118 16 (μ 118 12)) c s) _
    refine rn_iret rfl (Or.inr (by omega)) ?_
    exact ⟨_, rfl, rfl, hM.2.2.2.2.2.2.1, (MFr.s (MFr.s MFr.r (by decide)) (by decide))⟩
set_option maxHeartbeats 1000000 in
theorem m_herd_x0 {μ : Nat → Nat → Int} {c s : Nat} {b : Nat → Int} {n m p : Nat} (hM : MSt μ b n m p) (hk : tkK b n m p = 1) (c8 : 0 ≤ μ 121 0 ∧ μ 121 0 ≤ 10) (c9 : 0 ≤ μ 121 1 ∧ μ 121 1 ≤ 10) {k9 : Nat} (hk9 : k9 ≤ 8) (h8 : μ 121 8 = (k9 : Int)) (hk8 : ¬ k9 = 8) (w0 : tkK b n m (tkN b n m p) = 1 → ∀ y, Nm (tkV b n m (tkN b n m p)) y → ¬ ix (μ 124) y 16 0 = -1) : ∃ ν', (ν' 118 15 = 1 ∧ ν' 118 16 = ((tkP b n m (tkN b n m p) : Nat) : Int) ∧ MFr μ ν') ∧ Cl PT 189 [mR 118] (mkh μ c s) (fun r => r = (some (some (mI 0)), mkh ν' c s)) := by
  refine Cl.ex (g := fun ν' => (some (some (mI 0)), mkh ν' c s)) ?_
  refine ⟨_, PT_189, Nat.le_of_ble_eq_true rfl, ?_⟩
  show Rn PT none kX12_readHerd 0 [some (mR 118), none] [] (mkh μ c s) _
  refine rn_aload_n (k' := 1) rfl rfl rfl ?_
  refine rn_getR (k' := 2) rfl rfl K0_118 (by decide) rfl R0_118_7 ?_
  refine rn_bipush (k' := 3) rfl rfl ?_
  refine rn_iaload (k' := 4) rfl rfl K0_121 (by omega) (by omega) ?_
  show Rn PT none kX12_readHerd 4 [some (mR 118), none] [mI (μ 121 8)] (mkh μ c s) _
  refine rn_istore_n (k' := 5) (L' := [some (mR 118), some (mI (μ 121 8))]) rfl rfl (Nat.le_of_ble_eq_true rfl) rfl ?_
  refine rn_iload_n (k' := 6) rfl rfl rfl ?_
  refine rn_bipush (k' := 7) rfl rfl ?_
  refine rn_icmp_ne (k' := 8) rfl rfl (fun hc1 => ?_) (fun hc1 => ?_)
  · skip
    refine rn_aload_n (k' := 13) rfl rfl rfl ?_
    refine rn_iconst (k' := 14) rfl rfl ?_
    refine rn_putZ (k' := 15) rfl rfl K0_118 (by decide) rfl (by omega) ?_
    refine rn_aload_n (k' := 16) rfl rfl rfl ?_
    obtain ⟨Ha, ⟨hma, hfa_⟩, hca⟩ := g_next2 (μ := (m_set μ 118 21 (1))) (c := c) (s := s) (b := b) (n := n) (m := m) (p := p) hM (by omega)
    have hfa : FRt Ha _ := hfa_.t
    have hM0 : MSt (m_upd (m_set μ 118 21 (1)) 118 Ha) b n m (tkN b n m p) := ⟨hM.1, hM.2.1, hM.2.2.1, (tkN_b hM.2.2.2.1).2.1, hma⟩
    obtain ⟨_, _, u12, u11, _, u17, _, _⟩ := hma
    refine rn_callP (k' := 17) (y := 175) (vs := [mR 118]) (S' := []) (v := none) (h' := mkh (m_upd (m_set μ 118 21 (1)) 118 Ha) c s) rfl rfl rfl (hca) ?_
    show Rn PT none kX12_readHerd 17 [some (mR 118), some (mI (μ 121 8))] [] (mkh (m_upd (m_set μ 118 21 (1)) 118 Ha) c s) _
    refine rn_aload_n (k' := 18) rfl rfl rfl ?_
    refine rn_callP (k' := 19) (y := 180) (vs := [mR 118]) (S' := []) (v := some (mI (0))) (h' := mkh (m_upd (m_set μ 118 21 (1)) 118 Ha) c s) rfl rfl rfl (by have hz : Cl PT 180 [mR 118] (mkh (m_upd (m_set μ 118 21 (1)) 118 Ha) c s) (fun r => r = (some (some (mI (if Ha 11 = 1 ∧ ix (μ 124) (Ha 17) 16 0 = -1 then 1 else 0))), mkh (m_upd (m_set μ 118 21 (1)) 118 Ha) c s)) := c_X12_isName (μ := (m_upd (m_set μ 118 21 (1)) 118 Ha)) (c := c) (s := s); rw [if_neg (show ¬ (Ha 11 = 1 ∧ ix (μ 124) (Ha 17) 16 0 = -1) from fun z => by have k0 := mkk_1.mp (u11.symm.trans z.1); exact w0 k0 _ (u17 k0) z.2)] at hz; exact hz) ?_
    show Rn PT none kX12_readHerd 19 [some (mR 118), some (mI (μ 121 8))] [mI (0)] (mkh (m_upd (m_set μ 118 21 (1)) 118 Ha) c s) _
    refine rn_if_ne (k' := 20) rfl rfl (fun hc3 => ?_) (fun hc3 => ?_)
    · exfalso; omega
    · skip
      refine rn_aload_n (k' := 21) rfl rfl rfl ?_
      refine rn_iconst (k' := 22) rfl rfl ?_
      refine rn_callP (k' := 23) (y := 176) (vs := [mR 118, mI (1)]) (S' := []) (v := some (mI (0))) (h' := mkh (m_set (m_set (m_upd (m_set μ 118 21 (1)) 118 Ha) 118 15 (1)) 118 16 (Ha 12)) c s) rfl rfl rfl (g_bad (μ := (m_upd (m_set μ 118 21 (1)) 118 Ha)) (e := 1)) ?_
      show Rn PT none kX12_readHerd 23 [some (mR 118), some (mI (μ 121 8))] [mI (0)] (mkh (m_set (m_set (m_upd (m_set μ 118 21 (1)) 118 Ha) 118 15 (1)) 118 16 (Ha 12)) c s) _
      refine rn_iret rfl (Or.inr (by omega)) ?_
      exact ⟨_, rfl, rfl, u12, (MFr.s (MFr.s (MFr.u (MFr.s MFr.r (by decide)) hfa) (by decide)) (by decide))⟩
  · exfalso; omega
set_option maxHeartbeats 1000000 in
theorem m_herd_had {μ : Nat → Nat → Int} {c s : Nat} {b : Nat → Int} {n m p : Nat} (hM : MSt μ b n m p) (hk : tkK b n m p = 1) (c8 : 0 ≤ μ 121 0 ∧ μ 121 0 ≤ 10) (c9 : 0 ≤ μ 121 1 ∧ μ 121 1 ≤ 10) {k9 : Nat} (hk9 : k9 ≤ 8) (h8 : μ 121 8 = (k9 : Int)) (hk8 : ¬ k9 = 8) (k0 : tkK b n m (tkN b n m p) = 1) (w0 : ∀ y, Nm (tkV b n m (tkN b n m p)) y → ix (μ 124) y 16 0 = -1) (d0 : ∀ y, Nm (tkV b n m (tkN b n m p)) y → ¬ ix (fun j => μ 123 (8 + j)) y k9 0 = -1) : ∃ ν', (ν' 118 15 = 3 ∧ ν' 118 16 = ((tkP b n m (tkN b n m p) : Nat) : Int) ∧ MFr μ ν') ∧ Cl PT 189 [mR 118] (mkh μ c s) (fun r => r = (some (some (mI 0)), mkh ν' c s)) := by
  refine Cl.ex (g := fun ν' => (some (some (mI 0)), mkh ν' c s)) ?_
  refine ⟨_, PT_189, Nat.le_of_ble_eq_true rfl, ?_⟩
  show Rn PT none kX12_readHerd 0 [some (mR 118), none] [] (mkh μ c s) _
  refine rn_aload_n (k' := 1) rfl rfl rfl ?_
  refine rn_getR (k' := 2) rfl rfl K0_118 (by decide) rfl R0_118_7 ?_
  refine rn_bipush (k' := 3) rfl rfl ?_
  refine rn_iaload (k' := 4) rfl rfl K0_121 (by omega) (by omega) ?_
  show Rn PT none kX12_readHerd 4 [some (mR 118), none] [mI (μ 121 8)] (mkh μ c s) _
  refine rn_istore_n (k' := 5) (L' := [some (mR 118), some (mI (μ 121 8))]) rfl rfl (Nat.le_of_ble_eq_true rfl) rfl ?_
  refine rn_iload_n (k' := 6) rfl rfl rfl ?_
  refine rn_bipush (k' := 7) rfl rfl ?_
  refine rn_icmp_ne (k' := 8) rfl rfl (fun hc1 => ?_) (fun hc1 => ?_)
  · skip
    refine rn_aload_n (k' := 13) rfl rfl rfl ?_
    refine rn_iconst (k' := 14) rfl rfl ?_
    refine rn_putZ (k' := 15) rfl rfl K0_118 (by decide) rfl (by omega) ?_
    refine rn_aload_n (k' := 16) rfl rfl rfl ?_
    obtain ⟨Ha, ⟨hma, hfa_⟩, hca⟩ := g_next2 (μ := (m_set μ 118 21 (1))) (c := c) (s := s) (b := b) (n := n) (m := m) (p := p) hM (by omega)
    have hfa : FRt Ha _ := hfa_.t
    have hM0 : MSt (m_upd (m_set μ 118 21 (1)) 118 Ha) b n m (tkN b n m p) := ⟨hM.1, hM.2.1, hM.2.2.1, (tkN_b hM.2.2.2.1).2.1, hma⟩
    obtain ⟨_, _, u12, u11, _, u17, _, _⟩ := hma
    have hu : Ha 11 = 1 := by rw [u11]; exact mkk_1.mpr k0
    have hw := w0 _ (u17 k0)
    have hd := d0 _ (u17 k0)
    refine rn_callP (k' := 17) (y := 175) (vs := [mR 118]) (S' := []) (v := none) (h' := mkh (m_upd (m_set μ 118 21 (1)) 118 Ha) c s) rfl rfl rfl (hca) ?_
    show Rn PT none kX12_readHerd 17 [some (mR 118), some (mI (μ 121 8))] [] (mkh (m_upd (m_set μ 118 21 (1)) 118 Ha) c s) _
    refine rn_aload_n (k' := 18) rfl rfl rfl ?_
    refine rn_callP (k' := 19) (y := 180) (vs := [mR 118]) (S' := []) (v := some (mI (1))) (h' := mkh (m_upd (m_set μ 118 21 (1)) 118 Ha) c s) rfl rfl rfl (by have hz : Cl PT 180 [mR 118] (mkh (m_upd (m_set μ 118 21 (1)) 118 Ha) c s) (fun r => r = (some (some (mI (if Ha 11 = 1 ∧ ix (μ 124) (Ha 17) 16 0 = -1 then 1 else 0))), mkh (m_upd (m_set μ 118 21 (1)) 118 Ha) c s)) := c_X12_isName (μ := (m_upd (m_set μ 118 21 (1)) 118 Ha)) (c := c) (s := s); rw [if_pos (show Ha 11 = 1 ∧ ix (μ 124) (Ha 17) 16 0 = -1 from ⟨hu, hw⟩)] at hz; exact hz) ?_
    show Rn PT none kX12_readHerd 19 [some (mR 118), some (mI (μ 121 8))] [mI (1)] (mkh (m_upd (m_set μ 118 21 (1)) 118 Ha) c s) _
    refine rn_if_ne (k' := 20) rfl rfl (fun hc3 => ?_) (fun hc3 => ?_)
    · skip
      refine rn_aload_n (k' := 25) rfl rfl rfl ?_
      refine rn_bipush (k' := 26) rfl rfl ?_
      refine rn_iload_n (k' := 27) rfl rfl rfl ?_
      have hfb9 := ix_b (f := fun j => μ 123 (8 + j)) (v := Ha 17) k9 0
      refine rn_callP (k' := 28) (y := 182) (vs := [mR 118, mI (8), mI (μ 121 8)]) (S' := []) (v := some (mI (ix (fun j => μ 123 (8 + j)) (Ha 17) k9 0))) (h' := mkh (m_upd (m_set μ 118 21 (1)) 118 Ha) c s) rfl rfl rfl (by have hz := c_find (μ := (m_upd (m_set μ 118 21 (1)) 118 Ha)) (c := c) (s := s) (o9 := 8) (k9 := k9) (by decide) hk9; rw [← h8] at hz; exact hz) ?_
      show Rn PT none kX12_readHerd 28 [some (mR 118), some (mI (μ 121 8))] [mI (ix (fun j => μ 123 (8 + j)) (Ha 17) k9 0)] (mkh (m_upd (m_set μ 118 21 (1)) 118 Ha) c s) _
      refine rn_if_lt (k' := 29) rfl rfl (fun hc4 => ?_) (fun hc4 => ?_)
      · exfalso; omega
      · skip
        refine rn_aload_n (k' := 30) rfl rfl rfl ?_
        refine rn_iconst (k' := 31) rfl rfl ?_
        refine rn_callP (k' := 32) (y := 176) (vs := [mR 118, mI (3)]) (S' := []) (v := some (mI (0))) (h' := mkh (m_set (m_set (m_upd (m_set μ 118 21 (1)) 118 Ha) 118 15 (3)) 118 16 (Ha 12)) c s) rfl rfl rfl (g_bad (μ := (m_upd (m_set μ 118 21 (1)) 118 Ha)) (e := 3)) ?_
        show Rn PT none kX12_readHerd 32 [some (mR 118), some (mI (μ 121 8))] [mI (0)] (mkh (m_set (m_set (m_upd (m_set μ 118 21 (1)) 118 Ha) 118 15 (3)) 118 16 (Ha 12)) c s) _
        refine rn_iret rfl (Or.inr (by omega)) ?_
        exact ⟨_, rfl, rfl, u12, (MFr.s (MFr.s (MFr.u (MFr.s MFr.r (by decide)) hfa) (by decide)) (by decide))⟩
    · exfalso; omega
  · exfalso; omega
set_option maxHeartbeats 1000000 in
theorem m_herd_x1 {μ : Nat → Nat → Int} {c s : Nat} {b : Nat → Int} {n m p : Nat} (hM : MSt μ b n m p) (hk : tkK b n m p = 1) (c8 : 0 ≤ μ 121 0 ∧ μ 121 0 ≤ 10) (c9 : 0 ≤ μ 121 1 ∧ μ 121 1 ≤ 10) {k9 : Nat} (hk9 : k9 ≤ 8) (h8 : μ 121 8 = (k9 : Int)) (hk8 : ¬ k9 = 8) (k0 : tkK b n m (tkN b n m p) = 1) (w0 : ∀ y, Nm (tkV b n m (tkN b n m p)) y → ix (μ 124) y 16 0 = -1) (d0 : ∀ y, Nm (tkV b n m (tkN b n m p)) y → ix (fun j => μ 123 (8 + j)) y k9 0 = -1) (e1 : ¬ eN b n m (tkN b n m (tkN b n m p)) 0 (μ 121 0 - 1) = 0) : ∃ ν', (ν' 118 15 = eN b n m (tkN b n m (tkN b n m p)) 0 (μ 121 0 - 1) ∧ ν' 118 16 = ((tkP b n m (tkN b n m (tkN b n m p)) : Nat) : Int) ∧ MFr μ ν') ∧ Cl PT 189 [mR 118] (mkh μ c s) (fun r => r = (some (some (mI 0)), mkh ν' c s)) := by
  refine Cl.ex (g := fun ν' => (some (some (mI 0)), mkh ν' c s)) ?_
  refine ⟨_, PT_189, Nat.le_of_ble_eq_true rfl, ?_⟩
  show Rn PT none kX12_readHerd 0 [some (mR 118), none] [] (mkh μ c s) _
  refine rn_aload_n (k' := 1) rfl rfl rfl ?_
  refine rn_getR (k' := 2) rfl rfl K0_118 (by decide) rfl R0_118_7 ?_
  refine rn_bipush (k' := 3) rfl rfl ?_
  refine rn_iaload (k' := 4) rfl rfl K0_121 (by omega) (by omega) ?_
  show Rn PT none kX12_readHerd 4 [some (mR 118), none] [mI (μ 121 8)] (mkh μ c s) _
  refine rn_istore_n (k' := 5) (L' := [some (mR 118), some (mI (μ 121 8))]) rfl rfl (Nat.le_of_ble_eq_true rfl) rfl ?_
  refine rn_iload_n (k' := 6) rfl rfl rfl ?_
  refine rn_bipush (k' := 7) rfl rfl ?_
  refine rn_icmp_ne (k' := 8) rfl rfl (fun hc1 => ?_) (fun hc1 => ?_)
  · skip
    refine rn_aload_n (k' := 13) rfl rfl rfl ?_
    refine rn_iconst (k' := 14) rfl rfl ?_
    refine rn_putZ (k' := 15) rfl rfl K0_118 (by decide) rfl (by omega) ?_
    refine rn_aload_n (k' := 16) rfl rfl rfl ?_
    obtain ⟨Ha, ⟨hma, hfa_⟩, hca⟩ := g_next2 (μ := (m_set μ 118 21 (1))) (c := c) (s := s) (b := b) (n := n) (m := m) (p := p) hM (by omega)
    have hfa : FRt Ha _ := hfa_.t
    have hM0 : MSt (m_upd (m_set μ 118 21 (1)) 118 Ha) b n m (tkN b n m p) := ⟨hM.1, hM.2.1, hM.2.2.1, (tkN_b hM.2.2.2.1).2.1, hma⟩
    obtain ⟨_, _, u12, u11, _, u17, _, _⟩ := hma
    have hu : Ha 11 = 1 := by rw [u11]; exact mkk_1.mpr k0
    have hw := w0 _ (u17 k0)
    have hd := d0 _ (u17 k0)
    refine rn_callP (k' := 17) (y := 175) (vs := [mR 118]) (S' := []) (v := none) (h' := mkh (m_upd (m_set μ 118 21 (1)) 118 Ha) c s) rfl rfl rfl (hca) ?_
    show Rn PT none kX12_readHerd 17 [some (mR 118), some (mI (μ 121 8))] [] (mkh (m_upd (m_set μ 118 21 (1)) 118 Ha) c s) _
    refine rn_aload_n (k' := 18) rfl rfl rfl ?_
    refine rn_callP (k' := 19) (y := 180) (vs := [mR 118]) (S' := []) (v := some (mI (1))) (h' := mkh (m_upd (m_set μ 118 21 (1)) 118 Ha) c s) rfl rfl rfl (by have hz : Cl PT 180 [mR 118] (mkh (m_upd (m_set μ 118 21 (1)) 118 Ha) c s) (fun r => r = (some (some (mI (if Ha 11 = 1 ∧ ix (μ 124) (Ha 17) 16 0 = -1 then 1 else 0))), mkh (m_upd (m_set μ 118 21 (1)) 118 Ha) c s)) := c_X12_isName (μ := (m_upd (m_set μ 118 21 (1)) 118 Ha)) (c := c) (s := s); rw [if_pos (show Ha 11 = 1 ∧ ix (μ 124) (Ha 17) 16 0 = -1 from ⟨hu, hw⟩)] at hz; exact hz) ?_
    show Rn PT none kX12_readHerd 19 [some (mR 118), some (mI (μ 121 8))] [mI (1)] (mkh (m_upd (m_set μ 118 21 (1)) 118 Ha) c s) _
    refine rn_if_ne (k' := 20) rfl rfl (fun hc3 => ?_) (fun hc3 => ?_)
    · skip
      refine rn_aload_n (k' := 25) rfl rfl rfl ?_
      refine rn_bipush (k' := 26) rfl rfl ?_
      refine rn_iload_n (k' := 27) rfl rfl rfl ?_
      have hfb9 := ix_b (f := fun j => μ 123 (8 + j)) (v := Ha 17) k9 0
      refine rn_callP (k' := 28) (y := 182) (vs := [mR 118, mI (8), mI (μ 121 8)]) (S' := []) (v := some (mI (ix (fun j => μ 123 (8 + j)) (Ha 17) k9 0))) (h' := mkh (m_upd (m_set μ 118 21 (1)) 118 Ha) c s) rfl rfl rfl (by have hz := c_find (μ := (m_upd (m_set μ 118 21 (1)) 118 Ha)) (c := c) (s := s) (o9 := 8) (k9 := k9) (by decide) hk9; rw [← h8] at hz; exact hz) ?_
      show Rn PT none kX12_readHerd 28 [some (mR 118), some (mI (μ 121 8))] [mI (ix (fun j => μ 123 (8 + j)) (Ha 17) k9 0)] (mkh (m_upd (m_set μ 118 21 (1)) 118 Ha) c s) _
      refine rn_if_lt (k' := 29) rfl rfl (fun hc4 => ?_) (fun hc4 => ?_)
      · skip
        refine rn_aload_n (k' := 34) rfl rfl rfl ?_
        refine rn_getR (k' := 35) rfl rfl K0_118 (by decide) rfl R0_118_9 ?_
        refine rn_bipush (k' := 36) rfl rfl ?_
        refine rn_iload_n (k' := 37) rfl rfl rfl ?_
        refine rn_iadd (k' := 38) rfl rfl (by omega) ?_
        refine rn_aload_n (k' := 39) rfl rfl rfl ?_
        refine rn_getJ (k' := 40) rfl rfl K0_118 (by decide) rfl ?_
        show Rn PT none kX12_readHerd 40 [some (mR 118), some (mI (μ 121 8))] [mJ (Ha 17), mI (8 + (μ 121 8)), mR 123] (mkh (m_upd (m_set μ 118 21 (1)) 118 Ha) c s) _
        refine rn_lastore (k' := 41) rfl rfl K0_123 (by omega) (by omega) ?_
        refine rn_aload_n (k' := 42) rfl rfl rfl ?_
        obtain ⟨Hb, ⟨hmb, hfb_⟩, hcb⟩ := g_next2 (μ := (m_set (m_upd (m_set μ 118 21 (1)) 118 Ha) 123 ((8 + (μ 121 8)).toNat) (Ha 17))) (c := c) (s := s) (b := b) (n := n) (m := m) (p := (tkN b n m p)) hM0 (by omega)
        have hfb : FRt Hb _ := hfb_.t
        have hM1 : MSt (m_upd (m_set (m_upd (m_set μ 118 21 (1)) 118 Ha) 123 ((8 + (μ 121 8)).toNat) (Ha 17)) 118 Hb) b n m (tkN b n m (tkN b n m p)) := ⟨hM0.1, hM0.2.1, hM0.2.2.1, (tkN_b hM0.2.2.2.1).2.1, hmb⟩
        refine rn_callP (k' := 43) (y := 175) (vs := [mR 118]) (S' := []) (v := none) (h' := mkh (m_upd (m_set (m_upd (m_set μ 118 21 (1)) 118 Ha) 123 ((8 + (μ 121 8)).toNat) (Ha 17)) 118 Hb) c s) rfl rfl rfl (hcb) ?_
        show Rn PT none kX12_readHerd 43 [some (mR 118), some (mI (μ 121 8))] [] (mkh (m_upd (m_set (m_upd (m_set μ 118 21 (1)) 118 Ha) 123 ((8 + (μ 121 8)).toNat) (Ha 17)) 118 Hb) c s) _
        refine rn_aload_n (k' := 44) rfl rfl rfl ?_
        obtain ⟨Hx, hfx, hcx⟩ := g_tcellX0 (μ := (m_upd (m_set (m_upd (m_set μ 118 21 (1)) 118 Ha) 123 ((8 + (μ 121 8)).toNat) (Ha 17)) 118 Hb)) (c := c) (s := s) (b := b) (n := n) (m := m) (p := (tkN b n m (tkN b n m p))) hM1 c8 c9 e1
        refine rn_callP (k' := 45) (y := 187) (vs := [mR 118]) (S' := []) (v := some (mI (0))) (h' := mkh (m_set (m_set (m_upd (m_upd (m_set (m_upd (m_set μ 118 21 (1)) 118 Ha) 123 ((8 + (μ 121 8)).toNat) (Ha 17)) 118 Hb) 118 Hx) 118 15 (eN b n m (tkN b n m (tkN b n m p)) 0 (μ 121 0 - 1))) 118 16 (((tkP b n m (tkN b n m (tkN b n m p)) : Nat) : Int))) c s) rfl rfl rfl (hcx) ?_
        show Rn PT none kX12_readHerd 45 [some (mR 118), some (mI (μ 121 8))] [mI (0)] (mkh (m_set (m_set (m_upd (m_upd (m_set (m_upd (m_set μ 118 21 (1)) 118 Ha) 123 ((8 + (μ 121 8)).toNat) (Ha 17)) 118 Hb) 118 Hx) 118 15 (eN b n m (tkN b n m (tkN b n m p)) 0 (μ 121 0 - 1))) 118 16 (((tkP b n m (tkN b n m (tkN b n m p)) : Nat) : Int))) c s) _
        refine rn_if_ne (k' := 46) rfl rfl (fun hc5 => ?_) (fun hc5 => ?_)
        · exfalso; omega
        · skip
          refine rn_iconst (k' := 47) rfl rfl ?_
          refine rn_iret rfl (Or.inr (by omega)) ?_
          exact ⟨_, rfl, rfl, rfl, (MFr.s (MFr.s (MFr.u (MFr.u (MFr.s2 (MFr.u (MFr.s MFr.r (by decide)) hfa) (.inr ⟨rfl, by omega⟩)) hfb) hfx) (by decide)) (by decide))⟩
      · exfalso; omega
    · exfalso; omega
  · exfalso; omega
set_option maxHeartbeats 1000000 in
theorem m_herd_x2 {μ : Nat → Nat → Int} {c s : Nat} {b : Nat → Int} {n m p : Nat} (hM : MSt μ b n m p) (hk : tkK b n m p = 1) (c8 : 0 ≤ μ 121 0 ∧ μ 121 0 ≤ 10) (c9 : 0 ≤ μ 121 1 ∧ μ 121 1 ≤ 10) {k9 : Nat} (hk9 : k9 ≤ 8) (h8 : μ 121 8 = (k9 : Int)) (hk8 : ¬ k9 = 8) (k0 : tkK b n m (tkN b n m p) = 1) (w0 : ∀ y, Nm (tkV b n m (tkN b n m p)) y → ix (μ 124) y 16 0 = -1) (d0 : ∀ y, Nm (tkV b n m (tkN b n m p)) y → ix (fun j => μ 123 (8 + j)) y k9 0 = -1) (e1 : eN b n m (tkN b n m (tkN b n m p)) 0 (μ 121 0 - 1) = 0) (e2 : ¬ eN b n m (tkN b n m (tkN b n m (tkN b n m p))) 0 (μ 121 1 - 1) = 0) : ∃ ν', (ν' 118 15 = eN b n m (tkN b n m (tkN b n m (tkN b n m p))) 0 (μ 121 1 - 1) ∧ ν' 118 16 = ((tkP b n m (tkN b n m (tkN b n m (tkN b n m p))) : Nat) : Int) ∧ MFr μ ν') ∧ Cl PT 189 [mR 118] (mkh μ c s) (fun r => r = (some (some (mI 0)), mkh ν' c s)) := by
  refine Cl.ex (g := fun ν' => (some (some (mI 0)), mkh ν' c s)) ?_
  refine ⟨_, PT_189, Nat.le_of_ble_eq_true rfl, ?_⟩
  show Rn PT none kX12_readHerd 0 [some (mR 118), none] [] (mkh μ c s) _
  refine rn_aload_n (k' := 1) rfl rfl rfl ?_
  refine rn_getR (k' := 2) rfl rfl K0_118 (by decide) rfl R0_118_7 ?_
  refine rn_bipush (k' := 3) rfl rfl ?_
  refine rn_iaload (k' := 4) rfl rfl K0_121 (by omega) (by omega) ?_
  show Rn PT none kX12_readHerd 4 [some (mR 118), none] [mI (μ 121 8)] (mkh μ c s) _
  refine rn_istore_n (k' := 5) (L' := [some (mR 118), some (mI (μ 121 8))]) rfl rfl (Nat.le_of_ble_eq_true rfl) rfl ?_
  refine rn_iload_n (k' := 6) rfl rfl rfl ?_
  refine rn_bipush (k' := 7) rfl rfl ?_
  refine rn_icmp_ne (k' := 8) rfl rfl (fun hc1 => ?_) (fun hc1 => ?_)
  · skip
    refine rn_aload_n (k' := 13) rfl rfl rfl ?_
    refine rn_iconst (k' := 14) rfl rfl ?_
    refine rn_putZ (k' := 15) rfl rfl K0_118 (by decide) rfl (by omega) ?_
    refine rn_aload_n (k' := 16) rfl rfl rfl ?_
    obtain ⟨Ha, ⟨hma, hfa_⟩, hca⟩ := g_next2 (μ := (m_set μ 118 21 (1))) (c := c) (s := s) (b := b) (n := n) (m := m) (p := p) hM (by omega)
    have hfa : FRt Ha _ := hfa_.t
    have hM0 : MSt (m_upd (m_set μ 118 21 (1)) 118 Ha) b n m (tkN b n m p) := ⟨hM.1, hM.2.1, hM.2.2.1, (tkN_b hM.2.2.2.1).2.1, hma⟩
    obtain ⟨_, _, u12, u11, _, u17, _, _⟩ := hma
    have hu : Ha 11 = 1 := by rw [u11]; exact mkk_1.mpr k0
    have hw := w0 _ (u17 k0)
    have hd := d0 _ (u17 k0)
    refine rn_callP (k' := 17) (y := 175) (vs := [mR 118]) (S' := []) (v := none) (h' := mkh (m_upd (m_set μ 118 21 (1)) 118 Ha) c s) rfl rfl rfl (hca) ?_
    show Rn PT none kX12_readHerd 17 [some (mR 118), some (mI (μ 121 8))] [] (mkh (m_upd (m_set μ 118 21 (1)) 118 Ha) c s) _
    refine rn_aload_n (k' := 18) rfl rfl rfl ?_
    refine rn_callP (k' := 19) (y := 180) (vs := [mR 118]) (S' := []) (v := some (mI (1))) (h' := mkh (m_upd (m_set μ 118 21 (1)) 118 Ha) c s) rfl rfl rfl (by have hz : Cl PT 180 [mR 118] (mkh (m_upd (m_set μ 118 21 (1)) 118 Ha) c s) (fun r => r = (some (some (mI (if Ha 11 = 1 ∧ ix (μ 124) (Ha 17) 16 0 = -1 then 1 else 0))), mkh (m_upd (m_set μ 118 21 (1)) 118 Ha) c s)) := c_X12_isName (μ := (m_upd (m_set μ 118 21 (1)) 118 Ha)) (c := c) (s := s); rw [if_pos (show Ha 11 = 1 ∧ ix (μ 124) (Ha 17) 16 0 = -1 from ⟨hu, hw⟩)] at hz; exact hz) ?_
    show Rn PT none kX12_readHerd 19 [some (mR 118), some (mI (μ 121 8))] [mI (1)] (mkh (m_upd (m_set μ 118 21 (1)) 118 Ha) c s) _
    refine rn_if_ne (k' := 20) rfl rfl (fun hc3 => ?_) (fun hc3 => ?_)
    · skip
      refine rn_aload_n (k' := 25) rfl rfl rfl ?_
      refine rn_bipush (k' := 26) rfl rfl ?_
      refine rn_iload_n (k' := 27) rfl rfl rfl ?_
      have hfb9 := ix_b (f := fun j => μ 123 (8 + j)) (v := Ha 17) k9 0
      refine rn_callP (k' := 28) (y := 182) (vs := [mR 118, mI (8), mI (μ 121 8)]) (S' := []) (v := some (mI (ix (fun j => μ 123 (8 + j)) (Ha 17) k9 0))) (h' := mkh (m_upd (m_set μ 118 21 (1)) 118 Ha) c s) rfl rfl rfl (by have hz := c_find (μ := (m_upd (m_set μ 118 21 (1)) 118 Ha)) (c := c) (s := s) (o9 := 8) (k9 := k9) (by decide) hk9; rw [← h8] at hz; exact hz) ?_
      show Rn PT none kX12_readHerd 28 [some (mR 118), some (mI (μ 121 8))] [mI (ix (fun j => μ 123 (8 + j)) (Ha 17) k9 0)] (mkh (m_upd (m_set μ 118 21 (1)) 118 Ha) c s) _
      refine rn_if_lt (k' := 29) rfl rfl (fun hc4 => ?_) (fun hc4 => ?_)
      · skip
        refine rn_aload_n (k' := 34) rfl rfl rfl ?_
        refine rn_getR (k' := 35) rfl rfl K0_118 (by decide) rfl R0_118_9 ?_
        refine rn_bipush (k' := 36) rfl rfl ?_
        refine rn_iload_n (k' := 37) rfl rfl rfl ?_
        refine rn_iadd (k' := 38) rfl rfl (by omega) ?_
        refine rn_aload_n (k' := 39) rfl rfl rfl ?_
        refine rn_getJ (k' := 40) rfl rfl K0_118 (by decide) rfl ?_
        show Rn PT none kX12_readHerd 40 [some (mR 118), some (mI (μ 121 8))] [mJ (Ha 17), mI (8 + (μ 121 8)), mR 123] (mkh (m_upd (m_set μ 118 21 (1)) 118 Ha) c s) _
        refine rn_lastore (k' := 41) rfl rfl K0_123 (by omega) (by omega) ?_
        refine rn_aload_n (k' := 42) rfl rfl rfl ?_
        obtain ⟨Hb, ⟨hmb, hfb_⟩, hcb⟩ := g_next2 (μ := (m_set (m_upd (m_set μ 118 21 (1)) 118 Ha) 123 ((8 + (μ 121 8)).toNat) (Ha 17))) (c := c) (s := s) (b := b) (n := n) (m := m) (p := (tkN b n m p)) hM0 (by omega)
        have hfb : FRt Hb _ := hfb_.t
        have hM1 : MSt (m_upd (m_set (m_upd (m_set μ 118 21 (1)) 118 Ha) 123 ((8 + (μ 121 8)).toNat) (Ha 17)) 118 Hb) b n m (tkN b n m (tkN b n m p)) := ⟨hM0.1, hM0.2.1, hM0.2.2.1, (tkN_b hM0.2.2.2.1).2.1, hmb⟩
        refine rn_callP (k' := 43) (y := 175) (vs := [mR 118]) (S' := []) (v := none) (h' := mkh (m_upd (m_set (m_upd (m_set μ 118 21 (1)) 118 Ha) 123 ((8 + (μ 121 8)).toNat) (Ha 17)) 118 Hb) c s) rfl rfl rfl (hcb) ?_
        show Rn PT none kX12_readHerd 43 [some (mR 118), some (mI (μ 121 8))] [] (mkh (m_upd (m_set (m_upd (m_set μ 118 21 (1)) 118 Ha) 123 ((8 + (μ 121 8)).toNat) (Ha 17)) 118 Hb) c s) _
        refine rn_aload_n (k' := 44) rfl rfl rfl ?_
        obtain ⟨Hx, hfx, hcx⟩ := g_tcellX1 (μ := (m_upd (m_set (m_upd (m_set μ 118 21 (1)) 118 Ha) 123 ((8 + (μ 121 8)).toNat) (Ha 17)) 118 Hb)) (c := c) (s := s) (b := b) (n := n) (m := m) (p := (tkN b n m (tkN b n m p))) hM1 c8 c9 e1 e2
        refine rn_callP (k' := 45) (y := 187) (vs := [mR 118]) (S' := []) (v := some (mI (0))) (h' := mkh (m_set (m_set (m_upd (m_upd (m_set (m_upd (m_set μ 118 21 (1)) 118 Ha) 123 ((8 + (μ 121 8)).toNat) (Ha 17)) 118 Hb) 118 Hx) 118 15 (eN b n m (tkN b n m (tkN b n m (tkN b n m p))) 0 (μ 121 1 - 1))) 118 16 (((tkP b n m (tkN b n m (tkN b n m (tkN b n m p))) : Nat) : Int))) c s) rfl rfl rfl (hcx) ?_
        show Rn PT none kX12_readHerd 45 [some (mR 118), some (mI (μ 121 8))] [mI (0)] (mkh (m_set (m_set (m_upd (m_upd (m_set (m_upd (m_set μ 118 21 (1)) 118 Ha) 123 ((8 + (μ 121 8)).toNat) (Ha 17)) 118 Hb) 118 Hx) 118 15 (eN b n m (tkN b n m (tkN b n m (tkN b n m p))) 0 (μ 121 1 - 1))) 118 16 (((tkP b n m (tkN b n m (tkN b n m (tkN b n m p))) : Nat) : Int))) c s) _
        refine rn_if_ne (k' := 46) rfl rfl (fun hc5 => ?_) (fun hc5 => ?_)
        · exfalso; omega
        · skip
          refine rn_iconst (k' := 47) rfl rfl ?_
          refine rn_iret rfl (Or.inr (by omega)) ?_
          exact ⟨_, rfl, rfl, rfl, (MFr.s (MFr.s (MFr.u (MFr.u (MFr.s2 (MFr.u (MFr.s MFr.r (by decide)) hfa) (.inr ⟨rfl, by omega⟩)) hfb) hfx) (by decide)) (by decide))⟩
      · exfalso; omega
    · exfalso; omega
  · exfalso; omega
set_option maxHeartbeats 1000000 in
theorem m_herd_x3 {μ : Nat → Nat → Int} {c s : Nat} {b : Nat → Int} {n m p : Nat} (hM : MSt μ b n m p) (hk : tkK b n m p = 1) (c8 : 0 ≤ μ 121 0 ∧ μ 121 0 ≤ 10) (c9 : 0 ≤ μ 121 1 ∧ μ 121 1 ≤ 10) {k9 : Nat} (hk9 : k9 ≤ 8) (h8 : μ 121 8 = (k9 : Int)) (hk8 : ¬ k9 = 8) (k0 : tkK b n m (tkN b n m p) = 1) (w0 : ∀ y, Nm (tkV b n m (tkN b n m p)) y → ix (μ 124) y 16 0 = -1) (d0 : ∀ y, Nm (tkV b n m (tkN b n m p)) y → ix (fun j => μ 123 (8 + j)) y k9 0 = -1) (e1 : eN b n m (tkN b n m (tkN b n m p)) 0 (μ 121 0 - 1) = 0) (e2 : eN b n m (tkN b n m (tkN b n m (tkN b n m p))) 0 (μ 121 1 - 1) = 0) (e3 : ¬ eN b n m (tkN b n m (tkN b n m (tkN b n m (tkN b n m p)))) 0 99 = 0) : ∃ ν', (ν' 118 15 = eN b n m (tkN b n m (tkN b n m (tkN b n m (tkN b n m p)))) 0 99 ∧ ν' 118 16 = ((tkP b n m (tkN b n m (tkN b n m (tkN b n m (tkN b n m p)))) : Nat) : Int) ∧ MFr μ ν') ∧ Cl PT 189 [mR 118] (mkh μ c s) (fun r => r = (some (some (mI 0)), mkh ν' c s)) := by
  refine Cl.ex (g := fun ν' => (some (some (mI 0)), mkh ν' c s)) ?_
  refine ⟨_, PT_189, Nat.le_of_ble_eq_true rfl, ?_⟩
  show Rn PT none kX12_readHerd 0 [some (mR 118), none] [] (mkh μ c s) _
  refine rn_aload_n (k' := 1) rfl rfl rfl ?_
  refine rn_getR (k' := 2) rfl rfl K0_118 (by decide) rfl R0_118_7 ?_
  refine rn_bipush (k' := 3) rfl rfl ?_
  refine rn_iaload (k' := 4) rfl rfl K0_121 (by omega) (by omega) ?_
  show Rn PT none kX12_readHerd 4 [some (mR 118), none] [mI (μ 121 8)] (mkh μ c s) _
  refine rn_istore_n (k' := 5) (L' := [some (mR 118), some (mI (μ 121 8))]) rfl rfl (Nat.le_of_ble_eq_true rfl) rfl ?_
  refine rn_iload_n (k' := 6) rfl rfl rfl ?_
  refine rn_bipush (k' := 7) rfl rfl ?_
  refine rn_icmp_ne (k' := 8) rfl rfl (fun hc1 => ?_) (fun hc1 => ?_)
  · skip
    refine rn_aload_n (k' := 13) rfl rfl rfl ?_
    refine rn_iconst (k' := 14) rfl rfl ?_
    refine rn_putZ (k' := 15) rfl rfl K0_118 (by decide) rfl (by omega) ?_
    refine rn_aload_n (k' := 16) rfl rfl rfl ?_
    obtain ⟨Ha, ⟨hma, hfa_⟩, hca⟩ := g_next2 (μ := (m_set μ 118 21 (1))) (c := c) (s := s) (b := b) (n := n) (m := m) (p := p) hM (by omega)
    have hfa : FRt Ha _ := hfa_.t
    have hM0 : MSt (m_upd (m_set μ 118 21 (1)) 118 Ha) b n m (tkN b n m p) := ⟨hM.1, hM.2.1, hM.2.2.1, (tkN_b hM.2.2.2.1).2.1, hma⟩
    obtain ⟨_, _, u12, u11, _, u17, _, _⟩ := hma
    have hu : Ha 11 = 1 := by rw [u11]; exact mkk_1.mpr k0
    have hw := w0 _ (u17 k0)
    have hd := d0 _ (u17 k0)
    refine rn_callP (k' := 17) (y := 175) (vs := [mR 118]) (S' := []) (v := none) (h' := mkh (m_upd (m_set μ 118 21 (1)) 118 Ha) c s) rfl rfl rfl (hca) ?_
    show Rn PT none kX12_readHerd 17 [some (mR 118), some (mI (μ 121 8))] [] (mkh (m_upd (m_set μ 118 21 (1)) 118 Ha) c s) _
    refine rn_aload_n (k' := 18) rfl rfl rfl ?_
    refine rn_callP (k' := 19) (y := 180) (vs := [mR 118]) (S' := []) (v := some (mI (1))) (h' := mkh (m_upd (m_set μ 118 21 (1)) 118 Ha) c s) rfl rfl rfl (by have hz : Cl PT 180 [mR 118] (mkh (m_upd (m_set μ 118 21 (1)) 118 Ha) c s) (fun r => r = (some (some (mI (if Ha 11 = 1 ∧ ix (μ 124) (Ha 17) 16 0 = -1 then 1 else 0))), mkh (m_upd (m_set μ 118 21 (1)) 118 Ha) c s)) := c_X12_isName (μ := (m_upd (m_set μ 118 21 (1)) 118 Ha)) (c := c) (s := s); rw [if_pos (show Ha 11 = 1 ∧ ix (μ 124) (Ha 17) 16 0 = -1 from ⟨hu, hw⟩)] at hz; exact hz) ?_
    show Rn PT none kX12_readHerd 19 [some (mR 118), some (mI (μ 121 8))] [mI (1)] (mkh (m_upd (m_set μ 118 21 (1)) 118 Ha) c s) _
    refine rn_if_ne (k' := 20) rfl rfl (fun hc3 => ?_) (fun hc3 => ?_)
    · skip
      refine rn_aload_n (k' := 25) rfl rfl rfl ?_
      refine rn_bipush (k' := 26) rfl rfl ?_
      refine rn_iload_n (k' := 27) rfl rfl rfl ?_
      have hfb9 := ix_b (f := fun j => μ 123 (8 + j)) (v := Ha 17) k9 0
      refine rn_callP (k' := 28) (y := 182) (vs := [mR 118, mI (8), mI (μ 121 8)]) (S' := []) (v := some (mI (ix (fun j => μ 123 (8 + j)) (Ha 17) k9 0))) (h' := mkh (m_upd (m_set μ 118 21 (1)) 118 Ha) c s) rfl rfl rfl (by have hz := c_find (μ := (m_upd (m_set μ 118 21 (1)) 118 Ha)) (c := c) (s := s) (o9 := 8) (k9 := k9) (by decide) hk9; rw [← h8] at hz; exact hz) ?_
      show Rn PT none kX12_readHerd 28 [some (mR 118), some (mI (μ 121 8))] [mI (ix (fun j => μ 123 (8 + j)) (Ha 17) k9 0)] (mkh (m_upd (m_set μ 118 21 (1)) 118 Ha) c s) _
      refine rn_if_lt (k' := 29) rfl rfl (fun hc4 => ?_) (fun hc4 => ?_)
      · skip
        refine rn_aload_n (k' := 34) rfl rfl rfl ?_
        refine rn_getR (k' := 35) rfl rfl K0_118 (by decide) rfl R0_118_9 ?_
        refine rn_bipush (k' := 36) rfl rfl ?_
        refine rn_iload_n (k' := 37) rfl rfl rfl ?_
        refine rn_iadd (k' := 38) rfl rfl (by omega) ?_
        refine rn_aload_n (k' := 39) rfl rfl rfl ?_
        refine rn_getJ (k' := 40) rfl rfl K0_118 (by decide) rfl ?_
        show Rn PT none kX12_readHerd 40 [some (mR 118), some (mI (μ 121 8))] [mJ (Ha 17), mI (8 + (μ 121 8)), mR 123] (mkh (m_upd (m_set μ 118 21 (1)) 118 Ha) c s) _
        refine rn_lastore (k' := 41) rfl rfl K0_123 (by omega) (by omega) ?_
        refine rn_aload_n (k' := 42) rfl rfl rfl ?_
        obtain ⟨Hb, ⟨hmb, hfb_⟩, hcb⟩ := g_next2 (μ := (m_set (m_upd (m_set μ 118 21 (1)) 118 Ha) 123 ((8 + (μ 121 8)).toNat) (Ha 17))) (c := c) (s := s) (b := b) (n := n) (m := m) (p := (tkN b n m p)) hM0 (by omega)
        have hfb : FRt Hb _ := hfb_.t
        have hM1 : MSt (m_upd (m_set (m_upd (m_set μ 118 21 (1)) 118 Ha) 123 ((8 + (μ 121 8)).toNat) (Ha 17)) 118 Hb) b n m (tkN b n m (tkN b n m p)) := ⟨hM0.1, hM0.2.1, hM0.2.2.1, (tkN_b hM0.2.2.2.1).2.1, hmb⟩
        refine rn_callP (k' := 43) (y := 175) (vs := [mR 118]) (S' := []) (v := none) (h' := mkh (m_upd (m_set (m_upd (m_set μ 118 21 (1)) 118 Ha) 123 ((8 + (μ 121 8)).toNat) (Ha 17)) 118 Hb) c s) rfl rfl rfl (hcb) ?_
        show Rn PT none kX12_readHerd 43 [some (mR 118), some (mI (μ 121 8))] [] (mkh (m_upd (m_set (m_upd (m_set μ 118 21 (1)) 118 Ha) 123 ((8 + (μ 121 8)).toNat) (Ha 17)) 118 Hb) c s) _
        refine rn_aload_n (k' := 44) rfl rfl rfl ?_
        obtain ⟨H2, ⟨hm2, hv2, hf2⟩, hc2⟩ := g_tcell (μ := (m_upd (m_set (m_upd (m_set μ 118 21 (1)) 118 Ha) 123 ((8 + (μ 121 8)).toNat) (Ha 17)) 118 Hb)) (c := c) (s := s) (b := b) (n := n) (m := m) (p := (tkN b n m (tkN b n m p))) hM1 c8 c9 e1 e2
        have hM3 : MSt (m_upd (m_upd (m_set (m_upd (m_set μ 118 21 (1)) 118 Ha) 123 ((8 + (μ 121 8)).toNat) (Ha 17)) 118 Hb) 118 H2) b n m (tkN b n m (tkN b n m (tkN b n m (tkN b n m p)))) := ⟨hM1.1, hM1.2.1, hM1.2.2.1, (tkN_b (tkN_b hM1.2.2.2.1).2.1).2.1, hm2⟩
        have ty1 := eN_ok e1
        have ty2 := eN_ok e2
        refine rn_callP (k' := 45) (y := 187) (vs := [mR 118]) (S' := []) (v := some (mI (1))) (h' := mkh (m_upd (m_upd (m_set (m_upd (m_set μ 118 21 (1)) 118 Ha) 123 ((8 + (μ 121 8)).toNat) (Ha 17)) 118 Hb) 118 H2) c s) rfl rfl rfl (hc2) ?_
        show Rn PT none kX12_readHerd 45 [some (mR 118), some (mI (μ 121 8))] [mI (1)] (mkh (m_upd (m_upd (m_set (m_upd (m_set μ 118 21 (1)) 118 Ha) 123 ((8 + (μ 121 8)).toNat) (Ha 17)) 118 Hb) 118 H2) c s) _
        refine rn_if_ne (k' := 46) rfl rfl (fun hc5 => ?_) (fun hc5 => ?_)
        · skip
          refine rn_aload_n (k' := 49) rfl rfl rfl ?_
          refine rn_getR (k' := 50) rfl rfl K0_118 (by decide) rfl R0_118_7 ?_
          refine rn_sipush (k' := 51) rfl rfl ?_
          refine rn_iload_n (k' := 52) rfl rfl rfl ?_
          refine rn_iadd (k' := 53) rfl rfl (by omega) ?_
          refine rn_aload_n (k' := 54) rfl rfl rfl ?_
          refine rn_getI (k' := 55) rfl rfl K0_118 (by decide) rfl ?_
          show Rn PT none kX12_readHerd 55 [some (mR 118), some (mI (μ 121 8))] [mI (H2 18), mI (501 + (μ 121 8)), mR 121] (mkh (m_upd (m_upd (m_set (m_upd (m_set μ 118 21 (1)) 118 Ha) 123 ((8 + (μ 121 8)).toNat) (Ha 17)) 118 Hb) 118 H2) c s) _
          refine rn_iastore (k' := 56) rfl rfl K0_121 (by omega) (by omega) ?_
          refine rn_aload_n (k' := 57) rfl rfl rfl ?_
          refine rn_iconst (k' := 58) rfl rfl ?_
          refine rn_bipush (k' := 59) rfl rfl ?_
          have hc3 := g_takesX (μ := (m_set (m_upd (m_upd (m_set (m_upd (m_set μ 118 21 (1)) 118 Ha) 123 ((8 + (μ 121 8)).toNat) (Ha 17)) 118 Hb) 118 H2) 121 ((501 + (μ 121 8)).toNat) (H2 18))) (c := c) (s := s) (b := b) (n := n) (m := m) (p := (tkN b n m (tkN b n m (tkN b n m (tkN b n m p))))) (lo := 0) (hi := 99) hM3 e3
          refine rn_callP (k' := 60) (y := 181) (vs := [mR 118, mI (0), mI (99)]) (S' := []) (v := some (mI (0))) (h' := mkh (m_set (m_set (m_set (m_upd (m_upd (m_set (m_upd (m_set μ 118 21 (1)) 118 Ha) 123 ((8 + (μ 121 8)).toNat) (Ha 17)) 118 Hb) 118 H2) 121 ((501 + (μ 121 8)).toNat) (H2 18)) 118 15 (eN b n m (tkN b n m (tkN b n m (tkN b n m (tkN b n m p)))) (0) (99))) 118 16 (((tkP b n m (tkN b n m (tkN b n m (tkN b n m (tkN b n m p)))) : Nat) : Int))) c s) rfl rfl rfl (hc3) ?_
          show Rn PT none kX12_readHerd 60 [some (mR 118), some (mI (μ 121 8))] [mI (0)] (mkh (m_set (m_set (m_set (m_upd (m_upd (m_set (m_upd (m_set μ 118 21 (1)) 118 Ha) 123 ((8 + (μ 121 8)).toNat) (Ha 17)) 118 Hb) 118 H2) 121 ((501 + (μ 121 8)).toNat) (H2 18)) 118 15 (eN b n m (tkN b n m (tkN b n m (tkN b n m (tkN b n m p)))) (0) (99))) 118 16 (((tkP b n m (tkN b n m (tkN b n m (tkN b n m (tkN b n m p)))) : Nat) : Int))) c s) _
          refine rn_if_ne (k' := 61) rfl rfl (fun hc6 => ?_) (fun hc6 => ?_)
          · exfalso; omega
          · skip
            refine rn_iconst (k' := 62) rfl rfl ?_
            refine rn_iret rfl (Or.inr (by omega)) ?_
            exact ⟨_, rfl, rfl, rfl, (MFr.s (MFr.s (MFr.s2 (MFr.u (MFr.u (MFr.s2 (MFr.u (MFr.s MFr.r (by decide)) hfa) (.inr ⟨rfl, by omega⟩)) hfb) hf2) (.inl rfl)) (by decide)) (by decide))⟩
        · exfalso; omega
      · exfalso; omega
    · exfalso; omega
  · exfalso; omega
set_option maxHeartbeats 1000000 in
theorem m_herd_ok {μ : Nat → Nat → Int} {c s : Nat} {b : Nat → Int} {n m p : Nat} (hM : MSt μ b n m p) (hk : tkK b n m p = 1) (c8 : 0 ≤ μ 121 0 ∧ μ 121 0 ≤ 10) (c9 : 0 ≤ μ 121 1 ∧ μ 121 1 ≤ 10) {k9 : Nat} (hk9 : k9 ≤ 8) (h8 : μ 121 8 = (k9 : Int)) (hk8 : ¬ k9 = 8) (k0 : tkK b n m (tkN b n m p) = 1) (w0 : ∀ y, Nm (tkV b n m (tkN b n m p)) y → ix (μ 124) y 16 0 = -1) (d0 : ∀ y, Nm (tkV b n m (tkN b n m p)) y → ix (fun j => μ 123 (8 + j)) y k9 0 = -1) (e1 : eN b n m (tkN b n m (tkN b n m p)) 0 (μ 121 0 - 1) = 0) (e2 : eN b n m (tkN b n m (tkN b n m (tkN b n m p))) 0 (μ 121 1 - 1) = 0) (e3 : eN b n m (tkN b n m (tkN b n m (tkN b n m (tkN b n m p)))) 0 99 = 0) : ∃ ν', (MSt ν' b n m (tkN b n m (tkN b n m (tkN b n m (tkN b n m (tkN b n m p))))) ∧ MFo μ ν' ∧ ν' 118 20 = μ 118 20 ∧ ν' 118 21 = 1 ∧ Nm (tkV b n m (tkN b n m p)) (ν' 123 (8 + k9)) ∧ (∀ j, ¬ j = 8 + k9 → ν' 123 j = μ 123 j) ∧ ν' 121 (501 + k9) = 10 * tkV b n m (tkN b n m (tkN b n m (tkN b n m p))) + tkV b n m (tkN b n m (tkN b n m p)) ∧ ν' 121 (509 + k9) = tkV b n m (tkN b n m (tkN b n m (tkN b n m (tkN b n m p)))) ∧ ν' 121 8 = (k9 : Int) + 1 ∧ (∀ j, ¬ j = 501 + k9 → ¬ j = 509 + k9 → ¬ j = 8 → ν' 121 j = μ 121 j)) ∧ Cl PT 189 [mR 118] (mkh μ c s) (fun r => r = (some (some (mI 1)), mkh ν' c s)) := by
  refine Cl.ex (g := fun ν' => (some (some (mI 1)), mkh ν' c s)) ?_
  refine ⟨_, PT_189, Nat.le_of_ble_eq_true rfl, ?_⟩
  show Rn PT none kX12_readHerd 0 [some (mR 118), none] [] (mkh μ c s) _
  refine rn_aload_n (k' := 1) rfl rfl rfl ?_
  refine rn_getR (k' := 2) rfl rfl K0_118 (by decide) rfl R0_118_7 ?_
  refine rn_bipush (k' := 3) rfl rfl ?_
  refine rn_iaload (k' := 4) rfl rfl K0_121 (by omega) (by omega) ?_
  show Rn PT none kX12_readHerd 4 [some (mR 118), none] [mI (μ 121 8)] (mkh μ c s) _
  refine rn_istore_n (k' := 5) (L' := [some (mR 118), some (mI (μ 121 8))]) rfl rfl (Nat.le_of_ble_eq_true rfl) rfl ?_
  refine rn_iload_n (k' := 6) rfl rfl rfl ?_
  refine rn_bipush (k' := 7) rfl rfl ?_
  refine rn_icmp_ne (k' := 8) rfl rfl (fun hc1 => ?_) (fun hc1 => ?_)
  · skip
    refine rn_aload_n (k' := 13) rfl rfl rfl ?_
    refine rn_iconst (k' := 14) rfl rfl ?_
    refine rn_putZ (k' := 15) rfl rfl K0_118 (by decide) rfl (by omega) ?_
    refine rn_aload_n (k' := 16) rfl rfl rfl ?_
    obtain ⟨Ha, ⟨hma, hfa_⟩, hca⟩ := g_next2 (μ := (m_set μ 118 21 (1))) (c := c) (s := s) (b := b) (n := n) (m := m) (p := p) hM (by omega)
    have hfa : FRt Ha _ := hfa_.t
    have hM0 : MSt (m_upd (m_set μ 118 21 (1)) 118 Ha) b n m (tkN b n m p) := ⟨hM.1, hM.2.1, hM.2.2.1, (tkN_b hM.2.2.2.1).2.1, hma⟩
    obtain ⟨_, _, u12, u11, _, u17, _, _⟩ := hma
    have hu : Ha 11 = 1 := by rw [u11]; exact mkk_1.mpr k0
    have hw := w0 _ (u17 k0)
    have hd := d0 _ (u17 k0)
    refine rn_callP (k' := 17) (y := 175) (vs := [mR 118]) (S' := []) (v := none) (h' := mkh (m_upd (m_set μ 118 21 (1)) 118 Ha) c s) rfl rfl rfl (hca) ?_
    show Rn PT none kX12_readHerd 17 [some (mR 118), some (mI (μ 121 8))] [] (mkh (m_upd (m_set μ 118 21 (1)) 118 Ha) c s) _
    refine rn_aload_n (k' := 18) rfl rfl rfl ?_
    refine rn_callP (k' := 19) (y := 180) (vs := [mR 118]) (S' := []) (v := some (mI (1))) (h' := mkh (m_upd (m_set μ 118 21 (1)) 118 Ha) c s) rfl rfl rfl (by have hz : Cl PT 180 [mR 118] (mkh (m_upd (m_set μ 118 21 (1)) 118 Ha) c s) (fun r => r = (some (some (mI (if Ha 11 = 1 ∧ ix (μ 124) (Ha 17) 16 0 = -1 then 1 else 0))), mkh (m_upd (m_set μ 118 21 (1)) 118 Ha) c s)) := c_X12_isName (μ := (m_upd (m_set μ 118 21 (1)) 118 Ha)) (c := c) (s := s); rw [if_pos (show Ha 11 = 1 ∧ ix (μ 124) (Ha 17) 16 0 = -1 from ⟨hu, hw⟩)] at hz; exact hz) ?_
    show Rn PT none kX12_readHerd 19 [some (mR 118), some (mI (μ 121 8))] [mI (1)] (mkh (m_upd (m_set μ 118 21 (1)) 118 Ha) c s) _
    refine rn_if_ne (k' := 20) rfl rfl (fun hc3 => ?_) (fun hc3 => ?_)
    · skip
      refine rn_aload_n (k' := 25) rfl rfl rfl ?_
      refine rn_bipush (k' := 26) rfl rfl ?_
      refine rn_iload_n (k' := 27) rfl rfl rfl ?_
      have hfb9 := ix_b (f := fun j => μ 123 (8 + j)) (v := Ha 17) k9 0
      refine rn_callP (k' := 28) (y := 182) (vs := [mR 118, mI (8), mI (μ 121 8)]) (S' := []) (v := some (mI (ix (fun j => μ 123 (8 + j)) (Ha 17) k9 0))) (h' := mkh (m_upd (m_set μ 118 21 (1)) 118 Ha) c s) rfl rfl rfl (by have hz := c_find (μ := (m_upd (m_set μ 118 21 (1)) 118 Ha)) (c := c) (s := s) (o9 := 8) (k9 := k9) (by decide) hk9; rw [← h8] at hz; exact hz) ?_
      show Rn PT none kX12_readHerd 28 [some (mR 118), some (mI (μ 121 8))] [mI (ix (fun j => μ 123 (8 + j)) (Ha 17) k9 0)] (mkh (m_upd (m_set μ 118 21 (1)) 118 Ha) c s) _
      refine rn_if_lt (k' := 29) rfl rfl (fun hc4 => ?_) (fun hc4 => ?_)
      · skip
        refine rn_aload_n (k' := 34) rfl rfl rfl ?_
        refine rn_getR (k' := 35) rfl rfl K0_118 (by decide) rfl R0_118_9 ?_
        refine rn_bipush (k' := 36) rfl rfl ?_
        refine rn_iload_n (k' := 37) rfl rfl rfl ?_
        refine rn_iadd (k' := 38) rfl rfl (by omega) ?_
        refine rn_aload_n (k' := 39) rfl rfl rfl ?_
        refine rn_getJ (k' := 40) rfl rfl K0_118 (by decide) rfl ?_
        show Rn PT none kX12_readHerd 40 [some (mR 118), some (mI (μ 121 8))] [mJ (Ha 17), mI (8 + (μ 121 8)), mR 123] (mkh (m_upd (m_set μ 118 21 (1)) 118 Ha) c s) _
        refine rn_lastore (k' := 41) rfl rfl K0_123 (by omega) (by omega) ?_
        refine rn_aload_n (k' := 42) rfl rfl rfl ?_
        obtain ⟨Hb, ⟨hmb, hfb_⟩, hcb⟩ := g_next2 (μ := (m_set (m_upd (m_set μ 118 21 (1)) 118 Ha) 123 ((8 + (μ 121 8)).toNat) (Ha 17))) (c := c) (s := s) (b := b) (n := n) (m := m) (p := (tkN b n m p)) hM0 (by omega)
        have hfb : FRt Hb _ := hfb_.t
        have hM1 : MSt (m_upd (m_set (m_upd (m_set μ 118 21 (1)) 118 Ha) 123 ((8 + (μ 121 8)).toNat) (Ha 17)) 118 Hb) b n m (tkN b n m (tkN b n m p)) := ⟨hM0.1, hM0.2.1, hM0.2.2.1, (tkN_b hM0.2.2.2.1).2.1, hmb⟩
        refine rn_callP (k' := 43) (y := 175) (vs := [mR 118]) (S' := []) (v := none) (h' := mkh (m_upd (m_set (m_upd (m_set μ 118 21 (1)) 118 Ha) 123 ((8 + (μ 121 8)).toNat) (Ha 17)) 118 Hb) c s) rfl rfl rfl (hcb) ?_
        show Rn PT none kX12_readHerd 43 [some (mR 118), some (mI (μ 121 8))] [] (mkh (m_upd (m_set (m_upd (m_set μ 118 21 (1)) 118 Ha) 123 ((8 + (μ 121 8)).toNat) (Ha 17)) 118 Hb) c s) _
        refine rn_aload_n (k' := 44) rfl rfl rfl ?_
        obtain ⟨H2, ⟨hm2, hv2, hf2⟩, hc2⟩ := g_tcell (μ := (m_upd (m_set (m_upd (m_set μ 118 21 (1)) 118 Ha) 123 ((8 + (μ 121 8)).toNat) (Ha 17)) 118 Hb)) (c := c) (s := s) (b := b) (n := n) (m := m) (p := (tkN b n m (tkN b n m p))) hM1 c8 c9 e1 e2
        have hM3 : MSt (m_upd (m_upd (m_set (m_upd (m_set μ 118 21 (1)) 118 Ha) 123 ((8 + (μ 121 8)).toNat) (Ha 17)) 118 Hb) 118 H2) b n m (tkN b n m (tkN b n m (tkN b n m (tkN b n m p)))) := ⟨hM1.1, hM1.2.1, hM1.2.2.1, (tkN_b (tkN_b hM1.2.2.2.1).2.1).2.1, hm2⟩
        have ty1 := eN_ok e1
        have ty2 := eN_ok e2
        refine rn_callP (k' := 45) (y := 187) (vs := [mR 118]) (S' := []) (v := some (mI (1))) (h' := mkh (m_upd (m_upd (m_set (m_upd (m_set μ 118 21 (1)) 118 Ha) 123 ((8 + (μ 121 8)).toNat) (Ha 17)) 118 Hb) 118 H2) c s) rfl rfl rfl (hc2) ?_
        show Rn PT none kX12_readHerd 45 [some (mR 118), some (mI (μ 121 8))] [mI (1)] (mkh (m_upd (m_upd (m_set (m_upd (m_set μ 118 21 (1)) 118 Ha) 123 ((8 + (μ 121 8)).toNat) (Ha 17)) 118 Hb) 118 H2) c s) _
        refine rn_if_ne (k' := 46) rfl rfl (fun hc5 => ?_) (fun hc5 => ?_)
        · skip
          refine rn_aload_n (k' := 49) rfl rfl rfl ?_
          refine rn_getR (k' := 50) rfl rfl K0_118 (by decide) rfl R0_118_7 ?_
          refine rn_sipush (k' := 51) rfl rfl ?_
          refine rn_iload_n (k' := 52) rfl rfl rfl ?_
          refine rn_iadd (k' := 53) rfl rfl (by omega) ?_
          refine rn_aload_n (k' := 54) rfl rfl rfl ?_
          refine rn_getI (k' := 55) rfl rfl K0_118 (by decide) rfl ?_
          show Rn PT none kX12_readHerd 55 [some (mR 118), some (mI (μ 121 8))] [mI (H2 18), mI (501 + (μ 121 8)), mR 121] (mkh (m_upd (m_upd (m_set (m_upd (m_set μ 118 21 (1)) 118 Ha) 123 ((8 + (μ 121 8)).toNat) (Ha 17)) 118 Hb) 118 H2) c s) _
          refine rn_iastore (k' := 56) rfl rfl K0_121 (by omega) (by omega) ?_
          refine rn_aload_n (k' := 57) rfl rfl rfl ?_
          refine rn_iconst (k' := 58) rfl rfl ?_
          refine rn_bipush (k' := 59) rfl rfl ?_
          obtain ⟨H3, ⟨hm3, hv3, hf3⟩, hc3⟩ := g_takes (μ := (m_set (m_upd (m_upd (m_set (m_upd (m_set μ 118 21 (1)) 118 Ha) 123 ((8 + (μ 121 8)).toNat) (Ha 17)) 118 Hb) 118 H2) 121 ((501 + (μ 121 8)).toNat) (H2 18))) (c := c) (s := s) (b := b) (n := n) (m := m) (p := (tkN b n m (tkN b n m (tkN b n m (tkN b n m p))))) (lo := 0) (hi := 99) hM3 e3
          have hM4 : MSt (m_upd (m_set (m_upd (m_upd (m_set (m_upd (m_set μ 118 21 (1)) 118 Ha) 123 ((8 + (μ 121 8)).toNat) (Ha 17)) 118 Hb) 118 H2) 121 ((501 + (μ 121 8)).toNat) (H2 18)) 118 H3) b n m (tkN b n m (tkN b n m (tkN b n m (tkN b n m (tkN b n m p))))) := ⟨hM3.1, hM3.2.1, hM3.2.2.1, (tkN_b hM3.2.2.2.1).2.1, hm3⟩
          have kk3 := eN_ok e3
          refine rn_callP (k' := 60) (y := 181) (vs := [mR 118, mI (0), mI (99)]) (S' := []) (v := some (mI (1))) (h' := mkh (m_upd (m_set (m_upd (m_upd (m_set (m_upd (m_set μ 118 21 (1)) 118 Ha) 123 ((8 + (μ 121 8)).toNat) (Ha 17)) 118 Hb) 118 H2) 121 ((501 + (μ 121 8)).toNat) (H2 18)) 118 H3) c s) rfl rfl rfl (hc3) ?_
          show Rn PT none kX12_readHerd 60 [some (mR 118), some (mI (μ 121 8))] [mI (1)] (mkh (m_upd (m_set (m_upd (m_upd (m_set (m_upd (m_set μ 118 21 (1)) 118 Ha) 123 ((8 + (μ 121 8)).toNat) (Ha 17)) 118 Hb) 118 H2) 121 ((501 + (μ 121 8)).toNat) (H2 18)) 118 H3) c s) _
          refine rn_if_ne (k' := 61) rfl rfl (fun hc6 => ?_) (fun hc6 => ?_)
          · skip
            refine rn_aload_n (k' := 64) rfl rfl rfl ?_
            refine rn_getR (k' := 65) rfl rfl K0_118 (by decide) rfl R0_118_7 ?_
            refine rn_sipush (k' := 66) rfl rfl ?_
            refine rn_iload_n (k' := 67) rfl rfl rfl ?_
            refine rn_iadd (k' := 68) rfl rfl (by omega) ?_
            refine rn_aload_n (k' := 69) rfl rfl rfl ?_
            refine rn_getI (k' := 70) rfl rfl K0_118 (by decide) rfl ?_
            show Rn PT none kX12_readHerd 70 [some (mR 118), some (mI (μ 121 8))] [mI (H3 18), mI (509 + (μ 121 8)), mR 121] (mkh (m_upd (m_set (m_upd (m_upd (m_set (m_upd (m_set μ 118 21 (1)) 118 Ha) 123 ((8 + (μ 121 8)).toNat) (Ha 17)) 118 Hb) 118 H2) 121 ((501 + (μ 121 8)).toNat) (H2 18)) 118 H3) c s) _
            refine rn_iastore (k' := 71) rfl rfl K0_121 (by omega) (by omega) ?_
            refine rn_aload_n (k' := 72) rfl rfl rfl ?_
            refine rn_getR (k' := 73) rfl rfl K0_118 (by decide) rfl R0_118_7 ?_
            refine rn_bipush (k' := 74) rfl rfl ?_
            refine rn_dup2 (k' := 75) rfl rfl ?_
            refine rn_iaload (k' := 76) rfl rfl K0_121 (by omega) (by omega) ?_
            show Rn PT none kX12_readHerd 76 [some (mR 118), some (mI (μ 121 8))] [mI ((m_set (m_upd (m_set (m_upd (m_upd (m_set (m_upd (m_set μ 118 21 (1)) 118 Ha) 123 ((8 + (μ 121 8)).toNat) (Ha 17)) 118 Hb) 118 H2) 121 ((501 + (μ 121 8)).toNat) (H2 18)) 118 H3) 121 ((509 + (μ 121 8)).toNat) (H3 18)) 121 8), mI (8), mR 121] (mkh (m_set (m_upd (m_set (m_upd (m_upd (m_set (m_upd (m_set μ 118 21 (1)) 118 Ha) 123 ((8 + (μ 121 8)).toNat) (Ha 17)) 118 Hb) 118 H2) 121 ((501 + (μ 121 8)).toNat) (H2 18)) 118 H3) 121 ((509 + (μ 121 8)).toNat) (H3 18)) c s) _
            rw [(show (m_set (m_upd (m_set (m_upd (m_upd (m_set (m_upd (m_set μ 118 21 (1)) 118 Ha) 123 ((8 + (μ 121 8)).toNat) (Ha 17)) 118 Hb) 118 H2) 121 ((501 + (μ 121 8)).toNat) (H2 18)) 118 H3) 121 ((509 + (μ 121 8)).toNat) (H3 18)) 121 8 = μ 121 8 from (set_mis (by omega)).trans (set_mis (by omega)))]
            refine rn_iconst (k' := 77) rfl rfl ?_
            refine rn_iadd (k' := 78) rfl rfl (by omega) ?_
            refine rn_iastore (k' := 79) rfl rfl K0_121 (by omega) (by omega) ?_
            refine rn_iconst (k' := 80) rfl rfl ?_
            refine rn_iret rfl (Or.inr (by omega)) ?_
            have hi1 : (501 + μ 121 8).toNat = 501 + k9 := by omega
            have hi2 : (509 + μ 121 8).toNat = 509 + k9 := by omega
            have hi3 : (8 + μ 121 8).toNat = 8 + k9 := by omega
            refine ⟨_, rfl, hM4, ⟨(MFr.s2 (MFr.s2 (MFr.u (MFr.s2 (MFr.u (MFr.u (MFr.s2 (MFr.u (MFr.s MFr.r (by decide)) hfa) (.inr ⟨rfl, by omega⟩)) hfb) hf2) (.inl rfl)) hf3) (.inl rfl)) (.inl rfl)), ((hf3 15 (by decide) (by decide) (by decide) (by decide) (by decide) (by decide) (by decide)).trans ((hf2 15 (by decide) (by decide) (by decide) (by decide) (by decide) (by decide) (by decide)).trans ((hfb 15 (by decide) (by decide) (by decide) (by decide) (by decide) (by decide) (by decide)).trans ((hfa 15 (by decide) (by decide) (by decide) (by decide) (by decide) (by decide) (by decide)).trans rfl))))⟩, ((hf3 20 (by decide) (by decide) (by decide) (by decide) (by decide) (by decide) (by decide)).trans ((hf2 20 (by decide) (by decide) (by decide) (by decide) (by decide) (by decide) (by decide)).trans ((hfb 20 (by decide) (by decide) (by decide) (by decide) (by decide) (by decide) (by decide)).trans ((hfa 20 (by decide) (by decide) (by decide) (by decide) (by decide) (by decide) (by decide)).trans rfl)))), ((hf3 21 (by decide) (by decide) (by decide) (by decide) (by decide) (by decide) (by decide)).trans ((hf2 21 (by decide) (by decide) (by decide) (by decide) (by decide) (by decide) (by decide)).trans ((hfb 21 (by decide) (by decide) (by decide) (by decide) (by decide) (by decide) (by decide)).trans ((hfa 21 (by decide) (by decide) (by decide) (by decide) (by decide) (by decide) (by decide)).trans rfl)))), ?_, (fun j hj => set_mis (by omega)), ?_, ?_, ?_, (fun j a1 a2 a3 => (set_mis a3).trans ((set_mis (by omega)).trans (set_mis (by omega))))⟩
            · show Nm _ (m_set (m_upd (m_set μ 118 21 1) 118 Ha) 123 (8 + μ 121 8).toNat (Ha 17) 123 (8 + k9))
              rw [set_hit hi3]; exact u17 k0
            · exact (set_mis (by omega)).trans ((set_mis (by omega)).trans ((set_hit hi1).trans hv2))
            · exact (set_mis (by omega)).trans ((set_hit hi2).trans hv3)
            · refine (set_hit rfl).trans ?_; rw [h8]
          · exfalso; omega
        · exfalso; omega
      · exfalso; omega
    · exfalso; omega
  · exfalso; omega
