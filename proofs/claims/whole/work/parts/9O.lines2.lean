variable {N : Int}
/-! ===== printed by wip/whole/gen9O.py: lines of a moor by the model ===== -/
theorem m_law_x0 {μ : Nat → Nat → Int} {c s : Nat} {b : Nat → Int} {n m p : Nat} (hM : MSt μ b n m p) (hk : tkK b n m p = 1) {O : Nat} (hO : μ 118 20 = (O : Int)) (hO8 : O < 8) (hb : O / 2 ^ 0 % 2 = 0) (e0 : ¬ eN b n m (tkN b n m p) 1 99 = 0) : Rn PT none kX12_line 11 [some (mR 118)] [] (mkh μ c s) (fun r => ∃ ν', r = (some (some (mI 0)), mkh ν' c s) ∧ ν' 118 15 = eN b n m (tkN b n m p) 1 99 ∧ ν' 118 16 = ((tkP b n m (tkN b n m p) : Nat) : Int) ∧ MFr μ ν') := by
  refine rn_aload_n (k' := 12) rfl rfl rfl ?_
  refine rn_iconst (k' := 13) rfl rfl ?_
  obtain ⟨Ho, ⟨hmo, hfo⟩, hco⟩ := g_once0 (μ := μ) (c := c) (s := s) (b := b) (n := n) (m := m) (p := p) hM hk hO hO8 hb
  have hM0 : MSt (m_upd (m_set (m_set μ 118 20 (m_or (μ 118 20) (m_shl 1 0))) 118 21 (1)) 118 Ho) b n m (tkN b n m p) := ⟨hM.1, hM.2.1, hM.2.2.1, (tkN_b hM.2.2.2.1).2.1, hmo⟩
  refine rn_callP (k' := 14) (y := 184) (vs := [mR 118, mI (0)]) (S' := []) (v := some (mI (1))) (h' := mkh (m_upd (m_set (m_set μ 118 20 (m_or (μ 118 20) (m_shl 1 0))) 118 21 (1)) 118 Ho) c s) rfl rfl rfl (hco) ?_
  show Rn PT none kX12_line 14 [some (mR 118)] [mI (1)] (mkh (m_upd (m_set (m_set μ 118 20 (m_or (μ 118 20) (m_shl 1 0))) 118 21 (1)) 118 Ho) c s) _
  refine rn_if_ne (k' := 15) rfl rfl (fun hc1 => ?_) (fun hc1 => ?_)
  · skip
    refine rn_aload_n (k' := 18) rfl rfl rfl ?_
    refine rn_iconst (k' := 19) rfl rfl ?_
    refine rn_bipush (k' := 20) rfl rfl ?_
    have hc0 := g_takesX (μ := (m_upd (m_set (m_set μ 118 20 (m_or (μ 118 20) (m_shl 1 0))) 118 21 (1)) 118 Ho)) (c := c) (s := s) (b := b) (n := n) (m := m) (p := (tkN b n m p)) (lo := 1) (hi := 99) hM0 e0
    refine rn_callP (k' := 21) (y := 181) (vs := [mR 118, mI (1), mI (99)]) (S' := []) (v := some (mI (0))) (h' := mkh (m_set (m_set (m_upd (m_set (m_set μ 118 20 (m_or (μ 118 20) (m_shl 1 0))) 118 21 (1)) 118 Ho) 118 15 (eN b n m (tkN b n m p) (1) (99))) 118 16 (((tkP b n m (tkN b n m p) : Nat) : Int))) c s) rfl rfl rfl (hc0) ?_
    show Rn PT none kX12_line 21 [some (mR 118)] [mI (0)] (mkh (m_set (m_set (m_upd (m_set (m_set μ 118 20 (m_or (μ 118 20) (m_shl 1 0))) 118 21 (1)) 118 Ho) 118 15 (eN b n m (tkN b n m p) (1) (99))) 118 16 (((tkP b n m (tkN b n m p) : Nat) : Int))) c s) _
    refine rn_if_ne (k' := 22) rfl rfl (fun hc2 => ?_) (fun hc2 => ?_)
    · exfalso; omega
    · skip
      refine rn_iconst (k' := 23) rfl rfl ?_
      refine rn_iret rfl (Or.inr (by omega)) ?_
      exact ⟨_, rfl, rfl, rfl, (MFr.s (MFr.s (MFr.u (MFr.s (MFr.s MFr.r (by decide)) (by decide)) hfo) (by decide)) (by decide))⟩
  · exfalso; omega
theorem m_law_x1 {μ : Nat → Nat → Int} {c s : Nat} {b : Nat → Int} {n m p : Nat} (hM : MSt μ b n m p) (hk : tkK b n m p = 1) {O : Nat} (hO : μ 118 20 = (O : Int)) (hO8 : O < 8) (hb : O / 2 ^ 0 % 2 = 0) (e0 : eN b n m (tkN b n m p) 1 99 = 0) (e1 : ¬ eN b n m (tkN b n m (tkN b n m p)) 0 99 = 0) : Rn PT none kX12_line 11 [some (mR 118)] [] (mkh μ c s) (fun r => ∃ ν', r = (some (some (mI 0)), mkh ν' c s) ∧ ν' 118 15 = eN b n m (tkN b n m (tkN b n m p)) 0 99 ∧ ν' 118 16 = ((tkP b n m (tkN b n m (tkN b n m p)) : Nat) : Int) ∧ MFr μ ν') := by
  refine rn_aload_n (k' := 12) rfl rfl rfl ?_
  refine rn_iconst (k' := 13) rfl rfl ?_
  obtain ⟨Ho, ⟨hmo, hfo⟩, hco⟩ := g_once0 (μ := μ) (c := c) (s := s) (b := b) (n := n) (m := m) (p := p) hM hk hO hO8 hb
  have hM0 : MSt (m_upd (m_set (m_set μ 118 20 (m_or (μ 118 20) (m_shl 1 0))) 118 21 (1)) 118 Ho) b n m (tkN b n m p) := ⟨hM.1, hM.2.1, hM.2.2.1, (tkN_b hM.2.2.2.1).2.1, hmo⟩
  refine rn_callP (k' := 14) (y := 184) (vs := [mR 118, mI (0)]) (S' := []) (v := some (mI (1))) (h' := mkh (m_upd (m_set (m_set μ 118 20 (m_or (μ 118 20) (m_shl 1 0))) 118 21 (1)) 118 Ho) c s) rfl rfl rfl (hco) ?_
  show Rn PT none kX12_line 14 [some (mR 118)] [mI (1)] (mkh (m_upd (m_set (m_set μ 118 20 (m_or (μ 118 20) (m_shl 1 0))) 118 21 (1)) 118 Ho) c s) _
  refine rn_if_ne (k' := 15) rfl rfl (fun hc1 => ?_) (fun hc1 => ?_)
  · skip
    refine rn_aload_n (k' := 18) rfl rfl rfl ?_
    refine rn_iconst (k' := 19) rfl rfl ?_
    refine rn_bipush (k' := 20) rfl rfl ?_
    obtain ⟨H0, ⟨hm0, hv0, hf0⟩, hc0⟩ := g_takes (μ := (m_upd (m_set (m_set μ 118 20 (m_or (μ 118 20) (m_shl 1 0))) 118 21 (1)) 118 Ho)) (c := c) (s := s) (b := b) (n := n) (m := m) (p := (tkN b n m p)) (lo := 1) (hi := 99) hM0 e0
    have hM1 : MSt (m_upd (m_upd (m_set (m_set μ 118 20 (m_or (μ 118 20) (m_shl 1 0))) 118 21 (1)) 118 Ho) 118 H0) b n m (tkN b n m (tkN b n m p)) := ⟨hM0.1, hM0.2.1, hM0.2.2.1, (tkN_b hM0.2.2.2.1).2.1, hm0⟩
    refine rn_callP (k' := 21) (y := 181) (vs := [mR 118, mI (1), mI (99)]) (S' := []) (v := some (mI (1))) (h' := mkh (m_upd (m_upd (m_set (m_set μ 118 20 (m_or (μ 118 20) (m_shl 1 0))) 118 21 (1)) 118 Ho) 118 H0) c s) rfl rfl rfl (hc0) ?_
    show Rn PT none kX12_line 21 [some (mR 118)] [mI (1)] (mkh (m_upd (m_upd (m_set (m_set μ 118 20 (m_or (μ 118 20) (m_shl 1 0))) 118 21 (1)) 118 Ho) 118 H0) c s) _
    refine rn_if_ne (k' := 22) rfl rfl (fun hc2 => ?_) (fun hc2 => ?_)
    · skip
      refine rn_aload_n (k' := 25) rfl rfl rfl ?_
      refine rn_getR (k' := 26) rfl rfl K0_118 (by decide) rfl R0_118_7 ?_
      refine rn_iconst (k' := 27) rfl rfl ?_
      refine rn_aload_n (k' := 28) rfl rfl rfl ?_
      refine rn_getI (k' := 29) rfl rfl K0_118 (by decide) rfl ?_
      show Rn PT none kX12_line 29 [some (mR 118)] [mI (H0 18), mI (2), mR 121] (mkh (m_upd (m_upd (m_set (m_set μ 118 20 (m_or (μ 118 20) (m_shl 1 0))) 118 21 (1)) 118 Ho) 118 H0) c s) _
      refine rn_iastore (k' := 30) rfl rfl K0_121 (by omega) (by omega) ?_
      refine rn_aload_n (k' := 31) rfl rfl rfl ?_
      refine rn_iconst (k' := 32) rfl rfl ?_
      refine rn_bipush (k' := 33) rfl rfl ?_
      have hc1 := g_takesX (μ := (m_set (m_upd (m_upd (m_set (m_set μ 118 20 (m_or (μ 118 20) (m_shl 1 0))) 118 21 (1)) 118 Ho) 118 H0) 121 2 (H0 18))) (c := c) (s := s) (b := b) (n := n) (m := m) (p := (tkN b n m (tkN b n m p))) (lo := 0) (hi := 99) hM1 e1
      refine rn_callP (k' := 34) (y := 181) (vs := [mR 118, mI (0), mI (99)]) (S' := []) (v := some (mI (0))) (h' := mkh (m_set (m_set (m_set (m_upd (m_upd (m_set (m_set μ 118 20 (m_or (μ 118 20) (m_shl 1 0))) 118 21 (1)) 118 Ho) 118 H0) 121 2 (H0 18)) 118 15 (eN b n m (tkN b n m (tkN b n m p)) (0) (99))) 118 16 (((tkP b n m (tkN b n m (tkN b n m p)) : Nat) : Int))) c s) rfl rfl rfl (hc1) ?_
      show Rn PT none kX12_line 34 [some (mR 118)] [mI (0)] (mkh (m_set (m_set (m_set (m_upd (m_upd (m_set (m_set μ 118 20 (m_or (μ 118 20) (m_shl 1 0))) 118 21 (1)) 118 Ho) 118 H0) 121 2 (H0 18)) 118 15 (eN b n m (tkN b n m (tkN b n m p)) (0) (99))) 118 16 (((tkP b n m (tkN b n m (tkN b n m p)) : Nat) : Int))) c s) _
      refine rn_if_ne (k' := 35) rfl rfl (fun hc3 => ?_) (fun hc3 => ?_)
      · exfalso; omega
      · skip
        refine rn_iconst (k' := 36) rfl rfl ?_
        refine rn_iret rfl (Or.inr (by omega)) ?_
        exact ⟨_, rfl, rfl, rfl, (MFr.s (MFr.s (MFr.s2 (MFr.u (MFr.u (MFr.s (MFr.s MFr.r (by decide)) (by decide)) hfo) hf0) (.inl rfl)) (by decide)) (by decide))⟩
    · exfalso; omega
  · exfalso; omega
theorem m_law_ok {μ : Nat → Nat → Int} {c s : Nat} {b : Nat → Int} {n m p : Nat} (hM : MSt μ b n m p) (hk : tkK b n m p = 1) {O : Nat} (hO : μ 118 20 = (O : Int)) (hO8 : O < 8) (hb : O / 2 ^ 0 % 2 = 0) (e0 : eN b n m (tkN b n m p) 1 99 = 0) (e1 : eN b n m (tkN b n m (tkN b n m p)) 0 99 = 0) : Rn PT none kX12_line 11 [some (mR 118)] [] (mkh μ c s) (fun r => ∃ ν', r = (some (some (mI 1)), mkh ν' c s) ∧ MSt ν' b n m (tkN b n m (tkN b n m (tkN b n m p))) ∧ MFo μ ν' ∧ ν' 118 20 = ((O + 2 ^ 0 : Nat) : Int) ∧ ν' 118 21 = 1 ∧ ν' 121 2 = tkV b n m (tkN b n m p) ∧ ν' 121 3 = tkV b n m (tkN b n m (tkN b n m p)) ∧ (∀ j, ¬ j = 2 → ¬ j = 3 → ν' 121 j = μ 121 j) ∧ ν' 123 = μ 123) := by
  refine rn_aload_n (k' := 12) rfl rfl rfl ?_
  refine rn_iconst (k' := 13) rfl rfl ?_
  obtain ⟨Ho, ⟨hmo, hfo⟩, hco⟩ := g_once0 (μ := μ) (c := c) (s := s) (b := b) (n := n) (m := m) (p := p) hM hk hO hO8 hb
  have hM0 : MSt (m_upd (m_set (m_set μ 118 20 (m_or (μ 118 20) (m_shl 1 0))) 118 21 (1)) 118 Ho) b n m (tkN b n m p) := ⟨hM.1, hM.2.1, hM.2.2.1, (tkN_b hM.2.2.2.1).2.1, hmo⟩
  refine rn_callP (k' := 14) (y := 184) (vs := [mR 118, mI (0)]) (S' := []) (v := some (mI (1))) (h' := mkh (m_upd (m_set (m_set μ 118 20 (m_or (μ 118 20) (m_shl 1 0))) 118 21 (1)) 118 Ho) c s) rfl rfl rfl (hco) ?_
  show Rn PT none kX12_line 14 [some (mR 118)] [mI (1)] (mkh (m_upd (m_set (m_set μ 118 20 (m_or (μ 118 20) (m_shl 1 0))) 118 21 (1)) 118 Ho) c s) _
  refine rn_if_ne (k' := 15) rfl rfl (fun hc1 => ?_) (fun hc1 => ?_)
  · skip
    refine rn_aload_n (k' := 18) rfl rfl rfl ?_
    refine rn_iconst (k' := 19) rfl rfl ?_
    refine rn_bipush (k' := 20) rfl rfl ?_
    obtain ⟨H0, ⟨hm0, hv0, hf0⟩, hc0⟩ := g_takes (μ := (m_upd (m_set (m_set μ 118 20 (m_or (μ 118 20) (m_shl 1 0))) 118 21 (1)) 118 Ho)) (c := c) (s := s) (b := b) (n := n) (m := m) (p := (tkN b n m p)) (lo := 1) (hi := 99) hM0 e0
    have hM1 : MSt (m_upd (m_upd (m_set (m_set μ 118 20 (m_or (μ 118 20) (m_shl 1 0))) 118 21 (1)) 118 Ho) 118 H0) b n m (tkN b n m (tkN b n m p)) := ⟨hM0.1, hM0.2.1, hM0.2.2.1, (tkN_b hM0.2.2.2.1).2.1, hm0⟩
    refine rn_callP (k' := 21) (y := 181) (vs := [mR 118, mI (1), mI (99)]) (S' := []) (v := some (mI (1))) (h' := mkh (m_upd (m_upd (m_set (m_set μ 118 20 (m_or (μ 118 20) (m_shl 1 0))) 118 21 (1)) 118 Ho) 118 H0) c s) rfl rfl rfl (hc0) ?_
    show Rn PT none kX12_line 21 [some (mR 118)] [mI (1)] (mkh (m_upd (m_upd (m_set (m_set μ 118 20 (m_or (μ 118 20) (m_shl 1 0))) 118 21 (1)) 118 Ho) 118 H0) c s) _
    refine rn_if_ne (k' := 22) rfl rfl (fun hc2 => ?_) (fun hc2 => ?_)
    · skip
      refine rn_aload_n (k' := 25) rfl rfl rfl ?_
      refine rn_getR (k' := 26) rfl rfl K0_118 (by decide) rfl R0_118_7 ?_
      refine rn_iconst (k' := 27) rfl rfl ?_
      refine rn_aload_n (k' := 28) rfl rfl rfl ?_
      refine rn_getI (k' := 29) rfl rfl K0_118 (by decide) rfl ?_
      show Rn PT none kX12_line 29 [some (mR 118)] [mI (H0 18), mI (2), mR 121] (mkh (m_upd (m_upd (m_set (m_set μ 118 20 (m_or (μ 118 20) (m_shl 1 0))) 118 21 (1)) 118 Ho) 118 H0) c s) _
      refine rn_iastore (k' := 30) rfl rfl K0_121 (by omega) (by omega) ?_
      refine rn_aload_n (k' := 31) rfl rfl rfl ?_
      refine rn_iconst (k' := 32) rfl rfl ?_
      refine rn_bipush (k' := 33) rfl rfl ?_
      obtain ⟨H1, ⟨hm1, hv1, hf1⟩, hc1⟩ := g_takes (μ := (m_set (m_upd (m_upd (m_set (m_set μ 118 20 (m_or (μ 118 20) (m_shl 1 0))) 118 21 (1)) 118 Ho) 118 H0) 121 2 (H0 18))) (c := c) (s := s) (b := b) (n := n) (m := m) (p := (tkN b n m (tkN b n m p))) (lo := 0) (hi := 99) hM1 e1
      have hM2 : MSt (m_upd (m_set (m_upd (m_upd (m_set (m_set μ 118 20 (m_or (μ 118 20) (m_shl 1 0))) 118 21 (1)) 118 Ho) 118 H0) 121 2 (H0 18)) 118 H1) b n m (tkN b n m (tkN b n m (tkN b n m p))) := ⟨hM1.1, hM1.2.1, hM1.2.2.1, (tkN_b hM1.2.2.2.1).2.1, hm1⟩
      refine rn_callP (k' := 34) (y := 181) (vs := [mR 118, mI (0), mI (99)]) (S' := []) (v := some (mI (1))) (h' := mkh (m_upd (m_set (m_upd (m_upd (m_set (m_set μ 118 20 (m_or (μ 118 20) (m_shl 1 0))) 118 21 (1)) 118 Ho) 118 H0) 121 2 (H0 18)) 118 H1) c s) rfl rfl rfl (hc1) ?_
      show Rn PT none kX12_line 34 [some (mR 118)] [mI (1)] (mkh (m_upd (m_set (m_upd (m_upd (m_set (m_set μ 118 20 (m_or (μ 118 20) (m_shl 1 0))) 118 21 (1)) 118 Ho) 118 H0) 121 2 (H0 18)) 118 H1) c s) _
      refine rn_if_ne (k' := 35) rfl rfl (fun hc3 => ?_) (fun hc3 => ?_)
      · skip
        refine rn_aload_n (k' := 38) rfl rfl rfl ?_
        refine rn_getR (k' := 39) rfl rfl K0_118 (by decide) rfl R0_118_7 ?_
        refine rn_iconst (k' := 40) rfl rfl ?_
        refine rn_aload_n (k' := 41) rfl rfl rfl ?_
        refine rn_getI (k' := 42) rfl rfl K0_118 (by decide) rfl ?_
        show Rn PT none kX12_line 42 [some (mR 118)] [mI (H1 18), mI (3), mR 121] (mkh (m_upd (m_set (m_upd (m_upd (m_set (m_set μ 118 20 (m_or (μ 118 20) (m_shl 1 0))) 118 21 (1)) 118 Ho) 118 H0) 121 2 (H0 18)) 118 H1) c s) _
        refine rn_iastore (k' := 43) rfl rfl K0_121 (by omega) (by omega) ?_
        refine rn_iconst (k' := 44) rfl rfl ?_
        refine rn_iret rfl (Or.inr (by omega)) ?_
        exact ⟨_, rfl, hM2, ⟨(MFr.s2 (MFr.u (MFr.s2 (MFr.u (MFr.u (MFr.s (MFr.s MFr.r (by decide)) (by decide)) hfo) hf0) (.inl rfl)) hf1) (.inl rfl)), ((hf1 15 (by decide) (by decide) (by decide) (by decide) (by decide) (by decide) (by decide)).trans ((hf0 15 (by decide) (by decide) (by decide) (by decide) (by decide) (by decide) (by decide)).trans ((hfo 15 (by decide) (by decide) (by decide) (by decide) (by decide) (by decide) (by decide)).trans rfl)))⟩, ((hf1 20 (by decide) (by decide) (by decide) (by decide) (by decide) (by decide) (by decide)).trans ((hf0 20 (by decide) (by decide) (by decide) (by decide) (by decide) (by decide) (by decide)).trans ((hfo 20 (by decide) (by decide) (by decide) (by decide) (by decide) (by decide) (by decide)).trans rfl))).trans (by rw [hO]; exact (or_once O hO8 0 (by decide) hb).1), ((hf1 21 (by decide) (by decide) (by decide) (by decide) (by decide) (by decide) (by decide)).trans ((hf0 21 (by decide) (by decide) (by decide) (by decide) (by decide) (by decide) (by decide)).trans ((hfo 21 (by decide) (by decide) (by decide) (by decide) (by decide) (by decide) (by decide)).trans rfl))), hv0, hv1, (fun j h2 h3 => by simp [m_set, m_upd, h2, h3]), rfl⟩
      · exfalso; omega
    · exfalso; omega
  · exfalso; omega
theorem m_wood_x0 {μ : Nat → Nat → Int} {c s : Nat} {b : Nat → Int} {n m p : Nat} (hM : MSt μ b n m p) (hk : tkK b n m p = 1) {O : Nat} (hO : μ 118 20 = (O : Int)) (hO8 : O < 8) (hb : O / 2 ^ 1 % 2 = 0) (e0 : ¬ eN b n m (tkN b n m p) 0 99 = 0) : Rn PT none kX12_line 49 [some (mR 118)] [] (mkh μ c s) (fun r => ∃ ν', r = (some (some (mI 0)), mkh ν' c s) ∧ ν' 118 15 = eN b n m (tkN b n m p) 0 99 ∧ ν' 118 16 = ((tkP b n m (tkN b n m p) : Nat) : Int) ∧ MFr μ ν') := by
  refine rn_aload_n (k' := 50) rfl rfl rfl ?_
  refine rn_iconst (k' := 51) rfl rfl ?_
  obtain ⟨Ho, ⟨hmo, hfo⟩, hco⟩ := g_once1 (μ := μ) (c := c) (s := s) (b := b) (n := n) (m := m) (p := p) hM hk hO hO8 hb
  have hM0 : MSt (m_upd (m_set (m_set μ 118 20 (m_or (μ 118 20) (m_shl 1 1))) 118 21 (1)) 118 Ho) b n m (tkN b n m p) := ⟨hM.1, hM.2.1, hM.2.2.1, (tkN_b hM.2.2.2.1).2.1, hmo⟩
  refine rn_callP (k' := 52) (y := 184) (vs := [mR 118, mI (1)]) (S' := []) (v := some (mI (1))) (h' := mkh (m_upd (m_set (m_set μ 118 20 (m_or (μ 118 20) (m_shl 1 1))) 118 21 (1)) 118 Ho) c s) rfl rfl rfl (hco) ?_
  show Rn PT none kX12_line 52 [some (mR 118)] [mI (1)] (mkh (m_upd (m_set (m_set μ 118 20 (m_or (μ 118 20) (m_shl 1 1))) 118 21 (1)) 118 Ho) c s) _
  refine rn_if_ne (k' := 53) rfl rfl (fun hc1 => ?_) (fun hc1 => ?_)
  · skip
    refine rn_aload_n (k' := 56) rfl rfl rfl ?_
    refine rn_iconst (k' := 57) rfl rfl ?_
    refine rn_bipush (k' := 58) rfl rfl ?_
    have hc0 := g_takesX (μ := (m_upd (m_set (m_set μ 118 20 (m_or (μ 118 20) (m_shl 1 1))) 118 21 (1)) 118 Ho)) (c := c) (s := s) (b := b) (n := n) (m := m) (p := (tkN b n m p)) (lo := 0) (hi := 99) hM0 e0
    refine rn_callP (k' := 59) (y := 181) (vs := [mR 118, mI (0), mI (99)]) (S' := []) (v := some (mI (0))) (h' := mkh (m_set (m_set (m_upd (m_set (m_set μ 118 20 (m_or (μ 118 20) (m_shl 1 1))) 118 21 (1)) 118 Ho) 118 15 (eN b n m (tkN b n m p) (0) (99))) 118 16 (((tkP b n m (tkN b n m p) : Nat) : Int))) c s) rfl rfl rfl (hc0) ?_
    show Rn PT none kX12_line 59 [some (mR 118)] [mI (0)] (mkh (m_set (m_set (m_upd (m_set (m_set μ 118 20 (m_or (μ 118 20) (m_shl 1 1))) 118 21 (1)) 118 Ho) 118 15 (eN b n m (tkN b n m p) (0) (99))) 118 16 (((tkP b n m (tkN b n m p) : Nat) : Int))) c s) _
    refine rn_if_ne (k' := 60) rfl rfl (fun hc2 => ?_) (fun hc2 => ?_)
    · exfalso; omega
    · skip
      refine rn_iconst (k' := 61) rfl rfl ?_
      refine rn_iret rfl (Or.inr (by omega)) ?_
      exact ⟨_, rfl, rfl, rfl, (MFr.s (MFr.s (MFr.u (MFr.s (MFr.s MFr.r (by decide)) (by decide)) hfo) (by decide)) (by decide))⟩
  · exfalso; omega
theorem m_wood_ok {μ : Nat → Nat → Int} {c s : Nat} {b : Nat → Int} {n m p : Nat} (hM : MSt μ b n m p) (hk : tkK b n m p = 1) {O : Nat} (hO : μ 118 20 = (O : Int)) (hO8 : O < 8) (hb : O / 2 ^ 1 % 2 = 0) (e0 : eN b n m (tkN b n m p) 0 99 = 0) : Rn PT none kX12_line 49 [some (mR 118)] [] (mkh μ c s) (fun r => ∃ ν', r = (some (some (mI 1)), mkh ν' c s) ∧ MSt ν' b n m (tkN b n m (tkN b n m p)) ∧ MFo μ ν' ∧ ν' 118 20 = ((O + 2 ^ 1 : Nat) : Int) ∧ ν' 118 21 = 1 ∧ ν' 121 4 = tkV b n m (tkN b n m p) ∧ (∀ j, ¬ j = 4 → ν' 121 j = μ 121 j) ∧ ν' 123 = μ 123) := by
  refine rn_aload_n (k' := 50) rfl rfl rfl ?_
  refine rn_iconst (k' := 51) rfl rfl ?_
  obtain ⟨Ho, ⟨hmo, hfo⟩, hco⟩ := g_once1 (μ := μ) (c := c) (s := s) (b := b) (n := n) (m := m) (p := p) hM hk hO hO8 hb
  have hM0 : MSt (m_upd (m_set (m_set μ 118 20 (m_or (μ 118 20) (m_shl 1 1))) 118 21 (1)) 118 Ho) b n m (tkN b n m p) := ⟨hM.1, hM.2.1, hM.2.2.1, (tkN_b hM.2.2.2.1).2.1, hmo⟩
  refine rn_callP (k' := 52) (y := 184) (vs := [mR 118, mI (1)]) (S' := []) (v := some (mI (1))) (h' := mkh (m_upd (m_set (m_set μ 118 20 (m_or (μ 118 20) (m_shl 1 1))) 118 21 (1)) 118 Ho) c s) rfl rfl rfl (hco) ?_
  show Rn PT none kX12_line 52 [some (mR 118)] [mI (1)] (mkh (m_upd (m_set (m_set μ 118 20 (m_or (μ 118 20) (m_shl 1 1))) 118 21 (1)) 118 Ho) c s) _
  refine rn_if_ne (k' := 53) rfl rfl (fun hc1 => ?_) (fun hc1 => ?_)
  · skip
    refine rn_aload_n (k' := 56) rfl rfl rfl ?_
    refine rn_iconst (k' := 57) rfl rfl ?_
    refine rn_bipush (k' := 58) rfl rfl ?_
    obtain ⟨H0, ⟨hm0, hv0, hf0⟩, hc0⟩ := g_takes (μ := (m_upd (m_set (m_set μ 118 20 (m_or (μ 118 20) (m_shl 1 1))) 118 21 (1)) 118 Ho)) (c := c) (s := s) (b := b) (n := n) (m := m) (p := (tkN b n m p)) (lo := 0) (hi := 99) hM0 e0
    have hM1 : MSt (m_upd (m_upd (m_set (m_set μ 118 20 (m_or (μ 118 20) (m_shl 1 1))) 118 21 (1)) 118 Ho) 118 H0) b n m (tkN b n m (tkN b n m p)) := ⟨hM0.1, hM0.2.1, hM0.2.2.1, (tkN_b hM0.2.2.2.1).2.1, hm0⟩
    refine rn_callP (k' := 59) (y := 181) (vs := [mR 118, mI (0), mI (99)]) (S' := []) (v := some (mI (1))) (h' := mkh (m_upd (m_upd (m_set (m_set μ 118 20 (m_or (μ 118 20) (m_shl 1 1))) 118 21 (1)) 118 Ho) 118 H0) c s) rfl rfl rfl (hc0) ?_
    show Rn PT none kX12_line 59 [some (mR 118)] [mI (1)] (mkh (m_upd (m_upd (m_set (m_set μ 118 20 (m_or (μ 118 20) (m_shl 1 1))) 118 21 (1)) 118 Ho) 118 H0) c s) _
    refine rn_if_ne (k' := 60) rfl rfl (fun hc2 => ?_) (fun hc2 => ?_)
    · skip
      refine rn_aload_n (k' := 63) rfl rfl rfl ?_
      refine rn_getR (k' := 64) rfl rfl K0_118 (by decide) rfl R0_118_7 ?_
      refine rn_iconst (k' := 65) rfl rfl ?_
      refine rn_aload_n (k' := 66) rfl rfl rfl ?_
      refine rn_getI (k' := 67) rfl rfl K0_118 (by decide) rfl ?_
      show Rn PT none kX12_line 67 [some (mR 118)] [mI (H0 18), mI (4), mR 121] (mkh (m_upd (m_upd (m_set (m_set μ 118 20 (m_or (μ 118 20) (m_shl 1 1))) 118 21 (1)) 118 Ho) 118 H0) c s) _
      refine rn_iastore (k' := 68) rfl rfl K0_121 (by omega) (by omega) ?_
      refine rn_iconst (k' := 69) rfl rfl ?_
      refine rn_iret rfl (Or.inr (by omega)) ?_
      exact ⟨_, rfl, hM1, ⟨(MFr.s2 (MFr.u (MFr.u (MFr.s (MFr.s MFr.r (by decide)) (by decide)) hfo) hf0) (.inl rfl)), ((hf0 15 (by decide) (by decide) (by decide) (by decide) (by decide) (by decide) (by decide)).trans ((hfo 15 (by decide) (by decide) (by decide) (by decide) (by decide) (by decide) (by decide)).trans rfl))⟩, ((hf0 20 (by decide) (by decide) (by decide) (by decide) (by decide) (by decide) (by decide)).trans ((hfo 20 (by decide) (by decide) (by decide) (by decide) (by decide) (by decide) (by decide)).trans rfl)).trans (by rw [hO]; exact (or_once O hO8 1 (by decide) hb).1), ((hf0 21 (by decide) (by decide) (by decide) (by decide) (by decide) (by decide) (by decide)).trans ((hfo 21 (by decide) (by decide) (by decide) (by decide) (by decide) (by decide) (by decide)).trans rfl)), hv0, (fun j h4 => by simp [m_set, m_upd, h4]), rfl⟩
    · exfalso; omega
  · exfalso; omega
