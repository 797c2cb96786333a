variable {N : Int}
/-! ===== printed by wip/whole/gen9S.py: wolf and thing lines by the model ===== -/
set_option maxHeartbeats 1000000 in
theorem m_wolf_x0 {μ : Nat → Nat → Int} {c s : Nat} {b : Nat → Int} {n m p : Nat} (hM : MSt μ b n m p) (hk : tkK b n m p = 1) {O : Nat} (hO : μ 118 20 = (O : Int)) (hO8 : O < 8) (hb : O / 2 ^ 2 % 2 = 0) (c8 : 0 ≤ μ 121 0 ∧ μ 121 0 ≤ 10) (c9 : 0 ≤ μ 121 1 ∧ μ 121 1 ≤ 10) (e0 : ¬ eN b n m (tkN b n m p) 0 (μ 121 0 - 1) = 0) : Rn PT none kX12_line 136 [some (mR 118)] [] (mkh μ c s) (fun r => ∃ ν', r = (some (some (mI 0)), mkh ν' c s) ∧ ν' 118 15 = eN b n m (tkN b n m p) 0 (μ 121 0 - 1) ∧ ν' 118 16 = ((tkP b n m (tkN b n m p) : Nat) : Int) ∧ MFr μ ν') := by
  refine rn_aload_n (k' := 137) rfl rfl rfl ?_
  refine rn_iconst (k' := 138) rfl rfl ?_
  obtain ⟨Ho, ⟨hmo, hfo⟩, hco⟩ := g_once2 (μ := μ) (c := c) (s := s) (b := b) (n := n) (m := m) (p := p) hM hk hO hO8 hb
  have hM0 : MSt (m_upd (m_set (m_set μ 118 20 (m_or (μ 118 20) (m_shl 1 2))) 118 21 (1)) 118 Ho) b n m (tkN b n m p) := ⟨hM.1, hM.2.1, hM.2.2.1, (tkN_b hM.2.2.2.1).2.1, hmo⟩
  refine rn_callP (k' := 139) (y := 184) (vs := [mR 118, mI (2)]) (S' := []) (v := some (mI (1))) (h' := mkh (m_upd (m_set (m_set μ 118 20 (m_or (μ 118 20) (m_shl 1 2))) 118 21 (1)) 118 Ho) c s) rfl rfl rfl (hco) ?_
  show Rn PT none kX12_line 139 [some (mR 118)] [mI (1)] (mkh (m_upd (m_set (m_set μ 118 20 (m_or (μ 118 20) (m_shl 1 2))) 118 21 (1)) 118 Ho) c s) _
  refine rn_if_ne (k' := 140) rfl rfl (fun hc1 => ?_) (fun hc1 => ?_)
  · skip
    refine rn_aload_n (k' := 143) rfl rfl rfl ?_
    obtain ⟨Hx, hfx, hcx⟩ := g_tcellX0 (μ := (m_upd (m_set (m_set μ 118 20 (m_or (μ 118 20) (m_shl 1 2))) 118 21 (1)) 118 Ho)) (c := c) (s := s) (b := b) (n := n) (m := m) (p := (tkN b n m p)) hM0 c8 c9 e0
    refine rn_callP (k' := 144) (y := 187) (vs := [mR 118]) (S' := []) (v := some (mI (0))) (h' := mkh (m_set (m_set (m_upd (m_upd (m_set (m_set μ 118 20 (m_or (μ 118 20) (m_shl 1 2))) 118 21 (1)) 118 Ho) 118 Hx) 118 15 (eN b n m (tkN b n m p) 0 (μ 121 0 - 1))) 118 16 (((tkP b n m (tkN b n m p) : Nat) : Int))) c s) rfl rfl rfl (hcx) ?_
    show Rn PT none kX12_line 144 [some (mR 118)] [mI (0)] (mkh (m_set (m_set (m_upd (m_upd (m_set (m_set μ 118 20 (m_or (μ 118 20) (m_shl 1 2))) 118 21 (1)) 118 Ho) 118 Hx) 118 15 (eN b n m (tkN b n m p) 0 (μ 121 0 - 1))) 118 16 (((tkP b n m (tkN b n m p) : Nat) : Int))) c s) _
    refine rn_if_ne (k' := 145) rfl rfl (fun hc2 => ?_) (fun hc2 => ?_)
    · exfalso; omega
    · skip
      refine rn_iconst (k' := 146) rfl rfl ?_
      refine rn_iret rfl (Or.inr (by omega)) ?_
      exact ⟨_, rfl, rfl, rfl, (MFr.s (MFr.s (MFr.u (MFr.u (MFr.s (MFr.s MFr.r (by decide)) (by decide)) hfo) hfx) (by decide)) (by decide))⟩
  · exfalso; omega
set_option maxHeartbeats 1000000 in
theorem m_wolf_x1 {μ : Nat → Nat → Int} {c s : Nat} {b : Nat → Int} {n m p : Nat} (hM : MSt μ b n m p) (hk : tkK b n m p = 1) {O : Nat} (hO : μ 118 20 = (O : Int)) (hO8 : O < 8) (hb : O / 2 ^ 2 % 2 = 0) (c8 : 0 ≤ μ 121 0 ∧ μ 121 0 ≤ 10) (c9 : 0 ≤ μ 121 1 ∧ μ 121 1 ≤ 10) (e0 : eN b n m (tkN b n m p) 0 (μ 121 0 - 1) = 0) (e1 : ¬ eN b n m (tkN b n m (tkN b n m p)) 0 (μ 121 1 - 1) = 0) : Rn PT none kX12_line 136 [some (mR 118)] [] (mkh μ c s) (fun r => ∃ ν', r = (some (some (mI 0)), mkh ν' c s) ∧ ν' 118 15 = eN b n m (tkN b n m (tkN b n m p)) 0 (μ 121 1 - 1) ∧ ν' 118 16 = ((tkP b n m (tkN b n m (tkN b n m p)) : Nat) : Int) ∧ MFr μ ν') := by
  refine rn_aload_n (k' := 137) rfl rfl rfl ?_
  refine rn_iconst (k' := 138) rfl rfl ?_
  obtain ⟨Ho, ⟨hmo, hfo⟩, hco⟩ := g_once2 (μ := μ) (c := c) (s := s) (b := b) (n := n) (m := m) (p := p) hM hk hO hO8 hb
  have hM0 : MSt (m_upd (m_set (m_set μ 118 20 (m_or (μ 118 20) (m_shl 1 2))) 118 21 (1)) 118 Ho) b n m (tkN b n m p) := ⟨hM.1, hM.2.1, hM.2.2.1, (tkN_b hM.2.2.2.1).2.1, hmo⟩
  refine rn_callP (k' := 139) (y := 184) (vs := [mR 118, mI (2)]) (S' := []) (v := some (mI (1))) (h' := mkh (m_upd (m_set (m_set μ 118 20 (m_or (μ 118 20) (m_shl 1 2))) 118 21 (1)) 118 Ho) c s) rfl rfl rfl (hco) ?_
  show Rn PT none kX12_line 139 [some (mR 118)] [mI (1)] (mkh (m_upd (m_set (m_set μ 118 20 (m_or (μ 118 20) (m_shl 1 2))) 118 21 (1)) 118 Ho) c s) _
  refine rn_if_ne (k' := 140) rfl rfl (fun hc1 => ?_) (fun hc1 => ?_)
  · skip
    refine rn_aload_n (k' := 143) rfl rfl rfl ?_
    obtain ⟨Hx, hfx, hcx⟩ := g_tcellX1 (μ := (m_upd (m_set (m_set μ 118 20 (m_or (μ 118 20) (m_shl 1 2))) 118 21 (1)) 118 Ho)) (c := c) (s := s) (b := b) (n := n) (m := m) (p := (tkN b n m p)) hM0 c8 c9 e0 e1
    refine rn_callP (k' := 144) (y := 187) (vs := [mR 118]) (S' := []) (v := some (mI (0))) (h' := mkh (m_set (m_set (m_upd (m_upd (m_set (m_set μ 118 20 (m_or (μ 118 20) (m_shl 1 2))) 118 21 (1)) 118 Ho) 118 Hx) 118 15 (eN b n m (tkN b n m (tkN b n m p)) 0 (μ 121 1 - 1))) 118 16 (((tkP b n m (tkN b n m (tkN b n m p)) : Nat) : Int))) c s) rfl rfl rfl (hcx) ?_
    show Rn PT none kX12_line 144 [some (mR 118)] [mI (0)] (mkh (m_set (m_set (m_upd (m_upd (m_set (m_set μ 118 20 (m_or (μ 118 20) (m_shl 1 2))) 118 21 (1)) 118 Ho) 118 Hx) 118 15 (eN b n m (tkN b n m (tkN b n m p)) 0 (μ 121 1 - 1))) 118 16 (((tkP b n m (tkN b n m (tkN b n m p)) : Nat) : Int))) c s) _
    refine rn_if_ne (k' := 145) rfl rfl (fun hc2 => ?_) (fun hc2 => ?_)
    · exfalso; omega
    · skip
      refine rn_iconst (k' := 146) rfl rfl ?_
      refine rn_iret rfl (Or.inr (by omega)) ?_
      exact ⟨_, rfl, rfl, rfl, (MFr.s (MFr.s (MFr.u (MFr.u (MFr.s (MFr.s MFr.r (by decide)) (by decide)) hfo) hfx) (by decide)) (by decide))⟩
  · exfalso; omega
set_option maxHeartbeats 1000000 in
theorem m_wolf_x2 {μ : Nat → Nat → Int} {c s : Nat} {b : Nat → Int} {n m p : Nat} (hM : MSt μ b n m p) (hk : tkK b n m p = 1) {O : Nat} (hO : μ 118 20 = (O : Int)) (hO8 : O < 8) (hb : O / 2 ^ 2 % 2 = 0) (c8 : 0 ≤ μ 121 0 ∧ μ 121 0 ≤ 10) (c9 : 0 ≤ μ 121 1 ∧ μ 121 1 ≤ 10) (e0 : eN b n m (tkN b n m p) 0 (μ 121 0 - 1) = 0) (e1 : eN b n m (tkN b n m (tkN b n m p)) 0 (μ 121 1 - 1) = 0) (e2 : ¬ eN b n m (tkN b n m (tkN b n m (tkN b n m p))) 0 99 = 0) : Rn PT none kX12_line 136 [some (mR 118)] [] (mkh μ c s) (fun r => ∃ ν', r = (some (some (mI 0)), mkh ν' c s) ∧ ν' 118 15 = eN b n m (tkN b n m (tkN b n m (tkN b n m p))) 0 99 ∧ ν' 118 16 = ((tkP b n m (tkN b n m (tkN b n m (tkN b n m p))) : Nat) : Int) ∧ MFr μ ν') := by
  refine rn_aload_n (k' := 137) rfl rfl rfl ?_
  refine rn_iconst (k' := 138) rfl rfl ?_
  obtain ⟨Ho, ⟨hmo, hfo⟩, hco⟩ := g_once2 (μ := μ) (c := c) (s := s) (b := b) (n := n) (m := m) (p := p) hM hk hO hO8 hb
  have hM0 : MSt (m_upd (m_set (m_set μ 118 20 (m_or (μ 118 20) (m_shl 1 2))) 118 21 (1)) 118 Ho) b n m (tkN b n m p) := ⟨hM.1, hM.2.1, hM.2.2.1, (tkN_b hM.2.2.2.1).2.1, hmo⟩
  refine rn_callP (k' := 139) (y := 184) (vs := [mR 118, mI (2)]) (S' := []) (v := some (mI (1))) (h' := mkh (m_upd (m_set (m_set μ 118 20 (m_or (μ 118 20) (m_shl 1 2))) 118 21 (1)) 118 Ho) c s) rfl rfl rfl (hco) ?_
  show Rn PT none kX12_line 139 [some (mR 118)] [mI (1)] (mkh (m_upd (m_set (m_set μ 118 20 (m_or (μ 118 20) (m_shl 1 2))) 118 21 (1)) 118 Ho) c s) _
  refine rn_if_ne (k' := 140) rfl rfl (fun hc1 => ?_) (fun hc1 => ?_)
  · skip
    refine rn_aload_n (k' := 143) rfl rfl rfl ?_
    obtain ⟨H1, ⟨hm1, hv1, hf1⟩, hc1⟩ := g_tcell (μ := (m_upd (m_set (m_set μ 118 20 (m_or (μ 118 20) (m_shl 1 2))) 118 21 (1)) 118 Ho)) (c := c) (s := s) (b := b) (n := n) (m := m) (p := (tkN b n m p)) hM0 c8 c9 e0 e1
    have hM2 : MSt (m_upd (m_upd (m_set (m_set μ 118 20 (m_or (μ 118 20) (m_shl 1 2))) 118 21 (1)) 118 Ho) 118 H1) b n m (tkN b n m (tkN b n m (tkN b n m p))) := ⟨hM0.1, hM0.2.1, hM0.2.2.1, (tkN_b (tkN_b hM0.2.2.2.1).2.1).2.1, hm1⟩
    have ty0 := eN_ok e0
    have ty1 := eN_ok e1
    have tnz := tk_num ty0.1
    have tnw := tk_num ty1.1
    refine rn_callP (k' := 144) (y := 187) (vs := [mR 118]) (S' := []) (v := some (mI (1))) (h' := mkh (m_upd (m_upd (m_set (m_set μ 118 20 (m_or (μ 118 20) (m_shl 1 2))) 118 21 (1)) 118 Ho) 118 H1) c s) rfl rfl rfl (hc1) ?_
    show Rn PT none kX12_line 144 [some (mR 118)] [mI (1)] (mkh (m_upd (m_upd (m_set (m_set μ 118 20 (m_or (μ 118 20) (m_shl 1 2))) 118 21 (1)) 118 Ho) 118 H1) c s) _
    refine rn_if_ne (k' := 145) rfl rfl (fun hc2 => ?_) (fun hc2 => ?_)
    · skip
      refine rn_aload_n (k' := 148) rfl rfl rfl ?_
      refine rn_getR (k' := 149) rfl rfl K0_118 (by decide) rfl R0_118_7 ?_
      refine rn_sipush (k' := 150) rfl rfl ?_
      refine rn_aload_n (k' := 151) rfl rfl rfl ?_
      refine rn_getI (k' := 152) rfl rfl K0_118 (by decide) rfl ?_
      show Rn PT none kX12_line 152 [some (mR 118)] [mI (H1 18), mI (499), mR 121] (mkh (m_upd (m_upd (m_set (m_set μ 118 20 (m_or (μ 118 20) (m_shl 1 2))) 118 21 (1)) 118 Ho) 118 H1) c s) _
      refine rn_iconst (k' := 153) rfl rfl ?_
      refine rn_iadd (k' := 154) rfl rfl (by omega) ?_
      refine rn_iastore (k' := 155) rfl rfl K0_121 (by omega) (by omega) ?_
      refine rn_aload_n (k' := 156) rfl rfl rfl ?_
      refine rn_iconst (k' := 157) rfl rfl ?_
      refine rn_bipush (k' := 158) rfl rfl ?_
      have hc2 := g_takesX (μ := (m_set (m_upd (m_upd (m_set (m_set μ 118 20 (m_or (μ 118 20) (m_shl 1 2))) 118 21 (1)) 118 Ho) 118 H1) 121 499 ((H1 18) + 1))) (c := c) (s := s) (b := b) (n := n) (m := m) (p := (tkN b n m (tkN b n m (tkN b n m p)))) (lo := 0) (hi := 99) hM2 e2
      refine rn_callP (k' := 159) (y := 181) (vs := [mR 118, mI (0), mI (99)]) (S' := []) (v := some (mI (0))) (h' := mkh (m_set (m_set (m_set (m_upd (m_upd (m_set (m_set μ 118 20 (m_or (μ 118 20) (m_shl 1 2))) 118 21 (1)) 118 Ho) 118 H1) 121 499 ((H1 18) + 1)) 118 15 (eN b n m (tkN b n m (tkN b n m (tkN b n m p))) (0) (99))) 118 16 (((tkP b n m (tkN b n m (tkN b n m (tkN b n m p))) : Nat) : Int))) c s) rfl rfl rfl (hc2) ?_
      show Rn PT none kX12_line 159 [some (mR 118)] [mI (0)] (mkh (m_set (m_set (m_set (m_upd (m_upd (m_set (m_set μ 118 20 (m_or (μ 118 20) (m_shl 1 2))) 118 21 (1)) 118 Ho) 118 H1) 121 499 ((H1 18) + 1)) 118 15 (eN b n m (tkN b n m (tkN b n m (tkN b n m p))) (0) (99))) 118 16 (((tkP b n m (tkN b n m (tkN b n m (tkN b n m p))) : Nat) : Int))) c s) _
      refine rn_if_ne (k' := 160) rfl rfl (fun hc3 => ?_) (fun hc3 => ?_)
      · exfalso; omega
      · skip
        refine rn_iconst (k' := 161) rfl rfl ?_
        refine rn_iret rfl (Or.inr (by omega)) ?_
        exact ⟨_, rfl, rfl, rfl, (MFr.s (MFr.s (MFr.s2 (MFr.u (MFr.u (MFr.s (MFr.s MFr.r (by decide)) (by decide)) hfo) hf1) (.inl rfl)) (by decide)) (by decide))⟩
    · exfalso; omega
  · exfalso; omega
set_option maxHeartbeats 1000000 in
theorem m_wolf_ok {μ : Nat → Nat → Int} {c s : Nat} {b : Nat → Int} {n m p : Nat} (hM : MSt μ b n m p) (hk : tkK b n m p = 1) {O : Nat} (hO : μ 118 20 = (O : Int)) (hO8 : O < 8) (hb : O / 2 ^ 2 % 2 = 0) (c8 : 0 ≤ μ 121 0 ∧ μ 121 0 ≤ 10) (c9 : 0 ≤ μ 121 1 ∧ μ 121 1 ≤ 10) (e0 : eN b n m (tkN b n m p) 0 (μ 121 0 - 1) = 0) (e1 : eN b n m (tkN b n m (tkN b n m p)) 0 (μ 121 1 - 1) = 0) (e2 : eN b n m (tkN b n m (tkN b n m (tkN b n m p))) 0 99 = 0) : Rn PT none kX12_line 136 [some (mR 118)] [] (mkh μ c s) (fun r => ∃ ν', r = (some (some (mI 1)), mkh ν' c s) ∧ MSt ν' b n m (tkN b n m (tkN b n m (tkN b n m (tkN b n m p)))) ∧ MFo μ ν' ∧ ν' 118 20 = ((O + 2 ^ 2 : Nat) : Int) ∧ ν' 118 21 = 1 ∧ ν' 121 499 = 10 * tkV b n m (tkN b n m (tkN b n m p)) + tkV b n m (tkN b n m p) + 1 ∧ ν' 121 500 = tkV b n m (tkN b n m (tkN b n m (tkN b n m p))) ∧ (∀ j, ¬ j = 499 → ¬ j = 500 → ν' 121 j = μ 121 j) ∧ ν' 123 = μ 123) := by
  refine rn_aload_n (k' := 137) rfl rfl rfl ?_
  refine rn_iconst (k' := 138) rfl rfl ?_
  obtain ⟨Ho, ⟨hmo, hfo⟩, hco⟩ := g_once2 (μ := μ) (c := c) (s := s) (b := b) (n := n) (m := m) (p := p) hM hk hO hO8 hb
  have hM0 : MSt (m_upd (m_set (m_set μ 118 20 (m_or (μ 118 20) (m_shl 1 2))) 118 21 (1)) 118 Ho) b n m (tkN b n m p) := ⟨hM.1, hM.2.1, hM.2.2.1, (tkN_b hM.2.2.2.1).2.1, hmo⟩
  refine rn_callP (k' := 139) (y := 184) (vs := [mR 118, mI (2)]) (S' := []) (v := some (mI (1))) (h' := mkh (m_upd (m_set (m_set μ 118 20 (m_or (μ 118 20) (m_shl 1 2))) 118 21 (1)) 118 Ho) c s) rfl rfl rfl (hco) ?_
  show Rn PT none kX12_line 139 [some (mR 118)] [mI (1)] (mkh (m_upd (m_set (m_set μ 118 20 (m_or (μ 118 20) (m_shl 1 2))) 118 21 (1)) 118 Ho) c s) _
  refine rn_if_ne (k' := 140) rfl rfl (fun hc1 => ?_) (fun hc1 => ?_)
  · skip
    refine rn_aload_n (k' := 143) rfl rfl rfl ?_
    obtain ⟨H1, ⟨hm1, hv1, hf1⟩, hc1⟩ := g_tcell (μ := (m_upd (m_set (m_set μ 118 20 (m_or (μ 118 20) (m_shl 1 2))) 118 21 (1)) 118 Ho)) (c := c) (s := s) (b := b) (n := n) (m := m) (p := (tkN b n m p)) hM0 c8 c9 e0 e1
    have hM2 : MSt (m_upd (m_upd (m_set (m_set μ 118 20 (m_or (μ 118 20) (m_shl 1 2))) 118 21 (1)) 118 Ho) 118 H1) b n m (tkN b n m (tkN b n m (tkN b n m p))) := ⟨hM0.1, hM0.2.1, hM0.2.2.1, (tkN_b (tkN_b hM0.2.2.2.1).2.1).2.1, hm1⟩
    have ty0 := eN_ok e0
    have ty1 := eN_ok e1
    have tnz := tk_num ty0.1
    have tnw := tk_num ty1.1
    refine rn_callP (k' := 144) (y := 187) (vs := [mR 118]) (S' := []) (v := some (mI (1))) (h' := mkh (m_upd (m_upd (m_set (m_set μ 118 20 (m_or (μ 118 20) (m_shl 1 2))) 118 21 (1)) 118 Ho) 118 H1) c s) rfl rfl rfl (hc1) ?_
    show Rn PT none kX12_line 144 [some (mR 118)] [mI (1)] (mkh (m_upd (m_upd (m_set (m_set μ 118 20 (m_or (μ 118 20) (m_shl 1 2))) 118 21 (1)) 118 Ho) 118 H1) c s) _
    refine rn_if_ne (k' := 145) rfl rfl (fun hc2 => ?_) (fun hc2 => ?_)
    · skip
      refine rn_aload_n (k' := 148) rfl rfl rfl ?_
      refine rn_getR (k' := 149) rfl rfl K0_118 (by decide) rfl R0_118_7 ?_
      refine rn_sipush (k' := 150) rfl rfl ?_
      refine rn_aload_n (k' := 151) rfl rfl rfl ?_
      refine rn_getI (k' := 152) rfl rfl K0_118 (by decide) rfl ?_
      show Rn PT none kX12_line 152 [some (mR 118)] [mI (H1 18), mI (499), mR 121] (mkh (m_upd (m_upd (m_set (m_set μ 118 20 (m_or (μ 118 20) (m_shl 1 2))) 118 21 (1)) 118 Ho) 118 H1) c s) _
      refine rn_iconst (k' := 153) rfl rfl ?_
      refine rn_iadd (k' := 154) rfl rfl (by omega) ?_
      refine rn_iastore (k' := 155) rfl rfl K0_121 (by omega) (by omega) ?_
      refine rn_aload_n (k' := 156) rfl rfl rfl ?_
      refine rn_iconst (k' := 157) rfl rfl ?_
      refine rn_bipush (k' := 158) rfl rfl ?_
      obtain ⟨H2, ⟨hm2, hv2, hf2⟩, hc2⟩ := g_takes (μ := (m_set (m_upd (m_upd (m_set (m_set μ 118 20 (m_or (μ 118 20) (m_shl 1 2))) 118 21 (1)) 118 Ho) 118 H1) 121 499 ((H1 18) + 1))) (c := c) (s := s) (b := b) (n := n) (m := m) (p := (tkN b n m (tkN b n m (tkN b n m p)))) (lo := 0) (hi := 99) hM2 e2
      have hM3 : MSt (m_upd (m_set (m_upd (m_upd (m_set (m_set μ 118 20 (m_or (μ 118 20) (m_shl 1 2))) 118 21 (1)) 118 Ho) 118 H1) 121 499 ((H1 18) + 1)) 118 H2) b n m (tkN b n m (tkN b n m (tkN b n m (tkN b n m p)))) := ⟨hM2.1, hM2.2.1, hM2.2.2.1, (tkN_b hM2.2.2.2.1).2.1, hm2⟩
      refine rn_callP (k' := 159) (y := 181) (vs := [mR 118, mI (0), mI (99)]) (S' := []) (v := some (mI (1))) (h' := mkh (m_upd (m_set (m_upd (m_upd (m_set (m_set μ 118 20 (m_or (μ 118 20) (m_shl 1 2))) 118 21 (1)) 118 Ho) 118 H1) 121 499 ((H1 18) + 1)) 118 H2) c s) rfl rfl rfl (hc2) ?_
      show Rn PT none kX12_line 159 [some (mR 118)] [mI (1)] (mkh (m_upd (m_set (m_upd (m_upd (m_set (m_set μ 118 20 (m_or (μ 118 20) (m_shl 1 2))) 118 21 (1)) 118 Ho) 118 H1) 121 499 ((H1 18) + 1)) 118 H2) c s) _
      refine rn_if_ne (k' := 160) rfl rfl (fun hc3 => ?_) (fun hc3 => ?_)
      · skip
        refine rn_aload_n (k' := 163) rfl rfl rfl ?_
        refine rn_getR (k' := 164) rfl rfl K0_118 (by decide) rfl R0_118_7 ?_
        refine rn_sipush (k' := 165) rfl rfl ?_
        refine rn_aload_n (k' := 166) rfl rfl rfl ?_
        refine rn_getI (k' := 167) rfl rfl K0_118 (by decide) rfl ?_
        show Rn PT none kX12_line 167 [some (mR 118)] [mI (H2 18), mI (500), mR 121] (mkh (m_upd (m_set (m_upd (m_upd (m_set (m_set μ 118 20 (m_or (μ 118 20) (m_shl 1 2))) 118 21 (1)) 118 Ho) 118 H1) 121 499 ((H1 18) + 1)) 118 H2) c s) _
        refine rn_iastore (k' := 168) rfl rfl K0_121 (by omega) (by omega) ?_
        refine rn_iconst (k' := 169) rfl rfl ?_
        refine rn_iret rfl (Or.inr (by omega)) ?_
        exact ⟨_, rfl, hM3, ⟨(MFr.s2 (MFr.u (MFr.s2 (MFr.u (MFr.u (MFr.s (MFr.s MFr.r (by decide)) (by decide)) hfo) hf1) (.inl rfl)) hf2) (.inl rfl)), ((hf2 15 (by decide) (by decide) (by decide) (by decide) (by decide) (by decide) (by decide)).trans ((hf1 15 (by decide) (by decide) (by decide) (by decide) (by decide) (by decide) (by decide)).trans ((hfo 15 (by decide) (by decide) (by decide) (by decide) (by decide) (by decide) (by decide)).trans rfl)))⟩, ((hf2 20 (by decide) (by decide) (by decide) (by decide) (by decide) (by decide) (by decide)).trans ((hf1 20 (by decide) (by decide) (by decide) (by decide) (by decide) (by decide) (by decide)).trans ((hfo 20 (by decide) (by decide) (by decide) (by decide) (by decide) (by decide) (by decide)).trans rfl))).trans (by rw [hO]; exact (or_once O hO8 2 (by decide) hb).1), ((hf2 21 (by decide) (by decide) (by decide) (by decide) (by decide) (by decide) (by decide)).trans ((hf1 21 (by decide) (by decide) (by decide) (by decide) (by decide) (by decide) (by decide)).trans ((hfo 21 (by decide) (by decide) (by decide) (by decide) (by decide) (by decide) (by decide)).trans rfl))), (show H1 18 + 1 = _ by rw [hv1]), hv2, (fun j h499 h500 => by simp [m_set, m_upd, h499, h500]), rfl⟩
      · exfalso; omega
    · exfalso; omega
  · exfalso; omega
set_option maxHeartbeats 1000000 in
theorem m_thing0_full {μ : Nat → Nat → Int} {c s : Nat} {b : Nat → Int} {n m p : Nat} (hM : MSt μ b n m p) (hk : tkK b n m p = 1) (c8 : 0 ≤ μ 121 0 ∧ μ 121 0 ≤ 10) (c9 : 0 ≤ μ 121 1 ∧ μ 121 1 ≤ 10) (ccn : 0 ≤ μ 121 5 ∧ μ 121 5 ≤ 12) (hf12 : μ 121 5 = 12) : ∃ ν', (ν' 118 15 = 4 ∧ ν' 118 16 = ((tkP b n m p : Nat) : Int) ∧ MFr μ ν') ∧ Cl PT 188 [mR 118, mI 109, mI 5] (mkh μ c s) (fun r => r = (some (some (mI 0)), mkh ν' c s)) := by
  refine Cl.ex (g := fun ν' => (some (some (mI 0)), mkh ν' c s)) ?_
  refine ⟨_, PT_188, Nat.le_of_ble_eq_true rfl, ?_⟩
  show Rn PT none kX12_readOn 0 [some (mR 118), some (mI (109)), some (mI (5)), none, none] [] (mkh μ c s) _
  refine rn_aload_n (k' := 1) rfl rfl rfl ?_
  refine rn_getR (k' := 2) rfl rfl K0_118 (by decide) rfl R0_118_7 ?_
  refine rn_iload_n (k' := 3) rfl rfl rfl ?_
  refine rn_iaload (k' := 4) rfl rfl K0_121 (by omega) (by omega) ?_
  show Rn PT none kX12_readOn 4 [some (mR 118), some (mI (109)), some (mI (5)), none, none] [mI (μ 121 5)] (mkh μ c s) _
  refine rn_bipush (k' := 5) rfl rfl ?_
  refine rn_icmp_ne (k' := 6) rfl rfl (fun hc1 => ?_) (fun hc1 => ?_)
  · exfalso; omega
  · skip
    refine rn_aload_n (k' := 7) rfl rfl rfl ?_
    refine rn_iconst (k' := 8) rfl rfl ?_
    refine rn_callP (k' := 9) (y := 176) (vs := [mR 118, mI (4)]) (S' := []) (v := some (mI (0))) (h' := mkh (m_set (m_set μ 118 15 (4)) 118 16 (μ 118 12)) c s) rfl rfl rfl (g_bad (μ := μ) (e := 4)) ?_
    show Rn PT none kX12_readOn 9 [some (mR 118), some (mI (109)), some (mI (5)), none, none] [mI (0)] (mkh (m_set (m_set μ 118 15 (4)) 118 16 (μ 118 12)) c s) _
    refine rn_iret rfl (Or.inr (by omega)) ?_
    exact ⟨_, rfl, rfl, hM.2.2.2.2.2.2.1, (MFr.s (MFr.s MFr.r (by decide)) (by decide))⟩
set_option maxHeartbeats 1000000 in
theorem m_thing0_x0 {μ : Nat → Nat → Int} {c s : Nat} {b : Nat → Int} {n m p : Nat} (hM : MSt μ b n m p) (hk : tkK b n m p = 1) (c8 : 0 ≤ μ 121 0 ∧ μ 121 0 ≤ 10) (c9 : 0 ≤ μ 121 1 ∧ μ 121 1 ≤ 10) (ccn : 0 ≤ μ 121 5 ∧ μ 121 5 ≤ 12) (hf12 : ¬ μ 121 5 = 12) (e0 : ¬ eN b n m (tkN b n m p) 0 (μ 121 0 - 1) = 0) : ∃ ν', (ν' 118 15 = eN b n m (tkN b n m p) 0 (μ 121 0 - 1) ∧ ν' 118 16 = ((tkP b n m (tkN b n m p) : Nat) : Int) ∧ MFr μ ν') ∧ Cl PT 188 [mR 118, mI 109, mI 5] (mkh μ c s) (fun r => r = (some (some (mI 0)), mkh ν' c s)) := by
  refine Cl.ex (g := fun ν' => (some (some (mI 0)), mkh ν' c s)) ?_
  refine ⟨_, PT_188, Nat.le_of_ble_eq_true rfl, ?_⟩
  show Rn PT none kX12_readOn 0 [some (mR 118), some (mI (109)), some (mI (5)), none, none] [] (mkh μ c s) _
  refine rn_aload_n (k' := 1) rfl rfl rfl ?_
  refine rn_getR (k' := 2) rfl rfl K0_118 (by decide) rfl R0_118_7 ?_
  refine rn_iload_n (k' := 3) rfl rfl rfl ?_
  refine rn_iaload (k' := 4) rfl rfl K0_121 (by omega) (by omega) ?_
  show Rn PT none kX12_readOn 4 [some (mR 118), some (mI (109)), some (mI (5)), none, none] [mI (μ 121 5)] (mkh μ c s) _
  refine rn_bipush (k' := 5) rfl rfl ?_
  refine rn_icmp_ne (k' := 6) rfl rfl (fun hc1 => ?_) (fun hc1 => ?_)
  · skip
    refine rn_aload_n (k' := 11) rfl rfl rfl ?_
    refine rn_iconst (k' := 12) rfl rfl ?_
    refine rn_putZ (k' := 13) rfl rfl K0_118 (by decide) rfl (by omega) ?_
    refine rn_aload_n (k' := 14) rfl rfl rfl ?_
    obtain ⟨Ha, ⟨hma, hfa_⟩, hca⟩ := g_next2 (μ := (m_set μ 118 21 (1))) (c := c) (s := s) (b := b) (n := n) (m := m) (p := p) hM (by omega)
    have hfa : FRt Ha _ := hfa_.t
    have hM0 : MSt (m_upd (m_set μ 118 21 (1)) 118 Ha) b n m (tkN b n m p) := ⟨hM.1, hM.2.1, hM.2.2.1, (tkN_b hM.2.2.2.1).2.1, hma⟩
    refine rn_callP (k' := 15) (y := 175) (vs := [mR 118]) (S' := []) (v := none) (h' := mkh (m_upd (m_set μ 118 21 (1)) 118 Ha) c s) rfl rfl rfl (hca) ?_
    show Rn PT none kX12_readOn 15 [some (mR 118), some (mI (109)), some (mI (5)), none, none] [] (mkh (m_upd (m_set μ 118 21 (1)) 118 Ha) c s) _
    refine rn_aload_n (k' := 16) rfl rfl rfl ?_
    refine rn_iconst (k' := 17) rfl rfl ?_
    refine rn_aload_n (k' := 18) rfl rfl rfl ?_
    refine rn_getR (k' := 19) rfl rfl K0_118 (by decide) rfl R0_118_7 ?_
    refine rn_iconst (k' := 20) rfl rfl ?_
    refine rn_iaload (k' := 21) rfl rfl K0_121 (by omega) (by omega) ?_
    show Rn PT none kX12_readOn 21 [some (mR 118), some (mI (109)), some (mI (5)), none, none] [mI (μ 121 0), mI (0), mR 118] (mkh (m_upd (m_set μ 118 21 (1)) 118 Ha) c s) _
    refine rn_iconst (k' := 22) rfl rfl ?_
    refine rn_isub (k' := 23) rfl rfl (by omega) ?_
    have hc0 := g_takesX (μ := (m_upd (m_set μ 118 21 (1)) 118 Ha)) (c := c) (s := s) (b := b) (n := n) (m := m) (p := (tkN b n m p)) (lo := 0) (hi := (μ 121 0) - 1) hM0 e0
    refine rn_callP (k' := 24) (y := 181) (vs := [mR 118, mI (0), mI ((μ 121 0) - 1)]) (S' := []) (v := some (mI (0))) (h' := mkh (m_set (m_set (m_upd (m_set μ 118 21 (1)) 118 Ha) 118 15 (eN b n m (tkN b n m p) (0) ((μ 121 0) - 1))) 118 16 (((tkP b n m (tkN b n m p) : Nat) : Int))) c s) rfl rfl rfl (hc0) ?_
    show Rn PT none kX12_readOn 24 [some (mR 118), some (mI (109)), some (mI (5)), none, none] [mI (0)] (mkh (m_set (m_set (m_upd (m_set μ 118 21 (1)) 118 Ha) 118 15 (eN b n m (tkN b n m p) (0) ((μ 121 0) - 1))) 118 16 (((tkP b n m (tkN b n m p) : Nat) : Int))) c s) _
    refine rn_if_ne (k' := 25) rfl rfl (fun hc3 => ?_) (fun hc3 => ?_)
    · exfalso; omega
    · skip
      refine rn_iconst (k' := 26) rfl rfl ?_
      refine rn_iret rfl (Or.inr (by omega)) ?_
      exact ⟨_, rfl, rfl, rfl, (MFr.s (MFr.s (MFr.u (MFr.s MFr.r (by decide)) hfa) (by decide)) (by decide))⟩
  · exfalso; omega
set_option maxHeartbeats 1000000 in
theorem m_thing0_x1 {μ : Nat → Nat → Int} {c s : Nat} {b : Nat → Int} {n m p : Nat} (hM : MSt μ b n m p) (hk : tkK b n m p = 1) (c8 : 0 ≤ μ 121 0 ∧ μ 121 0 ≤ 10) (c9 : 0 ≤ μ 121 1 ∧ μ 121 1 ≤ 10) (ccn : 0 ≤ μ 121 5 ∧ μ 121 5 ≤ 12) (hf12 : ¬ μ 121 5 = 12) (e0 : eN b n m (tkN b n m p) 0 (μ 121 0 - 1) = 0) (e1 : ¬ eN b n m (tkN b n m (tkN b n m p)) 0 (μ 121 1 - 1) = 0) : ∃ ν', (ν' 118 15 = eN b n m (tkN b n m (tkN b n m p)) 0 (μ 121 1 - 1) ∧ ν' 118 16 = ((tkP b n m (tkN b n m (tkN b n m p)) : Nat) : Int) ∧ MFr μ ν') ∧ Cl PT 188 [mR 118, mI 109, mI 5] (mkh μ c s) (fun r => r = (some (some (mI 0)), mkh ν' c s)) := by
  refine Cl.ex (g := fun ν' => (some (some (mI 0)), mkh ν' c s)) ?_
  refine ⟨_, PT_188, Nat.le_of_ble_eq_true rfl, ?_⟩
  show Rn PT none kX12_readOn 0 [some (mR 118), some (mI (109)), some (mI (5)), none, none] [] (mkh μ c s) _
  refine rn_aload_n (k' := 1) rfl rfl rfl ?_
  refine rn_getR (k' := 2) rfl rfl K0_118 (by decide) rfl R0_118_7 ?_
  refine rn_iload_n (k' := 3) rfl rfl rfl ?_
  refine rn_iaload (k' := 4) rfl rfl K0_121 (by omega) (by omega) ?_
  show Rn PT none kX12_readOn 4 [some (mR 118), some (mI (109)), some (mI (5)), none, none] [mI (μ 121 5)] (mkh μ c s) _
  refine rn_bipush (k' := 5) rfl rfl ?_
  refine rn_icmp_ne (k' := 6) rfl rfl (fun hc1 => ?_) (fun hc1 => ?_)
  · skip
    refine rn_aload_n (k' := 11) rfl rfl rfl ?_
    refine rn_iconst (k' := 12) rfl rfl ?_
    refine rn_putZ (k' := 13) rfl rfl K0_118 (by decide) rfl (by omega) ?_
    refine rn_aload_n (k' := 14) rfl rfl rfl ?_
    obtain ⟨Ha, ⟨hma, hfa_⟩, hca⟩ := g_next2 (μ := (m_set μ 118 21 (1))) (c := c) (s := s) (b := b) (n := n) (m := m) (p := p) hM (by omega)
    have hfa : FRt Ha _ := hfa_.t
    have hM0 : MSt (m_upd (m_set μ 118 21 (1)) 118 Ha) b n m (tkN b n m p) := ⟨hM.1, hM.2.1, hM.2.2.1, (tkN_b hM.2.2.2.1).2.1, hma⟩
    refine rn_callP (k' := 15) (y := 175) (vs := [mR 118]) (S' := []) (v := none) (h' := mkh (m_upd (m_set μ 118 21 (1)) 118 Ha) c s) rfl rfl rfl (hca) ?_
    show Rn PT none kX12_readOn 15 [some (mR 118), some (mI (109)), some (mI (5)), none, none] [] (mkh (m_upd (m_set μ 118 21 (1)) 118 Ha) c s) _
    refine rn_aload_n (k' := 16) rfl rfl rfl ?_
    refine rn_iconst (k' := 17) rfl rfl ?_
    refine rn_aload_n (k' := 18) rfl rfl rfl ?_
    refine rn_getR (k' := 19) rfl rfl K0_118 (by decide) rfl R0_118_7 ?_
    refine rn_iconst (k' := 20) rfl rfl ?_
    refine rn_iaload (k' := 21) rfl rfl K0_121 (by omega) (by omega) ?_
    show Rn PT none kX12_readOn 21 [some (mR 118), some (mI (109)), some (mI (5)), none, none] [mI (μ 121 0), mI (0), mR 118] (mkh (m_upd (m_set μ 118 21 (1)) 118 Ha) c s) _
    refine rn_iconst (k' := 22) rfl rfl ?_
    refine rn_isub (k' := 23) rfl rfl (by omega) ?_
    obtain ⟨H0, ⟨hm0, hv0, hf0⟩, hc0⟩ := g_takes (μ := (m_upd (m_set μ 118 21 (1)) 118 Ha)) (c := c) (s := s) (b := b) (n := n) (m := m) (p := (tkN b n m p)) (lo := 0) (hi := (μ 121 0) - 1) hM0 e0
    have hM1 : MSt (m_upd (m_upd (m_set μ 118 21 (1)) 118 Ha) 118 H0) b n m (tkN b n m (tkN b n m p)) := ⟨hM0.1, hM0.2.1, hM0.2.2.1, (tkN_b hM0.2.2.2.1).2.1, hm0⟩
    have kk0 := eN_ok e0
    refine rn_callP (k' := 24) (y := 181) (vs := [mR 118, mI (0), mI ((μ 121 0) - 1)]) (S' := []) (v := some (mI (1))) (h' := mkh (m_upd (m_upd (m_set μ 118 21 (1)) 118 Ha) 118 H0) c s) rfl rfl rfl (hc0) ?_
    show Rn PT none kX12_readOn 24 [some (mR 118), some (mI (109)), some (mI (5)), none, none] [mI (1)] (mkh (m_upd (m_upd (m_set μ 118 21 (1)) 118 Ha) 118 H0) c s) _
    refine rn_if_ne (k' := 25) rfl rfl (fun hc3 => ?_) (fun hc3 => ?_)
    · skip
      refine rn_aload_n (k' := 28) rfl rfl rfl ?_
      refine rn_getI (k' := 29) rfl rfl K0_118 (by decide) rfl ?_
      show Rn PT none kX12_readOn 29 [some (mR 118), some (mI (109)), some (mI (5)), none, none] [mI (H0 18)] (mkh (m_upd (m_upd (m_set μ 118 21 (1)) 118 Ha) 118 H0) c s) _
      refine rn_istore_n (k' := 30) (L' := [some (mR 118), some (mI (109)), some (mI (5)), some (mI (H0 18)), none]) rfl rfl (Nat.le_of_ble_eq_true rfl) rfl ?_
      obtain ⟨_, _, u12, u11, _, _, u14, _⟩ := hm0
      have tx := tk_num kk0.1
      by_cases k2 : tkK b n m (tkN b n m (tkN b n m p)) = 2
      · have hu : H0 11 = 2 := by rw [u11]; exact mkk_2.mpr k2
        have hu14 := u14 k2
        have tn := tk_num k2
        have hgt : μ 121 1 - 1 < tkV b n m (tkN b n m (tkN b n m p)) := Classical.byContradiction (fun z => e1 (eN_0 k2 (by omega)))
        refine rn_aload_n (k' := 31) rfl rfl rfl ?_
        refine rn_getI (k' := 32) rfl rfl K0_118 (by decide) rfl ?_
        show Rn PT none kX12_readOn 32 [some (mR 118), some (mI (109)), some (mI (5)), some (mI (H0 18)), none] [mI (H0 11)] (mkh (m_upd (m_upd (m_set μ 118 21 (1)) 118 Ha) 118 H0) c s) _
        refine rn_iconst (k' := 33) rfl rfl ?_
        refine rn_icmp_eq (k' := 34) rfl rfl (fun hc1 => ?_) (fun hc1 => ?_)
        · skip
          refine rn_aload_n (k' := 39) rfl rfl rfl ?_
          refine rn_getI (k' := 40) rfl rfl K0_118 (by decide) rfl ?_
          show Rn PT none kX12_readOn 40 [some (mR 118), some (mI (109)), some (mI (5)), some (mI (H0 18)), none] [mI (H0 14)] (mkh (m_upd (m_upd (m_set μ 118 21 (1)) 118 Ha) 118 H0) c s) _
          refine rn_aload_n (k' := 41) rfl rfl rfl ?_
          refine rn_getR (k' := 42) rfl rfl K0_118 (by decide) rfl R0_118_7 ?_
          refine rn_iconst (k' := 43) rfl rfl ?_
          refine rn_iaload (k' := 44) rfl rfl K0_121 (by omega) (by omega) ?_
          show Rn PT none kX12_readOn 44 [some (mR 118), some (mI (109)), some (mI (5)), some (mI (H0 18)), none] [mI (μ 121 1), mI (H0 14)] (mkh (m_upd (m_upd (m_set μ 118 21 (1)) 118 Ha) 118 H0) c s) _
          refine rn_icmp_lt (k' := 45) rfl rfl (fun hc2 => ?_) (fun hc2 => ?_)
          · exfalso; omega
          · skip
            refine rn_aload_n (k' := 46) rfl rfl rfl ?_
            refine rn_iconst (k' := 47) rfl rfl ?_
            refine rn_callP (k' := 48) (y := 176) (vs := [mR 118, mI (2)]) (S' := []) (v := some (mI (0))) (h' := mkh (m_set (m_set (m_upd (m_upd (m_set μ 118 21 (1)) 118 Ha) 118 H0) 118 15 (2)) 118 16 (H0 12)) c s) rfl rfl rfl (g_bad (μ := (m_upd (m_upd (m_set μ 118 21 (1)) 118 Ha) 118 H0)) (e := 2)) ?_
            show Rn PT none kX12_readOn 48 [some (mR 118), some (mI (109)), some (mI (5)), some (mI (H0 18)), none] [mI (0)] (mkh (m_set (m_set (m_upd (m_upd (m_set μ 118 21 (1)) 118 Ha) 118 H0) 118 15 (2)) 118 16 (H0 12)) c s) _
            refine rn_iret rfl (Or.inr (by omega)) ?_
            refine ⟨_, rfl, ?_, u12, (MFr.s (MFr.s (MFr.u (MFr.u (MFr.s MFr.r (by decide)) hfa) hf0) (by decide)) (by decide))⟩
            rw [eN_2 k2 (by omega)]; rfl
        · exfalso; omega
      · have hu : ¬ H0 11 = 2 := by rw [u11]; exact fun z => k2 (mkk_2.mp z)
        refine rn_aload_n (k' := 31) rfl rfl rfl ?_
        refine rn_getI (k' := 32) rfl rfl K0_118 (by decide) rfl ?_
        show Rn PT none kX12_readOn 32 [some (mR 118), some (mI (109)), some (mI (5)), some (mI (H0 18)), none] [mI (H0 11)] (mkh (m_upd (m_upd (m_set μ 118 21 (1)) 118 Ha) 118 H0) c s) _
        refine rn_iconst (k' := 33) rfl rfl ?_
        refine rn_icmp_eq (k' := 34) rfl rfl (fun hc1 => ?_) (fun hc1 => ?_)
        · exfalso; omega
        · skip
          refine rn_aload_n (k' := 35) rfl rfl rfl ?_
          refine rn_iconst (k' := 36) rfl rfl ?_
          refine rn_callP (k' := 37) (y := 176) (vs := [mR 118, mI (1)]) (S' := []) (v := some (mI (0))) (h' := mkh (m_set (m_set (m_upd (m_upd (m_set μ 118 21 (1)) 118 Ha) 118 H0) 118 15 (1)) 118 16 (H0 12)) c s) rfl rfl rfl (g_bad (μ := (m_upd (m_upd (m_set μ 118 21 (1)) 118 Ha) 118 H0)) (e := 1)) ?_
          show Rn PT none kX12_readOn 37 [some (mR 118), some (mI (109)), some (mI (5)), some (mI (H0 18)), none] [mI (0)] (mkh (m_set (m_set (m_upd (m_upd (m_set μ 118 21 (1)) 118 Ha) 118 H0) 118 15 (1)) 118 16 (H0 12)) c s) _
          refine rn_iret rfl (Or.inr (by omega)) ?_
          refine ⟨_, rfl, ?_, u12, (MFr.s (MFr.s (MFr.u (MFr.u (MFr.s MFr.r (by decide)) hfa) hf0) (by decide)) (by decide))⟩
          rw [eN_1 k2]; rfl
    · exfalso; omega
  · exfalso; omega
set_option maxHeartbeats 1000000 in
theorem m_thing0_had {μ : Nat → Nat → Int} {c s : Nat} {b : Nat → Int} {n m p : Nat} (hM : MSt μ b n m p) (hk : tkK b n m p = 1) (c8 : 0 ≤ μ 121 0 ∧ μ 121 0 ≤ 10) (c9 : 0 ≤ μ 121 1 ∧ μ 121 1 ≤ 10) (ccn : 0 ≤ μ 121 5 ∧ μ 121 5 ≤ 12) (hf12 : ¬ μ 121 5 = 12) (e0 : eN b n m (tkN b n m p) 0 (μ 121 0 - 1) = 0) (e1 : eN b n m (tkN b n m (tkN b n m p)) 0 (μ 121 1 - 1) = 0) {j0 : Nat} (hj : 10 * tkV b n m (tkN b n m (tkN b n m p)) + tkV b n m (tkN b n m p) = (j0 : Int)) (hd : 0 < μ 121 (109 + j0)) : ∃ ν', (ν' 118 15 = 3 ∧ ν' 118 16 = ((tkP b n m (tkN b n m (tkN b n m p)) : Nat) : Int) ∧ MFr μ ν') ∧ Cl PT 188 [mR 118, mI 109, mI 5] (mkh μ c s) (fun r => r = (some (some (mI 0)), mkh ν' c s)) := by
  refine Cl.ex (g := fun ν' => (some (some (mI 0)), mkh ν' c s)) ?_
  refine ⟨_, PT_188, Nat.le_of_ble_eq_true rfl, ?_⟩
  show Rn PT none kX12_readOn 0 [some (mR 118), some (mI (109)), some (mI (5)), none, none] [] (mkh μ c s) _
  refine rn_aload_n (k' := 1) rfl rfl rfl ?_
  refine rn_getR (k' := 2) rfl rfl K0_118 (by decide) rfl R0_118_7 ?_
  refine rn_iload_n (k' := 3) rfl rfl rfl ?_
  refine rn_iaload (k' := 4) rfl rfl K0_121 (by omega) (by omega) ?_
  show Rn PT none kX12_readOn 4 [some (mR 118), some (mI (109)), some (mI (5)), none, none] [mI (μ 121 5)] (mkh μ c s) _
  refine rn_bipush (k' := 5) rfl rfl ?_
  refine rn_icmp_ne (k' := 6) rfl rfl (fun hc1 => ?_) (fun hc1 => ?_)
  · skip
    refine rn_aload_n (k' := 11) rfl rfl rfl ?_
    refine rn_iconst (k' := 12) rfl rfl ?_
    refine rn_putZ (k' := 13) rfl rfl K0_118 (by decide) rfl (by omega) ?_
    refine rn_aload_n (k' := 14) rfl rfl rfl ?_
    obtain ⟨Ha, ⟨hma, hfa_⟩, hca⟩ := g_next2 (μ := (m_set μ 118 21 (1))) (c := c) (s := s) (b := b) (n := n) (m := m) (p := p) hM (by omega)
    have hfa : FRt Ha _ := hfa_.t
    have hM0 : MSt (m_upd (m_set μ 118 21 (1)) 118 Ha) b n m (tkN b n m p) := ⟨hM.1, hM.2.1, hM.2.2.1, (tkN_b hM.2.2.2.1).2.1, hma⟩
    refine rn_callP (k' := 15) (y := 175) (vs := [mR 118]) (S' := []) (v := none) (h' := mkh (m_upd (m_set μ 118 21 (1)) 118 Ha) c s) rfl rfl rfl (hca) ?_
    show Rn PT none kX12_readOn 15 [some (mR 118), some (mI (109)), some (mI (5)), none, none] [] (mkh (m_upd (m_set μ 118 21 (1)) 118 Ha) c s) _
    refine rn_aload_n (k' := 16) rfl rfl rfl ?_
    refine rn_iconst (k' := 17) rfl rfl ?_
    refine rn_aload_n (k' := 18) rfl rfl rfl ?_
    refine rn_getR (k' := 19) rfl rfl K0_118 (by decide) rfl R0_118_7 ?_
    refine rn_iconst (k' := 20) rfl rfl ?_
    refine rn_iaload (k' := 21) rfl rfl K0_121 (by omega) (by omega) ?_
    show Rn PT none kX12_readOn 21 [some (mR 118), some (mI (109)), some (mI (5)), none, none] [mI (μ 121 0), mI (0), mR 118] (mkh (m_upd (m_set μ 118 21 (1)) 118 Ha) c s) _
    refine rn_iconst (k' := 22) rfl rfl ?_
    refine rn_isub (k' := 23) rfl rfl (by omega) ?_
    obtain ⟨H0, ⟨hm0, hv0, hf0⟩, hc0⟩ := g_takes (μ := (m_upd (m_set μ 118 21 (1)) 118 Ha)) (c := c) (s := s) (b := b) (n := n) (m := m) (p := (tkN b n m p)) (lo := 0) (hi := (μ 121 0) - 1) hM0 e0
    have hM1 : MSt (m_upd (m_upd (m_set μ 118 21 (1)) 118 Ha) 118 H0) b n m (tkN b n m (tkN b n m p)) := ⟨hM0.1, hM0.2.1, hM0.2.2.1, (tkN_b hM0.2.2.2.1).2.1, hm0⟩
    have kk0 := eN_ok e0
    refine rn_callP (k' := 24) (y := 181) (vs := [mR 118, mI (0), mI ((μ 121 0) - 1)]) (S' := []) (v := some (mI (1))) (h' := mkh (m_upd (m_upd (m_set μ 118 21 (1)) 118 Ha) 118 H0) c s) rfl rfl rfl (hc0) ?_
    show Rn PT none kX12_readOn 24 [some (mR 118), some (mI (109)), some (mI (5)), none, none] [mI (1)] (mkh (m_upd (m_upd (m_set μ 118 21 (1)) 118 Ha) 118 H0) c s) _
    refine rn_if_ne (k' := 25) rfl rfl (fun hc3 => ?_) (fun hc3 => ?_)
    · skip
      refine rn_aload_n (k' := 28) rfl rfl rfl ?_
      refine rn_getI (k' := 29) rfl rfl K0_118 (by decide) rfl ?_
      show Rn PT none kX12_readOn 29 [some (mR 118), some (mI (109)), some (mI (5)), none, none] [mI (H0 18)] (mkh (m_upd (m_upd (m_set μ 118 21 (1)) 118 Ha) 118 H0) c s) _
      refine rn_istore_n (k' := 30) (L' := [some (mR 118), some (mI (109)), some (mI (5)), some (mI (H0 18)), none]) rfl rfl (Nat.le_of_ble_eq_true rfl) rfl ?_
      obtain ⟨_, _, u12, u11, _, _, u14, _⟩ := hm0
      have tx := tk_num kk0.1
      obtain ⟨k2, k3, k4⟩ := eN_ok e1
      have hu : H0 11 = 2 := by rw [u11]; exact mkk_2.mpr k2
      have hu14 := u14 k2
      have tn := tk_num k2
      have hi0 : (109 + (10 * H0 14 + H0 18)).toNat = 109 + j0 := by omega
      have hr0 : μ 121 (109 + (10 * H0 14 + H0 18)).toNat = μ 121 (109 + j0) := by rw [hi0]
      refine rn_aload_n (k' := 31) rfl rfl rfl ?_
      refine rn_getI (k' := 32) rfl rfl K0_118 (by decide) rfl ?_
      show Rn PT none kX12_readOn 32 [some (mR 118), some (mI (109)), some (mI (5)), some (mI (H0 18)), none] [mI (H0 11)] (mkh (m_upd (m_upd (m_set μ 118 21 (1)) 118 Ha) 118 H0) c s) _
      refine rn_iconst (k' := 33) rfl rfl ?_
      refine rn_icmp_eq (k' := 34) rfl rfl (fun hc1 => ?_) (fun hc1 => ?_)
      · skip
        refine rn_aload_n (k' := 39) rfl rfl rfl ?_
        refine rn_getI (k' := 40) rfl rfl K0_118 (by decide) rfl ?_
        show Rn PT none kX12_readOn 40 [some (mR 118), some (mI (109)), some (mI (5)), some (mI (H0 18)), none] [mI (H0 14)] (mkh (m_upd (m_upd (m_set μ 118 21 (1)) 118 Ha) 118 H0) c s) _
        refine rn_aload_n (k' := 41) rfl rfl rfl ?_
        refine rn_getR (k' := 42) rfl rfl K0_118 (by decide) rfl R0_118_7 ?_
        refine rn_iconst (k' := 43) rfl rfl ?_
        refine rn_iaload (k' := 44) rfl rfl K0_121 (by omega) (by omega) ?_
        show Rn PT none kX12_readOn 44 [some (mR 118), some (mI (109)), some (mI (5)), some (mI (H0 18)), none] [mI (μ 121 1), mI (H0 14)] (mkh (m_upd (m_upd (m_set μ 118 21 (1)) 118 Ha) 118 H0) c s) _
        refine rn_icmp_lt (k' := 45) rfl rfl (fun hc2 => ?_) (fun hc2 => ?_)
        · skip
          refine rn_bipush (k' := 50) rfl rfl ?_
          refine rn_aload_n (k' := 51) rfl rfl rfl ?_
          refine rn_getI (k' := 52) rfl rfl K0_118 (by decide) rfl ?_
          show Rn PT none kX12_readOn 52 [some (mR 118), some (mI (109)), some (mI (5)), some (mI (H0 18)), none] [mI (H0 14), mI (10)] (mkh (m_upd (m_upd (m_set μ 118 21 (1)) 118 Ha) 118 H0) c s) _
          refine rn_imul (k' := 53) rfl rfl (by omega) ?_
          refine rn_iload_n (k' := 54) rfl rfl rfl ?_
          refine rn_iadd (k' := 55) rfl rfl (by omega) ?_
          refine rn_istore (k' := 56) (L' := [some (mR 118), some (mI (109)), some (mI (5)), some (mI (H0 18)), some (mI ((10 * (H0 14)) + (H0 18)))]) rfl rfl (Nat.le_of_ble_eq_true rfl) rfl ?_
          refine rn_aload_n (k' := 57) rfl rfl rfl ?_
          refine rn_getR (k' := 58) rfl rfl K0_118 (by decide) rfl R0_118_7 ?_
          refine rn_iload_n (k' := 59) rfl rfl rfl ?_
          refine rn_iload (k' := 60) rfl rfl rfl ?_
          refine rn_iadd (k' := 61) rfl rfl (by omega) ?_
          refine rn_iaload (k' := 62) rfl rfl K0_121 (by omega) (by omega) ?_
          show Rn PT none kX12_readOn 62 [some (mR 118), some (mI (109)), some (mI (5)), some (mI (H0 18)), some (mI ((10 * (H0 14)) + (H0 18)))] [mI (μ 121 ((109 + ((10 * (H0 14)) + (H0 18))).toNat))] (mkh (m_upd (m_upd (m_set μ 118 21 (1)) 118 Ha) 118 H0) c s) _
          rw [hr0]
          refine rn_if_le (k' := 63) rfl rfl (fun hc3 => ?_) (fun hc3 => ?_)
          · exfalso; omega
          · skip
            refine rn_aload_n (k' := 64) rfl rfl rfl ?_
            refine rn_iconst (k' := 65) rfl rfl ?_
            refine rn_callP (k' := 66) (y := 176) (vs := [mR 118, mI (3)]) (S' := []) (v := some (mI (0))) (h' := mkh (m_set (m_set (m_upd (m_upd (m_set μ 118 21 (1)) 118 Ha) 118 H0) 118 15 (3)) 118 16 (H0 12)) c s) rfl rfl rfl (g_bad (μ := (m_upd (m_upd (m_set μ 118 21 (1)) 118 Ha) 118 H0)) (e := 3)) ?_
            show Rn PT none kX12_readOn 66 [some (mR 118), some (mI (109)), some (mI (5)), some (mI (H0 18)), some (mI ((10 * (H0 14)) + (H0 18)))] [mI (0)] (mkh (m_set (m_set (m_upd (m_upd (m_set μ 118 21 (1)) 118 Ha) 118 H0) 118 15 (3)) 118 16 (H0 12)) c s) _
            refine rn_iret rfl (Or.inr (by omega)) ?_
            exact ⟨_, rfl, rfl, u12, (MFr.s (MFr.s (MFr.u (MFr.u (MFr.s MFr.r (by decide)) hfa) hf0) (by decide)) (by decide))⟩
        · exfalso; omega
      · exfalso; omega
    · exfalso; omega
  · exfalso; omega
set_option maxHeartbeats 1000000 in
theorem m_thing0_x2 {μ : Nat → Nat → Int} {c s : Nat} {b : Nat → Int} {n m p : Nat} (hM : MSt μ b n m p) (hk : tkK b n m p = 1) (c8 : 0 ≤ μ 121 0 ∧ μ 121 0 ≤ 10) (c9 : 0 ≤ μ 121 1 ∧ μ 121 1 ≤ 10) (ccn : 0 ≤ μ 121 5 ∧ μ 121 5 ≤ 12) (hf12 : ¬ μ 121 5 = 12) (e0 : eN b n m (tkN b n m p) 0 (μ 121 0 - 1) = 0) (e1 : eN b n m (tkN b n m (tkN b n m p)) 0 (μ 121 1 - 1) = 0) {j0 : Nat} (hj : 10 * tkV b n m (tkN b n m (tkN b n m p)) + tkV b n m (tkN b n m p) = (j0 : Int)) (hd : ¬ 0 < μ 121 (109 + j0)) (e2 : ¬ eN b n m (tkN b n m (tkN b n m (tkN b n m p))) 0 99 = 0) : ∃ ν', (ν' 118 15 = eN b n m (tkN b n m (tkN b n m (tkN b n m p))) 0 99 ∧ ν' 118 16 = ((tkP b n m (tkN b n m (tkN b n m (tkN b n m p))) : Nat) : Int) ∧ MFr μ ν') ∧ Cl PT 188 [mR 118, mI 109, mI 5] (mkh μ c s) (fun r => r = (some (some (mI 0)), mkh ν' c s)) := by
  refine Cl.ex (g := fun ν' => (some (some (mI 0)), mkh ν' c s)) ?_
  refine ⟨_, PT_188, Nat.le_of_ble_eq_true rfl, ?_⟩
  show Rn PT none kX12_readOn 0 [some (mR 118), some (mI (109)), some (mI (5)), none, none] [] (mkh μ c s) _
  refine rn_aload_n (k' := 1) rfl rfl rfl ?_
  refine rn_getR (k' := 2) rfl rfl K0_118 (by decide) rfl R0_118_7 ?_
  refine rn_iload_n (k' := 3) rfl rfl rfl ?_
  refine rn_iaload (k' := 4) rfl rfl K0_121 (by omega) (by omega) ?_
  show Rn PT none kX12_readOn 4 [some (mR 118), some (mI (109)), some (mI (5)), none, none] [mI (μ 121 5)] (mkh μ c s) _
  refine rn_bipush (k' := 5) rfl rfl ?_
  refine rn_icmp_ne (k' := 6) rfl rfl (fun hc1 => ?_) (fun hc1 => ?_)
  · skip
    refine rn_aload_n (k' := 11) rfl rfl rfl ?_
    refine rn_iconst (k' := 12) rfl rfl ?_
    refine rn_putZ (k' := 13) rfl rfl K0_118 (by decide) rfl (by omega) ?_
    refine rn_aload_n (k' := 14) rfl rfl rfl ?_
    obtain ⟨Ha, ⟨hma, hfa_⟩, hca⟩ := g_next2 (μ := (m_set μ 118 21 (1))) (c := c) (s := s) (b := b) (n := n) (m := m) (p := p) hM (by omega)
    have hfa : FRt Ha _ := hfa_.t
    have hM0 : MSt (m_upd (m_set μ 118 21 (1)) 118 Ha) b n m (tkN b n m p) := ⟨hM.1, hM.2.1, hM.2.2.1, (tkN_b hM.2.2.2.1).2.1, hma⟩
    refine rn_callP (k' := 15) (y := 175) (vs := [mR 118]) (S' := []) (v := none) (h' := mkh (m_upd (m_set μ 118 21 (1)) 118 Ha) c s) rfl rfl rfl (hca) ?_
    show Rn PT none kX12_readOn 15 [some (mR 118), some (mI (109)), some (mI (5)), none, none] [] (mkh (m_upd (m_set μ 118 21 (1)) 118 Ha) c s) _
    refine rn_aload_n (k' := 16) rfl rfl rfl ?_
    refine rn_iconst (k' := 17) rfl rfl ?_
    refine rn_aload_n (k' := 18) rfl rfl rfl ?_
    refine rn_getR (k' := 19) rfl rfl K0_118 (by decide) rfl R0_118_7 ?_
    refine rn_iconst (k' := 20) rfl rfl ?_
    refine rn_iaload (k' := 21) rfl rfl K0_121 (by omega) (by omega) ?_
    show Rn PT none kX12_readOn 21 [some (mR 118), some (mI (109)), some (mI (5)), none, none] [mI (μ 121 0), mI (0), mR 118] (mkh (m_upd (m_set μ 118 21 (1)) 118 Ha) c s) _
    refine rn_iconst (k' := 22) rfl rfl ?_
    refine rn_isub (k' := 23) rfl rfl (by omega) ?_
    obtain ⟨H0, ⟨hm0, hv0, hf0⟩, hc0⟩ := g_takes (μ := (m_upd (m_set μ 118 21 (1)) 118 Ha)) (c := c) (s := s) (b := b) (n := n) (m := m) (p := (tkN b n m p)) (lo := 0) (hi := (μ 121 0) - 1) hM0 e0
    have hM1 : MSt (m_upd (m_upd (m_set μ 118 21 (1)) 118 Ha) 118 H0) b n m (tkN b n m (tkN b n m p)) := ⟨hM0.1, hM0.2.1, hM0.2.2.1, (tkN_b hM0.2.2.2.1).2.1, hm0⟩
    have kk0 := eN_ok e0
    refine rn_callP (k' := 24) (y := 181) (vs := [mR 118, mI (0), mI ((μ 121 0) - 1)]) (S' := []) (v := some (mI (1))) (h' := mkh (m_upd (m_upd (m_set μ 118 21 (1)) 118 Ha) 118 H0) c s) rfl rfl rfl (hc0) ?_
    show Rn PT none kX12_readOn 24 [some (mR 118), some (mI (109)), some (mI (5)), none, none] [mI (1)] (mkh (m_upd (m_upd (m_set μ 118 21 (1)) 118 Ha) 118 H0) c s) _
    refine rn_if_ne (k' := 25) rfl rfl (fun hc3 => ?_) (fun hc3 => ?_)
    · skip
      refine rn_aload_n (k' := 28) rfl rfl rfl ?_
      refine rn_getI (k' := 29) rfl rfl K0_118 (by decide) rfl ?_
      show Rn PT none kX12_readOn 29 [some (mR 118), some (mI (109)), some (mI (5)), none, none] [mI (H0 18)] (mkh (m_upd (m_upd (m_set μ 118 21 (1)) 118 Ha) 118 H0) c s) _
      refine rn_istore_n (k' := 30) (L' := [some (mR 118), some (mI (109)), some (mI (5)), some (mI (H0 18)), none]) rfl rfl (Nat.le_of_ble_eq_true rfl) rfl ?_
      obtain ⟨_, _, u12, u11, _, _, u14, _⟩ := hm0
      have tx := tk_num kk0.1
      obtain ⟨k2, k3, k4⟩ := eN_ok e1
      have hu : H0 11 = 2 := by rw [u11]; exact mkk_2.mpr k2
      have hu14 := u14 k2
      have tn := tk_num k2
      have hi0 : (109 + (10 * H0 14 + H0 18)).toNat = 109 + j0 := by omega
      have hr0 : μ 121 (109 + (10 * H0 14 + H0 18)).toNat = μ 121 (109 + j0) := by rw [hi0]
      refine rn_aload_n (k' := 31) rfl rfl rfl ?_
      refine rn_getI (k' := 32) rfl rfl K0_118 (by decide) rfl ?_
      show Rn PT none kX12_readOn 32 [some (mR 118), some (mI (109)), some (mI (5)), some (mI (H0 18)), none] [mI (H0 11)] (mkh (m_upd (m_upd (m_set μ 118 21 (1)) 118 Ha) 118 H0) c s) _
      refine rn_iconst (k' := 33) rfl rfl ?_
      refine rn_icmp_eq (k' := 34) rfl rfl (fun hc1 => ?_) (fun hc1 => ?_)
      · skip
        refine rn_aload_n (k' := 39) rfl rfl rfl ?_
        refine rn_getI (k' := 40) rfl rfl K0_118 (by decide) rfl ?_
        show Rn PT none kX12_readOn 40 [some (mR 118), some (mI (109)), some (mI (5)), some (mI (H0 18)), none] [mI (H0 14)] (mkh (m_upd (m_upd (m_set μ 118 21 (1)) 118 Ha) 118 H0) c s) _
        refine rn_aload_n (k' := 41) rfl rfl rfl ?_
        refine rn_getR (k' := 42) rfl rfl K0_118 (by decide) rfl R0_118_7 ?_
        refine rn_iconst (k' := 43) rfl rfl ?_
        refine rn_iaload (k' := 44) rfl rfl K0_121 (by omega) (by omega) ?_
        show Rn PT none kX12_readOn 44 [some (mR 118), some (mI (109)), some (mI (5)), some (mI (H0 18)), none] [mI (μ 121 1), mI (H0 14)] (mkh (m_upd (m_upd (m_set μ 118 21 (1)) 118 Ha) 118 H0) c s) _
        refine rn_icmp_lt (k' := 45) rfl rfl (fun hc2 => ?_) (fun hc2 => ?_)
        · skip
          refine rn_bipush (k' := 50) rfl rfl ?_
          refine rn_aload_n (k' := 51) rfl rfl rfl ?_
          refine rn_getI (k' := 52) rfl rfl K0_118 (by decide) rfl ?_
          show Rn PT none kX12_readOn 52 [some (mR 118), some (mI (109)), some (mI (5)), some (mI (H0 18)), none] [mI (H0 14), mI (10)] (mkh (m_upd (m_upd (m_set μ 118 21 (1)) 118 Ha) 118 H0) c s) _
          refine rn_imul (k' := 53) rfl rfl (by omega) ?_
          refine rn_iload_n (k' := 54) rfl rfl rfl ?_
          refine rn_iadd (k' := 55) rfl rfl (by omega) ?_
          refine rn_istore (k' := 56) (L' := [some (mR 118), some (mI (109)), some (mI (5)), some (mI (H0 18)), some (mI ((10 * (H0 14)) + (H0 18)))]) rfl rfl (Nat.le_of_ble_eq_true rfl) rfl ?_
          refine rn_aload_n (k' := 57) rfl rfl rfl ?_
          refine rn_getR (k' := 58) rfl rfl K0_118 (by decide) rfl R0_118_7 ?_
          refine rn_iload_n (k' := 59) rfl rfl rfl ?_
          refine rn_iload (k' := 60) rfl rfl rfl ?_
          refine rn_iadd (k' := 61) rfl rfl (by omega) ?_
          refine rn_iaload (k' := 62) rfl rfl K0_121 (by omega) (by omega) ?_
          show Rn PT none kX12_readOn 62 [some (mR 118), some (mI (109)), some (mI (5)), some (mI (H0 18)), some (mI ((10 * (H0 14)) + (H0 18)))] [mI (μ 121 ((109 + ((10 * (H0 14)) + (H0 18))).toNat))] (mkh (m_upd (m_upd (m_set μ 118 21 (1)) 118 Ha) 118 H0) c s) _
          rw [hr0]
          refine rn_if_le (k' := 63) rfl rfl (fun hc3 => ?_) (fun hc3 => ?_)
          · skip
            refine rn_aload_n (k' := 68) rfl rfl rfl ?_
            obtain ⟨Hb, ⟨hmb, hfb_⟩, hcb⟩ := g_next2 (μ := (m_upd (m_upd (m_set μ 118 21 (1)) 118 Ha) 118 H0)) (c := c) (s := s) (b := b) (n := n) (m := m) (p := (tkN b n m (tkN b n m p))) hM1 (by omega)
            have hfb : FRt Hb _ := hfb_.t
            have hM2 : MSt (m_upd (m_upd (m_upd (m_set μ 118 21 (1)) 118 Ha) 118 H0) 118 Hb) b n m (tkN b n m (tkN b n m (tkN b n m p))) := ⟨hM1.1, hM1.2.1, hM1.2.2.1, (tkN_b hM1.2.2.2.1).2.1, hmb⟩
            refine rn_callP (k' := 69) (y := 175) (vs := [mR 118]) (S' := []) (v := none) (h' := mkh (m_upd (m_upd (m_upd (m_set μ 118 21 (1)) 118 Ha) 118 H0) 118 Hb) c s) rfl rfl rfl (hcb) ?_
            show Rn PT none kX12_readOn 69 [some (mR 118), some (mI (109)), some (mI (5)), some (mI (H0 18)), some (mI ((10 * (H0 14)) + (H0 18)))] [] (mkh (m_upd (m_upd (m_upd (m_set μ 118 21 (1)) 118 Ha) 118 H0) 118 Hb) c s) _
            refine rn_aload_n (k' := 70) rfl rfl rfl ?_
            refine rn_iconst (k' := 71) rfl rfl ?_
            refine rn_putI (k' := 72) rfl rfl K0_118 (by decide) rfl ?_
            refine rn_iload_n (k' := 73) rfl rfl rfl ?_
            refine rn_sipush (k' := 74) rfl rfl ?_
            refine rn_icmp_eq (k' := 75) rfl rfl (fun hc5 => ?_) (fun hc5 => ?_)
            · exfalso; omega
            · skip
              refine rn_aload_n (k' := 76) rfl rfl rfl ?_
              refine rn_iconst (k' := 77) rfl rfl ?_
              refine rn_bipush (k' := 78) rfl rfl ?_
              have hc2 := g_takesX (μ := (m_set (m_upd (m_upd (m_upd (m_set μ 118 21 (1)) 118 Ha) 118 H0) 118 Hb) 118 18 (0))) (c := c) (s := s) (b := b) (n := n) (m := m) (p := (tkN b n m (tkN b n m (tkN b n m p)))) (lo := 0) (hi := 99) hM2 e2
              refine rn_callP (k' := 79) (y := 181) (vs := [mR 118, mI (0), mI (99)]) (S' := []) (v := some (mI (0))) (h' := mkh (m_set (m_set (m_set (m_upd (m_upd (m_upd (m_set μ 118 21 (1)) 118 Ha) 118 H0) 118 Hb) 118 18 (0)) 118 15 (eN b n m (tkN b n m (tkN b n m (tkN b n m p))) (0) (99))) 118 16 (((tkP b n m (tkN b n m (tkN b n m (tkN b n m p))) : Nat) : Int))) c s) rfl rfl rfl (hc2) ?_
              show Rn PT none kX12_readOn 79 [some (mR 118), some (mI (109)), some (mI (5)), some (mI (H0 18)), some (mI ((10 * (H0 14)) + (H0 18)))] [mI (0)] (mkh (m_set (m_set (m_set (m_upd (m_upd (m_upd (m_set μ 118 21 (1)) 118 Ha) 118 H0) 118 Hb) 118 18 (0)) 118 15 (eN b n m (tkN b n m (tkN b n m (tkN b n m p))) (0) (99))) 118 16 (((tkP b n m (tkN b n m (tkN b n m (tkN b n m p))) : Nat) : Int))) c s) _
              refine rn_if_ne (k' := 80) rfl rfl (fun hc6 => ?_) (fun hc6 => ?_)
              · exfalso; omega
              · skip
                refine rn_iconst (k' := 81) rfl rfl ?_
                refine rn_iret rfl (Or.inr (by omega)) ?_
                exact ⟨_, rfl, rfl, rfl, (MFr.s (MFr.s (MFr.s (MFr.u (MFr.u (MFr.u (MFr.s MFr.r (by decide)) hfa) hf0) hfb) (by decide)) (by decide)) (by decide))⟩
          · exfalso; omega
        · exfalso; omega
      · exfalso; omega
    · exfalso; omega
  · exfalso; omega
set_option maxHeartbeats 1000000 in
theorem m_thing0_ok {μ : Nat → Nat → Int} {c s : Nat} {b : Nat → Int} {n m p : Nat} (hM : MSt μ b n m p) (hk : tkK b n m p = 1) (c8 : 0 ≤ μ 121 0 ∧ μ 121 0 ≤ 10) (c9 : 0 ≤ μ 121 1 ∧ μ 121 1 ≤ 10) (ccn : 0 ≤ μ 121 5 ∧ μ 121 5 ≤ 12) (hf12 : ¬ μ 121 5 = 12) (e0 : eN b n m (tkN b n m p) 0 (μ 121 0 - 1) = 0) (e1 : eN b n m (tkN b n m (tkN b n m p)) 0 (μ 121 1 - 1) = 0) {j0 : Nat} (hj : 10 * tkV b n m (tkN b n m (tkN b n m p)) + tkV b n m (tkN b n m p) = (j0 : Int)) (hd : ¬ 0 < μ 121 (109 + j0)) (e2 : eN b n m (tkN b n m (tkN b n m (tkN b n m p))) 0 99 = 0) : ∃ ν', (MSt ν' b n m (tkN b n m (tkN b n m (tkN b n m (tkN b n m p)))) ∧ MFo μ ν' ∧ ν' 118 20 = μ 118 20 ∧ ν' 118 21 = 1 ∧ ν' 121 (109 + j0) = tkV b n m (tkN b n m (tkN b n m (tkN b n m p))) + 1 ∧ ν' 121 5 = μ 121 5 + 1 ∧ (∀ j, ¬ j = (109 + j0) → ¬ j = 5 → ν' 121 j = μ 121 j) ∧ ν' 123 = μ 123) ∧ Cl PT 188 [mR 118, mI 109, mI 5] (mkh μ c s) (fun r => r = (some (some (mI 1)), mkh ν' c s)) := by
  refine Cl.ex (g := fun ν' => (some (some (mI 1)), mkh ν' c s)) ?_
  refine ⟨_, PT_188, Nat.le_of_ble_eq_true rfl, ?_⟩
  show Rn PT none kX12_readOn 0 [some (mR 118), some (mI (109)), some (mI (5)), none, none] [] (mkh μ c s) _
  refine rn_aload_n (k' := 1) rfl rfl rfl ?_
  refine rn_getR (k' := 2) rfl rfl K0_118 (by decide) rfl R0_118_7 ?_
  refine rn_iload_n (k' := 3) rfl rfl rfl ?_
  refine rn_iaload (k' := 4) rfl rfl K0_121 (by omega) (by omega) ?_
  show Rn PT none kX12_readOn 4 [some (mR 118), some (mI (109)), some (mI (5)), none, none] [mI (μ 121 5)] (mkh μ c s) _
  refine rn_bipush (k' := 5) rfl rfl ?_
  refine rn_icmp_ne (k' := 6) rfl rfl (fun hc1 => ?_) (fun hc1 => ?_)
  · skip
    refine rn_aload_n (k' := 11) rfl rfl rfl ?_
    refine rn_iconst (k' := 12) rfl rfl ?_
    refine rn_putZ (k' := 13) rfl rfl K0_118 (by decide) rfl (by omega) ?_
    refine rn_aload_n (k' := 14) rfl rfl rfl ?_
    obtain ⟨Ha, ⟨hma, hfa_⟩, hca⟩ := g_next2 (μ := (m_set μ 118 21 (1))) (c := c) (s := s) (b := b) (n := n) (m := m) (p := p) hM (by omega)
    have hfa : FRt Ha _ := hfa_.t
    have hM0 : MSt (m_upd (m_set μ 118 21 (1)) 118 Ha) b n m (tkN b n m p) := ⟨hM.1, hM.2.1, hM.2.2.1, (tkN_b hM.2.2.2.1).2.1, hma⟩
    refine rn_callP (k' := 15) (y := 175) (vs := [mR 118]) (S' := []) (v := none) (h' := mkh (m_upd (m_set μ 118 21 (1)) 118 Ha) c s) rfl rfl rfl (hca) ?_
    show Rn PT none kX12_readOn 15 [some (mR 118), some (mI (109)), some (mI (5)), none, none] [] (mkh (m_upd (m_set μ 118 21 (1)) 118 Ha) c s) _
    refine rn_aload_n (k' := 16) rfl rfl rfl ?_
    refine rn_iconst (k' := 17) rfl rfl ?_
    refine rn_aload_n (k' := 18) rfl rfl rfl ?_
    refine rn_getR (k' := 19) rfl rfl K0_118 (by decide) rfl R0_118_7 ?_
    refine rn_iconst (k' := 20) rfl rfl ?_
    refine rn_iaload (k' := 21) rfl rfl K0_121 (by omega) (by omega) ?_
    show Rn PT none kX12_readOn 21 [some (mR 118), some (mI (109)), some (mI (5)), none, none] [mI (μ 121 0), mI (0), mR 118] (mkh (m_upd (m_set μ 118 21 (1)) 118 Ha) c s) _
    refine rn_iconst (k' := 22) rfl rfl ?_
    refine rn_isub (k' := 23) rfl rfl (by omega) ?_
    obtain ⟨H0, ⟨hm0, hv0, hf0⟩, hc0⟩ := g_takes (μ := (m_upd (m_set μ 118 21 (1)) 118 Ha)) (c := c) (s := s) (b := b) (n := n) (m := m) (p := (tkN b n m p)) (lo := 0) (hi := (μ 121 0) - 1) hM0 e0
    have hM1 : MSt (m_upd (m_upd (m_set μ 118 21 (1)) 118 Ha) 118 H0) b n m (tkN b n m (tkN b n m p)) := ⟨hM0.1, hM0.2.1, hM0.2.2.1, (tkN_b hM0.2.2.2.1).2.1, hm0⟩
    have kk0 := eN_ok e0
    refine rn_callP (k' := 24) (y := 181) (vs := [mR 118, mI (0), mI ((μ 121 0) - 1)]) (S' := []) (v := some (mI (1))) (h' := mkh (m_upd (m_upd (m_set μ 118 21 (1)) 118 Ha) 118 H0) c s) rfl rfl rfl (hc0) ?_
    show Rn PT none kX12_readOn 24 [some (mR 118), some (mI (109)), some (mI (5)), none, none] [mI (1)] (mkh (m_upd (m_upd (m_set μ 118 21 (1)) 118 Ha) 118 H0) c s) _
    refine rn_if_ne (k' := 25) rfl rfl (fun hc3 => ?_) (fun hc3 => ?_)
    · skip
      refine rn_aload_n (k' := 28) rfl rfl rfl ?_
      refine rn_getI (k' := 29) rfl rfl K0_118 (by decide) rfl ?_
      show Rn PT none kX12_readOn 29 [some (mR 118), some (mI (109)), some (mI (5)), none, none] [mI (H0 18)] (mkh (m_upd (m_upd (m_set μ 118 21 (1)) 118 Ha) 118 H0) c s) _
      refine rn_istore_n (k' := 30) (L' := [some (mR 118), some (mI (109)), some (mI (5)), some (mI (H0 18)), none]) rfl rfl (Nat.le_of_ble_eq_true rfl) rfl ?_
      obtain ⟨_, _, u12, u11, _, _, u14, _⟩ := hm0
      have tx := tk_num kk0.1
      obtain ⟨k2, k3, k4⟩ := eN_ok e1
      have hu : H0 11 = 2 := by rw [u11]; exact mkk_2.mpr k2
      have hu14 := u14 k2
      have tn := tk_num k2
      have hi0 : (109 + (10 * H0 14 + H0 18)).toNat = 109 + j0 := by omega
      have hr0 : μ 121 (109 + (10 * H0 14 + H0 18)).toNat = μ 121 (109 + j0) := by rw [hi0]
      refine rn_aload_n (k' := 31) rfl rfl rfl ?_
      refine rn_getI (k' := 32) rfl rfl K0_118 (by decide) rfl ?_
      show Rn PT none kX12_readOn 32 [some (mR 118), some (mI (109)), some (mI (5)), some (mI (H0 18)), none] [mI (H0 11)] (mkh (m_upd (m_upd (m_set μ 118 21 (1)) 118 Ha) 118 H0) c s) _
      refine rn_iconst (k' := 33) rfl rfl ?_
      refine rn_icmp_eq (k' := 34) rfl rfl (fun hc1 => ?_) (fun hc1 => ?_)
      · skip
        refine rn_aload_n (k' := 39) rfl rfl rfl ?_
        refine rn_getI (k' := 40) rfl rfl K0_118 (by decide) rfl ?_
        show Rn PT none kX12_readOn 40 [some (mR 118), some (mI (109)), some (mI (5)), some (mI (H0 18)), none] [mI (H0 14)] (mkh (m_upd (m_upd (m_set μ 118 21 (1)) 118 Ha) 118 H0) c s) _
        refine rn_aload_n (k' := 41) rfl rfl rfl ?_
        refine rn_getR (k' := 42) rfl rfl K0_118 (by decide) rfl R0_118_7 ?_
        refine rn_iconst (k' := 43) rfl rfl ?_
        refine rn_iaload (k' := 44) rfl rfl K0_121 (by omega) (by omega) ?_
        show Rn PT none kX12_readOn 44 [some (mR 118), some (mI (109)), some (mI (5)), some (mI (H0 18)), none] [mI (μ 121 1), mI (H0 14)] (mkh (m_upd (m_upd (m_set μ 118 21 (1)) 118 Ha) 118 H0) c s) _
        refine rn_icmp_lt (k' := 45) rfl rfl (fun hc2 => ?_) (fun hc2 => ?_)
        · skip
          refine rn_bipush (k' := 50) rfl rfl ?_
          refine rn_aload_n (k' := 51) rfl rfl rfl ?_
          refine rn_getI (k' := 52) rfl rfl K0_118 (by decide) rfl ?_
          show Rn PT none kX12_readOn 52 [some (mR 118), some (mI (109)), some (mI (5)), some (mI (H0 18)), none] [mI (H0 14), mI (10)] (mkh (m_upd (m_upd (m_set μ 118 21 (1)) 118 Ha) 118 H0) c s) _
          refine rn_imul (k' := 53) rfl rfl (by omega) ?_
          refine rn_iload_n (k' := 54) rfl rfl rfl ?_
          refine rn_iadd (k' := 55) rfl rfl (by omega) ?_
          refine rn_istore (k' := 56) (L' := [some (mR 118), some (mI (109)), some (mI (5)), some (mI (H0 18)), some (mI ((10 * (H0 14)) + (H0 18)))]) rfl rfl (Nat.le_of_ble_eq_true rfl) rfl ?_
          refine rn_aload_n (k' := 57) rfl rfl rfl ?_
          refine rn_getR (k' := 58) rfl rfl K0_118 (by decide) rfl R0_118_7 ?_
          refine rn_iload_n (k' := 59) rfl rfl rfl ?_
          refine rn_iload (k' := 60) rfl rfl rfl ?_
          refine rn_iadd (k' := 61) rfl rfl (by omega) ?_
          refine rn_iaload (k' := 62) rfl rfl K0_121 (by omega) (by omega) ?_
          show Rn PT none kX12_readOn 62 [some (mR 118), some (mI (109)), some (mI (5)), some (mI (H0 18)), some (mI ((10 * (H0 14)) + (H0 18)))] [mI (μ 121 ((109 + ((10 * (H0 14)) + (H0 18))).toNat))] (mkh (m_upd (m_upd (m_set μ 118 21 (1)) 118 Ha) 118 H0) c s) _
          rw [hr0]
          refine rn_if_le (k' := 63) rfl rfl (fun hc3 => ?_) (fun hc3 => ?_)
          · skip
            refine rn_aload_n (k' := 68) rfl rfl rfl ?_
            obtain ⟨Hb, ⟨hmb, hfb_⟩, hcb⟩ := g_next2 (μ := (m_upd (m_upd (m_set μ 118 21 (1)) 118 Ha) 118 H0)) (c := c) (s := s) (b := b) (n := n) (m := m) (p := (tkN b n m (tkN b n m p))) hM1 (by omega)
            have hfb : FRt Hb _ := hfb_.t
            have hM2 : MSt (m_upd (m_upd (m_upd (m_set μ 118 21 (1)) 118 Ha) 118 H0) 118 Hb) b n m (tkN b n m (tkN b n m (tkN b n m p))) := ⟨hM1.1, hM1.2.1, hM1.2.2.1, (tkN_b hM1.2.2.2.1).2.1, hmb⟩
            refine rn_callP (k' := 69) (y := 175) (vs := [mR 118]) (S' := []) (v := none) (h' := mkh (m_upd (m_upd (m_upd (m_set μ 118 21 (1)) 118 Ha) 118 H0) 118 Hb) c s) rfl rfl rfl (hcb) ?_
            show Rn PT none kX12_readOn 69 [some (mR 118), some (mI (109)), some (mI (5)), some (mI (H0 18)), some (mI ((10 * (H0 14)) + (H0 18)))] [] (mkh (m_upd (m_upd (m_upd (m_set μ 118 21 (1)) 118 Ha) 118 H0) 118 Hb) c s) _
            refine rn_aload_n (k' := 70) rfl rfl rfl ?_
            refine rn_iconst (k' := 71) rfl rfl ?_
            refine rn_putI (k' := 72) rfl rfl K0_118 (by decide) rfl ?_
            refine rn_iload_n (k' := 73) rfl rfl rfl ?_
            refine rn_sipush (k' := 74) rfl rfl ?_
            refine rn_icmp_eq (k' := 75) rfl rfl (fun hc5 => ?_) (fun hc5 => ?_)
            · exfalso; omega
            · skip
              refine rn_aload_n (k' := 76) rfl rfl rfl ?_
              refine rn_iconst (k' := 77) rfl rfl ?_
              refine rn_bipush (k' := 78) rfl rfl ?_
              obtain ⟨H2, ⟨hm2, hv2, hf2⟩, hc2⟩ := g_takes (μ := (m_set (m_upd (m_upd (m_upd (m_set μ 118 21 (1)) 118 Ha) 118 H0) 118 Hb) 118 18 (0))) (c := c) (s := s) (b := b) (n := n) (m := m) (p := (tkN b n m (tkN b n m (tkN b n m p)))) (lo := 0) (hi := 99) hM2 e2
              have hM3 : MSt (m_upd (m_set (m_upd (m_upd (m_upd (m_set μ 118 21 (1)) 118 Ha) 118 H0) 118 Hb) 118 18 (0)) 118 H2) b n m (tkN b n m (tkN b n m (tkN b n m (tkN b n m p)))) := ⟨hM2.1, hM2.2.1, hM2.2.2.1, (tkN_b hM2.2.2.2.1).2.1, hm2⟩
              have kk2 := eN_ok e2
              refine rn_callP (k' := 79) (y := 181) (vs := [mR 118, mI (0), mI (99)]) (S' := []) (v := some (mI (1))) (h' := mkh (m_upd (m_set (m_upd (m_upd (m_upd (m_set μ 118 21 (1)) 118 Ha) 118 H0) 118 Hb) 118 18 (0)) 118 H2) c s) rfl rfl rfl (hc2) ?_
              show Rn PT none kX12_readOn 79 [some (mR 118), some (mI (109)), some (mI (5)), some (mI (H0 18)), some (mI ((10 * (H0 14)) + (H0 18)))] [mI (1)] (mkh (m_upd (m_set (m_upd (m_upd (m_upd (m_set μ 118 21 (1)) 118 Ha) 118 H0) 118 Hb) 118 18 (0)) 118 H2) c s) _
              refine rn_if_ne (k' := 80) rfl rfl (fun hc6 => ?_) (fun hc6 => ?_)
              · skip
                refine rn_aload_n (k' := 83) rfl rfl rfl ?_
                refine rn_getR (k' := 84) rfl rfl K0_118 (by decide) rfl R0_118_7 ?_
                refine rn_iload_n (k' := 85) rfl rfl rfl ?_
                refine rn_iload (k' := 86) rfl rfl rfl ?_
                refine rn_iadd (k' := 87) rfl rfl (by omega) ?_
                refine rn_aload_n (k' := 88) rfl rfl rfl ?_
                refine rn_getI (k' := 89) rfl rfl K0_118 (by decide) rfl ?_
                show Rn PT none kX12_readOn 89 [some (mR 118), some (mI (109)), some (mI (5)), some (mI (H0 18)), some (mI ((10 * (H0 14)) + (H0 18)))] [mI (H2 18), mI (109 + ((10 * (H0 14)) + (H0 18))), mR 121] (mkh (m_upd (m_set (m_upd (m_upd (m_upd (m_set μ 118 21 (1)) 118 Ha) 118 H0) 118 Hb) 118 18 (0)) 118 H2) c s) _
                refine rn_iconst (k' := 90) rfl rfl ?_
                refine rn_iadd (k' := 91) rfl rfl (by omega) ?_
                refine rn_iastore (k' := 92) rfl rfl K0_121 (by omega) (by omega) ?_
                refine rn_aload_n (k' := 93) rfl rfl rfl ?_
                refine rn_getR (k' := 94) rfl rfl K0_118 (by decide) rfl R0_118_7 ?_
                refine rn_iload_n (k' := 95) rfl rfl rfl ?_
                refine rn_dup2 (k' := 96) rfl rfl ?_
                refine rn_iaload (k' := 97) rfl rfl K0_121 (by omega) (by omega) ?_
                show Rn PT none kX12_readOn 97 [some (mR 118), some (mI (109)), some (mI (5)), some (mI (H0 18)), some (mI ((10 * (H0 14)) + (H0 18)))] [mI ((m_set (m_upd (m_set (m_upd (m_upd (m_upd (m_set μ 118 21 (1)) 118 Ha) 118 H0) 118 Hb) 118 18 (0)) 118 H2) 121 ((109 + ((10 * (H0 14)) + (H0 18))).toNat) ((H2 18) + 1)) 121 5), mI (5), mR 121] (mkh (m_set (m_upd (m_set (m_upd (m_upd (m_upd (m_set μ 118 21 (1)) 118 Ha) 118 H0) 118 Hb) 118 18 (0)) 118 H2) 121 ((109 + ((10 * (H0 14)) + (H0 18))).toNat) ((H2 18) + 1)) c s) _
                rw [(show (m_set (m_upd (m_set (m_upd (m_upd (m_upd (m_set μ 118 21 (1)) 118 Ha) 118 H0) 118 Hb) 118 18 (0)) 118 H2) 121 ((109 + ((10 * (H0 14)) + (H0 18))).toNat) ((H2 18) + 1)) 121 5 = μ 121 5 from set_mis (by omega))]
                refine rn_iconst (k' := 98) rfl rfl ?_
                refine rn_iadd (k' := 99) rfl rfl (by omega) ?_
                refine rn_iastore (k' := 100) rfl rfl K0_121 (by omega) (by omega) ?_
                refine rn_iconst (k' := 101) rfl rfl ?_
                refine rn_iret rfl (Or.inr (by omega)) ?_
                refine ⟨_, rfl, hM3, ⟨(MFr.s2 (MFr.s2 (MFr.u (MFr.s (MFr.u (MFr.u (MFr.u (MFr.s MFr.r (by decide)) hfa) hf0) hfb) (by decide)) hf2) (.inl rfl)) (.inl rfl)), ((hf2 15 (by decide) (by decide) (by decide) (by decide) (by decide) (by decide) (by decide)).trans ((hfb 15 (by decide) (by decide) (by decide) (by decide) (by decide) (by decide) (by decide)).trans ((hf0 15 (by decide) (by decide) (by decide) (by decide) (by decide) (by decide) (by decide)).trans ((hfa 15 (by decide) (by decide) (by decide) (by decide) (by decide) (by decide) (by decide)).trans rfl))))⟩, ((hf2 20 (by decide) (by decide) (by decide) (by decide) (by decide) (by decide) (by decide)).trans ((hfb 20 (by decide) (by decide) (by decide) (by decide) (by decide) (by decide) (by decide)).trans ((hf0 20 (by decide) (by decide) (by decide) (by decide) (by decide) (by decide) (by decide)).trans ((hfa 20 (by decide) (by decide) (by decide) (by decide) (by decide) (by decide) (by decide)).trans rfl)))), ((hf2 21 (by decide) (by decide) (by decide) (by decide) (by decide) (by decide) (by decide)).trans ((hfb 21 (by decide) (by decide) (by decide) (by decide) (by decide) (by decide) (by decide)).trans ((hf0 21 (by decide) (by decide) (by decide) (by decide) (by decide) (by decide) (by decide)).trans ((hfa 21 (by decide) (by decide) (by decide) (by decide) (by decide) (by decide) (by decide)).trans rfl)))), ?_, ?_, (fun j hj2 hj3 => (set_mis hj3).trans (set_mis (by omega))), rfl⟩
                · refine (set_mis (by omega)).trans ((set_hit hi0).trans ?_)
                  show H2 18 + 1 = _; rw [hv2]
                · first | rfl | exact (set_hit rfl)
              · exfalso; omega
          · exfalso; omega
        · exfalso; omega
      · exfalso; omega
    · exfalso; omega
  · exfalso; omega
set_option maxHeartbeats 1000000 in
theorem m_thing1_full {μ : Nat → Nat → Int} {c s : Nat} {b : Nat → Int} {n m p : Nat} (hM : MSt μ b n m p) (hk : tkK b n m p = 1) (c8 : 0 ≤ μ 121 0 ∧ μ 121 0 ≤ 10) (c9 : 0 ≤ μ 121 1 ∧ μ 121 1 ≤ 10) (ccn : 0 ≤ μ 121 6 ∧ μ 121 6 ≤ 12) (hf12 : μ 121 6 = 12) : ∃ ν', (ν' 118 15 = 4 ∧ ν' 118 16 = ((tkP b n m p : Nat) : Int) ∧ MFr μ ν') ∧ Cl PT 188 [mR 118, mI 209, mI 6] (mkh μ c s) (fun r => r = (some (some (mI 0)), mkh ν' c s)) := by
  refine Cl.ex (g := fun ν' => (some (some (mI 0)), mkh ν' c s)) ?_
  refine ⟨_, PT_188, Nat.le_of_ble_eq_true rfl, ?_⟩
  show Rn PT none kX12_readOn 0 [some (mR 118), some (mI (209)), some (mI (6)), none, none] [] (mkh μ c s) _
  refine rn_aload_n (k' := 1) rfl rfl rfl ?_
  refine rn_getR (k' := 2) rfl rfl K0_118 (by decide) rfl R0_118_7 ?_
  refine rn_iload_n (k' := 3) rfl rfl rfl ?_
  refine rn_iaload (k' := 4) rfl rfl K0_121 (by omega) (by omega) ?_
  show Rn PT none kX12_readOn 4 [some (mR 118), some (mI (209)), some (mI (6)), none, none] [mI (μ 121 6)] (mkh μ c s) _
  refine rn_bipush (k' := 5) rfl rfl ?_
  refine rn_icmp_ne (k' := 6) rfl rfl (fun hc1 => ?_) (fun hc1 => ?_)
  · exfalso; omega
  · skip
    refine rn_aload_n (k' := 7) rfl rfl rfl ?_
    refine rn_iconst (k' := 8) rfl rfl ?_
    refine rn_callP (k' := 9) (y := 176) (vs := [mR 118, mI (4)]) (S' := []) (v := some (mI (0))) (h' := mkh (m_set (m_set μ 118 15 (4)) 118 16 (μ 118 12)) c s) rfl rfl rfl (g_bad (μ := μ) (e := 4)) ?_
    show Rn PT none kX12_readOn 9 [some (mR 118), some (mI (209)), some (mI (6)), none, none] [mI (0)] (mkh (m_set (m_set μ 118 15 (4)) 118 16 (μ 118 12)) c s) _
    refine rn_iret rfl (Or.inr (by omega)) ?_
    exact ⟨_, rfl, rfl, hM.2.2.2.2.2.2.1, (MFr.s (MFr.s MFr.r (by decide)) (by decide))⟩
set_option maxHeartbeats 1000000 in
theorem m_thing1_x0 {μ : Nat → Nat → Int} {c s : Nat} {b : Nat → Int} {n m p : Nat} (hM : MSt μ b n m p) (hk : tkK b n m p = 1) (c8 : 0 ≤ μ 121 0 ∧ μ 121 0 ≤ 10) (c9 : 0 ≤ μ 121 1 ∧ μ 121 1 ≤ 10) (ccn : 0 ≤ μ 121 6 ∧ μ 121 6 ≤ 12) (hf12 : ¬ μ 121 6 = 12) (e0 : ¬ eN b n m (tkN b n m p) 0 (μ 121 0 - 1) = 0) : ∃ ν', (ν' 118 15 = eN b n m (tkN b n m p) 0 (μ 121 0 - 1) ∧ ν' 118 16 = ((tkP b n m (tkN b n m p) : Nat) : Int) ∧ MFr μ ν') ∧ Cl PT 188 [mR 118, mI 209, mI 6] (mkh μ c s) (fun r => r = (some (some (mI 0)), mkh ν' c s)) := by
  refine Cl.ex (g := fun ν' => (some (some (mI 0)), mkh ν' c s)) ?_
  refine ⟨_, PT_188, Nat.le_of_ble_eq_true rfl, ?_⟩
  show Rn PT none kX12_readOn 0 [some (mR 118), some (mI (209)), some (mI (6)), none, none] [] (mkh μ c s) _
  refine rn_aload_n (k' := 1) rfl rfl rfl ?_
  refine rn_getR (k' := 2) rfl rfl K0_118 (by decide) rfl R0_118_7 ?_
  refine rn_iload_n (k' := 3) rfl rfl rfl ?_
  refine rn_iaload (k' := 4) rfl rfl K0_121 (by omega) (by omega) ?_
  show Rn PT none kX12_readOn 4 [some (mR 118), some (mI (209)), some (mI (6)), none, none] [mI (μ 121 6)] (mkh μ c s) _
  refine rn_bipush (k' := 5) rfl rfl ?_
  refine rn_icmp_ne (k' := 6) rfl rfl (fun hc1 => ?_) (fun hc1 => ?_)
  · skip
    refine rn_aload_n (k' := 11) rfl rfl rfl ?_
    refine rn_iconst (k' := 12) rfl rfl ?_
    refine rn_putZ (k' := 13) rfl rfl K0_118 (by decide) rfl (by omega) ?_
    refine rn_aload_n (k' := 14) rfl rfl rfl ?_
    obtain ⟨Ha, ⟨hma, hfa_⟩, hca⟩ := g_next2 (μ := (m_set μ 118 21 (1))) (c := c) (s := s) (b := b) (n := n) (m := m) (p := p) hM (by omega)
    have hfa : FRt Ha _ := hfa_.t
    have hM0 : MSt (m_upd (m_set μ 118 21 (1)) 118 Ha) b n m (tkN b n m p) := ⟨hM.1, hM.2.1, hM.2.2.1, (tkN_b hM.2.2.2.1).2.1, hma⟩
    refine rn_callP (k' := 15) (y := 175) (vs := [mR 118]) (S' := []) (v := none) (h' := mkh (m_upd (m_set μ 118 21 (1)) 118 Ha) c s) rfl rfl rfl (hca) ?_
    show Rn PT none kX12_readOn 15 [some (mR 118), some (mI (209)), some (mI (6)), none, none] [] (mkh (m_upd (m_set μ 118 21 (1)) 118 Ha) c s) _
    refine rn_aload_n (k' := 16) rfl rfl rfl ?_
    refine rn_iconst (k' := 17) rfl rfl ?_
    refine rn_aload_n (k' := 18) rfl rfl rfl ?_
    refine rn_getR (k' := 19) rfl rfl K0_118 (by decide) rfl R0_118_7 ?_
    refine rn_iconst (k' := 20) rfl rfl ?_
    refine rn_iaload (k' := 21) rfl rfl K0_121 (by omega) (by omega) ?_
    show Rn PT none kX12_readOn 21 [some (mR 118), some (mI (209)), some (mI (6)), none, none] [mI (μ 121 0), mI (0), mR 118] (mkh (m_upd (m_set μ 118 21 (1)) 118 Ha) c s) _
    refine rn_iconst (k' := 22) rfl rfl ?_
    refine rn_isub (k' := 23) rfl rfl (by omega) ?_
    have hc0 := g_takesX (μ := (m_upd (m_set μ 118 21 (1)) 118 Ha)) (c := c) (s := s) (b := b) (n := n) (m := m) (p := (tkN b n m p)) (lo := 0) (hi := (μ 121 0) - 1) hM0 e0
    refine rn_callP (k' := 24) (y := 181) (vs := [mR 118, mI (0), mI ((μ 121 0) - 1)]) (S' := []) (v := some (mI (0))) (h' := mkh (m_set (m_set (m_upd (m_set μ 118 21 (1)) 118 Ha) 118 15 (eN b n m (tkN b n m p) (0) ((μ 121 0) - 1))) 118 16 (((tkP b n m (tkN b n m p) : Nat) : Int))) c s) rfl rfl rfl (hc0) ?_
    show Rn PT none kX12_readOn 24 [some (mR 118), some (mI (209)), some (mI (6)), none, none] [mI (0)] (mkh (m_set (m_set (m_upd (m_set μ 118 21 (1)) 118 Ha) 118 15 (eN b n m (tkN b n m p) (0) ((μ 121 0) - 1))) 118 16 (((tkP b n m (tkN b n m p) : Nat) : Int))) c s) _
    refine rn_if_ne (k' := 25) rfl rfl (fun hc3 => ?_) (fun hc3 => ?_)
    · exfalso; omega
    · skip
      refine rn_iconst (k' := 26) rfl rfl ?_
      refine rn_iret rfl (Or.inr (by omega)) ?_
      exact ⟨_, rfl, rfl, rfl, (MFr.s (MFr.s (MFr.u (MFr.s MFr.r (by decide)) hfa) (by decide)) (by decide))⟩
  · exfalso; omega
set_option maxHeartbeats 1000000 in
theorem m_thing1_x1 {μ : Nat → Nat → Int} {c s : Nat} {b : Nat → Int} {n m p : Nat} (hM : MSt μ b n m p) (hk : tkK b n m p = 1) (c8 : 0 ≤ μ 121 0 ∧ μ 121 0 ≤ 10) (c9 : 0 ≤ μ 121 1 ∧ μ 121 1 ≤ 10) (ccn : 0 ≤ μ 121 6 ∧ μ 121 6 ≤ 12) (hf12 : ¬ μ 121 6 = 12) (e0 : eN b n m (tkN b n m p) 0 (μ 121 0 - 1) = 0) (e1 : ¬ eN b n m (tkN b n m (tkN b n m p)) 0 (μ 121 1 - 1) = 0) : ∃ ν', (ν' 118 15 = eN b n m (tkN b n m (tkN b n m p)) 0 (μ 121 1 - 1) ∧ ν' 118 16 = ((tkP b n m (tkN b n m (tkN b n m p)) : Nat) : Int) ∧ MFr μ ν') ∧ Cl PT 188 [mR 118, mI 209, mI 6] (mkh μ c s) (fun r => r = (some (some (mI 0)), mkh ν' c s)) := by
  refine Cl.ex (g := fun ν' => (some (some (mI 0)), mkh ν' c s)) ?_
  refine ⟨_, PT_188, Nat.le_of_ble_eq_true rfl, ?_⟩
  show Rn PT none kX12_readOn 0 [some (mR 118), some (mI (209)), some (mI (6)), none, none] [] (mkh μ c s) _
  refine rn_aload_n (k' := 1) rfl rfl rfl ?_
  refine rn_getR (k' := 2) rfl rfl K0_118 (by decide) rfl R0_118_7 ?_
  refine rn_iload_n (k' := 3) rfl rfl rfl ?_
  refine rn_iaload (k' := 4) rfl rfl K0_121 (by omega) (by omega) ?_
  show Rn PT none kX12_readOn 4 [some (mR 118), some (mI (209)), some (mI (6)), none, none] [mI (μ 121 6)] (mkh μ c s) _
  refine rn_bipush (k' := 5) rfl rfl ?_
  refine rn_icmp_ne (k' := 6) rfl rfl (fun hc1 => ?_) (fun hc1 => ?_)
  · skip
    refine rn_aload_n (k' := 11) rfl rfl rfl ?_
    refine rn_iconst (k' := 12) rfl rfl ?_
    refine rn_putZ (k' := 13) rfl rfl K0_118 (by decide) rfl (by omega) ?_
    refine rn_aload_n (k' := 14) rfl rfl rfl ?_
    obtain ⟨Ha, ⟨hma, hfa_⟩, hca⟩ := g_next2 (μ := (m_set μ 118 21 (1))) (c := c) (s := s) (b := b) (n := n) (m := m) (p := p) hM (by omega)
    have hfa : FRt Ha _ := hfa_.t
    have hM0 : MSt (m_upd (m_set μ 118 21 (1)) 118 Ha) b n m (tkN b n m p) := ⟨hM.1, hM.2.1, hM.2.2.1, (tkN_b hM.2.2.2.1).2.1, hma⟩
    refine rn_callP (k' := 15) (y := 175) (vs := [mR 118]) (S' := []) (v := none) (h' := mkh (m_upd (m_set μ 118 21 (1)) 118 Ha) c s) rfl rfl rfl (hca) ?_
    show Rn PT none kX12_readOn 15 [some (mR 118), some (mI (209)), some (mI (6)), none, none] [] (mkh (m_upd (m_set μ 118 21 (1)) 118 Ha) c s) _
    refine rn_aload_n (k' := 16) rfl rfl rfl ?_
    refine rn_iconst (k' := 17) rfl rfl ?_
    refine rn_aload_n (k' := 18) rfl rfl rfl ?_
    refine rn_getR (k' := 19) rfl rfl K0_118 (by decide) rfl R0_118_7 ?_
    refine rn_iconst (k' := 20) rfl rfl ?_
    refine rn_iaload (k' := 21) rfl rfl K0_121 (by omega) (by omega) ?_
    show Rn PT none kX12_readOn 21 [some (mR 118), some (mI (209)), some (mI (6)), none, none] [mI (μ 121 0), mI (0), mR 118] (mkh (m_upd (m_set μ 118 21 (1)) 118 Ha) c s) _
    refine rn_iconst (k' := 22) rfl rfl ?_
    refine rn_isub (k' := 23) rfl rfl (by omega) ?_
    obtain ⟨H0, ⟨hm0, hv0, hf0⟩, hc0⟩ := g_takes (μ := (m_upd (m_set μ 118 21 (1)) 118 Ha)) (c := c) (s := s) (b := b) (n := n) (m := m) (p := (tkN b n m p)) (lo := 0) (hi := (μ 121 0) - 1) hM0 e0
    have hM1 : MSt (m_upd (m_upd (m_set μ 118 21 (1)) 118 Ha) 118 H0) b n m (tkN b n m (tkN b n m p)) := ⟨hM0.1, hM0.2.1, hM0.2.2.1, (tkN_b hM0.2.2.2.1).2.1, hm0⟩
    have kk0 := eN_ok e0
    refine rn_callP (k' := 24) (y := 181) (vs := [mR 118, mI (0), mI ((μ 121 0) - 1)]) (S' := []) (v := some (mI (1))) (h' := mkh (m_upd (m_upd (m_set μ 118 21 (1)) 118 Ha) 118 H0) c s) rfl rfl rfl (hc0) ?_
    show Rn PT none kX12_readOn 24 [some (mR 118), some (mI (209)), some (mI (6)), none, none] [mI (1)] (mkh (m_upd (m_upd (m_set μ 118 21 (1)) 118 Ha) 118 H0) c s) _
    refine rn_if_ne (k' := 25) rfl rfl (fun hc3 => ?_) (fun hc3 => ?_)
    · skip
      refine rn_aload_n (k' := 28) rfl rfl rfl ?_
      refine rn_getI (k' := 29) rfl rfl K0_118 (by decide) rfl ?_
      show Rn PT none kX12_readOn 29 [some (mR 118), some (mI (209)), some (mI (6)), none, none] [mI (H0 18)] (mkh (m_upd (m_upd (m_set μ 118 21 (1)) 118 Ha) 118 H0) c s) _
      refine rn_istore_n (k' := 30) (L' := [some (mR 118), some (mI (209)), some (mI (6)), some (mI (H0 18)), none]) rfl rfl (Nat.le_of_ble_eq_true rfl) rfl ?_
      obtain ⟨_, _, u12, u11, _, _, u14, _⟩ := hm0
      have tx := tk_num kk0.1
      by_cases k2 : tkK b n m (tkN b n m (tkN b n m p)) = 2
      · have hu : H0 11 = 2 := by rw [u11]; exact mkk_2.mpr k2
        have hu14 := u14 k2
        have tn := tk_num k2
        have hgt : μ 121 1 - 1 < tkV b n m (tkN b n m (tkN b n m p)) := Classical.byContradiction (fun z => e1 (eN_0 k2 (by omega)))
        refine rn_aload_n (k' := 31) rfl rfl rfl ?_
        refine rn_getI (k' := 32) rfl rfl K0_118 (by decide) rfl ?_
        show Rn PT none kX12_readOn 32 [some (mR 118), some (mI (209)), some (mI (6)), some (mI (H0 18)), none] [mI (H0 11)] (mkh (m_upd (m_upd (m_set μ 118 21 (1)) 118 Ha) 118 H0) c s) _
        refine rn_iconst (k' := 33) rfl rfl ?_
        refine rn_icmp_eq (k' := 34) rfl rfl (fun hc1 => ?_) (fun hc1 => ?_)
        · skip
          refine rn_aload_n (k' := 39) rfl rfl rfl ?_
          refine rn_getI (k' := 40) rfl rfl K0_118 (by decide) rfl ?_
          show Rn PT none kX12_readOn 40 [some (mR 118), some (mI (209)), some (mI (6)), some (mI (H0 18)), none] [mI (H0 14)] (mkh (m_upd (m_upd (m_set μ 118 21 (1)) 118 Ha) 118 H0) c s) _
          refine rn_aload_n (k' := 41) rfl rfl rfl ?_
          refine rn_getR (k' := 42) rfl rfl K0_118 (by decide) rfl R0_118_7 ?_
          refine rn_iconst (k' := 43) rfl rfl ?_
          refine rn_iaload (k' := 44) rfl rfl K0_121 (by omega) (by omega) ?_
          show Rn PT none kX12_readOn 44 [some (mR 118), some (mI (209)), some (mI (6)), some (mI (H0 18)), none] [mI (μ 121 1), mI (H0 14)] (mkh (m_upd (m_upd (m_set μ 118 21 (1)) 118 Ha) 118 H0) c s) _
          refine rn_icmp_lt (k' := 45) rfl rfl (fun hc2 => ?_) (fun hc2 => ?_)
          · exfalso; omega
          · skip
            refine rn_aload_n (k' := 46) rfl rfl rfl ?_
            refine rn_iconst (k' := 47) rfl rfl ?_
            refine rn_callP (k' := 48) (y := 176) (vs := [mR 118, mI (2)]) (S' := []) (v := some (mI (0))) (h' := mkh (m_set (m_set (m_upd (m_upd (m_set μ 118 21 (1)) 118 Ha) 118 H0) 118 15 (2)) 118 16 (H0 12)) c s) rfl rfl rfl (g_bad (μ := (m_upd (m_upd (m_set μ 118 21 (1)) 118 Ha) 118 H0)) (e := 2)) ?_
            show Rn PT none kX12_readOn 48 [some (mR 118), some (mI (209)), some (mI (6)), some (mI (H0 18)), none] [mI (0)] (mkh (m_set (m_set (m_upd (m_upd (m_set μ 118 21 (1)) 118 Ha) 118 H0) 118 15 (2)) 118 16 (H0 12)) c s) _
            refine rn_iret rfl (Or.inr (by omega)) ?_
            refine ⟨_, rfl, ?_, u12, (MFr.s (MFr.s (MFr.u (MFr.u (MFr.s MFr.r (by decide)) hfa) hf0) (by decide)) (by decide))⟩
            rw [eN_2 k2 (by omega)]; rfl
        · exfalso; omega
      · have hu : ¬ H0 11 = 2 := by rw [u11]; exact fun z => k2 (mkk_2.mp z)
        refine rn_aload_n (k' := 31) rfl rfl rfl ?_
        refine rn_getI (k' := 32) rfl rfl K0_118 (by decide) rfl ?_
        show Rn PT none kX12_readOn 32 [some (mR 118), some (mI (209)), some (mI (6)), some (mI (H0 18)), none] [mI (H0 11)] (mkh (m_upd (m_upd (m_set μ 118 21 (1)) 118 Ha) 118 H0) c s) _
        refine rn_iconst (k' := 33) rfl rfl ?_
        refine rn_icmp_eq (k' := 34) rfl rfl (fun hc1 => ?_) (fun hc1 => ?_)
        · exfalso; omega
        · skip
          refine rn_aload_n (k' := 35) rfl rfl rfl ?_
          refine rn_iconst (k' := 36) rfl rfl ?_
          refine rn_callP (k' := 37) (y := 176) (vs := [mR 118, mI (1)]) (S' := []) (v := some (mI (0))) (h' := mkh (m_set (m_set (m_upd (m_upd (m_set μ 118 21 (1)) 118 Ha) 118 H0) 118 15 (1)) 118 16 (H0 12)) c s) rfl rfl rfl (g_bad (μ := (m_upd (m_upd (m_set μ 118 21 (1)) 118 Ha) 118 H0)) (e := 1)) ?_
          show Rn PT none kX12_readOn 37 [some (mR 118), some (mI (209)), some (mI (6)), some (mI (H0 18)), none] [mI (0)] (mkh (m_set (m_set (m_upd (m_upd (m_set μ 118 21 (1)) 118 Ha) 118 H0) 118 15 (1)) 118 16 (H0 12)) c s) _
          refine rn_iret rfl (Or.inr (by omega)) ?_
          refine ⟨_, rfl, ?_, u12, (MFr.s (MFr.s (MFr.u (MFr.u (MFr.s MFr.r (by decide)) hfa) hf0) (by decide)) (by decide))⟩
          rw [eN_1 k2]; rfl
    · exfalso; omega
  · exfalso; omega
set_option maxHeartbeats 1000000 in
theorem m_thing1_had {μ : Nat → Nat → Int} {c s : Nat} {b : Nat → Int} {n m p : Nat} (hM : MSt μ b n m p) (hk : tkK b n m p = 1) (c8 : 0 ≤ μ 121 0 ∧ μ 121 0 ≤ 10) (c9 : 0 ≤ μ 121 1 ∧ μ 121 1 ≤ 10) (ccn : 0 ≤ μ 121 6 ∧ μ 121 6 ≤ 12) (hf12 : ¬ μ 121 6 = 12) (e0 : eN b n m (tkN b n m p) 0 (μ 121 0 - 1) = 0) (e1 : eN b n m (tkN b n m (tkN b n m p)) 0 (μ 121 1 - 1) = 0) {j0 : Nat} (hj : 10 * tkV b n m (tkN b n m (tkN b n m p)) + tkV b n m (tkN b n m p) = (j0 : Int)) (hd : 0 < μ 121 (209 + j0)) : ∃ ν', (ν' 118 15 = 3 ∧ ν' 118 16 = ((tkP b n m (tkN b n m (tkN b n m p)) : Nat) : Int) ∧ MFr μ ν') ∧ Cl PT 188 [mR 118, mI 209, mI 6] (mkh μ c s) (fun r => r = (some (some (mI 0)), mkh ν' c s)) := by
  refine Cl.ex (g := fun ν' => (some (some (mI 0)), mkh ν' c s)) ?_
  refine ⟨_, PT_188, Nat.le_of_ble_eq_true rfl, ?_⟩
  show Rn PT none kX12_readOn 0 [some (mR 118), some (mI (209)), some (mI (6)), none, none] [] (mkh μ c s) _
  refine rn_aload_n (k' := 1) rfl rfl rfl ?_
  refine rn_getR (k' := 2) rfl rfl K0_118 (by decide) rfl R0_118_7 ?_
  refine rn_iload_n (k' := 3) rfl rfl rfl ?_
  refine rn_iaload (k' := 4) rfl rfl K0_121 (by omega) (by omega) ?_
  show Rn PT none kX12_readOn 4 [some (mR 118), some (mI (209)), some (mI (6)), none, none] [mI (μ 121 6)] (mkh μ c s) _
  refine rn_bipush (k' := 5) rfl rfl ?_
  refine rn_icmp_ne (k' := 6) rfl rfl (fun hc1 => ?_) (fun hc1 => ?_)
  · skip
    refine rn_aload_n (k' := 11) rfl rfl rfl ?_
    refine rn_iconst (k' := 12) rfl rfl ?_
    refine rn_putZ (k' := 13) rfl rfl K0_118 (by decide) rfl (by omega) ?_
    refine rn_aload_n (k' := 14) rfl rfl rfl ?_
    obtain ⟨Ha, ⟨hma, hfa_⟩, hca⟩ := g_next2 (μ := (m_set μ 118 21 (1))) (c := c) (s := s) (b := b) (n := n) (m := m) (p := p) hM (by omega)
    have hfa : FRt Ha _ := hfa_.t
    have hM0 : MSt (m_upd (m_set μ 118 21 (1)) 118 Ha) b n m (tkN b n m p) := ⟨hM.1, hM.2.1, hM.2.2.1, (tkN_b hM.2.2.2.1).2.1, hma⟩
    refine rn_callP (k' := 15) (y := 175) (vs := [mR 118]) (S' := []) (v := none) (h' := mkh (m_upd (m_set μ 118 21 (1)) 118 Ha) c s) rfl rfl rfl (hca) ?_
    show Rn PT none kX12_readOn 15 [some (mR 118), some (mI (209)), some (mI (6)), none, none] [] (mkh (m_upd (m_set μ 118 21 (1)) 118 Ha) c s) _
    refine rn_aload_n (k' := 16) rfl rfl rfl ?_
    refine rn_iconst (k' := 17) rfl rfl ?_
    refine rn_aload_n (k' := 18) rfl rfl rfl ?_
    refine rn_getR (k' := 19) rfl rfl K0_118 (by decide) rfl R0_118_7 ?_
    refine rn_iconst (k' := 20) rfl rfl ?_
    refine rn_iaload (k' := 21) rfl rfl K0_121 (by omega) (by omega) ?_
    show Rn PT none kX12_readOn 21 [some (mR 118), some (mI (209)), some (mI (6)), none, none] [mI (μ 121 0), mI (0), mR 118] (mkh (m_upd (m_set μ 118 21 (1)) 118 Ha) c s) _
    refine rn_iconst (k' := 22) rfl rfl ?_
    refine rn_isub (k' := 23) rfl rfl (by omega) ?_
    obtain ⟨H0, ⟨hm0, hv0, hf0⟩, hc0⟩ := g_takes (μ := (m_upd (m_set μ 118 21 (1)) 118 Ha)) (c := c) (s := s) (b := b) (n := n) (m := m) (p := (tkN b n m p)) (lo := 0) (hi := (μ 121 0) - 1) hM0 e0
    have hM1 : MSt (m_upd (m_upd (m_set μ 118 21 (1)) 118 Ha) 118 H0) b n m (tkN b n m (tkN b n m p)) := ⟨hM0.1, hM0.2.1, hM0.2.2.1, (tkN_b hM0.2.2.2.1).2.1, hm0⟩
    have kk0 := eN_ok e0
    refine rn_callP (k' := 24) (y := 181) (vs := [mR 118, mI (0), mI ((μ 121 0) - 1)]) (S' := []) (v := some (mI (1))) (h' := mkh (m_upd (m_upd (m_set μ 118 21 (1)) 118 Ha) 118 H0) c s) rfl rfl rfl (hc0) ?_
    show Rn PT none kX12_readOn 24 [some (mR 118), some (mI (209)), some (mI (6)), none, none] [mI (1)] (mkh (m_upd (m_upd (m_set μ 118 21 (1)) 118 Ha) 118 H0) c s) _
    refine rn_if_ne (k' := 25) rfl rfl (fun hc3 => ?_) (fun hc3 => ?_)
    · skip
      refine rn_aload_n (k' := 28) rfl rfl rfl ?_
      refine rn_getI (k' := 29) rfl rfl K0_118 (by decide) rfl ?_
      show Rn PT none kX12_readOn 29 [some (mR 118), some (mI (209)), some (mI (6)), none, none] [mI (H0 18)] (mkh (m_upd (m_upd (m_set μ 118 21 (1)) 118 Ha) 118 H0) c s) _
      refine rn_istore_n (k' := 30) (L' := [some (mR 118), some (mI (209)), some (mI (6)), some (mI (H0 18)), none]) rfl rfl (Nat.le_of_ble_eq_true rfl) rfl ?_
      obtain ⟨_, _, u12, u11, _, _, u14, _⟩ := hm0
      have tx := tk_num kk0.1
      obtain ⟨k2, k3, k4⟩ := eN_ok e1
      have hu : H0 11 = 2 := by rw [u11]; exact mkk_2.mpr k2
      have hu14 := u14 k2
      have tn := tk_num k2
      have hi0 : (209 + (10 * H0 14 + H0 18)).toNat = 209 + j0 := by omega
      have hr0 : μ 121 (209 + (10 * H0 14 + H0 18)).toNat = μ 121 (209 + j0) := by rw [hi0]
      refine rn_aload_n (k' := 31) rfl rfl rfl ?_
      refine rn_getI (k' := 32) rfl rfl K0_118 (by decide) rfl ?_
      show Rn PT none kX12_readOn 32 [some (mR 118), some (mI (209)), some (mI (6)), some (mI (H0 18)), none] [mI (H0 11)] (mkh (m_upd (m_upd (m_set μ 118 21 (1)) 118 Ha) 118 H0) c s) _
      refine rn_iconst (k' := 33) rfl rfl ?_
      refine rn_icmp_eq (k' := 34) rfl rfl (fun hc1 => ?_) (fun hc1 => ?_)
      · skip
        refine rn_aload_n (k' := 39) rfl rfl rfl ?_
        refine rn_getI (k' := 40) rfl rfl K0_118 (by decide) rfl ?_
        show Rn PT none kX12_readOn 40 [some (mR 118), some (mI (209)), some (mI (6)), some (mI (H0 18)), none] [mI (H0 14)] (mkh (m_upd (m_upd (m_set μ 118 21 (1)) 118 Ha) 118 H0) c s) _
        refine rn_aload_n (k' := 41) rfl rfl rfl ?_
        refine rn_getR (k' := 42) rfl rfl K0_118 (by decide) rfl R0_118_7 ?_
        refine rn_iconst (k' := 43) rfl rfl ?_
        refine rn_iaload (k' := 44) rfl rfl K0_121 (by omega) (by omega) ?_
        show Rn PT none kX12_readOn 44 [some (mR 118), some (mI (209)), some (mI (6)), some (mI (H0 18)), none] [mI (μ 121 1), mI (H0 14)] (mkh (m_upd (m_upd (m_set μ 118 21 (1)) 118 Ha) 118 H0) c s) _
        refine rn_icmp_lt (k' := 45) rfl rfl (fun hc2 => ?_) (fun hc2 => ?_)
        · skip
          refine rn_bipush (k' := 50) rfl rfl ?_
          refine rn_aload_n (k' := 51) rfl rfl rfl ?_
          refine rn_getI (k' := 52) rfl rfl K0_118 (by decide) rfl ?_
          show Rn PT none kX12_readOn 52 [some (mR 118), some (mI (209)), some (mI (6)), some (mI (H0 18)), none] [mI (H0 14), mI (10)] (mkh (m_upd (m_upd (m_set μ 118 21 (1)) 118 Ha) 118 H0) c s) _
          refine rn_imul (k' := 53) rfl rfl (by omega) ?_
          refine rn_iload_n (k' := 54) rfl rfl rfl ?_
          refine rn_iadd (k' := 55) rfl rfl (by omega) ?_
          refine rn_istore (k' := 56) (L' := [some (mR 118), some (mI (209)), some (mI (6)), some (mI (H0 18)), some (mI ((10 * (H0 14)) + (H0 18)))]) rfl rfl (Nat.le_of_ble_eq_true rfl) rfl ?_
          refine rn_aload_n (k' := 57) rfl rfl rfl ?_
          refine rn_getR (k' := 58) rfl rfl K0_118 (by decide) rfl R0_118_7 ?_
          refine rn_iload_n (k' := 59) rfl rfl rfl ?_
          refine rn_iload (k' := 60) rfl rfl rfl ?_
          refine rn_iadd (k' := 61) rfl rfl (by omega) ?_
          refine rn_iaload (k' := 62) rfl rfl K0_121 (by omega) (by omega) ?_
          show Rn PT none kX12_readOn 62 [some (mR 118), some (mI (209)), some (mI (6)), some (mI (H0 18)), some (mI ((10 * (H0 14)) + (H0 18)))] [mI (μ 121 ((209 + ((10 * (H0 14)) + (H0 18))).toNat))] (mkh (m_upd (m_upd (m_set μ 118 21 (1)) 118 Ha) 118 H0) c s) _
          rw [hr0]
          refine rn_if_le (k' := 63) rfl rfl (fun hc3 => ?_) (fun hc3 => ?_)
          · exfalso; omega
          · skip
            refine rn_aload_n (k' := 64) rfl rfl rfl ?_
            refine rn_iconst (k' := 65) rfl rfl ?_
            refine rn_callP (k' := 66) (y := 176) (vs := [mR 118, mI (3)]) (S' := []) (v := some (mI (0))) (h' := mkh (m_set (m_set (m_upd (m_upd (m_set μ 118 21 (1)) 118 Ha) 118 H0) 118 15 (3)) 118 16 (H0 12)) c s) rfl rfl rfl (g_bad (μ := (m_upd (m_upd (m_set μ 118 21 (1)) 118 Ha) 118 H0)) (e := 3)) ?_
            show Rn PT none kX12_readOn 66 [some (mR 118), some (mI (209)), some (mI (6)), some (mI (H0 18)), some (mI ((10 * (H0 14)) + (H0 18)))] [mI (0)] (mkh (m_set (m_set (m_upd (m_upd (m_set μ 118 21 (1)) 118 Ha) 118 H0) 118 15 (3)) 118 16 (H0 12)) c s) _
            refine rn_iret rfl (Or.inr (by omega)) ?_
            exact ⟨_, rfl, rfl, u12, (MFr.s (MFr.s (MFr.u (MFr.u (MFr.s MFr.r (by decide)) hfa) hf0) (by decide)) (by decide))⟩
        · exfalso; omega
      · exfalso; omega
    · exfalso; omega
  · exfalso; omega
set_option maxHeartbeats 1000000 in
theorem m_thing1_x2 {μ : Nat → Nat → Int} {c s : Nat} {b : Nat → Int} {n m p : Nat} (hM : MSt μ b n m p) (hk : tkK b n m p = 1) (c8 : 0 ≤ μ 121 0 ∧ μ 121 0 ≤ 10) (c9 : 0 ≤ μ 121 1 ∧ μ 121 1 ≤ 10) (ccn : 0 ≤ μ 121 6 ∧ μ 121 6 ≤ 12) (hf12 : ¬ μ 121 6 = 12) (e0 : eN b n m (tkN b n m p) 0 (μ 121 0 - 1) = 0) (e1 : eN b n m (tkN b n m (tkN b n m p)) 0 (μ 121 1 - 1) = 0) {j0 : Nat} (hj : 10 * tkV b n m (tkN b n m (tkN b n m p)) + tkV b n m (tkN b n m p) = (j0 : Int)) (hd : ¬ 0 < μ 121 (209 + j0)) (e2 : ¬ eN b n m (tkN b n m (tkN b n m (tkN b n m p))) 0 99 = 0) : ∃ ν', (ν' 118 15 = eN b n m (tkN b n m (tkN b n m (tkN b n m p))) 0 99 ∧ ν' 118 16 = ((tkP b n m (tkN b n m (tkN b n m (tkN b n m p))) : Nat) : Int) ∧ MFr μ ν') ∧ Cl PT 188 [mR 118, mI 209, mI 6] (mkh μ c s) (fun r => r = (some (some (mI 0)), mkh ν' c s)) := by
  refine Cl.ex (g := fun ν' => (some (some (mI 0)), mkh ν' c s)) ?_
  refine ⟨_, PT_188, Nat.le_of_ble_eq_true rfl, ?_⟩
  show Rn PT none kX12_readOn 0 [some (mR 118), some (mI (209)), some (mI (6)), none, none] [] (mkh μ c s) _
  refine rn_aload_n (k' := 1) rfl rfl rfl ?_
  refine rn_getR (k' := 2) rfl rfl K0_118 (by decide) rfl R0_118_7 ?_
  refine rn_iload_n (k' := 3) rfl rfl rfl ?_
  refine rn_iaload (k' := 4) rfl rfl K0_121 (by omega) (by omega) ?_
  show Rn PT none kX12_readOn 4 [some (mR 118), some (mI (209)), some (mI (6)), none, none] [mI (μ 121 6)] (mkh μ c s) _
  refine rn_bipush (k' := 5) rfl rfl ?_
  refine rn_icmp_ne (k' := 6) rfl rfl (fun hc1 => ?_) (fun hc1 => ?_)
  · skip
    refine rn_aload_n (k' := 11) rfl rfl rfl ?_
    refine rn_iconst (k' := 12) rfl rfl ?_
    refine rn_putZ (k' := 13) rfl rfl K0_118 (by decide) rfl (by omega) ?_
    refine rn_aload_n (k' := 14) rfl rfl rfl ?_
    obtain ⟨Ha, ⟨hma, hfa_⟩, hca⟩ := g_next2 (μ := (m_set μ 118 21 (1))) (c := c) (s := s) (b := b) (n := n) (m := m) (p := p) hM (by omega)
    have hfa : FRt Ha _ := hfa_.t
    have hM0 : MSt (m_upd (m_set μ 118 21 (1)) 118 Ha) b n m (tkN b n m p) := ⟨hM.1, hM.2.1, hM.2.2.1, (tkN_b hM.2.2.2.1).2.1, hma⟩
    refine rn_callP (k' := 15) (y := 175) (vs := [mR 118]) (S' := []) (v := none) (h' := mkh (m_upd (m_set μ 118 21 (1)) 118 Ha) c s) rfl rfl rfl (hca) ?_
    show Rn PT none kX12_readOn 15 [some (mR 118), some (mI (209)), some (mI (6)), none, none] [] (mkh (m_upd (m_set μ 118 21 (1)) 118 Ha) c s) _
    refine rn_aload_n (k' := 16) rfl rfl rfl ?_
    refine rn_iconst (k' := 17) rfl rfl ?_
    refine rn_aload_n (k' := 18) rfl rfl rfl ?_
    refine rn_getR (k' := 19) rfl rfl K0_118 (by decide) rfl R0_118_7 ?_
    refine rn_iconst (k' := 20) rfl rfl ?_
    refine rn_iaload (k' := 21) rfl rfl K0_121 (by omega) (by omega) ?_
    show Rn PT none kX12_readOn 21 [some (mR 118), some (mI (209)), some (mI (6)), none, none] [mI (μ 121 0), mI (0), mR 118] (mkh (m_upd (m_set μ 118 21 (1)) 118 Ha) c s) _
    refine rn_iconst (k' := 22) rfl rfl ?_
    refine rn_isub (k' := 23) rfl rfl (by omega) ?_
    obtain ⟨H0, ⟨hm0, hv0, hf0⟩, hc0⟩ := g_takes (μ := (m_upd (m_set μ 118 21 (1)) 118 Ha)) (c := c) (s := s) (b := b) (n := n) (m := m) (p := (tkN b n m p)) (lo := 0) (hi := (μ 121 0) - 1) hM0 e0
    have hM1 : MSt (m_upd (m_upd (m_set μ 118 21 (1)) 118 Ha) 118 H0) b n m (tkN b n m (tkN b n m p)) := ⟨hM0.1, hM0.2.1, hM0.2.2.1, (tkN_b hM0.2.2.2.1).2.1, hm0⟩
    have kk0 := eN_ok e0
    refine rn_callP (k' := 24) (y := 181) (vs := [mR 118, mI (0), mI ((μ 121 0) - 1)]) (S' := []) (v := some (mI (1))) (h' := mkh (m_upd (m_upd (m_set μ 118 21 (1)) 118 Ha) 118 H0) c s) rfl rfl rfl (hc0) ?_
    show Rn PT none kX12_readOn 24 [some (mR 118), some (mI (209)), some (mI (6)), none, none] [mI (1)] (mkh (m_upd (m_upd (m_set μ 118 21 (1)) 118 Ha) 118 H0) c s) _
    refine rn_if_ne (k' := 25) rfl rfl (fun hc3 => ?_) (fun hc3 => ?_)
    · skip
      refine rn_aload_n (k' := 28) rfl rfl rfl ?_
      refine rn_getI (k' := 29) rfl rfl K0_118 (by decide) rfl ?_
      show Rn PT none kX12_readOn 29 [some (mR 118), some (mI (209)), some (mI (6)), none, none] [mI (H0 18)] (mkh (m_upd (m_upd (m_set μ 118 21 (1)) 118 Ha) 118 H0) c s) _
      refine rn_istore_n (k' := 30) (L' := [some (mR 118), some (mI (209)), some (mI (6)), some (mI (H0 18)), none]) rfl rfl (Nat.le_of_ble_eq_true rfl) rfl ?_
      obtain ⟨_, _, u12, u11, _, _, u14, _⟩ := hm0
      have tx := tk_num kk0.1
      obtain ⟨k2, k3, k4⟩ := eN_ok e1
      have hu : H0 11 = 2 := by rw [u11]; exact mkk_2.mpr k2
      have hu14 := u14 k2
      have tn := tk_num k2
      have hi0 : (209 + (10 * H0 14 + H0 18)).toNat = 209 + j0 := by omega
      have hr0 : μ 121 (209 + (10 * H0 14 + H0 18)).toNat = μ 121 (209 + j0) := by rw [hi0]
      refine rn_aload_n (k' := 31) rfl rfl rfl ?_
      refine rn_getI (k' := 32) rfl rfl K0_118 (by decide) rfl ?_
      show Rn PT none kX12_readOn 32 [some (mR 118), some (mI (209)), some (mI (6)), some (mI (H0 18)), none] [mI (H0 11)] (mkh (m_upd (m_upd (m_set μ 118 21 (1)) 118 Ha) 118 H0) c s) _
      refine rn_iconst (k' := 33) rfl rfl ?_
      refine rn_icmp_eq (k' := 34) rfl rfl (fun hc1 => ?_) (fun hc1 => ?_)
      · skip
        refine rn_aload_n (k' := 39) rfl rfl rfl ?_
        refine rn_getI (k' := 40) rfl rfl K0_118 (by decide) rfl ?_
        show Rn PT none kX12_readOn 40 [some (mR 118), some (mI (209)), some (mI (6)), some (mI (H0 18)), none] [mI (H0 14)] (mkh (m_upd (m_upd (m_set μ 118 21 (1)) 118 Ha) 118 H0) c s) _
        refine rn_aload_n (k' := 41) rfl rfl rfl ?_
        refine rn_getR (k' := 42) rfl rfl K0_118 (by decide) rfl R0_118_7 ?_
        refine rn_iconst (k' := 43) rfl rfl ?_
        refine rn_iaload (k' := 44) rfl rfl K0_121 (by omega) (by omega) ?_
        show Rn PT none kX12_readOn 44 [some (mR 118), some (mI (209)), some (mI (6)), some (mI (H0 18)), none] [mI (μ 121 1), mI (H0 14)] (mkh (m_upd (m_upd (m_set μ 118 21 (1)) 118 Ha) 118 H0) c s) _
        refine rn_icmp_lt (k' := 45) rfl rfl (fun hc2 => ?_) (fun hc2 => ?_)
        · skip
          refine rn_bipush (k' := 50) rfl rfl ?_
          refine rn_aload_n (k' := 51) rfl rfl rfl ?_
          refine rn_getI (k' := 52) rfl rfl K0_118 (by decide) rfl ?_
          show Rn PT none kX12_readOn 52 [some (mR 118), some (mI (209)), some (mI (6)), some (mI (H0 18)), none] [mI (H0 14), mI (10)] (mkh (m_upd (m_upd (m_set μ 118 21 (1)) 118 Ha) 118 H0) c s) _
          refine rn_imul (k' := 53) rfl rfl (by omega) ?_
          refine rn_iload_n (k' := 54) rfl rfl rfl ?_
          refine rn_iadd (k' := 55) rfl rfl (by omega) ?_
          refine rn_istore (k' := 56) (L' := [some (mR 118), some (mI (209)), some (mI (6)), some (mI (H0 18)), some (mI ((10 * (H0 14)) + (H0 18)))]) rfl rfl (Nat.le_of_ble_eq_true rfl) rfl ?_
          refine rn_aload_n (k' := 57) rfl rfl rfl ?_
          refine rn_getR (k' := 58) rfl rfl K0_118 (by decide) rfl R0_118_7 ?_
          refine rn_iload_n (k' := 59) rfl rfl rfl ?_
          refine rn_iload (k' := 60) rfl rfl rfl ?_
          refine rn_iadd (k' := 61) rfl rfl (by omega) ?_
          refine rn_iaload (k' := 62) rfl rfl K0_121 (by omega) (by omega) ?_
          show Rn PT none kX12_readOn 62 [some (mR 118), some (mI (209)), some (mI (6)), some (mI (H0 18)), some (mI ((10 * (H0 14)) + (H0 18)))] [mI (μ 121 ((209 + ((10 * (H0 14)) + (H0 18))).toNat))] (mkh (m_upd (m_upd (m_set μ 118 21 (1)) 118 Ha) 118 H0) c s) _
          rw [hr0]
          refine rn_if_le (k' := 63) rfl rfl (fun hc3 => ?_) (fun hc3 => ?_)
          · skip
            refine rn_aload_n (k' := 68) rfl rfl rfl ?_
            obtain ⟨Hb, ⟨hmb, hfb_⟩, hcb⟩ := g_next2 (μ := (m_upd (m_upd (m_set μ 118 21 (1)) 118 Ha) 118 H0)) (c := c) (s := s) (b := b) (n := n) (m := m) (p := (tkN b n m (tkN b n m p))) hM1 (by omega)
            have hfb : FRt Hb _ := hfb_.t
            have hM2 : MSt (m_upd (m_upd (m_upd (m_set μ 118 21 (1)) 118 Ha) 118 H0) 118 Hb) b n m (tkN b n m (tkN b n m (tkN b n m p))) := ⟨hM1.1, hM1.2.1, hM1.2.2.1, (tkN_b hM1.2.2.2.1).2.1, hmb⟩
            refine rn_callP (k' := 69) (y := 175) (vs := [mR 118]) (S' := []) (v := none) (h' := mkh (m_upd (m_upd (m_upd (m_set μ 118 21 (1)) 118 Ha) 118 H0) 118 Hb) c s) rfl rfl rfl (hcb) ?_
            show Rn PT none kX12_readOn 69 [some (mR 118), some (mI (209)), some (mI (6)), some (mI (H0 18)), some (mI ((10 * (H0 14)) + (H0 18)))] [] (mkh (m_upd (m_upd (m_upd (m_set μ 118 21 (1)) 118 Ha) 118 H0) 118 Hb) c s) _
            refine rn_aload_n (k' := 70) rfl rfl rfl ?_
            refine rn_iconst (k' := 71) rfl rfl ?_
            refine rn_putI (k' := 72) rfl rfl K0_118 (by decide) rfl ?_
            refine rn_iload_n (k' := 73) rfl rfl rfl ?_
            refine rn_sipush (k' := 74) rfl rfl ?_
            refine rn_icmp_eq (k' := 75) rfl rfl (fun hc5 => ?_) (fun hc5 => ?_)
            · exfalso; omega
            · skip
              refine rn_aload_n (k' := 76) rfl rfl rfl ?_
              refine rn_iconst (k' := 77) rfl rfl ?_
              refine rn_bipush (k' := 78) rfl rfl ?_
              have hc2 := g_takesX (μ := (m_set (m_upd (m_upd (m_upd (m_set μ 118 21 (1)) 118 Ha) 118 H0) 118 Hb) 118 18 (0))) (c := c) (s := s) (b := b) (n := n) (m := m) (p := (tkN b n m (tkN b n m (tkN b n m p)))) (lo := 0) (hi := 99) hM2 e2
              refine rn_callP (k' := 79) (y := 181) (vs := [mR 118, mI (0), mI (99)]) (S' := []) (v := some (mI (0))) (h' := mkh (m_set (m_set (m_set (m_upd (m_upd (m_upd (m_set μ 118 21 (1)) 118 Ha) 118 H0) 118 Hb) 118 18 (0)) 118 15 (eN b n m (tkN b n m (tkN b n m (tkN b n m p))) (0) (99))) 118 16 (((tkP b n m (tkN b n m (tkN b n m (tkN b n m p))) : Nat) : Int))) c s) rfl rfl rfl (hc2) ?_
              show Rn PT none kX12_readOn 79 [some (mR 118), some (mI (209)), some (mI (6)), some (mI (H0 18)), some (mI ((10 * (H0 14)) + (H0 18)))] [mI (0)] (mkh (m_set (m_set (m_set (m_upd (m_upd (m_upd (m_set μ 118 21 (1)) 118 Ha) 118 H0) 118 Hb) 118 18 (0)) 118 15 (eN b n m (tkN b n m (tkN b n m (tkN b n m p))) (0) (99))) 118 16 (((tkP b n m (tkN b n m (tkN b n m (tkN b n m p))) : Nat) : Int))) c s) _
              refine rn_if_ne (k' := 80) rfl rfl (fun hc6 => ?_) (fun hc6 => ?_)
              · exfalso; omega
              · skip
                refine rn_iconst (k' := 81) rfl rfl ?_
                refine rn_iret rfl (Or.inr (by omega)) ?_
                exact ⟨_, rfl, rfl, rfl, (MFr.s (MFr.s (MFr.s (MFr.u (MFr.u (MFr.u (MFr.s MFr.r (by decide)) hfa) hf0) hfb) (by decide)) (by decide)) (by decide))⟩
          · exfalso; omega
        · exfalso; omega
      · exfalso; omega
    · exfalso; omega
  · exfalso; omega
set_option maxHeartbeats 1000000 in
theorem m_thing1_ok {μ : Nat → Nat → Int} {c s : Nat} {b : Nat → Int} {n m p : Nat} (hM : MSt μ b n m p) (hk : tkK b n m p = 1) (c8 : 0 ≤ μ 121 0 ∧ μ 121 0 ≤ 10) (c9 : 0 ≤ μ 121 1 ∧ μ 121 1 ≤ 10) (ccn : 0 ≤ μ 121 6 ∧ μ 121 6 ≤ 12) (hf12 : ¬ μ 121 6 = 12) (e0 : eN b n m (tkN b n m p) 0 (μ 121 0 - 1) = 0) (e1 : eN b n m (tkN b n m (tkN b n m p)) 0 (μ 121 1 - 1) = 0) {j0 : Nat} (hj : 10 * tkV b n m (tkN b n m (tkN b n m p)) + tkV b n m (tkN b n m p) = (j0 : Int)) (hd : ¬ 0 < μ 121 (209 + j0)) (e2 : eN b n m (tkN b n m (tkN b n m (tkN b n m p))) 0 99 = 0) : ∃ ν', (MSt ν' b n m (tkN b n m (tkN b n m (tkN b n m (tkN b n m p)))) ∧ MFo μ ν' ∧ ν' 118 20 = μ 118 20 ∧ ν' 118 21 = 1 ∧ ν' 121 (209 + j0) = tkV b n m (tkN b n m (tkN b n m (tkN b n m p))) + 1 ∧ ν' 121 6 = μ 121 6 + 1 ∧ (∀ j, ¬ j = (209 + j0) → ¬ j = 6 → ν' 121 j = μ 121 j) ∧ ν' 123 = μ 123) ∧ Cl PT 188 [mR 118, mI 209, mI 6] (mkh μ c s) (fun r => r = (some (some (mI 1)), mkh ν' c s)) := by
  refine Cl.ex (g := fun ν' => (some (some (mI 1)), mkh ν' c s)) ?_
  refine ⟨_, PT_188, Nat.le_of_ble_eq_true rfl, ?_⟩
  show Rn PT none kX12_readOn 0 [some (mR 118), some (mI (209)), some (mI (6)), none, none] [] (mkh μ c s) _
  refine rn_aload_n (k' := 1) rfl rfl rfl ?_
  refine rn_getR (k' := 2) rfl rfl K0_118 (by decide) rfl R0_118_7 ?_
  refine rn_iload_n (k' := 3) rfl rfl rfl ?_
  refine rn_iaload (k' := 4) rfl rfl K0_121 (by omega) (by omega) ?_
  show Rn PT none kX12_readOn 4 [some (mR 118), some (mI (209)), some (mI (6)), none, none] [mI (μ 121 6)] (mkh μ c s) _
  refine rn_bipush (k' := 5) rfl rfl ?_
  refine rn_icmp_ne (k' := 6) rfl rfl (fun hc1 => ?_) (fun hc1 => ?_)
  · skip
    refine rn_aload_n (k' := 11) rfl rfl rfl ?_
    refine rn_iconst (k' := 12) rfl rfl ?_
    refine rn_putZ (k' := 13) rfl rfl K0_118 (by decide) rfl (by omega) ?_
    refine rn_aload_n (k' := 14) rfl rfl rfl ?_
    obtain ⟨Ha, ⟨hma, hfa_⟩, hca⟩ := g_next2 (μ := (m_set μ 118 21 (1))) (c := c) (s := s) (b := b) (n := n) (m := m) (p := p) hM (by omega)
    have hfa : FRt Ha _ := hfa_.t
    have hM0 : MSt (m_upd (m_set μ 118 21 (1)) 118 Ha) b n m (tkN b n m p) := ⟨hM.1, hM.2.1, hM.2.2.1, (tkN_b hM.2.2.2.1).2.1, hma⟩
    refine rn_callP (k' := 15) (y := 175) (vs := [mR 118]) (S' := []) (v := none) (h' := mkh (m_upd (m_set μ 118 21 (1)) 118 Ha) c s) rfl rfl rfl (hca) ?_
    show Rn PT none kX12_readOn 15 [some (mR 118), some (mI (209)), some (mI (6)), none, none] [] (mkh (m_upd (m_set μ 118 21 (1)) 118 Ha) c s) _
    refine rn_aload_n (k' := 16) rfl rfl rfl ?_
    refine rn_iconst (k' := 17) rfl rfl ?_
    refine rn_aload_n (k' := 18) rfl rfl rfl ?_
    refine rn_getR (k' := 19) rfl rfl K0_118 (by decide) rfl R0_118_7 ?_
    refine rn_iconst (k' := 20) rfl rfl ?_
    refine rn_iaload (k' := 21) rfl rfl K0_121 (by omega) (by omega) ?_
    show Rn PT none kX12_readOn 21 [some (mR 118), some (mI (209)), some (mI (6)), none, none] [mI (μ 121 0), mI (0), mR 118] (mkh (m_upd (m_set μ 118 21 (1)) 118 Ha) c s) _
    refine rn_iconst (k' := 22) rfl rfl ?_
    refine rn_isub (k' := 23) rfl rfl (by omega) ?_
    obtain ⟨H0, ⟨hm0, hv0, hf0⟩, hc0⟩ := g_takes (μ := (m_upd (m_set μ 118 21 (1)) 118 Ha)) (c := c) (s := s) (b := b) (n := n) (m := m) (p := (tkN b n m p)) (lo := 0) (hi := (μ 121 0) - 1) hM0 e0
    have hM1 : MSt (m_upd (m_upd (m_set μ 118 21 (1)) 118 Ha) 118 H0) b n m (tkN b n m (tkN b n m p)) := ⟨hM0.1, hM0.2.1, hM0.2.2.1, (tkN_b hM0.2.2.2.1).2.1, hm0⟩
    have kk0 := eN_ok e0
    refine rn_callP (k' := 24) (y := 181) (vs := [mR 118, mI (0), mI ((μ 121 0) - 1)]) (S' := []) (v := some (mI (1))) (h' := mkh (m_upd (m_upd (m_set μ 118 21 (1)) 118 Ha) 118 H0) c s) rfl rfl rfl (hc0) ?_
    show Rn PT none kX12_readOn 24 [some (mR 118), some (mI (209)), some (mI (6)), none, none] [mI (1)] (mkh (m_upd (m_upd (m_set μ 118 21 (1)) 118 Ha) 118 H0) c s) _
    refine rn_if_ne (k' := 25) rfl rfl (fun hc3 => ?_) (fun hc3 => ?_)
    · skip
      refine rn_aload_n (k' := 28) rfl rfl rfl ?_
      refine rn_getI (k' := 29) rfl rfl K0_118 (by decide) rfl ?_
      show Rn PT none kX12_readOn 29 [some (mR 118), some (mI (209)), some (mI (6)), none, none] [mI (H0 18)] (mkh (m_upd (m_upd (m_set μ 118 21 (1)) 118 Ha) 118 H0) c s) _
      refine rn_istore_n (k' := 30) (L' := [some (mR 118), some (mI (209)), some (mI (6)), some (mI (H0 18)), none]) rfl rfl (Nat.le_of_ble_eq_true rfl) rfl ?_
      obtain ⟨_, _, u12, u11, _, _, u14, _⟩ := hm0
      have tx := tk_num kk0.1
      obtain ⟨k2, k3, k4⟩ := eN_ok e1
      have hu : H0 11 = 2 := by rw [u11]; exact mkk_2.mpr k2
      have hu14 := u14 k2
      have tn := tk_num k2
      have hi0 : (209 + (10 * H0 14 + H0 18)).toNat = 209 + j0 := by omega
      have hr0 : μ 121 (209 + (10 * H0 14 + H0 18)).toNat = μ 121 (209 + j0) := by rw [hi0]
      refine rn_aload_n (k' := 31) rfl rfl rfl ?_
      refine rn_getI (k' := 32) rfl rfl K0_118 (by decide) rfl ?_
      show Rn PT none kX12_readOn 32 [some (mR 118), some (mI (209)), some (mI (6)), some (mI (H0 18)), none] [mI (H0 11)] (mkh (m_upd (m_upd (m_set μ 118 21 (1)) 118 Ha) 118 H0) c s) _
      refine rn_iconst (k' := 33) rfl rfl ?_
      refine rn_icmp_eq (k' := 34) rfl rfl (fun hc1 => ?_) (fun hc1 => ?_)
      · skip
        refine rn_aload_n (k' := 39) rfl rfl rfl ?_
        refine rn_getI (k' := 40) rfl rfl K0_118 (by decide) rfl ?_
        show Rn PT none kX12_readOn 40 [some (mR 118), some (mI (209)), some (mI (6)), some (mI (H0 18)), none] [mI (H0 14)] (mkh (m_upd (m_upd (m_set μ 118 21 (1)) 118 Ha) 118 H0) c s) _
        refine rn_aload_n (k' := 41) rfl rfl rfl ?_
        refine rn_getR (k' := 42) rfl rfl K0_118 (by decide) rfl R0_118_7 ?_
        refine rn_iconst (k' := 43) rfl rfl ?_
        refine rn_iaload (k' := 44) rfl rfl K0_121 (by omega) (by omega) ?_
        show Rn PT none kX12_readOn 44 [some (mR 118), some (mI (209)), some (mI (6)), some (mI (H0 18)), none] [mI (μ 121 1), mI (H0 14)] (mkh (m_upd (m_upd (m_set μ 118 21 (1)) 118 Ha) 118 H0) c s) _
        refine rn_icmp_lt (k' := 45) rfl rfl (fun hc2 => ?_) (fun hc2 => ?_)
        · skip
          refine rn_bipush (k' := 50) rfl rfl ?_
          refine rn_aload_n (k' := 51) rfl rfl rfl ?_
          refine rn_getI (k' := 52) rfl rfl K0_118 (by decide) rfl ?_
          show Rn PT none kX12_readOn 52 [some (mR 118), some (mI (209)), some (mI (6)), some (mI (H0 18)), none] [mI (H0 14), mI (10)] (mkh (m_upd (m_upd (m_set μ 118 21 (1)) 118 Ha) 118 H0) c s) _
          refine rn_imul (k' := 53) rfl rfl (by omega) ?_
          refine rn_iload_n (k' := 54) rfl rfl rfl ?_
          refine rn_iadd (k' := 55) rfl rfl (by omega) ?_
          refine rn_istore (k' := 56) (L' := [some (mR 118), some (mI (209)), some (mI (6)), some (mI (H0 18)), some (mI ((10 * (H0 14)) + (H0 18)))]) rfl rfl (Nat.le_of_ble_eq_true rfl) rfl ?_
          refine rn_aload_n (k' := 57) rfl rfl rfl ?_
          refine rn_getR (k' := 58) rfl rfl K0_118 (by decide) rfl R0_118_7 ?_
          refine rn_iload_n (k' := 59) rfl rfl rfl ?_
          refine rn_iload (k' := 60) rfl rfl rfl ?_
          refine rn_iadd (k' := 61) rfl rfl (by omega) ?_
          refine rn_iaload (k' := 62) rfl rfl K0_121 (by omega) (by omega) ?_
          show Rn PT none kX12_readOn 62 [some (mR 118), some (mI (209)), some (mI (6)), some (mI (H0 18)), some (mI ((10 * (H0 14)) + (H0 18)))] [mI (μ 121 ((209 + ((10 * (H0 14)) + (H0 18))).toNat))] (mkh (m_upd (m_upd (m_set μ 118 21 (1)) 118 Ha) 118 H0) c s) _
          rw [hr0]
          refine rn_if_le (k' := 63) rfl rfl (fun hc3 => ?_) (fun hc3 => ?_)
          · skip
            refine rn_aload_n (k' := 68) rfl rfl rfl ?_
            obtain ⟨Hb, ⟨hmb, hfb_⟩, hcb⟩ := g_next2 (μ := (m_upd (m_upd (m_set μ 118 21 (1)) 118 Ha) 118 H0)) (c := c) (s := s) (b := b) (n := n) (m := m) (p := (tkN b n m (tkN b n m p))) hM1 (by omega)
            have hfb : FRt Hb _ := hfb_.t
            have hM2 : MSt (m_upd (m_upd (m_upd (m_set μ 118 21 (1)) 118 Ha) 118 H0) 118 Hb) b n m (tkN b n m (tkN b n m (tkN b n m p))) := ⟨hM1.1, hM1.2.1, hM1.2.2.1, (tkN_b hM1.2.2.2.1).2.1, hmb⟩
            refine rn_callP (k' := 69) (y := 175) (vs := [mR 118]) (S' := []) (v := none) (h' := mkh (m_upd (m_upd (m_upd (m_set μ 118 21 (1)) 118 Ha) 118 H0) 118 Hb) c s) rfl rfl rfl (hcb) ?_
            show Rn PT none kX12_readOn 69 [some (mR 118), some (mI (209)), some (mI (6)), some (mI (H0 18)), some (mI ((10 * (H0 14)) + (H0 18)))] [] (mkh (m_upd (m_upd (m_upd (m_set μ 118 21 (1)) 118 Ha) 118 H0) 118 Hb) c s) _
            refine rn_aload_n (k' := 70) rfl rfl rfl ?_
            refine rn_iconst (k' := 71) rfl rfl ?_
            refine rn_putI (k' := 72) rfl rfl K0_118 (by decide) rfl ?_
            refine rn_iload_n (k' := 73) rfl rfl rfl ?_
            refine rn_sipush (k' := 74) rfl rfl ?_
            refine rn_icmp_eq (k' := 75) rfl rfl (fun hc5 => ?_) (fun hc5 => ?_)
            · exfalso; omega
            · skip
              refine rn_aload_n (k' := 76) rfl rfl rfl ?_
              refine rn_iconst (k' := 77) rfl rfl ?_
              refine rn_bipush (k' := 78) rfl rfl ?_
              obtain ⟨H2, ⟨hm2, hv2, hf2⟩, hc2⟩ := g_takes (μ := (m_set (m_upd (m_upd (m_upd (m_set μ 118 21 (1)) 118 Ha) 118 H0) 118 Hb) 118 18 (0))) (c := c) (s := s) (b := b) (n := n) (m := m) (p := (tkN b n m (tkN b n m (tkN b n m p)))) (lo := 0) (hi := 99) hM2 e2
              have hM3 : MSt (m_upd (m_set (m_upd (m_upd (m_upd (m_set μ 118 21 (1)) 118 Ha) 118 H0) 118 Hb) 118 18 (0)) 118 H2) b n m (tkN b n m (tkN b n m (tkN b n m (tkN b n m p)))) := ⟨hM2.1, hM2.2.1, hM2.2.2.1, (tkN_b hM2.2.2.2.1).2.1, hm2⟩
              have kk2 := eN_ok e2
              refine rn_callP (k' := 79) (y := 181) (vs := [mR 118, mI (0), mI (99)]) (S' := []) (v := some (mI (1))) (h' := mkh (m_upd (m_set (m_upd (m_upd (m_upd (m_set μ 118 21 (1)) 118 Ha) 118 H0) 118 Hb) 118 18 (0)) 118 H2) c s) rfl rfl rfl (hc2) ?_
              show Rn PT none kX12_readOn 79 [some (mR 118), some (mI (209)), some (mI (6)), some (mI (H0 18)), some (mI ((10 * (H0 14)) + (H0 18)))] [mI (1)] (mkh (m_upd (m_set (m_upd (m_upd (m_upd (m_set μ 118 21 (1)) 118 Ha) 118 H0) 118 Hb) 118 18 (0)) 118 H2) c s) _
              refine rn_if_ne (k' := 80) rfl rfl (fun hc6 => ?_) (fun hc6 => ?_)
              · skip
                refine rn_aload_n (k' := 83) rfl rfl rfl ?_
                refine rn_getR (k' := 84) rfl rfl K0_118 (by decide) rfl R0_118_7 ?_
                refine rn_iload_n (k' := 85) rfl rfl rfl ?_
                refine rn_iload (k' := 86) rfl rfl rfl ?_
                refine rn_iadd (k' := 87) rfl rfl (by omega) ?_
                refine rn_aload_n (k' := 88) rfl rfl rfl ?_
                refine rn_getI (k' := 89) rfl rfl K0_118 (by decide) rfl ?_
                show Rn PT none kX12_readOn 89 [some (mR 118), some (mI (209)), some (mI (6)), some (mI (H0 18)), some (mI ((10 * (H0 14)) + (H0 18)))] [mI (H2 18), mI (209 + ((10 * (H0 14)) + (H0 18))), mR 121] (mkh (m_upd (m_set (m_upd (m_upd (m_upd (m_set μ 118 21 (1)) 118 Ha) 118 H0) 118 Hb) 118 18 (0)) 118 H2) c s) _
                refine rn_iconst (k' := 90) rfl rfl ?_
                refine rn_iadd (k' := 91) rfl rfl (by omega) ?_
                refine rn_iastore (k' := 92) rfl rfl K0_121 (by omega) (by omega) ?_
                refine rn_aload_n (k' := 93) rfl rfl rfl ?_
                refine rn_getR (k' := 94) rfl rfl K0_118 (by decide) rfl R0_118_7 ?_
                refine rn_iload_n (k' := 95) rfl rfl rfl ?_
                refine rn_dup2 (k' := 96) rfl rfl ?_
                refine rn_iaload (k' := 97) rfl rfl K0_121 (by omega) (by omega) ?_
                show Rn PT none kX12_readOn 97 [some (mR 118), some (mI (209)), some (mI (6)), some (mI (H0 18)), some (mI ((10 * (H0 14)) + (H0 18)))] [mI ((m_set (m_upd (m_set (m_upd (m_upd (m_upd (m_set μ 118 21 (1)) 118 Ha) 118 H0) 118 Hb) 118 18 (0)) 118 H2) 121 ((209 + ((10 * (H0 14)) + (H0 18))).toNat) ((H2 18) + 1)) 121 6), mI (6), mR 121] (mkh (m_set (m_upd (m_set (m_upd (m_upd (m_upd (m_set μ 118 21 (1)) 118 Ha) 118 H0) 118 Hb) 118 18 (0)) 118 H2) 121 ((209 + ((10 * (H0 14)) + (H0 18))).toNat) ((H2 18) + 1)) c s) _
                rw [(show (m_set (m_upd (m_set (m_upd (m_upd (m_upd (m_set μ 118 21 (1)) 118 Ha) 118 H0) 118 Hb) 118 18 (0)) 118 H2) 121 ((209 + ((10 * (H0 14)) + (H0 18))).toNat) ((H2 18) + 1)) 121 6 = μ 121 6 from set_mis (by omega))]
                refine rn_iconst (k' := 98) rfl rfl ?_
                refine rn_iadd (k' := 99) rfl rfl (by omega) ?_
                refine rn_iastore (k' := 100) rfl rfl K0_121 (by omega) (by omega) ?_
                refine rn_iconst (k' := 101) rfl rfl ?_
                refine rn_iret rfl (Or.inr (by omega)) ?_
                refine ⟨_, rfl, hM3, ⟨(MFr.s2 (MFr.s2 (MFr.u (MFr.s (MFr.u (MFr.u (MFr.u (MFr.s MFr.r (by decide)) hfa) hf0) hfb) (by decide)) hf2) (.inl rfl)) (.inl rfl)), ((hf2 15 (by decide) (by decide) (by decide) (by decide) (by decide) (by decide) (by decide)).trans ((hfb 15 (by decide) (by decide) (by decide) (by decide) (by decide) (by decide) (by decide)).trans ((hf0 15 (by decide) (by decide) (by decide) (by decide) (by decide) (by decide) (by decide)).trans ((hfa 15 (by decide) (by decide) (by decide) (by decide) (by decide) (by decide) (by decide)).trans rfl))))⟩, ((hf2 20 (by decide) (by decide) (by decide) (by decide) (by decide) (by decide) (by decide)).trans ((hfb 20 (by decide) (by decide) (by decide) (by decide) (by decide) (by decide) (by decide)).trans ((hf0 20 (by decide) (by decide) (by decide) (by decide) (by decide) (by decide) (by decide)).trans ((hfa 20 (by decide) (by decide) (by decide) (by decide) (by decide) (by decide) (by decide)).trans rfl)))), ((hf2 21 (by decide) (by decide) (by decide) (by decide) (by decide) (by decide) (by decide)).trans ((hfb 21 (by decide) (by decide) (by decide) (by decide) (by decide) (by decide) (by decide)).trans ((hf0 21 (by decide) (by decide) (by decide) (by decide) (by decide) (by decide) (by decide)).trans ((hfa 21 (by decide) (by decide) (by decide) (by decide) (by decide) (by decide) (by decide)).trans rfl)))), ?_, ?_, (fun j hj2 hj3 => (set_mis hj3).trans (set_mis (by omega))), rfl⟩
                · refine (set_mis (by omega)).trans ((set_hit hi0).trans ?_)
                  show H2 18 + 1 = _; rw [hv2]
                · first | rfl | exact (set_hit rfl)
              · exfalso; omega
          · exfalso; omega
        · exfalso; omega
      · exfalso; omega
    · exfalso; omega
  · exfalso; omega
set_option maxHeartbeats 1000000 in
theorem m_thing2_full {μ : Nat → Nat → Int} {c s : Nat} {b : Nat → Int} {n m p : Nat} (hM : MSt μ b n m p) (hk : tkK b n m p = 1) (c8 : 0 ≤ μ 121 0 ∧ μ 121 0 ≤ 10) (c9 : 0 ≤ μ 121 1 ∧ μ 121 1 ≤ 10) (ccn : 0 ≤ μ 121 7 ∧ μ 121 7 ≤ 12) (hf12 : μ 121 7 = 12) : ∃ ν', (ν' 118 15 = 4 ∧ ν' 118 16 = ((tkP b n m p : Nat) : Int) ∧ MFr μ ν') ∧ Cl PT 188 [mR 118, mI 309, mI 7] (mkh μ c s) (fun r => r = (some (some (mI 0)), mkh ν' c s)) := by
  refine Cl.ex (g := fun ν' => (some (some (mI 0)), mkh ν' c s)) ?_
  refine ⟨_, PT_188, Nat.le_of_ble_eq_true rfl, ?_⟩
  show Rn PT none kX12_readOn 0 [some (mR 118), some (mI (309)), some (mI (7)), none, none] [] (mkh μ c s) _
  refine rn_aload_n (k' := 1) rfl rfl rfl ?_
  refine rn_getR (k' := 2) rfl rfl K0_118 (by decide) rfl R0_118_7 ?_
  refine rn_iload_n (k' := 3) rfl rfl rfl ?_
  refine rn_iaload (k' := 4) rfl rfl K0_121 (by omega) (by omega) ?_
  show Rn PT none kX12_readOn 4 [some (mR 118), some (mI (309)), some (mI (7)), none, none] [mI (μ 121 7)] (mkh μ c s) _
  refine rn_bipush (k' := 5) rfl rfl ?_
  refine rn_icmp_ne (k' := 6) rfl rfl (fun hc1 => ?_) (fun hc1 => ?_)
  · exfalso; omega
  · skip
    refine rn_aload_n (k' := 7) rfl rfl rfl ?_
    refine rn_iconst (k' := 8) rfl rfl ?_
    refine rn_callP (k' := 9) (y := 176) (vs := [mR 118, mI (4)]) (S' := []) (v := some (mI (0))) (h' := mkh (m_set (m_set μ 118 15 (4)) 118 16 (μ 118 12)) c s) rfl rfl rfl (g_bad (μ := μ) (e := 4)) ?_
    show Rn PT none kX12_readOn 9 [some (mR 118), some (mI (309)), some (mI (7)), none, none] [mI (0)] (mkh (m_set (m_set μ 118 15 (4)) 118 16 (μ 118 12)) c s) _
    refine rn_iret rfl (Or.inr (by omega)) ?_
    exact ⟨_, rfl, rfl, hM.2.2.2.2.2.2.1, (MFr.s (MFr.s MFr.r (by decide)) (by decide))⟩
set_option maxHeartbeats 1000000 in
theorem m_thing2_x0 {μ : Nat → Nat → Int} {c s : Nat} {b : Nat → Int} {n m p : Nat} (hM : MSt μ b n m p) (hk : tkK b n m p = 1) (c8 : 0 ≤ μ 121 0 ∧ μ 121 0 ≤ 10) (c9 : 0 ≤ μ 121 1 ∧ μ 121 1 ≤ 10) (ccn : 0 ≤ μ 121 7 ∧ μ 121 7 ≤ 12) (hf12 : ¬ μ 121 7 = 12) (e0 : ¬ eN b n m (tkN b n m p) 0 (μ 121 0 - 1) = 0) : ∃ ν', (ν' 118 15 = eN b n m (tkN b n m p) 0 (μ 121 0 - 1) ∧ ν' 118 16 = ((tkP b n m (tkN b n m p) : Nat) : Int) ∧ MFr μ ν') ∧ Cl PT 188 [mR 118, mI 309, mI 7] (mkh μ c s) (fun r => r = (some (some (mI 0)), mkh ν' c s)) := by
  refine Cl.ex (g := fun ν' => (some (some (mI 0)), mkh ν' c s)) ?_
  refine ⟨_, PT_188, Nat.le_of_ble_eq_true rfl, ?_⟩
  show Rn PT none kX12_readOn 0 [some (mR 118), some (mI (309)), some (mI (7)), none, none] [] (mkh μ c s) _
  refine rn_aload_n (k' := 1) rfl rfl rfl ?_
  refine rn_getR (k' := 2) rfl rfl K0_118 (by decide) rfl R0_118_7 ?_
  refine rn_iload_n (k' := 3) rfl rfl rfl ?_
  refine rn_iaload (k' := 4) rfl rfl K0_121 (by omega) (by omega) ?_
  show Rn PT none kX12_readOn 4 [some (mR 118), some (mI (309)), some (mI (7)), none, none] [mI (μ 121 7)] (mkh μ c s) _
  refine rn_bipush (k' := 5) rfl rfl ?_
  refine rn_icmp_ne (k' := 6) rfl rfl (fun hc1 => ?_) (fun hc1 => ?_)
  · skip
    refine rn_aload_n (k' := 11) rfl rfl rfl ?_
    refine rn_iconst (k' := 12) rfl rfl ?_
    refine rn_putZ (k' := 13) rfl rfl K0_118 (by decide) rfl (by omega) ?_
    refine rn_aload_n (k' := 14) rfl rfl rfl ?_
    obtain ⟨Ha, ⟨hma, hfa_⟩, hca⟩ := g_next2 (μ := (m_set μ 118 21 (1))) (c := c) (s := s) (b := b) (n := n) (m := m) (p := p) hM (by omega)
    have hfa : FRt Ha _ := hfa_.t
    have hM0 : MSt (m_upd (m_set μ 118 21 (1)) 118 Ha) b n m (tkN b n m p) := ⟨hM.1, hM.2.1, hM.2.2.1, (tkN_b hM.2.2.2.1).2.1, hma⟩
    refine rn_callP (k' := 15) (y := 175) (vs := [mR 118]) (S' := []) (v := none) (h' := mkh (m_upd (m_set μ 118 21 (1)) 118 Ha) c s) rfl rfl rfl (hca) ?_
    show Rn PT none kX12_readOn 15 [some (mR 118), some (mI (309)), some (mI (7)), none, none] [] (mkh (m_upd (m_set μ 118 21 (1)) 118 Ha) c s) _
    refine rn_aload_n (k' := 16) rfl rfl rfl ?_
    refine rn_iconst (k' := 17) rfl rfl ?_
    refine rn_aload_n (k' := 18) rfl rfl rfl ?_
    refine rn_getR (k' := 19) rfl rfl K0_118 (by decide) rfl R0_118_7 ?_
    refine rn_iconst (k' := 20) rfl rfl ?_
    refine rn_iaload (k' := 21) rfl rfl K0_121 (by omega) (by omega) ?_
    show Rn PT none kX12_readOn 21 [some (mR 118), some (mI (309)), some (mI (7)), none, none] [mI (μ 121 0), mI (0), mR 118] (mkh (m_upd (m_set μ 118 21 (1)) 118 Ha) c s) _
    refine rn_iconst (k' := 22) rfl rfl ?_
    refine rn_isub (k' := 23) rfl rfl (by omega) ?_
    have hc0 := g_takesX (μ := (m_upd (m_set μ 118 21 (1)) 118 Ha)) (c := c) (s := s) (b := b) (n := n) (m := m) (p := (tkN b n m p)) (lo := 0) (hi := (μ 121 0) - 1) hM0 e0
    refine rn_callP (k' := 24) (y := 181) (vs := [mR 118, mI (0), mI ((μ 121 0) - 1)]) (S' := []) (v := some (mI (0))) (h' := mkh (m_set (m_set (m_upd (m_set μ 118 21 (1)) 118 Ha) 118 15 (eN b n m (tkN b n m p) (0) ((μ 121 0) - 1))) 118 16 (((tkP b n m (tkN b n m p) : Nat) : Int))) c s) rfl rfl rfl (hc0) ?_
    show Rn PT none kX12_readOn 24 [some (mR 118), some (mI (309)), some (mI (7)), none, none] [mI (0)] (mkh (m_set (m_set (m_upd (m_set μ 118 21 (1)) 118 Ha) 118 15 (eN b n m (tkN b n m p) (0) ((μ 121 0) - 1))) 118 16 (((tkP b n m (tkN b n m p) : Nat) : Int))) c s) _
    refine rn_if_ne (k' := 25) rfl rfl (fun hc3 => ?_) (fun hc3 => ?_)
    · exfalso; omega
    · skip
      refine rn_iconst (k' := 26) rfl rfl ?_
      refine rn_iret rfl (Or.inr (by omega)) ?_
      exact ⟨_, rfl, rfl, rfl, (MFr.s (MFr.s (MFr.u (MFr.s MFr.r (by decide)) hfa) (by decide)) (by decide))⟩
  · exfalso; omega
set_option maxHeartbeats 1000000 in
theorem m_thing2_x1 {μ : Nat → Nat → Int} {c s : Nat} {b : Nat → Int} {n m p : Nat} (hM : MSt μ b n m p) (hk : tkK b n m p = 1) (c8 : 0 ≤ μ 121 0 ∧ μ 121 0 ≤ 10) (c9 : 0 ≤ μ 121 1 ∧ μ 121 1 ≤ 10) (ccn : 0 ≤ μ 121 7 ∧ μ 121 7 ≤ 12) (hf12 : ¬ μ 121 7 = 12) (e0 : eN b n m (tkN b n m p) 0 (μ 121 0 - 1) = 0) (e1 : ¬ eN b n m (tkN b n m (tkN b n m p)) 0 (μ 121 1 - 1) = 0) : ∃ ν', (ν' 118 15 = eN b n m (tkN b n m (tkN b n m p)) 0 (μ 121 1 - 1) ∧ ν' 118 16 = ((tkP b n m (tkN b n m (tkN b n m p)) : Nat) : Int) ∧ MFr μ ν') ∧ Cl PT 188 [mR 118, mI 309, mI 7] (mkh μ c s) (fun r => r = (some (some (mI 0)), mkh ν' c s)) := by
  refine Cl.ex (g := fun ν' => (some (some (mI 0)), mkh ν' c s)) ?_
  refine ⟨_, PT_188, Nat.le_of_ble_eq_true rfl, ?_⟩
  show Rn PT none kX12_readOn 0 [some (mR 118), some (mI (309)), some (mI (7)), none, none] [] (mkh μ c s) _
  refine rn_aload_n (k' := 1) rfl rfl rfl ?_
  refine rn_getR (k' := 2) rfl rfl K0_118 (by decide) rfl R0_118_7 ?_
  refine rn_iload_n (k' := 3) rfl rfl rfl ?_
  refine rn_iaload (k' := 4) rfl rfl K0_121 (by omega) (by omega) ?_
  show Rn PT none kX12_readOn 4 [some (mR 118), some (mI (309)), some (mI (7)), none, none] [mI (μ 121 7)] (mkh μ c s) _
  refine rn_bipush (k' := 5) rfl rfl ?_
  refine rn_icmp_ne (k' := 6) rfl rfl (fun hc1 => ?_) (fun hc1 => ?_)
  · skip
    refine rn_aload_n (k' := 11) rfl rfl rfl ?_
    refine rn_iconst (k' := 12) rfl rfl ?_
    refine rn_putZ (k' := 13) rfl rfl K0_118 (by decide) rfl (by omega) ?_
    refine rn_aload_n (k' := 14) rfl rfl rfl ?_
    obtain ⟨Ha, ⟨hma, hfa_⟩, hca⟩ := g_next2 (μ := (m_set μ 118 21 (1))) (c := c) (s := s) (b := b) (n := n) (m := m) (p := p) hM (by omega)
    have hfa : FRt Ha _ := hfa_.t
    have hM0 : MSt (m_upd (m_set μ 118 21 (1)) 118 Ha) b n m (tkN b n m p) := ⟨hM.1, hM.2.1, hM.2.2.1, (tkN_b hM.2.2.2.1).2.1, hma⟩
    refine rn_callP (k' := 15) (y := 175) (vs := [mR 118]) (S' := []) (v := none) (h' := mkh (m_upd (m_set μ 118 21 (1)) 118 Ha) c s) rfl rfl rfl (hca) ?_
    show Rn PT none kX12_readOn 15 [some (mR 118), some (mI (309)), some (mI (7)), none, none] [] (mkh (m_upd (m_set μ 118 21 (1)) 118 Ha) c s) _
    refine rn_aload_n (k' := 16) rfl rfl rfl ?_
    refine rn_iconst (k' := 17) rfl rfl ?_
    refine rn_aload_n (k' := 18) rfl rfl rfl ?_
    refine rn_getR (k' := 19) rfl rfl K0_118 (by decide) rfl R0_118_7 ?_
    refine rn_iconst (k' := 20) rfl rfl ?_
    refine rn_iaload (k' := 21) rfl rfl K0_121 (by omega) (by omega) ?_
    show Rn PT none kX12_readOn 21 [some (mR 118), some (mI (309)), some (mI (7)), none, none] [mI (μ 121 0), mI (0), mR 118] (mkh (m_upd (m_set μ 118 21 (1)) 118 Ha) c s) _
    refine rn_iconst (k' := 22) rfl rfl ?_
    refine rn_isub (k' := 23) rfl rfl (by omega) ?_
    obtain ⟨H0, ⟨hm0, hv0, hf0⟩, hc0⟩ := g_takes (μ := (m_upd (m_set μ 118 21 (1)) 118 Ha)) (c := c) (s := s) (b := b) (n := n) (m := m) (p := (tkN b n m p)) (lo := 0) (hi := (μ 121 0) - 1) hM0 e0
    have hM1 : MSt (m_upd (m_upd (m_set μ 118 21 (1)) 118 Ha) 118 H0) b n m (tkN b n m (tkN b n m p)) := ⟨hM0.1, hM0.2.1, hM0.2.2.1, (tkN_b hM0.2.2.2.1).2.1, hm0⟩
    have kk0 := eN_ok e0
    refine rn_callP (k' := 24) (y := 181) (vs := [mR 118, mI (0), mI ((μ 121 0) - 1)]) (S' := []) (v := some (mI (1))) (h' := mkh (m_upd (m_upd (m_set μ 118 21 (1)) 118 Ha) 118 H0) c s) rfl rfl rfl (hc0) ?_
    show Rn PT none kX12_readOn 24 [some (mR 118), some (mI (309)), some (mI (7)), none, none] [mI (1)] (mkh (m_upd (m_upd (m_set μ 118 21 (1)) 118 Ha) 118 H0) c s) _
    refine rn_if_ne (k' := 25) rfl rfl (fun hc3 => ?_) (fun hc3 => ?_)
    · skip
      refine rn_aload_n (k' := 28) rfl rfl rfl ?_
      refine rn_getI (k' := 29) rfl rfl K0_118 (by decide) rfl ?_
      show Rn PT none kX12_readOn 29 [some (mR 118), some (mI (309)), some (mI (7)), none, none] [mI (H0 18)] (mkh (m_upd (m_upd (m_set μ 118 21 (1)) 118 Ha) 118 H0) c s) _
      refine rn_istore_n (k' := 30) (L' := [some (mR 118), some (mI (309)), some (mI (7)), some (mI (H0 18)), none]) rfl rfl (Nat.le_of_ble_eq_true rfl) rfl ?_
      obtain ⟨_, _, u12, u11, _, _, u14, _⟩ := hm0
      have tx := tk_num kk0.1
      by_cases k2 : tkK b n m (tkN b n m (tkN b n m p)) = 2
      · have hu : H0 11 = 2 := by rw [u11]; exact mkk_2.mpr k2
        have hu14 := u14 k2
        have tn := tk_num k2
        have hgt : μ 121 1 - 1 < tkV b n m (tkN b n m (tkN b n m p)) := Classical.byContradiction (fun z => e1 (eN_0 k2 (by omega)))
        refine rn_aload_n (k' := 31) rfl rfl rfl ?_
        refine rn_getI (k' := 32) rfl rfl K0_118 (by decide) rfl ?_
        show Rn PT none kX12_readOn 32 [some (mR 118), some (mI (309)), some (mI (7)), some (mI (H0 18)), none] [mI (H0 11)] (mkh (m_upd (m_upd (m_set μ 118 21 (1)) 118 Ha) 118 H0) c s) _
        refine rn_iconst (k' := 33) rfl rfl ?_
        refine rn_icmp_eq (k' := 34) rfl rfl (fun hc1 => ?_) (fun hc1 => ?_)
        · skip
          refine rn_aload_n (k' := 39) rfl rfl rfl ?_
          refine rn_getI (k' := 40) rfl rfl K0_118 (by decide) rfl ?_
          show Rn PT none kX12_readOn 40 [some (mR 118), some (mI (309)), some (mI (7)), some (mI (H0 18)), none] [mI (H0 14)] (mkh (m_upd (m_upd (m_set μ 118 21 (1)) 118 Ha) 118 H0) c s) _
          refine rn_aload_n (k' := 41) rfl rfl rfl ?_
          refine rn_getR (k' := 42) rfl rfl K0_118 (by decide) rfl R0_118_7 ?_
          refine rn_iconst (k' := 43) rfl rfl ?_
          refine rn_iaload (k' := 44) rfl rfl K0_121 (by omega) (by omega) ?_
          show Rn PT none kX12_readOn 44 [some (mR 118), some (mI (309)), some (mI (7)), some (mI (H0 18)), none] [mI (μ 121 1), mI (H0 14)] (mkh (m_upd (m_upd (m_set μ 118 21 (1)) 118 Ha) 118 H0) c s) _
          refine rn_icmp_lt (k' := 45) rfl rfl (fun hc2 => ?_) (fun hc2 => ?_)
          · exfalso; omega
          · skip
            refine rn_aload_n (k' := 46) rfl rfl rfl ?_
            refine rn_iconst (k' := 47) rfl rfl ?_
            refine rn_callP (k' := 48) (y := 176) (vs := [mR 118, mI (2)]) (S' := []) (v := some (mI (0))) (h' := mkh (m_set (m_set (m_upd (m_upd (m_set μ 118 21 (1)) 118 Ha) 118 H0) 118 15 (2)) 118 16 (H0 12)) c s) rfl rfl rfl (g_bad (μ := (m_upd (m_upd (m_set μ 118 21 (1)) 118 Ha) 118 H0)) (e := 2)) ?_
            show Rn PT none kX12_readOn 48 [some (mR 118), some (mI (309)), some (mI (7)), some (mI (H0 18)), none] [mI (0)] (mkh (m_set (m_set (m_upd (m_upd (m_set μ 118 21 (1)) 118 Ha) 118 H0) 118 15 (2)) 118 16 (H0 12)) c s) _
            refine rn_iret rfl (Or.inr (by omega)) ?_
            refine ⟨_, rfl, ?_, u12, (MFr.s (MFr.s (MFr.u (MFr.u (MFr.s MFr.r (by decide)) hfa) hf0) (by decide)) (by decide))⟩
            rw [eN_2 k2 (by omega)]; rfl
        · exfalso; omega
      · have hu : ¬ H0 11 = 2 := by rw [u11]; exact fun z => k2 (mkk_2.mp z)
        refine rn_aload_n (k' := 31) rfl rfl rfl ?_
        refine rn_getI (k' := 32) rfl rfl K0_118 (by decide) rfl ?_
        show Rn PT none kX12_readOn 32 [some (mR 118), some (mI (309)), some (mI (7)), some (mI (H0 18)), none] [mI (H0 11)] (mkh (m_upd (m_upd (m_set μ 118 21 (1)) 118 Ha) 118 H0) c s) _
        refine rn_iconst (k' := 33) rfl rfl ?_
        refine rn_icmp_eq (k' := 34) rfl rfl (fun hc1 => ?_) (fun hc1 => ?_)
        · exfalso; omega
        · skip
          refine rn_aload_n (k' := 35) rfl rfl rfl ?_
          refine rn_iconst (k' := 36) rfl rfl ?_
          refine rn_callP (k' := 37) (y := 176) (vs := [mR 118, mI (1)]) (S' := []) (v := some (mI (0))) (h' := mkh (m_set (m_set (m_upd (m_upd (m_set μ 118 21 (1)) 118 Ha) 118 H0) 118 15 (1)) 118 16 (H0 12)) c s) rfl rfl rfl (g_bad (μ := (m_upd (m_upd (m_set μ 118 21 (1)) 118 Ha) 118 H0)) (e := 1)) ?_
          show Rn PT none kX12_readOn 37 [some (mR 118), some (mI (309)), some (mI (7)), some (mI (H0 18)), none] [mI (0)] (mkh (m_set (m_set (m_upd (m_upd (m_set μ 118 21 (1)) 118 Ha) 118 H0) 118 15 (1)) 118 16 (H0 12)) c s) _
          refine rn_iret rfl (Or.inr (by omega)) ?_
          refine ⟨_, rfl, ?_, u12, (MFr.s (MFr.s (MFr.u (MFr.u (MFr.s MFr.r (by decide)) hfa) hf0) (by decide)) (by decide))⟩
          rw [eN_1 k2]; rfl
    · exfalso; omega
  · exfalso; omega
set_option maxHeartbeats 1000000 in
theorem m_thing2_had {μ : Nat → Nat → Int} {c s : Nat} {b : Nat → Int} {n m p : Nat} (hM : MSt μ b n m p) (hk : tkK b n m p = 1) (c8 : 0 ≤ μ 121 0 ∧ μ 121 0 ≤ 10) (c9 : 0 ≤ μ 121 1 ∧ μ 121 1 ≤ 10) (ccn : 0 ≤ μ 121 7 ∧ μ 121 7 ≤ 12) (hf12 : ¬ μ 121 7 = 12) (e0 : eN b n m (tkN b n m p) 0 (μ 121 0 - 1) = 0) (e1 : eN b n m (tkN b n m (tkN b n m p)) 0 (μ 121 1 - 1) = 0) {j0 : Nat} (hj : 10 * tkV b n m (tkN b n m (tkN b n m p)) + tkV b n m (tkN b n m p) = (j0 : Int)) (hd : 0 < μ 121 (309 + j0)) : ∃ ν', (ν' 118 15 = 3 ∧ ν' 118 16 = ((tkP b n m (tkN b n m (tkN b n m p)) : Nat) : Int) ∧ MFr μ ν') ∧ Cl PT 188 [mR 118, mI 309, mI 7] (mkh μ c s) (fun r => r = (some (some (mI 0)), mkh ν' c s)) := by
  refine Cl.ex (g := fun ν' => (some (some (mI 0)), mkh ν' c s)) ?_
  refine ⟨_, PT_188, Nat.le_of_ble_eq_true rfl, ?_⟩
  show Rn PT none kX12_readOn 0 [some (mR 118), some (mI (309)), some (mI (7)), none, none] [] (mkh μ c s) _
  refine rn_aload_n (k' := 1) rfl rfl rfl ?_
  refine rn_getR (k' := 2) rfl rfl K0_118 (by decide) rfl R0_118_7 ?_
  refine rn_iload_n (k' := 3) rfl rfl rfl ?_
  refine rn_iaload (k' := 4) rfl rfl K0_121 (by omega) (by omega) ?_
  show Rn PT none kX12_readOn 4 [some (mR 118), some (mI (309)), some (mI (7)), none, none] [mI (μ 121 7)] (mkh μ c s) _
  refine rn_bipush (k' := 5) rfl rfl ?_
  refine rn_icmp_ne (k' := 6) rfl rfl (fun hc1 => ?_) (fun hc1 => ?_)
  · skip
    refine rn_aload_n (k' := 11) rfl rfl rfl ?_
    refine rn_iconst (k' := 12) rfl rfl ?_
    refine rn_putZ (k' := 13) rfl rfl K0_118 (by decide) rfl (by omega) ?_
    refine rn_aload_n (k' := 14) rfl rfl rfl ?_
    obtain ⟨Ha, ⟨hma, hfa_⟩, hca⟩ := g_next2 (μ := (m_set μ 118 21 (1))) (c := c) (s := s) (b := b) (n := n) (m := m) (p := p) hM (by omega)
    have hfa : FRt Ha _ := hfa_.t
    have hM0 : MSt (m_upd (m_set μ 118 21 (1)) 118 Ha) b n m (tkN b n m p) := ⟨hM.1, hM.2.1, hM.2.2.1, (tkN_b hM.2.2.2.1).2.1, hma⟩
    refine rn_callP (k' := 15) (y := 175) (vs := [mR 118]) (S' := []) (v := none) (h' := mkh (m_upd (m_set μ 118 21 (1)) 118 Ha) c s) rfl rfl rfl (hca) ?_
    show Rn PT none kX12_readOn 15 [some (mR 118), some (mI (309)), some (mI (7)), none, none] [] (mkh (m_upd (m_set μ 118 21 (1)) 118 Ha) c s) _
    refine rn_aload_n (k' := 16) rfl rfl rfl ?_
    refine rn_iconst (k' := 17) rfl rfl ?_
    refine rn_aload_n (k' := 18) rfl rfl rfl ?_
    refine rn_getR (k' := 19) rfl rfl K0_118 (by decide) rfl R0_118_7 ?_
    refine rn_iconst (k' := 20) rfl rfl ?_
    refine rn_iaload (k' := 21) rfl rfl K0_121 (by omega) (by omega) ?_
    show Rn PT none kX12_readOn 21 [some (mR 118), some (mI (309)), some (mI (7)), none, none] [mI (μ 121 0), mI (0), mR 118] (mkh (m_upd (m_set μ 118 21 (1)) 118 Ha) c s) _
    refine rn_iconst (k' := 22) rfl rfl ?_
    refine rn_isub (k' := 23) rfl rfl (by omega) ?_
    obtain ⟨H0, ⟨hm0, hv0, hf0⟩, hc0⟩ := g_takes (μ := (m_upd (m_set μ 118 21 (1)) 118 Ha)) (c := c) (s := s) (b := b) (n := n) (m := m) (p := (tkN b n m p)) (lo := 0) (hi := (μ 121 0) - 1) hM0 e0
    have hM1 : MSt (m_upd (m_upd (m_set μ 118 21 (1)) 118 Ha) 118 H0) b n m (tkN b n m (tkN b n m p)) := ⟨hM0.1, hM0.2.1, hM0.2.2.1, (tkN_b hM0.2.2.2.1).2.1, hm0⟩
    have kk0 := eN_ok e0
    refine rn_callP (k' := 24) (y := 181) (vs := [mR 118, mI (0), mI ((μ 121 0) - 1)]) (S' := []) (v := some (mI (1))) (h' := mkh (m_upd (m_upd (m_set μ 118 21 (1)) 118 Ha) 118 H0) c s) rfl rfl rfl (hc0) ?_
    show Rn PT none kX12_readOn 24 [some (mR 118), some (mI (309)), some (mI (7)), none, none] [mI (1)] (mkh (m_upd (m_upd (m_set μ 118 21 (1)) 118 Ha) 118 H0) c s) _
    refine rn_if_ne (k' := 25) rfl rfl (fun hc3 => ?_) (fun hc3 => ?_)
    · skip
      refine rn_aload_n (k' := 28) rfl rfl rfl ?_
      refine rn_getI (k' := 29) rfl rfl K0_118 (by decide) rfl ?_
      show Rn PT none kX12_readOn 29 [some (mR 118), some (mI (309)), some (mI (7)), none, none] [mI (H0 18)] (mkh (m_upd (m_upd (m_set μ 118 21 (1)) 118 Ha) 118 H0) c s) _
      refine rn_istore_n (k' := 30) (L' := [some (mR 118), some (mI (309)), some (mI (7)), some (mI (H0 18)), none]) rfl rfl (Nat.le_of_ble_eq_true rfl) rfl ?_
      obtain ⟨_, _, u12, u11, _, _, u14, _⟩ := hm0
      have tx := tk_num kk0.1
      obtain ⟨k2, k3, k4⟩ := eN_ok e1
      have hu : H0 11 = 2 := by rw [u11]; exact mkk_2.mpr k2
      have hu14 := u14 k2
      have tn := tk_num k2
      have hi0 : (309 + (10 * H0 14 + H0 18)).toNat = 309 + j0 := by omega
      have hr0 : μ 121 (309 + (10 * H0 14 + H0 18)).toNat = μ 121 (309 + j0) := by rw [hi0]
      refine rn_aload_n (k' := 31) rfl rfl rfl ?_
      refine rn_getI (k' := 32) rfl rfl K0_118 (by decide) rfl ?_
      show Rn PT none kX12_readOn 32 [some (mR 118), some (mI (309)), some (mI (7)), some (mI (H0 18)), none] [mI (H0 11)] (mkh (m_upd (m_upd (m_set μ 118 21 (1)) 118 Ha) 118 H0) c s) _
      refine rn_iconst (k' := 33) rfl rfl ?_
      refine rn_icmp_eq (k' := 34) rfl rfl (fun hc1 => ?_) (fun hc1 => ?_)
      · skip
        refine rn_aload_n (k' := 39) rfl rfl rfl ?_
        refine rn_getI (k' := 40) rfl rfl K0_118 (by decide) rfl ?_
        show Rn PT none kX12_readOn 40 [some (mR 118), some (mI (309)), some (mI (7)), some (mI (H0 18)), none] [mI (H0 14)] (mkh (m_upd (m_upd (m_set μ 118 21 (1)) 118 Ha) 118 H0) c s) _
        refine rn_aload_n (k' := 41) rfl rfl rfl ?_
        refine rn_getR (k' := 42) rfl rfl K0_118 (by decide) rfl R0_118_7 ?_
        refine rn_iconst (k' := 43) rfl rfl ?_
        refine rn_iaload (k' := 44) rfl rfl K0_121 (by omega) (by omega) ?_
        show Rn PT none kX12_readOn 44 [some (mR 118), some (mI (309)), some (mI (7)), some (mI (H0 18)), none] [mI (μ 121 1), mI (H0 14)] (mkh (m_upd (m_upd (m_set μ 118 21 (1)) 118 Ha) 118 H0) c s) _
        refine rn_icmp_lt (k' := 45) rfl rfl (fun hc2 => ?_) (fun hc2 => ?_)
        · skip
          refine rn_bipush (k' := 50) rfl rfl ?_
          refine rn_aload_n (k' := 51) rfl rfl rfl ?_
          refine rn_getI (k' := 52) rfl rfl K0_118 (by decide) rfl ?_
          show Rn PT none kX12_readOn 52 [some (mR 118), some (mI (309)), some (mI (7)), some (mI (H0 18)), none] [mI (H0 14), mI (10)] (mkh (m_upd (m_upd (m_set μ 118 21 (1)) 118 Ha) 118 H0) c s) _
          refine rn_imul (k' := 53) rfl rfl (by omega) ?_
          refine rn_iload_n (k' := 54) rfl rfl rfl ?_
          refine rn_iadd (k' := 55) rfl rfl (by omega) ?_
          refine rn_istore (k' := 56) (L' := [some (mR 118), some (mI (309)), some (mI (7)), some (mI (H0 18)), some (mI ((10 * (H0 14)) + (H0 18)))]) rfl rfl (Nat.le_of_ble_eq_true rfl) rfl ?_
          refine rn_aload_n (k' := 57) rfl rfl rfl ?_
          refine rn_getR (k' := 58) rfl rfl K0_118 (by decide) rfl R0_118_7 ?_
          refine rn_iload_n (k' := 59) rfl rfl rfl ?_
          refine rn_iload (k' := 60) rfl rfl rfl ?_
          refine rn_iadd (k' := 61) rfl rfl (by omega) ?_
          refine rn_iaload (k' := 62) rfl rfl K0_121 (by omega) (by omega) ?_
          show Rn PT none kX12_readOn 62 [some (mR 118), some (mI (309)), some (mI (7)), some (mI (H0 18)), some (mI ((10 * (H0 14)) + (H0 18)))] [mI (μ 121 ((309 + ((10 * (H0 14)) + (H0 18))).toNat))] (mkh (m_upd (m_upd (m_set μ 118 21 (1)) 118 Ha) 118 H0) c s) _
          rw [hr0]
          refine rn_if_le (k' := 63) rfl rfl (fun hc3 => ?_) (fun hc3 => ?_)
          · exfalso; omega
          · skip
            refine rn_aload_n (k' := 64) rfl rfl rfl ?_
            refine rn_iconst (k' := 65) rfl rfl ?_
            refine rn_callP (k' := 66) (y := 176) (vs := [mR 118, mI (3)]) (S' := []) (v := some (mI (0))) (h' := mkh (m_set (m_set (m_upd (m_upd (m_set μ 118 21 (1)) 118 Ha) 118 H0) 118 15 (3)) 118 16 (H0 12)) c s) rfl rfl rfl (g_bad (μ := (m_upd (m_upd (m_set μ 118 21 (1)) 118 Ha) 118 H0)) (e := 3)) ?_
            show Rn PT none kX12_readOn 66 [some (mR 118), some (mI (309)), some (mI (7)), some (mI (H0 18)), some (mI ((10 * (H0 14)) + (H0 18)))] [mI (0)] (mkh (m_set (m_set (m_upd (m_upd (m_set μ 118 21 (1)) 118 Ha) 118 H0) 118 15 (3)) 118 16 (H0 12)) c s) _
            refine rn_iret rfl (Or.inr (by omega)) ?_
            exact ⟨_, rfl, rfl, u12, (MFr.s (MFr.s (MFr.u (MFr.u (MFr.s MFr.r (by decide)) hfa) hf0) (by decide)) (by decide))⟩
        · exfalso; omega
      · exfalso; omega
    · exfalso; omega
  · exfalso; omega
set_option maxHeartbeats 1000000 in
theorem m_thing2_ok {μ : Nat → Nat → Int} {c s : Nat} {b : Nat → Int} {n m p : Nat} (hM : MSt μ b n m p) (hk : tkK b n m p = 1) (c8 : 0 ≤ μ 121 0 ∧ μ 121 0 ≤ 10) (c9 : 0 ≤ μ 121 1 ∧ μ 121 1 ≤ 10) (ccn : 0 ≤ μ 121 7 ∧ μ 121 7 ≤ 12) (hf12 : ¬ μ 121 7 = 12) (e0 : eN b n m (tkN b n m p) 0 (μ 121 0 - 1) = 0) (e1 : eN b n m (tkN b n m (tkN b n m p)) 0 (μ 121 1 - 1) = 0) {j0 : Nat} (hj : 10 * tkV b n m (tkN b n m (tkN b n m p)) + tkV b n m (tkN b n m p) = (j0 : Int)) (hd : ¬ 0 < μ 121 (309 + j0)) : ∃ ν', (MSt ν' b n m (tkN b n m (tkN b n m (tkN b n m p))) ∧ MFo μ ν' ∧ ν' 118 20 = μ 118 20 ∧ ν' 118 21 = 1 ∧ ν' 121 (309 + j0) = 1 ∧ ν' 121 7 = μ 121 7 + 1 ∧ (∀ j, ¬ j = (309 + j0) → ¬ j = 7 → ν' 121 j = μ 121 j) ∧ ν' 123 = μ 123) ∧ Cl PT 188 [mR 118, mI 309, mI 7] (mkh μ c s) (fun r => r = (some (some (mI 1)), mkh ν' c s)) := by
  refine Cl.ex (g := fun ν' => (some (some (mI 1)), mkh ν' c s)) ?_
  refine ⟨_, PT_188, Nat.le_of_ble_eq_true rfl, ?_⟩
  show Rn PT none kX12_readOn 0 [some (mR 118), some (mI (309)), some (mI (7)), none, none] [] (mkh μ c s) _
  refine rn_aload_n (k' := 1) rfl rfl rfl ?_
  refine rn_getR (k' := 2) rfl rfl K0_118 (by decide) rfl R0_118_7 ?_
  refine rn_iload_n (k' := 3) rfl rfl rfl ?_
  refine rn_iaload (k' := 4) rfl rfl K0_121 (by omega) (by omega) ?_
  show Rn PT none kX12_readOn 4 [some (mR 118), some (mI (309)), some (mI (7)), none, none] [mI (μ 121 7)] (mkh μ c s) _
  refine rn_bipush (k' := 5) rfl rfl ?_
  refine rn_icmp_ne (k' := 6) rfl rfl (fun hc1 => ?_) (fun hc1 => ?_)
  · skip
    refine rn_aload_n (k' := 11) rfl rfl rfl ?_
    refine rn_iconst (k' := 12) rfl rfl ?_
    refine rn_putZ (k' := 13) rfl rfl K0_118 (by decide) rfl (by omega) ?_
    refine rn_aload_n (k' := 14) rfl rfl rfl ?_
    obtain ⟨Ha, ⟨hma, hfa_⟩, hca⟩ := g_next2 (μ := (m_set μ 118 21 (1))) (c := c) (s := s) (b := b) (n := n) (m := m) (p := p) hM (by omega)
    have hfa : FRt Ha _ := hfa_.t
    have hM0 : MSt (m_upd (m_set μ 118 21 (1)) 118 Ha) b n m (tkN b n m p) := ⟨hM.1, hM.2.1, hM.2.2.1, (tkN_b hM.2.2.2.1).2.1, hma⟩
    refine rn_callP (k' := 15) (y := 175) (vs := [mR 118]) (S' := []) (v := none) (h' := mkh (m_upd (m_set μ 118 21 (1)) 118 Ha) c s) rfl rfl rfl (hca) ?_
    show Rn PT none kX12_readOn 15 [some (mR 118), some (mI (309)), some (mI (7)), none, none] [] (mkh (m_upd (m_set μ 118 21 (1)) 118 Ha) c s) _
    refine rn_aload_n (k' := 16) rfl rfl rfl ?_
    refine rn_iconst (k' := 17) rfl rfl ?_
    refine rn_aload_n (k' := 18) rfl rfl rfl ?_
    refine rn_getR (k' := 19) rfl rfl K0_118 (by decide) rfl R0_118_7 ?_
    refine rn_iconst (k' := 20) rfl rfl ?_
    refine rn_iaload (k' := 21) rfl rfl K0_121 (by omega) (by omega) ?_
    show Rn PT none kX12_readOn 21 [some (mR 118), some (mI (309)), some (mI (7)), none, none] [mI (μ 121 0), mI (0), mR 118] (mkh (m_upd (m_set μ 118 21 (1)) 118 Ha) c s) _
    refine rn_iconst (k' := 22) rfl rfl ?_
    refine rn_isub (k' := 23) rfl rfl (by omega) ?_
    obtain ⟨H0, ⟨hm0, hv0, hf0⟩, hc0⟩ := g_takes (μ := (m_upd (m_set μ 118 21 (1)) 118 Ha)) (c := c) (s := s) (b := b) (n := n) (m := m) (p := (tkN b n m p)) (lo := 0) (hi := (μ 121 0) - 1) hM0 e0
    have hM1 : MSt (m_upd (m_upd (m_set μ 118 21 (1)) 118 Ha) 118 H0) b n m (tkN b n m (tkN b n m p)) := ⟨hM0.1, hM0.2.1, hM0.2.2.1, (tkN_b hM0.2.2.2.1).2.1, hm0⟩
    have kk0 := eN_ok e0
    refine rn_callP (k' := 24) (y := 181) (vs := [mR 118, mI (0), mI ((μ 121 0) - 1)]) (S' := []) (v := some (mI (1))) (h' := mkh (m_upd (m_upd (m_set μ 118 21 (1)) 118 Ha) 118 H0) c s) rfl rfl rfl (hc0) ?_
    show Rn PT none kX12_readOn 24 [some (mR 118), some (mI (309)), some (mI (7)), none, none] [mI (1)] (mkh (m_upd (m_upd (m_set μ 118 21 (1)) 118 Ha) 118 H0) c s) _
    refine rn_if_ne (k' := 25) rfl rfl (fun hc3 => ?_) (fun hc3 => ?_)
    · skip
      refine rn_aload_n (k' := 28) rfl rfl rfl ?_
      refine rn_getI (k' := 29) rfl rfl K0_118 (by decide) rfl ?_
      show Rn PT none kX12_readOn 29 [some (mR 118), some (mI (309)), some (mI (7)), none, none] [mI (H0 18)] (mkh (m_upd (m_upd (m_set μ 118 21 (1)) 118 Ha) 118 H0) c s) _
      refine rn_istore_n (k' := 30) (L' := [some (mR 118), some (mI (309)), some (mI (7)), some (mI (H0 18)), none]) rfl rfl (Nat.le_of_ble_eq_true rfl) rfl ?_
      obtain ⟨_, _, u12, u11, _, _, u14, _⟩ := hm0
      have tx := tk_num kk0.1
      obtain ⟨k2, k3, k4⟩ := eN_ok e1
      have hu : H0 11 = 2 := by rw [u11]; exact mkk_2.mpr k2
      have hu14 := u14 k2
      have tn := tk_num k2
      have hi0 : (309 + (10 * H0 14 + H0 18)).toNat = 309 + j0 := by omega
      have hr0 : μ 121 (309 + (10 * H0 14 + H0 18)).toNat = μ 121 (309 + j0) := by rw [hi0]
      refine rn_aload_n (k' := 31) rfl rfl rfl ?_
      refine rn_getI (k' := 32) rfl rfl K0_118 (by decide) rfl ?_
      show Rn PT none kX12_readOn 32 [some (mR 118), some (mI (309)), some (mI (7)), some (mI (H0 18)), none] [mI (H0 11)] (mkh (m_upd (m_upd (m_set μ 118 21 (1)) 118 Ha) 118 H0) c s) _
      refine rn_iconst (k' := 33) rfl rfl ?_
      refine rn_icmp_eq (k' := 34) rfl rfl (fun hc1 => ?_) (fun hc1 => ?_)
      · skip
        refine rn_aload_n (k' := 39) rfl rfl rfl ?_
        refine rn_getI (k' := 40) rfl rfl K0_118 (by decide) rfl ?_
        show Rn PT none kX12_readOn 40 [some (mR 118), some (mI (309)), some (mI (7)), some (mI (H0 18)), none] [mI (H0 14)] (mkh (m_upd (m_upd (m_set μ 118 21 (1)) 118 Ha) 118 H0) c s) _
        refine rn_aload_n (k' := 41) rfl rfl rfl ?_
        refine rn_getR (k' := 42) rfl rfl K0_118 (by decide) rfl R0_118_7 ?_
        refine rn_iconst (k' := 43) rfl rfl ?_
        refine rn_iaload (k' := 44) rfl rfl K0_121 (by omega) (by omega) ?_
        show Rn PT none kX12_readOn 44 [some (mR 118), some (mI (309)), some (mI (7)), some (mI (H0 18)), none] [mI (μ 121 1), mI (H0 14)] (mkh (m_upd (m_upd (m_set μ 118 21 (1)) 118 Ha) 118 H0) c s) _
        refine rn_icmp_lt (k' := 45) rfl rfl (fun hc2 => ?_) (fun hc2 => ?_)
        · skip
          refine rn_bipush (k' := 50) rfl rfl ?_
          refine rn_aload_n (k' := 51) rfl rfl rfl ?_
          refine rn_getI (k' := 52) rfl rfl K0_118 (by decide) rfl ?_
          show Rn PT none kX12_readOn 52 [some (mR 118), some (mI (309)), some (mI (7)), some (mI (H0 18)), none] [mI (H0 14), mI (10)] (mkh (m_upd (m_upd (m_set μ 118 21 (1)) 118 Ha) 118 H0) c s) _
          refine rn_imul (k' := 53) rfl rfl (by omega) ?_
          refine rn_iload_n (k' := 54) rfl rfl rfl ?_
          refine rn_iadd (k' := 55) rfl rfl (by omega) ?_
          refine rn_istore (k' := 56) (L' := [some (mR 118), some (mI (309)), some (mI (7)), some (mI (H0 18)), some (mI ((10 * (H0 14)) + (H0 18)))]) rfl rfl (Nat.le_of_ble_eq_true rfl) rfl ?_
          refine rn_aload_n (k' := 57) rfl rfl rfl ?_
          refine rn_getR (k' := 58) rfl rfl K0_118 (by decide) rfl R0_118_7 ?_
          refine rn_iload_n (k' := 59) rfl rfl rfl ?_
          refine rn_iload (k' := 60) rfl rfl rfl ?_
          refine rn_iadd (k' := 61) rfl rfl (by omega) ?_
          refine rn_iaload (k' := 62) rfl rfl K0_121 (by omega) (by omega) ?_
          show Rn PT none kX12_readOn 62 [some (mR 118), some (mI (309)), some (mI (7)), some (mI (H0 18)), some (mI ((10 * (H0 14)) + (H0 18)))] [mI (μ 121 ((309 + ((10 * (H0 14)) + (H0 18))).toNat))] (mkh (m_upd (m_upd (m_set μ 118 21 (1)) 118 Ha) 118 H0) c s) _
          rw [hr0]
          refine rn_if_le (k' := 63) rfl rfl (fun hc3 => ?_) (fun hc3 => ?_)
          · skip
            refine rn_aload_n (k' := 68) rfl rfl rfl ?_
            obtain ⟨Hb, ⟨hmb, hfb_⟩, hcb⟩ := g_next2 (μ := (m_upd (m_upd (m_set μ 118 21 (1)) 118 Ha) 118 H0)) (c := c) (s := s) (b := b) (n := n) (m := m) (p := (tkN b n m (tkN b n m p))) hM1 (by omega)
            have hfb : FRt Hb _ := hfb_.t
            have hM2 : MSt (m_upd (m_upd (m_upd (m_set μ 118 21 (1)) 118 Ha) 118 H0) 118 Hb) b n m (tkN b n m (tkN b n m (tkN b n m p))) := ⟨hM1.1, hM1.2.1, hM1.2.2.1, (tkN_b hM1.2.2.2.1).2.1, hmb⟩
            refine rn_callP (k' := 69) (y := 175) (vs := [mR 118]) (S' := []) (v := none) (h' := mkh (m_upd (m_upd (m_upd (m_set μ 118 21 (1)) 118 Ha) 118 H0) 118 Hb) c s) rfl rfl rfl (hcb) ?_
            show Rn PT none kX12_readOn 69 [some (mR 118), some (mI (309)), some (mI (7)), some (mI (H0 18)), some (mI ((10 * (H0 14)) + (H0 18)))] [] (mkh (m_upd (m_upd (m_upd (m_set μ 118 21 (1)) 118 Ha) 118 H0) 118 Hb) c s) _
            refine rn_aload_n (k' := 70) rfl rfl rfl ?_
            refine rn_iconst (k' := 71) rfl rfl ?_
            refine rn_putI (k' := 72) rfl rfl K0_118 (by decide) rfl ?_
            refine rn_iload_n (k' := 73) rfl rfl rfl ?_
            refine rn_sipush (k' := 74) rfl rfl ?_
            refine rn_icmp_eq (k' := 75) rfl rfl (fun hc5 => ?_) (fun hc5 => ?_)
            · skip
              refine rn_aload_n (k' := 83) rfl rfl rfl ?_
              refine rn_getR (k' := 84) rfl rfl K0_118 (by decide) rfl R0_118_7 ?_
              refine rn_iload_n (k' := 85) rfl rfl rfl ?_
              refine rn_iload (k' := 86) rfl rfl rfl ?_
              refine rn_iadd (k' := 87) rfl rfl (by omega) ?_
              refine rn_aload_n (k' := 88) rfl rfl rfl ?_
              refine rn_getI (k' := 89) rfl rfl K0_118 (by decide) rfl ?_
              show Rn PT none kX12_readOn 89 [some (mR 118), some (mI (309)), some (mI (7)), some (mI (H0 18)), some (mI ((10 * (H0 14)) + (H0 18)))] [mI (0), mI (309 + ((10 * (H0 14)) + (H0 18))), mR 121] (mkh (m_set (m_upd (m_upd (m_upd (m_set μ 118 21 (1)) 118 Ha) 118 H0) 118 Hb) 118 18 (0)) c s) _
              refine rn_iconst (k' := 90) rfl rfl ?_
              refine rn_iadd (k' := 91) rfl rfl (by omega) ?_
              refine rn_iastore (k' := 92) rfl rfl K0_121 (by omega) (by omega) ?_
              refine rn_aload_n (k' := 93) rfl rfl rfl ?_
              refine rn_getR (k' := 94) rfl rfl K0_118 (by decide) rfl R0_118_7 ?_
              refine rn_iload_n (k' := 95) rfl rfl rfl ?_
              refine rn_dup2 (k' := 96) rfl rfl ?_
              refine rn_iaload (k' := 97) rfl rfl K0_121 (by omega) (by omega) ?_
              show Rn PT none kX12_readOn 97 [some (mR 118), some (mI (309)), some (mI (7)), some (mI (H0 18)), some (mI ((10 * (H0 14)) + (H0 18)))] [mI ((m_set (m_set (m_upd (m_upd (m_upd (m_set μ 118 21 (1)) 118 Ha) 118 H0) 118 Hb) 118 18 (0)) 121 ((309 + ((10 * (H0 14)) + (H0 18))).toNat) (0 + 1)) 121 7), mI (7), mR 121] (mkh (m_set (m_set (m_upd (m_upd (m_upd (m_set μ 118 21 (1)) 118 Ha) 118 H0) 118 Hb) 118 18 (0)) 121 ((309 + ((10 * (H0 14)) + (H0 18))).toNat) (0 + 1)) c s) _
              rw [(show (m_set (m_set (m_upd (m_upd (m_upd (m_set μ 118 21 (1)) 118 Ha) 118 H0) 118 Hb) 118 18 (0)) 121 ((309 + ((10 * (H0 14)) + (H0 18))).toNat) (0 + 1)) 121 7 = μ 121 7 from set_mis (by omega))]
              refine rn_iconst (k' := 98) rfl rfl ?_
              refine rn_iadd (k' := 99) rfl rfl (by omega) ?_
              refine rn_iastore (k' := 100) rfl rfl K0_121 (by omega) (by omega) ?_
              refine rn_iconst (k' := 101) rfl rfl ?_
              refine rn_iret rfl (Or.inr (by omega)) ?_
              refine ⟨_, rfl, hM2, ⟨(MFr.s2 (MFr.s2 (MFr.s (MFr.u (MFr.u (MFr.u (MFr.s MFr.r (by decide)) hfa) hf0) hfb) (by decide)) (.inl rfl)) (.inl rfl)), ((hfb 15 (by decide) (by decide) (by decide) (by decide) (by decide) (by decide) (by decide)).trans ((hf0 15 (by decide) (by decide) (by decide) (by decide) (by decide) (by decide) (by decide)).trans ((hfa 15 (by decide) (by decide) (by decide) (by decide) (by decide) (by decide) (by decide)).trans rfl)))⟩, ((hfb 20 (by decide) (by decide) (by decide) (by decide) (by decide) (by decide) (by decide)).trans ((hf0 20 (by decide) (by decide) (by decide) (by decide) (by decide) (by decide) (by decide)).trans ((hfa 20 (by decide) (by decide) (by decide) (by decide) (by decide) (by decide) (by decide)).trans rfl))), ((hfb 21 (by decide) (by decide) (by decide) (by decide) (by decide) (by decide) (by decide)).trans ((hf0 21 (by decide) (by decide) (by decide) (by decide) (by decide) (by decide) (by decide)).trans ((hfa 21 (by decide) (by decide) (by decide) (by decide) (by decide) (by decide) (by decide)).trans rfl))), ?_, ?_, (fun j hj2 hj3 => (set_mis hj3).trans (set_mis (by omega))), rfl⟩
              · refine (set_mis (by omega)).trans ((set_hit hi0).trans ?_)
                rfl
              · first | rfl | exact (set_hit rfl)
            · exfalso; omega
          · exfalso; omega
        · exfalso; omega
      · exfalso; omega
    · exfalso; omega
  · exfalso; omega
