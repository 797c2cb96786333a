variable {N : Int}
/-! ===== printed by wip/whole/gen9P.py: weather lines ===== -/
theorem set_hit {μ : Nat → Nat → Int} {a i j : Nat} {v : Int} (h : i = j) : m_set μ a i v a j = v := by
  subst h
  show (if a = a ∧ i = i then v else μ a i) = v
  rw [if_pos ⟨rfl, rfl⟩]
theorem set_mis {μ : Nat → Nat → Int} {a i j : Nat} {v : Int} (h : ¬ j = i) : m_set μ a i v a j = μ a j := by
  show (if a = a ∧ j = i then v else μ a j) = μ a j
  rw [if_neg (fun z => h z.2)]
set_option maxHeartbeats 1000000 in
theorem k_day0_x0 {μ : Nat → Nat → Int} {c s : Nat} {b : Nat → Int} {n m p : Nat} (hC0 : CSt μ b n m p) (e0 : ¬ eN b n m p 0 29 = 0) : ∃ μ', (μ' 3 2 = eN b n m p 0 29 ∧ μ' 1 4 = ((tkP b n m p : Nat) : Int) ∧ CF μ μ') ∧ Cl PT 55 [mR 3, mR 54, mI (0)] (mkh μ c s) (fun r => r = (some (some (mI 0)), mkh μ' c s)) := by
  refine Cl.ex (g := fun μ' => (some (some (mI 0)), mkh μ' c s)) ?_
  refine ⟨_, PT_55, Nat.le_of_ble_eq_true rfl, ?_⟩
  show Rn PT none kX5_readWeather 0 [some (mR 3), some (mR 54), some (mI (0)), none] [] (mkh μ c s) _
  refine rn_aload_n (k' := 1) rfl rfl rfl ?_
  refine rn_iconst (k' := 2) rfl rfl ?_
  refine rn_bipush (k' := 3) rfl rfl ?_
  obtain ⟨A0, hA0, hc0⟩ := g_numX (μ := μ) (c := c) (s := s) (b := b) (n := n) (m := m) (p := p) (lo := 0) (hi := 29) hC0 e0
  refine rn_callP (k' := 4) (y := 47) (vs := [mR 3, mI (0), mI (29)]) (S' := []) (v := some (mI (0))) (h' := mkh (m_set (m_upd μ 1 A0) 3 2 (eN b n m p (0) (29))) c s) rfl rfl rfl (hc0) ?_
  show Rn PT none kX5_readWeather 4 [some (mR 3), some (mR 54), some (mI (0)), none] [mI (0)] (mkh (m_set (m_upd μ 1 A0) 3 2 (eN b n m p (0) (29))) c s) _
  refine rn_if_ne (k' := 5) rfl rfl (fun hc1 => ?_) (fun hc1 => ?_)
  · exfalso; omega
  · skip
    refine rn_iconst (k' := 6) rfl rfl ?_
    refine rn_iret rfl (Or.inr (by omega)) ?_
    exact ⟨_, rfl, rfl, hA0.2.2.2.1, (CF.s (CF.u CF.r (by decide)) (by decide))⟩
set_option maxHeartbeats 1000000 in
theorem k_day0_x1 {μ : Nat → Nat → Int} {c s : Nat} {b : Nat → Int} {n m p : Nat} (hC0 : CSt μ b n m p) (e0 : eN b n m p 0 29 = 0) (e1 : ¬ eN b n m (tkN b n m p) 0 99 = 0) {j0 : Nat} (hj : tkV b n m p = (j0 : Int)) (hd : μ 58 (0 + j0) = -1) : ∃ μ', (μ' 3 2 = eN b n m (tkN b n m p) 0 99 ∧ μ' 1 4 = ((tkP b n m (tkN b n m p) : Nat) : Int) ∧ CF μ μ') ∧ Cl PT 55 [mR 3, mR 54, mI (0)] (mkh μ c s) (fun r => r = (some (some (mI 0)), mkh μ' c s)) := by
  refine Cl.ex (g := fun μ' => (some (some (mI 0)), mkh μ' c s)) ?_
  refine ⟨_, PT_55, Nat.le_of_ble_eq_true rfl, ?_⟩
  show Rn PT none kX5_readWeather 0 [some (mR 3), some (mR 54), some (mI (0)), none] [] (mkh μ c s) _
  refine rn_aload_n (k' := 1) rfl rfl rfl ?_
  refine rn_iconst (k' := 2) rfl rfl ?_
  refine rn_bipush (k' := 3) rfl rfl ?_
  obtain ⟨A0, hA0, hc0⟩ := g_num (μ := μ) (c := c) (s := s) (b := b) (n := n) (m := m) (p := p) (lo := 0) (hi := 29) hC0 e0
  have hC1 : CSt (m_upd μ 1 A0) b n m (tkN b n m p) := ⟨hC0.1, hC0.2.1, (tkN_b hC0.2.2.1).2.1, hA0.1, hA0.2.1, hA0.2.2.1⟩
  have a6 := hA0.2.2.2.2.2
  have hi0 : (0 * 30 + A0 6).toNat = 0 + j0 := by omega
  have hr0 : μ 58 (0 * 30 + A0 6).toNat = μ 58 (0 + j0) := by rw [hi0]
  have kb := eN_ok e0
  refine rn_callP (k' := 4) (y := 47) (vs := [mR 3, mI (0), mI (29)]) (S' := []) (v := some (mI (1))) (h' := mkh (m_upd μ 1 A0) c s) rfl rfl rfl (hc0) ?_
  show Rn PT none kX5_readWeather 4 [some (mR 3), some (mR 54), some (mI (0)), none] [mI (1)] (mkh (m_upd μ 1 A0) c s) _
  refine rn_if_ne (k' := 5) rfl rfl (fun hc1 => ?_) (fun hc1 => ?_)
  · skip
    refine rn_iload_n (k' := 8) rfl rfl rfl ?_
    refine rn_bipush (k' := 9) rfl rfl ?_
    refine rn_imul (k' := 10) rfl rfl (by omega) ?_
    refine rn_aload_n (k' := 11) rfl rfl rfl ?_
    refine rn_getR (k' := 12) rfl rfl K0_3 (by decide) rfl R0_3_0 ?_
    refine rn_getI (k' := 13) rfl rfl K0_1 (by decide) rfl ?_
    show Rn PT none kX5_readWeather 13 [some (mR 3), some (mR 54), some (mI (0)), none] [mI (A0 6), mI (0 * 30)] (mkh (m_upd μ 1 A0) c s) _
    refine rn_iadd (k' := 14) rfl rfl (by omega) ?_
    refine rn_istore_n (k' := 15) (L' := [some (mR 3), some (mR 54), some (mI (0)), some (mI ((0 * 30) + (A0 6)))]) rfl rfl (Nat.le_of_ble_eq_true rfl) rfl ?_
    refine rn_aload_n (k' := 16) rfl rfl rfl ?_
    refine rn_getR (k' := 17) rfl rfl K0_54 (by decide) rfl R0_54_3 ?_
    refine rn_iload_n (k' := 18) rfl rfl rfl ?_
    refine rn_iaload (k' := 19) rfl rfl K0_58 (by omega) (by omega) ?_
    show Rn PT none kX5_readWeather 19 [some (mR 3), some (mR 54), some (mI (0)), some (mI ((0 * 30) + (A0 6)))] [mI (μ 58 (((0 * 30) + (A0 6)).toNat))] (mkh (m_upd μ 1 A0) c s) _
    rw [hr0]
    refine rn_iconst (k' := 20) rfl rfl ?_
    refine rn_icmp_eq (k' := 21) rfl rfl (fun hc2 => ?_) (fun hc2 => ?_)
    · skip
      refine rn_aload_n (k' := 26) rfl rfl rfl ?_
      refine rn_iconst (k' := 27) rfl rfl ?_
      refine rn_bipush (k' := 28) rfl rfl ?_
      obtain ⟨A1, hA1, hc1⟩ := g_numX (μ := (m_upd μ 1 A0)) (c := c) (s := s) (b := b) (n := n) (m := m) (p := (tkN b n m p)) (lo := 0) (hi := 99) hC1 e1
      refine rn_callP (k' := 29) (y := 47) (vs := [mR 3, mI (0), mI (99)]) (S' := []) (v := some (mI (0))) (h' := mkh (m_set (m_upd (m_upd μ 1 A0) 1 A1) 3 2 (eN b n m (tkN b n m p) (0) (99))) c s) rfl rfl rfl (hc1) ?_
      show Rn PT none kX5_readWeather 29 [some (mR 3), some (mR 54), some (mI (0)), some (mI ((0 * 30) + (A0 6)))] [mI (0)] (mkh (m_set (m_upd (m_upd μ 1 A0) 1 A1) 3 2 (eN b n m (tkN b n m p) (0) (99))) c s) _
      refine rn_if_ne (k' := 30) rfl rfl (fun hc3 => ?_) (fun hc3 => ?_)
      · exfalso; omega
      · skip
        refine rn_iconst (k' := 31) rfl rfl ?_
        refine rn_iret rfl (Or.inr (by omega)) ?_
        exact ⟨_, rfl, rfl, hA1.2.2.2.1, (CF.s (CF.u (CF.u CF.r (by decide)) (by decide)) (by decide))⟩
    · exfalso; omega
  · exfalso; omega
set_option maxHeartbeats 1000000 in
theorem k_day0_x2 {μ : Nat → Nat → Int} {c s : Nat} {b : Nat → Int} {n m p : Nat} (hC0 : CSt μ b n m p) (e0 : eN b n m p 0 29 = 0) (e1 : eN b n m (tkN b n m p) 0 99 = 0) (e2 : ¬ tkK b n m (tkN b n m (tkN b n m p)) = 3) {j0 : Nat} (hj : tkV b n m p = (j0 : Int)) (hd : μ 58 (0 + j0) = -1) : ∃ μ', (μ' 3 2 = 1 ∧ μ' 1 4 = ((tkP b n m (tkN b n m (tkN b n m p)) : Nat) : Int) ∧ CF μ μ') ∧ Cl PT 55 [mR 3, mR 54, mI (0)] (mkh μ c s) (fun r => r = (some (some (mI 0)), mkh μ' c s)) := by
  refine Cl.ex (g := fun μ' => (some (some (mI 0)), mkh μ' c s)) ?_
  refine ⟨_, PT_55, Nat.le_of_ble_eq_true rfl, ?_⟩
  show Rn PT none kX5_readWeather 0 [some (mR 3), some (mR 54), some (mI (0)), none] [] (mkh μ c s) _
  refine rn_aload_n (k' := 1) rfl rfl rfl ?_
  refine rn_iconst (k' := 2) rfl rfl ?_
  refine rn_bipush (k' := 3) rfl rfl ?_
  obtain ⟨A0, hA0, hc0⟩ := g_num (μ := μ) (c := c) (s := s) (b := b) (n := n) (m := m) (p := p) (lo := 0) (hi := 29) hC0 e0
  have hC1 : CSt (m_upd μ 1 A0) b n m (tkN b n m p) := ⟨hC0.1, hC0.2.1, (tkN_b hC0.2.2.1).2.1, hA0.1, hA0.2.1, hA0.2.2.1⟩
  have a6 := hA0.2.2.2.2.2
  have hi0 : (0 * 30 + A0 6).toNat = 0 + j0 := by omega
  have hr0 : μ 58 (0 * 30 + A0 6).toNat = μ 58 (0 + j0) := by rw [hi0]
  have kb := eN_ok e0
  refine rn_callP (k' := 4) (y := 47) (vs := [mR 3, mI (0), mI (29)]) (S' := []) (v := some (mI (1))) (h' := mkh (m_upd μ 1 A0) c s) rfl rfl rfl (hc0) ?_
  show Rn PT none kX5_readWeather 4 [some (mR 3), some (mR 54), some (mI (0)), none] [mI (1)] (mkh (m_upd μ 1 A0) c s) _
  refine rn_if_ne (k' := 5) rfl rfl (fun hc1 => ?_) (fun hc1 => ?_)
  · skip
    refine rn_iload_n (k' := 8) rfl rfl rfl ?_
    refine rn_bipush (k' := 9) rfl rfl ?_
    refine rn_imul (k' := 10) rfl rfl (by omega) ?_
    refine rn_aload_n (k' := 11) rfl rfl rfl ?_
    refine rn_getR (k' := 12) rfl rfl K0_3 (by decide) rfl R0_3_0 ?_
    refine rn_getI (k' := 13) rfl rfl K0_1 (by decide) rfl ?_
    show Rn PT none kX5_readWeather 13 [some (mR 3), some (mR 54), some (mI (0)), none] [mI (A0 6), mI (0 * 30)] (mkh (m_upd μ 1 A0) c s) _
    refine rn_iadd (k' := 14) rfl rfl (by omega) ?_
    refine rn_istore_n (k' := 15) (L' := [some (mR 3), some (mR 54), some (mI (0)), some (mI ((0 * 30) + (A0 6)))]) rfl rfl (Nat.le_of_ble_eq_true rfl) rfl ?_
    refine rn_aload_n (k' := 16) rfl rfl rfl ?_
    refine rn_getR (k' := 17) rfl rfl K0_54 (by decide) rfl R0_54_3 ?_
    refine rn_iload_n (k' := 18) rfl rfl rfl ?_
    refine rn_iaload (k' := 19) rfl rfl K0_58 (by omega) (by omega) ?_
    show Rn PT none kX5_readWeather 19 [some (mR 3), some (mR 54), some (mI (0)), some (mI ((0 * 30) + (A0 6)))] [mI (μ 58 (((0 * 30) + (A0 6)).toNat))] (mkh (m_upd μ 1 A0) c s) _
    rw [hr0]
    refine rn_iconst (k' := 20) rfl rfl ?_
    refine rn_icmp_eq (k' := 21) rfl rfl (fun hc2 => ?_) (fun hc2 => ?_)
    · skip
      refine rn_aload_n (k' := 26) rfl rfl rfl ?_
      refine rn_iconst (k' := 27) rfl rfl ?_
      refine rn_bipush (k' := 28) rfl rfl ?_
      obtain ⟨A1, hA1, hc1⟩ := g_num (μ := (m_upd μ 1 A0)) (c := c) (s := s) (b := b) (n := n) (m := m) (p := (tkN b n m p)) (lo := 0) (hi := 99) hC1 e1
      have hC2 : CSt (m_upd (m_upd μ 1 A0) 1 A1) b n m (tkN b n m (tkN b n m p)) := ⟨hC1.1, hC1.2.1, (tkN_b hC1.2.2.1).2.1, hA1.1, hA1.2.1, hA1.2.2.1⟩
      refine rn_callP (k' := 29) (y := 47) (vs := [mR 3, mI (0), mI (99)]) (S' := []) (v := some (mI (1))) (h' := mkh (m_upd (m_upd μ 1 A0) 1 A1) c s) rfl rfl rfl (hc1) ?_
      show Rn PT none kX5_readWeather 29 [some (mR 3), some (mR 54), some (mI (0)), some (mI ((0 * 30) + (A0 6)))] [mI (1)] (mkh (m_upd (m_upd μ 1 A0) 1 A1) c s) _
      refine rn_if_ne (k' := 30) rfl rfl (fun hc3 => ?_) (fun hc3 => ?_)
      · skip
        refine rn_aload_n (k' := 33) rfl rfl rfl ?_
        refine rn_getR (k' := 34) rfl rfl K0_54 (by decide) rfl R0_54_3 ?_
        refine rn_iload_n (k' := 35) rfl rfl rfl ?_
        refine rn_aload_n (k' := 36) rfl rfl rfl ?_
        refine rn_getR (k' := 37) rfl rfl K0_3 (by decide) rfl R0_3_0 ?_
        refine rn_getI (k' := 38) rfl rfl K0_1 (by decide) rfl ?_
        show Rn PT none kX5_readWeather 38 [some (mR 3), some (mR 54), some (mI (0)), some (mI ((0 * 30) + (A0 6)))] [mI (A1 6), mI ((0 * 30) + (A0 6)), mR 58] (mkh (m_upd (m_upd μ 1 A0) 1 A1) c s) _
        refine rn_iastore (k' := 39) rfl rfl K0_58 (by omega) (by omega) ?_
        refine rn_aload_n (k' := 40) rfl rfl rfl ?_
        obtain ⟨A2, hA2, hc2⟩ := g_endX (μ := (m_set (m_upd (m_upd μ 1 A0) 1 A1) 58 (((0 * 30) + (A0 6)).toNat) (A1 6))) (c := c) (s := s) (b := b) (n := n) (m := m) (p := (tkN b n m (tkN b n m p))) hC2 e2
        refine rn_callP (k' := 41) (y := 50) (vs := [mR 3]) (S' := []) (v := some (mI (0))) (h' := mkh (m_set (m_upd (m_set (m_upd (m_upd μ 1 A0) 1 A1) 58 (((0 * 30) + (A0 6)).toNat) (A1 6)) 1 A2) 3 2 (1)) c s) rfl rfl rfl (hc2) ?_
        show Rn PT none kX5_readWeather 41 [some (mR 3), some (mR 54), some (mI (0)), some (mI ((0 * 30) + (A0 6)))] [mI (0)] (mkh (m_set (m_upd (m_set (m_upd (m_upd μ 1 A0) 1 A1) 58 (((0 * 30) + (A0 6)).toNat) (A1 6)) 1 A2) 3 2 (1)) c s) _
        refine rn_iret rfl (Or.inr (by omega)) ?_
        exact ⟨_, rfl, rfl, hA2.2.2.2.1, (CF.s (CF.u (CF.s (CF.u (CF.u CF.r (by decide)) (by decide)) (by decide)) (by decide)) (by decide))⟩
      · exfalso; omega
    · exfalso; omega
  · exfalso; omega
set_option maxHeartbeats 1000000 in
theorem k_day0_had {μ : Nat → Nat → Int} {c s : Nat} {b : Nat → Int} {n m p : Nat} (hC0 : CSt μ b n m p) (e0 : eN b n m p 0 29 = 0) {j0 : Nat} (hj : tkV b n m p = (j0 : Int)) (hd : ¬ μ 58 (0 + j0) = -1) : ∃ μ', (μ' 3 2 = 3 ∧ μ' 1 4 = ((tkP b n m p : Nat) : Int) ∧ CF μ μ') ∧ Cl PT 55 [mR 3, mR 54, mI (0)] (mkh μ c s) (fun r => r = (some (some (mI 0)), mkh μ' c s)) := by
  refine Cl.ex (g := fun μ' => (some (some (mI 0)), mkh μ' c s)) ?_
  refine ⟨_, PT_55, Nat.le_of_ble_eq_true rfl, ?_⟩
  show Rn PT none kX5_readWeather 0 [some (mR 3), some (mR 54), some (mI (0)), none] [] (mkh μ c s) _
  refine rn_aload_n (k' := 1) rfl rfl rfl ?_
  refine rn_iconst (k' := 2) rfl rfl ?_
  refine rn_bipush (k' := 3) rfl rfl ?_
  obtain ⟨A0, hA0, hc0⟩ := g_num (μ := μ) (c := c) (s := s) (b := b) (n := n) (m := m) (p := p) (lo := 0) (hi := 29) hC0 e0
  have hC1 : CSt (m_upd μ 1 A0) b n m (tkN b n m p) := ⟨hC0.1, hC0.2.1, (tkN_b hC0.2.2.1).2.1, hA0.1, hA0.2.1, hA0.2.2.1⟩
  have a6 := hA0.2.2.2.2.2
  have hi0 : (0 * 30 + A0 6).toNat = 0 + j0 := by omega
  have hr0 : μ 58 (0 * 30 + A0 6).toNat = μ 58 (0 + j0) := by rw [hi0]
  have kb := eN_ok e0
  refine rn_callP (k' := 4) (y := 47) (vs := [mR 3, mI (0), mI (29)]) (S' := []) (v := some (mI (1))) (h' := mkh (m_upd μ 1 A0) c s) rfl rfl rfl (hc0) ?_
  show Rn PT none kX5_readWeather 4 [some (mR 3), some (mR 54), some (mI (0)), none] [mI (1)] (mkh (m_upd μ 1 A0) c s) _
  refine rn_if_ne (k' := 5) rfl rfl (fun hc1 => ?_) (fun hc1 => ?_)
  · skip
    refine rn_iload_n (k' := 8) rfl rfl rfl ?_
    refine rn_bipush (k' := 9) rfl rfl ?_
    refine rn_imul (k' := 10) rfl rfl (by omega) ?_
    refine rn_aload_n (k' := 11) rfl rfl rfl ?_
    refine rn_getR (k' := 12) rfl rfl K0_3 (by decide) rfl R0_3_0 ?_
    refine rn_getI (k' := 13) rfl rfl K0_1 (by decide) rfl ?_
    show Rn PT none kX5_readWeather 13 [some (mR 3), some (mR 54), some (mI (0)), none] [mI (A0 6), mI (0 * 30)] (mkh (m_upd μ 1 A0) c s) _
    refine rn_iadd (k' := 14) rfl rfl (by omega) ?_
    refine rn_istore_n (k' := 15) (L' := [some (mR 3), some (mR 54), some (mI (0)), some (mI ((0 * 30) + (A0 6)))]) rfl rfl (Nat.le_of_ble_eq_true rfl) rfl ?_
    refine rn_aload_n (k' := 16) rfl rfl rfl ?_
    refine rn_getR (k' := 17) rfl rfl K0_54 (by decide) rfl R0_54_3 ?_
    refine rn_iload_n (k' := 18) rfl rfl rfl ?_
    refine rn_iaload (k' := 19) rfl rfl K0_58 (by omega) (by omega) ?_
    show Rn PT none kX5_readWeather 19 [some (mR 3), some (mR 54), some (mI (0)), some (mI ((0 * 30) + (A0 6)))] [mI (μ 58 (((0 * 30) + (A0 6)).toNat))] (mkh (m_upd μ 1 A0) c s) _
    rw [hr0]
    refine rn_iconst (k' := 20) rfl rfl ?_
    refine rn_icmp_eq (k' := 21) rfl rfl (fun hc2 => ?_) (fun hc2 => ?_)
    · exfalso; omega
    · skip
      refine rn_aload_n (k' := 22) rfl rfl rfl ?_
      refine rn_iconst (k' := 23) rfl rfl ?_
      refine rn_callP (k' := 24) (y := 45) (vs := [mR 3, mI (3)]) (S' := []) (v := some (mI (0))) (h' := mkh (m_set (m_upd μ 1 A0) 3 2 (3)) c s) rfl rfl rfl (g_fail (μ := (m_upd μ 1 A0)) (e := 3)) ?_
      show Rn PT none kX5_readWeather 24 [some (mR 3), some (mR 54), some (mI (0)), some (mI ((0 * 30) + (A0 6)))] [mI (0)] (mkh (m_set (m_upd μ 1 A0) 3 2 (3)) c s) _
      refine rn_iret rfl (Or.inr (by omega)) ?_
      exact ⟨_, rfl, rfl, hA0.2.2.2.1, (CF.s (CF.u CF.r (by decide)) (by decide))⟩
  · exfalso; omega
set_option maxHeartbeats 1000000 in
theorem k_day0_ok {μ : Nat → Nat → Int} {c s : Nat} {b : Nat → Int} {n m p : Nat} (hC0 : CSt μ b n m p) (e0 : eN b n m p 0 29 = 0) (e1 : eN b n m (tkN b n m p) 0 99 = 0) (e2 : tkK b n m (tkN b n m (tkN b n m p)) = 3) {j0 : Nat} (hj : tkV b n m p = (j0 : Int)) (hd : μ 58 (0 + j0) = -1) : ∃ μ', (CSt μ' b n m (tkN b n m (tkN b n m (tkN b n m p))) ∧ CFo μ μ' ∧ μ' 58 (0 + j0) = tkV b n m (tkN b n m p) ∧ (∀ j, ¬ j = (0 + j0) → μ' 58 j = μ 58 j) ∧ μ' 54 = μ 54 ∧ μ' 55 = μ 55 ∧ μ' 56 = μ 56 ∧ μ' 57 = μ 57 ∧ μ' 59 = μ 59 ∧ μ' 60 = μ 60 ∧ μ' 61 = μ 61) ∧ Cl PT 55 [mR 3, mR 54, mI (0)] (mkh μ c s) (fun r => r = (some (some (mI 1)), mkh μ' c s)) := by
  refine Cl.ex (g := fun μ' => (some (some (mI 1)), mkh μ' c s)) ?_
  refine ⟨_, PT_55, Nat.le_of_ble_eq_true rfl, ?_⟩
  show Rn PT none kX5_readWeather 0 [some (mR 3), some (mR 54), some (mI (0)), none] [] (mkh μ c s) _
  refine rn_aload_n (k' := 1) rfl rfl rfl ?_
  refine rn_iconst (k' := 2) rfl rfl ?_
  refine rn_bipush (k' := 3) rfl rfl ?_
  obtain ⟨A0, hA0, hc0⟩ := g_num (μ := μ) (c := c) (s := s) (b := b) (n := n) (m := m) (p := p) (lo := 0) (hi := 29) hC0 e0
  have hC1 : CSt (m_upd μ 1 A0) b n m (tkN b n m p) := ⟨hC0.1, hC0.2.1, (tkN_b hC0.2.2.1).2.1, hA0.1, hA0.2.1, hA0.2.2.1⟩
  have a6 := hA0.2.2.2.2.2
  have hi0 : (0 * 30 + A0 6).toNat = 0 + j0 := by omega
  have hr0 : μ 58 (0 * 30 + A0 6).toNat = μ 58 (0 + j0) := by rw [hi0]
  have kb := eN_ok e0
  refine rn_callP (k' := 4) (y := 47) (vs := [mR 3, mI (0), mI (29)]) (S' := []) (v := some (mI (1))) (h' := mkh (m_upd μ 1 A0) c s) rfl rfl rfl (hc0) ?_
  show Rn PT none kX5_readWeather 4 [some (mR 3), some (mR 54), some (mI (0)), none] [mI (1)] (mkh (m_upd μ 1 A0) c s) _
  refine rn_if_ne (k' := 5) rfl rfl (fun hc1 => ?_) (fun hc1 => ?_)
  · skip
    refine rn_iload_n (k' := 8) rfl rfl rfl ?_
    refine rn_bipush (k' := 9) rfl rfl ?_
    refine rn_imul (k' := 10) rfl rfl (by omega) ?_
    refine rn_aload_n (k' := 11) rfl rfl rfl ?_
    refine rn_getR (k' := 12) rfl rfl K0_3 (by decide) rfl R0_3_0 ?_
    refine rn_getI (k' := 13) rfl rfl K0_1 (by decide) rfl ?_
    show Rn PT none kX5_readWeather 13 [some (mR 3), some (mR 54), some (mI (0)), none] [mI (A0 6), mI (0 * 30)] (mkh (m_upd μ 1 A0) c s) _
    refine rn_iadd (k' := 14) rfl rfl (by omega) ?_
    refine rn_istore_n (k' := 15) (L' := [some (mR 3), some (mR 54), some (mI (0)), some (mI ((0 * 30) + (A0 6)))]) rfl rfl (Nat.le_of_ble_eq_true rfl) rfl ?_
    refine rn_aload_n (k' := 16) rfl rfl rfl ?_
    refine rn_getR (k' := 17) rfl rfl K0_54 (by decide) rfl R0_54_3 ?_
    refine rn_iload_n (k' := 18) rfl rfl rfl ?_
    refine rn_iaload (k' := 19) rfl rfl K0_58 (by omega) (by omega) ?_
    show Rn PT none kX5_readWeather 19 [some (mR 3), some (mR 54), some (mI (0)), some (mI ((0 * 30) + (A0 6)))] [mI (μ 58 (((0 * 30) + (A0 6)).toNat))] (mkh (m_upd μ 1 A0) c s) _
    rw [hr0]
    refine rn_iconst (k' := 20) rfl rfl ?_
    refine rn_icmp_eq (k' := 21) rfl rfl (fun hc2 => ?_) (fun hc2 => ?_)
    · skip
      refine rn_aload_n (k' := 26) rfl rfl rfl ?_
      refine rn_iconst (k' := 27) rfl rfl ?_
      refine rn_bipush (k' := 28) rfl rfl ?_
      obtain ⟨A1, hA1, hc1⟩ := g_num (μ := (m_upd μ 1 A0)) (c := c) (s := s) (b := b) (n := n) (m := m) (p := (tkN b n m p)) (lo := 0) (hi := 99) hC1 e1
      have hC2 : CSt (m_upd (m_upd μ 1 A0) 1 A1) b n m (tkN b n m (tkN b n m p)) := ⟨hC1.1, hC1.2.1, (tkN_b hC1.2.2.1).2.1, hA1.1, hA1.2.1, hA1.2.2.1⟩
      refine rn_callP (k' := 29) (y := 47) (vs := [mR 3, mI (0), mI (99)]) (S' := []) (v := some (mI (1))) (h' := mkh (m_upd (m_upd μ 1 A0) 1 A1) c s) rfl rfl rfl (hc1) ?_
      show Rn PT none kX5_readWeather 29 [some (mR 3), some (mR 54), some (mI (0)), some (mI ((0 * 30) + (A0 6)))] [mI (1)] (mkh (m_upd (m_upd μ 1 A0) 1 A1) c s) _
      refine rn_if_ne (k' := 30) rfl rfl (fun hc3 => ?_) (fun hc3 => ?_)
      · skip
        refine rn_aload_n (k' := 33) rfl rfl rfl ?_
        refine rn_getR (k' := 34) rfl rfl K0_54 (by decide) rfl R0_54_3 ?_
        refine rn_iload_n (k' := 35) rfl rfl rfl ?_
        refine rn_aload_n (k' := 36) rfl rfl rfl ?_
        refine rn_getR (k' := 37) rfl rfl K0_3 (by decide) rfl R0_3_0 ?_
        refine rn_getI (k' := 38) rfl rfl K0_1 (by decide) rfl ?_
        show Rn PT none kX5_readWeather 38 [some (mR 3), some (mR 54), some (mI (0)), some (mI ((0 * 30) + (A0 6)))] [mI (A1 6), mI ((0 * 30) + (A0 6)), mR 58] (mkh (m_upd (m_upd μ 1 A0) 1 A1) c s) _
        refine rn_iastore (k' := 39) rfl rfl K0_58 (by omega) (by omega) ?_
        refine rn_aload_n (k' := 40) rfl rfl rfl ?_
        obtain ⟨A2, hA2, hc2⟩ := g_end (μ := (m_set (m_upd (m_upd μ 1 A0) 1 A1) 58 (((0 * 30) + (A0 6)).toNat) (A1 6))) (c := c) (s := s) (b := b) (n := n) (m := m) (p := (tkN b n m (tkN b n m p))) hC2 e2
        have hC3 : CSt (m_upd (m_set (m_upd (m_upd μ 1 A0) 1 A1) 58 (((0 * 30) + (A0 6)).toNat) (A1 6)) 1 A2) b n m (tkN b n m (tkN b n m (tkN b n m p))) := ⟨hC2.1, hC2.2.1, (tkN_b hC2.2.2.1).2.1, hA2.1, hA2.2.1, hA2.2.2.1⟩
        refine rn_callP (k' := 41) (y := 50) (vs := [mR 3]) (S' := []) (v := some (mI (1))) (h' := mkh (m_upd (m_set (m_upd (m_upd μ 1 A0) 1 A1) 58 (((0 * 30) + (A0 6)).toNat) (A1 6)) 1 A2) c s) rfl rfl rfl (hc2) ?_
        show Rn PT none kX5_readWeather 41 [some (mR 3), some (mR 54), some (mI (0)), some (mI ((0 * 30) + (A0 6)))] [mI (1)] (mkh (m_upd (m_set (m_upd (m_upd μ 1 A0) 1 A1) 58 (((0 * 30) + (A0 6)).toNat) (A1 6)) 1 A2) c s) _
        refine rn_iret rfl (Or.inr (by omega)) ?_
        exact ⟨_, rfl, hC3, ⟨(CF.u (CF.s (CF.u (CF.u CF.r (by decide)) (by decide)) (by decide)) (by decide)), rfl⟩, ⟨(set_hit hi0).trans hA1.2.2.2.2.2, (fun j hj2 => set_mis (by omega)), rfl, rfl, rfl, rfl, rfl, rfl, rfl⟩⟩
      · exfalso; omega
    · exfalso; omega
  · exfalso; omega
set_option maxHeartbeats 1000000 in
theorem k_day1_x0 {μ : Nat → Nat → Int} {c s : Nat} {b : Nat → Int} {n m p : Nat} (hC0 : CSt μ b n m p) (e0 : ¬ eN b n m p 0 29 = 0) : ∃ μ', (μ' 3 2 = eN b n m p 0 29 ∧ μ' 1 4 = ((tkP b n m p : Nat) : Int) ∧ CF μ μ') ∧ Cl PT 55 [mR 3, mR 54, mI (1)] (mkh μ c s) (fun r => r = (some (some (mI 0)), mkh μ' c s)) := by
  refine Cl.ex (g := fun μ' => (some (some (mI 0)), mkh μ' c s)) ?_
  refine ⟨_, PT_55, Nat.le_of_ble_eq_true rfl, ?_⟩
  show Rn PT none kX5_readWeather 0 [some (mR 3), some (mR 54), some (mI (1)), none] [] (mkh μ c s) _
  refine rn_aload_n (k' := 1) rfl rfl rfl ?_
  refine rn_iconst (k' := 2) rfl rfl ?_
  refine rn_bipush (k' := 3) rfl rfl ?_
  obtain ⟨A0, hA0, hc0⟩ := g_numX (μ := μ) (c := c) (s := s) (b := b) (n := n) (m := m) (p := p) (lo := 0) (hi := 29) hC0 e0
  refine rn_callP (k' := 4) (y := 47) (vs := [mR 3, mI (0), mI (29)]) (S' := []) (v := some (mI (0))) (h' := mkh (m_set (m_upd μ 1 A0) 3 2 (eN b n m p (0) (29))) c s) rfl rfl rfl (hc0) ?_
  show Rn PT none kX5_readWeather 4 [some (mR 3), some (mR 54), some (mI (1)), none] [mI (0)] (mkh (m_set (m_upd μ 1 A0) 3 2 (eN b n m p (0) (29))) c s) _
  refine rn_if_ne (k' := 5) rfl rfl (fun hc1 => ?_) (fun hc1 => ?_)
  · exfalso; omega
  · skip
    refine rn_iconst (k' := 6) rfl rfl ?_
    refine rn_iret rfl (Or.inr (by omega)) ?_
    exact ⟨_, rfl, rfl, hA0.2.2.2.1, (CF.s (CF.u CF.r (by decide)) (by decide))⟩
set_option maxHeartbeats 1000000 in
theorem k_day1_x1 {μ : Nat → Nat → Int} {c s : Nat} {b : Nat → Int} {n m p : Nat} (hC0 : CSt μ b n m p) (e0 : eN b n m p 0 29 = 0) (e1 : ¬ eN b n m (tkN b n m p) 0 99 = 0) {j0 : Nat} (hj : tkV b n m p = (j0 : Int)) (hd : μ 58 (30 + j0) = -1) : ∃ μ', (μ' 3 2 = eN b n m (tkN b n m p) 0 99 ∧ μ' 1 4 = ((tkP b n m (tkN b n m p) : Nat) : Int) ∧ CF μ μ') ∧ Cl PT 55 [mR 3, mR 54, mI (1)] (mkh μ c s) (fun r => r = (some (some (mI 0)), mkh μ' c s)) := by
  refine Cl.ex (g := fun μ' => (some (some (mI 0)), mkh μ' c s)) ?_
  refine ⟨_, PT_55, Nat.le_of_ble_eq_true rfl, ?_⟩
  show Rn PT none kX5_readWeather 0 [some (mR 3), some (mR 54), some (mI (1)), none] [] (mkh μ c s) _
  refine rn_aload_n (k' := 1) rfl rfl rfl ?_
  refine rn_iconst (k' := 2) rfl rfl ?_
  refine rn_bipush (k' := 3) rfl rfl ?_
  obtain ⟨A0, hA0, hc0⟩ := g_num (μ := μ) (c := c) (s := s) (b := b) (n := n) (m := m) (p := p) (lo := 0) (hi := 29) hC0 e0
  have hC1 : CSt (m_upd μ 1 A0) b n m (tkN b n m p) := ⟨hC0.1, hC0.2.1, (tkN_b hC0.2.2.1).2.1, hA0.1, hA0.2.1, hA0.2.2.1⟩
  have a6 := hA0.2.2.2.2.2
  have hi0 : (1 * 30 + A0 6).toNat = 30 + j0 := by omega
  have hr0 : μ 58 (1 * 30 + A0 6).toNat = μ 58 (30 + j0) := by rw [hi0]
  have kb := eN_ok e0
  refine rn_callP (k' := 4) (y := 47) (vs := [mR 3, mI (0), mI (29)]) (S' := []) (v := some (mI (1))) (h' := mkh (m_upd μ 1 A0) c s) rfl rfl rfl (hc0) ?_
  show Rn PT none kX5_readWeather 4 [some (mR 3), some (mR 54), some (mI (1)), none] [mI (1)] (mkh (m_upd μ 1 A0) c s) _
  refine rn_if_ne (k' := 5) rfl rfl (fun hc1 => ?_) (fun hc1 => ?_)
  · skip
    refine rn_iload_n (k' := 8) rfl rfl rfl ?_
    refine rn_bipush (k' := 9) rfl rfl ?_
    refine rn_imul (k' := 10) rfl rfl (by omega) ?_
    refine rn_aload_n (k' := 11) rfl rfl rfl ?_
    refine rn_getR (k' := 12) rfl rfl K0_3 (by decide) rfl R0_3_0 ?_
    refine rn_getI (k' := 13) rfl rfl K0_1 (by decide) rfl ?_
    show Rn PT none kX5_readWeather 13 [some (mR 3), some (mR 54), some (mI (1)), none] [mI (A0 6), mI (1 * 30)] (mkh (m_upd μ 1 A0) c s) _
    refine rn_iadd (k' := 14) rfl rfl (by omega) ?_
    refine rn_istore_n (k' := 15) (L' := [some (mR 3), some (mR 54), some (mI (1)), some (mI ((1 * 30) + (A0 6)))]) rfl rfl (Nat.le_of_ble_eq_true rfl) rfl ?_
    refine rn_aload_n (k' := 16) rfl rfl rfl ?_
    refine rn_getR (k' := 17) rfl rfl K0_54 (by decide) rfl R0_54_3 ?_
    refine rn_iload_n (k' := 18) rfl rfl rfl ?_
    refine rn_iaload (k' := 19) rfl rfl K0_58 (by omega) (by omega) ?_
    show Rn PT none kX5_readWeather 19 [some (mR 3), some (mR 54), some (mI (1)), some (mI ((1 * 30) + (A0 6)))] [mI (μ 58 (((1 * 30) + (A0 6)).toNat))] (mkh (m_upd μ 1 A0) c s) _
    rw [hr0]
    refine rn_iconst (k' := 20) rfl rfl ?_
    refine rn_icmp_eq (k' := 21) rfl rfl (fun hc2 => ?_) (fun hc2 => ?_)
    · skip
      refine rn_aload_n (k' := 26) rfl rfl rfl ?_
      refine rn_iconst (k' := 27) rfl rfl ?_
      refine rn_bipush (k' := 28) rfl rfl ?_
      obtain ⟨A1, hA1, hc1⟩ := g_numX (μ := (m_upd μ 1 A0)) (c := c) (s := s) (b := b) (n := n) (m := m) (p := (tkN b n m p)) (lo := 0) (hi := 99) hC1 e1
      refine rn_callP (k' := 29) (y := 47) (vs := [mR 3, mI (0), mI (99)]) (S' := []) (v := some (mI (0))) (h' := mkh (m_set (m_upd (m_upd μ 1 A0) 1 A1) 3 2 (eN b n m (tkN b n m p) (0) (99))) c s) rfl rfl rfl (hc1) ?_
      show Rn PT none kX5_readWeather 29 [some (mR 3), some (mR 54), some (mI (1)), some (mI ((1 * 30) + (A0 6)))] [mI (0)] (mkh (m_set (m_upd (m_upd μ 1 A0) 1 A1) 3 2 (eN b n m (tkN b n m p) (0) (99))) c s) _
      refine rn_if_ne (k' := 30) rfl rfl (fun hc3 => ?_) (fun hc3 => ?_)
      · exfalso; omega
      · skip
        refine rn_iconst (k' := 31) rfl rfl ?_
        refine rn_iret rfl (Or.inr (by omega)) ?_
        exact ⟨_, rfl, rfl, hA1.2.2.2.1, (CF.s (CF.u (CF.u CF.r (by decide)) (by decide)) (by decide))⟩
    · exfalso; omega
  · exfalso; omega
set_option maxHeartbeats 1000000 in
theorem k_day1_x2 {μ : Nat → Nat → Int} {c s : Nat} {b : Nat → Int} {n m p : Nat} (hC0 : CSt μ b n m p) (e0 : eN b n m p 0 29 = 0) (e1 : eN b n m (tkN b n m p) 0 99 = 0) (e2 : ¬ tkK b n m (tkN b n m (tkN b n m p)) = 3) {j0 : Nat} (hj : tkV b n m p = (j0 : Int)) (hd : μ 58 (30 + j0) = -1) : ∃ μ', (μ' 3 2 = 1 ∧ μ' 1 4 = ((tkP b n m (tkN b n m (tkN b n m p)) : Nat) : Int) ∧ CF μ μ') ∧ Cl PT 55 [mR 3, mR 54, mI (1)] (mkh μ c s) (fun r => r = (some (some (mI 0)), mkh μ' c s)) := by
  refine Cl.ex (g := fun μ' => (some (some (mI 0)), mkh μ' c s)) ?_
  refine ⟨_, PT_55, Nat.le_of_ble_eq_true rfl, ?_⟩
  show Rn PT none kX5_readWeather 0 [some (mR 3), some (mR 54), some (mI (1)), none] [] (mkh μ c s) _
  refine rn_aload_n (k' := 1) rfl rfl rfl ?_
  refine rn_iconst (k' := 2) rfl rfl ?_
  refine rn_bipush (k' := 3) rfl rfl ?_
  obtain ⟨A0, hA0, hc0⟩ := g_num (μ := μ) (c := c) (s := s) (b := b) (n := n) (m := m) (p := p) (lo := 0) (hi := 29) hC0 e0
  have hC1 : CSt (m_upd μ 1 A0) b n m (tkN b n m p) := ⟨hC0.1, hC0.2.1, (tkN_b hC0.2.2.1).2.1, hA0.1, hA0.2.1, hA0.2.2.1⟩
  have a6 := hA0.2.2.2.2.2
  have hi0 : (1 * 30 + A0 6).toNat = 30 + j0 := by omega
  have hr0 : μ 58 (1 * 30 + A0 6).toNat = μ 58 (30 + j0) := by rw [hi0]
  have kb := eN_ok e0
  refine rn_callP (k' := 4) (y := 47) (vs := [mR 3, mI (0), mI (29)]) (S' := []) (v := some (mI (1))) (h' := mkh (m_upd μ 1 A0) c s) rfl rfl rfl (hc0) ?_
  show Rn PT none kX5_readWeather 4 [some (mR 3), some (mR 54), some (mI (1)), none] [mI (1)] (mkh (m_upd μ 1 A0) c s) _
  refine rn_if_ne (k' := 5) rfl rfl (fun hc1 => ?_) (fun hc1 => ?_)
  · skip
    refine rn_iload_n (k' := 8) rfl rfl rfl ?_
    refine rn_bipush (k' := 9) rfl rfl ?_
    refine rn_imul (k' := 10) rfl rfl (by omega) ?_
    refine rn_aload_n (k' := 11) rfl rfl rfl ?_
    refine rn_getR (k' := 12) rfl rfl K0_3 (by decide) rfl R0_3_0 ?_
    refine rn_getI (k' := 13) rfl rfl K0_1 (by decide) rfl ?_
    show Rn PT none kX5_readWeather 13 [some (mR 3), some (mR 54), some (mI (1)), none] [mI (A0 6), mI (1 * 30)] (mkh (m_upd μ 1 A0) c s) _
    refine rn_iadd (k' := 14) rfl rfl (by omega) ?_
    refine rn_istore_n (k' := 15) (L' := [some (mR 3), some (mR 54), some (mI (1)), some (mI ((1 * 30) + (A0 6)))]) rfl rfl (Nat.le_of_ble_eq_true rfl) rfl ?_
    refine rn_aload_n (k' := 16) rfl rfl rfl ?_
    refine rn_getR (k' := 17) rfl rfl K0_54 (by decide) rfl R0_54_3 ?_
    refine rn_iload_n (k' := 18) rfl rfl rfl ?_
    refine rn_iaload (k' := 19) rfl rfl K0_58 (by omega) (by omega) ?_
    show Rn PT none kX5_readWeather 19 [some (mR 3), some (mR 54), some (mI (1)), some (mI ((1 * 30) + (A0 6)))] [mI (μ 58 (((1 * 30) + (A0 6)).toNat))] (mkh (m_upd μ 1 A0) c s) _
    rw [hr0]
    refine rn_iconst (k' := 20) rfl rfl ?_
    refine rn_icmp_eq (k' := 21) rfl rfl (fun hc2 => ?_) (fun hc2 => ?_)
    · skip
      refine rn_aload_n (k' := 26) rfl rfl rfl ?_
      refine rn_iconst (k' := 27) rfl rfl ?_
      refine rn_bipush (k' := 28) rfl rfl ?_
      obtain ⟨A1, hA1, hc1⟩ := g_num (μ := (m_upd μ 1 A0)) (c := c) (s := s) (b := b) (n := n) (m := m) (p := (tkN b n m p)) (lo := 0) (hi := 99) hC1 e1
      have hC2 : CSt (m_upd (m_upd μ 1 A0) 1 A1) b n m (tkN b n m (tkN b n m p)) := ⟨hC1.1, hC1.2.1, (tkN_b hC1.2.2.1).2.1, hA1.1, hA1.2.1, hA1.2.2.1⟩
      refine rn_callP (k' := 29) (y := 47) (vs := [mR 3, mI (0), mI (99)]) (S' := []) (v := some (mI (1))) (h' := mkh (m_upd (m_upd μ 1 A0) 1 A1) c s) rfl rfl rfl (hc1) ?_
      show Rn PT none kX5_readWeather 29 [some (mR 3), some (mR 54), some (mI (1)), some (mI ((1 * 30) + (A0 6)))] [mI (1)] (mkh (m_upd (m_upd μ 1 A0) 1 A1) c s) _
      refine rn_if_ne (k' := 30) rfl rfl (fun hc3 => ?_) (fun hc3 => ?_)
      · skip
        refine rn_aload_n (k' := 33) rfl rfl rfl ?_
        refine rn_getR (k' := 34) rfl rfl K0_54 (by decide) rfl R0_54_3 ?_
        refine rn_iload_n (k' := 35) rfl rfl rfl ?_
        refine rn_aload_n (k' := 36) rfl rfl rfl ?_
        refine rn_getR (k' := 37) rfl rfl K0_3 (by decide) rfl R0_3_0 ?_
        refine rn_getI (k' := 38) rfl rfl K0_1 (by decide) rfl ?_
        show Rn PT none kX5_readWeather 38 [some (mR 3), some (mR 54), some (mI (1)), some (mI ((1 * 30) + (A0 6)))] [mI (A1 6), mI ((1 * 30) + (A0 6)), mR 58] (mkh (m_upd (m_upd μ 1 A0) 1 A1) c s) _
        refine rn_iastore (k' := 39) rfl rfl K0_58 (by omega) (by omega) ?_
        refine rn_aload_n (k' := 40) rfl rfl rfl ?_
        obtain ⟨A2, hA2, hc2⟩ := g_endX (μ := (m_set (m_upd (m_upd μ 1 A0) 1 A1) 58 (((1 * 30) + (A0 6)).toNat) (A1 6))) (c := c) (s := s) (b := b) (n := n) (m := m) (p := (tkN b n m (tkN b n m p))) hC2 e2
        refine rn_callP (k' := 41) (y := 50) (vs := [mR 3]) (S' := []) (v := some (mI (0))) (h' := mkh (m_set (m_upd (m_set (m_upd (m_upd μ 1 A0) 1 A1) 58 (((1 * 30) + (A0 6)).toNat) (A1 6)) 1 A2) 3 2 (1)) c s) rfl rfl rfl (hc2) ?_
        show Rn PT none kX5_readWeather 41 [some (mR 3), some (mR 54), some (mI (1)), some (mI ((1 * 30) + (A0 6)))] [mI (0)] (mkh (m_set (m_upd (m_set (m_upd (m_upd μ 1 A0) 1 A1) 58 (((1 * 30) + (A0 6)).toNat) (A1 6)) 1 A2) 3 2 (1)) c s) _
        refine rn_iret rfl (Or.inr (by omega)) ?_
        exact ⟨_, rfl, rfl, hA2.2.2.2.1, (CF.s (CF.u (CF.s (CF.u (CF.u CF.r (by decide)) (by decide)) (by decide)) (by decide)) (by decide))⟩
      · exfalso; omega
    · exfalso; omega
  · exfalso; omega
set_option maxHeartbeats 1000000 in
theorem k_day1_had {μ : Nat → Nat → Int} {c s : Nat} {b : Nat → Int} {n m p : Nat} (hC0 : CSt μ b n m p) (e0 : eN b n m p 0 29 = 0) {j0 : Nat} (hj : tkV b n m p = (j0 : Int)) (hd : ¬ μ 58 (30 + j0) = -1) : ∃ μ', (μ' 3 2 = 3 ∧ μ' 1 4 = ((tkP b n m p : Nat) : Int) ∧ CF μ μ') ∧ Cl PT 55 [mR 3, mR 54, mI (1)] (mkh μ c s) (fun r => r = (some (some (mI 0)), mkh μ' c s)) := by
  refine Cl.ex (g := fun μ' => (some (some (mI 0)), mkh μ' c s)) ?_
  refine ⟨_, PT_55, Nat.le_of_ble_eq_true rfl, ?_⟩
  show Rn PT none kX5_readWeather 0 [some (mR 3), some (mR 54), some (mI (1)), none] [] (mkh μ c s) _
  refine rn_aload_n (k' := 1) rfl rfl rfl ?_
  refine rn_iconst (k' := 2) rfl rfl ?_
  refine rn_bipush (k' := 3) rfl rfl ?_
  obtain ⟨A0, hA0, hc0⟩ := g_num (μ := μ) (c := c) (s := s) (b := b) (n := n) (m := m) (p := p) (lo := 0) (hi := 29) hC0 e0
  have hC1 : CSt (m_upd μ 1 A0) b n m (tkN b n m p) := ⟨hC0.1, hC0.2.1, (tkN_b hC0.2.2.1).2.1, hA0.1, hA0.2.1, hA0.2.2.1⟩
  have a6 := hA0.2.2.2.2.2
  have hi0 : (1 * 30 + A0 6).toNat = 30 + j0 := by omega
  have hr0 : μ 58 (1 * 30 + A0 6).toNat = μ 58 (30 + j0) := by rw [hi0]
  have kb := eN_ok e0
  refine rn_callP (k' := 4) (y := 47) (vs := [mR 3, mI (0), mI (29)]) (S' := []) (v := some (mI (1))) (h' := mkh (m_upd μ 1 A0) c s) rfl rfl rfl (hc0) ?_
  show Rn PT none kX5_readWeather 4 [some (mR 3), some (mR 54), some (mI (1)), none] [mI (1)] (mkh (m_upd μ 1 A0) c s) _
  refine rn_if_ne (k' := 5) rfl rfl (fun hc1 => ?_) (fun hc1 => ?_)
  · skip
    refine rn_iload_n (k' := 8) rfl rfl rfl ?_
    refine rn_bipush (k' := 9) rfl rfl ?_
    refine rn_imul (k' := 10) rfl rfl (by omega) ?_
    refine rn_aload_n (k' := 11) rfl rfl rfl ?_
    refine rn_getR (k' := 12) rfl rfl K0_3 (by decide) rfl R0_3_0 ?_
    refine rn_getI (k' := 13) rfl rfl K0_1 (by decide) rfl ?_
    show Rn PT none kX5_readWeather 13 [some (mR 3), some (mR 54), some (mI (1)), none] [mI (A0 6), mI (1 * 30)] (mkh (m_upd μ 1 A0) c s) _
    refine rn_iadd (k' := 14) rfl rfl (by omega) ?_
    refine rn_istore_n (k' := 15) (L' := [some (mR 3), some (mR 54), some (mI (1)), some (mI ((1 * 30) + (A0 6)))]) rfl rfl (Nat.le_of_ble_eq_true rfl) rfl ?_
    refine rn_aload_n (k' := 16) rfl rfl rfl ?_
    refine rn_getR (k' := 17) rfl rfl K0_54 (by decide) rfl R0_54_3 ?_
    refine rn_iload_n (k' := 18) rfl rfl rfl ?_
    refine rn_iaload (k' := 19) rfl rfl K0_58 (by omega) (by omega) ?_
    show Rn PT none kX5_readWeather 19 [some (mR 3), some (mR 54), some (mI (1)), some (mI ((1 * 30) + (A0 6)))] [mI (μ 58 (((1 * 30) + (A0 6)).toNat))] (mkh (m_upd μ 1 A0) c s) _
    rw [hr0]
    refine rn_iconst (k' := 20) rfl rfl ?_
    refine rn_icmp_eq (k' := 21) rfl rfl (fun hc2 => ?_) (fun hc2 => ?_)
    · exfalso; omega
    · skip
      refine rn_aload_n (k' := 22) rfl rfl rfl ?_
      refine rn_iconst (k' := 23) rfl rfl ?_
      refine rn_callP (k' := 24) (y := 45) (vs := [mR 3, mI (3)]) (S' := []) (v := some (mI (0))) (h' := mkh (m_set (m_upd μ 1 A0) 3 2 (3)) c s) rfl rfl rfl (g_fail (μ := (m_upd μ 1 A0)) (e := 3)) ?_
      show Rn PT none kX5_readWeather 24 [some (mR 3), some (mR 54), some (mI (1)), some (mI ((1 * 30) + (A0 6)))] [mI (0)] (mkh (m_set (m_upd μ 1 A0) 3 2 (3)) c s) _
      refine rn_iret rfl (Or.inr (by omega)) ?_
      exact ⟨_, rfl, rfl, hA0.2.2.2.1, (CF.s (CF.u CF.r (by decide)) (by decide))⟩
  · exfalso; omega
set_option maxHeartbeats 1000000 in
theorem k_day1_ok {μ : Nat → Nat → Int} {c s : Nat} {b : Nat → Int} {n m p : Nat} (hC0 : CSt μ b n m p) (e0 : eN b n m p 0 29 = 0) (e1 : eN b n m (tkN b n m p) 0 99 = 0) (e2 : tkK b n m (tkN b n m (tkN b n m p)) = 3) {j0 : Nat} (hj : tkV b n m p = (j0 : Int)) (hd : μ 58 (30 + j0) = -1) : ∃ μ', (CSt μ' b n m (tkN b n m (tkN b n m (tkN b n m p))) ∧ CFo μ μ' ∧ μ' 58 (30 + j0) = tkV b n m (tkN b n m p) ∧ (∀ j, ¬ j = (30 + j0) → μ' 58 j = μ 58 j) ∧ μ' 54 = μ 54 ∧ μ' 55 = μ 55 ∧ μ' 56 = μ 56 ∧ μ' 57 = μ 57 ∧ μ' 59 = μ 59 ∧ μ' 60 = μ 60 ∧ μ' 61 = μ 61) ∧ Cl PT 55 [mR 3, mR 54, mI (1)] (mkh μ c s) (fun r => r = (some (some (mI 1)), mkh μ' c s)) := by
  refine Cl.ex (g := fun μ' => (some (some (mI 1)), mkh μ' c s)) ?_
  refine ⟨_, PT_55, Nat.le_of_ble_eq_true rfl, ?_⟩
  show Rn PT none kX5_readWeather 0 [some (mR 3), some (mR 54), some (mI (1)), none] [] (mkh μ c s) _
  refine rn_aload_n (k' := 1) rfl rfl rfl ?_
  refine rn_iconst (k' := 2) rfl rfl ?_
  refine rn_bipush (k' := 3) rfl rfl ?_
  obtain ⟨A0, hA0, hc0⟩ := g_num (μ := μ) (c := c) (s := s) (b := b) (n := n) (m := m) (p := p) (lo := 0) (hi := 29) hC0 e0
  have hC1 : CSt (m_upd μ 1 A0) b n m (tkN b n m p) := ⟨hC0.1, hC0.2.1, (tkN_b hC0.2.2.1).2.1, hA0.1, hA0.2.1, hA0.2.2.1⟩
  have a6 := hA0.2.2.2.2.2
  have hi0 : (1 * 30 + A0 6).toNat = 30 + j0 := by omega
  have hr0 : μ 58 (1 * 30 + A0 6).toNat = μ 58 (30 + j0) := by rw [hi0]
  have kb := eN_ok e0
  refine rn_callP (k' := 4) (y := 47) (vs := [mR 3, mI (0), mI (29)]) (S' := []) (v := some (mI (1))) (h' := mkh (m_upd μ 1 A0) c s) rfl rfl rfl (hc0) ?_
  show Rn PT none kX5_readWeather 4 [some (mR 3), some (mR 54), some (mI (1)), none] [mI (1)] (mkh (m_upd μ 1 A0) c s) _
  refine rn_if_ne (k' := 5) rfl rfl (fun hc1 => ?_) (fun hc1 => ?_)
  · skip
    refine rn_iload_n (k' := 8) rfl rfl rfl ?_
    refine rn_bipush (k' := 9) rfl rfl ?_
    refine rn_imul (k' := 10) rfl rfl (by omega) ?_
    refine rn_aload_n (k' := 11) rfl rfl rfl ?_
    refine rn_getR (k' := 12) rfl rfl K0_3 (by decide) rfl R0_3_0 ?_
    refine rn_getI (k' := 13) rfl rfl K0_1 (by decide) rfl ?_
    show Rn PT none kX5_readWeather 13 [some (mR 3), some (mR 54), some (mI (1)), none] [mI (A0 6), mI (1 * 30)] (mkh (m_upd μ 1 A0) c s) _
    refine rn_iadd (k' := 14) rfl rfl (by omega) ?_
    refine rn_istore_n (k' := 15) (L' := [some (mR 3), some (mR 54), some (mI (1)), some (mI ((1 * 30) + (A0 6)))]) rfl rfl (Nat.le_of_ble_eq_true rfl) rfl ?_
    refine rn_aload_n (k' := 16) rfl rfl rfl ?_
    refine rn_getR (k' := 17) rfl rfl K0_54 (by decide) rfl R0_54_3 ?_
    refine rn_iload_n (k' := 18) rfl rfl rfl ?_
    refine rn_iaload (k' := 19) rfl rfl K0_58 (by omega) (by omega) ?_
    show Rn PT none kX5_readWeather 19 [some (mR 3), some (mR 54), some (mI (1)), some (mI ((1 * 30) + (A0 6)))] [mI (μ 58 (((1 * 30) + (A0 6)).toNat))] (mkh (m_upd μ 1 A0) c s) _
    rw [hr0]
    refine rn_iconst (k' := 20) rfl rfl ?_
    refine rn_icmp_eq (k' := 21) rfl rfl (fun hc2 => ?_) (fun hc2 => ?_)
    · skip
      refine rn_aload_n (k' := 26) rfl rfl rfl ?_
      refine rn_iconst (k' := 27) rfl rfl ?_
      refine rn_bipush (k' := 28) rfl rfl ?_
      obtain ⟨A1, hA1, hc1⟩ := g_num (μ := (m_upd μ 1 A0)) (c := c) (s := s) (b := b) (n := n) (m := m) (p := (tkN b n m p)) (lo := 0) (hi := 99) hC1 e1
      have hC2 : CSt (m_upd (m_upd μ 1 A0) 1 A1) b n m (tkN b n m (tkN b n m p)) := ⟨hC1.1, hC1.2.1, (tkN_b hC1.2.2.1).2.1, hA1.1, hA1.2.1, hA1.2.2.1⟩
      refine rn_callP (k' := 29) (y := 47) (vs := [mR 3, mI (0), mI (99)]) (S' := []) (v := some (mI (1))) (h' := mkh (m_upd (m_upd μ 1 A0) 1 A1) c s) rfl rfl rfl (hc1) ?_
      show Rn PT none kX5_readWeather 29 [some (mR 3), some (mR 54), some (mI (1)), some (mI ((1 * 30) + (A0 6)))] [mI (1)] (mkh (m_upd (m_upd μ 1 A0) 1 A1) c s) _
      refine rn_if_ne (k' := 30) rfl rfl (fun hc3 => ?_) (fun hc3 => ?_)
      · skip
        refine rn_aload_n (k' := 33) rfl rfl rfl ?_
        refine rn_getR (k' := 34) rfl rfl K0_54 (by decide) rfl R0_54_3 ?_
        refine rn_iload_n (k' := 35) rfl rfl rfl ?_
        refine rn_aload_n (k' := 36) rfl rfl rfl ?_
        refine rn_getR (k' := 37) rfl rfl K0_3 (by decide) rfl R0_3_0 ?_
        refine rn_getI (k' := 38) rfl rfl K0_1 (by decide) rfl ?_
        show Rn PT none kX5_readWeather 38 [some (mR 3), some (mR 54), some (mI (1)), some (mI ((1 * 30) + (A0 6)))] [mI (A1 6), mI ((1 * 30) + (A0 6)), mR 58] (mkh (m_upd (m_upd μ 1 A0) 1 A1) c s) _
        refine rn_iastore (k' := 39) rfl rfl K0_58 (by omega) (by omega) ?_
        refine rn_aload_n (k' := 40) rfl rfl rfl ?_
        obtain ⟨A2, hA2, hc2⟩ := g_end (μ := (m_set (m_upd (m_upd μ 1 A0) 1 A1) 58 (((1 * 30) + (A0 6)).toNat) (A1 6))) (c := c) (s := s) (b := b) (n := n) (m := m) (p := (tkN b n m (tkN b n m p))) hC2 e2
        have hC3 : CSt (m_upd (m_set (m_upd (m_upd μ 1 A0) 1 A1) 58 (((1 * 30) + (A0 6)).toNat) (A1 6)) 1 A2) b n m (tkN b n m (tkN b n m (tkN b n m p))) := ⟨hC2.1, hC2.2.1, (tkN_b hC2.2.2.1).2.1, hA2.1, hA2.2.1, hA2.2.2.1⟩
        refine rn_callP (k' := 41) (y := 50) (vs := [mR 3]) (S' := []) (v := some (mI (1))) (h' := mkh (m_upd (m_set (m_upd (m_upd μ 1 A0) 1 A1) 58 (((1 * 30) + (A0 6)).toNat) (A1 6)) 1 A2) c s) rfl rfl rfl (hc2) ?_
        show Rn PT none kX5_readWeather 41 [some (mR 3), some (mR 54), some (mI (1)), some (mI ((1 * 30) + (A0 6)))] [mI (1)] (mkh (m_upd (m_set (m_upd (m_upd μ 1 A0) 1 A1) 58 (((1 * 30) + (A0 6)).toNat) (A1 6)) 1 A2) c s) _
        refine rn_iret rfl (Or.inr (by omega)) ?_
        exact ⟨_, rfl, hC3, ⟨(CF.u (CF.s (CF.u (CF.u CF.r (by decide)) (by decide)) (by decide)) (by decide)), rfl⟩, ⟨(set_hit hi0).trans hA1.2.2.2.2.2, (fun j hj2 => set_mis (by omega)), rfl, rfl, rfl, rfl, rfl, rfl, rfl⟩⟩
      · exfalso; omega
    · exfalso; omega
  · exfalso; omega
set_option maxHeartbeats 1000000 in
theorem k_day2_x0 {μ : Nat → Nat → Int} {c s : Nat} {b : Nat → Int} {n m p : Nat} (hC0 : CSt μ b n m p) (e0 : ¬ eN b n m p 0 29 = 0) : ∃ μ', (μ' 3 2 = eN b n m p 0 29 ∧ μ' 1 4 = ((tkP b n m p : Nat) : Int) ∧ CF μ μ') ∧ Cl PT 55 [mR 3, mR 54, mI (2)] (mkh μ c s) (fun r => r = (some (some (mI 0)), mkh μ' c s)) := by
  refine Cl.ex (g := fun μ' => (some (some (mI 0)), mkh μ' c s)) ?_
  refine ⟨_, PT_55, Nat.le_of_ble_eq_true rfl, ?_⟩
  show Rn PT none kX5_readWeather 0 [some (mR 3), some (mR 54), some (mI (2)), none] [] (mkh μ c s) _
  refine rn_aload_n (k' := 1) rfl rfl rfl ?_
  refine rn_iconst (k' := 2) rfl rfl ?_
  refine rn_bipush (k' := 3) rfl rfl ?_
  obtain ⟨A0, hA0, hc0⟩ := g_numX (μ := μ) (c := c) (s := s) (b := b) (n := n) (m := m) (p := p) (lo := 0) (hi := 29) hC0 e0
  refine rn_callP (k' := 4) (y := 47) (vs := [mR 3, mI (0), mI (29)]) (S' := []) (v := some (mI (0))) (h' := mkh (m_set (m_upd μ 1 A0) 3 2 (eN b n m p (0) (29))) c s) rfl rfl rfl (hc0) ?_
  show Rn PT none kX5_readWeather 4 [some (mR 3), some (mR 54), some (mI (2)), none] [mI (0)] (mkh (m_set (m_upd μ 1 A0) 3 2 (eN b n m p (0) (29))) c s) _
  refine rn_if_ne (k' := 5) rfl rfl (fun hc1 => ?_) (fun hc1 => ?_)
  · exfalso; omega
  · skip
    refine rn_iconst (k' := 6) rfl rfl ?_
    refine rn_iret rfl (Or.inr (by omega)) ?_
    exact ⟨_, rfl, rfl, hA0.2.2.2.1, (CF.s (CF.u CF.r (by decide)) (by decide))⟩
set_option maxHeartbeats 1000000 in
theorem k_day2_x1 {μ : Nat → Nat → Int} {c s : Nat} {b : Nat → Int} {n m p : Nat} (hC0 : CSt μ b n m p) (e0 : eN b n m p 0 29 = 0) (e1 : ¬ eN b n m (tkN b n m p) 0 99 = 0) {j0 : Nat} (hj : tkV b n m p = (j0 : Int)) (hd : μ 58 (60 + j0) = -1) : ∃ μ', (μ' 3 2 = eN b n m (tkN b n m p) 0 99 ∧ μ' 1 4 = ((tkP b n m (tkN b n m p) : Nat) : Int) ∧ CF μ μ') ∧ Cl PT 55 [mR 3, mR 54, mI (2)] (mkh μ c s) (fun r => r = (some (some (mI 0)), mkh μ' c s)) := by
  refine Cl.ex (g := fun μ' => (some (some (mI 0)), mkh μ' c s)) ?_
  refine ⟨_, PT_55, Nat.le_of_ble_eq_true rfl, ?_⟩
  show Rn PT none kX5_readWeather 0 [some (mR 3), some (mR 54), some (mI (2)), none] [] (mkh μ c s) _
  refine rn_aload_n (k' := 1) rfl rfl rfl ?_
  refine rn_iconst (k' := 2) rfl rfl ?_
  refine rn_bipush (k' := 3) rfl rfl ?_
  obtain ⟨A0, hA0, hc0⟩ := g_num (μ := μ) (c := c) (s := s) (b := b) (n := n) (m := m) (p := p) (lo := 0) (hi := 29) hC0 e0
  have hC1 : CSt (m_upd μ 1 A0) b n m (tkN b n m p) := ⟨hC0.1, hC0.2.1, (tkN_b hC0.2.2.1).2.1, hA0.1, hA0.2.1, hA0.2.2.1⟩
  have a6 := hA0.2.2.2.2.2
  have hi0 : (2 * 30 + A0 6).toNat = 60 + j0 := by omega
  have hr0 : μ 58 (2 * 30 + A0 6).toNat = μ 58 (60 + j0) := by rw [hi0]
  have kb := eN_ok e0
  refine rn_callP (k' := 4) (y := 47) (vs := [mR 3, mI (0), mI (29)]) (S' := []) (v := some (mI (1))) (h' := mkh (m_upd μ 1 A0) c s) rfl rfl rfl (hc0) ?_
  show Rn PT none kX5_readWeather 4 [some (mR 3), some (mR 54), some (mI (2)), none] [mI (1)] (mkh (m_upd μ 1 A0) c s) _
  refine rn_if_ne (k' := 5) rfl rfl (fun hc1 => ?_) (fun hc1 => ?_)
  · skip
    refine rn_iload_n (k' := 8) rfl rfl rfl ?_
    refine rn_bipush (k' := 9) rfl rfl ?_
    refine rn_imul (k' := 10) rfl rfl (by omega) ?_
    refine rn_aload_n (k' := 11) rfl rfl rfl ?_
    refine rn_getR (k' := 12) rfl rfl K0_3 (by decide) rfl R0_3_0 ?_
    refine rn_getI (k' := 13) rfl rfl K0_1 (by decide) rfl ?_
    show Rn PT none kX5_readWeather 13 [some (mR 3), some (mR 54), some (mI (2)), none] [mI (A0 6), mI (2 * 30)] (mkh (m_upd μ 1 A0) c s) _
    refine rn_iadd (k' := 14) rfl rfl (by omega) ?_
    refine rn_istore_n (k' := 15) (L' := [some (mR 3), some (mR 54), some (mI (2)), some (mI ((2 * 30) + (A0 6)))]) rfl rfl (Nat.le_of_ble_eq_true rfl) rfl ?_
    refine rn_aload_n (k' := 16) rfl rfl rfl ?_
    refine rn_getR (k' := 17) rfl rfl K0_54 (by decide) rfl R0_54_3 ?_
    refine rn_iload_n (k' := 18) rfl rfl rfl ?_
    refine rn_iaload (k' := 19) rfl rfl K0_58 (by omega) (by omega) ?_
    show Rn PT none kX5_readWeather 19 [some (mR 3), some (mR 54), some (mI (2)), some (mI ((2 * 30) + (A0 6)))] [mI (μ 58 (((2 * 30) + (A0 6)).toNat))] (mkh (m_upd μ 1 A0) c s) _
    rw [hr0]
    refine rn_iconst (k' := 20) rfl rfl ?_
    refine rn_icmp_eq (k' := 21) rfl rfl (fun hc2 => ?_) (fun hc2 => ?_)
    · skip
      refine rn_aload_n (k' := 26) rfl rfl rfl ?_
      refine rn_iconst (k' := 27) rfl rfl ?_
      refine rn_bipush (k' := 28) rfl rfl ?_
      obtain ⟨A1, hA1, hc1⟩ := g_numX (μ := (m_upd μ 1 A0)) (c := c) (s := s) (b := b) (n := n) (m := m) (p := (tkN b n m p)) (lo := 0) (hi := 99) hC1 e1
      refine rn_callP (k' := 29) (y := 47) (vs := [mR 3, mI (0), mI (99)]) (S' := []) (v := some (mI (0))) (h' := mkh (m_set (m_upd (m_upd μ 1 A0) 1 A1) 3 2 (eN b n m (tkN b n m p) (0) (99))) c s) rfl rfl rfl (hc1) ?_
      show Rn PT none kX5_readWeather 29 [some (mR 3), some (mR 54), some (mI (2)), some (mI ((2 * 30) + (A0 6)))] [mI (0)] (mkh (m_set (m_upd (m_upd μ 1 A0) 1 A1) 3 2 (eN b n m (tkN b n m p) (0) (99))) c s) _
      refine rn_if_ne (k' := 30) rfl rfl (fun hc3 => ?_) (fun hc3 => ?_)
      · exfalso; omega
      · skip
        refine rn_iconst (k' := 31) rfl rfl ?_
        refine rn_iret rfl (Or.inr (by omega)) ?_
        exact ⟨_, rfl, rfl, hA1.2.2.2.1, (CF.s (CF.u (CF.u CF.r (by decide)) (by decide)) (by decide))⟩
    · exfalso; omega
  · exfalso; omega
set_option maxHeartbeats 1000000 in
theorem k_day2_x2 {μ : Nat → Nat → Int} {c s : Nat} {b : Nat → Int} {n m p : Nat} (hC0 : CSt μ b n m p) (e0 : eN b n m p 0 29 = 0) (e1 : eN b n m (tkN b n m p) 0 99 = 0) (e2 : ¬ tkK b n m (tkN b n m (tkN b n m p)) = 3) {j0 : Nat} (hj : tkV b n m p = (j0 : Int)) (hd : μ 58 (60 + j0) = -1) : ∃ μ', (μ' 3 2 = 1 ∧ μ' 1 4 = ((tkP b n m (tkN b n m (tkN b n m p)) : Nat) : Int) ∧ CF μ μ') ∧ Cl PT 55 [mR 3, mR 54, mI (2)] (mkh μ c s) (fun r => r = (some (some (mI 0)), mkh μ' c s)) := by
  refine Cl.ex (g := fun μ' => (some (some (mI 0)), mkh μ' c s)) ?_
  refine ⟨_, PT_55, Nat.le_of_ble_eq_true rfl, ?_⟩
  show Rn PT none kX5_readWeather 0 [some (mR 3), some (mR 54), some (mI (2)), none] [] (mkh μ c s) _
  refine rn_aload_n (k' := 1) rfl rfl rfl ?_
  refine rn_iconst (k' := 2) rfl rfl ?_
  refine rn_bipush (k' := 3) rfl rfl ?_
  obtain ⟨A0, hA0, hc0⟩ := g_num (μ := μ) (c := c) (s := s) (b := b) (n := n) (m := m) (p := p) (lo := 0) (hi := 29) hC0 e0
  have hC1 : CSt (m_upd μ 1 A0) b n m (tkN b n m p) := ⟨hC0.1, hC0.2.1, (tkN_b hC0.2.2.1).2.1, hA0.1, hA0.2.1, hA0.2.2.1⟩
  have a6 := hA0.2.2.2.2.2
  have hi0 : (2 * 30 + A0 6).toNat = 60 + j0 := by omega
  have hr0 : μ 58 (2 * 30 + A0 6).toNat = μ 58 (60 + j0) := by rw [hi0]
  have kb := eN_ok e0
  refine rn_callP (k' := 4) (y := 47) (vs := [mR 3, mI (0), mI (29)]) (S' := []) (v := some (mI (1))) (h' := mkh (m_upd μ 1 A0) c s) rfl rfl rfl (hc0) ?_
  show Rn PT none kX5_readWeather 4 [some (mR 3), some (mR 54), some (mI (2)), none] [mI (1)] (mkh (m_upd μ 1 A0) c s) _
  refine rn_if_ne (k' := 5) rfl rfl (fun hc1 => ?_) (fun hc1 => ?_)
  · skip
    refine rn_iload_n (k' := 8) rfl rfl rfl ?_
    refine rn_bipush (k' := 9) rfl rfl ?_
    refine rn_imul (k' := 10) rfl rfl (by omega) ?_
    refine rn_aload_n (k' := 11) rfl rfl rfl ?_
    refine rn_getR (k' := 12) rfl rfl K0_3 (by decide) rfl R0_3_0 ?_
    refine rn_getI (k' := 13) rfl rfl K0_1 (by decide) rfl ?_
    show Rn PT none kX5_readWeather 13 [some (mR 3), some (mR 54), some (mI (2)), none] [mI (A0 6), mI (2 * 30)] (mkh (m_upd μ 1 A0) c s) _
    refine rn_iadd (k' := 14) rfl rfl (by omega) ?_
    refine rn_istore_n (k' := 15) (L' := [some (mR 3), some (mR 54), some (mI (2)), some (mI ((2 * 30) + (A0 6)))]) rfl rfl (Nat.le_of_ble_eq_true rfl) rfl ?_
    refine rn_aload_n (k' := 16) rfl rfl rfl ?_
    refine rn_getR (k' := 17) rfl rfl K0_54 (by decide) rfl R0_54_3 ?_
    refine rn_iload_n (k' := 18) rfl rfl rfl ?_
    refine rn_iaload (k' := 19) rfl rfl K0_58 (by omega) (by omega) ?_
    show Rn PT none kX5_readWeather 19 [some (mR 3), some (mR 54), some (mI (2)), some (mI ((2 * 30) + (A0 6)))] [mI (μ 58 (((2 * 30) + (A0 6)).toNat))] (mkh (m_upd μ 1 A0) c s) _
    rw [hr0]
    refine rn_iconst (k' := 20) rfl rfl ?_
    refine rn_icmp_eq (k' := 21) rfl rfl (fun hc2 => ?_) (fun hc2 => ?_)
    · skip
      refine rn_aload_n (k' := 26) rfl rfl rfl ?_
      refine rn_iconst (k' := 27) rfl rfl ?_
      refine rn_bipush (k' := 28) rfl rfl ?_
      obtain ⟨A1, hA1, hc1⟩ := g_num (μ := (m_upd μ 1 A0)) (c := c) (s := s) (b := b) (n := n) (m := m) (p := (tkN b n m p)) (lo := 0) (hi := 99) hC1 e1
      have hC2 : CSt (m_upd (m_upd μ 1 A0) 1 A1) b n m (tkN b n m (tkN b n m p)) := ⟨hC1.1, hC1.2.1, (tkN_b hC1.2.2.1).2.1, hA1.1, hA1.2.1, hA1.2.2.1⟩
      refine rn_callP (k' := 29) (y := 47) (vs := [mR 3, mI (0), mI (99)]) (S' := []) (v := some (mI (1))) (h' := mkh (m_upd (m_upd μ 1 A0) 1 A1) c s) rfl rfl rfl (hc1) ?_
      show Rn PT none kX5_readWeather 29 [some (mR 3), some (mR 54), some (mI (2)), some (mI ((2 * 30) + (A0 6)))] [mI (1)] (mkh (m_upd (m_upd μ 1 A0) 1 A1) c s) _
      refine rn_if_ne (k' := 30) rfl rfl (fun hc3 => ?_) (fun hc3 => ?_)
      · skip
        refine rn_aload_n (k' := 33) rfl rfl rfl ?_
        refine rn_getR (k' := 34) rfl rfl K0_54 (by decide) rfl R0_54_3 ?_
        refine rn_iload_n (k' := 35) rfl rfl rfl ?_
        refine rn_aload_n (k' := 36) rfl rfl rfl ?_
        refine rn_getR (k' := 37) rfl rfl K0_3 (by decide) rfl R0_3_0 ?_
        refine rn_getI (k' := 38) rfl rfl K0_1 (by decide) rfl ?_
        show Rn PT none kX5_readWeather 38 [some (mR 3), some (mR 54), some (mI (2)), some (mI ((2 * 30) + (A0 6)))] [mI (A1 6), mI ((2 * 30) + (A0 6)), mR 58] (mkh (m_upd (m_upd μ 1 A0) 1 A1) c s) _
        refine rn_iastore (k' := 39) rfl rfl K0_58 (by omega) (by omega) ?_
        refine rn_aload_n (k' := 40) rfl rfl rfl ?_
        obtain ⟨A2, hA2, hc2⟩ := g_endX (μ := (m_set (m_upd (m_upd μ 1 A0) 1 A1) 58 (((2 * 30) + (A0 6)).toNat) (A1 6))) (c := c) (s := s) (b := b) (n := n) (m := m) (p := (tkN b n m (tkN b n m p))) hC2 e2
        refine rn_callP (k' := 41) (y := 50) (vs := [mR 3]) (S' := []) (v := some (mI (0))) (h' := mkh (m_set (m_upd (m_set (m_upd (m_upd μ 1 A0) 1 A1) 58 (((2 * 30) + (A0 6)).toNat) (A1 6)) 1 A2) 3 2 (1)) c s) rfl rfl rfl (hc2) ?_
        show Rn PT none kX5_readWeather 41 [some (mR 3), some (mR 54), some (mI (2)), some (mI ((2 * 30) + (A0 6)))] [mI (0)] (mkh (m_set (m_upd (m_set (m_upd (m_upd μ 1 A0) 1 A1) 58 (((2 * 30) + (A0 6)).toNat) (A1 6)) 1 A2) 3 2 (1)) c s) _
        refine rn_iret rfl (Or.inr (by omega)) ?_
        exact ⟨_, rfl, rfl, hA2.2.2.2.1, (CF.s (CF.u (CF.s (CF.u (CF.u CF.r (by decide)) (by decide)) (by decide)) (by decide)) (by decide))⟩
      · exfalso; omega
    · exfalso; omega
  · exfalso; omega
set_option maxHeartbeats 1000000 in
theorem k_day2_had {μ : Nat → Nat → Int} {c s : Nat} {b : Nat → Int} {n m p : Nat} (hC0 : CSt μ b n m p) (e0 : eN b n m p 0 29 = 0) {j0 : Nat} (hj : tkV b n m p = (j0 : Int)) (hd : ¬ μ 58 (60 + j0) = -1) : ∃ μ', (μ' 3 2 = 3 ∧ μ' 1 4 = ((tkP b n m p : Nat) : Int) ∧ CF μ μ') ∧ Cl PT 55 [mR 3, mR 54, mI (2)] (mkh μ c s) (fun r => r = (some (some (mI 0)), mkh μ' c s)) := by
  refine Cl.ex (g := fun μ' => (some (some (mI 0)), mkh μ' c s)) ?_
  refine ⟨_, PT_55, Nat.le_of_ble_eq_true rfl, ?_⟩
  show Rn PT none kX5_readWeather 0 [some (mR 3), some (mR 54), some (mI (2)), none] [] (mkh μ c s) _
  refine rn_aload_n (k' := 1) rfl rfl rfl ?_
  refine rn_iconst (k' := 2) rfl rfl ?_
  refine rn_bipush (k' := 3) rfl rfl ?_
  obtain ⟨A0, hA0, hc0⟩ := g_num (μ := μ) (c := c) (s := s) (b := b) (n := n) (m := m) (p := p) (lo := 0) (hi := 29) hC0 e0
  have hC1 : CSt (m_upd μ 1 A0) b n m (tkN b n m p) := ⟨hC0.1, hC0.2.1, (tkN_b hC0.2.2.1).2.1, hA0.1, hA0.2.1, hA0.2.2.1⟩
  have a6 := hA0.2.2.2.2.2
  have hi0 : (2 * 30 + A0 6).toNat = 60 + j0 := by omega
  have hr0 : μ 58 (2 * 30 + A0 6).toNat = μ 58 (60 + j0) := by rw [hi0]
  have kb := eN_ok e0
  refine rn_callP (k' := 4) (y := 47) (vs := [mR 3, mI (0), mI (29)]) (S' := []) (v := some (mI (1))) (h' := mkh (m_upd μ 1 A0) c s) rfl rfl rfl (hc0) ?_
  show Rn PT none kX5_readWeather 4 [some (mR 3), some (mR 54), some (mI (2)), none] [mI (1)] (mkh (m_upd μ 1 A0) c s) _
  refine rn_if_ne (k' := 5) rfl rfl (fun hc1 => ?_) (fun hc1 => ?_)
  · skip
    refine rn_iload_n (k' := 8) rfl rfl rfl ?_
    refine rn_bipush (k' := 9) rfl rfl ?_
    refine rn_imul (k' := 10) rfl rfl (by omega) ?_
    refine rn_aload_n (k' := 11) rfl rfl rfl ?_
    refine rn_getR (k' := 12) rfl rfl K0_3 (by decide) rfl R0_3_0 ?_
    refine rn_getI (k' := 13) rfl rfl K0_1 (by decide) rfl ?_
    show Rn PT none kX5_readWeather 13 [some (mR 3), some (mR 54), some (mI (2)), none] [mI (A0 6), mI (2 * 30)] (mkh (m_upd μ 1 A0) c s) _
    refine rn_iadd (k' := 14) rfl rfl (by omega) ?_
    refine rn_istore_n (k' := 15) (L' := [some (mR 3), some (mR 54), some (mI (2)), some (mI ((2 * 30) + (A0 6)))]) rfl rfl (Nat.le_of_ble_eq_true rfl) rfl ?_
    refine rn_aload_n (k' := 16) rfl rfl rfl ?_
    refine rn_getR (k' := 17) rfl rfl K0_54 (by decide) rfl R0_54_3 ?_
    refine rn_iload_n (k' := 18) rfl rfl rfl ?_
    refine rn_iaload (k' := 19) rfl rfl K0_58 (by omega) (by omega) ?_
    show Rn PT none kX5_readWeather 19 [some (mR 3), some (mR 54), some (mI (2)), some (mI ((2 * 30) + (A0 6)))] [mI (μ 58 (((2 * 30) + (A0 6)).toNat))] (mkh (m_upd μ 1 A0) c s) _
    rw [hr0]
    refine rn_iconst (k' := 20) rfl rfl ?_
    refine rn_icmp_eq (k' := 21) rfl rfl (fun hc2 => ?_) (fun hc2 => ?_)
    · exfalso; omega
    · skip
      refine rn_aload_n (k' := 22) rfl rfl rfl ?_
      refine rn_iconst (k' := 23) rfl rfl ?_
      refine rn_callP (k' := 24) (y := 45) (vs := [mR 3, mI (3)]) (S' := []) (v := some (mI (0))) (h' := mkh (m_set (m_upd μ 1 A0) 3 2 (3)) c s) rfl rfl rfl (g_fail (μ := (m_upd μ 1 A0)) (e := 3)) ?_
      show Rn PT none kX5_readWeather 24 [some (mR 3), some (mR 54), some (mI (2)), some (mI ((2 * 30) + (A0 6)))] [mI (0)] (mkh (m_set (m_upd μ 1 A0) 3 2 (3)) c s) _
      refine rn_iret rfl (Or.inr (by omega)) ?_
      exact ⟨_, rfl, rfl, hA0.2.2.2.1, (CF.s (CF.u CF.r (by decide)) (by decide))⟩
  · exfalso; omega
set_option maxHeartbeats 1000000 in
theorem k_day2_ok {μ : Nat → Nat → Int} {c s : Nat} {b : Nat → Int} {n m p : Nat} (hC0 : CSt μ b n m p) (e0 : eN b n m p 0 29 = 0) (e1 : eN b n m (tkN b n m p) 0 99 = 0) (e2 : tkK b n m (tkN b n m (tkN b n m p)) = 3) {j0 : Nat} (hj : tkV b n m p = (j0 : Int)) (hd : μ 58 (60 + j0) = -1) : ∃ μ', (CSt μ' b n m (tkN b n m (tkN b n m (tkN b n m p))) ∧ CFo μ μ' ∧ μ' 58 (60 + j0) = tkV b n m (tkN b n m p) ∧ (∀ j, ¬ j = (60 + j0) → μ' 58 j = μ 58 j) ∧ μ' 54 = μ 54 ∧ μ' 55 = μ 55 ∧ μ' 56 = μ 56 ∧ μ' 57 = μ 57 ∧ μ' 59 = μ 59 ∧ μ' 60 = μ 60 ∧ μ' 61 = μ 61) ∧ Cl PT 55 [mR 3, mR 54, mI (2)] (mkh μ c s) (fun r => r = (some (some (mI 1)), mkh μ' c s)) := by
  refine Cl.ex (g := fun μ' => (some (some (mI 1)), mkh μ' c s)) ?_
  refine ⟨_, PT_55, Nat.le_of_ble_eq_true rfl, ?_⟩
  show Rn PT none kX5_readWeather 0 [some (mR 3), some (mR 54), some (mI (2)), none] [] (mkh μ c s) _
  refine rn_aload_n (k' := 1) rfl rfl rfl ?_
  refine rn_iconst (k' := 2) rfl rfl ?_
  refine rn_bipush (k' := 3) rfl rfl ?_
  obtain ⟨A0, hA0, hc0⟩ := g_num (μ := μ) (c := c) (s := s) (b := b) (n := n) (m := m) (p := p) (lo := 0) (hi := 29) hC0 e0
  have hC1 : CSt (m_upd μ 1 A0) b n m (tkN b n m p) := ⟨hC0.1, hC0.2.1, (tkN_b hC0.2.2.1).2.1, hA0.1, hA0.2.1, hA0.2.2.1⟩
  have a6 := hA0.2.2.2.2.2
  have hi0 : (2 * 30 + A0 6).toNat = 60 + j0 := by omega
  have hr0 : μ 58 (2 * 30 + A0 6).toNat = μ 58 (60 + j0) := by rw [hi0]
  have kb := eN_ok e0
  refine rn_callP (k' := 4) (y := 47) (vs := [mR 3, mI (0), mI (29)]) (S' := []) (v := some (mI (1))) (h' := mkh (m_upd μ 1 A0) c s) rfl rfl rfl (hc0) ?_
  show Rn PT none kX5_readWeather 4 [some (mR 3), some (mR 54), some (mI (2)), none] [mI (1)] (mkh (m_upd μ 1 A0) c s) _
  refine rn_if_ne (k' := 5) rfl rfl (fun hc1 => ?_) (fun hc1 => ?_)
  · skip
    refine rn_iload_n (k' := 8) rfl rfl rfl ?_
    refine rn_bipush (k' := 9) rfl rfl ?_
    refine rn_imul (k' := 10) rfl rfl (by omega) ?_
    refine rn_aload_n (k' := 11) rfl rfl rfl ?_
    refine rn_getR (k' := 12) rfl rfl K0_3 (by decide) rfl R0_3_0 ?_
    refine rn_getI (k' := 13) rfl rfl K0_1 (by decide) rfl ?_
    show Rn PT none kX5_readWeather 13 [some (mR 3), some (mR 54), some (mI (2)), none] [mI (A0 6), mI (2 * 30)] (mkh (m_upd μ 1 A0) c s) _
    refine rn_iadd (k' := 14) rfl rfl (by omega) ?_
    refine rn_istore_n (k' := 15) (L' := [some (mR 3), some (mR 54), some (mI (2)), some (mI ((2 * 30) + (A0 6)))]) rfl rfl (Nat.le_of_ble_eq_true rfl) rfl ?_
    refine rn_aload_n (k' := 16) rfl rfl rfl ?_
    refine rn_getR (k' := 17) rfl rfl K0_54 (by decide) rfl R0_54_3 ?_
    refine rn_iload_n (k' := 18) rfl rfl rfl ?_
    refine rn_iaload (k' := 19) rfl rfl K0_58 (by omega) (by omega) ?_
    show Rn PT none kX5_readWeather 19 [some (mR 3), some (mR 54), some (mI (2)), some (mI ((2 * 30) + (A0 6)))] [mI (μ 58 (((2 * 30) + (A0 6)).toNat))] (mkh (m_upd μ 1 A0) c s) _
    rw [hr0]
    refine rn_iconst (k' := 20) rfl rfl ?_
    refine rn_icmp_eq (k' := 21) rfl rfl (fun hc2 => ?_) (fun hc2 => ?_)
    · skip
      refine rn_aload_n (k' := 26) rfl rfl rfl ?_
      refine rn_iconst (k' := 27) rfl rfl ?_
      refine rn_bipush (k' := 28) rfl rfl ?_
      obtain ⟨A1, hA1, hc1⟩ := g_num (μ := (m_upd μ 1 A0)) (c := c) (s := s) (b := b) (n := n) (m := m) (p := (tkN b n m p)) (lo := 0) (hi := 99) hC1 e1
      have hC2 : CSt (m_upd (m_upd μ 1 A0) 1 A1) b n m (tkN b n m (tkN b n m p)) := ⟨hC1.1, hC1.2.1, (tkN_b hC1.2.2.1).2.1, hA1.1, hA1.2.1, hA1.2.2.1⟩
      refine rn_callP (k' := 29) (y := 47) (vs := [mR 3, mI (0), mI (99)]) (S' := []) (v := some (mI (1))) (h' := mkh (m_upd (m_upd μ 1 A0) 1 A1) c s) rfl rfl rfl (hc1) ?_
      show Rn PT none kX5_readWeather 29 [some (mR 3), some (mR 54), some (mI (2)), some (mI ((2 * 30) + (A0 6)))] [mI (1)] (mkh (m_upd (m_upd μ 1 A0) 1 A1) c s) _
      refine rn_if_ne (k' := 30) rfl rfl (fun hc3 => ?_) (fun hc3 => ?_)
      · skip
        refine rn_aload_n (k' := 33) rfl rfl rfl ?_
        refine rn_getR (k' := 34) rfl rfl K0_54 (by decide) rfl R0_54_3 ?_
        refine rn_iload_n (k' := 35) rfl rfl rfl ?_
        refine rn_aload_n (k' := 36) rfl rfl rfl ?_
        refine rn_getR (k' := 37) rfl rfl K0_3 (by decide) rfl R0_3_0 ?_
        refine rn_getI (k' := 38) rfl rfl K0_1 (by decide) rfl ?_
        show Rn PT none kX5_readWeather 38 [some (mR 3), some (mR 54), some (mI (2)), some (mI ((2 * 30) + (A0 6)))] [mI (A1 6), mI ((2 * 30) + (A0 6)), mR 58] (mkh (m_upd (m_upd μ 1 A0) 1 A1) c s) _
        refine rn_iastore (k' := 39) rfl rfl K0_58 (by omega) (by omega) ?_
        refine rn_aload_n (k' := 40) rfl rfl rfl ?_
        obtain ⟨A2, hA2, hc2⟩ := g_end (μ := (m_set (m_upd (m_upd μ 1 A0) 1 A1) 58 (((2 * 30) + (A0 6)).toNat) (A1 6))) (c := c) (s := s) (b := b) (n := n) (m := m) (p := (tkN b n m (tkN b n m p))) hC2 e2
        have hC3 : CSt (m_upd (m_set (m_upd (m_upd μ 1 A0) 1 A1) 58 (((2 * 30) + (A0 6)).toNat) (A1 6)) 1 A2) b n m (tkN b n m (tkN b n m (tkN b n m p))) := ⟨hC2.1, hC2.2.1, (tkN_b hC2.2.2.1).2.1, hA2.1, hA2.2.1, hA2.2.2.1⟩
        refine rn_callP (k' := 41) (y := 50) (vs := [mR 3]) (S' := []) (v := some (mI (1))) (h' := mkh (m_upd (m_set (m_upd (m_upd μ 1 A0) 1 A1) 58 (((2 * 30) + (A0 6)).toNat) (A1 6)) 1 A2) c s) rfl rfl rfl (hc2) ?_
        show Rn PT none kX5_readWeather 41 [some (mR 3), some (mR 54), some (mI (2)), some (mI ((2 * 30) + (A0 6)))] [mI (1)] (mkh (m_upd (m_set (m_upd (m_upd μ 1 A0) 1 A1) 58 (((2 * 30) + (A0 6)).toNat) (A1 6)) 1 A2) c s) _
        refine rn_iret rfl (Or.inr (by omega)) ?_
        exact ⟨_, rfl, hC3, ⟨(CF.u (CF.s (CF.u (CF.u CF.r (by decide)) (by decide)) (by decide)) (by decide)), rfl⟩, ⟨(set_hit hi0).trans hA1.2.2.2.2.2, (fun j hj2 => set_mis (by omega)), rfl, rfl, rfl, rfl, rfl, rfl, rfl⟩⟩
      · exfalso; omega
    · exfalso; omega
  · exfalso; omega
set_option maxHeartbeats 1000000 in
theorem m_day0_x0 {μ : Nat → Nat → Int} {c s : Nat} {b : Nat → Int} {n m p : Nat} (hM : MSt μ b n m p) (hk : tkK b n m p = 1) (e0 : ¬ eN b n m (tkN b n m p) 0 29 = 0) : ∃ ν', (ν' 118 15 = eN b n m (tkN b n m p) 0 29 ∧ ν' 118 16 = ((tkP b n m (tkN b n m p) : Nat) : Int) ∧ MFr μ ν') ∧ Cl PT 186 [mR 118, mI 0] (mkh μ c s) (fun r => r = (some (some (mI 0)), mkh ν' c s)) := by
  refine Cl.ex (g := fun ν' => (some (some (mI 0)), mkh ν' c s)) ?_
  refine ⟨_, PT_186, Nat.le_of_ble_eq_true rfl, ?_⟩
  show Rn PT none kX12_readDay 0 [some (mR 118), some (mI (0)), none] [] (mkh μ c s) _
  refine rn_aload_n (k' := 1) rfl rfl rfl ?_
  refine rn_iconst (k' := 2) rfl rfl ?_
  refine rn_putZ (k' := 3) rfl rfl K0_118 (by decide) rfl (by omega) ?_
  refine rn_aload_n (k' := 4) rfl rfl rfl ?_
  obtain ⟨Ha, ⟨hma, hfa_⟩, hca⟩ := g_next2 (μ := (m_set μ 118 21 (1))) (c := c) (s := s) (b := b) (n := n) (m := m) (p := p) hM (by omega)
  have hfa : FRt Ha _ := hfa_.t
  have hMa : MSt (m_upd (m_set μ 118 21 (1)) 118 Ha) b n m (tkN b n m p) := ⟨hM.1, hM.2.1, hM.2.2.1, (tkN_b hM.2.2.2.1).2.1, hma⟩
  obtain ⟨_, _, u12, u11, _, _, u14, _⟩ := hma
  refine rn_callP (k' := 5) (y := 175) (vs := [mR 118]) (S' := []) (v := none) (h' := mkh (m_upd (m_set μ 118 21 (1)) 118 Ha) c s) rfl rfl rfl (hca) ?_
  show Rn PT none kX12_readDay 5 [some (mR 118), some (mI (0)), none] [] (mkh (m_upd (m_set μ 118 21 (1)) 118 Ha) c s) _
  by_cases k2 : tkK b n m (tkN b n m p) = 2
  · have hu : Ha 11 = 2 := by rw [u11]; exact mkk_2.mpr k2
    have hu14 := u14 k2
    have tn := (tk_num k2).2.1
    have hgt : 29 < tkV b n m (tkN b n m p) := Classical.byContradiction (fun z => e0 (eN_0 k2 (by omega)))
    refine rn_aload_n (k' := 6) rfl rfl rfl ?_
    refine rn_getI (k' := 7) rfl rfl K0_118 (by decide) rfl ?_
    show Rn PT none kX12_readDay 7 [some (mR 118), some (mI (0)), none] [mI (Ha 11)] (mkh (m_upd (m_set μ 118 21 (1)) 118 Ha) c s) _
    refine rn_iconst (k' := 8) rfl rfl ?_
    refine rn_icmp_eq (k' := 9) rfl rfl (fun hc1 => ?_) (fun hc1 => ?_)
    · skip
      refine rn_aload_n (k' := 14) rfl rfl rfl ?_
      refine rn_getI (k' := 15) rfl rfl K0_118 (by decide) rfl ?_
      show Rn PT none kX12_readDay 15 [some (mR 118), some (mI (0)), none] [mI (Ha 14)] (mkh (m_upd (m_set μ 118 21 (1)) 118 Ha) c s) _
      refine rn_bipush (k' := 16) rfl rfl ?_
      refine rn_icmp_le (k' := 17) rfl rfl (fun hc2 => ?_) (fun hc2 => ?_)
      · exfalso; omega
      · skip
        refine rn_aload_n (k' := 18) rfl rfl rfl ?_
        refine rn_iconst (k' := 19) rfl rfl ?_
        refine rn_callP (k' := 20) (y := 176) (vs := [mR 118, mI (2)]) (S' := []) (v := some (mI (0))) (h' := mkh (m_set (m_set (m_upd (m_set μ 118 21 (1)) 118 Ha) 118 15 (2)) 118 16 (Ha 12)) c s) rfl rfl rfl (g_bad (μ := (m_upd (m_set μ 118 21 (1)) 118 Ha)) (e := 2)) ?_
        show Rn PT none kX12_readDay 20 [some (mR 118), some (mI (0)), none] [mI (0)] (mkh (m_set (m_set (m_upd (m_set μ 118 21 (1)) 118 Ha) 118 15 (2)) 118 16 (Ha 12)) c s) _
        refine rn_iret rfl (Or.inr (by omega)) ?_
        refine ⟨_, rfl, ?_, u12, (MFr.s (MFr.s (MFr.u (MFr.s MFr.r (by decide)) hfa) (by decide)) (by decide))⟩
        rw [eN_2 k2 (by omega)]; rfl
    · exfalso; omega
  · have hu : ¬ Ha 11 = 2 := by rw [u11]; exact fun z => k2 (mkk_2.mp z)
    refine rn_aload_n (k' := 6) rfl rfl rfl ?_
    refine rn_getI (k' := 7) rfl rfl K0_118 (by decide) rfl ?_
    show Rn PT none kX12_readDay 7 [some (mR 118), some (mI (0)), none] [mI (Ha 11)] (mkh (m_upd (m_set μ 118 21 (1)) 118 Ha) c s) _
    refine rn_iconst (k' := 8) rfl rfl ?_
    refine rn_icmp_eq (k' := 9) rfl rfl (fun hc1 => ?_) (fun hc1 => ?_)
    · exfalso; omega
    · skip
      refine rn_aload_n (k' := 10) rfl rfl rfl ?_
      refine rn_iconst (k' := 11) rfl rfl ?_
      refine rn_callP (k' := 12) (y := 176) (vs := [mR 118, mI (1)]) (S' := []) (v := some (mI (0))) (h' := mkh (m_set (m_set (m_upd (m_set μ 118 21 (1)) 118 Ha) 118 15 (1)) 118 16 (Ha 12)) c s) rfl rfl rfl (g_bad (μ := (m_upd (m_set μ 118 21 (1)) 118 Ha)) (e := 1)) ?_
      show Rn PT none kX12_readDay 12 [some (mR 118), some (mI (0)), none] [mI (0)] (mkh (m_set (m_set (m_upd (m_set μ 118 21 (1)) 118 Ha) 118 15 (1)) 118 16 (Ha 12)) c s) _
      refine rn_iret rfl (Or.inr (by omega)) ?_
      refine ⟨_, rfl, ?_, u12, (MFr.s (MFr.s (MFr.u (MFr.s MFr.r (by decide)) hfa) (by decide)) (by decide))⟩
      rw [eN_1 k2]; rfl
set_option maxHeartbeats 1000000 in
theorem m_day0_had {μ : Nat → Nat → Int} {c s : Nat} {b : Nat → Int} {n m p : Nat} (hM : MSt μ b n m p) (hk : tkK b n m p = 1) (e0 : eN b n m (tkN b n m p) 0 29 = 0) {j0 : Nat} (hj : tkV b n m (tkN b n m p) = (j0 : Int)) (hd : 0 < μ 121 (409 + j0)) : ∃ ν', (ν' 118 15 = 3 ∧ ν' 118 16 = ((tkP b n m (tkN b n m p) : Nat) : Int) ∧ MFr μ ν') ∧ Cl PT 186 [mR 118, mI 0] (mkh μ c s) (fun r => r = (some (some (mI 0)), mkh ν' c s)) := by
  refine Cl.ex (g := fun ν' => (some (some (mI 0)), mkh ν' c s)) ?_
  refine ⟨_, PT_186, Nat.le_of_ble_eq_true rfl, ?_⟩
  show Rn PT none kX12_readDay 0 [some (mR 118), some (mI (0)), none] [] (mkh μ c s) _
  refine rn_aload_n (k' := 1) rfl rfl rfl ?_
  refine rn_iconst (k' := 2) rfl rfl ?_
  refine rn_putZ (k' := 3) rfl rfl K0_118 (by decide) rfl (by omega) ?_
  refine rn_aload_n (k' := 4) rfl rfl rfl ?_
  obtain ⟨Ha, ⟨hma, hfa_⟩, hca⟩ := g_next2 (μ := (m_set μ 118 21 (1))) (c := c) (s := s) (b := b) (n := n) (m := m) (p := p) hM (by omega)
  have hfa : FRt Ha _ := hfa_.t
  have hMa : MSt (m_upd (m_set μ 118 21 (1)) 118 Ha) b n m (tkN b n m p) := ⟨hM.1, hM.2.1, hM.2.2.1, (tkN_b hM.2.2.2.1).2.1, hma⟩
  obtain ⟨_, _, u12, u11, _, _, u14, _⟩ := hma
  refine rn_callP (k' := 5) (y := 175) (vs := [mR 118]) (S' := []) (v := none) (h' := mkh (m_upd (m_set μ 118 21 (1)) 118 Ha) c s) rfl rfl rfl (hca) ?_
  show Rn PT none kX12_readDay 5 [some (mR 118), some (mI (0)), none] [] (mkh (m_upd (m_set μ 118 21 (1)) 118 Ha) c s) _
  obtain ⟨k2, k3, k4⟩ := eN_ok e0
  have hu : Ha 11 = 2 := by rw [u11]; exact mkk_2.mpr k2
  have hu14 := u14 k2
  have hi0 : (409 + 30 * 0 + Ha 14).toNat = 409 + j0 := by omega
  have hr0 : μ 121 (409 + 30 * 0 + Ha 14).toNat = μ 121 (409 + j0) := by rw [hi0]
  refine rn_aload_n (k' := 6) rfl rfl rfl ?_
  refine rn_getI (k' := 7) rfl rfl K0_118 (by decide) rfl ?_
  show Rn PT none kX12_readDay 7 [some (mR 118), some (mI (0)), none] [mI (Ha 11)] (mkh (m_upd (m_set μ 118 21 (1)) 118 Ha) c s) _
  refine rn_iconst (k' := 8) rfl rfl ?_
  refine rn_icmp_eq (k' := 9) rfl rfl (fun hc1 => ?_) (fun hc1 => ?_)
  · skip
    refine rn_aload_n (k' := 14) rfl rfl rfl ?_
    refine rn_getI (k' := 15) rfl rfl K0_118 (by decide) rfl ?_
    show Rn PT none kX12_readDay 15 [some (mR 118), some (mI (0)), none] [mI (Ha 14)] (mkh (m_upd (m_set μ 118 21 (1)) 118 Ha) c s) _
    refine rn_bipush (k' := 16) rfl rfl ?_
    refine rn_icmp_le (k' := 17) rfl rfl (fun hc2 => ?_) (fun hc2 => ?_)
    · skip
      refine rn_sipush (k' := 22) rfl rfl ?_
      refine rn_bipush (k' := 23) rfl rfl ?_
      refine rn_iload_n (k' := 24) rfl rfl rfl ?_
      refine rn_imul (k' := 25) rfl rfl (by omega) ?_
      refine rn_iadd (k' := 26) rfl rfl (by omega) ?_
      refine rn_aload_n (k' := 27) rfl rfl rfl ?_
      refine rn_getI (k' := 28) rfl rfl K0_118 (by decide) rfl ?_
      show Rn PT none kX12_readDay 28 [some (mR 118), some (mI (0)), none] [mI (Ha 14), mI (409 + (30 * 0))] (mkh (m_upd (m_set μ 118 21 (1)) 118 Ha) c s) _
      refine rn_iadd (k' := 29) rfl rfl (by omega) ?_
      refine rn_istore_n (k' := 30) (L' := [some (mR 118), some (mI (0)), some (mI ((409 + (30 * 0)) + (Ha 14)))]) rfl rfl (Nat.le_of_ble_eq_true rfl) rfl ?_
      refine rn_aload_n (k' := 31) rfl rfl rfl ?_
      refine rn_getR (k' := 32) rfl rfl K0_118 (by decide) rfl R0_118_7 ?_
      refine rn_iload_n (k' := 33) rfl rfl rfl ?_
      refine rn_iaload (k' := 34) rfl rfl K0_121 (by omega) (by omega) ?_
      show Rn PT none kX12_readDay 34 [some (mR 118), some (mI (0)), some (mI ((409 + (30 * 0)) + (Ha 14)))] [mI (μ 121 (((409 + (30 * 0)) + (Ha 14)).toNat))] (mkh (m_upd (m_set μ 118 21 (1)) 118 Ha) c s) _
      rw [hr0]
      refine rn_if_le (k' := 35) rfl rfl (fun hc3 => ?_) (fun hc3 => ?_)
      · exfalso; omega
      · skip
        refine rn_aload_n (k' := 36) rfl rfl rfl ?_
        refine rn_iconst (k' := 37) rfl rfl ?_
        refine rn_callP (k' := 38) (y := 176) (vs := [mR 118, mI (3)]) (S' := []) (v := some (mI (0))) (h' := mkh (m_set (m_set (m_upd (m_set μ 118 21 (1)) 118 Ha) 118 15 (3)) 118 16 (Ha 12)) c s) rfl rfl rfl (g_bad (μ := (m_upd (m_set μ 118 21 (1)) 118 Ha)) (e := 3)) ?_
        show Rn PT none kX12_readDay 38 [some (mR 118), some (mI (0)), some (mI ((409 + (30 * 0)) + (Ha 14)))] [mI (0)] (mkh (m_set (m_set (m_upd (m_set μ 118 21 (1)) 118 Ha) 118 15 (3)) 118 16 (Ha 12)) c s) _
        refine rn_iret rfl (Or.inr (by omega)) ?_
        exact ⟨_, rfl, rfl, u12, (MFr.s (MFr.s (MFr.u (MFr.s MFr.r (by decide)) hfa) (by decide)) (by decide))⟩
    · exfalso; omega
  · exfalso; omega
set_option maxHeartbeats 1000000 in
theorem m_day0_x1 {μ : Nat → Nat → Int} {c s : Nat} {b : Nat → Int} {n m p : Nat} (hM : MSt μ b n m p) (hk : tkK b n m p = 1) (e0 : eN b n m (tkN b n m p) 0 29 = 0) {j0 : Nat} (hj : tkV b n m (tkN b n m p) = (j0 : Int)) (hd : ¬ 0 < μ 121 (409 + j0)) (e1 : ¬ eN b n m (tkN b n m (tkN b n m p)) 0 99 = 0) : ∃ ν', (ν' 118 15 = eN b n m (tkN b n m (tkN b n m p)) 0 99 ∧ ν' 118 16 = ((tkP b n m (tkN b n m (tkN b n m p)) : Nat) : Int) ∧ MFr μ ν') ∧ Cl PT 186 [mR 118, mI 0] (mkh μ c s) (fun r => r = (some (some (mI 0)), mkh ν' c s)) := by
  refine Cl.ex (g := fun ν' => (some (some (mI 0)), mkh ν' c s)) ?_
  refine ⟨_, PT_186, Nat.le_of_ble_eq_true rfl, ?_⟩
  show Rn PT none kX12_readDay 0 [some (mR 118), some (mI (0)), none] [] (mkh μ c s) _
  refine rn_aload_n (k' := 1) rfl rfl rfl ?_
  refine rn_iconst (k' := 2) rfl rfl ?_
  refine rn_putZ (k' := 3) rfl rfl K0_118 (by decide) rfl (by omega) ?_
  refine rn_aload_n (k' := 4) rfl rfl rfl ?_
  obtain ⟨Ha, ⟨hma, hfa_⟩, hca⟩ := g_next2 (μ := (m_set μ 118 21 (1))) (c := c) (s := s) (b := b) (n := n) (m := m) (p := p) hM (by omega)
  have hfa : FRt Ha _ := hfa_.t
  have hMa : MSt (m_upd (m_set μ 118 21 (1)) 118 Ha) b n m (tkN b n m p) := ⟨hM.1, hM.2.1, hM.2.2.1, (tkN_b hM.2.2.2.1).2.1, hma⟩
  obtain ⟨_, _, u12, u11, _, _, u14, _⟩ := hma
  refine rn_callP (k' := 5) (y := 175) (vs := [mR 118]) (S' := []) (v := none) (h' := mkh (m_upd (m_set μ 118 21 (1)) 118 Ha) c s) rfl rfl rfl (hca) ?_
  show Rn PT none kX12_readDay 5 [some (mR 118), some (mI (0)), none] [] (mkh (m_upd (m_set μ 118 21 (1)) 118 Ha) c s) _
  obtain ⟨k2, k3, k4⟩ := eN_ok e0
  have hu : Ha 11 = 2 := by rw [u11]; exact mkk_2.mpr k2
  have hu14 := u14 k2
  have hi0 : (409 + 30 * 0 + Ha 14).toNat = 409 + j0 := by omega
  have hr0 : μ 121 (409 + 30 * 0 + Ha 14).toNat = μ 121 (409 + j0) := by rw [hi0]
  refine rn_aload_n (k' := 6) rfl rfl rfl ?_
  refine rn_getI (k' := 7) rfl rfl K0_118 (by decide) rfl ?_
  show Rn PT none kX12_readDay 7 [some (mR 118), some (mI (0)), none] [mI (Ha 11)] (mkh (m_upd (m_set μ 118 21 (1)) 118 Ha) c s) _
  refine rn_iconst (k' := 8) rfl rfl ?_
  refine rn_icmp_eq (k' := 9) rfl rfl (fun hc1 => ?_) (fun hc1 => ?_)
  · skip
    refine rn_aload_n (k' := 14) rfl rfl rfl ?_
    refine rn_getI (k' := 15) rfl rfl K0_118 (by decide) rfl ?_
    show Rn PT none kX12_readDay 15 [some (mR 118), some (mI (0)), none] [mI (Ha 14)] (mkh (m_upd (m_set μ 118 21 (1)) 118 Ha) c s) _
    refine rn_bipush (k' := 16) rfl rfl ?_
    refine rn_icmp_le (k' := 17) rfl rfl (fun hc2 => ?_) (fun hc2 => ?_)
    · skip
      refine rn_sipush (k' := 22) rfl rfl ?_
      refine rn_bipush (k' := 23) rfl rfl ?_
      refine rn_iload_n (k' := 24) rfl rfl rfl ?_
      refine rn_imul (k' := 25) rfl rfl (by omega) ?_
      refine rn_iadd (k' := 26) rfl rfl (by omega) ?_
      refine rn_aload_n (k' := 27) rfl rfl rfl ?_
      refine rn_getI (k' := 28) rfl rfl K0_118 (by decide) rfl ?_
      show Rn PT none kX12_readDay 28 [some (mR 118), some (mI (0)), none] [mI (Ha 14), mI (409 + (30 * 0))] (mkh (m_upd (m_set μ 118 21 (1)) 118 Ha) c s) _
      refine rn_iadd (k' := 29) rfl rfl (by omega) ?_
      refine rn_istore_n (k' := 30) (L' := [some (mR 118), some (mI (0)), some (mI ((409 + (30 * 0)) + (Ha 14)))]) rfl rfl (Nat.le_of_ble_eq_true rfl) rfl ?_
      refine rn_aload_n (k' := 31) rfl rfl rfl ?_
      refine rn_getR (k' := 32) rfl rfl K0_118 (by decide) rfl R0_118_7 ?_
      refine rn_iload_n (k' := 33) rfl rfl rfl ?_
      refine rn_iaload (k' := 34) rfl rfl K0_121 (by omega) (by omega) ?_
      show Rn PT none kX12_readDay 34 [some (mR 118), some (mI (0)), some (mI ((409 + (30 * 0)) + (Ha 14)))] [mI (μ 121 (((409 + (30 * 0)) + (Ha 14)).toNat))] (mkh (m_upd (m_set μ 118 21 (1)) 118 Ha) c s) _
      rw [hr0]
      refine rn_if_le (k' := 35) rfl rfl (fun hc3 => ?_) (fun hc3 => ?_)
      · skip
        refine rn_aload_n (k' := 40) rfl rfl rfl ?_
        obtain ⟨Hb, ⟨hmb, hfb_⟩, hcb⟩ := g_next2 (μ := (m_upd (m_set μ 118 21 (1)) 118 Ha)) (c := c) (s := s) (b := b) (n := n) (m := m) (p := (tkN b n m p)) hMa (by omega)
        have hfb : FRt Hb _ := hfb_.t
        have hM1 : MSt (m_upd (m_upd (m_set μ 118 21 (1)) 118 Ha) 118 Hb) b n m (tkN b n m (tkN b n m p)) := ⟨hMa.1, hMa.2.1, hMa.2.2.1, (tkN_b hMa.2.2.2.1).2.1, hmb⟩
        refine rn_callP (k' := 41) (y := 175) (vs := [mR 118]) (S' := []) (v := none) (h' := mkh (m_upd (m_upd (m_set μ 118 21 (1)) 118 Ha) 118 Hb) c s) rfl rfl rfl (hcb) ?_
        show Rn PT none kX12_readDay 41 [some (mR 118), some (mI (0)), some (mI ((409 + (30 * 0)) + (Ha 14)))] [] (mkh (m_upd (m_upd (m_set μ 118 21 (1)) 118 Ha) 118 Hb) c s) _
        refine rn_aload_n (k' := 42) rfl rfl rfl ?_
        refine rn_iconst (k' := 43) rfl rfl ?_
        refine rn_bipush (k' := 44) rfl rfl ?_
        have hc1 := g_takesX (μ := (m_upd (m_upd (m_set μ 118 21 (1)) 118 Ha) 118 Hb)) (c := c) (s := s) (b := b) (n := n) (m := m) (p := (tkN b n m (tkN b n m p))) (lo := 0) (hi := 99) hM1 e1
        refine rn_callP (k' := 45) (y := 181) (vs := [mR 118, mI (0), mI (99)]) (S' := []) (v := some (mI (0))) (h' := mkh (m_set (m_set (m_upd (m_upd (m_set μ 118 21 (1)) 118 Ha) 118 Hb) 118 15 (eN b n m (tkN b n m (tkN b n m p)) (0) (99))) 118 16 (((tkP b n m (tkN b n m (tkN b n m p)) : Nat) : Int))) c s) rfl rfl rfl (hc1) ?_
        show Rn PT none kX12_readDay 45 [some (mR 118), some (mI (0)), some (mI ((409 + (30 * 0)) + (Ha 14)))] [mI (0)] (mkh (m_set (m_set (m_upd (m_upd (m_set μ 118 21 (1)) 118 Ha) 118 Hb) 118 15 (eN b n m (tkN b n m (tkN b n m p)) (0) (99))) 118 16 (((tkP b n m (tkN b n m (tkN b n m p)) : Nat) : Int))) c s) _
        refine rn_if_ne (k' := 46) rfl rfl (fun hc4 => ?_) (fun hc4 => ?_)
        · exfalso; omega
        · skip
          refine rn_iconst (k' := 47) rfl rfl ?_
          refine rn_iret rfl (Or.inr (by omega)) ?_
          exact ⟨_, rfl, rfl, rfl, (MFr.s (MFr.s (MFr.u (MFr.u (MFr.s MFr.r (by decide)) hfa) hfb) (by decide)) (by decide))⟩
      · exfalso; omega
    · exfalso; omega
  · exfalso; omega
set_option maxHeartbeats 1000000 in
theorem m_day0_ok {μ : Nat → Nat → Int} {c s : Nat} {b : Nat → Int} {n m p : Nat} (hM : MSt μ b n m p) (hk : tkK b n m p = 1) (e0 : eN b n m (tkN b n m p) 0 29 = 0) {j0 : Nat} (hj : tkV b n m (tkN b n m p) = (j0 : Int)) (hd : ¬ 0 < μ 121 (409 + j0)) (e1 : eN b n m (tkN b n m (tkN b n m p)) 0 99 = 0) : ∃ ν', (MSt ν' b n m (tkN b n m (tkN b n m (tkN b n m p))) ∧ MFo μ ν' ∧ ν' 118 20 = μ 118 20 ∧ ν' 118 21 = 1 ∧ ν' 121 (409 + j0) = tkV b n m (tkN b n m (tkN b n m p)) + 1 ∧ (∀ j, ¬ j = (409 + j0) → ν' 121 j = μ 121 j) ∧ ν' 123 = μ 123) ∧ Cl PT 186 [mR 118, mI 0] (mkh μ c s) (fun r => r = (some (some (mI 1)), mkh ν' c s)) := by
  refine Cl.ex (g := fun ν' => (some (some (mI 1)), mkh ν' c s)) ?_
  refine ⟨_, PT_186, Nat.le_of_ble_eq_true rfl, ?_⟩
  show Rn PT none kX12_readDay 0 [some (mR 118), some (mI (0)), none] [] (mkh μ c s) _
  refine rn_aload_n (k' := 1) rfl rfl rfl ?_
  refine rn_iconst (k' := 2) rfl rfl ?_
  refine rn_putZ (k' := 3) rfl rfl K0_118 (by decide) rfl (by omega) ?_
  refine rn_aload_n (k' := 4) rfl rfl rfl ?_
  obtain ⟨Ha, ⟨hma, hfa_⟩, hca⟩ := g_next2 (μ := (m_set μ 118 21 (1))) (c := c) (s := s) (b := b) (n := n) (m := m) (p := p) hM (by omega)
  have hfa : FRt Ha _ := hfa_.t
  have hMa : MSt (m_upd (m_set μ 118 21 (1)) 118 Ha) b n m (tkN b n m p) := ⟨hM.1, hM.2.1, hM.2.2.1, (tkN_b hM.2.2.2.1).2.1, hma⟩
  obtain ⟨_, _, u12, u11, _, _, u14, _⟩ := hma
  refine rn_callP (k' := 5) (y := 175) (vs := [mR 118]) (S' := []) (v := none) (h' := mkh (m_upd (m_set μ 118 21 (1)) 118 Ha) c s) rfl rfl rfl (hca) ?_
  show Rn PT none kX12_readDay 5 [some (mR 118), some (mI (0)), none] [] (mkh (m_upd (m_set μ 118 21 (1)) 118 Ha) c s) _
  obtain ⟨k2, k3, k4⟩ := eN_ok e0
  have hu : Ha 11 = 2 := by rw [u11]; exact mkk_2.mpr k2
  have hu14 := u14 k2
  have hi0 : (409 + 30 * 0 + Ha 14).toNat = 409 + j0 := by omega
  have hr0 : μ 121 (409 + 30 * 0 + Ha 14).toNat = μ 121 (409 + j0) := by rw [hi0]
  refine rn_aload_n (k' := 6) rfl rfl rfl ?_
  refine rn_getI (k' := 7) rfl rfl K0_118 (by decide) rfl ?_
  show Rn PT none kX12_readDay 7 [some (mR 118), some (mI (0)), none] [mI (Ha 11)] (mkh (m_upd (m_set μ 118 21 (1)) 118 Ha) c s) _
  refine rn_iconst (k' := 8) rfl rfl ?_
  refine rn_icmp_eq (k' := 9) rfl rfl (fun hc1 => ?_) (fun hc1 => ?_)
  · skip
    refine rn_aload_n (k' := 14) rfl rfl rfl ?_
    refine rn_getI (k' := 15) rfl rfl K0_118 (by decide) rfl ?_
    show Rn PT none kX12_readDay 15 [some (mR 118), some (mI (0)), none] [mI (Ha 14)] (mkh (m_upd (m_set μ 118 21 (1)) 118 Ha) c s) _
    refine rn_bipush (k' := 16) rfl rfl ?_
    refine rn_icmp_le (k' := 17) rfl rfl (fun hc2 => ?_) (fun hc2 => ?_)
    · skip
      refine rn_sipush (k' := 22) rfl rfl ?_
      refine rn_bipush (k' := 23) rfl rfl ?_
      refine rn_iload_n (k' := 24) rfl rfl rfl ?_
      refine rn_imul (k' := 25) rfl rfl (by omega) ?_
      refine rn_iadd (k' := 26) rfl rfl (by omega) ?_
      refine rn_aload_n (k' := 27) rfl rfl rfl ?_
      refine rn_getI (k' := 28) rfl rfl K0_118 (by decide) rfl ?_
      show Rn PT none kX12_readDay 28 [some (mR 118), some (mI (0)), none] [mI (Ha 14), mI (409 + (30 * 0))] (mkh (m_upd (m_set μ 118 21 (1)) 118 Ha) c s) _
      refine rn_iadd (k' := 29) rfl rfl (by omega) ?_
      refine rn_istore_n (k' := 30) (L' := [some (mR 118), some (mI (0)), some (mI ((409 + (30 * 0)) + (Ha 14)))]) rfl rfl (Nat.le_of_ble_eq_true rfl) rfl ?_
      refine rn_aload_n (k' := 31) rfl rfl rfl ?_
      refine rn_getR (k' := 32) rfl rfl K0_118 (by decide) rfl R0_118_7 ?_
      refine rn_iload_n (k' := 33) rfl rfl rfl ?_
      refine rn_iaload (k' := 34) rfl rfl K0_121 (by omega) (by omega) ?_
      show Rn PT none kX12_readDay 34 [some (mR 118), some (mI (0)), some (mI ((409 + (30 * 0)) + (Ha 14)))] [mI (μ 121 (((409 + (30 * 0)) + (Ha 14)).toNat))] (mkh (m_upd (m_set μ 118 21 (1)) 118 Ha) c s) _
      rw [hr0]
      refine rn_if_le (k' := 35) rfl rfl (fun hc3 => ?_) (fun hc3 => ?_)
      · skip
        refine rn_aload_n (k' := 40) rfl rfl rfl ?_
        obtain ⟨Hb, ⟨hmb, hfb_⟩, hcb⟩ := g_next2 (μ := (m_upd (m_set μ 118 21 (1)) 118 Ha)) (c := c) (s := s) (b := b) (n := n) (m := m) (p := (tkN b n m p)) hMa (by omega)
        have hfb : FRt Hb _ := hfb_.t
        have hM1 : MSt (m_upd (m_upd (m_set μ 118 21 (1)) 118 Ha) 118 Hb) b n m (tkN b n m (tkN b n m p)) := ⟨hMa.1, hMa.2.1, hMa.2.2.1, (tkN_b hMa.2.2.2.1).2.1, hmb⟩
        refine rn_callP (k' := 41) (y := 175) (vs := [mR 118]) (S' := []) (v := none) (h' := mkh (m_upd (m_upd (m_set μ 118 21 (1)) 118 Ha) 118 Hb) c s) rfl rfl rfl (hcb) ?_
        show Rn PT none kX12_readDay 41 [some (mR 118), some (mI (0)), some (mI ((409 + (30 * 0)) + (Ha 14)))] [] (mkh (m_upd (m_upd (m_set μ 118 21 (1)) 118 Ha) 118 Hb) c s) _
        refine rn_aload_n (k' := 42) rfl rfl rfl ?_
        refine rn_iconst (k' := 43) rfl rfl ?_
        refine rn_bipush (k' := 44) rfl rfl ?_
        obtain ⟨H1, ⟨hm1, hv1, hf1⟩, hc1⟩ := g_takes (μ := (m_upd (m_upd (m_set μ 118 21 (1)) 118 Ha) 118 Hb)) (c := c) (s := s) (b := b) (n := n) (m := m) (p := (tkN b n m (tkN b n m p))) (lo := 0) (hi := 99) hM1 e1
        have hM2 : MSt (m_upd (m_upd (m_upd (m_set μ 118 21 (1)) 118 Ha) 118 Hb) 118 H1) b n m (tkN b n m (tkN b n m (tkN b n m p))) := ⟨hM1.1, hM1.2.1, hM1.2.2.1, (tkN_b hM1.2.2.2.1).2.1, hm1⟩
        have kk1 := eN_ok e1
        refine rn_callP (k' := 45) (y := 181) (vs := [mR 118, mI (0), mI (99)]) (S' := []) (v := some (mI (1))) (h' := mkh (m_upd (m_upd (m_upd (m_set μ 118 21 (1)) 118 Ha) 118 Hb) 118 H1) c s) rfl rfl rfl (hc1) ?_
        show Rn PT none kX12_readDay 45 [some (mR 118), some (mI (0)), some (mI ((409 + (30 * 0)) + (Ha 14)))] [mI (1)] (mkh (m_upd (m_upd (m_upd (m_set μ 118 21 (1)) 118 Ha) 118 Hb) 118 H1) c s) _
        refine rn_if_ne (k' := 46) rfl rfl (fun hc4 => ?_) (fun hc4 => ?_)
        · skip
          refine rn_aload_n (k' := 49) rfl rfl rfl ?_
          refine rn_getR (k' := 50) rfl rfl K0_118 (by decide) rfl R0_118_7 ?_
          refine rn_iload_n (k' := 51) rfl rfl rfl ?_
          refine rn_aload_n (k' := 52) rfl rfl rfl ?_
          refine rn_getI (k' := 53) rfl rfl K0_118 (by decide) rfl ?_
          show Rn PT none kX12_readDay 53 [some (mR 118), some (mI (0)), some (mI ((409 + (30 * 0)) + (Ha 14)))] [mI (H1 18), mI ((409 + (30 * 0)) + (Ha 14)), mR 121] (mkh (m_upd (m_upd (m_upd (m_set μ 118 21 (1)) 118 Ha) 118 Hb) 118 H1) c s) _
          refine rn_iconst (k' := 54) rfl rfl ?_
          refine rn_iadd (k' := 55) rfl rfl (by omega) ?_
          refine rn_iastore (k' := 56) rfl rfl K0_121 (by omega) (by omega) ?_
          refine rn_iconst (k' := 57) rfl rfl ?_
          refine rn_iret rfl (Or.inr (by omega)) ?_
          have hv2 : H1 18 + 1 = tkV b n m (tkN b n m (tkN b n m p)) + 1 := by rw [hv1]
          exact ⟨_, rfl, hM2, ⟨(MFr.s2 (MFr.u (MFr.u (MFr.u (MFr.s MFr.r (by decide)) hfa) hfb) hf1) (.inl rfl)), ((hf1 15 (by decide) (by decide) (by decide) (by decide) (by decide) (by decide) (by decide)).trans ((hfb 15 (by decide) (by decide) (by decide) (by decide) (by decide) (by decide) (by decide)).trans ((hfa 15 (by decide) (by decide) (by decide) (by decide) (by decide) (by decide) (by decide)).trans rfl)))⟩, ((hf1 20 (by decide) (by decide) (by decide) (by decide) (by decide) (by decide) (by decide)).trans ((hfb 20 (by decide) (by decide) (by decide) (by decide) (by decide) (by decide) (by decide)).trans ((hfa 20 (by decide) (by decide) (by decide) (by decide) (by decide) (by decide) (by decide)).trans rfl))), ((hf1 21 (by decide) (by decide) (by decide) (by decide) (by decide) (by decide) (by decide)).trans ((hfb 21 (by decide) (by decide) (by decide) (by decide) (by decide) (by decide) (by decide)).trans ((hfa 21 (by decide) (by decide) (by decide) (by decide) (by decide) (by decide) (by decide)).trans rfl))), (set_hit hi0).trans hv2, (fun j hj2 => set_mis (by omega)), rfl⟩
        · exfalso; omega
      · exfalso; omega
    · exfalso; omega
  · exfalso; omega
set_option maxHeartbeats 1000000 in
theorem m_day1_x0 {μ : Nat → Nat → Int} {c s : Nat} {b : Nat → Int} {n m p : Nat} (hM : MSt μ b n m p) (hk : tkK b n m p = 1) (e0 : ¬ eN b n m (tkN b n m p) 0 29 = 0) : ∃ ν', (ν' 118 15 = eN b n m (tkN b n m p) 0 29 ∧ ν' 118 16 = ((tkP b n m (tkN b n m p) : Nat) : Int) ∧ MFr μ ν') ∧ Cl PT 186 [mR 118, mI 1] (mkh μ c s) (fun r => r = (some (some (mI 0)), mkh ν' c s)) := by
  refine Cl.ex (g := fun ν' => (some (some (mI 0)), mkh ν' c s)) ?_
  refine ⟨_, PT_186, Nat.le_of_ble_eq_true rfl, ?_⟩
  show Rn PT none kX12_readDay 0 [some (mR 118), some (mI (1)), none] [] (mkh μ c s) _
  refine rn_aload_n (k' := 1) rfl rfl rfl ?_
  refine rn_iconst (k' := 2) rfl rfl ?_
  refine rn_putZ (k' := 3) rfl rfl K0_118 (by decide) rfl (by omega) ?_
  refine rn_aload_n (k' := 4) rfl rfl rfl ?_
  obtain ⟨Ha, ⟨hma, hfa_⟩, hca⟩ := g_next2 (μ := (m_set μ 118 21 (1))) (c := c) (s := s) (b := b) (n := n) (m := m) (p := p) hM (by omega)
  have hfa : FRt Ha _ := hfa_.t
  have hMa : MSt (m_upd (m_set μ 118 21 (1)) 118 Ha) b n m (tkN b n m p) := ⟨hM.1, hM.2.1, hM.2.2.1, (tkN_b hM.2.2.2.1).2.1, hma⟩
  obtain ⟨_, _, u12, u11, _, _, u14, _⟩ := hma
  refine rn_callP (k' := 5) (y := 175) (vs := [mR 118]) (S' := []) (v := none) (h' := mkh (m_upd (m_set μ 118 21 (1)) 118 Ha) c s) rfl rfl rfl (hca) ?_
  show Rn PT none kX12_readDay 5 [some (mR 118), some (mI (1)), none] [] (mkh (m_upd (m_set μ 118 21 (1)) 118 Ha) c s) _
  by_cases k2 : tkK b n m (tkN b n m p) = 2
  · have hu : Ha 11 = 2 := by rw [u11]; exact mkk_2.mpr k2
    have hu14 := u14 k2
    have tn := (tk_num k2).2.1
    have hgt : 29 < tkV b n m (tkN b n m p) := Classical.byContradiction (fun z => e0 (eN_0 k2 (by omega)))
    refine rn_aload_n (k' := 6) rfl rfl rfl ?_
    refine rn_getI (k' := 7) rfl rfl K0_118 (by decide) rfl ?_
    show Rn PT none kX12_readDay 7 [some (mR 118), some (mI (1)), none] [mI (Ha 11)] (mkh (m_upd (m_set μ 118 21 (1)) 118 Ha) c s) _
    refine rn_iconst (k' := 8) rfl rfl ?_
    refine rn_icmp_eq (k' := 9) rfl rfl (fun hc1 => ?_) (fun hc1 => ?_)
    · skip
      refine rn_aload_n (k' := 14) rfl rfl rfl ?_
      refine rn_getI (k' := 15) rfl rfl K0_118 (by decide) rfl ?_
      show Rn PT none kX12_readDay 15 [some (mR 118), some (mI (1)), none] [mI (Ha 14)] (mkh (m_upd (m_set μ 118 21 (1)) 118 Ha) c s) _
      refine rn_bipush (k' := 16) rfl rfl ?_
      refine rn_icmp_le (k' := 17) rfl rfl (fun hc2 => ?_) (fun hc2 => ?_)
      · exfalso; omega
      · skip
        refine rn_aload_n (k' := 18) rfl rfl rfl ?_
        refine rn_iconst (k' := 19) rfl rfl ?_
        refine rn_callP (k' := 20) (y := 176) (vs := [mR 118, mI (2)]) (S' := []) (v := some (mI (0))) (h' := mkh (m_set (m_set (m_upd (m_set μ 118 21 (1)) 118 Ha) 118 15 (2)) 118 16 (Ha 12)) c s) rfl rfl rfl (g_bad (μ := (m_upd (m_set μ 118 21 (1)) 118 Ha)) (e := 2)) ?_
        show Rn PT none kX12_readDay 20 [some (mR 118), some (mI (1)), none] [mI (0)] (mkh (m_set (m_set (m_upd (m_set μ 118 21 (1)) 118 Ha) 118 15 (2)) 118 16 (Ha 12)) c s) _
        refine rn_iret rfl (Or.inr (by omega)) ?_
        refine ⟨_, rfl, ?_, u12, (MFr.s (MFr.s (MFr.u (MFr.s MFr.r (by decide)) hfa) (by decide)) (by decide))⟩
        rw [eN_2 k2 (by omega)]; rfl
    · exfalso; omega
  · have hu : ¬ Ha 11 = 2 := by rw [u11]; exact fun z => k2 (mkk_2.mp z)
    refine rn_aload_n (k' := 6) rfl rfl rfl ?_
    refine rn_getI (k' := 7) rfl rfl K0_118 (by decide) rfl ?_
    show Rn PT none kX12_readDay 7 [some (mR 118), some (mI (1)), none] [mI (Ha 11)] (mkh (m_upd (m_set μ 118 21 (1)) 118 Ha) c s) _
    refine rn_iconst (k' := 8) rfl rfl ?_
    refine rn_icmp_eq (k' := 9) rfl rfl (fun hc1 => ?_) (fun hc1 => ?_)
    · exfalso; omega
    · skip
      refine rn_aload_n (k' := 10) rfl rfl rfl ?_
      refine rn_iconst (k' := 11) rfl rfl ?_
      refine rn_callP (k' := 12) (y := 176) (vs := [mR 118, mI (1)]) (S' := []) (v := some (mI (0))) (h' := mkh (m_set (m_set (m_upd (m_set μ 118 21 (1)) 118 Ha) 118 15 (1)) 118 16 (Ha 12)) c s) rfl rfl rfl (g_bad (μ := (m_upd (m_set μ 118 21 (1)) 118 Ha)) (e := 1)) ?_
      show Rn PT none kX12_readDay 12 [some (mR 118), some (mI (1)), none] [mI (0)] (mkh (m_set (m_set (m_upd (m_set μ 118 21 (1)) 118 Ha) 118 15 (1)) 118 16 (Ha 12)) c s) _
      refine rn_iret rfl (Or.inr (by omega)) ?_
      refine ⟨_, rfl, ?_, u12, (MFr.s (MFr.s (MFr.u (MFr.s MFr.r (by decide)) hfa) (by decide)) (by decide))⟩
      rw [eN_1 k2]; rfl
set_option maxHeartbeats 1000000 in
theorem m_day1_had {μ : Nat → Nat → Int} {c s : Nat} {b : Nat → Int} {n m p : Nat} (hM : MSt μ b n m p) (hk : tkK b n m p = 1) (e0 : eN b n m (tkN b n m p) 0 29 = 0) {j0 : Nat} (hj : tkV b n m (tkN b n m p) = (j0 : Int)) (hd : 0 < μ 121 (439 + j0)) : ∃ ν', (ν' 118 15 = 3 ∧ ν' 118 16 = ((tkP b n m (tkN b n m p) : Nat) : Int) ∧ MFr μ ν') ∧ Cl PT 186 [mR 118, mI 1] (mkh μ c s) (fun r => r = (some (some (mI 0)), mkh ν' c s)) := by
  refine Cl.ex (g := fun ν' => (some (some (mI 0)), mkh ν' c s)) ?_
  refine ⟨_, PT_186, Nat.le_of_ble_eq_true rfl, ?_⟩
  show Rn PT none kX12_readDay 0 [some (mR 118), some (mI (1)), none] [] (mkh μ c s) _
  refine rn_aload_n (k' := 1) rfl rfl rfl ?_
  refine rn_iconst (k' := 2) rfl rfl ?_
  refine rn_putZ (k' := 3) rfl rfl K0_118 (by decide) rfl (by omega) ?_
  refine rn_aload_n (k' := 4) rfl rfl rfl ?_
  obtain ⟨Ha, ⟨hma, hfa_⟩, hca⟩ := g_next2 (μ := (m_set μ 118 21 (1))) (c := c) (s := s) (b := b) (n := n) (m := m) (p := p) hM (by omega)
  have hfa : FRt Ha _ := hfa_.t
  have hMa : MSt (m_upd (m_set μ 118 21 (1)) 118 Ha) b n m (tkN b n m p) := ⟨hM.1, hM.2.1, hM.2.2.1, (tkN_b hM.2.2.2.1).2.1, hma⟩
  obtain ⟨_, _, u12, u11, _, _, u14, _⟩ := hma
  refine rn_callP (k' := 5) (y := 175) (vs := [mR 118]) (S' := []) (v := none) (h' := mkh (m_upd (m_set μ 118 21 (1)) 118 Ha) c s) rfl rfl rfl (hca) ?_
  show Rn PT none kX12_readDay 5 [some (mR 118), some (mI (1)), none] [] (mkh (m_upd (m_set μ 118 21 (1)) 118 Ha) c s) _
  obtain ⟨k2, k3, k4⟩ := eN_ok e0
  have hu : Ha 11 = 2 := by rw [u11]; exact mkk_2.mpr k2
  have hu14 := u14 k2
  have hi0 : (409 + 30 * 1 + Ha 14).toNat = 439 + j0 := by omega
  have hr0 : μ 121 (409 + 30 * 1 + Ha 14).toNat = μ 121 (439 + j0) := by rw [hi0]
  refine rn_aload_n (k' := 6) rfl rfl rfl ?_
  refine rn_getI (k' := 7) rfl rfl K0_118 (by decide) rfl ?_
  show Rn PT none kX12_readDay 7 [some (mR 118), some (mI (1)), none] [mI (Ha 11)] (mkh (m_upd (m_set μ 118 21 (1)) 118 Ha) c s) _
  refine rn_iconst (k' := 8) rfl rfl ?_
  refine rn_icmp_eq (k' := 9) rfl rfl (fun hc1 => ?_) (fun hc1 => ?_)
  · skip
    refine rn_aload_n (k' := 14) rfl rfl rfl ?_
    refine rn_getI (k' := 15) rfl rfl K0_118 (by decide) rfl ?_
    show Rn PT none kX12_readDay 15 [some (mR 118), some (mI (1)), none] [mI (Ha 14)] (mkh (m_upd (m_set μ 118 21 (1)) 118 Ha) c s) _
    refine rn_bipush (k' := 16) rfl rfl ?_
    refine rn_icmp_le (k' := 17) rfl rfl (fun hc2 => ?_) (fun hc2 => ?_)
    · skip
      refine rn_sipush (k' := 22) rfl rfl ?_
      refine rn_bipush (k' := 23) rfl rfl ?_
      refine rn_iload_n (k' := 24) rfl rfl rfl ?_
      refine rn_imul (k' := 25) rfl rfl (by omega) ?_
      refine rn_iadd (k' := 26) rfl rfl (by omega) ?_
      refine rn_aload_n (k' := 27) rfl rfl rfl ?_
      refine rn_getI (k' := 28) rfl rfl K0_118 (by decide) rfl ?_
      show Rn PT none kX12_readDay 28 [some (mR 118), some (mI (1)), none] [mI (Ha 14), mI (409 + (30 * 1))] (mkh (m_upd (m_set μ 118 21 (1)) 118 Ha) c s) _
      refine rn_iadd (k' := 29) rfl rfl (by omega) ?_
      refine rn_istore_n (k' := 30) (L' := [some (mR 118), some (mI (1)), some (mI ((409 + (30 * 1)) + (Ha 14)))]) rfl rfl (Nat.le_of_ble_eq_true rfl) rfl ?_
      refine rn_aload_n (k' := 31) rfl rfl rfl ?_
      refine rn_getR (k' := 32) rfl rfl K0_118 (by decide) rfl R0_118_7 ?_
      refine rn_iload_n (k' := 33) rfl rfl rfl ?_
      refine rn_iaload (k' := 34) rfl rfl K0_121 (by omega) (by omega) ?_
      show Rn PT none kX12_readDay 34 [some (mR 118), some (mI (1)), some (mI ((409 + (30 * 1)) + (Ha 14)))] [mI (μ 121 (((409 + (30 * 1)) + (Ha 14)).toNat))] (mkh (m_upd (m_set μ 118 21 (1)) 118 Ha) c s) _
      rw [hr0]
      refine rn_if_le (k' := 35) rfl rfl (fun hc3 => ?_) (fun hc3 => ?_)
      · exfalso; omega
      · skip
        refine rn_aload_n (k' := 36) rfl rfl rfl ?_
        refine rn_iconst (k' := 37) rfl rfl ?_
        refine rn_callP (k' := 38) (y := 176) (vs := [mR 118, mI (3)]) (S' := []) (v := some (mI (0))) (h' := mkh (m_set (m_set (m_upd (m_set μ 118 21 (1)) 118 Ha) 118 15 (3)) 118 16 (Ha 12)) c s) rfl rfl rfl (g_bad (μ := (m_upd (m_set μ 118 21 (1)) 118 Ha)) (e := 3)) ?_
        show Rn PT none kX12_readDay 38 [some (mR 118), some (mI (1)), some (mI ((409 + (30 * 1)) + (Ha 14)))] [mI (0)] (mkh (m_set (m_set (m_upd (m_set μ 118 21 (1)) 118 Ha) 118 15 (3)) 118 16 (Ha 12)) c s) _
        refine rn_iret rfl (Or.inr (by omega)) ?_
        exact ⟨_, rfl, rfl, u12, (MFr.s (MFr.s (MFr.u (MFr.s MFr.r (by decide)) hfa) (by decide)) (by decide))⟩
    · exfalso; omega
  · exfalso; omega
set_option maxHeartbeats 1000000 in
theorem m_day1_x1 {μ : Nat → Nat → Int} {c s : Nat} {b : Nat → Int} {n m p : Nat} (hM : MSt μ b n m p) (hk : tkK b n m p = 1) (e0 : eN b n m (tkN b n m p) 0 29 = 0) {j0 : Nat} (hj : tkV b n m (tkN b n m p) = (j0 : Int)) (hd : ¬ 0 < μ 121 (439 + j0)) (e1 : ¬ eN b n m (tkN b n m (tkN b n m p)) 0 99 = 0) : ∃ ν', (ν' 118 15 = eN b n m (tkN b n m (tkN b n m p)) 0 99 ∧ ν' 118 16 = ((tkP b n m (tkN b n m (tkN b n m p)) : Nat) : Int) ∧ MFr μ ν') ∧ Cl PT 186 [mR 118, mI 1] (mkh μ c s) (fun r => r = (some (some (mI 0)), mkh ν' c s)) := by
  refine Cl.ex (g := fun ν' => (some (some (mI 0)), mkh ν' c s)) ?_
  refine ⟨_, PT_186, Nat.le_of_ble_eq_true rfl, ?_⟩
  show Rn PT none kX12_readDay 0 [some (mR 118), some (mI (1)), none] [] (mkh μ c s) _
  refine rn_aload_n (k' := 1) rfl rfl rfl ?_
  refine rn_iconst (k' := 2) rfl rfl ?_
  refine rn_putZ (k' := 3) rfl rfl K0_118 (by decide) rfl (by omega) ?_
  refine rn_aload_n (k' := 4) rfl rfl rfl ?_
  obtain ⟨Ha, ⟨hma, hfa_⟩, hca⟩ := g_next2 (μ := (m_set μ 118 21 (1))) (c := c) (s := s) (b := b) (n := n) (m := m) (p := p) hM (by omega)
  have hfa : FRt Ha _ := hfa_.t
  have hMa : MSt (m_upd (m_set μ 118 21 (1)) 118 Ha) b n m (tkN b n m p) := ⟨hM.1, hM.2.1, hM.2.2.1, (tkN_b hM.2.2.2.1).2.1, hma⟩
  obtain ⟨_, _, u12, u11, _, _, u14, _⟩ := hma
  refine rn_callP (k' := 5) (y := 175) (vs := [mR 118]) (S' := []) (v := none) (h' := mkh (m_upd (m_set μ 118 21 (1)) 118 Ha) c s) rfl rfl rfl (hca) ?_
  show Rn PT none kX12_readDay 5 [some (mR 118), some (mI (1)), none] [] (mkh (m_upd (m_set μ 118 21 (1)) 118 Ha) c s) _
  obtain ⟨k2, k3, k4⟩ := eN_ok e0
  have hu : Ha 11 = 2 := by rw [u11]; exact mkk_2.mpr k2
  have hu14 := u14 k2
  have hi0 : (409 + 30 * 1 + Ha 14).toNat = 439 + j0 := by omega
  have hr0 : μ 121 (409 + 30 * 1 + Ha 14).toNat = μ 121 (439 + j0) := by rw [hi0]
  refine rn_aload_n (k' := 6) rfl rfl rfl ?_
  refine rn_getI (k' := 7) rfl rfl K0_118 (by decide) rfl ?_
  show Rn PT none kX12_readDay 7 [some (mR 118), some (mI (1)), none] [mI (Ha 11)] (mkh (m_upd (m_set μ 118 21 (1)) 118 Ha) c s) _
  refine rn_iconst (k' := 8) rfl rfl ?_
  refine rn_icmp_eq (k' := 9) rfl rfl (fun hc1 => ?_) (fun hc1 => ?_)
  · skip
    refine rn_aload_n (k' := 14) rfl rfl rfl ?_
    refine rn_getI (k' := 15) rfl rfl K0_118 (by decide) rfl ?_
    show Rn PT none kX12_readDay 15 [some (mR 118), some (mI (1)), none] [mI (Ha 14)] (mkh (m_upd (m_set μ 118 21 (1)) 118 Ha) c s) _
    refine rn_bipush (k' := 16) rfl rfl ?_
    refine rn_icmp_le (k' := 17) rfl rfl (fun hc2 => ?_) (fun hc2 => ?_)
    · skip
      refine rn_sipush (k' := 22) rfl rfl ?_
      refine rn_bipush (k' := 23) rfl rfl ?_
      refine rn_iload_n (k' := 24) rfl rfl rfl ?_
      refine rn_imul (k' := 25) rfl rfl (by omega) ?_
      refine rn_iadd (k' := 26) rfl rfl (by omega) ?_
      refine rn_aload_n (k' := 27) rfl rfl rfl ?_
      refine rn_getI (k' := 28) rfl rfl K0_118 (by decide) rfl ?_
      show Rn PT none kX12_readDay 28 [some (mR 118), some (mI (1)), none] [mI (Ha 14), mI (409 + (30 * 1))] (mkh (m_upd (m_set μ 118 21 (1)) 118 Ha) c s) _
      refine rn_iadd (k' := 29) rfl rfl (by omega) ?_
      refine rn_istore_n (k' := 30) (L' := [some (mR 118), some (mI (1)), some (mI ((409 + (30 * 1)) + (Ha 14)))]) rfl rfl (Nat.le_of_ble_eq_true rfl) rfl ?_
      refine rn_aload_n (k' := 31) rfl rfl rfl ?_
      refine rn_getR (k' := 32) rfl rfl K0_118 (by decide) rfl R0_118_7 ?_
      refine rn_iload_n (k' := 33) rfl rfl rfl ?_
      refine rn_iaload (k' := 34) rfl rfl K0_121 (by omega) (by omega) ?_
      show Rn PT none kX12_readDay 34 [some (mR 118), some (mI (1)), some (mI ((409 + (30 * 1)) + (Ha 14)))] [mI (μ 121 (((409 + (30 * 1)) + (Ha 14)).toNat))] (mkh (m_upd (m_set μ 118 21 (1)) 118 Ha) c s) _
      rw [hr0]
      refine rn_if_le (k' := 35) rfl rfl (fun hc3 => ?_) (fun hc3 => ?_)
      · skip
        refine rn_aload_n (k' := 40) rfl rfl rfl ?_
        obtain ⟨Hb, ⟨hmb, hfb_⟩, hcb⟩ := g_next2 (μ := (m_upd (m_set μ 118 21 (1)) 118 Ha)) (c := c) (s := s) (b := b) (n := n) (m := m) (p := (tkN b n m p)) hMa (by omega)
        have hfb : FRt Hb _ := hfb_.t
        have hM1 : MSt (m_upd (m_upd (m_set μ 118 21 (1)) 118 Ha) 118 Hb) b n m (tkN b n m (tkN b n m p)) := ⟨hMa.1, hMa.2.1, hMa.2.2.1, (tkN_b hMa.2.2.2.1).2.1, hmb⟩
        refine rn_callP (k' := 41) (y := 175) (vs := [mR 118]) (S' := []) (v := none) (h' := mkh (m_upd (m_upd (m_set μ 118 21 (1)) 118 Ha) 118 Hb) c s) rfl rfl rfl (hcb) ?_
        show Rn PT none kX12_readDay 41 [some (mR 118), some (mI (1)), some (mI ((409 + (30 * 1)) + (Ha 14)))] [] (mkh (m_upd (m_upd (m_set μ 118 21 (1)) 118 Ha) 118 Hb) c s) _
        refine rn_aload_n (k' := 42) rfl rfl rfl ?_
        refine rn_iconst (k' := 43) rfl rfl ?_
        refine rn_bipush (k' := 44) rfl rfl ?_
        have hc1 := g_takesX (μ := (m_upd (m_upd (m_set μ 118 21 (1)) 118 Ha) 118 Hb)) (c := c) (s := s) (b := b) (n := n) (m := m) (p := (tkN b n m (tkN b n m p))) (lo := 0) (hi := 99) hM1 e1
        refine rn_callP (k' := 45) (y := 181) (vs := [mR 118, mI (0), mI (99)]) (S' := []) (v := some (mI (0))) (h' := mkh (m_set (m_set (m_upd (m_upd (m_set μ 118 21 (1)) 118 Ha) 118 Hb) 118 15 (eN b n m (tkN b n m (tkN b n m p)) (0) (99))) 118 16 (((tkP b n m (tkN b n m (tkN b n m p)) : Nat) : Int))) c s) rfl rfl rfl (hc1) ?_
        show Rn PT none kX12_readDay 45 [some (mR 118), some (mI (1)), some (mI ((409 + (30 * 1)) + (Ha 14)))] [mI (0)] (mkh (m_set (m_set (m_upd (m_upd (m_set μ 118 21 (1)) 118 Ha) 118 Hb) 118 15 (eN b n m (tkN b n m (tkN b n m p)) (0) (99))) 118 16 (((tkP b n m (tkN b n m (tkN b n m p)) : Nat) : Int))) c s) _
        refine rn_if_ne (k' := 46) rfl rfl (fun hc4 => ?_) (fun hc4 => ?_)
        · exfalso; omega
        · skip
          refine rn_iconst (k' := 47) rfl rfl ?_
          refine rn_iret rfl (Or.inr (by omega)) ?_
          exact ⟨_, rfl, rfl, rfl, (MFr.s (MFr.s (MFr.u (MFr.u (MFr.s MFr.r (by decide)) hfa) hfb) (by decide)) (by decide))⟩
      · exfalso; omega
    · exfalso; omega
  · exfalso; omega
set_option maxHeartbeats 1000000 in
theorem m_day1_ok {μ : Nat → Nat → Int} {c s : Nat} {b : Nat → Int} {n m p : Nat} (hM : MSt μ b n m p) (hk : tkK b n m p = 1) (e0 : eN b n m (tkN b n m p) 0 29 = 0) {j0 : Nat} (hj : tkV b n m (tkN b n m p) = (j0 : Int)) (hd : ¬ 0 < μ 121 (439 + j0)) (e1 : eN b n m (tkN b n m (tkN b n m p)) 0 99 = 0) : ∃ ν', (MSt ν' b n m (tkN b n m (tkN b n m (tkN b n m p))) ∧ MFo μ ν' ∧ ν' 118 20 = μ 118 20 ∧ ν' 118 21 = 1 ∧ ν' 121 (439 + j0) = tkV b n m (tkN b n m (tkN b n m p)) + 1 ∧ (∀ j, ¬ j = (439 + j0) → ν' 121 j = μ 121 j) ∧ ν' 123 = μ 123) ∧ Cl PT 186 [mR 118, mI 1] (mkh μ c s) (fun r => r = (some (some (mI 1)), mkh ν' c s)) := by
  refine Cl.ex (g := fun ν' => (some (some (mI 1)), mkh ν' c s)) ?_
  refine ⟨_, PT_186, Nat.le_of_ble_eq_true rfl, ?_⟩
  show Rn PT none kX12_readDay 0 [some (mR 118), some (mI (1)), none] [] (mkh μ c s) _
  refine rn_aload_n (k' := 1) rfl rfl rfl ?_
  refine rn_iconst (k' := 2) rfl rfl ?_
  refine rn_putZ (k' := 3) rfl rfl K0_118 (by decide) rfl (by omega) ?_
  refine rn_aload_n (k' := 4) rfl rfl rfl ?_
  obtain ⟨Ha, ⟨hma, hfa_⟩, hca⟩ := g_next2 (μ := (m_set μ 118 21 (1))) (c := c) (s := s) (b := b) (n := n) (m := m) (p := p) hM (by omega)
  have hfa : FRt Ha _ := hfa_.t
  have hMa : MSt (m_upd (m_set μ 118 21 (1)) 118 Ha) b n m (tkN b n m p) := ⟨hM.1, hM.2.1, hM.2.2.1, (tkN_b hM.2.2.2.1).2.1, hma⟩
  obtain ⟨_, _, u12, u11, _, _, u14, _⟩ := hma
  refine rn_callP (k' := 5) (y := 175) (vs := [mR 118]) (S' := []) (v := none) (h' := mkh (m_upd (m_set μ 118 21 (1)) 118 Ha) c s) rfl rfl rfl (hca) ?_
  show Rn PT none kX12_readDay 5 [some (mR 118), some (mI (1)), none] [] (mkh (m_upd (m_set μ 118 21 (1)) 118 Ha) c s) _
  obtain ⟨k2, k3, k4⟩ := eN_ok e0
  have hu : Ha 11 = 2 := by rw [u11]; exact mkk_2.mpr k2
  have hu14 := u14 k2
  have hi0 : (409 + 30 * 1 + Ha 14).toNat = 439 + j0 := by omega
  have hr0 : μ 121 (409 + 30 * 1 + Ha 14).toNat = μ 121 (439 + j0) := by rw [hi0]
  refine rn_aload_n (k' := 6) rfl rfl rfl ?_
  refine rn_getI (k' := 7) rfl rfl K0_118 (by decide) rfl ?_
  show Rn PT none kX12_readDay 7 [some (mR 118), some (mI (1)), none] [mI (Ha 11)] (mkh (m_upd (m_set μ 118 21 (1)) 118 Ha) c s) _
  refine rn_iconst (k' := 8) rfl rfl ?_
  refine rn_icmp_eq (k' := 9) rfl rfl (fun hc1 => ?_) (fun hc1 => ?_)
  · skip
    refine rn_aload_n (k' := 14) rfl rfl rfl ?_
    refine rn_getI (k' := 15) rfl rfl K0_118 (by decide) rfl ?_
    show Rn PT none kX12_readDay 15 [some (mR 118), some (mI (1)), none] [mI (Ha 14)] (mkh (m_upd (m_set μ 118 21 (1)) 118 Ha) c s) _
    refine rn_bipush (k' := 16) rfl rfl ?_
    refine rn_icmp_le (k' := 17) rfl rfl (fun hc2 => ?_) (fun hc2 => ?_)
    · skip
      refine rn_sipush (k' := 22) rfl rfl ?_
      refine rn_bipush (k' := 23) rfl rfl ?_
      refine rn_iload_n (k' := 24) rfl rfl rfl ?_
      refine rn_imul (k' := 25) rfl rfl (by omega) ?_
      refine rn_iadd (k' := 26) rfl rfl (by omega) ?_
      refine rn_aload_n (k' := 27) rfl rfl rfl ?_
      refine rn_getI (k' := 28) rfl rfl K0_118 (by decide) rfl ?_
      show Rn PT none kX12_readDay 28 [some (mR 118), some (mI (1)), none] [mI (Ha 14), mI (409 + (30 * 1))] (mkh (m_upd (m_set μ 118 21 (1)) 118 Ha) c s) _
      refine rn_iadd (k' := 29) rfl rfl (by omega) ?_
      refine rn_istore_n (k' := 30) (L' := [some (mR 118), some (mI (1)), some (mI ((409 + (30 * 1)) + (Ha 14)))]) rfl rfl (Nat.le_of_ble_eq_true rfl) rfl ?_
      refine rn_aload_n (k' := 31) rfl rfl rfl ?_
      refine rn_getR (k' := 32) rfl rfl K0_118 (by decide) rfl R0_118_7 ?_
      refine rn_iload_n (k' := 33) rfl rfl rfl ?_
      refine rn_iaload (k' := 34) rfl rfl K0_121 (by omega) (by omega) ?_
      show Rn PT none kX12_readDay 34 [some (mR 118), some (mI (1)), some (mI ((409 + (30 * 1)) + (Ha 14)))] [mI (μ 121 (((409 + (30 * 1)) + (Ha 14)).toNat))] (mkh (m_upd (m_set μ 118 21 (1)) 118 Ha) c s) _
      rw [hr0]
      refine rn_if_le (k' := 35) rfl rfl (fun hc3 => ?_) (fun hc3 => ?_)
      · skip
        refine rn_aload_n (k' := 40) rfl rfl rfl ?_
        obtain ⟨Hb, ⟨hmb, hfb_⟩, hcb⟩ := g_next2 (μ := (m_upd (m_set μ 118 21 (1)) 118 Ha)) (c := c) (s := s) (b := b) (n := n) (m := m) (p := (tkN b n m p)) hMa (by omega)
        have hfb : FRt Hb _ := hfb_.t
        have hM1 : MSt (m_upd (m_upd (m_set μ 118 21 (1)) 118 Ha) 118 Hb) b n m (tkN b n m (tkN b n m p)) := ⟨hMa.1, hMa.2.1, hMa.2.2.1, (tkN_b hMa.2.2.2.1).2.1, hmb⟩
        refine rn_callP (k' := 41) (y := 175) (vs := [mR 118]) (S' := []) (v := none) (h' := mkh (m_upd (m_upd (m_set μ 118 21 (1)) 118 Ha) 118 Hb) c s) rfl rfl rfl (hcb) ?_
        show Rn PT none kX12_readDay 41 [some (mR 118), some (mI (1)), some (mI ((409 + (30 * 1)) + (Ha 14)))] [] (mkh (m_upd (m_upd (m_set μ 118 21 (1)) 118 Ha) 118 Hb) c s) _
        refine rn_aload_n (k' := 42) rfl rfl rfl ?_
        refine rn_iconst (k' := 43) rfl rfl ?_
        refine rn_bipush (k' := 44) rfl rfl ?_
        obtain ⟨H1, ⟨hm1, hv1, hf1⟩, hc1⟩ := g_takes (μ := (m_upd (m_upd (m_set μ 118 21 (1)) 118 Ha) 118 Hb)) (c := c) (s := s) (b := b) (n := n) (m := m) (p := (tkN b n m (tkN b n m p))) (lo := 0) (hi := 99) hM1 e1
        have hM2 : MSt (m_upd (m_upd (m_upd (m_set μ 118 21 (1)) 118 Ha) 118 Hb) 118 H1) b n m (tkN b n m (tkN b n m (tkN b n m p))) := ⟨hM1.1, hM1.2.1, hM1.2.2.1, (tkN_b hM1.2.2.2.1).2.1, hm1⟩
        have kk1 := eN_ok e1
        refine rn_callP (k' := 45) (y := 181) (vs := [mR 118, mI (0), mI (99)]) (S' := []) (v := some (mI (1))) (h' := mkh (m_upd (m_upd (m_upd (m_set μ 118 21 (1)) 118 Ha) 118 Hb) 118 H1) c s) rfl rfl rfl (hc1) ?_
        show Rn PT none kX12_readDay 45 [some (mR 118), some (mI (1)), some (mI ((409 + (30 * 1)) + (Ha 14)))] [mI (1)] (mkh (m_upd (m_upd (m_upd (m_set μ 118 21 (1)) 118 Ha) 118 Hb) 118 H1) c s) _
        refine rn_if_ne (k' := 46) rfl rfl (fun hc4 => ?_) (fun hc4 => ?_)
        · skip
          refine rn_aload_n (k' := 49) rfl rfl rfl ?_
          refine rn_getR (k' := 50) rfl rfl K0_118 (by decide) rfl R0_118_7 ?_
          refine rn_iload_n (k' := 51) rfl rfl rfl ?_
          refine rn_aload_n (k' := 52) rfl rfl rfl ?_
          refine rn_getI (k' := 53) rfl rfl K0_118 (by decide) rfl ?_
          show Rn PT none kX12_readDay 53 [some (mR 118), some (mI (1)), some (mI ((409 + (30 * 1)) + (Ha 14)))] [mI (H1 18), mI ((409 + (30 * 1)) + (Ha 14)), mR 121] (mkh (m_upd (m_upd (m_upd (m_set μ 118 21 (1)) 118 Ha) 118 Hb) 118 H1) c s) _
          refine rn_iconst (k' := 54) rfl rfl ?_
          refine rn_iadd (k' := 55) rfl rfl (by omega) ?_
          refine rn_iastore (k' := 56) rfl rfl K0_121 (by omega) (by omega) ?_
          refine rn_iconst (k' := 57) rfl rfl ?_
          refine rn_iret rfl (Or.inr (by omega)) ?_
          have hv2 : H1 18 + 1 = tkV b n m (tkN b n m (tkN b n m p)) + 1 := by rw [hv1]
          exact ⟨_, rfl, hM2, ⟨(MFr.s2 (MFr.u (MFr.u (MFr.u (MFr.s MFr.r (by decide)) hfa) hfb) hf1) (.inl rfl)), ((hf1 15 (by decide) (by decide) (by decide) (by decide) (by decide) (by decide) (by decide)).trans ((hfb 15 (by decide) (by decide) (by decide) (by decide) (by decide) (by decide) (by decide)).trans ((hfa 15 (by decide) (by decide) (by decide) (by decide) (by decide) (by decide) (by decide)).trans rfl)))⟩, ((hf1 20 (by decide) (by decide) (by decide) (by decide) (by decide) (by decide) (by decide)).trans ((hfb 20 (by decide) (by decide) (by decide) (by decide) (by decide) (by decide) (by decide)).trans ((hfa 20 (by decide) (by decide) (by decide) (by decide) (by decide) (by decide) (by decide)).trans rfl))), ((hf1 21 (by decide) (by decide) (by decide) (by decide) (by decide) (by decide) (by decide)).trans ((hfb 21 (by decide) (by decide) (by decide) (by decide) (by decide) (by decide) (by decide)).trans ((hfa 21 (by decide) (by decide) (by decide) (by decide) (by decide) (by decide) (by decide)).trans rfl))), (set_hit hi0).trans hv2, (fun j hj2 => set_mis (by omega)), rfl⟩
        · exfalso; omega
      · exfalso; omega
    · exfalso; omega
  · exfalso; omega
set_option maxHeartbeats 1000000 in
theorem m_day2_x0 {μ : Nat → Nat → Int} {c s : Nat} {b : Nat → Int} {n m p : Nat} (hM : MSt μ b n m p) (hk : tkK b n m p = 1) (e0 : ¬ eN b n m (tkN b n m p) 0 29 = 0) : ∃ ν', (ν' 118 15 = eN b n m (tkN b n m p) 0 29 ∧ ν' 118 16 = ((tkP b n m (tkN b n m p) : Nat) : Int) ∧ MFr μ ν') ∧ Cl PT 186 [mR 118, mI 2] (mkh μ c s) (fun r => r = (some (some (mI 0)), mkh ν' c s)) := by
  refine Cl.ex (g := fun ν' => (some (some (mI 0)), mkh ν' c s)) ?_
  refine ⟨_, PT_186, Nat.le_of_ble_eq_true rfl, ?_⟩
  show Rn PT none kX12_readDay 0 [some (mR 118), some (mI (2)), none] [] (mkh μ c s) _
  refine rn_aload_n (k' := 1) rfl rfl rfl ?_
  refine rn_iconst (k' := 2) rfl rfl ?_
  refine rn_putZ (k' := 3) rfl rfl K0_118 (by decide) rfl (by omega) ?_
  refine rn_aload_n (k' := 4) rfl rfl rfl ?_
  obtain ⟨Ha, ⟨hma, hfa_⟩, hca⟩ := g_next2 (μ := (m_set μ 118 21 (1))) (c := c) (s := s) (b := b) (n := n) (m := m) (p := p) hM (by omega)
  have hfa : FRt Ha _ := hfa_.t
  have hMa : MSt (m_upd (m_set μ 118 21 (1)) 118 Ha) b n m (tkN b n m p) := ⟨hM.1, hM.2.1, hM.2.2.1, (tkN_b hM.2.2.2.1).2.1, hma⟩
  obtain ⟨_, _, u12, u11, _, _, u14, _⟩ := hma
  refine rn_callP (k' := 5) (y := 175) (vs := [mR 118]) (S' := []) (v := none) (h' := mkh (m_upd (m_set μ 118 21 (1)) 118 Ha) c s) rfl rfl rfl (hca) ?_
  show Rn PT none kX12_readDay 5 [some (mR 118), some (mI (2)), none] [] (mkh (m_upd (m_set μ 118 21 (1)) 118 Ha) c s) _
  by_cases k2 : tkK b n m (tkN b n m p) = 2
  · have hu : Ha 11 = 2 := by rw [u11]; exact mkk_2.mpr k2
    have hu14 := u14 k2
    have tn := (tk_num k2).2.1
    have hgt : 29 < tkV b n m (tkN b n m p) := Classical.byContradiction (fun z => e0 (eN_0 k2 (by omega)))
    refine rn_aload_n (k' := 6) rfl rfl rfl ?_
    refine rn_getI (k' := 7) rfl rfl K0_118 (by decide) rfl ?_
    show Rn PT none kX12_readDay 7 [some (mR 118), some (mI (2)), none] [mI (Ha 11)] (mkh (m_upd (m_set μ 118 21 (1)) 118 Ha) c s) _
    refine rn_iconst (k' := 8) rfl rfl ?_
    refine rn_icmp_eq (k' := 9) rfl rfl (fun hc1 => ?_) (fun hc1 => ?_)
    · skip
      refine rn_aload_n (k' := 14) rfl rfl rfl ?_
      refine rn_getI (k' := 15) rfl rfl K0_118 (by decide) rfl ?_
      show Rn PT none kX12_readDay 15 [some (mR 118), some (mI (2)), none] [mI (Ha 14)] (mkh (m_upd (m_set μ 118 21 (1)) 118 Ha) c s) _
      refine rn_bipush (k' := 16) rfl rfl ?_
      refine rn_icmp_le (k' := 17) rfl rfl (fun hc2 => ?_) (fun hc2 => ?_)
      · exfalso; omega
      · skip
        refine rn_aload_n (k' := 18) rfl rfl rfl ?_
        refine rn_iconst (k' := 19) rfl rfl ?_
        refine rn_callP (k' := 20) (y := 176) (vs := [mR 118, mI (2)]) (S' := []) (v := some (mI (0))) (h' := mkh (m_set (m_set (m_upd (m_set μ 118 21 (1)) 118 Ha) 118 15 (2)) 118 16 (Ha 12)) c s) rfl rfl rfl (g_bad (μ := (m_upd (m_set μ 118 21 (1)) 118 Ha)) (e := 2)) ?_
        show Rn PT none kX12_readDay 20 [some (mR 118), some (mI (2)), none] [mI (0)] (mkh (m_set (m_set (m_upd (m_set μ 118 21 (1)) 118 Ha) 118 15 (2)) 118 16 (Ha 12)) c s) _
        refine rn_iret rfl (Or.inr (by omega)) ?_
        refine ⟨_, rfl, ?_, u12, (MFr.s (MFr.s (MFr.u (MFr.s MFr.r (by decide)) hfa) (by decide)) (by decide))⟩
        rw [eN_2 k2 (by omega)]; rfl
    · exfalso; omega
  · have hu : ¬ Ha 11 = 2 := by rw [u11]; exact fun z => k2 (mkk_2.mp z)
    refine rn_aload_n (k' := 6) rfl rfl rfl ?_
    refine rn_getI (k' := 7) rfl rfl K0_118 (by decide) rfl ?_
    show Rn PT none kX12_readDay 7 [some (mR 118), some (mI (2)), none] [mI (Ha 11)] (mkh (m_upd (m_set μ 118 21 (1)) 118 Ha) c s) _
    refine rn_iconst (k' := 8) rfl rfl ?_
    refine rn_icmp_eq (k' := 9) rfl rfl (fun hc1 => ?_) (fun hc1 => ?_)
    · exfalso; omega
    · skip
      refine rn_aload_n (k' := 10) rfl rfl rfl ?_
      refine rn_iconst (k' := 11) rfl rfl ?_
      refine rn_callP (k' := 12) (y := 176) (vs := [mR 118, mI (1)]) (S' := []) (v := some (mI (0))) (h' := mkh (m_set (m_set (m_upd (m_set μ 118 21 (1)) 118 Ha) 118 15 (1)) 118 16 (Ha 12)) c s) rfl rfl rfl (g_bad (μ := (m_upd (m_set μ 118 21 (1)) 118 Ha)) (e := 1)) ?_
      show Rn PT none kX12_readDay 12 [some (mR 118), some (mI (2)), none] [mI (0)] (mkh (m_set (m_set (m_upd (m_set μ 118 21 (1)) 118 Ha) 118 15 (1)) 118 16 (Ha 12)) c s) _
      refine rn_iret rfl (Or.inr (by omega)) ?_
      refine ⟨_, rfl, ?_, u12, (MFr.s (MFr.s (MFr.u (MFr.s MFr.r (by decide)) hfa) (by decide)) (by decide))⟩
      rw [eN_1 k2]; rfl
set_option maxHeartbeats 1000000 in
theorem m_day2_had {μ : Nat → Nat → Int} {c s : Nat} {b : Nat → Int} {n m p : Nat} (hM : MSt μ b n m p) (hk : tkK b n m p = 1) (e0 : eN b n m (tkN b n m p) 0 29 = 0) {j0 : Nat} (hj : tkV b n m (tkN b n m p) = (j0 : Int)) (hd : 0 < μ 121 (469 + j0)) : ∃ ν', (ν' 118 15 = 3 ∧ ν' 118 16 = ((tkP b n m (tkN b n m p) : Nat) : Int) ∧ MFr μ ν') ∧ Cl PT 186 [mR 118, mI 2] (mkh μ c s) (fun r => r = (some (some (mI 0)), mkh ν' c s)) := by
  refine Cl.ex (g := fun ν' => (some (some (mI 0)), mkh ν' c s)) ?_
  refine ⟨_, PT_186, Nat.le_of_ble_eq_true rfl, ?_⟩
  show Rn PT none kX12_readDay 0 [some (mR 118), some (mI (2)), none] [] (mkh μ c s) _
  refine rn_aload_n (k' := 1) rfl rfl rfl ?_
  refine rn_iconst (k' := 2) rfl rfl ?_
  refine rn_putZ (k' := 3) rfl rfl K0_118 (by decide) rfl (by omega) ?_
  refine rn_aload_n (k' := 4) rfl rfl rfl ?_
  obtain ⟨Ha, ⟨hma, hfa_⟩, hca⟩ := g_next2 (μ := (m_set μ 118 21 (1))) (c := c) (s := s) (b := b) (n := n) (m := m) (p := p) hM (by omega)
  have hfa : FRt Ha _ := hfa_.t
  have hMa : MSt (m_upd (m_set μ 118 21 (1)) 118 Ha) b n m (tkN b n m p) := ⟨hM.1, hM.2.1, hM.2.2.1, (tkN_b hM.2.2.2.1).2.1, hma⟩
  obtain ⟨_, _, u12, u11, _, _, u14, _⟩ := hma
  refine rn_callP (k' := 5) (y := 175) (vs := [mR 118]) (S' := []) (v := none) (h' := mkh (m_upd (m_set μ 118 21 (1)) 118 Ha) c s) rfl rfl rfl (hca) ?_
  show Rn PT none kX12_readDay 5 [some (mR 118), some (mI (2)), none] [] (mkh (m_upd (m_set μ 118 21 (1)) 118 Ha) c s) _
  obtain ⟨k2, k3, k4⟩ := eN_ok e0
  have hu : Ha 11 = 2 := by rw [u11]; exact mkk_2.mpr k2
  have hu14 := u14 k2
  have hi0 : (409 + 30 * 2 + Ha 14).toNat = 469 + j0 := by omega
  have hr0 : μ 121 (409 + 30 * 2 + Ha 14).toNat = μ 121 (469 + j0) := by rw [hi0]
  refine rn_aload_n (k' := 6) rfl rfl rfl ?_
  refine rn_getI (k' := 7) rfl rfl K0_118 (by decide) rfl ?_
  show Rn PT none kX12_readDay 7 [some (mR 118), some (mI (2)), none] [mI (Ha 11)] (mkh (m_upd (m_set μ 118 21 (1)) 118 Ha) c s) _
  refine rn_iconst (k' := 8) rfl rfl ?_
  refine rn_icmp_eq (k' := 9) rfl rfl (fun hc1 => ?_) (fun hc1 => ?_)
  · skip
    refine rn_aload_n (k' := 14) rfl rfl rfl ?_
    refine rn_getI (k' := 15) rfl rfl K0_118 (by decide) rfl ?_
    show Rn PT none kX12_readDay 15 [some (mR 118), some (mI (2)), none] [mI (Ha 14)] (mkh (m_upd (m_set μ 118 21 (1)) 118 Ha) c s) _
    refine rn_bipush (k' := 16) rfl rfl ?_
    refine rn_icmp_le (k' := 17) rfl rfl (fun hc2 => ?_) (fun hc2 => ?_)
    · skip
      refine rn_sipush (k' := 22) rfl rfl ?_
      refine rn_bipush (k' := 23) rfl rfl ?_
      refine rn_iload_n (k' := 24) rfl rfl rfl ?_
      refine rn_imul (k' := 25) rfl rfl (by omega) ?_
      refine rn_iadd (k' := 26) rfl rfl (by omega) ?_
      refine rn_aload_n (k' := 27) rfl rfl rfl ?_
      refine rn_getI (k' := 28) rfl rfl K0_118 (by decide) rfl ?_
      show Rn PT none kX12_readDay 28 [some (mR 118), some (mI (2)), none] [mI (Ha 14), mI (409 + (30 * 2))] (mkh (m_upd (m_set μ 118 21 (1)) 118 Ha) c s) _
      refine rn_iadd (k' := 29) rfl rfl (by omega) ?_
      refine rn_istore_n (k' := 30) (L' := [some (mR 118), some (mI (2)), some (mI ((409 + (30 * 2)) + (Ha 14)))]) rfl rfl (Nat.le_of_ble_eq_true rfl) rfl ?_
      refine rn_aload_n (k' := 31) rfl rfl rfl ?_
      refine rn_getR (k' := 32) rfl rfl K0_118 (by decide) rfl R0_118_7 ?_
      refine rn_iload_n (k' := 33) rfl rfl rfl ?_
      refine rn_iaload (k' := 34) rfl rfl K0_121 (by omega) (by omega) ?_
      show Rn PT none kX12_readDay 34 [some (mR 118), some (mI (2)), some (mI ((409 + (30 * 2)) + (Ha 14)))] [mI (μ 121 (((409 + (30 * 2)) + (Ha 14)).toNat))] (mkh (m_upd (m_set μ 118 21 (1)) 118 Ha) c s) _
      rw [hr0]
      refine rn_if_le (k' := 35) rfl rfl (fun hc3 => ?_) (fun hc3 => ?_)
      · exfalso; omega
      · skip
        refine rn_aload_n (k' := 36) rfl rfl rfl ?_
        refine rn_iconst (k' := 37) rfl rfl ?_
        refine rn_callP (k' := 38) (y := 176) (vs := [mR 118, mI (3)]) (S' := []) (v := some (mI (0))) (h' := mkh (m_set (m_set (m_upd (m_set μ 118 21 (1)) 118 Ha) 118 15 (3)) 118 16 (Ha 12)) c s) rfl rfl rfl (g_bad (μ := (m_upd (m_set μ 118 21 (1)) 118 Ha)) (e := 3)) ?_
        show Rn PT none kX12_readDay 38 [some (mR 118), some (mI (2)), some (mI ((409 + (30 * 2)) + (Ha 14)))] [mI (0)] (mkh (m_set (m_set (m_upd (m_set μ 118 21 (1)) 118 Ha) 118 15 (3)) 118 16 (Ha 12)) c s) _
        refine rn_iret rfl (Or.inr (by omega)) ?_
        exact ⟨_, rfl, rfl, u12, (MFr.s (MFr.s (MFr.u (MFr.s MFr.r (by decide)) hfa) (by decide)) (by decide))⟩
    · exfalso; omega
  · exfalso; omega
set_option maxHeartbeats 1000000 in
theorem m_day2_x1 {μ : Nat → Nat → Int} {c s : Nat} {b : Nat → Int} {n m p : Nat} (hM : MSt μ b n m p) (hk : tkK b n m p = 1) (e0 : eN b n m (tkN b n m p) 0 29 = 0) {j0 : Nat} (hj : tkV b n m (tkN b n m p) = (j0 : Int)) (hd : ¬ 0 < μ 121 (469 + j0)) (e1 : ¬ eN b n m (tkN b n m (tkN b n m p)) 0 99 = 0) : ∃ ν', (ν' 118 15 = eN b n m (tkN b n m (tkN b n m p)) 0 99 ∧ ν' 118 16 = ((tkP b n m (tkN b n m (tkN b n m p)) : Nat) : Int) ∧ MFr μ ν') ∧ Cl PT 186 [mR 118, mI 2] (mkh μ c s) (fun r => r = (some (some (mI 0)), mkh ν' c s)) := by
  refine Cl.ex (g := fun ν' => (some (some (mI 0)), mkh ν' c s)) ?_
  refine ⟨_, PT_186, Nat.le_of_ble_eq_true rfl, ?_⟩
  show Rn PT none kX12_readDay 0 [some (mR 118), some (mI (2)), none] [] (mkh μ c s) _
  refine rn_aload_n (k' := 1) rfl rfl rfl ?_
  refine rn_iconst (k' := 2) rfl rfl ?_
  refine rn_putZ (k' := 3) rfl rfl K0_118 (by decide) rfl (by omega) ?_
  refine rn_aload_n (k' := 4) rfl rfl rfl ?_
  obtain ⟨Ha, ⟨hma, hfa_⟩, hca⟩ := g_next2 (μ := (m_set μ 118 21 (1))) (c := c) (s := s) (b := b) (n := n) (m := m) (p := p) hM (by omega)
  have hfa : FRt Ha _ := hfa_.t
  have hMa : MSt (m_upd (m_set μ 118 21 (1)) 118 Ha) b n m (tkN b n m p) := ⟨hM.1, hM.2.1, hM.2.2.1, (tkN_b hM.2.2.2.1).2.1, hma⟩
  obtain ⟨_, _, u12, u11, _, _, u14, _⟩ := hma
  refine rn_callP (k' := 5) (y := 175) (vs := [mR 118]) (S' := []) (v := none) (h' := mkh (m_upd (m_set μ 118 21 (1)) 118 Ha) c s) rfl rfl rfl (hca) ?_
  show Rn PT none kX12_readDay 5 [some (mR 118), some (mI (2)), none] [] (mkh (m_upd (m_set μ 118 21 (1)) 118 Ha) c s) _
  obtain ⟨k2, k3, k4⟩ := eN_ok e0
  have hu : Ha 11 = 2 := by rw [u11]; exact mkk_2.mpr k2
  have hu14 := u14 k2
  have hi0 : (409 + 30 * 2 + Ha 14).toNat = 469 + j0 := by omega
  have hr0 : μ 121 (409 + 30 * 2 + Ha 14).toNat = μ 121 (469 + j0) := by rw [hi0]
  refine rn_aload_n (k' := 6) rfl rfl rfl ?_
  refine rn_getI (k' := 7) rfl rfl K0_118 (by decide) rfl ?_
  show Rn PT none kX12_readDay 7 [some (mR 118), some (mI (2)), none] [mI (Ha 11)] (mkh (m_upd (m_set μ 118 21 (1)) 118 Ha) c s) _
  refine rn_iconst (k' := 8) rfl rfl ?_
  refine rn_icmp_eq (k' := 9) rfl rfl (fun hc1 => ?_) (fun hc1 => ?_)
  · skip
    refine rn_aload_n (k' := 14) rfl rfl rfl ?_
    refine rn_getI (k' := 15) rfl rfl K0_118 (by decide) rfl ?_
    show Rn PT none kX12_readDay 15 [some (mR 118), some (mI (2)), none] [mI (Ha 14)] (mkh (m_upd (m_set μ 118 21 (1)) 118 Ha) c s) _
    refine rn_bipush (k' := 16) rfl rfl ?_
    refine rn_icmp_le (k' := 17) rfl rfl (fun hc2 => ?_) (fun hc2 => ?_)
    · skip
      refine rn_sipush (k' := 22) rfl rfl ?_
      refine rn_bipush (k' := 23) rfl rfl ?_
      refine rn_iload_n (k' := 24) rfl rfl rfl ?_
      refine rn_imul (k' := 25) rfl rfl (by omega) ?_
      refine rn_iadd (k' := 26) rfl rfl (by omega) ?_
      refine rn_aload_n (k' := 27) rfl rfl rfl ?_
      refine rn_getI (k' := 28) rfl rfl K0_118 (by decide) rfl ?_
      show Rn PT none kX12_readDay 28 [some (mR 118), some (mI (2)), none] [mI (Ha 14), mI (409 + (30 * 2))] (mkh (m_upd (m_set μ 118 21 (1)) 118 Ha) c s) _
      refine rn_iadd (k' := 29) rfl rfl (by omega) ?_
      refine rn_istore_n (k' := 30) (L' := [some (mR 118), some (mI (2)), some (mI ((409 + (30 * 2)) + (Ha 14)))]) rfl rfl (Nat.le_of_ble_eq_true rfl) rfl ?_
      refine rn_aload_n (k' := 31) rfl rfl rfl ?_
      refine rn_getR (k' := 32) rfl rfl K0_118 (by decide) rfl R0_118_7 ?_
      refine rn_iload_n (k' := 33) rfl rfl rfl ?_
      refine rn_iaload (k' := 34) rfl rfl K0_121 (by omega) (by omega) ?_
      show Rn PT none kX12_readDay 34 [some (mR 118), some (mI (2)), some (mI ((409 + (30 * 2)) + (Ha 14)))] [mI (μ 121 (((409 + (30 * 2)) + (Ha 14)).toNat))] (mkh (m_upd (m_set μ 118 21 (1)) 118 Ha) c s) _
      rw [hr0]
      refine rn_if_le (k' := 35) rfl rfl (fun hc3 => ?_) (fun hc3 => ?_)
      · skip
        refine rn_aload_n (k' := 40) rfl rfl rfl ?_
        obtain ⟨Hb, ⟨hmb, hfb_⟩, hcb⟩ := g_next2 (μ := (m_upd (m_set μ 118 21 (1)) 118 Ha)) (c := c) (s := s) (b := b) (n := n) (m := m) (p := (tkN b n m p)) hMa (by omega)
        have hfb : FRt Hb _ := hfb_.t
        have hM1 : MSt (m_upd (m_upd (m_set μ 118 21 (1)) 118 Ha) 118 Hb) b n m (tkN b n m (tkN b n m p)) := ⟨hMa.1, hMa.2.1, hMa.2.2.1, (tkN_b hMa.2.2.2.1).2.1, hmb⟩
        refine rn_callP (k' := 41) (y := 175) (vs := [mR 118]) (S' := []) (v := none) (h' := mkh (m_upd (m_upd (m_set μ 118 21 (1)) 118 Ha) 118 Hb) c s) rfl rfl rfl (hcb) ?_
        show Rn PT none kX12_readDay 41 [some (mR 118), some (mI (2)), some (mI ((409 + (30 * 2)) + (Ha 14)))] [] (mkh (m_upd (m_upd (m_set μ 118 21 (1)) 118 Ha) 118 Hb) c s) _
        refine rn_aload_n (k' := 42) rfl rfl rfl ?_
        refine rn_iconst (k' := 43) rfl rfl ?_
        refine rn_bipush (k' := 44) rfl rfl ?_
        have hc1 := g_takesX (μ := (m_upd (m_upd (m_set μ 118 21 (1)) 118 Ha) 118 Hb)) (c := c) (s := s) (b := b) (n := n) (m := m) (p := (tkN b n m (tkN b n m p))) (lo := 0) (hi := 99) hM1 e1
        refine rn_callP (k' := 45) (y := 181) (vs := [mR 118, mI (0), mI (99)]) (S' := []) (v := some (mI (0))) (h' := mkh (m_set (m_set (m_upd (m_upd (m_set μ 118 21 (1)) 118 Ha) 118 Hb) 118 15 (eN b n m (tkN b n m (tkN b n m p)) (0) (99))) 118 16 (((tkP b n m (tkN b n m (tkN b n m p)) : Nat) : Int))) c s) rfl rfl rfl (hc1) ?_
        show Rn PT none kX12_readDay 45 [some (mR 118), some (mI (2)), some (mI ((409 + (30 * 2)) + (Ha 14)))] [mI (0)] (mkh (m_set (m_set (m_upd (m_upd (m_set μ 118 21 (1)) 118 Ha) 118 Hb) 118 15 (eN b n m (tkN b n m (tkN b n m p)) (0) (99))) 118 16 (((tkP b n m (tkN b n m (tkN b n m p)) : Nat) : Int))) c s) _
        refine rn_if_ne (k' := 46) rfl rfl (fun hc4 => ?_) (fun hc4 => ?_)
        · exfalso; omega
        · skip
          refine rn_iconst (k' := 47) rfl rfl ?_
          refine rn_iret rfl (Or.inr (by omega)) ?_
          exact ⟨_, rfl, rfl, rfl, (MFr.s (MFr.s (MFr.u (MFr.u (MFr.s MFr.r (by decide)) hfa) hfb) (by decide)) (by decide))⟩
      · exfalso; omega
    · exfalso; omega
  · exfalso; omega
set_option maxHeartbeats 1000000 in
theorem m_day2_ok {μ : Nat → Nat → Int} {c s : Nat} {b : Nat → Int} {n m p : Nat} (hM : MSt μ b n m p) (hk : tkK b n m p = 1) (e0 : eN b n m (tkN b n m p) 0 29 = 0) {j0 : Nat} (hj : tkV b n m (tkN b n m p) = (j0 : Int)) (hd : ¬ 0 < μ 121 (469 + j0)) (e1 : eN b n m (tkN b n m (tkN b n m p)) 0 99 = 0) : ∃ ν', (MSt ν' b n m (tkN b n m (tkN b n m (tkN b n m p))) ∧ MFo μ ν' ∧ ν' 118 20 = μ 118 20 ∧ ν' 118 21 = 1 ∧ ν' 121 (469 + j0) = tkV b n m (tkN b n m (tkN b n m p)) + 1 ∧ (∀ j, ¬ j = (469 + j0) → ν' 121 j = μ 121 j) ∧ ν' 123 = μ 123) ∧ Cl PT 186 [mR 118, mI 2] (mkh μ c s) (fun r => r = (some (some (mI 1)), mkh ν' c s)) := by
  refine Cl.ex (g := fun ν' => (some (some (mI 1)), mkh ν' c s)) ?_
  refine ⟨_, PT_186, Nat.le_of_ble_eq_true rfl, ?_⟩
  show Rn PT none kX12_readDay 0 [some (mR 118), some (mI (2)), none] [] (mkh μ c s) _
  refine rn_aload_n (k' := 1) rfl rfl rfl ?_
  refine rn_iconst (k' := 2) rfl rfl ?_
  refine rn_putZ (k' := 3) rfl rfl K0_118 (by decide) rfl (by omega) ?_
  refine rn_aload_n (k' := 4) rfl rfl rfl ?_
  obtain ⟨Ha, ⟨hma, hfa_⟩, hca⟩ := g_next2 (μ := (m_set μ 118 21 (1))) (c := c) (s := s) (b := b) (n := n) (m := m) (p := p) hM (by omega)
  have hfa : FRt Ha _ := hfa_.t
  have hMa : MSt (m_upd (m_set μ 118 21 (1)) 118 Ha) b n m (tkN b n m p) := ⟨hM.1, hM.2.1, hM.2.2.1, (tkN_b hM.2.2.2.1).2.1, hma⟩
  obtain ⟨_, _, u12, u11, _, _, u14, _⟩ := hma
  refine rn_callP (k' := 5) (y := 175) (vs := [mR 118]) (S' := []) (v := none) (h' := mkh (m_upd (m_set μ 118 21 (1)) 118 Ha) c s) rfl rfl rfl (hca) ?_
  show Rn PT none kX12_readDay 5 [some (mR 118), some (mI (2)), none] [] (mkh (m_upd (m_set μ 118 21 (1)) 118 Ha) c s) _
  obtain ⟨k2, k3, k4⟩ := eN_ok e0
  have hu : Ha 11 = 2 := by rw [u11]; exact mkk_2.mpr k2
  have hu14 := u14 k2
  have hi0 : (409 + 30 * 2 + Ha 14).toNat = 469 + j0 := by omega
  have hr0 : μ 121 (409 + 30 * 2 + Ha 14).toNat = μ 121 (469 + j0) := by rw [hi0]
  refine rn_aload_n (k' := 6) rfl rfl rfl ?_
  refine rn_getI (k' := 7) rfl rfl K0_118 (by decide) rfl ?_
  show Rn PT none kX12_readDay 7 [some (mR 118), some (mI (2)), none] [mI (Ha 11)] (mkh (m_upd (m_set μ 118 21 (1)) 118 Ha) c s) _
  refine rn_iconst (k' := 8) rfl rfl ?_
  refine rn_icmp_eq (k' := 9) rfl rfl (fun hc1 => ?_) (fun hc1 => ?_)
  · skip
    refine rn_aload_n (k' := 14) rfl rfl rfl ?_
    refine rn_getI (k' := 15) rfl rfl K0_118 (by decide) rfl ?_
    show Rn PT none kX12_readDay 15 [some (mR 118), some (mI (2)), none] [mI (Ha 14)] (mkh (m_upd (m_set μ 118 21 (1)) 118 Ha) c s) _
    refine rn_bipush (k' := 16) rfl rfl ?_
    refine rn_icmp_le (k' := 17) rfl rfl (fun hc2 => ?_) (fun hc2 => ?_)
    · skip
      refine rn_sipush (k' := 22) rfl rfl ?_
      refine rn_bipush (k' := 23) rfl rfl ?_
      refine rn_iload_n (k' := 24) rfl rfl rfl ?_
      refine rn_imul (k' := 25) rfl rfl (by omega) ?_
      refine rn_iadd (k' := 26) rfl rfl (by omega) ?_
      refine rn_aload_n (k' := 27) rfl rfl rfl ?_
      refine rn_getI (k' := 28) rfl rfl K0_118 (by decide) rfl ?_
      show Rn PT none kX12_readDay 28 [some (mR 118), some (mI (2)), none] [mI (Ha 14), mI (409 + (30 * 2))] (mkh (m_upd (m_set μ 118 21 (1)) 118 Ha) c s) _
      refine rn_iadd (k' := 29) rfl rfl (by omega) ?_
      refine rn_istore_n (k' := 30) (L' := [some (mR 118), some (mI (2)), some (mI ((409 + (30 * 2)) + (Ha 14)))]) rfl rfl (Nat.le_of_ble_eq_true rfl) rfl ?_
      refine rn_aload_n (k' := 31) rfl rfl rfl ?_
      refine rn_getR (k' := 32) rfl rfl K0_118 (by decide) rfl R0_118_7 ?_
      refine rn_iload_n (k' := 33) rfl rfl rfl ?_
      refine rn_iaload (k' := 34) rfl rfl K0_121 (by omega) (by omega) ?_
      show Rn PT none kX12_readDay 34 [some (mR 118), some (mI (2)), some (mI ((409 + (30 * 2)) + (Ha 14)))] [mI (μ 121 (((409 + (30 * 2)) + (Ha 14)).toNat))] (mkh (m_upd (m_set μ 118 21 (1)) 118 Ha) c s) _
      rw [hr0]
      refine rn_if_le (k' := 35) rfl rfl (fun hc3 => ?_) (fun hc3 => ?_)
      · skip
        refine rn_aload_n (k' := 40) rfl rfl rfl ?_
        obtain ⟨Hb, ⟨hmb, hfb_⟩, hcb⟩ := g_next2 (μ := (m_upd (m_set μ 118 21 (1)) 118 Ha)) (c := c) (s := s) (b := b) (n := n) (m := m) (p := (tkN b n m p)) hMa (by omega)
        have hfb : FRt Hb _ := hfb_.t
        have hM1 : MSt (m_upd (m_upd (m_set μ 118 21 (1)) 118 Ha) 118 Hb) b n m (tkN b n m (tkN b n m p)) := ⟨hMa.1, hMa.2.1, hMa.2.2.1, (tkN_b hMa.2.2.2.1).2.1, hmb⟩
        refine rn_callP (k' := 41) (y := 175) (vs := [mR 118]) (S' := []) (v := none) (h' := mkh (m_upd (m_upd (m_set μ 118 21 (1)) 118 Ha) 118 Hb) c s) rfl rfl rfl (hcb) ?_
        show Rn PT none kX12_readDay 41 [some (mR 118), some (mI (2)), some (mI ((409 + (30 * 2)) + (Ha 14)))] [] (mkh (m_upd (m_upd (m_set μ 118 21 (1)) 118 Ha) 118 Hb) c s) _
        refine rn_aload_n (k' := 42) rfl rfl rfl ?_
        refine rn_iconst (k' := 43) rfl rfl ?_
        refine rn_bipush (k' := 44) rfl rfl ?_
        obtain ⟨H1, ⟨hm1, hv1, hf1⟩, hc1⟩ := g_takes (μ := (m_upd (m_upd (m_set μ 118 21 (1)) 118 Ha) 118 Hb)) (c := c) (s := s) (b := b) (n := n) (m := m) (p := (tkN b n m (tkN b n m p))) (lo := 0) (hi := 99) hM1 e1
        have hM2 : MSt (m_upd (m_upd (m_upd (m_set μ 118 21 (1)) 118 Ha) 118 Hb) 118 H1) b n m (tkN b n m (tkN b n m (tkN b n m p))) := ⟨hM1.1, hM1.2.1, hM1.2.2.1, (tkN_b hM1.2.2.2.1).2.1, hm1⟩
        have kk1 := eN_ok e1
        refine rn_callP (k' := 45) (y := 181) (vs := [mR 118, mI (0), mI (99)]) (S' := []) (v := some (mI (1))) (h' := mkh (m_upd (m_upd (m_upd (m_set μ 118 21 (1)) 118 Ha) 118 Hb) 118 H1) c s) rfl rfl rfl (hc1) ?_
        show Rn PT none kX12_readDay 45 [some (mR 118), some (mI (2)), some (mI ((409 + (30 * 2)) + (Ha 14)))] [mI (1)] (mkh (m_upd (m_upd (m_upd (m_set μ 118 21 (1)) 118 Ha) 118 Hb) 118 H1) c s) _
        refine rn_if_ne (k' := 46) rfl rfl (fun hc4 => ?_) (fun hc4 => ?_)
        · skip
          refine rn_aload_n (k' := 49) rfl rfl rfl ?_
          refine rn_getR (k' := 50) rfl rfl K0_118 (by decide) rfl R0_118_7 ?_
          refine rn_iload_n (k' := 51) rfl rfl rfl ?_
          refine rn_aload_n (k' := 52) rfl rfl rfl ?_
          refine rn_getI (k' := 53) rfl rfl K0_118 (by decide) rfl ?_
          show Rn PT none kX12_readDay 53 [some (mR 118), some (mI (2)), some (mI ((409 + (30 * 2)) + (Ha 14)))] [mI (H1 18), mI ((409 + (30 * 2)) + (Ha 14)), mR 121] (mkh (m_upd (m_upd (m_upd (m_set μ 118 21 (1)) 118 Ha) 118 Hb) 118 H1) c s) _
          refine rn_iconst (k' := 54) rfl rfl ?_
          refine rn_iadd (k' := 55) rfl rfl (by omega) ?_
          refine rn_iastore (k' := 56) rfl rfl K0_121 (by omega) (by omega) ?_
          refine rn_iconst (k' := 57) rfl rfl ?_
          refine rn_iret rfl (Or.inr (by omega)) ?_
          have hv2 : H1 18 + 1 = tkV b n m (tkN b n m (tkN b n m p)) + 1 := by rw [hv1]
          exact ⟨_, rfl, hM2, ⟨(MFr.s2 (MFr.u (MFr.u (MFr.u (MFr.s MFr.r (by decide)) hfa) hfb) hf1) (.inl rfl)), ((hf1 15 (by decide) (by decide) (by decide) (by decide) (by decide) (by decide) (by decide)).trans ((hfb 15 (by decide) (by decide) (by decide) (by decide) (by decide) (by decide) (by decide)).trans ((hfa 15 (by decide) (by decide) (by decide) (by decide) (by decide) (by decide) (by decide)).trans rfl)))⟩, ((hf1 20 (by decide) (by decide) (by decide) (by decide) (by decide) (by decide) (by decide)).trans ((hfb 20 (by decide) (by decide) (by decide) (by decide) (by decide) (by decide) (by decide)).trans ((hfa 20 (by decide) (by decide) (by decide) (by decide) (by decide) (by decide) (by decide)).trans rfl))), ((hf1 21 (by decide) (by decide) (by decide) (by decide) (by decide) (by decide) (by decide)).trans ((hfb 21 (by decide) (by decide) (by decide) (by decide) (by decide) (by decide) (by decide)).trans ((hfa 21 (by decide) (by decide) (by decide) (by decide) (by decide) (by decide) (by decide)).trans rfl))), (set_hit hi0).trans hv2, (fun j hj2 => set_mis (by omega)), rfl⟩
        · exfalso; omega
      · exfalso; omega
    · exfalso; omega
  · exfalso; omega
