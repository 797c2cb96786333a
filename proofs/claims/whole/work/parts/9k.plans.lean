variable {N : Int}
/-! ===== printed by wip/whole/gen9k.py: lines of a plan by the class ===== -/
def FrmP (μ μ' : Nat → Nat → Int) : Prop := ∀ r, ¬ r = 1 → ¬ r = 3 → (r < 62 ∨ 65 < r) → μ' r = μ r
theorem FrmP.r {μ : Nat → Nat → Int} : FrmP μ μ := fun _ _ _ _ => rfl
theorem FrmP.s {μ ν : Nat → Nat → Int} {a i : Nat} {v : Int} (h : FrmP μ ν) (ha : a = 1 ∨ a = 3 ∨ (62 ≤ a ∧ a ≤ 65)) : FrmP μ (m_set ν a i v) := fun r h1 h2 h3 => (row_set (by omega)).trans (h r h1 h2 h3)
theorem FrmP.u {μ ν : Nat → Nat → Int} {a : Nat} {f : Nat → Int} (h : FrmP μ ν) (ha : a = 1 ∨ a = 3 ∨ (62 ≤ a ∧ a ≤ 65)) : FrmP μ (m_upd ν a f) := fun r h1 h2 h3 => (row_upd (by omega)).trans (h r h1 h2 h3)
theorem FrmP.trans {a b d : Nat → Nat → Int} (h : FrmP a b) (h2 : FrmP b d) : FrmP a d := fun r z1 z2 z3 => (h2 r z1 z2 z3).trans (h r z1 z2 z3)
theorem h_ccellX0 {μ : Nat → Nat → Int} {c s : Nat} {b : Nat → Int} {n m p : Nat} (hC0 : CSt μ b n m p) (c8 : 0 ≤ μ 6 8 ∧ μ 6 8 ≤ 10) (c9 : 0 ≤ μ 6 9 ∧ μ 6 9 ≤ 10) (e0 : ¬ eN b n m p 0 (μ 6 8 - 1) = 0) : ∃ A, (CTk b n m p A) ∧ Cl PT 48 [mR 3, mR 6] (mkh μ c s) (fun r => r = (some (some (mI (-1))), mkh (m_set (m_upd μ 1 A) 3 2 (eN b n m p 0 (μ 6 8 - 1))) c s)) := by
  refine Cl.ex (g := fun A => (some (some (mI (-1))), mkh (m_set (m_upd μ 1 A) 3 2 (eN b n m p 0 (μ 6 8 - 1))) c s)) ?_
  refine ⟨_, PT_48, Nat.le_of_ble_eq_true rfl, ?_⟩
  show Rn PT none kX5_readCell 0 [some (mR 3), some (mR 6), none] [] (mkh μ c s) _
  refine rn_aload_n (k' := 1) rfl rfl rfl ?_
  refine rn_iconst (k' := 2) rfl rfl ?_
  refine rn_aload_n (k' := 3) rfl rfl rfl ?_
  refine rn_getI (k' := 4) rfl rfl K0_6 (by decide) rfl ?_
  refine rn_iconst (k' := 5) rfl rfl ?_
  refine rn_isub (k' := 6) rfl rfl (by omega) ?_
  obtain ⟨A0, hA0, hc0⟩ := g_numX (μ := μ) (c := c) (s := s) (b := b) (n := n) (m := m) (p := p) (lo := 0) (hi := (μ 6 8) - 1) hC0 e0
  refine rn_callP (k' := 7) (y := 47) (vs := [mR 3, mI (0), mI ((μ 6 8) - 1)]) (S' := []) (v := some (mI (0))) (h' := mkh (m_set (m_upd μ 1 A0) 3 2 (eN b n m p (0) ((μ 6 8) - 1))) c s) rfl rfl rfl (hc0) ?_
  show Rn PT none kX5_readCell 7 [some (mR 3), some (mR 6), none] [mI (0)] (mkh (m_set (m_upd μ 1 A0) 3 2 (eN b n m p (0) ((μ 6 8) - 1))) c s) _
  refine rn_if_ne (k' := 8) rfl rfl (fun hc1 => ?_) (fun hc1 => ?_)
  · exfalso; omega
  · skip
    refine rn_iconst (k' := 9) rfl rfl ?_
    refine rn_iret rfl (Or.inl rfl) ?_
    refine ⟨A0, ?_, hA0⟩
    rfl
theorem h_ccellX1 {μ : Nat → Nat → Int} {c s : Nat} {b : Nat → Int} {n m p : Nat} (hC0 : CSt μ b n m p) (c8 : 0 ≤ μ 6 8 ∧ μ 6 8 ≤ 10) (c9 : 0 ≤ μ 6 9 ∧ μ 6 9 ≤ 10) (e0 : eN b n m p 0 (μ 6 8 - 1) = 0) (e1 : ¬ eN b n m (tkN b n m p) 0 (μ 6 9 - 1) = 0) : ∃ A, (CTk b n m (tkN b n m p) A) ∧ Cl PT 48 [mR 3, mR 6] (mkh μ c s) (fun r => r = (some (some (mI (-1))), mkh (m_set (m_upd μ 1 A) 3 2 (eN b n m (tkN b n m p) 0 (μ 6 9 - 1))) c s)) := by
  refine Cl.ex (g := fun A => (some (some (mI (-1))), mkh (m_set (m_upd μ 1 A) 3 2 (eN b n m (tkN b n m p) 0 (μ 6 9 - 1))) c s)) ?_
  refine ⟨_, PT_48, Nat.le_of_ble_eq_true rfl, ?_⟩
  show Rn PT none kX5_readCell 0 [some (mR 3), some (mR 6), none] [] (mkh μ c s) _
  refine rn_aload_n (k' := 1) rfl rfl rfl ?_
  refine rn_iconst (k' := 2) rfl rfl ?_
  refine rn_aload_n (k' := 3) rfl rfl rfl ?_
  refine rn_getI (k' := 4) rfl rfl K0_6 (by decide) rfl ?_
  refine rn_iconst (k' := 5) rfl rfl ?_
  refine rn_isub (k' := 6) rfl rfl (by omega) ?_
  obtain ⟨A0, hA0, hc0⟩ := g_num (μ := μ) (c := c) (s := s) (b := b) (n := n) (m := m) (p := p) (lo := 0) (hi := (μ 6 8) - 1) hC0 e0
  have hC1 : CSt (m_upd μ 1 A0) b n m (tkN b n m p) := ⟨hC0.1, hC0.2.1, (tkN_b hC0.2.2.1).2.1, hA0.1, hA0.2.1, hA0.2.2.1⟩
  have tn0 := tk_num (eN_ok e0).1
  have a60 := hA0.2.2.2.2.2
  refine rn_callP (k' := 7) (y := 47) (vs := [mR 3, mI (0), mI ((μ 6 8) - 1)]) (S' := []) (v := some (mI (1))) (h' := mkh (m_upd μ 1 A0) c s) rfl rfl rfl (hc0) ?_
  show Rn PT none kX5_readCell 7 [some (mR 3), some (mR 6), none] [mI (1)] (mkh (m_upd μ 1 A0) c s) _
  refine rn_if_ne (k' := 8) rfl rfl (fun hc1 => ?_) (fun hc1 => ?_)
  · skip
    refine rn_aload_n (k' := 11) rfl rfl rfl ?_
    refine rn_getR (k' := 12) rfl rfl K0_3 (by decide) rfl R0_3_0 ?_
    refine rn_getI (k' := 13) rfl rfl K0_1 (by decide) rfl ?_
    show Rn PT none kX5_readCell 13 [some (mR 3), some (mR 6), none] [mI (A0 6)] (mkh (m_upd μ 1 A0) c s) _
    refine rn_istore_n (k' := 14) (L' := [some (mR 3), some (mR 6), some (mI (A0 6))]) rfl rfl (Nat.le_of_ble_eq_true rfl) rfl ?_
    refine rn_aload_n (k' := 15) rfl rfl rfl ?_
    refine rn_iconst (k' := 16) rfl rfl ?_
    refine rn_aload_n (k' := 17) rfl rfl rfl ?_
    refine rn_getI (k' := 18) rfl rfl K0_6 (by decide) rfl ?_
    show Rn PT none kX5_readCell 18 [some (mR 3), some (mR 6), some (mI (A0 6))] [mI (μ 6 9), mI (0), mR 3] (mkh (m_upd μ 1 A0) c s) _
    refine rn_iconst (k' := 19) rfl rfl ?_
    refine rn_isub (k' := 20) rfl rfl (by omega) ?_
    obtain ⟨A1, hA1, hc1⟩ := g_numX (μ := (m_upd μ 1 A0)) (c := c) (s := s) (b := b) (n := n) (m := m) (p := (tkN b n m p)) (lo := 0) (hi := (μ 6 9) - 1) hC1 e1
    refine rn_callP (k' := 21) (y := 47) (vs := [mR 3, mI (0), mI ((μ 6 9) - 1)]) (S' := []) (v := some (mI (0))) (h' := mkh (m_set (m_upd (m_upd μ 1 A0) 1 A1) 3 2 (eN b n m (tkN b n m p) (0) ((μ 6 9) - 1))) c s) rfl rfl rfl (hc1) ?_
    show Rn PT none kX5_readCell 21 [some (mR 3), some (mR 6), some (mI (A0 6))] [mI (0)] (mkh (m_set (m_upd (m_upd μ 1 A0) 1 A1) 3 2 (eN b n m (tkN b n m p) (0) ((μ 6 9) - 1))) c s) _
    refine rn_if_eq (k' := 22) rfl rfl (fun hc2 => ?_) (fun hc2 => ?_)
    · skip
      refine rn_iconst (k' := 31) rfl rfl ?_
      refine rn_iret rfl (Or.inl rfl) ?_
      refine ⟨A1, ?_, hA1⟩
      rw [upd_upd]
    · exfalso; omega
  · exfalso; omega
theorem h_ccell {μ : Nat → Nat → Int} {c s : Nat} {b : Nat → Int} {n m p : Nat} (hC0 : CSt μ b n m p) (c8 : 0 ≤ μ 6 8 ∧ μ 6 8 ≤ 10) (c9 : 0 ≤ μ 6 9 ∧ μ 6 9 ≤ 10) (e0 : eN b n m p 0 (μ 6 8 - 1) = 0) (e1 : eN b n m (tkN b n m p) 0 (μ 6 9 - 1) = 0) : ∃ A, (CTk b n m (tkN b n m p) A) ∧ Cl PT 48 [mR 3, mR 6] (mkh μ c s) (fun r => r = (some (some (mI (10 * tkV b n m (tkN b n m p) + tkV b n m p))), mkh (m_upd μ 1 A) c s)) := by
  refine Cl.ex (g := fun A => (some (some (mI (10 * tkV b n m (tkN b n m p) + tkV b n m p))), mkh (m_upd μ 1 A) c s)) ?_
  refine ⟨_, PT_48, Nat.le_of_ble_eq_true rfl, ?_⟩
  show Rn PT none kX5_readCell 0 [some (mR 3), some (mR 6), none] [] (mkh μ c s) _
  refine rn_aload_n (k' := 1) rfl rfl rfl ?_
  refine rn_iconst (k' := 2) rfl rfl ?_
  refine rn_aload_n (k' := 3) rfl rfl rfl ?_
  refine rn_getI (k' := 4) rfl rfl K0_6 (by decide) rfl ?_
  refine rn_iconst (k' := 5) rfl rfl ?_
  refine rn_isub (k' := 6) rfl rfl (by omega) ?_
  obtain ⟨A0, hA0, hc0⟩ := g_num (μ := μ) (c := c) (s := s) (b := b) (n := n) (m := m) (p := p) (lo := 0) (hi := (μ 6 8) - 1) hC0 e0
  have hC1 : CSt (m_upd μ 1 A0) b n m (tkN b n m p) := ⟨hC0.1, hC0.2.1, (tkN_b hC0.2.2.1).2.1, hA0.1, hA0.2.1, hA0.2.2.1⟩
  have tn0 := tk_num (eN_ok e0).1
  have a60 := hA0.2.2.2.2.2
  refine rn_callP (k' := 7) (y := 47) (vs := [mR 3, mI (0), mI ((μ 6 8) - 1)]) (S' := []) (v := some (mI (1))) (h' := mkh (m_upd μ 1 A0) c s) rfl rfl rfl (hc0) ?_
  show Rn PT none kX5_readCell 7 [some (mR 3), some (mR 6), none] [mI (1)] (mkh (m_upd μ 1 A0) c s) _
  refine rn_if_ne (k' := 8) rfl rfl (fun hc1 => ?_) (fun hc1 => ?_)
  · skip
    refine rn_aload_n (k' := 11) rfl rfl rfl ?_
    refine rn_getR (k' := 12) rfl rfl K0_3 (by decide) rfl R0_3_0 ?_
    refine rn_getI (k' := 13) rfl rfl K0_1 (by decide) rfl ?_
    show Rn PT none kX5_readCell 13 [some (mR 3), some (mR 6), none] [mI (A0 6)] (mkh (m_upd μ 1 A0) c s) _
    refine rn_istore_n (k' := 14) (L' := [some (mR 3), some (mR 6), some (mI (A0 6))]) rfl rfl (Nat.le_of_ble_eq_true rfl) rfl ?_
    refine rn_aload_n (k' := 15) rfl rfl rfl ?_
    refine rn_iconst (k' := 16) rfl rfl ?_
    refine rn_aload_n (k' := 17) rfl rfl rfl ?_
    refine rn_getI (k' := 18) rfl rfl K0_6 (by decide) rfl ?_
    show Rn PT none kX5_readCell 18 [some (mR 3), some (mR 6), some (mI (A0 6))] [mI (μ 6 9), mI (0), mR 3] (mkh (m_upd μ 1 A0) c s) _
    refine rn_iconst (k' := 19) rfl rfl ?_
    refine rn_isub (k' := 20) rfl rfl (by omega) ?_
    obtain ⟨A1, hA1, hc1⟩ := g_num (μ := (m_upd μ 1 A0)) (c := c) (s := s) (b := b) (n := n) (m := m) (p := (tkN b n m p)) (lo := 0) (hi := (μ 6 9) - 1) hC1 e1
    have hC2 : CSt (m_upd (m_upd μ 1 A0) 1 A1) b n m (tkN b n m (tkN b n m p)) := ⟨hC1.1, hC1.2.1, (tkN_b hC1.2.2.1).2.1, hA1.1, hA1.2.1, hA1.2.2.1⟩
    have tn1 := tk_num (eN_ok e1).1
    have a61 := hA1.2.2.2.2.2
    refine rn_callP (k' := 21) (y := 47) (vs := [mR 3, mI (0), mI ((μ 6 9) - 1)]) (S' := []) (v := some (mI (1))) (h' := mkh (m_upd (m_upd μ 1 A0) 1 A1) c s) rfl rfl rfl (hc1) ?_
    show Rn PT none kX5_readCell 21 [some (mR 3), some (mR 6), some (mI (A0 6))] [mI (1)] (mkh (m_upd (m_upd μ 1 A0) 1 A1) c s) _
    refine rn_if_eq (k' := 22) rfl rfl (fun hc2 => ?_) (fun hc2 => ?_)
    · exfalso; omega
    · skip
      refine rn_bipush (k' := 23) rfl rfl ?_
      refine rn_aload_n (k' := 24) rfl rfl rfl ?_
      refine rn_getR (k' := 25) rfl rfl K0_3 (by decide) rfl R0_3_0 ?_
      refine rn_getI (k' := 26) rfl rfl K0_1 (by decide) rfl ?_
      show Rn PT none kX5_readCell 26 [some (mR 3), some (mR 6), some (mI (A0 6))] [mI (A1 6), mI (10)] (mkh (m_upd (m_upd μ 1 A0) 1 A1) c s) _
      refine rn_imul (k' := 27) rfl rfl (by omega) ?_
      refine rn_iload_n (k' := 28) rfl rfl rfl ?_
      refine rn_iadd (k' := 29) rfl rfl (by omega) ?_
      refine rn_goto rfl ?_
      refine rn_iret rfl (Or.inl rfl) ?_
      refine ⟨A1, ?_, hA1⟩
      rw [upd_upd, hA0.2.2.2.2.2, hA1.2.2.2.2.2]
  · exfalso; omega
theorem g_knownX0 {μ : Nat → Nat → Int} {c s : Nat} {b : Nat → Int} {n m p : Nat} (hC0 : CSt μ b n m p) (e0 : ¬ (tkK b n m p = 1 ∧ ix (μ 4) (tkV b n m p) 16 0 = -1)) : ∃ A, (CTk b n m p A) ∧ Cl PT 60 [mR 3, mR 6] (mkh μ c s) (fun r => r = (some (some (mI (-1))), mkh (m_set (m_upd μ 1 A) 3 2 1) c s)) := by
  refine Cl.ex (g := fun A => (some (some (mI (-1))), mkh (m_set (m_upd μ 1 A) 3 2 1) c s)) ?_
  refine ⟨_, PT_60, Nat.le_of_ble_eq_true rfl, ?_⟩
  show Rn PT none kX5_readKnownHerd 0 [some (mR 3), some (mR 6), none] [] (mkh μ c s) _
  refine rn_aload_n (k' := 1) rfl rfl rfl ?_
  obtain ⟨A0, hA0, hc0⟩ := g_nameX (μ := μ) (c := c) (s := s) hC0 e0
  refine rn_callP (k' := 2) (y := 49) (vs := [mR 3]) (S' := []) (v := some (mI (0))) (h' := mkh (m_set (m_upd μ 1 A0) 3 2 (1)) c s) rfl rfl rfl (hc0) ?_
  show Rn PT none kX5_readKnownHerd 2 [some (mR 3), some (mR 6), none] [mI (0)] (mkh (m_set (m_upd μ 1 A0) 3 2 (1)) c s) _
  refine rn_if_ne (k' := 3) rfl rfl (fun hc1 => ?_) (fun hc1 => ?_)
  · exfalso; omega
  · skip
    refine rn_iconst (k' := 4) rfl rfl ?_
    refine rn_iret rfl (Or.inl rfl) ?_
    refine ⟨A0, ?_, hA0⟩
    rfl
theorem g_knownX1 {μ : Nat → Nat → Int} {c s : Nat} {b : Nat → Int} {n m p : Nat} (hC0 : CSt μ b n m p) (e0 : (tkK b n m p = 1 ∧ ix (μ 4) (tkV b n m p) 16 0 = -1)) {k9 : Nat} (hk9 : k9 ≤ 8) (h13 : μ 6 13 = (k9 : Int)) (d0 : ix (μ 11) (tkV b n m p) k9 0 = -1) : ∃ A, (CTk b n m p A) ∧ Cl PT 60 [mR 3, mR 6] (mkh μ c s) (fun r => r = (some (some (mI (-1))), mkh (m_set (m_upd μ 1 A) 3 2 3) c s)) := by
  refine Cl.ex (g := fun A => (some (some (mI (-1))), mkh (m_set (m_upd μ 1 A) 3 2 3) c s)) ?_
  refine ⟨_, PT_60, Nat.le_of_ble_eq_true rfl, ?_⟩
  show Rn PT none kX5_readKnownHerd 0 [some (mR 3), some (mR 6), none] [] (mkh μ c s) _
  refine rn_aload_n (k' := 1) rfl rfl rfl ?_
  obtain ⟨A0, hA0, hc0⟩ := g_name (μ := μ) (c := c) (s := s) hC0 e0.1 e0.2
  have a60 := hA0.2.2.2.2.2
  refine rn_callP (k' := 2) (y := 49) (vs := [mR 3]) (S' := []) (v := some (mI (1))) (h' := mkh (m_upd μ 1 A0) c s) rfl rfl rfl (hc0) ?_
  show Rn PT none kX5_readKnownHerd 2 [some (mR 3), some (mR 6), none] [mI (1)] (mkh (m_upd μ 1 A0) c s) _
  refine rn_if_ne (k' := 3) rfl rfl (fun hc1 => ?_) (fun hc1 => ?_)
  · skip
    refine rn_aload_n (k' := 6) rfl rfl rfl ?_
    refine rn_aload_n (k' := 7) rfl rfl rfl ?_
    refine rn_getR (k' := 8) rfl rfl K0_3 (by decide) rfl R0_3_0 ?_
    refine rn_getI (k' := 9) rfl rfl K0_1 (by decide) rfl ?_
    show Rn PT none kX5_readKnownHerd 9 [some (mR 3), some (mR 6), none] [mI (A0 6), mR 6] (mkh (m_upd μ 1 A0) c s) _
    have hdn : ix (μ 11) (A0 6) k9 0 = -1 := by rw [a60]; exact d0
    refine rn_callP (k' := 10) (y := 31) (vs := [mR 6, mI (A0 6)]) (S' := []) (v := some (mI (ix (μ 11) (A0 6) k9 0))) (h' := mkh (m_upd μ 1 A0) c s) rfl rfl rfl (c_named_l (μ := (m_upd μ 1 A0)) (v := A0 6) hk9 h13) ?_
    show Rn PT none kX5_readKnownHerd 10 [some (mR 3), some (mR 6), none] [mI (ix (μ 11) (A0 6) k9 0)] (mkh (m_upd μ 1 A0) c s) _
    refine rn_istore_n (k' := 11) (L' := [some (mR 3), some (mR 6), some (mI (ix (μ 11) (A0 6) k9 0))]) rfl rfl (Nat.le_of_ble_eq_true rfl) rfl ?_
    refine rn_iload_n (k' := 12) rfl rfl rfl ?_
    refine rn_iconst (k' := 13) rfl rfl ?_
    refine rn_icmp_ne (k' := 14) rfl rfl (fun hc2 => ?_) (fun hc2 => ?_)
    · exfalso; omega
    · skip
      refine rn_aload_n (k' := 15) rfl rfl rfl ?_
      refine rn_iconst (k' := 16) rfl rfl ?_
      refine rn_callP (k' := 17) (y := 45) (vs := [mR 3, mI (3)]) (S' := []) (v := some (mI (0))) (h' := mkh (m_set (m_upd μ 1 A0) 3 2 (3)) c s) rfl rfl rfl (g_fail (μ := (m_upd μ 1 A0)) (e := 3)) ?_
      show Rn PT none kX5_readKnownHerd 17 [some (mR 3), some (mR 6), some (mI (ix (μ 11) (A0 6) k9 0))] [mI (0)] (mkh (m_set (m_upd μ 1 A0) 3 2 (3)) c s) _
      refine rn_popI (k' := 18) rfl rfl ?_
      refine rn_iload_n (k' := 19) rfl rfl rfl ?_
      refine rn_iret rfl (Or.inl rfl) ?_
      refine ⟨A0, ?_, hA0⟩
      rw [hdn]
  · exfalso; omega
theorem g_known {μ : Nat → Nat → Int} {c s : Nat} {b : Nat → Int} {n m p : Nat} (hC0 : CSt μ b n m p) (e0 : (tkK b n m p = 1 ∧ ix (μ 4) (tkV b n m p) 16 0 = -1)) {k9 : Nat} (hk9 : k9 ≤ 8) (h13 : μ 6 13 = (k9 : Int)) (d0 : ¬ ix (μ 11) (tkV b n m p) k9 0 = -1) : ∃ A, (CTk b n m p A) ∧ Cl PT 60 [mR 3, mR 6] (mkh μ c s) (fun r => r = (some (some (mI (ix (μ 11) (tkV b n m p) k9 0))), mkh (m_upd μ 1 A) c s)) := by
  refine Cl.ex (g := fun A => (some (some (mI (ix (μ 11) (tkV b n m p) k9 0))), mkh (m_upd μ 1 A) c s)) ?_
  refine ⟨_, PT_60, Nat.le_of_ble_eq_true rfl, ?_⟩
  show Rn PT none kX5_readKnownHerd 0 [some (mR 3), some (mR 6), none] [] (mkh μ c s) _
  refine rn_aload_n (k' := 1) rfl rfl rfl ?_
  obtain ⟨A0, hA0, hc0⟩ := g_name (μ := μ) (c := c) (s := s) hC0 e0.1 e0.2
  have a60 := hA0.2.2.2.2.2
  refine rn_callP (k' := 2) (y := 49) (vs := [mR 3]) (S' := []) (v := some (mI (1))) (h' := mkh (m_upd μ 1 A0) c s) rfl rfl rfl (hc0) ?_
  show Rn PT none kX5_readKnownHerd 2 [some (mR 3), some (mR 6), none] [mI (1)] (mkh (m_upd μ 1 A0) c s) _
  refine rn_if_ne (k' := 3) rfl rfl (fun hc1 => ?_) (fun hc1 => ?_)
  · skip
    refine rn_aload_n (k' := 6) rfl rfl rfl ?_
    refine rn_aload_n (k' := 7) rfl rfl rfl ?_
    refine rn_getR (k' := 8) rfl rfl K0_3 (by decide) rfl R0_3_0 ?_
    refine rn_getI (k' := 9) rfl rfl K0_1 (by decide) rfl ?_
    show Rn PT none kX5_readKnownHerd 9 [some (mR 3), some (mR 6), none] [mI (A0 6), mR 6] (mkh (m_upd μ 1 A0) c s) _
    have hdn : ¬ ix (μ 11) (A0 6) k9 0 = -1 := by rw [a60]; exact d0
    refine rn_callP (k' := 10) (y := 31) (vs := [mR 6, mI (A0 6)]) (S' := []) (v := some (mI (ix (μ 11) (A0 6) k9 0))) (h' := mkh (m_upd μ 1 A0) c s) rfl rfl rfl (c_named_l (μ := (m_upd μ 1 A0)) (v := A0 6) hk9 h13) ?_
    show Rn PT none kX5_readKnownHerd 10 [some (mR 3), some (mR 6), none] [mI (ix (μ 11) (A0 6) k9 0)] (mkh (m_upd μ 1 A0) c s) _
    refine rn_istore_n (k' := 11) (L' := [some (mR 3), some (mR 6), some (mI (ix (μ 11) (A0 6) k9 0))]) rfl rfl (Nat.le_of_ble_eq_true rfl) rfl ?_
    refine rn_iload_n (k' := 12) rfl rfl rfl ?_
    refine rn_iconst (k' := 13) rfl rfl ?_
    refine rn_icmp_ne (k' := 14) rfl rfl (fun hc2 => ?_) (fun hc2 => ?_)
    · skip
      refine rn_iload_n (k' := 19) rfl rfl rfl ?_
      refine rn_iret rfl (Or.inl rfl) ?_
      refine ⟨A0, ?_, hA0⟩
      rw [a60]
    · exfalso; omega
  · exfalso; omega
theorem g_amountX {μ : Nat → Nat → Int} {c s : Nat} {b : Nat → Int} {n m p : Nat} {hi : Int} (hC0 : CSt μ b n m p) (e0 : ¬ eN b n m p 1 hi = 0) : ∃ A, (CTk b n m p A) ∧ Cl PT 61 [mR 3, mI hi] (mkh μ c s) (fun r => r = (some (some (mI (-1))), mkh (m_set (m_upd μ 1 A) 3 2 (eN b n m p 1 hi)) c s)) := by
  refine Cl.ex (g := fun A => (some (some (mI (-1))), mkh (m_set (m_upd μ 1 A) 3 2 (eN b n m p 1 hi)) c s)) ?_
  refine ⟨_, PT_61, Nat.le_of_ble_eq_true rfl, ?_⟩
  show Rn PT none kX5_readAmount 0 [some (mR 3), some (mI (hi))] [] (mkh μ c s) _
  refine rn_aload_n (k' := 1) rfl rfl rfl ?_
  refine rn_iconst (k' := 2) rfl rfl ?_
  refine rn_iload_n (k' := 3) rfl rfl rfl ?_
  obtain ⟨A0, hA0, hc0⟩ := g_numX (μ := μ) (c := c) (s := s) (b := b) (n := n) (m := m) (p := p) (lo := 1) (hi := hi) hC0 e0
  refine rn_callP (k' := 4) (y := 47) (vs := [mR 3, mI (1), mI (hi)]) (S' := []) (v := some (mI (0))) (h' := mkh (m_set (m_upd μ 1 A0) 3 2 (eN b n m p (1) (hi))) c s) rfl rfl rfl (hc0) ?_
  show Rn PT none kX5_readAmount 4 [some (mR 3), some (mI (hi))] [mI (0)] (mkh (m_set (m_upd μ 1 A0) 3 2 (eN b n m p (1) (hi))) c s) _
  refine rn_if_eq (k' := 5) rfl rfl (fun hc1 => ?_) (fun hc1 => ?_)
  · skip
    refine rn_iconst (k' := 10) rfl rfl ?_
    refine rn_iret rfl (Or.inl rfl) ?_
    exact ⟨A0, rfl, hA0⟩
  · exfalso; omega
theorem g_amount {μ : Nat → Nat → Int} {c s : Nat} {b : Nat → Int} {n m p : Nat} {hi : Int} (hC0 : CSt μ b n m p) (e0 : eN b n m p 1 hi = 0) : ∃ A, (CTk b n m p A) ∧ Cl PT 61 [mR 3, mI hi] (mkh μ c s) (fun r => r = (some (some (mI (tkV b n m p))), mkh (m_upd μ 1 A) c s)) := by
  refine Cl.ex (g := fun A => (some (some (mI (tkV b n m p))), mkh (m_upd μ 1 A) c s)) ?_
  refine ⟨_, PT_61, Nat.le_of_ble_eq_true rfl, ?_⟩
  show Rn PT none kX5_readAmount 0 [some (mR 3), some (mI (hi))] [] (mkh μ c s) _
  refine rn_aload_n (k' := 1) rfl rfl rfl ?_
  refine rn_iconst (k' := 2) rfl rfl ?_
  refine rn_iload_n (k' := 3) rfl rfl rfl ?_
  obtain ⟨A0, hA0, hc0⟩ := g_num (μ := μ) (c := c) (s := s) (b := b) (n := n) (m := m) (p := p) (lo := 1) (hi := hi) hC0 e0
  have hC1 : CSt (m_upd μ 1 A0) b n m (tkN b n m p) := ⟨hC0.1, hC0.2.1, (tkN_b hC0.2.2.1).2.1, hA0.1, hA0.2.1, hA0.2.2.1⟩
  refine rn_callP (k' := 4) (y := 47) (vs := [mR 3, mI (1), mI (hi)]) (S' := []) (v := some (mI (1))) (h' := mkh (m_upd μ 1 A0) c s) rfl rfl rfl (hc0) ?_
  show Rn PT none kX5_readAmount 4 [some (mR 3), some (mI (hi))] [mI (1)] (mkh (m_upd μ 1 A0) c s) _
  refine rn_if_eq (k' := 5) rfl rfl (fun hc1 => ?_) (fun hc1 => ?_)
  · exfalso; omega
  · skip
    refine rn_aload_n (k' := 6) rfl rfl rfl ?_
    refine rn_getR (k' := 7) rfl rfl K0_3 (by decide) rfl R0_3_0 ?_
    refine rn_getI (k' := 8) rfl rfl K0_1 (by decide) rfl ?_
    show Rn PT none kX5_readAmount 8 [some (mR 3), some (mI (hi))] [mI (A0 6)] (mkh (m_upd μ 1 A0) c s) _
    refine rn_goto rfl ?_
    refine rn_iret rfl (Or.inl rfl) ?_
    refine ⟨A0, ?_, hA0⟩
    rw [hA0.2.2.2.2.2]
set_option maxHeartbeats 1000000 in
theorem k_pl11_x0 {μ : Nat → Nat → Int} {c s : Nat} {b : Nat → Int} {n m p : Nat} (hC0 : CSt μ b n m p) (h5 : μ 1 5 = 1) (hx : ix (μ 4) (μ 1 6) 16 0 = 11) {l9 : Nat} (hl : μ 62 0 = (l9 : Int)) (hl3 : ¬ l9 = 30) (hl9 : l9 ≤ 30) (c8 : 0 ≤ μ 6 8 ∧ μ 6 8 ≤ 10) (c9 : 0 ≤ μ 6 9 ∧ μ 6 9 ≤ 10) (e0 : ¬ (tkK b n m p = 1 ∧ ix (μ 4) (tkV b n m p) 16 0 = -1)) : ∃ μ', (μ' 3 2 = 1 ∧ μ' 1 4 = ((tkP b n m p : Nat) : Int) ∧ FrmP μ μ') ∧ Cl PT 59 [mR 3, mR 62, mR 6] (mkh μ c s) (fun r => r = (some (some (mI 0)), mkh μ' c s)) := by
  refine Cl.ex (g := fun μ' => (some (some (mI 0)), mkh μ' c s)) ?_
  refine ⟨_, PT_59, Nat.le_of_ble_eq_true rfl, ?_⟩
  show Rn PT none kX5_readPlanLine 0 [some (mR 3), some (mR 62), some (mR 6), none, none, none] [] (mkh μ c s) _
  refine rn_aload_n (k' := 1) rfl rfl rfl ?_
  refine rn_callP (k' := 2) (y := 46) (vs := [mR 3]) (S' := []) (v := some (mI (11))) (h' := mkh μ c s) rfl rfl rfl (by have hz := c_wordRead (μ := μ) (c := c) (s := s) h5; rw [hx] at hz; exact hz) ?_
  show Rn PT none kX5_readPlanLine 2 [some (mR 3), some (mR 62), some (mR 6), none, none, none] [mI (11)] (mkh μ c s) _
  refine rn_istore_n (k' := 3) (L' := [some (mR 3), some (mR 62), some (mR 6), some (mI (11)), none, none]) rfl rfl (Nat.le_of_ble_eq_true rfl) rfl ?_
  refine rn_iload_n (k' := 4) rfl rfl rfl ?_
  refine rn_bipush (k' := 5) rfl rfl ?_
  refine rn_icmp_ge (k' := 6) rfl rfl (fun hc1 => ?_) (fun hc1 => ?_)
  · skip
    refine rn_aload_n (k' := 11) rfl rfl rfl ?_
    refine rn_getI (k' := 12) rfl rfl K0_62 (by decide) rfl ?_
    refine rn_bipush (k' := 13) rfl rfl ?_
    refine rn_icmp_lt (k' := 14) rfl rfl (fun hc2 => ?_) (fun hc2 => ?_)
    · skip
      refine rn_iconst (k' := 19) rfl rfl ?_
      refine rn_istore (k' := 20) (L' := [some (mR 3), some (mR 62), some (mR 6), some (mI (11)), some (mI (-1)), none]) rfl rfl (Nat.le_of_ble_eq_true rfl) rfl ?_
      refine rn_iload_n (k' := 21) rfl rfl rfl ?_
      refine rn_bipush (k' := 22) rfl rfl ?_
      refine rn_icmp_eq (k' := 23) rfl rfl (fun hc3 => ?_) (fun hc3 => ?_)
      · skip
        refine rn_aload_n (k' := 30) rfl rfl rfl ?_
        refine rn_aload_n (k' := 31) rfl rfl rfl ?_
        obtain ⟨A0, hA0, hc0⟩ := g_knownX0 (μ := μ) (c := c) (s := s) hC0 e0
        refine rn_callP (k' := 32) (y := 60) (vs := [mR 3, mR 6]) (S' := []) (v := some (mI (-1))) (h' := mkh (m_set (m_upd μ 1 A0) 3 2 (1)) c s) rfl rfl rfl (hc0) ?_
        show Rn PT none kX5_readPlanLine 32 [some (mR 3), some (mR 62), some (mR 6), some (mI (11)), some (mI (-1)), none] [mI (-1)] (mkh (m_set (m_upd μ 1 A0) 3 2 (1)) c s) _
        refine rn_istore (k' := 33) (L' := [some (mR 3), some (mR 62), some (mR 6), some (mI (11)), some (mI (-1)), none]) rfl rfl (Nat.le_of_ble_eq_true rfl) rfl ?_
        refine rn_iload (k' := 34) rfl rfl rfl ?_
        refine rn_iconst (k' := 35) rfl rfl ?_
        refine rn_icmp_ne (k' := 36) rfl rfl (fun hc4 => ?_) (fun hc4 => ?_)
        · exfalso; omega
        · skip
          refine rn_iconst (k' := 37) rfl rfl ?_
          refine rn_iret rfl (Or.inr (by omega)) ?_
          exact ⟨_, rfl, rfl, hA0.2.2.2.1, (FrmP.s (FrmP.u FrmP.r (by decide)) (by decide))⟩
      · exfalso; omega
    · exfalso; omega
  · exfalso; omega
set_option maxHeartbeats 1000000 in
theorem k_pl11_x1 {μ : Nat → Nat → Int} {c s : Nat} {b : Nat → Int} {n m p : Nat} (hC0 : CSt μ b n m p) (h5 : μ 1 5 = 1) (hx : ix (μ 4) (μ 1 6) 16 0 = 11) {l9 : Nat} (hl : μ 62 0 = (l9 : Int)) (hl3 : ¬ l9 = 30) (hl9 : l9 ≤ 30) (c8 : 0 ≤ μ 6 8 ∧ μ 6 8 ≤ 10) (c9 : 0 ≤ μ 6 9 ∧ μ 6 9 ≤ 10) (e0 : (tkK b n m p = 1 ∧ ix (μ 4) (tkV b n m p) 16 0 = -1)) (e1 : ¬ eN b n m (tkN b n m p) 0 (μ 6 8 - 1) = 0) {k9 : Nat} (hk9 : k9 ≤ 8) (h13 : μ 6 13 = (k9 : Int)) (d0 : ¬ ix (μ 11) (tkV b n m p) k9 0 = -1) : ∃ μ', (μ' 3 2 = eN b n m (tkN b n m p) 0 (μ 6 8 - 1) ∧ μ' 1 4 = ((tkP b n m (tkN b n m p) : Nat) : Int) ∧ FrmP μ μ') ∧ Cl PT 59 [mR 3, mR 62, mR 6] (mkh μ c s) (fun r => r = (some (some (mI 0)), mkh μ' c s)) := by
  refine Cl.ex (g := fun μ' => (some (some (mI 0)), mkh μ' c s)) ?_
  refine ⟨_, PT_59, Nat.le_of_ble_eq_true rfl, ?_⟩
  show Rn PT none kX5_readPlanLine 0 [some (mR 3), some (mR 62), some (mR 6), none, none, none] [] (mkh μ c s) _
  refine rn_aload_n (k' := 1) rfl rfl rfl ?_
  refine rn_callP (k' := 2) (y := 46) (vs := [mR 3]) (S' := []) (v := some (mI (11))) (h' := mkh μ c s) rfl rfl rfl (by have hz := c_wordRead (μ := μ) (c := c) (s := s) h5; rw [hx] at hz; exact hz) ?_
  show Rn PT none kX5_readPlanLine 2 [some (mR 3), some (mR 62), some (mR 6), none, none, none] [mI (11)] (mkh μ c s) _
  refine rn_istore_n (k' := 3) (L' := [some (mR 3), some (mR 62), some (mR 6), some (mI (11)), none, none]) rfl rfl (Nat.le_of_ble_eq_true rfl) rfl ?_
  refine rn_iload_n (k' := 4) rfl rfl rfl ?_
  refine rn_bipush (k' := 5) rfl rfl ?_
  refine rn_icmp_ge (k' := 6) rfl rfl (fun hc1 => ?_) (fun hc1 => ?_)
  · skip
    refine rn_aload_n (k' := 11) rfl rfl rfl ?_
    refine rn_getI (k' := 12) rfl rfl K0_62 (by decide) rfl ?_
    refine rn_bipush (k' := 13) rfl rfl ?_
    refine rn_icmp_lt (k' := 14) rfl rfl (fun hc2 => ?_) (fun hc2 => ?_)
    · skip
      refine rn_iconst (k' := 19) rfl rfl ?_
      refine rn_istore (k' := 20) (L' := [some (mR 3), some (mR 62), some (mR 6), some (mI (11)), some (mI (-1)), none]) rfl rfl (Nat.le_of_ble_eq_true rfl) rfl ?_
      refine rn_iload_n (k' := 21) rfl rfl rfl ?_
      refine rn_bipush (k' := 22) rfl rfl ?_
      refine rn_icmp_eq (k' := 23) rfl rfl (fun hc3 => ?_) (fun hc3 => ?_)
      · skip
        refine rn_aload_n (k' := 30) rfl rfl rfl ?_
        refine rn_aload_n (k' := 31) rfl rfl rfl ?_
        obtain ⟨A0, hA0, hc0⟩ := g_known (μ := μ) (c := c) (s := s) hC0 e0 hk9 h13 d0
        have hC1 : CSt (m_upd μ 1 A0) b n m (tkN b n m p) := ⟨hC0.1, hC0.2.1, (tkN_b hC0.2.2.1).2.1, hA0.1, hA0.2.1, hA0.2.2.1⟩
        have ib := ix_b (f := μ 11) (v := tkV b n m p) k9 0
        refine rn_callP (k' := 32) (y := 60) (vs := [mR 3, mR 6]) (S' := []) (v := some (mI (ix (μ 11) (tkV b n m p) k9 0))) (h' := mkh (m_upd μ 1 A0) c s) rfl rfl rfl (hc0) ?_
        show Rn PT none kX5_readPlanLine 32 [some (mR 3), some (mR 62), some (mR 6), some (mI (11)), some (mI (-1)), none] [mI (ix (μ 11) (tkV b n m p) k9 0)] (mkh (m_upd μ 1 A0) c s) _
        refine rn_istore (k' := 33) (L' := [some (mR 3), some (mR 62), some (mR 6), some (mI (11)), some (mI (ix (μ 11) (tkV b n m p) k9 0)), none]) rfl rfl (Nat.le_of_ble_eq_true rfl) rfl ?_
        refine rn_iload (k' := 34) rfl rfl rfl ?_
        refine rn_iconst (k' := 35) rfl rfl ?_
        refine rn_icmp_ne (k' := 36) rfl rfl (fun hc4 => ?_) (fun hc4 => ?_)
        · skip
          refine rn_iconst (k' := 39) rfl rfl ?_
          refine rn_istore (k' := 40) (L' := [some (mR 3), some (mR 62), some (mR 6), some (mI (11)), some (mI (ix (μ 11) (tkV b n m p) k9 0)), some (mI (0))]) rfl rfl (Nat.le_of_ble_eq_true rfl) rfl ?_
          refine rn_iload_n (k' := 41) rfl rfl rfl ?_
          refine rn_bipush (k' := 42) rfl rfl ?_
          refine rn_icmp_eq (k' := 43) rfl rfl (fun hc5 => ?_) (fun hc5 => ?_)
          · exfalso; omega
          · skip
            refine rn_iload_n (k' := 44) rfl rfl rfl ?_
            refine rn_bipush (k' := 45) rfl rfl ?_
            refine rn_icmp_ne (k' := 46) rfl rfl (fun hc6 => ?_) (fun hc6 => ?_)
            · exfalso; omega
            · skip
              refine rn_aload_n (k' := 47) rfl rfl rfl ?_
              refine rn_aload_n (k' := 48) rfl rfl rfl ?_
              obtain ⟨A1, hA1, hc1⟩ := h_ccellX0 (μ := (m_upd μ 1 A0)) (c := c) (s := s) (b := b) (n := n) (m := m) (p := (tkN b n m p)) hC1 c8 c9 e1
              refine rn_callP (k' := 49) (y := 48) (vs := [mR 3, mR 6]) (S' := []) (v := some (mI (-1))) (h' := mkh (m_set (m_upd (m_upd μ 1 A0) 1 A1) 3 2 (eN b n m (tkN b n m p) 0 (μ 6 8 - 1))) c s) rfl rfl rfl (hc1) ?_
              show Rn PT none kX5_readPlanLine 49 [some (mR 3), some (mR 62), some (mR 6), some (mI (11)), some (mI (ix (μ 11) (tkV b n m p) k9 0)), some (mI (0))] [mI (-1)] (mkh (m_set (m_upd (m_upd μ 1 A0) 1 A1) 3 2 (eN b n m (tkN b n m p) 0 (μ 6 8 - 1))) c s) _
              refine rn_goto rfl ?_
              refine rn_istore (k' := 59) (L' := [some (mR 3), some (mR 62), some (mR 6), some (mI (11)), some (mI (ix (μ 11) (tkV b n m p) k9 0)), some (mI (-1))]) rfl rfl (Nat.le_of_ble_eq_true rfl) rfl ?_
              refine rn_iload (k' := 60) rfl rfl rfl ?_
              refine rn_iconst (k' := 61) rfl rfl ?_
              refine rn_icmp_ne (k' := 62) rfl rfl (fun hc7 => ?_) (fun hc7 => ?_)
              · exfalso; omega
              · skip
                refine rn_iconst (k' := 63) rfl rfl ?_
                refine rn_iret rfl (Or.inr (by omega)) ?_
                exact ⟨_, rfl, rfl, hA1.2.2.2.1, (FrmP.s (FrmP.u (FrmP.u FrmP.r (by decide)) (by decide)) (by decide))⟩
        · exfalso; omega
      · exfalso; omega
    · exfalso; omega
  · exfalso; omega
set_option maxHeartbeats 1000000 in
theorem k_pl11_x2 {μ : Nat → Nat → Int} {c s : Nat} {b : Nat → Int} {n m p : Nat} (hC0 : CSt μ b n m p) (h5 : μ 1 5 = 1) (hx : ix (μ 4) (μ 1 6) 16 0 = 11) {l9 : Nat} (hl : μ 62 0 = (l9 : Int)) (hl3 : ¬ l9 = 30) (hl9 : l9 ≤ 30) (c8 : 0 ≤ μ 6 8 ∧ μ 6 8 ≤ 10) (c9 : 0 ≤ μ 6 9 ∧ μ 6 9 ≤ 10) (e0 : (tkK b n m p = 1 ∧ ix (μ 4) (tkV b n m p) 16 0 = -1)) (e1 : eN b n m (tkN b n m p) 0 (μ 6 8 - 1) = 0) (e2 : ¬ eN b n m (tkN b n m (tkN b n m p)) 0 (μ 6 9 - 1) = 0) {k9 : Nat} (hk9 : k9 ≤ 8) (h13 : μ 6 13 = (k9 : Int)) (d0 : ¬ ix (μ 11) (tkV b n m p) k9 0 = -1) : ∃ μ', (μ' 3 2 = eN b n m (tkN b n m (tkN b n m p)) 0 (μ 6 9 - 1) ∧ μ' 1 4 = ((tkP b n m (tkN b n m (tkN b n m p)) : Nat) : Int) ∧ FrmP μ μ') ∧ Cl PT 59 [mR 3, mR 62, mR 6] (mkh μ c s) (fun r => r = (some (some (mI 0)), mkh μ' c s)) := by
  refine Cl.ex (g := fun μ' => (some (some (mI 0)), mkh μ' c s)) ?_
  refine ⟨_, PT_59, Nat.le_of_ble_eq_true rfl, ?_⟩
  show Rn PT none kX5_readPlanLine 0 [some (mR 3), some (mR 62), some (mR 6), none, none, none] [] (mkh μ c s) _
  refine rn_aload_n (k' := 1) rfl rfl rfl ?_
  refine rn_callP (k' := 2) (y := 46) (vs := [mR 3]) (S' := []) (v := some (mI (11))) (h' := mkh μ c s) rfl rfl rfl (by have hz := c_wordRead (μ := μ) (c := c) (s := s) h5; rw [hx] at hz; exact hz) ?_
  show Rn PT none kX5_readPlanLine 2 [some (mR 3), some (mR 62), some (mR 6), none, none, none] [mI (11)] (mkh μ c s) _
  refine rn_istore_n (k' := 3) (L' := [some (mR 3), some (mR 62), some (mR 6), some (mI (11)), none, none]) rfl rfl (Nat.le_of_ble_eq_true rfl) rfl ?_
  refine rn_iload_n (k' := 4) rfl rfl rfl ?_
  refine rn_bipush (k' := 5) rfl rfl ?_
  refine rn_icmp_ge (k' := 6) rfl rfl (fun hc1 => ?_) (fun hc1 => ?_)
  · skip
    refine rn_aload_n (k' := 11) rfl rfl rfl ?_
    refine rn_getI (k' := 12) rfl rfl K0_62 (by decide) rfl ?_
    refine rn_bipush (k' := 13) rfl rfl ?_
    refine rn_icmp_lt (k' := 14) rfl rfl (fun hc2 => ?_) (fun hc2 => ?_)
    · skip
      refine rn_iconst (k' := 19) rfl rfl ?_
      refine rn_istore (k' := 20) (L' := [some (mR 3), some (mR 62), some (mR 6), some (mI (11)), some (mI (-1)), none]) rfl rfl (Nat.le_of_ble_eq_true rfl) rfl ?_
      refine rn_iload_n (k' := 21) rfl rfl rfl ?_
      refine rn_bipush (k' := 22) rfl rfl ?_
      refine rn_icmp_eq (k' := 23) rfl rfl (fun hc3 => ?_) (fun hc3 => ?_)
      · skip
        refine rn_aload_n (k' := 30) rfl rfl rfl ?_
        refine rn_aload_n (k' := 31) rfl rfl rfl ?_
        obtain ⟨A0, hA0, hc0⟩ := g_known (μ := μ) (c := c) (s := s) hC0 e0 hk9 h13 d0
        have hC1 : CSt (m_upd μ 1 A0) b n m (tkN b n m p) := ⟨hC0.1, hC0.2.1, (tkN_b hC0.2.2.1).2.1, hA0.1, hA0.2.1, hA0.2.2.1⟩
        have ib := ix_b (f := μ 11) (v := tkV b n m p) k9 0
        refine rn_callP (k' := 32) (y := 60) (vs := [mR 3, mR 6]) (S' := []) (v := some (mI (ix (μ 11) (tkV b n m p) k9 0))) (h' := mkh (m_upd μ 1 A0) c s) rfl rfl rfl (hc0) ?_
        show Rn PT none kX5_readPlanLine 32 [some (mR 3), some (mR 62), some (mR 6), some (mI (11)), some (mI (-1)), none] [mI (ix (μ 11) (tkV b n m p) k9 0)] (mkh (m_upd μ 1 A0) c s) _
        refine rn_istore (k' := 33) (L' := [some (mR 3), some (mR 62), some (mR 6), some (mI (11)), some (mI (ix (μ 11) (tkV b n m p) k9 0)), none]) rfl rfl (Nat.le_of_ble_eq_true rfl) rfl ?_
        refine rn_iload (k' := 34) rfl rfl rfl ?_
        refine rn_iconst (k' := 35) rfl rfl ?_
        refine rn_icmp_ne (k' := 36) rfl rfl (fun hc4 => ?_) (fun hc4 => ?_)
        · skip
          refine rn_iconst (k' := 39) rfl rfl ?_
          refine rn_istore (k' := 40) (L' := [some (mR 3), some (mR 62), some (mR 6), some (mI (11)), some (mI (ix (μ 11) (tkV b n m p) k9 0)), some (mI (0))]) rfl rfl (Nat.le_of_ble_eq_true rfl) rfl ?_
          refine rn_iload_n (k' := 41) rfl rfl rfl ?_
          refine rn_bipush (k' := 42) rfl rfl ?_
          refine rn_icmp_eq (k' := 43) rfl rfl (fun hc5 => ?_) (fun hc5 => ?_)
          · exfalso; omega
          · skip
            refine rn_iload_n (k' := 44) rfl rfl rfl ?_
            refine rn_bipush (k' := 45) rfl rfl ?_
            refine rn_icmp_ne (k' := 46) rfl rfl (fun hc6 => ?_) (fun hc6 => ?_)
            · exfalso; omega
            · skip
              refine rn_aload_n (k' := 47) rfl rfl rfl ?_
              refine rn_aload_n (k' := 48) rfl rfl rfl ?_
              obtain ⟨A2, hA2, hc2⟩ := h_ccellX1 (μ := (m_upd μ 1 A0)) (c := c) (s := s) (b := b) (n := n) (m := m) (p := (tkN b n m p)) hC1 c8 c9 e1 e2
              refine rn_callP (k' := 49) (y := 48) (vs := [mR 3, mR 6]) (S' := []) (v := some (mI (-1))) (h' := mkh (m_set (m_upd (m_upd μ 1 A0) 1 A2) 3 2 (eN b n m (tkN b n m (tkN b n m p)) 0 (μ 6 9 - 1))) c s) rfl rfl rfl (hc2) ?_
              show Rn PT none kX5_readPlanLine 49 [some (mR 3), some (mR 62), some (mR 6), some (mI (11)), some (mI (ix (μ 11) (tkV b n m p) k9 0)), some (mI (0))] [mI (-1)] (mkh (m_set (m_upd (m_upd μ 1 A0) 1 A2) 3 2 (eN b n m (tkN b n m (tkN b n m p)) 0 (μ 6 9 - 1))) c s) _
              refine rn_goto rfl ?_
              refine rn_istore (k' := 59) (L' := [some (mR 3), some (mR 62), some (mR 6), some (mI (11)), some (mI (ix (μ 11) (tkV b n m p) k9 0)), some (mI (-1))]) rfl rfl (Nat.le_of_ble_eq_true rfl) rfl ?_
              refine rn_iload (k' := 60) rfl rfl rfl ?_
              refine rn_iconst (k' := 61) rfl rfl ?_
              refine rn_icmp_ne (k' := 62) rfl rfl (fun hc7 => ?_) (fun hc7 => ?_)
              · exfalso; omega
              · skip
                refine rn_iconst (k' := 63) rfl rfl ?_
                refine rn_iret rfl (Or.inr (by omega)) ?_
                exact ⟨_, rfl, rfl, hA2.2.2.2.1, (FrmP.s (FrmP.u (FrmP.u FrmP.r (by decide)) (by decide)) (by decide))⟩
        · exfalso; omega
      · exfalso; omega
    · exfalso; omega
  · exfalso; omega
set_option maxHeartbeats 1000000 in
theorem k_pl11_x3 {μ : Nat → Nat → Int} {c s : Nat} {b : Nat → Int} {n m p : Nat} (hC0 : CSt μ b n m p) (h5 : μ 1 5 = 1) (hx : ix (μ 4) (μ 1 6) 16 0 = 11) {l9 : Nat} (hl : μ 62 0 = (l9 : Int)) (hl3 : ¬ l9 = 30) (hl9 : l9 ≤ 30) (c8 : 0 ≤ μ 6 8 ∧ μ 6 8 ≤ 10) (c9 : 0 ≤ μ 6 9 ∧ μ 6 9 ≤ 10) (e0 : (tkK b n m p = 1 ∧ ix (μ 4) (tkV b n m p) 16 0 = -1)) (e1 : eN b n m (tkN b n m p) 0 (μ 6 8 - 1) = 0) (e2 : eN b n m (tkN b n m (tkN b n m p)) 0 (μ 6 9 - 1) = 0) (e3 : ¬ tkK b n m (tkN b n m (tkN b n m (tkN b n m p))) = 3) {k9 : Nat} (hk9 : k9 ≤ 8) (h13 : μ 6 13 = (k9 : Int)) (d0 : ¬ ix (μ 11) (tkV b n m p) k9 0 = -1) : ∃ μ', (μ' 3 2 = 1 ∧ μ' 1 4 = ((tkP b n m (tkN b n m (tkN b n m (tkN b n m p))) : Nat) : Int) ∧ FrmP μ μ') ∧ Cl PT 59 [mR 3, mR 62, mR 6] (mkh μ c s) (fun r => r = (some (some (mI 0)), mkh μ' c s)) := by
  refine Cl.ex (g := fun μ' => (some (some (mI 0)), mkh μ' c s)) ?_
  refine ⟨_, PT_59, Nat.le_of_ble_eq_true rfl, ?_⟩
  show Rn PT none kX5_readPlanLine 0 [some (mR 3), some (mR 62), some (mR 6), none, none, none] [] (mkh μ c s) _
  refine rn_aload_n (k' := 1) rfl rfl rfl ?_
  refine rn_callP (k' := 2) (y := 46) (vs := [mR 3]) (S' := []) (v := some (mI (11))) (h' := mkh μ c s) rfl rfl rfl (by have hz := c_wordRead (μ := μ) (c := c) (s := s) h5; rw [hx] at hz; exact hz) ?_
  show Rn PT none kX5_readPlanLine 2 [some (mR 3), some (mR 62), some (mR 6), none, none, none] [mI (11)] (mkh μ c s) _
  refine rn_istore_n (k' := 3) (L' := [some (mR 3), some (mR 62), some (mR 6), some (mI (11)), none, none]) rfl rfl (Nat.le_of_ble_eq_true rfl) rfl ?_
  refine rn_iload_n (k' := 4) rfl rfl rfl ?_
  refine rn_bipush (k' := 5) rfl rfl ?_
  refine rn_icmp_ge (k' := 6) rfl rfl (fun hc1 => ?_) (fun hc1 => ?_)
  · skip
    refine rn_aload_n (k' := 11) rfl rfl rfl ?_
    refine rn_getI (k' := 12) rfl rfl K0_62 (by decide) rfl ?_
    refine rn_bipush (k' := 13) rfl rfl ?_
    refine rn_icmp_lt (k' := 14) rfl rfl (fun hc2 => ?_) (fun hc2 => ?_)
    · skip
      refine rn_iconst (k' := 19) rfl rfl ?_
      refine rn_istore (k' := 20) (L' := [some (mR 3), some (mR 62), some (mR 6), some (mI (11)), some (mI (-1)), none]) rfl rfl (Nat.le_of_ble_eq_true rfl) rfl ?_
      refine rn_iload_n (k' := 21) rfl rfl rfl ?_
      refine rn_bipush (k' := 22) rfl rfl ?_
      refine rn_icmp_eq (k' := 23) rfl rfl (fun hc3 => ?_) (fun hc3 => ?_)
      · skip
        refine rn_aload_n (k' := 30) rfl rfl rfl ?_
        refine rn_aload_n (k' := 31) rfl rfl rfl ?_
        obtain ⟨A0, hA0, hc0⟩ := g_known (μ := μ) (c := c) (s := s) hC0 e0 hk9 h13 d0
        have hC1 : CSt (m_upd μ 1 A0) b n m (tkN b n m p) := ⟨hC0.1, hC0.2.1, (tkN_b hC0.2.2.1).2.1, hA0.1, hA0.2.1, hA0.2.2.1⟩
        have ib := ix_b (f := μ 11) (v := tkV b n m p) k9 0
        refine rn_callP (k' := 32) (y := 60) (vs := [mR 3, mR 6]) (S' := []) (v := some (mI (ix (μ 11) (tkV b n m p) k9 0))) (h' := mkh (m_upd μ 1 A0) c s) rfl rfl rfl (hc0) ?_
        show Rn PT none kX5_readPlanLine 32 [some (mR 3), some (mR 62), some (mR 6), some (mI (11)), some (mI (-1)), none] [mI (ix (μ 11) (tkV b n m p) k9 0)] (mkh (m_upd μ 1 A0) c s) _
        refine rn_istore (k' := 33) (L' := [some (mR 3), some (mR 62), some (mR 6), some (mI (11)), some (mI (ix (μ 11) (tkV b n m p) k9 0)), none]) rfl rfl (Nat.le_of_ble_eq_true rfl) rfl ?_
        refine rn_iload (k' := 34) rfl rfl rfl ?_
        refine rn_iconst (k' := 35) rfl rfl ?_
        refine rn_icmp_ne (k' := 36) rfl rfl (fun hc4 => ?_) (fun hc4 => ?_)
        · skip
          refine rn_iconst (k' := 39) rfl rfl ?_
          refine rn_istore (k' := 40) (L' := [some (mR 3), some (mR 62), some (mR 6), some (mI (11)), some (mI (ix (μ 11) (tkV b n m p) k9 0)), some (mI (0))]) rfl rfl (Nat.le_of_ble_eq_true rfl) rfl ?_
          refine rn_iload_n (k' := 41) rfl rfl rfl ?_
          refine rn_bipush (k' := 42) rfl rfl ?_
          refine rn_icmp_eq (k' := 43) rfl rfl (fun hc5 => ?_) (fun hc5 => ?_)
          · exfalso; omega
          · skip
            refine rn_iload_n (k' := 44) rfl rfl rfl ?_
            refine rn_bipush (k' := 45) rfl rfl ?_
            refine rn_icmp_ne (k' := 46) rfl rfl (fun hc6 => ?_) (fun hc6 => ?_)
            · exfalso; omega
            · skip
              refine rn_aload_n (k' := 47) rfl rfl rfl ?_
              refine rn_aload_n (k' := 48) rfl rfl rfl ?_
              obtain ⟨A2, hA2, hc2⟩ := h_ccell (μ := (m_upd μ 1 A0)) (c := c) (s := s) (b := b) (n := n) (m := m) (p := (tkN b n m p)) hC1 c8 c9 e1 e2
              have hC3 : CSt (m_upd (m_upd μ 1 A0) 1 A2) b n m (tkN b n m (tkN b n m (tkN b n m p))) := ⟨hC1.1, hC1.2.1, (tkN_b (tkN_b hC1.2.2.1).2.1).2.1, hA2.1, hA2.2.1, hA2.2.2.1⟩
              have ty1 := eN_ok e1
              have ty2 := eN_ok e2
              refine rn_callP (k' := 49) (y := 48) (vs := [mR 3, mR 6]) (S' := []) (v := some (mI (10 * tkV b n m (tkN b n m (tkN b n m p)) + tkV b n m (tkN b n m p)))) (h' := mkh (m_upd (m_upd μ 1 A0) 1 A2) c s) rfl rfl rfl (hc2) ?_
              show Rn PT none kX5_readPlanLine 49 [some (mR 3), some (mR 62), some (mR 6), some (mI (11)), some (mI (ix (μ 11) (tkV b n m p) k9 0)), some (mI (0))] [mI (10 * tkV b n m (tkN b n m (tkN b n m p)) + tkV b n m (tkN b n m p))] (mkh (m_upd (m_upd μ 1 A0) 1 A2) c s) _
              refine rn_goto rfl ?_
              refine rn_istore (k' := 59) (L' := [some (mR 3), some (mR 62), some (mR 6), some (mI (11)), some (mI (ix (μ 11) (tkV b n m p) k9 0)), some (mI (10 * tkV b n m (tkN b n m (tkN b n m p)) + tkV b n m (tkN b n m p)))]) rfl rfl (Nat.le_of_ble_eq_true rfl) rfl ?_
              refine rn_iload (k' := 60) rfl rfl rfl ?_
              refine rn_iconst (k' := 61) rfl rfl ?_
              refine rn_icmp_ne (k' := 62) rfl rfl (fun hc7 => ?_) (fun hc7 => ?_)
              · skip
                refine rn_aload_n (k' := 65) rfl rfl rfl ?_
                refine rn_getR (k' := 66) rfl rfl K0_62 (by decide) rfl R0_62_1 ?_
                refine rn_aload_n (k' := 67) rfl rfl rfl ?_
                refine rn_getI (k' := 68) rfl rfl K0_62 (by decide) rfl ?_
                show Rn PT none kX5_readPlanLine 68 [some (mR 3), some (mR 62), some (mR 6), some (mI (11)), some (mI (ix (μ 11) (tkV b n m p) k9 0)), some (mI (10 * tkV b n m (tkN b n m (tkN b n m p)) + tkV b n m (tkN b n m p)))] [mI (μ 62 0), mR 63] (mkh (m_upd (m_upd μ 1 A0) 1 A2) c s) _
                refine rn_iload_n (k' := 69) rfl rfl rfl ?_
                refine rn_iastore (k' := 70) rfl rfl K0_63 (by omega) (by omega) ?_
                refine rn_aload_n (k' := 71) rfl rfl rfl ?_
                refine rn_getR (k' := 72) rfl rfl K0_62 (by decide) rfl R0_62_2 ?_
                refine rn_aload_n (k' := 73) rfl rfl rfl ?_
                refine rn_getI (k' := 74) rfl rfl K0_62 (by decide) rfl ?_
                show Rn PT none kX5_readPlanLine 74 [some (mR 3), some (mR 62), some (mR 6), some (mI (11)), some (mI (ix (μ 11) (tkV b n m p) k9 0)), some (mI (10 * tkV b n m (tkN b n m (tkN b n m p)) + tkV b n m (tkN b n m p)))] [mI (μ 62 0), mR 64] (mkh (m_set (m_upd (m_upd μ 1 A0) 1 A2) 63 ((μ 62 0).toNat) (11)) c s) _
                refine rn_iload (k' := 75) rfl rfl rfl ?_
                refine rn_iastore (k' := 76) rfl rfl K0_64 (by omega) (by omega) ?_
                refine rn_aload_n (k' := 77) rfl rfl rfl ?_
                refine rn_getR (k' := 78) rfl rfl K0_62 (by decide) rfl R0_62_3 ?_
                refine rn_aload_n (k' := 79) rfl rfl rfl ?_
                refine rn_getI (k' := 80) rfl rfl K0_62 (by decide) rfl ?_
                show Rn PT none kX5_readPlanLine 80 [some (mR 3), some (mR 62), some (mR 6), some (mI (11)), some (mI (ix (μ 11) (tkV b n m p) k9 0)), some (mI (10 * tkV b n m (tkN b n m (tkN b n m p)) + tkV b n m (tkN b n m p)))] [mI (μ 62 0), mR 65] (mkh (m_set (m_set (m_upd (m_upd μ 1 A0) 1 A2) 63 ((μ 62 0).toNat) (11)) 64 ((μ 62 0).toNat) (ix (μ 11) (tkV b n m p) k9 0)) c s) _
                refine rn_iload (k' := 81) rfl rfl rfl ?_
                refine rn_iastore (k' := 82) rfl rfl K0_65 (by omega) (by omega) ?_
                refine rn_aload_n (k' := 83) rfl rfl rfl ?_
                obtain ⟨A3, hA3, hc3⟩ := g_endX (μ := (m_set (m_set (m_set (m_upd (m_upd μ 1 A0) 1 A2) 63 ((μ 62 0).toNat) (11)) 64 ((μ 62 0).toNat) (ix (μ 11) (tkV b n m p) k9 0)) 65 ((μ 62 0).toNat) (10 * tkV b n m (tkN b n m (tkN b n m p)) + tkV b n m (tkN b n m p)))) (c := c) (s := s) (b := b) (n := n) (m := m) (p := (tkN b n m (tkN b n m (tkN b n m p)))) hC3 e3
                refine rn_callP (k' := 84) (y := 50) (vs := [mR 3]) (S' := []) (v := some (mI (0))) (h' := mkh (m_set (m_upd (m_set (m_set (m_set (m_upd (m_upd μ 1 A0) 1 A2) 63 ((μ 62 0).toNat) (11)) 64 ((μ 62 0).toNat) (ix (μ 11) (tkV b n m p) k9 0)) 65 ((μ 62 0).toNat) (10 * tkV b n m (tkN b n m (tkN b n m p)) + tkV b n m (tkN b n m p))) 1 A3) 3 2 (1)) c s) rfl rfl rfl (hc3) ?_
                show Rn PT none kX5_readPlanLine 84 [some (mR 3), some (mR 62), some (mR 6), some (mI (11)), some (mI (ix (μ 11) (tkV b n m p) k9 0)), some (mI (10 * tkV b n m (tkN b n m (tkN b n m p)) + tkV b n m (tkN b n m p)))] [mI (0)] (mkh (m_set (m_upd (m_set (m_set (m_set (m_upd (m_upd μ 1 A0) 1 A2) 63 ((μ 62 0).toNat) (11)) 64 ((μ 62 0).toNat) (ix (μ 11) (tkV b n m p) k9 0)) 65 ((μ 62 0).toNat) (10 * tkV b n m (tkN b n m (tkN b n m p)) + tkV b n m (tkN b n m p))) 1 A3) 3 2 (1)) c s) _
                refine rn_iret rfl (Or.inr (by omega)) ?_
                exact ⟨_, rfl, rfl, hA3.2.2.2.1, (FrmP.s (FrmP.u (FrmP.s (FrmP.s (FrmP.s (FrmP.u (FrmP.u FrmP.r (by decide)) (by decide)) (by decide)) (by decide)) (by decide)) (by decide)) (by decide))⟩
              · exfalso; omega
        · exfalso; omega
      · exfalso; omega
    · exfalso; omega
  · exfalso; omega
set_option maxHeartbeats 1000000 in
theorem k_pl11_had {μ : Nat → Nat → Int} {c s : Nat} {b : Nat → Int} {n m p : Nat} (hC0 : CSt μ b n m p) (h5 : μ 1 5 = 1) (hx : ix (μ 4) (μ 1 6) 16 0 = 11) {l9 : Nat} (hl : μ 62 0 = (l9 : Int)) (hl3 : ¬ l9 = 30) (hl9 : l9 ≤ 30) (c8 : 0 ≤ μ 6 8 ∧ μ 6 8 ≤ 10) (c9 : 0 ≤ μ 6 9 ∧ μ 6 9 ≤ 10) (e0 : (tkK b n m p = 1 ∧ ix (μ 4) (tkV b n m p) 16 0 = -1)) {k9 : Nat} (hk9 : k9 ≤ 8) (h13 : μ 6 13 = (k9 : Int)) (d0 : ix (μ 11) (tkV b n m p) k9 0 = -1) : ∃ μ', (μ' 3 2 = 3 ∧ μ' 1 4 = ((tkP b n m p : Nat) : Int) ∧ FrmP μ μ') ∧ Cl PT 59 [mR 3, mR 62, mR 6] (mkh μ c s) (fun r => r = (some (some (mI 0)), mkh μ' c s)) := by
  refine Cl.ex (g := fun μ' => (some (some (mI 0)), mkh μ' c s)) ?_
  refine ⟨_, PT_59, Nat.le_of_ble_eq_true rfl, ?_⟩
  show Rn PT none kX5_readPlanLine 0 [some (mR 3), some (mR 62), some (mR 6), none, none, none] [] (mkh μ c s) _
  refine rn_aload_n (k' := 1) rfl rfl rfl ?_
  refine rn_callP (k' := 2) (y := 46) (vs := [mR 3]) (S' := []) (v := some (mI (11))) (h' := mkh μ c s) rfl rfl rfl (by have hz := c_wordRead (μ := μ) (c := c) (s := s) h5; rw [hx] at hz; exact hz) ?_
  show Rn PT none kX5_readPlanLine 2 [some (mR 3), some (mR 62), some (mR 6), none, none, none] [mI (11)] (mkh μ c s) _
  refine rn_istore_n (k' := 3) (L' := [some (mR 3), some (mR 62), some (mR 6), some (mI (11)), none, none]) rfl rfl (Nat.le_of_ble_eq_true rfl) rfl ?_
  refine rn_iload_n (k' := 4) rfl rfl rfl ?_
  refine rn_bipush (k' := 5) rfl rfl ?_
  refine rn_icmp_ge (k' := 6) rfl rfl (fun hc1 => ?_) (fun hc1 => ?_)
  · skip
    refine rn_aload_n (k' := 11) rfl rfl rfl ?_
    refine rn_getI (k' := 12) rfl rfl K0_62 (by decide) rfl ?_
    refine rn_bipush (k' := 13) rfl rfl ?_
    refine rn_icmp_lt (k' := 14) rfl rfl (fun hc2 => ?_) (fun hc2 => ?_)
    · skip
      refine rn_iconst (k' := 19) rfl rfl ?_
      refine rn_istore (k' := 20) (L' := [some (mR 3), some (mR 62), some (mR 6), some (mI (11)), some (mI (-1)), none]) rfl rfl (Nat.le_of_ble_eq_true rfl) rfl ?_
      refine rn_iload_n (k' := 21) rfl rfl rfl ?_
      refine rn_bipush (k' := 22) rfl rfl ?_
      refine rn_icmp_eq (k' := 23) rfl rfl (fun hc3 => ?_) (fun hc3 => ?_)
      · skip
        refine rn_aload_n (k' := 30) rfl rfl rfl ?_
        refine rn_aload_n (k' := 31) rfl rfl rfl ?_
        obtain ⟨A0, hA0, hc0⟩ := g_knownX1 (μ := μ) (c := c) (s := s) hC0 e0 hk9 h13 d0
        refine rn_callP (k' := 32) (y := 60) (vs := [mR 3, mR 6]) (S' := []) (v := some (mI (-1))) (h' := mkh (m_set (m_upd μ 1 A0) 3 2 (3)) c s) rfl rfl rfl (hc0) ?_
        show Rn PT none kX5_readPlanLine 32 [some (mR 3), some (mR 62), some (mR 6), some (mI (11)), some (mI (-1)), none] [mI (-1)] (mkh (m_set (m_upd μ 1 A0) 3 2 (3)) c s) _
        refine rn_istore (k' := 33) (L' := [some (mR 3), some (mR 62), some (mR 6), some (mI (11)), some (mI (-1)), none]) rfl rfl (Nat.le_of_ble_eq_true rfl) rfl ?_
        refine rn_iload (k' := 34) rfl rfl rfl ?_
        refine rn_iconst (k' := 35) rfl rfl ?_
        refine rn_icmp_ne (k' := 36) rfl rfl (fun hc4 => ?_) (fun hc4 => ?_)
        · exfalso; omega
        · skip
          refine rn_iconst (k' := 37) rfl rfl ?_
          refine rn_iret rfl (Or.inr (by omega)) ?_
          exact ⟨_, rfl, rfl, hA0.2.2.2.1, (FrmP.s (FrmP.u FrmP.r (by decide)) (by decide))⟩
      · exfalso; omega
    · exfalso; omega
  · exfalso; omega
set_option maxHeartbeats 1000000 in
theorem k_pl11_full {μ : Nat → Nat → Int} {c s : Nat} {b : Nat → Int} {n m p : Nat} (hC0 : CSt μ b n m p) (h5 : μ 1 5 = 1) (hx : ix (μ 4) (μ 1 6) 16 0 = 11) {l9 : Nat} (hl : μ 62 0 = (l9 : Int)) (hl3 : l9 = 30) (hl9 : l9 ≤ 30) : ∃ μ', (μ' 3 2 = 4 ∧ μ' 1 4 = μ 1 4 ∧ FrmP μ μ') ∧ Cl PT 59 [mR 3, mR 62, mR 6] (mkh μ c s) (fun r => r = (some (some (mI 0)), mkh μ' c s)) := by
  refine Cl.ex (g := fun μ' => (some (some (mI 0)), mkh μ' c s)) ?_
  refine ⟨_, PT_59, Nat.le_of_ble_eq_true rfl, ?_⟩
  show Rn PT none kX5_readPlanLine 0 [some (mR 3), some (mR 62), some (mR 6), none, none, none] [] (mkh μ c s) _
  refine rn_aload_n (k' := 1) rfl rfl rfl ?_
  refine rn_callP (k' := 2) (y := 46) (vs := [mR 3]) (S' := []) (v := some (mI (11))) (h' := mkh μ c s) rfl rfl rfl (by have hz := c_wordRead (μ := μ) (c := c) (s := s) h5; rw [hx] at hz; exact hz) ?_
  show Rn PT none kX5_readPlanLine 2 [some (mR 3), some (mR 62), some (mR 6), none, none, none] [mI (11)] (mkh μ c s) _
  refine rn_istore_n (k' := 3) (L' := [some (mR 3), some (mR 62), some (mR 6), some (mI (11)), none, none]) rfl rfl (Nat.le_of_ble_eq_true rfl) rfl ?_
  refine rn_iload_n (k' := 4) rfl rfl rfl ?_
  refine rn_bipush (k' := 5) rfl rfl ?_
  refine rn_icmp_ge (k' := 6) rfl rfl (fun hc1 => ?_) (fun hc1 => ?_)
  · skip
    refine rn_aload_n (k' := 11) rfl rfl rfl ?_
    refine rn_getI (k' := 12) rfl rfl K0_62 (by decide) rfl ?_
    refine rn_bipush (k' := 13) rfl rfl ?_
    refine rn_icmp_lt (k' := 14) rfl rfl (fun hc2 => ?_) (fun hc2 => ?_)
    · exfalso; omega
    · skip
      refine rn_aload_n (k' := 15) rfl rfl rfl ?_
      refine rn_iconst (k' := 16) rfl rfl ?_
      refine rn_callP (k' := 17) (y := 45) (vs := [mR 3, mI (4)]) (S' := []) (v := some (mI (0))) (h' := mkh (m_set μ 3 2 (4)) c s) rfl rfl rfl (g_fail (μ := μ) (e := 4)) ?_
      show Rn PT none kX5_readPlanLine 17 [some (mR 3), some (mR 62), some (mR 6), some (mI (11)), none, none] [mI (0)] (mkh (m_set μ 3 2 (4)) c s) _
      refine rn_iret rfl (Or.inr (by omega)) ?_
      exact ⟨_, rfl, rfl, rfl, (FrmP.s FrmP.r (by decide))⟩
  · exfalso; omega
set_option maxHeartbeats 1000000 in
theorem k_pl11_ok {μ : Nat → Nat → Int} {c s : Nat} {b : Nat → Int} {n m p : Nat} (hC0 : CSt μ b n m p) (h5 : μ 1 5 = 1) (hx : ix (μ 4) (μ 1 6) 16 0 = 11) {l9 : Nat} (hl : μ 62 0 = (l9 : Int)) (hl3 : ¬ l9 = 30) (hl9 : l9 ≤ 30) (c8 : 0 ≤ μ 6 8 ∧ μ 6 8 ≤ 10) (c9 : 0 ≤ μ 6 9 ∧ μ 6 9 ≤ 10) (e0 : (tkK b n m p = 1 ∧ ix (μ 4) (tkV b n m p) 16 0 = -1)) (e1 : eN b n m (tkN b n m p) 0 (μ 6 8 - 1) = 0) (e2 : eN b n m (tkN b n m (tkN b n m p)) 0 (μ 6 9 - 1) = 0) (e3 : tkK b n m (tkN b n m (tkN b n m (tkN b n m p))) = 3) {k9 : Nat} (hk9 : k9 ≤ 8) (h13 : μ 6 13 = (k9 : Int)) (d0 : ¬ ix (μ 11) (tkV b n m p) k9 0 = -1) : ∃ μ', (CSt μ' b n m (tkN b n m (tkN b n m (tkN b n m (tkN b n m p)))) ∧ FrmP μ μ' ∧ μ' 3 2 = μ 3 2 ∧ μ' 62 = μ 62 ∧ μ' 63 l9 = 11 ∧ (∀ j, ¬ j = l9 → μ' 63 j = μ 63 j) ∧ μ' 64 l9 = ix (μ 11) (tkV b n m p) k9 0 ∧ (∀ j, ¬ j = l9 → μ' 64 j = μ 64 j) ∧ μ' 65 l9 = 10 * tkV b n m (tkN b n m (tkN b n m p)) + tkV b n m (tkN b n m p) ∧ (∀ j, ¬ j = l9 → μ' 65 j = μ 65 j)) ∧ Cl PT 59 [mR 3, mR 62, mR 6] (mkh μ c s) (fun r => r = (some (some (mI 1)), mkh μ' c s)) := by
  refine Cl.ex (g := fun μ' => (some (some (mI 1)), mkh μ' c s)) ?_
  refine ⟨_, PT_59, Nat.le_of_ble_eq_true rfl, ?_⟩
  show Rn PT none kX5_readPlanLine 0 [some (mR 3), some (mR 62), some (mR 6), none, none, none] [] (mkh μ c s) _
  refine rn_aload_n (k' := 1) rfl rfl rfl ?_
  refine rn_callP (k' := 2) (y := 46) (vs := [mR 3]) (S' := []) (v := some (mI (11))) (h' := mkh μ c s) rfl rfl rfl (by have hz := c_wordRead (μ := μ) (c := c) (s := s) h5; rw [hx] at hz; exact hz) ?_
  show Rn PT none kX5_readPlanLine 2 [some (mR 3), some (mR 62), some (mR 6), none, none, none] [mI (11)] (mkh μ c s) _
  refine rn_istore_n (k' := 3) (L' := [some (mR 3), some (mR 62), some (mR 6), some (mI (11)), none, none]) rfl rfl (Nat.le_of_ble_eq_true rfl) rfl ?_
  refine rn_iload_n (k' := 4) rfl rfl rfl ?_
  refine rn_bipush (k' := 5) rfl rfl ?_
  refine rn_icmp_ge (k' := 6) rfl rfl (fun hc1 => ?_) (fun hc1 => ?_)
  · skip
    refine rn_aload_n (k' := 11) rfl rfl rfl ?_
    refine rn_getI (k' := 12) rfl rfl K0_62 (by decide) rfl ?_
    refine rn_bipush (k' := 13) rfl rfl ?_
    refine rn_icmp_lt (k' := 14) rfl rfl (fun hc2 => ?_) (fun hc2 => ?_)
    · skip
      refine rn_iconst (k' := 19) rfl rfl ?_
      refine rn_istore (k' := 20) (L' := [some (mR 3), some (mR 62), some (mR 6), some (mI (11)), some (mI (-1)), none]) rfl rfl (Nat.le_of_ble_eq_true rfl) rfl ?_
      refine rn_iload_n (k' := 21) rfl rfl rfl ?_
      refine rn_bipush (k' := 22) rfl rfl ?_
      refine rn_icmp_eq (k' := 23) rfl rfl (fun hc3 => ?_) (fun hc3 => ?_)
      · skip
        refine rn_aload_n (k' := 30) rfl rfl rfl ?_
        refine rn_aload_n (k' := 31) rfl rfl rfl ?_
        obtain ⟨A0, hA0, hc0⟩ := g_known (μ := μ) (c := c) (s := s) hC0 e0 hk9 h13 d0
        have hC1 : CSt (m_upd μ 1 A0) b n m (tkN b n m p) := ⟨hC0.1, hC0.2.1, (tkN_b hC0.2.2.1).2.1, hA0.1, hA0.2.1, hA0.2.2.1⟩
        have ib := ix_b (f := μ 11) (v := tkV b n m p) k9 0
        refine rn_callP (k' := 32) (y := 60) (vs := [mR 3, mR 6]) (S' := []) (v := some (mI (ix (μ 11) (tkV b n m p) k9 0))) (h' := mkh (m_upd μ 1 A0) c s) rfl rfl rfl (hc0) ?_
        show Rn PT none kX5_readPlanLine 32 [some (mR 3), some (mR 62), some (mR 6), some (mI (11)), some (mI (-1)), none] [mI (ix (μ 11) (tkV b n m p) k9 0)] (mkh (m_upd μ 1 A0) c s) _
        refine rn_istore (k' := 33) (L' := [some (mR 3), some (mR 62), some (mR 6), some (mI (11)), some (mI (ix (μ 11) (tkV b n m p) k9 0)), none]) rfl rfl (Nat.le_of_ble_eq_true rfl) rfl ?_
        refine rn_iload (k' := 34) rfl rfl rfl ?_
        refine rn_iconst (k' := 35) rfl rfl ?_
        refine rn_icmp_ne (k' := 36) rfl rfl (fun hc4 => ?_) (fun hc4 => ?_)
        · skip
          refine rn_iconst (k' := 39) rfl rfl ?_
          refine rn_istore (k' := 40) (L' := [some (mR 3), some (mR 62), some (mR 6), some (mI (11)), some (mI (ix (μ 11) (tkV b n m p) k9 0)), some (mI (0))]) rfl rfl (Nat.le_of_ble_eq_true rfl) rfl ?_
          refine rn_iload_n (k' := 41) rfl rfl rfl ?_
          refine rn_bipush (k' := 42) rfl rfl ?_
          refine rn_icmp_eq (k' := 43) rfl rfl (fun hc5 => ?_) (fun hc5 => ?_)
          · exfalso; omega
          · skip
            refine rn_iload_n (k' := 44) rfl rfl rfl ?_
            refine rn_bipush (k' := 45) rfl rfl ?_
            refine rn_icmp_ne (k' := 46) rfl rfl (fun hc6 => ?_) (fun hc6 => ?_)
            · exfalso; omega
            · skip
              refine rn_aload_n (k' := 47) rfl rfl rfl ?_
              refine rn_aload_n (k' := 48) rfl rfl rfl ?_
              obtain ⟨A2, hA2, hc2⟩ := h_ccell (μ := (m_upd μ 1 A0)) (c := c) (s := s) (b := b) (n := n) (m := m) (p := (tkN b n m p)) hC1 c8 c9 e1 e2
              have hC3 : CSt (m_upd (m_upd μ 1 A0) 1 A2) b n m (tkN b n m (tkN b n m (tkN b n m p))) := ⟨hC1.1, hC1.2.1, (tkN_b (tkN_b hC1.2.2.1).2.1).2.1, hA2.1, hA2.2.1, hA2.2.2.1⟩
              have ty1 := eN_ok e1
              have ty2 := eN_ok e2
              refine rn_callP (k' := 49) (y := 48) (vs := [mR 3, mR 6]) (S' := []) (v := some (mI (10 * tkV b n m (tkN b n m (tkN b n m p)) + tkV b n m (tkN b n m p)))) (h' := mkh (m_upd (m_upd μ 1 A0) 1 A2) c s) rfl rfl rfl (hc2) ?_
              show Rn PT none kX5_readPlanLine 49 [some (mR 3), some (mR 62), some (mR 6), some (mI (11)), some (mI (ix (μ 11) (tkV b n m p) k9 0)), some (mI (0))] [mI (10 * tkV b n m (tkN b n m (tkN b n m p)) + tkV b n m (tkN b n m p))] (mkh (m_upd (m_upd μ 1 A0) 1 A2) c s) _
              refine rn_goto rfl ?_
              refine rn_istore (k' := 59) (L' := [some (mR 3), some (mR 62), some (mR 6), some (mI (11)), some (mI (ix (μ 11) (tkV b n m p) k9 0)), some (mI (10 * tkV b n m (tkN b n m (tkN b n m p)) + tkV b n m (tkN b n m p)))]) rfl rfl (Nat.le_of_ble_eq_true rfl) rfl ?_
              refine rn_iload (k' := 60) rfl rfl rfl ?_
              refine rn_iconst (k' := 61) rfl rfl ?_
              refine rn_icmp_ne (k' := 62) rfl rfl (fun hc7 => ?_) (fun hc7 => ?_)
              · skip
                refine rn_aload_n (k' := 65) rfl rfl rfl ?_
                refine rn_getR (k' := 66) rfl rfl K0_62 (by decide) rfl R0_62_1 ?_
                refine rn_aload_n (k' := 67) rfl rfl rfl ?_
                refine rn_getI (k' := 68) rfl rfl K0_62 (by decide) rfl ?_
                show Rn PT none kX5_readPlanLine 68 [some (mR 3), some (mR 62), some (mR 6), some (mI (11)), some (mI (ix (μ 11) (tkV b n m p) k9 0)), some (mI (10 * tkV b n m (tkN b n m (tkN b n m p)) + tkV b n m (tkN b n m p)))] [mI (μ 62 0), mR 63] (mkh (m_upd (m_upd μ 1 A0) 1 A2) c s) _
                refine rn_iload_n (k' := 69) rfl rfl rfl ?_
                refine rn_iastore (k' := 70) rfl rfl K0_63 (by omega) (by omega) ?_
                refine rn_aload_n (k' := 71) rfl rfl rfl ?_
                refine rn_getR (k' := 72) rfl rfl K0_62 (by decide) rfl R0_62_2 ?_
                refine rn_aload_n (k' := 73) rfl rfl rfl ?_
                refine rn_getI (k' := 74) rfl rfl K0_62 (by decide) rfl ?_
                show Rn PT none kX5_readPlanLine 74 [some (mR 3), some (mR 62), some (mR 6), some (mI (11)), some (mI (ix (μ 11) (tkV b n m p) k9 0)), some (mI (10 * tkV b n m (tkN b n m (tkN b n m p)) + tkV b n m (tkN b n m p)))] [mI (μ 62 0), mR 64] (mkh (m_set (m_upd (m_upd μ 1 A0) 1 A2) 63 ((μ 62 0).toNat) (11)) c s) _
                refine rn_iload (k' := 75) rfl rfl rfl ?_
                refine rn_iastore (k' := 76) rfl rfl K0_64 (by omega) (by omega) ?_
                refine rn_aload_n (k' := 77) rfl rfl rfl ?_
                refine rn_getR (k' := 78) rfl rfl K0_62 (by decide) rfl R0_62_3 ?_
                refine rn_aload_n (k' := 79) rfl rfl rfl ?_
                refine rn_getI (k' := 80) rfl rfl K0_62 (by decide) rfl ?_
                show Rn PT none kX5_readPlanLine 80 [some (mR 3), some (mR 62), some (mR 6), some (mI (11)), some (mI (ix (μ 11) (tkV b n m p) k9 0)), some (mI (10 * tkV b n m (tkN b n m (tkN b n m p)) + tkV b n m (tkN b n m p)))] [mI (μ 62 0), mR 65] (mkh (m_set (m_set (m_upd (m_upd μ 1 A0) 1 A2) 63 ((μ 62 0).toNat) (11)) 64 ((μ 62 0).toNat) (ix (μ 11) (tkV b n m p) k9 0)) c s) _
                refine rn_iload (k' := 81) rfl rfl rfl ?_
                refine rn_iastore (k' := 82) rfl rfl K0_65 (by omega) (by omega) ?_
                refine rn_aload_n (k' := 83) rfl rfl rfl ?_
                obtain ⟨A3, hA3, hc3⟩ := g_end (μ := (m_set (m_set (m_set (m_upd (m_upd μ 1 A0) 1 A2) 63 ((μ 62 0).toNat) (11)) 64 ((μ 62 0).toNat) (ix (μ 11) (tkV b n m p) k9 0)) 65 ((μ 62 0).toNat) (10 * tkV b n m (tkN b n m (tkN b n m p)) + tkV b n m (tkN b n m p)))) (c := c) (s := s) (b := b) (n := n) (m := m) (p := (tkN b n m (tkN b n m (tkN b n m p)))) hC3 e3
                have hC4 : CSt (m_upd (m_set (m_set (m_set (m_upd (m_upd μ 1 A0) 1 A2) 63 ((μ 62 0).toNat) (11)) 64 ((μ 62 0).toNat) (ix (μ 11) (tkV b n m p) k9 0)) 65 ((μ 62 0).toNat) (10 * tkV b n m (tkN b n m (tkN b n m p)) + tkV b n m (tkN b n m p))) 1 A3) b n m (tkN b n m (tkN b n m (tkN b n m (tkN b n m p)))) := ⟨hC3.1, hC3.2.1, (tkN_b hC3.2.2.1).2.1, hA3.1, hA3.2.1, hA3.2.2.1⟩
                refine rn_callP (k' := 84) (y := 50) (vs := [mR 3]) (S' := []) (v := some (mI (1))) (h' := mkh (m_upd (m_set (m_set (m_set (m_upd (m_upd μ 1 A0) 1 A2) 63 ((μ 62 0).toNat) (11)) 64 ((μ 62 0).toNat) (ix (μ 11) (tkV b n m p) k9 0)) 65 ((μ 62 0).toNat) (10 * tkV b n m (tkN b n m (tkN b n m p)) + tkV b n m (tkN b n m p))) 1 A3) c s) rfl rfl rfl (hc3) ?_
                show Rn PT none kX5_readPlanLine 84 [some (mR 3), some (mR 62), some (mR 6), some (mI (11)), some (mI (ix (μ 11) (tkV b n m p) k9 0)), some (mI (10 * tkV b n m (tkN b n m (tkN b n m p)) + tkV b n m (tkN b n m p)))] [mI (1)] (mkh (m_upd (m_set (m_set (m_set (m_upd (m_upd μ 1 A0) 1 A2) 63 ((μ 62 0).toNat) (11)) 64 ((μ 62 0).toNat) (ix (μ 11) (tkV b n m p) k9 0)) 65 ((μ 62 0).toNat) (10 * tkV b n m (tkN b n m (tkN b n m p)) + tkV b n m (tkN b n m p))) 1 A3) c s) _
                refine rn_iret rfl (Or.inr (by omega)) ?_
                have hi9 : (μ 62 0).toNat = l9 := by omega
                exact ⟨_, rfl, hC4, (FrmP.u (FrmP.s (FrmP.s (FrmP.s (FrmP.u (FrmP.u FrmP.r (by decide)) (by decide)) (by decide)) (by decide)) (by decide)) (by decide)), rfl, rfl, set_hit hi9, (fun j hj => set_mis (by omega)), set_hit hi9, (fun j hj => set_mis (by omega)), set_hit hi9, (fun j hj => set_mis (by omega))⟩
              · exfalso; omega
        · exfalso; omega
      · exfalso; omega
    · exfalso; omega
  · exfalso; omega
set_option maxHeartbeats 1000000 in
theorem k_pl12_x0 {μ : Nat → Nat → Int} {c s : Nat} {b : Nat → Int} {n m p : Nat} (hC0 : CSt μ b n m p) (h5 : μ 1 5 = 1) (hx : ix (μ 4) (μ 1 6) 16 0 = 12) {l9 : Nat} (hl : μ 62 0 = (l9 : Int)) (hl3 : ¬ l9 = 30) (hl9 : l9 ≤ 30) (e0 : ¬ (tkK b n m p = 1 ∧ ix (μ 4) (tkV b n m p) 16 0 = -1)) : ∃ μ', (μ' 3 2 = 1 ∧ μ' 1 4 = ((tkP b n m p : Nat) : Int) ∧ FrmP μ μ') ∧ Cl PT 59 [mR 3, mR 62, mR 6] (mkh μ c s) (fun r => r = (some (some (mI 0)), mkh μ' c s)) := by
  refine Cl.ex (g := fun μ' => (some (some (mI 0)), mkh μ' c s)) ?_
  refine ⟨_, PT_59, Nat.le_of_ble_eq_true rfl, ?_⟩
  show Rn PT none kX5_readPlanLine 0 [some (mR 3), some (mR 62), some (mR 6), none, none, none] [] (mkh μ c s) _
  refine rn_aload_n (k' := 1) rfl rfl rfl ?_
  refine rn_callP (k' := 2) (y := 46) (vs := [mR 3]) (S' := []) (v := some (mI (12))) (h' := mkh μ c s) rfl rfl rfl (by have hz := c_wordRead (μ := μ) (c := c) (s := s) h5; rw [hx] at hz; exact hz) ?_
  show Rn PT none kX5_readPlanLine 2 [some (mR 3), some (mR 62), some (mR 6), none, none, none] [mI (12)] (mkh μ c s) _
  refine rn_istore_n (k' := 3) (L' := [some (mR 3), some (mR 62), some (mR 6), some (mI (12)), none, none]) rfl rfl (Nat.le_of_ble_eq_true rfl) rfl ?_
  refine rn_iload_n (k' := 4) rfl rfl rfl ?_
  refine rn_bipush (k' := 5) rfl rfl ?_
  refine rn_icmp_ge (k' := 6) rfl rfl (fun hc1 => ?_) (fun hc1 => ?_)
  · skip
    refine rn_aload_n (k' := 11) rfl rfl rfl ?_
    refine rn_getI (k' := 12) rfl rfl K0_62 (by decide) rfl ?_
    refine rn_bipush (k' := 13) rfl rfl ?_
    refine rn_icmp_lt (k' := 14) rfl rfl (fun hc2 => ?_) (fun hc2 => ?_)
    · skip
      refine rn_iconst (k' := 19) rfl rfl ?_
      refine rn_istore (k' := 20) (L' := [some (mR 3), some (mR 62), some (mR 6), some (mI (12)), some (mI (-1)), none]) rfl rfl (Nat.le_of_ble_eq_true rfl) rfl ?_
      refine rn_iload_n (k' := 21) rfl rfl rfl ?_
      refine rn_bipush (k' := 22) rfl rfl ?_
      refine rn_icmp_eq (k' := 23) rfl rfl (fun hc3 => ?_) (fun hc3 => ?_)
      · exfalso; omega
      · skip
        refine rn_iload_n (k' := 24) rfl rfl rfl ?_
        refine rn_bipush (k' := 25) rfl rfl ?_
        refine rn_icmp_eq (k' := 26) rfl rfl (fun hc4 => ?_) (fun hc4 => ?_)
        · skip
          refine rn_aload_n (k' := 30) rfl rfl rfl ?_
          refine rn_aload_n (k' := 31) rfl rfl rfl ?_
          obtain ⟨A0, hA0, hc0⟩ := g_knownX0 (μ := μ) (c := c) (s := s) hC0 e0
          refine rn_callP (k' := 32) (y := 60) (vs := [mR 3, mR 6]) (S' := []) (v := some (mI (-1))) (h' := mkh (m_set (m_upd μ 1 A0) 3 2 (1)) c s) rfl rfl rfl (hc0) ?_
          show Rn PT none kX5_readPlanLine 32 [some (mR 3), some (mR 62), some (mR 6), some (mI (12)), some (mI (-1)), none] [mI (-1)] (mkh (m_set (m_upd μ 1 A0) 3 2 (1)) c s) _
          refine rn_istore (k' := 33) (L' := [some (mR 3), some (mR 62), some (mR 6), some (mI (12)), some (mI (-1)), none]) rfl rfl (Nat.le_of_ble_eq_true rfl) rfl ?_
          refine rn_iload (k' := 34) rfl rfl rfl ?_
          refine rn_iconst (k' := 35) rfl rfl ?_
          refine rn_icmp_ne (k' := 36) rfl rfl (fun hc5 => ?_) (fun hc5 => ?_)
          · exfalso; omega
          · skip
            refine rn_iconst (k' := 37) rfl rfl ?_
            refine rn_iret rfl (Or.inr (by omega)) ?_
            exact ⟨_, rfl, rfl, hA0.2.2.2.1, (FrmP.s (FrmP.u FrmP.r (by decide)) (by decide))⟩
        · exfalso; omega
    · exfalso; omega
  · exfalso; omega
set_option maxHeartbeats 1000000 in
theorem k_pl12_x1 {μ : Nat → Nat → Int} {c s : Nat} {b : Nat → Int} {n m p : Nat} (hC0 : CSt μ b n m p) (h5 : μ 1 5 = 1) (hx : ix (μ 4) (μ 1 6) 16 0 = 12) {l9 : Nat} (hl : μ 62 0 = (l9 : Int)) (hl3 : ¬ l9 = 30) (hl9 : l9 ≤ 30) (e0 : (tkK b n m p = 1 ∧ ix (μ 4) (tkV b n m p) 16 0 = -1)) (e1 : ¬ eN b n m (tkN b n m p) 1 99 = 0) {k9 : Nat} (hk9 : k9 ≤ 8) (h13 : μ 6 13 = (k9 : Int)) (d0 : ¬ ix (μ 11) (tkV b n m p) k9 0 = -1) : ∃ μ', (μ' 3 2 = eN b n m (tkN b n m p) 1 99 ∧ μ' 1 4 = ((tkP b n m (tkN b n m p) : Nat) : Int) ∧ FrmP μ μ') ∧ Cl PT 59 [mR 3, mR 62, mR 6] (mkh μ c s) (fun r => r = (some (some (mI 0)), mkh μ' c s)) := by
  refine Cl.ex (g := fun μ' => (some (some (mI 0)), mkh μ' c s)) ?_
  refine ⟨_, PT_59, Nat.le_of_ble_eq_true rfl, ?_⟩
  show Rn PT none kX5_readPlanLine 0 [some (mR 3), some (mR 62), some (mR 6), none, none, none] [] (mkh μ c s) _
  refine rn_aload_n (k' := 1) rfl rfl rfl ?_
  refine rn_callP (k' := 2) (y := 46) (vs := [mR 3]) (S' := []) (v := some (mI (12))) (h' := mkh μ c s) rfl rfl rfl (by have hz := c_wordRead (μ := μ) (c := c) (s := s) h5; rw [hx] at hz; exact hz) ?_
  show Rn PT none kX5_readPlanLine 2 [some (mR 3), some (mR 62), some (mR 6), none, none, none] [mI (12)] (mkh μ c s) _
  refine rn_istore_n (k' := 3) (L' := [some (mR 3), some (mR 62), some (mR 6), some (mI (12)), none, none]) rfl rfl (Nat.le_of_ble_eq_true rfl) rfl ?_
  refine rn_iload_n (k' := 4) rfl rfl rfl ?_
  refine rn_bipush (k' := 5) rfl rfl ?_
  refine rn_icmp_ge (k' := 6) rfl rfl (fun hc1 => ?_) (fun hc1 => ?_)
  · skip
    refine rn_aload_n (k' := 11) rfl rfl rfl ?_
    refine rn_getI (k' := 12) rfl rfl K0_62 (by decide) rfl ?_
    refine rn_bipush (k' := 13) rfl rfl ?_
    refine rn_icmp_lt (k' := 14) rfl rfl (fun hc2 => ?_) (fun hc2 => ?_)
    · skip
      refine rn_iconst (k' := 19) rfl rfl ?_
      refine rn_istore (k' := 20) (L' := [some (mR 3), some (mR 62), some (mR 6), some (mI (12)), some (mI (-1)), none]) rfl rfl (Nat.le_of_ble_eq_true rfl) rfl ?_
      refine rn_iload_n (k' := 21) rfl rfl rfl ?_
      refine rn_bipush (k' := 22) rfl rfl ?_
      refine rn_icmp_eq (k' := 23) rfl rfl (fun hc3 => ?_) (fun hc3 => ?_)
      · exfalso; omega
      · skip
        refine rn_iload_n (k' := 24) rfl rfl rfl ?_
        refine rn_bipush (k' := 25) rfl rfl ?_
        refine rn_icmp_eq (k' := 26) rfl rfl (fun hc4 => ?_) (fun hc4 => ?_)
        · skip
          refine rn_aload_n (k' := 30) rfl rfl rfl ?_
          refine rn_aload_n (k' := 31) rfl rfl rfl ?_
          obtain ⟨A0, hA0, hc0⟩ := g_known (μ := μ) (c := c) (s := s) hC0 e0 hk9 h13 d0
          have hC1 : CSt (m_upd μ 1 A0) b n m (tkN b n m p) := ⟨hC0.1, hC0.2.1, (tkN_b hC0.2.2.1).2.1, hA0.1, hA0.2.1, hA0.2.2.1⟩
          have ib := ix_b (f := μ 11) (v := tkV b n m p) k9 0
          refine rn_callP (k' := 32) (y := 60) (vs := [mR 3, mR 6]) (S' := []) (v := some (mI (ix (μ 11) (tkV b n m p) k9 0))) (h' := mkh (m_upd μ 1 A0) c s) rfl rfl rfl (hc0) ?_
          show Rn PT none kX5_readPlanLine 32 [some (mR 3), some (mR 62), some (mR 6), some (mI (12)), some (mI (-1)), none] [mI (ix (μ 11) (tkV b n m p) k9 0)] (mkh (m_upd μ 1 A0) c s) _
          refine rn_istore (k' := 33) (L' := [some (mR 3), some (mR 62), some (mR 6), some (mI (12)), some (mI (ix (μ 11) (tkV b n m p) k9 0)), none]) rfl rfl (Nat.le_of_ble_eq_true rfl) rfl ?_
          refine rn_iload (k' := 34) rfl rfl rfl ?_
          refine rn_iconst (k' := 35) rfl rfl ?_
          refine rn_icmp_ne (k' := 36) rfl rfl (fun hc5 => ?_) (fun hc5 => ?_)
          · skip
            refine rn_iconst (k' := 39) rfl rfl ?_
            refine rn_istore (k' := 40) (L' := [some (mR 3), some (mR 62), some (mR 6), some (mI (12)), some (mI (ix (μ 11) (tkV b n m p) k9 0)), some (mI (0))]) rfl rfl (Nat.le_of_ble_eq_true rfl) rfl ?_
            refine rn_iload_n (k' := 41) rfl rfl rfl ?_
            refine rn_bipush (k' := 42) rfl rfl ?_
            refine rn_icmp_eq (k' := 43) rfl rfl (fun hc6 => ?_) (fun hc6 => ?_)
            · exfalso; omega
            · skip
              refine rn_iload_n (k' := 44) rfl rfl rfl ?_
              refine rn_bipush (k' := 45) rfl rfl ?_
              refine rn_icmp_ne (k' := 46) rfl rfl (fun hc7 => ?_) (fun hc7 => ?_)
              · skip
                refine rn_aload_n (k' := 51) rfl rfl rfl ?_
                refine rn_iload_n (k' := 52) rfl rfl rfl ?_
                refine rn_bipush (k' := 53) rfl rfl ?_
                refine rn_icmp_ne (k' := 54) rfl rfl (fun hc8 => ?_) (fun hc8 => ?_)
                · skip
                  refine rn_bipush (k' := 57) rfl rfl ?_
                  obtain ⟨A1, hA1, hc1⟩ := g_amountX (μ := (m_upd μ 1 A0)) (c := c) (s := s) (b := b) (n := n) (m := m) (p := (tkN b n m p)) (hi := 99) hC1 e1
                  refine rn_callP (k' := 58) (y := 61) (vs := [mR 3, mI (99)]) (S' := []) (v := some (mI (-1))) (h' := mkh (m_set (m_upd (m_upd μ 1 A0) 1 A1) 3 2 (eN b n m (tkN b n m p) 1 (99))) c s) rfl rfl rfl (hc1) ?_
                  show Rn PT none kX5_readPlanLine 58 [some (mR 3), some (mR 62), some (mR 6), some (mI (12)), some (mI (ix (μ 11) (tkV b n m p) k9 0)), some (mI (0))] [mI (-1)] (mkh (m_set (m_upd (m_upd μ 1 A0) 1 A1) 3 2 (eN b n m (tkN b n m p) 1 (99))) c s) _
                  refine rn_istore (k' := 59) (L' := [some (mR 3), some (mR 62), some (mR 6), some (mI (12)), some (mI (ix (μ 11) (tkV b n m p) k9 0)), some (mI (-1))]) rfl rfl (Nat.le_of_ble_eq_true rfl) rfl ?_
                  refine rn_iload (k' := 60) rfl rfl rfl ?_
                  refine rn_iconst (k' := 61) rfl rfl ?_
                  refine rn_icmp_ne (k' := 62) rfl rfl (fun hc9 => ?_) (fun hc9 => ?_)
                  · exfalso; omega
                  · skip
                    refine rn_iconst (k' := 63) rfl rfl ?_
                    refine rn_iret rfl (Or.inr (by omega)) ?_
                    exact ⟨_, rfl, rfl, hA1.2.2.2.1, (FrmP.s (FrmP.u (FrmP.u FrmP.r (by decide)) (by decide)) (by decide))⟩
                · exfalso; omega
              · exfalso; omega
          · exfalso; omega
        · exfalso; omega
    · exfalso; omega
  · exfalso; omega
set_option maxHeartbeats 1000000 in
theorem k_pl12_x2 {μ : Nat → Nat → Int} {c s : Nat} {b : Nat → Int} {n m p : Nat} (hC0 : CSt μ b n m p) (h5 : μ 1 5 = 1) (hx : ix (μ 4) (μ 1 6) 16 0 = 12) {l9 : Nat} (hl : μ 62 0 = (l9 : Int)) (hl3 : ¬ l9 = 30) (hl9 : l9 ≤ 30) (e0 : (tkK b n m p = 1 ∧ ix (μ 4) (tkV b n m p) 16 0 = -1)) (e1 : eN b n m (tkN b n m p) 1 99 = 0) (e2 : ¬ tkK b n m (tkN b n m (tkN b n m p)) = 3) {k9 : Nat} (hk9 : k9 ≤ 8) (h13 : μ 6 13 = (k9 : Int)) (d0 : ¬ ix (μ 11) (tkV b n m p) k9 0 = -1) : ∃ μ', (μ' 3 2 = 1 ∧ μ' 1 4 = ((tkP b n m (tkN b n m (tkN b n m p)) : Nat) : Int) ∧ FrmP μ μ') ∧ Cl PT 59 [mR 3, mR 62, mR 6] (mkh μ c s) (fun r => r = (some (some (mI 0)), mkh μ' c s)) := by
  refine Cl.ex (g := fun μ' => (some (some (mI 0)), mkh μ' c s)) ?_
  refine ⟨_, PT_59, Nat.le_of_ble_eq_true rfl, ?_⟩
  show Rn PT none kX5_readPlanLine 0 [some (mR 3), some (mR 62), some (mR 6), none, none, none] [] (mkh μ c s) _
  refine rn_aload_n (k' := 1) rfl rfl rfl ?_
  refine rn_callP (k' := 2) (y := 46) (vs := [mR 3]) (S' := []) (v := some (mI (12))) (h' := mkh μ c s) rfl rfl rfl (by have hz := c_wordRead (μ := μ) (c := c) (s := s) h5; rw [hx] at hz; exact hz) ?_
  show Rn PT none kX5_readPlanLine 2 [some (mR 3), some (mR 62), some (mR 6), none, none, none] [mI (12)] (mkh μ c s) _
  refine rn_istore_n (k' := 3) (L' := [some (mR 3), some (mR 62), some (mR 6), some (mI (12)), none, none]) rfl rfl (Nat.le_of_ble_eq_true rfl) rfl ?_
  refine rn_iload_n (k' := 4) rfl rfl rfl ?_
  refine rn_bipush (k' := 5) rfl rfl ?_
  refine rn_icmp_ge (k' := 6) rfl rfl (fun hc1 => ?_) (fun hc1 => ?_)
  · skip
    refine rn_aload_n (k' := 11) rfl rfl rfl ?_
    refine rn_getI (k' := 12) rfl rfl K0_62 (by decide) rfl ?_
    refine rn_bipush (k' := 13) rfl rfl ?_
    refine rn_icmp_lt (k' := 14) rfl rfl (fun hc2 => ?_) (fun hc2 => ?_)
    · skip
      refine rn_iconst (k' := 19) rfl rfl ?_
      refine rn_istore (k' := 20) (L' := [some (mR 3), some (mR 62), some (mR 6), some (mI (12)), some (mI (-1)), none]) rfl rfl (Nat.le_of_ble_eq_true rfl) rfl ?_
      refine rn_iload_n (k' := 21) rfl rfl rfl ?_
      refine rn_bipush (k' := 22) rfl rfl ?_
      refine rn_icmp_eq (k' := 23) rfl rfl (fun hc3 => ?_) (fun hc3 => ?_)
      · exfalso; omega
      · skip
        refine rn_iload_n (k' := 24) rfl rfl rfl ?_
        refine rn_bipush (k' := 25) rfl rfl ?_
        refine rn_icmp_eq (k' := 26) rfl rfl (fun hc4 => ?_) (fun hc4 => ?_)
        · skip
          refine rn_aload_n (k' := 30) rfl rfl rfl ?_
          refine rn_aload_n (k' := 31) rfl rfl rfl ?_
          obtain ⟨A0, hA0, hc0⟩ := g_known (μ := μ) (c := c) (s := s) hC0 e0 hk9 h13 d0
          have hC1 : CSt (m_upd μ 1 A0) b n m (tkN b n m p) := ⟨hC0.1, hC0.2.1, (tkN_b hC0.2.2.1).2.1, hA0.1, hA0.2.1, hA0.2.2.1⟩
          have ib := ix_b (f := μ 11) (v := tkV b n m p) k9 0
          refine rn_callP (k' := 32) (y := 60) (vs := [mR 3, mR 6]) (S' := []) (v := some (mI (ix (μ 11) (tkV b n m p) k9 0))) (h' := mkh (m_upd μ 1 A0) c s) rfl rfl rfl (hc0) ?_
          show Rn PT none kX5_readPlanLine 32 [some (mR 3), some (mR 62), some (mR 6), some (mI (12)), some (mI (-1)), none] [mI (ix (μ 11) (tkV b n m p) k9 0)] (mkh (m_upd μ 1 A0) c s) _
          refine rn_istore (k' := 33) (L' := [some (mR 3), some (mR 62), some (mR 6), some (mI (12)), some (mI (ix (μ 11) (tkV b n m p) k9 0)), none]) rfl rfl (Nat.le_of_ble_eq_true rfl) rfl ?_
          refine rn_iload (k' := 34) rfl rfl rfl ?_
          refine rn_iconst (k' := 35) rfl rfl ?_
          refine rn_icmp_ne (k' := 36) rfl rfl (fun hc5 => ?_) (fun hc5 => ?_)
          · skip
            refine rn_iconst (k' := 39) rfl rfl ?_
            refine rn_istore (k' := 40) (L' := [some (mR 3), some (mR 62), some (mR 6), some (mI (12)), some (mI (ix (μ 11) (tkV b n m p) k9 0)), some (mI (0))]) rfl rfl (Nat.le_of_ble_eq_true rfl) rfl ?_
            refine rn_iload_n (k' := 41) rfl rfl rfl ?_
            refine rn_bipush (k' := 42) rfl rfl ?_
            refine rn_icmp_eq (k' := 43) rfl rfl (fun hc6 => ?_) (fun hc6 => ?_)
            · exfalso; omega
            · skip
              refine rn_iload_n (k' := 44) rfl rfl rfl ?_
              refine rn_bipush (k' := 45) rfl rfl ?_
              refine rn_icmp_ne (k' := 46) rfl rfl (fun hc7 => ?_) (fun hc7 => ?_)
              · skip
                refine rn_aload_n (k' := 51) rfl rfl rfl ?_
                refine rn_iload_n (k' := 52) rfl rfl rfl ?_
                refine rn_bipush (k' := 53) rfl rfl ?_
                refine rn_icmp_ne (k' := 54) rfl rfl (fun hc8 => ?_) (fun hc8 => ?_)
                · skip
                  refine rn_bipush (k' := 57) rfl rfl ?_
                  obtain ⟨A1, hA1, hc1⟩ := g_amount (μ := (m_upd μ 1 A0)) (c := c) (s := s) (b := b) (n := n) (m := m) (p := (tkN b n m p)) (hi := 99) hC1 e1
                  have hC2 : CSt (m_upd (m_upd μ 1 A0) 1 A1) b n m (tkN b n m (tkN b n m p)) := ⟨hC1.1, hC1.2.1, (tkN_b hC1.2.2.1).2.1, hA1.1, hA1.2.1, hA1.2.2.1⟩
                  have ty1 := eN_ok e1
                  refine rn_callP (k' := 58) (y := 61) (vs := [mR 3, mI (99)]) (S' := []) (v := some (mI (tkV b n m (tkN b n m p)))) (h' := mkh (m_upd (m_upd μ 1 A0) 1 A1) c s) rfl rfl rfl (hc1) ?_
                  show Rn PT none kX5_readPlanLine 58 [some (mR 3), some (mR 62), some (mR 6), some (mI (12)), some (mI (ix (μ 11) (tkV b n m p) k9 0)), some (mI (0))] [mI (tkV b n m (tkN b n m p))] (mkh (m_upd (m_upd μ 1 A0) 1 A1) c s) _
                  refine rn_istore (k' := 59) (L' := [some (mR 3), some (mR 62), some (mR 6), some (mI (12)), some (mI (ix (μ 11) (tkV b n m p) k9 0)), some (mI (tkV b n m (tkN b n m p)))]) rfl rfl (Nat.le_of_ble_eq_true rfl) rfl ?_
                  refine rn_iload (k' := 60) rfl rfl rfl ?_
                  refine rn_iconst (k' := 61) rfl rfl ?_
                  refine rn_icmp_ne (k' := 62) rfl rfl (fun hc9 => ?_) (fun hc9 => ?_)
                  · skip
                    refine rn_aload_n (k' := 65) rfl rfl rfl ?_
                    refine rn_getR (k' := 66) rfl rfl K0_62 (by decide) rfl R0_62_1 ?_
                    refine rn_aload_n (k' := 67) rfl rfl rfl ?_
                    refine rn_getI (k' := 68) rfl rfl K0_62 (by decide) rfl ?_
                    show Rn PT none kX5_readPlanLine 68 [some (mR 3), some (mR 62), some (mR 6), some (mI (12)), some (mI (ix (μ 11) (tkV b n m p) k9 0)), some (mI (tkV b n m (tkN b n m p)))] [mI (μ 62 0), mR 63] (mkh (m_upd (m_upd μ 1 A0) 1 A1) c s) _
                    refine rn_iload_n (k' := 69) rfl rfl rfl ?_
                    refine rn_iastore (k' := 70) rfl rfl K0_63 (by omega) (by omega) ?_
                    refine rn_aload_n (k' := 71) rfl rfl rfl ?_
                    refine rn_getR (k' := 72) rfl rfl K0_62 (by decide) rfl R0_62_2 ?_
                    refine rn_aload_n (k' := 73) rfl rfl rfl ?_
                    refine rn_getI (k' := 74) rfl rfl K0_62 (by decide) rfl ?_
                    show Rn PT none kX5_readPlanLine 74 [some (mR 3), some (mR 62), some (mR 6), some (mI (12)), some (mI (ix (μ 11) (tkV b n m p) k9 0)), some (mI (tkV b n m (tkN b n m p)))] [mI (μ 62 0), mR 64] (mkh (m_set (m_upd (m_upd μ 1 A0) 1 A1) 63 ((μ 62 0).toNat) (12)) c s) _
                    refine rn_iload (k' := 75) rfl rfl rfl ?_
                    refine rn_iastore (k' := 76) rfl rfl K0_64 (by omega) (by omega) ?_
                    refine rn_aload_n (k' := 77) rfl rfl rfl ?_
                    refine rn_getR (k' := 78) rfl rfl K0_62 (by decide) rfl R0_62_3 ?_
                    refine rn_aload_n (k' := 79) rfl rfl rfl ?_
                    refine rn_getI (k' := 80) rfl rfl K0_62 (by decide) rfl ?_
                    show Rn PT none kX5_readPlanLine 80 [some (mR 3), some (mR 62), some (mR 6), some (mI (12)), some (mI (ix (μ 11) (tkV b n m p) k9 0)), some (mI (tkV b n m (tkN b n m p)))] [mI (μ 62 0), mR 65] (mkh (m_set (m_set (m_upd (m_upd μ 1 A0) 1 A1) 63 ((μ 62 0).toNat) (12)) 64 ((μ 62 0).toNat) (ix (μ 11) (tkV b n m p) k9 0)) c s) _
                    refine rn_iload (k' := 81) rfl rfl rfl ?_
                    refine rn_iastore (k' := 82) rfl rfl K0_65 (by omega) (by omega) ?_
                    refine rn_aload_n (k' := 83) rfl rfl rfl ?_
                    obtain ⟨A2, hA2, hc2⟩ := g_endX (μ := (m_set (m_set (m_set (m_upd (m_upd μ 1 A0) 1 A1) 63 ((μ 62 0).toNat) (12)) 64 ((μ 62 0).toNat) (ix (μ 11) (tkV b n m p) k9 0)) 65 ((μ 62 0).toNat) (tkV b n m (tkN b n m p)))) (c := c) (s := s) (b := b) (n := n) (m := m) (p := (tkN b n m (tkN b n m p))) hC2 e2
                    refine rn_callP (k' := 84) (y := 50) (vs := [mR 3]) (S' := []) (v := some (mI (0))) (h' := mkh (m_set (m_upd (m_set (m_set (m_set (m_upd (m_upd μ 1 A0) 1 A1) 63 ((μ 62 0).toNat) (12)) 64 ((μ 62 0).toNat) (ix (μ 11) (tkV b n m p) k9 0)) 65 ((μ 62 0).toNat) (tkV b n m (tkN b n m p))) 1 A2) 3 2 (1)) c s) rfl rfl rfl (hc2) ?_
                    show Rn PT none kX5_readPlanLine 84 [some (mR 3), some (mR 62), some (mR 6), some (mI (12)), some (mI (ix (μ 11) (tkV b n m p) k9 0)), some (mI (tkV b n m (tkN b n m p)))] [mI (0)] (mkh (m_set (m_upd (m_set (m_set (m_set (m_upd (m_upd μ 1 A0) 1 A1) 63 ((μ 62 0).toNat) (12)) 64 ((μ 62 0).toNat) (ix (μ 11) (tkV b n m p) k9 0)) 65 ((μ 62 0).toNat) (tkV b n m (tkN b n m p))) 1 A2) 3 2 (1)) c s) _
                    refine rn_iret rfl (Or.inr (by omega)) ?_
                    exact ⟨_, rfl, rfl, hA2.2.2.2.1, (FrmP.s (FrmP.u (FrmP.s (FrmP.s (FrmP.s (FrmP.u (FrmP.u FrmP.r (by decide)) (by decide)) (by decide)) (by decide)) (by decide)) (by decide)) (by decide))⟩
                  · exfalso; omega
                · exfalso; omega
              · exfalso; omega
          · exfalso; omega
        · exfalso; omega
    · exfalso; omega
  · exfalso; omega
set_option maxHeartbeats 1000000 in
theorem k_pl12_had {μ : Nat → Nat → Int} {c s : Nat} {b : Nat → Int} {n m p : Nat} (hC0 : CSt μ b n m p) (h5 : μ 1 5 = 1) (hx : ix (μ 4) (μ 1 6) 16 0 = 12) {l9 : Nat} (hl : μ 62 0 = (l9 : Int)) (hl3 : ¬ l9 = 30) (hl9 : l9 ≤ 30) (e0 : (tkK b n m p = 1 ∧ ix (μ 4) (tkV b n m p) 16 0 = -1)) {k9 : Nat} (hk9 : k9 ≤ 8) (h13 : μ 6 13 = (k9 : Int)) (d0 : ix (μ 11) (tkV b n m p) k9 0 = -1) : ∃ μ', (μ' 3 2 = 3 ∧ μ' 1 4 = ((tkP b n m p : Nat) : Int) ∧ FrmP μ μ') ∧ Cl PT 59 [mR 3, mR 62, mR 6] (mkh μ c s) (fun r => r = (some (some (mI 0)), mkh μ' c s)) := by
  refine Cl.ex (g := fun μ' => (some (some (mI 0)), mkh μ' c s)) ?_
  refine ⟨_, PT_59, Nat.le_of_ble_eq_true rfl, ?_⟩
  show Rn PT none kX5_readPlanLine 0 [some (mR 3), some (mR 62), some (mR 6), none, none, none] [] (mkh μ c s) _
  refine rn_aload_n (k' := 1) rfl rfl rfl ?_
  refine rn_callP (k' := 2) (y := 46) (vs := [mR 3]) (S' := []) (v := some (mI (12))) (h' := mkh μ c s) rfl rfl rfl (by have hz := c_wordRead (μ := μ) (c := c) (s := s) h5; rw [hx] at hz; exact hz) ?_
  show Rn PT none kX5_readPlanLine 2 [some (mR 3), some (mR 62), some (mR 6), none, none, none] [mI (12)] (mkh μ c s) _
  refine rn_istore_n (k' := 3) (L' := [some (mR 3), some (mR 62), some (mR 6), some (mI (12)), none, none]) rfl rfl (Nat.le_of_ble_eq_true rfl) rfl ?_
  refine rn_iload_n (k' := 4) rfl rfl rfl ?_
  refine rn_bipush (k' := 5) rfl rfl ?_
  refine rn_icmp_ge (k' := 6) rfl rfl (fun hc1 => ?_) (fun hc1 => ?_)
  · skip
    refine rn_aload_n (k' := 11) rfl rfl rfl ?_
    refine rn_getI (k' := 12) rfl rfl K0_62 (by decide) rfl ?_
    refine rn_bipush (k' := 13) rfl rfl ?_
    refine rn_icmp_lt (k' := 14) rfl rfl (fun hc2 => ?_) (fun hc2 => ?_)
    · skip
      refine rn_iconst (k' := 19) rfl rfl ?_
      refine rn_istore (k' := 20) (L' := [some (mR 3), some (mR 62), some (mR 6), some (mI (12)), some (mI (-1)), none]) rfl rfl (Nat.le_of_ble_eq_true rfl) rfl ?_
      refine rn_iload_n (k' := 21) rfl rfl rfl ?_
      refine rn_bipush (k' := 22) rfl rfl ?_
      refine rn_icmp_eq (k' := 23) rfl rfl (fun hc3 => ?_) (fun hc3 => ?_)
      · exfalso; omega
      · skip
        refine rn_iload_n (k' := 24) rfl rfl rfl ?_
        refine rn_bipush (k' := 25) rfl rfl ?_
        refine rn_icmp_eq (k' := 26) rfl rfl (fun hc4 => ?_) (fun hc4 => ?_)
        · skip
          refine rn_aload_n (k' := 30) rfl rfl rfl ?_
          refine rn_aload_n (k' := 31) rfl rfl rfl ?_
          obtain ⟨A0, hA0, hc0⟩ := g_knownX1 (μ := μ) (c := c) (s := s) hC0 e0 hk9 h13 d0
          refine rn_callP (k' := 32) (y := 60) (vs := [mR 3, mR 6]) (S' := []) (v := some (mI (-1))) (h' := mkh (m_set (m_upd μ 1 A0) 3 2 (3)) c s) rfl rfl rfl (hc0) ?_
          show Rn PT none kX5_readPlanLine 32 [some (mR 3), some (mR 62), some (mR 6), some (mI (12)), some (mI (-1)), none] [mI (-1)] (mkh (m_set (m_upd μ 1 A0) 3 2 (3)) c s) _
          refine rn_istore (k' := 33) (L' := [some (mR 3), some (mR 62), some (mR 6), some (mI (12)), some (mI (-1)), none]) rfl rfl (Nat.le_of_ble_eq_true rfl) rfl ?_
          refine rn_iload (k' := 34) rfl rfl rfl ?_
          refine rn_iconst (k' := 35) rfl rfl ?_
          refine rn_icmp_ne (k' := 36) rfl rfl (fun hc5 => ?_) (fun hc5 => ?_)
          · exfalso; omega
          · skip
            refine rn_iconst (k' := 37) rfl rfl ?_
            refine rn_iret rfl (Or.inr (by omega)) ?_
            exact ⟨_, rfl, rfl, hA0.2.2.2.1, (FrmP.s (FrmP.u FrmP.r (by decide)) (by decide))⟩
        · exfalso; omega
    · exfalso; omega
  · exfalso; omega
set_option maxHeartbeats 1000000 in
theorem k_pl12_full {μ : Nat → Nat → Int} {c s : Nat} {b : Nat → Int} {n m p : Nat} (hC0 : CSt μ b n m p) (h5 : μ 1 5 = 1) (hx : ix (μ 4) (μ 1 6) 16 0 = 12) {l9 : Nat} (hl : μ 62 0 = (l9 : Int)) (hl3 : l9 = 30) (hl9 : l9 ≤ 30) : ∃ μ', (μ' 3 2 = 4 ∧ μ' 1 4 = μ 1 4 ∧ FrmP μ μ') ∧ Cl PT 59 [mR 3, mR 62, mR 6] (mkh μ c s) (fun r => r = (some (some (mI 0)), mkh μ' c s)) := by
  refine Cl.ex (g := fun μ' => (some (some (mI 0)), mkh μ' c s)) ?_
  refine ⟨_, PT_59, Nat.le_of_ble_eq_true rfl, ?_⟩
  show Rn PT none kX5_readPlanLine 0 [some (mR 3), some (mR 62), some (mR 6), none, none, none] [] (mkh μ c s) _
  refine rn_aload_n (k' := 1) rfl rfl rfl ?_
  refine rn_callP (k' := 2) (y := 46) (vs := [mR 3]) (S' := []) (v := some (mI (12))) (h' := mkh μ c s) rfl rfl rfl (by have hz := c_wordRead (μ := μ) (c := c) (s := s) h5; rw [hx] at hz; exact hz) ?_
  show Rn PT none kX5_readPlanLine 2 [some (mR 3), some (mR 62), some (mR 6), none, none, none] [mI (12)] (mkh μ c s) _
  refine rn_istore_n (k' := 3) (L' := [some (mR 3), some (mR 62), some (mR 6), some (mI (12)), none, none]) rfl rfl (Nat.le_of_ble_eq_true rfl) rfl ?_
  refine rn_iload_n (k' := 4) rfl rfl rfl ?_
  refine rn_bipush (k' := 5) rfl rfl ?_
  refine rn_icmp_ge (k' := 6) rfl rfl (fun hc1 => ?_) (fun hc1 => ?_)
  · skip
    refine rn_aload_n (k' := 11) rfl rfl rfl ?_
    refine rn_getI (k' := 12) rfl rfl K0_62 (by decide) rfl ?_
    refine rn_bipush (k' := 13) rfl rfl ?_
    refine rn_icmp_lt (k' := 14) rfl rfl (fun hc2 => ?_) (fun hc2 => ?_)
    · exfalso; omega
    · skip
      refine rn_aload_n (k' := 15) rfl rfl rfl ?_
      refine rn_iconst (k' := 16) rfl rfl ?_
      refine rn_callP (k' := 17) (y := 45) (vs := [mR 3, mI (4)]) (S' := []) (v := some (mI (0))) (h' := mkh (m_set μ 3 2 (4)) c s) rfl rfl rfl (g_fail (μ := μ) (e := 4)) ?_
      show Rn PT none kX5_readPlanLine 17 [some (mR 3), some (mR 62), some (mR 6), some (mI (12)), none, none] [mI (0)] (mkh (m_set μ 3 2 (4)) c s) _
      refine rn_iret rfl (Or.inr (by omega)) ?_
      exact ⟨_, rfl, rfl, rfl, (FrmP.s FrmP.r (by decide))⟩
  · exfalso; omega
set_option maxHeartbeats 1000000 in
theorem k_pl12_ok {μ : Nat → Nat → Int} {c s : Nat} {b : Nat → Int} {n m p : Nat} (hC0 : CSt μ b n m p) (h5 : μ 1 5 = 1) (hx : ix (μ 4) (μ 1 6) 16 0 = 12) {l9 : Nat} (hl : μ 62 0 = (l9 : Int)) (hl3 : ¬ l9 = 30) (hl9 : l9 ≤ 30) (e0 : (tkK b n m p = 1 ∧ ix (μ 4) (tkV b n m p) 16 0 = -1)) (e1 : eN b n m (tkN b n m p) 1 99 = 0) (e2 : tkK b n m (tkN b n m (tkN b n m p)) = 3) {k9 : Nat} (hk9 : k9 ≤ 8) (h13 : μ 6 13 = (k9 : Int)) (d0 : ¬ ix (μ 11) (tkV b n m p) k9 0 = -1) : ∃ μ', (CSt μ' b n m (tkN b n m (tkN b n m (tkN b n m p))) ∧ FrmP μ μ' ∧ μ' 3 2 = μ 3 2 ∧ μ' 62 = μ 62 ∧ μ' 63 l9 = 12 ∧ (∀ j, ¬ j = l9 → μ' 63 j = μ 63 j) ∧ μ' 64 l9 = ix (μ 11) (tkV b n m p) k9 0 ∧ (∀ j, ¬ j = l9 → μ' 64 j = μ 64 j) ∧ μ' 65 l9 = tkV b n m (tkN b n m p) ∧ (∀ j, ¬ j = l9 → μ' 65 j = μ 65 j)) ∧ Cl PT 59 [mR 3, mR 62, mR 6] (mkh μ c s) (fun r => r = (some (some (mI 1)), mkh μ' c s)) := by
  refine Cl.ex (g := fun μ' => (some (some (mI 1)), mkh μ' c s)) ?_
  refine ⟨_, PT_59, Nat.le_of_ble_eq_true rfl, ?_⟩
  show Rn PT none kX5_readPlanLine 0 [some (mR 3), some (mR 62), some (mR 6), none, none, none] [] (mkh μ c s) _
  refine rn_aload_n (k' := 1) rfl rfl rfl ?_
  refine rn_callP (k' := 2) (y := 46) (vs := [mR 3]) (S' := []) (v := some (mI (12))) (h' := mkh μ c s) rfl rfl rfl (by have hz := c_wordRead (μ := μ) (c := c) (s := s) h5; rw [hx] at hz; exact hz) ?_
  show Rn PT none kX5_readPlanLine 2 [some (mR 3), some (mR 62), some (mR 6), none, none, none] [mI (12)] (mkh μ c s) _
  refine rn_istore_n (k' := 3) (L' := [some (mR 3), some (mR 62), some (mR 6), some (mI (12)), none, none]) rfl rfl (Nat.le_of_ble_eq_true rfl) rfl ?_
  refine rn_iload_n (k' := 4) rfl rfl rfl ?_
  refine rn_bipush (k' := 5) rfl rfl ?_
  refine rn_icmp_ge (k' := 6) rfl rfl (fun hc1 => ?_) (fun hc1 => ?_)
  · skip
    refine rn_aload_n (k' := 11) rfl rfl rfl ?_
    refine rn_getI (k' := 12) rfl rfl K0_62 (by decide) rfl ?_
    refine rn_bipush (k' := 13) rfl rfl ?_
    refine rn_icmp_lt (k' := 14) rfl rfl (fun hc2 => ?_) (fun hc2 => ?_)
    · skip
      refine rn_iconst (k' := 19) rfl rfl ?_
      refine rn_istore (k' := 20) (L' := [some (mR 3), some (mR 62), some (mR 6), some (mI (12)), some (mI (-1)), none]) rfl rfl (Nat.le_of_ble_eq_true rfl) rfl ?_
      refine rn_iload_n (k' := 21) rfl rfl rfl ?_
      refine rn_bipush (k' := 22) rfl rfl ?_
      refine rn_icmp_eq (k' := 23) rfl rfl (fun hc3 => ?_) (fun hc3 => ?_)
      · exfalso; omega
      · skip
        refine rn_iload_n (k' := 24) rfl rfl rfl ?_
        refine rn_bipush (k' := 25) rfl rfl ?_
        refine rn_icmp_eq (k' := 26) rfl rfl (fun hc4 => ?_) (fun hc4 => ?_)
        · skip
          refine rn_aload_n (k' := 30) rfl rfl rfl ?_
          refine rn_aload_n (k' := 31) rfl rfl rfl ?_
          obtain ⟨A0, hA0, hc0⟩ := g_known (μ := μ) (c := c) (s := s) hC0 e0 hk9 h13 d0
          have hC1 : CSt (m_upd μ 1 A0) b n m (tkN b n m p) := ⟨hC0.1, hC0.2.1, (tkN_b hC0.2.2.1).2.1, hA0.1, hA0.2.1, hA0.2.2.1⟩
          have ib := ix_b (f := μ 11) (v := tkV b n m p) k9 0
          refine rn_callP (k' := 32) (y := 60) (vs := [mR 3, mR 6]) (S' := []) (v := some (mI (ix (μ 11) (tkV b n m p) k9 0))) (h' := mkh (m_upd μ 1 A0) c s) rfl rfl rfl (hc0) ?_
          show Rn PT none kX5_readPlanLine 32 [some (mR 3), some (mR 62), some (mR 6), some (mI (12)), some (mI (-1)), none] [mI (ix (μ 11) (tkV b n m p) k9 0)] (mkh (m_upd μ 1 A0) c s) _
          refine rn_istore (k' := 33) (L' := [some (mR 3), some (mR 62), some (mR 6), some (mI (12)), some (mI (ix (μ 11) (tkV b n m p) k9 0)), none]) rfl rfl (Nat.le_of_ble_eq_true rfl) rfl ?_
          refine rn_iload (k' := 34) rfl rfl rfl ?_
          refine rn_iconst (k' := 35) rfl rfl ?_
          refine rn_icmp_ne (k' := 36) rfl rfl (fun hc5 => ?_) (fun hc5 => ?_)
          · skip
            refine rn_iconst (k' := 39) rfl rfl ?_
            refine rn_istore (k' := 40) (L' := [some (mR 3), some (mR 62), some (mR 6), some (mI (12)), some (mI (ix (μ 11) (tkV b n m p) k9 0)), some (mI (0))]) rfl rfl (Nat.le_of_ble_eq_true rfl) rfl ?_
            refine rn_iload_n (k' := 41) rfl rfl rfl ?_
            refine rn_bipush (k' := 42) rfl rfl ?_
            refine rn_icmp_eq (k' := 43) rfl rfl (fun hc6 => ?_) (fun hc6 => ?_)
            · exfalso; omega
            · skip
              refine rn_iload_n (k' := 44) rfl rfl rfl ?_
              refine rn_bipush (k' := 45) rfl rfl ?_
              refine rn_icmp_ne (k' := 46) rfl rfl (fun hc7 => ?_) (fun hc7 => ?_)
              · skip
                refine rn_aload_n (k' := 51) rfl rfl rfl ?_
                refine rn_iload_n (k' := 52) rfl rfl rfl ?_
                refine rn_bipush (k' := 53) rfl rfl ?_
                refine rn_icmp_ne (k' := 54) rfl rfl (fun hc8 => ?_) (fun hc8 => ?_)
                · skip
                  refine rn_bipush (k' := 57) rfl rfl ?_
                  obtain ⟨A1, hA1, hc1⟩ := g_amount (μ := (m_upd μ 1 A0)) (c := c) (s := s) (b := b) (n := n) (m := m) (p := (tkN b n m p)) (hi := 99) hC1 e1
                  have hC2 : CSt (m_upd (m_upd μ 1 A0) 1 A1) b n m (tkN b n m (tkN b n m p)) := ⟨hC1.1, hC1.2.1, (tkN_b hC1.2.2.1).2.1, hA1.1, hA1.2.1, hA1.2.2.1⟩
                  have ty1 := eN_ok e1
                  refine rn_callP (k' := 58) (y := 61) (vs := [mR 3, mI (99)]) (S' := []) (v := some (mI (tkV b n m (tkN b n m p)))) (h' := mkh (m_upd (m_upd μ 1 A0) 1 A1) c s) rfl rfl rfl (hc1) ?_
                  show Rn PT none kX5_readPlanLine 58 [some (mR 3), some (mR 62), some (mR 6), some (mI (12)), some (mI (ix (μ 11) (tkV b n m p) k9 0)), some (mI (0))] [mI (tkV b n m (tkN b n m p))] (mkh (m_upd (m_upd μ 1 A0) 1 A1) c s) _
                  refine rn_istore (k' := 59) (L' := [some (mR 3), some (mR 62), some (mR 6), some (mI (12)), some (mI (ix (μ 11) (tkV b n m p) k9 0)), some (mI (tkV b n m (tkN b n m p)))]) rfl rfl (Nat.le_of_ble_eq_true rfl) rfl ?_
                  refine rn_iload (k' := 60) rfl rfl rfl ?_
                  refine rn_iconst (k' := 61) rfl rfl ?_
                  refine rn_icmp_ne (k' := 62) rfl rfl (fun hc9 => ?_) (fun hc9 => ?_)
                  · skip
                    refine rn_aload_n (k' := 65) rfl rfl rfl ?_
                    refine rn_getR (k' := 66) rfl rfl K0_62 (by decide) rfl R0_62_1 ?_
                    refine rn_aload_n (k' := 67) rfl rfl rfl ?_
                    refine rn_getI (k' := 68) rfl rfl K0_62 (by decide) rfl ?_
                    show Rn PT none kX5_readPlanLine 68 [some (mR 3), some (mR 62), some (mR 6), some (mI (12)), some (mI (ix (μ 11) (tkV b n m p) k9 0)), some (mI (tkV b n m (tkN b n m p)))] [mI (μ 62 0), mR 63] (mkh (m_upd (m_upd μ 1 A0) 1 A1) c s) _
                    refine rn_iload_n (k' := 69) rfl rfl rfl ?_
                    refine rn_iastore (k' := 70) rfl rfl K0_63 (by omega) (by omega) ?_
                    refine rn_aload_n (k' := 71) rfl rfl rfl ?_
                    refine rn_getR (k' := 72) rfl rfl K0_62 (by decide) rfl R0_62_2 ?_
                    refine rn_aload_n (k' := 73) rfl rfl rfl ?_
                    refine rn_getI (k' := 74) rfl rfl K0_62 (by decide) rfl ?_
                    show Rn PT none kX5_readPlanLine 74 [some (mR 3), some (mR 62), some (mR 6), some (mI (12)), some (mI (ix (μ 11) (tkV b n m p) k9 0)), some (mI (tkV b n m (tkN b n m p)))] [mI (μ 62 0), mR 64] (mkh (m_set (m_upd (m_upd μ 1 A0) 1 A1) 63 ((μ 62 0).toNat) (12)) c s) _
                    refine rn_iload (k' := 75) rfl rfl rfl ?_
                    refine rn_iastore (k' := 76) rfl rfl K0_64 (by omega) (by omega) ?_
                    refine rn_aload_n (k' := 77) rfl rfl rfl ?_
                    refine rn_getR (k' := 78) rfl rfl K0_62 (by decide) rfl R0_62_3 ?_
                    refine rn_aload_n (k' := 79) rfl rfl rfl ?_
                    refine rn_getI (k' := 80) rfl rfl K0_62 (by decide) rfl ?_
                    show Rn PT none kX5_readPlanLine 80 [some (mR 3), some (mR 62), some (mR 6), some (mI (12)), some (mI (ix (μ 11) (tkV b n m p) k9 0)), some (mI (tkV b n m (tkN b n m p)))] [mI (μ 62 0), mR 65] (mkh (m_set (m_set (m_upd (m_upd μ 1 A0) 1 A1) 63 ((μ 62 0).toNat) (12)) 64 ((μ 62 0).toNat) (ix (μ 11) (tkV b n m p) k9 0)) c s) _
                    refine rn_iload (k' := 81) rfl rfl rfl ?_
                    refine rn_iastore (k' := 82) rfl rfl K0_65 (by omega) (by omega) ?_
                    refine rn_aload_n (k' := 83) rfl rfl rfl ?_
                    obtain ⟨A2, hA2, hc2⟩ := g_end (μ := (m_set (m_set (m_set (m_upd (m_upd μ 1 A0) 1 A1) 63 ((μ 62 0).toNat) (12)) 64 ((μ 62 0).toNat) (ix (μ 11) (tkV b n m p) k9 0)) 65 ((μ 62 0).toNat) (tkV b n m (tkN b n m p)))) (c := c) (s := s) (b := b) (n := n) (m := m) (p := (tkN b n m (tkN b n m p))) hC2 e2
                    have hC3 : CSt (m_upd (m_set (m_set (m_set (m_upd (m_upd μ 1 A0) 1 A1) 63 ((μ 62 0).toNat) (12)) 64 ((μ 62 0).toNat) (ix (μ 11) (tkV b n m p) k9 0)) 65 ((μ 62 0).toNat) (tkV b n m (tkN b n m p))) 1 A2) b n m (tkN b n m (tkN b n m (tkN b n m p))) := ⟨hC2.1, hC2.2.1, (tkN_b hC2.2.2.1).2.1, hA2.1, hA2.2.1, hA2.2.2.1⟩
                    refine rn_callP (k' := 84) (y := 50) (vs := [mR 3]) (S' := []) (v := some (mI (1))) (h' := mkh (m_upd (m_set (m_set (m_set (m_upd (m_upd μ 1 A0) 1 A1) 63 ((μ 62 0).toNat) (12)) 64 ((μ 62 0).toNat) (ix (μ 11) (tkV b n m p) k9 0)) 65 ((μ 62 0).toNat) (tkV b n m (tkN b n m p))) 1 A2) c s) rfl rfl rfl (hc2) ?_
                    show Rn PT none kX5_readPlanLine 84 [some (mR 3), some (mR 62), some (mR 6), some (mI (12)), some (mI (ix (μ 11) (tkV b n m p) k9 0)), some (mI (tkV b n m (tkN b n m p)))] [mI (1)] (mkh (m_upd (m_set (m_set (m_set (m_upd (m_upd μ 1 A0) 1 A1) 63 ((μ 62 0).toNat) (12)) 64 ((μ 62 0).toNat) (ix (μ 11) (tkV b n m p) k9 0)) 65 ((μ 62 0).toNat) (tkV b n m (tkN b n m p))) 1 A2) c s) _
                    refine rn_iret rfl (Or.inr (by omega)) ?_
                    have hi9 : (μ 62 0).toNat = l9 := by omega
                    exact ⟨_, rfl, hC3, (FrmP.u (FrmP.s (FrmP.s (FrmP.s (FrmP.u (FrmP.u FrmP.r (by decide)) (by decide)) (by decide)) (by decide)) (by decide)) (by decide)), rfl, rfl, set_hit hi9, (fun j hj => set_mis (by omega)), set_hit hi9, (fun j hj => set_mis (by omega)), set_hit hi9, (fun j hj => set_mis (by omega))⟩
                  · exfalso; omega
                · exfalso; omega
              · exfalso; omega
          · exfalso; omega
        · exfalso; omega
    · exfalso; omega
  · exfalso; omega
set_option maxHeartbeats 1000000 in
theorem k_pl13_x0 {μ : Nat → Nat → Int} {c s : Nat} {b : Nat → Int} {n m p : Nat} (hC0 : CSt μ b n m p) (h5 : μ 1 5 = 1) (hx : ix (μ 4) (μ 1 6) 16 0 = 13) {l9 : Nat} (hl : μ 62 0 = (l9 : Int)) (hl3 : ¬ l9 = 30) (hl9 : l9 ≤ 30) (e0 : ¬ (tkK b n m p = 1 ∧ ix (μ 4) (tkV b n m p) 16 0 = -1)) : ∃ μ', (μ' 3 2 = 1 ∧ μ' 1 4 = ((tkP b n m p : Nat) : Int) ∧ FrmP μ μ') ∧ Cl PT 59 [mR 3, mR 62, mR 6] (mkh μ c s) (fun r => r = (some (some (mI 0)), mkh μ' c s)) := by
  refine Cl.ex (g := fun μ' => (some (some (mI 0)), mkh μ' c s)) ?_
  refine ⟨_, PT_59, Nat.le_of_ble_eq_true rfl, ?_⟩
  show Rn PT none kX5_readPlanLine 0 [some (mR 3), some (mR 62), some (mR 6), none, none, none] [] (mkh μ c s) _
  refine rn_aload_n (k' := 1) rfl rfl rfl ?_
  refine rn_callP (k' := 2) (y := 46) (vs := [mR 3]) (S' := []) (v := some (mI (13))) (h' := mkh μ c s) rfl rfl rfl (by have hz := c_wordRead (μ := μ) (c := c) (s := s) h5; rw [hx] at hz; exact hz) ?_
  show Rn PT none kX5_readPlanLine 2 [some (mR 3), some (mR 62), some (mR 6), none, none, none] [mI (13)] (mkh μ c s) _
  refine rn_istore_n (k' := 3) (L' := [some (mR 3), some (mR 62), some (mR 6), some (mI (13)), none, none]) rfl rfl (Nat.le_of_ble_eq_true rfl) rfl ?_
  refine rn_iload_n (k' := 4) rfl rfl rfl ?_
  refine rn_bipush (k' := 5) rfl rfl ?_
  refine rn_icmp_ge (k' := 6) rfl rfl (fun hc1 => ?_) (fun hc1 => ?_)
  · skip
    refine rn_aload_n (k' := 11) rfl rfl rfl ?_
    refine rn_getI (k' := 12) rfl rfl K0_62 (by decide) rfl ?_
    refine rn_bipush (k' := 13) rfl rfl ?_
    refine rn_icmp_lt (k' := 14) rfl rfl (fun hc2 => ?_) (fun hc2 => ?_)
    · skip
      refine rn_iconst (k' := 19) rfl rfl ?_
      refine rn_istore (k' := 20) (L' := [some (mR 3), some (mR 62), some (mR 6), some (mI (13)), some (mI (-1)), none]) rfl rfl (Nat.le_of_ble_eq_true rfl) rfl ?_
      refine rn_iload_n (k' := 21) rfl rfl rfl ?_
      refine rn_bipush (k' := 22) rfl rfl ?_
      refine rn_icmp_eq (k' := 23) rfl rfl (fun hc3 => ?_) (fun hc3 => ?_)
      · exfalso; omega
      · skip
        refine rn_iload_n (k' := 24) rfl rfl rfl ?_
        refine rn_bipush (k' := 25) rfl rfl ?_
        refine rn_icmp_eq (k' := 26) rfl rfl (fun hc4 => ?_) (fun hc4 => ?_)
        · exfalso; omega
        · skip
          refine rn_iload_n (k' := 27) rfl rfl rfl ?_
          refine rn_bipush (k' := 28) rfl rfl ?_
          refine rn_icmp_ne (k' := 29) rfl rfl (fun hc5 => ?_) (fun hc5 => ?_)
          · exfalso; omega
          · skip
            refine rn_aload_n (k' := 30) rfl rfl rfl ?_
            refine rn_aload_n (k' := 31) rfl rfl rfl ?_
            obtain ⟨A0, hA0, hc0⟩ := g_knownX0 (μ := μ) (c := c) (s := s) hC0 e0
            refine rn_callP (k' := 32) (y := 60) (vs := [mR 3, mR 6]) (S' := []) (v := some (mI (-1))) (h' := mkh (m_set (m_upd μ 1 A0) 3 2 (1)) c s) rfl rfl rfl (hc0) ?_
            show Rn PT none kX5_readPlanLine 32 [some (mR 3), some (mR 62), some (mR 6), some (mI (13)), some (mI (-1)), none] [mI (-1)] (mkh (m_set (m_upd μ 1 A0) 3 2 (1)) c s) _
            refine rn_istore (k' := 33) (L' := [some (mR 3), some (mR 62), some (mR 6), some (mI (13)), some (mI (-1)), none]) rfl rfl (Nat.le_of_ble_eq_true rfl) rfl ?_
            refine rn_iload (k' := 34) rfl rfl rfl ?_
            refine rn_iconst (k' := 35) rfl rfl ?_
            refine rn_icmp_ne (k' := 36) rfl rfl (fun hc6 => ?_) (fun hc6 => ?_)
            · exfalso; omega
            · skip
              refine rn_iconst (k' := 37) rfl rfl ?_
              refine rn_iret rfl (Or.inr (by omega)) ?_
              exact ⟨_, rfl, rfl, hA0.2.2.2.1, (FrmP.s (FrmP.u FrmP.r (by decide)) (by decide))⟩
    · exfalso; omega
  · exfalso; omega
set_option maxHeartbeats 1000000 in
theorem k_pl13_x1 {μ : Nat → Nat → Int} {c s : Nat} {b : Nat → Int} {n m p : Nat} (hC0 : CSt μ b n m p) (h5 : μ 1 5 = 1) (hx : ix (μ 4) (μ 1 6) 16 0 = 13) {l9 : Nat} (hl : μ 62 0 = (l9 : Int)) (hl3 : ¬ l9 = 30) (hl9 : l9 ≤ 30) (e0 : (tkK b n m p = 1 ∧ ix (μ 4) (tkV b n m p) 16 0 = -1)) (e1 : ¬ eN b n m (tkN b n m p) 1 99 = 0) {k9 : Nat} (hk9 : k9 ≤ 8) (h13 : μ 6 13 = (k9 : Int)) (d0 : ¬ ix (μ 11) (tkV b n m p) k9 0 = -1) : ∃ μ', (μ' 3 2 = eN b n m (tkN b n m p) 1 99 ∧ μ' 1 4 = ((tkP b n m (tkN b n m p) : Nat) : Int) ∧ FrmP μ μ') ∧ Cl PT 59 [mR 3, mR 62, mR 6] (mkh μ c s) (fun r => r = (some (some (mI 0)), mkh μ' c s)) := by
  refine Cl.ex (g := fun μ' => (some (some (mI 0)), mkh μ' c s)) ?_
  refine ⟨_, PT_59, Nat.le_of_ble_eq_true rfl, ?_⟩
  show Rn PT none kX5_readPlanLine 0 [some (mR 3), some (mR 62), some (mR 6), none, none, none] [] (mkh μ c s) _
  refine rn_aload_n (k' := 1) rfl rfl rfl ?_
  refine rn_callP (k' := 2) (y := 46) (vs := [mR 3]) (S' := []) (v := some (mI (13))) (h' := mkh μ c s) rfl rfl rfl (by have hz := c_wordRead (μ := μ) (c := c) (s := s) h5; rw [hx] at hz; exact hz) ?_
  show Rn PT none kX5_readPlanLine 2 [some (mR 3), some (mR 62), some (mR 6), none, none, none] [mI (13)] (mkh μ c s) _
  refine rn_istore_n (k' := 3) (L' := [some (mR 3), some (mR 62), some (mR 6), some (mI (13)), none, none]) rfl rfl (Nat.le_of_ble_eq_true rfl) rfl ?_
  refine rn_iload_n (k' := 4) rfl rfl rfl ?_
  refine rn_bipush (k' := 5) rfl rfl ?_
  refine rn_icmp_ge (k' := 6) rfl rfl (fun hc1 => ?_) (fun hc1 => ?_)
  · skip
    refine rn_aload_n (k' := 11) rfl rfl rfl ?_
    refine rn_getI (k' := 12) rfl rfl K0_62 (by decide) rfl ?_
    refine rn_bipush (k' := 13) rfl rfl ?_
    refine rn_icmp_lt (k' := 14) rfl rfl (fun hc2 => ?_) (fun hc2 => ?_)
    · skip
      refine rn_iconst (k' := 19) rfl rfl ?_
      refine rn_istore (k' := 20) (L' := [some (mR 3), some (mR 62), some (mR 6), some (mI (13)), some (mI (-1)), none]) rfl rfl (Nat.le_of_ble_eq_true rfl) rfl ?_
      refine rn_iload_n (k' := 21) rfl rfl rfl ?_
      refine rn_bipush (k' := 22) rfl rfl ?_
      refine rn_icmp_eq (k' := 23) rfl rfl (fun hc3 => ?_) (fun hc3 => ?_)
      · exfalso; omega
      · skip
        refine rn_iload_n (k' := 24) rfl rfl rfl ?_
        refine rn_bipush (k' := 25) rfl rfl ?_
        refine rn_icmp_eq (k' := 26) rfl rfl (fun hc4 => ?_) (fun hc4 => ?_)
        · exfalso; omega
        · skip
          refine rn_iload_n (k' := 27) rfl rfl rfl ?_
          refine rn_bipush (k' := 28) rfl rfl ?_
          refine rn_icmp_ne (k' := 29) rfl rfl (fun hc5 => ?_) (fun hc5 => ?_)
          · exfalso; omega
          · skip
            refine rn_aload_n (k' := 30) rfl rfl rfl ?_
            refine rn_aload_n (k' := 31) rfl rfl rfl ?_
            obtain ⟨A0, hA0, hc0⟩ := g_known (μ := μ) (c := c) (s := s) hC0 e0 hk9 h13 d0
            have hC1 : CSt (m_upd μ 1 A0) b n m (tkN b n m p) := ⟨hC0.1, hC0.2.1, (tkN_b hC0.2.2.1).2.1, hA0.1, hA0.2.1, hA0.2.2.1⟩
            have ib := ix_b (f := μ 11) (v := tkV b n m p) k9 0
            refine rn_callP (k' := 32) (y := 60) (vs := [mR 3, mR 6]) (S' := []) (v := some (mI (ix (μ 11) (tkV b n m p) k9 0))) (h' := mkh (m_upd μ 1 A0) c s) rfl rfl rfl (hc0) ?_
            show Rn PT none kX5_readPlanLine 32 [some (mR 3), some (mR 62), some (mR 6), some (mI (13)), some (mI (-1)), none] [mI (ix (μ 11) (tkV b n m p) k9 0)] (mkh (m_upd μ 1 A0) c s) _
            refine rn_istore (k' := 33) (L' := [some (mR 3), some (mR 62), some (mR 6), some (mI (13)), some (mI (ix (μ 11) (tkV b n m p) k9 0)), none]) rfl rfl (Nat.le_of_ble_eq_true rfl) rfl ?_
            refine rn_iload (k' := 34) rfl rfl rfl ?_
            refine rn_iconst (k' := 35) rfl rfl ?_
            refine rn_icmp_ne (k' := 36) rfl rfl (fun hc6 => ?_) (fun hc6 => ?_)
            · skip
              refine rn_iconst (k' := 39) rfl rfl ?_
              refine rn_istore (k' := 40) (L' := [some (mR 3), some (mR 62), some (mR 6), some (mI (13)), some (mI (ix (μ 11) (tkV b n m p) k9 0)), some (mI (0))]) rfl rfl (Nat.le_of_ble_eq_true rfl) rfl ?_
              refine rn_iload_n (k' := 41) rfl rfl rfl ?_
              refine rn_bipush (k' := 42) rfl rfl ?_
              refine rn_icmp_eq (k' := 43) rfl rfl (fun hc7 => ?_) (fun hc7 => ?_)
              · exfalso; omega
              · skip
                refine rn_iload_n (k' := 44) rfl rfl rfl ?_
                refine rn_bipush (k' := 45) rfl rfl ?_
                refine rn_icmp_ne (k' := 46) rfl rfl (fun hc8 => ?_) (fun hc8 => ?_)
                · skip
                  refine rn_aload_n (k' := 51) rfl rfl rfl ?_
                  refine rn_iload_n (k' := 52) rfl rfl rfl ?_
                  refine rn_bipush (k' := 53) rfl rfl ?_
                  refine rn_icmp_ne (k' := 54) rfl rfl (fun hc9 => ?_) (fun hc9 => ?_)
                  · skip
                    refine rn_bipush (k' := 57) rfl rfl ?_
                    obtain ⟨A1, hA1, hc1⟩ := g_amountX (μ := (m_upd μ 1 A0)) (c := c) (s := s) (b := b) (n := n) (m := m) (p := (tkN b n m p)) (hi := 99) hC1 e1
                    refine rn_callP (k' := 58) (y := 61) (vs := [mR 3, mI (99)]) (S' := []) (v := some (mI (-1))) (h' := mkh (m_set (m_upd (m_upd μ 1 A0) 1 A1) 3 2 (eN b n m (tkN b n m p) 1 (99))) c s) rfl rfl rfl (hc1) ?_
                    show Rn PT none kX5_readPlanLine 58 [some (mR 3), some (mR 62), some (mR 6), some (mI (13)), some (mI (ix (μ 11) (tkV b n m p) k9 0)), some (mI (0))] [mI (-1)] (mkh (m_set (m_upd (m_upd μ 1 A0) 1 A1) 3 2 (eN b n m (tkN b n m p) 1 (99))) c s) _
                    refine rn_istore (k' := 59) (L' := [some (mR 3), some (mR 62), some (mR 6), some (mI (13)), some (mI (ix (μ 11) (tkV b n m p) k9 0)), some (mI (-1))]) rfl rfl (Nat.le_of_ble_eq_true rfl) rfl ?_
                    refine rn_iload (k' := 60) rfl rfl rfl ?_
                    refine rn_iconst (k' := 61) rfl rfl ?_
                    refine rn_icmp_ne (k' := 62) rfl rfl (fun hc10 => ?_) (fun hc10 => ?_)
                    · exfalso; omega
                    · skip
                      refine rn_iconst (k' := 63) rfl rfl ?_
                      refine rn_iret rfl (Or.inr (by omega)) ?_
                      exact ⟨_, rfl, rfl, hA1.2.2.2.1, (FrmP.s (FrmP.u (FrmP.u FrmP.r (by decide)) (by decide)) (by decide))⟩
                  · exfalso; omega
                · exfalso; omega
            · exfalso; omega
    · exfalso; omega
  · exfalso; omega
set_option maxHeartbeats 1000000 in
theorem k_pl13_x2 {μ : Nat → Nat → Int} {c s : Nat} {b : Nat → Int} {n m p : Nat} (hC0 : CSt μ b n m p) (h5 : μ 1 5 = 1) (hx : ix (μ 4) (μ 1 6) 16 0 = 13) {l9 : Nat} (hl : μ 62 0 = (l9 : Int)) (hl3 : ¬ l9 = 30) (hl9 : l9 ≤ 30) (e0 : (tkK b n m p = 1 ∧ ix (μ 4) (tkV b n m p) 16 0 = -1)) (e1 : eN b n m (tkN b n m p) 1 99 = 0) (e2 : ¬ tkK b n m (tkN b n m (tkN b n m p)) = 3) {k9 : Nat} (hk9 : k9 ≤ 8) (h13 : μ 6 13 = (k9 : Int)) (d0 : ¬ ix (μ 11) (tkV b n m p) k9 0 = -1) : ∃ μ', (μ' 3 2 = 1 ∧ μ' 1 4 = ((tkP b n m (tkN b n m (tkN b n m p)) : Nat) : Int) ∧ FrmP μ μ') ∧ Cl PT 59 [mR 3, mR 62, mR 6] (mkh μ c s) (fun r => r = (some (some (mI 0)), mkh μ' c s)) := by
  refine Cl.ex (g := fun μ' => (some (some (mI 0)), mkh μ' c s)) ?_
  refine ⟨_, PT_59, Nat.le_of_ble_eq_true rfl, ?_⟩
  show Rn PT none kX5_readPlanLine 0 [some (mR 3), some (mR 62), some (mR 6), none, none, none] [] (mkh μ c s) _
  refine rn_aload_n (k' := 1) rfl rfl rfl ?_
  refine rn_callP (k' := 2) (y := 46) (vs := [mR 3]) (S' := []) (v := some (mI (13))) (h' := mkh μ c s) rfl rfl rfl (by have hz := c_wordRead (μ := μ) (c := c) (s := s) h5; rw [hx] at hz; exact hz) ?_
  show Rn PT none kX5_readPlanLine 2 [some (mR 3), some (mR 62), some (mR 6), none, none, none] [mI (13)] (mkh μ c s) _
  refine rn_istore_n (k' := 3) (L' := [some (mR 3), some (mR 62), some (mR 6), some (mI (13)), none, none]) rfl rfl (Nat.le_of_ble_eq_true rfl) rfl ?_
  refine rn_iload_n (k' := 4) rfl rfl rfl ?_
  refine rn_bipush (k' := 5) rfl rfl ?_
  refine rn_icmp_ge (k' := 6) rfl rfl (fun hc1 => ?_) (fun hc1 => ?_)
  · skip
    refine rn_aload_n (k' := 11) rfl rfl rfl ?_
    refine rn_getI (k' := 12) rfl rfl K0_62 (by decide) rfl ?_
    refine rn_bipush (k' := 13) rfl rfl ?_
    refine rn_icmp_lt (k' := 14) rfl rfl (fun hc2 => ?_) (fun hc2 => ?_)
    · skip
      refine rn_iconst (k' := 19) rfl rfl ?_
      refine rn_istore (k' := 20) (L' := [some (mR 3), some (mR 62), some (mR 6), some (mI (13)), some (mI (-1)), none]) rfl rfl (Nat.le_of_ble_eq_true rfl) rfl ?_
      refine rn_iload_n (k' := 21) rfl rfl rfl ?_
      refine rn_bipush (k' := 22) rfl rfl ?_
      refine rn_icmp_eq (k' := 23) rfl rfl (fun hc3 => ?_) (fun hc3 => ?_)
      · exfalso; omega
      · skip
        refine rn_iload_n (k' := 24) rfl rfl rfl ?_
        refine rn_bipush (k' := 25) rfl rfl ?_
        refine rn_icmp_eq (k' := 26) rfl rfl (fun hc4 => ?_) (fun hc4 => ?_)
        · exfalso; omega
        · skip
          refine rn_iload_n (k' := 27) rfl rfl rfl ?_
          refine rn_bipush (k' := 28) rfl rfl ?_
          refine rn_icmp_ne (k' := 29) rfl rfl (fun hc5 => ?_) (fun hc5 => ?_)
          · exfalso; omega
          · skip
            refine rn_aload_n (k' := 30) rfl rfl rfl ?_
            refine rn_aload_n (k' := 31) rfl rfl rfl ?_
            obtain ⟨A0, hA0, hc0⟩ := g_known (μ := μ) (c := c) (s := s) hC0 e0 hk9 h13 d0
            have hC1 : CSt (m_upd μ 1 A0) b n m (tkN b n m p) := ⟨hC0.1, hC0.2.1, (tkN_b hC0.2.2.1).2.1, hA0.1, hA0.2.1, hA0.2.2.1⟩
            have ib := ix_b (f := μ 11) (v := tkV b n m p) k9 0
            refine rn_callP (k' := 32) (y := 60) (vs := [mR 3, mR 6]) (S' := []) (v := some (mI (ix (μ 11) (tkV b n m p) k9 0))) (h' := mkh (m_upd μ 1 A0) c s) rfl rfl rfl (hc0) ?_
            show Rn PT none kX5_readPlanLine 32 [some (mR 3), some (mR 62), some (mR 6), some (mI (13)), some (mI (-1)), none] [mI (ix (μ 11) (tkV b n m p) k9 0)] (mkh (m_upd μ 1 A0) c s) _
            refine rn_istore (k' := 33) (L' := [some (mR 3), some (mR 62), some (mR 6), some (mI (13)), some (mI (ix (μ 11) (tkV b n m p) k9 0)), none]) rfl rfl (Nat.le_of_ble_eq_true rfl) rfl ?_
            refine rn_iload (k' := 34) rfl rfl rfl ?_
            refine rn_iconst (k' := 35) rfl rfl ?_
            refine rn_icmp_ne (k' := 36) rfl rfl (fun hc6 => ?_) (fun hc6 => ?_)
            · skip
              refine rn_iconst (k' := 39) rfl rfl ?_
              refine rn_istore (k' := 40) (L' := [some (mR 3), some (mR 62), some (mR 6), some (mI (13)), some (mI (ix (μ 11) (tkV b n m p) k9 0)), some (mI (0))]) rfl rfl (Nat.le_of_ble_eq_true rfl) rfl ?_
              refine rn_iload_n (k' := 41) rfl rfl rfl ?_
              refine rn_bipush (k' := 42) rfl rfl ?_
              refine rn_icmp_eq (k' := 43) rfl rfl (fun hc7 => ?_) (fun hc7 => ?_)
              · exfalso; omega
              · skip
                refine rn_iload_n (k' := 44) rfl rfl rfl ?_
                refine rn_bipush (k' := 45) rfl rfl ?_
                refine rn_icmp_ne (k' := 46) rfl rfl (fun hc8 => ?_) (fun hc8 => ?_)
                · skip
                  refine rn_aload_n (k' := 51) rfl rfl rfl ?_
                  refine rn_iload_n (k' := 52) rfl rfl rfl ?_
                  refine rn_bipush (k' := 53) rfl rfl ?_
                  refine rn_icmp_ne (k' := 54) rfl rfl (fun hc9 => ?_) (fun hc9 => ?_)
                  · skip
                    refine rn_bipush (k' := 57) rfl rfl ?_
                    obtain ⟨A1, hA1, hc1⟩ := g_amount (μ := (m_upd μ 1 A0)) (c := c) (s := s) (b := b) (n := n) (m := m) (p := (tkN b n m p)) (hi := 99) hC1 e1
                    have hC2 : CSt (m_upd (m_upd μ 1 A0) 1 A1) b n m (tkN b n m (tkN b n m p)) := ⟨hC1.1, hC1.2.1, (tkN_b hC1.2.2.1).2.1, hA1.1, hA1.2.1, hA1.2.2.1⟩
                    have ty1 := eN_ok e1
                    refine rn_callP (k' := 58) (y := 61) (vs := [mR 3, mI (99)]) (S' := []) (v := some (mI (tkV b n m (tkN b n m p)))) (h' := mkh (m_upd (m_upd μ 1 A0) 1 A1) c s) rfl rfl rfl (hc1) ?_
                    show Rn PT none kX5_readPlanLine 58 [some (mR 3), some (mR 62), some (mR 6), some (mI (13)), some (mI (ix (μ 11) (tkV b n m p) k9 0)), some (mI (0))] [mI (tkV b n m (tkN b n m p))] (mkh (m_upd (m_upd μ 1 A0) 1 A1) c s) _
                    refine rn_istore (k' := 59) (L' := [some (mR 3), some (mR 62), some (mR 6), some (mI (13)), some (mI (ix (μ 11) (tkV b n m p) k9 0)), some (mI (tkV b n m (tkN b n m p)))]) rfl rfl (Nat.le_of_ble_eq_true rfl) rfl ?_
                    refine rn_iload (k' := 60) rfl rfl rfl ?_
                    refine rn_iconst (k' := 61) rfl rfl ?_
                    refine rn_icmp_ne (k' := 62) rfl rfl (fun hc10 => ?_) (fun hc10 => ?_)
                    · skip
                      refine rn_aload_n (k' := 65) rfl rfl rfl ?_
                      refine rn_getR (k' := 66) rfl rfl K0_62 (by decide) rfl R0_62_1 ?_
                      refine rn_aload_n (k' := 67) rfl rfl rfl ?_
                      refine rn_getI (k' := 68) rfl rfl K0_62 (by decide) rfl ?_
                      show Rn PT none kX5_readPlanLine 68 [some (mR 3), some (mR 62), some (mR 6), some (mI (13)), some (mI (ix (μ 11) (tkV b n m p) k9 0)), some (mI (tkV b n m (tkN b n m p)))] [mI (μ 62 0), mR 63] (mkh (m_upd (m_upd μ 1 A0) 1 A1) c s) _
                      refine rn_iload_n (k' := 69) rfl rfl rfl ?_
                      refine rn_iastore (k' := 70) rfl rfl K0_63 (by omega) (by omega) ?_
                      refine rn_aload_n (k' := 71) rfl rfl rfl ?_
                      refine rn_getR (k' := 72) rfl rfl K0_62 (by decide) rfl R0_62_2 ?_
                      refine rn_aload_n (k' := 73) rfl rfl rfl ?_
                      refine rn_getI (k' := 74) rfl rfl K0_62 (by decide) rfl ?_
                      show Rn PT none kX5_readPlanLine 74 [some (mR 3), some (mR 62), some (mR 6), some (mI (13)), some (mI (ix (μ 11) (tkV b n m p) k9 0)), some (mI (tkV b n m (tkN b n m p)))] [mI (μ 62 0), mR 64] (mkh (m_set (m_upd (m_upd μ 1 A0) 1 A1) 63 ((μ 62 0).toNat) (13)) c s) _
                      refine rn_iload (k' := 75) rfl rfl rfl ?_
                      refine rn_iastore (k' := 76) rfl rfl K0_64 (by omega) (by omega) ?_
                      refine rn_aload_n (k' := 77) rfl rfl rfl ?_
                      refine rn_getR (k' := 78) rfl rfl K0_62 (by decide) rfl R0_62_3 ?_
                      refine rn_aload_n (k' := 79) rfl rfl rfl ?_
                      refine rn_getI (k' := 80) rfl rfl K0_62 (by decide) rfl ?_
                      show Rn PT none kX5_readPlanLine 80 [some (mR 3), some (mR 62), some (mR 6), some (mI (13)), some (mI (ix (μ 11) (tkV b n m p) k9 0)), some (mI (tkV b n m (tkN b n m p)))] [mI (μ 62 0), mR 65] (mkh (m_set (m_set (m_upd (m_upd μ 1 A0) 1 A1) 63 ((μ 62 0).toNat) (13)) 64 ((μ 62 0).toNat) (ix (μ 11) (tkV b n m p) k9 0)) c s) _
                      refine rn_iload (k' := 81) rfl rfl rfl ?_
                      refine rn_iastore (k' := 82) rfl rfl K0_65 (by omega) (by omega) ?_
                      refine rn_aload_n (k' := 83) rfl rfl rfl ?_
                      obtain ⟨A2, hA2, hc2⟩ := g_endX (μ := (m_set (m_set (m_set (m_upd (m_upd μ 1 A0) 1 A1) 63 ((μ 62 0).toNat) (13)) 64 ((μ 62 0).toNat) (ix (μ 11) (tkV b n m p) k9 0)) 65 ((μ 62 0).toNat) (tkV b n m (tkN b n m p)))) (c := c) (s := s) (b := b) (n := n) (m := m) (p := (tkN b n m (tkN b n m p))) hC2 e2
                      refine rn_callP (k' := 84) (y := 50) (vs := [mR 3]) (S' := []) (v := some (mI (0))) (h' := mkh (m_set (m_upd (m_set (m_set (m_set (m_upd (m_upd μ 1 A0) 1 A1) 63 ((μ 62 0).toNat) (13)) 64 ((μ 62 0).toNat) (ix (μ 11) (tkV b n m p) k9 0)) 65 ((μ 62 0).toNat) (tkV b n m (tkN b n m p))) 1 A2) 3 2 (1)) c s) rfl rfl rfl (hc2) ?_
                      show Rn PT none kX5_readPlanLine 84 [some (mR 3), some (mR 62), some (mR 6), some (mI (13)), some (mI (ix (μ 11) (tkV b n m p) k9 0)), some (mI (tkV b n m (tkN b n m p)))] [mI (0)] (mkh (m_set (m_upd (m_set (m_set (m_set (m_upd (m_upd μ 1 A0) 1 A1) 63 ((μ 62 0).toNat) (13)) 64 ((μ 62 0).toNat) (ix (μ 11) (tkV b n m p) k9 0)) 65 ((μ 62 0).toNat) (tkV b n m (tkN b n m p))) 1 A2) 3 2 (1)) c s) _
                      refine rn_iret rfl (Or.inr (by omega)) ?_
                      exact ⟨_, rfl, rfl, hA2.2.2.2.1, (FrmP.s (FrmP.u (FrmP.s (FrmP.s (FrmP.s (FrmP.u (FrmP.u FrmP.r (by decide)) (by decide)) (by decide)) (by decide)) (by decide)) (by decide)) (by decide))⟩
                    · exfalso; omega
                  · exfalso; omega
                · exfalso; omega
            · exfalso; omega
    · exfalso; omega
  · exfalso; omega
set_option maxHeartbeats 1000000 in
theorem k_pl13_had {μ : Nat → Nat → Int} {c s : Nat} {b : Nat → Int} {n m p : Nat} (hC0 : CSt μ b n m p) (h5 : μ 1 5 = 1) (hx : ix (μ 4) (μ 1 6) 16 0 = 13) {l9 : Nat} (hl : μ 62 0 = (l9 : Int)) (hl3 : ¬ l9 = 30) (hl9 : l9 ≤ 30) (e0 : (tkK b n m p = 1 ∧ ix (μ 4) (tkV b n m p) 16 0 = -1)) {k9 : Nat} (hk9 : k9 ≤ 8) (h13 : μ 6 13 = (k9 : Int)) (d0 : ix (μ 11) (tkV b n m p) k9 0 = -1) : ∃ μ', (μ' 3 2 = 3 ∧ μ' 1 4 = ((tkP b n m p : Nat) : Int) ∧ FrmP μ μ') ∧ Cl PT 59 [mR 3, mR 62, mR 6] (mkh μ c s) (fun r => r = (some (some (mI 0)), mkh μ' c s)) := by
  refine Cl.ex (g := fun μ' => (some (some (mI 0)), mkh μ' c s)) ?_
  refine ⟨_, PT_59, Nat.le_of_ble_eq_true rfl, ?_⟩
  show Rn PT none kX5_readPlanLine 0 [some (mR 3), some (mR 62), some (mR 6), none, none, none] [] (mkh μ c s) _
  refine rn_aload_n (k' := 1) rfl rfl rfl ?_
  refine rn_callP (k' := 2) (y := 46) (vs := [mR 3]) (S' := []) (v := some (mI (13))) (h' := mkh μ c s) rfl rfl rfl (by have hz := c_wordRead (μ := μ) (c := c) (s := s) h5; rw [hx] at hz; exact hz) ?_
  show Rn PT none kX5_readPlanLine 2 [some (mR 3), some (mR 62), some (mR 6), none, none, none] [mI (13)] (mkh μ c s) _
  refine rn_istore_n (k' := 3) (L' := [some (mR 3), some (mR 62), some (mR 6), some (mI (13)), none, none]) rfl rfl (Nat.le_of_ble_eq_true rfl) rfl ?_
  refine rn_iload_n (k' := 4) rfl rfl rfl ?_
  refine rn_bipush (k' := 5) rfl rfl ?_
  refine rn_icmp_ge (k' := 6) rfl rfl (fun hc1 => ?_) (fun hc1 => ?_)
  · skip
    refine rn_aload_n (k' := 11) rfl rfl rfl ?_
    refine rn_getI (k' := 12) rfl rfl K0_62 (by decide) rfl ?_
    refine rn_bipush (k' := 13) rfl rfl ?_
    refine rn_icmp_lt (k' := 14) rfl rfl (fun hc2 => ?_) (fun hc2 => ?_)
    · skip
      refine rn_iconst (k' := 19) rfl rfl ?_
      refine rn_istore (k' := 20) (L' := [some (mR 3), some (mR 62), some (mR 6), some (mI (13)), some (mI (-1)), none]) rfl rfl (Nat.le_of_ble_eq_true rfl) rfl ?_
      refine rn_iload_n (k' := 21) rfl rfl rfl ?_
      refine rn_bipush (k' := 22) rfl rfl ?_
      refine rn_icmp_eq (k' := 23) rfl rfl (fun hc3 => ?_) (fun hc3 => ?_)
      · exfalso; omega
      · skip
        refine rn_iload_n (k' := 24) rfl rfl rfl ?_
        refine rn_bipush (k' := 25) rfl rfl ?_
        refine rn_icmp_eq (k' := 26) rfl rfl (fun hc4 => ?_) (fun hc4 => ?_)
        · exfalso; omega
        · skip
          refine rn_iload_n (k' := 27) rfl rfl rfl ?_
          refine rn_bipush (k' := 28) rfl rfl ?_
          refine rn_icmp_ne (k' := 29) rfl rfl (fun hc5 => ?_) (fun hc5 => ?_)
          · exfalso; omega
          · skip
            refine rn_aload_n (k' := 30) rfl rfl rfl ?_
            refine rn_aload_n (k' := 31) rfl rfl rfl ?_
            obtain ⟨A0, hA0, hc0⟩ := g_knownX1 (μ := μ) (c := c) (s := s) hC0 e0 hk9 h13 d0
            refine rn_callP (k' := 32) (y := 60) (vs := [mR 3, mR 6]) (S' := []) (v := some (mI (-1))) (h' := mkh (m_set (m_upd μ 1 A0) 3 2 (3)) c s) rfl rfl rfl (hc0) ?_
            show Rn PT none kX5_readPlanLine 32 [some (mR 3), some (mR 62), some (mR 6), some (mI (13)), some (mI (-1)), none] [mI (-1)] (mkh (m_set (m_upd μ 1 A0) 3 2 (3)) c s) _
            refine rn_istore (k' := 33) (L' := [some (mR 3), some (mR 62), some (mR 6), some (mI (13)), some (mI (-1)), none]) rfl rfl (Nat.le_of_ble_eq_true rfl) rfl ?_
            refine rn_iload (k' := 34) rfl rfl rfl ?_
            refine rn_iconst (k' := 35) rfl rfl ?_
            refine rn_icmp_ne (k' := 36) rfl rfl (fun hc6 => ?_) (fun hc6 => ?_)
            · exfalso; omega
            · skip
              refine rn_iconst (k' := 37) rfl rfl ?_
              refine rn_iret rfl (Or.inr (by omega)) ?_
              exact ⟨_, rfl, rfl, hA0.2.2.2.1, (FrmP.s (FrmP.u FrmP.r (by decide)) (by decide))⟩
    · exfalso; omega
  · exfalso; omega
set_option maxHeartbeats 1000000 in
theorem k_pl13_full {μ : Nat → Nat → Int} {c s : Nat} {b : Nat → Int} {n m p : Nat} (hC0 : CSt μ b n m p) (h5 : μ 1 5 = 1) (hx : ix (μ 4) (μ 1 6) 16 0 = 13) {l9 : Nat} (hl : μ 62 0 = (l9 : Int)) (hl3 : l9 = 30) (hl9 : l9 ≤ 30) : ∃ μ', (μ' 3 2 = 4 ∧ μ' 1 4 = μ 1 4 ∧ FrmP μ μ') ∧ Cl PT 59 [mR 3, mR 62, mR 6] (mkh μ c s) (fun r => r = (some (some (mI 0)), mkh μ' c s)) := by
  refine Cl.ex (g := fun μ' => (some (some (mI 0)), mkh μ' c s)) ?_
  refine ⟨_, PT_59, Nat.le_of_ble_eq_true rfl, ?_⟩
  show Rn PT none kX5_readPlanLine 0 [some (mR 3), some (mR 62), some (mR 6), none, none, none] [] (mkh μ c s) _
  refine rn_aload_n (k' := 1) rfl rfl rfl ?_
  refine rn_callP (k' := 2) (y := 46) (vs := [mR 3]) (S' := []) (v := some (mI (13))) (h' := mkh μ c s) rfl rfl rfl (by have hz := c_wordRead (μ := μ) (c := c) (s := s) h5; rw [hx] at hz; exact hz) ?_
  show Rn PT none kX5_readPlanLine 2 [some (mR 3), some (mR 62), some (mR 6), none, none, none] [mI (13)] (mkh μ c s) _
  refine rn_istore_n (k' := 3) (L' := [some (mR 3), some (mR 62), some (mR 6), some (mI (13)), none, none]) rfl rfl (Nat.le_of_ble_eq_true rfl) rfl ?_
  refine rn_iload_n (k' := 4) rfl rfl rfl ?_
  refine rn_bipush (k' := 5) rfl rfl ?_
  refine rn_icmp_ge (k' := 6) rfl rfl (fun hc1 => ?_) (fun hc1 => ?_)
  · skip
    refine rn_aload_n (k' := 11) rfl rfl rfl ?_
    refine rn_getI (k' := 12) rfl rfl K0_62 (by decide) rfl ?_
    refine rn_bipush (k' := 13) rfl rfl ?_
    refine rn_icmp_lt (k' := 14) rfl rfl (fun hc2 => ?_) (fun hc2 => ?_)
    · exfalso; omega
    · skip
      refine rn_aload_n (k' := 15) rfl rfl rfl ?_
      refine rn_iconst (k' := 16) rfl rfl ?_
      refine rn_callP (k' := 17) (y := 45) (vs := [mR 3, mI (4)]) (S' := []) (v := some (mI (0))) (h' := mkh (m_set μ 3 2 (4)) c s) rfl rfl rfl (g_fail (μ := μ) (e := 4)) ?_
      show Rn PT none kX5_readPlanLine 17 [some (mR 3), some (mR 62), some (mR 6), some (mI (13)), none, none] [mI (0)] (mkh (m_set μ 3 2 (4)) c s) _
      refine rn_iret rfl (Or.inr (by omega)) ?_
      exact ⟨_, rfl, rfl, rfl, (FrmP.s FrmP.r (by decide))⟩
  · exfalso; omega
set_option maxHeartbeats 1000000 in
theorem k_pl13_ok {μ : Nat → Nat → Int} {c s : Nat} {b : Nat → Int} {n m p : Nat} (hC0 : CSt μ b n m p) (h5 : μ 1 5 = 1) (hx : ix (μ 4) (μ 1 6) 16 0 = 13) {l9 : Nat} (hl : μ 62 0 = (l9 : Int)) (hl3 : ¬ l9 = 30) (hl9 : l9 ≤ 30) (e0 : (tkK b n m p = 1 ∧ ix (μ 4) (tkV b n m p) 16 0 = -1)) (e1 : eN b n m (tkN b n m p) 1 99 = 0) (e2 : tkK b n m (tkN b n m (tkN b n m p)) = 3) {k9 : Nat} (hk9 : k9 ≤ 8) (h13 : μ 6 13 = (k9 : Int)) (d0 : ¬ ix (μ 11) (tkV b n m p) k9 0 = -1) : ∃ μ', (CSt μ' b n m (tkN b n m (tkN b n m (tkN b n m p))) ∧ FrmP μ μ' ∧ μ' 3 2 = μ 3 2 ∧ μ' 62 = μ 62 ∧ μ' 63 l9 = 13 ∧ (∀ j, ¬ j = l9 → μ' 63 j = μ 63 j) ∧ μ' 64 l9 = ix (μ 11) (tkV b n m p) k9 0 ∧ (∀ j, ¬ j = l9 → μ' 64 j = μ 64 j) ∧ μ' 65 l9 = tkV b n m (tkN b n m p) ∧ (∀ j, ¬ j = l9 → μ' 65 j = μ 65 j)) ∧ Cl PT 59 [mR 3, mR 62, mR 6] (mkh μ c s) (fun r => r = (some (some (mI 1)), mkh μ' c s)) := by
  refine Cl.ex (g := fun μ' => (some (some (mI 1)), mkh μ' c s)) ?_
  refine ⟨_, PT_59, Nat.le_of_ble_eq_true rfl, ?_⟩
  show Rn PT none kX5_readPlanLine 0 [some (mR 3), some (mR 62), some (mR 6), none, none, none] [] (mkh μ c s) _
  refine rn_aload_n (k' := 1) rfl rfl rfl ?_
  refine rn_callP (k' := 2) (y := 46) (vs := [mR 3]) (S' := []) (v := some (mI (13))) (h' := mkh μ c s) rfl rfl rfl (by have hz := c_wordRead (μ := μ) (c := c) (s := s) h5; rw [hx] at hz; exact hz) ?_
  show Rn PT none kX5_readPlanLine 2 [some (mR 3), some (mR 62), some (mR 6), none, none, none] [mI (13)] (mkh μ c s) _
  refine rn_istore_n (k' := 3) (L' := [some (mR 3), some (mR 62), some (mR 6), some (mI (13)), none, none]) rfl rfl (Nat.le_of_ble_eq_true rfl) rfl ?_
  refine rn_iload_n (k' := 4) rfl rfl rfl ?_
  refine rn_bipush (k' := 5) rfl rfl ?_
  refine rn_icmp_ge (k' := 6) rfl rfl (fun hc1 => ?_) (fun hc1 => ?_)
  · skip
    refine rn_aload_n (k' := 11) rfl rfl rfl ?_
    refine rn_getI (k' := 12) rfl rfl K0_62 (by decide) rfl ?_
    refine rn_bipush (k' := 13) rfl rfl ?_
    refine rn_icmp_lt (k' := 14) rfl rfl (fun hc2 => ?_) (fun hc2 => ?_)
    · skip
      refine rn_iconst (k' := 19) rfl rfl ?_
      refine rn_istore (k' := 20) (L' := [some (mR 3), some (mR 62), some (mR 6), some (mI (13)), some (mI (-1)), none]) rfl rfl (Nat.le_of_ble_eq_true rfl) rfl ?_
      refine rn_iload_n (k' := 21) rfl rfl rfl ?_
      refine rn_bipush (k' := 22) rfl rfl ?_
      refine rn_icmp_eq (k' := 23) rfl rfl (fun hc3 => ?_) (fun hc3 => ?_)
      · exfalso; omega
      · skip
        refine rn_iload_n (k' := 24) rfl rfl rfl ?_
        refine rn_bipush (k' := 25) rfl rfl ?_
        refine rn_icmp_eq (k' := 26) rfl rfl (fun hc4 => ?_) (fun hc4 => ?_)
        · exfalso; omega
        · skip
          refine rn_iload_n (k' := 27) rfl rfl rfl ?_
          refine rn_bipush (k' := 28) rfl rfl ?_
          refine rn_icmp_ne (k' := 29) rfl rfl (fun hc5 => ?_) (fun hc5 => ?_)
          · exfalso; omega
          · skip
            refine rn_aload_n (k' := 30) rfl rfl rfl ?_
            refine rn_aload_n (k' := 31) rfl rfl rfl ?_
            obtain ⟨A0, hA0, hc0⟩ := g_known (μ := μ) (c := c) (s := s) hC0 e0 hk9 h13 d0
            have hC1 : CSt (m_upd μ 1 A0) b n m (tkN b n m p) := ⟨hC0.1, hC0.2.1, (tkN_b hC0.2.2.1).2.1, hA0.1, hA0.2.1, hA0.2.2.1⟩
            have ib := ix_b (f := μ 11) (v := tkV b n m p) k9 0
            refine rn_callP (k' := 32) (y := 60) (vs := [mR 3, mR 6]) (S' := []) (v := some (mI (ix (μ 11) (tkV b n m p) k9 0))) (h' := mkh (m_upd μ 1 A0) c s) rfl rfl rfl (hc0) ?_
            show Rn PT none kX5_readPlanLine 32 [some (mR 3), some (mR 62), some (mR 6), some (mI (13)), some (mI (-1)), none] [mI (ix (μ 11) (tkV b n m p) k9 0)] (mkh (m_upd μ 1 A0) c s) _
            refine rn_istore (k' := 33) (L' := [some (mR 3), some (mR 62), some (mR 6), some (mI (13)), some (mI (ix (μ 11) (tkV b n m p) k9 0)), none]) rfl rfl (Nat.le_of_ble_eq_true rfl) rfl ?_
            refine rn_iload (k' := 34) rfl rfl rfl ?_
            refine rn_iconst (k' := 35) rfl rfl ?_
            refine rn_icmp_ne (k' := 36) rfl rfl (fun hc6 => ?_) (fun hc6 => ?_)
            · skip
              refine rn_iconst (k' := 39) rfl rfl ?_
              refine rn_istore (k' := 40) (L' := [some (mR 3), some (mR 62), some (mR 6), some (mI (13)), some (mI (ix (μ 11) (tkV b n m p) k9 0)), some (mI (0))]) rfl rfl (Nat.le_of_ble_eq_true rfl) rfl ?_
              refine rn_iload_n (k' := 41) rfl rfl rfl ?_
              refine rn_bipush (k' := 42) rfl rfl ?_
              refine rn_icmp_eq (k' := 43) rfl rfl (fun hc7 => ?_) (fun hc7 => ?_)
              · exfalso; omega
              · skip
                refine rn_iload_n (k' := 44) rfl rfl rfl ?_
                refine rn_bipush (k' := 45) rfl rfl ?_
                refine rn_icmp_ne (k' := 46) rfl rfl (fun hc8 => ?_) (fun hc8 => ?_)
                · skip
                  refine rn_aload_n (k' := 51) rfl rfl rfl ?_
                  refine rn_iload_n (k' := 52) rfl rfl rfl ?_
                  refine rn_bipush (k' := 53) rfl rfl ?_
                  refine rn_icmp_ne (k' := 54) rfl rfl (fun hc9 => ?_) (fun hc9 => ?_)
                  · skip
                    refine rn_bipush (k' := 57) rfl rfl ?_
                    obtain ⟨A1, hA1, hc1⟩ := g_amount (μ := (m_upd μ 1 A0)) (c := c) (s := s) (b := b) (n := n) (m := m) (p := (tkN b n m p)) (hi := 99) hC1 e1
                    have hC2 : CSt (m_upd (m_upd μ 1 A0) 1 A1) b n m (tkN b n m (tkN b n m p)) := ⟨hC1.1, hC1.2.1, (tkN_b hC1.2.2.1).2.1, hA1.1, hA1.2.1, hA1.2.2.1⟩
                    have ty1 := eN_ok e1
                    refine rn_callP (k' := 58) (y := 61) (vs := [mR 3, mI (99)]) (S' := []) (v := some (mI (tkV b n m (tkN b n m p)))) (h' := mkh (m_upd (m_upd μ 1 A0) 1 A1) c s) rfl rfl rfl (hc1) ?_
                    show Rn PT none kX5_readPlanLine 58 [some (mR 3), some (mR 62), some (mR 6), some (mI (13)), some (mI (ix (μ 11) (tkV b n m p) k9 0)), some (mI (0))] [mI (tkV b n m (tkN b n m p))] (mkh (m_upd (m_upd μ 1 A0) 1 A1) c s) _
                    refine rn_istore (k' := 59) (L' := [some (mR 3), some (mR 62), some (mR 6), some (mI (13)), some (mI (ix (μ 11) (tkV b n m p) k9 0)), some (mI (tkV b n m (tkN b n m p)))]) rfl rfl (Nat.le_of_ble_eq_true rfl) rfl ?_
                    refine rn_iload (k' := 60) rfl rfl rfl ?_
                    refine rn_iconst (k' := 61) rfl rfl ?_
                    refine rn_icmp_ne (k' := 62) rfl rfl (fun hc10 => ?_) (fun hc10 => ?_)
                    · skip
                      refine rn_aload_n (k' := 65) rfl rfl rfl ?_
                      refine rn_getR (k' := 66) rfl rfl K0_62 (by decide) rfl R0_62_1 ?_
                      refine rn_aload_n (k' := 67) rfl rfl rfl ?_
                      refine rn_getI (k' := 68) rfl rfl K0_62 (by decide) rfl ?_
                      show Rn PT none kX5_readPlanLine 68 [some (mR 3), some (mR 62), some (mR 6), some (mI (13)), some (mI (ix (μ 11) (tkV b n m p) k9 0)), some (mI (tkV b n m (tkN b n m p)))] [mI (μ 62 0), mR 63] (mkh (m_upd (m_upd μ 1 A0) 1 A1) c s) _
                      refine rn_iload_n (k' := 69) rfl rfl rfl ?_
                      refine rn_iastore (k' := 70) rfl rfl K0_63 (by omega) (by omega) ?_
                      refine rn_aload_n (k' := 71) rfl rfl rfl ?_
                      refine rn_getR (k' := 72) rfl rfl K0_62 (by decide) rfl R0_62_2 ?_
                      refine rn_aload_n (k' := 73) rfl rfl rfl ?_
                      refine rn_getI (k' := 74) rfl rfl K0_62 (by decide) rfl ?_
                      show Rn PT none kX5_readPlanLine 74 [some (mR 3), some (mR 62), some (mR 6), some (mI (13)), some (mI (ix (μ 11) (tkV b n m p) k9 0)), some (mI (tkV b n m (tkN b n m p)))] [mI (μ 62 0), mR 64] (mkh (m_set (m_upd (m_upd μ 1 A0) 1 A1) 63 ((μ 62 0).toNat) (13)) c s) _
                      refine rn_iload (k' := 75) rfl rfl rfl ?_
                      refine rn_iastore (k' := 76) rfl rfl K0_64 (by omega) (by omega) ?_
                      refine rn_aload_n (k' := 77) rfl rfl rfl ?_
                      refine rn_getR (k' := 78) rfl rfl K0_62 (by decide) rfl R0_62_3 ?_
                      refine rn_aload_n (k' := 79) rfl rfl rfl ?_
                      refine rn_getI (k' := 80) rfl rfl K0_62 (by decide) rfl ?_
                      show Rn PT none kX5_readPlanLine 80 [some (mR 3), some (mR 62), some (mR 6), some (mI (13)), some (mI (ix (μ 11) (tkV b n m p) k9 0)), some (mI (tkV b n m (tkN b n m p)))] [mI (μ 62 0), mR 65] (mkh (m_set (m_set (m_upd (m_upd μ 1 A0) 1 A1) 63 ((μ 62 0).toNat) (13)) 64 ((μ 62 0).toNat) (ix (μ 11) (tkV b n m p) k9 0)) c s) _
                      refine rn_iload (k' := 81) rfl rfl rfl ?_
                      refine rn_iastore (k' := 82) rfl rfl K0_65 (by omega) (by omega) ?_
                      refine rn_aload_n (k' := 83) rfl rfl rfl ?_
                      obtain ⟨A2, hA2, hc2⟩ := g_end (μ := (m_set (m_set (m_set (m_upd (m_upd μ 1 A0) 1 A1) 63 ((μ 62 0).toNat) (13)) 64 ((μ 62 0).toNat) (ix (μ 11) (tkV b n m p) k9 0)) 65 ((μ 62 0).toNat) (tkV b n m (tkN b n m p)))) (c := c) (s := s) (b := b) (n := n) (m := m) (p := (tkN b n m (tkN b n m p))) hC2 e2
                      have hC3 : CSt (m_upd (m_set (m_set (m_set (m_upd (m_upd μ 1 A0) 1 A1) 63 ((μ 62 0).toNat) (13)) 64 ((μ 62 0).toNat) (ix (μ 11) (tkV b n m p) k9 0)) 65 ((μ 62 0).toNat) (tkV b n m (tkN b n m p))) 1 A2) b n m (tkN b n m (tkN b n m (tkN b n m p))) := ⟨hC2.1, hC2.2.1, (tkN_b hC2.2.2.1).2.1, hA2.1, hA2.2.1, hA2.2.2.1⟩
                      refine rn_callP (k' := 84) (y := 50) (vs := [mR 3]) (S' := []) (v := some (mI (1))) (h' := mkh (m_upd (m_set (m_set (m_set (m_upd (m_upd μ 1 A0) 1 A1) 63 ((μ 62 0).toNat) (13)) 64 ((μ 62 0).toNat) (ix (μ 11) (tkV b n m p) k9 0)) 65 ((μ 62 0).toNat) (tkV b n m (tkN b n m p))) 1 A2) c s) rfl rfl rfl (hc2) ?_
                      show Rn PT none kX5_readPlanLine 84 [some (mR 3), some (mR 62), some (mR 6), some (mI (13)), some (mI (ix (μ 11) (tkV b n m p) k9 0)), some (mI (tkV b n m (tkN b n m p)))] [mI (1)] (mkh (m_upd (m_set (m_set (m_set (m_upd (m_upd μ 1 A0) 1 A1) 63 ((μ 62 0).toNat) (13)) 64 ((μ 62 0).toNat) (ix (μ 11) (tkV b n m p) k9 0)) 65 ((μ 62 0).toNat) (tkV b n m (tkN b n m p))) 1 A2) c s) _
                      refine rn_iret rfl (Or.inr (by omega)) ?_
                      have hi9 : (μ 62 0).toNat = l9 := by omega
                      exact ⟨_, rfl, hC3, (FrmP.u (FrmP.s (FrmP.s (FrmP.s (FrmP.u (FrmP.u FrmP.r (by decide)) (by decide)) (by decide)) (by decide)) (by decide)) (by decide)), rfl, rfl, set_hit hi9, (fun j hj => set_mis (by omega)), set_hit hi9, (fun j hj => set_mis (by omega)), set_hit hi9, (fun j hj => set_mis (by omega))⟩
                    · exfalso; omega
                  · exfalso; omega
                · exfalso; omega
            · exfalso; omega
    · exfalso; omega
  · exfalso; omega
set_option maxHeartbeats 1000000 in
theorem k_pl14_x0 {μ : Nat → Nat → Int} {c s : Nat} {b : Nat → Int} {n m p : Nat} (hC0 : CSt μ b n m p) (h5 : μ 1 5 = 1) (hx : ix (μ 4) (μ 1 6) 16 0 = 14) {l9 : Nat} (hl : μ 62 0 = (l9 : Int)) (hl3 : ¬ l9 = 30) (hl9 : l9 ≤ 30) (e0 : ¬ tkK b n m p = 3) : ∃ μ', (μ' 3 2 = 1 ∧ μ' 1 4 = ((tkP b n m p : Nat) : Int) ∧ FrmP μ μ') ∧ Cl PT 59 [mR 3, mR 62, mR 6] (mkh μ c s) (fun r => r = (some (some (mI 0)), mkh μ' c s)) := by
  refine Cl.ex (g := fun μ' => (some (some (mI 0)), mkh μ' c s)) ?_
  refine ⟨_, PT_59, Nat.le_of_ble_eq_true rfl, ?_⟩
  show Rn PT none kX5_readPlanLine 0 [some (mR 3), some (mR 62), some (mR 6), none, none, none] [] (mkh μ c s) _
  refine rn_aload_n (k' := 1) rfl rfl rfl ?_
  refine rn_callP (k' := 2) (y := 46) (vs := [mR 3]) (S' := []) (v := some (mI (14))) (h' := mkh μ c s) rfl rfl rfl (by have hz := c_wordRead (μ := μ) (c := c) (s := s) h5; rw [hx] at hz; exact hz) ?_
  show Rn PT none kX5_readPlanLine 2 [some (mR 3), some (mR 62), some (mR 6), none, none, none] [mI (14)] (mkh μ c s) _
  refine rn_istore_n (k' := 3) (L' := [some (mR 3), some (mR 62), some (mR 6), some (mI (14)), none, none]) rfl rfl (Nat.le_of_ble_eq_true rfl) rfl ?_
  refine rn_iload_n (k' := 4) rfl rfl rfl ?_
  refine rn_bipush (k' := 5) rfl rfl ?_
  refine rn_icmp_ge (k' := 6) rfl rfl (fun hc1 => ?_) (fun hc1 => ?_)
  · skip
    refine rn_aload_n (k' := 11) rfl rfl rfl ?_
    refine rn_getI (k' := 12) rfl rfl K0_62 (by decide) rfl ?_
    refine rn_bipush (k' := 13) rfl rfl ?_
    refine rn_icmp_lt (k' := 14) rfl rfl (fun hc2 => ?_) (fun hc2 => ?_)
    · skip
      refine rn_iconst (k' := 19) rfl rfl ?_
      refine rn_istore (k' := 20) (L' := [some (mR 3), some (mR 62), some (mR 6), some (mI (14)), some (mI (-1)), none]) rfl rfl (Nat.le_of_ble_eq_true rfl) rfl ?_
      refine rn_iload_n (k' := 21) rfl rfl rfl ?_
      refine rn_bipush (k' := 22) rfl rfl ?_
      refine rn_icmp_eq (k' := 23) rfl rfl (fun hc3 => ?_) (fun hc3 => ?_)
      · exfalso; omega
      · skip
        refine rn_iload_n (k' := 24) rfl rfl rfl ?_
        refine rn_bipush (k' := 25) rfl rfl ?_
        refine rn_icmp_eq (k' := 26) rfl rfl (fun hc4 => ?_) (fun hc4 => ?_)
        · exfalso; omega
        · skip
          refine rn_iload_n (k' := 27) rfl rfl rfl ?_
          refine rn_bipush (k' := 28) rfl rfl ?_
          refine rn_icmp_ne (k' := 29) rfl rfl (fun hc5 => ?_) (fun hc5 => ?_)
          · skip
            refine rn_iconst (k' := 39) rfl rfl ?_
            refine rn_istore (k' := 40) (L' := [some (mR 3), some (mR 62), some (mR 6), some (mI (14)), some (mI (-1)), some (mI (0))]) rfl rfl (Nat.le_of_ble_eq_true rfl) rfl ?_
            refine rn_iload_n (k' := 41) rfl rfl rfl ?_
            refine rn_bipush (k' := 42) rfl rfl ?_
            refine rn_icmp_eq (k' := 43) rfl rfl (fun hc6 => ?_) (fun hc6 => ?_)
            · skip
              refine rn_iload (k' := 60) rfl rfl rfl ?_
              refine rn_iconst (k' := 61) rfl rfl ?_
              refine rn_icmp_ne (k' := 62) rfl rfl (fun hc7 => ?_) (fun hc7 => ?_)
              · skip
                refine rn_aload_n (k' := 65) rfl rfl rfl ?_
                refine rn_getR (k' := 66) rfl rfl K0_62 (by decide) rfl R0_62_1 ?_
                refine rn_aload_n (k' := 67) rfl rfl rfl ?_
                refine rn_getI (k' := 68) rfl rfl K0_62 (by decide) rfl ?_
                refine rn_iload_n (k' := 69) rfl rfl rfl ?_
                refine rn_iastore (k' := 70) rfl rfl K0_63 (by omega) (by omega) ?_
                refine rn_aload_n (k' := 71) rfl rfl rfl ?_
                refine rn_getR (k' := 72) rfl rfl K0_62 (by decide) rfl R0_62_2 ?_
                refine rn_aload_n (k' := 73) rfl rfl rfl ?_
                refine rn_getI (k' := 74) rfl rfl K0_62 (by decide) rfl ?_
                show Rn PT none kX5_readPlanLine 74 [some (mR 3), some (mR 62), some (mR 6), some (mI (14)), some (mI (-1)), some (mI (0))] [mI (μ 62 0), mR 64] (mkh (m_set μ 63 ((μ 62 0).toNat) (14)) c s) _
                refine rn_iload (k' := 75) rfl rfl rfl ?_
                refine rn_iastore (k' := 76) rfl rfl K0_64 (by omega) (by omega) ?_
                refine rn_aload_n (k' := 77) rfl rfl rfl ?_
                refine rn_getR (k' := 78) rfl rfl K0_62 (by decide) rfl R0_62_3 ?_
                refine rn_aload_n (k' := 79) rfl rfl rfl ?_
                refine rn_getI (k' := 80) rfl rfl K0_62 (by decide) rfl ?_
                show Rn PT none kX5_readPlanLine 80 [some (mR 3), some (mR 62), some (mR 6), some (mI (14)), some (mI (-1)), some (mI (0))] [mI (μ 62 0), mR 65] (mkh (m_set (m_set μ 63 ((μ 62 0).toNat) (14)) 64 ((μ 62 0).toNat) (-1)) c s) _
                refine rn_iload (k' := 81) rfl rfl rfl ?_
                refine rn_iastore (k' := 82) rfl rfl K0_65 (by omega) (by omega) ?_
                refine rn_aload_n (k' := 83) rfl rfl rfl ?_
                obtain ⟨A0, hA0, hc0⟩ := g_endX (μ := (m_set (m_set (m_set μ 63 ((μ 62 0).toNat) (14)) 64 ((μ 62 0).toNat) (-1)) 65 ((μ 62 0).toNat) (0))) (c := c) (s := s) (b := b) (n := n) (m := m) (p := p) hC0 e0
                refine rn_callP (k' := 84) (y := 50) (vs := [mR 3]) (S' := []) (v := some (mI (0))) (h' := mkh (m_set (m_upd (m_set (m_set (m_set μ 63 ((μ 62 0).toNat) (14)) 64 ((μ 62 0).toNat) (-1)) 65 ((μ 62 0).toNat) (0)) 1 A0) 3 2 (1)) c s) rfl rfl rfl (hc0) ?_
                show Rn PT none kX5_readPlanLine 84 [some (mR 3), some (mR 62), some (mR 6), some (mI (14)), some (mI (-1)), some (mI (0))] [mI (0)] (mkh (m_set (m_upd (m_set (m_set (m_set μ 63 ((μ 62 0).toNat) (14)) 64 ((μ 62 0).toNat) (-1)) 65 ((μ 62 0).toNat) (0)) 1 A0) 3 2 (1)) c s) _
                refine rn_iret rfl (Or.inr (by omega)) ?_
                exact ⟨_, rfl, rfl, hA0.2.2.2.1, (FrmP.s (FrmP.u (FrmP.s (FrmP.s (FrmP.s FrmP.r (by decide)) (by decide)) (by decide)) (by decide)) (by decide))⟩
              · exfalso; omega
            · exfalso; omega
          · exfalso; omega
    · exfalso; omega
  · exfalso; omega
set_option maxHeartbeats 1000000 in
theorem k_pl14_full {μ : Nat → Nat → Int} {c s : Nat} {b : Nat → Int} {n m p : Nat} (hC0 : CSt μ b n m p) (h5 : μ 1 5 = 1) (hx : ix (μ 4) (μ 1 6) 16 0 = 14) {l9 : Nat} (hl : μ 62 0 = (l9 : Int)) (hl3 : l9 = 30) (hl9 : l9 ≤ 30) : ∃ μ', (μ' 3 2 = 4 ∧ μ' 1 4 = μ 1 4 ∧ FrmP μ μ') ∧ Cl PT 59 [mR 3, mR 62, mR 6] (mkh μ c s) (fun r => r = (some (some (mI 0)), mkh μ' c s)) := by
  refine Cl.ex (g := fun μ' => (some (some (mI 0)), mkh μ' c s)) ?_
  refine ⟨_, PT_59, Nat.le_of_ble_eq_true rfl, ?_⟩
  show Rn PT none kX5_readPlanLine 0 [some (mR 3), some (mR 62), some (mR 6), none, none, none] [] (mkh μ c s) _
  refine rn_aload_n (k' := 1) rfl rfl rfl ?_
  refine rn_callP (k' := 2) (y := 46) (vs := [mR 3]) (S' := []) (v := some (mI (14))) (h' := mkh μ c s) rfl rfl rfl (by have hz := c_wordRead (μ := μ) (c := c) (s := s) h5; rw [hx] at hz; exact hz) ?_
  show Rn PT none kX5_readPlanLine 2 [some (mR 3), some (mR 62), some (mR 6), none, none, none] [mI (14)] (mkh μ c s) _
  refine rn_istore_n (k' := 3) (L' := [some (mR 3), some (mR 62), some (mR 6), some (mI (14)), none, none]) rfl rfl (Nat.le_of_ble_eq_true rfl) rfl ?_
  refine rn_iload_n (k' := 4) rfl rfl rfl ?_
  refine rn_bipush (k' := 5) rfl rfl ?_
  refine rn_icmp_ge (k' := 6) rfl rfl (fun hc1 => ?_) (fun hc1 => ?_)
  · skip
    refine rn_aload_n (k' := 11) rfl rfl rfl ?_
    refine rn_getI (k' := 12) rfl rfl K0_62 (by decide) rfl ?_
    refine rn_bipush (k' := 13) rfl rfl ?_
    refine rn_icmp_lt (k' := 14) rfl rfl (fun hc2 => ?_) (fun hc2 => ?_)
    · exfalso; omega
    · skip
      refine rn_aload_n (k' := 15) rfl rfl rfl ?_
      refine rn_iconst (k' := 16) rfl rfl ?_
      refine rn_callP (k' := 17) (y := 45) (vs := [mR 3, mI (4)]) (S' := []) (v := some (mI (0))) (h' := mkh (m_set μ 3 2 (4)) c s) rfl rfl rfl (g_fail (μ := μ) (e := 4)) ?_
      show Rn PT none kX5_readPlanLine 17 [some (mR 3), some (mR 62), some (mR 6), some (mI (14)), none, none] [mI (0)] (mkh (m_set μ 3 2 (4)) c s) _
      refine rn_iret rfl (Or.inr (by omega)) ?_
      exact ⟨_, rfl, rfl, rfl, (FrmP.s FrmP.r (by decide))⟩
  · exfalso; omega
set_option maxHeartbeats 1000000 in
theorem k_pl14_ok {μ : Nat → Nat → Int} {c s : Nat} {b : Nat → Int} {n m p : Nat} (hC0 : CSt μ b n m p) (h5 : μ 1 5 = 1) (hx : ix (μ 4) (μ 1 6) 16 0 = 14) {l9 : Nat} (hl : μ 62 0 = (l9 : Int)) (hl3 : ¬ l9 = 30) (hl9 : l9 ≤ 30) (e0 : tkK b n m p = 3) : ∃ μ', (CSt μ' b n m (tkN b n m p) ∧ FrmP μ μ' ∧ μ' 3 2 = μ 3 2 ∧ μ' 62 = μ 62 ∧ μ' 63 l9 = 14 ∧ (∀ j, ¬ j = l9 → μ' 63 j = μ 63 j) ∧ μ' 64 l9 = -1 ∧ (∀ j, ¬ j = l9 → μ' 64 j = μ 64 j) ∧ μ' 65 l9 = 0 ∧ (∀ j, ¬ j = l9 → μ' 65 j = μ 65 j)) ∧ Cl PT 59 [mR 3, mR 62, mR 6] (mkh μ c s) (fun r => r = (some (some (mI 1)), mkh μ' c s)) := by
  refine Cl.ex (g := fun μ' => (some (some (mI 1)), mkh μ' c s)) ?_
  refine ⟨_, PT_59, Nat.le_of_ble_eq_true rfl, ?_⟩
  show Rn PT none kX5_readPlanLine 0 [some (mR 3), some (mR 62), some (mR 6), none, none, none] [] (mkh μ c s) _
  refine rn_aload_n (k' := 1) rfl rfl rfl ?_
  refine rn_callP (k' := 2) (y := 46) (vs := [mR 3]) (S' := []) (v := some (mI (14))) (h' := mkh μ c s) rfl rfl rfl (by have hz := c_wordRead (μ := μ) (c := c) (s := s) h5; rw [hx] at hz; exact hz) ?_
  show Rn PT none kX5_readPlanLine 2 [some (mR 3), some (mR 62), some (mR 6), none, none, none] [mI (14)] (mkh μ c s) _
  refine rn_istore_n (k' := 3) (L' := [some (mR 3), some (mR 62), some (mR 6), some (mI (14)), none, none]) rfl rfl (Nat.le_of_ble_eq_true rfl) rfl ?_
  refine rn_iload_n (k' := 4) rfl rfl rfl ?_
  refine rn_bipush (k' := 5) rfl rfl ?_
  refine rn_icmp_ge (k' := 6) rfl rfl (fun hc1 => ?_) (fun hc1 => ?_)
  · skip
    refine rn_aload_n (k' := 11) rfl rfl rfl ?_
    refine rn_getI (k' := 12) rfl rfl K0_62 (by decide) rfl ?_
    refine rn_bipush (k' := 13) rfl rfl ?_
    refine rn_icmp_lt (k' := 14) rfl rfl (fun hc2 => ?_) (fun hc2 => ?_)
    · skip
      refine rn_iconst (k' := 19) rfl rfl ?_
      refine rn_istore (k' := 20) (L' := [some (mR 3), some (mR 62), some (mR 6), some (mI (14)), some (mI (-1)), none]) rfl rfl (Nat.le_of_ble_eq_true rfl) rfl ?_
      refine rn_iload_n (k' := 21) rfl rfl rfl ?_
      refine rn_bipush (k' := 22) rfl rfl ?_
      refine rn_icmp_eq (k' := 23) rfl rfl (fun hc3 => ?_) (fun hc3 => ?_)
      · exfalso; omega
      · skip
        refine rn_iload_n (k' := 24) rfl rfl rfl ?_
        refine rn_bipush (k' := 25) rfl rfl ?_
        refine rn_icmp_eq (k' := 26) rfl rfl (fun hc4 => ?_) (fun hc4 => ?_)
        · exfalso; omega
        · skip
          refine rn_iload_n (k' := 27) rfl rfl rfl ?_
          refine rn_bipush (k' := 28) rfl rfl ?_
          refine rn_icmp_ne (k' := 29) rfl rfl (fun hc5 => ?_) (fun hc5 => ?_)
          · skip
            refine rn_iconst (k' := 39) rfl rfl ?_
            refine rn_istore (k' := 40) (L' := [some (mR 3), some (mR 62), some (mR 6), some (mI (14)), some (mI (-1)), some (mI (0))]) rfl rfl (Nat.le_of_ble_eq_true rfl) rfl ?_
            refine rn_iload_n (k' := 41) rfl rfl rfl ?_
            refine rn_bipush (k' := 42) rfl rfl ?_
            refine rn_icmp_eq (k' := 43) rfl rfl (fun hc6 => ?_) (fun hc6 => ?_)
            · skip
              refine rn_iload (k' := 60) rfl rfl rfl ?_
              refine rn_iconst (k' := 61) rfl rfl ?_
              refine rn_icmp_ne (k' := 62) rfl rfl (fun hc7 => ?_) (fun hc7 => ?_)
              · skip
                refine rn_aload_n (k' := 65) rfl rfl rfl ?_
                refine rn_getR (k' := 66) rfl rfl K0_62 (by decide) rfl R0_62_1 ?_
                refine rn_aload_n (k' := 67) rfl rfl rfl ?_
                refine rn_getI (k' := 68) rfl rfl K0_62 (by decide) rfl ?_
                refine rn_iload_n (k' := 69) rfl rfl rfl ?_
                refine rn_iastore (k' := 70) rfl rfl K0_63 (by omega) (by omega) ?_
                refine rn_aload_n (k' := 71) rfl rfl rfl ?_
                refine rn_getR (k' := 72) rfl rfl K0_62 (by decide) rfl R0_62_2 ?_
                refine rn_aload_n (k' := 73) rfl rfl rfl ?_
                refine rn_getI (k' := 74) rfl rfl K0_62 (by decide) rfl ?_
                show Rn PT none kX5_readPlanLine 74 [some (mR 3), some (mR 62), some (mR 6), some (mI (14)), some (mI (-1)), some (mI (0))] [mI (μ 62 0), mR 64] (mkh (m_set μ 63 ((μ 62 0).toNat) (14)) c s) _
                refine rn_iload (k' := 75) rfl rfl rfl ?_
                refine rn_iastore (k' := 76) rfl rfl K0_64 (by omega) (by omega) ?_
                refine rn_aload_n (k' := 77) rfl rfl rfl ?_
                refine rn_getR (k' := 78) rfl rfl K0_62 (by decide) rfl R0_62_3 ?_
                refine rn_aload_n (k' := 79) rfl rfl rfl ?_
                refine rn_getI (k' := 80) rfl rfl K0_62 (by decide) rfl ?_
                show Rn PT none kX5_readPlanLine 80 [some (mR 3), some (mR 62), some (mR 6), some (mI (14)), some (mI (-1)), some (mI (0))] [mI (μ 62 0), mR 65] (mkh (m_set (m_set μ 63 ((μ 62 0).toNat) (14)) 64 ((μ 62 0).toNat) (-1)) c s) _
                refine rn_iload (k' := 81) rfl rfl rfl ?_
                refine rn_iastore (k' := 82) rfl rfl K0_65 (by omega) (by omega) ?_
                refine rn_aload_n (k' := 83) rfl rfl rfl ?_
                obtain ⟨A0, hA0, hc0⟩ := g_end (μ := (m_set (m_set (m_set μ 63 ((μ 62 0).toNat) (14)) 64 ((μ 62 0).toNat) (-1)) 65 ((μ 62 0).toNat) (0))) (c := c) (s := s) (b := b) (n := n) (m := m) (p := p) hC0 e0
                have hC1 : CSt (m_upd (m_set (m_set (m_set μ 63 ((μ 62 0).toNat) (14)) 64 ((μ 62 0).toNat) (-1)) 65 ((μ 62 0).toNat) (0)) 1 A0) b n m (tkN b n m p) := ⟨hC0.1, hC0.2.1, (tkN_b hC0.2.2.1).2.1, hA0.1, hA0.2.1, hA0.2.2.1⟩
                refine rn_callP (k' := 84) (y := 50) (vs := [mR 3]) (S' := []) (v := some (mI (1))) (h' := mkh (m_upd (m_set (m_set (m_set μ 63 ((μ 62 0).toNat) (14)) 64 ((μ 62 0).toNat) (-1)) 65 ((μ 62 0).toNat) (0)) 1 A0) c s) rfl rfl rfl (hc0) ?_
                show Rn PT none kX5_readPlanLine 84 [some (mR 3), some (mR 62), some (mR 6), some (mI (14)), some (mI (-1)), some (mI (0))] [mI (1)] (mkh (m_upd (m_set (m_set (m_set μ 63 ((μ 62 0).toNat) (14)) 64 ((μ 62 0).toNat) (-1)) 65 ((μ 62 0).toNat) (0)) 1 A0) c s) _
                refine rn_iret rfl (Or.inr (by omega)) ?_
                have hi9 : (μ 62 0).toNat = l9 := by omega
                exact ⟨_, rfl, hC1, (FrmP.u (FrmP.s (FrmP.s (FrmP.s FrmP.r (by decide)) (by decide)) (by decide)) (by decide)), rfl, rfl, set_hit hi9, (fun j hj => set_mis (by omega)), set_hit hi9, (fun j hj => set_mis (by omega)), set_hit hi9, (fun j hj => set_mis (by omega))⟩
              · exfalso; omega
            · exfalso; omega
          · exfalso; omega
    · exfalso; omega
  · exfalso; omega
set_option maxHeartbeats 1000000 in
theorem k_pl15_x0 {μ : Nat → Nat → Int} {c s : Nat} {b : Nat → Int} {n m p : Nat} (hC0 : CSt μ b n m p) (h5 : μ 1 5 = 1) (hx : ix (μ 4) (μ 1 6) 16 0 = 15) {l9 : Nat} (hl : μ 62 0 = (l9 : Int)) (hl3 : ¬ l9 = 30) (hl9 : l9 ≤ 30) (e0 : ¬ eN b n m p 1 20 = 0) : ∃ μ', (μ' 3 2 = eN b n m p 1 20 ∧ μ' 1 4 = ((tkP b n m p : Nat) : Int) ∧ FrmP μ μ') ∧ Cl PT 59 [mR 3, mR 62, mR 6] (mkh μ c s) (fun r => r = (some (some (mI 0)), mkh μ' c s)) := by
  refine Cl.ex (g := fun μ' => (some (some (mI 0)), mkh μ' c s)) ?_
  refine ⟨_, PT_59, Nat.le_of_ble_eq_true rfl, ?_⟩
  show Rn PT none kX5_readPlanLine 0 [some (mR 3), some (mR 62), some (mR 6), none, none, none] [] (mkh μ c s) _
  refine rn_aload_n (k' := 1) rfl rfl rfl ?_
  refine rn_callP (k' := 2) (y := 46) (vs := [mR 3]) (S' := []) (v := some (mI (15))) (h' := mkh μ c s) rfl rfl rfl (by have hz := c_wordRead (μ := μ) (c := c) (s := s) h5; rw [hx] at hz; exact hz) ?_
  show Rn PT none kX5_readPlanLine 2 [some (mR 3), some (mR 62), some (mR 6), none, none, none] [mI (15)] (mkh μ c s) _
  refine rn_istore_n (k' := 3) (L' := [some (mR 3), some (mR 62), some (mR 6), some (mI (15)), none, none]) rfl rfl (Nat.le_of_ble_eq_true rfl) rfl ?_
  refine rn_iload_n (k' := 4) rfl rfl rfl ?_
  refine rn_bipush (k' := 5) rfl rfl ?_
  refine rn_icmp_ge (k' := 6) rfl rfl (fun hc1 => ?_) (fun hc1 => ?_)
  · skip
    refine rn_aload_n (k' := 11) rfl rfl rfl ?_
    refine rn_getI (k' := 12) rfl rfl K0_62 (by decide) rfl ?_
    refine rn_bipush (k' := 13) rfl rfl ?_
    refine rn_icmp_lt (k' := 14) rfl rfl (fun hc2 => ?_) (fun hc2 => ?_)
    · skip
      refine rn_iconst (k' := 19) rfl rfl ?_
      refine rn_istore (k' := 20) (L' := [some (mR 3), some (mR 62), some (mR 6), some (mI (15)), some (mI (-1)), none]) rfl rfl (Nat.le_of_ble_eq_true rfl) rfl ?_
      refine rn_iload_n (k' := 21) rfl rfl rfl ?_
      refine rn_bipush (k' := 22) rfl rfl ?_
      refine rn_icmp_eq (k' := 23) rfl rfl (fun hc3 => ?_) (fun hc3 => ?_)
      · exfalso; omega
      · skip
        refine rn_iload_n (k' := 24) rfl rfl rfl ?_
        refine rn_bipush (k' := 25) rfl rfl ?_
        refine rn_icmp_eq (k' := 26) rfl rfl (fun hc4 => ?_) (fun hc4 => ?_)
        · exfalso; omega
        · skip
          refine rn_iload_n (k' := 27) rfl rfl rfl ?_
          refine rn_bipush (k' := 28) rfl rfl ?_
          refine rn_icmp_ne (k' := 29) rfl rfl (fun hc5 => ?_) (fun hc5 => ?_)
          · skip
            refine rn_iconst (k' := 39) rfl rfl ?_
            refine rn_istore (k' := 40) (L' := [some (mR 3), some (mR 62), some (mR 6), some (mI (15)), some (mI (-1)), some (mI (0))]) rfl rfl (Nat.le_of_ble_eq_true rfl) rfl ?_
            refine rn_iload_n (k' := 41) rfl rfl rfl ?_
            refine rn_bipush (k' := 42) rfl rfl ?_
            refine rn_icmp_eq (k' := 43) rfl rfl (fun hc6 => ?_) (fun hc6 => ?_)
            · exfalso; omega
            · skip
              refine rn_iload_n (k' := 44) rfl rfl rfl ?_
              refine rn_bipush (k' := 45) rfl rfl ?_
              refine rn_icmp_ne (k' := 46) rfl rfl (fun hc7 => ?_) (fun hc7 => ?_)
              · skip
                refine rn_aload_n (k' := 51) rfl rfl rfl ?_
                refine rn_iload_n (k' := 52) rfl rfl rfl ?_
                refine rn_bipush (k' := 53) rfl rfl ?_
                refine rn_icmp_ne (k' := 54) rfl rfl (fun hc8 => ?_) (fun hc8 => ?_)
                · exfalso; omega
                · skip
                  refine rn_bipush (k' := 55) rfl rfl ?_
                  refine rn_goto rfl ?_
                  obtain ⟨A0, hA0, hc0⟩ := g_amountX (μ := μ) (c := c) (s := s) (b := b) (n := n) (m := m) (p := p) (hi := 20) hC0 e0
                  refine rn_callP (k' := 58) (y := 61) (vs := [mR 3, mI (20)]) (S' := []) (v := some (mI (-1))) (h' := mkh (m_set (m_upd μ 1 A0) 3 2 (eN b n m p 1 (20))) c s) rfl rfl rfl (hc0) ?_
                  show Rn PT none kX5_readPlanLine 58 [some (mR 3), some (mR 62), some (mR 6), some (mI (15)), some (mI (-1)), some (mI (0))] [mI (-1)] (mkh (m_set (m_upd μ 1 A0) 3 2 (eN b n m p 1 (20))) c s) _
                  refine rn_istore (k' := 59) (L' := [some (mR 3), some (mR 62), some (mR 6), some (mI (15)), some (mI (-1)), some (mI (-1))]) rfl rfl (Nat.le_of_ble_eq_true rfl) rfl ?_
                  refine rn_iload (k' := 60) rfl rfl rfl ?_
                  refine rn_iconst (k' := 61) rfl rfl ?_
                  refine rn_icmp_ne (k' := 62) rfl rfl (fun hc9 => ?_) (fun hc9 => ?_)
                  · exfalso; omega
                  · skip
                    refine rn_iconst (k' := 63) rfl rfl ?_
                    refine rn_iret rfl (Or.inr (by omega)) ?_
                    exact ⟨_, rfl, rfl, hA0.2.2.2.1, (FrmP.s (FrmP.u FrmP.r (by decide)) (by decide))⟩
              · exfalso; omega
          · exfalso; omega
    · exfalso; omega
  · exfalso; omega
set_option maxHeartbeats 1000000 in
theorem k_pl15_x1 {μ : Nat → Nat → Int} {c s : Nat} {b : Nat → Int} {n m p : Nat} (hC0 : CSt μ b n m p) (h5 : μ 1 5 = 1) (hx : ix (μ 4) (μ 1 6) 16 0 = 15) {l9 : Nat} (hl : μ 62 0 = (l9 : Int)) (hl3 : ¬ l9 = 30) (hl9 : l9 ≤ 30) (e0 : eN b n m p 1 20 = 0) (e1 : ¬ tkK b n m (tkN b n m p) = 3) : ∃ μ', (μ' 3 2 = 1 ∧ μ' 1 4 = ((tkP b n m (tkN b n m p) : Nat) : Int) ∧ FrmP μ μ') ∧ Cl PT 59 [mR 3, mR 62, mR 6] (mkh μ c s) (fun r => r = (some (some (mI 0)), mkh μ' c s)) := by
  refine Cl.ex (g := fun μ' => (some (some (mI 0)), mkh μ' c s)) ?_
  refine ⟨_, PT_59, Nat.le_of_ble_eq_true rfl, ?_⟩
  show Rn PT none kX5_readPlanLine 0 [some (mR 3), some (mR 62), some (mR 6), none, none, none] [] (mkh μ c s) _
  refine rn_aload_n (k' := 1) rfl rfl rfl ?_
  refine rn_callP (k' := 2) (y := 46) (vs := [mR 3]) (S' := []) (v := some (mI (15))) (h' := mkh μ c s) rfl rfl rfl (by have hz := c_wordRead (μ := μ) (c := c) (s := s) h5; rw [hx] at hz; exact hz) ?_
  show Rn PT none kX5_readPlanLine 2 [some (mR 3), some (mR 62), some (mR 6), none, none, none] [mI (15)] (mkh μ c s) _
  refine rn_istore_n (k' := 3) (L' := [some (mR 3), some (mR 62), some (mR 6), some (mI (15)), none, none]) rfl rfl (Nat.le_of_ble_eq_true rfl) rfl ?_
  refine rn_iload_n (k' := 4) rfl rfl rfl ?_
  refine rn_bipush (k' := 5) rfl rfl ?_
  refine rn_icmp_ge (k' := 6) rfl rfl (fun hc1 => ?_) (fun hc1 => ?_)
  · skip
    refine rn_aload_n (k' := 11) rfl rfl rfl ?_
    refine rn_getI (k' := 12) rfl rfl K0_62 (by decide) rfl ?_
    refine rn_bipush (k' := 13) rfl rfl ?_
    refine rn_icmp_lt (k' := 14) rfl rfl (fun hc2 => ?_) (fun hc2 => ?_)
    · skip
      refine rn_iconst (k' := 19) rfl rfl ?_
      refine rn_istore (k' := 20) (L' := [some (mR 3), some (mR 62), some (mR 6), some (mI (15)), some (mI (-1)), none]) rfl rfl (Nat.le_of_ble_eq_true rfl) rfl ?_
      refine rn_iload_n (k' := 21) rfl rfl rfl ?_
      refine rn_bipush (k' := 22) rfl rfl ?_
      refine rn_icmp_eq (k' := 23) rfl rfl (fun hc3 => ?_) (fun hc3 => ?_)
      · exfalso; omega
      · skip
        refine rn_iload_n (k' := 24) rfl rfl rfl ?_
        refine rn_bipush (k' := 25) rfl rfl ?_
        refine rn_icmp_eq (k' := 26) rfl rfl (fun hc4 => ?_) (fun hc4 => ?_)
        · exfalso; omega
        · skip
          refine rn_iload_n (k' := 27) rfl rfl rfl ?_
          refine rn_bipush (k' := 28) rfl rfl ?_
          refine rn_icmp_ne (k' := 29) rfl rfl (fun hc5 => ?_) (fun hc5 => ?_)
          · skip
            refine rn_iconst (k' := 39) rfl rfl ?_
            refine rn_istore (k' := 40) (L' := [some (mR 3), some (mR 62), some (mR 6), some (mI (15)), some (mI (-1)), some (mI (0))]) rfl rfl (Nat.le_of_ble_eq_true rfl) rfl ?_
            refine rn_iload_n (k' := 41) rfl rfl rfl ?_
            refine rn_bipush (k' := 42) rfl rfl ?_
            refine rn_icmp_eq (k' := 43) rfl rfl (fun hc6 => ?_) (fun hc6 => ?_)
            · exfalso; omega
            · skip
              refine rn_iload_n (k' := 44) rfl rfl rfl ?_
              refine rn_bipush (k' := 45) rfl rfl ?_
              refine rn_icmp_ne (k' := 46) rfl rfl (fun hc7 => ?_) (fun hc7 => ?_)
              · skip
                refine rn_aload_n (k' := 51) rfl rfl rfl ?_
                refine rn_iload_n (k' := 52) rfl rfl rfl ?_
                refine rn_bipush (k' := 53) rfl rfl ?_
                refine rn_icmp_ne (k' := 54) rfl rfl (fun hc8 => ?_) (fun hc8 => ?_)
                · exfalso; omega
                · skip
                  refine rn_bipush (k' := 55) rfl rfl ?_
                  refine rn_goto rfl ?_
                  obtain ⟨A0, hA0, hc0⟩ := g_amount (μ := μ) (c := c) (s := s) (b := b) (n := n) (m := m) (p := p) (hi := 20) hC0 e0
                  have hC1 : CSt (m_upd μ 1 A0) b n m (tkN b n m p) := ⟨hC0.1, hC0.2.1, (tkN_b hC0.2.2.1).2.1, hA0.1, hA0.2.1, hA0.2.2.1⟩
                  have ty0 := eN_ok e0
                  refine rn_callP (k' := 58) (y := 61) (vs := [mR 3, mI (20)]) (S' := []) (v := some (mI (tkV b n m p))) (h' := mkh (m_upd μ 1 A0) c s) rfl rfl rfl (hc0) ?_
                  show Rn PT none kX5_readPlanLine 58 [some (mR 3), some (mR 62), some (mR 6), some (mI (15)), some (mI (-1)), some (mI (0))] [mI (tkV b n m p)] (mkh (m_upd μ 1 A0) c s) _
                  refine rn_istore (k' := 59) (L' := [some (mR 3), some (mR 62), some (mR 6), some (mI (15)), some (mI (-1)), some (mI (tkV b n m p))]) rfl rfl (Nat.le_of_ble_eq_true rfl) rfl ?_
                  refine rn_iload (k' := 60) rfl rfl rfl ?_
                  refine rn_iconst (k' := 61) rfl rfl ?_
                  refine rn_icmp_ne (k' := 62) rfl rfl (fun hc9 => ?_) (fun hc9 => ?_)
                  · skip
                    refine rn_aload_n (k' := 65) rfl rfl rfl ?_
                    refine rn_getR (k' := 66) rfl rfl K0_62 (by decide) rfl R0_62_1 ?_
                    refine rn_aload_n (k' := 67) rfl rfl rfl ?_
                    refine rn_getI (k' := 68) rfl rfl K0_62 (by decide) rfl ?_
                    show Rn PT none kX5_readPlanLine 68 [some (mR 3), some (mR 62), some (mR 6), some (mI (15)), some (mI (-1)), some (mI (tkV b n m p))] [mI (μ 62 0), mR 63] (mkh (m_upd μ 1 A0) c s) _
                    refine rn_iload_n (k' := 69) rfl rfl rfl ?_
                    refine rn_iastore (k' := 70) rfl rfl K0_63 (by omega) (by omega) ?_
                    refine rn_aload_n (k' := 71) rfl rfl rfl ?_
                    refine rn_getR (k' := 72) rfl rfl K0_62 (by decide) rfl R0_62_2 ?_
                    refine rn_aload_n (k' := 73) rfl rfl rfl ?_
                    refine rn_getI (k' := 74) rfl rfl K0_62 (by decide) rfl ?_
                    show Rn PT none kX5_readPlanLine 74 [some (mR 3), some (mR 62), some (mR 6), some (mI (15)), some (mI (-1)), some (mI (tkV b n m p))] [mI (μ 62 0), mR 64] (mkh (m_set (m_upd μ 1 A0) 63 ((μ 62 0).toNat) (15)) c s) _
                    refine rn_iload (k' := 75) rfl rfl rfl ?_
                    refine rn_iastore (k' := 76) rfl rfl K0_64 (by omega) (by omega) ?_
                    refine rn_aload_n (k' := 77) rfl rfl rfl ?_
                    refine rn_getR (k' := 78) rfl rfl K0_62 (by decide) rfl R0_62_3 ?_
                    refine rn_aload_n (k' := 79) rfl rfl rfl ?_
                    refine rn_getI (k' := 80) rfl rfl K0_62 (by decide) rfl ?_
                    show Rn PT none kX5_readPlanLine 80 [some (mR 3), some (mR 62), some (mR 6), some (mI (15)), some (mI (-1)), some (mI (tkV b n m p))] [mI (μ 62 0), mR 65] (mkh (m_set (m_set (m_upd μ 1 A0) 63 ((μ 62 0).toNat) (15)) 64 ((μ 62 0).toNat) (-1)) c s) _
                    refine rn_iload (k' := 81) rfl rfl rfl ?_
                    refine rn_iastore (k' := 82) rfl rfl K0_65 (by omega) (by omega) ?_
                    refine rn_aload_n (k' := 83) rfl rfl rfl ?_
                    obtain ⟨A1, hA1, hc1⟩ := g_endX (μ := (m_set (m_set (m_set (m_upd μ 1 A0) 63 ((μ 62 0).toNat) (15)) 64 ((μ 62 0).toNat) (-1)) 65 ((μ 62 0).toNat) (tkV b n m p))) (c := c) (s := s) (b := b) (n := n) (m := m) (p := (tkN b n m p)) hC1 e1
                    refine rn_callP (k' := 84) (y := 50) (vs := [mR 3]) (S' := []) (v := some (mI (0))) (h' := mkh (m_set (m_upd (m_set (m_set (m_set (m_upd μ 1 A0) 63 ((μ 62 0).toNat) (15)) 64 ((μ 62 0).toNat) (-1)) 65 ((μ 62 0).toNat) (tkV b n m p)) 1 A1) 3 2 (1)) c s) rfl rfl rfl (hc1) ?_
                    show Rn PT none kX5_readPlanLine 84 [some (mR 3), some (mR 62), some (mR 6), some (mI (15)), some (mI (-1)), some (mI (tkV b n m p))] [mI (0)] (mkh (m_set (m_upd (m_set (m_set (m_set (m_upd μ 1 A0) 63 ((μ 62 0).toNat) (15)) 64 ((μ 62 0).toNat) (-1)) 65 ((μ 62 0).toNat) (tkV b n m p)) 1 A1) 3 2 (1)) c s) _
                    refine rn_iret rfl (Or.inr (by omega)) ?_
                    exact ⟨_, rfl, rfl, hA1.2.2.2.1, (FrmP.s (FrmP.u (FrmP.s (FrmP.s (FrmP.s (FrmP.u FrmP.r (by decide)) (by decide)) (by decide)) (by decide)) (by decide)) (by decide))⟩
                  · exfalso; omega
              · exfalso; omega
          · exfalso; omega
    · exfalso; omega
  · exfalso; omega
set_option maxHeartbeats 1000000 in
theorem k_pl15_full {μ : Nat → Nat → Int} {c s : Nat} {b : Nat → Int} {n m p : Nat} (hC0 : CSt μ b n m p) (h5 : μ 1 5 = 1) (hx : ix (μ 4) (μ 1 6) 16 0 = 15) {l9 : Nat} (hl : μ 62 0 = (l9 : Int)) (hl3 : l9 = 30) (hl9 : l9 ≤ 30) : ∃ μ', (μ' 3 2 = 4 ∧ μ' 1 4 = μ 1 4 ∧ FrmP μ μ') ∧ Cl PT 59 [mR 3, mR 62, mR 6] (mkh μ c s) (fun r => r = (some (some (mI 0)), mkh μ' c s)) := by
  refine Cl.ex (g := fun μ' => (some (some (mI 0)), mkh μ' c s)) ?_
  refine ⟨_, PT_59, Nat.le_of_ble_eq_true rfl, ?_⟩
  show Rn PT none kX5_readPlanLine 0 [some (mR 3), some (mR 62), some (mR 6), none, none, none] [] (mkh μ c s) _
  refine rn_aload_n (k' := 1) rfl rfl rfl ?_
  refine rn_callP (k' := 2) (y := 46) (vs := [mR 3]) (S' := []) (v := some (mI (15))) (h' := mkh μ c s) rfl rfl rfl (by have hz := c_wordRead (μ := μ) (c := c) (s := s) h5; rw [hx] at hz; exact hz) ?_
  show Rn PT none kX5_readPlanLine 2 [some (mR 3), some (mR 62), some (mR 6), none, none, none] [mI (15)] (mkh μ c s) _
  refine rn_istore_n (k' := 3) (L' := [some (mR 3), some (mR 62), some (mR 6), some (mI (15)), none, none]) rfl rfl (Nat.le_of_ble_eq_true rfl) rfl ?_
  refine rn_iload_n (k' := 4) rfl rfl rfl ?_
  refine rn_bipush (k' := 5) rfl rfl ?_
  refine rn_icmp_ge (k' := 6) rfl rfl (fun hc1 => ?_) (fun hc1 => ?_)
  · skip
    refine rn_aload_n (k' := 11) rfl rfl rfl ?_
    refine rn_getI (k' := 12) rfl rfl K0_62 (by decide) rfl ?_
    refine rn_bipush (k' := 13) rfl rfl ?_
    refine rn_icmp_lt (k' := 14) rfl rfl (fun hc2 => ?_) (fun hc2 => ?_)
    · exfalso; omega
    · skip
      refine rn_aload_n (k' := 15) rfl rfl rfl ?_
      refine rn_iconst (k' := 16) rfl rfl ?_
      refine rn_callP (k' := 17) (y := 45) (vs := [mR 3, mI (4)]) (S' := []) (v := some (mI (0))) (h' := mkh (m_set μ 3 2 (4)) c s) rfl rfl rfl (g_fail (μ := μ) (e := 4)) ?_
      show Rn PT none kX5_readPlanLine 17 [some (mR 3), some (mR 62), some (mR 6), some (mI (15)), none, none] [mI (0)] (mkh (m_set μ 3 2 (4)) c s) _
      refine rn_iret rfl (Or.inr (by omega)) ?_
      exact ⟨_, rfl, rfl, rfl, (FrmP.s FrmP.r (by decide))⟩
  · exfalso; omega
set_option maxHeartbeats 1000000 in
theorem k_pl15_ok {μ : Nat → Nat → Int} {c s : Nat} {b : Nat → Int} {n m p : Nat} (hC0 : CSt μ b n m p) (h5 : μ 1 5 = 1) (hx : ix (μ 4) (μ 1 6) 16 0 = 15) {l9 : Nat} (hl : μ 62 0 = (l9 : Int)) (hl3 : ¬ l9 = 30) (hl9 : l9 ≤ 30) (e0 : eN b n m p 1 20 = 0) (e1 : tkK b n m (tkN b n m p) = 3) : ∃ μ', (CSt μ' b n m (tkN b n m (tkN b n m p)) ∧ FrmP μ μ' ∧ μ' 3 2 = μ 3 2 ∧ μ' 62 = μ 62 ∧ μ' 63 l9 = 15 ∧ (∀ j, ¬ j = l9 → μ' 63 j = μ 63 j) ∧ μ' 64 l9 = -1 ∧ (∀ j, ¬ j = l9 → μ' 64 j = μ 64 j) ∧ μ' 65 l9 = tkV b n m p ∧ (∀ j, ¬ j = l9 → μ' 65 j = μ 65 j)) ∧ Cl PT 59 [mR 3, mR 62, mR 6] (mkh μ c s) (fun r => r = (some (some (mI 1)), mkh μ' c s)) := by
  refine Cl.ex (g := fun μ' => (some (some (mI 1)), mkh μ' c s)) ?_
  refine ⟨_, PT_59, Nat.le_of_ble_eq_true rfl, ?_⟩
  show Rn PT none kX5_readPlanLine 0 [some (mR 3), some (mR 62), some (mR 6), none, none, none] [] (mkh μ c s) _
  refine rn_aload_n (k' := 1) rfl rfl rfl ?_
  refine rn_callP (k' := 2) (y := 46) (vs := [mR 3]) (S' := []) (v := some (mI (15))) (h' := mkh μ c s) rfl rfl rfl (by have hz := c_wordRead (μ := μ) (c := c) (s := s) h5; rw [hx] at hz; exact hz) ?_
  show Rn PT none kX5_readPlanLine 2 [some (mR 3), some (mR 62), some (mR 6), none, none, none] [mI (15)] (mkh μ c s) _
  refine rn_istore_n (k' := 3) (L' := [some (mR 3), some (mR 62), some (mR 6), some (mI (15)), none, none]) rfl rfl (Nat.le_of_ble_eq_true rfl) rfl ?_
  refine rn_iload_n (k' := 4) rfl rfl rfl ?_
  refine rn_bipush (k' := 5) rfl rfl ?_
  refine rn_icmp_ge (k' := 6) rfl rfl (fun hc1 => ?_) (fun hc1 => ?_)
  · skip
    refine rn_aload_n (k' := 11) rfl rfl rfl ?_
    refine rn_getI (k' := 12) rfl rfl K0_62 (by decide) rfl ?_
    refine rn_bipush (k' := 13) rfl rfl ?_
    refine rn_icmp_lt (k' := 14) rfl rfl (fun hc2 => ?_) (fun hc2 => ?_)
    · skip
      refine rn_iconst (k' := 19) rfl rfl ?_
      refine rn_istore (k' := 20) (L' := [some (mR 3), some (mR 62), some (mR 6), some (mI (15)), some (mI (-1)), none]) rfl rfl (Nat.le_of_ble_eq_true rfl) rfl ?_
      refine rn_iload_n (k' := 21) rfl rfl rfl ?_
      refine rn_bipush (k' := 22) rfl rfl ?_
      refine rn_icmp_eq (k' := 23) rfl rfl (fun hc3 => ?_) (fun hc3 => ?_)
      · exfalso; omega
      · skip
        refine rn_iload_n (k' := 24) rfl rfl rfl ?_
        refine rn_bipush (k' := 25) rfl rfl ?_
        refine rn_icmp_eq (k' := 26) rfl rfl (fun hc4 => ?_) (fun hc4 => ?_)
        · exfalso; omega
        · skip
          refine rn_iload_n (k' := 27) rfl rfl rfl ?_
          refine rn_bipush (k' := 28) rfl rfl ?_
          refine rn_icmp_ne (k' := 29) rfl rfl (fun hc5 => ?_) (fun hc5 => ?_)
          · skip
            refine rn_iconst (k' := 39) rfl rfl ?_
            refine rn_istore (k' := 40) (L' := [some (mR 3), some (mR 62), some (mR 6), some (mI (15)), some (mI (-1)), some (mI (0))]) rfl rfl (Nat.le_of_ble_eq_true rfl) rfl ?_
            refine rn_iload_n (k' := 41) rfl rfl rfl ?_
            refine rn_bipush (k' := 42) rfl rfl ?_
            refine rn_icmp_eq (k' := 43) rfl rfl (fun hc6 => ?_) (fun hc6 => ?_)
            · exfalso; omega
            · skip
              refine rn_iload_n (k' := 44) rfl rfl rfl ?_
              refine rn_bipush (k' := 45) rfl rfl ?_
              refine rn_icmp_ne (k' := 46) rfl rfl (fun hc7 => ?_) (fun hc7 => ?_)
              · skip
                refine rn_aload_n (k' := 51) rfl rfl rfl ?_
                refine rn_iload_n (k' := 52) rfl rfl rfl ?_
                refine rn_bipush (k' := 53) rfl rfl ?_
                refine rn_icmp_ne (k' := 54) rfl rfl (fun hc8 => ?_) (fun hc8 => ?_)
                · exfalso; omega
                · skip
                  refine rn_bipush (k' := 55) rfl rfl ?_
                  refine rn_goto rfl ?_
                  obtain ⟨A0, hA0, hc0⟩ := g_amount (μ := μ) (c := c) (s := s) (b := b) (n := n) (m := m) (p := p) (hi := 20) hC0 e0
                  have hC1 : CSt (m_upd μ 1 A0) b n m (tkN b n m p) := ⟨hC0.1, hC0.2.1, (tkN_b hC0.2.2.1).2.1, hA0.1, hA0.2.1, hA0.2.2.1⟩
                  have ty0 := eN_ok e0
                  refine rn_callP (k' := 58) (y := 61) (vs := [mR 3, mI (20)]) (S' := []) (v := some (mI (tkV b n m p))) (h' := mkh (m_upd μ 1 A0) c s) rfl rfl rfl (hc0) ?_
                  show Rn PT none kX5_readPlanLine 58 [some (mR 3), some (mR 62), some (mR 6), some (mI (15)), some (mI (-1)), some (mI (0))] [mI (tkV b n m p)] (mkh (m_upd μ 1 A0) c s) _
                  refine rn_istore (k' := 59) (L' := [some (mR 3), some (mR 62), some (mR 6), some (mI (15)), some (mI (-1)), some (mI (tkV b n m p))]) rfl rfl (Nat.le_of_ble_eq_true rfl) rfl ?_
                  refine rn_iload (k' := 60) rfl rfl rfl ?_
                  refine rn_iconst (k' := 61) rfl rfl ?_
                  refine rn_icmp_ne (k' := 62) rfl rfl (fun hc9 => ?_) (fun hc9 => ?_)
                  · skip
                    refine rn_aload_n (k' := 65) rfl rfl rfl ?_
                    refine rn_getR (k' := 66) rfl rfl K0_62 (by decide) rfl R0_62_1 ?_
                    refine rn_aload_n (k' := 67) rfl rfl rfl ?_
                    refine rn_getI (k' := 68) rfl rfl K0_62 (by decide) rfl ?_
                    show Rn PT none kX5_readPlanLine 68 [some (mR 3), some (mR 62), some (mR 6), some (mI (15)), some (mI (-1)), some (mI (tkV b n m p))] [mI (μ 62 0), mR 63] (mkh (m_upd μ 1 A0) c s) _
                    refine rn_iload_n (k' := 69) rfl rfl rfl ?_
                    refine rn_iastore (k' := 70) rfl rfl K0_63 (by omega) (by omega) ?_
                    refine rn_aload_n (k' := 71) rfl rfl rfl ?_
                    refine rn_getR (k' := 72) rfl rfl K0_62 (by decide) rfl R0_62_2 ?_
                    refine rn_aload_n (k' := 73) rfl rfl rfl ?_
                    refine rn_getI (k' := 74) rfl rfl K0_62 (by decide) rfl ?_
                    show Rn PT none kX5_readPlanLine 74 [some (mR 3), some (mR 62), some (mR 6), some (mI (15)), some (mI (-1)), some (mI (tkV b n m p))] [mI (μ 62 0), mR 64] (mkh (m_set (m_upd μ 1 A0) 63 ((μ 62 0).toNat) (15)) c s) _
                    refine rn_iload (k' := 75) rfl rfl rfl ?_
                    refine rn_iastore (k' := 76) rfl rfl K0_64 (by omega) (by omega) ?_
                    refine rn_aload_n (k' := 77) rfl rfl rfl ?_
                    refine rn_getR (k' := 78) rfl rfl K0_62 (by decide) rfl R0_62_3 ?_
                    refine rn_aload_n (k' := 79) rfl rfl rfl ?_
                    refine rn_getI (k' := 80) rfl rfl K0_62 (by decide) rfl ?_
                    show Rn PT none kX5_readPlanLine 80 [some (mR 3), some (mR 62), some (mR 6), some (mI (15)), some (mI (-1)), some (mI (tkV b n m p))] [mI (μ 62 0), mR 65] (mkh (m_set (m_set (m_upd μ 1 A0) 63 ((μ 62 0).toNat) (15)) 64 ((μ 62 0).toNat) (-1)) c s) _
                    refine rn_iload (k' := 81) rfl rfl rfl ?_
                    refine rn_iastore (k' := 82) rfl rfl K0_65 (by omega) (by omega) ?_
                    refine rn_aload_n (k' := 83) rfl rfl rfl ?_
                    obtain ⟨A1, hA1, hc1⟩ := g_end (μ := (m_set (m_set (m_set (m_upd μ 1 A0) 63 ((μ 62 0).toNat) (15)) 64 ((μ 62 0).toNat) (-1)) 65 ((μ 62 0).toNat) (tkV b n m p))) (c := c) (s := s) (b := b) (n := n) (m := m) (p := (tkN b n m p)) hC1 e1
                    have hC2 : CSt (m_upd (m_set (m_set (m_set (m_upd μ 1 A0) 63 ((μ 62 0).toNat) (15)) 64 ((μ 62 0).toNat) (-1)) 65 ((μ 62 0).toNat) (tkV b n m p)) 1 A1) b n m (tkN b n m (tkN b n m p)) := ⟨hC1.1, hC1.2.1, (tkN_b hC1.2.2.1).2.1, hA1.1, hA1.2.1, hA1.2.2.1⟩
                    refine rn_callP (k' := 84) (y := 50) (vs := [mR 3]) (S' := []) (v := some (mI (1))) (h' := mkh (m_upd (m_set (m_set (m_set (m_upd μ 1 A0) 63 ((μ 62 0).toNat) (15)) 64 ((μ 62 0).toNat) (-1)) 65 ((μ 62 0).toNat) (tkV b n m p)) 1 A1) c s) rfl rfl rfl (hc1) ?_
                    show Rn PT none kX5_readPlanLine 84 [some (mR 3), some (mR 62), some (mR 6), some (mI (15)), some (mI (-1)), some (mI (tkV b n m p))] [mI (1)] (mkh (m_upd (m_set (m_set (m_set (m_upd μ 1 A0) 63 ((μ 62 0).toNat) (15)) 64 ((μ 62 0).toNat) (-1)) 65 ((μ 62 0).toNat) (tkV b n m p)) 1 A1) c s) _
                    refine rn_iret rfl (Or.inr (by omega)) ?_
                    have hi9 : (μ 62 0).toNat = l9 := by omega
                    exact ⟨_, rfl, hC2, (FrmP.u (FrmP.s (FrmP.s (FrmP.s (FrmP.u FrmP.r (by decide)) (by decide)) (by decide)) (by decide)) (by decide)), rfl, rfl, set_hit hi9, (fun j hj => set_mis (by omega)), set_hit hi9, (fun j hj => set_mis (by omega)), set_hit hi9, (fun j hj => set_mis (by omega))⟩
                  · exfalso; omega
              · exfalso; omega
          · exfalso; omega
    · exfalso; omega
  · exfalso; omega
theorem k_plA {μ : Nat → Nat → Int} {c s : Nat} (h5 : ¬ μ 1 5 = 1) : Cl PT 59 [mR 3, mR 62, mR 6] (mkh μ c s) (fun r => r = (some (some (mI 0)), mkh (m_set μ 3 2 1) c s)) := by
  refine ⟨_, PT_59, Nat.le_of_ble_eq_true rfl, ?_⟩
  show Rn PT none kX5_readPlanLine 0 [some (mR 3), some (mR 62), some (mR 6), none, none, none] [] (mkh μ c s) _
  refine rn_aload_n (k' := 1) rfl rfl rfl ?_
  refine rn_callP (k' := 2) (y := 46) (vs := [mR 3]) (S' := []) (v := some (mI (-1))) (h' := mkh μ c s) rfl rfl rfl (c_wordReadX (μ := μ) h5) ?_
  show Rn PT none kX5_readPlanLine 2 [some (mR 3), some (mR 62), some (mR 6), none, none, none] [mI (-1)] (mkh μ c s) _
  refine rn_istore_n (k' := 3) (L' := [some (mR 3), some (mR 62), some (mR 6), some (mI (-1)), none, none]) rfl rfl (Nat.le_of_ble_eq_true rfl) rfl ?_
  refine rn_iload_n (k' := 4) rfl rfl rfl ?_
  refine rn_bipush (k' := 5) rfl rfl ?_
  refine rn_icmp_ge (k' := 6) rfl rfl (fun hc1 => ?_) (fun hc1 => ?_)
  · exfalso; omega
  · skip
    refine rn_aload_n (k' := 7) rfl rfl rfl ?_
    refine rn_iconst (k' := 8) rfl rfl ?_
    refine rn_callP (k' := 9) (y := 45) (vs := [mR 3, mI (1)]) (S' := []) (v := some (mI (0))) (h' := mkh (m_set μ 3 2 (1)) c s) rfl rfl rfl (g_fail (μ := μ) (e := 1)) ?_
    show Rn PT none kX5_readPlanLine 9 [some (mR 3), some (mR 62), some (mR 6), some (mI (-1)), none, none] [mI (0)] (mkh (m_set μ 3 2 (1)) c s) _
    refine rn_iret rfl (Or.inr (by omega)) ?_
    rfl
theorem k_plB {μ : Nat → Nat → Int} {c s : Nat} (h5 : μ 1 5 = 1) (hx : ix (μ 4) (μ 1 6) 16 0 < 11) : Cl PT 59 [mR 3, mR 62, mR 6] (mkh μ c s) (fun r => r = (some (some (mI 0)), mkh (m_set μ 3 2 1) c s)) := by
  refine ⟨_, PT_59, Nat.le_of_ble_eq_true rfl, ?_⟩
  show Rn PT none kX5_readPlanLine 0 [some (mR 3), some (mR 62), some (mR 6), none, none, none] [] (mkh μ c s) _
  refine rn_aload_n (k' := 1) rfl rfl rfl ?_
  refine rn_callP (k' := 2) (y := 46) (vs := [mR 3]) (S' := []) (v := some (mI (ix (μ 4) (μ 1 6) 16 0))) (h' := mkh μ c s) rfl rfl rfl (c_wordRead (μ := μ) h5) ?_
  show Rn PT none kX5_readPlanLine 2 [some (mR 3), some (mR 62), some (mR 6), none, none, none] [mI (ix (μ 4) (μ 1 6) 16 0)] (mkh μ c s) _
  refine rn_istore_n (k' := 3) (L' := [some (mR 3), some (mR 62), some (mR 6), some (mI (ix (μ 4) (μ 1 6) 16 0)), none, none]) rfl rfl (Nat.le_of_ble_eq_true rfl) rfl ?_
  refine rn_iload_n (k' := 4) rfl rfl rfl ?_
  refine rn_bipush (k' := 5) rfl rfl ?_
  refine rn_icmp_ge (k' := 6) rfl rfl (fun hc1 => ?_) (fun hc1 => ?_)
  · exfalso; omega
  · skip
    refine rn_aload_n (k' := 7) rfl rfl rfl ?_
    refine rn_iconst (k' := 8) rfl rfl ?_
    refine rn_callP (k' := 9) (y := 45) (vs := [mR 3, mI (1)]) (S' := []) (v := some (mI (0))) (h' := mkh (m_set μ 3 2 (1)) c s) rfl rfl rfl (g_fail (μ := μ) (e := 1)) ?_
    show Rn PT none kX5_readPlanLine 9 [some (mR 3), some (mR 62), some (mR 6), some (mI (ix (μ 4) (μ 1 6) 16 0)), none, none] [mI (0)] (mkh (m_set μ 3 2 (1)) c s) _
    refine rn_iret rfl (Or.inr (by omega)) ?_
    rfl
