variable {N : Int}
/-! ===== printed by wip/whole/gen9X.py: row lines as calls ===== -/
set_option maxHeartbeats 1000000 in
theorem k_row {μ : Nat → Nat → Int} {c s : Nat} {b : Nat → Int} {n m p : Nat} {le mo y9 c9 : Nat} (hy9 : y9 ≤ 10) (hc9 : c9 ≤ 10) (hle : (y9 = 0 → le = 2 ∧ mo = 10) ∧ (¬ y9 = 0 → le = c9 ∧ mo = c9)) (hC0 : CSt μ b n m p) (h8 : μ 54 8 = (c9 : Int)) (h9 : μ 54 9 = (y9 : Int)) (hl : μ 54 7 ≤ μ 54 9) (hx : ¬ y9 = 10) : Cl PT 52 [mR 3, mR 54] (mkh μ c s) (fun r => ∃ μ', r = (some (some (mI (if (rowO b n m le mo 0 p).1 = 0 then 1 else 0))), mkh μ' c s) ∧ CF μ μ' ∧ (¬ (rowO b n m le mo 0 p).1 = 0 → μ' 3 2 = (rowO b n m le mo 0 p).1 ∧ μ' 1 4 = ((tkP b n m (rowO b n m le mo 0 p).2.1 : Nat) : Int)) ∧ ((rowO b n m le mo 0 p).1 = 0 → CSt μ' b n m (tkN b n m (rowO b n m le mo 0 p).2.1) ∧ μ' 3 2 = μ 3 2 ∧ μ' 54 8 = (((rowO b n m le mo 0 p).2.2 : Nat) : Int) ∧ μ' 54 9 = μ 54 9 + 1 ∧ (∀ j, ¬ j = 8 → ¬ j = 9 → μ' 54 j = μ 54 j) ∧ μ' 55 = rowG b n m (10 * y9) mo 0 p (μ 55) ∧ μ' 56 = μ 56 ∧ μ' 57 = μ 57 ∧ μ' 58 = μ 58 ∧ μ' 59 = μ 59 ∧ μ' 60 = μ 60 ∧ μ' 61 = μ 61)) := by
  refine ⟨_, PT_52, Nat.le_of_ble_eq_true rfl, ?_⟩
  show Rn PT none kX5_readRow 0 [some (mR 3), some (mR 54), none, none, none] [] (mkh μ c s) _
  refine rn_aload_n (k' := 1) rfl rfl rfl ?_
  refine rn_getI (k' := 2) rfl rfl K0_54 (by decide) rfl ?_
  refine rn_aload_n (k' := 3) rfl rfl rfl ?_
  refine rn_getI (k' := 4) rfl rfl K0_54 (by decide) rfl ?_
  refine rn_icmp_le (k' := 5) rfl rfl (fun hc1 => ?_) (fun hc1 => ?_)
  · skip
    refine rn_aload_n (k' := 10) rfl rfl rfl ?_
    refine rn_getI (k' := 11) rfl rfl K0_54 (by decide) rfl ?_
    refine rn_bipush (k' := 12) rfl rfl ?_
    refine rn_icmp_lt (k' := 13) rfl rfl (fun hc2 => ?_) (fun hc2 => ?_)
    · skip
      refine rn_aload_n (k' := 18) rfl rfl rfl ?_
      refine rn_getI (k' := 19) rfl rfl K0_54 (by decide) rfl ?_
      refine rn_if_ne (k' := 20) rfl rfl (fun hc3 => ?_) (fun hc3 => ?_)
      · skip
        refine rn_aload_n (k' := 23) rfl rfl rfl ?_
        refine rn_getI (k' := 24) rfl rfl K0_54 (by decide) rfl ?_
        refine rn_istore_n (k' := 25) (L' := [some (mR 3), some (mR 54), some (mI (μ 54 8)), none, none]) rfl rfl (Nat.le_of_ble_eq_true rfl) rfl ?_
        refine rn_aload_n (k' := 26) rfl rfl rfl ?_
        refine rn_getI (k' := 27) rfl rfl K0_54 (by decide) rfl ?_
        refine rn_if_ne (k' := 28) rfl rfl (fun hc4 => ?_) (fun hc4 => ?_)
        · skip
          refine rn_aload_n (k' := 31) rfl rfl rfl ?_
          refine rn_getI (k' := 32) rfl rfl K0_54 (by decide) rfl ?_
          refine rn_istore_n (k' := 33) (L' := [some (mR 3), some (mR 54), some (mI (μ 54 8)), some (mI (μ 54 8)), none]) rfl rfl (Nat.le_of_ble_eq_true rfl) rfl ?_
          refine rn_iconst (k' := 34) rfl rfl ?_
          refine rn_istore (k' := 35) (L' := [some (mR 3), some (mR 54), some (mI (μ 54 8)), some (mI (μ 54 8)), some (mI (0))]) rfl rfl (Nat.le_of_ble_eq_true rfl) rfl ?_
          obtain ⟨l1, l2⟩ := hle.2 (by omega)
          rw [l1, l2]
          rw [h8]
          have hz := l_rowC (μ := μ) (c := c) (s := s) (b := b) (n := n) (m := m) (le := c9) (mo := c9) (y9 := y9) (by omega) h9 (by omega) c9 0 _ p (μ 1) (μ 55) rfl (by omega) (by rw [upd_self (μ := μ) (a := 55), upd_self (μ := μ) (a := 1)]; exact hC0) (fun z j => (z j).1)
          rw [upd_self (μ := μ) (a := 55), upd_self (μ := μ) (a := 1)] at hz
          exact hz
        · skip
          refine rn_bipush (k' := 29) rfl rfl ?_
          refine rn_goto rfl ?_
          refine rn_istore_n (k' := 33) (L' := [some (mR 3), some (mR 54), some (mI (μ 54 8)), some (mI (10)), none]) rfl rfl (Nat.le_of_ble_eq_true rfl) rfl ?_
          refine rn_iconst (k' := 34) rfl rfl ?_
          refine rn_istore (k' := 35) (L' := [some (mR 3), some (mR 54), some (mI (μ 54 8)), some (mI (10)), some (mI (0))]) rfl rfl (Nat.le_of_ble_eq_true rfl) rfl ?_
          exfalso; omega
      · skip
        refine rn_iconst (k' := 21) rfl rfl ?_
        refine rn_goto rfl ?_
        refine rn_istore_n (k' := 25) (L' := [some (mR 3), some (mR 54), some (mI (2)), none, none]) rfl rfl (Nat.le_of_ble_eq_true rfl) rfl ?_
        refine rn_aload_n (k' := 26) rfl rfl rfl ?_
        refine rn_getI (k' := 27) rfl rfl K0_54 (by decide) rfl ?_
        refine rn_if_ne (k' := 28) rfl rfl (fun hc5 => ?_) (fun hc5 => ?_)
        · skip
          refine rn_aload_n (k' := 31) rfl rfl rfl ?_
          refine rn_getI (k' := 32) rfl rfl K0_54 (by decide) rfl ?_
          refine rn_istore_n (k' := 33) (L' := [some (mR 3), some (mR 54), some (mI (2)), some (mI (μ 54 8)), none]) rfl rfl (Nat.le_of_ble_eq_true rfl) rfl ?_
          refine rn_iconst (k' := 34) rfl rfl ?_
          refine rn_istore (k' := 35) (L' := [some (mR 3), some (mR 54), some (mI (2)), some (mI (μ 54 8)), some (mI (0))]) rfl rfl (Nat.le_of_ble_eq_true rfl) rfl ?_
          exfalso; omega
        · skip
          refine rn_bipush (k' := 29) rfl rfl ?_
          refine rn_goto rfl ?_
          refine rn_istore_n (k' := 33) (L' := [some (mR 3), some (mR 54), some (mI (2)), some (mI (10)), none]) rfl rfl (Nat.le_of_ble_eq_true rfl) rfl ?_
          refine rn_iconst (k' := 34) rfl rfl ?_
          refine rn_istore (k' := 35) (L' := [some (mR 3), some (mR 54), some (mI (2)), some (mI (10)), some (mI (0))]) rfl rfl (Nat.le_of_ble_eq_true rfl) rfl ?_
          obtain ⟨l1, l2⟩ := hle.1 (by omega)
          rw [l1, l2]
          have hz := l_rowC (μ := μ) (c := c) (s := s) (b := b) (n := n) (m := m) (le := 2) (mo := 10) (y9 := y9) (by omega) h9 (by omega) 10 0 _ p (μ 1) (μ 55) rfl (by omega) (by rw [upd_self (μ := μ) (a := 55), upd_self (μ := μ) (a := 1)]; exact hC0) (fun z j => (z j).1)
          rw [upd_self (μ := μ) (a := 55), upd_self (μ := μ) (a := 1)] at hz
          exact hz
    · exfalso; omega
  · exfalso; omega
theorem k_row_had {μ : Nat → Nat → Int} {c s : Nat} (hl : ¬ μ 54 7 ≤ μ 54 9) : ∃ μ', (μ' 3 2 = 3 ∧ μ' 1 4 = μ 1 4 ∧ CF μ μ') ∧ Cl PT 52 [mR 3, mR 54] (mkh μ c s) (fun r => r = (some (some (mI 0)), mkh μ' c s)) := by
  refine Cl.ex (g := fun μ' => (some (some (mI 0)), mkh μ' c s)) ?_
  refine ⟨_, PT_52, Nat.le_of_ble_eq_true rfl, ?_⟩
  show Rn PT none kX5_readRow 0 [some (mR 3), some (mR 54), none, none, none] [] (mkh μ c s) _
  refine rn_aload_n (k' := 1) rfl rfl rfl ?_
  refine rn_getI (k' := 2) rfl rfl K0_54 (by decide) rfl ?_
  refine rn_aload_n (k' := 3) rfl rfl rfl ?_
  refine rn_getI (k' := 4) rfl rfl K0_54 (by decide) rfl ?_
  refine rn_icmp_le (k' := 5) rfl rfl (fun hc1 => ?_) (fun hc1 => ?_)
  · exfalso; omega
  · skip
    refine rn_aload_n (k' := 6) rfl rfl rfl ?_
    refine rn_iconst (k' := 7) rfl rfl ?_
    refine rn_callP (k' := 8) (y := 45) (vs := [mR 3, mI (3)]) (S' := []) (v := some (mI (0))) (h' := mkh (m_set μ 3 2 (3)) c s) rfl rfl rfl (g_fail (μ := μ) (e := 3)) ?_
    show Rn PT none kX5_readRow 8 [some (mR 3), some (mR 54), none, none, none] [mI (0)] (mkh (m_set μ 3 2 (3)) c s) _
    refine rn_iret rfl (Or.inr (by omega)) ?_
    exact ⟨_, rfl, rfl, rfl, (CF.s CF.r (by decide))⟩
theorem k_row_full {μ : Nat → Nat → Int} {c s : Nat} (hl : μ 54 7 ≤ μ 54 9) (hx : 10 ≤ μ 54 9) : ∃ μ', (μ' 3 2 = 4 ∧ μ' 1 4 = μ 1 4 ∧ CF μ μ') ∧ Cl PT 52 [mR 3, mR 54] (mkh μ c s) (fun r => r = (some (some (mI 0)), mkh μ' c s)) := by
  refine Cl.ex (g := fun μ' => (some (some (mI 0)), mkh μ' c s)) ?_
  refine ⟨_, PT_52, Nat.le_of_ble_eq_true rfl, ?_⟩
  show Rn PT none kX5_readRow 0 [some (mR 3), some (mR 54), none, none, none] [] (mkh μ c s) _
  refine rn_aload_n (k' := 1) rfl rfl rfl ?_
  refine rn_getI (k' := 2) rfl rfl K0_54 (by decide) rfl ?_
  refine rn_aload_n (k' := 3) rfl rfl rfl ?_
  refine rn_getI (k' := 4) rfl rfl K0_54 (by decide) rfl ?_
  refine rn_icmp_le (k' := 5) rfl rfl (fun hc1 => ?_) (fun hc1 => ?_)
  · skip
    refine rn_aload_n (k' := 10) rfl rfl rfl ?_
    refine rn_getI (k' := 11) rfl rfl K0_54 (by decide) rfl ?_
    refine rn_bipush (k' := 12) rfl rfl ?_
    refine rn_icmp_lt (k' := 13) rfl rfl (fun hc2 => ?_) (fun hc2 => ?_)
    · exfalso; omega
    · skip
      refine rn_aload_n (k' := 14) rfl rfl rfl ?_
      refine rn_iconst (k' := 15) rfl rfl ?_
      refine rn_callP (k' := 16) (y := 45) (vs := [mR 3, mI (4)]) (S' := []) (v := some (mI (0))) (h' := mkh (m_set μ 3 2 (4)) c s) rfl rfl rfl (g_fail (μ := μ) (e := 4)) ?_
      show Rn PT none kX5_readRow 16 [some (mR 3), some (mR 54), none, none, none] [mI (0)] (mkh (m_set μ 3 2 (4)) c s) _
      refine rn_iret rfl (Or.inr (by omega)) ?_
      exact ⟨_, rfl, rfl, rfl, (CF.s CF.r (by decide))⟩
  · exfalso; omega
theorem k_law_had {μ : Nat → Nat → Int} {c s : Nat} (ht : ¬ μ 54 16 = 0) : ∃ μ', (μ' 3 2 = 3 ∧ μ' 1 4 = μ 1 4 ∧ CF μ μ') ∧ Cl PT 53 [mR 3, mR 54] (mkh μ c s) (fun r => r = (some (some (mI 0)), mkh μ' c s)) := by
  refine Cl.ex (g := fun μ' => (some (some (mI 0)), mkh μ' c s)) ?_
  refine ⟨_, PT_53, Nat.le_of_ble_eq_true rfl, ?_⟩
  show Rn PT none kX5_readLaw 0 [some (mR 3), some (mR 54)] [] (mkh μ c s) _
  refine rn_aload_n (k' := 1) rfl rfl rfl ?_
  refine rn_getZ (k' := 2) rfl rfl K0_54 (by decide) rfl ?_
  refine rn_if_eq (k' := 3) rfl rfl (fun hc1 => ?_) (fun hc1 => ?_)
  · exfalso; omega
  · skip
    refine rn_aload_n (k' := 4) rfl rfl rfl ?_
    refine rn_iconst (k' := 5) rfl rfl ?_
    refine rn_callP (k' := 6) (y := 45) (vs := [mR 3, mI (3)]) (S' := []) (v := some (mI (0))) (h' := mkh (m_set μ 3 2 (3)) c s) rfl rfl rfl (g_fail (μ := μ) (e := 3)) ?_
    show Rn PT none kX5_readLaw 6 [some (mR 3), some (mR 54)] [mI (0)] (mkh (m_set μ 3 2 (3)) c s) _
    refine rn_iret rfl (Or.inr (by omega)) ?_
    exact ⟨_, rfl, rfl, rfl, (CF.s CF.r (by decide))⟩
theorem k_wood_had {μ : Nat → Nat → Int} {c s : Nat} (ht : ¬ μ 54 17 = 0) : ∃ μ', (μ' 3 2 = 3 ∧ μ' 1 4 = μ 1 4 ∧ CF μ μ') ∧ Cl PT 54 [mR 3, mR 54] (mkh μ c s) (fun r => r = (some (some (mI 0)), mkh μ' c s)) := by
  refine Cl.ex (g := fun μ' => (some (some (mI 0)), mkh μ' c s)) ?_
  refine ⟨_, PT_54, Nat.le_of_ble_eq_true rfl, ?_⟩
  show Rn PT none kX5_readWood 0 [some (mR 3), some (mR 54)] [] (mkh μ c s) _
  refine rn_aload_n (k' := 1) rfl rfl rfl ?_
  refine rn_getZ (k' := 2) rfl rfl K0_54 (by decide) rfl ?_
  refine rn_if_eq (k' := 3) rfl rfl (fun hc1 => ?_) (fun hc1 => ?_)
  · exfalso; omega
  · skip
    refine rn_aload_n (k' := 4) rfl rfl rfl ?_
    refine rn_iconst (k' := 5) rfl rfl ?_
    refine rn_callP (k' := 6) (y := 45) (vs := [mR 3, mI (3)]) (S' := []) (v := some (mI (0))) (h' := mkh (m_set μ 3 2 (3)) c s) rfl rfl rfl (g_fail (μ := μ) (e := 3)) ?_
    show Rn PT none kX5_readWood 6 [some (mR 3), some (mR 54)] [mI (0)] (mkh (m_set μ 3 2 (3)) c s) _
    refine rn_iret rfl (Or.inr (by omega)) ?_
    exact ⟨_, rfl, rfl, rfl, (CF.s CF.r (by decide))⟩
set_option maxHeartbeats 1000000 in
theorem m_row {μ : Nat → Nat → Int} {c s : Nat} {b : Nat → Int} {n m p : Nat} {le mo y9 c9 : Nat} (hy9 : y9 ≤ 10) (hc9 : c9 ≤ 10) (hle : (y9 = 0 → le = 2 ∧ mo = 10) ∧ (¬ y9 = 0 → le = c9 ∧ mo = c9)) (hM : MSt μ b n m p) (hk : tkK b n m p = 1) (h8 : μ 121 0 = (c9 : Int)) (h9 : μ 121 1 = (y9 : Int)) (hl : μ 118 21 = 0) (hx : ¬ y9 = 10) : Cl PT 185 [mR 118] (mkh μ c s) (fun r => ∃ ν', r = (some (some (mI (if (rowO b n m le mo 0 (tkN b n m p)).1 = 0 then 1 else 0))), mkh ν' c s) ∧ MFr μ ν' ∧ (¬ (rowO b n m le mo 0 (tkN b n m p)).1 = 0 → ν' 118 15 = (rowO b n m le mo 0 (tkN b n m p)).1 ∧ ν' 118 16 = ((tkP b n m (rowO b n m le mo 0 (tkN b n m p)).2.1 : Nat) : Int)) ∧ ((rowO b n m le mo 0 (tkN b n m p)).1 = 0 → MSt ν' b n m (rowO b n m le mo 0 (tkN b n m p)).2.1 ∧ tkK b n m (rowO b n m le mo 0 (tkN b n m p)).2.1 = 3 ∧ ν' 118 15 = μ 118 15 ∧ ν' 118 20 = μ 118 20 ∧ ν' 118 21 = μ 118 21 ∧ ν' 121 = fs (fs (rowG b n m (9 + 10 * y9) mo 0 (tkN b n m p) (μ 121)) 0 (((rowO b n m le mo 0 (tkN b n m p)).2.2 : Nat) : Int)) 1 ((y9 : Int) + 1) ∧ ν' 123 = μ 123)) := by
  refine ⟨_, PT_185, Nat.le_of_ble_eq_true rfl, ?_⟩
  show Rn PT none kX12_readRow 0 [some (mR 118), none, none] [] (mkh μ c s) _
  refine rn_aload_n (k' := 1) rfl rfl rfl ?_
  refine rn_getZ (k' := 2) rfl rfl K0_118 (by decide) rfl ?_
  refine rn_if_eq (k' := 3) rfl rfl (fun hc1 => ?_) (fun hc1 => ?_)
  · skip
    refine rn_aload_n (k' := 8) rfl rfl rfl ?_
    refine rn_getR (k' := 9) rfl rfl K0_118 (by decide) rfl R0_118_7 ?_
    refine rn_iconst (k' := 10) rfl rfl ?_
    refine rn_iaload (k' := 11) rfl rfl K0_121 (by omega) (by omega) ?_
    show Rn PT none kX12_readRow 11 [some (mR 118), none, none] [mI (μ 121 1)] (mkh μ c s) _
    refine rn_bipush (k' := 12) rfl rfl ?_
    refine rn_icmp_ne (k' := 13) rfl rfl (fun hc2 => ?_) (fun hc2 => ?_)
    · skip
      refine rn_aload_n (k' := 18) rfl rfl rfl ?_
      obtain ⟨Ha, ⟨hma, hfa_⟩, hca⟩ := g_next2 (μ := μ) (c := c) (s := s) (b := b) (n := n) (m := m) (p := p) hM (by omega)
      have hfa : FRt Ha (μ 118) := hfa_.t
      have hM0 : MSt (m_upd μ 118 Ha) b n m (tkN b n m p) := ⟨hM.1, hM.2.1, hM.2.2.1, (tkN_b hM.2.2.2.1).2.1, hma⟩
      refine rn_callP (k' := 19) (y := 175) (vs := [mR 118]) (S' := []) (v := none) (h' := mkh (m_upd μ 118 Ha) c s) rfl rfl rfl (hca) ?_
      show Rn PT none kX12_readRow 19 [some (mR 118), none, none] [] (mkh (m_upd μ 118 Ha) c s) _
      refine rn_iconst (k' := 20) rfl rfl ?_
      refine rn_istore_n (k' := 21) (L' := [some (mR 118), some (mI (0)), none]) rfl rfl (Nat.le_of_ble_eq_true rfl) rfl ?_
      refine rn_aload_n (k' := 22) rfl rfl rfl ?_
      refine rn_getR (k' := 23) rfl rfl K0_118 (by decide) rfl R0_118_7 ?_
      refine rn_iconst (k' := 24) rfl rfl ?_
      refine rn_iaload (k' := 25) rfl rfl K0_121 (by omega) (by omega) ?_
      show Rn PT none kX12_readRow 25 [some (mR 118), some (mI (0)), none] [mI (μ 121 1)] (mkh (m_upd μ 118 Ha) c s) _
      refine rn_if_ne (k' := 26) rfl rfl (fun hc3 => ?_) (fun hc3 => ?_)
      · skip
        refine rn_aload_n (k' := 29) rfl rfl rfl ?_
        refine rn_getR (k' := 30) rfl rfl K0_118 (by decide) rfl R0_118_7 ?_
        refine rn_iconst (k' := 31) rfl rfl ?_
        refine rn_iaload (k' := 32) rfl rfl K0_121 (by omega) (by omega) ?_
        show Rn PT none kX12_readRow 32 [some (mR 118), some (mI (0)), none] [mI (μ 121 0)] (mkh (m_upd μ 118 Ha) c s) _
        refine rn_istore_n (k' := 33) (L' := [some (mR 118), some (mI (0)), some (mI (μ 121 0))]) rfl rfl (Nat.le_of_ble_eq_true rfl) rfl ?_
        obtain ⟨l1, l2⟩ := hle.2 (by omega)
        rw [l1, l2]
        rw [h8]
        have hz := l_rowM (μ := μ) (c := c) (s := s) (b := b) (n := n) (m := m) (le := c9) (mo := c9) (y9 := y9) (c9 := c9) (by omega) (by omega) hc9 ⟨fun z => by omega, fun z => by omega⟩ c9 0 _ (tkN b n m p) Ha (μ 121) rfl (by omega) (by rw [upd_self (μ := μ) (a := 121)]; exact hM0) hfa h8 h9
        rw [upd_self (μ := μ) (a := 121)] at hz
        exact hz
      · skip
        refine rn_bipush (k' := 27) rfl rfl ?_
        refine rn_goto rfl ?_
        refine rn_istore_n (k' := 33) (L' := [some (mR 118), some (mI (0)), some (mI (10))]) rfl rfl (Nat.le_of_ble_eq_true rfl) rfl ?_
        obtain ⟨l1, l2⟩ := hle.1 (by omega)
        rw [l1, l2]
        have hz := l_rowM (μ := μ) (c := c) (s := s) (b := b) (n := n) (m := m) (le := 2) (mo := 10) (y9 := y9) (c9 := c9) (by omega) (by omega) hc9 ⟨fun z => by omega, fun z => by omega⟩ 10 0 _ (tkN b n m p) Ha (μ 121) rfl (by omega) (by rw [upd_self (μ := μ) (a := 121)]; exact hM0) hfa h8 h9
        rw [upd_self (μ := μ) (a := 121)] at hz
        exact hz
    · exfalso; omega
  · exfalso; omega
theorem m_row_had {μ : Nat → Nat → Int} {c s : Nat} {b : Nat → Int} {n m p : Nat} (hM : MSt μ b n m p) (hl : ¬ μ 118 21 = 0) : ∃ ν', (ν' 118 15 = 3 ∧ ν' 118 16 = ((tkP b n m p : Nat) : Int) ∧ MFr μ ν') ∧ Cl PT 185 [mR 118] (mkh μ c s) (fun r => r = (some (some (mI 0)), mkh ν' c s)) := by
  refine Cl.ex (g := fun ν' => (some (some (mI 0)), mkh ν' c s)) ?_
  refine ⟨_, PT_185, Nat.le_of_ble_eq_true rfl, ?_⟩
  show Rn PT none kX12_readRow 0 [some (mR 118), none, none] [] (mkh μ c s) _
  refine rn_aload_n (k' := 1) rfl rfl rfl ?_
  refine rn_getZ (k' := 2) rfl rfl K0_118 (by decide) rfl ?_
  refine rn_if_eq (k' := 3) rfl rfl (fun hc1 => ?_) (fun hc1 => ?_)
  · exfalso; omega
  · skip
    refine rn_aload_n (k' := 4) rfl rfl rfl ?_
    refine rn_iconst (k' := 5) rfl rfl ?_
    refine rn_callP (k' := 6) (y := 176) (vs := [mR 118, mI (3)]) (S' := []) (v := some (mI (0))) (h' := mkh (m_set (m_set μ 118 15 (3)) 118 16 (μ 118 12)) c s) rfl rfl rfl (g_bad (μ := μ) (e := 3)) ?_
    show Rn PT none kX12_readRow 6 [some (mR 118), none, none] [mI (0)] (mkh (m_set (m_set μ 118 15 (3)) 118 16 (μ 118 12)) c s) _
    refine rn_iret rfl (Or.inr (by omega)) ?_
    exact ⟨_, rfl, rfl, hM.2.2.2.2.2.2.1, (MFr.s (MFr.s MFr.r (by decide)) (by decide))⟩
theorem m_row_full {μ : Nat → Nat → Int} {c s : Nat} {b : Nat → Int} {n m p : Nat} (hM : MSt μ b n m p) (hl : μ 118 21 = 0) (hx : μ 121 1 = 10) : ∃ ν', (ν' 118 15 = 4 ∧ ν' 118 16 = ((tkP b n m p : Nat) : Int) ∧ MFr μ ν') ∧ Cl PT 185 [mR 118] (mkh μ c s) (fun r => r = (some (some (mI 0)), mkh ν' c s)) := by
  refine Cl.ex (g := fun ν' => (some (some (mI 0)), mkh ν' c s)) ?_
  refine ⟨_, PT_185, Nat.le_of_ble_eq_true rfl, ?_⟩
  show Rn PT none kX12_readRow 0 [some (mR 118), none, none] [] (mkh μ c s) _
  refine rn_aload_n (k' := 1) rfl rfl rfl ?_
  refine rn_getZ (k' := 2) rfl rfl K0_118 (by decide) rfl ?_
  refine rn_if_eq (k' := 3) rfl rfl (fun hc1 => ?_) (fun hc1 => ?_)
  · skip
    refine rn_aload_n (k' := 8) rfl rfl rfl ?_
    refine rn_getR (k' := 9) rfl rfl K0_118 (by decide) rfl R0_118_7 ?_
    refine rn_iconst (k' := 10) rfl rfl ?_
    refine rn_iaload (k' := 11) rfl rfl K0_121 (by omega) (by omega) ?_
    show Rn PT none kX12_readRow 11 [some (mR 118), none, none] [mI (μ 121 1)] (mkh μ c s) _
    refine rn_bipush (k' := 12) rfl rfl ?_
    refine rn_icmp_ne (k' := 13) rfl rfl (fun hc2 => ?_) (fun hc2 => ?_)
    · exfalso; omega
    · skip
      refine rn_aload_n (k' := 14) rfl rfl rfl ?_
      refine rn_iconst (k' := 15) rfl rfl ?_
      refine rn_callP (k' := 16) (y := 176) (vs := [mR 118, mI (4)]) (S' := []) (v := some (mI (0))) (h' := mkh (m_set (m_set μ 118 15 (4)) 118 16 (μ 118 12)) c s) rfl rfl rfl (g_bad (μ := μ) (e := 4)) ?_
      show Rn PT none kX12_readRow 16 [some (mR 118), none, none] [mI (0)] (mkh (m_set (m_set μ 118 15 (4)) 118 16 (μ 118 12)) c s) _
      refine rn_iret rfl (Or.inr (by omega)) ?_
      exact ⟨_, rfl, rfl, hM.2.2.2.2.2.2.1, (MFr.s (MFr.s MFr.r (by decide)) (by decide))⟩
  · exfalso; omega
