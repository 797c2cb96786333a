variable {N : Int}
/-! ===== printed by wip/whole/gen36.py: pairs of small calls ===== -/
set_option maxHeartbeats 2000000 in
theorem c_X12_isIn {μ : Nat → Nat → Int} {c s : Nat} {v lo hi : Int} : Cl PT 167 [mI v, mI lo, mI hi] (mkh μ c s) (fun r => r = (some (some (mI (if lo ≤ v ∧ v ≤ hi then 1 else 0))), mkh (μ) c s)) := by
  refine ⟨_, PT_167, Nat.le_of_ble_eq_true rfl, ?_⟩
  show Rn PT none kX12_isIn 0 [some (mI (v)), some (mI (lo)), some (mI (hi))] [] (mkh μ c s) _
  refine rn_iload_n (k' := 1) rfl rfl rfl ?_
  refine rn_iload_n (k' := 2) rfl rfl rfl ?_
  refine rn_icmp_lt (k' := 3) rfl rfl (fun hc1 => ?_) (fun hc1 => ?_)
  · skip
    refine rn_iconst (k' := 9) rfl rfl ?_
    refine rn_iret rfl (Or.inr (by omega)) ?_
    first | rfl | (rw [if_pos (by omega), if_pos (by omega)]; done) | (rw [if_neg (by omega), if_neg (by omega)]; done) | (rw [if_pos (by omega)]; done) | (rw [if_neg (by omega)]; done)
  · skip
    refine rn_iload_n (k' := 4) rfl rfl rfl ?_
    refine rn_iload_n (k' := 5) rfl rfl rfl ?_
    refine rn_icmp_gt (k' := 6) rfl rfl (fun hc2 => ?_) (fun hc2 => ?_)
    · skip
      refine rn_iconst (k' := 9) rfl rfl ?_
      refine rn_iret rfl (Or.inr (by omega)) ?_
      first | rfl | (rw [if_pos (by omega), if_pos (by omega)]; done) | (rw [if_neg (by omega), if_neg (by omega)]; done) | (rw [if_pos (by omega)]; done) | (rw [if_neg (by omega)]; done)
    · skip
      refine rn_iconst (k' := 7) rfl rfl ?_
      refine rn_goto rfl ?_
      refine rn_iret rfl (Or.inr (by omega)) ?_
      first | rfl | (rw [if_pos (by omega), if_pos (by omega)]; done) | (rw [if_neg (by omega), if_neg (by omega)]; done) | (rw [if_pos (by omega)]; done) | (rw [if_neg (by omega)]; done)
set_option maxHeartbeats 2000000 in
theorem c_X11_fault {μ : Nat → Nat → Int} {c s : Nat} : Cl PT 104 [mR 0] (mkh μ c s) (fun r => r = (some (some (mI (μ 3 2))), mkh (μ) c s)) := by
  refine ⟨_, PT_104, Nat.le_of_ble_eq_true rfl, ?_⟩
  show Rn PT none kX11_fault 0 [some (mR 0)] [] (mkh μ c s) _
  refine rn_aload_n (k' := 1) rfl rfl rfl ?_
  refine rn_getR (k' := 2) rfl rfl K0_0 (by decide) rfl R0_0_1 ?_
  refine rn_getI (k' := 3) rfl rfl K0_3 (by decide) rfl ?_
  refine rn_iret rfl (Or.inl rfl) ?_
  first | rfl | (rw [if_pos (by omega), if_pos (by omega)]; done) | (rw [if_neg (by omega), if_neg (by omega)]; done) | (rw [if_pos (by omega)]; done) | (rw [if_neg (by omega)]; done)
set_option maxHeartbeats 2000000 in
theorem c_X12_fault {μ : Nat → Nat → Int} {c s : Nat} : Cl PT 191 [mR 118] (mkh μ c s) (fun r => r = (some (some (mI (μ 118 15))), mkh (m_set μ 118 0 0) c s)) := by
  refine ⟨_, PT_191, Nat.le_of_ble_eq_true rfl, ?_⟩
  show Rn PT none kX12_fault 0 [some (mR 118)] [] (mkh μ c s) _
  refine rn_aload_n (k' := 1) rfl rfl rfl ?_
  refine rn_iconst (k' := 2) rfl rfl ?_
  refine rn_putI (k' := 3) rfl rfl K0_118 (by decide) rfl ?_
  refine rn_aload_n (k' := 4) rfl rfl rfl ?_
  refine rn_getI (k' := 5) rfl rfl K0_118 (by decide) rfl ?_
  show Rn PT none kX12_fault 5 [some (mR 118)] [mI (μ 118 15)] (mkh (m_set μ 118 0 (0)) c s) _
  refine rn_iret rfl (Or.inl rfl) ?_
  first | rfl | (rw [if_pos (by omega), if_pos (by omega)]; done) | (rw [if_neg (by omega), if_neg (by omega)]; done) | (rw [if_pos (by omega)]; done) | (rw [if_neg (by omega)]; done)
theorem pair_3 : PairI (Inv N) 104 191 [] := fun μ c s hI => ⟨_, μ, m_set μ 118 0 0, c_X11_fault, by rw [hI.fault]; exact c_X12_fault, hI.set rfl⟩
set_option maxHeartbeats 2000000 in
theorem c_X11_end {μ : Nat → Nat → Int} {c s : Nat} {a : Int} : Cl PT 102 [mR 0, mI a] (mkh μ c s) (fun r => r = (some (some (mI (if 0 ≤ a ∧ a ≤ μ 1 1 then 1 else 0))), mkh (if 0 ≤ a ∧ a ≤ μ 1 1 then m_set μ 1 1 a else μ) c s)) := by
  refine ⟨_, PT_102, Nat.le_of_ble_eq_true rfl, ?_⟩
  show Rn PT none kX11_end 0 [some (mR 0), some (mI (a))] [] (mkh μ c s) _
  refine rn_iload_n (k' := 1) rfl rfl rfl ?_
  refine rn_if_lt (k' := 2) rfl rfl (fun hc1 => ?_) (fun hc1 => ?_)
  · skip
    refine rn_iconst (k' := 8) rfl rfl ?_
    refine rn_iret rfl (Or.inr (by omega)) ?_
    first | rfl | (rw [if_pos (by omega), if_pos (by omega)]; done) | (rw [if_neg (by omega), if_neg (by omega)]; done) | (rw [if_pos (by omega)]; done) | (rw [if_neg (by omega)]; done)
  · skip
    refine rn_iload_n (k' := 3) rfl rfl rfl ?_
    refine rn_aload_n (k' := 4) rfl rfl rfl ?_
    refine rn_getR (k' := 5) rfl rfl K0_0 (by decide) rfl R0_0_0 ?_
    refine rn_getI (k' := 6) rfl rfl K0_1 (by decide) rfl ?_
    refine rn_icmp_le (k' := 7) rfl rfl (fun hc2 => ?_) (fun hc2 => ?_)
    · skip
      refine rn_aload_n (k' := 10) rfl rfl rfl ?_
      refine rn_getR (k' := 11) rfl rfl K0_0 (by decide) rfl R0_0_0 ?_
      refine rn_iload_n (k' := 12) rfl rfl rfl ?_
      refine rn_putI (k' := 13) rfl rfl K0_1 (by decide) rfl ?_
      refine rn_iconst (k' := 14) rfl rfl ?_
      refine rn_iret rfl (Or.inr (by omega)) ?_
      first | rfl | (rw [if_pos (by omega), if_pos (by omega)]; done) | (rw [if_neg (by omega), if_neg (by omega)]; done) | (rw [if_pos (by omega)]; done) | (rw [if_neg (by omega)]; done)
    · skip
      refine rn_iconst (k' := 8) rfl rfl ?_
      refine rn_iret rfl (Or.inr (by omega)) ?_
      first | rfl | (rw [if_pos (by omega), if_pos (by omega)]; done) | (rw [if_neg (by omega), if_neg (by omega)]; done) | (rw [if_pos (by omega)]; done) | (rw [if_neg (by omega)]; done)
set_option maxHeartbeats 2000000 in
theorem c_X12_end {μ : Nat → Nat → Int} {c s : Nat} {a : Int} : Cl PT 165 [mR 118, mI a] (mkh μ c s) (fun r => r = (some (some (mI (if 0 ≤ a ∧ a ≤ μ 118 2 then 1 else 0))), mkh (if 0 ≤ a ∧ a ≤ μ 118 2 then m_set (m_set μ 118 0 0) 118 2 a else m_set μ 118 0 0) c s)) := by
  refine ⟨_, PT_165, Nat.le_of_ble_eq_true rfl, ?_⟩
  show Rn PT none kX12_end 0 [some (mR 118), some (mI (a))] [] (mkh μ c s) _
  refine rn_aload_n (k' := 1) rfl rfl rfl ?_
  refine rn_iconst (k' := 2) rfl rfl ?_
  refine rn_putI (k' := 3) rfl rfl K0_118 (by decide) rfl ?_
  refine rn_iload_n (k' := 4) rfl rfl rfl ?_
  refine rn_if_lt (k' := 5) rfl rfl (fun hc2 => ?_) (fun hc2 => ?_)
  · skip
    refine rn_iconst (k' := 10) rfl rfl ?_
    refine rn_iret rfl (Or.inr (by omega)) ?_
    first | rfl | (rw [if_pos (by omega), if_pos (by omega)]; done) | (rw [if_neg (by omega), if_neg (by omega)]; done) | (rw [if_pos (by omega)]; done) | (rw [if_neg (by omega)]; done)
  · skip
    refine rn_iload_n (k' := 6) rfl rfl rfl ?_
    refine rn_aload_n (k' := 7) rfl rfl rfl ?_
    refine rn_getI (k' := 8) rfl rfl K0_118 (by decide) rfl ?_
    show Rn PT none kX12_end 8 [some (mR 118), some (mI (a))] [mI (μ 118 2), mI (a)] (mkh (m_set μ 118 0 (0)) c s) _
    refine rn_icmp_le (k' := 9) rfl rfl (fun hc3 => ?_) (fun hc3 => ?_)
    · skip
      refine rn_aload_n (k' := 12) rfl rfl rfl ?_
      refine rn_iload_n (k' := 13) rfl rfl rfl ?_
      refine rn_putI (k' := 14) rfl rfl K0_118 (by decide) rfl ?_
      refine rn_iconst (k' := 15) rfl rfl ?_
      refine rn_iret rfl (Or.inr (by omega)) ?_
      first | rfl | (rw [if_pos (by omega), if_pos (by omega)]; done) | (rw [if_neg (by omega), if_neg (by omega)]; done) | (rw [if_pos (by omega)]; done) | (rw [if_neg (by omega)]; done)
    · skip
      refine rn_iconst (k' := 10) rfl rfl ?_
      refine rn_iret rfl (Or.inr (by omega)) ?_
      first | rfl | (rw [if_pos (by omega), if_pos (by omega)]; done) | (rw [if_neg (by omega), if_neg (by omega)]; done) | (rw [if_pos (by omega)]; done) | (rw [if_neg (by omega)]; done)
theorem pair_1 : ∀ (a1 : Int), i32 a1 → PairI (Inv N) 102 165 [mI a1] := by
  intro a ha μ c s hI
  by_cases hq : 0 ≤ a ∧ a ≤ μ 1 1
  · refine ⟨1, m_set μ 1 1 a, m_set (m_set (m_set μ 1 1 a) 118 0 0) 118 2 a, ?_, ?_, ?_⟩
    · have h := c_X11_end (μ := μ) (c := c) (s := s) (a := a)
      rw [if_pos hq, if_pos hq] at h; exact h
    · have h := c_X12_end (μ := m_set μ 1 1 a) (c := c) (s := s) (a := a)
      have hq2 : 0 ≤ a ∧ a ≤ m_set μ 1 1 a 118 2 := by
        show 0 ≤ a ∧ a ≤ μ 118 2
        rw [hI.tape.2.1]; exact hq
      rw [if_pos hq2, if_pos hq2] at h; exact h
    · obtain ⟨h1, h2, h3⟩ := hI.tape
      refine Inv.mk ⟨⟨hq.1, Int.le_trans hq.2 h1.2⟩, rfl, h3⟩ hI.fault hI.land hI.scene hI.last hI.plan hI.names hI.took (hI.undo.congr rfl rfl rfl rfl (fun b h1 h2 => ?_) rfl) (hI.kept.congr (fun b h1 h2 => ?_) rfl rfl rfl) hI.words hI.fresh hI.flag
      · funext j
        rw [m_set_ne _ _ (by omega), m_set_ne _ _ (by omega), m_set_ne _ _ (by omega)]
      · funext j
        rw [m_set_ne _ _ (by omega), m_set_ne _ _ (by omega), m_set_ne _ _ (by omega)]
  · refine ⟨0, μ, m_set μ 118 0 0, ?_, ?_, hI.set rfl⟩
    · have h := c_X11_end (μ := μ) (c := c) (s := s) (a := a)
      rw [if_neg hq, if_neg hq] at h; exact h
    · have h := c_X12_end (μ := μ) (c := c) (s := s) (a := a)
      have hq2 : ¬ (0 ≤ a ∧ a ≤ μ 118 2) := by rw [hI.tape.2.1]; exact hq
      rw [if_neg hq2, if_neg hq2] at h; exact h
set_option maxHeartbeats 2000000 in
theorem c_X11_byteAt {μ : Nat → Nat → Int} {c s : Nat} {a : Int} (hb : 0 ≤ μ 0 14 ∧ μ 0 14 ≤ 100) : Cl PT 120 [mR 0, mI a] (mkh μ c s) (fun r => r = (some (some (mI (if 0 ≤ a ∧ a < μ 0 14 then μ 116 a.toNat else -1))), mkh (μ) c s)) := by
  refine ⟨_, PT_120, Nat.le_of_ble_eq_true rfl, ?_⟩
  show Rn PT none kX11_byteAt 0 [some (mR 0), some (mI (a))] [] (mkh μ c s) _
  refine rn_iload_n (k' := 1) rfl rfl rfl ?_
  refine rn_if_lt (k' := 2) rfl rfl (fun hc1 => ?_) (fun hc1 => ?_)
  · skip
    refine rn_iconst (k' := 12) rfl rfl ?_
    refine rn_iret rfl (Or.inl rfl) ?_
    first | rfl | (rw [if_pos (by omega), if_pos (by omega)]; done) | (rw [if_neg (by omega), if_neg (by omega)]; done) | (rw [if_pos (by omega)]; done) | (rw [if_neg (by omega)]; done)
  · skip
    refine rn_iload_n (k' := 3) rfl rfl rfl ?_
    refine rn_aload_n (k' := 4) rfl rfl rfl ?_
    refine rn_getI (k' := 5) rfl rfl K0_0 (by decide) rfl ?_
    refine rn_icmp_ge (k' := 6) rfl rfl (fun hc2 => ?_) (fun hc2 => ?_)
    · skip
      refine rn_iconst (k' := 12) rfl rfl ?_
      refine rn_iret rfl (Or.inl rfl) ?_
      first | rfl | (rw [if_pos (by omega), if_pos (by omega)]; done) | (rw [if_neg (by omega), if_neg (by omega)]; done) | (rw [if_pos (by omega)]; done) | (rw [if_neg (by omega)]; done)
    · skip
      refine rn_aload_n (k' := 7) rfl rfl rfl ?_
      refine rn_getR (k' := 8) rfl rfl K0_0 (by decide) rfl R0_0_13 ?_
      refine rn_iload_n (k' := 9) rfl rfl rfl ?_
      refine rn_iaload (k' := 10) rfl rfl K0_116 (by omega) (by omega) ?_
      refine rn_goto rfl ?_
      refine rn_iret rfl (Or.inl rfl) ?_
      first | rfl | (rw [if_pos (by omega), if_pos (by omega)]; done) | (rw [if_neg (by omega), if_neg (by omega)]; done) | (rw [if_pos (by omega)]; done) | (rw [if_neg (by omega)]; done)
set_option maxHeartbeats 2000000 in
theorem c_X12_byteAt {μ : Nat → Nat → Int} {c s : Nat} {a : Int} (hb : 0 ≤ μ 118 31 ∧ μ 118 31 ≤ 100) : Cl PT 224 [mR 118, mI a] (mkh μ c s) (fun r => r = (some (some (mI (if 0 ≤ a ∧ a ≤ μ 118 31 - 1 then μ 130 a.toNat else -1))), mkh (m_set μ 118 0 0) c s)) := by
  refine ⟨_, PT_224, Nat.le_of_ble_eq_true rfl, ?_⟩
  show Rn PT none kX12_byteAt 0 [some (mR 118), some (mI (a))] [] (mkh μ c s) _
  refine rn_aload_n (k' := 1) rfl rfl rfl ?_
  refine rn_iconst (k' := 2) rfl rfl ?_
  refine rn_putI (k' := 3) rfl rfl K0_118 (by decide) rfl ?_
  refine rn_iload_n (k' := 4) rfl rfl rfl ?_
  refine rn_iconst (k' := 5) rfl rfl ?_
  refine rn_aload_n (k' := 6) rfl rfl rfl ?_
  refine rn_getI (k' := 7) rfl rfl K0_118 (by decide) rfl ?_
  show Rn PT none kX12_byteAt 7 [some (mR 118), some (mI (a))] [mI (μ 118 31), mI (0), mI (a)] (mkh (m_set μ 118 0 (0)) c s) _
  refine rn_iconst (k' := 8) rfl rfl ?_
  refine rn_isub (k' := 9) rfl rfl (by omega) ?_
  by_cases hq2 : 0 ≤ a ∧ a ≤ (μ 118 31) - 1
  · refine rn_callP (k' := 10) (y := 167) (vs := [mI (a), mI (0), mI ((μ 118 31) - 1)]) (S' := []) (v := some (mI 1)) (h' := mkh (m_set μ 118 0 (0)) c s) rfl rfl rfl (by have hz : Cl PT 167 [mI (a), mI (0), mI ((μ 118 31) - 1)] (mkh (m_set μ 118 0 (0)) c s) (fun r => r = (some (some (mI (if 0 ≤ a ∧ a ≤ (μ 118 31) - 1 then 1 else 0))), mkh (m_set μ 118 0 (0)) c s)) := c_X12_isIn (v := a) (lo := 0) (hi := (μ 118 31) - 1) (μ := (m_set μ 118 0 (0))) (c := c) (s := s); rw [if_pos hq2] at hz; exact hz) ?_
    show Rn PT none kX12_byteAt 10 [some (mR 118), some (mI (a))] [mI (1)] (mkh (m_set μ 118 0 (0)) c s) _
    refine rn_if_eq (k' := 11) rfl rfl (fun hc3 => ?_) (fun hc3 => ?_)
    · exfalso; omega
    · skip
      refine rn_aload_n (k' := 12) rfl rfl rfl ?_
      refine rn_getR (k' := 13) rfl rfl K0_118 (by decide) rfl R0_118_30 ?_
      refine rn_iload_n (k' := 14) rfl rfl rfl ?_
      refine rn_baload (k' := 15) rfl rfl K0_130 (by omega) (by omega) ?_
      show Rn PT none kX12_byteAt 15 [some (mR 118), some (mI (a))] [mI (μ 130 ((a).toNat))] (mkh (m_set μ 118 0 (0)) c s) _
      refine rn_goto rfl ?_
      refine rn_iret rfl (Or.inl rfl) ?_
      first | rfl | (rw [if_pos (by omega), if_pos (by omega)]; done) | (rw [if_neg (by omega), if_neg (by omega)]; done) | (rw [if_pos (by omega)]; done) | (rw [if_neg (by omega)]; done)
  · refine rn_callP (k' := 10) (y := 167) (vs := [mI (a), mI (0), mI ((μ 118 31) - 1)]) (S' := []) (v := some (mI 0)) (h' := mkh (m_set μ 118 0 (0)) c s) rfl rfl rfl (by have hz : Cl PT 167 [mI (a), mI (0), mI ((μ 118 31) - 1)] (mkh (m_set μ 118 0 (0)) c s) (fun r => r = (some (some (mI (if 0 ≤ a ∧ a ≤ (μ 118 31) - 1 then 1 else 0))), mkh (m_set μ 118 0 (0)) c s)) := c_X12_isIn (v := a) (lo := 0) (hi := (μ 118 31) - 1) (μ := (m_set μ 118 0 (0))) (c := c) (s := s); rw [if_neg hq2] at hz; exact hz) ?_
    show Rn PT none kX12_byteAt 10 [some (mR 118), some (mI (a))] [mI (0)] (mkh (m_set μ 118 0 (0)) c s) _
    refine rn_if_eq (k' := 11) rfl rfl (fun hc4 => ?_) (fun hc4 => ?_)
    · skip
      refine rn_iconst (k' := 17) rfl rfl ?_
      refine rn_iret rfl (Or.inl rfl) ?_
      first | rfl | (rw [if_pos (by omega), if_pos (by omega)]; done) | (rw [if_neg (by omega), if_neg (by omega)]; done) | (rw [if_pos (by omega)]; done) | (rw [if_neg (by omega)]; done)
    · exfalso; omega
theorem pair_17 : ∀ (a1 : Int), i32 a1 → PairI (Inv N) 120 224 [mI a1] := by
  intro a ha μ c s hI
  obtain ⟨h1, h2, h3⟩ := hI.last.1
  refine ⟨_, μ, m_set μ 118 0 0, c_X11_byteAt h1, ?_, hI.set rfl⟩
  have h := c_X12_byteAt (μ := μ) (c := c) (s := s) (a := a) (by rw [h2]; exact h1)
  rw [h2] at h
  by_cases hq : 0 ≤ a ∧ a < μ 0 14
  · rw [if_pos hq]
    rw [if_pos (by omega)] at h
    rw [← (h3 a.toNat).2 (by omega)]; exact h
  · rw [if_neg hq]
    rw [if_neg (by omega)] at h
    exact h
set_option maxHeartbeats 2000000 in
theorem c_X11_way {μ : Nat → Nat → Int} {c s : Nat} {a : Int} (hb : 0 ≤ μ 0 16 ∧ μ 0 16 ≤ 100) : Cl PT 117 [mR 0, mI a] (mkh μ c s) (fun r => r = (some (some (mI (if 0 ≤ a ∧ a < μ 0 16 then μ 117 a.toNat else -1))), mkh (μ) c s)) := by
  refine ⟨_, PT_117, Nat.le_of_ble_eq_true rfl, ?_⟩
  show Rn PT none kX11_way 0 [some (mR 0), some (mI (a))] [] (mkh μ c s) _
  refine rn_iload_n (k' := 1) rfl rfl rfl ?_
  refine rn_if_lt (k' := 2) rfl rfl (fun hc1 => ?_) (fun hc1 => ?_)
  · skip
    refine rn_iconst (k' := 12) rfl rfl ?_
    refine rn_iret rfl (Or.inl rfl) ?_
    first | rfl | (rw [if_pos (by omega), if_pos (by omega)]; done) | (rw [if_neg (by omega), if_neg (by omega)]; done) | (rw [if_pos (by omega)]; done) | (rw [if_neg (by omega)]; done)
  · skip
    refine rn_iload_n (k' := 3) rfl rfl rfl ?_
    refine rn_aload_n (k' := 4) rfl rfl rfl ?_
    refine rn_getI (k' := 5) rfl rfl K0_0 (by decide) rfl ?_
    refine rn_icmp_ge (k' := 6) rfl rfl (fun hc2 => ?_) (fun hc2 => ?_)
    · skip
      refine rn_iconst (k' := 12) rfl rfl ?_
      refine rn_iret rfl (Or.inl rfl) ?_
      first | rfl | (rw [if_pos (by omega), if_pos (by omega)]; done) | (rw [if_neg (by omega), if_neg (by omega)]; done) | (rw [if_pos (by omega)]; done) | (rw [if_neg (by omega)]; done)
    · skip
      refine rn_aload_n (k' := 7) rfl rfl rfl ?_
      refine rn_getR (k' := 8) rfl rfl K0_0 (by decide) rfl R0_0_15 ?_
      refine rn_iload_n (k' := 9) rfl rfl rfl ?_
      refine rn_iaload (k' := 10) rfl rfl K0_117 (by omega) (by omega) ?_
      refine rn_goto rfl ?_
      refine rn_iret rfl (Or.inl rfl) ?_
      first | rfl | (rw [if_pos (by omega), if_pos (by omega)]; done) | (rw [if_neg (by omega), if_neg (by omega)]; done) | (rw [if_pos (by omega)]; done) | (rw [if_neg (by omega)]; done)
set_option maxHeartbeats 2000000 in
theorem c_X12_way {μ : Nat → Nat → Int} {c s : Nat} {a : Int} (hb : 0 ≤ μ 118 39 ∧ μ 118 39 ≤ 100) : Cl PT 263 [mR 118, mI a] (mkh μ c s) (fun r => r = (some (some (mI (if 0 ≤ a ∧ a ≤ μ 118 39 - 1 then μ 135 a.toNat else -1))), mkh (m_set μ 118 0 0) c s)) := by
  refine ⟨_, PT_263, Nat.le_of_ble_eq_true rfl, ?_⟩
  show Rn PT none kX12_way 0 [some (mR 118), some (mI (a))] [] (mkh μ c s) _
  refine rn_aload_n (k' := 1) rfl rfl rfl ?_
  refine rn_iconst (k' := 2) rfl rfl ?_
  refine rn_putI (k' := 3) rfl rfl K0_118 (by decide) rfl ?_
  refine rn_iload_n (k' := 4) rfl rfl rfl ?_
  refine rn_iconst (k' := 5) rfl rfl ?_
  refine rn_aload_n (k' := 6) rfl rfl rfl ?_
  refine rn_getI (k' := 7) rfl rfl K0_118 (by decide) rfl ?_
  show Rn PT none kX12_way 7 [some (mR 118), some (mI (a))] [mI (μ 118 39), mI (0), mI (a)] (mkh (m_set μ 118 0 (0)) c s) _
  refine rn_iconst (k' := 8) rfl rfl ?_
  refine rn_isub (k' := 9) rfl rfl (by omega) ?_
  by_cases hq2 : 0 ≤ a ∧ a ≤ (μ 118 39) - 1
  · refine rn_callP (k' := 10) (y := 167) (vs := [mI (a), mI (0), mI ((μ 118 39) - 1)]) (S' := []) (v := some (mI 1)) (h' := mkh (m_set μ 118 0 (0)) c s) rfl rfl rfl (by have hz : Cl PT 167 [mI (a), mI (0), mI ((μ 118 39) - 1)] (mkh (m_set μ 118 0 (0)) c s) (fun r => r = (some (some (mI (if 0 ≤ a ∧ a ≤ (μ 118 39) - 1 then 1 else 0))), mkh (m_set μ 118 0 (0)) c s)) := c_X12_isIn (v := a) (lo := 0) (hi := (μ 118 39) - 1) (μ := (m_set μ 118 0 (0))) (c := c) (s := s); rw [if_pos hq2] at hz; exact hz) ?_
    show Rn PT none kX12_way 10 [some (mR 118), some (mI (a))] [mI (1)] (mkh (m_set μ 118 0 (0)) c s) _
    refine rn_if_eq (k' := 11) rfl rfl (fun hc3 => ?_) (fun hc3 => ?_)
    · exfalso; omega
    · skip
      refine rn_aload_n (k' := 12) rfl rfl rfl ?_
      refine rn_getR (k' := 13) rfl rfl K0_118 (by decide) rfl R0_118_38 ?_
      refine rn_iload_n (k' := 14) rfl rfl rfl ?_
      refine rn_iaload (k' := 15) rfl rfl K0_135 (by omega) (by omega) ?_
      show Rn PT none kX12_way 15 [some (mR 118), some (mI (a))] [mI (μ 135 ((a).toNat))] (mkh (m_set μ 118 0 (0)) c s) _
      refine rn_goto rfl ?_
      refine rn_iret rfl (Or.inl rfl) ?_
      first | rfl | (rw [if_pos (by omega), if_pos (by omega)]; done) | (rw [if_neg (by omega), if_neg (by omega)]; done) | (rw [if_pos (by omega)]; done) | (rw [if_neg (by omega)]; done)
  · refine rn_callP (k' := 10) (y := 167) (vs := [mI (a), mI (0), mI ((μ 118 39) - 1)]) (S' := []) (v := some (mI 0)) (h' := mkh (m_set μ 118 0 (0)) c s) rfl rfl rfl (by have hz : Cl PT 167 [mI (a), mI (0), mI ((μ 118 39) - 1)] (mkh (m_set μ 118 0 (0)) c s) (fun r => r = (some (some (mI (if 0 ≤ a ∧ a ≤ (μ 118 39) - 1 then 1 else 0))), mkh (m_set μ 118 0 (0)) c s)) := c_X12_isIn (v := a) (lo := 0) (hi := (μ 118 39) - 1) (μ := (m_set μ 118 0 (0))) (c := c) (s := s); rw [if_neg hq2] at hz; exact hz) ?_
    show Rn PT none kX12_way 10 [some (mR 118), some (mI (a))] [mI (0)] (mkh (m_set μ 118 0 (0)) c s) _
    refine rn_if_eq (k' := 11) rfl rfl (fun hc4 => ?_) (fun hc4 => ?_)
    · skip
      refine rn_iconst (k' := 17) rfl rfl ?_
      refine rn_iret rfl (Or.inl rfl) ?_
      first | rfl | (rw [if_pos (by omega), if_pos (by omega)]; done) | (rw [if_neg (by omega), if_neg (by omega)]; done) | (rw [if_pos (by omega)]; done) | (rw [if_neg (by omega)]; done)
    · exfalso; omega
theorem pair_14 : ∀ (a1 : Int), i32 a1 → PairI (Inv N) 117 263 [mI a1] := by
  intro a ha μ c s hI
  obtain ⟨h1, h2, h3⟩ := hI.last.2.1
  refine ⟨_, μ, m_set μ 118 0 0, c_X11_way h1, ?_, hI.set rfl⟩
  have h := c_X12_way (μ := μ) (c := c) (s := s) (a := a) (by rw [h2]; exact h1)
  rw [h2] at h
  by_cases hq : 0 ≤ a ∧ a < μ 0 16
  · rw [if_pos hq]
    rw [if_pos (by omega)] at h
    rw [← h3 a.toNat (by omega)]; exact h
  · rw [if_neg hq]
    rw [if_neg (by omega)] at h
    exact h
set_option maxHeartbeats 2000000 in
theorem c_X11_seat {μ : Nat → Nat → Int} {c s : Nat} {a : Int} (hb : 0 ≤ μ 112 5 ∧ μ 112 5 ≤ 8) : Cl PT 138 [mR 0, mI a] (mkh μ c s) (fun r => r = (some (some (mI (if 0 ≤ a ∧ a < μ 112 5 then μ 115 a.toNat else -1))), mkh (μ) c s)) := by
  refine ⟨_, PT_138, Nat.le_of_ble_eq_true rfl, ?_⟩
  show Rn PT none kX11_seat 0 [some (mR 0), some (mI (a))] [] (mkh μ c s) _
  refine rn_iload_n (k' := 1) rfl rfl rfl ?_
  refine rn_if_lt (k' := 2) rfl rfl (fun hc1 => ?_) (fun hc1 => ?_)
  · skip
    refine rn_iconst (k' := 14) rfl rfl ?_
    refine rn_iret rfl (Or.inl rfl) ?_
    first | rfl | (rw [if_pos (by omega), if_pos (by omega)]; done) | (rw [if_neg (by omega), if_neg (by omega)]; done) | (rw [if_pos (by omega)]; done) | (rw [if_neg (by omega)]; done)
  · skip
    refine rn_iload_n (k' := 3) rfl rfl rfl ?_
    refine rn_aload_n (k' := 4) rfl rfl rfl ?_
    refine rn_getR (k' := 5) rfl rfl K0_0 (by decide) rfl R0_0_12 ?_
    refine rn_getI (k' := 6) rfl rfl K0_112 (by decide) rfl ?_
    refine rn_icmp_ge (k' := 7) rfl rfl (fun hc2 => ?_) (fun hc2 => ?_)
    · skip
      refine rn_iconst (k' := 14) rfl rfl ?_
      refine rn_iret rfl (Or.inl rfl) ?_
      first | rfl | (rw [if_pos (by omega), if_pos (by omega)]; done) | (rw [if_neg (by omega), if_neg (by omega)]; done) | (rw [if_pos (by omega)]; done) | (rw [if_neg (by omega)]; done)
    · skip
      refine rn_aload_n (k' := 8) rfl rfl rfl ?_
      refine rn_getR (k' := 9) rfl rfl K0_0 (by decide) rfl R0_0_12 ?_
      refine rn_getR (k' := 10) rfl rfl K0_112 (by decide) rfl R0_112_4 ?_
      refine rn_iload_n (k' := 11) rfl rfl rfl ?_
      refine rn_iaload (k' := 12) rfl rfl K0_115 (by omega) (by omega) ?_
      refine rn_goto rfl ?_
      refine rn_iret rfl (Or.inl rfl) ?_
      first | rfl | (rw [if_pos (by omega), if_pos (by omega)]; done) | (rw [if_neg (by omega), if_neg (by omega)]; done) | (rw [if_pos (by omega)]; done) | (rw [if_neg (by omega)]; done)
set_option maxHeartbeats 2000000 in
theorem c_X12_seat {μ : Nat → Nat → Int} {c s : Nat} {a : Int} (hb : 0 ≤ μ 118 37 ∧ μ 118 37 ≤ 8) : Cl PT 253 [mR 118, mI a] (mkh μ c s) (fun r => r = (some (some (mI (if 0 ≤ a ∧ a ≤ μ 118 37 - 1 then μ 134 a.toNat else -1))), mkh (m_set μ 118 0 0) c s)) := by
  refine ⟨_, PT_253, Nat.le_of_ble_eq_true rfl, ?_⟩
  show Rn PT none kX12_seat 0 [some (mR 118), some (mI (a))] [] (mkh μ c s) _
  refine rn_aload_n (k' := 1) rfl rfl rfl ?_
  refine rn_iconst (k' := 2) rfl rfl ?_
  refine rn_putI (k' := 3) rfl rfl K0_118 (by decide) rfl ?_
  refine rn_iload_n (k' := 4) rfl rfl rfl ?_
  refine rn_iconst (k' := 5) rfl rfl ?_
  refine rn_aload_n (k' := 6) rfl rfl rfl ?_
  refine rn_getI (k' := 7) rfl rfl K0_118 (by decide) rfl ?_
  show Rn PT none kX12_seat 7 [some (mR 118), some (mI (a))] [mI (μ 118 37), mI (0), mI (a)] (mkh (m_set μ 118 0 (0)) c s) _
  refine rn_iconst (k' := 8) rfl rfl ?_
  refine rn_isub (k' := 9) rfl rfl (by omega) ?_
  by_cases hq2 : 0 ≤ a ∧ a ≤ (μ 118 37) - 1
  · refine rn_callP (k' := 10) (y := 167) (vs := [mI (a), mI (0), mI ((μ 118 37) - 1)]) (S' := []) (v := some (mI 1)) (h' := mkh (m_set μ 118 0 (0)) c s) rfl rfl rfl (by have hz : Cl PT 167 [mI (a), mI (0), mI ((μ 118 37) - 1)] (mkh (m_set μ 118 0 (0)) c s) (fun r => r = (some (some (mI (if 0 ≤ a ∧ a ≤ (μ 118 37) - 1 then 1 else 0))), mkh (m_set μ 118 0 (0)) c s)) := c_X12_isIn (v := a) (lo := 0) (hi := (μ 118 37) - 1) (μ := (m_set μ 118 0 (0))) (c := c) (s := s); rw [if_pos hq2] at hz; exact hz) ?_
    show Rn PT none kX12_seat 10 [some (mR 118), some (mI (a))] [mI (1)] (mkh (m_set μ 118 0 (0)) c s) _
    refine rn_if_eq (k' := 11) rfl rfl (fun hc3 => ?_) (fun hc3 => ?_)
    · exfalso; omega
    · skip
      refine rn_aload_n (k' := 12) rfl rfl rfl ?_
      refine rn_getR (k' := 13) rfl rfl K0_118 (by decide) rfl R0_118_36 ?_
      refine rn_iload_n (k' := 14) rfl rfl rfl ?_
      refine rn_iaload (k' := 15) rfl rfl K0_134 (by omega) (by omega) ?_
      show Rn PT none kX12_seat 15 [some (mR 118), some (mI (a))] [mI (μ 134 ((a).toNat))] (mkh (m_set μ 118 0 (0)) c s) _
      refine rn_goto rfl ?_
      refine rn_iret rfl (Or.inl rfl) ?_
      first | rfl | (rw [if_pos (by omega), if_pos (by omega)]; done) | (rw [if_neg (by omega), if_neg (by omega)]; done) | (rw [if_pos (by omega)]; done) | (rw [if_neg (by omega)]; done)
  · refine rn_callP (k' := 10) (y := 167) (vs := [mI (a), mI (0), mI ((μ 118 37) - 1)]) (S' := []) (v := some (mI 0)) (h' := mkh (m_set μ 118 0 (0)) c s) rfl rfl rfl (by have hz : Cl PT 167 [mI (a), mI (0), mI ((μ 118 37) - 1)] (mkh (m_set μ 118 0 (0)) c s) (fun r => r = (some (some (mI (if 0 ≤ a ∧ a ≤ (μ 118 37) - 1 then 1 else 0))), mkh (m_set μ 118 0 (0)) c s)) := c_X12_isIn (v := a) (lo := 0) (hi := (μ 118 37) - 1) (μ := (m_set μ 118 0 (0))) (c := c) (s := s); rw [if_neg hq2] at hz; exact hz) ?_
    show Rn PT none kX12_seat 10 [some (mR 118), some (mI (a))] [mI (0)] (mkh (m_set μ 118 0 (0)) c s) _
    refine rn_if_eq (k' := 11) rfl rfl (fun hc4 => ?_) (fun hc4 => ?_)
    · skip
      refine rn_iconst (k' := 17) rfl rfl ?_
      refine rn_iret rfl (Or.inl rfl) ?_
      first | rfl | (rw [if_pos (by omega), if_pos (by omega)]; done) | (rw [if_neg (by omega), if_neg (by omega)]; done) | (rw [if_pos (by omega)]; done) | (rw [if_neg (by omega)]; done)
    · exfalso; omega
theorem pair_35 : ∀ (a1 : Int), i32 a1 → PairI (Inv N) 138 253 [mI a1] := by
  intro a ha μ c s hI
  obtain ⟨h1, h2, h3⟩ := hI.last.2.2.1
  refine ⟨_, μ, m_set μ 118 0 0, c_X11_seat h1, ?_, hI.set rfl⟩
  have h := c_X12_seat (μ := μ) (c := c) (s := s) (a := a) (by rw [h2]; exact h1)
  rw [h2] at h
  by_cases hq : 0 ≤ a ∧ a < μ 112 5
  · rw [if_pos hq]
    rw [if_pos (by omega)] at h
    rw [← h3 a.toNat (by omega)]; exact h
  · rw [if_neg hq]
    rw [if_neg (by omega)] at h
    exact h
