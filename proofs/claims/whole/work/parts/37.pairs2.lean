variable {N : Int}
/-! ===== printed by wip/whole/gen37.py: pairs of small calls ===== -/
set_option maxHeartbeats 2000000 in
theorem c_X11_judged {μ : Nat → Nat → Int} {c s : Nat} {a : Int} (hb : μ 82 9 = 0 ∨ μ 82 9 = 1) : Cl PT 147 [mR 0, mI a] (mkh μ c s) (fun r => r = (some (some (mI (if μ 82 9 = 1 ∧ 0 ≤ a ∧ a < 6 then μ 87 a.toNat else -1))), mkh (μ) c s)) := by
  refine ⟨_, PT_147, Nat.le_of_ble_eq_true rfl, ?_⟩
  show Rn PT none kX11_judged 0 [some (mR 0), some (mI (a))] [] (mkh μ c s) _
  refine rn_aload_n (k' := 1) rfl rfl rfl ?_
  refine rn_getR (k' := 2) rfl rfl K0_0 (by decide) rfl R0_0_11 ?_
  refine rn_getZ (k' := 3) rfl rfl K0_82 (by decide) rfl ?_
  refine rn_if_eq (k' := 4) rfl rfl (fun hc1 => ?_) (fun hc1 => ?_)
  · skip
    refine rn_iconst (k' := 16) rfl rfl ?_
    refine rn_iret rfl (Or.inl rfl) ?_
    first | rfl | (rcases (show a = 0 ∨ a = 1 ∨ a = 2 ∨ a = 3 by omega) with rfl | rfl | rfl | rfl <;> rfl) | (rw [if_pos (by omega)]; done) | (rw [if_neg (by omega)]; done) | (repeat (first | rw [if_pos (by omega)] | rw [if_neg (by omega)])) | (repeat (first | rw [if_pos (by omega)] | rw [if_neg (by omega)])); rfl
  · skip
    refine rn_iload_n (k' := 5) rfl rfl rfl ?_
    refine rn_if_lt (k' := 6) rfl rfl (fun hc2 => ?_) (fun hc2 => ?_)
    · skip
      refine rn_iconst (k' := 16) rfl rfl ?_
      refine rn_iret rfl (Or.inl rfl) ?_
      first | rfl | (rcases (show a = 0 ∨ a = 1 ∨ a = 2 ∨ a = 3 by omega) with rfl | rfl | rfl | rfl <;> rfl) | (rw [if_pos (by omega)]; done) | (rw [if_neg (by omega)]; done) | (repeat (first | rw [if_pos (by omega)] | rw [if_neg (by omega)])) | (repeat (first | rw [if_pos (by omega)] | rw [if_neg (by omega)])); rfl
    · skip
      refine rn_iload_n (k' := 7) rfl rfl rfl ?_
      refine rn_bipush (k' := 8) rfl rfl ?_
      refine rn_icmp_ge (k' := 9) rfl rfl (fun hc3 => ?_) (fun hc3 => ?_)
      · skip
        refine rn_iconst (k' := 16) rfl rfl ?_
        refine rn_iret rfl (Or.inl rfl) ?_
        first | rfl | (rcases (show a = 0 ∨ a = 1 ∨ a = 2 ∨ a = 3 by omega) with rfl | rfl | rfl | rfl <;> rfl) | (rw [if_pos (by omega)]; done) | (rw [if_neg (by omega)]; done) | (repeat (first | rw [if_pos (by omega)] | rw [if_neg (by omega)])) | (repeat (first | rw [if_pos (by omega)] | rw [if_neg (by omega)])); rfl
      · skip
        refine rn_aload_n (k' := 10) rfl rfl rfl ?_
        refine rn_getR (k' := 11) rfl rfl K0_0 (by decide) rfl R0_0_11 ?_
        refine rn_getR (k' := 12) rfl rfl K0_82 (by decide) rfl R0_82_8 ?_
        refine rn_iload_n (k' := 13) rfl rfl rfl ?_
        refine rn_iaload (k' := 14) rfl rfl K0_87 (by omega) (by omega) ?_
        refine rn_goto rfl ?_
        refine rn_iret rfl (Or.inl rfl) ?_
        first | rfl | (rcases (show a = 0 ∨ a = 1 ∨ a = 2 ∨ a = 3 by omega) with rfl | rfl | rfl | rfl <;> rfl) | (rw [if_pos (by omega)]; done) | (rw [if_neg (by omega)]; done) | (repeat (first | rw [if_pos (by omega)] | rw [if_neg (by omega)])) | (repeat (first | rw [if_pos (by omega)] | rw [if_neg (by omega)])); rfl
set_option maxHeartbeats 2000000 in
theorem c_X12_judged {μ : Nat → Nat → Int} {c s : Nat} {a : Int} (hb : μ 118 44 = 0 ∨ μ 118 44 = 1) : Cl PT 269 [mR 118, mI a] (mkh μ c s) (fun r => r = (some (some (mI (if μ 118 44 = 1 ∧ 0 ≤ a ∧ a < 6 then μ 136 a.toNat else -1))), mkh (m_set μ 118 0 0) c s)) := by
  refine ⟨_, PT_269, Nat.le_of_ble_eq_true rfl, ?_⟩
  show Rn PT none kX12_judged 0 [some (mR 118), some (mI (a))] [] (mkh μ c s) _
  refine rn_aload_n (k' := 1) rfl rfl rfl ?_
  refine rn_iconst (k' := 2) rfl rfl ?_
  refine rn_putI (k' := 3) rfl rfl K0_118 (by decide) rfl ?_
  refine rn_aload_n (k' := 4) rfl rfl rfl ?_
  refine rn_getZ (k' := 5) rfl rfl K0_118 (by decide) rfl ?_
  show Rn PT none kX12_judged 5 [some (mR 118), some (mI (a))] [mI (μ 118 44)] (mkh (m_set μ 118 0 (0)) c s) _
  refine rn_if_eq (k' := 6) rfl rfl (fun hc2 => ?_) (fun hc2 => ?_)
  · skip
    refine rn_iconst (k' := 17) rfl rfl ?_
    refine rn_iret rfl (Or.inl rfl) ?_
    first | rfl | (rcases (show a = 0 ∨ a = 1 ∨ a = 2 ∨ a = 3 by omega) with rfl | rfl | rfl | rfl <;> rfl) | (rw [if_pos (by omega)]; done) | (rw [if_neg (by omega)]; done) | (repeat (first | rw [if_pos (by omega)] | rw [if_neg (by omega)])) | (repeat (first | rw [if_pos (by omega)] | rw [if_neg (by omega)])); rfl
  · skip
    refine rn_iload_n (k' := 7) rfl rfl rfl ?_
    refine rn_iconst (k' := 8) rfl rfl ?_
    refine rn_iconst (k' := 9) rfl rfl ?_
    by_cases hq3 : 0 ≤ a ∧ a ≤ 5
    · refine rn_callP (k' := 10) (y := 167) (vs := [mI (a), mI (0), mI (5)]) (S' := []) (v := some (mI 1)) (h' := mkh (m_set μ 118 0 (0)) c s) rfl rfl rfl (by have hz : Cl PT 167 [mI (a), mI (0), mI (5)] (mkh (m_set μ 118 0 (0)) c s) (fun r => r = (some (some (mI (if 0 ≤ a ∧ a ≤ 5 then 1 else 0))), mkh (m_set μ 118 0 (0)) c s)) := c_X12_isIn (v := a) (lo := 0) (hi := 5) (μ := (m_set μ 118 0 (0))) (c := c) (s := s); rw [if_pos hq3] at hz; exact hz) ?_
      show Rn PT none kX12_judged 10 [some (mR 118), some (mI (a))] [mI (1)] (mkh (m_set μ 118 0 (0)) c s) _
      refine rn_if_eq (k' := 11) rfl rfl (fun hc4 => ?_) (fun hc4 => ?_)
      · exfalso; omega
      · skip
        refine rn_aload_n (k' := 12) rfl rfl rfl ?_
        refine rn_getR (k' := 13) rfl rfl K0_118 (by decide) rfl R0_118_42 ?_
        refine rn_iload_n (k' := 14) rfl rfl rfl ?_
        refine rn_iaload (k' := 15) rfl rfl K0_136 (by omega) (by omega) ?_
        show Rn PT none kX12_judged 15 [some (mR 118), some (mI (a))] [mI (μ 136 ((a).toNat))] (mkh (m_set μ 118 0 (0)) c s) _
        refine rn_goto rfl ?_
        refine rn_iret rfl (Or.inl rfl) ?_
        first | rfl | (rcases (show a = 0 ∨ a = 1 ∨ a = 2 ∨ a = 3 by omega) with rfl | rfl | rfl | rfl <;> rfl) | (rw [if_pos (by omega)]; done) | (rw [if_neg (by omega)]; done) | (repeat (first | rw [if_pos (by omega)] | rw [if_neg (by omega)])) | (repeat (first | rw [if_pos (by omega)] | rw [if_neg (by omega)])); rfl
    · refine rn_callP (k' := 10) (y := 167) (vs := [mI (a), mI (0), mI (5)]) (S' := []) (v := some (mI 0)) (h' := mkh (m_set μ 118 0 (0)) c s) rfl rfl rfl (by have hz : Cl PT 167 [mI (a), mI (0), mI (5)] (mkh (m_set μ 118 0 (0)) c s) (fun r => r = (some (some (mI (if 0 ≤ a ∧ a ≤ 5 then 1 else 0))), mkh (m_set μ 118 0 (0)) c s)) := c_X12_isIn (v := a) (lo := 0) (hi := 5) (μ := (m_set μ 118 0 (0))) (c := c) (s := s); rw [if_neg hq3] at hz; exact hz) ?_
      show Rn PT none kX12_judged 10 [some (mR 118), some (mI (a))] [mI (0)] (mkh (m_set μ 118 0 (0)) c s) _
      refine rn_if_eq (k' := 11) rfl rfl (fun hc5 => ?_) (fun hc5 => ?_)
      · skip
        refine rn_iconst (k' := 17) rfl rfl ?_
        refine rn_iret rfl (Or.inl rfl) ?_
        first | rfl | (rcases (show a = 0 ∨ a = 1 ∨ a = 2 ∨ a = 3 by omega) with rfl | rfl | rfl | rfl <;> rfl) | (rw [if_pos (by omega)]; done) | (rw [if_neg (by omega)]; done) | (repeat (first | rw [if_pos (by omega)] | rw [if_neg (by omega)])) | (repeat (first | rw [if_pos (by omega)] | rw [if_neg (by omega)])); rfl
      · exfalso; omega
theorem pair_45 : ∀ (a1 : Int), i32 a1 → PairI (Inv N) 147 269 [mI a1] := by
  intro a ha μ c s hI
  obtain ⟨h1, h2, h3⟩ := hI.last.2.2.2
  refine ⟨_, μ, m_set μ 118 0 0, c_X11_judged h1, ?_, hI.set rfl⟩
  have h := c_X12_judged (μ := μ) (c := c) (s := s) (a := a) (by rw [h2]; exact h1)
  rw [h2] at h
  by_cases hq : μ 82 9 = 1 ∧ 0 ≤ a ∧ a < 6
  · rw [if_pos hq] at h ⊢
    rw [← h3 hq.1 a.toNat (by omega)]; exact h
  · rw [if_neg hq] at h ⊢
    exact h
set_option maxHeartbeats 2000000 in
theorem c_X11_wolf {μ : Nat → Nat → Int} {c s : Nat} {a : Int} : Cl PT 134 [mR 0, mI a] (mkh μ c s) (fun r => r = (some (some (mI (if μ 14 3 = -1 then -1 else if a = 0 then μ 14 3 else if a = 1 then μ 6 15 else if a = 2 then μ 14 4 else -1))), mkh (μ) c s)) := by
  refine ⟨_, PT_134, Nat.le_of_ble_eq_true rfl, ?_⟩
  show Rn PT none kX11_wolf 0 [some (mR 0), some (mI (a))] [] (mkh μ c s) _
  refine rn_aload_n (k' := 1) rfl rfl rfl ?_
  refine rn_getR (k' := 2) rfl rfl K0_0 (by decide) rfl R0_0_4 ?_
  refine rn_getI (k' := 3) rfl rfl K0_14 (by decide) rfl ?_
  refine rn_iconst (k' := 4) rfl rfl ?_
  refine rn_icmp_ne (k' := 5) rfl rfl (fun hc1 => ?_) (fun hc1 => ?_)
  · skip
    refine rn_iload_n (k' := 8) rfl rfl rfl ?_
    rcases (show (a < 0 ∨ 2 < a) ∨ a = 0 ∨ a = 1 ∨ a = 2 by omega) with hs2 | hs2 | hs2 | hs2
    · refine rn_swO rfl hs2 ?_
      refine rn_iconst (k' := 22) rfl rfl ?_
      refine rn_iret rfl (Or.inl rfl) ?_
      first | rfl | (rcases (show a = 0 ∨ a = 1 ∨ a = 2 ∨ a = 3 by omega) with rfl | rfl | rfl | rfl <;> rfl) | (rw [if_pos (by omega)]; done) | (rw [if_neg (by omega)]; done) | (repeat (first | rw [if_pos (by omega)] | rw [if_neg (by omega)])) | (repeat (first | rw [if_pos (by omega)] | rw [if_neg (by omega)])); rfl
    · refine rn_swI (j := 0) (t' := 9) rfl (by omega) rfl ?_
      refine rn_aload_n (k' := 10) rfl rfl rfl ?_
      refine rn_getR (k' := 11) rfl rfl K0_0 (by decide) rfl R0_0_4 ?_
      refine rn_getI (k' := 12) rfl rfl K0_14 (by decide) rfl ?_
      refine rn_iret rfl (Or.inl rfl) ?_
      first | rfl | (rcases (show a = 0 ∨ a = 1 ∨ a = 2 ∨ a = 3 by omega) with rfl | rfl | rfl | rfl <;> rfl) | (rw [if_pos (by omega)]; done) | (rw [if_neg (by omega)]; done) | (repeat (first | rw [if_pos (by omega)] | rw [if_neg (by omega)])) | (repeat (first | rw [if_pos (by omega)] | rw [if_neg (by omega)])); rfl
    · refine rn_swI (j := 1) (t' := 13) rfl (by omega) rfl ?_
      refine rn_aload_n (k' := 14) rfl rfl rfl ?_
      refine rn_getR (k' := 15) rfl rfl K0_0 (by decide) rfl R0_0_3 ?_
      refine rn_getI (k' := 16) rfl rfl K0_6 (by decide) rfl ?_
      refine rn_iret rfl (Or.inl rfl) ?_
      first | rfl | (rcases (show a = 0 ∨ a = 1 ∨ a = 2 ∨ a = 3 by omega) with rfl | rfl | rfl | rfl <;> rfl) | (rw [if_pos (by omega)]; done) | (rw [if_neg (by omega)]; done) | (repeat (first | rw [if_pos (by omega)] | rw [if_neg (by omega)])) | (repeat (first | rw [if_pos (by omega)] | rw [if_neg (by omega)])); rfl
    · refine rn_swI (j := 2) (t' := 17) rfl (by omega) rfl ?_
      refine rn_aload_n (k' := 18) rfl rfl rfl ?_
      refine rn_getR (k' := 19) rfl rfl K0_0 (by decide) rfl R0_0_4 ?_
      refine rn_getI (k' := 20) rfl rfl K0_14 (by decide) rfl ?_
      refine rn_iret rfl (Or.inl rfl) ?_
      first | rfl | (rcases (show a = 0 ∨ a = 1 ∨ a = 2 ∨ a = 3 by omega) with rfl | rfl | rfl | rfl <;> rfl) | (rw [if_pos (by omega)]; done) | (rw [if_neg (by omega)]; done) | (repeat (first | rw [if_pos (by omega)] | rw [if_neg (by omega)])) | (repeat (first | rw [if_pos (by omega)] | rw [if_neg (by omega)])); rfl
  · skip
    refine rn_iconst (k' := 6) rfl rfl ?_
    refine rn_iret rfl (Or.inl rfl) ?_
    first | rfl | (rcases (show a = 0 ∨ a = 1 ∨ a = 2 ∨ a = 3 by omega) with rfl | rfl | rfl | rfl <;> rfl) | (rw [if_pos (by omega)]; done) | (rw [if_neg (by omega)]; done) | (repeat (first | rw [if_pos (by omega)] | rw [if_neg (by omega)])) | (repeat (first | rw [if_pos (by omega)] | rw [if_neg (by omega)])); rfl
set_option maxHeartbeats 2000000 in
theorem c_X12_wolf {μ : Nat → Nat → Int} {c s : Nat} {a : Int} : Cl PT 235 [mR 118, mI a] (mkh μ c s) (fun r => r = (some (some (mI (if μ 120 499 = 0 then -1 else if a = 0 then μ 120 534 else if a = 1 then μ 120 500 else if a = 2 then μ 120 535 else -1))), mkh (m_set μ 118 0 0) c s)) := by
  refine ⟨_, PT_235, Nat.le_of_ble_eq_true rfl, ?_⟩
  show Rn PT none kX12_wolf 0 [some (mR 118), some (mI (a))] [] (mkh μ c s) _
  refine rn_aload_n (k' := 1) rfl rfl rfl ?_
  refine rn_iconst (k' := 2) rfl rfl ?_
  refine rn_putI (k' := 3) rfl rfl K0_118 (by decide) rfl ?_
  refine rn_aload_n (k' := 4) rfl rfl rfl ?_
  refine rn_getR (k' := 5) rfl rfl K0_118 (by decide) rfl R0_118_6 ?_
  refine rn_sipush (k' := 6) rfl rfl ?_
  refine rn_iaload (k' := 7) rfl rfl K0_120 (by omega) (by omega) ?_
  show Rn PT none kX12_wolf 7 [some (mR 118), some (mI (a))] [mI (μ 120 499)] (mkh (m_set μ 118 0 (0)) c s) _
  refine rn_if_ne (k' := 8) rfl rfl (fun hc2 => ?_) (fun hc2 => ?_)
  · skip
    refine rn_iload_n (k' := 11) rfl rfl rfl ?_
    refine rn_if_ne (k' := 12) rfl rfl (fun hc3 => ?_) (fun hc3 => ?_)
    · skip
      refine rn_iload_n (k' := 18) rfl rfl rfl ?_
      refine rn_iconst (k' := 19) rfl rfl ?_
      refine rn_icmp_ne (k' := 20) rfl rfl (fun hc4 => ?_) (fun hc4 => ?_)
      · skip
        refine rn_iload_n (k' := 26) rfl rfl rfl ?_
        refine rn_iconst (k' := 27) rfl rfl ?_
        refine rn_icmp_ne (k' := 28) rfl rfl (fun hc5 => ?_) (fun hc5 => ?_)
        · skip
          refine rn_iconst (k' := 34) rfl rfl ?_
          refine rn_iret rfl (Or.inl rfl) ?_
          first | rfl | (rcases (show a = 0 ∨ a = 1 ∨ a = 2 ∨ a = 3 by omega) with rfl | rfl | rfl | rfl <;> rfl) | (rw [if_pos (by omega)]; done) | (rw [if_neg (by omega)]; done) | (repeat (first | rw [if_pos (by omega)] | rw [if_neg (by omega)])) | (repeat (first | rw [if_pos (by omega)] | rw [if_neg (by omega)])); rfl
        · skip
          refine rn_aload_n (k' := 29) rfl rfl rfl ?_
          refine rn_getR (k' := 30) rfl rfl K0_118 (by decide) rfl R0_118_6 ?_
          refine rn_sipush (k' := 31) rfl rfl ?_
          refine rn_iaload (k' := 32) rfl rfl K0_120 (by omega) (by omega) ?_
          show Rn PT none kX12_wolf 32 [some (mR 118), some (mI (a))] [mI (μ 120 535)] (mkh (m_set μ 118 0 (0)) c s) _
          refine rn_goto rfl ?_
          refine rn_iret rfl (Or.inl rfl) ?_
          first | rfl | (rcases (show a = 0 ∨ a = 1 ∨ a = 2 ∨ a = 3 by omega) with rfl | rfl | rfl | rfl <;> rfl) | (rw [if_pos (by omega)]; done) | (rw [if_neg (by omega)]; done) | (repeat (first | rw [if_pos (by omega)] | rw [if_neg (by omega)])) | (repeat (first | rw [if_pos (by omega)] | rw [if_neg (by omega)])); rfl
      · skip
        refine rn_aload_n (k' := 21) rfl rfl rfl ?_
        refine rn_getR (k' := 22) rfl rfl K0_118 (by decide) rfl R0_118_6 ?_
        refine rn_sipush (k' := 23) rfl rfl ?_
        refine rn_iaload (k' := 24) rfl rfl K0_120 (by omega) (by omega) ?_
        show Rn PT none kX12_wolf 24 [some (mR 118), some (mI (a))] [mI (μ 120 500)] (mkh (m_set μ 118 0 (0)) c s) _
        refine rn_goto rfl ?_
        refine rn_iret rfl (Or.inl rfl) ?_
        first | rfl | (rcases (show a = 0 ∨ a = 1 ∨ a = 2 ∨ a = 3 by omega) with rfl | rfl | rfl | rfl <;> rfl) | (rw [if_pos (by omega)]; done) | (rw [if_neg (by omega)]; done) | (repeat (first | rw [if_pos (by omega)] | rw [if_neg (by omega)])) | (repeat (first | rw [if_pos (by omega)] | rw [if_neg (by omega)])); rfl
    · skip
      refine rn_aload_n (k' := 13) rfl rfl rfl ?_
      refine rn_getR (k' := 14) rfl rfl K0_118 (by decide) rfl R0_118_6 ?_
      refine rn_sipush (k' := 15) rfl rfl ?_
      refine rn_iaload (k' := 16) rfl rfl K0_120 (by omega) (by omega) ?_
      show Rn PT none kX12_wolf 16 [some (mR 118), some (mI (a))] [mI (μ 120 534)] (mkh (m_set μ 118 0 (0)) c s) _
      refine rn_goto rfl ?_
      refine rn_iret rfl (Or.inl rfl) ?_
      first | rfl | (rcases (show a = 0 ∨ a = 1 ∨ a = 2 ∨ a = 3 by omega) with rfl | rfl | rfl | rfl <;> rfl) | (rw [if_pos (by omega)]; done) | (rw [if_neg (by omega)]; done) | (repeat (first | rw [if_pos (by omega)] | rw [if_neg (by omega)])) | (repeat (first | rw [if_pos (by omega)] | rw [if_neg (by omega)])); rfl
  · skip
    refine rn_iconst (k' := 9) rfl rfl ?_
    refine rn_iret rfl (Or.inl rfl) ?_
    first | rfl | (rcases (show a = 0 ∨ a = 1 ∨ a = 2 ∨ a = 3 by omega) with rfl | rfl | rfl | rfl <;> rfl) | (rw [if_pos (by omega)]; done) | (rw [if_neg (by omega)]; done) | (repeat (first | rw [if_pos (by omega)] | rw [if_neg (by omega)])) | (repeat (first | rw [if_pos (by omega)] | rw [if_neg (by omega)])); rfl
theorem pair_24 : ∀ (a1 : Int), i32 a1 → PairI (Inv N) 134 235 [mI a1] := by
  intro a ha μ c s hI
  refine ⟨_, μ, m_set μ 118 0 0, c_X11_wolf, ?_, hI.set rfl⟩
  have h := c_X12_wolf (μ := μ) (c := c) (s := s) (a := a)
  obtain ⟨-, -, -, s4, s5, s6, -, -, -, s10, -⟩ := hI.scene
  obtain ⟨-, -, -, -, -, -, -, -, -, -, -, -, -, -, l15, l16, -⟩ := hI.land
  rw [l15, l16, s6] at h
  by_cases hq : μ 14 3 = -1
  · rw [if_pos hq]
    rw [if_pos (by have := s10.mp hq; omega)] at h
    exact h
  · rw [if_neg hq]
    rw [if_neg (fun z => hq (s10.mpr (by omega))), s5 hq] at h
    exact h
set_option maxHeartbeats 2000000 in
theorem c_X11_count {μ : Nat → Nat → Int} {c s : Nat} {a : Int} : Cl PT 112 [mR 0, mI a] (mkh μ c s) (fun r => r = (some (some (mI (if a = 0 then μ 6 8 else if a = 1 then μ 6 9 else if a = 2 then μ 6 10 else if a = 3 then μ 6 11 else if a = 4 then μ 9 0 else if a = 5 then μ 9 1 else if a = 6 then μ 6 13 else if a = 7 then μ 14 0 else if a = 8 then μ 17 0 else if a = 9 then μ 1 1 else if a = 10 then μ 9 2 else -1))), mkh (μ) c s)) := by
  refine ⟨_, PT_112, Nat.le_of_ble_eq_true rfl, ?_⟩
  show Rn PT none kX11_count 0 [some (mR 0), some (mI (a))] [] (mkh μ c s) _
  refine rn_iload_n (k' := 1) rfl rfl rfl ?_
  rcases (show (a < 0 ∨ 10 < a) ∨ a = 0 ∨ a = 1 ∨ a = 2 ∨ a = 3 ∨ a = 4 ∨ a = 5 ∨ a = 6 ∨ a = 7 ∨ a = 8 ∨ a = 9 ∨ a = 10 by omega) with hs1 | hs1 | hs1 | hs1 | hs1 | hs1 | hs1 | hs1 | hs1 | hs1 | hs1 | hs1
  · refine rn_swO rfl hs1 ?_
    refine rn_iconst (k' := 54) rfl rfl ?_
    refine rn_iret rfl (Or.inl rfl) ?_
    first | rfl | (rcases (show a = 0 ∨ a = 1 ∨ a = 2 ∨ a = 3 by omega) with rfl | rfl | rfl | rfl <;> rfl) | (rw [if_pos (by omega)]; done) | (rw [if_neg (by omega)]; done) | (repeat (first | rw [if_pos (by omega)] | rw [if_neg (by omega)])) | (repeat (first | rw [if_pos (by omega)] | rw [if_neg (by omega)])); rfl
  · refine rn_swI (j := 0) (t' := 2) rfl (by omega) rfl ?_
    refine rn_aload_n (k' := 3) rfl rfl rfl ?_
    refine rn_getR (k' := 4) rfl rfl K0_0 (by decide) rfl R0_0_3 ?_
    refine rn_getI (k' := 5) rfl rfl K0_6 (by decide) rfl ?_
    refine rn_iret rfl (Or.inl rfl) ?_
    first | rfl | (rcases (show a = 0 ∨ a = 1 ∨ a = 2 ∨ a = 3 by omega) with rfl | rfl | rfl | rfl <;> rfl) | (rw [if_pos (by omega)]; done) | (rw [if_neg (by omega)]; done) | (repeat (first | rw [if_pos (by omega)] | rw [if_neg (by omega)])) | (repeat (first | rw [if_pos (by omega)] | rw [if_neg (by omega)])); rfl
  · refine rn_swI (j := 1) (t' := 6) rfl (by omega) rfl ?_
    refine rn_aload_n (k' := 7) rfl rfl rfl ?_
    refine rn_getR (k' := 8) rfl rfl K0_0 (by decide) rfl R0_0_3 ?_
    refine rn_getI (k' := 9) rfl rfl K0_6 (by decide) rfl ?_
    refine rn_iret rfl (Or.inl rfl) ?_
    first | rfl | (rcases (show a = 0 ∨ a = 1 ∨ a = 2 ∨ a = 3 by omega) with rfl | rfl | rfl | rfl <;> rfl) | (rw [if_pos (by omega)]; done) | (rw [if_neg (by omega)]; done) | (repeat (first | rw [if_pos (by omega)] | rw [if_neg (by omega)])) | (repeat (first | rw [if_pos (by omega)] | rw [if_neg (by omega)])); rfl
  · refine rn_swI (j := 2) (t' := 10) rfl (by omega) rfl ?_
    refine rn_aload_n (k' := 11) rfl rfl rfl ?_
    refine rn_getR (k' := 12) rfl rfl K0_0 (by decide) rfl R0_0_3 ?_
    refine rn_getI (k' := 13) rfl rfl K0_6 (by decide) rfl ?_
    refine rn_iret rfl (Or.inl rfl) ?_
    first | rfl | (rcases (show a = 0 ∨ a = 1 ∨ a = 2 ∨ a = 3 by omega) with rfl | rfl | rfl | rfl <;> rfl) | (rw [if_pos (by omega)]; done) | (rw [if_neg (by omega)]; done) | (repeat (first | rw [if_pos (by omega)] | rw [if_neg (by omega)])) | (repeat (first | rw [if_pos (by omega)] | rw [if_neg (by omega)])); rfl
  · refine rn_swI (j := 3) (t' := 14) rfl (by omega) rfl ?_
    refine rn_aload_n (k' := 15) rfl rfl rfl ?_
    refine rn_getR (k' := 16) rfl rfl K0_0 (by decide) rfl R0_0_3 ?_
    refine rn_getI (k' := 17) rfl rfl K0_6 (by decide) rfl ?_
    refine rn_iret rfl (Or.inl rfl) ?_
    first | rfl | (rcases (show a = 0 ∨ a = 1 ∨ a = 2 ∨ a = 3 by omega) with rfl | rfl | rfl | rfl <;> rfl) | (rw [if_pos (by omega)]; done) | (rw [if_neg (by omega)]; done) | (repeat (first | rw [if_pos (by omega)] | rw [if_neg (by omega)])) | (repeat (first | rw [if_pos (by omega)] | rw [if_neg (by omega)])); rfl
  · refine rn_swI (j := 4) (t' := 18) rfl (by omega) rfl ?_
    refine rn_aload_n (k' := 19) rfl rfl rfl ?_
    refine rn_getR (k' := 20) rfl rfl K0_0 (by decide) rfl R0_0_3 ?_
    refine rn_getR (k' := 21) rfl rfl K0_6 (by decide) rfl R0_6_2 ?_
    refine rn_iconst (k' := 22) rfl rfl ?_
    refine rn_iaload (k' := 23) rfl rfl K0_9 (by omega) (by omega) ?_
    show Rn PT none kX11_count 23 [some (mR 0), some (mI (a))] [mI (μ 9 0)] (mkh μ c s) _
    refine rn_iret rfl (Or.inl rfl) ?_
    first | rfl | (rcases (show a = 0 ∨ a = 1 ∨ a = 2 ∨ a = 3 by omega) with rfl | rfl | rfl | rfl <;> rfl) | (rw [if_pos (by omega)]; done) | (rw [if_neg (by omega)]; done) | (repeat (first | rw [if_pos (by omega)] | rw [if_neg (by omega)])) | (repeat (first | rw [if_pos (by omega)] | rw [if_neg (by omega)])); rfl
  · refine rn_swI (j := 5) (t' := 24) rfl (by omega) rfl ?_
    refine rn_aload_n (k' := 25) rfl rfl rfl ?_
    refine rn_getR (k' := 26) rfl rfl K0_0 (by decide) rfl R0_0_3 ?_
    refine rn_getR (k' := 27) rfl rfl K0_6 (by decide) rfl R0_6_2 ?_
    refine rn_iconst (k' := 28) rfl rfl ?_
    refine rn_iaload (k' := 29) rfl rfl K0_9 (by omega) (by omega) ?_
    show Rn PT none kX11_count 29 [some (mR 0), some (mI (a))] [mI (μ 9 1)] (mkh μ c s) _
    refine rn_iret rfl (Or.inl rfl) ?_
    first | rfl | (rcases (show a = 0 ∨ a = 1 ∨ a = 2 ∨ a = 3 by omega) with rfl | rfl | rfl | rfl <;> rfl) | (rw [if_pos (by omega)]; done) | (rw [if_neg (by omega)]; done) | (repeat (first | rw [if_pos (by omega)] | rw [if_neg (by omega)])) | (repeat (first | rw [if_pos (by omega)] | rw [if_neg (by omega)])); rfl
  · refine rn_swI (j := 6) (t' := 30) rfl (by omega) rfl ?_
    refine rn_aload_n (k' := 31) rfl rfl rfl ?_
    refine rn_getR (k' := 32) rfl rfl K0_0 (by decide) rfl R0_0_3 ?_
    refine rn_getI (k' := 33) rfl rfl K0_6 (by decide) rfl ?_
    refine rn_iret rfl (Or.inl rfl) ?_
    first | rfl | (rcases (show a = 0 ∨ a = 1 ∨ a = 2 ∨ a = 3 by omega) with rfl | rfl | rfl | rfl <;> rfl) | (rw [if_pos (by omega)]; done) | (rw [if_neg (by omega)]; done) | (repeat (first | rw [if_pos (by omega)] | rw [if_neg (by omega)])) | (repeat (first | rw [if_pos (by omega)] | rw [if_neg (by omega)])); rfl
  · refine rn_swI (j := 7) (t' := 34) rfl (by omega) rfl ?_
    refine rn_aload_n (k' := 35) rfl rfl rfl ?_
    refine rn_getR (k' := 36) rfl rfl K0_0 (by decide) rfl R0_0_4 ?_
    refine rn_getI (k' := 37) rfl rfl K0_14 (by decide) rfl ?_
    refine rn_iret rfl (Or.inl rfl) ?_
    first | rfl | (rcases (show a = 0 ∨ a = 1 ∨ a = 2 ∨ a = 3 by omega) with rfl | rfl | rfl | rfl <;> rfl) | (rw [if_pos (by omega)]; done) | (rw [if_neg (by omega)]; done) | (repeat (first | rw [if_pos (by omega)] | rw [if_neg (by omega)])) | (repeat (first | rw [if_pos (by omega)] | rw [if_neg (by omega)])); rfl
  · refine rn_swI (j := 8) (t' := 38) rfl (by omega) rfl ?_
    refine rn_aload_n (k' := 39) rfl rfl rfl ?_
    refine rn_getR (k' := 40) rfl rfl K0_0 (by decide) rfl R0_0_2 ?_
    refine rn_getR (k' := 41) rfl rfl K0_5 (by decide) rfl R0_5_2 ?_
    refine rn_getI (k' := 42) rfl rfl K0_17 (by decide) rfl ?_
    refine rn_iret rfl (Or.inl rfl) ?_
    first | rfl | (rcases (show a = 0 ∨ a = 1 ∨ a = 2 ∨ a = 3 by omega) with rfl | rfl | rfl | rfl <;> rfl) | (rw [if_pos (by omega)]; done) | (rw [if_neg (by omega)]; done) | (repeat (first | rw [if_pos (by omega)] | rw [if_neg (by omega)])) | (repeat (first | rw [if_pos (by omega)] | rw [if_neg (by omega)])); rfl
  · refine rn_swI (j := 9) (t' := 43) rfl (by omega) rfl ?_
    refine rn_aload_n (k' := 44) rfl rfl rfl ?_
    refine rn_getR (k' := 45) rfl rfl K0_0 (by decide) rfl R0_0_0 ?_
    refine rn_getI (k' := 46) rfl rfl K0_1 (by decide) rfl ?_
    refine rn_iret rfl (Or.inl rfl) ?_
    first | rfl | (rcases (show a = 0 ∨ a = 1 ∨ a = 2 ∨ a = 3 by omega) with rfl | rfl | rfl | rfl <;> rfl) | (rw [if_pos (by omega)]; done) | (rw [if_neg (by omega)]; done) | (repeat (first | rw [if_pos (by omega)] | rw [if_neg (by omega)])) | (repeat (first | rw [if_pos (by omega)] | rw [if_neg (by omega)])); rfl
  · refine rn_swI (j := 10) (t' := 47) rfl (by omega) rfl ?_
    refine rn_aload_n (k' := 48) rfl rfl rfl ?_
    refine rn_getR (k' := 49) rfl rfl K0_0 (by decide) rfl R0_0_3 ?_
    refine rn_getR (k' := 50) rfl rfl K0_6 (by decide) rfl R0_6_2 ?_
    refine rn_iconst (k' := 51) rfl rfl ?_
    refine rn_iaload (k' := 52) rfl rfl K0_9 (by omega) (by omega) ?_
    show Rn PT none kX11_count 52 [some (mR 0), some (mI (a))] [mI (μ 9 2)] (mkh μ c s) _
    refine rn_iret rfl (Or.inl rfl) ?_
    first | rfl | (rcases (show a = 0 ∨ a = 1 ∨ a = 2 ∨ a = 3 by omega) with rfl | rfl | rfl | rfl <;> rfl) | (rw [if_pos (by omega)]; done) | (rw [if_neg (by omega)]; done) | (repeat (first | rw [if_pos (by omega)] | rw [if_neg (by omega)])) | (repeat (first | rw [if_pos (by omega)] | rw [if_neg (by omega)])); rfl
set_option maxHeartbeats 2000000 in
theorem c_X12_count {μ : Nat → Nat → Int} {c s : Nat} {a : Int} : Cl PT 272 [mR 118, mI a] (mkh μ c s) (fun r => r = (some (some (mI (if a = 0 then μ 120 a.toNat else if a = 1 then μ 120 a.toNat else if a = 2 then μ 120 a.toNat else if a = 3 then μ 120 a.toNat else if a = 4 then μ 120 5 else if a = 5 then μ 120 6 else if a = 6 then μ 120 8 else if a = 7 then μ 120 517 else if a = 8 then μ 120 536 else if a = 9 then μ 118 2 else if a = 10 then μ 120 7 else -1))), mkh (m_set μ 118 0 0) c s)) := by
  refine ⟨_, PT_272, Nat.le_of_ble_eq_true rfl, ?_⟩
  show Rn PT none kX12_count 0 [some (mR 118), some (mI (a))] [] (mkh μ c s) _
  refine rn_aload_n (k' := 1) rfl rfl rfl ?_
  refine rn_iconst (k' := 2) rfl rfl ?_
  refine rn_putI (k' := 3) rfl rfl K0_118 (by decide) rfl ?_
  refine rn_iload_n (k' := 4) rfl rfl rfl ?_
  rcases (show (a < 4 ∨ 10 < a) ∨ a = 4 ∨ a = 5 ∨ a = 6 ∨ a = 7 ∨ a = 8 ∨ a = 9 ∨ a = 10 by omega) with hs2 | hs2 | hs2 | hs2 | hs2 | hs2 | hs2 | hs2
  · refine rn_swO rfl hs2 ?_
    refine rn_iload_n (k' := 39) rfl rfl rfl ?_
    refine rn_iconst (k' := 40) rfl rfl ?_
    refine rn_iconst (k' := 41) rfl rfl ?_
    by_cases hq3 : 0 ≤ a ∧ a ≤ 3
    · refine rn_callP (k' := 42) (y := 167) (vs := [mI (a), mI (0), mI (3)]) (S' := []) (v := some (mI 1)) (h' := mkh (m_set μ 118 0 (0)) c s) rfl rfl rfl (by have hz : Cl PT 167 [mI (a), mI (0), mI (3)] (mkh (m_set μ 118 0 (0)) c s) (fun r => r = (some (some (mI (if 0 ≤ a ∧ a ≤ 3 then 1 else 0))), mkh (m_set μ 118 0 (0)) c s)) := c_X12_isIn (v := a) (lo := 0) (hi := 3) (μ := (m_set μ 118 0 (0))) (c := c) (s := s); rw [if_pos hq3] at hz; exact hz) ?_
      show Rn PT none kX12_count 42 [some (mR 118), some (mI (a))] [mI (1)] (mkh (m_set μ 118 0 (0)) c s) _
      refine rn_if_eq (k' := 43) rfl rfl (fun hc4 => ?_) (fun hc4 => ?_)
      · exfalso; omega
      · skip
        refine rn_aload_n (k' := 44) rfl rfl rfl ?_
        refine rn_getR (k' := 45) rfl rfl K0_118 (by decide) rfl R0_118_6 ?_
        refine rn_iload_n (k' := 46) rfl rfl rfl ?_
        refine rn_iaload (k' := 47) rfl rfl K0_120 (by omega) (by omega) ?_
        show Rn PT none kX12_count 47 [some (mR 118), some (mI (a))] [mI (μ 120 ((a).toNat))] (mkh (m_set μ 118 0 (0)) c s) _
        refine rn_goto rfl ?_
        refine rn_iret rfl (Or.inl rfl) ?_
        first | rfl | (rcases (show a = 0 ∨ a = 1 ∨ a = 2 ∨ a = 3 by omega) with rfl | rfl | rfl | rfl <;> rfl) | (rw [if_pos (by omega)]; done) | (rw [if_neg (by omega)]; done) | (repeat (first | rw [if_pos (by omega)] | rw [if_neg (by omega)])) | (repeat (first | rw [if_pos (by omega)] | rw [if_neg (by omega)])); rfl
    · refine rn_callP (k' := 42) (y := 167) (vs := [mI (a), mI (0), mI (3)]) (S' := []) (v := some (mI 0)) (h' := mkh (m_set μ 118 0 (0)) c s) rfl rfl rfl (by have hz : Cl PT 167 [mI (a), mI (0), mI (3)] (mkh (m_set μ 118 0 (0)) c s) (fun r => r = (some (some (mI (if 0 ≤ a ∧ a ≤ 3 then 1 else 0))), mkh (m_set μ 118 0 (0)) c s)) := c_X12_isIn (v := a) (lo := 0) (hi := 3) (μ := (m_set μ 118 0 (0))) (c := c) (s := s); rw [if_neg hq3] at hz; exact hz) ?_
      show Rn PT none kX12_count 42 [some (mR 118), some (mI (a))] [mI (0)] (mkh (m_set μ 118 0 (0)) c s) _
      refine rn_if_eq (k' := 43) rfl rfl (fun hc5 => ?_) (fun hc5 => ?_)
      · skip
        refine rn_iconst (k' := 49) rfl rfl ?_
        refine rn_iret rfl (Or.inl rfl) ?_
        first | rfl | (rcases (show a = 0 ∨ a = 1 ∨ a = 2 ∨ a = 3 by omega) with rfl | rfl | rfl | rfl <;> rfl) | (rw [if_pos (by omega)]; done) | (rw [if_neg (by omega)]; done) | (repeat (first | rw [if_pos (by omega)] | rw [if_neg (by omega)])) | (repeat (first | rw [if_pos (by omega)] | rw [if_neg (by omega)])); rfl
      · exfalso; omega
  · refine rn_swI (j := 0) (t' := 5) rfl (by omega) rfl ?_
    refine rn_aload_n (k' := 6) rfl rfl rfl ?_
    refine rn_getR (k' := 7) rfl rfl K0_118 (by decide) rfl R0_118_6 ?_
    refine rn_iconst (k' := 8) rfl rfl ?_
    refine rn_iaload (k' := 9) rfl rfl K0_120 (by omega) (by omega) ?_
    show Rn PT none kX12_count 9 [some (mR 118), some (mI (a))] [mI (μ 120 5)] (mkh (m_set μ 118 0 (0)) c s) _
    refine rn_iret rfl (Or.inl rfl) ?_
    first | rfl | (rcases (show a = 0 ∨ a = 1 ∨ a = 2 ∨ a = 3 by omega) with rfl | rfl | rfl | rfl <;> rfl) | (rw [if_pos (by omega)]; done) | (rw [if_neg (by omega)]; done) | (repeat (first | rw [if_pos (by omega)] | rw [if_neg (by omega)])) | (repeat (first | rw [if_pos (by omega)] | rw [if_neg (by omega)])); rfl
  · refine rn_swI (j := 1) (t' := 10) rfl (by omega) rfl ?_
    refine rn_aload_n (k' := 11) rfl rfl rfl ?_
    refine rn_getR (k' := 12) rfl rfl K0_118 (by decide) rfl R0_118_6 ?_
    refine rn_bipush (k' := 13) rfl rfl ?_
    refine rn_iaload (k' := 14) rfl rfl K0_120 (by omega) (by omega) ?_
    show Rn PT none kX12_count 14 [some (mR 118), some (mI (a))] [mI (μ 120 6)] (mkh (m_set μ 118 0 (0)) c s) _
    refine rn_iret rfl (Or.inl rfl) ?_
    first | rfl | (rcases (show a = 0 ∨ a = 1 ∨ a = 2 ∨ a = 3 by omega) with rfl | rfl | rfl | rfl <;> rfl) | (rw [if_pos (by omega)]; done) | (rw [if_neg (by omega)]; done) | (repeat (first | rw [if_pos (by omega)] | rw [if_neg (by omega)])) | (repeat (first | rw [if_pos (by omega)] | rw [if_neg (by omega)])); rfl
  · refine rn_swI (j := 2) (t' := 15) rfl (by omega) rfl ?_
    refine rn_aload_n (k' := 16) rfl rfl rfl ?_
    refine rn_getR (k' := 17) rfl rfl K0_118 (by decide) rfl R0_118_6 ?_
    refine rn_bipush (k' := 18) rfl rfl ?_
    refine rn_iaload (k' := 19) rfl rfl K0_120 (by omega) (by omega) ?_
    show Rn PT none kX12_count 19 [some (mR 118), some (mI (a))] [mI (μ 120 8)] (mkh (m_set μ 118 0 (0)) c s) _
    refine rn_iret rfl (Or.inl rfl) ?_
    first | rfl | (rcases (show a = 0 ∨ a = 1 ∨ a = 2 ∨ a = 3 by omega) with rfl | rfl | rfl | rfl <;> rfl) | (rw [if_pos (by omega)]; done) | (rw [if_neg (by omega)]; done) | (repeat (first | rw [if_pos (by omega)] | rw [if_neg (by omega)])) | (repeat (first | rw [if_pos (by omega)] | rw [if_neg (by omega)])); rfl
  · refine rn_swI (j := 3) (t' := 20) rfl (by omega) rfl ?_
    refine rn_aload_n (k' := 21) rfl rfl rfl ?_
    refine rn_getR (k' := 22) rfl rfl K0_118 (by decide) rfl R0_118_6 ?_
    refine rn_sipush (k' := 23) rfl rfl ?_
    refine rn_iaload (k' := 24) rfl rfl K0_120 (by omega) (by omega) ?_
    show Rn PT none kX12_count 24 [some (mR 118), some (mI (a))] [mI (μ 120 517)] (mkh (m_set μ 118 0 (0)) c s) _
    refine rn_iret rfl (Or.inl rfl) ?_
    first | rfl | (rcases (show a = 0 ∨ a = 1 ∨ a = 2 ∨ a = 3 by omega) with rfl | rfl | rfl | rfl <;> rfl) | (rw [if_pos (by omega)]; done) | (rw [if_neg (by omega)]; done) | (repeat (first | rw [if_pos (by omega)] | rw [if_neg (by omega)])) | (repeat (first | rw [if_pos (by omega)] | rw [if_neg (by omega)])); rfl
  · refine rn_swI (j := 4) (t' := 25) rfl (by omega) rfl ?_
    refine rn_aload_n (k' := 26) rfl rfl rfl ?_
    refine rn_getR (k' := 27) rfl rfl K0_118 (by decide) rfl R0_118_6 ?_
    refine rn_sipush (k' := 28) rfl rfl ?_
    refine rn_iaload (k' := 29) rfl rfl K0_120 (by omega) (by omega) ?_
    show Rn PT none kX12_count 29 [some (mR 118), some (mI (a))] [mI (μ 120 536)] (mkh (m_set μ 118 0 (0)) c s) _
    refine rn_iret rfl (Or.inl rfl) ?_
    first | rfl | (rcases (show a = 0 ∨ a = 1 ∨ a = 2 ∨ a = 3 by omega) with rfl | rfl | rfl | rfl <;> rfl) | (rw [if_pos (by omega)]; done) | (rw [if_neg (by omega)]; done) | (repeat (first | rw [if_pos (by omega)] | rw [if_neg (by omega)])) | (repeat (first | rw [if_pos (by omega)] | rw [if_neg (by omega)])); rfl
  · refine rn_swI (j := 5) (t' := 30) rfl (by omega) rfl ?_
    refine rn_aload_n (k' := 31) rfl rfl rfl ?_
    refine rn_getI (k' := 32) rfl rfl K0_118 (by decide) rfl ?_
    show Rn PT none kX12_count 32 [some (mR 118), some (mI (a))] [mI (μ 118 2)] (mkh (m_set μ 118 0 (0)) c s) _
    refine rn_iret rfl (Or.inl rfl) ?_
    first | rfl | (rcases (show a = 0 ∨ a = 1 ∨ a = 2 ∨ a = 3 by omega) with rfl | rfl | rfl | rfl <;> rfl) | (rw [if_pos (by omega)]; done) | (rw [if_neg (by omega)]; done) | (repeat (first | rw [if_pos (by omega)] | rw [if_neg (by omega)])) | (repeat (first | rw [if_pos (by omega)] | rw [if_neg (by omega)])); rfl
  · refine rn_swI (j := 6) (t' := 33) rfl (by omega) rfl ?_
    refine rn_aload_n (k' := 34) rfl rfl rfl ?_
    refine rn_getR (k' := 35) rfl rfl K0_118 (by decide) rfl R0_118_6 ?_
    refine rn_bipush (k' := 36) rfl rfl ?_
    refine rn_iaload (k' := 37) rfl rfl K0_120 (by omega) (by omega) ?_
    show Rn PT none kX12_count 37 [some (mR 118), some (mI (a))] [mI (μ 120 7)] (mkh (m_set μ 118 0 (0)) c s) _
    refine rn_iret rfl (Or.inl rfl) ?_
    first | rfl | (rcases (show a = 0 ∨ a = 1 ∨ a = 2 ∨ a = 3 by omega) with rfl | rfl | rfl | rfl <;> rfl) | (rw [if_pos (by omega)]; done) | (rw [if_neg (by omega)]; done) | (repeat (first | rw [if_pos (by omega)] | rw [if_neg (by omega)])) | (repeat (first | rw [if_pos (by omega)] | rw [if_neg (by omega)])); rfl
theorem pair_48 : ∀ (a1 : Int), i32 a1 → PairI (Inv N) 112 272 [mI a1] := by
  intro a ha μ c s hI
  refine ⟨_, μ, m_set μ 118 0 0, c_X11_count, ?_, hI.set rfl⟩
  have h := c_X12_count (μ := μ) (c := c) (s := s) (a := a)
  obtain ⟨-, -, -, s4, s5, s6, -, -, -, s10, -⟩ := hI.scene
  obtain ⟨-, -, -, -, -, -, -, -, l9, l10, l11, l12, l13, l14, l15, l16, l17, -⟩ := hI.land
  have t0 : μ 120 5 = μ 9 0 := (l17 0 (by decide)).2
  have t1 : μ 120 6 = μ 9 1 := (l17 1 (by decide)).2
  have t2 : μ 120 7 = μ 9 2 := (l17 2 (by decide)).2
  rw [t0, t1, t2, l14, s4, hI.plan.2.1, hI.tape.2.1] at h
  by_cases h0 : a = 0
  · subst h0; rw [← l9]; exact h
  · by_cases h1 : a = 1
    · subst h1; rw [← l10]; exact h
    · by_cases h2 : a = 2
      · subst h2; rw [← l11]; exact h
      · by_cases h3 : a = 3
        · subst h3; rw [← l12]; exact h
        · rw [if_neg h0, if_neg h1, if_neg h2, if_neg h3] at h ⊢
          exact h
