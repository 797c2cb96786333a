variable {N : Int}
/-! ===== printed by wip/whole/gen40.py: pairs: on, timber, flock, stands, cell, herd ===== -/
set_option maxHeartbeats 2000000 in
theorem c_X11_on {μ : Nat → Nat → Int} {c s : Nat} (hL : I_land μ) {a b : Int} : Cl PT 108 [mR 0, mI a, mI b] (mkh μ c s) (fun r => r = (some (some (mI (if (0 ≤ a ∧ a ≤ 29) ∧ 0 ≤ b ∧ b ≤ 2 then g_w μ b a else -1))), mkh (μ) c s)) := by
  have hL_ := hL
  obtain ⟨lc, lr, le, lm, lw, lh, lwo, lwd, q0, q1, q2, q3, q4, q8, q499, q500, lth, lG, lT, lW, -⟩ := hL_
  refine ⟨_, PT_108, Nat.le_of_ble_eq_true rfl, ?_⟩
  show Rn PT none kX11_on 0 [some (mR 0), some (mI (a)), some (mI (b))] [] (mkh μ c s) _
  refine rn_iload_n (k' := 1) rfl rfl rfl ?_
  by_cases hq1 : 0 ≤ a ∧ a ≤ 29
  · refine rn_callP (k' := 2) (y := 152) (vs := [mI (a)]) (S' := []) (v := some (mI 1)) (h' := mkh μ c s) rfl rfl rfl (by have hz : Cl PT 152 [mI (a)] (mkh μ c s) (fun r => r = (some (some (mI (if 0 ≤ a ∧ a ≤ 29 then 1 else 0))), mkh μ c s)) := c_X11_isDay (a := a) (μ := μ) (c := c) (s := s); rw [if_pos hq1] at hz; exact hz) ?_
    show Rn PT none kX11_on 2 [some (mR 0), some (mI (a)), some (mI (b))] [mI (1)] (mkh μ c s) _
    refine rn_if_eq (k' := 3) rfl rfl (fun hc2 => ?_) (fun hc2 => ?_)
    · exfalso; omega
    · skip
      refine rn_iload_n (k' := 4) rfl rfl rfl ?_
      refine rn_if_lt (k' := 5) rfl rfl (fun hc3 => ?_) (fun hc3 => ?_)
      · skip
        refine rn_iconst (k' := 9) rfl rfl ?_
        refine rn_iret rfl (Or.inl rfl) ?_
        first | rfl | (refine congrArg (fun z => ((some (some (mI z)) : Option (Option MV)), mkh μ c s)) ?_; first | rfl | omega | (symm; first | (rw [if_pos (by omega)]; first | done | rfl | omega) | (rw [if_neg (by omega)]; first | done | rfl | omega)) | (symm; unfold g_tim; first | (rw [if_pos (by omega)]; first | done | rfl | omega) | (rw [if_neg (by omega)]; first | done | rfl | omega)) | (symm; unfold g_st; first | (rw [if_pos (by omega)]; first | done | rfl | omega) | (rw [if_neg (by omega)]; first | done | rfl | omega)) | (symm; unfold g_dep; first | (rw [if_pos (by omega)]; first | done | rfl | omega) | (rw [if_neg (by omega)]; first | done | rfl | omega)) | (symm; unfold g_nb; first | (rw [if_pos (by omega)]; first | done | rfl | omega) | (rw [if_neg (by omega)]; first | done | rfl | omega)) | ((try unfold g_st); (try unfold g_dep); (try unfold g_nb); (repeat' split) <;> omega) | (symm; (repeat (first | rw [if_pos (by omega)] | rw [if_neg (by omega)])); first | done | rfl | omega))
      · skip
        refine rn_iload_n (k' := 6) rfl rfl rfl ?_
        refine rn_iconst (k' := 7) rfl rfl ?_
        refine rn_icmp_lt (k' := 8) rfl rfl (fun hc4 => ?_) (fun hc4 => ?_)
        · skip
          refine rn_aload_n (k' := 11) rfl rfl rfl ?_
          refine rn_getR (k' := 12) rfl rfl K0_0 (by decide) rfl R0_0_3 ?_
          refine rn_iload_n (k' := 13) rfl rfl rfl ?_
          refine rn_iload_n (k' := 14) rfl rfl rfl ?_
          have hb5 := g_w_b hL b a
          refine rn_callP (k' := 15) (y := 32) (vs := [mR 6, mI (b), mI (a)]) (S' := []) (v := some (mI (g_w μ b a))) (h' := mkh μ c s) rfl rfl rfl (k_weatherOn (hL) (by omega) (by omega)) ?_
          show Rn PT none kX11_on 15 [some (mR 0), some (mI (a)), some (mI (b))] [mI (g_w μ b a)] (mkh μ c s) _
          refine rn_iret rfl (Or.inl rfl) ?_
          first | rfl | (refine congrArg (fun z => ((some (some (mI z)) : Option (Option MV)), mkh μ c s)) ?_; first | rfl | omega | (symm; first | (rw [if_pos (by omega)]; first | done | rfl | omega) | (rw [if_neg (by omega)]; first | done | rfl | omega)) | (symm; unfold g_tim; first | (rw [if_pos (by omega)]; first | done | rfl | omega) | (rw [if_neg (by omega)]; first | done | rfl | omega)) | (symm; unfold g_st; first | (rw [if_pos (by omega)]; first | done | rfl | omega) | (rw [if_neg (by omega)]; first | done | rfl | omega)) | (symm; unfold g_dep; first | (rw [if_pos (by omega)]; first | done | rfl | omega) | (rw [if_neg (by omega)]; first | done | rfl | omega)) | (symm; unfold g_nb; first | (rw [if_pos (by omega)]; first | done | rfl | omega) | (rw [if_neg (by omega)]; first | done | rfl | omega)) | ((try unfold g_st); (try unfold g_dep); (try unfold g_nb); (repeat' split) <;> omega) | (symm; (repeat (first | rw [if_pos (by omega)] | rw [if_neg (by omega)])); first | done | rfl | omega))
        · skip
          refine rn_iconst (k' := 9) rfl rfl ?_
          refine rn_iret rfl (Or.inl rfl) ?_
          first | rfl | (refine congrArg (fun z => ((some (some (mI z)) : Option (Option MV)), mkh μ c s)) ?_; first | rfl | omega | (symm; first | (rw [if_pos (by omega)]; first | done | rfl | omega) | (rw [if_neg (by omega)]; first | done | rfl | omega)) | (symm; unfold g_tim; first | (rw [if_pos (by omega)]; first | done | rfl | omega) | (rw [if_neg (by omega)]; first | done | rfl | omega)) | (symm; unfold g_st; first | (rw [if_pos (by omega)]; first | done | rfl | omega) | (rw [if_neg (by omega)]; first | done | rfl | omega)) | (symm; unfold g_dep; first | (rw [if_pos (by omega)]; first | done | rfl | omega) | (rw [if_neg (by omega)]; first | done | rfl | omega)) | (symm; unfold g_nb; first | (rw [if_pos (by omega)]; first | done | rfl | omega) | (rw [if_neg (by omega)]; first | done | rfl | omega)) | ((try unfold g_st); (try unfold g_dep); (try unfold g_nb); (repeat' split) <;> omega) | (symm; (repeat (first | rw [if_pos (by omega)] | rw [if_neg (by omega)])); first | done | rfl | omega))
  · refine rn_callP (k' := 2) (y := 152) (vs := [mI (a)]) (S' := []) (v := some (mI 0)) (h' := mkh μ c s) rfl rfl rfl (by have hz : Cl PT 152 [mI (a)] (mkh μ c s) (fun r => r = (some (some (mI (if 0 ≤ a ∧ a ≤ 29 then 1 else 0))), mkh μ c s)) := c_X11_isDay (a := a) (μ := μ) (c := c) (s := s); rw [if_neg hq1] at hz; exact hz) ?_
    show Rn PT none kX11_on 2 [some (mR 0), some (mI (a)), some (mI (b))] [mI (0)] (mkh μ c s) _
    refine rn_if_eq (k' := 3) rfl rfl (fun hc6 => ?_) (fun hc6 => ?_)
    · skip
      refine rn_iconst (k' := 9) rfl rfl ?_
      refine rn_iret rfl (Or.inl rfl) ?_
      first | rfl | (refine congrArg (fun z => ((some (some (mI z)) : Option (Option MV)), mkh μ c s)) ?_; first | rfl | omega | (symm; first | (rw [if_pos (by omega)]; first | done | rfl | omega) | (rw [if_neg (by omega)]; first | done | rfl | omega)) | (symm; unfold g_tim; first | (rw [if_pos (by omega)]; first | done | rfl | omega) | (rw [if_neg (by omega)]; first | done | rfl | omega)) | (symm; unfold g_st; first | (rw [if_pos (by omega)]; first | done | rfl | omega) | (rw [if_neg (by omega)]; first | done | rfl | omega)) | (symm; unfold g_dep; first | (rw [if_pos (by omega)]; first | done | rfl | omega) | (rw [if_neg (by omega)]; first | done | rfl | omega)) | (symm; unfold g_nb; first | (rw [if_pos (by omega)]; first | done | rfl | omega) | (rw [if_neg (by omega)]; first | done | rfl | omega)) | ((try unfold g_st); (try unfold g_dep); (try unfold g_nb); (repeat' split) <;> omega) | (symm; (repeat (first | rw [if_pos (by omega)] | rw [if_neg (by omega)])); first | done | rfl | omega))
    · exfalso; omega
set_option maxHeartbeats 2000000 in
theorem c_X12_on {μ : Nat → Nat → Int} {c s : Nat} (hL : I_land μ) {a b : Int} : Cl PT 206 [mR 118, mI a, mI b] (mkh μ c s) (fun r => r = (some (some (mI (if (0 ≤ a ∧ a ≤ 29) ∧ 0 ≤ b ∧ b ≤ 2 then g_w μ b a else -1))), mkh (m_set μ 118 0 0) c s)) := by
  have hL_ := hL
  obtain ⟨lc, lr, le, lm, lw, lh, lwo, lwd, q0, q1, q2, q3, q4, q8, q499, q500, lth, lG, lT, lW, -⟩ := hL_
  refine ⟨_, PT_206, Nat.le_of_ble_eq_true rfl, ?_⟩
  show Rn PT none kX12_on 0 [some (mR 118), some (mI (a)), some (mI (b))] [] (mkh μ c s) _
  refine rn_aload_n (k' := 1) rfl rfl rfl ?_
  refine rn_iconst (k' := 2) rfl rfl ?_
  refine rn_putI (k' := 3) rfl rfl K0_118 (by decide) rfl ?_
  refine rn_iload_n (k' := 4) rfl rfl rfl ?_
  by_cases hq2 : 0 ≤ a ∧ a ≤ 29
  · refine rn_callP (k' := 5) (y := 194) (vs := [mI (a)]) (S' := []) (v := some (mI 1)) (h' := mkh (m_set μ 118 0 (0)) c s) rfl rfl rfl (by have hz : Cl PT 194 [mI (a)] (mkh (m_set μ 118 0 (0)) c s) (fun r => r = (some (some (mI (if 0 ≤ a ∧ a ≤ 29 then 1 else 0))), mkh (m_set μ 118 0 (0)) c s)) := c_X12_isDay (a := a) (μ := (m_set μ 118 0 (0))) (c := c) (s := s); rw [if_pos hq2] at hz; exact hz) ?_
    show Rn PT none kX12_on 5 [some (mR 118), some (mI (a)), some (mI (b))] [mI (1)] (mkh (m_set μ 118 0 (0)) c s) _
    refine rn_if_eq (k' := 6) rfl rfl (fun hc3 => ?_) (fun hc3 => ?_)
    · exfalso; omega
    · skip
      refine rn_iload_n (k' := 7) rfl rfl rfl ?_
      refine rn_iconst (k' := 8) rfl rfl ?_
      refine rn_iconst (k' := 9) rfl rfl ?_
      by_cases hq4 : 0 ≤ b ∧ b ≤ 2
      · refine rn_callP (k' := 10) (y := 167) (vs := [mI (b), mI (0), mI (2)]) (S' := []) (v := some (mI 1)) (h' := mkh (m_set μ 118 0 (0)) c s) rfl rfl rfl (by have hz : Cl PT 167 [mI (b), mI (0), mI (2)] (mkh (m_set μ 118 0 (0)) c s) (fun r => r = (some (some (mI (if 0 ≤ b ∧ b ≤ 2 then 1 else 0))), mkh (m_set μ 118 0 (0)) c s)) := c_X12_isIn (v := b) (lo := 0) (hi := 2) (μ := (m_set μ 118 0 (0))) (c := c) (s := s); rw [if_pos hq4] at hz; exact hz) ?_
        show Rn PT none kX12_on 10 [some (mR 118), some (mI (a)), some (mI (b))] [mI (1)] (mkh (m_set μ 118 0 (0)) c s) _
        refine rn_if_eq (k' := 11) rfl rfl (fun hc5 => ?_) (fun hc5 => ?_)
        · exfalso; omega
        · skip
          refine rn_aload_n (k' := 12) rfl rfl rfl ?_
          refine rn_iload_n (k' := 13) rfl rfl rfl ?_
          refine rn_iload_n (k' := 14) rfl rfl rfl ?_
          have hb6 := g_w_b hL b a
          refine rn_callP (k' := 15) (y := 196) (vs := [mR 118, mI (a), mI (b)]) (S' := []) (v := some (mI (g_w μ b a))) (h' := mkh (m_set μ 118 0 (0)) c s) rfl rfl rfl (c_X12_onDay ((hL).set rfl) (by omega) (by omega)) ?_
          show Rn PT none kX12_on 15 [some (mR 118), some (mI (a)), some (mI (b))] [mI (g_w μ b a)] (mkh (m_set μ 118 0 (0)) c s) _
          refine rn_goto rfl ?_
          refine rn_iret rfl (Or.inl rfl) ?_
          first | rfl | (refine congrArg (fun z => ((some (some (mI z)) : Option (Option MV)), mkh (m_set μ 118 0 (0)) c s)) ?_; first | rfl | omega | (symm; first | (rw [if_pos (by omega)]; first | done | rfl | omega) | (rw [if_neg (by omega)]; first | done | rfl | omega)) | (symm; unfold g_tim; first | (rw [if_pos (by omega)]; first | done | rfl | omega) | (rw [if_neg (by omega)]; first | done | rfl | omega)) | (symm; unfold g_st; first | (rw [if_pos (by omega)]; first | done | rfl | omega) | (rw [if_neg (by omega)]; first | done | rfl | omega)) | (symm; unfold g_dep; first | (rw [if_pos (by omega)]; first | done | rfl | omega) | (rw [if_neg (by omega)]; first | done | rfl | omega)) | (symm; unfold g_nb; first | (rw [if_pos (by omega)]; first | done | rfl | omega) | (rw [if_neg (by omega)]; first | done | rfl | omega)) | ((try unfold g_st); (try unfold g_dep); (try unfold g_nb); (repeat' split) <;> omega) | (symm; (repeat (first | rw [if_pos (by omega)] | rw [if_neg (by omega)])); first | done | rfl | omega))
      · refine rn_callP (k' := 10) (y := 167) (vs := [mI (b), mI (0), mI (2)]) (S' := []) (v := some (mI 0)) (h' := mkh (m_set μ 118 0 (0)) c s) rfl rfl rfl (by have hz : Cl PT 167 [mI (b), mI (0), mI (2)] (mkh (m_set μ 118 0 (0)) c s) (fun r => r = (some (some (mI (if 0 ≤ b ∧ b ≤ 2 then 1 else 0))), mkh (m_set μ 118 0 (0)) c s)) := c_X12_isIn (v := b) (lo := 0) (hi := 2) (μ := (m_set μ 118 0 (0))) (c := c) (s := s); rw [if_neg hq4] at hz; exact hz) ?_
        show Rn PT none kX12_on 10 [some (mR 118), some (mI (a)), some (mI (b))] [mI (0)] (mkh (m_set μ 118 0 (0)) c s) _
        refine rn_if_eq (k' := 11) rfl rfl (fun hc7 => ?_) (fun hc7 => ?_)
        · skip
          refine rn_iconst (k' := 17) rfl rfl ?_
          refine rn_iret rfl (Or.inl rfl) ?_
          first | rfl | (refine congrArg (fun z => ((some (some (mI z)) : Option (Option MV)), mkh (m_set μ 118 0 (0)) c s)) ?_; first | rfl | omega | (symm; first | (rw [if_pos (by omega)]; first | done | rfl | omega) | (rw [if_neg (by omega)]; first | done | rfl | omega)) | (symm; unfold g_tim; first | (rw [if_pos (by omega)]; first | done | rfl | omega) | (rw [if_neg (by omega)]; first | done | rfl | omega)) | (symm; unfold g_st; first | (rw [if_pos (by omega)]; first | done | rfl | omega) | (rw [if_neg (by omega)]; first | done | rfl | omega)) | (symm; unfold g_dep; first | (rw [if_pos (by omega)]; first | done | rfl | omega) | (rw [if_neg (by omega)]; first | done | rfl | omega)) | (symm; unfold g_nb; first | (rw [if_pos (by omega)]; first | done | rfl | omega) | (rw [if_neg (by omega)]; first | done | rfl | omega)) | ((try unfold g_st); (try unfold g_dep); (try unfold g_nb); (repeat' split) <;> omega) | (symm; (repeat (first | rw [if_pos (by omega)] | rw [if_neg (by omega)])); first | done | rfl | omega))
        · exfalso; omega
  · refine rn_callP (k' := 5) (y := 194) (vs := [mI (a)]) (S' := []) (v := some (mI 0)) (h' := mkh (m_set μ 118 0 (0)) c s) rfl rfl rfl (by have hz : Cl PT 194 [mI (a)] (mkh (m_set μ 118 0 (0)) c s) (fun r => r = (some (some (mI (if 0 ≤ a ∧ a ≤ 29 then 1 else 0))), mkh (m_set μ 118 0 (0)) c s)) := c_X12_isDay (a := a) (μ := (m_set μ 118 0 (0))) (c := c) (s := s); rw [if_neg hq2] at hz; exact hz) ?_
    show Rn PT none kX12_on 5 [some (mR 118), some (mI (a)), some (mI (b))] [mI (0)] (mkh (m_set μ 118 0 (0)) c s) _
    refine rn_if_eq (k' := 6) rfl rfl (fun hc8 => ?_) (fun hc8 => ?_)
    · skip
      refine rn_iconst (k' := 17) rfl rfl ?_
      refine rn_iret rfl (Or.inl rfl) ?_
      first | rfl | (refine congrArg (fun z => ((some (some (mI z)) : Option (Option MV)), mkh (m_set μ 118 0 (0)) c s)) ?_; first | rfl | omega | (symm; first | (rw [if_pos (by omega)]; first | done | rfl | omega) | (rw [if_neg (by omega)]; first | done | rfl | omega)) | (symm; unfold g_tim; first | (rw [if_pos (by omega)]; first | done | rfl | omega) | (rw [if_neg (by omega)]; first | done | rfl | omega)) | (symm; unfold g_st; first | (rw [if_pos (by omega)]; first | done | rfl | omega) | (rw [if_neg (by omega)]; first | done | rfl | omega)) | (symm; unfold g_dep; first | (rw [if_pos (by omega)]; first | done | rfl | omega) | (rw [if_neg (by omega)]; first | done | rfl | omega)) | (symm; unfold g_nb; first | (rw [if_pos (by omega)]; first | done | rfl | omega) | (rw [if_neg (by omega)]; first | done | rfl | omega)) | ((try unfold g_st); (try unfold g_dep); (try unfold g_nb); (repeat' split) <;> omega) | (symm; (repeat (first | rw [if_pos (by omega)] | rw [if_neg (by omega)])); first | done | rfl | omega))
    · exfalso; omega
theorem pair_6 : ∀ (a0 : Int), ∀ (a1 : Int), i32 a0 → i32 a1 → PairI (Inv N) 108 206 [mI a0, mI a1] := by
  intro a0 a1 ha0 ha1 μ c s hI
  exact ⟨_, μ, m_set μ 118 0 0, c_X11_on hI.land, c_X12_on hI.land, hI.set rfl⟩
theorem tim_b {μ : Nat → Nat → Int} (hL : I_land μ) (hS : I_scene μ) (j : Nat) : 0 ≤ g_tim μ (g_st μ (μ 16 j)) ∧ g_tim μ (g_st μ (μ 16 j)) ≤ 300 := by
  obtain ⟨-, -, -, -, -, -, -, hH, -⟩ := hS
  have h := g_st_b hL (a := μ 16 j) (hH j).1
  obtain ⟨-, -, -, -, h5, -⟩ := hL
  unfold g_tim
  split <;> omega
set_option maxHeartbeats 4000000 in
theorem l_X11_timber {μ : Nat → Nat → Int} {c s : Nat} (hL : I_land μ) (hS : I_scene μ) : ∀ (d n : Nat) (k : Int) (acc : Int), k = (n : Int) → acc = fS (fun n => g_tim μ (g_st μ (μ 16 n))) n → (n : Int) + d = μ 6 13 → Rn PT none kX11_timber 4 [some (mR 0), some (mI (acc)), some (mI (k))] [] (mkh μ c s) (fun r => r = (some (some (mI (fS (fun n => g_tim μ (g_st μ (μ 16 n))) (μ 6 13).toNat))), mkh (μ) c s)) := by
  have hL_ := hL
  obtain ⟨lc, lr, le, lm, lw, lh, lwo, lwd, q0, q1, q2, q3, q4, q8, q499, q500, lth, lG, lT, lW, -⟩ := hL_
  have hS_ := hS
  obtain ⟨sd, sw, stk, s4, s5, s6, hC, hH, -, s10, sce, swc, s13⟩ := hS_
  intro d
  induction d with
  | zero =>
    intro n k acc  ek eacc hn
    subst ek eacc
    have hsum := fS_b (f := (fun n => g_tim μ (g_st μ (μ 16 n)))) (B := 300) (fun j => tim_b hL hS j) n
    have hone := tim_b hL hS n
    refine rn_iload_n (k' := 5) rfl rfl rfl ?_
    refine rn_aload_n (k' := 6) rfl rfl rfl ?_
    refine rn_getR (k' := 7) rfl rfl K0_0 (by decide) rfl R0_0_3 ?_
    refine rn_getI (k' := 8) rfl rfl K0_6 (by decide) rfl ?_
    refine rn_icmp_ge (k' := 9) rfl rfl (fun hc1 => ?_) (fun hc1 => ?_)
    · skip
      refine rn_iload_n (k' := 21) rfl rfl rfl ?_
      refine rn_iret rfl (Or.inl rfl) ?_
      rw [show (μ 6 13).toNat = n by omega]
    · exfalso; omega
  | succ d ih =>
    intro n k acc  ek eacc hn
    subst ek eacc
    have hsum := fS_b (f := (fun n => g_tim μ (g_st μ (μ 16 n)))) (B := 300) (fun j => tim_b hL hS j) n
    have hone := tim_b hL hS n
    refine rn_iload_n (k' := 5) rfl rfl rfl ?_
    refine rn_aload_n (k' := 6) rfl rfl rfl ?_
    refine rn_getR (k' := 7) rfl rfl K0_0 (by decide) rfl R0_0_3 ?_
    refine rn_getI (k' := 8) rfl rfl K0_6 (by decide) rfl ?_
    refine rn_icmp_ge (k' := 9) rfl rfl (fun hc1 => ?_) (fun hc1 => ?_)
    · exfalso; omega
    · skip
      refine rn_iload_n (k' := 10) rfl rfl rfl ?_
      refine rn_aload_n (k' := 11) rfl rfl rfl ?_
      refine rn_getR (k' := 12) rfl rfl K0_0 (by decide) rfl R0_0_3 ?_
      refine rn_aload_n (k' := 13) rfl rfl rfl ?_
      refine rn_iload_n (k' := 14) rfl rfl rfl ?_
      have hb2 := g_st_b hL (a := μ 16 n) (hH _).1
      refine rn_callP (k' := 15) (y := 157) (vs := [mR 0, mI ((n : Int))]) (S' := [mR 6, mI (fS (fun n => g_tim μ (g_st μ (μ 16 n))) n)]) (v := some (mI (g_st μ (μ 16 n)))) (h' := mkh μ c s) rfl rfl rfl (c_X11_stiltsOf (hL) hH (by omega)) ?_
      show Rn PT none kX11_timber 15 [some (mR 0), some (mI (fS (fun n => g_tim μ (g_st μ (μ 16 n))) n)), some (mI ((n : Int)))] [mI (g_st μ (μ 16 n)), mR 6, mI (fS (fun n => g_tim μ (g_st μ (μ 16 n))) n)] (mkh μ c s) _
      refine rn_callP (k' := 16) (y := 34) (vs := [mR 6, mI (g_st μ (μ 16 n))]) (S' := [mI (fS (fun n => g_tim μ (g_st μ (μ 16 n))) n)]) (v := some (mI (g_tim μ (g_st μ (μ 16 n))))) (h' := mkh μ c s) rfl rfl rfl (k_timberFor (hL) (by omega)) ?_
      show Rn PT none kX11_timber 16 [some (mR 0), some (mI (fS (fun n => g_tim μ (g_st μ (μ 16 n))) n)), some (mI ((n : Int)))] [mI (g_tim μ (g_st μ (μ 16 n))), mI (fS (fun n => g_tim μ (g_st μ (μ 16 n))) n)] (mkh μ c s) _
      refine rn_iadd (k' := 17) rfl rfl (by omega) ?_
      refine rn_istore_n (k' := 18) (L' := [some (mR 0), some (mI ((fS (fun n => g_tim μ (g_st μ (μ 16 n))) n) + (g_tim μ (g_st μ (μ 16 n))))), some (mI ((n : Int)))]) rfl rfl (Nat.le_of_ble_eq_true rfl) rfl ?_
      refine rn_iinc (k' := 19) (L' := [some (mR 0), some (mI ((fS (fun n => g_tim μ (g_st μ (μ 16 n))) n) + (g_tim μ (g_st μ (μ 16 n))))), some (mI ((n : Int) + 1))]) rfl rfl rfl (by omega) rfl ?_
      refine rn_goto rfl ?_
      exact ih (n + 1) _ _ (by omega) (by rfl) (by omega)
set_option maxHeartbeats 2000000 in
theorem c_X11_timber {μ : Nat → Nat → Int} {c s : Nat} (hL : I_land μ) (hS : I_scene μ) : Cl PT 109 [mR 0] (mkh μ c s) (fun r => r = (some (some (mI (fS (fun n => g_tim μ (g_st μ (μ 16 n))) (μ 6 13).toNat))), mkh (μ) c s)) := by
  have hL_ := hL
  obtain ⟨lc, lr, le, lm, lw, lh, lwo, lwd, q0, q1, q2, q3, q4, q8, q499, q500, lth, lG, lT, lW, -⟩ := hL_
  have hS_ := hS
  obtain ⟨sd, sw, stk, s4, s5, s6, hC, hH, -, s10, sce, swc, s13⟩ := hS_
  refine ⟨_, PT_109, Nat.le_of_ble_eq_true rfl, ?_⟩
  show Rn PT none kX11_timber 0 [some (mR 0), none, none] [] (mkh μ c s) _
  refine rn_iconst (k' := 1) rfl rfl ?_
  refine rn_istore_n (k' := 2) (L' := [some (mR 0), some (mI (0)), none]) rfl rfl (Nat.le_of_ble_eq_true rfl) rfl ?_
  refine rn_iconst (k' := 3) rfl rfl ?_
  refine rn_istore_n (k' := 4) (L' := [some (mR 0), some (mI (0)), some (mI (0))]) rfl rfl (Nat.le_of_ble_eq_true rfl) rfl ?_
  exact l_X11_timber hL hS (μ 6 13).toNat 0 _ _ rfl rfl (by omega)
set_option maxHeartbeats 4000000 in
theorem l_X12_timber {μ : Nat → Nat → Int} {c s : Nat} (hL : I_land μ) (hS : I_scene μ) : ∀ (d n : Nat) (k : Int) (acc : Int), k = (n : Int) → acc = fS (fun n => g_tim μ (g_st μ (μ 16 n))) n → (n : Int) + d = μ 6 13 → Rn PT none kX12_timber 7 [some (mR 118), some (mI (acc)), some (mI (k))] [] (mkh (m_set μ 118 0 (0)) c s) (fun r => r = (some (some (mI (fS (fun n => g_tim μ (g_st μ (μ 16 n))) (μ 6 13).toNat))), mkh ((m_set μ 118 0 (0))) c s)) := by
  have hL_ := hL
  obtain ⟨lc, lr, le, lm, lw, lh, lwo, lwd, q0, q1, q2, q3, q4, q8, q499, q500, lth, lG, lT, lW, -⟩ := hL_
  have hS_ := hS
  obtain ⟨sd, sw, stk, s4, s5, s6, hC, hH, -, s10, sce, swc, s13⟩ := hS_
  intro d
  induction d with
  | zero =>
    intro n k acc  ek eacc hn
    subst ek eacc
    have hsum := fS_b (f := (fun n => g_tim μ (g_st μ (μ 16 n)))) (B := 300) (fun j => tim_b hL hS j) n
    have hone := tim_b hL hS n
    refine rn_iload_n (k' := 8) rfl rfl rfl ?_
    refine rn_aload_n (k' := 9) rfl rfl rfl ?_
    refine rn_getR (k' := 10) rfl rfl K0_118 (by decide) rfl R0_118_6 ?_
    refine rn_bipush (k' := 11) rfl rfl ?_
    refine rn_iaload (k' := 12) rfl rfl K0_120 (by omega) (by omega) ?_
    show Rn PT none kX12_timber 12 [some (mR 118), some (mI (fS (fun n => g_tim μ (g_st μ (μ 16 n))) n)), some (mI ((n : Int)))] [mI (μ 120 8), mI ((n : Int))] (mkh (m_set μ 118 0 (0)) c s) _
    rw [q8]
    refine rn_icmp_ge (k' := 13) rfl rfl (fun hc1 => ?_) (fun hc1 => ?_)
    · skip
      refine rn_iload_n (k' := 22) rfl rfl rfl ?_
      refine rn_iret rfl (Or.inl rfl) ?_
      rw [show (μ 6 13).toNat = n by omega]
    · exfalso; omega
  | succ d ih =>
    intro n k acc  ek eacc hn
    subst ek eacc
    have hsum := fS_b (f := (fun n => g_tim μ (g_st μ (μ 16 n)))) (B := 300) (fun j => tim_b hL hS j) n
    have hone := tim_b hL hS n
    refine rn_iload_n (k' := 8) rfl rfl rfl ?_
    refine rn_aload_n (k' := 9) rfl rfl rfl ?_
    refine rn_getR (k' := 10) rfl rfl K0_118 (by decide) rfl R0_118_6 ?_
    refine rn_bipush (k' := 11) rfl rfl ?_
    refine rn_iaload (k' := 12) rfl rfl K0_120 (by omega) (by omega) ?_
    show Rn PT none kX12_timber 12 [some (mR 118), some (mI (fS (fun n => g_tim μ (g_st μ (μ 16 n))) n)), some (mI ((n : Int)))] [mI (μ 120 8), mI ((n : Int))] (mkh (m_set μ 118 0 (0)) c s) _
    rw [q8]
    refine rn_icmp_ge (k' := 13) rfl rfl (fun hc1 => ?_) (fun hc1 => ?_)
    · exfalso; omega
    · skip
      refine rn_iload_n (k' := 14) rfl rfl rfl ?_
      refine rn_aload_n (k' := 15) rfl rfl rfl ?_
      refine rn_iload_n (k' := 16) rfl rfl rfl ?_
      refine rn_callP (k' := 17) (y := 200) (vs := [mR 118, mI ((n : Int))]) (S' := [mI (fS (fun n => g_tim μ (g_st μ (μ 16 n))) n)]) (v := some (mI (g_tim μ (g_st μ (μ 16 n))))) (h' := mkh (m_set μ 118 0 (0)) c s) rfl rfl rfl (c_X12_timberOf ((hL).set rfl) ((hS).set rfl) (by show 0 ≤ ((n : Int) : Int) ∧ ((n : Int) : Int) < μ 6 13; omega)) ?_
      show Rn PT none kX12_timber 17 [some (mR 118), some (mI (fS (fun n => g_tim μ (g_st μ (μ 16 n))) n)), some (mI ((n : Int)))] [mI (g_tim μ (g_st μ (μ 16 n))), mI (fS (fun n => g_tim μ (g_st μ (μ 16 n))) n)] (mkh (m_set μ 118 0 (0)) c s) _
      refine rn_iadd (k' := 18) rfl rfl (by omega) ?_
      refine rn_istore_n (k' := 19) (L' := [some (mR 118), some (mI ((fS (fun n => g_tim μ (g_st μ (μ 16 n))) n) + (g_tim μ (g_st μ (μ 16 n))))), some (mI ((n : Int)))]) rfl rfl (Nat.le_of_ble_eq_true rfl) rfl ?_
      refine rn_iinc (k' := 20) (L' := [some (mR 118), some (mI ((fS (fun n => g_tim μ (g_st μ (μ 16 n))) n) + (g_tim μ (g_st μ (μ 16 n))))), some (mI ((n : Int) + 1))]) rfl rfl rfl (by omega) rfl ?_
      refine rn_goto rfl ?_
      exact ih (n + 1) _ _ (by omega) (by rfl) (by omega)
set_option maxHeartbeats 2000000 in
theorem c_X12_timber {μ : Nat → Nat → Int} {c s : Nat} (hL : I_land μ) (hS : I_scene μ) : Cl PT 207 [mR 118] (mkh μ c s) (fun r => r = (some (some (mI (fS (fun n => g_tim μ (g_st μ (μ 16 n))) (μ 6 13).toNat))), mkh ((m_set μ 118 0 (0))) c s)) := by
  have hL_ := hL
  obtain ⟨lc, lr, le, lm, lw, lh, lwo, lwd, q0, q1, q2, q3, q4, q8, q499, q500, lth, lG, lT, lW, -⟩ := hL_
  have hS_ := hS
  obtain ⟨sd, sw, stk, s4, s5, s6, hC, hH, -, s10, sce, swc, s13⟩ := hS_
  refine ⟨_, PT_207, Nat.le_of_ble_eq_true rfl, ?_⟩
  show Rn PT none kX12_timber 0 [some (mR 118), none, none] [] (mkh μ c s) _
  refine rn_aload_n (k' := 1) rfl rfl rfl ?_
  refine rn_iconst (k' := 2) rfl rfl ?_
  refine rn_putI (k' := 3) rfl rfl K0_118 (by decide) rfl ?_
  refine rn_iconst (k' := 4) rfl rfl ?_
  refine rn_istore_n (k' := 5) (L' := [some (mR 118), some (mI (0)), none]) rfl rfl (Nat.le_of_ble_eq_true rfl) rfl ?_
  refine rn_iconst (k' := 6) rfl rfl ?_
  refine rn_istore_n (k' := 7) (L' := [some (mR 118), some (mI (0)), some (mI (0))]) rfl rfl (Nat.le_of_ble_eq_true rfl) rfl ?_
  exact l_X12_timber hL hS (μ 6 13).toNat 0 _ _ rfl rfl (by omega)
theorem pair_7 : PairI (Inv N) 109 207 [] := by
  intro μ c s hI
  exact ⟨_, μ, m_set μ 118 0 0, c_X11_timber hI.land hI.scene, c_X12_timber hI.land hI.scene, hI.set rfl⟩
