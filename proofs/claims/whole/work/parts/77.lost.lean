variable {N : Int}
/-! ===== printed by wip/whole/gen77.py: pair: lost ===== -/
set_option maxHeartbeats 4000000 in
theorem t_X11_lost {μ : Nat → Nat → Int} {c s : Nat} (hL : I_land μ) (hS : I_scene μ) {a0 a1 : Int} : Cl PT 135 [mR 0, mI a0, mI a1] (mkh μ c s) (fun r => ∃ μ1, r = (some (some (mI (if (0 ≤ a0 ∧ a0 < μ 6 13) ∧ (1 ≤ a1 ∧ a1 ≤ 20) ∧ ¬ μ 14 3 = -1 then μ 16 a0.toNat - (hunt μ (g_w μ 0 (μ 14 0)) (μ 15) (μ 16, μ 14 3, μ 14 4) a1.toNat).1 a0.toNat else -1))), mkh μ1 c s) ∧ rst μ1 = rst μ) := by
  have hL_ := hL
  obtain ⟨lc, lr, le, lm, lw, lh, lwo, lwd, q0, q1, q2, q3, q4, q8, q499, q500, lth, lG, lT, lW, -⟩ := hL_
  have hS_ := hS
  obtain ⟨sd, sw, stk, s4, s5, s6, hC, hH, -, s10, sce, swc, s13⟩ := hS_
  by_cases hv : (0 ≤ a0 ∧ a0 < μ 6 13) ∧ (1 ≤ a1 ∧ a1 ≤ 20) ∧ ¬ μ 14 3 = -1
  · rw [if_pos hv]
    obtain ⟨h, rfl⟩ := Int.eq_ofNat_of_zero_le hv.1.1
    obtain ⟨R, rfl⟩ := Int.eq_ofNat_of_zero_le (show 0 ≤ a1 by omega)
    rw [show ((h : Int)).toNat = h from rfl, show ((R : Int)).toNat = R from rfl]
    have hh := hv.1.2
    have hw := hv.2.2
    have hRb := hv.2.1
    have hok := hunt_ok hL (W := g_w μ 0 (μ 14 0)) (hOK_scene hS hw) R
    have hk1 := hok.2.1 h hh
    have hHh := hH h
    obtain ⟨M, ⟨⟨hM, t0, t3, t4, tc, th, th2⟩, m5, m6⟩, hmv⟩ := hunt_trial (c := c) (s := s) hL hS hw (by omega) (R := R) (by omega)
    have e16 : M 16 h = μ 16 h := sup_eq hM rfl
    have eth := th h hh
    refine ⟨_, PT_135, Nat.le_of_ble_eq_true rfl, ?_⟩
    show Rn PT none kX11_lost 0 [some (mR 0), some (mI ((h : Int))), some (mI ((R : Int)))] [] (mkh μ c s) _
    refine rn_aload_n (k' := 1) rfl rfl rfl ?_
    refine rn_iload_n (k' := 2) rfl rfl rfl ?_
    by_cases hq1 : 0 ≤ (h : Int) ∧ (h : Int) < μ 6 13
    · refine rn_callP (k' := 3) (y := 151) (vs := [mR 0, mI ((h : Int))]) (S' := []) (v := some (mI 1)) (h' := mkh μ c s) rfl rfl rfl (by have hz : Cl PT 151 [mR 0, mI ((h : Int))] (mkh μ c s) (fun r => r = (some (some (mI (if 0 ≤ (h : Int) ∧ (h : Int) < μ 6 13 then 1 else 0))), mkh μ c s)) := c_X11_isHerd (hL) (a := (h : Int)) (μ := μ) (c := c) (s := s); rw [if_pos hq1] at hz; exact hz) ?_
      show Rn PT none kX11_lost 3 [some (mR 0), some (mI ((h : Int))), some (mI ((R : Int)))] [mI (1)] (mkh μ c s) _
      refine rn_if_eq (k' := 4) rfl rfl (fun hc2 => ?_) (fun hc2 => ?_)
      · exfalso; omega
      · skip
        refine rn_iload_n (k' := 5) rfl rfl rfl ?_
        by_cases hq3 : 1 ≤ (R : Int) ∧ (R : Int) ≤ 20
        · refine rn_callP (k' := 6) (y := 154) (vs := [mI ((R : Int))]) (S' := []) (v := some (mI 1)) (h' := mkh μ c s) rfl rfl rfl (by have hz : Cl PT 154 [mI ((R : Int))] (mkh μ c s) (fun r => r = (some (some (mI (if 1 ≤ (R : Int) ∧ (R : Int) ≤ 20 then 1 else 0))), mkh μ c s)) := c_X11_isNight (a := (R : Int)) (μ := μ) (c := c) (s := s); rw [if_pos hq3] at hz; exact hz) ?_
          show Rn PT none kX11_lost 6 [some (mR 0), some (mI ((h : Int))), some (mI ((R : Int)))] [mI (1)] (mkh μ c s) _
          refine rn_if_eq (k' := 7) rfl rfl (fun hc4 => ?_) (fun hc4 => ?_)
          · exfalso; omega
          · skip
            refine rn_aload_n (k' := 8) rfl rfl rfl ?_
            refine rn_getR (k' := 9) rfl rfl K0_0 (by decide) rfl R0_0_4 ?_
            refine rn_getI (k' := 10) rfl rfl K0_14 (by decide) rfl ?_
            refine rn_iconst (k' := 11) rfl rfl ?_
            refine rn_icmp_ne (k' := 12) rfl rfl (fun hc5 => ?_) (fun hc5 => ?_)
            · skip
              refine rn_aload_n (k' := 15) rfl rfl rfl ?_
              refine rn_getR (k' := 16) rfl rfl K0_0 (by decide) rfl R0_0_11 ?_
              refine rn_callP (k' := 17) (y := 1) (vs := [mR 82]) (S' := []) (v := none) (h' := mkh (mub μ) c s) rfl rfl rfl (c_X0_begin (μ := μ) (c := c) (s := s)) ?_
              show Rn PT none kX11_lost 17 [some (mR 0), some (mI ((h : Int))), some (mI ((R : Int)))] [] (mkh (mub μ) c s) _
              refine rn_aload_n (k' := 18) rfl rfl rfl ?_
              refine rn_getR (k' := 19) rfl rfl K0_0 (by decide) rfl R0_0_11 ?_
              refine rn_iload_n (k' := 20) rfl rfl rfl ?_
              refine rn_callP (k' := 21) (y := 9) (vs := [mR 82, mI ((R : Int))]) (S' := []) (v := some (mI (0))) (h' := mkh M c s) rfl rfl rfl (hmv) ?_
              show Rn PT none kX11_lost 21 [some (mR 0), some (mI ((h : Int))), some (mI ((R : Int)))] [mI (0)] (mkh M c s) _
              refine rn_popI (k' := 22) rfl rfl ?_
              refine rn_aload_n (k' := 23) rfl rfl rfl ?_
              refine rn_getR (k' := 24) rfl rfl K0_0 (by decide) rfl R0_0_4 ?_
              refine rn_getR (k' := 25) rfl rfl K0_14 (by decide) rfl R0_14_2 ?_
              refine rn_iload_n (k' := 26) rfl rfl rfl ?_
              refine rn_iaload (k' := 27) rfl rfl K0_16 (by omega) (by omega) ?_
              show Rn PT none kX11_lost 27 [some (mR 0), some (mI ((h : Int))), some (mI ((R : Int)))] [mI (M 16 (h))] (mkh M c s) _
              have hb6 := hH h
              refine rn_aload_n (k' := 28) rfl rfl rfl ?_
              refine rn_getR (k' := 29) rfl rfl K0_0 (by decide) rfl R0_0_11 ?_
              refine rn_getR (k' := 30) rfl rfl K0_82 (by decide) rfl R0_82_3 ?_
              refine rn_getR (k' := 31) rfl rfl K0_83 (by decide) rfl R0_83_2 ?_
              refine rn_iload_n (k' := 32) rfl rfl rfl ?_
              refine rn_iaload (k' := 33) rfl rfl K0_85 (by omega) (by omega) ?_
              show Rn PT none kX11_lost 33 [some (mR 0), some (mI ((h : Int))), some (mI ((R : Int)))] [mI (M 85 (h)), mI (M 16 (h))] (mkh M c s) _
              refine rn_isub (k' := 34) rfl rfl (by omega) ?_
              refine rn_iret rfl (Or.inl rfl) ?_
              exact ⟨M, by rw [e16, eth], hM⟩
            · exfalso; omega
        · exfalso; omega
    · exfalso; omega
  · rw [if_neg hv]
    refine ⟨_, PT_135, Nat.le_of_ble_eq_true rfl, ?_⟩
    show Rn PT none kX11_lost 0 [some (mR 0), some (mI (a0)), some (mI (a1))] [] (mkh μ c s) _
    refine rn_aload_n (k' := 1) rfl rfl rfl ?_
    refine rn_iload_n (k' := 2) rfl rfl rfl ?_
    by_cases hq1 : 0 ≤ a0 ∧ a0 < μ 6 13
    · refine rn_callP (k' := 3) (y := 151) (vs := [mR 0, mI (a0)]) (S' := []) (v := some (mI 1)) (h' := mkh μ c s) rfl rfl rfl (by have hz : Cl PT 151 [mR 0, mI (a0)] (mkh μ c s) (fun r => r = (some (some (mI (if 0 ≤ a0 ∧ a0 < μ 6 13 then 1 else 0))), mkh μ c s)) := c_X11_isHerd (hL) (a := a0) (μ := μ) (c := c) (s := s); rw [if_pos hq1] at hz; exact hz) ?_
      show Rn PT none kX11_lost 3 [some (mR 0), some (mI (a0)), some (mI (a1))] [mI (1)] (mkh μ c s) _
      refine rn_if_eq (k' := 4) rfl rfl (fun hc2 => ?_) (fun hc2 => ?_)
      · exfalso; omega
      · skip
        refine rn_iload_n (k' := 5) rfl rfl rfl ?_
        by_cases hq3 : 1 ≤ a1 ∧ a1 ≤ 20
        · refine rn_callP (k' := 6) (y := 154) (vs := [mI (a1)]) (S' := []) (v := some (mI 1)) (h' := mkh μ c s) rfl rfl rfl (by have hz : Cl PT 154 [mI (a1)] (mkh μ c s) (fun r => r = (some (some (mI (if 1 ≤ a1 ∧ a1 ≤ 20 then 1 else 0))), mkh μ c s)) := c_X11_isNight (a := a1) (μ := μ) (c := c) (s := s); rw [if_pos hq3] at hz; exact hz) ?_
          show Rn PT none kX11_lost 6 [some (mR 0), some (mI (a0)), some (mI (a1))] [mI (1)] (mkh μ c s) _
          refine rn_if_eq (k' := 7) rfl rfl (fun hc4 => ?_) (fun hc4 => ?_)
          · exfalso; omega
          · skip
            refine rn_aload_n (k' := 8) rfl rfl rfl ?_
            refine rn_getR (k' := 9) rfl rfl K0_0 (by decide) rfl R0_0_4 ?_
            refine rn_getI (k' := 10) rfl rfl K0_14 (by decide) rfl ?_
            refine rn_iconst (k' := 11) rfl rfl ?_
            refine rn_icmp_ne (k' := 12) rfl rfl (fun hc5 => ?_) (fun hc5 => ?_)
            · skip
              refine rn_aload_n (k' := 15) rfl rfl rfl ?_
              refine rn_getR (k' := 16) rfl rfl K0_0 (by decide) rfl R0_0_11 ?_
              exfalso; omega
            · skip
              refine rn_iconst (k' := 13) rfl rfl ?_
              refine rn_iret rfl (Or.inl rfl) ?_
              exact ⟨μ, rfl, rfl⟩
        · refine rn_callP (k' := 6) (y := 154) (vs := [mI (a1)]) (S' := []) (v := some (mI 0)) (h' := mkh μ c s) rfl rfl rfl (by have hz : Cl PT 154 [mI (a1)] (mkh μ c s) (fun r => r = (some (some (mI (if 1 ≤ a1 ∧ a1 ≤ 20 then 1 else 0))), mkh μ c s)) := c_X11_isNight (a := a1) (μ := μ) (c := c) (s := s); rw [if_neg hq3] at hz; exact hz) ?_
          show Rn PT none kX11_lost 6 [some (mR 0), some (mI (a0)), some (mI (a1))] [mI (0)] (mkh μ c s) _
          refine rn_if_eq (k' := 7) rfl rfl (fun hc6 => ?_) (fun hc6 => ?_)
          · skip
            refine rn_iconst (k' := 13) rfl rfl ?_
            refine rn_iret rfl (Or.inl rfl) ?_
            exact ⟨μ, rfl, rfl⟩
          · exfalso; omega
    · refine rn_callP (k' := 3) (y := 151) (vs := [mR 0, mI (a0)]) (S' := []) (v := some (mI 0)) (h' := mkh μ c s) rfl rfl rfl (by have hz : Cl PT 151 [mR 0, mI (a0)] (mkh μ c s) (fun r => r = (some (some (mI (if 0 ≤ a0 ∧ a0 < μ 6 13 then 1 else 0))), mkh μ c s)) := c_X11_isHerd (hL) (a := a0) (μ := μ) (c := c) (s := s); rw [if_neg hq1] at hz; exact hz) ?_
      show Rn PT none kX11_lost 3 [some (mR 0), some (mI (a0)), some (mI (a1))] [mI (0)] (mkh μ c s) _
      refine rn_if_eq (k' := 4) rfl rfl (fun hc7 => ?_) (fun hc7 => ?_)
      · skip
        refine rn_iconst (k' := 13) rfl rfl ?_
        refine rn_iret rfl (Or.inl rfl) ?_
        exact ⟨μ, rfl, rfl⟩
      · exfalso; omega
set_option maxHeartbeats 4000000 in
theorem l_lost1 {μ : Nat → Nat → Int} {c s : Nat} {a b : Int} {v4 : Option MV} {Q : MR → Prop} (K : Rn PT none kX12_lost 36 [some (mR 118), some (mI a), some (mI b), some (mI 19), v4] [] (mkh (m_upd μ 132 (pbn (μ 132) 0 (fun k => μ 120 (517 + k)) 19)) c s) Q) : ∀ (d n : Nat) (k : Int) (U : Nat → Int), k = (n : Int) → (n : Int) + d = 19 → U = pbn (μ 132) 0 (fun k => μ 120 (517 + k)) n → Rn PT none kX12_lost 21 [some (mR 118), some (mI a), some (mI b), some (mI k), v4] [] (mkh (m_upd μ 132 U) c s) Q := by
  intro d
  induction d with
  | zero =>
    intro n k U ek hn hU
    subst ek
    refine rn_iload_n (k' := 22) rfl rfl rfl ?_
    refine rn_bipush (k' := 23) rfl rfl ?_
    refine rn_icmp_ge (k' := 24) rfl rfl (fun hc1 => ?_) (fun hc1 => ?_)
    · skip
      have hn2 : n = 19 := by omega
      subst hn2
      rw [hU]
      exact K
    · exfalso; omega
  | succ d ih =>
    intro n k U ek hn hU
    subst ek
    refine rn_iload_n (k' := 22) rfl rfl rfl ?_
    refine rn_bipush (k' := 23) rfl rfl ?_
    refine rn_icmp_ge (k' := 24) rfl rfl (fun hc1 => ?_) (fun hc1 => ?_)
    · exfalso; omega
    · skip
      refine rn_aload_n (k' := 25) rfl rfl rfl ?_
      refine rn_getR (k' := 26) rfl rfl K0_118 (by decide) rfl R0_118_33 ?_
      refine rn_iload_n (k' := 27) rfl rfl rfl ?_
      refine rn_aload_n (k' := 28) rfl rfl rfl ?_
      refine rn_getR (k' := 29) rfl rfl K0_118 (by decide) rfl R0_118_6 ?_
      refine rn_sipush (k' := 30) rfl rfl ?_
      refine rn_iload_n (k' := 31) rfl rfl rfl ?_
      refine rn_iadd (k' := 32) rfl rfl (by omega) ?_
      refine rn_iaload (k' := 33) rfl rfl K0_120 (by omega) (by omega) ?_
      show Rn PT none kX12_lost 33 [some (mR 118), some (mI (a)), some (mI (b)), some (mI ((n : Int))), v4] [mI (μ 120 (517 + n)), mI ((n : Int)), mR 132] (mkh (m_upd μ 132 U) c s) _
      refine rn_iastore (k' := 34) rfl rfl K0_132 (by omega) (by omega) ?_
      refine rn_iinc (k' := 35) (L' := [some (mR 118), some (mI (a)), some (mI (b)), some (mI ((n : Int) + 1)), v4]) rfl rfl rfl (by omega) rfl ?_
      refine rn_goto rfl ?_
      show Rn PT none kX12_lost 21 [some (mR 118), some (mI (a)), some (mI (b)), some (mI ((n : Int) + 1)), v4] [] (mkh (m_set (m_upd μ 132 U) 132 n (μ 120 (517 + n))) c s) _
      rw [set_upd_eq]
      exact ih (n + 1) _ _ (by omega) (by omega) (by rw [hU, show fs (pbn (μ 132) 0 (fun k => μ 120 (517 + k)) n) n = fs (pbn (μ 132) 0 (fun k => μ 120 (517 + k)) n) (0 + n) by rw [Nat.zero_add]]; exact pbn_step (b := fun k => μ 120 (517 + k)))
set_option maxHeartbeats 4000000 in
theorem l_lost2 {μ : Nat → Nat → Int} {c s : Nat} {a b z : Int} : ∀ (d n : Nat) (k : Int) (T : Nat → Int), k = (n : Int) → (n : Int) + d = 19 → T = pbn (μ 120) 517 (fun k => μ 132 k) n → Rn PT none kX12_lost 56 [some (mR 118), some (mI a), some (mI b), some (mI z), some (mI k)] [] (mkh (m_upd μ 120 T) c s) (fun r => r = (some (some (mI z)), mkh (m_upd μ 120 (pbn (μ 120) 517 (fun k => μ 132 k) 19)) c s)) := by
  intro d
  induction d with
  | zero =>
    intro n k T ek hn hT
    subst ek
    refine rn_iload (k' := 57) rfl rfl rfl ?_
    refine rn_bipush (k' := 58) rfl rfl ?_
    refine rn_icmp_ge (k' := 59) rfl rfl (fun hc1 => ?_) (fun hc1 => ?_)
    · skip
      refine rn_iload_n (k' := 72) rfl rfl rfl ?_
      refine rn_iret rfl (Or.inl rfl) ?_
      rw [hT, show n = 19 by omega]
    · exfalso; omega
  | succ d ih =>
    intro n k T ek hn hT
    subst ek
    refine rn_iload (k' := 57) rfl rfl rfl ?_
    refine rn_bipush (k' := 58) rfl rfl ?_
    refine rn_icmp_ge (k' := 59) rfl rfl (fun hc1 => ?_) (fun hc1 => ?_)
    · exfalso; omega
    · skip
      refine rn_aload_n (k' := 60) rfl rfl rfl ?_
      refine rn_getR (k' := 61) rfl rfl K0_118 (by decide) rfl R0_118_6 ?_
      refine rn_sipush (k' := 62) rfl rfl ?_
      refine rn_iload (k' := 63) rfl rfl rfl ?_
      refine rn_iadd (k' := 64) rfl rfl (by omega) ?_
      refine rn_aload_n (k' := 65) rfl rfl rfl ?_
      refine rn_getR (k' := 66) rfl rfl K0_118 (by decide) rfl R0_118_33 ?_
      refine rn_iload (k' := 67) rfl rfl rfl ?_
      refine rn_iaload (k' := 68) rfl rfl K0_132 (by omega) (by omega) ?_
      show Rn PT none kX12_lost 68 [some (mR 118), some (mI (a)), some (mI (b)), some (mI (z)), some (mI ((n : Int)))] [mI (μ 132 (n)), mI (517 + (n : Int)), mR 120] (mkh (m_upd μ 120 T) c s) _
      refine rn_iastore (k' := 69) rfl rfl K0_120 (by omega) (by omega) ?_
      refine rn_iinc (k' := 70) (L' := [some (mR 118), some (mI (a)), some (mI (b)), some (mI (z)), some (mI ((n : Int) + 1))]) rfl rfl rfl (by omega) rfl ?_
      refine rn_goto rfl ?_
      show Rn PT none kX12_lost 56 [some (mR 118), some (mI (a)), some (mI (b)), some (mI (z)), some (mI ((n : Int) + 1))] [] (mkh (m_set (m_upd μ 120 T) 120 (517 + n) (μ 132 (n))) c s) _
      rw [set_upd_eq]
      exact ih (n + 1) _ _ (by omega) (by omega) (by rw [hT]; exact pbn_step (b := fun k => μ 132 k))
set_option maxHeartbeats 4000000 in
theorem t_X12_lost {μ : Nat → Nat → Int} {c s : Nat} (hL : I_land μ) (hS : I_scene μ) {a0 a1 : Int} : Cl PT 246 [mR 118, mI a0, mI a1] (mkh μ c s) (fun r => ∃ μ1, r = (some (some (mI (if (0 ≤ a0 ∧ a0 < μ 6 13) ∧ (1 ≤ a1 ∧ a1 ≤ 20) ∧ ¬ μ 14 3 = -1 then μ 16 a0.toNat - (hunt μ (g_w μ 0 (μ 14 0)) (μ 15) (μ 16, μ 14 3, μ 14 4) a1.toNat).1 a0.toNat else -1))), mkh μ1 c s) ∧ rst μ1 = rst μ) := by
  have hL_ := hL
  obtain ⟨lc, lr, le, lm, lw, lh, lwo, lwd, q0, q1, q2, q3, q4, q8, q499, q500, lth, lG, lT, lW, -⟩ := hL_
  have hS_ := hS
  obtain ⟨sd, sw, stk, s4, s5, s6, hC, hH, -, s10, sce, swc, s13⟩ := hS_
  by_cases hv : (0 ≤ a0 ∧ a0 < μ 6 13) ∧ (1 ≤ a1 ∧ a1 ≤ 20) ∧ ¬ μ 14 3 = -1
  · rw [if_pos hv]
    obtain ⟨h, rfl⟩ := Int.eq_ofNat_of_zero_le hv.1.1
    obtain ⟨R, rfl⟩ := Int.eq_ofNat_of_zero_le (show 0 ≤ a1 by omega)
    rw [show ((h : Int)).toNat = h from rfl, show ((R : Int)).toNat = R from rfl]
    have hh := hv.1.2
    have hw := hv.2.2
    have hRb := hv.2.1
    have hok := hunt_ok hL (W := g_w μ 0 (μ 14 0)) (hOK_scene hS hw) R
    have hk1 := hok.2.1 h hh
    have hHh := hH h
    have h8 : μ 6 13 ≤ 8 := by omega
    have hok0 : hOK μ (fun j => μ 120 (518 + j)) (μ 14 4) ((fun j => μ 120 (526 + j)), μ 120 534, μ 120 535) := (hOK_scene hS hw).congr rfl (fun j hj => (hS.2.2.2.2.2.2.2.2.1 j hj).1) (fun j hj => (hS.2.2.2.2.2.2.2.2.1 j hj).2) (by show (μ 120 534, μ 120 535) = (μ 14 3, μ 14 4); rw [s5 hw, s6])
    obtain ⟨F, q, T, hT, hni⟩ := Cl.ex3b (g := fun F q T => (some (some (mI (T 535 - μ 120 535))), mkh (m_upd (m_upd (m_upd (m_set (m_set (m_upd (m_set μ 118 0 0) 132 (pbn (μ 132) 0 (fun k => μ 120 (517 + k)) 19)) 118 22 (g_w μ 0 (μ 120 517))) 118 23 (g_w μ 1 (μ 120 517))) 125 F) 126 q) 120 T) c s)) (c_nights (μ := (m_upd (m_set μ 118 0 0) 132 (pbn (μ 132) 0 (fun k => μ 120 (517 + k)) 19))) (c := c) (s := s) ((hL.set rfl).upd rfl) (by show 0 ≤ μ 120 517 ∧ μ 120 517 ≤ 29; omega) (B := μ 14 4) (by omega) hok0 (R := R) (by omega))
    rw [hunt_rows (ν := (m_upd (m_set μ 118 0 0) 132 (pbn (μ 132) 0 (fun k => μ 120 (517 + k)) 19))) (μ := μ) rfl rfl] at hT
    have hT2 : RT (μ 6 13) (μ 120) (hunt μ (g_w μ 0 (μ 120 517)) (fun j => μ 120 (518 + j)) ((fun j => μ 120 (526 + j)), μ 120 534, μ 120 535) R) T := hT
    have hmo := hunt_model hS hw h8 R
    have hTh : T (526 + h) = (hunt μ (g_w μ 0 (μ 14 0)) (μ 15) (μ 16, μ 14 3, μ 14 4) R).1 h := (hT2.1 h hh).trans (hmo.1 h hh)
    have hUh : (pbn (μ 132) 0 (fun k => μ 120 (517 + k)) 19) (9 + h) = μ 16 h := by
      rw [show 9 + h = 0 + (9 + h) by omega, pbn_in (by omega), show 517 + (9 + h) = 526 + h by omega]
      exact (v_hdN hS hh).1
    have hWh : (m_set (m_set (m_upd (m_set μ 118 0 0) 132 (pbn (μ 132) 0 (fun k => μ 120 (517 + k)) 19)) 118 22 (g_w μ 0 (μ 120 517))) 118 23 (g_w μ 1 (μ 120 517))) 132 (9 + h) = μ 16 h := hUh
    have hTT : pbn T 517 (fun k => (pbn (μ 132) 0 (fun k => μ 120 (517 + k)) 19) k) 19 = μ 120 := by
      funext j
      by_cases z : 517 ≤ j ∧ j < 536
      · rw [show j = 517 + (j - 517) by omega, pbn_in (by omega)]
        show (pbn (μ 132) 0 (fun k => μ 120 (517 + k)) 19) (j - 517) = _
        rw [show j - 517 = 0 + (j - 517) by omega, pbn_in (by omega)]
        try rw [Nat.zero_add]
      · rw [pbn_out (by omega)]
        exact hT2.2.2.2 j (by omega)
    have hlast : m_upd (m_upd (m_upd (m_upd (m_set (m_set (m_upd (m_set μ 118 0 0) 132 (pbn (μ 132) 0 (fun k => μ 120 (517 + k)) 19)) 118 22 (g_w μ 0 (μ 120 517))) 118 23 (g_w μ 1 (μ 120 517))) 125 F) 126 q) 120 T) 120 (pbn T 517 (fun k => (pbn (μ 132) 0 (fun k => μ 120 (517 + k)) 19) k) 19) = m_upd (m_upd (m_set (m_set (m_upd (m_set μ 118 0 0) 132 (pbn (μ 132) 0 (fun k => μ 120 (517 + k)) 19)) 118 22 (g_w μ 0 (μ 120 517))) 118 23 (g_w μ 1 (μ 120 517))) 125 F) 126 q := by
      rw [hTT, upd_upd]
      exact upd_self (μ := m_upd (m_upd (m_set (m_set (m_upd (m_set μ 118 0 0) 132 (pbn (μ 132) 0 (fun k => μ 120 (517 + k)) 19)) 118 22 (g_w μ 0 (μ 120 517))) 118 23 (g_w μ 1 (μ 120 517))) 125 F) 126 q) (a := 120)
    refine ⟨_, PT_246, Nat.le_of_ble_eq_true rfl, ?_⟩
    show Rn PT none kX12_lost 0 [some (mR 118), some (mI ((h : Int))), some (mI ((R : Int))), none, none] [] (mkh μ c s) _
    refine rn_aload_n (k' := 1) rfl rfl rfl ?_
    refine rn_iconst (k' := 2) rfl rfl ?_
    refine rn_putI (k' := 3) rfl rfl K0_118 (by decide) rfl ?_
    refine rn_aload_n (k' := 4) rfl rfl rfl ?_
    refine rn_iload_n (k' := 5) rfl rfl rfl ?_
    by_cases hq2 : 0 ≤ (h : Int) ∧ (h : Int) < μ 6 13
    · refine rn_callP (k' := 6) (y := 193) (vs := [mR 118, mI ((h : Int))]) (S' := []) (v := some (mI 1)) (h' := mkh (m_set μ 118 0 (0)) c s) rfl rfl rfl (by have hz : Cl PT 193 [mR 118, mI ((h : Int))] (mkh (m_set μ 118 0 (0)) c s) (fun r => r = (some (some (mI (if 0 ≤ (h : Int) ∧ (h : Int) < μ 6 13 then 1 else 0))), mkh (m_set μ 118 0 (0)) c s)) := c_X12_isHerd ((hL).set rfl) (a := (h : Int)) (μ := (m_set μ 118 0 (0))) (c := c) (s := s); rw [if_pos hq2] at hz; exact hz) ?_
      show Rn PT none kX12_lost 6 [some (mR 118), some (mI ((h : Int))), some (mI ((R : Int))), none, none] [mI (1)] (mkh (m_set μ 118 0 (0)) c s) _
      refine rn_if_eq (k' := 7) rfl rfl (fun hc3 => ?_) (fun hc3 => ?_)
      · exfalso; omega
      · skip
        refine rn_iload_n (k' := 8) rfl rfl rfl ?_
        refine rn_iconst (k' := 9) rfl rfl ?_
        refine rn_bipush (k' := 10) rfl rfl ?_
        by_cases hq4 : 1 ≤ (R : Int) ∧ (R : Int) ≤ 20
        · refine rn_callP (k' := 11) (y := 167) (vs := [mI ((R : Int)), mI (1), mI (20)]) (S' := []) (v := some (mI 1)) (h' := mkh (m_set μ 118 0 (0)) c s) rfl rfl rfl (by have hz : Cl PT 167 [mI ((R : Int)), mI (1), mI (20)] (mkh (m_set μ 118 0 (0)) c s) (fun r => r = (some (some (mI (if 1 ≤ (R : Int) ∧ (R : Int) ≤ 20 then 1 else 0))), mkh (m_set μ 118 0 (0)) c s)) := c_X12_isIn (v := (R : Int)) (lo := 1) (hi := 20) (μ := (m_set μ 118 0 (0))) (c := c) (s := s); rw [if_pos hq4] at hz; exact hz) ?_
          show Rn PT none kX12_lost 11 [some (mR 118), some (mI ((h : Int))), some (mI ((R : Int))), none, none] [mI (1)] (mkh (m_set μ 118 0 (0)) c s) _
          refine rn_if_eq (k' := 12) rfl rfl (fun hc5 => ?_) (fun hc5 => ?_)
          · exfalso; omega
          · skip
            refine rn_aload_n (k' := 13) rfl rfl rfl ?_
            refine rn_getR (k' := 14) rfl rfl K0_118 (by decide) rfl R0_118_6 ?_
            refine rn_sipush (k' := 15) rfl rfl ?_
            refine rn_iaload (k' := 16) rfl rfl K0_120 (by omega) (by omega) ?_
            show Rn PT none kX12_lost 16 [some (mR 118), some (mI ((h : Int))), some (mI ((R : Int))), none, none] [mI (μ 120 499)] (mkh (m_set μ 118 0 (0)) c s) _
            rw [q499]
            refine rn_if_ne (k' := 17) rfl rfl (fun hc6 => ?_) (fun hc6 => ?_)
            · skip
              refine rn_iconst (k' := 20) rfl rfl ?_
              refine rn_istore_n (k' := 21) (L' := [some (mR 118), some (mI ((h : Int))), some (mI ((R : Int))), some (mI (0)), none]) rfl rfl (Nat.le_of_ble_eq_true rfl) rfl ?_
              have h1 := fun K => l_lost1 (μ := (m_set μ 118 0 0)) (c := c) (s := s) (a := (h : Int)) (b := (R : Int)) (v4 := none) (Q := (fun r => ∃ μ1, r = (some (some (mI (μ 16 h - (hunt μ (g_w μ 0 (μ 14 0)) (μ 15) (μ 16, μ 14 3, μ 14 4) R).1 h))), mkh μ1 c s) ∧ rst μ1 = rst μ)) K 19 0 0 ((m_set μ 118 0 0) 132) rfl rfl pbn_0.symm
              rw [upd_self] at h1
              refine h1 ?_
              refine rn_aload_n (k' := 37) rfl rfl rfl ?_
              refine rn_iload_n (k' := 38) rfl rfl rfl ?_
              refine rn_callP (k' := 39) (y := 237) (vs := [mR 118, mI ((R : Int))]) (S' := []) (v := some (mI (T 535 - μ 120 535))) (h' := mkh (m_upd (m_upd (m_upd (m_set (m_set (m_upd (m_set μ 118 0 0) 132 (pbn (μ 132) 0 (fun k => μ 120 (517 + k)) 19)) 118 22 (g_w μ 0 (μ 120 517))) 118 23 (g_w μ 1 (μ 120 517))) 125 F) 126 q) 120 T) c s) rfl rfl rfl (hni) ?_
              show Rn PT none kX12_lost 39 [some (mR 118), some (mI ((h : Int))), some (mI ((R : Int))), some (mI (19)), none] [mI (T 535 - μ 120 535)] (mkh (m_upd (m_upd (m_upd (m_set (m_set (m_upd (m_set μ 118 0 0) 132 (pbn (μ 132) 0 (fun k => μ 120 (517 + k)) 19)) 118 22 (g_w μ 0 (μ 120 517))) 118 23 (g_w μ 1 (μ 120 517))) 125 F) 126 q) 120 T) c s) _
              refine rn_popI (k' := 40) rfl rfl ?_
              refine rn_aload_n (k' := 41) rfl rfl rfl ?_
              refine rn_getR (k' := 42) rfl rfl K0_118 (by decide) rfl R0_118_33 ?_
              refine rn_bipush (k' := 43) rfl rfl ?_
              refine rn_iload_n (k' := 44) rfl rfl rfl ?_
              refine rn_iadd (k' := 45) rfl rfl (by omega) ?_
              refine rn_iaload (k' := 46) rfl rfl K0_132 (by omega) (by omega) ?_
              show Rn PT none kX12_lost 46 [some (mR 118), some (mI ((h : Int))), some (mI ((R : Int))), some (mI (19)), none] [mI ((m_set (m_set (m_upd (m_set μ 118 0 0) 132 (pbn (μ 132) 0 (fun k => μ 120 (517 + k)) 19)) 118 22 (g_w μ 0 (μ 120 517))) 118 23 (g_w μ 1 (μ 120 517))) 132 (9 + h))] (mkh (m_upd (m_upd (m_upd (m_set (m_set (m_upd (m_set μ 118 0 0) 132 (pbn (μ 132) 0 (fun k => μ 120 (517 + k)) 19)) 118 22 (g_w μ 0 (μ 120 517))) 118 23 (g_w μ 1 (μ 120 517))) 125 F) 126 q) 120 T) c s) _
              refine rn_aload_n (k' := 47) rfl rfl rfl ?_
              refine rn_getR (k' := 48) rfl rfl K0_118 (by decide) rfl R0_118_6 ?_
              refine rn_sipush (k' := 49) rfl rfl ?_
              refine rn_iload_n (k' := 50) rfl rfl rfl ?_
              refine rn_iadd (k' := 51) rfl rfl (by omega) ?_
              refine rn_iaload (k' := 52) rfl rfl K0_120 (by omega) (by omega) ?_
              show Rn PT none kX12_lost 52 [some (mR 118), some (mI ((h : Int))), some (mI ((R : Int))), some (mI (19)), none] [mI (T (526 + h)), mI ((m_set (m_set (m_upd (m_set μ 118 0 0) 132 (pbn (μ 132) 0 (fun k => μ 120 (517 + k)) 19)) 118 22 (g_w μ 0 (μ 120 517))) 118 23 (g_w μ 1 (μ 120 517))) 132 (9 + h))] (mkh (m_upd (m_upd (m_upd (m_set (m_set (m_upd (m_set μ 118 0 0) 132 (pbn (μ 132) 0 (fun k => μ 120 (517 + k)) 19)) 118 22 (g_w μ 0 (μ 120 517))) 118 23 (g_w μ 1 (μ 120 517))) 125 F) 126 q) 120 T) c s) _
              refine rn_isub (k' := 53) rfl rfl (by rw [hWh, hTh]; omega) ?_
              refine rn_istore_n (k' := 54) (L' := [some (mR 118), some (mI ((h : Int))), some (mI ((R : Int))), some (mI (((m_set (m_set (m_upd (m_set μ 118 0 0) 132 (pbn (μ 132) 0 (fun k => μ 120 (517 + k)) 19)) 118 22 (g_w μ 0 (μ 120 517))) 118 23 (g_w μ 1 (μ 120 517))) 132 (9 + h)) - (T (526 + h)))), none]) rfl rfl (Nat.le_of_ble_eq_true rfl) rfl ?_
              refine rn_iconst (k' := 55) rfl rfl ?_
              refine rn_istore (k' := 56) (L' := [some (mR 118), some (mI ((h : Int))), some (mI ((R : Int))), some (mI (((m_set (m_set (m_upd (m_set μ 118 0 0) 132 (pbn (μ 132) 0 (fun k => μ 120 (517 + k)) 19)) 118 22 (g_w μ 0 (μ 120 517))) 118 23 (g_w μ 1 (μ 120 517))) 132 (9 + h)) - (T (526 + h)))), some (mI (0))]) rfl rfl (Nat.le_of_ble_eq_true rfl) rfl ?_
              rw [hWh, hTh]
              have h2 := l_lost2 (μ := (m_upd (m_upd (m_upd (m_set (m_set (m_upd (m_set μ 118 0 0) 132 (pbn (μ 132) 0 (fun k => μ 120 (517 + k)) 19)) 118 22 (g_w μ 0 (μ 120 517))) 118 23 (g_w μ 1 (μ 120 517))) 125 F) 126 q) 120 T)) (c := c) (s := s) (a := (h : Int)) (b := (R : Int)) (z := μ 16 h - (hunt μ (g_w μ 0 (μ 14 0)) (μ 15) (μ 16, μ 14 3, μ 14 4) R).1 h) 19 0 0 ((m_upd (m_upd (m_upd (m_set (m_set (m_upd (m_set μ 118 0 0) 132 (pbn (μ 132) 0 (fun k => μ 120 (517 + k)) 19)) 118 22 (g_w μ 0 (μ 120 517))) 118 23 (g_w μ 1 (μ 120 517))) 125 F) 126 q) 120 T) 120) rfl rfl pbn_0.symm
              rw [upd_self] at h2
              refine h2.mono1 (fun r hr => ⟨_, hr, ?_⟩)
              show rst (m_upd (m_upd (m_upd (m_upd (m_set (m_set (m_upd (m_set μ 118 0 0) 132 (pbn (μ 132) 0 (fun k => μ 120 (517 + k)) 19)) 118 22 (g_w μ 0 (μ 120 517))) 118 23 (g_w μ 1 (μ 120 517))) 125 F) 126 q) 120 T) 120 (pbn T 517 (fun k => (pbn (μ 132) 0 (fun k => μ 120 (517 + k)) 19) k) 19)) = rst μ
              rw [hlast]
              exact (rst_upd (fun _ => rfl)).trans ((rst_upd (fun _ => rfl)).trans ((rst_set rfl).trans ((rst_set rfl).trans ((rst_upd (fun _ => rfl)).trans (rst_set rfl)))))
            · exfalso; omega
        · exfalso; omega
    · exfalso; omega
  · rw [if_neg hv]
    refine ⟨_, PT_246, Nat.le_of_ble_eq_true rfl, ?_⟩
    show Rn PT none kX12_lost 0 [some (mR 118), some (mI (a0)), some (mI (a1)), none, none] [] (mkh μ c s) _
    refine rn_aload_n (k' := 1) rfl rfl rfl ?_
    refine rn_iconst (k' := 2) rfl rfl ?_
    refine rn_putI (k' := 3) rfl rfl K0_118 (by decide) rfl ?_
    refine rn_aload_n (k' := 4) rfl rfl rfl ?_
    refine rn_iload_n (k' := 5) rfl rfl rfl ?_
    by_cases hq2 : 0 ≤ a0 ∧ a0 < μ 6 13
    · refine rn_callP (k' := 6) (y := 193) (vs := [mR 118, mI (a0)]) (S' := []) (v := some (mI 1)) (h' := mkh (m_set μ 118 0 (0)) c s) rfl rfl rfl (by have hz : Cl PT 193 [mR 118, mI (a0)] (mkh (m_set μ 118 0 (0)) c s) (fun r => r = (some (some (mI (if 0 ≤ a0 ∧ a0 < μ 6 13 then 1 else 0))), mkh (m_set μ 118 0 (0)) c s)) := c_X12_isHerd ((hL).set rfl) (a := a0) (μ := (m_set μ 118 0 (0))) (c := c) (s := s); rw [if_pos hq2] at hz; exact hz) ?_
      show Rn PT none kX12_lost 6 [some (mR 118), some (mI (a0)), some (mI (a1)), none, none] [mI (1)] (mkh (m_set μ 118 0 (0)) c s) _
      refine rn_if_eq (k' := 7) rfl rfl (fun hc3 => ?_) (fun hc3 => ?_)
      · exfalso; omega
      · skip
        refine rn_iload_n (k' := 8) rfl rfl rfl ?_
        refine rn_iconst (k' := 9) rfl rfl ?_
        refine rn_bipush (k' := 10) rfl rfl ?_
        by_cases hq4 : 1 ≤ a1 ∧ a1 ≤ 20
        · refine rn_callP (k' := 11) (y := 167) (vs := [mI (a1), mI (1), mI (20)]) (S' := []) (v := some (mI 1)) (h' := mkh (m_set μ 118 0 (0)) c s) rfl rfl rfl (by have hz : Cl PT 167 [mI (a1), mI (1), mI (20)] (mkh (m_set μ 118 0 (0)) c s) (fun r => r = (some (some (mI (if 1 ≤ a1 ∧ a1 ≤ 20 then 1 else 0))), mkh (m_set μ 118 0 (0)) c s)) := c_X12_isIn (v := a1) (lo := 1) (hi := 20) (μ := (m_set μ 118 0 (0))) (c := c) (s := s); rw [if_pos hq4] at hz; exact hz) ?_
          show Rn PT none kX12_lost 11 [some (mR 118), some (mI (a0)), some (mI (a1)), none, none] [mI (1)] (mkh (m_set μ 118 0 (0)) c s) _
          refine rn_if_eq (k' := 12) rfl rfl (fun hc5 => ?_) (fun hc5 => ?_)
          · exfalso; omega
          · skip
            refine rn_aload_n (k' := 13) rfl rfl rfl ?_
            refine rn_getR (k' := 14) rfl rfl K0_118 (by decide) rfl R0_118_6 ?_
            refine rn_sipush (k' := 15) rfl rfl ?_
            refine rn_iaload (k' := 16) rfl rfl K0_120 (by omega) (by omega) ?_
            show Rn PT none kX12_lost 16 [some (mR 118), some (mI (a0)), some (mI (a1)), none, none] [mI (μ 120 499)] (mkh (m_set μ 118 0 (0)) c s) _
            rw [q499]
            refine rn_if_ne (k' := 17) rfl rfl (fun hc6 => ?_) (fun hc6 => ?_)
            · skip
              refine rn_iconst (k' := 20) rfl rfl ?_
              refine rn_istore_n (k' := 21) (L' := [some (mR 118), some (mI (a0)), some (mI (a1)), some (mI (0)), none]) rfl rfl (Nat.le_of_ble_eq_true rfl) rfl ?_
              exfalso; omega
            · skip
              refine rn_iconst (k' := 18) rfl rfl ?_
              refine rn_iret rfl (Or.inl rfl) ?_
              exact ⟨(m_set μ 118 0 (0)), rfl, (rst_set (a := 118) (j := 0) rfl)⟩
        · refine rn_callP (k' := 11) (y := 167) (vs := [mI (a1), mI (1), mI (20)]) (S' := []) (v := some (mI 0)) (h' := mkh (m_set μ 118 0 (0)) c s) rfl rfl rfl (by have hz : Cl PT 167 [mI (a1), mI (1), mI (20)] (mkh (m_set μ 118 0 (0)) c s) (fun r => r = (some (some (mI (if 1 ≤ a1 ∧ a1 ≤ 20 then 1 else 0))), mkh (m_set μ 118 0 (0)) c s)) := c_X12_isIn (v := a1) (lo := 1) (hi := 20) (μ := (m_set μ 118 0 (0))) (c := c) (s := s); rw [if_neg hq4] at hz; exact hz) ?_
          show Rn PT none kX12_lost 11 [some (mR 118), some (mI (a0)), some (mI (a1)), none, none] [mI (0)] (mkh (m_set μ 118 0 (0)) c s) _
          refine rn_if_eq (k' := 12) rfl rfl (fun hc7 => ?_) (fun hc7 => ?_)
          · skip
            refine rn_iconst (k' := 18) rfl rfl ?_
            refine rn_iret rfl (Or.inl rfl) ?_
            exact ⟨(m_set μ 118 0 (0)), rfl, (rst_set (a := 118) (j := 0) rfl)⟩
          · exfalso; omega
    · refine rn_callP (k' := 6) (y := 193) (vs := [mR 118, mI (a0)]) (S' := []) (v := some (mI 0)) (h' := mkh (m_set μ 118 0 (0)) c s) rfl rfl rfl (by have hz : Cl PT 193 [mR 118, mI (a0)] (mkh (m_set μ 118 0 (0)) c s) (fun r => r = (some (some (mI (if 0 ≤ a0 ∧ a0 < μ 6 13 then 1 else 0))), mkh (m_set μ 118 0 (0)) c s)) := c_X12_isHerd ((hL).set rfl) (a := a0) (μ := (m_set μ 118 0 (0))) (c := c) (s := s); rw [if_neg hq2] at hz; exact hz) ?_
      show Rn PT none kX12_lost 6 [some (mR 118), some (mI (a0)), some (mI (a1)), none, none] [mI (0)] (mkh (m_set μ 118 0 (0)) c s) _
      refine rn_if_eq (k' := 7) rfl rfl (fun hc8 => ?_) (fun hc8 => ?_)
      · skip
        refine rn_iconst (k' := 18) rfl rfl ?_
        refine rn_iret rfl (Or.inl rfl) ?_
        exact ⟨(m_set μ 118 0 (0)), rfl, (rst_set (a := 118) (j := 0) rfl)⟩
      · exfalso; omega
theorem pair_32 : ∀ (a0 : Int), ∀ (a1 : Int), i32 a0 → i32 a1 → PairI (Inv N) 135 246 [mI a0, mI a1] := by
  intro a0 a1 ha0 ha1
  exact pair_of (fun ν => if (0 ≤ a0 ∧ a0 < ν 6 13) ∧ (1 ≤ a1 ∧ a1 ≤ 20) ∧ ¬ ν 14 3 = -1 then ν 16 a0.toNat - (hunt ν (g_w ν 0 (ν 14 0)) (ν 15) (ν 16, ν 14 3, ν 14 4) a1.toNat).1 a0.toNat else -1) (fun μ c s hI => t_X11_lost hI.land hI.scene) (fun μ c s hI => t_X12_lost hI.land hI.scene) (fun μ ν h => by
    have e6 := row_rst h (a := 6) (fun _ => rfl)
    have e7 := row_rst h (a := 7) (fun _ => rfl)
    have e10 := row_rst h (a := 10) (fun _ => rfl)
    have e14 := row_rst h (a := 14) (fun _ => rfl)
    have e15 := row_rst h (a := 15) (fun _ => rfl)
    have e16 := row_rst h (a := 16) (fun _ => rfl)
    simp only [g_w, hunt_rows e6 e7, e6, e10, e14, e15, e16])
