variable {N : Int}
/-! ===== printed by wip/whole/gen42.py: pairs: herd, cell, deepest ===== -/
theorem pairx_of {yx ym : Nat} {as : List MV} (V : (Nat → Nat → Int) → Prop) (RES : (Nat → Nat → Int) → Int)
    (hx : ∀ μ c s, Inv N μ → V μ → Cl PT yx (mR 0 :: as) (mkh μ c s) (fun r => r = (some (some (mI (RES μ))), mkh μ c s)))
    (hx' : ∀ μ c s, Inv N μ → ¬ V μ → Cl PT yx (mR 0 :: as) (mkh μ c s) (fun r => r = (none, mkh μ (c + 1) (s + 6))))
    (hm : ∀ μ c s, Inv N μ → V μ → Cl PT ym (mR 118 :: as) (mkh μ c s) (fun r => ∃ μ1, r = (some (some (mI (RES μ))), mkh μ1 c s) ∧ rst μ1 = rst μ ∧ μ1 118 0 = 0 ∧ μ1 141 0 = μ 141 0))
    (hm' : ∀ μ c s, Inv N μ → ¬ V μ → Cl PT ym (mR 118 :: as) (mkh μ c s) (fun r => ∃ μ1, r = (some (some (mI 0)), mkh μ1 c s) ∧ rst μ1 = rst μ ∧ μ1 118 0 = 1 ∧ μ1 141 0 = μ 141 0))
    (hr : ∀ μ ν, rst ν = rst μ → RES ν = RES μ) (hv : ∀ μ ν, rst ν = rst μ → V μ → V ν) : PairX (Inv N) yx ym as := by
  intro μ c s hI
  rcases Classical.em (V μ) with h | h
  · left
    have e : rst (m_set μ 141 0 (RES μ)) = rst μ := rst_set rfl
    obtain ⟨μ2, r2, c2⟩ := (hm _ c s (hI.same e) (hv _ _ e h)).ex (g := fun μ2 => (some (some (mI (RES (m_set μ 141 0 (RES μ))))), mkh μ2 c s))
    rw [hr _ _ e] at c2
    exact ⟨RES μ, μ2, hx μ c s hI h, c2, r2.2.1, r2.2.2, (hI.same e).same r2.1⟩
  · right
    obtain ⟨μ2, r2, c2⟩ := (hm' μ (c + 1) (s + 6) hI h).ex (g := fun μ2 => (some (some (mI 0)), mkh μ2 (c + 1) (s + 6)))
    exact ⟨0, μ2, hx' μ c s hI h, c2, r2.2.1, hI.same r2.1⟩
set_option maxHeartbeats 2000000 in
theorem c_X12_throwsIf {μ : Nat → Nat → Int} {c s : Nat} {z : Int} (hz : z = 0 ∨ z = 1) : Cl PT 162 [mR 118, mI z] (mkh μ c s) (fun r => r = (some (some (mI (z))), mkh (m_set μ 118 0 z) c s)) := by
  refine ⟨_, PT_162, Nat.le_of_ble_eq_true rfl, ?_⟩
  show Rn PT none kX12_throwsIf 0 [some (mR 118), some (mI (z))] [] (mkh μ c s) _
  refine rn_aload_n (k' := 1) rfl rfl rfl ?_
  refine rn_iload_n (k' := 2) rfl rfl rfl ?_
  refine rn_if_eq (k' := 3) rfl rfl (fun hc1 => ?_) (fun hc1 => ?_)
  · skip
    refine rn_iconst (k' := 6) rfl rfl ?_
    refine rn_putI (k' := 7) rfl rfl K0_118 (by decide) rfl ?_
    refine rn_iload_n (k' := 8) rfl rfl rfl ?_
    refine rn_iret rfl (Or.inr (by omega)) ?_
    rcases hz with rfl | rfl <;> first | rfl | omega
  · skip
    refine rn_iconst (k' := 4) rfl rfl ?_
    refine rn_goto rfl ?_
    refine rn_putI (k' := 7) rfl rfl K0_118 (by decide) rfl ?_
    refine rn_iload_n (k' := 8) rfl rfl rfl ?_
    refine rn_iret rfl (Or.inr (by omega)) ?_
    rcases hz with rfl | rfl <;> first | rfl | omega
set_option maxHeartbeats 4000000 in
theorem x_X11_herd {μ : Nat → Nat → Int} {c s : Nat} (hL : I_land μ) (hS : I_scene μ) {a0 a1 : Int} (h0 : i32 a0) (h1 : i32 a1) (hv : (0 ≤ a0 ∧ a0 < μ 6 13) ∧ 0 ≤ a1 ∧ a1 ≤ 4) : Cl PT 107 [mR 0, mI a0, mI a1] (mkh μ c s) (fun r => r = (some (some (mI (if a1 = 0 then μ 15 a0.toNat else if a1 = 1 then μ 16 a0.toNat else if a1 = 2 then g_st μ (μ 16 a0.toNat) else if a1 = 3 then g_tim μ (g_st μ (μ 16 a0.toNat)) else μ 7 (μ 15 a0.toNat).toNat + g_st μ (μ 16 a0.toNat)))), mkh μ c s)) := by
  have hL_ := hL
  obtain ⟨lc, lr, le, lm, lw, lh, lwo, lwd, q0, q1, q2, q3, q4, q8, q499, q500, lth, lG, lT, lW, -⟩ := hL_
  have hS_ := hS
  obtain ⟨sd, sw, stk, s4, s5, s6, hC, hH, -, s10, sce, swc, s13⟩ := hS_
  refine ⟨_, PT_107, Nat.le_of_ble_eq_true rfl, ?_⟩
  show Rn PT none kX11_herd 0 [some (mR 0), some (mI (a0)), some (mI (a1))] [] (mkh μ c s) _
  refine rn_aload_n (k' := 1) rfl rfl rfl ?_
  refine rn_iload_n (k' := 2) rfl rfl rfl ?_
  by_cases hq1 : 0 ≤ a0 ∧ a0 < μ 6 13
  · refine rn_callP (k' := 3) (y := 151) (vs := [mR 0, mI (a0)]) (S' := []) (v := some (mI 1)) (h' := mkh μ c s) rfl rfl rfl (by have hz : Cl PT 151 [mR 0, mI (a0)] (mkh μ c s) (fun r => r = (some (some (mI (if 0 ≤ a0 ∧ a0 < μ 6 13 then 1 else 0))), mkh μ c s)) := c_X11_isHerd (hL) (a := a0) (μ := μ) (c := c) (s := s); rw [if_pos hq1] at hz; exact hz) ?_
    show Rn PT none kX11_herd 3 [some (mR 0), some (mI (a0)), some (mI (a1))] [mI (1)] (mkh μ c s) _
    refine rn_if_eq (k' := 4) rfl rfl (fun hc2 => ?_) (fun hc2 => ?_)
    · exfalso; omega
    · skip
      refine rn_iload_n (k' := 5) rfl rfl rfl ?_
      refine rn_if_lt (k' := 6) rfl rfl (fun hc3 => ?_) (fun hc3 => ?_)
      · skip
        refine rn_thr rfl ?_
        exfalso; omega
      · skip
        refine rn_iload_n (k' := 7) rfl rfl rfl ?_
        refine rn_iconst (k' := 8) rfl rfl ?_
        refine rn_icmp_le (k' := 9) rfl rfl (fun hc4 => ?_) (fun hc4 => ?_)
        · skip
          refine rn_iload_n (k' := 14) rfl rfl rfl ?_
          rcases (show (a1 < 0 ∨ 3 < a1) ∨ a1 = 0 ∨ a1 = 1 ∨ a1 = 2 ∨ a1 = 3 by omega) with hs5 | hs5 | hs5 | hs5 | hs5
          · refine rn_swO rfl hs5 ?_
            refine rn_aload_n (k' := 39) rfl rfl rfl ?_
            refine rn_getR (k' := 40) rfl rfl K0_0 (by decide) rfl R0_0_10 ?_
            refine rn_iload_n (k' := 41) rfl rfl rfl ?_
            have hb6 := g_st_b hL (a := μ 16 (a0).toNat) (hH _).1
            have he6 := lG (μ 15 (a0).toNat).toNat
            refine rn_callP (k' := 42) (y := 78) (vs := [mR 81, mI (a0)]) (S' := []) (v := some (mI (μ 7 (μ 15 (a0).toNat).toNat + g_st μ (μ 16 (a0).toNat)))) (h' := mkh μ c s) rfl rfl rfl (c_X9_eyeOf (hL) (hS) (by omega)) ?_
            show Rn PT none kX11_herd 42 [some (mR 0), some (mI (a0)), some (mI (a1))] [mI (μ 7 (μ 15 (a0).toNat).toNat + g_st μ (μ 16 (a0).toNat))] (mkh μ c s) _
            refine rn_iret rfl (Or.inl rfl) ?_
            first | rfl | (refine congrArg (fun z => ((some (some (mI z)) : Option (Option MV)), mkh μ c s)) ?_; first | rfl | omega | (symm; first | (rw [if_pos (by omega)]; first | done | rfl | omega) | (rw [if_neg (by omega)]; first | done | rfl | omega)) | (symm; unfold g_tim; first | (rw [if_pos (by omega)]; first | done | rfl | omega) | (rw [if_neg (by omega)]; first | done | rfl | omega)) | (symm; unfold g_st; first | (rw [if_pos (by omega)]; first | done | rfl | omega) | (rw [if_neg (by omega)]; first | done | rfl | omega)) | (symm; unfold g_dep; first | (rw [if_pos (by omega)]; first | done | rfl | omega) | (rw [if_neg (by omega)]; first | done | rfl | omega)) | (symm; unfold g_nb; first | (rw [if_pos (by omega)]; first | done | rfl | omega) | (rw [if_neg (by omega)]; first | done | rfl | omega)) | ((try unfold g_st); (try unfold g_dep); (try unfold g_nb); (repeat' split) <;> omega) | (symm; (repeat (first | rw [if_pos (by omega)] | rw [if_neg (by omega)])); first | done | rfl | omega))
          · refine rn_swI (j := 0) (t' := 15) rfl (by omega) rfl ?_
            refine rn_aload_n (k' := 16) rfl rfl rfl ?_
            refine rn_getR (k' := 17) rfl rfl K0_0 (by decide) rfl R0_0_4 ?_
            refine rn_getR (k' := 18) rfl rfl K0_14 (by decide) rfl R0_14_1 ?_
            refine rn_iload_n (k' := 19) rfl rfl rfl ?_
            refine rn_iaload (k' := 20) rfl rfl K0_15 (by omega) (by omega) ?_
            have hb7 := hC ((a0).toNat)
            refine rn_iret rfl (Or.inl rfl) ?_
            first | rfl | (refine congrArg (fun z => ((some (some (mI z)) : Option (Option MV)), mkh μ c s)) ?_; first | rfl | omega | (symm; first | (rw [if_pos (by omega)]; first | done | rfl | omega) | (rw [if_neg (by omega)]; first | done | rfl | omega)) | (symm; unfold g_tim; first | (rw [if_pos (by omega)]; first | done | rfl | omega) | (rw [if_neg (by omega)]; first | done | rfl | omega)) | (symm; unfold g_st; first | (rw [if_pos (by omega)]; first | done | rfl | omega) | (rw [if_neg (by omega)]; first | done | rfl | omega)) | (symm; unfold g_dep; first | (rw [if_pos (by omega)]; first | done | rfl | omega) | (rw [if_neg (by omega)]; first | done | rfl | omega)) | (symm; unfold g_nb; first | (rw [if_pos (by omega)]; first | done | rfl | omega) | (rw [if_neg (by omega)]; first | done | rfl | omega)) | ((try unfold g_st); (try unfold g_dep); (try unfold g_nb); (repeat' split) <;> omega) | (symm; (repeat (first | rw [if_pos (by omega)] | rw [if_neg (by omega)])); first | done | rfl | omega))
          · refine rn_swI (j := 1) (t' := 21) rfl (by omega) rfl ?_
            refine rn_aload_n (k' := 22) rfl rfl rfl ?_
            refine rn_getR (k' := 23) rfl rfl K0_0 (by decide) rfl R0_0_4 ?_
            refine rn_getR (k' := 24) rfl rfl K0_14 (by decide) rfl R0_14_2 ?_
            refine rn_iload_n (k' := 25) rfl rfl rfl ?_
            refine rn_iaload (k' := 26) rfl rfl K0_16 (by omega) (by omega) ?_
            have hb8 := hH ((a0).toNat)
            refine rn_iret rfl (Or.inl rfl) ?_
            first | rfl | (refine congrArg (fun z => ((some (some (mI z)) : Option (Option MV)), mkh μ c s)) ?_; first | rfl | omega | (symm; first | (rw [if_pos (by omega)]; first | done | rfl | omega) | (rw [if_neg (by omega)]; first | done | rfl | omega)) | (symm; unfold g_tim; first | (rw [if_pos (by omega)]; first | done | rfl | omega) | (rw [if_neg (by omega)]; first | done | rfl | omega)) | (symm; unfold g_st; first | (rw [if_pos (by omega)]; first | done | rfl | omega) | (rw [if_neg (by omega)]; first | done | rfl | omega)) | (symm; unfold g_dep; first | (rw [if_pos (by omega)]; first | done | rfl | omega) | (rw [if_neg (by omega)]; first | done | rfl | omega)) | (symm; unfold g_nb; first | (rw [if_pos (by omega)]; first | done | rfl | omega) | (rw [if_neg (by omega)]; first | done | rfl | omega)) | ((try unfold g_st); (try unfold g_dep); (try unfold g_nb); (repeat' split) <;> omega) | (symm; (repeat (first | rw [if_pos (by omega)] | rw [if_neg (by omega)])); first | done | rfl | omega))
          · refine rn_swI (j := 2) (t' := 27) rfl (by omega) rfl ?_
            refine rn_aload_n (k' := 28) rfl rfl rfl ?_
            refine rn_iload_n (k' := 29) rfl rfl rfl ?_
            have hb9 := g_st_b hL (a := μ 16 (a0).toNat) (hH _).1
            refine rn_callP (k' := 30) (y := 157) (vs := [mR 0, mI (a0)]) (S' := []) (v := some (mI (g_st μ (μ 16 (a0).toNat)))) (h' := mkh μ c s) rfl rfl rfl (c_X11_stiltsOf (hL) hH (by omega)) ?_
            show Rn PT none kX11_herd 30 [some (mR 0), some (mI (a0)), some (mI (a1))] [mI (g_st μ (μ 16 (a0).toNat))] (mkh μ c s) _
            refine rn_iret rfl (Or.inl rfl) ?_
            first | rfl | (refine congrArg (fun z => ((some (some (mI z)) : Option (Option MV)), mkh μ c s)) ?_; first | rfl | omega | (symm; first | (rw [if_pos (by omega)]; first | done | rfl | omega) | (rw [if_neg (by omega)]; first | done | rfl | omega)) | (symm; unfold g_tim; first | (rw [if_pos (by omega)]; first | done | rfl | omega) | (rw [if_neg (by omega)]; first | done | rfl | omega)) | (symm; unfold g_st; first | (rw [if_pos (by omega)]; first | done | rfl | omega) | (rw [if_neg (by omega)]; first | done | rfl | omega)) | (symm; unfold g_dep; first | (rw [if_pos (by omega)]; first | done | rfl | omega) | (rw [if_neg (by omega)]; first | done | rfl | omega)) | (symm; unfold g_nb; first | (rw [if_pos (by omega)]; first | done | rfl | omega) | (rw [if_neg (by omega)]; first | done | rfl | omega)) | ((try unfold g_st); (try unfold g_dep); (try unfold g_nb); (repeat' split) <;> omega) | (symm; (repeat (first | rw [if_pos (by omega)] | rw [if_neg (by omega)])); first | done | rfl | omega))
          · refine rn_swI (j := 3) (t' := 31) rfl (by omega) rfl ?_
            refine rn_aload_n (k' := 32) rfl rfl rfl ?_
            refine rn_getR (k' := 33) rfl rfl K0_0 (by decide) rfl R0_0_3 ?_
            refine rn_aload_n (k' := 34) rfl rfl rfl ?_
            refine rn_iload_n (k' := 35) rfl rfl rfl ?_
            have hb10 := g_st_b hL (a := μ 16 (a0).toNat) (hH _).1
            refine rn_callP (k' := 36) (y := 157) (vs := [mR 0, mI (a0)]) (S' := [mR 6]) (v := some (mI (g_st μ (μ 16 (a0).toNat)))) (h' := mkh μ c s) rfl rfl rfl (c_X11_stiltsOf (hL) hH (by omega)) ?_
            show Rn PT none kX11_herd 36 [some (mR 0), some (mI (a0)), some (mI (a1))] [mI (g_st μ (μ 16 (a0).toNat)), mR 6] (mkh μ c s) _
            refine rn_callP (k' := 37) (y := 34) (vs := [mR 6, mI (g_st μ (μ 16 (a0).toNat))]) (S' := []) (v := some (mI (g_tim μ (g_st μ (μ 16 (a0).toNat))))) (h' := mkh μ c s) rfl rfl rfl (k_timberFor (hL) (by omega)) ?_
            show Rn PT none kX11_herd 37 [some (mR 0), some (mI (a0)), some (mI (a1))] [mI (g_tim μ (g_st μ (μ 16 (a0).toNat)))] (mkh μ c s) _
            refine rn_iret rfl (Or.inl rfl) ?_
            first | rfl | (refine congrArg (fun z => ((some (some (mI z)) : Option (Option MV)), mkh μ c s)) ?_; first | rfl | omega | (symm; first | (rw [if_pos (by omega)]; first | done | rfl | omega) | (rw [if_neg (by omega)]; first | done | rfl | omega)) | (symm; unfold g_tim; first | (rw [if_pos (by omega)]; first | done | rfl | omega) | (rw [if_neg (by omega)]; first | done | rfl | omega)) | (symm; unfold g_st; first | (rw [if_pos (by omega)]; first | done | rfl | omega) | (rw [if_neg (by omega)]; first | done | rfl | omega)) | (symm; unfold g_dep; first | (rw [if_pos (by omega)]; first | done | rfl | omega) | (rw [if_neg (by omega)]; first | done | rfl | omega)) | (symm; unfold g_nb; first | (rw [if_pos (by omega)]; first | done | rfl | omega) | (rw [if_neg (by omega)]; first | done | rfl | omega)) | ((try unfold g_st); (try unfold g_dep); (try unfold g_nb); (repeat' split) <;> omega) | (symm; (repeat (first | rw [if_pos (by omega)] | rw [if_neg (by omega)])); first | done | rfl | omega))
        · skip
          refine rn_thr rfl ?_
          exfalso; omega
  · refine rn_callP (k' := 3) (y := 151) (vs := [mR 0, mI (a0)]) (S' := []) (v := some (mI 0)) (h' := mkh μ c s) rfl rfl rfl (by have hz : Cl PT 151 [mR 0, mI (a0)] (mkh μ c s) (fun r => r = (some (some (mI (if 0 ≤ a0 ∧ a0 < μ 6 13 then 1 else 0))), mkh μ c s)) := c_X11_isHerd (hL) (a := a0) (μ := μ) (c := c) (s := s); rw [if_neg hq1] at hz; exact hz) ?_
    show Rn PT none kX11_herd 3 [some (mR 0), some (mI (a0)), some (mI (a1))] [mI (0)] (mkh μ c s) _
    refine rn_if_eq (k' := 4) rfl rfl (fun hc11 => ?_) (fun hc11 => ?_)
    · skip
      refine rn_thr rfl ?_
      exfalso; omega
    · exfalso; omega
set_option maxHeartbeats 4000000 in
theorem n_X11_herd {μ : Nat → Nat → Int} {c s : Nat} (hL : I_land μ) (hS : I_scene μ) {a0 a1 : Int} (h0 : i32 a0) (h1 : i32 a1) (hv : ¬ ((0 ≤ a0 ∧ a0 < μ 6 13) ∧ 0 ≤ a1 ∧ a1 ≤ 4)) : Cl PT 107 [mR 0, mI a0, mI a1] (mkh μ c s) (fun r => r = (none, mkh μ (c + 1) (s + 6))) := by
  have hL_ := hL
  obtain ⟨lc, lr, le, lm, lw, lh, lwo, lwd, q0, q1, q2, q3, q4, q8, q499, q500, lth, lG, lT, lW, -⟩ := hL_
  have hS_ := hS
  obtain ⟨sd, sw, stk, s4, s5, s6, hC, hH, -, s10, sce, swc, s13⟩ := hS_
  refine ⟨_, PT_107, Nat.le_of_ble_eq_true rfl, ?_⟩
  show Rn PT none kX11_herd 0 [some (mR 0), some (mI (a0)), some (mI (a1))] [] (mkh μ c s) _
  refine rn_aload_n (k' := 1) rfl rfl rfl ?_
  refine rn_iload_n (k' := 2) rfl rfl rfl ?_
  by_cases hq1 : 0 ≤ a0 ∧ a0 < μ 6 13
  · refine rn_callP (k' := 3) (y := 151) (vs := [mR 0, mI (a0)]) (S' := []) (v := some (mI 1)) (h' := mkh μ c s) rfl rfl rfl (by have hz : Cl PT 151 [mR 0, mI (a0)] (mkh μ c s) (fun r => r = (some (some (mI (if 0 ≤ a0 ∧ a0 < μ 6 13 then 1 else 0))), mkh μ c s)) := c_X11_isHerd (hL) (a := a0) (μ := μ) (c := c) (s := s); rw [if_pos hq1] at hz; exact hz) ?_
    show Rn PT none kX11_herd 3 [some (mR 0), some (mI (a0)), some (mI (a1))] [mI (1)] (mkh μ c s) _
    refine rn_if_eq (k' := 4) rfl rfl (fun hc2 => ?_) (fun hc2 => ?_)
    · exfalso; omega
    · skip
      refine rn_iload_n (k' := 5) rfl rfl rfl ?_
      refine rn_if_lt (k' := 6) rfl rfl (fun hc3 => ?_) (fun hc3 => ?_)
      · skip
        refine rn_thr rfl ?_
        rfl
      · skip
        refine rn_iload_n (k' := 7) rfl rfl rfl ?_
        refine rn_iconst (k' := 8) rfl rfl ?_
        refine rn_icmp_le (k' := 9) rfl rfl (fun hc4 => ?_) (fun hc4 => ?_)
        · skip
          refine rn_iload_n (k' := 14) rfl rfl rfl ?_
          rcases (show (a1 < 0 ∨ 3 < a1) ∨ a1 = 0 ∨ a1 = 1 ∨ a1 = 2 ∨ a1 = 3 by omega) with hs5 | hs5 | hs5 | hs5 | hs5
          · refine rn_swO rfl hs5 ?_
            refine rn_aload_n (k' := 39) rfl rfl rfl ?_
            refine rn_getR (k' := 40) rfl rfl K0_0 (by decide) rfl R0_0_10 ?_
            refine rn_iload_n (k' := 41) rfl rfl rfl ?_
            have hb6 := g_st_b hL (a := μ 16 (a0).toNat) (hH _).1
            have he6 := lG (μ 15 (a0).toNat).toNat
            refine rn_callP (k' := 42) (y := 78) (vs := [mR 81, mI (a0)]) (S' := []) (v := some (mI (μ 7 (μ 15 (a0).toNat).toNat + g_st μ (μ 16 (a0).toNat)))) (h' := mkh μ c s) rfl rfl rfl (c_X9_eyeOf (hL) (hS) (by omega)) ?_
            show Rn PT none kX11_herd 42 [some (mR 0), some (mI (a0)), some (mI (a1))] [mI (μ 7 (μ 15 (a0).toNat).toNat + g_st μ (μ 16 (a0).toNat))] (mkh μ c s) _
            refine rn_iret rfl (Or.inl rfl) ?_
            exfalso; omega
          · refine rn_swI (j := 0) (t' := 15) rfl (by omega) rfl ?_
            refine rn_aload_n (k' := 16) rfl rfl rfl ?_
            refine rn_getR (k' := 17) rfl rfl K0_0 (by decide) rfl R0_0_4 ?_
            refine rn_getR (k' := 18) rfl rfl K0_14 (by decide) rfl R0_14_1 ?_
            refine rn_iload_n (k' := 19) rfl rfl rfl ?_
            refine rn_iaload (k' := 20) rfl rfl K0_15 (by omega) (by omega) ?_
            have hb7 := hC ((a0).toNat)
            refine rn_iret rfl (Or.inl rfl) ?_
            exfalso; omega
          · refine rn_swI (j := 1) (t' := 21) rfl (by omega) rfl ?_
            refine rn_aload_n (k' := 22) rfl rfl rfl ?_
            refine rn_getR (k' := 23) rfl rfl K0_0 (by decide) rfl R0_0_4 ?_
            refine rn_getR (k' := 24) rfl rfl K0_14 (by decide) rfl R0_14_2 ?_
            refine rn_iload_n (k' := 25) rfl rfl rfl ?_
            refine rn_iaload (k' := 26) rfl rfl K0_16 (by omega) (by omega) ?_
            have hb8 := hH ((a0).toNat)
            refine rn_iret rfl (Or.inl rfl) ?_
            exfalso; omega
          · refine rn_swI (j := 2) (t' := 27) rfl (by omega) rfl ?_
            refine rn_aload_n (k' := 28) rfl rfl rfl ?_
            refine rn_iload_n (k' := 29) rfl rfl rfl ?_
            have hb9 := g_st_b hL (a := μ 16 (a0).toNat) (hH _).1
            refine rn_callP (k' := 30) (y := 157) (vs := [mR 0, mI (a0)]) (S' := []) (v := some (mI (g_st μ (μ 16 (a0).toNat)))) (h' := mkh μ c s) rfl rfl rfl (c_X11_stiltsOf (hL) hH (by omega)) ?_
            show Rn PT none kX11_herd 30 [some (mR 0), some (mI (a0)), some (mI (a1))] [mI (g_st μ (μ 16 (a0).toNat))] (mkh μ c s) _
            refine rn_iret rfl (Or.inl rfl) ?_
            exfalso; omega
          · refine rn_swI (j := 3) (t' := 31) rfl (by omega) rfl ?_
            refine rn_aload_n (k' := 32) rfl rfl rfl ?_
            refine rn_getR (k' := 33) rfl rfl K0_0 (by decide) rfl R0_0_3 ?_
            refine rn_aload_n (k' := 34) rfl rfl rfl ?_
            refine rn_iload_n (k' := 35) rfl rfl rfl ?_
            have hb10 := g_st_b hL (a := μ 16 (a0).toNat) (hH _).1
            refine rn_callP (k' := 36) (y := 157) (vs := [mR 0, mI (a0)]) (S' := [mR 6]) (v := some (mI (g_st μ (μ 16 (a0).toNat)))) (h' := mkh μ c s) rfl rfl rfl (c_X11_stiltsOf (hL) hH (by omega)) ?_
            show Rn PT none kX11_herd 36 [some (mR 0), some (mI (a0)), some (mI (a1))] [mI (g_st μ (μ 16 (a0).toNat)), mR 6] (mkh μ c s) _
            refine rn_callP (k' := 37) (y := 34) (vs := [mR 6, mI (g_st μ (μ 16 (a0).toNat))]) (S' := []) (v := some (mI (g_tim μ (g_st μ (μ 16 (a0).toNat))))) (h' := mkh μ c s) rfl rfl rfl (k_timberFor (hL) (by omega)) ?_
            show Rn PT none kX11_herd 37 [some (mR 0), some (mI (a0)), some (mI (a1))] [mI (g_tim μ (g_st μ (μ 16 (a0).toNat)))] (mkh μ c s) _
            refine rn_iret rfl (Or.inl rfl) ?_
            exfalso; omega
        · skip
          refine rn_thr rfl ?_
          rfl
  · refine rn_callP (k' := 3) (y := 151) (vs := [mR 0, mI (a0)]) (S' := []) (v := some (mI 0)) (h' := mkh μ c s) rfl rfl rfl (by have hz : Cl PT 151 [mR 0, mI (a0)] (mkh μ c s) (fun r => r = (some (some (mI (if 0 ≤ a0 ∧ a0 < μ 6 13 then 1 else 0))), mkh μ c s)) := c_X11_isHerd (hL) (a := a0) (μ := μ) (c := c) (s := s); rw [if_neg hq1] at hz; exact hz) ?_
    show Rn PT none kX11_herd 3 [some (mR 0), some (mI (a0)), some (mI (a1))] [mI (0)] (mkh μ c s) _
    refine rn_if_eq (k' := 4) rfl rfl (fun hc11 => ?_) (fun hc11 => ?_)
    · skip
      refine rn_thr rfl ?_
      rfl
    · exfalso; omega
set_option maxHeartbeats 4000000 in
theorem x_X12_herd {μ : Nat → Nat → Int} {c s : Nat} (hL : I_land μ) (hS : I_scene μ) {a0 a1 : Int} (h0 : i32 a0) (h1 : i32 a1) (hv : (0 ≤ a0 ∧ a0 < μ 6 13) ∧ 0 ≤ a1 ∧ a1 ≤ 4) : Cl PT 205 [mR 118, mI a0, mI a1] (mkh μ c s) (fun r => ∃ μ1, r = (some (some (mI (if a1 = 0 then μ 15 a0.toNat else if a1 = 1 then μ 16 a0.toNat else if a1 = 2 then g_st μ (μ 16 a0.toNat) else if a1 = 3 then g_tim μ (g_st μ (μ 16 a0.toNat)) else μ 7 (μ 15 a0.toNat).toNat + g_st μ (μ 16 a0.toNat)))), mkh μ1 c s) ∧ rst μ1 = rst μ ∧ μ1 118 0 = 0 ∧ μ1 141 0 = μ 141 0) := by
  have hL_ := hL
  obtain ⟨lc, lr, le, lm, lw, lh, lwo, lwd, q0, q1, q2, q3, q4, q8, q499, q500, lth, lG, lT, lW, -⟩ := hL_
  have hS_ := hS
  obtain ⟨sd, sw, stk, s4, s5, s6, hC, hH, -, s10, sce, swc, s13⟩ := hS_
  refine ⟨_, PT_205, Nat.le_of_ble_eq_true rfl, ?_⟩
  show Rn PT none kX12_herd 0 [some (mR 118), some (mI (a0)), some (mI (a1))] [] (mkh μ c s) _
  refine rn_aload_n (k' := 1) rfl rfl rfl ?_
  refine rn_aload_n (k' := 2) rfl rfl rfl ?_
  refine rn_iload_n (k' := 3) rfl rfl rfl ?_
  by_cases hq1 : 0 ≤ a0 ∧ a0 < μ 6 13
  · refine rn_callP (k' := 4) (y := 193) (vs := [mR 118, mI (a0)]) (S' := [mR 118]) (v := some (mI 1)) (h' := mkh μ c s) rfl rfl rfl (by have hz : Cl PT 193 [mR 118, mI (a0)] (mkh μ c s) (fun r => r = (some (some (mI (if 0 ≤ a0 ∧ a0 < μ 6 13 then 1 else 0))), mkh μ c s)) := c_X12_isHerd (hL) (a := a0) (μ := μ) (c := c) (s := s); rw [if_pos hq1] at hz; exact hz) ?_
    show Rn PT none kX12_herd 4 [some (mR 118), some (mI (a0)), some (mI (a1))] [mI (1), mR 118] (mkh μ c s) _
    refine rn_if_eq (k' := 5) rfl rfl (fun hc2 => ?_) (fun hc2 => ?_)
    · exfalso; omega
    · skip
      refine rn_iload_n (k' := 6) rfl rfl rfl ?_
      refine rn_iconst (k' := 7) rfl rfl ?_
      refine rn_iconst (k' := 8) rfl rfl ?_
      by_cases hq3 : 0 ≤ a1 ∧ a1 ≤ 4
      · refine rn_callP (k' := 9) (y := 167) (vs := [mI (a1), mI (0), mI (4)]) (S' := [mR 118]) (v := some (mI 1)) (h' := mkh μ c s) rfl rfl rfl (by have hz : Cl PT 167 [mI (a1), mI (0), mI (4)] (mkh μ c s) (fun r => r = (some (some (mI (if 0 ≤ a1 ∧ a1 ≤ 4 then 1 else 0))), mkh μ c s)) := c_X12_isIn (v := a1) (lo := 0) (hi := 4) (μ := μ) (c := c) (s := s); rw [if_pos hq3] at hz; exact hz) ?_
        show Rn PT none kX12_herd 9 [some (mR 118), some (mI (a0)), some (mI (a1))] [mI (1), mR 118] (mkh μ c s) _
        refine rn_if_ne (k' := 10) rfl rfl (fun hc4 => ?_) (fun hc4 => ?_)
        · skip
          refine rn_iconst (k' := 13) rfl rfl ?_
          refine rn_callP (k' := 14) (y := 162) (vs := [mR 118, mI (0)]) (S' := []) (v := some (mI (0))) (h' := mkh (m_set μ 118 0 (0)) c s) rfl rfl rfl (c_X12_throwsIf (by omega)) ?_
          show Rn PT none kX12_herd 14 [some (mR 118), some (mI (a0)), some (mI (a1))] [mI (0)] (mkh (m_set μ 118 0 (0)) c s) _
          refine rn_if_eq (k' := 15) rfl rfl (fun hc5 => ?_) (fun hc5 => ?_)
          · skip
            refine rn_iload_n (k' := 18) rfl rfl rfl ?_
            refine rn_if_ne (k' := 19) rfl rfl (fun hc6 => ?_) (fun hc6 => ?_)
            · skip
              refine rn_iload_n (k' := 27) rfl rfl rfl ?_
              refine rn_iconst (k' := 28) rfl rfl ?_
              refine rn_icmp_ne (k' := 29) rfl rfl (fun hc7 => ?_) (fun hc7 => ?_)
              · skip
                refine rn_iload_n (k' := 37) rfl rfl rfl ?_
                refine rn_iconst (k' := 38) rfl rfl ?_
                refine rn_icmp_ne (k' := 39) rfl rfl (fun hc8 => ?_) (fun hc8 => ?_)
                · skip
                  refine rn_iload_n (k' := 44) rfl rfl rfl ?_
                  refine rn_iconst (k' := 45) rfl rfl ?_
                  refine rn_icmp_ne (k' := 46) rfl rfl (fun hc9 => ?_) (fun hc9 => ?_)
                  · skip
                    refine rn_aload_n (k' := 51) rfl rfl rfl ?_
                    refine rn_iload_n (k' := 52) rfl rfl rfl ?_
                    have hb10 := g_st_b hL (a := μ 16 (a0).toNat) (hH _).1
                    have he10 := lG (μ 15 (a0).toNat).toNat
                    refine rn_callP (k' := 53) (y := 199) (vs := [mR 118, mI (a0)]) (S' := []) (v := some (mI (μ 7 (μ 15 (a0).toNat).toNat + g_st μ (μ 16 (a0).toNat)))) (h' := mkh (m_set μ 118 0 (0)) c s) rfl rfl rfl (c_X12_eyeOf ((hL).set rfl) ((hS).set rfl) (by show 0 ≤ (a0 : Int) ∧ (a0 : Int) < μ 6 13; omega)) ?_
                    show Rn PT none kX12_herd 53 [some (mR 118), some (mI (a0)), some (mI (a1))] [mI (μ 7 (μ 15 (a0).toNat).toNat + g_st μ (μ 16 (a0).toNat))] (mkh (m_set μ 118 0 (0)) c s) _
                    refine rn_iret rfl (Or.inl rfl) ?_
                    refine ⟨(m_set μ 118 0 (0)), ?_, (rst_set (a := 118) (j := 0) rfl), rfl, rfl⟩
                    first | rfl | (refine congrArg (fun z => ((some (some (mI z)) : Option (Option MV)), mkh (m_set μ 118 0 (0)) c s)) ?_; first | rfl | omega | (symm; first | (rw [if_pos (by omega)]; first | done | rfl | omega) | (rw [if_neg (by omega)]; first | done | rfl | omega)) | (symm; unfold g_tim; first | (rw [if_pos (by omega)]; first | done | rfl | omega) | (rw [if_neg (by omega)]; first | done | rfl | omega)) | (symm; unfold g_st; first | (rw [if_pos (by omega)]; first | done | rfl | omega) | (rw [if_neg (by omega)]; first | done | rfl | omega)) | (symm; unfold g_dep; first | (rw [if_pos (by omega)]; first | done | rfl | omega) | (rw [if_neg (by omega)]; first | done | rfl | omega)) | (symm; unfold g_nb; first | (rw [if_pos (by omega)]; first | done | rfl | omega) | (rw [if_neg (by omega)]; first | done | rfl | omega)) | ((try unfold g_st); (try unfold g_dep); (try unfold g_nb); (repeat' split) <;> omega) | (symm; (repeat (first | rw [if_pos (by omega)] | rw [if_neg (by omega)])); first | done | rfl | omega))
                  · skip
                    refine rn_aload_n (k' := 47) rfl rfl rfl ?_
                    refine rn_iload_n (k' := 48) rfl rfl rfl ?_
                    refine rn_callP (k' := 49) (y := 200) (vs := [mR 118, mI (a0)]) (S' := []) (v := some (mI (g_tim μ (g_st μ (μ 16 (a0).toNat))))) (h' := mkh (m_set μ 118 0 (0)) c s) rfl rfl rfl (c_X12_timberOf ((hL).set rfl) ((hS).set rfl) (by show 0 ≤ (a0 : Int) ∧ (a0 : Int) < μ 6 13; omega)) ?_
                    show Rn PT none kX12_herd 49 [some (mR 118), some (mI (a0)), some (mI (a1))] [mI (g_tim μ (g_st μ (μ 16 (a0).toNat)))] (mkh (m_set μ 118 0 (0)) c s) _
                    refine rn_goto rfl ?_
                    refine rn_iret rfl (Or.inl rfl) ?_
                    refine ⟨(m_set μ 118 0 (0)), ?_, (rst_set (a := 118) (j := 0) rfl), rfl, rfl⟩
                    first | rfl | (refine congrArg (fun z => ((some (some (mI z)) : Option (Option MV)), mkh (m_set μ 118 0 (0)) c s)) ?_; first | rfl | omega | (symm; first | (rw [if_pos (by omega)]; first | done | rfl | omega) | (rw [if_neg (by omega)]; first | done | rfl | omega)) | (symm; unfold g_tim; first | (rw [if_pos (by omega)]; first | done | rfl | omega) | (rw [if_neg (by omega)]; first | done | rfl | omega)) | (symm; unfold g_st; first | (rw [if_pos (by omega)]; first | done | rfl | omega) | (rw [if_neg (by omega)]; first | done | rfl | omega)) | (symm; unfold g_dep; first | (rw [if_pos (by omega)]; first | done | rfl | omega) | (rw [if_neg (by omega)]; first | done | rfl | omega)) | (symm; unfold g_nb; first | (rw [if_pos (by omega)]; first | done | rfl | omega) | (rw [if_neg (by omega)]; first | done | rfl | omega)) | ((try unfold g_st); (try unfold g_dep); (try unfold g_nb); (repeat' split) <;> omega) | (symm; (repeat (first | rw [if_pos (by omega)] | rw [if_neg (by omega)])); first | done | rfl | omega))
                · skip
                  refine rn_aload_n (k' := 40) rfl rfl rfl ?_
                  refine rn_iload_n (k' := 41) rfl rfl rfl ?_
                  have hb11 := g_st_b hL (a := μ 16 (a0).toNat) (hH _).1
                  refine rn_callP (k' := 42) (y := 198) (vs := [mR 118, mI (a0)]) (S' := []) (v := some (mI (g_st μ (μ 16 (a0).toNat)))) (h' := mkh (m_set μ 118 0 (0)) c s) rfl rfl rfl (c_X12_stiltsOf ((hL).set rfl) ((hS).set rfl) (by show 0 ≤ (a0 : Int) ∧ (a0 : Int) < μ 6 13; omega)) ?_
                  show Rn PT none kX12_herd 42 [some (mR 118), some (mI (a0)), some (mI (a1))] [mI (g_st μ (μ 16 (a0).toNat))] (mkh (m_set μ 118 0 (0)) c s) _
                  refine rn_goto rfl ?_
                  refine rn_iret rfl (Or.inl rfl) ?_
                  refine ⟨(m_set μ 118 0 (0)), ?_, (rst_set (a := 118) (j := 0) rfl), rfl, rfl⟩
                  first | rfl | (refine congrArg (fun z => ((some (some (mI z)) : Option (Option MV)), mkh (m_set μ 118 0 (0)) c s)) ?_; first | rfl | omega | (symm; first | (rw [if_pos (by omega)]; first | done | rfl | omega) | (rw [if_neg (by omega)]; first | done | rfl | omega)) | (symm; unfold g_tim; first | (rw [if_pos (by omega)]; first | done | rfl | omega) | (rw [if_neg (by omega)]; first | done | rfl | omega)) | (symm; unfold g_st; first | (rw [if_pos (by omega)]; first | done | rfl | omega) | (rw [if_neg (by omega)]; first | done | rfl | omega)) | (symm; unfold g_dep; first | (rw [if_pos (by omega)]; first | done | rfl | omega) | (rw [if_neg (by omega)]; first | done | rfl | omega)) | (symm; unfold g_nb; first | (rw [if_pos (by omega)]; first | done | rfl | omega) | (rw [if_neg (by omega)]; first | done | rfl | omega)) | ((try unfold g_st); (try unfold g_dep); (try unfold g_nb); (repeat' split) <;> omega) | (symm; (repeat (first | rw [if_pos (by omega)] | rw [if_neg (by omega)])); first | done | rfl | omega))
              · skip
                refine rn_aload_n (k' := 30) rfl rfl rfl ?_
                refine rn_getR (k' := 31) rfl rfl K0_118 (by decide) rfl R0_118_6 ?_
                refine rn_sipush (k' := 32) rfl rfl ?_
                refine rn_iload_n (k' := 33) rfl rfl rfl ?_
                refine rn_iadd (k' := 34) rfl rfl (by omega) ?_
                refine rn_iaload (k' := 35) rfl rfl K0_120 (by omega) (by omega) ?_
                show Rn PT none kX12_herd 35 [some (mR 118), some (mI (a0)), some (mI (a1))] [mI (μ 120 ((526 + a0).toNat))] (mkh (m_set μ 118 0 (0)) c s) _
                rw [(v_hd hS (a := a0) (by omega)).1]
                have hb12 := (v_hd hS (a := a0) (by omega)).2
                refine rn_goto rfl ?_
                refine rn_iret rfl (Or.inl rfl) ?_
                refine ⟨(m_set μ 118 0 (0)), ?_, (rst_set (a := 118) (j := 0) rfl), rfl, rfl⟩
                first | rfl | (refine congrArg (fun z => ((some (some (mI z)) : Option (Option MV)), mkh (m_set μ 118 0 (0)) c s)) ?_; first | rfl | omega | (symm; first | (rw [if_pos (by omega)]; first | done | rfl | omega) | (rw [if_neg (by omega)]; first | done | rfl | omega)) | (symm; unfold g_tim; first | (rw [if_pos (by omega)]; first | done | rfl | omega) | (rw [if_neg (by omega)]; first | done | rfl | omega)) | (symm; unfold g_st; first | (rw [if_pos (by omega)]; first | done | rfl | omega) | (rw [if_neg (by omega)]; first | done | rfl | omega)) | (symm; unfold g_dep; first | (rw [if_pos (by omega)]; first | done | rfl | omega) | (rw [if_neg (by omega)]; first | done | rfl | omega)) | (symm; unfold g_nb; first | (rw [if_pos (by omega)]; first | done | rfl | omega) | (rw [if_neg (by omega)]; first | done | rfl | omega)) | ((try unfold g_st); (try unfold g_dep); (try unfold g_nb); (repeat' split) <;> omega) | (symm; (repeat (first | rw [if_pos (by omega)] | rw [if_neg (by omega)])); first | done | rfl | omega))
            · skip
              refine rn_aload_n (k' := 20) rfl rfl rfl ?_
              refine rn_getR (k' := 21) rfl rfl K0_118 (by decide) rfl R0_118_6 ?_
              refine rn_sipush (k' := 22) rfl rfl ?_
              refine rn_iload_n (k' := 23) rfl rfl rfl ?_
              refine rn_iadd (k' := 24) rfl rfl (by omega) ?_
              refine rn_iaload (k' := 25) rfl rfl K0_120 (by omega) (by omega) ?_
              show Rn PT none kX12_herd 25 [some (mR 118), some (mI (a0)), some (mI (a1))] [mI (μ 120 ((518 + a0).toNat))] (mkh (m_set μ 118 0 (0)) c s) _
              rw [(v_at hS (a := a0) (by omega)).1]
              have hb13 := (v_at hS (a := a0) (by omega)).2
              refine rn_goto rfl ?_
              refine rn_iret rfl (Or.inl rfl) ?_
              refine ⟨(m_set μ 118 0 (0)), ?_, (rst_set (a := 118) (j := 0) rfl), rfl, rfl⟩
              first | rfl | (refine congrArg (fun z => ((some (some (mI z)) : Option (Option MV)), mkh (m_set μ 118 0 (0)) c s)) ?_; first | rfl | omega | (symm; first | (rw [if_pos (by omega)]; first | done | rfl | omega) | (rw [if_neg (by omega)]; first | done | rfl | omega)) | (symm; unfold g_tim; first | (rw [if_pos (by omega)]; first | done | rfl | omega) | (rw [if_neg (by omega)]; first | done | rfl | omega)) | (symm; unfold g_st; first | (rw [if_pos (by omega)]; first | done | rfl | omega) | (rw [if_neg (by omega)]; first | done | rfl | omega)) | (symm; unfold g_dep; first | (rw [if_pos (by omega)]; first | done | rfl | omega) | (rw [if_neg (by omega)]; first | done | rfl | omega)) | (symm; unfold g_nb; first | (rw [if_pos (by omega)]; first | done | rfl | omega) | (rw [if_neg (by omega)]; first | done | rfl | omega)) | ((try unfold g_st); (try unfold g_dep); (try unfold g_nb); (repeat' split) <;> omega) | (symm; (repeat (first | rw [if_pos (by omega)] | rw [if_neg (by omega)])); first | done | rfl | omega))
          · exfalso; omega
        · exfalso; omega
      · refine rn_callP (k' := 9) (y := 167) (vs := [mI (a1), mI (0), mI (4)]) (S' := [mR 118]) (v := some (mI 0)) (h' := mkh μ c s) rfl rfl rfl (by have hz : Cl PT 167 [mI (a1), mI (0), mI (4)] (mkh μ c s) (fun r => r = (some (some (mI (if 0 ≤ a1 ∧ a1 ≤ 4 then 1 else 0))), mkh μ c s)) := c_X12_isIn (v := a1) (lo := 0) (hi := 4) (μ := μ) (c := c) (s := s); rw [if_neg hq3] at hz; exact hz) ?_
        show Rn PT none kX12_herd 9 [some (mR 118), some (mI (a0)), some (mI (a1))] [mI (0), mR 118] (mkh μ c s) _
        refine rn_if_ne (k' := 10) rfl rfl (fun hc14 => ?_) (fun hc14 => ?_)
        · exfalso; omega
        · skip
          refine rn_iconst (k' := 11) rfl rfl ?_
          refine rn_goto rfl ?_
          refine rn_callP (k' := 14) (y := 162) (vs := [mR 118, mI (1)]) (S' := []) (v := some (mI (1))) (h' := mkh (m_set μ 118 0 (1)) c s) rfl rfl rfl (c_X12_throwsIf (by omega)) ?_
          show Rn PT none kX12_herd 14 [some (mR 118), some (mI (a0)), some (mI (a1))] [mI (1)] (mkh (m_set μ 118 0 (1)) c s) _
          refine rn_if_eq (k' := 15) rfl rfl (fun hc15 => ?_) (fun hc15 => ?_)
          · exfalso; omega
          · skip
            refine rn_iconst (k' := 16) rfl rfl ?_
            refine rn_iret rfl (Or.inl rfl) ?_
            exfalso; omega
  · refine rn_callP (k' := 4) (y := 193) (vs := [mR 118, mI (a0)]) (S' := [mR 118]) (v := some (mI 0)) (h' := mkh μ c s) rfl rfl rfl (by have hz : Cl PT 193 [mR 118, mI (a0)] (mkh μ c s) (fun r => r = (some (some (mI (if 0 ≤ a0 ∧ a0 < μ 6 13 then 1 else 0))), mkh μ c s)) := c_X12_isHerd (hL) (a := a0) (μ := μ) (c := c) (s := s); rw [if_neg hq1] at hz; exact hz) ?_
    show Rn PT none kX12_herd 4 [some (mR 118), some (mI (a0)), some (mI (a1))] [mI (0), mR 118] (mkh μ c s) _
    refine rn_if_eq (k' := 5) rfl rfl (fun hc16 => ?_) (fun hc16 => ?_)
    · skip
      refine rn_iconst (k' := 11) rfl rfl ?_
      refine rn_goto rfl ?_
      refine rn_callP (k' := 14) (y := 162) (vs := [mR 118, mI (1)]) (S' := []) (v := some (mI (1))) (h' := mkh (m_set μ 118 0 (1)) c s) rfl rfl rfl (c_X12_throwsIf (by omega)) ?_
      show Rn PT none kX12_herd 14 [some (mR 118), some (mI (a0)), some (mI (a1))] [mI (1)] (mkh (m_set μ 118 0 (1)) c s) _
      refine rn_if_eq (k' := 15) rfl rfl (fun hc17 => ?_) (fun hc17 => ?_)
      · exfalso; omega
      · skip
        refine rn_iconst (k' := 16) rfl rfl ?_
        refine rn_iret rfl (Or.inl rfl) ?_
        exfalso; omega
    · exfalso; omega
set_option maxHeartbeats 4000000 in
theorem n_X12_herd {μ : Nat → Nat → Int} {c s : Nat} (hL : I_land μ) (hS : I_scene μ) {a0 a1 : Int} (h0 : i32 a0) (h1 : i32 a1) (hv : ¬ ((0 ≤ a0 ∧ a0 < μ 6 13) ∧ 0 ≤ a1 ∧ a1 ≤ 4)) : Cl PT 205 [mR 118, mI a0, mI a1] (mkh μ c s) (fun r => ∃ μ1, r = (some (some (mI 0)), mkh μ1 c s) ∧ rst μ1 = rst μ ∧ μ1 118 0 = 1 ∧ μ1 141 0 = μ 141 0) := by
  have hL_ := hL
  obtain ⟨lc, lr, le, lm, lw, lh, lwo, lwd, q0, q1, q2, q3, q4, q8, q499, q500, lth, lG, lT, lW, -⟩ := hL_
  have hS_ := hS
  obtain ⟨sd, sw, stk, s4, s5, s6, hC, hH, -, s10, sce, swc, s13⟩ := hS_
  refine ⟨_, PT_205, Nat.le_of_ble_eq_true rfl, ?_⟩
  show Rn PT none kX12_herd 0 [some (mR 118), some (mI (a0)), some (mI (a1))] [] (mkh μ c s) _
  refine rn_aload_n (k' := 1) rfl rfl rfl ?_
  refine rn_aload_n (k' := 2) rfl rfl rfl ?_
  refine rn_iload_n (k' := 3) rfl rfl rfl ?_
  by_cases hq1 : 0 ≤ a0 ∧ a0 < μ 6 13
  · refine rn_callP (k' := 4) (y := 193) (vs := [mR 118, mI (a0)]) (S' := [mR 118]) (v := some (mI 1)) (h' := mkh μ c s) rfl rfl rfl (by have hz : Cl PT 193 [mR 118, mI (a0)] (mkh μ c s) (fun r => r = (some (some (mI (if 0 ≤ a0 ∧ a0 < μ 6 13 then 1 else 0))), mkh μ c s)) := c_X12_isHerd (hL) (a := a0) (μ := μ) (c := c) (s := s); rw [if_pos hq1] at hz; exact hz) ?_
    show Rn PT none kX12_herd 4 [some (mR 118), some (mI (a0)), some (mI (a1))] [mI (1), mR 118] (mkh μ c s) _
    refine rn_if_eq (k' := 5) rfl rfl (fun hc2 => ?_) (fun hc2 => ?_)
    · exfalso; omega
    · skip
      refine rn_iload_n (k' := 6) rfl rfl rfl ?_
      refine rn_iconst (k' := 7) rfl rfl ?_
      refine rn_iconst (k' := 8) rfl rfl ?_
      by_cases hq3 : 0 ≤ a1 ∧ a1 ≤ 4
      · refine rn_callP (k' := 9) (y := 167) (vs := [mI (a1), mI (0), mI (4)]) (S' := [mR 118]) (v := some (mI 1)) (h' := mkh μ c s) rfl rfl rfl (by have hz : Cl PT 167 [mI (a1), mI (0), mI (4)] (mkh μ c s) (fun r => r = (some (some (mI (if 0 ≤ a1 ∧ a1 ≤ 4 then 1 else 0))), mkh μ c s)) := c_X12_isIn (v := a1) (lo := 0) (hi := 4) (μ := μ) (c := c) (s := s); rw [if_pos hq3] at hz; exact hz) ?_
        show Rn PT none kX12_herd 9 [some (mR 118), some (mI (a0)), some (mI (a1))] [mI (1), mR 118] (mkh μ c s) _
        refine rn_if_ne (k' := 10) rfl rfl (fun hc4 => ?_) (fun hc4 => ?_)
        · skip
          refine rn_iconst (k' := 13) rfl rfl ?_
          refine rn_callP (k' := 14) (y := 162) (vs := [mR 118, mI (0)]) (S' := []) (v := some (mI (0))) (h' := mkh (m_set μ 118 0 (0)) c s) rfl rfl rfl (c_X12_throwsIf (by omega)) ?_
          show Rn PT none kX12_herd 14 [some (mR 118), some (mI (a0)), some (mI (a1))] [mI (0)] (mkh (m_set μ 118 0 (0)) c s) _
          refine rn_if_eq (k' := 15) rfl rfl (fun hc5 => ?_) (fun hc5 => ?_)
          · skip
            refine rn_iload_n (k' := 18) rfl rfl rfl ?_
            refine rn_if_ne (k' := 19) rfl rfl (fun hc6 => ?_) (fun hc6 => ?_)
            · skip
              refine rn_iload_n (k' := 27) rfl rfl rfl ?_
              refine rn_iconst (k' := 28) rfl rfl ?_
              refine rn_icmp_ne (k' := 29) rfl rfl (fun hc7 => ?_) (fun hc7 => ?_)
              · skip
                refine rn_iload_n (k' := 37) rfl rfl rfl ?_
                refine rn_iconst (k' := 38) rfl rfl ?_
                refine rn_icmp_ne (k' := 39) rfl rfl (fun hc8 => ?_) (fun hc8 => ?_)
                · skip
                  refine rn_iload_n (k' := 44) rfl rfl rfl ?_
                  refine rn_iconst (k' := 45) rfl rfl ?_
                  refine rn_icmp_ne (k' := 46) rfl rfl (fun hc9 => ?_) (fun hc9 => ?_)
                  · skip
                    refine rn_aload_n (k' := 51) rfl rfl rfl ?_
                    refine rn_iload_n (k' := 52) rfl rfl rfl ?_
                    have hb10 := g_st_b hL (a := μ 16 (a0).toNat) (hH _).1
                    have he10 := lG (μ 15 (a0).toNat).toNat
                    refine rn_callP (k' := 53) (y := 199) (vs := [mR 118, mI (a0)]) (S' := []) (v := some (mI (μ 7 (μ 15 (a0).toNat).toNat + g_st μ (μ 16 (a0).toNat)))) (h' := mkh (m_set μ 118 0 (0)) c s) rfl rfl rfl (c_X12_eyeOf ((hL).set rfl) ((hS).set rfl) (by show 0 ≤ (a0 : Int) ∧ (a0 : Int) < μ 6 13; omega)) ?_
                    show Rn PT none kX12_herd 53 [some (mR 118), some (mI (a0)), some (mI (a1))] [mI (μ 7 (μ 15 (a0).toNat).toNat + g_st μ (μ 16 (a0).toNat))] (mkh (m_set μ 118 0 (0)) c s) _
                    refine rn_iret rfl (Or.inl rfl) ?_
                    exfalso; omega
                  · skip
                    refine rn_aload_n (k' := 47) rfl rfl rfl ?_
                    refine rn_iload_n (k' := 48) rfl rfl rfl ?_
                    refine rn_callP (k' := 49) (y := 200) (vs := [mR 118, mI (a0)]) (S' := []) (v := some (mI (g_tim μ (g_st μ (μ 16 (a0).toNat))))) (h' := mkh (m_set μ 118 0 (0)) c s) rfl rfl rfl (c_X12_timberOf ((hL).set rfl) ((hS).set rfl) (by show 0 ≤ (a0 : Int) ∧ (a0 : Int) < μ 6 13; omega)) ?_
                    show Rn PT none kX12_herd 49 [some (mR 118), some (mI (a0)), some (mI (a1))] [mI (g_tim μ (g_st μ (μ 16 (a0).toNat)))] (mkh (m_set μ 118 0 (0)) c s) _
                    refine rn_goto rfl ?_
                    refine rn_iret rfl (Or.inl rfl) ?_
                    exfalso; omega
                · skip
                  refine rn_aload_n (k' := 40) rfl rfl rfl ?_
                  refine rn_iload_n (k' := 41) rfl rfl rfl ?_
                  have hb11 := g_st_b hL (a := μ 16 (a0).toNat) (hH _).1
                  refine rn_callP (k' := 42) (y := 198) (vs := [mR 118, mI (a0)]) (S' := []) (v := some (mI (g_st μ (μ 16 (a0).toNat)))) (h' := mkh (m_set μ 118 0 (0)) c s) rfl rfl rfl (c_X12_stiltsOf ((hL).set rfl) ((hS).set rfl) (by show 0 ≤ (a0 : Int) ∧ (a0 : Int) < μ 6 13; omega)) ?_
                  show Rn PT none kX12_herd 42 [some (mR 118), some (mI (a0)), some (mI (a1))] [mI (g_st μ (μ 16 (a0).toNat))] (mkh (m_set μ 118 0 (0)) c s) _
                  refine rn_goto rfl ?_
                  refine rn_iret rfl (Or.inl rfl) ?_
                  exfalso; omega
              · skip
                refine rn_aload_n (k' := 30) rfl rfl rfl ?_
                refine rn_getR (k' := 31) rfl rfl K0_118 (by decide) rfl R0_118_6 ?_
                refine rn_sipush (k' := 32) rfl rfl ?_
                refine rn_iload_n (k' := 33) rfl rfl rfl ?_
                refine rn_iadd (k' := 34) rfl rfl (by omega) ?_
                refine rn_iaload (k' := 35) rfl rfl K0_120 (by omega) (by omega) ?_
                show Rn PT none kX12_herd 35 [some (mR 118), some (mI (a0)), some (mI (a1))] [mI (μ 120 ((526 + a0).toNat))] (mkh (m_set μ 118 0 (0)) c s) _
                rw [(v_hd hS (a := a0) (by omega)).1]
                have hb12 := (v_hd hS (a := a0) (by omega)).2
                refine rn_goto rfl ?_
                refine rn_iret rfl (Or.inl rfl) ?_
                exfalso; omega
            · skip
              refine rn_aload_n (k' := 20) rfl rfl rfl ?_
              refine rn_getR (k' := 21) rfl rfl K0_118 (by decide) rfl R0_118_6 ?_
              refine rn_sipush (k' := 22) rfl rfl ?_
              refine rn_iload_n (k' := 23) rfl rfl rfl ?_
              refine rn_iadd (k' := 24) rfl rfl (by omega) ?_
              refine rn_iaload (k' := 25) rfl rfl K0_120 (by omega) (by omega) ?_
              show Rn PT none kX12_herd 25 [some (mR 118), some (mI (a0)), some (mI (a1))] [mI (μ 120 ((518 + a0).toNat))] (mkh (m_set μ 118 0 (0)) c s) _
              rw [(v_at hS (a := a0) (by omega)).1]
              have hb13 := (v_at hS (a := a0) (by omega)).2
              refine rn_goto rfl ?_
              refine rn_iret rfl (Or.inl rfl) ?_
              exfalso; omega
          · exfalso; omega
        · exfalso; omega
      · refine rn_callP (k' := 9) (y := 167) (vs := [mI (a1), mI (0), mI (4)]) (S' := [mR 118]) (v := some (mI 0)) (h' := mkh μ c s) rfl rfl rfl (by have hz : Cl PT 167 [mI (a1), mI (0), mI (4)] (mkh μ c s) (fun r => r = (some (some (mI (if 0 ≤ a1 ∧ a1 ≤ 4 then 1 else 0))), mkh μ c s)) := c_X12_isIn (v := a1) (lo := 0) (hi := 4) (μ := μ) (c := c) (s := s); rw [if_neg hq3] at hz; exact hz) ?_
        show Rn PT none kX12_herd 9 [some (mR 118), some (mI (a0)), some (mI (a1))] [mI (0), mR 118] (mkh μ c s) _
        refine rn_if_ne (k' := 10) rfl rfl (fun hc14 => ?_) (fun hc14 => ?_)
        · exfalso; omega
        · skip
          refine rn_iconst (k' := 11) rfl rfl ?_
          refine rn_goto rfl ?_
          refine rn_callP (k' := 14) (y := 162) (vs := [mR 118, mI (1)]) (S' := []) (v := some (mI (1))) (h' := mkh (m_set μ 118 0 (1)) c s) rfl rfl rfl (c_X12_throwsIf (by omega)) ?_
          show Rn PT none kX12_herd 14 [some (mR 118), some (mI (a0)), some (mI (a1))] [mI (1)] (mkh (m_set μ 118 0 (1)) c s) _
          refine rn_if_eq (k' := 15) rfl rfl (fun hc15 => ?_) (fun hc15 => ?_)
          · exfalso; omega
          · skip
            refine rn_iconst (k' := 16) rfl rfl ?_
            refine rn_iret rfl (Or.inl rfl) ?_
            refine ⟨(m_set μ 118 0 (1)), ?_, (rst_set (a := 118) (j := 0) rfl), rfl, rfl⟩
            first | rfl | (refine congrArg (fun z => ((some (some (mI z)) : Option (Option MV)), mkh (m_set μ 118 0 (1)) c s)) ?_; first | rfl | omega | (symm; first | (rw [if_pos (by omega)]; first | done | rfl | omega) | (rw [if_neg (by omega)]; first | done | rfl | omega)) | (symm; unfold g_tim; first | (rw [if_pos (by omega)]; first | done | rfl | omega) | (rw [if_neg (by omega)]; first | done | rfl | omega)) | (symm; unfold g_st; first | (rw [if_pos (by omega)]; first | done | rfl | omega) | (rw [if_neg (by omega)]; first | done | rfl | omega)) | (symm; unfold g_dep; first | (rw [if_pos (by omega)]; first | done | rfl | omega) | (rw [if_neg (by omega)]; first | done | rfl | omega)) | (symm; unfold g_nb; first | (rw [if_pos (by omega)]; first | done | rfl | omega) | (rw [if_neg (by omega)]; first | done | rfl | omega)) | ((try unfold g_st); (try unfold g_dep); (try unfold g_nb); (repeat' split) <;> omega) | (symm; (repeat (first | rw [if_pos (by omega)] | rw [if_neg (by omega)])); first | done | rfl | omega))
  · refine rn_callP (k' := 4) (y := 193) (vs := [mR 118, mI (a0)]) (S' := [mR 118]) (v := some (mI 0)) (h' := mkh μ c s) rfl rfl rfl (by have hz : Cl PT 193 [mR 118, mI (a0)] (mkh μ c s) (fun r => r = (some (some (mI (if 0 ≤ a0 ∧ a0 < μ 6 13 then 1 else 0))), mkh μ c s)) := c_X12_isHerd (hL) (a := a0) (μ := μ) (c := c) (s := s); rw [if_neg hq1] at hz; exact hz) ?_
    show Rn PT none kX12_herd 4 [some (mR 118), some (mI (a0)), some (mI (a1))] [mI (0), mR 118] (mkh μ c s) _
    refine rn_if_eq (k' := 5) rfl rfl (fun hc16 => ?_) (fun hc16 => ?_)
    · skip
      refine rn_iconst (k' := 11) rfl rfl ?_
      refine rn_goto rfl ?_
      refine rn_callP (k' := 14) (y := 162) (vs := [mR 118, mI (1)]) (S' := []) (v := some (mI (1))) (h' := mkh (m_set μ 118 0 (1)) c s) rfl rfl rfl (c_X12_throwsIf (by omega)) ?_
      show Rn PT none kX12_herd 14 [some (mR 118), some (mI (a0)), some (mI (a1))] [mI (1)] (mkh (m_set μ 118 0 (1)) c s) _
      refine rn_if_eq (k' := 15) rfl rfl (fun hc17 => ?_) (fun hc17 => ?_)
      · exfalso; omega
      · skip
        refine rn_iconst (k' := 16) rfl rfl ?_
        refine rn_iret rfl (Or.inl rfl) ?_
        refine ⟨(m_set μ 118 0 (1)), ?_, (rst_set (a := 118) (j := 0) rfl), rfl, rfl⟩
        first | rfl | (refine congrArg (fun z => ((some (some (mI z)) : Option (Option MV)), mkh (m_set μ 118 0 (1)) c s)) ?_; first | rfl | omega | (symm; first | (rw [if_pos (by omega)]; first | done | rfl | omega) | (rw [if_neg (by omega)]; first | done | rfl | omega)) | (symm; unfold g_tim; first | (rw [if_pos (by omega)]; first | done | rfl | omega) | (rw [if_neg (by omega)]; first | done | rfl | omega)) | (symm; unfold g_st; first | (rw [if_pos (by omega)]; first | done | rfl | omega) | (rw [if_neg (by omega)]; first | done | rfl | omega)) | (symm; unfold g_dep; first | (rw [if_pos (by omega)]; first | done | rfl | omega) | (rw [if_neg (by omega)]; first | done | rfl | omega)) | (symm; unfold g_nb; first | (rw [if_pos (by omega)]; first | done | rfl | omega) | (rw [if_neg (by omega)]; first | done | rfl | omega)) | ((try unfold g_st); (try unfold g_dep); (try unfold g_nb); (repeat' split) <;> omega) | (symm; (repeat (first | rw [if_pos (by omega)] | rw [if_neg (by omega)])); first | done | rfl | omega))
    · exfalso; omega
theorem pair_5 : ∀ (a0 a1 : Int), i32 a0 → i32 a1 → PairX (Inv N) 107 205 [mI a0, mI a1] := by
  intro a0 a1 h0 h1
  exact pairx_of (fun ν => (0 ≤ a0 ∧ a0 < ν 6 13) ∧ 0 ≤ a1 ∧ a1 ≤ 4) (fun ν => if a1 = 0 then ν 15 a0.toNat else if a1 = 1 then ν 16 a0.toNat else if a1 = 2 then g_st ν (ν 16 a0.toNat) else if a1 = 3 then g_tim ν (g_st ν (ν 16 a0.toNat)) else ν 7 (ν 15 a0.toNat).toNat + g_st ν (ν 16 a0.toNat)) (fun μ c s hI hv => x_X11_herd hI.land hI.scene h0 h1 hv) (fun μ c s hI hv => n_X11_herd hI.land hI.scene h0 h1 hv) (fun μ c s hI hv => x_X12_herd hI.land hI.scene h0 h1 hv) (fun μ c s hI hv => n_X12_herd hI.land hI.scene h0 h1 hv) (fun μ ν h => by show (fun ν => if a1 = 0 then ν 15 a0.toNat else if a1 = 1 then ν 16 a0.toNat else if a1 = 2 then g_st ν (ν 16 a0.toNat) else if a1 = 3 then g_tim ν (g_st ν (ν 16 a0.toNat)) else ν 7 (ν 15 a0.toNat).toNat + g_st ν (ν 16 a0.toNat)) (rst ν) = (fun ν => if a1 = 0 then ν 15 a0.toNat else if a1 = 1 then ν 16 a0.toNat else if a1 = 2 then g_st ν (ν 16 a0.toNat) else if a1 = 3 then g_tim ν (g_st ν (ν 16 a0.toNat)) else ν 7 (ν 15 a0.toNat).toNat + g_st ν (ν 16 a0.toNat)) (rst μ); rw [h]) (fun μ ν h hv => by show (fun ν => (0 ≤ a0 ∧ a0 < ν 6 13) ∧ 0 ≤ a1 ∧ a1 ≤ 4) (rst ν); rw [h]; exact hv)
theorem fO_pos {p : Nat → Prop} [DecidablePred p] {n : Nat} (h : p n) : fO p (n + 1) = m_or (fO p n) (m_shl 1 n) := by
  show (if p n then _ else _) = _
  rw [if_pos h]
theorem fO_neg {p : Nat → Prop} [DecidablePred p] {n : Nat} (h : ¬ p n) : fO p (n + 1) = fO p n := by
  show (if p n then _ else _) = _
  rw [if_neg h]
set_option maxHeartbeats 4000000 in
theorem l_X11_herdsOn {μ : Nat → Nat → Int} {c s : Nat} (hL : I_land μ) (hS : I_scene μ) {a : Int} : ∀ (d n : Nat) (k : Int) (acc : Int), k = (n : Int) → acc = fO (fun n => μ 15 n = a) n → (n : Int) + d = μ 6 13 → Rn PT none kX11_herdsOn 4 [some (mR 0), some (mI (a)), some (mI (acc)), some (mI (k))] [] (mkh μ c s) (fun r => r = (some (some (mI (fO (fun n => μ 15 n = a) (μ 6 13).toNat))), mkh (μ) c s)) := by
  have hL_ := hL
  obtain ⟨lc, lr, le, lm, lw, lh, lwo, lwd, q0, q1, q2, q3, q4, q8, q499, q500, lth, lG, lT, lW, -⟩ := hL_
  have hS_ := hS
  obtain ⟨sd, sw, stk, s4, s5, s6, hC, hH, -, s10, sce, swc, s13⟩ := hS_
  intro d
  induction d with
  | zero =>
    intro n k acc  ek eacc hn
    subst ek eacc
    refine rn_iload_n (k' := 5) rfl rfl rfl ?_
    refine rn_aload_n (k' := 6) rfl rfl rfl ?_
    refine rn_getR (k' := 7) rfl rfl K0_0 (by decide) rfl R0_0_3 ?_
    refine rn_getI (k' := 8) rfl rfl K0_6 (by decide) rfl ?_
    refine rn_icmp_ge (k' := 9) rfl rfl (fun hc1 => ?_) (fun hc1 => ?_)
    · skip
      refine rn_iload_n (k' := 25) rfl rfl rfl ?_
      refine rn_iret rfl (Or.inl rfl) ?_
      rw [show (μ 6 13).toNat = n by omega]
    · exfalso; omega
  | succ d ih =>
    intro n k acc  ek eacc hn
    subst ek eacc
    refine rn_iload_n (k' := 5) rfl rfl rfl ?_
    refine rn_aload_n (k' := 6) rfl rfl rfl ?_
    refine rn_getR (k' := 7) rfl rfl K0_0 (by decide) rfl R0_0_3 ?_
    refine rn_getI (k' := 8) rfl rfl K0_6 (by decide) rfl ?_
    refine rn_icmp_ge (k' := 9) rfl rfl (fun hc1 => ?_) (fun hc1 => ?_)
    · exfalso; omega
    · skip
      refine rn_aload_n (k' := 10) rfl rfl rfl ?_
      refine rn_getR (k' := 11) rfl rfl K0_0 (by decide) rfl R0_0_4 ?_
      refine rn_getR (k' := 12) rfl rfl K0_14 (by decide) rfl R0_14_1 ?_
      refine rn_iload_n (k' := 13) rfl rfl rfl ?_
      refine rn_iaload (k' := 14) rfl rfl K0_15 (by omega) (by omega) ?_
      show Rn PT none kX11_herdsOn 14 [some (mR 0), some (mI (a)), some (mI (fO (fun n => μ 15 n = a) n)), some (mI ((n : Int)))] [mI (μ 15 (n))] (mkh μ c s) _
      have hb2 := hC n
      refine rn_iload_n (k' := 15) rfl rfl rfl ?_
      refine rn_icmp_ne (k' := 16) rfl rfl (fun hc3 => ?_) (fun hc3 => ?_)
      · skip
        refine rn_iinc (k' := 23) (L' := [some (mR 0), some (mI (a)), some (mI (fO (fun n => μ 15 n = a) n)), some (mI ((n : Int) + 1))]) rfl rfl rfl (by omega) rfl ?_
        refine rn_goto rfl ?_
        exact ih (n + 1) _ _ (by omega) (by first | exact (fO_pos (by omega)).symm | exact (fO_neg (by omega)).symm) (by omega)
      · skip
        refine rn_iload_n (k' := 17) rfl rfl rfl ?_
        refine rn_iconst (k' := 18) rfl rfl ?_
        refine rn_iload_n (k' := 19) rfl rfl rfl ?_
        refine rn_ishl (k' := 20) rfl rfl ?_
        refine rn_ior (k' := 21) rfl rfl ?_
        refine rn_istore_n (k' := 22) (L' := [some (mR 0), some (mI (a)), some (mI (m_or (fO (fun n => μ 15 n = a) n) (m_shl (1) ((n : Int))))), some (mI ((n : Int)))]) rfl rfl (Nat.le_of_ble_eq_true rfl) rfl ?_
        refine rn_iinc (k' := 23) (L' := [some (mR 0), some (mI (a)), some (mI (m_or (fO (fun n => μ 15 n = a) n) (m_shl (1) ((n : Int))))), some (mI ((n : Int) + 1))]) rfl rfl rfl (by omega) rfl ?_
        refine rn_goto rfl ?_
        exact ih (n + 1) _ _ (by omega) (by first | exact (fO_pos (by omega)).symm | exact (fO_neg (by omega)).symm) (by omega)
set_option maxHeartbeats 2000000 in
theorem c_X11_herdsOn {μ : Nat → Nat → Int} {c s : Nat} (hL : I_land μ) (hS : I_scene μ) {a : Int} : Cl PT 158 [mR 0, mI a] (mkh μ c s) (fun r => r = (some (some (mI (fO (fun n => μ 15 n = a) (μ 6 13).toNat))), mkh (μ) c s)) := by
  have hL_ := hL
  obtain ⟨lc, lr, le, lm, lw, lh, lwo, lwd, q0, q1, q2, q3, q4, q8, q499, q500, lth, lG, lT, lW, -⟩ := hL_
  have hS_ := hS
  obtain ⟨sd, sw, stk, s4, s5, s6, hC, hH, -, s10, sce, swc, s13⟩ := hS_
  refine ⟨_, PT_158, Nat.le_of_ble_eq_true rfl, ?_⟩
  show Rn PT none kX11_herdsOn 0 [some (mR 0), some (mI (a)), none, none] [] (mkh μ c s) _
  refine rn_iconst (k' := 1) rfl rfl ?_
  refine rn_istore_n (k' := 2) (L' := [some (mR 0), some (mI (a)), some (mI (0)), none]) rfl rfl (Nat.le_of_ble_eq_true rfl) rfl ?_
  refine rn_iconst (k' := 3) rfl rfl ?_
  refine rn_istore_n (k' := 4) (L' := [some (mR 0), some (mI (a)), some (mI (0)), some (mI (0))]) rfl rfl (Nat.le_of_ble_eq_true rfl) rfl ?_
  exact l_X11_herdsOn hL hS (μ 6 13).toNat 0 _ _ rfl rfl (by omega)
set_option maxHeartbeats 4000000 in
theorem l_X12_cell {μ : Nat → Nat → Int} {c s : Nat} (hL : I_land μ) (hS : I_scene μ) {a0 a1 : Int} (h0 : i32 a0) (h1 : i32 a1) (hv : g_cell μ a0 ∧ 0 ≤ a1 ∧ a1 ≤ 5) : ∀ (d n : Nat) (k : Int) (acc : Int), k = (n : Int) → acc = fO (fun n => μ 15 n = a0) n → (n : Int) + d = μ 6 13 → Rn PT none kX12_cell 27 [some (mR 118), some (mI (a0)), some (mI (a1)), some (mI (acc)), some (mI (k))] [] (mkh (m_set (m_set (m_set μ 118 0 (0)) 118 22 (g_w μ 0 (μ 14 0))) 118 23 (g_w μ 1 (μ 14 0))) c s) (fun r => ∃ μ1, r = (some (some (mI (if a1 = 0 then μ 7 a0.toNat else if a1 = 1 then g_dep μ a0 (g_w μ 0 (μ 14 0)) else if a1 = 2 then μ 8 a0.toNat else if a1 = 3 then μ 8 (100 + a0).toNat else if a1 = 4 then fO (fun n => μ 15 n = a0) (μ 6 13).toNat else if μ 14 3 = a0 then 1 else 0))), mkh μ1 c s) ∧ rst μ1 = rst μ ∧ μ1 118 0 = 0 ∧ μ1 141 0 = μ 141 0) := by
  have hL_ := hL
  obtain ⟨lc, lr, le, lm, lw, lh, lwo, lwd, q0, q1, q2, q3, q4, q8, q499, q500, lth, lG, lT, lW, -⟩ := hL_
  have hS_ := hS
  obtain ⟨sd, sw, stk, s4, s5, s6, hC, hH, -, s10, sce, swc, s13⟩ := hS_
  have hgc : g_cell μ a0 → 0 ≤ a0 ∧ a0 < 100 := fun z => g_cell_b hL z
  have hwb := g_w_b hL 0 (μ 14 0)
  intro d
  induction d with
  | zero =>
    intro n k acc  ek eacc hn
    subst ek eacc
    refine rn_iload (k' := 28) rfl rfl rfl ?_
    refine rn_aload_n (k' := 29) rfl rfl rfl ?_
    refine rn_getR (k' := 30) rfl rfl K0_118 (by decide) rfl R0_118_6 ?_
    refine rn_bipush (k' := 31) rfl rfl ?_
    refine rn_iaload (k' := 32) rfl rfl K0_120 (by omega) (by omega) ?_
    show Rn PT none kX12_cell 32 [some (mR 118), some (mI (a0)), some (mI (a1)), some (mI (fO (fun n => μ 15 n = a0) n)), some (mI ((n : Int)))] [mI (μ 120 8), mI ((n : Int))] (mkh (m_set (m_set (m_set μ 118 0 (0)) 118 22 (g_w μ 0 (μ 14 0))) 118 23 (g_w μ 1 (μ 14 0))) c s) _
    rw [q8]
    refine rn_icmp_ge (k' := 33) rfl rfl (fun hc1 => ?_) (fun hc1 => ?_)
    · skip
      refine rn_iload_n (k' := 50) rfl rfl rfl ?_
      rcases (show (a1 < 0 ∨ 4 < a1) ∨ a1 = 0 ∨ a1 = 1 ∨ a1 = 2 ∨ a1 = 3 ∨ a1 = 4 by omega) with hs2 | hs2 | hs2 | hs2 | hs2 | hs2
      · refine rn_swO rfl hs2 ?_
        refine rn_aload_n (k' := 83) rfl rfl rfl ?_
        refine rn_getR (k' := 84) rfl rfl K0_118 (by decide) rfl R0_118_6 ?_
        refine rn_sipush (k' := 85) rfl rfl ?_
        refine rn_iaload (k' := 86) rfl rfl K0_120 (by omega) (by omega) ?_
        show Rn PT none kX12_cell 86 [some (mR 118), some (mI (a0)), some (mI (a1)), some (mI (fO (fun n => μ 15 n = a0) n)), some (mI ((n : Int)))] [mI (μ 120 499)] (mkh (m_set (m_set (m_set μ 118 0 (0)) 118 22 (g_w μ 0 (μ 14 0))) 118 23 (g_w μ 1 (μ 14 0))) c s) _
        rw [q499]
        refine rn_if_le (k' := 87) rfl rfl (fun hc3 => ?_) (fun hc3 => ?_)
        · skip
          refine rn_iconst (k' := 96) rfl rfl ?_
          refine rn_iret rfl (Or.inl rfl) ?_
          have hnn : (μ 6 13).toNat = n := by omega
          refine ⟨(m_set (m_set (m_set μ 118 0 (0)) 118 22 (g_w μ 0 (μ 14 0))) 118 23 (g_w μ 1 (μ 14 0))), ?_, ((rst_set (a := 118) (j := 23) rfl).trans ((rst_set (a := 118) (j := 22) rfl).trans (rst_set (a := 118) (j := 0) rfl))), rfl, rfl⟩
          rw [hnn]
          first | rfl | (refine congrArg (fun z => ((some (some (mI z)) : Option (Option MV)), mkh (m_set (m_set (m_set μ 118 0 (0)) 118 22 (g_w μ 0 (μ 14 0))) 118 23 (g_w μ 1 (μ 14 0))) c s)) ?_; first | rfl | omega | (symm; first | (rw [if_pos (by omega)]; first | done | rfl | omega) | (rw [if_neg (by omega)]; first | done | rfl | omega)) | (symm; unfold g_tim; first | (rw [if_pos (by omega)]; first | done | rfl | omega) | (rw [if_neg (by omega)]; first | done | rfl | omega)) | (symm; unfold g_st; first | (rw [if_pos (by omega)]; first | done | rfl | omega) | (rw [if_neg (by omega)]; first | done | rfl | omega)) | (symm; unfold g_dep; first | (rw [if_pos (by omega)]; first | done | rfl | omega) | (rw [if_neg (by omega)]; first | done | rfl | omega)) | (symm; unfold g_nb; first | (rw [if_pos (by omega)]; first | done | rfl | omega) | (rw [if_neg (by omega)]; first | done | rfl | omega)) | ((try unfold g_st); (try unfold g_dep); (try unfold g_nb); (repeat' split) <;> omega) | (symm; (repeat (first | rw [if_pos (by omega)] | rw [if_neg (by omega)])); first | done | rfl | omega))
        · skip
          refine rn_aload_n (k' := 88) rfl rfl rfl ?_
          refine rn_getR (k' := 89) rfl rfl K0_118 (by decide) rfl R0_118_6 ?_
          refine rn_sipush (k' := 90) rfl rfl ?_
          refine rn_iaload (k' := 91) rfl rfl K0_120 (by omega) (by omega) ?_
          show Rn PT none kX12_cell 91 [some (mR 118), some (mI (a0)), some (mI (a1)), some (mI (fO (fun n => μ 15 n = a0) n)), some (mI ((n : Int)))] [mI (μ 120 534)] (mkh (m_set (m_set (m_set μ 118 0 (0)) 118 22 (g_w μ 0 (μ 14 0))) 118 23 (g_w μ 1 (μ 14 0))) c s) _
          rw [(s5 (by omega))]
          refine rn_iload_n (k' := 92) rfl rfl rfl ?_
          refine rn_icmp_ne (k' := 93) rfl rfl (fun hc4 => ?_) (fun hc4 => ?_)
          · skip
            refine rn_iconst (k' := 96) rfl rfl ?_
            refine rn_iret rfl (Or.inl rfl) ?_
            have hnn : (μ 6 13).toNat = n := by omega
            refine ⟨(m_set (m_set (m_set μ 118 0 (0)) 118 22 (g_w μ 0 (μ 14 0))) 118 23 (g_w μ 1 (μ 14 0))), ?_, ((rst_set (a := 118) (j := 23) rfl).trans ((rst_set (a := 118) (j := 22) rfl).trans (rst_set (a := 118) (j := 0) rfl))), rfl, rfl⟩
            rw [hnn]
            first | rfl | (refine congrArg (fun z => ((some (some (mI z)) : Option (Option MV)), mkh (m_set (m_set (m_set μ 118 0 (0)) 118 22 (g_w μ 0 (μ 14 0))) 118 23 (g_w μ 1 (μ 14 0))) c s)) ?_; first | rfl | omega | (symm; first | (rw [if_pos (by omega)]; first | done | rfl | omega) | (rw [if_neg (by omega)]; first | done | rfl | omega)) | (symm; unfold g_tim; first | (rw [if_pos (by omega)]; first | done | rfl | omega) | (rw [if_neg (by omega)]; first | done | rfl | omega)) | (symm; unfold g_st; first | (rw [if_pos (by omega)]; first | done | rfl | omega) | (rw [if_neg (by omega)]; first | done | rfl | omega)) | (symm; unfold g_dep; first | (rw [if_pos (by omega)]; first | done | rfl | omega) | (rw [if_neg (by omega)]; first | done | rfl | omega)) | (symm; unfold g_nb; first | (rw [if_pos (by omega)]; first | done | rfl | omega) | (rw [if_neg (by omega)]; first | done | rfl | omega)) | ((try unfold g_st); (try unfold g_dep); (try unfold g_nb); (repeat' split) <;> omega) | (symm; (repeat (first | rw [if_pos (by omega)] | rw [if_neg (by omega)])); first | done | rfl | omega))
          · skip
            refine rn_iconst (k' := 94) rfl rfl ?_
            refine rn_goto rfl ?_
            refine rn_iret rfl (Or.inl rfl) ?_
            have hnn : (μ 6 13).toNat = n := by omega
            refine ⟨(m_set (m_set (m_set μ 118 0 (0)) 118 22 (g_w μ 0 (μ 14 0))) 118 23 (g_w μ 1 (μ 14 0))), ?_, ((rst_set (a := 118) (j := 23) rfl).trans ((rst_set (a := 118) (j := 22) rfl).trans (rst_set (a := 118) (j := 0) rfl))), rfl, rfl⟩
            rw [hnn]
            first | rfl | (refine congrArg (fun z => ((some (some (mI z)) : Option (Option MV)), mkh (m_set (m_set (m_set μ 118 0 (0)) 118 22 (g_w μ 0 (μ 14 0))) 118 23 (g_w μ 1 (μ 14 0))) c s)) ?_; first | rfl | omega | (symm; first | (rw [if_pos (by omega)]; first | done | rfl | omega) | (rw [if_neg (by omega)]; first | done | rfl | omega)) | (symm; unfold g_tim; first | (rw [if_pos (by omega)]; first | done | rfl | omega) | (rw [if_neg (by omega)]; first | done | rfl | omega)) | (symm; unfold g_st; first | (rw [if_pos (by omega)]; first | done | rfl | omega) | (rw [if_neg (by omega)]; first | done | rfl | omega)) | (symm; unfold g_dep; first | (rw [if_pos (by omega)]; first | done | rfl | omega) | (rw [if_neg (by omega)]; first | done | rfl | omega)) | (symm; unfold g_nb; first | (rw [if_pos (by omega)]; first | done | rfl | omega) | (rw [if_neg (by omega)]; first | done | rfl | omega)) | ((try unfold g_st); (try unfold g_dep); (try unfold g_nb); (repeat' split) <;> omega) | (symm; (repeat (first | rw [if_pos (by omega)] | rw [if_neg (by omega)])); first | done | rfl | omega))
      · refine rn_swI (j := 0) (t' := 51) rfl (by omega) rfl ?_
        refine rn_aload_n (k' := 52) rfl rfl rfl ?_
        refine rn_getR (k' := 53) rfl rfl K0_118 (by decide) rfl R0_118_6 ?_
        refine rn_bipush (k' := 54) rfl rfl ?_
        refine rn_iload_n (k' := 55) rfl rfl rfl ?_
        refine rn_iadd (k' := 56) rfl rfl (by omega) ?_
        refine rn_iaload (k' := 57) rfl rfl K0_120 (by omega) (by omega) ?_
        show Rn PT none kX12_cell 57 [some (mR 118), some (mI (a0)), some (mI (a1)), some (mI (fO (fun n => μ 15 n = a0) n)), some (mI ((n : Int)))] [mI (μ 120 ((9 + a0).toNat))] (mkh (m_set (m_set (m_set μ 118 0 (0)) 118 22 (g_w μ 0 (μ 14 0))) 118 23 (g_w μ 1 (μ 14 0))) c s) _
        rw [(v_g hL (a := a0) (by first | assumption | omega)).1]
        have hb5 := (v_g hL (a := a0) (by first | assumption | omega)).2
        refine rn_iret rfl (Or.inl rfl) ?_
        have hnn : (μ 6 13).toNat = n := by omega
        refine ⟨(m_set (m_set (m_set μ 118 0 (0)) 118 22 (g_w μ 0 (μ 14 0))) 118 23 (g_w μ 1 (μ 14 0))), ?_, ((rst_set (a := 118) (j := 23) rfl).trans ((rst_set (a := 118) (j := 22) rfl).trans (rst_set (a := 118) (j := 0) rfl))), rfl, rfl⟩
        rw [hnn]
        first | rfl | (refine congrArg (fun z => ((some (some (mI z)) : Option (Option MV)), mkh (m_set (m_set (m_set μ 118 0 (0)) 118 22 (g_w μ 0 (μ 14 0))) 118 23 (g_w μ 1 (μ 14 0))) c s)) ?_; first | rfl | omega | (symm; first | (rw [if_pos (by omega)]; first | done | rfl | omega) | (rw [if_neg (by omega)]; first | done | rfl | omega)) | (symm; unfold g_tim; first | (rw [if_pos (by omega)]; first | done | rfl | omega) | (rw [if_neg (by omega)]; first | done | rfl | omega)) | (symm; unfold g_st; first | (rw [if_pos (by omega)]; first | done | rfl | omega) | (rw [if_neg (by omega)]; first | done | rfl | omega)) | (symm; unfold g_dep; first | (rw [if_pos (by omega)]; first | done | rfl | omega) | (rw [if_neg (by omega)]; first | done | rfl | omega)) | (symm; unfold g_nb; first | (rw [if_pos (by omega)]; first | done | rfl | omega) | (rw [if_neg (by omega)]; first | done | rfl | omega)) | ((try unfold g_st); (try unfold g_dep); (try unfold g_nb); (repeat' split) <;> omega) | (symm; (repeat (first | rw [if_pos (by omega)] | rw [if_neg (by omega)])); first | done | rfl | omega))
      · refine rn_swI (j := 1) (t' := 58) rfl (by omega) rfl ?_
        refine rn_aload_n (k' := 59) rfl rfl rfl ?_
        refine rn_iload_n (k' := 60) rfl rfl rfl ?_
        refine rn_callP (k' := 61) (y := 202) (vs := [mR 118, mI (a0)]) (S' := []) (v := some (mI (g_dep μ a0 (g_w μ 0 (μ 14 0))))) (h' := mkh (m_set (m_set (m_set μ 118 0 (0)) 118 22 (g_w μ 0 (μ 14 0))) 118 23 (g_w μ 1 (μ 14 0))) c s) rfl rfl rfl (c_X12_depthOf ((((hL).set rfl).set rfl).set rfl) (by show 0 ≤ g_w μ 0 (μ 14 0) ∧ g_w μ 0 (μ 14 0) ≤ 1000; omega) (by show g_cell μ (a0); first | assumption | omega)) ?_
        show Rn PT none kX12_cell 61 [some (mR 118), some (mI (a0)), some (mI (a1)), some (mI (fO (fun n => μ 15 n = a0) n)), some (mI ((n : Int)))] [mI (g_dep μ a0 (g_w μ 0 (μ 14 0)))] (mkh (m_set (m_set (m_set μ 118 0 (0)) 118 22 (g_w μ 0 (μ 14 0))) 118 23 (g_w μ 1 (μ 14 0))) c s) _
        refine rn_iret rfl (Or.inl rfl) ?_
        have hnn : (μ 6 13).toNat = n := by omega
        refine ⟨(m_set (m_set (m_set μ 118 0 (0)) 118 22 (g_w μ 0 (μ 14 0))) 118 23 (g_w μ 1 (μ 14 0))), ?_, ((rst_set (a := 118) (j := 23) rfl).trans ((rst_set (a := 118) (j := 22) rfl).trans (rst_set (a := 118) (j := 0) rfl))), rfl, rfl⟩
        rw [hnn]
        first | rfl | (refine congrArg (fun z => ((some (some (mI z)) : Option (Option MV)), mkh (m_set (m_set (m_set μ 118 0 (0)) 118 22 (g_w μ 0 (μ 14 0))) 118 23 (g_w μ 1 (μ 14 0))) c s)) ?_; first | rfl | omega | (symm; first | (rw [if_pos (by omega)]; first | done | rfl | omega) | (rw [if_neg (by omega)]; first | done | rfl | omega)) | (symm; unfold g_tim; first | (rw [if_pos (by omega)]; first | done | rfl | omega) | (rw [if_neg (by omega)]; first | done | rfl | omega)) | (symm; unfold g_st; first | (rw [if_pos (by omega)]; first | done | rfl | omega) | (rw [if_neg (by omega)]; first | done | rfl | omega)) | (symm; unfold g_dep; first | (rw [if_pos (by omega)]; first | done | rfl | omega) | (rw [if_neg (by omega)]; first | done | rfl | omega)) | (symm; unfold g_nb; first | (rw [if_pos (by omega)]; first | done | rfl | omega) | (rw [if_neg (by omega)]; first | done | rfl | omega)) | ((try unfold g_st); (try unfold g_dep); (try unfold g_nb); (repeat' split) <;> omega) | (symm; (repeat (first | rw [if_pos (by omega)] | rw [if_neg (by omega)])); first | done | rfl | omega))
      · refine rn_swI (j := 2) (t' := 62) rfl (by omega) rfl ?_
        refine rn_aload_n (k' := 63) rfl rfl rfl ?_
        refine rn_getR (k' := 64) rfl rfl K0_118 (by decide) rfl R0_118_6 ?_
        refine rn_bipush (k' := 65) rfl rfl ?_
        refine rn_iload_n (k' := 66) rfl rfl rfl ?_
        refine rn_iadd (k' := 67) rfl rfl (by omega) ?_
        refine rn_iaload (k' := 68) rfl rfl K0_120 (by omega) (by omega) ?_
        show Rn PT none kX12_cell 68 [some (mR 118), some (mI (a0)), some (mI (a1)), some (mI (fO (fun n => μ 15 n = a0) n)), some (mI ((n : Int)))] [mI (μ 120 ((109 + a0).toNat))] (mkh (m_set (m_set (m_set μ 118 0 (0)) 118 22 (g_w μ 0 (μ 14 0))) 118 23 (g_w μ 1 (μ 14 0))) c s) _
        rw [(v_d hL (a := a0) (by omega)).1]
        have hb6 := (v_d hL (a := a0) (by omega)).2
        refine rn_iconst (k' := 69) rfl rfl ?_
        refine rn_isub (k' := 70) rfl rfl (by omega) ?_
        refine rn_iret rfl (Or.inl rfl) ?_
        have hnn : (μ 6 13).toNat = n := by omega
        refine ⟨(m_set (m_set (m_set μ 118 0 (0)) 118 22 (g_w μ 0 (μ 14 0))) 118 23 (g_w μ 1 (μ 14 0))), ?_, ((rst_set (a := 118) (j := 23) rfl).trans ((rst_set (a := 118) (j := 22) rfl).trans (rst_set (a := 118) (j := 0) rfl))), rfl, rfl⟩
        rw [hnn]
        first | rfl | (refine congrArg (fun z => ((some (some (mI z)) : Option (Option MV)), mkh (m_set (m_set (m_set μ 118 0 (0)) 118 22 (g_w μ 0 (μ 14 0))) 118 23 (g_w μ 1 (μ 14 0))) c s)) ?_; first | rfl | omega | (symm; first | (rw [if_pos (by omega)]; first | done | rfl | omega) | (rw [if_neg (by omega)]; first | done | rfl | omega)) | (symm; unfold g_tim; first | (rw [if_pos (by omega)]; first | done | rfl | omega) | (rw [if_neg (by omega)]; first | done | rfl | omega)) | (symm; unfold g_st; first | (rw [if_pos (by omega)]; first | done | rfl | omega) | (rw [if_neg (by omega)]; first | done | rfl | omega)) | (symm; unfold g_dep; first | (rw [if_pos (by omega)]; first | done | rfl | omega) | (rw [if_neg (by omega)]; first | done | rfl | omega)) | (symm; unfold g_nb; first | (rw [if_pos (by omega)]; first | done | rfl | omega) | (rw [if_neg (by omega)]; first | done | rfl | omega)) | ((try unfold g_st); (try unfold g_dep); (try unfold g_nb); (repeat' split) <;> omega) | (symm; (repeat (first | rw [if_pos (by omega)] | rw [if_neg (by omega)])); first | done | rfl | omega))
      · refine rn_swI (j := 3) (t' := 71) rfl (by omega) rfl ?_
        refine rn_aload_n (k' := 72) rfl rfl rfl ?_
        refine rn_getR (k' := 73) rfl rfl K0_118 (by decide) rfl R0_118_6 ?_
        refine rn_sipush (k' := 74) rfl rfl ?_
        refine rn_iload_n (k' := 75) rfl rfl rfl ?_
        refine rn_iadd (k' := 76) rfl rfl (by omega) ?_
        refine rn_iaload (k' := 77) rfl rfl K0_120 (by omega) (by omega) ?_
        show Rn PT none kX12_cell 77 [some (mR 118), some (mI (a0)), some (mI (a1)), some (mI (fO (fun n => μ 15 n = a0) n)), some (mI ((n : Int)))] [mI (μ 120 ((209 + a0).toNat))] (mkh (m_set (m_set (m_set μ 118 0 (0)) 118 22 (g_w μ 0 (μ 14 0))) 118 23 (g_w μ 1 (μ 14 0))) c s) _
        rw [(v_m hL (a := a0) (by omega)).1]
        have hb7 := (v_m hL (a := a0) (by omega)).2
        refine rn_iconst (k' := 78) rfl rfl ?_
        refine rn_isub (k' := 79) rfl rfl (by omega) ?_
        refine rn_iret rfl (Or.inl rfl) ?_
        have hnn : (μ 6 13).toNat = n := by omega
        refine ⟨(m_set (m_set (m_set μ 118 0 (0)) 118 22 (g_w μ 0 (μ 14 0))) 118 23 (g_w μ 1 (μ 14 0))), ?_, ((rst_set (a := 118) (j := 23) rfl).trans ((rst_set (a := 118) (j := 22) rfl).trans (rst_set (a := 118) (j := 0) rfl))), rfl, rfl⟩
        rw [hnn]
        first | rfl | (refine congrArg (fun z => ((some (some (mI z)) : Option (Option MV)), mkh (m_set (m_set (m_set μ 118 0 (0)) 118 22 (g_w μ 0 (μ 14 0))) 118 23 (g_w μ 1 (μ 14 0))) c s)) ?_; first | rfl | omega | (symm; first | (rw [if_pos (by omega)]; first | done | rfl | omega) | (rw [if_neg (by omega)]; first | done | rfl | omega)) | (symm; unfold g_tim; first | (rw [if_pos (by omega)]; first | done | rfl | omega) | (rw [if_neg (by omega)]; first | done | rfl | omega)) | (symm; unfold g_st; first | (rw [if_pos (by omega)]; first | done | rfl | omega) | (rw [if_neg (by omega)]; first | done | rfl | omega)) | (symm; unfold g_dep; first | (rw [if_pos (by omega)]; first | done | rfl | omega) | (rw [if_neg (by omega)]; first | done | rfl | omega)) | (symm; unfold g_nb; first | (rw [if_pos (by omega)]; first | done | rfl | omega) | (rw [if_neg (by omega)]; first | done | rfl | omega)) | ((try unfold g_st); (try unfold g_dep); (try unfold g_nb); (repeat' split) <;> omega) | (symm; (repeat (first | rw [if_pos (by omega)] | rw [if_neg (by omega)])); first | done | rfl | omega))
      · refine rn_swI (j := 4) (t' := 80) rfl (by omega) rfl ?_
        refine rn_iload_n (k' := 81) rfl rfl rfl ?_
        refine rn_iret rfl (Or.inl rfl) ?_
        have hnn : (μ 6 13).toNat = n := by omega
        refine ⟨(m_set (m_set (m_set μ 118 0 (0)) 118 22 (g_w μ 0 (μ 14 0))) 118 23 (g_w μ 1 (μ 14 0))), ?_, ((rst_set (a := 118) (j := 23) rfl).trans ((rst_set (a := 118) (j := 22) rfl).trans (rst_set (a := 118) (j := 0) rfl))), rfl, rfl⟩
        rw [hnn]
        first | rfl | (refine congrArg (fun z => ((some (some (mI z)) : Option (Option MV)), mkh (m_set (m_set (m_set μ 118 0 (0)) 118 22 (g_w μ 0 (μ 14 0))) 118 23 (g_w μ 1 (μ 14 0))) c s)) ?_; first | rfl | omega | (symm; first | (rw [if_pos (by omega)]; first | done | rfl | omega) | (rw [if_neg (by omega)]; first | done | rfl | omega)) | (symm; unfold g_tim; first | (rw [if_pos (by omega)]; first | done | rfl | omega) | (rw [if_neg (by omega)]; first | done | rfl | omega)) | (symm; unfold g_st; first | (rw [if_pos (by omega)]; first | done | rfl | omega) | (rw [if_neg (by omega)]; first | done | rfl | omega)) | (symm; unfold g_dep; first | (rw [if_pos (by omega)]; first | done | rfl | omega) | (rw [if_neg (by omega)]; first | done | rfl | omega)) | (symm; unfold g_nb; first | (rw [if_pos (by omega)]; first | done | rfl | omega) | (rw [if_neg (by omega)]; first | done | rfl | omega)) | ((try unfold g_st); (try unfold g_dep); (try unfold g_nb); (repeat' split) <;> omega) | (symm; (repeat (first | rw [if_pos (by omega)] | rw [if_neg (by omega)])); first | done | rfl | omega))
    · exfalso; omega
  | succ d ih =>
    intro n k acc  ek eacc hn
    subst ek eacc
    refine rn_iload (k' := 28) rfl rfl rfl ?_
    refine rn_aload_n (k' := 29) rfl rfl rfl ?_
    refine rn_getR (k' := 30) rfl rfl K0_118 (by decide) rfl R0_118_6 ?_
    refine rn_bipush (k' := 31) rfl rfl ?_
    refine rn_iaload (k' := 32) rfl rfl K0_120 (by omega) (by omega) ?_
    show Rn PT none kX12_cell 32 [some (mR 118), some (mI (a0)), some (mI (a1)), some (mI (fO (fun n => μ 15 n = a0) n)), some (mI ((n : Int)))] [mI (μ 120 8), mI ((n : Int))] (mkh (m_set (m_set (m_set μ 118 0 (0)) 118 22 (g_w μ 0 (μ 14 0))) 118 23 (g_w μ 1 (μ 14 0))) c s) _
    rw [q8]
    refine rn_icmp_ge (k' := 33) rfl rfl (fun hc1 => ?_) (fun hc1 => ?_)
    · exfalso; omega
    · skip
      refine rn_aload_n (k' := 34) rfl rfl rfl ?_
      refine rn_getR (k' := 35) rfl rfl K0_118 (by decide) rfl R0_118_6 ?_
      refine rn_sipush (k' := 36) rfl rfl ?_
      refine rn_iload (k' := 37) rfl rfl rfl ?_
      refine rn_iadd (k' := 38) rfl rfl (by omega) ?_
      refine rn_iaload (k' := 39) rfl rfl K0_120 (by omega) (by omega) ?_
      show Rn PT none kX12_cell 39 [some (mR 118), some (mI (a0)), some (mI (a1)), some (mI (fO (fun n => μ 15 n = a0) n)), some (mI ((n : Int)))] [mI (μ 120 (518 + n))] (mkh (m_set (m_set (m_set μ 118 0 (0)) 118 22 (g_w μ 0 (μ 14 0))) 118 23 (g_w μ 1 (μ 14 0))) c s) _
      rw [(v_atN hS (n := n) (by omega)).1]
      have hb2 := (v_atN hS (n := n) (by omega)).2
      refine rn_iload_n (k' := 40) rfl rfl rfl ?_
      refine rn_icmp_ne (k' := 41) rfl rfl (fun hc3 => ?_) (fun hc3 => ?_)
      · skip
        refine rn_iinc (k' := 48) (L' := [some (mR 118), some (mI (a0)), some (mI (a1)), some (mI (fO (fun n => μ 15 n = a0) n)), some (mI ((n : Int) + 1))]) rfl rfl rfl (by omega) rfl ?_
        refine rn_goto rfl ?_
        exact ih (n + 1) _ _ (by omega) (by first | exact (fO_pos (by omega)).symm | exact (fO_neg (by omega)).symm) (by omega)
      · skip
        refine rn_iload_n (k' := 42) rfl rfl rfl ?_
        refine rn_iconst (k' := 43) rfl rfl ?_
        refine rn_iload (k' := 44) rfl rfl rfl ?_
        refine rn_ishl (k' := 45) rfl rfl ?_
        refine rn_ior (k' := 46) rfl rfl ?_
        refine rn_istore_n (k' := 47) (L' := [some (mR 118), some (mI (a0)), some (mI (a1)), some (mI (m_or (fO (fun n => μ 15 n = a0) n) (m_shl (1) ((n : Int))))), some (mI ((n : Int)))]) rfl rfl (Nat.le_of_ble_eq_true rfl) rfl ?_
        refine rn_iinc (k' := 48) (L' := [some (mR 118), some (mI (a0)), some (mI (a1)), some (mI (m_or (fO (fun n => μ 15 n = a0) n) (m_shl (1) ((n : Int))))), some (mI ((n : Int) + 1))]) rfl rfl rfl (by omega) rfl ?_
        refine rn_goto rfl ?_
        exact ih (n + 1) _ _ (by omega) (by first | exact (fO_pos (by omega)).symm | exact (fO_neg (by omega)).symm) (by omega)
set_option maxHeartbeats 4000000 in
theorem x_X11_cell {μ : Nat → Nat → Int} {c s : Nat} (hL : I_land μ) (hS : I_scene μ) {a0 a1 : Int} (h0 : i32 a0) (h1 : i32 a1) (hv : g_cell μ a0 ∧ 0 ≤ a1 ∧ a1 ≤ 5) : Cl PT 106 [mR 0, mI a0, mI a1] (mkh μ c s) (fun r => r = (some (some (mI (if a1 = 0 then μ 7 a0.toNat else if a1 = 1 then g_dep μ a0 (g_w μ 0 (μ 14 0)) else if a1 = 2 then μ 8 a0.toNat else if a1 = 3 then μ 8 (100 + a0).toNat else if a1 = 4 then fO (fun n => μ 15 n = a0) (μ 6 13).toNat else if μ 14 3 = a0 then 1 else 0))), mkh μ c s)) := by
  have hL_ := hL
  obtain ⟨lc, lr, le, lm, lw, lh, lwo, lwd, q0, q1, q2, q3, q4, q8, q499, q500, lth, lG, lT, lW, -⟩ := hL_
  have hS_ := hS
  obtain ⟨sd, sw, stk, s4, s5, s6, hC, hH, -, s10, sce, swc, s13⟩ := hS_
  have hgc : g_cell μ a0 → 0 ≤ a0 ∧ a0 < 100 := fun z => g_cell_b hL z
  refine ⟨_, PT_106, Nat.le_of_ble_eq_true rfl, ?_⟩
  show Rn PT none kX11_cell 0 [some (mR 0), some (mI (a0)), some (mI (a1))] [] (mkh μ c s) _
  refine rn_aload_n (k' := 1) rfl rfl rfl ?_
  refine rn_getR (k' := 2) rfl rfl K0_0 (by decide) rfl R0_0_3 ?_
  refine rn_iload_n (k' := 3) rfl rfl rfl ?_
  by_cases hq1 : g_cell μ a0
  · refine rn_callP (k' := 4) (y := 30) (vs := [mR 6, mI (a0)]) (S' := []) (v := some (mI 1)) (h' := mkh μ c s) rfl rfl rfl (by have hz : Cl PT 30 [mR 6, mI (a0)] (mkh μ c s) (fun r => r = (some (some (mI (if g_cell μ a0 then 1 else 0))), mkh μ c s)) := k_hasCell (a := a0) (by omega) (μ := μ) (c := c) (s := s); rw [if_pos hq1] at hz; exact hz) ?_
    show Rn PT none kX11_cell 4 [some (mR 0), some (mI (a0)), some (mI (a1))] [mI (1)] (mkh μ c s) _
    refine rn_if_eq (k' := 5) rfl rfl (fun hc2 => ?_) (fun hc2 => ?_)
    · exfalso; omega
    · skip
      refine rn_iload_n (k' := 6) rfl rfl rfl ?_
      refine rn_if_lt (k' := 7) rfl rfl (fun hc3 => ?_) (fun hc3 => ?_)
      · skip
        refine rn_thr rfl ?_
        exfalso; omega
      · skip
        refine rn_iload_n (k' := 8) rfl rfl rfl ?_
        refine rn_iconst (k' := 9) rfl rfl ?_
        refine rn_icmp_le (k' := 10) rfl rfl (fun hc4 => ?_) (fun hc4 => ?_)
        · skip
          refine rn_iload_n (k' := 15) rfl rfl rfl ?_
          rcases (show (a1 < 0 ∨ 4 < a1) ∨ a1 = 0 ∨ a1 = 1 ∨ a1 = 2 ∨ a1 = 3 ∨ a1 = 4 by omega) with hs5 | hs5 | hs5 | hs5 | hs5 | hs5
          · refine rn_swO rfl hs5 ?_
            refine rn_aload_n (k' := 50) rfl rfl rfl ?_
            refine rn_getR (k' := 51) rfl rfl K0_0 (by decide) rfl R0_0_4 ?_
            refine rn_getI (k' := 52) rfl rfl K0_14 (by decide) rfl ?_
            refine rn_iload_n (k' := 53) rfl rfl rfl ?_
            refine rn_icmp_ne (k' := 54) rfl rfl (fun hc6 => ?_) (fun hc6 => ?_)
            · skip
              refine rn_iconst (k' := 57) rfl rfl ?_
              refine rn_iret rfl (Or.inl rfl) ?_
              first | rfl | (refine congrArg (fun z => ((some (some (mI z)) : Option (Option MV)), mkh μ c s)) ?_; first | rfl | omega | (symm; first | (rw [if_pos (by omega)]; first | done | rfl | omega) | (rw [if_neg (by omega)]; first | done | rfl | omega)) | (symm; unfold g_tim; first | (rw [if_pos (by omega)]; first | done | rfl | omega) | (rw [if_neg (by omega)]; first | done | rfl | omega)) | (symm; unfold g_st; first | (rw [if_pos (by omega)]; first | done | rfl | omega) | (rw [if_neg (by omega)]; first | done | rfl | omega)) | (symm; unfold g_dep; first | (rw [if_pos (by omega)]; first | done | rfl | omega) | (rw [if_neg (by omega)]; first | done | rfl | omega)) | (symm; unfold g_nb; first | (rw [if_pos (by omega)]; first | done | rfl | omega) | (rw [if_neg (by omega)]; first | done | rfl | omega)) | ((try unfold g_st); (try unfold g_dep); (try unfold g_nb); (repeat' split) <;> omega) | (symm; (repeat (first | rw [if_pos (by omega)] | rw [if_neg (by omega)])); first | done | rfl | omega))
            · skip
              refine rn_iconst (k' := 55) rfl rfl ?_
              refine rn_goto rfl ?_
              refine rn_iret rfl (Or.inl rfl) ?_
              first | rfl | (refine congrArg (fun z => ((some (some (mI z)) : Option (Option MV)), mkh μ c s)) ?_; first | rfl | omega | (symm; first | (rw [if_pos (by omega)]; first | done | rfl | omega) | (rw [if_neg (by omega)]; first | done | rfl | omega)) | (symm; unfold g_tim; first | (rw [if_pos (by omega)]; first | done | rfl | omega) | (rw [if_neg (by omega)]; first | done | rfl | omega)) | (symm; unfold g_st; first | (rw [if_pos (by omega)]; first | done | rfl | omega) | (rw [if_neg (by omega)]; first | done | rfl | omega)) | (symm; unfold g_dep; first | (rw [if_pos (by omega)]; first | done | rfl | omega) | (rw [if_neg (by omega)]; first | done | rfl | omega)) | (symm; unfold g_nb; first | (rw [if_pos (by omega)]; first | done | rfl | omega) | (rw [if_neg (by omega)]; first | done | rfl | omega)) | ((try unfold g_st); (try unfold g_dep); (try unfold g_nb); (repeat' split) <;> omega) | (symm; (repeat (first | rw [if_pos (by omega)] | rw [if_neg (by omega)])); first | done | rfl | omega))
          · refine rn_swI (j := 0) (t' := 16) rfl (by omega) rfl ?_
            refine rn_aload_n (k' := 17) rfl rfl rfl ?_
            refine rn_getR (k' := 18) rfl rfl K0_0 (by decide) rfl R0_0_3 ?_
            refine rn_getR (k' := 19) rfl rfl K0_6 (by decide) rfl R0_6_0 ?_
            refine rn_iload_n (k' := 20) rfl rfl rfl ?_
            refine rn_iaload (k' := 21) rfl rfl K0_7 (by omega) (by omega) ?_
            have hb7 := lG ((a0).toNat)
            refine rn_iret rfl (Or.inl rfl) ?_
            first | rfl | (refine congrArg (fun z => ((some (some (mI z)) : Option (Option MV)), mkh μ c s)) ?_; first | rfl | omega | (symm; first | (rw [if_pos (by omega)]; first | done | rfl | omega) | (rw [if_neg (by omega)]; first | done | rfl | omega)) | (symm; unfold g_tim; first | (rw [if_pos (by omega)]; first | done | rfl | omega) | (rw [if_neg (by omega)]; first | done | rfl | omega)) | (symm; unfold g_st; first | (rw [if_pos (by omega)]; first | done | rfl | omega) | (rw [if_neg (by omega)]; first | done | rfl | omega)) | (symm; unfold g_dep; first | (rw [if_pos (by omega)]; first | done | rfl | omega) | (rw [if_neg (by omega)]; first | done | rfl | omega)) | (symm; unfold g_nb; first | (rw [if_pos (by omega)]; first | done | rfl | omega) | (rw [if_neg (by omega)]; first | done | rfl | omega)) | ((try unfold g_st); (try unfold g_dep); (try unfold g_nb); (repeat' split) <;> omega) | (symm; (repeat (first | rw [if_pos (by omega)] | rw [if_neg (by omega)])); first | done | rfl | omega))
          · refine rn_swI (j := 1) (t' := 22) rfl (by omega) rfl ?_
            refine rn_aload_n (k' := 23) rfl rfl rfl ?_
            refine rn_getR (k' := 24) rfl rfl K0_0 (by decide) rfl R0_0_3 ?_
            refine rn_iload_n (k' := 25) rfl rfl rfl ?_
            refine rn_aload_n (k' := 26) rfl rfl rfl ?_
            have hb8 := g_w_b hL 0 (μ 14 0)
            refine rn_callP (k' := 27) (y := 156) (vs := [mR 0]) (S' := [mI (a0), mR 6]) (v := some (mI (g_w μ 0 (μ 14 0)))) (h' := mkh μ c s) rfl rfl rfl (c_X11_waterToday (hL) (by show 0 ≤ μ 14 0 ∧ μ 14 0 ≤ 29; omega)) ?_
            show Rn PT none kX11_cell 27 [some (mR 0), some (mI (a0)), some (mI (a1))] [mI (g_w μ 0 (μ 14 0)), mI (a0), mR 6] (mkh μ c s) _
            refine rn_callP (k' := 28) (y := 35) (vs := [mR 6, mI (a0), mI (g_w μ 0 (μ 14 0))]) (S' := []) (v := some (mI (g_dep μ a0 (g_w μ 0 (μ 14 0))))) (h' := mkh μ c s) rfl rfl rfl (k_depthOf (hL) (by omega) (by omega)) ?_
            show Rn PT none kX11_cell 28 [some (mR 0), some (mI (a0)), some (mI (a1))] [mI (g_dep μ a0 (g_w μ 0 (μ 14 0)))] (mkh μ c s) _
            refine rn_iret rfl (Or.inl rfl) ?_
            first | rfl | (refine congrArg (fun z => ((some (some (mI z)) : Option (Option MV)), mkh μ c s)) ?_; first | rfl | omega | (symm; first | (rw [if_pos (by omega)]; first | done | rfl | omega) | (rw [if_neg (by omega)]; first | done | rfl | omega)) | (symm; unfold g_tim; first | (rw [if_pos (by omega)]; first | done | rfl | omega) | (rw [if_neg (by omega)]; first | done | rfl | omega)) | (symm; unfold g_st; first | (rw [if_pos (by omega)]; first | done | rfl | omega) | (rw [if_neg (by omega)]; first | done | rfl | omega)) | (symm; unfold g_dep; first | (rw [if_pos (by omega)]; first | done | rfl | omega) | (rw [if_neg (by omega)]; first | done | rfl | omega)) | (symm; unfold g_nb; first | (rw [if_pos (by omega)]; first | done | rfl | omega) | (rw [if_neg (by omega)]; first | done | rfl | omega)) | ((try unfold g_st); (try unfold g_dep); (try unfold g_nb); (repeat' split) <;> omega) | (symm; (repeat (first | rw [if_pos (by omega)] | rw [if_neg (by omega)])); first | done | rfl | omega))
          · refine rn_swI (j := 2) (t' := 29) rfl (by omega) rfl ?_
            refine rn_aload_n (k' := 30) rfl rfl rfl ?_
            refine rn_getR (k' := 31) rfl rfl K0_0 (by decide) rfl R0_0_3 ?_
            refine rn_getR (k' := 32) rfl rfl K0_6 (by decide) rfl R0_6_1 ?_
            refine rn_iconst (k' := 33) rfl rfl ?_
            refine rn_iload_n (k' := 34) rfl rfl rfl ?_
            refine rn_iadd (k' := 35) rfl rfl (by omega) ?_
            rw [Int.zero_add (a0)]
            refine rn_iaload (k' := 36) rfl rfl K0_8 (by omega) (by omega) ?_
            have hb9 := lT ((a0).toNat)
            refine rn_iret rfl (Or.inl rfl) ?_
            first | rfl | (refine congrArg (fun z => ((some (some (mI z)) : Option (Option MV)), mkh μ c s)) ?_; first | rfl | omega | (symm; first | (rw [if_pos (by omega)]; first | done | rfl | omega) | (rw [if_neg (by omega)]; first | done | rfl | omega)) | (symm; unfold g_tim; first | (rw [if_pos (by omega)]; first | done | rfl | omega) | (rw [if_neg (by omega)]; first | done | rfl | omega)) | (symm; unfold g_st; first | (rw [if_pos (by omega)]; first | done | rfl | omega) | (rw [if_neg (by omega)]; first | done | rfl | omega)) | (symm; unfold g_dep; first | (rw [if_pos (by omega)]; first | done | rfl | omega) | (rw [if_neg (by omega)]; first | done | rfl | omega)) | (symm; unfold g_nb; first | (rw [if_pos (by omega)]; first | done | rfl | omega) | (rw [if_neg (by omega)]; first | done | rfl | omega)) | ((try unfold g_st); (try unfold g_dep); (try unfold g_nb); (repeat' split) <;> omega) | (symm; (repeat (first | rw [if_pos (by omega)] | rw [if_neg (by omega)])); first | done | rfl | omega))
          · refine rn_swI (j := 3) (t' := 37) rfl (by omega) rfl ?_
            refine rn_aload_n (k' := 38) rfl rfl rfl ?_
            refine rn_getR (k' := 39) rfl rfl K0_0 (by decide) rfl R0_0_3 ?_
            refine rn_getR (k' := 40) rfl rfl K0_6 (by decide) rfl R0_6_1 ?_
            refine rn_bipush (k' := 41) rfl rfl ?_
            refine rn_iload_n (k' := 42) rfl rfl rfl ?_
            refine rn_iadd (k' := 43) rfl rfl (by omega) ?_
            refine rn_iaload (k' := 44) rfl rfl K0_8 (by omega) (by omega) ?_
            have hb10 := lT ((100 + a0).toNat)
            refine rn_iret rfl (Or.inl rfl) ?_
            first | rfl | (refine congrArg (fun z => ((some (some (mI z)) : Option (Option MV)), mkh μ c s)) ?_; first | rfl | omega | (symm; first | (rw [if_pos (by omega)]; first | done | rfl | omega) | (rw [if_neg (by omega)]; first | done | rfl | omega)) | (symm; unfold g_tim; first | (rw [if_pos (by omega)]; first | done | rfl | omega) | (rw [if_neg (by omega)]; first | done | rfl | omega)) | (symm; unfold g_st; first | (rw [if_pos (by omega)]; first | done | rfl | omega) | (rw [if_neg (by omega)]; first | done | rfl | omega)) | (symm; unfold g_dep; first | (rw [if_pos (by omega)]; first | done | rfl | omega) | (rw [if_neg (by omega)]; first | done | rfl | omega)) | (symm; unfold g_nb; first | (rw [if_pos (by omega)]; first | done | rfl | omega) | (rw [if_neg (by omega)]; first | done | rfl | omega)) | ((try unfold g_st); (try unfold g_dep); (try unfold g_nb); (repeat' split) <;> omega) | (symm; (repeat (first | rw [if_pos (by omega)] | rw [if_neg (by omega)])); first | done | rfl | omega))
          · refine rn_swI (j := 4) (t' := 45) rfl (by omega) rfl ?_
            refine rn_aload_n (k' := 46) rfl rfl rfl ?_
            refine rn_iload_n (k' := 47) rfl rfl rfl ?_
            refine rn_callP (k' := 48) (y := 158) (vs := [mR 0, mI (a0)]) (S' := []) (v := some (mI (fO (fun n => μ 15 n = a0) (μ 6 13).toNat))) (h' := mkh μ c s) rfl rfl rfl (c_X11_herdsOn (hL) (hS)) ?_
            show Rn PT none kX11_cell 48 [some (mR 0), some (mI (a0)), some (mI (a1))] [mI (fO (fun n => μ 15 n = a0) (μ 6 13).toNat)] (mkh μ c s) _
            refine rn_iret rfl (Or.inl rfl) ?_
            first | rfl | (refine congrArg (fun z => ((some (some (mI z)) : Option (Option MV)), mkh μ c s)) ?_; first | rfl | omega | (symm; first | (rw [if_pos (by omega)]; first | done | rfl | omega) | (rw [if_neg (by omega)]; first | done | rfl | omega)) | (symm; unfold g_tim; first | (rw [if_pos (by omega)]; first | done | rfl | omega) | (rw [if_neg (by omega)]; first | done | rfl | omega)) | (symm; unfold g_st; first | (rw [if_pos (by omega)]; first | done | rfl | omega) | (rw [if_neg (by omega)]; first | done | rfl | omega)) | (symm; unfold g_dep; first | (rw [if_pos (by omega)]; first | done | rfl | omega) | (rw [if_neg (by omega)]; first | done | rfl | omega)) | (symm; unfold g_nb; first | (rw [if_pos (by omega)]; first | done | rfl | omega) | (rw [if_neg (by omega)]; first | done | rfl | omega)) | ((try unfold g_st); (try unfold g_dep); (try unfold g_nb); (repeat' split) <;> omega) | (symm; (repeat (first | rw [if_pos (by omega)] | rw [if_neg (by omega)])); first | done | rfl | omega))
        · skip
          refine rn_thr rfl ?_
          exfalso; omega
  · refine rn_callP (k' := 4) (y := 30) (vs := [mR 6, mI (a0)]) (S' := []) (v := some (mI 0)) (h' := mkh μ c s) rfl rfl rfl (by have hz : Cl PT 30 [mR 6, mI (a0)] (mkh μ c s) (fun r => r = (some (some (mI (if g_cell μ a0 then 1 else 0))), mkh μ c s)) := k_hasCell (a := a0) (by omega) (μ := μ) (c := c) (s := s); rw [if_neg hq1] at hz; exact hz) ?_
    show Rn PT none kX11_cell 4 [some (mR 0), some (mI (a0)), some (mI (a1))] [mI (0)] (mkh μ c s) _
    refine rn_if_eq (k' := 5) rfl rfl (fun hc11 => ?_) (fun hc11 => ?_)
    · skip
      refine rn_thr rfl ?_
      exfalso; omega
    · exfalso; omega
set_option maxHeartbeats 4000000 in
theorem n_X11_cell {μ : Nat → Nat → Int} {c s : Nat} (hL : I_land μ) (hS : I_scene μ) {a0 a1 : Int} (h0 : i32 a0) (h1 : i32 a1) (hv : ¬ (g_cell μ a0 ∧ 0 ≤ a1 ∧ a1 ≤ 5)) : Cl PT 106 [mR 0, mI a0, mI a1] (mkh μ c s) (fun r => r = (none, mkh μ (c + 1) (s + 6))) := by
  have hL_ := hL
  obtain ⟨lc, lr, le, lm, lw, lh, lwo, lwd, q0, q1, q2, q3, q4, q8, q499, q500, lth, lG, lT, lW, -⟩ := hL_
  have hS_ := hS
  obtain ⟨sd, sw, stk, s4, s5, s6, hC, hH, -, s10, sce, swc, s13⟩ := hS_
  have hgc : g_cell μ a0 → 0 ≤ a0 ∧ a0 < 100 := fun z => g_cell_b hL z
  refine ⟨_, PT_106, Nat.le_of_ble_eq_true rfl, ?_⟩
  show Rn PT none kX11_cell 0 [some (mR 0), some (mI (a0)), some (mI (a1))] [] (mkh μ c s) _
  refine rn_aload_n (k' := 1) rfl rfl rfl ?_
  refine rn_getR (k' := 2) rfl rfl K0_0 (by decide) rfl R0_0_3 ?_
  refine rn_iload_n (k' := 3) rfl rfl rfl ?_
  by_cases hq1 : g_cell μ a0
  · refine rn_callP (k' := 4) (y := 30) (vs := [mR 6, mI (a0)]) (S' := []) (v := some (mI 1)) (h' := mkh μ c s) rfl rfl rfl (by have hz : Cl PT 30 [mR 6, mI (a0)] (mkh μ c s) (fun r => r = (some (some (mI (if g_cell μ a0 then 1 else 0))), mkh μ c s)) := k_hasCell (a := a0) (by omega) (μ := μ) (c := c) (s := s); rw [if_pos hq1] at hz; exact hz) ?_
    show Rn PT none kX11_cell 4 [some (mR 0), some (mI (a0)), some (mI (a1))] [mI (1)] (mkh μ c s) _
    refine rn_if_eq (k' := 5) rfl rfl (fun hc2 => ?_) (fun hc2 => ?_)
    · exfalso; omega
    · skip
      refine rn_iload_n (k' := 6) rfl rfl rfl ?_
      refine rn_if_lt (k' := 7) rfl rfl (fun hc3 => ?_) (fun hc3 => ?_)
      · skip
        refine rn_thr rfl ?_
        rfl
      · skip
        refine rn_iload_n (k' := 8) rfl rfl rfl ?_
        refine rn_iconst (k' := 9) rfl rfl ?_
        refine rn_icmp_le (k' := 10) rfl rfl (fun hc4 => ?_) (fun hc4 => ?_)
        · skip
          refine rn_iload_n (k' := 15) rfl rfl rfl ?_
          rcases (show (a1 < 0 ∨ 4 < a1) ∨ a1 = 0 ∨ a1 = 1 ∨ a1 = 2 ∨ a1 = 3 ∨ a1 = 4 by omega) with hs5 | hs5 | hs5 | hs5 | hs5 | hs5
          · refine rn_swO rfl hs5 ?_
            refine rn_aload_n (k' := 50) rfl rfl rfl ?_
            refine rn_getR (k' := 51) rfl rfl K0_0 (by decide) rfl R0_0_4 ?_
            refine rn_getI (k' := 52) rfl rfl K0_14 (by decide) rfl ?_
            refine rn_iload_n (k' := 53) rfl rfl rfl ?_
            refine rn_icmp_ne (k' := 54) rfl rfl (fun hc6 => ?_) (fun hc6 => ?_)
            · skip
              refine rn_iconst (k' := 57) rfl rfl ?_
              refine rn_iret rfl (Or.inl rfl) ?_
              exfalso; omega
            · skip
              refine rn_iconst (k' := 55) rfl rfl ?_
              refine rn_goto rfl ?_
              refine rn_iret rfl (Or.inl rfl) ?_
              exfalso; omega
          · refine rn_swI (j := 0) (t' := 16) rfl (by omega) rfl ?_
            refine rn_aload_n (k' := 17) rfl rfl rfl ?_
            refine rn_getR (k' := 18) rfl rfl K0_0 (by decide) rfl R0_0_3 ?_
            refine rn_getR (k' := 19) rfl rfl K0_6 (by decide) rfl R0_6_0 ?_
            refine rn_iload_n (k' := 20) rfl rfl rfl ?_
            refine rn_iaload (k' := 21) rfl rfl K0_7 (by omega) (by omega) ?_
            have hb7 := lG ((a0).toNat)
            refine rn_iret rfl (Or.inl rfl) ?_
            exfalso; omega
          · refine rn_swI (j := 1) (t' := 22) rfl (by omega) rfl ?_
            refine rn_aload_n (k' := 23) rfl rfl rfl ?_
            refine rn_getR (k' := 24) rfl rfl K0_0 (by decide) rfl R0_0_3 ?_
            refine rn_iload_n (k' := 25) rfl rfl rfl ?_
            refine rn_aload_n (k' := 26) rfl rfl rfl ?_
            have hb8 := g_w_b hL 0 (μ 14 0)
            refine rn_callP (k' := 27) (y := 156) (vs := [mR 0]) (S' := [mI (a0), mR 6]) (v := some (mI (g_w μ 0 (μ 14 0)))) (h' := mkh μ c s) rfl rfl rfl (c_X11_waterToday (hL) (by show 0 ≤ μ 14 0 ∧ μ 14 0 ≤ 29; omega)) ?_
            show Rn PT none kX11_cell 27 [some (mR 0), some (mI (a0)), some (mI (a1))] [mI (g_w μ 0 (μ 14 0)), mI (a0), mR 6] (mkh μ c s) _
            refine rn_callP (k' := 28) (y := 35) (vs := [mR 6, mI (a0), mI (g_w μ 0 (μ 14 0))]) (S' := []) (v := some (mI (g_dep μ a0 (g_w μ 0 (μ 14 0))))) (h' := mkh μ c s) rfl rfl rfl (k_depthOf (hL) (by omega) (by omega)) ?_
            show Rn PT none kX11_cell 28 [some (mR 0), some (mI (a0)), some (mI (a1))] [mI (g_dep μ a0 (g_w μ 0 (μ 14 0)))] (mkh μ c s) _
            refine rn_iret rfl (Or.inl rfl) ?_
            exfalso; omega
          · refine rn_swI (j := 2) (t' := 29) rfl (by omega) rfl ?_
            refine rn_aload_n (k' := 30) rfl rfl rfl ?_
            refine rn_getR (k' := 31) rfl rfl K0_0 (by decide) rfl R0_0_3 ?_
            refine rn_getR (k' := 32) rfl rfl K0_6 (by decide) rfl R0_6_1 ?_
            refine rn_iconst (k' := 33) rfl rfl ?_
            refine rn_iload_n (k' := 34) rfl rfl rfl ?_
            refine rn_iadd (k' := 35) rfl rfl (by omega) ?_
            rw [Int.zero_add (a0)]
            refine rn_iaload (k' := 36) rfl rfl K0_8 (by omega) (by omega) ?_
            have hb9 := lT ((a0).toNat)
            refine rn_iret rfl (Or.inl rfl) ?_
            exfalso; omega
          · refine rn_swI (j := 3) (t' := 37) rfl (by omega) rfl ?_
            refine rn_aload_n (k' := 38) rfl rfl rfl ?_
            refine rn_getR (k' := 39) rfl rfl K0_0 (by decide) rfl R0_0_3 ?_
            refine rn_getR (k' := 40) rfl rfl K0_6 (by decide) rfl R0_6_1 ?_
            refine rn_bipush (k' := 41) rfl rfl ?_
            refine rn_iload_n (k' := 42) rfl rfl rfl ?_
            refine rn_iadd (k' := 43) rfl rfl (by omega) ?_
            refine rn_iaload (k' := 44) rfl rfl K0_8 (by omega) (by omega) ?_
            have hb10 := lT ((100 + a0).toNat)
            refine rn_iret rfl (Or.inl rfl) ?_
            exfalso; omega
          · refine rn_swI (j := 4) (t' := 45) rfl (by omega) rfl ?_
            refine rn_aload_n (k' := 46) rfl rfl rfl ?_
            refine rn_iload_n (k' := 47) rfl rfl rfl ?_
            refine rn_callP (k' := 48) (y := 158) (vs := [mR 0, mI (a0)]) (S' := []) (v := some (mI (fO (fun n => μ 15 n = a0) (μ 6 13).toNat))) (h' := mkh μ c s) rfl rfl rfl (c_X11_herdsOn (hL) (hS)) ?_
            show Rn PT none kX11_cell 48 [some (mR 0), some (mI (a0)), some (mI (a1))] [mI (fO (fun n => μ 15 n = a0) (μ 6 13).toNat)] (mkh μ c s) _
            refine rn_iret rfl (Or.inl rfl) ?_
            exfalso; omega
        · skip
          refine rn_thr rfl ?_
          rfl
  · refine rn_callP (k' := 4) (y := 30) (vs := [mR 6, mI (a0)]) (S' := []) (v := some (mI 0)) (h' := mkh μ c s) rfl rfl rfl (by have hz : Cl PT 30 [mR 6, mI (a0)] (mkh μ c s) (fun r => r = (some (some (mI (if g_cell μ a0 then 1 else 0))), mkh μ c s)) := k_hasCell (a := a0) (by omega) (μ := μ) (c := c) (s := s); rw [if_neg hq1] at hz; exact hz) ?_
    show Rn PT none kX11_cell 4 [some (mR 0), some (mI (a0)), some (mI (a1))] [mI (0)] (mkh μ c s) _
    refine rn_if_eq (k' := 5) rfl rfl (fun hc11 => ?_) (fun hc11 => ?_)
    · skip
      refine rn_thr rfl ?_
      rfl
    · exfalso; omega
set_option maxHeartbeats 4000000 in
theorem x_X12_cell {μ : Nat → Nat → Int} {c s : Nat} (hL : I_land μ) (hS : I_scene μ) {a0 a1 : Int} (h0 : i32 a0) (h1 : i32 a1) (hv : g_cell μ a0 ∧ 0 ≤ a1 ∧ a1 ≤ 5) : Cl PT 204 [mR 118, mI a0, mI a1] (mkh μ c s) (fun r => ∃ μ1, r = (some (some (mI (if a1 = 0 then μ 7 a0.toNat else if a1 = 1 then g_dep μ a0 (g_w μ 0 (μ 14 0)) else if a1 = 2 then μ 8 a0.toNat else if a1 = 3 then μ 8 (100 + a0).toNat else if a1 = 4 then fO (fun n => μ 15 n = a0) (μ 6 13).toNat else if μ 14 3 = a0 then 1 else 0))), mkh μ1 c s) ∧ rst μ1 = rst μ ∧ μ1 118 0 = 0 ∧ μ1 141 0 = μ 141 0) := by
  have hL_ := hL
  obtain ⟨lc, lr, le, lm, lw, lh, lwo, lwd, q0, q1, q2, q3, q4, q8, q499, q500, lth, lG, lT, lW, -⟩ := hL_
  have hS_ := hS
  obtain ⟨sd, sw, stk, s4, s5, s6, hC, hH, -, s10, sce, swc, s13⟩ := hS_
  have hgc : g_cell μ a0 → 0 ≤ a0 ∧ a0 < 100 := fun z => g_cell_b hL z
  refine ⟨_, PT_204, Nat.le_of_ble_eq_true rfl, ?_⟩
  show Rn PT none kX12_cell 0 [some (mR 118), some (mI (a0)), some (mI (a1)), none, none] [] (mkh μ c s) _
  refine rn_aload_n (k' := 1) rfl rfl rfl ?_
  refine rn_aload_n (k' := 2) rfl rfl rfl ?_
  refine rn_iload_n (k' := 3) rfl rfl rfl ?_
  by_cases hq1 : g_cell μ a0
  · refine rn_callP (k' := 4) (y := 192) (vs := [mR 118, mI (a0)]) (S' := [mR 118]) (v := some (mI 1)) (h' := mkh μ c s) rfl rfl rfl (by have hz : Cl PT 192 [mR 118, mI (a0)] (mkh μ c s) (fun r => r = (some (some (mI (if g_cell μ a0 then 1 else 0))), mkh μ c s)) := c_X12_isCell (hL) (a := a0) (by omega) (μ := μ) (c := c) (s := s); rw [if_pos hq1] at hz; exact hz) ?_
    show Rn PT none kX12_cell 4 [some (mR 118), some (mI (a0)), some (mI (a1)), none, none] [mI (1), mR 118] (mkh μ c s) _
    refine rn_if_eq (k' := 5) rfl rfl (fun hc2 => ?_) (fun hc2 => ?_)
    · exfalso; omega
    · skip
      refine rn_iload_n (k' := 6) rfl rfl rfl ?_
      refine rn_iconst (k' := 7) rfl rfl ?_
      refine rn_iconst (k' := 8) rfl rfl ?_
      by_cases hq3 : 0 ≤ a1 ∧ a1 ≤ 5
      · refine rn_callP (k' := 9) (y := 167) (vs := [mI (a1), mI (0), mI (5)]) (S' := [mR 118]) (v := some (mI 1)) (h' := mkh μ c s) rfl rfl rfl (by have hz : Cl PT 167 [mI (a1), mI (0), mI (5)] (mkh μ c s) (fun r => r = (some (some (mI (if 0 ≤ a1 ∧ a1 ≤ 5 then 1 else 0))), mkh μ c s)) := c_X12_isIn (v := a1) (lo := 0) (hi := 5) (μ := μ) (c := c) (s := s); rw [if_pos hq3] at hz; exact hz) ?_
        show Rn PT none kX12_cell 9 [some (mR 118), some (mI (a0)), some (mI (a1)), none, none] [mI (1), mR 118] (mkh μ c s) _
        refine rn_if_ne (k' := 10) rfl rfl (fun hc4 => ?_) (fun hc4 => ?_)
        · skip
          refine rn_iconst (k' := 13) rfl rfl ?_
          refine rn_callP (k' := 14) (y := 162) (vs := [mR 118, mI (0)]) (S' := []) (v := some (mI (0))) (h' := mkh (m_set μ 118 0 (0)) c s) rfl rfl rfl (c_X12_throwsIf (by omega)) ?_
          show Rn PT none kX12_cell 14 [some (mR 118), some (mI (a0)), some (mI (a1)), none, none] [mI (0)] (mkh (m_set μ 118 0 (0)) c s) _
          refine rn_if_eq (k' := 15) rfl rfl (fun hc5 => ?_) (fun hc5 => ?_)
          · skip
            refine rn_aload_n (k' := 18) rfl rfl rfl ?_
            refine rn_aload_n (k' := 19) rfl rfl rfl ?_
            refine rn_getR (k' := 20) rfl rfl K0_118 (by decide) rfl R0_118_6 ?_
            refine rn_sipush (k' := 21) rfl rfl ?_
            refine rn_iaload (k' := 22) rfl rfl K0_120 (by omega) (by omega) ?_
            show Rn PT none kX12_cell 22 [some (mR 118), some (mI (a0)), some (mI (a1)), none, none] [mI (μ 120 517), mR 118] (mkh (m_set μ 118 0 (0)) c s) _
            rw [s4]
            have hb6 := g_w_b hL 0 (μ 14 0)
            have hc906 := g_w_b hL 1 (μ 14 0)
            refine rn_callP (k' := 23) (y := 201) (vs := [mR 118, mI (μ 14 0)]) (S' := []) (v := none) (h' := mkh (m_set (m_set (m_set μ 118 0 (0)) 118 22 (g_w μ 0 (μ 14 0))) 118 23 (g_w μ 1 (μ 14 0))) c s) rfl rfl rfl (c_X12_of ((hL).set rfl) (by omega)) ?_
            show Rn PT none kX12_cell 23 [some (mR 118), some (mI (a0)), some (mI (a1)), none, none] [] (mkh (m_set (m_set (m_set μ 118 0 (0)) 118 22 (g_w μ 0 (μ 14 0))) 118 23 (g_w μ 1 (μ 14 0))) c s) _
            refine rn_iconst (k' := 24) rfl rfl ?_
            refine rn_istore_n (k' := 25) (L' := [some (mR 118), some (mI (a0)), some (mI (a1)), some (mI (0)), none]) rfl rfl (Nat.le_of_ble_eq_true rfl) rfl ?_
            refine rn_iconst (k' := 26) rfl rfl ?_
            refine rn_istore (k' := 27) (L' := [some (mR 118), some (mI (a0)), some (mI (a1)), some (mI (0)), some (mI (0))]) rfl rfl (Nat.le_of_ble_eq_true rfl) rfl ?_
            exact l_X12_cell hL hS h0 h1 hv (μ 6 13).toNat 0 _ _ rfl rfl (by omega)
          · exfalso; omega
        · exfalso; omega
      · refine rn_callP (k' := 9) (y := 167) (vs := [mI (a1), mI (0), mI (5)]) (S' := [mR 118]) (v := some (mI 0)) (h' := mkh μ c s) rfl rfl rfl (by have hz : Cl PT 167 [mI (a1), mI (0), mI (5)] (mkh μ c s) (fun r => r = (some (some (mI (if 0 ≤ a1 ∧ a1 ≤ 5 then 1 else 0))), mkh μ c s)) := c_X12_isIn (v := a1) (lo := 0) (hi := 5) (μ := μ) (c := c) (s := s); rw [if_neg hq3] at hz; exact hz) ?_
        show Rn PT none kX12_cell 9 [some (mR 118), some (mI (a0)), some (mI (a1)), none, none] [mI (0), mR 118] (mkh μ c s) _
        refine rn_if_ne (k' := 10) rfl rfl (fun hc7 => ?_) (fun hc7 => ?_)
        · exfalso; omega
        · skip
          refine rn_iconst (k' := 11) rfl rfl ?_
          refine rn_goto rfl ?_
          refine rn_callP (k' := 14) (y := 162) (vs := [mR 118, mI (1)]) (S' := []) (v := some (mI (1))) (h' := mkh (m_set μ 118 0 (1)) c s) rfl rfl rfl (c_X12_throwsIf (by omega)) ?_
          show Rn PT none kX12_cell 14 [some (mR 118), some (mI (a0)), some (mI (a1)), none, none] [mI (1)] (mkh (m_set μ 118 0 (1)) c s) _
          refine rn_if_eq (k' := 15) rfl rfl (fun hc8 => ?_) (fun hc8 => ?_)
          · exfalso; omega
          · skip
            refine rn_iconst (k' := 16) rfl rfl ?_
            refine rn_iret rfl (Or.inl rfl) ?_
            exfalso; omega
  · refine rn_callP (k' := 4) (y := 192) (vs := [mR 118, mI (a0)]) (S' := [mR 118]) (v := some (mI 0)) (h' := mkh μ c s) rfl rfl rfl (by have hz : Cl PT 192 [mR 118, mI (a0)] (mkh μ c s) (fun r => r = (some (some (mI (if g_cell μ a0 then 1 else 0))), mkh μ c s)) := c_X12_isCell (hL) (a := a0) (by omega) (μ := μ) (c := c) (s := s); rw [if_neg hq1] at hz; exact hz) ?_
    show Rn PT none kX12_cell 4 [some (mR 118), some (mI (a0)), some (mI (a1)), none, none] [mI (0), mR 118] (mkh μ c s) _
    refine rn_if_eq (k' := 5) rfl rfl (fun hc9 => ?_) (fun hc9 => ?_)
    · skip
      refine rn_iconst (k' := 11) rfl rfl ?_
      refine rn_goto rfl ?_
      refine rn_callP (k' := 14) (y := 162) (vs := [mR 118, mI (1)]) (S' := []) (v := some (mI (1))) (h' := mkh (m_set μ 118 0 (1)) c s) rfl rfl rfl (c_X12_throwsIf (by omega)) ?_
      show Rn PT none kX12_cell 14 [some (mR 118), some (mI (a0)), some (mI (a1)), none, none] [mI (1)] (mkh (m_set μ 118 0 (1)) c s) _
      refine rn_if_eq (k' := 15) rfl rfl (fun hc10 => ?_) (fun hc10 => ?_)
      · exfalso; omega
      · skip
        refine rn_iconst (k' := 16) rfl rfl ?_
        refine rn_iret rfl (Or.inl rfl) ?_
        exfalso; omega
    · exfalso; omega
set_option maxHeartbeats 4000000 in
theorem n_X12_cell {μ : Nat → Nat → Int} {c s : Nat} (hL : I_land μ) (hS : I_scene μ) {a0 a1 : Int} (h0 : i32 a0) (h1 : i32 a1) (hv : ¬ (g_cell μ a0 ∧ 0 ≤ a1 ∧ a1 ≤ 5)) : Cl PT 204 [mR 118, mI a0, mI a1] (mkh μ c s) (fun r => ∃ μ1, r = (some (some (mI 0)), mkh μ1 c s) ∧ rst μ1 = rst μ ∧ μ1 118 0 = 1 ∧ μ1 141 0 = μ 141 0) := by
  have hL_ := hL
  obtain ⟨lc, lr, le, lm, lw, lh, lwo, lwd, q0, q1, q2, q3, q4, q8, q499, q500, lth, lG, lT, lW, -⟩ := hL_
  have hS_ := hS
  obtain ⟨sd, sw, stk, s4, s5, s6, hC, hH, -, s10, sce, swc, s13⟩ := hS_
  have hgc : g_cell μ a0 → 0 ≤ a0 ∧ a0 < 100 := fun z => g_cell_b hL z
  refine ⟨_, PT_204, Nat.le_of_ble_eq_true rfl, ?_⟩
  show Rn PT none kX12_cell 0 [some (mR 118), some (mI (a0)), some (mI (a1)), none, none] [] (mkh μ c s) _
  refine rn_aload_n (k' := 1) rfl rfl rfl ?_
  refine rn_aload_n (k' := 2) rfl rfl rfl ?_
  refine rn_iload_n (k' := 3) rfl rfl rfl ?_
  by_cases hq1 : g_cell μ a0
  · refine rn_callP (k' := 4) (y := 192) (vs := [mR 118, mI (a0)]) (S' := [mR 118]) (v := some (mI 1)) (h' := mkh μ c s) rfl rfl rfl (by have hz : Cl PT 192 [mR 118, mI (a0)] (mkh μ c s) (fun r => r = (some (some (mI (if g_cell μ a0 then 1 else 0))), mkh μ c s)) := c_X12_isCell (hL) (a := a0) (by omega) (μ := μ) (c := c) (s := s); rw [if_pos hq1] at hz; exact hz) ?_
    show Rn PT none kX12_cell 4 [some (mR 118), some (mI (a0)), some (mI (a1)), none, none] [mI (1), mR 118] (mkh μ c s) _
    refine rn_if_eq (k' := 5) rfl rfl (fun hc2 => ?_) (fun hc2 => ?_)
    · exfalso; omega
    · skip
      refine rn_iload_n (k' := 6) rfl rfl rfl ?_
      refine rn_iconst (k' := 7) rfl rfl ?_
      refine rn_iconst (k' := 8) rfl rfl ?_
      by_cases hq3 : 0 ≤ a1 ∧ a1 ≤ 5
      · refine rn_callP (k' := 9) (y := 167) (vs := [mI (a1), mI (0), mI (5)]) (S' := [mR 118]) (v := some (mI 1)) (h' := mkh μ c s) rfl rfl rfl (by have hz : Cl PT 167 [mI (a1), mI (0), mI (5)] (mkh μ c s) (fun r => r = (some (some (mI (if 0 ≤ a1 ∧ a1 ≤ 5 then 1 else 0))), mkh μ c s)) := c_X12_isIn (v := a1) (lo := 0) (hi := 5) (μ := μ) (c := c) (s := s); rw [if_pos hq3] at hz; exact hz) ?_
        show Rn PT none kX12_cell 9 [some (mR 118), some (mI (a0)), some (mI (a1)), none, none] [mI (1), mR 118] (mkh μ c s) _
        refine rn_if_ne (k' := 10) rfl rfl (fun hc4 => ?_) (fun hc4 => ?_)
        · skip
          refine rn_iconst (k' := 13) rfl rfl ?_
          refine rn_callP (k' := 14) (y := 162) (vs := [mR 118, mI (0)]) (S' := []) (v := some (mI (0))) (h' := mkh (m_set μ 118 0 (0)) c s) rfl rfl rfl (c_X12_throwsIf (by omega)) ?_
          show Rn PT none kX12_cell 14 [some (mR 118), some (mI (a0)), some (mI (a1)), none, none] [mI (0)] (mkh (m_set μ 118 0 (0)) c s) _
          refine rn_if_eq (k' := 15) rfl rfl (fun hc5 => ?_) (fun hc5 => ?_)
          · skip
            refine rn_aload_n (k' := 18) rfl rfl rfl ?_
            refine rn_aload_n (k' := 19) rfl rfl rfl ?_
            refine rn_getR (k' := 20) rfl rfl K0_118 (by decide) rfl R0_118_6 ?_
            refine rn_sipush (k' := 21) rfl rfl ?_
            refine rn_iaload (k' := 22) rfl rfl K0_120 (by omega) (by omega) ?_
            show Rn PT none kX12_cell 22 [some (mR 118), some (mI (a0)), some (mI (a1)), none, none] [mI (μ 120 517), mR 118] (mkh (m_set μ 118 0 (0)) c s) _
            rw [s4]
            have hb6 := g_w_b hL 0 (μ 14 0)
            have hc906 := g_w_b hL 1 (μ 14 0)
            refine rn_callP (k' := 23) (y := 201) (vs := [mR 118, mI (μ 14 0)]) (S' := []) (v := none) (h' := mkh (m_set (m_set (m_set μ 118 0 (0)) 118 22 (g_w μ 0 (μ 14 0))) 118 23 (g_w μ 1 (μ 14 0))) c s) rfl rfl rfl (c_X12_of ((hL).set rfl) (by omega)) ?_
            show Rn PT none kX12_cell 23 [some (mR 118), some (mI (a0)), some (mI (a1)), none, none] [] (mkh (m_set (m_set (m_set μ 118 0 (0)) 118 22 (g_w μ 0 (μ 14 0))) 118 23 (g_w μ 1 (μ 14 0))) c s) _
            refine rn_iconst (k' := 24) rfl rfl ?_
            refine rn_istore_n (k' := 25) (L' := [some (mR 118), some (mI (a0)), some (mI (a1)), some (mI (0)), none]) rfl rfl (Nat.le_of_ble_eq_true rfl) rfl ?_
            refine rn_iconst (k' := 26) rfl rfl ?_
            refine rn_istore (k' := 27) (L' := [some (mR 118), some (mI (a0)), some (mI (a1)), some (mI (0)), some (mI (0))]) rfl rfl (Nat.le_of_ble_eq_true rfl) rfl ?_
            exfalso; omega
          · exfalso; omega
        · exfalso; omega
      · refine rn_callP (k' := 9) (y := 167) (vs := [mI (a1), mI (0), mI (5)]) (S' := [mR 118]) (v := some (mI 0)) (h' := mkh μ c s) rfl rfl rfl (by have hz : Cl PT 167 [mI (a1), mI (0), mI (5)] (mkh μ c s) (fun r => r = (some (some (mI (if 0 ≤ a1 ∧ a1 ≤ 5 then 1 else 0))), mkh μ c s)) := c_X12_isIn (v := a1) (lo := 0) (hi := 5) (μ := μ) (c := c) (s := s); rw [if_neg hq3] at hz; exact hz) ?_
        show Rn PT none kX12_cell 9 [some (mR 118), some (mI (a0)), some (mI (a1)), none, none] [mI (0), mR 118] (mkh μ c s) _
        refine rn_if_ne (k' := 10) rfl rfl (fun hc7 => ?_) (fun hc7 => ?_)
        · exfalso; omega
        · skip
          refine rn_iconst (k' := 11) rfl rfl ?_
          refine rn_goto rfl ?_
          refine rn_callP (k' := 14) (y := 162) (vs := [mR 118, mI (1)]) (S' := []) (v := some (mI (1))) (h' := mkh (m_set μ 118 0 (1)) c s) rfl rfl rfl (c_X12_throwsIf (by omega)) ?_
          show Rn PT none kX12_cell 14 [some (mR 118), some (mI (a0)), some (mI (a1)), none, none] [mI (1)] (mkh (m_set μ 118 0 (1)) c s) _
          refine rn_if_eq (k' := 15) rfl rfl (fun hc8 => ?_) (fun hc8 => ?_)
          · exfalso; omega
          · skip
            refine rn_iconst (k' := 16) rfl rfl ?_
            refine rn_iret rfl (Or.inl rfl) ?_
            refine ⟨(m_set μ 118 0 (1)), ?_, (rst_set (a := 118) (j := 0) rfl), rfl, rfl⟩
            first | rfl | (refine congrArg (fun z => ((some (some (mI z)) : Option (Option MV)), mkh (m_set μ 118 0 (1)) c s)) ?_; first | rfl | omega | (symm; first | (rw [if_pos (by omega)]; first | done | rfl | omega) | (rw [if_neg (by omega)]; first | done | rfl | omega)) | (symm; unfold g_tim; first | (rw [if_pos (by omega)]; first | done | rfl | omega) | (rw [if_neg (by omega)]; first | done | rfl | omega)) | (symm; unfold g_st; first | (rw [if_pos (by omega)]; first | done | rfl | omega) | (rw [if_neg (by omega)]; first | done | rfl | omega)) | (symm; unfold g_dep; first | (rw [if_pos (by omega)]; first | done | rfl | omega) | (rw [if_neg (by omega)]; first | done | rfl | omega)) | (symm; unfold g_nb; first | (rw [if_pos (by omega)]; first | done | rfl | omega) | (rw [if_neg (by omega)]; first | done | rfl | omega)) | ((try unfold g_st); (try unfold g_dep); (try unfold g_nb); (repeat' split) <;> omega) | (symm; (repeat (first | rw [if_pos (by omega)] | rw [if_neg (by omega)])); first | done | rfl | omega))
  · refine rn_callP (k' := 4) (y := 192) (vs := [mR 118, mI (a0)]) (S' := [mR 118]) (v := some (mI 0)) (h' := mkh μ c s) rfl rfl rfl (by have hz : Cl PT 192 [mR 118, mI (a0)] (mkh μ c s) (fun r => r = (some (some (mI (if g_cell μ a0 then 1 else 0))), mkh μ c s)) := c_X12_isCell (hL) (a := a0) (by omega) (μ := μ) (c := c) (s := s); rw [if_neg hq1] at hz; exact hz) ?_
    show Rn PT none kX12_cell 4 [some (mR 118), some (mI (a0)), some (mI (a1)), none, none] [mI (0), mR 118] (mkh μ c s) _
    refine rn_if_eq (k' := 5) rfl rfl (fun hc9 => ?_) (fun hc9 => ?_)
    · skip
      refine rn_iconst (k' := 11) rfl rfl ?_
      refine rn_goto rfl ?_
      refine rn_callP (k' := 14) (y := 162) (vs := [mR 118, mI (1)]) (S' := []) (v := some (mI (1))) (h' := mkh (m_set μ 118 0 (1)) c s) rfl rfl rfl (c_X12_throwsIf (by omega)) ?_
      show Rn PT none kX12_cell 14 [some (mR 118), some (mI (a0)), some (mI (a1)), none, none] [mI (1)] (mkh (m_set μ 118 0 (1)) c s) _
      refine rn_if_eq (k' := 15) rfl rfl (fun hc10 => ?_) (fun hc10 => ?_)
      · exfalso; omega
      · skip
        refine rn_iconst (k' := 16) rfl rfl ?_
        refine rn_iret rfl (Or.inl rfl) ?_
        refine ⟨(m_set μ 118 0 (1)), ?_, (rst_set (a := 118) (j := 0) rfl), rfl, rfl⟩
        first | rfl | (refine congrArg (fun z => ((some (some (mI z)) : Option (Option MV)), mkh (m_set μ 118 0 (1)) c s)) ?_; first | rfl | omega | (symm; first | (rw [if_pos (by omega)]; first | done | rfl | omega) | (rw [if_neg (by omega)]; first | done | rfl | omega)) | (symm; unfold g_tim; first | (rw [if_pos (by omega)]; first | done | rfl | omega) | (rw [if_neg (by omega)]; first | done | rfl | omega)) | (symm; unfold g_st; first | (rw [if_pos (by omega)]; first | done | rfl | omega) | (rw [if_neg (by omega)]; first | done | rfl | omega)) | (symm; unfold g_dep; first | (rw [if_pos (by omega)]; first | done | rfl | omega) | (rw [if_neg (by omega)]; first | done | rfl | omega)) | (symm; unfold g_nb; first | (rw [if_pos (by omega)]; first | done | rfl | omega) | (rw [if_neg (by omega)]; first | done | rfl | omega)) | ((try unfold g_st); (try unfold g_dep); (try unfold g_nb); (repeat' split) <;> omega) | (symm; (repeat (first | rw [if_pos (by omega)] | rw [if_neg (by omega)])); first | done | rfl | omega))
    · exfalso; omega
theorem pair_4 : ∀ (a0 a1 : Int), i32 a0 → i32 a1 → PairX (Inv N) 106 204 [mI a0, mI a1] := by
  intro a0 a1 h0 h1
  exact pairx_of (fun ν => g_cell ν a0 ∧ 0 ≤ a1 ∧ a1 ≤ 5) (fun ν => if a1 = 0 then ν 7 a0.toNat else if a1 = 1 then g_dep ν a0 (g_w ν 0 (ν 14 0)) else if a1 = 2 then ν 8 a0.toNat else if a1 = 3 then ν 8 (100 + a0).toNat else if a1 = 4 then fO (fun n => ν 15 n = a0) (ν 6 13).toNat else if ν 14 3 = a0 then 1 else 0) (fun μ c s hI hv => x_X11_cell hI.land hI.scene h0 h1 hv) (fun μ c s hI hv => n_X11_cell hI.land hI.scene h0 h1 hv) (fun μ c s hI hv => x_X12_cell hI.land hI.scene h0 h1 hv) (fun μ c s hI hv => n_X12_cell hI.land hI.scene h0 h1 hv) (fun μ ν h => by show (fun ν => if a1 = 0 then ν 7 a0.toNat else if a1 = 1 then g_dep ν a0 (g_w ν 0 (ν 14 0)) else if a1 = 2 then ν 8 a0.toNat else if a1 = 3 then ν 8 (100 + a0).toNat else if a1 = 4 then fO (fun n => ν 15 n = a0) (ν 6 13).toNat else if ν 14 3 = a0 then 1 else 0) (rst ν) = (fun ν => if a1 = 0 then ν 7 a0.toNat else if a1 = 1 then g_dep ν a0 (g_w ν 0 (ν 14 0)) else if a1 = 2 then ν 8 a0.toNat else if a1 = 3 then ν 8 (100 + a0).toNat else if a1 = 4 then fO (fun n => ν 15 n = a0) (ν 6 13).toNat else if ν 14 3 = a0 then 1 else 0) (rst μ); rw [h]) (fun μ ν h hv => by show (fun ν => g_cell ν a0 ∧ 0 ≤ a1 ∧ a1 ≤ 5) (rst ν); rw [h]; exact hv)
