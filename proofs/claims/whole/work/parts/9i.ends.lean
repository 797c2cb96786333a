variable {N : Int}
/-! ===== printed by wip/whole/gen9i.py: what stands around the lines of a moor ===== -/
theorem Rn.det {x : MX} {C : List MI} {k : Nat} {L : List (Option MV)} {S : List MV} {h : MH} {r1 r2 : MR} (h1 : Rn PT x C k L S h (fun r => r = r1)) (h2 : Rn PT x C k L S h (fun r => r = r2)) : r1 = r2 := by
  obtain ⟨n1, a1, e1, f1⟩ := h1
  obtain ⟨n2, a2, e2, f2⟩ := h2
  have g1 := m_run_le (Nat.le_max_left n1 n2) e1
  have g2 := m_run_le (Nat.le_max_right n1 n2) e2
  exact f1.symm.trans ((Option.some.inj (g1.symm.trans g2)).trans f2)
theorem res_inj {z1 z2 : Int} {μ1 μ2 : Nat → Nat → Int} {c s : Nat} (h : ((some (some (mI z1)), mkh μ1 c s) : MR) = (some (some (mI z2)), mkh μ2 c s)) : z1 = z2 ∧ μ1 = μ2 := by
  have h1 := congrArg Prod.fst h
  have h2 := congrArg (fun r : MR => r.2.2.1) h
  refine ⟨?_, h2⟩
  have h3 : some (some (mI z1)) = some (some (mI z2)) := h1
  have h4 := Option.some.inj (Option.some.inj h3)
  have h5 : (z1 : Int) = z2 := Sum.inl.inj (Sum.inl.inj h4)
  exact h5
theorem c_beginText {μ : Nat → Nat → Int} {c s : Nat} {l : Int} : Cl PT 68 [mR 1, mI l] (mkh μ c s) (fun r => r = (some none, mkh (m_set (m_set μ 1 2 l) 1 3 0) c s)) := by
  refine ⟨_, PT_68, Nat.le_of_ble_eq_true rfl, ?_⟩
  show Rn PT none kX7_beginText 0 [some (mR 1), some (mI (l))] [] (mkh μ c s) _
  refine rn_aload_n (k' := 1) rfl rfl rfl ?_
  refine rn_iload_n (k' := 2) rfl rfl rfl ?_
  refine rn_putI (k' := 3) rfl rfl K0_1 (by decide) rfl ?_
  refine rn_aload_n (k' := 4) rfl rfl rfl ?_
  refine rn_iconst (k' := 5) rfl rfl ?_
  refine rn_putI (k' := 6) rfl rfl K0_1 (by decide) rfl ?_
  refine rn_vret rfl ?_
  rfl
theorem kr_go {μ μ0 : Nat → Nat → Int} {c s : Nat} (hE : Cl PT 27 [mR 54] (mkh (m_set μ 3 2 0) c s) (fun r => r = (some none, mkh μ0 c s))) {Q : MR → Prop} (K : Rn PT none kX5_readMoor 11 [some (mR 3), some (mR 54), some (mI 0)] [] (mkh (m_set (m_set μ0 1 2 900) 1 3 0) c s) Q) : Cl PT 43 [mR 3, mR 54] (mkh μ c s) Q := by
  refine ⟨_, PT_43, Nat.le_of_ble_eq_true rfl, ?_⟩
  show Rn PT none kX5_readMoor 0 [some (mR 3), some (mR 54), none] [] (mkh μ c s) _
  refine rn_aload_n (k' := 1) rfl rfl rfl ?_
  refine rn_iconst (k' := 2) rfl rfl ?_
  refine rn_putI (k' := 3) rfl rfl K0_3 (by decide) rfl ?_
  refine rn_aload_n (k' := 4) rfl rfl rfl ?_
  refine rn_callP (k' := 5) (y := 27) (vs := [mR 54]) (S' := []) (v := none) (h' := mkh μ0 c s) rfl rfl rfl (hE) ?_
  show Rn PT none kX5_readMoor 5 [some (mR 3), some (mR 54), none] [] (mkh μ0 c s) _
  refine rn_aload_n (k' := 6) rfl rfl rfl ?_
  refine rn_getR (k' := 7) rfl rfl K0_3 (by decide) rfl R0_3_0 ?_
  refine rn_sipush (k' := 8) rfl rfl ?_
  refine rn_callP (k' := 9) (y := 68) (vs := [mR 1, mI (900)]) (S' := []) (v := none) (h' := mkh (m_set (m_set μ0 1 2 (900)) 1 3 (0)) c s) rfl rfl rfl (c_beginText (μ := μ0) (c := c) (s := s)) ?_
  show Rn PT none kX5_readMoor 9 [some (mR 3), some (mR 54), none] [] (mkh (m_set (m_set μ0 1 2 (900)) 1 3 (0)) c s) _
  refine rn_iconst (k' := 10) rfl rfl ?_
  refine rn_istore_n (k' := 11) (L' := [some (mR 3), some (mR 54), some (mI (0))]) rfl rfl (Nat.le_of_ble_eq_true rfl) rfl ?_
  exact K
def bgn (μ : Nat → Nat → Int) : Nat → Nat → Int := m_set (m_set (m_upd (m_upd (m_set μ 14 0 0) 15 (fl (μ 12) (μ 15) 8)) 16 (fl (μ 13) (μ 16) 8)) 14 3 (μ 6 14)) 14 4 0
theorem c_beginOn {μ : Nat → Nat → Int} {c s : Nat} : Cl PT 63 [mR 14, mR 6] (mkh μ c s) (fun r => r = (some none, mkh (bgn μ) c s)) := by
  refine ⟨_, PT_63, Nat.le_of_ble_eq_true rfl, ?_⟩
  show Rn PT none kX6_beginOn 0 [some (mR 14), some (mR 6)] [] (mkh μ c s) _
  refine rn_aload_n (k' := 1) rfl rfl rfl ?_
  refine rn_iconst (k' := 2) rfl rfl ?_
  refine rn_putI (k' := 3) rfl rfl K0_14 (by decide) rfl ?_
  refine rn_aload_n (k' := 4) rfl rfl rfl ?_
  refine rn_getR (k' := 5) rfl rfl K0_6 (by decide) rfl R0_6_5 ?_
  refine rn_iconst (k' := 6) rfl rfl ?_
  refine rn_aload_n (k' := 7) rfl rfl rfl ?_
  refine rn_getR (k' := 8) rfl rfl K0_14 (by decide) rfl R0_14_1 ?_
  refine rn_iconst (k' := 9) rfl rfl ?_
  refine rn_bipush (k' := 10) rfl rfl ?_
  refine rn_cpy (k' := 11) rfl rfl K0_12 K0_15 (by decide) (Nat.le_of_ble_eq_true rfl) ?_
  show Rn PT none kX6_beginOn 11 [some (mR 14), some (mR 6)] [] (mkh (m_upd (m_set μ 14 0 (0)) 15 (fl (μ 12) (μ 15) 8)) c s) _
  refine rn_aload_n (k' := 12) rfl rfl rfl ?_
  refine rn_getR (k' := 13) rfl rfl K0_6 (by decide) rfl R0_6_6 ?_
  refine rn_iconst (k' := 14) rfl rfl ?_
  refine rn_aload_n (k' := 15) rfl rfl rfl ?_
  refine rn_getR (k' := 16) rfl rfl K0_14 (by decide) rfl R0_14_2 ?_
  refine rn_iconst (k' := 17) rfl rfl ?_
  refine rn_bipush (k' := 18) rfl rfl ?_
  refine rn_cpy (k' := 19) rfl rfl K0_13 K0_16 (by decide) (Nat.le_of_ble_eq_true rfl) ?_
  show Rn PT none kX6_beginOn 19 [some (mR 14), some (mR 6)] [] (mkh (m_upd (m_upd (m_set μ 14 0 (0)) 15 (fl (μ 12) (μ 15) 8)) 16 (fl (μ 13) (μ 16) 8)) c s) _
  refine rn_aload_n (k' := 20) rfl rfl rfl ?_
  refine rn_aload_n (k' := 21) rfl rfl rfl ?_
  refine rn_getI (k' := 22) rfl rfl K0_6 (by decide) rfl ?_
  show Rn PT none kX6_beginOn 22 [some (mR 14), some (mR 6)] [mI (μ 6 14), mR 14] (mkh (m_upd (m_upd (m_set μ 14 0 (0)) 15 (fl (μ 12) (μ 15) 8)) 16 (fl (μ 13) (μ 16) 8)) c s) _
  refine rn_putI (k' := 23) rfl rfl K0_14 (by decide) rfl ?_
  refine rn_aload_n (k' := 24) rfl rfl rfl ?_
  refine rn_iconst (k' := 25) rfl rfl ?_
  refine rn_putI (k' := 26) rfl rfl K0_14 (by decide) rfl ?_
  refine rn_vret rfl ?_
  rfl
theorem x_moor_bad {μ μ1 : Nat → Nat → Int} {c s : Nat} {z : Int} (hz : z < 0) (hR : Cl PT 43 [mR 3, mR 54] (mkh μ c s) (fun r => r = (some (some (mI z)), mkh μ1 c s))) : Cl PT 103 [mR 0] (mkh μ c s) (fun r => r = (some (some (mI z)), mkh (m_set μ1 1 1 0) c s)) := by
  refine ⟨_, PT_103, Nat.le_of_ble_eq_true rfl, ?_⟩
  show Rn PT none kX11_moor 0 [some (mR 0), none] [] (mkh μ c s) _
  refine rn_aload_n (k' := 1) rfl rfl rfl ?_
  refine rn_getR (k' := 2) rfl rfl K0_0 (by decide) rfl R0_0_1 ?_
  refine rn_aload_n (k' := 3) rfl rfl rfl ?_
  refine rn_getR (k' := 4) rfl rfl K0_0 (by decide) rfl R0_0_6 ?_
  refine rn_callP (k' := 5) (y := 43) (vs := [mR 3, mR 54]) (S' := []) (v := some (mI (z))) (h' := mkh μ1 c s) rfl rfl rfl (hR) ?_
  show Rn PT none kX11_moor 5 [some (mR 0), none] [mI (z)] (mkh μ1 c s) _
  refine rn_istore_n (k' := 6) (L' := [some (mR 0), some (mI (z))]) rfl rfl (Nat.le_of_ble_eq_true rfl) rfl ?_
  refine rn_aload_n (k' := 7) rfl rfl rfl ?_
  refine rn_getR (k' := 8) rfl rfl K0_0 (by decide) rfl R0_0_0 ?_
  refine rn_iconst (k' := 9) rfl rfl ?_
  refine rn_putI (k' := 10) rfl rfl K0_1 (by decide) rfl ?_
  refine rn_iload_n (k' := 11) rfl rfl rfl ?_
  refine rn_if_lt (k' := 12) rfl rfl (fun hc2 => ?_) (fun hc2 => ?_)
  · skip
    refine rn_iload_n (k' := 31) rfl rfl rfl ?_
    refine rn_iret rfl (Or.inl rfl) ?_
    rfl
  · exfalso; omega
abbrev mfin (μ : Nat → Nat → Int) : Nat → Nat → Int := m_set (m_set (m_set (bgn (lcp (m_set μ 1 1 0) 6 54)) 17 0 0) 82 5 0) 82 6 0
theorem x_moor_ok {μ μ1 : Nat → Nat → Int} {c s : Nat} {z : Int} (hz : ¬ z < 0) (hb1 : μ1 54 16 = 0 ∨ μ1 54 16 = 1) (hb2 : μ1 54 17 = 0 ∨ μ1 54 17 = 1) (hR : Cl PT 43 [mR 3, mR 54] (mkh μ c s) (fun r => r = (some (some (mI z)), mkh μ1 c s))) : Cl PT 103 [mR 0] (mkh μ c s) (fun r => r = (some (some (mI z)), mkh (mfin μ1) c s)) := by
  refine ⟨_, PT_103, Nat.le_of_ble_eq_true rfl, ?_⟩
  show Rn PT none kX11_moor 0 [some (mR 0), none] [] (mkh μ c s) _
  refine rn_aload_n (k' := 1) rfl rfl rfl ?_
  refine rn_getR (k' := 2) rfl rfl K0_0 (by decide) rfl R0_0_1 ?_
  refine rn_aload_n (k' := 3) rfl rfl rfl ?_
  refine rn_getR (k' := 4) rfl rfl K0_0 (by decide) rfl R0_0_6 ?_
  refine rn_callP (k' := 5) (y := 43) (vs := [mR 3, mR 54]) (S' := []) (v := some (mI (z))) (h' := mkh μ1 c s) rfl rfl rfl (hR) ?_
  show Rn PT none kX11_moor 5 [some (mR 0), none] [mI (z)] (mkh μ1 c s) _
  refine rn_istore_n (k' := 6) (L' := [some (mR 0), some (mI (z))]) rfl rfl (Nat.le_of_ble_eq_true rfl) rfl ?_
  refine rn_aload_n (k' := 7) rfl rfl rfl ?_
  refine rn_getR (k' := 8) rfl rfl K0_0 (by decide) rfl R0_0_0 ?_
  refine rn_iconst (k' := 9) rfl rfl ?_
  refine rn_putI (k' := 10) rfl rfl K0_1 (by decide) rfl ?_
  refine rn_iload_n (k' := 11) rfl rfl rfl ?_
  refine rn_if_lt (k' := 12) rfl rfl (fun hc2 => ?_) (fun hc2 => ?_)
  · exfalso; omega
  · skip
    refine rn_aload_n (k' := 13) rfl rfl rfl ?_
    refine rn_getR (k' := 14) rfl rfl K0_0 (by decide) rfl R0_0_3 ?_
    refine rn_aload_n (k' := 15) rfl rfl rfl ?_
    refine rn_getR (k' := 16) rfl rfl K0_0 (by decide) rfl R0_0_6 ?_
    refine rn_callP (k' := 17) (y := 28) (vs := [mR 6, mR 54]) (S' := []) (v := none) (h' := mkh (lcp (m_set μ1 1 1 (0)) 6 54) c s) rfl rfl rfl (c_lcopy_6_54 (μ := (m_set μ1 1 1 (0))) (c := c) (s := s) hb1 hb2) ?_
    show Rn PT none kX11_moor 17 [some (mR 0), some (mI (z))] [] (mkh (lcp (m_set μ1 1 1 (0)) 6 54) c s) _
    refine rn_aload_n (k' := 18) rfl rfl rfl ?_
    refine rn_getR (k' := 19) rfl rfl K0_0 (by decide) rfl R0_0_4 ?_
    refine rn_aload_n (k' := 20) rfl rfl rfl ?_
    refine rn_getR (k' := 21) rfl rfl K0_0 (by decide) rfl R0_0_3 ?_
    refine rn_callP (k' := 22) (y := 63) (vs := [mR 14, mR 6]) (S' := []) (v := none) (h' := mkh (bgn (lcp (m_set μ1 1 1 (0)) 6 54)) c s) rfl rfl rfl (c_beginOn (μ := (lcp (m_set μ1 1 1 (0)) 6 54)) (c := c) (s := s)) ?_
    show Rn PT none kX11_moor 22 [some (mR 0), some (mI (z))] [] (mkh (bgn (lcp (m_set μ1 1 1 (0)) 6 54)) c s) _
    refine rn_aload_n (k' := 23) rfl rfl rfl ?_
    refine rn_getR (k' := 24) rfl rfl K0_0 (by decide) rfl R0_0_2 ?_
    refine rn_getR (k' := 25) rfl rfl K0_5 (by decide) rfl R0_5_2 ?_
    refine rn_iconst (k' := 26) rfl rfl ?_
    refine rn_putI (k' := 27) rfl rfl K0_17 (by decide) rfl ?_
    refine rn_aload_n (k' := 28) rfl rfl rfl ?_
    refine rn_getR (k' := 29) rfl rfl K0_0 (by decide) rfl R0_0_11 ?_
    refine rn_callP (k' := 30) (y := 3) (vs := [mR 82]) (S' := []) (v := none) (h' := mkh (m_set (m_set (m_set (bgn (lcp (m_set μ1 1 1 (0)) 6 54)) 17 0 (0)) 82 5 (0)) 82 6 (0)) c s) rfl rfl rfl (c_X0_forget (μ := (m_set (bgn (lcp (m_set μ1 1 1 (0)) 6 54)) 17 0 (0))) (c := c) (s := s)) ?_
    show Rn PT none kX11_moor 30 [some (mR 0), some (mI (z))] [] (mkh (m_set (m_set (m_set (bgn (lcp (m_set μ1 1 1 (0)) 6 54)) 17 0 (0)) 82 5 (0)) 82 6 (0)) c s) _
    refine rn_iload_n (k' := 31) rfl rfl rfl ?_
    refine rn_iret rfl (Or.inl rfl) ?_
    rfl
theorem c_taken {μ : Nat → Nat → Int} {c s : Nat} {l : Int} : Cl PT 166 [mR 118, mI l] (mkh μ c s) (fun r => r = (some none, mkh (m_set (m_set (m_set (m_set μ 118 3 (μ 118 2)) 118 2 (0)) 118 4 (0)) 118 5 (l)) c s)) := by
  refine ⟨_, PT_166, Nat.le_of_ble_eq_true rfl, ?_⟩
  show Rn PT none kX12_taken 0 [some (mR 118), some (mI (l))] [] (mkh μ c s) _
  refine rn_aload_n (k' := 1) rfl rfl rfl ?_
  refine rn_aload_n (k' := 2) rfl rfl rfl ?_
  refine rn_getI (k' := 3) rfl rfl K0_118 (by decide) rfl ?_
  refine rn_putI (k' := 4) rfl rfl K0_118 (by decide) rfl ?_
  refine rn_aload_n (k' := 5) rfl rfl rfl ?_
  refine rn_iconst (k' := 6) rfl rfl ?_
  refine rn_putI (k' := 7) rfl rfl K0_118 (by decide) rfl ?_
  refine rn_aload_n (k' := 8) rfl rfl rfl ?_
  refine rn_iconst (k' := 9) rfl rfl ?_
  refine rn_putI (k' := 10) rfl rfl K0_118 (by decide) rfl ?_
  refine rn_aload_n (k' := 11) rfl rfl rfl ?_
  refine rn_iload_n (k' := 12) rfl rfl rfl ?_
  refine rn_putI (k' := 13) rfl rfl K0_118 (by decide) rfl ?_
  refine rn_vret rfl ?_
  rfl
theorem mr_30 {μ μ2 : Nat → Nat → Int} {c s : Nat} {Q : MR → Prop} (hN : Cl PT 175 [mR 118] (mkh (m_set (m_set μ 121 2 1) 121 3 99) c s) (fun r => r = (some none, mkh μ2 c s))) (K : Rn PT none kX12_moor 42 [some (mR 118), some (mI 517)] [] (mkh μ2 c s) Q) : Rn PT none kX12_moor 30 [some (mR 118), some (mI 517)] [] (mkh μ c s) Q := by
  refine rn_aload_n (k' := 31) rfl rfl rfl ?_
  refine rn_getR (k' := 32) rfl rfl K0_118 (by decide) rfl R0_118_7 ?_
  refine rn_iconst (k' := 33) rfl rfl ?_
  refine rn_iconst (k' := 34) rfl rfl ?_
  refine rn_iastore (k' := 35) rfl rfl K0_121 (by omega) (by omega) ?_
  refine rn_aload_n (k' := 36) rfl rfl rfl ?_
  refine rn_getR (k' := 37) rfl rfl K0_118 (by decide) rfl R0_118_7 ?_
  refine rn_iconst (k' := 38) rfl rfl ?_
  refine rn_bipush (k' := 39) rfl rfl ?_
  refine rn_iastore (k' := 40) rfl rfl K0_121 (by omega) (by omega) ?_
  refine rn_aload_n (k' := 41) rfl rfl rfl ?_
  refine rn_callP (k' := 42) (y := 175) (vs := [mR 118]) (S' := []) (v := none) (h' := mkh μ2 c s) rfl rfl rfl (hN) ?_
  show Rn PT none kX12_moor 42 [some (mR 118), some (mI (517))] [] (mkh μ2 c s) _
  exact K
abbrev mst0 (μ : Nat → Nat → Int) : Nat → Nat → Int := (m_set (m_set (m_set (m_set (m_set (m_set (m_set (m_set (m_set μ 118 0 (0)) 118 3 (μ 118 2)) 118 2 (0)) 118 4 (0)) 118 5 (900)) 118 15 (0)) 118 19 (0)) 118 20 (0)) 118 21 (0))
theorem mr_go {μ : Nat → Nat → Int} {c s : Nat} {Q : MR → Prop} (K : Rn PT none kX12_moor 30 [some (mR 118), some (mI 517)] [] (mkh (m_upd (mst0 μ) 121 (fl (fun _ => 0) (mst0 μ 121) 517)) c s) Q) : Cl PT 190 [mR 118] (mkh μ c s) Q := by
  refine ⟨_, PT_190, Nat.le_of_ble_eq_true rfl, ?_⟩
  show Rn PT none kX12_moor 0 [some (mR 118), none] [] (mkh μ c s) _
  refine rn_aload_n (k' := 1) rfl rfl rfl ?_
  refine rn_iconst (k' := 2) rfl rfl ?_
  refine rn_putI (k' := 3) rfl rfl K0_118 (by decide) rfl ?_
  refine rn_aload_n (k' := 4) rfl rfl rfl ?_
  refine rn_sipush (k' := 5) rfl rfl ?_
  refine rn_callP (k' := 6) (y := 166) (vs := [mR 118, mI (900)]) (S' := []) (v := none) (h' := mkh (m_set (m_set (m_set (m_set (m_set μ 118 0 (0)) 118 3 (μ 118 2)) 118 2 (0)) 118 4 (0)) 118 5 (900)) c s) rfl rfl rfl (c_taken (μ := (m_set μ 118 0 (0))) (c := c) (s := s)) ?_
  show Rn PT none kX12_moor 6 [some (mR 118), none] [] (mkh (m_set (m_set (m_set (m_set (m_set μ 118 0 (0)) 118 3 (μ 118 2)) 118 2 (0)) 118 4 (0)) 118 5 (900)) c s) _
  refine rn_aload_n (k' := 7) rfl rfl rfl ?_
  refine rn_iconst (k' := 8) rfl rfl ?_
  refine rn_putI (k' := 9) rfl rfl K0_118 (by decide) rfl ?_
  refine rn_aload_n (k' := 10) rfl rfl rfl ?_
  refine rn_iconst (k' := 11) rfl rfl ?_
  refine rn_putI (k' := 12) rfl rfl K0_118 (by decide) rfl ?_
  refine rn_aload_n (k' := 13) rfl rfl rfl ?_
  refine rn_iconst (k' := 14) rfl rfl ?_
  refine rn_putI (k' := 15) rfl rfl K0_118 (by decide) rfl ?_
  refine rn_aload_n (k' := 16) rfl rfl rfl ?_
  refine rn_iconst (k' := 17) rfl rfl ?_
  refine rn_putZ (k' := 18) rfl rfl K0_118 (by decide) rfl (by omega) ?_
  refine rn_iconst (k' := 19) rfl rfl ?_
  refine rn_istore_n (k' := 20) (L' := [some (mR 118), some (mI (0))]) rfl rfl (Nat.le_of_ble_eq_true rfl) rfl ?_
  have h := l_zero (μ := (m_set (m_set (m_set (m_set (m_set (m_set (m_set (m_set (m_set μ 118 0 (0)) 118 3 (μ 118 2)) 118 2 (0)) 118 4 (0)) 118 5 (900)) 118 15 (0)) 118 19 (0)) 118 20 (0)) 118 21 (0))) (c := c) (s := s) (Q := Q) K 517 0 0 rfl rfl
  rw [fl_0] at h
  exact h
theorem mr_125 {μ : Nat → Nat → Int} {c s : Nat} (h : 0 ≤ μ 120 499 ∧ μ 120 499 ≤ 1000) : Rn PT none kX12_moor 125 [some (mR 118), some (mI 8)] [] (mkh μ c s) (fun r => r = (some (some (mI (μ 118 19))), mkh (m_set (m_set μ 120 534 (μ 120 499 - 1)) 118 34 0) c s)) := by
  refine rn_aload_n (k' := 126) rfl rfl rfl ?_
  refine rn_getR (k' := 127) rfl rfl K0_118 (by decide) rfl R0_118_6 ?_
  refine rn_sipush (k' := 128) rfl rfl ?_
  refine rn_aload_n (k' := 129) rfl rfl rfl ?_
  refine rn_getR (k' := 130) rfl rfl K0_118 (by decide) rfl R0_118_6 ?_
  refine rn_sipush (k' := 131) rfl rfl ?_
  refine rn_iaload (k' := 132) rfl rfl K0_120 (by omega) (by omega) ?_
  show Rn PT none kX12_moor 132 [some (mR 118), some (mI (8))] [mI (μ 120 499), mI (534), mR 120] (mkh μ c s) _
  refine rn_iconst (k' := 133) rfl rfl ?_
  refine rn_isub (k' := 134) rfl rfl (by omega) ?_
  refine rn_iastore (k' := 135) rfl rfl K0_120 (by omega) (by omega) ?_
  refine rn_aload_n (k' := 136) rfl rfl rfl ?_
  refine rn_iconst (k' := 137) rfl rfl ?_
  refine rn_putI (k' := 138) rfl rfl K0_118 (by decide) rfl ?_
  refine rn_aload_n (k' := 139) rfl rfl rfl ?_
  refine rn_getI (k' := 140) rfl rfl K0_118 (by decide) rfl ?_
  show Rn PT none kX12_moor 140 [some (mR 118), some (mI (8))] [mI (μ 118 19)] (mkh (m_set (m_set μ 120 534 ((μ 120 499) - 1)) 118 34 (0)) c s) _
  refine rn_iret rfl (Or.inl rfl) ?_
  rfl
theorem mr_84 {μ : Nat → Nat → Int} {c s : Nat} {Q : MR → Prop} (K : Rn PT none kX12_moor 86 [some (mR 118), some (mI 0)] [] (mkh μ c s) Q) : Rn PT none kX12_moor 84 [some (mR 118), some (mI 657)] [] (mkh μ c s) Q := by
  refine rn_iconst (k' := 85) rfl rfl ?_
  refine rn_istore_n (k' := 86) (L' := [some (mR 118), some (mI (0))]) rfl rfl (Nat.le_of_ble_eq_true rfl) rfl ?_
  exact K
theorem mr_64 {μ : Nat → Nat → Int} {c s : Nat} {Q : MR → Prop} (K : Rn PT none kX12_moor 66 [some (mR 118), some (mI 0)] [] (mkh μ c s) Q) : Rn PT none kX12_moor 64 [some (mR 118), some (mI 517)] [] (mkh μ c s) Q := by
  refine rn_iconst (k' := 65) rfl rfl ?_
  refine rn_istore_n (k' := 66) (L' := [some (mR 118), some (mI (0))]) rfl rfl (Nat.le_of_ble_eq_true rfl) rfl ?_
  exact K
/-- after the lines: the moor taken -/
theorem mr_fin {μ : Nat → Nat → Int} {c s : Nat} (h : 0 ≤ μ 121 499 ∧ μ 121 499 ≤ 1000) : ∃ μ', (μ' 118 34 = 0 ∧ (∀ j, ¬ j = 34 → μ' 118 j = μ 118 j) ∧ (∀ r, ¬ r = 118 → ¬ r = 120 → ¬ r = 123 → μ' r = μ r) ∧ (∀ j, j < 517 → μ' 120 j = μ 121 j) ∧ μ' 120 517 = 0 ∧ (∀ j, j < 8 → μ' 120 (518 + j) = μ 121 (501 + j)) ∧ (∀ j, j < 8 → μ' 120 (526 + j) = μ 121 (509 + j)) ∧ μ' 120 534 = μ 121 499 - 1 ∧ (∀ j, 535 ≤ j → j < 657 → μ' 120 j = 0) ∧ (∀ j, j < 8 → μ' 123 j = μ 123 (8 + j))) ∧
    Rn PT none kX12_moor 64 [some (mR 118), some (mI 517)] [] (mkh μ c s) (fun r => r = (some (some (mI (μ 118 19))), mkh μ' c s)) := by
  have hz : Rn PT none kX12_moor 64 [some (mR 118), some (mI 517)] [] (mkh μ c s) (fun r => ∃ μ', r = (some (some (mI (μ 118 19))), mkh μ' c s) ∧ (μ' 118 34 = 0 ∧ (∀ j, ¬ j = 34 → μ' 118 j = μ 118 j) ∧ (∀ r, ¬ r = 118 → ¬ r = 120 → ¬ r = 123 → μ' r = μ r) ∧ (∀ j, j < 517 → μ' 120 j = μ 121 j) ∧ μ' 120 517 = 0 ∧ (∀ j, j < 8 → μ' 120 (518 + j) = μ 121 (501 + j)) ∧ (∀ j, j < 8 → μ' 120 (526 + j) = μ 121 (509 + j)) ∧ μ' 120 534 = μ 121 499 - 1 ∧ (∀ j, 535 ≤ j → j < 657 → μ' 120 j = 0) ∧ (∀ j, j < 8 → μ' 123 j = μ 123 (8 + j)))) := by
    refine mr_64 ?_
    have h0 := l_copy (μ := μ) (c := c) (s := s) (Q := (fun r => ∃ μ', r = (some (some (mI (μ 118 19))), mkh μ' c s) ∧ (μ' 118 34 = 0 ∧ (∀ j, ¬ j = 34 → μ' 118 j = μ 118 j) ∧ (∀ r, ¬ r = 118 → ¬ r = 120 → ¬ r = 123 → μ' r = μ r) ∧ (∀ j, j < 517 → μ' 120 j = μ 121 j) ∧ μ' 120 517 = 0 ∧ (∀ j, j < 8 → μ' 120 (518 + j) = μ 121 (501 + j)) ∧ (∀ j, j < 8 → μ' 120 (526 + j) = μ 121 (509 + j)) ∧ μ' 120 534 = μ 121 499 - 1 ∧ (∀ j, 535 ≤ j → j < 657 → μ' 120 j = 0) ∧ (∀ j, j < 8 → μ' 123 j = μ 123 (8 + j))))) ?_ 657 0 0 rfl rfl
    · rw [fl_0] at h0
      exact h0
    refine mr_84 ?_
    generalize hν : m_upd μ 120 (fl (gcp μ) (μ 120) 657) = ν
    have e120 : ∀ j, j < 657 → ν 120 j = gcp μ j := fun j hj => by rw [← hν]; exact fl_lt hj
    have eo : ∀ r, ¬ r = 120 → ν r = μ r := fun r hr => by rw [← hν]; exact row_upd hr
    have e1 : ∀ j, j < 517 → ν 120 j = μ 121 j := fun j hj => (e120 j (by omega)).trans (if_pos hj)
    have e2 : ∀ j, 517 ≤ j → j < 657 → ν 120 j = 0 := fun j hj hj2 => (e120 j hj2).trans (if_neg (by omega))
    have h1 := l_take8 (μ := ν) (c := c) (s := s) (Q := (fun r => ∃ μ', r = (some (some (mI (μ 118 19))), mkh μ' c s) ∧ (μ' 118 34 = 0 ∧ (∀ j, ¬ j = 34 → μ' 118 j = μ 118 j) ∧ (∀ r, ¬ r = 118 → ¬ r = 120 → ¬ r = 123 → μ' r = μ r) ∧ (∀ j, j < 517 → μ' 120 j = μ 121 j) ∧ μ' 120 517 = 0 ∧ (∀ j, j < 8 → μ' 120 (518 + j) = μ 121 (501 + j)) ∧ (∀ j, j < 8 → μ' 120 (526 + j) = μ 121 (509 + j)) ∧ μ' 120 534 = μ 121 499 - 1 ∧ (∀ j, 535 ≤ j → j < 657 → μ' 120 j = 0) ∧ (∀ j, j < 8 → μ' 123 j = μ 123 (8 + j))))) ?_ 8 0 0 (ν 120) (ν 123) rfl rfl (fun _ _ => rfl) (fun j hj => absurd hj (by omega)) (fun j hj => absurd hj (by omega)) (fun _ _ => rfl) (fun _ _ => rfl) (fun j hj => absurd hj (by omega))
    · rw [upd_self (μ := ν) (a := 120), upd_self (μ := ν) (a := 123)] at h1
      exact h1
    intro G W g1 g2 g3 g4 w1 w2
    have g499 : G 499 = μ 121 499 := (g1 499 (by decide)).trans (e1 499 (by decide))
    refine (mr_125 (μ := m_upd (m_upd ν 120 G) 123 W) (c := c) (s := s) (show 0 ≤ G 499 ∧ G 499 ≤ 1000 by omega)).mono ?_
    intro r hr
    have e118 := eo 118 (by decide)
    refine ⟨_, hr.trans (by rw [show m_upd (m_upd ν 120 G) 123 W 118 19 = ν 118 19 from rfl, e118]), rfl, ?_, ?_, ?_, ?_, ?_, ?_, ?_, ?_, ?_⟩
    · intro j hj
      refine (set_mis hj).trans ?_
      show ν 118 j = μ 118 j
      rw [e118]
    · intro r h1 h2 h3
      rw [row_set h1, row_set h2, row_upd h3, row_upd h2]
      exact eo r h2
    · intro j hj
      refine (set_mis (μ := m_upd (m_upd ν 120 G) 123 W) (show ¬ j = 534 by omega)).trans ?_
      exact (g1 j (by omega)).trans (e1 j hj)
    · exact (g1 517 (by decide)).trans (e2 517 (by decide) (by decide))
    · intro j hj
      refine (set_mis (μ := m_upd (m_upd ν 120 G) 123 W) (show ¬ 518 + j = 534 by omega)).trans ?_
      exact (g2 j hj).trans (e1 _ (by omega))
    · intro j hj
      refine (set_mis (μ := m_upd (m_upd ν 120 G) 123 W) (show ¬ 526 + j = 534 by omega)).trans ?_
      exact (g3 j hj).trans (e1 _ (by omega))
    · show G 499 - 1 = μ 121 499 - 1
      omega
    · intro j hj hj2
      refine (set_mis (μ := m_upd (m_upd ν 120 G) 123 W) (show ¬ j = 534 by omega)).trans ?_
      exact (g4 j (by omega)).trans (e2 j (by omega) hj2)
    · intro j hj
      refine Eq.trans (w2 j hj) ?_
      rw [eo 123 (by decide)]
  obtain ⟨n, r, e1, μ', e2, e3⟩ := hz
  exact ⟨μ', e3, n, r, e1, e2⟩
