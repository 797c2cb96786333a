variable {N : Int}
/-! ===== printed by wip/whole/gen75.py: round, nights of the model ===== -/
/-- the model's row T tells the state st, else it is as before -/
def RT (n : Int) (o120 : Nat → Int) (st : HT) (T : Nat → Int) : Prop := (∀ j : Nat, (j : Int) < n → T (526 + j) = st.1 j) ∧ T 534 = st.2.1 ∧ T 535 = st.2.2 ∧ ∀ k, (k < 526 ∨ 535 < k) → T k = o120 k
set_option maxHeartbeats 4000000 in
theorem c_round {μ : Nat → Nat → Int} {c s : Nat} (hL : I_land μ) (hw : 0 ≤ μ 118 22 ∧ μ 118 22 ≤ 1000) {B : Int} (hB : B ≤ 1000100) (h0 : hOK μ (fun j => μ 120 (518 + j)) B ((fun j => μ 120 (526 + j)), μ 120 534, μ 120 535)) : Cl PT 236 [mR 118] (mkh μ c s) (fun r => ∃ F q T, r = (some none, mkh (m_upd (m_upd (m_upd μ 125 F) 126 q) 120 T) c s) ∧ RT (μ 6 13) (μ 120) (hun μ (μ 118 22) (fun j => μ 120 (518 + j)) ((fun j => μ 120 (526 + j)), μ 120 534, μ 120 535)) T) := by
  have hL_ := hL
  obtain ⟨lc, lr, le, lm, lw, lh, lwo, lwd, q0, q1, q2, q3, q4, q8, q499, q500, lth, lG, lT, lW, -⟩ := hL_
  have h0_ := h0
  obtain ⟨k1, k2, k3, k4⟩ := h0_
  have k1 : g_cell μ (μ 120 534) := k1
  have k2 : ∀ j : Nat, (j : Int) < μ 6 13 → 0 ≤ μ 120 (526 + j) ∧ μ 120 (526 + j) ≤ 99 := k2
  have k3 : 0 ≤ μ 120 535 ∧ μ 120 535 ≤ B := k3
  have k4 : ∀ j : Nat, (j : Int) < μ 6 13 → g_cell μ (μ 120 (518 + j)) := k4
  have kwb := g_cell_b hL k1
  obtain ⟨F, q, hF, hcl1⟩ := c_spread_w (μ := μ) (c := c) (s := s) hL hw k1
  have hbb := ba_b (f := hel μ (μ 118 22) (fun j => μ 120 (518 + j)) ((fun j => μ 120 (526 + j)), μ 120 534, μ 120 535)) (μ 6 13).toNat
  rcases (show ba (hel μ (μ 118 22) (fun j => μ 120 (518 + j)) ((fun j => μ 120 (526 + j)), μ 120 534, μ 120 535)) (μ 6 13).toNat = -1 ∨ 0 ≤ ba (hel μ (μ 118 22) (fun j => μ 120 (518 + j)) ((fun j => μ 120 (526 + j)), μ 120 534, μ 120 535)) (μ 6 13).toNat by omega) with hb | hb
  · skip
    refine ⟨_, PT_236, Nat.le_of_ble_eq_true rfl, ?_⟩
    show Rn PT none kX12_round 0 [some (mR 118), none, none, none, none, none, none] [] (mkh μ c s) _
    refine rn_aload_n (k' := 1) rfl rfl rfl ?_
    refine rn_aload_n (k' := 2) rfl rfl rfl ?_
    refine rn_getR (k' := 3) rfl rfl K0_118 (by decide) rfl R0_118_6 ?_
    refine rn_sipush (k' := 4) rfl rfl ?_
    refine rn_iaload (k' := 5) rfl rfl K0_120 (by omega) (by omega) ?_
    show Rn PT none kX12_round 5 [some (mR 118), none, none, none, none, none, none] [mI (μ 120 534), mR 118] (mkh μ c s) _
    refine rn_iconst (k' := 6) rfl rfl ?_
    refine rn_callP (k' := 7) (y := 212) (vs := [mR 118, mI (μ 120 534), mI (-1)]) (S' := []) (v := none) (h' := mkh (m_upd (m_upd μ 125 F) 126 q) c s) rfl rfl rfl (hcl1) ?_
    show Rn PT none kX12_round 7 [some (mR 118), none, none, none, none, none, none] [] (mkh (m_upd (m_upd μ 125 F) 126 q) c s) _
    refine rn_iconst (k' := 8) rfl rfl ?_
    refine rn_istore_n (k' := 9) (L' := [some (mR 118), some (mI (-1)), none, none, none, none, none]) rfl rfl (Nat.le_of_ble_eq_true rfl) rfl ?_
    refine rn_iconst (k' := 10) rfl rfl ?_
    refine rn_istore_n (k' := 11) (L' := [some (mR 118), some (mI (-1)), some (mI (0)), none, none, none, none]) rfl rfl (Nat.le_of_ble_eq_true rfl) rfl ?_
    refine l_round hL hw hB h0 hF (v3 := none) (v4 := none) (v5 := none) (v6 := none) ?_ (μ 6 13).toNat 0 _ _ rfl (by omega) rfl
    rw [hb]
    refine rn_iload_n (k' := 61) rfl rfl rfl ?_
    refine rn_if_ge (k' := 62) rfl rfl (fun hc1 => ?_) (fun hc1 => ?_)
    · exfalso; omega
    · skip
      refine rn_vret rfl ?_
      refine ⟨F, q, μ 120, ?_, ?_⟩
      · rw [show m_upd (m_upd (m_upd μ 125 F) 126 q) 120 (μ 120) = (m_upd (m_upd μ 125 F) 126 q) from upd_self (μ := (m_upd (m_upd μ 125 F) 126 q)) (a := 120)]
      · rw [hun_stay hb]
        exact ⟨fun j _ => rfl, rfl, rfl, fun k _ => rfl⟩
  · obtain ⟨m, hb⟩ := Int.eq_ofNat_of_zero_le hb
    obtain ⟨f1, f2, f3⟩ := hel_found hb
    have f2 : 0 < μ 120 (526 + m) := f2
    have f3 : ¬ wF μ (μ 118 22) (μ 120 534) (μ 120 (518 + m)).toNat = -1 := f3
    have hm99 := k2 m f1
    have hmc := k4 m f1
    have hmcb := g_cell_b hL hmc
    by_cases hc0 : μ 120 (518 + m) = μ 120 534
    · skip
      refine ⟨_, PT_236, Nat.le_of_ble_eq_true rfl, ?_⟩
      show Rn PT none kX12_round 0 [some (mR 118), none, none, none, none, none, none] [] (mkh μ c s) _
      refine rn_aload_n (k' := 1) rfl rfl rfl ?_
      refine rn_aload_n (k' := 2) rfl rfl rfl ?_
      refine rn_getR (k' := 3) rfl rfl K0_118 (by decide) rfl R0_118_6 ?_
      refine rn_sipush (k' := 4) rfl rfl ?_
      refine rn_iaload (k' := 5) rfl rfl K0_120 (by omega) (by omega) ?_
      show Rn PT none kX12_round 5 [some (mR 118), none, none, none, none, none, none] [mI (μ 120 534), mR 118] (mkh μ c s) _
      refine rn_iconst (k' := 6) rfl rfl ?_
      refine rn_callP (k' := 7) (y := 212) (vs := [mR 118, mI (μ 120 534), mI (-1)]) (S' := []) (v := none) (h' := mkh (m_upd (m_upd μ 125 F) 126 q) c s) rfl rfl rfl (hcl1) ?_
      show Rn PT none kX12_round 7 [some (mR 118), none, none, none, none, none, none] [] (mkh (m_upd (m_upd μ 125 F) 126 q) c s) _
      refine rn_iconst (k' := 8) rfl rfl ?_
      refine rn_istore_n (k' := 9) (L' := [some (mR 118), some (mI (-1)), none, none, none, none, none]) rfl rfl (Nat.le_of_ble_eq_true rfl) rfl ?_
      refine rn_iconst (k' := 10) rfl rfl ?_
      refine rn_istore_n (k' := 11) (L' := [some (mR 118), some (mI (-1)), some (mI (0)), none, none, none, none]) rfl rfl (Nat.le_of_ble_eq_true rfl) rfl ?_
      refine l_round hL hw hB h0 hF (v3 := none) (v4 := none) (v5 := none) (v6 := none) ?_ (μ 6 13).toNat 0 _ _ rfl (by omega) rfl
      have z535 : m_set (m_upd (m_upd μ 125 F) 126 q) 120 (526 + m) (μ 120 (526 + m) - 1) 120 535 = μ 120 535 := m_set_ne _ _ (by omega)
      rw [hb]
      refine rn_iload_n (k' := 61) rfl rfl rfl ?_
      refine rn_if_ge (k' := 62) rfl rfl (fun hc1 => ?_) (fun hc1 => ?_)
      · skip
        refine rn_aload_n (k' := 64) rfl rfl rfl ?_
        refine rn_getR (k' := 65) rfl rfl K0_118 (by decide) rfl R0_118_6 ?_
        refine rn_sipush (k' := 66) rfl rfl ?_
        refine rn_iload_n (k' := 67) rfl rfl rfl ?_
        refine rn_iadd (k' := 68) rfl rfl (by omega) ?_
        refine rn_iaload (k' := 69) rfl rfl K0_120 (by omega) (by omega) ?_
        show Rn PT none kX12_round 69 [some (mR 118), some (mI ((m : Int))), some (mI (μ 6 13)), none, none, none, none] [mI (μ 120 (518 + m))] (mkh (m_upd (m_upd μ 125 F) 126 q) c s) _
        refine rn_aload_n (k' := 70) rfl rfl rfl ?_
        refine rn_getR (k' := 71) rfl rfl K0_118 (by decide) rfl R0_118_6 ?_
        refine rn_sipush (k' := 72) rfl rfl ?_
        refine rn_iaload (k' := 73) rfl rfl K0_120 (by omega) (by omega) ?_
        show Rn PT none kX12_round 73 [some (mR 118), some (mI ((m : Int))), some (mI (μ 6 13)), none, none, none, none] [mI (μ 120 534), mI (μ 120 (518 + m))] (mkh (m_upd (m_upd μ 125 F) 126 q) c s) _
        refine rn_icmp_ne (k' := 74) rfl rfl (fun hc2 => ?_) (fun hc2 => ?_)
        · exfalso; omega
        · skip
          refine rn_aload_n (k' := 75) rfl rfl rfl ?_
          refine rn_getR (k' := 76) rfl rfl K0_118 (by decide) rfl R0_118_6 ?_
          refine rn_sipush (k' := 77) rfl rfl ?_
          refine rn_iload_n (k' := 78) rfl rfl rfl ?_
          refine rn_iadd (k' := 79) rfl rfl (by omega) ?_
          refine rn_dup2 (k' := 80) rfl rfl ?_
          refine rn_iaload (k' := 81) rfl rfl K0_120 (by omega) (by omega) ?_
          show Rn PT none kX12_round 81 [some (mR 118), some (mI ((m : Int))), some (mI (μ 6 13)), none, none, none, none] [mI (μ 120 (526 + m)), mI (526 + (m : Int)), mR 120] (mkh (m_upd (m_upd μ 125 F) 126 q) c s) _
          refine rn_iconst (k' := 82) rfl rfl ?_
          refine rn_isub (k' := 83) rfl rfl (by omega) ?_
          refine rn_iastore (k' := 84) rfl rfl K0_120 (by omega) (by omega) ?_
          refine rn_aload_n (k' := 85) rfl rfl rfl ?_
          refine rn_getR (k' := 86) rfl rfl K0_118 (by decide) rfl R0_118_6 ?_
          refine rn_sipush (k' := 87) rfl rfl ?_
          refine rn_dup2 (k' := 88) rfl rfl ?_
          refine rn_iaload (k' := 89) rfl rfl K0_120 (by omega) (by omega) ?_
          show Rn PT none kX12_round 89 [some (mR 118), some (mI ((m : Int))), some (mI (μ 6 13)), none, none, none, none] [mI ((m_set (m_upd (m_upd μ 125 F) 126 q) 120 (526 + m) ((μ 120 (526 + m)) - 1)) 120 535), mI (535), mR 120] (mkh (m_set (m_upd (m_upd μ 125 F) 126 q) 120 (526 + m) ((μ 120 (526 + m)) - 1)) c s) _
          rw [z535]
          refine rn_iconst (k' := 90) rfl rfl ?_
          refine rn_iadd (k' := 91) rfl rfl (by omega) ?_
          refine rn_iastore (k' := 92) rfl rfl K0_120 (by omega) (by omega) ?_
          refine rn_vret rfl ?_
          refine ⟨F, q, fs (fs (μ 120) (526 + m) (μ 120 (526 + m) - 1)) 535 (μ 120 535 + 1), ?_, ?_⟩
          · refine congrArg (fun z => ((some none : Option (Option MV)), mkh z c s)) ?_
            show m_set (m_set (m_upd (m_upd μ 125 F) 126 q) 120 (526 + m) (μ 120 (526 + m) - 1)) 120 535 (μ 120 535 + 1) = _
            rw [set_is_upd (μ := (m_upd (m_upd μ 125 F) 126 q)), set_upd_eq]
            rfl
          · rw [hun_take hb hc0]
            refine ⟨fun j hj => ?_, ?_, ?_, fun k hk => ?_⟩
            · rw [fs_ne (by omega)]
              show fs (μ 120) (526 + m) (μ 120 (526 + m) - 1) (526 + j) = fs (fun j => μ 120 (526 + j)) m (μ 120 (526 + m) - 1) j
              unfold fs
              by_cases e : j = m
              · rw [if_pos (by omega), if_pos e]
              · rw [if_neg (by omega), if_neg e]
            · rw [fs_ne (by omega), fs_ne (by omega)]
            · rw [fs_eq]
            · rw [fs_ne (by omega), fs_ne (by omega)]
      · exfalso; omega
    · have hto : g_dep μ (μ 120 (518 + m)) (μ 118 22) ≤ μ 6 15 := (bfs_open (O := fun z => g_dep μ z (μ 118 22) ≤ μ 6 15) (g_GR hL) k1 hmc f3).resolve_left hc0
      obtain ⟨F2, q2, hF2, hcl2⟩ := c_spread_w (μ := (m_upd (m_upd μ 125 F) 126 q)) (c := c) (s := s) ((hL.upd rfl).upd rfl) hw (a := μ 120 (518 + m)) hmc
      rw [wF_rows (ν := (m_upd (m_upd μ 125 F) 126 q)) (μ := μ) rfl rfl] at hF2
      rw [updupd (by decide)] at hcl2
      have hF3 : ∀ j, j < 100 → F2 j = fv (wF μ (μ 118 22) (μ 120 (518 + m)) j) := hF2
      have hx := hunt_exit (W := μ 118 22) hL k1 hmc hc0 f3
      have hx3 := ba_b (f := gdir μ (wF μ (μ 118 22) (μ 120 (518 + m))) (μ 120 534)) 4
      refine ⟨_, PT_236, Nat.le_of_ble_eq_true rfl, ?_⟩
      show Rn PT none kX12_round 0 [some (mR 118), none, none, none, none, none, none] [] (mkh μ c s) _
      refine rn_aload_n (k' := 1) rfl rfl rfl ?_
      refine rn_aload_n (k' := 2) rfl rfl rfl ?_
      refine rn_getR (k' := 3) rfl rfl K0_118 (by decide) rfl R0_118_6 ?_
      refine rn_sipush (k' := 4) rfl rfl ?_
      refine rn_iaload (k' := 5) rfl rfl K0_120 (by omega) (by omega) ?_
      show Rn PT none kX12_round 5 [some (mR 118), none, none, none, none, none, none] [mI (μ 120 534), mR 118] (mkh μ c s) _
      refine rn_iconst (k' := 6) rfl rfl ?_
      refine rn_callP (k' := 7) (y := 212) (vs := [mR 118, mI (μ 120 534), mI (-1)]) (S' := []) (v := none) (h' := mkh (m_upd (m_upd μ 125 F) 126 q) c s) rfl rfl rfl (hcl1) ?_
      show Rn PT none kX12_round 7 [some (mR 118), none, none, none, none, none, none] [] (mkh (m_upd (m_upd μ 125 F) 126 q) c s) _
      refine rn_iconst (k' := 8) rfl rfl ?_
      refine rn_istore_n (k' := 9) (L' := [some (mR 118), some (mI (-1)), none, none, none, none, none]) rfl rfl (Nat.le_of_ble_eq_true rfl) rfl ?_
      refine rn_iconst (k' := 10) rfl rfl ?_
      refine rn_istore_n (k' := 11) (L' := [some (mR 118), some (mI (-1)), some (mI (0)), none, none, none, none]) rfl rfl (Nat.le_of_ble_eq_true rfl) rfl ?_
      refine l_round hL hw hB h0 hF (v3 := none) (v4 := none) (v5 := none) (v6 := none) ?_ (μ 6 13).toNat 0 _ _ rfl (by omega) rfl
      rw [hb]
      refine rn_iload_n (k' := 61) rfl rfl rfl ?_
      refine rn_if_ge (k' := 62) rfl rfl (fun hc1 => ?_) (fun hc1 => ?_)
      · skip
        refine rn_aload_n (k' := 64) rfl rfl rfl ?_
        refine rn_getR (k' := 65) rfl rfl K0_118 (by decide) rfl R0_118_6 ?_
        refine rn_sipush (k' := 66) rfl rfl ?_
        refine rn_iload_n (k' := 67) rfl rfl rfl ?_
        refine rn_iadd (k' := 68) rfl rfl (by omega) ?_
        refine rn_iaload (k' := 69) rfl rfl K0_120 (by omega) (by omega) ?_
        show Rn PT none kX12_round 69 [some (mR 118), some (mI ((m : Int))), some (mI (μ 6 13)), none, none, none, none] [mI (μ 120 (518 + m))] (mkh (m_upd (m_upd μ 125 F) 126 q) c s) _
        refine rn_aload_n (k' := 70) rfl rfl rfl ?_
        refine rn_getR (k' := 71) rfl rfl K0_118 (by decide) rfl R0_118_6 ?_
        refine rn_sipush (k' := 72) rfl rfl ?_
        refine rn_iaload (k' := 73) rfl rfl K0_120 (by omega) (by omega) ?_
        show Rn PT none kX12_round 73 [some (mR 118), some (mI ((m : Int))), some (mI (μ 6 13)), none, none, none, none] [mI (μ 120 534), mI (μ 120 (518 + m))] (mkh (m_upd (m_upd μ 125 F) 126 q) c s) _
        refine rn_icmp_ne (k' := 74) rfl rfl (fun hc2 => ?_) (fun hc2 => ?_)
        · skip
          refine rn_aload_n (k' := 94) rfl rfl rfl ?_
          refine rn_getR (k' := 95) rfl rfl K0_118 (by decide) rfl R0_118_6 ?_
          refine rn_sipush (k' := 96) rfl rfl ?_
          refine rn_iload_n (k' := 97) rfl rfl rfl ?_
          refine rn_iadd (k' := 98) rfl rfl (by omega) ?_
          refine rn_iaload (k' := 99) rfl rfl K0_120 (by omega) (by omega) ?_
          show Rn PT none kX12_round 99 [some (mR 118), some (mI ((m : Int))), some (mI (μ 6 13)), none, none, none, none] [mI (μ 120 (518 + m))] (mkh (m_upd (m_upd μ 125 F) 126 q) c s) _
          refine rn_istore_n (k' := 100) (L' := [some (mR 118), some (mI ((m : Int))), some (mI (μ 120 (518 + m))), none, none, none, none]) rfl rfl (Nat.le_of_ble_eq_true rfl) rfl ?_
          refine rn_aload_n (k' := 101) rfl rfl rfl ?_
          refine rn_iload_n (k' := 102) rfl rfl rfl ?_
          refine rn_iconst (k' := 103) rfl rfl ?_
          refine rn_callP (k' := 104) (y := 212) (vs := [mR 118, mI (μ 120 (518 + m)), mI (-1)]) (S' := []) (v := none) (h' := mkh (m_upd (m_upd μ 125 F2) 126 q2) c s) rfl rfl rfl (hcl2) ?_
          show Rn PT none kX12_round 104 [some (mR 118), some (mI ((m : Int))), some (mI (μ 120 (518 + m))), none, none, none, none] [] (mkh (m_upd (m_upd μ 125 F2) 126 q2) c s) _
          refine rn_iconst (k' := 105) rfl rfl ?_
          refine rn_istore_n (k' := 106) (L' := [some (mR 118), some (mI ((m : Int))), some (mI (μ 120 (518 + m))), some (mI (0)), none, none, none]) rfl rfl (Nat.le_of_ble_eq_true rfl) rfl ?_
          refine rn_ldc_w (k' := 107) rfl rfl ?_
          refine rn_istore (k' := 108) (L' := [some (mR 118), some (mI ((m : Int))), some (mI (μ 120 (518 + m))), some (mI (0)), some (mI (1000000000)), none, none]) rfl rfl (Nat.le_of_ble_eq_true rfl) rfl ?_
          refine rn_iconst (k' := 109) rfl rfl ?_
          refine rn_istore (k' := 110) (L' := [some (mR 118), some (mI ((m : Int))), some (mI (μ 120 (518 + m))), some (mI (0)), some (mI (1000000000)), some (mI (0)), none]) rfl rfl (Nat.le_of_ble_eq_true rfl) rfl ?_
          refine l_dir hL hw k1 (to := μ 120 (518 + m)) (be := (m : Int)) hmc hto hF3 (fun v6 => ?_) 4 0 _ _ _ _ rfl rfl rfl rfl
          rw [nz_p hx]
          refine rn_aload_n (k' := 147) rfl rfl rfl ?_
          refine rn_getR (k' := 148) rfl rfl K0_118 (by decide) rfl R0_118_6 ?_
          refine rn_sipush (k' := 149) rfl rfl ?_
          refine rn_aload_n (k' := 150) rfl rfl rfl ?_
          refine rn_aload_n (k' := 151) rfl rfl rfl ?_
          refine rn_getR (k' := 152) rfl rfl K0_118 (by decide) rfl R0_118_6 ?_
          refine rn_sipush (k' := 153) rfl rfl ?_
          refine rn_iaload (k' := 154) rfl rfl K0_120 (by omega) (by omega) ?_
          show Rn PT none kX12_round 154 [some (mR 118), some (mI ((m : Int))), some (mI (μ 120 (518 + m))), some (mI (ba (gdir μ (wF μ (μ 118 22) (μ 120 (518 + m))) (μ 120 534)) 4)), some (mI (lst (gdir μ (wF μ (μ 118 22) (μ 120 (518 + m))) (μ 120 534)) (ba (gdir μ (wF μ (μ 118 22) (μ 120 (518 + m))) (μ 120 534)) 4))), some (mI (4)), v6] [mI (μ 120 534), mR 118, mI (534), mR 120] (mkh (m_upd (m_upd μ 125 F2) 126 q2) c s) _
          refine rn_iload_n (k' := 155) rfl rfl rfl ?_
          refine rn_callP (k' := 156) (y := 211) (vs := [mR 118, mI (μ 120 534), mI (ba (gdir μ (wF μ (μ 118 22) (μ 120 (518 + m))) (μ 120 534)) 4)]) (S' := [mI (534), mR 120]) (v := some (mI (g_nb μ (μ 120 534) (ba (gdir μ (wF μ (μ 118 22) (μ 120 (518 + m))) (μ 120 534)) 4)))) (h' := mkh (m_upd (m_upd μ 125 F2) 126 q2) c s) rfl rfl rfl (c_X12_beside (μ := (m_upd (m_upd μ 125 F2) 126 q2)) (c := c) (s := s) (((hL).upd rfl).upd rfl) (a := μ 120 534) (d := ba (gdir μ (wF μ (μ 118 22) (μ 120 (518 + m))) (μ 120 534)) 4) k1 (by omega)) ?_
          show Rn PT none kX12_round 156 [some (mR 118), some (mI ((m : Int))), some (mI (μ 120 (518 + m))), some (mI (ba (gdir μ (wF μ (μ 118 22) (μ 120 (518 + m))) (μ 120 534)) 4)), some (mI (lst (gdir μ (wF μ (μ 118 22) (μ 120 (518 + m))) (μ 120 534)) (ba (gdir μ (wF μ (μ 118 22) (μ 120 (518 + m))) (μ 120 534)) 4))), some (mI (4)), v6] [mI (g_nb μ (μ 120 534) (ba (gdir μ (wF μ (μ 118 22) (μ 120 (518 + m))) (μ 120 534)) 4)), mI (534), mR 120] (mkh (m_upd (m_upd μ 125 F2) 126 q2) c s) _
          refine rn_iastore (k' := 157) rfl rfl K0_120 (by omega) (by omega) ?_
          refine rn_vret rfl ?_
          refine ⟨F2, q2, fs (μ 120) 534 (g_nb μ (μ 120 534) (ba (gdir μ (wF μ (μ 118 22) (μ 120 (518 + m))) (μ 120 534)) 4)), ?_, ?_⟩
          · refine congrArg (fun z => ((some none : Option (Option MV)), mkh z c s)) ?_
            rw [set_is_upd (μ := (m_upd (m_upd μ 125 F2) 126 q2))]
            rfl
          · rw [hun_go hb hc0]
            refine ⟨fun j hj => ?_, ?_, ?_, fun k hk => ?_⟩
            · rw [fs_ne (by omega)]
            · rw [fs_eq]
            · rw [fs_ne (by omega)]
            · rw [fs_ne (by omega)]
        · exfalso; omega
      · exfalso; omega
theorem Cl.ex3b {y : Nat} {vs : List MV} {h : MH} {α β γ : Type} {P : α → β → γ → Prop} {g : α → β → γ → MR} (hc : Cl PT y vs h (fun r => ∃ a b d, r = g a b d ∧ P a b d)) : ∃ a b d, P a b d ∧ Cl PT y vs h (fun r => r = g a b d) := by
  obtain ⟨M, e1, e2, n, r, e3, a, b, d, e4, e5⟩ := hc
  exact ⟨a, b, d, e5, M, e1, e2, n, r, e3, e4⟩
set_option maxHeartbeats 4000000 in
theorem l_nights {μ : Nat → Nat → Int} {c s : Nat} (hL : I_land μ) (hd : 0 ≤ μ 120 517 ∧ μ 120 517 ≤ 29) {B : Int} (hB : B ≤ 1000000) (h0 : hOK μ (fun j => μ 120 (518 + j)) B ((fun j => μ 120 (526 + j)), μ 120 534, μ 120 535)) {R : Nat} (hR : R ≤ 20) : ∀ (d n : Nat) (k : Int) (F q T : Nat → Int), k = (n : Int) → n + d = R → RT (μ 6 13) (μ 120) (hunt μ (g_w μ 0 (μ 120 517)) (fun j => μ 120 (518 + j)) ((fun j => μ 120 (526 + j)), μ 120 534, μ 120 535) n) T → Rn PT none kX12_nights 13 [some (mR 118), some (mI ((R : Int))), some (mI (μ 120 535)), some (mI (k))] [] (mkh (m_upd (m_upd (m_upd (m_set (m_set μ 118 22 (g_w μ 0 (μ 120 517))) 118 23 (g_w μ 1 (μ 120 517))) 125 F) 126 q) 120 T) c s) (fun r => ∃ F q T, r = (some (some (mI (T 535 - μ 120 535))), mkh (m_upd (m_upd (m_upd (m_set (m_set μ 118 22 (g_w μ 0 (μ 120 517))) 118 23 (g_w μ 1 (μ 120 517))) 125 F) 126 q) 120 T) c s) ∧ RT (μ 6 13) (μ 120) (hunt μ (g_w μ 0 (μ 120 517)) (fun j => μ 120 (518 + j)) ((fun j => μ 120 (526 + j)), μ 120 534, μ 120 535) R) T) := by
  have hL_ := hL
  obtain ⟨lc, lr, le, lm, lw, lh, lwo, lwd, q0, q1, q2, q3, q4, q8, q499, q500, lth, lG, lT, lW, -⟩ := hL_
  have hwb := g_w_b hL 0 (μ 120 517)
  intro d
  induction d with
  | zero =>
    intro n k F q T ek hn hT
    subst ek
    have hok := hunt_ok hL (W := g_w μ 0 (μ 120 517)) h0 n
    have ht5 : T 535 = (hunt μ (g_w μ 0 (μ 120 517)) (fun j => μ 120 (518 + j)) ((fun j => μ 120 (526 + j)), μ 120 534, μ 120 535) n).2.2 := hT.2.2.1
    have ho5 := hok.2.2.1
    have h05 := h0.2.2.1
    have h05 : 0 ≤ μ 120 535 ∧ μ 120 535 ≤ B := h05
    refine rn_iload_n (k' := 14) rfl rfl rfl ?_
    refine rn_iload_n (k' := 15) rfl rfl rfl ?_
    refine rn_icmp_ge (k' := 16) rfl rfl (fun hc1 => ?_) (fun hc1 => ?_)
    · skip
      refine rn_aload_n (k' := 21) rfl rfl rfl ?_
      refine rn_getR (k' := 22) rfl rfl K0_118 (by decide) rfl R0_118_6 ?_
      refine rn_sipush (k' := 23) rfl rfl ?_
      refine rn_iaload (k' := 24) rfl rfl K0_120 (by omega) (by omega) ?_
      show Rn PT none kX12_nights 24 [some (mR 118), some (mI ((R : Int))), some (mI (μ 120 535)), some (mI ((n : Int)))] [mI (T 535)] (mkh (m_upd (m_upd (m_upd (m_set (m_set μ 118 22 (g_w μ 0 (μ 120 517))) 118 23 (g_w μ 1 (μ 120 517))) 125 F) 126 q) 120 T) c s) _
      refine rn_iload_n (k' := 25) rfl rfl rfl ?_
      refine rn_isub (k' := 26) rfl rfl (by omega) ?_
      refine rn_iret rfl (Or.inl rfl) ?_
      exact ⟨F, q, T, rfl, by rw [show R = n by omega]; exact hT⟩
    · exfalso; omega
  | succ d ih =>
    intro n k F q T ek hn hT
    subst ek
    obtain ⟨t1, t2, t3, t4⟩ := hT
    have hok := hunt_ok hL (W := g_w μ 0 (μ 120 517)) h0 n
    have hok2 : hOK μ (fun j => T (518 + j)) (B + n) ((fun j => T (526 + j)), T 534, T 535) := by
      obtain ⟨a1, a2, a3, a4⟩ := hok
      refine ⟨by show g_cell μ (T 534); rw [t2]; exact a1, fun j hj => by show 0 ≤ T (526 + j) ∧ T (526 + j) ≤ 99; rw [t1 j hj]; exact a2 j hj, by show 0 ≤ T 535 ∧ T 535 ≤ B + n; rw [t3]; exact a3, fun j hj => ?_⟩
      show g_cell μ (T (518 + j))
      rw [t4 _ (by omega)]
      exact a4 j hj
    obtain ⟨F2, q2, T2, hT2, hrd⟩ := Cl.ex3b (g := fun F2 q2 T2 => (some none, mkh (m_upd (m_upd (m_upd (m_upd (m_upd (m_upd (m_set (m_set μ 118 22 (g_w μ 0 (μ 120 517))) 118 23 (g_w μ 1 (μ 120 517))) 125 F) 126 q) 120 T) 125 F2) 126 q2) 120 T2) c s)) (c_round (μ := (m_upd (m_upd (m_upd (m_set (m_set μ 118 22 (g_w μ 0 (μ 120 517))) 118 23 (g_w μ 1 (μ 120 517))) 125 F) 126 q) 120 T)) (c := c) (s := s) (hL.congr rfl rfl rfl rfl rfl (fun j hj => t4 j (by omega))) (by show 0 ≤ g_w μ 0 (μ 120 517) ∧ g_w μ 0 (μ 120 517) ≤ 1000; omega) (B := B + n) (by omega) hok2)
    rw [upd3 (by decide) (by decide) (by decide)] at hrd
    rw [hun_rows (ν := (m_upd (m_upd (m_upd (m_set (m_set μ 118 22 (g_w μ 0 (μ 120 517))) 118 23 (g_w μ 1 (μ 120 517))) 125 F) 126 q) 120 T)) (μ := μ) rfl rfl] at hT2
    have hT3 : RT (μ 6 13) T (hun μ (g_w μ 0 (μ 120 517)) (fun j => T (518 + j)) ((fun j => T (526 + j)), T 534, T 535)) T2 := hT2
    have hcg := hun_congr (μ := μ) (W := g_w μ 0 (μ 120 517)) (cl := fun j => T (518 + j)) (cl' := (fun j => μ 120 (518 + j))) (st := ((fun j => T (526 + j)), T 534, T 535)) (st' := hunt μ (g_w μ 0 (μ 120 517)) (fun j => μ 120 (518 + j)) ((fun j => μ 120 (526 + j)), μ 120 534, μ 120 535) n) (fun j hj => t4 _ (by omega)) t1 (by show (T 534, T 535) = _; rw [t2, t3])
    have hT4 : RT (μ 6 13) (μ 120) (hunt μ (g_w μ 0 (μ 120 517)) (fun j => μ 120 (518 + j)) ((fun j => μ 120 (526 + j)), μ 120 534, μ 120 535) (n + 1)) T2 := by
      obtain ⟨b1, b2, b3, b4⟩ := hT3
      refine ⟨fun j hj => (b1 j hj).trans (hcg.1 j hj), b2.trans (by rw [hcg.2]; rfl), b3.trans (by rw [hcg.2]; rfl), fun k hk => (b4 k hk).trans (t4 k hk)⟩
    refine rn_iload_n (k' := 14) rfl rfl rfl ?_
    refine rn_iload_n (k' := 15) rfl rfl rfl ?_
    refine rn_icmp_ge (k' := 16) rfl rfl (fun hc1 => ?_) (fun hc1 => ?_)
    · exfalso; omega
    · skip
      refine rn_aload_n (k' := 17) rfl rfl rfl ?_
      refine rn_callP (k' := 18) (y := 236) (vs := [mR 118]) (S' := []) (v := none) (h' := mkh (m_upd (m_upd (m_upd (m_set (m_set μ 118 22 (g_w μ 0 (μ 120 517))) 118 23 (g_w μ 1 (μ 120 517))) 125 F2) 126 q2) 120 T2) c s) rfl rfl rfl (hrd) ?_
      show Rn PT none kX12_nights 18 [some (mR 118), some (mI ((R : Int))), some (mI (μ 120 535)), some (mI ((n : Int)))] [] (mkh (m_upd (m_upd (m_upd (m_set (m_set μ 118 22 (g_w μ 0 (μ 120 517))) 118 23 (g_w μ 1 (μ 120 517))) 125 F2) 126 q2) 120 T2) c s) _
      refine rn_iinc (k' := 19) (L' := [some (mR 118), some (mI ((R : Int))), some (mI (μ 120 535)), some (mI ((n : Int) + 1))]) rfl rfl rfl (by omega) rfl ?_
      refine rn_goto rfl ?_
      exact ih (n + 1) _ F2 q2 T2 (by omega) (by omega) hT4
set_option maxHeartbeats 4000000 in
theorem c_nights {μ : Nat → Nat → Int} {c s : Nat} (hL : I_land μ) (hd : 0 ≤ μ 120 517 ∧ μ 120 517 ≤ 29) {B : Int} (hB : B ≤ 1000000) (h0 : hOK μ (fun j => μ 120 (518 + j)) B ((fun j => μ 120 (526 + j)), μ 120 534, μ 120 535)) {R : Nat} (hR : R ≤ 20) : Cl PT 237 [mR 118, mI (R : Int)] (mkh μ c s) (fun r => ∃ F q T, r = (some (some (mI (T 535 - μ 120 535))), mkh (m_upd (m_upd (m_upd (m_set (m_set μ 118 22 (g_w μ 0 (μ 120 517))) 118 23 (g_w μ 1 (μ 120 517))) 125 F) 126 q) 120 T) c s) ∧ RT (μ 6 13) (μ 120) (hunt μ (g_w μ 0 (μ 120 517)) (fun j => μ 120 (518 + j)) ((fun j => μ 120 (526 + j)), μ 120 534, μ 120 535) R) T) := by
  have hL_ := hL
  obtain ⟨lc, lr, le, lm, lw, lh, lwo, lwd, q0, q1, q2, q3, q4, q8, q499, q500, lth, lG, lT, lW, -⟩ := hL_
  refine ⟨_, PT_237, Nat.le_of_ble_eq_true rfl, ?_⟩
  show Rn PT none kX12_nights 0 [some (mR 118), some (mI ((R : Int))), none, none] [] (mkh μ c s) _
  refine rn_aload_n (k' := 1) rfl rfl rfl ?_
  refine rn_aload_n (k' := 2) rfl rfl rfl ?_
  refine rn_getR (k' := 3) rfl rfl K0_118 (by decide) rfl R0_118_6 ?_
  refine rn_sipush (k' := 4) rfl rfl ?_
  refine rn_iaload (k' := 5) rfl rfl K0_120 (by omega) (by omega) ?_
  show Rn PT none kX12_nights 5 [some (mR 118), some (mI ((R : Int))), none, none] [mI (μ 120 517), mR 118] (mkh μ c s) _
  have hb1 := g_w_b hL 0 (μ 120 517)
  have hc901 := g_w_b hL 1 (μ 120 517)
  refine rn_callP (k' := 6) (y := 201) (vs := [mR 118, mI (μ 120 517)]) (S' := []) (v := none) (h' := mkh (m_set (m_set μ 118 22 (g_w μ 0 (μ 120 517))) 118 23 (g_w μ 1 (μ 120 517))) c s) rfl rfl rfl (c_X12_of (μ := μ) (hL) (by omega)) ?_
  show Rn PT none kX12_nights 6 [some (mR 118), some (mI ((R : Int))), none, none] [] (mkh (m_set (m_set μ 118 22 (g_w μ 0 (μ 120 517))) 118 23 (g_w μ 1 (μ 120 517))) c s) _
  refine rn_aload_n (k' := 7) rfl rfl rfl ?_
  refine rn_getR (k' := 8) rfl rfl K0_118 (by decide) rfl R0_118_6 ?_
  refine rn_sipush (k' := 9) rfl rfl ?_
  refine rn_iaload (k' := 10) rfl rfl K0_120 (by omega) (by omega) ?_
  show Rn PT none kX12_nights 10 [some (mR 118), some (mI ((R : Int))), none, none] [mI (μ 120 535)] (mkh (m_set (m_set μ 118 22 (g_w μ 0 (μ 120 517))) 118 23 (g_w μ 1 (μ 120 517))) c s) _
  refine rn_istore_n (k' := 11) (L' := [some (mR 118), some (mI ((R : Int))), some (mI (μ 120 535)), none]) rfl rfl (Nat.le_of_ble_eq_true rfl) rfl ?_
  refine rn_iconst (k' := 12) rfl rfl ?_
  refine rn_istore_n (k' := 13) (L' := [some (mR 118), some (mI ((R : Int))), some (mI (μ 120 535)), some (mI (0))]) rfl rfl (Nat.le_of_ble_eq_true rfl) rfl ?_
  have h := l_nights (μ := μ) (c := c) (s := s) hL hd hB h0 (R := R) hR R 0 0 ((m_set (m_set μ 118 22 (g_w μ 0 (μ 120 517))) 118 23 (g_w μ 1 (μ 120 517))) 125) ((m_set (m_set μ 118 22 (g_w μ 0 (μ 120 517))) 118 23 (g_w μ 1 (μ 120 517))) 126) ((m_set (m_set μ 118 22 (g_w μ 0 (μ 120 517))) 118 23 (g_w μ 1 (μ 120 517))) 120) rfl (by omega) ⟨fun j _ => rfl, rfl, rfl, fun k _ => rfl⟩
  rw [upd_self (μ := (m_set (m_set μ 118 22 (g_w μ 0 (μ 120 517))) 118 23 (g_w μ 1 (μ 120 517)))) (a := 125), upd_self (μ := (m_set (m_set μ 118 22 (g_w μ 0 (μ 120 517))) 118 23 (g_w μ 1 (μ 120 517)))) (a := 126), upd_self (μ := (m_set (m_set μ 118 22 (g_w μ 0 (μ 120 517))) 118 23 (g_w μ 1 (μ 120 517)))) (a := 120)] at h
  exact h
