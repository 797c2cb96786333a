variable {N : Int}
/-! ===== printed by wip/whole/gen50.py: pairs: cut, widest ===== -/
theorem g_reach_b {μ : Nat → Nat → Int} (hL : I_land μ) {a t w : Int} (ha : g_cell μ a) : 0 ≤ g_reach μ a t w ∧ g_reach μ a t w ≤ 100 := by
  rw [g_reach_cn hL ha]
  have := cn_le (g_far μ a t w) 100
  omega
theorem upd3 {μ : Nat → Nat → Int} {x y z : Nat} {a b c d e f : Nat → Int} (h1 : ¬ x = y) (h2 : ¬ x = z) (h3 : ¬ y = z) : m_upd (m_upd (m_upd (m_upd (m_upd (m_upd μ x a) y b) z c) x d) y e) z f = m_upd (m_upd (m_upd μ x d) y e) z f := by
  funext i j
  unfold m_upd
  by_cases i1 : i = z
  · simp [i1]
  · by_cases i2 : i = y
    · simp [i2, h3]
    · by_cases i3 : i = x
      · simp [i3, h1, h2]
      · simp [i1, i2, i3]
theorem upd2 {μ : Nat → Nat → Int} {y z : Nat} {b c e f : Nat → Int} (h3 : ¬ y = z) : m_upd (m_upd (m_upd (m_upd μ y b) z c) y e) z f = m_upd (m_upd μ y e) z f := by
  funext i j
  unfold m_upd
  by_cases i1 : i = z
  · simp [i1]
  · by_cases i2 : i = y
    · simp [i2, h3]
    · simp [i1, i2]
set_option maxHeartbeats 4000000 in
theorem t_X11_cut {μ : Nat → Nat → Int} {c s : Nat} (hL : I_land μ) (hS : I_scene μ) {a0 a1 a2 a3 : Int} (h0 : i32 a0) (h1 : i32 a1) (h2 : i32 a2) (h3 : i32 a3) : Cl PT 127 [mR 0, mI a0, mI a1, mI a2, mI a3] (mkh μ c s) (fun r => ∃ μ1, r = (some (some (mI (if g_cell μ a0 ∧ (0 ≤ a1 ∧ a1 ≤ 99) ∧ (0 ≤ a2 ∧ a2 ≤ 29) ∧ 0 ≤ a3 ∧ a3 ≤ 99 then g_reach μ a0 a1 (g_w μ 0 a2) - g_reach μ a0 a1 (g_w μ 0 a2 + a3) else -1))), mkh μ1 c s) ∧ rst μ1 = rst μ) := by
  have hL_ := hL
  obtain ⟨lc, lr, le, lm, lw, lh, lwo, lwd, q0, q1, q2, q3, q4, q8, q499, q500, lth, lG, lT, lW, -⟩ := hL_
  have hS_ := hS
  obtain ⟨sd, sw, stk, s4, s5, s6, hC, hH, -, s10, sce, swc, s13⟩ := hS_
  by_cases hv : g_cell μ a0 ∧ (0 ≤ a1 ∧ a1 ≤ 99) ∧ (0 ≤ a2 ∧ a2 ≤ 29) ∧ 0 ≤ a3 ∧ a3 ≤ 99
  · rw [if_pos hv]
    have hv_ := hv
    obtain ⟨hv1, hv2, hv3, hv4⟩ := hv_
    refine ⟨_, PT_127, Nat.le_of_ble_eq_true rfl, ?_⟩
    show Rn PT none kX11_cut 0 [some (mR 0), some (mI (a0)), some (mI (a1)), some (mI (a2)), some (mI (a3)), none] [] (mkh μ c s) _
    refine rn_aload_n (k' := 1) rfl rfl rfl ?_
    refine rn_iload_n (k' := 2) rfl rfl rfl ?_
    refine rn_iload_n (k' := 3) rfl rfl rfl ?_
    refine rn_iload_n (k' := 4) rfl rfl rfl ?_
    refine rn_iload_n (k' := 5) rfl rfl rfl ?_
    by_cases hq1 : g_cell μ a0 ∧ g_cell μ a0 ∧ (0 ≤ a1 ∧ a1 ≤ 99) ∧ 0 ≤ a2 ∧ a2 ≤ 29
    · refine rn_callP (k' := 6) (y := 155) (vs := [mR 0, mI (a0), mI (a0), mI (a1), mI (a2)]) (S' := []) (v := some (mI 1)) (h' := mkh μ c s) rfl rfl rfl (by have hz : Cl PT 155 [mR 0, mI (a0), mI (a0), mI (a1), mI (a2)] (mkh μ c s) (fun r => r = (some (some (mI (if g_cell μ a0 ∧ g_cell μ a0 ∧ (0 ≤ a1 ∧ a1 ≤ 99) ∧ 0 ≤ a2 ∧ a2 ≤ 29 then 1 else 0))), mkh μ c s)) := c_X11_areSuch (hL) (a := a0) (b := a0) (t := a1) (d := a2) (by omega) (by omega) (μ := μ) (c := c) (s := s); rw [if_pos hq1] at hz; exact hz) ?_
      show Rn PT none kX11_cut 6 [some (mR 0), some (mI (a0)), some (mI (a1)), some (mI (a2)), some (mI (a3)), none] [mI (1)] (mkh μ c s) _
      refine rn_if_eq (k' := 7) rfl rfl (fun hc2 => ?_) (fun hc2 => ?_)
      · exfalso; omega
      · skip
        refine rn_iload (k' := 8) rfl rfl rfl ?_
        by_cases hq3 : 0 ≤ a3 ∧ a3 ≤ 99
        · refine rn_callP (k' := 9) (y := 153) (vs := [mI (a3)]) (S' := []) (v := some (mI 1)) (h' := mkh μ c s) rfl rfl rfl (by have hz : Cl PT 153 [mI (a3)] (mkh μ c s) (fun r => r = (some (some (mI (if 0 ≤ a3 ∧ a3 ≤ 99 then 1 else 0))), mkh μ c s)) := c_X11_isNumber (a := a3) (μ := μ) (c := c) (s := s); rw [if_pos hq3] at hz; exact hz) ?_
          show Rn PT none kX11_cut 9 [some (mR 0), some (mI (a0)), some (mI (a1)), some (mI (a2)), some (mI (a3)), none] [mI (1)] (mkh μ c s) _
          refine rn_if_ne (k' := 10) rfl rfl (fun hc4 => ?_) (fun hc4 => ?_)
          · skip
            refine rn_aload_n (k' := 13) rfl rfl rfl ?_
            refine rn_getR (k' := 14) rfl rfl K0_0 (by decide) rfl R0_0_3 ?_
            refine rn_iconst (k' := 15) rfl rfl ?_
            refine rn_iload_n (k' := 16) rfl rfl rfl ?_
            have hb5 := g_w_b hL 0 a2
            refine rn_callP (k' := 17) (y := 32) (vs := [mR 6, mI (0), mI (a2)]) (S' := []) (v := some (mI (g_w μ 0 a2))) (h' := mkh μ c s) rfl rfl rfl (k_weatherOn (hL) (by omega) (by omega)) ?_
            show Rn PT none kX11_cut 17 [some (mR 0), some (mI (a0)), some (mI (a1)), some (mI (a2)), some (mI (a3)), none] [mI (g_w μ 0 a2)] (mkh μ c s) _
            refine rn_istore (k' := 18) (L' := [some (mR 0), some (mI (a0)), some (mI (a1)), some (mI (a2)), some (mI (a3)), some (mI (g_w μ 0 a2))]) rfl rfl (Nat.le_of_ble_eq_true rfl) rfl ?_
            refine rn_aload_n (k' := 19) rfl rfl rfl ?_
            refine rn_getR (k' := 20) rfl rfl K0_0 (by decide) rfl R0_0_8 ?_
            refine rn_iload_n (k' := 21) rfl rfl rfl ?_
            refine rn_iload_n (k' := 22) rfl rfl rfl ?_
            refine rn_iload (k' := 23) rfl rfl rfl ?_
            obtain ⟨O6, F6, q6, hF6, hcl6⟩ := c_reachFrom (μ := μ) (c := c) (s := s) (hL) (a := a0) (t := a1) (w := g_w μ 0 a2) (by assumption) (by omega)
            have hrb7 := g_reach_b hL (a := a0) (t := a1) (w := g_w μ 0 a2) (by assumption)
            refine rn_callP (k' := 24) (y := 90) (vs := [mR 66, mI (a0), mI (a1), mI (g_w μ 0 a2)]) (S' := []) (v := some (mI (g_reach μ a0 a1 (g_w μ 0 a2)))) (h' := mkh (m_upd (m_upd (m_upd μ 67 O6) 68 F6) 69 q6) c s) rfl rfl rfl (hcl6) ?_
            show Rn PT none kX11_cut 24 [some (mR 0), some (mI (a0)), some (mI (a1)), some (mI (a2)), some (mI (a3)), some (mI (g_w μ 0 a2))] [mI (g_reach μ a0 a1 (g_w μ 0 a2))] (mkh (m_upd (m_upd (m_upd μ 67 O6) 68 F6) 69 q6) c s) _
            refine rn_aload_n (k' := 25) rfl rfl rfl ?_
            refine rn_getR (k' := 26) rfl rfl K0_0 (by decide) rfl R0_0_8 ?_
            refine rn_iload_n (k' := 27) rfl rfl rfl ?_
            refine rn_iload_n (k' := 28) rfl rfl rfl ?_
            refine rn_iload (k' := 29) rfl rfl rfl ?_
            refine rn_iload (k' := 30) rfl rfl rfl ?_
            refine rn_iadd (k' := 31) rfl rfl (by omega) ?_
            obtain ⟨O8, F8, q8, hF8, hcl8⟩ := c_reachFrom (μ := (m_upd (m_upd (m_upd μ 67 O6) 68 F6) 69 q6)) (c := c) (s := s) ((((hL).upd rfl).upd rfl).upd rfl) (a := a0) (t := a1) (w := (g_w μ 0 a2) + a3) (by assumption) (by omega)
            rw [g_reach_rows (ν := (m_upd (m_upd (m_upd μ 67 O6) 68 F6) 69 q6)) (μ := μ) rfl rfl rfl] at hcl8
            have hrb9 := g_reach_b hL (a := a0) (t := a1) (w := (g_w μ 0 a2) + a3) (by assumption)
            refine rn_callP (k' := 32) (y := 90) (vs := [mR 66, mI (a0), mI (a1), mI ((g_w μ 0 a2) + a3)]) (S' := [mI (g_reach μ a0 a1 (g_w μ 0 a2))]) (v := some (mI (g_reach μ a0 a1 ((g_w μ 0 a2) + a3)))) (h' := mkh (m_upd (m_upd (m_upd (m_upd (m_upd (m_upd μ 67 O6) 68 F6) 69 q6) 67 O8) 68 F8) 69 q8) c s) rfl rfl rfl (hcl8) ?_
            show Rn PT none kX11_cut 32 [some (mR 0), some (mI (a0)), some (mI (a1)), some (mI (a2)), some (mI (a3)), some (mI (g_w μ 0 a2))] [mI (g_reach μ a0 a1 ((g_w μ 0 a2) + a3)), mI (g_reach μ a0 a1 (g_w μ 0 a2))] (mkh (m_upd (m_upd (m_upd (m_upd (m_upd (m_upd μ 67 O6) 68 F6) 69 q6) 67 O8) 68 F8) 69 q8) c s) _
            refine rn_isub (k' := 33) rfl rfl (by omega) ?_
            refine rn_iret rfl (Or.inl rfl) ?_
            exact ⟨(m_upd (m_upd (m_upd (m_upd (m_upd (m_upd μ 67 O6) 68 F6) 69 q6) 67 O8) 68 F8) 69 q8), rfl, ((rst_upd (a := 69) (fun _ => rfl)).trans ((rst_upd (a := 68) (fun _ => rfl)).trans ((rst_upd (a := 67) (fun _ => rfl)).trans ((rst_upd (a := 69) (fun _ => rfl)).trans ((rst_upd (a := 68) (fun _ => rfl)).trans (rst_upd (a := 67) (fun _ => rfl)))))))⟩
          · exfalso; omega
        · exfalso; omega
    · exfalso; omega
  · rw [if_neg hv]
    refine ⟨_, PT_127, Nat.le_of_ble_eq_true rfl, ?_⟩
    show Rn PT none kX11_cut 0 [some (mR 0), some (mI (a0)), some (mI (a1)), some (mI (a2)), some (mI (a3)), none] [] (mkh μ c s) _
    refine rn_aload_n (k' := 1) rfl rfl rfl ?_
    refine rn_iload_n (k' := 2) rfl rfl rfl ?_
    refine rn_iload_n (k' := 3) rfl rfl rfl ?_
    refine rn_iload_n (k' := 4) rfl rfl rfl ?_
    refine rn_iload_n (k' := 5) rfl rfl rfl ?_
    by_cases hq1 : g_cell μ a0 ∧ g_cell μ a0 ∧ (0 ≤ a1 ∧ a1 ≤ 99) ∧ 0 ≤ a2 ∧ a2 ≤ 29
    · refine rn_callP (k' := 6) (y := 155) (vs := [mR 0, mI (a0), mI (a0), mI (a1), mI (a2)]) (S' := []) (v := some (mI 1)) (h' := mkh μ c s) rfl rfl rfl (by have hz : Cl PT 155 [mR 0, mI (a0), mI (a0), mI (a1), mI (a2)] (mkh μ c s) (fun r => r = (some (some (mI (if g_cell μ a0 ∧ g_cell μ a0 ∧ (0 ≤ a1 ∧ a1 ≤ 99) ∧ 0 ≤ a2 ∧ a2 ≤ 29 then 1 else 0))), mkh μ c s)) := c_X11_areSuch (hL) (a := a0) (b := a0) (t := a1) (d := a2) (by omega) (by omega) (μ := μ) (c := c) (s := s); rw [if_pos hq1] at hz; exact hz) ?_
      show Rn PT none kX11_cut 6 [some (mR 0), some (mI (a0)), some (mI (a1)), some (mI (a2)), some (mI (a3)), none] [mI (1)] (mkh μ c s) _
      refine rn_if_eq (k' := 7) rfl rfl (fun hc2 => ?_) (fun hc2 => ?_)
      · exfalso; omega
      · skip
        refine rn_iload (k' := 8) rfl rfl rfl ?_
        by_cases hq3 : 0 ≤ a3 ∧ a3 ≤ 99
        · refine rn_callP (k' := 9) (y := 153) (vs := [mI (a3)]) (S' := []) (v := some (mI 1)) (h' := mkh μ c s) rfl rfl rfl (by have hz : Cl PT 153 [mI (a3)] (mkh μ c s) (fun r => r = (some (some (mI (if 0 ≤ a3 ∧ a3 ≤ 99 then 1 else 0))), mkh μ c s)) := c_X11_isNumber (a := a3) (μ := μ) (c := c) (s := s); rw [if_pos hq3] at hz; exact hz) ?_
          show Rn PT none kX11_cut 9 [some (mR 0), some (mI (a0)), some (mI (a1)), some (mI (a2)), some (mI (a3)), none] [mI (1)] (mkh μ c s) _
          refine rn_if_ne (k' := 10) rfl rfl (fun hc4 => ?_) (fun hc4 => ?_)
          · skip
            refine rn_aload_n (k' := 13) rfl rfl rfl ?_
            refine rn_getR (k' := 14) rfl rfl K0_0 (by decide) rfl R0_0_3 ?_
            refine rn_iconst (k' := 15) rfl rfl ?_
            refine rn_iload_n (k' := 16) rfl rfl rfl ?_
            exfalso; omega
          · exfalso; omega
        · refine rn_callP (k' := 9) (y := 153) (vs := [mI (a3)]) (S' := []) (v := some (mI 0)) (h' := mkh μ c s) rfl rfl rfl (by have hz : Cl PT 153 [mI (a3)] (mkh μ c s) (fun r => r = (some (some (mI (if 0 ≤ a3 ∧ a3 ≤ 99 then 1 else 0))), mkh μ c s)) := c_X11_isNumber (a := a3) (μ := μ) (c := c) (s := s); rw [if_neg hq3] at hz; exact hz) ?_
          show Rn PT none kX11_cut 9 [some (mR 0), some (mI (a0)), some (mI (a1)), some (mI (a2)), some (mI (a3)), none] [mI (0)] (mkh μ c s) _
          refine rn_if_ne (k' := 10) rfl rfl (fun hc5 => ?_) (fun hc5 => ?_)
          · exfalso; omega
          · skip
            refine rn_iconst (k' := 11) rfl rfl ?_
            refine rn_iret rfl (Or.inl rfl) ?_
            exact ⟨μ, rfl, rfl⟩
    · refine rn_callP (k' := 6) (y := 155) (vs := [mR 0, mI (a0), mI (a0), mI (a1), mI (a2)]) (S' := []) (v := some (mI 0)) (h' := mkh μ c s) rfl rfl rfl (by have hz : Cl PT 155 [mR 0, mI (a0), mI (a0), mI (a1), mI (a2)] (mkh μ c s) (fun r => r = (some (some (mI (if g_cell μ a0 ∧ g_cell μ a0 ∧ (0 ≤ a1 ∧ a1 ≤ 99) ∧ 0 ≤ a2 ∧ a2 ≤ 29 then 1 else 0))), mkh μ c s)) := c_X11_areSuch (hL) (a := a0) (b := a0) (t := a1) (d := a2) (by omega) (by omega) (μ := μ) (c := c) (s := s); rw [if_neg hq1] at hz; exact hz) ?_
      show Rn PT none kX11_cut 6 [some (mR 0), some (mI (a0)), some (mI (a1)), some (mI (a2)), some (mI (a3)), none] [mI (0)] (mkh μ c s) _
      refine rn_if_eq (k' := 7) rfl rfl (fun hc6 => ?_) (fun hc6 => ?_)
      · skip
        refine rn_iconst (k' := 11) rfl rfl ?_
        refine rn_iret rfl (Or.inl rfl) ?_
        exact ⟨μ, rfl, rfl⟩
      · exfalso; omega
set_option maxHeartbeats 4000000 in
theorem t_X12_cut {μ : Nat → Nat → Int} {c s : Nat} (hL : I_land μ) (hS : I_scene μ) {a0 a1 a2 a3 : Int} (h0 : i32 a0) (h1 : i32 a1) (h2 : i32 a2) (h3 : i32 a3) : Cl PT 254 [mR 118, mI a0, mI a1, mI a2, mI a3] (mkh μ c s) (fun r => ∃ μ1, r = (some (some (mI (if g_cell μ a0 ∧ (0 ≤ a1 ∧ a1 ≤ 99) ∧ (0 ≤ a2 ∧ a2 ≤ 29) ∧ 0 ≤ a3 ∧ a3 ≤ 99 then g_reach μ a0 a1 (g_w μ 0 a2) - g_reach μ a0 a1 (g_w μ 0 a2 + a3) else -1))), mkh μ1 c s) ∧ rst μ1 = rst μ) := by
  have hL_ := hL
  obtain ⟨lc, lr, le, lm, lw, lh, lwo, lwd, q0, q1, q2, q3, q4, q8, q499, q500, lth, lG, lT, lW, -⟩ := hL_
  have hS_ := hS
  obtain ⟨sd, sw, stk, s4, s5, s6, hC, hH, -, s10, sce, swc, s13⟩ := hS_
  by_cases hv : g_cell μ a0 ∧ (0 ≤ a1 ∧ a1 ≤ 99) ∧ (0 ≤ a2 ∧ a2 ≤ 29) ∧ 0 ≤ a3 ∧ a3 ≤ 99
  · rw [if_pos hv]
    have hv_ := hv
    obtain ⟨hv1, hv2, hv3, hv4⟩ := hv_
    refine ⟨_, PT_254, Nat.le_of_ble_eq_true rfl, ?_⟩
    show Rn PT none kX12_cut 0 [some (mR 118), some (mI (a0)), some (mI (a1)), some (mI (a2)), some (mI (a3)), none] [] (mkh μ c s) _
    refine rn_aload_n (k' := 1) rfl rfl rfl ?_
    refine rn_iconst (k' := 2) rfl rfl ?_
    refine rn_putI (k' := 3) rfl rfl K0_118 (by decide) rfl ?_
    refine rn_aload_n (k' := 4) rfl rfl rfl ?_
    refine rn_iload_n (k' := 5) rfl rfl rfl ?_
    refine rn_iload_n (k' := 6) rfl rfl rfl ?_
    refine rn_iload_n (k' := 7) rfl rfl rfl ?_
    refine rn_iload_n (k' := 8) rfl rfl rfl ?_
    by_cases hq2 : g_cell μ a0 ∧ g_cell μ a0 ∧ (0 ≤ a1 ∧ a1 ≤ 99) ∧ 0 ≤ a2 ∧ a2 ≤ 29
    · refine rn_callP (k' := 9) (y := 214) (vs := [mR 118, mI (a0), mI (a0), mI (a1), mI (a2)]) (S' := []) (v := some (mI 1)) (h' := mkh (m_set μ 118 0 (0)) c s) rfl rfl rfl (by have hz : Cl PT 214 [mR 118, mI (a0), mI (a0), mI (a1), mI (a2)] (mkh (m_set μ 118 0 (0)) c s) (fun r => r = (some (some (mI (if g_cell μ a0 ∧ g_cell μ a0 ∧ (0 ≤ a1 ∧ a1 ≤ 99) ∧ 0 ≤ a2 ∧ a2 ≤ 29 then 1 else 0))), mkh (m_set μ 118 0 (0)) c s)) := c_X12_areAll ((hL).set rfl) (a := a0) (b := a0) (t := a1) (d := a2) (by omega) (by omega) (μ := (m_set μ 118 0 (0))) (c := c) (s := s); rw [if_pos hq2] at hz; exact hz) ?_
      show Rn PT none kX12_cut 9 [some (mR 118), some (mI (a0)), some (mI (a1)), some (mI (a2)), some (mI (a3)), none] [mI (1)] (mkh (m_set μ 118 0 (0)) c s) _
      refine rn_if_eq (k' := 10) rfl rfl (fun hc3 => ?_) (fun hc3 => ?_)
      · exfalso; omega
      · skip
        refine rn_iload (k' := 11) rfl rfl rfl ?_
        by_cases hq4 : 0 ≤ a3 ∧ a3 ≤ 99
        · refine rn_callP (k' := 12) (y := 195) (vs := [mI (a3)]) (S' := []) (v := some (mI 1)) (h' := mkh (m_set μ 118 0 (0)) c s) rfl rfl rfl (by have hz : Cl PT 195 [mI (a3)] (mkh (m_set μ 118 0 (0)) c s) (fun r => r = (some (some (mI (if 0 ≤ a3 ∧ a3 ≤ 99 then 1 else 0))), mkh (m_set μ 118 0 (0)) c s)) := c_X12_isTall (a := a3) (μ := (m_set μ 118 0 (0))) (c := c) (s := s); rw [if_pos hq4] at hz; exact hz) ?_
          show Rn PT none kX12_cut 12 [some (mR 118), some (mI (a0)), some (mI (a1)), some (mI (a2)), some (mI (a3)), none] [mI (1)] (mkh (m_set μ 118 0 (0)) c s) _
          refine rn_if_ne (k' := 13) rfl rfl (fun hc5 => ?_) (fun hc5 => ?_)
          · skip
            refine rn_aload_n (k' := 16) rfl rfl rfl ?_
            refine rn_iload_n (k' := 17) rfl rfl rfl ?_
            have hb6 := g_w_b hL 0 a2
            have hc906 := g_w_b hL 1 a2
            refine rn_callP (k' := 18) (y := 201) (vs := [mR 118, mI (a2)]) (S' := []) (v := none) (h' := mkh (m_set (m_set (m_set μ 118 0 (0)) 118 22 (g_w μ 0 a2)) 118 23 (g_w μ 1 a2)) c s) rfl rfl rfl (c_X12_of ((hL).set rfl) (by omega)) ?_
            show Rn PT none kX12_cut 18 [some (mR 118), some (mI (a0)), some (mI (a1)), some (mI (a2)), some (mI (a3)), none] [] (mkh (m_set (m_set (m_set μ 118 0 (0)) 118 22 (g_w μ 0 a2)) 118 23 (g_w μ 1 a2)) c s) _
            refine rn_aload_n (k' := 19) rfl rfl rfl ?_
            refine rn_iload_n (k' := 20) rfl rfl rfl ?_
            refine rn_iload_n (k' := 21) rfl rfl rfl ?_
            obtain ⟨F7, q7, hF7, hcl7⟩ := c_spread_h (μ := (m_set (m_set (m_set μ 118 0 (0)) 118 22 (g_w μ 0 a2)) 118 23 (g_w μ 1 a2))) (c := c) (s := s) ((((hL).set rfl).set rfl).set rfl) (by show 0 ≤ g_w μ 0 a2 ∧ g_w μ 0 a2 ≤ 1000; omega) (a := a0) (t := a1) (by omega) (by assumption)
            rw [g_far_rows (ν := (m_set (m_set (m_set μ 118 0 (0)) 118 22 (g_w μ 0 a2)) 118 23 (g_w μ 1 a2))) (μ := μ) rfl rfl rfl] at hF7
            have hG7 : ∀ j, j < 100 → F7 j = fv (g_far μ a0 a1 (g_w μ 0 a2) j) := hF7
            refine rn_callP (k' := 22) (y := 212) (vs := [mR 118, mI (a0), mI (a1)]) (S' := []) (v := none) (h' := mkh (m_upd (m_upd (m_set (m_set (m_set μ 118 0 (0)) 118 22 (g_w μ 0 a2)) 118 23 (g_w μ 1 a2)) 125 F7) 126 q7) c s) rfl rfl rfl (hcl7) ?_
            show Rn PT none kX12_cut 22 [some (mR 118), some (mI (a0)), some (mI (a1)), some (mI (a2)), some (mI (a3)), none] [] (mkh (m_upd (m_upd (m_set (m_set (m_set μ 118 0 (0)) 118 22 (g_w μ 0 a2)) 118 23 (g_w μ 1 a2)) 125 F7) 126 q7) c s) _
            refine rn_aload_n (k' := 23) rfl rfl rfl ?_
            have hcb8 := cn_le (g_far μ a0 a1 (g_w μ 0 a2)) 100
            refine rn_callP (k' := 24) (y := 226) (vs := [mR 118]) (S' := []) (v := some (mI (((cn (g_far μ a0 a1 (g_w μ 0 a2)) 100 : Nat) : Int)))) (h' := mkh (m_upd (m_upd (m_set (m_set (m_set μ 118 0 (0)) 118 22 (g_w μ 0 a2)) 118 23 (g_w μ 1 a2)) 125 F7) 126 q7) c s) rfl rfl rfl (c_X12_reached (G := g_far μ a0 a1 (g_w μ 0 a2)) hG7 (fun j => g_far_b hL (by assumption) j)) ?_
            show Rn PT none kX12_cut 24 [some (mR 118), some (mI (a0)), some (mI (a1)), some (mI (a2)), some (mI (a3)), none] [mI (((cn (g_far μ a0 a1 (g_w μ 0 a2)) 100 : Nat) : Int))] (mkh (m_upd (m_upd (m_set (m_set (m_set μ 118 0 (0)) 118 22 (g_w μ 0 a2)) 118 23 (g_w μ 1 a2)) 125 F7) 126 q7) c s) _
            refine rn_istore (k' := 25) (L' := [some (mR 118), some (mI (a0)), some (mI (a1)), some (mI (a2)), some (mI (a3)), some (mI (((cn (g_far μ a0 a1 (g_w μ 0 a2)) 100 : Nat) : Int)))]) rfl rfl (Nat.le_of_ble_eq_true rfl) rfl ?_
            refine rn_aload_n (k' := 26) rfl rfl rfl ?_
            refine rn_dupR (k' := 27) rfl rfl ?_
            refine rn_getI (k' := 28) rfl rfl K0_118 (by decide) rfl ?_
            show Rn PT none kX12_cut 28 [some (mR 118), some (mI (a0)), some (mI (a1)), some (mI (a2)), some (mI (a3)), some (mI (((cn (g_far μ a0 a1 (g_w μ 0 a2)) 100 : Nat) : Int)))] [mI (g_w μ 0 a2), mR 118] (mkh (m_upd (m_upd (m_set (m_set (m_set μ 118 0 (0)) 118 22 (g_w μ 0 a2)) 118 23 (g_w μ 1 a2)) 125 F7) 126 q7) c s) _
            refine rn_iload (k' := 29) rfl rfl rfl ?_
            refine rn_iadd (k' := 30) rfl rfl (by omega) ?_
            refine rn_putI (k' := 31) rfl rfl K0_118 (by decide) rfl ?_
            refine rn_aload_n (k' := 32) rfl rfl rfl ?_
            refine rn_iload_n (k' := 33) rfl rfl rfl ?_
            refine rn_iload_n (k' := 34) rfl rfl rfl ?_
            obtain ⟨F10, q10, hF10, hcl10⟩ := c_spread_h (μ := (m_set (m_upd (m_upd (m_set (m_set (m_set μ 118 0 (0)) 118 22 (g_w μ 0 a2)) 118 23 (g_w μ 1 a2)) 125 F7) 126 q7) 118 22 ((g_w μ 0 a2) + a3))) (c := c) (s := s) (((((((hL).set rfl).set rfl).set rfl).upd rfl).upd rfl).set rfl) (by show 0 ≤ (g_w μ 0 a2) + a3 ∧ (g_w μ 0 a2) + a3 ≤ 1000; omega) (a := a0) (t := a1) (by omega) (by assumption)
            rw [g_far_rows (ν := (m_set (m_upd (m_upd (m_set (m_set (m_set μ 118 0 (0)) 118 22 (g_w μ 0 a2)) 118 23 (g_w μ 1 a2)) 125 F7) 126 q7) 118 22 ((g_w μ 0 a2) + a3))) (μ := μ) rfl rfl rfl] at hF10
            have hG10 : ∀ j, j < 100 → F10 j = fv (g_far μ a0 a1 ((g_w μ 0 a2) + a3) j) := hF10
            refine rn_callP (k' := 35) (y := 212) (vs := [mR 118, mI (a0), mI (a1)]) (S' := []) (v := none) (h' := mkh (m_upd (m_upd (m_set (m_upd (m_upd (m_set (m_set (m_set μ 118 0 (0)) 118 22 (g_w μ 0 a2)) 118 23 (g_w μ 1 a2)) 125 F7) 126 q7) 118 22 ((g_w μ 0 a2) + a3)) 125 F10) 126 q10) c s) rfl rfl rfl (hcl10) ?_
            show Rn PT none kX12_cut 35 [some (mR 118), some (mI (a0)), some (mI (a1)), some (mI (a2)), some (mI (a3)), some (mI (((cn (g_far μ a0 a1 (g_w μ 0 a2)) 100 : Nat) : Int)))] [] (mkh (m_upd (m_upd (m_set (m_upd (m_upd (m_set (m_set (m_set μ 118 0 (0)) 118 22 (g_w μ 0 a2)) 118 23 (g_w μ 1 a2)) 125 F7) 126 q7) 118 22 ((g_w μ 0 a2) + a3)) 125 F10) 126 q10) c s) _
            refine rn_iload (k' := 36) rfl rfl rfl ?_
            refine rn_aload_n (k' := 37) rfl rfl rfl ?_
            have hcb11 := cn_le (g_far μ a0 a1 ((g_w μ 0 a2) + a3)) 100
            refine rn_callP (k' := 38) (y := 226) (vs := [mR 118]) (S' := [mI (((cn (g_far μ a0 a1 (g_w μ 0 a2)) 100 : Nat) : Int))]) (v := some (mI (((cn (g_far μ a0 a1 ((g_w μ 0 a2) + a3)) 100 : Nat) : Int)))) (h' := mkh (m_upd (m_upd (m_set (m_upd (m_upd (m_set (m_set (m_set μ 118 0 (0)) 118 22 (g_w μ 0 a2)) 118 23 (g_w μ 1 a2)) 125 F7) 126 q7) 118 22 ((g_w μ 0 a2) + a3)) 125 F10) 126 q10) c s) rfl rfl rfl (c_X12_reached (G := g_far μ a0 a1 ((g_w μ 0 a2) + a3)) hG10 (fun j => g_far_b hL (by assumption) j)) ?_
            show Rn PT none kX12_cut 38 [some (mR 118), some (mI (a0)), some (mI (a1)), some (mI (a2)), some (mI (a3)), some (mI (((cn (g_far μ a0 a1 (g_w μ 0 a2)) 100 : Nat) : Int)))] [mI (((cn (g_far μ a0 a1 ((g_w μ 0 a2) + a3)) 100 : Nat) : Int)), mI (((cn (g_far μ a0 a1 (g_w μ 0 a2)) 100 : Nat) : Int))] (mkh (m_upd (m_upd (m_set (m_upd (m_upd (m_set (m_set (m_set μ 118 0 (0)) 118 22 (g_w μ 0 a2)) 118 23 (g_w μ 1 a2)) 125 F7) 126 q7) 118 22 ((g_w μ 0 a2) + a3)) 125 F10) 126 q10) c s) _
            refine rn_isub (k' := 39) rfl rfl (by omega) ?_
            refine rn_iret rfl (Or.inl rfl) ?_
            refine ⟨(m_upd (m_upd (m_set (m_upd (m_upd (m_set (m_set (m_set μ 118 0 (0)) 118 22 (g_w μ 0 a2)) 118 23 (g_w μ 1 a2)) 125 F7) 126 q7) 118 22 ((g_w μ 0 a2) + a3)) 125 F10) 126 q10), ?_, ((rst_upd (a := 126) (fun _ => rfl)).trans ((rst_upd (a := 125) (fun _ => rfl)).trans ((rst_set (a := 118) (j := 22) rfl).trans ((rst_upd (a := 126) (fun _ => rfl)).trans ((rst_upd (a := 125) (fun _ => rfl)).trans ((rst_set (a := 118) (j := 23) rfl).trans ((rst_set (a := 118) (j := 22) rfl).trans (rst_set (a := 118) (j := 0) rfl))))))))⟩
            rw [g_reach_cn hL hv1, g_reach_cn hL hv1]
          · exfalso; omega
        · exfalso; omega
    · exfalso; omega
  · rw [if_neg hv]
    refine ⟨_, PT_254, Nat.le_of_ble_eq_true rfl, ?_⟩
    show Rn PT none kX12_cut 0 [some (mR 118), some (mI (a0)), some (mI (a1)), some (mI (a2)), some (mI (a3)), none] [] (mkh μ c s) _
    refine rn_aload_n (k' := 1) rfl rfl rfl ?_
    refine rn_iconst (k' := 2) rfl rfl ?_
    refine rn_putI (k' := 3) rfl rfl K0_118 (by decide) rfl ?_
    refine rn_aload_n (k' := 4) rfl rfl rfl ?_
    refine rn_iload_n (k' := 5) rfl rfl rfl ?_
    refine rn_iload_n (k' := 6) rfl rfl rfl ?_
    refine rn_iload_n (k' := 7) rfl rfl rfl ?_
    refine rn_iload_n (k' := 8) rfl rfl rfl ?_
    by_cases hq2 : g_cell μ a0 ∧ g_cell μ a0 ∧ (0 ≤ a1 ∧ a1 ≤ 99) ∧ 0 ≤ a2 ∧ a2 ≤ 29
    · refine rn_callP (k' := 9) (y := 214) (vs := [mR 118, mI (a0), mI (a0), mI (a1), mI (a2)]) (S' := []) (v := some (mI 1)) (h' := mkh (m_set μ 118 0 (0)) c s) rfl rfl rfl (by have hz : Cl PT 214 [mR 118, mI (a0), mI (a0), mI (a1), mI (a2)] (mkh (m_set μ 118 0 (0)) c s) (fun r => r = (some (some (mI (if g_cell μ a0 ∧ g_cell μ a0 ∧ (0 ≤ a1 ∧ a1 ≤ 99) ∧ 0 ≤ a2 ∧ a2 ≤ 29 then 1 else 0))), mkh (m_set μ 118 0 (0)) c s)) := c_X12_areAll ((hL).set rfl) (a := a0) (b := a0) (t := a1) (d := a2) (by omega) (by omega) (μ := (m_set μ 118 0 (0))) (c := c) (s := s); rw [if_pos hq2] at hz; exact hz) ?_
      show Rn PT none kX12_cut 9 [some (mR 118), some (mI (a0)), some (mI (a1)), some (mI (a2)), some (mI (a3)), none] [mI (1)] (mkh (m_set μ 118 0 (0)) c s) _
      refine rn_if_eq (k' := 10) rfl rfl (fun hc3 => ?_) (fun hc3 => ?_)
      · exfalso; omega
      · skip
        refine rn_iload (k' := 11) rfl rfl rfl ?_
        by_cases hq4 : 0 ≤ a3 ∧ a3 ≤ 99
        · refine rn_callP (k' := 12) (y := 195) (vs := [mI (a3)]) (S' := []) (v := some (mI 1)) (h' := mkh (m_set μ 118 0 (0)) c s) rfl rfl rfl (by have hz : Cl PT 195 [mI (a3)] (mkh (m_set μ 118 0 (0)) c s) (fun r => r = (some (some (mI (if 0 ≤ a3 ∧ a3 ≤ 99 then 1 else 0))), mkh (m_set μ 118 0 (0)) c s)) := c_X12_isTall (a := a3) (μ := (m_set μ 118 0 (0))) (c := c) (s := s); rw [if_pos hq4] at hz; exact hz) ?_
          show Rn PT none kX12_cut 12 [some (mR 118), some (mI (a0)), some (mI (a1)), some (mI (a2)), some (mI (a3)), none] [mI (1)] (mkh (m_set μ 118 0 (0)) c s) _
          refine rn_if_ne (k' := 13) rfl rfl (fun hc5 => ?_) (fun hc5 => ?_)
          · skip
            refine rn_aload_n (k' := 16) rfl rfl rfl ?_
            refine rn_iload_n (k' := 17) rfl rfl rfl ?_
            exfalso; omega
          · exfalso; omega
        · refine rn_callP (k' := 12) (y := 195) (vs := [mI (a3)]) (S' := []) (v := some (mI 0)) (h' := mkh (m_set μ 118 0 (0)) c s) rfl rfl rfl (by have hz : Cl PT 195 [mI (a3)] (mkh (m_set μ 118 0 (0)) c s) (fun r => r = (some (some (mI (if 0 ≤ a3 ∧ a3 ≤ 99 then 1 else 0))), mkh (m_set μ 118 0 (0)) c s)) := c_X12_isTall (a := a3) (μ := (m_set μ 118 0 (0))) (c := c) (s := s); rw [if_neg hq4] at hz; exact hz) ?_
          show Rn PT none kX12_cut 12 [some (mR 118), some (mI (a0)), some (mI (a1)), some (mI (a2)), some (mI (a3)), none] [mI (0)] (mkh (m_set μ 118 0 (0)) c s) _
          refine rn_if_ne (k' := 13) rfl rfl (fun hc6 => ?_) (fun hc6 => ?_)
          · exfalso; omega
          · skip
            refine rn_iconst (k' := 14) rfl rfl ?_
            refine rn_iret rfl (Or.inl rfl) ?_
            exact ⟨(m_set μ 118 0 (0)), rfl, (rst_set (a := 118) (j := 0) rfl)⟩
    · refine rn_callP (k' := 9) (y := 214) (vs := [mR 118, mI (a0), mI (a0), mI (a1), mI (a2)]) (S' := []) (v := some (mI 0)) (h' := mkh (m_set μ 118 0 (0)) c s) rfl rfl rfl (by have hz : Cl PT 214 [mR 118, mI (a0), mI (a0), mI (a1), mI (a2)] (mkh (m_set μ 118 0 (0)) c s) (fun r => r = (some (some (mI (if g_cell μ a0 ∧ g_cell μ a0 ∧ (0 ≤ a1 ∧ a1 ≤ 99) ∧ 0 ≤ a2 ∧ a2 ≤ 29 then 1 else 0))), mkh (m_set μ 118 0 (0)) c s)) := c_X12_areAll ((hL).set rfl) (a := a0) (b := a0) (t := a1) (d := a2) (by omega) (by omega) (μ := (m_set μ 118 0 (0))) (c := c) (s := s); rw [if_neg hq2] at hz; exact hz) ?_
      show Rn PT none kX12_cut 9 [some (mR 118), some (mI (a0)), some (mI (a1)), some (mI (a2)), some (mI (a3)), none] [mI (0)] (mkh (m_set μ 118 0 (0)) c s) _
      refine rn_if_eq (k' := 10) rfl rfl (fun hc7 => ?_) (fun hc7 => ?_)
      · skip
        refine rn_iconst (k' := 14) rfl rfl ?_
        refine rn_iret rfl (Or.inl rfl) ?_
        exact ⟨(m_set μ 118 0 (0)), rfl, (rst_set (a := 118) (j := 0) rfl)⟩
      · exfalso; omega
theorem pair_36 : ∀ (a0 : Int), ∀ (a1 : Int), ∀ (a2 : Int), ∀ (a3 : Int), i32 a0 → i32 a1 → i32 a2 → i32 a3 → PairI (Inv N) 127 254 [mI a0, mI a1, mI a2, mI a3] := by
  intro a0 a1 a2 a3 ha0 ha1 ha2 ha3
  exact pair_of (fun ν => if g_cell ν a0 ∧ (0 ≤ a1 ∧ a1 ≤ 99) ∧ (0 ≤ a2 ∧ a2 ≤ 29) ∧ 0 ≤ a3 ∧ a3 ≤ 99 then g_reach ν a0 a1 (g_w ν 0 a2) - g_reach ν a0 a1 (g_w ν 0 a2 + a3) else -1) (fun μ c s hI => t_X11_cut hI.land hI.scene ha0 ha1 ha2 ha3) (fun μ c s hI => t_X12_cut hI.land hI.scene ha0 ha1 ha2 ha3) (fun μ ν h => by
    have e6 := row_rst h (a := 6) (fun _ => rfl)
    have e7 := row_rst h (a := 7) (fun _ => rfl)
    have e8 := row_rst h (a := 8) (fun _ => rfl)
    have e10 := row_rst h (a := 10) (fun _ => rfl)
    have e14 := row_rst h (a := 14) (fun _ => rfl)
    have e15 := row_rst h (a := 15) (fun _ => rfl)
    have e16 := row_rst h (a := 16) (fun _ => rfl)
    simp only [g_cell, g_w, g_st, g_dep, e6, e7, e8, e10, e14, e15, e16, g_steps_rows e6 e7 e8, g_reach_rows e6 e7 e8, g_far_rows e6 e7 e8])
