variable {N : Int}
/-! ===== printed by wip/whole/gen49.py: pairs: steps, reach, cut ===== -/
theorem row_rst {μ ν : Nat → Nat → Int} (h : rst ν = rst μ) {a : Nat} (ha : ∀ j, sup a j = true) : ν a = μ a := by
  funext j
  have h1 : rst ν a j = rst μ a j := by rw [h]
  unfold rst at h1
  rw [ha j] at h1
  exact h1
set_option maxHeartbeats 4000000 in
theorem t_X11_steps {μ : Nat → Nat → Int} {c s : Nat} (hL : I_land μ) (hS : I_scene μ) {a0 a1 a2 a3 : Int} (h0 : i32 a0) (h1 : i32 a1) (h2 : i32 a2) (h3 : i32 a3) : Cl PT 115 [mR 0, mI a0, mI a1, mI a2, mI a3] (mkh μ c s) (fun r => ∃ μ1, r = (some (some (mI (if g_cell μ a0 ∧ g_cell μ a1 ∧ (0 ≤ a2 ∧ a2 ≤ 99) ∧ 0 ≤ a3 ∧ a3 ≤ 29 then g_steps μ a0 a1 a2 (g_w μ 0 a3) else -1))), mkh μ1 c s) ∧ rst μ1 = rst μ) := by
  have hL_ := hL
  obtain ⟨lc, lr, le, lm, lw, lh, lwo, lwd, q0, q1, q2, q3, q4, q8, q499, q500, lth, lG, lT, lW, -⟩ := hL_
  have hS_ := hS
  obtain ⟨sd, sw, stk, s4, s5, s6, hC, hH, -, s10, sce, swc, s13⟩ := hS_
  by_cases hv : g_cell μ a0 ∧ g_cell μ a1 ∧ (0 ≤ a2 ∧ a2 ≤ 99) ∧ 0 ≤ a3 ∧ a3 ≤ 29
  · rw [if_pos hv]
    have hv_ := hv
    obtain ⟨hv1, hv2, hv3, hv4⟩ := hv_
    refine ⟨_, PT_115, Nat.le_of_ble_eq_true rfl, ?_⟩
    show Rn PT none kX11_steps 0 [some (mR 0), some (mI (a0)), some (mI (a1)), some (mI (a2)), some (mI (a3))] [] (mkh μ c s) _
    refine rn_aload_n (k' := 1) rfl rfl rfl ?_
    refine rn_iload_n (k' := 2) rfl rfl rfl ?_
    refine rn_iload_n (k' := 3) rfl rfl rfl ?_
    refine rn_iload_n (k' := 4) rfl rfl rfl ?_
    refine rn_iload (k' := 5) rfl rfl rfl ?_
    by_cases hq1 : g_cell μ a0 ∧ g_cell μ a1 ∧ (0 ≤ a2 ∧ a2 ≤ 99) ∧ 0 ≤ a3 ∧ a3 ≤ 29
    · refine rn_callP (k' := 6) (y := 155) (vs := [mR 0, mI (a0), mI (a1), mI (a2), mI (a3)]) (S' := []) (v := some (mI 1)) (h' := mkh μ c s) rfl rfl rfl (by have hz : Cl PT 155 [mR 0, mI (a0), mI (a1), mI (a2), mI (a3)] (mkh μ c s) (fun r => r = (some (some (mI (if g_cell μ a0 ∧ g_cell μ a1 ∧ (0 ≤ a2 ∧ a2 ≤ 99) ∧ 0 ≤ a3 ∧ a3 ≤ 29 then 1 else 0))), mkh μ c s)) := c_X11_areSuch (hL) (a := a0) (b := a1) (t := a2) (d := a3) (by omega) (by omega) (μ := μ) (c := c) (s := s); rw [if_pos hq1] at hz; exact hz) ?_
      show Rn PT none kX11_steps 6 [some (mR 0), some (mI (a0)), some (mI (a1)), some (mI (a2)), some (mI (a3))] [mI (1)] (mkh μ c s) _
      refine rn_if_ne (k' := 7) rfl rfl (fun hc2 => ?_) (fun hc2 => ?_)
      · skip
        refine rn_aload_n (k' := 10) rfl rfl rfl ?_
        refine rn_getR (k' := 11) rfl rfl K0_0 (by decide) rfl R0_0_8 ?_
        refine rn_iload_n (k' := 12) rfl rfl rfl ?_
        refine rn_iload_n (k' := 13) rfl rfl rfl ?_
        refine rn_iload_n (k' := 14) rfl rfl rfl ?_
        refine rn_aload_n (k' := 15) rfl rfl rfl ?_
        refine rn_getR (k' := 16) rfl rfl K0_0 (by decide) rfl R0_0_3 ?_
        refine rn_iconst (k' := 17) rfl rfl ?_
        refine rn_iload (k' := 18) rfl rfl rfl ?_
        have hb3 := g_w_b hL 0 a3
        refine rn_callP (k' := 19) (y := 32) (vs := [mR 6, mI (0), mI (a3)]) (S' := [mI (a2), mI (a1), mI (a0), mR 66]) (v := some (mI (g_w μ 0 a3))) (h' := mkh μ c s) rfl rfl rfl (k_weatherOn (hL) (by omega) (by omega)) ?_
        show Rn PT none kX11_steps 19 [some (mR 0), some (mI (a0)), some (mI (a1)), some (mI (a2)), some (mI (a3))] [mI (g_w μ 0 a3), mI (a2), mI (a1), mI (a0), mR 66] (mkh μ c s) _
        obtain ⟨O4, F4, q4, hF4, hcl4⟩ := c_stepsBetween (μ := μ) (c := c) (s := s) (hL) (a := a0) (b := a1) (t := a2) (w := g_w μ 0 a3) (by assumption) (by assumption) (by omega)
        refine rn_callP (k' := 20) (y := 91) (vs := [mR 66, mI (a0), mI (a1), mI (a2), mI (g_w μ 0 a3)]) (S' := []) (v := some (mI (g_steps μ a0 a1 a2 (g_w μ 0 a3)))) (h' := mkh (m_upd (m_upd (m_upd μ 67 O4) 68 F4) 69 q4) c s) rfl rfl rfl (hcl4) ?_
        show Rn PT none kX11_steps 20 [some (mR 0), some (mI (a0)), some (mI (a1)), some (mI (a2)), some (mI (a3))] [mI (g_steps μ a0 a1 a2 (g_w μ 0 a3))] (mkh (m_upd (m_upd (m_upd μ 67 O4) 68 F4) 69 q4) c s) _
        refine rn_iret rfl (Or.inl rfl) ?_
        exact ⟨(m_upd (m_upd (m_upd μ 67 O4) 68 F4) 69 q4), rfl, ((rst_upd (a := 69) (fun _ => rfl)).trans ((rst_upd (a := 68) (fun _ => rfl)).trans (rst_upd (a := 67) (fun _ => rfl))))⟩
      · exfalso; omega
    · exfalso; omega
  · rw [if_neg hv]
    refine ⟨_, PT_115, Nat.le_of_ble_eq_true rfl, ?_⟩
    show Rn PT none kX11_steps 0 [some (mR 0), some (mI (a0)), some (mI (a1)), some (mI (a2)), some (mI (a3))] [] (mkh μ c s) _
    refine rn_aload_n (k' := 1) rfl rfl rfl ?_
    refine rn_iload_n (k' := 2) rfl rfl rfl ?_
    refine rn_iload_n (k' := 3) rfl rfl rfl ?_
    refine rn_iload_n (k' := 4) rfl rfl rfl ?_
    refine rn_iload (k' := 5) rfl rfl rfl ?_
    by_cases hq1 : g_cell μ a0 ∧ g_cell μ a1 ∧ (0 ≤ a2 ∧ a2 ≤ 99) ∧ 0 ≤ a3 ∧ a3 ≤ 29
    · refine rn_callP (k' := 6) (y := 155) (vs := [mR 0, mI (a0), mI (a1), mI (a2), mI (a3)]) (S' := []) (v := some (mI 1)) (h' := mkh μ c s) rfl rfl rfl (by have hz : Cl PT 155 [mR 0, mI (a0), mI (a1), mI (a2), mI (a3)] (mkh μ c s) (fun r => r = (some (some (mI (if g_cell μ a0 ∧ g_cell μ a1 ∧ (0 ≤ a2 ∧ a2 ≤ 99) ∧ 0 ≤ a3 ∧ a3 ≤ 29 then 1 else 0))), mkh μ c s)) := c_X11_areSuch (hL) (a := a0) (b := a1) (t := a2) (d := a3) (by omega) (by omega) (μ := μ) (c := c) (s := s); rw [if_pos hq1] at hz; exact hz) ?_
      show Rn PT none kX11_steps 6 [some (mR 0), some (mI (a0)), some (mI (a1)), some (mI (a2)), some (mI (a3))] [mI (1)] (mkh μ c s) _
      refine rn_if_ne (k' := 7) rfl rfl (fun hc2 => ?_) (fun hc2 => ?_)
      · skip
        refine rn_aload_n (k' := 10) rfl rfl rfl ?_
        refine rn_getR (k' := 11) rfl rfl K0_0 (by decide) rfl R0_0_8 ?_
        refine rn_iload_n (k' := 12) rfl rfl rfl ?_
        refine rn_iload_n (k' := 13) rfl rfl rfl ?_
        refine rn_iload_n (k' := 14) rfl rfl rfl ?_
        refine rn_aload_n (k' := 15) rfl rfl rfl ?_
        refine rn_getR (k' := 16) rfl rfl K0_0 (by decide) rfl R0_0_3 ?_
        refine rn_iconst (k' := 17) rfl rfl ?_
        refine rn_iload (k' := 18) rfl rfl rfl ?_
        exfalso; omega
      · exfalso; omega
    · refine rn_callP (k' := 6) (y := 155) (vs := [mR 0, mI (a0), mI (a1), mI (a2), mI (a3)]) (S' := []) (v := some (mI 0)) (h' := mkh μ c s) rfl rfl rfl (by have hz : Cl PT 155 [mR 0, mI (a0), mI (a1), mI (a2), mI (a3)] (mkh μ c s) (fun r => r = (some (some (mI (if g_cell μ a0 ∧ g_cell μ a1 ∧ (0 ≤ a2 ∧ a2 ≤ 99) ∧ 0 ≤ a3 ∧ a3 ≤ 29 then 1 else 0))), mkh μ c s)) := c_X11_areSuch (hL) (a := a0) (b := a1) (t := a2) (d := a3) (by omega) (by omega) (μ := μ) (c := c) (s := s); rw [if_neg hq1] at hz; exact hz) ?_
      show Rn PT none kX11_steps 6 [some (mR 0), some (mI (a0)), some (mI (a1)), some (mI (a2)), some (mI (a3))] [mI (0)] (mkh μ c s) _
      refine rn_if_ne (k' := 7) rfl rfl (fun hc3 => ?_) (fun hc3 => ?_)
      · exfalso; omega
      · skip
        refine rn_iconst (k' := 8) rfl rfl ?_
        refine rn_iret rfl (Or.inl rfl) ?_
        exact ⟨μ, rfl, rfl⟩
set_option maxHeartbeats 4000000 in
theorem t_X12_steps {μ : Nat → Nat → Int} {c s : Nat} (hL : I_land μ) (hS : I_scene μ) {a0 a1 a2 a3 : Int} (h0 : i32 a0) (h1 : i32 a1) (h2 : i32 a2) (h3 : i32 a3) : Cl PT 216 [mR 118, mI a0, mI a1, mI a2, mI a3] (mkh μ c s) (fun r => ∃ μ1, r = (some (some (mI (if g_cell μ a0 ∧ g_cell μ a1 ∧ (0 ≤ a2 ∧ a2 ≤ 99) ∧ 0 ≤ a3 ∧ a3 ≤ 29 then g_steps μ a0 a1 a2 (g_w μ 0 a3) else -1))), mkh μ1 c s) ∧ rst μ1 = rst μ) := by
  have hL_ := hL
  obtain ⟨lc, lr, le, lm, lw, lh, lwo, lwd, q0, q1, q2, q3, q4, q8, q499, q500, lth, lG, lT, lW, -⟩ := hL_
  have hS_ := hS
  obtain ⟨sd, sw, stk, s4, s5, s6, hC, hH, -, s10, sce, swc, s13⟩ := hS_
  by_cases hv : g_cell μ a0 ∧ g_cell μ a1 ∧ (0 ≤ a2 ∧ a2 ≤ 99) ∧ 0 ≤ a3 ∧ a3 ≤ 29
  · rw [if_pos hv]
    have hv_ := hv
    obtain ⟨hv1, hv2, hv3, hv4⟩ := hv_
    refine ⟨_, PT_216, Nat.le_of_ble_eq_true rfl, ?_⟩
    show Rn PT none kX12_steps 0 [some (mR 118), some (mI (a0)), some (mI (a1)), some (mI (a2)), some (mI (a3))] [] (mkh μ c s) _
    refine rn_aload_n (k' := 1) rfl rfl rfl ?_
    refine rn_iconst (k' := 2) rfl rfl ?_
    refine rn_putI (k' := 3) rfl rfl K0_118 (by decide) rfl ?_
    refine rn_aload_n (k' := 4) rfl rfl rfl ?_
    refine rn_iload_n (k' := 5) rfl rfl rfl ?_
    refine rn_iload_n (k' := 6) rfl rfl rfl ?_
    refine rn_iload_n (k' := 7) rfl rfl rfl ?_
    refine rn_iload (k' := 8) rfl rfl rfl ?_
    by_cases hq2 : g_cell μ a0 ∧ g_cell μ a1 ∧ (0 ≤ a2 ∧ a2 ≤ 99) ∧ 0 ≤ a3 ∧ a3 ≤ 29
    · refine rn_callP (k' := 9) (y := 214) (vs := [mR 118, mI (a0), mI (a1), mI (a2), mI (a3)]) (S' := []) (v := some (mI 1)) (h' := mkh (m_set μ 118 0 (0)) c s) rfl rfl rfl (by have hz : Cl PT 214 [mR 118, mI (a0), mI (a1), mI (a2), mI (a3)] (mkh (m_set μ 118 0 (0)) c s) (fun r => r = (some (some (mI (if g_cell μ a0 ∧ g_cell μ a1 ∧ (0 ≤ a2 ∧ a2 ≤ 99) ∧ 0 ≤ a3 ∧ a3 ≤ 29 then 1 else 0))), mkh (m_set μ 118 0 (0)) c s)) := c_X12_areAll ((hL).set rfl) (a := a0) (b := a1) (t := a2) (d := a3) (by omega) (by omega) (μ := (m_set μ 118 0 (0))) (c := c) (s := s); rw [if_pos hq2] at hz; exact hz) ?_
      show Rn PT none kX12_steps 9 [some (mR 118), some (mI (a0)), some (mI (a1)), some (mI (a2)), some (mI (a3))] [mI (1)] (mkh (m_set μ 118 0 (0)) c s) _
      refine rn_if_ne (k' := 10) rfl rfl (fun hc3 => ?_) (fun hc3 => ?_)
      · skip
        refine rn_aload_n (k' := 13) rfl rfl rfl ?_
        refine rn_iload (k' := 14) rfl rfl rfl ?_
        have hb4 := g_w_b hL 0 a3
        have hc904 := g_w_b hL 1 a3
        refine rn_callP (k' := 15) (y := 201) (vs := [mR 118, mI (a3)]) (S' := []) (v := none) (h' := mkh (m_set (m_set (m_set μ 118 0 (0)) 118 22 (g_w μ 0 a3)) 118 23 (g_w μ 1 a3)) c s) rfl rfl rfl (c_X12_of ((hL).set rfl) (by omega)) ?_
        show Rn PT none kX12_steps 15 [some (mR 118), some (mI (a0)), some (mI (a1)), some (mI (a2)), some (mI (a3))] [] (mkh (m_set (m_set (m_set μ 118 0 (0)) 118 22 (g_w μ 0 a3)) 118 23 (g_w μ 1 a3)) c s) _
        refine rn_aload_n (k' := 16) rfl rfl rfl ?_
        refine rn_iload_n (k' := 17) rfl rfl rfl ?_
        refine rn_iload_n (k' := 18) rfl rfl rfl ?_
        refine rn_iload_n (k' := 19) rfl rfl rfl ?_
        obtain ⟨F5, q5, hF5, hcl5⟩ := c_stepsOf (μ := (m_set (m_set (m_set μ 118 0 (0)) 118 22 (g_w μ 0 a3)) 118 23 (g_w μ 1 a3))) (c := c) (s := s) ((((hL).set rfl).set rfl).set rfl) (by show 0 ≤ g_w μ 0 a3 ∧ g_w μ 0 a3 ≤ 1000; omega) (a := a0) (b := a1) (t := a2) (by omega) (by assumption) (by assumption)
        rw [g_steps_rows (ν := (m_set (m_set (m_set μ 118 0 (0)) 118 22 (g_w μ 0 a3)) 118 23 (g_w μ 1 a3))) (μ := μ) rfl rfl rfl] at hcl5
        refine rn_callP (k' := 20) (y := 213) (vs := [mR 118, mI (a0), mI (a1), mI (a2)]) (S' := []) (v := some (mI (g_steps μ a0 a1 a2 (g_w μ 0 a3)))) (h' := mkh (m_upd (m_upd (m_set (m_set (m_set μ 118 0 (0)) 118 22 (g_w μ 0 a3)) 118 23 (g_w μ 1 a3)) 125 F5) 126 q5) c s) rfl rfl rfl (hcl5) ?_
        show Rn PT none kX12_steps 20 [some (mR 118), some (mI (a0)), some (mI (a1)), some (mI (a2)), some (mI (a3))] [mI (g_steps μ a0 a1 a2 (g_w μ 0 a3))] (mkh (m_upd (m_upd (m_set (m_set (m_set μ 118 0 (0)) 118 22 (g_w μ 0 a3)) 118 23 (g_w μ 1 a3)) 125 F5) 126 q5) c s) _
        refine rn_iret rfl (Or.inl rfl) ?_
        exact ⟨(m_upd (m_upd (m_set (m_set (m_set μ 118 0 (0)) 118 22 (g_w μ 0 a3)) 118 23 (g_w μ 1 a3)) 125 F5) 126 q5), rfl, ((rst_upd (a := 126) (fun _ => rfl)).trans ((rst_upd (a := 125) (fun _ => rfl)).trans ((rst_set (a := 118) (j := 23) rfl).trans ((rst_set (a := 118) (j := 22) rfl).trans (rst_set (a := 118) (j := 0) rfl)))))⟩
      · exfalso; omega
    · exfalso; omega
  · rw [if_neg hv]
    refine ⟨_, PT_216, Nat.le_of_ble_eq_true rfl, ?_⟩
    show Rn PT none kX12_steps 0 [some (mR 118), some (mI (a0)), some (mI (a1)), some (mI (a2)), some (mI (a3))] [] (mkh μ c s) _
    refine rn_aload_n (k' := 1) rfl rfl rfl ?_
    refine rn_iconst (k' := 2) rfl rfl ?_
    refine rn_putI (k' := 3) rfl rfl K0_118 (by decide) rfl ?_
    refine rn_aload_n (k' := 4) rfl rfl rfl ?_
    refine rn_iload_n (k' := 5) rfl rfl rfl ?_
    refine rn_iload_n (k' := 6) rfl rfl rfl ?_
    refine rn_iload_n (k' := 7) rfl rfl rfl ?_
    refine rn_iload (k' := 8) rfl rfl rfl ?_
    by_cases hq2 : g_cell μ a0 ∧ g_cell μ a1 ∧ (0 ≤ a2 ∧ a2 ≤ 99) ∧ 0 ≤ a3 ∧ a3 ≤ 29
    · refine rn_callP (k' := 9) (y := 214) (vs := [mR 118, mI (a0), mI (a1), mI (a2), mI (a3)]) (S' := []) (v := some (mI 1)) (h' := mkh (m_set μ 118 0 (0)) c s) rfl rfl rfl (by have hz : Cl PT 214 [mR 118, mI (a0), mI (a1), mI (a2), mI (a3)] (mkh (m_set μ 118 0 (0)) c s) (fun r => r = (some (some (mI (if g_cell μ a0 ∧ g_cell μ a1 ∧ (0 ≤ a2 ∧ a2 ≤ 99) ∧ 0 ≤ a3 ∧ a3 ≤ 29 then 1 else 0))), mkh (m_set μ 118 0 (0)) c s)) := c_X12_areAll ((hL).set rfl) (a := a0) (b := a1) (t := a2) (d := a3) (by omega) (by omega) (μ := (m_set μ 118 0 (0))) (c := c) (s := s); rw [if_pos hq2] at hz; exact hz) ?_
      show Rn PT none kX12_steps 9 [some (mR 118), some (mI (a0)), some (mI (a1)), some (mI (a2)), some (mI (a3))] [mI (1)] (mkh (m_set μ 118 0 (0)) c s) _
      refine rn_if_ne (k' := 10) rfl rfl (fun hc3 => ?_) (fun hc3 => ?_)
      · skip
        refine rn_aload_n (k' := 13) rfl rfl rfl ?_
        refine rn_iload (k' := 14) rfl rfl rfl ?_
        exfalso; omega
      · exfalso; omega
    · refine rn_callP (k' := 9) (y := 214) (vs := [mR 118, mI (a0), mI (a1), mI (a2), mI (a3)]) (S' := []) (v := some (mI 0)) (h' := mkh (m_set μ 118 0 (0)) c s) rfl rfl rfl (by have hz : Cl PT 214 [mR 118, mI (a0), mI (a1), mI (a2), mI (a3)] (mkh (m_set μ 118 0 (0)) c s) (fun r => r = (some (some (mI (if g_cell μ a0 ∧ g_cell μ a1 ∧ (0 ≤ a2 ∧ a2 ≤ 99) ∧ 0 ≤ a3 ∧ a3 ≤ 29 then 1 else 0))), mkh (m_set μ 118 0 (0)) c s)) := c_X12_areAll ((hL).set rfl) (a := a0) (b := a1) (t := a2) (d := a3) (by omega) (by omega) (μ := (m_set μ 118 0 (0))) (c := c) (s := s); rw [if_neg hq2] at hz; exact hz) ?_
      show Rn PT none kX12_steps 9 [some (mR 118), some (mI (a0)), some (mI (a1)), some (mI (a2)), some (mI (a3))] [mI (0)] (mkh (m_set μ 118 0 (0)) c s) _
      refine rn_if_ne (k' := 10) rfl rfl (fun hc4 => ?_) (fun hc4 => ?_)
      · exfalso; omega
      · skip
        refine rn_iconst (k' := 11) rfl rfl ?_
        refine rn_iret rfl (Or.inl rfl) ?_
        exact ⟨(m_set μ 118 0 (0)), rfl, (rst_set (a := 118) (j := 0) rfl)⟩
theorem pair_12 : ∀ (a0 : Int), ∀ (a1 : Int), ∀ (a2 : Int), ∀ (a3 : Int), i32 a0 → i32 a1 → i32 a2 → i32 a3 → PairI (Inv N) 115 216 [mI a0, mI a1, mI a2, mI a3] := by
  intro a0 a1 a2 a3 ha0 ha1 ha2 ha3
  exact pair_of (fun ν => if g_cell ν a0 ∧ g_cell ν a1 ∧ (0 ≤ a2 ∧ a2 ≤ 99) ∧ 0 ≤ a3 ∧ a3 ≤ 29 then g_steps ν a0 a1 a2 (g_w ν 0 a3) else -1) (fun μ c s hI => t_X11_steps hI.land hI.scene ha0 ha1 ha2 ha3) (fun μ c s hI => t_X12_steps hI.land hI.scene ha0 ha1 ha2 ha3) (fun μ ν h => by
    have e6 := row_rst h (a := 6) (fun _ => rfl)
    have e7 := row_rst h (a := 7) (fun _ => rfl)
    have e8 := row_rst h (a := 8) (fun _ => rfl)
    have e10 := row_rst h (a := 10) (fun _ => rfl)
    have e14 := row_rst h (a := 14) (fun _ => rfl)
    have e15 := row_rst h (a := 15) (fun _ => rfl)
    have e16 := row_rst h (a := 16) (fun _ => rfl)
    simp only [g_cell, g_w, g_st, g_dep, e6, e7, e8, e10, e14, e15, e16, g_steps_rows e6 e7 e8, g_reach_rows e6 e7 e8, g_far_rows e6 e7 e8])
set_option maxHeartbeats 4000000 in
theorem t_X11_reach {μ : Nat → Nat → Int} {c s : Nat} (hL : I_land μ) (hS : I_scene μ) {a0 a1 a2 : Int} (h0 : i32 a0) (h1 : i32 a1) (h2 : i32 a2) : Cl PT 122 [mR 0, mI a0, mI a1, mI a2] (mkh μ c s) (fun r => ∃ μ1, r = (some (some (mI (if g_cell μ a0 ∧ (0 ≤ a1 ∧ a1 ≤ 99) ∧ 0 ≤ a2 ∧ a2 ≤ 29 then g_reach μ a0 a1 (g_w μ 0 a2) else -1))), mkh μ1 c s) ∧ rst μ1 = rst μ) := by
  have hL_ := hL
  obtain ⟨lc, lr, le, lm, lw, lh, lwo, lwd, q0, q1, q2, q3, q4, q8, q499, q500, lth, lG, lT, lW, -⟩ := hL_
  have hS_ := hS
  obtain ⟨sd, sw, stk, s4, s5, s6, hC, hH, -, s10, sce, swc, s13⟩ := hS_
  by_cases hv : g_cell μ a0 ∧ (0 ≤ a1 ∧ a1 ≤ 99) ∧ 0 ≤ a2 ∧ a2 ≤ 29
  · rw [if_pos hv]
    have hv_ := hv
    obtain ⟨hv1, hv2, hv3⟩ := hv_
    refine ⟨_, PT_122, Nat.le_of_ble_eq_true rfl, ?_⟩
    show Rn PT none kX11_reach 0 [some (mR 0), some (mI (a0)), some (mI (a1)), some (mI (a2))] [] (mkh μ c s) _
    refine rn_aload_n (k' := 1) rfl rfl rfl ?_
    refine rn_iload_n (k' := 2) rfl rfl rfl ?_
    refine rn_iload_n (k' := 3) rfl rfl rfl ?_
    refine rn_iload_n (k' := 4) rfl rfl rfl ?_
    refine rn_iload_n (k' := 5) rfl rfl rfl ?_
    by_cases hq1 : g_cell μ a0 ∧ g_cell μ a0 ∧ (0 ≤ a1 ∧ a1 ≤ 99) ∧ 0 ≤ a2 ∧ a2 ≤ 29
    · refine rn_callP (k' := 6) (y := 155) (vs := [mR 0, mI (a0), mI (a0), mI (a1), mI (a2)]) (S' := []) (v := some (mI 1)) (h' := mkh μ c s) rfl rfl rfl (by have hz : Cl PT 155 [mR 0, mI (a0), mI (a0), mI (a1), mI (a2)] (mkh μ c s) (fun r => r = (some (some (mI (if g_cell μ a0 ∧ g_cell μ a0 ∧ (0 ≤ a1 ∧ a1 ≤ 99) ∧ 0 ≤ a2 ∧ a2 ≤ 29 then 1 else 0))), mkh μ c s)) := c_X11_areSuch (hL) (a := a0) (b := a0) (t := a1) (d := a2) (by omega) (by omega) (μ := μ) (c := c) (s := s); rw [if_pos hq1] at hz; exact hz) ?_
      show Rn PT none kX11_reach 6 [some (mR 0), some (mI (a0)), some (mI (a1)), some (mI (a2))] [mI (1)] (mkh μ c s) _
      refine rn_if_ne (k' := 7) rfl rfl (fun hc2 => ?_) (fun hc2 => ?_)
      · skip
        refine rn_aload_n (k' := 10) rfl rfl rfl ?_
        refine rn_getR (k' := 11) rfl rfl K0_0 (by decide) rfl R0_0_8 ?_
        refine rn_iload_n (k' := 12) rfl rfl rfl ?_
        refine rn_iload_n (k' := 13) rfl rfl rfl ?_
        refine rn_aload_n (k' := 14) rfl rfl rfl ?_
        refine rn_getR (k' := 15) rfl rfl K0_0 (by decide) rfl R0_0_3 ?_
        refine rn_iconst (k' := 16) rfl rfl ?_
        refine rn_iload_n (k' := 17) rfl rfl rfl ?_
        have hb3 := g_w_b hL 0 a2
        refine rn_callP (k' := 18) (y := 32) (vs := [mR 6, mI (0), mI (a2)]) (S' := [mI (a1), mI (a0), mR 66]) (v := some (mI (g_w μ 0 a2))) (h' := mkh μ c s) rfl rfl rfl (k_weatherOn (hL) (by omega) (by omega)) ?_
        show Rn PT none kX11_reach 18 [some (mR 0), some (mI (a0)), some (mI (a1)), some (mI (a2))] [mI (g_w μ 0 a2), mI (a1), mI (a0), mR 66] (mkh μ c s) _
        obtain ⟨O4, F4, q4, hF4, hcl4⟩ := c_reachFrom (μ := μ) (c := c) (s := s) (hL) (a := a0) (t := a1) (w := g_w μ 0 a2) (by assumption) (by omega)
        refine rn_callP (k' := 19) (y := 90) (vs := [mR 66, mI (a0), mI (a1), mI (g_w μ 0 a2)]) (S' := []) (v := some (mI (g_reach μ a0 a1 (g_w μ 0 a2)))) (h' := mkh (m_upd (m_upd (m_upd μ 67 O4) 68 F4) 69 q4) c s) rfl rfl rfl (hcl4) ?_
        show Rn PT none kX11_reach 19 [some (mR 0), some (mI (a0)), some (mI (a1)), some (mI (a2))] [mI (g_reach μ a0 a1 (g_w μ 0 a2))] (mkh (m_upd (m_upd (m_upd μ 67 O4) 68 F4) 69 q4) c s) _
        refine rn_iret rfl (Or.inl rfl) ?_
        exact ⟨(m_upd (m_upd (m_upd μ 67 O4) 68 F4) 69 q4), rfl, ((rst_upd (a := 69) (fun _ => rfl)).trans ((rst_upd (a := 68) (fun _ => rfl)).trans (rst_upd (a := 67) (fun _ => rfl))))⟩
      · exfalso; omega
    · exfalso; omega
  · rw [if_neg hv]
    refine ⟨_, PT_122, Nat.le_of_ble_eq_true rfl, ?_⟩
    show Rn PT none kX11_reach 0 [some (mR 0), some (mI (a0)), some (mI (a1)), some (mI (a2))] [] (mkh μ c s) _
    refine rn_aload_n (k' := 1) rfl rfl rfl ?_
    refine rn_iload_n (k' := 2) rfl rfl rfl ?_
    refine rn_iload_n (k' := 3) rfl rfl rfl ?_
    refine rn_iload_n (k' := 4) rfl rfl rfl ?_
    refine rn_iload_n (k' := 5) rfl rfl rfl ?_
    by_cases hq1 : g_cell μ a0 ∧ g_cell μ a0 ∧ (0 ≤ a1 ∧ a1 ≤ 99) ∧ 0 ≤ a2 ∧ a2 ≤ 29
    · refine rn_callP (k' := 6) (y := 155) (vs := [mR 0, mI (a0), mI (a0), mI (a1), mI (a2)]) (S' := []) (v := some (mI 1)) (h' := mkh μ c s) rfl rfl rfl (by have hz : Cl PT 155 [mR 0, mI (a0), mI (a0), mI (a1), mI (a2)] (mkh μ c s) (fun r => r = (some (some (mI (if g_cell μ a0 ∧ g_cell μ a0 ∧ (0 ≤ a1 ∧ a1 ≤ 99) ∧ 0 ≤ a2 ∧ a2 ≤ 29 then 1 else 0))), mkh μ c s)) := c_X11_areSuch (hL) (a := a0) (b := a0) (t := a1) (d := a2) (by omega) (by omega) (μ := μ) (c := c) (s := s); rw [if_pos hq1] at hz; exact hz) ?_
      show Rn PT none kX11_reach 6 [some (mR 0), some (mI (a0)), some (mI (a1)), some (mI (a2))] [mI (1)] (mkh μ c s) _
      refine rn_if_ne (k' := 7) rfl rfl (fun hc2 => ?_) (fun hc2 => ?_)
      · skip
        refine rn_aload_n (k' := 10) rfl rfl rfl ?_
        refine rn_getR (k' := 11) rfl rfl K0_0 (by decide) rfl R0_0_8 ?_
        refine rn_iload_n (k' := 12) rfl rfl rfl ?_
        refine rn_iload_n (k' := 13) rfl rfl rfl ?_
        refine rn_aload_n (k' := 14) rfl rfl rfl ?_
        refine rn_getR (k' := 15) rfl rfl K0_0 (by decide) rfl R0_0_3 ?_
        refine rn_iconst (k' := 16) rfl rfl ?_
        refine rn_iload_n (k' := 17) rfl rfl rfl ?_
        exfalso; omega
      · exfalso; omega
    · refine rn_callP (k' := 6) (y := 155) (vs := [mR 0, mI (a0), mI (a0), mI (a1), mI (a2)]) (S' := []) (v := some (mI 0)) (h' := mkh μ c s) rfl rfl rfl (by have hz : Cl PT 155 [mR 0, mI (a0), mI (a0), mI (a1), mI (a2)] (mkh μ c s) (fun r => r = (some (some (mI (if g_cell μ a0 ∧ g_cell μ a0 ∧ (0 ≤ a1 ∧ a1 ≤ 99) ∧ 0 ≤ a2 ∧ a2 ≤ 29 then 1 else 0))), mkh μ c s)) := c_X11_areSuch (hL) (a := a0) (b := a0) (t := a1) (d := a2) (by omega) (by omega) (μ := μ) (c := c) (s := s); rw [if_neg hq1] at hz; exact hz) ?_
      show Rn PT none kX11_reach 6 [some (mR 0), some (mI (a0)), some (mI (a1)), some (mI (a2))] [mI (0)] (mkh μ c s) _
      refine rn_if_ne (k' := 7) rfl rfl (fun hc3 => ?_) (fun hc3 => ?_)
      · exfalso; omega
      · skip
        refine rn_iconst (k' := 8) rfl rfl ?_
        refine rn_iret rfl (Or.inl rfl) ?_
        exact ⟨μ, rfl, rfl⟩
set_option maxHeartbeats 4000000 in
theorem t_X12_reach {μ : Nat → Nat → Int} {c s : Nat} (hL : I_land μ) (hS : I_scene μ) {a0 a1 a2 : Int} (h0 : i32 a0) (h1 : i32 a1) (h2 : i32 a2) : Cl PT 227 [mR 118, mI a0, mI a1, mI a2] (mkh μ c s) (fun r => ∃ μ1, r = (some (some (mI (if g_cell μ a0 ∧ (0 ≤ a1 ∧ a1 ≤ 99) ∧ 0 ≤ a2 ∧ a2 ≤ 29 then g_reach μ a0 a1 (g_w μ 0 a2) else -1))), mkh μ1 c s) ∧ rst μ1 = rst μ) := by
  have hL_ := hL
  obtain ⟨lc, lr, le, lm, lw, lh, lwo, lwd, q0, q1, q2, q3, q4, q8, q499, q500, lth, lG, lT, lW, -⟩ := hL_
  have hS_ := hS
  obtain ⟨sd, sw, stk, s4, s5, s6, hC, hH, -, s10, sce, swc, s13⟩ := hS_
  by_cases hv : g_cell μ a0 ∧ (0 ≤ a1 ∧ a1 ≤ 99) ∧ 0 ≤ a2 ∧ a2 ≤ 29
  · rw [if_pos hv]
    have hv_ := hv
    obtain ⟨hv1, hv2, hv3⟩ := hv_
    refine ⟨_, PT_227, Nat.le_of_ble_eq_true rfl, ?_⟩
    show Rn PT none kX12_reach 0 [some (mR 118), some (mI (a0)), some (mI (a1)), some (mI (a2))] [] (mkh μ c s) _
    refine rn_aload_n (k' := 1) rfl rfl rfl ?_
    refine rn_iconst (k' := 2) rfl rfl ?_
    refine rn_putI (k' := 3) rfl rfl K0_118 (by decide) rfl ?_
    refine rn_aload_n (k' := 4) rfl rfl rfl ?_
    refine rn_iload_n (k' := 5) rfl rfl rfl ?_
    refine rn_iload_n (k' := 6) rfl rfl rfl ?_
    refine rn_iload_n (k' := 7) rfl rfl rfl ?_
    refine rn_iload_n (k' := 8) rfl rfl rfl ?_
    by_cases hq2 : g_cell μ a0 ∧ g_cell μ a0 ∧ (0 ≤ a1 ∧ a1 ≤ 99) ∧ 0 ≤ a2 ∧ a2 ≤ 29
    · refine rn_callP (k' := 9) (y := 214) (vs := [mR 118, mI (a0), mI (a0), mI (a1), mI (a2)]) (S' := []) (v := some (mI 1)) (h' := mkh (m_set μ 118 0 (0)) c s) rfl rfl rfl (by have hz : Cl PT 214 [mR 118, mI (a0), mI (a0), mI (a1), mI (a2)] (mkh (m_set μ 118 0 (0)) c s) (fun r => r = (some (some (mI (if g_cell μ a0 ∧ g_cell μ a0 ∧ (0 ≤ a1 ∧ a1 ≤ 99) ∧ 0 ≤ a2 ∧ a2 ≤ 29 then 1 else 0))), mkh (m_set μ 118 0 (0)) c s)) := c_X12_areAll ((hL).set rfl) (a := a0) (b := a0) (t := a1) (d := a2) (by omega) (by omega) (μ := (m_set μ 118 0 (0))) (c := c) (s := s); rw [if_pos hq2] at hz; exact hz) ?_
      show Rn PT none kX12_reach 9 [some (mR 118), some (mI (a0)), some (mI (a1)), some (mI (a2))] [mI (1)] (mkh (m_set μ 118 0 (0)) c s) _
      refine rn_if_ne (k' := 10) rfl rfl (fun hc3 => ?_) (fun hc3 => ?_)
      · skip
        refine rn_aload_n (k' := 13) rfl rfl rfl ?_
        refine rn_iload_n (k' := 14) rfl rfl rfl ?_
        have hb4 := g_w_b hL 0 a2
        have hc904 := g_w_b hL 1 a2
        refine rn_callP (k' := 15) (y := 201) (vs := [mR 118, mI (a2)]) (S' := []) (v := none) (h' := mkh (m_set (m_set (m_set μ 118 0 (0)) 118 22 (g_w μ 0 a2)) 118 23 (g_w μ 1 a2)) c s) rfl rfl rfl (c_X12_of ((hL).set rfl) (by omega)) ?_
        show Rn PT none kX12_reach 15 [some (mR 118), some (mI (a0)), some (mI (a1)), some (mI (a2))] [] (mkh (m_set (m_set (m_set μ 118 0 (0)) 118 22 (g_w μ 0 a2)) 118 23 (g_w μ 1 a2)) c s) _
        refine rn_aload_n (k' := 16) rfl rfl rfl ?_
        refine rn_iload_n (k' := 17) rfl rfl rfl ?_
        refine rn_iload_n (k' := 18) rfl rfl rfl ?_
        obtain ⟨F5, q5, hF5, hcl5⟩ := c_spread_h (μ := (m_set (m_set (m_set μ 118 0 (0)) 118 22 (g_w μ 0 a2)) 118 23 (g_w μ 1 a2))) (c := c) (s := s) ((((hL).set rfl).set rfl).set rfl) (by show 0 ≤ g_w μ 0 a2 ∧ g_w μ 0 a2 ≤ 1000; omega) (a := a0) (t := a1) (by omega) (by assumption)
        rw [g_far_rows (ν := (m_set (m_set (m_set μ 118 0 (0)) 118 22 (g_w μ 0 a2)) 118 23 (g_w μ 1 a2))) (μ := μ) rfl rfl rfl] at hF5
        have hG5 : ∀ j, j < 100 → F5 j = fv (g_far μ a0 a1 (g_w μ 0 a2) j) := hF5
        refine rn_callP (k' := 19) (y := 212) (vs := [mR 118, mI (a0), mI (a1)]) (S' := []) (v := none) (h' := mkh (m_upd (m_upd (m_set (m_set (m_set μ 118 0 (0)) 118 22 (g_w μ 0 a2)) 118 23 (g_w μ 1 a2)) 125 F5) 126 q5) c s) rfl rfl rfl (hcl5) ?_
        show Rn PT none kX12_reach 19 [some (mR 118), some (mI (a0)), some (mI (a1)), some (mI (a2))] [] (mkh (m_upd (m_upd (m_set (m_set (m_set μ 118 0 (0)) 118 22 (g_w μ 0 a2)) 118 23 (g_w μ 1 a2)) 125 F5) 126 q5) c s) _
        refine rn_aload_n (k' := 20) rfl rfl rfl ?_
        refine rn_callP (k' := 21) (y := 226) (vs := [mR 118]) (S' := []) (v := some (mI (((cn (g_far μ a0 a1 (g_w μ 0 a2)) 100 : Nat) : Int)))) (h' := mkh (m_upd (m_upd (m_set (m_set (m_set μ 118 0 (0)) 118 22 (g_w μ 0 a2)) 118 23 (g_w μ 1 a2)) 125 F5) 126 q5) c s) rfl rfl rfl (c_X12_reached (G := g_far μ a0 a1 (g_w μ 0 a2)) hG5 (fun j => g_far_b hL (by assumption) j)) ?_
        show Rn PT none kX12_reach 21 [some (mR 118), some (mI (a0)), some (mI (a1)), some (mI (a2))] [mI (((cn (g_far μ a0 a1 (g_w μ 0 a2)) 100 : Nat) : Int))] (mkh (m_upd (m_upd (m_set (m_set (m_set μ 118 0 (0)) 118 22 (g_w μ 0 a2)) 118 23 (g_w μ 1 a2)) 125 F5) 126 q5) c s) _
        refine rn_iret rfl (Or.inl rfl) ?_
        refine ⟨(m_upd (m_upd (m_set (m_set (m_set μ 118 0 (0)) 118 22 (g_w μ 0 a2)) 118 23 (g_w μ 1 a2)) 125 F5) 126 q5), ?_, ((rst_upd (a := 126) (fun _ => rfl)).trans ((rst_upd (a := 125) (fun _ => rfl)).trans ((rst_set (a := 118) (j := 23) rfl).trans ((rst_set (a := 118) (j := 22) rfl).trans (rst_set (a := 118) (j := 0) rfl)))))⟩
        rw [g_reach_cn hL hv1]
      · exfalso; omega
    · exfalso; omega
  · rw [if_neg hv]
    refine ⟨_, PT_227, Nat.le_of_ble_eq_true rfl, ?_⟩
    show Rn PT none kX12_reach 0 [some (mR 118), some (mI (a0)), some (mI (a1)), some (mI (a2))] [] (mkh μ c s) _
    refine rn_aload_n (k' := 1) rfl rfl rfl ?_
    refine rn_iconst (k' := 2) rfl rfl ?_
    refine rn_putI (k' := 3) rfl rfl K0_118 (by decide) rfl ?_
    refine rn_aload_n (k' := 4) rfl rfl rfl ?_
    refine rn_iload_n (k' := 5) rfl rfl rfl ?_
    refine rn_iload_n (k' := 6) rfl rfl rfl ?_
    refine rn_iload_n (k' := 7) rfl rfl rfl ?_
    refine rn_iload_n (k' := 8) rfl rfl rfl ?_
    by_cases hq2 : g_cell μ a0 ∧ g_cell μ a0 ∧ (0 ≤ a1 ∧ a1 ≤ 99) ∧ 0 ≤ a2 ∧ a2 ≤ 29
    · refine rn_callP (k' := 9) (y := 214) (vs := [mR 118, mI (a0), mI (a0), mI (a1), mI (a2)]) (S' := []) (v := some (mI 1)) (h' := mkh (m_set μ 118 0 (0)) c s) rfl rfl rfl (by have hz : Cl PT 214 [mR 118, mI (a0), mI (a0), mI (a1), mI (a2)] (mkh (m_set μ 118 0 (0)) c s) (fun r => r = (some (some (mI (if g_cell μ a0 ∧ g_cell μ a0 ∧ (0 ≤ a1 ∧ a1 ≤ 99) ∧ 0 ≤ a2 ∧ a2 ≤ 29 then 1 else 0))), mkh (m_set μ 118 0 (0)) c s)) := c_X12_areAll ((hL).set rfl) (a := a0) (b := a0) (t := a1) (d := a2) (by omega) (by omega) (μ := (m_set μ 118 0 (0))) (c := c) (s := s); rw [if_pos hq2] at hz; exact hz) ?_
      show Rn PT none kX12_reach 9 [some (mR 118), some (mI (a0)), some (mI (a1)), some (mI (a2))] [mI (1)] (mkh (m_set μ 118 0 (0)) c s) _
      refine rn_if_ne (k' := 10) rfl rfl (fun hc3 => ?_) (fun hc3 => ?_)
      · skip
        refine rn_aload_n (k' := 13) rfl rfl rfl ?_
        refine rn_iload_n (k' := 14) rfl rfl rfl ?_
        exfalso; omega
      · exfalso; omega
    · refine rn_callP (k' := 9) (y := 214) (vs := [mR 118, mI (a0), mI (a0), mI (a1), mI (a2)]) (S' := []) (v := some (mI 0)) (h' := mkh (m_set μ 118 0 (0)) c s) rfl rfl rfl (by have hz : Cl PT 214 [mR 118, mI (a0), mI (a0), mI (a1), mI (a2)] (mkh (m_set μ 118 0 (0)) c s) (fun r => r = (some (some (mI (if g_cell μ a0 ∧ g_cell μ a0 ∧ (0 ≤ a1 ∧ a1 ≤ 99) ∧ 0 ≤ a2 ∧ a2 ≤ 29 then 1 else 0))), mkh (m_set μ 118 0 (0)) c s)) := c_X12_areAll ((hL).set rfl) (a := a0) (b := a0) (t := a1) (d := a2) (by omega) (by omega) (μ := (m_set μ 118 0 (0))) (c := c) (s := s); rw [if_neg hq2] at hz; exact hz) ?_
      show Rn PT none kX12_reach 9 [some (mR 118), some (mI (a0)), some (mI (a1)), some (mI (a2))] [mI (0)] (mkh (m_set μ 118 0 (0)) c s) _
      refine rn_if_ne (k' := 10) rfl rfl (fun hc4 => ?_) (fun hc4 => ?_)
      · exfalso; omega
      · skip
        refine rn_iconst (k' := 11) rfl rfl ?_
        refine rn_iret rfl (Or.inl rfl) ?_
        exact ⟨(m_set μ 118 0 (0)), rfl, (rst_set (a := 118) (j := 0) rfl)⟩
theorem pair_19 : ∀ (a0 : Int), ∀ (a1 : Int), ∀ (a2 : Int), i32 a0 → i32 a1 → i32 a2 → PairI (Inv N) 122 227 [mI a0, mI a1, mI a2] := by
  intro a0 a1 a2 ha0 ha1 ha2
  exact pair_of (fun ν => if g_cell ν a0 ∧ (0 ≤ a1 ∧ a1 ≤ 99) ∧ 0 ≤ a2 ∧ a2 ≤ 29 then g_reach ν a0 a1 (g_w ν 0 a2) else -1) (fun μ c s hI => t_X11_reach hI.land hI.scene ha0 ha1 ha2) (fun μ c s hI => t_X12_reach hI.land hI.scene ha0 ha1 ha2) (fun μ ν h => by
    have e6 := row_rst h (a := 6) (fun _ => rfl)
    have e7 := row_rst h (a := 7) (fun _ => rfl)
    have e8 := row_rst h (a := 8) (fun _ => rfl)
    have e10 := row_rst h (a := 10) (fun _ => rfl)
    have e14 := row_rst h (a := 14) (fun _ => rfl)
    have e15 := row_rst h (a := 15) (fun _ => rfl)
    have e16 := row_rst h (a := 16) (fun _ => rfl)
    simp only [g_cell, g_w, g_st, g_dep, e6, e7, e8, e10, e14, e15, e16, g_steps_rows e6 e7 e8, g_reach_rows e6 e7 e8, g_far_rows e6 e7 e8])
