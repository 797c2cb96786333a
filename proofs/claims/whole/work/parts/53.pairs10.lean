variable {N : Int}
/-! ===== printed by wip/whole/gen53.py: pairs: dry ===== -/
/-- the first from n on, of d, or -1 -/
def fF (p : Nat → Prop) [DecidablePred p] (n : Nat) : Nat → Int
  | 0 => -1
  | d + 1 => if p n then (n : Int) else fF p (n + 1) d
theorem fF_pos {p : Nat → Prop} [DecidablePred p] {n d : Nat} (h : p n) : fF p n (d + 1) = (n : Int) := if_pos h
theorem fF_neg {p : Nat → Prop} [DecidablePred p] {n d : Nat} (h : ¬ p n) : fF p n (d + 1) = fF p (n + 1) d := if_neg h
theorem g_steps_b {μ : Nat → Nat → Int} (hL : I_land μ) {a b t w : Int} (ha : g_cell μ a) : -1 ≤ g_steps μ a b t w ∧ g_steps μ a b t w ≤ 100 := by
  rw [g_steps_far]
  exact g_far_b hL ha _
set_option maxHeartbeats 4000000 in
theorem l_X11_dry {μ : Nat → Nat → Int} {c s : Nat} (hL : I_land μ) (hS : I_scene μ) {a0 a1 a2 : Int} (hv1 : g_cell μ a0) (hv2 : g_cell μ a1) (hv3 : 0 ≤ a2 ∧ a2 ≤ 99) : ∀ (d n : Nat) (ti : Int) (k : Int) (O : Nat → Int) (F : Nat → Int) (q : Nat → Int) (v6 : Option MV), k = (n : Int) → (n : Int) + d = 30 → (ti = -1 ∨ g_steps μ a0 a1 a2 ti = -1) → Rn PT none kX11_dry 17 [some (mR 0), some (mI (a0)), some (mI (a1)), some (mI (a2)), some (mI (ti)), some (mI (k)), v6] [] (mkh (m_upd (m_upd (m_upd μ 67 O) 68 F) 69 q) c s) (fun r => ∃ μ1, r = (some (some (mI (fF (fun j : Nat => ¬ g_steps μ a0 a1 a2 (g_w μ 0 (j : Int)) = -1) n d))), mkh μ1 c s) ∧ rst μ1 = rst μ) := by
  have hL_ := hL
  obtain ⟨lc, lr, le, lm, lw, lh, lwo, lwd, q0, q1, q2, q3, q4, q8, q499, q500, lth, lG, lT, lW, -⟩ := hL_
  have hS_ := hS
  obtain ⟨sd, sw, stk, s4, s5, s6, hC, hH, -, s10, sce, swc, s13⟩ := hS_
  intro d
  induction d with
  | zero =>
    intro n ti k O F q v6 ek hn hft
    subst ek
    refine rn_iload (k' := 18) rfl rfl rfl ?_
    refine rn_bipush (k' := 19) rfl rfl ?_
    refine rn_icmp_ge (k' := 20) rfl rfl (fun hc1 => ?_) (fun hc1 => ?_)
    · skip
      refine rn_iconst (k' := 45) rfl rfl ?_
      refine rn_iret rfl (Or.inl rfl) ?_
      refine ⟨(m_upd (m_upd (m_upd μ 67 O) 68 F) 69 q), ?_, ((rst_upd (a := 69) (fun _ => rfl)).trans ((rst_upd (a := 68) (fun _ => rfl)).trans (rst_upd (a := 67) (fun _ => rfl))))⟩
      rfl
    · exfalso; omega
  | succ d ih =>
    intro n ti k O F q v6 ek hn hft
    subst ek
    refine rn_iload (k' := 18) rfl rfl rfl ?_
    refine rn_bipush (k' := 19) rfl rfl ?_
    refine rn_icmp_ge (k' := 20) rfl rfl (fun hc1 => ?_) (fun hc1 => ?_)
    · exfalso; omega
    · skip
      refine rn_aload_n (k' := 21) rfl rfl rfl ?_
      refine rn_getR (k' := 22) rfl rfl K0_0 (by decide) rfl R0_0_3 ?_
      refine rn_iconst (k' := 23) rfl rfl ?_
      refine rn_iload (k' := 24) rfl rfl rfl ?_
      have hb2 := g_w_b hL 0 (n : Int)
      refine rn_callP (k' := 25) (y := 32) (vs := [mR 6, mI (0), mI ((n : Int))]) (S' := []) (v := some (mI (g_w μ 0 (n : Int)))) (h' := mkh (m_upd (m_upd (m_upd μ 67 O) 68 F) 69 q) c s) rfl rfl rfl (k_weatherOn (μ := (m_upd (m_upd (m_upd μ 67 O) 68 F) 69 q)) ((((hL).upd rfl).upd rfl).upd rfl) (by omega) (by omega)) ?_
      show Rn PT none kX11_dry 25 [some (mR 0), some (mI (a0)), some (mI (a1)), some (mI (a2)), some (mI (ti)), some (mI ((n : Int))), v6] [mI (g_w μ 0 (n : Int))] (mkh (m_upd (m_upd (m_upd μ 67 O) 68 F) 69 q) c s) _
      refine rn_istore (k' := 26) (L' := [some (mR 0), some (mI (a0)), some (mI (a1)), some (mI (a2)), some (mI (ti)), some (mI ((n : Int))), some (mI (g_w μ 0 (n : Int)))]) rfl rfl (Nat.le_of_ble_eq_true rfl) rfl ?_
      refine rn_iload (k' := 27) rfl rfl rfl ?_
      refine rn_iload (k' := 28) rfl rfl rfl ?_
      refine rn_icmp_eq (k' := 29) rfl rfl (fun hc3 => ?_) (fun hc3 => ?_)
      · skip
        refine rn_iload (k' := 41) rfl rfl rfl ?_
        refine rn_istore (k' := 42) (L' := [some (mR 0), some (mI (a0)), some (mI (a1)), some (mI (a2)), some (mI (g_w μ 0 (n : Int))), some (mI ((n : Int))), some (mI (g_w μ 0 (n : Int)))]) rfl rfl (Nat.le_of_ble_eq_true rfl) rfl ?_
        refine rn_iinc (k' := 43) (L' := [some (mR 0), some (mI (a0)), some (mI (a1)), some (mI (a2)), some (mI (g_w μ 0 (n : Int))), some (mI ((n : Int) + 1)), some (mI (g_w μ 0 (n : Int)))]) rfl rfl rfl (by omega) rfl ?_
        refine rn_goto rfl ?_
        show Rn PT none kX11_dry 17 [some (mR 0), some (mI (a0)), some (mI (a1)), some (mI (a2)), some (mI (g_w μ 0 (n : Int))), some (mI ((n : Int) + 1)), some (mI (g_w μ 0 (n : Int)))] [] (mkh (m_upd (m_upd (m_upd μ 67 O) 68 F) 69 q) c s) _
        have hz : g_steps μ a0 a1 a2 (g_w μ 0 (n : Int)) = -1 := by
          rcases hft with h | h
          · exfalso; omega
          · rw [hc3]; exact h
        rw [fF_neg (fun z => z hz)]
        rw [upd3_of (μ := μ) (ν := (m_upd (m_upd (m_upd μ 67 O) 68 F) 69 q)) (x := 67) (y := 68) (z := 69) (fun b hb67 hb68 hb69 => ((row_upd hb69).trans ((row_upd hb68).trans (row_upd hb67))))]
        exact ih (n + 1) _ _ _ _ _ _ (by omega) (by omega) (Or.inr hz)
      · skip
        refine rn_aload_n (k' := 30) rfl rfl rfl ?_
        refine rn_getR (k' := 31) rfl rfl K0_0 (by decide) rfl R0_0_8 ?_
        refine rn_iload_n (k' := 32) rfl rfl rfl ?_
        refine rn_iload_n (k' := 33) rfl rfl rfl ?_
        refine rn_iload_n (k' := 34) rfl rfl rfl ?_
        refine rn_iload (k' := 35) rfl rfl rfl ?_
        obtain ⟨O4, F4, q4, hF4, hcl4⟩ := c_stepsBetween (μ := (m_upd (m_upd (m_upd μ 67 O) 68 F) 69 q)) (c := c) (s := s) ((((hL).upd rfl).upd rfl).upd rfl) (a := a0) (b := a1) (t := a2) (w := g_w μ 0 (n : Int)) (by assumption) (by assumption) (by omega)
        rw [g_steps_rows (ν := (m_upd (m_upd (m_upd μ 67 O) 68 F) 69 q)) (μ := μ) rfl rfl rfl] at hcl4
        have hsb5 := g_steps_b hL (a := a0) (b := a1) (t := a2) (w := g_w μ 0 (n : Int)) (by assumption)
        refine rn_callP (k' := 36) (y := 91) (vs := [mR 66, mI (a0), mI (a1), mI (a2), mI (g_w μ 0 (n : Int))]) (S' := []) (v := some (mI (g_steps μ a0 a1 a2 (g_w μ 0 (n : Int))))) (h' := mkh (m_upd (m_upd (m_upd (m_upd (m_upd (m_upd μ 67 O) 68 F) 69 q) 67 O4) 68 F4) 69 q4) c s) rfl rfl rfl (hcl4) ?_
        show Rn PT none kX11_dry 36 [some (mR 0), some (mI (a0)), some (mI (a1)), some (mI (a2)), some (mI (ti)), some (mI ((n : Int))), some (mI (g_w μ 0 (n : Int)))] [mI (g_steps μ a0 a1 a2 (g_w μ 0 (n : Int)))] (mkh (m_upd (m_upd (m_upd (m_upd (m_upd (m_upd μ 67 O) 68 F) 69 q) 67 O4) 68 F4) 69 q4) c s) _
        refine rn_iconst (k' := 37) rfl rfl ?_
        refine rn_icmp_eq (k' := 38) rfl rfl (fun hc6 => ?_) (fun hc6 => ?_)
        · skip
          refine rn_iload (k' := 41) rfl rfl rfl ?_
          refine rn_istore (k' := 42) (L' := [some (mR 0), some (mI (a0)), some (mI (a1)), some (mI (a2)), some (mI (g_w μ 0 (n : Int))), some (mI ((n : Int))), some (mI (g_w μ 0 (n : Int)))]) rfl rfl (Nat.le_of_ble_eq_true rfl) rfl ?_
          refine rn_iinc (k' := 43) (L' := [some (mR 0), some (mI (a0)), some (mI (a1)), some (mI (a2)), some (mI (g_w μ 0 (n : Int))), some (mI ((n : Int) + 1)), some (mI (g_w μ 0 (n : Int)))]) rfl rfl rfl (by omega) rfl ?_
          refine rn_goto rfl ?_
          show Rn PT none kX11_dry 17 [some (mR 0), some (mI (a0)), some (mI (a1)), some (mI (a2)), some (mI (g_w μ 0 (n : Int))), some (mI ((n : Int) + 1)), some (mI (g_w μ 0 (n : Int)))] [] (mkh (m_upd (m_upd (m_upd (m_upd (m_upd (m_upd μ 67 O) 68 F) 69 q) 67 O4) 68 F4) 69 q4) c s) _
          have hz : g_steps μ a0 a1 a2 (g_w μ 0 (n : Int)) = -1 := hc6
          rw [fF_neg (fun z => z hz)]
          rw [upd3_of (μ := μ) (ν := (m_upd (m_upd (m_upd (m_upd (m_upd (m_upd μ 67 O) 68 F) 69 q) 67 O4) 68 F4) 69 q4)) (x := 67) (y := 68) (z := 69) (fun b hb67 hb68 hb69 => ((row_upd hb69).trans ((row_upd hb68).trans ((row_upd hb67).trans ((row_upd hb69).trans ((row_upd hb68).trans (row_upd hb67)))))))]
          exact ih (n + 1) _ _ _ _ _ _ (by omega) (by omega) (Or.inr hz)
        · skip
          refine rn_iload (k' := 39) rfl rfl rfl ?_
          refine rn_iret rfl (Or.inl rfl) ?_
          refine ⟨(m_upd (m_upd (m_upd (m_upd (m_upd (m_upd μ 67 O) 68 F) 69 q) 67 O4) 68 F4) 69 q4), ?_, ((rst_upd (a := 69) (fun _ => rfl)).trans ((rst_upd (a := 68) (fun _ => rfl)).trans ((rst_upd (a := 67) (fun _ => rfl)).trans ((rst_upd (a := 69) (fun _ => rfl)).trans ((rst_upd (a := 68) (fun _ => rfl)).trans (rst_upd (a := 67) (fun _ => rfl)))))))⟩
          rw [fF_pos (by omega)]
set_option maxHeartbeats 4000000 in
theorem t_X11_dry {μ : Nat → Nat → Int} {c s : Nat} (hL : I_land μ) (hS : I_scene μ) {a0 a1 a2 : Int} (h0 : i32 a0) (h1 : i32 a1) (h2 : i32 a2) : Cl PT 129 [mR 0, mI a0, mI a1, mI a2] (mkh μ c s) (fun r => ∃ μ1, r = (some (some (mI (if g_cell μ a0 ∧ g_cell μ a1 ∧ 0 ≤ a2 ∧ a2 ≤ 99 then fF (fun j : Nat => ¬ g_steps μ a0 a1 a2 (g_w μ 0 (j : Int)) = -1) (μ 14 0).toNat (30 - (μ 14 0).toNat) else -1))), mkh μ1 c s) ∧ rst μ1 = rst μ) := by
  have hL_ := hL
  obtain ⟨lc, lr, le, lm, lw, lh, lwo, lwd, q0, q1, q2, q3, q4, q8, q499, q500, lth, lG, lT, lW, -⟩ := hL_
  have hS_ := hS
  obtain ⟨sd, sw, stk, s4, s5, s6, hC, hH, -, s10, sce, swc, s13⟩ := hS_
  by_cases hv : g_cell μ a0 ∧ g_cell μ a1 ∧ 0 ≤ a2 ∧ a2 ≤ 99
  · rw [if_pos hv]
    have hv_ := hv
    obtain ⟨hv1, hv2, hv3⟩ := hv_
    refine ⟨_, PT_129, Nat.le_of_ble_eq_true rfl, ?_⟩
    show Rn PT none kX11_dry 0 [some (mR 0), some (mI (a0)), some (mI (a1)), some (mI (a2)), none, none, none] [] (mkh μ c s) _
    refine rn_aload_n (k' := 1) rfl rfl rfl ?_
    refine rn_iload_n (k' := 2) rfl rfl rfl ?_
    refine rn_iload_n (k' := 3) rfl rfl rfl ?_
    refine rn_iload_n (k' := 4) rfl rfl rfl ?_
    refine rn_aload_n (k' := 5) rfl rfl rfl ?_
    refine rn_getR (k' := 6) rfl rfl K0_0 (by decide) rfl R0_0_4 ?_
    refine rn_getI (k' := 7) rfl rfl K0_14 (by decide) rfl ?_
    by_cases hq1 : g_cell μ a0 ∧ g_cell μ a1 ∧ (0 ≤ a2 ∧ a2 ≤ 99) ∧ 0 ≤ (μ 14 0) ∧ (μ 14 0) ≤ 29
    · refine rn_callP (k' := 8) (y := 155) (vs := [mR 0, mI (a0), mI (a1), mI (a2), mI (μ 14 0)]) (S' := []) (v := some (mI 1)) (h' := mkh μ c s) rfl rfl rfl (by have hz : Cl PT 155 [mR 0, mI (a0), mI (a1), mI (a2), mI (μ 14 0)] (mkh μ c s) (fun r => r = (some (some (mI (if g_cell μ a0 ∧ g_cell μ a1 ∧ (0 ≤ a2 ∧ a2 ≤ 99) ∧ 0 ≤ (μ 14 0) ∧ (μ 14 0) ≤ 29 then 1 else 0))), mkh μ c s)) := c_X11_areSuch (hL) (a := a0) (b := a1) (t := a2) (d := μ 14 0) (by omega) (by omega) (μ := μ) (c := c) (s := s); rw [if_pos hq1] at hz; exact hz) ?_
      show Rn PT none kX11_dry 8 [some (mR 0), some (mI (a0)), some (mI (a1)), some (mI (a2)), none, none, none] [mI (1)] (mkh μ c s) _
      refine rn_if_ne (k' := 9) rfl rfl (fun hc2 => ?_) (fun hc2 => ?_)
      · skip
        refine rn_iconst (k' := 12) rfl rfl ?_
        refine rn_istore (k' := 13) (L' := [some (mR 0), some (mI (a0)), some (mI (a1)), some (mI (a2)), some (mI (-1)), none, none]) rfl rfl (Nat.le_of_ble_eq_true rfl) rfl ?_
        refine rn_aload_n (k' := 14) rfl rfl rfl ?_
        refine rn_getR (k' := 15) rfl rfl K0_0 (by decide) rfl R0_0_4 ?_
        refine rn_getI (k' := 16) rfl rfl K0_14 (by decide) rfl ?_
        refine rn_istore (k' := 17) (L' := [some (mR 0), some (mI (a0)), some (mI (a1)), some (mI (a2)), some (mI (-1)), some (mI (μ 14 0)), none]) rfl rfl (Nat.le_of_ble_eq_true rfl) rfl ?_
        have h := l_X11_dry (c := c) (s := s) hL hS hv1 hv2 hv3 (30 - (μ 14 0).toNat) (μ 14 0).toNat (-1) _ (μ 67) (μ 68) (μ 69) none rfl (by omega) (Or.inl rfl)
        rw [upd_self] at h
        rw [upd_self (μ := μ) (a := 68), upd_self (μ := μ) (a := 69)] at h
        rw [show (((μ 14 0).toNat : Nat) : Int) = μ 14 0 by omega] at h
        exact h
      · exfalso; omega
    · exfalso; omega
  · rw [if_neg hv]
    refine ⟨_, PT_129, Nat.le_of_ble_eq_true rfl, ?_⟩
    show Rn PT none kX11_dry 0 [some (mR 0), some (mI (a0)), some (mI (a1)), some (mI (a2)), none, none, none] [] (mkh μ c s) _
    refine rn_aload_n (k' := 1) rfl rfl rfl ?_
    refine rn_iload_n (k' := 2) rfl rfl rfl ?_
    refine rn_iload_n (k' := 3) rfl rfl rfl ?_
    refine rn_iload_n (k' := 4) rfl rfl rfl ?_
    refine rn_aload_n (k' := 5) rfl rfl rfl ?_
    refine rn_getR (k' := 6) rfl rfl K0_0 (by decide) rfl R0_0_4 ?_
    refine rn_getI (k' := 7) rfl rfl K0_14 (by decide) rfl ?_
    by_cases hq1 : g_cell μ a0 ∧ g_cell μ a1 ∧ (0 ≤ a2 ∧ a2 ≤ 99) ∧ 0 ≤ (μ 14 0) ∧ (μ 14 0) ≤ 29
    · refine rn_callP (k' := 8) (y := 155) (vs := [mR 0, mI (a0), mI (a1), mI (a2), mI (μ 14 0)]) (S' := []) (v := some (mI 1)) (h' := mkh μ c s) rfl rfl rfl (by have hz : Cl PT 155 [mR 0, mI (a0), mI (a1), mI (a2), mI (μ 14 0)] (mkh μ c s) (fun r => r = (some (some (mI (if g_cell μ a0 ∧ g_cell μ a1 ∧ (0 ≤ a2 ∧ a2 ≤ 99) ∧ 0 ≤ (μ 14 0) ∧ (μ 14 0) ≤ 29 then 1 else 0))), mkh μ c s)) := c_X11_areSuch (hL) (a := a0) (b := a1) (t := a2) (d := μ 14 0) (by omega) (by omega) (μ := μ) (c := c) (s := s); rw [if_pos hq1] at hz; exact hz) ?_
      show Rn PT none kX11_dry 8 [some (mR 0), some (mI (a0)), some (mI (a1)), some (mI (a2)), none, none, none] [mI (1)] (mkh μ c s) _
      refine rn_if_ne (k' := 9) rfl rfl (fun hc2 => ?_) (fun hc2 => ?_)
      · skip
        refine rn_iconst (k' := 12) rfl rfl ?_
        refine rn_istore (k' := 13) (L' := [some (mR 0), some (mI (a0)), some (mI (a1)), some (mI (a2)), some (mI (-1)), none, none]) rfl rfl (Nat.le_of_ble_eq_true rfl) rfl ?_
        refine rn_aload_n (k' := 14) rfl rfl rfl ?_
        refine rn_getR (k' := 15) rfl rfl K0_0 (by decide) rfl R0_0_4 ?_
        refine rn_getI (k' := 16) rfl rfl K0_14 (by decide) rfl ?_
        refine rn_istore (k' := 17) (L' := [some (mR 0), some (mI (a0)), some (mI (a1)), some (mI (a2)), some (mI (-1)), some (mI (μ 14 0)), none]) rfl rfl (Nat.le_of_ble_eq_true rfl) rfl ?_
        exfalso; omega
      · exfalso; omega
    · refine rn_callP (k' := 8) (y := 155) (vs := [mR 0, mI (a0), mI (a1), mI (a2), mI (μ 14 0)]) (S' := []) (v := some (mI 0)) (h' := mkh μ c s) rfl rfl rfl (by have hz : Cl PT 155 [mR 0, mI (a0), mI (a1), mI (a2), mI (μ 14 0)] (mkh μ c s) (fun r => r = (some (some (mI (if g_cell μ a0 ∧ g_cell μ a1 ∧ (0 ≤ a2 ∧ a2 ≤ 99) ∧ 0 ≤ (μ 14 0) ∧ (μ 14 0) ≤ 29 then 1 else 0))), mkh μ c s)) := c_X11_areSuch (hL) (a := a0) (b := a1) (t := a2) (d := μ 14 0) (by omega) (by omega) (μ := μ) (c := c) (s := s); rw [if_neg hq1] at hz; exact hz) ?_
      show Rn PT none kX11_dry 8 [some (mR 0), some (mI (a0)), some (mI (a1)), some (mI (a2)), none, none, none] [mI (0)] (mkh μ c s) _
      refine rn_if_ne (k' := 9) rfl rfl (fun hc3 => ?_) (fun hc3 => ?_)
      · exfalso; omega
      · skip
        refine rn_iconst (k' := 10) rfl rfl ?_
        refine rn_iret rfl (Or.inl rfl) ?_
        exact ⟨μ, rfl, rfl⟩
set_option maxHeartbeats 4000000 in
theorem l_X12_dry {μ : Nat → Nat → Int} {c s : Nat} (hL : I_land μ) (hS : I_scene μ) {a0 a1 a2 : Int} (hv1 : g_cell μ a0) (hv2 : g_cell μ a1) (hv3 : 0 ≤ a2 ∧ a2 ≤ 99) : ∀ (d n : Nat) (k : Int) (H : Nat → Int) (F : Nat → Int) (q : Nat → Int), k = (n : Int) → (n : Int) + d = 30 → (∀ j, sup 118 j = true → H j = μ 118 j) → Rn PT none kX12_dry 17 [some (mR 118), some (mI (a0)), some (mI (a1)), some (mI (a2)), some (mI (k))] [] (mkh (m_upd (m_upd (m_upd μ 118 H) 125 F) 126 q) c s) (fun r => ∃ μ1, r = (some (some (mI (fF (fun j : Nat => ¬ g_steps μ a0 a1 a2 (g_w μ 0 (j : Int)) = -1) n d))), mkh μ1 c s) ∧ rst μ1 = rst μ) := by
  have hL_ := hL
  obtain ⟨lc, lr, le, lm, lw, lh, lwo, lwd, q0, q1, q2, q3, q4, q8, q499, q500, lth, lG, lT, lW, -⟩ := hL_
  have hS_ := hS
  obtain ⟨sd, sw, stk, s4, s5, s6, hC, hH, -, s10, sce, swc, s13⟩ := hS_
  intro d
  induction d with
  | zero =>
    intro n k H F q ek hn hHs
    subst ek
    refine rn_iload (k' := 18) rfl rfl rfl ?_
    refine rn_bipush (k' := 19) rfl rfl ?_
    refine rn_icmp_ge (k' := 20) rfl rfl (fun hc1 => ?_) (fun hc1 => ?_)
    · skip
      refine rn_iconst (k' := 34) rfl rfl ?_
      refine rn_iret rfl (Or.inl rfl) ?_
      refine ⟨(m_upd (m_upd (m_upd μ 118 H) 125 F) 126 q), ?_, ((rst_upd (a := 126) (fun _ => rfl)).trans ((rst_upd (a := 125) (fun _ => rfl)).trans (rst_upd1 (a := 118) hHs)))⟩
      rfl
    · exfalso; omega
  | succ d ih =>
    intro n k H F q ek hn hHs
    subst ek
    refine rn_iload (k' := 18) rfl rfl rfl ?_
    refine rn_bipush (k' := 19) rfl rfl ?_
    refine rn_icmp_ge (k' := 20) rfl rfl (fun hc1 => ?_) (fun hc1 => ?_)
    · exfalso; omega
    · skip
      refine rn_aload_n (k' := 21) rfl rfl rfl ?_
      refine rn_iload (k' := 22) rfl rfl rfl ?_
      have hb2 := g_w_b hL 0 (n : Int)
      have hc902 := g_w_b hL 1 (n : Int)
      refine rn_callP (k' := 23) (y := 201) (vs := [mR 118, mI ((n : Int))]) (S' := []) (v := none) (h' := mkh (m_set (m_set (m_upd (m_upd (m_upd μ 118 H) 125 F) 126 q) 118 22 (g_w μ 0 (n : Int))) 118 23 (g_w μ 1 (n : Int))) c s) rfl rfl rfl (c_X12_of (μ := (m_upd (m_upd (m_upd μ 118 H) 125 F) 126 q)) ((((hL).upd rfl).upd rfl).upd rfl) (by omega)) ?_
      show Rn PT none kX12_dry 23 [some (mR 118), some (mI (a0)), some (mI (a1)), some (mI (a2)), some (mI ((n : Int)))] [] (mkh (m_set (m_set (m_upd (m_upd (m_upd μ 118 H) 125 F) 126 q) 118 22 (g_w μ 0 (n : Int))) 118 23 (g_w μ 1 (n : Int))) c s) _
      refine rn_aload_n (k' := 24) rfl rfl rfl ?_
      refine rn_iload_n (k' := 25) rfl rfl rfl ?_
      refine rn_iload_n (k' := 26) rfl rfl rfl ?_
      refine rn_iload_n (k' := 27) rfl rfl rfl ?_
      obtain ⟨F3, q3, hF3, hcl3⟩ := c_stepsOf (μ := (m_set (m_set (m_upd (m_upd (m_upd μ 118 H) 125 F) 126 q) 118 22 (g_w μ 0 (n : Int))) 118 23 (g_w μ 1 (n : Int)))) (c := c) (s := s) ((((((hL).upd rfl).upd rfl).upd rfl).set rfl).set rfl) (by show 0 ≤ g_w μ 0 (n : Int) ∧ g_w μ 0 (n : Int) ≤ 1000; omega) (a := a0) (b := a1) (t := a2) (by omega) (by assumption) (by assumption)
      rw [g_steps_rows (ν := (m_set (m_set (m_upd (m_upd (m_upd μ 118 H) 125 F) 126 q) 118 22 (g_w μ 0 (n : Int))) 118 23 (g_w μ 1 (n : Int)))) (μ := μ) rfl rfl rfl] at hcl3
      have hsb4 := g_steps_b hL (a := a0) (b := a1) (t := a2) (w := g_w μ 0 (n : Int)) (by assumption)
      refine rn_callP (k' := 28) (y := 213) (vs := [mR 118, mI (a0), mI (a1), mI (a2)]) (S' := []) (v := some (mI (g_steps μ a0 a1 a2 (g_w μ 0 (n : Int))))) (h' := mkh (m_upd (m_upd (m_set (m_set (m_upd (m_upd (m_upd μ 118 H) 125 F) 126 q) 118 22 (g_w μ 0 (n : Int))) 118 23 (g_w μ 1 (n : Int))) 125 F3) 126 q3) c s) rfl rfl rfl (hcl3) ?_
      show Rn PT none kX12_dry 28 [some (mR 118), some (mI (a0)), some (mI (a1)), some (mI (a2)), some (mI ((n : Int)))] [mI (g_steps μ a0 a1 a2 (g_w μ 0 (n : Int)))] (mkh (m_upd (m_upd (m_set (m_set (m_upd (m_upd (m_upd μ 118 H) 125 F) 126 q) 118 22 (g_w μ 0 (n : Int))) 118 23 (g_w μ 1 (n : Int))) 125 F3) 126 q3) c s) _
      refine rn_if_lt (k' := 29) rfl rfl (fun hc5 => ?_) (fun hc5 => ?_)
      · skip
        refine rn_iinc (k' := 32) (L' := [some (mR 118), some (mI (a0)), some (mI (a1)), some (mI (a2)), some (mI ((n : Int) + 1))]) rfl rfl rfl (by omega) rfl ?_
        refine rn_goto rfl ?_
        show Rn PT none kX12_dry 17 [some (mR 118), some (mI (a0)), some (mI (a1)), some (mI (a2)), some (mI ((n : Int) + 1))] [] (mkh (m_upd (m_upd (m_set (m_set (m_upd (m_upd (m_upd μ 118 H) 125 F) 126 q) 118 22 (g_w μ 0 (n : Int))) 118 23 (g_w μ 1 (n : Int))) 125 F3) 126 q3) c s) _
        rw [fF_neg (fun z => z (by omega))]
        rw [upd3_of (μ := μ) (ν := (m_upd (m_upd (m_set (m_set (m_upd (m_upd (m_upd μ 118 H) 125 F) 126 q) 118 22 (g_w μ 0 (n : Int))) 118 23 (g_w μ 1 (n : Int))) 125 F3) 126 q3)) (x := 118) (y := 125) (z := 126) (fun b hb118 hb125 hb126 => ((row_upd hb126).trans ((row_upd hb125).trans ((row_set hb118).trans ((row_set hb118).trans ((row_upd hb126).trans ((row_upd hb125).trans (row_upd hb118))))))))]
        exact ih (n + 1) _ _ _ _ (by omega) (by omega) (fun j hj => sup_eq ((rst_upd (a := 126) (fun _ => rfl)).trans ((rst_upd (a := 125) (fun _ => rfl)).trans ((rst_set (a := 118) (j := 23) rfl).trans ((rst_set (a := 118) (j := 22) rfl).trans ((rst_upd (a := 126) (fun _ => rfl)).trans ((rst_upd (a := 125) (fun _ => rfl)).trans (rst_upd1 (a := 118) hHs))))))) hj)
      · skip
        refine rn_iload (k' := 30) rfl rfl rfl ?_
        refine rn_iret rfl (Or.inl rfl) ?_
        refine ⟨(m_upd (m_upd (m_set (m_set (m_upd (m_upd (m_upd μ 118 H) 125 F) 126 q) 118 22 (g_w μ 0 (n : Int))) 118 23 (g_w μ 1 (n : Int))) 125 F3) 126 q3), ?_, ((rst_upd (a := 126) (fun _ => rfl)).trans ((rst_upd (a := 125) (fun _ => rfl)).trans ((rst_set (a := 118) (j := 23) rfl).trans ((rst_set (a := 118) (j := 22) rfl).trans ((rst_upd (a := 126) (fun _ => rfl)).trans ((rst_upd (a := 125) (fun _ => rfl)).trans (rst_upd1 (a := 118) hHs)))))))⟩
        rw [fF_pos (by omega)]
set_option maxHeartbeats 4000000 in
theorem t_X12_dry {μ : Nat → Nat → Int} {c s : Nat} (hL : I_land μ) (hS : I_scene μ) {a0 a1 a2 : Int} (h0 : i32 a0) (h1 : i32 a1) (h2 : i32 a2) : Cl PT 256 [mR 118, mI a0, mI a1, mI a2] (mkh μ c s) (fun r => ∃ μ1, r = (some (some (mI (if g_cell μ a0 ∧ g_cell μ a1 ∧ 0 ≤ a2 ∧ a2 ≤ 99 then fF (fun j : Nat => ¬ g_steps μ a0 a1 a2 (g_w μ 0 (j : Int)) = -1) (μ 14 0).toNat (30 - (μ 14 0).toNat) else -1))), mkh μ1 c s) ∧ rst μ1 = rst μ) := by
  have hL_ := hL
  obtain ⟨lc, lr, le, lm, lw, lh, lwo, lwd, q0, q1, q2, q3, q4, q8, q499, q500, lth, lG, lT, lW, -⟩ := hL_
  have hS_ := hS
  obtain ⟨sd, sw, stk, s4, s5, s6, hC, hH, -, s10, sce, swc, s13⟩ := hS_
  by_cases hv : g_cell μ a0 ∧ g_cell μ a1 ∧ 0 ≤ a2 ∧ a2 ≤ 99
  · rw [if_pos hv]
    have hv_ := hv
    obtain ⟨hv1, hv2, hv3⟩ := hv_
    refine ⟨_, PT_256, Nat.le_of_ble_eq_true rfl, ?_⟩
    show Rn PT none kX12_dry 0 [some (mR 118), some (mI (a0)), some (mI (a1)), some (mI (a2)), none] [] (mkh μ c s) _
    refine rn_aload_n (k' := 1) rfl rfl rfl ?_
    refine rn_iconst (k' := 2) rfl rfl ?_
    refine rn_putI (k' := 3) rfl rfl K0_118 (by decide) rfl ?_
    refine rn_aload_n (k' := 4) rfl rfl rfl ?_
    refine rn_iload_n (k' := 5) rfl rfl rfl ?_
    refine rn_iload_n (k' := 6) rfl rfl rfl ?_
    refine rn_iload_n (k' := 7) rfl rfl rfl ?_
    refine rn_iconst (k' := 8) rfl rfl ?_
    by_cases hq2 : g_cell μ a0 ∧ g_cell μ a1 ∧ (0 ≤ a2 ∧ a2 ≤ 99) ∧ 0 ≤ (0 : Int) ∧ (0 : Int) ≤ 29
    · refine rn_callP (k' := 9) (y := 214) (vs := [mR 118, mI (a0), mI (a1), mI (a2), mI (0)]) (S' := []) (v := some (mI 1)) (h' := mkh (m_set μ 118 0 (0)) c s) rfl rfl rfl (by have hz : Cl PT 214 [mR 118, mI (a0), mI (a1), mI (a2), mI (0)] (mkh (m_set μ 118 0 (0)) c s) (fun r => r = (some (some (mI (if g_cell μ a0 ∧ g_cell μ a1 ∧ (0 ≤ a2 ∧ a2 ≤ 99) ∧ 0 ≤ (0 : Int) ∧ (0 : Int) ≤ 29 then 1 else 0))), mkh (m_set μ 118 0 (0)) c s)) := c_X12_areAll ((hL).set rfl) (a := a0) (b := a1) (t := a2) (d := 0) (by omega) (by omega) (μ := (m_set μ 118 0 (0))) (c := c) (s := s); rw [if_pos hq2] at hz; exact hz) ?_
      show Rn PT none kX12_dry 9 [some (mR 118), some (mI (a0)), some (mI (a1)), some (mI (a2)), none] [mI (1)] (mkh (m_set μ 118 0 (0)) c s) _
      refine rn_if_ne (k' := 10) rfl rfl (fun hc3 => ?_) (fun hc3 => ?_)
      · skip
        refine rn_aload_n (k' := 13) rfl rfl rfl ?_
        refine rn_getR (k' := 14) rfl rfl K0_118 (by decide) rfl R0_118_6 ?_
        refine rn_sipush (k' := 15) rfl rfl ?_
        refine rn_iaload (k' := 16) rfl rfl K0_120 (by omega) (by omega) ?_
        show Rn PT none kX12_dry 16 [some (mR 118), some (mI (a0)), some (mI (a1)), some (mI (a2)), none] [mI (μ 120 517)] (mkh (m_set μ 118 0 (0)) c s) _
        rw [s4]
        refine rn_istore (k' := 17) (L' := [some (mR 118), some (mI (a0)), some (mI (a1)), some (mI (a2)), some (mI (μ 14 0))]) rfl rfl (Nat.le_of_ble_eq_true rfl) rfl ?_
        show Rn PT none kX12_dry 17 [some (mR 118), some (mI (a0)), some (mI (a1)), some (mI (a2)), some (mI (μ 14 0))] [] (mkh (m_set μ 118 0 (0)) c s) _
        rw [upd3_of (μ := μ) (ν := (m_set μ 118 0 (0))) (x := 118) (y := 125) (z := 126) (fun b hb118 hb125 hb126 => (row_set hb118))]
        have h := l_X12_dry (c := c) (s := s) hL hS hv1 hv2 hv3 (30 - (μ 14 0).toNat) (μ 14 0).toNat _ ((m_set μ 118 0 (0)) 118) ((m_set μ 118 0 (0)) 125) ((m_set μ 118 0 (0)) 126) rfl (by omega) (fun j hj => sup_eq (rst_set (a := 118) (j := 0) rfl) hj)
        rw [show (((μ 14 0).toNat : Nat) : Int) = μ 14 0 by omega] at h
        exact h
      · exfalso; omega
    · exfalso; omega
  · rw [if_neg hv]
    refine ⟨_, PT_256, Nat.le_of_ble_eq_true rfl, ?_⟩
    show Rn PT none kX12_dry 0 [some (mR 118), some (mI (a0)), some (mI (a1)), some (mI (a2)), none] [] (mkh μ c s) _
    refine rn_aload_n (k' := 1) rfl rfl rfl ?_
    refine rn_iconst (k' := 2) rfl rfl ?_
    refine rn_putI (k' := 3) rfl rfl K0_118 (by decide) rfl ?_
    refine rn_aload_n (k' := 4) rfl rfl rfl ?_
    refine rn_iload_n (k' := 5) rfl rfl rfl ?_
    refine rn_iload_n (k' := 6) rfl rfl rfl ?_
    refine rn_iload_n (k' := 7) rfl rfl rfl ?_
    refine rn_iconst (k' := 8) rfl rfl ?_
    by_cases hq2 : g_cell μ a0 ∧ g_cell μ a1 ∧ (0 ≤ a2 ∧ a2 ≤ 99) ∧ 0 ≤ (0 : Int) ∧ (0 : Int) ≤ 29
    · refine rn_callP (k' := 9) (y := 214) (vs := [mR 118, mI (a0), mI (a1), mI (a2), mI (0)]) (S' := []) (v := some (mI 1)) (h' := mkh (m_set μ 118 0 (0)) c s) rfl rfl rfl (by have hz : Cl PT 214 [mR 118, mI (a0), mI (a1), mI (a2), mI (0)] (mkh (m_set μ 118 0 (0)) c s) (fun r => r = (some (some (mI (if g_cell μ a0 ∧ g_cell μ a1 ∧ (0 ≤ a2 ∧ a2 ≤ 99) ∧ 0 ≤ (0 : Int) ∧ (0 : Int) ≤ 29 then 1 else 0))), mkh (m_set μ 118 0 (0)) c s)) := c_X12_areAll ((hL).set rfl) (a := a0) (b := a1) (t := a2) (d := 0) (by omega) (by omega) (μ := (m_set μ 118 0 (0))) (c := c) (s := s); rw [if_pos hq2] at hz; exact hz) ?_
      show Rn PT none kX12_dry 9 [some (mR 118), some (mI (a0)), some (mI (a1)), some (mI (a2)), none] [mI (1)] (mkh (m_set μ 118 0 (0)) c s) _
      refine rn_if_ne (k' := 10) rfl rfl (fun hc3 => ?_) (fun hc3 => ?_)
      · skip
        refine rn_aload_n (k' := 13) rfl rfl rfl ?_
        refine rn_getR (k' := 14) rfl rfl K0_118 (by decide) rfl R0_118_6 ?_
        refine rn_sipush (k' := 15) rfl rfl ?_
        refine rn_iaload (k' := 16) rfl rfl K0_120 (by omega) (by omega) ?_
        show Rn PT none kX12_dry 16 [some (mR 118), some (mI (a0)), some (mI (a1)), some (mI (a2)), none] [mI (μ 120 517)] (mkh (m_set μ 118 0 (0)) c s) _
        rw [s4]
        refine rn_istore (k' := 17) (L' := [some (mR 118), some (mI (a0)), some (mI (a1)), some (mI (a2)), some (mI (μ 14 0))]) rfl rfl (Nat.le_of_ble_eq_true rfl) rfl ?_
        exfalso; omega
      · exfalso; omega
    · refine rn_callP (k' := 9) (y := 214) (vs := [mR 118, mI (a0), mI (a1), mI (a2), mI (0)]) (S' := []) (v := some (mI 0)) (h' := mkh (m_set μ 118 0 (0)) c s) rfl rfl rfl (by have hz : Cl PT 214 [mR 118, mI (a0), mI (a1), mI (a2), mI (0)] (mkh (m_set μ 118 0 (0)) c s) (fun r => r = (some (some (mI (if g_cell μ a0 ∧ g_cell μ a1 ∧ (0 ≤ a2 ∧ a2 ≤ 99) ∧ 0 ≤ (0 : Int) ∧ (0 : Int) ≤ 29 then 1 else 0))), mkh (m_set μ 118 0 (0)) c s)) := c_X12_areAll ((hL).set rfl) (a := a0) (b := a1) (t := a2) (d := 0) (by omega) (by omega) (μ := (m_set μ 118 0 (0))) (c := c) (s := s); rw [if_neg hq2] at hz; exact hz) ?_
      show Rn PT none kX12_dry 9 [some (mR 118), some (mI (a0)), some (mI (a1)), some (mI (a2)), none] [mI (0)] (mkh (m_set μ 118 0 (0)) c s) _
      refine rn_if_ne (k' := 10) rfl rfl (fun hc4 => ?_) (fun hc4 => ?_)
      · exfalso; omega
      · skip
        refine rn_iconst (k' := 11) rfl rfl ?_
        refine rn_iret rfl (Or.inl rfl) ?_
        exact ⟨(m_set μ 118 0 (0)), rfl, (rst_set (a := 118) (j := 0) rfl)⟩
theorem pair_38 : ∀ (a0 : Int), ∀ (a1 : Int), ∀ (a2 : Int), i32 a0 → i32 a1 → i32 a2 → PairI (Inv N) 129 256 [mI a0, mI a1, mI a2] := by
  intro a0 a1 a2 ha0 ha1 ha2
  exact pair_of (fun ν => if g_cell ν a0 ∧ g_cell ν a1 ∧ 0 ≤ a2 ∧ a2 ≤ 99 then fF (fun j : Nat => ¬ g_steps ν a0 a1 a2 (g_w ν 0 (j : Int)) = -1) (ν 14 0).toNat (30 - (ν 14 0).toNat) else -1) (fun μ c s hI => t_X11_dry hI.land hI.scene ha0 ha1 ha2) (fun μ c s hI => t_X12_dry hI.land hI.scene ha0 ha1 ha2) (fun μ ν h => by
    have e6 := row_rst h (a := 6) (fun _ => rfl)
    have e7 := row_rst h (a := 7) (fun _ => rfl)
    have e8 := row_rst h (a := 8) (fun _ => rfl)
    have e10 := row_rst h (a := 10) (fun _ => rfl)
    have e14 := row_rst h (a := 14) (fun _ => rfl)
    have e15 := row_rst h (a := 15) (fun _ => rfl)
    have e16 := row_rst h (a := 16) (fun _ => rfl)
    simp only [g_cell, g_w, g_st, g_dep, e6, e7, e8, e10, e14, e15, e16, g_steps_rows e6 e7 e8, g_reach_rows e6 e7 e8, g_far_rows e6 e7 e8])
