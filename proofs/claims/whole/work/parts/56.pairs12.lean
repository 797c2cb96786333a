variable {N : Int}
/-! ===== printed by wip/whole/gen56.py: pairs: drowns ===== -/
theorem fF_first {p : Nat → Prop} [DecidablePred p] {m : Nat} (h2 : p m) : ∀ (d n : Nat), (∀ j, n ≤ j → j < m → ¬ p j) → n ≤ m → m < n + d → fF p n d = (m : Int)
  | 0, n, _, h3, h4 => by omega
  | d + 1, n, h1, h3, h4 => by
    by_cases e : n = m
    · subst e; exact fF_pos h2
    · rw [fF_neg (h1 n (by omega) (by omega))]
      exact fF_first h2 d (n + 1) (fun j a b => h1 j (by omega) b) (by omega) (by omega)
theorem fF_none {p : Nat → Prop} [DecidablePred p] : ∀ (d n : Nat), (∀ j, n ≤ j → j < n + d → ¬ p j) → fF p n d = -1
  | 0, n, _ => rfl
  | d + 1, n, h1 => by
    rw [fF_neg (h1 n (by omega) (by omega))]
    exact fF_none d (n + 1) (fun j a b => h1 j (by omega) (by omega))
theorem g_steps_mono {μ : Nat → Nat → Int} (hL : I_land μ) {a b t w w' : Int} (ha : g_cell μ a) (hb : g_cell μ b) (hw : w ≤ w') (h : ¬ g_steps μ a b t w' = -1) : ¬ g_steps μ a b t w = -1 := by
  have hm : ∀ x, g_stand μ x t w' → g_stand μ x t w := fun x hx => ⟨by have := hx.1; omega, hx.2⟩
  by_cases h1 : g_stand μ a t w'
  · rw [g_steps_pos h1] at h
    rw [g_steps_pos (hm a h1)]
    exact bfs_mono (O := fun z => g_stand μ z t w) (O' := fun z => g_stand μ z t w') (g_GR hL) hm ha hb h
  · rw [g_steps_neg h1] at h
    exact absurd rfl h
set_option maxHeartbeats 4000000 in
theorem l_X11_drowns {μ : Nat → Nat → Int} {c s : Nat} (hL : I_land μ) (hS : I_scene μ) {a0 a1 a2 a3 : Int} (hv1 : g_cell μ a0) (hv2 : g_cell μ a1) (hv3 : 0 ≤ a2 ∧ a2 ≤ 99) (hv4 : 0 ≤ a3 ∧ a3 ≤ 29) : ∀ (d n : Nat) (pv : Int) (qv : Int) (k : Int) (O : Nat → Int) (F : Nat → Int) (qq : Nat → Int) (v9 : Option MV), k = (n : Int) → (n : Int) + d = 99 → (0 ≤ pv ∧ pv < qv ∧ qv ≤ 99 ∧ qv - pv ≤ 99 - (n : Int)) → (¬ g_steps μ a0 a1 a2 (g_w μ 0 a3 + pv) = -1) → (g_steps μ a0 a1 a2 (g_w μ 0 a3 + qv) = -1) → Rn PT none kX11_drowns 43 [some (mR 0), some (mI (a0)), some (mI (a1)), some (mI (a2)), some (mI (a3)), some (mI (g_w μ 0 a3)), some (mI (pv)), some (mI (qv)), some (mI (k)), v9] [] (mkh (m_upd (m_upd (m_upd μ 67 O) 68 F) 69 qq) c s) (fun r => ∃ μ1, r = (some (some (mI (fF (fun j : Nat => g_steps μ a0 a1 a2 (g_w μ 0 a3 + (j : Int)) = -1) 1 99))), mkh μ1 c s) ∧ rst μ1 = rst μ) := by
  have hL_ := hL
  obtain ⟨lc, lr, le, lm, lw, lh, lwo, lwd, q0, q1, q2, q3, q4, q8, q499, q500, lth, lG, lT, lW, -⟩ := hL_
  have hS_ := hS
  obtain ⟨sd, sw, stk, s4, s5, s6, hC, hH, -, s10, sce, swc, s13⟩ := hS_
  have hwb := g_w_b hL 0 a3
  intro d
  induction d with
  | zero =>
    intro n pv qv k O F qq v9 ek hn hfr hfp hfq
    subst ek
    have hmid : (pv + qv).tdiv 2 = (pv + qv) / 2 := Int.tdiv_eq_ediv_of_nonneg (by omega)
    refine rn_iload (k' := 44) rfl rfl rfl ?_
    refine rn_bipush (k' := 45) rfl rfl ?_
    refine rn_icmp_ge (k' := 46) rfl rfl (fun hc1 => ?_) (fun hc1 => ?_)
    · skip
      refine rn_iload (k' := 76) rfl rfl rfl ?_
      refine rn_iret rfl (Or.inl rfl) ?_
      have hres : fF (fun j : Nat => g_steps μ a0 a1 a2 (g_w μ 0 a3 + (j : Int)) = -1) 1 99 = ((qv.toNat : Nat) : Int) := by
        refine fF_first ?_ 99 1 ?_ (by omega) (by omega)
        · show g_steps μ a0 a1 a2 (g_w μ 0 a3 + ((qv.toNat : Nat) : Int)) = -1
          rw [show ((qv.toNat : Nat) : Int) = qv by omega]; exact hfq
        · intro j hj1 hj2
          exact g_steps_mono hL hv1 hv2 (show g_w μ 0 a3 + (j : Int) ≤ g_w μ 0 a3 + pv by omega) hfp
      refine ⟨(m_upd (m_upd (m_upd μ 67 O) 68 F) 69 qq), ?_, ((rst_upd (a := 69) (fun _ => rfl)).trans ((rst_upd (a := 68) (fun _ => rfl)).trans (rst_upd (a := 67) (fun _ => rfl))))⟩
      rw [hres, show ((qv.toNat : Nat) : Int) = qv by omega]
    · exfalso; omega
  | succ d ih =>
    intro n pv qv k O F qq v9 ek hn hfr hfp hfq
    subst ek
    have hmid : (pv + qv).tdiv 2 = (pv + qv) / 2 := Int.tdiv_eq_ediv_of_nonneg (by omega)
    refine rn_iload (k' := 44) rfl rfl rfl ?_
    refine rn_bipush (k' := 45) rfl rfl ?_
    refine rn_icmp_ge (k' := 46) rfl rfl (fun hc1 => ?_) (fun hc1 => ?_)
    · exfalso; omega
    · skip
      refine rn_iload (k' := 47) rfl rfl rfl ?_
      refine rn_iload (k' := 48) rfl rfl rfl ?_
      refine rn_isub (k' := 49) rfl rfl (by omega) ?_
      refine rn_iconst (k' := 50) rfl rfl ?_
      refine rn_icmp_le (k' := 51) rfl rfl (fun hc2 => ?_) (fun hc2 => ?_)
      · skip
        refine rn_iload (k' := 76) rfl rfl rfl ?_
        refine rn_iret rfl (Or.inl rfl) ?_
        have hres : fF (fun j : Nat => g_steps μ a0 a1 a2 (g_w μ 0 a3 + (j : Int)) = -1) 1 99 = ((qv.toNat : Nat) : Int) := by
          refine fF_first ?_ 99 1 ?_ (by omega) (by omega)
          · show g_steps μ a0 a1 a2 (g_w μ 0 a3 + ((qv.toNat : Nat) : Int)) = -1
            rw [show ((qv.toNat : Nat) : Int) = qv by omega]; exact hfq
          · intro j hj1 hj2
            exact g_steps_mono hL hv1 hv2 (show g_w μ 0 a3 + (j : Int) ≤ g_w μ 0 a3 + pv by omega) hfp
        refine ⟨(m_upd (m_upd (m_upd μ 67 O) 68 F) 69 qq), ?_, ((rst_upd (a := 69) (fun _ => rfl)).trans ((rst_upd (a := 68) (fun _ => rfl)).trans (rst_upd (a := 67) (fun _ => rfl))))⟩
        rw [hres, show ((qv.toNat : Nat) : Int) = qv by omega]
      · skip
        refine rn_iload (k' := 52) rfl rfl rfl ?_
        refine rn_iload (k' := 53) rfl rfl rfl ?_
        refine rn_iadd (k' := 54) rfl rfl (by omega) ?_
        refine rn_iconst (k' := 55) rfl rfl ?_
        refine rn_idiv (k' := 56) rfl rfl (by omega) (by omega) ?_
        refine rn_istore (k' := 57) (L' := [some (mR 0), some (mI (a0)), some (mI (a1)), some (mI (a2)), some (mI (a3)), some (mI (g_w μ 0 a3)), some (mI (pv)), some (mI (qv)), some (mI ((n : Int))), some (mI ((pv + qv).tdiv (2)))]) rfl rfl (Nat.le_of_ble_eq_true rfl) rfl ?_
        refine rn_aload_n (k' := 58) rfl rfl rfl ?_
        refine rn_getR (k' := 59) rfl rfl K0_0 (by decide) rfl R0_0_8 ?_
        refine rn_iload_n (k' := 60) rfl rfl rfl ?_
        refine rn_iload_n (k' := 61) rfl rfl rfl ?_
        refine rn_iload_n (k' := 62) rfl rfl rfl ?_
        refine rn_iload (k' := 63) rfl rfl rfl ?_
        refine rn_iload (k' := 64) rfl rfl rfl ?_
        refine rn_iadd (k' := 65) rfl rfl (by omega) ?_
        obtain ⟨O3, F3, q3, hF3, hcl3⟩ := c_stepsBetween (μ := (m_upd (m_upd (m_upd μ 67 O) 68 F) 69 qq)) (c := c) (s := s) ((((hL).upd rfl).upd rfl).upd rfl) (a := a0) (b := a1) (t := a2) (w := (g_w μ 0 a3) + ((pv + qv).tdiv (2))) (by assumption) (by assumption) (by omega)
        rw [g_steps_rows (ν := (m_upd (m_upd (m_upd μ 67 O) 68 F) 69 qq)) (μ := μ) rfl rfl rfl] at hcl3
        have hsb4 := g_steps_b hL (a := a0) (b := a1) (t := a2) (w := (g_w μ 0 a3) + ((pv + qv).tdiv (2))) (by assumption)
        refine rn_callP (k' := 66) (y := 91) (vs := [mR 66, mI (a0), mI (a1), mI (a2), mI ((g_w μ 0 a3) + ((pv + qv).tdiv (2)))]) (S' := []) (v := some (mI (g_steps μ a0 a1 a2 ((g_w μ 0 a3) + ((pv + qv).tdiv (2)))))) (h' := mkh (m_upd (m_upd (m_upd (m_upd (m_upd (m_upd μ 67 O) 68 F) 69 qq) 67 O3) 68 F3) 69 q3) c s) rfl rfl rfl (hcl3) ?_
        show Rn PT none kX11_drowns 66 [some (mR 0), some (mI (a0)), some (mI (a1)), some (mI (a2)), some (mI (a3)), some (mI (g_w μ 0 a3)), some (mI (pv)), some (mI (qv)), some (mI ((n : Int))), some (mI ((pv + qv).tdiv (2)))] [mI (g_steps μ a0 a1 a2 ((g_w μ 0 a3) + ((pv + qv).tdiv (2))))] (mkh (m_upd (m_upd (m_upd (m_upd (m_upd (m_upd μ 67 O) 68 F) 69 qq) 67 O3) 68 F3) 69 q3) c s) _
        refine rn_iconst (k' := 67) rfl rfl ?_
        refine rn_icmp_ne (k' := 68) rfl rfl (fun hc5 => ?_) (fun hc5 => ?_)
        · skip
          refine rn_iload (k' := 72) rfl rfl rfl ?_
          refine rn_istore (k' := 73) (L' := [some (mR 0), some (mI (a0)), some (mI (a1)), some (mI (a2)), some (mI (a3)), some (mI (g_w μ 0 a3)), some (mI ((pv + qv).tdiv (2))), some (mI (qv)), some (mI ((n : Int))), some (mI ((pv + qv).tdiv (2)))]) rfl rfl (Nat.le_of_ble_eq_true rfl) rfl ?_
          refine rn_iinc (k' := 74) (L' := [some (mR 0), some (mI (a0)), some (mI (a1)), some (mI (a2)), some (mI (a3)), some (mI (g_w μ 0 a3)), some (mI ((pv + qv).tdiv (2))), some (mI (qv)), some (mI ((n : Int) + 1)), some (mI ((pv + qv).tdiv (2)))]) rfl rfl rfl (by omega) rfl ?_
          refine rn_goto rfl ?_
          show Rn PT none kX11_drowns 43 [some (mR 0), some (mI (a0)), some (mI (a1)), some (mI (a2)), some (mI (a3)), some (mI (g_w μ 0 a3)), some (mI ((pv + qv).tdiv (2))), some (mI (qv)), some (mI ((n : Int) + 1)), some (mI ((pv + qv).tdiv (2)))] [] (mkh (m_upd (m_upd (m_upd (m_upd (m_upd (m_upd μ 67 O) 68 F) 69 qq) 67 O3) 68 F3) 69 q3) c s) _
          rw [upd3_of (μ := μ) (ν := (m_upd (m_upd (m_upd (m_upd (m_upd (m_upd μ 67 O) 68 F) 69 qq) 67 O3) 68 F3) 69 q3)) (x := 67) (y := 68) (z := 69) (fun b hb67 hb68 hb69 => ((row_upd hb69).trans ((row_upd hb68).trans ((row_upd hb67).trans ((row_upd hb69).trans ((row_upd hb68).trans (row_upd hb67)))))))]
          exact ih (n + 1) _ _ _ _ _ _ _ (by omega) (by omega) (by omega) hc5 hfq
        · skip
          refine rn_iload (k' := 69) rfl rfl rfl ?_
          refine rn_istore (k' := 70) (L' := [some (mR 0), some (mI (a0)), some (mI (a1)), some (mI (a2)), some (mI (a3)), some (mI (g_w μ 0 a3)), some (mI (pv)), some (mI ((pv + qv).tdiv (2))), some (mI ((n : Int))), some (mI ((pv + qv).tdiv (2)))]) rfl rfl (Nat.le_of_ble_eq_true rfl) rfl ?_
          refine rn_goto rfl ?_
          refine rn_iinc (k' := 74) (L' := [some (mR 0), some (mI (a0)), some (mI (a1)), some (mI (a2)), some (mI (a3)), some (mI (g_w μ 0 a3)), some (mI (pv)), some (mI ((pv + qv).tdiv (2))), some (mI ((n : Int) + 1)), some (mI ((pv + qv).tdiv (2)))]) rfl rfl rfl (by omega) rfl ?_
          refine rn_goto rfl ?_
          show Rn PT none kX11_drowns 43 [some (mR 0), some (mI (a0)), some (mI (a1)), some (mI (a2)), some (mI (a3)), some (mI (g_w μ 0 a3)), some (mI (pv)), some (mI ((pv + qv).tdiv (2))), some (mI ((n : Int) + 1)), some (mI ((pv + qv).tdiv (2)))] [] (mkh (m_upd (m_upd (m_upd (m_upd (m_upd (m_upd μ 67 O) 68 F) 69 qq) 67 O3) 68 F3) 69 q3) c s) _
          rw [upd3_of (μ := μ) (ν := (m_upd (m_upd (m_upd (m_upd (m_upd (m_upd μ 67 O) 68 F) 69 qq) 67 O3) 68 F3) 69 q3)) (x := 67) (y := 68) (z := 69) (fun b hb67 hb68 hb69 => ((row_upd hb69).trans ((row_upd hb68).trans ((row_upd hb67).trans ((row_upd hb69).trans ((row_upd hb68).trans (row_upd hb67)))))))]
          exact ih (n + 1) _ _ _ _ _ _ _ (by omega) (by omega) (by omega) hfp hc5
set_option maxHeartbeats 4000000 in
theorem t_X11_drowns {μ : Nat → Nat → Int} {c s : Nat} (hL : I_land μ) (hS : I_scene μ) {a0 a1 a2 a3 : Int} (h0 : i32 a0) (h1 : i32 a1) (h2 : i32 a2) (h3 : i32 a3) : Cl PT 128 [mR 0, mI a0, mI a1, mI a2, mI a3] (mkh μ c s) (fun r => ∃ μ1, r = (some (some (mI (if g_cell μ a0 ∧ g_cell μ a1 ∧ (0 ≤ a2 ∧ a2 ≤ 99) ∧ 0 ≤ a3 ∧ a3 ≤ 29 then if g_steps μ a0 a1 a2 (g_w μ 0 a3) = -1 then -1 else fF (fun j : Nat => g_steps μ a0 a1 a2 (g_w μ 0 a3 + (j : Int)) = -1) 1 99 else -1))), mkh μ1 c s) ∧ rst μ1 = rst μ) := by
  have hL_ := hL
  obtain ⟨lc, lr, le, lm, lw, lh, lwo, lwd, q0, q1, q2, q3, q4, q8, q499, q500, lth, lG, lT, lW, -⟩ := hL_
  have hS_ := hS
  obtain ⟨sd, sw, stk, s4, s5, s6, hC, hH, -, s10, sce, swc, s13⟩ := hS_
  by_cases hv : g_cell μ a0 ∧ g_cell μ a1 ∧ (0 ≤ a2 ∧ a2 ≤ 99) ∧ 0 ≤ a3 ∧ a3 ≤ 29
  · rw [if_pos hv]
    have hv_ := hv
    obtain ⟨hv1, hv2, hv3, hv4⟩ := hv_
    refine ⟨_, PT_128, Nat.le_of_ble_eq_true rfl, ?_⟩
    show Rn PT none kX11_drowns 0 [some (mR 0), some (mI (a0)), some (mI (a1)), some (mI (a2)), some (mI (a3)), none, none, none, none, none] [] (mkh μ c s) _
    refine rn_aload_n (k' := 1) rfl rfl rfl ?_
    refine rn_iload_n (k' := 2) rfl rfl rfl ?_
    refine rn_iload_n (k' := 3) rfl rfl rfl ?_
    refine rn_iload_n (k' := 4) rfl rfl rfl ?_
    refine rn_iload (k' := 5) rfl rfl rfl ?_
    by_cases hq1 : g_cell μ a0 ∧ g_cell μ a1 ∧ (0 ≤ a2 ∧ a2 ≤ 99) ∧ 0 ≤ a3 ∧ a3 ≤ 29
    · refine rn_callP (k' := 6) (y := 155) (vs := [mR 0, mI (a0), mI (a1), mI (a2), mI (a3)]) (S' := []) (v := some (mI 1)) (h' := mkh μ c s) rfl rfl rfl (by have hz : Cl PT 155 [mR 0, mI (a0), mI (a1), mI (a2), mI (a3)] (mkh μ c s) (fun r => r = (some (some (mI (if g_cell μ a0 ∧ g_cell μ a1 ∧ (0 ≤ a2 ∧ a2 ≤ 99) ∧ 0 ≤ a3 ∧ a3 ≤ 29 then 1 else 0))), mkh μ c s)) := c_X11_areSuch (hL) (a := a0) (b := a1) (t := a2) (d := a3) (by omega) (by omega) (μ := μ) (c := c) (s := s); rw [if_pos hq1] at hz; exact hz) ?_
      show Rn PT none kX11_drowns 6 [some (mR 0), some (mI (a0)), some (mI (a1)), some (mI (a2)), some (mI (a3)), none, none, none, none, none] [mI (1)] (mkh μ c s) _
      refine rn_if_ne (k' := 7) rfl rfl (fun hc2 => ?_) (fun hc2 => ?_)
      · skip
        refine rn_aload_n (k' := 10) rfl rfl rfl ?_
        refine rn_getR (k' := 11) rfl rfl K0_0 (by decide) rfl R0_0_3 ?_
        refine rn_iconst (k' := 12) rfl rfl ?_
        refine rn_iload (k' := 13) rfl rfl rfl ?_
        have hb3 := g_w_b hL 0 a3
        refine rn_callP (k' := 14) (y := 32) (vs := [mR 6, mI (0), mI (a3)]) (S' := []) (v := some (mI (g_w μ 0 a3))) (h' := mkh μ c s) rfl rfl rfl (k_weatherOn (μ := μ) (hL) (by omega) (by omega)) ?_
        show Rn PT none kX11_drowns 14 [some (mR 0), some (mI (a0)), some (mI (a1)), some (mI (a2)), some (mI (a3)), none, none, none, none, none] [mI (g_w μ 0 a3)] (mkh μ c s) _
        refine rn_istore (k' := 15) (L' := [some (mR 0), some (mI (a0)), some (mI (a1)), some (mI (a2)), some (mI (a3)), some (mI (g_w μ 0 a3)), none, none, none, none]) rfl rfl (Nat.le_of_ble_eq_true rfl) rfl ?_
        refine rn_iconst (k' := 16) rfl rfl ?_
        refine rn_istore (k' := 17) (L' := [some (mR 0), some (mI (a0)), some (mI (a1)), some (mI (a2)), some (mI (a3)), some (mI (g_w μ 0 a3)), some (mI (0)), none, none, none]) rfl rfl (Nat.le_of_ble_eq_true rfl) rfl ?_
        refine rn_bipush (k' := 18) rfl rfl ?_
        refine rn_istore (k' := 19) (L' := [some (mR 0), some (mI (a0)), some (mI (a1)), some (mI (a2)), some (mI (a3)), some (mI (g_w μ 0 a3)), some (mI (0)), some (mI (99)), none, none]) rfl rfl (Nat.le_of_ble_eq_true rfl) rfl ?_
        refine rn_aload_n (k' := 20) rfl rfl rfl ?_
        refine rn_getR (k' := 21) rfl rfl K0_0 (by decide) rfl R0_0_8 ?_
        refine rn_iload_n (k' := 22) rfl rfl rfl ?_
        refine rn_iload_n (k' := 23) rfl rfl rfl ?_
        refine rn_iload_n (k' := 24) rfl rfl rfl ?_
        refine rn_iload (k' := 25) rfl rfl rfl ?_
        obtain ⟨O4, F4, q4, hF4, hcl4⟩ := c_stepsBetween (μ := μ) (c := c) (s := s) (hL) (a := a0) (b := a1) (t := a2) (w := g_w μ 0 a3) (by assumption) (by assumption) (by omega)
        have hsb5 := g_steps_b hL (a := a0) (b := a1) (t := a2) (w := g_w μ 0 a3) (by assumption)
        refine rn_callP (k' := 26) (y := 91) (vs := [mR 66, mI (a0), mI (a1), mI (a2), mI (g_w μ 0 a3)]) (S' := []) (v := some (mI (g_steps μ a0 a1 a2 (g_w μ 0 a3)))) (h' := mkh (m_upd (m_upd (m_upd μ 67 O4) 68 F4) 69 q4) c s) rfl rfl rfl (hcl4) ?_
        show Rn PT none kX11_drowns 26 [some (mR 0), some (mI (a0)), some (mI (a1)), some (mI (a2)), some (mI (a3)), some (mI (g_w μ 0 a3)), some (mI (0)), some (mI (99)), none, none] [mI (g_steps μ a0 a1 a2 (g_w μ 0 a3))] (mkh (m_upd (m_upd (m_upd μ 67 O4) 68 F4) 69 q4) c s) _
        refine rn_iconst (k' := 27) rfl rfl ?_
        refine rn_icmp_eq (k' := 28) rfl rfl (fun hc6 => ?_) (fun hc6 => ?_)
        · skip
          refine rn_iconst (k' := 40) rfl rfl ?_
          refine rn_iret rfl (Or.inl rfl) ?_
          rw [if_pos hc6]
          exact ⟨(m_upd (m_upd (m_upd μ 67 O4) 68 F4) 69 q4), rfl, ((rst_upd (a := 69) (fun _ => rfl)).trans ((rst_upd (a := 68) (fun _ => rfl)).trans (rst_upd (a := 67) (fun _ => rfl))))⟩
        · skip
          refine rn_aload_n (k' := 29) rfl rfl rfl ?_
          refine rn_getR (k' := 30) rfl rfl K0_0 (by decide) rfl R0_0_8 ?_
          refine rn_iload_n (k' := 31) rfl rfl rfl ?_
          refine rn_iload_n (k' := 32) rfl rfl rfl ?_
          refine rn_iload_n (k' := 33) rfl rfl rfl ?_
          refine rn_iload (k' := 34) rfl rfl rfl ?_
          refine rn_iload (k' := 35) rfl rfl rfl ?_
          refine rn_iadd (k' := 36) rfl rfl (by omega) ?_
          obtain ⟨O7, F7, q7, hF7, hcl7⟩ := c_stepsBetween (μ := (m_upd (m_upd (m_upd μ 67 O4) 68 F4) 69 q4)) (c := c) (s := s) ((((hL).upd rfl).upd rfl).upd rfl) (a := a0) (b := a1) (t := a2) (w := (g_w μ 0 a3) + 99) (by assumption) (by assumption) (by omega)
          rw [g_steps_rows (ν := (m_upd (m_upd (m_upd μ 67 O4) 68 F4) 69 q4)) (μ := μ) rfl rfl rfl] at hcl7
          have hsb8 := g_steps_b hL (a := a0) (b := a1) (t := a2) (w := (g_w μ 0 a3) + 99) (by assumption)
          refine rn_callP (k' := 37) (y := 91) (vs := [mR 66, mI (a0), mI (a1), mI (a2), mI ((g_w μ 0 a3) + 99)]) (S' := []) (v := some (mI (g_steps μ a0 a1 a2 ((g_w μ 0 a3) + 99)))) (h' := mkh (m_upd (m_upd (m_upd (m_upd (m_upd (m_upd μ 67 O4) 68 F4) 69 q4) 67 O7) 68 F7) 69 q7) c s) rfl rfl rfl (hcl7) ?_
          show Rn PT none kX11_drowns 37 [some (mR 0), some (mI (a0)), some (mI (a1)), some (mI (a2)), some (mI (a3)), some (mI (g_w μ 0 a3)), some (mI (0)), some (mI (99)), none, none] [mI (g_steps μ a0 a1 a2 ((g_w μ 0 a3) + 99))] (mkh (m_upd (m_upd (m_upd (m_upd (m_upd (m_upd μ 67 O4) 68 F4) 69 q4) 67 O7) 68 F7) 69 q7) c s) _
          refine rn_iconst (k' := 38) rfl rfl ?_
          refine rn_icmp_eq (k' := 39) rfl rfl (fun hc9 => ?_) (fun hc9 => ?_)
          · skip
            refine rn_iconst (k' := 42) rfl rfl ?_
            refine rn_istore (k' := 43) (L' := [some (mR 0), some (mI (a0)), some (mI (a1)), some (mI (a2)), some (mI (a3)), some (mI (g_w μ 0 a3)), some (mI (0)), some (mI (99)), some (mI (0)), none]) rfl rfl (Nat.le_of_ble_eq_true rfl) rfl ?_
            rw [if_neg hc6]
            show Rn PT none kX11_drowns 43 [some (mR 0), some (mI (a0)), some (mI (a1)), some (mI (a2)), some (mI (a3)), some (mI (g_w μ 0 a3)), some (mI (0)), some (mI (99)), some (mI (0)), none] [] (mkh (m_upd (m_upd (m_upd (m_upd (m_upd (m_upd μ 67 O4) 68 F4) 69 q4) 67 O7) 68 F7) 69 q7) c s) _
            rw [upd3_of (μ := μ) (ν := (m_upd (m_upd (m_upd (m_upd (m_upd (m_upd μ 67 O4) 68 F4) 69 q4) 67 O7) 68 F7) 69 q7)) (x := 67) (y := 68) (z := 69) (fun b hb67 hb68 hb69 => ((row_upd hb69).trans ((row_upd hb68).trans ((row_upd hb67).trans ((row_upd hb69).trans ((row_upd hb68).trans (row_upd hb67)))))))]
            exact l_X11_drowns hL hS hv1 hv2 hv3 hv4 99 0 0 99 _ _ _ _ _ rfl rfl (by omega) (by rw [Int.add_zero]; exact hc6) hc9
          · skip
            refine rn_iconst (k' := 40) rfl rfl ?_
            refine rn_iret rfl (Or.inl rfl) ?_
            rw [if_neg hc6, fF_none 99 1 (fun j hj1 hj2 => g_steps_mono hL hv1 hv2 (show g_w μ 0 a3 + (j : Int) ≤ g_w μ 0 a3 + 99 by omega) hc9)]
            exact ⟨(m_upd (m_upd (m_upd (m_upd (m_upd (m_upd μ 67 O4) 68 F4) 69 q4) 67 O7) 68 F7) 69 q7), rfl, ((rst_upd (a := 69) (fun _ => rfl)).trans ((rst_upd (a := 68) (fun _ => rfl)).trans ((rst_upd (a := 67) (fun _ => rfl)).trans ((rst_upd (a := 69) (fun _ => rfl)).trans ((rst_upd (a := 68) (fun _ => rfl)).trans (rst_upd (a := 67) (fun _ => rfl)))))))⟩
      · exfalso; omega
    · exfalso; omega
  · rw [if_neg hv]
    refine ⟨_, PT_128, Nat.le_of_ble_eq_true rfl, ?_⟩
    show Rn PT none kX11_drowns 0 [some (mR 0), some (mI (a0)), some (mI (a1)), some (mI (a2)), some (mI (a3)), none, none, none, none, none] [] (mkh μ c s) _
    refine rn_aload_n (k' := 1) rfl rfl rfl ?_
    refine rn_iload_n (k' := 2) rfl rfl rfl ?_
    refine rn_iload_n (k' := 3) rfl rfl rfl ?_
    refine rn_iload_n (k' := 4) rfl rfl rfl ?_
    refine rn_iload (k' := 5) rfl rfl rfl ?_
    by_cases hq1 : g_cell μ a0 ∧ g_cell μ a1 ∧ (0 ≤ a2 ∧ a2 ≤ 99) ∧ 0 ≤ a3 ∧ a3 ≤ 29
    · refine rn_callP (k' := 6) (y := 155) (vs := [mR 0, mI (a0), mI (a1), mI (a2), mI (a3)]) (S' := []) (v := some (mI 1)) (h' := mkh μ c s) rfl rfl rfl (by have hz : Cl PT 155 [mR 0, mI (a0), mI (a1), mI (a2), mI (a3)] (mkh μ c s) (fun r => r = (some (some (mI (if g_cell μ a0 ∧ g_cell μ a1 ∧ (0 ≤ a2 ∧ a2 ≤ 99) ∧ 0 ≤ a3 ∧ a3 ≤ 29 then 1 else 0))), mkh μ c s)) := c_X11_areSuch (hL) (a := a0) (b := a1) (t := a2) (d := a3) (by omega) (by omega) (μ := μ) (c := c) (s := s); rw [if_pos hq1] at hz; exact hz) ?_
      show Rn PT none kX11_drowns 6 [some (mR 0), some (mI (a0)), some (mI (a1)), some (mI (a2)), some (mI (a3)), none, none, none, none, none] [mI (1)] (mkh μ c s) _
      refine rn_if_ne (k' := 7) rfl rfl (fun hc2 => ?_) (fun hc2 => ?_)
      · skip
        refine rn_aload_n (k' := 10) rfl rfl rfl ?_
        refine rn_getR (k' := 11) rfl rfl K0_0 (by decide) rfl R0_0_3 ?_
        refine rn_iconst (k' := 12) rfl rfl ?_
        refine rn_iload (k' := 13) rfl rfl rfl ?_
        exfalso; omega
      · exfalso; omega
    · refine rn_callP (k' := 6) (y := 155) (vs := [mR 0, mI (a0), mI (a1), mI (a2), mI (a3)]) (S' := []) (v := some (mI 0)) (h' := mkh μ c s) rfl rfl rfl (by have hz : Cl PT 155 [mR 0, mI (a0), mI (a1), mI (a2), mI (a3)] (mkh μ c s) (fun r => r = (some (some (mI (if g_cell μ a0 ∧ g_cell μ a1 ∧ (0 ≤ a2 ∧ a2 ≤ 99) ∧ 0 ≤ a3 ∧ a3 ≤ 29 then 1 else 0))), mkh μ c s)) := c_X11_areSuch (hL) (a := a0) (b := a1) (t := a2) (d := a3) (by omega) (by omega) (μ := μ) (c := c) (s := s); rw [if_neg hq1] at hz; exact hz) ?_
      show Rn PT none kX11_drowns 6 [some (mR 0), some (mI (a0)), some (mI (a1)), some (mI (a2)), some (mI (a3)), none, none, none, none, none] [mI (0)] (mkh μ c s) _
      refine rn_if_ne (k' := 7) rfl rfl (fun hc3 => ?_) (fun hc3 => ?_)
      · exfalso; omega
      · skip
        refine rn_iconst (k' := 8) rfl rfl ?_
        refine rn_iret rfl (Or.inl rfl) ?_
        exact ⟨μ, rfl, rfl⟩
set_option maxHeartbeats 4000000 in
theorem l_X12_drowns {μ : Nat → Nat → Int} {c s : Nat} (hL : I_land μ) (hS : I_scene μ) {a0 a1 a2 a3 : Int} (hv1 : g_cell μ a0) (hv2 : g_cell μ a1) (hv3 : 0 ≤ a2 ∧ a2 ≤ 99) (hv4 : 0 ≤ a3 ∧ a3 ≤ 29) : ∀ (d n : Nat) (k : Int) (H : Nat → Int) (F : Nat → Int) (qq : Nat → Int), k = (n : Int) → (n : Int) + d = 100 → (∀ j, sup 118 j = true → H j = μ 118 j) → (H 22 = g_w μ 0 a3 + (n : Int) - 1) → Rn PT none kX12_drowns 25 [some (mR 118), some (mI (a0)), some (mI (a1)), some (mI (a2)), some (mI (a3)), some (mI (k))] [] (mkh (m_upd (m_upd (m_upd μ 118 H) 125 F) 126 qq) c s) (fun r => ∃ μ1, r = (some (some (mI (fF (fun j : Nat => g_steps μ a0 a1 a2 (g_w μ 0 a3 + (j : Int)) = -1) n d))), mkh μ1 c s) ∧ rst μ1 = rst μ) := by
  have hL_ := hL
  obtain ⟨lc, lr, le, lm, lw, lh, lwo, lwd, q0, q1, q2, q3, q4, q8, q499, q500, lth, lG, lT, lW, -⟩ := hL_
  have hS_ := hS
  obtain ⟨sd, sw, stk, s4, s5, s6, hC, hH, -, s10, sce, swc, s13⟩ := hS_
  have hwb := g_w_b hL 0 a3
  intro d
  induction d with
  | zero =>
    intro n k H F qq ek hn hHs hH22
    subst ek
    have hHe : H 22 + 1 = g_w μ 0 a3 + (n : Int) := by omega
    refine rn_iload (k' := 26) rfl rfl rfl ?_
    refine rn_bipush (k' := 27) rfl rfl ?_
    refine rn_icmp_ge (k' := 28) rfl rfl (fun hc1 => ?_) (fun hc1 => ?_)
    · skip
      refine rn_iconst (k' := 45) rfl rfl ?_
      refine rn_iret rfl (Or.inl rfl) ?_
      refine ⟨(m_upd (m_upd (m_upd μ 118 H) 125 F) 126 qq), ?_, ((rst_upd (a := 126) (fun _ => rfl)).trans ((rst_upd (a := 125) (fun _ => rfl)).trans (rst_upd1 (a := 118) hHs)))⟩
      rfl
    · exfalso; omega
  | succ d ih =>
    intro n k H F qq ek hn hHs hH22
    subst ek
    have hHe : H 22 + 1 = g_w μ 0 a3 + (n : Int) := by omega
    refine rn_iload (k' := 26) rfl rfl rfl ?_
    refine rn_bipush (k' := 27) rfl rfl ?_
    refine rn_icmp_ge (k' := 28) rfl rfl (fun hc1 => ?_) (fun hc1 => ?_)
    · exfalso; omega
    · skip
      refine rn_aload_n (k' := 29) rfl rfl rfl ?_
      refine rn_dupR (k' := 30) rfl rfl ?_
      refine rn_getI (k' := 31) rfl rfl K0_118 (by decide) rfl ?_
      show Rn PT none kX12_drowns 31 [some (mR 118), some (mI (a0)), some (mI (a1)), some (mI (a2)), some (mI (a3)), some (mI ((n : Int)))] [mI (H 22), mR 118] (mkh (m_upd (m_upd (m_upd μ 118 H) 125 F) 126 qq) c s) _
      refine rn_iconst (k' := 32) rfl rfl ?_
      refine rn_iadd (k' := 33) rfl rfl (by omega) ?_
      refine rn_putI (k' := 34) rfl rfl K0_118 (by decide) rfl ?_
      refine rn_aload_n (k' := 35) rfl rfl rfl ?_
      refine rn_iload_n (k' := 36) rfl rfl rfl ?_
      refine rn_iload_n (k' := 37) rfl rfl rfl ?_
      refine rn_iload_n (k' := 38) rfl rfl rfl ?_
      obtain ⟨F3, q3, hF3, hcl3⟩ := c_stepsOf (μ := (m_set (m_upd (m_upd (m_upd μ 118 H) 125 F) 126 qq) 118 22 ((H 22) + 1))) (c := c) (s := s) (((((hL).upd rfl).upd rfl).upd rfl).set rfl) (by show 0 ≤ (H 22) + 1 ∧ (H 22) + 1 ≤ 1000; omega) (a := a0) (b := a1) (t := a2) (by omega) (by assumption) (by assumption)
      rw [g_steps_rows (ν := (m_set (m_upd (m_upd (m_upd μ 118 H) 125 F) 126 qq) 118 22 ((H 22) + 1))) (μ := μ) rfl rfl rfl] at hcl3
      have hsb4 := g_steps_b hL (a := a0) (b := a1) (t := a2) (w := (H 22) + 1) (by assumption)
      refine rn_callP (k' := 39) (y := 213) (vs := [mR 118, mI (a0), mI (a1), mI (a2)]) (S' := []) (v := some (mI (g_steps μ a0 a1 a2 ((H 22) + 1)))) (h' := mkh (m_upd (m_upd (m_set (m_upd (m_upd (m_upd μ 118 H) 125 F) 126 qq) 118 22 ((H 22) + 1)) 125 F3) 126 q3) c s) rfl rfl rfl (hcl3) ?_
      show Rn PT none kX12_drowns 39 [some (mR 118), some (mI (a0)), some (mI (a1)), some (mI (a2)), some (mI (a3)), some (mI ((n : Int)))] [mI (g_steps μ a0 a1 a2 ((H 22) + 1))] (mkh (m_upd (m_upd (m_set (m_upd (m_upd (m_upd μ 118 H) 125 F) 126 qq) 118 22 ((H 22) + 1)) 125 F3) 126 q3) c s) _
      refine rn_if_ge (k' := 40) rfl rfl (fun hc5 => ?_) (fun hc5 => ?_)
      · skip
        refine rn_iinc (k' := 43) (L' := [some (mR 118), some (mI (a0)), some (mI (a1)), some (mI (a2)), some (mI (a3)), some (mI ((n : Int) + 1))]) rfl rfl rfl (by omega) rfl ?_
        refine rn_goto rfl ?_
        show Rn PT none kX12_drowns 25 [some (mR 118), some (mI (a0)), some (mI (a1)), some (mI (a2)), some (mI (a3)), some (mI ((n : Int) + 1))] [] (mkh (m_upd (m_upd (m_set (m_upd (m_upd (m_upd μ 118 H) 125 F) 126 qq) 118 22 ((H 22) + 1)) 125 F3) 126 q3) c s) _
        rw [fF_neg (show ¬ g_steps μ a0 a1 a2 (g_w μ 0 a3 + (n : Int)) = -1 by rw [← hHe]; omega)]
        rw [upd3_of (μ := μ) (ν := (m_upd (m_upd (m_set (m_upd (m_upd (m_upd μ 118 H) 125 F) 126 qq) 118 22 ((H 22) + 1)) 125 F3) 126 q3)) (x := 118) (y := 125) (z := 126) (fun b hb118 hb125 hb126 => ((row_upd hb126).trans ((row_upd hb125).trans ((row_set hb118).trans ((row_upd hb126).trans ((row_upd hb125).trans (row_upd hb118)))))))]
        exact ih (n + 1) _ _ _ _ (by omega) (by omega) (fun j hj => sup_eq ((rst_upd (a := 126) (fun _ => rfl)).trans ((rst_upd (a := 125) (fun _ => rfl)).trans ((rst_set (a := 118) (j := 22) rfl).trans ((rst_upd (a := 126) (fun _ => rfl)).trans ((rst_upd (a := 125) (fun _ => rfl)).trans (rst_upd1 (a := 118) hHs)))))) hj) (by show H 22 + 1 = _; omega)
      · skip
        refine rn_iload (k' := 41) rfl rfl rfl ?_
        refine rn_iret rfl (Or.inl rfl) ?_
        refine ⟨(m_upd (m_upd (m_set (m_upd (m_upd (m_upd μ 118 H) 125 F) 126 qq) 118 22 ((H 22) + 1)) 125 F3) 126 q3), ?_, ((rst_upd (a := 126) (fun _ => rfl)).trans ((rst_upd (a := 125) (fun _ => rfl)).trans ((rst_set (a := 118) (j := 22) rfl).trans ((rst_upd (a := 126) (fun _ => rfl)).trans ((rst_upd (a := 125) (fun _ => rfl)).trans (rst_upd1 (a := 118) hHs))))))⟩
        rw [fF_pos (show g_steps μ a0 a1 a2 (g_w μ 0 a3 + (n : Int)) = -1 by rw [← hHe]; omega)]
set_option maxHeartbeats 4000000 in
theorem t_X12_drowns {μ : Nat → Nat → Int} {c s : Nat} (hL : I_land μ) (hS : I_scene μ) {a0 a1 a2 a3 : Int} (h0 : i32 a0) (h1 : i32 a1) (h2 : i32 a2) (h3 : i32 a3) : Cl PT 255 [mR 118, mI a0, mI a1, mI a2, mI a3] (mkh μ c s) (fun r => ∃ μ1, r = (some (some (mI (if g_cell μ a0 ∧ g_cell μ a1 ∧ (0 ≤ a2 ∧ a2 ≤ 99) ∧ 0 ≤ a3 ∧ a3 ≤ 29 then if g_steps μ a0 a1 a2 (g_w μ 0 a3) = -1 then -1 else fF (fun j : Nat => g_steps μ a0 a1 a2 (g_w μ 0 a3 + (j : Int)) = -1) 1 99 else -1))), mkh μ1 c s) ∧ rst μ1 = rst μ) := by
  have hL_ := hL
  obtain ⟨lc, lr, le, lm, lw, lh, lwo, lwd, q0, q1, q2, q3, q4, q8, q499, q500, lth, lG, lT, lW, -⟩ := hL_
  have hS_ := hS
  obtain ⟨sd, sw, stk, s4, s5, s6, hC, hH, -, s10, sce, swc, s13⟩ := hS_
  by_cases hv : g_cell μ a0 ∧ g_cell μ a1 ∧ (0 ≤ a2 ∧ a2 ≤ 99) ∧ 0 ≤ a3 ∧ a3 ≤ 29
  · rw [if_pos hv]
    have hv_ := hv
    obtain ⟨hv1, hv2, hv3, hv4⟩ := hv_
    refine ⟨_, PT_255, Nat.le_of_ble_eq_true rfl, ?_⟩
    show Rn PT none kX12_drowns 0 [some (mR 118), some (mI (a0)), some (mI (a1)), some (mI (a2)), some (mI (a3)), none] [] (mkh μ c s) _
    refine rn_aload_n (k' := 1) rfl rfl rfl ?_
    refine rn_iconst (k' := 2) rfl rfl ?_
    refine rn_putI (k' := 3) rfl rfl K0_118 (by decide) rfl ?_
    refine rn_aload_n (k' := 4) rfl rfl rfl ?_
    refine rn_iload_n (k' := 5) rfl rfl rfl ?_
    refine rn_iload_n (k' := 6) rfl rfl rfl ?_
    refine rn_iload_n (k' := 7) rfl rfl rfl ?_
    refine rn_iload (k' := 8) rfl rfl rfl ?_
    by_cases hq2 : g_cell μ a0 ∧ g_cell μ a1 ∧ (0 ≤ a2 ∧ a2 ≤ 99) ∧ 0 ≤ a3 ∧ a3 ≤ 29
    · refine rn_callP (k' := 9) (y := 214) (vs := [mR 118, mI (a0), mI (a1), mI (a2), mI (a3)]) (S' := []) (v := some (mI 1)) (h' := mkh (m_set μ 118 0 (0)) c s) rfl rfl rfl (by have hz : Cl PT 214 [mR 118, mI (a0), mI (a1), mI (a2), mI (a3)] (mkh (m_set μ 118 0 (0)) c s) (fun r => r = (some (some (mI (if g_cell μ a0 ∧ g_cell μ a1 ∧ (0 ≤ a2 ∧ a2 ≤ 99) ∧ 0 ≤ a3 ∧ a3 ≤ 29 then 1 else 0))), mkh (m_set μ 118 0 (0)) c s)) := c_X12_areAll ((hL).set rfl) (a := a0) (b := a1) (t := a2) (d := a3) (by omega) (by omega) (μ := (m_set μ 118 0 (0))) (c := c) (s := s); rw [if_pos hq2] at hz; exact hz) ?_
      show Rn PT none kX12_drowns 9 [some (mR 118), some (mI (a0)), some (mI (a1)), some (mI (a2)), some (mI (a3)), none] [mI (1)] (mkh (m_set μ 118 0 (0)) c s) _
      refine rn_if_ne (k' := 10) rfl rfl (fun hc3 => ?_) (fun hc3 => ?_)
      · skip
        refine rn_aload_n (k' := 13) rfl rfl rfl ?_
        refine rn_iload (k' := 14) rfl rfl rfl ?_
        have hb4 := g_w_b hL 0 a3
        have hc904 := g_w_b hL 1 a3
        refine rn_callP (k' := 15) (y := 201) (vs := [mR 118, mI (a3)]) (S' := []) (v := none) (h' := mkh (m_set (m_set (m_set μ 118 0 (0)) 118 22 (g_w μ 0 a3)) 118 23 (g_w μ 1 a3)) c s) rfl rfl rfl (c_X12_of (μ := (m_set μ 118 0 (0))) ((hL).set rfl) (by omega)) ?_
        show Rn PT none kX12_drowns 15 [some (mR 118), some (mI (a0)), some (mI (a1)), some (mI (a2)), some (mI (a3)), none] [] (mkh (m_set (m_set (m_set μ 118 0 (0)) 118 22 (g_w μ 0 a3)) 118 23 (g_w μ 1 a3)) c s) _
        refine rn_aload_n (k' := 16) rfl rfl rfl ?_
        refine rn_iload_n (k' := 17) rfl rfl rfl ?_
        refine rn_iload_n (k' := 18) rfl rfl rfl ?_
        refine rn_iload_n (k' := 19) rfl rfl rfl ?_
        obtain ⟨F5, q5, hF5, hcl5⟩ := c_stepsOf (μ := (m_set (m_set (m_set μ 118 0 (0)) 118 22 (g_w μ 0 a3)) 118 23 (g_w μ 1 a3))) (c := c) (s := s) ((((hL).set rfl).set rfl).set rfl) (by show 0 ≤ g_w μ 0 a3 ∧ g_w μ 0 a3 ≤ 1000; omega) (a := a0) (b := a1) (t := a2) (by omega) (by assumption) (by assumption)
        rw [g_steps_rows (ν := (m_set (m_set (m_set μ 118 0 (0)) 118 22 (g_w μ 0 a3)) 118 23 (g_w μ 1 a3))) (μ := μ) rfl rfl rfl] at hcl5
        have hsb6 := g_steps_b hL (a := a0) (b := a1) (t := a2) (w := g_w μ 0 a3) (by assumption)
        refine rn_callP (k' := 20) (y := 213) (vs := [mR 118, mI (a0), mI (a1), mI (a2)]) (S' := []) (v := some (mI (g_steps μ a0 a1 a2 (g_w μ 0 a3)))) (h' := mkh (m_upd (m_upd (m_set (m_set (m_set μ 118 0 (0)) 118 22 (g_w μ 0 a3)) 118 23 (g_w μ 1 a3)) 125 F5) 126 q5) c s) rfl rfl rfl (hcl5) ?_
        show Rn PT none kX12_drowns 20 [some (mR 118), some (mI (a0)), some (mI (a1)), some (mI (a2)), some (mI (a3)), none] [mI (g_steps μ a0 a1 a2 (g_w μ 0 a3))] (mkh (m_upd (m_upd (m_set (m_set (m_set μ 118 0 (0)) 118 22 (g_w μ 0 a3)) 118 23 (g_w μ 1 a3)) 125 F5) 126 q5) c s) _
        refine rn_if_ge (k' := 21) rfl rfl (fun hc7 => ?_) (fun hc7 => ?_)
        · skip
          refine rn_iconst (k' := 24) rfl rfl ?_
          refine rn_istore (k' := 25) (L' := [some (mR 118), some (mI (a0)), some (mI (a1)), some (mI (a2)), some (mI (a3)), some (mI (1))]) rfl rfl (Nat.le_of_ble_eq_true rfl) rfl ?_
          rw [if_neg (by omega)]
          show Rn PT none kX12_drowns 25 [some (mR 118), some (mI (a0)), some (mI (a1)), some (mI (a2)), some (mI (a3)), some (mI (1))] [] (mkh (m_upd (m_upd (m_set (m_set (m_set μ 118 0 (0)) 118 22 (g_w μ 0 a3)) 118 23 (g_w μ 1 a3)) 125 F5) 126 q5) c s) _
          rw [upd3_of (μ := μ) (ν := (m_upd (m_upd (m_set (m_set (m_set μ 118 0 (0)) 118 22 (g_w μ 0 a3)) 118 23 (g_w μ 1 a3)) 125 F5) 126 q5)) (x := 118) (y := 125) (z := 126) (fun b hb118 hb125 hb126 => ((row_upd hb126).trans ((row_upd hb125).trans ((row_set hb118).trans ((row_set hb118).trans (row_set hb118))))))]
          exact l_X12_drowns hL hS hv1 hv2 hv3 hv4 99 1 _ _ _ _ rfl rfl (fun j hj => sup_eq ((rst_upd (a := 126) (fun _ => rfl)).trans ((rst_upd (a := 125) (fun _ => rfl)).trans ((rst_set (a := 118) (j := 23) rfl).trans ((rst_set (a := 118) (j := 22) rfl).trans (rst_set (a := 118) (j := 0) rfl))))) hj) (by show g_w μ 0 a3 = _; omega)
        · skip
          refine rn_iconst (k' := 22) rfl rfl ?_
          refine rn_iret rfl (Or.inl rfl) ?_
          rw [if_pos (by omega)]
          exact ⟨(m_upd (m_upd (m_set (m_set (m_set μ 118 0 (0)) 118 22 (g_w μ 0 a3)) 118 23 (g_w μ 1 a3)) 125 F5) 126 q5), rfl, ((rst_upd (a := 126) (fun _ => rfl)).trans ((rst_upd (a := 125) (fun _ => rfl)).trans ((rst_set (a := 118) (j := 23) rfl).trans ((rst_set (a := 118) (j := 22) rfl).trans (rst_set (a := 118) (j := 0) rfl)))))⟩
      · exfalso; omega
    · exfalso; omega
  · rw [if_neg hv]
    refine ⟨_, PT_255, Nat.le_of_ble_eq_true rfl, ?_⟩
    show Rn PT none kX12_drowns 0 [some (mR 118), some (mI (a0)), some (mI (a1)), some (mI (a2)), some (mI (a3)), none] [] (mkh μ c s) _
    refine rn_aload_n (k' := 1) rfl rfl rfl ?_
    refine rn_iconst (k' := 2) rfl rfl ?_
    refine rn_putI (k' := 3) rfl rfl K0_118 (by decide) rfl ?_
    refine rn_aload_n (k' := 4) rfl rfl rfl ?_
    refine rn_iload_n (k' := 5) rfl rfl rfl ?_
    refine rn_iload_n (k' := 6) rfl rfl rfl ?_
    refine rn_iload_n (k' := 7) rfl rfl rfl ?_
    refine rn_iload (k' := 8) rfl rfl rfl ?_
    by_cases hq2 : g_cell μ a0 ∧ g_cell μ a1 ∧ (0 ≤ a2 ∧ a2 ≤ 99) ∧ 0 ≤ a3 ∧ a3 ≤ 29
    · refine rn_callP (k' := 9) (y := 214) (vs := [mR 118, mI (a0), mI (a1), mI (a2), mI (a3)]) (S' := []) (v := some (mI 1)) (h' := mkh (m_set μ 118 0 (0)) c s) rfl rfl rfl (by have hz : Cl PT 214 [mR 118, mI (a0), mI (a1), mI (a2), mI (a3)] (mkh (m_set μ 118 0 (0)) c s) (fun r => r = (some (some (mI (if g_cell μ a0 ∧ g_cell μ a1 ∧ (0 ≤ a2 ∧ a2 ≤ 99) ∧ 0 ≤ a3 ∧ a3 ≤ 29 then 1 else 0))), mkh (m_set μ 118 0 (0)) c s)) := c_X12_areAll ((hL).set rfl) (a := a0) (b := a1) (t := a2) (d := a3) (by omega) (by omega) (μ := (m_set μ 118 0 (0))) (c := c) (s := s); rw [if_pos hq2] at hz; exact hz) ?_
      show Rn PT none kX12_drowns 9 [some (mR 118), some (mI (a0)), some (mI (a1)), some (mI (a2)), some (mI (a3)), none] [mI (1)] (mkh (m_set μ 118 0 (0)) c s) _
      refine rn_if_ne (k' := 10) rfl rfl (fun hc3 => ?_) (fun hc3 => ?_)
      · skip
        refine rn_aload_n (k' := 13) rfl rfl rfl ?_
        refine rn_iload (k' := 14) rfl rfl rfl ?_
        exfalso; omega
      · exfalso; omega
    · refine rn_callP (k' := 9) (y := 214) (vs := [mR 118, mI (a0), mI (a1), mI (a2), mI (a3)]) (S' := []) (v := some (mI 0)) (h' := mkh (m_set μ 118 0 (0)) c s) rfl rfl rfl (by have hz : Cl PT 214 [mR 118, mI (a0), mI (a1), mI (a2), mI (a3)] (mkh (m_set μ 118 0 (0)) c s) (fun r => r = (some (some (mI (if g_cell μ a0 ∧ g_cell μ a1 ∧ (0 ≤ a2 ∧ a2 ≤ 99) ∧ 0 ≤ a3 ∧ a3 ≤ 29 then 1 else 0))), mkh (m_set μ 118 0 (0)) c s)) := c_X12_areAll ((hL).set rfl) (a := a0) (b := a1) (t := a2) (d := a3) (by omega) (by omega) (μ := (m_set μ 118 0 (0))) (c := c) (s := s); rw [if_neg hq2] at hz; exact hz) ?_
      show Rn PT none kX12_drowns 9 [some (mR 118), some (mI (a0)), some (mI (a1)), some (mI (a2)), some (mI (a3)), none] [mI (0)] (mkh (m_set μ 118 0 (0)) c s) _
      refine rn_if_ne (k' := 10) rfl rfl (fun hc4 => ?_) (fun hc4 => ?_)
      · exfalso; omega
      · skip
        refine rn_iconst (k' := 11) rfl rfl ?_
        refine rn_iret rfl (Or.inl rfl) ?_
        exact ⟨(m_set μ 118 0 (0)), rfl, (rst_set (a := 118) (j := 0) rfl)⟩
theorem pair_37 : ∀ (a0 : Int), ∀ (a1 : Int), ∀ (a2 : Int), ∀ (a3 : Int), i32 a0 → i32 a1 → i32 a2 → i32 a3 → PairI (Inv N) 128 255 [mI a0, mI a1, mI a2, mI a3] := by
  intro a0 a1 a2 a3 ha0 ha1 ha2 ha3
  exact pair_of (fun ν => if g_cell ν a0 ∧ g_cell ν a1 ∧ (0 ≤ a2 ∧ a2 ≤ 99) ∧ 0 ≤ a3 ∧ a3 ≤ 29 then (if g_steps ν a0 a1 a2 (g_w ν 0 a3) = -1 then -1 else fF (fun j : Nat => g_steps ν a0 a1 a2 (g_w ν 0 a3 + (j : Int)) = -1) 1 99) else -1) (fun μ c s hI => t_X11_drowns hI.land hI.scene ha0 ha1 ha2 ha3) (fun μ c s hI => t_X12_drowns hI.land hI.scene ha0 ha1 ha2 ha3) (fun μ ν h => by
    have e6 := row_rst h (a := 6) (fun _ => rfl)
    have e7 := row_rst h (a := 7) (fun _ => rfl)
    have e8 := row_rst h (a := 8) (fun _ => rfl)
    have e10 := row_rst h (a := 10) (fun _ => rfl)
    have e14 := row_rst h (a := 14) (fun _ => rfl)
    have e15 := row_rst h (a := 15) (fun _ => rfl)
    have e16 := row_rst h (a := 16) (fun _ => rfl)
    simp only [g_cell, g_w, g_st, g_dep, e6, e7, e8, e10, e14, e15, e16, g_steps_rows e6 e7 e8, g_reach_rows e6 e7 e8, g_far_rows e6 e7 e8])
