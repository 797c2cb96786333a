variable {N : Int}
/-! ===== printed by wip/whole/gen52.py: pairs: near ===== -/
theorem fO_none {p : Nat → Prop} [DecidablePred p] : ∀ n : Nat, (∀ j, j < n → ¬ p j) → fO p n = 0
  | 0, _ => rfl
  | n + 1, h => by
    rw [fO_neg (h n (by omega))]
    exact fO_none n (fun j hj => h j (by omega))
theorem fv_or (v : Int) : (v = -1 ∧ fv v = 1000000000) ∨ (¬ v = -1 ∧ fv v = v) := by
  by_cases h : v = -1
  · left; exact ⟨h, by rw [h]; rfl⟩
  · right; exact ⟨h, fv_p h⟩
set_option maxHeartbeats 4000000 in
theorem l_X11_near {μ : Nat → Nat → Int} {c s : Nat} (hL : I_land μ) (hS : I_scene μ) {a0 a1 : Int} (hv1 : 0 ≤ a0 ∧ a0 < μ 6 13) (hv2 : 0 ≤ a1 ∧ a1 ≤ 99) {O F q : Nat → Int} (hF : ∀ j, j < 100 → F j = g_far μ (μ 15 a0.toNat) (g_st μ (μ 16 a0.toNat)) (g_w μ 0 (μ 14 0)) j) : ∀ (d n : Nat) (k : Int) (acc : Int) (v5 : Option MV), k = (n : Int) → acc = fO (fun o : Nat => ¬ (o : Int) = a0 ∧ ¬ g_far μ (μ 15 a0.toNat) (g_st μ (μ 16 a0.toNat)) (g_w μ 0 (μ 14 0)) (μ 15 o).toNat = -1 ∧ g_far μ (μ 15 a0.toNat) (g_st μ (μ 16 a0.toNat)) (g_w μ 0 (μ 14 0)) (μ 15 o).toNat ≤ a1) n → (n : Int) + d = μ 6 13 → Rn PT none kX11_near 27 [some (mR 0), some (mI (a0)), some (mI (a1)), some (mI (acc)), some (mI (k)), v5] [] (mkh (m_upd (m_upd (m_upd μ 67 O) 68 F) 69 q) c s) (fun r => ∃ μ1, r = (some (some (mI (fO (fun o : Nat => ¬ (o : Int) = a0 ∧ ¬ g_far μ (μ 15 a0.toNat) (g_st μ (μ 16 a0.toNat)) (g_w μ 0 (μ 14 0)) (μ 15 o).toNat = -1 ∧ g_far μ (μ 15 a0.toNat) (g_st μ (μ 16 a0.toNat)) (g_w μ 0 (μ 14 0)) (μ 15 o).toNat ≤ a1) (μ 6 13).toNat))), mkh μ1 c s) ∧ rst μ1 = rst μ) := by
  have hL_ := hL
  obtain ⟨lc, lr, le, lm, lw, lh, lwo, lwd, q0, q1, q2, q3, q4, q8, q499, q500, lth, lG, lT, lW, -⟩ := hL_
  have hS_ := hS
  obtain ⟨sd, sw, stk, s4, s5, s6, hC, hH, -, s10, sce, swc, s13⟩ := hS_
  intro d
  induction d with
  | zero =>
    intro n k acc v5 ek eacc hn
    subst ek eacc
    have hcb := hC n
    have hfn := hF (μ 15 n).toNat (by omega)
    refine rn_iload (k' := 28) rfl rfl rfl ?_
    refine rn_aload_n (k' := 29) rfl rfl rfl ?_
    refine rn_getR (k' := 30) rfl rfl K0_0 (by decide) rfl R0_0_3 ?_
    refine rn_getI (k' := 31) rfl rfl K0_6 (by decide) rfl ?_
    show Rn PT none kX11_near 31 [some (mR 0), some (mI (a0)), some (mI (a1)), some (mI (fO (fun o : Nat => ¬ (o : Int) = a0 ∧ ¬ g_far μ (μ 15 a0.toNat) (g_st μ (μ 16 a0.toNat)) (g_w μ 0 (μ 14 0)) (μ 15 o).toNat = -1 ∧ g_far μ (μ 15 a0.toNat) (g_st μ (μ 16 a0.toNat)) (g_w μ 0 (μ 14 0)) (μ 15 o).toNat ≤ a1) n)), some (mI ((n : Int))), v5] [mI (μ 6 13), mI ((n : Int))] (mkh (m_upd (m_upd (m_upd μ 67 O) 68 F) 69 q) c s) _
    refine rn_icmp_ge (k' := 32) rfl rfl (fun hc1 => ?_) (fun hc1 => ?_)
    · skip
      refine rn_iload_n (k' := 60) rfl rfl rfl ?_
      refine rn_iret rfl (Or.inl rfl) ?_
      refine ⟨(m_upd (m_upd (m_upd μ 67 O) 68 F) 69 q), ?_, ((rst_upd (a := 69) (fun _ => rfl)).trans ((rst_upd (a := 68) (fun _ => rfl)).trans (rst_upd (a := 67) (fun _ => rfl))))⟩
      rw [show (μ 6 13).toNat = n by omega]
    · exfalso; omega
  | succ d ih =>
    intro n k acc v5 ek eacc hn
    subst ek eacc
    have hcb := hC n
    have hfn := hF (μ 15 n).toNat (by omega)
    refine rn_iload (k' := 28) rfl rfl rfl ?_
    refine rn_aload_n (k' := 29) rfl rfl rfl ?_
    refine rn_getR (k' := 30) rfl rfl K0_0 (by decide) rfl R0_0_3 ?_
    refine rn_getI (k' := 31) rfl rfl K0_6 (by decide) rfl ?_
    show Rn PT none kX11_near 31 [some (mR 0), some (mI (a0)), some (mI (a1)), some (mI (fO (fun o : Nat => ¬ (o : Int) = a0 ∧ ¬ g_far μ (μ 15 a0.toNat) (g_st μ (μ 16 a0.toNat)) (g_w μ 0 (μ 14 0)) (μ 15 o).toNat = -1 ∧ g_far μ (μ 15 a0.toNat) (g_st μ (μ 16 a0.toNat)) (g_w μ 0 (μ 14 0)) (μ 15 o).toNat ≤ a1) n)), some (mI ((n : Int))), v5] [mI (μ 6 13), mI ((n : Int))] (mkh (m_upd (m_upd (m_upd μ 67 O) 68 F) 69 q) c s) _
    refine rn_icmp_ge (k' := 32) rfl rfl (fun hc1 => ?_) (fun hc1 => ?_)
    · exfalso; omega
    · skip
      refine rn_aload_n (k' := 33) rfl rfl rfl ?_
      refine rn_getR (k' := 34) rfl rfl K0_0 (by decide) rfl R0_0_8 ?_
      refine rn_getR (k' := 35) rfl rfl K0_66 (by decide) rfl R0_66_2 ?_
      refine rn_aload_n (k' := 36) rfl rfl rfl ?_
      refine rn_getR (k' := 37) rfl rfl K0_0 (by decide) rfl R0_0_4 ?_
      refine rn_getR (k' := 38) rfl rfl K0_14 (by decide) rfl R0_14_1 ?_
      refine rn_iload (k' := 39) rfl rfl rfl ?_
      refine rn_iaload (k' := 40) rfl rfl K0_15 (by omega) (by omega) ?_
      show Rn PT none kX11_near 40 [some (mR 0), some (mI (a0)), some (mI (a1)), some (mI (fO (fun o : Nat => ¬ (o : Int) = a0 ∧ ¬ g_far μ (μ 15 a0.toNat) (g_st μ (μ 16 a0.toNat)) (g_w μ 0 (μ 14 0)) (μ 15 o).toNat = -1 ∧ g_far μ (μ 15 a0.toNat) (g_st μ (μ 16 a0.toNat)) (g_w μ 0 (μ 14 0)) (μ 15 o).toNat ≤ a1) n)), some (mI ((n : Int))), v5] [mI (μ 15 (n)), mR 68] (mkh (m_upd (m_upd (m_upd μ 67 O) 68 F) 69 q) c s) _
      have hb2 := hC n
      refine rn_iaload (k' := 41) rfl rfl K0_68 (by omega) (by omega) ?_
      show Rn PT none kX11_near 41 [some (mR 0), some (mI (a0)), some (mI (a1)), some (mI (fO (fun o : Nat => ¬ (o : Int) = a0 ∧ ¬ g_far μ (μ 15 a0.toNat) (g_st μ (μ 16 a0.toNat)) (g_w μ 0 (μ 14 0)) (μ 15 o).toNat = -1 ∧ g_far μ (μ 15 a0.toNat) (g_st μ (μ 16 a0.toNat)) (g_w μ 0 (μ 14 0)) (μ 15 o).toNat ≤ a1) n)), some (mI ((n : Int))), v5] [mI (F ((μ 15 (n)).toNat))] (mkh (m_upd (m_upd (m_upd μ 67 O) 68 F) 69 q) c s) _
      refine rn_istore (k' := 42) (L' := [some (mR 0), some (mI (a0)), some (mI (a1)), some (mI (fO (fun o : Nat => ¬ (o : Int) = a0 ∧ ¬ g_far μ (μ 15 a0.toNat) (g_st μ (μ 16 a0.toNat)) (g_w μ 0 (μ 14 0)) (μ 15 o).toNat = -1 ∧ g_far μ (μ 15 a0.toNat) (g_st μ (μ 16 a0.toNat)) (g_w μ 0 (μ 14 0)) (μ 15 o).toNat ≤ a1) n)), some (mI ((n : Int))), some (mI (F ((μ 15 (n)).toNat)))]) rfl rfl (Nat.le_of_ble_eq_true rfl) rfl ?_
      refine rn_iload (k' := 43) rfl rfl rfl ?_
      refine rn_iload_n (k' := 44) rfl rfl rfl ?_
      refine rn_icmp_eq (k' := 45) rfl rfl (fun hc3 => ?_) (fun hc3 => ?_)
      · skip
        refine rn_iinc (k' := 58) (L' := [some (mR 0), some (mI (a0)), some (mI (a1)), some (mI (fO (fun o : Nat => ¬ (o : Int) = a0 ∧ ¬ g_far μ (μ 15 a0.toNat) (g_st μ (μ 16 a0.toNat)) (g_w μ 0 (μ 14 0)) (μ 15 o).toNat = -1 ∧ g_far μ (μ 15 a0.toNat) (g_st μ (μ 16 a0.toNat)) (g_w μ 0 (μ 14 0)) (μ 15 o).toNat ≤ a1) n)), some (mI ((n : Int) + 1)), some (mI (F ((μ 15 (n)).toNat)))]) rfl rfl rfl (by omega) rfl ?_
        refine rn_goto rfl ?_
        exact ih (n + 1) _ _ _ (by omega) (by first | exact (fO_pos (by omega)).symm | exact (fO_neg (by omega)).symm) (by omega)
      · skip
        refine rn_iload (k' := 46) rfl rfl rfl ?_
        refine rn_iconst (k' := 47) rfl rfl ?_
        refine rn_icmp_eq (k' := 48) rfl rfl (fun hc4 => ?_) (fun hc4 => ?_)
        · skip
          refine rn_iinc (k' := 58) (L' := [some (mR 0), some (mI (a0)), some (mI (a1)), some (mI (fO (fun o : Nat => ¬ (o : Int) = a0 ∧ ¬ g_far μ (μ 15 a0.toNat) (g_st μ (μ 16 a0.toNat)) (g_w μ 0 (μ 14 0)) (μ 15 o).toNat = -1 ∧ g_far μ (μ 15 a0.toNat) (g_st μ (μ 16 a0.toNat)) (g_w μ 0 (μ 14 0)) (μ 15 o).toNat ≤ a1) n)), some (mI ((n : Int) + 1)), some (mI (F ((μ 15 (n)).toNat)))]) rfl rfl rfl (by omega) rfl ?_
          refine rn_goto rfl ?_
          exact ih (n + 1) _ _ _ (by omega) (by first | exact (fO_pos (by omega)).symm | exact (fO_neg (by omega)).symm) (by omega)
        · skip
          refine rn_iload (k' := 49) rfl rfl rfl ?_
          refine rn_iload_n (k' := 50) rfl rfl rfl ?_
          refine rn_icmp_gt (k' := 51) rfl rfl (fun hc5 => ?_) (fun hc5 => ?_)
          · skip
            refine rn_iinc (k' := 58) (L' := [some (mR 0), some (mI (a0)), some (mI (a1)), some (mI (fO (fun o : Nat => ¬ (o : Int) = a0 ∧ ¬ g_far μ (μ 15 a0.toNat) (g_st μ (μ 16 a0.toNat)) (g_w μ 0 (μ 14 0)) (μ 15 o).toNat = -1 ∧ g_far μ (μ 15 a0.toNat) (g_st μ (μ 16 a0.toNat)) (g_w μ 0 (μ 14 0)) (μ 15 o).toNat ≤ a1) n)), some (mI ((n : Int) + 1)), some (mI (F ((μ 15 (n)).toNat)))]) rfl rfl rfl (by omega) rfl ?_
            refine rn_goto rfl ?_
            exact ih (n + 1) _ _ _ (by omega) (by first | exact (fO_pos (by omega)).symm | exact (fO_neg (by omega)).symm) (by omega)
          · skip
            refine rn_iload_n (k' := 52) rfl rfl rfl ?_
            refine rn_iconst (k' := 53) rfl rfl ?_
            refine rn_iload (k' := 54) rfl rfl rfl ?_
            refine rn_ishl (k' := 55) rfl rfl ?_
            refine rn_ior (k' := 56) rfl rfl ?_
            refine rn_istore_n (k' := 57) (L' := [some (mR 0), some (mI (a0)), some (mI (a1)), some (mI (m_or (fO (fun o : Nat => ¬ (o : Int) = a0 ∧ ¬ g_far μ (μ 15 a0.toNat) (g_st μ (μ 16 a0.toNat)) (g_w μ 0 (μ 14 0)) (μ 15 o).toNat = -1 ∧ g_far μ (μ 15 a0.toNat) (g_st μ (μ 16 a0.toNat)) (g_w μ 0 (μ 14 0)) (μ 15 o).toNat ≤ a1) n) (m_shl (1) ((n : Int))))), some (mI ((n : Int))), some (mI (F ((μ 15 (n)).toNat)))]) rfl rfl (Nat.le_of_ble_eq_true rfl) rfl ?_
            refine rn_iinc (k' := 58) (L' := [some (mR 0), some (mI (a0)), some (mI (a1)), some (mI (m_or (fO (fun o : Nat => ¬ (o : Int) = a0 ∧ ¬ g_far μ (μ 15 a0.toNat) (g_st μ (μ 16 a0.toNat)) (g_w μ 0 (μ 14 0)) (μ 15 o).toNat = -1 ∧ g_far μ (μ 15 a0.toNat) (g_st μ (μ 16 a0.toNat)) (g_w μ 0 (μ 14 0)) (μ 15 o).toNat ≤ a1) n) (m_shl (1) ((n : Int))))), some (mI ((n : Int) + 1)), some (mI (F ((μ 15 (n)).toNat)))]) rfl rfl rfl (by omega) rfl ?_
            refine rn_goto rfl ?_
            exact ih (n + 1) _ _ _ (by omega) (by first | exact (fO_pos (by omega)).symm | exact (fO_neg (by omega)).symm) (by omega)
set_option maxHeartbeats 4000000 in
theorem t_X11_near {μ : Nat → Nat → Int} {c s : Nat} (hL : I_land μ) (hS : I_scene μ) {a0 a1 : Int} (h0 : i32 a0) (h1 : i32 a1) : Cl PT 113 [mR 0, mI a0, mI a1] (mkh μ c s) (fun r => ∃ μ1, r = (some (some (mI (if (0 ≤ a0 ∧ a0 < μ 6 13) ∧ 0 ≤ a1 ∧ a1 ≤ 99 then fO (fun o : Nat => ¬ (o : Int) = a0 ∧ ¬ g_far μ (μ 15 a0.toNat) (g_st μ (μ 16 a0.toNat)) (g_w μ 0 (μ 14 0)) (μ 15 o).toNat = -1 ∧ g_far μ (μ 15 a0.toNat) (g_st μ (μ 16 a0.toNat)) (g_w μ 0 (μ 14 0)) (μ 15 o).toNat ≤ a1) (μ 6 13).toNat else -1))), mkh μ1 c s) ∧ rst μ1 = rst μ) := by
  have hL_ := hL
  obtain ⟨lc, lr, le, lm, lw, lh, lwo, lwd, q0, q1, q2, q3, q4, q8, q499, q500, lth, lG, lT, lW, -⟩ := hL_
  have hS_ := hS
  obtain ⟨sd, sw, stk, s4, s5, s6, hC, hH, -, s10, sce, swc, s13⟩ := hS_
  by_cases hv : (0 ≤ a0 ∧ a0 < μ 6 13) ∧ 0 ≤ a1 ∧ a1 ≤ 99
  · rw [if_pos hv]
    have hv_ := hv
    obtain ⟨hv1, hv2⟩ := hv_
    have hcl0 : g_cell μ (μ 15 a0.toNat) := sc_cell hS (n := a0.toNat) (by omega)
    have hcb0 := g_cell_b hL hcl0
    refine ⟨_, PT_113, Nat.le_of_ble_eq_true rfl, ?_⟩
    show Rn PT none kX11_near 0 [some (mR 0), some (mI (a0)), some (mI (a1)), none, none, none] [] (mkh μ c s) _
    refine rn_aload_n (k' := 1) rfl rfl rfl ?_
    refine rn_iload_n (k' := 2) rfl rfl rfl ?_
    by_cases hq1 : 0 ≤ a0 ∧ a0 < μ 6 13
    · refine rn_callP (k' := 3) (y := 151) (vs := [mR 0, mI (a0)]) (S' := []) (v := some (mI 1)) (h' := mkh μ c s) rfl rfl rfl (by have hz : Cl PT 151 [mR 0, mI (a0)] (mkh μ c s) (fun r => r = (some (some (mI (if 0 ≤ a0 ∧ a0 < μ 6 13 then 1 else 0))), mkh μ c s)) := c_X11_isHerd (hL) (a := a0) (μ := μ) (c := c) (s := s); rw [if_pos hq1] at hz; exact hz) ?_
      show Rn PT none kX11_near 3 [some (mR 0), some (mI (a0)), some (mI (a1)), none, none, none] [mI (1)] (mkh μ c s) _
      refine rn_if_eq (k' := 4) rfl rfl (fun hc2 => ?_) (fun hc2 => ?_)
      · exfalso; omega
      · skip
        refine rn_iload_n (k' := 5) rfl rfl rfl ?_
        by_cases hq3 : 0 ≤ a1 ∧ a1 ≤ 99
        · refine rn_callP (k' := 6) (y := 153) (vs := [mI (a1)]) (S' := []) (v := some (mI 1)) (h' := mkh μ c s) rfl rfl rfl (by have hz : Cl PT 153 [mI (a1)] (mkh μ c s) (fun r => r = (some (some (mI (if 0 ≤ a1 ∧ a1 ≤ 99 then 1 else 0))), mkh μ c s)) := c_X11_isNumber (a := a1) (μ := μ) (c := c) (s := s); rw [if_pos hq3] at hz; exact hz) ?_
          show Rn PT none kX11_near 6 [some (mR 0), some (mI (a0)), some (mI (a1)), none, none, none] [mI (1)] (mkh μ c s) _
          refine rn_if_ne (k' := 7) rfl rfl (fun hc4 => ?_) (fun hc4 => ?_)
          · skip
            refine rn_iconst (k' := 10) rfl rfl ?_
            refine rn_istore_n (k' := 11) (L' := [some (mR 0), some (mI (a0)), some (mI (a1)), some (mI (0)), none, none]) rfl rfl (Nat.le_of_ble_eq_true rfl) rfl ?_
            refine rn_aload_n (k' := 12) rfl rfl rfl ?_
            refine rn_getR (k' := 13) rfl rfl K0_0 (by decide) rfl R0_0_8 ?_
            refine rn_aload_n (k' := 14) rfl rfl rfl ?_
            refine rn_getR (k' := 15) rfl rfl K0_0 (by decide) rfl R0_0_4 ?_
            refine rn_getR (k' := 16) rfl rfl K0_14 (by decide) rfl R0_14_1 ?_
            refine rn_iload_n (k' := 17) rfl rfl rfl ?_
            refine rn_iaload (k' := 18) rfl rfl K0_15 (by omega) (by omega) ?_
            have hb5 := hC ((a0).toNat)
            refine rn_aload_n (k' := 19) rfl rfl rfl ?_
            refine rn_iload_n (k' := 20) rfl rfl rfl ?_
            have hb6 := g_st_b hL (a := μ 16 (a0).toNat) (hH _).1
            refine rn_callP (k' := 21) (y := 157) (vs := [mR 0, mI (a0)]) (S' := [mI (μ 15 ((a0).toNat)), mR 66]) (v := some (mI (g_st μ (μ 16 (a0).toNat)))) (h' := mkh μ c s) rfl rfl rfl (c_X11_stiltsOf (μ := μ) (hL) hH (by omega)) ?_
            show Rn PT none kX11_near 21 [some (mR 0), some (mI (a0)), some (mI (a1)), some (mI (0)), none, none] [mI (g_st μ (μ 16 (a0).toNat)), mI (μ 15 ((a0).toNat)), mR 66] (mkh μ c s) _
            refine rn_aload_n (k' := 22) rfl rfl rfl ?_
            have hb7 := g_w_b hL 0 (μ 14 0)
            refine rn_callP (k' := 23) (y := 156) (vs := [mR 0]) (S' := [mI (g_st μ (μ 16 (a0).toNat)), mI (μ 15 ((a0).toNat)), mR 66]) (v := some (mI (g_w μ 0 (μ 14 0)))) (h' := mkh μ c s) rfl rfl rfl (c_X11_waterToday (μ := μ) (hL) (by show 0 ≤ μ 14 0 ∧ μ 14 0 ≤ 29; omega)) ?_
            show Rn PT none kX11_near 23 [some (mR 0), some (mI (a0)), some (mI (a1)), some (mI (0)), none, none] [mI (g_w μ 0 (μ 14 0)), mI (g_st μ (μ 16 (a0).toNat)), mI (μ 15 ((a0).toNat)), mR 66] (mkh μ c s) _
            obtain ⟨O8, F8, q8, hF8, hcl8⟩ := c_reachFrom (μ := μ) (c := c) (s := s) (hL) (a := μ 15 ((a0).toNat)) (t := g_st μ (μ 16 (a0).toNat)) (w := g_w μ 0 (μ 14 0)) (by assumption) (by omega)
            have hrb9 := g_reach_b hL (a := μ 15 ((a0).toNat)) (t := g_st μ (μ 16 (a0).toNat)) (w := g_w μ 0 (μ 14 0)) (by assumption)
            refine rn_callP (k' := 24) (y := 90) (vs := [mR 66, mI (μ 15 ((a0).toNat)), mI (g_st μ (μ 16 (a0).toNat)), mI (g_w μ 0 (μ 14 0))]) (S' := []) (v := some (mI (g_reach μ (μ 15 ((a0).toNat)) (g_st μ (μ 16 (a0).toNat)) (g_w μ 0 (μ 14 0))))) (h' := mkh (m_upd (m_upd (m_upd μ 67 O8) 68 F8) 69 q8) c s) rfl rfl rfl (hcl8) ?_
            show Rn PT none kX11_near 24 [some (mR 0), some (mI (a0)), some (mI (a1)), some (mI (0)), none, none] [mI (g_reach μ (μ 15 ((a0).toNat)) (g_st μ (μ 16 (a0).toNat)) (g_w μ 0 (μ 14 0)))] (mkh (m_upd (m_upd (m_upd μ 67 O8) 68 F8) 69 q8) c s) _
            refine rn_if_le (k' := 25) rfl rfl (fun hc10 => ?_) (fun hc10 => ?_)
            · skip
              refine rn_iload_n (k' := 60) rfl rfl rfl ?_
              refine rn_iret rfl (Or.inl rfl) ?_
              have hns : ¬ g_stand μ (μ 15 a0.toNat) (g_st μ (μ 16 a0.toNat)) (g_w μ 0 (μ 14 0)) := fun z => by
                have h1 := g_reach_pos z
                have h2 := (gbfs_ok hL (t := g_st μ (μ 16 a0.toNat)) (w := g_w μ 0 (μ 14 0)) hcl0).1
                omega
              refine ⟨(m_upd (m_upd (m_upd μ 67 O8) 68 F8) 69 q8), ?_, ((rst_upd (a := 69) (fun _ => rfl)).trans ((rst_upd (a := 68) (fun _ => rfl)).trans (rst_upd (a := 67) (fun _ => rfl))))⟩
              rw [fO_none]
              intro j _ hz
              refine hz.2.1 ?_
              unfold g_far
              rw [if_neg hns]
            · skip
              refine rn_iconst (k' := 26) rfl rfl ?_
              refine rn_istore (k' := 27) (L' := [some (mR 0), some (mI (a0)), some (mI (a1)), some (mI (0)), some (mI (0)), none]) rfl rfl (Nat.le_of_ble_eq_true rfl) rfl ?_
              have hst : g_stand μ (μ 15 a0.toNat) (g_st μ (μ 16 a0.toNat)) (g_w μ 0 (μ 14 0)) := Classical.byContradiction (fun z => by have := g_reach_neg z; omega)
              have hFF : ∀ j, j < 100 → F8 j = g_far μ (μ 15 a0.toNat) (g_st μ (μ 16 a0.toNat)) (g_w μ 0 (μ 14 0)) j := fun j hj => by
                unfold g_far
                rw [if_pos hst]
                exact hF8 hst j hj
              exact l_X11_near hL hS hv1 hv2 hFF (μ 6 13).toNat 0 _ _ _ rfl rfl (by omega)
          · exfalso; omega
        · exfalso; omega
    · exfalso; omega
  · rw [if_neg hv]
    refine ⟨_, PT_113, Nat.le_of_ble_eq_true rfl, ?_⟩
    show Rn PT none kX11_near 0 [some (mR 0), some (mI (a0)), some (mI (a1)), none, none, none] [] (mkh μ c s) _
    refine rn_aload_n (k' := 1) rfl rfl rfl ?_
    refine rn_iload_n (k' := 2) rfl rfl rfl ?_
    by_cases hq1 : 0 ≤ a0 ∧ a0 < μ 6 13
    · refine rn_callP (k' := 3) (y := 151) (vs := [mR 0, mI (a0)]) (S' := []) (v := some (mI 1)) (h' := mkh μ c s) rfl rfl rfl (by have hz : Cl PT 151 [mR 0, mI (a0)] (mkh μ c s) (fun r => r = (some (some (mI (if 0 ≤ a0 ∧ a0 < μ 6 13 then 1 else 0))), mkh μ c s)) := c_X11_isHerd (hL) (a := a0) (μ := μ) (c := c) (s := s); rw [if_pos hq1] at hz; exact hz) ?_
      show Rn PT none kX11_near 3 [some (mR 0), some (mI (a0)), some (mI (a1)), none, none, none] [mI (1)] (mkh μ c s) _
      refine rn_if_eq (k' := 4) rfl rfl (fun hc2 => ?_) (fun hc2 => ?_)
      · exfalso; omega
      · skip
        refine rn_iload_n (k' := 5) rfl rfl rfl ?_
        by_cases hq3 : 0 ≤ a1 ∧ a1 ≤ 99
        · refine rn_callP (k' := 6) (y := 153) (vs := [mI (a1)]) (S' := []) (v := some (mI 1)) (h' := mkh μ c s) rfl rfl rfl (by have hz : Cl PT 153 [mI (a1)] (mkh μ c s) (fun r => r = (some (some (mI (if 0 ≤ a1 ∧ a1 ≤ 99 then 1 else 0))), mkh μ c s)) := c_X11_isNumber (a := a1) (μ := μ) (c := c) (s := s); rw [if_pos hq3] at hz; exact hz) ?_
          show Rn PT none kX11_near 6 [some (mR 0), some (mI (a0)), some (mI (a1)), none, none, none] [mI (1)] (mkh μ c s) _
          refine rn_if_ne (k' := 7) rfl rfl (fun hc4 => ?_) (fun hc4 => ?_)
          · skip
            refine rn_iconst (k' := 10) rfl rfl ?_
            refine rn_istore_n (k' := 11) (L' := [some (mR 0), some (mI (a0)), some (mI (a1)), some (mI (0)), none, none]) rfl rfl (Nat.le_of_ble_eq_true rfl) rfl ?_
            refine rn_aload_n (k' := 12) rfl rfl rfl ?_
            refine rn_getR (k' := 13) rfl rfl K0_0 (by decide) rfl R0_0_8 ?_
            refine rn_aload_n (k' := 14) rfl rfl rfl ?_
            refine rn_getR (k' := 15) rfl rfl K0_0 (by decide) rfl R0_0_4 ?_
            refine rn_getR (k' := 16) rfl rfl K0_14 (by decide) rfl R0_14_1 ?_
            refine rn_iload_n (k' := 17) rfl rfl rfl ?_
            refine rn_iaload (k' := 18) rfl rfl K0_15 (by omega) (by omega) ?_
            have hb5 := hC ((a0).toNat)
            refine rn_aload_n (k' := 19) rfl rfl rfl ?_
            refine rn_iload_n (k' := 20) rfl rfl rfl ?_
            have hb6 := g_st_b hL (a := μ 16 (a0).toNat) (hH _).1
            refine rn_callP (k' := 21) (y := 157) (vs := [mR 0, mI (a0)]) (S' := [mI (μ 15 ((a0).toNat)), mR 66]) (v := some (mI (g_st μ (μ 16 (a0).toNat)))) (h' := mkh μ c s) rfl rfl rfl (c_X11_stiltsOf (μ := μ) (hL) hH (by omega)) ?_
            show Rn PT none kX11_near 21 [some (mR 0), some (mI (a0)), some (mI (a1)), some (mI (0)), none, none] [mI (g_st μ (μ 16 (a0).toNat)), mI (μ 15 ((a0).toNat)), mR 66] (mkh μ c s) _
            refine rn_aload_n (k' := 22) rfl rfl rfl ?_
            exfalso; omega
          · exfalso; omega
        · refine rn_callP (k' := 6) (y := 153) (vs := [mI (a1)]) (S' := []) (v := some (mI 0)) (h' := mkh μ c s) rfl rfl rfl (by have hz : Cl PT 153 [mI (a1)] (mkh μ c s) (fun r => r = (some (some (mI (if 0 ≤ a1 ∧ a1 ≤ 99 then 1 else 0))), mkh μ c s)) := c_X11_isNumber (a := a1) (μ := μ) (c := c) (s := s); rw [if_neg hq3] at hz; exact hz) ?_
          show Rn PT none kX11_near 6 [some (mR 0), some (mI (a0)), some (mI (a1)), none, none, none] [mI (0)] (mkh μ c s) _
          refine rn_if_ne (k' := 7) rfl rfl (fun hc7 => ?_) (fun hc7 => ?_)
          · exfalso; omega
          · skip
            refine rn_iconst (k' := 8) rfl rfl ?_
            refine rn_iret rfl (Or.inl rfl) ?_
            exact ⟨μ, rfl, rfl⟩
    · refine rn_callP (k' := 3) (y := 151) (vs := [mR 0, mI (a0)]) (S' := []) (v := some (mI 0)) (h' := mkh μ c s) rfl rfl rfl (by have hz : Cl PT 151 [mR 0, mI (a0)] (mkh μ c s) (fun r => r = (some (some (mI (if 0 ≤ a0 ∧ a0 < μ 6 13 then 1 else 0))), mkh μ c s)) := c_X11_isHerd (hL) (a := a0) (μ := μ) (c := c) (s := s); rw [if_neg hq1] at hz; exact hz) ?_
      show Rn PT none kX11_near 3 [some (mR 0), some (mI (a0)), some (mI (a1)), none, none, none] [mI (0)] (mkh μ c s) _
      refine rn_if_eq (k' := 4) rfl rfl (fun hc8 => ?_) (fun hc8 => ?_)
      · skip
        refine rn_iconst (k' := 8) rfl rfl ?_
        refine rn_iret rfl (Or.inl rfl) ?_
        exact ⟨μ, rfl, rfl⟩
      · exfalso; omega
set_option maxHeartbeats 4000000 in
theorem l_X12_near {μ : Nat → Nat → Int} {c s : Nat} (hL : I_land μ) (hS : I_scene μ) {a0 a1 : Int} (hv1 : 0 ≤ a0 ∧ a0 < μ 6 13) (hv2 : 0 ≤ a1 ∧ a1 ≤ 99) {H F q : Nat → Int} (hHs : ∀ j, sup 118 j = true → H j = μ 118 j) (hF : ∀ j, j < 100 → F j = fv (g_far μ (μ 15 a0.toNat) (g_st μ (μ 16 a0.toNat)) (g_w μ 0 (μ 14 0)) j)) : ∀ (d n : Nat) (k : Int) (acc : Int), k = (n : Int) → acc = fO (fun o : Nat => ¬ (o : Int) = a0 ∧ ¬ g_far μ (μ 15 a0.toNat) (g_st μ (μ 16 a0.toNat)) (g_w μ 0 (μ 14 0)) (μ 15 o).toNat = -1 ∧ g_far μ (μ 15 a0.toNat) (g_st μ (μ 16 a0.toNat)) (g_w μ 0 (μ 14 0)) (μ 15 o).toNat ≤ a1) n → (n : Int) + d = μ 6 13 → Rn PT none kX12_near 35 [some (mR 118), some (mI (a0)), some (mI (a1)), some (mI (acc)), some (mI (k))] [] (mkh (m_upd (m_upd (m_upd μ 118 H) 125 F) 126 q) c s) (fun r => ∃ μ1, r = (some (some (mI (fO (fun o : Nat => ¬ (o : Int) = a0 ∧ ¬ g_far μ (μ 15 a0.toNat) (g_st μ (μ 16 a0.toNat)) (g_w μ 0 (μ 14 0)) (μ 15 o).toNat = -1 ∧ g_far μ (μ 15 a0.toNat) (g_st μ (μ 16 a0.toNat)) (g_w μ 0 (μ 14 0)) (μ 15 o).toNat ≤ a1) (μ 6 13).toNat))), mkh μ1 c s) ∧ rst μ1 = rst μ) := by
  have hL_ := hL
  obtain ⟨lc, lr, le, lm, lw, lh, lwo, lwd, q0, q1, q2, q3, q4, q8, q499, q500, lth, lG, lT, lW, -⟩ := hL_
  have hS_ := hS
  obtain ⟨sd, sw, stk, s4, s5, s6, hC, hH, -, s10, sce, swc, s13⟩ := hS_
  intro d
  induction d with
  | zero =>
    intro n k acc  ek eacc hn
    subst ek eacc
    have hcb := hC n
    have hfn := hF (μ 15 n).toNat (by omega)
    have hfo := fv_or (g_far μ (μ 15 a0.toNat) (g_st μ (μ 16 a0.toNat)) (g_w μ 0 (μ 14 0)) (μ 15 n).toNat)
    refine rn_iload (k' := 36) rfl rfl rfl ?_
    refine rn_aload_n (k' := 37) rfl rfl rfl ?_
    refine rn_getR (k' := 38) rfl rfl K0_118 (by decide) rfl R0_118_6 ?_
    refine rn_bipush (k' := 39) rfl rfl ?_
    refine rn_iaload (k' := 40) rfl rfl K0_120 (by omega) (by omega) ?_
    show Rn PT none kX12_near 40 [some (mR 118), some (mI (a0)), some (mI (a1)), some (mI (fO (fun o : Nat => ¬ (o : Int) = a0 ∧ ¬ g_far μ (μ 15 a0.toNat) (g_st μ (μ 16 a0.toNat)) (g_w μ 0 (μ 14 0)) (μ 15 o).toNat = -1 ∧ g_far μ (μ 15 a0.toNat) (g_st μ (μ 16 a0.toNat)) (g_w μ 0 (μ 14 0)) (μ 15 o).toNat ≤ a1) n)), some (mI ((n : Int)))] [mI (μ 120 8), mI ((n : Int))] (mkh (m_upd (m_upd (m_upd μ 118 H) 125 F) 126 q) c s) _
    rw [q8]
    refine rn_icmp_ge (k' := 41) rfl rfl (fun hc1 => ?_) (fun hc1 => ?_)
    · skip
      refine rn_iload_n (k' := 64) rfl rfl rfl ?_
      refine rn_iret rfl (Or.inl rfl) ?_
      refine ⟨(m_upd (m_upd (m_upd μ 118 H) 125 F) 126 q), ?_, ((rst_upd (a := 126) (fun _ => rfl)).trans ((rst_upd (a := 125) (fun _ => rfl)).trans (rst_upd1 (a := 118) hHs)))⟩
      rw [show (μ 6 13).toNat = n by omega]
    · exfalso; omega
  | succ d ih =>
    intro n k acc  ek eacc hn
    subst ek eacc
    have hcb := hC n
    have hfn := hF (μ 15 n).toNat (by omega)
    have hfo := fv_or (g_far μ (μ 15 a0.toNat) (g_st μ (μ 16 a0.toNat)) (g_w μ 0 (μ 14 0)) (μ 15 n).toNat)
    refine rn_iload (k' := 36) rfl rfl rfl ?_
    refine rn_aload_n (k' := 37) rfl rfl rfl ?_
    refine rn_getR (k' := 38) rfl rfl K0_118 (by decide) rfl R0_118_6 ?_
    refine rn_bipush (k' := 39) rfl rfl ?_
    refine rn_iaload (k' := 40) rfl rfl K0_120 (by omega) (by omega) ?_
    show Rn PT none kX12_near 40 [some (mR 118), some (mI (a0)), some (mI (a1)), some (mI (fO (fun o : Nat => ¬ (o : Int) = a0 ∧ ¬ g_far μ (μ 15 a0.toNat) (g_st μ (μ 16 a0.toNat)) (g_w μ 0 (μ 14 0)) (μ 15 o).toNat = -1 ∧ g_far μ (μ 15 a0.toNat) (g_st μ (μ 16 a0.toNat)) (g_w μ 0 (μ 14 0)) (μ 15 o).toNat ≤ a1) n)), some (mI ((n : Int)))] [mI (μ 120 8), mI ((n : Int))] (mkh (m_upd (m_upd (m_upd μ 118 H) 125 F) 126 q) c s) _
    rw [q8]
    refine rn_icmp_ge (k' := 41) rfl rfl (fun hc1 => ?_) (fun hc1 => ?_)
    · exfalso; omega
    · skip
      refine rn_iload (k' := 42) rfl rfl rfl ?_
      refine rn_iload_n (k' := 43) rfl rfl rfl ?_
      refine rn_icmp_eq (k' := 44) rfl rfl (fun hc2 => ?_) (fun hc2 => ?_)
      · skip
        refine rn_iinc (k' := 62) (L' := [some (mR 118), some (mI (a0)), some (mI (a1)), some (mI (fO (fun o : Nat => ¬ (o : Int) = a0 ∧ ¬ g_far μ (μ 15 a0.toNat) (g_st μ (μ 16 a0.toNat)) (g_w μ 0 (μ 14 0)) (μ 15 o).toNat = -1 ∧ g_far μ (μ 15 a0.toNat) (g_st μ (μ 16 a0.toNat)) (g_w μ 0 (μ 14 0)) (μ 15 o).toNat ≤ a1) n)), some (mI ((n : Int) + 1))]) rfl rfl rfl (by omega) rfl ?_
        refine rn_goto rfl ?_
        exact ih (n + 1) _ _ (by omega) (by first | exact (fO_pos (by omega)).symm | exact (fO_neg (by omega)).symm) (by omega)
      · skip
        refine rn_aload_n (k' := 45) rfl rfl rfl ?_
        refine rn_getR (k' := 46) rfl rfl K0_118 (by decide) rfl R0_118_24 ?_
        refine rn_aload_n (k' := 47) rfl rfl rfl ?_
        refine rn_getR (k' := 48) rfl rfl K0_118 (by decide) rfl R0_118_6 ?_
        refine rn_sipush (k' := 49) rfl rfl ?_
        refine rn_iload (k' := 50) rfl rfl rfl ?_
        refine rn_iadd (k' := 51) rfl rfl (by omega) ?_
        refine rn_iaload (k' := 52) rfl rfl K0_120 (by omega) (by omega) ?_
        show Rn PT none kX12_near 52 [some (mR 118), some (mI (a0)), some (mI (a1)), some (mI (fO (fun o : Nat => ¬ (o : Int) = a0 ∧ ¬ g_far μ (μ 15 a0.toNat) (g_st μ (μ 16 a0.toNat)) (g_w μ 0 (μ 14 0)) (μ 15 o).toNat = -1 ∧ g_far μ (μ 15 a0.toNat) (g_st μ (μ 16 a0.toNat)) (g_w μ 0 (μ 14 0)) (μ 15 o).toNat ≤ a1) n)), some (mI ((n : Int)))] [mI (μ 120 (518 + n)), mR 125] (mkh (m_upd (m_upd (m_upd μ 118 H) 125 F) 126 q) c s) _
        rw [(v_atN hS (n := n) (by omega)).1]
        have hb3 := (v_atN hS (n := n) (by omega)).2
        refine rn_iaload (k' := 53) rfl rfl K0_125 (by omega) (by omega) ?_
        show Rn PT none kX12_near 53 [some (mR 118), some (mI (a0)), some (mI (a1)), some (mI (fO (fun o : Nat => ¬ (o : Int) = a0 ∧ ¬ g_far μ (μ 15 a0.toNat) (g_st μ (μ 16 a0.toNat)) (g_w μ 0 (μ 14 0)) (μ 15 o).toNat = -1 ∧ g_far μ (μ 15 a0.toNat) (g_st μ (μ 16 a0.toNat)) (g_w μ 0 (μ 14 0)) (μ 15 o).toNat ≤ a1) n)), some (mI ((n : Int)))] [mI (F ((μ 15 n).toNat))] (mkh (m_upd (m_upd (m_upd μ 118 H) 125 F) 126 q) c s) _
        refine rn_iload_n (k' := 54) rfl rfl rfl ?_
        refine rn_icmp_gt (k' := 55) rfl rfl (fun hc4 => ?_) (fun hc4 => ?_)
        · skip
          refine rn_iinc (k' := 62) (L' := [some (mR 118), some (mI (a0)), some (mI (a1)), some (mI (fO (fun o : Nat => ¬ (o : Int) = a0 ∧ ¬ g_far μ (μ 15 a0.toNat) (g_st μ (μ 16 a0.toNat)) (g_w μ 0 (μ 14 0)) (μ 15 o).toNat = -1 ∧ g_far μ (μ 15 a0.toNat) (g_st μ (μ 16 a0.toNat)) (g_w μ 0 (μ 14 0)) (μ 15 o).toNat ≤ a1) n)), some (mI ((n : Int) + 1))]) rfl rfl rfl (by omega) rfl ?_
          refine rn_goto rfl ?_
          exact ih (n + 1) _ _ (by omega) (by first | exact (fO_pos (by omega)).symm | exact (fO_neg (by omega)).symm) (by omega)
        · skip
          refine rn_iload_n (k' := 56) rfl rfl rfl ?_
          refine rn_iconst (k' := 57) rfl rfl ?_
          refine rn_iload (k' := 58) rfl rfl rfl ?_
          refine rn_ishl (k' := 59) rfl rfl ?_
          refine rn_ior (k' := 60) rfl rfl ?_
          refine rn_istore_n (k' := 61) (L' := [some (mR 118), some (mI (a0)), some (mI (a1)), some (mI (m_or (fO (fun o : Nat => ¬ (o : Int) = a0 ∧ ¬ g_far μ (μ 15 a0.toNat) (g_st μ (μ 16 a0.toNat)) (g_w μ 0 (μ 14 0)) (μ 15 o).toNat = -1 ∧ g_far μ (μ 15 a0.toNat) (g_st μ (μ 16 a0.toNat)) (g_w μ 0 (μ 14 0)) (μ 15 o).toNat ≤ a1) n) (m_shl (1) ((n : Int))))), some (mI ((n : Int)))]) rfl rfl (Nat.le_of_ble_eq_true rfl) rfl ?_
          refine rn_iinc (k' := 62) (L' := [some (mR 118), some (mI (a0)), some (mI (a1)), some (mI (m_or (fO (fun o : Nat => ¬ (o : Int) = a0 ∧ ¬ g_far μ (μ 15 a0.toNat) (g_st μ (μ 16 a0.toNat)) (g_w μ 0 (μ 14 0)) (μ 15 o).toNat = -1 ∧ g_far μ (μ 15 a0.toNat) (g_st μ (μ 16 a0.toNat)) (g_w μ 0 (μ 14 0)) (μ 15 o).toNat ≤ a1) n) (m_shl (1) ((n : Int))))), some (mI ((n : Int) + 1))]) rfl rfl rfl (by omega) rfl ?_
          refine rn_goto rfl ?_
          exact ih (n + 1) _ _ (by omega) (by first | exact (fO_pos (by omega)).symm | exact (fO_neg (by omega)).symm) (by omega)
set_option maxHeartbeats 4000000 in
theorem t_X12_near {μ : Nat → Nat → Int} {c s : Nat} (hL : I_land μ) (hS : I_scene μ) {a0 a1 : Int} (h0 : i32 a0) (h1 : i32 a1) : Cl PT 217 [mR 118, mI a0, mI a1] (mkh μ c s) (fun r => ∃ μ1, r = (some (some (mI (if (0 ≤ a0 ∧ a0 < μ 6 13) ∧ 0 ≤ a1 ∧ a1 ≤ 99 then fO (fun o : Nat => ¬ (o : Int) = a0 ∧ ¬ g_far μ (μ 15 a0.toNat) (g_st μ (μ 16 a0.toNat)) (g_w μ 0 (μ 14 0)) (μ 15 o).toNat = -1 ∧ g_far μ (μ 15 a0.toNat) (g_st μ (μ 16 a0.toNat)) (g_w μ 0 (μ 14 0)) (μ 15 o).toNat ≤ a1) (μ 6 13).toNat else -1))), mkh μ1 c s) ∧ rst μ1 = rst μ) := by
  have hL_ := hL
  obtain ⟨lc, lr, le, lm, lw, lh, lwo, lwd, q0, q1, q2, q3, q4, q8, q499, q500, lth, lG, lT, lW, -⟩ := hL_
  have hS_ := hS
  obtain ⟨sd, sw, stk, s4, s5, s6, hC, hH, -, s10, sce, swc, s13⟩ := hS_
  by_cases hv : (0 ≤ a0 ∧ a0 < μ 6 13) ∧ 0 ≤ a1 ∧ a1 ≤ 99
  · rw [if_pos hv]
    have hv_ := hv
    obtain ⟨hv1, hv2⟩ := hv_
    have hcl0 : g_cell μ (μ 15 a0.toNat) := sc_cell hS (n := a0.toNat) (by omega)
    have hcb0 := g_cell_b hL hcl0
    refine ⟨_, PT_217, Nat.le_of_ble_eq_true rfl, ?_⟩
    show Rn PT none kX12_near 0 [some (mR 118), some (mI (a0)), some (mI (a1)), none, none] [] (mkh μ c s) _
    refine rn_aload_n (k' := 1) rfl rfl rfl ?_
    refine rn_iconst (k' := 2) rfl rfl ?_
    refine rn_putI (k' := 3) rfl rfl K0_118 (by decide) rfl ?_
    refine rn_aload_n (k' := 4) rfl rfl rfl ?_
    refine rn_iload_n (k' := 5) rfl rfl rfl ?_
    by_cases hq2 : 0 ≤ a0 ∧ a0 < μ 6 13
    · refine rn_callP (k' := 6) (y := 193) (vs := [mR 118, mI (a0)]) (S' := []) (v := some (mI 1)) (h' := mkh (m_set μ 118 0 (0)) c s) rfl rfl rfl (by have hz : Cl PT 193 [mR 118, mI (a0)] (mkh (m_set μ 118 0 (0)) c s) (fun r => r = (some (some (mI (if 0 ≤ a0 ∧ a0 < μ 6 13 then 1 else 0))), mkh (m_set μ 118 0 (0)) c s)) := c_X12_isHerd ((hL).set rfl) (a := a0) (μ := (m_set μ 118 0 (0))) (c := c) (s := s); rw [if_pos hq2] at hz; exact hz) ?_
      show Rn PT none kX12_near 6 [some (mR 118), some (mI (a0)), some (mI (a1)), none, none] [mI (1)] (mkh (m_set μ 118 0 (0)) c s) _
      refine rn_if_eq (k' := 7) rfl rfl (fun hc3 => ?_) (fun hc3 => ?_)
      · exfalso; omega
      · skip
        refine rn_iload_n (k' := 8) rfl rfl rfl ?_
        refine rn_iconst (k' := 9) rfl rfl ?_
        refine rn_bipush (k' := 10) rfl rfl ?_
        by_cases hq4 : 0 ≤ a1 ∧ a1 ≤ 99
        · refine rn_callP (k' := 11) (y := 167) (vs := [mI (a1), mI (0), mI (99)]) (S' := []) (v := some (mI 1)) (h' := mkh (m_set μ 118 0 (0)) c s) rfl rfl rfl (by have hz : Cl PT 167 [mI (a1), mI (0), mI (99)] (mkh (m_set μ 118 0 (0)) c s) (fun r => r = (some (some (mI (if 0 ≤ a1 ∧ a1 ≤ 99 then 1 else 0))), mkh (m_set μ 118 0 (0)) c s)) := c_X12_isIn (v := a1) (lo := 0) (hi := 99) (μ := (m_set μ 118 0 (0))) (c := c) (s := s); rw [if_pos hq4] at hz; exact hz) ?_
          show Rn PT none kX12_near 11 [some (mR 118), some (mI (a0)), some (mI (a1)), none, none] [mI (1)] (mkh (m_set μ 118 0 (0)) c s) _
          refine rn_if_ne (k' := 12) rfl rfl (fun hc5 => ?_) (fun hc5 => ?_)
          · skip
            refine rn_aload_n (k' := 15) rfl rfl rfl ?_
            refine rn_aload_n (k' := 16) rfl rfl rfl ?_
            refine rn_getR (k' := 17) rfl rfl K0_118 (by decide) rfl R0_118_6 ?_
            refine rn_sipush (k' := 18) rfl rfl ?_
            refine rn_iaload (k' := 19) rfl rfl K0_120 (by omega) (by omega) ?_
            show Rn PT none kX12_near 19 [some (mR 118), some (mI (a0)), some (mI (a1)), none, none] [mI (μ 120 517), mR 118] (mkh (m_set μ 118 0 (0)) c s) _
            rw [s4]
            have hb6 := g_w_b hL 0 (μ 14 0)
            have hc906 := g_w_b hL 1 (μ 14 0)
            refine rn_callP (k' := 20) (y := 201) (vs := [mR 118, mI (μ 14 0)]) (S' := []) (v := none) (h' := mkh (m_set (m_set (m_set μ 118 0 (0)) 118 22 (g_w μ 0 (μ 14 0))) 118 23 (g_w μ 1 (μ 14 0))) c s) rfl rfl rfl (c_X12_of (μ := (m_set μ 118 0 (0))) ((hL).set rfl) (by omega)) ?_
            show Rn PT none kX12_near 20 [some (mR 118), some (mI (a0)), some (mI (a1)), none, none] [] (mkh (m_set (m_set (m_set μ 118 0 (0)) 118 22 (g_w μ 0 (μ 14 0))) 118 23 (g_w μ 1 (μ 14 0))) c s) _
            refine rn_aload_n (k' := 21) rfl rfl rfl ?_
            refine rn_aload_n (k' := 22) rfl rfl rfl ?_
            refine rn_getR (k' := 23) rfl rfl K0_118 (by decide) rfl R0_118_6 ?_
            refine rn_sipush (k' := 24) rfl rfl ?_
            refine rn_iload_n (k' := 25) rfl rfl rfl ?_
            refine rn_iadd (k' := 26) rfl rfl (by omega) ?_
            refine rn_iaload (k' := 27) rfl rfl K0_120 (by omega) (by omega) ?_
            show Rn PT none kX12_near 27 [some (mR 118), some (mI (a0)), some (mI (a1)), none, none] [mI (μ 120 ((518 + a0).toNat)), mR 118] (mkh (m_set (m_set (m_set μ 118 0 (0)) 118 22 (g_w μ 0 (μ 14 0))) 118 23 (g_w μ 1 (μ 14 0))) c s) _
            rw [(v_at hS (a := a0) (by omega)).1]
            have hb7 := (v_at hS (a := a0) (by omega)).2
            refine rn_aload_n (k' := 28) rfl rfl rfl ?_
            refine rn_iload_n (k' := 29) rfl rfl rfl ?_
            have hb8 := g_st_b hL (a := μ 16 (a0).toNat) (hH _).1
            refine rn_callP (k' := 30) (y := 198) (vs := [mR 118, mI (a0)]) (S' := [mI (μ 15 (a0).toNat), mR 118]) (v := some (mI (g_st μ (μ 16 (a0).toNat)))) (h' := mkh (m_set (m_set (m_set μ 118 0 (0)) 118 22 (g_w μ 0 (μ 14 0))) 118 23 (g_w μ 1 (μ 14 0))) c s) rfl rfl rfl (c_X12_stiltsOf (μ := (m_set (m_set (m_set μ 118 0 (0)) 118 22 (g_w μ 0 (μ 14 0))) 118 23 (g_w μ 1 (μ 14 0)))) ((((hL).set rfl).set rfl).set rfl) ((((hS).set rfl).set rfl).set rfl) (by show 0 ≤ (a0 : Int) ∧ (a0 : Int) < μ 6 13; omega)) ?_
            show Rn PT none kX12_near 30 [some (mR 118), some (mI (a0)), some (mI (a1)), none, none] [mI (g_st μ (μ 16 (a0).toNat)), mI (μ 15 (a0).toNat), mR 118] (mkh (m_set (m_set (m_set μ 118 0 (0)) 118 22 (g_w μ 0 (μ 14 0))) 118 23 (g_w μ 1 (μ 14 0))) c s) _
            obtain ⟨F9, q9, hF9, hcl9⟩ := c_spread_h (μ := (m_set (m_set (m_set μ 118 0 (0)) 118 22 (g_w μ 0 (μ 14 0))) 118 23 (g_w μ 1 (μ 14 0)))) (c := c) (s := s) ((((hL).set rfl).set rfl).set rfl) (by show 0 ≤ g_w μ 0 (μ 14 0) ∧ g_w μ 0 (μ 14 0) ≤ 1000; omega) (a := μ 15 (a0).toNat) (t := g_st μ (μ 16 (a0).toNat)) (by omega) (by assumption)
            rw [g_far_rows (ν := (m_set (m_set (m_set μ 118 0 (0)) 118 22 (g_w μ 0 (μ 14 0))) 118 23 (g_w μ 1 (μ 14 0)))) (μ := μ) rfl rfl rfl] at hF9
            have hG9 : ∀ j, j < 100 → F9 j = fv (g_far μ (μ 15 (a0).toNat) (g_st μ (μ 16 (a0).toNat)) (g_w μ 0 (μ 14 0)) j) := hF9
            refine rn_callP (k' := 31) (y := 212) (vs := [mR 118, mI (μ 15 (a0).toNat), mI (g_st μ (μ 16 (a0).toNat))]) (S' := []) (v := none) (h' := mkh (m_upd (m_upd (m_set (m_set (m_set μ 118 0 (0)) 118 22 (g_w μ 0 (μ 14 0))) 118 23 (g_w μ 1 (μ 14 0))) 125 F9) 126 q9) c s) rfl rfl rfl (hcl9) ?_
            show Rn PT none kX12_near 31 [some (mR 118), some (mI (a0)), some (mI (a1)), none, none] [] (mkh (m_upd (m_upd (m_set (m_set (m_set μ 118 0 (0)) 118 22 (g_w μ 0 (μ 14 0))) 118 23 (g_w μ 1 (μ 14 0))) 125 F9) 126 q9) c s) _
            refine rn_iconst (k' := 32) rfl rfl ?_
            refine rn_istore_n (k' := 33) (L' := [some (mR 118), some (mI (a0)), some (mI (a1)), some (mI (0)), none]) rfl rfl (Nat.le_of_ble_eq_true rfl) rfl ?_
            refine rn_iconst (k' := 34) rfl rfl ?_
            refine rn_istore (k' := 35) (L' := [some (mR 118), some (mI (a0)), some (mI (a1)), some (mI (0)), some (mI (0))]) rfl rfl (Nat.le_of_ble_eq_true rfl) rfl ?_
            show Rn PT none kX12_near 35 [some (mR 118), some (mI (a0)), some (mI (a1)), some (mI (0)), some (mI (0))] [] (mkh (m_upd (m_upd (m_set (m_set (m_set μ 118 0 (0)) 118 22 (g_w μ 0 (μ 14 0))) 118 23 (g_w μ 1 (μ 14 0))) 125 F9) 126 q9) c s) _
            rw [upd3_of (μ := μ) (ν := (m_upd (m_upd (m_set (m_set (m_set μ 118 0 (0)) 118 22 (g_w μ 0 (μ 14 0))) 118 23 (g_w μ 1 (μ 14 0))) 125 F9) 126 q9)) (x := 118) (y := 125) (z := 126) (fun b hb118 hb125 hb126 => ((row_upd hb126).trans ((row_upd hb125).trans ((row_set hb118).trans ((row_set hb118).trans (row_set hb118))))))]
            exact l_X12_near hL hS hv1 hv2 (fun j hj => sup_eq ((rst_upd (a := 126) (fun _ => rfl)).trans ((rst_upd (a := 125) (fun _ => rfl)).trans ((rst_set (a := 118) (j := 23) rfl).trans ((rst_set (a := 118) (j := 22) rfl).trans (rst_set (a := 118) (j := 0) rfl))))) hj) hG9 (μ 6 13).toNat 0 _ _ rfl rfl (by omega)
          · exfalso; omega
        · exfalso; omega
    · exfalso; omega
  · rw [if_neg hv]
    refine ⟨_, PT_217, Nat.le_of_ble_eq_true rfl, ?_⟩
    show Rn PT none kX12_near 0 [some (mR 118), some (mI (a0)), some (mI (a1)), none, none] [] (mkh μ c s) _
    refine rn_aload_n (k' := 1) rfl rfl rfl ?_
    refine rn_iconst (k' := 2) rfl rfl ?_
    refine rn_putI (k' := 3) rfl rfl K0_118 (by decide) rfl ?_
    refine rn_aload_n (k' := 4) rfl rfl rfl ?_
    refine rn_iload_n (k' := 5) rfl rfl rfl ?_
    by_cases hq2 : 0 ≤ a0 ∧ a0 < μ 6 13
    · refine rn_callP (k' := 6) (y := 193) (vs := [mR 118, mI (a0)]) (S' := []) (v := some (mI 1)) (h' := mkh (m_set μ 118 0 (0)) c s) rfl rfl rfl (by have hz : Cl PT 193 [mR 118, mI (a0)] (mkh (m_set μ 118 0 (0)) c s) (fun r => r = (some (some (mI (if 0 ≤ a0 ∧ a0 < μ 6 13 then 1 else 0))), mkh (m_set μ 118 0 (0)) c s)) := c_X12_isHerd ((hL).set rfl) (a := a0) (μ := (m_set μ 118 0 (0))) (c := c) (s := s); rw [if_pos hq2] at hz; exact hz) ?_
      show Rn PT none kX12_near 6 [some (mR 118), some (mI (a0)), some (mI (a1)), none, none] [mI (1)] (mkh (m_set μ 118 0 (0)) c s) _
      refine rn_if_eq (k' := 7) rfl rfl (fun hc3 => ?_) (fun hc3 => ?_)
      · exfalso; omega
      · skip
        refine rn_iload_n (k' := 8) rfl rfl rfl ?_
        refine rn_iconst (k' := 9) rfl rfl ?_
        refine rn_bipush (k' := 10) rfl rfl ?_
        by_cases hq4 : 0 ≤ a1 ∧ a1 ≤ 99
        · refine rn_callP (k' := 11) (y := 167) (vs := [mI (a1), mI (0), mI (99)]) (S' := []) (v := some (mI 1)) (h' := mkh (m_set μ 118 0 (0)) c s) rfl rfl rfl (by have hz : Cl PT 167 [mI (a1), mI (0), mI (99)] (mkh (m_set μ 118 0 (0)) c s) (fun r => r = (some (some (mI (if 0 ≤ a1 ∧ a1 ≤ 99 then 1 else 0))), mkh (m_set μ 118 0 (0)) c s)) := c_X12_isIn (v := a1) (lo := 0) (hi := 99) (μ := (m_set μ 118 0 (0))) (c := c) (s := s); rw [if_pos hq4] at hz; exact hz) ?_
          show Rn PT none kX12_near 11 [some (mR 118), some (mI (a0)), some (mI (a1)), none, none] [mI (1)] (mkh (m_set μ 118 0 (0)) c s) _
          refine rn_if_ne (k' := 12) rfl rfl (fun hc5 => ?_) (fun hc5 => ?_)
          · skip
            refine rn_aload_n (k' := 15) rfl rfl rfl ?_
            refine rn_aload_n (k' := 16) rfl rfl rfl ?_
            refine rn_getR (k' := 17) rfl rfl K0_118 (by decide) rfl R0_118_6 ?_
            refine rn_sipush (k' := 18) rfl rfl ?_
            refine rn_iaload (k' := 19) rfl rfl K0_120 (by omega) (by omega) ?_
            show Rn PT none kX12_near 19 [some (mR 118), some (mI (a0)), some (mI (a1)), none, none] [mI (μ 120 517), mR 118] (mkh (m_set μ 118 0 (0)) c s) _
            rw [s4]
            exfalso; omega
          · exfalso; omega
        · refine rn_callP (k' := 11) (y := 167) (vs := [mI (a1), mI (0), mI (99)]) (S' := []) (v := some (mI 0)) (h' := mkh (m_set μ 118 0 (0)) c s) rfl rfl rfl (by have hz : Cl PT 167 [mI (a1), mI (0), mI (99)] (mkh (m_set μ 118 0 (0)) c s) (fun r => r = (some (some (mI (if 0 ≤ a1 ∧ a1 ≤ 99 then 1 else 0))), mkh (m_set μ 118 0 (0)) c s)) := c_X12_isIn (v := a1) (lo := 0) (hi := 99) (μ := (m_set μ 118 0 (0))) (c := c) (s := s); rw [if_neg hq4] at hz; exact hz) ?_
          show Rn PT none kX12_near 11 [some (mR 118), some (mI (a0)), some (mI (a1)), none, none] [mI (0)] (mkh (m_set μ 118 0 (0)) c s) _
          refine rn_if_ne (k' := 12) rfl rfl (fun hc6 => ?_) (fun hc6 => ?_)
          · exfalso; omega
          · skip
            refine rn_iconst (k' := 13) rfl rfl ?_
            refine rn_iret rfl (Or.inl rfl) ?_
            exact ⟨(m_set μ 118 0 (0)), rfl, (rst_set (a := 118) (j := 0) rfl)⟩
    · refine rn_callP (k' := 6) (y := 193) (vs := [mR 118, mI (a0)]) (S' := []) (v := some (mI 0)) (h' := mkh (m_set μ 118 0 (0)) c s) rfl rfl rfl (by have hz : Cl PT 193 [mR 118, mI (a0)] (mkh (m_set μ 118 0 (0)) c s) (fun r => r = (some (some (mI (if 0 ≤ a0 ∧ a0 < μ 6 13 then 1 else 0))), mkh (m_set μ 118 0 (0)) c s)) := c_X12_isHerd ((hL).set rfl) (a := a0) (μ := (m_set μ 118 0 (0))) (c := c) (s := s); rw [if_neg hq2] at hz; exact hz) ?_
      show Rn PT none kX12_near 6 [some (mR 118), some (mI (a0)), some (mI (a1)), none, none] [mI (0)] (mkh (m_set μ 118 0 (0)) c s) _
      refine rn_if_eq (k' := 7) rfl rfl (fun hc7 => ?_) (fun hc7 => ?_)
      · skip
        refine rn_iconst (k' := 13) rfl rfl ?_
        refine rn_iret rfl (Or.inl rfl) ?_
        exact ⟨(m_set μ 118 0 (0)), rfl, (rst_set (a := 118) (j := 0) rfl)⟩
      · exfalso; omega
theorem pair_10 : ∀ (a0 : Int), ∀ (a1 : Int), i32 a0 → i32 a1 → PairI (Inv N) 113 217 [mI a0, mI a1] := by
  intro a0 a1 ha0 ha1
  exact pair_of (fun ν => if (0 ≤ a0 ∧ a0 < ν 6 13) ∧ 0 ≤ a1 ∧ a1 ≤ 99 then fO (fun o : Nat => ¬ (o : Int) = a0 ∧ ¬ g_far ν (ν 15 a0.toNat) (g_st ν (ν 16 a0.toNat)) (g_w ν 0 (ν 14 0)) (ν 15 o).toNat = -1 ∧ g_far ν (ν 15 a0.toNat) (g_st ν (ν 16 a0.toNat)) (g_w ν 0 (ν 14 0)) (ν 15 o).toNat ≤ a1) (ν 6 13).toNat else -1) (fun μ c s hI => t_X11_near hI.land hI.scene ha0 ha1) (fun μ c s hI => t_X12_near hI.land hI.scene ha0 ha1) (fun μ ν h => by
    have e6 := row_rst h (a := 6) (fun _ => rfl)
    have e7 := row_rst h (a := 7) (fun _ => rfl)
    have e8 := row_rst h (a := 8) (fun _ => rfl)
    have e10 := row_rst h (a := 10) (fun _ => rfl)
    have e14 := row_rst h (a := 14) (fun _ => rfl)
    have e15 := row_rst h (a := 15) (fun _ => rfl)
    have e16 := row_rst h (a := 16) (fun _ => rfl)
    simp only [g_cell, g_w, g_st, g_dep, e6, e7, e8, e10, e14, e15, e16, g_steps_rows e6 e7 e8, g_reach_rows e6 e7 e8, g_far_rows e6 e7 e8])
