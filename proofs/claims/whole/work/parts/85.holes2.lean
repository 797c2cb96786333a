variable {N : Int}
/-! ===== printed by wip/whole/gen85.py: pair: holes ===== -/
set_option maxHeartbeats 4000000 in
theorem l_holes {μ : Nat → Nat → Int} {c s : Nat} (hL : I_land μ) (hS : I_scene μ) (hb : ∀ j, 0 ≤ μ 2 j ∧ μ 2 j ≤ 255) {m : Nat} (hm : μ 1 1 = 3 * (m : Int)) (hm1 : 1 ≤ m) (hm4 : m ≤ 40) (hall : ∀ j, j < m → hoc μ j) {ma : Int} : ∀ (d n0 : Nat) (k acc : Int), k = (n0 : Int) → (n0 : Int) + d = μ 6 13 → acc = fO (fun k => aL (fun n => hok μ (g_st μ (μ 16 k)) n) m = 1) n0 → Rn PT none kX11_holes 29 [some (mR 0), some (mI (ma)), some (mI (1)), some (mI (acc)), some (mI (k))] [] (mkh μ c s) (fun r => r = (some (some (mI (fO (fun k => aL (fun n => hok μ (g_st μ (μ 16 k)) n) m = 1) (μ 6 13).toNat))), mkh (m_set μ 1 1 0) c s)) := by
  have hL_ := hL
  obtain ⟨lc, lr, le, lm, lw, lh, lwo, lwd, q0, q1, q2, q3, q4, q8, q499, q500, lth, lG, lT, lW, -⟩ := hL_
  have hS_ := hS
  obtain ⟨sd, sw, stk, s4, s5, s6, hC, hH, -, s10, sce, swc, s13⟩ := hS_
  intro d
  induction d with
  | zero =>
    intro n0 k acc ek hn ea
    subst ek ea
    refine rn_iload_n (k' := 30) rfl rfl rfl ?_
    refine rn_if_eq (k' := 31) rfl rfl (fun hc1 => ?_) (fun hc1 => ?_)
    · exfalso; omega
    · skip
      refine rn_iload (k' := 32) rfl rfl rfl ?_
      refine rn_aload_n (k' := 33) rfl rfl rfl ?_
      refine rn_getR (k' := 34) rfl rfl K0_0 (by decide) rfl R0_0_3 ?_
      refine rn_getI (k' := 35) rfl rfl K0_6 (by decide) rfl ?_
      refine rn_icmp_ge (k' := 36) rfl rfl (fun hc2 => ?_) (fun hc2 => ?_)
      · skip
        refine rn_aload_n (k' := 51) rfl rfl rfl ?_
        refine rn_getR (k' := 52) rfl rfl K0_0 (by decide) rfl R0_0_0 ?_
        refine rn_iconst (k' := 53) rfl rfl ?_
        refine rn_putI (k' := 54) rfl rfl K0_1 (by decide) rfl ?_
        refine rn_iload_n (k' := 55) rfl rfl rfl ?_
        refine rn_if_eq (k' := 56) rfl rfl (fun hc4 => ?_) (fun hc4 => ?_)
        · exfalso; omega
        · skip
          refine rn_iload_n (k' := 57) rfl rfl rfl ?_
          refine rn_goto rfl ?_
          refine rn_iret rfl (Or.inl rfl) ?_
          rw [show (μ 6 13).toNat = n0 by omega]
      · exfalso; omega
  | succ d ih =>
    intro n0 k acc ek hn ea
    subst ek ea
    refine rn_iload_n (k' := 30) rfl rfl rfl ?_
    refine rn_if_eq (k' := 31) rfl rfl (fun hc1 => ?_) (fun hc1 => ?_)
    · exfalso; omega
    · skip
      refine rn_iload (k' := 32) rfl rfl rfl ?_
      refine rn_aload_n (k' := 33) rfl rfl rfl ?_
      refine rn_getR (k' := 34) rfl rfl K0_0 (by decide) rfl R0_0_3 ?_
      refine rn_getI (k' := 35) rfl rfl K0_6 (by decide) rfl ?_
      refine rn_icmp_ge (k' := 36) rfl rfl (fun hc2 => ?_) (fun hc2 => ?_)
      · exfalso; omega
      · skip
        refine rn_aload_n (k' := 37) rfl rfl rfl ?_
        refine rn_aload_n (k' := 38) rfl rfl rfl ?_
        refine rn_iload (k' := 39) rfl rfl rfl ?_
        have hb3 := g_st_b hL (a := μ 16 n0) (hH _).1
        refine rn_callP (k' := 40) (y := 157) (vs := [mR 0, mI ((n0 : Int))]) (S' := [mR 0]) (v := some (mI (g_st μ (μ 16 n0)))) (h' := mkh μ c s) rfl rfl rfl (c_X11_stiltsOf (μ := μ) (hL) hH (by omega)) ?_
        show Rn PT none kX11_holes 40 [some (mR 0), some (mI (ma)), some (mI (1)), some (mI (fO (fun k => aL (fun n => hok μ (g_st μ (μ 16 k)) n) m = 1) n0)), some (mI ((n0 : Int)))] [mI (g_st μ (μ 16 n0)), mR 0] (mkh μ c s) _
        have h01 := aL_01 (p := fun n => hok μ (g_st μ (μ 16 n0)) n) m
        refine rn_callP (k' := 41) (y := 160) (vs := [mR 0, mI (g_st μ (μ 16 n0))]) (S' := []) (v := some (mI (aL (fun n => hok μ (g_st μ (μ 16 n0)) n) m))) (h' := mkh μ c s) rfl rfl rfl (c_X11_leavesHoles hL sd hb hm hm4 hall (t := g_st μ (μ 16 n0)) (by omega)) ?_
        show Rn PT none kX11_holes 41 [some (mR 0), some (mI (ma)), some (mI (1)), some (mI (fO (fun k => aL (fun n => hok μ (g_st μ (μ 16 k)) n) m = 1) n0)), some (mI ((n0 : Int)))] [mI (aL (fun n => hok μ (g_st μ (μ 16 n0)) n) m)] (mkh μ c s) _
        refine rn_if_eq (k' := 42) rfl rfl (fun hc5 => ?_) (fun hc5 => ?_)
        · skip
          refine rn_iinc (k' := 49) (L' := [some (mR 0), some (mI (ma)), some (mI (1)), some (mI (fO (fun k => aL (fun n => hok μ (g_st μ (μ 16 k)) n) m = 1) n0)), some (mI ((n0 : Int) + 1))]) rfl rfl rfl (by omega) rfl ?_
          refine rn_goto rfl ?_
          exact ih (n0 + 1) _ _ (by omega) (by omega) (by first | exact (fO_pos (p := (fun k => aL (fun n => hok μ (g_st μ (μ 16 k)) n) m = 1)) (by omega)).symm | exact (fO_neg (p := (fun k => aL (fun n => hok μ (g_st μ (μ 16 k)) n) m = 1)) (by omega)).symm)
        · skip
          refine rn_iload_n (k' := 43) rfl rfl rfl ?_
          refine rn_iconst (k' := 44) rfl rfl ?_
          refine rn_iload (k' := 45) rfl rfl rfl ?_
          refine rn_ishl (k' := 46) rfl rfl ?_
          refine rn_ior (k' := 47) rfl rfl ?_
          refine rn_istore_n (k' := 48) (L' := [some (mR 0), some (mI (ma)), some (mI (1)), some (mI (m_or (fO (fun k => aL (fun n => hok μ (g_st μ (μ 16 k)) n) m = 1) n0) (m_shl (1) ((n0 : Int))))), some (mI ((n0 : Int)))]) rfl rfl (Nat.le_of_ble_eq_true rfl) rfl ?_
          refine rn_iinc (k' := 49) (L' := [some (mR 0), some (mI (ma)), some (mI (1)), some (mI (m_or (fO (fun k => aL (fun n => hok μ (g_st μ (μ 16 k)) n) m = 1) n0) (m_shl (1) ((n0 : Int))))), some (mI ((n0 : Int) + 1))]) rfl rfl rfl (by omega) rfl ?_
          refine rn_goto rfl ?_
          exact ih (n0 + 1) _ _ (by omega) (by omega) (by first | exact (fO_pos (p := (fun k => aL (fun n => hok μ (g_st μ (μ 16 k)) n) m = 1)) (by omega)).symm | exact (fO_neg (p := (fun k => aL (fun n => hok μ (g_st μ (μ 16 k)) n) m = 1)) (by omega)).symm)
set_option maxHeartbeats 4000000 in
theorem x_X11_holes {μ : Nat → Nat → Int} {c s : Nat} (hL : I_land μ) (hS : I_scene μ) (hb : ∀ j, 0 ≤ μ 2 j ∧ μ 2 j ≤ 255) {m : Nat} (hm : μ 1 1 = 3 * (m : Int)) (hm1 : 1 ≤ m) (hm4 : m ≤ 40) (hl : 0 ≤ μ 1 1 ∧ μ 1 1 ≤ 940) (ha : aL (fun n => hoc μ n) m = 1) : Cl PT 136 [mR 0] (mkh μ c s) (fun r => r = (some (some (mI (fO (fun k => aL (fun n => hok μ (g_st μ (μ 16 k)) n) m = 1) (μ 6 13).toNat))), mkh (m_set μ 1 1 0) c s)) := by
  have hL_ := hL
  obtain ⟨lc, lr, le, lm, lw, lh, lwo, lwd, q0, q1, q2, q3, q4, q8, q499, q500, lth, lG, lT, lW, -⟩ := hL_
  have hS_ := hS
  obtain ⟨sd, sw, stk, s4, s5, s6, hC, hH, -, s10, sce, swc, s13⟩ := hS_
  have t3 : (μ 1 1).tdiv 3 = μ 1 1 / 3 := Int.tdiv_eq_ediv_of_nonneg hl.1
  have r3 : (μ 1 1).tmod 3 = μ 1 1 % 3 := Int.tmod_eq_emod_of_nonneg hl.1
  have hall := (aL_iff (p := fun n => hoc μ n) m).mp ha
  refine ⟨_, PT_136, Nat.le_of_ble_eq_true rfl, ?_⟩
  show Rn PT none kX11_holes 0 [some (mR 0), none, none, none, none] [] (mkh μ c s) _
  refine rn_aload_n (k' := 1) rfl rfl rfl ?_
  refine rn_getR (k' := 2) rfl rfl K0_0 (by decide) rfl R0_0_0 ?_
  refine rn_getI (k' := 3) rfl rfl K0_1 (by decide) rfl ?_
  refine rn_iconst (k' := 4) rfl rfl ?_
  refine rn_idiv (k' := 5) rfl rfl (by decide) (by omega) ?_
  refine rn_istore_n (k' := 6) (L' := [some (mR 0), some (mI ((μ 1 1).tdiv (3))), none, none, none]) rfl rfl (Nat.le_of_ble_eq_true rfl) rfl ?_
  refine rn_aload_n (k' := 7) rfl rfl rfl ?_
  refine rn_getR (k' := 8) rfl rfl K0_0 (by decide) rfl R0_0_0 ?_
  refine rn_getI (k' := 9) rfl rfl K0_1 (by decide) rfl ?_
  refine rn_iconst (k' := 10) rfl rfl ?_
  refine rn_irem (k' := 11) rfl rfl (by decide) ?_
  refine rn_if_ne (k' := 12) rfl rfl (fun hc1 => ?_) (fun hc1 => ?_)
  · exfalso; omega
  · skip
    refine rn_iload_n (k' := 13) rfl rfl rfl ?_
    refine rn_iconst (k' := 14) rfl rfl ?_
    refine rn_icmp_lt (k' := 15) rfl rfl (fun hc2 => ?_) (fun hc2 => ?_)
    · exfalso; omega
    · skip
      refine rn_iload_n (k' := 16) rfl rfl rfl ?_
      refine rn_bipush (k' := 17) rfl rfl ?_
      refine rn_icmp_gt (k' := 18) rfl rfl (fun hc3 => ?_) (fun hc3 => ?_)
      · exfalso; omega
      · skip
        refine rn_aload_n (k' := 19) rfl rfl rfl ?_
        refine rn_callP (k' := 20) (y := 159) (vs := [mR 0]) (S' := []) (v := some (mI (aL (fun n => hoc μ n) m))) (h' := mkh μ c s) rfl rfl rfl (c_X11_holesAreOnCells hb hm hm4) ?_
        show Rn PT none kX11_holes 20 [some (mR 0), some (mI ((μ 1 1).tdiv (3))), none, none, none] [mI (aL (fun n => hoc μ n) m)] (mkh μ c s) _
        refine rn_if_eq (k' := 21) rfl rfl (fun hc4 => ?_) (fun hc4 => ?_)
        · exfalso; omega
        · skip
          refine rn_iconst (k' := 22) rfl rfl ?_
          refine rn_goto rfl ?_
          refine rn_istore_n (k' := 25) (L' := [some (mR 0), some (mI ((μ 1 1).tdiv (3))), some (mI (1)), none, none]) rfl rfl (Nat.le_of_ble_eq_true rfl) rfl ?_
          refine rn_iconst (k' := 26) rfl rfl ?_
          refine rn_istore_n (k' := 27) (L' := [some (mR 0), some (mI ((μ 1 1).tdiv (3))), some (mI (1)), some (mI (0)), none]) rfl rfl (Nat.le_of_ble_eq_true rfl) rfl ?_
          refine rn_iconst (k' := 28) rfl rfl ?_
          refine rn_istore (k' := 29) (L' := [some (mR 0), some (mI ((μ 1 1).tdiv (3))), some (mI (1)), some (mI (0)), some (mI (0))]) rfl rfl (Nat.le_of_ble_eq_true rfl) rfl ?_
          exact l_holes hL hS hb hm hm1 hm4 hall (μ 6 13).toNat 0 _ _ rfl (by omega) rfl
set_option maxHeartbeats 4000000 in
theorem n_X11_holes {μ : Nat → Nat → Int} {c s : Nat} (hL : I_land μ) (hS : I_scene μ) (hb : ∀ j, 0 ≤ μ 2 j ∧ μ 2 j ≤ 255) {m : Nat} (hm : μ 1 1 = 3 * (m : Int)) (hm1 : 1 ≤ m) (hm4 : m ≤ 40) (hl : 0 ≤ μ 1 1 ∧ μ 1 1 ≤ 940) (ha : aL (fun n => hoc μ n) m = 0) : Cl PT 136 [mR 0] (mkh μ c s) (fun r => r = (some (some (mI (-1))), mkh (m_set μ 1 1 0) c s)) := by
  have hL_ := hL
  obtain ⟨lc, lr, le, lm, lw, lh, lwo, lwd, q0, q1, q2, q3, q4, q8, q499, q500, lth, lG, lT, lW, -⟩ := hL_
  have hS_ := hS
  obtain ⟨sd, sw, stk, s4, s5, s6, hC, hH, -, s10, sce, swc, s13⟩ := hS_
  have t3 : (μ 1 1).tdiv 3 = μ 1 1 / 3 := Int.tdiv_eq_ediv_of_nonneg hl.1
  have r3 : (μ 1 1).tmod 3 = μ 1 1 % 3 := Int.tmod_eq_emod_of_nonneg hl.1
  refine ⟨_, PT_136, Nat.le_of_ble_eq_true rfl, ?_⟩
  show Rn PT none kX11_holes 0 [some (mR 0), none, none, none, none] [] (mkh μ c s) _
  refine rn_aload_n (k' := 1) rfl rfl rfl ?_
  refine rn_getR (k' := 2) rfl rfl K0_0 (by decide) rfl R0_0_0 ?_
  refine rn_getI (k' := 3) rfl rfl K0_1 (by decide) rfl ?_
  refine rn_iconst (k' := 4) rfl rfl ?_
  refine rn_idiv (k' := 5) rfl rfl (by decide) (by omega) ?_
  refine rn_istore_n (k' := 6) (L' := [some (mR 0), some (mI ((μ 1 1).tdiv (3))), none, none, none]) rfl rfl (Nat.le_of_ble_eq_true rfl) rfl ?_
  refine rn_aload_n (k' := 7) rfl rfl rfl ?_
  refine rn_getR (k' := 8) rfl rfl K0_0 (by decide) rfl R0_0_0 ?_
  refine rn_getI (k' := 9) rfl rfl K0_1 (by decide) rfl ?_
  refine rn_iconst (k' := 10) rfl rfl ?_
  refine rn_irem (k' := 11) rfl rfl (by decide) ?_
  refine rn_if_ne (k' := 12) rfl rfl (fun hc1 => ?_) (fun hc1 => ?_)
  · exfalso; omega
  · skip
    refine rn_iload_n (k' := 13) rfl rfl rfl ?_
    refine rn_iconst (k' := 14) rfl rfl ?_
    refine rn_icmp_lt (k' := 15) rfl rfl (fun hc2 => ?_) (fun hc2 => ?_)
    · exfalso; omega
    · skip
      refine rn_iload_n (k' := 16) rfl rfl rfl ?_
      refine rn_bipush (k' := 17) rfl rfl ?_
      refine rn_icmp_gt (k' := 18) rfl rfl (fun hc3 => ?_) (fun hc3 => ?_)
      · exfalso; omega
      · skip
        refine rn_aload_n (k' := 19) rfl rfl rfl ?_
        refine rn_callP (k' := 20) (y := 159) (vs := [mR 0]) (S' := []) (v := some (mI (aL (fun n => hoc μ n) m))) (h' := mkh μ c s) rfl rfl rfl (c_X11_holesAreOnCells hb hm hm4) ?_
        show Rn PT none kX11_holes 20 [some (mR 0), some (mI ((μ 1 1).tdiv (3))), none, none, none] [mI (aL (fun n => hoc μ n) m)] (mkh μ c s) _
        refine rn_if_eq (k' := 21) rfl rfl (fun hc4 => ?_) (fun hc4 => ?_)
        · skip
          refine rn_iconst (k' := 24) rfl rfl ?_
          refine rn_istore_n (k' := 25) (L' := [some (mR 0), some (mI ((μ 1 1).tdiv (3))), some (mI (0)), none, none]) rfl rfl (Nat.le_of_ble_eq_true rfl) rfl ?_
          refine rn_iconst (k' := 26) rfl rfl ?_
          refine rn_istore_n (k' := 27) (L' := [some (mR 0), some (mI ((μ 1 1).tdiv (3))), some (mI (0)), some (mI (0)), none]) rfl rfl (Nat.le_of_ble_eq_true rfl) rfl ?_
          refine rn_iconst (k' := 28) rfl rfl ?_
          refine rn_istore (k' := 29) (L' := [some (mR 0), some (mI ((μ 1 1).tdiv (3))), some (mI (0)), some (mI (0)), some (mI (0))]) rfl rfl (Nat.le_of_ble_eq_true rfl) rfl ?_
          refine rn_iload_n (k' := 30) rfl rfl rfl ?_
          refine rn_if_eq (k' := 31) rfl rfl (fun hc5 => ?_) (fun hc5 => ?_)
          · skip
            refine rn_aload_n (k' := 51) rfl rfl rfl ?_
            refine rn_getR (k' := 52) rfl rfl K0_0 (by decide) rfl R0_0_0 ?_
            refine rn_iconst (k' := 53) rfl rfl ?_
            refine rn_putI (k' := 54) rfl rfl K0_1 (by decide) rfl ?_
            refine rn_iload_n (k' := 55) rfl rfl rfl ?_
            refine rn_if_eq (k' := 56) rfl rfl (fun hc7 => ?_) (fun hc7 => ?_)
            · skip
              refine rn_iconst (k' := 59) rfl rfl ?_
              refine rn_iret rfl (Or.inl rfl) ?_
              rfl
            · exfalso; omega
          · exfalso; omega
        · exfalso; omega
set_option maxHeartbeats 4000000 in
theorem i_X11_holes {μ : Nat → Nat → Int} {c s : Nat} (hl : 0 ≤ μ 1 1 ∧ μ 1 1 ≤ 940) (hv : ¬ (μ 1 1 % 3 = 0 ∧ 3 ≤ μ 1 1 ∧ μ 1 1 ≤ 120)) : Cl PT 136 [mR 0] (mkh μ c s) (fun r => r = (some (some (mI (-1))), mkh (m_set μ 1 1 0) c s)) := by
  have t3 : (μ 1 1).tdiv 3 = μ 1 1 / 3 := Int.tdiv_eq_ediv_of_nonneg hl.1
  have r3 : (μ 1 1).tmod 3 = μ 1 1 % 3 := Int.tmod_eq_emod_of_nonneg hl.1
  refine ⟨_, PT_136, Nat.le_of_ble_eq_true rfl, ?_⟩
  show Rn PT none kX11_holes 0 [some (mR 0), none, none, none, none] [] (mkh μ c s) _
  refine rn_aload_n (k' := 1) rfl rfl rfl ?_
  refine rn_getR (k' := 2) rfl rfl K0_0 (by decide) rfl R0_0_0 ?_
  refine rn_getI (k' := 3) rfl rfl K0_1 (by decide) rfl ?_
  refine rn_iconst (k' := 4) rfl rfl ?_
  refine rn_idiv (k' := 5) rfl rfl (by decide) (by omega) ?_
  refine rn_istore_n (k' := 6) (L' := [some (mR 0), some (mI ((μ 1 1).tdiv (3))), none, none, none]) rfl rfl (Nat.le_of_ble_eq_true rfl) rfl ?_
  refine rn_aload_n (k' := 7) rfl rfl rfl ?_
  refine rn_getR (k' := 8) rfl rfl K0_0 (by decide) rfl R0_0_0 ?_
  refine rn_getI (k' := 9) rfl rfl K0_1 (by decide) rfl ?_
  refine rn_iconst (k' := 10) rfl rfl ?_
  refine rn_irem (k' := 11) rfl rfl (by decide) ?_
  refine rn_if_ne (k' := 12) rfl rfl (fun hc1 => ?_) (fun hc1 => ?_)
  · skip
    refine rn_iconst (k' := 24) rfl rfl ?_
    refine rn_istore_n (k' := 25) (L' := [some (mR 0), some (mI ((μ 1 1).tdiv (3))), some (mI (0)), none, none]) rfl rfl (Nat.le_of_ble_eq_true rfl) rfl ?_
    refine rn_iconst (k' := 26) rfl rfl ?_
    refine rn_istore_n (k' := 27) (L' := [some (mR 0), some (mI ((μ 1 1).tdiv (3))), some (mI (0)), some (mI (0)), none]) rfl rfl (Nat.le_of_ble_eq_true rfl) rfl ?_
    refine rn_iconst (k' := 28) rfl rfl ?_
    refine rn_istore (k' := 29) (L' := [some (mR 0), some (mI ((μ 1 1).tdiv (3))), some (mI (0)), some (mI (0)), some (mI (0))]) rfl rfl (Nat.le_of_ble_eq_true rfl) rfl ?_
    refine rn_iload_n (k' := 30) rfl rfl rfl ?_
    refine rn_if_eq (k' := 31) rfl rfl (fun hc2 => ?_) (fun hc2 => ?_)
    · skip
      refine rn_aload_n (k' := 51) rfl rfl rfl ?_
      refine rn_getR (k' := 52) rfl rfl K0_0 (by decide) rfl R0_0_0 ?_
      refine rn_iconst (k' := 53) rfl rfl ?_
      refine rn_putI (k' := 54) rfl rfl K0_1 (by decide) rfl ?_
      refine rn_iload_n (k' := 55) rfl rfl rfl ?_
      refine rn_if_eq (k' := 56) rfl rfl (fun hc4 => ?_) (fun hc4 => ?_)
      · skip
        refine rn_iconst (k' := 59) rfl rfl ?_
        refine rn_iret rfl (Or.inl rfl) ?_
        rfl
      · exfalso; omega
    · exfalso; omega
  · skip
    refine rn_iload_n (k' := 13) rfl rfl rfl ?_
    refine rn_iconst (k' := 14) rfl rfl ?_
    refine rn_icmp_lt (k' := 15) rfl rfl (fun hc5 => ?_) (fun hc5 => ?_)
    · skip
      refine rn_iconst (k' := 24) rfl rfl ?_
      refine rn_istore_n (k' := 25) (L' := [some (mR 0), some (mI ((μ 1 1).tdiv (3))), some (mI (0)), none, none]) rfl rfl (Nat.le_of_ble_eq_true rfl) rfl ?_
      refine rn_iconst (k' := 26) rfl rfl ?_
      refine rn_istore_n (k' := 27) (L' := [some (mR 0), some (mI ((μ 1 1).tdiv (3))), some (mI (0)), some (mI (0)), none]) rfl rfl (Nat.le_of_ble_eq_true rfl) rfl ?_
      refine rn_iconst (k' := 28) rfl rfl ?_
      refine rn_istore (k' := 29) (L' := [some (mR 0), some (mI ((μ 1 1).tdiv (3))), some (mI (0)), some (mI (0)), some (mI (0))]) rfl rfl (Nat.le_of_ble_eq_true rfl) rfl ?_
      refine rn_iload_n (k' := 30) rfl rfl rfl ?_
      refine rn_if_eq (k' := 31) rfl rfl (fun hc6 => ?_) (fun hc6 => ?_)
      · skip
        refine rn_aload_n (k' := 51) rfl rfl rfl ?_
        refine rn_getR (k' := 52) rfl rfl K0_0 (by decide) rfl R0_0_0 ?_
        refine rn_iconst (k' := 53) rfl rfl ?_
        refine rn_putI (k' := 54) rfl rfl K0_1 (by decide) rfl ?_
        refine rn_iload_n (k' := 55) rfl rfl rfl ?_
        refine rn_if_eq (k' := 56) rfl rfl (fun hc8 => ?_) (fun hc8 => ?_)
        · skip
          refine rn_iconst (k' := 59) rfl rfl ?_
          refine rn_iret rfl (Or.inl rfl) ?_
          rfl
        · exfalso; omega
      · exfalso; omega
    · skip
      refine rn_iload_n (k' := 16) rfl rfl rfl ?_
      refine rn_bipush (k' := 17) rfl rfl ?_
      refine rn_icmp_gt (k' := 18) rfl rfl (fun hc9 => ?_) (fun hc9 => ?_)
      · skip
        refine rn_iconst (k' := 24) rfl rfl ?_
        refine rn_istore_n (k' := 25) (L' := [some (mR 0), some (mI ((μ 1 1).tdiv (3))), some (mI (0)), none, none]) rfl rfl (Nat.le_of_ble_eq_true rfl) rfl ?_
        refine rn_iconst (k' := 26) rfl rfl ?_
        refine rn_istore_n (k' := 27) (L' := [some (mR 0), some (mI ((μ 1 1).tdiv (3))), some (mI (0)), some (mI (0)), none]) rfl rfl (Nat.le_of_ble_eq_true rfl) rfl ?_
        refine rn_iconst (k' := 28) rfl rfl ?_
        refine rn_istore (k' := 29) (L' := [some (mR 0), some (mI ((μ 1 1).tdiv (3))), some (mI (0)), some (mI (0)), some (mI (0))]) rfl rfl (Nat.le_of_ble_eq_true rfl) rfl ?_
        refine rn_iload_n (k' := 30) rfl rfl rfl ?_
        refine rn_if_eq (k' := 31) rfl rfl (fun hc10 => ?_) (fun hc10 => ?_)
        · skip
          refine rn_aload_n (k' := 51) rfl rfl rfl ?_
          refine rn_getR (k' := 52) rfl rfl K0_0 (by decide) rfl R0_0_0 ?_
          refine rn_iconst (k' := 53) rfl rfl ?_
          refine rn_putI (k' := 54) rfl rfl K0_1 (by decide) rfl ?_
          refine rn_iload_n (k' := 55) rfl rfl rfl ?_
          refine rn_if_eq (k' := 56) rfl rfl (fun hc12 => ?_) (fun hc12 => ?_)
          · skip
            refine rn_iconst (k' := 59) rfl rfl ?_
            refine rn_iret rfl (Or.inl rfl) ?_
            rfl
          · exfalso; omega
        · exfalso; omega
      · skip
        refine rn_aload_n (k' := 19) rfl rfl rfl ?_
        exfalso; omega
set_option maxHeartbeats 2000000 in
theorem c_X12_taken {μ : Nat → Nat → Int} {c s : Nat} {v : Int} : Cl PT 166 [mR 118, mI v] (mkh μ c s) (fun r => r = (some none, mkh (m_set (m_set (m_set (m_set μ 118 3 (μ 118 2)) 118 2 0) 118 4 0) 118 5 v) c s)) := by
  refine ⟨_, PT_166, Nat.le_of_ble_eq_true rfl, ?_⟩
  show Rn PT none kX12_taken 0 [some (mR 118), some (mI (v))] [] (mkh μ c s) _
  refine rn_aload_n (k' := 1) rfl rfl rfl ?_
  refine rn_aload_n (k' := 2) rfl rfl rfl ?_
  refine rn_getI (k' := 3) rfl rfl K0_118 (by decide) rfl ?_
  refine rn_putI (k' := 4) rfl rfl K0_118 (by decide) rfl ?_
  refine rn_aload_n (k' := 5) rfl rfl rfl ?_
  refine rn_iconst (k' := 6) rfl rfl ?_
  refine rn_putI (k' := 7) rfl rfl K0_118 (by decide) rfl ?_
  refine rn_aload_n (k' := 8) rfl rfl rfl ?_
  refine rn_iconst (k' := 9) rfl rfl ?_
  refine rn_putI (k' := 10) rfl rfl K0_118 (by decide) rfl ?_
  refine rn_aload_n (k' := 11) rfl rfl rfl ?_
  refine rn_iload_n (k' := 12) rfl rfl rfl ?_
  refine rn_putI (k' := 13) rfl rfl K0_118 (by decide) rfl ?_
  refine rn_vret rfl ?_
  first | rfl | (refine congrArg (fun z => ((some (some (mI z)) : Option (Option MV)), mkh (m_set (m_set (m_set (m_set μ 118 3 (μ 118 2)) 118 2 (0)) 118 4 (0)) 118 5 (v)) c s)) ?_; first | rfl | omega | (symm; first | (rw [if_pos (by omega)]; first | done | rfl | omega) | (rw [if_neg (by omega)]; first | done | rfl | omega)) | (symm; unfold g_tim; first | (rw [if_pos (by omega)]; first | done | rfl | omega) | (rw [if_neg (by omega)]; first | done | rfl | omega)) | (symm; unfold g_st; first | (rw [if_pos (by omega)]; first | done | rfl | omega) | (rw [if_neg (by omega)]; first | done | rfl | omega)) | (symm; unfold g_dep; first | (rw [if_pos (by omega)]; first | done | rfl | omega) | (rw [if_neg (by omega)]; first | done | rfl | omega)) | (symm; unfold g_nb; first | (rw [if_pos (by omega)]; first | done | rfl | omega) | (rw [if_neg (by omega)]; first | done | rfl | omega)) | ((try unfold g_st); (try unfold g_dep); (try unfold g_nb); (repeat' split) <;> omega) | (symm; (repeat (first | rw [if_pos (by omega)] | rw [if_neg (by omega)])); first | done | rfl | omega))
set_option maxHeartbeats 2000000 in
theorem c_X12_octet {μ : Nat → Nat → Int} {c s : Nat} (ht : ∀ j, μ 2 j = μ 119 j % 256) {i : Int} (hi : 0 ≤ i ∧ i < 940) : Cl PT 170 [mR 118, mI i] (mkh μ c s) (fun r => r = (some (some (mI (μ 2 i.toNat))), mkh (μ) c s)) := by
  refine ⟨_, PT_170, Nat.le_of_ble_eq_true rfl, ?_⟩
  show Rn PT none kX12_octet 0 [some (mR 118), some (mI (i))] [] (mkh μ c s) _
  refine rn_aload_n (k' := 1) rfl rfl rfl ?_
  refine rn_getR (k' := 2) rfl rfl K0_118 (by decide) rfl R0_118_1 ?_
  refine rn_iload_n (k' := 3) rfl rfl rfl ?_
  refine rn_baload (k' := 4) rfl rfl K0_119 (by omega) (by omega) ?_
  refine rn_sipush (k' := 5) rfl rfl ?_
  refine rn_iand (k' := 6) rfl rfl ?_
  refine rn_iret rfl (Or.inl rfl) ?_
  rw [ht, ← and255]
set_option maxHeartbeats 8000000 in
theorem l_holesM_in {μ : Nat → Nat → Int} {c s : Nat} (hL : I_land μ) (hS : I_scene μ) (hb : ∀ j, 0 ≤ μ 2 j ∧ μ 2 j ≤ 255) (hto : ∀ j, μ 2 j = μ 119 j % 256) {m : Nat} (hm : μ 118 2 = 3 * (m : Int)) (hm4 : m ≤ 40) {n : Nat} (hn : n < m) (hgc : g_cell μ (hat μ n)) {md : Int} (hmd : md = (if μ 8 (100 + hat μ n).toNat = -1 then 0 else (μ 8 (100 + hat μ n).toNat).tdiv 2)) {Q : MR → Prop} (K : ∀ st v, (i32 st ∧ (∀ i, i < 32 → (μ 6 13).toNat ≤ i → bI st i = false) ∧ ∀ j, j < (μ 6 13).toNat → bI st j = decide (aL (fun n => hok μ (g_st μ (μ 16 j)) n) (if j < (μ 6 13).toNat then n + 1 else n) = 1)) → Rn PT none kX12_holes 134 [some (mR 118), some (mI st), some (mI (3 * (n : Int))), some (mI (hat μ n)), some (mI md), v] [] (mkh (m_set (m_set (m_set (m_set (m_set (m_set (m_set μ 118 0 (0)) 118 3 (μ 118 2)) 118 2 (0)) 118 4 (0)) 118 5 (940)) 118 22 (g_w μ 0 (μ 14 0))) 118 23 (g_w μ 1 (μ 14 0))) c s) Q) : ∀ (d k0 : Nat) (k st : Int), k = (k0 : Int) → (k0 : Int) + d = μ 6 13 → (i32 st ∧ (∀ i, i < 32 → (μ 6 13).toNat ≤ i → bI st i = false) ∧ ∀ j, j < (μ 6 13).toNat → bI st j = decide (aL (fun n => hok μ (g_st μ (μ 16 j)) n) (if j < k0 then n + 1 else n) = 1)) → Rn PT none kX12_holes 96 [some (mR 118), some (mI (st)), some (mI (3 * (n : Int))), some (mI (hat μ n)), some (mI (md)), some (mI (k))] [] (mkh (m_set (m_set (m_set (m_set (m_set (m_set (m_set μ 118 0 (0)) 118 3 (μ 118 2)) 118 2 (0)) 118 4 (0)) 118 5 (940)) 118 22 (g_w μ 0 (μ 14 0))) 118 23 (g_w μ 1 (μ 14 0))) c s) Q := by
    have hL_ := hL
    obtain ⟨lc, lr, le, lm, lw, lh, lwo, lwd, q0, q1, q2, q3, q4, q8, q499, q500, lth, lG, lT, lW, -⟩ := hL_
    have hS_ := hS
    obtain ⟨sd, sw, stk, s4, s5, s6, hC, hH, -, s10, sce, swc, s13⟩ := hS_
    have x0 : (3 * (n : Int)).toNat = 3 * n := by omega
    have x1 : ((3 * (n : Int)) + 1).toNat = 3 * n + 1 := by omega
    have x2 : ((3 * (n : Int)) + 2).toNat = 3 * n + 2 := by omega
    have y0 : μ 2 (3 * (n : Int)).toNat = μ 2 (3 * n) := by rw [x0]
    have y1 : μ 2 ((3 * (n : Int)) + 1).toNat = μ 2 (3 * n + 1) := by rw [x1]
    have y2 : μ 2 ((3 * (n : Int)) + 2).toNat = μ 2 (3 * n + 2) := by rw [x2]
    have z0 := hb (3 * n)
    have z1 := hb (3 * n + 1)
    have z2 := hb (3 * n + 2)
    have hgb := g_cell_b hL hgc
    have hwb := g_w_b hL 0 (μ 14 0)
    have hmm := td_b2 (lT (100 + hat μ n).toNat)
    have hmdb : -1 ≤ md ∧ md ≤ 99 := by
      rw [hmd]
      split <;> omega
    intro d
    induction d with
    | zero =>
      intro k0 k st ek hk hB
      subst ek
      have hnn : (μ 6 13).toNat = k0 := by omega
      rw [hnn] at K
      rw [hnn] at hB
      refine rn_iload (k' := 97) rfl rfl rfl ?_
      refine rn_aload_n (k' := 98) rfl rfl rfl ?_
      refine rn_getR (k' := 99) rfl rfl K0_118 (by decide) rfl R0_118_6 ?_
      refine rn_bipush (k' := 100) rfl rfl ?_
      refine rn_iaload (k' := 101) rfl rfl K0_120 (by omega) (by omega) ?_
      show Rn PT none kX12_holes 101 [some (mR 118), some (mI (st)), some (mI (3 * (n : Int))), some (mI (hat μ n)), some (mI (md)), some (mI ((k0 : Int)))] [mI (μ 120 8), mI ((k0 : Int))] (mkh (m_set (m_set (m_set (m_set (m_set (m_set (m_set μ 118 0 (0)) 118 3 (μ 118 2)) 118 2 (0)) 118 4 (0)) 118 5 (940)) 118 22 (g_w μ 0 (μ 14 0))) 118 23 (g_w μ 1 (μ 14 0))) c s) _
      rw [q8]
      refine rn_icmp_ge (k' := 102) rfl rfl (fun hc1 => ?_) (fun hc1 => ?_)
      · skip
        exact K _ _ hB
      · exfalso; omega
    | succ d ih =>
      intro k0 k st ek hk hB
      subst ek
      obtain ⟨b1, b2, b3⟩ := hB
      have hsb := g_st_b hL (a := μ 16 k0) (hH k0).1
      have ht5 := td_b (a := g_st μ (μ 16 k0)) (b := 5) (by omega) (by decide)
      have eh : hol μ (hat μ n) (g_st μ (μ 16 k0)) = (g_st μ (μ 16 k0)).tdiv 5 + 3 + md := by rw [hmd]
      have bk := b3 k0 (by omega)
      rw [if_neg (by omega)] at bk
      have key1 : hok μ (g_st μ (μ 16 k0)) n → aL (fun n => hok μ (g_st μ (μ 16 k0)) n) (n + 1) = aL (fun n => hok μ (g_st μ (μ 16 k0)) n) n := fun z => by
        show (if aL (fun n => hok μ (g_st μ (μ 16 k0)) n) n = 1 ∧ hok μ (g_st μ (μ 16 k0)) n then (1 : Int) else 0) = _
        rcases aL_01 (p := fun n => hok μ (g_st μ (μ 16 k0)) n) n with y | y
        · rw [y, if_neg (by omega)]
        · rw [y, if_pos ⟨rfl, z⟩]
      have key0 : ¬ hok μ (g_st μ (μ 16 k0)) n → aL (fun n => hok μ (g_st μ (μ 16 k0)) n) (n + 1) = 0 := fun z => aL_no (p := fun n => hok μ (g_st μ (μ 16 k0)) n) z (by omega)
      have hyes : hok μ (g_st μ (μ 16 k0)) n → (i32 st ∧ (∀ i, i < 32 → (μ 6 13).toNat ≤ i → bI st i = false) ∧ ∀ j, j < (μ 6 13).toNat → bI st j = decide (aL (fun n => hok μ (g_st μ (μ 16 j)) n) (if j < (k0 + 1) then n + 1 else n) = 1)) := fun z => by
        refine ⟨b1, b2, fun j hj => ?_⟩
        by_cases e : j = k0
        · subst e
          rw [if_pos (by omega), key1 z, bk]
        · rw [b3 j hj]
          by_cases e2 : j < k0
          · rw [if_pos e2, if_pos (by omega)]
          · rw [if_neg e2, if_neg (by omega)]
      have hno : ¬ hok μ (g_st μ (μ 16 k0)) n → (i32 (m_and (st) (m_xor (m_shl (1) ((k0 : Int))) (-1))) ∧ (∀ i, i < 32 → (μ 6 13).toNat ≤ i → bI (m_and (st) (m_xor (m_shl (1) ((k0 : Int))) (-1))) i = false) ∧ ∀ j, j < (μ 6 13).toNat → bI (m_and (st) (m_xor (m_shl (1) ((k0 : Int))) (-1))) j = decide (aL (fun n => hok μ (g_st μ (μ 16 j)) n) (if j < (k0 + 1) then n + 1 else n) = 1)) := fun z => by
        refine ⟨r_and _ _, fun i hi h2 => ?_, fun j hj => ?_⟩
        · rw [bI_and, b2 i hi h2, Bool.false_and]
        · rw [bI_and, bI_xor, bI_m1 j (by omega), bI_shl1 (by omega) (by omega)]
          by_cases e : j = k0
          · subst e
            rw [if_pos (by omega), key0 z, decide_eq_true (show j = j from rfl)]
            cases bI st j <;> rfl
          · rw [b3 j hj, decide_eq_false e]
            by_cases e2 : j < k0
            · rw [if_pos e2, if_pos (by omega)]; simp
            · rw [if_neg e2, if_neg (by omega)]; simp
      refine rn_iload (k' := 97) rfl rfl rfl ?_
      refine rn_aload_n (k' := 98) rfl rfl rfl ?_
      refine rn_getR (k' := 99) rfl rfl K0_118 (by decide) rfl R0_118_6 ?_
      refine rn_bipush (k' := 100) rfl rfl ?_
      refine rn_iaload (k' := 101) rfl rfl K0_120 (by omega) (by omega) ?_
      show Rn PT none kX12_holes 101 [some (mR 118), some (mI (st)), some (mI (3 * (n : Int))), some (mI (hat μ n)), some (mI (md)), some (mI ((k0 : Int)))] [mI (μ 120 8), mI ((k0 : Int))] (mkh (m_set (m_set (m_set (m_set (m_set (m_set (m_set μ 118 0 (0)) 118 3 (μ 118 2)) 118 2 (0)) 118 4 (0)) 118 5 (940)) 118 22 (g_w μ 0 (μ 14 0))) 118 23 (g_w μ 1 (μ 14 0))) c s) _
      rw [q8]
      refine rn_icmp_ge (k' := 102) rfl rfl (fun hc1 => ?_) (fun hc1 => ?_)
      · exfalso; omega
      · skip
        refine rn_aload_n (k' := 103) rfl rfl rfl ?_
        refine rn_iload_n (k' := 104) rfl rfl rfl ?_
        refine rn_aload_n (k' := 105) rfl rfl rfl ?_
        refine rn_iload (k' := 106) rfl rfl rfl ?_
        have hb2 := g_st_b hL (a := μ 16 k0) (hH _).1
        refine rn_callP (k' := 107) (y := 198) (vs := [mR 118, mI ((k0 : Int))]) (S' := [mI (hat μ n), mR 118]) (v := some (mI (g_st μ (μ 16 k0)))) (h' := mkh (m_set (m_set (m_set (m_set (m_set (m_set (m_set μ 118 0 (0)) 118 3 (μ 118 2)) 118 2 (0)) 118 4 (0)) 118 5 (940)) 118 22 (g_w μ 0 (μ 14 0))) 118 23 (g_w μ 1 (μ 14 0))) c s) rfl rfl rfl (c_X12_stiltsOf (μ := (m_set (m_set (m_set (m_set (m_set (m_set (m_set μ 118 0 (0)) 118 3 (μ 118 2)) 118 2 (0)) 118 4 (0)) 118 5 (940)) 118 22 (g_w μ 0 (μ 14 0))) 118 23 (g_w μ 1 (μ 14 0)))) ((((((((hL).set rfl).set rfl).set rfl).set rfl).set rfl).set rfl).set rfl) ((((((((hS).set rfl).set rfl).set rfl).set rfl).set rfl).set rfl).set rfl) (by show 0 ≤ ((k0 : Int) : Int) ∧ ((k0 : Int) : Int) < μ 6 13; omega)) ?_
        show Rn PT none kX12_holes 107 [some (mR 118), some (mI (st)), some (mI (3 * (n : Int))), some (mI (hat μ n)), some (mI (md)), some (mI ((k0 : Int)))] [mI (g_st μ (μ 16 k0)), mI (hat μ n), mR 118] (mkh (m_set (m_set (m_set (m_set (m_set (m_set (m_set μ 118 0 (0)) 118 3 (μ 118 2)) 118 2 (0)) 118 4 (0)) 118 5 (940)) 118 22 (g_w μ 0 (μ 14 0))) 118 23 (g_w μ 1 (μ 14 0))) c s) _
        by_cases hq3 : g_stand μ (hat μ n) (g_st μ (μ 16 k0)) (g_w μ 0 (μ 14 0))
        · refine rn_callP (k' := 108) (y := 203) (vs := [mR 118, mI (hat μ n), mI (g_st μ (μ 16 k0))]) (S' := []) (v := some (mI 1)) (h' := mkh (m_set (m_set (m_set (m_set (m_set (m_set (m_set μ 118 0 (0)) 118 3 (μ 118 2)) 118 2 (0)) 118 4 (0)) 118 5 (940)) 118 22 (g_w μ 0 (μ 14 0))) 118 23 (g_w μ 1 (μ 14 0))) c s) rfl rfl rfl (by have hz : Cl PT 203 [mR 118, mI (hat μ n), mI (g_st μ (μ 16 k0))] (mkh (m_set (m_set (m_set (m_set (m_set (m_set (m_set μ 118 0 (0)) 118 3 (μ 118 2)) 118 2 (0)) 118 4 (0)) 118 5 (940)) 118 22 (g_w μ 0 (μ 14 0))) 118 23 (g_w μ 1 (μ 14 0))) c s) (fun r => r = (some (some (mI (if g_stand μ (hat μ n) (g_st μ (μ 16 k0)) (g_w μ 0 (μ 14 0)) then 1 else 0))), mkh (m_set (m_set (m_set (m_set (m_set (m_set (m_set μ 118 0 (0)) 118 3 (μ 118 2)) 118 2 (0)) 118 4 (0)) 118 5 (940)) 118 22 (g_w μ 0 (μ 14 0))) 118 23 (g_w μ 1 (μ 14 0))) c s)) := c_X12_standsOn ((((((((hL).set rfl).set rfl).set rfl).set rfl).set rfl).set rfl).set rfl) (by show 0 ≤ g_w μ 0 (μ 14 0) ∧ g_w μ 0 (μ 14 0) ≤ 1000; omega) (a := hat μ n) (t := g_st μ (μ 16 k0)) hgc (by omega) (μ := (m_set (m_set (m_set (m_set (m_set (m_set (m_set μ 118 0 (0)) 118 3 (μ 118 2)) 118 2 (0)) 118 4 (0)) 118 5 (940)) 118 22 (g_w μ 0 (μ 14 0))) 118 23 (g_w μ 1 (μ 14 0)))) (c := c) (s := s); rw [if_pos hq3] at hz; exact hz) ?_
          show Rn PT none kX12_holes 108 [some (mR 118), some (mI (st)), some (mI (3 * (n : Int))), some (mI (hat μ n)), some (mI (md)), some (mI ((k0 : Int)))] [mI (1)] (mkh (m_set (m_set (m_set (m_set (m_set (m_set (m_set μ 118 0 (0)) 118 3 (μ 118 2)) 118 2 (0)) 118 4 (0)) 118 5 (940)) 118 22 (g_w μ 0 (μ 14 0))) 118 23 (g_w μ 1 (μ 14 0))) c s) _
          refine rn_if_eq (k' := 109) rfl rfl (fun hc4 => ?_) (fun hc4 => ?_)
          · exfalso; omega
          · skip
            refine rn_aload_n (k' := 110) rfl rfl rfl ?_
            refine rn_iload (k' := 111) rfl rfl rfl ?_
            have hb5 := g_st_b hL (a := μ 16 k0) (hH _).1
            refine rn_callP (k' := 112) (y := 198) (vs := [mR 118, mI ((k0 : Int))]) (S' := []) (v := some (mI (g_st μ (μ 16 k0)))) (h' := mkh (m_set (m_set (m_set (m_set (m_set (m_set (m_set μ 118 0 (0)) 118 3 (μ 118 2)) 118 2 (0)) 118 4 (0)) 118 5 (940)) 118 22 (g_w μ 0 (μ 14 0))) 118 23 (g_w μ 1 (μ 14 0))) c s) rfl rfl rfl (c_X12_stiltsOf (μ := (m_set (m_set (m_set (m_set (m_set (m_set (m_set μ 118 0 (0)) 118 3 (μ 118 2)) 118 2 (0)) 118 4 (0)) 118 5 (940)) 118 22 (g_w μ 0 (μ 14 0))) 118 23 (g_w μ 1 (μ 14 0)))) ((((((((hL).set rfl).set rfl).set rfl).set rfl).set rfl).set rfl).set rfl) ((((((((hS).set rfl).set rfl).set rfl).set rfl).set rfl).set rfl).set rfl) (by show 0 ≤ ((k0 : Int) : Int) ∧ ((k0 : Int) : Int) < μ 6 13; omega)) ?_
            show Rn PT none kX12_holes 112 [some (mR 118), some (mI (st)), some (mI (3 * (n : Int))), some (mI (hat μ n)), some (mI (md)), some (mI ((k0 : Int)))] [mI (g_st μ (μ 16 k0))] (mkh (m_set (m_set (m_set (m_set (m_set (m_set (m_set μ 118 0 (0)) 118 3 (μ 118 2)) 118 2 (0)) 118 4 (0)) 118 5 (940)) 118 22 (g_w μ 0 (μ 14 0))) 118 23 (g_w μ 1 (μ 14 0))) c s) _
            refine rn_iconst (k' := 113) rfl rfl ?_
            refine rn_idiv (k' := 114) rfl rfl (by omega) (tdiv_rng (by omega) (by omega)) ?_
            refine rn_iconst (k' := 115) rfl rfl ?_
            refine rn_iadd (k' := 116) rfl rfl (by omega) ?_
            refine rn_iload (k' := 117) rfl rfl rfl ?_
            refine rn_iadd (k' := 118) rfl rfl (by omega) ?_
            refine rn_aload_n (k' := 119) rfl rfl rfl ?_
            refine rn_iload_n (k' := 120) rfl rfl rfl ?_
            refine rn_iconst (k' := 121) rfl rfl ?_
            refine rn_iadd (k' := 122) rfl rfl (by omega) ?_
            refine rn_callP (k' := 123) (y := 170) (vs := [mR 118, mI ((3 * (n : Int)) + 2)]) (S' := [mI ((((g_st μ (μ 16 k0)).tdiv (5)) + 3) + md)]) (v := some (mI (μ 2 (3 * n + 2)))) (h' := mkh (m_set (m_set (m_set (m_set (m_set (m_set (m_set μ 118 0 (0)) 118 3 (μ 118 2)) 118 2 (0)) 118 4 (0)) 118 5 (940)) 118 22 (g_w μ 0 (μ 14 0))) 118 23 (g_w μ 1 (μ 14 0))) c s) rfl rfl rfl (by have h := c_X12_octet (μ := (m_set (m_set (m_set (m_set (m_set (m_set (m_set μ 118 0 (0)) 118 3 (μ 118 2)) 118 2 (0)) 118 4 (0)) 118 5 (940)) 118 22 (g_w μ 0 (μ 14 0))) 118 23 (g_w μ 1 (μ 14 0)))) (c := c) (s := s) hto (i := (3 * (n : Int)) + 2) (by omega); rw [x2] at h; exact h) ?_
            show Rn PT none kX12_holes 123 [some (mR 118), some (mI (st)), some (mI (3 * (n : Int))), some (mI (hat μ n)), some (mI (md)), some (mI ((k0 : Int)))] [mI (μ 2 (3 * n + 2)), mI ((((g_st μ (μ 16 k0)).tdiv (5)) + 3) + md)] (mkh (m_set (m_set (m_set (m_set (m_set (m_set (m_set μ 118 0 (0)) 118 3 (μ 118 2)) 118 2 (0)) 118 4 (0)) 118 5 (940)) 118 22 (g_w μ 0 (μ 14 0))) 118 23 (g_w μ 1 (μ 14 0))) c s) _
            refine rn_icmp_eq (k' := 124) rfl rfl (fun hc6 => ?_) (fun hc6 => ?_)
            · skip
              refine rn_iinc (k' := 133) (L' := [some (mR 118), some (mI (st)), some (mI (3 * (n : Int))), some (mI (hat μ n)), some (mI (md)), some (mI ((k0 : Int) + 1))]) rfl rfl rfl (by omega) rfl ?_
              refine rn_goto rfl ?_
              exact ih (k0 + 1) _ _ (by omega) (by omega) (hyes ⟨by assumption, by rw [eh]; omega⟩)
            · skip
              refine rn_iload_n (k' := 125) rfl rfl rfl ?_
              refine rn_iconst (k' := 126) rfl rfl ?_
              refine rn_iload (k' := 127) rfl rfl rfl ?_
              refine rn_ishl (k' := 128) rfl rfl ?_
              refine rn_iconst (k' := 129) rfl rfl ?_
              refine rn_ixor (k' := 130) rfl rfl ?_
              refine rn_iand (k' := 131) rfl rfl ?_
              refine rn_istore_n (k' := 132) (L' := [some (mR 118), some (mI (m_and (st) (m_xor (m_shl (1) ((k0 : Int))) (-1)))), some (mI (3 * (n : Int))), some (mI (hat μ n)), some (mI (md)), some (mI ((k0 : Int)))]) rfl rfl (Nat.le_of_ble_eq_true rfl) rfl ?_
              refine rn_iinc (k' := 133) (L' := [some (mR 118), some (mI (m_and (st) (m_xor (m_shl (1) ((k0 : Int))) (-1)))), some (mI (3 * (n : Int))), some (mI (hat μ n)), some (mI (md)), some (mI ((k0 : Int) + 1))]) rfl rfl rfl (by omega) rfl ?_
              refine rn_goto rfl ?_
              exact ih (k0 + 1) _ _ (by omega) (by omega) (hno (fun z => by first | exact absurd z.1 (by assumption) | (have z2 := z.2; rw [eh] at z2; omega)))
        · refine rn_callP (k' := 108) (y := 203) (vs := [mR 118, mI (hat μ n), mI (g_st μ (μ 16 k0))]) (S' := []) (v := some (mI 0)) (h' := mkh (m_set (m_set (m_set (m_set (m_set (m_set (m_set μ 118 0 (0)) 118 3 (μ 118 2)) 118 2 (0)) 118 4 (0)) 118 5 (940)) 118 22 (g_w μ 0 (μ 14 0))) 118 23 (g_w μ 1 (μ 14 0))) c s) rfl rfl rfl (by have hz : Cl PT 203 [mR 118, mI (hat μ n), mI (g_st μ (μ 16 k0))] (mkh (m_set (m_set (m_set (m_set (m_set (m_set (m_set μ 118 0 (0)) 118 3 (μ 118 2)) 118 2 (0)) 118 4 (0)) 118 5 (940)) 118 22 (g_w μ 0 (μ 14 0))) 118 23 (g_w μ 1 (μ 14 0))) c s) (fun r => r = (some (some (mI (if g_stand μ (hat μ n) (g_st μ (μ 16 k0)) (g_w μ 0 (μ 14 0)) then 1 else 0))), mkh (m_set (m_set (m_set (m_set (m_set (m_set (m_set μ 118 0 (0)) 118 3 (μ 118 2)) 118 2 (0)) 118 4 (0)) 118 5 (940)) 118 22 (g_w μ 0 (μ 14 0))) 118 23 (g_w μ 1 (μ 14 0))) c s)) := c_X12_standsOn ((((((((hL).set rfl).set rfl).set rfl).set rfl).set rfl).set rfl).set rfl) (by show 0 ≤ g_w μ 0 (μ 14 0) ∧ g_w μ 0 (μ 14 0) ≤ 1000; omega) (a := hat μ n) (t := g_st μ (μ 16 k0)) hgc (by omega) (μ := (m_set (m_set (m_set (m_set (m_set (m_set (m_set μ 118 0 (0)) 118 3 (μ 118 2)) 118 2 (0)) 118 4 (0)) 118 5 (940)) 118 22 (g_w μ 0 (μ 14 0))) 118 23 (g_w μ 1 (μ 14 0)))) (c := c) (s := s); rw [if_neg hq3] at hz; exact hz) ?_
          show Rn PT none kX12_holes 108 [some (mR 118), some (mI (st)), some (mI (3 * (n : Int))), some (mI (hat μ n)), some (mI (md)), some (mI ((k0 : Int)))] [mI (0)] (mkh (m_set (m_set (m_set (m_set (m_set (m_set (m_set μ 118 0 (0)) 118 3 (μ 118 2)) 118 2 (0)) 118 4 (0)) 118 5 (940)) 118 22 (g_w μ 0 (μ 14 0))) 118 23 (g_w μ 1 (μ 14 0))) c s) _
          refine rn_if_eq (k' := 109) rfl rfl (fun hc7 => ?_) (fun hc7 => ?_)
          · skip
            refine rn_iload_n (k' := 125) rfl rfl rfl ?_
            refine rn_iconst (k' := 126) rfl rfl ?_
            refine rn_iload (k' := 127) rfl rfl rfl ?_
            refine rn_ishl (k' := 128) rfl rfl ?_
            refine rn_iconst (k' := 129) rfl rfl ?_
            refine rn_ixor (k' := 130) rfl rfl ?_
            refine rn_iand (k' := 131) rfl rfl ?_
            refine rn_istore_n (k' := 132) (L' := [some (mR 118), some (mI (m_and (st) (m_xor (m_shl (1) ((k0 : Int))) (-1)))), some (mI (3 * (n : Int))), some (mI (hat μ n)), some (mI (md)), some (mI ((k0 : Int)))]) rfl rfl (Nat.le_of_ble_eq_true rfl) rfl ?_
            refine rn_iinc (k' := 133) (L' := [some (mR 118), some (mI (m_and (st) (m_xor (m_shl (1) ((k0 : Int))) (-1)))), some (mI (3 * (n : Int))), some (mI (hat μ n)), some (mI (md)), some (mI ((k0 : Int) + 1))]) rfl rfl rfl (by omega) rfl ?_
            refine rn_goto rfl ?_
            exact ih (k0 + 1) _ _ (by omega) (by omega) (hno (fun z => by first | exact absurd z.1 (by assumption) | (have z2 := z.2; rw [eh] at z2; omega)))
          · exfalso; omega
set_option maxHeartbeats 8000000 in
theorem l_holesM {μ : Nat → Nat → Int} {c s : Nat} (hL : I_land μ) (hS : I_scene μ) (hb : ∀ j, 0 ≤ μ 2 j ∧ μ 2 j ≤ 255) (hto : ∀ j, μ 2 j = μ 119 j % 256) {m : Nat} (hm : μ 118 2 = 3 * (m : Int)) (hm4 : m ≤ 40) : ∀ (d n : Nat) (k st : Int) (v3 v4 v5 : Option MV), k = 3 * (n : Int) → n + d = m → (∀ j, j < n → hoc μ j) → (i32 st ∧ (∀ i, i < 32 → (μ 6 13).toNat ≤ i → bI st i = false) ∧ ∀ j, j < (μ 6 13).toNat → bI st j = decide (aL (fun n => hok μ (g_st μ (μ 16 j)) n) (if j < 0 then n + 1 else n) = 1)) → Rn PT none kX12_holes 38 [some (mR 118), some (mI (st)), some (mI (k)), v3, v4, v5] [] (mkh (m_set (m_set (m_set (m_set (m_set (m_set (m_set μ 118 0 (0)) 118 3 (μ 118 2)) 118 2 (0)) 118 4 (0)) 118 5 (940)) 118 22 (g_w μ 0 (μ 14 0))) 118 23 (g_w μ 1 (μ 14 0))) c s) (fun r => r = (some (some (mI (if aL (fun n => hoc μ n) m = 1 then fO (fun k => aL (fun n => hok μ (g_st μ (μ 16 k)) n) m = 1) (μ 6 13).toNat else -1))), mkh (m_set (m_set (m_set (m_set (m_set (m_set (m_set μ 118 0 (0)) 118 3 (μ 118 2)) 118 2 (0)) 118 4 (0)) 118 5 (940)) 118 22 (g_w μ 0 (μ 14 0))) 118 23 (g_w μ 1 (μ 14 0))) c s)) := by
  have hL_ := hL
  obtain ⟨lc, lr, le, lm, lw, lh, lwo, lwd, q0, q1, q2, q3, q4, q8, q499, q500, lth, lG, lT, lW, -⟩ := hL_
  have hS_ := hS
  obtain ⟨sd, sw, stk, s4, s5, s6, hC, hH, -, s10, sce, swc, s13⟩ := hS_
  intro d
  induction d with
  | zero =>
    intro n k st v3 v4 v5 ek hn hall hB
    subst ek
    have hnm : n = m := by omega
    have hfo : st = fO (fun k => aL (fun n => hok μ (g_st μ (μ 16 k)) n) m = 1) (μ 6 13).toNat := by
      obtain ⟨b1, b2, b3⟩ := hB
      refine bI_ext b1 (fO_r _) (fun i hi => ?_)
      rw [fO_bit _ (by omega) i hi]
      by_cases e : i < (μ 6 13).toNat
      · rw [b3 i e, if_neg (by omega), hnm]
        simp [e]
      · rw [b2 i hi (by omega), decide_eq_false (fun z => e z.1)]
    refine rn_iload_n (k' := 39) rfl rfl rfl ?_
    refine rn_aload_n (k' := 40) rfl rfl rfl ?_
    refine rn_getI (k' := 41) rfl rfl K0_118 (by decide) rfl ?_
    show Rn PT none kX12_holes 41 [some (mR 118), some (mI (st)), some (mI (3 * (n : Int))), v3, v4, v5] [mI (μ 118 2), mI (3 * (n : Int))] (mkh (m_set (m_set (m_set (m_set (m_set (m_set (m_set μ 118 0 (0)) 118 3 (μ 118 2)) 118 2 (0)) 118 4 (0)) 118 5 (940)) 118 22 (g_w μ 0 (μ 14 0))) 118 23 (g_w μ 1 (μ 14 0))) c s) _
    refine rn_icmp_ge (k' := 42) rfl rfl (fun hc1 => ?_) (fun hc1 => ?_)
    · skip
      refine rn_iload_n (k' := 137) rfl rfl rfl ?_
      refine rn_iret rfl (Or.inl rfl) ?_
      rw [if_pos ((aL_iff (p := fun n => hoc μ n) m).mpr (fun j hj => hall j (by omega))), hfo]
    · exfalso; omega
  | succ d ih =>
    intro n k st v3 v4 v5 ek hn hall hB
    subst ek
    have x0 : (3 * (n : Int)).toNat = 3 * n := by omega
    have x1 : ((3 * (n : Int)) + 1).toNat = 3 * n + 1 := by omega
    have x2 : ((3 * (n : Int)) + 2).toNat = 3 * n + 2 := by omega
    have y0 : μ 2 (3 * (n : Int)).toNat = μ 2 (3 * n) := by rw [x0]
    have y1 : μ 2 ((3 * (n : Int)) + 1).toNat = μ 2 (3 * n + 1) := by rw [x1]
    have y2 : μ 2 ((3 * (n : Int)) + 2).toNat = μ 2 (3 * n + 2) := by rw [x2]
    have z0 := hb (3 * n)
    have z1 := hb (3 * n + 1)
    have z2 := hb (3 * n + 2)
    have hmm := td_b2 (lT (100 + hat μ n).toNat)
    refine rn_iload_n (k' := 39) rfl rfl rfl ?_
    refine rn_aload_n (k' := 40) rfl rfl rfl ?_
    refine rn_getI (k' := 41) rfl rfl K0_118 (by decide) rfl ?_
    show Rn PT none kX12_holes 41 [some (mR 118), some (mI (st)), some (mI (3 * (n : Int))), v3, v4, v5] [mI (μ 118 2), mI (3 * (n : Int))] (mkh (m_set (m_set (m_set (m_set (m_set (m_set (m_set μ 118 0 (0)) 118 3 (μ 118 2)) 118 2 (0)) 118 4 (0)) 118 5 (940)) 118 22 (g_w μ 0 (μ 14 0))) 118 23 (g_w μ 1 (μ 14 0))) c s) _
    refine rn_icmp_ge (k' := 42) rfl rfl (fun hc1 => ?_) (fun hc1 => ?_)
    · exfalso; omega
    · skip
      refine rn_aload_n (k' := 43) rfl rfl rfl ?_
      refine rn_iload_n (k' := 44) rfl rfl rfl ?_
      refine rn_callP (k' := 45) (y := 170) (vs := [mR 118, mI (3 * (n : Int))]) (S' := []) (v := some (mI (μ 2 (3 * n)))) (h' := mkh (m_set (m_set (m_set (m_set (m_set (m_set (m_set μ 118 0 (0)) 118 3 (μ 118 2)) 118 2 (0)) 118 4 (0)) 118 5 (940)) 118 22 (g_w μ 0 (μ 14 0))) 118 23 (g_w μ 1 (μ 14 0))) c s) rfl rfl rfl (by have h := c_X12_octet (μ := (m_set (m_set (m_set (m_set (m_set (m_set (m_set μ 118 0 (0)) 118 3 (μ 118 2)) 118 2 (0)) 118 4 (0)) 118 5 (940)) 118 22 (g_w μ 0 (μ 14 0))) 118 23 (g_w μ 1 (μ 14 0)))) (c := c) (s := s) hto (i := 3 * (n : Int)) (by omega); rw [x0] at h; exact h) ?_
      show Rn PT none kX12_holes 45 [some (mR 118), some (mI (st)), some (mI (3 * (n : Int))), v3, v4, v5] [mI (μ 2 (3 * n))] (mkh (m_set (m_set (m_set (m_set (m_set (m_set (m_set μ 118 0 (0)) 118 3 (μ 118 2)) 118 2 (0)) 118 4 (0)) 118 5 (940)) 118 22 (g_w μ 0 (μ 14 0))) 118 23 (g_w μ 1 (μ 14 0))) c s) _
      refine rn_aload_n (k' := 46) rfl rfl rfl ?_
      refine rn_getR (k' := 47) rfl rfl K0_118 (by decide) rfl R0_118_6 ?_
      refine rn_iconst (k' := 48) rfl rfl ?_
      refine rn_iaload (k' := 49) rfl rfl K0_120 (by omega) (by omega) ?_
      show Rn PT none kX12_holes 49 [some (mR 118), some (mI (st)), some (mI (3 * (n : Int))), v3, v4, v5] [mI (μ 120 0), mI (μ 2 (3 * n))] (mkh (m_set (m_set (m_set (m_set (m_set (m_set (m_set μ 118 0 (0)) 118 3 (μ 118 2)) 118 2 (0)) 118 4 (0)) 118 5 (940)) 118 22 (g_w μ 0 (μ 14 0))) 118 23 (g_w μ 1 (μ 14 0))) c s) _
      rw [q0]
      refine rn_icmp_ge (k' := 50) rfl rfl (fun hc2 => ?_) (fun hc2 => ?_)
      · skip
        refine rn_iconst (k' := 61) rfl rfl ?_
        refine rn_iret rfl (Or.inl rfl) ?_
        rw [if_neg (fun z => by obtain ⟨y8, y9⟩ := (aL_iff (p := fun n => hoc μ n) m).mp z n (by omega); omega)]
      · skip
        refine rn_aload_n (k' := 51) rfl rfl rfl ?_
        refine rn_iload_n (k' := 52) rfl rfl rfl ?_
        refine rn_iconst (k' := 53) rfl rfl ?_
        refine rn_iadd (k' := 54) rfl rfl (by omega) ?_
        refine rn_callP (k' := 55) (y := 170) (vs := [mR 118, mI ((3 * (n : Int)) + 1)]) (S' := []) (v := some (mI (μ 2 (3 * n + 1)))) (h' := mkh (m_set (m_set (m_set (m_set (m_set (m_set (m_set μ 118 0 (0)) 118 3 (μ 118 2)) 118 2 (0)) 118 4 (0)) 118 5 (940)) 118 22 (g_w μ 0 (μ 14 0))) 118 23 (g_w μ 1 (μ 14 0))) c s) rfl rfl rfl (by have h := c_X12_octet (μ := (m_set (m_set (m_set (m_set (m_set (m_set (m_set μ 118 0 (0)) 118 3 (μ 118 2)) 118 2 (0)) 118 4 (0)) 118 5 (940)) 118 22 (g_w μ 0 (μ 14 0))) 118 23 (g_w μ 1 (μ 14 0)))) (c := c) (s := s) hto (i := (3 * (n : Int)) + 1) (by omega); rw [x1] at h; exact h) ?_
        show Rn PT none kX12_holes 55 [some (mR 118), some (mI (st)), some (mI (3 * (n : Int))), v3, v4, v5] [mI (μ 2 (3 * n + 1))] (mkh (m_set (m_set (m_set (m_set (m_set (m_set (m_set μ 118 0 (0)) 118 3 (μ 118 2)) 118 2 (0)) 118 4 (0)) 118 5 (940)) 118 22 (g_w μ 0 (μ 14 0))) 118 23 (g_w μ 1 (μ 14 0))) c s) _
        refine rn_aload_n (k' := 56) rfl rfl rfl ?_
        refine rn_getR (k' := 57) rfl rfl K0_118 (by decide) rfl R0_118_6 ?_
        refine rn_iconst (k' := 58) rfl rfl ?_
        refine rn_iaload (k' := 59) rfl rfl K0_120 (by omega) (by omega) ?_
        show Rn PT none kX12_holes 59 [some (mR 118), some (mI (st)), some (mI (3 * (n : Int))), v3, v4, v5] [mI (μ 120 1), mI (μ 2 (3 * n + 1))] (mkh (m_set (m_set (m_set (m_set (m_set (m_set (m_set μ 118 0 (0)) 118 3 (μ 118 2)) 118 2 (0)) 118 4 (0)) 118 5 (940)) 118 22 (g_w μ 0 (μ 14 0))) 118 23 (g_w μ 1 (μ 14 0))) c s) _
        rw [q1]
        refine rn_icmp_lt (k' := 60) rfl rfl (fun hc3 => ?_) (fun hc3 => ?_)
        · skip
          refine rn_bipush (k' := 63) rfl rfl ?_
          refine rn_aload_n (k' := 64) rfl rfl rfl ?_
          refine rn_iload_n (k' := 65) rfl rfl rfl ?_
          refine rn_iconst (k' := 66) rfl rfl ?_
          refine rn_iadd (k' := 67) rfl rfl (by omega) ?_
          refine rn_callP (k' := 68) (y := 170) (vs := [mR 118, mI ((3 * (n : Int)) + 1)]) (S' := [mI (10)]) (v := some (mI (μ 2 (3 * n + 1)))) (h' := mkh (m_set (m_set (m_set (m_set (m_set (m_set (m_set μ 118 0 (0)) 118 3 (μ 118 2)) 118 2 (0)) 118 4 (0)) 118 5 (940)) 118 22 (g_w μ 0 (μ 14 0))) 118 23 (g_w μ 1 (μ 14 0))) c s) rfl rfl rfl (by have h := c_X12_octet (μ := (m_set (m_set (m_set (m_set (m_set (m_set (m_set μ 118 0 (0)) 118 3 (μ 118 2)) 118 2 (0)) 118 4 (0)) 118 5 (940)) 118 22 (g_w μ 0 (μ 14 0))) 118 23 (g_w μ 1 (μ 14 0)))) (c := c) (s := s) hto (i := (3 * (n : Int)) + 1) (by omega); rw [x1] at h; exact h) ?_
          show Rn PT none kX12_holes 68 [some (mR 118), some (mI (st)), some (mI (3 * (n : Int))), v3, v4, v5] [mI (μ 2 (3 * n + 1)), mI (10)] (mkh (m_set (m_set (m_set (m_set (m_set (m_set (m_set μ 118 0 (0)) 118 3 (μ 118 2)) 118 2 (0)) 118 4 (0)) 118 5 (940)) 118 22 (g_w μ 0 (μ 14 0))) 118 23 (g_w μ 1 (μ 14 0))) c s) _
          refine rn_imul (k' := 69) rfl rfl (by omega) ?_
          refine rn_aload_n (k' := 70) rfl rfl rfl ?_
          refine rn_iload_n (k' := 71) rfl rfl rfl ?_
          refine rn_callP (k' := 72) (y := 170) (vs := [mR 118, mI (3 * (n : Int))]) (S' := [mI (10 * (μ 2 (3 * n + 1)))]) (v := some (mI (μ 2 (3 * n)))) (h' := mkh (m_set (m_set (m_set (m_set (m_set (m_set (m_set μ 118 0 (0)) 118 3 (μ 118 2)) 118 2 (0)) 118 4 (0)) 118 5 (940)) 118 22 (g_w μ 0 (μ 14 0))) 118 23 (g_w μ 1 (μ 14 0))) c s) rfl rfl rfl (by have h := c_X12_octet (μ := (m_set (m_set (m_set (m_set (m_set (m_set (m_set μ 118 0 (0)) 118 3 (μ 118 2)) 118 2 (0)) 118 4 (0)) 118 5 (940)) 118 22 (g_w μ 0 (μ 14 0))) 118 23 (g_w μ 1 (μ 14 0)))) (c := c) (s := s) hto (i := 3 * (n : Int)) (by omega); rw [x0] at h; exact h) ?_
          show Rn PT none kX12_holes 72 [some (mR 118), some (mI (st)), some (mI (3 * (n : Int))), v3, v4, v5] [mI (μ 2 (3 * n)), mI (10 * (μ 2 (3 * n + 1)))] (mkh (m_set (m_set (m_set (m_set (m_set (m_set (m_set μ 118 0 (0)) 118 3 (μ 118 2)) 118 2 (0)) 118 4 (0)) 118 5 (940)) 118 22 (g_w μ 0 (μ 14 0))) 118 23 (g_w μ 1 (μ 14 0))) c s) _
          refine rn_iadd (k' := 73) rfl rfl (by omega) ?_
          have hoc0 : hoc μ n := ⟨by omega, by omega⟩
          have hgc := hat_cell hL hb hoc0
          have hgb := g_cell_b hL hgc
          show Rn PT none kX12_holes 73 [some (mR 118), some (mI (st)), some (mI (3 * (n : Int))), v3, v4, v5] [mI (hat μ n)] (mkh (m_set (m_set (m_set (m_set (m_set (m_set (m_set μ 118 0 (0)) 118 3 (μ 118 2)) 118 2 (0)) 118 4 (0)) 118 5 (940)) 118 22 (g_w μ 0 (μ 14 0))) 118 23 (g_w μ 1 (μ 14 0))) c s) _
          refine rn_istore_n (k' := 74) (L' := [some (mR 118), some (mI (st)), some (mI (3 * (n : Int))), some (mI (hat μ n)), v4, v5]) rfl rfl (Nat.le_of_ble_eq_true rfl) rfl ?_
          refine rn_aload_n (k' := 75) rfl rfl rfl ?_
          refine rn_getR (k' := 76) rfl rfl K0_118 (by decide) rfl R0_118_6 ?_
          refine rn_sipush (k' := 77) rfl rfl ?_
          refine rn_iload_n (k' := 78) rfl rfl rfl ?_
          refine rn_iadd (k' := 79) rfl rfl (by omega) ?_
          refine rn_iaload (k' := 80) rfl rfl K0_120 (by omega) (by omega) ?_
          show Rn PT none kX12_holes 80 [some (mR 118), some (mI (st)), some (mI (3 * (n : Int))), some (mI (hat μ n)), v4, v5] [mI (μ 120 ((209 + (hat μ n)).toNat))] (mkh (m_set (m_set (m_set (m_set (m_set (m_set (m_set μ 118 0 (0)) 118 3 (μ 118 2)) 118 2 (0)) 118 4 (0)) 118 5 (940)) 118 22 (g_w μ 0 (μ 14 0))) 118 23 (g_w μ 1 (μ 14 0))) c s) _
          rw [(v_m hL (a := (hat μ n)) (by omega)).1]
          have hb1 := (v_m hL (a := (hat μ n)) (by omega)).2
          refine rn_if_le (k' := 81) rfl rfl (fun hc2 => ?_) (fun hc2 => ?_)
          · skip
            refine rn_iconst (k' := 93) rfl rfl ?_
            refine rn_istore (k' := 94) (L' := [some (mR 118), some (mI (st)), some (mI (3 * (n : Int))), some (mI (hat μ n)), some (mI (0)), v5]) rfl rfl (Nat.le_of_ble_eq_true rfl) rfl ?_
            refine rn_iconst (k' := 95) rfl rfl ?_
            refine rn_istore (k' := 96) (L' := [some (mR 118), some (mI (st)), some (mI (3 * (n : Int))), some (mI (hat μ n)), some (mI (0)), some (mI (0))]) rfl rfl (Nat.le_of_ble_eq_true rfl) rfl ?_
            refine l_holesM_in hL hS hb hto hm hm4 (n := n) (by omega) hgc (md := 0) (by first | rw [if_pos (by omega)] | (rw [if_neg (by omega)]; congr 1; omega)) (fun st1 v hB1 => ?_) (μ 6 13).toNat 0 _ _ rfl (by omega) hB
            refine rn_iinc (k' := 135) (L' := [some (mR 118), some (mI (st1)), some (mI (3 * (n : Int) + 3)), some (mI (hat μ n)), some (mI (0)), v]) rfl rfl rfl (by omega) rfl ?_
            refine rn_goto rfl ?_
            exact ih (n + 1) _ _ _ _ _ (by omega) (by omega) (fun j hj => by
              by_cases e : j = n
              · rw [e]; exact hoc0
              · exact hall j (by omega)) ⟨hB1.1, hB1.2.1, fun j hj => by have h := hB1.2.2 j hj; rw [if_pos hj] at h; rw [if_neg (by omega)]; exact h⟩
          · skip
            refine rn_aload_n (k' := 82) rfl rfl rfl ?_
            refine rn_getR (k' := 83) rfl rfl K0_118 (by decide) rfl R0_118_6 ?_
            refine rn_sipush (k' := 84) rfl rfl ?_
            refine rn_iload_n (k' := 85) rfl rfl rfl ?_
            refine rn_iadd (k' := 86) rfl rfl (by omega) ?_
            refine rn_iaload (k' := 87) rfl rfl K0_120 (by omega) (by omega) ?_
            show Rn PT none kX12_holes 87 [some (mR 118), some (mI (st)), some (mI (3 * (n : Int))), some (mI (hat μ n)), v4, v5] [mI (μ 120 ((209 + (hat μ n)).toNat))] (mkh (m_set (m_set (m_set (m_set (m_set (m_set (m_set μ 118 0 (0)) 118 3 (μ 118 2)) 118 2 (0)) 118 4 (0)) 118 5 (940)) 118 22 (g_w μ 0 (μ 14 0))) 118 23 (g_w μ 1 (μ 14 0))) c s) _
            rw [(v_m hL (a := (hat μ n)) (by omega)).1]
            have hb3 := (v_m hL (a := (hat μ n)) (by omega)).2
            refine rn_iconst (k' := 88) rfl rfl ?_
            refine rn_isub (k' := 89) rfl rfl (by omega) ?_
            refine rn_iconst (k' := 90) rfl rfl ?_
            refine rn_idiv (k' := 91) rfl rfl (by decide) (tdiv_rng (by omega) (by omega)) ?_
            refine rn_goto rfl ?_
            refine rn_istore (k' := 94) (L' := [some (mR 118), some (mI (st)), some (mI (3 * (n : Int))), some (mI (hat μ n)), some (mI (((μ 8 (100 + (hat μ n)).toNat + 1) - 1).tdiv (2))), v5]) rfl rfl (Nat.le_of_ble_eq_true rfl) rfl ?_
            refine rn_iconst (k' := 95) rfl rfl ?_
            refine rn_istore (k' := 96) (L' := [some (mR 118), some (mI (st)), some (mI (3 * (n : Int))), some (mI (hat μ n)), some (mI (((μ 8 (100 + (hat μ n)).toNat + 1) - 1).tdiv (2))), some (mI (0))]) rfl rfl (Nat.le_of_ble_eq_true rfl) rfl ?_
            refine l_holesM_in hL hS hb hto hm hm4 (n := n) (by omega) hgc (md := ((μ 8 (100 + (hat μ n)).toNat + 1) - 1).tdiv (2)) (by first | rw [if_pos (by omega)] | (rw [if_neg (by omega)]; congr 1; omega)) (fun st1 v hB1 => ?_) (μ 6 13).toNat 0 _ _ rfl (by omega) hB
            refine rn_iinc (k' := 135) (L' := [some (mR 118), some (mI (st1)), some (mI (3 * (n : Int) + 3)), some (mI (hat μ n)), some (mI (((μ 8 (100 + (hat μ n)).toNat + 1) - 1).tdiv (2))), v]) rfl rfl rfl (by omega) rfl ?_
            refine rn_goto rfl ?_
            exact ih (n + 1) _ _ _ _ _ (by omega) (by omega) (fun j hj => by
              by_cases e : j = n
              · rw [e]; exact hoc0
              · exact hall j (by omega)) ⟨hB1.1, hB1.2.1, fun j hj => by have h := hB1.2.2 j hj; rw [if_pos hj] at h; rw [if_neg (by omega)]; exact h⟩
        · skip
          refine rn_iconst (k' := 61) rfl rfl ?_
          refine rn_iret rfl (Or.inl rfl) ?_
          rw [if_neg (fun z => by obtain ⟨y8, y9⟩ := (aL_iff (p := fun n => hoc μ n) m).mp z n (by omega); omega)]
set_option maxHeartbeats 4000000 in
theorem x_X12_holes {μ : Nat → Nat → Int} {c s : Nat} (hL : I_land μ) (hS : I_scene μ) (hb : ∀ j, 0 ≤ μ 2 j ∧ μ 2 j ≤ 255) (hto : ∀ j, μ 2 j = μ 119 j % 256) {m : Nat} (hm : μ 118 2 = 3 * (m : Int)) (hm4 : m ≤ 40) (hm1 : 1 ≤ m) (hl : 0 ≤ μ 118 2 ∧ μ 118 2 ≤ 940) : Cl PT 250 [mR 118] (mkh μ c s) (fun r => r = (some (some (mI (if aL (fun n => hoc μ n) m = 1 then fO (fun k => aL (fun n => hok μ (g_st μ (μ 16 k)) n) m = 1) (μ 6 13).toNat else -1))), mkh (m_set (m_set (m_set (m_set (m_set (m_set (m_set μ 118 0 (0)) 118 3 (μ 118 2)) 118 2 (0)) 118 4 (0)) 118 5 (940)) 118 22 (g_w μ 0 (μ 14 0))) 118 23 (g_w μ 1 (μ 14 0))) c s)) := by
  have hL_ := hL
  obtain ⟨lc, lr, le, lm, lw, lh, lwo, lwd, q0, q1, q2, q3, q4, q8, q499, q500, lth, lG, lT, lW, -⟩ := hL_
  have hS_ := hS
  obtain ⟨sd, sw, stk, s4, s5, s6, hC, hH, -, s10, sce, swc, s13⟩ := hS_
  have t3 : (μ 118 2).tdiv 3 = μ 118 2 / 3 := Int.tdiv_eq_ediv_of_nonneg hl.1
  have r3 : (μ 118 2).tmod 3 = μ 118 2 % 3 := Int.tmod_eq_emod_of_nonneg hl.1
  have hab := (all_bits (μ 6 13).toNat (by omega)).1
  rw [show ((μ 6 13).toNat : Int) = μ 6 13 by omega] at hab
  refine ⟨_, PT_250, Nat.le_of_ble_eq_true rfl, ?_⟩
  show Rn PT none kX12_holes 0 [some (mR 118), none, none, none, none, none] [] (mkh μ c s) _
  refine rn_aload_n (k' := 1) rfl rfl rfl ?_
  refine rn_iconst (k' := 2) rfl rfl ?_
  refine rn_putI (k' := 3) rfl rfl K0_118 (by decide) rfl ?_
  refine rn_aload_n (k' := 4) rfl rfl rfl ?_
  refine rn_sipush (k' := 5) rfl rfl ?_
  refine rn_callP (k' := 6) (y := 166) (vs := [mR 118, mI (940)]) (S' := []) (v := none) (h' := mkh (m_set (m_set (m_set (m_set (m_set μ 118 0 (0)) 118 3 (μ 118 2)) 118 2 (0)) 118 4 (0)) 118 5 (940)) c s) rfl rfl rfl (c_X12_taken (μ := (m_set μ 118 0 (0))) (c := c) (s := s)) ?_
  show Rn PT none kX12_holes 6 [some (mR 118), none, none, none, none, none] [] (mkh (m_set (m_set (m_set (m_set (m_set μ 118 0 (0)) 118 3 (μ 118 2)) 118 2 (0)) 118 4 (0)) 118 5 (940)) c s) _
  refine rn_aload_n (k' := 7) rfl rfl rfl ?_
  refine rn_getI (k' := 8) rfl rfl K0_118 (by decide) rfl ?_
  show Rn PT none kX12_holes 8 [some (mR 118), none, none, none, none, none] [mI (μ 118 2)] (mkh (m_set (m_set (m_set (m_set (m_set μ 118 0 (0)) 118 3 (μ 118 2)) 118 2 (0)) 118 4 (0)) 118 5 (940)) c s) _
  refine rn_iconst (k' := 9) rfl rfl ?_
  refine rn_irem (k' := 10) rfl rfl (by decide) ?_
  refine rn_if_ne (k' := 11) rfl rfl (fun hc2 => ?_) (fun hc2 => ?_)
  · exfalso; omega
  · skip
    refine rn_aload_n (k' := 12) rfl rfl rfl ?_
    refine rn_getI (k' := 13) rfl rfl K0_118 (by decide) rfl ?_
    show Rn PT none kX12_holes 13 [some (mR 118), none, none, none, none, none] [mI (μ 118 2)] (mkh (m_set (m_set (m_set (m_set (m_set μ 118 0 (0)) 118 3 (μ 118 2)) 118 2 (0)) 118 4 (0)) 118 5 (940)) c s) _
    refine rn_iconst (k' := 14) rfl rfl ?_
    refine rn_idiv (k' := 15) rfl rfl (by decide) (by omega) ?_
    refine rn_iconst (k' := 16) rfl rfl ?_
    refine rn_bipush (k' := 17) rfl rfl ?_
    by_cases hq3 : 1 ≤ (μ 118 2).tdiv (3) ∧ (μ 118 2).tdiv (3) ≤ 40
    · refine rn_callP (k' := 18) (y := 167) (vs := [mI ((μ 118 2).tdiv (3)), mI (1), mI (40)]) (S' := []) (v := some (mI 1)) (h' := mkh (m_set (m_set (m_set (m_set (m_set μ 118 0 (0)) 118 3 (μ 118 2)) 118 2 (0)) 118 4 (0)) 118 5 (940)) c s) rfl rfl rfl (by have hz : Cl PT 167 [mI ((μ 118 2).tdiv (3)), mI (1), mI (40)] (mkh (m_set (m_set (m_set (m_set (m_set μ 118 0 (0)) 118 3 (μ 118 2)) 118 2 (0)) 118 4 (0)) 118 5 (940)) c s) (fun r => r = (some (some (mI (if 1 ≤ (μ 118 2).tdiv (3) ∧ (μ 118 2).tdiv (3) ≤ 40 then 1 else 0))), mkh (m_set (m_set (m_set (m_set (m_set μ 118 0 (0)) 118 3 (μ 118 2)) 118 2 (0)) 118 4 (0)) 118 5 (940)) c s)) := c_X12_isIn (v := (μ 118 2).tdiv (3)) (lo := 1) (hi := 40) (μ := (m_set (m_set (m_set (m_set (m_set μ 118 0 (0)) 118 3 (μ 118 2)) 118 2 (0)) 118 4 (0)) 118 5 (940))) (c := c) (s := s); rw [if_pos hq3] at hz; exact hz) ?_
      show Rn PT none kX12_holes 18 [some (mR 118), none, none, none, none, none] [mI (1)] (mkh (m_set (m_set (m_set (m_set (m_set μ 118 0 (0)) 118 3 (μ 118 2)) 118 2 (0)) 118 4 (0)) 118 5 (940)) c s) _
      refine rn_if_ne (k' := 19) rfl rfl (fun hc4 => ?_) (fun hc4 => ?_)
      · skip
        refine rn_aload_n (k' := 22) rfl rfl rfl ?_
        refine rn_aload_n (k' := 23) rfl rfl rfl ?_
        refine rn_getR (k' := 24) rfl rfl K0_118 (by decide) rfl R0_118_6 ?_
        refine rn_sipush (k' := 25) rfl rfl ?_
        refine rn_iaload (k' := 26) rfl rfl K0_120 (by omega) (by omega) ?_
        show Rn PT none kX12_holes 26 [some (mR 118), none, none, none, none, none] [mI (μ 120 517), mR 118] (mkh (m_set (m_set (m_set (m_set (m_set μ 118 0 (0)) 118 3 (μ 118 2)) 118 2 (0)) 118 4 (0)) 118 5 (940)) c s) _
        rw [s4]
        have hb5 := g_w_b hL 0 (μ 14 0)
        have hc905 := g_w_b hL 1 (μ 14 0)
        refine rn_callP (k' := 27) (y := 201) (vs := [mR 118, mI (μ 14 0)]) (S' := []) (v := none) (h' := mkh (m_set (m_set (m_set (m_set (m_set (m_set (m_set μ 118 0 (0)) 118 3 (μ 118 2)) 118 2 (0)) 118 4 (0)) 118 5 (940)) 118 22 (g_w μ 0 (μ 14 0))) 118 23 (g_w μ 1 (μ 14 0))) c s) rfl rfl rfl (c_X12_of (μ := (m_set (m_set (m_set (m_set (m_set μ 118 0 (0)) 118 3 (μ 118 2)) 118 2 (0)) 118 4 (0)) 118 5 (940))) ((((((hL).set rfl).set rfl).set rfl).set rfl).set rfl) (by omega)) ?_
        show Rn PT none kX12_holes 27 [some (mR 118), none, none, none, none, none] [] (mkh (m_set (m_set (m_set (m_set (m_set (m_set (m_set μ 118 0 (0)) 118 3 (μ 118 2)) 118 2 (0)) 118 4 (0)) 118 5 (940)) 118 22 (g_w μ 0 (μ 14 0))) 118 23 (g_w μ 1 (μ 14 0))) c s) _
        refine rn_iconst (k' := 28) rfl rfl ?_
        refine rn_aload_n (k' := 29) rfl rfl rfl ?_
        refine rn_getR (k' := 30) rfl rfl K0_118 (by decide) rfl R0_118_6 ?_
        refine rn_bipush (k' := 31) rfl rfl ?_
        refine rn_iaload (k' := 32) rfl rfl K0_120 (by omega) (by omega) ?_
        show Rn PT none kX12_holes 32 [some (mR 118), none, none, none, none, none] [mI (μ 120 8), mI (1)] (mkh (m_set (m_set (m_set (m_set (m_set (m_set (m_set μ 118 0 (0)) 118 3 (μ 118 2)) 118 2 (0)) 118 4 (0)) 118 5 (940)) 118 22 (g_w μ 0 (μ 14 0))) 118 23 (g_w μ 1 (μ 14 0))) c s) _
        rw [q8]
        refine rn_ishl (k' := 33) rfl rfl ?_
        refine rn_iconst (k' := 34) rfl rfl ?_
        refine rn_isub (k' := 35) rfl rfl (by omega) ?_
        refine rn_istore_n (k' := 36) (L' := [some (mR 118), some (mI ((m_shl (1) (μ 6 13)) - 1)), none, none, none, none]) rfl rfl (Nat.le_of_ble_eq_true rfl) rfl ?_
        refine rn_iconst (k' := 37) rfl rfl ?_
        refine rn_istore_n (k' := 38) (L' := [some (mR 118), some (mI ((m_shl (1) (μ 6 13)) - 1)), some (mI (0)), none, none, none]) rfl rfl (Nat.le_of_ble_eq_true rfl) rfl ?_
        have hn8 : ((μ 6 13).toNat : Int) = μ 6 13 := by omega
        have hbits := (all_bits (μ 6 13).toNat (by omega)).2
        rw [hn8] at hbits
        refine l_holesM hL hS hb hto hm hm4 m 0 _ _ _ _ _ rfl (by omega) (fun j hj => absurd hj (Nat.not_lt_zero j)) ⟨⟨by omega, by omega⟩, fun i hi h2 => ?_, fun j hj => ?_⟩
        · rw [hbits i hi, decide_eq_false (by omega)]
        · rw [hbits j (by omega), decide_eq_true hj, if_neg (by omega)]
          rfl
      · exfalso; omega
    · exfalso; omega
set_option maxHeartbeats 4000000 in
theorem i_X12_holes {μ : Nat → Nat → Int} {c s : Nat} (hL : I_land μ) (hS : I_scene μ) (hl : 0 ≤ μ 118 2 ∧ μ 118 2 ≤ 940) (hv : ¬ (μ 118 2 % 3 = 0 ∧ 3 ≤ μ 118 2 ∧ μ 118 2 ≤ 120)) : Cl PT 250 [mR 118] (mkh μ c s) (fun r => r = (some (some (mI (-1))), mkh (m_set (m_set (m_set (m_set (m_set μ 118 0 (0)) 118 3 (μ 118 2)) 118 2 (0)) 118 4 (0)) 118 5 (940)) c s)) := by
  have hL_ := hL
  obtain ⟨lc, lr, le, lm, lw, lh, lwo, lwd, q0, q1, q2, q3, q4, q8, q499, q500, lth, lG, lT, lW, -⟩ := hL_
  have hS_ := hS
  obtain ⟨sd, sw, stk, s4, s5, s6, hC, hH, -, s10, sce, swc, s13⟩ := hS_
  have t3 : (μ 118 2).tdiv 3 = μ 118 2 / 3 := Int.tdiv_eq_ediv_of_nonneg hl.1
  have r3 : (μ 118 2).tmod 3 = μ 118 2 % 3 := Int.tmod_eq_emod_of_nonneg hl.1
  refine ⟨_, PT_250, Nat.le_of_ble_eq_true rfl, ?_⟩
  show Rn PT none kX12_holes 0 [some (mR 118), none, none, none, none, none] [] (mkh μ c s) _
  refine rn_aload_n (k' := 1) rfl rfl rfl ?_
  refine rn_iconst (k' := 2) rfl rfl ?_
  refine rn_putI (k' := 3) rfl rfl K0_118 (by decide) rfl ?_
  refine rn_aload_n (k' := 4) rfl rfl rfl ?_
  refine rn_sipush (k' := 5) rfl rfl ?_
  refine rn_callP (k' := 6) (y := 166) (vs := [mR 118, mI (940)]) (S' := []) (v := none) (h' := mkh (m_set (m_set (m_set (m_set (m_set μ 118 0 (0)) 118 3 (μ 118 2)) 118 2 (0)) 118 4 (0)) 118 5 (940)) c s) rfl rfl rfl (c_X12_taken (μ := (m_set μ 118 0 (0))) (c := c) (s := s)) ?_
  show Rn PT none kX12_holes 6 [some (mR 118), none, none, none, none, none] [] (mkh (m_set (m_set (m_set (m_set (m_set μ 118 0 (0)) 118 3 (μ 118 2)) 118 2 (0)) 118 4 (0)) 118 5 (940)) c s) _
  refine rn_aload_n (k' := 7) rfl rfl rfl ?_
  refine rn_getI (k' := 8) rfl rfl K0_118 (by decide) rfl ?_
  show Rn PT none kX12_holes 8 [some (mR 118), none, none, none, none, none] [mI (μ 118 2)] (mkh (m_set (m_set (m_set (m_set (m_set μ 118 0 (0)) 118 3 (μ 118 2)) 118 2 (0)) 118 4 (0)) 118 5 (940)) c s) _
  refine rn_iconst (k' := 9) rfl rfl ?_
  refine rn_irem (k' := 10) rfl rfl (by decide) ?_
  refine rn_if_ne (k' := 11) rfl rfl (fun hc2 => ?_) (fun hc2 => ?_)
  · skip
    refine rn_iconst (k' := 20) rfl rfl ?_
    refine rn_iret rfl (Or.inl rfl) ?_
    rfl
  · skip
    refine rn_aload_n (k' := 12) rfl rfl rfl ?_
    refine rn_getI (k' := 13) rfl rfl K0_118 (by decide) rfl ?_
    show Rn PT none kX12_holes 13 [some (mR 118), none, none, none, none, none] [mI (μ 118 2)] (mkh (m_set (m_set (m_set (m_set (m_set μ 118 0 (0)) 118 3 (μ 118 2)) 118 2 (0)) 118 4 (0)) 118 5 (940)) c s) _
    refine rn_iconst (k' := 14) rfl rfl ?_
    refine rn_idiv (k' := 15) rfl rfl (by decide) (by omega) ?_
    refine rn_iconst (k' := 16) rfl rfl ?_
    refine rn_bipush (k' := 17) rfl rfl ?_
    by_cases hq3 : 1 ≤ (μ 118 2).tdiv (3) ∧ (μ 118 2).tdiv (3) ≤ 40
    · refine rn_callP (k' := 18) (y := 167) (vs := [mI ((μ 118 2).tdiv (3)), mI (1), mI (40)]) (S' := []) (v := some (mI 1)) (h' := mkh (m_set (m_set (m_set (m_set (m_set μ 118 0 (0)) 118 3 (μ 118 2)) 118 2 (0)) 118 4 (0)) 118 5 (940)) c s) rfl rfl rfl (by have hz : Cl PT 167 [mI ((μ 118 2).tdiv (3)), mI (1), mI (40)] (mkh (m_set (m_set (m_set (m_set (m_set μ 118 0 (0)) 118 3 (μ 118 2)) 118 2 (0)) 118 4 (0)) 118 5 (940)) c s) (fun r => r = (some (some (mI (if 1 ≤ (μ 118 2).tdiv (3) ∧ (μ 118 2).tdiv (3) ≤ 40 then 1 else 0))), mkh (m_set (m_set (m_set (m_set (m_set μ 118 0 (0)) 118 3 (μ 118 2)) 118 2 (0)) 118 4 (0)) 118 5 (940)) c s)) := c_X12_isIn (v := (μ 118 2).tdiv (3)) (lo := 1) (hi := 40) (μ := (m_set (m_set (m_set (m_set (m_set μ 118 0 (0)) 118 3 (μ 118 2)) 118 2 (0)) 118 4 (0)) 118 5 (940))) (c := c) (s := s); rw [if_pos hq3] at hz; exact hz) ?_
      show Rn PT none kX12_holes 18 [some (mR 118), none, none, none, none, none] [mI (1)] (mkh (m_set (m_set (m_set (m_set (m_set μ 118 0 (0)) 118 3 (μ 118 2)) 118 2 (0)) 118 4 (0)) 118 5 (940)) c s) _
      refine rn_if_ne (k' := 19) rfl rfl (fun hc4 => ?_) (fun hc4 => ?_)
      · skip
        refine rn_aload_n (k' := 22) rfl rfl rfl ?_
        refine rn_aload_n (k' := 23) rfl rfl rfl ?_
        refine rn_getR (k' := 24) rfl rfl K0_118 (by decide) rfl R0_118_6 ?_
        refine rn_sipush (k' := 25) rfl rfl ?_
        refine rn_iaload (k' := 26) rfl rfl K0_120 (by omega) (by omega) ?_
        show Rn PT none kX12_holes 26 [some (mR 118), none, none, none, none, none] [mI (μ 120 517), mR 118] (mkh (m_set (m_set (m_set (m_set (m_set μ 118 0 (0)) 118 3 (μ 118 2)) 118 2 (0)) 118 4 (0)) 118 5 (940)) c s) _
        rw [s4]
        exfalso; omega
      · exfalso; omega
    · refine rn_callP (k' := 18) (y := 167) (vs := [mI ((μ 118 2).tdiv (3)), mI (1), mI (40)]) (S' := []) (v := some (mI 0)) (h' := mkh (m_set (m_set (m_set (m_set (m_set μ 118 0 (0)) 118 3 (μ 118 2)) 118 2 (0)) 118 4 (0)) 118 5 (940)) c s) rfl rfl rfl (by have hz : Cl PT 167 [mI ((μ 118 2).tdiv (3)), mI (1), mI (40)] (mkh (m_set (m_set (m_set (m_set (m_set μ 118 0 (0)) 118 3 (μ 118 2)) 118 2 (0)) 118 4 (0)) 118 5 (940)) c s) (fun r => r = (some (some (mI (if 1 ≤ (μ 118 2).tdiv (3) ∧ (μ 118 2).tdiv (3) ≤ 40 then 1 else 0))), mkh (m_set (m_set (m_set (m_set (m_set μ 118 0 (0)) 118 3 (μ 118 2)) 118 2 (0)) 118 4 (0)) 118 5 (940)) c s)) := c_X12_isIn (v := (μ 118 2).tdiv (3)) (lo := 1) (hi := 40) (μ := (m_set (m_set (m_set (m_set (m_set μ 118 0 (0)) 118 3 (μ 118 2)) 118 2 (0)) 118 4 (0)) 118 5 (940))) (c := c) (s := s); rw [if_neg hq3] at hz; exact hz) ?_
      show Rn PT none kX12_holes 18 [some (mR 118), none, none, none, none, none] [mI (0)] (mkh (m_set (m_set (m_set (m_set (m_set μ 118 0 (0)) 118 3 (μ 118 2)) 118 2 (0)) 118 4 (0)) 118 5 (940)) c s) _
      refine rn_if_ne (k' := 19) rfl rfl (fun hc5 => ?_) (fun hc5 => ?_)
      · exfalso; omega
      · skip
        refine rn_iconst (k' := 20) rfl rfl ?_
        refine rn_iret rfl (Or.inl rfl) ?_
        rfl
theorem tape_0 {μ ν : Nat → Nat → Int} (hI : Inv N μ) (h1 : ν 1 1 = 0) (h2 : ν 118 2 = 0) (hr : ∀ a j, sup a j = true → ¬ (a = 1 ∧ j = 1) → ¬ (a = 118 ∧ j = 2) → ν a j = μ a j) : Inv N ν := by
  have h8 := hI.land.2.2.2.2.2.1.2
  have kr : ∀ a, ¬ a = 1 → ¬ a = 118 → (∀ j, sup a j = true) → ν a = μ a := fun a a1 a2 hs => by
    funext j
    exact hr a j (hs j) (fun z => a1 z.1) (fun z => a2 z.1)
  have kc : ∀ a j, sup a j = true → ¬ (a = 1 ∧ j = 1) → ¬ (a = 118 ∧ j = 2) → ν a j = μ a j := hr
  have e6 := kr 6 (by decide) (by decide) (fun _ => rfl)
  refine Inv.mk ⟨by rw [h1]; decide, by rw [h1, h2], fun j => by rw [kr 119 (by decide) (by decide) (fun _ => rfl), kr 2 (by decide) (by decide) (fun _ => rfl)]; exact hI.tape.2.2 j⟩ (hI.fault.congr (kc 3 2 rfl (by decide) (by decide)) (kc 118 15 rfl (by decide) (by decide)))
    (hI.land.congr e6 (kr 7 (by decide) (by decide) (fun _ => rfl)) (kr 8 (by decide) (by decide) (fun _ => rfl)) (kr 9 (by decide) (by decide) (fun _ => rfl)) (kr 10 (by decide) (by decide) (fun _ => rfl)) (fun j _ => by rw [kr 120 (by decide) (by decide) (fun _ => rfl)]))
    (hI.scene.congr e6 (kr 14 (by decide) (by decide) (fun _ => rfl)) (kr 15 (by decide) (by decide) (fun _ => rfl)) (kr 16 (by decide) (by decide) (fun _ => rfl)) (kr 120 (by decide) (by decide) (fun _ => rfl)))
    (hI.last.congr (kc 0 14 rfl (by decide) (by decide)) (kc 118 31 rfl (by decide) (by decide)) (kr 130 (by decide) (by decide) (fun _ => rfl)) (kr 116 (by decide) (by decide) (fun _ => rfl)) (kc 0 16 rfl (by decide) (by decide)) (kc 118 39 rfl (by decide) (by decide)) (kr 135 (by decide) (by decide) (fun _ => rfl)) (kr 117 (by decide) (by decide) (fun _ => rfl)) (kc 112 5 rfl (by decide) (by decide)) (kc 118 37 rfl (by decide) (by decide)) (kr 134 (by decide) (by decide) (fun _ => rfl)) (kr 115 (by decide) (by decide) (fun _ => rfl)) (kc 82 9 rfl (by decide) (by decide)) (kc 118 44 rfl (by decide) (by decide)) (kr 136 (by decide) (by decide) (fun _ => rfl)) (kr 87 (by decide) (by decide) (fun _ => rfl)))
    (hI.plan.congr e6 (kr 17 (by decide) (by decide) (fun _ => rfl)) (kr 18 (by decide) (by decide) (fun _ => rfl)) (kr 19 (by decide) (by decide) (fun _ => rfl)) (kr 20 (by decide) (by decide) (fun _ => rfl)) (fun j _ _ => by rw [kr 120 (by decide) (by decide) (fun _ => rfl)]))
    (hI.names.congr h8 e6 (kr 11 (by decide) (by decide) (fun _ => rfl)) (fun j _ => by rw [kr 123 (by decide) (by decide) (fun _ => rfl)])) (by rw [kr 14 (by decide) (by decide) (fun _ => rfl)]; exact hI.took)
    (hI.undo.congr e6 (kc 82 5 rfl (by decide) (by decide)) (kc 82 6 rfl (by decide) (by decide)) (kc 118 34 rfl (by decide) (by decide)) (fun a h1 h2 => kr a (by omega) (by omega) (fun _ => sup_past h1 h2)) (kr 131 (by decide) (by decide) (fun _ => rfl))) (hI.kept.congr (fun a h1 h2 => kr a (by omega) (by omega) (fun _ => sup_kept h1 h2)) (kr 138 (by decide) (by decide) (fun _ => rfl)) (kr 139 (by decide) (by decide) (fun _ => rfl)) (kr 140 (by decide) (by decide) (fun _ => rfl))) (hI.words.congr (kr 4 (by decide) (by decide) (fun _ => rfl)) (kr 124 (by decide) (by decide) (fun _ => rfl))) (hI.fresh.congr (kr 55 (by decide) (by decide) (fun _ => rfl)) (kr 60 (by decide) (by decide) (fun _ => rfl)) (kr 61 (by decide) (by decide) (fun _ => rfl))) (by unfold I_flag; rw [e6]; exact hI.flag)
theorem pair_33 : PairI (Inv N) 136 250 [] := by
  intro μ c s hI
  obtain ⟨t1, t2, t3⟩ := hI.tape
  have hb : ∀ j, 0 ≤ μ 2 j ∧ μ 2 j ≤ 255 := fun j => by have := (t3 j).2; omega
  have hrr : ∀ (M : Nat → Nat → Int), (∀ j, sup 118 j = true → ¬ j = 2 → M 118 j = μ 118 j) → (∀ a, ¬ a = 1 → ¬ a = 118 → M a = μ a) → ∀ a j, sup a j = true → ¬ (a = 1 ∧ j = 1) → ¬ (a = 118 ∧ j = 2) → M a j = μ a j := fun M h1 h2 a j hs n1 n2 => by
    by_cases e1 : a = 1
    · subst e1
      have : j = 1 := by
        have h : (j == 1) = true := hs
        simpa using h
      exact absurd ⟨rfl, this⟩ n1
    · by_cases e2 : a = 118
      · subst e2; exact h1 j hs (fun z => n2 ⟨rfl, z⟩)
      · rw [h2 a e1 e2]
  by_cases hv : μ 1 1 % 3 = 0 ∧ 3 ≤ μ 1 1 ∧ μ 1 1 ≤ 120
  · obtain ⟨m, hm⟩ := Int.eq_ofNat_of_zero_le (show 0 ≤ μ 1 1 / 3 by omega)
    have hm3 : μ 1 1 = 3 * (m : Int) := by omega
    have hx2 := x_X12_holes (μ := m_set μ 1 1 0) (c := c) (s := s) (hI.land.set rfl) (hI.scene.set rfl) hb (fun j => (t3 j).2) (m := m) (by show μ 118 2 = _; rw [t2]; exact hm3) (by omega) (by omega) (by show 0 ≤ μ 118 2 ∧ μ 118 2 ≤ 940; rw [t2]; exact t1)
    have hx3 : Cl PT 250 [mR 118] (mkh (m_set μ 1 1 0) c s) (fun r => r = (some (some (mI (if aL (fun n => hoc μ n) m = 1 then fO (fun k => aL (fun n => hok μ (g_st μ (μ 16 k)) n) m = 1) (μ 6 13).toNat else -1))), mkh (m_set (m_set (m_set (m_set (m_set (m_set (m_set (m_set μ 1 1 0) 118 0 (0)) 118 3 (μ 118 2)) 118 2 (0)) 118 4 (0)) 118 5 (940)) 118 22 (g_w μ 0 (μ 14 0))) 118 23 (g_w μ 1 (μ 14 0))) c s)) := hx2
    have hinv : Inv N (m_set (m_set (m_set (m_set (m_set (m_set (m_set (m_set μ 1 1 0) 118 0 (0)) 118 3 (μ 118 2)) 118 2 (0)) 118 4 (0)) 118 5 (940)) 118 22 (g_w μ 0 (μ 14 0))) 118 23 (g_w μ 1 (μ 14 0))) := tape_0 hI rfl rfl (hrr _ (fun j hs hj => by
      rw [sup_eq (rst_set (a := 118) (j := 23) rfl) hs, sup_eq (rst_set (a := 118) (j := 22) rfl) hs, sup_eq (rst_set (a := 118) (j := 5) rfl) hs, sup_eq (rst_set (a := 118) (j := 4) rfl) hs, m_set_ne _ _ (by omega), sup_eq (rst_set (a := 118) (j := 3) rfl) hs, sup_eq (rst_set (a := 118) (j := 0) rfl) hs, m_set_ne _ _ (by omega)]) (fun a a1 a2 => by
      rw [row_set a2, row_set a2, row_set a2, row_set a2, row_set a2, row_set a2, row_set a2, row_set a1]))
    rcases aL_01 (p := fun n => hoc μ n) m with ha | ha
    · rw [if_neg (by omega)] at hx3
      exact ⟨-1, _, _, n_X11_holes hI.land hI.scene hb hm3 (by omega) (by omega) t1 ha, hx3, hinv⟩
    · rw [if_pos ha] at hx3
      exact ⟨_, _, _, x_X11_holes hI.land hI.scene hb hm3 (by omega) (by omega) t1 ha, hx3, hinv⟩
  · refine ⟨-1, _, _, i_X11_holes t1 hv, i_X12_holes (μ := m_set μ 1 1 0) (hI.land.set rfl) (hI.scene.set rfl) (by show 0 ≤ μ 118 2 ∧ μ 118 2 ≤ 940; rw [t2]; exact t1) (by show ¬ (μ 118 2 % 3 = 0 ∧ 3 ≤ μ 118 2 ∧ μ 118 2 ≤ 120); rw [t2]; exact hv), tape_0 hI rfl rfl (hrr _ (fun j hs hj => ?_) (fun a a1 a2 => ?_))⟩
    · rw [sup_eq (rst_set (a := 118) (j := 5) rfl) hs, sup_eq (rst_set (a := 118) (j := 4) rfl) hs, m_set_ne _ _ (by omega), sup_eq (rst_set (a := 118) (j := 3) rfl) hs, sup_eq (rst_set (a := 118) (j := 0) rfl) hs, m_set_ne _ _ (by omega)]
    · rw [row_set a2, row_set a2, row_set a2, row_set a2, row_set a2, row_set a1]
