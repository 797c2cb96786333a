variable {N : Int}
/-! ===== printed by wip/whole/gen61.py: pair: fires ===== -/
/-- fires lit, herds told -/
def FI (μ : Nat → Nat → Int) : Nat → Int × Int
  | 0 => (0, 0)
  | n + 1 => if bI (FI μ n).2 n = true then FI μ n else (m_or (FI μ n).1 (m_shl 1 n), m_or (FI μ n).2 (g_hit μ (m_shl 1 n) 8))
theorem FI_pos {μ : Nat → Nat → Int} {n : Nat} (h : bI (FI μ n).2 n = true) : FI μ (n + 1) = FI μ n := if_pos h
theorem FI_neg {μ : Nat → Nat → Int} {n : Nat} (h : ¬ bI (FI μ n).2 n = true) : FI μ (n + 1) = (m_or (FI μ n).1 (m_shl 1 n), m_or (FI μ n).2 (g_hit μ (m_shl 1 n) 8)) := if_neg h
theorem FI_rows {μ ν : Nat → Nat → Int} (e : g_more ν = g_more μ) : ∀ n, FI ν n = FI μ n
  | 0 => rfl
  | n + 1 => by
    show (if bI (FI ν n).2 n = true then FI ν n else (m_or (FI ν n).1 (m_shl 1 n), m_or (FI ν n).2 (g_hit ν (m_shl 1 n) 8))) = (if bI (FI μ n).2 n = true then FI μ n else (m_or (FI μ n).1 (m_shl 1 n), m_or (FI μ n).2 (g_hit μ (m_shl 1 n) 8)))
    rw [FI_rows e n, g_hit_rows e]
theorem all_bits : ∀ h : Nat, h < 9 → (i32 (m_shl 1 (h : Int)) ∧ 1 ≤ m_shl 1 (h : Int) ∧ m_shl 1 (h : Int) ≤ 256) ∧ ∀ i : Nat, i < 32 → bI (m_shl 1 (h : Int) - 1) i = decide (i < h) := by decide +kernel
set_option maxHeartbeats 4000000 in
theorem l_group {μ : Nat → Nat → Int} {c s : Nat} (hL : I_land μ) (hS : I_scene μ) {f : Nat} (hf : (f : Int) < μ 6 13) : ∀ (d n : Nat) (k bi pb : Int), k = (n : Int) → n + d = 8 → bi = g_hit μ (m_shl 1 (f : Int)) n → ((n = 0 ∧ pb = 0) ∨ (∃ m, n = m + 1 ∧ pb = g_hit μ (m_shl 1 (f : Int)) m)) → Rn PT none kX9_groupOf 8 [some (mR 81), some (mI ((f : Int))), some (mI (bi)), some (mI (pb)), some (mI (k))] [] (mkh μ c s) (fun r => r = (some (some (mI (g_hit μ (m_shl 1 (f : Int)) 8))), mkh μ c s)) := by
  have hL_ := hL
  obtain ⟨lc, lr, le, lm, lw, lh, lwo, lwd, q0, q1, q2, q3, q4, q8, q499, q500, lth, lG, lT, lW, -⟩ := hL_
  have hS_ := hS
  obtain ⟨sd, sw, stk, s4, s5, s6, hC, hH, -, s10, sce, swc, s13⟩ := hS_
  have hlo := one_low f (by omega)
  intro d
  induction d with
  | zero =>
    intro n k bi pb ek hn eb hp
    subst ek
    refine rn_iload (k' := 9) rfl rfl rfl ?_
    refine rn_bipush (k' := 10) rfl rfl ?_
    refine rn_icmp_ge (k' := 11) rfl rfl (fun hc1 => ?_) (fun hc1 => ?_)
    · skip
      refine rn_iload_n (k' := 23) rfl rfl rfl ?_
      refine rn_iret rfl (Or.inl rfl) ?_
      rw [eb, show n = 8 by omega]
    · exfalso; omega
  | succ d ih =>
    intro n k bi pb ek hn eb hp
    subst ek
    have hsame : bi = pb → g_hit μ (m_shl 1 (f : Int)) 8 = bi := fun z => by
      rcases hp with ⟨h1, h2⟩ | ⟨m, h1, h2⟩
      · exfalso
        subst h1
        exact hlo.2.2 (by rw [← h2, ← z, eb]; rfl)
      · have h3 : g_hit μ (m_shl 1 (f : Int)) (m + 1) = g_hit μ (m_shl 1 (f : Int)) m := by rw [← h1, ← eb, z, h2]
        have h4 := g_hit_stay h3 (8 - m)
        rw [show m + (8 - m) = 8 by omega] at h4
        rw [h4, z, h2]
    refine rn_iload (k' := 9) rfl rfl rfl ?_
    refine rn_bipush (k' := 10) rfl rfl ?_
    refine rn_icmp_ge (k' := 11) rfl rfl (fun hc1 => ?_) (fun hc1 => ?_)
    · exfalso; omega
    · skip
      refine rn_iload_n (k' := 12) rfl rfl rfl ?_
      refine rn_iload_n (k' := 13) rfl rfl rfl ?_
      refine rn_icmp_eq (k' := 14) rfl rfl (fun hc2 => ?_) (fun hc2 => ?_)
      · skip
        refine rn_iload_n (k' := 23) rfl rfl rfl ?_
        refine rn_iret rfl (Or.inl rfl) ?_
        rw [hsame (by assumption)]
      · skip
        refine rn_iload_n (k' := 15) rfl rfl rfl ?_
        refine rn_istore_n (k' := 16) (L' := [some (mR 81), some (mI ((f : Int))), some (mI (bi)), some (mI (bi)), some (mI ((n : Int)))]) rfl rfl (Nat.le_of_ble_eq_true rfl) rfl ?_
        refine rn_aload_n (k' := 17) rfl rfl rfl ?_
        refine rn_iload_n (k' := 18) rfl rfl rfl ?_
        have hcl3 := c_X9_handOn (μ := μ) (c := c) (s := s) (hL) (hS) (x := bi)
        refine rn_callP (k' := 19) (y := 82) (vs := [mR 81, mI (bi)]) (S' := []) (v := some (mI (g_more μ (bi)))) (h' := mkh μ c s) rfl rfl rfl (hcl3) ?_
        show Rn PT none kX9_groupOf 19 [some (mR 81), some (mI ((f : Int))), some (mI (bi)), some (mI (bi)), some (mI ((n : Int)))] [mI (g_more μ (bi))] (mkh μ c s) _
        refine rn_istore_n (k' := 20) (L' := [some (mR 81), some (mI ((f : Int))), some (mI (g_more μ (bi))), some (mI (bi)), some (mI ((n : Int)))]) rfl rfl (Nat.le_of_ble_eq_true rfl) rfl ?_
        refine rn_iinc (k' := 21) (L' := [some (mR 81), some (mI ((f : Int))), some (mI (g_more μ (bi))), some (mI (bi)), some (mI ((n : Int) + 1))]) rfl rfl rfl (by omega) rfl ?_
        refine rn_goto rfl ?_
        exact ih (n + 1) _ _ _ (by omega) (by omega) (by rw [eb]; rfl) (Or.inr ⟨n, rfl, eb⟩)
set_option maxHeartbeats 2000000 in
theorem c_X9_groupOf {μ : Nat → Nat → Int} {c s : Nat} (hL : I_land μ) (hS : I_scene μ) {f : Nat} (hf : (f : Int) < μ 6 13) : Cl PT 85 [mR 81, mI ((f : Int))] (mkh μ c s) (fun r => r = (some (some (mI (g_hit μ (m_shl 1 (f : Int)) 8))), mkh (μ) c s)) := by
  have hL_ := hL
  obtain ⟨lc, lr, le, lm, lw, lh, lwo, lwd, q0, q1, q2, q3, q4, q8, q499, q500, lth, lG, lT, lW, -⟩ := hL_
  have hS_ := hS
  obtain ⟨sd, sw, stk, s4, s5, s6, hC, hH, -, s10, sce, swc, s13⟩ := hS_
  refine ⟨_, PT_85, Nat.le_of_ble_eq_true rfl, ?_⟩
  show Rn PT none kX9_groupOf 0 [some (mR 81), some (mI ((f : Int))), none, none, none] [] (mkh μ c s) _
  refine rn_iconst (k' := 1) rfl rfl ?_
  refine rn_iload_n (k' := 2) rfl rfl rfl ?_
  refine rn_ishl (k' := 3) rfl rfl ?_
  refine rn_istore_n (k' := 4) (L' := [some (mR 81), some (mI ((f : Int))), some (mI (m_shl (1) ((f : Int)))), none, none]) rfl rfl (Nat.le_of_ble_eq_true rfl) rfl ?_
  refine rn_iconst (k' := 5) rfl rfl ?_
  refine rn_istore_n (k' := 6) (L' := [some (mR 81), some (mI ((f : Int))), some (mI (m_shl (1) ((f : Int)))), some (mI (0)), none]) rfl rfl (Nat.le_of_ble_eq_true rfl) rfl ?_
  refine rn_iconst (k' := 7) rfl rfl ?_
  refine rn_istore (k' := 8) (L' := [some (mR 81), some (mI ((f : Int))), some (mI (m_shl (1) ((f : Int)))), some (mI (0)), some (mI (0))]) rfl rfl (Nat.le_of_ble_eq_true rfl) rfl ?_
  exact l_group hL hS hf 8 0 _ _ _ rfl rfl rfl (Or.inl ⟨rfl, rfl⟩)
set_option maxHeartbeats 4000000 in
theorem l_fires {μ : Nat → Nat → Int} {c s : Nat} (hL : I_land μ) (hS : I_scene μ) : ∀ (d n : Nat) (k li to : Int), k = (n : Int) → (n : Int) + d = μ 6 13 → li = (FI μ n).1 → to = (FI μ n).2 → Rn PT none kX9_fewestFires 6 [some (mR 81), some (mI (li)), some (mI (to)), some (mI (k))] [] (mkh μ c s) (fun r => r = (some (some (mI ((FI μ (μ 6 13).toNat).1))), mkh μ c s)) := by
  have hL_ := hL
  obtain ⟨lc, lr, le, lm, lw, lh, lwo, lwd, q0, q1, q2, q3, q4, q8, q499, q500, lth, lG, lT, lW, -⟩ := hL_
  have hS_ := hS
  obtain ⟨sd, sw, stk, s4, s5, s6, hC, hH, -, s10, sce, swc, s13⟩ := hS_
  intro d
  induction d with
  | zero =>
    intro n k li to ek hn el et
    subst ek el et
    refine rn_iload_n (k' := 7) rfl rfl rfl ?_
    refine rn_aload_n (k' := 8) rfl rfl rfl ?_
    refine rn_getR (k' := 9) rfl rfl K0_81 (by decide) rfl R0_81_0 ?_
    refine rn_getI (k' := 10) rfl rfl K0_6 (by decide) rfl ?_
    refine rn_icmp_ge (k' := 11) rfl rfl (fun hc1 => ?_) (fun hc1 => ?_)
    · skip
      refine rn_iload_n (k' := 32) rfl rfl rfl ?_
      refine rn_iret rfl (Or.inl rfl) ?_
      rw [show (μ 6 13).toNat = n by omega]
    · exfalso; omega
  | succ d ih =>
    intro n k li to ek hn el et
    subst ek el et
    refine rn_iload_n (k' := 7) rfl rfl rfl ?_
    refine rn_aload_n (k' := 8) rfl rfl rfl ?_
    refine rn_getR (k' := 9) rfl rfl K0_81 (by decide) rfl R0_81_0 ?_
    refine rn_getI (k' := 10) rfl rfl K0_6 (by decide) rfl ?_
    refine rn_icmp_ge (k' := 11) rfl rfl (fun hc1 => ?_) (fun hc1 => ?_)
    · exfalso; omega
    · skip
      refine rn_iload_n (k' := 12) rfl rfl rfl ?_
      refine rn_iload_n (k' := 13) rfl rfl rfl ?_
      refine rn_iushr (k' := 14) rfl rfl ?_
      refine rn_iconst (k' := 15) rfl rfl ?_
      refine rn_iand (k' := 16) rfl rfl ?_
      rw [bit_u (x := (FI μ n).2) (k := n) (by omega)]
      by_cases hq2 : bI ((FI μ n).2) n = true
      · rw [if_pos hq2]
        refine rn_if_ne (k' := 17) rfl rfl (fun hc3 => ?_) (fun hc3 => ?_)
        · skip
          refine rn_iinc (k' := 30) (L' := [some (mR 81), some (mI ((FI μ n).1)), some (mI ((FI μ n).2)), some (mI ((n : Int) + 1))]) rfl rfl rfl (by omega) rfl ?_
          refine rn_goto rfl ?_
          exact ih (n + 1) _ _ _ (by omega) (by omega) (by first | rw [FI_pos (by assumption)] | rw [FI_neg (by assumption)]) (by first | rw [FI_pos (by assumption)] | rw [FI_neg (by assumption)])
        · exfalso; omega
      · rw [if_neg hq2]
        refine rn_if_ne (k' := 17) rfl rfl (fun hc4 => ?_) (fun hc4 => ?_)
        · exfalso; omega
        · skip
          refine rn_iload_n (k' := 18) rfl rfl rfl ?_
          refine rn_iconst (k' := 19) rfl rfl ?_
          refine rn_iload_n (k' := 20) rfl rfl rfl ?_
          refine rn_ishl (k' := 21) rfl rfl ?_
          refine rn_ior (k' := 22) rfl rfl ?_
          refine rn_istore_n (k' := 23) (L' := [some (mR 81), some (mI (m_or ((FI μ n).1) (m_shl (1) ((n : Int))))), some (mI ((FI μ n).2)), some (mI ((n : Int)))]) rfl rfl (Nat.le_of_ble_eq_true rfl) rfl ?_
          refine rn_iload_n (k' := 24) rfl rfl rfl ?_
          refine rn_aload_n (k' := 25) rfl rfl rfl ?_
          refine rn_iload_n (k' := 26) rfl rfl rfl ?_
          refine rn_callP (k' := 27) (y := 85) (vs := [mR 81, mI ((n : Int))]) (S' := [mI ((FI μ n).2)]) (v := some (mI (g_hit μ (m_shl 1 (n : Int)) 8))) (h' := mkh μ c s) rfl rfl rfl (c_X9_groupOf hL hS (f := n) (by omega)) ?_
          show Rn PT none kX9_fewestFires 27 [some (mR 81), some (mI (m_or ((FI μ n).1) (m_shl (1) ((n : Int))))), some (mI ((FI μ n).2)), some (mI ((n : Int)))] [mI (g_hit μ (m_shl 1 (n : Int)) 8), mI ((FI μ n).2)] (mkh μ c s) _
          refine rn_ior (k' := 28) rfl rfl ?_
          refine rn_istore_n (k' := 29) (L' := [some (mR 81), some (mI (m_or ((FI μ n).1) (m_shl (1) ((n : Int))))), some (mI (m_or ((FI μ n).2) (g_hit μ (m_shl 1 (n : Int)) 8))), some (mI ((n : Int)))]) rfl rfl (Nat.le_of_ble_eq_true rfl) rfl ?_
          refine rn_iinc (k' := 30) (L' := [some (mR 81), some (mI (m_or ((FI μ n).1) (m_shl (1) ((n : Int))))), some (mI (m_or ((FI μ n).2) (g_hit μ (m_shl 1 (n : Int)) 8))), some (mI ((n : Int) + 1))]) rfl rfl rfl (by omega) rfl ?_
          refine rn_goto rfl ?_
          exact ih (n + 1) _ _ _ (by omega) (by omega) (by first | rw [FI_pos (by assumption)] | rw [FI_neg (by assumption)]) (by first | rw [FI_pos (by assumption)] | rw [FI_neg (by assumption)])
set_option maxHeartbeats 2000000 in
theorem c_X9_fewestFires {μ : Nat → Nat → Int} {c s : Nat} (hL : I_land μ) (hS : I_scene μ) : Cl PT 84 [mR 81] (mkh μ c s) (fun r => r = (some (some (mI ((FI μ (μ 6 13).toNat).1))), mkh (μ) c s)) := by
  have hL_ := hL
  obtain ⟨lc, lr, le, lm, lw, lh, lwo, lwd, q0, q1, q2, q3, q4, q8, q499, q500, lth, lG, lT, lW, -⟩ := hL_
  have hS_ := hS
  obtain ⟨sd, sw, stk, s4, s5, s6, hC, hH, -, s10, sce, swc, s13⟩ := hS_
  refine ⟨_, PT_84, Nat.le_of_ble_eq_true rfl, ?_⟩
  show Rn PT none kX9_fewestFires 0 [some (mR 81), none, none, none] [] (mkh μ c s) _
  refine rn_iconst (k' := 1) rfl rfl ?_
  refine rn_istore_n (k' := 2) (L' := [some (mR 81), some (mI (0)), none, none]) rfl rfl (Nat.le_of_ble_eq_true rfl) rfl ?_
  refine rn_iconst (k' := 3) rfl rfl ?_
  refine rn_istore_n (k' := 4) (L' := [some (mR 81), some (mI (0)), some (mI (0)), none]) rfl rfl (Nat.le_of_ble_eq_true rfl) rfl ?_
  refine rn_iconst (k' := 5) rfl rfl ?_
  refine rn_istore_n (k' := 6) (L' := [some (mR 81), some (mI (0)), some (mI (0)), some (mI (0))]) rfl rfl (Nat.le_of_ble_eq_true rfl) rfl ?_
  exact l_fires hL hS (μ 6 13).toNat 0 _ _ _ rfl (by omega) rfl rfl
set_option maxHeartbeats 2000000 in
theorem t_X11_fires {μ : Nat → Nat → Int} {c s : Nat} (hL : I_land μ) (hS : I_scene μ) : Cl PT 133 [mR 0] (mkh μ c s) (fun r => ∃ μ1, r = (some (some (mI ((FI μ (μ 6 13).toNat).1))), mkh μ1 c s) ∧ rst μ1 = rst μ) := by
  have hL_ := hL
  obtain ⟨lc, lr, le, lm, lw, lh, lwo, lwd, q0, q1, q2, q3, q4, q8, q499, q500, lth, lG, lT, lW, -⟩ := hL_
  have hS_ := hS
  obtain ⟨sd, sw, stk, s4, s5, s6, hC, hH, -, s10, sce, swc, s13⟩ := hS_
  refine ⟨_, PT_133, Nat.le_of_ble_eq_true rfl, ?_⟩
  show Rn PT none kX11_fires 0 [some (mR 0)] [] (mkh μ c s) _
  refine rn_aload_n (k' := 1) rfl rfl rfl ?_
  refine rn_getR (k' := 2) rfl rfl K0_0 (by decide) rfl R0_0_10 ?_
  refine rn_callP (k' := 3) (y := 84) (vs := [mR 81]) (S' := []) (v := some (mI ((FI μ (μ 6 13).toNat).1))) (h' := mkh μ c s) rfl rfl rfl (c_X9_fewestFires hL hS) ?_
  show Rn PT none kX11_fires 3 [some (mR 0)] [mI ((FI μ (μ 6 13).toNat).1)] (mkh μ c s) _
  refine rn_iret rfl (Or.inl rfl) ?_
  refine ⟨μ, ?_, rfl⟩
  first | rfl | (refine congrArg (fun z => ((some (some (mI z)) : Option (Option MV)), mkh μ c s)) ?_; first | rfl | omega | (symm; first | (rw [if_pos (by omega)]; first | done | rfl | omega) | (rw [if_neg (by omega)]; first | done | rfl | omega)) | (symm; unfold g_tim; first | (rw [if_pos (by omega)]; first | done | rfl | omega) | (rw [if_neg (by omega)]; first | done | rfl | omega)) | (symm; unfold g_st; first | (rw [if_pos (by omega)]; first | done | rfl | omega) | (rw [if_neg (by omega)]; first | done | rfl | omega)) | (symm; unfold g_dep; first | (rw [if_pos (by omega)]; first | done | rfl | omega) | (rw [if_neg (by omega)]; first | done | rfl | omega)) | (symm; unfold g_nb; first | (rw [if_pos (by omega)]; first | done | rfl | omega) | (rw [if_neg (by omega)]; first | done | rfl | omega)) | ((try unfold g_st); (try unfold g_dep); (try unfold g_nb); (repeat' split) <;> omega) | (symm; (repeat (first | rw [if_pos (by omega)] | rw [if_neg (by omega)])); first | done | rfl | omega))
set_option maxHeartbeats 4000000 in
theorem l_fires_in {μ : Nat → Nat → Int} {c s : Nat} (hL : I_land μ) (hS : I_scene μ) {f : Nat} (hf : (f : Int) < μ 6 13) {lf fi : Int} {Q : MR → Prop} (K : Rn PT none kX12_fires 48 [some (mR 118), some (mI (lf)), some (mI (fi)), some (mI ((f : Int))), some (mI (g_hit μ (m_shl 1 (f : Int)) 8)), some (mI (8))] [] (mkh (m_set μ 118 0 (0)) c s) Q) : ∀ (d n : Nat) (k bi : Int), k = (n : Int) → n + d = 8 → bi = g_hit μ (m_shl 1 (f : Int)) n → Rn PT none kX12_fires 39 [some (mR 118), some (mI (lf)), some (mI (fi)), some (mI ((f : Int))), some (mI (bi)), some (mI (k))] [] (mkh (m_set μ 118 0 (0)) c s) Q := by
  have hL_ := hL
  obtain ⟨lc, lr, le, lm, lw, lh, lwo, lwd, q0, q1, q2, q3, q4, q8, q499, q500, lth, lG, lT, lW, -⟩ := hL_
  have hS_ := hS
  obtain ⟨sd, sw, stk, s4, s5, s6, hC, hH, -, s10, sce, swc, s13⟩ := hS_
  intro d
  induction d with
  | zero =>
    intro n k bi ek hn eb
    subst ek
    refine rn_iload (k' := 40) rfl rfl rfl ?_
    refine rn_bipush (k' := 41) rfl rfl ?_
    refine rn_icmp_ge (k' := 42) rfl rfl (fun hc1 => ?_) (fun hc1 => ?_)
    · skip
      have hn8 : n = 8 := by omega
      subst hn8
      rw [eb]
      exact K
    · exfalso; omega
  | succ d ih =>
    intro n k bi ek hn eb
    subst ek
    refine rn_iload (k' := 40) rfl rfl rfl ?_
    refine rn_bipush (k' := 41) rfl rfl ?_
    refine rn_icmp_ge (k' := 42) rfl rfl (fun hc1 => ?_) (fun hc1 => ?_)
    · exfalso; omega
    · skip
      refine rn_aload_n (k' := 43) rfl rfl rfl ?_
      refine rn_iload (k' := 44) rfl rfl rfl ?_
      have hcl2 := c_X12_more (μ := (m_set μ 118 0 (0))) (c := c) (s := s) ((hL).set rfl) ((hS).set rfl) (x := bi)
      rw [g_more_rows (ν := (m_set μ 118 0 (0))) (μ := μ) rfl rfl rfl rfl rfl rfl] at hcl2
      refine rn_callP (k' := 45) (y := 232) (vs := [mR 118, mI (bi)]) (S' := []) (v := some (mI (g_more μ (bi)))) (h' := mkh (m_set μ 118 0 (0)) c s) rfl rfl rfl (hcl2) ?_
      show Rn PT none kX12_fires 45 [some (mR 118), some (mI (lf)), some (mI (fi)), some (mI ((f : Int))), some (mI (bi)), some (mI ((n : Int)))] [mI (g_more μ (bi))] (mkh (m_set μ 118 0 (0)) c s) _
      refine rn_istore (k' := 46) (L' := [some (mR 118), some (mI (lf)), some (mI (fi)), some (mI ((f : Int))), some (mI (g_more μ (bi))), some (mI ((n : Int)))]) rfl rfl (Nat.le_of_ble_eq_true rfl) rfl ?_
      refine rn_iinc (k' := 47) (L' := [some (mR 118), some (mI (lf)), some (mI (fi)), some (mI ((f : Int))), some (mI (g_more μ (bi))), some (mI ((n : Int) + 1))]) rfl rfl rfl (by omega) rfl ?_
      refine rn_goto rfl ?_
      exact ih (n + 1) _ _ (by omega) (by omega) (by rw [eb]; rfl)
set_option maxHeartbeats 4000000 in
theorem l_firesM {μ : Nat → Nat → Int} {c s : Nat} (hL : I_land μ) (hS : I_scene μ) : ∀ (d n : Nat) (k lf fi : Int) (v4 v5 : Option MV), k = (n : Int) → (n : Int) + d = μ 6 13 → fi = (FI μ n).1 → (∀ i, i < (μ 6 13).toNat → bI lf i = ! bI (FI μ n).2 i) → Rn PT none kX12_fires 16 [some (mR 118), some (mI (lf)), some (mI (fi)), some (mI (k)), v4, v5] [] (mkh (m_set μ 118 0 (0)) c s) (fun r => ∃ μ1, r = (some (some (mI ((FI μ (μ 6 13).toNat).1))), mkh μ1 c s) ∧ rst μ1 = rst μ) := by
  have hL_ := hL
  obtain ⟨lc, lr, le, lm, lw, lh, lwo, lwd, q0, q1, q2, q3, q4, q8, q499, q500, lth, lG, lT, lW, -⟩ := hL_
  have hS_ := hS
  obtain ⟨sd, sw, stk, s4, s5, s6, hC, hH, -, s10, sce, swc, s13⟩ := hS_
  intro d
  induction d with
  | zero =>
    intro n k lf fi v4 v5 ek hn el hle
    subst ek el
    refine rn_iload_n (k' := 17) rfl rfl rfl ?_
    refine rn_aload_n (k' := 18) rfl rfl rfl ?_
    refine rn_getR (k' := 19) rfl rfl K0_118 (by decide) rfl R0_118_6 ?_
    refine rn_bipush (k' := 20) rfl rfl ?_
    refine rn_iaload (k' := 21) rfl rfl K0_120 (by omega) (by omega) ?_
    show Rn PT none kX12_fires 21 [some (mR 118), some (mI (lf)), some (mI ((FI μ n).1)), some (mI ((n : Int))), v4, v5] [mI (μ 120 8), mI ((n : Int))] (mkh (m_set μ 118 0 (0)) c s) _
    rw [q8]
    refine rn_icmp_ge (k' := 22) rfl rfl (fun hc1 => ?_) (fun hc1 => ?_)
    · skip
      refine rn_iload_n (k' := 57) rfl rfl rfl ?_
      refine rn_iret rfl (Or.inl rfl) ?_
      refine ⟨(m_set μ 118 0 (0)), ?_, (rst_set (a := 118) (j := 0) rfl)⟩
      rw [show (μ 6 13).toNat = n by omega]
    · exfalso; omega
  | succ d ih =>
    intro n k lf fi v4 v5 ek hn el hle
    subst ek el
    have hb := hle n (by omega)
    refine rn_iload_n (k' := 17) rfl rfl rfl ?_
    refine rn_aload_n (k' := 18) rfl rfl rfl ?_
    refine rn_getR (k' := 19) rfl rfl K0_118 (by decide) rfl R0_118_6 ?_
    refine rn_bipush (k' := 20) rfl rfl ?_
    refine rn_iaload (k' := 21) rfl rfl K0_120 (by omega) (by omega) ?_
    show Rn PT none kX12_fires 21 [some (mR 118), some (mI (lf)), some (mI ((FI μ n).1)), some (mI ((n : Int))), v4, v5] [mI (μ 120 8), mI ((n : Int))] (mkh (m_set μ 118 0 (0)) c s) _
    rw [q8]
    refine rn_icmp_ge (k' := 22) rfl rfl (fun hc1 => ?_) (fun hc1 => ?_)
    · exfalso; omega
    · skip
      refine rn_iload_n (k' := 23) rfl rfl rfl ?_
      refine rn_iload_n (k' := 24) rfl rfl rfl ?_
      by_cases hq2 : bI (lf) n = true
      · refine rn_callP (k' := 25) (y := 168) (vs := [mI (lf), mI ((n : Int))]) (S' := []) (v := some (mI 1)) (h' := mkh (m_set μ 118 0 (0)) c s) rfl rfl rfl (by have hz : Cl PT 168 [mI (lf), mI ((n : Int))] (mkh (m_set μ 118 0 (0)) c s) (fun r => r = (some (some (mI (if bI (lf) n = true then 1 else 0))), mkh (m_set μ 118 0 (0)) c s)) := c_X12_has (x := lf) (t := n) (by omega) (μ := (m_set μ 118 0 (0))) (c := c) (s := s); rw [if_pos hq2] at hz; exact hz) ?_
        show Rn PT none kX12_fires 25 [some (mR 118), some (mI (lf)), some (mI ((FI μ n).1)), some (mI ((n : Int))), v4, v5] [mI (1)] (mkh (m_set μ 118 0 (0)) c s) _
        refine rn_if_ne (k' := 26) rfl rfl (fun hc3 => ?_) (fun hc3 => ?_)
        · skip
          refine rn_iload_n (k' := 28) rfl rfl rfl ?_
          refine rn_iconst (k' := 29) rfl rfl ?_
          refine rn_iload_n (k' := 30) rfl rfl rfl ?_
          refine rn_ishl (k' := 31) rfl rfl ?_
          refine rn_ior (k' := 32) rfl rfl ?_
          refine rn_istore_n (k' := 33) (L' := [some (mR 118), some (mI (lf)), some (mI (m_or ((FI μ n).1) (m_shl (1) ((n : Int))))), some (mI ((n : Int))), v4, v5]) rfl rfl (Nat.le_of_ble_eq_true rfl) rfl ?_
          refine rn_iconst (k' := 34) rfl rfl ?_
          refine rn_iload_n (k' := 35) rfl rfl rfl ?_
          refine rn_ishl (k' := 36) rfl rfl ?_
          refine rn_istore (k' := 37) (L' := [some (mR 118), some (mI (lf)), some (mI (m_or ((FI μ n).1) (m_shl (1) ((n : Int))))), some (mI ((n : Int))), some (mI (m_shl (1) ((n : Int)))), v5]) rfl rfl (Nat.le_of_ble_eq_true rfl) rfl ?_
          refine rn_iconst (k' := 38) rfl rfl ?_
          refine rn_istore (k' := 39) (L' := [some (mR 118), some (mI (lf)), some (mI (m_or ((FI μ n).1) (m_shl (1) ((n : Int))))), some (mI ((n : Int))), some (mI (m_shl (1) ((n : Int)))), some (mI (0))]) rfl rfl (Nat.le_of_ble_eq_true rfl) rfl ?_
          have hp : ¬ bI (FI μ n).2 n = true := fun z => by
            rw [z] at hb
            exact absurd (show bI lf n = true by assumption) (by rw [hb]; decide)
          refine l_fires_in hL hS (f := n) (by omega) (lf := lf) (fi := m_or ((FI μ n).1) (m_shl (1) ((n : Int)))) ?_ 8 0 _ _ rfl rfl rfl
          refine rn_iload_n (k' := 49) rfl rfl rfl ?_
          refine rn_iload (k' := 50) rfl rfl rfl ?_
          refine rn_iconst (k' := 51) rfl rfl ?_
          refine rn_ixor (k' := 52) rfl rfl ?_
          refine rn_iand (k' := 53) rfl rfl ?_
          refine rn_istore_n (k' := 54) (L' := [some (mR 118), some (mI (m_and (lf) (m_xor (g_hit μ (m_shl 1 (n : Int)) 8) (-1)))), some (mI (m_or ((FI μ n).1) (m_shl (1) ((n : Int))))), some (mI ((n : Int))), some (mI (g_hit μ (m_shl 1 (n : Int)) 8)), some (mI (8))]) rfl rfl (Nat.le_of_ble_eq_true rfl) rfl ?_
          refine rn_iinc (k' := 55) (L' := [some (mR 118), some (mI (m_and (lf) (m_xor (g_hit μ (m_shl 1 (n : Int)) 8) (-1)))), some (mI (m_or ((FI μ n).1) (m_shl (1) ((n : Int))))), some (mI ((n : Int) + 1)), some (mI (g_hit μ (m_shl 1 (n : Int)) 8)), some (mI (8))]) rfl rfl rfl (by omega) rfl ?_
          refine rn_goto rfl ?_
          exact ih (n + 1) _ _ _ _ _ (by omega) (by omega) (by rw [FI_neg hp]) (by
            rw [FI_neg hp]
            intro i hi
            rw [bI_and, bI_xor, bI_m1 i (by omega), hle i hi]
            show _ = ! bI (m_or (FI μ n).2 (g_hit μ (m_shl 1 (n : Int)) 8)) i
            rw [bI_or]
            cases bI (FI μ n).2 i <;> cases bI (g_hit μ (m_shl 1 (n : Int)) 8) i <;> rfl)
        · exfalso; omega
      · refine rn_callP (k' := 25) (y := 168) (vs := [mI (lf), mI ((n : Int))]) (S' := []) (v := some (mI 0)) (h' := mkh (m_set μ 118 0 (0)) c s) rfl rfl rfl (by have hz : Cl PT 168 [mI (lf), mI ((n : Int))] (mkh (m_set μ 118 0 (0)) c s) (fun r => r = (some (some (mI (if bI (lf) n = true then 1 else 0))), mkh (m_set μ 118 0 (0)) c s)) := c_X12_has (x := lf) (t := n) (by omega) (μ := (m_set μ 118 0 (0))) (c := c) (s := s); rw [if_neg hq2] at hz; exact hz) ?_
        show Rn PT none kX12_fires 25 [some (mR 118), some (mI (lf)), some (mI ((FI μ n).1)), some (mI ((n : Int))), v4, v5] [mI (0)] (mkh (m_set μ 118 0 (0)) c s) _
        refine rn_if_ne (k' := 26) rfl rfl (fun hc4 => ?_) (fun hc4 => ?_)
        · exfalso; omega
        · skip
          refine rn_goto rfl ?_
          refine rn_iinc (k' := 55) (L' := [some (mR 118), some (mI (lf)), some (mI ((FI μ n).1)), some (mI ((n : Int) + 1)), v4, v5]) rfl rfl rfl (by omega) rfl ?_
          refine rn_goto rfl ?_
          have hp : bI (FI μ n).2 n = true := by
            cases hz : bI (FI μ n).2 n
            · rw [hz] at hb; exact absurd hb (by assumption)
            · rfl
          exact ih (n + 1) _ _ _ _ _ (by omega) (by omega) (by rw [FI_pos hp]) (by rw [FI_pos hp]; exact hle)
set_option maxHeartbeats 2000000 in
theorem t_X12_fires {μ : Nat → Nat → Int} {c s : Nat} (hL : I_land μ) (hS : I_scene μ) : Cl PT 234 [mR 118] (mkh μ c s) (fun r => ∃ μ1, r = (some (some (mI ((FI μ (μ 6 13).toNat).1))), mkh μ1 c s) ∧ rst μ1 = rst μ) := by
  have hL_ := hL
  obtain ⟨lc, lr, le, lm, lw, lh, lwo, lwd, q0, q1, q2, q3, q4, q8, q499, q500, lth, lG, lT, lW, -⟩ := hL_
  have hS_ := hS
  obtain ⟨sd, sw, stk, s4, s5, s6, hC, hH, -, s10, sce, swc, s13⟩ := hS_
  have hab := (all_bits (μ 6 13).toNat (by omega)).1
  rw [show ((μ 6 13).toNat : Int) = μ 6 13 by omega] at hab
  refine ⟨_, PT_234, Nat.le_of_ble_eq_true rfl, ?_⟩
  show Rn PT none kX12_fires 0 [some (mR 118), none, none, none, none, none] [] (mkh μ c s) _
  refine rn_aload_n (k' := 1) rfl rfl rfl ?_
  refine rn_iconst (k' := 2) rfl rfl ?_
  refine rn_putI (k' := 3) rfl rfl K0_118 (by decide) rfl ?_
  refine rn_iconst (k' := 4) rfl rfl ?_
  refine rn_aload_n (k' := 5) rfl rfl rfl ?_
  refine rn_getR (k' := 6) rfl rfl K0_118 (by decide) rfl R0_118_6 ?_
  refine rn_bipush (k' := 7) rfl rfl ?_
  refine rn_iaload (k' := 8) rfl rfl K0_120 (by omega) (by omega) ?_
  show Rn PT none kX12_fires 8 [some (mR 118), none, none, none, none, none] [mI (μ 120 8), mI (1)] (mkh (m_set μ 118 0 (0)) c s) _
  rw [q8]
  refine rn_ishl (k' := 9) rfl rfl ?_
  refine rn_iconst (k' := 10) rfl rfl ?_
  refine rn_isub (k' := 11) rfl rfl (by omega) ?_
  refine rn_istore_n (k' := 12) (L' := [some (mR 118), some (mI ((m_shl (1) (μ 6 13)) - 1)), none, none, none, none]) rfl rfl (Nat.le_of_ble_eq_true rfl) rfl ?_
  refine rn_iconst (k' := 13) rfl rfl ?_
  refine rn_istore_n (k' := 14) (L' := [some (mR 118), some (mI ((m_shl (1) (μ 6 13)) - 1)), some (mI (0)), none, none, none]) rfl rfl (Nat.le_of_ble_eq_true rfl) rfl ?_
  refine rn_iconst (k' := 15) rfl rfl ?_
  refine rn_istore_n (k' := 16) (L' := [some (mR 118), some (mI ((m_shl (1) (μ 6 13)) - 1)), some (mI (0)), some (mI (0)), none, none]) rfl rfl (Nat.le_of_ble_eq_true rfl) rfl ?_
  have hn8 : ((μ 6 13).toNat : Int) = μ 6 13 := by omega
  refine l_firesM hL hS (μ 6 13).toNat 0 _ _ _ _ _ rfl (by omega) rfl (fun i hi => ?_)
  have h := (all_bits (μ 6 13).toNat (by omega)).2 i (by omega)
  rw [hn8] at h
  rw [h, decide_eq_true hi]
  show true = ! bI 0 i
  rw [bI_0 i (by omega)]
  rfl
