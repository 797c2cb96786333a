variable {N : Int}
/-! ===== printed by wip/whole/gen59.py: who sees whom; pairs: sees, saw ===== -/
abbrev g_eye (μ : Nat → Nat → Int) (j : Nat) : Int := μ 7 (μ 15 j).toNat + g_st μ (μ 16 j)
theorem mn_c (x y : Int) : (if x < y then x else y) = (if y < x then y else x) := by
  by_cases h1 : x < y
  · rw [if_pos h1, if_neg (by omega)]
  · by_cases h2 : y < x
    · rw [if_neg h1, if_pos h2]
    · rw [if_neg h1, if_neg h2]; omega
abbrev g_mn (x y : Int) : Int := if x < y then x else y
theorem g_mn_b (x y : Int) : (x < y ∧ g_mn x y = x) ∨ (y ≤ x ∧ g_mn x y = y) := by
  unfold g_mn
  by_cases h : x < y
  · left; rw [if_pos h]; exact ⟨h, rfl⟩
  · right; rw [if_neg h]; exact ⟨by omega, rfl⟩
abbrev g_see (μ : Nat → Nat → Int) (a e : Int) (j : Nat) : Prop := g_w μ 2 (μ 14 0) < g_mn e (g_eye μ j) ∧ g_seen μ a (μ 15 j) (g_mn e (g_eye μ j))
def g_who (μ : Nat → Nat → Int) (a e : Int) : Int := fO (fun j => g_see μ a e j) (μ 6 13).toNat
theorem g_who_rows {μ ν : Nat → Nat → Int} (e6 : ν 6 = μ 6) (e7 : ν 7 = μ 7) (e10 : ν 10 = μ 10) (e14 : ν 14 = μ 14) (e15 : ν 15 = μ 15) (e16 : ν 16 = μ 16) : g_who ν = g_who μ := by
  funext a e
  unfold g_who
  rw [e6]
  refine fO_congr _ (fun j _ => ?_)
  simp only [g_see, g_seen, g_mn, g_eye, g_st, g_w, cl_rows e7, e6, e7, e10, e14, e15, e16]
theorem g_eye_b {μ : Nat → Nat → Int} (hL : I_land μ) (hS : I_scene μ) (j : Nat) : 0 ≤ g_eye μ j ∧ g_eye μ j ≤ 198 := by
  obtain ⟨-, -, -, -, -, -, hC, hH, -⟩ := hS
  have h1 := g_st_b hL (a := μ 16 j) (hH j).1
  obtain ⟨-, -, -, -, -, -, -, -, -, -, -, -, -, -, -, -, -, g, -⟩ := hL
  have h2 := g (μ 15 j).toNat
  unfold g_eye
  omega
set_option maxHeartbeats 4000000 in
theorem l_X9_whoSee {μ : Nat → Nat → Int} {c s : Nat} (hL : I_land μ) (hS : I_scene μ) {a e : Int} (ha : g_cell μ a) (he : 0 ≤ e ∧ e ≤ 1000) : ∀ (d n : Nat) (k : Int) (acc : Int) (v6 : Option MV), k = (n : Int) → acc = fO (fun j => g_see μ a e j) n → (n : Int) + d = μ 6 13 → Rn PT none kX9_whoSee 12 [some (mR 81), some (mI (a)), some (mI (e)), some (mI (g_w μ 2 (μ 14 0))), some (mI (acc)), some (mI (k)), v6] [] (mkh μ c s) (fun r => r = (some (some (mI (g_who μ a e))), mkh (μ) c s)) := by
  have hL_ := hL
  obtain ⟨lc, lr, le, lm, lw, lh, lwo, lwd, q0, q1, q2, q3, q4, q8, q499, q500, lth, lG, lT, lW, -⟩ := hL_
  have hS_ := hS
  obtain ⟨sd, sw, stk, s4, s5, s6, hC, hH, -, s10, sce, swc, s13⟩ := hS_
  intro d
  induction d with
  | zero =>
    intro n k acc v6 ek eacc hn
    subst ek eacc
    have hwb := g_w_b hL 2 (μ 14 0)
    refine rn_iload (k' := 13) rfl rfl rfl ?_
    refine rn_aload_n (k' := 14) rfl rfl rfl ?_
    refine rn_getR (k' := 15) rfl rfl K0_81 (by decide) rfl R0_81_0 ?_
    refine rn_getI (k' := 16) rfl rfl K0_6 (by decide) rfl ?_
    refine rn_icmp_ge (k' := 17) rfl rfl (fun hc1 => ?_) (fun hc1 => ?_)
    · skip
      refine rn_iload (k' := 48) rfl rfl rfl ?_
      refine rn_iret rfl (Or.inl rfl) ?_
      unfold g_who
      rw [show (μ 6 13).toNat = n by omega]
    · exfalso; omega
  | succ d ih =>
    intro n k acc v6 ek eacc hn
    subst ek eacc
    have hwb := g_w_b hL 2 (μ 14 0)
    have hcl := sc_cell hS (n := n) (by omega)
    have hey := g_eye_b hL hS n
    have hee : g_eye μ n = μ 7 (μ 15 n).toNat + g_st μ (μ 16 n) := rfl
    refine rn_iload (k' := 13) rfl rfl rfl ?_
    refine rn_aload_n (k' := 14) rfl rfl rfl ?_
    refine rn_getR (k' := 15) rfl rfl K0_81 (by decide) rfl R0_81_0 ?_
    refine rn_getI (k' := 16) rfl rfl K0_6 (by decide) rfl ?_
    refine rn_icmp_ge (k' := 17) rfl rfl (fun hc1 => ?_) (fun hc1 => ?_)
    · exfalso; omega
    · skip
      refine rn_iload_n (k' := 18) rfl rfl rfl ?_
      refine rn_iload_n (k' := 19) rfl rfl rfl ?_
      refine rn_icmp_le (k' := 20) rfl rfl (fun hc2 => ?_) (fun hc2 => ?_)
      · skip
        refine rn_iload (k' := 48) rfl rfl rfl ?_
        refine rn_iret rfl (Or.inl rfl) ?_
        unfold g_who
        rw [fO_none (p := (fun j => g_see μ a e j)) n (fun j _ z => by have := z.1; have := g_mn_b e (g_eye μ j); omega), fO_none (p := (fun j => g_see μ a e j)) _ (fun j _ z => by have := z.1; have := g_mn_b e (g_eye μ j); omega)]
      · skip
        refine rn_aload_n (k' := 21) rfl rfl rfl ?_
        refine rn_iload (k' := 22) rfl rfl rfl ?_
        have hb3 := g_st_b hL (a := μ 16 n) (hH _).1
        have he3 := lG (μ 15 n).toNat
        refine rn_callP (k' := 23) (y := 78) (vs := [mR 81, mI ((n : Int))]) (S' := []) (v := some (mI (μ 7 (μ 15 n).toNat + g_st μ (μ 16 n)))) (h' := mkh μ c s) rfl rfl rfl (c_X9_eyeOf (hL) (hS) (by omega)) ?_
        show Rn PT none kX9_whoSee 23 [some (mR 81), some (mI (a)), some (mI (e)), some (mI (g_w μ 2 (μ 14 0))), some (mI (fO (fun j => g_see μ a e j) n)), some (mI ((n : Int))), v6] [mI (μ 7 (μ 15 n).toNat + g_st μ (μ 16 n))] (mkh μ c s) _
        refine rn_istore (k' := 24) (L' := [some (mR 81), some (mI (a)), some (mI (e)), some (mI (g_w μ 2 (μ 14 0))), some (mI (fO (fun j => g_see μ a e j) n)), some (mI ((n : Int))), some (mI (μ 7 (μ 15 n).toNat + g_st μ (μ 16 n)))]) rfl rfl (Nat.le_of_ble_eq_true rfl) rfl ?_
        refine rn_iload (k' := 25) rfl rfl rfl ?_
        refine rn_iload_n (k' := 26) rfl rfl rfl ?_
        refine rn_icmp_le (k' := 27) rfl rfl (fun hc4 => ?_) (fun hc4 => ?_)
        · skip
          refine rn_iinc (k' := 46) (L' := [some (mR 81), some (mI (a)), some (mI (e)), some (mI (g_w μ 2 (μ 14 0))), some (mI (fO (fun j => g_see μ a e j) n)), some (mI ((n : Int) + 1)), some (mI (μ 7 (μ 15 n).toNat + g_st μ (μ 16 n)))]) rfl rfl rfl (by omega) rfl ?_
          refine rn_goto rfl ?_
          exact ih (n + 1) _ _ _ (by omega) (by first | exact (fO_pos (p := (fun j => g_see μ a e j)) ⟨by have := g_mn_b e (g_eye μ n); omega, by assumption⟩).symm | exact (fO_neg (p := (fun j => g_see μ a e j)) (fun z => absurd z.2 (by assumption))).symm | exact (fO_neg (p := (fun j => g_see μ a e j)) (fun z => by have := z.1; have := g_mn_b e (g_eye μ n); omega)).symm) (by omega)
        · skip
          refine rn_aload_n (k' := 28) rfl rfl rfl ?_
          refine rn_iload_n (k' := 29) rfl rfl rfl ?_
          refine rn_aload_n (k' := 30) rfl rfl rfl ?_
          refine rn_getR (k' := 31) rfl rfl K0_81 (by decide) rfl R0_81_1 ?_
          refine rn_getR (k' := 32) rfl rfl K0_14 (by decide) rfl R0_14_1 ?_
          refine rn_iload (k' := 33) rfl rfl rfl ?_
          refine rn_iaload (k' := 34) rfl rfl K0_15 (by omega) (by omega) ?_
          show Rn PT none kX9_whoSee 34 [some (mR 81), some (mI (a)), some (mI (e)), some (mI (g_w μ 2 (μ 14 0))), some (mI (fO (fun j => g_see μ a e j) n)), some (mI ((n : Int))), some (mI (μ 7 (μ 15 n).toNat + g_st μ (μ 16 n)))] [mI (μ 15 (n)), mI (a), mR 81] (mkh μ c s) _
          have hb5 := hC n
          refine rn_iload_n (k' := 35) rfl rfl rfl ?_
          refine rn_iload (k' := 36) rfl rfl rfl ?_
          refine rn_nat (k' := 37) (S' := [mI (if μ 7 (μ 15 n).toNat + g_st μ (μ 16 n) < e then μ 7 (μ 15 n).toNat + g_st μ (μ 16 n) else e), mI (μ 15 (n)), mI (a), mR 81]) (h' := mkh μ c s) rfl rfl rfl ?_
          rw [mn_c (μ 7 (μ 15 n).toNat + g_st μ (μ 16 n)) e]
          by_cases hq6 : g_seen μ a (μ 15 (n)) (if e < μ 7 (μ 15 n).toNat + g_st μ (μ 16 n) then e else μ 7 (μ 15 n).toNat + g_st μ (μ 16 n))
          · refine rn_callP (k' := 38) (y := 81) (vs := [mR 81, mI (a), mI (μ 15 (n)), mI (if e < μ 7 (μ 15 n).toNat + g_st μ (μ 16 n) then e else μ 7 (μ 15 n).toNat + g_st μ (μ 16 n))]) (S' := []) (v := some (mI 1)) (h' := mkh μ c s) rfl rfl rfl (by have hz : Cl PT 81 [mR 81, mI (a), mI (μ 15 (n)), mI (if e < μ 7 (μ 15 n).toNat + g_st μ (μ 16 n) then e else μ 7 (μ 15 n).toNat + g_st μ (μ 16 n))] (mkh μ c s) (fun r => r = (some (some (mI (if g_seen μ a (μ 15 (n)) (if e < μ 7 (μ 15 n).toNat + g_st μ (μ 16 n) then e else μ 7 (μ 15 n).toNat + g_st μ (μ 16 n)) then 1 else 0))), mkh μ c s)) := c_X9_isClear (hL) (a := a) (b := μ 15 (n)) (e := if e < μ 7 (μ 15 n).toNat + g_st μ (μ 16 n) then e else μ 7 (μ 15 n).toNat + g_st μ (μ 16 n)) (by assumption) (by assumption) (μ := μ) (c := c) (s := s); rw [if_pos hq6] at hz; exact hz) ?_
            show Rn PT none kX9_whoSee 38 [some (mR 81), some (mI (a)), some (mI (e)), some (mI (g_w μ 2 (μ 14 0))), some (mI (fO (fun j => g_see μ a e j) n)), some (mI ((n : Int))), some (mI (μ 7 (μ 15 n).toNat + g_st μ (μ 16 n)))] [mI (1)] (mkh μ c s) _
            refine rn_if_eq (k' := 39) rfl rfl (fun hc7 => ?_) (fun hc7 => ?_)
            · exfalso; omega
            · skip
              refine rn_iload (k' := 40) rfl rfl rfl ?_
              refine rn_iconst (k' := 41) rfl rfl ?_
              refine rn_iload (k' := 42) rfl rfl rfl ?_
              refine rn_ishl (k' := 43) rfl rfl ?_
              refine rn_ior (k' := 44) rfl rfl ?_
              refine rn_istore (k' := 45) (L' := [some (mR 81), some (mI (a)), some (mI (e)), some (mI (g_w μ 2 (μ 14 0))), some (mI (m_or (fO (fun j => g_see μ a e j) n) (m_shl (1) ((n : Int))))), some (mI ((n : Int))), some (mI (μ 7 (μ 15 n).toNat + g_st μ (μ 16 n)))]) rfl rfl (Nat.le_of_ble_eq_true rfl) rfl ?_
              refine rn_iinc (k' := 46) (L' := [some (mR 81), some (mI (a)), some (mI (e)), some (mI (g_w μ 2 (μ 14 0))), some (mI (m_or (fO (fun j => g_see μ a e j) n) (m_shl (1) ((n : Int))))), some (mI ((n : Int) + 1)), some (mI (μ 7 (μ 15 n).toNat + g_st μ (μ 16 n)))]) rfl rfl rfl (by omega) rfl ?_
              refine rn_goto rfl ?_
              exact ih (n + 1) _ _ _ (by omega) (by first | exact (fO_pos (p := (fun j => g_see μ a e j)) ⟨by have := g_mn_b e (g_eye μ n); omega, by assumption⟩).symm | exact (fO_neg (p := (fun j => g_see μ a e j)) (fun z => absurd z.2 (by assumption))).symm | exact (fO_neg (p := (fun j => g_see μ a e j)) (fun z => by have := z.1; have := g_mn_b e (g_eye μ n); omega)).symm) (by omega)
          · refine rn_callP (k' := 38) (y := 81) (vs := [mR 81, mI (a), mI (μ 15 (n)), mI (if e < μ 7 (μ 15 n).toNat + g_st μ (μ 16 n) then e else μ 7 (μ 15 n).toNat + g_st μ (μ 16 n))]) (S' := []) (v := some (mI 0)) (h' := mkh μ c s) rfl rfl rfl (by have hz : Cl PT 81 [mR 81, mI (a), mI (μ 15 (n)), mI (if e < μ 7 (μ 15 n).toNat + g_st μ (μ 16 n) then e else μ 7 (μ 15 n).toNat + g_st μ (μ 16 n))] (mkh μ c s) (fun r => r = (some (some (mI (if g_seen μ a (μ 15 (n)) (if e < μ 7 (μ 15 n).toNat + g_st μ (μ 16 n) then e else μ 7 (μ 15 n).toNat + g_st μ (μ 16 n)) then 1 else 0))), mkh μ c s)) := c_X9_isClear (hL) (a := a) (b := μ 15 (n)) (e := if e < μ 7 (μ 15 n).toNat + g_st μ (μ 16 n) then e else μ 7 (μ 15 n).toNat + g_st μ (μ 16 n)) (by assumption) (by assumption) (μ := μ) (c := c) (s := s); rw [if_neg hq6] at hz; exact hz) ?_
            show Rn PT none kX9_whoSee 38 [some (mR 81), some (mI (a)), some (mI (e)), some (mI (g_w μ 2 (μ 14 0))), some (mI (fO (fun j => g_see μ a e j) n)), some (mI ((n : Int))), some (mI (μ 7 (μ 15 n).toNat + g_st μ (μ 16 n)))] [mI (0)] (mkh μ c s) _
            refine rn_if_eq (k' := 39) rfl rfl (fun hc8 => ?_) (fun hc8 => ?_)
            · skip
              refine rn_iinc (k' := 46) (L' := [some (mR 81), some (mI (a)), some (mI (e)), some (mI (g_w μ 2 (μ 14 0))), some (mI (fO (fun j => g_see μ a e j) n)), some (mI ((n : Int) + 1)), some (mI (μ 7 (μ 15 n).toNat + g_st μ (μ 16 n)))]) rfl rfl rfl (by omega) rfl ?_
              refine rn_goto rfl ?_
              exact ih (n + 1) _ _ _ (by omega) (by first | exact (fO_pos (p := (fun j => g_see μ a e j)) ⟨by have := g_mn_b e (g_eye μ n); omega, by assumption⟩).symm | exact (fO_neg (p := (fun j => g_see μ a e j)) (fun z => absurd z.2 (by assumption))).symm | exact (fO_neg (p := (fun j => g_see μ a e j)) (fun z => by have := z.1; have := g_mn_b e (g_eye μ n); omega)).symm) (by omega)
            · exfalso; omega
set_option maxHeartbeats 2000000 in
theorem c_X9_whoSee {μ : Nat → Nat → Int} {c s : Nat} (hL : I_land μ) (hS : I_scene μ) {a e : Int} (ha : g_cell μ a) (he : 0 ≤ e ∧ e ≤ 1000) : Cl PT 80 [mR 81, mI a, mI e] (mkh μ c s) (fun r => r = (some (some (mI (g_who μ a e))), mkh (μ) c s)) := by
  have hL_ := hL
  obtain ⟨lc, lr, le, lm, lw, lh, lwo, lwd, q0, q1, q2, q3, q4, q8, q499, q500, lth, lG, lT, lW, -⟩ := hL_
  have hS_ := hS
  obtain ⟨sd, sw, stk, s4, s5, s6, hC, hH, -, s10, sce, swc, s13⟩ := hS_
  refine ⟨_, PT_80, Nat.le_of_ble_eq_true rfl, ?_⟩
  show Rn PT none kX9_whoSee 0 [some (mR 81), some (mI (a)), some (mI (e)), none, none, none, none] [] (mkh μ c s) _
  refine rn_aload_n (k' := 1) rfl rfl rfl ?_
  refine rn_getR (k' := 2) rfl rfl K0_81 (by decide) rfl R0_81_0 ?_
  refine rn_iconst (k' := 3) rfl rfl ?_
  refine rn_aload_n (k' := 4) rfl rfl rfl ?_
  refine rn_getR (k' := 5) rfl rfl K0_81 (by decide) rfl R0_81_1 ?_
  refine rn_getI (k' := 6) rfl rfl K0_14 (by decide) rfl ?_
  have hb1 := g_w_b hL 2 (μ 14 0)
  refine rn_callP (k' := 7) (y := 32) (vs := [mR 6, mI (2), mI (μ 14 0)]) (S' := []) (v := some (mI (g_w μ 2 (μ 14 0)))) (h' := mkh μ c s) rfl rfl rfl (k_weatherOn (μ := μ) (hL) (by omega) (by omega)) ?_
  show Rn PT none kX9_whoSee 7 [some (mR 81), some (mI (a)), some (mI (e)), none, none, none, none] [mI (g_w μ 2 (μ 14 0))] (mkh μ c s) _
  refine rn_istore_n (k' := 8) (L' := [some (mR 81), some (mI (a)), some (mI (e)), some (mI (g_w μ 2 (μ 14 0))), none, none, none]) rfl rfl (Nat.le_of_ble_eq_true rfl) rfl ?_
  refine rn_iconst (k' := 9) rfl rfl ?_
  refine rn_istore (k' := 10) (L' := [some (mR 81), some (mI (a)), some (mI (e)), some (mI (g_w μ 2 (μ 14 0))), some (mI (0)), none, none]) rfl rfl (Nat.le_of_ble_eq_true rfl) rfl ?_
  refine rn_iconst (k' := 11) rfl rfl ?_
  refine rn_istore (k' := 12) (L' := [some (mR 81), some (mI (a)), some (mI (e)), some (mI (g_w μ 2 (μ 14 0))), some (mI (0)), some (mI (0)), none]) rfl rfl (Nat.le_of_ble_eq_true rfl) rfl ?_
  exact l_X9_whoSee hL hS ha he (μ 6 13).toNat 0 _ _ _ rfl rfl (by omega)
set_option maxHeartbeats 2000000 in
theorem c_X9_seenBy {μ : Nat → Nat → Int} {c s : Nat} (hL : I_land μ) (hS : I_scene μ) {t : Nat} (ht : (t : Int) < μ 6 13) : Cl PT 79 [mR 81, mI ((t : Int))] (mkh μ c s) (fun r => r = (some (some (mI (g_who μ (μ 15 t) (g_eye μ t)))), mkh (μ) c s)) := by
  have hL_ := hL
  obtain ⟨lc, lr, le, lm, lw, lh, lwo, lwd, q0, q1, q2, q3, q4, q8, q499, q500, lth, lG, lT, lW, -⟩ := hL_
  have hS_ := hS
  obtain ⟨sd, sw, stk, s4, s5, s6, hC, hH, -, s10, sce, swc, s13⟩ := hS_
  have hcl := sc_cell hS ht
  have hey := g_eye_b hL hS t
  refine ⟨_, PT_79, Nat.le_of_ble_eq_true rfl, ?_⟩
  show Rn PT none kX9_seenBy 0 [some (mR 81), some (mI ((t : Int)))] [] (mkh μ c s) _
  refine rn_aload_n (k' := 1) rfl rfl rfl ?_
  refine rn_aload_n (k' := 2) rfl rfl rfl ?_
  refine rn_getR (k' := 3) rfl rfl K0_81 (by decide) rfl R0_81_1 ?_
  refine rn_getR (k' := 4) rfl rfl K0_14 (by decide) rfl R0_14_1 ?_
  refine rn_iload_n (k' := 5) rfl rfl rfl ?_
  refine rn_iaload (k' := 6) rfl rfl K0_15 (by omega) (by omega) ?_
  show Rn PT none kX9_seenBy 6 [some (mR 81), some (mI ((t : Int)))] [mI (μ 15 (t)), mR 81] (mkh μ c s) _
  have hb1 := hC t
  refine rn_aload_n (k' := 7) rfl rfl rfl ?_
  refine rn_iload_n (k' := 8) rfl rfl rfl ?_
  have hb2 := g_st_b hL (a := μ 16 t) (hH _).1
  have he2 := lG (μ 15 t).toNat
  refine rn_callP (k' := 9) (y := 78) (vs := [mR 81, mI ((t : Int))]) (S' := [mI (μ 15 (t)), mR 81]) (v := some (mI (μ 7 (μ 15 t).toNat + g_st μ (μ 16 t)))) (h' := mkh μ c s) rfl rfl rfl (c_X9_eyeOf (hL) (hS) (by omega)) ?_
  show Rn PT none kX9_seenBy 9 [some (mR 81), some (mI ((t : Int)))] [mI (μ 7 (μ 15 t).toNat + g_st μ (μ 16 t)), mI (μ 15 (t)), mR 81] (mkh μ c s) _
  have hcl3 := c_X9_whoSee (μ := μ) (c := c) (s := s) (hL) (hS) (a := μ 15 (t)) (e := μ 7 (μ 15 t).toNat + g_st μ (μ 16 t)) (by assumption) (by omega)
  refine rn_callP (k' := 10) (y := 80) (vs := [mR 81, mI (μ 15 (t)), mI (μ 7 (μ 15 t).toNat + g_st μ (μ 16 t))]) (S' := []) (v := some (mI (g_who μ (μ 15 (t)) (μ 7 (μ 15 t).toNat + g_st μ (μ 16 t))))) (h' := mkh μ c s) rfl rfl rfl (hcl3) ?_
  show Rn PT none kX9_seenBy 10 [some (mR 81), some (mI ((t : Int)))] [mI (g_who μ (μ 15 (t)) (μ 7 (μ 15 t).toNat + g_st μ (μ 16 t)))] (mkh μ c s) _
  refine rn_iret rfl (Or.inl rfl) ?_
  first | rfl | (refine congrArg (fun z => ((some (some (mI z)) : Option (Option MV)), mkh μ c s)) ?_; first | rfl | omega | (symm; first | (rw [if_pos (by omega)]; first | done | rfl | omega) | (rw [if_neg (by omega)]; first | done | rfl | omega)) | (symm; unfold g_tim; first | (rw [if_pos (by omega)]; first | done | rfl | omega) | (rw [if_neg (by omega)]; first | done | rfl | omega)) | (symm; unfold g_st; first | (rw [if_pos (by omega)]; first | done | rfl | omega) | (rw [if_neg (by omega)]; first | done | rfl | omega)) | (symm; unfold g_dep; first | (rw [if_pos (by omega)]; first | done | rfl | omega) | (rw [if_neg (by omega)]; first | done | rfl | omega)) | (symm; unfold g_nb; first | (rw [if_pos (by omega)]; first | done | rfl | omega) | (rw [if_neg (by omega)]; first | done | rfl | omega)) | ((try unfold g_st); (try unfold g_dep); (try unfold g_nb); (repeat' split) <;> omega) | (symm; (repeat (first | rw [if_pos (by omega)] | rw [if_neg (by omega)])); first | done | rfl | omega))
set_option maxHeartbeats 4000000 in
theorem l_X12_seenBy {μ : Nat → Nat → Int} {c s : Nat} (hL : I_land μ) (hS : I_scene μ) {t : Nat} (ht : (t : Int) < μ 6 13) : ∀ (d n : Nat) (k : Int) (acc : Int), k = (n : Int) → acc = fO (fun j => g_see μ (μ 15 t) (g_eye μ t) j) n → (n : Int) + d = μ 6 13 → Rn PT none kX12_seenBy 4 [some (mR 118), some (mI ((t : Int))), some (mI (acc)), some (mI (k))] [] (mkh μ c s) (fun r => r = (some (some (mI (g_who μ (μ 15 t) (g_eye μ t)))), mkh (μ) c s)) := by
  have hL_ := hL
  obtain ⟨lc, lr, le, lm, lw, lh, lwo, lwd, q0, q1, q2, q3, q4, q8, q499, q500, lth, lG, lT, lW, -⟩ := hL_
  have hS_ := hS
  obtain ⟨sd, sw, stk, s4, s5, s6, hC, hH, -, s10, sce, swc, s13⟩ := hS_
  intro d
  induction d with
  | zero =>
    intro n k acc  ek eacc hn
    subst ek eacc
    refine rn_iload_n (k' := 5) rfl rfl rfl ?_
    refine rn_aload_n (k' := 6) rfl rfl rfl ?_
    refine rn_getR (k' := 7) rfl rfl K0_118 (by decide) rfl R0_118_6 ?_
    refine rn_bipush (k' := 8) rfl rfl ?_
    refine rn_iaload (k' := 9) rfl rfl K0_120 (by omega) (by omega) ?_
    show Rn PT none kX12_seenBy 9 [some (mR 118), some (mI ((t : Int))), some (mI (fO (fun j => g_see μ (μ 15 t) (g_eye μ t) j) n)), some (mI ((n : Int)))] [mI (μ 120 8), mI ((n : Int))] (mkh μ c s) _
    rw [q8]
    refine rn_icmp_ge (k' := 10) rfl rfl (fun hc1 => ?_) (fun hc1 => ?_)
    · skip
      refine rn_iload_n (k' := 43) rfl rfl rfl ?_
      refine rn_iret rfl (Or.inl rfl) ?_
      unfold g_who
      rw [show (μ 6 13).toNat = n by omega]
    · exfalso; omega
  | succ d ih =>
    intro n k acc  ek eacc hn
    subst ek eacc
    have hcl1 := sc_cell hS (n := n) (by omega)
    have hey := g_eye_b hL hS n
    have hee : g_eye μ n = μ 7 (μ 15 n).toNat + g_st μ (μ 16 n) := rfl
    have hcl := sc_cell hS ht
    have hey2 := g_eye_b hL hS t
    refine rn_iload_n (k' := 5) rfl rfl rfl ?_
    refine rn_aload_n (k' := 6) rfl rfl rfl ?_
    refine rn_getR (k' := 7) rfl rfl K0_118 (by decide) rfl R0_118_6 ?_
    refine rn_bipush (k' := 8) rfl rfl ?_
    refine rn_iaload (k' := 9) rfl rfl K0_120 (by omega) (by omega) ?_
    show Rn PT none kX12_seenBy 9 [some (mR 118), some (mI ((t : Int))), some (mI (fO (fun j => g_see μ (μ 15 t) (g_eye μ t) j) n)), some (mI ((n : Int)))] [mI (μ 120 8), mI ((n : Int))] (mkh μ c s) _
    rw [q8]
    refine rn_icmp_ge (k' := 10) rfl rfl (fun hc1 => ?_) (fun hc1 => ?_)
    · exfalso; omega
    · skip
      refine rn_iload_n (k' := 11) rfl rfl rfl ?_
      refine rn_iload_n (k' := 12) rfl rfl rfl ?_
      refine rn_icmp_eq (k' := 13) rfl rfl (fun hc2 => ?_) (fun hc2 => ?_)
      · skip
        refine rn_iinc (k' := 41) (L' := [some (mR 118), some (mI ((t : Int))), some (mI (fO (fun j => g_see μ (μ 15 t) (g_eye μ t) j) n)), some (mI ((n : Int) + 1))]) rfl rfl rfl (by omega) rfl ?_
        refine rn_goto rfl ?_
        exact ih (n + 1) _ _ (by omega) (by first | exact (fO_pos (p := (fun j => g_see μ (μ 15 t) (g_eye μ t) j)) (by assumption)).symm | exact (fO_neg (p := (fun j => g_see μ (μ 15 t) (g_eye μ t) j)) (by assumption)).symm | exact (fO_neg (p := (fun j => g_see μ (μ 15 t) (g_eye μ t) j)) (fun z => z.2.1.1 (by rw [show n = t by omega]))).symm) (by omega)
      · skip
        refine rn_aload_n (k' := 14) rfl rfl rfl ?_
        refine rn_aload_n (k' := 15) rfl rfl rfl ?_
        refine rn_getR (k' := 16) rfl rfl K0_118 (by decide) rfl R0_118_6 ?_
        refine rn_sipush (k' := 17) rfl rfl ?_
        refine rn_iload_n (k' := 18) rfl rfl rfl ?_
        refine rn_iadd (k' := 19) rfl rfl (by omega) ?_
        refine rn_iaload (k' := 20) rfl rfl K0_120 (by omega) (by omega) ?_
        show Rn PT none kX12_seenBy 20 [some (mR 118), some (mI ((t : Int))), some (mI (fO (fun j => g_see μ (μ 15 t) (g_eye μ t) j) n)), some (mI ((n : Int)))] [mI (μ 120 (518 + t)), mR 118] (mkh μ c s) _
        rw [(v_atN hS (n := t) (by omega)).1]
        have hb3 := (v_atN hS (n := t) (by omega)).2
        refine rn_aload_n (k' := 21) rfl rfl rfl ?_
        refine rn_iload_n (k' := 22) rfl rfl rfl ?_
        have hb4 := g_st_b hL (a := μ 16 t) (hH _).1
        have he4 := lG (μ 15 t).toNat
        refine rn_callP (k' := 23) (y := 199) (vs := [mR 118, mI ((t : Int))]) (S' := [mI (μ 15 t), mR 118]) (v := some (mI (μ 7 (μ 15 t).toNat + g_st μ (μ 16 t)))) (h' := mkh μ c s) rfl rfl rfl (c_X12_eyeOf (hL) (hS) (by show 0 ≤ ((t : Int) : Int) ∧ ((t : Int) : Int) < μ 6 13; omega)) ?_
        show Rn PT none kX12_seenBy 23 [some (mR 118), some (mI ((t : Int))), some (mI (fO (fun j => g_see μ (μ 15 t) (g_eye μ t) j) n)), some (mI ((n : Int)))] [mI (μ 7 (μ 15 t).toNat + g_st μ (μ 16 t)), mI (μ 15 t), mR 118] (mkh μ c s) _
        refine rn_aload_n (k' := 24) rfl rfl rfl ?_
        refine rn_getR (k' := 25) rfl rfl K0_118 (by decide) rfl R0_118_6 ?_
        refine rn_sipush (k' := 26) rfl rfl ?_
        refine rn_iload_n (k' := 27) rfl rfl rfl ?_
        refine rn_iadd (k' := 28) rfl rfl (by omega) ?_
        refine rn_iaload (k' := 29) rfl rfl K0_120 (by omega) (by omega) ?_
        show Rn PT none kX12_seenBy 29 [some (mR 118), some (mI ((t : Int))), some (mI (fO (fun j => g_see μ (μ 15 t) (g_eye μ t) j) n)), some (mI ((n : Int)))] [mI (μ 120 (518 + n)), mI (μ 7 (μ 15 t).toNat + g_st μ (μ 16 t)), mI (μ 15 t), mR 118] (mkh μ c s) _
        rw [(v_atN hS (n := n) (by omega)).1]
        have hb5 := (v_atN hS (n := n) (by omega)).2
        refine rn_aload_n (k' := 30) rfl rfl rfl ?_
        refine rn_iload_n (k' := 31) rfl rfl rfl ?_
        have hb6 := g_st_b hL (a := μ 16 n) (hH _).1
        have he6 := lG (μ 15 n).toNat
        refine rn_callP (k' := 32) (y := 199) (vs := [mR 118, mI ((n : Int))]) (S' := [mI (μ 15 n), mI (μ 7 (μ 15 t).toNat + g_st μ (μ 16 t)), mI (μ 15 t), mR 118]) (v := some (mI (μ 7 (μ 15 n).toNat + g_st μ (μ 16 n)))) (h' := mkh μ c s) rfl rfl rfl (c_X12_eyeOf (hL) (hS) (by show 0 ≤ ((n : Int) : Int) ∧ ((n : Int) : Int) < μ 6 13; omega)) ?_
        show Rn PT none kX12_seenBy 32 [some (mR 118), some (mI ((t : Int))), some (mI (fO (fun j => g_see μ (μ 15 t) (g_eye μ t) j) n)), some (mI ((n : Int)))] [mI (μ 7 (μ 15 n).toNat + g_st μ (μ 16 n)), mI (μ 15 n), mI (μ 7 (μ 15 t).toNat + g_st μ (μ 16 t)), mI (μ 15 t), mR 118] (mkh μ c s) _
        by_cases hq7 : g_w μ 2 (μ 14 0) < (if μ 7 (μ 15 t).toNat + g_st μ (μ 16 t) < μ 7 (μ 15 n).toNat + g_st μ (μ 16 n) then μ 7 (μ 15 t).toNat + g_st μ (μ 16 t) else μ 7 (μ 15 n).toNat + g_st μ (μ 16 n)) ∧ g_seen μ (μ 15 t) (μ 15 n) (if μ 7 (μ 15 t).toNat + g_st μ (μ 16 t) < μ 7 (μ 15 n).toNat + g_st μ (μ 16 n) then μ 7 (μ 15 t).toNat + g_st μ (μ 16 t) else μ 7 (μ 15 n).toNat + g_st μ (μ 16 n))
        · refine rn_callP (k' := 33) (y := 228) (vs := [mR 118, mI (μ 15 t), mI (μ 7 (μ 15 t).toNat + g_st μ (μ 16 t)), mI (μ 15 n), mI (μ 7 (μ 15 n).toNat + g_st μ (μ 16 n))]) (S' := []) (v := some (mI 1)) (h' := mkh μ c s) rfl rfl rfl (by have hz : Cl PT 228 [mR 118, mI (μ 15 t), mI (μ 7 (μ 15 t).toNat + g_st μ (μ 16 t)), mI (μ 15 n), mI (μ 7 (μ 15 n).toNat + g_st μ (μ 16 n))] (mkh μ c s) (fun r => r = (some (some (mI (if g_w μ 2 (μ 14 0) < (if μ 7 (μ 15 t).toNat + g_st μ (μ 16 t) < μ 7 (μ 15 n).toNat + g_st μ (μ 16 n) then μ 7 (μ 15 t).toNat + g_st μ (μ 16 t) else μ 7 (μ 15 n).toNat + g_st μ (μ 16 n)) ∧ g_seen μ (μ 15 t) (μ 15 n) (if μ 7 (μ 15 t).toNat + g_st μ (μ 16 t) < μ 7 (μ 15 n).toNat + g_st μ (μ 16 n) then μ 7 (μ 15 t).toNat + g_st μ (μ 16 t) else μ 7 (μ 15 n).toNat + g_st μ (μ 16 n)) then 1 else 0))), mkh μ c s)) := c_X12_areSeen (hL) (hS) (a := μ 15 t) (b := μ 15 n) (ea := μ 7 (μ 15 t).toNat + g_st μ (μ 16 t)) (eb := μ 7 (μ 15 n).toNat + g_st μ (μ 16 n)) (by assumption) (by assumption) (by omega) (by omega) (μ := μ) (c := c) (s := s); rw [if_pos hq7] at hz; exact hz) ?_
          show Rn PT none kX12_seenBy 33 [some (mR 118), some (mI ((t : Int))), some (mI (fO (fun j => g_see μ (μ 15 t) (g_eye μ t) j) n)), some (mI ((n : Int)))] [mI (1)] (mkh μ c s) _
          refine rn_if_eq (k' := 34) rfl rfl (fun hc8 => ?_) (fun hc8 => ?_)
          · exfalso; omega
          · skip
            refine rn_iload_n (k' := 35) rfl rfl rfl ?_
            refine rn_iconst (k' := 36) rfl rfl ?_
            refine rn_iload_n (k' := 37) rfl rfl rfl ?_
            refine rn_ishl (k' := 38) rfl rfl ?_
            refine rn_ior (k' := 39) rfl rfl ?_
            refine rn_istore_n (k' := 40) (L' := [some (mR 118), some (mI ((t : Int))), some (mI (m_or (fO (fun j => g_see μ (μ 15 t) (g_eye μ t) j) n) (m_shl (1) ((n : Int))))), some (mI ((n : Int)))]) rfl rfl (Nat.le_of_ble_eq_true rfl) rfl ?_
            refine rn_iinc (k' := 41) (L' := [some (mR 118), some (mI ((t : Int))), some (mI (m_or (fO (fun j => g_see μ (μ 15 t) (g_eye μ t) j) n) (m_shl (1) ((n : Int))))), some (mI ((n : Int) + 1))]) rfl rfl rfl (by omega) rfl ?_
            refine rn_goto rfl ?_
            exact ih (n + 1) _ _ (by omega) (by first | exact (fO_pos (p := (fun j => g_see μ (μ 15 t) (g_eye μ t) j)) (by assumption)).symm | exact (fO_neg (p := (fun j => g_see μ (μ 15 t) (g_eye μ t) j)) (by assumption)).symm | exact (fO_neg (p := (fun j => g_see μ (μ 15 t) (g_eye μ t) j)) (fun z => z.2.1.1 (by rw [show n = t by omega]))).symm) (by omega)
        · refine rn_callP (k' := 33) (y := 228) (vs := [mR 118, mI (μ 15 t), mI (μ 7 (μ 15 t).toNat + g_st μ (μ 16 t)), mI (μ 15 n), mI (μ 7 (μ 15 n).toNat + g_st μ (μ 16 n))]) (S' := []) (v := some (mI 0)) (h' := mkh μ c s) rfl rfl rfl (by have hz : Cl PT 228 [mR 118, mI (μ 15 t), mI (μ 7 (μ 15 t).toNat + g_st μ (μ 16 t)), mI (μ 15 n), mI (μ 7 (μ 15 n).toNat + g_st μ (μ 16 n))] (mkh μ c s) (fun r => r = (some (some (mI (if g_w μ 2 (μ 14 0) < (if μ 7 (μ 15 t).toNat + g_st μ (μ 16 t) < μ 7 (μ 15 n).toNat + g_st μ (μ 16 n) then μ 7 (μ 15 t).toNat + g_st μ (μ 16 t) else μ 7 (μ 15 n).toNat + g_st μ (μ 16 n)) ∧ g_seen μ (μ 15 t) (μ 15 n) (if μ 7 (μ 15 t).toNat + g_st μ (μ 16 t) < μ 7 (μ 15 n).toNat + g_st μ (μ 16 n) then μ 7 (μ 15 t).toNat + g_st μ (μ 16 t) else μ 7 (μ 15 n).toNat + g_st μ (μ 16 n)) then 1 else 0))), mkh μ c s)) := c_X12_areSeen (hL) (hS) (a := μ 15 t) (b := μ 15 n) (ea := μ 7 (μ 15 t).toNat + g_st μ (μ 16 t)) (eb := μ 7 (μ 15 n).toNat + g_st μ (μ 16 n)) (by assumption) (by assumption) (by omega) (by omega) (μ := μ) (c := c) (s := s); rw [if_neg hq7] at hz; exact hz) ?_
          show Rn PT none kX12_seenBy 33 [some (mR 118), some (mI ((t : Int))), some (mI (fO (fun j => g_see μ (μ 15 t) (g_eye μ t) j) n)), some (mI ((n : Int)))] [mI (0)] (mkh μ c s) _
          refine rn_if_eq (k' := 34) rfl rfl (fun hc9 => ?_) (fun hc9 => ?_)
          · skip
            refine rn_iinc (k' := 41) (L' := [some (mR 118), some (mI ((t : Int))), some (mI (fO (fun j => g_see μ (μ 15 t) (g_eye μ t) j) n)), some (mI ((n : Int) + 1))]) rfl rfl rfl (by omega) rfl ?_
            refine rn_goto rfl ?_
            exact ih (n + 1) _ _ (by omega) (by first | exact (fO_pos (p := (fun j => g_see μ (μ 15 t) (g_eye μ t) j)) (by assumption)).symm | exact (fO_neg (p := (fun j => g_see μ (μ 15 t) (g_eye μ t) j)) (by assumption)).symm | exact (fO_neg (p := (fun j => g_see μ (μ 15 t) (g_eye μ t) j)) (fun z => z.2.1.1 (by rw [show n = t by omega]))).symm) (by omega)
          · exfalso; omega
set_option maxHeartbeats 2000000 in
theorem c_X12_seenBy {μ : Nat → Nat → Int} {c s : Nat} (hL : I_land μ) (hS : I_scene μ) {t : Nat} (ht : (t : Int) < μ 6 13) : Cl PT 229 [mR 118, mI ((t : Int))] (mkh μ c s) (fun r => r = (some (some (mI (g_who μ (μ 15 t) (g_eye μ t)))), mkh (μ) c s)) := by
  have hL_ := hL
  obtain ⟨lc, lr, le, lm, lw, lh, lwo, lwd, q0, q1, q2, q3, q4, q8, q499, q500, lth, lG, lT, lW, -⟩ := hL_
  have hS_ := hS
  obtain ⟨sd, sw, stk, s4, s5, s6, hC, hH, -, s10, sce, swc, s13⟩ := hS_
  refine ⟨_, PT_229, Nat.le_of_ble_eq_true rfl, ?_⟩
  show Rn PT none kX12_seenBy 0 [some (mR 118), some (mI ((t : Int))), none, none] [] (mkh μ c s) _
  refine rn_iconst (k' := 1) rfl rfl ?_
  refine rn_istore_n (k' := 2) (L' := [some (mR 118), some (mI ((t : Int))), some (mI (0)), none]) rfl rfl (Nat.le_of_ble_eq_true rfl) rfl ?_
  refine rn_iconst (k' := 3) rfl rfl ?_
  refine rn_istore_n (k' := 4) (L' := [some (mR 118), some (mI ((t : Int))), some (mI (0)), some (mI (0))]) rfl rfl (Nat.le_of_ble_eq_true rfl) rfl ?_
  exact l_X12_seenBy hL hS ht (μ 6 13).toNat 0 _ _ rfl rfl (by omega)
theorem c_X12_areSeen0 {μ : Nat → Nat → Int} {c s : Nat} {v : Int} (hL : I_land μ) (hS : I_scene μ) {a b ea eb : Int} (ha : g_cell μ a) (hb : g_cell μ b) (hea : -1000 ≤ ea ∧ ea ≤ 1000) (heb : -1000 ≤ eb ∧ eb ≤ 1000) : Cl PT 228 [mR 118, mI a, mI ea, mI b, mI eb] (mkh (m_set μ 118 0 v) c s) (fun r => r = (some (some (mI (if g_w μ 2 (μ 14 0) < (if ea < eb then ea else eb) ∧ g_seen μ a b (if ea < eb then ea else eb) then 1 else 0))), mkh (m_set μ 118 0 v) c s)) := by
  have h := c_X12_areSeen (μ := m_set μ 118 0 v) (c := c) (s := s) (hL.set rfl) (hS.set rfl) (a := a) (b := b) (ea := ea) (eb := eb) ha hb hea heb
  simp only [g_seen, cl_rows (ν := m_set μ 118 0 v) (μ := μ) rfl] at h
  exact h
set_option maxHeartbeats 4000000 in
theorem t_X11_sees {μ : Nat → Nat → Int} {c s : Nat} (hL : I_land μ) (hS : I_scene μ) {a0 : Int} : Cl PT 130 [mR 0, mI a0] (mkh μ c s) (fun r => ∃ μ1, r = (some (some (mI (if 0 ≤ a0 ∧ a0 < μ 6 13 then g_who μ (μ 15 a0.toNat) (g_eye μ a0.toNat) else -1))), mkh μ1 c s) ∧ rst μ1 = rst μ) := by
  have hL_ := hL
  obtain ⟨lc, lr, le, lm, lw, lh, lwo, lwd, q0, q1, q2, q3, q4, q8, q499, q500, lth, lG, lT, lW, -⟩ := hL_
  have hS_ := hS
  obtain ⟨sd, sw, stk, s4, s5, s6, hC, hH, -, s10, sce, swc, s13⟩ := hS_
  by_cases hv : 0 ≤ a0 ∧ a0 < μ 6 13
  · rw [if_pos hv]
    obtain ⟨t, rfl⟩ := Int.eq_ofNat_of_zero_le hv.1
    rw [show ((t : Int)).toNat = t from rfl]
    refine ⟨_, PT_130, Nat.le_of_ble_eq_true rfl, ?_⟩
    show Rn PT none kX11_sees 0 [some (mR 0), some (mI ((t : Int)))] [] (mkh μ c s) _
    refine rn_aload_n (k' := 1) rfl rfl rfl ?_
    refine rn_iload_n (k' := 2) rfl rfl rfl ?_
    by_cases hq1 : 0 ≤ (t : Int) ∧ (t : Int) < μ 6 13
    · refine rn_callP (k' := 3) (y := 151) (vs := [mR 0, mI ((t : Int))]) (S' := []) (v := some (mI 1)) (h' := mkh μ c s) rfl rfl rfl (by have hz : Cl PT 151 [mR 0, mI ((t : Int))] (mkh μ c s) (fun r => r = (some (some (mI (if 0 ≤ (t : Int) ∧ (t : Int) < μ 6 13 then 1 else 0))), mkh μ c s)) := c_X11_isHerd (hL) (a := (t : Int)) (μ := μ) (c := c) (s := s); rw [if_pos hq1] at hz; exact hz) ?_
      show Rn PT none kX11_sees 3 [some (mR 0), some (mI ((t : Int)))] [mI (1)] (mkh μ c s) _
      refine rn_if_eq (k' := 4) rfl rfl (fun hc2 => ?_) (fun hc2 => ?_)
      · exfalso; omega
      · skip
        refine rn_aload_n (k' := 5) rfl rfl rfl ?_
        refine rn_getR (k' := 6) rfl rfl K0_0 (by decide) rfl R0_0_10 ?_
        refine rn_iload_n (k' := 7) rfl rfl rfl ?_
        have hcl3 := c_X9_seenBy (μ := μ) (c := c) (s := s) (hL) (hS) (t := t) (by show (t : Int) < μ 6 13; omega)
        refine rn_callP (k' := 8) (y := 79) (vs := [mR 81, mI ((t : Int))]) (S' := []) (v := some (mI (g_who μ (μ 15 t) (g_eye μ t)))) (h' := mkh μ c s) rfl rfl rfl (hcl3) ?_
        show Rn PT none kX11_sees 8 [some (mR 0), some (mI ((t : Int)))] [mI (g_who μ (μ 15 t) (g_eye μ t))] (mkh μ c s) _
        refine rn_goto rfl ?_
        refine rn_iret rfl (Or.inl rfl) ?_
        exact ⟨μ, rfl, rfl⟩
    · exfalso; omega
  · rw [if_neg hv]
    refine ⟨_, PT_130, Nat.le_of_ble_eq_true rfl, ?_⟩
    show Rn PT none kX11_sees 0 [some (mR 0), some (mI (a0))] [] (mkh μ c s) _
    refine rn_aload_n (k' := 1) rfl rfl rfl ?_
    refine rn_iload_n (k' := 2) rfl rfl rfl ?_
    by_cases hq1 : 0 ≤ a0 ∧ a0 < μ 6 13
    · refine rn_callP (k' := 3) (y := 151) (vs := [mR 0, mI (a0)]) (S' := []) (v := some (mI 1)) (h' := mkh μ c s) rfl rfl rfl (by have hz : Cl PT 151 [mR 0, mI (a0)] (mkh μ c s) (fun r => r = (some (some (mI (if 0 ≤ a0 ∧ a0 < μ 6 13 then 1 else 0))), mkh μ c s)) := c_X11_isHerd (hL) (a := a0) (μ := μ) (c := c) (s := s); rw [if_pos hq1] at hz; exact hz) ?_
      show Rn PT none kX11_sees 3 [some (mR 0), some (mI (a0))] [mI (1)] (mkh μ c s) _
      refine rn_if_eq (k' := 4) rfl rfl (fun hc2 => ?_) (fun hc2 => ?_)
      · exfalso; omega
      · skip
        refine rn_aload_n (k' := 5) rfl rfl rfl ?_
        refine rn_getR (k' := 6) rfl rfl K0_0 (by decide) rfl R0_0_10 ?_
        refine rn_iload_n (k' := 7) rfl rfl rfl ?_
        exfalso; omega
    · refine rn_callP (k' := 3) (y := 151) (vs := [mR 0, mI (a0)]) (S' := []) (v := some (mI 0)) (h' := mkh μ c s) rfl rfl rfl (by have hz : Cl PT 151 [mR 0, mI (a0)] (mkh μ c s) (fun r => r = (some (some (mI (if 0 ≤ a0 ∧ a0 < μ 6 13 then 1 else 0))), mkh μ c s)) := c_X11_isHerd (hL) (a := a0) (μ := μ) (c := c) (s := s); rw [if_neg hq1] at hz; exact hz) ?_
      show Rn PT none kX11_sees 3 [some (mR 0), some (mI (a0))] [mI (0)] (mkh μ c s) _
      refine rn_if_eq (k' := 4) rfl rfl (fun hc3 => ?_) (fun hc3 => ?_)
      · skip
        refine rn_iconst (k' := 10) rfl rfl ?_
        refine rn_iret rfl (Or.inl rfl) ?_
        exact ⟨μ, rfl, rfl⟩
      · exfalso; omega
set_option maxHeartbeats 4000000 in
theorem t_X12_sees {μ : Nat → Nat → Int} {c s : Nat} (hL : I_land μ) (hS : I_scene μ) {a0 : Int} : Cl PT 230 [mR 118, mI a0] (mkh μ c s) (fun r => ∃ μ1, r = (some (some (mI (if 0 ≤ a0 ∧ a0 < μ 6 13 then g_who μ (μ 15 a0.toNat) (g_eye μ a0.toNat) else -1))), mkh μ1 c s) ∧ rst μ1 = rst μ) := by
  have hL_ := hL
  obtain ⟨lc, lr, le, lm, lw, lh, lwo, lwd, q0, q1, q2, q3, q4, q8, q499, q500, lth, lG, lT, lW, -⟩ := hL_
  have hS_ := hS
  obtain ⟨sd, sw, stk, s4, s5, s6, hC, hH, -, s10, sce, swc, s13⟩ := hS_
  by_cases hv : 0 ≤ a0 ∧ a0 < μ 6 13
  · rw [if_pos hv]
    obtain ⟨t, rfl⟩ := Int.eq_ofNat_of_zero_le hv.1
    rw [show ((t : Int)).toNat = t from rfl]
    refine ⟨_, PT_230, Nat.le_of_ble_eq_true rfl, ?_⟩
    show Rn PT none kX12_sees 0 [some (mR 118), some (mI ((t : Int)))] [] (mkh μ c s) _
    refine rn_aload_n (k' := 1) rfl rfl rfl ?_
    refine rn_iconst (k' := 2) rfl rfl ?_
    refine rn_putI (k' := 3) rfl rfl K0_118 (by decide) rfl ?_
    refine rn_aload_n (k' := 4) rfl rfl rfl ?_
    refine rn_iload_n (k' := 5) rfl rfl rfl ?_
    by_cases hq2 : 0 ≤ (t : Int) ∧ (t : Int) < μ 6 13
    · refine rn_callP (k' := 6) (y := 193) (vs := [mR 118, mI ((t : Int))]) (S' := []) (v := some (mI 1)) (h' := mkh (m_set μ 118 0 (0)) c s) rfl rfl rfl (by have hz : Cl PT 193 [mR 118, mI ((t : Int))] (mkh (m_set μ 118 0 (0)) c s) (fun r => r = (some (some (mI (if 0 ≤ (t : Int) ∧ (t : Int) < μ 6 13 then 1 else 0))), mkh (m_set μ 118 0 (0)) c s)) := c_X12_isHerd ((hL).set rfl) (a := (t : Int)) (μ := (m_set μ 118 0 (0))) (c := c) (s := s); rw [if_pos hq2] at hz; exact hz) ?_
      show Rn PT none kX12_sees 6 [some (mR 118), some (mI ((t : Int)))] [mI (1)] (mkh (m_set μ 118 0 (0)) c s) _
      refine rn_if_eq (k' := 7) rfl rfl (fun hc3 => ?_) (fun hc3 => ?_)
      · exfalso; omega
      · skip
        refine rn_aload_n (k' := 8) rfl rfl rfl ?_
        refine rn_iload_n (k' := 9) rfl rfl rfl ?_
        have hcl4 := c_X12_seenBy (μ := (m_set μ 118 0 (0))) (c := c) (s := s) ((hL).set rfl) ((hS).set rfl) (t := t) (by show (t : Int) < μ 6 13; omega)
        rw [g_who_rows (ν := (m_set μ 118 0 (0))) (μ := μ) rfl rfl rfl rfl rfl rfl] at hcl4
        refine rn_callP (k' := 10) (y := 229) (vs := [mR 118, mI ((t : Int))]) (S' := []) (v := some (mI (g_who μ (μ 15 t) (g_eye μ t)))) (h' := mkh (m_set μ 118 0 (0)) c s) rfl rfl rfl (hcl4) ?_
        show Rn PT none kX12_sees 10 [some (mR 118), some (mI ((t : Int)))] [mI (g_who μ (μ 15 t) (g_eye μ t))] (mkh (m_set μ 118 0 (0)) c s) _
        refine rn_goto rfl ?_
        refine rn_iret rfl (Or.inl rfl) ?_
        exact ⟨(m_set μ 118 0 (0)), rfl, (rst_set (a := 118) (j := 0) rfl)⟩
    · exfalso; omega
  · rw [if_neg hv]
    refine ⟨_, PT_230, Nat.le_of_ble_eq_true rfl, ?_⟩
    show Rn PT none kX12_sees 0 [some (mR 118), some (mI (a0))] [] (mkh μ c s) _
    refine rn_aload_n (k' := 1) rfl rfl rfl ?_
    refine rn_iconst (k' := 2) rfl rfl ?_
    refine rn_putI (k' := 3) rfl rfl K0_118 (by decide) rfl ?_
    refine rn_aload_n (k' := 4) rfl rfl rfl ?_
    refine rn_iload_n (k' := 5) rfl rfl rfl ?_
    by_cases hq2 : 0 ≤ a0 ∧ a0 < μ 6 13
    · refine rn_callP (k' := 6) (y := 193) (vs := [mR 118, mI (a0)]) (S' := []) (v := some (mI 1)) (h' := mkh (m_set μ 118 0 (0)) c s) rfl rfl rfl (by have hz : Cl PT 193 [mR 118, mI (a0)] (mkh (m_set μ 118 0 (0)) c s) (fun r => r = (some (some (mI (if 0 ≤ a0 ∧ a0 < μ 6 13 then 1 else 0))), mkh (m_set μ 118 0 (0)) c s)) := c_X12_isHerd ((hL).set rfl) (a := a0) (μ := (m_set μ 118 0 (0))) (c := c) (s := s); rw [if_pos hq2] at hz; exact hz) ?_
      show Rn PT none kX12_sees 6 [some (mR 118), some (mI (a0))] [mI (1)] (mkh (m_set μ 118 0 (0)) c s) _
      refine rn_if_eq (k' := 7) rfl rfl (fun hc3 => ?_) (fun hc3 => ?_)
      · exfalso; omega
      · skip
        refine rn_aload_n (k' := 8) rfl rfl rfl ?_
        refine rn_iload_n (k' := 9) rfl rfl rfl ?_
        exfalso; omega
    · refine rn_callP (k' := 6) (y := 193) (vs := [mR 118, mI (a0)]) (S' := []) (v := some (mI 0)) (h' := mkh (m_set μ 118 0 (0)) c s) rfl rfl rfl (by have hz : Cl PT 193 [mR 118, mI (a0)] (mkh (m_set μ 118 0 (0)) c s) (fun r => r = (some (some (mI (if 0 ≤ a0 ∧ a0 < μ 6 13 then 1 else 0))), mkh (m_set μ 118 0 (0)) c s)) := c_X12_isHerd ((hL).set rfl) (a := a0) (μ := (m_set μ 118 0 (0))) (c := c) (s := s); rw [if_neg hq2] at hz; exact hz) ?_
      show Rn PT none kX12_sees 6 [some (mR 118), some (mI (a0))] [mI (0)] (mkh (m_set μ 118 0 (0)) c s) _
      refine rn_if_eq (k' := 7) rfl rfl (fun hc4 => ?_) (fun hc4 => ?_)
      · skip
        refine rn_iconst (k' := 12) rfl rfl ?_
        refine rn_iret rfl (Or.inl rfl) ?_
        exact ⟨(m_set μ 118 0 (0)), rfl, (rst_set (a := 118) (j := 0) rfl)⟩
      · exfalso; omega
theorem pair_20 : ∀ (a0 : Int), i32 a0 → PairI (Inv N) 130 230 [mI a0] := by
  intro a0 ha0
  exact pair_of (fun ν => if 0 ≤ a0 ∧ a0 < ν 6 13 then g_who ν (ν 15 a0.toNat) (g_eye ν a0.toNat) else -1) (fun μ c s hI => t_X11_sees hI.land hI.scene) (fun μ c s hI => t_X12_sees hI.land hI.scene) (fun μ ν h => by
    have e6 := row_rst h (a := 6) (fun _ => rfl)
    have e7 := row_rst h (a := 7) (fun _ => rfl)
    have e8 := row_rst h (a := 8) (fun _ => rfl)
    have e10 := row_rst h (a := 10) (fun _ => rfl)
    have e14 := row_rst h (a := 14) (fun _ => rfl)
    have e15 := row_rst h (a := 15) (fun _ => rfl)
    have e16 := row_rst h (a := 16) (fun _ => rfl)
    simp only [g_cell, g_w, g_st, g_dep, e6, e7, e8, e10, e14, e15, e16, g_steps_rows e6 e7 e8, g_reach_rows e6 e7 e8, g_far_rows e6 e7 e8, g_who_rows e6 e7 e10 e14 e15 e16, g_eye])
set_option maxHeartbeats 4000000 in
theorem t_X11_saw {μ : Nat → Nat → Int} {c s : Nat} (hL : I_land μ) (hS : I_scene μ) {a0 a1 : Int} (h0 : i32 a0) (h1 : i32 a1) : Cl PT 131 [mR 0, mI a0, mI a1] (mkh μ c s) (fun r => ∃ μ1, r = (some (some (mI (if g_cell μ a0 ∧ 0 ≤ a1 ∧ a1 ≤ 99 then fO (fun j => μ 15 j = a0 ∨ g_see μ a0 (μ 7 a0.toNat + a1) j) (μ 6 13).toNat else -1))), mkh μ1 c s) ∧ rst μ1 = rst μ) := by
  have hL_ := hL
  obtain ⟨lc, lr, le, lm, lw, lh, lwo, lwd, q0, q1, q2, q3, q4, q8, q499, q500, lth, lG, lT, lW, -⟩ := hL_
  have hS_ := hS
  obtain ⟨sd, sw, stk, s4, s5, s6, hC, hH, -, s10, sce, swc, s13⟩ := hS_
  by_cases hv : g_cell μ a0 ∧ 0 ≤ a1 ∧ a1 ≤ 99
  · rw [if_pos hv]
    have hv_ := hv
    obtain ⟨hv1, hv2⟩ := hv_
    have hgb := g_cell_b hL hv1
    have hgg := lG a0.toNat
    refine ⟨_, PT_131, Nat.le_of_ble_eq_true rfl, ?_⟩
    show Rn PT none kX11_saw 0 [some (mR 0), some (mI (a0)), some (mI (a1))] [] (mkh μ c s) _
    refine rn_aload_n (k' := 1) rfl rfl rfl ?_
    refine rn_getR (k' := 2) rfl rfl K0_0 (by decide) rfl R0_0_3 ?_
    refine rn_iload_n (k' := 3) rfl rfl rfl ?_
    by_cases hq1 : g_cell μ a0
    · refine rn_callP (k' := 4) (y := 30) (vs := [mR 6, mI (a0)]) (S' := []) (v := some (mI 1)) (h' := mkh μ c s) rfl rfl rfl (by have hz : Cl PT 30 [mR 6, mI (a0)] (mkh μ c s) (fun r => r = (some (some (mI (if g_cell μ a0 then 1 else 0))), mkh μ c s)) := k_hasCell (a := a0) (by omega) (μ := μ) (c := c) (s := s); rw [if_pos hq1] at hz; exact hz) ?_
      show Rn PT none kX11_saw 4 [some (mR 0), some (mI (a0)), some (mI (a1))] [mI (1)] (mkh μ c s) _
      refine rn_if_eq (k' := 5) rfl rfl (fun hc2 => ?_) (fun hc2 => ?_)
      · exfalso; omega
      · skip
        refine rn_iload_n (k' := 6) rfl rfl rfl ?_
        by_cases hq3 : 0 ≤ a1 ∧ a1 ≤ 99
        · refine rn_callP (k' := 7) (y := 153) (vs := [mI (a1)]) (S' := []) (v := some (mI 1)) (h' := mkh μ c s) rfl rfl rfl (by have hz : Cl PT 153 [mI (a1)] (mkh μ c s) (fun r => r = (some (some (mI (if 0 ≤ a1 ∧ a1 ≤ 99 then 1 else 0))), mkh μ c s)) := c_X11_isNumber (a := a1) (μ := μ) (c := c) (s := s); rw [if_pos hq3] at hz; exact hz) ?_
          show Rn PT none kX11_saw 7 [some (mR 0), some (mI (a0)), some (mI (a1))] [mI (1)] (mkh μ c s) _
          refine rn_if_ne (k' := 8) rfl rfl (fun hc4 => ?_) (fun hc4 => ?_)
          · skip
            refine rn_aload_n (k' := 11) rfl rfl rfl ?_
            refine rn_iload_n (k' := 12) rfl rfl rfl ?_
            refine rn_callP (k' := 13) (y := 158) (vs := [mR 0, mI (a0)]) (S' := []) (v := some (mI (fO (fun n => μ 15 n = a0) (μ 6 13).toNat))) (h' := mkh μ c s) rfl rfl rfl (c_X11_herdsOn (hL) (hS)) ?_
            show Rn PT none kX11_saw 13 [some (mR 0), some (mI (a0)), some (mI (a1))] [mI (fO (fun n => μ 15 n = a0) (μ 6 13).toNat)] (mkh μ c s) _
            refine rn_aload_n (k' := 14) rfl rfl rfl ?_
            refine rn_getR (k' := 15) rfl rfl K0_0 (by decide) rfl R0_0_10 ?_
            refine rn_iload_n (k' := 16) rfl rfl rfl ?_
            refine rn_aload_n (k' := 17) rfl rfl rfl ?_
            refine rn_getR (k' := 18) rfl rfl K0_0 (by decide) rfl R0_0_3 ?_
            refine rn_getR (k' := 19) rfl rfl K0_6 (by decide) rfl R0_6_0 ?_
            refine rn_iload_n (k' := 20) rfl rfl rfl ?_
            refine rn_iaload (k' := 21) rfl rfl K0_7 (by omega) (by omega) ?_
            have hb5 := lG ((a0).toNat)
            refine rn_iload_n (k' := 22) rfl rfl rfl ?_
            refine rn_iadd (k' := 23) rfl rfl (by omega) ?_
            have hcl6 := c_X9_whoSee (μ := μ) (c := c) (s := s) (hL) (hS) (a := a0) (e := (μ 7 ((a0).toNat)) + a1) (by assumption) (by omega)
            refine rn_callP (k' := 24) (y := 80) (vs := [mR 81, mI (a0), mI ((μ 7 ((a0).toNat)) + a1)]) (S' := [mI (fO (fun n => μ 15 n = a0) (μ 6 13).toNat)]) (v := some (mI (g_who μ a0 ((μ 7 ((a0).toNat)) + a1)))) (h' := mkh μ c s) rfl rfl rfl (hcl6) ?_
            show Rn PT none kX11_saw 24 [some (mR 0), some (mI (a0)), some (mI (a1))] [mI (g_who μ a0 ((μ 7 ((a0).toNat)) + a1)), mI (fO (fun n => μ 15 n = a0) (μ 6 13).toNat)] (mkh μ c s) _
            refine rn_ior (k' := 25) rfl rfl ?_
            refine rn_iret rfl (Or.inl rfl) ?_
            refine ⟨μ, ?_, rfl⟩
            unfold g_who
            rw [fO_or (by omega)]
          · exfalso; omega
        · exfalso; omega
    · exfalso; omega
  · rw [if_neg hv]
    refine ⟨_, PT_131, Nat.le_of_ble_eq_true rfl, ?_⟩
    show Rn PT none kX11_saw 0 [some (mR 0), some (mI (a0)), some (mI (a1))] [] (mkh μ c s) _
    refine rn_aload_n (k' := 1) rfl rfl rfl ?_
    refine rn_getR (k' := 2) rfl rfl K0_0 (by decide) rfl R0_0_3 ?_
    refine rn_iload_n (k' := 3) rfl rfl rfl ?_
    by_cases hq1 : g_cell μ a0
    · refine rn_callP (k' := 4) (y := 30) (vs := [mR 6, mI (a0)]) (S' := []) (v := some (mI 1)) (h' := mkh μ c s) rfl rfl rfl (by have hz : Cl PT 30 [mR 6, mI (a0)] (mkh μ c s) (fun r => r = (some (some (mI (if g_cell μ a0 then 1 else 0))), mkh μ c s)) := k_hasCell (a := a0) (by omega) (μ := μ) (c := c) (s := s); rw [if_pos hq1] at hz; exact hz) ?_
      show Rn PT none kX11_saw 4 [some (mR 0), some (mI (a0)), some (mI (a1))] [mI (1)] (mkh μ c s) _
      refine rn_if_eq (k' := 5) rfl rfl (fun hc2 => ?_) (fun hc2 => ?_)
      · exfalso; omega
      · skip
        refine rn_iload_n (k' := 6) rfl rfl rfl ?_
        by_cases hq3 : 0 ≤ a1 ∧ a1 ≤ 99
        · refine rn_callP (k' := 7) (y := 153) (vs := [mI (a1)]) (S' := []) (v := some (mI 1)) (h' := mkh μ c s) rfl rfl rfl (by have hz : Cl PT 153 [mI (a1)] (mkh μ c s) (fun r => r = (some (some (mI (if 0 ≤ a1 ∧ a1 ≤ 99 then 1 else 0))), mkh μ c s)) := c_X11_isNumber (a := a1) (μ := μ) (c := c) (s := s); rw [if_pos hq3] at hz; exact hz) ?_
          show Rn PT none kX11_saw 7 [some (mR 0), some (mI (a0)), some (mI (a1))] [mI (1)] (mkh μ c s) _
          refine rn_if_ne (k' := 8) rfl rfl (fun hc4 => ?_) (fun hc4 => ?_)
          · skip
            refine rn_aload_n (k' := 11) rfl rfl rfl ?_
            refine rn_iload_n (k' := 12) rfl rfl rfl ?_
            refine rn_callP (k' := 13) (y := 158) (vs := [mR 0, mI (a0)]) (S' := []) (v := some (mI (fO (fun n => μ 15 n = a0) (μ 6 13).toNat))) (h' := mkh μ c s) rfl rfl rfl (c_X11_herdsOn (hL) (hS)) ?_
            show Rn PT none kX11_saw 13 [some (mR 0), some (mI (a0)), some (mI (a1))] [mI (fO (fun n => μ 15 n = a0) (μ 6 13).toNat)] (mkh μ c s) _
            refine rn_aload_n (k' := 14) rfl rfl rfl ?_
            refine rn_getR (k' := 15) rfl rfl K0_0 (by decide) rfl R0_0_10 ?_
            refine rn_iload_n (k' := 16) rfl rfl rfl ?_
            refine rn_aload_n (k' := 17) rfl rfl rfl ?_
            refine rn_getR (k' := 18) rfl rfl K0_0 (by decide) rfl R0_0_3 ?_
            refine rn_getR (k' := 19) rfl rfl K0_6 (by decide) rfl R0_6_0 ?_
            refine rn_iload_n (k' := 20) rfl rfl rfl ?_
            refine rn_iaload (k' := 21) rfl rfl K0_7 (by omega) (by omega) ?_
            have hb5 := lG ((a0).toNat)
            refine rn_iload_n (k' := 22) rfl rfl rfl ?_
            refine rn_iadd (k' := 23) rfl rfl (by omega) ?_
            exfalso; omega
          · exfalso; omega
        · refine rn_callP (k' := 7) (y := 153) (vs := [mI (a1)]) (S' := []) (v := some (mI 0)) (h' := mkh μ c s) rfl rfl rfl (by have hz : Cl PT 153 [mI (a1)] (mkh μ c s) (fun r => r = (some (some (mI (if 0 ≤ a1 ∧ a1 ≤ 99 then 1 else 0))), mkh μ c s)) := c_X11_isNumber (a := a1) (μ := μ) (c := c) (s := s); rw [if_neg hq3] at hz; exact hz) ?_
          show Rn PT none kX11_saw 7 [some (mR 0), some (mI (a0)), some (mI (a1))] [mI (0)] (mkh μ c s) _
          refine rn_if_ne (k' := 8) rfl rfl (fun hc6 => ?_) (fun hc6 => ?_)
          · exfalso; omega
          · skip
            refine rn_iconst (k' := 9) rfl rfl ?_
            refine rn_iret rfl (Or.inl rfl) ?_
            exact ⟨μ, rfl, rfl⟩
    · refine rn_callP (k' := 4) (y := 30) (vs := [mR 6, mI (a0)]) (S' := []) (v := some (mI 0)) (h' := mkh μ c s) rfl rfl rfl (by have hz : Cl PT 30 [mR 6, mI (a0)] (mkh μ c s) (fun r => r = (some (some (mI (if g_cell μ a0 then 1 else 0))), mkh μ c s)) := k_hasCell (a := a0) (by omega) (μ := μ) (c := c) (s := s); rw [if_neg hq1] at hz; exact hz) ?_
      show Rn PT none kX11_saw 4 [some (mR 0), some (mI (a0)), some (mI (a1))] [mI (0)] (mkh μ c s) _
      refine rn_if_eq (k' := 5) rfl rfl (fun hc7 => ?_) (fun hc7 => ?_)
      · skip
        refine rn_iconst (k' := 9) rfl rfl ?_
        refine rn_iret rfl (Or.inl rfl) ?_
        exact ⟨μ, rfl, rfl⟩
      · exfalso; omega
theorem see_back {μ : Nat → Nat → Int} (hL : I_land μ) (hS : I_scene μ) {a e : Int} {j : Nat} (ha : g_cell μ a) (hj : (j : Int) < μ 6 13) : (g_w μ 2 (μ 14 0) < (if g_eye μ j < e then g_eye μ j else e) ∧ g_seen μ (μ 15 j) a (if g_eye μ j < e then g_eye μ j else e)) ↔ g_see μ a e j := by
  show _ ↔ (g_w μ 2 (μ 14 0) < (if e < g_eye μ j then e else g_eye μ j) ∧ g_seen μ a (μ 15 j) (if e < g_eye μ j then e else g_eye μ j))
  rw [mn_c (g_eye μ j) e]
  exact and_congr_right (fun _ => g_seen_back hL ha (sc_cell hS hj))
set_option maxHeartbeats 4000000 in
theorem l_X12_saw {μ : Nat → Nat → Int} {c s : Nat} (hL : I_land μ) (hS : I_scene μ) {a0 a1 : Int} (hv1 : g_cell μ a0) (hv2 : 0 ≤ a1 ∧ a1 ≤ 99) : ∀ (d n : Nat) (k : Int) (acc : Int), k = (n : Int) → acc = fO (fun j => μ 15 j = a0 ∨ g_see μ a0 (μ 7 a0.toNat + a1) j) n → (n : Int) + d = μ 6 13 → Rn PT none kX12_saw 16 [some (mR 118), some (mI (a0)), some (mI (a1)), some (mI (acc)), some (mI (k))] [] (mkh (m_set μ 118 0 (0)) c s) (fun r => r = (some (some (mI (fO (fun j => μ 15 j = a0 ∨ g_see μ a0 (μ 7 a0.toNat + a1) j) (μ 6 13).toNat))), mkh ((m_set μ 118 0 (0))) c s)) := by
  have hL_ := hL
  obtain ⟨lc, lr, le, lm, lw, lh, lwo, lwd, q0, q1, q2, q3, q4, q8, q499, q500, lth, lG, lT, lW, -⟩ := hL_
  have hS_ := hS
  obtain ⟨sd, sw, stk, s4, s5, s6, hC, hH, -, s10, sce, swc, s13⟩ := hS_
  intro d
  induction d with
  | zero =>
    intro n k acc  ek eacc hn
    subst ek eacc
    refine rn_iload (k' := 17) rfl rfl rfl ?_
    refine rn_aload_n (k' := 18) rfl rfl rfl ?_
    refine rn_getR (k' := 19) rfl rfl K0_118 (by decide) rfl R0_118_6 ?_
    refine rn_bipush (k' := 20) rfl rfl ?_
    refine rn_iaload (k' := 21) rfl rfl K0_120 (by omega) (by omega) ?_
    show Rn PT none kX12_saw 21 [some (mR 118), some (mI (a0)), some (mI (a1)), some (mI (fO (fun j => μ 15 j = a0 ∨ g_see μ a0 (μ 7 a0.toNat + a1) j) n)), some (mI ((n : Int)))] [mI (μ 120 8), mI ((n : Int))] (mkh (m_set μ 118 0 (0)) c s) _
    rw [q8]
    refine rn_icmp_ge (k' := 22) rfl rfl (fun hc1 => ?_) (fun hc1 => ?_)
    · skip
      refine rn_iload_n (k' := 60) rfl rfl rfl ?_
      refine rn_iret rfl (Or.inl rfl) ?_
      rw [show (μ 6 13).toNat = n by omega]
    · exfalso; omega
  | succ d ih =>
    intro n k acc  ek eacc hn
    subst ek eacc
    have hcl := sc_cell hS (n := n) (by omega)
    have hey := g_eye_b hL hS n
    have hee : g_eye μ n = μ 7 (μ 15 n).toNat + g_st μ (μ 16 n) := rfl
    have hgb := g_cell_b hL hv1
    have hgg := lG a0.toNat
    refine rn_iload (k' := 17) rfl rfl rfl ?_
    refine rn_aload_n (k' := 18) rfl rfl rfl ?_
    refine rn_getR (k' := 19) rfl rfl K0_118 (by decide) rfl R0_118_6 ?_
    refine rn_bipush (k' := 20) rfl rfl ?_
    refine rn_iaload (k' := 21) rfl rfl K0_120 (by omega) (by omega) ?_
    show Rn PT none kX12_saw 21 [some (mR 118), some (mI (a0)), some (mI (a1)), some (mI (fO (fun j => μ 15 j = a0 ∨ g_see μ a0 (μ 7 a0.toNat + a1) j) n)), some (mI ((n : Int)))] [mI (μ 120 8), mI ((n : Int))] (mkh (m_set μ 118 0 (0)) c s) _
    rw [q8]
    refine rn_icmp_ge (k' := 22) rfl rfl (fun hc1 => ?_) (fun hc1 => ?_)
    · exfalso; omega
    · skip
      refine rn_aload_n (k' := 23) rfl rfl rfl ?_
      refine rn_getR (k' := 24) rfl rfl K0_118 (by decide) rfl R0_118_6 ?_
      refine rn_sipush (k' := 25) rfl rfl ?_
      refine rn_iload (k' := 26) rfl rfl rfl ?_
      refine rn_iadd (k' := 27) rfl rfl (by omega) ?_
      refine rn_iaload (k' := 28) rfl rfl K0_120 (by omega) (by omega) ?_
      show Rn PT none kX12_saw 28 [some (mR 118), some (mI (a0)), some (mI (a1)), some (mI (fO (fun j => μ 15 j = a0 ∨ g_see μ a0 (μ 7 a0.toNat + a1) j) n)), some (mI ((n : Int)))] [mI (μ 120 (518 + n))] (mkh (m_set μ 118 0 (0)) c s) _
      rw [(v_atN hS (n := n) (by omega)).1]
      have hb2 := (v_atN hS (n := n) (by omega)).2
      refine rn_iload_n (k' := 29) rfl rfl rfl ?_
      refine rn_icmp_eq (k' := 30) rfl rfl (fun hc3 => ?_) (fun hc3 => ?_)
      · skip
        refine rn_iload_n (k' := 52) rfl rfl rfl ?_
        refine rn_iconst (k' := 53) rfl rfl ?_
        refine rn_iload (k' := 54) rfl rfl rfl ?_
        refine rn_ishl (k' := 55) rfl rfl ?_
        refine rn_ior (k' := 56) rfl rfl ?_
        refine rn_istore_n (k' := 57) (L' := [some (mR 118), some (mI (a0)), some (mI (a1)), some (mI (m_or (fO (fun j => μ 15 j = a0 ∨ g_see μ a0 (μ 7 a0.toNat + a1) j) n) (m_shl (1) ((n : Int))))), some (mI ((n : Int)))]) rfl rfl (Nat.le_of_ble_eq_true rfl) rfl ?_
        refine rn_iinc (k' := 58) (L' := [some (mR 118), some (mI (a0)), some (mI (a1)), some (mI (m_or (fO (fun j => μ 15 j = a0 ∨ g_see μ a0 (μ 7 a0.toNat + a1) j) n) (m_shl (1) ((n : Int))))), some (mI ((n : Int) + 1))]) rfl rfl rfl (by omega) rfl ?_
        refine rn_goto rfl ?_
        exact ih (n + 1) _ _ (by omega) (by first | exact (fO_pos (p := (fun j => μ 15 j = a0 ∨ g_see μ a0 (μ 7 a0.toNat + a1) j)) (Or.inl (by omega))).symm | exact (fO_pos (p := (fun j => μ 15 j = a0 ∨ g_see μ a0 (μ 7 a0.toNat + a1) j)) (Or.inr ((see_back hL hS hv1 (by omega)).mp (by assumption)))).symm | exact (fO_neg (p := (fun j => μ 15 j = a0 ∨ g_see μ a0 (μ 7 a0.toNat + a1) j)) (fun z => z.elim (by assumption) (fun z2 => absurd ((see_back hL hS hv1 (by omega)).mpr z2) (by assumption)))).symm) (by omega)
      · skip
        refine rn_aload_n (k' := 31) rfl rfl rfl ?_
        refine rn_aload_n (k' := 32) rfl rfl rfl ?_
        refine rn_getR (k' := 33) rfl rfl K0_118 (by decide) rfl R0_118_6 ?_
        refine rn_sipush (k' := 34) rfl rfl ?_
        refine rn_iload (k' := 35) rfl rfl rfl ?_
        refine rn_iadd (k' := 36) rfl rfl (by omega) ?_
        refine rn_iaload (k' := 37) rfl rfl K0_120 (by omega) (by omega) ?_
        show Rn PT none kX12_saw 37 [some (mR 118), some (mI (a0)), some (mI (a1)), some (mI (fO (fun j => μ 15 j = a0 ∨ g_see μ a0 (μ 7 a0.toNat + a1) j) n)), some (mI ((n : Int)))] [mI (μ 120 (518 + n)), mR 118] (mkh (m_set μ 118 0 (0)) c s) _
        rw [(v_atN hS (n := n) (by omega)).1]
        have hb4 := (v_atN hS (n := n) (by omega)).2
        refine rn_aload_n (k' := 38) rfl rfl rfl ?_
        refine rn_iload (k' := 39) rfl rfl rfl ?_
        have hb5 := g_st_b hL (a := μ 16 n) (hH _).1
        have he5 := lG (μ 15 n).toNat
        refine rn_callP (k' := 40) (y := 199) (vs := [mR 118, mI ((n : Int))]) (S' := [mI (μ 15 n), mR 118]) (v := some (mI (μ 7 (μ 15 n).toNat + g_st μ (μ 16 n)))) (h' := mkh (m_set μ 118 0 (0)) c s) rfl rfl rfl (c_X12_eyeOf ((hL).set rfl) ((hS).set rfl) (by show 0 ≤ ((n : Int) : Int) ∧ ((n : Int) : Int) < μ 6 13; omega)) ?_
        show Rn PT none kX12_saw 40 [some (mR 118), some (mI (a0)), some (mI (a1)), some (mI (fO (fun j => μ 15 j = a0 ∨ g_see μ a0 (μ 7 a0.toNat + a1) j) n)), some (mI ((n : Int)))] [mI (μ 7 (μ 15 n).toNat + g_st μ (μ 16 n)), mI (μ 15 n), mR 118] (mkh (m_set μ 118 0 (0)) c s) _
        refine rn_iload_n (k' := 41) rfl rfl rfl ?_
        refine rn_aload_n (k' := 42) rfl rfl rfl ?_
        refine rn_getR (k' := 43) rfl rfl K0_118 (by decide) rfl R0_118_6 ?_
        refine rn_bipush (k' := 44) rfl rfl ?_
        refine rn_iload_n (k' := 45) rfl rfl rfl ?_
        refine rn_iadd (k' := 46) rfl rfl (by omega) ?_
        refine rn_iaload (k' := 47) rfl rfl K0_120 (by omega) (by omega) ?_
        show Rn PT none kX12_saw 47 [some (mR 118), some (mI (a0)), some (mI (a1)), some (mI (fO (fun j => μ 15 j = a0 ∨ g_see μ a0 (μ 7 a0.toNat + a1) j) n)), some (mI ((n : Int)))] [mI (μ 120 ((9 + a0).toNat)), mI (a0), mI (μ 7 (μ 15 n).toNat + g_st μ (μ 16 n)), mI (μ 15 n), mR 118] (mkh (m_set μ 118 0 (0)) c s) _
        rw [(v_g hL (a := a0) (by first | assumption | omega)).1]
        have hb6 := (v_g hL (a := a0) (by first | assumption | omega)).2
        refine rn_iload_n (k' := 48) rfl rfl rfl ?_
        refine rn_iadd (k' := 49) rfl rfl (by omega) ?_
        by_cases hq7 : g_w μ 2 (μ 14 0) < (if μ 7 (μ 15 n).toNat + g_st μ (μ 16 n) < (μ 7 (a0).toNat) + a1 then μ 7 (μ 15 n).toNat + g_st μ (μ 16 n) else (μ 7 (a0).toNat) + a1) ∧ g_seen μ (μ 15 n) a0 (if μ 7 (μ 15 n).toNat + g_st μ (μ 16 n) < (μ 7 (a0).toNat) + a1 then μ 7 (μ 15 n).toNat + g_st μ (μ 16 n) else (μ 7 (a0).toNat) + a1)
        · refine rn_callP (k' := 50) (y := 228) (vs := [mR 118, mI (μ 15 n), mI (μ 7 (μ 15 n).toNat + g_st μ (μ 16 n)), mI (a0), mI ((μ 7 (a0).toNat) + a1)]) (S' := []) (v := some (mI 1)) (h' := mkh (m_set μ 118 0 (0)) c s) rfl rfl rfl (by have hz : Cl PT 228 [mR 118, mI (μ 15 n), mI (μ 7 (μ 15 n).toNat + g_st μ (μ 16 n)), mI (a0), mI ((μ 7 (a0).toNat) + a1)] (mkh (m_set μ 118 0 (0)) c s) (fun r => r = (some (some (mI (if g_w μ 2 (μ 14 0) < (if μ 7 (μ 15 n).toNat + g_st μ (μ 16 n) < (μ 7 (a0).toNat) + a1 then μ 7 (μ 15 n).toNat + g_st μ (μ 16 n) else (μ 7 (a0).toNat) + a1) ∧ g_seen μ (μ 15 n) a0 (if μ 7 (μ 15 n).toNat + g_st μ (μ 16 n) < (μ 7 (a0).toNat) + a1 then μ 7 (μ 15 n).toNat + g_st μ (μ 16 n) else (μ 7 (a0).toNat) + a1) then 1 else 0))), mkh (m_set μ 118 0 (0)) c s)) := c_X12_areSeen0 hL hS (a := μ 15 n) (b := a0) (ea := μ 7 (μ 15 n).toNat + g_st μ (μ 16 n)) (eb := (μ 7 (a0).toNat) + a1) (by assumption) (by assumption) (by omega) (by omega); rw [if_pos hq7] at hz; exact hz) ?_
          show Rn PT none kX12_saw 50 [some (mR 118), some (mI (a0)), some (mI (a1)), some (mI (fO (fun j => μ 15 j = a0 ∨ g_see μ a0 (μ 7 a0.toNat + a1) j) n)), some (mI ((n : Int)))] [mI (1)] (mkh (m_set μ 118 0 (0)) c s) _
          refine rn_if_eq (k' := 51) rfl rfl (fun hc8 => ?_) (fun hc8 => ?_)
          · exfalso; omega
          · skip
            refine rn_iload_n (k' := 52) rfl rfl rfl ?_
            refine rn_iconst (k' := 53) rfl rfl ?_
            refine rn_iload (k' := 54) rfl rfl rfl ?_
            refine rn_ishl (k' := 55) rfl rfl ?_
            refine rn_ior (k' := 56) rfl rfl ?_
            refine rn_istore_n (k' := 57) (L' := [some (mR 118), some (mI (a0)), some (mI (a1)), some (mI (m_or (fO (fun j => μ 15 j = a0 ∨ g_see μ a0 (μ 7 a0.toNat + a1) j) n) (m_shl (1) ((n : Int))))), some (mI ((n : Int)))]) rfl rfl (Nat.le_of_ble_eq_true rfl) rfl ?_
            refine rn_iinc (k' := 58) (L' := [some (mR 118), some (mI (a0)), some (mI (a1)), some (mI (m_or (fO (fun j => μ 15 j = a0 ∨ g_see μ a0 (μ 7 a0.toNat + a1) j) n) (m_shl (1) ((n : Int))))), some (mI ((n : Int) + 1))]) rfl rfl rfl (by omega) rfl ?_
            refine rn_goto rfl ?_
            exact ih (n + 1) _ _ (by omega) (by first | exact (fO_pos (p := (fun j => μ 15 j = a0 ∨ g_see μ a0 (μ 7 a0.toNat + a1) j)) (Or.inl (by omega))).symm | exact (fO_pos (p := (fun j => μ 15 j = a0 ∨ g_see μ a0 (μ 7 a0.toNat + a1) j)) (Or.inr ((see_back hL hS hv1 (by omega)).mp (by assumption)))).symm | exact (fO_neg (p := (fun j => μ 15 j = a0 ∨ g_see μ a0 (μ 7 a0.toNat + a1) j)) (fun z => z.elim (by assumption) (fun z2 => absurd ((see_back hL hS hv1 (by omega)).mpr z2) (by assumption)))).symm) (by omega)
        · refine rn_callP (k' := 50) (y := 228) (vs := [mR 118, mI (μ 15 n), mI (μ 7 (μ 15 n).toNat + g_st μ (μ 16 n)), mI (a0), mI ((μ 7 (a0).toNat) + a1)]) (S' := []) (v := some (mI 0)) (h' := mkh (m_set μ 118 0 (0)) c s) rfl rfl rfl (by have hz : Cl PT 228 [mR 118, mI (μ 15 n), mI (μ 7 (μ 15 n).toNat + g_st μ (μ 16 n)), mI (a0), mI ((μ 7 (a0).toNat) + a1)] (mkh (m_set μ 118 0 (0)) c s) (fun r => r = (some (some (mI (if g_w μ 2 (μ 14 0) < (if μ 7 (μ 15 n).toNat + g_st μ (μ 16 n) < (μ 7 (a0).toNat) + a1 then μ 7 (μ 15 n).toNat + g_st μ (μ 16 n) else (μ 7 (a0).toNat) + a1) ∧ g_seen μ (μ 15 n) a0 (if μ 7 (μ 15 n).toNat + g_st μ (μ 16 n) < (μ 7 (a0).toNat) + a1 then μ 7 (μ 15 n).toNat + g_st μ (μ 16 n) else (μ 7 (a0).toNat) + a1) then 1 else 0))), mkh (m_set μ 118 0 (0)) c s)) := c_X12_areSeen0 hL hS (a := μ 15 n) (b := a0) (ea := μ 7 (μ 15 n).toNat + g_st μ (μ 16 n)) (eb := (μ 7 (a0).toNat) + a1) (by assumption) (by assumption) (by omega) (by omega); rw [if_neg hq7] at hz; exact hz) ?_
          show Rn PT none kX12_saw 50 [some (mR 118), some (mI (a0)), some (mI (a1)), some (mI (fO (fun j => μ 15 j = a0 ∨ g_see μ a0 (μ 7 a0.toNat + a1) j) n)), some (mI ((n : Int)))] [mI (0)] (mkh (m_set μ 118 0 (0)) c s) _
          refine rn_if_eq (k' := 51) rfl rfl (fun hc9 => ?_) (fun hc9 => ?_)
          · skip
            refine rn_iinc (k' := 58) (L' := [some (mR 118), some (mI (a0)), some (mI (a1)), some (mI (fO (fun j => μ 15 j = a0 ∨ g_see μ a0 (μ 7 a0.toNat + a1) j) n)), some (mI ((n : Int) + 1))]) rfl rfl rfl (by omega) rfl ?_
            refine rn_goto rfl ?_
            exact ih (n + 1) _ _ (by omega) (by first | exact (fO_pos (p := (fun j => μ 15 j = a0 ∨ g_see μ a0 (μ 7 a0.toNat + a1) j)) (Or.inl (by omega))).symm | exact (fO_pos (p := (fun j => μ 15 j = a0 ∨ g_see μ a0 (μ 7 a0.toNat + a1) j)) (Or.inr ((see_back hL hS hv1 (by omega)).mp (by assumption)))).symm | exact (fO_neg (p := (fun j => μ 15 j = a0 ∨ g_see μ a0 (μ 7 a0.toNat + a1) j)) (fun z => z.elim (by assumption) (fun z2 => absurd ((see_back hL hS hv1 (by omega)).mpr z2) (by assumption)))).symm) (by omega)
          · exfalso; omega
set_option maxHeartbeats 4000000 in
theorem t_X12_saw {μ : Nat → Nat → Int} {c s : Nat} (hL : I_land μ) (hS : I_scene μ) {a0 a1 : Int} (h0 : i32 a0) (h1 : i32 a1) : Cl PT 231 [mR 118, mI a0, mI a1] (mkh μ c s) (fun r => ∃ μ1, r = (some (some (mI (if g_cell μ a0 ∧ 0 ≤ a1 ∧ a1 ≤ 99 then fO (fun j => μ 15 j = a0 ∨ g_see μ a0 (μ 7 a0.toNat + a1) j) (μ 6 13).toNat else -1))), mkh μ1 c s) ∧ rst μ1 = rst μ) := by
  have hL_ := hL
  obtain ⟨lc, lr, le, lm, lw, lh, lwo, lwd, q0, q1, q2, q3, q4, q8, q499, q500, lth, lG, lT, lW, -⟩ := hL_
  have hS_ := hS
  obtain ⟨sd, sw, stk, s4, s5, s6, hC, hH, -, s10, sce, swc, s13⟩ := hS_
  by_cases hv : g_cell μ a0 ∧ 0 ≤ a1 ∧ a1 ≤ 99
  · rw [if_pos hv]
    have hv_ := hv
    obtain ⟨hv1, hv2⟩ := hv_
    refine ⟨_, PT_231, Nat.le_of_ble_eq_true rfl, ?_⟩
    show Rn PT none kX12_saw 0 [some (mR 118), some (mI (a0)), some (mI (a1)), none, none] [] (mkh μ c s) _
    refine rn_aload_n (k' := 1) rfl rfl rfl ?_
    refine rn_iconst (k' := 2) rfl rfl ?_
    refine rn_putI (k' := 3) rfl rfl K0_118 (by decide) rfl ?_
    refine rn_aload_n (k' := 4) rfl rfl rfl ?_
    refine rn_iload_n (k' := 5) rfl rfl rfl ?_
    by_cases hq2 : g_cell μ a0
    · refine rn_callP (k' := 6) (y := 192) (vs := [mR 118, mI (a0)]) (S' := []) (v := some (mI 1)) (h' := mkh (m_set μ 118 0 (0)) c s) rfl rfl rfl (by have hz : Cl PT 192 [mR 118, mI (a0)] (mkh (m_set μ 118 0 (0)) c s) (fun r => r = (some (some (mI (if g_cell μ a0 then 1 else 0))), mkh (m_set μ 118 0 (0)) c s)) := c_X12_isCell ((hL).set rfl) (a := a0) (by omega) (μ := (m_set μ 118 0 (0))) (c := c) (s := s); rw [if_pos hq2] at hz; exact hz) ?_
      show Rn PT none kX12_saw 6 [some (mR 118), some (mI (a0)), some (mI (a1)), none, none] [mI (1)] (mkh (m_set μ 118 0 (0)) c s) _
      refine rn_if_eq (k' := 7) rfl rfl (fun hc3 => ?_) (fun hc3 => ?_)
      · exfalso; omega
      · skip
        refine rn_iload_n (k' := 8) rfl rfl rfl ?_
        by_cases hq4 : 0 ≤ a1 ∧ a1 ≤ 99
        · refine rn_callP (k' := 9) (y := 195) (vs := [mI (a1)]) (S' := []) (v := some (mI 1)) (h' := mkh (m_set μ 118 0 (0)) c s) rfl rfl rfl (by have hz : Cl PT 195 [mI (a1)] (mkh (m_set μ 118 0 (0)) c s) (fun r => r = (some (some (mI (if 0 ≤ a1 ∧ a1 ≤ 99 then 1 else 0))), mkh (m_set μ 118 0 (0)) c s)) := c_X12_isTall (a := a1) (μ := (m_set μ 118 0 (0))) (c := c) (s := s); rw [if_pos hq4] at hz; exact hz) ?_
          show Rn PT none kX12_saw 9 [some (mR 118), some (mI (a0)), some (mI (a1)), none, none] [mI (1)] (mkh (m_set μ 118 0 (0)) c s) _
          refine rn_if_ne (k' := 10) rfl rfl (fun hc5 => ?_) (fun hc5 => ?_)
          · skip
            refine rn_iconst (k' := 13) rfl rfl ?_
            refine rn_istore_n (k' := 14) (L' := [some (mR 118), some (mI (a0)), some (mI (a1)), some (mI (0)), none]) rfl rfl (Nat.le_of_ble_eq_true rfl) rfl ?_
            refine rn_iconst (k' := 15) rfl rfl ?_
            refine rn_istore (k' := 16) (L' := [some (mR 118), some (mI (a0)), some (mI (a1)), some (mI (0)), some (mI (0))]) rfl rfl (Nat.le_of_ble_eq_true rfl) rfl ?_
            exact (l_X12_saw hL hS hv1 hv2 (μ 6 13).toNat 0 _ _ rfl rfl (by omega)).mono1 (fun r hr => ⟨_, hr, (rst_set (a := 118) (j := 0) rfl)⟩)
          · exfalso; omega
        · exfalso; omega
    · exfalso; omega
  · rw [if_neg hv]
    refine ⟨_, PT_231, Nat.le_of_ble_eq_true rfl, ?_⟩
    show Rn PT none kX12_saw 0 [some (mR 118), some (mI (a0)), some (mI (a1)), none, none] [] (mkh μ c s) _
    refine rn_aload_n (k' := 1) rfl rfl rfl ?_
    refine rn_iconst (k' := 2) rfl rfl ?_
    refine rn_putI (k' := 3) rfl rfl K0_118 (by decide) rfl ?_
    refine rn_aload_n (k' := 4) rfl rfl rfl ?_
    refine rn_iload_n (k' := 5) rfl rfl rfl ?_
    by_cases hq2 : g_cell μ a0
    · refine rn_callP (k' := 6) (y := 192) (vs := [mR 118, mI (a0)]) (S' := []) (v := some (mI 1)) (h' := mkh (m_set μ 118 0 (0)) c s) rfl rfl rfl (by have hz : Cl PT 192 [mR 118, mI (a0)] (mkh (m_set μ 118 0 (0)) c s) (fun r => r = (some (some (mI (if g_cell μ a0 then 1 else 0))), mkh (m_set μ 118 0 (0)) c s)) := c_X12_isCell ((hL).set rfl) (a := a0) (by omega) (μ := (m_set μ 118 0 (0))) (c := c) (s := s); rw [if_pos hq2] at hz; exact hz) ?_
      show Rn PT none kX12_saw 6 [some (mR 118), some (mI (a0)), some (mI (a1)), none, none] [mI (1)] (mkh (m_set μ 118 0 (0)) c s) _
      refine rn_if_eq (k' := 7) rfl rfl (fun hc3 => ?_) (fun hc3 => ?_)
      · exfalso; omega
      · skip
        refine rn_iload_n (k' := 8) rfl rfl rfl ?_
        by_cases hq4 : 0 ≤ a1 ∧ a1 ≤ 99
        · refine rn_callP (k' := 9) (y := 195) (vs := [mI (a1)]) (S' := []) (v := some (mI 1)) (h' := mkh (m_set μ 118 0 (0)) c s) rfl rfl rfl (by have hz : Cl PT 195 [mI (a1)] (mkh (m_set μ 118 0 (0)) c s) (fun r => r = (some (some (mI (if 0 ≤ a1 ∧ a1 ≤ 99 then 1 else 0))), mkh (m_set μ 118 0 (0)) c s)) := c_X12_isTall (a := a1) (μ := (m_set μ 118 0 (0))) (c := c) (s := s); rw [if_pos hq4] at hz; exact hz) ?_
          show Rn PT none kX12_saw 9 [some (mR 118), some (mI (a0)), some (mI (a1)), none, none] [mI (1)] (mkh (m_set μ 118 0 (0)) c s) _
          refine rn_if_ne (k' := 10) rfl rfl (fun hc5 => ?_) (fun hc5 => ?_)
          · skip
            refine rn_iconst (k' := 13) rfl rfl ?_
            refine rn_istore_n (k' := 14) (L' := [some (mR 118), some (mI (a0)), some (mI (a1)), some (mI (0)), none]) rfl rfl (Nat.le_of_ble_eq_true rfl) rfl ?_
            refine rn_iconst (k' := 15) rfl rfl ?_
            refine rn_istore (k' := 16) (L' := [some (mR 118), some (mI (a0)), some (mI (a1)), some (mI (0)), some (mI (0))]) rfl rfl (Nat.le_of_ble_eq_true rfl) rfl ?_
            exfalso; omega
          · exfalso; omega
        · refine rn_callP (k' := 9) (y := 195) (vs := [mI (a1)]) (S' := []) (v := some (mI 0)) (h' := mkh (m_set μ 118 0 (0)) c s) rfl rfl rfl (by have hz : Cl PT 195 [mI (a1)] (mkh (m_set μ 118 0 (0)) c s) (fun r => r = (some (some (mI (if 0 ≤ a1 ∧ a1 ≤ 99 then 1 else 0))), mkh (m_set μ 118 0 (0)) c s)) := c_X12_isTall (a := a1) (μ := (m_set μ 118 0 (0))) (c := c) (s := s); rw [if_neg hq4] at hz; exact hz) ?_
          show Rn PT none kX12_saw 9 [some (mR 118), some (mI (a0)), some (mI (a1)), none, none] [mI (0)] (mkh (m_set μ 118 0 (0)) c s) _
          refine rn_if_ne (k' := 10) rfl rfl (fun hc6 => ?_) (fun hc6 => ?_)
          · exfalso; omega
          · skip
            refine rn_iconst (k' := 11) rfl rfl ?_
            refine rn_iret rfl (Or.inl rfl) ?_
            exact ⟨(m_set μ 118 0 (0)), rfl, (rst_set (a := 118) (j := 0) rfl)⟩
    · refine rn_callP (k' := 6) (y := 192) (vs := [mR 118, mI (a0)]) (S' := []) (v := some (mI 0)) (h' := mkh (m_set μ 118 0 (0)) c s) rfl rfl rfl (by have hz : Cl PT 192 [mR 118, mI (a0)] (mkh (m_set μ 118 0 (0)) c s) (fun r => r = (some (some (mI (if g_cell μ a0 then 1 else 0))), mkh (m_set μ 118 0 (0)) c s)) := c_X12_isCell ((hL).set rfl) (a := a0) (by omega) (μ := (m_set μ 118 0 (0))) (c := c) (s := s); rw [if_neg hq2] at hz; exact hz) ?_
      show Rn PT none kX12_saw 6 [some (mR 118), some (mI (a0)), some (mI (a1)), none, none] [mI (0)] (mkh (m_set μ 118 0 (0)) c s) _
      refine rn_if_eq (k' := 7) rfl rfl (fun hc7 => ?_) (fun hc7 => ?_)
      · skip
        refine rn_iconst (k' := 11) rfl rfl ?_
        refine rn_iret rfl (Or.inl rfl) ?_
        exact ⟨(m_set μ 118 0 (0)), rfl, (rst_set (a := 118) (j := 0) rfl)⟩
      · exfalso; omega
theorem pair_21 : ∀ (a0 : Int), ∀ (a1 : Int), i32 a0 → i32 a1 → PairI (Inv N) 131 231 [mI a0, mI a1] := by
  intro a0 a1 ha0 ha1
  exact pair_of (fun ν => if g_cell ν a0 ∧ 0 ≤ a1 ∧ a1 ≤ 99 then fO (fun j => ν 15 j = a0 ∨ g_see ν a0 (ν 7 a0.toNat + a1) j) (ν 6 13).toNat else -1) (fun μ c s hI => t_X11_saw hI.land hI.scene ha0 ha1) (fun μ c s hI => t_X12_saw hI.land hI.scene ha0 ha1) (fun μ ν h => by
    have e6 := row_rst h (a := 6) (fun _ => rfl)
    have e7 := row_rst h (a := 7) (fun _ => rfl)
    have e10 := row_rst h (a := 10) (fun _ => rfl)
    have e14 := row_rst h (a := 14) (fun _ => rfl)
    have e15 := row_rst h (a := 15) (fun _ => rfl)
    have e16 := row_rst h (a := 16) (fun _ => rfl)
    simp only [g_cell, e6, e7, e15]
    congr 1
    refine fO_congr _ (fun j _ => ?_)
    simp only [g_see, g_seen, g_mn, g_eye, g_st, g_w, cl_rows e7, e6, e7, e10, e14, e15, e16])
