/-! ===== printed by wip/whole/gen54.py: pairs: deepest ===== -/
/-- the first deepest cell below n; the class begins with none, the model with cell 0 -/
def dp (μ : Nat → Nat → Int) (w : Int) (b : Int) : Nat → Int
  | 0 => b
  | n + 1 => if g_cell μ (n : Int) ∧ (dp μ w b n = -1 ∨ g_dep μ (dp μ w b n) w < g_dep μ (n : Int) w) then (n : Int) else dp μ w b n
theorem dp_pos {μ : Nat → Nat → Int} {w b : Int} {n : Nat} (h : g_cell μ (n : Int) ∧ (dp μ w b n = -1 ∨ g_dep μ (dp μ w b n) w < g_dep μ (n : Int) w)) : dp μ w b (n + 1) = (n : Int) := if_pos h
theorem dp_neg {μ : Nat → Nat → Int} {w b : Int} {n : Nat} (h : ¬ (g_cell μ (n : Int) ∧ (dp μ w b n = -1 ∨ g_dep μ (dp μ w b n) w < g_dep μ (n : Int) w))) : dp μ w b (n + 1) = dp μ w b n := if_neg h
theorem dp_b {μ : Nat → Nat → Int} {w b : Int} (hb : b = -1 ∨ b = 0) : ∀ n : Nat, n ≤ 100 → -1 ≤ dp μ w b n ∧ dp μ w b n < 100 ∧ (b = 0 → 0 ≤ dp μ w b n)
  | 0, _ => by show -1 ≤ b ∧ b < 100 ∧ (b = 0 → 0 ≤ b); omega
  | n + 1, hn => by
    have h := dp_b hb n (by omega)
    by_cases hc : g_cell μ (n : Int) ∧ (dp μ w b n = -1 ∨ g_dep μ (dp μ w b n) w < g_dep μ (n : Int) w)
    · rw [dp_pos hc]; omega
    · rw [dp_neg hc]; exact h
theorem dp_same {μ : Nat → Nat → Int} {w : Int} (h0 : g_cell μ 0) : ∀ n : Nat, dp μ w (-1) (n + 1) = dp μ w 0 (n + 1)
  | 0 => by
    have e1 : dp μ w (-1) (0 + 1) = ((0 : Nat) : Int) := dp_pos ⟨h0, Or.inl rfl⟩
    rw [e1]
    by_cases hc : g_cell μ ((0 : Nat) : Int) ∧ (dp μ w 0 0 = -1 ∨ g_dep μ (dp μ w 0 0) w < g_dep μ ((0 : Nat) : Int) w)
    · rw [dp_pos hc]
    · rw [dp_neg hc]; rfl
  | n + 1 => by
    show (if g_cell μ ((n + 1 : Nat) : Int) ∧ (dp μ w (-1) (n + 1) = -1 ∨ _) then _ else dp μ w (-1) (n + 1)) = (if g_cell μ ((n + 1 : Nat) : Int) ∧ (dp μ w 0 (n + 1) = -1 ∨ _) then _ else dp μ w 0 (n + 1))
    rw [dp_same h0 n]
/-- beyond the grid nothing changes -/
theorem dp_stop {μ : Nat → Nat → Int} {w b : Int} {N : Nat} (hN : ∀ n : Nat, N ≤ n → ¬ g_cell μ (n : Int)) : ∀ d : Nat, dp μ w b (N + d) = dp μ w b N
  | 0 => rfl
  | d + 1 => by
    show dp μ w b (N + d + 1) = _
    rw [dp_neg (fun z => hN (N + d) (by omega) z.1)]
    exact dp_stop hN d
theorem dp_none {μ : Nat → Nat → Int} {w b : Int} (hN : ∀ n : Nat, ¬ g_cell μ (n : Int)) (d : Nat) : dp μ w b d = b := by
  have h := dp_stop (w := w) (b := b) (N := 0) (fun n _ => hN n) d
  rw [Nat.zero_add] at h
  exact h
set_option maxHeartbeats 4000000 in
theorem l_X11_deepest {μ : Nat → Nat → Int} {c s : Nat} (hL : I_land μ) {a0 : Int} (hv : 0 ≤ a0 ∧ a0 ≤ 29) : ∀ (d n : Nat) (k : Int) (acc : Int), k = (n : Int) → acc = dp μ (g_w μ 0 a0) (-1) n → (n : Int) + d = 10 * μ 6 9 → Rn PT none kX11_deepest 15 [some (mR 0), some (mI (a0)), some (mI (g_w μ 0 a0)), some (mI (acc)), some (mI (k))] [] (mkh μ c s) (fun r => r = (some (some (mI (dp μ (g_w μ 0 a0) (-1) (10 * μ 6 9).toNat))), mkh (μ) c s)) := by
  have hL_ := hL
  obtain ⟨lc, lr, le, lm, lw, lh, lwo, lwd, q0, q1, q2, q3, q4, q8, q499, q500, lth, lG, lT, lW, -⟩ := hL_
  intro d
  induction d with
  | zero =>
    intro n k acc  ek eacc hn
    subst ek eacc
    have hdb := dp_b (μ := μ) (w := g_w μ 0 a0) (b := -1) (Or.inl rfl) n (by omega)
    have hwb := g_w_b hL 0 a0
    refine rn_iload (k' := 16) rfl rfl rfl ?_
    refine rn_aload_n (k' := 17) rfl rfl rfl ?_
    refine rn_getR (k' := 18) rfl rfl K0_0 (by decide) rfl R0_0_3 ?_
    refine rn_callP (k' := 19) (y := 29) (vs := [mR 6]) (S' := [mI ((n : Int))]) (v := some (mI (10 * μ 6 9))) (h' := mkh μ c s) rfl rfl rfl (c_X3_span (μ := μ) (by show 0 ≤ μ 6 9 ∧ μ 6 9 ≤ 10; omega)) ?_
    show Rn PT none kX11_deepest 19 [some (mR 0), some (mI (a0)), some (mI (g_w μ 0 a0)), some (mI (dp μ (g_w μ 0 a0) (-1) n)), some (mI ((n : Int)))] [mI (10 * μ 6 9), mI ((n : Int))] (mkh μ c s) _
    refine rn_icmp_ge (k' := 20) rfl rfl (fun hc1 => ?_) (fun hc1 => ?_)
    · skip
      refine rn_iload_n (k' := 44) rfl rfl rfl ?_
      refine rn_iret rfl (Or.inl rfl) ?_
      rw [show (10 * μ 6 9).toNat = n by omega]
    · exfalso; omega
  | succ d ih =>
    intro n k acc  ek eacc hn
    subst ek eacc
    have hdb := dp_b (μ := μ) (w := g_w μ 0 a0) (b := -1) (Or.inl rfl) n (by omega)
    have hwb := g_w_b hL 0 a0
    refine rn_iload (k' := 16) rfl rfl rfl ?_
    refine rn_aload_n (k' := 17) rfl rfl rfl ?_
    refine rn_getR (k' := 18) rfl rfl K0_0 (by decide) rfl R0_0_3 ?_
    refine rn_callP (k' := 19) (y := 29) (vs := [mR 6]) (S' := [mI ((n : Int))]) (v := some (mI (10 * μ 6 9))) (h' := mkh μ c s) rfl rfl rfl (c_X3_span (μ := μ) (by show 0 ≤ μ 6 9 ∧ μ 6 9 ≤ 10; omega)) ?_
    show Rn PT none kX11_deepest 19 [some (mR 0), some (mI (a0)), some (mI (g_w μ 0 a0)), some (mI (dp μ (g_w μ 0 a0) (-1) n)), some (mI ((n : Int)))] [mI (10 * μ 6 9), mI ((n : Int))] (mkh μ c s) _
    refine rn_icmp_ge (k' := 20) rfl rfl (fun hc1 => ?_) (fun hc1 => ?_)
    · exfalso; omega
    · skip
      refine rn_aload_n (k' := 21) rfl rfl rfl ?_
      refine rn_getR (k' := 22) rfl rfl K0_0 (by decide) rfl R0_0_3 ?_
      refine rn_iload (k' := 23) rfl rfl rfl ?_
      by_cases hq2 : g_cell μ (n : Int)
      · refine rn_callP (k' := 24) (y := 30) (vs := [mR 6, mI ((n : Int))]) (S' := []) (v := some (mI 1)) (h' := mkh μ c s) rfl rfl rfl (by have hz : Cl PT 30 [mR 6, mI ((n : Int))] (mkh μ c s) (fun r => r = (some (some (mI (if g_cell μ (n : Int) then 1 else 0))), mkh μ c s)) := k_hasCell (a := (n : Int)) (by omega) (μ := μ) (c := c) (s := s); rw [if_pos hq2] at hz; exact hz) ?_
        show Rn PT none kX11_deepest 24 [some (mR 0), some (mI (a0)), some (mI (g_w μ 0 a0)), some (mI (dp μ (g_w μ 0 a0) (-1) n)), some (mI ((n : Int)))] [mI (1)] (mkh μ c s) _
        refine rn_if_eq (k' := 25) rfl rfl (fun hc3 => ?_) (fun hc3 => ?_)
        · exfalso; omega
        · skip
          refine rn_iload_n (k' := 26) rfl rfl rfl ?_
          refine rn_iconst (k' := 27) rfl rfl ?_
          refine rn_icmp_eq (k' := 28) rfl rfl (fun hc4 => ?_) (fun hc4 => ?_)
          · skip
            refine rn_iload (k' := 40) rfl rfl rfl ?_
            refine rn_istore_n (k' := 41) (L' := [some (mR 0), some (mI (a0)), some (mI (g_w μ 0 a0)), some (mI ((n : Int))), some (mI ((n : Int)))]) rfl rfl (Nat.le_of_ble_eq_true rfl) rfl ?_
            refine rn_iinc (k' := 42) (L' := [some (mR 0), some (mI (a0)), some (mI (g_w μ 0 a0)), some (mI ((n : Int))), some (mI ((n : Int) + 1))]) rfl rfl rfl (by omega) rfl ?_
            refine rn_goto rfl ?_
            exact ih (n + 1) _ _ (by omega) (by first | exact (dp_pos (by omega)).symm | exact (dp_neg (by omega)).symm) (by omega)
          · skip
            refine rn_aload_n (k' := 29) rfl rfl rfl ?_
            refine rn_getR (k' := 30) rfl rfl K0_0 (by decide) rfl R0_0_3 ?_
            refine rn_iload (k' := 31) rfl rfl rfl ?_
            refine rn_iload_n (k' := 32) rfl rfl rfl ?_
            refine rn_callP (k' := 33) (y := 35) (vs := [mR 6, mI ((n : Int)), mI (g_w μ 0 a0)]) (S' := []) (v := some (mI (g_dep μ (n : Int) (g_w μ 0 a0)))) (h' := mkh μ c s) rfl rfl rfl (k_depthOf (μ := μ) (hL) (by omega) (by omega)) ?_
            show Rn PT none kX11_deepest 33 [some (mR 0), some (mI (a0)), some (mI (g_w μ 0 a0)), some (mI (dp μ (g_w μ 0 a0) (-1) n)), some (mI ((n : Int)))] [mI (g_dep μ (n : Int) (g_w μ 0 a0))] (mkh μ c s) _
            refine rn_aload_n (k' := 34) rfl rfl rfl ?_
            refine rn_getR (k' := 35) rfl rfl K0_0 (by decide) rfl R0_0_3 ?_
            refine rn_iload_n (k' := 36) rfl rfl rfl ?_
            refine rn_iload_n (k' := 37) rfl rfl rfl ?_
            refine rn_callP (k' := 38) (y := 35) (vs := [mR 6, mI (dp μ (g_w μ 0 a0) (-1) n), mI (g_w μ 0 a0)]) (S' := [mI (g_dep μ (n : Int) (g_w μ 0 a0))]) (v := some (mI (g_dep μ (dp μ (g_w μ 0 a0) (-1) n) (g_w μ 0 a0)))) (h' := mkh μ c s) rfl rfl rfl (k_depthOf (μ := μ) (hL) (by omega) (by omega)) ?_
            show Rn PT none kX11_deepest 38 [some (mR 0), some (mI (a0)), some (mI (g_w μ 0 a0)), some (mI (dp μ (g_w μ 0 a0) (-1) n)), some (mI ((n : Int)))] [mI (g_dep μ (dp μ (g_w μ 0 a0) (-1) n) (g_w μ 0 a0)), mI (g_dep μ (n : Int) (g_w μ 0 a0))] (mkh μ c s) _
            refine rn_icmp_le (k' := 39) rfl rfl (fun hc5 => ?_) (fun hc5 => ?_)
            · skip
              refine rn_iinc (k' := 42) (L' := [some (mR 0), some (mI (a0)), some (mI (g_w μ 0 a0)), some (mI (dp μ (g_w μ 0 a0) (-1) n)), some (mI ((n : Int) + 1))]) rfl rfl rfl (by omega) rfl ?_
              refine rn_goto rfl ?_
              exact ih (n + 1) _ _ (by omega) (by first | exact (dp_pos (by omega)).symm | exact (dp_neg (by omega)).symm) (by omega)
            · skip
              refine rn_iload (k' := 40) rfl rfl rfl ?_
              refine rn_istore_n (k' := 41) (L' := [some (mR 0), some (mI (a0)), some (mI (g_w μ 0 a0)), some (mI ((n : Int))), some (mI ((n : Int)))]) rfl rfl (Nat.le_of_ble_eq_true rfl) rfl ?_
              refine rn_iinc (k' := 42) (L' := [some (mR 0), some (mI (a0)), some (mI (g_w μ 0 a0)), some (mI ((n : Int))), some (mI ((n : Int) + 1))]) rfl rfl rfl (by omega) rfl ?_
              refine rn_goto rfl ?_
              exact ih (n + 1) _ _ (by omega) (by first | exact (dp_pos (by omega)).symm | exact (dp_neg (by omega)).symm) (by omega)
      · refine rn_callP (k' := 24) (y := 30) (vs := [mR 6, mI ((n : Int))]) (S' := []) (v := some (mI 0)) (h' := mkh μ c s) rfl rfl rfl (by have hz : Cl PT 30 [mR 6, mI ((n : Int))] (mkh μ c s) (fun r => r = (some (some (mI (if g_cell μ (n : Int) then 1 else 0))), mkh μ c s)) := k_hasCell (a := (n : Int)) (by omega) (μ := μ) (c := c) (s := s); rw [if_neg hq2] at hz; exact hz) ?_
        show Rn PT none kX11_deepest 24 [some (mR 0), some (mI (a0)), some (mI (g_w μ 0 a0)), some (mI (dp μ (g_w μ 0 a0) (-1) n)), some (mI ((n : Int)))] [mI (0)] (mkh μ c s) _
        refine rn_if_eq (k' := 25) rfl rfl (fun hc6 => ?_) (fun hc6 => ?_)
        · skip
          refine rn_iinc (k' := 42) (L' := [some (mR 0), some (mI (a0)), some (mI (g_w μ 0 a0)), some (mI (dp μ (g_w μ 0 a0) (-1) n)), some (mI ((n : Int) + 1))]) rfl rfl rfl (by omega) rfl ?_
          refine rn_goto rfl ?_
          exact ih (n + 1) _ _ (by omega) (by first | exact (dp_pos (by omega)).symm | exact (dp_neg (by omega)).symm) (by omega)
        · exfalso; omega
set_option maxHeartbeats 4000000 in
theorem l_X12_deepest {μ : Nat → Nat → Int} {c s : Nat} (hL : I_land μ) {a0 : Int} (hv : 0 ≤ a0 ∧ a0 ≤ 29) : ∀ (d n : Nat) (k : Int) (acc : Int), k = (n : Int) → acc = dp μ (g_w μ 0 a0) 0 n → (n : Int) + d = 100 → Rn PT none kX12_deepest 20 [some (mR 118), some (mI (a0)), some (mI (acc)), some (mI (k))] [] (mkh (m_set (m_set (m_set μ 118 0 (0)) 118 22 (g_w μ 0 a0)) 118 23 (g_w μ 1 a0)) c s) (fun r => r = (some (some (mI (dp μ (g_w μ 0 a0) 0 100))), mkh ((m_set (m_set (m_set μ 118 0 (0)) 118 22 (g_w μ 0 a0)) 118 23 (g_w μ 1 a0))) c s)) := by
  have hL_ := hL
  obtain ⟨lc, lr, le, lm, lw, lh, lwo, lwd, q0, q1, q2, q3, q4, q8, q499, q500, lth, lG, lT, lW, -⟩ := hL_
  intro d
  induction d with
  | zero =>
    intro n k acc  ek eacc hn
    subst ek eacc
    have hdb := dp_b (μ := μ) (w := g_w μ 0 a0) (b := 0) (Or.inr rfl) n (by omega)
    have hwb := g_w_b hL 0 a0
    refine rn_iload_n (k' := 21) rfl rfl rfl ?_
    refine rn_bipush (k' := 22) rfl rfl ?_
    refine rn_icmp_ge (k' := 23) rfl rfl (fun hc1 => ?_) (fun hc1 => ?_)
    · skip
      refine rn_iload_n (k' := 39) rfl rfl rfl ?_
      refine rn_iret rfl (Or.inl rfl) ?_
      rw [show n = 100 by omega]
    · exfalso; omega
  | succ d ih =>
    intro n k acc  ek eacc hn
    subst ek eacc
    have hdb := dp_b (μ := μ) (w := g_w μ 0 a0) (b := 0) (Or.inr rfl) n (by omega)
    have hwb := g_w_b hL 0 a0
    refine rn_iload_n (k' := 21) rfl rfl rfl ?_
    refine rn_bipush (k' := 22) rfl rfl ?_
    refine rn_icmp_ge (k' := 23) rfl rfl (fun hc1 => ?_) (fun hc1 => ?_)
    · exfalso; omega
    · skip
      refine rn_aload_n (k' := 24) rfl rfl rfl ?_
      refine rn_iload_n (k' := 25) rfl rfl rfl ?_
      by_cases hq2 : g_cell μ (n : Int)
      · refine rn_callP (k' := 26) (y := 192) (vs := [mR 118, mI ((n : Int))]) (S' := []) (v := some (mI 1)) (h' := mkh (m_set (m_set (m_set μ 118 0 (0)) 118 22 (g_w μ 0 a0)) 118 23 (g_w μ 1 a0)) c s) rfl rfl rfl (by have hz : Cl PT 192 [mR 118, mI ((n : Int))] (mkh (m_set (m_set (m_set μ 118 0 (0)) 118 22 (g_w μ 0 a0)) 118 23 (g_w μ 1 a0)) c s) (fun r => r = (some (some (mI (if g_cell μ (n : Int) then 1 else 0))), mkh (m_set (m_set (m_set μ 118 0 (0)) 118 22 (g_w μ 0 a0)) 118 23 (g_w μ 1 a0)) c s)) := c_X12_isCell ((((hL).set rfl).set rfl).set rfl) (a := (n : Int)) (by omega) (μ := (m_set (m_set (m_set μ 118 0 (0)) 118 22 (g_w μ 0 a0)) 118 23 (g_w μ 1 a0))) (c := c) (s := s); rw [if_pos hq2] at hz; exact hz) ?_
        show Rn PT none kX12_deepest 26 [some (mR 118), some (mI (a0)), some (mI (dp μ (g_w μ 0 a0) 0 n)), some (mI ((n : Int)))] [mI (1)] (mkh (m_set (m_set (m_set μ 118 0 (0)) 118 22 (g_w μ 0 a0)) 118 23 (g_w μ 1 a0)) c s) _
        refine rn_if_eq (k' := 27) rfl rfl (fun hc3 => ?_) (fun hc3 => ?_)
        · exfalso; omega
        · skip
          refine rn_aload_n (k' := 28) rfl rfl rfl ?_
          refine rn_iload_n (k' := 29) rfl rfl rfl ?_
          refine rn_callP (k' := 30) (y := 202) (vs := [mR 118, mI ((n : Int))]) (S' := []) (v := some (mI (g_dep μ (n : Int) (g_w μ 0 a0)))) (h' := mkh (m_set (m_set (m_set μ 118 0 (0)) 118 22 (g_w μ 0 a0)) 118 23 (g_w μ 1 a0)) c s) rfl rfl rfl (c_X12_depthOf (μ := (m_set (m_set (m_set μ 118 0 (0)) 118 22 (g_w μ 0 a0)) 118 23 (g_w μ 1 a0))) ((((hL).set rfl).set rfl).set rfl) (by show 0 ≤ g_w μ 0 a0 ∧ g_w μ 0 a0 ≤ 1000; omega) (by omega)) ?_
          show Rn PT none kX12_deepest 30 [some (mR 118), some (mI (a0)), some (mI (dp μ (g_w μ 0 a0) 0 n)), some (mI ((n : Int)))] [mI (g_dep μ (n : Int) (g_w μ 0 a0))] (mkh (m_set (m_set (m_set μ 118 0 (0)) 118 22 (g_w μ 0 a0)) 118 23 (g_w μ 1 a0)) c s) _
          refine rn_aload_n (k' := 31) rfl rfl rfl ?_
          refine rn_iload_n (k' := 32) rfl rfl rfl ?_
          refine rn_callP (k' := 33) (y := 202) (vs := [mR 118, mI (dp μ (g_w μ 0 a0) 0 n)]) (S' := [mI (g_dep μ (n : Int) (g_w μ 0 a0))]) (v := some (mI (g_dep μ (dp μ (g_w μ 0 a0) 0 n) (g_w μ 0 a0)))) (h' := mkh (m_set (m_set (m_set μ 118 0 (0)) 118 22 (g_w μ 0 a0)) 118 23 (g_w μ 1 a0)) c s) rfl rfl rfl (c_X12_depthOf (μ := (m_set (m_set (m_set μ 118 0 (0)) 118 22 (g_w μ 0 a0)) 118 23 (g_w μ 1 a0))) ((((hL).set rfl).set rfl).set rfl) (by show 0 ≤ g_w μ 0 a0 ∧ g_w μ 0 a0 ≤ 1000; omega) (by omega)) ?_
          show Rn PT none kX12_deepest 33 [some (mR 118), some (mI (a0)), some (mI (dp μ (g_w μ 0 a0) 0 n)), some (mI ((n : Int)))] [mI (g_dep μ (dp μ (g_w μ 0 a0) 0 n) (g_w μ 0 a0)), mI (g_dep μ (n : Int) (g_w μ 0 a0))] (mkh (m_set (m_set (m_set μ 118 0 (0)) 118 22 (g_w μ 0 a0)) 118 23 (g_w μ 1 a0)) c s) _
          refine rn_icmp_le (k' := 34) rfl rfl (fun hc4 => ?_) (fun hc4 => ?_)
          · skip
            refine rn_iinc (k' := 37) (L' := [some (mR 118), some (mI (a0)), some (mI (dp μ (g_w μ 0 a0) 0 n)), some (mI ((n : Int) + 1))]) rfl rfl rfl (by omega) rfl ?_
            refine rn_goto rfl ?_
            exact ih (n + 1) _ _ (by omega) (by first | exact (dp_pos (by omega)).symm | exact (dp_neg (by omega)).symm) (by omega)
          · skip
            refine rn_iload_n (k' := 35) rfl rfl rfl ?_
            refine rn_istore_n (k' := 36) (L' := [some (mR 118), some (mI (a0)), some (mI ((n : Int))), some (mI ((n : Int)))]) rfl rfl (Nat.le_of_ble_eq_true rfl) rfl ?_
            refine rn_iinc (k' := 37) (L' := [some (mR 118), some (mI (a0)), some (mI ((n : Int))), some (mI ((n : Int) + 1))]) rfl rfl rfl (by omega) rfl ?_
            refine rn_goto rfl ?_
            exact ih (n + 1) _ _ (by omega) (by first | exact (dp_pos (by omega)).symm | exact (dp_neg (by omega)).symm) (by omega)
      · refine rn_callP (k' := 26) (y := 192) (vs := [mR 118, mI ((n : Int))]) (S' := []) (v := some (mI 0)) (h' := mkh (m_set (m_set (m_set μ 118 0 (0)) 118 22 (g_w μ 0 a0)) 118 23 (g_w μ 1 a0)) c s) rfl rfl rfl (by have hz : Cl PT 192 [mR 118, mI ((n : Int))] (mkh (m_set (m_set (m_set μ 118 0 (0)) 118 22 (g_w μ 0 a0)) 118 23 (g_w μ 1 a0)) c s) (fun r => r = (some (some (mI (if g_cell μ (n : Int) then 1 else 0))), mkh (m_set (m_set (m_set μ 118 0 (0)) 118 22 (g_w μ 0 a0)) 118 23 (g_w μ 1 a0)) c s)) := c_X12_isCell ((((hL).set rfl).set rfl).set rfl) (a := (n : Int)) (by omega) (μ := (m_set (m_set (m_set μ 118 0 (0)) 118 22 (g_w μ 0 a0)) 118 23 (g_w μ 1 a0))) (c := c) (s := s); rw [if_neg hq2] at hz; exact hz) ?_
        show Rn PT none kX12_deepest 26 [some (mR 118), some (mI (a0)), some (mI (dp μ (g_w μ 0 a0) 0 n)), some (mI ((n : Int)))] [mI (0)] (mkh (m_set (m_set (m_set μ 118 0 (0)) 118 22 (g_w μ 0 a0)) 118 23 (g_w μ 1 a0)) c s) _
        refine rn_if_eq (k' := 27) rfl rfl (fun hc5 => ?_) (fun hc5 => ?_)
        · skip
          refine rn_iinc (k' := 37) (L' := [some (mR 118), some (mI (a0)), some (mI (dp μ (g_w μ 0 a0) 0 n)), some (mI ((n : Int) + 1))]) rfl rfl rfl (by omega) rfl ?_
          refine rn_goto rfl ?_
          exact ih (n + 1) _ _ (by omega) (by first | exact (dp_pos (by omega)).symm | exact (dp_neg (by omega)).symm) (by omega)
        · exfalso; omega
