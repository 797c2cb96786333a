variable {N : Int}
/-! ===== printed by wip/whole/gen54.py: pairs: deepest ===== -/
/-- the first deepest cell below n; the class begins with none, the model with cell 0 -/
def dp (μ : Nat → Nat → Int) (w : Int) (b : Int) : Nat → Int
  | 0 => b
  | n + 1 => if g_cell μ (n : Int) ∧ (dp μ w b n = -1 ∨ g_dep μ (dp μ w b n) w < g_dep μ (n : Int) w) then (n : Int) else dp μ w b n
theorem dp_pos {μ : Nat → Nat → Int} {w b : Int} {n : Nat} (h : g_cell μ (n : Int) ∧ (dp μ w b n = -1 ∨ g_dep μ (dp μ w b n) w < g_dep μ (n : Int) w)) : dp μ w b (n + 1) = (n : Int) := if_pos h
theorem dp_neg {μ : Nat → Nat → Int} {w b : Int} {n : Nat} (h : ¬ (g_cell μ (n : Int) ∧ (dp μ w b n = -1 ∨ g_dep μ (dp μ w b n) w < g_dep μ (n : Int) w))) : dp μ w b (n + 1) = dp μ w b n := if_neg h
theorem dp_b {μ : Nat → Nat → Int} {w b : Int} (hb : b = -1 ∨ b = 0) : ∀ n : Nat, n ≤ 100 → -1 ≤ dp μ w b n ∧ dp μ w b n < 100 ∧ (b = 0 → 0 ≤ dp μ w b n)
  | 0, _ => by show -1 ≤ b ∧ b < 100 ∧ (b = 0 → 0 ≤ b); omega
  | n + 1, hn => by
    have h := dp_b (μ := μ) (w := w) hb n (by omega)
    by_cases hc : g_cell μ (n : Int) ∧ (dp μ w b n = -1 ∨ g_dep μ (dp μ w b n) w < g_dep μ (n : Int) w)
    · rw [dp_pos hc]; omega
    · rw [dp_neg hc]; exact h
theorem dp_cell {μ : Nat → Nat → Int} {w : Int} (h0 : g_cell μ 0) : ∀ n : Nat, g_cell μ (dp μ w 0 n)
  | 0 => h0
  | n + 1 => by
    by_cases hc : g_cell μ (n : Int) ∧ (dp μ w 0 n = -1 ∨ g_dep μ (dp μ w 0 n) w < g_dep μ (n : Int) w)
    · rw [dp_pos hc]; exact hc.1
    · rw [dp_neg hc]; exact dp_cell h0 n
theorem dp_same {μ : Nat → Nat → Int} {w : Int} (h0 : g_cell μ 0) : ∀ n : Nat, dp μ w (-1) (n + 1) = dp μ w 0 (n + 1)
  | 0 => by
    have e1 : dp μ w (-1) (0 + 1) = ((0 : Nat) : Int) := dp_pos ⟨h0, Or.inl rfl⟩
    rw [e1]
    by_cases hc : g_cell μ ((0 : Nat) : Int) ∧ (dp μ w 0 0 = -1 ∨ g_dep μ (dp μ w 0 0) w < g_dep μ ((0 : Nat) : Int) w)
    · rw [dp_pos hc]
    · rw [dp_neg hc]; rfl
  | n + 1 => by
    show (if g_cell μ ((n + 1 : Nat) : Int) ∧ (dp μ w (-1) (n + 1) = -1 ∨ _) then _ else dp μ w (-1) (n + 1)) = (if g_cell μ ((n + 1 : Nat) : Int) ∧ (dp μ w 0 (n + 1) = -1 ∨ _) then _ else dp μ w 0 (n + 1))
    rw [dp_same h0 n]
/-- beyond the grid nothing changes -/
theorem dp_stop {μ : Nat → Nat → Int} {w b : Int} {N : Nat} (hN : ∀ n : Nat, N ≤ n → ¬ g_cell μ (n : Int)) : ∀ d : Nat, dp μ w b (N + d) = dp μ w b N
  | 0 => rfl
  | d + 1 => by
    show dp μ w b (N + d + 1) = _
    rw [dp_neg (fun z => hN (N + d) (by omega) z.1)]
    exact dp_stop hN d
theorem dp_none {μ : Nat → Nat → Int} {w b : Int} (hN : ∀ n : Nat, ¬ g_cell μ (n : Int)) (d : Nat) : dp μ w b d = b := by
  have h := dp_stop (w := w) (b := b) (N := 0) (fun n _ => hN n) d
  rw [Nat.zero_add] at h
  exact h
set_option maxHeartbeats 4000000 in
theorem l_X11_deepest {μ : Nat → Nat → Int} {c s : Nat} (hL : I_land μ) {a0 : Int} (hv : 0 ≤ a0 ∧ a0 ≤ 29) : ∀ (d n : Nat) (k : Int) (acc : Int), k = (n : Int) → acc = dp μ (g_w μ 0 a0) (-1) n → (n : Int) + d = 10 * μ 6 9 → Rn PT none kX11_deepest 15 [some (mR 0), some (mI (a0)), some (mI (g_w μ 0 a0)), some (mI (acc)), some (mI (k))] [] (mkh μ c s) (fun r => r = (some (some (mI (dp μ (g_w μ 0 a0) (-1) (10 * μ 6 9).toNat))), mkh (μ) c s)) := by
  have hL_ := hL
  obtain ⟨lc, lr, le, lm, lw, lh, lwo, lwd, q0, q1, q2, q3, q4, q8, q499, q500, lth, lG, lT, lW, -⟩ := hL_
  intro d
  induction d with
  | zero =>
    intro n k acc  ek eacc hn
    subst ek eacc
    have hdb := dp_b (μ := μ) (w := g_w μ 0 a0) (b := -1) (Or.inl rfl) n (by omega)
    have hwb := g_w_b hL 0 a0
    refine rn_iload (k' := 16) rfl rfl rfl ?_
    refine rn_aload_n (k' := 17) rfl rfl rfl ?_
    refine rn_getR (k' := 18) rfl rfl K0_0 (by decide) rfl R0_0_3 ?_
    refine rn_callP (k' := 19) (y := 29) (vs := [mR 6]) (S' := [mI ((n : Int))]) (v := some (mI (10 * μ 6 9))) (h' := mkh μ c s) rfl rfl rfl (c_X3_span (μ := μ) (by show 0 ≤ μ 6 9 ∧ μ 6 9 ≤ 10; omega)) ?_
    show Rn PT none kX11_deepest 19 [some (mR 0), some (mI (a0)), some (mI (g_w μ 0 a0)), some (mI (dp μ (g_w μ 0 a0) (-1) n)), some (mI ((n : Int)))] [mI (10 * μ 6 9), mI ((n : Int))] (mkh μ c s) _
    refine rn_icmp_ge (k' := 20) rfl rfl (fun hc1 => ?_) (fun hc1 => ?_)
    · skip
      refine rn_iload_n (k' := 44) rfl rfl rfl ?_
      refine rn_iret rfl (Or.inl rfl) ?_
      rw [show (10 * μ 6 9).toNat = n by omega]
    · exfalso; omega
  | succ d ih =>
    intro n k acc  ek eacc hn
    subst ek eacc
    have hdb := dp_b (μ := μ) (w := g_w μ 0 a0) (b := -1) (Or.inl rfl) n (by omega)
    have hwb := g_w_b hL 0 a0
    refine rn_iload (k' := 16) rfl rfl rfl ?_
    refine rn_aload_n (k' := 17) rfl rfl rfl ?_
    refine rn_getR (k' := 18) rfl rfl K0_0 (by decide) rfl R0_0_3 ?_
    refine rn_callP (k' := 19) (y := 29) (vs := [mR 6]) (S' := [mI ((n : Int))]) (v := some (mI (10 * μ 6 9))) (h' := mkh μ c s) rfl rfl rfl (c_X3_span (μ := μ) (by show 0 ≤ μ 6 9 ∧ μ 6 9 ≤ 10; omega)) ?_
    show Rn PT none kX11_deepest 19 [some (mR 0), some (mI (a0)), some (mI (g_w μ 0 a0)), some (mI (dp μ (g_w μ 0 a0) (-1) n)), some (mI ((n : Int)))] [mI (10 * μ 6 9), mI ((n : Int))] (mkh μ c s) _
    refine rn_icmp_ge (k' := 20) rfl rfl (fun hc1 => ?_) (fun hc1 => ?_)
    · exfalso; omega
    · skip
      refine rn_aload_n (k' := 21) rfl rfl rfl ?_
      refine rn_getR (k' := 22) rfl rfl K0_0 (by decide) rfl R0_0_3 ?_
      refine rn_iload (k' := 23) rfl rfl rfl ?_
      by_cases hq2 : g_cell μ (n : Int)
      · refine rn_callP (k' := 24) (y := 30) (vs := [mR 6, mI ((n : Int))]) (S' := []) (v := some (mI 1)) (h' := mkh μ c s) rfl rfl rfl (by have hz : Cl PT 30 [mR 6, mI ((n : Int))] (mkh μ c s) (fun r => r = (some (some (mI (if g_cell μ (n : Int) then 1 else 0))), mkh μ c s)) := k_hasCell (a := (n : Int)) (by omega) (μ := μ) (c := c) (s := s); rw [if_pos hq2] at hz; exact hz) ?_
        show Rn PT none kX11_deepest 24 [some (mR 0), some (mI (a0)), some (mI (g_w μ 0 a0)), some (mI (dp μ (g_w μ 0 a0) (-1) n)), some (mI ((n : Int)))] [mI (1)] (mkh μ c s) _
        refine rn_if_eq (k' := 25) rfl rfl (fun hc3 => ?_) (fun hc3 => ?_)
        · exfalso; omega
        · skip
          refine rn_iload_n (k' := 26) rfl rfl rfl ?_
          refine rn_iconst (k' := 27) rfl rfl ?_
          refine rn_icmp_eq (k' := 28) rfl rfl (fun hc4 => ?_) (fun hc4 => ?_)
          · skip
            refine rn_iload (k' := 40) rfl rfl rfl ?_
            refine rn_istore_n (k' := 41) (L' := [some (mR 0), some (mI (a0)), some (mI (g_w μ 0 a0)), some (mI ((n : Int))), some (mI ((n : Int)))]) rfl rfl (Nat.le_of_ble_eq_true rfl) rfl ?_
            refine rn_iinc (k' := 42) (L' := [some (mR 0), some (mI (a0)), some (mI (g_w μ 0 a0)), some (mI ((n : Int))), some (mI ((n : Int) + 1))]) rfl rfl rfl (by omega) rfl ?_
            refine rn_goto rfl ?_
            exact ih (n + 1) _ _ (by omega) (by first | exact (dp_pos (by omega)).symm | exact (dp_neg (by omega)).symm) (by omega)
          · skip
            refine rn_aload_n (k' := 29) rfl rfl rfl ?_
            refine rn_getR (k' := 30) rfl rfl K0_0 (by decide) rfl R0_0_3 ?_
            refine rn_iload (k' := 31) rfl rfl rfl ?_
            refine rn_iload_n (k' := 32) rfl rfl rfl ?_
            refine rn_callP (k' := 33) (y := 35) (vs := [mR 6, mI ((n : Int)), mI (g_w μ 0 a0)]) (S' := []) (v := some (mI (g_dep μ (n : Int) (g_w μ 0 a0)))) (h' := mkh μ c s) rfl rfl rfl (k_depthOf (μ := μ) (hL) (by omega) (by omega)) ?_
            show Rn PT none kX11_deepest 33 [some (mR 0), some (mI (a0)), some (mI (g_w μ 0 a0)), some (mI (dp μ (g_w μ 0 a0) (-1) n)), some (mI ((n : Int)))] [mI (g_dep μ (n : Int) (g_w μ 0 a0))] (mkh μ c s) _
            refine rn_aload_n (k' := 34) rfl rfl rfl ?_
            refine rn_getR (k' := 35) rfl rfl K0_0 (by decide) rfl R0_0_3 ?_
            refine rn_iload_n (k' := 36) rfl rfl rfl ?_
            refine rn_iload_n (k' := 37) rfl rfl rfl ?_
            refine rn_callP (k' := 38) (y := 35) (vs := [mR 6, mI (dp μ (g_w μ 0 a0) (-1) n), mI (g_w μ 0 a0)]) (S' := [mI (g_dep μ (n : Int) (g_w μ 0 a0))]) (v := some (mI (g_dep μ (dp μ (g_w μ 0 a0) (-1) n) (g_w μ 0 a0)))) (h' := mkh μ c s) rfl rfl rfl (k_depthOf (μ := μ) (hL) (by omega) (by omega)) ?_
            show Rn PT none kX11_deepest 38 [some (mR 0), some (mI (a0)), some (mI (g_w μ 0 a0)), some (mI (dp μ (g_w μ 0 a0) (-1) n)), some (mI ((n : Int)))] [mI (g_dep μ (dp μ (g_w μ 0 a0) (-1) n) (g_w μ 0 a0)), mI (g_dep μ (n : Int) (g_w μ 0 a0))] (mkh μ c s) _
            refine rn_icmp_le (k' := 39) rfl rfl (fun hc5 => ?_) (fun hc5 => ?_)
            · skip
              refine rn_iinc (k' := 42) (L' := [some (mR 0), some (mI (a0)), some (mI (g_w μ 0 a0)), some (mI (dp μ (g_w μ 0 a0) (-1) n)), some (mI ((n : Int) + 1))]) rfl rfl rfl (by omega) rfl ?_
              refine rn_goto rfl ?_
              exact ih (n + 1) _ _ (by omega) (by first | exact (dp_pos (by omega)).symm | exact (dp_neg (by omega)).symm) (by omega)
            · skip
              refine rn_iload (k' := 40) rfl rfl rfl ?_
              refine rn_istore_n (k' := 41) (L' := [some (mR 0), some (mI (a0)), some (mI (g_w μ 0 a0)), some (mI ((n : Int))), some (mI ((n : Int)))]) rfl rfl (Nat.le_of_ble_eq_true rfl) rfl ?_
              refine rn_iinc (k' := 42) (L' := [some (mR 0), some (mI (a0)), some (mI (g_w μ 0 a0)), some (mI ((n : Int))), some (mI ((n : Int) + 1))]) rfl rfl rfl (by omega) rfl ?_
              refine rn_goto rfl ?_
              exact ih (n + 1) _ _ (by omega) (by first | exact (dp_pos (by omega)).symm | exact (dp_neg (by omega)).symm) (by omega)
      · refine rn_callP (k' := 24) (y := 30) (vs := [mR 6, mI ((n : Int))]) (S' := []) (v := some (mI 0)) (h' := mkh μ c s) rfl rfl rfl (by have hz : Cl PT 30 [mR 6, mI ((n : Int))] (mkh μ c s) (fun r => r = (some (some (mI (if g_cell μ (n : Int) then 1 else 0))), mkh μ c s)) := k_hasCell (a := (n : Int)) (by omega) (μ := μ) (c := c) (s := s); rw [if_neg hq2] at hz; exact hz) ?_
        show Rn PT none kX11_deepest 24 [some (mR 0), some (mI (a0)), some (mI (g_w μ 0 a0)), some (mI (dp μ (g_w μ 0 a0) (-1) n)), some (mI ((n : Int)))] [mI (0)] (mkh μ c s) _
        refine rn_if_eq (k' := 25) rfl rfl (fun hc6 => ?_) (fun hc6 => ?_)
        · skip
          refine rn_iinc (k' := 42) (L' := [some (mR 0), some (mI (a0)), some (mI (g_w μ 0 a0)), some (mI (dp μ (g_w μ 0 a0) (-1) n)), some (mI ((n : Int) + 1))]) rfl rfl rfl (by omega) rfl ?_
          refine rn_goto rfl ?_
          exact ih (n + 1) _ _ (by omega) (by first | exact (dp_pos (by omega)).symm | exact (dp_neg (by omega)).symm) (by omega)
        · exfalso; omega
set_option maxHeartbeats 4000000 in
theorem l_X12_deepest {μ : Nat → Nat → Int} {c s : Nat} (hL : I_land μ) {a0 : Int} (h0 : g_cell μ 0) (hv : 0 ≤ a0 ∧ a0 ≤ 29) : ∀ (d n : Nat) (k : Int) (acc : Int), k = (n : Int) → acc = dp μ (g_w μ 0 a0) 0 n → (n : Int) + d = 100 → Rn PT none kX12_deepest 20 [some (mR 118), some (mI (a0)), some (mI (acc)), some (mI (k))] [] (mkh (m_set (m_set (m_set μ 118 0 (0)) 118 22 (g_w μ 0 a0)) 118 23 (g_w μ 1 a0)) c s) (fun r => r = (some (some (mI (dp μ (g_w μ 0 a0) 0 100))), mkh ((m_set (m_set (m_set μ 118 0 (0)) 118 22 (g_w μ 0 a0)) 118 23 (g_w μ 1 a0))) c s)) := by
  have hL_ := hL
  obtain ⟨lc, lr, le, lm, lw, lh, lwo, lwd, q0, q1, q2, q3, q4, q8, q499, q500, lth, lG, lT, lW, -⟩ := hL_
  intro d
  induction d with
  | zero =>
    intro n k acc  ek eacc hn
    subst ek eacc
    have hdb := dp_b (μ := μ) (w := g_w μ 0 a0) (b := 0) (Or.inr rfl) n (by omega)
    have hdg := dp_cell (w := g_w μ 0 a0) h0 n
    have hwb := g_w_b hL 0 a0
    refine rn_iload_n (k' := 21) rfl rfl rfl ?_
    refine rn_bipush (k' := 22) rfl rfl ?_
    refine rn_icmp_ge (k' := 23) rfl rfl (fun hc1 => ?_) (fun hc1 => ?_)
    · skip
      refine rn_iload_n (k' := 39) rfl rfl rfl ?_
      refine rn_iret rfl (Or.inl rfl) ?_
      rw [show n = 100 by omega]
    · exfalso; omega
  | succ d ih =>
    intro n k acc  ek eacc hn
    subst ek eacc
    have hdb := dp_b (μ := μ) (w := g_w μ 0 a0) (b := 0) (Or.inr rfl) n (by omega)
    have hdg := dp_cell (w := g_w μ 0 a0) h0 n
    have hwb := g_w_b hL 0 a0
    refine rn_iload_n (k' := 21) rfl rfl rfl ?_
    refine rn_bipush (k' := 22) rfl rfl ?_
    refine rn_icmp_ge (k' := 23) rfl rfl (fun hc1 => ?_) (fun hc1 => ?_)
    · exfalso; omega
    · skip
      refine rn_aload_n (k' := 24) rfl rfl rfl ?_
      refine rn_iload_n (k' := 25) rfl rfl rfl ?_
      by_cases hq2 : g_cell μ (n : Int)
      · refine rn_callP (k' := 26) (y := 192) (vs := [mR 118, mI ((n : Int))]) (S' := []) (v := some (mI 1)) (h' := mkh (m_set (m_set (m_set μ 118 0 (0)) 118 22 (g_w μ 0 a0)) 118 23 (g_w μ 1 a0)) c s) rfl rfl rfl (by have hz : Cl PT 192 [mR 118, mI ((n : Int))] (mkh (m_set (m_set (m_set μ 118 0 (0)) 118 22 (g_w μ 0 a0)) 118 23 (g_w μ 1 a0)) c s) (fun r => r = (some (some (mI (if g_cell μ (n : Int) then 1 else 0))), mkh (m_set (m_set (m_set μ 118 0 (0)) 118 22 (g_w μ 0 a0)) 118 23 (g_w μ 1 a0)) c s)) := c_X12_isCell ((((hL).set rfl).set rfl).set rfl) (a := (n : Int)) (by omega) (μ := (m_set (m_set (m_set μ 118 0 (0)) 118 22 (g_w μ 0 a0)) 118 23 (g_w μ 1 a0))) (c := c) (s := s); rw [if_pos hq2] at hz; exact hz) ?_
        show Rn PT none kX12_deepest 26 [some (mR 118), some (mI (a0)), some (mI (dp μ (g_w μ 0 a0) 0 n)), some (mI ((n : Int)))] [mI (1)] (mkh (m_set (m_set (m_set μ 118 0 (0)) 118 22 (g_w μ 0 a0)) 118 23 (g_w μ 1 a0)) c s) _
        refine rn_if_eq (k' := 27) rfl rfl (fun hc3 => ?_) (fun hc3 => ?_)
        · exfalso; omega
        · skip
          refine rn_aload_n (k' := 28) rfl rfl rfl ?_
          refine rn_iload_n (k' := 29) rfl rfl rfl ?_
          refine rn_callP (k' := 30) (y := 202) (vs := [mR 118, mI ((n : Int))]) (S' := []) (v := some (mI (g_dep μ (n : Int) (g_w μ 0 a0)))) (h' := mkh (m_set (m_set (m_set μ 118 0 (0)) 118 22 (g_w μ 0 a0)) 118 23 (g_w μ 1 a0)) c s) rfl rfl rfl (c_X12_depthOf (μ := (m_set (m_set (m_set μ 118 0 (0)) 118 22 (g_w μ 0 a0)) 118 23 (g_w μ 1 a0))) ((((hL).set rfl).set rfl).set rfl) (by show 0 ≤ g_w μ 0 a0 ∧ g_w μ 0 a0 ≤ 1000; omega) (by show g_cell μ ((n : Int)); first | assumption | omega)) ?_
          show Rn PT none kX12_deepest 30 [some (mR 118), some (mI (a0)), some (mI (dp μ (g_w μ 0 a0) 0 n)), some (mI ((n : Int)))] [mI (g_dep μ (n : Int) (g_w μ 0 a0))] (mkh (m_set (m_set (m_set μ 118 0 (0)) 118 22 (g_w μ 0 a0)) 118 23 (g_w μ 1 a0)) c s) _
          refine rn_aload_n (k' := 31) rfl rfl rfl ?_
          refine rn_iload_n (k' := 32) rfl rfl rfl ?_
          refine rn_callP (k' := 33) (y := 202) (vs := [mR 118, mI (dp μ (g_w μ 0 a0) 0 n)]) (S' := [mI (g_dep μ (n : Int) (g_w μ 0 a0))]) (v := some (mI (g_dep μ (dp μ (g_w μ 0 a0) 0 n) (g_w μ 0 a0)))) (h' := mkh (m_set (m_set (m_set μ 118 0 (0)) 118 22 (g_w μ 0 a0)) 118 23 (g_w μ 1 a0)) c s) rfl rfl rfl (c_X12_depthOf (μ := (m_set (m_set (m_set μ 118 0 (0)) 118 22 (g_w μ 0 a0)) 118 23 (g_w μ 1 a0))) ((((hL).set rfl).set rfl).set rfl) (by show 0 ≤ g_w μ 0 a0 ∧ g_w μ 0 a0 ≤ 1000; omega) (by show g_cell μ (dp μ (g_w μ 0 a0) 0 n); first | assumption | omega)) ?_
          show Rn PT none kX12_deepest 33 [some (mR 118), some (mI (a0)), some (mI (dp μ (g_w μ 0 a0) 0 n)), some (mI ((n : Int)))] [mI (g_dep μ (dp μ (g_w μ 0 a0) 0 n) (g_w μ 0 a0)), mI (g_dep μ (n : Int) (g_w μ 0 a0))] (mkh (m_set (m_set (m_set μ 118 0 (0)) 118 22 (g_w μ 0 a0)) 118 23 (g_w μ 1 a0)) c s) _
          refine rn_icmp_le (k' := 34) rfl rfl (fun hc4 => ?_) (fun hc4 => ?_)
          · skip
            refine rn_iinc (k' := 37) (L' := [some (mR 118), some (mI (a0)), some (mI (dp μ (g_w μ 0 a0) 0 n)), some (mI ((n : Int) + 1))]) rfl rfl rfl (by omega) rfl ?_
            refine rn_goto rfl ?_
            exact ih (n + 1) _ _ (by omega) (by first | exact (dp_pos (by omega)).symm | exact (dp_neg (by omega)).symm) (by omega)
          · skip
            refine rn_iload_n (k' := 35) rfl rfl rfl ?_
            refine rn_istore_n (k' := 36) (L' := [some (mR 118), some (mI (a0)), some (mI ((n : Int))), some (mI ((n : Int)))]) rfl rfl (Nat.le_of_ble_eq_true rfl) rfl ?_
            refine rn_iinc (k' := 37) (L' := [some (mR 118), some (mI (a0)), some (mI ((n : Int))), some (mI ((n : Int) + 1))]) rfl rfl rfl (by omega) rfl ?_
            refine rn_goto rfl ?_
            exact ih (n + 1) _ _ (by omega) (by first | exact (dp_pos (by omega)).symm | exact (dp_neg (by omega)).symm) (by omega)
      · refine rn_callP (k' := 26) (y := 192) (vs := [mR 118, mI ((n : Int))]) (S' := []) (v := some (mI 0)) (h' := mkh (m_set (m_set (m_set μ 118 0 (0)) 118 22 (g_w μ 0 a0)) 118 23 (g_w μ 1 a0)) c s) rfl rfl rfl (by have hz : Cl PT 192 [mR 118, mI ((n : Int))] (mkh (m_set (m_set (m_set μ 118 0 (0)) 118 22 (g_w μ 0 a0)) 118 23 (g_w μ 1 a0)) c s) (fun r => r = (some (some (mI (if g_cell μ (n : Int) then 1 else 0))), mkh (m_set (m_set (m_set μ 118 0 (0)) 118 22 (g_w μ 0 a0)) 118 23 (g_w μ 1 a0)) c s)) := c_X12_isCell ((((hL).set rfl).set rfl).set rfl) (a := (n : Int)) (by omega) (μ := (m_set (m_set (m_set μ 118 0 (0)) 118 22 (g_w μ 0 a0)) 118 23 (g_w μ 1 a0))) (c := c) (s := s); rw [if_neg hq2] at hz; exact hz) ?_
        show Rn PT none kX12_deepest 26 [some (mR 118), some (mI (a0)), some (mI (dp μ (g_w μ 0 a0) 0 n)), some (mI ((n : Int)))] [mI (0)] (mkh (m_set (m_set (m_set μ 118 0 (0)) 118 22 (g_w μ 0 a0)) 118 23 (g_w μ 1 a0)) c s) _
        refine rn_if_eq (k' := 27) rfl rfl (fun hc5 => ?_) (fun hc5 => ?_)
        · skip
          refine rn_iinc (k' := 37) (L' := [some (mR 118), some (mI (a0)), some (mI (dp μ (g_w μ 0 a0) 0 n)), some (mI ((n : Int) + 1))]) rfl rfl rfl (by omega) rfl ?_
          refine rn_goto rfl ?_
          exact ih (n + 1) _ _ (by omega) (by first | exact (dp_pos (by omega)).symm | exact (dp_neg (by omega)).symm) (by omega)
        · exfalso; omega
theorem dp_rows {μ ν : Nat → Nat → Int} {w b : Int} (e6 : ν 6 = μ 6) (e7 : ν 7 = μ 7) : ∀ n : Nat, dp ν w b n = dp μ w b n
  | 0 => rfl
  | n + 1 => by
    show (if g_cell ν (n : Int) ∧ (dp ν w b n = -1 ∨ g_dep ν (dp ν w b n) w < g_dep ν (n : Int) w) then (n : Int) else dp ν w b n) = (if g_cell μ (n : Int) ∧ (dp μ w b n = -1 ∨ g_dep μ (dp μ w b n) w < g_dep μ (n : Int) w) then (n : Int) else dp μ w b n)
    rw [dp_rows e6 e7 n]
    simp only [g_cell, g_dep, e6, e7]
theorem dp_eq {μ : Nat → Nat → Int} {w : Int} (hr : 1 ≤ μ 6 9 ∧ μ 6 9 ≤ 10) (hc : 2 ≤ μ 6 8) : dp μ w 0 100 = dp μ w (-1) (10 * μ 6 9).toNat := by
  have h0 : g_cell μ 0 := ⟨by decide, by show (0 : Int) < μ 6 8; omega, by show (0 : Int) < μ 6 9; omega⟩
  have h1 := dp_stop (w := w) (b := 0) (μ := μ) (N := (10 * μ 6 9).toNat) (fun n hn z => by
    have e := td10 z.1
    have z2 := z.2.2
    rw [e.1] at z2
    omega) (100 - (10 * μ 6 9).toNat)
  rw [show (10 * μ 6 9).toNat + (100 - (10 * μ 6 9).toNat) = 100 by omega] at h1
  rw [h1]
  have h2 := dp_same (w := w) h0 ((10 * μ 6 9).toNat - 1)
  rw [show (10 * μ 6 9).toNat - 1 + 1 = (10 * μ 6 9).toNat by omega] at h2
  exact h2.symm
theorem Rn.mono1 {x : MX} {C : List MI} {k : Nat} {L : List (Option MV)} {S : List MV} {h : MH} {Q Q' : MR → Prop} (hr : Rn PT x C k L S h Q) (hq : ∀ r, Q r → Q' r) : Rn PT x C k L S h Q' := by
  obtain ⟨n, r, e1, e2⟩ := hr
  exact ⟨n, r, e1, hq r e2⟩
set_option maxHeartbeats 4000000 in
theorem t_X11_deepest {μ : Nat → Nat → Int} {c s : Nat} (hL : I_land μ) (hS : I_scene μ) {a0 : Int} (h0 : i32 a0) : Cl PT 111 [mR 0, mI a0] (mkh μ c s) (fun r => ∃ μ1, r = (some (some (mI (if 0 ≤ a0 ∧ a0 ≤ 29 then dp μ (g_w μ 0 a0) (-1) (10 * μ 6 9).toNat else -1))), mkh μ1 c s) ∧ rst μ1 = rst μ) := by
  have hL_ := hL
  obtain ⟨lc, lr, le, lm, lw, lh, lwo, lwd, q0, q1, q2, q3, q4, q8, q499, q500, lth, lG, lT, lW, -⟩ := hL_
  have hS_ := hS
  obtain ⟨sd, sw, stk, s4, s5, s6, hC, hH, -, s10, sce, swc, s13⟩ := hS_
  by_cases hv : 0 ≤ a0 ∧ a0 ≤ 29
  · rw [if_pos hv]
    have hv_ := hv
    obtain ⟨hv1, hv2⟩ := hv_
    refine ⟨_, PT_111, Nat.le_of_ble_eq_true rfl, ?_⟩
    show Rn PT none kX11_deepest 0 [some (mR 0), some (mI (a0)), none, none, none] [] (mkh μ c s) _
    refine rn_iload_n (k' := 1) rfl rfl rfl ?_
    by_cases hq1 : 0 ≤ a0 ∧ a0 ≤ 29
    · refine rn_callP (k' := 2) (y := 152) (vs := [mI (a0)]) (S' := []) (v := some (mI 1)) (h' := mkh μ c s) rfl rfl rfl (by have hz : Cl PT 152 [mI (a0)] (mkh μ c s) (fun r => r = (some (some (mI (if 0 ≤ a0 ∧ a0 ≤ 29 then 1 else 0))), mkh μ c s)) := c_X11_isDay (a := a0) (μ := μ) (c := c) (s := s); rw [if_pos hq1] at hz; exact hz) ?_
      show Rn PT none kX11_deepest 2 [some (mR 0), some (mI (a0)), none, none, none] [mI (1)] (mkh μ c s) _
      refine rn_if_ne (k' := 3) rfl rfl (fun hc2 => ?_) (fun hc2 => ?_)
      · skip
        refine rn_aload_n (k' := 6) rfl rfl rfl ?_
        refine rn_getR (k' := 7) rfl rfl K0_0 (by decide) rfl R0_0_3 ?_
        refine rn_iconst (k' := 8) rfl rfl ?_
        refine rn_iload_n (k' := 9) rfl rfl rfl ?_
        have hb3 := g_w_b hL 0 a0
        refine rn_callP (k' := 10) (y := 32) (vs := [mR 6, mI (0), mI (a0)]) (S' := []) (v := some (mI (g_w μ 0 a0))) (h' := mkh μ c s) rfl rfl rfl (k_weatherOn (μ := μ) (hL) (by omega) (by omega)) ?_
        show Rn PT none kX11_deepest 10 [some (mR 0), some (mI (a0)), none, none, none] [mI (g_w μ 0 a0)] (mkh μ c s) _
        refine rn_istore_n (k' := 11) (L' := [some (mR 0), some (mI (a0)), some (mI (g_w μ 0 a0)), none, none]) rfl rfl (Nat.le_of_ble_eq_true rfl) rfl ?_
        refine rn_iconst (k' := 12) rfl rfl ?_
        refine rn_istore_n (k' := 13) (L' := [some (mR 0), some (mI (a0)), some (mI (g_w μ 0 a0)), some (mI (-1)), none]) rfl rfl (Nat.le_of_ble_eq_true rfl) rfl ?_
        refine rn_iconst (k' := 14) rfl rfl ?_
        refine rn_istore (k' := 15) (L' := [some (mR 0), some (mI (a0)), some (mI (g_w μ 0 a0)), some (mI (-1)), some (mI (0))]) rfl rfl (Nat.le_of_ble_eq_true rfl) rfl ?_
        exact (l_X11_deepest hL hv (10 * μ 6 9).toNat 0 _ _ rfl rfl (by omega)).mono1 (fun r hr => ⟨μ, hr, rfl⟩)
      · exfalso; omega
    · exfalso; omega
  · rw [if_neg hv]
    refine ⟨_, PT_111, Nat.le_of_ble_eq_true rfl, ?_⟩
    show Rn PT none kX11_deepest 0 [some (mR 0), some (mI (a0)), none, none, none] [] (mkh μ c s) _
    refine rn_iload_n (k' := 1) rfl rfl rfl ?_
    by_cases hq1 : 0 ≤ a0 ∧ a0 ≤ 29
    · refine rn_callP (k' := 2) (y := 152) (vs := [mI (a0)]) (S' := []) (v := some (mI 1)) (h' := mkh μ c s) rfl rfl rfl (by have hz : Cl PT 152 [mI (a0)] (mkh μ c s) (fun r => r = (some (some (mI (if 0 ≤ a0 ∧ a0 ≤ 29 then 1 else 0))), mkh μ c s)) := c_X11_isDay (a := a0) (μ := μ) (c := c) (s := s); rw [if_pos hq1] at hz; exact hz) ?_
      show Rn PT none kX11_deepest 2 [some (mR 0), some (mI (a0)), none, none, none] [mI (1)] (mkh μ c s) _
      refine rn_if_ne (k' := 3) rfl rfl (fun hc2 => ?_) (fun hc2 => ?_)
      · skip
        refine rn_aload_n (k' := 6) rfl rfl rfl ?_
        refine rn_getR (k' := 7) rfl rfl K0_0 (by decide) rfl R0_0_3 ?_
        refine rn_iconst (k' := 8) rfl rfl ?_
        refine rn_iload_n (k' := 9) rfl rfl rfl ?_
        exfalso; omega
      · exfalso; omega
    · refine rn_callP (k' := 2) (y := 152) (vs := [mI (a0)]) (S' := []) (v := some (mI 0)) (h' := mkh μ c s) rfl rfl rfl (by have hz : Cl PT 152 [mI (a0)] (mkh μ c s) (fun r => r = (some (some (mI (if 0 ≤ a0 ∧ a0 ≤ 29 then 1 else 0))), mkh μ c s)) := c_X11_isDay (a := a0) (μ := μ) (c := c) (s := s); rw [if_neg hq1] at hz; exact hz) ?_
      show Rn PT none kX11_deepest 2 [some (mR 0), some (mI (a0)), none, none, none] [mI (0)] (mkh μ c s) _
      refine rn_if_ne (k' := 3) rfl rfl (fun hc3 => ?_) (fun hc3 => ?_)
      · exfalso; omega
      · skip
        refine rn_iconst (k' := 4) rfl rfl ?_
        refine rn_iret rfl (Or.inl rfl) ?_
        exact ⟨μ, rfl, rfl⟩
set_option maxHeartbeats 4000000 in
theorem t_X12_deepest {μ : Nat → Nat → Int} {c s : Nat} (hL : I_land μ) (hS : I_scene μ) {a0 : Int} (h0 : i32 a0) : Cl PT 210 [mR 118, mI a0] (mkh μ c s) (fun r => ∃ μ1, r = (some (some (mI (if 0 ≤ a0 ∧ a0 ≤ 29 then dp μ (g_w μ 0 a0) (-1) (10 * μ 6 9).toNat else -1))), mkh μ1 c s) ∧ rst μ1 = rst μ) := by
  have hL_ := hL
  obtain ⟨lc, lr, le, lm, lw, lh, lwo, lwd, q0, q1, q2, q3, q4, q8, q499, q500, lth, lG, lT, lW, -⟩ := hL_
  have hS_ := hS
  obtain ⟨sd, sw, stk, s4, s5, s6, hC, hH, -, s10, sce, swc, s13⟩ := hS_
  by_cases hv : 0 ≤ a0 ∧ a0 ≤ 29
  · rw [if_pos hv]
    have hv_ := hv
    obtain ⟨hv1, hv2⟩ := hv_
    refine ⟨_, PT_210, Nat.le_of_ble_eq_true rfl, ?_⟩
    show Rn PT none kX12_deepest 0 [some (mR 118), some (mI (a0)), none, none] [] (mkh μ c s) _
    refine rn_aload_n (k' := 1) rfl rfl rfl ?_
    refine rn_iconst (k' := 2) rfl rfl ?_
    refine rn_putI (k' := 3) rfl rfl K0_118 (by decide) rfl ?_
    refine rn_iload_n (k' := 4) rfl rfl rfl ?_
    by_cases hq2 : 0 ≤ a0 ∧ a0 ≤ 29
    · refine rn_callP (k' := 5) (y := 194) (vs := [mI (a0)]) (S' := []) (v := some (mI 1)) (h' := mkh (m_set μ 118 0 (0)) c s) rfl rfl rfl (by have hz : Cl PT 194 [mI (a0)] (mkh (m_set μ 118 0 (0)) c s) (fun r => r = (some (some (mI (if 0 ≤ a0 ∧ a0 ≤ 29 then 1 else 0))), mkh (m_set μ 118 0 (0)) c s)) := c_X12_isDay (a := a0) (μ := (m_set μ 118 0 (0))) (c := c) (s := s); rw [if_pos hq2] at hz; exact hz) ?_
      show Rn PT none kX12_deepest 5 [some (mR 118), some (mI (a0)), none, none] [mI (1)] (mkh (m_set μ 118 0 (0)) c s) _
      refine rn_if_eq (k' := 6) rfl rfl (fun hc3 => ?_) (fun hc3 => ?_)
      · exfalso; omega
      · skip
        refine rn_aload_n (k' := 7) rfl rfl rfl ?_
        refine rn_getR (k' := 8) rfl rfl K0_118 (by decide) rfl R0_118_6 ?_
        refine rn_iconst (k' := 9) rfl rfl ?_
        refine rn_iaload (k' := 10) rfl rfl K0_120 (by omega) (by omega) ?_
        show Rn PT none kX12_deepest 10 [some (mR 118), some (mI (a0)), none, none] [mI (μ 120 1)] (mkh (m_set μ 118 0 (0)) c s) _
        rw [q1]
        refine rn_if_ne (k' := 11) rfl rfl (fun hc4 => ?_) (fun hc4 => ?_)
        · skip
          refine rn_aload_n (k' := 14) rfl rfl rfl ?_
          refine rn_iload_n (k' := 15) rfl rfl rfl ?_
          have hb5 := g_w_b hL 0 a0
          have hc905 := g_w_b hL 1 a0
          refine rn_callP (k' := 16) (y := 201) (vs := [mR 118, mI (a0)]) (S' := []) (v := none) (h' := mkh (m_set (m_set (m_set μ 118 0 (0)) 118 22 (g_w μ 0 a0)) 118 23 (g_w μ 1 a0)) c s) rfl rfl rfl (c_X12_of (μ := (m_set μ 118 0 (0))) ((hL).set rfl) (by omega)) ?_
          show Rn PT none kX12_deepest 16 [some (mR 118), some (mI (a0)), none, none] [] (mkh (m_set (m_set (m_set μ 118 0 (0)) 118 22 (g_w μ 0 a0)) 118 23 (g_w μ 1 a0)) c s) _
          refine rn_iconst (k' := 17) rfl rfl ?_
          refine rn_istore_n (k' := 18) (L' := [some (mR 118), some (mI (a0)), some (mI (0)), none]) rfl rfl (Nat.le_of_ble_eq_true rfl) rfl ?_
          refine rn_iconst (k' := 19) rfl rfl ?_
          refine rn_istore_n (k' := 20) (L' := [some (mR 118), some (mI (a0)), some (mI (0)), some (mI (0))]) rfl rfl (Nat.le_of_ble_eq_true rfl) rfl ?_
          rw [← dp_eq (by omega) (by omega)]
          exact (l_X12_deepest hL ⟨by decide, by show (0 : Int) < μ 6 8; omega, by show (0 : Int) < μ 6 9; omega⟩ hv 100 0 _ _ rfl rfl rfl).mono1 (fun r hr => ⟨_, hr, ((rst_set (a := 118) (j := 23) rfl).trans ((rst_set (a := 118) (j := 22) rfl).trans (rst_set (a := 118) (j := 0) rfl)))⟩)
        · skip
          refine rn_iconst (k' := 12) rfl rfl ?_
          refine rn_iret rfl (Or.inl rfl) ?_
          refine ⟨(m_set μ 118 0 (0)), ?_, (rst_set (a := 118) (j := 0) rfl)⟩
          rw [dp_none]
          intro n z
          have e := td10 z.1
          have z2 := z.2.2
          rw [e.1] at z2
          omega
    · exfalso; omega
  · rw [if_neg hv]
    refine ⟨_, PT_210, Nat.le_of_ble_eq_true rfl, ?_⟩
    show Rn PT none kX12_deepest 0 [some (mR 118), some (mI (a0)), none, none] [] (mkh μ c s) _
    refine rn_aload_n (k' := 1) rfl rfl rfl ?_
    refine rn_iconst (k' := 2) rfl rfl ?_
    refine rn_putI (k' := 3) rfl rfl K0_118 (by decide) rfl ?_
    refine rn_iload_n (k' := 4) rfl rfl rfl ?_
    by_cases hq2 : 0 ≤ a0 ∧ a0 ≤ 29
    · refine rn_callP (k' := 5) (y := 194) (vs := [mI (a0)]) (S' := []) (v := some (mI 1)) (h' := mkh (m_set μ 118 0 (0)) c s) rfl rfl rfl (by have hz : Cl PT 194 [mI (a0)] (mkh (m_set μ 118 0 (0)) c s) (fun r => r = (some (some (mI (if 0 ≤ a0 ∧ a0 ≤ 29 then 1 else 0))), mkh (m_set μ 118 0 (0)) c s)) := c_X12_isDay (a := a0) (μ := (m_set μ 118 0 (0))) (c := c) (s := s); rw [if_pos hq2] at hz; exact hz) ?_
      show Rn PT none kX12_deepest 5 [some (mR 118), some (mI (a0)), none, none] [mI (1)] (mkh (m_set μ 118 0 (0)) c s) _
      refine rn_if_eq (k' := 6) rfl rfl (fun hc3 => ?_) (fun hc3 => ?_)
      · exfalso; omega
      · skip
        refine rn_aload_n (k' := 7) rfl rfl rfl ?_
        refine rn_getR (k' := 8) rfl rfl K0_118 (by decide) rfl R0_118_6 ?_
        refine rn_iconst (k' := 9) rfl rfl ?_
        refine rn_iaload (k' := 10) rfl rfl K0_120 (by omega) (by omega) ?_
        show Rn PT none kX12_deepest 10 [some (mR 118), some (mI (a0)), none, none] [mI (μ 120 1)] (mkh (m_set μ 118 0 (0)) c s) _
        rw [q1]
        refine rn_if_ne (k' := 11) rfl rfl (fun hc4 => ?_) (fun hc4 => ?_)
        · skip
          refine rn_aload_n (k' := 14) rfl rfl rfl ?_
          refine rn_iload_n (k' := 15) rfl rfl rfl ?_
          exfalso; omega
        · skip
          refine rn_iconst (k' := 12) rfl rfl ?_
          refine rn_iret rfl (Or.inl rfl) ?_
          exact ⟨(m_set μ 118 0 (0)), rfl, (rst_set (a := 118) (j := 0) rfl)⟩
    · refine rn_callP (k' := 5) (y := 194) (vs := [mI (a0)]) (S' := []) (v := some (mI 0)) (h' := mkh (m_set μ 118 0 (0)) c s) rfl rfl rfl (by have hz : Cl PT 194 [mI (a0)] (mkh (m_set μ 118 0 (0)) c s) (fun r => r = (some (some (mI (if 0 ≤ a0 ∧ a0 ≤ 29 then 1 else 0))), mkh (m_set μ 118 0 (0)) c s)) := c_X12_isDay (a := a0) (μ := (m_set μ 118 0 (0))) (c := c) (s := s); rw [if_neg hq2] at hz; exact hz) ?_
      show Rn PT none kX12_deepest 5 [some (mR 118), some (mI (a0)), none, none] [mI (0)] (mkh (m_set μ 118 0 (0)) c s) _
      refine rn_if_eq (k' := 6) rfl rfl (fun hc5 => ?_) (fun hc5 => ?_)
      · skip
        refine rn_iconst (k' := 12) rfl rfl ?_
        refine rn_iret rfl (Or.inl rfl) ?_
        exact ⟨(m_set μ 118 0 (0)), rfl, (rst_set (a := 118) (j := 0) rfl)⟩
      · exfalso; omega
theorem pair_9 : ∀ (a0 : Int), i32 a0 → PairI (Inv N) 111 210 [mI a0] := by
  intro a0 ha0
  exact pair_of (fun ν => if 0 ≤ a0 ∧ a0 ≤ 29 then dp ν (g_w ν 0 a0) (-1) (10 * ν 6 9).toNat else -1) (fun μ c s hI => t_X11_deepest hI.land hI.scene ha0) (fun μ c s hI => t_X12_deepest hI.land hI.scene ha0) (fun μ ν h => by
    have e6 := row_rst h (a := 6) (fun _ => rfl)
    have e7 := row_rst h (a := 7) (fun _ => rfl)
    have e8 := row_rst h (a := 8) (fun _ => rfl)
    have e10 := row_rst h (a := 10) (fun _ => rfl)
    have e14 := row_rst h (a := 14) (fun _ => rfl)
    have e15 := row_rst h (a := 15) (fun _ => rfl)
    have e16 := row_rst h (a := 16) (fun _ => rfl)
    simp only [g_cell, g_w, g_st, g_dep, e6, e7, e8, e10, e14, e15, e16, g_steps_rows e6 e7 e8, g_reach_rows e6 e7 e8, g_far_rows e6 e7 e8, dp_rows e6 e7])
