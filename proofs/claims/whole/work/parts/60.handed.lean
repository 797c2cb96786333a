variable {N : Int}
/-! ===== printed by wip/whole/gen60.py: signals handed on; pairs: handed, fires ===== -/
def g_hand (μ : Nat → Nat → Int) (x : Int) : Nat → Int
  | 0 => x
  | n + 1 => if bI x n = true then m_or (g_hand μ x n) (g_who μ (μ 15 n) (g_eye μ n)) else g_hand μ x n
def g_more (μ : Nat → Nat → Int) (x : Int) : Int := g_hand μ x (μ 6 13).toNat
def g_hit (μ : Nat → Nat → Int) (x : Int) : Nat → Int
  | 0 => x
  | n + 1 => g_more μ (g_hit μ x n)
theorem g_hand_rows {μ ν : Nat → Nat → Int} (e : g_who ν = g_who μ) (e6 : ν 6 = μ 6) (e7 : ν 7 = μ 7) (e15 : ν 15 = μ 15) (e16 : ν 16 = μ 16) {x : Int} : ∀ n, g_hand ν x n = g_hand μ x n
  | 0 => rfl
  | n + 1 => by
    show (if bI x n = true then m_or (g_hand ν x n) (g_who ν (ν 15 n) (g_eye ν n)) else g_hand ν x n) = (if bI x n = true then m_or (g_hand μ x n) (g_who μ (μ 15 n) (g_eye μ n)) else g_hand μ x n)
    rw [g_hand_rows e e6 e7 e15 e16 n, e]
    simp only [g_eye, g_st, e6, e7, e15, e16]
theorem g_more_rows {μ ν : Nat → Nat → Int} (e6 : ν 6 = μ 6) (e7 : ν 7 = μ 7) (e10 : ν 10 = μ 10) (e14 : ν 14 = μ 14) (e15 : ν 15 = μ 15) (e16 : ν 16 = μ 16) : g_more ν = g_more μ := by
  funext x
  unfold g_more
  rw [g_hand_rows (g_who_rows e6 e7 e10 e14 e15 e16) e6 e7 e15 e16, e6]
theorem g_hit_rows {μ ν : Nat → Nat → Int} (e : g_more ν = g_more μ) {x : Int} : ∀ n, g_hit ν x n = g_hit μ x n
  | 0 => rfl
  | n + 1 => by
    show g_more ν (g_hit ν x n) = g_more μ (g_hit μ x n)
    rw [g_hit_rows e n, e]
theorem g_hand_pos {μ : Nat → Nat → Int} {x : Int} {n : Nat} (h : bI x n = true) : g_hand μ x (n + 1) = m_or (g_hand μ x n) (g_who μ (μ 15 n) (g_eye μ n)) := if_pos h
theorem g_hand_neg {μ : Nat → Nat → Int} {x : Int} {n : Nat} (h : ¬ bI x n = true) : g_hand μ x (n + 1) = g_hand μ x n := if_neg h
/-- only the first n bits -/
def bLow (x : Int) (n : Nat) : Prop := i32 x ∧ ∀ i, i < 32 → n ≤ i → bI x i = false
theorem g_hand_low {μ : Nat → Nat → Int} (h8 : (μ 6 13).toNat ≤ 8) {x : Int} (hx : bLow x 8) : ∀ n, bLow (g_hand μ x n) 8 ∧ ∀ i, i < 32 → bI x i = true → bI (g_hand μ x n) i = true
  | 0 => ⟨hx, fun i _ h => h⟩
  | n + 1 => by
    obtain ⟨⟨h1, h2⟩, h3⟩ := g_hand_low h8 hx n
    by_cases hb : bI x n = true
    · rw [g_hand_pos hb]
      refine ⟨⟨r_or _ _, fun i hi h => ?_⟩, fun i hi h => ?_⟩
      · rw [bI_or, h2 i hi h]
        unfold g_who
        rw [fO_bit _ (by omega) i hi, decide_eq_false (by omega)]
        rfl
      · rw [bI_or, h3 i hi h]
        rfl
    · rw [g_hand_neg hb]
      exact ⟨⟨h1, h2⟩, h3⟩
theorem g_hit_low {μ : Nat → Nat → Int} (h8 : (μ 6 13).toNat ≤ 8) {x : Int} (hx : bLow x 8) : ∀ n, bLow (g_hit μ x n) 8
  | 0 => hx
  | n + 1 => (g_hand_low h8 (g_hit_low h8 hx n) _).1
/-- how many of the first n bits -/
def kk (x : Int) : Nat → Nat
  | 0 => 0
  | n + 1 => kk x n + (if bI x n = true then 1 else 0)
theorem kk_le (x : Int) : ∀ n, kk x n ≤ n
  | 0 => Nat.le_refl 0
  | n + 1 => by
    have := kk_le x n
    unfold kk
    split <;> omega
theorem kk_full {x : Int} : ∀ n, kk x n = n → ∀ i, i < n → bI x i = true
  | 0, _, i, hi => by omega
  | n + 1, h, i, hi => by
    have h1 := kk_le x n
    unfold kk at h
    by_cases hb : bI x n = true
    · rw [if_pos hb] at h
      by_cases e : i = n
      · rw [e]; exact hb
      · exact kk_full n (by omega) i (by omega)
    · rw [if_neg hb] at h; omega
theorem kk_mono {x y : Int} : ∀ n, n ≤ 32 → (∀ i, i < 32 → bI x i = true → bI y i = true) → kk x n ≤ kk y n ∧ (kk x n = kk y n → ∀ i, i < n → bI x i = bI y i)
  | 0, _, _ => ⟨Nat.le_refl 0, fun _ i hi => by omega⟩
  | n + 1, hn, h => by
    obtain ⟨h1, h2⟩ := kk_mono n (by omega) h
    have h3 := h n (by omega)
    unfold kk
    by_cases hx : bI x n = true
    · rw [if_pos hx, if_pos (h3 hx)]
      refine ⟨by omega, fun e i hi => ?_⟩
      by_cases ei : i = n
      · rw [ei, hx, h3 hx]
      · exact h2 (by omega) i (by omega)
    · rw [if_neg hx]
      by_cases hy : bI y n = true
      · rw [if_pos hy]
        exact ⟨by omega, fun e => by omega⟩
      · rw [if_neg hy]
        refine ⟨by omega, fun e i hi => ?_⟩
        by_cases ei : i = n
        · rw [ei]
          cases h4 : bI x n
          · cases h5 : bI y n
            · rfl
            · exact absurd h5 hy
          · exact absurd h4 hx
        · exact h2 (by omega) i (by omega)
theorem g_more_grow {μ : Nat → Nat → Int} (h8 : (μ 6 13).toNat ≤ 8) {x : Int} (hx : bLow x 8) : g_more μ x = x ∨ kk x 8 < kk (g_more μ x) 8 := by
  obtain ⟨h1, h2⟩ := g_hand_low h8 hx (μ 6 13).toNat
  obtain ⟨h3, h4⟩ := kk_mono 8 (by omega) h2
  by_cases e : kk x 8 = kk (g_hand μ x (μ 6 13).toNat) 8
  · left
    unfold g_more
    refine (bI_ext hx.1 h1.1 (fun i hi => ?_)).symm
    by_cases h5 : i < 8
    · exact h4 e i h5
    · rw [hx.2 i hi (by omega), h1.2 i hi (by omega)]
  · right
    unfold g_more
    omega
theorem g_hit_stay {μ : Nat → Nat → Int} {x : Int} {n : Nat} (h : g_hit μ x (n + 1) = g_hit μ x n) : ∀ d, g_hit μ x (n + d) = g_hit μ x n
  | 0 => rfl
  | d + 1 => by
    show g_more μ (g_hit μ x (n + d)) = _
    rw [g_hit_stay h d]
    exact h
theorem g_hit_kk {μ : Nat → Nat → Int} (h8 : (μ 6 13).toNat ≤ 8) {x : Int} (hx : bLow x 8) : ∀ n, (∃ m, m < n ∧ g_hit μ x (m + 1) = g_hit μ x m) ∨ kk x 8 + n ≤ kk (g_hit μ x n) 8
  | 0 => Or.inr (Nat.le_refl _)
  | n + 1 => by
    rcases g_hit_kk h8 hx n with ⟨m, h1, h2⟩ | h1
    · exact Or.inl ⟨m, by omega, h2⟩
    · rcases g_more_grow h8 (g_hit_low h8 hx n) with h2 | h2
      · exact Or.inl ⟨n, by omega, h2⟩
      · right
        show _ ≤ kk (g_more μ (g_hit μ x n)) 8
        omega
/-- behind seven handings nothing new comes, or all have it -/
theorem g_hit_7 {μ : Nat → Nat → Int} (h8 : (μ 6 13).toNat ≤ 8) {x : Int} (hx : bLow x 8) (h0 : 1 ≤ kk x 8) {t : Nat} (ht : t < 8) (hb : ¬ bI (g_hit μ x 7) t = true) : g_hit μ x 8 = g_hit μ x 7 := by
  rcases g_hit_kk h8 hx 7 with ⟨m, h1, h2⟩ | h1
  · have e1 := g_hit_stay h2 (8 - m)
    have e2 := g_hit_stay h2 (7 - m)
    rw [show m + (8 - m) = 8 by omega] at e1
    rw [show m + (7 - m) = 7 by omega] at e2
    rw [e1, e2]
  · have h3 := kk_le (g_hit μ x 7) 8
    exact absurd (kk_full 8 (by omega) t ht) hb
theorem one_low : ∀ n : Nat, n < 8 → bLow (m_shl 1 (n : Int)) 8 ∧ 1 ≤ kk (m_shl 1 (n : Int)) 8 ∧ ¬ m_shl 1 (n : Int) = 0 := by
  intro n hn
  refine ⟨⟨r_shl _ _, fun i hi h => ?_⟩, ?_, ?_⟩
  · rw [bI_shl1 (by omega) hi, decide_eq_false (by omega)]
  · exact (by decide +kernel : ∀ n : Nat, n < 8 → 1 ≤ kk (m_shl 1 (n : Int)) 8) n hn
  · exact (by decide +kernel : ∀ n : Nat, n < 8 → ¬ m_shl 1 (n : Int) = 0) n hn
set_option maxHeartbeats 2000000 in
theorem c_X12_has {μ : Nat → Nat → Int} {c s : Nat} {x : Int} {t : Nat} (ht : t < 32) : Cl PT 168 [mI x, mI ((t : Int))] (mkh μ c s) (fun r => r = (some (some (mI (if bI x t = true then 1 else 0))), mkh (μ) c s)) := by
  refine ⟨_, PT_168, Nat.le_of_ble_eq_true rfl, ?_⟩
  show Rn PT none kX12_has 0 [some (mI (x)), some (mI ((t : Int)))] [] (mkh μ c s) _
  refine rn_iload_n (k' := 1) rfl rfl rfl ?_
  refine rn_iload_n (k' := 2) rfl rfl rfl ?_
  refine rn_ishr (k' := 3) rfl rfl ?_
  refine rn_iconst (k' := 4) rfl rfl ?_
  refine rn_iand (k' := 5) rfl rfl ?_
  rw [bit_s (x := x) (k := t) (by omega)]
  by_cases hq1 : bI (x) t = true
  · rw [if_pos hq1]
    refine rn_iconst (k' := 6) rfl rfl ?_
    refine rn_icmp_ne (k' := 7) rfl rfl (fun hc2 => ?_) (fun hc2 => ?_)
    · exfalso; omega
    · skip
      refine rn_iconst (k' := 8) rfl rfl ?_
      refine rn_goto rfl ?_
      refine rn_iret rfl (Or.inr (by omega)) ?_
      first | rfl | rw [if_pos (by assumption)] | rw [if_neg (by assumption)]
  · rw [if_neg hq1]
    refine rn_iconst (k' := 6) rfl rfl ?_
    refine rn_icmp_ne (k' := 7) rfl rfl (fun hc3 => ?_) (fun hc3 => ?_)
    · skip
      refine rn_iconst (k' := 10) rfl rfl ?_
      refine rn_iret rfl (Or.inr (by omega)) ?_
      first | rfl | rw [if_pos (by assumption)] | rw [if_neg (by assumption)]
    · exfalso; omega
set_option maxHeartbeats 4000000 in
theorem l_X9_handOn {μ : Nat → Nat → Int} {c s : Nat} (hL : I_land μ) (hS : I_scene μ) {x : Int} : ∀ (d n : Nat) (k : Int) (acc : Int), k = (n : Int) → acc = g_hand μ x n → (n : Int) + d = μ 6 13 → Rn PT none kX9_handOn 4 [some (mR 81), some (mI (x)), some (mI (acc)), some (mI (k))] [] (mkh μ c s) (fun r => r = (some (some (mI (g_more μ x))), mkh (μ) c s)) := by
  have hL_ := hL
  obtain ⟨lc, lr, le, lm, lw, lh, lwo, lwd, q0, q1, q2, q3, q4, q8, q499, q500, lth, lG, lT, lW, -⟩ := hL_
  have hS_ := hS
  obtain ⟨sd, sw, stk, s4, s5, s6, hC, hH, -, s10, sce, swc, s13⟩ := hS_
  intro d
  induction d with
  | zero =>
    intro n k acc  ek eacc hn
    subst ek eacc
    refine rn_iload_n (k' := 5) rfl rfl rfl ?_
    refine rn_aload_n (k' := 6) rfl rfl rfl ?_
    refine rn_getR (k' := 7) rfl rfl K0_81 (by decide) rfl R0_81_0 ?_
    refine rn_getI (k' := 8) rfl rfl K0_6 (by decide) rfl ?_
    refine rn_icmp_ge (k' := 9) rfl rfl (fun hc1 => ?_) (fun hc1 => ?_)
    · skip
      refine rn_iload_n (k' := 25) rfl rfl rfl ?_
      refine rn_iret rfl (Or.inl rfl) ?_
      unfold g_more
      rw [show (μ 6 13).toNat = n by omega]
    · exfalso; omega
  | succ d ih =>
    intro n k acc  ek eacc hn
    subst ek eacc
    refine rn_iload_n (k' := 5) rfl rfl rfl ?_
    refine rn_aload_n (k' := 6) rfl rfl rfl ?_
    refine rn_getR (k' := 7) rfl rfl K0_81 (by decide) rfl R0_81_0 ?_
    refine rn_getI (k' := 8) rfl rfl K0_6 (by decide) rfl ?_
    refine rn_icmp_ge (k' := 9) rfl rfl (fun hc1 => ?_) (fun hc1 => ?_)
    · exfalso; omega
    · skip
      refine rn_iload_n (k' := 10) rfl rfl rfl ?_
      refine rn_iload_n (k' := 11) rfl rfl rfl ?_
      refine rn_iushr (k' := 12) rfl rfl ?_
      refine rn_iconst (k' := 13) rfl rfl ?_
      refine rn_iand (k' := 14) rfl rfl ?_
      rw [bit_u (x := x) (k := n) (by omega)]
      by_cases hq2 : bI (x) n = true
      · rw [if_pos hq2]
        refine rn_iconst (k' := 15) rfl rfl ?_
        refine rn_icmp_ne (k' := 16) rfl rfl (fun hc3 => ?_) (fun hc3 => ?_)
        · exfalso; omega
        · skip
          refine rn_iload_n (k' := 17) rfl rfl rfl ?_
          refine rn_aload_n (k' := 18) rfl rfl rfl ?_
          refine rn_iload_n (k' := 19) rfl rfl rfl ?_
          have hcl4 := c_X9_seenBy (μ := μ) (c := c) (s := s) (hL) (hS) (t := n) (by show (n : Int) < μ 6 13; omega)
          refine rn_callP (k' := 20) (y := 79) (vs := [mR 81, mI ((n : Int))]) (S' := [mI (g_hand μ x n)]) (v := some (mI (g_who μ (μ 15 n) (g_eye μ n)))) (h' := mkh μ c s) rfl rfl rfl (hcl4) ?_
          show Rn PT none kX9_handOn 20 [some (mR 81), some (mI (x)), some (mI (g_hand μ x n)), some (mI ((n : Int)))] [mI (g_who μ (μ 15 n) (g_eye μ n)), mI (g_hand μ x n)] (mkh μ c s) _
          refine rn_ior (k' := 21) rfl rfl ?_
          refine rn_istore_n (k' := 22) (L' := [some (mR 81), some (mI (x)), some (mI (m_or (g_hand μ x n) (g_who μ (μ 15 n) (g_eye μ n)))), some (mI ((n : Int)))]) rfl rfl (Nat.le_of_ble_eq_true rfl) rfl ?_
          refine rn_iinc (k' := 23) (L' := [some (mR 81), some (mI (x)), some (mI (m_or (g_hand μ x n) (g_who μ (μ 15 n) (g_eye μ n)))), some (mI ((n : Int) + 1))]) rfl rfl rfl (by omega) rfl ?_
          refine rn_goto rfl ?_
          exact ih (n + 1) _ _ (by omega) (by first | exact (g_hand_pos (by assumption)).symm | exact (g_hand_neg (by assumption)).symm) (by omega)
      · rw [if_neg hq2]
        refine rn_iconst (k' := 15) rfl rfl ?_
        refine rn_icmp_ne (k' := 16) rfl rfl (fun hc5 => ?_) (fun hc5 => ?_)
        · skip
          refine rn_iinc (k' := 23) (L' := [some (mR 81), some (mI (x)), some (mI (g_hand μ x n)), some (mI ((n : Int) + 1))]) rfl rfl rfl (by omega) rfl ?_
          refine rn_goto rfl ?_
          exact ih (n + 1) _ _ (by omega) (by first | exact (g_hand_pos (by assumption)).symm | exact (g_hand_neg (by assumption)).symm) (by omega)
        · exfalso; omega
set_option maxHeartbeats 2000000 in
theorem c_X9_handOn {μ : Nat → Nat → Int} {c s : Nat} (hL : I_land μ) (hS : I_scene μ) {x : Int} : Cl PT 82 [mR 81, mI x] (mkh μ c s) (fun r => r = (some (some (mI (g_more μ x))), mkh (μ) c s)) := by
  have hL_ := hL
  obtain ⟨lc, lr, le, lm, lw, lh, lwo, lwd, q0, q1, q2, q3, q4, q8, q499, q500, lth, lG, lT, lW, -⟩ := hL_
  have hS_ := hS
  obtain ⟨sd, sw, stk, s4, s5, s6, hC, hH, -, s10, sce, swc, s13⟩ := hS_
  refine ⟨_, PT_82, Nat.le_of_ble_eq_true rfl, ?_⟩
  show Rn PT none kX9_handOn 0 [some (mR 81), some (mI (x)), none, none] [] (mkh μ c s) _
  refine rn_iload_n (k' := 1) rfl rfl rfl ?_
  refine rn_istore_n (k' := 2) (L' := [some (mR 81), some (mI (x)), some (mI (x)), none]) rfl rfl (Nat.le_of_ble_eq_true rfl) rfl ?_
  refine rn_iconst (k' := 3) rfl rfl ?_
  refine rn_istore_n (k' := 4) (L' := [some (mR 81), some (mI (x)), some (mI (x)), some (mI (0))]) rfl rfl (Nat.le_of_ble_eq_true rfl) rfl ?_
  exact l_X9_handOn hL hS (μ 6 13).toNat 0 _ _ rfl rfl (by omega)
set_option maxHeartbeats 4000000 in
theorem l_X12_more {μ : Nat → Nat → Int} {c s : Nat} (hL : I_land μ) (hS : I_scene μ) {x : Int} : ∀ (d n : Nat) (k : Int) (acc : Int), k = (n : Int) → acc = g_hand μ x n → (n : Int) + d = μ 6 13 → Rn PT none kX12_more 4 [some (mR 118), some (mI (x)), some (mI (acc)), some (mI (k))] [] (mkh μ c s) (fun r => r = (some (some (mI (g_more μ x))), mkh (μ) c s)) := by
  have hL_ := hL
  obtain ⟨lc, lr, le, lm, lw, lh, lwo, lwd, q0, q1, q2, q3, q4, q8, q499, q500, lth, lG, lT, lW, -⟩ := hL_
  have hS_ := hS
  obtain ⟨sd, sw, stk, s4, s5, s6, hC, hH, -, s10, sce, swc, s13⟩ := hS_
  intro d
  induction d with
  | zero =>
    intro n k acc  ek eacc hn
    subst ek eacc
    refine rn_iload_n (k' := 5) rfl rfl rfl ?_
    refine rn_aload_n (k' := 6) rfl rfl rfl ?_
    refine rn_getR (k' := 7) rfl rfl K0_118 (by decide) rfl R0_118_6 ?_
    refine rn_bipush (k' := 8) rfl rfl ?_
    refine rn_iaload (k' := 9) rfl rfl K0_120 (by omega) (by omega) ?_
    show Rn PT none kX12_more 9 [some (mR 118), some (mI (x)), some (mI (g_hand μ x n)), some (mI ((n : Int)))] [mI (μ 120 8), mI ((n : Int))] (mkh μ c s) _
    rw [q8]
    refine rn_icmp_ge (k' := 10) rfl rfl (fun hc1 => ?_) (fun hc1 => ?_)
    · skip
      refine rn_iload_n (k' := 23) rfl rfl rfl ?_
      refine rn_iret rfl (Or.inl rfl) ?_
      unfold g_more
      rw [show (μ 6 13).toNat = n by omega]
    · exfalso; omega
  | succ d ih =>
    intro n k acc  ek eacc hn
    subst ek eacc
    refine rn_iload_n (k' := 5) rfl rfl rfl ?_
    refine rn_aload_n (k' := 6) rfl rfl rfl ?_
    refine rn_getR (k' := 7) rfl rfl K0_118 (by decide) rfl R0_118_6 ?_
    refine rn_bipush (k' := 8) rfl rfl ?_
    refine rn_iaload (k' := 9) rfl rfl K0_120 (by omega) (by omega) ?_
    show Rn PT none kX12_more 9 [some (mR 118), some (mI (x)), some (mI (g_hand μ x n)), some (mI ((n : Int)))] [mI (μ 120 8), mI ((n : Int))] (mkh μ c s) _
    rw [q8]
    refine rn_icmp_ge (k' := 10) rfl rfl (fun hc1 => ?_) (fun hc1 => ?_)
    · exfalso; omega
    · skip
      refine rn_iload_n (k' := 11) rfl rfl rfl ?_
      refine rn_iload_n (k' := 12) rfl rfl rfl ?_
      by_cases hq2 : bI (x) n = true
      · refine rn_callP (k' := 13) (y := 168) (vs := [mI (x), mI ((n : Int))]) (S' := []) (v := some (mI 1)) (h' := mkh μ c s) rfl rfl rfl (by have hz : Cl PT 168 [mI (x), mI ((n : Int))] (mkh μ c s) (fun r => r = (some (some (mI (if bI (x) n = true then 1 else 0))), mkh μ c s)) := c_X12_has (x := x) (t := n) (by omega) (μ := μ) (c := c) (s := s); rw [if_pos hq2] at hz; exact hz) ?_
        show Rn PT none kX12_more 13 [some (mR 118), some (mI (x)), some (mI (g_hand μ x n)), some (mI ((n : Int)))] [mI (1)] (mkh μ c s) _
        refine rn_if_eq (k' := 14) rfl rfl (fun hc3 => ?_) (fun hc3 => ?_)
        · exfalso; omega
        · skip
          refine rn_iload_n (k' := 15) rfl rfl rfl ?_
          refine rn_aload_n (k' := 16) rfl rfl rfl ?_
          refine rn_iload_n (k' := 17) rfl rfl rfl ?_
          have hcl4 := c_X12_seenBy (μ := μ) (c := c) (s := s) (hL) (hS) (t := n) (by show (n : Int) < μ 6 13; omega)
          refine rn_callP (k' := 18) (y := 229) (vs := [mR 118, mI ((n : Int))]) (S' := [mI (g_hand μ x n)]) (v := some (mI (g_who μ (μ 15 n) (g_eye μ n)))) (h' := mkh μ c s) rfl rfl rfl (hcl4) ?_
          show Rn PT none kX12_more 18 [some (mR 118), some (mI (x)), some (mI (g_hand μ x n)), some (mI ((n : Int)))] [mI (g_who μ (μ 15 n) (g_eye μ n)), mI (g_hand μ x n)] (mkh μ c s) _
          refine rn_ior (k' := 19) rfl rfl ?_
          refine rn_istore_n (k' := 20) (L' := [some (mR 118), some (mI (x)), some (mI (m_or (g_hand μ x n) (g_who μ (μ 15 n) (g_eye μ n)))), some (mI ((n : Int)))]) rfl rfl (Nat.le_of_ble_eq_true rfl) rfl ?_
          refine rn_iinc (k' := 21) (L' := [some (mR 118), some (mI (x)), some (mI (m_or (g_hand μ x n) (g_who μ (μ 15 n) (g_eye μ n)))), some (mI ((n : Int) + 1))]) rfl rfl rfl (by omega) rfl ?_
          refine rn_goto rfl ?_
          exact ih (n + 1) _ _ (by omega) (by first | exact (g_hand_pos (by assumption)).symm | exact (g_hand_neg (by assumption)).symm) (by omega)
      · refine rn_callP (k' := 13) (y := 168) (vs := [mI (x), mI ((n : Int))]) (S' := []) (v := some (mI 0)) (h' := mkh μ c s) rfl rfl rfl (by have hz : Cl PT 168 [mI (x), mI ((n : Int))] (mkh μ c s) (fun r => r = (some (some (mI (if bI (x) n = true then 1 else 0))), mkh μ c s)) := c_X12_has (x := x) (t := n) (by omega) (μ := μ) (c := c) (s := s); rw [if_neg hq2] at hz; exact hz) ?_
        show Rn PT none kX12_more 13 [some (mR 118), some (mI (x)), some (mI (g_hand μ x n)), some (mI ((n : Int)))] [mI (0)] (mkh μ c s) _
        refine rn_if_eq (k' := 14) rfl rfl (fun hc5 => ?_) (fun hc5 => ?_)
        · skip
          refine rn_iinc (k' := 21) (L' := [some (mR 118), some (mI (x)), some (mI (g_hand μ x n)), some (mI ((n : Int) + 1))]) rfl rfl rfl (by omega) rfl ?_
          refine rn_goto rfl ?_
          exact ih (n + 1) _ _ (by omega) (by first | exact (g_hand_pos (by assumption)).symm | exact (g_hand_neg (by assumption)).symm) (by omega)
        · exfalso; omega
set_option maxHeartbeats 2000000 in
theorem c_X12_more {μ : Nat → Nat → Int} {c s : Nat} (hL : I_land μ) (hS : I_scene μ) {x : Int} : Cl PT 232 [mR 118, mI x] (mkh μ c s) (fun r => r = (some (some (mI (g_more μ x))), mkh (μ) c s)) := by
  have hL_ := hL
  obtain ⟨lc, lr, le, lm, lw, lh, lwo, lwd, q0, q1, q2, q3, q4, q8, q499, q500, lth, lG, lT, lW, -⟩ := hL_
  have hS_ := hS
  obtain ⟨sd, sw, stk, s4, s5, s6, hC, hH, -, s10, sce, swc, s13⟩ := hS_
  refine ⟨_, PT_232, Nat.le_of_ble_eq_true rfl, ?_⟩
  show Rn PT none kX12_more 0 [some (mR 118), some (mI (x)), none, none] [] (mkh μ c s) _
  refine rn_iload_n (k' := 1) rfl rfl rfl ?_
  refine rn_istore_n (k' := 2) (L' := [some (mR 118), some (mI (x)), some (mI (x)), none]) rfl rfl (Nat.le_of_ble_eq_true rfl) rfl ?_
  refine rn_iconst (k' := 3) rfl rfl ?_
  refine rn_istore_n (k' := 4) (L' := [some (mR 118), some (mI (x)), some (mI (x)), some (mI (0))]) rfl rfl (Nat.le_of_ble_eq_true rfl) rfl ?_
  exact l_X12_more hL hS (μ 6 13).toNat 0 _ _ rfl rfl (by omega)
set_option maxHeartbeats 4000000 in
theorem l_between {μ : Nat → Nat → Int} {c s : Nat} (hL : I_land μ) (hS : I_scene μ) {f t : Nat} (hf : (f : Int) < μ 6 13) (ht : (t : Int) < μ 6 13) : ∀ (d n : Nat) (k bi pb : Int), k = (n : Int) → n + d = 9 → bi = g_hit μ (m_shl 1 (f : Int)) n → ((n = 0 ∧ pb = 0) ∨ (∃ m, n = m + 1 ∧ pb = g_hit μ (m_shl 1 (f : Int)) m)) → (∀ m, m < n → ¬ bI (g_hit μ (m_shl 1 (f : Int)) m) t = true) → Rn PT none kX9_seeingsBetween 8 [some (mR 81), some (mI ((f : Int))), some (mI ((t : Int))), some (mI (bi)), some (mI (pb)), some (mI (k))] [] (mkh μ c s) (fun r => r = (some (some (mI (fF (fun n => bI (g_hit μ (m_shl 1 (f : Int)) n) t = true) 0 8))), mkh μ c s)) := by
  have hL_ := hL
  obtain ⟨lc, lr, le, lm, lw, lh, lwo, lwd, q0, q1, q2, q3, q4, q8, q499, q500, lth, lG, lT, lW, -⟩ := hL_
  have hS_ := hS
  obtain ⟨sd, sw, stk, s4, s5, s6, hC, hH, -, s10, sce, swc, s13⟩ := hS_
  have hlo := one_low f (by omega)
  intro d
  induction d with
  | zero =>
    intro n k bi pb ek hn eb hp hno
    subst ek
    refine rn_iload (k' := 9) rfl rfl rfl ?_
    refine rn_bipush (k' := 10) rfl rfl ?_
    refine rn_icmp_gt (k' := 11) rfl rfl (fun hc1 => ?_) (fun hc1 => ?_)
    · skip
      refine rn_iconst (k' := 32) rfl rfl ?_
      refine rn_iret rfl (Or.inl rfl) ?_
      rw [fF_none 8 0 (fun j _ hj => hno j (by omega))]
    · exfalso; omega
  | succ d ih =>
    intro n k bi pb ek hn eb hp hno
    subst ek
    have hsame : bi = pb → fF (fun n => bI (g_hit μ (m_shl 1 (f : Int)) n) t = true) 0 8 = -1 := fun z => by
      rcases hp with ⟨h1, h2⟩ | ⟨m, h1, h2⟩
      · exfalso
        subst h1
        exact hlo.2.2 (by rw [← h2, ← z, eb]; rfl)
      · have h3 : g_hit μ (m_shl 1 (f : Int)) (m + 1) = g_hit μ (m_shl 1 (f : Int)) m := by rw [← h1, ← eb, z, h2]
        refine fF_none 8 0 (fun j _ hj => ?_)
        by_cases hj2 : j < n
        · exact hno j hj2
        · have h4 := g_hit_stay h3 (j - m)
          rw [show m + (j - m) = j by omega] at h4
          show ¬ bI (g_hit μ (m_shl 1 (f : Int)) j) t = true
          rw [h4]
          exact hno m (by omega)
    have h8 : n = 8 → bi = pb := fun z => by
      rcases hp with ⟨h1, h2⟩ | ⟨m, h1, h2⟩
      · omega
      · have hm : m = 7 := by omega
        subst hm
        rw [eb, z, h2]
        exact g_hit_7 (by omega) hlo.1 hlo.2.1 (by omega) (hno 7 (by omega))
    refine rn_iload (k' := 9) rfl rfl rfl ?_
    refine rn_bipush (k' := 10) rfl rfl ?_
    refine rn_icmp_gt (k' := 11) rfl rfl (fun hc1 => ?_) (fun hc1 => ?_)
    · exfalso; omega
    · skip
      refine rn_iload_n (k' := 12) rfl rfl rfl ?_
      refine rn_iload (k' := 13) rfl rfl rfl ?_
      refine rn_icmp_eq (k' := 14) rfl rfl (fun hc2 => ?_) (fun hc2 => ?_)
      · skip
        refine rn_iconst (k' := 32) rfl rfl ?_
        refine rn_iret rfl (Or.inl rfl) ?_
        rw [hsame (by assumption)]
      · skip
        refine rn_iload_n (k' := 15) rfl rfl rfl ?_
        refine rn_iload_n (k' := 16) rfl rfl rfl ?_
        refine rn_iushr (k' := 17) rfl rfl ?_
        refine rn_iconst (k' := 18) rfl rfl ?_
        refine rn_iand (k' := 19) rfl rfl ?_
        rw [bit_u (x := bi) (k := t) (by omega)]
        by_cases hq3 : bI (bi) t = true
        · rw [if_pos hq3]
          refine rn_iconst (k' := 20) rfl rfl ?_
          refine rn_icmp_ne (k' := 21) rfl rfl (fun hc4 => ?_) (fun hc4 => ?_)
          · exfalso; omega
          · skip
            refine rn_iload (k' := 22) rfl rfl rfl ?_
            refine rn_iret rfl (Or.inl rfl) ?_
            rw [fF_first (p := (fun n => bI (g_hit μ (m_shl 1 (f : Int)) n) t = true)) (m := n) (by show bI (g_hit μ (m_shl 1 (f : Int)) n) t = true; rw [← eb]; assumption) 8 0 (fun j _ hj => hno j hj) (by omega) (by have : ¬ n = 8 := fun z => absurd (h8 z) (by assumption); omega)]
        · rw [if_neg hq3]
          refine rn_iconst (k' := 20) rfl rfl ?_
          refine rn_icmp_ne (k' := 21) rfl rfl (fun hc5 => ?_) (fun hc5 => ?_)
          · skip
            refine rn_iload_n (k' := 24) rfl rfl rfl ?_
            refine rn_istore (k' := 25) (L' := [some (mR 81), some (mI ((f : Int))), some (mI ((t : Int))), some (mI (bi)), some (mI (bi)), some (mI ((n : Int)))]) rfl rfl (Nat.le_of_ble_eq_true rfl) rfl ?_
            refine rn_aload_n (k' := 26) rfl rfl rfl ?_
            refine rn_iload_n (k' := 27) rfl rfl rfl ?_
            have hcl6 := c_X9_handOn (μ := μ) (c := c) (s := s) (hL) (hS) (x := bi)
            refine rn_callP (k' := 28) (y := 82) (vs := [mR 81, mI (bi)]) (S' := []) (v := some (mI (g_more μ (bi)))) (h' := mkh μ c s) rfl rfl rfl (hcl6) ?_
            show Rn PT none kX9_seeingsBetween 28 [some (mR 81), some (mI ((f : Int))), some (mI ((t : Int))), some (mI (bi)), some (mI (bi)), some (mI ((n : Int)))] [mI (g_more μ (bi))] (mkh μ c s) _
            refine rn_istore_n (k' := 29) (L' := [some (mR 81), some (mI ((f : Int))), some (mI ((t : Int))), some (mI (g_more μ (bi))), some (mI (bi)), some (mI ((n : Int)))]) rfl rfl (Nat.le_of_ble_eq_true rfl) rfl ?_
            refine rn_iinc (k' := 30) (L' := [some (mR 81), some (mI ((f : Int))), some (mI ((t : Int))), some (mI (g_more μ (bi))), some (mI (bi)), some (mI ((n : Int) + 1))]) rfl rfl rfl (by omega) rfl ?_
            refine rn_goto rfl ?_
            have hnb : ¬ bI (g_hit μ (m_shl 1 (f : Int)) n) t = true := by rw [← eb]; assumption
            exact ih (n + 1) _ _ _ (by omega) (by omega) (by rw [eb]; rfl) (Or.inr ⟨n, rfl, eb⟩) (fun m hm => by
              by_cases e : m = n
              · rw [e]; exact hnb
              · exact hno m (by omega))
          · exfalso; omega
set_option maxHeartbeats 2000000 in
theorem c_X9_seeingsBetween {μ : Nat → Nat → Int} {c s : Nat} (hL : I_land μ) (hS : I_scene μ) {f t : Nat} (hf : (f : Int) < μ 6 13) (ht : (t : Int) < μ 6 13) : Cl PT 83 [mR 81, mI ((f : Int)), mI ((t : Int))] (mkh μ c s) (fun r => r = (some (some (mI (fF (fun n => bI (g_hit μ (m_shl 1 (f : Int)) n) t = true) 0 8))), mkh (μ) c s)) := by
  have hL_ := hL
  obtain ⟨lc, lr, le, lm, lw, lh, lwo, lwd, q0, q1, q2, q3, q4, q8, q499, q500, lth, lG, lT, lW, -⟩ := hL_
  have hS_ := hS
  obtain ⟨sd, sw, stk, s4, s5, s6, hC, hH, -, s10, sce, swc, s13⟩ := hS_
  refine ⟨_, PT_83, Nat.le_of_ble_eq_true rfl, ?_⟩
  show Rn PT none kX9_seeingsBetween 0 [some (mR 81), some (mI ((f : Int))), some (mI ((t : Int))), none, none, none] [] (mkh μ c s) _
  refine rn_iconst (k' := 1) rfl rfl ?_
  refine rn_iload_n (k' := 2) rfl rfl rfl ?_
  refine rn_ishl (k' := 3) rfl rfl ?_
  refine rn_istore_n (k' := 4) (L' := [some (mR 81), some (mI ((f : Int))), some (mI ((t : Int))), some (mI (m_shl (1) ((f : Int)))), none, none]) rfl rfl (Nat.le_of_ble_eq_true rfl) rfl ?_
  refine rn_iconst (k' := 5) rfl rfl ?_
  refine rn_istore (k' := 6) (L' := [some (mR 81), some (mI ((f : Int))), some (mI ((t : Int))), some (mI (m_shl (1) ((f : Int)))), some (mI (0)), none]) rfl rfl (Nat.le_of_ble_eq_true rfl) rfl ?_
  refine rn_iconst (k' := 7) rfl rfl ?_
  refine rn_istore (k' := 8) (L' := [some (mR 81), some (mI ((f : Int))), some (mI ((t : Int))), some (mI (m_shl (1) ((f : Int)))), some (mI (0)), some (mI (0))]) rfl rfl (Nat.le_of_ble_eq_true rfl) rfl ?_
  exact l_between hL hS hf ht 9 0 _ _ _ rfl rfl rfl (Or.inl ⟨rfl, rfl⟩) (fun m hm => absurd hm (Nat.not_lt_zero m))
set_option maxHeartbeats 4000000 in
theorem l_handed {μ : Nat → Nat → Int} {c s : Nat} (hL : I_land μ) (hS : I_scene μ) {f t : Nat} (hf : (f : Int) < μ 6 13) (ht : (t : Int) < μ 6 13) : ∀ (d n : Nat) (k bi : Int), k = (n : Int) → n + d = 8 → bi = g_hit μ (m_shl 1 (f : Int)) n → Rn PT none kX12_handed 19 [some (mR 118), some (mI ((f : Int))), some (mI ((t : Int))), some (mI (bi)), some (mI (k))] [] (mkh (m_set μ 118 0 (0)) c s) (fun r => r = (some (some (mI (fF (fun n => bI (g_hit μ (m_shl 1 (f : Int)) n) t = true) n d))), mkh (m_set μ 118 0 (0)) c s)) := by
  have hL_ := hL
  obtain ⟨lc, lr, le, lm, lw, lh, lwo, lwd, q0, q1, q2, q3, q4, q8, q499, q500, lth, lG, lT, lW, -⟩ := hL_
  have hS_ := hS
  obtain ⟨sd, sw, stk, s4, s5, s6, hC, hH, -, s10, sce, swc, s13⟩ := hS_
  intro d
  induction d with
  | zero =>
    intro n k bi ek hn eb
    subst ek
    refine rn_iload (k' := 20) rfl rfl rfl ?_
    refine rn_bipush (k' := 21) rfl rfl ?_
    refine rn_icmp_ge (k' := 22) rfl rfl (fun hc1 => ?_) (fun hc1 => ?_)
    · skip
      refine rn_iconst (k' := 35) rfl rfl ?_
      refine rn_iret rfl (Or.inl rfl) ?_
      rfl
    · exfalso; omega
  | succ d ih =>
    intro n k bi ek hn eb
    subst ek
    refine rn_iload (k' := 20) rfl rfl rfl ?_
    refine rn_bipush (k' := 21) rfl rfl ?_
    refine rn_icmp_ge (k' := 22) rfl rfl (fun hc1 => ?_) (fun hc1 => ?_)
    · exfalso; omega
    · skip
      refine rn_iload_n (k' := 23) rfl rfl rfl ?_
      refine rn_iload_n (k' := 24) rfl rfl rfl ?_
      by_cases hq2 : bI (bi) t = true
      · refine rn_callP (k' := 25) (y := 168) (vs := [mI (bi), mI ((t : Int))]) (S' := []) (v := some (mI 1)) (h' := mkh (m_set μ 118 0 (0)) c s) rfl rfl rfl (by have hz : Cl PT 168 [mI (bi), mI ((t : Int))] (mkh (m_set μ 118 0 (0)) c s) (fun r => r = (some (some (mI (if bI (bi) t = true then 1 else 0))), mkh (m_set μ 118 0 (0)) c s)) := c_X12_has (x := bi) (t := t) (by omega) (μ := (m_set μ 118 0 (0))) (c := c) (s := s); rw [if_pos hq2] at hz; exact hz) ?_
        show Rn PT none kX12_handed 25 [some (mR 118), some (mI ((f : Int))), some (mI ((t : Int))), some (mI (bi)), some (mI ((n : Int)))] [mI (1)] (mkh (m_set μ 118 0 (0)) c s) _
        refine rn_if_eq (k' := 26) rfl rfl (fun hc3 => ?_) (fun hc3 => ?_)
        · exfalso; omega
        · skip
          refine rn_iload (k' := 27) rfl rfl rfl ?_
          refine rn_iret rfl (Or.inl rfl) ?_
          rw [fF_pos (p := (fun n => bI (g_hit μ (m_shl 1 (f : Int)) n) t = true)) (by show bI (g_hit μ (m_shl 1 (f : Int)) n) t = true; rw [← eb]; assumption)]
      · refine rn_callP (k' := 25) (y := 168) (vs := [mI (bi), mI ((t : Int))]) (S' := []) (v := some (mI 0)) (h' := mkh (m_set μ 118 0 (0)) c s) rfl rfl rfl (by have hz : Cl PT 168 [mI (bi), mI ((t : Int))] (mkh (m_set μ 118 0 (0)) c s) (fun r => r = (some (some (mI (if bI (bi) t = true then 1 else 0))), mkh (m_set μ 118 0 (0)) c s)) := c_X12_has (x := bi) (t := t) (by omega) (μ := (m_set μ 118 0 (0))) (c := c) (s := s); rw [if_neg hq2] at hz; exact hz) ?_
        show Rn PT none kX12_handed 25 [some (mR 118), some (mI ((f : Int))), some (mI ((t : Int))), some (mI (bi)), some (mI ((n : Int)))] [mI (0)] (mkh (m_set μ 118 0 (0)) c s) _
        refine rn_if_eq (k' := 26) rfl rfl (fun hc4 => ?_) (fun hc4 => ?_)
        · skip
          refine rn_aload_n (k' := 29) rfl rfl rfl ?_
          refine rn_iload_n (k' := 30) rfl rfl rfl ?_
          have hcl5 := c_X12_more (μ := (m_set μ 118 0 (0))) (c := c) (s := s) ((hL).set rfl) ((hS).set rfl) (x := bi)
          rw [g_more_rows (ν := (m_set μ 118 0 (0))) (μ := μ) rfl rfl rfl rfl rfl rfl] at hcl5
          refine rn_callP (k' := 31) (y := 232) (vs := [mR 118, mI (bi)]) (S' := []) (v := some (mI (g_more μ (bi)))) (h' := mkh (m_set μ 118 0 (0)) c s) rfl rfl rfl (hcl5) ?_
          show Rn PT none kX12_handed 31 [some (mR 118), some (mI ((f : Int))), some (mI ((t : Int))), some (mI (bi)), some (mI ((n : Int)))] [mI (g_more μ (bi))] (mkh (m_set μ 118 0 (0)) c s) _
          refine rn_istore_n (k' := 32) (L' := [some (mR 118), some (mI ((f : Int))), some (mI ((t : Int))), some (mI (g_more μ (bi))), some (mI ((n : Int)))]) rfl rfl (Nat.le_of_ble_eq_true rfl) rfl ?_
          refine rn_iinc (k' := 33) (L' := [some (mR 118), some (mI ((f : Int))), some (mI ((t : Int))), some (mI (g_more μ (bi))), some (mI ((n : Int) + 1))]) rfl rfl rfl (by omega) rfl ?_
          refine rn_goto rfl ?_
          rw [fF_neg (p := (fun n => bI (g_hit μ (m_shl 1 (f : Int)) n) t = true)) (by show ¬ bI (g_hit μ (m_shl 1 (f : Int)) n) t = true; rw [← eb]; assumption)]
          exact ih (n + 1) _ _ (by omega) (by omega) (by rw [eb]; rfl)
        · exfalso; omega
set_option maxHeartbeats 4000000 in
theorem t_X11_handed {μ : Nat → Nat → Int} {c s : Nat} (hL : I_land μ) (hS : I_scene μ) {a0 a1 : Int} : Cl PT 132 [mR 0, mI a0, mI a1] (mkh μ c s) (fun r => ∃ μ1, r = (some (some (mI (if (0 ≤ a0 ∧ a0 < μ 6 13) ∧ 0 ≤ a1 ∧ a1 < μ 6 13 then fF (fun n => bI (g_hit μ (m_shl 1 a0) n) a1.toNat = true) 0 8 else -1))), mkh μ1 c s) ∧ rst μ1 = rst μ) := by
  have hL_ := hL
  obtain ⟨lc, lr, le, lm, lw, lh, lwo, lwd, q0, q1, q2, q3, q4, q8, q499, q500, lth, lG, lT, lW, -⟩ := hL_
  have hS_ := hS
  obtain ⟨sd, sw, stk, s4, s5, s6, hC, hH, -, s10, sce, swc, s13⟩ := hS_
  by_cases hv : (0 ≤ a0 ∧ a0 < μ 6 13) ∧ 0 ≤ a1 ∧ a1 < μ 6 13
  · rw [if_pos hv]
    obtain ⟨f, rfl⟩ := Int.eq_ofNat_of_zero_le hv.1.1
    obtain ⟨t, rfl⟩ := Int.eq_ofNat_of_zero_le hv.2.1
    rw [show ((t : Int)).toNat = t from rfl]
    have hf := hv.1.2
    have ht := hv.2.2
    refine ⟨_, PT_132, Nat.le_of_ble_eq_true rfl, ?_⟩
    show Rn PT none kX11_handed 0 [some (mR 0), some (mI ((f : Int))), some (mI ((t : Int)))] [] (mkh μ c s) _
    refine rn_aload_n (k' := 1) rfl rfl rfl ?_
    refine rn_iload_n (k' := 2) rfl rfl rfl ?_
    by_cases hq1 : 0 ≤ (f : Int) ∧ (f : Int) < μ 6 13
    · refine rn_callP (k' := 3) (y := 151) (vs := [mR 0, mI ((f : Int))]) (S' := []) (v := some (mI 1)) (h' := mkh μ c s) rfl rfl rfl (by have hz : Cl PT 151 [mR 0, mI ((f : Int))] (mkh μ c s) (fun r => r = (some (some (mI (if 0 ≤ (f : Int) ∧ (f : Int) < μ 6 13 then 1 else 0))), mkh μ c s)) := c_X11_isHerd (hL) (a := (f : Int)) (μ := μ) (c := c) (s := s); rw [if_pos hq1] at hz; exact hz) ?_
      show Rn PT none kX11_handed 3 [some (mR 0), some (mI ((f : Int))), some (mI ((t : Int)))] [mI (1)] (mkh μ c s) _
      refine rn_if_eq (k' := 4) rfl rfl (fun hc2 => ?_) (fun hc2 => ?_)
      · exfalso; omega
      · skip
        refine rn_aload_n (k' := 5) rfl rfl rfl ?_
        refine rn_iload_n (k' := 6) rfl rfl rfl ?_
        by_cases hq3 : 0 ≤ (t : Int) ∧ (t : Int) < μ 6 13
        · refine rn_callP (k' := 7) (y := 151) (vs := [mR 0, mI ((t : Int))]) (S' := []) (v := some (mI 1)) (h' := mkh μ c s) rfl rfl rfl (by have hz : Cl PT 151 [mR 0, mI ((t : Int))] (mkh μ c s) (fun r => r = (some (some (mI (if 0 ≤ (t : Int) ∧ (t : Int) < μ 6 13 then 1 else 0))), mkh μ c s)) := c_X11_isHerd (hL) (a := (t : Int)) (μ := μ) (c := c) (s := s); rw [if_pos hq3] at hz; exact hz) ?_
          show Rn PT none kX11_handed 7 [some (mR 0), some (mI ((f : Int))), some (mI ((t : Int)))] [mI (1)] (mkh μ c s) _
          refine rn_if_eq (k' := 8) rfl rfl (fun hc4 => ?_) (fun hc4 => ?_)
          · exfalso; omega
          · skip
            refine rn_aload_n (k' := 9) rfl rfl rfl ?_
            refine rn_getR (k' := 10) rfl rfl K0_0 (by decide) rfl R0_0_10 ?_
            refine rn_iload_n (k' := 11) rfl rfl rfl ?_
            refine rn_iload_n (k' := 12) rfl rfl rfl ?_
            refine rn_callP (k' := 13) (y := 83) (vs := [mR 81, mI ((f : Int)), mI ((t : Int))]) (S' := []) (v := some (mI (fF (fun n => bI (g_hit μ (m_shl 1 (f : Int)) n) t = true) 0 8))) (h' := mkh μ c s) rfl rfl rfl (c_X9_seeingsBetween hL hS (by omega) (by omega)) ?_
            show Rn PT none kX11_handed 13 [some (mR 0), some (mI ((f : Int))), some (mI ((t : Int)))] [mI (fF (fun n => bI (g_hit μ (m_shl 1 (f : Int)) n) t = true) 0 8)] (mkh μ c s) _
            refine rn_goto rfl ?_
            refine rn_iret rfl (Or.inl rfl) ?_
            exact ⟨μ, rfl, rfl⟩
        · exfalso; omega
    · exfalso; omega
  · rw [if_neg hv]
    refine ⟨_, PT_132, Nat.le_of_ble_eq_true rfl, ?_⟩
    show Rn PT none kX11_handed 0 [some (mR 0), some (mI (a0)), some (mI (a1))] [] (mkh μ c s) _
    refine rn_aload_n (k' := 1) rfl rfl rfl ?_
    refine rn_iload_n (k' := 2) rfl rfl rfl ?_
    by_cases hq1 : 0 ≤ a0 ∧ a0 < μ 6 13
    · refine rn_callP (k' := 3) (y := 151) (vs := [mR 0, mI (a0)]) (S' := []) (v := some (mI 1)) (h' := mkh μ c s) rfl rfl rfl (by have hz : Cl PT 151 [mR 0, mI (a0)] (mkh μ c s) (fun r => r = (some (some (mI (if 0 ≤ a0 ∧ a0 < μ 6 13 then 1 else 0))), mkh μ c s)) := c_X11_isHerd (hL) (a := a0) (μ := μ) (c := c) (s := s); rw [if_pos hq1] at hz; exact hz) ?_
      show Rn PT none kX11_handed 3 [some (mR 0), some (mI (a0)), some (mI (a1))] [mI (1)] (mkh μ c s) _
      refine rn_if_eq (k' := 4) rfl rfl (fun hc2 => ?_) (fun hc2 => ?_)
      · exfalso; omega
      · skip
        refine rn_aload_n (k' := 5) rfl rfl rfl ?_
        refine rn_iload_n (k' := 6) rfl rfl rfl ?_
        by_cases hq3 : 0 ≤ a1 ∧ a1 < μ 6 13
        · refine rn_callP (k' := 7) (y := 151) (vs := [mR 0, mI (a1)]) (S' := []) (v := some (mI 1)) (h' := mkh μ c s) rfl rfl rfl (by have hz : Cl PT 151 [mR 0, mI (a1)] (mkh μ c s) (fun r => r = (some (some (mI (if 0 ≤ a1 ∧ a1 < μ 6 13 then 1 else 0))), mkh μ c s)) := c_X11_isHerd (hL) (a := a1) (μ := μ) (c := c) (s := s); rw [if_pos hq3] at hz; exact hz) ?_
          show Rn PT none kX11_handed 7 [some (mR 0), some (mI (a0)), some (mI (a1))] [mI (1)] (mkh μ c s) _
          refine rn_if_eq (k' := 8) rfl rfl (fun hc4 => ?_) (fun hc4 => ?_)
          · exfalso; omega
          · skip
            refine rn_aload_n (k' := 9) rfl rfl rfl ?_
            refine rn_getR (k' := 10) rfl rfl K0_0 (by decide) rfl R0_0_10 ?_
            refine rn_iload_n (k' := 11) rfl rfl rfl ?_
            refine rn_iload_n (k' := 12) rfl rfl rfl ?_
            exfalso; omega
        · refine rn_callP (k' := 7) (y := 151) (vs := [mR 0, mI (a1)]) (S' := []) (v := some (mI 0)) (h' := mkh μ c s) rfl rfl rfl (by have hz : Cl PT 151 [mR 0, mI (a1)] (mkh μ c s) (fun r => r = (some (some (mI (if 0 ≤ a1 ∧ a1 < μ 6 13 then 1 else 0))), mkh μ c s)) := c_X11_isHerd (hL) (a := a1) (μ := μ) (c := c) (s := s); rw [if_neg hq3] at hz; exact hz) ?_
          show Rn PT none kX11_handed 7 [some (mR 0), some (mI (a0)), some (mI (a1))] [mI (0)] (mkh μ c s) _
          refine rn_if_eq (k' := 8) rfl rfl (fun hc5 => ?_) (fun hc5 => ?_)
          · skip
            refine rn_iconst (k' := 15) rfl rfl ?_
            refine rn_iret rfl (Or.inl rfl) ?_
            exact ⟨μ, rfl, rfl⟩
          · exfalso; omega
    · refine rn_callP (k' := 3) (y := 151) (vs := [mR 0, mI (a0)]) (S' := []) (v := some (mI 0)) (h' := mkh μ c s) rfl rfl rfl (by have hz : Cl PT 151 [mR 0, mI (a0)] (mkh μ c s) (fun r => r = (some (some (mI (if 0 ≤ a0 ∧ a0 < μ 6 13 then 1 else 0))), mkh μ c s)) := c_X11_isHerd (hL) (a := a0) (μ := μ) (c := c) (s := s); rw [if_neg hq1] at hz; exact hz) ?_
      show Rn PT none kX11_handed 3 [some (mR 0), some (mI (a0)), some (mI (a1))] [mI (0)] (mkh μ c s) _
      refine rn_if_eq (k' := 4) rfl rfl (fun hc6 => ?_) (fun hc6 => ?_)
      · skip
        refine rn_iconst (k' := 15) rfl rfl ?_
        refine rn_iret rfl (Or.inl rfl) ?_
        exact ⟨μ, rfl, rfl⟩
      · exfalso; omega
set_option maxHeartbeats 4000000 in
theorem t_X12_handed {μ : Nat → Nat → Int} {c s : Nat} (hL : I_land μ) (hS : I_scene μ) {a0 a1 : Int} : Cl PT 233 [mR 118, mI a0, mI a1] (mkh μ c s) (fun r => ∃ μ1, r = (some (some (mI (if (0 ≤ a0 ∧ a0 < μ 6 13) ∧ 0 ≤ a1 ∧ a1 < μ 6 13 then fF (fun n => bI (g_hit μ (m_shl 1 a0) n) a1.toNat = true) 0 8 else -1))), mkh μ1 c s) ∧ rst μ1 = rst μ) := by
  have hL_ := hL
  obtain ⟨lc, lr, le, lm, lw, lh, lwo, lwd, q0, q1, q2, q3, q4, q8, q499, q500, lth, lG, lT, lW, -⟩ := hL_
  have hS_ := hS
  obtain ⟨sd, sw, stk, s4, s5, s6, hC, hH, -, s10, sce, swc, s13⟩ := hS_
  by_cases hv : (0 ≤ a0 ∧ a0 < μ 6 13) ∧ 0 ≤ a1 ∧ a1 < μ 6 13
  · rw [if_pos hv]
    obtain ⟨f, rfl⟩ := Int.eq_ofNat_of_zero_le hv.1.1
    obtain ⟨t, rfl⟩ := Int.eq_ofNat_of_zero_le hv.2.1
    rw [show ((t : Int)).toNat = t from rfl]
    have hf := hv.1.2
    have ht := hv.2.2
    refine ⟨_, PT_233, Nat.le_of_ble_eq_true rfl, ?_⟩
    show Rn PT none kX12_handed 0 [some (mR 118), some (mI ((f : Int))), some (mI ((t : Int))), none, none] [] (mkh μ c s) _
    refine rn_aload_n (k' := 1) rfl rfl rfl ?_
    refine rn_iconst (k' := 2) rfl rfl ?_
    refine rn_putI (k' := 3) rfl rfl K0_118 (by decide) rfl ?_
    refine rn_aload_n (k' := 4) rfl rfl rfl ?_
    refine rn_iload_n (k' := 5) rfl rfl rfl ?_
    by_cases hq2 : 0 ≤ (f : Int) ∧ (f : Int) < μ 6 13
    · refine rn_callP (k' := 6) (y := 193) (vs := [mR 118, mI ((f : Int))]) (S' := []) (v := some (mI 1)) (h' := mkh (m_set μ 118 0 (0)) c s) rfl rfl rfl (by have hz : Cl PT 193 [mR 118, mI ((f : Int))] (mkh (m_set μ 118 0 (0)) c s) (fun r => r = (some (some (mI (if 0 ≤ (f : Int) ∧ (f : Int) < μ 6 13 then 1 else 0))), mkh (m_set μ 118 0 (0)) c s)) := c_X12_isHerd ((hL).set rfl) (a := (f : Int)) (μ := (m_set μ 118 0 (0))) (c := c) (s := s); rw [if_pos hq2] at hz; exact hz) ?_
      show Rn PT none kX12_handed 6 [some (mR 118), some (mI ((f : Int))), some (mI ((t : Int))), none, none] [mI (1)] (mkh (m_set μ 118 0 (0)) c s) _
      refine rn_if_eq (k' := 7) rfl rfl (fun hc3 => ?_) (fun hc3 => ?_)
      · exfalso; omega
      · skip
        refine rn_aload_n (k' := 8) rfl rfl rfl ?_
        refine rn_iload_n (k' := 9) rfl rfl rfl ?_
        by_cases hq4 : 0 ≤ (t : Int) ∧ (t : Int) < μ 6 13
        · refine rn_callP (k' := 10) (y := 193) (vs := [mR 118, mI ((t : Int))]) (S' := []) (v := some (mI 1)) (h' := mkh (m_set μ 118 0 (0)) c s) rfl rfl rfl (by have hz : Cl PT 193 [mR 118, mI ((t : Int))] (mkh (m_set μ 118 0 (0)) c s) (fun r => r = (some (some (mI (if 0 ≤ (t : Int) ∧ (t : Int) < μ 6 13 then 1 else 0))), mkh (m_set μ 118 0 (0)) c s)) := c_X12_isHerd ((hL).set rfl) (a := (t : Int)) (μ := (m_set μ 118 0 (0))) (c := c) (s := s); rw [if_pos hq4] at hz; exact hz) ?_
          show Rn PT none kX12_handed 10 [some (mR 118), some (mI ((f : Int))), some (mI ((t : Int))), none, none] [mI (1)] (mkh (m_set μ 118 0 (0)) c s) _
          refine rn_if_ne (k' := 11) rfl rfl (fun hc5 => ?_) (fun hc5 => ?_)
          · skip
            refine rn_iconst (k' := 14) rfl rfl ?_
            refine rn_iload_n (k' := 15) rfl rfl rfl ?_
            refine rn_ishl (k' := 16) rfl rfl ?_
            refine rn_istore_n (k' := 17) (L' := [some (mR 118), some (mI ((f : Int))), some (mI ((t : Int))), some (mI (m_shl (1) ((f : Int)))), none]) rfl rfl (Nat.le_of_ble_eq_true rfl) rfl ?_
            refine rn_iconst (k' := 18) rfl rfl ?_
            refine rn_istore (k' := 19) (L' := [some (mR 118), some (mI ((f : Int))), some (mI ((t : Int))), some (mI (m_shl (1) ((f : Int)))), some (mI (0))]) rfl rfl (Nat.le_of_ble_eq_true rfl) rfl ?_
            exact (l_handed hL hS hf ht 8 0 _ _ rfl rfl rfl).mono1 (fun r hr => ⟨_, hr, (rst_set (a := 118) (j := 0) rfl)⟩)
          · exfalso; omega
        · exfalso; omega
    · exfalso; omega
  · rw [if_neg hv]
    refine ⟨_, PT_233, Nat.le_of_ble_eq_true rfl, ?_⟩
    show Rn PT none kX12_handed 0 [some (mR 118), some (mI (a0)), some (mI (a1)), none, none] [] (mkh μ c s) _
    refine rn_aload_n (k' := 1) rfl rfl rfl ?_
    refine rn_iconst (k' := 2) rfl rfl ?_
    refine rn_putI (k' := 3) rfl rfl K0_118 (by decide) rfl ?_
    refine rn_aload_n (k' := 4) rfl rfl rfl ?_
    refine rn_iload_n (k' := 5) rfl rfl rfl ?_
    by_cases hq2 : 0 ≤ a0 ∧ a0 < μ 6 13
    · refine rn_callP (k' := 6) (y := 193) (vs := [mR 118, mI (a0)]) (S' := []) (v := some (mI 1)) (h' := mkh (m_set μ 118 0 (0)) c s) rfl rfl rfl (by have hz : Cl PT 193 [mR 118, mI (a0)] (mkh (m_set μ 118 0 (0)) c s) (fun r => r = (some (some (mI (if 0 ≤ a0 ∧ a0 < μ 6 13 then 1 else 0))), mkh (m_set μ 118 0 (0)) c s)) := c_X12_isHerd ((hL).set rfl) (a := a0) (μ := (m_set μ 118 0 (0))) (c := c) (s := s); rw [if_pos hq2] at hz; exact hz) ?_
      show Rn PT none kX12_handed 6 [some (mR 118), some (mI (a0)), some (mI (a1)), none, none] [mI (1)] (mkh (m_set μ 118 0 (0)) c s) _
      refine rn_if_eq (k' := 7) rfl rfl (fun hc3 => ?_) (fun hc3 => ?_)
      · exfalso; omega
      · skip
        refine rn_aload_n (k' := 8) rfl rfl rfl ?_
        refine rn_iload_n (k' := 9) rfl rfl rfl ?_
        by_cases hq4 : 0 ≤ a1 ∧ a1 < μ 6 13
        · refine rn_callP (k' := 10) (y := 193) (vs := [mR 118, mI (a1)]) (S' := []) (v := some (mI 1)) (h' := mkh (m_set μ 118 0 (0)) c s) rfl rfl rfl (by have hz : Cl PT 193 [mR 118, mI (a1)] (mkh (m_set μ 118 0 (0)) c s) (fun r => r = (some (some (mI (if 0 ≤ a1 ∧ a1 < μ 6 13 then 1 else 0))), mkh (m_set μ 118 0 (0)) c s)) := c_X12_isHerd ((hL).set rfl) (a := a1) (μ := (m_set μ 118 0 (0))) (c := c) (s := s); rw [if_pos hq4] at hz; exact hz) ?_
          show Rn PT none kX12_handed 10 [some (mR 118), some (mI (a0)), some (mI (a1)), none, none] [mI (1)] (mkh (m_set μ 118 0 (0)) c s) _
          refine rn_if_ne (k' := 11) rfl rfl (fun hc5 => ?_) (fun hc5 => ?_)
          · skip
            refine rn_iconst (k' := 14) rfl rfl ?_
            refine rn_iload_n (k' := 15) rfl rfl rfl ?_
            refine rn_ishl (k' := 16) rfl rfl ?_
            refine rn_istore_n (k' := 17) (L' := [some (mR 118), some (mI (a0)), some (mI (a1)), some (mI (m_shl (1) (a0))), none]) rfl rfl (Nat.le_of_ble_eq_true rfl) rfl ?_
            refine rn_iconst (k' := 18) rfl rfl ?_
            refine rn_istore (k' := 19) (L' := [some (mR 118), some (mI (a0)), some (mI (a1)), some (mI (m_shl (1) (a0))), some (mI (0))]) rfl rfl (Nat.le_of_ble_eq_true rfl) rfl ?_
            exfalso; omega
          · exfalso; omega
        · refine rn_callP (k' := 10) (y := 193) (vs := [mR 118, mI (a1)]) (S' := []) (v := some (mI 0)) (h' := mkh (m_set μ 118 0 (0)) c s) rfl rfl rfl (by have hz : Cl PT 193 [mR 118, mI (a1)] (mkh (m_set μ 118 0 (0)) c s) (fun r => r = (some (some (mI (if 0 ≤ a1 ∧ a1 < μ 6 13 then 1 else 0))), mkh (m_set μ 118 0 (0)) c s)) := c_X12_isHerd ((hL).set rfl) (a := a1) (μ := (m_set μ 118 0 (0))) (c := c) (s := s); rw [if_neg hq4] at hz; exact hz) ?_
          show Rn PT none kX12_handed 10 [some (mR 118), some (mI (a0)), some (mI (a1)), none, none] [mI (0)] (mkh (m_set μ 118 0 (0)) c s) _
          refine rn_if_ne (k' := 11) rfl rfl (fun hc6 => ?_) (fun hc6 => ?_)
          · exfalso; omega
          · skip
            refine rn_iconst (k' := 12) rfl rfl ?_
            refine rn_iret rfl (Or.inl rfl) ?_
            exact ⟨(m_set μ 118 0 (0)), rfl, (rst_set (a := 118) (j := 0) rfl)⟩
    · refine rn_callP (k' := 6) (y := 193) (vs := [mR 118, mI (a0)]) (S' := []) (v := some (mI 0)) (h' := mkh (m_set μ 118 0 (0)) c s) rfl rfl rfl (by have hz : Cl PT 193 [mR 118, mI (a0)] (mkh (m_set μ 118 0 (0)) c s) (fun r => r = (some (some (mI (if 0 ≤ a0 ∧ a0 < μ 6 13 then 1 else 0))), mkh (m_set μ 118 0 (0)) c s)) := c_X12_isHerd ((hL).set rfl) (a := a0) (μ := (m_set μ 118 0 (0))) (c := c) (s := s); rw [if_neg hq2] at hz; exact hz) ?_
      show Rn PT none kX12_handed 6 [some (mR 118), some (mI (a0)), some (mI (a1)), none, none] [mI (0)] (mkh (m_set μ 118 0 (0)) c s) _
      refine rn_if_eq (k' := 7) rfl rfl (fun hc7 => ?_) (fun hc7 => ?_)
      · skip
        refine rn_iconst (k' := 12) rfl rfl ?_
        refine rn_iret rfl (Or.inl rfl) ?_
        exact ⟨(m_set μ 118 0 (0)), rfl, (rst_set (a := 118) (j := 0) rfl)⟩
      · exfalso; omega
