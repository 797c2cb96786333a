variable {N : Int}
/-! ===== printed by wip/whole/gen48.py: spread, stepsOf, reached; pairs: steps, reach ===== -/
def g_far (μ : Nat → Nat → Int) (a t w : Int) : Nat → Int := if g_stand μ a t w then (bfs (g_nb μ) (fun z => g_stand μ z t w) a).1 else fun _ => -1
theorem g_far_rows {μ ν : Nat → Nat → Int} (e6 : ν 6 = μ 6) (e7 : ν 7 = μ 7) (e8 : ν 8 = μ 8) : g_far ν = g_far μ := by
  delta g_far g_nb g_stand
  rw [e6, e7, e8]
theorem g_steps_far {μ : Nat → Nat → Int} {a b t w : Int} : g_steps μ a b t w = g_far μ a t w b.toNat := by
  unfold g_steps g_far
  by_cases h : g_stand μ a t w
  · rw [if_pos h, if_pos h]
  · rw [if_neg h, if_neg h]
theorem g_far_b {μ : Nat → Nat → Int} (hL : I_land μ) {a t w : Int} (ha : g_cell μ a) (j : Nat) : -1 ≤ g_far μ a t w j ∧ g_far μ a t w j ≤ 100 := by
  unfold g_far
  by_cases h : g_stand μ a t w
  · rw [if_pos h]
    have h1 := bfs_ok (O := fun z => g_stand μ z t w) (g_GR hL) ha
    have h2 := h1.2.2.1 j
    have h3 := h1.1
    omega
  · rw [if_neg h]
    show (-1 : Int) ≤ -1 ∧ (-1 : Int) ≤ 100
    decide
theorem g_reach_cn {μ : Nat → Nat → Int} (hL : I_land μ) {a t w : Int} (ha : g_cell μ a) : g_reach μ a t w = (cn (g_far μ a t w) 100 : Nat) := by
  unfold g_reach g_far
  by_cases h : g_stand μ a t w
  · rw [if_pos h, if_pos h]
    have h1 := bfs_ok (O := fun z => g_stand μ z t w) (g_GR hL) ha
    rw [h1.2.2.2.1]
  · rw [if_neg h, if_neg h]
    rfl
set_option maxHeartbeats 4000000 in
theorem l_spread_h0 {μ : Nat → Nat → Int} {c s : Nat} (hL : I_land μ) (hw : 0 ≤ μ 118 22 ∧ μ 118 22 ≤ 1000) {a t : Int} (ht : 0 ≤ t ∧ t ≤ 99) (ha : g_cell μ a) : ∀ (d n : Nat) (k : Int), k = (n : Int) → n + d = 100 → Rn PT none kX12_spread 2 [some (mR 118), some (mI (a)), some (mI (t)), some (mI (k)), none, none, none] [] (mkh (m_upd μ 125 (fl (fun _ => 1000000000) (μ 125) n)) c s) (fun r => ∃ Fc qc, r = (some none, mkh (m_upd (m_upd μ 125 Fc) 126 qc) c s) ∧ ∀ j, j < 100 → Fc j = fv (g_far μ a t (μ 118 22) j)) := by
  have hL_ := hL
  obtain ⟨lc, lr, le, lm, lw, lh, lwo, lwd, q0, q1, q2, q3, q4, q8, q499, q500, lth, lG, lT, lW, -⟩ := hL_
  have hab := g_cell_b hL ha
  intro d
  induction d with
  | zero =>
    intro n k ek hn
    subst ek
    refine rn_iload_n (k' := 3) rfl rfl rfl ?_
    refine rn_bipush (k' := 4) rfl rfl ?_
    refine rn_icmp_ge (k' := 5) rfl rfl (fun hc1 => ?_) (fun hc1 => ?_)
    · skip
      refine rn_iload_n (k' := 13) rfl rfl rfl ?_
      refine rn_if_lt (k' := 14) rfl rfl (fun hc2 => ?_) (fun hc2 => ?_)
      · exfalso; omega
      · skip
        refine rn_aload_n (k' := 15) rfl rfl rfl ?_
        refine rn_iload_n (k' := 16) rfl rfl rfl ?_
        refine rn_iload_n (k' := 17) rfl rfl rfl ?_
        by_cases hq3 : g_stand μ a t (μ 118 22)
        · refine rn_callP (k' := 18) (y := 203) (vs := [mR 118, mI (a), mI (t)]) (S' := []) (v := some (mI 1)) (h' := mkh (m_upd μ 125 (fl (fun _ => 1000000000) (μ 125) n)) c s) rfl rfl rfl (by have hz : Cl PT 203 [mR 118, mI (a), mI (t)] (mkh (m_upd μ 125 (fl (fun _ => 1000000000) (μ 125) n)) c s) (fun r => r = (some (some (mI (if g_stand μ a t (μ 118 22) then 1 else 0))), mkh (m_upd μ 125 (fl (fun _ => 1000000000) (μ 125) n)) c s)) := c_X12_standsOn ((hL).upd rfl) (by show 0 ≤ μ 118 22 ∧ μ 118 22 ≤ 1000; omega) (a := a) (t := t) (by show g_cell μ (a); first | assumption | omega) (by omega) (μ := (m_upd μ 125 (fl (fun _ => 1000000000) (μ 125) n))) (c := c) (s := s); rw [if_pos hq3] at hz; exact hz) ?_
          show Rn PT none kX12_spread 18 [some (mR 118), some (mI (a)), some (mI (t)), some (mI ((n : Int))), none, none, none] [mI (1)] (mkh (m_upd μ 125 (fl (fun _ => 1000000000) (μ 125) n)) c s) _
          refine rn_if_ne (k' := 19) rfl rfl (fun hc4 => ?_) (fun hc4 => ?_)
          · skip
            refine rn_aload_n (k' := 21) rfl rfl rfl ?_
            refine rn_getR (k' := 22) rfl rfl K0_118 (by decide) rfl R0_118_24 ?_
            refine rn_iload_n (k' := 23) rfl rfl rfl ?_
            refine rn_iconst (k' := 24) rfl rfl ?_
            refine rn_iastore (k' := 25) rfl rfl K0_125 (by omega) (by omega) ?_
            refine rn_iconst (k' := 26) rfl rfl ?_
            refine rn_istore_n (k' := 27) (L' := [some (mR 118), some (mI (a)), some (mI (t)), some (mI (1)), none, none, none]) rfl rfl (Nat.le_of_ble_eq_true rfl) rfl ?_
            refine rn_aload_n (k' := 28) rfl rfl rfl ?_
            refine rn_getR (k' := 29) rfl rfl K0_118 (by decide) rfl R0_118_25 ?_
            refine rn_iconst (k' := 30) rfl rfl ?_
            refine rn_iload_n (k' := 31) rfl rfl rfl ?_
            refine rn_iastore (k' := 32) rfl rfl K0_126 (by omega) (by omega) ?_
            refine rn_iconst (k' := 33) rfl rfl ?_
            refine rn_istore (k' := 34) (L' := [some (mR 118), some (mI (a)), some (mI (t)), some (mI (1)), some (mI (0)), none, none]) rfl rfl (Nat.le_of_ble_eq_true rfl) rfl ?_
            show Rn PT none kX12_spread 34 [some (mR 118), some (mI (a)), some (mI (t)), some (mI (1)), some (mI (0)), none, none] [] (mkh (m_set (m_set (m_upd μ 125 (fl (fun _ => 1000000000) (μ 125) n)) 125 ((a).toNat) (0)) 126 0 (a)) c s) _
            rw [set_upd_eq (a := 125), set_is_upd (a := 126)]
            rw [show g_far μ a t (μ 118 22) = (bfs (g_nb μ) (fun z => g_stand μ z t (μ 118 22)) a).1 from if_pos (by assumption)]
            refine l_spread_h hL hw ht ha 100 0 _ _ 1 _ _ _ _ rfl rfl rfl rfl ⟨?_, ?_⟩
            · intro j hj
              show fs _ a.toNat 0 j = fv (if j = a.toNat then 0 else -1)
              unfold fs
              by_cases e : j = a.toNat
              · rw [if_pos e, if_pos e]; rfl
              · rw [if_neg e, if_neg e, fl_lt (by omega)]; rfl
            · intro j hj
              have hj0 : j = 0 := Nat.lt_one_iff.mp hj
              subst hj0
              show fs _ 0 a 0 = a
              exact fs_eq
          · exfalso; omega
        · refine rn_callP (k' := 18) (y := 203) (vs := [mR 118, mI (a), mI (t)]) (S' := []) (v := some (mI 0)) (h' := mkh (m_upd μ 125 (fl (fun _ => 1000000000) (μ 125) n)) c s) rfl rfl rfl (by have hz : Cl PT 203 [mR 118, mI (a), mI (t)] (mkh (m_upd μ 125 (fl (fun _ => 1000000000) (μ 125) n)) c s) (fun r => r = (some (some (mI (if g_stand μ a t (μ 118 22) then 1 else 0))), mkh (m_upd μ 125 (fl (fun _ => 1000000000) (μ 125) n)) c s)) := c_X12_standsOn ((hL).upd rfl) (by show 0 ≤ μ 118 22 ∧ μ 118 22 ≤ 1000; omega) (a := a) (t := t) (by show g_cell μ (a); first | assumption | omega) (by omega) (μ := (m_upd μ 125 (fl (fun _ => 1000000000) (μ 125) n))) (c := c) (s := s); rw [if_neg hq3] at hz; exact hz) ?_
          show Rn PT none kX12_spread 18 [some (mR 118), some (mI (a)), some (mI (t)), some (mI ((n : Int))), none, none, none] [mI (0)] (mkh (m_upd μ 125 (fl (fun _ => 1000000000) (μ 125) n)) c s) _
          refine rn_if_ne (k' := 19) rfl rfl (fun hc5 => ?_) (fun hc5 => ?_)
          · exfalso; omega
          · skip
            refine rn_vret rfl ?_
            have h1 : m_upd ((m_upd μ 125 (fl (fun _ => 1000000000) (μ 125) n))) 126 (μ 126) = (m_upd μ 125 (fl (fun _ => 1000000000) (μ 125) n)) := upd_self (μ := (m_upd μ 125 (fl (fun _ => 1000000000) (μ 125) n))) (a := 126)
            refine ⟨fl (fun _ => 1000000000) (μ 125) n, μ 126, by rw [h1], ?_⟩
            intro j hj
            rw [show g_far μ a t (μ 118 22) = fun _ => -1 from if_neg (by assumption), fl_lt (by omega)]
            rfl
    · exfalso; omega
  | succ d ih =>
    intro n k ek hn
    subst ek
    refine rn_iload_n (k' := 3) rfl rfl rfl ?_
    refine rn_bipush (k' := 4) rfl rfl ?_
    refine rn_icmp_ge (k' := 5) rfl rfl (fun hc1 => ?_) (fun hc1 => ?_)
    · exfalso; omega
    · skip
      refine rn_aload_n (k' := 6) rfl rfl rfl ?_
      refine rn_getR (k' := 7) rfl rfl K0_118 (by decide) rfl R0_118_24 ?_
      refine rn_iload_n (k' := 8) rfl rfl rfl ?_
      refine rn_ldc_w (k' := 9) rfl rfl ?_
      refine rn_iastore (k' := 10) rfl rfl K0_125 (by omega) (by omega) ?_
      refine rn_iinc (k' := 11) (L' := [some (mR 118), some (mI (a)), some (mI (t)), some (mI ((n : Int) + 1)), none, none, none]) rfl rfl rfl (by omega) rfl ?_
      refine rn_goto rfl ?_
      show Rn PT none kX12_spread 2 [some (mR 118), some (mI (a)), some (mI (t)), some (mI ((n : Int) + 1)), none, none, none] [] (mkh (m_set (m_upd μ 125 (fl (fun _ => 1000000000) (μ 125) n)) 125 n (1000000000)) c s) _
      rw [fl_st (n := n) rfl]
      exact ih (n + 1) _ (by omega) (by omega)
theorem c_spread_h {μ : Nat → Nat → Int} {c s : Nat} (hL : I_land μ) (hw : 0 ≤ μ 118 22 ∧ μ 118 22 ≤ 1000) {a t : Int} (ht : 0 ≤ t ∧ t ≤ 99) (ha : g_cell μ a) : ∃ Fc qc, (∀ j, j < 100 → Fc j = fv (g_far μ a t (μ 118 22) j)) ∧ Cl PT 212 [mR 118, mI a, mI t] (mkh μ c s) (fun r => r = (some none, mkh (m_upd (m_upd μ 125 Fc) 126 qc) c s)) := by
  refine Cl.ex2 (g := fun Fc qc => (some none, mkh (m_upd (m_upd μ 125 Fc) 126 qc) c s)) ?_
  refine ⟨_, PT_212, Nat.le_of_ble_eq_true rfl, ?_⟩
  show Rn PT none kX12_spread 0 [some (mR 118), some (mI (a)), some (mI (t)), none, none, none, none] [] (mkh μ c s) _
  refine rn_iconst (k' := 1) rfl rfl ?_
  refine rn_istore_n (k' := 2) (L' := [some (mR 118), some (mI (a)), some (mI (t)), some (mI (0)), none, none, none]) rfl rfl (Nat.le_of_ble_eq_true rfl) rfl ?_
  have h := l_spread_h0 (c := c) (s := s) hL hw ht ha 100 0 0 rfl rfl
  rw [fl_0] at h
  exact h
set_option maxHeartbeats 4000000 in
theorem c_stepsOf {μ : Nat → Nat → Int} {c s : Nat} (hL : I_land μ) (hw : 0 ≤ μ 118 22 ∧ μ 118 22 ≤ 1000) {a b t : Int} (ht : 0 ≤ t ∧ t ≤ 99) (ha : g_cell μ a) (hb : g_cell μ b) : ∃ Fc qc, (∀ j, j < 100 → Fc j = fv (g_far μ a t (μ 118 22) j)) ∧ Cl PT 213 [mR 118, mI a, mI b, mI t] (mkh μ c s) (fun r => r = (some (some (mI (g_steps μ a b t (μ 118 22)))), mkh (m_upd (m_upd μ 125 Fc) 126 qc) c s)) := by
  obtain ⟨Fc, qc, hF, hcl⟩ := c_spread_h (c := c) (s := s) hL hw ht ha
  refine ⟨Fc, qc, hF, ?_⟩
  have hbb := g_cell_b hL hb
  have h1 := hF b.toNat (by omega)
  have h2 := g_far_b hL (t := t) (w := μ 118 22) ha b.toNat
  have h3 : g_steps μ a b t (μ 118 22) = _ := g_steps_far
  by_cases h4 : g_far μ a t (μ 118 22) b.toNat = -1
  · rw [h4, fv_n] at h1
    refine ⟨_, PT_213, Nat.le_of_ble_eq_true rfl, ?_⟩
    show Rn PT none kX12_stepsOf 0 [some (mR 118), some (mI (a)), some (mI (b)), some (mI (t))] [] (mkh μ c s) _
    refine rn_aload_n (k' := 1) rfl rfl rfl ?_
    refine rn_iload_n (k' := 2) rfl rfl rfl ?_
    refine rn_iload_n (k' := 3) rfl rfl rfl ?_
    refine rn_callP (k' := 4) (y := 212) (vs := [mR 118, mI (a), mI (t)]) (S' := []) (v := none) (h' := mkh (m_upd (m_upd μ 125 Fc) 126 qc) c s) rfl rfl rfl (hcl) ?_
    show Rn PT none kX12_stepsOf 4 [some (mR 118), some (mI (a)), some (mI (b)), some (mI (t))] [] (mkh (m_upd (m_upd μ 125 Fc) 126 qc) c s) _
    refine rn_aload_n (k' := 5) rfl rfl rfl ?_
    refine rn_getR (k' := 6) rfl rfl K0_118 (by decide) rfl R0_118_24 ?_
    refine rn_iload_n (k' := 7) rfl rfl rfl ?_
    refine rn_iaload (k' := 8) rfl rfl K0_125 (by omega) (by omega) ?_
    show Rn PT none kX12_stepsOf 8 [some (mR 118), some (mI (a)), some (mI (b)), some (mI (t))] [mI (Fc ((b).toNat))] (mkh (m_upd (m_upd μ 125 Fc) 126 qc) c s) _
    refine rn_ldc_w (k' := 9) rfl rfl ?_
    refine rn_icmp_ge (k' := 10) rfl rfl (fun hc1 => ?_) (fun hc1 => ?_)
    · skip
      refine rn_iconst (k' := 16) rfl rfl ?_
      refine rn_iret rfl (Or.inl rfl) ?_
      rw [h3, h4]
    · exfalso; omega
  · rw [fv_p h4] at h1
    refine ⟨_, PT_213, Nat.le_of_ble_eq_true rfl, ?_⟩
    show Rn PT none kX12_stepsOf 0 [some (mR 118), some (mI (a)), some (mI (b)), some (mI (t))] [] (mkh μ c s) _
    refine rn_aload_n (k' := 1) rfl rfl rfl ?_
    refine rn_iload_n (k' := 2) rfl rfl rfl ?_
    refine rn_iload_n (k' := 3) rfl rfl rfl ?_
    refine rn_callP (k' := 4) (y := 212) (vs := [mR 118, mI (a), mI (t)]) (S' := []) (v := none) (h' := mkh (m_upd (m_upd μ 125 Fc) 126 qc) c s) rfl rfl rfl (hcl) ?_
    show Rn PT none kX12_stepsOf 4 [some (mR 118), some (mI (a)), some (mI (b)), some (mI (t))] [] (mkh (m_upd (m_upd μ 125 Fc) 126 qc) c s) _
    refine rn_aload_n (k' := 5) rfl rfl rfl ?_
    refine rn_getR (k' := 6) rfl rfl K0_118 (by decide) rfl R0_118_24 ?_
    refine rn_iload_n (k' := 7) rfl rfl rfl ?_
    refine rn_iaload (k' := 8) rfl rfl K0_125 (by omega) (by omega) ?_
    show Rn PT none kX12_stepsOf 8 [some (mR 118), some (mI (a)), some (mI (b)), some (mI (t))] [mI (Fc ((b).toNat))] (mkh (m_upd (m_upd μ 125 Fc) 126 qc) c s) _
    refine rn_ldc_w (k' := 9) rfl rfl ?_
    refine rn_icmp_ge (k' := 10) rfl rfl (fun hc1 => ?_) (fun hc1 => ?_)
    · exfalso; omega
    · skip
      refine rn_aload_n (k' := 11) rfl rfl rfl ?_
      refine rn_getR (k' := 12) rfl rfl K0_118 (by decide) rfl R0_118_24 ?_
      refine rn_iload_n (k' := 13) rfl rfl rfl ?_
      refine rn_iaload (k' := 14) rfl rfl K0_125 (by omega) (by omega) ?_
      show Rn PT none kX12_stepsOf 14 [some (mR 118), some (mI (a)), some (mI (b)), some (mI (t))] [mI (Fc ((b).toNat))] (mkh (m_upd (m_upd μ 125 Fc) 126 qc) c s) _
      refine rn_goto rfl ?_
      refine rn_iret rfl (Or.inl rfl) ?_
      rw [h3, h1]
set_option maxHeartbeats 4000000 in
theorem l_X12_reached {μ : Nat → Nat → Int} {c s : Nat} {G : Nat → Int} (hG : ∀ j, j < 100 → μ 125 j = fv (G j)) (hGb : ∀ j, -1 ≤ G j ∧ G j ≤ 100) : ∀ (d n : Nat) (k : Int) (acc : Int), k = (n : Int) → acc = (cn G n : Nat) → (n : Int) + d = 100 → Rn PT none kX12_reached 4 [some (mR 118), some (mI (acc)), some (mI (k))] [] (mkh μ c s) (fun r => r = (some (some (mI ((cn G 100 : Nat)))), mkh (μ) c s)) := by
  intro d
  induction d with
  | zero =>
    intro n k acc  ek eacc hn
    subst ek eacc
    have hcn := cn_le G n
    refine rn_iload_n (k' := 5) rfl rfl rfl ?_
    refine rn_bipush (k' := 6) rfl rfl ?_
    refine rn_icmp_ge (k' := 7) rfl rfl (fun hc1 => ?_) (fun hc1 => ?_)
    · skip
      refine rn_iload_n (k' := 22) rfl rfl rfl ?_
      refine rn_iret rfl (Or.inl rfl) ?_
      rw [show n = 100 by omega]
    · exfalso; omega
  | succ d ih =>
    intro n k acc  ek eacc hn
    subst ek eacc
    have hcn := cn_le G n
    have hg1 := hG n (by omega)
    have hg2 := hGb n
    have hg3 : (G n = -1 ∧ μ 125 n = 1000000000) ∨ (¬ G n = -1 ∧ μ 125 n = G n) := by
      by_cases z : G n = -1
      · rw [z] at hg1; exact Or.inl ⟨z, hg1⟩
      · rw [fv_p z] at hg1; exact Or.inr ⟨z, hg1⟩
    have hg4 : cn G (n + 1) = cn G n + (if G n = -1 then 0 else 1) := rfl
    refine rn_iload_n (k' := 5) rfl rfl rfl ?_
    refine rn_bipush (k' := 6) rfl rfl ?_
    refine rn_icmp_ge (k' := 7) rfl rfl (fun hc1 => ?_) (fun hc1 => ?_)
    · exfalso; omega
    · skip
      refine rn_iload_n (k' := 8) rfl rfl rfl ?_
      refine rn_aload_n (k' := 9) rfl rfl rfl ?_
      refine rn_getR (k' := 10) rfl rfl K0_118 (by decide) rfl R0_118_24 ?_
      refine rn_iload_n (k' := 11) rfl rfl rfl ?_
      refine rn_iaload (k' := 12) rfl rfl K0_125 (by omega) (by omega) ?_
      show Rn PT none kX12_reached 12 [some (mR 118), some (mI ((cn G n : Nat))), some (mI ((n : Int)))] [mI (μ 125 (n)), mI ((cn G n : Nat))] (mkh μ c s) _
      refine rn_ldc_w (k' := 13) rfl rfl ?_
      refine rn_icmp_ge (k' := 14) rfl rfl (fun hc2 => ?_) (fun hc2 => ?_)
      · skip
        refine rn_iconst (k' := 17) rfl rfl ?_
        refine rn_iadd (k' := 18) rfl rfl (by omega) ?_
        refine rn_istore_n (k' := 19) (L' := [some (mR 118), some (mI (((cn G n : Nat)) + 0)), some (mI ((n : Int)))]) rfl rfl (Nat.le_of_ble_eq_true rfl) rfl ?_
        refine rn_iinc (k' := 20) (L' := [some (mR 118), some (mI (((cn G n : Nat)) + 0)), some (mI ((n : Int) + 1))]) rfl rfl rfl (by omega) rfl ?_
        refine rn_goto rfl ?_
        exact ih (n + 1) _ _ (by omega) (by rw [hg4]; first | rw [if_pos (by omega)]; omega | rw [if_neg (by omega)]; omega) (by omega)
      · skip
        refine rn_iconst (k' := 15) rfl rfl ?_
        refine rn_goto rfl ?_
        refine rn_iadd (k' := 18) rfl rfl (by omega) ?_
        refine rn_istore_n (k' := 19) (L' := [some (mR 118), some (mI (((cn G n : Nat)) + 1)), some (mI ((n : Int)))]) rfl rfl (Nat.le_of_ble_eq_true rfl) rfl ?_
        refine rn_iinc (k' := 20) (L' := [some (mR 118), some (mI (((cn G n : Nat)) + 1)), some (mI ((n : Int) + 1))]) rfl rfl rfl (by omega) rfl ?_
        refine rn_goto rfl ?_
        exact ih (n + 1) _ _ (by omega) (by rw [hg4]; first | rw [if_pos (by omega)]; omega | rw [if_neg (by omega)]; omega) (by omega)
set_option maxHeartbeats 2000000 in
theorem c_X12_reached {μ : Nat → Nat → Int} {c s : Nat} {G : Nat → Int} (hG : ∀ j, j < 100 → μ 125 j = fv (G j)) (hGb : ∀ j, -1 ≤ G j ∧ G j ≤ 100) : Cl PT 226 [mR 118] (mkh μ c s) (fun r => r = (some (some (mI ((cn G 100 : Nat)))), mkh (μ) c s)) := by
  refine ⟨_, PT_226, Nat.le_of_ble_eq_true rfl, ?_⟩
  show Rn PT none kX12_reached 0 [some (mR 118), none, none] [] (mkh μ c s) _
  refine rn_iconst (k' := 1) rfl rfl ?_
  refine rn_istore_n (k' := 2) (L' := [some (mR 118), some (mI (0)), none]) rfl rfl (Nat.le_of_ble_eq_true rfl) rfl ?_
  refine rn_iconst (k' := 3) rfl rfl ?_
  refine rn_istore_n (k' := 4) (L' := [some (mR 118), some (mI (0)), some (mI (0))]) rfl rfl (Nat.le_of_ble_eq_true rfl) rfl ?_
  exact l_X12_reached hG hGb 100 0 _ _ rfl rfl rfl
