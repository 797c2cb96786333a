variable {N : Int}
/-! ===== printed by wip/whole/gen74.py: the model's spread for the wolf, its round ===== -/
set_option maxHeartbeats 4000000 in
theorem l_spread_w0 {μ : Nat → Nat → Int} {c s : Nat} (hL : I_land μ) (hw : 0 ≤ μ 118 22 ∧ μ 118 22 ≤ 1000) {a : Int} (ha : g_cell μ a) : ∀ (d n : Nat) (k : Int), k = (n : Int) → n + d = 100 → Rn PT none kX12_spread 2 [some (mR 118), some (mI (a)), some (mI (-1)), some (mI (k)), none, none, none] [] (mkh (m_upd μ 125 (fl (fun _ => 1000000000) (μ 125) n)) c s) (fun r => ∃ Fc qc, r = (some none, mkh (m_upd (m_upd μ 125 Fc) 126 qc) c s) ∧ ∀ j, j < 100 → Fc j = fv (wF μ (μ 118 22) a j)) := by
  have hL_ := hL
  obtain ⟨lc, lr, le, lm, lw, lh, lwo, lwd, q0, q1, q2, q3, q4, q8, q499, q500, lth, lG, lT, lW, -⟩ := hL_
  have hab := g_cell_b hL ha
  intro d
  induction d with
  | zero =>
    intro n k ek hn
    subst ek
    refine rn_iload_n (k' := 3) rfl rfl rfl ?_
    refine rn_bipush (k' := 4) rfl rfl ?_
    refine rn_icmp_ge (k' := 5) rfl rfl (fun hc1 => ?_) (fun hc1 => ?_)
    · skip
      refine rn_iload_n (k' := 13) rfl rfl rfl ?_
      refine rn_if_lt (k' := 14) rfl rfl (fun hc2 => ?_) (fun hc2 => ?_)
      · skip
        refine rn_aload_n (k' := 21) rfl rfl rfl ?_
        refine rn_getR (k' := 22) rfl rfl K0_118 (by decide) rfl R0_118_24 ?_
        refine rn_iload_n (k' := 23) rfl rfl rfl ?_
        refine rn_iconst (k' := 24) rfl rfl ?_
        refine rn_iastore (k' := 25) rfl rfl K0_125 (by omega) (by omega) ?_
        refine rn_iconst (k' := 26) rfl rfl ?_
        refine rn_istore_n (k' := 27) (L' := [some (mR 118), some (mI (a)), some (mI (-1)), some (mI (1)), none, none, none]) rfl rfl (Nat.le_of_ble_eq_true rfl) rfl ?_
        refine rn_aload_n (k' := 28) rfl rfl rfl ?_
        refine rn_getR (k' := 29) rfl rfl K0_118 (by decide) rfl R0_118_25 ?_
        refine rn_iconst (k' := 30) rfl rfl ?_
        refine rn_iload_n (k' := 31) rfl rfl rfl ?_
        refine rn_iastore (k' := 32) rfl rfl K0_126 (by omega) (by omega) ?_
        refine rn_iconst (k' := 33) rfl rfl ?_
        refine rn_istore (k' := 34) (L' := [some (mR 118), some (mI (a)), some (mI (-1)), some (mI (1)), some (mI (0)), none, none]) rfl rfl (Nat.le_of_ble_eq_true rfl) rfl ?_
        show Rn PT none kX12_spread 34 [some (mR 118), some (mI (a)), some (mI (-1)), some (mI (1)), some (mI (0)), none, none] [] (mkh (m_set (m_set (m_upd μ 125 (fl (fun _ => 1000000000) (μ 125) n)) 125 ((a).toNat) (0)) 126 0 (a)) c s) _
        rw [set_upd_eq (a := 125), set_is_upd (a := 126)]
        refine l_spread_w hL hw rfl ha 100 0 _ _ 1 _ _ _ _ rfl rfl rfl rfl ⟨?_, ?_⟩
        · intro j hj
          show fs _ a.toNat 0 j = fv (if j = a.toNat then 0 else -1)
          unfold fs
          by_cases e : j = a.toNat
          · rw [if_pos e, if_pos e]; rfl
          · rw [if_neg e, if_neg e, fl_lt (by omega)]; rfl
        · intro j hj
          have hj0 : j = 0 := Nat.lt_one_iff.mp hj
          subst hj0
          show fs _ 0 a 0 = a
          exact fs_eq
      · exfalso; omega
    · exfalso; omega
  | succ d ih =>
    intro n k ek hn
    subst ek
    refine rn_iload_n (k' := 3) rfl rfl rfl ?_
    refine rn_bipush (k' := 4) rfl rfl ?_
    refine rn_icmp_ge (k' := 5) rfl rfl (fun hc1 => ?_) (fun hc1 => ?_)
    · exfalso; omega
    · skip
      refine rn_aload_n (k' := 6) rfl rfl rfl ?_
      refine rn_getR (k' := 7) rfl rfl K0_118 (by decide) rfl R0_118_24 ?_
      refine rn_iload_n (k' := 8) rfl rfl rfl ?_
      refine rn_ldc_w (k' := 9) rfl rfl ?_
      refine rn_iastore (k' := 10) rfl rfl K0_125 (by omega) (by omega) ?_
      refine rn_iinc (k' := 11) (L' := [some (mR 118), some (mI (a)), some (mI (-1)), some (mI ((n : Int) + 1)), none, none, none]) rfl rfl rfl (by omega) rfl ?_
      refine rn_goto rfl ?_
      show Rn PT none kX12_spread 2 [some (mR 118), some (mI (a)), some (mI (-1)), some (mI ((n : Int) + 1)), none, none, none] [] (mkh (m_set (m_upd μ 125 (fl (fun _ => 1000000000) (μ 125) n)) 125 n (1000000000)) c s) _
      rw [fl_st (n := n) rfl]
      exact ih (n + 1) _ (by omega) (by omega)
theorem c_spread_w {μ : Nat → Nat → Int} {c s : Nat} (hL : I_land μ) (hw : 0 ≤ μ 118 22 ∧ μ 118 22 ≤ 1000) {a : Int} (ha : g_cell μ a) : ∃ Fc qc, (∀ j, j < 100 → Fc j = fv (wF μ (μ 118 22) a j)) ∧ Cl PT 212 [mR 118, mI a, mI (-1)] (mkh μ c s) (fun r => r = (some none, mkh (m_upd (m_upd μ 125 Fc) 126 qc) c s)) := by
  refine Cl.ex2 (g := fun Fc qc => (some none, mkh (m_upd (m_upd μ 125 Fc) 126 qc) c s)) ?_
  refine ⟨_, PT_212, Nat.le_of_ble_eq_true rfl, ?_⟩
  show Rn PT none kX12_spread 0 [some (mR 118), some (mI (a)), some (mI (-1)), none, none, none, none] [] (mkh μ c s) _
  refine rn_iconst (k' := 1) rfl rfl ?_
  refine rn_istore_n (k' := 2) (L' := [some (mR 118), some (mI (a)), some (mI (-1)), some (mI (0)), none, none, none]) rfl rfl (Nat.le_of_ble_eq_true rfl) rfl ?_
  have h := l_spread_w0 (c := c) (s := s) hL hw ha 100 0 0 rfl rfl
  rw [fl_0] at h
  exact h
set_option maxHeartbeats 4000000 in
theorem l_round {μ : Nat → Nat → Int} {c s : Nat} (hL : I_land μ) (hw : 0 ≤ μ 118 22 ∧ μ 118 22 ≤ 1000) {B : Int} (hB : B ≤ 1000100) (h0 : hOK μ (fun j => μ 120 (518 + j)) B ((fun j => μ 120 (526 + j)), μ 120 534, μ 120 535)) {F q : Nat → Int} {Q : MR → Prop} (hF : ∀ j, j < 100 → F j = fv (wF μ (μ 118 22) (μ 120 534) j)) {v3 v4 v5 v6 : Option MV} (K : Rn PT none kX12_round 60 [some (mR 118), some (mI (ba (hel μ (μ 118 22) (fun j => μ 120 (518 + j)) ((fun j => μ 120 (526 + j)), μ 120 534, μ 120 535)) (μ 6 13).toNat)), some (mI (μ 6 13)), v3, v4, v5, v6] [] (mkh (m_upd (m_upd μ 125 F) 126 q) c s) Q) : ∀ (d n : Nat) (k be : Int), k = (n : Int) → (n : Int) + d = μ 6 13 → be = ba (hel μ (μ 118 22) (fun j => μ 120 (518 + j)) ((fun j => μ 120 (526 + j)), μ 120 534, μ 120 535)) n → Rn PT none kX12_round 11 [some (mR 118), some (mI (be)), some (mI (k)), v3, v4, v5, v6] [] (mkh (m_upd (m_upd μ 125 F) 126 q) c s) Q := by
  have hL_ := hL
  obtain ⟨lc, lr, le, lm, lw, lh, lwo, lwd, q0, q1, q2, q3, q4, q8, q499, q500, lth, lG, lT, lW, -⟩ := hL_
  have h0_ := h0
  obtain ⟨k1, k2, k3, k4⟩ := h0_
  have k1 : g_cell μ (μ 120 534) := k1
  have k2 : ∀ j : Nat, (j : Int) < μ 6 13 → 0 ≤ μ 120 (526 + j) ∧ μ 120 (526 + j) ≤ 99 := k2
  have k3 : 0 ≤ μ 120 535 ∧ μ 120 535 ≤ B := k3
  have k4 : ∀ j : Nat, (j : Int) < μ 6 13 → g_cell μ (μ 120 (518 + j)) := k4
  have kwb := g_cell_b hL k1
  intro d
  induction d with
  | zero =>
    intro n k be ek hn eb
    subst ek eb
    have hnn : (μ 6 13).toNat = n := by omega
    have hn2 : μ 6 13 = (n : Int) := by omega
    rw [hnn, hn2] at K
    refine rn_iload_n (k' := 12) rfl rfl rfl ?_
    refine rn_aload_n (k' := 13) rfl rfl rfl ?_
    refine rn_getR (k' := 14) rfl rfl K0_118 (by decide) rfl R0_118_6 ?_
    refine rn_bipush (k' := 15) rfl rfl ?_
    refine rn_iaload (k' := 16) rfl rfl K0_120 (by omega) (by omega) ?_
    show Rn PT none kX12_round 16 [some (mR 118), some (mI (ba (hel μ (μ 118 22) (fun j => μ 120 (518 + j)) ((fun j => μ 120 (526 + j)), μ 120 534, μ 120 535)) n)), some (mI ((n : Int))), v3, v4, v5, v6] [mI (μ 120 8), mI ((n : Int))] (mkh (m_upd (m_upd μ 125 F) 126 q) c s) _
    rw [q8]
    refine rn_icmp_ge (k' := 17) rfl rfl (fun hc1 => ?_) (fun hc1 => ?_)
    · skip
      exact K
    · exfalso; omega
  | succ d ih =>
    intro n k be ek hn eb
    subst ek eb
    have hcb := g_cell_b hL (k4 n (by omega))
    have hf := hF (μ 120 (518 + n)).toNat (by omega)
    have hfb := wF_b (W := μ 118 22) hL k1 (μ 120 (518 + n)).toNat
    have hfo := fv_or (wF μ (μ 118 22) (μ 120 534) (μ 120 (518 + n)).toNat)
    have hk2 := k2 n (by omega)
    have hd : (0 < μ 120 (526 + n) ∧ (hel μ (μ 118 22) (fun j => μ 120 (518 + j)) ((fun j => μ 120 (526 + j)), μ 120 534, μ 120 535)) n = wF μ (μ 118 22) (μ 120 534) (μ 120 (518 + n)).toNat) ∨ (¬ 0 < μ 120 (526 + n) ∧ (hel μ (μ 118 22) (fun j => μ 120 (518 + j)) ((fun j => μ 120 (526 + j)), μ 120 534, μ 120 535)) n = -1) := by
      unfold hel
      by_cases z : 0 < μ 120 (526 + n)
      · left; exact ⟨z, if_pos z⟩
      · right; exact ⟨z, if_neg z⟩
    have hbb := ba_b (f := hel μ (μ 118 22) (fun j => μ 120 (518 + j)) ((fun j => μ 120 (526 + j)), μ 120 534, μ 120 535)) n
    rcases (show (ba (hel μ (μ 118 22) (fun j => μ 120 (518 + j)) ((fun j => μ 120 (526 + j)), μ 120 534, μ 120 535)) n) = -1 ∨ 0 ≤ (ba (hel μ (μ 118 22) (fun j => μ 120 (518 + j)) ((fun j => μ 120 (526 + j)), μ 120 534, μ 120 535)) n) by omega) with hb | hb
    · have hpos : ¬ (hel μ (μ 118 22) (fun j => μ 120 (518 + j)) ((fun j => μ 120 (526 + j)), μ 120 534, μ 120 535)) n = -1 → ba (hel μ (μ 118 22) (fun j => μ 120 (518 + j)) ((fun j => μ 120 (526 + j)), μ 120 534, μ 120 535)) (n + 1) = (n : Int) := fun z => ba_pos ⟨z, Or.inl hb⟩
      have hneg : (hel μ (μ 118 22) (fun j => μ 120 (518 + j)) ((fun j => μ 120 (526 + j)), μ 120 534, μ 120 535)) n = -1 → ba (hel μ (μ 118 22) (fun j => μ 120 (518 + j)) ((fun j => μ 120 (526 + j)), μ 120 534, μ 120 535)) (n + 1) = -1 := fun z => by rw [ba_neg (fun y => y.1 z)]; exact hb
      rw [hb]
      refine rn_iload_n (k' := 12) rfl rfl rfl ?_
      refine rn_aload_n (k' := 13) rfl rfl rfl ?_
      refine rn_getR (k' := 14) rfl rfl K0_118 (by decide) rfl R0_118_6 ?_
      refine rn_bipush (k' := 15) rfl rfl ?_
      refine rn_iaload (k' := 16) rfl rfl K0_120 (by omega) (by omega) ?_
      show Rn PT none kX12_round 16 [some (mR 118), some (mI (-1)), some (mI ((n : Int))), v3, v4, v5, v6] [mI (μ 120 8), mI ((n : Int))] (mkh (m_upd (m_upd μ 125 F) 126 q) c s) _
      rw [q8]
      refine rn_icmp_ge (k' := 17) rfl rfl (fun hc1 => ?_) (fun hc1 => ?_)
      · exfalso; omega
      · skip
        refine rn_aload_n (k' := 18) rfl rfl rfl ?_
        refine rn_getR (k' := 19) rfl rfl K0_118 (by decide) rfl R0_118_6 ?_
        refine rn_sipush (k' := 20) rfl rfl ?_
        refine rn_iload_n (k' := 21) rfl rfl rfl ?_
        refine rn_iadd (k' := 22) rfl rfl (by omega) ?_
        refine rn_iaload (k' := 23) rfl rfl K0_120 (by omega) (by omega) ?_
        show Rn PT none kX12_round 23 [some (mR 118), some (mI (-1)), some (mI ((n : Int))), v3, v4, v5, v6] [mI (μ 120 (526 + n))] (mkh (m_upd (m_upd μ 125 F) 126 q) c s) _
        refine rn_if_le (k' := 24) rfl rfl (fun hc2 => ?_) (fun hc2 => ?_)
        · skip
          refine rn_iinc (k' := 59) (L' := [some (mR 118), some (mI (-1)), some (mI ((n : Int) + 1)), v3, v4, v5, v6]) rfl rfl rfl (by omega) rfl ?_
          refine rn_goto rfl ?_
          exact ih (n + 1) _ _ (by omega) (by omega) (by first | exact (hpos (by omega)).symm | exact (hneg (by omega)).symm)
        · skip
          refine rn_aload_n (k' := 25) rfl rfl rfl ?_
          refine rn_getR (k' := 26) rfl rfl K0_118 (by decide) rfl R0_118_24 ?_
          refine rn_aload_n (k' := 27) rfl rfl rfl ?_
          refine rn_getR (k' := 28) rfl rfl K0_118 (by decide) rfl R0_118_6 ?_
          refine rn_sipush (k' := 29) rfl rfl ?_
          refine rn_iload_n (k' := 30) rfl rfl rfl ?_
          refine rn_iadd (k' := 31) rfl rfl (by omega) ?_
          refine rn_iaload (k' := 32) rfl rfl K0_120 (by omega) (by omega) ?_
          show Rn PT none kX12_round 32 [some (mR 118), some (mI (-1)), some (mI ((n : Int))), v3, v4, v5, v6] [mI (μ 120 (518 + n)), mR 125] (mkh (m_upd (m_upd μ 125 F) 126 q) c s) _
          refine rn_iaload (k' := 33) rfl rfl K0_125 (by omega) (by omega) ?_
          show Rn PT none kX12_round 33 [some (mR 118), some (mI (-1)), some (mI ((n : Int))), v3, v4, v5, v6] [mI (F ((μ 120 (518 + n)).toNat))] (mkh (m_upd (m_upd μ 125 F) 126 q) c s) _
          refine rn_ldc_w (k' := 34) rfl rfl ?_
          refine rn_icmp_ge (k' := 35) rfl rfl (fun hc3 => ?_) (fun hc3 => ?_)
          · skip
            refine rn_iinc (k' := 59) (L' := [some (mR 118), some (mI (-1)), some (mI ((n : Int) + 1)), v3, v4, v5, v6]) rfl rfl rfl (by omega) rfl ?_
            refine rn_goto rfl ?_
            exact ih (n + 1) _ _ (by omega) (by omega) (by first | exact (hpos (by omega)).symm | exact (hneg (by omega)).symm)
          · skip
            refine rn_iload_n (k' := 36) rfl rfl rfl ?_
            refine rn_if_lt (k' := 37) rfl rfl (fun hc4 => ?_) (fun hc4 => ?_)
            · skip
              refine rn_iload_n (k' := 57) rfl rfl rfl ?_
              refine rn_istore_n (k' := 58) (L' := [some (mR 118), some (mI ((n : Int))), some (mI ((n : Int))), v3, v4, v5, v6]) rfl rfl (Nat.le_of_ble_eq_true rfl) rfl ?_
              refine rn_iinc (k' := 59) (L' := [some (mR 118), some (mI ((n : Int))), some (mI ((n : Int) + 1)), v3, v4, v5, v6]) rfl rfl rfl (by omega) rfl ?_
              refine rn_goto rfl ?_
              exact ih (n + 1) _ _ (by omega) (by omega) (by first | exact (hpos (by omega)).symm | exact (hneg (by omega)).symm)
            · exfalso; omega
    · obtain ⟨m, hm⟩ := Int.eq_ofNat_of_zero_le hb
      have hmn : m < n := by omega
      have hmc := g_cell_b hL (k4 m (by omega))
      have hfm := hF (μ 120 (518 + m)).toNat (by omega)
      have hfmb := wF_b (W := μ 118 22) hL k1 (μ 120 (518 + m)).toNat
      have hme := ba_el (f := hel μ (μ 118 22) (fun j => μ 120 (518 + j)) ((fun j => μ 120 (526 + j)), μ 120 534, μ 120 535)) n (by omega)
      rw [hm, show ((m : Nat) : Int).toNat = m from rfl] at hme
      have hdm : (hel μ (μ 118 22) (fun j => μ 120 (518 + j)) ((fun j => μ 120 (526 + j)), μ 120 534, μ 120 535)) m = wF μ (μ 118 22) (μ 120 534) (μ 120 (518 + m)).toNat := by
        unfold hel at hme ⊢
        by_cases z : 0 < μ 120 (526 + m)
        · exact if_pos z
        · exact absurd (if_neg z) hme
      have hfom := fv_or (wF μ (μ 118 22) (μ 120 534) (μ 120 (518 + m)).toNat)
      have hpos : ¬ (hel μ (μ 118 22) (fun j => μ 120 (518 + j)) ((fun j => μ 120 (526 + j)), μ 120 534, μ 120 535)) n = -1 → (hel μ (μ 118 22) (fun j => μ 120 (518 + j)) ((fun j => μ 120 (526 + j)), μ 120 534, μ 120 535)) n < (hel μ (μ 118 22) (fun j => μ 120 (518 + j)) ((fun j => μ 120 (526 + j)), μ 120 534, μ 120 535)) m → ba (hel μ (μ 118 22) (fun j => μ 120 (518 + j)) ((fun j => μ 120 (526 + j)), μ 120 534, μ 120 535)) (n + 1) = (n : Int) := fun z y => ba_pos ⟨z, Or.inr (by rw [hm]; exact y)⟩
      have hneg : ((hel μ (μ 118 22) (fun j => μ 120 (518 + j)) ((fun j => μ 120 (526 + j)), μ 120 534, μ 120 535)) n = -1 ∨ (hel μ (μ 118 22) (fun j => μ 120 (518 + j)) ((fun j => μ 120 (526 + j)), μ 120 534, μ 120 535)) m ≤ (hel μ (μ 118 22) (fun j => μ 120 (518 + j)) ((fun j => μ 120 (526 + j)), μ 120 534, μ 120 535)) n) → ba (hel μ (μ 118 22) (fun j => μ 120 (518 + j)) ((fun j => μ 120 (526 + j)), μ 120 534, μ 120 535)) (n + 1) = (m : Int) := fun z => by
        rw [ba_neg, hm]
        intro y
        rw [hm, show ((m : Nat) : Int).toNat = m from rfl] at y
        omega
      rw [hm]
      refine rn_iload_n (k' := 12) rfl rfl rfl ?_
      refine rn_aload_n (k' := 13) rfl rfl rfl ?_
      refine rn_getR (k' := 14) rfl rfl K0_118 (by decide) rfl R0_118_6 ?_
      refine rn_bipush (k' := 15) rfl rfl ?_
      refine rn_iaload (k' := 16) rfl rfl K0_120 (by omega) (by omega) ?_
      show Rn PT none kX12_round 16 [some (mR 118), some (mI ((m : Int))), some (mI ((n : Int))), v3, v4, v5, v6] [mI (μ 120 8), mI ((n : Int))] (mkh (m_upd (m_upd μ 125 F) 126 q) c s) _
      rw [q8]
      refine rn_icmp_ge (k' := 17) rfl rfl (fun hc1 => ?_) (fun hc1 => ?_)
      · exfalso; omega
      · skip
        refine rn_aload_n (k' := 18) rfl rfl rfl ?_
        refine rn_getR (k' := 19) rfl rfl K0_118 (by decide) rfl R0_118_6 ?_
        refine rn_sipush (k' := 20) rfl rfl ?_
        refine rn_iload_n (k' := 21) rfl rfl rfl ?_
        refine rn_iadd (k' := 22) rfl rfl (by omega) ?_
        refine rn_iaload (k' := 23) rfl rfl K0_120 (by omega) (by omega) ?_
        show Rn PT none kX12_round 23 [some (mR 118), some (mI ((m : Int))), some (mI ((n : Int))), v3, v4, v5, v6] [mI (μ 120 (526 + n))] (mkh (m_upd (m_upd μ 125 F) 126 q) c s) _
        refine rn_if_le (k' := 24) rfl rfl (fun hc2 => ?_) (fun hc2 => ?_)
        · skip
          refine rn_iinc (k' := 59) (L' := [some (mR 118), some (mI ((m : Int))), some (mI ((n : Int) + 1)), v3, v4, v5, v6]) rfl rfl rfl (by omega) rfl ?_
          refine rn_goto rfl ?_
          exact ih (n + 1) _ _ (by omega) (by omega) (by first | exact (hpos (by omega) (by omega)).symm | exact (hneg (by omega)).symm)
        · skip
          refine rn_aload_n (k' := 25) rfl rfl rfl ?_
          refine rn_getR (k' := 26) rfl rfl K0_118 (by decide) rfl R0_118_24 ?_
          refine rn_aload_n (k' := 27) rfl rfl rfl ?_
          refine rn_getR (k' := 28) rfl rfl K0_118 (by decide) rfl R0_118_6 ?_
          refine rn_sipush (k' := 29) rfl rfl ?_
          refine rn_iload_n (k' := 30) rfl rfl rfl ?_
          refine rn_iadd (k' := 31) rfl rfl (by omega) ?_
          refine rn_iaload (k' := 32) rfl rfl K0_120 (by omega) (by omega) ?_
          show Rn PT none kX12_round 32 [some (mR 118), some (mI ((m : Int))), some (mI ((n : Int))), v3, v4, v5, v6] [mI (μ 120 (518 + n)), mR 125] (mkh (m_upd (m_upd μ 125 F) 126 q) c s) _
          refine rn_iaload (k' := 33) rfl rfl K0_125 (by omega) (by omega) ?_
          show Rn PT none kX12_round 33 [some (mR 118), some (mI ((m : Int))), some (mI ((n : Int))), v3, v4, v5, v6] [mI (F ((μ 120 (518 + n)).toNat))] (mkh (m_upd (m_upd μ 125 F) 126 q) c s) _
          refine rn_ldc_w (k' := 34) rfl rfl ?_
          refine rn_icmp_ge (k' := 35) rfl rfl (fun hc3 => ?_) (fun hc3 => ?_)
          · skip
            refine rn_iinc (k' := 59) (L' := [some (mR 118), some (mI ((m : Int))), some (mI ((n : Int) + 1)), v3, v4, v5, v6]) rfl rfl rfl (by omega) rfl ?_
            refine rn_goto rfl ?_
            exact ih (n + 1) _ _ (by omega) (by omega) (by first | exact (hpos (by omega) (by omega)).symm | exact (hneg (by omega)).symm)
          · skip
            refine rn_iload_n (k' := 36) rfl rfl rfl ?_
            refine rn_if_lt (k' := 37) rfl rfl (fun hc4 => ?_) (fun hc4 => ?_)
            · exfalso; omega
            · skip
              refine rn_aload_n (k' := 38) rfl rfl rfl ?_
              refine rn_getR (k' := 39) rfl rfl K0_118 (by decide) rfl R0_118_24 ?_
              refine rn_aload_n (k' := 40) rfl rfl rfl ?_
              refine rn_getR (k' := 41) rfl rfl K0_118 (by decide) rfl R0_118_6 ?_
              refine rn_sipush (k' := 42) rfl rfl ?_
              refine rn_iload_n (k' := 43) rfl rfl rfl ?_
              refine rn_iadd (k' := 44) rfl rfl (by omega) ?_
              refine rn_iaload (k' := 45) rfl rfl K0_120 (by omega) (by omega) ?_
              show Rn PT none kX12_round 45 [some (mR 118), some (mI ((m : Int))), some (mI ((n : Int))), v3, v4, v5, v6] [mI (μ 120 (518 + n)), mR 125] (mkh (m_upd (m_upd μ 125 F) 126 q) c s) _
              refine rn_iaload (k' := 46) rfl rfl K0_125 (by omega) (by omega) ?_
              show Rn PT none kX12_round 46 [some (mR 118), some (mI ((m : Int))), some (mI ((n : Int))), v3, v4, v5, v6] [mI (F ((μ 120 (518 + n)).toNat))] (mkh (m_upd (m_upd μ 125 F) 126 q) c s) _
              refine rn_aload_n (k' := 47) rfl rfl rfl ?_
              refine rn_getR (k' := 48) rfl rfl K0_118 (by decide) rfl R0_118_24 ?_
              refine rn_aload_n (k' := 49) rfl rfl rfl ?_
              refine rn_getR (k' := 50) rfl rfl K0_118 (by decide) rfl R0_118_6 ?_
              refine rn_sipush (k' := 51) rfl rfl ?_
              refine rn_iload_n (k' := 52) rfl rfl rfl ?_
              refine rn_iadd (k' := 53) rfl rfl (by omega) ?_
              refine rn_iaload (k' := 54) rfl rfl K0_120 (by omega) (by omega) ?_
              show Rn PT none kX12_round 54 [some (mR 118), some (mI ((m : Int))), some (mI ((n : Int))), v3, v4, v5, v6] [mI (μ 120 (518 + m)), mR 125, mI (F ((μ 120 (518 + n)).toNat))] (mkh (m_upd (m_upd μ 125 F) 126 q) c s) _
              refine rn_iaload (k' := 55) rfl rfl K0_125 (by omega) (by omega) ?_
              show Rn PT none kX12_round 55 [some (mR 118), some (mI ((m : Int))), some (mI ((n : Int))), v3, v4, v5, v6] [mI (F ((μ 120 (518 + m)).toNat)), mI (F ((μ 120 (518 + n)).toNat))] (mkh (m_upd (m_upd μ 125 F) 126 q) c s) _
              refine rn_icmp_ge (k' := 56) rfl rfl (fun hc5 => ?_) (fun hc5 => ?_)
              · skip
                refine rn_iinc (k' := 59) (L' := [some (mR 118), some (mI ((m : Int))), some (mI ((n : Int) + 1)), v3, v4, v5, v6]) rfl rfl rfl (by omega) rfl ?_
                refine rn_goto rfl ?_
                exact ih (n + 1) _ _ (by omega) (by omega) (by first | exact (hpos (by omega) (by omega)).symm | exact (hneg (by omega)).symm)
              · skip
                refine rn_iload_n (k' := 57) rfl rfl rfl ?_
                refine rn_istore_n (k' := 58) (L' := [some (mR 118), some (mI ((n : Int))), some (mI ((n : Int))), v3, v4, v5, v6]) rfl rfl (Nat.le_of_ble_eq_true rfl) rfl ?_
                refine rn_iinc (k' := 59) (L' := [some (mR 118), some (mI ((n : Int))), some (mI ((n : Int) + 1)), v3, v4, v5, v6]) rfl rfl rfl (by omega) rfl ?_
                refine rn_goto rfl ?_
                exact ih (n + 1) _ _ (by omega) (by omega) (by first | exact (hpos (by omega) (by omega)).symm | exact (hneg (by omega)).symm)
set_option maxHeartbeats 4000000 in
theorem l_dir {μ : Nat → Nat → Int} {c s : Nat} (hL : I_land μ) (hw : 0 ≤ μ 118 22 ∧ μ 118 22 ≤ 1000) (k1 : g_cell μ (μ 120 534)) {to be : Int} (ht : g_cell μ to) (hto : g_dep μ to (μ 118 22) ≤ μ 6 15) {F q : Nat → Int} {Q : MR → Prop} (hF : ∀ j, j < 100 → F j = fv (wF μ (μ 118 22) to j)) (K : ∀ v6, Rn PT none kX12_round 146 [some (mR 118), some (mI (be)), some (mI (to)), some (mI (nz (ba (gdir μ (wF μ (μ 118 22) to) (μ 120 534)) 4))), some (mI (lst (gdir μ (wF μ (μ 118 22) to) (μ 120 534)) (ba (gdir μ (wF μ (μ 118 22) to) (μ 120 534)) 4))), some (mI (4)), v6] [] (mkh (m_upd (m_upd μ 125 F) 126 q) c s) Q) : ∀ (d n : Nat) (k di le_ : Int) (v6 : Option MV), k = (n : Int) → n + d = 4 → di = nz (ba (gdir μ (wF μ (μ 118 22) to) (μ 120 534)) n) → le_ = lst (gdir μ (wF μ (μ 118 22) to) (μ 120 534)) (ba (gdir μ (wF μ (μ 118 22) to) (μ 120 534)) n) → Rn PT none kX12_round 110 [some (mR 118), some (mI (be)), some (mI (to)), some (mI (di)), some (mI (le_)), some (mI (k)), v6] [] (mkh (m_upd (m_upd μ 125 F) 126 q) c s) Q := by
  have hL_ := hL
  obtain ⟨lc, lr, le, lm, lw, lh, lwo, lwd, q0, q1, q2, q3, q4, q8, q499, q500, lth, lG, lT, lW, -⟩ := hL_
  have kwb := g_cell_b hL k1
  intro d
  induction d with
  | zero =>
    intro n k di le_ v6 ek hn ed el
    subst ek ed el
    have hn4 : n = 4 := by omega
    subst hn4
    refine rn_iload (k' := 111) rfl rfl rfl ?_
    refine rn_iconst (k' := 112) rfl rfl ?_
    refine rn_icmp_ge (k' := 113) rfl rfl (fun hc1 => ?_) (fun hc1 => ?_)
    · skip
      exact K v6
    · exfalso; omega
  | succ d ih =>
    intro n k di le_ v6 ek hn ed el
    subst ek ed el
    have hN := (g_GR hL).2 (μ 120 534) n k1 (by omega) (by omega)
    have hNb : g_nb μ (μ 120 534) (n : Int) = -1 ∨ (0 ≤ g_nb μ (μ 120 534) (n : Int) ∧ g_nb μ (μ 120 534) (n : Int) < 100) := hN.imp_right (fun z => g_cell_b hL z)
    have hG1 : g_nb μ (μ 120 534) (n : Int) = -1 ∨ F (g_nb μ (μ 120 534) (n : Int)).toNat = fv (wF μ (μ 118 22) to (g_nb μ (μ 120 534) (n : Int)).toNat) := by
      by_cases z : g_nb μ (μ 120 534) (n : Int) = -1
      · exact Or.inl z
      · exact Or.inr (hF _ (by omega))
    have hgo : g_nb μ (μ 120 534) (n : Int) = -1 ∨ wF μ (μ 118 22) to (g_nb μ (μ 120 534) (n : Int)).toNat = -1 ∨ g_dep μ (g_nb μ (μ 120 534) (n : Int)) (μ 118 22) ≤ μ 6 15 := by
      rcases hN with z | z
      · exact Or.inl z
      · by_cases y : wF μ (μ 118 22) to (g_nb μ (μ 120 534) (n : Int)).toNat = -1
        · exact Or.inr (Or.inl y)
        · right; right
          rcases bfs_open (O := fun z => g_dep μ z (μ 118 22) ≤ μ 6 15) (g_GR hL) ht z y with e | e
          · rw [e]; exact hto
          · exact e
    have hfo := fv_or (wF μ (μ 118 22) to (g_nb μ (μ 120 534) (n : Int)).toNat)
    have hd : (g_nb μ (μ 120 534) (n : Int) = -1 ∧ (gdir μ (wF μ (μ 118 22) to) (μ 120 534)) n = -1) ∨ (¬ g_nb μ (μ 120 534) (n : Int) = -1 ∧ (gdir μ (wF μ (μ 118 22) to) (μ 120 534)) n = wF μ (μ 118 22) to (g_nb μ (μ 120 534) (n : Int)).toNat) := by
      unfold gdir
      by_cases z : g_nb μ (μ 120 534) (n : Int) = -1
      · left; rw [if_pos z]; exact ⟨z, rfl⟩
      · right; rw [if_neg z]; exact ⟨z, rfl⟩
    have hg1 := wF_b (W := μ 118 22) hL ht (g_nb μ (μ 120 534) (n : Int)).toNat
    have hbb := ba_b (f := gdir μ (wF μ (μ 118 22) to) (μ 120 534)) n
    have hgm : -1 ≤ (gdir μ (wF μ (μ 118 22) to) (μ 120 534)) ((ba (gdir μ (wF μ (μ 118 22) to) (μ 120 534)) n)).toNat ∧ (gdir μ (wF μ (μ 118 22) to) (μ 120 534)) ((ba (gdir μ (wF μ (μ 118 22) to) (μ 120 534)) n)).toNat ≤ 100 := by
      unfold gdir
      split
      · omega
      · exact wF_b (W := μ 118 22) hL ht _
    have hl : ((ba (gdir μ (wF μ (μ 118 22) to) (μ 120 534)) n) = -1 ∧ lst (gdir μ (wF μ (μ 118 22) to) (μ 120 534)) ((ba (gdir μ (wF μ (μ 118 22) to) (μ 120 534)) n)) = 1000000000) ∨ (¬ (ba (gdir μ (wF μ (μ 118 22) to) (μ 120 534)) n) = -1 ∧ lst (gdir μ (wF μ (μ 118 22) to) (μ 120 534)) ((ba (gdir μ (wF μ (μ 118 22) to) (μ 120 534)) n)) = (gdir μ (wF μ (μ 118 22) to) (μ 120 534)) ((ba (gdir μ (wF μ (μ 118 22) to) (μ 120 534)) n)).toNat) := by
      by_cases z : (ba (gdir μ (wF μ (μ 118 22) to) (μ 120 534)) n) = -1
      · left; rw [z]; exact ⟨rfl, rfl⟩
      · right; exact ⟨z, lst_p z⟩
    refine rn_iload (k' := 111) rfl rfl rfl ?_
    refine rn_iconst (k' := 112) rfl rfl ?_
    refine rn_icmp_ge (k' := 113) rfl rfl (fun hc1 => ?_) (fun hc1 => ?_)
    · exfalso; omega
    · skip
      refine rn_aload_n (k' := 114) rfl rfl rfl ?_
      refine rn_aload_n (k' := 115) rfl rfl rfl ?_
      refine rn_getR (k' := 116) rfl rfl K0_118 (by decide) rfl R0_118_6 ?_
      refine rn_sipush (k' := 117) rfl rfl ?_
      refine rn_iaload (k' := 118) rfl rfl K0_120 (by omega) (by omega) ?_
      show Rn PT none kX12_round 118 [some (mR 118), some (mI (be)), some (mI (to)), some (mI (nz (ba (gdir μ (wF μ (μ 118 22) to) (μ 120 534)) n))), some (mI (lst (gdir μ (wF μ (μ 118 22) to) (μ 120 534)) (ba (gdir μ (wF μ (μ 118 22) to) (μ 120 534)) n))), some (mI ((n : Int))), v6] [mI (μ 120 534), mR 118] (mkh (m_upd (m_upd μ 125 F) 126 q) c s) _
      refine rn_iload (k' := 119) rfl rfl rfl ?_
      refine rn_callP (k' := 120) (y := 211) (vs := [mR 118, mI (μ 120 534), mI ((n : Int))]) (S' := []) (v := some (mI (g_nb μ (μ 120 534) (n : Int)))) (h' := mkh (m_upd (m_upd μ 125 F) 126 q) c s) rfl rfl rfl (c_X12_beside (μ := (m_upd (m_upd μ 125 F) 126 q)) (c := c) (s := s) (((hL).upd rfl).upd rfl) (a := μ 120 534) (d := (n : Int)) k1 (by omega)) ?_
      show Rn PT none kX12_round 120 [some (mR 118), some (mI (be)), some (mI (to)), some (mI (nz (ba (gdir μ (wF μ (μ 118 22) to) (μ 120 534)) n))), some (mI (lst (gdir μ (wF μ (μ 118 22) to) (μ 120 534)) (ba (gdir μ (wF μ (μ 118 22) to) (μ 120 534)) n))), some (mI ((n : Int))), v6] [mI (g_nb μ (μ 120 534) (n : Int))] (mkh (m_upd (m_upd μ 125 F) 126 q) c s) _
      refine rn_istore (k' := 121) (L' := [some (mR 118), some (mI (be)), some (mI (to)), some (mI (nz (ba (gdir μ (wF μ (μ 118 22) to) (μ 120 534)) n))), some (mI (lst (gdir μ (wF μ (μ 118 22) to) (μ 120 534)) (ba (gdir μ (wF μ (μ 118 22) to) (μ 120 534)) n))), some (mI ((n : Int))), some (mI (g_nb μ (μ 120 534) (n : Int)))]) rfl rfl (Nat.le_of_ble_eq_true rfl) rfl ?_
      refine rn_iload (k' := 122) rfl rfl rfl ?_
      refine rn_if_lt (k' := 123) rfl rfl (fun hc2 => ?_) (fun hc2 => ?_)
      · skip
        refine rn_iinc (k' := 145) (L' := [some (mR 118), some (mI (be)), some (mI (to)), some (mI (nz (ba (gdir μ (wF μ (μ 118 22) to) (μ 120 534)) n))), some (mI (lst (gdir μ (wF μ (μ 118 22) to) (μ 120 534)) (ba (gdir μ (wF μ (μ 118 22) to) (μ 120 534)) n))), some (mI ((n : Int) + 1)), some (mI (g_nb μ (μ 120 534) (n : Int)))]) rfl rfl rfl (by omega) rfl ?_
        refine rn_goto rfl ?_
        exact ih (n + 1) _ _ _ _ (by omega) (by omega) (by first | rw [ba_pos (by omega), nz_p (by omega)] | rw [ba_neg (by omega)]) (by first | (rw [ba_pos (by omega), lst_p (by omega)]; show _ = (gdir μ (wF μ (μ 118 22) to) (μ 120 534)) n; omega) | rw [ba_neg (by omega)])
      · skip
        refine rn_aload_n (k' := 124) rfl rfl rfl ?_
        refine rn_iload (k' := 125) rfl rfl rfl ?_
        refine rn_callP (k' := 126) (y := 202) (vs := [mR 118, mI (g_nb μ (μ 120 534) (n : Int))]) (S' := []) (v := some (mI (g_dep μ (g_nb μ (μ 120 534) (n : Int)) (μ 118 22)))) (h' := mkh (m_upd (m_upd μ 125 F) 126 q) c s) rfl rfl rfl (c_X12_depthOf (μ := (m_upd (m_upd μ 125 F) 126 q)) (c := c) (s := s) (((hL).upd rfl).upd rfl) hw (a := g_nb μ (μ 120 534) (n : Int)) (hN.resolve_left (by omega))) ?_
        show Rn PT none kX12_round 126 [some (mR 118), some (mI (be)), some (mI (to)), some (mI (nz (ba (gdir μ (wF μ (μ 118 22) to) (μ 120 534)) n))), some (mI (lst (gdir μ (wF μ (μ 118 22) to) (μ 120 534)) (ba (gdir μ (wF μ (μ 118 22) to) (μ 120 534)) n))), some (mI ((n : Int))), some (mI (g_nb μ (μ 120 534) (n : Int)))] [mI (g_dep μ (g_nb μ (μ 120 534) (n : Int)) (μ 118 22))] (mkh (m_upd (m_upd μ 125 F) 126 q) c s) _
        refine rn_aload_n (k' := 127) rfl rfl rfl ?_
        refine rn_getR (k' := 128) rfl rfl K0_118 (by decide) rfl R0_118_6 ?_
        refine rn_sipush (k' := 129) rfl rfl ?_
        refine rn_iaload (k' := 130) rfl rfl K0_120 (by omega) (by omega) ?_
        show Rn PT none kX12_round 130 [some (mR 118), some (mI (be)), some (mI (to)), some (mI (nz (ba (gdir μ (wF μ (μ 118 22) to) (μ 120 534)) n))), some (mI (lst (gdir μ (wF μ (μ 118 22) to) (μ 120 534)) (ba (gdir μ (wF μ (μ 118 22) to) (μ 120 534)) n))), some (mI ((n : Int))), some (mI (g_nb μ (μ 120 534) (n : Int)))] [mI (μ 120 500), mI (g_dep μ (g_nb μ (μ 120 534) (n : Int)) (μ 118 22))] (mkh (m_upd (m_upd μ 125 F) 126 q) c s) _
        rw [q500]
        refine rn_icmp_gt (k' := 131) rfl rfl (fun hc3 => ?_) (fun hc3 => ?_)
        · skip
          refine rn_iinc (k' := 145) (L' := [some (mR 118), some (mI (be)), some (mI (to)), some (mI (nz (ba (gdir μ (wF μ (μ 118 22) to) (μ 120 534)) n))), some (mI (lst (gdir μ (wF μ (μ 118 22) to) (μ 120 534)) (ba (gdir μ (wF μ (μ 118 22) to) (μ 120 534)) n))), some (mI ((n : Int) + 1)), some (mI (g_nb μ (μ 120 534) (n : Int)))]) rfl rfl rfl (by omega) rfl ?_
          refine rn_goto rfl ?_
          exact ih (n + 1) _ _ _ _ (by omega) (by omega) (by first | rw [ba_pos (by omega), nz_p (by omega)] | rw [ba_neg (by omega)]) (by first | (rw [ba_pos (by omega), lst_p (by omega)]; show _ = (gdir μ (wF μ (μ 118 22) to) (μ 120 534)) n; omega) | rw [ba_neg (by omega)])
        · skip
          refine rn_aload_n (k' := 132) rfl rfl rfl ?_
          refine rn_getR (k' := 133) rfl rfl K0_118 (by decide) rfl R0_118_24 ?_
          refine rn_iload (k' := 134) rfl rfl rfl ?_
          refine rn_iaload (k' := 135) rfl rfl K0_125 (by omega) (by omega) ?_
          show Rn PT none kX12_round 135 [some (mR 118), some (mI (be)), some (mI (to)), some (mI (nz (ba (gdir μ (wF μ (μ 118 22) to) (μ 120 534)) n))), some (mI (lst (gdir μ (wF μ (μ 118 22) to) (μ 120 534)) (ba (gdir μ (wF μ (μ 118 22) to) (μ 120 534)) n))), some (mI ((n : Int))), some (mI (g_nb μ (μ 120 534) (n : Int)))] [mI (F ((g_nb μ (μ 120 534) (n : Int)).toNat))] (mkh (m_upd (m_upd μ 125 F) 126 q) c s) _
          refine rn_iload (k' := 136) rfl rfl rfl ?_
          refine rn_icmp_ge (k' := 137) rfl rfl (fun hc4 => ?_) (fun hc4 => ?_)
          · skip
            refine rn_iinc (k' := 145) (L' := [some (mR 118), some (mI (be)), some (mI (to)), some (mI (nz (ba (gdir μ (wF μ (μ 118 22) to) (μ 120 534)) n))), some (mI (lst (gdir μ (wF μ (μ 118 22) to) (μ 120 534)) (ba (gdir μ (wF μ (μ 118 22) to) (μ 120 534)) n))), some (mI ((n : Int) + 1)), some (mI (g_nb μ (μ 120 534) (n : Int)))]) rfl rfl rfl (by omega) rfl ?_
            refine rn_goto rfl ?_
            exact ih (n + 1) _ _ _ _ (by omega) (by omega) (by first | rw [ba_pos (by omega), nz_p (by omega)] | rw [ba_neg (by omega)]) (by first | (rw [ba_pos (by omega), lst_p (by omega)]; show _ = (gdir μ (wF μ (μ 118 22) to) (μ 120 534)) n; omega) | rw [ba_neg (by omega)])
          · skip
            refine rn_aload_n (k' := 138) rfl rfl rfl ?_
            refine rn_getR (k' := 139) rfl rfl K0_118 (by decide) rfl R0_118_24 ?_
            refine rn_iload (k' := 140) rfl rfl rfl ?_
            refine rn_iaload (k' := 141) rfl rfl K0_125 (by omega) (by omega) ?_
            show Rn PT none kX12_round 141 [some (mR 118), some (mI (be)), some (mI (to)), some (mI (nz (ba (gdir μ (wF μ (μ 118 22) to) (μ 120 534)) n))), some (mI (lst (gdir μ (wF μ (μ 118 22) to) (μ 120 534)) (ba (gdir μ (wF μ (μ 118 22) to) (μ 120 534)) n))), some (mI ((n : Int))), some (mI (g_nb μ (μ 120 534) (n : Int)))] [mI (F ((g_nb μ (μ 120 534) (n : Int)).toNat))] (mkh (m_upd (m_upd μ 125 F) 126 q) c s) _
            refine rn_istore (k' := 142) (L' := [some (mR 118), some (mI (be)), some (mI (to)), some (mI (nz (ba (gdir μ (wF μ (μ 118 22) to) (μ 120 534)) n))), some (mI (F ((g_nb μ (μ 120 534) (n : Int)).toNat))), some (mI ((n : Int))), some (mI (g_nb μ (μ 120 534) (n : Int)))]) rfl rfl (Nat.le_of_ble_eq_true rfl) rfl ?_
            refine rn_iload (k' := 143) rfl rfl rfl ?_
            refine rn_istore_n (k' := 144) (L' := [some (mR 118), some (mI (be)), some (mI (to)), some (mI ((n : Int))), some (mI (F ((g_nb μ (μ 120 534) (n : Int)).toNat))), some (mI ((n : Int))), some (mI (g_nb μ (μ 120 534) (n : Int)))]) rfl rfl (Nat.le_of_ble_eq_true rfl) rfl ?_
            refine rn_iinc (k' := 145) (L' := [some (mR 118), some (mI (be)), some (mI (to)), some (mI ((n : Int))), some (mI (F ((g_nb μ (μ 120 534) (n : Int)).toNat))), some (mI ((n : Int) + 1)), some (mI (g_nb μ (μ 120 534) (n : Int)))]) rfl rfl rfl (by omega) rfl ?_
            refine rn_goto rfl ?_
            exact ih (n + 1) _ _ _ _ (by omega) (by omega) (by first | rw [ba_pos (by omega), nz_p (by omega)] | rw [ba_neg (by omega)]) (by first | (rw [ba_pos (by omega), lst_p (by omega)]; show _ = (gdir μ (wF μ (μ 118 22) to) (μ 120 534)) n; omega) | rw [ba_neg (by omega)])
