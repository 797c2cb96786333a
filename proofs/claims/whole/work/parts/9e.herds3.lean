variable {N : Int}
/-! ===== printed by wip/whole/gen9e.py: the model takes the herds of a moor ===== -/
set_option maxHeartbeats 4000000 in
theorem l_take8 {μ : Nat → Nat → Int} {c s : Nat} {Q : MR → Prop} (K : ∀ G W : Nat → Int, (∀ j, j < 518 → G j = μ 120 j) → (∀ j, j < 8 → G (518 + j) = μ 120 (501 + j)) → (∀ j, j < 8 → G (526 + j) = μ 120 (509 + j)) → (∀ j, 534 ≤ j → G j = μ 120 j) → (∀ j, 8 ≤ j → W j = μ 123 j) → (∀ j, j < 8 → W j = μ 123 (8 + j)) → Rn PT none kX12_moor 125 [some (mR 118), some (mI 8)] [] (mkh (m_upd (m_upd μ 120 G) 123 W) c s) Q) : ∀ (d n : Nat) (i : Int) (G : Nat → Int) (W : Nat → Int), i = (n : Int) → n + d = 8 → (∀ j, j < 518 → G j = μ 120 j) → (∀ j, j < n → G (518 + j) = μ 120 (501 + j)) → (∀ j, j < n → G (526 + j) = μ 120 (509 + j)) → (∀ j, 534 ≤ j → G j = μ 120 j) → (∀ j, 8 ≤ j → W j = μ 123 j) → (∀ j, j < n → W j = μ 123 (8 + j)) → Rn PT none kX12_moor 86 [some (mR 118), some (mI (i))] [] (mkh (m_upd (m_upd μ 120 G) 123 W) c s) (Q) := by
  intro d
  induction d with
  | zero =>
    intro n i G W ei hn g1 g2 g3 g4 w1 w2
    subst ei
    refine rn_iload_n (k' := 87) rfl rfl rfl ?_
    refine rn_bipush (k' := 88) rfl rfl ?_
    refine rn_icmp_ge (k' := 89) rfl rfl (fun hc1 => ?_) (fun hc1 => ?_)
    · skip
      have e9 : n = 8 := by omega
      rw [e9] at g2 g3 w2 ⊢
      exact K G W g1 g2 g3 g4 w1 w2
    · exfalso; omega
  | succ d ih =>
    intro n i G W ei hn g1 g2 g3 g4 w1 w2
    subst ei
    have i1 : ((518 : Int) + (n : Int)).toNat = 518 + n := by omega
    have i2 : ((526 : Int) + (n : Int)).toNat = 526 + n := by omega
    have i3 : ((501 : Int) + (n : Int)).toNat = 501 + n := by omega
    have i4 : ((509 : Int) + (n : Int)).toNat = 509 + n := by omega
    have i5 : ((8 : Int) + (n : Int)).toNat = 8 + n := by omega
    have e3 : G (501 + n) = μ 120 (501 + n) := g1 _ (by omega)
    have e4 : fs G (518 + n) (μ 120 (501 + n)) (509 + n) = μ 120 (509 + n) := (fs_ne_ (by omega)).trans (g1 _ (by omega))
    have e5 : W (8 + n) = μ 123 (8 + n) := w1 _ (by omega)
    refine rn_iload_n (k' := 87) rfl rfl rfl ?_
    refine rn_bipush (k' := 88) rfl rfl ?_
    refine rn_icmp_ge (k' := 89) rfl rfl (fun hc1 => ?_) (fun hc1 => ?_)
    · exfalso; omega
    · skip
      refine rn_aload_n (k' := 90) rfl rfl rfl ?_
      refine rn_getR (k' := 91) rfl rfl K0_118 (by decide) rfl R0_118_6 ?_
      refine rn_sipush (k' := 92) rfl rfl ?_
      refine rn_iload_n (k' := 93) rfl rfl rfl ?_
      refine rn_iadd (k' := 94) rfl rfl (by omega) ?_
      refine rn_aload_n (k' := 95) rfl rfl rfl ?_
      refine rn_getR (k' := 96) rfl rfl K0_118 (by decide) rfl R0_118_6 ?_
      refine rn_sipush (k' := 97) rfl rfl ?_
      refine rn_iload_n (k' := 98) rfl rfl rfl ?_
      refine rn_iadd (k' := 99) rfl rfl (by omega) ?_
      refine rn_iaload (k' := 100) rfl rfl K0_120 (by omega) (by omega) ?_
      show Rn PT none kX12_moor 100 [some (mR 118), some (mI ((n : Int)))] [mI (G (501 + n)), mI (518 + (n : Int)), mR 120] (mkh (m_upd (m_upd μ 120 G) 123 W) c s) _
      rw [e3]
      refine rn_iastore (k' := 101) rfl rfl K0_120 (by omega) (by omega) ?_
      refine rn_aload_n (k' := 102) rfl rfl rfl ?_
      refine rn_getR (k' := 103) rfl rfl K0_118 (by decide) rfl R0_118_6 ?_
      refine rn_sipush (k' := 104) rfl rfl ?_
      refine rn_iload_n (k' := 105) rfl rfl rfl ?_
      refine rn_iadd (k' := 106) rfl rfl (by omega) ?_
      refine rn_aload_n (k' := 107) rfl rfl rfl ?_
      refine rn_getR (k' := 108) rfl rfl K0_118 (by decide) rfl R0_118_6 ?_
      refine rn_sipush (k' := 109) rfl rfl ?_
      refine rn_iload_n (k' := 110) rfl rfl rfl ?_
      refine rn_iadd (k' := 111) rfl rfl (by omega) ?_
      refine rn_iaload (k' := 112) rfl rfl K0_120 (by omega) (by omega) ?_
      show Rn PT none kX12_moor 112 [some (mR 118), some (mI ((n : Int)))] [mI ((m_set (m_upd (m_upd μ 120 G) 123 W) 120 (518 + n) (μ 120 (501 + n))) 120 (509 + n)), mI (526 + (n : Int)), mR 120] (mkh (m_set (m_upd (m_upd μ 120 G) 123 W) 120 (518 + n) (μ 120 (501 + n))) c s) _
      rw [(show (m_set (m_upd (m_upd μ 120 G) 123 W) 120 (518 + n) (μ 120 (501 + n))) 120 (509 + n) = μ 120 (509 + n) from (set_mis (by omega)).trans (g1 _ (by omega)))]
      refine rn_iastore (k' := 113) rfl rfl K0_120 (by omega) (by omega) ?_
      refine rn_aload_n (k' := 114) rfl rfl rfl ?_
      refine rn_getR (k' := 115) rfl rfl K0_118 (by decide) rfl R0_118_9 ?_
      refine rn_iload_n (k' := 116) rfl rfl rfl ?_
      refine rn_aload_n (k' := 117) rfl rfl rfl ?_
      refine rn_getR (k' := 118) rfl rfl K0_118 (by decide) rfl R0_118_9 ?_
      refine rn_bipush (k' := 119) rfl rfl ?_
      refine rn_iload_n (k' := 120) rfl rfl rfl ?_
      refine rn_iadd (k' := 121) rfl rfl (by omega) ?_
      refine rn_laload (k' := 122) rfl rfl K0_123 (by omega) (by omega) ?_
      show Rn PT none kX12_moor 122 [some (mR 118), some (mI ((n : Int)))] [mJ (W (8 + n)), mI ((n : Int)), mR 123] (mkh (m_set (m_set (m_upd (m_upd μ 120 G) 123 W) 120 (518 + n) (μ 120 (501 + n))) 120 (526 + n) (μ 120 (509 + n))) c s) _
      rw [e5]
      refine rn_lastore (k' := 123) rfl rfl K0_123 (by omega) (by omega) ?_
      refine rn_iinc (k' := 124) (L' := [some (mR 118), some (mI ((n : Int) + 1))]) rfl rfl rfl (by omega) rfl ?_
      refine rn_goto rfl ?_
      show Rn PT none kX12_moor 86 [some (mR 118), some (mI ((n : Int) + 1))] [] (mkh (m_set (m_set (m_set (m_upd (m_upd μ 120 G) 123 W) 120 (518 + n) (μ 120 (501 + n))) 120 (526 + n) (μ 120 (509 + n))) 123 n (μ 123 (8 + n))) c s) _
      rw [show (m_set (m_set (m_set (m_upd (m_upd μ 120 G) 123 W) 120 (518 + n) (μ 120 (501 + n))) 120 (526 + n) (μ 120 (509 + n))) 123 n (μ 123 (8 + n))) = m_upd (m_upd μ 120 (fs (fs G (518 + n) (μ 120 (501 + n))) (526 + n) (μ 120 (509 + n)))) 123 (fs W n (μ 123 (8 + n))) by first | (rw [set_upd_ne (by decide), set_upd_eq, set_upd_ne (by decide), set_upd_eq, set_upd_eq]) | (rw [i1, i2, set_upd_ne (by decide), set_upd_eq, set_upd_ne (by decide), set_upd_eq, set_upd_eq])]
      refine ih (n + 1) _ _ _ (by omega) (by omega) (fun j hj => ?_) (fun j hj => ?_) (fun j hj => ?_) (fun j hj => ?_) (fun j hj => ?_) (fun j hj => ?_)
      · rw [fs_ne_ (by omega), fs_ne_ (by omega)]; exact g1 j hj
      · rw [fs_ne_ (by omega)]
        by_cases c1 : j = n
        · rw [c1]; exact if_pos rfl
        · rw [fs_ne_ (by omega)]; exact g2 j (by omega)
      · by_cases c1 : j = n
        · rw [c1]; exact if_pos rfl
        · rw [fs_ne_ (by omega), fs_ne_ (by omega)]; exact g3 j (by omega)
      · rw [fs_ne_ (by omega), fs_ne_ (by omega)]; exact g4 j hj
      · rw [fs_ne_ (by omega)]; exact w1 j hj
      · by_cases c1 : j = n
        · rw [c1]; exact if_pos rfl
        · rw [fs_ne_ (by omega)]; exact w2 j (by omega)
