variable {N : Int}
/-! ===== printed by wip/whole/gen9d.py: the model takes a moor that was read ===== -/
abbrev gcp (μ : Nat → Nat → Int) (j : Nat) : Int := if j < 517 then μ 121 j else 0
set_option maxHeartbeats 4000000 in
theorem l_copy {μ : Nat → Nat → Int} {c s : Nat} {Q : MR → Prop} (K : Rn PT none kX12_moor 84 [some (mR 118), some (mI 657)] [] (mkh (m_upd μ 120 (fl (gcp μ) (μ 120) 657)) c s) Q) : ∀ (d n : Nat) (i : Int), i = (n : Int) → n + d = 657 → Rn PT none kX12_moor 66 [some (mR 118), some (mI (i))] [] (mkh (m_upd μ 120 (fl (gcp μ) (μ 120) n)) c s) (Q) := by
  intro d
  induction d with
  | zero =>
    intro n i ei hn 
    subst ei
    refine rn_iload_n (k' := 67) rfl rfl rfl ?_
    refine rn_sipush (k' := 68) rfl rfl ?_
    refine rn_icmp_ge (k' := 69) rfl rfl (fun hc1 => ?_) (fun hc1 => ?_)
    · skip
      have e9 : n = 657 := by omega
      rw [e9]
      exact K
    · exfalso; omega
  | succ d ih =>
    intro n i ei hn 
    subst ei
    refine rn_iload_n (k' := 67) rfl rfl rfl ?_
    refine rn_sipush (k' := 68) rfl rfl ?_
    refine rn_icmp_ge (k' := 69) rfl rfl (fun hc1 => ?_) (fun hc1 => ?_)
    · exfalso; omega
    · skip
      refine rn_aload_n (k' := 70) rfl rfl rfl ?_
      refine rn_getR (k' := 71) rfl rfl K0_118 (by decide) rfl R0_118_6 ?_
      refine rn_iload_n (k' := 72) rfl rfl rfl ?_
      refine rn_iload_n (k' := 73) rfl rfl rfl ?_
      refine rn_sipush (k' := 74) rfl rfl ?_
      refine rn_icmp_ge (k' := 75) rfl rfl (fun hc2 => ?_) (fun hc2 => ?_)
      · skip
        refine rn_iconst (k' := 81) rfl rfl ?_
        refine rn_iastore (k' := 82) rfl rfl K0_120 (by omega) (by omega) ?_
        refine rn_iinc (k' := 83) (L' := [some (mR 118), some (mI ((n : Int) + 1))]) rfl rfl rfl (by omega) rfl ?_
        refine rn_goto rfl ?_
        show Rn PT none kX12_moor 66 _ _ (mkh (m_set (m_upd μ 120 (fl (gcp μ) (μ 120) n)) 120 n (0)) c s) _
        rw [fl_st (show 0 = gcp μ n from (if_neg (by omega)).symm)]
        exact ih (n + 1) _ (by omega) (by omega)
      · skip
        refine rn_aload_n (k' := 76) rfl rfl rfl ?_
        refine rn_getR (k' := 77) rfl rfl K0_118 (by decide) rfl R0_118_7 ?_
        refine rn_iload_n (k' := 78) rfl rfl rfl ?_
        refine rn_iaload (k' := 79) rfl rfl K0_121 (by omega) (by omega) ?_
        show Rn PT none kX12_moor 79 [some (mR 118), some (mI ((n : Int)))] [mI (μ 121 (n)), mI ((n : Int)), mR 120] (mkh (m_upd μ 120 (fl (gcp μ) (μ 120) n)) c s) _
        refine rn_goto rfl ?_
        refine rn_iastore (k' := 82) rfl rfl K0_120 (by omega) (by omega) ?_
        refine rn_iinc (k' := 83) (L' := [some (mR 118), some (mI ((n : Int) + 1))]) rfl rfl rfl (by omega) rfl ?_
        refine rn_goto rfl ?_
        show Rn PT none kX12_moor 66 _ _ (mkh (m_set (m_upd μ 120 (fl (gcp μ) (μ 120) n)) 120 n (μ 121 n)) c s) _
        rw [fl_st (show μ 121 n = gcp μ n from (if_pos (by omega)).symm)]
        exact ih (n + 1) _ (by omega) (by omega)
