variable {N : Int}
/-! ===== printed by wip/whole/gen9c.py: the model's row of a moor cleared ===== -/
set_option maxHeartbeats 4000000 in
theorem l_zero {μ : Nat → Nat → Int} {c s : Nat} {Q : MR → Prop} (K : Rn PT none kX12_moor 30 [some (mR 118), some (mI 517)] [] (mkh (m_upd μ 121 (fl (fun _ => 0) (μ 121) 517)) c s) Q) : ∀ (d n : Nat) (i : Int), i = (n : Int) → n + d = 517 → Rn PT none kX12_moor 20 [some (mR 118), some (mI (i))] [] (mkh (m_upd μ 121 (fl (fun _ => 0) (μ 121) n)) c s) (Q) := by
  intro d
  induction d with
  | zero =>
    intro n i ei hn 
    subst ei
    refine rn_iload_n (k' := 21) rfl rfl rfl ?_
    refine rn_sipush (k' := 22) rfl rfl ?_
    refine rn_icmp_ge (k' := 23) rfl rfl (fun hc1 => ?_) (fun hc1 => ?_)
    · skip
      have e9 : n = 517 := by omega
      rw [e9]
      exact K
    · exfalso; omega
  | succ d ih =>
    intro n i ei hn 
    subst ei
    refine rn_iload_n (k' := 21) rfl rfl rfl ?_
    refine rn_sipush (k' := 22) rfl rfl ?_
    refine rn_icmp_ge (k' := 23) rfl rfl (fun hc1 => ?_) (fun hc1 => ?_)
    · exfalso; omega
    · skip
      refine rn_aload_n (k' := 24) rfl rfl rfl ?_
      refine rn_getR (k' := 25) rfl rfl K0_118 (by decide) rfl R0_118_7 ?_
      refine rn_iload_n (k' := 26) rfl rfl rfl ?_
      refine rn_iconst (k' := 27) rfl rfl ?_
      refine rn_iastore (k' := 28) rfl rfl K0_121 (by omega) (by omega) ?_
      refine rn_iinc (k' := 29) (L' := [some (mR 118), some (mI ((n : Int) + 1))]) rfl rfl rfl (by omega) rfl ?_
      refine rn_goto rfl ?_
      show Rn PT none kX12_moor 20 _ _ (mkh (m_set (m_upd μ 121 (fl (fun _ => 0) (μ 121) n)) 121 n 0) c s) _
      rw [fl_st rfl]
      exact ih (n + 1) _ (by omega) (by omega)
