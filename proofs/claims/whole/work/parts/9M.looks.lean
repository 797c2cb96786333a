variable {N : Int}
/-! ===== printed by wip/whole/gen9M.py: words, names, cells ===== -/
set_option maxHeartbeats 4000000 in
theorem l_find {μ : Nat → Nat → Int} {c s : Nat} {o9 k9 : Nat} (ho : o9 ≤ 8) (hk : k9 ≤ 8) : ∀ (d n : Nat) (i : Int), i = (n : Int) → n + d = k9 → Rn PT none kX12_find 2 [some (mR 118), some (mI ((o9 : Int))), some (mI ((k9 : Int))), some (mI (i))] [] (mkh μ c s) (fun r => r = (some (some (mI (ix (fun j => μ 123 (o9 + j)) (μ 118 17) d n))), mkh μ c s)) := by
  intro d
  induction d with
  | zero =>
    intro n i ei hn 
    subst ei
    refine rn_iload_n (k' := 3) rfl rfl rfl ?_
    refine rn_iload_n (k' := 4) rfl rfl rfl ?_
    refine rn_icmp_ge (k' := 5) rfl rfl (fun hc1 => ?_) (fun hc1 => ?_)
    · skip
      refine rn_iconst (k' := 20) rfl rfl ?_
      refine rn_iret rfl (Or.inl rfl) ?_
      rfl
    · exfalso; omega
  | succ d ih =>
    intro n i ei hn 
    subst ei
    have hi9 : ((o9 : Int) + (n : Int)).toNat = o9 + n := by omega
    have hr9 : μ 123 ((o9 : Int) + (n : Int)).toNat = μ 123 (o9 + n) := by rw [hi9]
    refine rn_iload_n (k' := 3) rfl rfl rfl ?_
    refine rn_iload_n (k' := 4) rfl rfl rfl ?_
    refine rn_icmp_ge (k' := 5) rfl rfl (fun hc1 => ?_) (fun hc1 => ?_)
    · exfalso; omega
    · skip
      refine rn_aload_n (k' := 6) rfl rfl rfl ?_
      refine rn_getR (k' := 7) rfl rfl K0_118 (by decide) rfl R0_118_9 ?_
      refine rn_iload_n (k' := 8) rfl rfl rfl ?_
      refine rn_iload_n (k' := 9) rfl rfl rfl ?_
      refine rn_iadd (k' := 10) rfl rfl (by omega) ?_
      refine rn_laload (k' := 11) rfl rfl K0_123 (by omega) (by omega) ?_
      rw [hr9]
      refine rn_aload_n (k' := 12) rfl rfl rfl ?_
      refine rn_getJ (k' := 13) rfl rfl K0_118 (by decide) rfl ?_
      refine rn_lcmp (k' := 14) rfl rfl ?_
      refine rn_if_ne (k' := 15) rfl rfl (fun hc2 => ?_) (fun hc2 => ?_)
      · skip
        refine rn_iinc (k' := 18) (L' := [some (mR 118), some (mI ((o9 : Int))), some (mI ((k9 : Int))), some (mI ((n : Int) + 1))]) rfl rfl rfl (by omega) rfl ?_
        refine rn_goto rfl ?_
        rw [ix_f (fun z => by have := (cmp_0 (x := μ 123 (o9 + n)) (y := μ 118 17)).mpr z; omega)]
        exact ih (n + 1) _ (by omega) (by omega)
      · skip
        refine rn_iload_n (k' := 16) rfl rfl rfl ?_
        refine rn_iret rfl (Or.inl rfl) ?_
        rw [ix_t (f := fun j => μ 123 (o9 + j)) (cmp_0.mp (by omega))]
set_option maxHeartbeats 4000000 in
theorem l_isName0 {μ : Nat → Nat → Int} {c s : Nat} : ∀ (d n : Nat) (i : Int), i = (n : Int) → n + d = 16 → Rn PT none kX12_isName 10 [some (mR 118), some (mI (0)), some (mI (i))] [] (mkh μ c s) (fun r => r = (some (some (mI 0)), mkh μ c s)) := by
  intro d
  induction d with
  | zero =>
    intro n i ei hn 
    subst ei
    refine rn_iload_n (k' := 11) rfl rfl rfl ?_
    refine rn_bipush (k' := 12) rfl rfl ?_
    refine rn_icmp_ge (k' := 13) rfl rfl (fun hc1 => ?_) (fun hc1 => ?_)
    · skip
      refine rn_iload_n (k' := 30) rfl rfl rfl ?_
      refine rn_iret rfl (Or.inr (by omega)) ?_
      rfl
    · exfalso; omega
  | succ d ih =>
    intro n i ei hn 
    subst ei
    refine rn_iload_n (k' := 11) rfl rfl rfl ?_
    refine rn_bipush (k' := 12) rfl rfl ?_
    refine rn_icmp_ge (k' := 13) rfl rfl (fun hc1 => ?_) (fun hc1 => ?_)
    · exfalso; omega
    · skip
      refine rn_iload_n (k' := 14) rfl rfl rfl ?_
      refine rn_if_eq (k' := 15) rfl rfl (fun hc2 => ?_) (fun hc2 => ?_)
      · skip
        refine rn_iconst (k' := 26) rfl rfl ?_
        refine rn_istore_n (k' := 27) (L' := [some (mR 118), some (mI (0)), some (mI ((n : Int)))]) rfl rfl (Nat.le_of_ble_eq_true rfl) rfl ?_
        refine rn_iinc (k' := 28) (L' := [some (mR 118), some (mI (0)), some (mI ((n : Int) + 1))]) rfl rfl rfl (by omega) rfl ?_
        refine rn_goto rfl ?_
        exact ih (n + 1) _ (by omega) (by omega)
      · exfalso; omega
set_option maxHeartbeats 4000000 in
theorem l_isName1 {μ : Nat → Nat → Int} {c s : Nat} : ∀ (d n : Nat) (i : Int), i = (n : Int) → n + d = 16 → Rn PT none kX12_isName 10 [some (mR 118), some (mI (1)), some (mI (i))] [] (mkh μ c s) (fun r => r = (some (some (mI (if ix (μ 124) (μ 118 17) d n = -1 then 1 else 0))), mkh μ c s)) := by
  intro d
  induction d with
  | zero =>
    intro n i ei hn 
    subst ei
    refine rn_iload_n (k' := 11) rfl rfl rfl ?_
    refine rn_bipush (k' := 12) rfl rfl ?_
    refine rn_icmp_ge (k' := 13) rfl rfl (fun hc1 => ?_) (fun hc1 => ?_)
    · skip
      refine rn_iload_n (k' := 30) rfl rfl rfl ?_
      refine rn_iret rfl (Or.inr (by omega)) ?_
      rfl
    · exfalso; omega
  | succ d ih =>
    intro n i ei hn 
    subst ei
    refine rn_iload_n (k' := 11) rfl rfl rfl ?_
    refine rn_bipush (k' := 12) rfl rfl ?_
    refine rn_icmp_ge (k' := 13) rfl rfl (fun hc1 => ?_) (fun hc1 => ?_)
    · exfalso; omega
    · skip
      refine rn_iload_n (k' := 14) rfl rfl rfl ?_
      refine rn_if_eq (k' := 15) rfl rfl (fun hc2 => ?_) (fun hc2 => ?_)
      · exfalso; omega
      · skip
        refine rn_aload_n (k' := 16) rfl rfl rfl ?_
        refine rn_getJ (k' := 17) rfl rfl K0_118 (by decide) rfl ?_
        refine rn_aload_n (k' := 18) rfl rfl rfl ?_
        refine rn_getR (k' := 19) rfl rfl K0_118 (by decide) rfl R0_118_10 ?_
        refine rn_iload_n (k' := 20) rfl rfl rfl ?_
        refine rn_laload (k' := 21) rfl rfl K0_124 (by omega) (by omega) ?_
        show Rn PT none kX12_isName 21 [some (mR 118), some (mI (1)), some (mI ((n : Int)))] [mJ (μ 124 (n)), mJ (μ 118 17)] (mkh μ c s) _
        refine rn_lcmp (k' := 22) rfl rfl ?_
        refine rn_if_eq (k' := 23) rfl rfl (fun hc3 => ?_) (fun hc3 => ?_)
        · skip
          refine rn_iconst (k' := 26) rfl rfl ?_
          refine rn_istore_n (k' := 27) (L' := [some (mR 118), some (mI (0)), some (mI ((n : Int)))]) rfl rfl (Nat.le_of_ble_eq_true rfl) rfl ?_
          refine rn_iinc (k' := 28) (L' := [some (mR 118), some (mI (0)), some (mI ((n : Int) + 1))]) rfl rfl rfl (by omega) rfl ?_
          refine rn_goto rfl ?_
          have hx : μ 124 n = μ 118 17 := (cmp_0.mp (by omega)).symm
          rw [if_neg (by rw [ix_t hx]; omega)]
          exact l_isName0 (μ := μ) d (n + 1) _ (by omega) (by omega)
        · skip
          refine rn_iconst (k' := 24) rfl rfl ?_
          refine rn_goto rfl ?_
          refine rn_istore_n (k' := 27) (L' := [some (mR 118), some (mI (1)), some (mI ((n : Int)))]) rfl rfl (Nat.le_of_ble_eq_true rfl) rfl ?_
          refine rn_iinc (k' := 28) (L' := [some (mR 118), some (mI (1)), some (mI ((n : Int) + 1))]) rfl rfl rfl (by omega) rfl ?_
          refine rn_goto rfl ?_
          have hx : ¬ μ 124 n = μ 118 17 := fun z => by have := (cmp_0 (x := μ 118 17) (y := μ 124 n)).mpr z.symm; omega
          rw [ix_f hx]
          exact ih (n + 1) _ (by omega) (by omega)
theorem c_X12_isName {μ : Nat → Nat → Int} {c s : Nat} : Cl PT 180 [mR 118] (mkh μ c s) (fun r => r = (some (some (mI (if μ 118 11 = 1 ∧ ix (μ 124) (μ 118 17) 16 0 = -1 then 1 else 0))), mkh μ c s)) := by
  refine ⟨_, PT_180, Nat.le_of_ble_eq_true rfl, ?_⟩
  show Rn PT none kX12_isName 0 [some (mR 118), none, none] [] (mkh μ c s) _
  refine rn_aload_n (k' := 1) rfl rfl rfl ?_
  refine rn_getI (k' := 2) rfl rfl K0_118 (by decide) rfl ?_
  refine rn_iconst (k' := 3) rfl rfl ?_
  refine rn_icmp_ne (k' := 4) rfl rfl (fun hc1 => ?_) (fun hc1 => ?_)
  · skip
    refine rn_iconst (k' := 7) rfl rfl ?_
    refine rn_istore_n (k' := 8) (L' := [some (mR 118), some (mI (0)), none]) rfl rfl (Nat.le_of_ble_eq_true rfl) rfl ?_
    refine rn_iconst (k' := 9) rfl rfl ?_
    refine rn_istore_n (k' := 10) (L' := [some (mR 118), some (mI (0)), some (mI (0))]) rfl rfl (Nat.le_of_ble_eq_true rfl) rfl ?_
    rw [if_neg (fun z => by omega)]
    exact l_isName0 (μ := μ) 16 0 _ rfl rfl
  · skip
    refine rn_iconst (k' := 5) rfl rfl ?_
    refine rn_goto rfl ?_
    refine rn_istore_n (k' := 8) (L' := [some (mR 118), some (mI (1)), none]) rfl rfl (Nat.le_of_ble_eq_true rfl) rfl ?_
    refine rn_iconst (k' := 9) rfl rfl ?_
    refine rn_istore_n (k' := 10) (L' := [some (mR 118), some (mI (1)), some (mI (0))]) rfl rfl (Nat.le_of_ble_eq_true rfl) rfl ?_
    have e9 : (if μ 118 11 = 1 ∧ ix (μ 124) (μ 118 17) 16 0 = -1 then (1 : Int) else 0) = (if ix (μ 124) (μ 118 17) 16 0 = -1 then 1 else 0) := by
      by_cases z : ix (μ 124) (μ 118 17) 16 0 = -1
      · rw [if_pos ⟨by omega, z⟩, if_pos z]
      · rw [if_neg (fun y => z y.2), if_neg z]
    rw [e9]
    exact l_isName1 (μ := μ) 16 0 _ rfl rfl
theorem c_find {μ : Nat → Nat → Int} {c s : Nat} {o9 k9 : Nat} (ho : o9 ≤ 8) (hk : k9 ≤ 8) : Cl PT 182 [mR 118, mI ((o9 : Int)), mI ((k9 : Int))] (mkh μ c s) (fun r => r = (some (some (mI (ix (fun j => μ 123 (o9 + j)) (μ 118 17) k9 0))), mkh μ c s)) := by
  refine ⟨_, PT_182, Nat.le_of_ble_eq_true rfl, ?_⟩
  show Rn PT none kX12_find 0 [some (mR 118), some (mI ((o9 : Int))), some (mI ((k9 : Int))), none] [] (mkh μ c s) _
  refine rn_iconst (k' := 1) rfl rfl ?_
  refine rn_istore_n (k' := 2) (L' := [some (mR 118), some (mI ((o9 : Int))), some (mI ((k9 : Int))), some (mI (0))]) rfl rfl (Nat.le_of_ble_eq_true rfl) rfl ?_
  exact l_find ho hk k9 0 _ rfl (by omega)
theorem c_wordRead {μ : Nat → Nat → Int} {c s : Nat} (h5 : μ 1 5 = 1) : Cl PT 46 [mR 3] (mkh μ c s) (fun r => r = (some (some (mI (ix (μ 4) (μ 1 6) 16 0))), mkh μ c s)) := by
  refine ⟨_, PT_46, Nat.le_of_ble_eq_true rfl, ?_⟩
  show Rn PT none kX5_wordRead 0 [some (mR 3), none] [] (mkh μ c s) _
  refine rn_iconst (k' := 1) rfl rfl ?_
  refine rn_istore_n (k' := 2) (L' := [some (mR 3), some (mI (0))]) rfl rfl (Nat.le_of_ble_eq_true rfl) rfl ?_
  exact l_wordRead h5 16 0 _ rfl rfl
theorem c_named_f {μ : Nat → Nat → Int} {c s : Nat} {v : Int} {k9 : Nat} (hk : k9 ≤ 8) (h13 : μ 54 13 = (k9 : Int)) : Cl PT 31 [mR 54, mI (v)] (mkh μ c s) (fun r => r = (some (some (mI (ix (μ 59) v k9 0))), mkh μ c s)) := by
  refine ⟨_, PT_31, Nat.le_of_ble_eq_true rfl, ?_⟩
  show Rn PT none kX3_herdNamed 0 [some (mR 54), some (mI (v)), none] [] (mkh μ c s) _
  refine rn_iconst (k' := 1) rfl rfl ?_
  refine rn_istore_n (k' := 2) (L' := [some (mR 54), some (mI (v)), some (mI (0))]) rfl rfl (Nat.le_of_ble_eq_true rfl) rfl ?_
  exact l_named_f hk h13 k9 0 _ rfl (by omega)
theorem c_named_l {μ : Nat → Nat → Int} {c s : Nat} {v : Int} {k9 : Nat} (hk : k9 ≤ 8) (h13 : μ 6 13 = (k9 : Int)) : Cl PT 31 [mR 6, mI (v)] (mkh μ c s) (fun r => r = (some (some (mI (ix (μ 11) v k9 0))), mkh μ c s)) := by
  refine ⟨_, PT_31, Nat.le_of_ble_eq_true rfl, ?_⟩
  show Rn PT none kX3_herdNamed 0 [some (mR 6), some (mI (v)), none] [] (mkh μ c s) _
  refine rn_iconst (k' := 1) rfl rfl ?_
  refine rn_istore_n (k' := 2) (L' := [some (mR 6), some (mI (v)), some (mI (0))]) rfl rfl (Nat.le_of_ble_eq_true rfl) rfl ?_
  exact l_named_l hk h13 k9 0 _ rfl (by omega)
theorem c_wordReadX {μ : Nat → Nat → Int} {c s : Nat} (h5 : ¬ μ 1 5 = 1) : Cl PT 46 [mR 3] (mkh μ c s) (fun r => r = (some (some (mI (-1))), mkh μ c s)) := by
  refine ⟨_, PT_46, Nat.le_of_ble_eq_true rfl, ?_⟩
  show Rn PT none kX5_wordRead 0 [some (mR 3), none] [] (mkh μ c s) _
  refine rn_iconst (k' := 1) rfl rfl ?_
  refine rn_istore_n (k' := 2) (L' := [some (mR 3), some (mI (0))]) rfl rfl (Nat.le_of_ble_eq_true rfl) rfl ?_
  refine rn_aload_n (k' := 3) rfl rfl rfl ?_
  refine rn_getR (k' := 4) rfl rfl K0_3 (by decide) rfl R0_3_0 ?_
  refine rn_getI (k' := 5) rfl rfl K0_1 (by decide) rfl ?_
  refine rn_iconst (k' := 6) rfl rfl ?_
  refine rn_icmp_ne (k' := 7) rfl rfl (fun hc1 => ?_) (fun hc1 => ?_)
  · skip
    refine rn_iconst (k' := 23) rfl rfl ?_
    refine rn_iret rfl (Or.inl rfl) ?_
    rfl
  · exfalso; omega
theorem c_X12_isWord {μ : Nat → Nat → Int} {c s : Nat} {w : Int} : Cl PT 177 [mR 118, mJ w] (mkh μ c s) (fun r => r = (some (some (mI (if μ 118 11 = 1 ∧ μ 118 17 = w then 1 else 0))), mkh μ c s)) := by
  refine ⟨_, PT_177, Nat.le_of_ble_eq_true rfl, ?_⟩
  show Rn PT none kX12_isWord 0 [some (mR 118), some (mJ (w)), none] [] (mkh μ c s) _
  refine rn_aload_n (k' := 1) rfl rfl rfl ?_
  refine rn_getI (k' := 2) rfl rfl K0_118 (by decide) rfl ?_
  refine rn_iconst (k' := 3) rfl rfl ?_
  refine rn_icmp_ne (k' := 4) rfl rfl (fun hc1 => ?_) (fun hc1 => ?_)
  · skip
    refine rn_iconst (k' := 12) rfl rfl ?_
    refine rn_iret rfl (Or.inr (by omega)) ?_
    rw [if_neg (fun z => by have := (cmp_0 (x := μ 118 17) (y := w)).mpr z.2; omega)]
  · skip
    refine rn_aload_n (k' := 5) rfl rfl rfl ?_
    refine rn_getJ (k' := 6) rfl rfl K0_118 (by decide) rfl ?_
    refine rn_lload_n (k' := 7) rfl rfl rfl ?_
    refine rn_lcmp (k' := 8) rfl rfl ?_
    refine rn_if_ne (k' := 9) rfl rfl (fun hc2 => ?_) (fun hc2 => ?_)
    · skip
      refine rn_iconst (k' := 12) rfl rfl ?_
      refine rn_iret rfl (Or.inr (by omega)) ?_
      rw [if_neg (fun z => by have := (cmp_0 (x := μ 118 17) (y := w)).mpr z.2; omega)]
    · skip
      refine rn_iconst (k' := 10) rfl rfl ?_
      refine rn_goto rfl ?_
      refine rn_iret rfl (Or.inr (by omega)) ?_
      rw [if_pos ⟨by omega, cmp_0.mp (by omega)⟩]
set_option maxHeartbeats 2000000 in
theorem c_X12_isSign {μ : Nat → Nat → Int} {c s : Nat} {a : Int} : Cl PT 178 [mR 118, mI a] (mkh μ c s) (fun r => r = (some (some (mI (if μ 118 11 = 3 ∧ μ 118 14 = a then 1 else 0))), mkh (μ) c s)) := by
  refine ⟨_, PT_178, Nat.le_of_ble_eq_true rfl, ?_⟩
  show Rn PT none kX12_isSign 0 [some (mR 118), some (mI (a))] [] (mkh μ c s) _
  refine rn_aload_n (k' := 1) rfl rfl rfl ?_
  refine rn_getI (k' := 2) rfl rfl K0_118 (by decide) rfl ?_
  refine rn_iconst (k' := 3) rfl rfl ?_
  refine rn_icmp_ne (k' := 4) rfl rfl (fun hc1 => ?_) (fun hc1 => ?_)
  · skip
    refine rn_iconst (k' := 11) rfl rfl ?_
    refine rn_iret rfl (Or.inr (by omega)) ?_
    first | rfl | (refine congrArg (fun z => ((some (some (mI z)) : Option (Option MV)), mkh μ c s)) ?_; first | rfl | omega | (symm; first | (rw [if_pos (by omega)]; first | done | rfl | omega) | (rw [if_neg (by omega)]; first | done | rfl | omega)) | (symm; unfold g_tim; first | (rw [if_pos (by omega)]; first | done | rfl | omega) | (rw [if_neg (by omega)]; first | done | rfl | omega)) | (symm; unfold g_st; first | (rw [if_pos (by omega)]; first | done | rfl | omega) | (rw [if_neg (by omega)]; first | done | rfl | omega)) | (symm; unfold g_dep; first | (rw [if_pos (by omega)]; first | done | rfl | omega) | (rw [if_neg (by omega)]; first | done | rfl | omega)) | (symm; unfold g_nb; first | (rw [if_pos (by omega)]; first | done | rfl | omega) | (rw [if_neg (by omega)]; first | done | rfl | omega)) | ((try unfold g_st); (try unfold g_dep); (try unfold g_nb); (repeat' split) <;> omega) | (symm; (repeat (first | rw [if_pos (by omega)] | rw [if_neg (by omega)])); first | done | rfl | omega))
  · skip
    refine rn_aload_n (k' := 5) rfl rfl rfl ?_
    refine rn_getI (k' := 6) rfl rfl K0_118 (by decide) rfl ?_
    refine rn_iload_n (k' := 7) rfl rfl rfl ?_
    refine rn_icmp_ne (k' := 8) rfl rfl (fun hc2 => ?_) (fun hc2 => ?_)
    · skip
      refine rn_iconst (k' := 11) rfl rfl ?_
      refine rn_iret rfl (Or.inr (by omega)) ?_
      first | rfl | (refine congrArg (fun z => ((some (some (mI z)) : Option (Option MV)), mkh μ c s)) ?_; first | rfl | omega | (symm; first | (rw [if_pos (by omega)]; first | done | rfl | omega) | (rw [if_neg (by omega)]; first | done | rfl | omega)) | (symm; unfold g_tim; first | (rw [if_pos (by omega)]; first | done | rfl | omega) | (rw [if_neg (by omega)]; first | done | rfl | omega)) | (symm; unfold g_st; first | (rw [if_pos (by omega)]; first | done | rfl | omega) | (rw [if_neg (by omega)]; first | done | rfl | omega)) | (symm; unfold g_dep; first | (rw [if_pos (by omega)]; first | done | rfl | omega) | (rw [if_neg (by omega)]; first | done | rfl | omega)) | (symm; unfold g_nb; first | (rw [if_pos (by omega)]; first | done | rfl | omega) | (rw [if_neg (by omega)]; first | done | rfl | omega)) | ((try unfold g_st); (try unfold g_dep); (try unfold g_nb); (repeat' split) <;> omega) | (symm; (repeat (first | rw [if_pos (by omega)] | rw [if_neg (by omega)])); first | done | rfl | omega))
    · skip
      refine rn_iconst (k' := 9) rfl rfl ?_
      refine rn_goto rfl ?_
      refine rn_iret rfl (Or.inr (by omega)) ?_
      first | rfl | (refine congrArg (fun z => ((some (some (mI z)) : Option (Option MV)), mkh μ c s)) ?_; first | rfl | omega | (symm; first | (rw [if_pos (by omega)]; first | done | rfl | omega) | (rw [if_neg (by omega)]; first | done | rfl | omega)) | (symm; unfold g_tim; first | (rw [if_pos (by omega)]; first | done | rfl | omega) | (rw [if_neg (by omega)]; first | done | rfl | omega)) | (symm; unfold g_st; first | (rw [if_pos (by omega)]; first | done | rfl | omega) | (rw [if_neg (by omega)]; first | done | rfl | omega)) | (symm; unfold g_dep; first | (rw [if_pos (by omega)]; first | done | rfl | omega) | (rw [if_neg (by omega)]; first | done | rfl | omega)) | (symm; unfold g_nb; first | (rw [if_pos (by omega)]; first | done | rfl | omega) | (rw [if_neg (by omega)]; first | done | rfl | omega)) | ((try unfold g_st); (try unfold g_dep); (try unfold g_nb); (repeat' split) <;> omega) | (symm; (repeat (first | rw [if_pos (by omega)] | rw [if_neg (by omega)])); first | done | rfl | omega))
theorem g_signX {μ : Nat → Nat → Int} {c s : Nat} {b : Nat → Int} {n m p : Nat} (h : MSt μ b n m p) (he : ¬ tkK b n m p = 3) : Cl PT 179 [mR 118, mI 59] (mkh μ c s) (fun r => r = (some (some (mI 0)), mkh (m_set (m_set μ 118 15 1) 118 16 ((tkP b n m p : Nat) : Int)) c s)) := by
  obtain ⟨hb, ht, hn, hp, h3, h5, h12, h11, h4, h17, h14, hs⟩ := h
  have h11b : ¬ μ 118 11 = 3 := by rw [h11]; exact fun z => he (mkk_3.mp z)
  refine ⟨_, PT_179, Nat.le_of_ble_eq_true rfl, ?_⟩
  show Rn PT none kX12_sign 0 [some (mR 118), some (mI (59))] [] (mkh μ c s) _
  refine rn_aload_n (k' := 1) rfl rfl rfl ?_
  refine rn_iload_n (k' := 2) rfl rfl rfl ?_
  by_cases hq1 : μ 118 11 = 3 ∧ μ 118 14 = 59
  · exfalso; omega
  · refine rn_callP (k' := 3) (y := 178) (vs := [mR 118, mI (59)]) (S' := []) (v := some (mI 0)) (h' := mkh μ c s) rfl rfl rfl (by have hz : Cl PT 178 [mR 118, mI (59)] (mkh μ c s) (fun r => r = (some (some (mI (if μ 118 11 = 3 ∧ μ 118 14 = 59 then 1 else 0))), mkh μ c s)) := c_X12_isSign (a := 59) (μ := μ) (c := c) (s := s); rw [if_neg hq1] at hz; exact hz) ?_
    show Rn PT none kX12_sign 3 [some (mR 118), some (mI (59))] [mI (0)] (mkh μ c s) _
    refine rn_if_ne (k' := 4) rfl rfl (fun hc2 => ?_) (fun hc2 => ?_)
    · exfalso; omega
    · skip
      refine rn_aload_n (k' := 5) rfl rfl rfl ?_
      refine rn_iconst (k' := 6) rfl rfl ?_
      refine rn_callP (k' := 7) (y := 176) (vs := [mR 118, mI (1)]) (S' := []) (v := some (mI (0))) (h' := mkh (m_set (m_set μ 118 15 (1)) 118 16 (μ 118 12)) c s) rfl rfl rfl (g_bad (μ := μ) (e := 1)) ?_
      show Rn PT none kX12_sign 7 [some (mR 118), some (mI (59))] [mI (0)] (mkh (m_set (m_set μ 118 15 (1)) 118 16 (μ 118 12)) c s) _
      refine rn_iret rfl (Or.inr (by omega)) ?_
      rw [h12]
theorem g_sign {μ : Nat → Nat → Int} {c s : Nat} {b : Nat → Int} {n m p : Nat} (h : MSt μ b n m p) (he : tkK b n m p = 3) : ∃ H1, (MTk b n m (tkN b n m p) H1 ∧ FRn H1 (μ 118)) ∧ Cl PT 179 [mR 118, mI 59] (mkh μ c s) (fun r => r = (some (some (mI 1)), mkh (m_upd μ 118 H1) c s)) := by
  obtain ⟨H1, hm, hcl⟩ := g_next2 (μ := μ) (c := c) (s := s) h (by omega)
  refine ⟨H1, hm, ?_⟩
  obtain ⟨hb, ht, hn, hp, h3, h5, h12, h11, h4, h17, h14, hs⟩ := h
  have h11b : μ 118 11 = 3 := by rw [h11]; exact mkk_3.mpr he
  have h14b := hs he
  refine ⟨_, PT_179, Nat.le_of_ble_eq_true rfl, ?_⟩
  show Rn PT none kX12_sign 0 [some (mR 118), some (mI (59))] [] (mkh μ c s) _
  refine rn_aload_n (k' := 1) rfl rfl rfl ?_
  refine rn_iload_n (k' := 2) rfl rfl rfl ?_
  by_cases hq1 : μ 118 11 = 3 ∧ μ 118 14 = 59
  · refine rn_callP (k' := 3) (y := 178) (vs := [mR 118, mI (59)]) (S' := []) (v := some (mI 1)) (h' := mkh μ c s) rfl rfl rfl (by have hz : Cl PT 178 [mR 118, mI (59)] (mkh μ c s) (fun r => r = (some (some (mI (if μ 118 11 = 3 ∧ μ 118 14 = 59 then 1 else 0))), mkh μ c s)) := c_X12_isSign (a := 59) (μ := μ) (c := c) (s := s); rw [if_pos hq1] at hz; exact hz) ?_
    show Rn PT none kX12_sign 3 [some (mR 118), some (mI (59))] [mI (1)] (mkh μ c s) _
    refine rn_if_ne (k' := 4) rfl rfl (fun hc2 => ?_) (fun hc2 => ?_)
    · skip
      refine rn_aload_n (k' := 9) rfl rfl rfl ?_
      refine rn_callP (k' := 10) (y := 175) (vs := [mR 118]) (S' := []) (v := none) (h' := mkh (m_upd μ 118 H1) c s) rfl rfl rfl (hcl) ?_
      show Rn PT none kX12_sign 10 [some (mR 118), some (mI (59))] [] (mkh (m_upd μ 118 H1) c s) _
      refine rn_iconst (k' := 11) rfl rfl ?_
      refine rn_iret rfl (Or.inr (by omega)) ?_
      rfl
    · exfalso; omega
  · exfalso; omega
theorem g_name {μ : Nat → Nat → Int} {c s : Nat} {b : Nat → Int} {n m p : Nat} (h : CSt μ b n m p) (he : tkK b n m p = 1) (hw : ix (μ 4) (tkV b n m p) 16 0 = -1) : ∃ A1, CTk b n m p A1 ∧ Cl PT 49 [mR 3] (mkh μ c s) (fun r => r = (some (some (mI 1)), mkh (m_upd μ 1 A1) c s)) := by
  obtain ⟨A1, hA, hcl⟩ := g_readToken (c := c) (s := s) h
  refine ⟨A1, hA, ?_⟩
  obtain ⟨a1, a2, a3, a4, a5, a6⟩ := hA
  have hw2 : ix (μ 4) (A1 6) 16 0 = -1 := by rw [a6]; exact hw
  refine ⟨_, PT_49, Nat.le_of_ble_eq_true rfl, ?_⟩
  show Rn PT none kX5_readName 0 [some (mR 3)] [] (mkh μ c s) _
  refine rn_aload_n (k' := 1) rfl rfl rfl ?_
  refine rn_getR (k' := 2) rfl rfl K0_3 (by decide) rfl R0_3_0 ?_
  refine rn_callP (k' := 3) (y := 69) (vs := [mR 1]) (S' := []) (v := none) (h' := mkh (m_upd μ 1 A1) c s) rfl rfl rfl (hcl) ?_
  show Rn PT none kX5_readName 3 [some (mR 3)] [] (mkh (m_upd μ 1 A1) c s) _
  refine rn_aload_n (k' := 4) rfl rfl rfl ?_
  refine rn_getR (k' := 5) rfl rfl K0_3 (by decide) rfl R0_3_0 ?_
  refine rn_getI (k' := 6) rfl rfl K0_1 (by decide) rfl ?_
  show Rn PT none kX5_readName 6 [some (mR 3)] [mI (A1 5)] (mkh (m_upd μ 1 A1) c s) _
  refine rn_iconst (k' := 7) rfl rfl ?_
  refine rn_icmp_ne (k' := 8) rfl rfl (fun hc1 => ?_) (fun hc1 => ?_)
  · exfalso; omega
  · skip
    refine rn_aload_n (k' := 9) rfl rfl rfl ?_
    refine rn_callP (k' := 10) (y := 46) (vs := [mR 3]) (S' := []) (v := some (mI (ix (μ 4) (A1 6) 16 0))) (h' := mkh (m_upd μ 1 A1) c s) rfl rfl rfl (c_wordRead (μ := (m_upd μ 1 A1)) (show A1 5 = 1 by omega)) ?_
    show Rn PT none kX5_readName 10 [some (mR 3)] [mI (ix (μ 4) (A1 6) 16 0)] (mkh (m_upd μ 1 A1) c s) _
    refine rn_iconst (k' := 11) rfl rfl ?_
    refine rn_icmp_eq (k' := 12) rfl rfl (fun hc2 => ?_) (fun hc2 => ?_)
    · skip
      refine rn_iconst (k' := 17) rfl rfl ?_
      refine rn_goto rfl ?_
      refine rn_iret rfl (Or.inr (by omega)) ?_
      rfl
    · exfalso; omega
theorem g_nameX {μ : Nat → Nat → Int} {c s : Nat} {b : Nat → Int} {n m p : Nat} (h : CSt μ b n m p) (hw : ¬ (tkK b n m p = 1 ∧ ix (μ 4) (tkV b n m p) 16 0 = -1)) : ∃ A1, CTk b n m p A1 ∧ Cl PT 49 [mR 3] (mkh μ c s) (fun r => r = (some (some (mI 0)), mkh (m_set (m_upd μ 1 A1) 3 2 1) c s)) := by
  obtain ⟨A1, hA, hcl⟩ := g_readToken (c := c) (s := s) h
  refine ⟨A1, hA, ?_⟩
  obtain ⟨a1, a2, a3, a4, a5, a6⟩ := hA
  have hw2 : ¬ (A1 5 = 1 ∧ ix (μ 4) (A1 6) 16 0 = -1) := by rw [a6, a5]; exact hw
  refine ⟨_, PT_49, Nat.le_of_ble_eq_true rfl, ?_⟩
  show Rn PT none kX5_readName 0 [some (mR 3)] [] (mkh μ c s) _
  refine rn_aload_n (k' := 1) rfl rfl rfl ?_
  refine rn_getR (k' := 2) rfl rfl K0_3 (by decide) rfl R0_3_0 ?_
  refine rn_callP (k' := 3) (y := 69) (vs := [mR 1]) (S' := []) (v := none) (h' := mkh (m_upd μ 1 A1) c s) rfl rfl rfl (hcl) ?_
  show Rn PT none kX5_readName 3 [some (mR 3)] [] (mkh (m_upd μ 1 A1) c s) _
  refine rn_aload_n (k' := 4) rfl rfl rfl ?_
  refine rn_getR (k' := 5) rfl rfl K0_3 (by decide) rfl R0_3_0 ?_
  refine rn_getI (k' := 6) rfl rfl K0_1 (by decide) rfl ?_
  show Rn PT none kX5_readName 6 [some (mR 3)] [mI (A1 5)] (mkh (m_upd μ 1 A1) c s) _
  refine rn_iconst (k' := 7) rfl rfl ?_
  refine rn_icmp_ne (k' := 8) rfl rfl (fun hc1 => ?_) (fun hc1 => ?_)
  · skip
    refine rn_aload_n (k' := 13) rfl rfl rfl ?_
    refine rn_iconst (k' := 14) rfl rfl ?_
    refine rn_callP (k' := 15) (y := 45) (vs := [mR 3, mI (1)]) (S' := []) (v := some (mI (0))) (h' := mkh (m_set (m_upd μ 1 A1) 3 2 (1)) c s) rfl rfl rfl (g_fail (μ := (m_upd μ 1 A1)) (e := 1)) ?_
    show Rn PT none kX5_readName 15 [some (mR 3)] [mI (0)] (mkh (m_set (m_upd μ 1 A1) 3 2 (1)) c s) _
    refine rn_if_eq (k' := 16) rfl rfl (fun hc2 => ?_) (fun hc2 => ?_)
    · skip
      refine rn_iconst (k' := 19) rfl rfl ?_
      refine rn_iret rfl (Or.inr (by omega)) ?_
      rfl
    · exfalso; omega
  · skip
    refine rn_aload_n (k' := 9) rfl rfl rfl ?_
    refine rn_callP (k' := 10) (y := 46) (vs := [mR 3]) (S' := []) (v := some (mI (ix (μ 4) (A1 6) 16 0))) (h' := mkh (m_upd μ 1 A1) c s) rfl rfl rfl (c_wordRead (μ := (m_upd μ 1 A1)) (show A1 5 = 1 by omega)) ?_
    show Rn PT none kX5_readName 10 [some (mR 3)] [mI (ix (μ 4) (A1 6) 16 0)] (mkh (m_upd μ 1 A1) c s) _
    refine rn_iconst (k' := 11) rfl rfl ?_
    refine rn_icmp_eq (k' := 12) rfl rfl (fun hc3 => ?_) (fun hc3 => ?_)
    · exfalso; omega
    · skip
      refine rn_aload_n (k' := 13) rfl rfl rfl ?_
      refine rn_iconst (k' := 14) rfl rfl ?_
      refine rn_callP (k' := 15) (y := 45) (vs := [mR 3, mI (1)]) (S' := []) (v := some (mI (0))) (h' := mkh (m_set (m_upd μ 1 A1) 3 2 (1)) c s) rfl rfl rfl (g_fail (μ := (m_upd μ 1 A1)) (e := 1)) ?_
      show Rn PT none kX5_readName 15 [some (mR 3)] [mI (0)] (mkh (m_set (m_upd μ 1 A1) 3 2 (1)) c s) _
      refine rn_if_eq (k' := 16) rfl rfl (fun hc4 => ?_) (fun hc4 => ?_)
      · skip
        refine rn_iconst (k' := 19) rfl rfl ?_
        refine rn_iret rfl (Or.inr (by omega)) ?_
        rfl
      · exfalso; omega
