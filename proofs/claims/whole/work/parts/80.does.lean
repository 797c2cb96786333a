variable {N : Int}
/-! ===== printed by wip/whole/gen80.py: judge of the class; does of the model ===== -/
theorem jOK_scene {μ : Nat → Nat → Int} (hS : I_scene μ) (h8 : μ 6 13 ≤ 8) : jOK (mub μ) (μ 14 4) 0 (tr (mub μ)) := by
  have hS_ := hS
  obtain ⟨sd, sw, stk, s4, s5, s6, hC, hH, -, s10, sce, swc, s13⟩ := hS_
  have h13 : mub μ 6 13 = μ 6 13 := rfl
  refine ⟨sd, fun j hj => ?_, fun j hj => ?_, ?_, ⟨stk.1, Int.le_refl _⟩, ⟨by show (0 : Int) ≤ 0; decide, by show (0 : Int) ≤ 0; decide⟩⟩
  · show g_cell μ (mub μ 84 j)
    rw [mub_84 (by omega)]
    exact sc_cell hS (by omega)
  · show 0 ≤ mub μ 85 j ∧ mub μ 85 j ≤ 99
    rw [mub_85 (by omega)]
    exact hH j
  · show μ 14 3 = -1 ∨ g_cell μ (μ 14 3)
    by_cases z : μ 14 3 = -1
    · exact Or.inl z
    · exact Or.inr ⟨by omega, swc.resolve_left z⟩
set_option maxHeartbeats 4000000 in
theorem x_X11_judge_0 {μ : Nat → Nat → Int} {c s : Nat} (hL : I_land μ) (hS : I_scene μ) (hP : I_plan μ) (h82 : (0 ≤ μ 82 5 ∧ μ 82 5 ≤ 1000) ∧ (0 ≤ μ 82 6 ∧ μ 82 6 ≤ 8)) {p : Nat} (hp : (p : Int) = μ 82 5 % 8) : ∃ M, (rst M = rst μ ∧ tr M = (jr μ (tr (mub μ)) (μ 17 0).toNat).2.2) ∧ Cl PT 146 [mR 0, mI 0] (mkh μ c s) (fun r => r = (some (some (mI (if (jr μ (tr (mub μ)) (μ 17 0).toNat).1 = 0 then -1 else (jr μ (tr (mub μ)) (μ 17 0).toNat).2.1))), mkh (vrd M (jr μ (tr (mub μ)) (μ 17 0).toNat).1 (jr μ (tr (mub μ)) (μ 17 0).toNat).2.1 (fS (jh (jr μ (tr (mub μ)) (μ 17 0).toNat).2.2) (μ 6 13).toNat) (μ 14 4)) c s)) := by
  have h8 : μ 6 13 ≤ 8 := hL.2.2.2.2.2.1.2
  have h14 := hS.2.2.1
  have hpl := hP.1
  have hPm : I_plan (mub μ) := hP.congr rfl rfl rfl rfl rfl (fun _ _ _ => rfl)
  obtain ⟨M_, e1, e2, n, r, e3, M, ⟨hm1, hm2⟩, e4⟩ := c_follow (μ := mub μ) (c := c) (s := s) (land_mub hL) hPm (T := μ 14 4) (by omega) (jOK_scene hS h8) (by show 0 ≤ μ 14 4 ∧ μ 14 4 ≤ 800000; omega)
  have hfo : Cl PT 12 [mR 82, mR 17] (mkh (mub μ) c s) (fun r => r = (some (some (mI (if (jr (mub μ) (tr (mub μ)) (μ 17 0).toNat).1 = 0 then -1 else (jr (mub μ) (tr (mub μ)) (μ 17 0).toNat).2.1))), mkh (vrd M (jr (mub μ) (tr (mub μ)) (μ 17 0).toNat).1 (jr (mub μ) (tr (mub μ)) (μ 17 0).toNat).2.1 (fS (jh (jr (mub μ) (tr (mub μ)) (μ 17 0).toNat).2.2) (μ 6 13).toNat) (μ 14 4)) c s)) := ⟨M_, e1, e2, n, r, e3, e4⟩
  have hm1 : tr M = (jr (mub μ) (tr (mub μ)) (μ 17 0).toNat).2.2 := hm1
  rw [jr_rows (ν := mub μ) (μ := μ) rfl rfl rfl rfl rfl rfl rfl] at hm1 hfo
  have hM : rst M = rst μ := hm2.rst.trans rst_mub
  have hM5 : M 82 5 = μ 82 5 := sup_eq hM rfl
  have hM6 : M 82 6 = μ 82 6 := sup_eq hM rfl
  have v1 : (vrd M (jr μ (tr (mub μ)) (μ 17 0).toNat).1 (jr μ (tr (mub μ)) (μ 17 0).toNat).2.1 (fS (jh (jr μ (tr (mub μ)) (μ 17 0).toNat).2.2) (μ 6 13).toNat) (μ 14 4)) 87 1 = (jr μ (tr (mub μ)) (μ 17 0).toNat).2.1 := rfl
  have h5 : 0 ≤ (vrd M (jr μ (tr (mub μ)) (μ 17 0).toNat).1 (jr μ (tr (mub μ)) (μ 17 0).toNat).2.1 (fS (jh (jr μ (tr (mub μ)) (μ 17 0).toNat).2.2) (μ 6 13).toNat) (μ 14 4)) 82 5 ∧ (vrd M (jr μ (tr (mub μ)) (μ 17 0).toNat).1 (jr μ (tr (mub μ)) (μ 17 0).toNat).2.1 (fS (jh (jr μ (tr (mub μ)) (μ 17 0).toNat).2.2) (μ 6 13).toNat) (μ 14 4)) 82 5 ≤ 1000 := by show 0 ≤ M 82 5 ∧ M 82 5 ≤ 1000; rw [hM5]; exact h82.1
  have h6 : 0 ≤ (vrd M (jr μ (tr (mub μ)) (μ 17 0).toNat).1 (jr μ (tr (mub μ)) (μ 17 0).toNat).2.1 (fS (jh (jr μ (tr (mub μ)) (μ 17 0).toNat).2.2) (μ 6 13).toNat) (μ 14 4)) 82 6 ∧ (vrd M (jr μ (tr (mub μ)) (μ 17 0).toNat).1 (jr μ (tr (mub μ)) (μ 17 0).toNat).2.1 (fS (jh (jr μ (tr (mub μ)) (μ 17 0).toNat).2.2) (μ 6 13).toNat) (μ 14 4)) 82 6 ≤ 8 := by show 0 ≤ M 82 6 ∧ M 82 6 ≤ 8; rw [hM6]; exact h82.2
  have hp5 : (p : Int) = (vrd M (jr μ (tr (mub μ)) (μ 17 0).toNat).1 (jr μ (tr (mub μ)) (μ 17 0).toNat).2.1 (fS (jh (jr μ (tr (mub μ)) (μ 17 0).toNat).2.2) (μ 6 13).toNat) (μ 14 4)) 82 5 % 8 := by show (p : Int) = M 82 5 % 8; rw [hM5]; exact hp
  refine ⟨M, ⟨hM, hm1⟩, ?_⟩
  refine ⟨_, PT_146, Nat.le_of_ble_eq_true rfl, ?_⟩
  show Rn PT none kX11_judge 0 [some (mR 0), some (mI (0)), none] [] (mkh μ c s) _
  refine rn_iload_n (k' := 1) rfl rfl rfl ?_
  refine rn_if_lt (k' := 2) rfl rfl (fun hc1 => ?_) (fun hc1 => ?_)
  · exfalso; omega
  · skip
    refine rn_iload_n (k' := 3) rfl rfl rfl ?_
    refine rn_iconst (k' := 4) rfl rfl ?_
    refine rn_icmp_le (k' := 5) rfl rfl (fun hc2 => ?_) (fun hc2 => ?_)
    · skip
      refine rn_aload_n (k' := 8) rfl rfl rfl ?_
      refine rn_getR (k' := 9) rfl rfl K0_0 (by decide) rfl R0_0_11 ?_
      refine rn_callP (k' := 10) (y := 1) (vs := [mR 82]) (S' := []) (v := none) (h' := mkh (mub μ) c s) rfl rfl rfl (c_X0_begin (μ := μ) (c := c) (s := s)) ?_
      show Rn PT none kX11_judge 10 [some (mR 0), some (mI (0)), none] [] (mkh (mub μ) c s) _
      refine rn_aload_n (k' := 11) rfl rfl rfl ?_
      refine rn_getR (k' := 12) rfl rfl K0_0 (by decide) rfl R0_0_11 ?_
      refine rn_aload_n (k' := 13) rfl rfl rfl ?_
      refine rn_getR (k' := 14) rfl rfl K0_0 (by decide) rfl R0_0_2 ?_
      refine rn_getR (k' := 15) rfl rfl K0_5 (by decide) rfl R0_5_2 ?_
      refine rn_callP (k' := 16) (y := 12) (vs := [mR 82, mR 17]) (S' := []) (v := some (mI ((if (jr μ (tr (mub μ)) (μ 17 0).toNat).1 = 0 then -1 else (jr μ (tr (mub μ)) (μ 17 0).toNat).2.1)))) (h' := mkh (vrd M (jr μ (tr (mub μ)) (μ 17 0).toNat).1 (jr μ (tr (mub μ)) (μ 17 0).toNat).2.1 (fS (jh (jr μ (tr (mub μ)) (μ 17 0).toNat).2.2) (μ 6 13).toNat) (μ 14 4)) c s) rfl rfl rfl (hfo) ?_
      show Rn PT none kX11_judge 16 [some (mR 0), some (mI (0)), none] [mI ((if (jr μ (tr (mub μ)) (μ 17 0).toNat).1 = 0 then -1 else (jr μ (tr (mub μ)) (μ 17 0).toNat).2.1))] (mkh (vrd M (jr μ (tr (mub μ)) (μ 17 0).toNat).1 (jr μ (tr (mub μ)) (μ 17 0).toNat).2.1 (fS (jh (jr μ (tr (mub μ)) (μ 17 0).toNat).2.2) (μ 6 13).toNat) (μ 14 4)) c s) _
      refine rn_istore_n (k' := 17) (L' := [some (mR 0), some (mI (0)), some (mI ((if (jr μ (tr (mub μ)) (μ 17 0).toNat).1 = 0 then -1 else (jr μ (tr (mub μ)) (μ 17 0).toNat).2.1)))]) rfl rfl (Nat.le_of_ble_eq_true rfl) rfl ?_
      refine rn_iload_n (k' := 18) rfl rfl rfl ?_
      refine rn_iconst (k' := 19) rfl rfl ?_
      refine rn_icmp_ne (k' := 20) rfl rfl (fun hc3 => ?_) (fun hc3 => ?_)
      · skip
        refine rn_iload_n (k' := 30) rfl rfl rfl ?_
        refine rn_iret rfl (Or.inl rfl) ?_
        rfl
      · exfalso; omega
    · exfalso; omega
set_option maxHeartbeats 4000000 in
theorem x_X11_judge_1n {μ : Nat → Nat → Int} {c s : Nat} (hL : I_land μ) (hS : I_scene μ) (hP : I_plan μ) (h82 : (0 ≤ μ 82 5 ∧ μ 82 5 ≤ 1000) ∧ (0 ≤ μ 82 6 ∧ μ 82 6 ≤ 8)) {p : Nat} (hp : (p : Int) = μ 82 5 % 8) (hz : (jr μ (tr (mub μ)) (μ 17 0).toNat).2.1 ≤ 0) : ∃ M, (rst M = rst μ ∧ tr M = (jr μ (tr (mub μ)) (μ 17 0).toNat).2.2) ∧ Cl PT 146 [mR 0, mI 1] (mkh μ c s) (fun r => r = (some (some (mI (if (jr μ (tr (mub μ)) (μ 17 0).toNat).1 = 0 then -1 else (jr μ (tr (mub μ)) (μ 17 0).toNat).2.1))), mkh (vrd M (jr μ (tr (mub μ)) (μ 17 0).toNat).1 (jr μ (tr (mub μ)) (μ 17 0).toNat).2.1 (fS (jh (jr μ (tr (mub μ)) (μ 17 0).toNat).2.2) (μ 6 13).toNat) (μ 14 4)) c s)) := by
  have h8 : μ 6 13 ≤ 8 := hL.2.2.2.2.2.1.2
  have h14 := hS.2.2.1
  have hpl := hP.1
  have hPm : I_plan (mub μ) := hP.congr rfl rfl rfl rfl rfl (fun _ _ _ => rfl)
  obtain ⟨M_, e1, e2, n, r, e3, M, ⟨hm1, hm2⟩, e4⟩ := c_follow (μ := mub μ) (c := c) (s := s) (land_mub hL) hPm (T := μ 14 4) (by omega) (jOK_scene hS h8) (by show 0 ≤ μ 14 4 ∧ μ 14 4 ≤ 800000; omega)
  have hfo : Cl PT 12 [mR 82, mR 17] (mkh (mub μ) c s) (fun r => r = (some (some (mI (if (jr (mub μ) (tr (mub μ)) (μ 17 0).toNat).1 = 0 then -1 else (jr (mub μ) (tr (mub μ)) (μ 17 0).toNat).2.1))), mkh (vrd M (jr (mub μ) (tr (mub μ)) (μ 17 0).toNat).1 (jr (mub μ) (tr (mub μ)) (μ 17 0).toNat).2.1 (fS (jh (jr (mub μ) (tr (mub μ)) (μ 17 0).toNat).2.2) (μ 6 13).toNat) (μ 14 4)) c s)) := ⟨M_, e1, e2, n, r, e3, e4⟩
  have hm1 : tr M = (jr (mub μ) (tr (mub μ)) (μ 17 0).toNat).2.2 := hm1
  rw [jr_rows (ν := mub μ) (μ := μ) rfl rfl rfl rfl rfl rfl rfl] at hm1 hfo
  have hM : rst M = rst μ := hm2.rst.trans rst_mub
  have hM5 : M 82 5 = μ 82 5 := sup_eq hM rfl
  have hM6 : M 82 6 = μ 82 6 := sup_eq hM rfl
  have v1 : (vrd M (jr μ (tr (mub μ)) (μ 17 0).toNat).1 (jr μ (tr (mub μ)) (μ 17 0).toNat).2.1 (fS (jh (jr μ (tr (mub μ)) (μ 17 0).toNat).2.2) (μ 6 13).toNat) (μ 14 4)) 87 1 = (jr μ (tr (mub μ)) (μ 17 0).toNat).2.1 := rfl
  have h5 : 0 ≤ (vrd M (jr μ (tr (mub μ)) (μ 17 0).toNat).1 (jr μ (tr (mub μ)) (μ 17 0).toNat).2.1 (fS (jh (jr μ (tr (mub μ)) (μ 17 0).toNat).2.2) (μ 6 13).toNat) (μ 14 4)) 82 5 ∧ (vrd M (jr μ (tr (mub μ)) (μ 17 0).toNat).1 (jr μ (tr (mub μ)) (μ 17 0).toNat).2.1 (fS (jh (jr μ (tr (mub μ)) (μ 17 0).toNat).2.2) (μ 6 13).toNat) (μ 14 4)) 82 5 ≤ 1000 := by show 0 ≤ M 82 5 ∧ M 82 5 ≤ 1000; rw [hM5]; exact h82.1
  have h6 : 0 ≤ (vrd M (jr μ (tr (mub μ)) (μ 17 0).toNat).1 (jr μ (tr (mub μ)) (μ 17 0).toNat).2.1 (fS (jh (jr μ (tr (mub μ)) (μ 17 0).toNat).2.2) (μ 6 13).toNat) (μ 14 4)) 82 6 ∧ (vrd M (jr μ (tr (mub μ)) (μ 17 0).toNat).1 (jr μ (tr (mub μ)) (μ 17 0).toNat).2.1 (fS (jh (jr μ (tr (mub μ)) (μ 17 0).toNat).2.2) (μ 6 13).toNat) (μ 14 4)) 82 6 ≤ 8 := by show 0 ≤ M 82 6 ∧ M 82 6 ≤ 8; rw [hM6]; exact h82.2
  have hp5 : (p : Int) = (vrd M (jr μ (tr (mub μ)) (μ 17 0).toNat).1 (jr μ (tr (mub μ)) (μ 17 0).toNat).2.1 (fS (jh (jr μ (tr (mub μ)) (μ 17 0).toNat).2.2) (μ 6 13).toNat) (μ 14 4)) 82 5 % 8 := by show (p : Int) = M 82 5 % 8; rw [hM5]; exact hp
  refine ⟨M, ⟨hM, hm1⟩, ?_⟩
  refine ⟨_, PT_146, Nat.le_of_ble_eq_true rfl, ?_⟩
  show Rn PT none kX11_judge 0 [some (mR 0), some (mI (1)), none] [] (mkh μ c s) _
  refine rn_iload_n (k' := 1) rfl rfl rfl ?_
  refine rn_if_lt (k' := 2) rfl rfl (fun hc1 => ?_) (fun hc1 => ?_)
  · exfalso; omega
  · skip
    refine rn_iload_n (k' := 3) rfl rfl rfl ?_
    refine rn_iconst (k' := 4) rfl rfl ?_
    refine rn_icmp_le (k' := 5) rfl rfl (fun hc2 => ?_) (fun hc2 => ?_)
    · skip
      refine rn_aload_n (k' := 8) rfl rfl rfl ?_
      refine rn_getR (k' := 9) rfl rfl K0_0 (by decide) rfl R0_0_11 ?_
      refine rn_callP (k' := 10) (y := 1) (vs := [mR 82]) (S' := []) (v := none) (h' := mkh (mub μ) c s) rfl rfl rfl (c_X0_begin (μ := μ) (c := c) (s := s)) ?_
      show Rn PT none kX11_judge 10 [some (mR 0), some (mI (1)), none] [] (mkh (mub μ) c s) _
      refine rn_aload_n (k' := 11) rfl rfl rfl ?_
      refine rn_getR (k' := 12) rfl rfl K0_0 (by decide) rfl R0_0_11 ?_
      refine rn_aload_n (k' := 13) rfl rfl rfl ?_
      refine rn_getR (k' := 14) rfl rfl K0_0 (by decide) rfl R0_0_2 ?_
      refine rn_getR (k' := 15) rfl rfl K0_5 (by decide) rfl R0_5_2 ?_
      refine rn_callP (k' := 16) (y := 12) (vs := [mR 82, mR 17]) (S' := []) (v := some (mI ((if (jr μ (tr (mub μ)) (μ 17 0).toNat).1 = 0 then -1 else (jr μ (tr (mub μ)) (μ 17 0).toNat).2.1)))) (h' := mkh (vrd M (jr μ (tr (mub μ)) (μ 17 0).toNat).1 (jr μ (tr (mub μ)) (μ 17 0).toNat).2.1 (fS (jh (jr μ (tr (mub μ)) (μ 17 0).toNat).2.2) (μ 6 13).toNat) (μ 14 4)) c s) rfl rfl rfl (hfo) ?_
      show Rn PT none kX11_judge 16 [some (mR 0), some (mI (1)), none] [mI ((if (jr μ (tr (mub μ)) (μ 17 0).toNat).1 = 0 then -1 else (jr μ (tr (mub μ)) (μ 17 0).toNat).2.1))] (mkh (vrd M (jr μ (tr (mub μ)) (μ 17 0).toNat).1 (jr μ (tr (mub μ)) (μ 17 0).toNat).2.1 (fS (jh (jr μ (tr (mub μ)) (μ 17 0).toNat).2.2) (μ 6 13).toNat) (μ 14 4)) c s) _
      refine rn_istore_n (k' := 17) (L' := [some (mR 0), some (mI (1)), some (mI ((if (jr μ (tr (mub μ)) (μ 17 0).toNat).1 = 0 then -1 else (jr μ (tr (mub μ)) (μ 17 0).toNat).2.1)))]) rfl rfl (Nat.le_of_ble_eq_true rfl) rfl ?_
      refine rn_iload_n (k' := 18) rfl rfl rfl ?_
      refine rn_iconst (k' := 19) rfl rfl ?_
      refine rn_icmp_ne (k' := 20) rfl rfl (fun hc3 => ?_) (fun hc3 => ?_)
      · exfalso; omega
      · skip
        refine rn_aload_n (k' := 21) rfl rfl rfl ?_
        refine rn_getR (k' := 22) rfl rfl K0_0 (by decide) rfl R0_0_11 ?_
        refine rn_getR (k' := 23) rfl rfl K0_82 (by decide) rfl R0_82_8 ?_
        refine rn_iconst (k' := 24) rfl rfl ?_
        refine rn_iaload (k' := 25) rfl rfl K0_87 (by omega) (by omega) ?_
        show Rn PT none kX11_judge 25 [some (mR 0), some (mI (1)), some (mI ((if (jr μ (tr (mub μ)) (μ 17 0).toNat).1 = 0 then -1 else (jr μ (tr (mub μ)) (μ 17 0).toNat).2.1)))] [mI ((vrd M (jr μ (tr (mub μ)) (μ 17 0).toNat).1 (jr μ (tr (mub μ)) (μ 17 0).toNat).2.1 (fS (jh (jr μ (tr (mub μ)) (μ 17 0).toNat).2.2) (μ 6 13).toNat) (μ 14 4)) 87 1)] (mkh (vrd M (jr μ (tr (mub μ)) (μ 17 0).toNat).1 (jr μ (tr (mub μ)) (μ 17 0).toNat).2.1 (fS (jh (jr μ (tr (mub μ)) (μ 17 0).toNat).2.2) (μ 6 13).toNat) (μ 14 4)) c s) _
        refine rn_if_le (k' := 26) rfl rfl (fun hc4 => ?_) (fun hc4 => ?_)
        · skip
          refine rn_iload_n (k' := 30) rfl rfl rfl ?_
          refine rn_iret rfl (Or.inl rfl) ?_
          rfl
        · exfalso; omega
    · exfalso; omega
set_option maxHeartbeats 4000000 in
theorem x_X11_judge_1y {μ : Nat → Nat → Int} {c s : Nat} (hL : I_land μ) (hS : I_scene μ) (hP : I_plan μ) (h82 : (0 ≤ μ 82 5 ∧ μ 82 5 ≤ 1000) ∧ (0 ≤ μ 82 6 ∧ μ 82 6 ≤ 8)) {p : Nat} (hp : (p : Int) = μ 82 5 % 8) (hz : ¬ (jr μ (tr (mub μ)) (μ 17 0).toNat).2.1 ≤ 0) : ∃ M, (rst M = rst μ ∧ tr M = (jr μ (tr (mub μ)) (μ 17 0).toNat).2.2) ∧ Cl PT 146 [mR 0, mI 1] (mkh μ c s) (fun r => r = (some (some (mI (if (jr μ (tr (mub μ)) (μ 17 0).toNat).1 = 0 then -1 else (jr μ (tr (mub μ)) (μ 17 0).toNat).2.1))), mkh (stl (vrd M (jr μ (tr (mub μ)) (μ 17 0).toNat).1 (jr μ (tr (mub μ)) (μ 17 0).toNat).2.1 (fS (jh (jr μ (tr (mub μ)) (μ 17 0).toNat).2.2) (μ 6 13).toNat) (μ 14 4)) p) c s)) := by
  have h8 : μ 6 13 ≤ 8 := hL.2.2.2.2.2.1.2
  have h14 := hS.2.2.1
  have hpl := hP.1
  have hPm : I_plan (mub μ) := hP.congr rfl rfl rfl rfl rfl (fun _ _ _ => rfl)
  obtain ⟨M_, e1, e2, n, r, e3, M, ⟨hm1, hm2⟩, e4⟩ := c_follow (μ := mub μ) (c := c) (s := s) (land_mub hL) hPm (T := μ 14 4) (by omega) (jOK_scene hS h8) (by show 0 ≤ μ 14 4 ∧ μ 14 4 ≤ 800000; omega)
  have hfo : Cl PT 12 [mR 82, mR 17] (mkh (mub μ) c s) (fun r => r = (some (some (mI (if (jr (mub μ) (tr (mub μ)) (μ 17 0).toNat).1 = 0 then -1 else (jr (mub μ) (tr (mub μ)) (μ 17 0).toNat).2.1))), mkh (vrd M (jr (mub μ) (tr (mub μ)) (μ 17 0).toNat).1 (jr (mub μ) (tr (mub μ)) (μ 17 0).toNat).2.1 (fS (jh (jr (mub μ) (tr (mub μ)) (μ 17 0).toNat).2.2) (μ 6 13).toNat) (μ 14 4)) c s)) := ⟨M_, e1, e2, n, r, e3, e4⟩
  have hm1 : tr M = (jr (mub μ) (tr (mub μ)) (μ 17 0).toNat).2.2 := hm1
  rw [jr_rows (ν := mub μ) (μ := μ) rfl rfl rfl rfl rfl rfl rfl] at hm1 hfo
  have hM : rst M = rst μ := hm2.rst.trans rst_mub
  have hM5 : M 82 5 = μ 82 5 := sup_eq hM rfl
  have hM6 : M 82 6 = μ 82 6 := sup_eq hM rfl
  have v1 : (vrd M (jr μ (tr (mub μ)) (μ 17 0).toNat).1 (jr μ (tr (mub μ)) (μ 17 0).toNat).2.1 (fS (jh (jr μ (tr (mub μ)) (μ 17 0).toNat).2.2) (μ 6 13).toNat) (μ 14 4)) 87 1 = (jr μ (tr (mub μ)) (μ 17 0).toNat).2.1 := rfl
  have h5 : 0 ≤ (vrd M (jr μ (tr (mub μ)) (μ 17 0).toNat).1 (jr μ (tr (mub μ)) (μ 17 0).toNat).2.1 (fS (jh (jr μ (tr (mub μ)) (μ 17 0).toNat).2.2) (μ 6 13).toNat) (μ 14 4)) 82 5 ∧ (vrd M (jr μ (tr (mub μ)) (μ 17 0).toNat).1 (jr μ (tr (mub μ)) (μ 17 0).toNat).2.1 (fS (jh (jr μ (tr (mub μ)) (μ 17 0).toNat).2.2) (μ 6 13).toNat) (μ 14 4)) 82 5 ≤ 1000 := by show 0 ≤ M 82 5 ∧ M 82 5 ≤ 1000; rw [hM5]; exact h82.1
  have h6 : 0 ≤ (vrd M (jr μ (tr (mub μ)) (μ 17 0).toNat).1 (jr μ (tr (mub μ)) (μ 17 0).toNat).2.1 (fS (jh (jr μ (tr (mub μ)) (μ 17 0).toNat).2.2) (μ 6 13).toNat) (μ 14 4)) 82 6 ∧ (vrd M (jr μ (tr (mub μ)) (μ 17 0).toNat).1 (jr μ (tr (mub μ)) (μ 17 0).toNat).2.1 (fS (jh (jr μ (tr (mub μ)) (μ 17 0).toNat).2.2) (μ 6 13).toNat) (μ 14 4)) 82 6 ≤ 8 := by show 0 ≤ M 82 6 ∧ M 82 6 ≤ 8; rw [hM6]; exact h82.2
  have hp5 : (p : Int) = (vrd M (jr μ (tr (mub μ)) (μ 17 0).toNat).1 (jr μ (tr (mub μ)) (μ 17 0).toNat).2.1 (fS (jh (jr μ (tr (mub μ)) (μ 17 0).toNat).2.2) (μ 6 13).toNat) (μ 14 4)) 82 5 % 8 := by show (p : Int) = M 82 5 % 8; rw [hM5]; exact hp
  refine ⟨M, ⟨hM, hm1⟩, ?_⟩
  refine ⟨_, PT_146, Nat.le_of_ble_eq_true rfl, ?_⟩
  show Rn PT none kX11_judge 0 [some (mR 0), some (mI (1)), none] [] (mkh μ c s) _
  refine rn_iload_n (k' := 1) rfl rfl rfl ?_
  refine rn_if_lt (k' := 2) rfl rfl (fun hc1 => ?_) (fun hc1 => ?_)
  · exfalso; omega
  · skip
    refine rn_iload_n (k' := 3) rfl rfl rfl ?_
    refine rn_iconst (k' := 4) rfl rfl ?_
    refine rn_icmp_le (k' := 5) rfl rfl (fun hc2 => ?_) (fun hc2 => ?_)
    · skip
      refine rn_aload_n (k' := 8) rfl rfl rfl ?_
      refine rn_getR (k' := 9) rfl rfl K0_0 (by decide) rfl R0_0_11 ?_
      refine rn_callP (k' := 10) (y := 1) (vs := [mR 82]) (S' := []) (v := none) (h' := mkh (mub μ) c s) rfl rfl rfl (c_X0_begin (μ := μ) (c := c) (s := s)) ?_
      show Rn PT none kX11_judge 10 [some (mR 0), some (mI (1)), none] [] (mkh (mub μ) c s) _
      refine rn_aload_n (k' := 11) rfl rfl rfl ?_
      refine rn_getR (k' := 12) rfl rfl K0_0 (by decide) rfl R0_0_11 ?_
      refine rn_aload_n (k' := 13) rfl rfl rfl ?_
      refine rn_getR (k' := 14) rfl rfl K0_0 (by decide) rfl R0_0_2 ?_
      refine rn_getR (k' := 15) rfl rfl K0_5 (by decide) rfl R0_5_2 ?_
      refine rn_callP (k' := 16) (y := 12) (vs := [mR 82, mR 17]) (S' := []) (v := some (mI ((if (jr μ (tr (mub μ)) (μ 17 0).toNat).1 = 0 then -1 else (jr μ (tr (mub μ)) (μ 17 0).toNat).2.1)))) (h' := mkh (vrd M (jr μ (tr (mub μ)) (μ 17 0).toNat).1 (jr μ (tr (mub μ)) (μ 17 0).toNat).2.1 (fS (jh (jr μ (tr (mub μ)) (μ 17 0).toNat).2.2) (μ 6 13).toNat) (μ 14 4)) c s) rfl rfl rfl (hfo) ?_
      show Rn PT none kX11_judge 16 [some (mR 0), some (mI (1)), none] [mI ((if (jr μ (tr (mub μ)) (μ 17 0).toNat).1 = 0 then -1 else (jr μ (tr (mub μ)) (μ 17 0).toNat).2.1))] (mkh (vrd M (jr μ (tr (mub μ)) (μ 17 0).toNat).1 (jr μ (tr (mub μ)) (μ 17 0).toNat).2.1 (fS (jh (jr μ (tr (mub μ)) (μ 17 0).toNat).2.2) (μ 6 13).toNat) (μ 14 4)) c s) _
      refine rn_istore_n (k' := 17) (L' := [some (mR 0), some (mI (1)), some (mI ((if (jr μ (tr (mub μ)) (μ 17 0).toNat).1 = 0 then -1 else (jr μ (tr (mub μ)) (μ 17 0).toNat).2.1)))]) rfl rfl (Nat.le_of_ble_eq_true rfl) rfl ?_
      refine rn_iload_n (k' := 18) rfl rfl rfl ?_
      refine rn_iconst (k' := 19) rfl rfl ?_
      refine rn_icmp_ne (k' := 20) rfl rfl (fun hc3 => ?_) (fun hc3 => ?_)
      · exfalso; omega
      · skip
        refine rn_aload_n (k' := 21) rfl rfl rfl ?_
        refine rn_getR (k' := 22) rfl rfl K0_0 (by decide) rfl R0_0_11 ?_
        refine rn_getR (k' := 23) rfl rfl K0_82 (by decide) rfl R0_82_8 ?_
        refine rn_iconst (k' := 24) rfl rfl ?_
        refine rn_iaload (k' := 25) rfl rfl K0_87 (by omega) (by omega) ?_
        show Rn PT none kX11_judge 25 [some (mR 0), some (mI (1)), some (mI ((if (jr μ (tr (mub μ)) (μ 17 0).toNat).1 = 0 then -1 else (jr μ (tr (mub μ)) (μ 17 0).toNat).2.1)))] [mI ((vrd M (jr μ (tr (mub μ)) (μ 17 0).toNat).1 (jr μ (tr (mub μ)) (μ 17 0).toNat).2.1 (fS (jh (jr μ (tr (mub μ)) (μ 17 0).toNat).2.2) (μ 6 13).toNat) (μ 14 4)) 87 1)] (mkh (vrd M (jr μ (tr (mub μ)) (μ 17 0).toNat).1 (jr μ (tr (mub μ)) (μ 17 0).toNat).2.1 (fS (jh (jr μ (tr (mub μ)) (μ 17 0).toNat).2.2) (μ 6 13).toNat) (μ 14 4)) c s) _
        refine rn_if_le (k' := 26) rfl rfl (fun hc4 => ?_) (fun hc4 => ?_)
        · exfalso; omega
        · skip
          refine rn_aload_n (k' := 27) rfl rfl rfl ?_
          refine rn_getR (k' := 28) rfl rfl K0_0 (by decide) rfl R0_0_11 ?_
          refine rn_callP (k' := 29) (y := 2) (vs := [mR 82]) (S' := []) (v := none) (h' := mkh (stl (vrd M (jr μ (tr (mub μ)) (μ 17 0).toNat).1 (jr μ (tr (mub μ)) (μ 17 0).toNat).2.1 (fS (jh (jr μ (tr (mub μ)) (μ 17 0).toNat).2.2) (μ 6 13).toNat) (μ 14 4)) p) c s) rfl rfl rfl (c_settle (μ := (vrd M (jr μ (tr (mub μ)) (μ 17 0).toNat).1 (jr μ (tr (mub μ)) (μ 17 0).toNat).2.1 (fS (jh (jr μ (tr (mub μ)) (μ 17 0).toNat).2.2) (μ 6 13).toNat) (μ 14 4))) (c := c) (s := s) (p := p) h5 h6 hp5) ?_
          show Rn PT none kX11_judge 29 [some (mR 0), some (mI (1)), some (mI ((if (jr μ (tr (mub μ)) (μ 17 0).toNat).1 = 0 then -1 else (jr μ (tr (mub μ)) (μ 17 0).toNat).2.1)))] [] (mkh (stl (vrd M (jr μ (tr (mub μ)) (μ 17 0).toNat).1 (jr μ (tr (mub μ)) (μ 17 0).toNat).2.1 (fS (jh (jr μ (tr (mub μ)) (μ 17 0).toNat).2.2) (μ 6 13).toNat) (μ 14 4)) p) c s) _
          refine rn_iload_n (k' := 30) rfl rfl rfl ?_
          refine rn_iret rfl (Or.inl rfl) ?_
          rfl
    · exfalso; omega
theorem i_X11_judge {μ : Nat → Nat → Int} {c s : Nat} {a : Int} (hv : ¬ (0 ≤ a ∧ a ≤ 1)) : Cl PT 146 [mR 0, mI a] (mkh μ c s) (fun r => r = (some (some (mI (-2))), mkh μ c s)) := by
  refine ⟨_, PT_146, Nat.le_of_ble_eq_true rfl, ?_⟩
  show Rn PT none kX11_judge 0 [some (mR 0), some (mI (a)), none] [] (mkh μ c s) _
  refine rn_iload_n (k' := 1) rfl rfl rfl ?_
  refine rn_if_lt (k' := 2) rfl rfl (fun hc1 => ?_) (fun hc1 => ?_)
  · skip
    refine rn_bipush (k' := 6) rfl rfl ?_
    refine rn_iret rfl (Or.inl rfl) ?_
    rfl
  · skip
    refine rn_iload_n (k' := 3) rfl rfl rfl ?_
    refine rn_iconst (k' := 4) rfl rfl ?_
    refine rn_icmp_le (k' := 5) rfl rfl (fun hc2 => ?_) (fun hc2 => ?_)
    · exfalso; omega
    · skip
      refine rn_bipush (k' := 6) rfl rfl ?_
      refine rn_iret rfl (Or.inl rfl) ?_
      rfl
theorem i_X12_judge {μ : Nat → Nat → Int} {c s : Nat} {a : Int} (hv : ¬ (0 ≤ a ∧ a ≤ 1)) : Cl PT 268 [mR 118, mI a] (mkh μ c s) (fun r => r = (some (some (mI (-2))), mkh (m_set μ 118 0 0) c s)) := by
  refine ⟨_, PT_268, Nat.le_of_ble_eq_true rfl, ?_⟩
  show Rn PT none kX12_judge 0 [some (mR 118), some (mI (a)), none, none, none] [] (mkh μ c s) _
  refine rn_aload_n (k' := 1) rfl rfl rfl ?_
  refine rn_iconst (k' := 2) rfl rfl ?_
  refine rn_putI (k' := 3) rfl rfl K0_118 (by decide) rfl ?_
  refine rn_iload_n (k' := 4) rfl rfl rfl ?_
  refine rn_iconst (k' := 5) rfl rfl ?_
  refine rn_iconst (k' := 6) rfl rfl ?_
  by_cases hq2 : 0 ≤ a ∧ a ≤ 1
  · exfalso; omega
  · refine rn_callP (k' := 7) (y := 167) (vs := [mI (a), mI (0), mI (1)]) (S' := []) (v := some (mI 0)) (h' := mkh (m_set μ 118 0 (0)) c s) rfl rfl rfl (by have hz : Cl PT 167 [mI (a), mI (0), mI (1)] (mkh (m_set μ 118 0 (0)) c s) (fun r => r = (some (some (mI (if 0 ≤ a ∧ a ≤ 1 then 1 else 0))), mkh (m_set μ 118 0 (0)) c s)) := c_X12_isIn (v := a) (lo := 0) (hi := 1) (μ := (m_set μ 118 0 (0))) (c := c) (s := s); rw [if_neg hq2] at hz; exact hz) ?_
    show Rn PT none kX12_judge 7 [some (mR 118), some (mI (a)), none, none, none] [mI (0)] (mkh (m_set μ 118 0 (0)) c s) _
    refine rn_if_ne (k' := 8) rfl rfl (fun hc3 => ?_) (fun hc3 => ?_)
    · exfalso; omega
    · skip
      refine rn_bipush (k' := 9) rfl rfl ?_
      refine rn_iret rfl (Or.inl rfl) ?_
      rfl
/-- the model's row tells the state s, else it is as before -/
def MS (n : Int) (o120 : Nat → Int) (s : JT) (T : Nat → Int) : Prop := T 517 = jd s ∧ (∀ j : Nat, (j : Int) < n → T (518 + j) = jc s j ∧ T (526 + j) = jh s j) ∧ (¬ jw s = -1 → T 534 = jw s) ∧ T 535 = jt s ∧ ∀ k, (k < 517 ∨ 535 < k) → T k = o120 k
def frm (μ ν : Nat → Nat → Int) : Prop := (∀ b, ¬ b = 118 → ¬ b = 120 → ¬ b = 125 → ¬ b = 126 → ¬ b = 136 → ν b = μ b) ∧ ∀ j, ¬ j = 22 → ¬ j = 23 → ν 118 j = μ 118 j
theorem frm.refl {μ : Nat → Nat → Int} : frm μ μ := ⟨fun _ _ _ _ _ _ => rfl, fun _ _ _ => rfl⟩
theorem frm.trans {μ M M' : Nat → Nat → Int} (h : frm μ M) (h' : frm M M') : frm μ M' := ⟨fun b a1 a2 a3 a4 a5 => (h'.1 b a1 a2 a3 a4 a5).trans (h.1 b a1 a2 a3 a4 a5), fun j a1 a2 => (h'.2 j a1 a2).trans (h.2 j a1 a2)⟩
theorem frm.upd {μ M : Nat → Nat → Int} (h : frm μ M) {b : Nat} {f : Nat → Int} (hb : b = 120 ∨ b = 125 ∨ b = 126 ∨ b = 136) : frm μ (m_upd M b f) := ⟨fun a a1 a2 a3 a4 a5 => by rw [row_upd (by omega)]; exact h.1 a a1 a2 a3 a4 a5, fun j a1 a2 => by rw [row_upd (by omega)]; exact h.2 j a1 a2⟩
theorem frm.set {μ M : Nat → Nat → Int} (h : frm μ M) {b j : Nat} {v : Int} (hb : b = 120 ∨ b = 125 ∨ b = 126 ∨ b = 136) : frm μ (m_set M b j v) := ⟨fun a a1 a2 a3 a4 a5 => by rw [row_set (by omega)]; exact h.1 a a1 a2 a3 a4 a5, fun j a1 a2 => by rw [row_set (by omega)]; exact h.2 j a1 a2⟩
theorem frm.setw {μ M : Nat → Nat → Int} (h : frm μ M) {j : Nat} {v : Int} (hb : j = 22 ∨ j = 23) : frm μ (m_set M 118 j v) := ⟨fun a a1 a2 a3 a4 a5 => by rw [row_set (by omega)]; exact h.1 a a1 a2 a3 a4 a5, fun i a1 a2 => by rw [m_set_ne _ _ (by omega)]; exact h.2 i a1 a2⟩
/-- behind a line of the model: the row, steps, taken -/
def MD (μ ν : Nat → Nat → Int) (o120 : Nat → Int) (t0 : Int) (s : JT) : Prop := MS (μ 6 13) o120 s (ν 120) ∧ ν 136 4 = js s ∧ ν 136 5 = jt s - t0 ∧ (∀ j, ¬ j = 4 → ¬ j = 5 → ν 136 j = μ 136 j) ∧ frm μ ν
set_option maxHeartbeats 4000000 in
theorem c_does_go_n {μ : Nat → Nat → Int} {c s : Nat} (hL : I_land μ) {T S t0 : Int} (hT : T ≤ 900000) (hS : S ≤ 90000) {s0 : JT} (hs : jOK μ T S s0) {o120 : Nat → Int} (hM : MS (μ 6 13) o120 s0 (μ 120)) (h4 : μ 136 4 = js s0) (h5 : μ 136 5 = jt s0 - t0) (ht0 : 0 ≤ t0 ∧ t0 ≤ 900000) (hwf : jw s0 = -1 ↔ μ 6 14 = -1) {h : Nat} {a : Int} (hh : (h : Int) < μ 6 13) (ht : g_cell μ a) (hc : jst μ h a s0 = -1) : Cl PT 267 [mR 118, mI 0, mI (h : Int), mI a] (mkh μ c s) (fun r => ∃ ν, r = (some (some (mI 1)), mkh ν c s) ∧ MD μ ν o120 t0 s0) := by
  have hL_ := hL
  obtain ⟨lc, lr, le, lm, lw, lh, lwo, lwd, q0, q1, q2, q3, q4, q8, q499, q500, lth, lG, lT, lW, -⟩ := hL_
  have hs_ := hs
  obtain ⟨a1, a2, a3, a4, a5, a6⟩ := hs_
  have hM_ := hM
  obtain ⟨m1, m2, m3, m4, m5⟩ := hM_
  have hh2 := m2 h hh
  have hg0 := a2 h hh
  rw [← hh2.1] at hg0
  have he0 := a3 h hh
  rw [← hh2.2] at he0
  have hd0 : 0 ≤ μ 120 517 ∧ μ 120 517 ≤ 29 := by rw [m1]; exact a1
  have esj : g_steps μ (μ 120 (518 + h)) a (g_st μ (μ 120 (526 + h))) (g_w μ 0 (μ 120 517)) = jst μ h a s0 := by rw [hh2.1, hh2.2, m1]
  refine ⟨_, PT_267, Nat.le_of_ble_eq_true rfl, ?_⟩
  show Rn PT none kX12_does 0 [some (mR 118), some (mI (0)), some (mI ((h : Int))), some (mI (a)), none, none] [] (mkh μ c s) _
  refine rn_iconst (k' := 1) rfl rfl ?_
  refine rn_istore (k' := 2) (L' := [some (mR 118), some (mI (0)), some (mI ((h : Int))), some (mI (a)), some (mI (0)), none]) rfl rfl (Nat.le_of_ble_eq_true rfl) rfl ?_
  refine rn_iload_n (k' := 3) rfl rfl rfl ?_
  rcases (show ((0 : Int) < 0 ∨ 3 < (0 : Int)) ∨ (0 : Int) = 0 ∨ (0 : Int) = 1 ∨ (0 : Int) = 2 ∨ (0 : Int) = 3 by omega) with hs1 | hs1 | hs1 | hs1 | hs1
  · exfalso; omega
  · refine rn_swI (j := 0) (t' := 4) rfl (by omega) rfl ?_
    refine rn_aload_n (k' := 5) rfl rfl rfl ?_
    refine rn_iload_n (k' := 6) rfl rfl rfl ?_
    refine rn_iload_n (k' := 7) rfl rfl rfl ?_
    obtain ⟨F2, q2, hcl2⟩ := c_gone (μ := μ) (c := c) (s := s) (hL) (h := h) (to := a) (by omega) (by assumption) (by show 0 ≤ μ 120 517 ∧ μ 120 517 ≤ 29; omega) (by assumption) (by show 0 ≤ μ 120 (526 + h) ∧ μ 120 (526 + h) ≤ 99; omega)
    have hsb2 := g_steps_b hL (a := μ 120 (518 + h)) (b := a) (t := g_st μ (μ 120 (526 + h))) (w := g_w μ 0 (μ 120 517)) (by assumption)
    refine rn_callP (k' := 8) (y := 240) (vs := [mR 118, mI ((h : Int)), mI (a)]) (S' := []) (v := some (mI (g_steps μ (μ 120 (518 + h)) a (g_st μ (μ 120 (526 + h))) (g_w μ 0 (μ 120 517))))) (h' := mkh (m_upd (m_upd (m_set (m_set μ 118 22 (g_w μ 0 (μ 120 517))) 118 23 (g_w μ 1 (μ 120 517))) 125 F2) 126 q2) c s) rfl rfl rfl (hcl2) ?_
    show Rn PT none kX12_does 8 [some (mR 118), some (mI (0)), some (mI ((h : Int))), some (mI (a)), some (mI (0)), none] [mI (g_steps μ (μ 120 (518 + h)) a (g_st μ (μ 120 (526 + h))) (g_w μ 0 (μ 120 517)))] (mkh (m_upd (m_upd (m_set (m_set μ 118 22 (g_w μ 0 (μ 120 517))) 118 23 (g_w μ 1 (μ 120 517))) 125 F2) 126 q2) c s) _
    refine rn_istore (k' := 9) (L' := [some (mR 118), some (mI (0)), some (mI ((h : Int))), some (mI (a)), some (mI (0)), some (mI (g_steps μ (μ 120 (518 + h)) a (g_st μ (μ 120 (526 + h))) (g_w μ 0 (μ 120 517))))]) rfl rfl (Nat.le_of_ble_eq_true rfl) rfl ?_
    refine rn_iload (k' := 10) rfl rfl rfl ?_
    refine rn_if_ge (k' := 11) rfl rfl (fun hc3 => ?_) (fun hc3 => ?_)
    · exfalso; omega
    · skip
      refine rn_iconst (k' := 12) rfl rfl ?_
      refine rn_iret rfl (Or.inl rfl) ?_
      exact ⟨(m_upd (m_upd (m_set (m_set μ 118 22 (g_w μ 0 (μ 120 517))) 118 23 (g_w μ 1 (μ 120 517))) 125 F2) 126 q2), rfl, hM, h4, h5, fun _ _ _ => rfl, ((((frm.refl).setw (by omega)).setw (by omega)).upd (by omega)).upd (by omega)⟩
  · exfalso; omega
  · exfalso; omega
  · exfalso; omega
set_option maxHeartbeats 4000000 in
theorem c_does_go_y {μ : Nat → Nat → Int} {c s : Nat} (hL : I_land μ) {T S t0 : Int} (hT : T ≤ 900000) (hS : S ≤ 90000) {s0 : JT} (hs : jOK μ T S s0) {o120 : Nat → Int} (hM : MS (μ 6 13) o120 s0 (μ 120)) (h4 : μ 136 4 = js s0) (h5 : μ 136 5 = jt s0 - t0) (ht0 : 0 ≤ t0 ∧ t0 ≤ 900000) (hwf : jw s0 = -1 ↔ μ 6 14 = -1) {h : Nat} {a : Int} (hh : (h : Int) < μ 6 13) (ht : g_cell μ a) (hc : ¬ jst μ h a s0 = -1) : Cl PT 267 [mR 118, mI 0, mI (h : Int), mI a] (mkh μ c s) (fun r => ∃ ν, r = (some (some (mI 0)), mkh ν c s) ∧ MD μ ν o120 t0 (jd s0, fs (jc s0) h a, jh s0, jw s0, jt s0, js s0 + jst μ h a s0)) := by
  have hL_ := hL
  obtain ⟨lc, lr, le, lm, lw, lh, lwo, lwd, q0, q1, q2, q3, q4, q8, q499, q500, lth, lG, lT, lW, -⟩ := hL_
  have hs_ := hs
  obtain ⟨a1, a2, a3, a4, a5, a6⟩ := hs_
  have hM_ := hM
  obtain ⟨m1, m2, m3, m4, m5⟩ := hM_
  have hh2 := m2 h hh
  have hg0 := a2 h hh
  rw [← hh2.1] at hg0
  have he0 := a3 h hh
  rw [← hh2.2] at he0
  have hd0 : 0 ≤ μ 120 517 ∧ μ 120 517 ≤ 29 := by rw [m1]; exact a1
  have esj : g_steps μ (μ 120 (518 + h)) a (g_st μ (μ 120 (526 + h))) (g_w μ 0 (μ 120 517)) = jst μ h a s0 := by rw [hh2.1, hh2.2, m1]
  have a6 : 0 ≤ js s0 ∧ js s0 ≤ S := a6
  refine ⟨_, PT_267, Nat.le_of_ble_eq_true rfl, ?_⟩
  show Rn PT none kX12_does 0 [some (mR 118), some (mI (0)), some (mI ((h : Int))), some (mI (a)), none, none] [] (mkh μ c s) _
  refine rn_iconst (k' := 1) rfl rfl ?_
  refine rn_istore (k' := 2) (L' := [some (mR 118), some (mI (0)), some (mI ((h : Int))), some (mI (a)), some (mI (0)), none]) rfl rfl (Nat.le_of_ble_eq_true rfl) rfl ?_
  refine rn_iload_n (k' := 3) rfl rfl rfl ?_
  rcases (show ((0 : Int) < 0 ∨ 3 < (0 : Int)) ∨ (0 : Int) = 0 ∨ (0 : Int) = 1 ∨ (0 : Int) = 2 ∨ (0 : Int) = 3 by omega) with hs1 | hs1 | hs1 | hs1 | hs1
  · exfalso; omega
  · refine rn_swI (j := 0) (t' := 4) rfl (by omega) rfl ?_
    refine rn_aload_n (k' := 5) rfl rfl rfl ?_
    refine rn_iload_n (k' := 6) rfl rfl rfl ?_
    refine rn_iload_n (k' := 7) rfl rfl rfl ?_
    obtain ⟨F2, q2, hcl2⟩ := c_gone (μ := μ) (c := c) (s := s) (hL) (h := h) (to := a) (by omega) (by assumption) (by show 0 ≤ μ 120 517 ∧ μ 120 517 ≤ 29; omega) (by assumption) (by show 0 ≤ μ 120 (526 + h) ∧ μ 120 (526 + h) ≤ 99; omega)
    have hsb2 := g_steps_b hL (a := μ 120 (518 + h)) (b := a) (t := g_st μ (μ 120 (526 + h))) (w := g_w μ 0 (μ 120 517)) (by assumption)
    refine rn_callP (k' := 8) (y := 240) (vs := [mR 118, mI ((h : Int)), mI (a)]) (S' := []) (v := some (mI (g_steps μ (μ 120 (518 + h)) a (g_st μ (μ 120 (526 + h))) (g_w μ 0 (μ 120 517))))) (h' := mkh (m_upd (m_upd (m_set (m_set μ 118 22 (g_w μ 0 (μ 120 517))) 118 23 (g_w μ 1 (μ 120 517))) 125 F2) 126 q2) c s) rfl rfl rfl (hcl2) ?_
    show Rn PT none kX12_does 8 [some (mR 118), some (mI (0)), some (mI ((h : Int))), some (mI (a)), some (mI (0)), none] [mI (g_steps μ (μ 120 (518 + h)) a (g_st μ (μ 120 (526 + h))) (g_w μ 0 (μ 120 517)))] (mkh (m_upd (m_upd (m_set (m_set μ 118 22 (g_w μ 0 (μ 120 517))) 118 23 (g_w μ 1 (μ 120 517))) 125 F2) 126 q2) c s) _
    refine rn_istore (k' := 9) (L' := [some (mR 118), some (mI (0)), some (mI ((h : Int))), some (mI (a)), some (mI (0)), some (mI (g_steps μ (μ 120 (518 + h)) a (g_st μ (μ 120 (526 + h))) (g_w μ 0 (μ 120 517))))]) rfl rfl (Nat.le_of_ble_eq_true rfl) rfl ?_
    refine rn_iload (k' := 10) rfl rfl rfl ?_
    refine rn_if_ge (k' := 11) rfl rfl (fun hc3 => ?_) (fun hc3 => ?_)
    · skip
      refine rn_aload_n (k' := 14) rfl rfl rfl ?_
      refine rn_getR (k' := 15) rfl rfl K0_118 (by decide) rfl R0_118_42 ?_
      refine rn_iconst (k' := 16) rfl rfl ?_
      refine rn_dup2 (k' := 17) rfl rfl ?_
      refine rn_iaload (k' := 18) rfl rfl K0_136 (by omega) (by omega) ?_
      show Rn PT none kX12_does 18 [some (mR 118), some (mI (0)), some (mI ((h : Int))), some (mI (a)), some (mI (0)), some (mI (g_steps μ (μ 120 (518 + h)) a (g_st μ (μ 120 (526 + h))) (g_w μ 0 (μ 120 517))))] [mI (μ 136 4), mI (4), mR 136] (mkh (m_upd (m_upd (m_set (m_set μ 118 22 (g_w μ 0 (μ 120 517))) 118 23 (g_w μ 1 (μ 120 517))) 125 F2) 126 q2) c s) _
      refine rn_iload (k' := 19) rfl rfl rfl ?_
      refine rn_iadd (k' := 20) rfl rfl (by omega) ?_
      refine rn_iastore (k' := 21) rfl rfl K0_136 (by omega) (by omega) ?_
      refine rn_aload_n (k' := 22) rfl rfl rfl ?_
      refine rn_getR (k' := 23) rfl rfl K0_118 (by decide) rfl R0_118_6 ?_
      refine rn_sipush (k' := 24) rfl rfl ?_
      refine rn_iload_n (k' := 25) rfl rfl rfl ?_
      refine rn_iadd (k' := 26) rfl rfl (by omega) ?_
      refine rn_iload_n (k' := 27) rfl rfl rfl ?_
      refine rn_iastore (k' := 28) rfl rfl K0_120 (by omega) (by omega) ?_
      refine rn_iconst (k' := 29) rfl rfl ?_
      refine rn_iret rfl (Or.inl rfl) ?_
      refine ⟨(m_set (m_set (m_upd (m_upd (m_set (m_set μ 118 22 (g_w μ 0 (μ 120 517))) 118 23 (g_w μ 1 (μ 120 517))) 125 F2) 126 q2) 136 4 ((μ 136 4) + (g_steps μ (μ 120 (518 + h)) a (g_st μ (μ 120 (526 + h))) (g_w μ 0 (μ 120 517))))) 120 (518 + h) (a)), rfl, ⟨?_, fun j hj => ?_, fun z => ?_, ?_, fun k hk => ?_⟩, ?_, h5, fun j j1 j2 => ?_, ((((((frm.refl).setw (by omega)).setw (by omega)).upd (by omega)).upd (by omega)).set (by omega)).set (by omega)⟩
      · rw [row_set_eq, fs_ne (by omega)]; exact m1
      · rw [row_set_eq]
        refine ⟨?_, ?_⟩
        · show fs (μ 120) (518 + h) a (518 + j) = fs (jc s0) h a j
          unfold fs
          by_cases e : j = h
          · rw [if_pos (by omega), if_pos e]
          · rw [if_neg (by omega), if_neg e]; exact (m2 j hj).1
        · rw [fs_ne (by omega)]; exact (m2 j hj).2
      · rw [row_set_eq, fs_ne (by omega)]; exact m3 z
      · rw [row_set_eq, fs_ne (by omega)]; exact m4
      · rw [row_set_eq, fs_ne (by omega)]; exact m5 k hk
      · show μ 136 4 + g_steps μ (μ 120 (518 + h)) a (g_st μ (μ 120 (526 + h))) (g_w μ 0 (μ 120 517)) = _
        rw [h4, esj]
      · rw [row_set (by decide), row_set_eq, fs_ne j1]
        rfl
    · exfalso; omega
  · exfalso; omega
  · exfalso; omega
  · exfalso; omega
set_option maxHeartbeats 4000000 in
theorem c_does_tr0_n {μ : Nat → Nat → Int} {c s : Nat} (hL : I_land μ) {T S t0 : Int} (hT : T ≤ 900000) (hS : S ≤ 90000) {s0 : JT} (hs : jOK μ T S s0) {o120 : Nat → Int} (hM : MS (μ 6 13) o120 s0 (μ 120)) (h4 : μ 136 4 = js s0) (h5 : μ 136 5 = jt s0 - t0) (ht0 : 0 ≤ t0 ∧ t0 ≤ 900000) (hwf : jw s0 = -1 ↔ μ 6 14 = -1) {h : Nat} {a : Int} (hh : (h : Int) < μ 6 13) (hn : 1 ≤ a ∧ a ≤ 99) (hc : jh s0 h < a) : Cl PT 267 [mR 118, mI 1, mI (h : Int), mI a] (mkh μ c s) (fun r => ∃ ν, r = (some (some (mI 2)), mkh ν c s) ∧ MD μ ν o120 t0 s0) := by
  have hL_ := hL
  obtain ⟨lc, lr, le, lm, lw, lh, lwo, lwd, q0, q1, q2, q3, q4, q8, q499, q500, lth, lG, lT, lW, -⟩ := hL_
  have hs_ := hs
  obtain ⟨a1, a2, a3, a4, a5, a6⟩ := hs_
  have hM_ := hM
  obtain ⟨m1, m2, m3, m4, m5⟩ := hM_
  have hh2 := m2 h hh
  have hg0 := a2 h hh
  rw [← hh2.1] at hg0
  have he0 := a3 h hh
  rw [← hh2.2] at he0
  have hd0 : 0 ≤ μ 120 517 ∧ μ 120 517 ≤ 29 := by rw [m1]; exact a1
  have hraw : μ 120 (526 + h) < a := by rw [hh2.2]; exact hc
  refine ⟨_, PT_267, Nat.le_of_ble_eq_true rfl, ?_⟩
  show Rn PT none kX12_does 0 [some (mR 118), some (mI (1)), some (mI ((h : Int))), some (mI (a)), none, none] [] (mkh μ c s) _
  refine rn_iconst (k' := 1) rfl rfl ?_
  refine rn_istore (k' := 2) (L' := [some (mR 118), some (mI (1)), some (mI ((h : Int))), some (mI (a)), some (mI (0)), none]) rfl rfl (Nat.le_of_ble_eq_true rfl) rfl ?_
  refine rn_iload_n (k' := 3) rfl rfl rfl ?_
  rcases (show ((1 : Int) < 0 ∨ 3 < (1 : Int)) ∨ (1 : Int) = 0 ∨ (1 : Int) = 1 ∨ (1 : Int) = 2 ∨ (1 : Int) = 3 by omega) with hs1 | hs1 | hs1 | hs1 | hs1
  · exfalso; omega
  · exfalso; omega
  · refine rn_swI (j := 1) (t' := 30) rfl (by omega) rfl ?_
    refine rn_aload_n (k' := 31) rfl rfl rfl ?_
    refine rn_iload_n (k' := 32) rfl rfl rfl ?_
    refine rn_iload_n (k' := 33) rfl rfl rfl ?_
    refine rn_iload_n (k' := 34) rfl rfl rfl ?_
    refine rn_iconst (k' := 35) rfl rfl ?_
    refine rn_icmp_ne (k' := 36) rfl rfl (fun hc2 => ?_) (fun hc2 => ?_)
    · skip
      refine rn_iconst (k' := 39) rfl rfl ?_
      refine rn_callP (k' := 40) (y := 242) (vs := [mR 118, mI ((h : Int)), mI (a), mI (0)]) (S' := []) (v := some (mI (2))) (h' := mkh μ c s) rfl rfl rfl (c_why0_0 (μ := μ) (c := c) (s := s) (h := h) (n := a) (by omega) he0 hn hraw) ?_
      show Rn PT none kX12_does 40 [some (mR 118), some (mI (1)), some (mI ((h : Int))), some (mI (a)), some (mI (0)), none] [mI (2)] (mkh μ c s) _
      refine rn_istore (k' := 41) (L' := [some (mR 118), some (mI (1)), some (mI ((h : Int))), some (mI (a)), some (mI (2)), none]) rfl rfl (Nat.le_of_ble_eq_true rfl) rfl ?_
      refine rn_iload (k' := 42) rfl rfl rfl ?_
      refine rn_if_ne (k' := 43) rfl rfl (fun hc3 => ?_) (fun hc3 => ?_)
      · skip
        refine rn_iload (k' := 60) rfl rfl rfl ?_
        refine rn_iret rfl (Or.inl rfl) ?_
        exact ⟨μ, rfl, hM, h4, h5, fun _ _ _ => rfl, frm.refl⟩
      · exfalso; omega
    · exfalso; omega
  · exfalso; omega
  · exfalso; omega
set_option maxHeartbeats 4000000 in
theorem c_does_tr0_y {μ : Nat → Nat → Int} {c s : Nat} (hL : I_land μ) {T S t0 : Int} (hT : T ≤ 900000) (hS : S ≤ 90000) {s0 : JT} (hs : jOK μ T S s0) {o120 : Nat → Int} (hM : MS (μ 6 13) o120 s0 (μ 120)) (h4 : μ 136 4 = js s0) (h5 : μ 136 5 = jt s0 - t0) (ht0 : 0 ≤ t0 ∧ t0 ≤ 900000) (hwf : jw s0 = -1 ↔ μ 6 14 = -1) {h : Nat} {a : Int} (hh : (h : Int) < μ 6 13) (hn : 1 ≤ a ∧ a ≤ 99) (hc : ¬ jh s0 h < a) : Cl PT 267 [mR 118, mI 1, mI (h : Int), mI a] (mkh μ c s) (fun r => ∃ ν, r = (some (some (mI 0)), mkh ν c s) ∧ MD μ ν o120 t0 (jd s0, jc s0, fs (jh s0) h (jh s0 h - a), jw s0, jt s0, js s0)) := by
  have hL_ := hL
  obtain ⟨lc, lr, le, lm, lw, lh, lwo, lwd, q0, q1, q2, q3, q4, q8, q499, q500, lth, lG, lT, lW, -⟩ := hL_
  have hs_ := hs
  obtain ⟨a1, a2, a3, a4, a5, a6⟩ := hs_
  have hM_ := hM
  obtain ⟨m1, m2, m3, m4, m5⟩ := hM_
  have hh2 := m2 h hh
  have hg0 := a2 h hh
  rw [← hh2.1] at hg0
  have he0 := a3 h hh
  rw [← hh2.2] at he0
  have hd0 : 0 ≤ μ 120 517 ∧ μ 120 517 ≤ 29 := by rw [m1]; exact a1
  have hraw : ¬ μ 120 (526 + h) < a := by rw [hh2.2]; exact hc
  refine ⟨_, PT_267, Nat.le_of_ble_eq_true rfl, ?_⟩
  show Rn PT none kX12_does 0 [some (mR 118), some (mI (1)), some (mI ((h : Int))), some (mI (a)), none, none] [] (mkh μ c s) _
  refine rn_iconst (k' := 1) rfl rfl ?_
  refine rn_istore (k' := 2) (L' := [some (mR 118), some (mI (1)), some (mI ((h : Int))), some (mI (a)), some (mI (0)), none]) rfl rfl (Nat.le_of_ble_eq_true rfl) rfl ?_
  refine rn_iload_n (k' := 3) rfl rfl rfl ?_
  rcases (show ((1 : Int) < 0 ∨ 3 < (1 : Int)) ∨ (1 : Int) = 0 ∨ (1 : Int) = 1 ∨ (1 : Int) = 2 ∨ (1 : Int) = 3 by omega) with hs1 | hs1 | hs1 | hs1 | hs1
  · exfalso; omega
  · exfalso; omega
  · refine rn_swI (j := 1) (t' := 30) rfl (by omega) rfl ?_
    refine rn_aload_n (k' := 31) rfl rfl rfl ?_
    refine rn_iload_n (k' := 32) rfl rfl rfl ?_
    refine rn_iload_n (k' := 33) rfl rfl rfl ?_
    refine rn_iload_n (k' := 34) rfl rfl rfl ?_
    refine rn_iconst (k' := 35) rfl rfl ?_
    refine rn_icmp_ne (k' := 36) rfl rfl (fun hc2 => ?_) (fun hc2 => ?_)
    · skip
      refine rn_iconst (k' := 39) rfl rfl ?_
      refine rn_callP (k' := 40) (y := 242) (vs := [mR 118, mI ((h : Int)), mI (a), mI (0)]) (S' := []) (v := some (mI (0))) (h' := mkh μ c s) rfl rfl rfl (c_why0_1 (μ := μ) (c := c) (s := s) (h := h) (n := a) (by omega) he0 hn hraw) ?_
      show Rn PT none kX12_does 40 [some (mR 118), some (mI (1)), some (mI ((h : Int))), some (mI (a)), some (mI (0)), none] [mI (0)] (mkh μ c s) _
      refine rn_istore (k' := 41) (L' := [some (mR 118), some (mI (1)), some (mI ((h : Int))), some (mI (a)), some (mI (0)), none]) rfl rfl (Nat.le_of_ble_eq_true rfl) rfl ?_
      refine rn_iload (k' := 42) rfl rfl rfl ?_
      refine rn_if_ne (k' := 43) rfl rfl (fun hc3 => ?_) (fun hc3 => ?_)
      · exfalso; omega
      · skip
        refine rn_aload_n (k' := 44) rfl rfl rfl ?_
        refine rn_getR (k' := 45) rfl rfl K0_118 (by decide) rfl R0_118_6 ?_
        refine rn_sipush (k' := 46) rfl rfl ?_
        refine rn_iload_n (k' := 47) rfl rfl rfl ?_
        refine rn_iadd (k' := 48) rfl rfl (by omega) ?_
        refine rn_dup2 (k' := 49) rfl rfl ?_
        refine rn_iaload (k' := 50) rfl rfl K0_120 (by omega) (by omega) ?_
        show Rn PT none kX12_does 50 [some (mR 118), some (mI (1)), some (mI ((h : Int))), some (mI (a)), some (mI (0)), none] [mI (μ 120 (526 + h)), mI (526 + (h : Int)), mR 120] (mkh μ c s) _
        refine rn_iload_n (k' := 51) rfl rfl rfl ?_
        refine rn_iconst (k' := 52) rfl rfl ?_
        refine rn_icmp_ne (k' := 53) rfl rfl (fun hc4 => ?_) (fun hc4 => ?_)
        · skip
          refine rn_iload_n (k' := 56) rfl rfl rfl ?_
          refine rn_ineg (k' := 57) rfl rfl (by omega) ?_
          refine rn_iadd (k' := 58) rfl rfl (by omega) ?_
          refine rn_iastore (k' := 59) rfl rfl K0_120 (by omega) (by omega) ?_
          refine rn_iload (k' := 60) rfl rfl rfl ?_
          refine rn_iret rfl (Or.inl rfl) ?_
          refine ⟨(m_set μ 120 (526 + h) ((μ 120 (526 + h)) + (-(a)))), rfl, ⟨?_, fun j hj => ?_, fun z => ?_, ?_, fun k hk => ?_⟩, h4, h5, fun _ _ _ => rfl, (frm.refl).set (by omega)⟩
          · rw [row_set_eq, fs_ne (by omega)]; exact m1
          · rw [row_set_eq]
            refine ⟨?_, ?_⟩
            · rw [fs_ne (by omega)]; exact (m2 j hj).1
            · show fs (μ 120) (526 + h) _ (526 + j) = fs (jh s0) h (jh s0 h - a) j
              unfold fs
              by_cases e : j = h
              · rw [if_pos (by omega), if_pos e, hh2.2]; omega
              · rw [if_neg (by omega), if_neg e]; exact (m2 j hj).2
          · rw [row_set_eq, fs_ne (by omega)]; exact m3 z
          · rw [row_set_eq, fs_ne (by omega)]; exact m4
          · rw [row_set_eq, fs_ne (by omega)]; exact m5 k hk
        · exfalso; omega
    · exfalso; omega
  · exfalso; omega
  · exfalso; omega
set_option maxHeartbeats 4000000 in
theorem c_does_tr1_n {μ : Nat → Nat → Int} {c s : Nat} (hL : I_land μ) {T S t0 : Int} (hT : T ≤ 900000) (hS : S ≤ 90000) {s0 : JT} (hs : jOK μ T S s0) {o120 : Nat → Int} (hM : MS (μ 6 13) o120 s0 (μ 120)) (h4 : μ 136 4 = js s0) (h5 : μ 136 5 = jt s0 - t0) (ht0 : 0 ≤ t0 ∧ t0 ≤ 900000) (hwf : jw s0 = -1 ↔ μ 6 14 = -1) {h : Nat} {a : Int} (hh : (h : Int) < μ 6 13) (hn : 1 ≤ a ∧ a ≤ 99) (hc : 99 < jh s0 h + a) : Cl PT 267 [mR 118, mI 2, mI (h : Int), mI a] (mkh μ c s) (fun r => ∃ ν, r = (some (some (mI 3)), mkh ν c s) ∧ MD μ ν o120 t0 s0) := by
  have hL_ := hL
  obtain ⟨lc, lr, le, lm, lw, lh, lwo, lwd, q0, q1, q2, q3, q4, q8, q499, q500, lth, lG, lT, lW, -⟩ := hL_
  have hs_ := hs
  obtain ⟨a1, a2, a3, a4, a5, a6⟩ := hs_
  have hM_ := hM
  obtain ⟨m1, m2, m3, m4, m5⟩ := hM_
  have hh2 := m2 h hh
  have hg0 := a2 h hh
  rw [← hh2.1] at hg0
  have he0 := a3 h hh
  rw [← hh2.2] at he0
  have hd0 : 0 ≤ μ 120 517 ∧ μ 120 517 ≤ 29 := by rw [m1]; exact a1
  have hraw : 99 < μ 120 (526 + h) + a := by rw [hh2.2]; exact hc
  refine ⟨_, PT_267, Nat.le_of_ble_eq_true rfl, ?_⟩
  show Rn PT none kX12_does 0 [some (mR 118), some (mI (2)), some (mI ((h : Int))), some (mI (a)), none, none] [] (mkh μ c s) _
  refine rn_iconst (k' := 1) rfl rfl ?_
  refine rn_istore (k' := 2) (L' := [some (mR 118), some (mI (2)), some (mI ((h : Int))), some (mI (a)), some (mI (0)), none]) rfl rfl (Nat.le_of_ble_eq_true rfl) rfl ?_
  refine rn_iload_n (k' := 3) rfl rfl rfl ?_
  rcases (show ((2 : Int) < 0 ∨ 3 < (2 : Int)) ∨ (2 : Int) = 0 ∨ (2 : Int) = 1 ∨ (2 : Int) = 2 ∨ (2 : Int) = 3 by omega) with hs1 | hs1 | hs1 | hs1 | hs1
  · exfalso; omega
  · exfalso; omega
  · exfalso; omega
  · refine rn_swI (j := 2) (t' := 30) rfl (by omega) rfl ?_
    refine rn_aload_n (k' := 31) rfl rfl rfl ?_
    refine rn_iload_n (k' := 32) rfl rfl rfl ?_
    refine rn_iload_n (k' := 33) rfl rfl rfl ?_
    refine rn_iload_n (k' := 34) rfl rfl rfl ?_
    refine rn_iconst (k' := 35) rfl rfl ?_
    refine rn_icmp_ne (k' := 36) rfl rfl (fun hc2 => ?_) (fun hc2 => ?_)
    · exfalso; omega
    · skip
      refine rn_iconst (k' := 37) rfl rfl ?_
      refine rn_goto rfl ?_
      refine rn_callP (k' := 40) (y := 242) (vs := [mR 118, mI ((h : Int)), mI (a), mI (1)]) (S' := []) (v := some (mI (3))) (h' := mkh μ c s) rfl rfl rfl (c_why1_0 (μ := μ) (c := c) (s := s) (h := h) (n := a) (by omega) he0 hn hraw) ?_
      show Rn PT none kX12_does 40 [some (mR 118), some (mI (2)), some (mI ((h : Int))), some (mI (a)), some (mI (0)), none] [mI (3)] (mkh μ c s) _
      refine rn_istore (k' := 41) (L' := [some (mR 118), some (mI (2)), some (mI ((h : Int))), some (mI (a)), some (mI (3)), none]) rfl rfl (Nat.le_of_ble_eq_true rfl) rfl ?_
      refine rn_iload (k' := 42) rfl rfl rfl ?_
      refine rn_if_ne (k' := 43) rfl rfl (fun hc3 => ?_) (fun hc3 => ?_)
      · skip
        refine rn_iload (k' := 60) rfl rfl rfl ?_
        refine rn_iret rfl (Or.inl rfl) ?_
        exact ⟨μ, rfl, hM, h4, h5, fun _ _ _ => rfl, frm.refl⟩
      · exfalso; omega
  · exfalso; omega
set_option maxHeartbeats 4000000 in
theorem c_does_tr1_y {μ : Nat → Nat → Int} {c s : Nat} (hL : I_land μ) {T S t0 : Int} (hT : T ≤ 900000) (hS : S ≤ 90000) {s0 : JT} (hs : jOK μ T S s0) {o120 : Nat → Int} (hM : MS (μ 6 13) o120 s0 (μ 120)) (h4 : μ 136 4 = js s0) (h5 : μ 136 5 = jt s0 - t0) (ht0 : 0 ≤ t0 ∧ t0 ≤ 900000) (hwf : jw s0 = -1 ↔ μ 6 14 = -1) {h : Nat} {a : Int} (hh : (h : Int) < μ 6 13) (hn : 1 ≤ a ∧ a ≤ 99) (hc : ¬ 99 < jh s0 h + a) : Cl PT 267 [mR 118, mI 2, mI (h : Int), mI a] (mkh μ c s) (fun r => ∃ ν, r = (some (some (mI 0)), mkh ν c s) ∧ MD μ ν o120 t0 (jd s0, jc s0, fs (jh s0) h (jh s0 h + a), jw s0, jt s0, js s0)) := by
  have hL_ := hL
  obtain ⟨lc, lr, le, lm, lw, lh, lwo, lwd, q0, q1, q2, q3, q4, q8, q499, q500, lth, lG, lT, lW, -⟩ := hL_
  have hs_ := hs
  obtain ⟨a1, a2, a3, a4, a5, a6⟩ := hs_
  have hM_ := hM
  obtain ⟨m1, m2, m3, m4, m5⟩ := hM_
  have hh2 := m2 h hh
  have hg0 := a2 h hh
  rw [← hh2.1] at hg0
  have he0 := a3 h hh
  rw [← hh2.2] at he0
  have hd0 : 0 ≤ μ 120 517 ∧ μ 120 517 ≤ 29 := by rw [m1]; exact a1
  have hraw : ¬ 99 < μ 120 (526 + h) + a := by rw [hh2.2]; exact hc
  refine ⟨_, PT_267, Nat.le_of_ble_eq_true rfl, ?_⟩
  show Rn PT none kX12_does 0 [some (mR 118), some (mI (2)), some (mI ((h : Int))), some (mI (a)), none, none] [] (mkh μ c s) _
  refine rn_iconst (k' := 1) rfl rfl ?_
  refine rn_istore (k' := 2) (L' := [some (mR 118), some (mI (2)), some (mI ((h : Int))), some (mI (a)), some (mI (0)), none]) rfl rfl (Nat.le_of_ble_eq_true rfl) rfl ?_
  refine rn_iload_n (k' := 3) rfl rfl rfl ?_
  rcases (show ((2 : Int) < 0 ∨ 3 < (2 : Int)) ∨ (2 : Int) = 0 ∨ (2 : Int) = 1 ∨ (2 : Int) = 2 ∨ (2 : Int) = 3 by omega) with hs1 | hs1 | hs1 | hs1 | hs1
  · exfalso; omega
  · exfalso; omega
  · exfalso; omega
  · refine rn_swI (j := 2) (t' := 30) rfl (by omega) rfl ?_
    refine rn_aload_n (k' := 31) rfl rfl rfl ?_
    refine rn_iload_n (k' := 32) rfl rfl rfl ?_
    refine rn_iload_n (k' := 33) rfl rfl rfl ?_
    refine rn_iload_n (k' := 34) rfl rfl rfl ?_
    refine rn_iconst (k' := 35) rfl rfl ?_
    refine rn_icmp_ne (k' := 36) rfl rfl (fun hc2 => ?_) (fun hc2 => ?_)
    · exfalso; omega
    · skip
      refine rn_iconst (k' := 37) rfl rfl ?_
      refine rn_goto rfl ?_
      refine rn_callP (k' := 40) (y := 242) (vs := [mR 118, mI ((h : Int)), mI (a), mI (1)]) (S' := []) (v := some (mI (0))) (h' := mkh μ c s) rfl rfl rfl (c_why1_1 (μ := μ) (c := c) (s := s) (h := h) (n := a) (by omega) he0 hn hraw) ?_
      show Rn PT none kX12_does 40 [some (mR 118), some (mI (2)), some (mI ((h : Int))), some (mI (a)), some (mI (0)), none] [mI (0)] (mkh μ c s) _
      refine rn_istore (k' := 41) (L' := [some (mR 118), some (mI (2)), some (mI ((h : Int))), some (mI (a)), some (mI (0)), none]) rfl rfl (Nat.le_of_ble_eq_true rfl) rfl ?_
      refine rn_iload (k' := 42) rfl rfl rfl ?_
      refine rn_if_ne (k' := 43) rfl rfl (fun hc3 => ?_) (fun hc3 => ?_)
      · exfalso; omega
      · skip
        refine rn_aload_n (k' := 44) rfl rfl rfl ?_
        refine rn_getR (k' := 45) rfl rfl K0_118 (by decide) rfl R0_118_6 ?_
        refine rn_sipush (k' := 46) rfl rfl ?_
        refine rn_iload_n (k' := 47) rfl rfl rfl ?_
        refine rn_iadd (k' := 48) rfl rfl (by omega) ?_
        refine rn_dup2 (k' := 49) rfl rfl ?_
        refine rn_iaload (k' := 50) rfl rfl K0_120 (by omega) (by omega) ?_
        show Rn PT none kX12_does 50 [some (mR 118), some (mI (2)), some (mI ((h : Int))), some (mI (a)), some (mI (0)), none] [mI (μ 120 (526 + h)), mI (526 + (h : Int)), mR 120] (mkh μ c s) _
        refine rn_iload_n (k' := 51) rfl rfl rfl ?_
        refine rn_iconst (k' := 52) rfl rfl ?_
        refine rn_icmp_ne (k' := 53) rfl rfl (fun hc4 => ?_) (fun hc4 => ?_)
        · exfalso; omega
        · skip
          refine rn_iload_n (k' := 54) rfl rfl rfl ?_
          refine rn_goto rfl ?_
          refine rn_iadd (k' := 58) rfl rfl (by omega) ?_
          refine rn_iastore (k' := 59) rfl rfl K0_120 (by omega) (by omega) ?_
          refine rn_iload (k' := 60) rfl rfl rfl ?_
          refine rn_iret rfl (Or.inl rfl) ?_
          refine ⟨(m_set μ 120 (526 + h) ((μ 120 (526 + h)) + a)), rfl, ⟨?_, fun j hj => ?_, fun z => ?_, ?_, fun k hk => ?_⟩, h4, h5, fun _ _ _ => rfl, (frm.refl).set (by omega)⟩
          · rw [row_set_eq, fs_ne (by omega)]; exact m1
          · rw [row_set_eq]
            refine ⟨?_, ?_⟩
            · rw [fs_ne (by omega)]; exact (m2 j hj).1
            · show fs (μ 120) (526 + h) _ (526 + j) = fs (jh s0) h (jh s0 h + a) j
              unfold fs
              by_cases e : j = h
              · rw [if_pos (by omega), if_pos e, hh2.2]
              · rw [if_neg (by omega), if_neg e]; exact (m2 j hj).2
          · rw [row_set_eq, fs_ne (by omega)]; exact m3 z
          · rw [row_set_eq, fs_ne (by omega)]; exact m4
          · rw [row_set_eq, fs_ne (by omega)]; exact m5 k hk
  · exfalso; omega
set_option maxHeartbeats 4000000 in
theorem c_does_day_n {μ : Nat → Nat → Int} {c s : Nat} (hL : I_land μ) {T S t0 : Int} (hT : T ≤ 900000) (hS : S ≤ 90000) {s0 : JT} (hs : jOK μ T S s0) {o120 : Nat → Int} (hM : MS (μ 6 13) o120 s0 (μ 120)) (h4 : μ 136 4 = js s0) (h5 : μ 136 5 = jt s0 - t0) (ht0 : 0 ≤ t0 ∧ t0 ≤ 900000) (hwf : jw s0 = -1 ↔ μ 6 14 = -1) {x y : Int} (hc : 29 ≤ jd s0) : Cl PT 267 [mR 118, mI 3, mI x, mI y] (mkh μ c s) (fun r => ∃ ν, r = (some (some (mI 4)), mkh ν c s) ∧ MD μ ν o120 t0 s0) := by
  have hL_ := hL
  obtain ⟨lc, lr, le, lm, lw, lh, lwo, lwd, q0, q1, q2, q3, q4, q8, q499, q500, lth, lG, lT, lW, -⟩ := hL_
  have hs_ := hs
  obtain ⟨a1, a2, a3, a4, a5, a6⟩ := hs_
  have hM_ := hM
  obtain ⟨m1, m2, m3, m4, m5⟩ := hM_
  have a1 : 0 ≤ jd s0 ∧ jd s0 ≤ 29 := a1
  refine ⟨_, PT_267, Nat.le_of_ble_eq_true rfl, ?_⟩
  show Rn PT none kX12_does 0 [some (mR 118), some (mI (3)), some (mI (x)), some (mI (y)), none, none] [] (mkh μ c s) _
  refine rn_iconst (k' := 1) rfl rfl ?_
  refine rn_istore (k' := 2) (L' := [some (mR 118), some (mI (3)), some (mI (x)), some (mI (y)), some (mI (0)), none]) rfl rfl (Nat.le_of_ble_eq_true rfl) rfl ?_
  refine rn_iload_n (k' := 3) rfl rfl rfl ?_
  rcases (show ((3 : Int) < 0 ∨ 3 < (3 : Int)) ∨ (3 : Int) = 0 ∨ (3 : Int) = 1 ∨ (3 : Int) = 2 ∨ (3 : Int) = 3 by omega) with hs1 | hs1 | hs1 | hs1 | hs1
  · exfalso; omega
  · exfalso; omega
  · exfalso; omega
  · exfalso; omega
  · refine rn_swI (j := 3) (t' := 61) rfl (by omega) rfl ?_
    refine rn_aload_n (k' := 62) rfl rfl rfl ?_
    refine rn_getR (k' := 63) rfl rfl K0_118 (by decide) rfl R0_118_6 ?_
    refine rn_sipush (k' := 64) rfl rfl ?_
    refine rn_iaload (k' := 65) rfl rfl K0_120 (by omega) (by omega) ?_
    show Rn PT none kX12_does 65 [some (mR 118), some (mI (3)), some (mI (x)), some (mI (y)), some (mI (0)), none] [mI (μ 120 517)] (mkh μ c s) _
    refine rn_bipush (k' := 66) rfl rfl ?_
    refine rn_icmp_ne (k' := 67) rfl rfl (fun hc2 => ?_) (fun hc2 => ?_)
    · exfalso; omega
    · skip
      refine rn_iconst (k' := 68) rfl rfl ?_
      refine rn_iret rfl (Or.inl rfl) ?_
      exact ⟨μ, rfl, hM, h4, h5, fun _ _ _ => rfl, frm.refl⟩
set_option maxHeartbeats 4000000 in
theorem c_does_day_y {μ : Nat → Nat → Int} {c s : Nat} (hL : I_land μ) {T S t0 : Int} (hT : T ≤ 900000) (hS : S ≤ 90000) {s0 : JT} (hs : jOK μ T S s0) {o120 : Nat → Int} (hM : MS (μ 6 13) o120 s0 (μ 120)) (h4 : μ 136 4 = js s0) (h5 : μ 136 5 = jt s0 - t0) (ht0 : 0 ≤ t0 ∧ t0 ≤ 900000) (hwf : jw s0 = -1 ↔ μ 6 14 = -1) {x y : Int} (hc : ¬ 29 ≤ jd s0) : Cl PT 267 [mR 118, mI 3, mI x, mI y] (mkh μ c s) (fun r => ∃ ν, r = (some (some (mI 0)), mkh ν c s) ∧ MD μ ν o120 t0 (jd s0 + 1, jc s0, jh s0, jw s0, jt s0, js s0)) := by
  have hL_ := hL
  obtain ⟨lc, lr, le, lm, lw, lh, lwo, lwd, q0, q1, q2, q3, q4, q8, q499, q500, lth, lG, lT, lW, -⟩ := hL_
  have hs_ := hs
  obtain ⟨a1, a2, a3, a4, a5, a6⟩ := hs_
  have hM_ := hM
  obtain ⟨m1, m2, m3, m4, m5⟩ := hM_
  have a1 : 0 ≤ jd s0 ∧ jd s0 ≤ 29 := a1
  refine ⟨_, PT_267, Nat.le_of_ble_eq_true rfl, ?_⟩
  show Rn PT none kX12_does 0 [some (mR 118), some (mI (3)), some (mI (x)), some (mI (y)), none, none] [] (mkh μ c s) _
  refine rn_iconst (k' := 1) rfl rfl ?_
  refine rn_istore (k' := 2) (L' := [some (mR 118), some (mI (3)), some (mI (x)), some (mI (y)), some (mI (0)), none]) rfl rfl (Nat.le_of_ble_eq_true rfl) rfl ?_
  refine rn_iload_n (k' := 3) rfl rfl rfl ?_
  rcases (show ((3 : Int) < 0 ∨ 3 < (3 : Int)) ∨ (3 : Int) = 0 ∨ (3 : Int) = 1 ∨ (3 : Int) = 2 ∨ (3 : Int) = 3 by omega) with hs1 | hs1 | hs1 | hs1 | hs1
  · exfalso; omega
  · exfalso; omega
  · exfalso; omega
  · exfalso; omega
  · refine rn_swI (j := 3) (t' := 61) rfl (by omega) rfl ?_
    refine rn_aload_n (k' := 62) rfl rfl rfl ?_
    refine rn_getR (k' := 63) rfl rfl K0_118 (by decide) rfl R0_118_6 ?_
    refine rn_sipush (k' := 64) rfl rfl ?_
    refine rn_iaload (k' := 65) rfl rfl K0_120 (by omega) (by omega) ?_
    show Rn PT none kX12_does 65 [some (mR 118), some (mI (3)), some (mI (x)), some (mI (y)), some (mI (0)), none] [mI (μ 120 517)] (mkh μ c s) _
    refine rn_bipush (k' := 66) rfl rfl ?_
    refine rn_icmp_ne (k' := 67) rfl rfl (fun hc2 => ?_) (fun hc2 => ?_)
    · skip
      refine rn_aload_n (k' := 70) rfl rfl rfl ?_
      refine rn_getR (k' := 71) rfl rfl K0_118 (by decide) rfl R0_118_6 ?_
      refine rn_sipush (k' := 72) rfl rfl ?_
      refine rn_dup2 (k' := 73) rfl rfl ?_
      refine rn_iaload (k' := 74) rfl rfl K0_120 (by omega) (by omega) ?_
      show Rn PT none kX12_does 74 [some (mR 118), some (mI (3)), some (mI (x)), some (mI (y)), some (mI (0)), none] [mI (μ 120 517), mI (517), mR 120] (mkh μ c s) _
      refine rn_iconst (k' := 75) rfl rfl ?_
      refine rn_iadd (k' := 76) rfl rfl (by omega) ?_
      refine rn_iastore (k' := 77) rfl rfl K0_120 (by omega) (by omega) ?_
      refine rn_iconst (k' := 78) rfl rfl ?_
      refine rn_iret rfl (Or.inl rfl) ?_
      refine ⟨(m_set μ 120 517 ((μ 120 517) + 1)), rfl, ⟨?_, fun j hj => ?_, fun z => ?_, ?_, fun k hk => ?_⟩, h4, h5, fun _ _ _ => rfl, (frm.refl).set (by omega)⟩
      · rw [row_set_eq]
        show fs (μ 120) 517 (μ 120 517 + 1) 517 = jd s0 + 1
        rw [fs_eq, m1]
      · rw [row_set_eq]
        exact ⟨by rw [fs_ne (by show ¬ 518 + j = 517; omega)]; exact (m2 j hj).1, by rw [fs_ne (by show ¬ 526 + j = 517; omega)]; exact (m2 j hj).2⟩
      · rw [row_set_eq, fs_ne (by decide)]; exact m3 z
      · rw [row_set_eq, fs_ne (by decide)]; exact m4
      · rw [row_set_eq, fs_ne (by show ¬ k = 517; omega)]; exact m5 k hk
    · exfalso; omega
set_option maxHeartbeats 4000000 in
theorem c_does_ni_n {μ : Nat → Nat → Int} {c s : Nat} (hL : I_land μ) {T S t0 : Int} (hT : T ≤ 900000) (hS : S ≤ 90000) {s0 : JT} (hs : jOK μ T S s0) {o120 : Nat → Int} (hM : MS (μ 6 13) o120 s0 (μ 120)) (h4 : μ 136 4 = js s0) (h5 : μ 136 5 = jt s0 - t0) (ht0 : 0 ≤ t0 ∧ t0 ≤ 900000) (hwf : jw s0 = -1 ↔ μ 6 14 = -1) {x y : Int} (hc : jw s0 = -1) : Cl PT 267 [mR 118, mI 4, mI x, mI y] (mkh μ c s) (fun r => ∃ ν, r = (some (some (mI 5)), mkh ν c s) ∧ MD μ ν o120 t0 s0) := by
  have hL_ := hL
  obtain ⟨lc, lr, le, lm, lw, lh, lwo, lwd, q0, q1, q2, q3, q4, q8, q499, q500, lth, lG, lT, lW, -⟩ := hL_
  have hs_ := hs
  obtain ⟨a1, a2, a3, a4, a5, a6⟩ := hs_
  have hM_ := hM
  obtain ⟨m1, m2, m3, m4, m5⟩ := hM_
  have h614 := hwf.mp hc
  refine ⟨_, PT_267, Nat.le_of_ble_eq_true rfl, ?_⟩
  show Rn PT none kX12_does 0 [some (mR 118), some (mI (4)), some (mI (x)), some (mI (y)), none, none] [] (mkh μ c s) _
  refine rn_iconst (k' := 1) rfl rfl ?_
  refine rn_istore (k' := 2) (L' := [some (mR 118), some (mI (4)), some (mI (x)), some (mI (y)), some (mI (0)), none]) rfl rfl (Nat.le_of_ble_eq_true rfl) rfl ?_
  refine rn_iload_n (k' := 3) rfl rfl rfl ?_
  rcases (show ((4 : Int) < 0 ∨ 3 < (4 : Int)) ∨ (4 : Int) = 0 ∨ (4 : Int) = 1 ∨ (4 : Int) = 2 ∨ (4 : Int) = 3 by omega) with hs1 | hs1 | hs1 | hs1 | hs1
  · refine rn_swO rfl hs1 ?_
    refine rn_aload_n (k' := 80) rfl rfl rfl ?_
    refine rn_getR (k' := 81) rfl rfl K0_118 (by decide) rfl R0_118_6 ?_
    refine rn_sipush (k' := 82) rfl rfl ?_
    refine rn_iaload (k' := 83) rfl rfl K0_120 (by omega) (by omega) ?_
    show Rn PT none kX12_does 83 [some (mR 118), some (mI (4)), some (mI (x)), some (mI (y)), some (mI (0)), none] [mI (μ 120 499)] (mkh μ c s) _
    rw [q499]
    refine rn_if_ne (k' := 84) rfl rfl (fun hc2 => ?_) (fun hc2 => ?_)
    · exfalso; omega
    · skip
      refine rn_iconst (k' := 85) rfl rfl ?_
      refine rn_iret rfl (Or.inl rfl) ?_
      exact ⟨μ, rfl, hM, h4, h5, fun _ _ _ => rfl, frm.refl⟩
  · exfalso; omega
  · exfalso; omega
  · exfalso; omega
  · exfalso; omega
set_option maxHeartbeats 4000000 in
theorem c_does_ni_y {μ : Nat → Nat → Int} {c s : Nat} (hL : I_land μ) {T S t0 : Int} (hT : T ≤ 900000) (hS : S ≤ 90000) {s0 : JT} (hs : jOK μ T S s0) {o120 : Nat → Int} (hM : MS (μ 6 13) o120 s0 (μ 120)) (h4 : μ 136 4 = js s0) (h5 : μ 136 5 = jt s0 - t0) (ht0 : 0 ≤ t0 ∧ t0 ≤ 900000) (hwf : jw s0 = -1 ↔ μ 6 14 = -1) {x : Int} {R : Nat} (hR : 1 ≤ R ∧ R ≤ 20) (hc : ¬ jw s0 = -1) : Cl PT 267 [mR 118, mI 4, mI x, mI (R : Int)] (mkh μ c s) (fun r => ∃ ν, r = (some (some (mI 0)), mkh ν c s) ∧ MD μ ν o120 t0 (jd s0, jc s0, (jhu μ (R : Int) s0).1, (jhu μ (R : Int) s0).2.1, (jhu μ (R : Int) s0).2.2, js s0)) := by
  have hL_ := hL
  obtain ⟨lc, lr, le, lm, lw, lh, lwo, lwd, q0, q1, q2, q3, q4, q8, q499, q500, lth, lG, lT, lW, -⟩ := hL_
  have hs_ := hs
  obtain ⟨a1, a2, a3, a4, a5, a6⟩ := hs_
  have hM_ := hM
  obtain ⟨m1, m2, m3, m4, m5⟩ := hM_
  have h614 : ¬ μ 6 14 = -1 := fun z => hc (hwf.mpr z)
  have a1 : 0 ≤ jd s0 ∧ jd s0 ≤ 29 := a1
  have a5 : 0 ≤ jt s0 ∧ jt s0 ≤ T := a5
  have hok0 : hOK μ (fun j => μ 120 (518 + j)) T ((fun j => μ 120 (526 + j)), μ 120 534, μ 120 535) := (hs.hOK hc).congr rfl (fun j hj => (m2 j hj).1) (fun j hj => (m2 j hj).2) (by show (μ 120 534, μ 120 535) = (jw s0, jt s0); rw [m3 hc, m4])
  obtain ⟨F, q, T1, hT1, hni⟩ := Cl.ex3b (g := fun F q T => (some (some (mI (T 535 - μ 120 535))), mkh (m_upd (m_upd (m_upd (m_set (m_set μ 118 22 (g_w μ 0 (μ 120 517))) 118 23 (g_w μ 1 (μ 120 517))) 125 F) 126 q) 120 T) c s)) (c_nights (μ := μ) (c := c) (s := s) hL (by rw [m1]; exact a1) (B := T) (by omega) hok0 (R := R) (by omega))
  have hcg := hunt_congr (μ := μ) (W := g_w μ 0 (μ 120 517)) (cl := (fun j => μ 120 (518 + j))) (cl' := jc s0) (st := ((fun j => μ 120 (526 + j)), μ 120 534, μ 120 535)) (st' := (jh s0, jw s0, jt s0)) (fun j hj => (m2 j hj).1) (fun j hj => (m2 j hj).2) (by show (μ 120 534, μ 120 535) = (jw s0, jt s0); rw [m3 hc, m4]) R
  obtain ⟨t1, t2, t3, t4⟩ := hT1
  have hwd : g_w μ 0 (μ 120 517) = g_w μ 0 (jd s0) := by rw [m1]
  have ejh : jhu μ (R : Int) s0 = hunt μ (g_w μ 0 (μ 120 517)) (jc s0) (jh s0, jw s0, jt s0) R := by rw [hwd]; rfl
  have t3' : T1 535 = (jhu μ (R : Int) s0).2.2 := by rw [t3, hcg.2, ejh]
  have t2' : T1 534 = (jhu μ (R : Int) s0).2.1 := by rw [t2, hcg.2, ejh]
  have hk3 := (hunt_ok hL (W := g_w μ 0 (jd s0)) (hs.hOK hc) R).2.2.1
  have hk3 : 0 ≤ (jhu μ (R : Int) s0).2.2 ∧ (jhu μ (R : Int) s0).2.2 ≤ T + R := hk3
  refine ⟨_, PT_267, Nat.le_of_ble_eq_true rfl, ?_⟩
  show Rn PT none kX12_does 0 [some (mR 118), some (mI (4)), some (mI (x)), some (mI ((R : Int))), none, none] [] (mkh μ c s) _
  refine rn_iconst (k' := 1) rfl rfl ?_
  refine rn_istore (k' := 2) (L' := [some (mR 118), some (mI (4)), some (mI (x)), some (mI ((R : Int))), some (mI (0)), none]) rfl rfl (Nat.le_of_ble_eq_true rfl) rfl ?_
  refine rn_iload_n (k' := 3) rfl rfl rfl ?_
  rcases (show ((4 : Int) < 0 ∨ 3 < (4 : Int)) ∨ (4 : Int) = 0 ∨ (4 : Int) = 1 ∨ (4 : Int) = 2 ∨ (4 : Int) = 3 by omega) with hs1 | hs1 | hs1 | hs1 | hs1
  · refine rn_swO rfl hs1 ?_
    refine rn_aload_n (k' := 80) rfl rfl rfl ?_
    refine rn_getR (k' := 81) rfl rfl K0_118 (by decide) rfl R0_118_6 ?_
    refine rn_sipush (k' := 82) rfl rfl ?_
    refine rn_iaload (k' := 83) rfl rfl K0_120 (by omega) (by omega) ?_
    show Rn PT none kX12_does 83 [some (mR 118), some (mI (4)), some (mI (x)), some (mI ((R : Int))), some (mI (0)), none] [mI (μ 120 499)] (mkh μ c s) _
    rw [q499]
    refine rn_if_ne (k' := 84) rfl rfl (fun hc2 => ?_) (fun hc2 => ?_)
    · skip
      refine rn_aload_n (k' := 87) rfl rfl rfl ?_
      refine rn_getR (k' := 88) rfl rfl K0_118 (by decide) rfl R0_118_42 ?_
      refine rn_iconst (k' := 89) rfl rfl ?_
      refine rn_dup2 (k' := 90) rfl rfl ?_
      refine rn_iaload (k' := 91) rfl rfl K0_136 (by omega) (by omega) ?_
      show Rn PT none kX12_does 91 [some (mR 118), some (mI (4)), some (mI (x)), some (mI ((R : Int))), some (mI (0)), none] [mI (μ 136 5), mI (5), mR 136] (mkh μ c s) _
      refine rn_aload_n (k' := 92) rfl rfl rfl ?_
      refine rn_iload_n (k' := 93) rfl rfl rfl ?_
      refine rn_callP (k' := 94) (y := 237) (vs := [mR 118, mI ((R : Int))]) (S' := [mI (μ 136 5), mI (5), mR 136]) (v := some (mI (T1 535 - μ 120 535))) (h' := mkh (m_upd (m_upd (m_upd (m_set (m_set μ 118 22 (g_w μ 0 (μ 120 517))) 118 23 (g_w μ 1 (μ 120 517))) 125 F) 126 q) 120 T1) c s) rfl rfl rfl (hni) ?_
      show Rn PT none kX12_does 94 [some (mR 118), some (mI (4)), some (mI (x)), some (mI ((R : Int))), some (mI (0)), none] [mI (T1 535 - μ 120 535), mI (μ 136 5), mI (5), mR 136] (mkh (m_upd (m_upd (m_upd (m_set (m_set μ 118 22 (g_w μ 0 (μ 120 517))) 118 23 (g_w μ 1 (μ 120 517))) 125 F) 126 q) 120 T1) c s) _
      refine rn_iadd (k' := 95) rfl rfl (by omega) ?_
      refine rn_iastore (k' := 96) rfl rfl K0_136 (by omega) (by omega) ?_
      refine rn_iconst (k' := 97) rfl rfl ?_
      refine rn_iret rfl (Or.inl rfl) ?_
      refine ⟨(m_set (m_upd (m_upd (m_upd (m_set (m_set μ 118 22 (g_w μ 0 (μ 120 517))) 118 23 (g_w μ 1 (μ 120 517))) 125 F) 126 q) 120 T1) 136 5 ((μ 136 5) + (T1 535 - μ 120 535))), rfl, ⟨?_, fun j hj => ?_, fun z => ?_, ?_, fun k hk => ?_⟩, h4, ?_, fun j j1 j2 => ?_, ((((((frm.refl).setw (by omega)).setw (by omega)).upd (by omega)).upd (by omega)).upd (by omega)).set (by omega)⟩
      · exact (t4 517 (by omega)).trans m1
      · exact ⟨(t4 _ (by omega)).trans (m2 j hj).1, (t1 j hj).trans ((hcg.1 j hj).trans (by rw [ejh]))⟩
      · exact t2'
      · exact t3'
      · exact (t4 k (by omega)).trans (m5 k hk)
      · show μ 136 5 + (T1 535 - μ 120 535) = (jhu μ (R : Int) s0).2.2 - t0
        omega
      · rw [row_set_eq, fs_ne j2]
        rfl
    · exfalso; omega
  · exfalso; omega
  · exfalso; omega
  · exfalso; omega
  · exfalso; omega
