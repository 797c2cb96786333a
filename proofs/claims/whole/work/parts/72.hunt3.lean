variable {N : Int}
/-! ===== printed by wip/whole/gen72.py: preyAtHand, prowl, hunt ===== -/
set_option maxHeartbeats 4000000 in
theorem l_X0_preyAtHand {μ : Nat → Nat → Int} {c s : Nat} (hL : I_land μ) : ∀ (d n : Nat) (k : Int), k = (n : Int) → (n : Int) + d = μ 6 13 → Rn PT none kX0_preyAtHand 2 [some (mR 82), some (mI (k))] [] (mkh μ c s) (fun r => r = (some (some (mI (fF (fun j : Nat => μ 84 j = μ 83 3 ∧ 0 < μ 85 j) n d))), mkh (μ) c s)) := by
  have hL_ := hL
  obtain ⟨lc, lr, le, lm, lw, lh, lwo, lwd, q0, q1, q2, q3, q4, q8, q499, q500, lth, lG, lT, lW, -⟩ := hL_
  intro d
  induction d with
  | zero =>
    intro n k  ek hn
    subst ek
    refine rn_iload_n (k' := 3) rfl rfl rfl ?_
    refine rn_aload_n (k' := 4) rfl rfl rfl ?_
    refine rn_getR (k' := 5) rfl rfl K0_82 (by decide) rfl R0_82_0 ?_
    refine rn_getI (k' := 6) rfl rfl K0_6 (by decide) rfl ?_
    refine rn_icmp_ge (k' := 7) rfl rfl (fun hc1 => ?_) (fun hc1 => ?_)
    · skip
      refine rn_iconst (k' := 27) rfl rfl ?_
      refine rn_iret rfl (Or.inl rfl) ?_
      rfl
    · exfalso; omega
  | succ d ih =>
    intro n k  ek hn
    subst ek
    refine rn_iload_n (k' := 3) rfl rfl rfl ?_
    refine rn_aload_n (k' := 4) rfl rfl rfl ?_
    refine rn_getR (k' := 5) rfl rfl K0_82 (by decide) rfl R0_82_0 ?_
    refine rn_getI (k' := 6) rfl rfl K0_6 (by decide) rfl ?_
    refine rn_icmp_ge (k' := 7) rfl rfl (fun hc1 => ?_) (fun hc1 => ?_)
    · exfalso; omega
    · skip
      refine rn_aload_n (k' := 8) rfl rfl rfl ?_
      refine rn_getR (k' := 9) rfl rfl K0_82 (by decide) rfl R0_82_3 ?_
      refine rn_getR (k' := 10) rfl rfl K0_83 (by decide) rfl R0_83_1 ?_
      refine rn_iload_n (k' := 11) rfl rfl rfl ?_
      refine rn_iaload (k' := 12) rfl rfl K0_84 (by omega) (by omega) ?_
      show Rn PT none kX0_preyAtHand 12 [some (mR 82), some (mI ((n : Int)))] [mI (μ 84 (n))] (mkh μ c s) _
      refine rn_aload_n (k' := 13) rfl rfl rfl ?_
      refine rn_getR (k' := 14) rfl rfl K0_82 (by decide) rfl R0_82_3 ?_
      refine rn_getI (k' := 15) rfl rfl K0_83 (by decide) rfl ?_
      refine rn_icmp_ne (k' := 16) rfl rfl (fun hc2 => ?_) (fun hc2 => ?_)
      · skip
        refine rn_iinc (k' := 25) (L' := [some (mR 82), some (mI ((n : Int) + 1))]) rfl rfl rfl (by omega) rfl ?_
        refine rn_goto rfl ?_
        rw [fF_neg (p := (fun j : Nat => μ 84 j = μ 83 3 ∧ 0 < μ 85 j)) (by omega)]
        exact ih (n + 1) _ (by omega) (by omega)
      · skip
        refine rn_aload_n (k' := 17) rfl rfl rfl ?_
        refine rn_getR (k' := 18) rfl rfl K0_82 (by decide) rfl R0_82_3 ?_
        refine rn_getR (k' := 19) rfl rfl K0_83 (by decide) rfl R0_83_2 ?_
        refine rn_iload_n (k' := 20) rfl rfl rfl ?_
        refine rn_iaload (k' := 21) rfl rfl K0_85 (by omega) (by omega) ?_
        show Rn PT none kX0_preyAtHand 21 [some (mR 82), some (mI ((n : Int)))] [mI (μ 85 (n))] (mkh μ c s) _
        refine rn_if_le (k' := 22) rfl rfl (fun hc3 => ?_) (fun hc3 => ?_)
        · skip
          refine rn_iinc (k' := 25) (L' := [some (mR 82), some (mI ((n : Int) + 1))]) rfl rfl rfl (by omega) rfl ?_
          refine rn_goto rfl ?_
          rw [fF_neg (p := (fun j : Nat => μ 84 j = μ 83 3 ∧ 0 < μ 85 j)) (by omega)]
          exact ih (n + 1) _ (by omega) (by omega)
        · skip
          refine rn_iload_n (k' := 23) rfl rfl rfl ?_
          refine rn_iret rfl (Or.inl rfl) ?_
          rw [fF_pos (p := (fun j : Nat => μ 84 j = μ 83 3 ∧ 0 < μ 85 j)) (by omega)]
set_option maxHeartbeats 2000000 in
theorem c_X0_preyAtHand {μ : Nat → Nat → Int} {c s : Nat} (hL : I_land μ) : Cl PT 10 [mR 82] (mkh μ c s) (fun r => r = (some (some (mI (fF (fun j : Nat => μ 84 j = μ 83 3 ∧ 0 < μ 85 j) 0 (μ 6 13).toNat))), mkh (μ) c s)) := by
  have hL_ := hL
  obtain ⟨lc, lr, le, lm, lw, lh, lwo, lwd, q0, q1, q2, q3, q4, q8, q499, q500, lth, lG, lT, lW, -⟩ := hL_
  refine ⟨_, PT_10, Nat.le_of_ble_eq_true rfl, ?_⟩
  show Rn PT none kX0_preyAtHand 0 [some (mR 82), none] [] (mkh μ c s) _
  refine rn_iconst (k' := 1) rfl rfl ?_
  refine rn_istore_n (k' := 2) (L' := [some (mR 82), some (mI (0))]) rfl rfl (Nat.le_of_ble_eq_true rfl) rfl ?_
  exact l_X0_preyAtHand hL (μ 6 13).toNat 0 _ rfl (by omega)
set_option maxHeartbeats 4000000 in
theorem l_prowl {μ : Nat → Nat → Int} {c s : Nat} (hL : I_land μ) {W : Int} (hO : ∀ x, g_cell μ x → (g_dep μ x W ≤ μ 6 15 → μ 67 x.toNat = 1) ∧ (¬ g_dep μ x W ≤ μ 6 15 → μ 67 x.toNat = 0)) (hw : g_cell μ (μ 83 3)) (hcl : ∀ j : Nat, (j : Int) < μ 6 13 → g_cell μ (μ 84 j)) {F q : Nat → Int} {Q : MR → Prop} (hF : ∀ j, j < 100 → F j = wF μ W (μ 83 3) j) (K : ∀ v4, Rn PT none kX0_prowl 46 [some (mR 82), some (mI (ba (hel μ W (μ 84) (μ 85, μ 83 3, μ 83 4)) (μ 6 13).toNat)), some (mI (lst (hel μ W (μ 84) (μ 85, μ 83 3, μ 83 4)) (ba (hel μ W (μ 84) (μ 85, μ 83 3, μ 83 4)) (μ 6 13).toNat))), some (mI (μ 6 13)), v4] [] (mkh (m_upd (m_upd μ 68 F) 69 q) c s) Q) : ∀ (d n : Nat) (k pr le_ : Int) (v4 : Option MV), k = (n : Int) → (n : Int) + d = μ 6 13 → pr = ba (hel μ W (μ 84) (μ 85, μ 83 3, μ 83 4)) n → le_ = lst (hel μ W (μ 84) (μ 85, μ 83 3, μ 83 4)) (ba (hel μ W (μ 84) (μ 85, μ 83 3, μ 83 4)) n) → Rn PT none kX0_prowl 13 [some (mR 82), some (mI (pr)), some (mI (le_)), some (mI (k)), v4] [] (mkh (m_upd (m_upd μ 68 F) 69 q) c s) Q := by
  have hL_ := hL
  obtain ⟨lc, lr, le, lm, lw, lh, lwo, lwd, q0, q1, q2, q3, q4, q8, q499, q500, lth, lG, lT, lW, -⟩ := hL_
  intro d
  induction d with
  | zero =>
    intro n k pr le_ v4 ek hn ep el
    subst ek ep el
    have hnn : (μ 6 13).toNat = n := by omega
    have hn2 : μ 6 13 = (n : Int) := by omega
    rw [hnn, hn2] at K
    refine rn_iload_n (k' := 14) rfl rfl rfl ?_
    refine rn_aload_n (k' := 15) rfl rfl rfl ?_
    refine rn_getR (k' := 16) rfl rfl K0_82 (by decide) rfl R0_82_0 ?_
    refine rn_getI (k' := 17) rfl rfl K0_6 (by decide) rfl ?_
    show Rn PT none kX0_prowl 17 [some (mR 82), some (mI (ba (hel μ W (μ 84) (μ 85, μ 83 3, μ 83 4)) n)), some (mI (lst (hel μ W (μ 84) (μ 85, μ 83 3, μ 83 4)) (ba (hel μ W (μ 84) (μ 85, μ 83 3, μ 83 4)) n))), some (mI ((n : Int))), v4] [mI (μ 6 13), mI ((n : Int))] (mkh (m_upd (m_upd μ 68 F) 69 q) c s) _
    refine rn_icmp_ge (k' := 18) rfl rfl (fun hc1 => ?_) (fun hc1 => ?_)
    · skip
      exact K v4
    · exfalso; omega
  | succ d ih =>
    intro n k pr le_ v4 ek hn ep el
    subst ek ep el
    have hcb := g_cell_b hL (hcl n (by omega))
    have hf := hF (μ 84 n).toNat (by omega)
    have hfb := wF_b (W := W) hL hw (μ 84 n).toNat
    have hd : (0 < μ 85 n ∧ (hel μ W (μ 84) (μ 85, μ 83 3, μ 83 4)) n = wF μ W (μ 83 3) (μ 84 n).toNat) ∨ (¬ 0 < μ 85 n ∧ (hel μ W (μ 84) (μ 85, μ 83 3, μ 83 4)) n = -1) := by
      unfold hel
      by_cases z : 0 < μ 85 n
      · left; exact ⟨z, if_pos z⟩
      · right; exact ⟨z, if_neg z⟩
    have hbb := ba_b (f := (hel μ W (μ 84) (μ 85, μ 83 3, μ 83 4))) n
    have hl : ((ba (hel μ W (μ 84) (μ 85, μ 83 3, μ 83 4)) n) = -1 ∧ lst ((hel μ W (μ 84) (μ 85, μ 83 3, μ 83 4))) ((ba (hel μ W (μ 84) (μ 85, μ 83 3, μ 83 4)) n)) = 1000000000) ∨ (¬ (ba (hel μ W (μ 84) (μ 85, μ 83 3, μ 83 4)) n) = -1 ∧ lst ((hel μ W (μ 84) (μ 85, μ 83 3, μ 83 4))) ((ba (hel μ W (μ 84) (μ 85, μ 83 3, μ 83 4)) n)) = ((hel μ W (μ 84) (μ 85, μ 83 3, μ 83 4))) ((ba (hel μ W (μ 84) (μ 85, μ 83 3, μ 83 4)) n)).toNat) := by
      by_cases z : (ba (hel μ W (μ 84) (μ 85, μ 83 3, μ 83 4)) n) = -1
      · left; rw [z]; exact ⟨rfl, rfl⟩
      · right; exact ⟨z, lst_p z⟩
    refine rn_iload_n (k' := 14) rfl rfl rfl ?_
    refine rn_aload_n (k' := 15) rfl rfl rfl ?_
    refine rn_getR (k' := 16) rfl rfl K0_82 (by decide) rfl R0_82_0 ?_
    refine rn_getI (k' := 17) rfl rfl K0_6 (by decide) rfl ?_
    show Rn PT none kX0_prowl 17 [some (mR 82), some (mI (ba (hel μ W (μ 84) (μ 85, μ 83 3, μ 83 4)) n)), some (mI (lst (hel μ W (μ 84) (μ 85, μ 83 3, μ 83 4)) (ba (hel μ W (μ 84) (μ 85, μ 83 3, μ 83 4)) n))), some (mI ((n : Int))), v4] [mI (μ 6 13), mI ((n : Int))] (mkh (m_upd (m_upd μ 68 F) 69 q) c s) _
    refine rn_icmp_ge (k' := 18) rfl rfl (fun hc1 => ?_) (fun hc1 => ?_)
    · exfalso; omega
    · skip
      refine rn_aload_n (k' := 19) rfl rfl rfl ?_
      refine rn_getR (k' := 20) rfl rfl K0_82 (by decide) rfl R0_82_1 ?_
      refine rn_getR (k' := 21) rfl rfl K0_66 (by decide) rfl R0_66_2 ?_
      refine rn_aload_n (k' := 22) rfl rfl rfl ?_
      refine rn_getR (k' := 23) rfl rfl K0_82 (by decide) rfl R0_82_3 ?_
      refine rn_getR (k' := 24) rfl rfl K0_83 (by decide) rfl R0_83_1 ?_
      refine rn_iload_n (k' := 25) rfl rfl rfl ?_
      refine rn_iaload (k' := 26) rfl rfl K0_84 (by omega) (by omega) ?_
      show Rn PT none kX0_prowl 26 [some (mR 82), some (mI (ba (hel μ W (μ 84) (μ 85, μ 83 3, μ 83 4)) n)), some (mI (lst (hel μ W (μ 84) (μ 85, μ 83 3, μ 83 4)) (ba (hel μ W (μ 84) (μ 85, μ 83 3, μ 83 4)) n))), some (mI ((n : Int))), v4] [mI (μ 84 (n)), mR 68] (mkh (m_upd (m_upd μ 68 F) 69 q) c s) _
      refine rn_iaload (k' := 27) rfl rfl K0_68 (by omega) (by omega) ?_
      show Rn PT none kX0_prowl 27 [some (mR 82), some (mI (ba (hel μ W (μ 84) (μ 85, μ 83 3, μ 83 4)) n)), some (mI (lst (hel μ W (μ 84) (μ 85, μ 83 3, μ 83 4)) (ba (hel μ W (μ 84) (μ 85, μ 83 3, μ 83 4)) n))), some (mI ((n : Int))), v4] [mI (F ((μ 84 (n)).toNat))] (mkh (m_upd (m_upd μ 68 F) 69 q) c s) _
      refine rn_istore (k' := 28) (L' := [some (mR 82), some (mI (ba (hel μ W (μ 84) (μ 85, μ 83 3, μ 83 4)) n)), some (mI (lst (hel μ W (μ 84) (μ 85, μ 83 3, μ 83 4)) (ba (hel μ W (μ 84) (μ 85, μ 83 3, μ 83 4)) n))), some (mI ((n : Int))), some (mI (F ((μ 84 (n)).toNat)))]) rfl rfl (Nat.le_of_ble_eq_true rfl) rfl ?_
      refine rn_aload_n (k' := 29) rfl rfl rfl ?_
      refine rn_getR (k' := 30) rfl rfl K0_82 (by decide) rfl R0_82_3 ?_
      refine rn_getR (k' := 31) rfl rfl K0_83 (by decide) rfl R0_83_2 ?_
      refine rn_iload_n (k' := 32) rfl rfl rfl ?_
      refine rn_iaload (k' := 33) rfl rfl K0_85 (by omega) (by omega) ?_
      show Rn PT none kX0_prowl 33 [some (mR 82), some (mI (ba (hel μ W (μ 84) (μ 85, μ 83 3, μ 83 4)) n)), some (mI (lst (hel μ W (μ 84) (μ 85, μ 83 3, μ 83 4)) (ba (hel μ W (μ 84) (μ 85, μ 83 3, μ 83 4)) n))), some (mI ((n : Int))), some (mI (F ((μ 84 (n)).toNat)))] [mI (μ 85 (n))] (mkh (m_upd (m_upd μ 68 F) 69 q) c s) _
      refine rn_if_le (k' := 34) rfl rfl (fun hc2 => ?_) (fun hc2 => ?_)
      · skip
        refine rn_iinc (k' := 45) (L' := [some (mR 82), some (mI (ba (hel μ W (μ 84) (μ 85, μ 83 3, μ 83 4)) n)), some (mI (lst (hel μ W (μ 84) (μ 85, μ 83 3, μ 83 4)) (ba (hel μ W (μ 84) (μ 85, μ 83 3, μ 83 4)) n))), some (mI ((n : Int) + 1)), some (mI (F ((μ 84 (n)).toNat)))]) rfl rfl rfl (by omega) rfl ?_
        refine rn_goto rfl ?_
        exact ih (n + 1) _ _ _ _ (by omega) (by omega) (by first | rw [ba_pos (by omega)] | rw [ba_neg (by omega)]) (by first | (rw [ba_pos (by omega), lst_p (by omega)]; show _ = (hel μ W (μ 84) (μ 85, μ 83 3, μ 83 4)) n; omega) | rw [ba_neg (by omega)])
      · skip
        refine rn_iload (k' := 35) rfl rfl rfl ?_
        refine rn_iconst (k' := 36) rfl rfl ?_
        refine rn_icmp_eq (k' := 37) rfl rfl (fun hc3 => ?_) (fun hc3 => ?_)
        · skip
          refine rn_iinc (k' := 45) (L' := [some (mR 82), some (mI (ba (hel μ W (μ 84) (μ 85, μ 83 3, μ 83 4)) n)), some (mI (lst (hel μ W (μ 84) (μ 85, μ 83 3, μ 83 4)) (ba (hel μ W (μ 84) (μ 85, μ 83 3, μ 83 4)) n))), some (mI ((n : Int) + 1)), some (mI (F ((μ 84 (n)).toNat)))]) rfl rfl rfl (by omega) rfl ?_
          refine rn_goto rfl ?_
          exact ih (n + 1) _ _ _ _ (by omega) (by omega) (by first | rw [ba_pos (by omega)] | rw [ba_neg (by omega)]) (by first | (rw [ba_pos (by omega), lst_p (by omega)]; show _ = (hel μ W (μ 84) (μ 85, μ 83 3, μ 83 4)) n; omega) | rw [ba_neg (by omega)])
        · skip
          refine rn_iload (k' := 38) rfl rfl rfl ?_
          refine rn_iload_n (k' := 39) rfl rfl rfl ?_
          refine rn_icmp_ge (k' := 40) rfl rfl (fun hc4 => ?_) (fun hc4 => ?_)
          · skip
            refine rn_iinc (k' := 45) (L' := [some (mR 82), some (mI (ba (hel μ W (μ 84) (μ 85, μ 83 3, μ 83 4)) n)), some (mI (lst (hel μ W (μ 84) (μ 85, μ 83 3, μ 83 4)) (ba (hel μ W (μ 84) (μ 85, μ 83 3, μ 83 4)) n))), some (mI ((n : Int) + 1)), some (mI (F ((μ 84 (n)).toNat)))]) rfl rfl rfl (by omega) rfl ?_
            refine rn_goto rfl ?_
            exact ih (n + 1) _ _ _ _ (by omega) (by omega) (by first | rw [ba_pos (by omega)] | rw [ba_neg (by omega)]) (by first | (rw [ba_pos (by omega), lst_p (by omega)]; show _ = (hel μ W (μ 84) (μ 85, μ 83 3, μ 83 4)) n; omega) | rw [ba_neg (by omega)])
          · skip
            refine rn_iload (k' := 41) rfl rfl rfl ?_
            refine rn_istore_n (k' := 42) (L' := [some (mR 82), some (mI (ba (hel μ W (μ 84) (μ 85, μ 83 3, μ 83 4)) n)), some (mI (F ((μ 84 (n)).toNat))), some (mI ((n : Int))), some (mI (F ((μ 84 (n)).toNat)))]) rfl rfl (Nat.le_of_ble_eq_true rfl) rfl ?_
            refine rn_iload_n (k' := 43) rfl rfl rfl ?_
            refine rn_istore_n (k' := 44) (L' := [some (mR 82), some (mI ((n : Int))), some (mI (F ((μ 84 (n)).toNat))), some (mI ((n : Int))), some (mI (F ((μ 84 (n)).toNat)))]) rfl rfl (Nat.le_of_ble_eq_true rfl) rfl ?_
            refine rn_iinc (k' := 45) (L' := [some (mR 82), some (mI ((n : Int))), some (mI (F ((μ 84 (n)).toNat))), some (mI ((n : Int) + 1)), some (mI (F ((μ 84 (n)).toNat)))]) rfl rfl rfl (by omega) rfl ?_
            refine rn_goto rfl ?_
            exact ih (n + 1) _ _ _ _ (by omega) (by omega) (by first | rw [ba_pos (by omega)] | rw [ba_neg (by omega)]) (by first | (rw [ba_pos (by omega), lst_p (by omega)]; show _ = (hel μ W (μ 84) (μ 85, μ 83 3, μ 83 4)) n; omega) | rw [ba_neg (by omega)])
set_option maxHeartbeats 4000000 in
theorem c_prowl_no {μ : Nat → Nat → Int} {c s : Nat} (hL : I_land μ) {W : Int} (hO : ∀ x, g_cell μ x → (g_dep μ x W ≤ μ 6 15 → μ 67 x.toNat = 1) ∧ (¬ g_dep μ x W ≤ μ 6 15 → μ 67 x.toNat = 0)) (hw : g_cell μ (μ 83 3)) (hcl : ∀ j : Nat, (j : Int) < μ 6 13 → g_cell μ (μ 84 j)) (hb : ba (hel μ W (μ 84) (μ 85, μ 83 3, μ 83 4)) (μ 6 13).toNat = -1) : ∃ F q, Cl PT 11 [mR 82] (mkh μ c s) (fun r => r = (some (some (mI 0)), mkh (m_upd (m_upd μ 68 F) 69 q) c s)) := by
  have hL_ := hL
  obtain ⟨lc, lr, le, lm, lw, lh, lwo, lwd, q0, q1, q2, q3, q4, q8, q499, q500, lth, lG, lT, lW, -⟩ := hL_
  obtain ⟨F, q, hF, hcl1⟩ := c_floodFrom (μ := μ) (c := c) (s := s) hL (O := fun z => g_dep μ z W ≤ μ 6 15) hO (a := μ 83 3) hw
  have hF1 : ∀ j, j < 100 → F j = wF μ W (μ 83 3) j := hF
  refine ⟨F, q, ?_⟩
  refine ⟨_, PT_11, Nat.le_of_ble_eq_true rfl, ?_⟩
  show Rn PT none kX0_prowl 0 [some (mR 82), none, none, none, none] [] (mkh μ c s) _
  refine rn_aload_n (k' := 1) rfl rfl rfl ?_
  refine rn_getR (k' := 2) rfl rfl K0_82 (by decide) rfl R0_82_1 ?_
  refine rn_aload_n (k' := 3) rfl rfl rfl ?_
  refine rn_getR (k' := 4) rfl rfl K0_82 (by decide) rfl R0_82_3 ?_
  refine rn_getI (k' := 5) rfl rfl K0_83 (by decide) rfl ?_
  refine rn_callP (k' := 6) (y := 89) (vs := [mR 66, mI (μ 83 3)]) (S' := []) (v := some (mI ((((bfs (g_nb μ) (fun z => g_dep μ z W ≤ μ 6 15) (μ 83 3)).2.2 : Nat) : Int)))) (h' := mkh (m_upd (m_upd μ 68 F) 69 q) c s) rfl rfl rfl (hcl1) ?_
  show Rn PT none kX0_prowl 6 [some (mR 82), none, none, none, none] [mI ((((bfs (g_nb μ) (fun z => g_dep μ z W ≤ μ 6 15) (μ 83 3)).2.2 : Nat) : Int))] (mkh (m_upd (m_upd μ 68 F) 69 q) c s) _
  refine rn_popI (k' := 7) rfl rfl ?_
  refine rn_iconst (k' := 8) rfl rfl ?_
  refine rn_istore_n (k' := 9) (L' := [some (mR 82), some (mI (-1)), none, none, none]) rfl rfl (Nat.le_of_ble_eq_true rfl) rfl ?_
  refine rn_ldc (k' := 10) rfl rfl ?_
  refine rn_istore_n (k' := 11) (L' := [some (mR 82), some (mI (-1)), some (mI (1000000000)), none, none]) rfl rfl (Nat.le_of_ble_eq_true rfl) rfl ?_
  refine rn_iconst (k' := 12) rfl rfl ?_
  refine rn_istore_n (k' := 13) (L' := [some (mR 82), some (mI (-1)), some (mI (1000000000)), some (mI (0)), none]) rfl rfl (Nat.le_of_ble_eq_true rfl) rfl ?_
  refine l_prowl hL hO hw hcl hF1 (fun v4 => ?_) (μ 6 13).toNat 0 _ _ _ _ rfl (by omega) rfl rfl
  refine rn_iload_n (k' := 47) rfl rfl rfl ?_
  refine rn_iconst (k' := 48) rfl rfl ?_
  refine rn_icmp_ne (k' := 49) rfl rfl (fun hc1 => ?_) (fun hc1 => ?_)
  · exfalso; omega
  · skip
    refine rn_iconst (k' := 50) rfl rfl ?_
    refine rn_iret rfl (Or.inr (by omega)) ?_
    rfl
set_option maxHeartbeats 4000000 in
theorem c_prowl_yes {μ : Nat → Nat → Int} {c s : Nat} (hL : I_land μ) {W : Int} (hO : ∀ x, g_cell μ x → (g_dep μ x W ≤ μ 6 15 → μ 67 x.toNat = 1) ∧ (¬ g_dep μ x W ≤ μ 6 15 → μ 67 x.toNat = 0)) (hw : g_cell μ (μ 83 3)) (hcl : ∀ j : Nat, (j : Int) < μ 6 13 → g_cell μ (μ 84 j)) {m : Nat} (hb : ba (hel μ W (μ 84) (μ 85, μ 83 3, μ 83 4)) (μ 6 13).toNat = (m : Int)) (hne : ¬ μ 84 m = μ 83 3) : ∃ F q, Cl PT 11 [mR 82] (mkh μ c s) (fun r => r = (some (some (mI 1)), mkh (m_set (m_upd (m_upd μ 68 F) 69 q) 83 3 (g_nb μ (μ 83 3) (ba (gdir μ (wF μ W (μ 84 m)) (μ 83 3)) 4))) c s)) := by
  have hL_ := hL
  obtain ⟨lc, lr, le, lm, lw, lh, lwo, lwd, q0, q1, q2, q3, q4, q8, q499, q500, lth, lG, lT, lW, -⟩ := hL_
  have hwb := g_cell_b hL hw
  obtain ⟨f1, f2, f3⟩ := hel_found hb
  have hmb := g_cell_b hL (hcl m f1)
  obtain ⟨F, q, hF, hcl1⟩ := c_floodFrom (μ := μ) (c := c) (s := s) hL (O := fun z => g_dep μ z W ≤ μ 6 15) hO (a := μ 83 3) hw
  have hF1 : ∀ j, j < 100 → F j = wF μ W (μ 83 3) j := hF
  obtain ⟨F2, q2, hF2, hcl2⟩ := c_floodFrom (μ := (m_upd (m_upd μ 68 F) 69 q)) (c := c) (s := s) ((hL.upd rfl).upd rfl) (O := fun z => g_dep μ z W ≤ μ 6 15) hO (a := μ 84 m) (hcl m f1)
  have eN : g_nb (m_upd (m_upd μ 68 F) 69 q) = g_nb μ := rfl
  rw [eN] at hF2 hcl2
  rw [updupd (by decide)] at hcl2
  have hF3 : ∀ j, j < 100 → F2 j = wF μ W (μ 84 m) j := hF2
  have hx := hunt_exit (W := W) hL hw (hcl m f1) hne f3
  have hx3 := ba_b (f := gdir μ (wF μ W (μ 84 m)) (μ 83 3)) 4
  have hnr := c_X10_nearer (μ := (m_upd (m_upd μ 68 F2) 69 q2)) (c := c) (s := s) ((hL.upd rfl).upd rfl) (a := μ 83 3) hw (G := wF μ W (μ 84 m)) hF3 (fun j => wF_b hL (hcl m f1) j)
  rw [gdir_rows (ν := (m_upd (m_upd μ 68 F2) 69 q2)) (μ := μ) rfl, nz_p hx] at hnr
  have hnb : ¬ g_nb μ (μ 83 3) (ba (gdir μ (wF μ W (μ 84 m)) (μ 83 3)) 4) = -1 := by
    have hx2 := ba_el 4 hx
    intro z
    unfold gdir at hx2
    rw [if_pos] at hx2
    · exact hx2 rfl
    · have e : ((ba (fun d => if g_nb μ (μ 83 3) (d : Nat) = -1 then -1 else wF μ W (μ 84 m) (g_nb μ (μ 83 3) (d : Nat)).toNat) 4).toNat : Int) = ba (gdir μ (wF μ W (μ 84 m)) (μ 83 3)) 4 := Int.toNat_of_nonneg (show 0 ≤ ba (gdir μ (wF μ W (μ 84 m)) (μ 83 3)) 4 by omega)
      rw [e]; exact z
  refine ⟨F2, q2, ?_⟩
  refine ⟨_, PT_11, Nat.le_of_ble_eq_true rfl, ?_⟩
  show Rn PT none kX0_prowl 0 [some (mR 82), none, none, none, none] [] (mkh μ c s) _
  refine rn_aload_n (k' := 1) rfl rfl rfl ?_
  refine rn_getR (k' := 2) rfl rfl K0_82 (by decide) rfl R0_82_1 ?_
  refine rn_aload_n (k' := 3) rfl rfl rfl ?_
  refine rn_getR (k' := 4) rfl rfl K0_82 (by decide) rfl R0_82_3 ?_
  refine rn_getI (k' := 5) rfl rfl K0_83 (by decide) rfl ?_
  refine rn_callP (k' := 6) (y := 89) (vs := [mR 66, mI (μ 83 3)]) (S' := []) (v := some (mI ((((bfs (g_nb μ) (fun z => g_dep μ z W ≤ μ 6 15) (μ 83 3)).2.2 : Nat) : Int)))) (h' := mkh (m_upd (m_upd μ 68 F) 69 q) c s) rfl rfl rfl (hcl1) ?_
  show Rn PT none kX0_prowl 6 [some (mR 82), none, none, none, none] [mI ((((bfs (g_nb μ) (fun z => g_dep μ z W ≤ μ 6 15) (μ 83 3)).2.2 : Nat) : Int))] (mkh (m_upd (m_upd μ 68 F) 69 q) c s) _
  refine rn_popI (k' := 7) rfl rfl ?_
  refine rn_iconst (k' := 8) rfl rfl ?_
  refine rn_istore_n (k' := 9) (L' := [some (mR 82), some (mI (-1)), none, none, none]) rfl rfl (Nat.le_of_ble_eq_true rfl) rfl ?_
  refine rn_ldc (k' := 10) rfl rfl ?_
  refine rn_istore_n (k' := 11) (L' := [some (mR 82), some (mI (-1)), some (mI (1000000000)), none, none]) rfl rfl (Nat.le_of_ble_eq_true rfl) rfl ?_
  refine rn_iconst (k' := 12) rfl rfl ?_
  refine rn_istore_n (k' := 13) (L' := [some (mR 82), some (mI (-1)), some (mI (1000000000)), some (mI (0)), none]) rfl rfl (Nat.le_of_ble_eq_true rfl) rfl ?_
  refine l_prowl hL hO hw hcl hF1 (fun v4 => ?_) (μ 6 13).toNat 0 _ _ _ _ rfl (by omega) rfl rfl
  rw [hb]
  refine rn_iload_n (k' := 47) rfl rfl rfl ?_
  refine rn_iconst (k' := 48) rfl rfl ?_
  refine rn_icmp_ne (k' := 49) rfl rfl (fun hc1 => ?_) (fun hc1 => ?_)
  · skip
    refine rn_aload_n (k' := 52) rfl rfl rfl ?_
    refine rn_getR (k' := 53) rfl rfl K0_82 (by decide) rfl R0_82_1 ?_
    refine rn_aload_n (k' := 54) rfl rfl rfl ?_
    refine rn_getR (k' := 55) rfl rfl K0_82 (by decide) rfl R0_82_3 ?_
    refine rn_getR (k' := 56) rfl rfl K0_83 (by decide) rfl R0_83_1 ?_
    refine rn_iload_n (k' := 57) rfl rfl rfl ?_
    refine rn_iaload (k' := 58) rfl rfl K0_84 (by omega) (by omega) ?_
    show Rn PT none kX0_prowl 58 [some (mR 82), some (mI ((m : Int))), some (mI (lst (hel μ W (μ 84) (μ 85, μ 83 3, μ 83 4)) (m : Int))), some (mI (μ 6 13)), v4] [mI (μ 84 (m)), mR 66] (mkh (m_upd (m_upd μ 68 F) 69 q) c s) _
    refine rn_callP (k' := 59) (y := 89) (vs := [mR 66, mI (μ 84 (m))]) (S' := []) (v := some (mI ((((bfs (g_nb μ) (fun z => g_dep μ z W ≤ μ 6 15) (μ 84 m)).2.2 : Nat) : Int)))) (h' := mkh (m_upd (m_upd μ 68 F2) 69 q2) c s) rfl rfl rfl (hcl2) ?_
    show Rn PT none kX0_prowl 59 [some (mR 82), some (mI ((m : Int))), some (mI (lst (hel μ W (μ 84) (μ 85, μ 83 3, μ 83 4)) (m : Int))), some (mI (μ 6 13)), v4] [mI ((((bfs (g_nb μ) (fun z => g_dep μ z W ≤ μ 6 15) (μ 84 m)).2.2 : Nat) : Int))] (mkh (m_upd (m_upd μ 68 F2) 69 q2) c s) _
    refine rn_popI (k' := 60) rfl rfl ?_
    refine rn_aload_n (k' := 61) rfl rfl rfl ?_
    refine rn_getR (k' := 62) rfl rfl K0_82 (by decide) rfl R0_82_0 ?_
    refine rn_aload_n (k' := 63) rfl rfl rfl ?_
    refine rn_getR (k' := 64) rfl rfl K0_82 (by decide) rfl R0_82_3 ?_
    refine rn_getI (k' := 65) rfl rfl K0_83 (by decide) rfl ?_
    show Rn PT none kX0_prowl 65 [some (mR 82), some (mI ((m : Int))), some (mI (lst (hel μ W (μ 84) (μ 85, μ 83 3, μ 83 4)) (m : Int))), some (mI (μ 6 13)), v4] [mI (μ 83 3), mR 6] (mkh (m_upd (m_upd μ 68 F2) 69 q2) c s) _
    refine rn_aload_n (k' := 66) rfl rfl rfl ?_
    refine rn_getR (k' := 67) rfl rfl K0_82 (by decide) rfl R0_82_1 ?_
    refine rn_aload_n (k' := 68) rfl rfl rfl ?_
    refine rn_getR (k' := 69) rfl rfl K0_82 (by decide) rfl R0_82_3 ?_
    refine rn_getI (k' := 70) rfl rfl K0_83 (by decide) rfl ?_
    show Rn PT none kX0_prowl 70 [some (mR 82), some (mI ((m : Int))), some (mI (lst (hel μ W (μ 84) (μ 85, μ 83 3, μ 83 4)) (m : Int))), some (mI (μ 6 13)), v4] [mI (μ 83 3), mR 66, mI (μ 83 3), mR 6] (mkh (m_upd (m_upd μ 68 F2) 69 q2) c s) _
    refine rn_callP (k' := 71) (y := 92) (vs := [mR 66, mI (μ 83 3)]) (S' := [mI (μ 83 3), mR 6]) (v := some (mI (ba (gdir μ (wF μ W (μ 84 m)) (μ 83 3)) 4))) (h' := mkh (m_upd (m_upd μ 68 F2) 69 q2) c s) rfl rfl rfl (hnr) ?_
    show Rn PT none kX0_prowl 71 [some (mR 82), some (mI ((m : Int))), some (mI (lst (hel μ W (μ 84) (μ 85, μ 83 3, μ 83 4)) (m : Int))), some (mI (μ 6 13)), v4] [mI (ba (gdir μ (wF μ W (μ 84 m)) (μ 83 3)) 4), mI (μ 83 3), mR 6] (mkh (m_upd (m_upd μ 68 F2) 69 q2) c s) _
    refine rn_callP (k' := 72) (y := 39) (vs := [mR 6, mI (μ 83 3), mI (ba (gdir μ (wF μ W (μ 84 m)) (μ 83 3)) 4)]) (S' := []) (v := some (mI (g_nb μ (μ 83 3) (ba (gdir μ (wF μ W (μ 84 m)) (μ 83 3)) 4)))) (h' := mkh (m_upd (m_upd μ 68 F2) 69 q2) c s) rfl rfl rfl (k_neighbour (μ := (m_upd (m_upd μ 68 F2) 69 q2)) (c := c) (s := s) ((hL.upd rfl).upd rfl) (a := μ 83 3) (d := ba (gdir μ (wF μ W (μ 84 m)) (μ 83 3)) 4) (by omega) (by omega)) ?_
    show Rn PT none kX0_prowl 72 [some (mR 82), some (mI ((m : Int))), some (mI (lst (hel μ W (μ 84) (μ 85, μ 83 3, μ 83 4)) (m : Int))), some (mI (μ 6 13)), v4] [mI (g_nb μ (μ 83 3) (ba (gdir μ (wF μ W (μ 84 m)) (μ 83 3)) 4))] (mkh (m_upd (m_upd μ 68 F2) 69 q2) c s) _
    refine rn_istore_n (k' := 73) (L' := [some (mR 82), some (mI ((m : Int))), some (mI (lst (hel μ W (μ 84) (μ 85, μ 83 3, μ 83 4)) (m : Int))), some (mI (g_nb μ (μ 83 3) (ba (gdir μ (wF μ W (μ 84 m)) (μ 83 3)) 4))), v4]) rfl rfl (Nat.le_of_ble_eq_true rfl) rfl ?_
    refine rn_aload_n (k' := 74) rfl rfl rfl ?_
    refine rn_getR (k' := 75) rfl rfl K0_82 (by decide) rfl R0_82_3 ?_
    refine rn_iload_n (k' := 76) rfl rfl rfl ?_
    refine rn_iconst (k' := 77) rfl rfl ?_
    refine rn_icmp_ne (k' := 78) rfl rfl (fun hc2 => ?_) (fun hc2 => ?_)
    · skip
      refine rn_iload_n (k' := 83) rfl rfl rfl ?_
      refine rn_putI (k' := 84) rfl rfl K0_83 (by decide) rfl ?_
      refine rn_iconst (k' := 85) rfl rfl ?_
      refine rn_iret rfl (Or.inr (by omega)) ?_
      rfl
    · exfalso; omega
  · exfalso; omega
