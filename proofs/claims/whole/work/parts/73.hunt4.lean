variable {N : Int}
/-! ===== printed by wip/whole/gen73.py: hunt of the class ===== -/
theorem fF_inv {p : Nat → Prop} [DecidablePred p] : ∀ (d n : Nat), (fF p n d = -1 ∧ ∀ j, n ≤ j → j < n + d → ¬ p j) ∨ (∃ m : Nat, fF p n d = (m : Int) ∧ n ≤ m ∧ m < n + d ∧ p m ∧ ∀ j, n ≤ j → j < m → ¬ p j)
  | 0, n => Or.inl ⟨rfl, fun j h1 h2 => by omega⟩
  | d + 1, n => by
    by_cases h : p n
    · exact Or.inr ⟨n, fF_pos h, by omega, by omega, h, fun j h1 h2 => by omega⟩
    · rw [fF_neg h]
      rcases fF_inv (p := p) d (n + 1) with ⟨h1, h2⟩ | ⟨m, h1, h2, h3, h4, h5⟩
      · refine Or.inl ⟨h1, fun j j1 j2 => ?_⟩
        by_cases e : j = n
        · rw [e]; exact h
        · exact h2 j (by omega) (by omega)
      · refine Or.inr ⟨m, h1, by omega, by omega, h4, fun j j1 j2 => ?_⟩
        by_cases e : j = n
        · rw [e]; exact h
        · exact h5 j (by omega) j2
/-- prey at hand is the herd found -/
theorem hel_hand {μ : Nat → Nat → Int} (hL : I_land μ) {W : Int} {cl : Nat → Int} {st : HT} {B : Int} (hk : hOK μ cl B st) {m : Nat} (hm : (m : Int) < μ 6 13) (h1 : cl m = st.2.1 ∧ 0 < st.1 m) (h2 : ∀ j, j < m → ¬ (cl j = st.2.1 ∧ 0 < st.1 j)) : ba (hel μ W cl st) (μ 6 13).toNat = (m : Int) := by
  obtain ⟨k1, k2, k3, k4⟩ := hk
  refine ba_first (fun j => ?_) ?_ (fun j hj => ?_) (by omega)
  · unfold hel
    split
    · exact (wF_b hL k1 _).1
    · omega
  · unfold hel
    rw [if_pos h1.2]
    exact (wF_zero hL k1 (k4 m hm)).mpr h1.1
  · unfold hel
    by_cases c : 0 < st.1 j
    · rw [if_pos c]
      intro z
      exact h2 j hj ⟨(wF_zero hL k1 (k4 j (by omega))).mp z, c⟩
    · rw [if_neg c]; decide
set_option maxHeartbeats 4000000 in
theorem l_hunt {μ : Nat → Nat → Int} {c s : Nat} (hL : I_land μ) {W : Int} (hO : ∀ x, g_cell μ x → (g_dep μ x W ≤ μ 6 15 → μ 67 x.toNat = 1) ∧ (¬ g_dep μ x W ≤ μ 6 15 → μ 67 x.toNat = 0)) {B : Int} (hB : B ≤ 1000000) (h0 : hOK μ (μ 84) B (μ 85, μ 83 3, μ 83 4)) {R : Nat} (hR : R ≤ 20) : ∀ (d n : Nat) (k hv : Int) (F q A C : Nat → Int) (v4 : Option MV), k = (n : Int) → n + d = R → A 0 = μ 83 0 → hunt μ W (μ 84) (μ 85, μ 83 3, μ 83 4) n = (C, A 3, A 4) → (hv = 1 ∨ (hv = 0 ∧ ba (hel μ W (μ 84) (C, A 3, A 4)) (μ 6 13).toNat = -1)) → Rn PT none kX0_hunt 21 [some (mR 82), some (mI ((R : Int))), some (mI (hv)), some (mI (k)), v4] [] (mkh (m_upd (m_upd (m_upd (m_upd μ 68 F) 69 q) 83 A) 85 C) c s) (fun r => ∃ F q A C, r = (some (some (mI 0)), mkh (m_upd (m_upd (m_upd (m_upd μ 68 F) 69 q) 83 A) 85 C) c s) ∧ A 0 = μ 83 0 ∧ hunt μ W (μ 84) (μ 85, μ 83 3, μ 83 4) R = (C, A 3, A 4)) := by
  have hL_ := hL
  obtain ⟨lc, lr, le, lm, lw, lh, lwo, lwd, q0, q1, q2, q3, q4, q8, q499, q500, lth, lG, lT, lW, -⟩ := hL_
  intro d
  induction d with
  | zero =>
    intro n k hv F q A C v4 ek hn hA0 hst hfl
    subst ek
    refine rn_iload_n (k' := 22) rfl rfl rfl ?_
    refine rn_iload_n (k' := 23) rfl rfl rfl ?_
    refine rn_icmp_ge (k' := 24) rfl rfl (fun hc1 => ?_) (fun hc1 => ?_)
    · skip
      refine rn_iconst (k' := 55) rfl rfl ?_
      refine rn_iret rfl (Or.inl rfl) ?_
      exact ⟨F, q, A, C, rfl, hA0, by rw [show R = n by omega]; exact hst⟩
    · exfalso; omega
  | succ d ih =>
    intro n k hv F q A C v4 ek hn hA0 hst hfl
    subst ek
    have hok := hunt_ok hL (W := W) h0 n
    rw [hst] at hok
    have k1 : g_cell μ (A 3) := hok.1
    have k2 : ∀ j : Nat, (j : Int) < μ 6 13 → 0 ≤ C j ∧ C j ≤ 99 := hok.2.1
    have k3 : 0 ≤ A 4 ∧ A 4 ≤ B + n := hok.2.2.1
    have k4 := hok.2.2.2
    have hpr : Cl PT 10 [mR 82] (mkh (m_upd (m_upd (m_upd (m_upd μ 68 F) 69 q) 83 A) 85 C) c s) (fun r => r = (some (some (mI (fF (fun j : Nat => μ 84 j = A 3 ∧ 0 < C j) 0 (μ 6 13).toNat))), mkh (m_upd (m_upd (m_upd (m_upd μ 68 F) 69 q) 83 A) 85 C) c s)) := c_X0_preyAtHand (μ := (m_upd (m_upd (m_upd (m_upd μ 68 F) 69 q) 83 A) 85 C)) ((((hL.upd rfl).upd rfl).upd rfl).upd rfl)
    rcases hfl with hfl | ⟨hf0, hfs⟩
    · rcases fF_inv (p := fun j : Nat => μ 84 j = A 3 ∧ 0 < C j) (μ 6 13).toNat 0 with ⟨h1, h2⟩ | ⟨m, h1, h2, h3, h4, h5⟩
      · rw [h1] at hpr
        rcases (show ba (hel μ W (μ 84) (C, A 3, A 4)) (μ 6 13).toNat = -1 ∨ 0 ≤ ba (hel μ W (μ 84) (C, A 3, A 4)) (μ 6 13).toNat by have := ba_b (f := hel μ W (μ 84) (C, A 3, A 4)) (μ 6 13).toNat; omega) with hb | hb
        · obtain ⟨F2, q2, hpw⟩ := c_prowl_no (μ := (m_upd (m_upd (m_upd (m_upd μ 68 F) 69 q) 83 A) 85 C)) (c := c) (s := s) ((((hL.upd rfl).upd rfl).upd rfl).upd rfl) (W := W) hO k1 k4 (by rw [hel_rows (ν := (m_upd (m_upd (m_upd (m_upd μ 68 F) 69 q) 83 A) 85 C)) (μ := μ) rfl rfl]; exact hb)
          have hs1 : hunt μ W (μ 84) (μ 85, μ 83 3, μ 83 4) (n + 1) = (C, A 3, A 4) := by
            show hun μ W (μ 84) (hunt μ W (μ 84) (μ 85, μ 83 3, μ 83 4) n) = _
            rw [hst, hun_stay hb]
          refine rn_iload_n (k' := 22) rfl rfl rfl ?_
          refine rn_iload_n (k' := 23) rfl rfl rfl ?_
          refine rn_icmp_ge (k' := 24) rfl rfl (fun hc1 => ?_) (fun hc1 => ?_)
          · exfalso; omega
          · skip
            refine rn_iload_n (k' := 25) rfl rfl rfl ?_
            refine rn_if_eq (k' := 26) rfl rfl (fun hc2 => ?_) (fun hc2 => ?_)
            · exfalso; omega
            · skip
              refine rn_aload_n (k' := 27) rfl rfl rfl ?_
              refine rn_callP (k' := 28) (y := 10) (vs := [mR 82]) (S' := []) (v := some (mI (-1))) (h' := mkh (m_upd (m_upd (m_upd (m_upd μ 68 F) 69 q) 83 A) 85 C) c s) rfl rfl rfl (hpr) ?_
              show Rn PT none kX0_hunt 28 [some (mR 82), some (mI ((R : Int))), some (mI (hv)), some (mI ((n : Int))), v4] [mI (-1)] (mkh (m_upd (m_upd (m_upd (m_upd μ 68 F) 69 q) 83 A) 85 C) c s) _
              refine rn_istore (k' := 29) (L' := [some (mR 82), some (mI ((R : Int))), some (mI (hv)), some (mI ((n : Int))), some (mI (-1))]) rfl rfl (Nat.le_of_ble_eq_true rfl) rfl ?_
              refine rn_iload (k' := 30) rfl rfl rfl ?_
              refine rn_iconst (k' := 31) rfl rfl ?_
              refine rn_icmp_eq (k' := 32) rfl rfl (fun hc3 => ?_) (fun hc3 => ?_)
              · skip
                refine rn_aload_n (k' := 50) rfl rfl rfl ?_
                refine rn_callP (k' := 51) (y := 11) (vs := [mR 82]) (S' := []) (v := some (mI (0))) (h' := mkh (m_upd (m_upd (m_upd (m_upd (m_upd (m_upd μ 68 F) 69 q) 83 A) 85 C) 68 F2) 69 q2) c s) rfl rfl rfl (hpw) ?_
                show Rn PT none kX0_hunt 51 [some (mR 82), some (mI ((R : Int))), some (mI (hv)), some (mI ((n : Int))), some (mI (-1))] [mI (0)] (mkh (m_upd (m_upd (m_upd (m_upd (m_upd (m_upd μ 68 F) 69 q) 83 A) 85 C) 68 F2) 69 q2) c s) _
                refine rn_istore_n (k' := 52) (L' := [some (mR 82), some (mI ((R : Int))), some (mI (0)), some (mI ((n : Int))), some (mI (-1))]) rfl rfl (Nat.le_of_ble_eq_true rfl) rfl ?_
                refine rn_iinc (k' := 53) (L' := [some (mR 82), some (mI ((R : Int))), some (mI (0)), some (mI ((n : Int) + 1)), some (mI (-1))]) rfl rfl rfl (by omega) rfl ?_
                refine rn_goto rfl ?_
                show Rn PT none kX0_hunt 21 [some (mR 82), some (mI ((R : Int))), some (mI (0)), some (mI ((n : Int) + 1)), some (mI (-1))] [] (mkh (m_upd (m_upd (m_upd (m_upd (m_upd (m_upd μ 68 F) 69 q) 83 A) 85 C) 68 F2) 69 q2) c s) _
                rw [upd4_of (μ := μ) (ν := (m_upd (m_upd (m_upd (m_upd (m_upd (m_upd μ 68 F) 69 q) 83 A) 85 C) 68 F2) 69 q2)) (x := 68) (y := 69) (z := 83) (w := 85) (fun b hb68 hb69 hb83 hb85 => ((row_upd hb69).trans ((row_upd hb68).trans ((row_upd hb85).trans ((row_upd hb83).trans ((row_upd hb69).trans (row_upd hb68)))))))]
                refine ih (n + 1) _ _ _ _ _ _ _ (by omega) (by omega) hA0 hs1 (Or.inr ⟨rfl, hb⟩)
              · exfalso; omega
        · obtain ⟨m, hm⟩ := Int.eq_ofNat_of_zero_le hb
          obtain ⟨f1, f2, f3⟩ := hel_found hm
          have hne : ¬ μ 84 m = A 3 := fun z => h2 m (by omega) (by omega) ⟨z, f2⟩
          obtain ⟨F2, q2, hpw⟩ := c_prowl_yes (μ := (m_upd (m_upd (m_upd (m_upd μ 68 F) 69 q) 83 A) 85 C)) (c := c) (s := s) ((((hL.upd rfl).upd rfl).upd rfl).upd rfl) (W := W) hO k1 k4 (m := m) (by rw [hel_rows (ν := (m_upd (m_upd (m_upd (m_upd μ 68 F) 69 q) 83 A) 85 C)) (μ := μ) rfl rfl]; exact hm) hne
          rw [gdir_rows (ν := (m_upd (m_upd (m_upd (m_upd μ 68 F) 69 q) 83 A) 85 C)) (μ := μ) rfl, wF_rows (ν := (m_upd (m_upd (m_upd (m_upd μ 68 F) 69 q) 83 A) 85 C)) (μ := μ) rfl rfl] at hpw
          have hs1 : hunt μ W (μ 84) (μ 85, μ 83 3, μ 83 4) (n + 1) = (C, g_nb μ (A 3) (ba (gdir μ (wF μ W (μ 84 m)) (A 3)) 4), A 4) := by
            show hun μ W (μ 84) (hunt μ W (μ 84) (μ 85, μ 83 3, μ 83 4) n) = _
            rw [hst, hun_go hm hne]
          refine rn_iload_n (k' := 22) rfl rfl rfl ?_
          refine rn_iload_n (k' := 23) rfl rfl rfl ?_
          refine rn_icmp_ge (k' := 24) rfl rfl (fun hc1 => ?_) (fun hc1 => ?_)
          · exfalso; omega
          · skip
            refine rn_iload_n (k' := 25) rfl rfl rfl ?_
            refine rn_if_eq (k' := 26) rfl rfl (fun hc2 => ?_) (fun hc2 => ?_)
            · exfalso; omega
            · skip
              refine rn_aload_n (k' := 27) rfl rfl rfl ?_
              refine rn_callP (k' := 28) (y := 10) (vs := [mR 82]) (S' := []) (v := some (mI (-1))) (h' := mkh (m_upd (m_upd (m_upd (m_upd μ 68 F) 69 q) 83 A) 85 C) c s) rfl rfl rfl (hpr) ?_
              show Rn PT none kX0_hunt 28 [some (mR 82), some (mI ((R : Int))), some (mI (hv)), some (mI ((n : Int))), v4] [mI (-1)] (mkh (m_upd (m_upd (m_upd (m_upd μ 68 F) 69 q) 83 A) 85 C) c s) _
              refine rn_istore (k' := 29) (L' := [some (mR 82), some (mI ((R : Int))), some (mI (hv)), some (mI ((n : Int))), some (mI (-1))]) rfl rfl (Nat.le_of_ble_eq_true rfl) rfl ?_
              refine rn_iload (k' := 30) rfl rfl rfl ?_
              refine rn_iconst (k' := 31) rfl rfl ?_
              refine rn_icmp_eq (k' := 32) rfl rfl (fun hc3 => ?_) (fun hc3 => ?_)
              · skip
                refine rn_aload_n (k' := 50) rfl rfl rfl ?_
                refine rn_callP (k' := 51) (y := 11) (vs := [mR 82]) (S' := []) (v := some (mI (1))) (h' := mkh (m_set (m_upd (m_upd (m_upd (m_upd (m_upd (m_upd μ 68 F) 69 q) 83 A) 85 C) 68 F2) 69 q2) 83 3 (g_nb μ (A 3) (ba (gdir μ (wF μ W (μ 84 m)) (A 3)) 4))) c s) rfl rfl rfl (hpw) ?_
                show Rn PT none kX0_hunt 51 [some (mR 82), some (mI ((R : Int))), some (mI (hv)), some (mI ((n : Int))), some (mI (-1))] [mI (1)] (mkh (m_set (m_upd (m_upd (m_upd (m_upd (m_upd (m_upd μ 68 F) 69 q) 83 A) 85 C) 68 F2) 69 q2) 83 3 (g_nb μ (A 3) (ba (gdir μ (wF μ W (μ 84 m)) (A 3)) 4))) c s) _
                refine rn_istore_n (k' := 52) (L' := [some (mR 82), some (mI ((R : Int))), some (mI (1)), some (mI ((n : Int))), some (mI (-1))]) rfl rfl (Nat.le_of_ble_eq_true rfl) rfl ?_
                refine rn_iinc (k' := 53) (L' := [some (mR 82), some (mI ((R : Int))), some (mI (1)), some (mI ((n : Int) + 1)), some (mI (-1))]) rfl rfl rfl (by omega) rfl ?_
                refine rn_goto rfl ?_
                show Rn PT none kX0_hunt 21 [some (mR 82), some (mI ((R : Int))), some (mI (1)), some (mI ((n : Int) + 1)), some (mI (-1))] [] (mkh (m_set (m_upd (m_upd (m_upd (m_upd (m_upd (m_upd μ 68 F) 69 q) 83 A) 85 C) 68 F2) 69 q2) 83 3 (g_nb μ (A 3) (ba (gdir μ (wF μ W (μ 84 m)) (A 3)) 4))) c s) _
                rw [upd4_of (μ := μ) (ν := (m_set (m_upd (m_upd (m_upd (m_upd (m_upd (m_upd μ 68 F) 69 q) 83 A) 85 C) 68 F2) 69 q2) 83 3 (g_nb μ (A 3) (ba (gdir μ (wF μ W (μ 84 m)) (A 3)) 4)))) (x := 68) (y := 69) (z := 83) (w := 85) (fun b hb68 hb69 hb83 hb85 => ((row_set hb83).trans ((row_upd hb69).trans ((row_upd hb68).trans ((row_upd hb85).trans ((row_upd hb83).trans ((row_upd hb69).trans (row_upd hb68))))))))]
                refine ih (n + 1) _ _ _ _ _ _ _ (by omega) (by omega) hA0 hs1 (Or.inl rfl)
              · exfalso; omega
      · rw [h1] at hpr
        have hm13 : (m : Int) < μ 6 13 := by omega
        have hm8 := k2 m (by omega)
        have hm := hel_hand hL (W := W) (cl := μ 84) hok hm13 h4 (fun j hj => h5 j (by omega) hj)
        have hs1 : hunt μ W (μ 84) (μ 85, μ 83 3, μ 83 4) (n + 1) = (fs C m (C m - 1), A 3, A 4 + 1) := by
          show hun μ W (μ 84) (hunt μ W (μ 84) (μ 85, μ 83 3, μ 83 4) n) = _
          rw [hst, hun_take hm h4.1]
        refine rn_iload_n (k' := 22) rfl rfl rfl ?_
        refine rn_iload_n (k' := 23) rfl rfl rfl ?_
        refine rn_icmp_ge (k' := 24) rfl rfl (fun hc1 => ?_) (fun hc1 => ?_)
        · exfalso; omega
        · skip
          refine rn_iload_n (k' := 25) rfl rfl rfl ?_
          refine rn_if_eq (k' := 26) rfl rfl (fun hc2 => ?_) (fun hc2 => ?_)
          · exfalso; omega
          · skip
            refine rn_aload_n (k' := 27) rfl rfl rfl ?_
            refine rn_callP (k' := 28) (y := 10) (vs := [mR 82]) (S' := []) (v := some (mI ((m : Int)))) (h' := mkh (m_upd (m_upd (m_upd (m_upd μ 68 F) 69 q) 83 A) 85 C) c s) rfl rfl rfl (hpr) ?_
            show Rn PT none kX0_hunt 28 [some (mR 82), some (mI ((R : Int))), some (mI (hv)), some (mI ((n : Int))), v4] [mI ((m : Int))] (mkh (m_upd (m_upd (m_upd (m_upd μ 68 F) 69 q) 83 A) 85 C) c s) _
            refine rn_istore (k' := 29) (L' := [some (mR 82), some (mI ((R : Int))), some (mI (hv)), some (mI ((n : Int))), some (mI ((m : Int)))]) rfl rfl (Nat.le_of_ble_eq_true rfl) rfl ?_
            refine rn_iload (k' := 30) rfl rfl rfl ?_
            refine rn_iconst (k' := 31) rfl rfl ?_
            refine rn_icmp_eq (k' := 32) rfl rfl (fun hc3 => ?_) (fun hc3 => ?_)
            · exfalso; omega
            · skip
              refine rn_aload_n (k' := 33) rfl rfl rfl ?_
              refine rn_getR (k' := 34) rfl rfl K0_82 (by decide) rfl R0_82_3 ?_
              refine rn_getR (k' := 35) rfl rfl K0_83 (by decide) rfl R0_83_2 ?_
              refine rn_iload (k' := 36) rfl rfl rfl ?_
              refine rn_dup2 (k' := 37) rfl rfl ?_
              refine rn_iaload (k' := 38) rfl rfl K0_85 (by omega) (by omega) ?_
              show Rn PT none kX0_hunt 38 [some (mR 82), some (mI ((R : Int))), some (mI (hv)), some (mI ((n : Int))), some (mI ((m : Int)))] [mI (C (m)), mI ((m : Int)), mR 85] (mkh (m_upd (m_upd (m_upd (m_upd μ 68 F) 69 q) 83 A) 85 C) c s) _
              refine rn_iconst (k' := 39) rfl rfl ?_
              refine rn_isub (k' := 40) rfl rfl (by omega) ?_
              refine rn_iastore (k' := 41) rfl rfl K0_85 (by omega) (by omega) ?_
              refine rn_aload_n (k' := 42) rfl rfl rfl ?_
              refine rn_getR (k' := 43) rfl rfl K0_82 (by decide) rfl R0_82_3 ?_
              refine rn_dupR (k' := 44) rfl rfl ?_
              refine rn_getI (k' := 45) rfl rfl K0_83 (by decide) rfl ?_
              show Rn PT none kX0_hunt 45 [some (mR 82), some (mI ((R : Int))), some (mI (hv)), some (mI ((n : Int))), some (mI ((m : Int)))] [mI (A 4), mR 83] (mkh (m_set (m_upd (m_upd (m_upd (m_upd μ 68 F) 69 q) 83 A) 85 C) 85 m ((C (m)) - 1)) c s) _
              refine rn_iconst (k' := 46) rfl rfl ?_
              refine rn_iadd (k' := 47) rfl rfl (by omega) ?_
              refine rn_putI (k' := 48) rfl rfl K0_83 (by decide) rfl ?_
              refine rn_goto rfl ?_
              refine rn_iinc (k' := 53) (L' := [some (mR 82), some (mI ((R : Int))), some (mI (hv)), some (mI ((n : Int) + 1)), some (mI ((m : Int)))]) rfl rfl rfl (by omega) rfl ?_
              refine rn_goto rfl ?_
              show Rn PT none kX0_hunt 21 [some (mR 82), some (mI ((R : Int))), some (mI (hv)), some (mI ((n : Int) + 1)), some (mI ((m : Int)))] [] (mkh (m_set (m_set (m_upd (m_upd (m_upd (m_upd μ 68 F) 69 q) 83 A) 85 C) 85 m ((C (m)) - 1)) 83 4 ((A 4) + 1)) c s) _
              rw [upd4_of (μ := μ) (ν := (m_set (m_set (m_upd (m_upd (m_upd (m_upd μ 68 F) 69 q) 83 A) 85 C) 85 m ((C (m)) - 1)) 83 4 ((A 4) + 1))) (x := 68) (y := 69) (z := 83) (w := 85) (fun b hb68 hb69 hb83 hb85 => ((row_set hb83).trans ((row_set hb85).trans ((row_upd hb85).trans ((row_upd hb83).trans ((row_upd hb69).trans (row_upd hb68)))))))]
              refine ih (n + 1) _ _ _ _ _ _ _ (by omega) (by omega) hA0 (by rw [hs1]; refine congrArg (fun z => (z, A 3, A 4 + 1)) ?_; rw [row_set (by decide), row_set_eq, row_upd_eq]) (Or.inl hfl)
    · subst hf0
      have hs2 : hunt μ W (μ 84) (μ 85, μ 83 3, μ 83 4) R = (C, A 3, A 4) := by
        rw [show R = n + (R - n) by omega, hunt_stuck (by rw [hst]; exact hfs), hst]
      refine rn_iload_n (k' := 22) rfl rfl rfl ?_
      refine rn_iload_n (k' := 23) rfl rfl rfl ?_
      refine rn_icmp_ge (k' := 24) rfl rfl (fun hc1 => ?_) (fun hc1 => ?_)
      · exfalso; omega
      · skip
        refine rn_iload_n (k' := 25) rfl rfl rfl ?_
        refine rn_if_eq (k' := 26) rfl rfl (fun hc2 => ?_) (fun hc2 => ?_)
        · skip
          refine rn_iconst (k' := 55) rfl rfl ?_
          refine rn_iret rfl (Or.inl rfl) ?_
          exact ⟨F, q, A, C, rfl, hA0, hs2⟩
        · exfalso; omega
set_option maxHeartbeats 4000000 in
theorem c_hunt {μ : Nat → Nat → Int} {c s : Nat} (hL : I_land μ) (hd : 0 ≤ μ 83 0 ∧ μ 83 0 ≤ 29) {B : Int} (hB : B ≤ 1000000) (h0 : hOK μ (μ 84) B (μ 85, μ 83 3, μ 83 4)) {R : Nat} (hR : R ≤ 20) : Cl PT 9 [mR 82, mI (R : Int)] (mkh μ c s) (fun r => ∃ O F q A C, r = (some (some (mI 0)), mkh (m_upd (m_upd (m_upd (m_upd (m_upd μ 67 O) 68 F) 69 q) 83 A) 85 C) c s) ∧ A 0 = μ 83 0 ∧ hunt μ (g_w μ 0 (μ 83 0)) (μ 84) (μ 85, μ 83 3, μ 83 4) R = (C, A 3, A 4)) := by
  have hL_ := hL
  obtain ⟨lc, lr, le, lm, lw, lh, lwo, lwd, q0, q1, q2, q3, q4, q8, q499, q500, lth, lG, lT, lW, -⟩ := hL_
  have hw0 : 0 ≤ μ 83 3 := h0.1.1
  refine ⟨_, PT_9, Nat.le_of_ble_eq_true rfl, ?_⟩
  show Rn PT none kX0_hunt 0 [some (mR 82), some (mI ((R : Int))), none, none, none] [] (mkh μ c s) _
  refine rn_aload_n (k' := 1) rfl rfl rfl ?_
  refine rn_getR (k' := 2) rfl rfl K0_82 (by decide) rfl R0_82_3 ?_
  refine rn_getI (k' := 3) rfl rfl K0_83 (by decide) rfl ?_
  refine rn_iconst (k' := 4) rfl rfl ?_
  refine rn_icmp_ne (k' := 5) rfl rfl (fun hc1 => ?_) (fun hc1 => ?_)
  · skip
    refine rn_aload_n (k' := 8) rfl rfl rfl ?_
    refine rn_getR (k' := 9) rfl rfl K0_82 (by decide) rfl R0_82_1 ?_
    refine rn_aload_n (k' := 10) rfl rfl rfl ?_
    refine rn_getR (k' := 11) rfl rfl K0_82 (by decide) rfl R0_82_0 ?_
    refine rn_iconst (k' := 12) rfl rfl ?_
    refine rn_aload_n (k' := 13) rfl rfl rfl ?_
    refine rn_getR (k' := 14) rfl rfl K0_82 (by decide) rfl R0_82_3 ?_
    refine rn_getI (k' := 15) rfl rfl K0_83 (by decide) rfl ?_
    have hb2 := g_w_b hL 0 (μ 83 0)
    refine rn_callP (k' := 16) (y := 32) (vs := [mR 6, mI (0), mI (μ 83 0)]) (S' := [mR 66]) (v := some (mI (g_w μ 0 (μ 83 0)))) (h' := mkh μ c s) rfl rfl rfl (k_weatherOn (μ := μ) (hL) (by omega) (by omega)) ?_
    show Rn PT none kX0_hunt 16 [some (mR 82), some (mI ((R : Int))), none, none, none] [mI (g_w μ 0 (μ 83 0)), mR 66] (mkh μ c s) _
    refine rn_callP (k' := 17) (y := 88) (vs := [mR 66, mI (g_w μ 0 (μ 83 0))]) (S' := []) (v := none) (h' := mkh (m_upd μ 67 (fl (fun j : Nat => if g_dep μ (j : Int) (g_w μ 0 (μ 83 0)) ≤ μ 6 15 then 1 else 0) (μ 67) (10 * μ 6 9).toNat)) c s) rfl rfl rfl (c_X10_openForWolf (μ := μ) (c := c) (s := s) hL (w := g_w μ 0 (μ 83 0)) (by omega)) ?_
    show Rn PT none kX0_hunt 17 [some (mR 82), some (mI ((R : Int))), none, none, none] [] (mkh (m_upd μ 67 (fl (fun j : Nat => if g_dep μ (j : Int) (g_w μ 0 (μ 83 0)) ≤ μ 6 15 then 1 else 0) (μ 67) (10 * μ 6 9).toNat)) c s) _
    refine rn_iconst (k' := 18) rfl rfl ?_
    refine rn_istore_n (k' := 19) (L' := [some (mR 82), some (mI ((R : Int))), some (mI (1)), none, none]) rfl rfl (Nat.le_of_ble_eq_true rfl) rfl ?_
    refine rn_iconst (k' := 20) rfl rfl ?_
    refine rn_istore_n (k' := 21) (L' := [some (mR 82), some (mI ((R : Int))), some (mI (1)), some (mI (0)), none]) rfl rfl (Nat.le_of_ble_eq_true rfl) rfl ?_
    have h := l_hunt (μ := (m_upd μ 67 (fl (fun j : Nat => if g_dep μ (j : Int) (g_w μ 0 (μ 83 0)) ≤ μ 6 15 then 1 else 0) (μ 67) (10 * μ 6 9).toNat))) (c := c) (s := s) (hL.upd rfl) (W := g_w μ 0 (μ 83 0)) (fun x hx => open_w x hx) hB h0 (R := R) hR R 0 0 1 ((m_upd μ 67 (fl (fun j : Nat => if g_dep μ (j : Int) (g_w μ 0 (μ 83 0)) ≤ μ 6 15 then 1 else 0) (μ 67) (10 * μ 6 9).toNat)) 68) ((m_upd μ 67 (fl (fun j : Nat => if g_dep μ (j : Int) (g_w μ 0 (μ 83 0)) ≤ μ 6 15 then 1 else 0) (μ 67) (10 * μ 6 9).toNat)) 69) ((m_upd μ 67 (fl (fun j : Nat => if g_dep μ (j : Int) (g_w μ 0 (μ 83 0)) ≤ μ 6 15 then 1 else 0) (μ 67) (10 * μ 6 9).toNat)) 83) ((m_upd μ 67 (fl (fun j : Nat => if g_dep μ (j : Int) (g_w μ 0 (μ 83 0)) ≤ μ 6 15 then 1 else 0) (μ 67) (10 * μ 6 9).toNat)) 85) none rfl (by omega) rfl rfl (Or.inl rfl)
    rw [upd_self (μ := (m_upd μ 67 (fl (fun j : Nat => if g_dep μ (j : Int) (g_w μ 0 (μ 83 0)) ≤ μ 6 15 then 1 else 0) (μ 67) (10 * μ 6 9).toNat))) (a := 68), upd_self (μ := (m_upd μ 67 (fl (fun j : Nat => if g_dep μ (j : Int) (g_w μ 0 (μ 83 0)) ≤ μ 6 15 then 1 else 0) (μ 67) (10 * μ 6 9).toNat))) (a := 69), upd_self (μ := (m_upd μ 67 (fl (fun j : Nat => if g_dep μ (j : Int) (g_w μ 0 (μ 83 0)) ≤ μ 6 15 then 1 else 0) (μ 67) (10 * μ 6 9).toNat))) (a := 83), upd_self (μ := (m_upd μ 67 (fl (fun j : Nat => if g_dep μ (j : Int) (g_w μ 0 (μ 83 0)) ≤ μ 6 15 then 1 else 0) (μ 67) (10 * μ 6 9).toNat))) (a := 85)] at h
    refine h.mono1 (fun r hr => ?_)
    obtain ⟨F, q, A, C, e1, e2, e3⟩ := hr
    rw [hunt_rows (ν := (m_upd μ 67 (fl (fun j : Nat => if g_dep μ (j : Int) (g_w μ 0 (μ 83 0)) ≤ μ 6 15 then 1 else 0) (μ 67) (10 * μ 6 9).toNat))) (μ := μ) rfl rfl] at e3
    exact ⟨_, F, q, A, C, e1, e2, e3⟩
  · exfalso; omega
theorem c_hunt_no {μ : Nat → Nat → Int} {c s : Nat} {R : Int} (hw : μ 83 3 = -1) : Cl PT 9 [mR 82, mI R] (mkh μ c s) (fun r => r = (some (some (mI 5)), mkh μ c s)) := by
  refine ⟨_, PT_9, Nat.le_of_ble_eq_true rfl, ?_⟩
  show Rn PT none kX0_hunt 0 [some (mR 82), some (mI (R)), none, none, none] [] (mkh μ c s) _
  refine rn_aload_n (k' := 1) rfl rfl rfl ?_
  refine rn_getR (k' := 2) rfl rfl K0_82 (by decide) rfl R0_82_3 ?_
  refine rn_getI (k' := 3) rfl rfl K0_83 (by decide) rfl ?_
  refine rn_iconst (k' := 4) rfl rfl ?_
  refine rn_icmp_ne (k' := 5) rfl rfl (fun hc1 => ?_) (fun hc1 => ?_)
  · exfalso; omega
  · skip
    refine rn_iconst (k' := 6) rfl rfl ?_
    refine rn_iret rfl (Or.inl rfl) ?_
    rfl
