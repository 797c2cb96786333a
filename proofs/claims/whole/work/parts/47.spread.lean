variable {N : Int}
/-! ===== printed by wip/whole/gen47.py: the model's spread is the pure search ===== -/
def fv (v : Int) : Int := if v = -1 then 1000000000 else v
theorem fv_n : fv (-1) = 1000000000 := rfl
theorem fv_p {v : Int} (h : ¬ v = -1) : fv v = v := if_neg h
def AgrM (Fc qc : Nat → Int) (st : bSt) : Prop := (∀ j, j < 100 → Fc j = fv (st.1 j)) ∧ ∀ j, j < st.2.2 → qc j = st.2.1 j
theorem agrM_step {nb : Int → Int → Int} {O : Int → Prop} [DecidablePred O] {a d : Int} {st : bSt} {Fc qc : Nat → Int} (h : AgrM Fc qc st) (ha : a.toNat < 100) (hv : 0 ≤ st.1 a.toNat) (hc : ¬ nb a d = -1 ∧ O (nb a d) ∧ st.1 (nb a d).toNat = -1) : AgrM (fs Fc (nb a d).toNat (Fc a.toNat + 1)) (fs qc st.2.2 (nb a d)) (b_dir nb O a d st) := by
  unfold b_dir
  rw [if_pos hc]
  refine ⟨?_, ?_⟩
  · intro j hj
    show fs Fc (nb a d).toNat (Fc a.toNat + 1) j = fv (fs st.1 (nb a d).toNat (st.1 a.toNat + 1) j)
    unfold fs
    by_cases e : j = (nb a d).toNat
    · rw [if_pos e, if_pos e, h.1 a.toNat ha, fv_p (by omega), fv_p (by omega)]
    · rw [if_neg e, if_neg e, h.1 j hj]
  · intro j hj
    have hj' : j < st.2.2 + 1 := hj
    show fs qc st.2.2 (nb a d) j = fs st.2.1 st.2.2 (nb a d) j
    unfold fs
    by_cases e : j = st.2.2
    · rw [if_pos e, if_pos e]
    · rw [if_neg e, if_neg e, h.2 j (by omega)]
set_option maxHeartbeats 4000000 in
theorem l_spread_h_in {μ : Nat → Nat → Int} {c s : Nat} (hL : I_land μ) (hw : 0 ≤ μ 118 22 ∧ μ 118 22 ≤ 1000) {a x t : Int} (ht : 0 ≤ t ∧ t ≤ 99) {h : Nat} {st : bSt} {Q : MR → Prop} (hx : g_cell μ x) (hk : b_ok (g_cell μ) st) (hv : ¬ st.1 x.toNat = -1) (hh : h < st.2.2) (hxq : st.2.1 h = x) (K : ∀ (Fc qc : Nat → Int) (v5 v6 : Option MV), AgrM Fc qc (b_dirs (g_nb μ) (fun z => g_stand μ z t (μ 118 22)) x st 4) → Rn PT none kX12_spread 96 [some (mR 118), some (mI (a)), some (mI (t)), some (mI (((b_dirs (g_nb μ) (fun z => g_stand μ z t (μ 118 22)) x st 4).2.2 : Nat))), some (mI ((h : Int))), v5, v6] [] (mkh (m_upd (m_upd μ 125 Fc) 126 qc) c s) Q) : ∀ (d n : Nat) (k ti : Int) (tl : Nat) (Fc qc : Nat → Int) (v6 : Option MV), k = (n : Int) → ti = (tl : Int) → n + d = 4 → tl = (b_dirs (g_nb μ) (fun z => g_stand μ z t (μ 118 22)) x st n).2.2 → AgrM Fc qc (b_dirs (g_nb μ) (fun z => g_stand μ z t (μ 118 22)) x st n) → Rn PT none kX12_spread 39 [some (mR 118), some (mI (a)), some (mI (t)), some (mI (ti)), some (mI ((h : Int))), some (mI (k)), v6] [] (mkh (m_upd (m_upd μ 125 Fc) 126 qc) c s) Q := by
  have hL_ := hL
  obtain ⟨lc, lr, le, lm, lw, lh, lwo, lwd, q0, q1, q2, q3, q4, q8, q499, q500, lth, lG, lT, lW, -⟩ := hL_
  intro d
  induction d with
  | zero =>
    intro n k ti tl Fc qc v6 ek et hn htl hA
    subst ek et
    refine rn_iload (k' := 40) rfl rfl rfl ?_
    refine rn_iconst (k' := 41) rfl rfl ?_
    refine rn_icmp_ge (k' := 42) rfl rfl (fun hc1 => ?_) (fun hc1 => ?_)
    · skip
      have hn4 : n = 4 := by omega
      subst hn4
      subst htl
      exact K _ _ _ _ hA
    · exfalso; omega
  | succ d ih =>
    intro n k ti tl Fc qc v6 ek et hn htl hA
    subst ek et
    obtain ⟨⟨⟨p1, p2⟩, p3, p4, p5, p6⟩, p7, p8, p9⟩ := b_dirs_ok (O := fun z => g_stand μ z t (μ 118 22)) (g_GR hL) hx hv hk n (by omega)
    have hqx : qc h = x := (hA.2 h (by omega)).trans ((p9 h hh).trans hxq)
    have hhb : h < 100 := by omega
    have hN := (g_GR hL).2 x n hx (by omega) (by omega)
    have hNb : g_nb μ x (n : Int) = -1 ∨ (0 ≤ g_nb μ x (n : Int) ∧ g_nb μ x (n : Int) < 100) := hN.imp_right (fun z => g_cell_b hL z)
    have hxb := g_cell_b hL hx
    have hFxb := p4 x.toNat
    have hFx : Fc x.toNat = (b_dirs (g_nb μ) (fun z => g_stand μ z t (μ 118 22)) x st n).1 x.toNat := (hA.1 _ (by omega)).trans (fv_p p7)
    by_cases hb : ¬ g_nb μ x (n : Int) = -1 ∧ g_stand μ (g_nb μ x (n : Int)) t (μ 118 22) ∧ (b_dirs (g_nb μ) (fun z => g_stand μ z t (μ 118 22)) x st n).1 (g_nb μ x (n : Int)).toNat = -1
    · have hNc := hNb.resolve_left hb.1
      have hNg := hN.resolve_left hb.1
      have o2 : Fc (g_nb μ x (n : Int)).toNat = 1000000000 := (hA.1 _ (by omega)).trans (by rw [hb.2.2]; rfl)
      have o3 : tl < 100 := by rw [htl, ← p5]; exact cn_lt hb.2.2 100 (by omega)
      have o7 := hb.2.1
      have hag := agrM_step (nb := g_nb μ) (O := fun z => g_stand μ z t (μ 118 22)) (a := x) (d := (n : Int)) hA (by omega) (by omega) hb
      rw [← htl] at hag
      have htl2 : tl + 1 = (b_dirs (g_nb μ) (fun z => g_stand μ z t (μ 118 22)) x st (n + 1)).2.2 := by
        show _ = (b_dir _ _ _ _ _).2.2
        unfold b_dir
        rw [if_pos hb, htl]
      refine rn_iload (k' := 40) rfl rfl rfl ?_
      refine rn_iconst (k' := 41) rfl rfl ?_
      refine rn_icmp_ge (k' := 42) rfl rfl (fun hc1 => ?_) (fun hc1 => ?_)
      · exfalso; omega
      · skip
        refine rn_aload_n (k' := 43) rfl rfl rfl ?_
        refine rn_aload_n (k' := 44) rfl rfl rfl ?_
        refine rn_getR (k' := 45) rfl rfl K0_118 (by decide) rfl R0_118_25 ?_
        refine rn_iload (k' := 46) rfl rfl rfl ?_
        refine rn_iaload (k' := 47) rfl rfl K0_126 (by omega) (by omega) ?_
        show Rn PT none kX12_spread 47 [some (mR 118), some (mI (a)), some (mI (t)), some (mI ((tl : Int))), some (mI ((h : Int))), some (mI ((n : Int))), v6] [mI (qc (h)), mR 118] (mkh (m_upd (m_upd μ 125 Fc) 126 qc) c s) _
        rw [hqx]
        refine rn_iload (k' := 48) rfl rfl rfl ?_
        refine rn_callP (k' := 49) (y := 211) (vs := [mR 118, mI (x), mI ((n : Int))]) (S' := []) (v := some (mI (g_nb μ x (n : Int)))) (h' := mkh (m_upd (m_upd μ 125 Fc) 126 qc) c s) rfl rfl rfl (c_X12_beside (((hL).upd rfl).upd rfl) (a := x) (d := (n : Int)) (by assumption) (by omega)) ?_
        show Rn PT none kX12_spread 49 [some (mR 118), some (mI (a)), some (mI (t)), some (mI ((tl : Int))), some (mI ((h : Int))), some (mI ((n : Int))), v6] [mI (g_nb μ x (n : Int))] (mkh (m_upd (m_upd μ 125 Fc) 126 qc) c s) _
        refine rn_istore (k' := 50) (L' := [some (mR 118), some (mI (a)), some (mI (t)), some (mI ((tl : Int))), some (mI ((h : Int))), some (mI ((n : Int))), some (mI (g_nb μ x (n : Int)))]) rfl rfl (Nat.le_of_ble_eq_true rfl) rfl ?_
        refine rn_iload (k' := 51) rfl rfl rfl ?_
        refine rn_if_lt (k' := 52) rfl rfl (fun hc2 => ?_) (fun hc2 => ?_)
        · exfalso; omega
        · skip
          refine rn_aload_n (k' := 53) rfl rfl rfl ?_
          refine rn_getR (k' := 54) rfl rfl K0_118 (by decide) rfl R0_118_24 ?_
          refine rn_iload (k' := 55) rfl rfl rfl ?_
          refine rn_iaload (k' := 56) rfl rfl K0_125 (by omega) (by omega) ?_
          show Rn PT none kX12_spread 56 [some (mR 118), some (mI (a)), some (mI (t)), some (mI ((tl : Int))), some (mI ((h : Int))), some (mI ((n : Int))), some (mI (g_nb μ x (n : Int)))] [mI (Fc ((g_nb μ x (n : Int)).toNat))] (mkh (m_upd (m_upd μ 125 Fc) 126 qc) c s) _
          refine rn_ldc_w (k' := 57) rfl rfl ?_
          refine rn_icmp_lt (k' := 58) rfl rfl (fun hc3 => ?_) (fun hc3 => ?_)
          · exfalso; omega
          · skip
            refine rn_iload_n (k' := 59) rfl rfl rfl ?_
            refine rn_if_ge (k' := 60) rfl rfl (fun hc4 => ?_) (fun hc4 => ?_)
            · skip
              refine rn_aload_n (k' := 70) rfl rfl rfl ?_
              refine rn_iload (k' := 71) rfl rfl rfl ?_
              refine rn_iload_n (k' := 72) rfl rfl rfl ?_
              by_cases hq5 : g_stand μ (g_nb μ x (n : Int)) t (μ 118 22)
              · refine rn_callP (k' := 73) (y := 203) (vs := [mR 118, mI (g_nb μ x (n : Int)), mI (t)]) (S' := []) (v := some (mI 1)) (h' := mkh (m_upd (m_upd μ 125 Fc) 126 qc) c s) rfl rfl rfl (by have hz : Cl PT 203 [mR 118, mI (g_nb μ x (n : Int)), mI (t)] (mkh (m_upd (m_upd μ 125 Fc) 126 qc) c s) (fun r => r = (some (some (mI (if g_stand μ (g_nb μ x (n : Int)) t (μ 118 22) then 1 else 0))), mkh (m_upd (m_upd μ 125 Fc) 126 qc) c s)) := c_X12_standsOn (((hL).upd rfl).upd rfl) (by show 0 ≤ μ 118 22 ∧ μ 118 22 ≤ 1000; omega) (a := g_nb μ x (n : Int)) (t := t) (by show g_cell μ (g_nb μ x (n : Int)); first | assumption | omega) (by omega) (μ := (m_upd (m_upd μ 125 Fc) 126 qc)) (c := c) (s := s); rw [if_pos hq5] at hz; exact hz) ?_
                show Rn PT none kX12_spread 73 [some (mR 118), some (mI (a)), some (mI (t)), some (mI ((tl : Int))), some (mI ((h : Int))), some (mI ((n : Int))), some (mI (g_nb μ x (n : Int)))] [mI (1)] (mkh (m_upd (m_upd μ 125 Fc) 126 qc) c s) _
                refine rn_if_ne (k' := 74) rfl rfl (fun hc6 => ?_) (fun hc6 => ?_)
                · skip
                  refine rn_aload_n (k' := 76) rfl rfl rfl ?_
                  refine rn_getR (k' := 77) rfl rfl K0_118 (by decide) rfl R0_118_24 ?_
                  refine rn_iload (k' := 78) rfl rfl rfl ?_
                  refine rn_aload_n (k' := 79) rfl rfl rfl ?_
                  refine rn_getR (k' := 80) rfl rfl K0_118 (by decide) rfl R0_118_24 ?_
                  refine rn_aload_n (k' := 81) rfl rfl rfl ?_
                  refine rn_getR (k' := 82) rfl rfl K0_118 (by decide) rfl R0_118_25 ?_
                  refine rn_iload (k' := 83) rfl rfl rfl ?_
                  refine rn_iaload (k' := 84) rfl rfl K0_126 (by omega) (by omega) ?_
                  show Rn PT none kX12_spread 84 [some (mR 118), some (mI (a)), some (mI (t)), some (mI ((tl : Int))), some (mI ((h : Int))), some (mI ((n : Int))), some (mI (g_nb μ x (n : Int)))] [mI (qc (h)), mR 125, mI (g_nb μ x (n : Int)), mR 125] (mkh (m_upd (m_upd μ 125 Fc) 126 qc) c s) _
                  rw [hqx]
                  refine rn_iaload (k' := 85) rfl rfl K0_125 (by omega) (by omega) ?_
                  show Rn PT none kX12_spread 85 [some (mR 118), some (mI (a)), some (mI (t)), some (mI ((tl : Int))), some (mI ((h : Int))), some (mI ((n : Int))), some (mI (g_nb μ x (n : Int)))] [mI (Fc ((x).toNat)), mI (g_nb μ x (n : Int)), mR 125] (mkh (m_upd (m_upd μ 125 Fc) 126 qc) c s) _
                  refine rn_iconst (k' := 86) rfl rfl ?_
                  refine rn_iadd (k' := 87) rfl rfl (by omega) ?_
                  refine rn_iastore (k' := 88) rfl rfl K0_125 (by omega) (by omega) ?_
                  refine rn_aload_n (k' := 89) rfl rfl rfl ?_
                  refine rn_getR (k' := 90) rfl rfl K0_118 (by decide) rfl R0_118_25 ?_
                  refine rn_iload_n (k' := 91) rfl rfl rfl ?_
                  refine rn_iload (k' := 92) rfl rfl rfl ?_
                  refine rn_iastore (k' := 93) rfl rfl K0_126 (by omega) (by omega) ?_
                  refine rn_iinc (k' := 94) (L' := [some (mR 118), some (mI (a)), some (mI (t)), some (mI ((tl : Int) + 1)), some (mI ((h : Int))), some (mI ((n : Int))), some (mI (g_nb μ x (n : Int)))]) rfl rfl rfl (by omega) rfl ?_
                  refine rn_iinc (k' := 95) (L' := [some (mR 118), some (mI (a)), some (mI (t)), some (mI ((tl : Int) + 1)), some (mI ((h : Int))), some (mI ((n : Int) + 1)), some (mI (g_nb μ x (n : Int)))]) rfl rfl rfl (by omega) rfl ?_
                  refine rn_goto rfl ?_
                  show Rn PT none kX12_spread 39 [some (mR 118), some (mI (a)), some (mI (t)), some (mI ((tl : Int) + 1)), some (mI ((h : Int))), some (mI ((n : Int) + 1)), some (mI (g_nb μ x (n : Int)))] [] (mkh (m_set (m_set (m_upd (m_upd μ 125 Fc) 126 qc) 125 ((g_nb μ x (n : Int)).toNat) ((Fc ((x).toNat)) + 1)) 126 tl (g_nb μ x (n : Int))) c s) _
                  rw [set_upd_ne (a := 125) (b := 126) (by decide), set_upd_eq (a := 125), set_upd_eq (a := 126)]
                  exact ih (n + 1) _ _ (tl + 1) _ _ _ (by omega) (by omega) (by omega) htl2 hag
                · exfalso; omega
              · exfalso; omega
            · exfalso; omega
    · have e : (b_dirs (g_nb μ) (fun z => g_stand μ z t (μ 118 22)) x st (n + 1)) = (b_dirs (g_nb μ) (fun z => g_stand μ z t (μ 118 22)) x st n) := by
        show b_dir _ _ _ _ _ = _
        unfold b_dir
        rw [if_neg hb]
      have o4 : g_nb μ x (n : Int) = -1 ∨ ¬ (g_stand μ (g_nb μ x (n : Int)) t (μ 118 22)) ∨ Fc (g_nb μ x (n : Int)).toNat < 1000000000 := by
        by_cases z1 : g_nb μ x (n : Int) = -1
        · exact Or.inl z1
        · have hNc := hNb.resolve_left z1
          by_cases z2 : g_stand μ (g_nb μ x (n : Int)) t (μ 118 22)
          · refine Or.inr (Or.inr ?_)
            have z3 : ¬ (b_dirs (g_nb μ) (fun z => g_stand μ z t (μ 118 22)) x st n).1 (g_nb μ x (n : Int)).toNat = -1 := fun z => hb ⟨z1, z2, z⟩
            have z4 := p4 (g_nb μ x (n : Int)).toNat
            rw [hA.1 _ (by omega), fv_p z3]
            omega
          · exact Or.inr (Or.inl z2)
      refine rn_iload (k' := 40) rfl rfl rfl ?_
      refine rn_iconst (k' := 41) rfl rfl ?_
      refine rn_icmp_ge (k' := 42) rfl rfl (fun hc1 => ?_) (fun hc1 => ?_)
      · exfalso; omega
      · skip
        refine rn_aload_n (k' := 43) rfl rfl rfl ?_
        refine rn_aload_n (k' := 44) rfl rfl rfl ?_
        refine rn_getR (k' := 45) rfl rfl K0_118 (by decide) rfl R0_118_25 ?_
        refine rn_iload (k' := 46) rfl rfl rfl ?_
        refine rn_iaload (k' := 47) rfl rfl K0_126 (by omega) (by omega) ?_
        show Rn PT none kX12_spread 47 [some (mR 118), some (mI (a)), some (mI (t)), some (mI ((tl : Int))), some (mI ((h : Int))), some (mI ((n : Int))), v6] [mI (qc (h)), mR 118] (mkh (m_upd (m_upd μ 125 Fc) 126 qc) c s) _
        rw [hqx]
        refine rn_iload (k' := 48) rfl rfl rfl ?_
        refine rn_callP (k' := 49) (y := 211) (vs := [mR 118, mI (x), mI ((n : Int))]) (S' := []) (v := some (mI (g_nb μ x (n : Int)))) (h' := mkh (m_upd (m_upd μ 125 Fc) 126 qc) c s) rfl rfl rfl (c_X12_beside (((hL).upd rfl).upd rfl) (a := x) (d := (n : Int)) (by assumption) (by omega)) ?_
        show Rn PT none kX12_spread 49 [some (mR 118), some (mI (a)), some (mI (t)), some (mI ((tl : Int))), some (mI ((h : Int))), some (mI ((n : Int))), v6] [mI (g_nb μ x (n : Int))] (mkh (m_upd (m_upd μ 125 Fc) 126 qc) c s) _
        refine rn_istore (k' := 50) (L' := [some (mR 118), some (mI (a)), some (mI (t)), some (mI ((tl : Int))), some (mI ((h : Int))), some (mI ((n : Int))), some (mI (g_nb μ x (n : Int)))]) rfl rfl (Nat.le_of_ble_eq_true rfl) rfl ?_
        refine rn_iload (k' := 51) rfl rfl rfl ?_
        refine rn_if_lt (k' := 52) rfl rfl (fun hc2 => ?_) (fun hc2 => ?_)
        · skip
          refine rn_iinc (k' := 95) (L' := [some (mR 118), some (mI (a)), some (mI (t)), some (mI ((tl : Int))), some (mI ((h : Int))), some (mI ((n : Int) + 1)), some (mI (g_nb μ x (n : Int)))]) rfl rfl rfl (by omega) rfl ?_
          refine rn_goto rfl ?_
          exact ih (n + 1) _ _ tl Fc qc _ (by omega) rfl (by omega) (by rw [e]; exact htl) (by rw [e]; exact hA)
        · skip
          refine rn_aload_n (k' := 53) rfl rfl rfl ?_
          refine rn_getR (k' := 54) rfl rfl K0_118 (by decide) rfl R0_118_24 ?_
          refine rn_iload (k' := 55) rfl rfl rfl ?_
          refine rn_iaload (k' := 56) rfl rfl K0_125 (by omega) (by omega) ?_
          show Rn PT none kX12_spread 56 [some (mR 118), some (mI (a)), some (mI (t)), some (mI ((tl : Int))), some (mI ((h : Int))), some (mI ((n : Int))), some (mI (g_nb μ x (n : Int)))] [mI (Fc ((g_nb μ x (n : Int)).toNat))] (mkh (m_upd (m_upd μ 125 Fc) 126 qc) c s) _
          refine rn_ldc_w (k' := 57) rfl rfl ?_
          refine rn_icmp_lt (k' := 58) rfl rfl (fun hc3 => ?_) (fun hc3 => ?_)
          · skip
            refine rn_iinc (k' := 95) (L' := [some (mR 118), some (mI (a)), some (mI (t)), some (mI ((tl : Int))), some (mI ((h : Int))), some (mI ((n : Int) + 1)), some (mI (g_nb μ x (n : Int)))]) rfl rfl rfl (by omega) rfl ?_
            refine rn_goto rfl ?_
            exact ih (n + 1) _ _ tl Fc qc _ (by omega) rfl (by omega) (by rw [e]; exact htl) (by rw [e]; exact hA)
          · skip
            refine rn_iload_n (k' := 59) rfl rfl rfl ?_
            refine rn_if_ge (k' := 60) rfl rfl (fun hc4 => ?_) (fun hc4 => ?_)
            · skip
              refine rn_aload_n (k' := 70) rfl rfl rfl ?_
              refine rn_iload (k' := 71) rfl rfl rfl ?_
              refine rn_iload_n (k' := 72) rfl rfl rfl ?_
              by_cases hq5 : g_stand μ (g_nb μ x (n : Int)) t (μ 118 22)
              · exfalso; omega
              · refine rn_callP (k' := 73) (y := 203) (vs := [mR 118, mI (g_nb μ x (n : Int)), mI (t)]) (S' := []) (v := some (mI 0)) (h' := mkh (m_upd (m_upd μ 125 Fc) 126 qc) c s) rfl rfl rfl (by have hz : Cl PT 203 [mR 118, mI (g_nb μ x (n : Int)), mI (t)] (mkh (m_upd (m_upd μ 125 Fc) 126 qc) c s) (fun r => r = (some (some (mI (if g_stand μ (g_nb μ x (n : Int)) t (μ 118 22) then 1 else 0))), mkh (m_upd (m_upd μ 125 Fc) 126 qc) c s)) := c_X12_standsOn (((hL).upd rfl).upd rfl) (by show 0 ≤ μ 118 22 ∧ μ 118 22 ≤ 1000; omega) (a := g_nb μ x (n : Int)) (t := t) (by show g_cell μ (g_nb μ x (n : Int)); first | assumption | omega) (by omega) (μ := (m_upd (m_upd μ 125 Fc) 126 qc)) (c := c) (s := s); rw [if_neg hq5] at hz; exact hz) ?_
                show Rn PT none kX12_spread 73 [some (mR 118), some (mI (a)), some (mI (t)), some (mI ((tl : Int))), some (mI ((h : Int))), some (mI ((n : Int))), some (mI (g_nb μ x (n : Int)))] [mI (0)] (mkh (m_upd (m_upd μ 125 Fc) 126 qc) c s) _
                refine rn_if_ne (k' := 74) rfl rfl (fun hc6 => ?_) (fun hc6 => ?_)
                · exfalso; omega
                · skip
                  refine rn_goto rfl ?_
                  refine rn_iinc (k' := 95) (L' := [some (mR 118), some (mI (a)), some (mI (t)), some (mI ((tl : Int))), some (mI ((h : Int))), some (mI ((n : Int) + 1)), some (mI (g_nb μ x (n : Int)))]) rfl rfl rfl (by omega) rfl ?_
                  refine rn_goto rfl ?_
                  exact ih (n + 1) _ _ tl Fc qc _ (by omega) rfl (by omega) (by rw [e]; exact htl) (by rw [e]; exact hA)
            · exfalso; omega
set_option maxHeartbeats 4000000 in
theorem l_spread_h {μ : Nat → Nat → Int} {c s : Nat} (hL : I_land μ) (hw : 0 ≤ μ 118 22 ∧ μ 118 22 ≤ 1000) {a t : Int} (ht : 0 ≤ t ∧ t ≤ 99) (ha : g_cell μ a) : ∀ (d n : Nat) (k ti : Int) (tl : Nat) (Fc qc : Nat → Int) (v5 v6 : Option MV), k = (n : Int) → ti = (tl : Int) → n + d = 100 → tl = (b_at (g_nb μ) (fun z => g_stand μ z t (μ 118 22)) (b_init a) n).2.2 → AgrM Fc qc (b_at (g_nb μ) (fun z => g_stand μ z t (μ 118 22)) (b_init a) n) → Rn PT none kX12_spread 34 [some (mR 118), some (mI (a)), some (mI (t)), some (mI (ti)), some (mI (k)), v5, v6] [] (mkh (m_upd (m_upd μ 125 Fc) 126 qc) c s) (fun r => ∃ Fc qc, r = (some none, mkh (m_upd (m_upd μ 125 Fc) 126 qc) c s) ∧ ∀ j, j < 100 → Fc j = fv ((bfs (g_nb μ) (fun z => g_stand μ z t (μ 118 22)) a).1 j)) := by
  have hL_ := hL
  obtain ⟨lc, lr, le, lm, lw, lh, lwo, lwd, q0, q1, q2, q3, q4, q8, q499, q500, lth, lG, lT, lW, -⟩ := hL_
  intro d
  induction d with
  | zero =>
    intro n k ti tl Fc qc v5 v6 ek et hn htl hA
    subst ek et
    have hok := b_at_ok (O := fun z => g_stand μ z t (μ 118 22)) (g_GR hL) (b_init_ok (g_GR hL) ha) n
    have htb := hok.1
    have e : tl ≤ n → (bfs (g_nb μ) (fun z => g_stand μ z t (μ 118 22)) a) = (b_at (g_nb μ) (fun z => g_stand μ z t (μ 118 22)) (b_init a) n) := fun z => by
      show b_at _ _ _ 100 = _
      rw [show 100 = n + 0 by omega]
      exact b_at_stop (by omega) _
    refine rn_iload (k' := 35) rfl rfl rfl ?_
    refine rn_iload_n (k' := 36) rfl rfl rfl ?_
    refine rn_icmp_ge (k' := 37) rfl rfl (fun hc1 => ?_) (fun hc1 => ?_)
    · skip
      refine rn_vret rfl ?_
      have e2 := e (by omega)
      refine ⟨Fc, qc, rfl, ?_⟩
      rw [e2]; exact hA.1
    · exfalso; omega
  | succ d ih =>
    intro n k ti tl Fc qc v5 v6 ek et hn htl hA
    subst ek et
    have hok := b_at_ok (O := fun z => g_stand μ z t (μ 118 22)) (g_GR hL) (b_init_ok (g_GR hL) ha) n
    have htb := hok.1
    have e : tl ≤ n → (bfs (g_nb μ) (fun z => g_stand μ z t (μ 118 22)) a) = (b_at (g_nb μ) (fun z => g_stand μ z t (μ 118 22)) (b_init a) n) := fun z => by
      show b_at _ _ _ 100 = _
      rw [show 100 = n + (d + 1) by omega]
      exact b_at_stop (by omega) _
    refine rn_iload (k' := 35) rfl rfl rfl ?_
    refine rn_iload_n (k' := 36) rfl rfl rfl ?_
    refine rn_icmp_ge (k' := 37) rfl rfl (fun hc1 => ?_) (fun hc1 => ?_)
    · skip
      refine rn_vret rfl ?_
      have e2 := e (by omega)
      refine ⟨Fc, qc, rfl, ?_⟩
      rw [e2]; exact hA.1
    · skip
      refine rn_iconst (k' := 38) rfl rfl ?_
      refine rn_istore (k' := 39) (L' := [some (mR 118), some (mI (a)), some (mI (t)), some (mI ((tl : Int))), some (mI ((n : Int))), some (mI (0)), v6]) rfl rfl (Nat.le_of_ble_eq_true rfl) rfl ?_
      have hq : qc n = (b_at (g_nb μ) (fun z => g_stand μ z t (μ 118 22)) (b_init a) n).2.1 n := hA.2 n (by omega)
      have e1 : (b_at (g_nb μ) (fun z => g_stand μ z t (μ 118 22)) (b_init a) (n + 1)) = b_dirs (g_nb μ) (fun z => g_stand μ z t (μ 118 22)) ((b_at (g_nb μ) (fun z => g_stand μ z t (μ 118 22)) (b_init a) n).2.1 n) (b_at (g_nb μ) (fun z => g_stand μ z t (μ 118 22)) (b_init a) n) 4 := by
        show (if n < _ then _ else _) = _
        rw [if_pos (by omega)]
      refine l_spread_h_in hL hw ht (h := n) (st := (b_at (g_nb μ) (fun z => g_stand μ z t (μ 118 22)) (b_init a) n)) (hok.2.1 n (by omega)) hok (hok.2.2.2.2 n (by omega)) (by omega) rfl ?_ 4 0 _ _ tl Fc qc _ rfl rfl rfl htl hA
      intro Fc1 qc1 v5 v6 hA1
      refine rn_iinc (k' := 97) (L' := [some (mR 118), some (mI (a)), some (mI (t)), some (mI ((b_dirs (g_nb μ) (fun z => g_stand μ z t (μ 118 22)) ((b_at (g_nb μ) (fun z => g_stand μ z t (μ 118 22)) (b_init a) n).2.1 n) (b_at (g_nb μ) (fun z => g_stand μ z t (μ 118 22)) (b_init a) n) 4).2.2)), some (mI ((n : Int) + 1)), v5, v6]) rfl rfl rfl (by omega) rfl ?_
      refine rn_goto rfl ?_
      exact ih (n + 1) _ _ _ Fc1 qc1 _ _ (by omega) rfl (by omega) (by rw [e1]) (by rw [e1]; exact hA1)
set_option maxHeartbeats 4000000 in
theorem l_spread_w_in {μ : Nat → Nat → Int} {c s : Nat} (hL : I_land μ) (hw : 0 ≤ μ 118 22 ∧ μ 118 22 ≤ 1000) {a x t : Int} (ht : t = -1) {h : Nat} {st : bSt} {Q : MR → Prop} (hx : g_cell μ x) (hk : b_ok (g_cell μ) st) (hv : ¬ st.1 x.toNat = -1) (hh : h < st.2.2) (hxq : st.2.1 h = x) (K : ∀ (Fc qc : Nat → Int) (v5 v6 : Option MV), AgrM Fc qc (b_dirs (g_nb μ) (fun z => g_dep μ z (μ 118 22) ≤ μ 6 15) x st 4) → Rn PT none kX12_spread 96 [some (mR 118), some (mI (a)), some (mI (t)), some (mI (((b_dirs (g_nb μ) (fun z => g_dep μ z (μ 118 22) ≤ μ 6 15) x st 4).2.2 : Nat))), some (mI ((h : Int))), v5, v6] [] (mkh (m_upd (m_upd μ 125 Fc) 126 qc) c s) Q) : ∀ (d n : Nat) (k ti : Int) (tl : Nat) (Fc qc : Nat → Int) (v6 : Option MV), k = (n : Int) → ti = (tl : Int) → n + d = 4 → tl = (b_dirs (g_nb μ) (fun z => g_dep μ z (μ 118 22) ≤ μ 6 15) x st n).2.2 → AgrM Fc qc (b_dirs (g_nb μ) (fun z => g_dep μ z (μ 118 22) ≤ μ 6 15) x st n) → Rn PT none kX12_spread 39 [some (mR 118), some (mI (a)), some (mI (t)), some (mI (ti)), some (mI ((h : Int))), some (mI (k)), v6] [] (mkh (m_upd (m_upd μ 125 Fc) 126 qc) c s) Q := by
  have hL_ := hL
  obtain ⟨lc, lr, le, lm, lw, lh, lwo, lwd, q0, q1, q2, q3, q4, q8, q499, q500, lth, lG, lT, lW, -⟩ := hL_
  intro d
  induction d with
  | zero =>
    intro n k ti tl Fc qc v6 ek et hn htl hA
    subst ek et
    refine rn_iload (k' := 40) rfl rfl rfl ?_
    refine rn_iconst (k' := 41) rfl rfl ?_
    refine rn_icmp_ge (k' := 42) rfl rfl (fun hc1 => ?_) (fun hc1 => ?_)
    · skip
      have hn4 : n = 4 := by omega
      subst hn4
      subst htl
      exact K _ _ _ _ hA
    · exfalso; omega
  | succ d ih =>
    intro n k ti tl Fc qc v6 ek et hn htl hA
    subst ek et
    obtain ⟨⟨⟨p1, p2⟩, p3, p4, p5, p6⟩, p7, p8, p9⟩ := b_dirs_ok (O := fun z => g_dep μ z (μ 118 22) ≤ μ 6 15) (g_GR hL) hx hv hk n (by omega)
    have hqx : qc h = x := (hA.2 h (by omega)).trans ((p9 h hh).trans hxq)
    have hhb : h < 100 := by omega
    have hN := (g_GR hL).2 x n hx (by omega) (by omega)
    have hNb : g_nb μ x (n : Int) = -1 ∨ (0 ≤ g_nb μ x (n : Int) ∧ g_nb μ x (n : Int) < 100) := hN.imp_right (fun z => g_cell_b hL z)
    have hxb := g_cell_b hL hx
    have hFxb := p4 x.toNat
    have hFx : Fc x.toNat = (b_dirs (g_nb μ) (fun z => g_dep μ z (μ 118 22) ≤ μ 6 15) x st n).1 x.toNat := (hA.1 _ (by omega)).trans (fv_p p7)
    by_cases hb : ¬ g_nb μ x (n : Int) = -1 ∧ g_dep μ (g_nb μ x (n : Int)) (μ 118 22) ≤ μ 6 15 ∧ (b_dirs (g_nb μ) (fun z => g_dep μ z (μ 118 22) ≤ μ 6 15) x st n).1 (g_nb μ x (n : Int)).toNat = -1
    · have hNc := hNb.resolve_left hb.1
      have hNg := hN.resolve_left hb.1
      have o2 : Fc (g_nb μ x (n : Int)).toNat = 1000000000 := (hA.1 _ (by omega)).trans (by rw [hb.2.2]; rfl)
      have o3 : tl < 100 := by rw [htl, ← p5]; exact cn_lt hb.2.2 100 (by omega)
      have o7 := hb.2.1
      have hag := agrM_step (nb := g_nb μ) (O := fun z => g_dep μ z (μ 118 22) ≤ μ 6 15) (a := x) (d := (n : Int)) hA (by omega) (by omega) hb
      rw [← htl] at hag
      have htl2 : tl + 1 = (b_dirs (g_nb μ) (fun z => g_dep μ z (μ 118 22) ≤ μ 6 15) x st (n + 1)).2.2 := by
        show _ = (b_dir _ _ _ _ _).2.2
        unfold b_dir
        rw [if_pos hb, htl]
      refine rn_iload (k' := 40) rfl rfl rfl ?_
      refine rn_iconst (k' := 41) rfl rfl ?_
      refine rn_icmp_ge (k' := 42) rfl rfl (fun hc1 => ?_) (fun hc1 => ?_)
      · exfalso; omega
      · skip
        refine rn_aload_n (k' := 43) rfl rfl rfl ?_
        refine rn_aload_n (k' := 44) rfl rfl rfl ?_
        refine rn_getR (k' := 45) rfl rfl K0_118 (by decide) rfl R0_118_25 ?_
        refine rn_iload (k' := 46) rfl rfl rfl ?_
        refine rn_iaload (k' := 47) rfl rfl K0_126 (by omega) (by omega) ?_
        show Rn PT none kX12_spread 47 [some (mR 118), some (mI (a)), some (mI (t)), some (mI ((tl : Int))), some (mI ((h : Int))), some (mI ((n : Int))), v6] [mI (qc (h)), mR 118] (mkh (m_upd (m_upd μ 125 Fc) 126 qc) c s) _
        rw [hqx]
        refine rn_iload (k' := 48) rfl rfl rfl ?_
        refine rn_callP (k' := 49) (y := 211) (vs := [mR 118, mI (x), mI ((n : Int))]) (S' := []) (v := some (mI (g_nb μ x (n : Int)))) (h' := mkh (m_upd (m_upd μ 125 Fc) 126 qc) c s) rfl rfl rfl (c_X12_beside (((hL).upd rfl).upd rfl) (a := x) (d := (n : Int)) (by assumption) (by omega)) ?_
        show Rn PT none kX12_spread 49 [some (mR 118), some (mI (a)), some (mI (t)), some (mI ((tl : Int))), some (mI ((h : Int))), some (mI ((n : Int))), v6] [mI (g_nb μ x (n : Int))] (mkh (m_upd (m_upd μ 125 Fc) 126 qc) c s) _
        refine rn_istore (k' := 50) (L' := [some (mR 118), some (mI (a)), some (mI (t)), some (mI ((tl : Int))), some (mI ((h : Int))), some (mI ((n : Int))), some (mI (g_nb μ x (n : Int)))]) rfl rfl (Nat.le_of_ble_eq_true rfl) rfl ?_
        refine rn_iload (k' := 51) rfl rfl rfl ?_
        refine rn_if_lt (k' := 52) rfl rfl (fun hc2 => ?_) (fun hc2 => ?_)
        · exfalso; omega
        · skip
          refine rn_aload_n (k' := 53) rfl rfl rfl ?_
          refine rn_getR (k' := 54) rfl rfl K0_118 (by decide) rfl R0_118_24 ?_
          refine rn_iload (k' := 55) rfl rfl rfl ?_
          refine rn_iaload (k' := 56) rfl rfl K0_125 (by omega) (by omega) ?_
          show Rn PT none kX12_spread 56 [some (mR 118), some (mI (a)), some (mI (t)), some (mI ((tl : Int))), some (mI ((h : Int))), some (mI ((n : Int))), some (mI (g_nb μ x (n : Int)))] [mI (Fc ((g_nb μ x (n : Int)).toNat))] (mkh (m_upd (m_upd μ 125 Fc) 126 qc) c s) _
          refine rn_ldc_w (k' := 57) rfl rfl ?_
          refine rn_icmp_lt (k' := 58) rfl rfl (fun hc3 => ?_) (fun hc3 => ?_)
          · exfalso; omega
          · skip
            refine rn_iload_n (k' := 59) rfl rfl rfl ?_
            refine rn_if_ge (k' := 60) rfl rfl (fun hc4 => ?_) (fun hc4 => ?_)
            · exfalso; omega
            · skip
              refine rn_aload_n (k' := 61) rfl rfl rfl ?_
              refine rn_iload (k' := 62) rfl rfl rfl ?_
              refine rn_callP (k' := 63) (y := 202) (vs := [mR 118, mI (g_nb μ x (n : Int))]) (S' := []) (v := some (mI (g_dep μ (g_nb μ x (n : Int)) (μ 118 22)))) (h' := mkh (m_upd (m_upd μ 125 Fc) 126 qc) c s) rfl rfl rfl (c_X12_depthOf (((hL).upd rfl).upd rfl) (by show 0 ≤ μ 118 22 ∧ μ 118 22 ≤ 1000; omega) (by show g_cell μ (g_nb μ x (n : Int)); first | assumption | omega)) ?_
              show Rn PT none kX12_spread 63 [some (mR 118), some (mI (a)), some (mI (t)), some (mI ((tl : Int))), some (mI ((h : Int))), some (mI ((n : Int))), some (mI (g_nb μ x (n : Int)))] [mI (g_dep μ (g_nb μ x (n : Int)) (μ 118 22))] (mkh (m_upd (m_upd μ 125 Fc) 126 qc) c s) _
              refine rn_aload_n (k' := 64) rfl rfl rfl ?_
              refine rn_getR (k' := 65) rfl rfl K0_118 (by decide) rfl R0_118_6 ?_
              refine rn_sipush (k' := 66) rfl rfl ?_
              refine rn_iaload (k' := 67) rfl rfl K0_120 (by omega) (by omega) ?_
              show Rn PT none kX12_spread 67 [some (mR 118), some (mI (a)), some (mI (t)), some (mI ((tl : Int))), some (mI ((h : Int))), some (mI ((n : Int))), some (mI (g_nb μ x (n : Int)))] [mI (μ 120 500), mI (g_dep μ (g_nb μ x (n : Int)) (μ 118 22))] (mkh (m_upd (m_upd μ 125 Fc) 126 qc) c s) _
              rw [q500]
              refine rn_icmp_le (k' := 68) rfl rfl (fun hc5 => ?_) (fun hc5 => ?_)
              · skip
                refine rn_aload_n (k' := 76) rfl rfl rfl ?_
                refine rn_getR (k' := 77) rfl rfl K0_118 (by decide) rfl R0_118_24 ?_
                refine rn_iload (k' := 78) rfl rfl rfl ?_
                refine rn_aload_n (k' := 79) rfl rfl rfl ?_
                refine rn_getR (k' := 80) rfl rfl K0_118 (by decide) rfl R0_118_24 ?_
                refine rn_aload_n (k' := 81) rfl rfl rfl ?_
                refine rn_getR (k' := 82) rfl rfl K0_118 (by decide) rfl R0_118_25 ?_
                refine rn_iload (k' := 83) rfl rfl rfl ?_
                refine rn_iaload (k' := 84) rfl rfl K0_126 (by omega) (by omega) ?_
                show Rn PT none kX12_spread 84 [some (mR 118), some (mI (a)), some (mI (t)), some (mI ((tl : Int))), some (mI ((h : Int))), some (mI ((n : Int))), some (mI (g_nb μ x (n : Int)))] [mI (qc (h)), mR 125, mI (g_nb μ x (n : Int)), mR 125] (mkh (m_upd (m_upd μ 125 Fc) 126 qc) c s) _
                rw [hqx]
                refine rn_iaload (k' := 85) rfl rfl K0_125 (by omega) (by omega) ?_
                show Rn PT none kX12_spread 85 [some (mR 118), some (mI (a)), some (mI (t)), some (mI ((tl : Int))), some (mI ((h : Int))), some (mI ((n : Int))), some (mI (g_nb μ x (n : Int)))] [mI (Fc ((x).toNat)), mI (g_nb μ x (n : Int)), mR 125] (mkh (m_upd (m_upd μ 125 Fc) 126 qc) c s) _
                refine rn_iconst (k' := 86) rfl rfl ?_
                refine rn_iadd (k' := 87) rfl rfl (by omega) ?_
                refine rn_iastore (k' := 88) rfl rfl K0_125 (by omega) (by omega) ?_
                refine rn_aload_n (k' := 89) rfl rfl rfl ?_
                refine rn_getR (k' := 90) rfl rfl K0_118 (by decide) rfl R0_118_25 ?_
                refine rn_iload_n (k' := 91) rfl rfl rfl ?_
                refine rn_iload (k' := 92) rfl rfl rfl ?_
                refine rn_iastore (k' := 93) rfl rfl K0_126 (by omega) (by omega) ?_
                refine rn_iinc (k' := 94) (L' := [some (mR 118), some (mI (a)), some (mI (t)), some (mI ((tl : Int) + 1)), some (mI ((h : Int))), some (mI ((n : Int))), some (mI (g_nb μ x (n : Int)))]) rfl rfl rfl (by omega) rfl ?_
                refine rn_iinc (k' := 95) (L' := [some (mR 118), some (mI (a)), some (mI (t)), some (mI ((tl : Int) + 1)), some (mI ((h : Int))), some (mI ((n : Int) + 1)), some (mI (g_nb μ x (n : Int)))]) rfl rfl rfl (by omega) rfl ?_
                refine rn_goto rfl ?_
                show Rn PT none kX12_spread 39 [some (mR 118), some (mI (a)), some (mI (t)), some (mI ((tl : Int) + 1)), some (mI ((h : Int))), some (mI ((n : Int) + 1)), some (mI (g_nb μ x (n : Int)))] [] (mkh (m_set (m_set (m_upd (m_upd μ 125 Fc) 126 qc) 125 ((g_nb μ x (n : Int)).toNat) ((Fc ((x).toNat)) + 1)) 126 tl (g_nb μ x (n : Int))) c s) _
                rw [set_upd_ne (a := 125) (b := 126) (by decide), set_upd_eq (a := 125), set_upd_eq (a := 126)]
                exact ih (n + 1) _ _ (tl + 1) _ _ _ (by omega) (by omega) (by omega) htl2 hag
              · exfalso; omega
    · have e : (b_dirs (g_nb μ) (fun z => g_dep μ z (μ 118 22) ≤ μ 6 15) x st (n + 1)) = (b_dirs (g_nb μ) (fun z => g_dep μ z (μ 118 22) ≤ μ 6 15) x st n) := by
        show b_dir _ _ _ _ _ = _
        unfold b_dir
        rw [if_neg hb]
      have o4 : g_nb μ x (n : Int) = -1 ∨ ¬ (g_dep μ (g_nb μ x (n : Int)) (μ 118 22) ≤ μ 6 15) ∨ Fc (g_nb μ x (n : Int)).toNat < 1000000000 := by
        by_cases z1 : g_nb μ x (n : Int) = -1
        · exact Or.inl z1
        · have hNc := hNb.resolve_left z1
          by_cases z2 : g_dep μ (g_nb μ x (n : Int)) (μ 118 22) ≤ μ 6 15
          · refine Or.inr (Or.inr ?_)
            have z3 : ¬ (b_dirs (g_nb μ) (fun z => g_dep μ z (μ 118 22) ≤ μ 6 15) x st n).1 (g_nb μ x (n : Int)).toNat = -1 := fun z => hb ⟨z1, z2, z⟩
            have z4 := p4 (g_nb μ x (n : Int)).toNat
            rw [hA.1 _ (by omega), fv_p z3]
            omega
          · exact Or.inr (Or.inl z2)
      refine rn_iload (k' := 40) rfl rfl rfl ?_
      refine rn_iconst (k' := 41) rfl rfl ?_
      refine rn_icmp_ge (k' := 42) rfl rfl (fun hc1 => ?_) (fun hc1 => ?_)
      · exfalso; omega
      · skip
        refine rn_aload_n (k' := 43) rfl rfl rfl ?_
        refine rn_aload_n (k' := 44) rfl rfl rfl ?_
        refine rn_getR (k' := 45) rfl rfl K0_118 (by decide) rfl R0_118_25 ?_
        refine rn_iload (k' := 46) rfl rfl rfl ?_
        refine rn_iaload (k' := 47) rfl rfl K0_126 (by omega) (by omega) ?_
        show Rn PT none kX12_spread 47 [some (mR 118), some (mI (a)), some (mI (t)), some (mI ((tl : Int))), some (mI ((h : Int))), some (mI ((n : Int))), v6] [mI (qc (h)), mR 118] (mkh (m_upd (m_upd μ 125 Fc) 126 qc) c s) _
        rw [hqx]
        refine rn_iload (k' := 48) rfl rfl rfl ?_
        refine rn_callP (k' := 49) (y := 211) (vs := [mR 118, mI (x), mI ((n : Int))]) (S' := []) (v := some (mI (g_nb μ x (n : Int)))) (h' := mkh (m_upd (m_upd μ 125 Fc) 126 qc) c s) rfl rfl rfl (c_X12_beside (((hL).upd rfl).upd rfl) (a := x) (d := (n : Int)) (by assumption) (by omega)) ?_
        show Rn PT none kX12_spread 49 [some (mR 118), some (mI (a)), some (mI (t)), some (mI ((tl : Int))), some (mI ((h : Int))), some (mI ((n : Int))), v6] [mI (g_nb μ x (n : Int))] (mkh (m_upd (m_upd μ 125 Fc) 126 qc) c s) _
        refine rn_istore (k' := 50) (L' := [some (mR 118), some (mI (a)), some (mI (t)), some (mI ((tl : Int))), some (mI ((h : Int))), some (mI ((n : Int))), some (mI (g_nb μ x (n : Int)))]) rfl rfl (Nat.le_of_ble_eq_true rfl) rfl ?_
        refine rn_iload (k' := 51) rfl rfl rfl ?_
        refine rn_if_lt (k' := 52) rfl rfl (fun hc2 => ?_) (fun hc2 => ?_)
        · skip
          refine rn_iinc (k' := 95) (L' := [some (mR 118), some (mI (a)), some (mI (t)), some (mI ((tl : Int))), some (mI ((h : Int))), some (mI ((n : Int) + 1)), some (mI (g_nb μ x (n : Int)))]) rfl rfl rfl (by omega) rfl ?_
          refine rn_goto rfl ?_
          exact ih (n + 1) _ _ tl Fc qc _ (by omega) rfl (by omega) (by rw [e]; exact htl) (by rw [e]; exact hA)
        · skip
          refine rn_aload_n (k' := 53) rfl rfl rfl ?_
          refine rn_getR (k' := 54) rfl rfl K0_118 (by decide) rfl R0_118_24 ?_
          refine rn_iload (k' := 55) rfl rfl rfl ?_
          refine rn_iaload (k' := 56) rfl rfl K0_125 (by omega) (by omega) ?_
          show Rn PT none kX12_spread 56 [some (mR 118), some (mI (a)), some (mI (t)), some (mI ((tl : Int))), some (mI ((h : Int))), some (mI ((n : Int))), some (mI (g_nb μ x (n : Int)))] [mI (Fc ((g_nb μ x (n : Int)).toNat))] (mkh (m_upd (m_upd μ 125 Fc) 126 qc) c s) _
          refine rn_ldc_w (k' := 57) rfl rfl ?_
          refine rn_icmp_lt (k' := 58) rfl rfl (fun hc3 => ?_) (fun hc3 => ?_)
          · skip
            refine rn_iinc (k' := 95) (L' := [some (mR 118), some (mI (a)), some (mI (t)), some (mI ((tl : Int))), some (mI ((h : Int))), some (mI ((n : Int) + 1)), some (mI (g_nb μ x (n : Int)))]) rfl rfl rfl (by omega) rfl ?_
            refine rn_goto rfl ?_
            exact ih (n + 1) _ _ tl Fc qc _ (by omega) rfl (by omega) (by rw [e]; exact htl) (by rw [e]; exact hA)
          · skip
            refine rn_iload_n (k' := 59) rfl rfl rfl ?_
            refine rn_if_ge (k' := 60) rfl rfl (fun hc4 => ?_) (fun hc4 => ?_)
            · exfalso; omega
            · skip
              refine rn_aload_n (k' := 61) rfl rfl rfl ?_
              refine rn_iload (k' := 62) rfl rfl rfl ?_
              refine rn_callP (k' := 63) (y := 202) (vs := [mR 118, mI (g_nb μ x (n : Int))]) (S' := []) (v := some (mI (g_dep μ (g_nb μ x (n : Int)) (μ 118 22)))) (h' := mkh (m_upd (m_upd μ 125 Fc) 126 qc) c s) rfl rfl rfl (c_X12_depthOf (((hL).upd rfl).upd rfl) (by show 0 ≤ μ 118 22 ∧ μ 118 22 ≤ 1000; omega) (by show g_cell μ (g_nb μ x (n : Int)); first | assumption | omega)) ?_
              show Rn PT none kX12_spread 63 [some (mR 118), some (mI (a)), some (mI (t)), some (mI ((tl : Int))), some (mI ((h : Int))), some (mI ((n : Int))), some (mI (g_nb μ x (n : Int)))] [mI (g_dep μ (g_nb μ x (n : Int)) (μ 118 22))] (mkh (m_upd (m_upd μ 125 Fc) 126 qc) c s) _
              refine rn_aload_n (k' := 64) rfl rfl rfl ?_
              refine rn_getR (k' := 65) rfl rfl K0_118 (by decide) rfl R0_118_6 ?_
              refine rn_sipush (k' := 66) rfl rfl ?_
              refine rn_iaload (k' := 67) rfl rfl K0_120 (by omega) (by omega) ?_
              show Rn PT none kX12_spread 67 [some (mR 118), some (mI (a)), some (mI (t)), some (mI ((tl : Int))), some (mI ((h : Int))), some (mI ((n : Int))), some (mI (g_nb μ x (n : Int)))] [mI (μ 120 500), mI (g_dep μ (g_nb μ x (n : Int)) (μ 118 22))] (mkh (m_upd (m_upd μ 125 Fc) 126 qc) c s) _
              rw [q500]
              refine rn_icmp_le (k' := 68) rfl rfl (fun hc5 => ?_) (fun hc5 => ?_)
              · exfalso; omega
              · skip
                refine rn_goto rfl ?_
                refine rn_iinc (k' := 95) (L' := [some (mR 118), some (mI (a)), some (mI (t)), some (mI ((tl : Int))), some (mI ((h : Int))), some (mI ((n : Int) + 1)), some (mI (g_nb μ x (n : Int)))]) rfl rfl rfl (by omega) rfl ?_
                refine rn_goto rfl ?_
                exact ih (n + 1) _ _ tl Fc qc _ (by omega) rfl (by omega) (by rw [e]; exact htl) (by rw [e]; exact hA)
set_option maxHeartbeats 4000000 in
theorem l_spread_w {μ : Nat → Nat → Int} {c s : Nat} (hL : I_land μ) (hw : 0 ≤ μ 118 22 ∧ μ 118 22 ≤ 1000) {a t : Int} (ht : t = -1) (ha : g_cell μ a) : ∀ (d n : Nat) (k ti : Int) (tl : Nat) (Fc qc : Nat → Int) (v5 v6 : Option MV), k = (n : Int) → ti = (tl : Int) → n + d = 100 → tl = (b_at (g_nb μ) (fun z => g_dep μ z (μ 118 22) ≤ μ 6 15) (b_init a) n).2.2 → AgrM Fc qc (b_at (g_nb μ) (fun z => g_dep μ z (μ 118 22) ≤ μ 6 15) (b_init a) n) → Rn PT none kX12_spread 34 [some (mR 118), some (mI (a)), some (mI (t)), some (mI (ti)), some (mI (k)), v5, v6] [] (mkh (m_upd (m_upd μ 125 Fc) 126 qc) c s) (fun r => ∃ Fc qc, r = (some none, mkh (m_upd (m_upd μ 125 Fc) 126 qc) c s) ∧ ∀ j, j < 100 → Fc j = fv ((bfs (g_nb μ) (fun z => g_dep μ z (μ 118 22) ≤ μ 6 15) a).1 j)) := by
  have hL_ := hL
  obtain ⟨lc, lr, le, lm, lw, lh, lwo, lwd, q0, q1, q2, q3, q4, q8, q499, q500, lth, lG, lT, lW, -⟩ := hL_
  intro d
  induction d with
  | zero =>
    intro n k ti tl Fc qc v5 v6 ek et hn htl hA
    subst ek et
    have hok := b_at_ok (O := fun z => g_dep μ z (μ 118 22) ≤ μ 6 15) (g_GR hL) (b_init_ok (g_GR hL) ha) n
    have htb := hok.1
    have e : tl ≤ n → (bfs (g_nb μ) (fun z => g_dep μ z (μ 118 22) ≤ μ 6 15) a) = (b_at (g_nb μ) (fun z => g_dep μ z (μ 118 22) ≤ μ 6 15) (b_init a) n) := fun z => by
      show b_at _ _ _ 100 = _
      rw [show 100 = n + 0 by omega]
      exact b_at_stop (by omega) _
    refine rn_iload (k' := 35) rfl rfl rfl ?_
    refine rn_iload_n (k' := 36) rfl rfl rfl ?_
    refine rn_icmp_ge (k' := 37) rfl rfl (fun hc1 => ?_) (fun hc1 => ?_)
    · skip
      refine rn_vret rfl ?_
      have e2 := e (by omega)
      refine ⟨Fc, qc, rfl, ?_⟩
      rw [e2]; exact hA.1
    · exfalso; omega
  | succ d ih =>
    intro n k ti tl Fc qc v5 v6 ek et hn htl hA
    subst ek et
    have hok := b_at_ok (O := fun z => g_dep μ z (μ 118 22) ≤ μ 6 15) (g_GR hL) (b_init_ok (g_GR hL) ha) n
    have htb := hok.1
    have e : tl ≤ n → (bfs (g_nb μ) (fun z => g_dep μ z (μ 118 22) ≤ μ 6 15) a) = (b_at (g_nb μ) (fun z => g_dep μ z (μ 118 22) ≤ μ 6 15) (b_init a) n) := fun z => by
      show b_at _ _ _ 100 = _
      rw [show 100 = n + (d + 1) by omega]
      exact b_at_stop (by omega) _
    refine rn_iload (k' := 35) rfl rfl rfl ?_
    refine rn_iload_n (k' := 36) rfl rfl rfl ?_
    refine rn_icmp_ge (k' := 37) rfl rfl (fun hc1 => ?_) (fun hc1 => ?_)
    · skip
      refine rn_vret rfl ?_
      have e2 := e (by omega)
      refine ⟨Fc, qc, rfl, ?_⟩
      rw [e2]; exact hA.1
    · skip
      refine rn_iconst (k' := 38) rfl rfl ?_
      refine rn_istore (k' := 39) (L' := [some (mR 118), some (mI (a)), some (mI (t)), some (mI ((tl : Int))), some (mI ((n : Int))), some (mI (0)), v6]) rfl rfl (Nat.le_of_ble_eq_true rfl) rfl ?_
      have hq : qc n = (b_at (g_nb μ) (fun z => g_dep μ z (μ 118 22) ≤ μ 6 15) (b_init a) n).2.1 n := hA.2 n (by omega)
      have e1 : (b_at (g_nb μ) (fun z => g_dep μ z (μ 118 22) ≤ μ 6 15) (b_init a) (n + 1)) = b_dirs (g_nb μ) (fun z => g_dep μ z (μ 118 22) ≤ μ 6 15) ((b_at (g_nb μ) (fun z => g_dep μ z (μ 118 22) ≤ μ 6 15) (b_init a) n).2.1 n) (b_at (g_nb μ) (fun z => g_dep μ z (μ 118 22) ≤ μ 6 15) (b_init a) n) 4 := by
        show (if n < _ then _ else _) = _
        rw [if_pos (by omega)]
      refine l_spread_w_in hL hw ht (h := n) (st := (b_at (g_nb μ) (fun z => g_dep μ z (μ 118 22) ≤ μ 6 15) (b_init a) n)) (hok.2.1 n (by omega)) hok (hok.2.2.2.2 n (by omega)) (by omega) rfl ?_ 4 0 _ _ tl Fc qc _ rfl rfl rfl htl hA
      intro Fc1 qc1 v5 v6 hA1
      refine rn_iinc (k' := 97) (L' := [some (mR 118), some (mI (a)), some (mI (t)), some (mI ((b_dirs (g_nb μ) (fun z => g_dep μ z (μ 118 22) ≤ μ 6 15) ((b_at (g_nb μ) (fun z => g_dep μ z (μ 118 22) ≤ μ 6 15) (b_init a) n).2.1 n) (b_at (g_nb μ) (fun z => g_dep μ z (μ 118 22) ≤ μ 6 15) (b_init a) n) 4).2.2)), some (mI ((n : Int) + 1)), v5, v6]) rfl rfl rfl (by omega) rfl ?_
      refine rn_goto rfl ?_
      exact ih (n + 1) _ _ _ Fc1 qc1 _ _ (by omega) rfl (by omega) (by rw [e1]) (by rw [e1]; exact hA1)
