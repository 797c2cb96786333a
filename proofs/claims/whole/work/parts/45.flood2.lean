variable {N : Int}
/-! ===== printed by wip/whole/gen45.py: the class's flood is the pure search ===== -/
def Agr (Fc qc : Nat → Int) (st : bSt) : Prop := (∀ j, j < 100 → Fc j = st.1 j) ∧ ∀ j, j < st.2.2 → qc j = st.2.1 j
theorem agr_step {nb : Int → Int → Int} {O : Int → Prop} [DecidablePred O] {a d : Int} {st : bSt} {Fc qc : Nat → Int} (h : Agr Fc qc st) (ha : a.toNat < 100) (hc : ¬ nb a d = -1 ∧ O (nb a d) ∧ st.1 (nb a d).toNat = -1) : Agr (fs Fc (nb a d).toNat (Fc a.toNat + 1)) (fs qc st.2.2 (nb a d)) (b_dir nb O a d st) := by
  unfold b_dir
  rw [if_pos hc]
  refine ⟨?_, ?_⟩
  · intro j hj
    show fs Fc (nb a d).toNat (Fc a.toNat + 1) j = fs st.1 (nb a d).toNat (st.1 a.toNat + 1) j
    unfold fs
    rw [h.1 j hj, h.1 a.toNat ha]
  · intro j hj
    have hj' : j < st.2.2 + 1 := hj
    show fs qc st.2.2 (nb a d) j = fs st.2.1 st.2.2 (nb a d) j
    unfold fs
    by_cases e : j = st.2.2
    · rw [if_pos e, if_pos e]
    · rw [if_neg e, if_neg e, h.2 j (by omega)]
set_option maxHeartbeats 4000000 in
theorem l_flood_in {μ : Nat → Nat → Int} {c s : Nat} (hL : I_land μ) {O : Int → Prop} [DecidablePred O] (hO : ∀ x, g_cell μ x → (O x → μ 67 x.toNat = 1) ∧ (¬ O x → μ 67 x.toNat = 0)) {a x hd : Int} {st : bSt} {Q : MR → Prop} (hx : g_cell μ x) (hk : b_ok (g_cell μ) st) (hv : ¬ st.1 x.toNat = -1) (K : ∀ (Fc qc : Nat → Int) (v5 v6 : Option MV), Agr Fc qc (b_dirs (g_nb μ) O x st 4) → Rn PT none kX10_floodFrom 75 [some (mR 66), some (mI (a)), some (mI (((b_dirs (g_nb μ) O x st 4).2.2 : Nat))), some (mI (hd)), some (mI (x)), v5, v6] [] (mkh (m_upd (m_upd μ 68 Fc) 69 qc) c s) Q) : ∀ (d n : Nat) (k ti : Int) (tl : Nat) (Fc qc : Nat → Int) (v6 : Option MV), k = (n : Int) → ti = (tl : Int) → n + d = 4 → tl = (b_dirs (g_nb μ) O x st n).2.2 → Agr Fc qc (b_dirs (g_nb μ) O x st n) → Rn PT none kX10_floodFrom 31 [some (mR 66), some (mI (a)), some (mI (ti)), some (mI (hd)), some (mI (x)), some (mI (k)), v6] [] (mkh (m_upd (m_upd μ 68 Fc) 69 qc) c s) Q := by
  have hL_ := hL
  obtain ⟨lc, lr, le, lm, lw, lh, lwo, lwd, q0, q1, q2, q3, q4, q8, q499, q500, lth, lG, lT, lW, -⟩ := hL_
  intro d
  induction d with
  | zero =>
    intro n k ti tl Fc qc v6 ek et hn htl hA
    subst ek et
    refine rn_iload (k' := 32) rfl rfl rfl ?_
    refine rn_iconst (k' := 33) rfl rfl ?_
    refine rn_icmp_ge (k' := 34) rfl rfl (fun hc1 => ?_) (fun hc1 => ?_)
    · skip
      have hn4 : n = 4 := by omega
      subst hn4
      subst htl
      exact K _ _ _ _ hA
    · exfalso; omega
  | succ d ih =>
    intro n k ti tl Fc qc v6 ek et hn htl hA
    subst ek et
    obtain ⟨⟨⟨p1, p2⟩, p3, p4, p5, p6⟩, p7, -⟩ := b_dirs_ok (O := O) (g_GR hL) hx hv hk n (by omega)
    have hN := (g_GR hL).2 x n hx (by omega) (by omega)
    have hNb : g_nb μ x (n : Int) = -1 ∨ (0 ≤ g_nb μ x (n : Int) ∧ g_nb μ x (n : Int) < 100) := hN.imp_right (fun z => g_cell_b hL z)
    have hxb := g_cell_b hL hx
    have hFx : Fc x.toNat = (b_dirs (g_nb μ) O x st n).1 x.toNat := hA.1 _ (by omega)
    have hFxb := p4 x.toNat
    by_cases hb : ¬ g_nb μ x (n : Int) = -1 ∧ O (g_nb μ x (n : Int)) ∧ (b_dirs (g_nb μ) O x st n).1 (g_nb μ x (n : Int)).toNat = -1
    · have hNc := hNb.resolve_left hb.1
      have o1 := (hO _ (hN.resolve_left hb.1)).1 hb.2.1
      have o2 : Fc (g_nb μ x (n : Int)).toNat = -1 := (hA.1 _ (by omega)).trans hb.2.2
      have o3 : tl < 100 := by rw [htl, ← p5]; exact cn_lt hb.2.2 100 (by omega)
      have hag := agr_step hA (by omega) hb
      rw [← htl] at hag
      have htl2 : tl + 1 = (b_dirs (g_nb μ) O x st (n + 1)).2.2 := by
        show _ = (b_dir _ _ _ _ _).2.2
        unfold b_dir
        rw [if_pos hb, htl]
      refine rn_iload (k' := 32) rfl rfl rfl ?_
      refine rn_iconst (k' := 33) rfl rfl ?_
      refine rn_icmp_ge (k' := 34) rfl rfl (fun hc1 => ?_) (fun hc1 => ?_)
      · exfalso; omega
      · skip
        refine rn_aload_n (k' := 35) rfl rfl rfl ?_
        refine rn_getR (k' := 36) rfl rfl K0_66 (by decide) rfl R0_66_0 ?_
        refine rn_iload (k' := 37) rfl rfl rfl ?_
        refine rn_iload (k' := 38) rfl rfl rfl ?_
        refine rn_callP (k' := 39) (y := 39) (vs := [mR 6, mI (x), mI ((n : Int))]) (S' := []) (v := some (mI (g_nb μ x (n : Int)))) (h' := mkh (m_upd (m_upd μ 68 Fc) 69 qc) c s) rfl rfl rfl (k_neighbour (((hL).upd rfl).upd rfl) (by omega) (by omega)) ?_
        show Rn PT none kX10_floodFrom 39 [some (mR 66), some (mI (a)), some (mI ((tl : Int))), some (mI (hd)), some (mI (x)), some (mI ((n : Int))), v6] [mI (g_nb μ x (n : Int))] (mkh (m_upd (m_upd μ 68 Fc) 69 qc) c s) _
        refine rn_istore (k' := 40) (L' := [some (mR 66), some (mI (a)), some (mI ((tl : Int))), some (mI (hd)), some (mI (x)), some (mI ((n : Int))), some (mI (g_nb μ x (n : Int)))]) rfl rfl (Nat.le_of_ble_eq_true rfl) rfl ?_
        refine rn_iload (k' := 41) rfl rfl rfl ?_
        refine rn_iconst (k' := 42) rfl rfl ?_
        refine rn_icmp_eq (k' := 43) rfl rfl (fun hc2 => ?_) (fun hc2 => ?_)
        · exfalso; omega
        · skip
          refine rn_aload_n (k' := 44) rfl rfl rfl ?_
          refine rn_getR (k' := 45) rfl rfl K0_66 (by decide) rfl R0_66_1 ?_
          refine rn_iload (k' := 46) rfl rfl rfl ?_
          refine rn_zaload (k' := 47) rfl rfl K0_67 (by omega) (by omega) ?_
          show Rn PT none kX10_floodFrom 47 [some (mR 66), some (mI (a)), some (mI ((tl : Int))), some (mI (hd)), some (mI (x)), some (mI ((n : Int))), some (mI (g_nb μ x (n : Int)))] [mI (μ 67 ((g_nb μ x (n : Int)).toNat))] (mkh (m_upd (m_upd μ 68 Fc) 69 qc) c s) _
          refine rn_if_eq (k' := 48) rfl rfl (fun hc3 => ?_) (fun hc3 => ?_)
          · exfalso; omega
          · skip
            refine rn_aload_n (k' := 49) rfl rfl rfl ?_
            refine rn_getR (k' := 50) rfl rfl K0_66 (by decide) rfl R0_66_2 ?_
            refine rn_iload (k' := 51) rfl rfl rfl ?_
            refine rn_iaload (k' := 52) rfl rfl K0_68 (by omega) (by omega) ?_
            show Rn PT none kX10_floodFrom 52 [some (mR 66), some (mI (a)), some (mI ((tl : Int))), some (mI (hd)), some (mI (x)), some (mI ((n : Int))), some (mI (g_nb μ x (n : Int)))] [mI (Fc ((g_nb μ x (n : Int)).toNat))] (mkh (m_upd (m_upd μ 68 Fc) 69 qc) c s) _
            refine rn_iconst (k' := 53) rfl rfl ?_
            refine rn_icmp_ne (k' := 54) rfl rfl (fun hc4 => ?_) (fun hc4 => ?_)
            · exfalso; omega
            · skip
              refine rn_iload_n (k' := 55) rfl rfl rfl ?_
              refine rn_bipush (k' := 56) rfl rfl ?_
              refine rn_icmp_ge (k' := 57) rfl rfl (fun hc5 => ?_) (fun hc5 => ?_)
              · exfalso; omega
              · skip
                refine rn_aload_n (k' := 58) rfl rfl rfl ?_
                refine rn_getR (k' := 59) rfl rfl K0_66 (by decide) rfl R0_66_2 ?_
                refine rn_iload (k' := 60) rfl rfl rfl ?_
                refine rn_aload_n (k' := 61) rfl rfl rfl ?_
                refine rn_getR (k' := 62) rfl rfl K0_66 (by decide) rfl R0_66_2 ?_
                refine rn_iload (k' := 63) rfl rfl rfl ?_
                refine rn_iaload (k' := 64) rfl rfl K0_68 (by omega) (by omega) ?_
                show Rn PT none kX10_floodFrom 64 [some (mR 66), some (mI (a)), some (mI ((tl : Int))), some (mI (hd)), some (mI (x)), some (mI ((n : Int))), some (mI (g_nb μ x (n : Int)))] [mI (Fc ((x).toNat)), mI (g_nb μ x (n : Int)), mR 68] (mkh (m_upd (m_upd μ 68 Fc) 69 qc) c s) _
                refine rn_iconst (k' := 65) rfl rfl ?_
                refine rn_iadd (k' := 66) rfl rfl (by omega) ?_
                refine rn_iastore (k' := 67) rfl rfl K0_68 (by omega) (by omega) ?_
                refine rn_aload_n (k' := 68) rfl rfl rfl ?_
                refine rn_getR (k' := 69) rfl rfl K0_66 (by decide) rfl R0_66_3 ?_
                refine rn_iload_n (k' := 70) rfl rfl rfl ?_
                refine rn_iload (k' := 71) rfl rfl rfl ?_
                refine rn_iastore (k' := 72) rfl rfl K0_69 (by omega) (by omega) ?_
                refine rn_iinc (k' := 73) (L' := [some (mR 66), some (mI (a)), some (mI ((tl : Int) + 1)), some (mI (hd)), some (mI (x)), some (mI ((n : Int))), some (mI (g_nb μ x (n : Int)))]) rfl rfl rfl (by omega) rfl ?_
                refine rn_iinc (k' := 74) (L' := [some (mR 66), some (mI (a)), some (mI ((tl : Int) + 1)), some (mI (hd)), some (mI (x)), some (mI ((n : Int) + 1)), some (mI (g_nb μ x (n : Int)))]) rfl rfl rfl (by omega) rfl ?_
                refine rn_goto rfl ?_
                show Rn PT none kX10_floodFrom 31 [some (mR 66), some (mI (a)), some (mI ((tl : Int) + 1)), some (mI (hd)), some (mI (x)), some (mI ((n : Int) + 1)), some (mI (g_nb μ x (n : Int)))] [] (mkh (m_set (m_set (m_upd (m_upd μ 68 Fc) 69 qc) 68 ((g_nb μ x (n : Int)).toNat) ((Fc ((x).toNat)) + 1)) 69 tl (g_nb μ x (n : Int))) c s) _
                rw [set_upd_ne (a := 68) (b := 69) (by decide), set_upd_eq (a := 68), set_upd_eq (a := 69)]
                exact ih (n + 1) _ _ (tl + 1) _ _ _ (by omega) (by omega) (by omega) htl2 hag
    · have e : (b_dirs (g_nb μ) O x st (n + 1)) = (b_dirs (g_nb μ) O x st n) := by
        show b_dir _ _ _ _ _ = _
        unfold b_dir
        rw [if_neg hb]
      have o4 : g_nb μ x (n : Int) = -1 ∨ μ 67 (g_nb μ x (n : Int)).toNat = 0 ∨ ¬ Fc (g_nb μ x (n : Int)).toNat = -1 := by
        by_cases z1 : g_nb μ x (n : Int) = -1
        · exact Or.inl z1
        · have hNc := hNb.resolve_left z1
          by_cases z2 : O (g_nb μ x (n : Int))
          · refine Or.inr (Or.inr (fun z3 => hb ⟨z1, z2, ?_⟩))
            rw [← hA.1 _ (by omega)]; exact z3
          · exact Or.inr (Or.inl ((hO _ (hN.resolve_left z1)).2 z2))
      have o5 : tl ≤ 100 := by omega
      have o6 : g_nb μ x (n : Int) = -1 ∨ tl < 100 ∨ ¬ Fc (g_nb μ x (n : Int)).toNat = -1 := by
        by_cases z1 : g_nb μ x (n : Int) = -1
        · exact Or.inl z1
        · have hNc := hNb.resolve_left z1
          by_cases z3 : Fc (g_nb μ x (n : Int)).toNat = -1
          · refine Or.inr (Or.inl ?_)
            rw [htl, ← p5]
            exact cn_lt (x := (g_nb μ x (n : Int)).toNat) (by rw [← hA.1 _ (by omega)]; exact z3) 100 (by omega)
          · exact Or.inr (Or.inr z3)
      refine rn_iload (k' := 32) rfl rfl rfl ?_
      refine rn_iconst (k' := 33) rfl rfl ?_
      refine rn_icmp_ge (k' := 34) rfl rfl (fun hc1 => ?_) (fun hc1 => ?_)
      · exfalso; omega
      · skip
        refine rn_aload_n (k' := 35) rfl rfl rfl ?_
        refine rn_getR (k' := 36) rfl rfl K0_66 (by decide) rfl R0_66_0 ?_
        refine rn_iload (k' := 37) rfl rfl rfl ?_
        refine rn_iload (k' := 38) rfl rfl rfl ?_
        refine rn_callP (k' := 39) (y := 39) (vs := [mR 6, mI (x), mI ((n : Int))]) (S' := []) (v := some (mI (g_nb μ x (n : Int)))) (h' := mkh (m_upd (m_upd μ 68 Fc) 69 qc) c s) rfl rfl rfl (k_neighbour (((hL).upd rfl).upd rfl) (by omega) (by omega)) ?_
        show Rn PT none kX10_floodFrom 39 [some (mR 66), some (mI (a)), some (mI ((tl : Int))), some (mI (hd)), some (mI (x)), some (mI ((n : Int))), v6] [mI (g_nb μ x (n : Int))] (mkh (m_upd (m_upd μ 68 Fc) 69 qc) c s) _
        refine rn_istore (k' := 40) (L' := [some (mR 66), some (mI (a)), some (mI ((tl : Int))), some (mI (hd)), some (mI (x)), some (mI ((n : Int))), some (mI (g_nb μ x (n : Int)))]) rfl rfl (Nat.le_of_ble_eq_true rfl) rfl ?_
        refine rn_iload (k' := 41) rfl rfl rfl ?_
        refine rn_iconst (k' := 42) rfl rfl ?_
        refine rn_icmp_eq (k' := 43) rfl rfl (fun hc2 => ?_) (fun hc2 => ?_)
        · skip
          refine rn_iinc (k' := 74) (L' := [some (mR 66), some (mI (a)), some (mI ((tl : Int))), some (mI (hd)), some (mI (x)), some (mI ((n : Int) + 1)), some (mI (g_nb μ x (n : Int)))]) rfl rfl rfl (by omega) rfl ?_
          refine rn_goto rfl ?_
          exact ih (n + 1) _ _ tl Fc qc _ (by omega) rfl (by omega) (by rw [e]; exact htl) (by rw [e]; exact hA)
        · skip
          refine rn_aload_n (k' := 44) rfl rfl rfl ?_
          refine rn_getR (k' := 45) rfl rfl K0_66 (by decide) rfl R0_66_1 ?_
          refine rn_iload (k' := 46) rfl rfl rfl ?_
          refine rn_zaload (k' := 47) rfl rfl K0_67 (by omega) (by omega) ?_
          show Rn PT none kX10_floodFrom 47 [some (mR 66), some (mI (a)), some (mI ((tl : Int))), some (mI (hd)), some (mI (x)), some (mI ((n : Int))), some (mI (g_nb μ x (n : Int)))] [mI (μ 67 ((g_nb μ x (n : Int)).toNat))] (mkh (m_upd (m_upd μ 68 Fc) 69 qc) c s) _
          refine rn_if_eq (k' := 48) rfl rfl (fun hc3 => ?_) (fun hc3 => ?_)
          · skip
            refine rn_iinc (k' := 74) (L' := [some (mR 66), some (mI (a)), some (mI ((tl : Int))), some (mI (hd)), some (mI (x)), some (mI ((n : Int) + 1)), some (mI (g_nb μ x (n : Int)))]) rfl rfl rfl (by omega) rfl ?_
            refine rn_goto rfl ?_
            exact ih (n + 1) _ _ tl Fc qc _ (by omega) rfl (by omega) (by rw [e]; exact htl) (by rw [e]; exact hA)
          · skip
            refine rn_aload_n (k' := 49) rfl rfl rfl ?_
            refine rn_getR (k' := 50) rfl rfl K0_66 (by decide) rfl R0_66_2 ?_
            refine rn_iload (k' := 51) rfl rfl rfl ?_
            refine rn_iaload (k' := 52) rfl rfl K0_68 (by omega) (by omega) ?_
            show Rn PT none kX10_floodFrom 52 [some (mR 66), some (mI (a)), some (mI ((tl : Int))), some (mI (hd)), some (mI (x)), some (mI ((n : Int))), some (mI (g_nb μ x (n : Int)))] [mI (Fc ((g_nb μ x (n : Int)).toNat))] (mkh (m_upd (m_upd μ 68 Fc) 69 qc) c s) _
            refine rn_iconst (k' := 53) rfl rfl ?_
            refine rn_icmp_ne (k' := 54) rfl rfl (fun hc4 => ?_) (fun hc4 => ?_)
            · skip
              refine rn_iinc (k' := 74) (L' := [some (mR 66), some (mI (a)), some (mI ((tl : Int))), some (mI (hd)), some (mI (x)), some (mI ((n : Int) + 1)), some (mI (g_nb μ x (n : Int)))]) rfl rfl rfl (by omega) rfl ?_
              refine rn_goto rfl ?_
              exact ih (n + 1) _ _ tl Fc qc _ (by omega) rfl (by omega) (by rw [e]; exact htl) (by rw [e]; exact hA)
            · skip
              refine rn_iload_n (k' := 55) rfl rfl rfl ?_
              refine rn_bipush (k' := 56) rfl rfl ?_
              refine rn_icmp_ge (k' := 57) rfl rfl (fun hc5 => ?_) (fun hc5 => ?_)
              · exfalso; omega
              · exfalso; omega
set_option maxHeartbeats 4000000 in
theorem l_flood {μ : Nat → Nat → Int} {c s : Nat} (hL : I_land μ) {O : Int → Prop} [DecidablePred O] (hO : ∀ x, g_cell μ x → (O x → μ 67 x.toNat = 1) ∧ (¬ O x → μ 67 x.toNat = 0)) {a : Int} (ha : g_cell μ a) : ∀ (d n : Nat) (k ti : Int) (tl : Nat) (Fc qc : Nat → Int) (v4 v5 v6 : Option MV), k = (n : Int) → ti = (tl : Int) → n + d = 100 → tl = (b_at (g_nb μ) O (b_init a) n).2.2 → Agr Fc qc (b_at (g_nb μ) O (b_init a) n) → Rn PT none kX10_floodFrom 18 [some (mR 66), some (mI (a)), some (mI (ti)), some (mI (k)), v4, v5, v6] [] (mkh (m_upd (m_upd μ 68 Fc) 69 qc) c s) (fun r => ∃ Fc qc, r = (some (some (mI (((bfs (g_nb μ) O a).2.2 : Nat) : Int))), mkh (m_upd (m_upd μ 68 Fc) 69 qc) c s) ∧ ∀ j, j < 100 → Fc j = (bfs (g_nb μ) O a).1 j) := by
  have hL_ := hL
  obtain ⟨lc, lr, le, lm, lw, lh, lwo, lwd, q0, q1, q2, q3, q4, q8, q499, q500, lth, lG, lT, lW, -⟩ := hL_
  intro d
  induction d with
  | zero =>
    intro n k ti tl Fc qc v4 v5 v6 ek et hn htl hA
    subst ek et
    have hok := b_at_ok (O := O) (g_GR hL) (b_init_ok (g_GR hL) ha) n
    have htb := hok.1
    have e : tl ≤ n → (bfs (g_nb μ) O a) = (b_at (g_nb μ) O (b_init a) n) := fun z => by
      show b_at _ _ _ 100 = _
      rw [show 100 = n + 0 by omega]
      exact b_at_stop (by omega) _
    refine rn_iload_n (k' := 19) rfl rfl rfl ?_
    refine rn_iload_n (k' := 20) rfl rfl rfl ?_
    refine rn_icmp_ge (k' := 21) rfl rfl (fun hc1 => ?_) (fun hc1 => ?_)
    · skip
      refine rn_iload_n (k' := 78) rfl rfl rfl ?_
      refine rn_iret rfl (Or.inl rfl) ?_
      have e2 := e (by omega)
      refine ⟨Fc, qc, ?_, ?_⟩
      · rw [e2, htl]
      · rw [e2]; exact hA.1
    · exfalso; omega
  | succ d ih =>
    intro n k ti tl Fc qc v4 v5 v6 ek et hn htl hA
    subst ek et
    have hok := b_at_ok (O := O) (g_GR hL) (b_init_ok (g_GR hL) ha) n
    have htb := hok.1
    have e : tl ≤ n → (bfs (g_nb μ) O a) = (b_at (g_nb μ) O (b_init a) n) := fun z => by
      show b_at _ _ _ 100 = _
      rw [show 100 = n + (d + 1) by omega]
      exact b_at_stop (by omega) _
    refine rn_iload_n (k' := 19) rfl rfl rfl ?_
    refine rn_iload_n (k' := 20) rfl rfl rfl ?_
    refine rn_icmp_ge (k' := 21) rfl rfl (fun hc1 => ?_) (fun hc1 => ?_)
    · skip
      refine rn_iload_n (k' := 78) rfl rfl rfl ?_
      refine rn_iret rfl (Or.inl rfl) ?_
      have e2 := e (by omega)
      refine ⟨Fc, qc, ?_, ?_⟩
      · rw [e2, htl]
      · rw [e2]; exact hA.1
    · skip
      refine rn_iload_n (k' := 22) rfl rfl rfl ?_
      refine rn_bipush (k' := 23) rfl rfl ?_
      refine rn_icmp_ge (k' := 24) rfl rfl (fun hc2 => ?_) (fun hc2 => ?_)
      · exfalso; omega
      · skip
        refine rn_aload_n (k' := 25) rfl rfl rfl ?_
        refine rn_getR (k' := 26) rfl rfl K0_66 (by decide) rfl R0_66_3 ?_
        refine rn_iload_n (k' := 27) rfl rfl rfl ?_
        refine rn_iaload (k' := 28) rfl rfl K0_69 (by omega) (by omega) ?_
        show Rn PT none kX10_floodFrom 28 [some (mR 66), some (mI (a)), some (mI ((tl : Int))), some (mI ((n : Int))), v4, v5, v6] [mI (qc (n))] (mkh (m_upd (m_upd μ 68 Fc) 69 qc) c s) _
        refine rn_istore (k' := 29) (L' := [some (mR 66), some (mI (a)), some (mI ((tl : Int))), some (mI ((n : Int))), some (mI (qc (n))), v5, v6]) rfl rfl (Nat.le_of_ble_eq_true rfl) rfl ?_
        refine rn_iconst (k' := 30) rfl rfl ?_
        refine rn_istore (k' := 31) (L' := [some (mR 66), some (mI (a)), some (mI ((tl : Int))), some (mI ((n : Int))), some (mI (qc (n))), some (mI (0)), v6]) rfl rfl (Nat.le_of_ble_eq_true rfl) rfl ?_
        have hq : qc n = (b_at (g_nb μ) O (b_init a) n).2.1 n := hA.2 n (by omega)
        have hx : g_cell μ (qc n) := by rw [hq]; exact hok.2.1 n (by omega)
        have hv : ¬ (b_at (g_nb μ) O (b_init a) n).1 (qc n).toNat = -1 := by rw [hq]; exact hok.2.2.2.2 n (by omega)
        have e1 : (b_at (g_nb μ) O (b_init a) (n + 1)) = b_dirs (g_nb μ) O (qc n) (b_at (g_nb μ) O (b_init a) n) 4 := by
          show (if n < _ then _ else _) = _
          rw [if_pos (by omega), hq]
        refine l_flood_in hL hO (x := qc n) (st := (b_at (g_nb μ) O (b_init a) n)) hx hok hv ?_ 4 0 _ _ tl Fc qc _ rfl rfl rfl htl hA
        intro Fc1 qc1 v5 v6 hA1
        refine rn_iinc (k' := 76) (L' := [some (mR 66), some (mI (a)), some (mI ((b_dirs (g_nb μ) O (qc n) (b_at (g_nb μ) O (b_init a) n) 4).2.2)), some (mI ((n : Int) + 1)), some (mI (qc n)), v5, v6]) rfl rfl rfl (by omega) rfl ?_
        refine rn_goto rfl ?_
        exact ih (n + 1) _ _ _ Fc1 qc1 _ _ _ (by omega) rfl (by omega) (by rw [e1]) (by rw [e1]; exact hA1)
