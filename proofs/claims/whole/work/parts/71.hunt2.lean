variable {N : Int}
/-! ===== printed by wip/whole/gen71.py: the class's hunt ===== -/
theorem upd4_of {μ ν : Nat → Nat → Int} {x y z w : Nat} (h : ∀ b, ¬ b = x → ¬ b = y → ¬ b = z → ¬ b = w → ν b = μ b) : ν = m_upd (m_upd (m_upd (m_upd μ x (ν x)) y (ν y)) z (ν z)) w (ν w) := by
  funext i j
  unfold m_upd
  by_cases i0 : i = w
  · simp [i0]
  · by_cases i1 : i = z
    · rw [if_neg i0, if_pos i1, i1]
    · by_cases i2 : i = y
      · rw [if_neg i0, if_neg i1, if_pos i2, i2]
      · by_cases i3 : i = x
        · rw [if_neg i0, if_neg i1, if_neg i2, if_pos i3, i3]
        · rw [if_neg i0, if_neg i1, if_neg i2, if_neg i3, h i i3 i2 i1 i0]
def nz (b : Int) : Int := if b = -1 then 0 else b
def lst (f : Nat → Int) (b : Int) : Int := if b = -1 then 1000000000 else f b.toNat
theorem nz_n : nz (-1) = 0 := rfl
theorem nz_p {b : Int} (h : ¬ b = -1) : nz b = b := if_neg h
theorem lst_n {f : Nat → Int} : lst f (-1) = 1000000000 := rfl
theorem lst_p {f : Nat → Int} {b : Int} (h : ¬ b = -1) : lst f b = f b.toNat := if_neg h
set_option maxHeartbeats 4000000 in
theorem l_X10_openForWolf {μ : Nat → Nat → Int} {c s : Nat} (hL : I_land μ) {w : Int} (hw : 0 ≤ w ∧ w ≤ 1000) : ∀ (d n : Nat) (k : Int), k = (n : Int) → (n : Int) + d = 10 * μ 6 9 → Rn PT none kX10_openForWolf 2 [some (mR 66), some (mI (w)), some (mI (k))] [] (mkh (m_upd μ 67 (fl (fun j : Nat => if g_dep μ (j : Int) w ≤ μ 6 15 then 1 else 0) (μ 67) n)) c s) (fun r => r = (some none, mkh ((m_upd μ 67 (fl (fun j : Nat => if g_dep μ (j : Int) w ≤ μ 6 15 then 1 else 0) (μ 67) (10 * μ 6 9).toNat))) c s)) := by
  have hL_ := hL
  obtain ⟨lc, lr, le, lm, lw, lh, lwo, lwd, q0, q1, q2, q3, q4, q8, q499, q500, lth, lG, lT, lW, -⟩ := hL_
  intro d
  induction d with
  | zero =>
    intro n k  ek hn
    subst ek
    refine rn_iload_n (k' := 3) rfl rfl rfl ?_
    refine rn_aload_n (k' := 4) rfl rfl rfl ?_
    refine rn_getR (k' := 5) rfl rfl K0_66 (by decide) rfl R0_66_0 ?_
    refine rn_callP (k' := 6) (y := 29) (vs := [mR 6]) (S' := [mI ((n : Int))]) (v := some (mI (10 * μ 6 9))) (h' := mkh (m_upd μ 67 (fl (fun j : Nat => if g_dep μ (j : Int) w ≤ μ 6 15 then 1 else 0) (μ 67) n)) c s) rfl rfl rfl (c_X3_span (μ := (m_upd μ 67 (fl (fun j : Nat => if g_dep μ (j : Int) w ≤ μ 6 15 then 1 else 0) (μ 67) n))) (by show 0 ≤ μ 6 9 ∧ μ 6 9 ≤ 10; omega)) ?_
    show Rn PT none kX10_openForWolf 6 [some (mR 66), some (mI (w)), some (mI ((n : Int)))] [mI (10 * μ 6 9), mI ((n : Int))] (mkh (m_upd μ 67 (fl (fun j : Nat => if g_dep μ (j : Int) w ≤ μ 6 15 then 1 else 0) (μ 67) n)) c s) _
    refine rn_icmp_ge (k' := 7) rfl rfl (fun hc1 => ?_) (fun hc1 => ?_)
    · skip
      refine rn_vret rfl ?_
      rw [show (10 * μ 6 9).toNat = n by omega]
    · exfalso; omega
  | succ d ih =>
    intro n k  ek hn
    subst ek
    refine rn_iload_n (k' := 3) rfl rfl rfl ?_
    refine rn_aload_n (k' := 4) rfl rfl rfl ?_
    refine rn_getR (k' := 5) rfl rfl K0_66 (by decide) rfl R0_66_0 ?_
    refine rn_callP (k' := 6) (y := 29) (vs := [mR 6]) (S' := [mI ((n : Int))]) (v := some (mI (10 * μ 6 9))) (h' := mkh (m_upd μ 67 (fl (fun j : Nat => if g_dep μ (j : Int) w ≤ μ 6 15 then 1 else 0) (μ 67) n)) c s) rfl rfl rfl (c_X3_span (μ := (m_upd μ 67 (fl (fun j : Nat => if g_dep μ (j : Int) w ≤ μ 6 15 then 1 else 0) (μ 67) n))) (by show 0 ≤ μ 6 9 ∧ μ 6 9 ≤ 10; omega)) ?_
    show Rn PT none kX10_openForWolf 6 [some (mR 66), some (mI (w)), some (mI ((n : Int)))] [mI (10 * μ 6 9), mI ((n : Int))] (mkh (m_upd μ 67 (fl (fun j : Nat => if g_dep μ (j : Int) w ≤ μ 6 15 then 1 else 0) (μ 67) n)) c s) _
    refine rn_icmp_ge (k' := 7) rfl rfl (fun hc1 => ?_) (fun hc1 => ?_)
    · exfalso; omega
    · skip
      refine rn_aload_n (k' := 8) rfl rfl rfl ?_
      refine rn_getR (k' := 9) rfl rfl K0_66 (by decide) rfl R0_66_1 ?_
      refine rn_iload_n (k' := 10) rfl rfl rfl ?_
      refine rn_aload_n (k' := 11) rfl rfl rfl ?_
      refine rn_getR (k' := 12) rfl rfl K0_66 (by decide) rfl R0_66_0 ?_
      refine rn_iload_n (k' := 13) rfl rfl rfl ?_
      refine rn_iload_n (k' := 14) rfl rfl rfl ?_
      refine rn_callP (k' := 15) (y := 35) (vs := [mR 6, mI ((n : Int)), mI (w)]) (S' := [mI ((n : Int)), mR 67]) (v := some (mI (g_dep μ (n : Int) w))) (h' := mkh (m_upd μ 67 (fl (fun j : Nat => if g_dep μ (j : Int) w ≤ μ 6 15 then 1 else 0) (μ 67) n)) c s) rfl rfl rfl (k_depthOf (μ := (m_upd μ 67 (fl (fun j : Nat => if g_dep μ (j : Int) w ≤ μ 6 15 then 1 else 0) (μ 67) n))) ((hL).upd rfl) (by omega) (by omega)) ?_
      show Rn PT none kX10_openForWolf 15 [some (mR 66), some (mI (w)), some (mI ((n : Int)))] [mI (g_dep μ (n : Int) w), mI ((n : Int)), mR 67] (mkh (m_upd μ 67 (fl (fun j : Nat => if g_dep μ (j : Int) w ≤ μ 6 15 then 1 else 0) (μ 67) n)) c s) _
      refine rn_aload_n (k' := 16) rfl rfl rfl ?_
      refine rn_getR (k' := 17) rfl rfl K0_66 (by decide) rfl R0_66_0 ?_
      refine rn_getI (k' := 18) rfl rfl K0_6 (by decide) rfl ?_
      show Rn PT none kX10_openForWolf 18 [some (mR 66), some (mI (w)), some (mI ((n : Int)))] [mI (μ 6 15), mI (g_dep μ (n : Int) w), mI ((n : Int)), mR 67] (mkh (m_upd μ 67 (fl (fun j : Nat => if g_dep μ (j : Int) w ≤ μ 6 15 then 1 else 0) (μ 67) n)) c s) _
      refine rn_icmp_gt (k' := 19) rfl rfl (fun hc2 => ?_) (fun hc2 => ?_)
      · skip
        refine rn_iconst (k' := 22) rfl rfl ?_
        refine rn_zastore (k' := 23) rfl rfl K0_67 (by omega) (by omega) (by omega) ?_
        refine rn_iinc (k' := 24) (L' := [some (mR 66), some (mI (w)), some (mI ((n : Int) + 1))]) rfl rfl rfl (by omega) rfl ?_
        refine rn_goto rfl ?_
        show Rn PT none kX10_openForWolf 2 [some (mR 66), some (mI (w)), some (mI ((n : Int) + 1))] [] (mkh (m_set (m_upd μ 67 (fl (fun j : Nat => if g_dep μ (j : Int) w ≤ μ 6 15 then 1 else 0) (μ 67) n)) 67 n (0)) c s) _
        rw [fl_st (n := n) (g := fun j : Nat => if g_dep μ (j : Int) w ≤ μ 6 15 then 1 else 0) (by show (0 : Int) = if _ then _ else _; first | rw [if_pos (by omega)] | rw [if_neg (by omega)])]
        exact ih (n + 1) _ (by omega) (by omega)
      · skip
        refine rn_iconst (k' := 20) rfl rfl ?_
        refine rn_goto rfl ?_
        refine rn_zastore (k' := 23) rfl rfl K0_67 (by omega) (by omega) (by omega) ?_
        refine rn_iinc (k' := 24) (L' := [some (mR 66), some (mI (w)), some (mI ((n : Int) + 1))]) rfl rfl rfl (by omega) rfl ?_
        refine rn_goto rfl ?_
        show Rn PT none kX10_openForWolf 2 [some (mR 66), some (mI (w)), some (mI ((n : Int) + 1))] [] (mkh (m_set (m_upd μ 67 (fl (fun j : Nat => if g_dep μ (j : Int) w ≤ μ 6 15 then 1 else 0) (μ 67) n)) 67 n (1)) c s) _
        rw [fl_st (n := n) (g := fun j : Nat => if g_dep μ (j : Int) w ≤ μ 6 15 then 1 else 0) (by show (1 : Int) = if _ then _ else _; first | rw [if_pos (by omega)] | rw [if_neg (by omega)])]
        exact ih (n + 1) _ (by omega) (by omega)
set_option maxHeartbeats 2000000 in
theorem c_X10_openForWolf {μ : Nat → Nat → Int} {c s : Nat} (hL : I_land μ) {w : Int} (hw : 0 ≤ w ∧ w ≤ 1000) : Cl PT 88 [mR 66, mI w] (mkh μ c s) (fun r => r = (some none, mkh ((m_upd μ 67 (fl (fun j : Nat => if g_dep μ (j : Int) w ≤ μ 6 15 then 1 else 0) (μ 67) (10 * μ 6 9).toNat))) c s)) := by
  have hL_ := hL
  obtain ⟨lc, lr, le, lm, lw, lh, lwo, lwd, q0, q1, q2, q3, q4, q8, q499, q500, lth, lG, lT, lW, -⟩ := hL_
  refine ⟨_, PT_88, Nat.le_of_ble_eq_true rfl, ?_⟩
  show Rn PT none kX10_openForWolf 0 [some (mR 66), some (mI (w)), none] [] (mkh μ c s) _
  refine rn_iconst (k' := 1) rfl rfl ?_
  refine rn_istore_n (k' := 2) (L' := [some (mR 66), some (mI (w)), some (mI (0))]) rfl rfl (Nat.le_of_ble_eq_true rfl) rfl ?_
  have h := l_X10_openForWolf (c := c) (s := s) hL (w := w) hw (10 * μ 6 9).toNat 0 0 rfl (by omega)
  rw [fl_0] at h
  exact h
theorem open_w {μ : Nat → Nat → Int} {w : Int} {f : Nat → Int} (x : Int) (hx : g_cell μ x) : (g_dep μ x w ≤ μ 6 15 → fl (fun j : Nat => if g_dep μ (j : Int) w ≤ μ 6 15 then 1 else 0) f (10 * μ 6 9).toNat x.toNat = 1) ∧ (¬ g_dep μ x w ≤ μ 6 15 → fl (fun j : Nat => if g_dep μ (j : Int) w ≤ μ 6 15 then 1 else 0) f (10 * μ 6 9).toNat x.toNat = 0) := by
  obtain ⟨h0, h1, h2⟩ := hx
  have e := td10 h0
  have e2 : ((x.toNat : Nat) : Int) = x := Int.toNat_of_nonneg h0
  rw [fl_lt (by omega)]
  show (g_dep μ x w ≤ μ 6 15 → (if g_dep μ ((x.toNat : Nat) : Int) w ≤ μ 6 15 then (1 : Int) else 0) = 1) ∧ (¬ g_dep μ x w ≤ μ 6 15 → (if g_dep μ ((x.toNat : Nat) : Int) w ≤ μ 6 15 then (1 : Int) else 0) = 0)
  rw [e2]
  exact ⟨fun h => if_pos h, fun h => if_neg h⟩
set_option maxHeartbeats 4000000 in
theorem l_nearer {μ : Nat → Nat → Int} {c s : Nat} (hL : I_land μ) {a : Int} (ha : g_cell μ a) {G : Nat → Int} (hF : ∀ j, j < 100 → μ 68 j = G j) (hGb : ∀ j, -1 ≤ G j ∧ G j ≤ 100) : ∀ (d n : Nat) (k b f : Int) (v5 : Option MV), k = (n : Int) → n + d = 4 → b = nz (ba (gdir μ G a) n) → f = lst (gdir μ G a) (ba (gdir μ G a) n) → Rn PT none kX10_nearer 6 [some (mR 66), some (mI (a)), some (mI (b)), some (mI (f)), some (mI (k)), v5] [] (mkh μ c s) (fun r => r = (some (some (mI (nz (ba (gdir μ G a) 4)))), mkh μ c s)) := by
  have hL_ := hL
  obtain ⟨lc, lr, le, lm, lw, lh, lwo, lwd, q0, q1, q2, q3, q4, q8, q499, q500, lth, lG, lT, lW, -⟩ := hL_
  have hab := g_cell_b hL ha
  intro d
  induction d with
  | zero =>
    intro n k b f v5 ek hn eb ef
    subst ek eb ef
    refine rn_iload (k' := 7) rfl rfl rfl ?_
    refine rn_iconst (k' := 8) rfl rfl ?_
    refine rn_icmp_ge (k' := 9) rfl rfl (fun hc1 => ?_) (fun hc1 => ?_)
    · skip
      refine rn_iload_n (k' := 40) rfl rfl rfl ?_
      refine rn_iret rfl (Or.inl rfl) ?_
      rw [show n = 4 by omega]
    · exfalso; omega
  | succ d ih =>
    intro n k b f v5 ek hn eb ef
    subst ek eb ef
    have hN := (g_GR hL).2 a n ha (by omega) (by omega)
    have hNb : g_nb μ a (n : Int) = -1 ∨ (0 ≤ g_nb μ a (n : Int) ∧ g_nb μ a (n : Int) < 100) := hN.imp_right (fun z => g_cell_b hL z)
    have hG : ¬ g_nb μ a (n : Int) = -1 → μ 68 (g_nb μ a (n : Int)).toNat = G (g_nb μ a (n : Int)).toNat := fun z => hF _ (by omega)
    have hd : (g_nb μ a (n : Int) = -1 ∧ (gdir μ G a) n = -1) ∨ (¬ g_nb μ a (n : Int) = -1 ∧ (gdir μ G a) n = G (g_nb μ a (n : Int)).toNat) := by
      unfold gdir
      by_cases z : g_nb μ a (n : Int) = -1
      · left; rw [if_pos z]; exact ⟨z, rfl⟩
      · right; rw [if_neg z]; exact ⟨z, rfl⟩
    have hg1 := hGb (g_nb μ a (n : Int)).toNat
    have hg2 := hGb (g_nb μ a (((ba (gdir μ G a) n)).toNat : Nat)).toNat
    have hbb := ba_b (f := (gdir μ G a)) n
    have hl : ((ba (gdir μ G a) n) = -1 ∧ lst ((gdir μ G a)) ((ba (gdir μ G a) n)) = 1000000000) ∨ (¬ (ba (gdir μ G a) n) = -1 ∧ lst ((gdir μ G a)) ((ba (gdir μ G a) n)) = (gdir μ G a) ((ba (gdir μ G a) n)).toNat) := by
      by_cases z : (ba (gdir μ G a) n) = -1
      · left; rw [z]; exact ⟨rfl, rfl⟩
      · right; exact ⟨z, lst_p z⟩
    refine rn_iload (k' := 7) rfl rfl rfl ?_
    refine rn_iconst (k' := 8) rfl rfl ?_
    refine rn_icmp_ge (k' := 9) rfl rfl (fun hc1 => ?_) (fun hc1 => ?_)
    · exfalso; omega
    · skip
      refine rn_aload_n (k' := 10) rfl rfl rfl ?_
      refine rn_getR (k' := 11) rfl rfl K0_66 (by decide) rfl R0_66_0 ?_
      refine rn_iload_n (k' := 12) rfl rfl rfl ?_
      refine rn_iload (k' := 13) rfl rfl rfl ?_
      refine rn_callP (k' := 14) (y := 39) (vs := [mR 6, mI (a), mI ((n : Int))]) (S' := []) (v := some (mI (g_nb μ a (n : Int)))) (h' := mkh μ c s) rfl rfl rfl (k_neighbour (μ := μ) (hL) (by omega) (by omega)) ?_
      show Rn PT none kX10_nearer 14 [some (mR 66), some (mI (a)), some (mI (nz (ba (gdir μ G a) n))), some (mI (lst (gdir μ G a) (ba (gdir μ G a) n))), some (mI ((n : Int))), v5] [mI (g_nb μ a (n : Int))] (mkh μ c s) _
      refine rn_istore (k' := 15) (L' := [some (mR 66), some (mI (a)), some (mI (nz (ba (gdir μ G a) n))), some (mI (lst (gdir μ G a) (ba (gdir μ G a) n))), some (mI ((n : Int))), some (mI (g_nb μ a (n : Int)))]) rfl rfl (Nat.le_of_ble_eq_true rfl) rfl ?_
      refine rn_iload (k' := 16) rfl rfl rfl ?_
      refine rn_iconst (k' := 17) rfl rfl ?_
      refine rn_icmp_eq (k' := 18) rfl rfl (fun hc2 => ?_) (fun hc2 => ?_)
      · skip
        refine rn_iinc (k' := 38) (L' := [some (mR 66), some (mI (a)), some (mI (nz (ba (gdir μ G a) n))), some (mI (lst (gdir μ G a) (ba (gdir μ G a) n))), some (mI ((n : Int) + 1)), some (mI (g_nb μ a (n : Int)))]) rfl rfl rfl (by omega) rfl ?_
        refine rn_goto rfl ?_
        have hG1 : g_nb μ a (n : Int) = -1 ∨ μ 68 (g_nb μ a (n : Int)).toNat = G (g_nb μ a (n : Int)).toNat := by
          by_cases z : g_nb μ a (n : Int) = -1
          · exact Or.inl z
          · exact Or.inr (hG z)
        exact ih (n + 1) _ _ _ _ (by omega) (by omega) (by first | rw [ba_pos (by omega), nz_p (by omega)] | rw [ba_neg (by omega)]) (by first | rw [ba_pos (by omega), lst_p (by omega)]; show _ = gdir μ G a n; omega | rw [ba_neg (by omega)])
      · skip
        refine rn_aload_n (k' := 19) rfl rfl rfl ?_
        refine rn_getR (k' := 20) rfl rfl K0_66 (by decide) rfl R0_66_2 ?_
        refine rn_iload (k' := 21) rfl rfl rfl ?_
        refine rn_iaload (k' := 22) rfl rfl K0_68 (by omega) (by omega) ?_
        refine rn_iconst (k' := 23) rfl rfl ?_
        refine rn_icmp_eq (k' := 24) rfl rfl (fun hc3 => ?_) (fun hc3 => ?_)
        · skip
          refine rn_iinc (k' := 38) (L' := [some (mR 66), some (mI (a)), some (mI (nz (ba (gdir μ G a) n))), some (mI (lst (gdir μ G a) (ba (gdir μ G a) n))), some (mI ((n : Int) + 1)), some (mI (g_nb μ a (n : Int)))]) rfl rfl rfl (by omega) rfl ?_
          refine rn_goto rfl ?_
          have hG1 : g_nb μ a (n : Int) = -1 ∨ μ 68 (g_nb μ a (n : Int)).toNat = G (g_nb μ a (n : Int)).toNat := by
            by_cases z : g_nb μ a (n : Int) = -1
            · exact Or.inl z
            · exact Or.inr (hG z)
          exact ih (n + 1) _ _ _ _ (by omega) (by omega) (by first | rw [ba_pos (by omega), nz_p (by omega)] | rw [ba_neg (by omega)]) (by first | rw [ba_pos (by omega), lst_p (by omega)]; show _ = gdir μ G a n; omega | rw [ba_neg (by omega)])
        · skip
          refine rn_aload_n (k' := 25) rfl rfl rfl ?_
          refine rn_getR (k' := 26) rfl rfl K0_66 (by decide) rfl R0_66_2 ?_
          refine rn_iload (k' := 27) rfl rfl rfl ?_
          refine rn_iaload (k' := 28) rfl rfl K0_68 (by omega) (by omega) ?_
          refine rn_iload_n (k' := 29) rfl rfl rfl ?_
          refine rn_icmp_ge (k' := 30) rfl rfl (fun hc4 => ?_) (fun hc4 => ?_)
          · skip
            refine rn_iinc (k' := 38) (L' := [some (mR 66), some (mI (a)), some (mI (nz (ba (gdir μ G a) n))), some (mI (lst (gdir μ G a) (ba (gdir μ G a) n))), some (mI ((n : Int) + 1)), some (mI (g_nb μ a (n : Int)))]) rfl rfl rfl (by omega) rfl ?_
            refine rn_goto rfl ?_
            have hG1 : g_nb μ a (n : Int) = -1 ∨ μ 68 (g_nb μ a (n : Int)).toNat = G (g_nb μ a (n : Int)).toNat := by
              by_cases z : g_nb μ a (n : Int) = -1
              · exact Or.inl z
              · exact Or.inr (hG z)
            exact ih (n + 1) _ _ _ _ (by omega) (by omega) (by first | rw [ba_pos (by omega), nz_p (by omega)] | rw [ba_neg (by omega)]) (by first | rw [ba_pos (by omega), lst_p (by omega)]; show _ = gdir μ G a n; omega | rw [ba_neg (by omega)])
          · skip
            refine rn_aload_n (k' := 31) rfl rfl rfl ?_
            refine rn_getR (k' := 32) rfl rfl K0_66 (by decide) rfl R0_66_2 ?_
            refine rn_iload (k' := 33) rfl rfl rfl ?_
            refine rn_iaload (k' := 34) rfl rfl K0_68 (by omega) (by omega) ?_
            refine rn_istore_n (k' := 35) (L' := [some (mR 66), some (mI (a)), some (mI (nz (ba (gdir μ G a) n))), some (mI (μ 68 ((g_nb μ a (n : Int)).toNat))), some (mI ((n : Int))), some (mI (g_nb μ a (n : Int)))]) rfl rfl (Nat.le_of_ble_eq_true rfl) rfl ?_
            refine rn_iload (k' := 36) rfl rfl rfl ?_
            refine rn_istore_n (k' := 37) (L' := [some (mR 66), some (mI (a)), some (mI ((n : Int))), some (mI (μ 68 ((g_nb μ a (n : Int)).toNat))), some (mI ((n : Int))), some (mI (g_nb μ a (n : Int)))]) rfl rfl (Nat.le_of_ble_eq_true rfl) rfl ?_
            refine rn_iinc (k' := 38) (L' := [some (mR 66), some (mI (a)), some (mI ((n : Int))), some (mI (μ 68 ((g_nb μ a (n : Int)).toNat))), some (mI ((n : Int) + 1)), some (mI (g_nb μ a (n : Int)))]) rfl rfl rfl (by omega) rfl ?_
            refine rn_goto rfl ?_
            have hG1 : g_nb μ a (n : Int) = -1 ∨ μ 68 (g_nb μ a (n : Int)).toNat = G (g_nb μ a (n : Int)).toNat := by
              by_cases z : g_nb μ a (n : Int) = -1
              · exact Or.inl z
              · exact Or.inr (hG z)
            exact ih (n + 1) _ _ _ _ (by omega) (by omega) (by first | rw [ba_pos (by omega), nz_p (by omega)] | rw [ba_neg (by omega)]) (by first | rw [ba_pos (by omega), lst_p (by omega)]; show _ = gdir μ G a n; omega | rw [ba_neg (by omega)])
set_option maxHeartbeats 2000000 in
theorem c_X10_nearer {μ : Nat → Nat → Int} {c s : Nat} (hL : I_land μ) {a : Int} (ha : g_cell μ a) {G : Nat → Int} (hF : ∀ j, j < 100 → μ 68 j = G j) (hGb : ∀ j, -1 ≤ G j ∧ G j ≤ 100) : Cl PT 92 [mR 66, mI a] (mkh μ c s) (fun r => r = (some (some (mI (nz (ba (gdir μ G a) 4)))), mkh (μ) c s)) := by
  have hL_ := hL
  obtain ⟨lc, lr, le, lm, lw, lh, lwo, lwd, q0, q1, q2, q3, q4, q8, q499, q500, lth, lG, lT, lW, -⟩ := hL_
  refine ⟨_, PT_92, Nat.le_of_ble_eq_true rfl, ?_⟩
  show Rn PT none kX10_nearer 0 [some (mR 66), some (mI (a)), none, none, none, none] [] (mkh μ c s) _
  refine rn_iconst (k' := 1) rfl rfl ?_
  refine rn_istore_n (k' := 2) (L' := [some (mR 66), some (mI (a)), some (mI (0)), none, none, none]) rfl rfl (Nat.le_of_ble_eq_true rfl) rfl ?_
  refine rn_ldc (k' := 3) rfl rfl ?_
  refine rn_istore_n (k' := 4) (L' := [some (mR 66), some (mI (a)), some (mI (0)), some (mI (1000000000)), none, none]) rfl rfl (Nat.le_of_ble_eq_true rfl) rfl ?_
  refine rn_iconst (k' := 5) rfl rfl ?_
  refine rn_istore (k' := 6) (L' := [some (mR 66), some (mI (a)), some (mI (0)), some (mI (1000000000)), some (mI (0)), none]) rfl rfl (Nat.le_of_ble_eq_true rfl) rfl ?_
  exact l_nearer hL ha hF hGb 4 0 _ _ _ _ rfl rfl rfl rfl
