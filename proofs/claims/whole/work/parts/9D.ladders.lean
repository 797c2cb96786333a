variable {N : Int}
/-! ===== printed by wip/whole/gen9D.py: ways by ladders of the class ===== -/
/-- the first level that has the cell b -/
noncomputable def g_lad (μ : Nat → Nat → Int) (a b : Int) (t : Nat) (w : Int) : Int := @fF (fun k => ∃ h, (LV (g_nb μ) (g_cell μ) (Sd μ w) (fun x => (1 : Int) = 1 ∧ ¬ μ 8 (200 + x).toNat = -1) (I0 (Sd μ w) (fun x => (1 : Int) = 1 ∧ ¬ μ 8 (200 + x).toNat = -1) (fun h => h = t) a) k) b h) (fun _ => Classical.propDecidable _) 0 10000
theorem Sd_rows {μ ν : Nat → Nat → Int} (e7 : ν 7 = μ 7) (e8 : ν 8 = μ 8) : Sd ν = Sd μ := by
  delta Sd g_stand
  rw [e7, e8]
theorem g_lad_rows {μ ν : Nat → Nat → Int} (e6 : ν 6 = μ 6) (e7 : ν 7 = μ 7) (e8 : ν 8 = μ 8) : g_lad ν = g_lad μ := by
  delta g_lad g_nb g_cell
  rw [Sd_rows e7 e8, e6, e8]
theorem g_lad_is {μ : Nat → Nat → Int} (hL : I_land μ) {a b w : Int} {t : Nat} (ha : g_cell μ a) {n : Nat} {h : Nat} (h1 : (LV (g_nb μ) (g_cell μ) (Sd μ w) (fun x => (1 : Int) = 1 ∧ ¬ μ 8 (200 + x).toNat = -1) (I0 (Sd μ w) (fun x => (1 : Int) = 1 ∧ ¬ μ 8 (200 + x).toNat = -1) (fun h => h = t) a) n) b h) (h2 : ∀ j, j < n → ¬ ∃ h, (LV (g_nb μ) (g_cell μ) (Sd μ w) (fun x => (1 : Int) = 1 ∧ ¬ μ 8 (200 + x).toNat = -1) (I0 (Sd μ w) (fun x => (1 : Int) = 1 ∧ ¬ μ 8 (200 + x).toNat = -1) (fun h => h = t) a) j) b h) : g_lad μ a b t w = (n : Int) := by
  unfold g_lad
  have hlf : (LF (g_nb μ) (g_cell μ) (Sd μ w) (fun x => (1 : Int) = 1 ∧ ¬ μ 8 (200 + x).toNat = -1) (I0 (Sd μ w) (fun x => (1 : Int) = 1 ∧ ¬ μ 8 (200 + x).toNat = -1) (fun h => h = t) a) n) b h := ⟨h1, fun m hm q => h2 m (by omega) ⟨h, q⟩⟩
  have hc := lf_count (g_GR hL) (i0_li ha) sd9 n b h hlf
  have := cn_le (CFn (LV (g_nb μ) (g_cell μ) (Sd μ w) (fun x => (1 : Int) = 1 ∧ ¬ μ 8 (200 + x).toNat = -1) (I0 (Sd μ w) (fun x => (1 : Int) = 1 ∧ ¬ μ 8 (200 + x).toNat = -1) (fun h => h = t) a) n)) 10000
  exact @fF_first _ (fun _ => Classical.propDecidable _) n ⟨h, h1⟩ 10000 0 (fun j _ hj => h2 j hj) (by omega) (by omega)
theorem g_lad_no {μ : Nat → Nat → Int} {a b w : Int} {t : Nat} (h2 : ∀ j, ¬ ∃ h, (LV (g_nb μ) (g_cell μ) (Sd μ w) (fun x => (1 : Int) = 1 ∧ ¬ μ 8 (200 + x).toNat = -1) (I0 (Sd μ w) (fun x => (1 : Int) = 1 ∧ ¬ μ 8 (200 + x).toNat = -1) (fun h => h = t) a) j) b h) : g_lad μ a b t w = -1 := by
  unfold g_lad
  exact @fF_none _ (fun _ => Classical.propDecidable _) 10000 0 (fun j _ _ => h2 j)
theorem one_bit {t : Nat} (ht : t < 64) : ∀ h, h < 128 → (pb (m_lshl 1 (t : Int)) 0 h = true ↔ h = t) := fun h hh => by
  unfold pb
  by_cases e : h < 64
  · rw [if_pos e, bJ_shl ht _ e]
    by_cases q : t ≤ h
    · rw [decide_eq_true q, bJ_1 (h - t) (by omega), Bool.true_and, decide_eq_true_iff]
      omega
    · rw [decide_eq_false q, Bool.false_and]
      exact ⟨fun z => absurd z (by decide), fun z => by omega⟩
  · rw [if_neg e, bJ_0 (h - 64) (by omega)]
    exact ⟨fun z => absurd z (by decide), fun z => by omega⟩
theorem one_bit2 {t : Nat} (h1 : 64 ≤ t) (ht : t < 128) : ∀ h, h < 128 → (pb 0 (m_lshl 1 ((t : Int) - 64)) h = true ↔ h = t) := fun h hh => by
  unfold pb
  by_cases e : h < 64
  · rw [if_pos e, bJ_0 h e]
    exact ⟨fun z => absurd z (by decide), fun z => by omega⟩
  · rw [if_neg e, show (t : Int) - 64 = ((t - 64 : Nat) : Int) by omega, bJ_shl (by omega) _ (by omega)]
    by_cases q : t - 64 ≤ h - 64
    · rw [decide_eq_true q, bJ_1 (h - 64 - (t - 64)) (by omega), Bool.true_and, decide_eq_true_iff]
      omega
    · rw [decide_eq_false q, Bool.false_and]
      exact ⟨fun z => absurd z (by decide), fun z => by omega⟩
set_option maxHeartbeats 4000000 in
theorem l_lad {μ : Nat → Nat → Int} {c s : Nat} (hL : I_land μ) {a b w : Int} (ha : g_cell μ a) (hbc : g_cell μ b) {t : Nat} {St : Nat → Int} (hSt : ∀ x h, g_cell μ x → h < 128 → (hb St x h = true ↔ Sd μ w x h)) : ∀ (d n : Nat) (k : Int) (f : Nat) (H : Nat → Int) (Se : Nat → Int) (Fr : Nat → Int) (Co : Nat → Int) (fc : Nat → Int) (cc : Nat → Int), k = (n : Int) → n + d = 10000 → (H 7 = (f : Int)) → (H 8 = 0) → (∀ x h, g_cell μ x → h < 128 → (hb Se x h = true ↔ (LV (g_nb μ) (g_cell μ) (Sd μ w) (fun x => (1 : Int) = 1 ∧ ¬ μ 8 (200 + x).toNat = -1) (I0 (Sd μ w) (fun x => (1 : Int) = 1 ∧ ¬ μ 8 (200 + x).toNat = -1) (fun h => h = t) a) n) x h)) → (FSt (g_cell μ) (LF (g_nb μ) (g_cell μ) (Sd μ w) (fun x => (1 : Int) = 1 ∧ ¬ μ 8 (200 + x).toNat = -1) (I0 (Sd μ w) (fun x => (1 : Int) = 1 ∧ ¬ μ 8 (200 + x).toNat = -1) (fun h => h = t) a) n) f Fr fc) → (CP (g_cell μ) (fun _ _ => False) 0 Co cc) → (∀ j, j < n → ¬ ∃ h, (LV (g_nb μ) (g_cell μ) (Sd μ w) (fun x => (1 : Int) = 1 ∧ ¬ μ 8 (200 + x).toNat = -1) (I0 (Sd μ w) (fun x => (1 : Int) = 1 ∧ ¬ μ 8 (200 + x).toNat = -1) (fun h => h = t) a) j) b h) → Rn PT none kX1_stepsByLadders 37 [some (mR 74), some (mI (a)), some (mI (b)), some (mI ((t : Int))), some (mI (w)), some (mI (k))] [] (mkh (m_upd (m_upd (m_upd (m_upd (m_upd (m_upd (m_upd μ 74 H) 75 St) 76 Se) 77 Fr) 78 Co) 79 fc) 80 cc) c s) (fun r => ∃ M : Nat → Nat → Int, r = (some (some (mI (g_lad μ a b t w))), mkh M c s) ∧ rst M = rst μ) := by
  have hL_ := hL
  obtain ⟨lc, lr, le, lm, lw, lh, lwo, lwd, q0, q1, q2, q3, q4, q8, q499, q500, lth, lG, lT, lW, -⟩ := hL_
  have hbb := g_cell_b hL hbc
  intro d
  induction d with
  | zero =>
    intro n k f H Se Fr Co fc cc ek hn h7 h8 hSe hF hC hno
    subst ek
    have hf0 : f = 0 := by
      rcases Nat.eq_zero_or_pos f with z | z
      · exact z
      · obtain ⟨h, k1, k2⟩ := hF.2.2.2.2 0 z
        have := lf_count (g_GR hL) (i0_li ha) sd9 n _ h k2
        have := cn_le (CFn (LV (g_nb μ) (g_cell μ) (Sd μ w) (fun x => (1 : Int) = 1 ∧ ¬ μ 8 (200 + x).toNat = -1) (I0 (Sd μ w) (fun x => (1 : Int) = 1 ∧ ¬ μ 8 (200 + x).toNat = -1) (fun h => h = t) a) n)) 10000
        omega
    refine rn_iload (k' := 38) rfl rfl rfl ?_
    refine rn_sipush (k' := 39) rfl rfl ?_
    refine rn_icmp_ge (k' := 40) rfl rfl (fun hc1 => ?_) (fun hc1 => ?_)
    · skip
      refine rn_iconst (k' := 71) rfl rfl ?_
      refine rn_iret rfl (Or.inl rfl) ?_
      have hcz := rd_closed (g_GR hL) (i0_li ha) sd9 (by rw [show f = 0 by omega] at hF; exact hF)
      refine ⟨(m_upd (m_upd (m_upd (m_upd (m_upd (m_upd (m_upd μ 74 H) 75 St) 76 Se) 77 Fr) 78 Co) 79 fc) 80 cc), ?_, ((rst_upd (fun _ => rfl)).trans ((rst_upd (fun _ => rfl)).trans ((rst_upd (fun _ => rfl)).trans ((rst_upd (fun _ => rfl)).trans ((rst_upd (fun _ => rfl)).trans ((rst_upd (fun _ => rfl)).trans (rst_upd (fun _ => rfl))))))))⟩
      rw [g_lad_no (fun j hj => ?_)]
      obtain ⟨h, hj⟩ := hj
      by_cases e : j < n
      · exact hno j e ⟨h, hj⟩
      · have hj2 : (LV (g_nb μ) (g_cell μ) (Sd μ w) (fun x => (1 : Int) = 1 ∧ ¬ μ 8 (200 + x).toNat = -1) (I0 (Sd μ w) (fun x => (1 : Int) = 1 ∧ ¬ μ 8 (200 + x).toNat = -1) (fun h => h = t) a) n) b h := lv_stop hcz (j - n) b h (by rw [show n + (j - n) = j by omega]; exact hj)
        obtain ⟨i, i1, -⟩ := hF.2.2.2.1 b h hbc (by have := (lv_G (g_GR hL) (i0_li ha) n b h hj2).2.1; omega) ⟨hj2, fun m hm q => hno m (by omega) ⟨h, q⟩⟩
        omega
    · exfalso; omega
  | succ d ih =>
    intro n k f H Se Fr Co fc cc ek hn h7 h8 hSe hF hC hno
    subst ek
    refine rn_iload (k' := 38) rfl rfl rfl ?_
    refine rn_sipush (k' := 39) rfl rfl ?_
    refine rn_icmp_ge (k' := 40) rfl rfl (fun hc1 => ?_) (fun hc1 => ?_)
    · exfalso; omega
    · skip
      refine rn_aload_n (k' := 41) rfl rfl rfl ?_
      refine rn_getI (k' := 42) rfl rfl K0_74 (by decide) rfl ?_
      show Rn PT none kX1_stepsByLadders 42 [some (mR 74), some (mI (a)), some (mI (b)), some (mI ((t : Int))), some (mI (w)), some (mI ((n : Int)))] [mI (H 7)] (mkh (m_upd (m_upd (m_upd (m_upd (m_upd (m_upd (m_upd μ 74 H) 75 St) 76 Se) 77 Fr) 78 Co) 79 fc) 80 cc) c s) _
      refine rn_if_le (k' := 43) rfl rfl (fun hc2 => ?_) (fun hc2 => ?_)
      · skip
        refine rn_iconst (k' := 71) rfl rfl ?_
        refine rn_iret rfl (Or.inl rfl) ?_
        have hcz := rd_closed (g_GR hL) (i0_li ha) sd9 (by rw [show f = 0 by omega] at hF; exact hF)
        refine ⟨(m_upd (m_upd (m_upd (m_upd (m_upd (m_upd (m_upd μ 74 H) 75 St) 76 Se) 77 Fr) 78 Co) 79 fc) 80 cc), ?_, ((rst_upd (fun _ => rfl)).trans ((rst_upd (fun _ => rfl)).trans ((rst_upd (fun _ => rfl)).trans ((rst_upd (fun _ => rfl)).trans ((rst_upd (fun _ => rfl)).trans ((rst_upd (fun _ => rfl)).trans (rst_upd (fun _ => rfl))))))))⟩
        rw [g_lad_no (fun j hj => ?_)]
        obtain ⟨h, hj⟩ := hj
        by_cases e : j < n
        · exact hno j e ⟨h, hj⟩
        · have hj2 : (LV (g_nb μ) (g_cell μ) (Sd μ w) (fun x => (1 : Int) = 1 ∧ ¬ μ 8 (200 + x).toNat = -1) (I0 (Sd μ w) (fun x => (1 : Int) = 1 ∧ ¬ μ 8 (200 + x).toNat = -1) (fun h => h = t) a) n) b h := lv_stop hcz (j - n) b h (by rw [show n + (j - n) = j by omega]; exact hj)
          obtain ⟨i, i1, -⟩ := hF.2.2.2.1 b h hbc (by have := (lv_G (g_GR hL) (i0_li ha) n b h hj2).2.1; omega) ⟨hj2, fun m hm q => hno m (by omega) ⟨h, q⟩⟩
          omega
      · skip
        refine rn_aload_n (k' := 44) rfl rfl rfl ?_
        refine rn_getR (k' := 45) rfl rfl K0_74 (by decide) rfl R0_74_2 ?_
        refine rn_iconst (k' := 46) rfl rfl ?_
        refine rn_iload_n (k' := 47) rfl rfl rfl ?_
        refine rn_imul (k' := 48) rfl rfl (by omega) ?_
        refine rn_laload (k' := 49) rfl rfl K0_76 (by omega) (by omega) ?_
        show Rn PT none kX1_stepsByLadders 49 [some (mR 74), some (mI (a)), some (mI (b)), some (mI ((t : Int))), some (mI (w)), some (mI ((n : Int)))] [mJ (Se ((2 * b).toNat))] (mkh (m_upd (m_upd (m_upd (m_upd (m_upd (m_upd (m_upd μ 74 H) 75 St) 76 Se) 77 Fr) 78 Co) 79 fc) 80 cc) c s) _
        refine rn_aload_n (k' := 50) rfl rfl rfl ?_
        refine rn_getR (k' := 51) rfl rfl K0_74 (by decide) rfl R0_74_2 ?_
        refine rn_iconst (k' := 52) rfl rfl ?_
        refine rn_iload_n (k' := 53) rfl rfl rfl ?_
        refine rn_imul (k' := 54) rfl rfl (by omega) ?_
        refine rn_iconst (k' := 55) rfl rfl ?_
        refine rn_iadd (k' := 56) rfl rfl (by omega) ?_
        refine rn_laload (k' := 57) rfl rfl K0_76 (by omega) (by omega) ?_
        show Rn PT none kX1_stepsByLadders 57 [some (mR 74), some (mI (a)), some (mI (b)), some (mI ((t : Int))), some (mI (w)), some (mI ((n : Int)))] [mJ (Se (((2 * b) + 1).toNat)), mJ (Se ((2 * b).toNat))] (mkh (m_upd (m_upd (m_upd (m_upd (m_upd (m_upd (m_upd μ 74 H) 75 St) 76 Se) 77 Fr) 78 Co) 79 fc) 80 cc) c s) _
        refine rn_lor (k' := 58) rfl rfl ?_
        refine rn_lconst (z := 0) (k' := 59) rfl rfl rfl ?_
        refine rn_lcmp (k' := 60) rfl rfl ?_
        refine rn_if_eq (k' := 61) rfl rfl (fun hc3 => ?_) (fun hc3 => ?_)
        · skip
          refine rn_aload_n (k' := 64) rfl rfl rfl ?_
          obtain ⟨MM, z1, z2, nn, rr, z3, H1, C1, c1, m1, z4, z5, z6, z7⟩ := c_stepOn (μ := μ) (c := c) (s := s) hL (St := St) (Se := Se) (Fr := Fr) (fc := fc) (f := f) hF.1 hF.2.1 (H := H) (Co := Co) (cc := cc) h8 h7 hC
          have hcs : Cl PT 21 [mR 74] (mkh (m_upd (m_upd (m_upd (m_upd (m_upd (m_upd (m_upd μ 74 H) 75 St) 76 Se) 77 Fr) 78 Co) 79 fc) 80 cc) c s) (fun r => r = (some none, mkh (m_upd (m_upd (m_upd (m_upd (m_upd (m_upd (m_upd μ 74 H1) 75 St) 76 Se) 77 Fr) 78 C1) 79 fc) 80 c1) c s)) := ⟨MM, z1, z2, nn, rr, z3, z4⟩
          refine rn_callP (k' := 65) (y := 21) (vs := [mR 74]) (S' := []) (v := none) (h' := mkh (m_upd (m_upd (m_upd (m_upd (m_upd (m_upd (m_upd μ 74 H1) 75 St) 76 Se) 77 Fr) 78 C1) 79 fc) 80 c1) c s) rfl rfl rfl (hcs) ?_
          show Rn PT none kX1_stepsByLadders 65 [some (mR 74), some (mI (a)), some (mI (b)), some (mI ((t : Int))), some (mI (w)), some (mI ((n : Int)))] [] (mkh (m_upd (m_upd (m_upd (m_upd (m_upd (m_upd (m_upd μ 74 H1) 75 St) 76 Se) 77 Fr) 78 C1) 79 fc) 80 c1) c s) _
          refine rn_aload_n (k' := 66) rfl rfl rfl ?_
          refine rn_iconst (k' := 67) rfl rfl ?_
          obtain ⟨MM, y1, y2, nn, rr, y3, H2, S2, F2, C2, f2, y4, y5, y6, y7, y8, y9⟩ := c_arrive (μ := μ) (c := c) (s := s) hL (l := 1) (by omega) (H := H1) (St := St) (Se0 := Se) (cc := c1) (Co0 := C1) (m := m1) z5 z7 (Fr := Fr) (fc := fc) (fun x h hx hh z => pp_sub z)
          have hca : Cl PT 23 [mR 74, mI 1] (mkh (m_upd (m_upd (m_upd (m_upd (m_upd (m_upd (m_upd μ 74 H1) 75 St) 76 Se) 77 Fr) 78 C1) 79 fc) 80 c1) c s) (fun r => r = (some none, mkh (m_upd (m_upd (m_upd (m_upd (m_upd (m_upd (m_upd μ 74 H2) 75 St) 76 S2) 77 F2) 78 C2) 79 f2) 80 c1) c s)) := ⟨MM, y1, y2, nn, rr, y3, y4⟩
          obtain ⟨w1, w2⟩ := rd_next (g_GR hL) (i0_li ha) sd9 hSt hSe hF y7 y8
          refine rn_callP (k' := 68) (y := 23) (vs := [mR 74, mI (1)]) (S' := []) (v := none) (h' := mkh (m_upd (m_upd (m_upd (m_upd (m_upd (m_upd (m_upd μ 74 H2) 75 St) 76 S2) 77 F2) 78 C2) 79 f2) 80 c1) c s) rfl rfl rfl (hca) ?_
          show Rn PT none kX1_stepsByLadders 68 [some (mR 74), some (mI (a)), some (mI (b)), some (mI ((t : Int))), some (mI (w)), some (mI ((n : Int)))] [] (mkh (m_upd (m_upd (m_upd (m_upd (m_upd (m_upd (m_upd μ 74 H2) 75 St) 76 S2) 77 F2) 78 C2) 79 f2) 80 c1) c s) _
          refine rn_iinc (k' := 69) (L' := [some (mR 74), some (mI (a)), some (mI (b)), some (mI ((t : Int))), some (mI (w)), some (mI ((n : Int) + 1))]) rfl rfl rfl (by omega) rfl ?_
          refine rn_goto rfl ?_
          have hnow : ¬ ∃ h, (LV (g_nb μ) (g_cell μ) (Sd μ w) (fun x => (1 : Int) = 1 ∧ ¬ μ 8 (200 + x).toNat = -1) (I0 (Sd μ w) (fun x => (1 : Int) = 1 ∧ ¬ μ 8 (200 + x).toNat = -1) (fun h => h = t) a) n) b h := fun ⟨h, hj⟩ => by
            have h9 := (lv_G (g_GR hL) (i0_li ha) n b h hj).2.1
            have h10 := (hSe b h hbc (by omega)).mpr hj
            have h11 := pb_zero.mp (cmp0.mp (by omega : m_cmp (m_lor (Se (2 * b).toNat) (Se ((2 * b) + 1).toNat)) 0 = 0)) h (by omega)
            have h12 : hb Se b h = false := h11
            rw [h12] at h10
            cases h10
          exact ih (n + 1) _ m1 _ _ _ _ _ _ (by omega) (by omega) y6 y5 w1 w2 y9 (fun j hj => by
            by_cases e : j = n
            · rw [e]; exact hnow
            · exact hno j (by omega))
        · skip
          refine rn_iload (k' := 62) rfl rfl rfl ?_
          refine rn_iret rfl (Or.inl rfl) ?_
          obtain ⟨h, k1, k2⟩ := pb_some (u := Se (2 * b).toNat) (v := Se ((2 * b) + 1).toNat) (fun z => by have z2 := cmp0.mpr z; omega)
          have hl := (hSe b h hbc k1).mp k2
          refine ⟨(m_upd (m_upd (m_upd (m_upd (m_upd (m_upd (m_upd μ 74 H) 75 St) 76 Se) 77 Fr) 78 Co) 79 fc) 80 cc), ?_, ((rst_upd (fun _ => rfl)).trans ((rst_upd (fun _ => rfl)).trans ((rst_upd (fun _ => rfl)).trans ((rst_upd (fun _ => rfl)).trans ((rst_upd (fun _ => rfl)).trans ((rst_upd (fun _ => rfl)).trans (rst_upd (fun _ => rfl))))))))⟩
          rw [g_lad_is hL ha hl hno]
set_option maxHeartbeats 4000000 in
theorem x_lad {μ : Nat → Nat → Int} {c s : Nat} (hL : I_land μ) {a b w : Int} (ha : g_cell μ a) (hbc : g_cell μ b) (hw : 0 ≤ w ∧ w ≤ 1000) {t : Nat} (ht : t ≤ 99) (hst : g_stand μ a (t : Int) w) : Cl PT 20 [mR 74, mI a, mI b, mI (t : Int), mI w] (mkh μ c s) (fun r => ∃ M : Nat → Nat → Int, r = (some (some (mI (g_lad μ a b t w))), mkh M c s) ∧ rst M = rst μ) := by
  have hab := g_cell_b hL ha
  refine ⟨_, PT_20, Nat.le_of_ble_eq_true rfl, ?_⟩
  show Rn PT none kX1_stepsByLadders 0 [some (mR 74), some (mI (a)), some (mI (b)), some (mI ((t : Int))), some (mI (w)), none] [] (mkh μ c s) _
  refine rn_aload_n (k' := 1) rfl rfl rfl ?_
  refine rn_iload (k' := 2) rfl rfl rfl ?_
  obtain ⟨St, hSt0, hcp⟩ := c_prepare (μ := μ) (c := c) (s := s) (hL) (w := w) hw
  have hSt := st_sd hSt0
  have hnm : (m_set (m_set (m_upd (m_upd (m_upd μ 75 St) 76 ((fl (fun _ => 0) (μ 76) 200))) 78 ((fl (fun _ => 0) (μ 78) 200))) 74 7 (0)) 74 8 (0)) = (m_upd (m_upd (m_upd (m_upd (m_upd (m_upd (m_upd μ 74 ((fs (fs (μ 74) 7 0) 8 0))) 75 St) 76 ((fl (fun _ => 0) (μ 76) 200))) 77 ((μ 77))) 78 ((fl (fun _ => 0) (μ 78) 200))) 79 ((μ 79))) 80 ((μ 80))) := by
    rw [upd7_of (μ := μ) (ν := (m_set (m_set (m_upd (m_upd (m_upd μ 75 St) 76 ((fl (fun _ => 0) (μ 76) 200))) 78 ((fl (fun _ => 0) (μ 78) 200))) 74 7 (0)) 74 8 (0))) (fun b hb74 hb75 hb76 hb77 hb78 hb79 hb80 => (row_set hb74).trans ((row_set hb74).trans ((row_upd hb78).trans ((row_upd hb76).trans (row_upd hb75)))))]
    have q74 : (m_set (m_set (m_upd (m_upd (m_upd μ 75 St) 76 ((fl (fun _ => 0) (μ 76) 200))) 78 ((fl (fun _ => 0) (μ 78) 200))) 74 7 (0)) 74 8 (0)) 74 = fs (fs (μ 74) 7 0) 8 0 := by
      rw [row_set_eq, row_set_eq]
      rfl
    rw [q74]
    rfl
  rw [hnm] at hcp
  refine rn_callP (k' := 3) (y := 17) (vs := [mR 74, mI (w)]) (S' := []) (v := none) (h' := mkh (m_upd (m_upd (m_upd (m_upd (m_upd (m_upd (m_upd μ 74 ((fs (fs (μ 74) 7 0) 8 0))) 75 St) 76 ((fl (fun _ => 0) (μ 76) 200))) 77 ((μ 77))) 78 ((fl (fun _ => 0) (μ 78) 200))) 79 ((μ 79))) 80 ((μ 80))) c s) rfl rfl rfl (hcp) ?_
  show Rn PT none kX1_stepsByLadders 3 [some (mR 74), some (mI (a)), some (mI (b)), some (mI ((t : Int))), some (mI (w)), none] [] (mkh (m_upd (m_upd (m_upd (m_upd (m_upd (m_upd (m_upd μ 74 ((fs (fs (μ 74) 7 0) 8 0))) 75 St) 76 ((fl (fun _ => 0) (μ 76) 200))) 77 ((μ 77))) 78 ((fl (fun _ => 0) (μ 78) 200))) 79 ((μ 79))) 80 ((μ 80))) c s) _
  refine rn_aload_n (k' := 4) rfl rfl rfl ?_
  refine rn_getR (k' := 5) rfl rfl K0_74 (by decide) rfl R0_74_1 ?_
  refine rn_iload_n (k' := 6) rfl rfl rfl ?_
  refine rn_iload_n (k' := 7) rfl rfl rfl ?_
  have hq : hb St a t = true := (hSt a t ha (by omega)).mpr ⟨by omega, hst⟩
  refine rn_callP (k' := 8) (y := 15) (vs := [mR 75, mI (a), mI ((t : Int))]) (S' := []) (v := some (mI (1))) (h' := mkh (m_upd (m_upd (m_upd (m_upd (m_upd (m_upd (m_upd μ 74 ((fs (fs (μ 74) 7 0) 8 0))) 75 St) 76 ((fl (fun _ => 0) (μ 76) 200))) 77 ((μ 77))) 78 ((fl (fun _ => 0) (μ 78) 200))) 79 ((μ 79))) 80 ((μ 80))) c s) rfl rfl rfl (c_has75_t (μ := (m_upd (m_upd (m_upd (m_upd (m_upd (m_upd (m_upd μ 74 ((fs (fs (μ 74) 7 0) 8 0))) 75 St) 76 ((fl (fun _ => 0) (μ 76) 200))) 77 ((μ 77))) 78 ((fl (fun _ => 0) (μ 78) 200))) 79 ((μ 79))) 80 ((μ 80)))) (c := c) (s := s) hab (by omega) hq) ?_
  show Rn PT none kX1_stepsByLadders 8 [some (mR 74), some (mI (a)), some (mI (b)), some (mI ((t : Int))), some (mI (w)), none] [mI (1)] (mkh (m_upd (m_upd (m_upd (m_upd (m_upd (m_upd (m_upd μ 74 ((fs (fs (μ 74) 7 0) 8 0))) 75 St) 76 ((fl (fun _ => 0) (μ 76) 200))) 77 ((μ 77))) 78 ((fl (fun _ => 0) (μ 78) 200))) 79 ((μ 79))) 80 ((μ 80))) c s) _
  refine rn_if_ne (k' := 9) rfl rfl (fun hc1 => ?_) (fun hc1 => ?_)
  · skip
    refine rn_aload_n (k' := 12) rfl rfl rfl ?_
    refine rn_iload_n (k' := 13) rfl rfl rfl ?_
    refine rn_iload_n (k' := 14) rfl rfl rfl ?_
    refine rn_bipush (k' := 15) rfl rfl ?_
    refine rn_icmp_ge (k' := 16) rfl rfl (fun hc2 => ?_) (fun hc2 => ?_)
    · skip
      refine rn_lconst (z := 0) (k' := 21) rfl rfl rfl ?_
      refine rn_iload_n (k' := 22) rfl rfl rfl ?_
      refine rn_bipush (k' := 23) rfl rfl ?_
      refine rn_icmp_ge (k' := 24) rfl rfl (fun hc3 => ?_) (fun hc3 => ?_)
      · skip
        refine rn_lconst (z := 1) (k' := 27) rfl rfl rfl ?_
        refine rn_iload_n (k' := 28) rfl rfl rfl ?_
        refine rn_bipush (k' := 29) rfl rfl ?_
        refine rn_isub (k' := 30) rfl rfl (by omega) ?_
        refine rn_lshl (k' := 31) rfl rfl ?_
        obtain ⟨H1, C1, c1, m1, ⟨e1, e2, e3⟩, hcc⟩ := c_come (μ := μ) (c := c) (s := s) hL (x := a) (lo := 0) (hi := m_lshl (1) ((t : Int) - 64)) ha (H := (fs (fs (μ 74) 7 0) 8 0)) (St := St) (Se := (fl (fun _ => 0) (μ 76) 200)) (Fr := μ 77) (Co := (fl (fun _ => 0) (μ 78) 200)) (fc := μ 79) (cc := μ 80) (m := 0) (by rw [fs_eq]; rfl) (cp_z hL)
        refine rn_callP (k' := 32) (y := 22) (vs := [mR 74, mI (a), mJ (0), mJ (m_lshl (1) ((t : Int) - 64))]) (S' := []) (v := none) (h' := mkh (m_upd (m_upd (m_upd (m_upd (m_upd (m_upd (m_upd μ 74 H1) 75 St) 76 ((fl (fun _ => 0) (μ 76) 200))) 77 ((μ 77))) 78 C1) 79 ((μ 79))) 80 c1) c s) rfl rfl rfl (hcc) ?_
        show Rn PT none kX1_stepsByLadders 32 [some (mR 74), some (mI (a)), some (mI (b)), some (mI ((t : Int))), some (mI (w)), none] [] (mkh (m_upd (m_upd (m_upd (m_upd (m_upd (m_upd (m_upd μ 74 H1) 75 St) 76 ((fl (fun _ => 0) (μ 76) 200))) 77 ((μ 77))) 78 C1) 79 ((μ 79))) 80 c1) c s) _
        refine rn_aload_n (k' := 33) rfl rfl rfl ?_
        refine rn_iconst (k' := 34) rfl rfl ?_
        obtain ⟨MM, y1, y2, nn, rr, y3, H2, S2, F2, C2, f2, y4, y5, y6, y7, y8, y9⟩ := c_arrive (μ := μ) (c := c) (s := s) hL (l := 1) (by omega) (H := H1) (St := St) (Se0 := (fl (fun _ => 0) (μ 76) 200)) (cc := c1) (Co0 := C1) (m := m1) e1 e3 (Fr := μ 77) (fc := μ 79) (fun x h hx hh z => by rcases z with z | ⟨z1, z2, z3, z4⟩; exact z.elim; rw [z1]; exact ⟨z3, z4⟩)
        have hca : Cl PT 23 [mR 74, mI 1] (mkh (m_upd (m_upd (m_upd (m_upd (m_upd (m_upd (m_upd μ 74 H1) 75 St) 76 ((fl (fun _ => 0) (μ 76) 200))) 77 ((μ 77))) 78 C1) 79 ((μ 79))) 80 c1) c s) (fun r => r = (some none, mkh (m_upd (m_upd (m_upd (m_upd (m_upd (m_upd (m_upd μ 74 H2) 75 St) 76 S2) 77 F2) 78 C2) 79 f2) 80 c1) c s)) := ⟨MM, y1, y2, nn, rr, y3, y4⟩
        obtain ⟨w1, w2⟩ := rd_init (μ := μ) (nb := g_nb μ) (B := (fun h => h = t)) ha sd9 hSt (fun x h hx hh => hb_0 (g_cell_b hL hx) hh) (fun h hh _ => one_bit2 (by omega) (by omega) h hh) y7 y8
        refine rn_callP (k' := 35) (y := 23) (vs := [mR 74, mI (1)]) (S' := []) (v := none) (h' := mkh (m_upd (m_upd (m_upd (m_upd (m_upd (m_upd (m_upd μ 74 H2) 75 St) 76 S2) 77 F2) 78 C2) 79 f2) 80 c1) c s) rfl rfl rfl (hca) ?_
        show Rn PT none kX1_stepsByLadders 35 [some (mR 74), some (mI (a)), some (mI (b)), some (mI ((t : Int))), some (mI (w)), none] [] (mkh (m_upd (m_upd (m_upd (m_upd (m_upd (m_upd (m_upd μ 74 H2) 75 St) 76 S2) 77 F2) 78 C2) 79 f2) 80 c1) c s) _
        refine rn_iconst (k' := 36) rfl rfl ?_
        refine rn_istore (k' := 37) (L' := [some (mR 74), some (mI (a)), some (mI (b)), some (mI ((t : Int))), some (mI (w)), some (mI (0))]) rfl rfl (Nat.le_of_ble_eq_true rfl) rfl ?_
        exact l_lad hL ha hbc hSt 10000 0 _ m1 H2 S2 F2 C2 f2 c1 rfl (by omega) (y6) y5 w1 w2 y9 (fun j hj => absurd hj (Nat.not_lt_zero j))
      · skip
        refine rn_lconst (z := 0) (k' := 25) rfl rfl rfl ?_
        refine rn_goto rfl ?_
        exfalso; omega
    · skip
      refine rn_lconst (z := 1) (k' := 17) rfl rfl rfl ?_
      refine rn_iload_n (k' := 18) rfl rfl rfl ?_
      refine rn_lshl (k' := 19) rfl rfl ?_
      refine rn_goto rfl ?_
      refine rn_iload_n (k' := 22) rfl rfl rfl ?_
      refine rn_bipush (k' := 23) rfl rfl ?_
      refine rn_icmp_ge (k' := 24) rfl rfl (fun hc4 => ?_) (fun hc4 => ?_)
      · skip
        refine rn_lconst (z := 1) (k' := 27) rfl rfl rfl ?_
        refine rn_iload_n (k' := 28) rfl rfl rfl ?_
        refine rn_bipush (k' := 29) rfl rfl ?_
        refine rn_isub (k' := 30) rfl rfl (by omega) ?_
        refine rn_lshl (k' := 31) rfl rfl ?_
        exfalso; omega
      · skip
        refine rn_lconst (z := 0) (k' := 25) rfl rfl rfl ?_
        refine rn_goto rfl ?_
        obtain ⟨H1, C1, c1, m1, ⟨e1, e2, e3⟩, hcc⟩ := c_come (μ := μ) (c := c) (s := s) hL (x := a) (lo := m_lshl (1) ((t : Int))) (hi := 0) ha (H := (fs (fs (μ 74) 7 0) 8 0)) (St := St) (Se := (fl (fun _ => 0) (μ 76) 200)) (Fr := μ 77) (Co := (fl (fun _ => 0) (μ 78) 200)) (fc := μ 79) (cc := μ 80) (m := 0) (by rw [fs_eq]; rfl) (cp_z hL)
        refine rn_callP (k' := 32) (y := 22) (vs := [mR 74, mI (a), mJ (m_lshl (1) ((t : Int))), mJ (0)]) (S' := []) (v := none) (h' := mkh (m_upd (m_upd (m_upd (m_upd (m_upd (m_upd (m_upd μ 74 H1) 75 St) 76 ((fl (fun _ => 0) (μ 76) 200))) 77 ((μ 77))) 78 C1) 79 ((μ 79))) 80 c1) c s) rfl rfl rfl (hcc) ?_
        show Rn PT none kX1_stepsByLadders 32 [some (mR 74), some (mI (a)), some (mI (b)), some (mI ((t : Int))), some (mI (w)), none] [] (mkh (m_upd (m_upd (m_upd (m_upd (m_upd (m_upd (m_upd μ 74 H1) 75 St) 76 ((fl (fun _ => 0) (μ 76) 200))) 77 ((μ 77))) 78 C1) 79 ((μ 79))) 80 c1) c s) _
        refine rn_aload_n (k' := 33) rfl rfl rfl ?_
        refine rn_iconst (k' := 34) rfl rfl ?_
        obtain ⟨MM, y1, y2, nn, rr, y3, H2, S2, F2, C2, f2, y4, y5, y6, y7, y8, y9⟩ := c_arrive (μ := μ) (c := c) (s := s) hL (l := 1) (by omega) (H := H1) (St := St) (Se0 := (fl (fun _ => 0) (μ 76) 200)) (cc := c1) (Co0 := C1) (m := m1) e1 e3 (Fr := μ 77) (fc := μ 79) (fun x h hx hh z => by rcases z with z | ⟨z1, z2, z3, z4⟩; exact z.elim; rw [z1]; exact ⟨z3, z4⟩)
        have hca : Cl PT 23 [mR 74, mI 1] (mkh (m_upd (m_upd (m_upd (m_upd (m_upd (m_upd (m_upd μ 74 H1) 75 St) 76 ((fl (fun _ => 0) (μ 76) 200))) 77 ((μ 77))) 78 C1) 79 ((μ 79))) 80 c1) c s) (fun r => r = (some none, mkh (m_upd (m_upd (m_upd (m_upd (m_upd (m_upd (m_upd μ 74 H2) 75 St) 76 S2) 77 F2) 78 C2) 79 f2) 80 c1) c s)) := ⟨MM, y1, y2, nn, rr, y3, y4⟩
        obtain ⟨w1, w2⟩ := rd_init (μ := μ) (nb := g_nb μ) (B := (fun h => h = t)) ha sd9 hSt (fun x h hx hh => hb_0 (g_cell_b hL hx) hh) (fun h hh _ => one_bit (by omega) h hh) y7 y8
        refine rn_callP (k' := 35) (y := 23) (vs := [mR 74, mI (1)]) (S' := []) (v := none) (h' := mkh (m_upd (m_upd (m_upd (m_upd (m_upd (m_upd (m_upd μ 74 H2) 75 St) 76 S2) 77 F2) 78 C2) 79 f2) 80 c1) c s) rfl rfl rfl (hca) ?_
        show Rn PT none kX1_stepsByLadders 35 [some (mR 74), some (mI (a)), some (mI (b)), some (mI ((t : Int))), some (mI (w)), none] [] (mkh (m_upd (m_upd (m_upd (m_upd (m_upd (m_upd (m_upd μ 74 H2) 75 St) 76 S2) 77 F2) 78 C2) 79 f2) 80 c1) c s) _
        refine rn_iconst (k' := 36) rfl rfl ?_
        refine rn_istore (k' := 37) (L' := [some (mR 74), some (mI (a)), some (mI (b)), some (mI ((t : Int))), some (mI (w)), some (mI (0))]) rfl rfl (Nat.le_of_ble_eq_true rfl) rfl ?_
        exact l_lad hL ha hbc hSt 10000 0 _ m1 H2 S2 F2 C2 f2 c1 rfl (by omega) (y6) y5 w1 w2 y9 (fun j hj => absurd hj (Nat.not_lt_zero j))
  · exfalso; omega
set_option maxHeartbeats 4000000 in
theorem n_lad {μ : Nat → Nat → Int} {c s : Nat} (hL : I_land μ) {a b w : Int} (ha : g_cell μ a) (hbc : g_cell μ b) (hw : 0 ≤ w ∧ w ≤ 1000) {t : Nat} (ht : t ≤ 99) (hst : ¬ g_stand μ a (t : Int) w) : Cl PT 20 [mR 74, mI a, mI b, mI (t : Int), mI w] (mkh μ c s) (fun r => ∃ M : Nat → Nat → Int, r = (some (some (mI (g_lad μ a b t w))), mkh M c s) ∧ rst M = rst μ) := by
  have hab := g_cell_b hL ha
  refine ⟨_, PT_20, Nat.le_of_ble_eq_true rfl, ?_⟩
  show Rn PT none kX1_stepsByLadders 0 [some (mR 74), some (mI (a)), some (mI (b)), some (mI ((t : Int))), some (mI (w)), none] [] (mkh μ c s) _
  refine rn_aload_n (k' := 1) rfl rfl rfl ?_
  refine rn_iload (k' := 2) rfl rfl rfl ?_
  obtain ⟨St, hSt0, hcp⟩ := c_prepare (μ := μ) (c := c) (s := s) (hL) (w := w) hw
  have hSt := st_sd hSt0
  have hnm : (m_set (m_set (m_upd (m_upd (m_upd μ 75 St) 76 ((fl (fun _ => 0) (μ 76) 200))) 78 ((fl (fun _ => 0) (μ 78) 200))) 74 7 (0)) 74 8 (0)) = (m_upd (m_upd (m_upd (m_upd (m_upd (m_upd (m_upd μ 74 ((fs (fs (μ 74) 7 0) 8 0))) 75 St) 76 ((fl (fun _ => 0) (μ 76) 200))) 77 ((μ 77))) 78 ((fl (fun _ => 0) (μ 78) 200))) 79 ((μ 79))) 80 ((μ 80))) := by
    rw [upd7_of (μ := μ) (ν := (m_set (m_set (m_upd (m_upd (m_upd μ 75 St) 76 ((fl (fun _ => 0) (μ 76) 200))) 78 ((fl (fun _ => 0) (μ 78) 200))) 74 7 (0)) 74 8 (0))) (fun b hb74 hb75 hb76 hb77 hb78 hb79 hb80 => (row_set hb74).trans ((row_set hb74).trans ((row_upd hb78).trans ((row_upd hb76).trans (row_upd hb75)))))]
    have q74 : (m_set (m_set (m_upd (m_upd (m_upd μ 75 St) 76 ((fl (fun _ => 0) (μ 76) 200))) 78 ((fl (fun _ => 0) (μ 78) 200))) 74 7 (0)) 74 8 (0)) 74 = fs (fs (μ 74) 7 0) 8 0 := by
      rw [row_set_eq, row_set_eq]
      rfl
    rw [q74]
    rfl
  rw [hnm] at hcp
  refine rn_callP (k' := 3) (y := 17) (vs := [mR 74, mI (w)]) (S' := []) (v := none) (h' := mkh (m_upd (m_upd (m_upd (m_upd (m_upd (m_upd (m_upd μ 74 ((fs (fs (μ 74) 7 0) 8 0))) 75 St) 76 ((fl (fun _ => 0) (μ 76) 200))) 77 ((μ 77))) 78 ((fl (fun _ => 0) (μ 78) 200))) 79 ((μ 79))) 80 ((μ 80))) c s) rfl rfl rfl (hcp) ?_
  show Rn PT none kX1_stepsByLadders 3 [some (mR 74), some (mI (a)), some (mI (b)), some (mI ((t : Int))), some (mI (w)), none] [] (mkh (m_upd (m_upd (m_upd (m_upd (m_upd (m_upd (m_upd μ 74 ((fs (fs (μ 74) 7 0) 8 0))) 75 St) 76 ((fl (fun _ => 0) (μ 76) 200))) 77 ((μ 77))) 78 ((fl (fun _ => 0) (μ 78) 200))) 79 ((μ 79))) 80 ((μ 80))) c s) _
  refine rn_aload_n (k' := 4) rfl rfl rfl ?_
  refine rn_getR (k' := 5) rfl rfl K0_74 (by decide) rfl R0_74_1 ?_
  refine rn_iload_n (k' := 6) rfl rfl rfl ?_
  refine rn_iload_n (k' := 7) rfl rfl rfl ?_
  have hq : ¬ hb St a t = true := fun z => hst ((hSt a t ha (by omega)).mp z).2
  refine rn_callP (k' := 8) (y := 15) (vs := [mR 75, mI (a), mI ((t : Int))]) (S' := []) (v := some (mI (0))) (h' := mkh (m_upd (m_upd (m_upd (m_upd (m_upd (m_upd (m_upd μ 74 ((fs (fs (μ 74) 7 0) 8 0))) 75 St) 76 ((fl (fun _ => 0) (μ 76) 200))) 77 ((μ 77))) 78 ((fl (fun _ => 0) (μ 78) 200))) 79 ((μ 79))) 80 ((μ 80))) c s) rfl rfl rfl (c_has75_f (μ := (m_upd (m_upd (m_upd (m_upd (m_upd (m_upd (m_upd μ 74 ((fs (fs (μ 74) 7 0) 8 0))) 75 St) 76 ((fl (fun _ => 0) (μ 76) 200))) 77 ((μ 77))) 78 ((fl (fun _ => 0) (μ 78) 200))) 79 ((μ 79))) 80 ((μ 80)))) (c := c) (s := s) hab (by omega) hq) ?_
  show Rn PT none kX1_stepsByLadders 8 [some (mR 74), some (mI (a)), some (mI (b)), some (mI ((t : Int))), some (mI (w)), none] [mI (0)] (mkh (m_upd (m_upd (m_upd (m_upd (m_upd (m_upd (m_upd μ 74 ((fs (fs (μ 74) 7 0) 8 0))) 75 St) 76 ((fl (fun _ => 0) (μ 76) 200))) 77 ((μ 77))) 78 ((fl (fun _ => 0) (μ 78) 200))) 79 ((μ 79))) 80 ((μ 80))) c s) _
  refine rn_if_ne (k' := 9) rfl rfl (fun hc1 => ?_) (fun hc1 => ?_)
  · exfalso; omega
  · skip
    refine rn_iconst (k' := 10) rfl rfl ?_
    refine rn_iret rfl (Or.inl rfl) ?_
    refine ⟨(m_upd (m_upd (m_upd (m_upd (m_upd (m_upd (m_upd μ 74 ((fs (fs (μ 74) 7 0) 8 0))) 75 St) 76 ((fl (fun _ => 0) (μ 76) 200))) 77 ((μ 77))) 78 ((fl (fun _ => 0) (μ 78) 200))) 79 ((μ 79))) 80 ((μ 80))), ?_, ((rst_upd (fun _ => rfl)).trans ((rst_upd (fun _ => rfl)).trans ((rst_upd (fun _ => rfl)).trans ((rst_upd (fun _ => rfl)).trans ((rst_upd (fun _ => rfl)).trans ((rst_upd (fun _ => rfl)).trans (rst_upd (fun _ => rfl))))))))⟩
    rw [g_lad_no (fun j hj => ?_)]
    obtain ⟨h, hj⟩ := hj
    have key : ∀ (k : Nat) (x : Int) (h : Nat), ¬ (LV (g_nb μ) (g_cell μ) (Sd μ w) (fun x => (1 : Int) = 1 ∧ ¬ μ 8 (200 + x).toNat = -1) (I0 (Sd μ w) (fun x => (1 : Int) = 1 ∧ ¬ μ 8 (200 + x).toNat = -1) (fun h => h = t) a) k) x h := by
      intro k
      induction k with
      | zero =>
        intro x h z
        obtain ⟨⟨h2, -, z2, z3⟩, -⟩ := z
        rw [z3] at z2
        exact hst z2.2
      | succ k ih =>
        intro x h z
        rcases z with z | ⟨y, d, h2, -, -, -, -, z5, -⟩
        · exact ih x h z
        · exact ih y h2 z5
    exact key j b h hj
