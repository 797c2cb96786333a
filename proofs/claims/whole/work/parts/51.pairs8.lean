/-! ===== printed by wip/whole/gen51.py: pairs: widest, near ===== -/
theorem upd3_of {μ ν : Nat → Nat → Int} {x y z : Nat} (h : ∀ b, ¬ b = x → ¬ b = y → ¬ b = z → ν b = μ b) : ν = m_upd (m_upd (m_upd μ x (ν x)) y (ν y)) z (ν z) := by
  funext i j
  unfold m_upd
  by_cases i1 : i = z
  · simp [i1]
  · by_cases i2 : i = y
    · rw [if_neg i1, if_pos i2, i2]
    · by_cases i3 : i = x
      · rw [if_neg i1, if_neg i2, if_pos i3, i3]
      · rw [if_neg i1, if_neg i2, if_neg i3, h i i3 i2 i1]
theorem upd2_of {μ ν : Nat → Nat → Int} {x y : Nat} (h : ∀ b, ¬ b = x → ¬ b = y → ν b = μ b) : ν = m_upd (m_upd μ x (ν x)) y (ν y) := by
  funext i j
  unfold m_upd
  by_cases i2 : i = y
  · simp [i2]
  · by_cases i3 : i = x
    · rw [if_neg i2, if_pos i3, i3]
    · rw [if_neg i2, if_neg i3, h i i3 i2]
/-- the first of the greatest -/
def wd (f : Nat → Int) : Nat → Int × Int
  | 0 => (-1, -1)
  | n + 1 => if (wd f n).2 < f n then ((n : Int), f n) else wd f n
theorem wd_pos {f : Nat → Int} {n : Nat} (h : (wd f n).2 < f n) : wd f (n + 1) = ((n : Int), f n) := if_pos h
theorem wd_neg {f : Nat → Int} {n : Nat} (h : ¬ (wd f n).2 < f n) : wd f (n + 1) = wd f n := if_neg h
theorem sc_cell {μ : Nat → Nat → Int} (hS : I_scene μ) {n : Nat} (h : (n : Int) < μ 6 13) : g_cell μ (μ 15 n) := by
  obtain ⟨-, -, -, -, -, -, hC, -, -, -, sce, -⟩ := hS
  exact ⟨(hC n).1, sce n h⟩
set_option maxHeartbeats 4000000 in
theorem l_X11_widest {μ : Nat → Nat → Int} {c s : Nat} (hL : I_land μ) (hS : I_scene μ) : ∀ (d n : Nat) (k : Int) (be : Int) (mo : Int) (O : Nat → Int) (F : Nat → Int) (q : Nat → Int) (v4 : Option MV), k = (n : Int) → be = (wd (fun j : Nat => g_reach μ (μ 15 j) (g_st μ (μ 16 j)) (g_w μ 0 (μ 14 0))) n).1 → mo = (wd (fun j : Nat => g_reach μ (μ 15 j) (g_st μ (μ 16 j)) (g_w μ 0 (μ 14 0))) n).2 → (n : Int) + d = μ 6 13 → Rn PT none kX11_widest 6 [some (mR 0), some (mI (be)), some (mI (mo)), some (mI (k)), v4] [] (mkh (m_upd (m_upd (m_upd μ 67 O) 68 F) 69 q) c s) (fun r => ∃ μ1, r = (some (some (mI (wd (fun j : Nat => g_reach μ (μ 15 j) (g_st μ (μ 16 j)) (g_w μ 0 (μ 14 0))) (μ 6 13).toNat).1)), mkh μ1 c s) ∧ rst μ1 = rst μ) := by
  have hL_ := hL
  obtain ⟨lc, lr, le, lm, lw, lh, lwo, lwd, q0, q1, q2, q3, q4, q8, q499, q500, lth, lG, lT, lW, -⟩ := hL_
  have hS_ := hS
  obtain ⟨sd, sw, stk, s4, s5, s6, hC, hH, -, s10, sce, swc⟩ := hS_
  intro d
  induction d with
  | zero =>
    intro n k be mo O F q v4 ek ebe emo hn 
    subst ek ebe emo
    refine rn_iload_n (k' := 7) rfl rfl rfl ?_
    refine rn_aload_n (k' := 8) rfl rfl rfl ?_
    refine rn_getR (k' := 9) rfl rfl K0_0 (by decide) rfl R0_0_3 ?_
    refine rn_getI (k' := 10) rfl rfl K0_6 (by decide) rfl ?_
    show Rn PT none kX11_widest 10 [some (mR 0), some (mI ((wd (fun j : Nat => g_reach μ (μ 15 j) (g_st μ (μ 16 j)) (g_w μ 0 (μ 14 0))) n).1)), some (mI ((wd (fun j : Nat => g_reach μ (μ 15 j) (g_st μ (μ 16 j)) (g_w μ 0 (μ 14 0))) n).2)), some (mI ((n : Int))), v4] [mI (μ 6 13), mI ((n : Int))] (mkh (m_upd (m_upd (m_upd μ 67 O) 68 F) 69 q) c s) _
    refine rn_icmp_ge (k' := 11) rfl rfl (fun hc1 => ?_) (fun hc1 => ?_)
    · skip
      refine rn_iload_n (k' := 35) rfl rfl rfl ?_
      refine rn_iret rfl (Or.inl rfl) ?_
      refine ⟨(m_upd (m_upd (m_upd μ 67 O) 68 F) 69 q), ?_, ((rst_upd (a := 69) (fun _ => rfl)).trans ((rst_upd (a := 68) (fun _ => rfl)).trans (rst_upd (a := 67) (fun _ => rfl))))⟩
      rw [show (μ 6 13).toNat = n by omega]
    · exfalso; omega
  | succ d ih =>
    intro n k be mo O F q v4 ek ebe emo hn 
    subst ek ebe emo
    have hcl := sc_cell hS (n := n) (by omega)
    have hwb := g_w_b hL 0 (μ 14 0)
    have hcase : ((wd (fun j : Nat => g_reach μ (μ 15 j) (g_st μ (μ 16 j)) (g_w μ 0 (μ 14 0))) n).2 < g_reach μ (μ 15 n) (g_st μ (μ 16 n)) (g_w μ 0 (μ 14 0))) ∨ ¬ ((wd (fun j : Nat => g_reach μ (μ 15 j) (g_st μ (μ 16 j)) (g_w μ 0 (μ 14 0))) n).2 < g_reach μ (μ 15 n) (g_st μ (μ 16 n)) (g_w μ 0 (μ 14 0))) := Classical.em _
    refine rn_iload_n (k' := 7) rfl rfl rfl ?_
    refine rn_aload_n (k' := 8) rfl rfl rfl ?_
    refine rn_getR (k' := 9) rfl rfl K0_0 (by decide) rfl R0_0_3 ?_
    refine rn_getI (k' := 10) rfl rfl K0_6 (by decide) rfl ?_
    show Rn PT none kX11_widest 10 [some (mR 0), some (mI ((wd (fun j : Nat => g_reach μ (μ 15 j) (g_st μ (μ 16 j)) (g_w μ 0 (μ 14 0))) n).1)), some (mI ((wd (fun j : Nat => g_reach μ (μ 15 j) (g_st μ (μ 16 j)) (g_w μ 0 (μ 14 0))) n).2)), some (mI ((n : Int))), v4] [mI (μ 6 13), mI ((n : Int))] (mkh (m_upd (m_upd (m_upd μ 67 O) 68 F) 69 q) c s) _
    refine rn_icmp_ge (k' := 11) rfl rfl (fun hc1 => ?_) (fun hc1 => ?_)
    · exfalso; omega
    · skip
      refine rn_aload_n (k' := 12) rfl rfl rfl ?_
      refine rn_getR (k' := 13) rfl rfl K0_0 (by decide) rfl R0_0_8 ?_
      refine rn_aload_n (k' := 14) rfl rfl rfl ?_
      refine rn_getR (k' := 15) rfl rfl K0_0 (by decide) rfl R0_0_4 ?_
      refine rn_getR (k' := 16) rfl rfl K0_14 (by decide) rfl R0_14_1 ?_
      refine rn_iload_n (k' := 17) rfl rfl rfl ?_
      refine rn_iaload (k' := 18) rfl rfl K0_15 (by omega) (by omega) ?_
      show Rn PT none kX11_widest 18 [some (mR 0), some (mI ((wd (fun j : Nat => g_reach μ (μ 15 j) (g_st μ (μ 16 j)) (g_w μ 0 (μ 14 0))) n).1)), some (mI ((wd (fun j : Nat => g_reach μ (μ 15 j) (g_st μ (μ 16 j)) (g_w μ 0 (μ 14 0))) n).2)), some (mI ((n : Int))), v4] [mI (μ 15 (n)), mR 66] (mkh (m_upd (m_upd (m_upd μ 67 O) 68 F) 69 q) c s) _
      have hb2 := hC n
      refine rn_aload_n (k' := 19) rfl rfl rfl ?_
      refine rn_iload_n (k' := 20) rfl rfl rfl ?_
      have hb3 := g_st_b hL (a := μ 16 n) (hH _).1
      refine rn_callP (k' := 21) (y := 157) (vs := [mR 0, mI ((n : Int))]) (S' := [mI (μ 15 (n)), mR 66]) (v := some (mI (g_st μ (μ 16 n)))) (h' := mkh (m_upd (m_upd (m_upd μ 67 O) 68 F) 69 q) c s) rfl rfl rfl (c_X11_stiltsOf (μ := (m_upd (m_upd (m_upd μ 67 O) 68 F) 69 q)) ((((hL).upd rfl).upd rfl).upd rfl) hH (by omega)) ?_
      show Rn PT none kX11_widest 21 [some (mR 0), some (mI ((wd (fun j : Nat => g_reach μ (μ 15 j) (g_st μ (μ 16 j)) (g_w μ 0 (μ 14 0))) n).1)), some (mI ((wd (fun j : Nat => g_reach μ (μ 15 j) (g_st μ (μ 16 j)) (g_w μ 0 (μ 14 0))) n).2)), some (mI ((n : Int))), v4] [mI (g_st μ (μ 16 n)), mI (μ 15 (n)), mR 66] (mkh (m_upd (m_upd (m_upd μ 67 O) 68 F) 69 q) c s) _
      refine rn_aload_n (k' := 22) rfl rfl rfl ?_
      have hb4 := g_w_b hL 0 (μ 14 0)
      refine rn_callP (k' := 23) (y := 156) (vs := [mR 0]) (S' := [mI (g_st μ (μ 16 n)), mI (μ 15 (n)), mR 66]) (v := some (mI (g_w μ 0 (μ 14 0)))) (h' := mkh (m_upd (m_upd (m_upd μ 67 O) 68 F) 69 q) c s) rfl rfl rfl (c_X11_waterToday (μ := (m_upd (m_upd (m_upd μ 67 O) 68 F) 69 q)) ((((hL).upd rfl).upd rfl).upd rfl) (by show 0 ≤ μ 14 0 ∧ μ 14 0 ≤ 29; omega)) ?_
      show Rn PT none kX11_widest 23 [some (mR 0), some (mI ((wd (fun j : Nat => g_reach μ (μ 15 j) (g_st μ (μ 16 j)) (g_w μ 0 (μ 14 0))) n).1)), some (mI ((wd (fun j : Nat => g_reach μ (μ 15 j) (g_st μ (μ 16 j)) (g_w μ 0 (μ 14 0))) n).2)), some (mI ((n : Int))), v4] [mI (g_w μ 0 (μ 14 0)), mI (g_st μ (μ 16 n)), mI (μ 15 (n)), mR 66] (mkh (m_upd (m_upd (m_upd μ 67 O) 68 F) 69 q) c s) _
      obtain ⟨O5, F5, q5, hF5, hcl5⟩ := c_reachFrom (μ := (m_upd (m_upd (m_upd μ 67 O) 68 F) 69 q)) (c := c) (s := s) ((((hL).upd rfl).upd rfl).upd rfl) (a := μ 15 (n)) (t := g_st μ (μ 16 n)) (w := g_w μ 0 (μ 14 0)) (by assumption) (by omega)
      rw [g_reach_rows (ν := (m_upd (m_upd (m_upd μ 67 O) 68 F) 69 q)) (μ := μ) rfl rfl rfl] at hcl5
      have hrb6 := g_reach_b hL (a := μ 15 (n)) (t := g_st μ (μ 16 n)) (w := g_w μ 0 (μ 14 0)) (by assumption)
      refine rn_callP (k' := 24) (y := 90) (vs := [mR 66, mI (μ 15 (n)), mI (g_st μ (μ 16 n)), mI (g_w μ 0 (μ 14 0))]) (S' := []) (v := some (mI (g_reach μ (μ 15 (n)) (g_st μ (μ 16 n)) (g_w μ 0 (μ 14 0))))) (h' := mkh (m_upd (m_upd (m_upd (m_upd (m_upd (m_upd μ 67 O) 68 F) 69 q) 67 O5) 68 F5) 69 q5) c s) rfl rfl rfl (hcl5) ?_
      show Rn PT none kX11_widest 24 [some (mR 0), some (mI ((wd (fun j : Nat => g_reach μ (μ 15 j) (g_st μ (μ 16 j)) (g_w μ 0 (μ 14 0))) n).1)), some (mI ((wd (fun j : Nat => g_reach μ (μ 15 j) (g_st μ (μ 16 j)) (g_w μ 0 (μ 14 0))) n).2)), some (mI ((n : Int))), v4] [mI (g_reach μ (μ 15 (n)) (g_st μ (μ 16 n)) (g_w μ 0 (μ 14 0)))] (mkh (m_upd (m_upd (m_upd (m_upd (m_upd (m_upd μ 67 O) 68 F) 69 q) 67 O5) 68 F5) 69 q5) c s) _
      refine rn_istore (k' := 25) (L' := [some (mR 0), some (mI ((wd (fun j : Nat => g_reach μ (μ 15 j) (g_st μ (μ 16 j)) (g_w μ 0 (μ 14 0))) n).1)), some (mI ((wd (fun j : Nat => g_reach μ (μ 15 j) (g_st μ (μ 16 j)) (g_w μ 0 (μ 14 0))) n).2)), some (mI ((n : Int))), some (mI (g_reach μ (μ 15 (n)) (g_st μ (μ 16 n)) (g_w μ 0 (μ 14 0))))]) rfl rfl (Nat.le_of_ble_eq_true rfl) rfl ?_
      refine rn_iload (k' := 26) rfl rfl rfl ?_
      refine rn_iload_n (k' := 27) rfl rfl rfl ?_
      refine rn_icmp_le (k' := 28) rfl rfl (fun hc7 => ?_) (fun hc7 => ?_)
      · skip
        refine rn_iinc (k' := 33) (L' := [some (mR 0), some (mI ((wd (fun j : Nat => g_reach μ (μ 15 j) (g_st μ (μ 16 j)) (g_w μ 0 (μ 14 0))) n).1)), some (mI ((wd (fun j : Nat => g_reach μ (μ 15 j) (g_st μ (μ 16 j)) (g_w μ 0 (μ 14 0))) n).2)), some (mI ((n : Int) + 1)), some (mI (g_reach μ (μ 15 (n)) (g_st μ (μ 16 n)) (g_w μ 0 (μ 14 0))))]) rfl rfl rfl (by omega) rfl ?_
        refine rn_goto rfl ?_
        show Rn PT none kX11_widest 6 [some (mR 0), some (mI ((wd (fun j : Nat => g_reach μ (μ 15 j) (g_st μ (μ 16 j)) (g_w μ 0 (μ 14 0))) n).1)), some (mI ((wd (fun j : Nat => g_reach μ (μ 15 j) (g_st μ (μ 16 j)) (g_w μ 0 (μ 14 0))) n).2)), some (mI ((n : Int) + 1)), some (mI (g_reach μ (μ 15 (n)) (g_st μ (μ 16 n)) (g_w μ 0 (μ 14 0))))] [] (mkh (m_upd (m_upd (m_upd (m_upd (m_upd (m_upd μ 67 O) 68 F) 69 q) 67 O5) 68 F5) 69 q5) c s) _
        rw [upd3_of (μ := μ) (ν := (m_upd (m_upd (m_upd (m_upd (m_upd (m_upd μ 67 O) 68 F) 69 q) 67 O5) 68 F5) 69 q5)) (x := 67) (y := 68) (z := 69) (fun b hb67 hb68 hb69 => ((row_upd hb69).trans ((row_upd hb68).trans ((row_upd hb67).trans ((row_upd hb69).trans ((row_upd hb68).trans (row_upd hb67)))))))]
        exact ih (n + 1) _ _ _ _ _ _ _ (by omega) (by first | (rw [wd_pos (by omega)]) | (rw [wd_neg (by omega)])) (by first | (rw [wd_pos (by omega)]) | (rw [wd_neg (by omega)])) (by omega) 
      · skip
        refine rn_iload (k' := 29) rfl rfl rfl ?_
        refine rn_istore_n (k' := 30) (L' := [some (mR 0), some (mI ((wd (fun j : Nat => g_reach μ (μ 15 j) (g_st μ (μ 16 j)) (g_w μ 0 (μ 14 0))) n).1)), some (mI (g_reach μ (μ 15 (n)) (g_st μ (μ 16 n)) (g_w μ 0 (μ 14 0)))), some (mI ((n : Int))), some (mI (g_reach μ (μ 15 (n)) (g_st μ (μ 16 n)) (g_w μ 0 (μ 14 0))))]) rfl rfl (Nat.le_of_ble_eq_true rfl) rfl ?_
        refine rn_iload_n (k' := 31) rfl rfl rfl ?_
        refine rn_istore_n (k' := 32) (L' := [some (mR 0), some (mI ((n : Int))), some (mI (g_reach μ (μ 15 (n)) (g_st μ (μ 16 n)) (g_w μ 0 (μ 14 0)))), some (mI ((n : Int))), some (mI (g_reach μ (μ 15 (n)) (g_st μ (μ 16 n)) (g_w μ 0 (μ 14 0))))]) rfl rfl (Nat.le_of_ble_eq_true rfl) rfl ?_
        refine rn_iinc (k' := 33) (L' := [some (mR 0), some (mI ((n : Int))), some (mI (g_reach μ (μ 15 (n)) (g_st μ (μ 16 n)) (g_w μ 0 (μ 14 0)))), some (mI ((n : Int) + 1)), some (mI (g_reach μ (μ 15 (n)) (g_st μ (μ 16 n)) (g_w μ 0 (μ 14 0))))]) rfl rfl rfl (by omega) rfl ?_
        refine rn_goto rfl ?_
        show Rn PT none kX11_widest 6 [some (mR 0), some (mI ((n : Int))), some (mI (g_reach μ (μ 15 (n)) (g_st μ (μ 16 n)) (g_w μ 0 (μ 14 0)))), some (mI ((n : Int) + 1)), some (mI (g_reach μ (μ 15 (n)) (g_st μ (μ 16 n)) (g_w μ 0 (μ 14 0))))] [] (mkh (m_upd (m_upd (m_upd (m_upd (m_upd (m_upd μ 67 O) 68 F) 69 q) 67 O5) 68 F5) 69 q5) c s) _
        rw [upd3_of (μ := μ) (ν := (m_upd (m_upd (m_upd (m_upd (m_upd (m_upd μ 67 O) 68 F) 69 q) 67 O5) 68 F5) 69 q5)) (x := 67) (y := 68) (z := 69) (fun b hb67 hb68 hb69 => ((row_upd hb69).trans ((row_upd hb68).trans ((row_upd hb67).trans ((row_upd hb69).trans ((row_upd hb68).trans (row_upd hb67)))))))]
        exact ih (n + 1) _ _ _ _ _ _ _ (by omega) (by first | (rw [wd_pos (by omega)]) | (rw [wd_neg (by omega)])) (by first | (rw [wd_pos (by omega)]) | (rw [wd_neg (by omega)])) (by omega) 
theorem t_X11_widest {μ : Nat → Nat → Int} {c s : Nat} (hL : I_land μ) (hS : I_scene μ) : Cl PT 123 [mR 0] (mkh μ c s) (fun r => ∃ μ1, r = (some (some (mI (wd (fun j : Nat => g_reach μ (μ 15 j) (g_st μ (μ 16 j)) (g_w μ 0 (μ 14 0))) (μ 6 13).toNat).1)), mkh μ1 c s) ∧ rst μ1 = rst μ) := by
  have hL_ := hL
  obtain ⟨lc, lr, le, lm, lw, lh, lwo, lwd, q0, q1, q2, q3, q4, q8, q499, q500, lth, lG, lT, lW, -⟩ := hL_
  have hS_ := hS
  obtain ⟨sd, sw, stk, s4, s5, s6, hC, hH, -, s10, sce, swc⟩ := hS_
  refine ⟨_, PT_123, Nat.le_of_ble_eq_true rfl, ?_⟩
  show Rn PT none kX11_widest 0 [some (mR 0), none, none, none, none] [] (mkh μ c s) _
  refine rn_iconst (k' := 1) rfl rfl ?_
  refine rn_istore_n (k' := 2) (L' := [some (mR 0), some (mI (-1)), none, none, none]) rfl rfl (Nat.le_of_ble_eq_true rfl) rfl ?_
  refine rn_iconst (k' := 3) rfl rfl ?_
  refine rn_istore_n (k' := 4) (L' := [some (mR 0), some (mI (-1)), some (mI (-1)), none, none]) rfl rfl (Nat.le_of_ble_eq_true rfl) rfl ?_
  refine rn_iconst (k' := 5) rfl rfl ?_
  refine rn_istore_n (k' := 6) (L' := [some (mR 0), some (mI (-1)), some (mI (-1)), some (mI (0)), none]) rfl rfl (Nat.le_of_ble_eq_true rfl) rfl ?_
  have h := l_X11_widest (c := c) (s := s) hL hS (μ 6 13).toNat 0 _ _ _ (μ 67) (μ 68) (μ 69) none rfl rfl rfl (by omega)
  rw [upd_self] at h
  rw [upd_self (μ := μ) (a := 68), upd_self (μ := μ) (a := 69)] at h
  exact h
