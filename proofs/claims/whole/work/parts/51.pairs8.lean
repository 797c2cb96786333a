variable {N : Int}
/-! ===== printed by wip/whole/gen51.py: pairs: widest, near ===== -/
theorem sup_eq {μ ν : Nat → Nat → Int} (h : rst ν = rst μ) {a j : Nat} (hs : sup a j = true) : ν a j = μ a j := by
  have h1 : rst ν a j = rst μ a j := by rw [h]
  unfold rst at h1
  rw [hs] at h1
  exact h1
theorem rst_upd1 {μ : Nat → Nat → Int} {a : Nat} {f : Nat → Int} (h : ∀ j, sup a j = true → f j = μ a j) : rst (m_upd μ a f) = rst μ := rst_same (fun a' j hj => by
  unfold m_upd
  by_cases e : a' = a
  · subst e; rw [if_pos rfl]; exact h j hj
  · rw [if_neg e])
theorem upd3_of {μ ν : Nat → Nat → Int} {x y z : Nat} (h : ∀ b, ¬ b = x → ¬ b = y → ¬ b = z → ν b = μ b) : ν = m_upd (m_upd (m_upd μ x (ν x)) y (ν y)) z (ν z) := by
  funext i j
  unfold m_upd
  by_cases i1 : i = z
  · simp [i1]
  · by_cases i2 : i = y
    · rw [if_neg i1, if_pos i2, i2]
    · by_cases i3 : i = x
      · rw [if_neg i1, if_neg i2, if_pos i3, i3]
      · rw [if_neg i1, if_neg i2, if_neg i3, h i i3 i2 i1]
theorem upd2_of {μ ν : Nat → Nat → Int} {x y : Nat} (h : ∀ b, ¬ b = x → ¬ b = y → ν b = μ b) : ν = m_upd (m_upd μ x (ν x)) y (ν y) := by
  funext i j
  unfold m_upd
  by_cases i2 : i = y
  · simp [i2]
  · by_cases i3 : i = x
    · rw [if_neg i2, if_pos i3, i3]
    · rw [if_neg i2, if_neg i3, h i i3 i2]
/-- the first of the greatest -/
def wd (f : Nat → Int) : Nat → Int × Int
  | 0 => (-1, -1)
  | n + 1 => if (wd f n).2 < f n then ((n : Int), f n) else wd f n
theorem wd_pos {f : Nat → Int} {n : Nat} (h : (wd f n).2 < f n) : wd f (n + 1) = ((n : Int), f n) := if_pos h
theorem wd_neg {f : Nat → Int} {n : Nat} (h : ¬ (wd f n).2 < f n) : wd f (n + 1) = wd f n := if_neg h
theorem sc_cell {μ : Nat → Nat → Int} (hS : I_scene μ) {n : Nat} (h : (n : Int) < μ 6 13) : g_cell μ (μ 15 n) := by
  obtain ⟨-, -, -, -, -, -, hC, -, -, -, sce, -⟩ := hS
  exact ⟨(hC n).1, sce n h⟩
set_option maxHeartbeats 4000000 in
theorem l_X11_widest {μ : Nat → Nat → Int} {c s : Nat} (hL : I_land μ) (hS : I_scene μ) : ∀ (d n : Nat) (k : Int) (be : Int) (mo : Int) (O : Nat → Int) (F : Nat → Int) (q : Nat → Int) (v4 : Option MV), k = (n : Int) → be = (wd (fun j : Nat => g_reach μ (μ 15 j) (g_st μ (μ 16 j)) (g_w μ 0 (μ 14 0))) n).1 → mo = (wd (fun j : Nat => g_reach μ (μ 15 j) (g_st μ (μ 16 j)) (g_w μ 0 (μ 14 0))) n).2 → (n : Int) + d = μ 6 13 → Rn PT none kX11_widest 6 [some (mR 0), some (mI (be)), some (mI (mo)), some (mI (k)), v4] [] (mkh (m_upd (m_upd (m_upd μ 67 O) 68 F) 69 q) c s) (fun r => ∃ μ1, r = (some (some (mI (wd (fun j : Nat => g_reach μ (μ 15 j) (g_st μ (μ 16 j)) (g_w μ 0 (μ 14 0))) (μ 6 13).toNat).1)), mkh μ1 c s) ∧ rst μ1 = rst μ) := by
  have hL_ := hL
  obtain ⟨lc, lr, le, lm, lw, lh, lwo, lwd, q0, q1, q2, q3, q4, q8, q499, q500, lth, lG, lT, lW, -⟩ := hL_
  have hS_ := hS
  obtain ⟨sd, sw, stk, s4, s5, s6, hC, hH, -, s10, sce, swc, s13⟩ := hS_
  intro d
  induction d with
  | zero =>
    intro n k be mo O F q v4 ek ebe emo hn 
    subst ek ebe emo
    refine rn_iload_n (k' := 7) rfl rfl rfl ?_
    refine rn_aload_n (k' := 8) rfl rfl rfl ?_
    refine rn_getR (k' := 9) rfl rfl K0_0 (by decide) rfl R0_0_3 ?_
    refine rn_getI (k' := 10) rfl rfl K0_6 (by decide) rfl ?_
    show Rn PT none kX11_widest 10 [some (mR 0), some (mI ((wd (fun j : Nat => g_reach μ (μ 15 j) (g_st μ (μ 16 j)) (g_w μ 0 (μ 14 0))) n).1)), some (mI ((wd (fun j : Nat => g_reach μ (μ 15 j) (g_st μ (μ 16 j)) (g_w μ 0 (μ 14 0))) n).2)), some (mI ((n : Int))), v4] [mI (μ 6 13), mI ((n : Int))] (mkh (m_upd (m_upd (m_upd μ 67 O) 68 F) 69 q) c s) _
    refine rn_icmp_ge (k' := 11) rfl rfl (fun hc1 => ?_) (fun hc1 => ?_)
    · skip
      refine rn_iload_n (k' := 35) rfl rfl rfl ?_
      refine rn_iret rfl (Or.inl rfl) ?_
      refine ⟨(m_upd (m_upd (m_upd μ 67 O) 68 F) 69 q), ?_, ((rst_upd (a := 69) (fun _ => rfl)).trans ((rst_upd (a := 68) (fun _ => rfl)).trans (rst_upd (a := 67) (fun _ => rfl))))⟩
      rw [show (μ 6 13).toNat = n by omega]
    · exfalso; omega
  | succ d ih =>
    intro n k be mo O F q v4 ek ebe emo hn 
    subst ek ebe emo
    have hcl := sc_cell hS (n := n) (by omega)
    have hwb := g_w_b hL 0 (μ 14 0)
    have hcase : ((wd (fun j : Nat => g_reach μ (μ 15 j) (g_st μ (μ 16 j)) (g_w μ 0 (μ 14 0))) n).2 < g_reach μ (μ 15 n) (g_st μ (μ 16 n)) (g_w μ 0 (μ 14 0))) ∨ ¬ ((wd (fun j : Nat => g_reach μ (μ 15 j) (g_st μ (μ 16 j)) (g_w μ 0 (μ 14 0))) n).2 < g_reach μ (μ 15 n) (g_st μ (μ 16 n)) (g_w μ 0 (μ 14 0))) := Classical.em _
    refine rn_iload_n (k' := 7) rfl rfl rfl ?_
    refine rn_aload_n (k' := 8) rfl rfl rfl ?_
    refine rn_getR (k' := 9) rfl rfl K0_0 (by decide) rfl R0_0_3 ?_
    refine rn_getI (k' := 10) rfl rfl K0_6 (by decide) rfl ?_
    show Rn PT none kX11_widest 10 [some (mR 0), some (mI ((wd (fun j : Nat => g_reach μ (μ 15 j) (g_st μ (μ 16 j)) (g_w μ 0 (μ 14 0))) n).1)), some (mI ((wd (fun j : Nat => g_reach μ (μ 15 j) (g_st μ (μ 16 j)) (g_w μ 0 (μ 14 0))) n).2)), some (mI ((n : Int))), v4] [mI (μ 6 13), mI ((n : Int))] (mkh (m_upd (m_upd (m_upd μ 67 O) 68 F) 69 q) c s) _
    refine rn_icmp_ge (k' := 11) rfl rfl (fun hc1 => ?_) (fun hc1 => ?_)
    · exfalso; omega
    · skip
      refine rn_aload_n (k' := 12) rfl rfl rfl ?_
      refine rn_getR (k' := 13) rfl rfl K0_0 (by decide) rfl R0_0_8 ?_
      refine rn_aload_n (k' := 14) rfl rfl rfl ?_
      refine rn_getR (k' := 15) rfl rfl K0_0 (by decide) rfl R0_0_4 ?_
      refine rn_getR (k' := 16) rfl rfl K0_14 (by decide) rfl R0_14_1 ?_
      refine rn_iload_n (k' := 17) rfl rfl rfl ?_
      refine rn_iaload (k' := 18) rfl rfl K0_15 (by omega) (by omega) ?_
      show Rn PT none kX11_widest 18 [some (mR 0), some (mI ((wd (fun j : Nat => g_reach μ (μ 15 j) (g_st μ (μ 16 j)) (g_w μ 0 (μ 14 0))) n).1)), some (mI ((wd (fun j : Nat => g_reach μ (μ 15 j) (g_st μ (μ 16 j)) (g_w μ 0 (μ 14 0))) n).2)), some (mI ((n : Int))), v4] [mI (μ 15 (n)), mR 66] (mkh (m_upd (m_upd (m_upd μ 67 O) 68 F) 69 q) c s) _
      have hb2 := hC n
      refine rn_aload_n (k' := 19) rfl rfl rfl ?_
      refine rn_iload_n (k' := 20) rfl rfl rfl ?_
      have hb3 := g_st_b hL (a := μ 16 n) (hH _).1
      refine rn_callP (k' := 21) (y := 157) (vs := [mR 0, mI ((n : Int))]) (S' := [mI (μ 15 (n)), mR 66]) (v := some (mI (g_st μ (μ 16 n)))) (h' := mkh (m_upd (m_upd (m_upd μ 67 O) 68 F) 69 q) c s) rfl rfl rfl (c_X11_stiltsOf (μ := (m_upd (m_upd (m_upd μ 67 O) 68 F) 69 q)) ((((hL).upd rfl).upd rfl).upd rfl) hH (by omega)) ?_
      show Rn PT none kX11_widest 21 [some (mR 0), some (mI ((wd (fun j : Nat => g_reach μ (μ 15 j) (g_st μ (μ 16 j)) (g_w μ 0 (μ 14 0))) n).1)), some (mI ((wd (fun j : Nat => g_reach μ (μ 15 j) (g_st μ (μ 16 j)) (g_w μ 0 (μ 14 0))) n).2)), some (mI ((n : Int))), v4] [mI (g_st μ (μ 16 n)), mI (μ 15 (n)), mR 66] (mkh (m_upd (m_upd (m_upd μ 67 O) 68 F) 69 q) c s) _
      refine rn_aload_n (k' := 22) rfl rfl rfl ?_
      have hb4 := g_w_b hL 0 (μ 14 0)
      refine rn_callP (k' := 23) (y := 156) (vs := [mR 0]) (S' := [mI (g_st μ (μ 16 n)), mI (μ 15 (n)), mR 66]) (v := some (mI (g_w μ 0 (μ 14 0)))) (h' := mkh (m_upd (m_upd (m_upd μ 67 O) 68 F) 69 q) c s) rfl rfl rfl (c_X11_waterToday (μ := (m_upd (m_upd (m_upd μ 67 O) 68 F) 69 q)) ((((hL).upd rfl).upd rfl).upd rfl) (by show 0 ≤ μ 14 0 ∧ μ 14 0 ≤ 29; omega)) ?_
      show Rn PT none kX11_widest 23 [some (mR 0), some (mI ((wd (fun j : Nat => g_reach μ (μ 15 j) (g_st μ (μ 16 j)) (g_w μ 0 (μ 14 0))) n).1)), some (mI ((wd (fun j : Nat => g_reach μ (μ 15 j) (g_st μ (μ 16 j)) (g_w μ 0 (μ 14 0))) n).2)), some (mI ((n : Int))), v4] [mI (g_w μ 0 (μ 14 0)), mI (g_st μ (μ 16 n)), mI (μ 15 (n)), mR 66] (mkh (m_upd (m_upd (m_upd μ 67 O) 68 F) 69 q) c s) _
      obtain ⟨O5, F5, q5, hF5, hcl5⟩ := c_reachFrom (μ := (m_upd (m_upd (m_upd μ 67 O) 68 F) 69 q)) (c := c) (s := s) ((((hL).upd rfl).upd rfl).upd rfl) (a := μ 15 (n)) (t := g_st μ (μ 16 n)) (w := g_w μ 0 (μ 14 0)) (by assumption) (by omega)
      rw [g_reach_rows (ν := (m_upd (m_upd (m_upd μ 67 O) 68 F) 69 q)) (μ := μ) rfl rfl rfl] at hcl5
      have hrb6 := g_reach_b hL (a := μ 15 (n)) (t := g_st μ (μ 16 n)) (w := g_w μ 0 (μ 14 0)) (by assumption)
      refine rn_callP (k' := 24) (y := 90) (vs := [mR 66, mI (μ 15 (n)), mI (g_st μ (μ 16 n)), mI (g_w μ 0 (μ 14 0))]) (S' := []) (v := some (mI (g_reach μ (μ 15 (n)) (g_st μ (μ 16 n)) (g_w μ 0 (μ 14 0))))) (h' := mkh (m_upd (m_upd (m_upd (m_upd (m_upd (m_upd μ 67 O) 68 F) 69 q) 67 O5) 68 F5) 69 q5) c s) rfl rfl rfl (hcl5) ?_
      show Rn PT none kX11_widest 24 [some (mR 0), some (mI ((wd (fun j : Nat => g_reach μ (μ 15 j) (g_st μ (μ 16 j)) (g_w μ 0 (μ 14 0))) n).1)), some (mI ((wd (fun j : Nat => g_reach μ (μ 15 j) (g_st μ (μ 16 j)) (g_w μ 0 (μ 14 0))) n).2)), some (mI ((n : Int))), v4] [mI (g_reach μ (μ 15 (n)) (g_st μ (μ 16 n)) (g_w μ 0 (μ 14 0)))] (mkh (m_upd (m_upd (m_upd (m_upd (m_upd (m_upd μ 67 O) 68 F) 69 q) 67 O5) 68 F5) 69 q5) c s) _
      refine rn_istore (k' := 25) (L' := [some (mR 0), some (mI ((wd (fun j : Nat => g_reach μ (μ 15 j) (g_st μ (μ 16 j)) (g_w μ 0 (μ 14 0))) n).1)), some (mI ((wd (fun j : Nat => g_reach μ (μ 15 j) (g_st μ (μ 16 j)) (g_w μ 0 (μ 14 0))) n).2)), some (mI ((n : Int))), some (mI (g_reach μ (μ 15 (n)) (g_st μ (μ 16 n)) (g_w μ 0 (μ 14 0))))]) rfl rfl (Nat.le_of_ble_eq_true rfl) rfl ?_
      refine rn_iload (k' := 26) rfl rfl rfl ?_
      refine rn_iload_n (k' := 27) rfl rfl rfl ?_
      refine rn_icmp_le (k' := 28) rfl rfl (fun hc7 => ?_) (fun hc7 => ?_)
      · skip
        refine rn_iinc (k' := 33) (L' := [some (mR 0), some (mI ((wd (fun j : Nat => g_reach μ (μ 15 j) (g_st μ (μ 16 j)) (g_w μ 0 (μ 14 0))) n).1)), some (mI ((wd (fun j : Nat => g_reach μ (μ 15 j) (g_st μ (μ 16 j)) (g_w μ 0 (μ 14 0))) n).2)), some (mI ((n : Int) + 1)), some (mI (g_reach μ (μ 15 (n)) (g_st μ (μ 16 n)) (g_w μ 0 (μ 14 0))))]) rfl rfl rfl (by omega) rfl ?_
        refine rn_goto rfl ?_
        show Rn PT none kX11_widest 6 [some (mR 0), some (mI ((wd (fun j : Nat => g_reach μ (μ 15 j) (g_st μ (μ 16 j)) (g_w μ 0 (μ 14 0))) n).1)), some (mI ((wd (fun j : Nat => g_reach μ (μ 15 j) (g_st μ (μ 16 j)) (g_w μ 0 (μ 14 0))) n).2)), some (mI ((n : Int) + 1)), some (mI (g_reach μ (μ 15 (n)) (g_st μ (μ 16 n)) (g_w μ 0 (μ 14 0))))] [] (mkh (m_upd (m_upd (m_upd (m_upd (m_upd (m_upd μ 67 O) 68 F) 69 q) 67 O5) 68 F5) 69 q5) c s) _
        rw [upd3_of (μ := μ) (ν := (m_upd (m_upd (m_upd (m_upd (m_upd (m_upd μ 67 O) 68 F) 69 q) 67 O5) 68 F5) 69 q5)) (x := 67) (y := 68) (z := 69) (fun b hb67 hb68 hb69 => ((row_upd hb69).trans ((row_upd hb68).trans ((row_upd hb67).trans ((row_upd hb69).trans ((row_upd hb68).trans (row_upd hb67)))))))]
        exact ih (n + 1) _ _ _ _ _ _ _ (by omega) (by first | (rw [wd_pos (by omega)]) | (rw [wd_neg (by omega)])) (by first | (rw [wd_pos (by omega)]) | (rw [wd_neg (by omega)])) (by omega) 
      · skip
        refine rn_iload (k' := 29) rfl rfl rfl ?_
        refine rn_istore_n (k' := 30) (L' := [some (mR 0), some (mI ((wd (fun j : Nat => g_reach μ (μ 15 j) (g_st μ (μ 16 j)) (g_w μ 0 (μ 14 0))) n).1)), some (mI (g_reach μ (μ 15 (n)) (g_st μ (μ 16 n)) (g_w μ 0 (μ 14 0)))), some (mI ((n : Int))), some (mI (g_reach μ (μ 15 (n)) (g_st μ (μ 16 n)) (g_w μ 0 (μ 14 0))))]) rfl rfl (Nat.le_of_ble_eq_true rfl) rfl ?_
        refine rn_iload_n (k' := 31) rfl rfl rfl ?_
        refine rn_istore_n (k' := 32) (L' := [some (mR 0), some (mI ((n : Int))), some (mI (g_reach μ (μ 15 (n)) (g_st μ (μ 16 n)) (g_w μ 0 (μ 14 0)))), some (mI ((n : Int))), some (mI (g_reach μ (μ 15 (n)) (g_st μ (μ 16 n)) (g_w μ 0 (μ 14 0))))]) rfl rfl (Nat.le_of_ble_eq_true rfl) rfl ?_
        refine rn_iinc (k' := 33) (L' := [some (mR 0), some (mI ((n : Int))), some (mI (g_reach μ (μ 15 (n)) (g_st μ (μ 16 n)) (g_w μ 0 (μ 14 0)))), some (mI ((n : Int) + 1)), some (mI (g_reach μ (μ 15 (n)) (g_st μ (μ 16 n)) (g_w μ 0 (μ 14 0))))]) rfl rfl rfl (by omega) rfl ?_
        refine rn_goto rfl ?_
        show Rn PT none kX11_widest 6 [some (mR 0), some (mI ((n : Int))), some (mI (g_reach μ (μ 15 (n)) (g_st μ (μ 16 n)) (g_w μ 0 (μ 14 0)))), some (mI ((n : Int) + 1)), some (mI (g_reach μ (μ 15 (n)) (g_st μ (μ 16 n)) (g_w μ 0 (μ 14 0))))] [] (mkh (m_upd (m_upd (m_upd (m_upd (m_upd (m_upd μ 67 O) 68 F) 69 q) 67 O5) 68 F5) 69 q5) c s) _
        rw [upd3_of (μ := μ) (ν := (m_upd (m_upd (m_upd (m_upd (m_upd (m_upd μ 67 O) 68 F) 69 q) 67 O5) 68 F5) 69 q5)) (x := 67) (y := 68) (z := 69) (fun b hb67 hb68 hb69 => ((row_upd hb69).trans ((row_upd hb68).trans ((row_upd hb67).trans ((row_upd hb69).trans ((row_upd hb68).trans (row_upd hb67)))))))]
        exact ih (n + 1) _ _ _ _ _ _ _ (by omega) (by first | (rw [wd_pos (by omega)]) | (rw [wd_neg (by omega)])) (by first | (rw [wd_pos (by omega)]) | (rw [wd_neg (by omega)])) (by omega) 
theorem t_X11_widest {μ : Nat → Nat → Int} {c s : Nat} (hL : I_land μ) (hS : I_scene μ) : Cl PT 123 [mR 0] (mkh μ c s) (fun r => ∃ μ1, r = (some (some (mI (wd (fun j : Nat => g_reach μ (μ 15 j) (g_st μ (μ 16 j)) (g_w μ 0 (μ 14 0))) (μ 6 13).toNat).1)), mkh μ1 c s) ∧ rst μ1 = rst μ) := by
  have hL_ := hL
  obtain ⟨lc, lr, le, lm, lw, lh, lwo, lwd, q0, q1, q2, q3, q4, q8, q499, q500, lth, lG, lT, lW, -⟩ := hL_
  have hS_ := hS
  obtain ⟨sd, sw, stk, s4, s5, s6, hC, hH, -, s10, sce, swc, s13⟩ := hS_
  refine ⟨_, PT_123, Nat.le_of_ble_eq_true rfl, ?_⟩
  show Rn PT none kX11_widest 0 [some (mR 0), none, none, none, none] [] (mkh μ c s) _
  refine rn_iconst (k' := 1) rfl rfl ?_
  refine rn_istore_n (k' := 2) (L' := [some (mR 0), some (mI (-1)), none, none, none]) rfl rfl (Nat.le_of_ble_eq_true rfl) rfl ?_
  refine rn_iconst (k' := 3) rfl rfl ?_
  refine rn_istore_n (k' := 4) (L' := [some (mR 0), some (mI (-1)), some (mI (-1)), none, none]) rfl rfl (Nat.le_of_ble_eq_true rfl) rfl ?_
  refine rn_iconst (k' := 5) rfl rfl ?_
  refine rn_istore_n (k' := 6) (L' := [some (mR 0), some (mI (-1)), some (mI (-1)), some (mI (0)), none]) rfl rfl (Nat.le_of_ble_eq_true rfl) rfl ?_
  have h := l_X11_widest (c := c) (s := s) hL hS (μ 6 13).toNat 0 _ _ _ (μ 67) (μ 68) (μ 69) none rfl rfl rfl (by omega)
  rw [upd_self] at h
  rw [upd_self (μ := μ) (a := 68), upd_self (μ := μ) (a := 69)] at h
  exact h
set_option maxHeartbeats 4000000 in
theorem l_X12_widest {μ : Nat → Nat → Int} {c s : Nat} (hL : I_land μ) (hS : I_scene μ) : ∀ (d n : Nat) (k : Int) (be : Int) (mo : Int) (H : Nat → Int) (F : Nat → Int) (q : Nat → Int), k = (n : Int) → be = (wd (fun j : Nat => g_reach μ (μ 15 j) (g_st μ (μ 16 j)) (g_w μ 0 (μ 14 0))) n).1 → mo = (wd (fun j : Nat => g_reach μ (μ 15 j) (g_st μ (μ 16 j)) (g_w μ 0 (μ 14 0))) n).2 → (n : Int) + d = μ 6 13 → (∀ j, sup 118 j = true → H j = μ 118 j) → (H 22 = g_w μ 0 (μ 14 0)) → Rn PT none kX12_widest 15 [some (mR 118), some (mI (be)), some (mI (mo)), some (mI (k))] [] (mkh (m_upd (m_upd (m_upd μ 118 H) 125 F) 126 q) c s) (fun r => ∃ μ1, r = (some (some (mI (wd (fun j : Nat => g_reach μ (μ 15 j) (g_st μ (μ 16 j)) (g_w μ 0 (μ 14 0))) (μ 6 13).toNat).1)), mkh μ1 c s) ∧ rst μ1 = rst μ) := by
  have hL_ := hL
  obtain ⟨lc, lr, le, lm, lw, lh, lwo, lwd, q0, q1, q2, q3, q4, q8, q499, q500, lth, lG, lT, lW, -⟩ := hL_
  have hS_ := hS
  obtain ⟨sd, sw, stk, s4, s5, s6, hC, hH, -, s10, sce, swc, s13⟩ := hS_
  intro d
  induction d with
  | zero =>
    intro n k be mo H F q ek ebe emo hn hHs hH22
    subst ek ebe emo
    refine rn_iload_n (k' := 16) rfl rfl rfl ?_
    refine rn_aload_n (k' := 17) rfl rfl rfl ?_
    refine rn_getR (k' := 18) rfl rfl K0_118 (by decide) rfl R0_118_6 ?_
    refine rn_bipush (k' := 19) rfl rfl ?_
    refine rn_iaload (k' := 20) rfl rfl K0_120 (by omega) (by omega) ?_
    show Rn PT none kX12_widest 20 [some (mR 118), some (mI ((wd (fun j : Nat => g_reach μ (μ 15 j) (g_st μ (μ 16 j)) (g_w μ 0 (μ 14 0))) n).1)), some (mI ((wd (fun j : Nat => g_reach μ (μ 15 j) (g_st μ (μ 16 j)) (g_w μ 0 (μ 14 0))) n).2)), some (mI ((n : Int)))] [mI (μ 120 8), mI ((n : Int))] (mkh (m_upd (m_upd (m_upd μ 118 H) 125 F) 126 q) c s) _
    rw [q8]
    refine rn_icmp_ge (k' := 21) rfl rfl (fun hc1 => ?_) (fun hc1 => ?_)
    · skip
      refine rn_iload_n (k' := 45) rfl rfl rfl ?_
      refine rn_iret rfl (Or.inl rfl) ?_
      refine ⟨(m_upd (m_upd (m_upd μ 118 H) 125 F) 126 q), ?_, ((rst_upd (a := 126) (fun _ => rfl)).trans ((rst_upd (a := 125) (fun _ => rfl)).trans (rst_upd1 (a := 118) hHs)))⟩
      rw [show (μ 6 13).toNat = n by omega]
    · exfalso; omega
  | succ d ih =>
    intro n k be mo H F q ek ebe emo hn hHs hH22
    subst ek ebe emo
    have hcl := sc_cell hS (n := n) (by omega)
    have hwb := g_w_b hL 0 (μ 14 0)
    have hrc : g_reach μ (μ 15 n) (g_st μ (μ 16 n)) (g_w μ 0 (μ 14 0)) = ((cn (g_far μ (μ 15 n) (g_st μ (μ 16 n)) (H 22)) 100 : Nat) : Int) := by rw [hH22]; exact g_reach_cn hL hcl
    refine rn_iload_n (k' := 16) rfl rfl rfl ?_
    refine rn_aload_n (k' := 17) rfl rfl rfl ?_
    refine rn_getR (k' := 18) rfl rfl K0_118 (by decide) rfl R0_118_6 ?_
    refine rn_bipush (k' := 19) rfl rfl ?_
    refine rn_iaload (k' := 20) rfl rfl K0_120 (by omega) (by omega) ?_
    show Rn PT none kX12_widest 20 [some (mR 118), some (mI ((wd (fun j : Nat => g_reach μ (μ 15 j) (g_st μ (μ 16 j)) (g_w μ 0 (μ 14 0))) n).1)), some (mI ((wd (fun j : Nat => g_reach μ (μ 15 j) (g_st μ (μ 16 j)) (g_w μ 0 (μ 14 0))) n).2)), some (mI ((n : Int)))] [mI (μ 120 8), mI ((n : Int))] (mkh (m_upd (m_upd (m_upd μ 118 H) 125 F) 126 q) c s) _
    rw [q8]
    refine rn_icmp_ge (k' := 21) rfl rfl (fun hc1 => ?_) (fun hc1 => ?_)
    · exfalso; omega
    · skip
      refine rn_aload_n (k' := 22) rfl rfl rfl ?_
      refine rn_aload_n (k' := 23) rfl rfl rfl ?_
      refine rn_getR (k' := 24) rfl rfl K0_118 (by decide) rfl R0_118_6 ?_
      refine rn_sipush (k' := 25) rfl rfl ?_
      refine rn_iload_n (k' := 26) rfl rfl rfl ?_
      refine rn_iadd (k' := 27) rfl rfl (by omega) ?_
      refine rn_iaload (k' := 28) rfl rfl K0_120 (by omega) (by omega) ?_
      show Rn PT none kX12_widest 28 [some (mR 118), some (mI ((wd (fun j : Nat => g_reach μ (μ 15 j) (g_st μ (μ 16 j)) (g_w μ 0 (μ 14 0))) n).1)), some (mI ((wd (fun j : Nat => g_reach μ (μ 15 j) (g_st μ (μ 16 j)) (g_w μ 0 (μ 14 0))) n).2)), some (mI ((n : Int)))] [mI (μ 120 (518 + n)), mR 118] (mkh (m_upd (m_upd (m_upd μ 118 H) 125 F) 126 q) c s) _
      rw [(v_atN hS (n := n) (by omega)).1]
      have hb2 := (v_atN hS (n := n) (by omega)).2
      refine rn_aload_n (k' := 29) rfl rfl rfl ?_
      refine rn_iload_n (k' := 30) rfl rfl rfl ?_
      have hb3 := g_st_b hL (a := μ 16 n) (hH _).1
      refine rn_callP (k' := 31) (y := 198) (vs := [mR 118, mI ((n : Int))]) (S' := [mI (μ 15 n), mR 118]) (v := some (mI (g_st μ (μ 16 n)))) (h' := mkh (m_upd (m_upd (m_upd μ 118 H) 125 F) 126 q) c s) rfl rfl rfl (c_X12_stiltsOf (μ := (m_upd (m_upd (m_upd μ 118 H) 125 F) 126 q)) ((((hL).upd rfl).upd rfl).upd rfl) ((((hS).upd rfl).upd rfl).upd rfl) (by show 0 ≤ ((n : Int) : Int) ∧ ((n : Int) : Int) < μ 6 13; omega)) ?_
      show Rn PT none kX12_widest 31 [some (mR 118), some (mI ((wd (fun j : Nat => g_reach μ (μ 15 j) (g_st μ (μ 16 j)) (g_w μ 0 (μ 14 0))) n).1)), some (mI ((wd (fun j : Nat => g_reach μ (μ 15 j) (g_st μ (μ 16 j)) (g_w μ 0 (μ 14 0))) n).2)), some (mI ((n : Int)))] [mI (g_st μ (μ 16 n)), mI (μ 15 n), mR 118] (mkh (m_upd (m_upd (m_upd μ 118 H) 125 F) 126 q) c s) _
      obtain ⟨F4, q4, hF4, hcl4⟩ := c_spread_h (μ := (m_upd (m_upd (m_upd μ 118 H) 125 F) 126 q)) (c := c) (s := s) ((((hL).upd rfl).upd rfl).upd rfl) (by show 0 ≤ H 22 ∧ H 22 ≤ 1000; omega) (a := μ 15 n) (t := g_st μ (μ 16 n)) (by omega) (by assumption)
      rw [g_far_rows (ν := (m_upd (m_upd (m_upd μ 118 H) 125 F) 126 q)) (μ := μ) rfl rfl rfl] at hF4
      have hG4 : ∀ j, j < 100 → F4 j = fv (g_far μ (μ 15 n) (g_st μ (μ 16 n)) (H 22) j) := hF4
      refine rn_callP (k' := 32) (y := 212) (vs := [mR 118, mI (μ 15 n), mI (g_st μ (μ 16 n))]) (S' := []) (v := none) (h' := mkh (m_upd (m_upd (m_upd (m_upd (m_upd μ 118 H) 125 F) 126 q) 125 F4) 126 q4) c s) rfl rfl rfl (hcl4) ?_
      show Rn PT none kX12_widest 32 [some (mR 118), some (mI ((wd (fun j : Nat => g_reach μ (μ 15 j) (g_st μ (μ 16 j)) (g_w μ 0 (μ 14 0))) n).1)), some (mI ((wd (fun j : Nat => g_reach μ (μ 15 j) (g_st μ (μ 16 j)) (g_w μ 0 (μ 14 0))) n).2)), some (mI ((n : Int)))] [] (mkh (m_upd (m_upd (m_upd (m_upd (m_upd μ 118 H) 125 F) 126 q) 125 F4) 126 q4) c s) _
      refine rn_aload_n (k' := 33) rfl rfl rfl ?_
      have hcb5 := cn_le (g_far μ (μ 15 n) (g_st μ (μ 16 n)) (H 22)) 100
      refine rn_callP (k' := 34) (y := 226) (vs := [mR 118]) (S' := []) (v := some (mI (((cn (g_far μ (μ 15 n) (g_st μ (μ 16 n)) (H 22)) 100 : Nat) : Int)))) (h' := mkh (m_upd (m_upd (m_upd (m_upd (m_upd μ 118 H) 125 F) 126 q) 125 F4) 126 q4) c s) rfl rfl rfl (c_X12_reached (μ := (m_upd (m_upd (m_upd (m_upd (m_upd μ 118 H) 125 F) 126 q) 125 F4) 126 q4)) (G := g_far μ (μ 15 n) (g_st μ (μ 16 n)) (H 22)) hG4 (fun j => g_far_b hL (by assumption) j)) ?_
      show Rn PT none kX12_widest 34 [some (mR 118), some (mI ((wd (fun j : Nat => g_reach μ (μ 15 j) (g_st μ (μ 16 j)) (g_w μ 0 (μ 14 0))) n).1)), some (mI ((wd (fun j : Nat => g_reach μ (μ 15 j) (g_st μ (μ 16 j)) (g_w μ 0 (μ 14 0))) n).2)), some (mI ((n : Int)))] [mI (((cn (g_far μ (μ 15 n) (g_st μ (μ 16 n)) (H 22)) 100 : Nat) : Int))] (mkh (m_upd (m_upd (m_upd (m_upd (m_upd μ 118 H) 125 F) 126 q) 125 F4) 126 q4) c s) _
      refine rn_iload_n (k' := 35) rfl rfl rfl ?_
      refine rn_icmp_gt (k' := 36) rfl rfl (fun hc6 => ?_) (fun hc6 => ?_)
      · skip
        refine rn_aload_n (k' := 38) rfl rfl rfl ?_
        have hcb7 := cn_le (g_far μ (μ 15 n) (g_st μ (μ 16 n)) (H 22)) 100
        refine rn_callP (k' := 39) (y := 226) (vs := [mR 118]) (S' := []) (v := some (mI (((cn (g_far μ (μ 15 n) (g_st μ (μ 16 n)) (H 22)) 100 : Nat) : Int)))) (h' := mkh (m_upd (m_upd (m_upd (m_upd (m_upd μ 118 H) 125 F) 126 q) 125 F4) 126 q4) c s) rfl rfl rfl (c_X12_reached (μ := (m_upd (m_upd (m_upd (m_upd (m_upd μ 118 H) 125 F) 126 q) 125 F4) 126 q4)) (G := g_far μ (μ 15 n) (g_st μ (μ 16 n)) (H 22)) hG4 (fun j => g_far_b hL (by assumption) j)) ?_
        show Rn PT none kX12_widest 39 [some (mR 118), some (mI ((wd (fun j : Nat => g_reach μ (μ 15 j) (g_st μ (μ 16 j)) (g_w μ 0 (μ 14 0))) n).1)), some (mI ((wd (fun j : Nat => g_reach μ (μ 15 j) (g_st μ (μ 16 j)) (g_w μ 0 (μ 14 0))) n).2)), some (mI ((n : Int)))] [mI (((cn (g_far μ (μ 15 n) (g_st μ (μ 16 n)) (H 22)) 100 : Nat) : Int))] (mkh (m_upd (m_upd (m_upd (m_upd (m_upd μ 118 H) 125 F) 126 q) 125 F4) 126 q4) c s) _
        refine rn_istore_n (k' := 40) (L' := [some (mR 118), some (mI ((wd (fun j : Nat => g_reach μ (μ 15 j) (g_st μ (μ 16 j)) (g_w μ 0 (μ 14 0))) n).1)), some (mI (((cn (g_far μ (μ 15 n) (g_st μ (μ 16 n)) (H 22)) 100 : Nat) : Int))), some (mI ((n : Int)))]) rfl rfl (Nat.le_of_ble_eq_true rfl) rfl ?_
        refine rn_iload_n (k' := 41) rfl rfl rfl ?_
        refine rn_istore_n (k' := 42) (L' := [some (mR 118), some (mI ((n : Int))), some (mI (((cn (g_far μ (μ 15 n) (g_st μ (μ 16 n)) (H 22)) 100 : Nat) : Int))), some (mI ((n : Int)))]) rfl rfl (Nat.le_of_ble_eq_true rfl) rfl ?_
        refine rn_iinc (k' := 43) (L' := [some (mR 118), some (mI ((n : Int))), some (mI (((cn (g_far μ (μ 15 n) (g_st μ (μ 16 n)) (H 22)) 100 : Nat) : Int))), some (mI ((n : Int) + 1))]) rfl rfl rfl (by omega) rfl ?_
        refine rn_goto rfl ?_
        show Rn PT none kX12_widest 15 [some (mR 118), some (mI ((n : Int))), some (mI (((cn (g_far μ (μ 15 n) (g_st μ (μ 16 n)) (H 22)) 100 : Nat) : Int))), some (mI ((n : Int) + 1))] [] (mkh (m_upd (m_upd (m_upd (m_upd (m_upd μ 118 H) 125 F) 126 q) 125 F4) 126 q4) c s) _
        rw [upd3_of (μ := μ) (ν := (m_upd (m_upd (m_upd (m_upd (m_upd μ 118 H) 125 F) 126 q) 125 F4) 126 q4)) (x := 118) (y := 125) (z := 126) (fun b hb118 hb125 hb126 => ((row_upd hb126).trans ((row_upd hb125).trans ((row_upd hb126).trans ((row_upd hb125).trans (row_upd hb118))))))]
        exact ih (n + 1) _ _ _ _ _ _ (by omega) (by first | (rw [wd_pos (by omega)]) | (rw [wd_neg (by omega)])) (by first | (rw [wd_pos (by omega)]; exact hrc.symm) | (rw [wd_neg (by omega)])) (by omega) hHs hH22
      · skip
        refine rn_goto rfl ?_
        refine rn_iinc (k' := 43) (L' := [some (mR 118), some (mI ((wd (fun j : Nat => g_reach μ (μ 15 j) (g_st μ (μ 16 j)) (g_w μ 0 (μ 14 0))) n).1)), some (mI ((wd (fun j : Nat => g_reach μ (μ 15 j) (g_st μ (μ 16 j)) (g_w μ 0 (μ 14 0))) n).2)), some (mI ((n : Int) + 1))]) rfl rfl rfl (by omega) rfl ?_
        refine rn_goto rfl ?_
        show Rn PT none kX12_widest 15 [some (mR 118), some (mI ((wd (fun j : Nat => g_reach μ (μ 15 j) (g_st μ (μ 16 j)) (g_w μ 0 (μ 14 0))) n).1)), some (mI ((wd (fun j : Nat => g_reach μ (μ 15 j) (g_st μ (μ 16 j)) (g_w μ 0 (μ 14 0))) n).2)), some (mI ((n : Int) + 1))] [] (mkh (m_upd (m_upd (m_upd (m_upd (m_upd μ 118 H) 125 F) 126 q) 125 F4) 126 q4) c s) _
        rw [upd3_of (μ := μ) (ν := (m_upd (m_upd (m_upd (m_upd (m_upd μ 118 H) 125 F) 126 q) 125 F4) 126 q4)) (x := 118) (y := 125) (z := 126) (fun b hb118 hb125 hb126 => ((row_upd hb126).trans ((row_upd hb125).trans ((row_upd hb126).trans ((row_upd hb125).trans (row_upd hb118))))))]
        exact ih (n + 1) _ _ _ _ _ _ (by omega) (by first | (rw [wd_pos (by omega)]) | (rw [wd_neg (by omega)])) (by first | (rw [wd_pos (by omega)]; exact hrc.symm) | (rw [wd_neg (by omega)])) (by omega) hHs hH22
theorem t_X12_widest {μ : Nat → Nat → Int} {c s : Nat} (hL : I_land μ) (hS : I_scene μ) : Cl PT 257 [mR 118] (mkh μ c s) (fun r => ∃ μ1, r = (some (some (mI (wd (fun j : Nat => g_reach μ (μ 15 j) (g_st μ (μ 16 j)) (g_w μ 0 (μ 14 0))) (μ 6 13).toNat).1)), mkh μ1 c s) ∧ rst μ1 = rst μ) := by
  have hL_ := hL
  obtain ⟨lc, lr, le, lm, lw, lh, lwo, lwd, q0, q1, q2, q3, q4, q8, q499, q500, lth, lG, lT, lW, -⟩ := hL_
  have hS_ := hS
  obtain ⟨sd, sw, stk, s4, s5, s6, hC, hH, -, s10, sce, swc, s13⟩ := hS_
  refine ⟨_, PT_257, Nat.le_of_ble_eq_true rfl, ?_⟩
  show Rn PT none kX12_widest 0 [some (mR 118), none, none, none] [] (mkh μ c s) _
  refine rn_aload_n (k' := 1) rfl rfl rfl ?_
  refine rn_iconst (k' := 2) rfl rfl ?_
  refine rn_putI (k' := 3) rfl rfl K0_118 (by decide) rfl ?_
  refine rn_aload_n (k' := 4) rfl rfl rfl ?_
  refine rn_aload_n (k' := 5) rfl rfl rfl ?_
  refine rn_getR (k' := 6) rfl rfl K0_118 (by decide) rfl R0_118_6 ?_
  refine rn_sipush (k' := 7) rfl rfl ?_
  refine rn_iaload (k' := 8) rfl rfl K0_120 (by omega) (by omega) ?_
  show Rn PT none kX12_widest 8 [some (mR 118), none, none, none] [mI (μ 120 517), mR 118] (mkh (m_set μ 118 0 (0)) c s) _
  rw [s4]
  have hb2 := g_w_b hL 0 (μ 14 0)
  have hc902 := g_w_b hL 1 (μ 14 0)
  refine rn_callP (k' := 9) (y := 201) (vs := [mR 118, mI (μ 14 0)]) (S' := []) (v := none) (h' := mkh (m_set (m_set (m_set μ 118 0 (0)) 118 22 (g_w μ 0 (μ 14 0))) 118 23 (g_w μ 1 (μ 14 0))) c s) rfl rfl rfl (c_X12_of (μ := (m_set μ 118 0 (0))) ((hL).set rfl) (by omega)) ?_
  show Rn PT none kX12_widest 9 [some (mR 118), none, none, none] [] (mkh (m_set (m_set (m_set μ 118 0 (0)) 118 22 (g_w μ 0 (μ 14 0))) 118 23 (g_w μ 1 (μ 14 0))) c s) _
  refine rn_iconst (k' := 10) rfl rfl ?_
  refine rn_istore_n (k' := 11) (L' := [some (mR 118), some (mI (-1)), none, none]) rfl rfl (Nat.le_of_ble_eq_true rfl) rfl ?_
  refine rn_iconst (k' := 12) rfl rfl ?_
  refine rn_istore_n (k' := 13) (L' := [some (mR 118), some (mI (-1)), some (mI (-1)), none]) rfl rfl (Nat.le_of_ble_eq_true rfl) rfl ?_
  refine rn_iconst (k' := 14) rfl rfl ?_
  refine rn_istore_n (k' := 15) (L' := [some (mR 118), some (mI (-1)), some (mI (-1)), some (mI (0))]) rfl rfl (Nat.le_of_ble_eq_true rfl) rfl ?_
  show Rn PT none kX12_widest 15 [some (mR 118), some (mI (-1)), some (mI (-1)), some (mI (0))] [] (mkh (m_set (m_set (m_set μ 118 0 (0)) 118 22 (g_w μ 0 (μ 14 0))) 118 23 (g_w μ 1 (μ 14 0))) c s) _
  rw [upd3_of (μ := μ) (ν := (m_set (m_set (m_set μ 118 0 (0)) 118 22 (g_w μ 0 (μ 14 0))) 118 23 (g_w μ 1 (μ 14 0)))) (x := 118) (y := 125) (z := 126) (fun b hb118 hb125 hb126 => ((row_set hb118).trans ((row_set hb118).trans (row_set hb118))))]
  exact l_X12_widest hL hS (μ 6 13).toNat 0 _ _ _ _ _ _ rfl rfl rfl (by omega) (fun j hj => sup_eq ((rst_set (a := 118) (j := 23) rfl).trans ((rst_set (a := 118) (j := 22) rfl).trans (rst_set (a := 118) (j := 0) rfl))) hj) rfl
theorem pair_39 : PairI (Inv N) 123 257 [] := by
  exact pair_of (fun ν => (wd (fun j : Nat => g_reach ν (ν 15 j) (g_st ν (ν 16 j)) (g_w ν 0 (ν 14 0))) (ν 6 13).toNat).1) (fun μ c s hI => t_X11_widest hI.land hI.scene) (fun μ c s hI => t_X12_widest hI.land hI.scene) (fun μ ν h => by
    have e6 := row_rst h (a := 6) (fun _ => rfl)
    have e7 := row_rst h (a := 7) (fun _ => rfl)
    have e8 := row_rst h (a := 8) (fun _ => rfl)
    have e10 := row_rst h (a := 10) (fun _ => rfl)
    have e14 := row_rst h (a := 14) (fun _ => rfl)
    have e15 := row_rst h (a := 15) (fun _ => rfl)
    have e16 := row_rst h (a := 16) (fun _ => rfl)
    simp only [g_cell, g_w, g_st, g_dep, e6, e7, e8, e10, e14, e15, e16, g_steps_rows e6 e7 e8, g_reach_rows e6 e7 e8, g_far_rows e6 e7 e8])
