variable {N : Int}
/-! ===== printed by wip/whole/gen65.py: pairs: go, trade, day, undo ===== -/
theorem kL_120f {j : Nat} (h : 517 ≤ j ∧ j < 536) : kL 120 j = false := by
  show (!(false || (false || (true && (Nat.ble 517 j && Nat.ble j 535))))) = false
  rw [show Nat.ble 517 j = true from by rw [Nat.ble_eq]; omega, show Nat.ble j 535 = true from by rw [Nat.ble_eq]; omega]
  rfl
theorem Cl.ex3 {y : Nat} {vs : List MV} {h : MH} {α β γ : Type} {g : α → β → γ → MR} (hc : Cl PT y vs h (fun r => ∃ a b d, r = g a b d)) : ∃ a b d, Cl PT y vs h (fun r => r = g a b d) := by
  obtain ⟨M, e1, e2, n, r, e3, a, b, d, e4⟩ := hc
  exact ⟨a, b, d, M, e1, e2, n, r, e3, e4⟩
theorem Cl.ex0 {y : Nat} {vs : List MV} {h : MH} {α β : Type} {g : α → β → MR} (hc : Cl PT y vs h (fun r => ∃ a b, r = g a b)) : ∃ a b, Cl PT y vs h (fun r => r = g a b) := by
  obtain ⟨M, e1, e2, n, r, e3, a, b, e4⟩ := hc
  exact ⟨a, b, M, e1, e2, n, r, e3, e4⟩
theorem rst_scp {μ : Nat → Nat → Int} : rst (scp μ 83 14) = rst μ := (rst_upd (fun _ => rfl)).trans ((rst_upd (fun _ => rfl)).trans (rst_upd (fun _ => rfl)))
abbrev mub (μ : Nat → Nat → Int) : Nat → Nat → Int := m_set (scp μ 83 14) 82 7 0
theorem rst_mub {μ : Nat → Nat → Int} : rst (mub μ) = rst μ := (rst_set rfl).trans rst_scp
theorem land_mub {μ : Nat → Nat → Int} (h : I_land μ) : I_land (mub μ) := h.congr rfl rfl rfl rfl rfl (fun _ _ => rfl)
theorem mub_84 {μ : Nat → Nat → Int} {j : Nat} (h : j < 8) : mub μ 84 j = μ 15 j := fl_lt (g := μ 15) (f := μ 84) h
theorem mub_85 {μ : Nat → Nat → Int} {j : Nat} (h : j < 8) : mub μ 85 j = μ 16 j := fl_lt (g := μ 16) (f := μ 85) h
set_option maxHeartbeats 4000000 in
theorem c_move_ok {μ : Nat → Nat → Int} {c s : Nat} (hL : I_land μ) {h : Nat} {to : Int} (hh : h < 8) (hd : 0 ≤ μ 83 0 ∧ μ 83 0 ≤ 29) (ha : g_cell μ (μ 84 h)) (he : 0 ≤ μ 85 h ∧ μ 85 h ≤ 99) (ht : g_cell μ to) (h7 : 0 ≤ μ 82 7 ∧ μ 82 7 ≤ 100000) (hs : ¬ g_steps μ (μ 84 h) to (g_st μ (μ 85 h)) (g_w μ 0 (μ 83 0)) = -1) : ∃ O F q, Cl PT 5 [mR 82, mI (h : Int), mI to] (mkh μ c s) (fun r => r = (some (some (mI 0)), mkh (m_set (m_set (m_upd (m_upd (m_upd μ 67 O) 68 F) 69 q) 84 h to) 82 7 (μ 82 7 + g_steps μ (μ 84 h) to (g_st μ (μ 85 h)) (g_w μ 0 (μ 83 0)))) c s)) := by
  refine Cl.ex3 (g := fun O F q => (some (some (mI 0)), mkh (m_set (m_set (m_upd (m_upd (m_upd μ 67 O) 68 F) 69 q) 84 h to) 82 7 (μ 82 7 + g_steps μ (μ 84 h) to (g_st μ (μ 85 h)) (g_w μ 0 (μ 83 0)))) c s)) ?_
  have hL_ := hL
  obtain ⟨lc, lr, le, lm, lw, lh, lwo, lwd, q0, q1, q2, q3, q4, q8, q499, q500, lth, lG, lT, lW, -⟩ := hL_
  refine ⟨_, PT_5, Nat.le_of_ble_eq_true rfl, ?_⟩
  show Rn PT none kX0_move 0 [some (mR 82), some (mI ((h : Int))), some (mI (to)), none, none] [] (mkh μ c s) _
  refine rn_aload_n (k' := 1) rfl rfl rfl ?_
  refine rn_getR (k' := 2) rfl rfl K0_82 (by decide) rfl R0_82_0 ?_
  refine rn_iconst (k' := 3) rfl rfl ?_
  refine rn_aload_n (k' := 4) rfl rfl rfl ?_
  refine rn_getR (k' := 5) rfl rfl K0_82 (by decide) rfl R0_82_3 ?_
  refine rn_getI (k' := 6) rfl rfl K0_83 (by decide) rfl ?_
  have hb1 := g_w_b hL 0 (μ 83 0)
  refine rn_callP (k' := 7) (y := 32) (vs := [mR 6, mI (0), mI (μ 83 0)]) (S' := []) (v := some (mI (g_w μ 0 (μ 83 0)))) (h' := mkh μ c s) rfl rfl rfl (k_weatherOn (μ := μ) (hL) (by omega) (by omega)) ?_
  show Rn PT none kX0_move 7 [some (mR 82), some (mI ((h : Int))), some (mI (to)), none, none] [mI (g_w μ 0 (μ 83 0))] (mkh μ c s) _
  refine rn_istore_n (k' := 8) (L' := [some (mR 82), some (mI ((h : Int))), some (mI (to)), some (mI (g_w μ 0 (μ 83 0))), none]) rfl rfl (Nat.le_of_ble_eq_true rfl) rfl ?_
  refine rn_aload_n (k' := 9) rfl rfl rfl ?_
  refine rn_getR (k' := 10) rfl rfl K0_82 (by decide) rfl R0_82_1 ?_
  refine rn_aload_n (k' := 11) rfl rfl rfl ?_
  refine rn_getR (k' := 12) rfl rfl K0_82 (by decide) rfl R0_82_3 ?_
  refine rn_getR (k' := 13) rfl rfl K0_83 (by decide) rfl R0_83_1 ?_
  refine rn_iload_n (k' := 14) rfl rfl rfl ?_
  refine rn_iaload (k' := 15) rfl rfl K0_84 (by omega) (by omega) ?_
  show Rn PT none kX0_move 15 [some (mR 82), some (mI ((h : Int))), some (mI (to)), some (mI (g_w μ 0 (μ 83 0))), none] [mI (μ 84 (h)), mR 66] (mkh μ c s) _
  refine rn_iload_n (k' := 16) rfl rfl rfl ?_
  refine rn_aload_n (k' := 17) rfl rfl rfl ?_
  refine rn_getR (k' := 18) rfl rfl K0_82 (by decide) rfl R0_82_0 ?_
  refine rn_aload_n (k' := 19) rfl rfl rfl ?_
  refine rn_getR (k' := 20) rfl rfl K0_82 (by decide) rfl R0_82_3 ?_
  refine rn_getR (k' := 21) rfl rfl K0_83 (by decide) rfl R0_83_2 ?_
  refine rn_iload_n (k' := 22) rfl rfl rfl ?_
  refine rn_iaload (k' := 23) rfl rfl K0_85 (by omega) (by omega) ?_
  show Rn PT none kX0_move 23 [some (mR 82), some (mI ((h : Int))), some (mI (to)), some (mI (g_w μ 0 (μ 83 0))), none] [mI (μ 85 (h)), mR 6, mI (to), mI (μ 84 (h)), mR 66] (mkh μ c s) _
  have hb2 := g_st_b hL (a := (μ 85 (h))) (by omega)
  refine rn_callP (k' := 24) (y := 33) (vs := [mR 6, mI (μ 85 (h))]) (S' := [mI (to), mI (μ 84 (h)), mR 66]) (v := some (mI (g_st μ (μ 85 (h))))) (h' := mkh μ c s) rfl rfl rfl (k_stiltsFor (μ := μ) (hL) (by omega)) ?_
  show Rn PT none kX0_move 24 [some (mR 82), some (mI ((h : Int))), some (mI (to)), some (mI (g_w μ 0 (μ 83 0))), none] [mI (g_st μ (μ 85 (h))), mI (to), mI (μ 84 (h)), mR 66] (mkh μ c s) _
  refine rn_iload_n (k' := 25) rfl rfl rfl ?_
  obtain ⟨O3, F3, q3, hF3, hcl3⟩ := c_stepsBetween (μ := μ) (c := c) (s := s) (hL) (a := μ 84 (h)) (b := to) (t := g_st μ (μ 85 (h))) (w := g_w μ 0 (μ 83 0)) (by assumption) (by assumption) (by omega)
  have hsb4 := g_steps_b hL (a := μ 84 (h)) (b := to) (t := g_st μ (μ 85 (h))) (w := g_w μ 0 (μ 83 0)) (by assumption)
  refine rn_callP (k' := 26) (y := 91) (vs := [mR 66, mI (μ 84 (h)), mI (to), mI (g_st μ (μ 85 (h))), mI (g_w μ 0 (μ 83 0))]) (S' := []) (v := some (mI (g_steps μ (μ 84 (h)) to (g_st μ (μ 85 (h))) (g_w μ 0 (μ 83 0))))) (h' := mkh (m_upd (m_upd (m_upd μ 67 O3) 68 F3) 69 q3) c s) rfl rfl rfl (hcl3) ?_
  show Rn PT none kX0_move 26 [some (mR 82), some (mI ((h : Int))), some (mI (to)), some (mI (g_w μ 0 (μ 83 0))), none] [mI (g_steps μ (μ 84 (h)) to (g_st μ (μ 85 (h))) (g_w μ 0 (μ 83 0)))] (mkh (m_upd (m_upd (m_upd μ 67 O3) 68 F3) 69 q3) c s) _
  refine rn_istore (k' := 27) (L' := [some (mR 82), some (mI ((h : Int))), some (mI (to)), some (mI (g_w μ 0 (μ 83 0))), some (mI (g_steps μ (μ 84 (h)) to (g_st μ (μ 85 (h))) (g_w μ 0 (μ 83 0))))]) rfl rfl (Nat.le_of_ble_eq_true rfl) rfl ?_
  refine rn_iload (k' := 28) rfl rfl rfl ?_
  refine rn_iconst (k' := 29) rfl rfl ?_
  refine rn_icmp_ne (k' := 30) rfl rfl (fun hc5 => ?_) (fun hc5 => ?_)
  · skip
    refine rn_aload_n (k' := 33) rfl rfl rfl ?_
    refine rn_getR (k' := 34) rfl rfl K0_82 (by decide) rfl R0_82_3 ?_
    refine rn_getR (k' := 35) rfl rfl K0_83 (by decide) rfl R0_83_1 ?_
    refine rn_iload_n (k' := 36) rfl rfl rfl ?_
    refine rn_iload_n (k' := 37) rfl rfl rfl ?_
    refine rn_iastore (k' := 38) rfl rfl K0_84 (by omega) (by omega) ?_
    refine rn_aload_n (k' := 39) rfl rfl rfl ?_
    refine rn_dupR (k' := 40) rfl rfl ?_
    refine rn_getI (k' := 41) rfl rfl K0_82 (by decide) rfl ?_
    show Rn PT none kX0_move 41 [some (mR 82), some (mI ((h : Int))), some (mI (to)), some (mI (g_w μ 0 (μ 83 0))), some (mI (g_steps μ (μ 84 (h)) to (g_st μ (μ 85 (h))) (g_w μ 0 (μ 83 0))))] [mI (μ 82 7), mR 82] (mkh (m_set (m_upd (m_upd (m_upd μ 67 O3) 68 F3) 69 q3) 84 h (to)) c s) _
    refine rn_iload (k' := 42) rfl rfl rfl ?_
    refine rn_iadd (k' := 43) rfl rfl (by omega) ?_
    refine rn_putI (k' := 44) rfl rfl K0_82 (by decide) rfl ?_
    refine rn_iconst (k' := 45) rfl rfl ?_
    refine rn_iret rfl (Or.inl rfl) ?_
    exact ⟨_, _, _, rfl⟩
  · exfalso; omega
set_option maxHeartbeats 4000000 in
theorem c_move_no {μ : Nat → Nat → Int} {c s : Nat} (hL : I_land μ) {h : Nat} {to : Int} (hh : h < 8) (hd : 0 ≤ μ 83 0 ∧ μ 83 0 ≤ 29) (ha : g_cell μ (μ 84 h)) (he : 0 ≤ μ 85 h ∧ μ 85 h ≤ 99) (ht : g_cell μ to) (h7 : 0 ≤ μ 82 7 ∧ μ 82 7 ≤ 100000) (hs : g_steps μ (μ 84 h) to (g_st μ (μ 85 h)) (g_w μ 0 (μ 83 0)) = -1) : ∃ O F q, Cl PT 5 [mR 82, mI (h : Int), mI to] (mkh μ c s) (fun r => r = (some (some (mI 1)), mkh (m_upd (m_upd (m_upd μ 67 O) 68 F) 69 q) c s)) := by
  refine Cl.ex3 (g := fun O F q => (some (some (mI 1)), mkh (m_upd (m_upd (m_upd μ 67 O) 68 F) 69 q) c s)) ?_
  have hL_ := hL
  obtain ⟨lc, lr, le, lm, lw, lh, lwo, lwd, q0, q1, q2, q3, q4, q8, q499, q500, lth, lG, lT, lW, -⟩ := hL_
  refine ⟨_, PT_5, Nat.le_of_ble_eq_true rfl, ?_⟩
  show Rn PT none kX0_move 0 [some (mR 82), some (mI ((h : Int))), some (mI (to)), none, none] [] (mkh μ c s) _
  refine rn_aload_n (k' := 1) rfl rfl rfl ?_
  refine rn_getR (k' := 2) rfl rfl K0_82 (by decide) rfl R0_82_0 ?_
  refine rn_iconst (k' := 3) rfl rfl ?_
  refine rn_aload_n (k' := 4) rfl rfl rfl ?_
  refine rn_getR (k' := 5) rfl rfl K0_82 (by decide) rfl R0_82_3 ?_
  refine rn_getI (k' := 6) rfl rfl K0_83 (by decide) rfl ?_
  have hb1 := g_w_b hL 0 (μ 83 0)
  refine rn_callP (k' := 7) (y := 32) (vs := [mR 6, mI (0), mI (μ 83 0)]) (S' := []) (v := some (mI (g_w μ 0 (μ 83 0)))) (h' := mkh μ c s) rfl rfl rfl (k_weatherOn (μ := μ) (hL) (by omega) (by omega)) ?_
  show Rn PT none kX0_move 7 [some (mR 82), some (mI ((h : Int))), some (mI (to)), none, none] [mI (g_w μ 0 (μ 83 0))] (mkh μ c s) _
  refine rn_istore_n (k' := 8) (L' := [some (mR 82), some (mI ((h : Int))), some (mI (to)), some (mI (g_w μ 0 (μ 83 0))), none]) rfl rfl (Nat.le_of_ble_eq_true rfl) rfl ?_
  refine rn_aload_n (k' := 9) rfl rfl rfl ?_
  refine rn_getR (k' := 10) rfl rfl K0_82 (by decide) rfl R0_82_1 ?_
  refine rn_aload_n (k' := 11) rfl rfl rfl ?_
  refine rn_getR (k' := 12) rfl rfl K0_82 (by decide) rfl R0_82_3 ?_
  refine rn_getR (k' := 13) rfl rfl K0_83 (by decide) rfl R0_83_1 ?_
  refine rn_iload_n (k' := 14) rfl rfl rfl ?_
  refine rn_iaload (k' := 15) rfl rfl K0_84 (by omega) (by omega) ?_
  show Rn PT none kX0_move 15 [some (mR 82), some (mI ((h : Int))), some (mI (to)), some (mI (g_w μ 0 (μ 83 0))), none] [mI (μ 84 (h)), mR 66] (mkh μ c s) _
  refine rn_iload_n (k' := 16) rfl rfl rfl ?_
  refine rn_aload_n (k' := 17) rfl rfl rfl ?_
  refine rn_getR (k' := 18) rfl rfl K0_82 (by decide) rfl R0_82_0 ?_
  refine rn_aload_n (k' := 19) rfl rfl rfl ?_
  refine rn_getR (k' := 20) rfl rfl K0_82 (by decide) rfl R0_82_3 ?_
  refine rn_getR (k' := 21) rfl rfl K0_83 (by decide) rfl R0_83_2 ?_
  refine rn_iload_n (k' := 22) rfl rfl rfl ?_
  refine rn_iaload (k' := 23) rfl rfl K0_85 (by omega) (by omega) ?_
  show Rn PT none kX0_move 23 [some (mR 82), some (mI ((h : Int))), some (mI (to)), some (mI (g_w μ 0 (μ 83 0))), none] [mI (μ 85 (h)), mR 6, mI (to), mI (μ 84 (h)), mR 66] (mkh μ c s) _
  have hb2 := g_st_b hL (a := (μ 85 (h))) (by omega)
  refine rn_callP (k' := 24) (y := 33) (vs := [mR 6, mI (μ 85 (h))]) (S' := [mI (to), mI (μ 84 (h)), mR 66]) (v := some (mI (g_st μ (μ 85 (h))))) (h' := mkh μ c s) rfl rfl rfl (k_stiltsFor (μ := μ) (hL) (by omega)) ?_
  show Rn PT none kX0_move 24 [some (mR 82), some (mI ((h : Int))), some (mI (to)), some (mI (g_w μ 0 (μ 83 0))), none] [mI (g_st μ (μ 85 (h))), mI (to), mI (μ 84 (h)), mR 66] (mkh μ c s) _
  refine rn_iload_n (k' := 25) rfl rfl rfl ?_
  obtain ⟨O3, F3, q3, hF3, hcl3⟩ := c_stepsBetween (μ := μ) (c := c) (s := s) (hL) (a := μ 84 (h)) (b := to) (t := g_st μ (μ 85 (h))) (w := g_w μ 0 (μ 83 0)) (by assumption) (by assumption) (by omega)
  have hsb4 := g_steps_b hL (a := μ 84 (h)) (b := to) (t := g_st μ (μ 85 (h))) (w := g_w μ 0 (μ 83 0)) (by assumption)
  refine rn_callP (k' := 26) (y := 91) (vs := [mR 66, mI (μ 84 (h)), mI (to), mI (g_st μ (μ 85 (h))), mI (g_w μ 0 (μ 83 0))]) (S' := []) (v := some (mI (g_steps μ (μ 84 (h)) to (g_st μ (μ 85 (h))) (g_w μ 0 (μ 83 0))))) (h' := mkh (m_upd (m_upd (m_upd μ 67 O3) 68 F3) 69 q3) c s) rfl rfl rfl (hcl3) ?_
  show Rn PT none kX0_move 26 [some (mR 82), some (mI ((h : Int))), some (mI (to)), some (mI (g_w μ 0 (μ 83 0))), none] [mI (g_steps μ (μ 84 (h)) to (g_st μ (μ 85 (h))) (g_w μ 0 (μ 83 0)))] (mkh (m_upd (m_upd (m_upd μ 67 O3) 68 F3) 69 q3) c s) _
  refine rn_istore (k' := 27) (L' := [some (mR 82), some (mI ((h : Int))), some (mI (to)), some (mI (g_w μ 0 (μ 83 0))), some (mI (g_steps μ (μ 84 (h)) to (g_st μ (μ 85 (h))) (g_w μ 0 (μ 83 0))))]) rfl rfl (Nat.le_of_ble_eq_true rfl) rfl ?_
  refine rn_iload (k' := 28) rfl rfl rfl ?_
  refine rn_iconst (k' := 29) rfl rfl ?_
  refine rn_icmp_ne (k' := 30) rfl rfl (fun hc5 => ?_) (fun hc5 => ?_)
  · exfalso; omega
  · skip
    refine rn_iconst (k' := 31) rfl rfl ?_
    refine rn_iret rfl (Or.inl rfl) ?_
    exact ⟨_, _, _, rfl⟩
theorem c_settled_0 {μ : Nat → Nat → Int} {c s : Nat} {p : Nat} (h5 : 0 ≤ μ 82 5 ∧ μ 82 5 ≤ 1000) (h6 : 0 ≤ μ 82 6 ∧ μ 82 6 ≤ 8) (hp : (p : Int) = μ 82 5 % 8) : Cl PT 150 [mR 0, mI 0] (mkh μ c s) (fun r => r = (some (some (mI 0)), mkh (stl μ p) c s)) := by
  refine ⟨_, PT_150, Nat.le_of_ble_eq_true rfl, ?_⟩
  show Rn PT none kX11_settled 0 [some (mR 0), some (mI (0))] [] (mkh μ c s) _
  refine rn_iload_n (k' := 1) rfl rfl rfl ?_
  refine rn_if_ne (k' := 2) rfl rfl (fun hc1 => ?_) (fun hc1 => ?_)
  · exfalso; omega
  · skip
    refine rn_aload_n (k' := 3) rfl rfl rfl ?_
    refine rn_getR (k' := 4) rfl rfl K0_0 (by decide) rfl R0_0_11 ?_
    refine rn_callP (k' := 5) (y := 2) (vs := [mR 82]) (S' := []) (v := none) (h' := mkh (stl μ p) c s) rfl rfl rfl (c_settle h5 h6 hp) ?_
    show Rn PT none kX11_settled 5 [some (mR 0), some (mI (0))] [] (mkh (stl μ p) c s) _
    refine rn_iload_n (k' := 6) rfl rfl rfl ?_
    refine rn_iret rfl (Or.inl rfl) ?_
    rfl
theorem c_settled_n {μ : Nat → Nat → Int} {c s : Nat} {w : Int} (hw : ¬ w = 0) : Cl PT 150 [mR 0, mI w] (mkh μ c s) (fun r => r = (some (some (mI w)), mkh μ c s)) := by
  refine ⟨_, PT_150, Nat.le_of_ble_eq_true rfl, ?_⟩
  show Rn PT none kX11_settled 0 [some (mR 0), some (mI (w))] [] (mkh μ c s) _
  refine rn_iload_n (k' := 1) rfl rfl rfl ?_
  refine rn_if_ne (k' := 2) rfl rfl (fun hc1 => ?_) (fun hc1 => ?_)
  · skip
    refine rn_iload_n (k' := 6) rfl rfl rfl ?_
    refine rn_iret rfl (Or.inl rfl) ?_
    rfl
  · exfalso; omega
set_option maxHeartbeats 2000000 in
theorem c_X0_sell {μ : Nat → Nat → Int} {c s : Nat} {h : Nat} {n : Int} (hh : h < 8) (he : 0 ≤ μ 85 h ∧ μ 85 h ≤ 99) (hn : 1 ≤ n ∧ n ≤ 99) : Cl PT 6 [mR 82, mI ((h : Int)), mI n] (mkh μ c s) (fun r => r = (some (some (mI (if μ 85 h < n then 2 else 0))), mkh (if μ 85 h < n then μ else m_set μ 85 h (μ 85 h - n)) c s)) := by
  refine ⟨_, PT_6, Nat.le_of_ble_eq_true rfl, ?_⟩
  show Rn PT none kX0_sell 0 [some (mR 82), some (mI ((h : Int))), some (mI (n))] [] (mkh μ c s) _
  refine rn_aload_n (k' := 1) rfl rfl rfl ?_
  refine rn_getR (k' := 2) rfl rfl K0_82 (by decide) rfl R0_82_3 ?_
  refine rn_getR (k' := 3) rfl rfl K0_83 (by decide) rfl R0_83_2 ?_
  refine rn_iload_n (k' := 4) rfl rfl rfl ?_
  refine rn_iaload (k' := 5) rfl rfl K0_85 (by omega) (by omega) ?_
  show Rn PT none kX0_sell 5 [some (mR 82), some (mI ((h : Int))), some (mI (n))] [mI (μ 85 (h))] (mkh μ c s) _
  refine rn_iload_n (k' := 6) rfl rfl rfl ?_
  refine rn_icmp_ge (k' := 7) rfl rfl (fun hc1 => ?_) (fun hc1 => ?_)
  · skip
    refine rn_aload_n (k' := 10) rfl rfl rfl ?_
    refine rn_getR (k' := 11) rfl rfl K0_82 (by decide) rfl R0_82_3 ?_
    refine rn_getR (k' := 12) rfl rfl K0_83 (by decide) rfl R0_83_2 ?_
    refine rn_iload_n (k' := 13) rfl rfl rfl ?_
    refine rn_dup2 (k' := 14) rfl rfl ?_
    refine rn_iaload (k' := 15) rfl rfl K0_85 (by omega) (by omega) ?_
    show Rn PT none kX0_sell 15 [some (mR 82), some (mI ((h : Int))), some (mI (n))] [mI (μ 85 (h)), mI ((h : Int)), mR 85] (mkh μ c s) _
    refine rn_iload_n (k' := 16) rfl rfl rfl ?_
    refine rn_isub (k' := 17) rfl rfl (by omega) ?_
    refine rn_iastore (k' := 18) rfl rfl K0_85 (by omega) (by omega) ?_
    refine rn_iconst (k' := 19) rfl rfl ?_
    refine rn_iret rfl (Or.inl rfl) ?_
    first | (rw [if_pos (by omega), if_pos (by omega)]; first | done | rfl) | (rw [if_neg (by omega), if_neg (by omega)]; first | done | rfl)
  · skip
    refine rn_iconst (k' := 8) rfl rfl ?_
    refine rn_iret rfl (Or.inl rfl) ?_
    first | (rw [if_pos (by omega), if_pos (by omega)]; first | done | rfl) | (rw [if_neg (by omega), if_neg (by omega)]; first | done | rfl)
set_option maxHeartbeats 2000000 in
theorem c_X0_buy {μ : Nat → Nat → Int} {c s : Nat} {h : Nat} {n : Int} (hh : h < 8) (he : 0 ≤ μ 85 h ∧ μ 85 h ≤ 99) (hn : 1 ≤ n ∧ n ≤ 99) : Cl PT 7 [mR 82, mI ((h : Int)), mI n] (mkh μ c s) (fun r => r = (some (some (mI (if 99 < μ 85 h + n then 3 else 0))), mkh (if 99 < μ 85 h + n then μ else m_set μ 85 h (μ 85 h + n)) c s)) := by
  refine ⟨_, PT_7, Nat.le_of_ble_eq_true rfl, ?_⟩
  show Rn PT none kX0_buy 0 [some (mR 82), some (mI ((h : Int))), some (mI (n))] [] (mkh μ c s) _
  refine rn_aload_n (k' := 1) rfl rfl rfl ?_
  refine rn_getR (k' := 2) rfl rfl K0_82 (by decide) rfl R0_82_3 ?_
  refine rn_getR (k' := 3) rfl rfl K0_83 (by decide) rfl R0_83_2 ?_
  refine rn_iload_n (k' := 4) rfl rfl rfl ?_
  refine rn_iaload (k' := 5) rfl rfl K0_85 (by omega) (by omega) ?_
  show Rn PT none kX0_buy 5 [some (mR 82), some (mI ((h : Int))), some (mI (n))] [mI (μ 85 (h))] (mkh μ c s) _
  refine rn_iload_n (k' := 6) rfl rfl rfl ?_
  refine rn_iadd (k' := 7) rfl rfl (by omega) ?_
  refine rn_bipush (k' := 8) rfl rfl ?_
  refine rn_icmp_le (k' := 9) rfl rfl (fun hc1 => ?_) (fun hc1 => ?_)
  · skip
    refine rn_aload_n (k' := 12) rfl rfl rfl ?_
    refine rn_getR (k' := 13) rfl rfl K0_82 (by decide) rfl R0_82_3 ?_
    refine rn_getR (k' := 14) rfl rfl K0_83 (by decide) rfl R0_83_2 ?_
    refine rn_iload_n (k' := 15) rfl rfl rfl ?_
    refine rn_dup2 (k' := 16) rfl rfl ?_
    refine rn_iaload (k' := 17) rfl rfl K0_85 (by omega) (by omega) ?_
    show Rn PT none kX0_buy 17 [some (mR 82), some (mI ((h : Int))), some (mI (n))] [mI (μ 85 (h)), mI ((h : Int)), mR 85] (mkh μ c s) _
    refine rn_iload_n (k' := 18) rfl rfl rfl ?_
    refine rn_iadd (k' := 19) rfl rfl (by omega) ?_
    refine rn_iastore (k' := 20) rfl rfl K0_85 (by omega) (by omega) ?_
    refine rn_iconst (k' := 21) rfl rfl ?_
    refine rn_iret rfl (Or.inl rfl) ?_
    first | (rw [if_pos (by omega), if_pos (by omega)]; first | done | rfl) | (rw [if_neg (by omega), if_neg (by omega)]; first | done | rfl)
  · skip
    refine rn_iconst (k' := 10) rfl rfl ?_
    refine rn_iret rfl (Or.inl rfl) ?_
    first | (rw [if_pos (by omega), if_pos (by omega)]; first | done | rfl) | (rw [if_neg (by omega), if_neg (by omega)]; first | done | rfl)
set_option maxHeartbeats 2000000 in
theorem c_X0_dawn {μ : Nat → Nat → Int} {c s : Nat} (hd : 0 ≤ μ 83 0 ∧ μ 83 0 ≤ 29) : Cl PT 8 [mR 82] (mkh μ c s) (fun r => r = (some (some (mI (if 29 ≤ μ 83 0 then 4 else 0))), mkh (if 29 ≤ μ 83 0 then μ else m_set μ 83 0 (μ 83 0 + 1)) c s)) := by
  refine ⟨_, PT_8, Nat.le_of_ble_eq_true rfl, ?_⟩
  show Rn PT none kX0_dawn 0 [some (mR 82)] [] (mkh μ c s) _
  refine rn_aload_n (k' := 1) rfl rfl rfl ?_
  refine rn_getR (k' := 2) rfl rfl K0_82 (by decide) rfl R0_82_3 ?_
  refine rn_getI (k' := 3) rfl rfl K0_83 (by decide) rfl ?_
  refine rn_bipush (k' := 4) rfl rfl ?_
  refine rn_icmp_lt (k' := 5) rfl rfl (fun hc1 => ?_) (fun hc1 => ?_)
  · skip
    refine rn_aload_n (k' := 8) rfl rfl rfl ?_
    refine rn_getR (k' := 9) rfl rfl K0_82 (by decide) rfl R0_82_3 ?_
    refine rn_dupR (k' := 10) rfl rfl ?_
    refine rn_getI (k' := 11) rfl rfl K0_83 (by decide) rfl ?_
    refine rn_iconst (k' := 12) rfl rfl ?_
    refine rn_iadd (k' := 13) rfl rfl (by omega) ?_
    refine rn_putI (k' := 14) rfl rfl K0_83 (by decide) rfl ?_
    refine rn_iconst (k' := 15) rfl rfl ?_
    refine rn_iret rfl (Or.inl rfl) ?_
    first | (rw [if_pos (by omega), if_pos (by omega)]; first | done | rfl) | (rw [if_neg (by omega), if_neg (by omega)]; first | done | rfl)
  · skip
    refine rn_iconst (k' := 6) rfl rfl ?_
    refine rn_iret rfl (Or.inl rfl) ?_
    first | (rw [if_pos (by omega), if_pos (by omega)]; first | done | rfl) | (rw [if_neg (by omega), if_neg (by omega)]; first | done | rfl)
set_option maxHeartbeats 4000000 in
theorem x_X11_go {μ : Nat → Nat → Int} {c s : Nat} (hI : Inv N μ) (hN : 0 ≤ N ∧ N ≤ 511) {p : Nat} (hp : (p : Int) = μ 82 5 % 8) {h : Nat} {to : Int} (hh : (h : Int) < μ 6 13) (ht : g_cell μ to) (hs : ¬ g_steps μ (μ 15 h) to (g_st μ (μ 16 h)) (g_w μ 0 (μ 14 0)) = -1) : ∃ M, (rst M = rst μ ∧ M 83 0 = μ 14 0 ∧ M 83 3 = μ 14 3 ∧ M 83 4 = μ 14 4 ∧ (∀ j, j < 8 → M 84 j = if j = h then to else μ 15 j) ∧ (∀ j, j < 8 → M 85 j = μ 16 j)) ∧ Cl PT 141 [mR 0, mI (h : Int), mI to] (mkh μ c s) (fun r => r = (some (some (mI 0)), mkh (stl M p) c s)) := by
  have hL := hI.land
  have hS := hI.scene
  have hU := hI.undo.1
  have hL_ := hL
  obtain ⟨lc, lr, le, lm, lw, lh, lwo, lwd, q0, q1, q2, q3, q4, q8, q499, q500, lth, lG, lT, lW, -⟩ := hL_
  have hS_ := hS
  obtain ⟨sd, sw, stk, s4, s5, s6, hC, hH, -, s10, sce, swc, s13⟩ := hS_
  have htb := g_cell_b hL ht
  have hh8 : h < 8 := by omega
  have hc := sc_cell hS hh
  have b84 := mub_84 (μ := μ) hh8
  have b85 := mub_85 (μ := μ) hh8
  have es : g_steps (mub μ) (mub μ 84 h) to (g_st (mub μ) (mub μ 85 h)) (g_w (mub μ) 0 (mub μ 83 0)) = g_steps μ (μ 15 h) to (g_st μ (μ 16 h)) (g_w μ 0 (μ 14 0)) := by
    rw [g_steps_rows (ν := mub μ) (μ := μ) rfl rfl rfl, b84, b85]
    rfl
  obtain ⟨O, F, q, hmv⟩ := c_move_ok (μ := mub μ) (c := c) (s := s) (land_mub hL) (h := h) (to := to) hh8 sd (by rw [b84]; exact hc) (by rw [b85]; exact hH h) ht (by show (0 : Int) ≤ 0 ∧ (0 : Int) ≤ 100000; decide) (by rw [es]; exact hs)
  have h5 : 0 ≤ (m_set (m_set (m_upd (m_upd (m_upd (mub μ) 67 O) 68 F) 69 q) 84 h to) 82 7 (mub μ 82 7 + g_steps (mub μ) (mub μ 84 h) to (g_st (mub μ) (mub μ 85 h)) (g_w (mub μ) 0 (mub μ 83 0)))) 82 5 ∧ (m_set (m_set (m_upd (m_upd (m_upd (mub μ) 67 O) 68 F) 69 q) 84 h to) 82 7 (mub μ 82 7 + g_steps (mub μ) (mub μ 84 h) to (g_st (mub μ) (mub μ 85 h)) (g_w (mub μ) 0 (mub μ 83 0)))) 82 5 ≤ 1000 := by show 0 ≤ μ 82 5 ∧ μ 82 5 ≤ 1000; omega
  have h6 : 0 ≤ (m_set (m_set (m_upd (m_upd (m_upd (mub μ) 67 O) 68 F) 69 q) 84 h to) 82 7 (mub μ 82 7 + g_steps (mub μ) (mub μ 84 h) to (g_st (mub μ) (mub μ 85 h)) (g_w (mub μ) 0 (mub μ 83 0)))) 82 6 ∧ (m_set (m_set (m_upd (m_upd (m_upd (mub μ) 67 O) 68 F) 69 q) 84 h to) 82 7 (mub μ 82 7 + g_steps (mub μ) (mub μ 84 h) to (g_st (mub μ) (mub μ 85 h)) (g_w (mub μ) 0 (mub μ 83 0)))) 82 6 ≤ 8 := by show 0 ≤ μ 82 6 ∧ μ 82 6 ≤ 8; omega
  have hp5 : (p : Int) = (m_set (m_set (m_upd (m_upd (m_upd (mub μ) 67 O) 68 F) 69 q) 84 h to) 82 7 (mub μ 82 7 + g_steps (mub μ) (mub μ 84 h) to (g_st (mub μ) (mub μ 85 h)) (g_w (mub μ) 0 (mub μ 83 0)))) 82 5 % 8 := hp
  refine ⟨(m_set (m_set (m_upd (m_upd (m_upd (mub μ) 67 O) 68 F) 69 q) 84 h to) 82 7 (mub μ 82 7 + g_steps (mub μ) (mub μ 84 h) to (g_st (mub μ) (mub μ 85 h)) (g_w (mub μ) 0 (mub μ 83 0)))), ⟨?_, rfl, rfl, rfl, fun j hj => ?_, fun j hj => ?_⟩, ?_⟩
  · exact (rst_set rfl).trans ((rst_set rfl).trans ((rst_upd (fun _ => rfl)).trans ((rst_upd (fun _ => rfl)).trans ((rst_upd (fun _ => rfl)).trans rst_mub))))
  · rw [row_set (by decide), row_set_eq]
    show (if j = h then to else mub μ 84 j) = _
    rw [mub_84 hj]
  · exact mub_85 hj
  refine ⟨_, PT_141, Nat.le_of_ble_eq_true rfl, ?_⟩
  show Rn PT none kX11_go 0 [some (mR 0), some (mI ((h : Int))), some (mI (to))] [] (mkh μ c s) _
  refine rn_aload_n (k' := 1) rfl rfl rfl ?_
  refine rn_iload_n (k' := 2) rfl rfl rfl ?_
  by_cases hq1 : 0 ≤ (h : Int) ∧ (h : Int) < μ 6 13
  · refine rn_callP (k' := 3) (y := 151) (vs := [mR 0, mI ((h : Int))]) (S' := []) (v := some (mI 1)) (h' := mkh μ c s) rfl rfl rfl (by have hz : Cl PT 151 [mR 0, mI ((h : Int))] (mkh μ c s) (fun r => r = (some (some (mI (if 0 ≤ (h : Int) ∧ (h : Int) < μ 6 13 then 1 else 0))), mkh μ c s)) := c_X11_isHerd (hL) (a := (h : Int)) (μ := μ) (c := c) (s := s); rw [if_pos hq1] at hz; exact hz) ?_
    show Rn PT none kX11_go 3 [some (mR 0), some (mI ((h : Int))), some (mI (to))] [mI (1)] (mkh μ c s) _
    refine rn_if_eq (k' := 4) rfl rfl (fun hc2 => ?_) (fun hc2 => ?_)
    · exfalso; omega
    · skip
      refine rn_aload_n (k' := 5) rfl rfl rfl ?_
      refine rn_getR (k' := 6) rfl rfl K0_0 (by decide) rfl R0_0_3 ?_
      refine rn_iload_n (k' := 7) rfl rfl rfl ?_
      by_cases hq3 : g_cell μ to
      · refine rn_callP (k' := 8) (y := 30) (vs := [mR 6, mI (to)]) (S' := []) (v := some (mI 1)) (h' := mkh μ c s) rfl rfl rfl (by have hz : Cl PT 30 [mR 6, mI (to)] (mkh μ c s) (fun r => r = (some (some (mI (if g_cell μ to then 1 else 0))), mkh μ c s)) := k_hasCell (a := to) (by omega) (μ := μ) (c := c) (s := s); rw [if_pos hq3] at hz; exact hz) ?_
        show Rn PT none kX11_go 8 [some (mR 0), some (mI ((h : Int))), some (mI (to))] [mI (1)] (mkh μ c s) _
        refine rn_if_ne (k' := 9) rfl rfl (fun hc4 => ?_) (fun hc4 => ?_)
        · skip
          refine rn_aload_n (k' := 12) rfl rfl rfl ?_
          refine rn_getR (k' := 13) rfl rfl K0_0 (by decide) rfl R0_0_11 ?_
          refine rn_callP (k' := 14) (y := 1) (vs := [mR 82]) (S' := []) (v := none) (h' := mkh (mub μ) c s) rfl rfl rfl (c_X0_begin (μ := μ) (c := c) (s := s)) ?_
          show Rn PT none kX11_go 14 [some (mR 0), some (mI ((h : Int))), some (mI (to))] [] (mkh (mub μ) c s) _
          refine rn_aload_n (k' := 15) rfl rfl rfl ?_
          refine rn_aload_n (k' := 16) rfl rfl rfl ?_
          refine rn_getR (k' := 17) rfl rfl K0_0 (by decide) rfl R0_0_11 ?_
          refine rn_iload_n (k' := 18) rfl rfl rfl ?_
          refine rn_iload_n (k' := 19) rfl rfl rfl ?_
          refine rn_callP (k' := 20) (y := 5) (vs := [mR 82, mI ((h : Int)), mI (to)]) (S' := [mR 0]) (v := some (mI (0))) (h' := mkh (m_set (m_set (m_upd (m_upd (m_upd (mub μ) 67 O) 68 F) 69 q) 84 h to) 82 7 (mub μ 82 7 + g_steps (mub μ) (mub μ 84 h) to (g_st (mub μ) (mub μ 85 h)) (g_w (mub μ) 0 (mub μ 83 0)))) c s) rfl rfl rfl (hmv) ?_
          show Rn PT none kX11_go 20 [some (mR 0), some (mI ((h : Int))), some (mI (to))] [mI (0), mR 0] (mkh (m_set (m_set (m_upd (m_upd (m_upd (mub μ) 67 O) 68 F) 69 q) 84 h to) 82 7 (mub μ 82 7 + g_steps (mub μ) (mub μ 84 h) to (g_st (mub μ) (mub μ 85 h)) (g_w (mub μ) 0 (mub μ 83 0)))) c s) _
          refine rn_callP (k' := 21) (y := 150) (vs := [mR 0, mI (0)]) (S' := []) (v := some (mI (0))) (h' := mkh (stl (m_set (m_set (m_upd (m_upd (m_upd (mub μ) 67 O) 68 F) 69 q) 84 h to) 82 7 (mub μ 82 7 + g_steps (mub μ) (mub μ 84 h) to (g_st (mub μ) (mub μ 85 h)) (g_w (mub μ) 0 (mub μ 83 0)))) p) c s) rfl rfl rfl (c_settled_0 (μ := (m_set (m_set (m_upd (m_upd (m_upd (mub μ) 67 O) 68 F) 69 q) 84 h to) 82 7 (mub μ 82 7 + g_steps (mub μ) (mub μ 84 h) to (g_st (mub μ) (mub μ 85 h)) (g_w (mub μ) 0 (mub μ 83 0))))) (c := c) (s := s) (p := p) h5 h6 hp5) ?_
          show Rn PT none kX11_go 21 [some (mR 0), some (mI ((h : Int))), some (mI (to))] [mI (0)] (mkh (stl (m_set (m_set (m_upd (m_upd (m_upd (mub μ) 67 O) 68 F) 69 q) 84 h to) 82 7 (mub μ 82 7 + g_steps (mub μ) (mub μ 84 h) to (g_st (mub μ) (mub μ 85 h)) (g_w (mub μ) 0 (mub μ 83 0)))) p) c s) _
          refine rn_iret rfl (Or.inl rfl) ?_
          rfl
        · exfalso; omega
      · exfalso; omega
  · exfalso; omega
set_option maxHeartbeats 4000000 in
theorem n_X11_go {μ : Nat → Nat → Int} {c s : Nat} (hI : Inv N μ) (hN : 0 ≤ N ∧ N ≤ 511) {p : Nat} (hp : (p : Int) = μ 82 5 % 8) {h : Nat} {to : Int} (hh : (h : Int) < μ 6 13) (ht : g_cell μ to) (hs : g_steps μ (μ 15 h) to (g_st μ (μ 16 h)) (g_w μ 0 (μ 14 0)) = -1) : ∃ M, rst M = rst μ ∧ Cl PT 141 [mR 0, mI (h : Int), mI to] (mkh μ c s) (fun r => r = (some (some (mI 1)), mkh M c s)) := by
  have hL := hI.land
  have hS := hI.scene
  have hU := hI.undo.1
  have hL_ := hL
  obtain ⟨lc, lr, le, lm, lw, lh, lwo, lwd, q0, q1, q2, q3, q4, q8, q499, q500, lth, lG, lT, lW, -⟩ := hL_
  have hS_ := hS
  obtain ⟨sd, sw, stk, s4, s5, s6, hC, hH, -, s10, sce, swc, s13⟩ := hS_
  have htb := g_cell_b hL ht
  have hh8 : h < 8 := by omega
  have hc := sc_cell hS hh
  have b84 := mub_84 (μ := μ) hh8
  have b85 := mub_85 (μ := μ) hh8
  have es : g_steps (mub μ) (mub μ 84 h) to (g_st (mub μ) (mub μ 85 h)) (g_w (mub μ) 0 (mub μ 83 0)) = g_steps μ (μ 15 h) to (g_st μ (μ 16 h)) (g_w μ 0 (μ 14 0)) := by
    rw [g_steps_rows (ν := mub μ) (μ := μ) rfl rfl rfl, b84, b85]
    rfl
  obtain ⟨O, F, q, hmv⟩ := c_move_no (μ := mub μ) (c := c) (s := s) (land_mub hL) (h := h) (to := to) hh8 sd (by rw [b84]; exact hc) (by rw [b85]; exact hH h) ht (by show (0 : Int) ≤ 0 ∧ (0 : Int) ≤ 100000; decide) (by rw [es]; exact hs)
  refine ⟨(m_upd (m_upd (m_upd (mub μ) 67 O) 68 F) 69 q), ?_, ?_⟩
  · exact (rst_upd (fun _ => rfl)).trans ((rst_upd (fun _ => rfl)).trans ((rst_upd (fun _ => rfl)).trans rst_mub))
  refine ⟨_, PT_141, Nat.le_of_ble_eq_true rfl, ?_⟩
  show Rn PT none kX11_go 0 [some (mR 0), some (mI ((h : Int))), some (mI (to))] [] (mkh μ c s) _
  refine rn_aload_n (k' := 1) rfl rfl rfl ?_
  refine rn_iload_n (k' := 2) rfl rfl rfl ?_
  by_cases hq1 : 0 ≤ (h : Int) ∧ (h : Int) < μ 6 13
  · refine rn_callP (k' := 3) (y := 151) (vs := [mR 0, mI ((h : Int))]) (S' := []) (v := some (mI 1)) (h' := mkh μ c s) rfl rfl rfl (by have hz : Cl PT 151 [mR 0, mI ((h : Int))] (mkh μ c s) (fun r => r = (some (some (mI (if 0 ≤ (h : Int) ∧ (h : Int) < μ 6 13 then 1 else 0))), mkh μ c s)) := c_X11_isHerd (hL) (a := (h : Int)) (μ := μ) (c := c) (s := s); rw [if_pos hq1] at hz; exact hz) ?_
    show Rn PT none kX11_go 3 [some (mR 0), some (mI ((h : Int))), some (mI (to))] [mI (1)] (mkh μ c s) _
    refine rn_if_eq (k' := 4) rfl rfl (fun hc2 => ?_) (fun hc2 => ?_)
    · exfalso; omega
    · skip
      refine rn_aload_n (k' := 5) rfl rfl rfl ?_
      refine rn_getR (k' := 6) rfl rfl K0_0 (by decide) rfl R0_0_3 ?_
      refine rn_iload_n (k' := 7) rfl rfl rfl ?_
      by_cases hq3 : g_cell μ to
      · refine rn_callP (k' := 8) (y := 30) (vs := [mR 6, mI (to)]) (S' := []) (v := some (mI 1)) (h' := mkh μ c s) rfl rfl rfl (by have hz : Cl PT 30 [mR 6, mI (to)] (mkh μ c s) (fun r => r = (some (some (mI (if g_cell μ to then 1 else 0))), mkh μ c s)) := k_hasCell (a := to) (by omega) (μ := μ) (c := c) (s := s); rw [if_pos hq3] at hz; exact hz) ?_
        show Rn PT none kX11_go 8 [some (mR 0), some (mI ((h : Int))), some (mI (to))] [mI (1)] (mkh μ c s) _
        refine rn_if_ne (k' := 9) rfl rfl (fun hc4 => ?_) (fun hc4 => ?_)
        · skip
          refine rn_aload_n (k' := 12) rfl rfl rfl ?_
          refine rn_getR (k' := 13) rfl rfl K0_0 (by decide) rfl R0_0_11 ?_
          refine rn_callP (k' := 14) (y := 1) (vs := [mR 82]) (S' := []) (v := none) (h' := mkh (mub μ) c s) rfl rfl rfl (c_X0_begin (μ := μ) (c := c) (s := s)) ?_
          show Rn PT none kX11_go 14 [some (mR 0), some (mI ((h : Int))), some (mI (to))] [] (mkh (mub μ) c s) _
          refine rn_aload_n (k' := 15) rfl rfl rfl ?_
          refine rn_aload_n (k' := 16) rfl rfl rfl ?_
          refine rn_getR (k' := 17) rfl rfl K0_0 (by decide) rfl R0_0_11 ?_
          refine rn_iload_n (k' := 18) rfl rfl rfl ?_
          refine rn_iload_n (k' := 19) rfl rfl rfl ?_
          refine rn_callP (k' := 20) (y := 5) (vs := [mR 82, mI ((h : Int)), mI (to)]) (S' := [mR 0]) (v := some (mI (1))) (h' := mkh (m_upd (m_upd (m_upd (mub μ) 67 O) 68 F) 69 q) c s) rfl rfl rfl (hmv) ?_
          show Rn PT none kX11_go 20 [some (mR 0), some (mI ((h : Int))), some (mI (to))] [mI (1), mR 0] (mkh (m_upd (m_upd (m_upd (mub μ) 67 O) 68 F) 69 q) c s) _
          refine rn_callP (k' := 21) (y := 150) (vs := [mR 0, mI (1)]) (S' := []) (v := some (mI (1))) (h' := mkh (m_upd (m_upd (m_upd (mub μ) 67 O) 68 F) 69 q) c s) rfl rfl rfl (c_settled_n (by decide)) ?_
          show Rn PT none kX11_go 21 [some (mR 0), some (mI ((h : Int))), some (mI (to))] [mI (1)] (mkh (m_upd (m_upd (m_upd (mub μ) 67 O) 68 F) 69 q) c s) _
          refine rn_iret rfl (Or.inl rfl) ?_
          rfl
        · exfalso; omega
      · exfalso; omega
  · exfalso; omega
theorem i_X11_go {μ : Nat → Nat → Int} {c s : Nat} (hL : I_land μ) {a0 a1 : Int} (h0 : i32 a0) (h1 : i32 a1) (hv : ¬ ((0 ≤ a0 ∧ a0 < μ 6 13) ∧ g_cell μ a1)) : Cl PT 141 [mR 0, mI a0, mI a1] (mkh μ c s) (fun r => r = (some (some (mI (-1))), mkh μ c s)) := by
  have hL_ := hL
  obtain ⟨lc, lr, le, lm, lw, lh, lwo, lwd, q0, q1, q2, q3, q4, q8, q499, q500, lth, lG, lT, lW, -⟩ := hL_
  refine ⟨_, PT_141, Nat.le_of_ble_eq_true rfl, ?_⟩
  show Rn PT none kX11_go 0 [some (mR 0), some (mI (a0)), some (mI (a1))] [] (mkh μ c s) _
  refine rn_aload_n (k' := 1) rfl rfl rfl ?_
  refine rn_iload_n (k' := 2) rfl rfl rfl ?_
  by_cases hq1 : 0 ≤ a0 ∧ a0 < μ 6 13
  · refine rn_callP (k' := 3) (y := 151) (vs := [mR 0, mI (a0)]) (S' := []) (v := some (mI 1)) (h' := mkh μ c s) rfl rfl rfl (by have hz : Cl PT 151 [mR 0, mI (a0)] (mkh μ c s) (fun r => r = (some (some (mI (if 0 ≤ a0 ∧ a0 < μ 6 13 then 1 else 0))), mkh μ c s)) := c_X11_isHerd (hL) (a := a0) (μ := μ) (c := c) (s := s); rw [if_pos hq1] at hz; exact hz) ?_
    show Rn PT none kX11_go 3 [some (mR 0), some (mI (a0)), some (mI (a1))] [mI (1)] (mkh μ c s) _
    refine rn_if_eq (k' := 4) rfl rfl (fun hc2 => ?_) (fun hc2 => ?_)
    · exfalso; omega
    · skip
      refine rn_aload_n (k' := 5) rfl rfl rfl ?_
      refine rn_getR (k' := 6) rfl rfl K0_0 (by decide) rfl R0_0_3 ?_
      refine rn_iload_n (k' := 7) rfl rfl rfl ?_
      by_cases hq3 : g_cell μ a1
      · refine rn_callP (k' := 8) (y := 30) (vs := [mR 6, mI (a1)]) (S' := []) (v := some (mI 1)) (h' := mkh μ c s) rfl rfl rfl (by have hz : Cl PT 30 [mR 6, mI (a1)] (mkh μ c s) (fun r => r = (some (some (mI (if g_cell μ a1 then 1 else 0))), mkh μ c s)) := k_hasCell (a := a1) (by omega) (μ := μ) (c := c) (s := s); rw [if_pos hq3] at hz; exact hz) ?_
        show Rn PT none kX11_go 8 [some (mR 0), some (mI (a0)), some (mI (a1))] [mI (1)] (mkh μ c s) _
        refine rn_if_ne (k' := 9) rfl rfl (fun hc4 => ?_) (fun hc4 => ?_)
        · skip
          refine rn_aload_n (k' := 12) rfl rfl rfl ?_
          refine rn_getR (k' := 13) rfl rfl K0_0 (by decide) rfl R0_0_11 ?_
          exfalso; omega
        · exfalso; omega
      · refine rn_callP (k' := 8) (y := 30) (vs := [mR 6, mI (a1)]) (S' := []) (v := some (mI 0)) (h' := mkh μ c s) rfl rfl rfl (by have hz : Cl PT 30 [mR 6, mI (a1)] (mkh μ c s) (fun r => r = (some (some (mI (if g_cell μ a1 then 1 else 0))), mkh μ c s)) := k_hasCell (a := a1) (by omega) (μ := μ) (c := c) (s := s); rw [if_neg hq3] at hz; exact hz) ?_
        show Rn PT none kX11_go 8 [some (mR 0), some (mI (a0)), some (mI (a1))] [mI (0)] (mkh μ c s) _
        refine rn_if_ne (k' := 9) rfl rfl (fun hc5 => ?_) (fun hc5 => ?_)
        · exfalso; omega
        · skip
          refine rn_iconst (k' := 10) rfl rfl ?_
          refine rn_iret rfl (Or.inl rfl) ?_
          rfl
  · refine rn_callP (k' := 3) (y := 151) (vs := [mR 0, mI (a0)]) (S' := []) (v := some (mI 0)) (h' := mkh μ c s) rfl rfl rfl (by have hz : Cl PT 151 [mR 0, mI (a0)] (mkh μ c s) (fun r => r = (some (some (mI (if 0 ≤ a0 ∧ a0 < μ 6 13 then 1 else 0))), mkh μ c s)) := c_X11_isHerd (hL) (a := a0) (μ := μ) (c := c) (s := s); rw [if_neg hq1] at hz; exact hz) ?_
    show Rn PT none kX11_go 3 [some (mR 0), some (mI (a0)), some (mI (a1))] [mI (0)] (mkh μ c s) _
    refine rn_if_eq (k' := 4) rfl rfl (fun hc6 => ?_) (fun hc6 => ?_)
    · skip
      refine rn_iconst (k' := 10) rfl rfl ?_
      refine rn_iret rfl (Or.inl rfl) ?_
      rfl
    · exfalso; omega
theorem i_X12_go {μ : Nat → Nat → Int} {c s : Nat} (hL : I_land μ) {a0 a1 : Int} (h0 : i32 a0) (h1 : i32 a1) (hv : ¬ ((0 ≤ a0 ∧ a0 < μ 6 13) ∧ g_cell μ a1)) : Cl PT 241 [mR 118, mI a0, mI a1] (mkh μ c s) (fun r => r = (some (some (mI (-1))), mkh (m_set μ 118 0 0) c s)) := by
  have hL_ := hL
  obtain ⟨lc, lr, le, lm, lw, lh, lwo, lwd, q0, q1, q2, q3, q4, q8, q499, q500, lth, lG, lT, lW, -⟩ := hL_
  refine ⟨_, PT_241, Nat.le_of_ble_eq_true rfl, ?_⟩
  show Rn PT none kX12_go 0 [some (mR 118), some (mI (a0)), some (mI (a1))] [] (mkh μ c s) _
  refine rn_aload_n (k' := 1) rfl rfl rfl ?_
  refine rn_iconst (k' := 2) rfl rfl ?_
  refine rn_putI (k' := 3) rfl rfl K0_118 (by decide) rfl ?_
  refine rn_aload_n (k' := 4) rfl rfl rfl ?_
  refine rn_iload_n (k' := 5) rfl rfl rfl ?_
  by_cases hq2 : 0 ≤ a0 ∧ a0 < μ 6 13
  · refine rn_callP (k' := 6) (y := 193) (vs := [mR 118, mI (a0)]) (S' := []) (v := some (mI 1)) (h' := mkh (m_set μ 118 0 (0)) c s) rfl rfl rfl (by have hz : Cl PT 193 [mR 118, mI (a0)] (mkh (m_set μ 118 0 (0)) c s) (fun r => r = (some (some (mI (if 0 ≤ a0 ∧ a0 < μ 6 13 then 1 else 0))), mkh (m_set μ 118 0 (0)) c s)) := c_X12_isHerd ((hL).set rfl) (a := a0) (μ := (m_set μ 118 0 (0))) (c := c) (s := s); rw [if_pos hq2] at hz; exact hz) ?_
    show Rn PT none kX12_go 6 [some (mR 118), some (mI (a0)), some (mI (a1))] [mI (1)] (mkh (m_set μ 118 0 (0)) c s) _
    refine rn_if_eq (k' := 7) rfl rfl (fun hc3 => ?_) (fun hc3 => ?_)
    · exfalso; omega
    · skip
      refine rn_aload_n (k' := 8) rfl rfl rfl ?_
      refine rn_iload_n (k' := 9) rfl rfl rfl ?_
      by_cases hq4 : g_cell μ a1
      · refine rn_callP (k' := 10) (y := 192) (vs := [mR 118, mI (a1)]) (S' := []) (v := some (mI 1)) (h' := mkh (m_set μ 118 0 (0)) c s) rfl rfl rfl (by have hz : Cl PT 192 [mR 118, mI (a1)] (mkh (m_set μ 118 0 (0)) c s) (fun r => r = (some (some (mI (if g_cell μ a1 then 1 else 0))), mkh (m_set μ 118 0 (0)) c s)) := c_X12_isCell ((hL).set rfl) (a := a1) (by omega) (μ := (m_set μ 118 0 (0))) (c := c) (s := s); rw [if_pos hq4] at hz; exact hz) ?_
        show Rn PT none kX12_go 10 [some (mR 118), some (mI (a0)), some (mI (a1))] [mI (1)] (mkh (m_set μ 118 0 (0)) c s) _
        refine rn_if_ne (k' := 11) rfl rfl (fun hc5 => ?_) (fun hc5 => ?_)
        · skip
          refine rn_aload_n (k' := 14) rfl rfl rfl ?_
          refine rn_iload_n (k' := 15) rfl rfl rfl ?_
          refine rn_iload_n (k' := 16) rfl rfl rfl ?_
          exfalso; omega
        · exfalso; omega
      · refine rn_callP (k' := 10) (y := 192) (vs := [mR 118, mI (a1)]) (S' := []) (v := some (mI 0)) (h' := mkh (m_set μ 118 0 (0)) c s) rfl rfl rfl (by have hz : Cl PT 192 [mR 118, mI (a1)] (mkh (m_set μ 118 0 (0)) c s) (fun r => r = (some (some (mI (if g_cell μ a1 then 1 else 0))), mkh (m_set μ 118 0 (0)) c s)) := c_X12_isCell ((hL).set rfl) (a := a1) (by omega) (μ := (m_set μ 118 0 (0))) (c := c) (s := s); rw [if_neg hq4] at hz; exact hz) ?_
        show Rn PT none kX12_go 10 [some (mR 118), some (mI (a0)), some (mI (a1))] [mI (0)] (mkh (m_set μ 118 0 (0)) c s) _
        refine rn_if_ne (k' := 11) rfl rfl (fun hc6 => ?_) (fun hc6 => ?_)
        · exfalso; omega
        · skip
          refine rn_iconst (k' := 12) rfl rfl ?_
          refine rn_iret rfl (Or.inl rfl) ?_
          rfl
  · refine rn_callP (k' := 6) (y := 193) (vs := [mR 118, mI (a0)]) (S' := []) (v := some (mI 0)) (h' := mkh (m_set μ 118 0 (0)) c s) rfl rfl rfl (by have hz : Cl PT 193 [mR 118, mI (a0)] (mkh (m_set μ 118 0 (0)) c s) (fun r => r = (some (some (mI (if 0 ≤ a0 ∧ a0 < μ 6 13 then 1 else 0))), mkh (m_set μ 118 0 (0)) c s)) := c_X12_isHerd ((hL).set rfl) (a := a0) (μ := (m_set μ 118 0 (0))) (c := c) (s := s); rw [if_neg hq2] at hz; exact hz) ?_
    show Rn PT none kX12_go 6 [some (mR 118), some (mI (a0)), some (mI (a1))] [mI (0)] (mkh (m_set μ 118 0 (0)) c s) _
    refine rn_if_eq (k' := 7) rfl rfl (fun hc7 => ?_) (fun hc7 => ?_)
    · skip
      refine rn_iconst (k' := 12) rfl rfl ?_
      refine rn_iret rfl (Or.inl rfl) ?_
      rfl
    · exfalso; omega
set_option maxHeartbeats 2000000 in
theorem c_X12_stiltsOf_r {μ : Nat → Nat → Int} {c s : Nat} (hL : I_land μ) {h : Nat} (hh : h < 8) (he : 0 ≤ μ 120 (526 + h) ∧ μ 120 (526 + h) ≤ 99) : Cl PT 198 [mR 118, mI ((h : Int))] (mkh μ c s) (fun r => r = (some (some (mI (g_st μ (μ 120 (526 + h))))), mkh (μ) c s)) := by
  have hL_ := hL
  obtain ⟨lc, lr, le, lm, lw, lh, lwo, lwd, q0, q1, q2, q3, q4, q8, q499, q500, lth, lG, lT, lW, -⟩ := hL_
  refine ⟨_, PT_198, Nat.le_of_ble_eq_true rfl, ?_⟩
  show Rn PT none kX12_stiltsOf 0 [some (mR 118), some (mI ((h : Int)))] [] (mkh μ c s) _
  refine rn_aload_n (k' := 1) rfl rfl rfl ?_
  refine rn_aload_n (k' := 2) rfl rfl rfl ?_
  refine rn_getR (k' := 3) rfl rfl K0_118 (by decide) rfl R0_118_6 ?_
  refine rn_sipush (k' := 4) rfl rfl ?_
  refine rn_iload_n (k' := 5) rfl rfl rfl ?_
  refine rn_iadd (k' := 6) rfl rfl (by omega) ?_
  refine rn_iaload (k' := 7) rfl rfl K0_120 (by omega) (by omega) ?_
  show Rn PT none kX12_stiltsOf 7 [some (mR 118), some (mI ((h : Int)))] [mI (μ 120 (526 + h)), mR 118] (mkh μ c s) _
  have hb1 := g_st_b hL (a := (μ 120 (526 + h))) (by omega)
  refine rn_callP (k' := 8) (y := 197) (vs := [mR 118, mI (μ 120 (526 + h))]) (S' := []) (v := some (mI (g_st μ (μ 120 (526 + h))))) (h' := mkh μ c s) rfl rfl rfl (c_X12_stiltsBy (hL) (by omega)) ?_
  show Rn PT none kX12_stiltsOf 8 [some (mR 118), some (mI ((h : Int)))] [mI (g_st μ (μ 120 (526 + h)))] (mkh μ c s) _
  refine rn_iret rfl (Or.inl rfl) ?_
  first | rfl | (refine congrArg (fun z => ((some (some (mI z)) : Option (Option MV)), mkh μ c s)) ?_; first | rfl | omega | (symm; first | (rw [if_pos (by omega)]; first | done | rfl | omega) | (rw [if_neg (by omega)]; first | done | rfl | omega)) | (symm; unfold g_tim; first | (rw [if_pos (by omega)]; first | done | rfl | omega) | (rw [if_neg (by omega)]; first | done | rfl | omega)) | (symm; unfold g_st; first | (rw [if_pos (by omega)]; first | done | rfl | omega) | (rw [if_neg (by omega)]; first | done | rfl | omega)) | (symm; unfold g_dep; first | (rw [if_pos (by omega)]; first | done | rfl | omega) | (rw [if_neg (by omega)]; first | done | rfl | omega)) | (symm; unfold g_nb; first | (rw [if_pos (by omega)]; first | done | rfl | omega) | (rw [if_neg (by omega)]; first | done | rfl | omega)) | ((try unfold g_st); (try unfold g_dep); (try unfold g_nb); (repeat' split) <;> omega) | (symm; (repeat (first | rw [if_pos (by omega)] | rw [if_neg (by omega)])); first | done | rfl | omega))
set_option maxHeartbeats 4000000 in
theorem c_gone {μ : Nat → Nat → Int} {c s : Nat} (hL : I_land μ) {h : Nat} {to : Int} (hh : h < 8) (ht : g_cell μ to) (hd : 0 ≤ μ 120 517 ∧ μ 120 517 ≤ 29) (ha : g_cell μ (μ 120 (518 + h))) (he : 0 ≤ μ 120 (526 + h) ∧ μ 120 (526 + h) ≤ 99) : ∃ F q, Cl PT 240 [mR 118, mI (h : Int), mI to] (mkh μ c s) (fun r => r = (some (some (mI (g_steps μ (μ 120 (518 + h)) to (g_st μ (μ 120 (526 + h))) (g_w μ 0 (μ 120 517))))), mkh (m_upd (m_upd (m_set (m_set μ 118 22 (g_w μ 0 (μ 120 517))) 118 23 (g_w μ 1 (μ 120 517))) 125 F) 126 q) c s)) := by
  refine Cl.ex0 (g := fun F q => (some (some (mI (g_steps μ (μ 120 (518 + h)) to (g_st μ (μ 120 (526 + h))) (g_w μ 0 (μ 120 517))))), mkh (m_upd (m_upd (m_set (m_set μ 118 22 (g_w μ 0 (μ 120 517))) 118 23 (g_w μ 1 (μ 120 517))) 125 F) 126 q) c s)) ?_
  have hL_ := hL
  obtain ⟨lc, lr, le, lm, lw, lh, lwo, lwd, q0, q1, q2, q3, q4, q8, q499, q500, lth, lG, lT, lW, -⟩ := hL_
  refine ⟨_, PT_240, Nat.le_of_ble_eq_true rfl, ?_⟩
  show Rn PT none kX12_gone 0 [some (mR 118), some (mI ((h : Int))), some (mI (to))] [] (mkh μ c s) _
  refine rn_aload_n (k' := 1) rfl rfl rfl ?_
  refine rn_aload_n (k' := 2) rfl rfl rfl ?_
  refine rn_getR (k' := 3) rfl rfl K0_118 (by decide) rfl R0_118_6 ?_
  refine rn_sipush (k' := 4) rfl rfl ?_
  refine rn_iaload (k' := 5) rfl rfl K0_120 (by omega) (by omega) ?_
  show Rn PT none kX12_gone 5 [some (mR 118), some (mI ((h : Int))), some (mI (to))] [mI (μ 120 517), mR 118] (mkh μ c s) _
  have hb1 := g_w_b hL 0 (μ 120 517)
  have hc901 := g_w_b hL 1 (μ 120 517)
  refine rn_callP (k' := 6) (y := 201) (vs := [mR 118, mI (μ 120 517)]) (S' := []) (v := none) (h' := mkh (m_set (m_set μ 118 22 (g_w μ 0 (μ 120 517))) 118 23 (g_w μ 1 (μ 120 517))) c s) rfl rfl rfl (c_X12_of (μ := μ) (hL) (by omega)) ?_
  show Rn PT none kX12_gone 6 [some (mR 118), some (mI ((h : Int))), some (mI (to))] [] (mkh (m_set (m_set μ 118 22 (g_w μ 0 (μ 120 517))) 118 23 (g_w μ 1 (μ 120 517))) c s) _
  refine rn_aload_n (k' := 7) rfl rfl rfl ?_
  refine rn_aload_n (k' := 8) rfl rfl rfl ?_
  refine rn_getR (k' := 9) rfl rfl K0_118 (by decide) rfl R0_118_6 ?_
  refine rn_sipush (k' := 10) rfl rfl ?_
  refine rn_iload_n (k' := 11) rfl rfl rfl ?_
  refine rn_iadd (k' := 12) rfl rfl (by omega) ?_
  refine rn_iaload (k' := 13) rfl rfl K0_120 (by omega) (by omega) ?_
  show Rn PT none kX12_gone 13 [some (mR 118), some (mI ((h : Int))), some (mI (to))] [mI (μ 120 (518 + h)), mR 118] (mkh (m_set (m_set μ 118 22 (g_w μ 0 (μ 120 517))) 118 23 (g_w μ 1 (μ 120 517))) c s) _
  refine rn_iload_n (k' := 14) rfl rfl rfl ?_
  refine rn_aload_n (k' := 15) rfl rfl rfl ?_
  refine rn_iload_n (k' := 16) rfl rfl rfl ?_
  have hb2 := g_st_b hL (a := μ 120 (526 + h)) (by omega)
  refine rn_callP (k' := 17) (y := 198) (vs := [mR 118, mI ((h : Int))]) (S' := [mI (to), mI (μ 120 (518 + h)), mR 118]) (v := some (mI (g_st μ (μ 120 (526 + h))))) (h' := mkh (m_set (m_set μ 118 22 (g_w μ 0 (μ 120 517))) 118 23 (g_w μ 1 (μ 120 517))) c s) rfl rfl rfl (c_X12_stiltsOf_r (μ := (m_set (m_set μ 118 22 (g_w μ 0 (μ 120 517))) 118 23 (g_w μ 1 (μ 120 517)))) (((hL).set rfl).set rfl) (h := h) (by omega) (by show 0 ≤ μ 120 (526 + h) ∧ μ 120 (526 + h) ≤ 99; omega)) ?_
  show Rn PT none kX12_gone 17 [some (mR 118), some (mI ((h : Int))), some (mI (to))] [mI (g_st μ (μ 120 (526 + h))), mI (to), mI (μ 120 (518 + h)), mR 118] (mkh (m_set (m_set μ 118 22 (g_w μ 0 (μ 120 517))) 118 23 (g_w μ 1 (μ 120 517))) c s) _
  obtain ⟨F3, q3, hF3, hcl3⟩ := c_stepsOf (μ := (m_set (m_set μ 118 22 (g_w μ 0 (μ 120 517))) 118 23 (g_w μ 1 (μ 120 517)))) (c := c) (s := s) (((hL).set rfl).set rfl) (by show 0 ≤ g_w μ 0 (μ 120 517) ∧ g_w μ 0 (μ 120 517) ≤ 1000; omega) (a := μ 120 (518 + h)) (b := to) (t := g_st μ (μ 120 (526 + h))) (by omega) (by assumption) (by assumption)
  rw [g_steps_rows (ν := (m_set (m_set μ 118 22 (g_w μ 0 (μ 120 517))) 118 23 (g_w μ 1 (μ 120 517)))) (μ := μ) rfl rfl rfl] at hcl3
  have hsb4 := g_steps_b hL (a := μ 120 (518 + h)) (b := to) (t := g_st μ (μ 120 (526 + h))) (w := g_w μ 0 (μ 120 517)) (by assumption)
  refine rn_callP (k' := 18) (y := 213) (vs := [mR 118, mI (μ 120 (518 + h)), mI (to), mI (g_st μ (μ 120 (526 + h)))]) (S' := []) (v := some (mI (g_steps μ (μ 120 (518 + h)) to (g_st μ (μ 120 (526 + h))) (g_w μ 0 (μ 120 517))))) (h' := mkh (m_upd (m_upd (m_set (m_set μ 118 22 (g_w μ 0 (μ 120 517))) 118 23 (g_w μ 1 (μ 120 517))) 125 F3) 126 q3) c s) rfl rfl rfl (hcl3) ?_
  show Rn PT none kX12_gone 18 [some (mR 118), some (mI ((h : Int))), some (mI (to))] [mI (g_steps μ (μ 120 (518 + h)) to (g_st μ (μ 120 (526 + h))) (g_w μ 0 (μ 120 517)))] (mkh (m_upd (m_upd (m_set (m_set μ 118 22 (g_w μ 0 (μ 120 517))) 118 23 (g_w μ 1 (μ 120 517))) 125 F3) 126 q3) c s) _
  refine rn_iret rfl (Or.inl rfl) ?_
  exact ⟨_, _, rfl⟩
set_option maxHeartbeats 4000000 in
theorem x_X12_go {μ : Nat → Nat → Int} {c s : Nat} (hL : I_land μ) {h : Nat} {to : Int} (hh : (h : Int) < μ 6 13) (ht : g_cell μ to) (hd : 0 ≤ μ 120 517 ∧ μ 120 517 ≤ 29) (ha : g_cell μ (μ 120 (518 + h))) (he : 0 ≤ μ 120 (526 + h) ∧ μ 120 (526 + h) ≤ 99) (h34 : 0 ≤ μ 118 34 ∧ μ 118 34 ≤ 8) (hs : ¬ g_steps μ (μ 120 (518 + h)) to (g_st μ (μ 120 (526 + h))) (g_w μ 0 (μ 120 517)) = -1) : Cl PT 241 [mR 118, mI (h : Int), mI to] (mkh μ c s) (fun r => ∃ ν, r = (some (some (mI 0)), mkh ν c s) ∧ rm kL ν = rm kL μ ∧ KR (μ 120) (μ 131) (μ 118 34) (ν 131) (ν 118 34) ∧ ν 120 = fs (μ 120) (518 + h) to) := by
  have hL_ := hL
  obtain ⟨lc, lr, le, lm, lw, lh, lwo, lwd, q0, q1, q2, q3, q4, q8, q499, q500, lth, lG, lT, lW, -⟩ := hL_
  have htb := g_cell_b hL ht
  refine ⟨_, PT_241, Nat.le_of_ble_eq_true rfl, ?_⟩
  show Rn PT none kX12_go 0 [some (mR 118), some (mI ((h : Int))), some (mI (to))] [] (mkh μ c s) _
  refine rn_aload_n (k' := 1) rfl rfl rfl ?_
  refine rn_iconst (k' := 2) rfl rfl ?_
  refine rn_putI (k' := 3) rfl rfl K0_118 (by decide) rfl ?_
  refine rn_aload_n (k' := 4) rfl rfl rfl ?_
  refine rn_iload_n (k' := 5) rfl rfl rfl ?_
  by_cases hq2 : 0 ≤ (h : Int) ∧ (h : Int) < μ 6 13
  · refine rn_callP (k' := 6) (y := 193) (vs := [mR 118, mI ((h : Int))]) (S' := []) (v := some (mI 1)) (h' := mkh (m_set μ 118 0 (0)) c s) rfl rfl rfl (by have hz : Cl PT 193 [mR 118, mI ((h : Int))] (mkh (m_set μ 118 0 (0)) c s) (fun r => r = (some (some (mI (if 0 ≤ (h : Int) ∧ (h : Int) < μ 6 13 then 1 else 0))), mkh (m_set μ 118 0 (0)) c s)) := c_X12_isHerd ((hL).set rfl) (a := (h : Int)) (μ := (m_set μ 118 0 (0))) (c := c) (s := s); rw [if_pos hq2] at hz; exact hz) ?_
    show Rn PT none kX12_go 6 [some (mR 118), some (mI ((h : Int))), some (mI (to))] [mI (1)] (mkh (m_set μ 118 0 (0)) c s) _
    refine rn_if_eq (k' := 7) rfl rfl (fun hc3 => ?_) (fun hc3 => ?_)
    · exfalso; omega
    · skip
      refine rn_aload_n (k' := 8) rfl rfl rfl ?_
      refine rn_iload_n (k' := 9) rfl rfl rfl ?_
      by_cases hq4 : g_cell μ to
      · refine rn_callP (k' := 10) (y := 192) (vs := [mR 118, mI (to)]) (S' := []) (v := some (mI 1)) (h' := mkh (m_set μ 118 0 (0)) c s) rfl rfl rfl (by have hz : Cl PT 192 [mR 118, mI (to)] (mkh (m_set μ 118 0 (0)) c s) (fun r => r = (some (some (mI (if g_cell μ to then 1 else 0))), mkh (m_set μ 118 0 (0)) c s)) := c_X12_isCell ((hL).set rfl) (a := to) (by omega) (μ := (m_set μ 118 0 (0))) (c := c) (s := s); rw [if_pos hq4] at hz; exact hz) ?_
        show Rn PT none kX12_go 10 [some (mR 118), some (mI ((h : Int))), some (mI (to))] [mI (1)] (mkh (m_set μ 118 0 (0)) c s) _
        refine rn_if_ne (k' := 11) rfl rfl (fun hc5 => ?_) (fun hc5 => ?_)
        · skip
          refine rn_aload_n (k' := 14) rfl rfl rfl ?_
          refine rn_iload_n (k' := 15) rfl rfl rfl ?_
          refine rn_iload_n (k' := 16) rfl rfl rfl ?_
          obtain ⟨F6, q6, hcl6⟩ := c_gone (μ := (m_set μ 118 0 (0))) (c := c) (s := s) ((hL).set rfl) (h := h) (to := to) (by omega) (by assumption) (by show 0 ≤ μ 120 517 ∧ μ 120 517 ≤ 29; omega) (by assumption) (by show 0 ≤ μ 120 (526 + h) ∧ μ 120 (526 + h) ≤ 99; omega)
          rw [g_steps_rows (ν := (m_set μ 118 0 (0))) (μ := μ) rfl rfl rfl] at hcl6
          have hsb6 := g_steps_b hL (a := μ 120 (518 + h)) (b := to) (t := g_st μ (μ 120 (526 + h))) (w := g_w μ 0 (μ 120 517)) (by assumption)
          refine rn_callP (k' := 17) (y := 240) (vs := [mR 118, mI ((h : Int)), mI (to)]) (S' := []) (v := some (mI (g_steps μ (μ 120 (518 + h)) to (g_st μ (μ 120 (526 + h))) (g_w μ 0 (μ 120 517))))) (h' := mkh (m_upd (m_upd (m_set (m_set (m_set μ 118 0 (0)) 118 22 (g_w μ 0 (μ 120 517))) 118 23 (g_w μ 1 (μ 120 517))) 125 F6) 126 q6) c s) rfl rfl rfl (hcl6) ?_
          show Rn PT none kX12_go 17 [some (mR 118), some (mI ((h : Int))), some (mI (to))] [mI (g_steps μ (μ 120 (518 + h)) to (g_st μ (μ 120 (526 + h))) (g_w μ 0 (μ 120 517)))] (mkh (m_upd (m_upd (m_set (m_set (m_set μ 118 0 (0)) 118 22 (g_w μ 0 (μ 120 517))) 118 23 (g_w μ 1 (μ 120 517))) 125 F6) 126 q6) c s) _
          refine rn_if_ge (k' := 18) rfl rfl (fun hc7 => ?_) (fun hc7 => ?_)
          · skip
            refine rn_aload_n (k' := 21) rfl rfl rfl ?_
            obtain ⟨U, V, hK, hcl8⟩ := c_keep (μ := (m_upd (m_upd (m_set (m_set (m_set μ 118 0 (0)) 118 22 (g_w μ 0 (μ 120 517))) 118 23 (g_w μ 1 (μ 120 517))) 125 F6) 126 q6)) (c := c) (s := s) (by show 0 ≤ μ 118 34 ∧ μ 118 34 ≤ 8; omega)
            have hK2 : KR (μ 120) (μ 131) (μ 118 34) U V := hK
            refine rn_callP (k' := 22) (y := 238) (vs := [mR 118]) (S' := []) (v := none) (h' := mkh (m_set (m_upd (m_upd (m_upd (m_set (m_set (m_set μ 118 0 (0)) 118 22 (g_w μ 0 (μ 120 517))) 118 23 (g_w μ 1 (μ 120 517))) 125 F6) 126 q6) 131 U) 118 34 (V)) c s) rfl rfl rfl (hcl8) ?_
            show Rn PT none kX12_go 22 [some (mR 118), some (mI ((h : Int))), some (mI (to))] [] (mkh (m_set (m_upd (m_upd (m_upd (m_set (m_set (m_set μ 118 0 (0)) 118 22 (g_w μ 0 (μ 120 517))) 118 23 (g_w μ 1 (μ 120 517))) 125 F6) 126 q6) 131 U) 118 34 (V)) c s) _
            refine rn_aload_n (k' := 23) rfl rfl rfl ?_
            refine rn_getR (k' := 24) rfl rfl K0_118 (by decide) rfl R0_118_6 ?_
            refine rn_sipush (k' := 25) rfl rfl ?_
            refine rn_iload_n (k' := 26) rfl rfl rfl ?_
            refine rn_iadd (k' := 27) rfl rfl (by omega) ?_
            refine rn_iload_n (k' := 28) rfl rfl rfl ?_
            refine rn_iastore (k' := 29) rfl rfl K0_120 (by omega) (by omega) ?_
            refine rn_iconst (k' := 30) rfl rfl ?_
            refine rn_iret rfl (Or.inl rfl) ?_
            refine ⟨(m_set (m_set (m_upd (m_upd (m_upd (m_set (m_set (m_set μ 118 0 (0)) 118 22 (g_w μ 0 (μ 120 517))) 118 23 (g_w μ 1 (μ 120 517))) 125 F6) 126 q6) 131 U) 118 34 (V)) 120 (518 + h) (to)), rfl, ((rm_set (kL_120f (by omega))).trans ((rm_set rfl).trans ((rm_upd0 (fun _ => rfl)).trans ((rm_upd0 (fun _ => rfl)).trans ((rm_upd0 (fun _ => rfl)).trans ((rm_set rfl).trans ((rm_set rfl).trans (rm_set rfl)))))))), hK2, ?_⟩
            rw [row_set_eq]
            rfl
          · exfalso; omega
        · exfalso; omega
      · exfalso; omega
  · exfalso; omega
set_option maxHeartbeats 4000000 in
theorem n_X12_go {μ : Nat → Nat → Int} {c s : Nat} (hL : I_land μ) {h : Nat} {to : Int} (hh : (h : Int) < μ 6 13) (ht : g_cell μ to) (hd : 0 ≤ μ 120 517 ∧ μ 120 517 ≤ 29) (ha : g_cell μ (μ 120 (518 + h))) (he : 0 ≤ μ 120 (526 + h) ∧ μ 120 (526 + h) ≤ 99) (h34 : 0 ≤ μ 118 34 ∧ μ 118 34 ≤ 8) (hs : g_steps μ (μ 120 (518 + h)) to (g_st μ (μ 120 (526 + h))) (g_w μ 0 (μ 120 517)) = -1) : Cl PT 241 [mR 118, mI (h : Int), mI to] (mkh μ c s) (fun r => ∃ μ1, r = (some (some (mI 1)), mkh μ1 c s) ∧ rst μ1 = rst μ) := by
  have hL_ := hL
  obtain ⟨lc, lr, le, lm, lw, lh, lwo, lwd, q0, q1, q2, q3, q4, q8, q499, q500, lth, lG, lT, lW, -⟩ := hL_
  have htb := g_cell_b hL ht
  refine ⟨_, PT_241, Nat.le_of_ble_eq_true rfl, ?_⟩
  show Rn PT none kX12_go 0 [some (mR 118), some (mI ((h : Int))), some (mI (to))] [] (mkh μ c s) _
  refine rn_aload_n (k' := 1) rfl rfl rfl ?_
  refine rn_iconst (k' := 2) rfl rfl ?_
  refine rn_putI (k' := 3) rfl rfl K0_118 (by decide) rfl ?_
  refine rn_aload_n (k' := 4) rfl rfl rfl ?_
  refine rn_iload_n (k' := 5) rfl rfl rfl ?_
  by_cases hq2 : 0 ≤ (h : Int) ∧ (h : Int) < μ 6 13
  · refine rn_callP (k' := 6) (y := 193) (vs := [mR 118, mI ((h : Int))]) (S' := []) (v := some (mI 1)) (h' := mkh (m_set μ 118 0 (0)) c s) rfl rfl rfl (by have hz : Cl PT 193 [mR 118, mI ((h : Int))] (mkh (m_set μ 118 0 (0)) c s) (fun r => r = (some (some (mI (if 0 ≤ (h : Int) ∧ (h : Int) < μ 6 13 then 1 else 0))), mkh (m_set μ 118 0 (0)) c s)) := c_X12_isHerd ((hL).set rfl) (a := (h : Int)) (μ := (m_set μ 118 0 (0))) (c := c) (s := s); rw [if_pos hq2] at hz; exact hz) ?_
    show Rn PT none kX12_go 6 [some (mR 118), some (mI ((h : Int))), some (mI (to))] [mI (1)] (mkh (m_set μ 118 0 (0)) c s) _
    refine rn_if_eq (k' := 7) rfl rfl (fun hc3 => ?_) (fun hc3 => ?_)
    · exfalso; omega
    · skip
      refine rn_aload_n (k' := 8) rfl rfl rfl ?_
      refine rn_iload_n (k' := 9) rfl rfl rfl ?_
      by_cases hq4 : g_cell μ to
      · refine rn_callP (k' := 10) (y := 192) (vs := [mR 118, mI (to)]) (S' := []) (v := some (mI 1)) (h' := mkh (m_set μ 118 0 (0)) c s) rfl rfl rfl (by have hz : Cl PT 192 [mR 118, mI (to)] (mkh (m_set μ 118 0 (0)) c s) (fun r => r = (some (some (mI (if g_cell μ to then 1 else 0))), mkh (m_set μ 118 0 (0)) c s)) := c_X12_isCell ((hL).set rfl) (a := to) (by omega) (μ := (m_set μ 118 0 (0))) (c := c) (s := s); rw [if_pos hq4] at hz; exact hz) ?_
        show Rn PT none kX12_go 10 [some (mR 118), some (mI ((h : Int))), some (mI (to))] [mI (1)] (mkh (m_set μ 118 0 (0)) c s) _
        refine rn_if_ne (k' := 11) rfl rfl (fun hc5 => ?_) (fun hc5 => ?_)
        · skip
          refine rn_aload_n (k' := 14) rfl rfl rfl ?_
          refine rn_iload_n (k' := 15) rfl rfl rfl ?_
          refine rn_iload_n (k' := 16) rfl rfl rfl ?_
          obtain ⟨F6, q6, hcl6⟩ := c_gone (μ := (m_set μ 118 0 (0))) (c := c) (s := s) ((hL).set rfl) (h := h) (to := to) (by omega) (by assumption) (by show 0 ≤ μ 120 517 ∧ μ 120 517 ≤ 29; omega) (by assumption) (by show 0 ≤ μ 120 (526 + h) ∧ μ 120 (526 + h) ≤ 99; omega)
          rw [g_steps_rows (ν := (m_set μ 118 0 (0))) (μ := μ) rfl rfl rfl] at hcl6
          have hsb6 := g_steps_b hL (a := μ 120 (518 + h)) (b := to) (t := g_st μ (μ 120 (526 + h))) (w := g_w μ 0 (μ 120 517)) (by assumption)
          refine rn_callP (k' := 17) (y := 240) (vs := [mR 118, mI ((h : Int)), mI (to)]) (S' := []) (v := some (mI (g_steps μ (μ 120 (518 + h)) to (g_st μ (μ 120 (526 + h))) (g_w μ 0 (μ 120 517))))) (h' := mkh (m_upd (m_upd (m_set (m_set (m_set μ 118 0 (0)) 118 22 (g_w μ 0 (μ 120 517))) 118 23 (g_w μ 1 (μ 120 517))) 125 F6) 126 q6) c s) rfl rfl rfl (hcl6) ?_
          show Rn PT none kX12_go 17 [some (mR 118), some (mI ((h : Int))), some (mI (to))] [mI (g_steps μ (μ 120 (518 + h)) to (g_st μ (μ 120 (526 + h))) (g_w μ 0 (μ 120 517)))] (mkh (m_upd (m_upd (m_set (m_set (m_set μ 118 0 (0)) 118 22 (g_w μ 0 (μ 120 517))) 118 23 (g_w μ 1 (μ 120 517))) 125 F6) 126 q6) c s) _
          refine rn_if_ge (k' := 18) rfl rfl (fun hc7 => ?_) (fun hc7 => ?_)
          · exfalso; omega
          · skip
            refine rn_iconst (k' := 19) rfl rfl ?_
            refine rn_iret rfl (Or.inl rfl) ?_
            exact ⟨(m_upd (m_upd (m_set (m_set (m_set μ 118 0 (0)) 118 22 (g_w μ 0 (μ 120 517))) 118 23 (g_w μ 1 (μ 120 517))) 125 F6) 126 q6), rfl, ((rst_upd (a := 126) (fun _ => rfl)).trans ((rst_upd (a := 125) (fun _ => rfl)).trans ((rst_set (a := 118) (j := 23) rfl).trans ((rst_set (a := 118) (j := 22) rfl).trans (rst_set (a := 118) (j := 0) rfl)))))⟩
        · exfalso; omega
      · exfalso; omega
  · exfalso; omega
theorem stl_view {μ M : Nat → Nat → Int} {p : Nat} (hM : rst M = rst μ) (hp : p < 8) : (∀ a, a = 6 ∨ a = 7 ∨ a = 8 ∨ a = 9 ∨ a = 10 ∨ a = 120 ∨ a = 131 → stl M p a = μ a) ∧ stl M p 118 34 = μ 118 34 := by
  have hM2 : rm sup M = rm sup μ := hM
  refine ⟨fun a ha => ?_, ?_⟩
  · rw [stl_o hp (by omega)]
    rcases ha with rfl | rfl | rfl | rfl | rfl | rfl | rfl <;> exact rm_row hM2 (fun _ => rfl)
  · rw [stl_o hp (by omega)]
    exact rm_cell hM2 rfl
theorem stl_land {μ M : Nat → Nat → Int} {p : Nat} (hL : I_land μ) (hM : rst M = rst μ) (hp : p < 8) : I_land (stl M p) := by
  have h := (stl_view (p := p) hM hp).1
  exact hL.congr (h 6 (by omega)) (h 7 (by omega)) (h 8 (by omega)) (h 9 (by omega)) (h 10 (by omega)) (fun j _ => by rw [h 120 (by omega)])
theorem g_cell_row {μ ν : Nat → Nat → Int} (e : ν 6 = μ 6) {a : Int} (h : g_cell μ a) : g_cell ν a := by
  unfold g_cell
  rw [e]
  exact h
theorem pair_25 : ∀ (a0 a1 : Int), i32 a0 → i32 a1 → (0 ≤ N ∧ N ≤ 511) → PairJ (Inv N) (Inv (N + 1)) 141 241 [mI a0, mI a1] := by
  intro a0 a1 h0 h1 hN μ c s hI
  by_cases hv : (0 ≤ a0 ∧ a0 < μ 6 13) ∧ g_cell μ a1
  · obtain ⟨h, rfl⟩ := Int.eq_ofNat_of_zero_le hv.1.1
    have hh := hv.1.2
    have h8 := hI.land.2.2.2.2.2.1.2
    have hS := hI.scene
    have hc := sc_cell hS hh
    obtain ⟨sd, -, -, s4, -, s6, hC, hH, s9, s10, s11, s12, s13⟩ := hS
    have hU := hI.undo
    obtain ⟨⟨u1, u2, u3⟩, u4, -⟩ := hU
    have hat := (s9 h hh).1
    have hhd := (s9 h hh).2
    by_cases hs : g_steps μ (μ 15 h) a1 (g_st μ (μ 16 h)) (g_w μ 0 (μ 14 0)) = -1
    · obtain ⟨M, hM, hx⟩ := n_X11_go (c := c) (s := s) (p := (μ 82 5 % 8).toNat) hI hN (by omega) hh hv.2 (by rw [← hs])
      have hI2 := hI.same hM
      have e120 : M 120 = μ 120 := row_rst hM (fun _ => rfl)
      have e6 : M 6 = μ 6 := row_rst hM (fun _ => rfl)
      have e7 : M 7 = μ 7 := row_rst hM (fun _ => rfl)
      have e8 : M 8 = μ 8 := row_rst hM (fun _ => rfl)
      have e10 : M 10 = μ 10 := row_rst hM (fun _ => rfl)
      have e34 : M 118 34 = μ 118 34 := sup_eq hM rfl
      obtain ⟨ν, hν, hm⟩ := (n_X12_go (μ := M) (c := c) (s := s) hI2.land (h := h) (to := a1) (by rw [e6]; exact hh) (g_cell_row e6 hv.2) (by rw [e120, s4]; exact sd) (g_cell_row e6 (by rw [e120, hat]; exact hc)) (by rw [e120, hhd]; exact hH h) (by rw [e34, u4]; exact u1) (by simp only [g_w, g_st]; rw [g_steps_rows e6 e7 e8, e120, hat, hhd, s4, e6, e10]; exact hs)).ex (g := fun ν => (some (some (mI 1)), mkh ν c s))
      exact ⟨1, M, ν, hx, hm, (hI2.same hν).le (by omega)⟩
    · obtain ⟨M, ⟨hM, t0, t3, t4, tc, th⟩, hx⟩ := x_X11_go (c := c) (s := s) (p := (μ 82 5 % 8).toNat) hI hN (by omega) hh hv.2 hs
      obtain ⟨hr, e34⟩ := stl_view (p := (μ 82 5 % 8).toNat) hM (by omega)
      have e120 := hr 120 (by omega)
      have e6 := hr 6 (by omega)
      have e7 := hr 7 (by omega)
      have e8 := hr 8 (by omega)
      have e10 := hr 10 (by omega)
      obtain ⟨ν, ⟨hν, hK, n120⟩, hm⟩ := (x_X12_go (μ := stl M (μ 82 5 % 8).toNat) (c := c) (s := s) (stl_land hI.land hM (by omega)) (h := h) (to := a1) (by rw [e6]; exact hh) (g_cell_row e6 hv.2) (by rw [e120, s4]; exact sd) (g_cell_row e6 (by rw [e120, hat]; exact hc)) (by rw [e120, hhd]; exact hH h) (by rw [e34, u4]; exact u1) (by simp only [g_w, g_st]; rw [g_steps_rows e6 e7 e8, e120, hat, hhd, s4, e6, e10]; exact hs)).ex (g := fun ν => (some (some (mI 0)), mkh ν c s))
      rw [e120, hr 131 (by omega), e34, u4] at hK
      rw [e120] at n120
      refine ⟨0, _, ν, hx, hm, act_inv (M := M) hI hN (rst_mJ hM) (p := (μ 82 5 % 8).toNat) (by omega) (mL_mM hν) ?_ hK (act_last (by omega) hI.last hM hν)⟩
      unfold SC
      dsimp only
      rw [t0, t3, t4]
      have n1 : ∀ k, ¬ k = 518 + h → ν 120 k = μ 120 k := fun k hk => by rw [n120, fs_ne hk]
      have hT := hI.took
      have hc1 := g_cell_b hI.land hv.2
      refine ⟨sd, by have := hI.scene.2.1; omega, by have := hI.scene.2.2.1; omega, ?_, fun z => ?_, ?_, fun j hj => ?_, fun j hj => ?_, fun j hj => ?_, s10, fun j hj => ?_, s12⟩
      · rw [n1 _ (by omega)]; exact s4
      · rw [n1 _ (by omega)]; exact hI.scene.2.2.2.2.1 z
      · rw [n1 _ (by omega)]; exact s6
      · rw [tc j hj]
        split
        · omega
        · exact hC j
      · rw [th j hj]; exact hH j
      · rw [tc j (by omega), th j (by omega)]
        refine ⟨?_, ?_⟩
        · by_cases e : j = h
          · subst e
            rw [if_pos rfl, n120, show 517 + (1 + j) = 518 + j by omega, fs_eq]
          · rw [if_neg e, n1 _ (by omega), show 517 + (1 + j) = 518 + j by omega]
            exact (s9 j hj).1
        · rw [n1 _ (by omega), show 517 + (9 + j) = 526 + j by omega]
          exact (s9 j hj).2
      · rw [tc j (by omega)]
        split
        · exact hv.2.2
        · exact s11 j hj
  · exact ⟨-1, μ, _, i_X11_go hI.land h0 h1 hv, i_X12_go hI.land h0 h1 hv, (hI.set rfl).le (by omega)⟩
