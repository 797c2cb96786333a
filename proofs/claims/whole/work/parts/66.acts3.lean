variable {N : Int}
/-! ===== printed by wip/whole/gen66.py: pairs: trade, day ===== -/
/-- the scene's rows of the model behind one change, and the trial's: SC by its parts -/
theorem SC_mk {N : Int} {L sc cl hd m : Nat → Int} (h1 : 0 ≤ sc 0 ∧ sc 0 ≤ 29) (h2 : -1 ≤ sc 3 ∧ sc 3 ≤ 99) (h3 : 0 ≤ sc 4 ∧ sc 4 ≤ 600 * N) (h4 : m 0 = sc 0) (h5 : ¬ sc 3 = -1 → m 17 = sc 3) (h6 : m 18 = sc 4) (h7 : ∀ j, j < 8 → (0 ≤ cl j ∧ cl j ≤ 99)) (h8 : ∀ j, j < 8 → (0 ≤ hd j ∧ hd j ≤ 99)) (h9 : ∀ j : Nat, (j : Int) < L 13 → m (1 + j) = cl j ∧ m (9 + j) = hd j) (h10 : sc 3 = -1 ↔ L 14 = -1) (h11 : ∀ j : Nat, (j : Int) < L 13 → (cl j).tmod 10 < L 8 ∧ (cl j).tdiv 10 < L 9) (h12 : sc 3 = -1 ∨ ((sc 3).tmod 10 < L 8 ∧ (sc 3).tdiv 10 < L 9)) : SC N L sc cl hd m := ⟨h1, h2, h3, h4, h5, h6, h7, h8, h9, h10, h11, h12⟩
set_option maxHeartbeats 4000000 in
theorem x_X11_trade_1 {μ : Nat → Nat → Int} {c s : Nat} (hI : Inv N μ) (hN : 0 ≤ N ∧ N ≤ 511) {p : Nat} (hp : (p : Int) = μ 82 5 % 8) {h : Nat} {n : Int} (hh : (h : Int) < μ 6 13) (hn : 1 ≤ n ∧ n ≤ 99) (hs : ¬ 99 < μ 16 h + n) : ∃ M, (rst M = rst μ ∧ M 83 0 = μ 14 0 ∧ M 83 3 = μ 14 3 ∧ M 83 4 = μ 14 4 ∧ (∀ j, j < 8 → M 84 j = μ 15 j) ∧ (∀ j, j < 8 → M 85 j = if j = h then μ 16 h + n else μ 16 j)) ∧ Cl PT 142 [mR 0, mI (h : Int), mI n, mI 1] (mkh μ c s) (fun r => r = (some (some (mI 0)), mkh (stl M p) c s)) := by
  have hL := hI.land
  have hS := hI.scene
  have hU := hI.undo.1
  have hL_ := hL
  obtain ⟨lc, lr, le, lm, lw, lh, lwo, lwd, q0, q1, q2, q3, q4, q8, q499, q500, lth, lG, lT, lW, -⟩ := hL_
  have hS_ := hS
  obtain ⟨sd, sw, stk, s4, s5, s6, hC, hH, -, s10, sce, swc, s13⟩ := hS_
  have hh8 : h < 8 := by omega
  have b85 := mub_85 (μ := μ) hh8
  have hHh := hH h
  have hmv := c_X0_buy (μ := mub μ) (c := c) (s := s) (h := h) (n := n) hh8 (by rw [b85]; exact hHh) hn
  rw [if_neg (show ¬ 99 < mub μ 85 h + n by rw [b85]; exact hs), if_neg (show ¬ 99 < mub μ 85 h + n by rw [b85]; exact hs)] at hmv
  have h5 : 0 ≤ (m_set (mub μ) 85 h (mub μ 85 h + n)) 82 5 ∧ (m_set (mub μ) 85 h (mub μ 85 h + n)) 82 5 ≤ 1000 := by show 0 ≤ μ 82 5 ∧ μ 82 5 ≤ 1000; omega
  have h6 : 0 ≤ (m_set (mub μ) 85 h (mub μ 85 h + n)) 82 6 ∧ (m_set (mub μ) 85 h (mub μ 85 h + n)) 82 6 ≤ 8 := by show 0 ≤ μ 82 6 ∧ μ 82 6 ≤ 8; omega
  have hp5 : (p : Int) = (m_set (mub μ) 85 h (mub μ 85 h + n)) 82 5 % 8 := hp
  refine ⟨(m_set (mub μ) 85 h (mub μ 85 h + n)), ⟨(rst_set rfl).trans rst_mub, rfl, rfl, rfl, fun j hj => mub_84 hj, fun j hj => ?_⟩, ?_⟩
  · rw [row_set_eq]
    show (if j = h then _ else mub μ 85 j) = _
    rw [mub_85 hj, b85]
  refine ⟨_, PT_142, Nat.le_of_ble_eq_true rfl, ?_⟩
  show Rn PT none kX11_trade 0 [some (mR 0), some (mI ((h : Int))), some (mI (n)), some (mI (1))] [] (mkh μ c s) _
  refine rn_aload_n (k' := 1) rfl rfl rfl ?_
  refine rn_iload_n (k' := 2) rfl rfl rfl ?_
  by_cases hq1 : 0 ≤ (h : Int) ∧ (h : Int) < μ 6 13
  · refine rn_callP (k' := 3) (y := 151) (vs := [mR 0, mI ((h : Int))]) (S' := []) (v := some (mI 1)) (h' := mkh μ c s) rfl rfl rfl (by have hz : Cl PT 151 [mR 0, mI ((h : Int))] (mkh μ c s) (fun r => r = (some (some (mI (if 0 ≤ (h : Int) ∧ (h : Int) < μ 6 13 then 1 else 0))), mkh μ c s)) := c_X11_isHerd (hL) (a := (h : Int)) (μ := μ) (c := c) (s := s); rw [if_pos hq1] at hz; exact hz) ?_
    show Rn PT none kX11_trade 3 [some (mR 0), some (mI ((h : Int))), some (mI (n)), some (mI (1))] [mI (1)] (mkh μ c s) _
    refine rn_if_eq (k' := 4) rfl rfl (fun hc2 => ?_) (fun hc2 => ?_)
    · exfalso; omega
    · skip
      refine rn_iload_n (k' := 5) rfl rfl rfl ?_
      refine rn_iconst (k' := 6) rfl rfl ?_
      refine rn_icmp_lt (k' := 7) rfl rfl (fun hc3 => ?_) (fun hc3 => ?_)
      · exfalso; omega
      · skip
        refine rn_iload_n (k' := 8) rfl rfl rfl ?_
        refine rn_bipush (k' := 9) rfl rfl ?_
        refine rn_icmp_gt (k' := 10) rfl rfl (fun hc4 => ?_) (fun hc4 => ?_)
        · exfalso; omega
        · skip
          refine rn_iload_n (k' := 11) rfl rfl rfl ?_
          refine rn_if_lt (k' := 12) rfl rfl (fun hc5 => ?_) (fun hc5 => ?_)
          · exfalso; omega
          · skip
            refine rn_iload_n (k' := 13) rfl rfl rfl ?_
            refine rn_iconst (k' := 14) rfl rfl ?_
            refine rn_icmp_le (k' := 15) rfl rfl (fun hc6 => ?_) (fun hc6 => ?_)
            · skip
              refine rn_aload_n (k' := 18) rfl rfl rfl ?_
              refine rn_getR (k' := 19) rfl rfl K0_0 (by decide) rfl R0_0_11 ?_
              refine rn_callP (k' := 20) (y := 1) (vs := [mR 82]) (S' := []) (v := none) (h' := mkh (mub μ) c s) rfl rfl rfl (c_X0_begin (μ := μ) (c := c) (s := s)) ?_
              show Rn PT none kX11_trade 20 [some (mR 0), some (mI ((h : Int))), some (mI (n)), some (mI (1))] [] (mkh (mub μ) c s) _
              refine rn_aload_n (k' := 21) rfl rfl rfl ?_
              refine rn_iload_n (k' := 22) rfl rfl rfl ?_
              refine rn_iconst (k' := 23) rfl rfl ?_
              refine rn_icmp_ne (k' := 24) rfl rfl (fun hc7 => ?_) (fun hc7 => ?_)
              · exfalso; omega
              · skip
                refine rn_aload_n (k' := 25) rfl rfl rfl ?_
                refine rn_getR (k' := 26) rfl rfl K0_0 (by decide) rfl R0_0_11 ?_
                refine rn_iload_n (k' := 27) rfl rfl rfl ?_
                refine rn_iload_n (k' := 28) rfl rfl rfl ?_
                refine rn_callP (k' := 29) (y := 7) (vs := [mR 82, mI ((h : Int)), mI (n)]) (S' := [mR 0]) (v := some (mI (0))) (h' := mkh (m_set (mub μ) 85 h (mub μ 85 h + n)) c s) rfl rfl rfl (hmv) ?_
                show Rn PT none kX11_trade 29 [some (mR 0), some (mI ((h : Int))), some (mI (n)), some (mI (1))] [mI (0), mR 0] (mkh (m_set (mub μ) 85 h (mub μ 85 h + n)) c s) _
                refine rn_goto rfl ?_
                refine rn_callP (k' := 36) (y := 150) (vs := [mR 0, mI (0)]) (S' := []) (v := some (mI (0))) (h' := mkh (stl (m_set (mub μ) 85 h (mub μ 85 h + n)) p) c s) rfl rfl rfl (c_settled_0 (μ := (m_set (mub μ) 85 h (mub μ 85 h + n))) (c := c) (s := s) (p := p) h5 h6 hp5) ?_
                show Rn PT none kX11_trade 36 [some (mR 0), some (mI ((h : Int))), some (mI (n)), some (mI (1))] [mI (0)] (mkh (stl (m_set (mub μ) 85 h (mub μ 85 h + n)) p) c s) _
                refine rn_iret rfl (Or.inl rfl) ?_
                rfl
            · exfalso; omega
  · exfalso; omega
set_option maxHeartbeats 4000000 in
theorem n_X11_trade_1 {μ : Nat → Nat → Int} {c s : Nat} (hI : Inv N μ) (hN : 0 ≤ N ∧ N ≤ 511) {p : Nat} (hp : (p : Int) = μ 82 5 % 8) {h : Nat} {n : Int} (hh : (h : Int) < μ 6 13) (hn : 1 ≤ n ∧ n ≤ 99) (hs : 99 < μ 16 h + n) : ∃ M, (rst M = rst μ) ∧ Cl PT 142 [mR 0, mI (h : Int), mI n, mI 1] (mkh μ c s) (fun r => r = (some (some (mI 3)), mkh M c s)) := by
  have hL := hI.land
  have hS := hI.scene
  have hU := hI.undo.1
  have hL_ := hL
  obtain ⟨lc, lr, le, lm, lw, lh, lwo, lwd, q0, q1, q2, q3, q4, q8, q499, q500, lth, lG, lT, lW, -⟩ := hL_
  have hS_ := hS
  obtain ⟨sd, sw, stk, s4, s5, s6, hC, hH, -, s10, sce, swc, s13⟩ := hS_
  have hh8 : h < 8 := by omega
  have b85 := mub_85 (μ := μ) hh8
  have hHh := hH h
  have hmv := c_X0_buy (μ := mub μ) (c := c) (s := s) (h := h) (n := n) hh8 (by rw [b85]; exact hHh) hn
  rw [if_pos (show 99 < mub μ 85 h + n by rw [b85]; exact hs), if_pos (show 99 < mub μ 85 h + n by rw [b85]; exact hs)] at hmv
  refine ⟨mub μ, rst_mub, ?_⟩
  refine ⟨_, PT_142, Nat.le_of_ble_eq_true rfl, ?_⟩
  show Rn PT none kX11_trade 0 [some (mR 0), some (mI ((h : Int))), some (mI (n)), some (mI (1))] [] (mkh μ c s) _
  refine rn_aload_n (k' := 1) rfl rfl rfl ?_
  refine rn_iload_n (k' := 2) rfl rfl rfl ?_
  by_cases hq1 : 0 ≤ (h : Int) ∧ (h : Int) < μ 6 13
  · refine rn_callP (k' := 3) (y := 151) (vs := [mR 0, mI ((h : Int))]) (S' := []) (v := some (mI 1)) (h' := mkh μ c s) rfl rfl rfl (by have hz : Cl PT 151 [mR 0, mI ((h : Int))] (mkh μ c s) (fun r => r = (some (some (mI (if 0 ≤ (h : Int) ∧ (h : Int) < μ 6 13 then 1 else 0))), mkh μ c s)) := c_X11_isHerd (hL) (a := (h : Int)) (μ := μ) (c := c) (s := s); rw [if_pos hq1] at hz; exact hz) ?_
    show Rn PT none kX11_trade 3 [some (mR 0), some (mI ((h : Int))), some (mI (n)), some (mI (1))] [mI (1)] (mkh μ c s) _
    refine rn_if_eq (k' := 4) rfl rfl (fun hc2 => ?_) (fun hc2 => ?_)
    · exfalso; omega
    · skip
      refine rn_iload_n (k' := 5) rfl rfl rfl ?_
      refine rn_iconst (k' := 6) rfl rfl ?_
      refine rn_icmp_lt (k' := 7) rfl rfl (fun hc3 => ?_) (fun hc3 => ?_)
      · exfalso; omega
      · skip
        refine rn_iload_n (k' := 8) rfl rfl rfl ?_
        refine rn_bipush (k' := 9) rfl rfl ?_
        refine rn_icmp_gt (k' := 10) rfl rfl (fun hc4 => ?_) (fun hc4 => ?_)
        · exfalso; omega
        · skip
          refine rn_iload_n (k' := 11) rfl rfl rfl ?_
          refine rn_if_lt (k' := 12) rfl rfl (fun hc5 => ?_) (fun hc5 => ?_)
          · exfalso; omega
          · skip
            refine rn_iload_n (k' := 13) rfl rfl rfl ?_
            refine rn_iconst (k' := 14) rfl rfl ?_
            refine rn_icmp_le (k' := 15) rfl rfl (fun hc6 => ?_) (fun hc6 => ?_)
            · skip
              refine rn_aload_n (k' := 18) rfl rfl rfl ?_
              refine rn_getR (k' := 19) rfl rfl K0_0 (by decide) rfl R0_0_11 ?_
              refine rn_callP (k' := 20) (y := 1) (vs := [mR 82]) (S' := []) (v := none) (h' := mkh (mub μ) c s) rfl rfl rfl (c_X0_begin (μ := μ) (c := c) (s := s)) ?_
              show Rn PT none kX11_trade 20 [some (mR 0), some (mI ((h : Int))), some (mI (n)), some (mI (1))] [] (mkh (mub μ) c s) _
              refine rn_aload_n (k' := 21) rfl rfl rfl ?_
              refine rn_iload_n (k' := 22) rfl rfl rfl ?_
              refine rn_iconst (k' := 23) rfl rfl ?_
              refine rn_icmp_ne (k' := 24) rfl rfl (fun hc7 => ?_) (fun hc7 => ?_)
              · exfalso; omega
              · skip
                refine rn_aload_n (k' := 25) rfl rfl rfl ?_
                refine rn_getR (k' := 26) rfl rfl K0_0 (by decide) rfl R0_0_11 ?_
                refine rn_iload_n (k' := 27) rfl rfl rfl ?_
                refine rn_iload_n (k' := 28) rfl rfl rfl ?_
                refine rn_callP (k' := 29) (y := 7) (vs := [mR 82, mI ((h : Int)), mI (n)]) (S' := [mR 0]) (v := some (mI (3))) (h' := mkh (mub μ) c s) rfl rfl rfl (hmv) ?_
                show Rn PT none kX11_trade 29 [some (mR 0), some (mI ((h : Int))), some (mI (n)), some (mI (1))] [mI (3), mR 0] (mkh (mub μ) c s) _
                refine rn_goto rfl ?_
                refine rn_callP (k' := 36) (y := 150) (vs := [mR 0, mI (3)]) (S' := []) (v := some (mI (3))) (h' := mkh (mub μ) c s) rfl rfl rfl (c_settled_n (by decide)) ?_
                show Rn PT none kX11_trade 36 [some (mR 0), some (mI ((h : Int))), some (mI (n)), some (mI (1))] [mI (3)] (mkh (mub μ) c s) _
                refine rn_iret rfl (Or.inl rfl) ?_
                rfl
            · exfalso; omega
  · exfalso; omega
set_option maxHeartbeats 4000000 in
theorem x_X11_trade_0 {μ : Nat → Nat → Int} {c s : Nat} (hI : Inv N μ) (hN : 0 ≤ N ∧ N ≤ 511) {p : Nat} (hp : (p : Int) = μ 82 5 % 8) {h : Nat} {n : Int} (hh : (h : Int) < μ 6 13) (hn : 1 ≤ n ∧ n ≤ 99) (hs : ¬ μ 16 h < n) : ∃ M, (rst M = rst μ ∧ M 83 0 = μ 14 0 ∧ M 83 3 = μ 14 3 ∧ M 83 4 = μ 14 4 ∧ (∀ j, j < 8 → M 84 j = μ 15 j) ∧ (∀ j, j < 8 → M 85 j = if j = h then μ 16 h - n else μ 16 j)) ∧ Cl PT 142 [mR 0, mI (h : Int), mI n, mI 0] (mkh μ c s) (fun r => r = (some (some (mI 0)), mkh (stl M p) c s)) := by
  have hL := hI.land
  have hS := hI.scene
  have hU := hI.undo.1
  have hL_ := hL
  obtain ⟨lc, lr, le, lm, lw, lh, lwo, lwd, q0, q1, q2, q3, q4, q8, q499, q500, lth, lG, lT, lW, -⟩ := hL_
  have hS_ := hS
  obtain ⟨sd, sw, stk, s4, s5, s6, hC, hH, -, s10, sce, swc, s13⟩ := hS_
  have hh8 : h < 8 := by omega
  have b85 := mub_85 (μ := μ) hh8
  have hHh := hH h
  have hmv := c_X0_sell (μ := mub μ) (c := c) (s := s) (h := h) (n := n) hh8 (by rw [b85]; exact hHh) hn
  rw [if_neg (show ¬ mub μ 85 h < n by rw [b85]; exact hs), if_neg (show ¬ mub μ 85 h < n by rw [b85]; exact hs)] at hmv
  have h5 : 0 ≤ (m_set (mub μ) 85 h (mub μ 85 h - n)) 82 5 ∧ (m_set (mub μ) 85 h (mub μ 85 h - n)) 82 5 ≤ 1000 := by show 0 ≤ μ 82 5 ∧ μ 82 5 ≤ 1000; omega
  have h6 : 0 ≤ (m_set (mub μ) 85 h (mub μ 85 h - n)) 82 6 ∧ (m_set (mub μ) 85 h (mub μ 85 h - n)) 82 6 ≤ 8 := by show 0 ≤ μ 82 6 ∧ μ 82 6 ≤ 8; omega
  have hp5 : (p : Int) = (m_set (mub μ) 85 h (mub μ 85 h - n)) 82 5 % 8 := hp
  refine ⟨(m_set (mub μ) 85 h (mub μ 85 h - n)), ⟨(rst_set rfl).trans rst_mub, rfl, rfl, rfl, fun j hj => mub_84 hj, fun j hj => ?_⟩, ?_⟩
  · rw [row_set_eq]
    show (if j = h then _ else mub μ 85 j) = _
    rw [mub_85 hj, b85]
  refine ⟨_, PT_142, Nat.le_of_ble_eq_true rfl, ?_⟩
  show Rn PT none kX11_trade 0 [some (mR 0), some (mI ((h : Int))), some (mI (n)), some (mI (0))] [] (mkh μ c s) _
  refine rn_aload_n (k' := 1) rfl rfl rfl ?_
  refine rn_iload_n (k' := 2) rfl rfl rfl ?_
  by_cases hq1 : 0 ≤ (h : Int) ∧ (h : Int) < μ 6 13
  · refine rn_callP (k' := 3) (y := 151) (vs := [mR 0, mI ((h : Int))]) (S' := []) (v := some (mI 1)) (h' := mkh μ c s) rfl rfl rfl (by have hz : Cl PT 151 [mR 0, mI ((h : Int))] (mkh μ c s) (fun r => r = (some (some (mI (if 0 ≤ (h : Int) ∧ (h : Int) < μ 6 13 then 1 else 0))), mkh μ c s)) := c_X11_isHerd (hL) (a := (h : Int)) (μ := μ) (c := c) (s := s); rw [if_pos hq1] at hz; exact hz) ?_
    show Rn PT none kX11_trade 3 [some (mR 0), some (mI ((h : Int))), some (mI (n)), some (mI (0))] [mI (1)] (mkh μ c s) _
    refine rn_if_eq (k' := 4) rfl rfl (fun hc2 => ?_) (fun hc2 => ?_)
    · exfalso; omega
    · skip
      refine rn_iload_n (k' := 5) rfl rfl rfl ?_
      refine rn_iconst (k' := 6) rfl rfl ?_
      refine rn_icmp_lt (k' := 7) rfl rfl (fun hc3 => ?_) (fun hc3 => ?_)
      · exfalso; omega
      · skip
        refine rn_iload_n (k' := 8) rfl rfl rfl ?_
        refine rn_bipush (k' := 9) rfl rfl ?_
        refine rn_icmp_gt (k' := 10) rfl rfl (fun hc4 => ?_) (fun hc4 => ?_)
        · exfalso; omega
        · skip
          refine rn_iload_n (k' := 11) rfl rfl rfl ?_
          refine rn_if_lt (k' := 12) rfl rfl (fun hc5 => ?_) (fun hc5 => ?_)
          · exfalso; omega
          · skip
            refine rn_iload_n (k' := 13) rfl rfl rfl ?_
            refine rn_iconst (k' := 14) rfl rfl ?_
            refine rn_icmp_le (k' := 15) rfl rfl (fun hc6 => ?_) (fun hc6 => ?_)
            · skip
              refine rn_aload_n (k' := 18) rfl rfl rfl ?_
              refine rn_getR (k' := 19) rfl rfl K0_0 (by decide) rfl R0_0_11 ?_
              refine rn_callP (k' := 20) (y := 1) (vs := [mR 82]) (S' := []) (v := none) (h' := mkh (mub μ) c s) rfl rfl rfl (c_X0_begin (μ := μ) (c := c) (s := s)) ?_
              show Rn PT none kX11_trade 20 [some (mR 0), some (mI ((h : Int))), some (mI (n)), some (mI (0))] [] (mkh (mub μ) c s) _
              refine rn_aload_n (k' := 21) rfl rfl rfl ?_
              refine rn_iload_n (k' := 22) rfl rfl rfl ?_
              refine rn_iconst (k' := 23) rfl rfl ?_
              refine rn_icmp_ne (k' := 24) rfl rfl (fun hc7 => ?_) (fun hc7 => ?_)
              · skip
                refine rn_aload_n (k' := 31) rfl rfl rfl ?_
                refine rn_getR (k' := 32) rfl rfl K0_0 (by decide) rfl R0_0_11 ?_
                refine rn_iload_n (k' := 33) rfl rfl rfl ?_
                refine rn_iload_n (k' := 34) rfl rfl rfl ?_
                refine rn_callP (k' := 35) (y := 6) (vs := [mR 82, mI ((h : Int)), mI (n)]) (S' := [mR 0]) (v := some (mI (0))) (h' := mkh (m_set (mub μ) 85 h (mub μ 85 h - n)) c s) rfl rfl rfl (hmv) ?_
                show Rn PT none kX11_trade 35 [some (mR 0), some (mI ((h : Int))), some (mI (n)), some (mI (0))] [mI (0), mR 0] (mkh (m_set (mub μ) 85 h (mub μ 85 h - n)) c s) _
                refine rn_callP (k' := 36) (y := 150) (vs := [mR 0, mI (0)]) (S' := []) (v := some (mI (0))) (h' := mkh (stl (m_set (mub μ) 85 h (mub μ 85 h - n)) p) c s) rfl rfl rfl (c_settled_0 (μ := (m_set (mub μ) 85 h (mub μ 85 h - n))) (c := c) (s := s) (p := p) h5 h6 hp5) ?_
                show Rn PT none kX11_trade 36 [some (mR 0), some (mI ((h : Int))), some (mI (n)), some (mI (0))] [mI (0)] (mkh (stl (m_set (mub μ) 85 h (mub μ 85 h - n)) p) c s) _
                refine rn_iret rfl (Or.inl rfl) ?_
                rfl
              · exfalso; omega
            · exfalso; omega
  · exfalso; omega
set_option maxHeartbeats 4000000 in
theorem n_X11_trade_0 {μ : Nat → Nat → Int} {c s : Nat} (hI : Inv N μ) (hN : 0 ≤ N ∧ N ≤ 511) {p : Nat} (hp : (p : Int) = μ 82 5 % 8) {h : Nat} {n : Int} (hh : (h : Int) < μ 6 13) (hn : 1 ≤ n ∧ n ≤ 99) (hs : μ 16 h < n) : ∃ M, (rst M = rst μ) ∧ Cl PT 142 [mR 0, mI (h : Int), mI n, mI 0] (mkh μ c s) (fun r => r = (some (some (mI 2)), mkh M c s)) := by
  have hL := hI.land
  have hS := hI.scene
  have hU := hI.undo.1
  have hL_ := hL
  obtain ⟨lc, lr, le, lm, lw, lh, lwo, lwd, q0, q1, q2, q3, q4, q8, q499, q500, lth, lG, lT, lW, -⟩ := hL_
  have hS_ := hS
  obtain ⟨sd, sw, stk, s4, s5, s6, hC, hH, -, s10, sce, swc, s13⟩ := hS_
  have hh8 : h < 8 := by omega
  have b85 := mub_85 (μ := μ) hh8
  have hHh := hH h
  have hmv := c_X0_sell (μ := mub μ) (c := c) (s := s) (h := h) (n := n) hh8 (by rw [b85]; exact hHh) hn
  rw [if_pos (show mub μ 85 h < n by rw [b85]; exact hs), if_pos (show mub μ 85 h < n by rw [b85]; exact hs)] at hmv
  refine ⟨mub μ, rst_mub, ?_⟩
  refine ⟨_, PT_142, Nat.le_of_ble_eq_true rfl, ?_⟩
  show Rn PT none kX11_trade 0 [some (mR 0), some (mI ((h : Int))), some (mI (n)), some (mI (0))] [] (mkh μ c s) _
  refine rn_aload_n (k' := 1) rfl rfl rfl ?_
  refine rn_iload_n (k' := 2) rfl rfl rfl ?_
  by_cases hq1 : 0 ≤ (h : Int) ∧ (h : Int) < μ 6 13
  · refine rn_callP (k' := 3) (y := 151) (vs := [mR 0, mI ((h : Int))]) (S' := []) (v := some (mI 1)) (h' := mkh μ c s) rfl rfl rfl (by have hz : Cl PT 151 [mR 0, mI ((h : Int))] (mkh μ c s) (fun r => r = (some (some (mI (if 0 ≤ (h : Int) ∧ (h : Int) < μ 6 13 then 1 else 0))), mkh μ c s)) := c_X11_isHerd (hL) (a := (h : Int)) (μ := μ) (c := c) (s := s); rw [if_pos hq1] at hz; exact hz) ?_
    show Rn PT none kX11_trade 3 [some (mR 0), some (mI ((h : Int))), some (mI (n)), some (mI (0))] [mI (1)] (mkh μ c s) _
    refine rn_if_eq (k' := 4) rfl rfl (fun hc2 => ?_) (fun hc2 => ?_)
    · exfalso; omega
    · skip
      refine rn_iload_n (k' := 5) rfl rfl rfl ?_
      refine rn_iconst (k' := 6) rfl rfl ?_
      refine rn_icmp_lt (k' := 7) rfl rfl (fun hc3 => ?_) (fun hc3 => ?_)
      · exfalso; omega
      · skip
        refine rn_iload_n (k' := 8) rfl rfl rfl ?_
        refine rn_bipush (k' := 9) rfl rfl ?_
        refine rn_icmp_gt (k' := 10) rfl rfl (fun hc4 => ?_) (fun hc4 => ?_)
        · exfalso; omega
        · skip
          refine rn_iload_n (k' := 11) rfl rfl rfl ?_
          refine rn_if_lt (k' := 12) rfl rfl (fun hc5 => ?_) (fun hc5 => ?_)
          · exfalso; omega
          · skip
            refine rn_iload_n (k' := 13) rfl rfl rfl ?_
            refine rn_iconst (k' := 14) rfl rfl ?_
            refine rn_icmp_le (k' := 15) rfl rfl (fun hc6 => ?_) (fun hc6 => ?_)
            · skip
              refine rn_aload_n (k' := 18) rfl rfl rfl ?_
              refine rn_getR (k' := 19) rfl rfl K0_0 (by decide) rfl R0_0_11 ?_
              refine rn_callP (k' := 20) (y := 1) (vs := [mR 82]) (S' := []) (v := none) (h' := mkh (mub μ) c s) rfl rfl rfl (c_X0_begin (μ := μ) (c := c) (s := s)) ?_
              show Rn PT none kX11_trade 20 [some (mR 0), some (mI ((h : Int))), some (mI (n)), some (mI (0))] [] (mkh (mub μ) c s) _
              refine rn_aload_n (k' := 21) rfl rfl rfl ?_
              refine rn_iload_n (k' := 22) rfl rfl rfl ?_
              refine rn_iconst (k' := 23) rfl rfl ?_
              refine rn_icmp_ne (k' := 24) rfl rfl (fun hc7 => ?_) (fun hc7 => ?_)
              · skip
                refine rn_aload_n (k' := 31) rfl rfl rfl ?_
                refine rn_getR (k' := 32) rfl rfl K0_0 (by decide) rfl R0_0_11 ?_
                refine rn_iload_n (k' := 33) rfl rfl rfl ?_
                refine rn_iload_n (k' := 34) rfl rfl rfl ?_
                refine rn_callP (k' := 35) (y := 6) (vs := [mR 82, mI ((h : Int)), mI (n)]) (S' := [mR 0]) (v := some (mI (2))) (h' := mkh (mub μ) c s) rfl rfl rfl (hmv) ?_
                show Rn PT none kX11_trade 35 [some (mR 0), some (mI ((h : Int))), some (mI (n)), some (mI (0))] [mI (2), mR 0] (mkh (mub μ) c s) _
                refine rn_callP (k' := 36) (y := 150) (vs := [mR 0, mI (2)]) (S' := []) (v := some (mI (2))) (h' := mkh (mub μ) c s) rfl rfl rfl (c_settled_n (by decide)) ?_
                show Rn PT none kX11_trade 36 [some (mR 0), some (mI ((h : Int))), some (mI (n)), some (mI (0))] [mI (2)] (mkh (mub μ) c s) _
                refine rn_iret rfl (Or.inl rfl) ?_
                rfl
              · exfalso; omega
            · exfalso; omega
  · exfalso; omega
theorem i_X11_trade {μ : Nat → Nat → Int} {c s : Nat} (hL : I_land μ) {a0 a1 a2 : Int} (h0 : i32 a0) (h1 : i32 a1) (h2 : i32 a2) (hv : ¬ ((0 ≤ a0 ∧ a0 < μ 6 13) ∧ (1 ≤ a1 ∧ a1 ≤ 99) ∧ 0 ≤ a2 ∧ a2 ≤ 1)) : Cl PT 142 [mR 0, mI a0, mI a1, mI a2] (mkh μ c s) (fun r => r = (some (some (mI (-1))), mkh μ c s)) := by
  have hL_ := hL
  obtain ⟨lc, lr, le, lm, lw, lh, lwo, lwd, q0, q1, q2, q3, q4, q8, q499, q500, lth, lG, lT, lW, -⟩ := hL_
  refine ⟨_, PT_142, Nat.le_of_ble_eq_true rfl, ?_⟩
  show Rn PT none kX11_trade 0 [some (mR 0), some (mI (a0)), some (mI (a1)), some (mI (a2))] [] (mkh μ c s) _
  refine rn_aload_n (k' := 1) rfl rfl rfl ?_
  refine rn_iload_n (k' := 2) rfl rfl rfl ?_
  by_cases hq1 : 0 ≤ a0 ∧ a0 < μ 6 13
  · refine rn_callP (k' := 3) (y := 151) (vs := [mR 0, mI (a0)]) (S' := []) (v := some (mI 1)) (h' := mkh μ c s) rfl rfl rfl (by have hz : Cl PT 151 [mR 0, mI (a0)] (mkh μ c s) (fun r => r = (some (some (mI (if 0 ≤ a0 ∧ a0 < μ 6 13 then 1 else 0))), mkh μ c s)) := c_X11_isHerd (hL) (a := a0) (μ := μ) (c := c) (s := s); rw [if_pos hq1] at hz; exact hz) ?_
    show Rn PT none kX11_trade 3 [some (mR 0), some (mI (a0)), some (mI (a1)), some (mI (a2))] [mI (1)] (mkh μ c s) _
    refine rn_if_eq (k' := 4) rfl rfl (fun hc2 => ?_) (fun hc2 => ?_)
    · exfalso; omega
    · skip
      refine rn_iload_n (k' := 5) rfl rfl rfl ?_
      refine rn_iconst (k' := 6) rfl rfl ?_
      refine rn_icmp_lt (k' := 7) rfl rfl (fun hc3 => ?_) (fun hc3 => ?_)
      · skip
        refine rn_iconst (k' := 16) rfl rfl ?_
        refine rn_iret rfl (Or.inl rfl) ?_
        rfl
      · skip
        refine rn_iload_n (k' := 8) rfl rfl rfl ?_
        refine rn_bipush (k' := 9) rfl rfl ?_
        refine rn_icmp_gt (k' := 10) rfl rfl (fun hc4 => ?_) (fun hc4 => ?_)
        · skip
          refine rn_iconst (k' := 16) rfl rfl ?_
          refine rn_iret rfl (Or.inl rfl) ?_
          rfl
        · skip
          refine rn_iload_n (k' := 11) rfl rfl rfl ?_
          refine rn_if_lt (k' := 12) rfl rfl (fun hc5 => ?_) (fun hc5 => ?_)
          · skip
            refine rn_iconst (k' := 16) rfl rfl ?_
            refine rn_iret rfl (Or.inl rfl) ?_
            rfl
          · skip
            refine rn_iload_n (k' := 13) rfl rfl rfl ?_
            refine rn_iconst (k' := 14) rfl rfl ?_
            refine rn_icmp_le (k' := 15) rfl rfl (fun hc6 => ?_) (fun hc6 => ?_)
            · skip
              refine rn_aload_n (k' := 18) rfl rfl rfl ?_
              refine rn_getR (k' := 19) rfl rfl K0_0 (by decide) rfl R0_0_11 ?_
              exfalso; omega
            · skip
              refine rn_iconst (k' := 16) rfl rfl ?_
              refine rn_iret rfl (Or.inl rfl) ?_
              rfl
  · refine rn_callP (k' := 3) (y := 151) (vs := [mR 0, mI (a0)]) (S' := []) (v := some (mI 0)) (h' := mkh μ c s) rfl rfl rfl (by have hz : Cl PT 151 [mR 0, mI (a0)] (mkh μ c s) (fun r => r = (some (some (mI (if 0 ≤ a0 ∧ a0 < μ 6 13 then 1 else 0))), mkh μ c s)) := c_X11_isHerd (hL) (a := a0) (μ := μ) (c := c) (s := s); rw [if_neg hq1] at hz; exact hz) ?_
    show Rn PT none kX11_trade 3 [some (mR 0), some (mI (a0)), some (mI (a1)), some (mI (a2))] [mI (0)] (mkh μ c s) _
    refine rn_if_eq (k' := 4) rfl rfl (fun hc7 => ?_) (fun hc7 => ?_)
    · skip
      refine rn_iconst (k' := 16) rfl rfl ?_
      refine rn_iret rfl (Or.inl rfl) ?_
      rfl
    · exfalso; omega
theorem i_X12_trade {μ : Nat → Nat → Int} {c s : Nat} (hL : I_land μ) {a0 a1 a2 : Int} (h0 : i32 a0) (h1 : i32 a1) (h2 : i32 a2) (hv : ¬ ((0 ≤ a0 ∧ a0 < μ 6 13) ∧ (1 ≤ a1 ∧ a1 ≤ 99) ∧ 0 ≤ a2 ∧ a2 ≤ 1)) : Cl PT 243 [mR 118, mI a0, mI a1, mI a2] (mkh μ c s) (fun r => r = (some (some (mI (-1))), mkh (m_set μ 118 0 0) c s)) := by
  have hL_ := hL
  obtain ⟨lc, lr, le, lm, lw, lh, lwo, lwd, q0, q1, q2, q3, q4, q8, q499, q500, lth, lG, lT, lW, -⟩ := hL_
  refine ⟨_, PT_243, Nat.le_of_ble_eq_true rfl, ?_⟩
  show Rn PT none kX12_trade 0 [some (mR 118), some (mI (a0)), some (mI (a1)), some (mI (a2)), none] [] (mkh μ c s) _
  refine rn_aload_n (k' := 1) rfl rfl rfl ?_
  refine rn_iconst (k' := 2) rfl rfl ?_
  refine rn_putI (k' := 3) rfl rfl K0_118 (by decide) rfl ?_
  refine rn_aload_n (k' := 4) rfl rfl rfl ?_
  refine rn_iload_n (k' := 5) rfl rfl rfl ?_
  by_cases hq2 : 0 ≤ a0 ∧ a0 < μ 6 13
  · refine rn_callP (k' := 6) (y := 193) (vs := [mR 118, mI (a0)]) (S' := []) (v := some (mI 1)) (h' := mkh (m_set μ 118 0 (0)) c s) rfl rfl rfl (by have hz : Cl PT 193 [mR 118, mI (a0)] (mkh (m_set μ 118 0 (0)) c s) (fun r => r = (some (some (mI (if 0 ≤ a0 ∧ a0 < μ 6 13 then 1 else 0))), mkh (m_set μ 118 0 (0)) c s)) := c_X12_isHerd ((hL).set rfl) (a := a0) (μ := (m_set μ 118 0 (0))) (c := c) (s := s); rw [if_pos hq2] at hz; exact hz) ?_
    show Rn PT none kX12_trade 6 [some (mR 118), some (mI (a0)), some (mI (a1)), some (mI (a2)), none] [mI (1)] (mkh (m_set μ 118 0 (0)) c s) _
    refine rn_if_eq (k' := 7) rfl rfl (fun hc3 => ?_) (fun hc3 => ?_)
    · exfalso; omega
    · skip
      refine rn_iload_n (k' := 8) rfl rfl rfl ?_
      refine rn_iconst (k' := 9) rfl rfl ?_
      refine rn_bipush (k' := 10) rfl rfl ?_
      by_cases hq4 : 1 ≤ a1 ∧ a1 ≤ 99
      · refine rn_callP (k' := 11) (y := 167) (vs := [mI (a1), mI (1), mI (99)]) (S' := []) (v := some (mI 1)) (h' := mkh (m_set μ 118 0 (0)) c s) rfl rfl rfl (by have hz : Cl PT 167 [mI (a1), mI (1), mI (99)] (mkh (m_set μ 118 0 (0)) c s) (fun r => r = (some (some (mI (if 1 ≤ a1 ∧ a1 ≤ 99 then 1 else 0))), mkh (m_set μ 118 0 (0)) c s)) := c_X12_isIn (v := a1) (lo := 1) (hi := 99) (μ := (m_set μ 118 0 (0))) (c := c) (s := s); rw [if_pos hq4] at hz; exact hz) ?_
        show Rn PT none kX12_trade 11 [some (mR 118), some (mI (a0)), some (mI (a1)), some (mI (a2)), none] [mI (1)] (mkh (m_set μ 118 0 (0)) c s) _
        refine rn_if_eq (k' := 12) rfl rfl (fun hc5 => ?_) (fun hc5 => ?_)
        · exfalso; omega
        · skip
          refine rn_iload_n (k' := 13) rfl rfl rfl ?_
          refine rn_iconst (k' := 14) rfl rfl ?_
          refine rn_iconst (k' := 15) rfl rfl ?_
          by_cases hq6 : 0 ≤ a2 ∧ a2 ≤ 1
          · refine rn_callP (k' := 16) (y := 167) (vs := [mI (a2), mI (0), mI (1)]) (S' := []) (v := some (mI 1)) (h' := mkh (m_set μ 118 0 (0)) c s) rfl rfl rfl (by have hz : Cl PT 167 [mI (a2), mI (0), mI (1)] (mkh (m_set μ 118 0 (0)) c s) (fun r => r = (some (some (mI (if 0 ≤ a2 ∧ a2 ≤ 1 then 1 else 0))), mkh (m_set μ 118 0 (0)) c s)) := c_X12_isIn (v := a2) (lo := 0) (hi := 1) (μ := (m_set μ 118 0 (0))) (c := c) (s := s); rw [if_pos hq6] at hz; exact hz) ?_
            show Rn PT none kX12_trade 16 [some (mR 118), some (mI (a0)), some (mI (a1)), some (mI (a2)), none] [mI (1)] (mkh (m_set μ 118 0 (0)) c s) _
            refine rn_if_ne (k' := 17) rfl rfl (fun hc7 => ?_) (fun hc7 => ?_)
            · skip
              refine rn_aload_n (k' := 20) rfl rfl rfl ?_
              refine rn_iload_n (k' := 21) rfl rfl rfl ?_
              refine rn_iload_n (k' := 22) rfl rfl rfl ?_
              refine rn_iload_n (k' := 23) rfl rfl rfl ?_
              exfalso; omega
            · exfalso; omega
          · refine rn_callP (k' := 16) (y := 167) (vs := [mI (a2), mI (0), mI (1)]) (S' := []) (v := some (mI 0)) (h' := mkh (m_set μ 118 0 (0)) c s) rfl rfl rfl (by have hz : Cl PT 167 [mI (a2), mI (0), mI (1)] (mkh (m_set μ 118 0 (0)) c s) (fun r => r = (some (some (mI (if 0 ≤ a2 ∧ a2 ≤ 1 then 1 else 0))), mkh (m_set μ 118 0 (0)) c s)) := c_X12_isIn (v := a2) (lo := 0) (hi := 1) (μ := (m_set μ 118 0 (0))) (c := c) (s := s); rw [if_neg hq6] at hz; exact hz) ?_
            show Rn PT none kX12_trade 16 [some (mR 118), some (mI (a0)), some (mI (a1)), some (mI (a2)), none] [mI (0)] (mkh (m_set μ 118 0 (0)) c s) _
            refine rn_if_ne (k' := 17) rfl rfl (fun hc8 => ?_) (fun hc8 => ?_)
            · exfalso; omega
            · skip
              refine rn_iconst (k' := 18) rfl rfl ?_
              refine rn_iret rfl (Or.inl rfl) ?_
              rfl
      · refine rn_callP (k' := 11) (y := 167) (vs := [mI (a1), mI (1), mI (99)]) (S' := []) (v := some (mI 0)) (h' := mkh (m_set μ 118 0 (0)) c s) rfl rfl rfl (by have hz : Cl PT 167 [mI (a1), mI (1), mI (99)] (mkh (m_set μ 118 0 (0)) c s) (fun r => r = (some (some (mI (if 1 ≤ a1 ∧ a1 ≤ 99 then 1 else 0))), mkh (m_set μ 118 0 (0)) c s)) := c_X12_isIn (v := a1) (lo := 1) (hi := 99) (μ := (m_set μ 118 0 (0))) (c := c) (s := s); rw [if_neg hq4] at hz; exact hz) ?_
        show Rn PT none kX12_trade 11 [some (mR 118), some (mI (a0)), some (mI (a1)), some (mI (a2)), none] [mI (0)] (mkh (m_set μ 118 0 (0)) c s) _
        refine rn_if_eq (k' := 12) rfl rfl (fun hc9 => ?_) (fun hc9 => ?_)
        · skip
          refine rn_iconst (k' := 18) rfl rfl ?_
          refine rn_iret rfl (Or.inl rfl) ?_
          rfl
        · exfalso; omega
  · refine rn_callP (k' := 6) (y := 193) (vs := [mR 118, mI (a0)]) (S' := []) (v := some (mI 0)) (h' := mkh (m_set μ 118 0 (0)) c s) rfl rfl rfl (by have hz : Cl PT 193 [mR 118, mI (a0)] (mkh (m_set μ 118 0 (0)) c s) (fun r => r = (some (some (mI (if 0 ≤ a0 ∧ a0 < μ 6 13 then 1 else 0))), mkh (m_set μ 118 0 (0)) c s)) := c_X12_isHerd ((hL).set rfl) (a := a0) (μ := (m_set μ 118 0 (0))) (c := c) (s := s); rw [if_neg hq2] at hz; exact hz) ?_
    show Rn PT none kX12_trade 6 [some (mR 118), some (mI (a0)), some (mI (a1)), some (mI (a2)), none] [mI (0)] (mkh (m_set μ 118 0 (0)) c s) _
    refine rn_if_eq (k' := 7) rfl rfl (fun hc10 => ?_) (fun hc10 => ?_)
    · skip
      refine rn_iconst (k' := 18) rfl rfl ?_
      refine rn_iret rfl (Or.inl rfl) ?_
      rfl
    · exfalso; omega
theorem c_why1_1 {μ : Nat → Nat → Int} {c s : Nat} {h : Nat} {n : Int} (hh : h < 8) (he : 0 ≤ μ 120 (526 + h) ∧ μ 120 (526 + h) ≤ 99) (hn : 1 ≤ n ∧ n ≤ 99) (hs : ¬ 99 < μ 120 (526 + h) + n) : Cl PT 242 [mR 118, mI (h : Int), mI n, mI 1] (mkh μ c s) (fun r => r = (some (some (mI 0)), mkh μ c s)) := by
  refine ⟨_, PT_242, Nat.le_of_ble_eq_true rfl, ?_⟩
  show Rn PT none kX12_whyTrade 0 [some (mR 118), some (mI ((h : Int))), some (mI (n)), some (mI (1))] [] (mkh μ c s) _
  refine rn_iload_n (k' := 1) rfl rfl rfl ?_
  refine rn_if_ne (k' := 2) rfl rfl (fun hc1 => ?_) (fun hc1 => ?_)
  · skip
    refine rn_aload_n (k' := 15) rfl rfl rfl ?_
    refine rn_getR (k' := 16) rfl rfl K0_118 (by decide) rfl R0_118_6 ?_
    refine rn_sipush (k' := 17) rfl rfl ?_
    refine rn_iload_n (k' := 18) rfl rfl rfl ?_
    refine rn_iadd (k' := 19) rfl rfl (by omega) ?_
    refine rn_iaload (k' := 20) rfl rfl K0_120 (by omega) (by omega) ?_
    show Rn PT none kX12_whyTrade 20 [some (mR 118), some (mI ((h : Int))), some (mI (n)), some (mI (1))] [mI (μ 120 (526 + h))] (mkh μ c s) _
    refine rn_iload_n (k' := 21) rfl rfl rfl ?_
    refine rn_iadd (k' := 22) rfl rfl (by omega) ?_
    refine rn_bipush (k' := 23) rfl rfl ?_
    refine rn_icmp_le (k' := 24) rfl rfl (fun hc2 => ?_) (fun hc2 => ?_)
    · skip
      refine rn_iconst (k' := 27) rfl rfl ?_
      refine rn_iret rfl (Or.inl rfl) ?_
      rfl
    · exfalso; omega
  · exfalso; omega
set_option maxHeartbeats 4000000 in
theorem x_X12_trade_1 {μ : Nat → Nat → Int} {c s : Nat} (hL : I_land μ) {h : Nat} {n : Int} (hh : (h : Int) < μ 6 13) (hn : 1 ≤ n ∧ n ≤ 99) (he : 0 ≤ μ 120 (526 + h) ∧ μ 120 (526 + h) ≤ 99) (h34 : 0 ≤ μ 118 34 ∧ μ 118 34 ≤ 8) (hs : ¬ 99 < μ 120 (526 + h) + n) : Cl PT 243 [mR 118, mI (h : Int), mI n, mI 1] (mkh μ c s) (fun r => ∃ ν, r = (some (some (mI 0)), mkh ν c s) ∧ rm kL ν = rm kL μ ∧ KR (μ 120) (μ 131) (μ 118 34) (ν 131) (ν 118 34) ∧ ν 120 = fs (μ 120) (526 + h) (μ 120 (526 + h) + n)) := by
  have hL_ := hL
  obtain ⟨lc, lr, le, lm, lw, lh, lwo, lwd, q0, q1, q2, q3, q4, q8, q499, q500, lth, lG, lT, lW, -⟩ := hL_
  refine ⟨_, PT_243, Nat.le_of_ble_eq_true rfl, ?_⟩
  show Rn PT none kX12_trade 0 [some (mR 118), some (mI ((h : Int))), some (mI (n)), some (mI (1)), none] [] (mkh μ c s) _
  refine rn_aload_n (k' := 1) rfl rfl rfl ?_
  refine rn_iconst (k' := 2) rfl rfl ?_
  refine rn_putI (k' := 3) rfl rfl K0_118 (by decide) rfl ?_
  refine rn_aload_n (k' := 4) rfl rfl rfl ?_
  refine rn_iload_n (k' := 5) rfl rfl rfl ?_
  by_cases hq2 : 0 ≤ (h : Int) ∧ (h : Int) < μ 6 13
  · refine rn_callP (k' := 6) (y := 193) (vs := [mR 118, mI ((h : Int))]) (S' := []) (v := some (mI 1)) (h' := mkh (m_set μ 118 0 (0)) c s) rfl rfl rfl (by have hz : Cl PT 193 [mR 118, mI ((h : Int))] (mkh (m_set μ 118 0 (0)) c s) (fun r => r = (some (some (mI (if 0 ≤ (h : Int) ∧ (h : Int) < μ 6 13 then 1 else 0))), mkh (m_set μ 118 0 (0)) c s)) := c_X12_isHerd ((hL).set rfl) (a := (h : Int)) (μ := (m_set μ 118 0 (0))) (c := c) (s := s); rw [if_pos hq2] at hz; exact hz) ?_
    show Rn PT none kX12_trade 6 [some (mR 118), some (mI ((h : Int))), some (mI (n)), some (mI (1)), none] [mI (1)] (mkh (m_set μ 118 0 (0)) c s) _
    refine rn_if_eq (k' := 7) rfl rfl (fun hc3 => ?_) (fun hc3 => ?_)
    · exfalso; omega
    · skip
      refine rn_iload_n (k' := 8) rfl rfl rfl ?_
      refine rn_iconst (k' := 9) rfl rfl ?_
      refine rn_bipush (k' := 10) rfl rfl ?_
      by_cases hq4 : 1 ≤ n ∧ n ≤ 99
      · refine rn_callP (k' := 11) (y := 167) (vs := [mI (n), mI (1), mI (99)]) (S' := []) (v := some (mI 1)) (h' := mkh (m_set μ 118 0 (0)) c s) rfl rfl rfl (by have hz : Cl PT 167 [mI (n), mI (1), mI (99)] (mkh (m_set μ 118 0 (0)) c s) (fun r => r = (some (some (mI (if 1 ≤ n ∧ n ≤ 99 then 1 else 0))), mkh (m_set μ 118 0 (0)) c s)) := c_X12_isIn (v := n) (lo := 1) (hi := 99) (μ := (m_set μ 118 0 (0))) (c := c) (s := s); rw [if_pos hq4] at hz; exact hz) ?_
        show Rn PT none kX12_trade 11 [some (mR 118), some (mI ((h : Int))), some (mI (n)), some (mI (1)), none] [mI (1)] (mkh (m_set μ 118 0 (0)) c s) _
        refine rn_if_eq (k' := 12) rfl rfl (fun hc5 => ?_) (fun hc5 => ?_)
        · exfalso; omega
        · skip
          refine rn_iload_n (k' := 13) rfl rfl rfl ?_
          refine rn_iconst (k' := 14) rfl rfl ?_
          refine rn_iconst (k' := 15) rfl rfl ?_
          by_cases hq6 : 0 ≤ 1 ∧ 1 ≤ 1
          · refine rn_callP (k' := 16) (y := 167) (vs := [mI (1), mI (0), mI (1)]) (S' := []) (v := some (mI 1)) (h' := mkh (m_set μ 118 0 (0)) c s) rfl rfl rfl (by have hz : Cl PT 167 [mI (1), mI (0), mI (1)] (mkh (m_set μ 118 0 (0)) c s) (fun r => r = (some (some (mI (if 0 ≤ 1 ∧ 1 ≤ 1 then 1 else 0))), mkh (m_set μ 118 0 (0)) c s)) := c_X12_isIn (v := 1) (lo := 0) (hi := 1) (μ := (m_set μ 118 0 (0))) (c := c) (s := s); rw [if_pos hq6] at hz; exact hz) ?_
            show Rn PT none kX12_trade 16 [some (mR 118), some (mI ((h : Int))), some (mI (n)), some (mI (1)), none] [mI (1)] (mkh (m_set μ 118 0 (0)) c s) _
            refine rn_if_ne (k' := 17) rfl rfl (fun hc7 => ?_) (fun hc7 => ?_)
            · skip
              refine rn_aload_n (k' := 20) rfl rfl rfl ?_
              refine rn_iload_n (k' := 21) rfl rfl rfl ?_
              refine rn_iload_n (k' := 22) rfl rfl rfl ?_
              refine rn_iload_n (k' := 23) rfl rfl rfl ?_
              refine rn_callP (k' := 24) (y := 242) (vs := [mR 118, mI ((h : Int)), mI (n), mI (1)]) (S' := []) (v := some (mI (0))) (h' := mkh (m_set μ 118 0 (0)) c s) rfl rfl rfl (c_why1_1 (μ := (m_set μ 118 0 (0))) (c := c) (s := s) (h := h) (n := n) (by omega) he hn hs) ?_
              show Rn PT none kX12_trade 24 [some (mR 118), some (mI ((h : Int))), some (mI (n)), some (mI (1)), none] [mI (0)] (mkh (m_set μ 118 0 (0)) c s) _
              refine rn_istore (k' := 25) (L' := [some (mR 118), some (mI ((h : Int))), some (mI (n)), some (mI (1)), some (mI (0))]) rfl rfl (Nat.le_of_ble_eq_true rfl) rfl ?_
              refine rn_iload (k' := 26) rfl rfl rfl ?_
              refine rn_if_le (k' := 27) rfl rfl (fun hc8 => ?_) (fun hc8 => ?_)
              · skip
                refine rn_aload_n (k' := 30) rfl rfl rfl ?_
                obtain ⟨U, V, hK, hcl9⟩ := c_keep (μ := (m_set μ 118 0 (0))) (c := c) (s := s) (by show 0 ≤ μ 118 34 ∧ μ 118 34 ≤ 8; omega)
                have hK2 : KR (μ 120) (μ 131) (μ 118 34) U V := hK
                refine rn_callP (k' := 31) (y := 238) (vs := [mR 118]) (S' := []) (v := none) (h' := mkh (m_set (m_upd (m_set μ 118 0 (0)) 131 U) 118 34 (V)) c s) rfl rfl rfl (hcl9) ?_
                show Rn PT none kX12_trade 31 [some (mR 118), some (mI ((h : Int))), some (mI (n)), some (mI (1)), some (mI (0))] [] (mkh (m_set (m_upd (m_set μ 118 0 (0)) 131 U) 118 34 (V)) c s) _
                refine rn_aload_n (k' := 32) rfl rfl rfl ?_
                refine rn_getR (k' := 33) rfl rfl K0_118 (by decide) rfl R0_118_6 ?_
                refine rn_sipush (k' := 34) rfl rfl ?_
                refine rn_iload_n (k' := 35) rfl rfl rfl ?_
                refine rn_iadd (k' := 36) rfl rfl (by omega) ?_
                refine rn_dup2 (k' := 37) rfl rfl ?_
                refine rn_iaload (k' := 38) rfl rfl K0_120 (by omega) (by omega) ?_
                show Rn PT none kX12_trade 38 [some (mR 118), some (mI ((h : Int))), some (mI (n)), some (mI (1)), some (mI (0))] [mI (μ 120 (526 + h)), mI (526 + (h : Int)), mR 120] (mkh (m_set (m_upd (m_set μ 118 0 (0)) 131 U) 118 34 (V)) c s) _
                refine rn_iload_n (k' := 39) rfl rfl rfl ?_
                refine rn_iconst (k' := 40) rfl rfl ?_
                refine rn_icmp_ne (k' := 41) rfl rfl (fun hc10 => ?_) (fun hc10 => ?_)
                · exfalso; omega
                · skip
                  refine rn_iload_n (k' := 42) rfl rfl rfl ?_
                  refine rn_goto rfl ?_
                  refine rn_iadd (k' := 46) rfl rfl (by omega) ?_
                  refine rn_iastore (k' := 47) rfl rfl K0_120 (by omega) (by omega) ?_
                  refine rn_iconst (k' := 48) rfl rfl ?_
                  refine rn_iret rfl (Or.inl rfl) ?_
                  refine ⟨(m_set (m_set (m_upd (m_set μ 118 0 (0)) 131 U) 118 34 (V)) 120 (526 + h) ((μ 120 (526 + h)) + n)), rfl, ((rm_set (kL_120f (by omega))).trans ((rm_set rfl).trans ((rm_upd0 (fun _ => rfl)).trans (rm_set rfl)))), hK2, ?_⟩
                  rw [row_set_eq]
                  rfl
              · exfalso; omega
            · exfalso; omega
          · exfalso; omega
      · exfalso; omega
  · exfalso; omega
theorem c_why1_0 {μ : Nat → Nat → Int} {c s : Nat} {h : Nat} {n : Int} (hh : h < 8) (he : 0 ≤ μ 120 (526 + h) ∧ μ 120 (526 + h) ≤ 99) (hn : 1 ≤ n ∧ n ≤ 99) (hs : 99 < μ 120 (526 + h) + n) : Cl PT 242 [mR 118, mI (h : Int), mI n, mI 1] (mkh μ c s) (fun r => r = (some (some (mI 3)), mkh μ c s)) := by
  refine ⟨_, PT_242, Nat.le_of_ble_eq_true rfl, ?_⟩
  show Rn PT none kX12_whyTrade 0 [some (mR 118), some (mI ((h : Int))), some (mI (n)), some (mI (1))] [] (mkh μ c s) _
  refine rn_iload_n (k' := 1) rfl rfl rfl ?_
  refine rn_if_ne (k' := 2) rfl rfl (fun hc1 => ?_) (fun hc1 => ?_)
  · skip
    refine rn_aload_n (k' := 15) rfl rfl rfl ?_
    refine rn_getR (k' := 16) rfl rfl K0_118 (by decide) rfl R0_118_6 ?_
    refine rn_sipush (k' := 17) rfl rfl ?_
    refine rn_iload_n (k' := 18) rfl rfl rfl ?_
    refine rn_iadd (k' := 19) rfl rfl (by omega) ?_
    refine rn_iaload (k' := 20) rfl rfl K0_120 (by omega) (by omega) ?_
    show Rn PT none kX12_whyTrade 20 [some (mR 118), some (mI ((h : Int))), some (mI (n)), some (mI (1))] [mI (μ 120 (526 + h))] (mkh μ c s) _
    refine rn_iload_n (k' := 21) rfl rfl rfl ?_
    refine rn_iadd (k' := 22) rfl rfl (by omega) ?_
    refine rn_bipush (k' := 23) rfl rfl ?_
    refine rn_icmp_le (k' := 24) rfl rfl (fun hc2 => ?_) (fun hc2 => ?_)
    · exfalso; omega
    · skip
      refine rn_iconst (k' := 25) rfl rfl ?_
      refine rn_goto rfl ?_
      refine rn_iret rfl (Or.inl rfl) ?_
      rfl
  · exfalso; omega
set_option maxHeartbeats 4000000 in
theorem n_X12_trade_1 {μ : Nat → Nat → Int} {c s : Nat} (hL : I_land μ) {h : Nat} {n : Int} (hh : (h : Int) < μ 6 13) (hn : 1 ≤ n ∧ n ≤ 99) (he : 0 ≤ μ 120 (526 + h) ∧ μ 120 (526 + h) ≤ 99) (h34 : 0 ≤ μ 118 34 ∧ μ 118 34 ≤ 8) (hs : 99 < μ 120 (526 + h) + n) : Cl PT 243 [mR 118, mI (h : Int), mI n, mI 1] (mkh μ c s) (fun r => ∃ μ1, r = (some (some (mI 3)), mkh μ1 c s) ∧ rst μ1 = rst μ) := by
  have hL_ := hL
  obtain ⟨lc, lr, le, lm, lw, lh, lwo, lwd, q0, q1, q2, q3, q4, q8, q499, q500, lth, lG, lT, lW, -⟩ := hL_
  refine ⟨_, PT_243, Nat.le_of_ble_eq_true rfl, ?_⟩
  show Rn PT none kX12_trade 0 [some (mR 118), some (mI ((h : Int))), some (mI (n)), some (mI (1)), none] [] (mkh μ c s) _
  refine rn_aload_n (k' := 1) rfl rfl rfl ?_
  refine rn_iconst (k' := 2) rfl rfl ?_
  refine rn_putI (k' := 3) rfl rfl K0_118 (by decide) rfl ?_
  refine rn_aload_n (k' := 4) rfl rfl rfl ?_
  refine rn_iload_n (k' := 5) rfl rfl rfl ?_
  by_cases hq2 : 0 ≤ (h : Int) ∧ (h : Int) < μ 6 13
  · refine rn_callP (k' := 6) (y := 193) (vs := [mR 118, mI ((h : Int))]) (S' := []) (v := some (mI 1)) (h' := mkh (m_set μ 118 0 (0)) c s) rfl rfl rfl (by have hz : Cl PT 193 [mR 118, mI ((h : Int))] (mkh (m_set μ 118 0 (0)) c s) (fun r => r = (some (some (mI (if 0 ≤ (h : Int) ∧ (h : Int) < μ 6 13 then 1 else 0))), mkh (m_set μ 118 0 (0)) c s)) := c_X12_isHerd ((hL).set rfl) (a := (h : Int)) (μ := (m_set μ 118 0 (0))) (c := c) (s := s); rw [if_pos hq2] at hz; exact hz) ?_
    show Rn PT none kX12_trade 6 [some (mR 118), some (mI ((h : Int))), some (mI (n)), some (mI (1)), none] [mI (1)] (mkh (m_set μ 118 0 (0)) c s) _
    refine rn_if_eq (k' := 7) rfl rfl (fun hc3 => ?_) (fun hc3 => ?_)
    · exfalso; omega
    · skip
      refine rn_iload_n (k' := 8) rfl rfl rfl ?_
      refine rn_iconst (k' := 9) rfl rfl ?_
      refine rn_bipush (k' := 10) rfl rfl ?_
      by_cases hq4 : 1 ≤ n ∧ n ≤ 99
      · refine rn_callP (k' := 11) (y := 167) (vs := [mI (n), mI (1), mI (99)]) (S' := []) (v := some (mI 1)) (h' := mkh (m_set μ 118 0 (0)) c s) rfl rfl rfl (by have hz : Cl PT 167 [mI (n), mI (1), mI (99)] (mkh (m_set μ 118 0 (0)) c s) (fun r => r = (some (some (mI (if 1 ≤ n ∧ n ≤ 99 then 1 else 0))), mkh (m_set μ 118 0 (0)) c s)) := c_X12_isIn (v := n) (lo := 1) (hi := 99) (μ := (m_set μ 118 0 (0))) (c := c) (s := s); rw [if_pos hq4] at hz; exact hz) ?_
        show Rn PT none kX12_trade 11 [some (mR 118), some (mI ((h : Int))), some (mI (n)), some (mI (1)), none] [mI (1)] (mkh (m_set μ 118 0 (0)) c s) _
        refine rn_if_eq (k' := 12) rfl rfl (fun hc5 => ?_) (fun hc5 => ?_)
        · exfalso; omega
        · skip
          refine rn_iload_n (k' := 13) rfl rfl rfl ?_
          refine rn_iconst (k' := 14) rfl rfl ?_
          refine rn_iconst (k' := 15) rfl rfl ?_
          by_cases hq6 : 0 ≤ 1 ∧ 1 ≤ 1
          · refine rn_callP (k' := 16) (y := 167) (vs := [mI (1), mI (0), mI (1)]) (S' := []) (v := some (mI 1)) (h' := mkh (m_set μ 118 0 (0)) c s) rfl rfl rfl (by have hz : Cl PT 167 [mI (1), mI (0), mI (1)] (mkh (m_set μ 118 0 (0)) c s) (fun r => r = (some (some (mI (if 0 ≤ 1 ∧ 1 ≤ 1 then 1 else 0))), mkh (m_set μ 118 0 (0)) c s)) := c_X12_isIn (v := 1) (lo := 0) (hi := 1) (μ := (m_set μ 118 0 (0))) (c := c) (s := s); rw [if_pos hq6] at hz; exact hz) ?_
            show Rn PT none kX12_trade 16 [some (mR 118), some (mI ((h : Int))), some (mI (n)), some (mI (1)), none] [mI (1)] (mkh (m_set μ 118 0 (0)) c s) _
            refine rn_if_ne (k' := 17) rfl rfl (fun hc7 => ?_) (fun hc7 => ?_)
            · skip
              refine rn_aload_n (k' := 20) rfl rfl rfl ?_
              refine rn_iload_n (k' := 21) rfl rfl rfl ?_
              refine rn_iload_n (k' := 22) rfl rfl rfl ?_
              refine rn_iload_n (k' := 23) rfl rfl rfl ?_
              refine rn_callP (k' := 24) (y := 242) (vs := [mR 118, mI ((h : Int)), mI (n), mI (1)]) (S' := []) (v := some (mI (3))) (h' := mkh (m_set μ 118 0 (0)) c s) rfl rfl rfl (c_why1_0 (μ := (m_set μ 118 0 (0))) (c := c) (s := s) (h := h) (n := n) (by omega) he hn hs) ?_
              show Rn PT none kX12_trade 24 [some (mR 118), some (mI ((h : Int))), some (mI (n)), some (mI (1)), none] [mI (3)] (mkh (m_set μ 118 0 (0)) c s) _
              refine rn_istore (k' := 25) (L' := [some (mR 118), some (mI ((h : Int))), some (mI (n)), some (mI (1)), some (mI (3))]) rfl rfl (Nat.le_of_ble_eq_true rfl) rfl ?_
              refine rn_iload (k' := 26) rfl rfl rfl ?_
              refine rn_if_le (k' := 27) rfl rfl (fun hc8 => ?_) (fun hc8 => ?_)
              · exfalso; omega
              · skip
                refine rn_iload (k' := 28) rfl rfl rfl ?_
                refine rn_iret rfl (Or.inl rfl) ?_
                exact ⟨(m_set μ 118 0 (0)), rfl, (rst_set (a := 118) (j := 0) rfl)⟩
            · exfalso; omega
          · exfalso; omega
      · exfalso; omega
  · exfalso; omega
theorem c_why0_1 {μ : Nat → Nat → Int} {c s : Nat} {h : Nat} {n : Int} (hh : h < 8) (he : 0 ≤ μ 120 (526 + h) ∧ μ 120 (526 + h) ≤ 99) (hn : 1 ≤ n ∧ n ≤ 99) (hs : ¬ μ 120 (526 + h) < n) : Cl PT 242 [mR 118, mI (h : Int), mI n, mI 0] (mkh μ c s) (fun r => r = (some (some (mI 0)), mkh μ c s)) := by
  refine ⟨_, PT_242, Nat.le_of_ble_eq_true rfl, ?_⟩
  show Rn PT none kX12_whyTrade 0 [some (mR 118), some (mI ((h : Int))), some (mI (n)), some (mI (0))] [] (mkh μ c s) _
  refine rn_iload_n (k' := 1) rfl rfl rfl ?_
  refine rn_if_ne (k' := 2) rfl rfl (fun hc1 => ?_) (fun hc1 => ?_)
  · exfalso; omega
  · skip
    refine rn_aload_n (k' := 3) rfl rfl rfl ?_
    refine rn_getR (k' := 4) rfl rfl K0_118 (by decide) rfl R0_118_6 ?_
    refine rn_sipush (k' := 5) rfl rfl ?_
    refine rn_iload_n (k' := 6) rfl rfl rfl ?_
    refine rn_iadd (k' := 7) rfl rfl (by omega) ?_
    refine rn_iaload (k' := 8) rfl rfl K0_120 (by omega) (by omega) ?_
    show Rn PT none kX12_whyTrade 8 [some (mR 118), some (mI ((h : Int))), some (mI (n)), some (mI (0))] [mI (μ 120 (526 + h))] (mkh μ c s) _
    refine rn_iload_n (k' := 9) rfl rfl rfl ?_
    refine rn_icmp_ge (k' := 10) rfl rfl (fun hc2 => ?_) (fun hc2 => ?_)
    · skip
      refine rn_iconst (k' := 13) rfl rfl ?_
      refine rn_goto rfl ?_
      refine rn_iret rfl (Or.inl rfl) ?_
      rfl
    · exfalso; omega
set_option maxHeartbeats 4000000 in
theorem x_X12_trade_0 {μ : Nat → Nat → Int} {c s : Nat} (hL : I_land μ) {h : Nat} {n : Int} (hh : (h : Int) < μ 6 13) (hn : 1 ≤ n ∧ n ≤ 99) (he : 0 ≤ μ 120 (526 + h) ∧ μ 120 (526 + h) ≤ 99) (h34 : 0 ≤ μ 118 34 ∧ μ 118 34 ≤ 8) (hs : ¬ μ 120 (526 + h) < n) : Cl PT 243 [mR 118, mI (h : Int), mI n, mI 0] (mkh μ c s) (fun r => ∃ ν, r = (some (some (mI 0)), mkh ν c s) ∧ rm kL ν = rm kL μ ∧ KR (μ 120) (μ 131) (μ 118 34) (ν 131) (ν 118 34) ∧ ν 120 = fs (μ 120) (526 + h) (μ 120 (526 + h) + -n)) := by
  have hL_ := hL
  obtain ⟨lc, lr, le, lm, lw, lh, lwo, lwd, q0, q1, q2, q3, q4, q8, q499, q500, lth, lG, lT, lW, -⟩ := hL_
  refine ⟨_, PT_243, Nat.le_of_ble_eq_true rfl, ?_⟩
  show Rn PT none kX12_trade 0 [some (mR 118), some (mI ((h : Int))), some (mI (n)), some (mI (0)), none] [] (mkh μ c s) _
  refine rn_aload_n (k' := 1) rfl rfl rfl ?_
  refine rn_iconst (k' := 2) rfl rfl ?_
  refine rn_putI (k' := 3) rfl rfl K0_118 (by decide) rfl ?_
  refine rn_aload_n (k' := 4) rfl rfl rfl ?_
  refine rn_iload_n (k' := 5) rfl rfl rfl ?_
  by_cases hq2 : 0 ≤ (h : Int) ∧ (h : Int) < μ 6 13
  · refine rn_callP (k' := 6) (y := 193) (vs := [mR 118, mI ((h : Int))]) (S' := []) (v := some (mI 1)) (h' := mkh (m_set μ 118 0 (0)) c s) rfl rfl rfl (by have hz : Cl PT 193 [mR 118, mI ((h : Int))] (mkh (m_set μ 118 0 (0)) c s) (fun r => r = (some (some (mI (if 0 ≤ (h : Int) ∧ (h : Int) < μ 6 13 then 1 else 0))), mkh (m_set μ 118 0 (0)) c s)) := c_X12_isHerd ((hL).set rfl) (a := (h : Int)) (μ := (m_set μ 118 0 (0))) (c := c) (s := s); rw [if_pos hq2] at hz; exact hz) ?_
    show Rn PT none kX12_trade 6 [some (mR 118), some (mI ((h : Int))), some (mI (n)), some (mI (0)), none] [mI (1)] (mkh (m_set μ 118 0 (0)) c s) _
    refine rn_if_eq (k' := 7) rfl rfl (fun hc3 => ?_) (fun hc3 => ?_)
    · exfalso; omega
    · skip
      refine rn_iload_n (k' := 8) rfl rfl rfl ?_
      refine rn_iconst (k' := 9) rfl rfl ?_
      refine rn_bipush (k' := 10) rfl rfl ?_
      by_cases hq4 : 1 ≤ n ∧ n ≤ 99
      · refine rn_callP (k' := 11) (y := 167) (vs := [mI (n), mI (1), mI (99)]) (S' := []) (v := some (mI 1)) (h' := mkh (m_set μ 118 0 (0)) c s) rfl rfl rfl (by have hz : Cl PT 167 [mI (n), mI (1), mI (99)] (mkh (m_set μ 118 0 (0)) c s) (fun r => r = (some (some (mI (if 1 ≤ n ∧ n ≤ 99 then 1 else 0))), mkh (m_set μ 118 0 (0)) c s)) := c_X12_isIn (v := n) (lo := 1) (hi := 99) (μ := (m_set μ 118 0 (0))) (c := c) (s := s); rw [if_pos hq4] at hz; exact hz) ?_
        show Rn PT none kX12_trade 11 [some (mR 118), some (mI ((h : Int))), some (mI (n)), some (mI (0)), none] [mI (1)] (mkh (m_set μ 118 0 (0)) c s) _
        refine rn_if_eq (k' := 12) rfl rfl (fun hc5 => ?_) (fun hc5 => ?_)
        · exfalso; omega
        · skip
          refine rn_iload_n (k' := 13) rfl rfl rfl ?_
          refine rn_iconst (k' := 14) rfl rfl ?_
          refine rn_iconst (k' := 15) rfl rfl ?_
          by_cases hq6 : 0 ≤ 0 ∧ 0 ≤ 1
          · refine rn_callP (k' := 16) (y := 167) (vs := [mI (0), mI (0), mI (1)]) (S' := []) (v := some (mI 1)) (h' := mkh (m_set μ 118 0 (0)) c s) rfl rfl rfl (by have hz : Cl PT 167 [mI (0), mI (0), mI (1)] (mkh (m_set μ 118 0 (0)) c s) (fun r => r = (some (some (mI (if 0 ≤ 0 ∧ 0 ≤ 1 then 1 else 0))), mkh (m_set μ 118 0 (0)) c s)) := c_X12_isIn (v := 0) (lo := 0) (hi := 1) (μ := (m_set μ 118 0 (0))) (c := c) (s := s); rw [if_pos hq6] at hz; exact hz) ?_
            show Rn PT none kX12_trade 16 [some (mR 118), some (mI ((h : Int))), some (mI (n)), some (mI (0)), none] [mI (1)] (mkh (m_set μ 118 0 (0)) c s) _
            refine rn_if_ne (k' := 17) rfl rfl (fun hc7 => ?_) (fun hc7 => ?_)
            · skip
              refine rn_aload_n (k' := 20) rfl rfl rfl ?_
              refine rn_iload_n (k' := 21) rfl rfl rfl ?_
              refine rn_iload_n (k' := 22) rfl rfl rfl ?_
              refine rn_iload_n (k' := 23) rfl rfl rfl ?_
              refine rn_callP (k' := 24) (y := 242) (vs := [mR 118, mI ((h : Int)), mI (n), mI (0)]) (S' := []) (v := some (mI (0))) (h' := mkh (m_set μ 118 0 (0)) c s) rfl rfl rfl (c_why0_1 (μ := (m_set μ 118 0 (0))) (c := c) (s := s) (h := h) (n := n) (by omega) he hn hs) ?_
              show Rn PT none kX12_trade 24 [some (mR 118), some (mI ((h : Int))), some (mI (n)), some (mI (0)), none] [mI (0)] (mkh (m_set μ 118 0 (0)) c s) _
              refine rn_istore (k' := 25) (L' := [some (mR 118), some (mI ((h : Int))), some (mI (n)), some (mI (0)), some (mI (0))]) rfl rfl (Nat.le_of_ble_eq_true rfl) rfl ?_
              refine rn_iload (k' := 26) rfl rfl rfl ?_
              refine rn_if_le (k' := 27) rfl rfl (fun hc8 => ?_) (fun hc8 => ?_)
              · skip
                refine rn_aload_n (k' := 30) rfl rfl rfl ?_
                obtain ⟨U, V, hK, hcl9⟩ := c_keep (μ := (m_set μ 118 0 (0))) (c := c) (s := s) (by show 0 ≤ μ 118 34 ∧ μ 118 34 ≤ 8; omega)
                have hK2 : KR (μ 120) (μ 131) (μ 118 34) U V := hK
                refine rn_callP (k' := 31) (y := 238) (vs := [mR 118]) (S' := []) (v := none) (h' := mkh (m_set (m_upd (m_set μ 118 0 (0)) 131 U) 118 34 (V)) c s) rfl rfl rfl (hcl9) ?_
                show Rn PT none kX12_trade 31 [some (mR 118), some (mI ((h : Int))), some (mI (n)), some (mI (0)), some (mI (0))] [] (mkh (m_set (m_upd (m_set μ 118 0 (0)) 131 U) 118 34 (V)) c s) _
                refine rn_aload_n (k' := 32) rfl rfl rfl ?_
                refine rn_getR (k' := 33) rfl rfl K0_118 (by decide) rfl R0_118_6 ?_
                refine rn_sipush (k' := 34) rfl rfl ?_
                refine rn_iload_n (k' := 35) rfl rfl rfl ?_
                refine rn_iadd (k' := 36) rfl rfl (by omega) ?_
                refine rn_dup2 (k' := 37) rfl rfl ?_
                refine rn_iaload (k' := 38) rfl rfl K0_120 (by omega) (by omega) ?_
                show Rn PT none kX12_trade 38 [some (mR 118), some (mI ((h : Int))), some (mI (n)), some (mI (0)), some (mI (0))] [mI (μ 120 (526 + h)), mI (526 + (h : Int)), mR 120] (mkh (m_set (m_upd (m_set μ 118 0 (0)) 131 U) 118 34 (V)) c s) _
                refine rn_iload_n (k' := 39) rfl rfl rfl ?_
                refine rn_iconst (k' := 40) rfl rfl ?_
                refine rn_icmp_ne (k' := 41) rfl rfl (fun hc10 => ?_) (fun hc10 => ?_)
                · skip
                  refine rn_iload_n (k' := 44) rfl rfl rfl ?_
                  refine rn_ineg (k' := 45) rfl rfl (by omega) ?_
                  refine rn_iadd (k' := 46) rfl rfl (by omega) ?_
                  refine rn_iastore (k' := 47) rfl rfl K0_120 (by omega) (by omega) ?_
                  refine rn_iconst (k' := 48) rfl rfl ?_
                  refine rn_iret rfl (Or.inl rfl) ?_
                  refine ⟨(m_set (m_set (m_upd (m_set μ 118 0 (0)) 131 U) 118 34 (V)) 120 (526 + h) ((μ 120 (526 + h)) + (-(n)))), rfl, ((rm_set (kL_120f (by omega))).trans ((rm_set rfl).trans ((rm_upd0 (fun _ => rfl)).trans (rm_set rfl)))), hK2, ?_⟩
                  rw [row_set_eq]
                  rfl
                · exfalso; omega
              · exfalso; omega
            · exfalso; omega
          · exfalso; omega
      · exfalso; omega
  · exfalso; omega
theorem c_why0_0 {μ : Nat → Nat → Int} {c s : Nat} {h : Nat} {n : Int} (hh : h < 8) (he : 0 ≤ μ 120 (526 + h) ∧ μ 120 (526 + h) ≤ 99) (hn : 1 ≤ n ∧ n ≤ 99) (hs : μ 120 (526 + h) < n) : Cl PT 242 [mR 118, mI (h : Int), mI n, mI 0] (mkh μ c s) (fun r => r = (some (some (mI 2)), mkh μ c s)) := by
  refine ⟨_, PT_242, Nat.le_of_ble_eq_true rfl, ?_⟩
  show Rn PT none kX12_whyTrade 0 [some (mR 118), some (mI ((h : Int))), some (mI (n)), some (mI (0))] [] (mkh μ c s) _
  refine rn_iload_n (k' := 1) rfl rfl rfl ?_
  refine rn_if_ne (k' := 2) rfl rfl (fun hc1 => ?_) (fun hc1 => ?_)
  · exfalso; omega
  · skip
    refine rn_aload_n (k' := 3) rfl rfl rfl ?_
    refine rn_getR (k' := 4) rfl rfl K0_118 (by decide) rfl R0_118_6 ?_
    refine rn_sipush (k' := 5) rfl rfl ?_
    refine rn_iload_n (k' := 6) rfl rfl rfl ?_
    refine rn_iadd (k' := 7) rfl rfl (by omega) ?_
    refine rn_iaload (k' := 8) rfl rfl K0_120 (by omega) (by omega) ?_
    show Rn PT none kX12_whyTrade 8 [some (mR 118), some (mI ((h : Int))), some (mI (n)), some (mI (0))] [mI (μ 120 (526 + h))] (mkh μ c s) _
    refine rn_iload_n (k' := 9) rfl rfl rfl ?_
    refine rn_icmp_ge (k' := 10) rfl rfl (fun hc2 => ?_) (fun hc2 => ?_)
    · exfalso; omega
    · skip
      refine rn_iconst (k' := 11) rfl rfl ?_
      refine rn_goto rfl ?_
      refine rn_iret rfl (Or.inl rfl) ?_
      rfl
set_option maxHeartbeats 4000000 in
theorem n_X12_trade_0 {μ : Nat → Nat → Int} {c s : Nat} (hL : I_land μ) {h : Nat} {n : Int} (hh : (h : Int) < μ 6 13) (hn : 1 ≤ n ∧ n ≤ 99) (he : 0 ≤ μ 120 (526 + h) ∧ μ 120 (526 + h) ≤ 99) (h34 : 0 ≤ μ 118 34 ∧ μ 118 34 ≤ 8) (hs : μ 120 (526 + h) < n) : Cl PT 243 [mR 118, mI (h : Int), mI n, mI 0] (mkh μ c s) (fun r => ∃ μ1, r = (some (some (mI 2)), mkh μ1 c s) ∧ rst μ1 = rst μ) := by
  have hL_ := hL
  obtain ⟨lc, lr, le, lm, lw, lh, lwo, lwd, q0, q1, q2, q3, q4, q8, q499, q500, lth, lG, lT, lW, -⟩ := hL_
  refine ⟨_, PT_243, Nat.le_of_ble_eq_true rfl, ?_⟩
  show Rn PT none kX12_trade 0 [some (mR 118), some (mI ((h : Int))), some (mI (n)), some (mI (0)), none] [] (mkh μ c s) _
  refine rn_aload_n (k' := 1) rfl rfl rfl ?_
  refine rn_iconst (k' := 2) rfl rfl ?_
  refine rn_putI (k' := 3) rfl rfl K0_118 (by decide) rfl ?_
  refine rn_aload_n (k' := 4) rfl rfl rfl ?_
  refine rn_iload_n (k' := 5) rfl rfl rfl ?_
  by_cases hq2 : 0 ≤ (h : Int) ∧ (h : Int) < μ 6 13
  · refine rn_callP (k' := 6) (y := 193) (vs := [mR 118, mI ((h : Int))]) (S' := []) (v := some (mI 1)) (h' := mkh (m_set μ 118 0 (0)) c s) rfl rfl rfl (by have hz : Cl PT 193 [mR 118, mI ((h : Int))] (mkh (m_set μ 118 0 (0)) c s) (fun r => r = (some (some (mI (if 0 ≤ (h : Int) ∧ (h : Int) < μ 6 13 then 1 else 0))), mkh (m_set μ 118 0 (0)) c s)) := c_X12_isHerd ((hL).set rfl) (a := (h : Int)) (μ := (m_set μ 118 0 (0))) (c := c) (s := s); rw [if_pos hq2] at hz; exact hz) ?_
    show Rn PT none kX12_trade 6 [some (mR 118), some (mI ((h : Int))), some (mI (n)), some (mI (0)), none] [mI (1)] (mkh (m_set μ 118 0 (0)) c s) _
    refine rn_if_eq (k' := 7) rfl rfl (fun hc3 => ?_) (fun hc3 => ?_)
    · exfalso; omega
    · skip
      refine rn_iload_n (k' := 8) rfl rfl rfl ?_
      refine rn_iconst (k' := 9) rfl rfl ?_
      refine rn_bipush (k' := 10) rfl rfl ?_
      by_cases hq4 : 1 ≤ n ∧ n ≤ 99
      · refine rn_callP (k' := 11) (y := 167) (vs := [mI (n), mI (1), mI (99)]) (S' := []) (v := some (mI 1)) (h' := mkh (m_set μ 118 0 (0)) c s) rfl rfl rfl (by have hz : Cl PT 167 [mI (n), mI (1), mI (99)] (mkh (m_set μ 118 0 (0)) c s) (fun r => r = (some (some (mI (if 1 ≤ n ∧ n ≤ 99 then 1 else 0))), mkh (m_set μ 118 0 (0)) c s)) := c_X12_isIn (v := n) (lo := 1) (hi := 99) (μ := (m_set μ 118 0 (0))) (c := c) (s := s); rw [if_pos hq4] at hz; exact hz) ?_
        show Rn PT none kX12_trade 11 [some (mR 118), some (mI ((h : Int))), some (mI (n)), some (mI (0)), none] [mI (1)] (mkh (m_set μ 118 0 (0)) c s) _
        refine rn_if_eq (k' := 12) rfl rfl (fun hc5 => ?_) (fun hc5 => ?_)
        · exfalso; omega
        · skip
          refine rn_iload_n (k' := 13) rfl rfl rfl ?_
          refine rn_iconst (k' := 14) rfl rfl ?_
          refine rn_iconst (k' := 15) rfl rfl ?_
          by_cases hq6 : 0 ≤ 0 ∧ 0 ≤ 1
          · refine rn_callP (k' := 16) (y := 167) (vs := [mI (0), mI (0), mI (1)]) (S' := []) (v := some (mI 1)) (h' := mkh (m_set μ 118 0 (0)) c s) rfl rfl rfl (by have hz : Cl PT 167 [mI (0), mI (0), mI (1)] (mkh (m_set μ 118 0 (0)) c s) (fun r => r = (some (some (mI (if 0 ≤ 0 ∧ 0 ≤ 1 then 1 else 0))), mkh (m_set μ 118 0 (0)) c s)) := c_X12_isIn (v := 0) (lo := 0) (hi := 1) (μ := (m_set μ 118 0 (0))) (c := c) (s := s); rw [if_pos hq6] at hz; exact hz) ?_
            show Rn PT none kX12_trade 16 [some (mR 118), some (mI ((h : Int))), some (mI (n)), some (mI (0)), none] [mI (1)] (mkh (m_set μ 118 0 (0)) c s) _
            refine rn_if_ne (k' := 17) rfl rfl (fun hc7 => ?_) (fun hc7 => ?_)
            · skip
              refine rn_aload_n (k' := 20) rfl rfl rfl ?_
              refine rn_iload_n (k' := 21) rfl rfl rfl ?_
              refine rn_iload_n (k' := 22) rfl rfl rfl ?_
              refine rn_iload_n (k' := 23) rfl rfl rfl ?_
              refine rn_callP (k' := 24) (y := 242) (vs := [mR 118, mI ((h : Int)), mI (n), mI (0)]) (S' := []) (v := some (mI (2))) (h' := mkh (m_set μ 118 0 (0)) c s) rfl rfl rfl (c_why0_0 (μ := (m_set μ 118 0 (0))) (c := c) (s := s) (h := h) (n := n) (by omega) he hn hs) ?_
              show Rn PT none kX12_trade 24 [some (mR 118), some (mI ((h : Int))), some (mI (n)), some (mI (0)), none] [mI (2)] (mkh (m_set μ 118 0 (0)) c s) _
              refine rn_istore (k' := 25) (L' := [some (mR 118), some (mI ((h : Int))), some (mI (n)), some (mI (0)), some (mI (2))]) rfl rfl (Nat.le_of_ble_eq_true rfl) rfl ?_
              refine rn_iload (k' := 26) rfl rfl rfl ?_
              refine rn_if_le (k' := 27) rfl rfl (fun hc8 => ?_) (fun hc8 => ?_)
              · exfalso; omega
              · skip
                refine rn_iload (k' := 28) rfl rfl rfl ?_
                refine rn_iret rfl (Or.inl rfl) ?_
                exact ⟨(m_set μ 118 0 (0)), rfl, (rst_set (a := 118) (j := 0) rfl)⟩
            · exfalso; omega
          · exfalso; omega
      · exfalso; omega
  · exfalso; omega
theorem pair_26 : ∀ (a0 a1 a2 : Int), i32 a0 → i32 a1 → i32 a2 → (0 ≤ N ∧ N ≤ 511) → PairJ (Inv N) (Inv (N + 1)) 142 243 [mI a0, mI a1, mI a2] := by
  intro a0 a1 a2 h0 h1 h2 hN μ c s hI
  by_cases hv : (0 ≤ a0 ∧ a0 < μ 6 13) ∧ (1 ≤ a1 ∧ a1 ≤ 99) ∧ 0 ≤ a2 ∧ a2 ≤ 1
  · obtain ⟨h, rfl⟩ := Int.eq_ofNat_of_zero_le hv.1.1
    have hh := hv.1.2
    have hn := hv.2.1
    have h8 := hI.land.2.2.2.2.2.1.2
    have hS := hI.scene
    obtain ⟨sd, -, -, s4, -, s6, hC, hH, s9, s10, s11, s12, s13⟩ := hS
    have hU := hI.undo
    obtain ⟨⟨u1, u2, u3⟩, u4, -⟩ := hU
    have hhd := (s9 h hh).2
    rcases (show a2 = 1 ∨ a2 = 0 by omega) with rfl | rfl
    · by_cases hs : ¬ 99 < μ 16 h + a1
      · obtain ⟨M, ⟨hM, t0, t3, t4, tc, th⟩, hx⟩ := x_X11_trade_1 (c := c) (s := s) (p := (μ 82 5 % 8).toNat) hI hN (by omega) hh hn hs
        obtain ⟨hr, e34⟩ := stl_view (p := (μ 82 5 % 8).toNat) hM (by omega)
        have e120 := hr 120 (by omega)
        have e6 := hr 6 (by omega)
        obtain ⟨ν, ⟨hν, hK, n120⟩, hm⟩ := (x_X12_trade_1 (μ := stl M (μ 82 5 % 8).toNat) (c := c) (s := s) (stl_land hI.land hM (by omega)) (h := h) (n := a1) (by rw [e6]; exact hh) hn (by rw [e120, hhd]; exact hH h) (by rw [e34, u4]; exact u1) (by rw [e120, hhd]; exact hs)).ex (g := fun ν => (some (some (mI 0)), mkh ν c s))
        rw [e120, hr 131 (by omega), e34, u4] at hK
        rw [e120] at n120
        refine ⟨0, _, ν, hx, hm, act_inv (M := M) hI hN (rst_mJ hM) (p := (μ 82 5 % 8).toNat) (by omega) (mL_mM hν) ?_ hK (act_last (by omega) hI.last hM hν)⟩
        have n1 : ∀ k, ¬ k = 526 + h → ν 120 k = μ 120 k := fun k hk => by rw [n120, fs_ne hk]
        have hT := hI.took
        refine SC_mk ?_ ?_ ?_ ?_ ?_ ?_ (fun j hj => ?_) (fun j hj => ?_) (fun j hj => ?_) ?_ (fun j hj => ?_) ?_
        · rw [t0]; exact sd
        · rw [t3]; exact hI.scene.2.1
        · rw [t4]; have := hI.scene.2.2.1; omega
        · rw [t0]; show ν 120 517 = _; rw [n1 _ (by omega)]; exact s4
        · rw [t3]; intro z; show ν 120 534 = _; rw [n1 _ (by omega)]; exact hI.scene.2.2.2.2.1 z
        · rw [t4]; show ν 120 535 = _; rw [n1 _ (by omega)]; exact s6
        · rw [tc j hj]; exact hC j
        · rw [th j hj]
          have := hH j
          have := hH h
          split <;> omega
        · rw [tc j (by omega), th j (by omega)]
          refine ⟨?_, ?_⟩
          · show ν 120 (517 + (1 + j)) = _
            rw [n1 _ (by omega), show 517 + (1 + j) = 518 + j by omega]
            exact (s9 j hj).1
          · show ν 120 (517 + (9 + j)) = _
            by_cases e : j = h
            · subst e
              rw [if_pos rfl, n120, show 517 + (9 + j) = 526 + j by omega, fs_eq, hhd]
            · rw [if_neg e, n1 _ (by omega), show 517 + (9 + j) = 526 + j by omega]
              exact (s9 j hj).2
        · rw [t3]; exact s10
        · rw [tc j (by omega)]; exact s11 j hj
        · rw [t3]; exact s12
      · obtain ⟨M, hM, hx⟩ := n_X11_trade_1 (c := c) (s := s) (p := (μ 82 5 % 8).toNat) hI hN (by omega) hh hn (Classical.not_not.mp hs)
        have hI2 := hI.same hM
        have e120 : M 120 = μ 120 := row_rst hM (fun _ => rfl)
        have e6 : M 6 = μ 6 := row_rst hM (fun _ => rfl)
        have e34 : M 118 34 = μ 118 34 := sup_eq hM rfl
        obtain ⟨ν, hν, hm⟩ := (n_X12_trade_1 (μ := M) (c := c) (s := s) hI2.land (h := h) (n := a1) (by rw [e6]; exact hh) hn (by rw [e120, hhd]; exact hH h) (by rw [e34, u4]; exact u1) (by rw [e120, hhd]; exact Classical.not_not.mp hs)).ex (g := fun ν => (some (some (mI 3)), mkh ν c s))
        exact ⟨3, M, ν, hx, hm, (hI2.same hν).le (by omega)⟩
    · by_cases hs : ¬ μ 16 h < a1
      · obtain ⟨M, ⟨hM, t0, t3, t4, tc, th⟩, hx⟩ := x_X11_trade_0 (c := c) (s := s) (p := (μ 82 5 % 8).toNat) hI hN (by omega) hh hn hs
        obtain ⟨hr, e34⟩ := stl_view (p := (μ 82 5 % 8).toNat) hM (by omega)
        have e120 := hr 120 (by omega)
        have e6 := hr 6 (by omega)
        obtain ⟨ν, ⟨hν, hK, n120⟩, hm⟩ := (x_X12_trade_0 (μ := stl M (μ 82 5 % 8).toNat) (c := c) (s := s) (stl_land hI.land hM (by omega)) (h := h) (n := a1) (by rw [e6]; exact hh) hn (by rw [e120, hhd]; exact hH h) (by rw [e34, u4]; exact u1) (by rw [e120, hhd]; exact hs)).ex (g := fun ν => (some (some (mI 0)), mkh ν c s))
        rw [e120, hr 131 (by omega), e34, u4] at hK
        rw [e120] at n120
        refine ⟨0, _, ν, hx, hm, act_inv (M := M) hI hN (rst_mJ hM) (p := (μ 82 5 % 8).toNat) (by omega) (mL_mM hν) ?_ hK (act_last (by omega) hI.last hM hν)⟩
        have n1 : ∀ k, ¬ k = 526 + h → ν 120 k = μ 120 k := fun k hk => by rw [n120, fs_ne hk]
        have hT := hI.took
        refine SC_mk ?_ ?_ ?_ ?_ ?_ ?_ (fun j hj => ?_) (fun j hj => ?_) (fun j hj => ?_) ?_ (fun j hj => ?_) ?_
        · rw [t0]; exact sd
        · rw [t3]; exact hI.scene.2.1
        · rw [t4]; have := hI.scene.2.2.1; omega
        · rw [t0]; show ν 120 517 = _; rw [n1 _ (by omega)]; exact s4
        · rw [t3]; intro z; show ν 120 534 = _; rw [n1 _ (by omega)]; exact hI.scene.2.2.2.2.1 z
        · rw [t4]; show ν 120 535 = _; rw [n1 _ (by omega)]; exact s6
        · rw [tc j hj]; exact hC j
        · rw [th j hj]
          have := hH j
          have := hH h
          split <;> omega
        · rw [tc j (by omega), th j (by omega)]
          refine ⟨?_, ?_⟩
          · show ν 120 (517 + (1 + j)) = _
            rw [n1 _ (by omega), show 517 + (1 + j) = 518 + j by omega]
            exact (s9 j hj).1
          · show ν 120 (517 + (9 + j)) = _
            by_cases e : j = h
            · subst e
              rw [if_pos rfl, n120, show 517 + (9 + j) = 526 + j by omega, fs_eq, hhd]; omega
            · rw [if_neg e, n1 _ (by omega), show 517 + (9 + j) = 526 + j by omega]
              exact (s9 j hj).2
        · rw [t3]; exact s10
        · rw [tc j (by omega)]; exact s11 j hj
        · rw [t3]; exact s12
      · obtain ⟨M, hM, hx⟩ := n_X11_trade_0 (c := c) (s := s) (p := (μ 82 5 % 8).toNat) hI hN (by omega) hh hn (Classical.not_not.mp hs)
        have hI2 := hI.same hM
        have e120 : M 120 = μ 120 := row_rst hM (fun _ => rfl)
        have e6 : M 6 = μ 6 := row_rst hM (fun _ => rfl)
        have e34 : M 118 34 = μ 118 34 := sup_eq hM rfl
        obtain ⟨ν, hν, hm⟩ := (n_X12_trade_0 (μ := M) (c := c) (s := s) hI2.land (h := h) (n := a1) (by rw [e6]; exact hh) hn (by rw [e120, hhd]; exact hH h) (by rw [e34, u4]; exact u1) (by rw [e120, hhd]; exact Classical.not_not.mp hs)).ex (g := fun ν => (some (some (mI 2)), mkh ν c s))
        exact ⟨2, M, ν, hx, hm, (hI2.same hν).le (by omega)⟩
  · exact ⟨-1, μ, _, i_X11_trade hI.land h0 h1 h2 hv, i_X12_trade hI.land h0 h1 h2 hv, (hI.set rfl).le (by omega)⟩
set_option maxHeartbeats 4000000 in
theorem x_X11_day {μ : Nat → Nat → Int} {c s : Nat} (hI : Inv N μ) (hN : 0 ≤ N ∧ N ≤ 511) {p : Nat} (hp : (p : Int) = μ 82 5 % 8) (hs : ¬ 29 ≤ μ 14 0) : ∃ M, (rst M = rst μ ∧ M 83 0 = μ 14 0 + 1 ∧ M 83 3 = μ 14 3 ∧ M 83 4 = μ 14 4 ∧ (∀ j, j < 8 → M 84 j = μ 15 j) ∧ (∀ j, j < 8 → M 85 j = μ 16 j)) ∧ Cl PT 143 [mR 0] (mkh μ c s) (fun r => r = (some (some (mI (μ 14 0 + 1))), mkh (stl M p) c s)) := by
  have hL := hI.land
  have hS := hI.scene
  have hU := hI.undo.1
  have hL_ := hL
  obtain ⟨lc, lr, le, lm, lw, lh, lwo, lwd, q0, q1, q2, q3, q4, q8, q499, q500, lth, lG, lT, lW, -⟩ := hL_
  have hS_ := hS
  obtain ⟨sd, sw, stk, s4, s5, s6, hC, hH, -, s10, sce, swc, s13⟩ := hS_
  have hmv := c_X0_dawn (μ := mub μ) (c := c) (s := s) sd
  rw [if_neg (show ¬ 29 ≤ mub μ 83 0 from hs), if_neg (show ¬ 29 ≤ mub μ 83 0 from hs)] at hmv
  have h5 : 0 ≤ (m_set (mub μ) 83 0 (mub μ 83 0 + 1)) 82 5 ∧ (m_set (mub μ) 83 0 (mub μ 83 0 + 1)) 82 5 ≤ 1000 := by show 0 ≤ μ 82 5 ∧ μ 82 5 ≤ 1000; omega
  have h6 : 0 ≤ (m_set (mub μ) 83 0 (mub μ 83 0 + 1)) 82 6 ∧ (m_set (mub μ) 83 0 (mub μ 83 0 + 1)) 82 6 ≤ 8 := by show 0 ≤ μ 82 6 ∧ μ 82 6 ≤ 8; omega
  have hp5 : (p : Int) = (m_set (mub μ) 83 0 (mub μ 83 0 + 1)) 82 5 % 8 := hp
  refine ⟨(m_set (mub μ) 83 0 (mub μ 83 0 + 1)), ⟨(rst_set rfl).trans rst_mub, rfl, rfl, rfl, fun j hj => mub_84 hj, fun j hj => mub_85 hj⟩, ?_⟩
  refine ⟨_, PT_143, Nat.le_of_ble_eq_true rfl, ?_⟩
  show Rn PT none kX11_day 0 [some (mR 0)] [] (mkh μ c s) _
  refine rn_aload_n (k' := 1) rfl rfl rfl ?_
  refine rn_getR (k' := 2) rfl rfl K0_0 (by decide) rfl R0_0_11 ?_
  refine rn_callP (k' := 3) (y := 1) (vs := [mR 82]) (S' := []) (v := none) (h' := mkh (mub μ) c s) rfl rfl rfl (c_X0_begin (μ := μ) (c := c) (s := s)) ?_
  show Rn PT none kX11_day 3 [some (mR 0)] [] (mkh (mub μ) c s) _
  refine rn_aload_n (k' := 4) rfl rfl rfl ?_
  refine rn_aload_n (k' := 5) rfl rfl rfl ?_
  refine rn_getR (k' := 6) rfl rfl K0_0 (by decide) rfl R0_0_11 ?_
  refine rn_callP (k' := 7) (y := 8) (vs := [mR 82]) (S' := [mR 0]) (v := some (mI (0))) (h' := mkh (m_set (mub μ) 83 0 (mub μ 83 0 + 1)) c s) rfl rfl rfl (hmv) ?_
  show Rn PT none kX11_day 7 [some (mR 0)] [mI (0), mR 0] (mkh (m_set (mub μ) 83 0 (mub μ 83 0 + 1)) c s) _
  refine rn_callP (k' := 8) (y := 150) (vs := [mR 0, mI (0)]) (S' := []) (v := some (mI (0))) (h' := mkh (stl (m_set (mub μ) 83 0 (mub μ 83 0 + 1)) p) c s) rfl rfl rfl (c_settled_0 (μ := (m_set (mub μ) 83 0 (mub μ 83 0 + 1))) (c := c) (s := s) (p := p) h5 h6 hp5) ?_
  show Rn PT none kX11_day 8 [some (mR 0)] [mI (0)] (mkh (stl (m_set (mub μ) 83 0 (mub μ 83 0 + 1)) p) c s) _
  refine rn_if_ne (k' := 9) rfl rfl (fun hc1 => ?_) (fun hc1 => ?_)
  · exfalso; omega
  · skip
    refine rn_aload_n (k' := 10) rfl rfl rfl ?_
    refine rn_getR (k' := 11) rfl rfl K0_0 (by decide) rfl R0_0_4 ?_
    refine rn_getI (k' := 12) rfl rfl K0_14 (by decide) rfl ?_
    refine rn_goto rfl ?_
    refine rn_iret rfl (Or.inl rfl) ?_
    rw [show (stl (m_set (mub μ) 83 0 (mub μ 83 0 + 1)) p) 14 0 = μ 14 0 + 1 by rw [stl_14]; rfl]
set_option maxHeartbeats 4000000 in
theorem n_X11_day {μ : Nat → Nat → Int} {c s : Nat} (hI : Inv N μ) (hN : 0 ≤ N ∧ N ≤ 511) {p : Nat} (hp : (p : Int) = μ 82 5 % 8) (hs : 29 ≤ μ 14 0) : ∃ M, (rst M = rst μ) ∧ Cl PT 143 [mR 0] (mkh μ c s) (fun r => r = (some (some (mI (-1))), mkh M c s)) := by
  have hL := hI.land
  have hS := hI.scene
  have hU := hI.undo.1
  have hL_ := hL
  obtain ⟨lc, lr, le, lm, lw, lh, lwo, lwd, q0, q1, q2, q3, q4, q8, q499, q500, lth, lG, lT, lW, -⟩ := hL_
  have hS_ := hS
  obtain ⟨sd, sw, stk, s4, s5, s6, hC, hH, -, s10, sce, swc, s13⟩ := hS_
  have hmv := c_X0_dawn (μ := mub μ) (c := c) (s := s) sd
  rw [if_pos (show 29 ≤ mub μ 83 0 from hs), if_pos (show 29 ≤ mub μ 83 0 from hs)] at hmv
  refine ⟨mub μ, rst_mub, ?_⟩
  refine ⟨_, PT_143, Nat.le_of_ble_eq_true rfl, ?_⟩
  show Rn PT none kX11_day 0 [some (mR 0)] [] (mkh μ c s) _
  refine rn_aload_n (k' := 1) rfl rfl rfl ?_
  refine rn_getR (k' := 2) rfl rfl K0_0 (by decide) rfl R0_0_11 ?_
  refine rn_callP (k' := 3) (y := 1) (vs := [mR 82]) (S' := []) (v := none) (h' := mkh (mub μ) c s) rfl rfl rfl (c_X0_begin (μ := μ) (c := c) (s := s)) ?_
  show Rn PT none kX11_day 3 [some (mR 0)] [] (mkh (mub μ) c s) _
  refine rn_aload_n (k' := 4) rfl rfl rfl ?_
  refine rn_aload_n (k' := 5) rfl rfl rfl ?_
  refine rn_getR (k' := 6) rfl rfl K0_0 (by decide) rfl R0_0_11 ?_
  refine rn_callP (k' := 7) (y := 8) (vs := [mR 82]) (S' := [mR 0]) (v := some (mI (4))) (h' := mkh (mub μ) c s) rfl rfl rfl (hmv) ?_
  show Rn PT none kX11_day 7 [some (mR 0)] [mI (4), mR 0] (mkh (mub μ) c s) _
  refine rn_callP (k' := 8) (y := 150) (vs := [mR 0, mI (4)]) (S' := []) (v := some (mI (4))) (h' := mkh (mub μ) c s) rfl rfl rfl (c_settled_n (by decide)) ?_
  show Rn PT none kX11_day 8 [some (mR 0)] [mI (4)] (mkh (mub μ) c s) _
  refine rn_if_ne (k' := 9) rfl rfl (fun hc1 => ?_) (fun hc1 => ?_)
  · skip
    refine rn_iconst (k' := 14) rfl rfl ?_
    refine rn_iret rfl (Or.inl rfl) ?_
    rfl
  · exfalso; omega
set_option maxHeartbeats 4000000 in
theorem x_X12_day {μ : Nat → Nat → Int} {c s : Nat} (hL : I_land μ) (hd : 0 ≤ μ 120 517 ∧ μ 120 517 ≤ 29) (h34 : 0 ≤ μ 118 34 ∧ μ 118 34 ≤ 8) (hs : ¬ 29 ≤ μ 120 517) : Cl PT 244 [mR 118] (mkh μ c s) (fun r => ∃ ν, r = (some (some (mI (μ 120 517 + 1))), mkh ν c s) ∧ rm kL ν = rm kL μ ∧ KR (μ 120) (μ 131) (μ 118 34) (ν 131) (ν 118 34) ∧ ν 120 = fs (μ 120) 517 (μ 120 517 + 1)) := by
  have hL_ := hL
  obtain ⟨lc, lr, le, lm, lw, lh, lwo, lwd, q0, q1, q2, q3, q4, q8, q499, q500, lth, lG, lT, lW, -⟩ := hL_
  refine ⟨_, PT_244, Nat.le_of_ble_eq_true rfl, ?_⟩
  show Rn PT none kX12_day 0 [some (mR 118)] [] (mkh μ c s) _
  refine rn_aload_n (k' := 1) rfl rfl rfl ?_
  refine rn_iconst (k' := 2) rfl rfl ?_
  refine rn_putI (k' := 3) rfl rfl K0_118 (by decide) rfl ?_
  refine rn_aload_n (k' := 4) rfl rfl rfl ?_
  refine rn_getR (k' := 5) rfl rfl K0_118 (by decide) rfl R0_118_6 ?_
  refine rn_sipush (k' := 6) rfl rfl ?_
  refine rn_iaload (k' := 7) rfl rfl K0_120 (by omega) (by omega) ?_
  show Rn PT none kX12_day 7 [some (mR 118)] [mI (μ 120 517)] (mkh (m_set μ 118 0 (0)) c s) _
  refine rn_bipush (k' := 8) rfl rfl ?_
  refine rn_icmp_ne (k' := 9) rfl rfl (fun hc2 => ?_) (fun hc2 => ?_)
  · skip
    refine rn_aload_n (k' := 12) rfl rfl rfl ?_
    obtain ⟨U, V, hK, hcl3⟩ := c_keep (μ := (m_set μ 118 0 (0))) (c := c) (s := s) (by show 0 ≤ μ 118 34 ∧ μ 118 34 ≤ 8; omega)
    have hK2 : KR (μ 120) (μ 131) (μ 118 34) U V := hK
    refine rn_callP (k' := 13) (y := 238) (vs := [mR 118]) (S' := []) (v := none) (h' := mkh (m_set (m_upd (m_set μ 118 0 (0)) 131 U) 118 34 (V)) c s) rfl rfl rfl (hcl3) ?_
    show Rn PT none kX12_day 13 [some (mR 118)] [] (mkh (m_set (m_upd (m_set μ 118 0 (0)) 131 U) 118 34 (V)) c s) _
    refine rn_aload_n (k' := 14) rfl rfl rfl ?_
    refine rn_getR (k' := 15) rfl rfl K0_118 (by decide) rfl R0_118_6 ?_
    refine rn_sipush (k' := 16) rfl rfl ?_
    refine rn_dup2 (k' := 17) rfl rfl ?_
    refine rn_iaload (k' := 18) rfl rfl K0_120 (by omega) (by omega) ?_
    show Rn PT none kX12_day 18 [some (mR 118)] [mI (μ 120 517), mI (517), mR 120] (mkh (m_set (m_upd (m_set μ 118 0 (0)) 131 U) 118 34 (V)) c s) _
    refine rn_iconst (k' := 19) rfl rfl ?_
    refine rn_iadd (k' := 20) rfl rfl (by omega) ?_
    refine rn_iastore (k' := 21) rfl rfl K0_120 (by omega) (by omega) ?_
    refine rn_aload_n (k' := 22) rfl rfl rfl ?_
    refine rn_getR (k' := 23) rfl rfl K0_118 (by decide) rfl R0_118_6 ?_
    refine rn_sipush (k' := 24) rfl rfl ?_
    refine rn_iaload (k' := 25) rfl rfl K0_120 (by omega) (by omega) ?_
    show Rn PT none kX12_day 25 [some (mR 118)] [mI ((μ 120 517) + 1)] (mkh (m_set (m_set (m_upd (m_set μ 118 0 (0)) 131 U) 118 34 (V)) 120 517 ((μ 120 517) + 1)) c s) _
    refine rn_iret rfl (Or.inl rfl) ?_
    refine ⟨(m_set (m_set (m_upd (m_set μ 118 0 (0)) 131 U) 118 34 (V)) 120 517 ((μ 120 517) + 1)), rfl, ((rm_set (kL_120f (by omega))).trans ((rm_set rfl).trans ((rm_upd0 (fun _ => rfl)).trans (rm_set rfl)))), hK2, ?_⟩
    rw [row_set_eq]
    rfl
  · exfalso; omega
theorem n_X12_day {μ : Nat → Nat → Int} {c s : Nat} (hL : I_land μ) (hd : 0 ≤ μ 120 517 ∧ μ 120 517 ≤ 29) (h34 : 0 ≤ μ 118 34 ∧ μ 118 34 ≤ 8) (hs : 29 ≤ μ 120 517) : Cl PT 244 [mR 118] (mkh μ c s) (fun r => ∃ μ1, r = (some (some (mI (-1))), mkh μ1 c s) ∧ rst μ1 = rst μ) := by
  have hL_ := hL
  obtain ⟨lc, lr, le, lm, lw, lh, lwo, lwd, q0, q1, q2, q3, q4, q8, q499, q500, lth, lG, lT, lW, -⟩ := hL_
  refine ⟨_, PT_244, Nat.le_of_ble_eq_true rfl, ?_⟩
  show Rn PT none kX12_day 0 [some (mR 118)] [] (mkh μ c s) _
  refine rn_aload_n (k' := 1) rfl rfl rfl ?_
  refine rn_iconst (k' := 2) rfl rfl ?_
  refine rn_putI (k' := 3) rfl rfl K0_118 (by decide) rfl ?_
  refine rn_aload_n (k' := 4) rfl rfl rfl ?_
  refine rn_getR (k' := 5) rfl rfl K0_118 (by decide) rfl R0_118_6 ?_
  refine rn_sipush (k' := 6) rfl rfl ?_
  refine rn_iaload (k' := 7) rfl rfl K0_120 (by omega) (by omega) ?_
  show Rn PT none kX12_day 7 [some (mR 118)] [mI (μ 120 517)] (mkh (m_set μ 118 0 (0)) c s) _
  refine rn_bipush (k' := 8) rfl rfl ?_
  refine rn_icmp_ne (k' := 9) rfl rfl (fun hc2 => ?_) (fun hc2 => ?_)
  · exfalso; omega
  · skip
    refine rn_iconst (k' := 10) rfl rfl ?_
    refine rn_iret rfl (Or.inl rfl) ?_
    exact ⟨(m_set μ 118 0 (0)), rfl, (rst_set (a := 118) (j := 0) rfl)⟩
theorem pair_27 : (0 ≤ N ∧ N ≤ 511) → PairJ (Inv N) (Inv (N + 1)) 143 244 [] := by
  intro hN μ c s hI
  have h8 := hI.land.2.2.2.2.2.1.2
  have hS := hI.scene
  obtain ⟨sd, -, -, s4, -, s6, hC, hH, s9, s10, s11, s12, s13⟩ := hS
  have hU := hI.undo
  obtain ⟨⟨u1, u2, u3⟩, u4, -⟩ := hU
  by_cases hs : ¬ 29 ≤ μ 14 0
  · obtain ⟨M, ⟨hM, t0, t3, t4, tc, th⟩, hx⟩ := x_X11_day (c := c) (s := s) (p := (μ 82 5 % 8).toNat) hI hN (by omega) hs
    obtain ⟨hr, e34⟩ := stl_view (p := (μ 82 5 % 8).toNat) hM (by omega)
    have e120 := hr 120 (by omega)
    obtain ⟨ν, ⟨hν, hK, n120⟩, hm⟩ := (x_X12_day (μ := stl M (μ 82 5 % 8).toNat) (c := c) (s := s) (stl_land hI.land hM (by omega)) (by rw [e120, s4]; exact sd) (by rw [e34, u4]; exact u1) (by rw [e120, s4]; exact hs)).ex (g := fun ν => (some (some (mI (stl M (μ 82 5 % 8).toNat 120 517 + 1))), mkh ν c s))
    rw [e120, hr 131 (by omega), e34, u4] at hK
    rw [e120] at n120 hm
    refine ⟨μ 14 0 + 1, _, ν, hx, by rw [← s4]; exact hm, act_inv (M := M) hI hN (rst_mJ hM) (p := (μ 82 5 % 8).toNat) (by omega) (mL_mM hν) ?_ hK (act_last (by omega) hI.last hM hν)⟩
    have n1 : ∀ k, ¬ k = 517 → ν 120 k = μ 120 k := fun k hk => by rw [n120, fs_ne hk]
    have hT := hI.took
    refine SC_mk ?_ ?_ ?_ ?_ ?_ ?_ (fun j hj => ?_) (fun j hj => ?_) (fun j hj => ?_) ?_ (fun j hj => ?_) ?_
    · rw [t0]; omega
    · rw [t3]; exact hI.scene.2.1
    · rw [t4]; have := hI.scene.2.2.1; omega
    · rw [t0]; show ν 120 517 = _; rw [n120, fs_eq, s4]
    · rw [t3]; intro z; show ν 120 534 = _; rw [n1 _ (by omega)]; exact hI.scene.2.2.2.2.1 z
    · rw [t4]; show ν 120 535 = _; rw [n1 _ (by omega)]; exact s6
    · rw [tc j hj]; exact hC j
    · rw [th j hj]; exact hH j
    · rw [tc j (by omega), th j (by omega)]
      refine ⟨?_, ?_⟩
      · show ν 120 (517 + (1 + j)) = _
        rw [n1 _ (by omega), show 517 + (1 + j) = 518 + j by omega]
        exact (s9 j hj).1
      · show ν 120 (517 + (9 + j)) = _
        rw [n1 _ (by omega), show 517 + (9 + j) = 526 + j by omega]
        exact (s9 j hj).2
    · rw [t3]; exact s10
    · rw [tc j (by omega)]; exact s11 j hj
    · rw [t3]; exact s12
  · obtain ⟨M, hM, hx⟩ := n_X11_day (c := c) (s := s) (p := (μ 82 5 % 8).toNat) hI hN (by omega) (Classical.not_not.mp hs)
    have hI2 := hI.same hM
    have e120 : M 120 = μ 120 := row_rst hM (fun _ => rfl)
    have e34 : M 118 34 = μ 118 34 := sup_eq hM rfl
    obtain ⟨ν, hν, hm⟩ := (n_X12_day (μ := M) (c := c) (s := s) hI2.land (by rw [e120, s4]; exact sd) (by rw [e34, u4]; exact u1) (by rw [e120, s4]; exact Classical.not_not.mp hs)).ex (g := fun ν => (some (some (mI (-1))), mkh ν c s))
    exact ⟨-1, M, ν, hx, hm, (hI2.same hν).le (by omega)⟩
