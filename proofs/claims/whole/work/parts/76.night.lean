variable {N : Int}
/-! ===== printed by wip/whole/gen76.py: pairs: night, lost ===== -/
theorem hOK_scene {μ : Nat → Nat → Int} (hS : I_scene μ) (hw : ¬ μ 14 3 = -1) : hOK μ (μ 15) (μ 14 4) (μ 16, μ 14 3, μ 14 4) := by
  have hS_ := hS
  obtain ⟨sd, sw, stk, s4, s5, s6, hC, hH, -, s10, sce, swc, s13⟩ := hS_
  exact ⟨⟨by show 0 ≤ μ 14 3; omega, (swc.resolve_left hw)⟩, fun j _ => hH j, ⟨stk.1, Int.le_refl _⟩, fun j hj => sc_cell hS hj⟩
theorem hOK.congr {μ ν : Nat → Nat → Int} {cl cl' : Nat → Int} {B : Int} {st st' : HT} (h : hOK μ cl B st) (e6 : ν 6 = μ 6) (hc : ∀ j : Nat, (j : Int) < μ 6 13 → cl' j = cl j) (h1 : ∀ j : Nat, (j : Int) < μ 6 13 → st'.1 j = st.1 j) (h2 : st'.2 = st.2) : hOK ν cl' B st' := by
  obtain ⟨k1, k2, k3, k4⟩ := h
  unfold hOK
  rw [e6, h2]
  exact ⟨g_cell_row e6 k1, fun j hj => by rw [h1 j hj]; exact k2 j hj, k3, fun j hj => g_cell_row e6 (by rw [hc j hj]; exact k4 j hj)⟩
/-- the class's hunt on the trial, begun from the scene -/
theorem hunt_trial {μ : Nat → Nat → Int} {c s : Nat} (hL : I_land μ) (hS : I_scene μ) (hw : ¬ μ 14 3 = -1) (hk : μ 14 4 ≤ 1000000) {R : Nat} (hR : R ≤ 20) : ∃ M, ((rst M = rst μ ∧ M 83 0 = μ 14 0 ∧ M 83 3 = (hunt μ (g_w μ 0 (μ 14 0)) (μ 15) (μ 16, μ 14 3, μ 14 4) R).2.1 ∧ M 83 4 = (hunt μ (g_w μ 0 (μ 14 0)) (μ 15) (μ 16, μ 14 3, μ 14 4) R).2.2 ∧ (∀ j, j < 8 → M 84 j = μ 15 j) ∧ (∀ j : Nat, (j : Int) < μ 6 13 → M 85 j = (hunt μ (g_w μ 0 (μ 14 0)) (μ 15) (μ 16, μ 14 3, μ 14 4) R).1 j) ∧ (∀ j : Nat, j < 8 → μ 6 13 ≤ (j : Int) → M 85 j = μ 16 j)) ∧ (M 82 5 = μ 82 5 ∧ M 82 6 = μ 82 6)) ∧ Cl PT 9 [mR 82, mI (R : Int)] (mkh (mub μ) c s) (fun r => r = (some (some (mI 0)), mkh M c s)) := by
  have h8 := hL.2.2.2.2.2.1.2
  have h0 : hOK (mub μ) (mub μ 84) (μ 14 4) (mub μ 85, mub μ 83 3, mub μ 83 4) := (hOK_scene hS hw).congr rfl (fun j hj => mub_84 (by omega)) (fun j hj => mub_85 (by omega)) rfl
  obtain ⟨M_, e1, e2, n, r, e3, O, F, q, A, C, e4, e5, e6⟩ := c_hunt (μ := mub μ) (c := c) (s := s) (land_mub hL) hS.1 hk h0 hR
  rw [hunt_rows (ν := mub μ) (μ := μ) rfl rfl] at e6
  have hcg := hunt_congr (μ := μ) (W := g_w μ 0 (μ 14 0)) (cl := mub μ 84) (cl' := μ 15) (st := (mub μ 85, mub μ 83 3, mub μ 83 4)) (st' := (μ 16, μ 14 3, μ 14 4)) (fun j hj => mub_84 (by omega)) (fun j hj => mub_85 (by omega)) rfl R
  have hkp : ∀ j : Nat, μ 6 13 ≤ (j : Int) → (hunt μ (g_w μ 0 (μ 14 0)) (mub μ 84) (mub μ 85, mub μ 83 3, mub μ 83 4) R).1 j = mub μ 85 j := fun j hj => hunt_keep hj R
  have e7 : hunt μ (g_w μ 0 (μ 14 0)) (mub μ 84) (mub μ 85, mub μ 83 3, mub μ 83 4) R = (C, A 3, A 4) := e6
  rw [e7] at hcg hkp
  refine ⟨(m_upd (m_upd (m_upd (m_upd (m_upd (mub μ) 67 O) 68 F) 69 q) 83 A) 85 C), ⟨⟨?_, e5, ?_, ?_, fun j hj => mub_84 hj, fun j hj => hcg.1 j hj, fun j hj hj2 => (hkp j hj2).trans (mub_85 hj)⟩, rfl, rfl⟩, M_, e1, e2, n, r, e3, e4⟩
  · exact (rst_upd (fun _ => rfl)).trans ((rst_upd (fun _ => rfl)).trans ((rst_upd (fun _ => rfl)).trans ((rst_upd (fun _ => rfl)).trans ((rst_upd (fun _ => rfl)).trans rst_mub))))
  · show A 3 = _
    rw [← hcg.2]
  · show A 4 = _
    rw [← hcg.2]
set_option maxHeartbeats 4000000 in
theorem x_X11_night {μ : Nat → Nat → Int} {c s : Nat} (hI : Inv N μ) (hN : 0 ≤ N ∧ N ≤ 511) {p : Nat} (hp : (p : Int) = μ 82 5 % 8) (hw : ¬ μ 14 3 = -1) {R : Nat} (hR : 1 ≤ R ∧ R ≤ 20) : ∃ M, (rst M = rst μ ∧ M 83 0 = μ 14 0 ∧ M 83 3 = (hunt μ (g_w μ 0 (μ 14 0)) (μ 15) (μ 16, μ 14 3, μ 14 4) R).2.1 ∧ M 83 4 = (hunt μ (g_w μ 0 (μ 14 0)) (μ 15) (μ 16, μ 14 3, μ 14 4) R).2.2 ∧ (∀ j, j < 8 → M 84 j = μ 15 j) ∧ (∀ j : Nat, (j : Int) < μ 6 13 → M 85 j = (hunt μ (g_w μ 0 (μ 14 0)) (μ 15) (μ 16, μ 14 3, μ 14 4) R).1 j) ∧ (∀ j : Nat, j < 8 → μ 6 13 ≤ (j : Int) → M 85 j = μ 16 j)) ∧ Cl PT 144 [mR 0, mI (R : Int)] (mkh μ c s) (fun r => r = (some (some (mI ((hunt μ (g_w μ 0 (μ 14 0)) (μ 15) (μ 16, μ 14 3, μ 14 4) R).2.2 - μ 14 4))), mkh (stl M p) c s)) := by
  have hL := hI.land
  have hS := hI.scene
  have hU := hI.undo.1
  have hL_ := hL
  obtain ⟨lc, lr, le, lm, lw, lh, lwo, lwd, q0, q1, q2, q3, q4, q8, q499, q500, lth, lG, lT, lW, -⟩ := hL_
  have hS_ := hS
  obtain ⟨sd, sw, stk, s4, s5, s6, hC, hH, -, s10, sce, swc, s13⟩ := hS_
  have htk := hI.took
  obtain ⟨M, ⟨hT, m5, m6⟩, hmv⟩ := hunt_trial (c := c) (s := s) hL hS hw (by omega) hR.2
  have hT4 := hT.2.2.2.1
  have hok := hunt_ok hL (W := g_w μ 0 (μ 14 0)) (hOK_scene hS hw) R
  have hok4 := hok.2.2.1
  have h5 : 0 ≤ M 82 5 ∧ M 82 5 ≤ 1000 := by rw [m5]; omega
  have h6 : 0 ≤ M 82 6 ∧ M 82 6 ≤ 8 := by rw [m6]; omega
  have hp5 : (p : Int) = M 82 5 % 8 := by rw [m5]; exact hp
  have e14 : stl M p 14 4 = (hunt μ (g_w μ 0 (μ 14 0)) (μ 15) (μ 16, μ 14 3, μ 14 4) R).2.2 := by rw [stl_14]; exact hT4
  refine ⟨M, hT, ?_⟩
  refine ⟨_, PT_144, Nat.le_of_ble_eq_true rfl, ?_⟩
  show Rn PT none kX11_night 0 [some (mR 0), some (mI ((R : Int))), none] [] (mkh μ c s) _
  refine rn_iload_n (k' := 1) rfl rfl rfl ?_
  by_cases hq1 : 1 ≤ (R : Int) ∧ (R : Int) ≤ 20
  · refine rn_callP (k' := 2) (y := 154) (vs := [mI ((R : Int))]) (S' := []) (v := some (mI 1)) (h' := mkh μ c s) rfl rfl rfl (by have hz : Cl PT 154 [mI ((R : Int))] (mkh μ c s) (fun r => r = (some (some (mI (if 1 ≤ (R : Int) ∧ (R : Int) ≤ 20 then 1 else 0))), mkh μ c s)) := c_X11_isNight (a := (R : Int)) (μ := μ) (c := c) (s := s); rw [if_pos hq1] at hz; exact hz) ?_
    show Rn PT none kX11_night 2 [some (mR 0), some (mI ((R : Int))), none] [mI (1)] (mkh μ c s) _
    refine rn_if_ne (k' := 3) rfl rfl (fun hc2 => ?_) (fun hc2 => ?_)
    · skip
      refine rn_aload_n (k' := 6) rfl rfl rfl ?_
      refine rn_getR (k' := 7) rfl rfl K0_0 (by decide) rfl R0_0_4 ?_
      refine rn_getI (k' := 8) rfl rfl K0_14 (by decide) rfl ?_
      refine rn_istore_n (k' := 9) (L' := [some (mR 0), some (mI ((R : Int))), some (mI (μ 14 4))]) rfl rfl (Nat.le_of_ble_eq_true rfl) rfl ?_
      refine rn_aload_n (k' := 10) rfl rfl rfl ?_
      refine rn_getR (k' := 11) rfl rfl K0_0 (by decide) rfl R0_0_11 ?_
      refine rn_callP (k' := 12) (y := 1) (vs := [mR 82]) (S' := []) (v := none) (h' := mkh (mub μ) c s) rfl rfl rfl (c_X0_begin (μ := μ) (c := c) (s := s)) ?_
      show Rn PT none kX11_night 12 [some (mR 0), some (mI ((R : Int))), some (mI (μ 14 4))] [] (mkh (mub μ) c s) _
      refine rn_aload_n (k' := 13) rfl rfl rfl ?_
      refine rn_aload_n (k' := 14) rfl rfl rfl ?_
      refine rn_getR (k' := 15) rfl rfl K0_0 (by decide) rfl R0_0_11 ?_
      refine rn_iload_n (k' := 16) rfl rfl rfl ?_
      refine rn_callP (k' := 17) (y := 9) (vs := [mR 82, mI ((R : Int))]) (S' := [mR 0]) (v := some (mI (0))) (h' := mkh M c s) rfl rfl rfl (hmv) ?_
      show Rn PT none kX11_night 17 [some (mR 0), some (mI ((R : Int))), some (mI (μ 14 4))] [mI (0), mR 0] (mkh M c s) _
      refine rn_callP (k' := 18) (y := 150) (vs := [mR 0, mI (0)]) (S' := []) (v := some (mI (0))) (h' := mkh (stl M p) c s) rfl rfl rfl (c_settled_0 (μ := M) (c := c) (s := s) (p := p) h5 h6 hp5) ?_
      show Rn PT none kX11_night 18 [some (mR 0), some (mI ((R : Int))), some (mI (μ 14 4))] [mI (0)] (mkh (stl M p) c s) _
      refine rn_if_ne (k' := 19) rfl rfl (fun hc3 => ?_) (fun hc3 => ?_)
      · exfalso; omega
      · skip
        refine rn_aload_n (k' := 20) rfl rfl rfl ?_
        refine rn_getR (k' := 21) rfl rfl K0_0 (by decide) rfl R0_0_4 ?_
        refine rn_getI (k' := 22) rfl rfl K0_14 (by decide) rfl ?_
        refine rn_iload_n (k' := 23) rfl rfl rfl ?_
        refine rn_isub (k' := 24) rfl rfl (by omega) ?_
        refine rn_goto rfl ?_
        refine rn_iret rfl (Or.inl rfl) ?_
        rw [e14]
    · exfalso; omega
  · exfalso; omega
theorem n_X11_night {μ : Nat → Nat → Int} {c s : Nat} {a0 : Int} (hv : 1 ≤ a0 ∧ a0 ≤ 20) (hw : μ 14 3 = -1) : Cl PT 144 [mR 0, mI a0] (mkh μ c s) (fun r => r = (some (some (mI (-1))), mkh (mub μ) c s)) := by
  refine ⟨_, PT_144, Nat.le_of_ble_eq_true rfl, ?_⟩
  show Rn PT none kX11_night 0 [some (mR 0), some (mI (a0)), none] [] (mkh μ c s) _
  refine rn_iload_n (k' := 1) rfl rfl rfl ?_
  by_cases hq1 : 1 ≤ a0 ∧ a0 ≤ 20
  · refine rn_callP (k' := 2) (y := 154) (vs := [mI (a0)]) (S' := []) (v := some (mI 1)) (h' := mkh μ c s) rfl rfl rfl (by have hz : Cl PT 154 [mI (a0)] (mkh μ c s) (fun r => r = (some (some (mI (if 1 ≤ a0 ∧ a0 ≤ 20 then 1 else 0))), mkh μ c s)) := c_X11_isNight (a := a0) (μ := μ) (c := c) (s := s); rw [if_pos hq1] at hz; exact hz) ?_
    show Rn PT none kX11_night 2 [some (mR 0), some (mI (a0)), none] [mI (1)] (mkh μ c s) _
    refine rn_if_ne (k' := 3) rfl rfl (fun hc2 => ?_) (fun hc2 => ?_)
    · skip
      refine rn_aload_n (k' := 6) rfl rfl rfl ?_
      refine rn_getR (k' := 7) rfl rfl K0_0 (by decide) rfl R0_0_4 ?_
      refine rn_getI (k' := 8) rfl rfl K0_14 (by decide) rfl ?_
      refine rn_istore_n (k' := 9) (L' := [some (mR 0), some (mI (a0)), some (mI (μ 14 4))]) rfl rfl (Nat.le_of_ble_eq_true rfl) rfl ?_
      refine rn_aload_n (k' := 10) rfl rfl rfl ?_
      refine rn_getR (k' := 11) rfl rfl K0_0 (by decide) rfl R0_0_11 ?_
      refine rn_callP (k' := 12) (y := 1) (vs := [mR 82]) (S' := []) (v := none) (h' := mkh (mub μ) c s) rfl rfl rfl (c_X0_begin (μ := μ) (c := c) (s := s)) ?_
      show Rn PT none kX11_night 12 [some (mR 0), some (mI (a0)), some (mI (μ 14 4))] [] (mkh (mub μ) c s) _
      refine rn_aload_n (k' := 13) rfl rfl rfl ?_
      refine rn_aload_n (k' := 14) rfl rfl rfl ?_
      refine rn_getR (k' := 15) rfl rfl K0_0 (by decide) rfl R0_0_11 ?_
      refine rn_iload_n (k' := 16) rfl rfl rfl ?_
      refine rn_callP (k' := 17) (y := 9) (vs := [mR 82, mI (a0)]) (S' := [mR 0]) (v := some (mI (5))) (h' := mkh (mub μ) c s) rfl rfl rfl (c_hunt_no hw) ?_
      show Rn PT none kX11_night 17 [some (mR 0), some (mI (a0)), some (mI (μ 14 4))] [mI (5), mR 0] (mkh (mub μ) c s) _
      refine rn_callP (k' := 18) (y := 150) (vs := [mR 0, mI (5)]) (S' := []) (v := some (mI (5))) (h' := mkh (mub μ) c s) rfl rfl rfl (c_settled_n (by decide)) ?_
      show Rn PT none kX11_night 18 [some (mR 0), some (mI (a0)), some (mI (μ 14 4))] [mI (5)] (mkh (mub μ) c s) _
      refine rn_if_ne (k' := 19) rfl rfl (fun hc3 => ?_) (fun hc3 => ?_)
      · skip
        refine rn_iconst (k' := 26) rfl rfl ?_
        refine rn_iret rfl (Or.inl rfl) ?_
        rfl
      · exfalso; omega
    · exfalso; omega
  · exfalso; omega
theorem i_X11_night {μ : Nat → Nat → Int} {c s : Nat} {a0 : Int} (hv : ¬ (1 ≤ a0 ∧ a0 ≤ 20)) : Cl PT 144 [mR 0, mI a0] (mkh μ c s) (fun r => r = (some (some (mI (-1))), mkh μ c s)) := by
  refine ⟨_, PT_144, Nat.le_of_ble_eq_true rfl, ?_⟩
  show Rn PT none kX11_night 0 [some (mR 0), some (mI (a0)), none] [] (mkh μ c s) _
  refine rn_iload_n (k' := 1) rfl rfl rfl ?_
  by_cases hq1 : 1 ≤ a0 ∧ a0 ≤ 20
  · exfalso; omega
  · refine rn_callP (k' := 2) (y := 154) (vs := [mI (a0)]) (S' := []) (v := some (mI 0)) (h' := mkh μ c s) rfl rfl rfl (by have hz : Cl PT 154 [mI (a0)] (mkh μ c s) (fun r => r = (some (some (mI (if 1 ≤ a0 ∧ a0 ≤ 20 then 1 else 0))), mkh μ c s)) := c_X11_isNight (a := a0) (μ := μ) (c := c) (s := s); rw [if_neg hq1] at hz; exact hz) ?_
    show Rn PT none kX11_night 2 [some (mR 0), some (mI (a0)), none] [mI (0)] (mkh μ c s) _
    refine rn_if_ne (k' := 3) rfl rfl (fun hc2 => ?_) (fun hc2 => ?_)
    · exfalso; omega
    · skip
      refine rn_iconst (k' := 4) rfl rfl ?_
      refine rn_iret rfl (Or.inl rfl) ?_
      rfl
theorem kL_T {n : Int} {o120 T : Nat → Int} {st : HT} (h : RT n o120 st T) {j : Nat} (hj : kL 120 j = true) : T j = o120 j := by
  refine h.2.2.2 j ?_
  by_cases z : 517 ≤ j ∧ j < 536
  · rw [kL_120f z] at hj; cases hj
  · omega
set_option maxHeartbeats 4000000 in
theorem x_X12_night {μ : Nat → Nat → Int} {c s : Nat} (hL : I_land μ) (hd : 0 ≤ μ 120 517 ∧ μ 120 517 ≤ 29) {B : Int} (hB : B ≤ 1000000) (h0 : hOK μ (fun j => μ 120 (518 + j)) B ((fun j => μ 120 (526 + j)), μ 120 534, μ 120 535)) {R : Nat} (hR : 1 ≤ R ∧ R ≤ 20) (h34 : 0 ≤ μ 118 34 ∧ μ 118 34 ≤ 8) (hw : ¬ μ 6 14 = -1) : Cl PT 245 [mR 118, mI (R : Int)] (mkh μ c s) (fun r => ∃ ν, r = (some (some (mI (ν 120 535 - μ 120 535))), mkh ν c s) ∧ rm kL ν = rm kL μ ∧ KR (μ 120) (μ 131) (μ 118 34) (ν 131) (ν 118 34) ∧ RT (μ 6 13) (μ 120) (hunt μ (g_w μ 0 (μ 120 517)) (fun j => μ 120 (518 + j)) ((fun j => μ 120 (526 + j)), μ 120 534, μ 120 535) R) (ν 120)) := by
  have hL_ := hL
  obtain ⟨lc, lr, le, lm, lw, lh, lwo, lwd, q0, q1, q2, q3, q4, q8, q499, q500, lth, lG, lT, lW, -⟩ := hL_
  refine ⟨_, PT_245, Nat.le_of_ble_eq_true rfl, ?_⟩
  show Rn PT none kX12_night 0 [some (mR 118), some (mI ((R : Int)))] [] (mkh μ c s) _
  refine rn_aload_n (k' := 1) rfl rfl rfl ?_
  refine rn_iconst (k' := 2) rfl rfl ?_
  refine rn_putI (k' := 3) rfl rfl K0_118 (by decide) rfl ?_
  refine rn_iload_n (k' := 4) rfl rfl rfl ?_
  refine rn_iconst (k' := 5) rfl rfl ?_
  refine rn_bipush (k' := 6) rfl rfl ?_
  by_cases hq2 : 1 ≤ (R : Int) ∧ (R : Int) ≤ 20
  · refine rn_callP (k' := 7) (y := 167) (vs := [mI ((R : Int)), mI (1), mI (20)]) (S' := []) (v := some (mI 1)) (h' := mkh (m_set μ 118 0 (0)) c s) rfl rfl rfl (by have hz : Cl PT 167 [mI ((R : Int)), mI (1), mI (20)] (mkh (m_set μ 118 0 (0)) c s) (fun r => r = (some (some (mI (if 1 ≤ (R : Int) ∧ (R : Int) ≤ 20 then 1 else 0))), mkh (m_set μ 118 0 (0)) c s)) := c_X12_isIn (v := (R : Int)) (lo := 1) (hi := 20) (μ := (m_set μ 118 0 (0))) (c := c) (s := s); rw [if_pos hq2] at hz; exact hz) ?_
    show Rn PT none kX12_night 7 [some (mR 118), some (mI ((R : Int)))] [mI (1)] (mkh (m_set μ 118 0 (0)) c s) _
    refine rn_if_eq (k' := 8) rfl rfl (fun hc3 => ?_) (fun hc3 => ?_)
    · exfalso; omega
    · skip
      refine rn_aload_n (k' := 9) rfl rfl rfl ?_
      refine rn_getR (k' := 10) rfl rfl K0_118 (by decide) rfl R0_118_6 ?_
      refine rn_sipush (k' := 11) rfl rfl ?_
      refine rn_iaload (k' := 12) rfl rfl K0_120 (by omega) (by omega) ?_
      show Rn PT none kX12_night 12 [some (mR 118), some (mI ((R : Int)))] [mI (μ 120 499)] (mkh (m_set μ 118 0 (0)) c s) _
      rw [q499]
      refine rn_if_ne (k' := 13) rfl rfl (fun hc4 => ?_) (fun hc4 => ?_)
      · skip
        refine rn_aload_n (k' := 16) rfl rfl rfl ?_
        obtain ⟨U, V, hK, hcl5⟩ := c_keep (μ := (m_set μ 118 0 (0))) (c := c) (s := s) (by show 0 ≤ μ 118 34 ∧ μ 118 34 ≤ 8; omega)
        have hK2 : KR (μ 120) (μ 131) (μ 118 34) U V := hK
        refine rn_callP (k' := 17) (y := 238) (vs := [mR 118]) (S' := []) (v := none) (h' := mkh (m_set (m_upd (m_set μ 118 0 (0)) 131 U) 118 34 (V)) c s) rfl rfl rfl (hcl5) ?_
        show Rn PT none kX12_night 17 [some (mR 118), some (mI ((R : Int)))] [] (mkh (m_set (m_upd (m_set μ 118 0 (0)) 131 U) 118 34 (V)) c s) _
        refine rn_aload_n (k' := 18) rfl rfl rfl ?_
        refine rn_iload_n (k' := 19) rfl rfl rfl ?_
        obtain ⟨F, q, T, hT, hcl6⟩ := Cl.ex3b (g := fun F q T => (some (some (mI (T 535 - μ 120 535))), mkh (m_upd (m_upd (m_upd (m_set (m_set (m_set (m_upd (m_set μ 118 0 (0)) 131 U) 118 34 (V)) 118 22 (g_w μ 0 (μ 120 517))) 118 23 (g_w μ 1 (μ 120 517))) 125 F) 126 q) 120 T) c s)) (c_nights (μ := (m_set (m_upd (m_set μ 118 0 (0)) 131 U) 118 34 (V))) (c := c) (s := s) ((((hL).set rfl).upd rfl).set rfl) hd hB h0 hR.2)
        rw [hunt_rows (ν := (m_set (m_upd (m_set μ 118 0 (0)) 131 U) 118 34 (V))) (μ := μ) rfl rfl] at hT
        have hT2 : RT (μ 6 13) (μ 120) (hunt μ (g_w μ 0 (μ 120 517)) (fun j => μ 120 (518 + j)) ((fun j => μ 120 (526 + j)), μ 120 534, μ 120 535) R) T := hT
        refine rn_callP (k' := 20) (y := 237) (vs := [mR 118, mI ((R : Int))]) (S' := []) (v := some (mI (T 535 - μ 120 535))) (h' := mkh (m_upd (m_upd (m_upd (m_set (m_set (m_set (m_upd (m_set μ 118 0 (0)) 131 U) 118 34 (V)) 118 22 (g_w μ 0 (μ 120 517))) 118 23 (g_w μ 1 (μ 120 517))) 125 F) 126 q) 120 T) c s) rfl rfl rfl (hcl6) ?_
        show Rn PT none kX12_night 20 [some (mR 118), some (mI ((R : Int)))] [mI (T 535 - μ 120 535)] (mkh (m_upd (m_upd (m_upd (m_set (m_set (m_set (m_upd (m_set μ 118 0 (0)) 131 U) 118 34 (V)) 118 22 (g_w μ 0 (μ 120 517))) 118 23 (g_w μ 1 (μ 120 517))) 125 F) 126 q) 120 T) c s) _
        refine rn_iret rfl (Or.inl rfl) ?_
        exact ⟨(m_upd (m_upd (m_upd (m_set (m_set (m_set (m_upd (m_set μ 118 0 (0)) 131 U) 118 34 (V)) 118 22 (g_w μ 0 (μ 120 517))) 118 23 (g_w μ 1 (μ 120 517))) 125 F) 126 q) 120 T), rfl, ((rm_upd (μ := (m_upd (m_upd (m_set (m_set (m_set (m_upd (m_set μ 118 0 (0)) 131 U) 118 34 (V)) 118 22 (g_w μ 0 (μ 120 517))) 118 23 (g_w μ 1 (μ 120 517))) 125 F) 126 q)) (fun j hj => kL_T hT2 hj)).trans ((rm_upd0 (fun _ => rfl)).trans ((rm_upd0 (fun _ => rfl)).trans ((rm_set rfl).trans ((rm_set rfl).trans ((rm_set rfl).trans ((rm_upd0 (fun _ => rfl)).trans (rm_set rfl)))))))), hK2, hT2⟩
      · exfalso; omega
  · exfalso; omega
set_option maxHeartbeats 4000000 in
theorem i_X12_night {μ : Nat → Nat → Int} {c s : Nat} (hL : I_land μ) {a0 : Int} (hv : ¬ ((1 ≤ a0 ∧ a0 ≤ 20) ∧ ¬ μ 6 14 = -1)) : Cl PT 245 [mR 118, mI a0] (mkh μ c s) (fun r => r = (some (some (mI (-1))), mkh (m_set μ 118 0 0) c s)) := by
  have hL_ := hL
  obtain ⟨lc, lr, le, lm, lw, lh, lwo, lwd, q0, q1, q2, q3, q4, q8, q499, q500, lth, lG, lT, lW, -⟩ := hL_
  refine ⟨_, PT_245, Nat.le_of_ble_eq_true rfl, ?_⟩
  show Rn PT none kX12_night 0 [some (mR 118), some (mI (a0))] [] (mkh μ c s) _
  refine rn_aload_n (k' := 1) rfl rfl rfl ?_
  refine rn_iconst (k' := 2) rfl rfl ?_
  refine rn_putI (k' := 3) rfl rfl K0_118 (by decide) rfl ?_
  refine rn_iload_n (k' := 4) rfl rfl rfl ?_
  refine rn_iconst (k' := 5) rfl rfl ?_
  refine rn_bipush (k' := 6) rfl rfl ?_
  by_cases hq2 : 1 ≤ a0 ∧ a0 ≤ 20
  · refine rn_callP (k' := 7) (y := 167) (vs := [mI (a0), mI (1), mI (20)]) (S' := []) (v := some (mI 1)) (h' := mkh (m_set μ 118 0 (0)) c s) rfl rfl rfl (by have hz : Cl PT 167 [mI (a0), mI (1), mI (20)] (mkh (m_set μ 118 0 (0)) c s) (fun r => r = (some (some (mI (if 1 ≤ a0 ∧ a0 ≤ 20 then 1 else 0))), mkh (m_set μ 118 0 (0)) c s)) := c_X12_isIn (v := a0) (lo := 1) (hi := 20) (μ := (m_set μ 118 0 (0))) (c := c) (s := s); rw [if_pos hq2] at hz; exact hz) ?_
    show Rn PT none kX12_night 7 [some (mR 118), some (mI (a0))] [mI (1)] (mkh (m_set μ 118 0 (0)) c s) _
    refine rn_if_eq (k' := 8) rfl rfl (fun hc3 => ?_) (fun hc3 => ?_)
    · exfalso; omega
    · skip
      refine rn_aload_n (k' := 9) rfl rfl rfl ?_
      refine rn_getR (k' := 10) rfl rfl K0_118 (by decide) rfl R0_118_6 ?_
      refine rn_sipush (k' := 11) rfl rfl ?_
      refine rn_iaload (k' := 12) rfl rfl K0_120 (by omega) (by omega) ?_
      show Rn PT none kX12_night 12 [some (mR 118), some (mI (a0))] [mI (μ 120 499)] (mkh (m_set μ 118 0 (0)) c s) _
      rw [q499]
      refine rn_if_ne (k' := 13) rfl rfl (fun hc4 => ?_) (fun hc4 => ?_)
      · skip
        refine rn_aload_n (k' := 16) rfl rfl rfl ?_
        exfalso; omega
      · skip
        refine rn_iconst (k' := 14) rfl rfl ?_
        refine rn_iret rfl (Or.inl rfl) ?_
        rfl
  · refine rn_callP (k' := 7) (y := 167) (vs := [mI (a0), mI (1), mI (20)]) (S' := []) (v := some (mI 0)) (h' := mkh (m_set μ 118 0 (0)) c s) rfl rfl rfl (by have hz : Cl PT 167 [mI (a0), mI (1), mI (20)] (mkh (m_set μ 118 0 (0)) c s) (fun r => r = (some (some (mI (if 1 ≤ a0 ∧ a0 ≤ 20 then 1 else 0))), mkh (m_set μ 118 0 (0)) c s)) := c_X12_isIn (v := a0) (lo := 1) (hi := 20) (μ := (m_set μ 118 0 (0))) (c := c) (s := s); rw [if_neg hq2] at hz; exact hz) ?_
    show Rn PT none kX12_night 7 [some (mR 118), some (mI (a0))] [mI (0)] (mkh (m_set μ 118 0 (0)) c s) _
    refine rn_if_eq (k' := 8) rfl rfl (fun hc5 => ?_) (fun hc5 => ?_)
    · skip
      refine rn_iconst (k' := 14) rfl rfl ?_
      refine rn_iret rfl (Or.inl rfl) ?_
      rfl
    · exfalso; omega
/-- the model's state is the class's -/
theorem hunt_model {μ : Nat → Nat → Int} (hS : I_scene μ) (hw : ¬ μ 14 3 = -1) (h8 : μ 6 13 ≤ 8) (R : Nat) : (∀ j : Nat, (j : Int) < μ 6 13 → (hunt μ (g_w μ 0 (μ 120 517)) (fun j => μ 120 (518 + j)) ((fun j => μ 120 (526 + j)), μ 120 534, μ 120 535) R).1 j = (hunt μ (g_w μ 0 (μ 14 0)) (μ 15) (μ 16, μ 14 3, μ 14 4) R).1 j) ∧ (hunt μ (g_w μ 0 (μ 120 517)) (fun j => μ 120 (518 + j)) ((fun j => μ 120 (526 + j)), μ 120 534, μ 120 535) R).2 = (hunt μ (g_w μ 0 (μ 14 0)) (μ 15) (μ 16, μ 14 3, μ 14 4) R).2 := by
  obtain ⟨sd, sw, stk, s4, s5, s6, hC, hH, s9, s10, sce, swc, s13⟩ := hS
  rw [s4]
  exact hunt_congr (fun j hj => (s9 j hj).1) (fun j hj => (s9 j hj).2) (by show (μ 120 534, μ 120 535) = (μ 14 3, μ 14 4); rw [s5 hw, s6]) R
theorem pair_28 : ∀ (a0 : Int), i32 a0 → (0 ≤ N ∧ N ≤ 511) → PairJ (Inv N) (Inv (N + 1)) 144 245 [mI a0] := by
  intro a0 h0 hN μ c s hI
  have h8 := hI.land.2.2.2.2.2.1.2
  have hS := hI.scene
  obtain ⟨sd, -, -, s4, -, s6, hC, hH, s9, s10, s11, s12, s13⟩ := hS
  have hU := hI.undo
  obtain ⟨⟨u1, u2, u3⟩, u4, -⟩ := hU
  by_cases hv : 1 ≤ a0 ∧ a0 ≤ 20
  · by_cases hw : μ 14 3 = -1
    · have hI2 := hI.same (rst_mub (μ := μ))
      exact ⟨-1, _, _, n_X11_night hv hw, i_X12_night hI2.land (fun z => z.2 (s10.mp hw)), (hI2.set rfl).le (by omega)⟩
    · obtain ⟨R, rfl⟩ := Int.eq_ofNat_of_zero_le (show 0 ≤ a0 by omega)
      obtain ⟨M, hT, hx⟩ := x_X11_night (c := c) (s := s) (p := (μ 82 5 % 8).toNat) hI hN (by omega) hw (R := R) (by omega)
      obtain ⟨hM, t0, t3, t4, tc, th, th2⟩ := hT
      obtain ⟨hr, e34⟩ := stl_view (p := (μ 82 5 % 8).toNat) hM (by omega)
      have e120 := hr 120 (by omega)
      have e6 := hr 6 (by omega)
      have e7 := hr 7 (by omega)
      have e10 := hr 10 (by omega)
      have hTk := hI.took
      have hmo := hunt_model hI.scene hw h8 R
      have hok := hunt_ok hI.land (W := g_w μ 0 (μ 14 0)) (hOK_scene hI.scene hw) R
      have hok0 : hOK μ (fun j => μ 120 (518 + j)) (μ 14 4) ((fun j => μ 120 (526 + j)), μ 120 534, μ 120 535) := (hOK_scene hI.scene hw).congr rfl (fun j hj => (s9 j hj).1) (fun j hj => (s9 j hj).2) (by show (μ 120 534, μ 120 535) = (μ 14 3, μ 14 4); rw [hI.scene.2.2.2.2.1 hw, s6])
      obtain ⟨ν, ⟨hν, hK, hR⟩, hm⟩ := (x_X12_night (μ := stl M (μ 82 5 % 8).toNat) (c := c) (s := s) (stl_land hI.land hM (by omega)) (by rw [e120, s4]; exact sd) (B := μ 14 4) (by omega) (by rw [e120]; exact hok0.congr e6 (fun _ _ => rfl) (fun _ _ => rfl) rfl) (R := R) (by omega) (by rw [e34, u4]; exact u1) (by rw [e6]; exact fun z => hw (s10.mpr z))).ex (g := fun ν => (some (some (mI (ν 120 535 - stl M (μ 82 5 % 8).toNat 120 535))), mkh ν c s))
      rw [e120, hr 131 (by omega), e34, u4] at hK
      simp only [g_w] at hR
      rw [hunt_rows e6 e7, e120, e6, e10] at hR
      rw [e120] at hm
      have hR2 : RT (μ 6 13) (μ 120) (hunt μ (g_w μ 0 (μ 120 517)) (fun j => μ 120 (518 + j)) ((fun j => μ 120 (526 + j)), μ 120 534, μ 120 535) R) (ν 120) := hR
      obtain ⟨r1, r2, r3, r4⟩ := hR2
      rw [hmo.2] at r2 r3
      have hz : ν 120 535 - μ 120 535 = (hunt μ (g_w μ 0 (μ 14 0)) (μ 15) (μ 16, μ 14 3, μ 14 4) R).2.2 - μ 14 4 := by rw [r3, s6]
      refine ⟨(hunt μ (g_w μ 0 (μ 14 0)) (μ 15) (μ 16, μ 14 3, μ 14 4) R).2.2 - μ 14 4, _, ν, hx, by rw [← hz]; exact hm, act_inv (M := M) hI hN (rst_mJ hM) (p := (μ 82 5 % 8).toNat) (by omega) (mL_mM hν) ?_ hK (act_last (by omega) hI.last hM hν)⟩
      have hk4 := hok.2.2.1
      have hkc := g_cell_b hI.land hok.1
      refine SC_mk ?_ ?_ ?_ ?_ ?_ ?_ (fun j hj => ?_) (fun j hj => ?_) (fun j hj => ?_) ?_ (fun j hj => ?_) ?_
      · rw [t0]; exact sd
      · rw [t3]; omega
      · rw [t4]; omega
      · rw [t0]; show ν 120 517 = _; rw [r4 _ (by omega)]; exact s4
      · rw [t3]; intro _; exact r2
      · rw [t4]; exact r3
      · rw [tc j hj]; exact hC j
      · by_cases hjh : (j : Int) < μ 6 13
        · rw [th j hjh]; exact hok.2.1 j hjh
        · rw [th2 j hj (by omega)]; exact hH j
      · rw [tc j (by omega), th j hj]
        refine ⟨?_, ?_⟩
        · show ν 120 (517 + (1 + j)) = _
          rw [r4 _ (by omega), show 517 + (1 + j) = 518 + j by omega]
          exact (s9 j hj).1
        · show ν 120 (517 + (9 + j)) = _
          rw [show 517 + (9 + j) = 526 + j by omega, r1 j hj]
          exact hmo.1 j hj
      · rw [t3]
        constructor
        · intro z; omega
        · intro z; exact absurd (s10.mpr z) hw
      · rw [tc j (by omega)]; exact s11 j hj
      · rw [t3]; right; exact hok.1.2
  · exact ⟨-1, μ, _, i_X11_night hv, i_X12_night hI.land (fun z => hv z.1), (hI.set rfl).le (by omega)⟩
