variable {N : Int}
/-! ===== printed by wip/whole/gen94.py: pairs: walk, falls ===== -/
def kC (a j : Nat) : Bool := sup a j && !(a == 117 || (a == 0 && j == 16))
def kW (a j : Nat) : Bool := sup a j && !(a == 135 || (a == 118 && j == 39))
theorem kT_kW {a j : Nat} (h : kT a j = true) : kW a j = true := by
  have hs := kT_sup h
  unfold kT at h
  unfold kW
  rw [hs] at h ⊢
  simp only [Bool.true_and, Bool.not_eq_true', Bool.or_eq_false_iff, Bool.and_eq_false_iff] at h ⊢
  obtain ⟨⟨⟨⟨⟨⟨⟨⟨h1, h2⟩, h3⟩, h4⟩, h5⟩, h6⟩, h7⟩, h8⟩, h9⟩ := h
  refine ⟨h6, ?_⟩
  rcases h9 with z | z
  · exact Or.inl z
  · exact Or.inr z.2
theorem kT_kC {a j : Nat} (h : kT a j = true) : kC a j = true := by
  have hs := kT_sup h
  unfold kT at h
  unfold kC
  rw [hs] at h ⊢
  simp only [Bool.true_and, Bool.not_eq_true', Bool.or_eq_false_iff, Bool.and_eq_false_iff] at h ⊢
  obtain ⟨⟨⟨⟨⟨⟨⟨⟨h1, h2⟩, h3⟩, h4⟩, h5⟩, h6⟩, h7⟩, h8⟩, h9⟩ := h
  exact ⟨h2, Or.inl h7⟩
theorem kC_sup {a j : Nat} (h : kC a j = true) : sup a j = true := by
  unfold kC at h
  cases hs : sup a j with
  | true => rfl
  | false => rw [hs] at h; exact h
theorem way_iff {μ : Nat → Nat → Int} (hL : I_land μ) {x a t w v : Int} {C : Nat → Int} (ht : 0 ≤ t ∧ t ≤ 99) (hv : 0 ≤ v ∧ v ≤ 99) (hx : g_cell μ x) (hB : (g_stand μ a t w → gBE μ a t w v C) ∧ (¬ g_stand μ a t w → ∀ j, j < 100 → C j = 1000000000)) : C x.toNat < 1000000000 ↔ (g_ok μ x a t w ∧ g_C μ a t w v x.toNat < 1000000000) := by
  have hxb := g_cell_b hL hx
  constructor
  · intro h
    have hs : g_stand μ a t w := Classical.byContradiction (fun z => by have := hB.2 z x.toNat (by omega); omega)
    have hE := hB.1 hs
    have he := g_C_eq hL ht hv hE hx
    refine ⟨⟨?_, hs⟩, by omega⟩
    by_cases e : x = a
    · rw [e]; exact hs
    · exact (hE.2.2.2 x hx e h).1
  · intro h
    have he := g_C_eq hL ht hv (hB.1 h.1.2) hx
    have := h.2
    omega
theorem set_self {μ : Nat → Nat → Int} {a j : Nat} : m_set μ a j (μ a j) = μ := by
  funext a' j'
  unfold m_set
  by_cases h : a' = a ∧ j' = j
  · rw [if_pos h, h.1, h.2]
  · rw [if_neg h]
set_option maxHeartbeats 4000000 in
theorem x_X11_walk {μ : Nat → Nat → Int} {c s : Nat} (hL : I_land μ) (hS : I_scene μ) {a0 a1 a2 a3 : Int} (hv1 : g_cell μ a0) (hv2 : g_cell μ a1) (hv3 : 0 ≤ a2 ∧ a2 ≤ 99) (h0 : i32 a0) (h1 : i32 a1) (hway : (g_ok μ a0 a1 a2 (g_w μ 0 (μ 14 0)) ∧ (g_C μ a1 a2 (g_w μ 0 (μ 14 0)) (g_w μ 1 (μ 14 0))) a0.toNat < 1000000000)) : Cl PT 139 [mR 0, mI a0, mI a1, mI a2, mI a3] (mkh μ c s) (fun r => ∃ (M : Nat → Nat → Int) (m : Nat), r = (some (some (mI (fal (M 73) m 0 a3))), mkh (m_upd (m_set M 0 16 (M 66 8 + 1)) 117 (fl (M 72) (M 117) (M 66 8 + 1).toNat)) c s) ∧ rst M = rst μ ∧ (m ≤ 99 ∧ (pw μ (g_C μ a1 a2 (g_w μ 0 (μ 14 0)) (g_w μ 1 (μ 14 0))) a2 (g_w μ 1 (μ 14 0)) a0 m) = a1 ∧ (∀ j, j < m → ¬ (pw μ (g_C μ a1 a2 (g_w μ 0 (μ 14 0)) (g_w μ 1 (μ 14 0))) a2 (g_w μ 1 (μ 14 0)) a0 j) = a1)) ∧ M 66 8 = (m : Int) ∧ (∀ j, j ≤ m → M 72 j = (pw μ (g_C μ a1 a2 (g_w μ 0 (μ 14 0)) (g_w μ 1 (μ 14 0))) a2 (g_w μ 1 (μ 14 0)) a0 j)) ∧ ∀ j, j < m → M 73 j = g_rk μ a2 (g_w μ 1 (μ 14 0)) (pw μ (g_C μ a1 a2 (g_w μ 0 (μ 14 0)) (g_w μ 1 (μ 14 0))) a2 (g_w μ 1 (μ 14 0)) a0 j) (pw μ (g_C μ a1 a2 (g_w μ 0 (μ 14 0)) (g_w μ 1 (μ 14 0))) a2 (g_w μ 1 (μ 14 0)) a0 (j + 1))) := by
  have hL_ := hL
  obtain ⟨lc, lr, le, lm, lw, lh, lwo, lwd, q0, q1, q2, q3, q4, q8, q499, q500, lth, lG, lT, lW, -⟩ := hL_
  have hS_ := hS
  obtain ⟨sd, sw, stk, s4, s5, s6, hC, hH, -, s10, sce, swc, s13⟩ := hS_
  refine ⟨_, PT_139, Nat.le_of_ble_eq_true rfl, ?_⟩
  show Rn PT none kX11_walk 0 [some (mR 0), some (mI (a0)), some (mI (a1)), some (mI (a2)), some (mI (a3))] [] (mkh μ c s) _
  refine rn_aload_n (k' := 1) rfl rfl rfl ?_
  refine rn_iload_n (k' := 2) rfl rfl rfl ?_
  refine rn_iload_n (k' := 3) rfl rfl rfl ?_
  refine rn_iload_n (k' := 4) rfl rfl rfl ?_
  refine rn_aload_n (k' := 5) rfl rfl rfl ?_
  refine rn_getR (k' := 6) rfl rfl K0_0 (by decide) rfl R0_0_4 ?_
  refine rn_getI (k' := 7) rfl rfl K0_14 (by decide) rfl ?_
  by_cases hq1 : g_cell μ a0 ∧ g_cell μ a1 ∧ (0 ≤ a2 ∧ a2 ≤ 99) ∧ 0 ≤ (μ 14 0) ∧ (μ 14 0) ≤ 29
  · refine rn_callP (k' := 8) (y := 155) (vs := [mR 0, mI (a0), mI (a1), mI (a2), mI (μ 14 0)]) (S' := []) (v := some (mI 1)) (h' := mkh μ c s) rfl rfl rfl (by have hz : Cl PT 155 [mR 0, mI (a0), mI (a1), mI (a2), mI (μ 14 0)] (mkh μ c s) (fun r => r = (some (some (mI (if g_cell μ a0 ∧ g_cell μ a1 ∧ (0 ≤ a2 ∧ a2 ≤ 99) ∧ 0 ≤ (μ 14 0) ∧ (μ 14 0) ≤ 29 then 1 else 0))), mkh μ c s)) := c_X11_areSuch (hL) (a := a0) (b := a1) (t := a2) (d := μ 14 0) (by omega) (by omega) (μ := μ) (c := c) (s := s); rw [if_pos hq1] at hz; exact hz) ?_
    show Rn PT none kX11_walk 8 [some (mR 0), some (mI (a0)), some (mI (a1)), some (mI (a2)), some (mI (a3))] [mI (1)] (mkh μ c s) _
    refine rn_if_eq (k' := 9) rfl rfl (fun hc2 => ?_) (fun hc2 => ?_)
    · exfalso; omega
    · skip
      refine rn_aload_n (k' := 10) rfl rfl rfl ?_
      refine rn_getR (k' := 11) rfl rfl K0_0 (by decide) rfl R0_0_8 ?_
      refine rn_iload_n (k' := 12) rfl rfl rfl ?_
      refine rn_iload_n (k' := 13) rfl rfl rfl ?_
      refine rn_iload_n (k' := 14) rfl rfl rfl ?_
      refine rn_aload_n (k' := 15) rfl rfl rfl ?_
      refine rn_getR (k' := 16) rfl rfl K0_0 (by decide) rfl R0_0_4 ?_
      refine rn_getI (k' := 17) rfl rfl K0_14 (by decide) rfl ?_
      obtain ⟨MM, z1, z2, nn, rr, z3, M, m, z4, hMr, m1, m2, m3, hM8, hM72, hM73⟩ := x_layWay (c := c) (s := s) hL (x := a0) (a := a1) (t := a2) (dy := μ 14 0) hv1 hv2 hv3 (by omega) hway
      have hcl : Cl PT 97 [mR 66, mI a0, mI a1, mI a2, mI (μ 14 0)] (mkh μ c s) (fun r => r = (some (some (mI 1)), mkh M c s)) := ⟨MM, z1, z2, nn, rr, z3, z4⟩
      refine rn_callP (k' := 18) (y := 97) (vs := [mR 66, mI (a0), mI (a1), mI (a2), mI (μ 14 0)]) (S' := []) (v := some (mI (1))) (h' := mkh M c s) rfl rfl rfl (hcl) ?_
      show Rn PT none kX11_walk 18 [some (mR 0), some (mI (a0)), some (mI (a1)), some (mI (a2)), some (mI (a3))] [mI (1)] (mkh M c s) _
      refine rn_if_ne (k' := 19) rfl rfl (fun hc3 => ?_) (fun hc3 => ?_)
      · skip
        refine rn_aload_n (k' := 22) rfl rfl rfl ?_
        refine rn_aload_n (k' := 23) rfl rfl rfl ?_
        refine rn_getR (k' := 24) rfl rfl K0_0 (by decide) rfl R0_0_8 ?_
        refine rn_getI (k' := 25) rfl rfl K0_66 (by decide) rfl ?_
        refine rn_iconst (k' := 26) rfl rfl ?_
        refine rn_iadd (k' := 27) rfl rfl (by omega) ?_
        refine rn_putI (k' := 28) rfl rfl K0_0 (by decide) rfl ?_
        refine rn_aload_n (k' := 29) rfl rfl rfl ?_
        refine rn_getR (k' := 30) rfl rfl K0_0 (by decide) rfl R0_0_8 ?_
        refine rn_getR (k' := 31) rfl rfl K0_66 (by decide) rfl R0_66_6 ?_
        refine rn_iconst (k' := 32) rfl rfl ?_
        refine rn_aload_n (k' := 33) rfl rfl rfl ?_
        refine rn_getR (k' := 34) rfl rfl K0_0 (by decide) rfl R0_0_15 ?_
        refine rn_iconst (k' := 35) rfl rfl ?_
        refine rn_aload_n (k' := 36) rfl rfl rfl ?_
        refine rn_getI (k' := 37) rfl rfl K0_0 (by decide) rfl ?_
        show Rn PT none kX11_walk 37 [some (mR 0), some (mI (a0)), some (mI (a1)), some (mI (a2)), some (mI (a3))] [mI ((M 66 8) + 1), mI (0), mR 117, mI (0), mR 72] (mkh (m_set M 0 16 ((M 66 8) + 1)) c s) _
        refine rn_cpy (k' := 38) rfl rfl K0_72 K0_117 (by omega) (Nat.le_of_ble_eq_true rfl) ?_
        show Rn PT none kX11_walk 38 [some (mR 0), some (mI (a0)), some (mI (a1)), some (mI (a2)), some (mI (a3))] [] (mkh (m_upd (m_set M 0 16 ((M 66 8) + 1)) 117 (fl (M 72) (M 117) ((M 66 8) + 1).toNat)) c s) _
        refine rn_aload_n (k' := 39) rfl rfl rfl ?_
        refine rn_getR (k' := 40) rfl rfl K0_0 (by decide) rfl R0_0_8 ?_
        refine rn_iload (k' := 41) rfl rfl rfl ?_
        refine rn_callP (k' := 42) (y := 99) (vs := [mR 66, mI (a3)]) (S' := []) (v := some (mI (fal (M 73) m 0 (a3)))) (h' := mkh (m_upd (m_set M 0 16 ((M 66 8) + 1)) 117 (fl (M 72) (M 117) ((M 66 8) + 1).toNat)) c s) rfl rfl rfl (c_X10_fallOf (μ := (m_upd (m_set M 0 16 ((M 66 8) + 1)) 117 (fl (M 72) (M 117) ((M 66 8) + 1).toNat))) (c := c) (s := s) (m := m) (sd := a3) hM8 m1) ?_
        show Rn PT none kX11_walk 42 [some (mR 0), some (mI (a0)), some (mI (a1)), some (mI (a2)), some (mI (a3))] [mI (fal (M 73) m 0 (a3))] (mkh (m_upd (m_set M 0 16 ((M 66 8) + 1)) 117 (fl (M 72) (M 117) ((M 66 8) + 1).toNat)) c s) _
        refine rn_iret rfl (Or.inl rfl) ?_
        exact ⟨M, m, rfl, hMr, ⟨m1, m2, m3⟩, hM8, hM72, hM73⟩
      · exfalso; omega
  · exfalso; omega
set_option maxHeartbeats 4000000 in
theorem n_X11_walk {μ : Nat → Nat → Int} {c s : Nat} (hL : I_land μ) (hS : I_scene μ) {a0 a1 a2 a3 : Int} (hv1 : g_cell μ a0) (hv2 : g_cell μ a1) (hv3 : 0 ≤ a2 ∧ a2 ≤ 99) (h0 : i32 a0) (h1 : i32 a1) (hway : ¬ (g_ok μ a0 a1 a2 (g_w μ 0 (μ 14 0)) ∧ (g_C μ a1 a2 (g_w μ 0 (μ 14 0)) (g_w μ 1 (μ 14 0))) a0.toNat < 1000000000)) : Cl PT 139 [mR 0, mI a0, mI a1, mI a2, mI a3] (mkh μ c s) (fun r => ∃ M : Nat → Nat → Int, r = (some (some (mI (-1))), mkh M c s) ∧ rst M = rst μ) := by
  have hL_ := hL
  obtain ⟨lc, lr, le, lm, lw, lh, lwo, lwd, q0, q1, q2, q3, q4, q8, q499, q500, lth, lG, lT, lW, -⟩ := hL_
  have hS_ := hS
  obtain ⟨sd, sw, stk, s4, s5, s6, hC, hH, -, s10, sce, swc, s13⟩ := hS_
  refine ⟨_, PT_139, Nat.le_of_ble_eq_true rfl, ?_⟩
  show Rn PT none kX11_walk 0 [some (mR 0), some (mI (a0)), some (mI (a1)), some (mI (a2)), some (mI (a3))] [] (mkh μ c s) _
  refine rn_aload_n (k' := 1) rfl rfl rfl ?_
  refine rn_iload_n (k' := 2) rfl rfl rfl ?_
  refine rn_iload_n (k' := 3) rfl rfl rfl ?_
  refine rn_iload_n (k' := 4) rfl rfl rfl ?_
  refine rn_aload_n (k' := 5) rfl rfl rfl ?_
  refine rn_getR (k' := 6) rfl rfl K0_0 (by decide) rfl R0_0_4 ?_
  refine rn_getI (k' := 7) rfl rfl K0_14 (by decide) rfl ?_
  by_cases hq1 : g_cell μ a0 ∧ g_cell μ a1 ∧ (0 ≤ a2 ∧ a2 ≤ 99) ∧ 0 ≤ (μ 14 0) ∧ (μ 14 0) ≤ 29
  · refine rn_callP (k' := 8) (y := 155) (vs := [mR 0, mI (a0), mI (a1), mI (a2), mI (μ 14 0)]) (S' := []) (v := some (mI 1)) (h' := mkh μ c s) rfl rfl rfl (by have hz : Cl PT 155 [mR 0, mI (a0), mI (a1), mI (a2), mI (μ 14 0)] (mkh μ c s) (fun r => r = (some (some (mI (if g_cell μ a0 ∧ g_cell μ a1 ∧ (0 ≤ a2 ∧ a2 ≤ 99) ∧ 0 ≤ (μ 14 0) ∧ (μ 14 0) ≤ 29 then 1 else 0))), mkh μ c s)) := c_X11_areSuch (hL) (a := a0) (b := a1) (t := a2) (d := μ 14 0) (by omega) (by omega) (μ := μ) (c := c) (s := s); rw [if_pos hq1] at hz; exact hz) ?_
    show Rn PT none kX11_walk 8 [some (mR 0), some (mI (a0)), some (mI (a1)), some (mI (a2)), some (mI (a3))] [mI (1)] (mkh μ c s) _
    refine rn_if_eq (k' := 9) rfl rfl (fun hc2 => ?_) (fun hc2 => ?_)
    · exfalso; omega
    · skip
      refine rn_aload_n (k' := 10) rfl rfl rfl ?_
      refine rn_getR (k' := 11) rfl rfl K0_0 (by decide) rfl R0_0_8 ?_
      refine rn_iload_n (k' := 12) rfl rfl rfl ?_
      refine rn_iload_n (k' := 13) rfl rfl rfl ?_
      refine rn_iload_n (k' := 14) rfl rfl rfl ?_
      refine rn_aload_n (k' := 15) rfl rfl rfl ?_
      refine rn_getR (k' := 16) rfl rfl K0_0 (by decide) rfl R0_0_4 ?_
      refine rn_getI (k' := 17) rfl rfl K0_14 (by decide) rfl ?_
      obtain ⟨M, hMr, hcl⟩ := Cl.ex (g := fun M => (some (some (mI 0)), mkh M c s)) (n_layWay (c := c) (s := s) hL (x := a0) (a := a1) (t := a2) (dy := μ 14 0) hv1 hv2 hv3 (by omega) hway)
      refine rn_callP (k' := 18) (y := 97) (vs := [mR 66, mI (a0), mI (a1), mI (a2), mI (μ 14 0)]) (S' := []) (v := some (mI (0))) (h' := mkh M c s) rfl rfl rfl (hcl) ?_
      show Rn PT none kX11_walk 18 [some (mR 0), some (mI (a0)), some (mI (a1)), some (mI (a2)), some (mI (a3))] [mI (0)] (mkh M c s) _
      refine rn_if_ne (k' := 19) rfl rfl (fun hc3 => ?_) (fun hc3 => ?_)
      · exfalso; omega
      · skip
        refine rn_iconst (k' := 20) rfl rfl ?_
        refine rn_iret rfl (Or.inl rfl) ?_
        exact ⟨M, rfl, hMr⟩
  · exfalso; omega
set_option maxHeartbeats 4000000 in
theorem l_X12_walk {μ : Nat → Nat → Int} {c s : Nat} (hL : I_land μ) (hS : I_scene μ) {a0 a1 a2 a3 : Int} (hv1 : g_cell μ a0) (hv2 : g_cell μ a1) (hv3 : 0 ≤ a2 ∧ a2 ≤ 99) (h0 : i32 a0) (h1 : i32 a1) {m : Nat} (m1 : m ≤ 99) (m2 : (pw μ (g_C μ a1 a2 (g_w μ 0 (μ 14 0)) (g_w μ 1 (μ 14 0))) a2 (g_w μ 1 (μ 14 0)) a0 m) = a1) (m3 : ∀ j, j < m → ¬ (pw μ (g_C μ a1 a2 (g_w μ 0 (μ 14 0)) (g_w μ 1 (μ 14 0))) a2 (g_w μ 1 (μ 14 0)) a0 j) = a1) (m4 : ∀ j, j ≤ m → g_cell μ (pw μ (g_C μ a1 a2 (g_w μ 0 (μ 14 0)) (g_w μ 1 (μ 14 0))) a2 (g_w μ 1 (μ 14 0)) a0 j) ∧ (g_C μ a1 a2 (g_w μ 0 (μ 14 0)) (g_w μ 1 (μ 14 0))) (pw μ (g_C μ a1 a2 (g_w μ 0 (μ 14 0)) (g_w μ 1 (μ 14 0))) a2 (g_w μ 1 (μ 14 0)) a0 j).toNat < 1000000000) {C T : Nat → Int} (hT : ∀ j, j ≤ m → T j = (pw μ (g_C μ a1 a2 (g_w μ 0 (μ 14 0)) (g_w μ 1 (μ 14 0))) a2 (g_w μ 1 (μ 14 0)) a0 j)) : ∀ (d n : Nat) (k : Int) (U : Nat → Int), k = (n : Int) → n + d = m + 1 → (∀ j, j < n → U j = (pw μ (g_C μ a1 a2 (g_w μ 0 (μ 14 0)) (g_w μ 1 (μ 14 0))) a2 (g_w μ 1 (μ 14 0)) a0 j)) → Rn PT none kX12_walk 38 [some (mR 118), some (mI (a0)), some (mI (a1)), some (mI (a2)), some (mI (a3)), some (mI (k))] [] (mkh (m_upd (m_set (m_upd (m_upd (m_set (m_set (m_set μ 118 0 (0)) 118 22 (g_w μ 0 (μ 14 0))) 118 23 (g_w μ 1 (μ 14 0))) 127 C) 126 T) 118 39 ((m : Int) + 1)) 135 U) c s) (fun r => ∃ M2 : Nat → Nat → Int, r = (some (some (mI (fal (fun j => g_rk μ a2 (g_w μ 1 (μ 14 0)) (pw μ (g_C μ a1 a2 (g_w μ 0 (μ 14 0)) (g_w μ 1 (μ 14 0))) a2 (g_w μ 1 (μ 14 0)) a0 j) (pw μ (g_C μ a1 a2 (g_w μ 0 (μ 14 0)) (g_w μ 1 (μ 14 0))) a2 (g_w μ 1 (μ 14 0)) a0 (j + 1))) m 0 a3))), mkh M2 c s) ∧ rm kW M2 = rm kW μ ∧ M2 118 39 = (m : Int) + 1 ∧ ∀ j, j ≤ m → M2 135 j = (pw μ (g_C μ a1 a2 (g_w μ 0 (μ 14 0)) (g_w μ 1 (μ 14 0))) a2 (g_w μ 1 (μ 14 0)) a0 j)) := by
  have hL_ := hL
  obtain ⟨lc, lr, le, lm, lw, lh, lwo, lwd, q0, q1, q2, q3, q4, q8, q499, q500, lth, lG, lT, lW, -⟩ := hL_
  have hS_ := hS
  obtain ⟨sd, sw, stk, s4, s5, s6, hC, hH, -, s10, sce, swc, s13⟩ := hS_
  have hwb := g_w_b hL 0 (μ 14 0)
  have hvb := g_w_b hL 1 (μ 14 0)
  intro d
  induction d with
  | zero =>
    intro n k U ek hn hU
    subst ek
    refine rn_iload (k' := 39) rfl rfl rfl ?_
    refine rn_aload_n (k' := 40) rfl rfl rfl ?_
    refine rn_getI (k' := 41) rfl rfl K0_118 (by decide) rfl ?_
    show Rn PT none kX12_walk 41 [some (mR 118), some (mI (a0)), some (mI (a1)), some (mI (a2)), some (mI (a3)), some (mI ((n : Int)))] [mI ((m : Int) + 1), mI ((n : Int))] (mkh (m_upd (m_set (m_upd (m_upd (m_set (m_set (m_set μ 118 0 (0)) 118 22 (g_w μ 0 (μ 14 0))) 118 23 (g_w μ 1 (μ 14 0))) 127 C) 126 T) 118 39 ((m : Int) + 1)) 135 U) c s) _
    refine rn_icmp_ge (k' := 42) rfl rfl (fun hc1 => ?_) (fun hc1 => ?_)
    · skip
      refine rn_aload_n (k' := 53) rfl rfl rfl ?_
      refine rn_aload_n (k' := 54) rfl rfl rfl ?_
      refine rn_getI (k' := 55) rfl rfl K0_118 (by decide) rfl ?_
      show Rn PT none kX12_walk 55 [some (mR 118), some (mI (a0)), some (mI (a1)), some (mI (a2)), some (mI (a3)), some (mI ((n : Int)))] [mI ((m : Int) + 1), mR 118] (mkh (m_upd (m_set (m_upd (m_upd (m_set (m_set (m_set μ 118 0 (0)) 118 22 (g_w μ 0 (μ 14 0))) 118 23 (g_w μ 1 (μ 14 0))) 127 C) 126 T) 118 39 ((m : Int) + 1)) 135 U) c s) _
      refine rn_iload_n (k' := 56) rfl rfl rfl ?_
      refine rn_iload (k' := 57) rfl rfl rfl ?_
      obtain ⟨z2, hcf2⟩ := c_fallOfM (μ := (m_upd (m_set (m_upd (m_upd (m_set (m_set (m_set μ 118 0 (0)) 118 22 (g_w μ 0 (μ 14 0))) 118 23 (g_w μ 1 (μ 14 0))) 127 C) 126 T) 118 39 ((m : Int) + 1)) 135 U)) (c := c) (s := s) ((((((((hL).set rfl).set rfl).set rfl).upd rfl).upd rfl).set rfl).upd rfl) (by show 0 ≤ (g_w μ 0 (μ 14 0)) ∧ (g_w μ 0 (μ 14 0)) ≤ 1000; omega) (by show 0 ≤ (g_w μ 1 (μ 14 0)) ∧ (g_w μ 1 (μ 14 0)) ≤ 99; omega) (t := a2) hv3 (m := m) m1 (P := fun j => (pw μ (g_C μ a1 a2 (g_w μ 0 (μ 14 0)) (g_w μ 1 (μ 14 0))) a2 (g_w μ 1 (μ 14 0)) a0 j)) (fun j hj => ⟨(m4 j hj).1, hT j hj⟩) (sd := a3)
      rw [g_rk_rows (ν := (m_upd (m_set (m_upd (m_upd (m_set (m_set (m_set μ 118 0 (0)) 118 22 (g_w μ 0 (μ 14 0))) 118 23 (g_w μ 1 (μ 14 0))) 127 C) 126 T) 118 39 ((m : Int) + 1)) 135 U)) (μ := μ) rfl] at hcf2
      refine rn_callP (k' := 58) (y := 261) (vs := [mR 118, mI ((m : Int) + 1), mI (a2), mI (a3)]) (S' := []) (v := some (mI (fal (fun j => g_rk μ a2 (g_w μ 1 (μ 14 0)) (pw μ (g_C μ a1 a2 (g_w μ 0 (μ 14 0)) (g_w μ 1 (μ 14 0))) a2 (g_w μ 1 (μ 14 0)) a0 j) (pw μ (g_C μ a1 a2 (g_w μ 0 (μ 14 0)) (g_w μ 1 (μ 14 0))) a2 (g_w μ 1 (μ 14 0)) a0 (j + 1))) m 0 (a3)))) (h' := mkh (m_set (m_upd (m_set (m_upd (m_upd (m_set (m_set (m_set μ 118 0 (0)) 118 22 (g_w μ 0 (μ 14 0))) 118 23 (g_w μ 1 (μ 14 0))) 127 C) 126 T) 118 39 ((m : Int) + 1)) 135 U) 118 40 (z2)) c s) rfl rfl rfl (hcf2) ?_
      show Rn PT none kX12_walk 58 [some (mR 118), some (mI (a0)), some (mI (a1)), some (mI (a2)), some (mI (a3)), some (mI ((n : Int)))] [mI (fal (fun j => g_rk μ a2 (g_w μ 1 (μ 14 0)) (pw μ (g_C μ a1 a2 (g_w μ 0 (μ 14 0)) (g_w μ 1 (μ 14 0))) a2 (g_w μ 1 (μ 14 0)) a0 j) (pw μ (g_C μ a1 a2 (g_w μ 0 (μ 14 0)) (g_w μ 1 (μ 14 0))) a2 (g_w μ 1 (μ 14 0)) a0 (j + 1))) m 0 (a3))] (mkh (m_set (m_upd (m_set (m_upd (m_upd (m_set (m_set (m_set μ 118 0 (0)) 118 22 (g_w μ 0 (μ 14 0))) 118 23 (g_w μ 1 (μ 14 0))) 127 C) 126 T) 118 39 ((m : Int) + 1)) 135 U) 118 40 (z2)) c s) _
      refine rn_iret rfl (Or.inl rfl) ?_
      exact ⟨_, rfl, ((rm_set rfl).trans ((rm_upd0 (fun _ => rfl)).trans ((rm_set rfl).trans ((rm_upd0 (fun _ => rfl)).trans ((rm_upd0 (fun _ => rfl)).trans ((rm_set rfl).trans ((rm_set rfl).trans (rm_set rfl)))))))), rfl, fun j hj => hU j (by omega)⟩
    · exfalso; omega
  | succ d ih =>
    intro n k U ek hn hU
    subst ek
    refine rn_iload (k' := 39) rfl rfl rfl ?_
    refine rn_aload_n (k' := 40) rfl rfl rfl ?_
    refine rn_getI (k' := 41) rfl rfl K0_118 (by decide) rfl ?_
    show Rn PT none kX12_walk 41 [some (mR 118), some (mI (a0)), some (mI (a1)), some (mI (a2)), some (mI (a3)), some (mI ((n : Int)))] [mI ((m : Int) + 1), mI ((n : Int))] (mkh (m_upd (m_set (m_upd (m_upd (m_set (m_set (m_set μ 118 0 (0)) 118 22 (g_w μ 0 (μ 14 0))) 118 23 (g_w μ 1 (μ 14 0))) 127 C) 126 T) 118 39 ((m : Int) + 1)) 135 U) c s) _
    refine rn_icmp_ge (k' := 42) rfl rfl (fun hc1 => ?_) (fun hc1 => ?_)
    · exfalso; omega
    · skip
      refine rn_aload_n (k' := 43) rfl rfl rfl ?_
      refine rn_getR (k' := 44) rfl rfl K0_118 (by decide) rfl R0_118_38 ?_
      refine rn_iload (k' := 45) rfl rfl rfl ?_
      refine rn_aload_n (k' := 46) rfl rfl rfl ?_
      refine rn_getR (k' := 47) rfl rfl K0_118 (by decide) rfl R0_118_25 ?_
      refine rn_iload (k' := 48) rfl rfl rfl ?_
      refine rn_iaload (k' := 49) rfl rfl K0_126 (by omega) (by omega) ?_
      show Rn PT none kX12_walk 49 [some (mR 118), some (mI (a0)), some (mI (a1)), some (mI (a2)), some (mI (a3)), some (mI ((n : Int)))] [mI (T (n)), mI ((n : Int)), mR 135] (mkh (m_upd (m_set (m_upd (m_upd (m_set (m_set (m_set μ 118 0 (0)) 118 22 (g_w μ 0 (μ 14 0))) 118 23 (g_w μ 1 (μ 14 0))) 127 C) 126 T) 118 39 ((m : Int) + 1)) 135 U) c s) _
      refine rn_iastore (k' := 50) rfl rfl K0_135 (by omega) (by omega) ?_
      refine rn_iinc (k' := 51) (L' := [some (mR 118), some (mI (a0)), some (mI (a1)), some (mI (a2)), some (mI (a3)), some (mI ((n : Int) + 1))]) rfl rfl rfl (by omega) rfl ?_
      refine rn_goto rfl ?_
      show Rn PT none kX12_walk 38 [some (mR 118), some (mI (a0)), some (mI (a1)), some (mI (a2)), some (mI (a3)), some (mI ((n : Int) + 1))] [] (mkh (m_set (m_upd (m_set (m_upd (m_upd (m_set (m_set (m_set μ 118 0 (0)) 118 22 (g_w μ 0 (μ 14 0))) 118 23 (g_w μ 1 (μ 14 0))) 127 C) 126 T) 118 39 ((m : Int) + 1)) 135 U) 135 n (T (n))) c s) _
      rw [set_upd_eq (a := 135)]
      exact ih (n + 1) _ _ (by omega) (by omega) (fun j hj => by
        by_cases e : j = n
        · rw [e, fs_eq]; exact hT n (by omega)
        · rw [fs_ne e]; exact hU j (by omega))
set_option maxHeartbeats 4000000 in
theorem x_X12_walk {μ : Nat → Nat → Int} {c s : Nat} (hL : I_land μ) (hS : I_scene μ) {a0 a1 a2 a3 : Int} (hv1 : g_cell μ a0) (hv2 : g_cell μ a1) (hv3 : 0 ≤ a2 ∧ a2 ≤ 99) (h0 : i32 a0) (h1 : i32 a1) (hway : (g_ok μ a0 a1 a2 (g_w μ 0 (μ 14 0)) ∧ (g_C μ a1 a2 (g_w μ 0 (μ 14 0)) (g_w μ 1 (μ 14 0))) a0.toNat < 1000000000)) {m : Nat} (m1 : m ≤ 99) (m2 : (pw μ (g_C μ a1 a2 (g_w μ 0 (μ 14 0)) (g_w μ 1 (μ 14 0))) a2 (g_w μ 1 (μ 14 0)) a0 m) = a1) (m3 : ∀ j, j < m → ¬ (pw μ (g_C μ a1 a2 (g_w μ 0 (μ 14 0)) (g_w μ 1 (μ 14 0))) a2 (g_w μ 1 (μ 14 0)) a0 j) = a1) (m4 : ∀ j, j ≤ m → g_cell μ (pw μ (g_C μ a1 a2 (g_w μ 0 (μ 14 0)) (g_w μ 1 (μ 14 0))) a2 (g_w μ 1 (μ 14 0)) a0 j) ∧ (g_C μ a1 a2 (g_w μ 0 (μ 14 0)) (g_w μ 1 (μ 14 0))) (pw μ (g_C μ a1 a2 (g_w μ 0 (μ 14 0)) (g_w μ 1 (μ 14 0))) a2 (g_w μ 1 (μ 14 0)) a0 j).toNat < 1000000000) : Cl PT 262 [mR 118, mI a0, mI a1, mI a2, mI a3] (mkh μ c s) (fun r => ∃ M2 : Nat → Nat → Int, r = (some (some (mI (fal (fun j => g_rk μ a2 (g_w μ 1 (μ 14 0)) (pw μ (g_C μ a1 a2 (g_w μ 0 (μ 14 0)) (g_w μ 1 (μ 14 0))) a2 (g_w μ 1 (μ 14 0)) a0 j) (pw μ (g_C μ a1 a2 (g_w μ 0 (μ 14 0)) (g_w μ 1 (μ 14 0))) a2 (g_w μ 1 (μ 14 0)) a0 (j + 1))) m 0 a3))), mkh M2 c s) ∧ rm kW M2 = rm kW μ ∧ M2 118 39 = (m : Int) + 1 ∧ ∀ j, j ≤ m → M2 135 j = (pw μ (g_C μ a1 a2 (g_w μ 0 (μ 14 0)) (g_w μ 1 (μ 14 0))) a2 (g_w μ 1 (μ 14 0)) a0 j)) := by
  have hL_ := hL
  obtain ⟨lc, lr, le, lm, lw, lh, lwo, lwd, q0, q1, q2, q3, q4, q8, q499, q500, lth, lG, lT, lW, -⟩ := hL_
  have hS_ := hS
  obtain ⟨sd, sw, stk, s4, s5, s6, hC, hH, -, s10, sce, swc, s13⟩ := hS_
  have hwb := g_w_b hL 0 (μ 14 0)
  have hvb := g_w_b hL 1 (μ 14 0)
  have hab := g_cell_b hL hv1
  refine ⟨_, PT_262, Nat.le_of_ble_eq_true rfl, ?_⟩
  show Rn PT none kX12_walk 0 [some (mR 118), some (mI (a0)), some (mI (a1)), some (mI (a2)), some (mI (a3)), none] [] (mkh μ c s) _
  refine rn_aload_n (k' := 1) rfl rfl rfl ?_
  refine rn_iconst (k' := 2) rfl rfl ?_
  refine rn_putI (k' := 3) rfl rfl K0_118 (by decide) rfl ?_
  refine rn_aload_n (k' := 4) rfl rfl rfl ?_
  refine rn_iload_n (k' := 5) rfl rfl rfl ?_
  refine rn_iload_n (k' := 6) rfl rfl rfl ?_
  refine rn_iload_n (k' := 7) rfl rfl rfl ?_
  refine rn_iconst (k' := 8) rfl rfl ?_
  by_cases hq2 : g_cell μ a0 ∧ g_cell μ a1 ∧ (0 ≤ a2 ∧ a2 ≤ 99) ∧ 0 ≤ (0 : Int) ∧ (0 : Int) ≤ 29
  · refine rn_callP (k' := 9) (y := 214) (vs := [mR 118, mI (a0), mI (a1), mI (a2), mI (0)]) (S' := []) (v := some (mI 1)) (h' := mkh (m_set μ 118 0 (0)) c s) rfl rfl rfl (by have hz : Cl PT 214 [mR 118, mI (a0), mI (a1), mI (a2), mI (0)] (mkh (m_set μ 118 0 (0)) c s) (fun r => r = (some (some (mI (if g_cell μ a0 ∧ g_cell μ a1 ∧ (0 ≤ a2 ∧ a2 ≤ 99) ∧ 0 ≤ (0 : Int) ∧ (0 : Int) ≤ 29 then 1 else 0))), mkh (m_set μ 118 0 (0)) c s)) := c_X12_areAll ((hL).set rfl) (a := a0) (b := a1) (t := a2) (d := 0) (by omega) (by omega) (μ := (m_set μ 118 0 (0))) (c := c) (s := s); rw [if_pos hq2] at hz; exact hz) ?_
    show Rn PT none kX12_walk 9 [some (mR 118), some (mI (a0)), some (mI (a1)), some (mI (a2)), some (mI (a3)), none] [mI (1)] (mkh (m_set μ 118 0 (0)) c s) _
    refine rn_if_ne (k' := 10) rfl rfl (fun hc3 => ?_) (fun hc3 => ?_)
    · skip
      refine rn_aload_n (k' := 13) rfl rfl rfl ?_
      refine rn_aload_n (k' := 14) rfl rfl rfl ?_
      refine rn_getR (k' := 15) rfl rfl K0_118 (by decide) rfl R0_118_6 ?_
      refine rn_sipush (k' := 16) rfl rfl ?_
      refine rn_iaload (k' := 17) rfl rfl K0_120 (by omega) (by omega) ?_
      show Rn PT none kX12_walk 17 [some (mR 118), some (mI (a0)), some (mI (a1)), some (mI (a2)), some (mI (a3)), none] [mI (μ 120 517), mR 118] (mkh (m_set μ 118 0 (0)) c s) _
      rw [s4]
      have hb4 := g_w_b hL 0 (μ 14 0)
      have hc904 := g_w_b hL 1 (μ 14 0)
      refine rn_callP (k' := 18) (y := 201) (vs := [mR 118, mI (μ 14 0)]) (S' := []) (v := none) (h' := mkh (m_set (m_set (m_set μ 118 0 (0)) 118 22 (g_w μ 0 (μ 14 0))) 118 23 (g_w μ 1 (μ 14 0))) c s) rfl rfl rfl (c_X12_of (μ := (m_set μ 118 0 (0))) ((hL).set rfl) (by omega)) ?_
      show Rn PT none kX12_walk 18 [some (mR 118), some (mI (a0)), some (mI (a1)), some (mI (a2)), some (mI (a3)), none] [] (mkh (m_set (m_set (m_set μ 118 0 (0)) 118 22 (g_w μ 0 (μ 14 0))) 118 23 (g_w μ 1 (μ 14 0))) c s) _
      refine rn_aload_n (k' := 19) rfl rfl rfl ?_
      refine rn_iload_n (k' := 20) rfl rfl rfl ?_
      refine rn_iload_n (k' := 21) rfl rfl rfl ?_
      obtain ⟨C, hB0, hcl⟩ := c_risks (μ := (m_set (m_set (m_set μ 118 0 (0)) 118 22 (g_w μ 0 (μ 14 0))) 118 23 (g_w μ 1 (μ 14 0)))) (c := c) (s := s) ((((hL).set rfl).set rfl).set rfl) (by show 0 ≤ (g_w μ 0 (μ 14 0)) ∧ (g_w μ 0 (μ 14 0)) ≤ 1000; omega) (by show 0 ≤ (g_w μ 1 (μ 14 0)) ∧ (g_w μ 1 (μ 14 0)) ≤ 99; omega) (a := a1) (t := a2) hv2 hv3
      rw [gBE_rows (ν := (m_set (m_set (m_set μ 118 0 (0)) 118 22 (g_w μ 0 (μ 14 0))) 118 23 (g_w μ 1 (μ 14 0)))) (μ := μ) rfl rfl rfl] at hB0
      have hB : (g_stand μ a1 a2 (g_w μ 0 (μ 14 0)) → gBE μ a1 a2 (g_w μ 0 (μ 14 0)) (g_w μ 1 (μ 14 0)) C) ∧ (¬ g_stand μ a1 a2 (g_w μ 0 (μ 14 0)) → ∀ j, j < 100 → C j = 1000000000) := hB0
      have hwf := way_iff hL hv3 (by omega) hv1 hB
      have hCf := hwf.mpr hway
      have hBE := hB.1 hway.1.2
      have hCe : ∀ y, g_cell μ y → C y.toNat = (g_C μ a1 a2 (g_w μ 0 (μ 14 0)) (g_w μ 1 (μ 14 0))) y.toNat := fun y hy => g_C_eq hL hv3 (by omega) hBE hy
      refine rn_callP (k' := 22) (y := 219) (vs := [mR 118, mI (a1), mI (a2)]) (S' := []) (v := none) (h' := mkh (m_upd (m_set (m_set (m_set μ 118 0 (0)) 118 22 (g_w μ 0 (μ 14 0))) 118 23 (g_w μ 1 (μ 14 0))) 127 C) c s) rfl rfl rfl (hcl) ?_
      show Rn PT none kX12_walk 22 [some (mR 118), some (mI (a0)), some (mI (a1)), some (mI (a2)), some (mI (a3)), none] [] (mkh (m_upd (m_set (m_set (m_set μ 118 0 (0)) 118 22 (g_w μ 0 (μ 14 0))) 118 23 (g_w μ 1 (μ 14 0))) 127 C) c s) _
      refine rn_aload_n (k' := 23) rfl rfl rfl ?_
      refine rn_getR (k' := 24) rfl rfl K0_118 (by decide) rfl R0_118_26 ?_
      refine rn_iload_n (k' := 25) rfl rfl rfl ?_
      refine rn_iaload (k' := 26) rfl rfl K0_127 (by omega) (by omega) ?_
      show Rn PT none kX12_walk 26 [some (mR 118), some (mI (a0)), some (mI (a1)), some (mI (a2)), some (mI (a3)), none] [mI (C ((a0).toNat))] (mkh (m_upd (m_set (m_set (m_set μ 118 0 (0)) 118 22 (g_w μ 0 (μ 14 0))) 118 23 (g_w μ 1 (μ 14 0))) 127 C) c s) _
      refine rn_ldc_w (k' := 27) rfl rfl ?_
      refine rn_icmp_lt (k' := 28) rfl rfl (fun hc5 => ?_) (fun hc5 => ?_)
      · skip
        refine rn_aload_n (k' := 31) rfl rfl rfl ?_
        refine rn_aload_n (k' := 32) rfl rfl rfl ?_
        refine rn_iload_n (k' := 33) rfl rfl rfl ?_
        refine rn_iload_n (k' := 34) rfl rfl rfl ?_
        obtain ⟨T, hT0, hcl2⟩ := c_riskWay (μ := (m_upd (m_set (m_set (m_set μ 118 0 (0)) 118 22 (g_w μ 0 (μ 14 0))) 118 23 (g_w μ 1 (μ 14 0))) 127 C)) (c := c) (s := s) (((((hL).set rfl).set rfl).set rfl).upd rfl) (by show 0 ≤ (g_w μ 0 (μ 14 0)) ∧ (g_w μ 0 (μ 14 0)) ≤ 1000; omega) (by show 0 ≤ (g_w μ 1 (μ 14 0)) ∧ (g_w μ 1 (μ 14 0)) ≤ 99; omega) (a := a1) (t := a2) (w := (g_w μ 0 (μ 14 0))) (x := a0) hv3 (GC := (g_C μ a1 a2 (g_w μ 0 (μ 14 0)) (g_w μ 1 (μ 14 0)))) (by rw [gBE_rows (ν := (m_upd (m_set (m_set (m_set μ 118 0 (0)) 118 22 (g_w μ 0 (μ 14 0))) 118 23 (g_w μ 1 (μ 14 0))) 127 C)) (μ := μ) rfl rfl rfl]; exact g_C_be hBE) hCe m1 ((pw_rows (ν := (m_upd (m_set (m_set (m_set μ 118 0 (0)) 118 22 (g_w μ 0 (μ 14 0))) 118 23 (g_w μ 1 (μ 14 0))) 127 C)) (μ := μ) rfl rfl m).trans m2) (fun j hj => by rw [pw_rows (ν := (m_upd (m_set (m_set (m_set μ 118 0 (0)) 118 22 (g_w μ 0 (μ 14 0))) 118 23 (g_w μ 1 (μ 14 0))) 127 C)) (μ := μ) rfl rfl j]; exact m3 j hj) (fun j hj => by rw [pw_rows (ν := (m_upd (m_set (m_set (m_set μ 118 0 (0)) 118 22 (g_w μ 0 (μ 14 0))) 118 23 (g_w μ 1 (μ 14 0))) 127 C)) (μ := μ) rfl rfl j]; exact m4 j hj) hv2
        have hT : ∀ j, j ≤ m → T j = (pw μ (g_C μ a1 a2 (g_w μ 0 (μ 14 0)) (g_w μ 1 (μ 14 0))) a2 (g_w μ 1 (μ 14 0)) a0 j) := fun j hj => (hT0 j hj).trans (pw_rows (ν := (m_upd (m_set (m_set (m_set μ 118 0 (0)) 118 22 (g_w μ 0 (μ 14 0))) 118 23 (g_w μ 1 (μ 14 0))) 127 C)) (μ := μ) rfl rfl j)
        refine rn_callP (k' := 35) (y := 260) (vs := [mR 118, mI (a0), mI (a2)]) (S' := [mR 118]) (v := some (mI ((m : Int) + 1))) (h' := mkh (m_upd (m_upd (m_set (m_set (m_set μ 118 0 (0)) 118 22 (g_w μ 0 (μ 14 0))) 118 23 (g_w μ 1 (μ 14 0))) 127 C) 126 T) c s) rfl rfl rfl (hcl2) ?_
        show Rn PT none kX12_walk 35 [some (mR 118), some (mI (a0)), some (mI (a1)), some (mI (a2)), some (mI (a3)), none] [mI ((m : Int) + 1), mR 118] (mkh (m_upd (m_upd (m_set (m_set (m_set μ 118 0 (0)) 118 22 (g_w μ 0 (μ 14 0))) 118 23 (g_w μ 1 (μ 14 0))) 127 C) 126 T) c s) _
        refine rn_putI (k' := 36) rfl rfl K0_118 (by decide) rfl ?_
        refine rn_iconst (k' := 37) rfl rfl ?_
        refine rn_istore (k' := 38) (L' := [some (mR 118), some (mI (a0)), some (mI (a1)), some (mI (a2)), some (mI (a3)), some (mI (0))]) rfl rfl (Nat.le_of_ble_eq_true rfl) rfl ?_
        have h := l_X12_walk (c := c) (s := s) (a3 := a3) hL hS hv1 hv2 hv3 h0 h1 m1 m2 m3 m4 (C := C) hT (m + 1) 0 0 (μ 135) rfl (by omega) (fun j hj => absurd hj (Nat.not_lt_zero j))
        rw [show m_upd (m_set (m_upd (m_upd (m_set (m_set (m_set μ 118 0 (0)) 118 22 (g_w μ 0 (μ 14 0))) 118 23 (g_w μ 1 (μ 14 0))) 127 C) 126 T) 118 39 ((m : Int) + 1)) 135 (μ 135) = (m_set (m_upd (m_upd (m_set (m_set (m_set μ 118 0 (0)) 118 22 (g_w μ 0 (μ 14 0))) 118 23 (g_w μ 1 (μ 14 0))) 127 C) 126 T) 118 39 ((m : Int) + 1)) from upd_self (μ := (m_set (m_upd (m_upd (m_set (m_set (m_set μ 118 0 (0)) 118 22 (g_w μ 0 (μ 14 0))) 118 23 (g_w μ 1 (μ 14 0))) 127 C) 126 T) 118 39 ((m : Int) + 1))) (a := 135)] at h
        exact h
      · exfalso; omega
    · exfalso; omega
  · exfalso; omega
set_option maxHeartbeats 4000000 in
theorem n_X12_walk {μ : Nat → Nat → Int} {c s : Nat} (hL : I_land μ) (hS : I_scene μ) {a0 a1 a2 a3 : Int} (hv1 : g_cell μ a0) (hv2 : g_cell μ a1) (hv3 : 0 ≤ a2 ∧ a2 ≤ 99) (h0 : i32 a0) (h1 : i32 a1) (hway : ¬ (g_ok μ a0 a1 a2 (g_w μ 0 (μ 14 0)) ∧ (g_C μ a1 a2 (g_w μ 0 (μ 14 0)) (g_w μ 1 (μ 14 0))) a0.toNat < 1000000000)) : Cl PT 262 [mR 118, mI a0, mI a1, mI a2, mI a3] (mkh μ c s) (fun r => ∃ M : Nat → Nat → Int, r = (some (some (mI (-1))), mkh M c s) ∧ rst M = rst μ) := by
  have hL_ := hL
  obtain ⟨lc, lr, le, lm, lw, lh, lwo, lwd, q0, q1, q2, q3, q4, q8, q499, q500, lth, lG, lT, lW, -⟩ := hL_
  have hS_ := hS
  obtain ⟨sd, sw, stk, s4, s5, s6, hC, hH, -, s10, sce, swc, s13⟩ := hS_
  have hwb := g_w_b hL 0 (μ 14 0)
  have hvb := g_w_b hL 1 (μ 14 0)
  have hab := g_cell_b hL hv1
  refine ⟨_, PT_262, Nat.le_of_ble_eq_true rfl, ?_⟩
  show Rn PT none kX12_walk 0 [some (mR 118), some (mI (a0)), some (mI (a1)), some (mI (a2)), some (mI (a3)), none] [] (mkh μ c s) _
  refine rn_aload_n (k' := 1) rfl rfl rfl ?_
  refine rn_iconst (k' := 2) rfl rfl ?_
  refine rn_putI (k' := 3) rfl rfl K0_118 (by decide) rfl ?_
  refine rn_aload_n (k' := 4) rfl rfl rfl ?_
  refine rn_iload_n (k' := 5) rfl rfl rfl ?_
  refine rn_iload_n (k' := 6) rfl rfl rfl ?_
  refine rn_iload_n (k' := 7) rfl rfl rfl ?_
  refine rn_iconst (k' := 8) rfl rfl ?_
  by_cases hq2 : g_cell μ a0 ∧ g_cell μ a1 ∧ (0 ≤ a2 ∧ a2 ≤ 99) ∧ 0 ≤ (0 : Int) ∧ (0 : Int) ≤ 29
  · refine rn_callP (k' := 9) (y := 214) (vs := [mR 118, mI (a0), mI (a1), mI (a2), mI (0)]) (S' := []) (v := some (mI 1)) (h' := mkh (m_set μ 118 0 (0)) c s) rfl rfl rfl (by have hz : Cl PT 214 [mR 118, mI (a0), mI (a1), mI (a2), mI (0)] (mkh (m_set μ 118 0 (0)) c s) (fun r => r = (some (some (mI (if g_cell μ a0 ∧ g_cell μ a1 ∧ (0 ≤ a2 ∧ a2 ≤ 99) ∧ 0 ≤ (0 : Int) ∧ (0 : Int) ≤ 29 then 1 else 0))), mkh (m_set μ 118 0 (0)) c s)) := c_X12_areAll ((hL).set rfl) (a := a0) (b := a1) (t := a2) (d := 0) (by omega) (by omega) (μ := (m_set μ 118 0 (0))) (c := c) (s := s); rw [if_pos hq2] at hz; exact hz) ?_
    show Rn PT none kX12_walk 9 [some (mR 118), some (mI (a0)), some (mI (a1)), some (mI (a2)), some (mI (a3)), none] [mI (1)] (mkh (m_set μ 118 0 (0)) c s) _
    refine rn_if_ne (k' := 10) rfl rfl (fun hc3 => ?_) (fun hc3 => ?_)
    · skip
      refine rn_aload_n (k' := 13) rfl rfl rfl ?_
      refine rn_aload_n (k' := 14) rfl rfl rfl ?_
      refine rn_getR (k' := 15) rfl rfl K0_118 (by decide) rfl R0_118_6 ?_
      refine rn_sipush (k' := 16) rfl rfl ?_
      refine rn_iaload (k' := 17) rfl rfl K0_120 (by omega) (by omega) ?_
      show Rn PT none kX12_walk 17 [some (mR 118), some (mI (a0)), some (mI (a1)), some (mI (a2)), some (mI (a3)), none] [mI (μ 120 517), mR 118] (mkh (m_set μ 118 0 (0)) c s) _
      rw [s4]
      have hb4 := g_w_b hL 0 (μ 14 0)
      have hc904 := g_w_b hL 1 (μ 14 0)
      refine rn_callP (k' := 18) (y := 201) (vs := [mR 118, mI (μ 14 0)]) (S' := []) (v := none) (h' := mkh (m_set (m_set (m_set μ 118 0 (0)) 118 22 (g_w μ 0 (μ 14 0))) 118 23 (g_w μ 1 (μ 14 0))) c s) rfl rfl rfl (c_X12_of (μ := (m_set μ 118 0 (0))) ((hL).set rfl) (by omega)) ?_
      show Rn PT none kX12_walk 18 [some (mR 118), some (mI (a0)), some (mI (a1)), some (mI (a2)), some (mI (a3)), none] [] (mkh (m_set (m_set (m_set μ 118 0 (0)) 118 22 (g_w μ 0 (μ 14 0))) 118 23 (g_w μ 1 (μ 14 0))) c s) _
      refine rn_aload_n (k' := 19) rfl rfl rfl ?_
      refine rn_iload_n (k' := 20) rfl rfl rfl ?_
      refine rn_iload_n (k' := 21) rfl rfl rfl ?_
      obtain ⟨C, hB0, hcl⟩ := c_risks (μ := (m_set (m_set (m_set μ 118 0 (0)) 118 22 (g_w μ 0 (μ 14 0))) 118 23 (g_w μ 1 (μ 14 0)))) (c := c) (s := s) ((((hL).set rfl).set rfl).set rfl) (by show 0 ≤ (g_w μ 0 (μ 14 0)) ∧ (g_w μ 0 (μ 14 0)) ≤ 1000; omega) (by show 0 ≤ (g_w μ 1 (μ 14 0)) ∧ (g_w μ 1 (μ 14 0)) ≤ 99; omega) (a := a1) (t := a2) hv2 hv3
      rw [gBE_rows (ν := (m_set (m_set (m_set μ 118 0 (0)) 118 22 (g_w μ 0 (μ 14 0))) 118 23 (g_w μ 1 (μ 14 0)))) (μ := μ) rfl rfl rfl] at hB0
      have hB : (g_stand μ a1 a2 (g_w μ 0 (μ 14 0)) → gBE μ a1 a2 (g_w μ 0 (μ 14 0)) (g_w μ 1 (μ 14 0)) C) ∧ (¬ g_stand μ a1 a2 (g_w μ 0 (μ 14 0)) → ∀ j, j < 100 → C j = 1000000000) := hB0
      have hwf := way_iff hL hv3 (by omega) hv1 hB
      have hCf : ¬ C a0.toNat < 1000000000 := fun z => hway (hwf.mp z)
      refine rn_callP (k' := 22) (y := 219) (vs := [mR 118, mI (a1), mI (a2)]) (S' := []) (v := none) (h' := mkh (m_upd (m_set (m_set (m_set μ 118 0 (0)) 118 22 (g_w μ 0 (μ 14 0))) 118 23 (g_w μ 1 (μ 14 0))) 127 C) c s) rfl rfl rfl (hcl) ?_
      show Rn PT none kX12_walk 22 [some (mR 118), some (mI (a0)), some (mI (a1)), some (mI (a2)), some (mI (a3)), none] [] (mkh (m_upd (m_set (m_set (m_set μ 118 0 (0)) 118 22 (g_w μ 0 (μ 14 0))) 118 23 (g_w μ 1 (μ 14 0))) 127 C) c s) _
      refine rn_aload_n (k' := 23) rfl rfl rfl ?_
      refine rn_getR (k' := 24) rfl rfl K0_118 (by decide) rfl R0_118_26 ?_
      refine rn_iload_n (k' := 25) rfl rfl rfl ?_
      refine rn_iaload (k' := 26) rfl rfl K0_127 (by omega) (by omega) ?_
      show Rn PT none kX12_walk 26 [some (mR 118), some (mI (a0)), some (mI (a1)), some (mI (a2)), some (mI (a3)), none] [mI (C ((a0).toNat))] (mkh (m_upd (m_set (m_set (m_set μ 118 0 (0)) 118 22 (g_w μ 0 (μ 14 0))) 118 23 (g_w μ 1 (μ 14 0))) 127 C) c s) _
      refine rn_ldc_w (k' := 27) rfl rfl ?_
      refine rn_icmp_lt (k' := 28) rfl rfl (fun hc5 => ?_) (fun hc5 => ?_)
      · exfalso; omega
      · skip
        refine rn_iconst (k' := 29) rfl rfl ?_
        refine rn_iret rfl (Or.inl rfl) ?_
        exact ⟨_, rfl, ((rst_upd (a := 127) (fun _ => rfl)).trans ((rst_set (a := 118) (j := 23) rfl).trans ((rst_set (a := 118) (j := 22) rfl).trans (rst_set (a := 118) (j := 0) rfl))))⟩
    · exfalso; omega
  · exfalso; omega
theorem i_X11_walk {μ : Nat → Nat → Int} {c s : Nat} (hL : I_land μ) (hS : I_scene μ) {a0 a1 a2 a3 : Int} (h0 : i32 a0) (h1 : i32 a1) (h2 : i32 a2) (h3 : i32 a3) (hv : ¬ (g_cell μ a0 ∧ g_cell μ a1 ∧ (0 ≤ a2 ∧ a2 ≤ 99))) : Cl PT 139 [mR 0, mI a0, mI a1, mI a2, mI a3] (mkh μ c s) (fun r => r = (some (some (mI (-1))), mkh μ c s)) := by
  have hL_ := hL
  obtain ⟨lc, lr, le, lm, lw, lh, lwo, lwd, q0, q1, q2, q3, q4, q8, q499, q500, lth, lG, lT, lW, -⟩ := hL_
  have hS_ := hS
  obtain ⟨sd, sw, stk, s4, s5, s6, hC, hH, -, s10, sce, swc, s13⟩ := hS_
  refine ⟨_, PT_139, Nat.le_of_ble_eq_true rfl, ?_⟩
  show Rn PT none kX11_walk 0 [some (mR 0), some (mI (a0)), some (mI (a1)), some (mI (a2)), some (mI (a3))] [] (mkh μ c s) _
  refine rn_aload_n (k' := 1) rfl rfl rfl ?_
  refine rn_iload_n (k' := 2) rfl rfl rfl ?_
  refine rn_iload_n (k' := 3) rfl rfl rfl ?_
  refine rn_iload_n (k' := 4) rfl rfl rfl ?_
  refine rn_aload_n (k' := 5) rfl rfl rfl ?_
  refine rn_getR (k' := 6) rfl rfl K0_0 (by decide) rfl R0_0_4 ?_
  refine rn_getI (k' := 7) rfl rfl K0_14 (by decide) rfl ?_
  by_cases hq1 : g_cell μ a0 ∧ g_cell μ a1 ∧ (0 ≤ a2 ∧ a2 ≤ 99) ∧ 0 ≤ (μ 14 0) ∧ (μ 14 0) ≤ 29
  · refine rn_callP (k' := 8) (y := 155) (vs := [mR 0, mI (a0), mI (a1), mI (a2), mI (μ 14 0)]) (S' := []) (v := some (mI 1)) (h' := mkh μ c s) rfl rfl rfl (by have hz : Cl PT 155 [mR 0, mI (a0), mI (a1), mI (a2), mI (μ 14 0)] (mkh μ c s) (fun r => r = (some (some (mI (if g_cell μ a0 ∧ g_cell μ a1 ∧ (0 ≤ a2 ∧ a2 ≤ 99) ∧ 0 ≤ (μ 14 0) ∧ (μ 14 0) ≤ 29 then 1 else 0))), mkh μ c s)) := c_X11_areSuch (hL) (a := a0) (b := a1) (t := a2) (d := μ 14 0) (by omega) (by omega) (μ := μ) (c := c) (s := s); rw [if_pos hq1] at hz; exact hz) ?_
    show Rn PT none kX11_walk 8 [some (mR 0), some (mI (a0)), some (mI (a1)), some (mI (a2)), some (mI (a3))] [mI (1)] (mkh μ c s) _
    refine rn_if_eq (k' := 9) rfl rfl (fun hc2 => ?_) (fun hc2 => ?_)
    · exfalso; omega
    · skip
      refine rn_aload_n (k' := 10) rfl rfl rfl ?_
      refine rn_getR (k' := 11) rfl rfl K0_0 (by decide) rfl R0_0_8 ?_
      refine rn_iload_n (k' := 12) rfl rfl rfl ?_
      refine rn_iload_n (k' := 13) rfl rfl rfl ?_
      refine rn_iload_n (k' := 14) rfl rfl rfl ?_
      refine rn_aload_n (k' := 15) rfl rfl rfl ?_
      refine rn_getR (k' := 16) rfl rfl K0_0 (by decide) rfl R0_0_4 ?_
      refine rn_getI (k' := 17) rfl rfl K0_14 (by decide) rfl ?_
      exfalso; omega
  · refine rn_callP (k' := 8) (y := 155) (vs := [mR 0, mI (a0), mI (a1), mI (a2), mI (μ 14 0)]) (S' := []) (v := some (mI 0)) (h' := mkh μ c s) rfl rfl rfl (by have hz : Cl PT 155 [mR 0, mI (a0), mI (a1), mI (a2), mI (μ 14 0)] (mkh μ c s) (fun r => r = (some (some (mI (if g_cell μ a0 ∧ g_cell μ a1 ∧ (0 ≤ a2 ∧ a2 ≤ 99) ∧ 0 ≤ (μ 14 0) ∧ (μ 14 0) ≤ 29 then 1 else 0))), mkh μ c s)) := c_X11_areSuch (hL) (a := a0) (b := a1) (t := a2) (d := μ 14 0) (by omega) (by omega) (μ := μ) (c := c) (s := s); rw [if_neg hq1] at hz; exact hz) ?_
    show Rn PT none kX11_walk 8 [some (mR 0), some (mI (a0)), some (mI (a1)), some (mI (a2)), some (mI (a3))] [mI (0)] (mkh μ c s) _
    refine rn_if_eq (k' := 9) rfl rfl (fun hc3 => ?_) (fun hc3 => ?_)
    · skip
      refine rn_iconst (k' := 20) rfl rfl ?_
      refine rn_iret rfl (Or.inl rfl) ?_
      rfl
    · exfalso; omega
theorem i_X12_walk {μ : Nat → Nat → Int} {c s : Nat} (hL : I_land μ) (hS : I_scene μ) {a0 a1 a2 a3 : Int} (h0 : i32 a0) (h1 : i32 a1) (h2 : i32 a2) (h3 : i32 a3) (hv : ¬ (g_cell μ a0 ∧ g_cell μ a1 ∧ (0 ≤ a2 ∧ a2 ≤ 99))) : Cl PT 262 [mR 118, mI a0, mI a1, mI a2, mI a3] (mkh μ c s) (fun r => r = (some (some (mI (-1))), mkh (m_set μ 118 0 0) c s)) := by
  have hL_ := hL
  obtain ⟨lc, lr, le, lm, lw, lh, lwo, lwd, q0, q1, q2, q3, q4, q8, q499, q500, lth, lG, lT, lW, -⟩ := hL_
  have hS_ := hS
  obtain ⟨sd, sw, stk, s4, s5, s6, hC, hH, -, s10, sce, swc, s13⟩ := hS_
  refine ⟨_, PT_262, Nat.le_of_ble_eq_true rfl, ?_⟩
  show Rn PT none kX12_walk 0 [some (mR 118), some (mI (a0)), some (mI (a1)), some (mI (a2)), some (mI (a3)), none] [] (mkh μ c s) _
  refine rn_aload_n (k' := 1) rfl rfl rfl ?_
  refine rn_iconst (k' := 2) rfl rfl ?_
  refine rn_putI (k' := 3) rfl rfl K0_118 (by decide) rfl ?_
  refine rn_aload_n (k' := 4) rfl rfl rfl ?_
  refine rn_iload_n (k' := 5) rfl rfl rfl ?_
  refine rn_iload_n (k' := 6) rfl rfl rfl ?_
  refine rn_iload_n (k' := 7) rfl rfl rfl ?_
  refine rn_iconst (k' := 8) rfl rfl ?_
  by_cases hq2 : g_cell μ a0 ∧ g_cell μ a1 ∧ (0 ≤ a2 ∧ a2 ≤ 99) ∧ 0 ≤ (0 : Int) ∧ (0 : Int) ≤ 29
  · refine rn_callP (k' := 9) (y := 214) (vs := [mR 118, mI (a0), mI (a1), mI (a2), mI (0)]) (S' := []) (v := some (mI 1)) (h' := mkh (m_set μ 118 0 (0)) c s) rfl rfl rfl (by have hz : Cl PT 214 [mR 118, mI (a0), mI (a1), mI (a2), mI (0)] (mkh (m_set μ 118 0 (0)) c s) (fun r => r = (some (some (mI (if g_cell μ a0 ∧ g_cell μ a1 ∧ (0 ≤ a2 ∧ a2 ≤ 99) ∧ 0 ≤ (0 : Int) ∧ (0 : Int) ≤ 29 then 1 else 0))), mkh (m_set μ 118 0 (0)) c s)) := c_X12_areAll ((hL).set rfl) (a := a0) (b := a1) (t := a2) (d := 0) (by omega) (by omega) (μ := (m_set μ 118 0 (0))) (c := c) (s := s); rw [if_pos hq2] at hz; exact hz) ?_
    show Rn PT none kX12_walk 9 [some (mR 118), some (mI (a0)), some (mI (a1)), some (mI (a2)), some (mI (a3)), none] [mI (1)] (mkh (m_set μ 118 0 (0)) c s) _
    refine rn_if_ne (k' := 10) rfl rfl (fun hc3 => ?_) (fun hc3 => ?_)
    · skip
      refine rn_aload_n (k' := 13) rfl rfl rfl ?_
      refine rn_aload_n (k' := 14) rfl rfl rfl ?_
      refine rn_getR (k' := 15) rfl rfl K0_118 (by decide) rfl R0_118_6 ?_
      refine rn_sipush (k' := 16) rfl rfl ?_
      refine rn_iaload (k' := 17) rfl rfl K0_120 (by omega) (by omega) ?_
      show Rn PT none kX12_walk 17 [some (mR 118), some (mI (a0)), some (mI (a1)), some (mI (a2)), some (mI (a3)), none] [mI (μ 120 517), mR 118] (mkh (m_set μ 118 0 (0)) c s) _
      rw [s4]
      exfalso; omega
    · exfalso; omega
  · refine rn_callP (k' := 9) (y := 214) (vs := [mR 118, mI (a0), mI (a1), mI (a2), mI (0)]) (S' := []) (v := some (mI 0)) (h' := mkh (m_set μ 118 0 (0)) c s) rfl rfl rfl (by have hz : Cl PT 214 [mR 118, mI (a0), mI (a1), mI (a2), mI (0)] (mkh (m_set μ 118 0 (0)) c s) (fun r => r = (some (some (mI (if g_cell μ a0 ∧ g_cell μ a1 ∧ (0 ≤ a2 ∧ a2 ≤ 99) ∧ 0 ≤ (0 : Int) ∧ (0 : Int) ≤ 29 then 1 else 0))), mkh (m_set μ 118 0 (0)) c s)) := c_X12_areAll ((hL).set rfl) (a := a0) (b := a1) (t := a2) (d := 0) (by omega) (by omega) (μ := (m_set μ 118 0 (0))) (c := c) (s := s); rw [if_neg hq2] at hz; exact hz) ?_
    show Rn PT none kX12_walk 9 [some (mR 118), some (mI (a0)), some (mI (a1)), some (mI (a2)), some (mI (a3)), none] [mI (0)] (mkh (m_set μ 118 0 (0)) c s) _
    refine rn_if_ne (k' := 10) rfl rfl (fun hc4 => ?_) (fun hc4 => ?_)
    · exfalso; omega
    · skip
      refine rn_iconst (k' := 11) rfl rfl ?_
      refine rn_iret rfl (Or.inl rfl) ?_
      rfl
theorem scene_rows {μ ν : Nat → Nat → Int} (h : I_scene μ) (e : rm kT ν = rm kT μ) : I_scene ν := h.congr (rm_row e (fun _ => rfl)) (rm_row e (fun _ => rfl)) (rm_row e (fun _ => rfl)) (rm_row e (fun _ => rfl)) (rm_row e (fun _ => rfl))
theorem land_rows {μ ν : Nat → Nat → Int} (h : I_land μ) (e : rm kT ν = rm kT μ) : I_land ν := h.congr (rm_row e (fun _ => rfl)) (rm_row e (fun _ => rfl)) (rm_row e (fun _ => rfl)) (rm_row e (fun _ => rfl)) (rm_row e (fun _ => rfl)) (fun j _ => by rw [rm_row e (a := 120) (fun _ => rfl)])
set_option maxHeartbeats 4000000 in
theorem pair_41 : ∀ (a0 : Int), ∀ (a1 : Int), ∀ (a2 : Int), ∀ (a3 : Int), i32 a0 → i32 a1 → i32 a2 → i32 a3 → PairI (Inv N) 139 262 [mI a0, mI a1, mI a2, mI a3] := by
  intro a0 a1 a2 a3 h0 h1 h2 h3 μ c s hI
  have hL := hI.land
  have hS := hI.scene
  by_cases hv : g_cell μ a0 ∧ g_cell μ a1 ∧ (0 ≤ a2 ∧ a2 ≤ 99)
  · obtain ⟨hv1, hv2, hv3⟩ := hv
    have hvb := g_w_b hL 1 (μ 14 0)
    by_cases hway : (g_ok μ a0 a1 a2 (g_w μ 0 (μ 14 0)) ∧ (g_C μ a1 a2 (g_w μ 0 (μ 14 0)) (g_w μ 1 (μ 14 0))) a0.toNat < 1000000000)
    · obtain ⟨MM, z1, z2, nn, rr, z3, M, m, z4, hMr, ⟨m1, m2, m3⟩, hM8, hM72, hM73⟩ := x_X11_walk (c := c) (s := s) (a3 := a3) hL hS hv1 hv2 hv3 h0 h1 hway
      have hx : Cl PT 139 [mR 0, mI a0, mI a1, mI a2, mI a3] (mkh μ c s) (fun r => r = (some (some (mI (fal (M 73) m 0 a3))), mkh (m_upd (m_set M 0 16 (M 66 8 + 1)) 117 (fl (M 72) (M 117) (M 66 8 + 1).toNat)) c s)) := ⟨MM, z1, z2, nn, rr, z3, z4⟩
      have hfe : fal (M 73) m 0 a3 = fal (fun j => g_rk μ a2 (g_w μ 1 (μ 14 0)) (pw μ (g_C μ a1 a2 (g_w μ 0 (μ 14 0)) (g_w μ 1 (μ 14 0))) a2 (g_w μ 1 (μ 14 0)) a0 j) (pw μ (g_C μ a1 a2 (g_w μ 0 (μ 14 0)) (g_w μ 1 (μ 14 0))) a2 (g_w μ 1 (μ 14 0)) a0 (j + 1))) m 0 a3 := fal_congr m 0 a3 (fun j _ hj => hM73 j (by omega))
      rw [hfe] at hx
      have hrC : rm kC (m_upd (m_set M 0 16 (M 66 8 + 1)) 117 (fl (M 72) (M 117) (M 66 8 + 1).toNat)) = rm kC μ := (rm_upd0 (fun _ => rfl)).trans ((rm_set rfl).trans (rm_same (fun a j hk => sup_eq hMr (kC_sup hk))))
      have k117 : ∀ j, j ≤ m → (m_upd (m_set M 0 16 (M 66 8 + 1)) 117 (fl (M 72) (M 117) (M 66 8 + 1).toNat)) 117 j = (pw μ (g_C μ a1 a2 (g_w μ 0 (μ 14 0)) (g_w μ 1 (μ 14 0))) a2 (g_w μ 1 (μ 14 0)) a0 j) := fun j hj => by
        show fl (M 72) (M 117) (M 66 8 + 1).toNat j = _
        rw [fl_lt (by omega), hM72 j hj]
      have k16 : (m_upd (m_set M 0 16 (M 66 8 + 1)) 117 (fl (M 72) (M 117) (M 66 8 + 1).toNat)) 0 16 = (m : Int) + 1 := by
        show M 66 8 + 1 = _
        rw [hM8]
      revert hx hrC k117 k16
      generalize (m_upd (m_set M 0 16 (M 66 8 + 1)) 117 (fl (M 72) (M 117) (M 66 8 + 1).toNat)) = μ1
      intro hx hrC k117 k16
      have hrT : rm kT μ1 = rm kT μ := rm_sub (k := kC) (fun a j hj => kT_kC hj) hrC
      have e6 : μ1 6 = μ 6 := rm_row hrT (fun _ => rfl)
      have e7 : μ1 7 = μ 7 := rm_row hrT (fun _ => rfl)
      have e8 : μ1 8 = μ 8 := rm_row hrT (fun _ => rfl)
      have e10 : μ1 10 = μ 10 := rm_row hrT (fun _ => rfl)
      have e14 : μ1 14 = μ 14 := rm_row hrT (fun _ => rfl)
      have eW : g_w μ1 = g_w μ := by delta g_w; rw [e10]
      have eC : g_C μ1 = g_C μ := g_C_rows e6 e7 e8
      have eP : ∀ j, pw μ1 (g_C μ1 a1 a2 (g_w μ1 0 (μ1 14 0)) (g_w μ1 1 (μ1 14 0))) a2 (g_w μ1 1 (μ1 14 0)) a0 j = (pw μ (g_C μ a1 a2 (g_w μ 0 (μ 14 0)) (g_w μ 1 (μ 14 0))) a2 (g_w μ 1 (μ 14 0)) a0 j) := fun j => by rw [pw_rows e6 e7 j, eC, eW, e14]
      have eg : ∀ y, g_cell μ1 y ↔ g_cell μ y := fun y => by unfold g_cell; rw [e6]
      have hway1 : (g_ok μ1 a0 a1 a2 (g_w μ1 0 (μ1 14 0)) ∧ (g_C μ1 a1 a2 (g_w μ1 0 (μ1 14 0)) (g_w μ1 1 (μ1 14 0))) a0.toNat < 1000000000) := by
        rw [eC, eW, e14]
        unfold g_ok g_stand
        rw [e7, e8]
        exact hway
      have hOK : ∃ O C Z, (g_ok μ a0 a1 a2 (g_w μ 0 (μ 14 0)) → gBE μ a1 a2 (g_w μ 0 (μ 14 0)) (g_w μ 1 (μ 14 0)) C) ∧ Cl PT 94 [mR 66, mI a0, mI a1, mI a2, mI (μ 14 0)] (mkh μ c s) (fun r => r = (some (some (mI (if g_ok μ a0 a1 a2 (g_w μ 0 (μ 14 0)) then rsk (g_C μ a1 a2 (g_w μ 0 (μ 14 0)) (g_w μ 1 (μ 14 0))) a0 else -1))), mkh (m_upd (m_upd (m_upd μ 67 O) 70 C) 71 Z) c s)) := c_leastRisk hL hv1 hv2 hv3 hS.1
      obtain ⟨O, C, Z, hBC, -⟩ := hOK
      obtain ⟨m', p1, p2, p3, p4⟩ := pw_len hL hv3 hvb (g_C_be (hBC hway.1)) hv1 hway.2
      have emm : m' = m := by
        rcases Nat.lt_trichotomy m' m with z | z | z
        · exact absurd p2 (m3 m' z)
        · exact z
        · exact absurd m2 (p3 m z)
      subst emm
      obtain ⟨M', y1, y2, n', r', y3, μ2, y4, hk2, k39, k135⟩ := x_X12_walk (μ := μ1) (c := c) (s := s) (a3 := a3) (land_rows hL hrT) (scene_rows hS hrT) ((eg a0).mpr hv1) ((eg a1).mpr hv2) hv3 h0 h1 hway1 p1 ((eP _).trans p2) (fun j hj => by rw [eP]; exact p3 j hj) (fun j hj => by rw [eP, eC, eW, e14]; exact ⟨(eg _).mpr (p4 j hj).1, (p4 j hj).2⟩)
      have hfm : fal (fun j => g_rk μ1 a2 (g_w μ1 1 (μ1 14 0)) (pw μ1 (g_C μ1 a1 a2 (g_w μ1 0 (μ1 14 0)) (g_w μ1 1 (μ1 14 0))) a2 (g_w μ1 1 (μ1 14 0)) a0 j) (pw μ1 (g_C μ1 a1 a2 (g_w μ1 0 (μ1 14 0)) (g_w μ1 1 (μ1 14 0))) a2 (g_w μ1 1 (μ1 14 0)) a0 (j + 1))) m' 0 a3 = fal (fun j => g_rk μ a2 (g_w μ 1 (μ 14 0)) (pw μ (g_C μ a1 a2 (g_w μ 0 (μ 14 0)) (g_w μ 1 (μ 14 0))) a2 (g_w μ 1 (μ 14 0)) a0 j) (pw μ (g_C μ a1 a2 (g_w μ 0 (μ 14 0)) (g_w μ 1 (μ 14 0))) a2 (g_w μ 1 (μ 14 0)) a0 (j + 1))) m' 0 a3 := fal_congr m' 0 a3 (fun j _ _ => by
        rw [eP, eP, g_rk_rows e7, eW, e14])
      rw [hfm] at y4
      have hr2 : rm kT μ2 = rm kT μ := (rm_sub (k := kW) (fun a j hj => kT_kW hj) hk2).trans hrT
      refine ⟨_, μ1, μ2, hx, ⟨M', y1, y2, n', r', y3, y4⟩, last_inv hI hr2 ?_⟩
      have l1 := hI.last
      have kr : ∀ a, (∀ j, kW a j = true) → (∀ j, kC a j = true) → μ2 a = μ a := fun a w1 w2 => (rm_row hk2 w1).trans (rm_row hrC w2)
      have kc : ∀ a j, kW a j = true → kC a j = true → μ2 a j = μ a j := fun a j w1 w2 => (rm_cell hk2 w1).trans (rm_cell hrC w2)
      refine ⟨?_, ⟨?_, ?_, fun j hj => ?_⟩, ?_, ?_⟩
      · rw [kc 0 14 rfl rfl, kc 118 31 rfl rfl, kr 130 (fun _ => rfl) (fun _ => rfl), kr 116 (fun _ => rfl) (fun _ => rfl)]
        exact l1.1
      · rw [rm_cell hk2 (a := 0) (j := 16) rfl, k16]; omega
      · rw [rm_cell hk2 (a := 0) (j := 16) rfl, k16, k39]
      · rw [rm_cell hk2 (a := 0) (j := 16) rfl, k16] at hj
        rw [rm_row hk2 (a := 117) (fun _ => rfl), k117 j (by omega), k135 j (by omega), eP]
      · rw [kc 112 5 rfl rfl, kc 118 37 rfl rfl, kr 134 (fun _ => rfl) (fun _ => rfl), kr 115 (fun _ => rfl) (fun _ => rfl)]
        exact l1.2.2.1
      · rw [kc 82 9 rfl rfl, kc 118 44 rfl rfl, kr 136 (fun _ => rfl) (fun _ => rfl), kr 87 (fun _ => rfl) (fun _ => rfl)]
        exact l1.2.2.2
    · obtain ⟨μ1, hr1, c1⟩ := Cl.ex (g := fun M => (some (some (mI (-1))), mkh M c s)) (n_X11_walk (c := c) (s := s) (a3 := a3) hL hS hv1 hv2 hv3 h0 h1 hway)
      have hrT := rm_rst hr1
      have e6 : μ1 6 = μ 6 := rm_row hrT (fun _ => rfl)
      have e7 : μ1 7 = μ 7 := rm_row hrT (fun _ => rfl)
      have e8 : μ1 8 = μ 8 := rm_row hrT (fun _ => rfl)
      have e10 : μ1 10 = μ 10 := rm_row hrT (fun _ => rfl)
      have e14 : μ1 14 = μ 14 := rm_row hrT (fun _ => rfl)
      have eW : g_w μ1 = g_w μ := by delta g_w; rw [e10]
      have eC : g_C μ1 = g_C μ := g_C_rows e6 e7 e8
      have eg : ∀ y, g_cell μ1 y ↔ g_cell μ y := fun y => by unfold g_cell; rw [e6]
      have hway1 : ¬ (g_ok μ1 a0 a1 a2 (g_w μ1 0 (μ1 14 0)) ∧ (g_C μ1 a1 a2 (g_w μ1 0 (μ1 14 0)) (g_w μ1 1 (μ1 14 0))) a0.toNat < 1000000000) := by
        rw [eC, eW, e14]
        unfold g_ok g_stand
        rw [e7, e8]
        exact hway
      obtain ⟨μ2, hr2, c2⟩ := Cl.ex (g := fun M => (some (some (mI (-1))), mkh M c s)) (n_X12_walk (μ := μ1) (c := c) (s := s) (a3 := a3) (land_rows hL hrT) (scene_rows hS hrT) ((eg a0).mpr hv1) ((eg a1).mpr hv2) hv3 h0 h1 hway1)
      exact ⟨-1, μ1, μ2, c1, c2, hI.same (hr2.trans hr1)⟩
  · exact ⟨-1, μ, m_set μ 118 0 0, i_X11_walk hL hS h0 h1 h2 h3 hv, i_X12_walk hL hS h0 h1 h2 h3 hv, hI.set rfl⟩
theorem pw_rows' {μ ν : Nat → Nat → Int} (e6 : ν 6 = μ 6) (e7 : ν 7 = μ 7) : pw ν = pw μ := by
  funext C t v x n
  exact pw_rows e6 e7 n
/-- how many of n seeds fall -/
def flc (R : Nat → Int) (m : Nat) (sd : Int) : Nat → Int
  | 0 => 0
  | n + 1 => flc R m sd n + (if fal R m 0 (w32 (sd + (n : Int))) = 0 then 0 else 1)
theorem flc_b {R : Nat → Int} {m : Nat} {sd : Int} : ∀ n : Nat, 0 ≤ flc R m sd n ∧ flc R m sd n ≤ n
  | 0 => ⟨Int.le_refl 0, Int.le_refl 0⟩
  | n + 1 => by
    have := flc_b (R := R) (m := m) (sd := sd) n
    show 0 ≤ flc R m sd n + (if fal R m 0 (w32 (sd + (n : Int))) = 0 then 0 else 1) ∧ flc R m sd n + (if fal R m 0 (w32 (sd + (n : Int))) = 0 then 0 else 1) ≤ ((n + 1 : Nat) : Int)
    split <;> omega
theorem flc_congr {R S : Nat → Int} {m : Nat} {sd : Int} (h : ∀ j, j < m → R j = S j) : ∀ n : Nat, flc R m sd n = flc S m sd n
  | 0 => rfl
  | n + 1 => by
    show flc R m sd n + (if fal R m 0 (w32 (sd + (n : Int))) = 0 then 0 else 1) = flc S m sd n + (if fal S m 0 (w32 (sd + (n : Int))) = 0 then 0 else 1)
    rw [flc_congr h n, fal_congr m 0 _ (fun j _ hj => h j (by omega))]
noncomputable def g_fl (μ : Nat → Nat → Int) (a0 a1 a2 a3 a4 : Int) : Int := flc (fun j => g_rk μ a2 (g_w μ 1 (μ 14 0)) (pw μ (g_C μ a1 a2 (g_w μ 0 (μ 14 0)) (g_w μ 1 (μ 14 0))) a2 (g_w μ 1 (μ 14 0)) a0 j) (pw μ (g_C μ a1 a2 (g_w μ 0 (μ 14 0)) (g_w μ 1 (μ 14 0))) a2 (g_w μ 1 (μ 14 0)) a0 (j + 1))) (fF (fun n => pw μ (g_C μ a1 a2 (g_w μ 0 (μ 14 0)) (g_w μ 1 (μ 14 0))) a2 (g_w μ 1 (μ 14 0)) a0 n = a1) 0 100).toNat a4 a3.toNat
theorem g_fl_rows {μ ν : Nat → Nat → Int} (e6 : ν 6 = μ 6) (e7 : ν 7 = μ 7) (e8 : ν 8 = μ 8) (e10 : ν 10 = μ 10) (e14 : ν 14 = μ 14) : g_fl ν = g_fl μ := by
  have eW : g_w ν = g_w μ := by delta g_w; rw [e10]
  delta g_fl
  rw [pw_rows' e6 e7, g_C_rows e6 e7 e8, g_rk_rows e7, eW, e14]
theorem g_fl_is {μ : Nat → Nat → Int} {a0 a1 a2 a3 a4 : Int} {m : Nat} (m1 : m ≤ 99) (m2 : (pw μ (g_C μ a1 a2 (g_w μ 0 (μ 14 0)) (g_w μ 1 (μ 14 0))) a2 (g_w μ 1 (μ 14 0)) a0 m) = a1) (m3 : ∀ j, j < m → ¬ (pw μ (g_C μ a1 a2 (g_w μ 0 (μ 14 0)) (g_w μ 1 (μ 14 0))) a2 (g_w μ 1 (μ 14 0)) a0 j) = a1) : g_fl μ a0 a1 a2 a3 a4 = flc (fun j => g_rk μ a2 (g_w μ 1 (μ 14 0)) (pw μ (g_C μ a1 a2 (g_w μ 0 (μ 14 0)) (g_w μ 1 (μ 14 0))) a2 (g_w μ 1 (μ 14 0)) a0 j) (pw μ (g_C μ a1 a2 (g_w μ 0 (μ 14 0)) (g_w μ 1 (μ 14 0))) a2 (g_w μ 1 (μ 14 0)) a0 (j + 1))) m a4 a3.toNat := by
  unfold g_fl
  rw [fF_first (p := fun n => pw μ (g_C μ a1 a2 (g_w μ 0 (μ 14 0)) (g_w μ 1 (μ 14 0))) a2 (g_w μ 1 (μ 14 0)) a0 n = a1) m2 100 0 (fun j _ hj => m3 j hj) (by omega) (by omega)]
  rfl
set_option maxHeartbeats 4000000 in
theorem l_X11_falls {μ : Nat → Nat → Int} {c s : Nat} {a0 a1 a2 a4 : Int} {K m : Nat} (hK : 1 ≤ K ∧ K ≤ 200) (hM8 : μ 66 8 = (m : Int)) (m1 : m ≤ 99) : ∀ (d n : Nat) (k : Int) (acc : Int), k = (n : Int) → acc = flc (μ 73) m a4 n → n + d = K → Rn PT none kX11_falls 31 [some (mR 0), some (mI (a0)), some (mI (a1)), some (mI (a2)), some (mI ((K : Int))), some (mI (a4)), some (mI (acc)), some (mI (k))] [] (mkh μ c s) (fun r => r = (some (some (mI (flc (μ 73) m a4 K))), mkh μ c s)) := by
  intro d
  induction d with
  | zero =>
    intro n k acc ek eacc hn 
    subst ek eacc
    have hfb := flc_b (R := μ 73) (m := m) (sd := a4) n
    refine rn_iload (k' := 32) rfl rfl rfl ?_
    refine rn_iload (k' := 33) rfl rfl rfl ?_
    refine rn_icmp_ge (k' := 34) rfl rfl (fun hc1 => ?_) (fun hc1 => ?_)
    · skip
      refine rn_iload (k' := 45) rfl rfl rfl ?_
      refine rn_iret rfl (Or.inl rfl) ?_
      rw [show K = n by omega]
    · exfalso; omega
  | succ d ih =>
    intro n k acc ek eacc hn 
    subst ek eacc
    have hfb := flc_b (R := μ 73) (m := m) (sd := a4) n
    refine rn_iload (k' := 32) rfl rfl rfl ?_
    refine rn_iload (k' := 33) rfl rfl rfl ?_
    refine rn_icmp_ge (k' := 34) rfl rfl (fun hc1 => ?_) (fun hc1 => ?_)
    · exfalso; omega
    · skip
      refine rn_aload_n (k' := 35) rfl rfl rfl ?_
      refine rn_getR (k' := 36) rfl rfl K0_0 (by decide) rfl R0_0_8 ?_
      refine rn_iload (k' := 37) rfl rfl rfl ?_
      refine rn_iload (k' := 38) rfl rfl rfl ?_
      refine rn_iaddW (k' := 39) rfl rfl ?_
      refine rn_callP (k' := 40) (y := 99) (vs := [mR 66, mI (w32 (a4 + (n : Int)))]) (S' := []) (v := some (mI (fal (μ 73) m 0 (w32 (a4 + (n : Int)))))) (h' := mkh μ c s) rfl rfl rfl (c_X10_fallOf (μ := μ) (c := c) (s := s) (m := m) (sd := w32 (a4 + (n : Int))) hM8 m1) ?_
      show Rn PT none kX11_falls 40 [some (mR 0), some (mI (a0)), some (mI (a1)), some (mI (a2)), some (mI ((K : Int))), some (mI (a4)), some (mI (flc (μ 73) m a4 n)), some (mI ((n : Int)))] [mI (fal (μ 73) m 0 (w32 (a4 + (n : Int))))] (mkh μ c s) _
      refine rn_if_eq (k' := 41) rfl rfl (fun hc2 => ?_) (fun hc2 => ?_)
      · skip
        refine rn_iinc (k' := 43) (L' := [some (mR 0), some (mI (a0)), some (mI (a1)), some (mI (a2)), some (mI ((K : Int))), some (mI (a4)), some (mI (flc (μ 73) m a4 n)), some (mI ((n : Int) + 1))]) rfl rfl rfl (by omega) rfl ?_
        refine rn_goto rfl ?_
        exact ih (n + 1) _ _ (by omega) (by show _ = flc (μ 73) m a4 n + (if _ then _ else _); first | rw [if_pos (by assumption), Int.add_zero] | rw [if_neg (by assumption)]) (by omega)
      · skip
        refine rn_iinc (k' := 42) (L' := [some (mR 0), some (mI (a0)), some (mI (a1)), some (mI (a2)), some (mI ((K : Int))), some (mI (a4)), some (mI (flc (μ 73) m a4 n + 1)), some (mI ((n : Int)))]) rfl rfl rfl (by omega) rfl ?_
        refine rn_iinc (k' := 43) (L' := [some (mR 0), some (mI (a0)), some (mI (a1)), some (mI (a2)), some (mI ((K : Int))), some (mI (a4)), some (mI (flc (μ 73) m a4 n + 1)), some (mI ((n : Int) + 1))]) rfl rfl rfl (by omega) rfl ?_
        refine rn_goto rfl ?_
        exact ih (n + 1) _ _ (by omega) (by show _ = flc (μ 73) m a4 n + (if _ then _ else _); first | rw [if_pos (by assumption), Int.add_zero] | rw [if_neg (by assumption)]) (by omega)
set_option maxHeartbeats 4000000 in
theorem x_X11_falls {μ : Nat → Nat → Int} {c s : Nat} (hL : I_land μ) (hS : I_scene μ) {a0 a1 a2 a4 : Int} {K : Nat} (hv1 : g_cell μ a0) (hv2 : g_cell μ a1) (hv3 : 0 ≤ a2 ∧ a2 ≤ 99) (hK : 1 ≤ K ∧ K ≤ 200) (h0 : i32 a0) (h1 : i32 a1) (hway : (g_ok μ a0 a1 a2 (g_w μ 0 (μ 14 0)) ∧ (g_C μ a1 a2 (g_w μ 0 (μ 14 0)) (g_w μ 1 (μ 14 0))) a0.toNat < 1000000000)) : Cl PT 140 [mR 0, mI a0, mI a1, mI a2, mI ((K : Int)), mI a4] (mkh μ c s) (fun r => ∃ M : Nat → Nat → Int, r = (some (some (mI (g_fl μ a0 a1 a2 (K : Int) a4))), mkh M c s) ∧ rst M = rst μ) := by
  have hL_ := hL
  obtain ⟨lc, lr, le, lm, lw, lh, lwo, lwd, q0, q1, q2, q3, q4, q8, q499, q500, lth, lG, lT, lW, -⟩ := hL_
  have hS_ := hS
  obtain ⟨sd, sw, stk, s4, s5, s6, hC, hH, -, s10, sce, swc, s13⟩ := hS_
  refine ⟨_, PT_140, Nat.le_of_ble_eq_true rfl, ?_⟩
  show Rn PT none kX11_falls 0 [some (mR 0), some (mI (a0)), some (mI (a1)), some (mI (a2)), some (mI ((K : Int))), some (mI (a4)), none, none] [] (mkh μ c s) _
  refine rn_aload_n (k' := 1) rfl rfl rfl ?_
  refine rn_iload_n (k' := 2) rfl rfl rfl ?_
  refine rn_iload_n (k' := 3) rfl rfl rfl ?_
  refine rn_iload_n (k' := 4) rfl rfl rfl ?_
  refine rn_aload_n (k' := 5) rfl rfl rfl ?_
  refine rn_getR (k' := 6) rfl rfl K0_0 (by decide) rfl R0_0_4 ?_
  refine rn_getI (k' := 7) rfl rfl K0_14 (by decide) rfl ?_
  by_cases hq1 : g_cell μ a0 ∧ g_cell μ a1 ∧ (0 ≤ a2 ∧ a2 ≤ 99) ∧ 0 ≤ (μ 14 0) ∧ (μ 14 0) ≤ 29
  · refine rn_callP (k' := 8) (y := 155) (vs := [mR 0, mI (a0), mI (a1), mI (a2), mI (μ 14 0)]) (S' := []) (v := some (mI 1)) (h' := mkh μ c s) rfl rfl rfl (by have hz : Cl PT 155 [mR 0, mI (a0), mI (a1), mI (a2), mI (μ 14 0)] (mkh μ c s) (fun r => r = (some (some (mI (if g_cell μ a0 ∧ g_cell μ a1 ∧ (0 ≤ a2 ∧ a2 ≤ 99) ∧ 0 ≤ (μ 14 0) ∧ (μ 14 0) ≤ 29 then 1 else 0))), mkh μ c s)) := c_X11_areSuch (hL) (a := a0) (b := a1) (t := a2) (d := μ 14 0) (by omega) (by omega) (μ := μ) (c := c) (s := s); rw [if_pos hq1] at hz; exact hz) ?_
    show Rn PT none kX11_falls 8 [some (mR 0), some (mI (a0)), some (mI (a1)), some (mI (a2)), some (mI ((K : Int))), some (mI (a4)), none, none] [mI (1)] (mkh μ c s) _
    refine rn_if_eq (k' := 9) rfl rfl (fun hc2 => ?_) (fun hc2 => ?_)
    · exfalso; omega
    · skip
      refine rn_iload (k' := 10) rfl rfl rfl ?_
      refine rn_iconst (k' := 11) rfl rfl ?_
      refine rn_icmp_lt (k' := 12) rfl rfl (fun hc3 => ?_) (fun hc3 => ?_)
      · exfalso; omega
      · skip
        refine rn_iload (k' := 13) rfl rfl rfl ?_
        refine rn_sipush (k' := 14) rfl rfl ?_
        refine rn_icmp_gt (k' := 15) rfl rfl (fun hc4 => ?_) (fun hc4 => ?_)
        · exfalso; omega
        · skip
          refine rn_aload_n (k' := 16) rfl rfl rfl ?_
          refine rn_getR (k' := 17) rfl rfl K0_0 (by decide) rfl R0_0_8 ?_
          refine rn_iload_n (k' := 18) rfl rfl rfl ?_
          refine rn_iload_n (k' := 19) rfl rfl rfl ?_
          refine rn_iload_n (k' := 20) rfl rfl rfl ?_
          refine rn_aload_n (k' := 21) rfl rfl rfl ?_
          refine rn_getR (k' := 22) rfl rfl K0_0 (by decide) rfl R0_0_4 ?_
          refine rn_getI (k' := 23) rfl rfl K0_14 (by decide) rfl ?_
          obtain ⟨MM, z1, z2, nn, rr, z3, M, m, z4, hMr, m1, m2, m3, hM8, hM72, hM73⟩ := x_layWay (c := c) (s := s) hL (x := a0) (a := a1) (t := a2) (dy := μ 14 0) hv1 hv2 hv3 (by omega) hway
          have hcl : Cl PT 97 [mR 66, mI a0, mI a1, mI a2, mI (μ 14 0)] (mkh μ c s) (fun r => r = (some (some (mI 1)), mkh M c s)) := ⟨MM, z1, z2, nn, rr, z3, z4⟩
          refine rn_callP (k' := 24) (y := 97) (vs := [mR 66, mI (a0), mI (a1), mI (a2), mI (μ 14 0)]) (S' := []) (v := some (mI (1))) (h' := mkh M c s) rfl rfl rfl (hcl) ?_
          show Rn PT none kX11_falls 24 [some (mR 0), some (mI (a0)), some (mI (a1)), some (mI (a2)), some (mI ((K : Int))), some (mI (a4)), none, none] [mI (1)] (mkh M c s) _
          refine rn_if_ne (k' := 25) rfl rfl (fun hc5 => ?_) (fun hc5 => ?_)
          · skip
            refine rn_iconst (k' := 28) rfl rfl ?_
            refine rn_istore (k' := 29) (L' := [some (mR 0), some (mI (a0)), some (mI (a1)), some (mI (a2)), some (mI ((K : Int))), some (mI (a4)), some (mI (0)), none]) rfl rfl (Nat.le_of_ble_eq_true rfl) rfl ?_
            refine rn_iconst (k' := 30) rfl rfl ?_
            refine rn_istore (k' := 31) (L' := [some (mR 0), some (mI (a0)), some (mI (a1)), some (mI (a2)), some (mI ((K : Int))), some (mI (a4)), some (mI (0)), some (mI (0))]) rfl rfl (Nat.le_of_ble_eq_true rfl) rfl ?_
            refine (l_X11_falls (μ := M) (c := c) (s := s) (a0 := a0) (a1 := a1) (a2 := a2) (a4 := a4) hK hM8 m1 K 0 _ _ rfl rfl (by omega)).mono (fun r hr => ⟨M, ?_, hMr⟩)
            rw [hr, g_fl_is m1 m2 m3]
            rw [flc_congr (fun j hj => hM73 j hj)]
            rfl
          · exfalso; omega
  · exfalso; omega
set_option maxHeartbeats 4000000 in
theorem n_X11_falls {μ : Nat → Nat → Int} {c s : Nat} (hL : I_land μ) (hS : I_scene μ) {a0 a1 a2 a4 : Int} {K : Nat} (hv1 : g_cell μ a0) (hv2 : g_cell μ a1) (hv3 : 0 ≤ a2 ∧ a2 ≤ 99) (hK : 1 ≤ K ∧ K ≤ 200) (h0 : i32 a0) (h1 : i32 a1) (hway : ¬ (g_ok μ a0 a1 a2 (g_w μ 0 (μ 14 0)) ∧ (g_C μ a1 a2 (g_w μ 0 (μ 14 0)) (g_w μ 1 (μ 14 0))) a0.toNat < 1000000000)) : Cl PT 140 [mR 0, mI a0, mI a1, mI a2, mI ((K : Int)), mI a4] (mkh μ c s) (fun r => ∃ M : Nat → Nat → Int, r = (some (some (mI (-1))), mkh M c s) ∧ rst M = rst μ) := by
  have hL_ := hL
  obtain ⟨lc, lr, le, lm, lw, lh, lwo, lwd, q0, q1, q2, q3, q4, q8, q499, q500, lth, lG, lT, lW, -⟩ := hL_
  have hS_ := hS
  obtain ⟨sd, sw, stk, s4, s5, s6, hC, hH, -, s10, sce, swc, s13⟩ := hS_
  refine ⟨_, PT_140, Nat.le_of_ble_eq_true rfl, ?_⟩
  show Rn PT none kX11_falls 0 [some (mR 0), some (mI (a0)), some (mI (a1)), some (mI (a2)), some (mI ((K : Int))), some (mI (a4)), none, none] [] (mkh μ c s) _
  refine rn_aload_n (k' := 1) rfl rfl rfl ?_
  refine rn_iload_n (k' := 2) rfl rfl rfl ?_
  refine rn_iload_n (k' := 3) rfl rfl rfl ?_
  refine rn_iload_n (k' := 4) rfl rfl rfl ?_
  refine rn_aload_n (k' := 5) rfl rfl rfl ?_
  refine rn_getR (k' := 6) rfl rfl K0_0 (by decide) rfl R0_0_4 ?_
  refine rn_getI (k' := 7) rfl rfl K0_14 (by decide) rfl ?_
  by_cases hq1 : g_cell μ a0 ∧ g_cell μ a1 ∧ (0 ≤ a2 ∧ a2 ≤ 99) ∧ 0 ≤ (μ 14 0) ∧ (μ 14 0) ≤ 29
  · refine rn_callP (k' := 8) (y := 155) (vs := [mR 0, mI (a0), mI (a1), mI (a2), mI (μ 14 0)]) (S' := []) (v := some (mI 1)) (h' := mkh μ c s) rfl rfl rfl (by have hz : Cl PT 155 [mR 0, mI (a0), mI (a1), mI (a2), mI (μ 14 0)] (mkh μ c s) (fun r => r = (some (some (mI (if g_cell μ a0 ∧ g_cell μ a1 ∧ (0 ≤ a2 ∧ a2 ≤ 99) ∧ 0 ≤ (μ 14 0) ∧ (μ 14 0) ≤ 29 then 1 else 0))), mkh μ c s)) := c_X11_areSuch (hL) (a := a0) (b := a1) (t := a2) (d := μ 14 0) (by omega) (by omega) (μ := μ) (c := c) (s := s); rw [if_pos hq1] at hz; exact hz) ?_
    show Rn PT none kX11_falls 8 [some (mR 0), some (mI (a0)), some (mI (a1)), some (mI (a2)), some (mI ((K : Int))), some (mI (a4)), none, none] [mI (1)] (mkh μ c s) _
    refine rn_if_eq (k' := 9) rfl rfl (fun hc2 => ?_) (fun hc2 => ?_)
    · exfalso; omega
    · skip
      refine rn_iload (k' := 10) rfl rfl rfl ?_
      refine rn_iconst (k' := 11) rfl rfl ?_
      refine rn_icmp_lt (k' := 12) rfl rfl (fun hc3 => ?_) (fun hc3 => ?_)
      · exfalso; omega
      · skip
        refine rn_iload (k' := 13) rfl rfl rfl ?_
        refine rn_sipush (k' := 14) rfl rfl ?_
        refine rn_icmp_gt (k' := 15) rfl rfl (fun hc4 => ?_) (fun hc4 => ?_)
        · exfalso; omega
        · skip
          refine rn_aload_n (k' := 16) rfl rfl rfl ?_
          refine rn_getR (k' := 17) rfl rfl K0_0 (by decide) rfl R0_0_8 ?_
          refine rn_iload_n (k' := 18) rfl rfl rfl ?_
          refine rn_iload_n (k' := 19) rfl rfl rfl ?_
          refine rn_iload_n (k' := 20) rfl rfl rfl ?_
          refine rn_aload_n (k' := 21) rfl rfl rfl ?_
          refine rn_getR (k' := 22) rfl rfl K0_0 (by decide) rfl R0_0_4 ?_
          refine rn_getI (k' := 23) rfl rfl K0_14 (by decide) rfl ?_
          obtain ⟨M, hMr, hcl⟩ := Cl.ex (g := fun M => (some (some (mI 0)), mkh M c s)) (n_layWay (c := c) (s := s) hL (x := a0) (a := a1) (t := a2) (dy := μ 14 0) hv1 hv2 hv3 (by omega) hway)
          refine rn_callP (k' := 24) (y := 97) (vs := [mR 66, mI (a0), mI (a1), mI (a2), mI (μ 14 0)]) (S' := []) (v := some (mI (0))) (h' := mkh M c s) rfl rfl rfl (hcl) ?_
          show Rn PT none kX11_falls 24 [some (mR 0), some (mI (a0)), some (mI (a1)), some (mI (a2)), some (mI ((K : Int))), some (mI (a4)), none, none] [mI (0)] (mkh M c s) _
          refine rn_if_ne (k' := 25) rfl rfl (fun hc5 => ?_) (fun hc5 => ?_)
          · exfalso; omega
          · skip
            refine rn_iconst (k' := 26) rfl rfl ?_
            refine rn_iret rfl (Or.inl rfl) ?_
            exact ⟨M, rfl, hMr⟩
  · exfalso; omega
set_option maxHeartbeats 4000000 in
theorem l_X12_falls {μ : Nat → Nat → Int} {c s : Nat} (hL : I_land μ) (hS : I_scene μ) {a0 a1 a2 a4 : Int} {K : Nat} (hv1 : g_cell μ a0) (hv2 : g_cell μ a1) (hv3 : 0 ≤ a2 ∧ a2 ≤ 99) (hK : 1 ≤ K ∧ K ≤ 200) (h0 : i32 a0) (h1 : i32 a1) {m : Nat} (m1 : m ≤ 99) (m2 : (pw μ (g_C μ a1 a2 (g_w μ 0 (μ 14 0)) (g_w μ 1 (μ 14 0))) a2 (g_w μ 1 (μ 14 0)) a0 m) = a1) (m3 : ∀ j, j < m → ¬ (pw μ (g_C μ a1 a2 (g_w μ 0 (μ 14 0)) (g_w μ 1 (μ 14 0))) a2 (g_w μ 1 (μ 14 0)) a0 j) = a1) (m4 : ∀ j, j ≤ m → g_cell μ (pw μ (g_C μ a1 a2 (g_w μ 0 (μ 14 0)) (g_w μ 1 (μ 14 0))) a2 (g_w μ 1 (μ 14 0)) a0 j) ∧ (g_C μ a1 a2 (g_w μ 0 (μ 14 0)) (g_w μ 1 (μ 14 0))) (pw μ (g_C μ a1 a2 (g_w μ 0 (μ 14 0)) (g_w μ 1 (μ 14 0))) a2 (g_w μ 1 (μ 14 0)) a0 j).toNat < 1000000000) {C T : Nat → Int} (hT : ∀ j, j ≤ m → T j = (pw μ (g_C μ a1 a2 (g_w μ 0 (μ 14 0)) (g_w μ 1 (μ 14 0))) a2 (g_w μ 1 (μ 14 0)) a0 j)) : ∀ (d n : Nat) (k : Int) (acc : Int) (z : Int), k = (n : Int) → acc = flc (fun j => g_rk μ a2 (g_w μ 1 (μ 14 0)) (pw μ (g_C μ a1 a2 (g_w μ 0 (μ 14 0)) (g_w μ 1 (μ 14 0))) a2 (g_w μ 1 (μ 14 0)) a0 j) (pw μ (g_C μ a1 a2 (g_w μ 0 (μ 14 0)) (g_w μ 1 (μ 14 0))) a2 (g_w μ 1 (μ 14 0)) a0 (j + 1))) m a4 n → n + d = K → Rn PT none kX12_falls 44 [some (mR 118), some (mI (a0)), some (mI (a1)), some (mI (a2)), some (mI ((K : Int))), some (mI (a4)), some (mI ((m : Int) + 1)), some (mI (acc)), some (mI (k))] [] (mkh (m_set (m_upd (m_upd (m_set (m_set (m_set μ 118 0 (0)) 118 22 (g_w μ 0 (μ 14 0))) 118 23 (g_w μ 1 (μ 14 0))) 127 C) 126 T) 118 40 (z)) c s) (fun r => ∃ M : Nat → Nat → Int, r = (some (some (mI (flc (fun j => g_rk μ a2 (g_w μ 1 (μ 14 0)) (pw μ (g_C μ a1 a2 (g_w μ 0 (μ 14 0)) (g_w μ 1 (μ 14 0))) a2 (g_w μ 1 (μ 14 0)) a0 j) (pw μ (g_C μ a1 a2 (g_w μ 0 (μ 14 0)) (g_w μ 1 (μ 14 0))) a2 (g_w μ 1 (μ 14 0)) a0 (j + 1))) m a4 K))), mkh M c s) ∧ rst M = rst μ) := by
  have hL_ := hL
  obtain ⟨lc, lr, le, lm, lw, lh, lwo, lwd, q0, q1, q2, q3, q4, q8, q499, q500, lth, lG, lT, lW, -⟩ := hL_
  have hS_ := hS
  obtain ⟨sd, sw, stk, s4, s5, s6, hC, hH, -, s10, sce, swc, s13⟩ := hS_
  have hwb := g_w_b hL 0 (μ 14 0)
  have hvb := g_w_b hL 1 (μ 14 0)
  intro d
  induction d with
  | zero =>
    intro n k acc z ek eacc hn 
    subst ek eacc
    have hfb := flc_b (R := (fun j => g_rk μ a2 (g_w μ 1 (μ 14 0)) (pw μ (g_C μ a1 a2 (g_w μ 0 (μ 14 0)) (g_w μ 1 (μ 14 0))) a2 (g_w μ 1 (μ 14 0)) a0 j) (pw μ (g_C μ a1 a2 (g_w μ 0 (μ 14 0)) (g_w μ 1 (μ 14 0))) a2 (g_w μ 1 (μ 14 0)) a0 (j + 1)))) (m := m) (sd := a4) n
    refine rn_iload (k' := 45) rfl rfl rfl ?_
    refine rn_iload (k' := 46) rfl rfl rfl ?_
    refine rn_icmp_ge (k' := 47) rfl rfl (fun hc1 => ?_) (fun hc1 => ?_)
    · skip
      refine rn_iload (k' := 64) rfl rfl rfl ?_
      refine rn_iret rfl (Or.inl rfl) ?_
      refine ⟨(m_set (m_upd (m_upd (m_set (m_set (m_set μ 118 0 (0)) 118 22 (g_w μ 0 (μ 14 0))) 118 23 (g_w μ 1 (μ 14 0))) 127 C) 126 T) 118 40 (z)), ?_, ((rst_set (a := 118) (j := 40) rfl).trans ((rst_upd (a := 126) (fun _ => rfl)).trans ((rst_upd (a := 127) (fun _ => rfl)).trans ((rst_set (a := 118) (j := 23) rfl).trans ((rst_set (a := 118) (j := 22) rfl).trans (rst_set (a := 118) (j := 0) rfl))))))⟩
      rw [show K = n by omega]
    · exfalso; omega
  | succ d ih =>
    intro n k acc z ek eacc hn 
    subst ek eacc
    have hfb := flc_b (R := (fun j => g_rk μ a2 (g_w μ 1 (μ 14 0)) (pw μ (g_C μ a1 a2 (g_w μ 0 (μ 14 0)) (g_w μ 1 (μ 14 0))) a2 (g_w μ 1 (μ 14 0)) a0 j) (pw μ (g_C μ a1 a2 (g_w μ 0 (μ 14 0)) (g_w μ 1 (μ 14 0))) a2 (g_w μ 1 (μ 14 0)) a0 (j + 1)))) (m := m) (sd := a4) n
    refine rn_iload (k' := 45) rfl rfl rfl ?_
    refine rn_iload (k' := 46) rfl rfl rfl ?_
    refine rn_icmp_ge (k' := 47) rfl rfl (fun hc1 => ?_) (fun hc1 => ?_)
    · exfalso; omega
    · skip
      refine rn_iload (k' := 48) rfl rfl rfl ?_
      refine rn_aload_n (k' := 49) rfl rfl rfl ?_
      refine rn_iload (k' := 50) rfl rfl rfl ?_
      refine rn_iload_n (k' := 51) rfl rfl rfl ?_
      refine rn_iload (k' := 52) rfl rfl rfl ?_
      refine rn_iload (k' := 53) rfl rfl rfl ?_
      refine rn_iaddW (k' := 54) rfl rfl ?_
      obtain ⟨z2, hcf2⟩ := c_fallOfM (μ := (m_set (m_upd (m_upd (m_set (m_set (m_set μ 118 0 (0)) 118 22 (g_w μ 0 (μ 14 0))) 118 23 (g_w μ 1 (μ 14 0))) 127 C) 126 T) 118 40 (z))) (c := c) (s := s) (((((((hL).set rfl).set rfl).set rfl).upd rfl).upd rfl).set rfl) (by show 0 ≤ (g_w μ 0 (μ 14 0)) ∧ (g_w μ 0 (μ 14 0)) ≤ 1000; omega) (by show 0 ≤ (g_w μ 1 (μ 14 0)) ∧ (g_w μ 1 (μ 14 0)) ≤ 99; omega) (t := a2) hv3 (m := m) m1 (P := fun j => (pw μ (g_C μ a1 a2 (g_w μ 0 (μ 14 0)) (g_w μ 1 (μ 14 0))) a2 (g_w μ 1 (μ 14 0)) a0 j)) (fun j hj => ⟨(m4 j hj).1, hT j hj⟩) (sd := w32 (a4 + (n : Int)))
      rw [g_rk_rows (ν := (m_set (m_upd (m_upd (m_set (m_set (m_set μ 118 0 (0)) 118 22 (g_w μ 0 (μ 14 0))) 118 23 (g_w μ 1 (μ 14 0))) 127 C) 126 T) 118 40 (z))) (μ := μ) rfl] at hcf2
      refine rn_callP (k' := 55) (y := 261) (vs := [mR 118, mI ((m : Int) + 1), mI (a2), mI (w32 (a4 + (n : Int)))]) (S' := [mI (flc (fun j => g_rk μ a2 (g_w μ 1 (μ 14 0)) (pw μ (g_C μ a1 a2 (g_w μ 0 (μ 14 0)) (g_w μ 1 (μ 14 0))) a2 (g_w μ 1 (μ 14 0)) a0 j) (pw μ (g_C μ a1 a2 (g_w μ 0 (μ 14 0)) (g_w μ 1 (μ 14 0))) a2 (g_w μ 1 (μ 14 0)) a0 (j + 1))) m a4 n)]) (v := some (mI (fal (fun j => g_rk μ a2 (g_w μ 1 (μ 14 0)) (pw μ (g_C μ a1 a2 (g_w μ 0 (μ 14 0)) (g_w μ 1 (μ 14 0))) a2 (g_w μ 1 (μ 14 0)) a0 j) (pw μ (g_C μ a1 a2 (g_w μ 0 (μ 14 0)) (g_w μ 1 (μ 14 0))) a2 (g_w μ 1 (μ 14 0)) a0 (j + 1))) m 0 (w32 (a4 + (n : Int)))))) (h' := mkh (m_set (m_set (m_upd (m_upd (m_set (m_set (m_set μ 118 0 (0)) 118 22 (g_w μ 0 (μ 14 0))) 118 23 (g_w μ 1 (μ 14 0))) 127 C) 126 T) 118 40 (z)) 118 40 (z2)) c s) rfl rfl rfl (hcf2) ?_
      show Rn PT none kX12_falls 55 [some (mR 118), some (mI (a0)), some (mI (a1)), some (mI (a2)), some (mI ((K : Int))), some (mI (a4)), some (mI ((m : Int) + 1)), some (mI (flc (fun j => g_rk μ a2 (g_w μ 1 (μ 14 0)) (pw μ (g_C μ a1 a2 (g_w μ 0 (μ 14 0)) (g_w μ 1 (μ 14 0))) a2 (g_w μ 1 (μ 14 0)) a0 j) (pw μ (g_C μ a1 a2 (g_w μ 0 (μ 14 0)) (g_w μ 1 (μ 14 0))) a2 (g_w μ 1 (μ 14 0)) a0 (j + 1))) m a4 n)), some (mI ((n : Int)))] [mI (fal (fun j => g_rk μ a2 (g_w μ 1 (μ 14 0)) (pw μ (g_C μ a1 a2 (g_w μ 0 (μ 14 0)) (g_w μ 1 (μ 14 0))) a2 (g_w μ 1 (μ 14 0)) a0 j) (pw μ (g_C μ a1 a2 (g_w μ 0 (μ 14 0)) (g_w μ 1 (μ 14 0))) a2 (g_w μ 1 (μ 14 0)) a0 (j + 1))) m 0 (w32 (a4 + (n : Int)))), mI (flc (fun j => g_rk μ a2 (g_w μ 1 (μ 14 0)) (pw μ (g_C μ a1 a2 (g_w μ 0 (μ 14 0)) (g_w μ 1 (μ 14 0))) a2 (g_w μ 1 (μ 14 0)) a0 j) (pw μ (g_C μ a1 a2 (g_w μ 0 (μ 14 0)) (g_w μ 1 (μ 14 0))) a2 (g_w μ 1 (μ 14 0)) a0 (j + 1))) m a4 n)] (mkh (m_set (m_set (m_upd (m_upd (m_set (m_set (m_set μ 118 0 (0)) 118 22 (g_w μ 0 (μ 14 0))) 118 23 (g_w μ 1 (μ 14 0))) 127 C) 126 T) 118 40 (z)) 118 40 (z2)) c s) _
      refine rn_if_le (k' := 56) rfl rfl (fun hc3 => ?_) (fun hc3 => ?_)
      · skip
        refine rn_iconst (k' := 59) rfl rfl ?_
        refine rn_iadd (k' := 60) rfl rfl (by omega) ?_
        refine rn_istore (k' := 61) (L' := [some (mR 118), some (mI (a0)), some (mI (a1)), some (mI (a2)), some (mI ((K : Int))), some (mI (a4)), some (mI ((m : Int) + 1)), some (mI ((flc (fun j => g_rk μ a2 (g_w μ 1 (μ 14 0)) (pw μ (g_C μ a1 a2 (g_w μ 0 (μ 14 0)) (g_w μ 1 (μ 14 0))) a2 (g_w μ 1 (μ 14 0)) a0 j) (pw μ (g_C μ a1 a2 (g_w μ 0 (μ 14 0)) (g_w μ 1 (μ 14 0))) a2 (g_w μ 1 (μ 14 0)) a0 (j + 1))) m a4 n) + 0)), some (mI ((n : Int)))]) rfl rfl (Nat.le_of_ble_eq_true rfl) rfl ?_
        refine rn_iinc (k' := 62) (L' := [some (mR 118), some (mI (a0)), some (mI (a1)), some (mI (a2)), some (mI ((K : Int))), some (mI (a4)), some (mI ((m : Int) + 1)), some (mI ((flc (fun j => g_rk μ a2 (g_w μ 1 (μ 14 0)) (pw μ (g_C μ a1 a2 (g_w μ 0 (μ 14 0)) (g_w μ 1 (μ 14 0))) a2 (g_w μ 1 (μ 14 0)) a0 j) (pw μ (g_C μ a1 a2 (g_w μ 0 (μ 14 0)) (g_w μ 1 (μ 14 0))) a2 (g_w μ 1 (μ 14 0)) a0 (j + 1))) m a4 n) + 0)), some (mI ((n : Int) + 1))]) rfl rfl rfl (by omega) rfl ?_
        refine rn_goto rfl ?_
        show Rn PT none kX12_falls 44 [some (mR 118), some (mI (a0)), some (mI (a1)), some (mI (a2)), some (mI ((K : Int))), some (mI (a4)), some (mI ((m : Int) + 1)), some (mI ((flc (fun j => g_rk μ a2 (g_w μ 1 (μ 14 0)) (pw μ (g_C μ a1 a2 (g_w μ 0 (μ 14 0)) (g_w μ 1 (μ 14 0))) a2 (g_w μ 1 (μ 14 0)) a0 j) (pw μ (g_C μ a1 a2 (g_w μ 0 (μ 14 0)) (g_w μ 1 (μ 14 0))) a2 (g_w μ 1 (μ 14 0)) a0 (j + 1))) m a4 n) + 0)), some (mI ((n : Int) + 1))] [] (mkh (m_set (m_set (m_upd (m_upd (m_set (m_set (m_set μ 118 0 (0)) 118 22 (g_w μ 0 (μ 14 0))) 118 23 (g_w μ 1 (μ 14 0))) 127 C) 126 T) 118 40 (z)) 118 40 (z2)) c s) _
        rw [set_set]
        exact ih (n + 1) _ _ _ (by omega) (by show _ = flc (fun j => g_rk μ a2 (g_w μ 1 (μ 14 0)) (pw μ (g_C μ a1 a2 (g_w μ 0 (μ 14 0)) (g_w μ 1 (μ 14 0))) a2 (g_w μ 1 (μ 14 0)) a0 j) (pw μ (g_C μ a1 a2 (g_w μ 0 (μ 14 0)) (g_w μ 1 (μ 14 0))) a2 (g_w μ 1 (μ 14 0)) a0 (j + 1))) m a4 n + (if _ then _ else _); have hfb2 := fal_b (R := (fun j => g_rk μ a2 (g_w μ 1 (μ 14 0)) (pw μ (g_C μ a1 a2 (g_w μ 0 (μ 14 0)) (g_w μ 1 (μ 14 0))) a2 (g_w μ 1 (μ 14 0)) a0 j) (pw μ (g_C μ a1 a2 (g_w μ 0 (μ 14 0)) (g_w μ 1 (μ 14 0))) a2 (g_w μ 1 (μ 14 0)) a0 (j + 1)))) m 0 (w32 (a4 + (n : Int))); first | rw [if_pos (by omega), Int.add_zero] | rw [if_neg (by omega)]) (by omega)
      · skip
        refine rn_iconst (k' := 57) rfl rfl ?_
        refine rn_goto rfl ?_
        refine rn_iadd (k' := 60) rfl rfl (by omega) ?_
        refine rn_istore (k' := 61) (L' := [some (mR 118), some (mI (a0)), some (mI (a1)), some (mI (a2)), some (mI ((K : Int))), some (mI (a4)), some (mI ((m : Int) + 1)), some (mI ((flc (fun j => g_rk μ a2 (g_w μ 1 (μ 14 0)) (pw μ (g_C μ a1 a2 (g_w μ 0 (μ 14 0)) (g_w μ 1 (μ 14 0))) a2 (g_w μ 1 (μ 14 0)) a0 j) (pw μ (g_C μ a1 a2 (g_w μ 0 (μ 14 0)) (g_w μ 1 (μ 14 0))) a2 (g_w μ 1 (μ 14 0)) a0 (j + 1))) m a4 n) + 1)), some (mI ((n : Int)))]) rfl rfl (Nat.le_of_ble_eq_true rfl) rfl ?_
        refine rn_iinc (k' := 62) (L' := [some (mR 118), some (mI (a0)), some (mI (a1)), some (mI (a2)), some (mI ((K : Int))), some (mI (a4)), some (mI ((m : Int) + 1)), some (mI ((flc (fun j => g_rk μ a2 (g_w μ 1 (μ 14 0)) (pw μ (g_C μ a1 a2 (g_w μ 0 (μ 14 0)) (g_w μ 1 (μ 14 0))) a2 (g_w μ 1 (μ 14 0)) a0 j) (pw μ (g_C μ a1 a2 (g_w μ 0 (μ 14 0)) (g_w μ 1 (μ 14 0))) a2 (g_w μ 1 (μ 14 0)) a0 (j + 1))) m a4 n) + 1)), some (mI ((n : Int) + 1))]) rfl rfl rfl (by omega) rfl ?_
        refine rn_goto rfl ?_
        show Rn PT none kX12_falls 44 [some (mR 118), some (mI (a0)), some (mI (a1)), some (mI (a2)), some (mI ((K : Int))), some (mI (a4)), some (mI ((m : Int) + 1)), some (mI ((flc (fun j => g_rk μ a2 (g_w μ 1 (μ 14 0)) (pw μ (g_C μ a1 a2 (g_w μ 0 (μ 14 0)) (g_w μ 1 (μ 14 0))) a2 (g_w μ 1 (μ 14 0)) a0 j) (pw μ (g_C μ a1 a2 (g_w μ 0 (μ 14 0)) (g_w μ 1 (μ 14 0))) a2 (g_w μ 1 (μ 14 0)) a0 (j + 1))) m a4 n) + 1)), some (mI ((n : Int) + 1))] [] (mkh (m_set (m_set (m_upd (m_upd (m_set (m_set (m_set μ 118 0 (0)) 118 22 (g_w μ 0 (μ 14 0))) 118 23 (g_w μ 1 (μ 14 0))) 127 C) 126 T) 118 40 (z)) 118 40 (z2)) c s) _
        rw [set_set]
        exact ih (n + 1) _ _ _ (by omega) (by show _ = flc (fun j => g_rk μ a2 (g_w μ 1 (μ 14 0)) (pw μ (g_C μ a1 a2 (g_w μ 0 (μ 14 0)) (g_w μ 1 (μ 14 0))) a2 (g_w μ 1 (μ 14 0)) a0 j) (pw μ (g_C μ a1 a2 (g_w μ 0 (μ 14 0)) (g_w μ 1 (μ 14 0))) a2 (g_w μ 1 (μ 14 0)) a0 (j + 1))) m a4 n + (if _ then _ else _); have hfb2 := fal_b (R := (fun j => g_rk μ a2 (g_w μ 1 (μ 14 0)) (pw μ (g_C μ a1 a2 (g_w μ 0 (μ 14 0)) (g_w μ 1 (μ 14 0))) a2 (g_w μ 1 (μ 14 0)) a0 j) (pw μ (g_C μ a1 a2 (g_w μ 0 (μ 14 0)) (g_w μ 1 (μ 14 0))) a2 (g_w μ 1 (μ 14 0)) a0 (j + 1)))) m 0 (w32 (a4 + (n : Int))); first | rw [if_pos (by omega), Int.add_zero] | rw [if_neg (by omega)]) (by omega)
set_option maxHeartbeats 4000000 in
theorem x_X12_falls {μ : Nat → Nat → Int} {c s : Nat} (hL : I_land μ) (hS : I_scene μ) {a0 a1 a2 a4 : Int} {K : Nat} (hv1 : g_cell μ a0) (hv2 : g_cell μ a1) (hv3 : 0 ≤ a2 ∧ a2 ≤ 99) (hK : 1 ≤ K ∧ K ≤ 200) (h0 : i32 a0) (h1 : i32 a1) (hway : (g_ok μ a0 a1 a2 (g_w μ 0 (μ 14 0)) ∧ (g_C μ a1 a2 (g_w μ 0 (μ 14 0)) (g_w μ 1 (μ 14 0))) a0.toNat < 1000000000)) : Cl PT 264 [mR 118, mI a0, mI a1, mI a2, mI ((K : Int)), mI a4] (mkh μ c s) (fun r => ∃ M : Nat → Nat → Int, r = (some (some (mI (g_fl μ a0 a1 a2 (K : Int) a4))), mkh M c s) ∧ rst M = rst μ) := by
  have hL_ := hL
  obtain ⟨lc, lr, le, lm, lw, lh, lwo, lwd, q0, q1, q2, q3, q4, q8, q499, q500, lth, lG, lT, lW, -⟩ := hL_
  have hS_ := hS
  obtain ⟨sd, sw, stk, s4, s5, s6, hC, hH, -, s10, sce, swc, s13⟩ := hS_
  have hwb := g_w_b hL 0 (μ 14 0)
  have hvb := g_w_b hL 1 (μ 14 0)
  have hab := g_cell_b hL hv1
  obtain ⟨O_, C_, Z_, hBC_, -⟩ := c_leastRisk (c := c) (s := s) hL hv1 hv2 hv3 sd
  obtain ⟨m, m1, m2, m3, m4⟩ := pw_len hL hv3 hvb (g_C_be (hBC_ hway.1)) hv1 hway.2
  refine ⟨_, PT_264, Nat.le_of_ble_eq_true rfl, ?_⟩
  show Rn PT none kX12_falls 0 [some (mR 118), some (mI (a0)), some (mI (a1)), some (mI (a2)), some (mI ((K : Int))), some (mI (a4)), none, none, none] [] (mkh μ c s) _
  refine rn_aload_n (k' := 1) rfl rfl rfl ?_
  refine rn_iconst (k' := 2) rfl rfl ?_
  refine rn_putI (k' := 3) rfl rfl K0_118 (by decide) rfl ?_
  refine rn_aload_n (k' := 4) rfl rfl rfl ?_
  refine rn_iload_n (k' := 5) rfl rfl rfl ?_
  refine rn_iload_n (k' := 6) rfl rfl rfl ?_
  refine rn_iload_n (k' := 7) rfl rfl rfl ?_
  refine rn_iconst (k' := 8) rfl rfl ?_
  by_cases hq2 : g_cell μ a0 ∧ g_cell μ a1 ∧ (0 ≤ a2 ∧ a2 ≤ 99) ∧ 0 ≤ (0 : Int) ∧ (0 : Int) ≤ 29
  · refine rn_callP (k' := 9) (y := 214) (vs := [mR 118, mI (a0), mI (a1), mI (a2), mI (0)]) (S' := []) (v := some (mI 1)) (h' := mkh (m_set μ 118 0 (0)) c s) rfl rfl rfl (by have hz : Cl PT 214 [mR 118, mI (a0), mI (a1), mI (a2), mI (0)] (mkh (m_set μ 118 0 (0)) c s) (fun r => r = (some (some (mI (if g_cell μ a0 ∧ g_cell μ a1 ∧ (0 ≤ a2 ∧ a2 ≤ 99) ∧ 0 ≤ (0 : Int) ∧ (0 : Int) ≤ 29 then 1 else 0))), mkh (m_set μ 118 0 (0)) c s)) := c_X12_areAll ((hL).set rfl) (a := a0) (b := a1) (t := a2) (d := 0) (by omega) (by omega) (μ := (m_set μ 118 0 (0))) (c := c) (s := s); rw [if_pos hq2] at hz; exact hz) ?_
    show Rn PT none kX12_falls 9 [some (mR 118), some (mI (a0)), some (mI (a1)), some (mI (a2)), some (mI ((K : Int))), some (mI (a4)), none, none, none] [mI (1)] (mkh (m_set μ 118 0 (0)) c s) _
    refine rn_if_eq (k' := 10) rfl rfl (fun hc3 => ?_) (fun hc3 => ?_)
    · exfalso; omega
    · skip
      refine rn_iload (k' := 11) rfl rfl rfl ?_
      refine rn_iconst (k' := 12) rfl rfl ?_
      refine rn_sipush (k' := 13) rfl rfl ?_
      by_cases hq4 : 1 ≤ (K : Int) ∧ (K : Int) ≤ 200
      · refine rn_callP (k' := 14) (y := 167) (vs := [mI ((K : Int)), mI (1), mI (200)]) (S' := []) (v := some (mI 1)) (h' := mkh (m_set μ 118 0 (0)) c s) rfl rfl rfl (by have hz : Cl PT 167 [mI ((K : Int)), mI (1), mI (200)] (mkh (m_set μ 118 0 (0)) c s) (fun r => r = (some (some (mI (if 1 ≤ (K : Int) ∧ (K : Int) ≤ 200 then 1 else 0))), mkh (m_set μ 118 0 (0)) c s)) := c_X12_isIn (v := (K : Int)) (lo := 1) (hi := 200) (μ := (m_set μ 118 0 (0))) (c := c) (s := s); rw [if_pos hq4] at hz; exact hz) ?_
        show Rn PT none kX12_falls 14 [some (mR 118), some (mI (a0)), some (mI (a1)), some (mI (a2)), some (mI ((K : Int))), some (mI (a4)), none, none, none] [mI (1)] (mkh (m_set μ 118 0 (0)) c s) _
        refine rn_if_ne (k' := 15) rfl rfl (fun hc5 => ?_) (fun hc5 => ?_)
        · skip
          refine rn_aload_n (k' := 18) rfl rfl rfl ?_
          refine rn_aload_n (k' := 19) rfl rfl rfl ?_
          refine rn_getR (k' := 20) rfl rfl K0_118 (by decide) rfl R0_118_6 ?_
          refine rn_sipush (k' := 21) rfl rfl ?_
          refine rn_iaload (k' := 22) rfl rfl K0_120 (by omega) (by omega) ?_
          show Rn PT none kX12_falls 22 [some (mR 118), some (mI (a0)), some (mI (a1)), some (mI (a2)), some (mI ((K : Int))), some (mI (a4)), none, none, none] [mI (μ 120 517), mR 118] (mkh (m_set μ 118 0 (0)) c s) _
          rw [s4]
          have hb6 := g_w_b hL 0 (μ 14 0)
          have hc906 := g_w_b hL 1 (μ 14 0)
          refine rn_callP (k' := 23) (y := 201) (vs := [mR 118, mI (μ 14 0)]) (S' := []) (v := none) (h' := mkh (m_set (m_set (m_set μ 118 0 (0)) 118 22 (g_w μ 0 (μ 14 0))) 118 23 (g_w μ 1 (μ 14 0))) c s) rfl rfl rfl (c_X12_of (μ := (m_set μ 118 0 (0))) ((hL).set rfl) (by omega)) ?_
          show Rn PT none kX12_falls 23 [some (mR 118), some (mI (a0)), some (mI (a1)), some (mI (a2)), some (mI ((K : Int))), some (mI (a4)), none, none, none] [] (mkh (m_set (m_set (m_set μ 118 0 (0)) 118 22 (g_w μ 0 (μ 14 0))) 118 23 (g_w μ 1 (μ 14 0))) c s) _
          refine rn_aload_n (k' := 24) rfl rfl rfl ?_
          refine rn_iload_n (k' := 25) rfl rfl rfl ?_
          refine rn_iload_n (k' := 26) rfl rfl rfl ?_
          obtain ⟨C, hB0, hcl⟩ := c_risks (μ := (m_set (m_set (m_set μ 118 0 (0)) 118 22 (g_w μ 0 (μ 14 0))) 118 23 (g_w μ 1 (μ 14 0)))) (c := c) (s := s) ((((hL).set rfl).set rfl).set rfl) (by show 0 ≤ (g_w μ 0 (μ 14 0)) ∧ (g_w μ 0 (μ 14 0)) ≤ 1000; omega) (by show 0 ≤ (g_w μ 1 (μ 14 0)) ∧ (g_w μ 1 (μ 14 0)) ≤ 99; omega) (a := a1) (t := a2) hv2 hv3
          rw [gBE_rows (ν := (m_set (m_set (m_set μ 118 0 (0)) 118 22 (g_w μ 0 (μ 14 0))) 118 23 (g_w μ 1 (μ 14 0)))) (μ := μ) rfl rfl rfl] at hB0
          have hB : (g_stand μ a1 a2 (g_w μ 0 (μ 14 0)) → gBE μ a1 a2 (g_w μ 0 (μ 14 0)) (g_w μ 1 (μ 14 0)) C) ∧ (¬ g_stand μ a1 a2 (g_w μ 0 (μ 14 0)) → ∀ j, j < 100 → C j = 1000000000) := hB0
          have hwf := way_iff hL hv3 (by omega) hv1 hB
          have hCf := hwf.mpr hway
          have hBE := hB.1 hway.1.2
          have hCe : ∀ y, g_cell μ y → C y.toNat = (g_C μ a1 a2 (g_w μ 0 (μ 14 0)) (g_w μ 1 (μ 14 0))) y.toNat := fun y hy => g_C_eq hL hv3 (by omega) hBE hy
          refine rn_callP (k' := 27) (y := 219) (vs := [mR 118, mI (a1), mI (a2)]) (S' := []) (v := none) (h' := mkh (m_upd (m_set (m_set (m_set μ 118 0 (0)) 118 22 (g_w μ 0 (μ 14 0))) 118 23 (g_w μ 1 (μ 14 0))) 127 C) c s) rfl rfl rfl (hcl) ?_
          show Rn PT none kX12_falls 27 [some (mR 118), some (mI (a0)), some (mI (a1)), some (mI (a2)), some (mI ((K : Int))), some (mI (a4)), none, none, none] [] (mkh (m_upd (m_set (m_set (m_set μ 118 0 (0)) 118 22 (g_w μ 0 (μ 14 0))) 118 23 (g_w μ 1 (μ 14 0))) 127 C) c s) _
          refine rn_aload_n (k' := 28) rfl rfl rfl ?_
          refine rn_getR (k' := 29) rfl rfl K0_118 (by decide) rfl R0_118_26 ?_
          refine rn_iload_n (k' := 30) rfl rfl rfl ?_
          refine rn_iaload (k' := 31) rfl rfl K0_127 (by omega) (by omega) ?_
          show Rn PT none kX12_falls 31 [some (mR 118), some (mI (a0)), some (mI (a1)), some (mI (a2)), some (mI ((K : Int))), some (mI (a4)), none, none, none] [mI (C ((a0).toNat))] (mkh (m_upd (m_set (m_set (m_set μ 118 0 (0)) 118 22 (g_w μ 0 (μ 14 0))) 118 23 (g_w μ 1 (μ 14 0))) 127 C) c s) _
          refine rn_ldc_w (k' := 32) rfl rfl ?_
          refine rn_icmp_lt (k' := 33) rfl rfl (fun hc7 => ?_) (fun hc7 => ?_)
          · skip
            refine rn_aload_n (k' := 36) rfl rfl rfl ?_
            refine rn_iload_n (k' := 37) rfl rfl rfl ?_
            refine rn_iload_n (k' := 38) rfl rfl rfl ?_
            obtain ⟨T, hT0, hcl2⟩ := c_riskWay (μ := (m_upd (m_set (m_set (m_set μ 118 0 (0)) 118 22 (g_w μ 0 (μ 14 0))) 118 23 (g_w μ 1 (μ 14 0))) 127 C)) (c := c) (s := s) (((((hL).set rfl).set rfl).set rfl).upd rfl) (by show 0 ≤ (g_w μ 0 (μ 14 0)) ∧ (g_w μ 0 (μ 14 0)) ≤ 1000; omega) (by show 0 ≤ (g_w μ 1 (μ 14 0)) ∧ (g_w μ 1 (μ 14 0)) ≤ 99; omega) (a := a1) (t := a2) (w := (g_w μ 0 (μ 14 0))) (x := a0) hv3 (GC := (g_C μ a1 a2 (g_w μ 0 (μ 14 0)) (g_w μ 1 (μ 14 0)))) (by rw [gBE_rows (ν := (m_upd (m_set (m_set (m_set μ 118 0 (0)) 118 22 (g_w μ 0 (μ 14 0))) 118 23 (g_w μ 1 (μ 14 0))) 127 C)) (μ := μ) rfl rfl rfl]; exact g_C_be hBE) hCe m1 ((pw_rows (ν := (m_upd (m_set (m_set (m_set μ 118 0 (0)) 118 22 (g_w μ 0 (μ 14 0))) 118 23 (g_w μ 1 (μ 14 0))) 127 C)) (μ := μ) rfl rfl m).trans m2) (fun j hj => by rw [pw_rows (ν := (m_upd (m_set (m_set (m_set μ 118 0 (0)) 118 22 (g_w μ 0 (μ 14 0))) 118 23 (g_w μ 1 (μ 14 0))) 127 C)) (μ := μ) rfl rfl j]; exact m3 j hj) (fun j hj => by rw [pw_rows (ν := (m_upd (m_set (m_set (m_set μ 118 0 (0)) 118 22 (g_w μ 0 (μ 14 0))) 118 23 (g_w μ 1 (μ 14 0))) 127 C)) (μ := μ) rfl rfl j]; exact m4 j hj) hv2
            have hT : ∀ j, j ≤ m → T j = (pw μ (g_C μ a1 a2 (g_w μ 0 (μ 14 0)) (g_w μ 1 (μ 14 0))) a2 (g_w μ 1 (μ 14 0)) a0 j) := fun j hj => (hT0 j hj).trans (pw_rows (ν := (m_upd (m_set (m_set (m_set μ 118 0 (0)) 118 22 (g_w μ 0 (μ 14 0))) 118 23 (g_w μ 1 (μ 14 0))) 127 C)) (μ := μ) rfl rfl j)
            refine rn_callP (k' := 39) (y := 260) (vs := [mR 118, mI (a0), mI (a2)]) (S' := []) (v := some (mI ((m : Int) + 1))) (h' := mkh (m_upd (m_upd (m_set (m_set (m_set μ 118 0 (0)) 118 22 (g_w μ 0 (μ 14 0))) 118 23 (g_w μ 1 (μ 14 0))) 127 C) 126 T) c s) rfl rfl rfl (hcl2) ?_
            show Rn PT none kX12_falls 39 [some (mR 118), some (mI (a0)), some (mI (a1)), some (mI (a2)), some (mI ((K : Int))), some (mI (a4)), none, none, none] [mI ((m : Int) + 1)] (mkh (m_upd (m_upd (m_set (m_set (m_set μ 118 0 (0)) 118 22 (g_w μ 0 (μ 14 0))) 118 23 (g_w μ 1 (μ 14 0))) 127 C) 126 T) c s) _
            refine rn_istore (k' := 40) (L' := [some (mR 118), some (mI (a0)), some (mI (a1)), some (mI (a2)), some (mI ((K : Int))), some (mI (a4)), some (mI ((m : Int) + 1)), none, none]) rfl rfl (Nat.le_of_ble_eq_true rfl) rfl ?_
            refine rn_iconst (k' := 41) rfl rfl ?_
            refine rn_istore (k' := 42) (L' := [some (mR 118), some (mI (a0)), some (mI (a1)), some (mI (a2)), some (mI ((K : Int))), some (mI (a4)), some (mI ((m : Int) + 1)), some (mI (0)), none]) rfl rfl (Nat.le_of_ble_eq_true rfl) rfl ?_
            refine rn_iconst (k' := 43) rfl rfl ?_
            refine rn_istore (k' := 44) (L' := [some (mR 118), some (mI (a0)), some (mI (a1)), some (mI (a2)), some (mI ((K : Int))), some (mI (a4)), some (mI ((m : Int) + 1)), some (mI (0)), some (mI (0))]) rfl rfl (Nat.le_of_ble_eq_true rfl) rfl ?_
            have h := l_X12_falls (c := c) (s := s) hL hS hv1 hv2 hv3 hK h0 h1 m1 m2 m3 m4 (C := C) hT (a4 := a4) K 0 0 0 ((m_upd (m_upd (m_set (m_set (m_set μ 118 0 (0)) 118 22 (g_w μ 0 (μ 14 0))) 118 23 (g_w μ 1 (μ 14 0))) 127 C) 126 T) 118 40) rfl rfl (by omega)
            rw [set_self (μ := (m_upd (m_upd (m_set (m_set (m_set μ 118 0 (0)) 118 22 (g_w μ 0 (μ 14 0))) 118 23 (g_w μ 1 (μ 14 0))) 127 C) 126 T))] at h
            refine h.mono (fun r hr => ?_)
            obtain ⟨M, y1, y2⟩ := hr
            exact ⟨M, by rw [y1, g_fl_is m1 m2 m3]; rfl, y2⟩
          · exfalso; omega
        · exfalso; omega
      · exfalso; omega
  · exfalso; omega
set_option maxHeartbeats 4000000 in
theorem n_X12_falls {μ : Nat → Nat → Int} {c s : Nat} (hL : I_land μ) (hS : I_scene μ) {a0 a1 a2 a4 : Int} {K : Nat} (hv1 : g_cell μ a0) (hv2 : g_cell μ a1) (hv3 : 0 ≤ a2 ∧ a2 ≤ 99) (hK : 1 ≤ K ∧ K ≤ 200) (h0 : i32 a0) (h1 : i32 a1) (hway : ¬ (g_ok μ a0 a1 a2 (g_w μ 0 (μ 14 0)) ∧ (g_C μ a1 a2 (g_w μ 0 (μ 14 0)) (g_w μ 1 (μ 14 0))) a0.toNat < 1000000000)) : Cl PT 264 [mR 118, mI a0, mI a1, mI a2, mI ((K : Int)), mI a4] (mkh μ c s) (fun r => ∃ M : Nat → Nat → Int, r = (some (some (mI (-1))), mkh M c s) ∧ rst M = rst μ) := by
  have hL_ := hL
  obtain ⟨lc, lr, le, lm, lw, lh, lwo, lwd, q0, q1, q2, q3, q4, q8, q499, q500, lth, lG, lT, lW, -⟩ := hL_
  have hS_ := hS
  obtain ⟨sd, sw, stk, s4, s5, s6, hC, hH, -, s10, sce, swc, s13⟩ := hS_
  have hwb := g_w_b hL 0 (μ 14 0)
  have hvb := g_w_b hL 1 (μ 14 0)
  have hab := g_cell_b hL hv1
  refine ⟨_, PT_264, Nat.le_of_ble_eq_true rfl, ?_⟩
  show Rn PT none kX12_falls 0 [some (mR 118), some (mI (a0)), some (mI (a1)), some (mI (a2)), some (mI ((K : Int))), some (mI (a4)), none, none, none] [] (mkh μ c s) _
  refine rn_aload_n (k' := 1) rfl rfl rfl ?_
  refine rn_iconst (k' := 2) rfl rfl ?_
  refine rn_putI (k' := 3) rfl rfl K0_118 (by decide) rfl ?_
  refine rn_aload_n (k' := 4) rfl rfl rfl ?_
  refine rn_iload_n (k' := 5) rfl rfl rfl ?_
  refine rn_iload_n (k' := 6) rfl rfl rfl ?_
  refine rn_iload_n (k' := 7) rfl rfl rfl ?_
  refine rn_iconst (k' := 8) rfl rfl ?_
  by_cases hq2 : g_cell μ a0 ∧ g_cell μ a1 ∧ (0 ≤ a2 ∧ a2 ≤ 99) ∧ 0 ≤ (0 : Int) ∧ (0 : Int) ≤ 29
  · refine rn_callP (k' := 9) (y := 214) (vs := [mR 118, mI (a0), mI (a1), mI (a2), mI (0)]) (S' := []) (v := some (mI 1)) (h' := mkh (m_set μ 118 0 (0)) c s) rfl rfl rfl (by have hz : Cl PT 214 [mR 118, mI (a0), mI (a1), mI (a2), mI (0)] (mkh (m_set μ 118 0 (0)) c s) (fun r => r = (some (some (mI (if g_cell μ a0 ∧ g_cell μ a1 ∧ (0 ≤ a2 ∧ a2 ≤ 99) ∧ 0 ≤ (0 : Int) ∧ (0 : Int) ≤ 29 then 1 else 0))), mkh (m_set μ 118 0 (0)) c s)) := c_X12_areAll ((hL).set rfl) (a := a0) (b := a1) (t := a2) (d := 0) (by omega) (by omega) (μ := (m_set μ 118 0 (0))) (c := c) (s := s); rw [if_pos hq2] at hz; exact hz) ?_
    show Rn PT none kX12_falls 9 [some (mR 118), some (mI (a0)), some (mI (a1)), some (mI (a2)), some (mI ((K : Int))), some (mI (a4)), none, none, none] [mI (1)] (mkh (m_set μ 118 0 (0)) c s) _
    refine rn_if_eq (k' := 10) rfl rfl (fun hc3 => ?_) (fun hc3 => ?_)
    · exfalso; omega
    · skip
      refine rn_iload (k' := 11) rfl rfl rfl ?_
      refine rn_iconst (k' := 12) rfl rfl ?_
      refine rn_sipush (k' := 13) rfl rfl ?_
      by_cases hq4 : 1 ≤ (K : Int) ∧ (K : Int) ≤ 200
      · refine rn_callP (k' := 14) (y := 167) (vs := [mI ((K : Int)), mI (1), mI (200)]) (S' := []) (v := some (mI 1)) (h' := mkh (m_set μ 118 0 (0)) c s) rfl rfl rfl (by have hz : Cl PT 167 [mI ((K : Int)), mI (1), mI (200)] (mkh (m_set μ 118 0 (0)) c s) (fun r => r = (some (some (mI (if 1 ≤ (K : Int) ∧ (K : Int) ≤ 200 then 1 else 0))), mkh (m_set μ 118 0 (0)) c s)) := c_X12_isIn (v := (K : Int)) (lo := 1) (hi := 200) (μ := (m_set μ 118 0 (0))) (c := c) (s := s); rw [if_pos hq4] at hz; exact hz) ?_
        show Rn PT none kX12_falls 14 [some (mR 118), some (mI (a0)), some (mI (a1)), some (mI (a2)), some (mI ((K : Int))), some (mI (a4)), none, none, none] [mI (1)] (mkh (m_set μ 118 0 (0)) c s) _
        refine rn_if_ne (k' := 15) rfl rfl (fun hc5 => ?_) (fun hc5 => ?_)
        · skip
          refine rn_aload_n (k' := 18) rfl rfl rfl ?_
          refine rn_aload_n (k' := 19) rfl rfl rfl ?_
          refine rn_getR (k' := 20) rfl rfl K0_118 (by decide) rfl R0_118_6 ?_
          refine rn_sipush (k' := 21) rfl rfl ?_
          refine rn_iaload (k' := 22) rfl rfl K0_120 (by omega) (by omega) ?_
          show Rn PT none kX12_falls 22 [some (mR 118), some (mI (a0)), some (mI (a1)), some (mI (a2)), some (mI ((K : Int))), some (mI (a4)), none, none, none] [mI (μ 120 517), mR 118] (mkh (m_set μ 118 0 (0)) c s) _
          rw [s4]
          have hb6 := g_w_b hL 0 (μ 14 0)
          have hc906 := g_w_b hL 1 (μ 14 0)
          refine rn_callP (k' := 23) (y := 201) (vs := [mR 118, mI (μ 14 0)]) (S' := []) (v := none) (h' := mkh (m_set (m_set (m_set μ 118 0 (0)) 118 22 (g_w μ 0 (μ 14 0))) 118 23 (g_w μ 1 (μ 14 0))) c s) rfl rfl rfl (c_X12_of (μ := (m_set μ 118 0 (0))) ((hL).set rfl) (by omega)) ?_
          show Rn PT none kX12_falls 23 [some (mR 118), some (mI (a0)), some (mI (a1)), some (mI (a2)), some (mI ((K : Int))), some (mI (a4)), none, none, none] [] (mkh (m_set (m_set (m_set μ 118 0 (0)) 118 22 (g_w μ 0 (μ 14 0))) 118 23 (g_w μ 1 (μ 14 0))) c s) _
          refine rn_aload_n (k' := 24) rfl rfl rfl ?_
          refine rn_iload_n (k' := 25) rfl rfl rfl ?_
          refine rn_iload_n (k' := 26) rfl rfl rfl ?_
          obtain ⟨C, hB0, hcl⟩ := c_risks (μ := (m_set (m_set (m_set μ 118 0 (0)) 118 22 (g_w μ 0 (μ 14 0))) 118 23 (g_w μ 1 (μ 14 0)))) (c := c) (s := s) ((((hL).set rfl).set rfl).set rfl) (by show 0 ≤ (g_w μ 0 (μ 14 0)) ∧ (g_w μ 0 (μ 14 0)) ≤ 1000; omega) (by show 0 ≤ (g_w μ 1 (μ 14 0)) ∧ (g_w μ 1 (μ 14 0)) ≤ 99; omega) (a := a1) (t := a2) hv2 hv3
          rw [gBE_rows (ν := (m_set (m_set (m_set μ 118 0 (0)) 118 22 (g_w μ 0 (μ 14 0))) 118 23 (g_w μ 1 (μ 14 0)))) (μ := μ) rfl rfl rfl] at hB0
          have hB : (g_stand μ a1 a2 (g_w μ 0 (μ 14 0)) → gBE μ a1 a2 (g_w μ 0 (μ 14 0)) (g_w μ 1 (μ 14 0)) C) ∧ (¬ g_stand μ a1 a2 (g_w μ 0 (μ 14 0)) → ∀ j, j < 100 → C j = 1000000000) := hB0
          have hwf := way_iff hL hv3 (by omega) hv1 hB
          have hCf : ¬ C a0.toNat < 1000000000 := fun z => hway (hwf.mp z)
          refine rn_callP (k' := 27) (y := 219) (vs := [mR 118, mI (a1), mI (a2)]) (S' := []) (v := none) (h' := mkh (m_upd (m_set (m_set (m_set μ 118 0 (0)) 118 22 (g_w μ 0 (μ 14 0))) 118 23 (g_w μ 1 (μ 14 0))) 127 C) c s) rfl rfl rfl (hcl) ?_
          show Rn PT none kX12_falls 27 [some (mR 118), some (mI (a0)), some (mI (a1)), some (mI (a2)), some (mI ((K : Int))), some (mI (a4)), none, none, none] [] (mkh (m_upd (m_set (m_set (m_set μ 118 0 (0)) 118 22 (g_w μ 0 (μ 14 0))) 118 23 (g_w μ 1 (μ 14 0))) 127 C) c s) _
          refine rn_aload_n (k' := 28) rfl rfl rfl ?_
          refine rn_getR (k' := 29) rfl rfl K0_118 (by decide) rfl R0_118_26 ?_
          refine rn_iload_n (k' := 30) rfl rfl rfl ?_
          refine rn_iaload (k' := 31) rfl rfl K0_127 (by omega) (by omega) ?_
          show Rn PT none kX12_falls 31 [some (mR 118), some (mI (a0)), some (mI (a1)), some (mI (a2)), some (mI ((K : Int))), some (mI (a4)), none, none, none] [mI (C ((a0).toNat))] (mkh (m_upd (m_set (m_set (m_set μ 118 0 (0)) 118 22 (g_w μ 0 (μ 14 0))) 118 23 (g_w μ 1 (μ 14 0))) 127 C) c s) _
          refine rn_ldc_w (k' := 32) rfl rfl ?_
          refine rn_icmp_lt (k' := 33) rfl rfl (fun hc7 => ?_) (fun hc7 => ?_)
          · exfalso; omega
          · skip
            refine rn_iconst (k' := 34) rfl rfl ?_
            refine rn_iret rfl (Or.inl rfl) ?_
            exact ⟨_, rfl, ((rst_upd (a := 127) (fun _ => rfl)).trans ((rst_set (a := 118) (j := 23) rfl).trans ((rst_set (a := 118) (j := 22) rfl).trans (rst_set (a := 118) (j := 0) rfl))))⟩
        · exfalso; omega
      · exfalso; omega
  · exfalso; omega
theorem i_X11_falls {μ : Nat → Nat → Int} {c s : Nat} (hL : I_land μ) (hS : I_scene μ) {a0 a1 a2 a3 a4 : Int} (h0 : i32 a0) (h1 : i32 a1) (h2 : i32 a2) (h3 : i32 a3) (h4 : i32 a4) (hv : ¬ (g_cell μ a0 ∧ g_cell μ a1 ∧ (0 ≤ a2 ∧ a2 ≤ 99) ∧ (1 ≤ a3 ∧ a3 ≤ 200))) : Cl PT 140 [mR 0, mI a0, mI a1, mI a2, mI a3, mI a4] (mkh μ c s) (fun r => r = (some (some (mI (-1))), mkh μ c s)) := by
  have hL_ := hL
  obtain ⟨lc, lr, le, lm, lw, lh, lwo, lwd, q0, q1, q2, q3, q4, q8, q499, q500, lth, lG, lT, lW, -⟩ := hL_
  have hS_ := hS
  obtain ⟨sd, sw, stk, s4, s5, s6, hC, hH, -, s10, sce, swc, s13⟩ := hS_
  refine ⟨_, PT_140, Nat.le_of_ble_eq_true rfl, ?_⟩
  show Rn PT none kX11_falls 0 [some (mR 0), some (mI (a0)), some (mI (a1)), some (mI (a2)), some (mI (a3)), some (mI (a4)), none, none] [] (mkh μ c s) _
  refine rn_aload_n (k' := 1) rfl rfl rfl ?_
  refine rn_iload_n (k' := 2) rfl rfl rfl ?_
  refine rn_iload_n (k' := 3) rfl rfl rfl ?_
  refine rn_iload_n (k' := 4) rfl rfl rfl ?_
  refine rn_aload_n (k' := 5) rfl rfl rfl ?_
  refine rn_getR (k' := 6) rfl rfl K0_0 (by decide) rfl R0_0_4 ?_
  refine rn_getI (k' := 7) rfl rfl K0_14 (by decide) rfl ?_
  by_cases hq1 : g_cell μ a0 ∧ g_cell μ a1 ∧ (0 ≤ a2 ∧ a2 ≤ 99) ∧ 0 ≤ (μ 14 0) ∧ (μ 14 0) ≤ 29
  · refine rn_callP (k' := 8) (y := 155) (vs := [mR 0, mI (a0), mI (a1), mI (a2), mI (μ 14 0)]) (S' := []) (v := some (mI 1)) (h' := mkh μ c s) rfl rfl rfl (by have hz : Cl PT 155 [mR 0, mI (a0), mI (a1), mI (a2), mI (μ 14 0)] (mkh μ c s) (fun r => r = (some (some (mI (if g_cell μ a0 ∧ g_cell μ a1 ∧ (0 ≤ a2 ∧ a2 ≤ 99) ∧ 0 ≤ (μ 14 0) ∧ (μ 14 0) ≤ 29 then 1 else 0))), mkh μ c s)) := c_X11_areSuch (hL) (a := a0) (b := a1) (t := a2) (d := μ 14 0) (by omega) (by omega) (μ := μ) (c := c) (s := s); rw [if_pos hq1] at hz; exact hz) ?_
    show Rn PT none kX11_falls 8 [some (mR 0), some (mI (a0)), some (mI (a1)), some (mI (a2)), some (mI (a3)), some (mI (a4)), none, none] [mI (1)] (mkh μ c s) _
    refine rn_if_eq (k' := 9) rfl rfl (fun hc2 => ?_) (fun hc2 => ?_)
    · exfalso; omega
    · skip
      refine rn_iload (k' := 10) rfl rfl rfl ?_
      refine rn_iconst (k' := 11) rfl rfl ?_
      refine rn_icmp_lt (k' := 12) rfl rfl (fun hc3 => ?_) (fun hc3 => ?_)
      · skip
        refine rn_iconst (k' := 26) rfl rfl ?_
        refine rn_iret rfl (Or.inl rfl) ?_
        rfl
      · skip
        refine rn_iload (k' := 13) rfl rfl rfl ?_
        refine rn_sipush (k' := 14) rfl rfl ?_
        refine rn_icmp_gt (k' := 15) rfl rfl (fun hc4 => ?_) (fun hc4 => ?_)
        · skip
          refine rn_iconst (k' := 26) rfl rfl ?_
          refine rn_iret rfl (Or.inl rfl) ?_
          rfl
        · skip
          refine rn_aload_n (k' := 16) rfl rfl rfl ?_
          refine rn_getR (k' := 17) rfl rfl K0_0 (by decide) rfl R0_0_8 ?_
          refine rn_iload_n (k' := 18) rfl rfl rfl ?_
          refine rn_iload_n (k' := 19) rfl rfl rfl ?_
          refine rn_iload_n (k' := 20) rfl rfl rfl ?_
          refine rn_aload_n (k' := 21) rfl rfl rfl ?_
          refine rn_getR (k' := 22) rfl rfl K0_0 (by decide) rfl R0_0_4 ?_
          refine rn_getI (k' := 23) rfl rfl K0_14 (by decide) rfl ?_
          exfalso; omega
  · refine rn_callP (k' := 8) (y := 155) (vs := [mR 0, mI (a0), mI (a1), mI (a2), mI (μ 14 0)]) (S' := []) (v := some (mI 0)) (h' := mkh μ c s) rfl rfl rfl (by have hz : Cl PT 155 [mR 0, mI (a0), mI (a1), mI (a2), mI (μ 14 0)] (mkh μ c s) (fun r => r = (some (some (mI (if g_cell μ a0 ∧ g_cell μ a1 ∧ (0 ≤ a2 ∧ a2 ≤ 99) ∧ 0 ≤ (μ 14 0) ∧ (μ 14 0) ≤ 29 then 1 else 0))), mkh μ c s)) := c_X11_areSuch (hL) (a := a0) (b := a1) (t := a2) (d := μ 14 0) (by omega) (by omega) (μ := μ) (c := c) (s := s); rw [if_neg hq1] at hz; exact hz) ?_
    show Rn PT none kX11_falls 8 [some (mR 0), some (mI (a0)), some (mI (a1)), some (mI (a2)), some (mI (a3)), some (mI (a4)), none, none] [mI (0)] (mkh μ c s) _
    refine rn_if_eq (k' := 9) rfl rfl (fun hc5 => ?_) (fun hc5 => ?_)
    · skip
      refine rn_iconst (k' := 26) rfl rfl ?_
      refine rn_iret rfl (Or.inl rfl) ?_
      rfl
    · exfalso; omega
theorem i_X12_falls {μ : Nat → Nat → Int} {c s : Nat} (hL : I_land μ) (hS : I_scene μ) {a0 a1 a2 a3 a4 : Int} (h0 : i32 a0) (h1 : i32 a1) (h2 : i32 a2) (h3 : i32 a3) (h4 : i32 a4) (hv : ¬ (g_cell μ a0 ∧ g_cell μ a1 ∧ (0 ≤ a2 ∧ a2 ≤ 99) ∧ (1 ≤ a3 ∧ a3 ≤ 200))) : Cl PT 264 [mR 118, mI a0, mI a1, mI a2, mI a3, mI a4] (mkh μ c s) (fun r => r = (some (some (mI (-1))), mkh (m_set μ 118 0 0) c s)) := by
  have hL_ := hL
  obtain ⟨lc, lr, le, lm, lw, lh, lwo, lwd, q0, q1, q2, q3, q4, q8, q499, q500, lth, lG, lT, lW, -⟩ := hL_
  have hS_ := hS
  obtain ⟨sd, sw, stk, s4, s5, s6, hC, hH, -, s10, sce, swc, s13⟩ := hS_
  refine ⟨_, PT_264, Nat.le_of_ble_eq_true rfl, ?_⟩
  show Rn PT none kX12_falls 0 [some (mR 118), some (mI (a0)), some (mI (a1)), some (mI (a2)), some (mI (a3)), some (mI (a4)), none, none, none] [] (mkh μ c s) _
  refine rn_aload_n (k' := 1) rfl rfl rfl ?_
  refine rn_iconst (k' := 2) rfl rfl ?_
  refine rn_putI (k' := 3) rfl rfl K0_118 (by decide) rfl ?_
  refine rn_aload_n (k' := 4) rfl rfl rfl ?_
  refine rn_iload_n (k' := 5) rfl rfl rfl ?_
  refine rn_iload_n (k' := 6) rfl rfl rfl ?_
  refine rn_iload_n (k' := 7) rfl rfl rfl ?_
  refine rn_iconst (k' := 8) rfl rfl ?_
  by_cases hq2 : g_cell μ a0 ∧ g_cell μ a1 ∧ (0 ≤ a2 ∧ a2 ≤ 99) ∧ 0 ≤ (0 : Int) ∧ (0 : Int) ≤ 29
  · refine rn_callP (k' := 9) (y := 214) (vs := [mR 118, mI (a0), mI (a1), mI (a2), mI (0)]) (S' := []) (v := some (mI 1)) (h' := mkh (m_set μ 118 0 (0)) c s) rfl rfl rfl (by have hz : Cl PT 214 [mR 118, mI (a0), mI (a1), mI (a2), mI (0)] (mkh (m_set μ 118 0 (0)) c s) (fun r => r = (some (some (mI (if g_cell μ a0 ∧ g_cell μ a1 ∧ (0 ≤ a2 ∧ a2 ≤ 99) ∧ 0 ≤ (0 : Int) ∧ (0 : Int) ≤ 29 then 1 else 0))), mkh (m_set μ 118 0 (0)) c s)) := c_X12_areAll ((hL).set rfl) (a := a0) (b := a1) (t := a2) (d := 0) (by omega) (by omega) (μ := (m_set μ 118 0 (0))) (c := c) (s := s); rw [if_pos hq2] at hz; exact hz) ?_
    show Rn PT none kX12_falls 9 [some (mR 118), some (mI (a0)), some (mI (a1)), some (mI (a2)), some (mI (a3)), some (mI (a4)), none, none, none] [mI (1)] (mkh (m_set μ 118 0 (0)) c s) _
    refine rn_if_eq (k' := 10) rfl rfl (fun hc3 => ?_) (fun hc3 => ?_)
    · exfalso; omega
    · skip
      refine rn_iload (k' := 11) rfl rfl rfl ?_
      refine rn_iconst (k' := 12) rfl rfl ?_
      refine rn_sipush (k' := 13) rfl rfl ?_
      by_cases hq4 : 1 ≤ a3 ∧ a3 ≤ 200
      · refine rn_callP (k' := 14) (y := 167) (vs := [mI (a3), mI (1), mI (200)]) (S' := []) (v := some (mI 1)) (h' := mkh (m_set μ 118 0 (0)) c s) rfl rfl rfl (by have hz : Cl PT 167 [mI (a3), mI (1), mI (200)] (mkh (m_set μ 118 0 (0)) c s) (fun r => r = (some (some (mI (if 1 ≤ a3 ∧ a3 ≤ 200 then 1 else 0))), mkh (m_set μ 118 0 (0)) c s)) := c_X12_isIn (v := a3) (lo := 1) (hi := 200) (μ := (m_set μ 118 0 (0))) (c := c) (s := s); rw [if_pos hq4] at hz; exact hz) ?_
        show Rn PT none kX12_falls 14 [some (mR 118), some (mI (a0)), some (mI (a1)), some (mI (a2)), some (mI (a3)), some (mI (a4)), none, none, none] [mI (1)] (mkh (m_set μ 118 0 (0)) c s) _
        refine rn_if_ne (k' := 15) rfl rfl (fun hc5 => ?_) (fun hc5 => ?_)
        · skip
          refine rn_aload_n (k' := 18) rfl rfl rfl ?_
          refine rn_aload_n (k' := 19) rfl rfl rfl ?_
          refine rn_getR (k' := 20) rfl rfl K0_118 (by decide) rfl R0_118_6 ?_
          refine rn_sipush (k' := 21) rfl rfl ?_
          refine rn_iaload (k' := 22) rfl rfl K0_120 (by omega) (by omega) ?_
          show Rn PT none kX12_falls 22 [some (mR 118), some (mI (a0)), some (mI (a1)), some (mI (a2)), some (mI (a3)), some (mI (a4)), none, none, none] [mI (μ 120 517), mR 118] (mkh (m_set μ 118 0 (0)) c s) _
          rw [s4]
          exfalso; omega
        · exfalso; omega
      · refine rn_callP (k' := 14) (y := 167) (vs := [mI (a3), mI (1), mI (200)]) (S' := []) (v := some (mI 0)) (h' := mkh (m_set μ 118 0 (0)) c s) rfl rfl rfl (by have hz : Cl PT 167 [mI (a3), mI (1), mI (200)] (mkh (m_set μ 118 0 (0)) c s) (fun r => r = (some (some (mI (if 1 ≤ a3 ∧ a3 ≤ 200 then 1 else 0))), mkh (m_set μ 118 0 (0)) c s)) := c_X12_isIn (v := a3) (lo := 1) (hi := 200) (μ := (m_set μ 118 0 (0))) (c := c) (s := s); rw [if_neg hq4] at hz; exact hz) ?_
        show Rn PT none kX12_falls 14 [some (mR 118), some (mI (a0)), some (mI (a1)), some (mI (a2)), some (mI (a3)), some (mI (a4)), none, none, none] [mI (0)] (mkh (m_set μ 118 0 (0)) c s) _
        refine rn_if_ne (k' := 15) rfl rfl (fun hc6 => ?_) (fun hc6 => ?_)
        · exfalso; omega
        · skip
          refine rn_iconst (k' := 16) rfl rfl ?_
          refine rn_iret rfl (Or.inl rfl) ?_
          rfl
  · refine rn_callP (k' := 9) (y := 214) (vs := [mR 118, mI (a0), mI (a1), mI (a2), mI (0)]) (S' := []) (v := some (mI 0)) (h' := mkh (m_set μ 118 0 (0)) c s) rfl rfl rfl (by have hz : Cl PT 214 [mR 118, mI (a0), mI (a1), mI (a2), mI (0)] (mkh (m_set μ 118 0 (0)) c s) (fun r => r = (some (some (mI (if g_cell μ a0 ∧ g_cell μ a1 ∧ (0 ≤ a2 ∧ a2 ≤ 99) ∧ 0 ≤ (0 : Int) ∧ (0 : Int) ≤ 29 then 1 else 0))), mkh (m_set μ 118 0 (0)) c s)) := c_X12_areAll ((hL).set rfl) (a := a0) (b := a1) (t := a2) (d := 0) (by omega) (by omega) (μ := (m_set μ 118 0 (0))) (c := c) (s := s); rw [if_neg hq2] at hz; exact hz) ?_
    show Rn PT none kX12_falls 9 [some (mR 118), some (mI (a0)), some (mI (a1)), some (mI (a2)), some (mI (a3)), some (mI (a4)), none, none, none] [mI (0)] (mkh (m_set μ 118 0 (0)) c s) _
    refine rn_if_eq (k' := 10) rfl rfl (fun hc7 => ?_) (fun hc7 => ?_)
    · skip
      refine rn_iconst (k' := 16) rfl rfl ?_
      refine rn_iret rfl (Or.inl rfl) ?_
      rfl
    · exfalso; omega
theorem t_X11_falls {μ : Nat → Nat → Int} {c s : Nat} (hL : I_land μ) (hS : I_scene μ) {a0 a1 a2 a3 a4 : Int} (h0 : i32 a0) (h1 : i32 a1) (h2 : i32 a2) (h3 : i32 a3) (h4 : i32 a4) [D : Decidable (g_ok μ a0 a1 a2 (g_w μ 0 (μ 14 0)) ∧ (g_C μ a1 a2 (g_w μ 0 (μ 14 0)) (g_w μ 1 (μ 14 0))) a0.toNat < 1000000000)] : Cl PT 140 [mR 0, mI a0, mI a1, mI a2, mI a3, mI a4] (mkh μ c s) (fun r => ∃ μ1, r = (some (some (mI (if g_cell μ a0 ∧ g_cell μ a1 ∧ (0 ≤ a2 ∧ a2 ≤ 99) ∧ (1 ≤ a3 ∧ a3 ≤ 200) then (if (g_ok μ a0 a1 a2 (g_w μ 0 (μ 14 0)) ∧ (g_C μ a1 a2 (g_w μ 0 (μ 14 0)) (g_w μ 1 (μ 14 0))) a0.toNat < 1000000000) then g_fl μ a0 a1 a2 a3 a4 else -1) else -1))), mkh μ1 c s) ∧ rst μ1 = rst μ) := by
  by_cases hv : g_cell μ a0 ∧ g_cell μ a1 ∧ (0 ≤ a2 ∧ a2 ≤ 99) ∧ (1 ≤ a3 ∧ a3 ≤ 200)
  · rw [if_pos hv]
    obtain ⟨hv1, hv2, hv3, hv4⟩ := hv
    obtain ⟨K, rfl⟩ := Int.eq_ofNat_of_zero_le (show 0 ≤ a3 by omega)
    by_cases hw : (g_ok μ a0 a1 a2 (g_w μ 0 (μ 14 0)) ∧ (g_C μ a1 a2 (g_w μ 0 (μ 14 0)) (g_w μ 1 (μ 14 0))) a0.toNat < 1000000000)
    · rw [if_pos hw]; exact x_X11_falls hL hS hv1 hv2 hv3 (by omega) h0 h1 hw
    · rw [if_neg hw]; exact n_X11_falls hL hS hv1 hv2 hv3 (by omega) h0 h1 hw
  · rw [if_neg hv]
    exact (i_X11_falls hL hS h0 h1 h2 h3 h4 hv).mono (fun r hr => ⟨_, hr, rfl⟩)
theorem t_X12_falls {μ : Nat → Nat → Int} {c s : Nat} (hL : I_land μ) (hS : I_scene μ) {a0 a1 a2 a3 a4 : Int} (h0 : i32 a0) (h1 : i32 a1) (h2 : i32 a2) (h3 : i32 a3) (h4 : i32 a4) [D : Decidable (g_ok μ a0 a1 a2 (g_w μ 0 (μ 14 0)) ∧ (g_C μ a1 a2 (g_w μ 0 (μ 14 0)) (g_w μ 1 (μ 14 0))) a0.toNat < 1000000000)] : Cl PT 264 [mR 118, mI a0, mI a1, mI a2, mI a3, mI a4] (mkh μ c s) (fun r => ∃ μ1, r = (some (some (mI (if g_cell μ a0 ∧ g_cell μ a1 ∧ (0 ≤ a2 ∧ a2 ≤ 99) ∧ (1 ≤ a3 ∧ a3 ≤ 200) then (if (g_ok μ a0 a1 a2 (g_w μ 0 (μ 14 0)) ∧ (g_C μ a1 a2 (g_w μ 0 (μ 14 0)) (g_w μ 1 (μ 14 0))) a0.toNat < 1000000000) then g_fl μ a0 a1 a2 a3 a4 else -1) else -1))), mkh μ1 c s) ∧ rst μ1 = rst μ) := by
  by_cases hv : g_cell μ a0 ∧ g_cell μ a1 ∧ (0 ≤ a2 ∧ a2 ≤ 99) ∧ (1 ≤ a3 ∧ a3 ≤ 200)
  · rw [if_pos hv]
    obtain ⟨hv1, hv2, hv3, hv4⟩ := hv
    obtain ⟨K, rfl⟩ := Int.eq_ofNat_of_zero_le (show 0 ≤ a3 by omega)
    by_cases hw : (g_ok μ a0 a1 a2 (g_w μ 0 (μ 14 0)) ∧ (g_C μ a1 a2 (g_w μ 0 (μ 14 0)) (g_w μ 1 (μ 14 0))) a0.toNat < 1000000000)
    · rw [if_pos hw]; exact x_X12_falls hL hS hv1 hv2 hv3 (by omega) h0 h1 hw
    · rw [if_neg hw]; exact n_X12_falls hL hS hv1 hv2 hv3 (by omega) h0 h1 hw
  · rw [if_neg hv]
    exact (i_X12_falls hL hS h0 h1 h2 h3 h4 hv).mono (fun r hr => ⟨_, hr, rst_set rfl⟩)
theorem pair_42 : ∀ (a0 : Int), ∀ (a1 : Int), ∀ (a2 : Int), ∀ (a3 : Int), ∀ (a4 : Int), i32 a0 → i32 a1 → i32 a2 → i32 a3 → i32 a4 → PairI (Inv N) 140 264 [mI a0, mI a1, mI a2, mI a3, mI a4] := by
  intro a0 a1 a2 a3 a4 h0 h1 h2 h3 h4
  exact pair_of (fun μ => (if g_cell μ a0 ∧ g_cell μ a1 ∧ (0 ≤ a2 ∧ a2 ≤ 99) ∧ (1 ≤ a3 ∧ a3 ≤ 200) then (if (g_ok μ a0 a1 a2 (g_w μ 0 (μ 14 0)) ∧ (g_C μ a1 a2 (g_w μ 0 (μ 14 0)) (g_w μ 1 (μ 14 0))) a0.toNat < 1000000000) then g_fl μ a0 a1 a2 a3 a4 else -1) else -1)) (fun μ c s hI => t_X11_falls hI.land hI.scene h0 h1 h2 h3 h4) (fun μ c s hI => t_X12_falls hI.land hI.scene h0 h1 h2 h3 h4) (fun μ ν h => by
    have e6 := row_rst h (a := 6) (fun _ => rfl)
    have e7 := row_rst h (a := 7) (fun _ => rfl)
    have e8 := row_rst h (a := 8) (fun _ => rfl)
    have e10 := row_rst h (a := 10) (fun _ => rfl)
    have e14 := row_rst h (a := 14) (fun _ => rfl)
    have eW : g_w ν = g_w μ := by delta g_w; rw [e10]
    show (if g_cell ν a0 ∧ g_cell ν a1 ∧ (0 ≤ a2 ∧ a2 ≤ 99) ∧ (1 ≤ a3 ∧ a3 ≤ 200) then (if (g_ok ν a0 a1 a2 (g_w ν 0 (ν 14 0)) ∧ (g_C ν a1 a2 (g_w ν 0 (ν 14 0)) (g_w ν 1 (ν 14 0))) a0.toNat < 1000000000) then g_fl ν a0 a1 a2 a3 a4 else -1) else -1) = (if g_cell μ a0 ∧ g_cell μ a1 ∧ (0 ≤ a2 ∧ a2 ≤ 99) ∧ (1 ≤ a3 ∧ a3 ≤ 200) then (if (g_ok μ a0 a1 a2 (g_w μ 0 (μ 14 0)) ∧ (g_C μ a1 a2 (g_w μ 0 (μ 14 0)) (g_w μ 1 (μ 14 0))) a0.toNat < 1000000000) then g_fl μ a0 a1 a2 a3 a4 else -1) else -1)
    rw [g_C_rows e6 e7 e8, g_fl_rows e6 e7 e8 e10 e14, eW, e14]
    unfold g_cell g_ok g_stand
    rw [e6, e7, e8])
