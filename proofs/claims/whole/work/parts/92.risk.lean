variable {N : Int}
/-! ===== printed by wip/whole/gen92.py: least risk; pair: risk ===== -/
noncomputable def g_C (μ : Nat → Nat → Int) (a t w v : Int) : Nat → Int := Classical.epsilon (fun C => gBE μ a t w v C)
theorem g_C_be {μ : Nat → Nat → Int} {a t w v : Int} {C : Nat → Int} (h : gBE μ a t w v C) : gBE μ a t w v (g_C μ a t w v) := Classical.epsilon_spec (p := fun C => gBE μ a t w v C) ⟨C, h⟩
theorem g_C_eq {μ : Nat → Nat → Int} (hL : I_land μ) {a t w v : Int} (ht : 0 ≤ t ∧ t ≤ 99) (hv : 0 ≤ v ∧ v ≤ 99) {C : Nat → Int} (h : gBE μ a t w v C) {x : Int} (hx : g_cell μ x) : C x.toNat = g_C μ a t w v x.toNat := be_eq (g_GR hL) (fun x y _ _ => (gW_b hL ht hv x y).1) h (g_C_be h) hx
theorem gBE_rows {μ ν : Nat → Nat → Int} (e6 : ν 6 = μ 6) (e7 : ν 7 = μ 7) (e8 : ν 8 = μ 8) : gBE ν = gBE μ := by
  delta gBE g_nb g_stand g_cell
  rw [gW_rows e7, e6, e7, e8]
theorem g_C_rows {μ ν : Nat → Nat → Int} (e6 : ν 6 = μ 6) (e7 : ν 7 = μ 7) (e8 : ν 8 = μ 8) : g_C ν = g_C μ := by
  delta g_C
  rw [gBE_rows e6 e7 e8]
def rsk (C : Nat → Int) (x : Int) : Int := if C x.toNat = 1000000000 then -1 else (C x.toNat).tdiv 1000
/-- there is a way -/
abbrev g_ok (μ : Nat → Nat → Int) (x a t w : Int) : Prop := g_stand μ x t w ∧ g_stand μ a t w
set_option maxHeartbeats 4000000 in
theorem x_leastRisk {μ : Nat → Nat → Int} {c s : Nat} (hL : I_land μ) {x a t dy : Int} (hx : g_cell μ x) (ha : g_cell μ a) (ht : 0 ≤ t ∧ t ≤ 99) (hd : 0 ≤ dy ∧ dy ≤ 29) (hs0 : g_stand μ x t (g_w μ 0 dy)) (hs1 : g_stand μ a t (g_w μ 0 dy)) : Cl PT 94 [mR 66, mI x, mI a, mI t, mI dy] (mkh μ c s) (fun r => ∃ O C Z, r = (some (some (mI (rsk (g_C μ a t (g_w μ 0 dy) (g_w μ 1 dy)) x))), mkh (m_upd (m_upd (m_upd μ 67 O) 70 C) 71 Z) c s) ∧ gBE μ a t (g_w μ 0 dy) (g_w μ 1 dy) C) := by
  have hL_ := hL
  obtain ⟨lc, lr, le, lm, lw, lh, lwo, lwd, q0, q1, q2, q3, q4, q8, q499, q500, lth, lG, lT, lW, -⟩ := hL_
  have hxb := g_cell_b hL hx
  have hab := g_cell_b hL ha
  have hwb := g_w_b hL 0 dy
  have hvb := g_w_b hL 1 dy
  have eo : ∀ y, g_cell μ y → (fl (fun j : Nat => if g_stand μ (j : Int) t (g_w μ 0 dy) then 1 else 0) (μ 67) (10 * μ 6 9).toNat) y.toNat = if g_stand μ y t (g_w μ 0 dy) then 1 else 0 := fun y hy => by
    rw [fl_lt (cell_span hy), Int.toNat_of_nonneg hy.1]
  have ex : (fl (fun j : Nat => if g_stand μ (j : Int) t (g_w μ 0 dy) then 1 else 0) (μ 67) (10 * μ 6 9).toNat) x.toNat = 1 := by rw [eo x hx, if_pos hs0]
  have ea : (fl (fun j : Nat => if g_stand μ (j : Int) t (g_w μ 0 dy) then 1 else 0) (μ 67) (10 * μ 6 9).toNat) a.toNat = 1 := by rw [eo a ha, if_pos hs1]
  refine ⟨_, PT_94, Nat.le_of_ble_eq_true rfl, ?_⟩
  show Rn PT none kX10_leastRisk 0 [some (mR 66), some (mI (x)), some (mI (a)), some (mI (t)), some (mI (dy))] [] (mkh μ c s) _
  refine rn_aload_n (k' := 1) rfl rfl rfl ?_
  refine rn_iload_n (k' := 2) rfl rfl rfl ?_
  refine rn_aload_n (k' := 3) rfl rfl rfl ?_
  refine rn_getR (k' := 4) rfl rfl K0_66 (by decide) rfl R0_66_0 ?_
  refine rn_iconst (k' := 5) rfl rfl ?_
  refine rn_iload (k' := 6) rfl rfl rfl ?_
  have hb1 := g_w_b hL 0 dy
  refine rn_callP (k' := 7) (y := 32) (vs := [mR 6, mI (0), mI (dy)]) (S' := [mI (t), mR 66]) (v := some (mI (g_w μ 0 dy))) (h' := mkh μ c s) rfl rfl rfl (k_weatherOn (μ := μ) (hL) (by omega) (by omega)) ?_
  show Rn PT none kX10_leastRisk 7 [some (mR 66), some (mI (x)), some (mI (a)), some (mI (t)), some (mI (dy))] [mI (g_w μ 0 dy), mI (t), mR 66] (mkh μ c s) _
  refine rn_callP (k' := 8) (y := 87) (vs := [mR 66, mI (t), mI (g_w μ 0 dy)]) (S' := []) (v := none) (h' := mkh (m_upd μ 67 ((fl (fun j : Nat => if g_stand μ (j : Int) t (g_w μ 0 dy) then 1 else 0) (μ 67) (10 * μ 6 9).toNat))) c s) rfl rfl rfl (c_X10_openFor (μ := μ) (c := c) (s := s) (hL) (t := t) (w := (g_w μ 0 dy)) (by omega)) ?_
  show Rn PT none kX10_leastRisk 8 [some (mR 66), some (mI (x)), some (mI (a)), some (mI (t)), some (mI (dy))] [] (mkh (m_upd μ 67 ((fl (fun j : Nat => if g_stand μ (j : Int) t (g_w μ 0 dy) then 1 else 0) (μ 67) (10 * μ 6 9).toNat))) c s) _
  refine rn_aload_n (k' := 9) rfl rfl rfl ?_
  refine rn_getR (k' := 10) rfl rfl K0_66 (by decide) rfl R0_66_1 ?_
  refine rn_iload_n (k' := 11) rfl rfl rfl ?_
  refine rn_zaload (k' := 12) rfl rfl K0_67 (by omega) (by omega) ?_
  show Rn PT none kX10_leastRisk 12 [some (mR 66), some (mI (x)), some (mI (a)), some (mI (t)), some (mI (dy))] [mI (((fl (fun j : Nat => if g_stand μ (j : Int) t (g_w μ 0 dy) then 1 else 0) (μ 67) (10 * μ 6 9).toNat)) ((x).toNat))] (mkh (m_upd μ 67 ((fl (fun j : Nat => if g_stand μ (j : Int) t (g_w μ 0 dy) then 1 else 0) (μ 67) (10 * μ 6 9).toNat))) c s) _
  rw [ex]
  refine rn_if_eq (k' := 13) rfl rfl (fun hc2 => ?_) (fun hc2 => ?_)
  · exfalso; omega
  · skip
    refine rn_aload_n (k' := 14) rfl rfl rfl ?_
    refine rn_getR (k' := 15) rfl rfl K0_66 (by decide) rfl R0_66_1 ?_
    refine rn_iload_n (k' := 16) rfl rfl rfl ?_
    refine rn_zaload (k' := 17) rfl rfl K0_67 (by omega) (by omega) ?_
    show Rn PT none kX10_leastRisk 17 [some (mR 66), some (mI (x)), some (mI (a)), some (mI (t)), some (mI (dy))] [mI (((fl (fun j : Nat => if g_stand μ (j : Int) t (g_w μ 0 dy) then 1 else 0) (μ 67) (10 * μ 6 9).toNat)) ((a).toNat))] (mkh (m_upd μ 67 ((fl (fun j : Nat => if g_stand μ (j : Int) t (g_w μ 0 dy) then 1 else 0) (μ 67) (10 * μ 6 9).toNat))) c s) _
    rw [ea]
    refine rn_if_ne (k' := 18) rfl rfl (fun hc3 => ?_) (fun hc3 => ?_)
    · skip
      refine rn_aload_n (k' := 21) rfl rfl rfl ?_
      refine rn_iload_n (k' := 22) rfl rfl rfl ?_
      refine rn_iload_n (k' := 23) rfl rfl rfl ?_
      refine rn_aload_n (k' := 24) rfl rfl rfl ?_
      refine rn_getR (k' := 25) rfl rfl K0_66 (by decide) rfl R0_66_0 ?_
      refine rn_iconst (k' := 26) rfl rfl ?_
      refine rn_iload (k' := 27) rfl rfl rfl ?_
      have hb4 := g_w_b hL 1 dy
      refine rn_callP (k' := 28) (y := 32) (vs := [mR 6, mI (1), mI (dy)]) (S' := [mI (t), mI (a), mR 66]) (v := some (mI (g_w μ 1 dy))) (h' := mkh (m_upd μ 67 ((fl (fun j : Nat => if g_stand μ (j : Int) t (g_w μ 0 dy) then 1 else 0) (μ 67) (10 * μ 6 9).toNat))) c s) rfl rfl rfl (k_weatherOn (μ := (m_upd μ 67 ((fl (fun j : Nat => if g_stand μ (j : Int) t (g_w μ 0 dy) then 1 else 0) (μ 67) (10 * μ 6 9).toNat)))) ((hL).upd rfl) (by omega) (by omega)) ?_
      show Rn PT none kX10_leastRisk 28 [some (mR 66), some (mI (x)), some (mI (a)), some (mI (t)), some (mI (dy))] [mI (g_w μ 1 dy), mI (t), mI (a), mR 66] (mkh (m_upd μ 67 ((fl (fun j : Nat => if g_stand μ (j : Int) t (g_w μ 0 dy) then 1 else 0) (μ 67) (10 * μ 6 9).toNat))) c s) _
      obtain ⟨C, Z, hB, hcl⟩ := c_costFrom (μ := (m_upd μ 67 ((fl (fun j : Nat => if g_stand μ (j : Int) t (g_w μ 0 dy) then 1 else 0) (μ 67) (10 * μ 6 9).toNat)))) (c := c) (s := s) ((hL).upd rfl) (a := a) (t := t) (w := (g_w μ 0 dy)) (v := (g_w μ 1 dy)) ha ht hvb hs1 (fun j hj => by show (fl (fun j : Nat => if g_stand μ (j : Int) t (g_w μ 0 dy) then 1 else 0) (μ 67) (10 * μ 6 9).toNat) j = if g_stand μ (j : Int) t (g_w μ 0 dy) then 1 else 0; exact fl_lt hj)
      rw [gBE_rows (ν := (m_upd μ 67 ((fl (fun j : Nat => if g_stand μ (j : Int) t (g_w μ 0 dy) then 1 else 0) (μ 67) (10 * μ 6 9).toNat)))) (μ := μ) rfl rfl rfl] at hB
      have hCx := hB.2.1 x hx
      have hCe := g_C_eq hL ht hvb hB hx
      refine rn_callP (k' := 29) (y := 95) (vs := [mR 66, mI (a), mI (t), mI (g_w μ 1 dy)]) (S' := []) (v := none) (h' := mkh (m_upd (m_upd (m_upd μ 67 ((fl (fun j : Nat => if g_stand μ (j : Int) t (g_w μ 0 dy) then 1 else 0) (μ 67) (10 * μ 6 9).toNat))) 70 C) 71 Z) c s) rfl rfl rfl (hcl) ?_
      show Rn PT none kX10_leastRisk 29 [some (mR 66), some (mI (x)), some (mI (a)), some (mI (t)), some (mI (dy))] [] (mkh (m_upd (m_upd (m_upd μ 67 ((fl (fun j : Nat => if g_stand μ (j : Int) t (g_w μ 0 dy) then 1 else 0) (μ 67) (10 * μ 6 9).toNat))) 70 C) 71 Z) c s) _
      refine rn_aload_n (k' := 30) rfl rfl rfl ?_
      refine rn_getR (k' := 31) rfl rfl K0_66 (by decide) rfl R0_66_4 ?_
      refine rn_iload_n (k' := 32) rfl rfl rfl ?_
      refine rn_iaload (k' := 33) rfl rfl K0_70 (by omega) (by omega) ?_
      show Rn PT none kX10_leastRisk 33 [some (mR 66), some (mI (x)), some (mI (a)), some (mI (t)), some (mI (dy))] [mI (C ((x).toNat))] (mkh (m_upd (m_upd (m_upd μ 67 ((fl (fun j : Nat => if g_stand μ (j : Int) t (g_w μ 0 dy) then 1 else 0) (μ 67) (10 * μ 6 9).toNat))) 70 C) 71 Z) c s) _
      refine rn_ldc (k' := 34) rfl rfl ?_
      refine rn_icmp_ne (k' := 35) rfl rfl (fun hc5 => ?_) (fun hc5 => ?_)
      · skip
        refine rn_aload_n (k' := 38) rfl rfl rfl ?_
        refine rn_getR (k' := 39) rfl rfl K0_66 (by decide) rfl R0_66_4 ?_
        refine rn_iload_n (k' := 40) rfl rfl rfl ?_
        refine rn_iaload (k' := 41) rfl rfl K0_70 (by omega) (by omega) ?_
        show Rn PT none kX10_leastRisk 41 [some (mR 66), some (mI (x)), some (mI (a)), some (mI (t)), some (mI (dy))] [mI (C ((x).toNat))] (mkh (m_upd (m_upd (m_upd μ 67 ((fl (fun j : Nat => if g_stand μ (j : Int) t (g_w μ 0 dy) then 1 else 0) (μ 67) (10 * μ 6 9).toNat))) 70 C) 71 Z) c s) _
        refine rn_sipush (k' := 42) rfl rfl ?_
        refine rn_idiv (k' := 43) rfl rfl (by decide) (tdiv_rng (by omega) (by omega)) ?_
        refine rn_iret rfl (Or.inl rfl) ?_
        refine ⟨(fl (fun j : Nat => if g_stand μ (j : Int) t (g_w μ 0 dy) then 1 else 0) (μ 67) (10 * μ 6 9).toNat), C, Z, ?_, hB⟩
        refine congrArg (fun z => ((some (some (mI z)) : Option (Option MV)), mkh (m_upd (m_upd (m_upd μ 67 ((fl (fun j : Nat => if g_stand μ (j : Int) t (g_w μ 0 dy) then 1 else 0) (μ 67) (10 * μ 6 9).toNat))) 70 C) 71 Z) c s)) ?_
        unfold rsk
        rw [← hCe]
        first | rw [if_pos (by omega)] | rw [if_neg (by omega)]
      · skip
        refine rn_iconst (k' := 36) rfl rfl ?_
        refine rn_goto rfl ?_
        refine rn_iret rfl (Or.inl rfl) ?_
        refine ⟨(fl (fun j : Nat => if g_stand μ (j : Int) t (g_w μ 0 dy) then 1 else 0) (μ 67) (10 * μ 6 9).toNat), C, Z, ?_, hB⟩
        refine congrArg (fun z => ((some (some (mI z)) : Option (Option MV)), mkh (m_upd (m_upd (m_upd μ 67 ((fl (fun j : Nat => if g_stand μ (j : Int) t (g_w μ 0 dy) then 1 else 0) (μ 67) (10 * μ 6 9).toNat))) 70 C) 71 Z) c s)) ?_
        unfold rsk
        rw [← hCe]
        first | rw [if_pos (by omega)] | rw [if_neg (by omega)]
    · exfalso; omega
set_option maxHeartbeats 4000000 in
theorem n0_leastRisk {μ : Nat → Nat → Int} {c s : Nat} (hL : I_land μ) {x a t dy : Int} (hx : g_cell μ x) (ha : g_cell μ a) (ht : 0 ≤ t ∧ t ≤ 99) (hd : 0 ≤ dy ∧ dy ≤ 29) (hs0 : ¬ g_stand μ x t (g_w μ 0 dy)) : Cl PT 94 [mR 66, mI x, mI a, mI t, mI dy] (mkh μ c s) (fun r => ∃ O C Z, r = (some (some (mI (-1))), mkh (m_upd (m_upd (m_upd μ 67 O) 70 C) 71 Z) c s)) := by
  have hL_ := hL
  obtain ⟨lc, lr, le, lm, lw, lh, lwo, lwd, q0, q1, q2, q3, q4, q8, q499, q500, lth, lG, lT, lW, -⟩ := hL_
  have hxb := g_cell_b hL hx
  have hab := g_cell_b hL ha
  have hwb := g_w_b hL 0 dy
  have hvb := g_w_b hL 1 dy
  have eo : ∀ y, g_cell μ y → (fl (fun j : Nat => if g_stand μ (j : Int) t (g_w μ 0 dy) then 1 else 0) (μ 67) (10 * μ 6 9).toNat) y.toNat = if g_stand μ y t (g_w μ 0 dy) then 1 else 0 := fun y hy => by
    rw [fl_lt (cell_span hy), Int.toNat_of_nonneg hy.1]
  have ex : (fl (fun j : Nat => if g_stand μ (j : Int) t (g_w μ 0 dy) then 1 else 0) (μ 67) (10 * μ 6 9).toNat) x.toNat = 0 := by rw [eo x hx, if_neg hs0]
  refine ⟨_, PT_94, Nat.le_of_ble_eq_true rfl, ?_⟩
  show Rn PT none kX10_leastRisk 0 [some (mR 66), some (mI (x)), some (mI (a)), some (mI (t)), some (mI (dy))] [] (mkh μ c s) _
  refine rn_aload_n (k' := 1) rfl rfl rfl ?_
  refine rn_iload_n (k' := 2) rfl rfl rfl ?_
  refine rn_aload_n (k' := 3) rfl rfl rfl ?_
  refine rn_getR (k' := 4) rfl rfl K0_66 (by decide) rfl R0_66_0 ?_
  refine rn_iconst (k' := 5) rfl rfl ?_
  refine rn_iload (k' := 6) rfl rfl rfl ?_
  have hb1 := g_w_b hL 0 dy
  refine rn_callP (k' := 7) (y := 32) (vs := [mR 6, mI (0), mI (dy)]) (S' := [mI (t), mR 66]) (v := some (mI (g_w μ 0 dy))) (h' := mkh μ c s) rfl rfl rfl (k_weatherOn (μ := μ) (hL) (by omega) (by omega)) ?_
  show Rn PT none kX10_leastRisk 7 [some (mR 66), some (mI (x)), some (mI (a)), some (mI (t)), some (mI (dy))] [mI (g_w μ 0 dy), mI (t), mR 66] (mkh μ c s) _
  refine rn_callP (k' := 8) (y := 87) (vs := [mR 66, mI (t), mI (g_w μ 0 dy)]) (S' := []) (v := none) (h' := mkh (m_upd μ 67 ((fl (fun j : Nat => if g_stand μ (j : Int) t (g_w μ 0 dy) then 1 else 0) (μ 67) (10 * μ 6 9).toNat))) c s) rfl rfl rfl (c_X10_openFor (μ := μ) (c := c) (s := s) (hL) (t := t) (w := (g_w μ 0 dy)) (by omega)) ?_
  show Rn PT none kX10_leastRisk 8 [some (mR 66), some (mI (x)), some (mI (a)), some (mI (t)), some (mI (dy))] [] (mkh (m_upd μ 67 ((fl (fun j : Nat => if g_stand μ (j : Int) t (g_w μ 0 dy) then 1 else 0) (μ 67) (10 * μ 6 9).toNat))) c s) _
  refine rn_aload_n (k' := 9) rfl rfl rfl ?_
  refine rn_getR (k' := 10) rfl rfl K0_66 (by decide) rfl R0_66_1 ?_
  refine rn_iload_n (k' := 11) rfl rfl rfl ?_
  refine rn_zaload (k' := 12) rfl rfl K0_67 (by omega) (by omega) ?_
  show Rn PT none kX10_leastRisk 12 [some (mR 66), some (mI (x)), some (mI (a)), some (mI (t)), some (mI (dy))] [mI (((fl (fun j : Nat => if g_stand μ (j : Int) t (g_w μ 0 dy) then 1 else 0) (μ 67) (10 * μ 6 9).toNat)) ((x).toNat))] (mkh (m_upd μ 67 ((fl (fun j : Nat => if g_stand μ (j : Int) t (g_w μ 0 dy) then 1 else 0) (μ 67) (10 * μ 6 9).toNat))) c s) _
  rw [ex]
  refine rn_if_eq (k' := 13) rfl rfl (fun hc2 => ?_) (fun hc2 => ?_)
  · skip
    refine rn_iconst (k' := 19) rfl rfl ?_
    refine rn_iret rfl (Or.inl rfl) ?_
    refine ⟨(fl (fun j : Nat => if g_stand μ (j : Int) t (g_w μ 0 dy) then 1 else 0) (μ 67) (10 * μ 6 9).toNat), μ 70, μ 71, ?_⟩
    rw [show m_upd (m_upd μ 67 ((fl (fun j : Nat => if g_stand μ (j : Int) t (g_w μ 0 dy) then 1 else 0) (μ 67) (10 * μ 6 9).toNat))) 70 (μ 70) = (m_upd μ 67 ((fl (fun j : Nat => if g_stand μ (j : Int) t (g_w μ 0 dy) then 1 else 0) (μ 67) (10 * μ 6 9).toNat))) from upd_self (μ := (m_upd μ 67 ((fl (fun j : Nat => if g_stand μ (j : Int) t (g_w μ 0 dy) then 1 else 0) (μ 67) (10 * μ 6 9).toNat)))) (a := 70), show m_upd (m_upd μ 67 ((fl (fun j : Nat => if g_stand μ (j : Int) t (g_w μ 0 dy) then 1 else 0) (μ 67) (10 * μ 6 9).toNat))) 71 (μ 71) = (m_upd μ 67 ((fl (fun j : Nat => if g_stand μ (j : Int) t (g_w μ 0 dy) then 1 else 0) (μ 67) (10 * μ 6 9).toNat))) from upd_self (μ := (m_upd μ 67 ((fl (fun j : Nat => if g_stand μ (j : Int) t (g_w μ 0 dy) then 1 else 0) (μ 67) (10 * μ 6 9).toNat)))) (a := 71)]
  · exfalso; omega
set_option maxHeartbeats 4000000 in
theorem n1_leastRisk {μ : Nat → Nat → Int} {c s : Nat} (hL : I_land μ) {x a t dy : Int} (hx : g_cell μ x) (ha : g_cell μ a) (ht : 0 ≤ t ∧ t ≤ 99) (hd : 0 ≤ dy ∧ dy ≤ 29) (hs0 : g_stand μ x t (g_w μ 0 dy)) (hs1 : ¬ g_stand μ a t (g_w μ 0 dy)) : Cl PT 94 [mR 66, mI x, mI a, mI t, mI dy] (mkh μ c s) (fun r => ∃ O C Z, r = (some (some (mI (-1))), mkh (m_upd (m_upd (m_upd μ 67 O) 70 C) 71 Z) c s)) := by
  have hL_ := hL
  obtain ⟨lc, lr, le, lm, lw, lh, lwo, lwd, q0, q1, q2, q3, q4, q8, q499, q500, lth, lG, lT, lW, -⟩ := hL_
  have hxb := g_cell_b hL hx
  have hab := g_cell_b hL ha
  have hwb := g_w_b hL 0 dy
  have hvb := g_w_b hL 1 dy
  have eo : ∀ y, g_cell μ y → (fl (fun j : Nat => if g_stand μ (j : Int) t (g_w μ 0 dy) then 1 else 0) (μ 67) (10 * μ 6 9).toNat) y.toNat = if g_stand μ y t (g_w μ 0 dy) then 1 else 0 := fun y hy => by
    rw [fl_lt (cell_span hy), Int.toNat_of_nonneg hy.1]
  have ex : (fl (fun j : Nat => if g_stand μ (j : Int) t (g_w μ 0 dy) then 1 else 0) (μ 67) (10 * μ 6 9).toNat) x.toNat = 1 := by rw [eo x hx, if_pos hs0]
  have ea : (fl (fun j : Nat => if g_stand μ (j : Int) t (g_w μ 0 dy) then 1 else 0) (μ 67) (10 * μ 6 9).toNat) a.toNat = 0 := by rw [eo a ha, if_neg hs1]
  refine ⟨_, PT_94, Nat.le_of_ble_eq_true rfl, ?_⟩
  show Rn PT none kX10_leastRisk 0 [some (mR 66), some (mI (x)), some (mI (a)), some (mI (t)), some (mI (dy))] [] (mkh μ c s) _
  refine rn_aload_n (k' := 1) rfl rfl rfl ?_
  refine rn_iload_n (k' := 2) rfl rfl rfl ?_
  refine rn_aload_n (k' := 3) rfl rfl rfl ?_
  refine rn_getR (k' := 4) rfl rfl K0_66 (by decide) rfl R0_66_0 ?_
  refine rn_iconst (k' := 5) rfl rfl ?_
  refine rn_iload (k' := 6) rfl rfl rfl ?_
  have hb1 := g_w_b hL 0 dy
  refine rn_callP (k' := 7) (y := 32) (vs := [mR 6, mI (0), mI (dy)]) (S' := [mI (t), mR 66]) (v := some (mI (g_w μ 0 dy))) (h' := mkh μ c s) rfl rfl rfl (k_weatherOn (μ := μ) (hL) (by omega) (by omega)) ?_
  show Rn PT none kX10_leastRisk 7 [some (mR 66), some (mI (x)), some (mI (a)), some (mI (t)), some (mI (dy))] [mI (g_w μ 0 dy), mI (t), mR 66] (mkh μ c s) _
  refine rn_callP (k' := 8) (y := 87) (vs := [mR 66, mI (t), mI (g_w μ 0 dy)]) (S' := []) (v := none) (h' := mkh (m_upd μ 67 ((fl (fun j : Nat => if g_stand μ (j : Int) t (g_w μ 0 dy) then 1 else 0) (μ 67) (10 * μ 6 9).toNat))) c s) rfl rfl rfl (c_X10_openFor (μ := μ) (c := c) (s := s) (hL) (t := t) (w := (g_w μ 0 dy)) (by omega)) ?_
  show Rn PT none kX10_leastRisk 8 [some (mR 66), some (mI (x)), some (mI (a)), some (mI (t)), some (mI (dy))] [] (mkh (m_upd μ 67 ((fl (fun j : Nat => if g_stand μ (j : Int) t (g_w μ 0 dy) then 1 else 0) (μ 67) (10 * μ 6 9).toNat))) c s) _
  refine rn_aload_n (k' := 9) rfl rfl rfl ?_
  refine rn_getR (k' := 10) rfl rfl K0_66 (by decide) rfl R0_66_1 ?_
  refine rn_iload_n (k' := 11) rfl rfl rfl ?_
  refine rn_zaload (k' := 12) rfl rfl K0_67 (by omega) (by omega) ?_
  show Rn PT none kX10_leastRisk 12 [some (mR 66), some (mI (x)), some (mI (a)), some (mI (t)), some (mI (dy))] [mI (((fl (fun j : Nat => if g_stand μ (j : Int) t (g_w μ 0 dy) then 1 else 0) (μ 67) (10 * μ 6 9).toNat)) ((x).toNat))] (mkh (m_upd μ 67 ((fl (fun j : Nat => if g_stand μ (j : Int) t (g_w μ 0 dy) then 1 else 0) (μ 67) (10 * μ 6 9).toNat))) c s) _
  rw [ex]
  refine rn_if_eq (k' := 13) rfl rfl (fun hc2 => ?_) (fun hc2 => ?_)
  · exfalso; omega
  · skip
    refine rn_aload_n (k' := 14) rfl rfl rfl ?_
    refine rn_getR (k' := 15) rfl rfl K0_66 (by decide) rfl R0_66_1 ?_
    refine rn_iload_n (k' := 16) rfl rfl rfl ?_
    refine rn_zaload (k' := 17) rfl rfl K0_67 (by omega) (by omega) ?_
    show Rn PT none kX10_leastRisk 17 [some (mR 66), some (mI (x)), some (mI (a)), some (mI (t)), some (mI (dy))] [mI (((fl (fun j : Nat => if g_stand μ (j : Int) t (g_w μ 0 dy) then 1 else 0) (μ 67) (10 * μ 6 9).toNat)) ((a).toNat))] (mkh (m_upd μ 67 ((fl (fun j : Nat => if g_stand μ (j : Int) t (g_w μ 0 dy) then 1 else 0) (μ 67) (10 * μ 6 9).toNat))) c s) _
    rw [ea]
    refine rn_if_ne (k' := 18) rfl rfl (fun hc3 => ?_) (fun hc3 => ?_)
    · exfalso; omega
    · skip
      refine rn_iconst (k' := 19) rfl rfl ?_
      refine rn_iret rfl (Or.inl rfl) ?_
      refine ⟨(fl (fun j : Nat => if g_stand μ (j : Int) t (g_w μ 0 dy) then 1 else 0) (μ 67) (10 * μ 6 9).toNat), μ 70, μ 71, ?_⟩
      rw [show m_upd (m_upd μ 67 ((fl (fun j : Nat => if g_stand μ (j : Int) t (g_w μ 0 dy) then 1 else 0) (μ 67) (10 * μ 6 9).toNat))) 70 (μ 70) = (m_upd μ 67 ((fl (fun j : Nat => if g_stand μ (j : Int) t (g_w μ 0 dy) then 1 else 0) (μ 67) (10 * μ 6 9).toNat))) from upd_self (μ := (m_upd μ 67 ((fl (fun j : Nat => if g_stand μ (j : Int) t (g_w μ 0 dy) then 1 else 0) (μ 67) (10 * μ 6 9).toNat)))) (a := 70), show m_upd (m_upd μ 67 ((fl (fun j : Nat => if g_stand μ (j : Int) t (g_w μ 0 dy) then 1 else 0) (μ 67) (10 * μ 6 9).toNat))) 71 (μ 71) = (m_upd μ 67 ((fl (fun j : Nat => if g_stand μ (j : Int) t (g_w μ 0 dy) then 1 else 0) (μ 67) (10 * μ 6 9).toNat))) from upd_self (μ := (m_upd μ 67 ((fl (fun j : Nat => if g_stand μ (j : Int) t (g_w μ 0 dy) then 1 else 0) (μ 67) (10 * μ 6 9).toNat)))) (a := 71)]
theorem c_leastRisk {μ : Nat → Nat → Int} {c s : Nat} (hL : I_land μ) {x a t dy : Int} (hx : g_cell μ x) (ha : g_cell μ a) (ht : 0 ≤ t ∧ t ≤ 99) (hd : 0 ≤ dy ∧ dy ≤ 29) : ∃ O C Z, (g_ok μ x a t (g_w μ 0 dy) → gBE μ a t (g_w μ 0 dy) (g_w μ 1 dy) C) ∧ Cl PT 94 [mR 66, mI x, mI a, mI t, mI dy] (mkh μ c s) (fun r => r = (some (some (mI (if g_ok μ x a t (g_w μ 0 dy) then rsk (g_C μ a t (g_w μ 0 dy) (g_w μ 1 dy)) x else -1))), mkh (m_upd (m_upd (m_upd μ 67 O) 70 C) 71 Z) c s)) := by
  by_cases h0 : g_stand μ x t (g_w μ 0 dy)
  · by_cases h1 : g_stand μ a t (g_w μ 0 dy)
    · obtain ⟨M, e1, e2, n, r, e3, O, C, Z, e4, e5⟩ := x_leastRisk (c := c) (s := s) hL hx ha ht hd h0 h1
      refine ⟨O, C, Z, fun _ => e5, ?_⟩
      rw [if_pos ⟨h0, h1⟩]
      exact ⟨M, e1, e2, n, r, e3, e4⟩
    · obtain ⟨M, e1, e2, n, r, e3, O, C, Z, e4⟩ := n1_leastRisk (c := c) (s := s) hL hx ha ht hd h0 h1
      refine ⟨O, C, Z, fun z => absurd z.2 h1, ?_⟩
      rw [if_neg (fun z => h1 z.2)]
      exact ⟨M, e1, e2, n, r, e3, e4⟩
  · obtain ⟨M, e1, e2, n, r, e3, O, C, Z, e4⟩ := n0_leastRisk (c := c) (s := s) hL hx ha ht hd h0
    refine ⟨O, C, Z, fun z => absurd z.1 h0, ?_⟩
    rw [if_neg (fun z => h0 z.1)]
    exact ⟨M, e1, e2, n, r, e3, e4⟩
set_option maxHeartbeats 2000000 in
theorem c_X12_riskOf {μ : Nat → Nat → Int} {c s : Nat} (hL : I_land μ) (hw : 0 ≤ μ 118 22 ∧ μ 118 22 ≤ 1000) (hwi : 0 ≤ μ 118 23 ∧ μ 118 23 ≤ 99) {a b t : Int} (ha : g_cell μ a) (hb : g_cell μ b) (ht : 0 ≤ t ∧ t ≤ 99) : Cl PT 218 [mR 118, mI a, mI b, mI t] (mkh μ c s) (fun r => r = (some (some (mI (g_rk μ t (μ 118 23) a b))), mkh (μ) c s)) := by
  have hL_ := hL
  obtain ⟨lc, lr, le, lm, lw, lh, lwo, lwd, q0, q1, q2, q3, q4, q8, q499, q500, lth, lG, lT, lW, -⟩ := hL_
  have hmu := rk_mul hL ht a b
  have htd : (ab (μ 7 a.toNat - μ 7 b.toNat) * t).tdiv 10 = ab (μ 7 a.toNat - μ 7 b.toNat) * t / 10 := Int.tdiv_eq_ediv_of_nonneg hmu.1
  have hab := g_cell_b hL ha
  have hbb := g_cell_b hL hb
  refine ⟨_, PT_218, Nat.le_of_ble_eq_true rfl, ?_⟩
  show Rn PT none kX12_riskOf 0 [some (mR 118), some (mI (a)), some (mI (b)), some (mI (t))] [] (mkh μ c s) _
  refine rn_aload_n (k' := 1) rfl rfl rfl ?_
  refine rn_getI (k' := 2) rfl rfl K0_118 (by decide) rfl ?_
  refine rn_aload_n (k' := 3) rfl rfl rfl ?_
  refine rn_getR (k' := 4) rfl rfl K0_118 (by decide) rfl R0_118_6 ?_
  refine rn_bipush (k' := 5) rfl rfl ?_
  refine rn_iload_n (k' := 6) rfl rfl rfl ?_
  refine rn_iadd (k' := 7) rfl rfl (by omega) ?_
  refine rn_iaload (k' := 8) rfl rfl K0_120 (by omega) (by omega) ?_
  rw [(v_g hL (a := a) (by first | assumption | omega)).1]
  have hb1 := (v_g hL (a := a) (by first | assumption | omega)).2
  refine rn_aload_n (k' := 9) rfl rfl rfl ?_
  refine rn_getR (k' := 10) rfl rfl K0_118 (by decide) rfl R0_118_6 ?_
  refine rn_bipush (k' := 11) rfl rfl ?_
  refine rn_iload_n (k' := 12) rfl rfl rfl ?_
  refine rn_iadd (k' := 13) rfl rfl (by omega) ?_
  refine rn_iaload (k' := 14) rfl rfl K0_120 (by omega) (by omega) ?_
  rw [(v_g hL (a := b) (by first | assumption | omega)).1]
  have hb2 := (v_g hL (a := b) (by first | assumption | omega)).2
  refine rn_isub (k' := 15) rfl rfl (by omega) ?_
  have hsz3 := ab_b ((μ 7 (a).toNat) - (μ 7 (b).toNat))
  refine rn_callP (k' := 16) (y := 169) (vs := [mI ((μ 7 (a).toNat) - (μ 7 (b).toNat))]) (S' := [mI (μ 118 23)]) (v := some (mI (ab ((μ 7 (a).toNat) - (μ 7 (b).toNat))))) (h' := mkh μ c s) rfl rfl rfl (c_X12_sizeOf (by omega)) ?_
  show Rn PT none kX12_riskOf 16 [some (mR 118), some (mI (a)), some (mI (b)), some (mI (t))] [mI (ab ((μ 7 (a).toNat) - (μ 7 (b).toNat))), mI (μ 118 23)] (mkh μ c s) _
  refine rn_iload_n (k' := 17) rfl rfl rfl ?_
  refine rn_imul (k' := 18) rfl rfl (by omega) ?_
  refine rn_bipush (k' := 19) rfl rfl ?_
  refine rn_idiv (k' := 20) rfl rfl (by omega) (tdiv_rng (by omega) (by omega)) ?_
  refine rn_iadd (k' := 21) rfl rfl (by omega) ?_
  refine rn_iret rfl (Or.inl rfl) ?_
  rfl
/-- one pass: nothing was found cheaper so far, or the sum has fallen -/
def PS (μ : Nat → Nat → Int) (t w v : Int) (C0 C : Nat → Int) (l : Int) (m n : Nat) : Prop :=
  (l = 0 ∧ C = C0 ∧ ∀ (x : Int) (d : Nat), g_cell μ x → g_stand μ x t w → d < 4 → (x.toNat < m ∨ (x.toNat = m ∧ d < n)) → ¬ g_nb μ x d = -1 → C (g_nb μ x d).toNat < 1000000000 → C x.toNat ≤ C (g_nb μ x d).toNat + gW μ t v x (g_nb μ x d)) ∨ (l = 1 ∧ sS C 100 < sS C0 100)
abbrev gBF (μ : Nat → Nat → Int) (a t w v : Int) (C : Nat → Int) : Prop := BF (g_nb μ) (fun z => g_stand μ z t w) (g_cell μ) (gW μ t v) a C
theorem ps_skip {μ : Nat → Nat → Int} {t w v : Int} {C0 C : Nat → Int} {l : Int} {m n : Nat} (h : PS μ t w v C0 C l m n) (hn : g_nb μ (m : Int) n = -1 ∨ 1000000000 ≤ C (g_nb μ (m : Int) n).toNat ∨ C m ≤ C (g_nb μ (m : Int) n).toNat + gW μ t v (m : Int) (g_nb μ (m : Int) n)) : PS μ t w v C0 C l m (n + 1) := by
  rcases h with ⟨h1, h2, h3⟩ | h
  · refine Or.inl ⟨h1, h2, fun x d hx hs hd ho h4 h5 => ?_⟩
    by_cases e : x.toNat = m ∧ d = n
    · have ex : x = (m : Int) := by have := hx.1; omega
      rw [ex, e.2] at h4 h5 ⊢
      rcases hn with z | z | z
      · exact absurd z h4
      · omega
      · exact z
    · exact h3 x d hx hs hd (by omega) h4 h5
  · exact Or.inr h
theorem ps_next {μ : Nat → Nat → Int} {t w v : Int} {C0 C : Nat → Int} {l : Int} {m n : Nat} (h : PS μ t w v C0 C l m n) (hn : n = 4 ∨ ¬ (g_cell μ (m : Int) ∧ g_stand μ (m : Int) t w)) : PS μ t w v C0 C l (m + 1) 0 := by
  rcases h with ⟨h1, h2, h3⟩ | h
  · refine Or.inl ⟨h1, h2, fun x d hx hs hd ho h4 h5 => ?_⟩
    by_cases e : x.toNat = m
    · have ex : x = (m : Int) := by have := hx.1; omega
      rcases hn with z | z
      · exact h3 x d hx hs hd (by omega) h4 h5
      · exact absurd ⟨by rw [← ex]; exact hx, by rw [← ex]; exact hs⟩ z
    · exact h3 x d hx hs hd (by omega) h4 h5
  · exact Or.inr h
theorem ps_set {μ : Nat → Nat → Int} {t w v : Int} {C0 C : Nat → Int} {l u : Int} {m n : Nat} (h : PS μ t w v C0 C l m n) (hm : m < 100) (hu : u < C m) {n' : Nat} : PS μ t w v C0 (fs C m u) 1 m n' := by
  refine Or.inr ⟨rfl, ?_⟩
  have h1 := sS_fs (C := C) (i := m) (v := u) 100 hm
  have h2 : sS C 100 ≤ sS C0 100 := by
    rcases h with ⟨-, h2, -⟩ | h
    · rw [h2]; exact Int.le_refl _
    · omega
  omega
theorem ps_end {μ : Nat → Nat → Int} (hL : I_land μ) {a t w v : Int} {C0 C : Nat → Int} (hB : gBF μ a t w v C) (h : PS μ t w v C0 C 0 100 0) : gBE μ a t w v C := by
  rcases h with ⟨h1, h2, h3⟩ | h
  · exact bf_end (g_GR hL) hB (fun x d hx hs hd h4 h5 => h3 x d hx hs hd (Or.inl (by have := g_cell_b hL hx; omega)) h4 h5)
  · exact absurd h.1 (by decide)
theorem sS_nn {C : Nat → Int} : ∀ n : Nat, (∀ j, j < n → 0 ≤ C j) → 0 ≤ sS C n
  | 0, _ => Int.le_refl 0
  | n + 1, h => by
    have h1 := sS_nn n (fun j hj => h j (by omega))
    have h2 := h n (by omega)
    show 0 ≤ sS C n + C n
    omega
set_option maxHeartbeats 4000000 in
theorem l_risks_in {μ : Nat → Nat → Int} {c s : Nat} (hL : I_land μ) (hw : 0 ≤ μ 118 22 ∧ μ 118 22 ≤ 1000) (hwi : 0 ≤ μ 118 23 ∧ μ 118 23 ≤ 99) {a t : Int} (ha : g_cell μ a) (ht : 0 ≤ t ∧ t ≤ 99) {C0 : Nat → Int} {m : Nat} (hm : m < 100) (hmc : g_cell μ (m : Int)) (hms : g_stand μ (m : Int) t (μ 118 22)) {Q : MR → Prop} (K : ∀ (l : Int) (C : Nat → Int) v5 v6 v7, (l = 0 ∨ l = 1) → gBF μ a t (μ 118 22) (μ 118 23) C → PS μ t (μ 118 22) (μ 118 23) C0 C l m 4 → Rn PT none kX12_risks 94 [some (mR 118), some (mI (a)), some (mI (t)), some (mI (l)), some (mI ((m : Int))), v5, v6, v7] [] (mkh (m_upd μ 127 C) c s) Q) : ∀ (d n : Nat) (k : Int) (l : Int) (C : Nat → Int) (v6 : Option MV) (v7 : Option MV), k = (n : Int) → n + d = 4 → (l = 0 ∨ l = 1) → (gBF μ a t (μ 118 22) (μ 118 23) C) → (PS μ t (μ 118 22) (μ 118 23) C0 C l m n) → Rn PT none kX12_risks 46 [some (mR 118), some (mI (a)), some (mI (t)), some (mI (l)), some (mI ((m : Int))), some (mI (k)), v6, v7] [] (mkh (m_upd μ 127 C) c s) (Q) := by
  have hL_ := hL
  obtain ⟨lc, lr, le, lm, lw, lh, lwo, lwd, q0, q1, q2, q3, q4, q8, q499, q500, lth, lG, lT, lW, -⟩ := hL_
  intro d
  induction d with
  | zero =>
    intro n k l C v6 v7 ek hn hl hB hP
    subst ek
    have e4 : n = 4 := by omega
    rw [e4] at hP
    refine rn_iload (k' := 47) rfl rfl rfl ?_
    refine rn_iconst (k' := 48) rfl rfl ?_
    refine rn_icmp_ge (k' := 49) rfl rfl (fun hc1 => ?_) (fun hc1 => ?_)
    · skip
      exact K _ _ _ _ _ hl hB hP
    · exfalso; omega
  | succ d ih =>
    intro n k l C v6 v7 ek hn hl hB hP
    subst ek
    have hN := (g_GR hL).2 (m : Int) (n : Int) hmc (by omega) (by omega)
    have hNb : g_nb μ (m : Int) (n : Int) = -1 ∨ (0 ≤ g_nb μ (m : Int) (n : Int) ∧ g_nb μ (m : Int) (n : Int) < 100) := hN.imp_right (fun z => g_cell_b hL z)
    have hNc : 0 ≤ g_nb μ (m : Int) (n : Int) → g_cell μ (g_nb μ (m : Int) (n : Int)) := fun z => hN.resolve_left (by omega)
    have hCn : 0 ≤ g_nb μ (m : Int) (n : Int) → 0 ≤ C (g_nb μ (m : Int) (n : Int)).toNat ∧ C (g_nb μ (m : Int) (n : Int)).toNat ≤ 1000000000 := fun z => hB.2.1 _ (by omega)
    have hCm := hB.2.1 m hm
    refine rn_iload (k' := 47) rfl rfl rfl ?_
    refine rn_iconst (k' := 48) rfl rfl ?_
    refine rn_icmp_ge (k' := 49) rfl rfl (fun hc1 => ?_) (fun hc1 => ?_)
    · exfalso; omega
    · skip
      refine rn_aload_n (k' := 50) rfl rfl rfl ?_
      refine rn_iload (k' := 51) rfl rfl rfl ?_
      refine rn_iload (k' := 52) rfl rfl rfl ?_
      refine rn_callP (k' := 53) (y := 211) (vs := [mR 118, mI ((m : Int)), mI ((n : Int))]) (S' := []) (v := some (mI (g_nb μ (m : Int) (n : Int)))) (h' := mkh (m_upd μ 127 C) c s) rfl rfl rfl (c_X12_beside ((hL).upd rfl) (a := (m : Int)) (d := (n : Int)) hmc (by omega)) ?_
      show Rn PT none kX12_risks 53 [some (mR 118), some (mI (a)), some (mI (t)), some (mI (l)), some (mI ((m : Int))), some (mI ((n : Int))), v6, v7] [mI (g_nb μ (m : Int) (n : Int))] (mkh (m_upd μ 127 C) c s) _
      refine rn_istore (k' := 54) (L' := [some (mR 118), some (mI (a)), some (mI (t)), some (mI (l)), some (mI ((m : Int))), some (mI ((n : Int))), some (mI (g_nb μ (m : Int) (n : Int))), v7]) rfl rfl (Nat.le_of_ble_eq_true rfl) rfl ?_
      refine rn_iload (k' := 55) rfl rfl rfl ?_
      refine rn_if_lt (k' := 56) rfl rfl (fun hc2 => ?_) (fun hc2 => ?_)
      · skip
        refine rn_iinc (k' := 93) (L' := [some (mR 118), some (mI (a)), some (mI (t)), some (mI (l)), some (mI ((m : Int))), some (mI ((n : Int) + 1)), some (mI (g_nb μ (m : Int) (n : Int))), v7]) rfl rfl rfl (by omega) rfl ?_
        refine rn_goto rfl ?_
        exact ih (n + 1) _ _ _ _ _ (by omega) (by omega) hl hB (ps_skip hP (by first | exact Or.inl (by omega) | exact Or.inr (Or.inl (by omega)) | exact Or.inr (Or.inr (by show C m ≤ C (g_nb μ (m : Int) (n : Int)).toNat + (1000 * g_rk μ t (μ 118 23) (m : Int) (g_nb μ (m : Int) (n : Int)) + 1); omega))))
      · skip
        refine rn_aload_n (k' := 57) rfl rfl rfl ?_
        refine rn_getR (k' := 58) rfl rfl K0_118 (by decide) rfl R0_118_26 ?_
        refine rn_iload (k' := 59) rfl rfl rfl ?_
        refine rn_iaload (k' := 60) rfl rfl K0_127 (by omega) (by omega) ?_
        show Rn PT none kX12_risks 60 [some (mR 118), some (mI (a)), some (mI (t)), some (mI (l)), some (mI ((m : Int))), some (mI ((n : Int))), some (mI (g_nb μ (m : Int) (n : Int))), v7] [mI (C ((g_nb μ (m : Int) (n : Int)).toNat))] (mkh (m_upd μ 127 C) c s) _
        refine rn_ldc_w (k' := 61) rfl rfl ?_
        refine rn_icmp_lt (k' := 62) rfl rfl (fun hc3 => ?_) (fun hc3 => ?_)
        · skip
          refine rn_aload_n (k' := 64) rfl rfl rfl ?_
          refine rn_getR (k' := 65) rfl rfl K0_118 (by decide) rfl R0_118_26 ?_
          refine rn_iload (k' := 66) rfl rfl rfl ?_
          refine rn_iaload (k' := 67) rfl rfl K0_127 (by omega) (by omega) ?_
          show Rn PT none kX12_risks 67 [some (mR 118), some (mI (a)), some (mI (t)), some (mI (l)), some (mI ((m : Int))), some (mI ((n : Int))), some (mI (g_nb μ (m : Int) (n : Int))), v7] [mI (C ((g_nb μ (m : Int) (n : Int)).toNat))] (mkh (m_upd μ 127 C) c s) _
          refine rn_sipush (k' := 68) rfl rfl ?_
          refine rn_aload_n (k' := 69) rfl rfl rfl ?_
          refine rn_iload (k' := 70) rfl rfl rfl ?_
          refine rn_iload (k' := 71) rfl rfl rfl ?_
          refine rn_iload_n (k' := 72) rfl rfl rfl ?_
          have hNc2 := hNc (by omega)
          have hb4 := g_rk_b hL (t := t) (v := μ 118 23) (by omega) (by omega) (m : Int) (g_nb μ (m : Int) (n : Int))
          refine rn_callP (k' := 73) (y := 218) (vs := [mR 118, mI ((m : Int)), mI (g_nb μ (m : Int) (n : Int)), mI (t)]) (S' := [mI (1000), mI (C ((g_nb μ (m : Int) (n : Int)).toNat))]) (v := some (mI (g_rk μ t (μ 118 23) (m : Int) (g_nb μ (m : Int) (n : Int))))) (h' := mkh (m_upd μ 127 C) c s) rfl rfl rfl (by have h := c_X12_riskOf (μ := (m_upd μ 127 C)) (c := c) (s := s) ((hL).upd rfl) (by show 0 ≤ μ 118 22 ∧ μ 118 22 ≤ 1000; omega) (by show 0 ≤ μ 118 23 ∧ μ 118 23 ≤ 99; omega) (a := (m : Int)) (b := g_nb μ (m : Int) (n : Int)) (t := t) (by assumption) (by assumption) (by omega); rw [g_rk_rows (ν := (m_upd μ 127 C)) (μ := μ) rfl] at h; exact h) ?_
          show Rn PT none kX12_risks 73 [some (mR 118), some (mI (a)), some (mI (t)), some (mI (l)), some (mI ((m : Int))), some (mI ((n : Int))), some (mI (g_nb μ (m : Int) (n : Int))), v7] [mI (g_rk μ t (μ 118 23) (m : Int) (g_nb μ (m : Int) (n : Int))), mI (1000), mI (C ((g_nb μ (m : Int) (n : Int)).toNat))] (mkh (m_upd μ 127 C) c s) _
          refine rn_imul (k' := 74) rfl rfl (by omega) ?_
          refine rn_iadd (k' := 75) rfl rfl (by omega) ?_
          refine rn_iconst (k' := 76) rfl rfl ?_
          refine rn_iadd (k' := 77) rfl rfl (by omega) ?_
          refine rn_istore (k' := 78) (L' := [some (mR 118), some (mI (a)), some (mI (t)), some (mI (l)), some (mI ((m : Int))), some (mI ((n : Int))), some (mI (g_nb μ (m : Int) (n : Int))), some (mI (((C ((g_nb μ (m : Int) (n : Int)).toNat)) + (1000 * (g_rk μ t (μ 118 23) (m : Int) (g_nb μ (m : Int) (n : Int))))) + 1))]) rfl rfl (Nat.le_of_ble_eq_true rfl) rfl ?_
          refine rn_iload (k' := 79) rfl rfl rfl ?_
          refine rn_aload_n (k' := 80) rfl rfl rfl ?_
          refine rn_getR (k' := 81) rfl rfl K0_118 (by decide) rfl R0_118_26 ?_
          refine rn_iload (k' := 82) rfl rfl rfl ?_
          refine rn_iaload (k' := 83) rfl rfl K0_127 (by omega) (by omega) ?_
          show Rn PT none kX12_risks 83 [some (mR 118), some (mI (a)), some (mI (t)), some (mI (l)), some (mI ((m : Int))), some (mI ((n : Int))), some (mI (g_nb μ (m : Int) (n : Int))), some (mI (((C ((g_nb μ (m : Int) (n : Int)).toNat)) + (1000 * (g_rk μ t (μ 118 23) (m : Int) (g_nb μ (m : Int) (n : Int))))) + 1))] [mI (C (m)), mI (((C ((g_nb μ (m : Int) (n : Int)).toNat)) + (1000 * (g_rk μ t (μ 118 23) (m : Int) (g_nb μ (m : Int) (n : Int))))) + 1)] (mkh (m_upd μ 127 C) c s) _
          refine rn_icmp_lt (k' := 84) rfl rfl (fun hc5 => ?_) (fun hc5 => ?_)
          · skip
            refine rn_aload_n (k' := 86) rfl rfl rfl ?_
            refine rn_getR (k' := 87) rfl rfl K0_118 (by decide) rfl R0_118_26 ?_
            refine rn_iload (k' := 88) rfl rfl rfl ?_
            refine rn_iload (k' := 89) rfl rfl rfl ?_
            refine rn_iastore (k' := 90) rfl rfl K0_127 (by omega) (by omega) ?_
            refine rn_iconst (k' := 91) rfl rfl ?_
            refine rn_istore_n (k' := 92) (L' := [some (mR 118), some (mI (a)), some (mI (t)), some (mI (1)), some (mI ((m : Int))), some (mI ((n : Int))), some (mI (g_nb μ (m : Int) (n : Int))), some (mI (((C ((g_nb μ (m : Int) (n : Int)).toNat)) + (1000 * (g_rk μ t (μ 118 23) (m : Int) (g_nb μ (m : Int) (n : Int))))) + 1))]) rfl rfl (Nat.le_of_ble_eq_true rfl) rfl ?_
            refine rn_iinc (k' := 93) (L' := [some (mR 118), some (mI (a)), some (mI (t)), some (mI (1)), some (mI ((m : Int))), some (mI ((n : Int) + 1)), some (mI (g_nb μ (m : Int) (n : Int))), some (mI (((C ((g_nb μ (m : Int) (n : Int)).toNat)) + (1000 * (g_rk μ t (μ 118 23) (m : Int) (g_nb μ (m : Int) (n : Int))))) + 1))]) rfl rfl rfl (by omega) rfl ?_
            refine rn_goto rfl ?_
            show Rn PT none kX12_risks 46 [some (mR 118), some (mI (a)), some (mI (t)), some (mI (1)), some (mI ((m : Int))), some (mI ((n : Int) + 1)), some (mI (g_nb μ (m : Int) (n : Int))), some (mI (((C ((g_nb μ (m : Int) (n : Int)).toNat)) + (1000 * (g_rk μ t (μ 118 23) (m : Int) (g_nb μ (m : Int) (n : Int))))) + 1))] [] (mkh (m_set (m_upd μ 127 C) 127 m (((C ((g_nb μ (m : Int) (n : Int)).toNat)) + (1000 * (g_rk μ t (μ 118 23) (m : Int) (g_nb μ (m : Int) (n : Int))))) + 1)) c s) _
            rw [set_upd_eq (a := 127)]
            have hWv : gW μ t (μ 118 23) (m : Int) (g_nb μ (m : Int) (n : Int)) = 1000 * g_rk μ t (μ 118 23) (m : Int) (g_nb μ (m : Int) (n : Int)) + 1 := rfl
            have hval : (((C ((g_nb μ (m : Int) (n : Int)).toNat)) + (1000 * (g_rk μ t (μ 118 23) (m : Int) (g_nb μ (m : Int) (n : Int))))) + 1 : Int) = C (g_nb μ (m : Int) (n : Int)).toNat + gW μ t (μ 118 23) (m : Int) (g_nb μ (m : Int) (n : Int)) := by rw [hWv]; omega
            have hB2 := bf_step (g_GR hL) (fun x y _ _ => (gW_b hL ht hwi x y).1) ha hB (x := (m : Int)) (d := n) hmc hms (by omega) (by omega) (by omega) (by rw [← hval]; show _ < C m; omega)
            rw [hval]
            rw [show ((m : Int)).toNat = m from rfl] at hB2
            exact ih (n + 1) _ _ _ _ _ (by omega) (by omega) (Or.inr rfl) hB2 (ps_set hP hm (by rw [← hval]; omega))
          · skip
            refine rn_goto rfl ?_
            refine rn_iinc (k' := 93) (L' := [some (mR 118), some (mI (a)), some (mI (t)), some (mI (l)), some (mI ((m : Int))), some (mI ((n : Int) + 1)), some (mI (g_nb μ (m : Int) (n : Int))), some (mI (((C ((g_nb μ (m : Int) (n : Int)).toNat)) + (1000 * (g_rk μ t (μ 118 23) (m : Int) (g_nb μ (m : Int) (n : Int))))) + 1))]) rfl rfl rfl (by omega) rfl ?_
            refine rn_goto rfl ?_
            exact ih (n + 1) _ _ _ _ _ (by omega) (by omega) hl hB (ps_skip hP (by first | exact Or.inl (by omega) | exact Or.inr (Or.inl (by omega)) | exact Or.inr (Or.inr (by show C m ≤ C (g_nb μ (m : Int) (n : Int)).toNat + (1000 * g_rk μ t (μ 118 23) (m : Int) (g_nb μ (m : Int) (n : Int)) + 1); omega))))
        · skip
          refine rn_goto rfl ?_
          refine rn_iinc (k' := 93) (L' := [some (mR 118), some (mI (a)), some (mI (t)), some (mI (l)), some (mI ((m : Int))), some (mI ((n : Int) + 1)), some (mI (g_nb μ (m : Int) (n : Int))), v7]) rfl rfl rfl (by omega) rfl ?_
          refine rn_goto rfl ?_
          exact ih (n + 1) _ _ _ _ _ (by omega) (by omega) hl hB (ps_skip hP (by first | exact Or.inl (by omega) | exact Or.inr (Or.inl (by omega)) | exact Or.inr (Or.inr (by show C m ≤ C (g_nb μ (m : Int) (n : Int)).toNat + (1000 * g_rk μ t (μ 118 23) (m : Int) (g_nb μ (m : Int) (n : Int)) + 1); omega))))
set_option maxHeartbeats 4000000 in
theorem l_risks_pass {μ : Nat → Nat → Int} {c s : Nat} (hL : I_land μ) (hw : 0 ≤ μ 118 22 ∧ μ 118 22 ≤ 1000) (hwi : 0 ≤ μ 118 23 ∧ μ 118 23 ≤ 99) {a t : Int} (ha : g_cell μ a) (ht : 0 ≤ t ∧ t ≤ 99) {C0 : Nat → Int} {Q : MR → Prop} (K : ∀ (l : Int) (C : Nat → Int) v4 v5 v6 v7, (l = 0 ∨ l = 1) → gBF μ a t (μ 118 22) (μ 118 23) C → PS μ t (μ 118 22) (μ 118 23) C0 C l 100 0 → Rn PT none kX12_risks 25 [some (mR 118), some (mI (a)), some (mI (t)), some (mI (l)), v4, v5, v6, v7] [] (mkh (m_upd μ 127 C) c s) Q) : ∀ (d m : Nat) (k : Int) (l : Int) (C : Nat → Int) (v5 : Option MV) (v6 : Option MV) (v7 : Option MV), k = (m : Int) → m + d = 100 → (l = 0 ∨ l = 1) → (gBF μ a t (μ 118 22) (μ 118 23) C) → (PS μ t (μ 118 22) (μ 118 23) C0 C l m 0) → Rn PT none kX12_risks 31 [some (mR 118), some (mI (a)), some (mI (t)), some (mI (l)), some (mI (k)), v5, v6, v7] [] (mkh (m_upd μ 127 C) c s) (Q) := by
  have hL_ := hL
  obtain ⟨lc, lr, le, lm, lw, lh, lwo, lwd, q0, q1, q2, q3, q4, q8, q499, q500, lth, lG, lT, lW, -⟩ := hL_
  intro d
  induction d with
  | zero =>
    intro m k l C v5 v6 v7 ek hn hl hB hP
    subst ek
    have e4 : m = 100 := by omega
    rw [e4] at hP
    refine rn_iload (k' := 32) rfl rfl rfl ?_
    refine rn_bipush (k' := 33) rfl rfl ?_
    refine rn_icmp_ge (k' := 34) rfl rfl (fun hc1 => ?_) (fun hc1 => ?_)
    · skip
      refine rn_goto rfl ?_
      exact K _ _ _ _ _ _ hl hB hP
    · exfalso; omega
  | succ d ih =>
    intro m k l C v5 v6 v7 ek hn hl hB hP
    subst ek
    refine rn_iload (k' := 32) rfl rfl rfl ?_
    refine rn_bipush (k' := 33) rfl rfl ?_
    refine rn_icmp_ge (k' := 34) rfl rfl (fun hc1 => ?_) (fun hc1 => ?_)
    · exfalso; omega
    · skip
      refine rn_aload_n (k' := 35) rfl rfl rfl ?_
      refine rn_iload (k' := 36) rfl rfl rfl ?_
      by_cases hq2 : g_cell μ (m : Int)
      · refine rn_callP (k' := 37) (y := 192) (vs := [mR 118, mI ((m : Int))]) (S' := []) (v := some (mI 1)) (h' := mkh (m_upd μ 127 C) c s) rfl rfl rfl (by have hz : Cl PT 192 [mR 118, mI ((m : Int))] (mkh (m_upd μ 127 C) c s) (fun r => r = (some (some (mI (if g_cell μ (m : Int) then 1 else 0))), mkh (m_upd μ 127 C) c s)) := c_X12_isCell ((hL).upd rfl) (a := (m : Int)) (by omega) (μ := (m_upd μ 127 C)) (c := c) (s := s); rw [if_pos hq2] at hz; exact hz) ?_
        show Rn PT none kX12_risks 37 [some (mR 118), some (mI (a)), some (mI (t)), some (mI (l)), some (mI ((m : Int))), v5, v6, v7] [mI (1)] (mkh (m_upd μ 127 C) c s) _
        refine rn_if_eq (k' := 38) rfl rfl (fun hc3 => ?_) (fun hc3 => ?_)
        · exfalso; omega
        · skip
          refine rn_aload_n (k' := 39) rfl rfl rfl ?_
          refine rn_iload (k' := 40) rfl rfl rfl ?_
          refine rn_iload_n (k' := 41) rfl rfl rfl ?_
          by_cases hq4 : g_stand μ (m : Int) t (μ 118 22)
          · refine rn_callP (k' := 42) (y := 203) (vs := [mR 118, mI ((m : Int)), mI (t)]) (S' := []) (v := some (mI 1)) (h' := mkh (m_upd μ 127 C) c s) rfl rfl rfl (by have hz : Cl PT 203 [mR 118, mI ((m : Int)), mI (t)] (mkh (m_upd μ 127 C) c s) (fun r => r = (some (some (mI (if g_stand μ (m : Int) t (μ 118 22) then 1 else 0))), mkh (m_upd μ 127 C) c s)) := c_X12_standsOn ((hL).upd rfl) (by show 0 ≤ μ 118 22 ∧ μ 118 22 ≤ 1000; omega) (a := (m : Int)) (t := t) (by show g_cell μ ((m : Int)); first | assumption | omega) (by omega) (μ := (m_upd μ 127 C)) (c := c) (s := s); rw [if_pos hq4] at hz; exact hz) ?_
            show Rn PT none kX12_risks 42 [some (mR 118), some (mI (a)), some (mI (t)), some (mI (l)), some (mI ((m : Int))), v5, v6, v7] [mI (1)] (mkh (m_upd μ 127 C) c s) _
            refine rn_if_ne (k' := 43) rfl rfl (fun hc5 => ?_) (fun hc5 => ?_)
            · skip
              refine rn_iconst (k' := 45) rfl rfl ?_
              refine rn_istore (k' := 46) (L' := [some (mR 118), some (mI (a)), some (mI (t)), some (mI (l)), some (mI ((m : Int))), some (mI (0)), v6, v7]) rfl rfl (Nat.le_of_ble_eq_true rfl) rfl ?_
              refine l_risks_in hL hw hwi ha ht (C0 := C0) (m := m) (by omega) (by assumption) (by assumption) (fun l1 C1 v5 v6 v7 hl1 hB1 hP1 => ?_) 4 0 _ _ _ _ _ rfl (by omega) hl hB hP
              refine rn_iinc (k' := 95) (L' := [some (mR 118), some (mI (a)), some (mI (t)), some (mI (l1)), some (mI ((m : Int) + 1)), v5, v6, v7]) rfl rfl rfl (by omega) rfl ?_
              refine rn_goto rfl ?_
              exact ih (m + 1) _ _ _ _ _ _ (by omega) (by omega) hl1 hB1 (ps_next hP1 (Or.inl rfl))
            · exfalso; omega
          · refine rn_callP (k' := 42) (y := 203) (vs := [mR 118, mI ((m : Int)), mI (t)]) (S' := []) (v := some (mI 0)) (h' := mkh (m_upd μ 127 C) c s) rfl rfl rfl (by have hz : Cl PT 203 [mR 118, mI ((m : Int)), mI (t)] (mkh (m_upd μ 127 C) c s) (fun r => r = (some (some (mI (if g_stand μ (m : Int) t (μ 118 22) then 1 else 0))), mkh (m_upd μ 127 C) c s)) := c_X12_standsOn ((hL).upd rfl) (by show 0 ≤ μ 118 22 ∧ μ 118 22 ≤ 1000; omega) (a := (m : Int)) (t := t) (by show g_cell μ ((m : Int)); first | assumption | omega) (by omega) (μ := (m_upd μ 127 C)) (c := c) (s := s); rw [if_neg hq4] at hz; exact hz) ?_
            show Rn PT none kX12_risks 42 [some (mR 118), some (mI (a)), some (mI (t)), some (mI (l)), some (mI ((m : Int))), v5, v6, v7] [mI (0)] (mkh (m_upd μ 127 C) c s) _
            refine rn_if_ne (k' := 43) rfl rfl (fun hc6 => ?_) (fun hc6 => ?_)
            · exfalso; omega
            · skip
              refine rn_goto rfl ?_
              refine rn_iinc (k' := 95) (L' := [some (mR 118), some (mI (a)), some (mI (t)), some (mI (l)), some (mI ((m : Int) + 1)), v5, v6, v7]) rfl rfl rfl (by omega) rfl ?_
              refine rn_goto rfl ?_
              exact ih (m + 1) _ _ _ _ _ _ (by omega) (by omega) hl hB (ps_next hP (Or.inr (fun z => by first | exact absurd z.1 (by assumption) | exact absurd z.2 (by assumption))))
      · refine rn_callP (k' := 37) (y := 192) (vs := [mR 118, mI ((m : Int))]) (S' := []) (v := some (mI 0)) (h' := mkh (m_upd μ 127 C) c s) rfl rfl rfl (by have hz : Cl PT 192 [mR 118, mI ((m : Int))] (mkh (m_upd μ 127 C) c s) (fun r => r = (some (some (mI (if g_cell μ (m : Int) then 1 else 0))), mkh (m_upd μ 127 C) c s)) := c_X12_isCell ((hL).upd rfl) (a := (m : Int)) (by omega) (μ := (m_upd μ 127 C)) (c := c) (s := s); rw [if_neg hq2] at hz; exact hz) ?_
        show Rn PT none kX12_risks 37 [some (mR 118), some (mI (a)), some (mI (t)), some (mI (l)), some (mI ((m : Int))), v5, v6, v7] [mI (0)] (mkh (m_upd μ 127 C) c s) _
        refine rn_if_eq (k' := 38) rfl rfl (fun hc7 => ?_) (fun hc7 => ?_)
        · skip
          refine rn_iinc (k' := 95) (L' := [some (mR 118), some (mI (a)), some (mI (t)), some (mI (l)), some (mI ((m : Int) + 1)), v5, v6, v7]) rfl rfl rfl (by omega) rfl ?_
          refine rn_goto rfl ?_
          exact ih (m + 1) _ _ _ _ _ _ (by omega) (by omega) hl hB (ps_next hP (Or.inr (fun z => by first | exact absurd z.1 (by assumption) | exact absurd z.2 (by assumption))))
        · exfalso; omega
set_option maxHeartbeats 4000000 in
theorem l_risks {μ : Nat → Nat → Int} {c s : Nat} (hL : I_land μ) (hw : 0 ≤ μ 118 22 ∧ μ 118 22 ≤ 1000) (hwi : 0 ≤ μ 118 23 ∧ μ 118 23 ≤ 99) {a t : Int} (ha : g_cell μ a) (ht : 0 ≤ t ∧ t ≤ 99) : ∀ (M : Nat) (C : Nat → Int) (v4 v5 v6 v7 : Option MV), sS C 100 ≤ (M : Int) → gBF μ a t (μ 118 22) (μ 118 23) C → Rn PT none kX12_risks 25 [some (mR 118), some (mI (a)), some (mI (t)), some (mI (1)), v4, v5, v6, v7] [] (mkh (m_upd μ 127 C) c s) (fun r => ∃ C, r = (some none, mkh (m_upd μ 127 C) c s) ∧ gBE μ a t (μ 118 22) (μ 118 23) C) := by
  have hL_ := hL
  obtain ⟨lc, lr, le, lm, lw, lh, lwo, lwd, q0, q1, q2, q3, q4, q8, q499, q500, lth, lG, lT, lW, -⟩ := hL_
  intro M
  induction M with
  | zero =>
    intro C v4 v5 v6 v7 hM hB
    refine rn_iload_n (k' := 26) rfl rfl rfl ?_
    refine rn_if_eq (k' := 27) rfl rfl (fun hc1 => ?_) (fun hc1 => ?_)
    · exfalso; omega
    · skip
      refine rn_iconst (k' := 28) rfl rfl ?_
      refine rn_istore_n (k' := 29) (L' := [some (mR 118), some (mI (a)), some (mI (t)), some (mI (0)), v4, v5, v6, v7]) rfl rfl (Nat.le_of_ble_eq_true rfl) rfl ?_
      refine rn_iconst (k' := 30) rfl rfl ?_
      refine rn_istore (k' := 31) (L' := [some (mR 118), some (mI (a)), some (mI (t)), some (mI (0)), some (mI (0)), v5, v6, v7]) rfl rfl (Nat.le_of_ble_eq_true rfl) rfl ?_
      refine l_risks_pass hL hw hwi ha ht (C0 := C) (fun l1 C1 v4 v5 v6 v7 hl1 hB1 hP1 => ?_) 100 0 _ _ _ _ _ _ rfl (by omega) (Or.inl rfl) hB (Or.inl ⟨rfl, rfl, fun x d _ _ _ z _ _ => by omega⟩)
      rcases hl1 with hl0 | hl0
      · subst hl0
        refine rn_iload_n (k' := 26) rfl rfl rfl ?_
        refine rn_if_eq (k' := 27) rfl rfl (fun hc1 => ?_) (fun hc1 => ?_)
        · skip
          refine rn_vret rfl ?_
          exact ⟨C1, rfl, ps_end hL hB1 hP1⟩
        · exfalso; omega
      · subst hl0
        have hlt : sS C1 100 < sS C 100 := hP1.elim (fun z => absurd z.1 (by decide)) (fun z => z.2)
        have hnn := sS_nn (C := C1) 100 (fun j hj => (hB1.2.1 j hj).1)
        exfalso; omega
  | succ M ih =>
    intro C v4 v5 v6 v7 hM hB
    refine rn_iload_n (k' := 26) rfl rfl rfl ?_
    refine rn_if_eq (k' := 27) rfl rfl (fun hc1 => ?_) (fun hc1 => ?_)
    · exfalso; omega
    · skip
      refine rn_iconst (k' := 28) rfl rfl ?_
      refine rn_istore_n (k' := 29) (L' := [some (mR 118), some (mI (a)), some (mI (t)), some (mI (0)), v4, v5, v6, v7]) rfl rfl (Nat.le_of_ble_eq_true rfl) rfl ?_
      refine rn_iconst (k' := 30) rfl rfl ?_
      refine rn_istore (k' := 31) (L' := [some (mR 118), some (mI (a)), some (mI (t)), some (mI (0)), some (mI (0)), v5, v6, v7]) rfl rfl (Nat.le_of_ble_eq_true rfl) rfl ?_
      refine l_risks_pass hL hw hwi ha ht (C0 := C) (fun l1 C1 v4 v5 v6 v7 hl1 hB1 hP1 => ?_) 100 0 _ _ _ _ _ _ rfl (by omega) (Or.inl rfl) hB (Or.inl ⟨rfl, rfl, fun x d _ _ _ z _ _ => by omega⟩)
      rcases hl1 with hl0 | hl0
      · subst hl0
        refine rn_iload_n (k' := 26) rfl rfl rfl ?_
        refine rn_if_eq (k' := 27) rfl rfl (fun hc1 => ?_) (fun hc1 => ?_)
        · skip
          refine rn_vret rfl ?_
          exact ⟨C1, rfl, ps_end hL hB1 hP1⟩
        · exfalso; omega
      · subst hl0
        have hlt : sS C1 100 < sS C 100 := hP1.elim (fun z => absurd z.1 (by decide)) (fun z => z.2)
        have hnn := sS_nn (C := C1) 100 (fun j hj => (hB1.2.1 j hj).1)
        exact ih C1 v4 v5 v6 v7 (by omega) hB1
set_option maxHeartbeats 4000000 in
theorem l_risks_0 {μ : Nat → Nat → Int} {c s : Nat} (hL : I_land μ) (hw : 0 ≤ μ 118 22 ∧ μ 118 22 ≤ 1000) (hwi : 0 ≤ μ 118 23 ∧ μ 118 23 ≤ 99) {a t : Int} (ha : g_cell μ a) (ht : 0 ≤ t ∧ t ≤ 99) : ∀ (d n : Nat) (k : Int), k = (n : Int) → n + d = 100 → Rn PT none kX12_risks 2 [some (mR 118), some (mI (a)), some (mI (t)), some (mI (k)), none, none, none, none] [] (mkh (m_upd μ 127 (fl (fun _ => 1000000000) (μ 127) n)) c s) (fun r => ∃ C, r = (some none, mkh (m_upd μ 127 C) c s) ∧ (g_stand μ a t (μ 118 22) → gBE μ a t (μ 118 22) (μ 118 23) C) ∧ (¬ g_stand μ a t (μ 118 22) → ∀ j, j < 100 → C j = 1000000000)) := by
  have hL_ := hL
  obtain ⟨lc, lr, le, lm, lw, lh, lwo, lwd, q0, q1, q2, q3, q4, q8, q499, q500, lth, lG, lT, lW, -⟩ := hL_
  have hab := g_cell_b hL ha
  intro d
  induction d with
  | zero =>
    intro n k ek hn 
    subst ek
    refine rn_iload_n (k' := 3) rfl rfl rfl ?_
    refine rn_bipush (k' := 4) rfl rfl ?_
    refine rn_icmp_ge (k' := 5) rfl rfl (fun hc1 => ?_) (fun hc1 => ?_)
    · skip
      refine rn_aload_n (k' := 13) rfl rfl rfl ?_
      refine rn_iload_n (k' := 14) rfl rfl rfl ?_
      refine rn_iload_n (k' := 15) rfl rfl rfl ?_
      by_cases hq2 : g_stand μ a t (μ 118 22)
      · refine rn_callP (k' := 16) (y := 203) (vs := [mR 118, mI (a), mI (t)]) (S' := []) (v := some (mI 1)) (h' := mkh (m_upd μ 127 (fl (fun _ => 1000000000) (μ 127) n)) c s) rfl rfl rfl (by have hz : Cl PT 203 [mR 118, mI (a), mI (t)] (mkh (m_upd μ 127 (fl (fun _ => 1000000000) (μ 127) n)) c s) (fun r => r = (some (some (mI (if g_stand μ a t (μ 118 22) then 1 else 0))), mkh (m_upd μ 127 (fl (fun _ => 1000000000) (μ 127) n)) c s)) := c_X12_standsOn ((hL).upd rfl) (by show 0 ≤ μ 118 22 ∧ μ 118 22 ≤ 1000; omega) (a := a) (t := t) (by show g_cell μ (a); first | assumption | omega) (by omega) (μ := (m_upd μ 127 (fl (fun _ => 1000000000) (μ 127) n))) (c := c) (s := s); rw [if_pos hq2] at hz; exact hz) ?_
        show Rn PT none kX12_risks 16 [some (mR 118), some (mI (a)), some (mI (t)), some (mI ((n : Int))), none, none, none, none] [mI (1)] (mkh (m_upd μ 127 (fl (fun _ => 1000000000) (μ 127) n)) c s) _
        refine rn_if_ne (k' := 17) rfl rfl (fun hc3 => ?_) (fun hc3 => ?_)
        · skip
          refine rn_aload_n (k' := 19) rfl rfl rfl ?_
          refine rn_getR (k' := 20) rfl rfl K0_118 (by decide) rfl R0_118_26 ?_
          refine rn_iload_n (k' := 21) rfl rfl rfl ?_
          refine rn_iconst (k' := 22) rfl rfl ?_
          refine rn_iastore (k' := 23) rfl rfl K0_127 (by omega) (by omega) ?_
          refine rn_iconst (k' := 24) rfl rfl ?_
          refine rn_istore_n (k' := 25) (L' := [some (mR 118), some (mI (a)), some (mI (t)), some (mI (1)), none, none, none, none]) rfl rfl (Nat.le_of_ble_eq_true rfl) rfl ?_
          show Rn PT none kX12_risks 25 [some (mR 118), some (mI (a)), some (mI (t)), some (mI (1)), none, none, none, none] [] (mkh (m_set (m_upd μ 127 (fl (fun _ => 1000000000) (μ 127) n)) 127 ((a).toNat) (0)) c s) _
          rw [set_upd_eq (a := 127)]
          have hq0 : ∀ j, j < 100 → (fs (fl (fun _ => 1000000000) (μ 127) n) a.toNat 0) j = if j = a.toNat then 0 else 1000000000 := fun j hj => by
            unfold fs
            by_cases e : j = a.toNat
            · rw [if_pos e, if_pos e]
            · rw [if_neg e, if_neg e, fl_lt (by omega)]
          have hB : gBF μ a t (μ 118 22) (μ 118 23) (fs (fl (fun _ => 1000000000) (μ 127) n) a.toNat 0) := ⟨by rw [hq0 _ (by omega), if_pos rfl], fun j hj => by
              rw [hq0 j hj]
              split <;> omega, fun x hx hne hf => by
              have hxb := g_cell_b hL hx
              rw [hq0 _ (by omega), if_neg (by omega)] at hf
              exact absurd hf (by decide)⟩
          have hnn := sS_nn (C := (fs (fl (fun _ => 1000000000) (μ 127) n) a.toNat 0)) 100 (fun j hj => (hB.2.1 j hj).1)
          exact (l_risks hL hw hwi ha ht (sS (fs (fl (fun _ => 1000000000) (μ 127) n) a.toNat 0) 100).toNat (fs (fl (fun _ => 1000000000) (μ 127) n) a.toNat 0) _ _ _ _ (by omega) hB).mono (fun r hr => by obtain ⟨C, e1, e2⟩ := hr; exact ⟨C, e1, fun _ => e2, fun z => absurd (by assumption) z⟩)
        · exfalso; omega
      · refine rn_callP (k' := 16) (y := 203) (vs := [mR 118, mI (a), mI (t)]) (S' := []) (v := some (mI 0)) (h' := mkh (m_upd μ 127 (fl (fun _ => 1000000000) (μ 127) n)) c s) rfl rfl rfl (by have hz : Cl PT 203 [mR 118, mI (a), mI (t)] (mkh (m_upd μ 127 (fl (fun _ => 1000000000) (μ 127) n)) c s) (fun r => r = (some (some (mI (if g_stand μ a t (μ 118 22) then 1 else 0))), mkh (m_upd μ 127 (fl (fun _ => 1000000000) (μ 127) n)) c s)) := c_X12_standsOn ((hL).upd rfl) (by show 0 ≤ μ 118 22 ∧ μ 118 22 ≤ 1000; omega) (a := a) (t := t) (by show g_cell μ (a); first | assumption | omega) (by omega) (μ := (m_upd μ 127 (fl (fun _ => 1000000000) (μ 127) n))) (c := c) (s := s); rw [if_neg hq2] at hz; exact hz) ?_
        show Rn PT none kX12_risks 16 [some (mR 118), some (mI (a)), some (mI (t)), some (mI ((n : Int))), none, none, none, none] [mI (0)] (mkh (m_upd μ 127 (fl (fun _ => 1000000000) (μ 127) n)) c s) _
        refine rn_if_ne (k' := 17) rfl rfl (fun hc4 => ?_) (fun hc4 => ?_)
        · exfalso; omega
        · skip
          refine rn_vret rfl ?_
          exact ⟨_, rfl, fun z => absurd z (by assumption), fun _ j hj => fl_lt (by omega)⟩
    · exfalso; omega
  | succ d ih =>
    intro n k ek hn 
    subst ek
    refine rn_iload_n (k' := 3) rfl rfl rfl ?_
    refine rn_bipush (k' := 4) rfl rfl ?_
    refine rn_icmp_ge (k' := 5) rfl rfl (fun hc1 => ?_) (fun hc1 => ?_)
    · exfalso; omega
    · skip
      refine rn_aload_n (k' := 6) rfl rfl rfl ?_
      refine rn_getR (k' := 7) rfl rfl K0_118 (by decide) rfl R0_118_26 ?_
      refine rn_iload_n (k' := 8) rfl rfl rfl ?_
      refine rn_ldc_w (k' := 9) rfl rfl ?_
      refine rn_iastore (k' := 10) rfl rfl K0_127 (by omega) (by omega) ?_
      refine rn_iinc (k' := 11) (L' := [some (mR 118), some (mI (a)), some (mI (t)), some (mI ((n : Int) + 1)), none, none, none, none]) rfl rfl rfl (by omega) rfl ?_
      refine rn_goto rfl ?_
      show Rn PT none kX12_risks 2 [some (mR 118), some (mI (a)), some (mI (t)), some (mI ((n : Int) + 1)), none, none, none, none] [] (mkh (m_set (m_upd μ 127 (fl (fun _ => 1000000000) (μ 127) n)) 127 n (1000000000)) c s) _
      rw [fl_st (n := n) rfl]
      exact ih (n + 1) _ (by omega) (by omega)
theorem c_risks {μ : Nat → Nat → Int} {c s : Nat} (hL : I_land μ) (hw : 0 ≤ μ 118 22 ∧ μ 118 22 ≤ 1000) (hwi : 0 ≤ μ 118 23 ∧ μ 118 23 ≤ 99) {a t : Int} (ha : g_cell μ a) (ht : 0 ≤ t ∧ t ≤ 99) : ∃ C, ((g_stand μ a t (μ 118 22) → gBE μ a t (μ 118 22) (μ 118 23) C) ∧ (¬ g_stand μ a t (μ 118 22) → ∀ j, j < 100 → C j = 1000000000)) ∧ Cl PT 219 [mR 118, mI a, mI t] (mkh μ c s) (fun r => r = (some none, mkh (m_upd μ 127 C) c s)) := by
  refine Cl.ex (g := fun C => (some none, mkh (m_upd μ 127 C) c s)) ?_
  refine ⟨_, PT_219, Nat.le_of_ble_eq_true rfl, ?_⟩
  show Rn PT none kX12_risks 0 [some (mR 118), some (mI (a)), some (mI (t)), none, none, none, none, none] [] (mkh μ c s) _
  refine rn_iconst (k' := 1) rfl rfl ?_
  refine rn_istore_n (k' := 2) (L' := [some (mR 118), some (mI (a)), some (mI (t)), some (mI (0)), none, none, none, none]) rfl rfl (Nat.le_of_ble_eq_true rfl) rfl ?_
  have h := l_risks_0 (c := c) (s := s) hL hw hwi ha ht 100 0 0 rfl (by omega)
  rw [fl_0] at h
  exact h.mono (fun r hr => by obtain ⟨C, e1, e2⟩ := hr; exact ⟨C, e1, e2⟩)
set_option maxHeartbeats 4000000 in
theorem t_X11_risk {μ : Nat → Nat → Int} {c s : Nat} (hL : I_land μ) (hS : I_scene μ) {a0 a1 a2 a3 : Int} (h0 : i32 a0) (h1 : i32 a1) (h2 : i32 a2) (h3 : i32 a3) : Cl PT 116 [mR 0, mI a0, mI a1, mI a2, mI a3] (mkh μ c s) (fun r => ∃ μ1, r = (some (some (mI (if g_cell μ a0 ∧ g_cell μ a1 ∧ (0 ≤ a2 ∧ a2 ≤ 99) ∧ 0 ≤ a3 ∧ a3 ≤ 29 then if g_ok μ a0 a1 a2 (g_w μ 0 a3) then rsk (g_C μ a1 a2 (g_w μ 0 a3) (g_w μ 1 a3)) a0 else -1 else -1))), mkh μ1 c s) ∧ rst μ1 = rst μ) := by
  have hL_ := hL
  obtain ⟨lc, lr, le, lm, lw, lh, lwo, lwd, q0, q1, q2, q3, q4, q8, q499, q500, lth, lG, lT, lW, -⟩ := hL_
  have hS_ := hS
  obtain ⟨sd, sw, stk, s4, s5, s6, hC, hH, -, s10, sce, swc, s13⟩ := hS_
  by_cases hv : g_cell μ a0 ∧ g_cell μ a1 ∧ (0 ≤ a2 ∧ a2 ≤ 99) ∧ 0 ≤ a3 ∧ a3 ≤ 29
  · rw [if_pos hv]
    have hv_ := hv
    obtain ⟨hv1, hv2, hv3, hv4⟩ := hv_
    refine ⟨_, PT_116, Nat.le_of_ble_eq_true rfl, ?_⟩
    show Rn PT none kX11_risk 0 [some (mR 0), some (mI (a0)), some (mI (a1)), some (mI (a2)), some (mI (a3))] [] (mkh μ c s) _
    refine rn_aload_n (k' := 1) rfl rfl rfl ?_
    refine rn_iload_n (k' := 2) rfl rfl rfl ?_
    refine rn_iload_n (k' := 3) rfl rfl rfl ?_
    refine rn_iload_n (k' := 4) rfl rfl rfl ?_
    refine rn_iload (k' := 5) rfl rfl rfl ?_
    by_cases hq1 : g_cell μ a0 ∧ g_cell μ a1 ∧ (0 ≤ a2 ∧ a2 ≤ 99) ∧ 0 ≤ a3 ∧ a3 ≤ 29
    · refine rn_callP (k' := 6) (y := 155) (vs := [mR 0, mI (a0), mI (a1), mI (a2), mI (a3)]) (S' := []) (v := some (mI 1)) (h' := mkh μ c s) rfl rfl rfl (by have hz : Cl PT 155 [mR 0, mI (a0), mI (a1), mI (a2), mI (a3)] (mkh μ c s) (fun r => r = (some (some (mI (if g_cell μ a0 ∧ g_cell μ a1 ∧ (0 ≤ a2 ∧ a2 ≤ 99) ∧ 0 ≤ a3 ∧ a3 ≤ 29 then 1 else 0))), mkh μ c s)) := c_X11_areSuch (hL) (a := a0) (b := a1) (t := a2) (d := a3) (by omega) (by omega) (μ := μ) (c := c) (s := s); rw [if_pos hq1] at hz; exact hz) ?_
      show Rn PT none kX11_risk 6 [some (mR 0), some (mI (a0)), some (mI (a1)), some (mI (a2)), some (mI (a3))] [mI (1)] (mkh μ c s) _
      refine rn_if_ne (k' := 7) rfl rfl (fun hc2 => ?_) (fun hc2 => ?_)
      · skip
        refine rn_aload_n (k' := 10) rfl rfl rfl ?_
        refine rn_getR (k' := 11) rfl rfl K0_0 (by decide) rfl R0_0_8 ?_
        refine rn_iload_n (k' := 12) rfl rfl rfl ?_
        refine rn_iload_n (k' := 13) rfl rfl rfl ?_
        refine rn_iload_n (k' := 14) rfl rfl rfl ?_
        refine rn_iload (k' := 15) rfl rfl rfl ?_
        obtain ⟨O3, C3, Z3, hB3, hcl3⟩ := c_leastRisk (μ := μ) (c := c) (s := s) (hL) (x := a0) (a := a1) (t := a2) (dy := a3) (by assumption) (by assumption) (by omega) (by omega)
        refine rn_callP (k' := 16) (y := 94) (vs := [mR 66, mI (a0), mI (a1), mI (a2), mI (a3)]) (S' := []) (v := some (mI (if g_ok μ a0 a1 a2 (g_w μ 0 a3) then rsk (g_C μ a1 a2 (g_w μ 0 a3) (g_w μ 1 a3)) a0 else -1))) (h' := mkh (m_upd (m_upd (m_upd μ 67 O3) 70 C3) 71 Z3) c s) rfl rfl rfl (hcl3) ?_
        show Rn PT none kX11_risk 16 [some (mR 0), some (mI (a0)), some (mI (a1)), some (mI (a2)), some (mI (a3))] [mI (if g_ok μ a0 a1 a2 (g_w μ 0 a3) then rsk (g_C μ a1 a2 (g_w μ 0 a3) (g_w μ 1 a3)) a0 else -1)] (mkh (m_upd (m_upd (m_upd μ 67 O3) 70 C3) 71 Z3) c s) _
        refine rn_iret rfl (Or.inl rfl) ?_
        exact ⟨(m_upd (m_upd (m_upd μ 67 O3) 70 C3) 71 Z3), rfl, ((rst_upd (a := 71) (fun _ => rfl)).trans ((rst_upd (a := 70) (fun _ => rfl)).trans (rst_upd (a := 67) (fun _ => rfl))))⟩
      · exfalso; omega
    · exfalso; omega
  · rw [if_neg hv]
    refine ⟨_, PT_116, Nat.le_of_ble_eq_true rfl, ?_⟩
    show Rn PT none kX11_risk 0 [some (mR 0), some (mI (a0)), some (mI (a1)), some (mI (a2)), some (mI (a3))] [] (mkh μ c s) _
    refine rn_aload_n (k' := 1) rfl rfl rfl ?_
    refine rn_iload_n (k' := 2) rfl rfl rfl ?_
    refine rn_iload_n (k' := 3) rfl rfl rfl ?_
    refine rn_iload_n (k' := 4) rfl rfl rfl ?_
    refine rn_iload (k' := 5) rfl rfl rfl ?_
    by_cases hq1 : g_cell μ a0 ∧ g_cell μ a1 ∧ (0 ≤ a2 ∧ a2 ≤ 99) ∧ 0 ≤ a3 ∧ a3 ≤ 29
    · refine rn_callP (k' := 6) (y := 155) (vs := [mR 0, mI (a0), mI (a1), mI (a2), mI (a3)]) (S' := []) (v := some (mI 1)) (h' := mkh μ c s) rfl rfl rfl (by have hz : Cl PT 155 [mR 0, mI (a0), mI (a1), mI (a2), mI (a3)] (mkh μ c s) (fun r => r = (some (some (mI (if g_cell μ a0 ∧ g_cell μ a1 ∧ (0 ≤ a2 ∧ a2 ≤ 99) ∧ 0 ≤ a3 ∧ a3 ≤ 29 then 1 else 0))), mkh μ c s)) := c_X11_areSuch (hL) (a := a0) (b := a1) (t := a2) (d := a3) (by omega) (by omega) (μ := μ) (c := c) (s := s); rw [if_pos hq1] at hz; exact hz) ?_
      show Rn PT none kX11_risk 6 [some (mR 0), some (mI (a0)), some (mI (a1)), some (mI (a2)), some (mI (a3))] [mI (1)] (mkh μ c s) _
      refine rn_if_ne (k' := 7) rfl rfl (fun hc2 => ?_) (fun hc2 => ?_)
      · skip
        refine rn_aload_n (k' := 10) rfl rfl rfl ?_
        refine rn_getR (k' := 11) rfl rfl K0_0 (by decide) rfl R0_0_8 ?_
        refine rn_iload_n (k' := 12) rfl rfl rfl ?_
        refine rn_iload_n (k' := 13) rfl rfl rfl ?_
        refine rn_iload_n (k' := 14) rfl rfl rfl ?_
        refine rn_iload (k' := 15) rfl rfl rfl ?_
        exfalso; omega
      · exfalso; omega
    · refine rn_callP (k' := 6) (y := 155) (vs := [mR 0, mI (a0), mI (a1), mI (a2), mI (a3)]) (S' := []) (v := some (mI 0)) (h' := mkh μ c s) rfl rfl rfl (by have hz : Cl PT 155 [mR 0, mI (a0), mI (a1), mI (a2), mI (a3)] (mkh μ c s) (fun r => r = (some (some (mI (if g_cell μ a0 ∧ g_cell μ a1 ∧ (0 ≤ a2 ∧ a2 ≤ 99) ∧ 0 ≤ a3 ∧ a3 ≤ 29 then 1 else 0))), mkh μ c s)) := c_X11_areSuch (hL) (a := a0) (b := a1) (t := a2) (d := a3) (by omega) (by omega) (μ := μ) (c := c) (s := s); rw [if_neg hq1] at hz; exact hz) ?_
      show Rn PT none kX11_risk 6 [some (mR 0), some (mI (a0)), some (mI (a1)), some (mI (a2)), some (mI (a3))] [mI (0)] (mkh μ c s) _
      refine rn_if_ne (k' := 7) rfl rfl (fun hc3 => ?_) (fun hc3 => ?_)
      · exfalso; omega
      · skip
        refine rn_iconst (k' := 8) rfl rfl ?_
        refine rn_iret rfl (Or.inl rfl) ?_
        exact ⟨μ, rfl, rfl⟩
theorem rk_val {μ : Nat → Nat → Int} (hL : I_land μ) {x a t w v : Int} {C : Nat → Int} (ht : 0 ≤ t ∧ t ≤ 99) (hv : 0 ≤ v ∧ v ≤ 99) (hx : g_cell μ x) (ha : g_cell μ a) (hB : (g_stand μ a t w → gBE μ a t w v C) ∧ (¬ g_stand μ a t w → ∀ j, j < 100 → C j = 1000000000)) : (0 ≤ C x.toNat ∧ C x.toNat ≤ 1000000000) ∧ (if g_ok μ x a t w then rsk (g_C μ a t w v) x else -1) = (if C x.toNat < 1000000000 then (C x.toNat).tdiv 1000 else -1) := by
  have hxb := g_cell_b hL hx
  by_cases hs : g_stand μ a t w
  · have h := hB.1 hs
    have hb := h.2.1 x hx
    have he := g_C_eq hL ht hv h hx
    refine ⟨hb, ?_⟩
    by_cases h0 : g_stand μ x t w
    · rw [if_pos ⟨h0, hs⟩]
      unfold rsk
      rw [← he]
      by_cases e : C x.toNat = 1000000000
      · rw [if_pos e, if_neg (by omega)]
      · rw [if_neg e, if_pos (by omega)]
    · rw [if_neg (fun z => h0 z.1)]
      have hne : ¬ x = a := fun e => h0 (by rw [e]; exact hs)
      rw [if_neg (fun z => h0 (h.2.2.2 x hx hne z).1)]
  · have h := hB.2 hs x.toNat (by omega)
    rw [if_neg (fun z => hs z.2), if_neg (by omega)]
    exact ⟨by omega, rfl⟩
set_option maxHeartbeats 4000000 in
theorem t_X12_risk {μ : Nat → Nat → Int} {c s : Nat} (hL : I_land μ) (hS : I_scene μ) {a0 a1 a2 a3 : Int} (h0 : i32 a0) (h1 : i32 a1) (h2 : i32 a2) (h3 : i32 a3) : Cl PT 220 [mR 118, mI a0, mI a1, mI a2, mI a3] (mkh μ c s) (fun r => ∃ μ1, r = (some (some (mI (if g_cell μ a0 ∧ g_cell μ a1 ∧ (0 ≤ a2 ∧ a2 ≤ 99) ∧ 0 ≤ a3 ∧ a3 ≤ 29 then if g_ok μ a0 a1 a2 (g_w μ 0 a3) then rsk (g_C μ a1 a2 (g_w μ 0 a3) (g_w μ 1 a3)) a0 else -1 else -1))), mkh μ1 c s) ∧ rst μ1 = rst μ) := by
  have hL_ := hL
  obtain ⟨lc, lr, le, lm, lw, lh, lwo, lwd, q0, q1, q2, q3, q4, q8, q499, q500, lth, lG, lT, lW, -⟩ := hL_
  have hS_ := hS
  obtain ⟨sd, sw, stk, s4, s5, s6, hC, hH, -, s10, sce, swc, s13⟩ := hS_
  by_cases hv : g_cell μ a0 ∧ g_cell μ a1 ∧ (0 ≤ a2 ∧ a2 ≤ 99) ∧ 0 ≤ a3 ∧ a3 ≤ 29
  · rw [if_pos hv]
    have hv_ := hv
    obtain ⟨hv1, hv2, hv3, hv4⟩ := hv_
    have hgb := g_cell_b hL hv1
    refine ⟨_, PT_220, Nat.le_of_ble_eq_true rfl, ?_⟩
    show Rn PT none kX12_risk 0 [some (mR 118), some (mI (a0)), some (mI (a1)), some (mI (a2)), some (mI (a3))] [] (mkh μ c s) _
    refine rn_aload_n (k' := 1) rfl rfl rfl ?_
    refine rn_iconst (k' := 2) rfl rfl ?_
    refine rn_putI (k' := 3) rfl rfl K0_118 (by decide) rfl ?_
    refine rn_aload_n (k' := 4) rfl rfl rfl ?_
    refine rn_iload_n (k' := 5) rfl rfl rfl ?_
    refine rn_iload_n (k' := 6) rfl rfl rfl ?_
    refine rn_iload_n (k' := 7) rfl rfl rfl ?_
    refine rn_iload (k' := 8) rfl rfl rfl ?_
    by_cases hq2 : g_cell μ a0 ∧ g_cell μ a1 ∧ (0 ≤ a2 ∧ a2 ≤ 99) ∧ 0 ≤ a3 ∧ a3 ≤ 29
    · refine rn_callP (k' := 9) (y := 214) (vs := [mR 118, mI (a0), mI (a1), mI (a2), mI (a3)]) (S' := []) (v := some (mI 1)) (h' := mkh (m_set μ 118 0 (0)) c s) rfl rfl rfl (by have hz : Cl PT 214 [mR 118, mI (a0), mI (a1), mI (a2), mI (a3)] (mkh (m_set μ 118 0 (0)) c s) (fun r => r = (some (some (mI (if g_cell μ a0 ∧ g_cell μ a1 ∧ (0 ≤ a2 ∧ a2 ≤ 99) ∧ 0 ≤ a3 ∧ a3 ≤ 29 then 1 else 0))), mkh (m_set μ 118 0 (0)) c s)) := c_X12_areAll ((hL).set rfl) (a := a0) (b := a1) (t := a2) (d := a3) (by omega) (by omega) (μ := (m_set μ 118 0 (0))) (c := c) (s := s); rw [if_pos hq2] at hz; exact hz) ?_
      show Rn PT none kX12_risk 9 [some (mR 118), some (mI (a0)), some (mI (a1)), some (mI (a2)), some (mI (a3))] [mI (1)] (mkh (m_set μ 118 0 (0)) c s) _
      refine rn_if_ne (k' := 10) rfl rfl (fun hc3 => ?_) (fun hc3 => ?_)
      · skip
        refine rn_aload_n (k' := 13) rfl rfl rfl ?_
        refine rn_iload (k' := 14) rfl rfl rfl ?_
        have hb4 := g_w_b hL 0 a3
        have hc904 := g_w_b hL 1 a3
        refine rn_callP (k' := 15) (y := 201) (vs := [mR 118, mI (a3)]) (S' := []) (v := none) (h' := mkh (m_set (m_set (m_set μ 118 0 (0)) 118 22 (g_w μ 0 a3)) 118 23 (g_w μ 1 a3)) c s) rfl rfl rfl (c_X12_of (μ := (m_set μ 118 0 (0))) ((hL).set rfl) (by omega)) ?_
        show Rn PT none kX12_risk 15 [some (mR 118), some (mI (a0)), some (mI (a1)), some (mI (a2)), some (mI (a3))] [] (mkh (m_set (m_set (m_set μ 118 0 (0)) 118 22 (g_w μ 0 a3)) 118 23 (g_w μ 1 a3)) c s) _
        refine rn_aload_n (k' := 16) rfl rfl rfl ?_
        refine rn_iload_n (k' := 17) rfl rfl rfl ?_
        refine rn_iload_n (k' := 18) rfl rfl rfl ?_
        obtain ⟨C5, hB5, hcl5⟩ := c_risks (μ := (m_set (m_set (m_set μ 118 0 (0)) 118 22 (g_w μ 0 a3)) 118 23 (g_w μ 1 a3))) (c := c) (s := s) ((((hL).set rfl).set rfl).set rfl) (by show 0 ≤ g_w μ 0 a3 ∧ g_w μ 0 a3 ≤ 1000; omega) (by show 0 ≤ g_w μ 1 a3 ∧ g_w μ 1 a3 ≤ 99; omega) (a := a1) (t := a2) (by assumption) (by omega)
        rw [gBE_rows (ν := (m_set (m_set (m_set μ 118 0 (0)) 118 22 (g_w μ 0 a3)) 118 23 (g_w μ 1 a3))) (μ := μ) rfl rfl rfl] at hB5
        have hB : (g_stand μ a1 a2 (g_w μ 0 a3) → gBE μ a1 a2 (g_w μ 0 a3) (g_w μ 1 a3) C5) ∧ (¬ g_stand μ a1 a2 (g_w μ 0 a3) → ∀ j, j < 100 → C5 j = 1000000000) := hB5
        have hrC := rk_val hL hv3 (by omega) hv1 hv2 hB
        refine rn_callP (k' := 19) (y := 219) (vs := [mR 118, mI (a1), mI (a2)]) (S' := []) (v := none) (h' := mkh (m_upd (m_set (m_set (m_set μ 118 0 (0)) 118 22 (g_w μ 0 a3)) 118 23 (g_w μ 1 a3)) 127 C5) c s) rfl rfl rfl (hcl5) ?_
        show Rn PT none kX12_risk 19 [some (mR 118), some (mI (a0)), some (mI (a1)), some (mI (a2)), some (mI (a3))] [] (mkh (m_upd (m_set (m_set (m_set μ 118 0 (0)) 118 22 (g_w μ 0 a3)) 118 23 (g_w μ 1 a3)) 127 C5) c s) _
        refine rn_aload_n (k' := 20) rfl rfl rfl ?_
        refine rn_getR (k' := 21) rfl rfl K0_118 (by decide) rfl R0_118_26 ?_
        refine rn_iload_n (k' := 22) rfl rfl rfl ?_
        refine rn_iaload (k' := 23) rfl rfl K0_127 (by omega) (by omega) ?_
        show Rn PT none kX12_risk 23 [some (mR 118), some (mI (a0)), some (mI (a1)), some (mI (a2)), some (mI (a3))] [mI (C5 ((a0).toNat))] (mkh (m_upd (m_set (m_set (m_set μ 118 0 (0)) 118 22 (g_w μ 0 a3)) 118 23 (g_w μ 1 a3)) 127 C5) c s) _
        refine rn_ldc_w (k' := 24) rfl rfl ?_
        refine rn_icmp_ge (k' := 25) rfl rfl (fun hc6 => ?_) (fun hc6 => ?_)
        · skip
          refine rn_iconst (k' := 33) rfl rfl ?_
          refine rn_iret rfl (Or.inl rfl) ?_
          refine ⟨(m_upd (m_set (m_set (m_set μ 118 0 (0)) 118 22 (g_w μ 0 a3)) 118 23 (g_w μ 1 a3)) 127 C5), ?_, ((rst_upd (a := 127) (fun _ => rfl)).trans ((rst_set (a := 118) (j := 23) rfl).trans ((rst_set (a := 118) (j := 22) rfl).trans (rst_set (a := 118) (j := 0) rfl))))⟩
          rw [hrC.2]
          first | rw [if_pos (by omega)] | rw [if_neg (by omega)]
        · skip
          refine rn_aload_n (k' := 26) rfl rfl rfl ?_
          refine rn_getR (k' := 27) rfl rfl K0_118 (by decide) rfl R0_118_26 ?_
          refine rn_iload_n (k' := 28) rfl rfl rfl ?_
          refine rn_iaload (k' := 29) rfl rfl K0_127 (by omega) (by omega) ?_
          show Rn PT none kX12_risk 29 [some (mR 118), some (mI (a0)), some (mI (a1)), some (mI (a2)), some (mI (a3))] [mI (C5 ((a0).toNat))] (mkh (m_upd (m_set (m_set (m_set μ 118 0 (0)) 118 22 (g_w μ 0 a3)) 118 23 (g_w μ 1 a3)) 127 C5) c s) _
          refine rn_sipush (k' := 30) rfl rfl ?_
          refine rn_idiv (k' := 31) rfl rfl (by decide) (tdiv_rng (by omega) (by omega)) ?_
          refine rn_goto rfl ?_
          refine rn_iret rfl (Or.inl rfl) ?_
          refine ⟨(m_upd (m_set (m_set (m_set μ 118 0 (0)) 118 22 (g_w μ 0 a3)) 118 23 (g_w μ 1 a3)) 127 C5), ?_, ((rst_upd (a := 127) (fun _ => rfl)).trans ((rst_set (a := 118) (j := 23) rfl).trans ((rst_set (a := 118) (j := 22) rfl).trans (rst_set (a := 118) (j := 0) rfl))))⟩
          rw [hrC.2]
          first | rw [if_pos (by omega)] | rw [if_neg (by omega)]
      · exfalso; omega
    · exfalso; omega
  · rw [if_neg hv]
    refine ⟨_, PT_220, Nat.le_of_ble_eq_true rfl, ?_⟩
    show Rn PT none kX12_risk 0 [some (mR 118), some (mI (a0)), some (mI (a1)), some (mI (a2)), some (mI (a3))] [] (mkh μ c s) _
    refine rn_aload_n (k' := 1) rfl rfl rfl ?_
    refine rn_iconst (k' := 2) rfl rfl ?_
    refine rn_putI (k' := 3) rfl rfl K0_118 (by decide) rfl ?_
    refine rn_aload_n (k' := 4) rfl rfl rfl ?_
    refine rn_iload_n (k' := 5) rfl rfl rfl ?_
    refine rn_iload_n (k' := 6) rfl rfl rfl ?_
    refine rn_iload_n (k' := 7) rfl rfl rfl ?_
    refine rn_iload (k' := 8) rfl rfl rfl ?_
    by_cases hq2 : g_cell μ a0 ∧ g_cell μ a1 ∧ (0 ≤ a2 ∧ a2 ≤ 99) ∧ 0 ≤ a3 ∧ a3 ≤ 29
    · refine rn_callP (k' := 9) (y := 214) (vs := [mR 118, mI (a0), mI (a1), mI (a2), mI (a3)]) (S' := []) (v := some (mI 1)) (h' := mkh (m_set μ 118 0 (0)) c s) rfl rfl rfl (by have hz : Cl PT 214 [mR 118, mI (a0), mI (a1), mI (a2), mI (a3)] (mkh (m_set μ 118 0 (0)) c s) (fun r => r = (some (some (mI (if g_cell μ a0 ∧ g_cell μ a1 ∧ (0 ≤ a2 ∧ a2 ≤ 99) ∧ 0 ≤ a3 ∧ a3 ≤ 29 then 1 else 0))), mkh (m_set μ 118 0 (0)) c s)) := c_X12_areAll ((hL).set rfl) (a := a0) (b := a1) (t := a2) (d := a3) (by omega) (by omega) (μ := (m_set μ 118 0 (0))) (c := c) (s := s); rw [if_pos hq2] at hz; exact hz) ?_
      show Rn PT none kX12_risk 9 [some (mR 118), some (mI (a0)), some (mI (a1)), some (mI (a2)), some (mI (a3))] [mI (1)] (mkh (m_set μ 118 0 (0)) c s) _
      refine rn_if_ne (k' := 10) rfl rfl (fun hc3 => ?_) (fun hc3 => ?_)
      · skip
        refine rn_aload_n (k' := 13) rfl rfl rfl ?_
        refine rn_iload (k' := 14) rfl rfl rfl ?_
        exfalso; omega
      · exfalso; omega
    · refine rn_callP (k' := 9) (y := 214) (vs := [mR 118, mI (a0), mI (a1), mI (a2), mI (a3)]) (S' := []) (v := some (mI 0)) (h' := mkh (m_set μ 118 0 (0)) c s) rfl rfl rfl (by have hz : Cl PT 214 [mR 118, mI (a0), mI (a1), mI (a2), mI (a3)] (mkh (m_set μ 118 0 (0)) c s) (fun r => r = (some (some (mI (if g_cell μ a0 ∧ g_cell μ a1 ∧ (0 ≤ a2 ∧ a2 ≤ 99) ∧ 0 ≤ a3 ∧ a3 ≤ 29 then 1 else 0))), mkh (m_set μ 118 0 (0)) c s)) := c_X12_areAll ((hL).set rfl) (a := a0) (b := a1) (t := a2) (d := a3) (by omega) (by omega) (μ := (m_set μ 118 0 (0))) (c := c) (s := s); rw [if_neg hq2] at hz; exact hz) ?_
      show Rn PT none kX12_risk 9 [some (mR 118), some (mI (a0)), some (mI (a1)), some (mI (a2)), some (mI (a3))] [mI (0)] (mkh (m_set μ 118 0 (0)) c s) _
      refine rn_if_ne (k' := 10) rfl rfl (fun hc4 => ?_) (fun hc4 => ?_)
      · exfalso; omega
      · skip
        refine rn_iconst (k' := 11) rfl rfl ?_
        refine rn_iret rfl (Or.inl rfl) ?_
        exact ⟨(m_set μ 118 0 (0)), rfl, (rst_set (a := 118) (j := 0) rfl)⟩
theorem pair_13 : ∀ (a0 : Int), ∀ (a1 : Int), ∀ (a2 : Int), ∀ (a3 : Int), i32 a0 → i32 a1 → i32 a2 → i32 a3 → PairI (Inv N) 116 220 [mI a0, mI a1, mI a2, mI a3] := by
  intro a0 a1 a2 a3 ha0 ha1 ha2 ha3
  exact pair_of (fun ν => if g_cell ν a0 ∧ g_cell ν a1 ∧ (0 ≤ a2 ∧ a2 ≤ 99) ∧ 0 ≤ a3 ∧ a3 ≤ 29 then if g_ok ν a0 a1 a2 (g_w ν 0 a3) then rsk (g_C ν a1 a2 (g_w ν 0 a3) (g_w ν 1 a3)) a0 else -1 else -1) (fun μ c s hI => t_X11_risk hI.land hI.scene ha0 ha1 ha2 ha3) (fun μ c s hI => t_X12_risk hI.land hI.scene ha0 ha1 ha2 ha3) (fun μ ν h => by
    have e6 := row_rst h (a := 6) (fun _ => rfl)
    have e7 := row_rst h (a := 7) (fun _ => rfl)
    have e8 := row_rst h (a := 8) (fun _ => rfl)
    have e10 := row_rst h (a := 10) (fun _ => rfl)
    have e14 := row_rst h (a := 14) (fun _ => rfl)
    have e15 := row_rst h (a := 15) (fun _ => rfl)
    have e16 := row_rst h (a := 16) (fun _ => rfl)
    simp only [g_cell, g_w, g_st, g_dep, e6, e7, e8, e10, e14, e15, e16, g_steps_rows e6 e7 e8, g_reach_rows e6 e7 e8, g_far_rows e6 e7 e8, g_C_rows e6 e7 e8, g_ok, g_stand])
