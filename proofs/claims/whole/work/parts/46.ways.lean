variable {N : Int}
/-! ===== printed by wip/whole/gen46.py: floodFrom, reachFrom, stepsBetween ===== -/
theorem Cl.ex2 {y : Nat} {vs : List MV} {h : MH} {α β : Type} {P : α → β → Prop} {g : α → β → MR} (hc : Cl PT y vs h (fun r => ∃ a b, r = g a b ∧ P a b)) : ∃ a b, P a b ∧ Cl PT y vs h (fun r => r = g a b) := by
  obtain ⟨M, e1, e2, n, r, e3, a, b, e4, e5⟩ := hc
  exact ⟨a, b, e5, M, e1, e2, n, r, e3, e4⟩
/-- how many cells are come to; steps from one to another -/
def g_reach (μ : Nat → Nat → Int) (a t w : Int) : Int := if g_stand μ a t w then (((bfs (g_nb μ) (fun x => g_stand μ x t w) a).2.2 : Nat) : Int) else 0
def g_steps (μ : Nat → Nat → Int) (a b t w : Int) : Int := if g_stand μ a t w then (bfs (g_nb μ) (fun x => g_stand μ x t w) a).1 b.toNat else -1
theorem g_reach_pos {μ : Nat → Nat → Int} {a t w : Int} (h : g_stand μ a t w) : g_reach μ a t w = (((bfs (g_nb μ) (fun x => g_stand μ x t w) a).2.2 : Nat) : Int) := if_pos h
theorem g_reach_neg {μ : Nat → Nat → Int} {a t w : Int} (h : ¬ g_stand μ a t w) : g_reach μ a t w = 0 := if_neg h
theorem g_steps_pos {μ : Nat → Nat → Int} {a b t w : Int} (h : g_stand μ a t w) : g_steps μ a b t w = (bfs (g_nb μ) (fun x => g_stand μ x t w) a).1 b.toNat := if_pos h
theorem g_steps_neg {μ : Nat → Nat → Int} {a b t w : Int} (h : ¬ g_stand μ a t w) : g_steps μ a b t w = -1 := if_neg h
theorem g_reach_rows {μ ν : Nat → Nat → Int} (e6 : ν 6 = μ 6) (e7 : ν 7 = μ 7) (e8 : ν 8 = μ 8) : g_reach ν = g_reach μ := by
  delta g_reach g_nb g_stand
  rw [e6, e7, e8]
theorem g_steps_rows {μ ν : Nat → Nat → Int} (e6 : ν 6 = μ 6) (e7 : ν 7 = μ 7) (e8 : ν 8 = μ 8) : g_steps ν = g_steps μ := by
  delta g_steps g_nb g_stand
  rw [e6, e7, e8]
theorem gbfs_ok {μ : Nat → Nat → Int} (hL : I_land μ) {t w a : Int} (ha : g_cell μ a) : b_ok (g_cell μ) (bfs (g_nb μ) (fun x => g_stand μ x t w) a) := bfs_ok (g_GR hL) ha
theorem open_ok {μ : Nat → Nat → Int} {t w : Int} (x : Int) (hx : g_cell μ x) : (g_stand μ x t w → fl (fun j : Nat => if g_stand μ (j : Int) t w then 1 else 0) (μ 67) (10 * μ 6 9).toNat x.toNat = 1) ∧ (¬ g_stand μ x t w → fl (fun j : Nat => if g_stand μ (j : Int) t w then 1 else 0) (μ 67) (10 * μ 6 9).toNat x.toNat = 0) := by
  obtain ⟨h0, h1, h2⟩ := hx
  have e := td10 h0
  have e2 : ((x.toNat : Nat) : Int) = x := Int.toNat_of_nonneg h0
  rw [fl_lt (by omega)]
  show (g_stand μ x t w → (if g_stand μ ((x.toNat : Nat) : Int) t w then (1 : Int) else 0) = 1) ∧ (¬ g_stand μ x t w → (if g_stand μ ((x.toNat : Nat) : Int) t w then (1 : Int) else 0) = 0)
  rw [e2]
  exact ⟨fun h => if_pos h, fun h => if_neg h⟩
set_option maxHeartbeats 4000000 in
theorem c_floodFrom {μ : Nat → Nat → Int} {c s : Nat} (hL : I_land μ) {O : Int → Prop} [DecidablePred O] (hO : ∀ x, g_cell μ x → (O x → μ 67 x.toNat = 1) ∧ (¬ O x → μ 67 x.toNat = 0)) {a : Int} (ha : g_cell μ a) : ∃ Fc qc, (∀ j, j < 100 → Fc j = (bfs (g_nb μ) O a).1 j) ∧ Cl PT 89 [mR 66, mI a] (mkh μ c s) (fun r => r = (some (some (mI (((bfs (g_nb μ) O a).2.2 : Nat) : Int))), mkh (m_upd (m_upd μ 68 Fc) 69 qc) c s)) := by
  refine Cl.ex2 (g := fun Fc qc => (some (some (mI (((bfs (g_nb μ) O a).2.2 : Nat) : Int))), mkh (m_upd (m_upd μ 68 Fc) 69 qc) c s)) ?_
  have hab := g_cell_b hL ha
  refine ⟨_, PT_89, Nat.le_of_ble_eq_true rfl, ?_⟩
  show Rn PT none kX10_floodFrom 0 [some (mR 66), some (mI (a)), none, none, none, none, none] [] (mkh μ c s) _
  refine rn_aload_n (k' := 1) rfl rfl rfl ?_
  refine rn_getR (k' := 2) rfl rfl K0_66 (by decide) rfl R0_66_2 ?_
  refine rn_iconst (k' := 3) rfl rfl ?_
  refine rn_callP (k' := 4) (y := 275) (vs := [mR 68, mI (-1)]) (S' := []) (v := none) (h' := mkh (m_upd μ 68 (fl (fun _ => -1) (μ 68) 100)) c s) rfl rfl rfl (c_fill K0_68 (by decide)) ?_
  show Rn PT none kX10_floodFrom 4 [some (mR 66), some (mI (a)), none, none, none, none, none] [] (mkh (m_upd μ 68 (fl (fun _ => -1) (μ 68) 100)) c s) _
  refine rn_aload_n (k' := 5) rfl rfl rfl ?_
  refine rn_getR (k' := 6) rfl rfl K0_66 (by decide) rfl R0_66_2 ?_
  refine rn_iload_n (k' := 7) rfl rfl rfl ?_
  refine rn_iconst (k' := 8) rfl rfl ?_
  refine rn_iastore (k' := 9) rfl rfl K0_68 (by omega) (by omega) ?_
  refine rn_aload_n (k' := 10) rfl rfl rfl ?_
  refine rn_getR (k' := 11) rfl rfl K0_66 (by decide) rfl R0_66_3 ?_
  refine rn_iconst (k' := 12) rfl rfl ?_
  refine rn_iload_n (k' := 13) rfl rfl rfl ?_
  refine rn_iastore (k' := 14) rfl rfl K0_69 (by omega) (by omega) ?_
  refine rn_iconst (k' := 15) rfl rfl ?_
  refine rn_istore_n (k' := 16) (L' := [some (mR 66), some (mI (a)), some (mI (1)), none, none, none, none]) rfl rfl (Nat.le_of_ble_eq_true rfl) rfl ?_
  refine rn_iconst (k' := 17) rfl rfl ?_
  refine rn_istore_n (k' := 18) (L' := [some (mR 66), some (mI (a)), some (mI (1)), some (mI (0)), none, none, none]) rfl rfl (Nat.le_of_ble_eq_true rfl) rfl ?_
  show Rn PT none kX10_floodFrom 18 [some (mR 66), some (mI (a)), some (mI (1)), some (mI (0)), none, none, none] [] (mkh (m_set (m_set (m_upd μ 68 (fl (fun _ => -1) (μ 68) 100)) 68 ((a).toNat) (0)) 69 0 (a)) c s) _
  rw [set_upd_eq (a := 68), set_is_upd (a := 69)]
  refine l_flood hL hO ha 100 0 _ _ 1 _ _ _ _ _ rfl rfl rfl rfl ⟨?_, ?_⟩
  · intro j hj
    show fs _ a.toNat 0 j = if j = a.toNat then 0 else -1
    unfold fs
    by_cases e : j = a.toNat
    · rw [if_pos e, if_pos e]
    · rw [if_neg e, if_neg e, fl_lt hj]
  · intro j hj
    have hj0 : j = 0 := Nat.lt_one_iff.mp hj
    subst hj0
    show fs _ 0 a 0 = a
    exact fs_eq
set_option maxHeartbeats 4000000 in
theorem c_reachFrom {μ : Nat → Nat → Int} {c s : Nat} (hL : I_land μ) {a t w : Int} (ha : g_cell μ a) (hw : 0 ≤ w ∧ w ≤ 1000) : ∃ O1 Fc qc, (g_stand μ a t w → ∀ j, j < 100 → Fc j = (bfs (g_nb μ) (fun x => g_stand μ x t w) a).1 j) ∧ Cl PT 90 [mR 66, mI a, mI t, mI w] (mkh μ c s) (fun r => r = (some (some (mI (g_reach μ a t w))), mkh (m_upd (m_upd (m_upd μ 67 O1) 68 Fc) 69 qc) c s)) := by
  have hL_ := hL
  obtain ⟨lc, lr, le, lm, lw, lh, lwo, lwd, q0, q1, q2, q3, q4, q8, q499, q500, lth, lG, lT, lW, -⟩ := hL_
  have hab := g_cell_b hL ha
  have hop := open_ok (t := t) (w := w) a ha
  have e := td10 hab.1
  by_cases hst : g_stand μ a t w
  · have ho := hop.1 hst
    obtain ⟨Fc, qc, hF, hcl⟩ := c_floodFrom (μ := m_upd μ 67 (fl (fun j : Nat => if g_stand μ (j : Int) t w then 1 else 0) (μ 67) (10 * μ 6 9).toNat)) (c := c) (s := s) (hL.upd rfl) (O := fun x => g_stand μ x t w) (fun x hx => open_ok x hx) (a := a) ha
    have eN : g_nb (m_upd μ 67 (fl (fun j : Nat => if g_stand μ (j : Int) t w then 1 else 0) (μ 67) (10 * μ 6 9).toNat)) = g_nb μ := rfl
    rw [eN] at hF hcl
    refine ⟨fl (fun j : Nat => if g_stand μ (j : Int) t w then 1 else 0) (μ 67) (10 * μ 6 9).toNat, Fc, qc, fun _ => hF, ?_⟩
    refine ⟨_, PT_90, Nat.le_of_ble_eq_true rfl, ?_⟩
    show Rn PT none kX10_reachFrom 0 [some (mR 66), some (mI (a)), some (mI (t)), some (mI (w))] [] (mkh μ c s) _
    refine rn_aload_n (k' := 1) rfl rfl rfl ?_
    refine rn_iload_n (k' := 2) rfl rfl rfl ?_
    refine rn_iload_n (k' := 3) rfl rfl rfl ?_
    refine rn_callP (k' := 4) (y := 87) (vs := [mR 66, mI (t), mI (w)]) (S' := []) (v := none) (h' := mkh (m_upd μ 67 (fl (fun j : Nat => if g_stand μ (j : Int) t w then 1 else 0) (μ 67) (10 * μ 6 9).toNat)) c s) rfl rfl rfl (c_X10_openFor (hL) (by omega)) ?_
    show Rn PT none kX10_reachFrom 4 [some (mR 66), some (mI (a)), some (mI (t)), some (mI (w))] [] (mkh (m_upd μ 67 (fl (fun j : Nat => if g_stand μ (j : Int) t w then 1 else 0) (μ 67) (10 * μ 6 9).toNat)) c s) _
    refine rn_aload_n (k' := 5) rfl rfl rfl ?_
    refine rn_getR (k' := 6) rfl rfl K0_66 (by decide) rfl R0_66_1 ?_
    refine rn_iload_n (k' := 7) rfl rfl rfl ?_
    refine rn_zaload (k' := 8) rfl rfl K0_67 (by omega) (by omega) ?_
    show Rn PT none kX10_reachFrom 8 [some (mR 66), some (mI (a)), some (mI (t)), some (mI (w))] [mI ((fl (fun j : Nat => if g_stand μ (j : Int) t w then 1 else 0) (μ 67) (10 * μ 6 9).toNat) ((a).toNat))] (mkh (m_upd μ 67 (fl (fun j : Nat => if g_stand μ (j : Int) t w then 1 else 0) (μ 67) (10 * μ 6 9).toNat)) c s) _
    refine rn_if_eq (k' := 9) rfl rfl (fun hc1 => ?_) (fun hc1 => ?_)
    · exfalso; omega
    · skip
      refine rn_aload_n (k' := 10) rfl rfl rfl ?_
      refine rn_iload_n (k' := 11) rfl rfl rfl ?_
      refine rn_callP (k' := 12) (y := 89) (vs := [mR 66, mI (a)]) (S' := []) (v := some (mI ((((bfs (g_nb μ) (fun x => g_stand μ x t w) a).2.2 : Nat) : Int)))) (h' := mkh (m_upd (m_upd (m_upd μ 67 (fl (fun j : Nat => if g_stand μ (j : Int) t w then 1 else 0) (μ 67) (10 * μ 6 9).toNat)) 68 Fc) 69 qc) c s) rfl rfl rfl (hcl) ?_
      show Rn PT none kX10_reachFrom 12 [some (mR 66), some (mI (a)), some (mI (t)), some (mI (w))] [mI ((((bfs (g_nb μ) (fun x => g_stand μ x t w) a).2.2 : Nat) : Int))] (mkh (m_upd (m_upd (m_upd μ 67 (fl (fun j : Nat => if g_stand μ (j : Int) t w then 1 else 0) (μ 67) (10 * μ 6 9).toNat)) 68 Fc) 69 qc) c s) _
      refine rn_goto rfl ?_
      refine rn_iret rfl (Or.inl rfl) ?_
      rw [g_reach_pos hst]
  · have ho := hop.2 hst
    have h1 : m_upd (m_upd μ 67 (fl (fun j : Nat => if g_stand μ (j : Int) t w then 1 else 0) (μ 67) (10 * μ 6 9).toNat)) 68 (μ 68) = m_upd μ 67 (fl (fun j : Nat => if g_stand μ (j : Int) t w then 1 else 0) (μ 67) (10 * μ 6 9).toNat) := upd_self (μ := m_upd μ 67 (fl (fun j : Nat => if g_stand μ (j : Int) t w then 1 else 0) (μ 67) (10 * μ 6 9).toNat)) (a := 68)
    have h2 : m_upd (m_upd μ 67 (fl (fun j : Nat => if g_stand μ (j : Int) t w then 1 else 0) (μ 67) (10 * μ 6 9).toNat)) 69 (μ 69) = m_upd μ 67 (fl (fun j : Nat => if g_stand μ (j : Int) t w then 1 else 0) (μ 67) (10 * μ 6 9).toNat) := upd_self (μ := m_upd μ 67 (fl (fun j : Nat => if g_stand μ (j : Int) t w then 1 else 0) (μ 67) (10 * μ 6 9).toNat)) (a := 69)
    refine ⟨fl (fun j : Nat => if g_stand μ (j : Int) t w then 1 else 0) (μ 67) (10 * μ 6 9).toNat, μ 68, μ 69, fun z => absurd z hst, ?_⟩
    rw [h1, h2]
    refine ⟨_, PT_90, Nat.le_of_ble_eq_true rfl, ?_⟩
    show Rn PT none kX10_reachFrom 0 [some (mR 66), some (mI (a)), some (mI (t)), some (mI (w))] [] (mkh μ c s) _
    refine rn_aload_n (k' := 1) rfl rfl rfl ?_
    refine rn_iload_n (k' := 2) rfl rfl rfl ?_
    refine rn_iload_n (k' := 3) rfl rfl rfl ?_
    refine rn_callP (k' := 4) (y := 87) (vs := [mR 66, mI (t), mI (w)]) (S' := []) (v := none) (h' := mkh (m_upd μ 67 (fl (fun j : Nat => if g_stand μ (j : Int) t w then 1 else 0) (μ 67) (10 * μ 6 9).toNat)) c s) rfl rfl rfl (c_X10_openFor (hL) (by omega)) ?_
    show Rn PT none kX10_reachFrom 4 [some (mR 66), some (mI (a)), some (mI (t)), some (mI (w))] [] (mkh (m_upd μ 67 (fl (fun j : Nat => if g_stand μ (j : Int) t w then 1 else 0) (μ 67) (10 * μ 6 9).toNat)) c s) _
    refine rn_aload_n (k' := 5) rfl rfl rfl ?_
    refine rn_getR (k' := 6) rfl rfl K0_66 (by decide) rfl R0_66_1 ?_
    refine rn_iload_n (k' := 7) rfl rfl rfl ?_
    refine rn_zaload (k' := 8) rfl rfl K0_67 (by omega) (by omega) ?_
    show Rn PT none kX10_reachFrom 8 [some (mR 66), some (mI (a)), some (mI (t)), some (mI (w))] [mI ((fl (fun j : Nat => if g_stand μ (j : Int) t w then 1 else 0) (μ 67) (10 * μ 6 9).toNat) ((a).toNat))] (mkh (m_upd μ 67 (fl (fun j : Nat => if g_stand μ (j : Int) t w then 1 else 0) (μ 67) (10 * μ 6 9).toNat)) c s) _
    refine rn_if_eq (k' := 9) rfl rfl (fun hc1 => ?_) (fun hc1 => ?_)
    · skip
      refine rn_iconst (k' := 14) rfl rfl ?_
      refine rn_iret rfl (Or.inl rfl) ?_
      rw [g_reach_neg hst]
    · exfalso; omega
set_option maxHeartbeats 4000000 in
theorem c_stepsBetween {μ : Nat → Nat → Int} {c s : Nat} (hL : I_land μ) {a b t w : Int} (ha : g_cell μ a) (hb : g_cell μ b) (hw : 0 ≤ w ∧ w ≤ 1000) : ∃ O1 Fc qc, (g_stand μ a t w → ∀ j, j < 100 → Fc j = (bfs (g_nb μ) (fun x => g_stand μ x t w) a).1 j) ∧ Cl PT 91 [mR 66, mI a, mI b, mI t, mI w] (mkh μ c s) (fun r => r = (some (some (mI (g_steps μ a b t w))), mkh (m_upd (m_upd (m_upd μ 67 O1) 68 Fc) 69 qc) c s)) := by
  have hL_ := hL
  obtain ⟨lc, lr, le, lm, lw, lh, lwo, lwd, q0, q1, q2, q3, q4, q8, q499, q500, lth, lG, lT, lW, -⟩ := hL_
  have hab := g_cell_b hL ha
  have hbb := g_cell_b hL hb
  have hok := (gbfs_ok hL (t := t) (w := w) ha).1
  obtain ⟨O1, Fc, qc, hF, hcl⟩ := c_reachFrom (c := c) (s := s) hL (t := t) ha hw
  refine ⟨O1, Fc, qc, hF, ?_⟩
  by_cases hst : g_stand μ a t w
  · have hr := g_reach_pos hst
    refine ⟨_, PT_91, Nat.le_of_ble_eq_true rfl, ?_⟩
    show Rn PT none kX10_stepsBetween 0 [some (mR 66), some (mI (a)), some (mI (b)), some (mI (t)), some (mI (w))] [] (mkh μ c s) _
    refine rn_aload_n (k' := 1) rfl rfl rfl ?_
    refine rn_iload_n (k' := 2) rfl rfl rfl ?_
    refine rn_iload_n (k' := 3) rfl rfl rfl ?_
    refine rn_iload (k' := 4) rfl rfl rfl ?_
    refine rn_callP (k' := 5) (y := 90) (vs := [mR 66, mI (a), mI (t), mI (w)]) (S' := []) (v := some (mI (g_reach μ a t w))) (h' := mkh (m_upd (m_upd (m_upd μ 67 O1) 68 Fc) 69 qc) c s) rfl rfl rfl (hcl) ?_
    show Rn PT none kX10_stepsBetween 5 [some (mR 66), some (mI (a)), some (mI (b)), some (mI (t)), some (mI (w))] [mI (g_reach μ a t w)] (mkh (m_upd (m_upd (m_upd μ 67 O1) 68 Fc) 69 qc) c s) _
    refine rn_if_le (k' := 6) rfl rfl (fun hc1 => ?_) (fun hc1 => ?_)
    · exfalso; omega
    · skip
      refine rn_aload_n (k' := 7) rfl rfl rfl ?_
      refine rn_getR (k' := 8) rfl rfl K0_66 (by decide) rfl R0_66_2 ?_
      refine rn_iload_n (k' := 9) rfl rfl rfl ?_
      refine rn_iaload (k' := 10) rfl rfl K0_68 (by omega) (by omega) ?_
      show Rn PT none kX10_stepsBetween 10 [some (mR 66), some (mI (a)), some (mI (b)), some (mI (t)), some (mI (w))] [mI (Fc ((b).toNat))] (mkh (m_upd (m_upd (m_upd μ 67 O1) 68 Fc) 69 qc) c s) _
      refine rn_goto rfl ?_
      refine rn_iret rfl (Or.inl rfl) ?_
      rw [g_steps_pos hst, hF hst b.toNat (by omega)]
  · have hr := g_reach_neg hst
    refine ⟨_, PT_91, Nat.le_of_ble_eq_true rfl, ?_⟩
    show Rn PT none kX10_stepsBetween 0 [some (mR 66), some (mI (a)), some (mI (b)), some (mI (t)), some (mI (w))] [] (mkh μ c s) _
    refine rn_aload_n (k' := 1) rfl rfl rfl ?_
    refine rn_iload_n (k' := 2) rfl rfl rfl ?_
    refine rn_iload_n (k' := 3) rfl rfl rfl ?_
    refine rn_iload (k' := 4) rfl rfl rfl ?_
    refine rn_callP (k' := 5) (y := 90) (vs := [mR 66, mI (a), mI (t), mI (w)]) (S' := []) (v := some (mI (g_reach μ a t w))) (h' := mkh (m_upd (m_upd (m_upd μ 67 O1) 68 Fc) 69 qc) c s) rfl rfl rfl (hcl) ?_
    show Rn PT none kX10_stepsBetween 5 [some (mR 66), some (mI (a)), some (mI (b)), some (mI (t)), some (mI (w))] [mI (g_reach μ a t w)] (mkh (m_upd (m_upd (m_upd μ 67 O1) 68 Fc) 69 qc) c s) _
    refine rn_if_le (k' := 6) rfl rfl (fun hc1 => ?_) (fun hc1 => ?_)
    · skip
      refine rn_iconst (k' := 12) rfl rfl ?_
      refine rn_iret rfl (Or.inl rfl) ?_
      rw [g_steps_neg hst]
    · exfalso; omega
