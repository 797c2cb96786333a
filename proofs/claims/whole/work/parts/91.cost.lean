variable {N : Int}
/-! ===== printed by wip/whole/gen91.py: risks; Dijkstra of the class ===== -/
def g_rk (μ : Nat → Nat → Int) (t v x y : Int) : Int := v + (ab (μ 7 x.toNat - μ 7 y.toNat) * t).tdiv 10
theorem mul_b {x t : Int} (hx : 0 ≤ x ∧ x ≤ 99) (ht : 0 ≤ t ∧ t ≤ 99) : 0 ≤ x * t ∧ x * t ≤ 9801 := by
  refine ⟨Int.mul_nonneg hx.1 ht.1, ?_⟩
  have h1 := Int.mul_le_mul hx.2 ht.2 ht.1 (by decide)
  omega
theorem rk_mul {μ : Nat → Nat → Int} (hL : I_land μ) {t : Int} (ht : 0 ≤ t ∧ t ≤ 99) (x y : Int) : 0 ≤ ab (μ 7 x.toNat - μ 7 y.toNat) * t ∧ ab (μ 7 x.toNat - μ 7 y.toNat) * t ≤ 9801 := by
  obtain ⟨-, -, -, -, -, -, -, -, -, -, -, -, -, -, -, -, -, g, -⟩ := hL
  have h1 := g x.toNat
  have h2 := g y.toNat
  have h3 := ab_b (μ 7 x.toNat - μ 7 y.toNat)
  exact mul_b (by omega) ht
theorem g_rk_b {μ : Nat → Nat → Int} (hL : I_land μ) {t v : Int} (ht : 0 ≤ t ∧ t ≤ 99) (hv : 0 ≤ v ∧ v ≤ 99) (x y : Int) : 0 ≤ g_rk μ t v x y ∧ g_rk μ t v x y ≤ 1079 := by
  have h := rk_mul hL ht x y
  unfold g_rk
  rw [Int.tdiv_eq_ediv_of_nonneg h.1]
  omega
theorem g_rk_sym {μ : Nat → Nat → Int} {t v : Int} (x y : Int) : g_rk μ t v x y = g_rk μ t v y x := by
  have e : ab (μ 7 x.toNat - μ 7 y.toNat) = ab (μ 7 y.toNat - μ 7 x.toNat) := by
    have h1 := ab_b (μ 7 x.toNat - μ 7 y.toNat)
    have h2 := ab_b (μ 7 y.toNat - μ 7 x.toNat)
    omega
  unfold g_rk
  rw [e]
theorem g_rk_rows {μ ν : Nat → Nat → Int} (e7 : ν 7 = μ 7) : g_rk ν = g_rk μ := by
  delta g_rk
  rw [e7]
def gW (μ : Nat → Nat → Int) (t v x y : Int) : Int := 1000 * g_rk μ t v x y + 1
theorem gW_rows {μ ν : Nat → Nat → Int} (e7 : ν 7 = μ 7) : gW ν = gW μ := by
  delta gW
  rw [g_rk_rows e7]
theorem gW_b {μ : Nat → Nat → Int} (hL : I_land μ) {t v : Int} (ht : 0 ≤ t ∧ t ≤ 99) (hv : 0 ≤ v ∧ v ≤ 99) (x y : Int) : 1 ≤ gW μ t v x y ∧ gW μ t v x y ≤ 1079001 := by
  have h := g_rk_b hL ht hv x y
  unfold gW
  omega
theorem gW_sym {μ : Nat → Nat → Int} {t v : Int} (x y : Int) : gW μ t v x y = gW μ t v y x := by
  unfold gW
  rw [g_rk_sym]
/-- Bellman's equation of the moor -/
abbrev gBE (μ : Nat → Nat → Int) (a t w v : Int) (C : Nat → Int) : Prop := BE (g_nb μ) (fun z => g_stand μ z t w) (g_cell μ) (gW μ t v) a C
abbrev gDJ (μ : Nat → Nat → Int) (a t w v : Int) (r : Nat) (C Z : Nat → Int) : Prop := DJ (g_nb μ) (fun z => g_stand μ z t w) (g_cell μ) (gW μ t v) a (10 * μ 6 9).toNat r C Z
theorem cell_span {μ : Nat → Nat → Int} {x : Int} (h : g_cell μ x) : x.toNat < (10 * μ 6 9).toNat := by
  obtain ⟨h1, h2, h3⟩ := h
  rw [(td10 h1).1] at h3
  omega
theorem nb_sym2 {μ : Nat → Nat → Int} (hL : I_land μ) (x : Int) (d : Nat) (hx : g_cell μ x) (hd : d < 4) (h : ¬ g_nb μ x d = -1) : ∃ e : Nat, e < 4 ∧ g_nb μ (g_nb μ x d) e = x := nb_sym hL hx hd h
set_option maxHeartbeats 2000000 in
theorem c_X10_riskOf {μ : Nat → Nat → Int} {c s : Nat} (hL : I_land μ) {a b t v : Int} (ht : 0 ≤ t ∧ t ≤ 99) (hv : 0 ≤ v ∧ v ≤ 99) (ha : 0 ≤ a ∧ a < 100) (hb : 0 ≤ b ∧ b < 100) : Cl PT 93 [mR 66, mI a, mI b, mI t, mI v] (mkh μ c s) (fun r => r = (some (some (mI (g_rk μ t v a b))), mkh (μ) c s)) := by
  have hL_ := hL
  obtain ⟨lc, lr, le, lm, lw, lh, lwo, lwd, q0, q1, q2, q3, q4, q8, q499, q500, lth, lG, lT, lW, -⟩ := hL_
  have hmu := rk_mul hL ht a b
  have htd : (ab (μ 7 a.toNat - μ 7 b.toNat) * t).tdiv 10 = ab (μ 7 a.toNat - μ 7 b.toNat) * t / 10 := Int.tdiv_eq_ediv_of_nonneg hmu.1
  refine ⟨_, PT_93, Nat.le_of_ble_eq_true rfl, ?_⟩
  show Rn PT none kX10_riskOf 0 [some (mR 66), some (mI (a)), some (mI (b)), some (mI (t)), some (mI (v))] [] (mkh μ c s) _
  refine rn_iload (k' := 1) rfl rfl rfl ?_
  refine rn_aload_n (k' := 2) rfl rfl rfl ?_
  refine rn_getR (k' := 3) rfl rfl K0_66 (by decide) rfl R0_66_0 ?_
  refine rn_getR (k' := 4) rfl rfl K0_6 (by decide) rfl R0_6_0 ?_
  refine rn_iload_n (k' := 5) rfl rfl rfl ?_
  refine rn_iaload (k' := 6) rfl rfl K0_7 (by omega) (by omega) ?_
  have hb1 := lG ((a).toNat)
  refine rn_aload_n (k' := 7) rfl rfl rfl ?_
  refine rn_getR (k' := 8) rfl rfl K0_66 (by decide) rfl R0_66_0 ?_
  refine rn_getR (k' := 9) rfl rfl K0_6 (by decide) rfl R0_6_0 ?_
  refine rn_iload_n (k' := 10) rfl rfl rfl ?_
  refine rn_iaload (k' := 11) rfl rfl K0_7 (by omega) (by omega) ?_
  have hb2 := lG ((b).toNat)
  refine rn_isub (k' := 12) rfl rfl (by omega) ?_
  refine rn_nat (k' := 13) (S' := [mI (if 0 ≤ ((μ 7 ((a).toNat)) - (μ 7 ((b).toNat))) then ((μ 7 ((a).toNat)) - (μ 7 ((b).toNat))) else w32 (0 - ((μ 7 ((a).toNat)) - (μ 7 ((b).toNat))))), mI (v)]) (h' := mkh μ c s) rfl rfl rfl ?_
  rw [abs_ab ((μ 7 ((a).toNat)) - (μ 7 ((b).toNat))) (by omega)]
  have hab3 := ab_b ((μ 7 ((a).toNat)) - (μ 7 ((b).toNat)))
  refine rn_iload_n (k' := 14) rfl rfl rfl ?_
  refine rn_imul (k' := 15) rfl rfl (by omega) ?_
  refine rn_bipush (k' := 16) rfl rfl ?_
  refine rn_idiv (k' := 17) rfl rfl (by omega) (tdiv_rng (by omega) (by omega)) ?_
  refine rn_iadd (k' := 18) rfl rfl (by omega) ?_
  refine rn_iret rfl (Or.inl rfl) ?_
  rfl
set_option maxHeartbeats 4000000 in
theorem l_cheapest {μ : Nat → Nat → Int} {c s : Nat} (hL : I_land μ) (h0 : ∀ j, j < (10 * μ 6 9).toNat → 0 ≤ μ 70 j) : ∀ (d n : Nat) (b : Int) (l : Int) (k : Int), b = ba (djf (μ 70) (μ 71)) n → l = lst (djf (μ 70) (μ 71)) (ba (djf (μ 70) (μ 71)) n) → k = (n : Int) → (n : Int) + d = 10 * μ 6 9 → Rn PT none kX10_cheapest 6 [some (mR 66), some (mI (b)), some (mI (l)), some (mI (k))] [] (mkh μ c s) (fun r => r = (some (some (mI (ba (djf (μ 70) (μ 71)) (10 * μ 6 9).toNat))), mkh μ c s)) := by
  have hL_ := hL
  obtain ⟨lc, lr, le, lm, lw, lh, lwo, lwd, q0, q1, q2, q3, q4, q8, q499, q500, lth, lG, lT, lW, -⟩ := hL_
  intro d
  induction d with
  | zero =>
    intro n b l k eb el ek hn 
    subst eb el ek
    refine rn_iload_n (k' := 7) rfl rfl rfl ?_
    refine rn_aload_n (k' := 8) rfl rfl rfl ?_
    refine rn_getR (k' := 9) rfl rfl K0_66 (by decide) rfl R0_66_0 ?_
    refine rn_callP (k' := 10) (y := 29) (vs := [mR 6]) (S' := [mI ((n : Int))]) (v := some (mI (10 * μ 6 9))) (h' := mkh μ c s) rfl rfl rfl (c_X3_span (μ := μ) (by show 0 ≤ μ 6 9 ∧ μ 6 9 ≤ 10; omega)) ?_
    show Rn PT none kX10_cheapest 10 [some (mR 66), some (mI (ba (djf (μ 70) (μ 71)) n)), some (mI (lst (djf (μ 70) (μ 71)) (ba (djf (μ 70) (μ 71)) n))), some (mI ((n : Int)))] [mI (10 * μ 6 9), mI ((n : Int))] (mkh μ c s) _
    refine rn_icmp_ge (k' := 11) rfl rfl (fun hc1 => ?_) (fun hc1 => ?_)
    · skip
      refine rn_iload_n (k' := 32) rfl rfl rfl ?_
      refine rn_iret rfl (Or.inl rfl) ?_
      rw [show (10 * μ 6 9).toNat = n by omega]
    · exfalso; omega
  | succ d ih =>
    intro n b l k eb el ek hn 
    subst eb el ek
    have z0 := h0 n (by omega)
    have bb := ba_b (f := (djf (μ 70) (μ 71))) n
    have hl : (ba (djf (μ 70) (μ 71)) n = -1 ∧ lst (djf (μ 70) (μ 71)) (ba (djf (μ 70) (μ 71)) n) = 1000000000) ∨ (¬ ba (djf (μ 70) (μ 71)) n = -1 ∧ lst (djf (μ 70) (μ 71)) (ba (djf (μ 70) (μ 71)) n) = (djf (μ 70) (μ 71)) (ba (djf (μ 70) (μ 71)) n).toNat ∧ (djf (μ 70) (μ 71)) (ba (djf (μ 70) (μ 71)) n).toNat < 1000000000) := by
      by_cases e : ba (djf (μ 70) (μ 71)) n = -1
      · rw [e]; exact Or.inl ⟨rfl, rfl⟩
      · refine Or.inr ⟨e, lst_p e, ?_⟩
        unfold djf
        split <;> omega
    have hf : (¬ (djf (μ 70) (μ 71)) n = -1 ↔ (μ 71 n = 0 ∧ μ 70 n < 1000000000)) ∧ ((μ 71 n = 0 ∧ μ 70 n < 1000000000) → (djf (μ 70) (μ 71)) n = μ 70 n) := by
      unfold djf
      by_cases e : μ 71 n = 0 ∧ μ 70 n < 1000000000
      · rw [if_pos e]; exact ⟨⟨fun _ => e, fun _ => by omega⟩, fun _ => rfl⟩
      · rw [if_neg e]; exact ⟨⟨fun z => absurd rfl z, fun z => absurd z e⟩, fun z => absurd z e⟩
    refine rn_iload_n (k' := 7) rfl rfl rfl ?_
    refine rn_aload_n (k' := 8) rfl rfl rfl ?_
    refine rn_getR (k' := 9) rfl rfl K0_66 (by decide) rfl R0_66_0 ?_
    refine rn_callP (k' := 10) (y := 29) (vs := [mR 6]) (S' := [mI ((n : Int))]) (v := some (mI (10 * μ 6 9))) (h' := mkh μ c s) rfl rfl rfl (c_X3_span (μ := μ) (by show 0 ≤ μ 6 9 ∧ μ 6 9 ≤ 10; omega)) ?_
    show Rn PT none kX10_cheapest 10 [some (mR 66), some (mI (ba (djf (μ 70) (μ 71)) n)), some (mI (lst (djf (μ 70) (μ 71)) (ba (djf (μ 70) (μ 71)) n))), some (mI ((n : Int)))] [mI (10 * μ 6 9), mI ((n : Int))] (mkh μ c s) _
    refine rn_icmp_ge (k' := 11) rfl rfl (fun hc1 => ?_) (fun hc1 => ?_)
    · exfalso; omega
    · skip
      refine rn_aload_n (k' := 12) rfl rfl rfl ?_
      refine rn_getR (k' := 13) rfl rfl K0_66 (by decide) rfl R0_66_5 ?_
      refine rn_iload_n (k' := 14) rfl rfl rfl ?_
      refine rn_zaload (k' := 15) rfl rfl K0_71 (by omega) (by omega) ?_
      show Rn PT none kX10_cheapest 15 [some (mR 66), some (mI (ba (djf (μ 70) (μ 71)) n)), some (mI (lst (djf (μ 70) (μ 71)) (ba (djf (μ 70) (μ 71)) n))), some (mI ((n : Int)))] [mI (μ 71 (n))] (mkh μ c s) _
      refine rn_if_ne (k' := 16) rfl rfl (fun hc2 => ?_) (fun hc2 => ?_)
      · skip
        refine rn_iinc (k' := 30) (L' := [some (mR 66), some (mI (ba (djf (μ 70) (μ 71)) n)), some (mI (lst (djf (μ 70) (μ 71)) (ba (djf (μ 70) (μ 71)) n))), some (mI ((n : Int) + 1))]) rfl rfl rfl (by omega) rfl ?_
        refine rn_goto rfl ?_
        have hp := ba_neg (f := (djf (μ 70) (μ 71))) (n := n) (fun z => by have z1 := hf.1.mp z.1; have z2 := hf.2 z1; omega)
        exact ih (n + 1) _ _ _ (by rw [hp]) (by rw [hp]) (by omega) (by omega)
      · skip
        refine rn_aload_n (k' := 17) rfl rfl rfl ?_
        refine rn_getR (k' := 18) rfl rfl K0_66 (by decide) rfl R0_66_4 ?_
        refine rn_iload_n (k' := 19) rfl rfl rfl ?_
        refine rn_iaload (k' := 20) rfl rfl K0_70 (by omega) (by omega) ?_
        show Rn PT none kX10_cheapest 20 [some (mR 66), some (mI (ba (djf (μ 70) (μ 71)) n)), some (mI (lst (djf (μ 70) (μ 71)) (ba (djf (μ 70) (μ 71)) n))), some (mI ((n : Int)))] [mI (μ 70 (n))] (mkh μ c s) _
        refine rn_iload_n (k' := 21) rfl rfl rfl ?_
        refine rn_icmp_ge (k' := 22) rfl rfl (fun hc3 => ?_) (fun hc3 => ?_)
        · skip
          refine rn_iinc (k' := 30) (L' := [some (mR 66), some (mI (ba (djf (μ 70) (μ 71)) n)), some (mI (lst (djf (μ 70) (μ 71)) (ba (djf (μ 70) (μ 71)) n))), some (mI ((n : Int) + 1))]) rfl rfl rfl (by omega) rfl ?_
          refine rn_goto rfl ?_
          have hp := ba_neg (f := (djf (μ 70) (μ 71))) (n := n) (fun z => by have z1 := hf.1.mp z.1; have z2 := hf.2 z1; omega)
          exact ih (n + 1) _ _ _ (by rw [hp]) (by rw [hp]) (by omega) (by omega)
        · skip
          refine rn_aload_n (k' := 23) rfl rfl rfl ?_
          refine rn_getR (k' := 24) rfl rfl K0_66 (by decide) rfl R0_66_4 ?_
          refine rn_iload_n (k' := 25) rfl rfl rfl ?_
          refine rn_iaload (k' := 26) rfl rfl K0_70 (by omega) (by omega) ?_
          show Rn PT none kX10_cheapest 26 [some (mR 66), some (mI (ba (djf (μ 70) (μ 71)) n)), some (mI (lst (djf (μ 70) (μ 71)) (ba (djf (μ 70) (μ 71)) n))), some (mI ((n : Int)))] [mI (μ 70 (n))] (mkh μ c s) _
          refine rn_istore_n (k' := 27) (L' := [some (mR 66), some (mI (ba (djf (μ 70) (μ 71)) n)), some (mI (μ 70 (n))), some (mI ((n : Int)))]) rfl rfl (Nat.le_of_ble_eq_true rfl) rfl ?_
          refine rn_iload_n (k' := 28) rfl rfl rfl ?_
          refine rn_istore_n (k' := 29) (L' := [some (mR 66), some (mI ((n : Int))), some (mI (μ 70 (n))), some (mI ((n : Int)))]) rfl rfl (Nat.le_of_ble_eq_true rfl) rfl ?_
          refine rn_iinc (k' := 30) (L' := [some (mR 66), some (mI ((n : Int))), some (mI (μ 70 (n))), some (mI ((n : Int) + 1))]) rfl rfl rfl (by omega) rfl ?_
          refine rn_goto rfl ?_
          have hp := ba_pos (f := (djf (μ 70) (μ 71))) (n := n) ⟨hf.1.mpr (by omega), by have := hf.2 (by omega); omega⟩
          have hfn := hf.2 (by omega)
          exact ih (n + 1) _ _ _ (by rw [hp]) (by rw [hp, lst_p (by omega)]; exact hfn.symm) (by omega) (by omega)
set_option maxHeartbeats 2000000 in
theorem c_X10_cheapest {μ : Nat → Nat → Int} {c s : Nat} (hL : I_land μ) (h0 : ∀ j, j < (10 * μ 6 9).toNat → 0 ≤ μ 70 j) : Cl PT 96 [mR 66] (mkh μ c s) (fun r => r = (some (some (mI (ba (djf (μ 70) (μ 71)) (10 * μ 6 9).toNat))), mkh (μ) c s)) := by
  have hL_ := hL
  obtain ⟨lc, lr, le, lm, lw, lh, lwo, lwd, q0, q1, q2, q3, q4, q8, q499, q500, lth, lG, lT, lW, -⟩ := hL_
  refine ⟨_, PT_96, Nat.le_of_ble_eq_true rfl, ?_⟩
  show Rn PT none kX10_cheapest 0 [some (mR 66), none, none, none] [] (mkh μ c s) _
  refine rn_iconst (k' := 1) rfl rfl ?_
  refine rn_istore_n (k' := 2) (L' := [some (mR 66), some (mI (-1)), none, none]) rfl rfl (Nat.le_of_ble_eq_true rfl) rfl ?_
  refine rn_ldc (k' := 3) rfl rfl ?_
  refine rn_istore_n (k' := 4) (L' := [some (mR 66), some (mI (-1)), some (mI (1000000000)), none]) rfl rfl (Nat.le_of_ble_eq_true rfl) rfl ?_
  refine rn_iconst (k' := 5) rfl rfl ?_
  refine rn_istore_n (k' := 6) (L' := [some (mR 66), some (mI (-1)), some (mI (1000000000)), some (mI (0))]) rfl rfl (Nat.le_of_ble_eq_true rfl) rfl ?_
  exact l_cheapest hL h0 (10 * μ 6 9).toNat 0 _ _ _ rfl rfl rfl (by omega)
set_option maxHeartbeats 4000000 in
theorem l_costFrom_in {μ : Nat → Nat → Int} {c s : Nat} (hL : I_land μ) {a t w v : Int} (ha : g_cell μ a) (ht : 0 ≤ t ∧ t ≤ 99) (hv : 0 ≤ v ∧ v ≤ 99) {x : Int} {r : Nat} {C Z : Nat → Int} (hx : g_cell μ x) (hz : ¬ Z x.toNat = 0) (hC : 0 ≤ C x.toNat ∧ C x.toNat < 1000000000) {Q : MR → Prop} (K : ∀ v6 v7 v8, Rn PT none kX10_costFrom 93 [some (mR 66), some (mI (a)), some (mI (t)), some (mI (v)), some (mI (x)), some (mI ((r : Int))), v6, v7, v8] [] (mkh (m_upd (m_upd μ 70 (rx (g_nb μ) (gW μ t v) Z x C 4)) 71 Z) c s) Q) : ∀ (d n : Nat) (k : Int) (v7 : Option MV) (v8 : Option MV), k = (n : Int) → n + d = 4 → Rn PT none kX10_costFrom 48 [some (mR 66), some (mI (a)), some (mI (t)), some (mI (v)), some (mI (x)), some (mI ((r : Int))), some (mI (k)), v7, v8] [] (mkh (m_upd (m_upd μ 70 (rx (g_nb μ) (gW μ t v) Z x C n)) 71 Z) c s) (Q) := by
  have hL_ := hL
  obtain ⟨lc, lr, le, lm, lw, lh, lwo, lwd, q0, q1, q2, q3, q4, q8, q499, q500, lth, lG, lT, lW, -⟩ := hL_
  have hxb := g_cell_b hL hx
  intro d
  induction d with
  | zero =>
    intro n k v7 v8 ek hn 
    subst ek
    have e4 : n = 4 := by omega
    refine rn_iload (k' := 49) rfl rfl rfl ?_
    refine rn_iconst (k' := 50) rfl rfl ?_
    refine rn_icmp_ge (k' := 51) rfl rfl (fun hc1 => ?_) (fun hc1 => ?_)
    · skip
      rw [e4]
      exact K _ _ _
    · exfalso; omega
  | succ d ih =>
    intro n k v7 v8 ek hn 
    subst ek
    have hN := (g_GR hL).2 x (n : Int) hx (by omega) (by omega)
    have hNb : g_nb μ x (n : Int) = -1 ∨ (0 ≤ g_nb μ x (n : Int) ∧ g_nb μ x (n : Int) < 100) := hN.imp_right (fun z => g_cell_b hL z)
    have hrx := (rx_ok (nb := g_nb μ) (W := (gW μ t v)) (C := C) hz n).2.1 x.toNat hz
    refine rn_iload (k' := 49) rfl rfl rfl ?_
    refine rn_iconst (k' := 50) rfl rfl ?_
    refine rn_icmp_ge (k' := 51) rfl rfl (fun hc1 => ?_) (fun hc1 => ?_)
    · exfalso; omega
    · skip
      refine rn_aload_n (k' := 52) rfl rfl rfl ?_
      refine rn_getR (k' := 53) rfl rfl K0_66 (by decide) rfl R0_66_0 ?_
      refine rn_iload (k' := 54) rfl rfl rfl ?_
      refine rn_iload (k' := 55) rfl rfl rfl ?_
      refine rn_callP (k' := 56) (y := 39) (vs := [mR 6, mI (x), mI ((n : Int))]) (S' := []) (v := some (mI (g_nb μ x (n : Int)))) (h' := mkh (m_upd (m_upd μ 70 (rx (g_nb μ) (gW μ t v) Z x C n)) 71 Z) c s) rfl rfl rfl (k_neighbour (μ := (m_upd (m_upd μ 70 (rx (g_nb μ) (gW μ t v) Z x C n)) 71 Z)) (((hL).upd rfl).upd rfl) (by omega) (by omega)) ?_
      show Rn PT none kX10_costFrom 56 [some (mR 66), some (mI (a)), some (mI (t)), some (mI (v)), some (mI (x)), some (mI ((r : Int))), some (mI ((n : Int))), v7, v8] [mI (g_nb μ x (n : Int))] (mkh (m_upd (m_upd μ 70 (rx (g_nb μ) (gW μ t v) Z x C n)) 71 Z) c s) _
      refine rn_istore (k' := 57) (L' := [some (mR 66), some (mI (a)), some (mI (t)), some (mI (v)), some (mI (x)), some (mI ((r : Int))), some (mI ((n : Int))), some (mI (g_nb μ x (n : Int))), v8]) rfl rfl (Nat.le_of_ble_eq_true rfl) rfl ?_
      refine rn_iload (k' := 58) rfl rfl rfl ?_
      refine rn_iconst (k' := 59) rfl rfl ?_
      refine rn_icmp_eq (k' := 60) rfl rfl (fun hc2 => ?_) (fun hc2 => ?_)
      · skip
        refine rn_iinc (k' := 92) (L' := [some (mR 66), some (mI (a)), some (mI (t)), some (mI (v)), some (mI (x)), some (mI ((r : Int))), some (mI ((n : Int) + 1)), some (mI (g_nb μ x (n : Int))), v8]) rfl rfl rfl (by omega) rfl ?_
        refine rn_goto rfl ?_
        rw [← rx_n (nb := g_nb μ) (W := (gW μ t v)) (Z := Z) (x := x) (C := C) (n := n) (fun z => by have z1 := z.1; have z2 := z.2; omega)]
        exact ih (n + 1) _ _ _ (by omega) (by omega)
      · skip
        refine rn_aload_n (k' := 61) rfl rfl rfl ?_
        refine rn_getR (k' := 62) rfl rfl K0_66 (by decide) rfl R0_66_5 ?_
        refine rn_iload (k' := 63) rfl rfl rfl ?_
        refine rn_zaload (k' := 64) rfl rfl K0_71 (by omega) (by omega) ?_
        show Rn PT none kX10_costFrom 64 [some (mR 66), some (mI (a)), some (mI (t)), some (mI (v)), some (mI (x)), some (mI ((r : Int))), some (mI ((n : Int))), some (mI (g_nb μ x (n : Int))), v8] [mI (Z ((g_nb μ x (n : Int)).toNat))] (mkh (m_upd (m_upd μ 70 (rx (g_nb μ) (gW μ t v) Z x C n)) 71 Z) c s) _
        refine rn_if_ne (k' := 65) rfl rfl (fun hc3 => ?_) (fun hc3 => ?_)
        · skip
          refine rn_iinc (k' := 92) (L' := [some (mR 66), some (mI (a)), some (mI (t)), some (mI (v)), some (mI (x)), some (mI ((r : Int))), some (mI ((n : Int) + 1)), some (mI (g_nb μ x (n : Int))), v8]) rfl rfl rfl (by omega) rfl ?_
          refine rn_goto rfl ?_
          rw [← rx_n (nb := g_nb μ) (W := (gW μ t v)) (Z := Z) (x := x) (C := C) (n := n) (fun z => by have z1 := z.1; have z2 := z.2; omega)]
          exact ih (n + 1) _ _ _ (by omega) (by omega)
        · skip
          refine rn_aload_n (k' := 66) rfl rfl rfl ?_
          refine rn_getR (k' := 67) rfl rfl K0_66 (by decide) rfl R0_66_4 ?_
          refine rn_iload (k' := 68) rfl rfl rfl ?_
          refine rn_iaload (k' := 69) rfl rfl K0_70 (by omega) (by omega) ?_
          show Rn PT none kX10_costFrom 69 [some (mR 66), some (mI (a)), some (mI (t)), some (mI (v)), some (mI (x)), some (mI ((r : Int))), some (mI ((n : Int))), some (mI (g_nb μ x (n : Int))), v8] [mI ((rx (g_nb μ) (gW μ t v) Z x C n) ((x).toNat))] (mkh (m_upd (m_upd μ 70 (rx (g_nb μ) (gW μ t v) Z x C n)) 71 Z) c s) _
          refine rn_aload_n (k' := 70) rfl rfl rfl ?_
          refine rn_iload (k' := 71) rfl rfl rfl ?_
          refine rn_iload (k' := 72) rfl rfl rfl ?_
          refine rn_iload_n (k' := 73) rfl rfl rfl ?_
          refine rn_iload_n (k' := 74) rfl rfl rfl ?_
          have hb4 := g_rk_b hL (t := t) (v := v) (by omega) (by omega) x (g_nb μ x (n : Int))
          refine rn_callP (k' := 75) (y := 93) (vs := [mR 66, mI (x), mI (g_nb μ x (n : Int)), mI (t), mI (v)]) (S' := [mI ((rx (g_nb μ) (gW μ t v) Z x C n) ((x).toNat))]) (v := some (mI (g_rk μ t v x (g_nb μ x (n : Int))))) (h' := mkh (m_upd (m_upd μ 70 (rx (g_nb μ) (gW μ t v) Z x C n)) 71 Z) c s) rfl rfl rfl (by have h := c_X10_riskOf (μ := (m_upd (m_upd μ 70 (rx (g_nb μ) (gW μ t v) Z x C n)) 71 Z)) (c := c) (s := s) (((hL).upd rfl).upd rfl) (a := x) (b := g_nb μ x (n : Int)) (t := t) (v := v) (by omega) (by omega) (by omega) (by omega); rw [g_rk_rows (ν := (m_upd (m_upd μ 70 (rx (g_nb μ) (gW μ t v) Z x C n)) 71 Z)) (μ := μ) rfl] at h; exact h) ?_
          show Rn PT none kX10_costFrom 75 [some (mR 66), some (mI (a)), some (mI (t)), some (mI (v)), some (mI (x)), some (mI ((r : Int))), some (mI ((n : Int))), some (mI (g_nb μ x (n : Int))), v8] [mI (g_rk μ t v x (g_nb μ x (n : Int))), mI ((rx (g_nb μ) (gW μ t v) Z x C n) ((x).toNat))] (mkh (m_upd (m_upd μ 70 (rx (g_nb μ) (gW μ t v) Z x C n)) 71 Z) c s) _
          refine rn_sipush (k' := 76) rfl rfl ?_
          refine rn_imul (k' := 77) rfl rfl (by omega) ?_
          refine rn_iadd (k' := 78) rfl rfl (by omega) ?_
          refine rn_iconst (k' := 79) rfl rfl ?_
          refine rn_iadd (k' := 80) rfl rfl (by omega) ?_
          refine rn_istore (k' := 81) (L' := [some (mR 66), some (mI (a)), some (mI (t)), some (mI (v)), some (mI (x)), some (mI ((r : Int))), some (mI ((n : Int))), some (mI (g_nb μ x (n : Int))), some (mI ((((rx (g_nb μ) (gW μ t v) Z x C n) ((x).toNat)) + ((g_rk μ t v x (g_nb μ x (n : Int))) * 1000)) + 1))]) rfl rfl (Nat.le_of_ble_eq_true rfl) rfl ?_
          refine rn_aload_n (k' := 82) rfl rfl rfl ?_
          refine rn_getR (k' := 83) rfl rfl K0_66 (by decide) rfl R0_66_4 ?_
          refine rn_iload (k' := 84) rfl rfl rfl ?_
          refine rn_aload_n (k' := 85) rfl rfl rfl ?_
          refine rn_getR (k' := 86) rfl rfl K0_66 (by decide) rfl R0_66_4 ?_
          refine rn_iload (k' := 87) rfl rfl rfl ?_
          refine rn_iaload (k' := 88) rfl rfl K0_70 (by omega) (by omega) ?_
          show Rn PT none kX10_costFrom 88 [some (mR 66), some (mI (a)), some (mI (t)), some (mI (v)), some (mI (x)), some (mI ((r : Int))), some (mI ((n : Int))), some (mI (g_nb μ x (n : Int))), some (mI ((((rx (g_nb μ) (gW μ t v) Z x C n) ((x).toNat)) + ((g_rk μ t v x (g_nb μ x (n : Int))) * 1000)) + 1))] [mI ((rx (g_nb μ) (gW μ t v) Z x C n) ((g_nb μ x (n : Int)).toNat)), mI (g_nb μ x (n : Int)), mR 70] (mkh (m_upd (m_upd μ 70 (rx (g_nb μ) (gW μ t v) Z x C n)) 71 Z) c s) _
          refine rn_iload (k' := 89) rfl rfl rfl ?_
          refine rn_nat (k' := 90) (S' := [mI (if (((rx (g_nb μ) (gW μ t v) Z x C n) ((x).toNat)) + ((g_rk μ t v x (g_nb μ x (n : Int))) * 1000)) + 1 < (rx (g_nb μ) (gW μ t v) Z x C n) ((g_nb μ x (n : Int)).toNat) then (((rx (g_nb μ) (gW μ t v) Z x C n) ((x).toNat)) + ((g_rk μ t v x (g_nb μ x (n : Int))) * 1000)) + 1 else (rx (g_nb μ) (gW μ t v) Z x C n) ((g_nb μ x (n : Int)).toNat)), mI (g_nb μ x (n : Int)), mR 70]) (h' := mkh (m_upd (m_upd μ 70 (rx (g_nb μ) (gW μ t v) Z x C n)) 71 Z) c s) rfl rfl rfl ?_
          refine rn_iastore (k' := 91) rfl rfl K0_70 (by omega) (by omega) ?_
          refine rn_iinc (k' := 92) (L' := [some (mR 66), some (mI (a)), some (mI (t)), some (mI (v)), some (mI (x)), some (mI ((r : Int))), some (mI ((n : Int) + 1)), some (mI (g_nb μ x (n : Int))), some (mI ((((rx (g_nb μ) (gW μ t v) Z x C n) ((x).toNat)) + ((g_rk μ t v x (g_nb μ x (n : Int))) * 1000)) + 1))]) rfl rfl rfl (by omega) rfl ?_
          refine rn_goto rfl ?_
          show Rn PT none kX10_costFrom 48 [some (mR 66), some (mI (a)), some (mI (t)), some (mI (v)), some (mI (x)), some (mI ((r : Int))), some (mI ((n : Int) + 1)), some (mI (g_nb μ x (n : Int))), some (mI ((((rx (g_nb μ) (gW μ t v) Z x C n) ((x).toNat)) + ((g_rk μ t v x (g_nb μ x (n : Int))) * 1000)) + 1))] [] (mkh (m_set (m_upd (m_upd μ 70 (rx (g_nb μ) (gW μ t v) Z x C n)) 71 Z) 70 ((g_nb μ x (n : Int)).toNat) (if (((rx (g_nb μ) (gW μ t v) Z x C n) ((x).toNat)) + ((g_rk μ t v x (g_nb μ x (n : Int))) * 1000)) + 1 < (rx (g_nb μ) (gW μ t v) Z x C n) ((g_nb μ x (n : Int)).toNat) then (((rx (g_nb μ) (gW μ t v) Z x C n) ((x).toNat)) + ((g_rk μ t v x (g_nb μ x (n : Int))) * 1000)) + 1 else (rx (g_nb μ) (gW μ t v) Z x C n) ((g_nb μ x (n : Int)).toNat))) c s) _
          rw [set_upd_ne (a := 70) (b := 71) (by decide), set_upd_eq (a := 70)]
          have hst : fs (rx (g_nb μ) (gW μ t v) Z x C n) (g_nb μ x (n : Int)).toNat (if (((rx (g_nb μ) (gW μ t v) Z x C n) ((x).toNat)) + ((g_rk μ t v x (g_nb μ x (n : Int))) * 1000)) + 1 < (rx (g_nb μ) (gW μ t v) Z x C n) ((g_nb μ x (n : Int)).toNat) then (((rx (g_nb μ) (gW μ t v) Z x C n) ((x).toNat)) + ((g_rk μ t v x (g_nb μ x (n : Int))) * 1000)) + 1 else (rx (g_nb μ) (gW μ t v) Z x C n) ((g_nb μ x (n : Int)).toNat)) = rx (g_nb μ) (gW μ t v) Z x C (n + 1) := by
            rw [rx_p (n := n) ⟨by omega, by omega⟩, show ((((rx (g_nb μ) (gW μ t v) Z x C n) ((x).toNat)) + ((g_rk μ t v x (g_nb μ x (n : Int))) * 1000)) + 1 : Int) = rx (g_nb μ) (gW μ t v) Z x C n x.toNat + gW μ t v x (g_nb μ x (n : Int)) by unfold gW; omega]
          rw [hst]
          exact ih (n + 1) _ _ _ (by omega) (by omega)
theorem dj_full {nb : Int → Int → Int} {O G : Int → Prop} {W : Int → Int → Int} {a : Int} {S r : Nat} {C Z : Nat → Int} (h : DJ nb O G W a S r C Z) (hS : S ≤ r) {j : Nat} (hj : j < S) : ¬ Z j = 0 := fun z => by
  have h1 := h.2.2.2.2.2.2.2
  have h2 := cn_lt (F := fun j => Z j - 1) (x := j) (by show Z j - 1 = -1; omega) S hj
  omega
theorem dj_pick {nb : Int → Int → Int} {O G : Int → Prop} {W : Int → Int → Int} {a : Int} {S r : Nat} {C Z : Nat → Int} (hg : GR nb G) (hS : ∀ x, G x → x.toNat < S) (h : DJ nb O G W a S r C Z) {x : Int} (hx : x = ba (djf C Z) S) : (x = -1 → ba (djf C Z) S = -1) ∧ (¬ x = -1 → G x ∧ Z x.toNat = 0 ∧ C x.toNat < 1000000000 ∧ ∀ y, G y → Z y.toNat = 0 → C x.toNat ≤ C y.toNat) := by
  refine ⟨fun e => by rw [← hx]; exact e, fun hne => ?_⟩
  have hb := ba_b (f := djf C Z) S
  rw [← hx] at hb
  have hel := ba_el (f := djf C Z) S (by rw [← hx]; exact hne)
  rw [← hx] at hel
  have h1 : Z x.toNat = 0 ∧ C x.toNat < 1000000000 := Classical.byContradiction (fun z => hel (by unfold djf; rw [if_neg z]))
  have hG : G x := Classical.byContradiction (fun z => by
    have h2 := h.2.2.1 x.toNat (by omega) (by rw [Int.toNat_of_nonneg (by omega)]; exact z)
    omega)
  refine ⟨hG, h1.1, h1.2, fun y hy hz => ?_⟩
  by_cases e : C y.toNat < 1000000000
  · have hy1 := (h.2.1 y.toNat (hS y hy)).2.1
    have e1 : djf C Z y.toNat = C y.toNat := by unfold djf; rw [if_pos ⟨hz, e⟩]
    have e2 : djf C Z x.toNat = C x.toNat := by unfold djf; rw [if_pos h1]
    have h3 := (ba_min (f := djf C Z) S y.toNat (hS y hy) (by rw [e1]; omega)).2.1
    rw [← hx, e1, e2] at h3
    exact h3
  · omega
set_option maxHeartbeats 4000000 in
theorem l_costFrom {μ : Nat → Nat → Int} {c s : Nat} (hL : I_land μ) {a t w v : Int} (ha : g_cell μ a) (ht : 0 ≤ t ∧ t ≤ 99) (hv : 0 ≤ v ∧ v ≤ 99) : ∀ (d n : Nat) (k : Int) (x : Int) (C : Nat → Int) (Z : Nat → Int) (v6 : Option MV) (v7 : Option MV) (v8 : Option MV), k = (n : Int) → n + d = 100 → (gDJ μ a t w v n C Z) → ((x = -1 → ba (djf C Z) (10 * μ 6 9).toNat = -1) ∧ (¬ x = -1 → g_cell μ x ∧ Z x.toNat = 0 ∧ C x.toNat < 1000000000 ∧ ∀ y, g_cell μ y → Z y.toNat = 0 → C x.toNat ≤ C y.toNat)) → Rn PT none kX10_costFrom 35 [some (mR 66), some (mI (a)), some (mI (t)), some (mI (v)), some (mI (x)), some (mI (k)), v6, v7, v8] [] (mkh (m_upd (m_upd μ 70 C) 71 Z) c s) (fun r => ∃ C Z, r = (some none, mkh (m_upd (m_upd μ 70 C) 71 Z) c s) ∧ gBE μ a t w v C) := by
  have hL_ := hL
  obtain ⟨lc, lr, le, lm, lw, lh, lwo, lwd, q0, q1, q2, q3, q4, q8, q499, q500, lth, lG, lT, lW, -⟩ := hL_
  intro d
  induction d with
  | zero =>
    intro n k x C Z v6 v7 v8 ek hn hD hX
    subst ek
    have hxe : x = -1 := Classical.byContradiction (fun z => by obtain ⟨z1, z2, -⟩ := hX.2 z; exact dj_full hD (by omega) (cell_span z1) z2)
    refine rn_iload (k' := 36) rfl rfl rfl ?_
    refine rn_bipush (k' := 37) rfl rfl ?_
    refine rn_icmp_ge (k' := 38) rfl rfl (fun hc1 => ?_) (fun hc1 => ?_)
    · skip
      refine rn_vret rfl ?_
      exact ⟨C, Z, rfl, dj_end (g_GR hL) (fun x hx => cell_span hx) (nb_sym2 hL) gW_sym (by omega) hD (hX.1 hxe)⟩
    · exfalso; omega
  | succ d ih =>
    intro n k x C Z v6 v7 v8 ek hn hD hX
    subst ek
    have hxq : x = -1 ∨ (0 ≤ x ∧ x < 100) := by
      by_cases e : x = -1
      · exact Or.inl e
      · exact Or.inr (g_cell_b hL (hX.2 e).1)
    refine rn_iload (k' := 36) rfl rfl rfl ?_
    refine rn_bipush (k' := 37) rfl rfl ?_
    refine rn_icmp_ge (k' := 38) rfl rfl (fun hc1 => ?_) (fun hc1 => ?_)
    · exfalso; omega
    · skip
      refine rn_iload (k' := 39) rfl rfl rfl ?_
      refine rn_iconst (k' := 40) rfl rfl ?_
      refine rn_icmp_eq (k' := 41) rfl rfl (fun hc2 => ?_) (fun hc2 => ?_)
      · skip
        refine rn_vret rfl ?_
        exact ⟨C, Z, rfl, dj_end (g_GR hL) (fun x hx => cell_span hx) (nb_sym2 hL) gW_sym (by omega) hD (hX.1 (by omega))⟩
      · skip
        refine rn_aload_n (k' := 42) rfl rfl rfl ?_
        refine rn_getR (k' := 43) rfl rfl K0_66 (by decide) rfl R0_66_5 ?_
        refine rn_iload (k' := 44) rfl rfl rfl ?_
        refine rn_iconst (k' := 45) rfl rfl ?_
        refine rn_zastore (k' := 46) rfl rfl K0_71 (by omega) (by omega) (by omega) ?_
        refine rn_iconst (k' := 47) rfl rfl ?_
        refine rn_istore (k' := 48) (L' := [some (mR 66), some (mI (a)), some (mI (t)), some (mI (v)), some (mI (x)), some (mI ((n : Int))), some (mI (0)), v7, v8]) rfl rfl (Nat.le_of_ble_eq_true rfl) rfl ?_
        obtain ⟨hx1, hx2, hx3, hx4⟩ := hX.2 (by omega)
        have hxb := g_cell_b hL hx1
        show Rn PT none kX10_costFrom 48 [some (mR 66), some (mI (a)), some (mI (t)), some (mI (v)), some (mI (x)), some (mI ((n : Int))), some (mI (0)), v7, v8] [] (mkh (m_set (m_upd (m_upd μ 70 C) 71 Z) 71 ((x).toNat) (1)) c s) _
        rw [set_upd_eq (a := 71)]
        have hxc := (hD.2.1 x.toNat (cell_span hx1)).2
        refine l_costFrom_in hL (w := w) ha ht hv (x := x) (r := n) (C := C) (Z := fs Z x.toNat 1) hx1 (by rw [fs_eq]; decide) ⟨hxc.1, hx3⟩ (fun w6 w7 w8 => ?_) 4 0 _ _ _ rfl (by omega)
        refine rn_aload_n (k' := 94) rfl rfl rfl ?_
        have hD9 := dj_step (g_GR hL) (fun x hx => cell_span hx) (nb_sym2 hL) gW_sym (fun x y _ _ => gW_b hL ht hv x y) (by omega) ha hD hx1 hx2 hx3 hx4
        refine rn_callP (k' := 95) (y := 96) (vs := [mR 66]) (S' := []) (v := some (mI (ba (djf (rx (g_nb μ) (gW μ t v) (fs Z x.toNat 1) x C 4) (fs Z x.toNat 1)) (10 * μ 6 9).toNat))) (h' := mkh (m_upd (m_upd μ 70 ((rx (g_nb μ) (gW μ t v) (fs Z x.toNat 1) x C 4))) 71 ((fs Z x.toNat 1))) c s) rfl rfl rfl (c_X10_cheapest (μ := (m_upd (m_upd μ 70 ((rx (g_nb μ) (gW μ t v) (fs Z x.toNat 1) x C 4))) 71 ((fs Z x.toNat 1)))) (c := c) (s := s) (((hL).upd rfl).upd rfl) (fun j hj => (hD9.2.1 j hj).2.1)) ?_
        show Rn PT none kX10_costFrom 95 [some (mR 66), some (mI (a)), some (mI (t)), some (mI (v)), some (mI (x)), some (mI ((n : Int))), w6, w7, w8] [mI (ba (djf (rx (g_nb μ) (gW μ t v) (fs Z x.toNat 1) x C 4) (fs Z x.toNat 1)) (10 * μ 6 9).toNat)] (mkh (m_upd (m_upd μ 70 ((rx (g_nb μ) (gW μ t v) (fs Z x.toNat 1) x C 4))) 71 ((fs Z x.toNat 1))) c s) _
        refine rn_istore (k' := 96) (L' := [some (mR 66), some (mI (a)), some (mI (t)), some (mI (v)), some (mI (ba (djf (rx (g_nb μ) (gW μ t v) (fs Z x.toNat 1) x C 4) (fs Z x.toNat 1)) (10 * μ 6 9).toNat)), some (mI ((n : Int))), w6, w7, w8]) rfl rfl (Nat.le_of_ble_eq_true rfl) rfl ?_
        refine rn_iinc (k' := 97) (L' := [some (mR 66), some (mI (a)), some (mI (t)), some (mI (v)), some (mI (ba (djf (rx (g_nb μ) (gW μ t v) (fs Z x.toNat 1) x C 4) (fs Z x.toNat 1)) (10 * μ 6 9).toNat)), some (mI ((n : Int) + 1)), w6, w7, w8]) rfl rfl rfl (by omega) rfl ?_
        refine rn_goto rfl ?_
        have hD2 := dj_step (g_GR hL) (fun x hx => cell_span hx) (nb_sym2 hL) gW_sym (fun x y _ _ => gW_b hL ht hv x y) (by omega) ha hD hx1 hx2 hx3 hx4
        exact ih (n + 1) _ _ _ _ _ _ _ (by omega) (by omega) hD2 (dj_pick (g_GR hL) (fun x hx => cell_span hx) hD2 rfl)
set_option maxHeartbeats 4000000 in
theorem l_costFrom_0 {μ : Nat → Nat → Int} {c s : Nat} (hL : I_land μ) {a t v : Int} {Q : MR → Prop} (K : ∀ v4, Rn PT none kX10_costFrom 26 [some (mR 66), some (mI (a)), some (mI (t)), some (mI (v)), v4, none, none, none, none] [] (mkh (m_upd (m_upd μ 70 (fl (fun _ => 1000000000) (μ 70) (10 * μ 6 9).toNat)) 71 (fl (fun j => if μ 67 j = 0 then 1 else 0) (μ 71) (10 * μ 6 9).toNat)) c s) Q) : ∀ (d n : Nat) (k : Int), k = (n : Int) → (n : Int) + d = 10 * μ 6 9 → Rn PT none kX10_costFrom 2 [some (mR 66), some (mI (a)), some (mI (t)), some (mI (v)), some (mI (k)), none, none, none, none] [] (mkh (m_upd (m_upd μ 70 (fl (fun _ => 1000000000) (μ 70) n)) 71 (fl (fun j => if μ 67 j = 0 then 1 else 0) (μ 71) n)) c s) (Q) := by
  have hL_ := hL
  obtain ⟨lc, lr, le, lm, lw, lh, lwo, lwd, q0, q1, q2, q3, q4, q8, q499, q500, lth, lG, lT, lW, -⟩ := hL_
  intro d
  induction d with
  | zero =>
    intro n k ek hn 
    subst ek
    have en : (10 * μ 6 9).toNat = n := by omega
    rw [en] at K
    refine rn_iload (k' := 3) rfl rfl rfl ?_
    refine rn_aload_n (k' := 4) rfl rfl rfl ?_
    refine rn_getR (k' := 5) rfl rfl K0_66 (by decide) rfl R0_66_0 ?_
    refine rn_callP (k' := 6) (y := 29) (vs := [mR 6]) (S' := [mI ((n : Int))]) (v := some (mI (10 * μ 6 9))) (h' := mkh (m_upd (m_upd μ 70 (fl (fun _ => 1000000000) (μ 70) n)) 71 (fl (fun j => if μ 67 j = 0 then 1 else 0) (μ 71) n)) c s) rfl rfl rfl (c_X3_span (μ := (m_upd (m_upd μ 70 (fl (fun _ => 1000000000) (μ 70) n)) 71 (fl (fun j => if μ 67 j = 0 then 1 else 0) (μ 71) n))) (by show 0 ≤ μ 6 9 ∧ μ 6 9 ≤ 10; omega)) ?_
    show Rn PT none kX10_costFrom 6 [some (mR 66), some (mI (a)), some (mI (t)), some (mI (v)), some (mI ((n : Int))), none, none, none, none] [mI (10 * μ 6 9), mI ((n : Int))] (mkh (m_upd (m_upd μ 70 (fl (fun _ => 1000000000) (μ 70) n)) 71 (fl (fun j => if μ 67 j = 0 then 1 else 0) (μ 71) n)) c s) _
    refine rn_icmp_ge (k' := 7) rfl rfl (fun hc1 => ?_) (fun hc1 => ?_)
    · skip
      exact K _
    · exfalso; omega
  | succ d ih =>
    intro n k ek hn 
    subst ek
    refine rn_iload (k' := 3) rfl rfl rfl ?_
    refine rn_aload_n (k' := 4) rfl rfl rfl ?_
    refine rn_getR (k' := 5) rfl rfl K0_66 (by decide) rfl R0_66_0 ?_
    refine rn_callP (k' := 6) (y := 29) (vs := [mR 6]) (S' := [mI ((n : Int))]) (v := some (mI (10 * μ 6 9))) (h' := mkh (m_upd (m_upd μ 70 (fl (fun _ => 1000000000) (μ 70) n)) 71 (fl (fun j => if μ 67 j = 0 then 1 else 0) (μ 71) n)) c s) rfl rfl rfl (c_X3_span (μ := (m_upd (m_upd μ 70 (fl (fun _ => 1000000000) (μ 70) n)) 71 (fl (fun j => if μ 67 j = 0 then 1 else 0) (μ 71) n))) (by show 0 ≤ μ 6 9 ∧ μ 6 9 ≤ 10; omega)) ?_
    show Rn PT none kX10_costFrom 6 [some (mR 66), some (mI (a)), some (mI (t)), some (mI (v)), some (mI ((n : Int))), none, none, none, none] [mI (10 * μ 6 9), mI ((n : Int))] (mkh (m_upd (m_upd μ 70 (fl (fun _ => 1000000000) (μ 70) n)) 71 (fl (fun j => if μ 67 j = 0 then 1 else 0) (μ 71) n)) c s) _
    refine rn_icmp_ge (k' := 7) rfl rfl (fun hc1 => ?_) (fun hc1 => ?_)
    · exfalso; omega
    · skip
      refine rn_aload_n (k' := 8) rfl rfl rfl ?_
      refine rn_getR (k' := 9) rfl rfl K0_66 (by decide) rfl R0_66_4 ?_
      refine rn_iload (k' := 10) rfl rfl rfl ?_
      refine rn_ldc (k' := 11) rfl rfl ?_
      refine rn_iastore (k' := 12) rfl rfl K0_70 (by omega) (by omega) ?_
      refine rn_aload_n (k' := 13) rfl rfl rfl ?_
      refine rn_getR (k' := 14) rfl rfl K0_66 (by decide) rfl R0_66_5 ?_
      refine rn_iload (k' := 15) rfl rfl rfl ?_
      refine rn_aload_n (k' := 16) rfl rfl rfl ?_
      refine rn_getR (k' := 17) rfl rfl K0_66 (by decide) rfl R0_66_1 ?_
      refine rn_iload (k' := 18) rfl rfl rfl ?_
      refine rn_zaload (k' := 19) rfl rfl K0_67 (by omega) (by omega) ?_
      show Rn PT none kX10_costFrom 19 [some (mR 66), some (mI (a)), some (mI (t)), some (mI (v)), some (mI ((n : Int))), none, none, none, none] [mI (μ 67 (n)), mI ((n : Int)), mR 71] (mkh (m_set (m_upd (m_upd μ 70 (fl (fun _ => 1000000000) (μ 70) n)) 71 (fl (fun j => if μ 67 j = 0 then 1 else 0) (μ 71) n)) 70 n (1000000000)) c s) _
      refine rn_if_ne (k' := 20) rfl rfl (fun hc2 => ?_) (fun hc2 => ?_)
      · skip
        refine rn_iconst (k' := 23) rfl rfl ?_
        refine rn_zastore (k' := 24) rfl rfl K0_71 (by omega) (by omega) (by omega) ?_
        refine rn_iinc (k' := 25) (L' := [some (mR 66), some (mI (a)), some (mI (t)), some (mI (v)), some (mI ((n : Int) + 1)), none, none, none, none]) rfl rfl rfl (by omega) rfl ?_
        refine rn_goto rfl ?_
        show Rn PT none kX10_costFrom 2 [some (mR 66), some (mI (a)), some (mI (t)), some (mI (v)), some (mI ((n : Int) + 1)), none, none, none, none] [] (mkh (m_set (m_set (m_upd (m_upd μ 70 (fl (fun _ => 1000000000) (μ 70) n)) 71 (fl (fun j => if μ 67 j = 0 then 1 else 0) (μ 71) n)) 70 n (1000000000)) 71 n (0)) c s) _
        rw [set_upd_ne (a := 70) (b := 71) (by decide), fl_st (a := 70) (n := n) (g := (fun _ => 1000000000)) rfl, fl_st (a := 71) (n := n) (g := (fun j => if μ 67 j = 0 then 1 else 0)) (by show (0 : Int) = if μ 67 n = 0 then 1 else 0; first | rw [if_pos (by omega)] | rw [if_neg (by omega)])]
        exact ih (n + 1) _ (by omega) (by omega)
      · skip
        refine rn_iconst (k' := 21) rfl rfl ?_
        refine rn_goto rfl ?_
        refine rn_zastore (k' := 24) rfl rfl K0_71 (by omega) (by omega) (by omega) ?_
        refine rn_iinc (k' := 25) (L' := [some (mR 66), some (mI (a)), some (mI (t)), some (mI (v)), some (mI ((n : Int) + 1)), none, none, none, none]) rfl rfl rfl (by omega) rfl ?_
        refine rn_goto rfl ?_
        show Rn PT none kX10_costFrom 2 [some (mR 66), some (mI (a)), some (mI (t)), some (mI (v)), some (mI ((n : Int) + 1)), none, none, none, none] [] (mkh (m_set (m_set (m_upd (m_upd μ 70 (fl (fun _ => 1000000000) (μ 70) n)) 71 (fl (fun j => if μ 67 j = 0 then 1 else 0) (μ 71) n)) 70 n (1000000000)) 71 n (1)) c s) _
        rw [set_upd_ne (a := 70) (b := 71) (by decide), fl_st (a := 70) (n := n) (g := (fun _ => 1000000000)) rfl, fl_st (a := 71) (n := n) (g := (fun j => if μ 67 j = 0 then 1 else 0)) (by show (1 : Int) = if μ 67 n = 0 then 1 else 0; first | rw [if_pos (by omega)] | rw [if_neg (by omega)])]
        exact ih (n + 1) _ (by omega) (by omega)
theorem dj_init {μ : Nat → Nat → Int} (hL : I_land μ) {a t w v : Int} (ha : g_cell μ a) (hst : g_stand μ a t w) {C Z : Nat → Int} (hC : ∀ j, j < (10 * μ 6 9).toNat → C j = if j = a.toNat then 0 else 1000000000) (hZ : ∀ j, j < (10 * μ 6 9).toNat → Z j = if g_stand μ (j : Int) t w then 0 else 1) : gDJ μ a t w v 0 C Z := by
  have hZc : ∀ x, g_cell μ x → Z x.toNat = if g_stand μ x t w then 0 else 1 := fun x hx => by
    rw [hZ _ (cell_span hx)]
    have h0 := hx.1
    rw [Int.toNat_of_nonneg h0]
  have hne : ∀ x, g_cell μ x → ¬ x = a → ¬ x.toNat = a.toNat := fun x hx h e => h (by have := hx.1; have := ha.1; omega)
  refine ⟨by rw [hC _ (cell_span ha), if_pos rfl], ?_, ?_, ?_, ?_, ?_, ?_, Nat.zero_le _⟩
  · intro j hj
    rw [hC j hj, hZ j hj]
    refine ⟨?_, ?_⟩
    · split
      · exact Or.inl rfl
      · exact Or.inr rfl
    · split <;> omega
  · intro j hj hn
    rw [hC j hj, if_neg (fun e => hn (by rw [e, Int.toNat_of_nonneg ha.1]; exact ha))]
  · intro x hx ho
    rw [hZc x hx, if_neg ho, hC _ (cell_span hx), if_neg (hne x hx (fun e => ho (by rw [e]; exact hst)))]
    exact ⟨rfl, rfl⟩
  · intro x hx ho hz
    rw [hZc x hx, if_pos ho] at hz
    exact absurd hz (by decide)
  · intro x y hx ho hy hz _
    rw [hZc x hx, if_pos ho] at hz
    exact absurd hz (by decide)
  · intro x hx hn hf
    rw [hC _ (cell_span hx), if_neg (hne x hx hn)] at hf
    exact absurd hf (by decide)
set_option maxHeartbeats 4000000 in
theorem c_costFrom {μ : Nat → Nat → Int} {c s : Nat} (hL : I_land μ) {a t w v : Int} (ha : g_cell μ a) (ht : 0 ≤ t ∧ t ≤ 99) (hv : 0 ≤ v ∧ v ≤ 99) (hst : g_stand μ a t w) (h67 : ∀ j, j < (10 * μ 6 9).toNat → μ 67 j = if g_stand μ (j : Int) t w then 1 else 0) : ∃ C Z, gBE μ a t w v C ∧ Cl PT 95 [mR 66, mI a, mI t, mI v] (mkh μ c s) (fun r => r = (some none, mkh (m_upd (m_upd μ 70 C) 71 Z) c s)) := by
  refine Cl.ex2 (g := fun C Z => (some none, mkh (m_upd (m_upd μ 70 C) 71 Z) c s)) ?_
  have hab := g_cell_b hL ha
  have hL_ := hL
  obtain ⟨lc, lr, le, lm, lw, lh, lwo, lwd, q0, q1, q2, q3, q4, q8, q499, q500, lth, lG, lT, lW, -⟩ := hL_
  refine ⟨_, PT_95, Nat.le_of_ble_eq_true rfl, ?_⟩
  show Rn PT none kX10_costFrom 0 [some (mR 66), some (mI (a)), some (mI (t)), some (mI (v)), none, none, none, none, none] [] (mkh μ c s) _
  refine rn_iconst (k' := 1) rfl rfl ?_
  refine rn_istore (k' := 2) (L' := [some (mR 66), some (mI (a)), some (mI (t)), some (mI (v)), some (mI (0)), none, none, none, none]) rfl rfl (Nat.le_of_ble_eq_true rfl) rfl ?_
  have hz1 : m_upd (m_upd μ 70 (fl (fun _ => 1000000000) (μ 70) 0)) 71 (fl (fun j => if μ 67 j = 0 then 1 else 0) (μ 71) 0) = μ := by
    rw [show m_upd μ 70 (fl (fun _ => 1000000000) (μ 70) 0) = μ from fl_0]
    exact fl_0
  refine (show Rn PT none kX10_costFrom 2 [some (mR 66), some (mI (a)), some (mI (t)), some (mI (v)), some (mI (0)), none, none, none, none] [] (mkh (m_upd (m_upd μ 70 (fl (fun _ => 1000000000) (μ 70) 0)) 71 (fl (fun j => if μ 67 j = 0 then 1 else 0) (μ 71) 0)) c s) _ → Rn PT none kX10_costFrom 2 [some (mR 66), some (mI (a)), some (mI (t)), some (mI (v)), some (mI (0)), none, none, none, none] [] (mkh μ c s) _ from fun h => by rw [hz1] at h; exact h) ?_
  refine l_costFrom_0 hL (fun v4 => ?_) (10 * μ 6 9).toNat 0 _ rfl (by omega)
  refine rn_aload_n (k' := 27) rfl rfl rfl ?_
  refine rn_getR (k' := 28) rfl rfl K0_66 (by decide) rfl R0_66_4 ?_
  refine rn_iload_n (k' := 29) rfl rfl rfl ?_
  refine rn_iconst (k' := 30) rfl rfl ?_
  refine rn_iastore (k' := 31) rfl rfl K0_70 (by omega) (by omega) ?_
  refine rn_iload_n (k' := 32) rfl rfl rfl ?_
  refine rn_istore (k' := 33) (L' := [some (mR 66), some (mI (a)), some (mI (t)), some (mI (v)), some (mI (a)), none, none, none, none]) rfl rfl (Nat.le_of_ble_eq_true rfl) rfl ?_
  refine rn_iconst (k' := 34) rfl rfl ?_
  refine rn_istore (k' := 35) (L' := [some (mR 66), some (mI (a)), some (mI (t)), some (mI (v)), some (mI (a)), some (mI (0)), none, none, none]) rfl rfl (Nat.le_of_ble_eq_true rfl) rfl ?_
  show Rn PT none kX10_costFrom 35 [some (mR 66), some (mI (a)), some (mI (t)), some (mI (v)), some (mI (a)), some (mI (0)), none, none, none] [] (mkh (m_set (m_upd (m_upd μ 70 (fl (fun _ => 1000000000) (μ 70) (10 * μ 6 9).toNat)) 71 (fl (fun j => if μ 67 j = 0 then 1 else 0) (μ 71) (10 * μ 6 9).toNat)) 70 ((a).toNat) (0)) c s) _
  rw [set_upd_ne (a := 70) (b := 71) (by decide), set_upd_eq (a := 70)]
  have hD : gDJ μ a t w v 0 (fs (fl (fun _ => 1000000000) (μ 70) (10 * μ 6 9).toNat) a.toNat 0) (fl (fun j => if μ 67 j = 0 then 1 else 0) (μ 71) (10 * μ 6 9).toNat) := dj_init hL ha hst (fun j hj => by
      unfold fs
      by_cases e : j = a.toNat
      · rw [if_pos e, if_pos e]
      · rw [if_neg e, if_neg e, fl_lt hj]) (fun j hj => by
      rw [fl_lt hj, h67 j hj]
      by_cases e : g_stand μ (j : Int) t w
      · rw [if_pos e, if_pos e, if_neg (by decide)]
      · rw [if_neg e, if_neg e, if_pos rfl])
  have e0 : (fl (fun j => if μ 67 j = 0 then 1 else 0) (μ 71) (10 * μ 6 9).toNat) a.toNat = 0 := by
      rw [fl_lt (cell_span ha), h67 _ (cell_span ha), Int.toNat_of_nonneg ha.1, if_pos hst, if_neg (by decide)]
  exact l_costFrom hL ha ht hv 100 0 0 a (fs (fl (fun _ => 1000000000) (μ 70) (10 * μ 6 9).toNat) a.toNat 0) (fl (fun j => if μ 67 j = 0 then 1 else 0) (μ 71) (10 * μ 6 9).toNat) _ _ _ rfl (by omega) hD ⟨fun e => by omega, fun _ => ⟨ha, e0, by rw [hD.1]; decide, fun y hy hz => by
      rw [hD.1]
      exact (hD.2.1 y.toNat (cell_span hy)).2.1⟩⟩
