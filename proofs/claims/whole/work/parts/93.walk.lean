variable {N : Int}
/-! ===== printed by wip/whole/gen93.py: the way of least risk, falls ===== -/
abbrev pdc (μ : Nat → Nat → Int) (C : Nat → Int) (t v x : Int) (d : Nat) : Prop := ¬ g_nb μ x (d : Int) = -1 ∧ C (g_nb μ x (d : Int)).toNat < 1000000000 ∧ C x.toNat = C (g_nb μ x (d : Int)).toNat + gW μ t v x (g_nb μ x (d : Int))
/-- the cells of the way -/
def pw (μ : Nat → Nat → Int) (C : Nat → Int) (t v x : Int) : Nat → Int
  | 0 => x
  | n + 1 => g_nb μ (pw μ C t v x n) (fF (pdc μ C t v (pw μ C t v x n)) 0 4)
theorem pd_rows {μ ν : Nat → Nat → Int} (e6 : ν 6 = μ 6) (e7 : ν 7 = μ 7) : pdc ν = pdc μ := by
  delta pdc g_nb
  rw [gW_rows e7, e6]
theorem fF_congr {p q : Nat → Prop} [DecidablePred p] [DecidablePred q] : ∀ (d n : Nat), (∀ j, n ≤ j → j < n + d → (p j ↔ q j)) → fF p n d = fF q n d
  | 0, _, _ => rfl
  | d + 1, n, h => by
    by_cases e : q n
    · rw [fF_pos e, fF_pos ((h n (by omega) (by omega)).mpr e)]
    · rw [fF_neg e, fF_neg (fun z => e ((h n (by omega) (by omega)).mp z)), fF_congr d (n + 1) (fun j h1 h2 => h j (by omega) (by omega))]
theorem pw_rows {μ ν : Nat → Nat → Int} (e6 : ν 6 = μ 6) (e7 : ν 7 = μ 7) {C : Nat → Int} {t v x : Int} : ∀ n, pw ν C t v x n = pw μ C t v x n
  | 0 => rfl
  | n + 1 => by
    show g_nb ν (pw ν C t v x n) (fF (pdc ν C t v (pw ν C t v x n)) 0 4) = g_nb μ (pw μ C t v x n) (fF (pdc μ C t v (pw μ C t v x n)) 0 4)
    rw [pw_rows e6 e7 n, fF_congr (p := pdc ν C t v (pw μ C t v x n)) (q := pdc μ C t v (pw μ C t v x n)) 4 0 (fun j _ _ => by rw [pd_rows e6 e7])]
    unfold g_nb
    rw [e6]
theorem pd_first {μ : Nat → Nat → Int} (hL : I_land μ) {a t w v x : Int} {C : Nat → Int} (ht : 0 ≤ t ∧ t ≤ 99) (hv : 0 ≤ v ∧ v ≤ 99) (hB : gBE μ a t w v C) (hx : g_cell μ x) (hne : ¬ x = a) (hf : C x.toNat < 1000000000) : ∃ k : Nat, k < 4 ∧ fF (pdc μ C t v x) 0 4 = (k : Int) ∧ pdc μ C t v x k ∧ (∀ j, j < k → ¬ pdc μ C t v x j) ∧ g_cell μ (g_nb μ x (k : Int)) ∧ C (g_nb μ x (k : Int)).toNat < C x.toNat := by
  obtain ⟨-, d, d1, d2, d3, d4⟩ := hB.2.2.2 x hx hne hf
  have hd : pdc μ C t v x d := ⟨d2, d3, d4⟩
  have ex : ∃ k : Nat, k ≤ d ∧ pdc μ C t v x k ∧ ∀ j, j < k → ¬ pdc μ C t v x j := by
    have : ∀ n : Nat, n ≤ d + 1 → (∀ j, j < n → ¬ pdc μ C t v x j) ∨ ∃ k : Nat, k < n ∧ pdc μ C t v x k ∧ ∀ j, j < k → ¬ pdc μ C t v x j := by
      intro n
      induction n with
      | zero => exact fun _ => Or.inl (fun j hj => absurd hj (Nat.not_lt_zero j))
      | succ n ih =>
        intro hn
        rcases ih (by omega) with h | ⟨k, k1, k2⟩
        · by_cases e : pdc μ C t v x n
          · exact Or.inr ⟨n, by omega, e, h⟩
          · refine Or.inl (fun j hj => ?_)
            by_cases ej : j = n
            · rw [ej]; exact e
            · exact h j (by omega)
        · exact Or.inr ⟨k, by omega, k2⟩
    rcases this (d + 1) (Nat.le_refl _) with h | ⟨k, k1, k2⟩
    · exact absurd hd (h d (by omega))
    · exact ⟨k, by omega, k2⟩
  obtain ⟨k, k1, k2, k3⟩ := ex
  have hc := ((g_GR hL).2 x (k : Int) hx (by omega) (by omega)).resolve_left k2.1
  refine ⟨k, by omega, fF_first k2 4 0 (fun j _ h => k3 j h) (by omega) (by omega), k2, k3, hc, ?_⟩
  have hw := gW_b hL ht hv x (g_nb μ x (k : Int))
  have h9 := k2.2.2
  omega
theorem pw_len {μ : Nat → Nat → Int} (hL : I_land μ) {a t w v x : Int} {C : Nat → Int} (ht : 0 ≤ t ∧ t ≤ 99) (hv : 0 ≤ v ∧ v ≤ 99) (hB : gBE μ a t w v C) (hx : g_cell μ x) (hf : C x.toNat < 1000000000) : ∃ m : Nat, m ≤ 99 ∧ pw μ C t v x m = a ∧ (∀ j, j < m → ¬ pw μ C t v x j = a) ∧ ∀ j, j ≤ m → g_cell μ (pw μ C t v x j) ∧ C (pw μ C t v x j).toNat < 1000000000 := by
  have key : ∀ n : Nat, (∃ m : Nat, m ≤ n ∧ pw μ C t v x m = a ∧ (∀ j, j < m → ¬ pw μ C t v x j = a) ∧ ∀ j, j ≤ m → g_cell μ (pw μ C t v x j) ∧ C (pw μ C t v x j).toNat < 1000000000) ∨ ((∀ j, j ≤ n → ¬ pw μ C t v x j = a ∧ g_cell μ (pw μ C t v x j) ∧ C (pw μ C t v x j).toNat < 1000000000) ∧ ct C (C (pw μ C t v x n).toNat) 100 + n ≤ ct C (C x.toNat) 100) := by
    intro n
    induction n with
    | zero =>
      by_cases e : x = a
      · exact Or.inl ⟨0, Nat.le_refl 0, e, fun j hj => absurd hj (Nat.not_lt_zero j), fun j hj => by rw [Nat.le_zero.mp hj]; exact ⟨hx, hf⟩⟩
      · exact Or.inr ⟨fun j hj => by rw [Nat.le_zero.mp hj]; exact ⟨e, hx, hf⟩, by rw [show pw μ C t v x 0 = x from rfl]; omega⟩
    | succ n ih =>
      rcases ih with ⟨m, m1, m2⟩ | ⟨h1, h2⟩
      · exact Or.inl ⟨m, by omega, m2⟩
      · obtain ⟨p1, p2, p3⟩ := h1 n (Nat.le_refl n)
        obtain ⟨k, k1, k2, k3, k4, k5, k6⟩ := pd_first hL ht hv hB p2 p1 p3
        have e1 : pw μ C t v x (n + 1) = g_nb μ (pw μ C t v x n) (k : Int) := by
          show g_nb μ (pw μ C t v x n) (fF (pdc μ C t v (pw μ C t v x n)) 0 4) = _
          rw [k2]
        have kb := g_cell_b hL k5
        have hlt := ct_lt (C := C) (v := C (pw μ C t v x n).toNat) (y := (g_nb μ (pw μ C t v x n) (k : Int)).toNat) k6 100 (by omega)
        have hcell : g_cell μ (pw μ C t v x (n + 1)) ∧ C (pw μ C t v x (n + 1)).toNat < 1000000000 := by rw [e1]; exact ⟨k5, by omega⟩
        have hall : ∀ j, j ≤ n + 1 → g_cell μ (pw μ C t v x j) ∧ C (pw μ C t v x j).toNat < 1000000000 := fun j hj => by
          by_cases ej : j = n + 1
          · rw [ej]; exact hcell
          · exact (h1 j (by omega)).2
        by_cases e : pw μ C t v x (n + 1) = a
        · exact Or.inl ⟨n + 1, Nat.le_refl _, e, fun j hj => (h1 j (by omega)).1, hall⟩
        · refine Or.inr ⟨fun j hj => ⟨?_, hall j hj⟩, ?_⟩
          · by_cases ej : j = n + 1
            · rw [ej]; exact e
            · exact (h1 j (by omega)).1
          · rw [e1]; omega
  rcases key 99 with h | ⟨h1, h2⟩
  · exact h
  · have hxb := g_cell_b hL hx
    have h3 := ct_top (C := C) (y := x.toNat) 100 (by omega)
    have hc := h1 99 (Nat.le_refl _)
    have hcb := g_cell_b hL hc.2.1
    obtain ⟨k, k1, k2, k3, k4, k5, k6⟩ := pd_first hL ht hv hB hc.2.1 hc.1 hc.2.2
    have kb := g_cell_b hL k5
    have h4 := ct_lt (C := C) (v := C (pw μ C t v x 99).toNat) (y := (g_nb μ (pw μ C t v x 99) (k : Int)).toNat) k6 100 (by omega)
    omega
def nx (x : Int) : Int := w32 (w32 (x * 1103515245) + 12345)
def fal (R : Nat → Int) : Nat → Nat → Int → Int
  | 0, _, _ => 0
  | d + 1, i, x => if (m_ushr (nx x) 8).tmod 100 < R i then (i : Int) + 1 else fal R d (i + 1) (nx x)
theorem fal_t {R : Nat → Int} {d i : Nat} {x : Int} (h : (m_ushr (nx x) 8).tmod 100 < R i) : fal R (d + 1) i x = (i : Int) + 1 := if_pos h
theorem fal_f {R : Nat → Int} {d i : Nat} {x : Int} (h : ¬ (m_ushr (nx x) 8).tmod 100 < R i) : fal R (d + 1) i x = fal R d (i + 1) (nx x) := if_neg h
theorem fal_congr {R S : Nat → Int} : ∀ (d i : Nat) (x : Int), (∀ j, i ≤ j → j < i + d → R j = S j) → fal R d i x = fal S d i x
  | 0, _, _, _ => rfl
  | d + 1, i, x, h => by
    show (if (m_ushr (nx x) 8).tmod 100 < R i then (i : Int) + 1 else fal R d (i + 1) (nx x)) = (if (m_ushr (nx x) 8).tmod 100 < S i then (i : Int) + 1 else fal S d (i + 1) (nx x))
    rw [h i (by omega) (by omega), fal_congr d (i + 1) (nx x) (fun j h1 h2 => h j (by omega) (by omega))]
theorem fal_b {R : Nat → Int} : ∀ (d i : Nat) (x : Int), fal R d i x = 0 ∨ (1 ≤ fal R d i x ∧ fal R d i x ≤ (i : Int) + d)
  | 0, _, _ => Or.inl rfl
  | d + 1, i, x => by
    by_cases h : (m_ushr (nx x) 8).tmod 100 < R i
    · rw [fal_t h]; omega
    · have := fal_b (R := R) d (i + 1) (nx x)
      rw [fal_f h]; omega
set_option maxHeartbeats 4000000 in
theorem l_cheaper {μ : Nat → Nat → Int} {c s : Nat} (hL : I_land μ) {a t w v x : Int} (ht : 0 ≤ t ∧ t ≤ 99) (hv : 0 ≤ v ∧ v ≤ 99) {GC : Nat → Int} (hB : gBE μ a t w v GC) (hC : ∀ y, g_cell μ y → μ 70 y.toNat = GC y.toNat) (hx : g_cell μ x) (hf : GC x.toNat < 1000000000) {k : Nat} (k1 : k < 4) (k3 : pdc μ GC t v x k) (k4 : ∀ j, j < k → ¬ pdc μ GC t v x j) : ∀ (d n : Nat) (kk : Int) (v5 : Option MV), kk = (n : Int) → n + d = k → Rn PT none kX10_cheaper 2 [some (mR 66), some (mI (x)), some (mI (t)), some (mI (v)), some (mI (kk)), v5] [] (mkh μ c s) (fun r => r = (some (some (mI (g_nb μ x (k : Int)))), mkh μ c s)) := by
  have hL_ := hL
  obtain ⟨lc, lr, le, lm, lw, lh, lwo, lwd, q0, q1, q2, q3, q4, q8, q499, q500, lth, lG, lT, lW, -⟩ := hL_
  have hxb := g_cell_b hL hx
  have hcx := hC x hx
  have hbx := hB.2.1 x hx
  intro d
  induction d with
  | zero =>
    intro n kk v5 ekk hn 
    subst ekk
    have hN := (g_GR hL).2 x (n : Int) hx (by omega) (by omega)
    have hNb : g_nb μ x (n : Int) = -1 ∨ (0 ≤ g_nb μ x (n : Int) ∧ g_nb μ x (n : Int) < 100) := hN.imp_right (fun z => g_cell_b hL z)
    have hCn : g_nb μ x (n : Int) = -1 ∨ (μ 70 (g_nb μ x (n : Int)).toNat = GC (g_nb μ x (n : Int)).toNat ∧ 0 ≤ GC (g_nb μ x (n : Int)).toNat ∧ GC (g_nb μ x (n : Int)).toNat ≤ 1000000000) := hN.imp_right (fun z => ⟨hC _ z, hB.2.1 _ z⟩)
    have hWv : gW μ t v x (g_nb μ x (n : Int)) = 1000 * g_rk μ t v x (g_nb μ x (n : Int)) + 1 := rfl
    have e0 : n = k := by omega
    subst e0
    obtain ⟨y1, y2, y3⟩ := k3
    refine rn_iload (k' := 3) rfl rfl rfl ?_
    refine rn_iconst (k' := 4) rfl rfl ?_
    refine rn_icmp_ge (k' := 5) rfl rfl (fun hc1 => ?_) (fun hc1 => ?_)
    · exfalso; omega
    · skip
      refine rn_aload_n (k' := 6) rfl rfl rfl ?_
      refine rn_getR (k' := 7) rfl rfl K0_66 (by decide) rfl R0_66_0 ?_
      refine rn_iload_n (k' := 8) rfl rfl rfl ?_
      refine rn_iload (k' := 9) rfl rfl rfl ?_
      refine rn_callP (k' := 10) (y := 39) (vs := [mR 6, mI (x), mI ((n : Int))]) (S' := []) (v := some (mI (g_nb μ x (n : Int)))) (h' := mkh μ c s) rfl rfl rfl (k_neighbour (μ := μ) (hL) (by omega) (by omega)) ?_
      show Rn PT none kX10_cheaper 10 [some (mR 66), some (mI (x)), some (mI (t)), some (mI (v)), some (mI ((n : Int))), v5] [mI (g_nb μ x (n : Int))] (mkh μ c s) _
      refine rn_istore (k' := 11) (L' := [some (mR 66), some (mI (x)), some (mI (t)), some (mI (v)), some (mI ((n : Int))), some (mI (g_nb μ x (n : Int)))]) rfl rfl (Nat.le_of_ble_eq_true rfl) rfl ?_
      refine rn_iload (k' := 12) rfl rfl rfl ?_
      refine rn_iconst (k' := 13) rfl rfl ?_
      refine rn_icmp_eq (k' := 14) rfl rfl (fun hc2 => ?_) (fun hc2 => ?_)
      · exfalso; omega
      · skip
        refine rn_aload_n (k' := 15) rfl rfl rfl ?_
        refine rn_getR (k' := 16) rfl rfl K0_66 (by decide) rfl R0_66_4 ?_
        refine rn_iload (k' := 17) rfl rfl rfl ?_
        refine rn_iaload (k' := 18) rfl rfl K0_70 (by omega) (by omega) ?_
        refine rn_ldc (k' := 19) rfl rfl ?_
        refine rn_icmp_eq (k' := 20) rfl rfl (fun hc3 => ?_) (fun hc3 => ?_)
        · exfalso; omega
        · skip
          refine rn_aload_n (k' := 21) rfl rfl rfl ?_
          refine rn_getR (k' := 22) rfl rfl K0_66 (by decide) rfl R0_66_4 ?_
          refine rn_iload_n (k' := 23) rfl rfl rfl ?_
          refine rn_iaload (k' := 24) rfl rfl K0_70 (by omega) (by omega) ?_
          refine rn_aload_n (k' := 25) rfl rfl rfl ?_
          refine rn_getR (k' := 26) rfl rfl K0_66 (by decide) rfl R0_66_4 ?_
          refine rn_iload (k' := 27) rfl rfl rfl ?_
          refine rn_iaload (k' := 28) rfl rfl K0_70 (by omega) (by omega) ?_
          refine rn_aload_n (k' := 29) rfl rfl rfl ?_
          refine rn_iload_n (k' := 30) rfl rfl rfl ?_
          refine rn_iload (k' := 31) rfl rfl rfl ?_
          refine rn_iload_n (k' := 32) rfl rfl rfl ?_
          refine rn_iload_n (k' := 33) rfl rfl rfl ?_
          have hb4 := g_rk_b hL (t := t) (v := v) (by omega) (by omega) x (g_nb μ x (n : Int))
          refine rn_callP (k' := 34) (y := 93) (vs := [mR 66, mI (x), mI (g_nb μ x (n : Int)), mI (t), mI (v)]) (S' := [mI (μ 70 ((g_nb μ x (n : Int)).toNat)), mI (μ 70 ((x).toNat))]) (v := some (mI (g_rk μ t v x (g_nb μ x (n : Int))))) (h' := mkh μ c s) rfl rfl rfl (c_X10_riskOf hL (a := x) (b := g_nb μ x (n : Int)) (t := t) (v := v) (by omega) (by omega) (by omega) (by omega)) ?_
          show Rn PT none kX10_cheaper 34 [some (mR 66), some (mI (x)), some (mI (t)), some (mI (v)), some (mI ((n : Int))), some (mI (g_nb μ x (n : Int)))] [mI (g_rk μ t v x (g_nb μ x (n : Int))), mI (μ 70 ((g_nb μ x (n : Int)).toNat)), mI (μ 70 ((x).toNat))] (mkh μ c s) _
          refine rn_sipush (k' := 35) rfl rfl ?_
          refine rn_imul (k' := 36) rfl rfl (by omega) ?_
          refine rn_iadd (k' := 37) rfl rfl (by omega) ?_
          refine rn_iconst (k' := 38) rfl rfl ?_
          refine rn_iadd (k' := 39) rfl rfl (by omega) ?_
          refine rn_icmp_ne (k' := 40) rfl rfl (fun hc5 => ?_) (fun hc5 => ?_)
          · exfalso; omega
          · skip
            refine rn_iload (k' := 41) rfl rfl rfl ?_
            refine rn_iret rfl (Or.inl rfl) ?_
            rfl
  | succ d ih =>
    intro n kk v5 ekk hn 
    subst ekk
    have hN := (g_GR hL).2 x (n : Int) hx (by omega) (by omega)
    have hNb : g_nb μ x (n : Int) = -1 ∨ (0 ≤ g_nb μ x (n : Int) ∧ g_nb μ x (n : Int) < 100) := hN.imp_right (fun z => g_cell_b hL z)
    have hCn : g_nb μ x (n : Int) = -1 ∨ (μ 70 (g_nb μ x (n : Int)).toNat = GC (g_nb μ x (n : Int)).toNat ∧ 0 ≤ GC (g_nb μ x (n : Int)).toNat ∧ GC (g_nb μ x (n : Int)).toNat ≤ 1000000000) := hN.imp_right (fun z => ⟨hC _ z, hB.2.1 _ z⟩)
    have hWv : gW μ t v x (g_nb μ x (n : Int)) = 1000 * g_rk μ t v x (g_nb μ x (n : Int)) + 1 := rfl
    have hno : g_nb μ x (n : Int) = -1 ∨ ¬ GC (g_nb μ x (n : Int)).toNat < 1000000000 ∨ ¬ GC x.toNat = GC (g_nb μ x (n : Int)).toNat + gW μ t v x (g_nb μ x (n : Int)) := by
      by_cases z1 : g_nb μ x (n : Int) = -1
      · exact Or.inl z1
      · by_cases z2 : GC (g_nb μ x (n : Int)).toNat < 1000000000
        · exact Or.inr (Or.inr (fun z3 => k4 n (by omega) ⟨z1, z2, z3⟩))
        · exact Or.inr (Or.inl z2)
    refine rn_iload (k' := 3) rfl rfl rfl ?_
    refine rn_iconst (k' := 4) rfl rfl ?_
    refine rn_icmp_ge (k' := 5) rfl rfl (fun hc1 => ?_) (fun hc1 => ?_)
    · exfalso; omega
    · skip
      refine rn_aload_n (k' := 6) rfl rfl rfl ?_
      refine rn_getR (k' := 7) rfl rfl K0_66 (by decide) rfl R0_66_0 ?_
      refine rn_iload_n (k' := 8) rfl rfl rfl ?_
      refine rn_iload (k' := 9) rfl rfl rfl ?_
      refine rn_callP (k' := 10) (y := 39) (vs := [mR 6, mI (x), mI ((n : Int))]) (S' := []) (v := some (mI (g_nb μ x (n : Int)))) (h' := mkh μ c s) rfl rfl rfl (k_neighbour (μ := μ) (hL) (by omega) (by omega)) ?_
      show Rn PT none kX10_cheaper 10 [some (mR 66), some (mI (x)), some (mI (t)), some (mI (v)), some (mI ((n : Int))), v5] [mI (g_nb μ x (n : Int))] (mkh μ c s) _
      refine rn_istore (k' := 11) (L' := [some (mR 66), some (mI (x)), some (mI (t)), some (mI (v)), some (mI ((n : Int))), some (mI (g_nb μ x (n : Int)))]) rfl rfl (Nat.le_of_ble_eq_true rfl) rfl ?_
      refine rn_iload (k' := 12) rfl rfl rfl ?_
      refine rn_iconst (k' := 13) rfl rfl ?_
      refine rn_icmp_eq (k' := 14) rfl rfl (fun hc2 => ?_) (fun hc2 => ?_)
      · skip
        refine rn_iinc (k' := 43) (L' := [some (mR 66), some (mI (x)), some (mI (t)), some (mI (v)), some (mI ((n : Int) + 1)), some (mI (g_nb μ x (n : Int)))]) rfl rfl rfl (by omega) rfl ?_
        refine rn_goto rfl ?_
        exact ih (n + 1) _ _ (by omega) (by omega)
      · skip
        refine rn_aload_n (k' := 15) rfl rfl rfl ?_
        refine rn_getR (k' := 16) rfl rfl K0_66 (by decide) rfl R0_66_4 ?_
        refine rn_iload (k' := 17) rfl rfl rfl ?_
        refine rn_iaload (k' := 18) rfl rfl K0_70 (by omega) (by omega) ?_
        refine rn_ldc (k' := 19) rfl rfl ?_
        refine rn_icmp_eq (k' := 20) rfl rfl (fun hc3 => ?_) (fun hc3 => ?_)
        · skip
          refine rn_iinc (k' := 43) (L' := [some (mR 66), some (mI (x)), some (mI (t)), some (mI (v)), some (mI ((n : Int) + 1)), some (mI (g_nb μ x (n : Int)))]) rfl rfl rfl (by omega) rfl ?_
          refine rn_goto rfl ?_
          exact ih (n + 1) _ _ (by omega) (by omega)
        · skip
          refine rn_aload_n (k' := 21) rfl rfl rfl ?_
          refine rn_getR (k' := 22) rfl rfl K0_66 (by decide) rfl R0_66_4 ?_
          refine rn_iload_n (k' := 23) rfl rfl rfl ?_
          refine rn_iaload (k' := 24) rfl rfl K0_70 (by omega) (by omega) ?_
          refine rn_aload_n (k' := 25) rfl rfl rfl ?_
          refine rn_getR (k' := 26) rfl rfl K0_66 (by decide) rfl R0_66_4 ?_
          refine rn_iload (k' := 27) rfl rfl rfl ?_
          refine rn_iaload (k' := 28) rfl rfl K0_70 (by omega) (by omega) ?_
          refine rn_aload_n (k' := 29) rfl rfl rfl ?_
          refine rn_iload_n (k' := 30) rfl rfl rfl ?_
          refine rn_iload (k' := 31) rfl rfl rfl ?_
          refine rn_iload_n (k' := 32) rfl rfl rfl ?_
          refine rn_iload_n (k' := 33) rfl rfl rfl ?_
          have hb4 := g_rk_b hL (t := t) (v := v) (by omega) (by omega) x (g_nb μ x (n : Int))
          refine rn_callP (k' := 34) (y := 93) (vs := [mR 66, mI (x), mI (g_nb μ x (n : Int)), mI (t), mI (v)]) (S' := [mI (μ 70 ((g_nb μ x (n : Int)).toNat)), mI (μ 70 ((x).toNat))]) (v := some (mI (g_rk μ t v x (g_nb μ x (n : Int))))) (h' := mkh μ c s) rfl rfl rfl (c_X10_riskOf hL (a := x) (b := g_nb μ x (n : Int)) (t := t) (v := v) (by omega) (by omega) (by omega) (by omega)) ?_
          show Rn PT none kX10_cheaper 34 [some (mR 66), some (mI (x)), some (mI (t)), some (mI (v)), some (mI ((n : Int))), some (mI (g_nb μ x (n : Int)))] [mI (g_rk μ t v x (g_nb μ x (n : Int))), mI (μ 70 ((g_nb μ x (n : Int)).toNat)), mI (μ 70 ((x).toNat))] (mkh μ c s) _
          refine rn_sipush (k' := 35) rfl rfl ?_
          refine rn_imul (k' := 36) rfl rfl (by omega) ?_
          refine rn_iadd (k' := 37) rfl rfl (by omega) ?_
          refine rn_iconst (k' := 38) rfl rfl ?_
          refine rn_iadd (k' := 39) rfl rfl (by omega) ?_
          refine rn_icmp_ne (k' := 40) rfl rfl (fun hc5 => ?_) (fun hc5 => ?_)
          · skip
            refine rn_iinc (k' := 43) (L' := [some (mR 66), some (mI (x)), some (mI (t)), some (mI (v)), some (mI ((n : Int) + 1)), some (mI (g_nb μ x (n : Int)))]) rfl rfl rfl (by omega) rfl ?_
            refine rn_goto rfl ?_
            exact ih (n + 1) _ _ (by omega) (by omega)
          · exfalso; omega
set_option maxHeartbeats 2000000 in
theorem c_X10_cheaper {μ : Nat → Nat → Int} {c s : Nat} (hL : I_land μ) {a t w v x : Int} (ht : 0 ≤ t ∧ t ≤ 99) (hv : 0 ≤ v ∧ v ≤ 99) {GC : Nat → Int} (hB : gBE μ a t w v GC) (hC : ∀ y, g_cell μ y → μ 70 y.toNat = GC y.toNat) (hx : g_cell μ x) (hf : GC x.toNat < 1000000000) {k : Nat} (k1 : k < 4) (k3 : pdc μ GC t v x k) (k4 : ∀ j, j < k → ¬ pdc μ GC t v x j) : Cl PT 98 [mR 66, mI x, mI t, mI v] (mkh μ c s) (fun r => r = (some (some (mI (g_nb μ x (k : Int)))), mkh (μ) c s)) := by
  refine ⟨_, PT_98, Nat.le_of_ble_eq_true rfl, ?_⟩
  show Rn PT none kX10_cheaper 0 [some (mR 66), some (mI (x)), some (mI (t)), some (mI (v)), none, none] [] (mkh μ c s) _
  refine rn_iconst (k' := 1) rfl rfl ?_
  refine rn_istore (k' := 2) (L' := [some (mR 66), some (mI (x)), some (mI (t)), some (mI (v)), some (mI (0)), none]) rfl rfl (Nat.le_of_ble_eq_true rfl) rfl ?_
  exact l_cheaper hL ht hv hB hC hx hf k1 k3 k4 k 0 _ _ rfl (by omega)
set_option maxHeartbeats 4000000 in
theorem l_layWay {μ : Nat → Nat → Int} {c s : Nat} {dy : Int} (hL : I_land μ) {a t w v x : Int} (ht : 0 ≤ t ∧ t ≤ 99) (hv : 0 ≤ v ∧ v ≤ 99) {GC : Nat → Int} (hB : gBE μ a t w v GC) (hC : ∀ y, g_cell μ y → μ 70 y.toNat = GC y.toNat) (ha : g_cell μ a) {m : Nat} (hm : m ≤ 99) (h1 : pw μ GC t v x m = a) (h2 : ∀ j, j < m → ¬ pw μ GC t v x j = a) (h3 : ∀ j, j ≤ m → g_cell μ (pw μ GC t v x j) ∧ GC (pw μ GC t v x j).toNat < 1000000000) : ∀ (d n : Nat) (k : Int) (at_ : Int) (H : Nat → Int) (T : Nat → Int) (R : Nat → Int) (v8 : Option MV), k = (n : Int) → at_ = (pw μ GC t v x n) → n + d = m → (H 8 = (n : Int)) → (∀ j, j ≤ n → T j = pw μ GC t v x j) → (∀ j, j < n → R j = g_rk μ t v (pw μ GC t v x j) (pw μ GC t v x (j + 1))) → Rn PT none kX10_layWay 28 [some (mR 66), some (mI (x)), some (mI (a)), some (mI (t)), some (mI (dy)), some (mI (v)), some (mI (at_)), some (mI (k)), v8] [] (mkh (m_upd (m_upd (m_upd μ 66 H) 72 T) 73 R) c s) (fun r => ∃ H T R, r = (some (some (mI 1)), mkh (m_upd (m_upd (m_upd μ 66 H) 72 T) 73 R) c s) ∧ H 8 = (m : Int) ∧ (∀ j, j ≤ m → T j = pw μ GC t v x j) ∧ ∀ j, j < m → R j = g_rk μ t v (pw μ GC t v x j) (pw μ GC t v x (j + 1))) := by
  have hL_ := hL
  obtain ⟨lc, lr, le, lm, lw, lh, lwo, lwd, q0, q1, q2, q3, q4, q8, q499, q500, lth, lG, lT, lW, -⟩ := hL_
  intro d
  induction d with
  | zero =>
    intro n k at_ H T R v8 ek eat_ hn hH hT hR
    subst ek eat_
    have en : n = m := by omega
    subst en
    refine rn_iload (k' := 29) rfl rfl rfl ?_
    refine rn_iconst (k' := 30) rfl rfl ?_
    refine rn_iadd (k' := 31) rfl rfl (by omega) ?_
    refine rn_bipush (k' := 32) rfl rfl ?_
    refine rn_icmp_ge (k' := 33) rfl rfl (fun hc1 => ?_) (fun hc1 => ?_)
    · skip
      refine rn_iconst (k' := 69) rfl rfl ?_
      refine rn_iret rfl (Or.inr (by omega)) ?_
      exact ⟨H, T, R, rfl, hH, hT, hR⟩
    · skip
      refine rn_iload (k' := 34) rfl rfl rfl ?_
      refine rn_iload_n (k' := 35) rfl rfl rfl ?_
      refine rn_icmp_eq (k' := 36) rfl rfl (fun hc2 => ?_) (fun hc2 => ?_)
      · skip
        refine rn_iconst (k' := 69) rfl rfl ?_
        refine rn_iret rfl (Or.inr (by omega)) ?_
        exact ⟨H, T, R, rfl, hH, hT, hR⟩
      · exfalso; omega
  | succ d ih =>
    intro n k at_ H T R v8 ek eat_ hn hH hT hR
    subst ek eat_
    obtain ⟨hp1, hp3⟩ := h3 n (by omega)
    have hp2 := h2 n (by omega)
    obtain ⟨kk, k1, k2, k3, k4, k5, k6⟩ := pd_first hL ht hv hB hp1 hp2 hp3
    have hpb := g_cell_b hL hp1
    have k5b := g_cell_b hL k5
    have epw : pw μ GC t v x (n + 1) = g_nb μ (pw μ GC t v x n) (kk : Int) := by
      show g_nb μ (pw μ GC t v x n) (fF (pdc μ GC t v (pw μ GC t v x n)) 0 4) = _
      rw [k2]
    refine rn_iload (k' := 29) rfl rfl rfl ?_
    refine rn_iconst (k' := 30) rfl rfl ?_
    refine rn_iadd (k' := 31) rfl rfl (by omega) ?_
    refine rn_bipush (k' := 32) rfl rfl ?_
    refine rn_icmp_ge (k' := 33) rfl rfl (fun hc1 => ?_) (fun hc1 => ?_)
    · exfalso; omega
    · skip
      refine rn_iload (k' := 34) rfl rfl rfl ?_
      refine rn_iload_n (k' := 35) rfl rfl rfl ?_
      refine rn_icmp_eq (k' := 36) rfl rfl (fun hc2 => ?_) (fun hc2 => ?_)
      · exfalso; omega
      · skip
        refine rn_aload_n (k' := 37) rfl rfl rfl ?_
        refine rn_iload (k' := 38) rfl rfl rfl ?_
        refine rn_iload_n (k' := 39) rfl rfl rfl ?_
        refine rn_iload (k' := 40) rfl rfl rfl ?_
        have hcl3 := c_X10_cheaper (μ := (m_upd (m_upd (m_upd μ 66 H) 72 T) 73 R)) (c := c) (s := s) ((((hL).upd rfl).upd rfl).upd rfl) (a := a) (t := t) (w := w) (v := v) (x := (pw μ GC t v x n)) ht hv (GC := GC) (by rw [gBE_rows (ν := (m_upd (m_upd (m_upd μ 66 H) 72 T) 73 R)) (μ := μ) rfl rfl rfl]; exact hB) hC hp1 hp3 (k := kk) k1 (by rw [pd_rows (ν := (m_upd (m_upd (m_upd μ 66 H) 72 T) 73 R)) (μ := μ) rfl rfl]; exact k3) (fun j hj => by rw [pd_rows (ν := (m_upd (m_upd (m_upd μ 66 H) 72 T) 73 R)) (μ := μ) rfl rfl]; exact k4 j hj)
        refine rn_callP (k' := 41) (y := 98) (vs := [mR 66, mI ((pw μ GC t v x n)), mI (t), mI (v)]) (S' := []) (v := some (mI (g_nb μ (pw μ GC t v x n) (kk : Int)))) (h' := mkh (m_upd (m_upd (m_upd μ 66 H) 72 T) 73 R) c s) rfl rfl rfl (hcl3) ?_
        show Rn PT none kX10_layWay 41 [some (mR 66), some (mI (x)), some (mI (a)), some (mI (t)), some (mI (dy)), some (mI (v)), some (mI ((pw μ GC t v x n))), some (mI ((n : Int))), v8] [mI (g_nb μ (pw μ GC t v x n) (kk : Int))] (mkh (m_upd (m_upd (m_upd μ 66 H) 72 T) 73 R) c s) _
        refine rn_istore (k' := 42) (L' := [some (mR 66), some (mI (x)), some (mI (a)), some (mI (t)), some (mI (dy)), some (mI (v)), some (mI ((pw μ GC t v x n))), some (mI ((n : Int))), some (mI (g_nb μ (pw μ GC t v x n) (kk : Int)))]) rfl rfl (Nat.le_of_ble_eq_true rfl) rfl ?_
        refine rn_aload_n (k' := 43) rfl rfl rfl ?_
        refine rn_getR (k' := 44) rfl rfl K0_66 (by decide) rfl R0_66_7 ?_
        refine rn_iload (k' := 45) rfl rfl rfl ?_
        refine rn_aload_n (k' := 46) rfl rfl rfl ?_
        refine rn_iload (k' := 47) rfl rfl rfl ?_
        refine rn_iload (k' := 48) rfl rfl rfl ?_
        refine rn_iload_n (k' := 49) rfl rfl rfl ?_
        refine rn_iload (k' := 50) rfl rfl rfl ?_
        have hb4 := g_rk_b hL (t := t) (v := v) (by omega) (by omega) (pw μ GC t v x n) (g_nb μ (pw μ GC t v x n) (kk : Int))
        refine rn_callP (k' := 51) (y := 93) (vs := [mR 66, mI ((pw μ GC t v x n)), mI (g_nb μ (pw μ GC t v x n) (kk : Int)), mI (t), mI (v)]) (S' := [mI ((n : Int)), mR 73]) (v := some (mI (g_rk μ t v (pw μ GC t v x n) (g_nb μ (pw μ GC t v x n) (kk : Int))))) (h' := mkh (m_upd (m_upd (m_upd μ 66 H) 72 T) 73 R) c s) rfl rfl rfl (by have h := c_X10_riskOf (μ := (m_upd (m_upd (m_upd μ 66 H) 72 T) 73 R)) (c := c) (s := s) ((((hL).upd rfl).upd rfl).upd rfl) (a := (pw μ GC t v x n)) (b := g_nb μ (pw μ GC t v x n) (kk : Int)) (t := t) (v := v) (by omega) (by omega) (by omega) (by omega); rw [g_rk_rows (ν := (m_upd (m_upd (m_upd μ 66 H) 72 T) 73 R)) (μ := μ) rfl] at h; exact h) ?_
        show Rn PT none kX10_layWay 51 [some (mR 66), some (mI (x)), some (mI (a)), some (mI (t)), some (mI (dy)), some (mI (v)), some (mI ((pw μ GC t v x n))), some (mI ((n : Int))), some (mI (g_nb μ (pw μ GC t v x n) (kk : Int)))] [mI (g_rk μ t v (pw μ GC t v x n) (g_nb μ (pw μ GC t v x n) (kk : Int))), mI ((n : Int)), mR 73] (mkh (m_upd (m_upd (m_upd μ 66 H) 72 T) 73 R) c s) _
        refine rn_iastore (k' := 52) rfl rfl K0_73 (by omega) (by omega) ?_
        refine rn_aload_n (k' := 53) rfl rfl rfl ?_
        refine rn_getR (k' := 54) rfl rfl K0_66 (by decide) rfl R0_66_6 ?_
        refine rn_iload (k' := 55) rfl rfl rfl ?_
        refine rn_iconst (k' := 56) rfl rfl ?_
        refine rn_iadd (k' := 57) rfl rfl (by omega) ?_
        refine rn_iload (k' := 58) rfl rfl rfl ?_
        refine rn_iastore (k' := 59) rfl rfl K0_72 (by omega) (by omega) ?_
        refine rn_aload_n (k' := 60) rfl rfl rfl ?_
        refine rn_iload (k' := 61) rfl rfl rfl ?_
        refine rn_iconst (k' := 62) rfl rfl ?_
        refine rn_iadd (k' := 63) rfl rfl (by omega) ?_
        refine rn_putI (k' := 64) rfl rfl K0_66 (by decide) rfl ?_
        refine rn_iload (k' := 65) rfl rfl rfl ?_
        refine rn_istore (k' := 66) (L' := [some (mR 66), some (mI (x)), some (mI (a)), some (mI (t)), some (mI (dy)), some (mI (v)), some (mI (g_nb μ (pw μ GC t v x n) (kk : Int))), some (mI ((n : Int))), some (mI (g_nb μ (pw μ GC t v x n) (kk : Int)))]) rfl rfl (Nat.le_of_ble_eq_true rfl) rfl ?_
        refine rn_iinc (k' := 67) (L' := [some (mR 66), some (mI (x)), some (mI (a)), some (mI (t)), some (mI (dy)), some (mI (v)), some (mI (g_nb μ (pw μ GC t v x n) (kk : Int))), some (mI ((n : Int) + 1)), some (mI (g_nb μ (pw μ GC t v x n) (kk : Int)))]) rfl rfl rfl (by omega) rfl ?_
        refine rn_goto rfl ?_
        show Rn PT none kX10_layWay 28 [some (mR 66), some (mI (x)), some (mI (a)), some (mI (t)), some (mI (dy)), some (mI (v)), some (mI (g_nb μ (pw μ GC t v x n) (kk : Int))), some (mI ((n : Int) + 1)), some (mI (g_nb μ (pw μ GC t v x n) (kk : Int)))] [] (mkh (m_set (m_set (m_set (m_upd (m_upd (m_upd μ 66 H) 72 T) 73 R) 73 n (g_rk μ t v (pw μ GC t v x n) (g_nb μ (pw μ GC t v x n) (kk : Int)))) 72 (((n : Int) + 1).toNat) (g_nb μ (pw μ GC t v x n) (kk : Int))) 66 8 ((n : Int) + 1)) c s) _
        rw [show ((n : Int) + 1).toNat = n + 1 by omega]
        rw [upd3_of (μ := μ) (ν := (m_set (m_set (m_set (m_upd (m_upd (m_upd μ 66 H) 72 T) 73 R) 73 n (g_rk μ t v (pw μ GC t v x n) (g_nb μ (pw μ GC t v x n) (kk : Int)))) 72 (n + 1) (g_nb μ (pw μ GC t v x n) (kk : Int))) 66 8 ((n : Int) + 1))) (x := 66) (y := 72) (z := 73) (fun b hb66 hb72 hb73 => ((row_set hb66).trans ((row_set hb72).trans ((row_set hb73).trans ((row_upd hb73).trans ((row_upd hb72).trans (row_upd hb66)))))))]
        exact ih (n + 1) _ _ _ _ _ _ (by omega) (by rw [epw]) (by omega) rfl (fun j hj => by
          rw [row_set (show ¬ 72 = 66 by decide), row_set_eq]
          show fs T (n + 1) (g_nb μ (pw μ GC t v x n) (kk : Int)) j = _
          by_cases e : j = n + 1
          · rw [e, fs_eq, epw]
          · rw [fs_ne e]; exact hT j (by omega)) (fun j hj => by
          rw [row_set (show ¬ 73 = 66 by decide), row_set (show ¬ 73 = 72 by decide), row_set_eq]
          show fs R n (g_rk μ t v (pw μ GC t v x n) (g_nb μ (pw μ GC t v x n) (kk : Int))) j = _
          by_cases e : j = n
          · rw [e, fs_eq, epw]
          · rw [fs_ne e]; exact hR j (by omega))
set_option maxHeartbeats 4000000 in
theorem x_layWay {μ : Nat → Nat → Int} {c s : Nat} (hL : I_land μ) {x a t dy : Int} (hx : g_cell μ x) (ha : g_cell μ a) (ht : 0 ≤ t ∧ t ≤ 99) (hd : 0 ≤ dy ∧ dy ≤ 29) (hway : (g_ok μ x a t (g_w μ 0 dy) ∧ (g_C μ a t (g_w μ 0 dy) (g_w μ 1 dy)) x.toNat < 1000000000)) : Cl PT 97 [mR 66, mI x, mI a, mI t, mI dy] (mkh μ c s) (fun r => ∃ (M : Nat → Nat → Int) (m : Nat), r = (some (some (mI 1)), mkh M c s) ∧ rst M = rst μ ∧ m ≤ 99 ∧ pw μ (g_C μ a t (g_w μ 0 dy) (g_w μ 1 dy)) t (g_w μ 1 dy) x m = a ∧ (∀ j, j < m → ¬ pw μ (g_C μ a t (g_w μ 0 dy) (g_w μ 1 dy)) t (g_w μ 1 dy) x j = a) ∧ M 66 8 = (m : Int) ∧ (∀ j, j ≤ m → M 72 j = pw μ (g_C μ a t (g_w μ 0 dy) (g_w μ 1 dy)) t (g_w μ 1 dy) x j) ∧ ∀ j, j < m → M 73 j = g_rk μ t (g_w μ 1 dy) (pw μ (g_C μ a t (g_w μ 0 dy) (g_w μ 1 dy)) t (g_w μ 1 dy) x j) (pw μ (g_C μ a t (g_w μ 0 dy) (g_w μ 1 dy)) t (g_w μ 1 dy) x (j + 1))) := by
  have hL_ := hL
  obtain ⟨lc, lr, le, lm, lw, lh, lwo, lwd, q0, q1, q2, q3, q4, q8, q499, q500, lth, lG, lT, lW, -⟩ := hL_
  have hxb := g_cell_b hL hx
  have hab := g_cell_b hL ha
  have hvb := g_w_b hL 1 dy
  have hval : (if g_ok μ x a t (g_w μ 0 dy) then rsk (g_C μ a t (g_w μ 0 dy) (g_w μ 1 dy)) x else -1) = ((g_C μ a t (g_w μ 0 dy) (g_w μ 1 dy)) x.toNat).tdiv 1000 := by
    rw [if_pos hway.1]
    unfold rsk
    have := hway.2
    rw [if_neg (by omega)]
  have hnn : 0 ≤ ((g_C μ a t (g_w μ 0 dy) (g_w μ 1 dy)) x.toNat).tdiv 1000 := by
    refine Int.tdiv_nonneg ?_ (by decide)
    obtain ⟨O, C, Z, hBC, -⟩ := c_leastRisk (μ := μ) (c := c) (s := s) hL hx ha ht hd
    exact ((g_C_be (hBC hway.1)).2.1 x hx).1
  refine ⟨_, PT_97, Nat.le_of_ble_eq_true rfl, ?_⟩
  show Rn PT none kX10_layWay 0 [some (mR 66), some (mI (x)), some (mI (a)), some (mI (t)), some (mI (dy)), none, none, none, none] [] (mkh μ c s) _
  refine rn_aload_n (k' := 1) rfl rfl rfl ?_
  refine rn_iconst (k' := 2) rfl rfl ?_
  refine rn_putI (k' := 3) rfl rfl K0_66 (by decide) rfl ?_
  refine rn_aload_n (k' := 4) rfl rfl rfl ?_
  refine rn_iload_n (k' := 5) rfl rfl rfl ?_
  refine rn_iload_n (k' := 6) rfl rfl rfl ?_
  refine rn_iload_n (k' := 7) rfl rfl rfl ?_
  refine rn_iload (k' := 8) rfl rfl rfl ?_
  obtain ⟨O, C, Z, hBC, hcl⟩ := c_leastRisk (μ := (m_set μ 66 8 (0))) (c := c) (s := s) ((hL).set rfl) (x := x) (a := a) (t := t) (dy := dy) hx ha ht hd
  rw [g_C_rows (ν := (m_set μ 66 8 (0))) (μ := μ) rfl rfl rfl] at hcl
  rw [gBE_rows (ν := (m_set μ 66 8 (0))) (μ := μ) rfl rfl rfl] at hBC
  have hcl2 : Cl PT 94 [mR 66, mI x, mI a, mI t, mI dy] (mkh (m_set μ 66 8 (0)) c s) (fun r => r = (some (some (mI (((g_C μ a t (g_w μ 0 dy) (g_w μ 1 dy)) x.toNat).tdiv 1000))), mkh (m_upd (m_upd (m_upd (m_set μ 66 8 (0)) 67 O) 70 C) 71 Z) c s)) := by
    have hz := hcl
    rw [show (if g_ok (m_set μ 66 8 (0)) x a t (g_w (m_set μ 66 8 (0)) 0 dy) then rsk (g_C μ a t (g_w (m_set μ 66 8 (0)) 0 dy) (g_w (m_set μ 66 8 (0)) 1 dy)) x else -1) = ((g_C μ a t (g_w μ 0 dy) (g_w μ 1 dy)) x.toNat).tdiv 1000 from hval] at hz
    exact hz
  refine rn_callP (k' := 9) (y := 94) (vs := [mR 66, mI (x), mI (a), mI (t), mI (dy)]) (S' := []) (v := some (mI (((g_C μ a t (g_w μ 0 dy) (g_w μ 1 dy)) x.toNat).tdiv 1000))) (h' := mkh (m_upd (m_upd (m_upd (m_set μ 66 8 (0)) 67 O) 70 C) 71 Z) c s) rfl rfl rfl (hcl2) ?_
  show Rn PT none kX10_layWay 9 [some (mR 66), some (mI (x)), some (mI (a)), some (mI (t)), some (mI (dy)), none, none, none, none] [mI (((g_C μ a t (g_w μ 0 dy) (g_w μ 1 dy)) x.toNat).tdiv 1000)] (mkh (m_upd (m_upd (m_upd (m_set μ 66 8 (0)) 67 O) 70 C) 71 Z) c s) _
  refine rn_iconst (k' := 10) rfl rfl ?_
  refine rn_icmp_ne (k' := 11) rfl rfl (fun hc2 => ?_) (fun hc2 => ?_)
  · skip
    refine rn_aload_n (k' := 14) rfl rfl rfl ?_
    refine rn_getR (k' := 15) rfl rfl K0_66 (by decide) rfl R0_66_0 ?_
    refine rn_iconst (k' := 16) rfl rfl ?_
    refine rn_iload (k' := 17) rfl rfl rfl ?_
    have hb3 := g_w_b hL 1 dy
    refine rn_callP (k' := 18) (y := 32) (vs := [mR 6, mI (1), mI (dy)]) (S' := []) (v := some (mI (g_w μ 1 dy))) (h' := mkh (m_upd (m_upd (m_upd (m_set μ 66 8 (0)) 67 O) 70 C) 71 Z) c s) rfl rfl rfl (k_weatherOn (μ := (m_upd (m_upd (m_upd (m_set μ 66 8 (0)) 67 O) 70 C) 71 Z)) (((((hL).set rfl).upd rfl).upd rfl).upd rfl) (by omega) (by omega)) ?_
    show Rn PT none kX10_layWay 18 [some (mR 66), some (mI (x)), some (mI (a)), some (mI (t)), some (mI (dy)), none, none, none, none] [mI (g_w μ 1 dy)] (mkh (m_upd (m_upd (m_upd (m_set μ 66 8 (0)) 67 O) 70 C) 71 Z) c s) _
    refine rn_istore (k' := 19) (L' := [some (mR 66), some (mI (x)), some (mI (a)), some (mI (t)), some (mI (dy)), some (mI (g_w μ 1 dy)), none, none, none]) rfl rfl (Nat.le_of_ble_eq_true rfl) rfl ?_
    refine rn_iload_n (k' := 20) rfl rfl rfl ?_
    refine rn_istore (k' := 21) (L' := [some (mR 66), some (mI (x)), some (mI (a)), some (mI (t)), some (mI (dy)), some (mI (g_w μ 1 dy)), some (mI (x)), none, none]) rfl rfl (Nat.le_of_ble_eq_true rfl) rfl ?_
    refine rn_aload_n (k' := 22) rfl rfl rfl ?_
    refine rn_getR (k' := 23) rfl rfl K0_66 (by decide) rfl R0_66_6 ?_
    refine rn_iconst (k' := 24) rfl rfl ?_
    refine rn_iload_n (k' := 25) rfl rfl rfl ?_
    refine rn_iastore (k' := 26) rfl rfl K0_72 (by omega) (by omega) ?_
    refine rn_iconst (k' := 27) rfl rfl ?_
    refine rn_istore (k' := 28) (L' := [some (mR 66), some (mI (x)), some (mI (a)), some (mI (t)), some (mI (dy)), some (mI (g_w μ 1 dy)), some (mI (x)), some (mI (0)), none]) rfl rfl (Nat.le_of_ble_eq_true rfl) rfl ?_
    have hB := hBC hway.1
    have hB2 := g_C_be hB
    obtain ⟨m, m1, m2, m3, m4⟩ := pw_len hL ht hvb hB2 hx hway.2
    show Rn PT none kX10_layWay 28 [some (mR 66), some (mI (x)), some (mI (a)), some (mI (t)), some (mI (dy)), some (mI (g_w μ 1 dy)), some (mI (x)), some (mI (0)), none] [] (mkh (m_set (m_upd (m_upd (m_upd (m_set μ 66 8 (0)) 67 O) 70 C) 71 Z) 72 0 (x)) c s) _
    rw [upd3_of (μ := (m_upd (m_upd (m_upd (m_set μ 66 8 (0)) 67 O) 70 C) 71 Z)) (ν := (m_set (m_upd (m_upd (m_upd (m_set μ 66 8 (0)) 67 O) 70 C) 71 Z) 72 0 (x))) (x := 66) (y := 72) (z := 73) (fun b hb66 hb72 hb73 => row_set hb72)]
    have h := l_layWay (μ := (m_upd (m_upd (m_upd (m_set μ 66 8 (0)) 67 O) 70 C) 71 Z)) (c := c) (s := s) (dy := dy) (((((hL).set rfl).upd rfl).upd rfl).upd rfl) (a := a) (t := t) (w := (g_w μ 0 dy)) (v := (g_w μ 1 dy)) (x := x) ht hvb (GC := (g_C μ a t (g_w μ 0 dy) (g_w μ 1 dy))) (by rw [gBE_rows (ν := (m_upd (m_upd (m_upd (m_set μ 66 8 (0)) 67 O) 70 C) 71 Z)) (μ := μ) rfl rfl rfl]; exact hB2) (fun y hy => g_C_eq hL ht hvb hB hy) ha m1 ((pw_rows (ν := (m_upd (m_upd (m_upd (m_set μ 66 8 (0)) 67 O) 70 C) 71 Z)) (μ := μ) rfl rfl m).trans m2) (fun j hj => by rw [pw_rows (ν := (m_upd (m_upd (m_upd (m_set μ 66 8 (0)) 67 O) 70 C) 71 Z)) (μ := μ) rfl rfl j]; exact m3 j hj) (fun j hj => by rw [pw_rows (ν := (m_upd (m_upd (m_upd (m_set μ 66 8 (0)) 67 O) 70 C) 71 Z)) (μ := μ) rfl rfl j]; exact m4 j hj) m 0 0 x ((m_set (m_upd (m_upd (m_upd (m_set μ 66 8 (0)) 67 O) 70 C) 71 Z) 72 0 (x)) 66) ((m_set (m_upd (m_upd (m_upd (m_set μ 66 8 (0)) 67 O) 70 C) 71 Z) 72 0 (x)) 72) ((m_set (m_upd (m_upd (m_upd (m_set μ 66 8 (0)) 67 O) 70 C) 71 Z) 72 0 (x)) 73) none rfl rfl (by omega) rfl (fun j hj => by have e : j = 0 := Nat.le_zero.mp hj; subst e; rfl) (fun j hj => absurd hj (Nat.not_lt_zero j))
    refine h.mono (fun r hr => ?_)
    obtain ⟨H, T, R, e1, e2, e3, e4⟩ := hr
    refine ⟨_, m, e1, ?_, m1, m2, m3, e2, fun j hj => ?_, fun j hj => ?_⟩
    · exact (rst_upd (fun _ => rfl)).trans ((rst_upd (fun _ => rfl)).trans ((rst_upd1 (a := 66) (fun j hj => by cases hj)).trans ((rst_upd (a := 71) (fun _ => rfl)).trans ((rst_upd (a := 70) (fun _ => rfl)).trans ((rst_upd (a := 67) (fun _ => rfl)).trans (rst_set (a := 66) (j := 8) rfl))))))
    · exact (e3 j hj).trans (pw_rows (ν := (m_upd (m_upd (m_upd (m_set μ 66 8 (0)) 67 O) 70 C) 71 Z)) (μ := μ) rfl rfl j)
    · refine (e4 j hj).trans ?_
      rw [g_rk_rows (ν := (m_upd (m_upd (m_upd (m_set μ 66 8 (0)) 67 O) 70 C) 71 Z)) (μ := μ) rfl, pw_rows (ν := (m_upd (m_upd (m_upd (m_set μ 66 8 (0)) 67 O) 70 C) 71 Z)) (μ := μ) rfl rfl j, pw_rows (ν := (m_upd (m_upd (m_upd (m_set μ 66 8 (0)) 67 O) 70 C) 71 Z)) (μ := μ) rfl rfl (j + 1)]
  · exfalso; omega
set_option maxHeartbeats 4000000 in
theorem n_layWay {μ : Nat → Nat → Int} {c s : Nat} (hL : I_land μ) {x a t dy : Int} (hx : g_cell μ x) (ha : g_cell μ a) (ht : 0 ≤ t ∧ t ≤ 99) (hd : 0 ≤ dy ∧ dy ≤ 29) (hway : ¬ (g_ok μ x a t (g_w μ 0 dy) ∧ (g_C μ a t (g_w μ 0 dy) (g_w μ 1 dy)) x.toNat < 1000000000)) : Cl PT 97 [mR 66, mI x, mI a, mI t, mI dy] (mkh μ c s) (fun r => ∃ M : Nat → Nat → Int, r = (some (some (mI 0)), mkh M c s) ∧ rst M = rst μ) := by
  have hL_ := hL
  obtain ⟨lc, lr, le, lm, lw, lh, lwo, lwd, q0, q1, q2, q3, q4, q8, q499, q500, lth, lG, lT, lW, -⟩ := hL_
  have hxb := g_cell_b hL hx
  have hab := g_cell_b hL ha
  have hvb := g_w_b hL 1 dy
  have hval : (if g_ok μ x a t (g_w μ 0 dy) then rsk (g_C μ a t (g_w μ 0 dy) (g_w μ 1 dy)) x else -1) = -1 := by
    by_cases e : g_ok μ x a t (g_w μ 0 dy)
    · rw [if_pos e]
      unfold rsk
      obtain ⟨O, C, Z, hBC, -⟩ := c_leastRisk (μ := μ) (c := c) (s := s) hL hx ha ht hd
      have h2 := ((g_C_be (hBC e)).2.1 x hx).2
      have h3 : ¬ (g_C μ a t (g_w μ 0 dy) (g_w μ 1 dy)) x.toNat < 1000000000 := fun z => hway ⟨e, z⟩
      rw [if_pos (by omega)]
    · rw [if_neg e]
  refine ⟨_, PT_97, Nat.le_of_ble_eq_true rfl, ?_⟩
  show Rn PT none kX10_layWay 0 [some (mR 66), some (mI (x)), some (mI (a)), some (mI (t)), some (mI (dy)), none, none, none, none] [] (mkh μ c s) _
  refine rn_aload_n (k' := 1) rfl rfl rfl ?_
  refine rn_iconst (k' := 2) rfl rfl ?_
  refine rn_putI (k' := 3) rfl rfl K0_66 (by decide) rfl ?_
  refine rn_aload_n (k' := 4) rfl rfl rfl ?_
  refine rn_iload_n (k' := 5) rfl rfl rfl ?_
  refine rn_iload_n (k' := 6) rfl rfl rfl ?_
  refine rn_iload_n (k' := 7) rfl rfl rfl ?_
  refine rn_iload (k' := 8) rfl rfl rfl ?_
  obtain ⟨O, C, Z, hBC, hcl⟩ := c_leastRisk (μ := (m_set μ 66 8 (0))) (c := c) (s := s) ((hL).set rfl) (x := x) (a := a) (t := t) (dy := dy) hx ha ht hd
  rw [g_C_rows (ν := (m_set μ 66 8 (0))) (μ := μ) rfl rfl rfl] at hcl
  rw [gBE_rows (ν := (m_set μ 66 8 (0))) (μ := μ) rfl rfl rfl] at hBC
  have hcl2 : Cl PT 94 [mR 66, mI x, mI a, mI t, mI dy] (mkh (m_set μ 66 8 (0)) c s) (fun r => r = (some (some (mI (-1))), mkh (m_upd (m_upd (m_upd (m_set μ 66 8 (0)) 67 O) 70 C) 71 Z) c s)) := by
    have hz := hcl
    rw [show (if g_ok (m_set μ 66 8 (0)) x a t (g_w (m_set μ 66 8 (0)) 0 dy) then rsk (g_C μ a t (g_w (m_set μ 66 8 (0)) 0 dy) (g_w (m_set μ 66 8 (0)) 1 dy)) x else -1) = -1 from hval] at hz
    exact hz
  refine rn_callP (k' := 9) (y := 94) (vs := [mR 66, mI (x), mI (a), mI (t), mI (dy)]) (S' := []) (v := some (mI (-1))) (h' := mkh (m_upd (m_upd (m_upd (m_set μ 66 8 (0)) 67 O) 70 C) 71 Z) c s) rfl rfl rfl (hcl2) ?_
  show Rn PT none kX10_layWay 9 [some (mR 66), some (mI (x)), some (mI (a)), some (mI (t)), some (mI (dy)), none, none, none, none] [mI (-1)] (mkh (m_upd (m_upd (m_upd (m_set μ 66 8 (0)) 67 O) 70 C) 71 Z) c s) _
  refine rn_iconst (k' := 10) rfl rfl ?_
  refine rn_icmp_ne (k' := 11) rfl rfl (fun hc2 => ?_) (fun hc2 => ?_)
  · exfalso; omega
  · skip
    refine rn_iconst (k' := 12) rfl rfl ?_
    refine rn_iret rfl (Or.inr (by omega)) ?_
    exact ⟨_, rfl, ((rst_upd (a := 71) (fun _ => rfl)).trans ((rst_upd (a := 70) (fun _ => rfl)).trans ((rst_upd (a := 67) (fun _ => rfl)).trans (rst_set (a := 66) (j := 8) rfl))))⟩
set_option maxHeartbeats 4000000 in
theorem l_fallOf {μ : Nat → Nat → Int} {c s : Nat} {m : Nat} (hm : μ 66 8 = (m : Int)) (hm1 : m ≤ 99) {sd : Int} : ∀ (d n : Nat) (k : Int) (x : Int), k = (n : Int) → n + d = m → (fal (μ 73) m 0 sd = fal (μ 73) d n x) → Rn PT none kX10_fallOf 4 [some (mR 66), some (mI (sd)), some (mI (x)), some (mI (k))] [] (mkh μ c s) (fun r => r = (some (some (mI (fal (μ 73) m 0 sd))), mkh μ c s)) := by
  intro d
  induction d with
  | zero =>
    intro n k x ek hn hq
    subst ek
    refine rn_iload_n (k' := 5) rfl rfl rfl ?_
    refine rn_aload_n (k' := 6) rfl rfl rfl ?_
    refine rn_getI (k' := 7) rfl rfl K0_66 (by decide) rfl ?_
    refine rn_icmp_ge (k' := 8) rfl rfl (fun hc1 => ?_) (fun hc1 => ?_)
    · skip
      refine rn_iconst (k' := 31) rfl rfl ?_
      refine rn_iret rfl (Or.inl rfl) ?_
      rw [hq]
      rfl
    · exfalso; omega
  | succ d ih =>
    intro n k x ek hn hq
    subst ek
    refine rn_iload_n (k' := 5) rfl rfl rfl ?_
    refine rn_aload_n (k' := 6) rfl rfl rfl ?_
    refine rn_getI (k' := 7) rfl rfl K0_66 (by decide) rfl ?_
    refine rn_icmp_ge (k' := 8) rfl rfl (fun hc1 => ?_) (fun hc1 => ?_)
    · exfalso; omega
    · skip
      refine rn_iload_n (k' := 9) rfl rfl rfl ?_
      refine rn_ldc (k' := 10) rfl rfl ?_
      refine rn_imulW (k' := 11) rfl rfl ?_
      refine rn_sipush (k' := 12) rfl rfl ?_
      refine rn_iaddW (k' := 13) rfl rfl ?_
      refine rn_istore_n (k' := 14) (L' := [some (mR 66), some (mI (sd)), some (mI (w32 ((w32 (x * 1103515245)) + 12345))), some (mI ((n : Int)))]) rfl rfl (Nat.le_of_ble_eq_true rfl) rfl ?_
      refine rn_iload_n (k' := 15) rfl rfl rfl ?_
      refine rn_bipush (k' := 16) rfl rfl ?_
      refine rn_iushr (k' := 17) rfl rfl ?_
      refine rn_bipush (k' := 18) rfl rfl ?_
      refine rn_irem (k' := 19) rfl rfl (by decide) ?_
      refine rn_aload_n (k' := 20) rfl rfl rfl ?_
      refine rn_getR (k' := 21) rfl rfl K0_66 (by decide) rfl R0_66_7 ?_
      refine rn_iload_n (k' := 22) rfl rfl rfl ?_
      refine rn_iaload (k' := 23) rfl rfl K0_73 (by omega) (by omega) ?_
      show Rn PT none kX10_fallOf 23 [some (mR 66), some (mI (sd)), some (mI (w32 ((w32 (x * 1103515245)) + 12345))), some (mI ((n : Int)))] [mI (μ 73 (n)), mI ((m_ushr (w32 ((w32 (x * 1103515245)) + 12345)) (8)).tmod (100))] (mkh μ c s) _
      refine rn_icmp_ge (k' := 24) rfl rfl (fun hc2 => ?_) (fun hc2 => ?_)
      · skip
        refine rn_iinc (k' := 29) (L' := [some (mR 66), some (mI (sd)), some (mI (w32 ((w32 (x * 1103515245)) + 12345))), some (mI ((n : Int) + 1))]) rfl rfl rfl (by omega) rfl ?_
        refine rn_goto rfl ?_
        exact ih (n + 1) _ _ (by omega) (by omega) (by rw [hq, fal_f (by unfold nx; omega)]; rfl)
      · skip
        refine rn_iload_n (k' := 25) rfl rfl rfl ?_
        refine rn_iconst (k' := 26) rfl rfl ?_
        refine rn_iadd (k' := 27) rfl rfl (by omega) ?_
        refine rn_iret rfl (Or.inl rfl) ?_
        rw [hq, fal_t (by unfold nx; omega)]
set_option maxHeartbeats 2000000 in
theorem c_X10_fallOf {μ : Nat → Nat → Int} {c s : Nat} {m : Nat} (hm : μ 66 8 = (m : Int)) (hm1 : m ≤ 99) {sd : Int} : Cl PT 99 [mR 66, mI sd] (mkh μ c s) (fun r => r = (some (some (mI (fal (μ 73) m 0 sd))), mkh (μ) c s)) := by
  refine ⟨_, PT_99, Nat.le_of_ble_eq_true rfl, ?_⟩
  show Rn PT none kX10_fallOf 0 [some (mR 66), some (mI (sd)), none, none] [] (mkh μ c s) _
  refine rn_iload_n (k' := 1) rfl rfl rfl ?_
  refine rn_istore_n (k' := 2) (L' := [some (mR 66), some (mI (sd)), some (mI (sd)), none]) rfl rfl (Nat.le_of_ble_eq_true rfl) rfl ?_
  refine rn_iconst (k' := 3) rfl rfl ?_
  refine rn_istore_n (k' := 4) (L' := [some (mR 66), some (mI (sd)), some (mI (sd)), some (mI (0))]) rfl rfl (Nat.le_of_ble_eq_true rfl) rfl ?_
  exact l_fallOf hm hm1 m 0 _ sd rfl (by omega) rfl
set_option maxHeartbeats 2000000 in
theorem c_X12_draw {μ : Nat → Nat → Int} {c s : Nat} {n : Int} (hn : ¬ n = 0) : Cl PT 259 [mR 118, mI n] (mkh μ c s) (fun r => r = (some (some (mI ((m_ushr (nx (μ 118 40)) 8).tmod n))), mkh (m_set μ 118 40 (nx (μ 118 40))) c s)) := by
  refine ⟨_, PT_259, Nat.le_of_ble_eq_true rfl, ?_⟩
  show Rn PT none kX12_draw 0 [some (mR 118), some (mI (n))] [] (mkh μ c s) _
  refine rn_aload_n (k' := 1) rfl rfl rfl ?_
  refine rn_aload_n (k' := 2) rfl rfl rfl ?_
  refine rn_getI (k' := 3) rfl rfl K0_118 (by decide) rfl ?_
  refine rn_ldc_w (k' := 4) rfl rfl ?_
  refine rn_imulW (k' := 5) rfl rfl ?_
  refine rn_sipush (k' := 6) rfl rfl ?_
  refine rn_iaddW (k' := 7) rfl rfl ?_
  refine rn_putI (k' := 8) rfl rfl K0_118 (by decide) rfl ?_
  refine rn_aload_n (k' := 9) rfl rfl rfl ?_
  refine rn_getI (k' := 10) rfl rfl K0_118 (by decide) rfl ?_
  show Rn PT none kX12_draw 10 [some (mR 118), some (mI (n))] [mI (w32 ((w32 ((μ 118 40) * 1103515245)) + 12345))] (mkh (m_set μ 118 40 (w32 ((w32 ((μ 118 40) * 1103515245)) + 12345))) c s) _
  refine rn_bipush (k' := 11) rfl rfl ?_
  refine rn_iushr (k' := 12) rfl rfl ?_
  refine rn_iload_n (k' := 13) rfl rfl rfl ?_
  refine rn_irem (k' := 14) rfl rfl hn ?_
  refine rn_iret rfl (Or.inl rfl) ?_
  rfl
set_option maxHeartbeats 4000000 in
theorem l_fallOfM {μ : Nat → Nat → Int} {c s : Nat} (hL : I_land μ) (hw : 0 ≤ μ 118 22 ∧ μ 118 22 ≤ 1000) (hwi : 0 ≤ μ 118 23 ∧ μ 118 23 ≤ 99) {t : Int} (ht : 0 ≤ t ∧ t ≤ 99) {m : Nat} (hm : m ≤ 99) {P : Nat → Int} (hP : ∀ j, j ≤ m → g_cell μ (P j) ∧ μ 126 j = P j) {sd : Int} : ∀ (d n : Nat) (k : Int) (x : Int), k = (n : Int) + 1 → n + d = m → (fal (fun j => g_rk μ t (μ 118 23) (P j) (P (j + 1))) m 0 sd = fal (fun j => g_rk μ t (μ 118 23) (P j) (P (j + 1))) d n x) → Rn PT none kX12_fallOf 5 [some (mR 118), some (mI ((m : Int) + 1)), some (mI (t)), some (mI (sd)), some (mI (k))] [] (mkh (m_set μ 118 40 (x)) c s) (fun r => ∃ z, r = (some (some (mI (fal (fun j => g_rk μ t (μ 118 23) (P j) (P (j + 1))) m 0 sd))), mkh (m_set μ 118 40 z) c s)) := by
  have hL_ := hL
  obtain ⟨lc, lr, le, lm, lw, lh, lwo, lwd, q0, q1, q2, q3, q4, q8, q499, q500, lth, lG, lT, lW, -⟩ := hL_
  intro d
  induction d with
  | zero =>
    intro n k x ek hn hq
    subst ek
    refine rn_iload (k' := 6) rfl rfl rfl ?_
    refine rn_iload_n (k' := 7) rfl rfl rfl ?_
    refine rn_icmp_ge (k' := 8) rfl rfl (fun hc1 => ?_) (fun hc1 => ?_)
    · skip
      refine rn_iconst (k' := 30) rfl rfl ?_
      refine rn_iret rfl (Or.inl rfl) ?_
      exact ⟨_, by rw [hq]; rfl⟩
    · exfalso; omega
  | succ d ih =>
    intro n k x ek hn hq
    subst ek
    have q0 := hP n (by omega)
    have q1 := hP (n + 1) (by omega)
    have q0c := q0.1
    have q1c := q1.1
    have x0 : (((n : Int) + 1) - 1).toNat = n := by omega
    have x1 : ((n : Int) + 1).toNat = n + 1 := by omega
    have y0 : μ 126 (((n : Int) + 1) - 1).toNat = P n := by rw [x0]; exact q0.2
    have y1 : μ 126 ((n : Int) + 1).toNat = P (n + 1) := by rw [x1]; exact q1.2
    refine rn_iload (k' := 6) rfl rfl rfl ?_
    refine rn_iload_n (k' := 7) rfl rfl rfl ?_
    refine rn_icmp_ge (k' := 8) rfl rfl (fun hc1 => ?_) (fun hc1 => ?_)
    · exfalso; omega
    · skip
      refine rn_aload_n (k' := 9) rfl rfl rfl ?_
      refine rn_bipush (k' := 10) rfl rfl ?_
      refine rn_callP (k' := 11) (y := 259) (vs := [mR 118, mI (100)]) (S' := []) (v := some (mI ((m_ushr (nx x) 8).tmod 100))) (h' := mkh (m_set (m_set μ 118 40 (x)) 118 40 (nx x)) c s) rfl rfl rfl (c_X12_draw (μ := (m_set μ 118 40 (x))) (c := c) (s := s) (by decide)) ?_
      show Rn PT none kX12_fallOf 11 [some (mR 118), some (mI ((m : Int) + 1)), some (mI (t)), some (mI (sd)), some (mI ((n : Int) + 1))] [mI ((m_ushr (nx x) 8).tmod 100)] (mkh (m_set (m_set μ 118 40 (x)) 118 40 (nx x)) c s) _
      refine rn_aload_n (k' := 12) rfl rfl rfl ?_
      refine rn_aload_n (k' := 13) rfl rfl rfl ?_
      refine rn_getR (k' := 14) rfl rfl K0_118 (by decide) rfl R0_118_25 ?_
      refine rn_iload (k' := 15) rfl rfl rfl ?_
      refine rn_iconst (k' := 16) rfl rfl ?_
      refine rn_isub (k' := 17) rfl rfl (by omega) ?_
      refine rn_iaload (k' := 18) rfl rfl K0_126 (by omega) (by omega) ?_
      show Rn PT none kX12_fallOf 18 [some (mR 118), some (mI ((m : Int) + 1)), some (mI (t)), some (mI (sd)), some (mI ((n : Int) + 1))] [mI (μ 126 ((((n : Int) + 1) - 1).toNat)), mR 118, mI ((m_ushr (nx x) 8).tmod 100)] (mkh (m_set (m_set μ 118 40 (x)) 118 40 (nx x)) c s) _
      rw [y0]
      refine rn_aload_n (k' := 19) rfl rfl rfl ?_
      refine rn_getR (k' := 20) rfl rfl K0_118 (by decide) rfl R0_118_25 ?_
      refine rn_iload (k' := 21) rfl rfl rfl ?_
      refine rn_iaload (k' := 22) rfl rfl K0_126 (by omega) (by omega) ?_
      show Rn PT none kX12_fallOf 22 [some (mR 118), some (mI ((m : Int) + 1)), some (mI (t)), some (mI (sd)), some (mI ((n : Int) + 1))] [mI (μ 126 (((n : Int) + 1).toNat)), mI (P n), mR 118, mI ((m_ushr (nx x) 8).tmod 100)] (mkh (m_set (m_set μ 118 40 (x)) 118 40 (nx x)) c s) _
      rw [y1]
      refine rn_iload_n (k' := 23) rfl rfl rfl ?_
      have hb2 := g_rk_b hL (t := t) (v := μ 118 23) (by omega) (by omega) (P n) (P (n + 1))
      refine rn_callP (k' := 24) (y := 218) (vs := [mR 118, mI (P n), mI (P (n + 1)), mI (t)]) (S' := [mI ((m_ushr (nx x) 8).tmod 100)]) (v := some (mI (g_rk μ t (μ 118 23) (P n) (P (n + 1))))) (h' := mkh (m_set (m_set μ 118 40 (x)) 118 40 (nx x)) c s) rfl rfl rfl (by have h := c_X12_riskOf (μ := (m_set (m_set μ 118 40 (x)) 118 40 (nx x))) (c := c) (s := s) (((hL).set rfl).set rfl) (by show 0 ≤ μ 118 22 ∧ μ 118 22 ≤ 1000; omega) (by show 0 ≤ μ 118 23 ∧ μ 118 23 ≤ 99; omega) (a := P n) (b := P (n + 1)) (t := t) (by assumption) (by assumption) (by omega); rw [g_rk_rows (ν := (m_set (m_set μ 118 40 (x)) 118 40 (nx x))) (μ := μ) rfl] at h; exact h) ?_
      show Rn PT none kX12_fallOf 24 [some (mR 118), some (mI ((m : Int) + 1)), some (mI (t)), some (mI (sd)), some (mI ((n : Int) + 1))] [mI (g_rk μ t (μ 118 23) (P n) (P (n + 1))), mI ((m_ushr (nx x) 8).tmod 100)] (mkh (m_set (m_set μ 118 40 (x)) 118 40 (nx x)) c s) _
      refine rn_icmp_ge (k' := 25) rfl rfl (fun hc3 => ?_) (fun hc3 => ?_)
      · skip
        refine rn_iinc (k' := 28) (L' := [some (mR 118), some (mI ((m : Int) + 1)), some (mI (t)), some (mI (sd)), some (mI ((n : Int) + 1 + 1))]) rfl rfl rfl (by omega) rfl ?_
        refine rn_goto rfl ?_
        show Rn PT none kX12_fallOf 5 [some (mR 118), some (mI ((m : Int) + 1)), some (mI (t)), some (mI (sd)), some (mI ((n : Int) + 1 + 1))] [] (mkh (m_set (m_set μ 118 40 (x)) 118 40 (nx x)) c s) _
        rw [set_set]
        exact ih (n + 1) _ _ (by omega) (by omega) (by rw [hq, fal_f (by show ¬ _ < g_rk μ t (μ 118 23) (P n) (P (n + 1)); omega)])
      · skip
        refine rn_iload (k' := 26) rfl rfl rfl ?_
        refine rn_iret rfl (Or.inl rfl) ?_
        rw [set_set]
        exact ⟨nx x, by rw [hq, fal_t (by show _ < g_rk μ t (μ 118 23) (P n) (P (n + 1)); omega)]⟩
theorem c_fallOfM {μ : Nat → Nat → Int} {c s : Nat} (hL : I_land μ) (hw : 0 ≤ μ 118 22 ∧ μ 118 22 ≤ 1000) (hwi : 0 ≤ μ 118 23 ∧ μ 118 23 ≤ 99) {t : Int} (ht : 0 ≤ t ∧ t ≤ 99) {m : Nat} (hm : m ≤ 99) {P : Nat → Int} (hP : ∀ j, j ≤ m → g_cell μ (P j) ∧ μ 126 j = P j) {sd : Int} : ∃ z, Cl PT 261 [mR 118, mI ((m : Int) + 1), mI t, mI sd] (mkh μ c s) (fun r => r = (some (some (mI (fal (fun j => g_rk μ t (μ 118 23) (P j) (P (j + 1))) m 0 sd))), mkh (m_set μ 118 40 z) c s)) := by
  obtain ⟨z, -, h⟩ := Cl.ex (P := fun _ => True) (g := fun z => (some (some (mI (fal (fun j => g_rk μ t (μ 118 23) (P j) (P (j + 1))) m 0 sd))), mkh (m_set μ 118 40 z) c s)) (show Cl PT 261 [mR 118, mI ((m : Int) + 1), mI t, mI sd] (mkh μ c s) (fun r => ∃ z, r = (some (some (mI (fal (fun j => g_rk μ t (μ 118 23) (P j) (P (j + 1))) m 0 sd))), mkh (m_set μ 118 40 z) c s) ∧ True) from Cl.mono (Q := fun r => ∃ z, r = (some (some (mI (fal (fun j => g_rk μ t (μ 118 23) (P j) (P (j + 1))) m 0 sd))), mkh (m_set μ 118 40 z) c s)) (by
    refine ⟨_, PT_261, Nat.le_of_ble_eq_true rfl, ?_⟩
    show Rn PT none kX12_fallOf 0 [some (mR 118), some (mI ((m : Int) + 1)), some (mI (t)), some (mI (sd)), none] [] (mkh μ c s) _
    refine rn_aload_n (k' := 1) rfl rfl rfl ?_
    refine rn_iload_n (k' := 2) rfl rfl rfl ?_
    refine rn_putI (k' := 3) rfl rfl K0_118 (by decide) rfl ?_
    refine rn_iconst (k' := 4) rfl rfl ?_
    refine rn_istore (k' := 5) (L' := [some (mR 118), some (mI ((m : Int) + 1)), some (mI (t)), some (mI (sd)), some (mI (1))]) rfl rfl (Nat.le_of_ble_eq_true rfl) rfl ?_
    exact l_fallOfM hL hw hwi ht hm hP m 0 _ sd rfl (by omega) rfl
) (fun r hr => by obtain ⟨z, e⟩ := hr; exact ⟨z, e, trivial⟩))
  exact ⟨z, h⟩
set_option maxHeartbeats 4000000 in
theorem l_riskWay_in {μ : Nat → Nat → Int} {c s : Nat} (hL : I_land μ) (hw : 0 ≤ μ 118 22 ∧ μ 118 22 ≤ 1000) (hwi : 0 ≤ μ 118 23 ∧ μ 118 23 ≤ 99) {a t w x : Int} (ht : 0 ≤ t ∧ t ≤ 99) {GC : Nat → Int} (hB : gBE μ a t w (μ 118 23) GC) (hC : ∀ y, g_cell μ y → μ 127 y.toNat = GC y.toNat) {m : Nat} (hm : m ≤ 99) (h1 : pw μ GC t (μ 118 23) x m = a) (h2 : ∀ j, j < m → ¬ pw μ GC t (μ 118 23) x j = a) (h3 : ∀ j, j ≤ m → g_cell μ (pw μ GC t (μ 118 23) x j) ∧ GC (pw μ GC t (μ 118 23) x j).toNat < 1000000000) {T : Nat → Int} {n kk : Nat} (hp1 : g_cell μ (pw μ GC t (μ 118 23) x n)) (hp3 : GC (pw μ GC t (μ 118 23) x n).toNat < 1000000000) (k1 : kk < 4) (k3 : pdc μ GC t (μ 118 23) (pw μ GC t (μ 118 23) x n) kk) (k4 : ∀ j, j < kk → ¬ pdc μ GC t (μ 118 23) (pw μ GC t (μ 118 23) x n) j) {Q : MR → Prop} (K : Rn PT none kX12_riskWay 67 [some (mR 118), some (mI (x)), some (mI (t)), some (mI ((n : Int) + 1)), some (mI ((pw μ GC t (μ 118 23) x n))), some (mI ((kk : Int)))] [] (mkh (m_upd μ 126 T) c s) Q) : ∀ (d n0 : Nat) (k : Int), k = (n0 : Int) → n0 + d = kk → Rn PT none kX12_riskWay 26 [some (mR 118), some (mI (x)), some (mI (t)), some (mI ((n : Int) + 1)), some (mI ((pw μ GC t (μ 118 23) x n))), some (mI (k))] [] (mkh (m_upd μ 126 T) c s) (Q) := by
  have hL_ := hL
  obtain ⟨lc, lr, le, lm, lw, lh, lwo, lwd, q0, q1, q2, q3, q4, q8, q499, q500, lth, lG, lT, lW, -⟩ := hL_
  have hxb := g_cell_b hL hp1
  have hcx := hC _ hp1
  have hbx := hB.2.1 _ hp1
  intro d
  induction d with
  | zero =>
    intro n0 k ek hn 
    subst ek
    have hN := (g_GR hL).2 (pw μ GC t (μ 118 23) x n) (n0 : Int) hp1 (by omega) (by omega)
    have hNb : g_nb μ (pw μ GC t (μ 118 23) x n) (n0 : Int) = -1 ∨ (0 ≤ g_nb μ (pw μ GC t (μ 118 23) x n) (n0 : Int) ∧ g_nb μ (pw μ GC t (μ 118 23) x n) (n0 : Int) < 100) := hN.imp_right (fun z => g_cell_b hL z)
    have hNc : 0 ≤ g_nb μ (pw μ GC t (μ 118 23) x n) (n0 : Int) → g_cell μ (g_nb μ (pw μ GC t (μ 118 23) x n) (n0 : Int)) := fun z => hN.resolve_left (by omega)
    have hCn : g_nb μ (pw μ GC t (μ 118 23) x n) (n0 : Int) = -1 ∨ (μ 127 (g_nb μ (pw μ GC t (μ 118 23) x n) (n0 : Int)).toNat = GC (g_nb μ (pw μ GC t (μ 118 23) x n) (n0 : Int)).toNat ∧ 0 ≤ GC (g_nb μ (pw μ GC t (μ 118 23) x n) (n0 : Int)).toNat ∧ GC (g_nb μ (pw μ GC t (μ 118 23) x n) (n0 : Int)).toNat ≤ 1000000000) := hN.imp_right (fun z => ⟨hC _ z, hB.2.1 _ z⟩)
    have hWv : gW μ t (μ 118 23) (pw μ GC t (μ 118 23) x n) (g_nb μ (pw μ GC t (μ 118 23) x n) (n0 : Int)) = 1000 * g_rk μ t (μ 118 23) (pw μ GC t (μ 118 23) x n) (g_nb μ (pw μ GC t (μ 118 23) x n) (n0 : Int)) + 1 := rfl
    obtain ⟨y1, y2, y3⟩ := k3
    have e0 : n0 = kk := by omega
    subst e0
    refine rn_aload_n (k' := 27) rfl rfl rfl ?_
    refine rn_iload (k' := 28) rfl rfl rfl ?_
    refine rn_iload (k' := 29) rfl rfl rfl ?_
    refine rn_callP (k' := 30) (y := 211) (vs := [mR 118, mI ((pw μ GC t (μ 118 23) x n)), mI ((n0 : Int))]) (S' := []) (v := some (mI (g_nb μ (pw μ GC t (μ 118 23) x n) (n0 : Int)))) (h' := mkh (m_upd μ 126 T) c s) rfl rfl rfl (c_X12_beside ((hL).upd rfl) (a := (pw μ GC t (μ 118 23) x n)) (d := (n0 : Int)) hp1 (by omega)) ?_
    show Rn PT none kX12_riskWay 30 [some (mR 118), some (mI (x)), some (mI (t)), some (mI ((n : Int) + 1)), some (mI ((pw μ GC t (μ 118 23) x n))), some (mI ((n0 : Int)))] [mI (g_nb μ (pw μ GC t (μ 118 23) x n) (n0 : Int))] (mkh (m_upd μ 126 T) c s) _
    refine rn_if_lt (k' := 31) rfl rfl (fun hc1 => ?_) (fun hc1 => ?_)
    · exfalso; omega
    · skip
      refine rn_aload_n (k' := 32) rfl rfl rfl ?_
      refine rn_getR (k' := 33) rfl rfl K0_118 (by decide) rfl R0_118_26 ?_
      refine rn_aload_n (k' := 34) rfl rfl rfl ?_
      refine rn_iload (k' := 35) rfl rfl rfl ?_
      refine rn_iload (k' := 36) rfl rfl rfl ?_
      refine rn_callP (k' := 37) (y := 211) (vs := [mR 118, mI ((pw μ GC t (μ 118 23) x n)), mI ((n0 : Int))]) (S' := [mR 127]) (v := some (mI (g_nb μ (pw μ GC t (μ 118 23) x n) (n0 : Int)))) (h' := mkh (m_upd μ 126 T) c s) rfl rfl rfl (c_X12_beside ((hL).upd rfl) (a := (pw μ GC t (μ 118 23) x n)) (d := (n0 : Int)) hp1 (by omega)) ?_
      show Rn PT none kX12_riskWay 37 [some (mR 118), some (mI (x)), some (mI (t)), some (mI ((n : Int) + 1)), some (mI ((pw μ GC t (μ 118 23) x n))), some (mI ((n0 : Int)))] [mI (g_nb μ (pw μ GC t (μ 118 23) x n) (n0 : Int)), mR 127] (mkh (m_upd μ 126 T) c s) _
      refine rn_iaload (k' := 38) rfl rfl K0_127 (by omega) (by omega) ?_
      show Rn PT none kX12_riskWay 38 [some (mR 118), some (mI (x)), some (mI (t)), some (mI ((n : Int) + 1)), some (mI ((pw μ GC t (μ 118 23) x n))), some (mI ((n0 : Int)))] [mI (μ 127 ((g_nb μ (pw μ GC t (μ 118 23) x n) (n0 : Int)).toNat))] (mkh (m_upd μ 126 T) c s) _
      refine rn_ldc_w (k' := 39) rfl rfl ?_
      refine rn_icmp_ge (k' := 40) rfl rfl (fun hc2 => ?_) (fun hc2 => ?_)
      · exfalso; omega
      · skip
        refine rn_aload_n (k' := 41) rfl rfl rfl ?_
        refine rn_getR (k' := 42) rfl rfl K0_118 (by decide) rfl R0_118_26 ?_
        refine rn_aload_n (k' := 43) rfl rfl rfl ?_
        refine rn_iload (k' := 44) rfl rfl rfl ?_
        refine rn_iload (k' := 45) rfl rfl rfl ?_
        refine rn_callP (k' := 46) (y := 211) (vs := [mR 118, mI ((pw μ GC t (μ 118 23) x n)), mI ((n0 : Int))]) (S' := [mR 127]) (v := some (mI (g_nb μ (pw μ GC t (μ 118 23) x n) (n0 : Int)))) (h' := mkh (m_upd μ 126 T) c s) rfl rfl rfl (c_X12_beside ((hL).upd rfl) (a := (pw μ GC t (μ 118 23) x n)) (d := (n0 : Int)) hp1 (by omega)) ?_
        show Rn PT none kX12_riskWay 46 [some (mR 118), some (mI (x)), some (mI (t)), some (mI ((n : Int) + 1)), some (mI ((pw μ GC t (μ 118 23) x n))), some (mI ((n0 : Int)))] [mI (g_nb μ (pw μ GC t (μ 118 23) x n) (n0 : Int)), mR 127] (mkh (m_upd μ 126 T) c s) _
        refine rn_iaload (k' := 47) rfl rfl K0_127 (by omega) (by omega) ?_
        show Rn PT none kX12_riskWay 47 [some (mR 118), some (mI (x)), some (mI (t)), some (mI ((n : Int) + 1)), some (mI ((pw μ GC t (μ 118 23) x n))), some (mI ((n0 : Int)))] [mI (μ 127 ((g_nb μ (pw μ GC t (μ 118 23) x n) (n0 : Int)).toNat))] (mkh (m_upd μ 126 T) c s) _
        refine rn_sipush (k' := 48) rfl rfl ?_
        refine rn_aload_n (k' := 49) rfl rfl rfl ?_
        refine rn_iload (k' := 50) rfl rfl rfl ?_
        refine rn_aload_n (k' := 51) rfl rfl rfl ?_
        refine rn_iload (k' := 52) rfl rfl rfl ?_
        refine rn_iload (k' := 53) rfl rfl rfl ?_
        refine rn_callP (k' := 54) (y := 211) (vs := [mR 118, mI ((pw μ GC t (μ 118 23) x n)), mI ((n0 : Int))]) (S' := [mI ((pw μ GC t (μ 118 23) x n)), mR 118, mI (1000), mI (μ 127 ((g_nb μ (pw μ GC t (μ 118 23) x n) (n0 : Int)).toNat))]) (v := some (mI (g_nb μ (pw μ GC t (μ 118 23) x n) (n0 : Int)))) (h' := mkh (m_upd μ 126 T) c s) rfl rfl rfl (c_X12_beside ((hL).upd rfl) (a := (pw μ GC t (μ 118 23) x n)) (d := (n0 : Int)) hp1 (by omega)) ?_
        show Rn PT none kX12_riskWay 54 [some (mR 118), some (mI (x)), some (mI (t)), some (mI ((n : Int) + 1)), some (mI ((pw μ GC t (μ 118 23) x n))), some (mI ((n0 : Int)))] [mI (g_nb μ (pw μ GC t (μ 118 23) x n) (n0 : Int)), mI ((pw μ GC t (μ 118 23) x n)), mR 118, mI (1000), mI (μ 127 ((g_nb μ (pw μ GC t (μ 118 23) x n) (n0 : Int)).toNat))] (mkh (m_upd μ 126 T) c s) _
        refine rn_iload_n (k' := 55) rfl rfl rfl ?_
        have hNc2 := hNc (by omega)
        have hb3 := g_rk_b hL (t := t) (v := μ 118 23) (by omega) (by omega) ((pw μ GC t (μ 118 23) x n)) (g_nb μ (pw μ GC t (μ 118 23) x n) (n0 : Int))
        refine rn_callP (k' := 56) (y := 218) (vs := [mR 118, mI ((pw μ GC t (μ 118 23) x n)), mI (g_nb μ (pw μ GC t (μ 118 23) x n) (n0 : Int)), mI (t)]) (S' := [mI (1000), mI (μ 127 ((g_nb μ (pw μ GC t (μ 118 23) x n) (n0 : Int)).toNat))]) (v := some (mI (g_rk μ t (μ 118 23) ((pw μ GC t (μ 118 23) x n)) (g_nb μ (pw μ GC t (μ 118 23) x n) (n0 : Int))))) (h' := mkh (m_upd μ 126 T) c s) rfl rfl rfl (by have h := c_X12_riskOf (μ := (m_upd μ 126 T)) (c := c) (s := s) ((hL).upd rfl) (by show 0 ≤ μ 118 22 ∧ μ 118 22 ≤ 1000; omega) (by show 0 ≤ μ 118 23 ∧ μ 118 23 ≤ 99; omega) (a := (pw μ GC t (μ 118 23) x n)) (b := g_nb μ (pw μ GC t (μ 118 23) x n) (n0 : Int)) (t := t) (by assumption) (by assumption) (by omega); rw [g_rk_rows (ν := (m_upd μ 126 T)) (μ := μ) rfl] at h; exact h) ?_
        show Rn PT none kX12_riskWay 56 [some (mR 118), some (mI (x)), some (mI (t)), some (mI ((n : Int) + 1)), some (mI ((pw μ GC t (μ 118 23) x n))), some (mI ((n0 : Int)))] [mI (g_rk μ t (μ 118 23) ((pw μ GC t (μ 118 23) x n)) (g_nb μ (pw μ GC t (μ 118 23) x n) (n0 : Int))), mI (1000), mI (μ 127 ((g_nb μ (pw μ GC t (μ 118 23) x n) (n0 : Int)).toNat))] (mkh (m_upd μ 126 T) c s) _
        refine rn_imul (k' := 57) rfl rfl (by omega) ?_
        refine rn_iadd (k' := 58) rfl rfl (by omega) ?_
        refine rn_iconst (k' := 59) rfl rfl ?_
        refine rn_iadd (k' := 60) rfl rfl (by omega) ?_
        refine rn_aload_n (k' := 61) rfl rfl rfl ?_
        refine rn_getR (k' := 62) rfl rfl K0_118 (by decide) rfl R0_118_26 ?_
        refine rn_iload (k' := 63) rfl rfl rfl ?_
        refine rn_iaload (k' := 64) rfl rfl K0_127 (by omega) (by omega) ?_
        show Rn PT none kX12_riskWay 64 [some (mR 118), some (mI (x)), some (mI (t)), some (mI ((n : Int) + 1)), some (mI ((pw μ GC t (μ 118 23) x n))), some (mI ((n0 : Int)))] [mI (μ 127 (((pw μ GC t (μ 118 23) x n)).toNat)), mI (((μ 127 ((g_nb μ (pw μ GC t (μ 118 23) x n) (n0 : Int)).toNat)) + (1000 * (g_rk μ t (μ 118 23) ((pw μ GC t (μ 118 23) x n)) (g_nb μ (pw μ GC t (μ 118 23) x n) (n0 : Int))))) + 1)] (mkh (m_upd μ 126 T) c s) _
        refine rn_icmp_eq (k' := 65) rfl rfl (fun hc4 => ?_) (fun hc4 => ?_)
        · skip
          exact K
        · exfalso; omega
  | succ d ih =>
    intro n0 k ek hn 
    subst ek
    have hN := (g_GR hL).2 (pw μ GC t (μ 118 23) x n) (n0 : Int) hp1 (by omega) (by omega)
    have hNb : g_nb μ (pw μ GC t (μ 118 23) x n) (n0 : Int) = -1 ∨ (0 ≤ g_nb μ (pw μ GC t (μ 118 23) x n) (n0 : Int) ∧ g_nb μ (pw μ GC t (μ 118 23) x n) (n0 : Int) < 100) := hN.imp_right (fun z => g_cell_b hL z)
    have hNc : 0 ≤ g_nb μ (pw μ GC t (μ 118 23) x n) (n0 : Int) → g_cell μ (g_nb μ (pw μ GC t (μ 118 23) x n) (n0 : Int)) := fun z => hN.resolve_left (by omega)
    have hCn : g_nb μ (pw μ GC t (μ 118 23) x n) (n0 : Int) = -1 ∨ (μ 127 (g_nb μ (pw μ GC t (μ 118 23) x n) (n0 : Int)).toNat = GC (g_nb μ (pw μ GC t (μ 118 23) x n) (n0 : Int)).toNat ∧ 0 ≤ GC (g_nb μ (pw μ GC t (μ 118 23) x n) (n0 : Int)).toNat ∧ GC (g_nb μ (pw μ GC t (μ 118 23) x n) (n0 : Int)).toNat ≤ 1000000000) := hN.imp_right (fun z => ⟨hC _ z, hB.2.1 _ z⟩)
    have hWv : gW μ t (μ 118 23) (pw μ GC t (μ 118 23) x n) (g_nb μ (pw μ GC t (μ 118 23) x n) (n0 : Int)) = 1000 * g_rk μ t (μ 118 23) (pw μ GC t (μ 118 23) x n) (g_nb μ (pw μ GC t (μ 118 23) x n) (n0 : Int)) + 1 := rfl
    have hno : g_nb μ (pw μ GC t (μ 118 23) x n) (n0 : Int) = -1 ∨ ¬ GC (g_nb μ (pw μ GC t (μ 118 23) x n) (n0 : Int)).toNat < 1000000000 ∨ ¬ GC (pw μ GC t (μ 118 23) x n).toNat = GC (g_nb μ (pw μ GC t (μ 118 23) x n) (n0 : Int)).toNat + gW μ t (μ 118 23) (pw μ GC t (μ 118 23) x n) (g_nb μ (pw μ GC t (μ 118 23) x n) (n0 : Int)) := by
      by_cases z1 : g_nb μ (pw μ GC t (μ 118 23) x n) (n0 : Int) = -1
      · exact Or.inl z1
      · by_cases z2 : GC (g_nb μ (pw μ GC t (μ 118 23) x n) (n0 : Int)).toNat < 1000000000
        · exact Or.inr (Or.inr (fun z3 => k4 n0 (by omega) ⟨z1, z2, z3⟩))
        · exact Or.inr (Or.inl z2)
    refine rn_aload_n (k' := 27) rfl rfl rfl ?_
    refine rn_iload (k' := 28) rfl rfl rfl ?_
    refine rn_iload (k' := 29) rfl rfl rfl ?_
    refine rn_callP (k' := 30) (y := 211) (vs := [mR 118, mI ((pw μ GC t (μ 118 23) x n)), mI ((n0 : Int))]) (S' := []) (v := some (mI (g_nb μ (pw μ GC t (μ 118 23) x n) (n0 : Int)))) (h' := mkh (m_upd μ 126 T) c s) rfl rfl rfl (c_X12_beside ((hL).upd rfl) (a := (pw μ GC t (μ 118 23) x n)) (d := (n0 : Int)) hp1 (by omega)) ?_
    show Rn PT none kX12_riskWay 30 [some (mR 118), some (mI (x)), some (mI (t)), some (mI ((n : Int) + 1)), some (mI ((pw μ GC t (μ 118 23) x n))), some (mI ((n0 : Int)))] [mI (g_nb μ (pw μ GC t (μ 118 23) x n) (n0 : Int))] (mkh (m_upd μ 126 T) c s) _
    refine rn_if_lt (k' := 31) rfl rfl (fun hc1 => ?_) (fun hc1 => ?_)
    · skip
      refine rn_iinc (k' := 66) (L' := [some (mR 118), some (mI (x)), some (mI (t)), some (mI ((n : Int) + 1)), some (mI ((pw μ GC t (μ 118 23) x n))), some (mI ((n0 : Int) + 1))]) rfl rfl rfl (by omega) rfl ?_
      refine rn_goto rfl ?_
      exact ih (n0 + 1) _ (by omega) (by omega)
    · skip
      refine rn_aload_n (k' := 32) rfl rfl rfl ?_
      refine rn_getR (k' := 33) rfl rfl K0_118 (by decide) rfl R0_118_26 ?_
      refine rn_aload_n (k' := 34) rfl rfl rfl ?_
      refine rn_iload (k' := 35) rfl rfl rfl ?_
      refine rn_iload (k' := 36) rfl rfl rfl ?_
      refine rn_callP (k' := 37) (y := 211) (vs := [mR 118, mI ((pw μ GC t (μ 118 23) x n)), mI ((n0 : Int))]) (S' := [mR 127]) (v := some (mI (g_nb μ (pw μ GC t (μ 118 23) x n) (n0 : Int)))) (h' := mkh (m_upd μ 126 T) c s) rfl rfl rfl (c_X12_beside ((hL).upd rfl) (a := (pw μ GC t (μ 118 23) x n)) (d := (n0 : Int)) hp1 (by omega)) ?_
      show Rn PT none kX12_riskWay 37 [some (mR 118), some (mI (x)), some (mI (t)), some (mI ((n : Int) + 1)), some (mI ((pw μ GC t (μ 118 23) x n))), some (mI ((n0 : Int)))] [mI (g_nb μ (pw μ GC t (μ 118 23) x n) (n0 : Int)), mR 127] (mkh (m_upd μ 126 T) c s) _
      refine rn_iaload (k' := 38) rfl rfl K0_127 (by omega) (by omega) ?_
      show Rn PT none kX12_riskWay 38 [some (mR 118), some (mI (x)), some (mI (t)), some (mI ((n : Int) + 1)), some (mI ((pw μ GC t (μ 118 23) x n))), some (mI ((n0 : Int)))] [mI (μ 127 ((g_nb μ (pw μ GC t (μ 118 23) x n) (n0 : Int)).toNat))] (mkh (m_upd μ 126 T) c s) _
      refine rn_ldc_w (k' := 39) rfl rfl ?_
      refine rn_icmp_ge (k' := 40) rfl rfl (fun hc2 => ?_) (fun hc2 => ?_)
      · skip
        refine rn_iinc (k' := 66) (L' := [some (mR 118), some (mI (x)), some (mI (t)), some (mI ((n : Int) + 1)), some (mI ((pw μ GC t (μ 118 23) x n))), some (mI ((n0 : Int) + 1))]) rfl rfl rfl (by omega) rfl ?_
        refine rn_goto rfl ?_
        exact ih (n0 + 1) _ (by omega) (by omega)
      · skip
        refine rn_aload_n (k' := 41) rfl rfl rfl ?_
        refine rn_getR (k' := 42) rfl rfl K0_118 (by decide) rfl R0_118_26 ?_
        refine rn_aload_n (k' := 43) rfl rfl rfl ?_
        refine rn_iload (k' := 44) rfl rfl rfl ?_
        refine rn_iload (k' := 45) rfl rfl rfl ?_
        refine rn_callP (k' := 46) (y := 211) (vs := [mR 118, mI ((pw μ GC t (μ 118 23) x n)), mI ((n0 : Int))]) (S' := [mR 127]) (v := some (mI (g_nb μ (pw μ GC t (μ 118 23) x n) (n0 : Int)))) (h' := mkh (m_upd μ 126 T) c s) rfl rfl rfl (c_X12_beside ((hL).upd rfl) (a := (pw μ GC t (μ 118 23) x n)) (d := (n0 : Int)) hp1 (by omega)) ?_
        show Rn PT none kX12_riskWay 46 [some (mR 118), some (mI (x)), some (mI (t)), some (mI ((n : Int) + 1)), some (mI ((pw μ GC t (μ 118 23) x n))), some (mI ((n0 : Int)))] [mI (g_nb μ (pw μ GC t (μ 118 23) x n) (n0 : Int)), mR 127] (mkh (m_upd μ 126 T) c s) _
        refine rn_iaload (k' := 47) rfl rfl K0_127 (by omega) (by omega) ?_
        show Rn PT none kX12_riskWay 47 [some (mR 118), some (mI (x)), some (mI (t)), some (mI ((n : Int) + 1)), some (mI ((pw μ GC t (μ 118 23) x n))), some (mI ((n0 : Int)))] [mI (μ 127 ((g_nb μ (pw μ GC t (μ 118 23) x n) (n0 : Int)).toNat))] (mkh (m_upd μ 126 T) c s) _
        refine rn_sipush (k' := 48) rfl rfl ?_
        refine rn_aload_n (k' := 49) rfl rfl rfl ?_
        refine rn_iload (k' := 50) rfl rfl rfl ?_
        refine rn_aload_n (k' := 51) rfl rfl rfl ?_
        refine rn_iload (k' := 52) rfl rfl rfl ?_
        refine rn_iload (k' := 53) rfl rfl rfl ?_
        refine rn_callP (k' := 54) (y := 211) (vs := [mR 118, mI ((pw μ GC t (μ 118 23) x n)), mI ((n0 : Int))]) (S' := [mI ((pw μ GC t (μ 118 23) x n)), mR 118, mI (1000), mI (μ 127 ((g_nb μ (pw μ GC t (μ 118 23) x n) (n0 : Int)).toNat))]) (v := some (mI (g_nb μ (pw μ GC t (μ 118 23) x n) (n0 : Int)))) (h' := mkh (m_upd μ 126 T) c s) rfl rfl rfl (c_X12_beside ((hL).upd rfl) (a := (pw μ GC t (μ 118 23) x n)) (d := (n0 : Int)) hp1 (by omega)) ?_
        show Rn PT none kX12_riskWay 54 [some (mR 118), some (mI (x)), some (mI (t)), some (mI ((n : Int) + 1)), some (mI ((pw μ GC t (μ 118 23) x n))), some (mI ((n0 : Int)))] [mI (g_nb μ (pw μ GC t (μ 118 23) x n) (n0 : Int)), mI ((pw μ GC t (μ 118 23) x n)), mR 118, mI (1000), mI (μ 127 ((g_nb μ (pw μ GC t (μ 118 23) x n) (n0 : Int)).toNat))] (mkh (m_upd μ 126 T) c s) _
        refine rn_iload_n (k' := 55) rfl rfl rfl ?_
        have hNc2 := hNc (by omega)
        have hb3 := g_rk_b hL (t := t) (v := μ 118 23) (by omega) (by omega) ((pw μ GC t (μ 118 23) x n)) (g_nb μ (pw μ GC t (μ 118 23) x n) (n0 : Int))
        refine rn_callP (k' := 56) (y := 218) (vs := [mR 118, mI ((pw μ GC t (μ 118 23) x n)), mI (g_nb μ (pw μ GC t (μ 118 23) x n) (n0 : Int)), mI (t)]) (S' := [mI (1000), mI (μ 127 ((g_nb μ (pw μ GC t (μ 118 23) x n) (n0 : Int)).toNat))]) (v := some (mI (g_rk μ t (μ 118 23) ((pw μ GC t (μ 118 23) x n)) (g_nb μ (pw μ GC t (μ 118 23) x n) (n0 : Int))))) (h' := mkh (m_upd μ 126 T) c s) rfl rfl rfl (by have h := c_X12_riskOf (μ := (m_upd μ 126 T)) (c := c) (s := s) ((hL).upd rfl) (by show 0 ≤ μ 118 22 ∧ μ 118 22 ≤ 1000; omega) (by show 0 ≤ μ 118 23 ∧ μ 118 23 ≤ 99; omega) (a := (pw μ GC t (μ 118 23) x n)) (b := g_nb μ (pw μ GC t (μ 118 23) x n) (n0 : Int)) (t := t) (by assumption) (by assumption) (by omega); rw [g_rk_rows (ν := (m_upd μ 126 T)) (μ := μ) rfl] at h; exact h) ?_
        show Rn PT none kX12_riskWay 56 [some (mR 118), some (mI (x)), some (mI (t)), some (mI ((n : Int) + 1)), some (mI ((pw μ GC t (μ 118 23) x n))), some (mI ((n0 : Int)))] [mI (g_rk μ t (μ 118 23) ((pw μ GC t (μ 118 23) x n)) (g_nb μ (pw μ GC t (μ 118 23) x n) (n0 : Int))), mI (1000), mI (μ 127 ((g_nb μ (pw μ GC t (μ 118 23) x n) (n0 : Int)).toNat))] (mkh (m_upd μ 126 T) c s) _
        refine rn_imul (k' := 57) rfl rfl (by omega) ?_
        refine rn_iadd (k' := 58) rfl rfl (by omega) ?_
        refine rn_iconst (k' := 59) rfl rfl ?_
        refine rn_iadd (k' := 60) rfl rfl (by omega) ?_
        refine rn_aload_n (k' := 61) rfl rfl rfl ?_
        refine rn_getR (k' := 62) rfl rfl K0_118 (by decide) rfl R0_118_26 ?_
        refine rn_iload (k' := 63) rfl rfl rfl ?_
        refine rn_iaload (k' := 64) rfl rfl K0_127 (by omega) (by omega) ?_
        show Rn PT none kX12_riskWay 64 [some (mR 118), some (mI (x)), some (mI (t)), some (mI ((n : Int) + 1)), some (mI ((pw μ GC t (μ 118 23) x n))), some (mI ((n0 : Int)))] [mI (μ 127 (((pw μ GC t (μ 118 23) x n)).toNat)), mI (((μ 127 ((g_nb μ (pw μ GC t (μ 118 23) x n) (n0 : Int)).toNat)) + (1000 * (g_rk μ t (μ 118 23) ((pw μ GC t (μ 118 23) x n)) (g_nb μ (pw μ GC t (μ 118 23) x n) (n0 : Int))))) + 1)] (mkh (m_upd μ 126 T) c s) _
        refine rn_icmp_eq (k' := 65) rfl rfl (fun hc4 => ?_) (fun hc4 => ?_)
        · exfalso; omega
        · skip
          refine rn_iinc (k' := 66) (L' := [some (mR 118), some (mI (x)), some (mI (t)), some (mI ((n : Int) + 1)), some (mI ((pw μ GC t (μ 118 23) x n))), some (mI ((n0 : Int) + 1))]) rfl rfl rfl (by omega) rfl ?_
          refine rn_goto rfl ?_
          exact ih (n0 + 1) _ (by omega) (by omega)
set_option maxHeartbeats 4000000 in
theorem l_riskWay {μ : Nat → Nat → Int} {c s : Nat} (hL : I_land μ) (hw : 0 ≤ μ 118 22 ∧ μ 118 22 ≤ 1000) (hwi : 0 ≤ μ 118 23 ∧ μ 118 23 ≤ 99) {a t w x : Int} (ht : 0 ≤ t ∧ t ≤ 99) {GC : Nat → Int} (hB : gBE μ a t w (μ 118 23) GC) (hC : ∀ y, g_cell μ y → μ 127 y.toNat = GC y.toNat) {m : Nat} (hm : m ≤ 99) (h1 : pw μ GC t (μ 118 23) x m = a) (h2 : ∀ j, j < m → ¬ pw μ GC t (μ 118 23) x j = a) (h3 : ∀ j, j ≤ m → g_cell μ (pw μ GC t (μ 118 23) x j) ∧ GC (pw μ GC t (μ 118 23) x j).toNat < 1000000000) (ha : g_cell μ a) : ∀ (d n : Nat) (k : Int) (T : Nat → Int) (v4 : Option MV) (v5 : Option MV), k = (n : Int) + 1 → n + d = m → (∀ j, j ≤ n → T j = pw μ GC t (μ 118 23) x j) → Rn PT none kX12_riskWay 7 [some (mR 118), some (mI (x)), some (mI (t)), some (mI (k)), v4, v5] [] (mkh (m_upd μ 126 T) c s) (fun r => ∃ T, r = (some (some (mI ((m : Int) + 1))), mkh (m_upd μ 126 T) c s) ∧ ∀ j, j ≤ m → T j = pw μ GC t (μ 118 23) x j) := by
  have hL_ := hL
  obtain ⟨lc, lr, le, lm, lw, lh, lwo, lwd, q0, q1, q2, q3, q4, q8, q499, q500, lth, lG, lT, lW, -⟩ := hL_
  intro d
  induction d with
  | zero =>
    intro n k T v4 v5 ek hn hT
    subst ek
    have hpn := h3 n (by omega)
    have hp1 := hpn.1
    have hp3 := hpn.2
    have hpb := g_cell_b hL hp1
    have hcx := hC _ hp1
    have hbx := hB.2.1 _ hp1
    have x0 : (((n : Int) + 1) - 1).toNat = n := by omega
    have x1 : ((n : Int) + 1).toNat = n + 1 := by omega
    have y0 : T (((n : Int) + 1) - 1).toNat = (pw μ GC t (μ 118 23) x n) := by rw [x0]; exact hT n (by omega)
    have en : n = m := by omega
    have hz : GC (pw μ GC t (μ 118 23) x n).toNat = 0 := by rw [en, h1]; exact hB.1
    refine rn_aload_n (k' := 8) rfl rfl rfl ?_
    refine rn_getR (k' := 9) rfl rfl K0_118 (by decide) rfl R0_118_26 ?_
    refine rn_aload_n (k' := 10) rfl rfl rfl ?_
    refine rn_getR (k' := 11) rfl rfl K0_118 (by decide) rfl R0_118_25 ?_
    refine rn_iload_n (k' := 12) rfl rfl rfl ?_
    refine rn_iconst (k' := 13) rfl rfl ?_
    refine rn_isub (k' := 14) rfl rfl (by omega) ?_
    refine rn_iaload (k' := 15) rfl rfl K0_126 (by omega) (by omega) ?_
    show Rn PT none kX12_riskWay 15 [some (mR 118), some (mI (x)), some (mI (t)), some (mI ((n : Int) + 1)), v4, v5] [mI (T ((((n : Int) + 1) - 1).toNat)), mR 127] (mkh (m_upd μ 126 T) c s) _
    rw [y0]
    refine rn_iaload (k' := 16) rfl rfl K0_127 (by omega) (by omega) ?_
    show Rn PT none kX12_riskWay 16 [some (mR 118), some (mI (x)), some (mI (t)), some (mI ((n : Int) + 1)), v4, v5] [mI (μ 127 (((pw μ GC t (μ 118 23) x n)).toNat))] (mkh (m_upd μ 126 T) c s) _
    refine rn_if_le (k' := 17) rfl rfl (fun hc1 => ?_) (fun hc1 => ?_)
    · skip
      refine rn_iload_n (k' := 78) rfl rfl rfl ?_
      refine rn_iret rfl (Or.inl rfl) ?_
      refine ⟨T, ?_, fun j hj => hT j (by omega)⟩
      rw [en]
    · exfalso; omega
  | succ d ih =>
    intro n k T v4 v5 ek hn hT
    subst ek
    have hpn := h3 n (by omega)
    have hp1 := hpn.1
    have hp3 := hpn.2
    have hpb := g_cell_b hL hp1
    have hcx := hC _ hp1
    have hbx := hB.2.1 _ hp1
    have x0 : (((n : Int) + 1) - 1).toNat = n := by omega
    have x1 : ((n : Int) + 1).toNat = n + 1 := by omega
    have y0 : T (((n : Int) + 1) - 1).toNat = (pw μ GC t (μ 118 23) x n) := by rw [x0]; exact hT n (by omega)
    have hp2 := h2 n (by omega)
    obtain ⟨kk, k1, k2, k3, k4, k5, k6⟩ := pd_first hL ht hwi hB hp1 hp2 hp3
    have k5b := g_cell_b hL k5
    have hbk := hB.2.1 _ k5
    have epw : pw μ GC t (μ 118 23) x (n + 1) = g_nb μ (pw μ GC t (μ 118 23) x n) (kk : Int) := by
      show g_nb μ (pw μ GC t (μ 118 23) x n) (fF (pdc μ GC t (μ 118 23) (pw μ GC t (μ 118 23) x n)) 0 4) = _
      rw [k2]
    refine rn_aload_n (k' := 8) rfl rfl rfl ?_
    refine rn_getR (k' := 9) rfl rfl K0_118 (by decide) rfl R0_118_26 ?_
    refine rn_aload_n (k' := 10) rfl rfl rfl ?_
    refine rn_getR (k' := 11) rfl rfl K0_118 (by decide) rfl R0_118_25 ?_
    refine rn_iload_n (k' := 12) rfl rfl rfl ?_
    refine rn_iconst (k' := 13) rfl rfl ?_
    refine rn_isub (k' := 14) rfl rfl (by omega) ?_
    refine rn_iaload (k' := 15) rfl rfl K0_126 (by omega) (by omega) ?_
    show Rn PT none kX12_riskWay 15 [some (mR 118), some (mI (x)), some (mI (t)), some (mI ((n : Int) + 1)), v4, v5] [mI (T ((((n : Int) + 1) - 1).toNat)), mR 127] (mkh (m_upd μ 126 T) c s) _
    rw [y0]
    refine rn_iaload (k' := 16) rfl rfl K0_127 (by omega) (by omega) ?_
    show Rn PT none kX12_riskWay 16 [some (mR 118), some (mI (x)), some (mI (t)), some (mI ((n : Int) + 1)), v4, v5] [mI (μ 127 (((pw μ GC t (μ 118 23) x n)).toNat))] (mkh (m_upd μ 126 T) c s) _
    refine rn_if_le (k' := 17) rfl rfl (fun hc1 => ?_) (fun hc1 => ?_)
    · exfalso; omega
    · skip
      refine rn_aload_n (k' := 18) rfl rfl rfl ?_
      refine rn_getR (k' := 19) rfl rfl K0_118 (by decide) rfl R0_118_25 ?_
      refine rn_iload_n (k' := 20) rfl rfl rfl ?_
      refine rn_iconst (k' := 21) rfl rfl ?_
      refine rn_isub (k' := 22) rfl rfl (by omega) ?_
      refine rn_iaload (k' := 23) rfl rfl K0_126 (by omega) (by omega) ?_
      show Rn PT none kX12_riskWay 23 [some (mR 118), some (mI (x)), some (mI (t)), some (mI ((n : Int) + 1)), v4, v5] [mI (T ((((n : Int) + 1) - 1).toNat))] (mkh (m_upd μ 126 T) c s) _
      rw [y0]
      refine rn_istore (k' := 24) (L' := [some (mR 118), some (mI (x)), some (mI (t)), some (mI ((n : Int) + 1)), some (mI ((pw μ GC t (μ 118 23) x n))), v5]) rfl rfl (Nat.le_of_ble_eq_true rfl) rfl ?_
      refine rn_iconst (k' := 25) rfl rfl ?_
      refine rn_istore (k' := 26) (L' := [some (mR 118), some (mI (x)), some (mI (t)), some (mI ((n : Int) + 1)), some (mI ((pw μ GC t (μ 118 23) x n))), some (mI (0))]) rfl rfl (Nat.le_of_ble_eq_true rfl) rfl ?_
      refine l_riskWay_in hL hw hwi ht hB hC hm h1 h2 h3 (n := n) (kk := kk) hp1 hp3 k1 k3 k4 ?_ kk 0 _ rfl (by omega)
      refine rn_aload_n (k' := 68) rfl rfl rfl ?_
      refine rn_getR (k' := 69) rfl rfl K0_118 (by decide) rfl R0_118_25 ?_
      refine rn_iload_n (k' := 70) rfl rfl rfl ?_
      refine rn_aload_n (k' := 71) rfl rfl rfl ?_
      refine rn_iload (k' := 72) rfl rfl rfl ?_
      refine rn_iload (k' := 73) rfl rfl rfl ?_
      refine rn_callP (k' := 74) (y := 211) (vs := [mR 118, mI ((pw μ GC t (μ 118 23) x n)), mI ((kk : Int))]) (S' := [mI ((n : Int) + 1), mR 126]) (v := some (mI (g_nb μ (pw μ GC t (μ 118 23) x n) (kk : Int)))) (h' := mkh (m_upd μ 126 T) c s) rfl rfl rfl (c_X12_beside ((hL).upd rfl) (a := (pw μ GC t (μ 118 23) x n)) (d := (kk : Int)) hp1 (by omega)) ?_
      show Rn PT none kX12_riskWay 74 [some (mR 118), some (mI (x)), some (mI (t)), some (mI ((n : Int) + 1)), some (mI ((pw μ GC t (μ 118 23) x n))), some (mI ((kk : Int)))] [mI (g_nb μ (pw μ GC t (μ 118 23) x n) (kk : Int)), mI ((n : Int) + 1), mR 126] (mkh (m_upd μ 126 T) c s) _
      refine rn_iastore (k' := 75) rfl rfl K0_126 (by omega) (by omega) ?_
      refine rn_iinc (k' := 76) (L' := [some (mR 118), some (mI (x)), some (mI (t)), some (mI ((n : Int) + 1 + 1)), some (mI ((pw μ GC t (μ 118 23) x n))), some (mI ((kk : Int)))]) rfl rfl rfl (by omega) rfl ?_
      refine rn_goto rfl ?_
      show Rn PT none kX12_riskWay 7 [some (mR 118), some (mI (x)), some (mI (t)), some (mI ((n : Int) + 1 + 1)), some (mI ((pw μ GC t (μ 118 23) x n))), some (mI ((kk : Int)))] [] (mkh (m_set (m_upd μ 126 T) 126 (((n : Int) + 1).toNat) (g_nb μ (pw μ GC t (μ 118 23) x n) (kk : Int))) c s) _
      rw [set_upd_eq (a := 126), x1]
      exact ih (n + 1) _ _ _ _ (by omega) (by omega) (fun j hj => by
        by_cases e : j = n + 1
        · rw [e, fs_eq, epw]
        · rw [fs_ne e]; exact hT j (by omega))
theorem c_riskWay {μ : Nat → Nat → Int} {c s : Nat} (hL : I_land μ) (hw : 0 ≤ μ 118 22 ∧ μ 118 22 ≤ 1000) (hwi : 0 ≤ μ 118 23 ∧ μ 118 23 ≤ 99) {a t w x : Int} (ht : 0 ≤ t ∧ t ≤ 99) {GC : Nat → Int} (hB : gBE μ a t w (μ 118 23) GC) (hC : ∀ y, g_cell μ y → μ 127 y.toNat = GC y.toNat) {m : Nat} (hm : m ≤ 99) (h1 : pw μ GC t (μ 118 23) x m = a) (h2 : ∀ j, j < m → ¬ pw μ GC t (μ 118 23) x j = a) (h3 : ∀ j, j ≤ m → g_cell μ (pw μ GC t (μ 118 23) x j) ∧ GC (pw μ GC t (μ 118 23) x j).toNat < 1000000000) (ha : g_cell μ a) : ∃ T, (∀ j, j ≤ m → T j = pw μ GC t (μ 118 23) x j) ∧ Cl PT 260 [mR 118, mI x, mI t] (mkh μ c s) (fun r => r = (some (some (mI ((m : Int) + 1))), mkh (m_upd μ 126 T) c s)) := by
  refine Cl.ex (g := fun T => (some (some (mI ((m : Int) + 1))), mkh (m_upd μ 126 T) c s)) ?_
  refine ⟨_, PT_260, Nat.le_of_ble_eq_true rfl, ?_⟩
  show Rn PT none kX12_riskWay 0 [some (mR 118), some (mI (x)), some (mI (t)), none, none, none] [] (mkh μ c s) _
  refine rn_iconst (k' := 1) rfl rfl ?_
  refine rn_istore_n (k' := 2) (L' := [some (mR 118), some (mI (x)), some (mI (t)), some (mI (1)), none, none]) rfl rfl (Nat.le_of_ble_eq_true rfl) rfl ?_
  refine rn_aload_n (k' := 3) rfl rfl rfl ?_
  refine rn_getR (k' := 4) rfl rfl K0_118 (by decide) rfl R0_118_25 ?_
  refine rn_iconst (k' := 5) rfl rfl ?_
  refine rn_iload_n (k' := 6) rfl rfl rfl ?_
  refine rn_iastore (k' := 7) rfl rfl K0_126 (by omega) (by omega) ?_
  show Rn PT none kX12_riskWay 7 [some (mR 118), some (mI (x)), some (mI (t)), some (mI (1)), none, none] [] (mkh (m_set μ 126 0 (x)) c s) _
  rw [set_is_upd (a := 126)]
  exact l_riskWay hL hw hwi ht hB hC hm h1 h2 h3 ha m 0 _ _ _ _ rfl (by omega) (fun j hj => by rw [Nat.le_zero.mp hj, fs_eq]; rfl)
