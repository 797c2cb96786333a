variable {N : Int}
/-! ===== printed by wip/whole/gen41.py: pairs: flock, stands, herd, cell ===== -/
theorem rn_thr {x : MX} {C : List MI} {k idx : Nat} {L : List (Option MV)} {Q : MR → Prop} {μ : Nat → Nat → Int} {c s : Nat} (hC : C[k]? = some (.new idx, 200, 6, 0, [])) (kk : Q (none, mkh μ (c + 1) (s + 6))) : Rn PT x C k L [] (mkh μ c s) Q := Rn.ret hC rfl kk
set_option maxHeartbeats 4000000 in
theorem l_X6_headsOfAll_14 {μ : Nat → Nat → Int} {c s : Nat} (hQ : ∀ j, 0 ≤ μ 16 j ∧ μ 16 j ≤ 99) {a : Int} (ha : 0 ≤ a ∧ a ≤ 8) : ∀ (d n : Nat) (k : Int) (acc : Int), k = (n : Int) → acc = fS (μ 16) n → (n : Int) + d = a → Rn PT none kX6_headsOfAll 4 [some (mR 14), some (mI (a)), some (mI (acc)), some (mI (k))] [] (mkh μ c s) (fun r => r = (some (some (mI (fS (μ 16) a.toNat))), mkh (μ) c s)) := by
  intro d
  induction d with
  | zero =>
    intro n k acc  ek eacc hn
    subst ek eacc
    have hsum := fS_b (f := μ 16) (B := 99) hQ n
    have hone := hQ n
    refine rn_iload_n (k' := 5) rfl rfl rfl ?_
    refine rn_iload_n (k' := 6) rfl rfl rfl ?_
    refine rn_icmp_ge (k' := 7) rfl rfl (fun hc1 => ?_) (fun hc1 => ?_)
    · skip
      refine rn_iload_n (k' := 17) rfl rfl rfl ?_
      refine rn_iret rfl (Or.inl rfl) ?_
      rw [show (a).toNat = n by omega]
    · exfalso; omega
  | succ d ih =>
    intro n k acc  ek eacc hn
    subst ek eacc
    have hsum := fS_b (f := μ 16) (B := 99) hQ n
    have hone := hQ n
    refine rn_iload_n (k' := 5) rfl rfl rfl ?_
    refine rn_iload_n (k' := 6) rfl rfl rfl ?_
    refine rn_icmp_ge (k' := 7) rfl rfl (fun hc1 => ?_) (fun hc1 => ?_)
    · exfalso; omega
    · skip
      refine rn_iload_n (k' := 8) rfl rfl rfl ?_
      refine rn_aload_n (k' := 9) rfl rfl rfl ?_
      refine rn_getR (k' := 10) rfl rfl K0_14 (by decide) rfl R0_14_2 ?_
      refine rn_iload_n (k' := 11) rfl rfl rfl ?_
      refine rn_iaload (k' := 12) rfl rfl K0_16 (by omega) (by omega) ?_
      show Rn PT none kX6_headsOfAll 12 [some (mR 14), some (mI (a)), some (mI (fS (μ 16) n)), some (mI ((n : Int)))] [mI (μ 16 (n)), mI (fS (μ 16) n)] (mkh μ c s) _
      refine rn_iadd (k' := 13) rfl rfl (by omega) ?_
      refine rn_istore_n (k' := 14) (L' := [some (mR 14), some (mI (a)), some (mI ((fS (μ 16) n) + (μ 16 (n)))), some (mI ((n : Int)))]) rfl rfl (Nat.le_of_ble_eq_true rfl) rfl ?_
      refine rn_iinc (k' := 15) (L' := [some (mR 14), some (mI (a)), some (mI ((fS (μ 16) n) + (μ 16 (n)))), some (mI ((n : Int) + 1))]) rfl rfl rfl (by omega) rfl ?_
      refine rn_goto rfl ?_
      exact ih (n + 1) _ _ (by omega) (by rfl) (by omega)
set_option maxHeartbeats 2000000 in
theorem c_X6_headsOfAll_14 {μ : Nat → Nat → Int} {c s : Nat} (hQ : ∀ j, 0 ≤ μ 16 j ∧ μ 16 j ≤ 99) {a : Int} (ha : 0 ≤ a ∧ a ≤ 8) : Cl PT 65 [mR 14, mI a] (mkh μ c s) (fun r => r = (some (some (mI (fS (μ 16) a.toNat))), mkh (μ) c s)) := by
  refine ⟨_, PT_65, Nat.le_of_ble_eq_true rfl, ?_⟩
  show Rn PT none kX6_headsOfAll 0 [some (mR 14), some (mI (a)), none, none] [] (mkh μ c s) _
  refine rn_iconst (k' := 1) rfl rfl ?_
  refine rn_istore_n (k' := 2) (L' := [some (mR 14), some (mI (a)), some (mI (0)), none]) rfl rfl (Nat.le_of_ble_eq_true rfl) rfl ?_
  refine rn_iconst (k' := 3) rfl rfl ?_
  refine rn_istore_n (k' := 4) (L' := [some (mR 14), some (mI (a)), some (mI (0)), some (mI (0))]) rfl rfl (Nat.le_of_ble_eq_true rfl) rfl ?_
  exact l_X6_headsOfAll_14 hQ ha a.toNat 0 _ _ rfl rfl (by omega)
set_option maxHeartbeats 4000000 in
theorem l_X6_headsOfAll_83 {μ : Nat → Nat → Int} {c s : Nat} (hQ : ∀ j, 0 ≤ μ 85 j ∧ μ 85 j ≤ 99) {a : Int} (ha : 0 ≤ a ∧ a ≤ 8) : ∀ (d n : Nat) (k : Int) (acc : Int), k = (n : Int) → acc = fS (μ 85) n → (n : Int) + d = a → Rn PT none kX6_headsOfAll 4 [some (mR 83), some (mI (a)), some (mI (acc)), some (mI (k))] [] (mkh μ c s) (fun r => r = (some (some (mI (fS (μ 85) a.toNat))), mkh (μ) c s)) := by
  intro d
  induction d with
  | zero =>
    intro n k acc  ek eacc hn
    subst ek eacc
    have hsum := fS_b (f := μ 85) (B := 99) hQ n
    have hone := hQ n
    refine rn_iload_n (k' := 5) rfl rfl rfl ?_
    refine rn_iload_n (k' := 6) rfl rfl rfl ?_
    refine rn_icmp_ge (k' := 7) rfl rfl (fun hc1 => ?_) (fun hc1 => ?_)
    · skip
      refine rn_iload_n (k' := 17) rfl rfl rfl ?_
      refine rn_iret rfl (Or.inl rfl) ?_
      rw [show (a).toNat = n by omega]
    · exfalso; omega
  | succ d ih =>
    intro n k acc  ek eacc hn
    subst ek eacc
    have hsum := fS_b (f := μ 85) (B := 99) hQ n
    have hone := hQ n
    refine rn_iload_n (k' := 5) rfl rfl rfl ?_
    refine rn_iload_n (k' := 6) rfl rfl rfl ?_
    refine rn_icmp_ge (k' := 7) rfl rfl (fun hc1 => ?_) (fun hc1 => ?_)
    · exfalso; omega
    · skip
      refine rn_iload_n (k' := 8) rfl rfl rfl ?_
      refine rn_aload_n (k' := 9) rfl rfl rfl ?_
      refine rn_getR (k' := 10) rfl rfl K0_83 (by decide) rfl R0_83_2 ?_
      refine rn_iload_n (k' := 11) rfl rfl rfl ?_
      refine rn_iaload (k' := 12) rfl rfl K0_85 (by omega) (by omega) ?_
      show Rn PT none kX6_headsOfAll 12 [some (mR 83), some (mI (a)), some (mI (fS (μ 85) n)), some (mI ((n : Int)))] [mI (μ 85 (n)), mI (fS (μ 85) n)] (mkh μ c s) _
      refine rn_iadd (k' := 13) rfl rfl (by omega) ?_
      refine rn_istore_n (k' := 14) (L' := [some (mR 83), some (mI (a)), some (mI ((fS (μ 85) n) + (μ 85 (n)))), some (mI ((n : Int)))]) rfl rfl (Nat.le_of_ble_eq_true rfl) rfl ?_
      refine rn_iinc (k' := 15) (L' := [some (mR 83), some (mI (a)), some (mI ((fS (μ 85) n) + (μ 85 (n)))), some (mI ((n : Int) + 1))]) rfl rfl rfl (by omega) rfl ?_
      refine rn_goto rfl ?_
      exact ih (n + 1) _ _ (by omega) (by rfl) (by omega)
set_option maxHeartbeats 2000000 in
theorem c_X6_headsOfAll_83 {μ : Nat → Nat → Int} {c s : Nat} (hQ : ∀ j, 0 ≤ μ 85 j ∧ μ 85 j ≤ 99) {a : Int} (ha : 0 ≤ a ∧ a ≤ 8) : Cl PT 65 [mR 83, mI a] (mkh μ c s) (fun r => r = (some (some (mI (fS (μ 85) a.toNat))), mkh (μ) c s)) := by
  refine ⟨_, PT_65, Nat.le_of_ble_eq_true rfl, ?_⟩
  show Rn PT none kX6_headsOfAll 0 [some (mR 83), some (mI (a)), none, none] [] (mkh μ c s) _
  refine rn_iconst (k' := 1) rfl rfl ?_
  refine rn_istore_n (k' := 2) (L' := [some (mR 83), some (mI (a)), some (mI (0)), none]) rfl rfl (Nat.le_of_ble_eq_true rfl) rfl ?_
  refine rn_iconst (k' := 3) rfl rfl ?_
  refine rn_istore_n (k' := 4) (L' := [some (mR 83), some (mI (a)), some (mI (0)), some (mI (0))]) rfl rfl (Nat.le_of_ble_eq_true rfl) rfl ?_
  exact l_X6_headsOfAll_83 hQ ha a.toNat 0 _ _ rfl rfl (by omega)
set_option maxHeartbeats 2000000 in
theorem c_X11_flock {μ : Nat → Nat → Int} {c s : Nat} (hL : I_land μ) (hS : I_scene μ) : Cl PT 110 [mR 0] (mkh μ c s) (fun r => r = (some (some (mI (fS (μ 16) (μ 6 13).toNat))), mkh (μ) c s)) := by
  have hL_ := hL
  obtain ⟨lc, lr, le, lm, lw, lh, lwo, lwd, q0, q1, q2, q3, q4, q8, q499, q500, lth, lG, lT, lW, -⟩ := hL_
  have hS_ := hS
  obtain ⟨sd, sw, stk, s4, s5, s6, hC, hH, -, s10, sce, swc, s13⟩ := hS_
  refine ⟨_, PT_110, Nat.le_of_ble_eq_true rfl, ?_⟩
  show Rn PT none kX11_flock 0 [some (mR 0)] [] (mkh μ c s) _
  refine rn_aload_n (k' := 1) rfl rfl rfl ?_
  refine rn_getR (k' := 2) rfl rfl K0_0 (by decide) rfl R0_0_4 ?_
  refine rn_aload_n (k' := 3) rfl rfl rfl ?_
  refine rn_getR (k' := 4) rfl rfl K0_0 (by decide) rfl R0_0_3 ?_
  refine rn_getI (k' := 5) rfl rfl K0_6 (by decide) rfl ?_
  refine rn_callP (k' := 6) (y := 65) (vs := [mR 14, mI (μ 6 13)]) (S' := []) (v := some (mI (fS (μ 16) (μ 6 13).toNat))) (h' := mkh μ c s) rfl rfl rfl (c_X6_headsOfAll_14 hH (by omega)) ?_
  show Rn PT none kX11_flock 6 [some (mR 0)] [mI (fS (μ 16) (μ 6 13).toNat)] (mkh μ c s) _
  refine rn_iret rfl (Or.inl rfl) ?_
  first | rfl | (refine congrArg (fun z => ((some (some (mI z)) : Option (Option MV)), mkh μ c s)) ?_; first | rfl | omega | (symm; first | (rw [if_pos (by omega)]; first | done | rfl | omega) | (rw [if_neg (by omega)]; first | done | rfl | omega)) | (symm; unfold g_tim; first | (rw [if_pos (by omega)]; first | done | rfl | omega) | (rw [if_neg (by omega)]; first | done | rfl | omega)) | (symm; unfold g_st; first | (rw [if_pos (by omega)]; first | done | rfl | omega) | (rw [if_neg (by omega)]; first | done | rfl | omega)) | (symm; unfold g_dep; first | (rw [if_pos (by omega)]; first | done | rfl | omega) | (rw [if_neg (by omega)]; first | done | rfl | omega)) | (symm; unfold g_nb; first | (rw [if_pos (by omega)]; first | done | rfl | omega) | (rw [if_neg (by omega)]; first | done | rfl | omega)) | ((try unfold g_st); (try unfold g_dep); (try unfold g_nb); (repeat' split) <;> omega) | (symm; (repeat (first | rw [if_pos (by omega)] | rw [if_neg (by omega)])); first | done | rfl | omega))
theorem fS_b8 {f : Nat → Int} {B : Int} : ∀ n : Nat, (∀ j, j < n → 0 ≤ f j ∧ f j ≤ B) → 0 ≤ fS f n ∧ fS f n ≤ B * n
  | 0, _ => ⟨Int.le_refl 0, by show (0 : Int) ≤ B * ((0 : Nat) : Int); omega⟩
  | n + 1, h => by
    have h1 := fS_b8 n (fun j hj => h j (by omega))
    have h2 := h n (by omega)
    have h3 : B * ((n + 1 : Nat) : Int) = B * n + B := by rw [Int.natCast_succ, Int.mul_add, Int.mul_one]
    unfold fS
    omega
set_option maxHeartbeats 4000000 in
theorem l_X12_heads {μ : Nat → Nat → Int} {c s : Nat} (hL : I_land μ) (hQ : ∀ j : Nat, (j : Int) < μ 6 13 → 0 ≤ μ 120 (526 + j) ∧ μ 120 (526 + j) ≤ 99) : ∀ (d n : Nat) (k : Int) (acc : Int), k = (n : Int) → acc = fS (fun j => μ 120 (526 + j)) n → (n : Int) + d = μ 6 13 → Rn PT none kX12_heads 4 [some (mR 118), some (mI (acc)), some (mI (k))] [] (mkh μ c s) (fun r => r = (some (some (mI (fS (fun j => μ 120 (526 + j)) (μ 6 13).toNat))), mkh (μ) c s)) := by
  have hL_ := hL
  obtain ⟨lc, lr, le, lm, lw, lh, lwo, lwd, q0, q1, q2, q3, q4, q8, q499, q500, lth, lG, lT, lW, -⟩ := hL_
  intro d
  induction d with
  | zero =>
    intro n k acc  ek eacc hn
    subst ek eacc
    refine rn_iload_n (k' := 5) rfl rfl rfl ?_
    refine rn_aload_n (k' := 6) rfl rfl rfl ?_
    refine rn_getR (k' := 7) rfl rfl K0_118 (by decide) rfl R0_118_6 ?_
    refine rn_bipush (k' := 8) rfl rfl ?_
    refine rn_iaload (k' := 9) rfl rfl K0_120 (by omega) (by omega) ?_
    show Rn PT none kX12_heads 9 [some (mR 118), some (mI (fS (fun j => μ 120 (526 + j)) n)), some (mI ((n : Int)))] [mI (μ 120 8), mI ((n : Int))] (mkh μ c s) _
    rw [q8]
    refine rn_icmp_ge (k' := 10) rfl rfl (fun hc1 => ?_) (fun hc1 => ?_)
    · skip
      refine rn_iload_n (k' := 22) rfl rfl rfl ?_
      refine rn_iret rfl (Or.inl rfl) ?_
      rw [show (μ 6 13).toNat = n by omega]
    · exfalso; omega
  | succ d ih =>
    intro n k acc  ek eacc hn
    subst ek eacc
    have hsum := fS_b8 (f := fun j => μ 120 (526 + j)) (B := 99) n (fun j hj => hQ j (by omega))
    have hone := hQ n (by omega)
    refine rn_iload_n (k' := 5) rfl rfl rfl ?_
    refine rn_aload_n (k' := 6) rfl rfl rfl ?_
    refine rn_getR (k' := 7) rfl rfl K0_118 (by decide) rfl R0_118_6 ?_
    refine rn_bipush (k' := 8) rfl rfl ?_
    refine rn_iaload (k' := 9) rfl rfl K0_120 (by omega) (by omega) ?_
    show Rn PT none kX12_heads 9 [some (mR 118), some (mI (fS (fun j => μ 120 (526 + j)) n)), some (mI ((n : Int)))] [mI (μ 120 8), mI ((n : Int))] (mkh μ c s) _
    rw [q8]
    refine rn_icmp_ge (k' := 10) rfl rfl (fun hc1 => ?_) (fun hc1 => ?_)
    · exfalso; omega
    · skip
      refine rn_iload_n (k' := 11) rfl rfl rfl ?_
      refine rn_aload_n (k' := 12) rfl rfl rfl ?_
      refine rn_getR (k' := 13) rfl rfl K0_118 (by decide) rfl R0_118_6 ?_
      refine rn_sipush (k' := 14) rfl rfl ?_
      refine rn_iload_n (k' := 15) rfl rfl rfl ?_
      refine rn_iadd (k' := 16) rfl rfl (by omega) ?_
      refine rn_iaload (k' := 17) rfl rfl K0_120 (by omega) (by omega) ?_
      show Rn PT none kX12_heads 17 [some (mR 118), some (mI (fS (fun j => μ 120 (526 + j)) n)), some (mI ((n : Int)))] [mI (μ 120 (526 + n)), mI (fS (fun j => μ 120 (526 + j)) n)] (mkh μ c s) _
      refine rn_iadd (k' := 18) rfl rfl (by omega) ?_
      refine rn_istore_n (k' := 19) (L' := [some (mR 118), some (mI ((fS (fun j => μ 120 (526 + j)) n) + (μ 120 (526 + n)))), some (mI ((n : Int)))]) rfl rfl (Nat.le_of_ble_eq_true rfl) rfl ?_
      refine rn_iinc (k' := 20) (L' := [some (mR 118), some (mI ((fS (fun j => μ 120 (526 + j)) n) + (μ 120 (526 + n)))), some (mI ((n : Int) + 1))]) rfl rfl rfl (by omega) rfl ?_
      refine rn_goto rfl ?_
      exact ih (n + 1) _ _ (by omega) (by rfl) (by omega)
set_option maxHeartbeats 2000000 in
theorem c_X12_heads {μ : Nat → Nat → Int} {c s : Nat} (hL : I_land μ) (hQ : ∀ j : Nat, (j : Int) < μ 6 13 → 0 ≤ μ 120 (526 + j) ∧ μ 120 (526 + j) ≤ 99) : Cl PT 208 [mR 118] (mkh μ c s) (fun r => r = (some (some (mI (fS (fun j => μ 120 (526 + j)) (μ 6 13).toNat))), mkh (μ) c s)) := by
  have hL_ := hL
  obtain ⟨lc, lr, le, lm, lw, lh, lwo, lwd, q0, q1, q2, q3, q4, q8, q499, q500, lth, lG, lT, lW, -⟩ := hL_
  refine ⟨_, PT_208, Nat.le_of_ble_eq_true rfl, ?_⟩
  show Rn PT none kX12_heads 0 [some (mR 118), none, none] [] (mkh μ c s) _
  refine rn_iconst (k' := 1) rfl rfl ?_
  refine rn_istore_n (k' := 2) (L' := [some (mR 118), some (mI (0)), none]) rfl rfl (Nat.le_of_ble_eq_true rfl) rfl ?_
  refine rn_iconst (k' := 3) rfl rfl ?_
  refine rn_istore_n (k' := 4) (L' := [some (mR 118), some (mI (0)), some (mI (0))]) rfl rfl (Nat.le_of_ble_eq_true rfl) rfl ?_
  exact l_X12_heads hL hQ (μ 6 13).toNat 0 _ _ rfl rfl (by omega)
set_option maxHeartbeats 2000000 in
theorem c_X12_flock {μ : Nat → Nat → Int} {c s : Nat} (hL : I_land μ) (hS : I_scene μ) : Cl PT 209 [mR 118] (mkh μ c s) (fun r => r = (some (some (mI (fS (μ 16) (μ 6 13).toNat))), mkh (m_set μ 118 0 0) c s)) := by
  have hL_ := hL
  obtain ⟨lc, lr, le, lm, lw, lh, lwo, lwd, q0, q1, q2, q3, q4, q8, q499, q500, lth, lG, lT, lW, -⟩ := hL_
  have hS_ := hS
  obtain ⟨sd, sw, stk, s4, s5, s6, hC, hH, -, s10, sce, swc, s13⟩ := hS_
  refine ⟨_, PT_209, Nat.le_of_ble_eq_true rfl, ?_⟩
  show Rn PT none kX12_flock 0 [some (mR 118)] [] (mkh μ c s) _
  refine rn_aload_n (k' := 1) rfl rfl rfl ?_
  refine rn_iconst (k' := 2) rfl rfl ?_
  refine rn_putI (k' := 3) rfl rfl K0_118 (by decide) rfl ?_
  refine rn_aload_n (k' := 4) rfl rfl rfl ?_
  refine rn_callP (k' := 5) (y := 208) (vs := [mR 118]) (S' := []) (v := some (mI (fS (μ 16) (μ 6 13).toNat))) (h' := mkh (m_set μ 118 0 (0)) c s) rfl rfl rfl (by have h : Cl PT 208 [mR 118] (mkh (m_set μ 118 0 0) c s) (fun r => r = (some (some (mI (fS (fun j => μ 120 (526 + j)) (μ 6 13).toNat))), mkh (m_set μ 118 0 0) c s)) := c_X12_heads (μ := m_set μ 118 0 0) (c := c) (s := s) ((hL).set rfl) (fun j hj => by have := v_hdN hS hj; show 0 ≤ μ 120 (526 + j) ∧ μ 120 (526 + j) ≤ 99; omega); rw [fS_congr (g := μ 16) _ (fun j hj => (v_hdN hS (by omega)).1)] at h; exact h) ?_
  show Rn PT none kX12_flock 5 [some (mR 118)] [mI (fS (μ 16) (μ 6 13).toNat)] (mkh (m_set μ 118 0 (0)) c s) _
  refine rn_iret rfl (Or.inl rfl) ?_
  first | rfl | (refine congrArg (fun z => ((some (some (mI z)) : Option (Option MV)), mkh (m_set μ 118 0 (0)) c s)) ?_; first | rfl | omega | (symm; first | (rw [if_pos (by omega)]; first | done | rfl | omega) | (rw [if_neg (by omega)]; first | done | rfl | omega)) | (symm; unfold g_tim; first | (rw [if_pos (by omega)]; first | done | rfl | omega) | (rw [if_neg (by omega)]; first | done | rfl | omega)) | (symm; unfold g_st; first | (rw [if_pos (by omega)]; first | done | rfl | omega) | (rw [if_neg (by omega)]; first | done | rfl | omega)) | (symm; unfold g_dep; first | (rw [if_pos (by omega)]; first | done | rfl | omega) | (rw [if_neg (by omega)]; first | done | rfl | omega)) | (symm; unfold g_nb; first | (rw [if_pos (by omega)]; first | done | rfl | omega) | (rw [if_neg (by omega)]; first | done | rfl | omega)) | ((try unfold g_st); (try unfold g_dep); (try unfold g_nb); (repeat' split) <;> omega) | (symm; (repeat (first | rw [if_pos (by omega)] | rw [if_neg (by omega)])); first | done | rfl | omega))
theorem pair_8 : PairI (Inv N) 110 209 [] := by
  intro μ c s hI
  exact ⟨_, μ, m_set μ 118 0 0, c_X11_flock hI.land hI.scene, c_X12_flock hI.land hI.scene, hI.set rfl⟩
theorem rst_upd {μ : Nat → Nat → Int} {a : Nat} {f : Nat → Int} (hs : ∀ j, sup a j = false) : rst (m_upd μ a f) = rst μ := rst_same (fun a' j hj => by
  have : ¬ a' = a := by
    rintro rfl
    rw [hs j] at hj
    cases hj
  rw [row_upd this])
theorem Cl.ex {y : Nat} {vs : List MV} {h : MH} {α : Type} {P : α → Prop} {g : α → MR} (hc : Cl PT y vs h (fun r => ∃ a, r = g a ∧ P a)) : ∃ a, P a ∧ Cl PT y vs h (fun r => r = g a) := by
  obtain ⟨M, e1, e2, n, r, e3, a, e4, e5⟩ := hc
  exact ⟨a, e5, M, e1, e2, n, r, e3, e4⟩
/-- a pair out of two queries that answer the same function of what the invariant speaks of -/
theorem pair_of {yx ym : Nat} {as : List MV} (RES : (Nat → Nat → Int) → Int) (hx : ∀ μ c s, Inv N μ → Cl PT yx (mR 0 :: as) (mkh μ c s) (fun r => ∃ μ1, r = (some (some (mI (RES μ))), mkh μ1 c s) ∧ rst μ1 = rst μ)) (hm : ∀ μ c s, Inv N μ → Cl PT ym (mR 118 :: as) (mkh μ c s) (fun r => ∃ μ1, r = (some (some (mI (RES μ))), mkh μ1 c s) ∧ rst μ1 = rst μ)) (hr : ∀ μ ν, rst ν = rst μ → RES ν = RES μ) : PairI (Inv N) yx ym as := by
  intro μ c s hI
  obtain ⟨μ1, r1, c1⟩ := (hx μ c s hI).ex (g := fun μ1 => (some (some (mI (RES μ))), mkh μ1 c s))
  obtain ⟨μ2, r2, c2⟩ := (hm μ1 c s (hI.same r1)).ex (g := fun μ2 => (some (some (mI (RES μ1))), mkh μ2 c s))
  rw [hr μ μ1 r1] at c2
  exact ⟨RES μ, μ1, μ2, c1, c2, (hI.same r1).same r2⟩
set_option maxHeartbeats 2000000 in
theorem t_X11_stands {μ : Nat → Nat → Int} {c s : Nat} (hL : I_land μ) (hS : I_scene μ) {a0 a1 a2 : Int} (h0 : i32 a0) (h1 : i32 a1) (h2 : i32 a2) : Cl PT 114 [mR 0, mI a0, mI a1, mI a2] (mkh μ c s) (fun r => ∃ μ1, r = (some (some (mI (if g_cell μ a0 ∧ (0 ≤ a1 ∧ a1 ≤ 99) ∧ 0 ≤ a2 ∧ a2 ≤ 29 then (if g_stand μ a0 a1 (g_w μ 0 a2) then 1 else 0) else -1))), mkh μ1 c s) ∧ rst μ1 = rst μ) := by
  have hL_ := hL
  obtain ⟨lc, lr, le, lm, lw, lh, lwo, lwd, q0, q1, q2, q3, q4, q8, q499, q500, lth, lG, lT, lW, -⟩ := hL_
  have hS_ := hS
  obtain ⟨sd, sw, stk, s4, s5, s6, hC, hH, -, s10, sce, swc, s13⟩ := hS_
  have hgc : g_cell μ a0 → 0 ≤ a0 ∧ a0 < 100 := fun z => g_cell_b hL z
  refine ⟨_, PT_114, Nat.le_of_ble_eq_true rfl, ?_⟩
  show Rn PT none kX11_stands 0 [some (mR 0), some (mI (a0)), some (mI (a1)), some (mI (a2))] [] (mkh μ c s) _
  refine rn_aload_n (k' := 1) rfl rfl rfl ?_
  refine rn_getR (k' := 2) rfl rfl K0_0 (by decide) rfl R0_0_3 ?_
  refine rn_iload_n (k' := 3) rfl rfl rfl ?_
  by_cases hq1 : g_cell μ a0
  · refine rn_callP (k' := 4) (y := 30) (vs := [mR 6, mI (a0)]) (S' := []) (v := some (mI 1)) (h' := mkh μ c s) rfl rfl rfl (by have hz : Cl PT 30 [mR 6, mI (a0)] (mkh μ c s) (fun r => r = (some (some (mI (if g_cell μ a0 then 1 else 0))), mkh μ c s)) := k_hasCell (a := a0) (by omega) (μ := μ) (c := c) (s := s); rw [if_pos hq1] at hz; exact hz) ?_
    show Rn PT none kX11_stands 4 [some (mR 0), some (mI (a0)), some (mI (a1)), some (mI (a2))] [mI (1)] (mkh μ c s) _
    refine rn_if_eq (k' := 5) rfl rfl (fun hc2 => ?_) (fun hc2 => ?_)
    · exfalso; omega
    · skip
      refine rn_iload_n (k' := 6) rfl rfl rfl ?_
      by_cases hq3 : 0 ≤ a1 ∧ a1 ≤ 99
      · refine rn_callP (k' := 7) (y := 153) (vs := [mI (a1)]) (S' := []) (v := some (mI 1)) (h' := mkh μ c s) rfl rfl rfl (by have hz : Cl PT 153 [mI (a1)] (mkh μ c s) (fun r => r = (some (some (mI (if 0 ≤ a1 ∧ a1 ≤ 99 then 1 else 0))), mkh μ c s)) := c_X11_isNumber (a := a1) (μ := μ) (c := c) (s := s); rw [if_pos hq3] at hz; exact hz) ?_
        show Rn PT none kX11_stands 7 [some (mR 0), some (mI (a0)), some (mI (a1)), some (mI (a2))] [mI (1)] (mkh μ c s) _
        refine rn_if_eq (k' := 8) rfl rfl (fun hc4 => ?_) (fun hc4 => ?_)
        · exfalso; omega
        · skip
          refine rn_iload_n (k' := 9) rfl rfl rfl ?_
          by_cases hq5 : 0 ≤ a2 ∧ a2 ≤ 29
          · refine rn_callP (k' := 10) (y := 152) (vs := [mI (a2)]) (S' := []) (v := some (mI 1)) (h' := mkh μ c s) rfl rfl rfl (by have hz : Cl PT 152 [mI (a2)] (mkh μ c s) (fun r => r = (some (some (mI (if 0 ≤ a2 ∧ a2 ≤ 29 then 1 else 0))), mkh μ c s)) := c_X11_isDay (a := a2) (μ := μ) (c := c) (s := s); rw [if_pos hq5] at hz; exact hz) ?_
            show Rn PT none kX11_stands 10 [some (mR 0), some (mI (a0)), some (mI (a1)), some (mI (a2))] [mI (1)] (mkh μ c s) _
            refine rn_if_ne (k' := 11) rfl rfl (fun hc6 => ?_) (fun hc6 => ?_)
            · skip
              refine rn_aload_n (k' := 14) rfl rfl rfl ?_
              refine rn_getR (k' := 15) rfl rfl K0_0 (by decide) rfl R0_0_3 ?_
              refine rn_iload_n (k' := 16) rfl rfl rfl ?_
              refine rn_iload_n (k' := 17) rfl rfl rfl ?_
              refine rn_aload_n (k' := 18) rfl rfl rfl ?_
              refine rn_getR (k' := 19) rfl rfl K0_0 (by decide) rfl R0_0_3 ?_
              refine rn_iconst (k' := 20) rfl rfl ?_
              refine rn_iload_n (k' := 21) rfl rfl rfl ?_
              have hb7 := g_w_b hL 0 a2
              refine rn_callP (k' := 22) (y := 32) (vs := [mR 6, mI (0), mI (a2)]) (S' := [mI (a1), mI (a0), mR 6]) (v := some (mI (g_w μ 0 a2))) (h' := mkh μ c s) rfl rfl rfl (k_weatherOn (hL) (by omega) (by omega)) ?_
              show Rn PT none kX11_stands 22 [some (mR 0), some (mI (a0)), some (mI (a1)), some (mI (a2))] [mI (g_w μ 0 a2), mI (a1), mI (a0), mR 6] (mkh μ c s) _
              by_cases hq8 : g_stand μ a0 a1 (g_w μ 0 a2)
              · refine rn_callP (k' := 23) (y := 36) (vs := [mR 6, mI (a0), mI (a1), mI (g_w μ 0 a2)]) (S' := []) (v := some (mI 1)) (h' := mkh μ c s) rfl rfl rfl (by have hz : Cl PT 36 [mR 6, mI (a0), mI (a1), mI (g_w μ 0 a2)] (mkh μ c s) (fun r => r = (some (some (mI (if g_stand μ a0 a1 (g_w μ 0 a2) then 1 else 0))), mkh μ c s)) := k_canStand (hL) (a := a0) (t := a1) (w := g_w μ 0 a2) (by omega) (by omega) (μ := μ) (c := c) (s := s); rw [if_pos hq8] at hz; exact hz) ?_
                show Rn PT none kX11_stands 23 [some (mR 0), some (mI (a0)), some (mI (a1)), some (mI (a2))] [mI (1)] (mkh μ c s) _
                refine rn_if_eq (k' := 24) rfl rfl (fun hc9 => ?_) (fun hc9 => ?_)
                · exfalso; omega
                · skip
                  refine rn_iconst (k' := 25) rfl rfl ?_
                  refine rn_goto rfl ?_
                  refine rn_iret rfl (Or.inl rfl) ?_
                  refine ⟨μ, ?_, rfl⟩
                  first | rfl | (refine congrArg (fun z => ((some (some (mI z)) : Option (Option MV)), mkh μ c s)) ?_; first | rfl | omega | (symm; first | (rw [if_pos (by omega)]; first | done | rfl | omega) | (rw [if_neg (by omega)]; first | done | rfl | omega)) | (symm; unfold g_tim; first | (rw [if_pos (by omega)]; first | done | rfl | omega) | (rw [if_neg (by omega)]; first | done | rfl | omega)) | (symm; unfold g_st; first | (rw [if_pos (by omega)]; first | done | rfl | omega) | (rw [if_neg (by omega)]; first | done | rfl | omega)) | (symm; unfold g_dep; first | (rw [if_pos (by omega)]; first | done | rfl | omega) | (rw [if_neg (by omega)]; first | done | rfl | omega)) | (symm; unfold g_nb; first | (rw [if_pos (by omega)]; first | done | rfl | omega) | (rw [if_neg (by omega)]; first | done | rfl | omega)) | ((try unfold g_st); (try unfold g_dep); (try unfold g_nb); (repeat' split) <;> omega) | (symm; (repeat (first | rw [if_pos (by omega)] | rw [if_neg (by omega)])); first | done | rfl | omega))
              · refine rn_callP (k' := 23) (y := 36) (vs := [mR 6, mI (a0), mI (a1), mI (g_w μ 0 a2)]) (S' := []) (v := some (mI 0)) (h' := mkh μ c s) rfl rfl rfl (by have hz : Cl PT 36 [mR 6, mI (a0), mI (a1), mI (g_w μ 0 a2)] (mkh μ c s) (fun r => r = (some (some (mI (if g_stand μ a0 a1 (g_w μ 0 a2) then 1 else 0))), mkh μ c s)) := k_canStand (hL) (a := a0) (t := a1) (w := g_w μ 0 a2) (by omega) (by omega) (μ := μ) (c := c) (s := s); rw [if_neg hq8] at hz; exact hz) ?_
                show Rn PT none kX11_stands 23 [some (mR 0), some (mI (a0)), some (mI (a1)), some (mI (a2))] [mI (0)] (mkh μ c s) _
                refine rn_if_eq (k' := 24) rfl rfl (fun hc10 => ?_) (fun hc10 => ?_)
                · skip
                  refine rn_iconst (k' := 27) rfl rfl ?_
                  refine rn_iret rfl (Or.inl rfl) ?_
                  refine ⟨μ, ?_, rfl⟩
                  first | rfl | (refine congrArg (fun z => ((some (some (mI z)) : Option (Option MV)), mkh μ c s)) ?_; first | rfl | omega | (symm; first | (rw [if_pos (by omega)]; first | done | rfl | omega) | (rw [if_neg (by omega)]; first | done | rfl | omega)) | (symm; unfold g_tim; first | (rw [if_pos (by omega)]; first | done | rfl | omega) | (rw [if_neg (by omega)]; first | done | rfl | omega)) | (symm; unfold g_st; first | (rw [if_pos (by omega)]; first | done | rfl | omega) | (rw [if_neg (by omega)]; first | done | rfl | omega)) | (symm; unfold g_dep; first | (rw [if_pos (by omega)]; first | done | rfl | omega) | (rw [if_neg (by omega)]; first | done | rfl | omega)) | (symm; unfold g_nb; first | (rw [if_pos (by omega)]; first | done | rfl | omega) | (rw [if_neg (by omega)]; first | done | rfl | omega)) | ((try unfold g_st); (try unfold g_dep); (try unfold g_nb); (repeat' split) <;> omega) | (symm; (repeat (first | rw [if_pos (by omega)] | rw [if_neg (by omega)])); first | done | rfl | omega))
                · exfalso; omega
            · exfalso; omega
          · refine rn_callP (k' := 10) (y := 152) (vs := [mI (a2)]) (S' := []) (v := some (mI 0)) (h' := mkh μ c s) rfl rfl rfl (by have hz : Cl PT 152 [mI (a2)] (mkh μ c s) (fun r => r = (some (some (mI (if 0 ≤ a2 ∧ a2 ≤ 29 then 1 else 0))), mkh μ c s)) := c_X11_isDay (a := a2) (μ := μ) (c := c) (s := s); rw [if_neg hq5] at hz; exact hz) ?_
            show Rn PT none kX11_stands 10 [some (mR 0), some (mI (a0)), some (mI (a1)), some (mI (a2))] [mI (0)] (mkh μ c s) _
            refine rn_if_ne (k' := 11) rfl rfl (fun hc11 => ?_) (fun hc11 => ?_)
            · exfalso; omega
            · skip
              refine rn_iconst (k' := 12) rfl rfl ?_
              refine rn_iret rfl (Or.inl rfl) ?_
              refine ⟨μ, ?_, rfl⟩
              first | rfl | (refine congrArg (fun z => ((some (some (mI z)) : Option (Option MV)), mkh μ c s)) ?_; first | rfl | omega | (symm; first | (rw [if_pos (by omega)]; first | done | rfl | omega) | (rw [if_neg (by omega)]; first | done | rfl | omega)) | (symm; unfold g_tim; first | (rw [if_pos (by omega)]; first | done | rfl | omega) | (rw [if_neg (by omega)]; first | done | rfl | omega)) | (symm; unfold g_st; first | (rw [if_pos (by omega)]; first | done | rfl | omega) | (rw [if_neg (by omega)]; first | done | rfl | omega)) | (symm; unfold g_dep; first | (rw [if_pos (by omega)]; first | done | rfl | omega) | (rw [if_neg (by omega)]; first | done | rfl | omega)) | (symm; unfold g_nb; first | (rw [if_pos (by omega)]; first | done | rfl | omega) | (rw [if_neg (by omega)]; first | done | rfl | omega)) | ((try unfold g_st); (try unfold g_dep); (try unfold g_nb); (repeat' split) <;> omega) | (symm; (repeat (first | rw [if_pos (by omega)] | rw [if_neg (by omega)])); first | done | rfl | omega))
      · refine rn_callP (k' := 7) (y := 153) (vs := [mI (a1)]) (S' := []) (v := some (mI 0)) (h' := mkh μ c s) rfl rfl rfl (by have hz : Cl PT 153 [mI (a1)] (mkh μ c s) (fun r => r = (some (some (mI (if 0 ≤ a1 ∧ a1 ≤ 99 then 1 else 0))), mkh μ c s)) := c_X11_isNumber (a := a1) (μ := μ) (c := c) (s := s); rw [if_neg hq3] at hz; exact hz) ?_
        show Rn PT none kX11_stands 7 [some (mR 0), some (mI (a0)), some (mI (a1)), some (mI (a2))] [mI (0)] (mkh μ c s) _
        refine rn_if_eq (k' := 8) rfl rfl (fun hc12 => ?_) (fun hc12 => ?_)
        · skip
          refine rn_iconst (k' := 12) rfl rfl ?_
          refine rn_iret rfl (Or.inl rfl) ?_
          refine ⟨μ, ?_, rfl⟩
          first | rfl | (refine congrArg (fun z => ((some (some (mI z)) : Option (Option MV)), mkh μ c s)) ?_; first | rfl | omega | (symm; first | (rw [if_pos (by omega)]; first | done | rfl | omega) | (rw [if_neg (by omega)]; first | done | rfl | omega)) | (symm; unfold g_tim; first | (rw [if_pos (by omega)]; first | done | rfl | omega) | (rw [if_neg (by omega)]; first | done | rfl | omega)) | (symm; unfold g_st; first | (rw [if_pos (by omega)]; first | done | rfl | omega) | (rw [if_neg (by omega)]; first | done | rfl | omega)) | (symm; unfold g_dep; first | (rw [if_pos (by omega)]; first | done | rfl | omega) | (rw [if_neg (by omega)]; first | done | rfl | omega)) | (symm; unfold g_nb; first | (rw [if_pos (by omega)]; first | done | rfl | omega) | (rw [if_neg (by omega)]; first | done | rfl | omega)) | ((try unfold g_st); (try unfold g_dep); (try unfold g_nb); (repeat' split) <;> omega) | (symm; (repeat (first | rw [if_pos (by omega)] | rw [if_neg (by omega)])); first | done | rfl | omega))
        · exfalso; omega
  · refine rn_callP (k' := 4) (y := 30) (vs := [mR 6, mI (a0)]) (S' := []) (v := some (mI 0)) (h' := mkh μ c s) rfl rfl rfl (by have hz : Cl PT 30 [mR 6, mI (a0)] (mkh μ c s) (fun r => r = (some (some (mI (if g_cell μ a0 then 1 else 0))), mkh μ c s)) := k_hasCell (a := a0) (by omega) (μ := μ) (c := c) (s := s); rw [if_neg hq1] at hz; exact hz) ?_
    show Rn PT none kX11_stands 4 [some (mR 0), some (mI (a0)), some (mI (a1)), some (mI (a2))] [mI (0)] (mkh μ c s) _
    refine rn_if_eq (k' := 5) rfl rfl (fun hc13 => ?_) (fun hc13 => ?_)
    · skip
      refine rn_iconst (k' := 12) rfl rfl ?_
      refine rn_iret rfl (Or.inl rfl) ?_
      refine ⟨μ, ?_, rfl⟩
      first | rfl | (refine congrArg (fun z => ((some (some (mI z)) : Option (Option MV)), mkh μ c s)) ?_; first | rfl | omega | (symm; first | (rw [if_pos (by omega)]; first | done | rfl | omega) | (rw [if_neg (by omega)]; first | done | rfl | omega)) | (symm; unfold g_tim; first | (rw [if_pos (by omega)]; first | done | rfl | omega) | (rw [if_neg (by omega)]; first | done | rfl | omega)) | (symm; unfold g_st; first | (rw [if_pos (by omega)]; first | done | rfl | omega) | (rw [if_neg (by omega)]; first | done | rfl | omega)) | (symm; unfold g_dep; first | (rw [if_pos (by omega)]; first | done | rfl | omega) | (rw [if_neg (by omega)]; first | done | rfl | omega)) | (symm; unfold g_nb; first | (rw [if_pos (by omega)]; first | done | rfl | omega) | (rw [if_neg (by omega)]; first | done | rfl | omega)) | ((try unfold g_st); (try unfold g_dep); (try unfold g_nb); (repeat' split) <;> omega) | (symm; (repeat (first | rw [if_pos (by omega)] | rw [if_neg (by omega)])); first | done | rfl | omega))
    · exfalso; omega
set_option maxHeartbeats 2000000 in
theorem t_X12_stands {μ : Nat → Nat → Int} {c s : Nat} (hL : I_land μ) (hS : I_scene μ) {a0 a1 a2 : Int} (h0 : i32 a0) (h1 : i32 a1) (h2 : i32 a2) : Cl PT 215 [mR 118, mI a0, mI a1, mI a2] (mkh μ c s) (fun r => ∃ μ1, r = (some (some (mI (if g_cell μ a0 ∧ (0 ≤ a1 ∧ a1 ≤ 99) ∧ 0 ≤ a2 ∧ a2 ≤ 29 then (if g_stand μ a0 a1 (g_w μ 0 a2) then 1 else 0) else -1))), mkh μ1 c s) ∧ rst μ1 = rst μ) := by
  have hL_ := hL
  obtain ⟨lc, lr, le, lm, lw, lh, lwo, lwd, q0, q1, q2, q3, q4, q8, q499, q500, lth, lG, lT, lW, -⟩ := hL_
  have hS_ := hS
  obtain ⟨sd, sw, stk, s4, s5, s6, hC, hH, -, s10, sce, swc, s13⟩ := hS_
  have hgc : g_cell μ a0 → 0 ≤ a0 ∧ a0 < 100 := fun z => g_cell_b hL z
  refine ⟨_, PT_215, Nat.le_of_ble_eq_true rfl, ?_⟩
  show Rn PT none kX12_stands 0 [some (mR 118), some (mI (a0)), some (mI (a1)), some (mI (a2))] [] (mkh μ c s) _
  refine rn_aload_n (k' := 1) rfl rfl rfl ?_
  refine rn_iconst (k' := 2) rfl rfl ?_
  refine rn_putI (k' := 3) rfl rfl K0_118 (by decide) rfl ?_
  refine rn_aload_n (k' := 4) rfl rfl rfl ?_
  refine rn_iload_n (k' := 5) rfl rfl rfl ?_
  refine rn_iload_n (k' := 6) rfl rfl rfl ?_
  refine rn_iload_n (k' := 7) rfl rfl rfl ?_
  refine rn_iload_n (k' := 8) rfl rfl rfl ?_
  by_cases hq2 : g_cell μ a0 ∧ g_cell μ a0 ∧ (0 ≤ a1 ∧ a1 ≤ 99) ∧ 0 ≤ a2 ∧ a2 ≤ 29
  · refine rn_callP (k' := 9) (y := 214) (vs := [mR 118, mI (a0), mI (a0), mI (a1), mI (a2)]) (S' := []) (v := some (mI 1)) (h' := mkh (m_set μ 118 0 (0)) c s) rfl rfl rfl (by have hz : Cl PT 214 [mR 118, mI (a0), mI (a0), mI (a1), mI (a2)] (mkh (m_set μ 118 0 (0)) c s) (fun r => r = (some (some (mI (if g_cell μ a0 ∧ g_cell μ a0 ∧ (0 ≤ a1 ∧ a1 ≤ 99) ∧ 0 ≤ a2 ∧ a2 ≤ 29 then 1 else 0))), mkh (m_set μ 118 0 (0)) c s)) := c_X12_areAll ((hL).set rfl) (a := a0) (b := a0) (t := a1) (d := a2) (by omega) (by omega) (μ := (m_set μ 118 0 (0))) (c := c) (s := s); rw [if_pos hq2] at hz; exact hz) ?_
    show Rn PT none kX12_stands 9 [some (mR 118), some (mI (a0)), some (mI (a1)), some (mI (a2))] [mI (1)] (mkh (m_set μ 118 0 (0)) c s) _
    refine rn_if_ne (k' := 10) rfl rfl (fun hc3 => ?_) (fun hc3 => ?_)
    · skip
      refine rn_aload_n (k' := 13) rfl rfl rfl ?_
      refine rn_iload_n (k' := 14) rfl rfl rfl ?_
      have hb4 := g_w_b hL 0 a2
      have hc904 := g_w_b hL 1 a2
      refine rn_callP (k' := 15) (y := 201) (vs := [mR 118, mI (a2)]) (S' := []) (v := none) (h' := mkh (m_set (m_set (m_set μ 118 0 (0)) 118 22 (g_w μ 0 a2)) 118 23 (g_w μ 1 a2)) c s) rfl rfl rfl (c_X12_of ((hL).set rfl) (by omega)) ?_
      show Rn PT none kX12_stands 15 [some (mR 118), some (mI (a0)), some (mI (a1)), some (mI (a2))] [] (mkh (m_set (m_set (m_set μ 118 0 (0)) 118 22 (g_w μ 0 a2)) 118 23 (g_w μ 1 a2)) c s) _
      refine rn_aload_n (k' := 16) rfl rfl rfl ?_
      refine rn_iload_n (k' := 17) rfl rfl rfl ?_
      refine rn_iload_n (k' := 18) rfl rfl rfl ?_
      by_cases hq5 : g_stand μ a0 a1 (g_w μ 0 a2)
      · refine rn_callP (k' := 19) (y := 203) (vs := [mR 118, mI (a0), mI (a1)]) (S' := []) (v := some (mI 1)) (h' := mkh (m_set (m_set (m_set μ 118 0 (0)) 118 22 (g_w μ 0 a2)) 118 23 (g_w μ 1 a2)) c s) rfl rfl rfl (by have hz : Cl PT 203 [mR 118, mI (a0), mI (a1)] (mkh (m_set (m_set (m_set μ 118 0 (0)) 118 22 (g_w μ 0 a2)) 118 23 (g_w μ 1 a2)) c s) (fun r => r = (some (some (mI (if g_stand μ a0 a1 (g_w μ 0 a2) then 1 else 0))), mkh (m_set (m_set (m_set μ 118 0 (0)) 118 22 (g_w μ 0 a2)) 118 23 (g_w μ 1 a2)) c s)) := c_X12_standsOn ((((hL).set rfl).set rfl).set rfl) (by show 0 ≤ g_w μ 0 a2 ∧ g_w μ 0 a2 ≤ 1000; omega) (a := a0) (t := a1) (by show g_cell μ (a0); first | assumption | omega) (by omega) (μ := (m_set (m_set (m_set μ 118 0 (0)) 118 22 (g_w μ 0 a2)) 118 23 (g_w μ 1 a2))) (c := c) (s := s); rw [if_pos hq5] at hz; exact hz) ?_
        show Rn PT none kX12_stands 19 [some (mR 118), some (mI (a0)), some (mI (a1)), some (mI (a2))] [mI (1)] (mkh (m_set (m_set (m_set μ 118 0 (0)) 118 22 (g_w μ 0 a2)) 118 23 (g_w μ 1 a2)) c s) _
        refine rn_if_eq (k' := 20) rfl rfl (fun hc6 => ?_) (fun hc6 => ?_)
        · exfalso; omega
        · skip
          refine rn_iconst (k' := 21) rfl rfl ?_
          refine rn_goto rfl ?_
          refine rn_iret rfl (Or.inl rfl) ?_
          refine ⟨(m_set (m_set (m_set μ 118 0 (0)) 118 22 (g_w μ 0 a2)) 118 23 (g_w μ 1 a2)), ?_, ((rst_set (a := 118) (j := 23) rfl).trans ((rst_set (a := 118) (j := 22) rfl).trans (rst_set (a := 118) (j := 0) rfl)))⟩
          first | rfl | (refine congrArg (fun z => ((some (some (mI z)) : Option (Option MV)), mkh (m_set (m_set (m_set μ 118 0 (0)) 118 22 (g_w μ 0 a2)) 118 23 (g_w μ 1 a2)) c s)) ?_; first | rfl | omega | (symm; first | (rw [if_pos (by omega)]; first | done | rfl | omega) | (rw [if_neg (by omega)]; first | done | rfl | omega)) | (symm; unfold g_tim; first | (rw [if_pos (by omega)]; first | done | rfl | omega) | (rw [if_neg (by omega)]; first | done | rfl | omega)) | (symm; unfold g_st; first | (rw [if_pos (by omega)]; first | done | rfl | omega) | (rw [if_neg (by omega)]; first | done | rfl | omega)) | (symm; unfold g_dep; first | (rw [if_pos (by omega)]; first | done | rfl | omega) | (rw [if_neg (by omega)]; first | done | rfl | omega)) | (symm; unfold g_nb; first | (rw [if_pos (by omega)]; first | done | rfl | omega) | (rw [if_neg (by omega)]; first | done | rfl | omega)) | ((try unfold g_st); (try unfold g_dep); (try unfold g_nb); (repeat' split) <;> omega) | (symm; (repeat (first | rw [if_pos (by omega)] | rw [if_neg (by omega)])); first | done | rfl | omega))
      · refine rn_callP (k' := 19) (y := 203) (vs := [mR 118, mI (a0), mI (a1)]) (S' := []) (v := some (mI 0)) (h' := mkh (m_set (m_set (m_set μ 118 0 (0)) 118 22 (g_w μ 0 a2)) 118 23 (g_w μ 1 a2)) c s) rfl rfl rfl (by have hz : Cl PT 203 [mR 118, mI (a0), mI (a1)] (mkh (m_set (m_set (m_set μ 118 0 (0)) 118 22 (g_w μ 0 a2)) 118 23 (g_w μ 1 a2)) c s) (fun r => r = (some (some (mI (if g_stand μ a0 a1 (g_w μ 0 a2) then 1 else 0))), mkh (m_set (m_set (m_set μ 118 0 (0)) 118 22 (g_w μ 0 a2)) 118 23 (g_w μ 1 a2)) c s)) := c_X12_standsOn ((((hL).set rfl).set rfl).set rfl) (by show 0 ≤ g_w μ 0 a2 ∧ g_w μ 0 a2 ≤ 1000; omega) (a := a0) (t := a1) (by show g_cell μ (a0); first | assumption | omega) (by omega) (μ := (m_set (m_set (m_set μ 118 0 (0)) 118 22 (g_w μ 0 a2)) 118 23 (g_w μ 1 a2))) (c := c) (s := s); rw [if_neg hq5] at hz; exact hz) ?_
        show Rn PT none kX12_stands 19 [some (mR 118), some (mI (a0)), some (mI (a1)), some (mI (a2))] [mI (0)] (mkh (m_set (m_set (m_set μ 118 0 (0)) 118 22 (g_w μ 0 a2)) 118 23 (g_w μ 1 a2)) c s) _
        refine rn_if_eq (k' := 20) rfl rfl (fun hc7 => ?_) (fun hc7 => ?_)
        · skip
          refine rn_iconst (k' := 23) rfl rfl ?_
          refine rn_iret rfl (Or.inl rfl) ?_
          refine ⟨(m_set (m_set (m_set μ 118 0 (0)) 118 22 (g_w μ 0 a2)) 118 23 (g_w μ 1 a2)), ?_, ((rst_set (a := 118) (j := 23) rfl).trans ((rst_set (a := 118) (j := 22) rfl).trans (rst_set (a := 118) (j := 0) rfl)))⟩
          first | rfl | (refine congrArg (fun z => ((some (some (mI z)) : Option (Option MV)), mkh (m_set (m_set (m_set μ 118 0 (0)) 118 22 (g_w μ 0 a2)) 118 23 (g_w μ 1 a2)) c s)) ?_; first | rfl | omega | (symm; first | (rw [if_pos (by omega)]; first | done | rfl | omega) | (rw [if_neg (by omega)]; first | done | rfl | omega)) | (symm; unfold g_tim; first | (rw [if_pos (by omega)]; first | done | rfl | omega) | (rw [if_neg (by omega)]; first | done | rfl | omega)) | (symm; unfold g_st; first | (rw [if_pos (by omega)]; first | done | rfl | omega) | (rw [if_neg (by omega)]; first | done | rfl | omega)) | (symm; unfold g_dep; first | (rw [if_pos (by omega)]; first | done | rfl | omega) | (rw [if_neg (by omega)]; first | done | rfl | omega)) | (symm; unfold g_nb; first | (rw [if_pos (by omega)]; first | done | rfl | omega) | (rw [if_neg (by omega)]; first | done | rfl | omega)) | ((try unfold g_st); (try unfold g_dep); (try unfold g_nb); (repeat' split) <;> omega) | (symm; (repeat (first | rw [if_pos (by omega)] | rw [if_neg (by omega)])); first | done | rfl | omega))
        · exfalso; omega
    · exfalso; omega
  · refine rn_callP (k' := 9) (y := 214) (vs := [mR 118, mI (a0), mI (a0), mI (a1), mI (a2)]) (S' := []) (v := some (mI 0)) (h' := mkh (m_set μ 118 0 (0)) c s) rfl rfl rfl (by have hz : Cl PT 214 [mR 118, mI (a0), mI (a0), mI (a1), mI (a2)] (mkh (m_set μ 118 0 (0)) c s) (fun r => r = (some (some (mI (if g_cell μ a0 ∧ g_cell μ a0 ∧ (0 ≤ a1 ∧ a1 ≤ 99) ∧ 0 ≤ a2 ∧ a2 ≤ 29 then 1 else 0))), mkh (m_set μ 118 0 (0)) c s)) := c_X12_areAll ((hL).set rfl) (a := a0) (b := a0) (t := a1) (d := a2) (by omega) (by omega) (μ := (m_set μ 118 0 (0))) (c := c) (s := s); rw [if_neg hq2] at hz; exact hz) ?_
    show Rn PT none kX12_stands 9 [some (mR 118), some (mI (a0)), some (mI (a1)), some (mI (a2))] [mI (0)] (mkh (m_set μ 118 0 (0)) c s) _
    refine rn_if_ne (k' := 10) rfl rfl (fun hc8 => ?_) (fun hc8 => ?_)
    · exfalso; omega
    · skip
      refine rn_iconst (k' := 11) rfl rfl ?_
      refine rn_iret rfl (Or.inl rfl) ?_
      refine ⟨(m_set μ 118 0 (0)), ?_, (rst_set (a := 118) (j := 0) rfl)⟩
      first | rfl | (refine congrArg (fun z => ((some (some (mI z)) : Option (Option MV)), mkh (m_set μ 118 0 (0)) c s)) ?_; first | rfl | omega | (symm; first | (rw [if_pos (by omega)]; first | done | rfl | omega) | (rw [if_neg (by omega)]; first | done | rfl | omega)) | (symm; unfold g_tim; first | (rw [if_pos (by omega)]; first | done | rfl | omega) | (rw [if_neg (by omega)]; first | done | rfl | omega)) | (symm; unfold g_st; first | (rw [if_pos (by omega)]; first | done | rfl | omega) | (rw [if_neg (by omega)]; first | done | rfl | omega)) | (symm; unfold g_dep; first | (rw [if_pos (by omega)]; first | done | rfl | omega) | (rw [if_neg (by omega)]; first | done | rfl | omega)) | (symm; unfold g_nb; first | (rw [if_pos (by omega)]; first | done | rfl | omega) | (rw [if_neg (by omega)]; first | done | rfl | omega)) | ((try unfold g_st); (try unfold g_dep); (try unfold g_nb); (repeat' split) <;> omega) | (symm; (repeat (first | rw [if_pos (by omega)] | rw [if_neg (by omega)])); first | done | rfl | omega))
theorem pair_11 : ∀ (a0 : Int), ∀ (a1 : Int), ∀ (a2 : Int), i32 a0 → i32 a1 → i32 a2 → PairI (Inv N) 114 215 [mI a0, mI a1, mI a2] := by
  intro a0 a1 a2 ha0 ha1 ha2
  exact pair_of (fun ν => if g_cell ν a0 ∧ (0 ≤ a1 ∧ a1 ≤ 99) ∧ 0 ≤ a2 ∧ a2 ≤ 29 then (if g_stand ν a0 a1 (g_w ν 0 a2) then 1 else 0) else -1) (fun μ c s hI => t_X11_stands hI.land hI.scene ha0 ha1 ha2) (fun μ c s hI => t_X12_stands hI.land hI.scene ha0 ha1 ha2) (fun μ ν h => by show (fun ν => if g_cell ν a0 ∧ (0 ≤ a1 ∧ a1 ≤ 99) ∧ 0 ≤ a2 ∧ a2 ≤ 29 then (if g_stand ν a0 a1 (g_w ν 0 a2) then 1 else 0) else -1) (rst ν) = (fun ν => if g_cell ν a0 ∧ (0 ≤ a1 ∧ a1 ≤ 99) ∧ 0 ≤ a2 ∧ a2 ≤ 29 then (if g_stand ν a0 a1 (g_w ν 0 a2) then 1 else 0) else -1) (rst μ); rw [h])
