variable {N : Int}
/-! ===== printed by wip/whole/gen96.py: seats of the model; pair: seats ===== -/
theorem sG_ok {μ : Nat → Nat → Int} {i : Int} {n : Nat} (h8 : n < 9) (h1 : 1 ≤ n) (h0 : 0 < sO (wW μ i n) n) : ∀ j, j < n → mis (sG (wW μ i n) (sP μ i) n j).1 = 8 - j ∧ ∃ k, k < n ∧ sQ (fun k => decide (j = 0) || sP μ i (sG (wW μ i n) (sP μ i) n j).2 k) (wW μ i n) (sG (wW μ i n) (sP μ i) n j).1 k = true
  | 0, _ => by
    refine ⟨by show mis 0 = 8; decide, ?_⟩
    unfold sO at h0
    rw [if_neg (by omega)] at h0
    obtain ⟨k, hk, h2⟩ := sS_ex n h0
    refine ⟨k, hk, sQ_iff.mpr ?_⟩
    unfold sT at h2
    by_cases e : (0 : Nat).testBit k = false ∧ true = true
    · rw [if_pos e] at h2
      exact ⟨e.1, rfl, h2⟩
    · rw [if_neg e] at h2; exact absurd h2 (by decide)
  | j + 1, hj => by
    obtain ⟨m1, k, hk, h2⟩ := sG_ok h8 h1 h0 j (by omega)
    have hb := sG_lt (w := wW μ i n) (P := sP μ i) h8 h1 j
    have hb1 := sG_lt (w := wW μ i n) (P := sP μ i) h8 h1 (j + 1)
    have hz1 := sG_2n (w := wW μ i n) (P := sP μ i) h8 h1 (j + 1)
    have hok := sN_ok (q := sQ (fun k => decide (j = 0) || sP μ i (sG (wW μ i n) (sP μ i) n j).2 k) (wW μ i n) (sG (wW μ i n) (sP μ i) n j).1) n 0 ⟨k, by omega, by omega, h2⟩
    obtain ⟨q1, q2, q3⟩ := sQ_iff.mp hok.1
    have hf := ((so_f (sG (wW μ i n) (sP μ i) n j).1 hb.1 _ (by omega)).2.2.2 q1).2
    have hm : mis (sG (wW μ i n) (sP μ i) n (j + 1)).1 = 8 - (j + 1) := by
      show mis (so _ _) = _
      omega
    refine ⟨hm, ?_⟩
    obtain ⟨-, a2, a3, -, -⟩ := all_f n h8
    have hne : ¬ (sG (wW μ i n) (sP μ i) n (j + 1)).1 = 2 ^ n - 1 := fun e => by rw [e, a2] at hm; omega
    have q4 : 0 < wW μ i n (sG (wW μ i n) (sP μ i) n (j + 1)).1 (sG (wW μ i n) (sP μ i) n (j + 1)).2 := q3
    rw [wW_step h8 hz1 hne] at q4
    obtain ⟨k', hk', h3⟩ := sS_ex n q4
    refine ⟨k', hk', sQ_iff.mpr ?_⟩
    unfold sT at h3
    by_cases e : (sG (wW μ i n) (sP μ i) n (j + 1)).1.testBit k' = false ∧ sP μ i (sG (wW μ i n) (sP μ i) n (j + 1)).2 k' = true
    · rw [if_pos e] at h3
      refine ⟨e.1, ?_, h3⟩
      rw [e.2]
      rfl
    · rw [if_neg e] at h3; exact absurd h3 (by decide)
theorem sN_skip {q : Nat → Bool} : ∀ d k m : Nat, sN q d k = m → k ≤ m → q m = true → ∀ j, k ≤ j → j < m → ¬ q j = true
  | 0, k, m, h, h1, h2, j, h3, h4 => by
    have : (0 : Nat) = m := h
    omega
  | d + 1, k, m, h, h1, h2, j, h3, h4 => by
    by_cases e : q k = true
    · rw [sN_t e] at h; omega
    · rw [sN_f e] at h
      by_cases ej : j = k
      · rw [ej]; exact e
      · exact sN_skip d (k + 1) m h (by omega) h2 j (by omega) h4
set_option maxHeartbeats 2000000 in
theorem c_X12_mayNeighbour {μ : Nat → Nat → Int} {c s : Nat} (hL : I_land μ) (hS : I_scene μ) {a b : Nat} (ha : (a : Int) < μ 6 13) (hb : (b : Int) < μ 6 13) {i : Int} : Cl PT 251 [mR 118, mI ((a : Int)), mI ((b : Int)), mI i] (mkh μ c s) (fun r => r = (some (some (mI (if sP μ i a b = true then 1 else 0))), mkh (μ) c s)) := by
  have hL_ := hL
  obtain ⟨lc, lr, le, lm, lw, lh, lwo, lwd, q0, q1, q2, q3, q4, q8, q499, q500, lth, lG, lT, lW, -⟩ := hL_
  have hS_ := hS
  obtain ⟨sd, sw, stk, s4, s5, s6, hC, hH, -, s10, sce, swc, s13⟩ := hS_
  refine ⟨_, PT_251, Nat.le_of_ble_eq_true rfl, ?_⟩
  show Rn PT none kX12_mayNeighbour 0 [some (mR 118), some (mI ((a : Int))), some (mI ((b : Int))), some (mI (i))] [] (mkh μ c s) _
  refine rn_aload_n (k' := 1) rfl rfl rfl ?_
  refine rn_iload_n (k' := 2) rfl rfl rfl ?_
  have hb1 := g_st_b hL (a := μ 16 a) (hH _).1
  refine rn_callP (k' := 3) (y := 198) (vs := [mR 118, mI ((a : Int))]) (S' := []) (v := some (mI (g_st μ (μ 16 a)))) (h' := mkh μ c s) rfl rfl rfl (c_X12_stiltsOf (μ := μ) (hL) (hS) (by show 0 ≤ ((a : Int) : Int) ∧ ((a : Int) : Int) < μ 6 13; omega)) ?_
  show Rn PT none kX12_mayNeighbour 3 [some (mR 118), some (mI ((a : Int))), some (mI ((b : Int))), some (mI (i))] [mI (g_st μ (μ 16 a))] (mkh μ c s) _
  refine rn_aload_n (k' := 4) rfl rfl rfl ?_
  refine rn_iload_n (k' := 5) rfl rfl rfl ?_
  have hb2 := g_st_b hL (a := μ 16 b) (hH _).1
  refine rn_callP (k' := 6) (y := 198) (vs := [mR 118, mI ((b : Int))]) (S' := [mI (g_st μ (μ 16 a))]) (v := some (mI (g_st μ (μ 16 b)))) (h' := mkh μ c s) rfl rfl rfl (c_X12_stiltsOf (μ := μ) (hL) (hS) (by show 0 ≤ ((b : Int) : Int) ∧ ((b : Int) : Int) < μ 6 13; omega)) ?_
  show Rn PT none kX12_mayNeighbour 6 [some (mR 118), some (mI ((a : Int))), some (mI ((b : Int))), some (mI (i))] [mI (g_st μ (μ 16 b)), mI (g_st μ (μ 16 a))] (mkh μ c s) _
  refine rn_isub (k' := 7) rfl rfl (by omega) ?_
  have hsz3 := ab_b ((g_st μ (μ 16 a)) - (g_st μ (μ 16 b)))
  refine rn_callP (k' := 8) (y := 169) (vs := [mI ((g_st μ (μ 16 a)) - (g_st μ (μ 16 b)))]) (S' := []) (v := some (mI (ab ((g_st μ (μ 16 a)) - (g_st μ (μ 16 b)))))) (h' := mkh μ c s) rfl rfl rfl (c_X12_sizeOf (by omega)) ?_
  show Rn PT none kX12_mayNeighbour 8 [some (mR 118), some (mI ((a : Int))), some (mI ((b : Int))), some (mI (i))] [mI (ab ((g_st μ (μ 16 a)) - (g_st μ (μ 16 b))))] (mkh μ c s) _
  refine rn_iload_n (k' := 9) rfl rfl rfl ?_
  refine rn_icmp_gt (k' := 10) rfl rfl (fun hc4 => ?_) (fun hc4 => ?_)
  · skip
    refine rn_iconst (k' := 13) rfl rfl ?_
    refine rn_iret rfl (Or.inr (by omega)) ?_
    refine congrArg (fun z => ((some (some (mI z)) : Option (Option MV)), mkh μ c s)) ?_
    unfold sP
    first | rw [if_pos (decide_eq_true (by omega))] | rw [if_neg (fun z => by have := of_decide_eq_true z; omega)]
  · skip
    refine rn_iconst (k' := 11) rfl rfl ?_
    refine rn_goto rfl ?_
    refine rn_iret rfl (Or.inr (by omega)) ?_
    refine congrArg (fun z => ((some (some (mI z)) : Option (Option MV)), mkh μ c s)) ?_
    unfold sP
    first | rw [if_pos (decide_eq_true (by omega))] | rw [if_neg (fun z => by have := of_decide_eq_true z; omega)]
theorem sS_zero : ∀ n : Nat, sS (fun _ => 0) n = 0
  | 0 => rfl
  | n + 1 => by show sS (fun _ => 0) n + 0 = 0; rw [sS_zero n]; rfl
set_option maxHeartbeats 4000000 in
theorem l_sm_k {μ : Nat → Nat → Int} {c s : Nat} (hL : I_land μ) (hS : I_scene μ) {n : Nat} (hnn : μ 6 13 = (n : Int)) (h8 : n < 9) {i : Int} (hi : 0 ≤ i ∧ i ≤ 99) {A : Nat} (hA : A = 2 ^ n - 1) {z l : Nat} (hz : z < 2 ^ n) (hl : l < n) {T : Nat → Int} (hT : TB (wW μ i n) n T z) {Q : MR → Prop} (K : ∀ v7, Rn PT none kX12_seats 69 [some (mR 118), some (mI (i)), some (mI ((n : Int))), some (mI ((A : Int))), some (mI ((z : Int))), some (mI ((l : Int))), some (mI (wW μ i n z l)), v7] [] (mkh (m_upd (m_set μ 118 0 (0)) 133 T) c s) Q) : ∀ (d k0 : Nat) (k : Int) (acc : Int), k = (k0 : Int) → acc = (if z = A then 1 else 0) + sS (sT (sP μ i l) (wW μ i n) z) k0 → k0 + d = n → Rn PT none kX12_seats 37 [some (mR 118), some (mI (i)), some (mI ((n : Int))), some (mI ((A : Int))), some (mI ((z : Int))), some (mI ((l : Int))), some (mI (acc)), some (mI (k))] [] (mkh (m_upd (m_set μ 118 0 (0)) 133 T) c s) (Q) := by
  have hL_ := hL
  obtain ⟨lc, lr, le, lm, lw, lh, lwo, lwd, q0, q1, q2, q3, q4, q8, q499, q500, lth, lG, lT, lW, -⟩ := hL_
  have hS_ := hS
  obtain ⟨sd, sw, stk, s4, s5, s6, hC, hH, -, s10, sce, swc, s13⟩ := hS_
  obtain ⟨a1, a2, a3, a4, a5⟩ := all_f n h8
  intro d
  induction d with
  | zero =>
    intro k0 k acc ek eacc hn 
    subst ek eacc
    have e0 : k0 = n := by omega
    have hv : (if z = A then 1 else 0) + sS (sT (sP μ i l) (wW μ i n) z) k0 = wW μ i n z l := by
      rw [e0]
      by_cases e : z = A
      · rw [if_pos e, wW_all (by omega), sS_congr (u := fun _ => 0) n (fun k hk => by unfold sT; rw [if_neg (fun y => by have y1 := y.1; rw [e, hA, (a5 k hk).1] at y1; cases y1)])]
        rw [sS_zero]; rfl
      · rw [if_neg e, wW_step h8 hz (by omega)]; omega
    refine rn_iload (k' := 38) rfl rfl rfl ?_
    refine rn_iload_n (k' := 39) rfl rfl rfl ?_
    refine rn_icmp_ge (k' := 40) rfl rfl (fun hc1 => ?_) (fun hc1 => ?_)
    · skip
      rw [hv]
      exact K _
    · exfalso; omega
  | succ d ih =>
    intro k0 k acc ek eacc hn 
    subst ek eacc
    obtain ⟨f1, f2, f3, f4⟩ := so_f z (by omega) k0 (by omega)
    have hsb := sS_b (t := sT (sP μ i l) (wW μ i n) z) (B := 2097152) k0 (fun k hk => sT_b (n := n) (fun k hk hb => wW_c h8 hz hk hb) (by omega))
    have hbz_ : ¬ bI (z : Int) k0 = true → z.testBit k0 = false := fun y => by rw [f3] at y; simpa using y
    have hSB : 0 ≤ ((if z = A then 1 else 0) : Int) ∧ ((if z = A then 1 else 0) : Int) ≤ 1 := by split <;> omega
    have hTk : ¬ bI (z : Int) k0 = true → sP μ i l k0 = true → T ((8 * (so z k0 : Int)) + (k0 : Int)).toNat = wW μ i n (so z k0) k0 := fun y _ => by
      rw [show ((8 * (so z k0 : Int)) + (k0 : Int)).toNat = so z k0 * 8 + k0 by omega]
      exact hT _ k0 (f4 (hbz_ y)).1 (so_lt hz (by omega)) (by omega)
    refine rn_iload (k' := 38) rfl rfl rfl ?_
    refine rn_iload_n (k' := 39) rfl rfl rfl ?_
    refine rn_icmp_ge (k' := 40) rfl rfl (fun hc1 => ?_) (fun hc1 => ?_)
    · exfalso; omega
    · skip
      refine rn_iload (k' := 41) rfl rfl rfl ?_
      refine rn_iload (k' := 42) rfl rfl rfl ?_
      refine rn_iload (k' := 43) rfl rfl rfl ?_
      by_cases hq2 : bI ((z : Int)) k0 = true
      · refine rn_callP (k' := 44) (y := 168) (vs := [mI ((z : Int)), mI ((k0 : Int))]) (S' := [mI ((if z = A then 1 else 0) + sS (sT (sP μ i l) (wW μ i n) z) k0)]) (v := some (mI 1)) (h' := mkh (m_upd (m_set μ 118 0 (0)) 133 T) c s) rfl rfl rfl (by have hz : Cl PT 168 [mI ((z : Int)), mI ((k0 : Int))] (mkh (m_upd (m_set μ 118 0 (0)) 133 T) c s) (fun r => r = (some (some (mI (if bI ((z : Int)) k0 = true then 1 else 0))), mkh (m_upd (m_set μ 118 0 (0)) 133 T) c s)) := c_X12_has (x := (z : Int)) (t := k0) (by omega) (μ := (m_upd (m_set μ 118 0 (0)) 133 T)) (c := c) (s := s); rw [if_pos hq2] at hz; exact hz) ?_
        show Rn PT none kX12_seats 44 [some (mR 118), some (mI (i)), some (mI ((n : Int))), some (mI ((A : Int))), some (mI ((z : Int))), some (mI ((l : Int))), some (mI ((if z = A then 1 else 0) + sS (sT (sP μ i l) (wW μ i n) z) k0)), some (mI ((k0 : Int)))] [mI (1), mI ((if z = A then 1 else 0) + sS (sT (sP μ i l) (wW μ i n) z) k0)] (mkh (m_upd (m_set μ 118 0 (0)) 133 T) c s) _
        refine rn_if_ne (k' := 45) rfl rfl (fun hc3 => ?_) (fun hc3 => ?_)
        · skip
          refine rn_iconst (k' := 65) rfl rfl ?_
          refine rn_iadd (k' := 66) rfl rfl (by omega) ?_
          refine rn_istore (k' := 67) (L' := [some (mR 118), some (mI (i)), some (mI ((n : Int))), some (mI ((A : Int))), some (mI ((z : Int))), some (mI ((l : Int))), some (mI (((if z = A then 1 else 0) + sS (sT (sP μ i l) (wW μ i n) z) k0) + 0)), some (mI ((k0 : Int)))]) rfl rfl (Nat.le_of_ble_eq_true rfl) rfl ?_
          refine rn_iinc (k' := 68) (L' := [some (mR 118), some (mI (i)), some (mI ((n : Int))), some (mI ((A : Int))), some (mI ((z : Int))), some (mI ((l : Int))), some (mI (((if z = A then 1 else 0) + sS (sT (sP μ i l) (wW μ i n) z) k0) + 0)), some (mI ((k0 : Int) + 1))]) rfl rfl rfl (by omega) rfl ?_
          refine rn_goto rfl ?_
          exact ih (k0 + 1) _ _ (by omega) (by
            show _ = (if z = A then 1 else 0) + (sS (sT (sP μ i l) (wW μ i n) z) k0 + sT (sP μ i l) (wW μ i n) z k0)
            have hst : sT (sP μ i l) (wW μ i n) z k0 = 0 := by
              unfold sT
              rw [if_neg (fun y => by first | exact absurd y.2 (by assumption) | (have y1 := y.1; have y2 : bI (z : Int) k0 = true := (by assumption); exact absurd (y1.symm.trans (f3.symm.trans y2)) (by decide)))]
            rw [hst]
            omega) (by omega)
        · exfalso; omega
      · refine rn_callP (k' := 44) (y := 168) (vs := [mI ((z : Int)), mI ((k0 : Int))]) (S' := [mI ((if z = A then 1 else 0) + sS (sT (sP μ i l) (wW μ i n) z) k0)]) (v := some (mI 0)) (h' := mkh (m_upd (m_set μ 118 0 (0)) 133 T) c s) rfl rfl rfl (by have hz : Cl PT 168 [mI ((z : Int)), mI ((k0 : Int))] (mkh (m_upd (m_set μ 118 0 (0)) 133 T) c s) (fun r => r = (some (some (mI (if bI ((z : Int)) k0 = true then 1 else 0))), mkh (m_upd (m_set μ 118 0 (0)) 133 T) c s)) := c_X12_has (x := (z : Int)) (t := k0) (by omega) (μ := (m_upd (m_set μ 118 0 (0)) 133 T)) (c := c) (s := s); rw [if_neg hq2] at hz; exact hz) ?_
        show Rn PT none kX12_seats 44 [some (mR 118), some (mI (i)), some (mI ((n : Int))), some (mI ((A : Int))), some (mI ((z : Int))), some (mI ((l : Int))), some (mI ((if z = A then 1 else 0) + sS (sT (sP μ i l) (wW μ i n) z) k0)), some (mI ((k0 : Int)))] [mI (0), mI ((if z = A then 1 else 0) + sS (sT (sP μ i l) (wW μ i n) z) k0)] (mkh (m_upd (m_set μ 118 0 (0)) 133 T) c s) _
        refine rn_if_ne (k' := 45) rfl rfl (fun hc4 => ?_) (fun hc4 => ?_)
        · exfalso; omega
        · skip
          refine rn_aload_n (k' := 46) rfl rfl rfl ?_
          refine rn_iload (k' := 47) rfl rfl rfl ?_
          refine rn_iload (k' := 48) rfl rfl rfl ?_
          refine rn_iload_n (k' := 49) rfl rfl rfl ?_
          by_cases hq5 : sP μ i l k0 = true
          · refine rn_callP (k' := 50) (y := 251) (vs := [mR 118, mI ((l : Int)), mI ((k0 : Int)), mI (i)]) (S' := [mI ((if z = A then 1 else 0) + sS (sT (sP μ i l) (wW μ i n) z) k0)]) (v := some (mI 1)) (h' := mkh (m_upd (m_set μ 118 0 (0)) 133 T) c s) rfl rfl rfl (by have hz : Cl PT 251 [mR 118, mI ((l : Int)), mI ((k0 : Int)), mI (i)] (mkh (m_upd (m_set μ 118 0 (0)) 133 T) c s) (fun r => r = (some (some (mI (if sP μ i l k0 = true then 1 else 0))), mkh (m_upd (m_set μ 118 0 (0)) 133 T) c s)) := (by have h := c_X12_mayNeighbour (μ := (m_upd (m_set μ 118 0 (0)) 133 T)) (c := c) (s := s) (((hL).set rfl).upd rfl) (((hS).set rfl).upd rfl) (a := l) (b := k0) (by show (_ : Int) < μ 6 13; omega) (by show (_ : Int) < μ 6 13; omega) (i := i); rw [sP_rows (ν := (m_upd (m_set μ 118 0 (0)) 133 T)) (μ := μ) rfl rfl] at h; exact h); rw [if_pos hq5] at hz; exact hz) ?_
            show Rn PT none kX12_seats 50 [some (mR 118), some (mI (i)), some (mI ((n : Int))), some (mI ((A : Int))), some (mI ((z : Int))), some (mI ((l : Int))), some (mI ((if z = A then 1 else 0) + sS (sT (sP μ i l) (wW μ i n) z) k0)), some (mI ((k0 : Int)))] [mI (1), mI ((if z = A then 1 else 0) + sS (sT (sP μ i l) (wW μ i n) z) k0)] (mkh (m_upd (m_set μ 118 0 (0)) 133 T) c s) _
            refine rn_if_eq (k' := 51) rfl rfl (fun hc6 => ?_) (fun hc6 => ?_)
            · exfalso; omega
            · skip
              refine rn_aload_n (k' := 52) rfl rfl rfl ?_
              refine rn_getR (k' := 53) rfl rfl K0_118 (by decide) rfl R0_118_35 ?_
              refine rn_bipush (k' := 54) rfl rfl ?_
              refine rn_iload (k' := 55) rfl rfl rfl ?_
              refine rn_iconst (k' := 56) rfl rfl ?_
              refine rn_iload (k' := 57) rfl rfl rfl ?_
              refine rn_ishl (k' := 58) rfl rfl ?_
              refine rn_ior (k' := 59) rfl rfl ?_
              rw [(so_f z (by omega) k0 (by omega)).1]
              refine rn_imul (k' := 60) rfl rfl (by omega) ?_
              refine rn_iload (k' := 61) rfl rfl rfl ?_
              refine rn_iadd (k' := 62) rfl rfl (by omega) ?_
              refine rn_iaload (k' := 63) rfl rfl K0_133 (by omega) (by omega) ?_
              show Rn PT none kX12_seats 63 [some (mR 118), some (mI (i)), some (mI ((n : Int))), some (mI ((A : Int))), some (mI ((z : Int))), some (mI ((l : Int))), some (mI ((if z = A then 1 else 0) + sS (sT (sP μ i l) (wW μ i n) z) k0)), some (mI ((k0 : Int)))] [mI (T (((8 * ((so z k0 : Int))) + (k0 : Int)).toNat)), mI ((if z = A then 1 else 0) + sS (sT (sP μ i l) (wW μ i n) z) k0)] (mkh (m_upd (m_set μ 118 0 (0)) 133 T) c s) _
              rw [hTk (by assumption) (by assumption)]
              have hb7 := wW_c (μ := μ) (i := i) (l := k0) h8 hz (by omega) (hbz_ (by assumption))
              refine rn_goto rfl ?_
              refine rn_iadd (k' := 66) rfl rfl (by omega) ?_
              refine rn_istore (k' := 67) (L' := [some (mR 118), some (mI (i)), some (mI ((n : Int))), some (mI ((A : Int))), some (mI ((z : Int))), some (mI ((l : Int))), some (mI (((if z = A then 1 else 0) + sS (sT (sP μ i l) (wW μ i n) z) k0) + (wW μ i n (so z k0) k0))), some (mI ((k0 : Int)))]) rfl rfl (Nat.le_of_ble_eq_true rfl) rfl ?_
              refine rn_iinc (k' := 68) (L' := [some (mR 118), some (mI (i)), some (mI ((n : Int))), some (mI ((A : Int))), some (mI ((z : Int))), some (mI ((l : Int))), some (mI (((if z = A then 1 else 0) + sS (sT (sP μ i l) (wW μ i n) z) k0) + (wW μ i n (so z k0) k0))), some (mI ((k0 : Int) + 1))]) rfl rfl rfl (by omega) rfl ?_
              refine rn_goto rfl ?_
              exact ih (k0 + 1) _ _ (by omega) (by
                show _ = (if z = A then 1 else 0) + (sS (sT (sP μ i l) (wW μ i n) z) k0 + sT (sP μ i l) (wW μ i n) z k0)
                have hst : sT (sP μ i l) (wW μ i n) z k0 = wW μ i n (so z k0) k0 := by
                  unfold sT
                  rw [if_pos ⟨hbz_ (by assumption), by assumption⟩]
                rw [hst]
                omega) (by omega)
          · refine rn_callP (k' := 50) (y := 251) (vs := [mR 118, mI ((l : Int)), mI ((k0 : Int)), mI (i)]) (S' := [mI ((if z = A then 1 else 0) + sS (sT (sP μ i l) (wW μ i n) z) k0)]) (v := some (mI 0)) (h' := mkh (m_upd (m_set μ 118 0 (0)) 133 T) c s) rfl rfl rfl (by have hz : Cl PT 251 [mR 118, mI ((l : Int)), mI ((k0 : Int)), mI (i)] (mkh (m_upd (m_set μ 118 0 (0)) 133 T) c s) (fun r => r = (some (some (mI (if sP μ i l k0 = true then 1 else 0))), mkh (m_upd (m_set μ 118 0 (0)) 133 T) c s)) := (by have h := c_X12_mayNeighbour (μ := (m_upd (m_set μ 118 0 (0)) 133 T)) (c := c) (s := s) (((hL).set rfl).upd rfl) (((hS).set rfl).upd rfl) (a := l) (b := k0) (by show (_ : Int) < μ 6 13; omega) (by show (_ : Int) < μ 6 13; omega) (i := i); rw [sP_rows (ν := (m_upd (m_set μ 118 0 (0)) 133 T)) (μ := μ) rfl rfl] at h; exact h); rw [if_neg hq5] at hz; exact hz) ?_
            show Rn PT none kX12_seats 50 [some (mR 118), some (mI (i)), some (mI ((n : Int))), some (mI ((A : Int))), some (mI ((z : Int))), some (mI ((l : Int))), some (mI ((if z = A then 1 else 0) + sS (sT (sP μ i l) (wW μ i n) z) k0)), some (mI ((k0 : Int)))] [mI (0), mI ((if z = A then 1 else 0) + sS (sT (sP μ i l) (wW μ i n) z) k0)] (mkh (m_upd (m_set μ 118 0 (0)) 133 T) c s) _
            refine rn_if_eq (k' := 51) rfl rfl (fun hc8 => ?_) (fun hc8 => ?_)
            · skip
              refine rn_iconst (k' := 65) rfl rfl ?_
              refine rn_iadd (k' := 66) rfl rfl (by omega) ?_
              refine rn_istore (k' := 67) (L' := [some (mR 118), some (mI (i)), some (mI ((n : Int))), some (mI ((A : Int))), some (mI ((z : Int))), some (mI ((l : Int))), some (mI (((if z = A then 1 else 0) + sS (sT (sP μ i l) (wW μ i n) z) k0) + 0)), some (mI ((k0 : Int)))]) rfl rfl (Nat.le_of_ble_eq_true rfl) rfl ?_
              refine rn_iinc (k' := 68) (L' := [some (mR 118), some (mI (i)), some (mI ((n : Int))), some (mI ((A : Int))), some (mI ((z : Int))), some (mI ((l : Int))), some (mI (((if z = A then 1 else 0) + sS (sT (sP μ i l) (wW μ i n) z) k0) + 0)), some (mI ((k0 : Int) + 1))]) rfl rfl rfl (by omega) rfl ?_
              refine rn_goto rfl ?_
              exact ih (k0 + 1) _ _ (by omega) (by
                show _ = (if z = A then 1 else 0) + (sS (sT (sP μ i l) (wW μ i n) z) k0 + sT (sP μ i l) (wW μ i n) z k0)
                have hst : sT (sP μ i l) (wW μ i n) z k0 = 0 := by
                  unfold sT
                  rw [if_neg (fun y => by first | exact absurd y.2 (by assumption) | (have y1 := y.1; have y2 : bI (z : Int) k0 = true := (by assumption); exact absurd (y1.symm.trans (f3.symm.trans y2)) (by decide)))]
                rw [hst]
                omega) (by omega)
            · exfalso; omega
set_option maxHeartbeats 4000000 in
theorem l_sm_l {μ : Nat → Nat → Int} {c s : Nat} (hL : I_land μ) (hS : I_scene μ) {n : Nat} (hnn : μ 6 13 = (n : Int)) (h8 : n < 9) {i : Int} (hi : 0 ≤ i ∧ i ≤ 99) {A : Nat} (hA : A = 2 ^ n - 1) {z : Nat} (hz : z < 2 ^ n) {Q : MR → Prop} (K : ∀ T v5 v6 v7, TI (wW μ i n) n T z n → Rn PT none kX12_seats 80 [some (mR 118), some (mI (i)), some (mI ((n : Int))), some (mI ((A : Int))), some (mI ((z : Int))), v5, v6, v7] [] (mkh (m_upd (m_set μ 118 0 (0)) 133 T) c s) Q) : ∀ (d l : Nat) (k : Int) (T : Nat → Int) (v6 : Option MV) (v7 : Option MV), k = (l : Int) → l + d = n → (TI (wW μ i n) n T z l) → Rn PT none kX12_seats 25 [some (mR 118), some (mI (i)), some (mI ((n : Int))), some (mI ((A : Int))), some (mI ((z : Int))), some (mI (k)), v6, v7] [] (mkh (m_upd (m_set μ 118 0 (0)) 133 T) c s) (Q) := by
  have hL_ := hL
  obtain ⟨lc, lr, le, lm, lw, lh, lwo, lwd, q0, q1, q2, q3, q4, q8, q499, q500, lth, lG, lT, lW, -⟩ := hL_
  have hS_ := hS
  obtain ⟨sd, sw, stk, s4, s5, s6, hC, hH, -, s10, sce, swc, s13⟩ := hS_
  obtain ⟨a1, a2, a3, a4, a5⟩ := all_f n h8
  intro d
  induction d with
  | zero =>
    intro l k T v6 v7 ek hn hT
    subst ek
    have e0 : l = n := by omega
    rw [e0] at hT
    refine rn_iload (k' := 26) rfl rfl rfl ?_
    refine rn_iload_n (k' := 27) rfl rfl rfl ?_
    refine rn_icmp_ge (k' := 28) rfl rfl (fun hc1 => ?_) (fun hc1 => ?_)
    · skip
      exact K _ _ _ _ hT
    · exfalso; omega
  | succ d ih =>
    intro l k T v6 v7 ek hn hT
    subst ek
    refine rn_iload (k' := 26) rfl rfl rfl ?_
    refine rn_iload_n (k' := 27) rfl rfl rfl ?_
    refine rn_icmp_ge (k' := 28) rfl rfl (fun hc1 => ?_) (fun hc1 => ?_)
    · exfalso; omega
    · skip
      refine rn_iload (k' := 29) rfl rfl rfl ?_
      refine rn_iload_n (k' := 30) rfl rfl rfl ?_
      refine rn_icmp_ne (k' := 31) rfl rfl (fun hc2 => ?_) (fun hc2 => ?_)
      · skip
        refine rn_iconst (k' := 34) rfl rfl ?_
        refine rn_istore (k' := 35) (L' := [some (mR 118), some (mI (i)), some (mI ((n : Int))), some (mI ((A : Int))), some (mI ((z : Int))), some (mI ((l : Int))), some (mI (0)), v7]) rfl rfl (Nat.le_of_ble_eq_true rfl) rfl ?_
        refine rn_iconst (k' := 36) rfl rfl ?_
        refine rn_istore (k' := 37) (L' := [some (mR 118), some (mI (i)), some (mI ((n : Int))), some (mI ((A : Int))), some (mI ((z : Int))), some (mI ((l : Int))), some (mI (0)), some (mI (0))]) rfl rfl (Nat.le_of_ble_eq_true rfl) rfl ?_
        refine l_sm_k hL hS hnn h8 hi hA (z := z) (l := l) hz (by omega) (T := T) hT.1 (fun w7 => ?_) n 0 _ _ rfl (by show (0 : Int) = (if z = A then 1 else 0) + 0; first | rw [if_pos (by omega)]; rfl | rw [if_neg (by omega)]; rfl) (by omega)
        refine rn_aload_n (k' := 70) rfl rfl rfl ?_
        refine rn_getR (k' := 71) rfl rfl K0_118 (by decide) rfl R0_118_35 ?_
        refine rn_bipush (k' := 72) rfl rfl ?_
        refine rn_iload (k' := 73) rfl rfl rfl ?_
        refine rn_imul (k' := 74) rfl rfl (by omega) ?_
        refine rn_iload (k' := 75) rfl rfl rfl ?_
        refine rn_iadd (k' := 76) rfl rfl (by omega) ?_
        refine rn_iload (k' := 77) rfl rfl rfl ?_
        refine rn_iastore (k' := 78) rfl rfl K0_133 (by omega) (by omega) ?_
        refine rn_iinc (k' := 79) (L' := [some (mR 118), some (mI (i)), some (mI ((n : Int))), some (mI ((A : Int))), some (mI ((z : Int))), some (mI ((l : Int) + 1)), some (mI (wW μ i n z l)), w7]) rfl rfl rfl (by omega) rfl ?_
        refine rn_goto rfl ?_
        show Rn PT none kX12_seats 25 [some (mR 118), some (mI (i)), some (mI ((n : Int))), some (mI ((A : Int))), some (mI ((z : Int))), some (mI ((l : Int) + 1)), some (mI (wW μ i n z l)), w7] [] (mkh (m_set (m_upd (m_set μ 118 0 (0)) 133 T) 133 (((8 * (z : Int)) + (l : Int)).toNat) (wW μ i n z l)) c s) _
        rw [set_upd_eq (a := 133), show ((8 * (z : Int)) + (l : Int)).toNat = z * 8 + l by omega]
        exact ih (l + 1) _ _ _ _ (by omega) (by omega) (TI_step hT (by omega) (by omega) rfl)
      · skip
        refine rn_iconst (k' := 32) rfl rfl ?_
        refine rn_goto rfl ?_
        refine rn_istore (k' := 35) (L' := [some (mR 118), some (mI (i)), some (mI ((n : Int))), some (mI ((A : Int))), some (mI ((z : Int))), some (mI ((l : Int))), some (mI (1)), v7]) rfl rfl (Nat.le_of_ble_eq_true rfl) rfl ?_
        refine rn_iconst (k' := 36) rfl rfl ?_
        refine rn_istore (k' := 37) (L' := [some (mR 118), some (mI (i)), some (mI ((n : Int))), some (mI ((A : Int))), some (mI ((z : Int))), some (mI ((l : Int))), some (mI (1)), some (mI (0))]) rfl rfl (Nat.le_of_ble_eq_true rfl) rfl ?_
        refine l_sm_k hL hS hnn h8 hi hA (z := z) (l := l) hz (by omega) (T := T) hT.1 (fun w7 => ?_) n 0 _ _ rfl (by show (1 : Int) = (if z = A then 1 else 0) + 0; first | rw [if_pos (by omega)]; rfl | rw [if_neg (by omega)]; rfl) (by omega)
        refine rn_aload_n (k' := 70) rfl rfl rfl ?_
        refine rn_getR (k' := 71) rfl rfl K0_118 (by decide) rfl R0_118_35 ?_
        refine rn_bipush (k' := 72) rfl rfl ?_
        refine rn_iload (k' := 73) rfl rfl rfl ?_
        refine rn_imul (k' := 74) rfl rfl (by omega) ?_
        refine rn_iload (k' := 75) rfl rfl rfl ?_
        refine rn_iadd (k' := 76) rfl rfl (by omega) ?_
        refine rn_iload (k' := 77) rfl rfl rfl ?_
        refine rn_iastore (k' := 78) rfl rfl K0_133 (by omega) (by omega) ?_
        refine rn_iinc (k' := 79) (L' := [some (mR 118), some (mI (i)), some (mI ((n : Int))), some (mI ((A : Int))), some (mI ((z : Int))), some (mI ((l : Int) + 1)), some (mI (wW μ i n z l)), w7]) rfl rfl rfl (by omega) rfl ?_
        refine rn_goto rfl ?_
        show Rn PT none kX12_seats 25 [some (mR 118), some (mI (i)), some (mI ((n : Int))), some (mI ((A : Int))), some (mI ((z : Int))), some (mI ((l : Int) + 1)), some (mI (wW μ i n z l)), w7] [] (mkh (m_set (m_upd (m_set μ 118 0 (0)) 133 T) 133 (((8 * (z : Int)) + (l : Int)).toNat) (wW μ i n z l)) c s) _
        rw [set_upd_eq (a := 133), show ((8 * (z : Int)) + (l : Int)).toNat = z * 8 + l by omega]
        exact ih (l + 1) _ _ _ _ (by omega) (by omega) (TI_step hT (by omega) (by omega) rfl)
set_option maxHeartbeats 4000000 in
theorem l_sm {μ : Nat → Nat → Int} {c s : Nat} (hL : I_land μ) (hS : I_scene μ) {n : Nat} (hnn : μ 6 13 = (n : Int)) (h8 : n < 9) {i : Int} (hi : 0 ≤ i ∧ i ≤ 99) {A : Nat} (hA : A = 2 ^ n - 1) {Q : MR → Prop} (K : ∀ T v4 v5 v6 v7, TB (wW μ i n) n T 0 → Rn PT none kX12_seats 82 [some (mR 118), some (mI (i)), some (mI ((n : Int))), some (mI ((A : Int))), v4, v5, v6, v7] [] (mkh (m_upd (m_set μ 118 0 (0)) 133 T) c s) Q) : ∀ (d : Nat) (z : Int) (T : Nat → Int) (v5 v6 v7 : Option MV), z = (d : Int) - 1 → d ≤ 2 ^ n → (∀ z' l : Nat, d ≤ z' → z' < 2 ^ n → l < n → T (z' * 8 + l) = (wW μ i n) z' l) → Rn PT none kX12_seats 21 [some (mR 118), some (mI (i)), some (mI ((n : Int))), some (mI ((A : Int))), some (mI (z)), v5, v6, v7] [] (mkh (m_upd (m_set μ 118 0 (0)) 133 T) c s) Q := by
  have hL_ := hL
  obtain ⟨lc, lr, le, lm, lw, lh, lwo, lwd, q0, q1, q2, q3, q4, q8, q499, q500, lth, lG, lT, lW, -⟩ := hL_
  have hS_ := hS
  obtain ⟨sd, sw, stk, s4, s5, s6, hC, hH, -, s10, sce, swc, s13⟩ := hS_
  obtain ⟨a1, a2, a3, a4, a5⟩ := all_f n h8
  intro d
  induction d with
  | zero =>
    intro z T v5 v6 v7 ez hd hT
    refine rn_iload (k' := 22) rfl rfl rfl ?_
    refine rn_if_lt (k' := 23) rfl rfl (fun hc1 => ?_) (fun hc1 => ?_)
    · skip
      exact K _ _ _ _ _ (fun z' l h1 h2 h3 => hT z' l (by omega) h2 h3)
    · exfalso; omega
  | succ d ih =>
    intro z T v5 v6 v7 ez hd hT
    have ez2 : z = (d : Int) := by omega
    subst ez2
    refine rn_iload (k' := 22) rfl rfl rfl ?_
    refine rn_if_lt (k' := 23) rfl rfl (fun hc1 => ?_) (fun hc1 => ?_)
    · exfalso; omega
    · skip
      refine rn_iconst (k' := 24) rfl rfl ?_
      refine rn_istore (k' := 25) (L' := [some (mR 118), some (mI (i)), some (mI ((n : Int))), some (mI ((A : Int))), some (mI ((d : Int))), some (mI (0)), v6, v7]) rfl rfl (Nat.le_of_ble_eq_true rfl) rfl ?_
      refine l_sm_l hL hS hnn h8 hi hA (z := d) (by omega) (fun T1 w5 w6 w7 hT1 => ?_) n 0 _ _ _ _ rfl (by omega) ⟨fun z' l h1 h2 h3 => hT z' l (by omega) h2 h3, fun l hl => absurd hl (Nat.not_lt_zero l)⟩
      refine rn_iinc (k' := 81) (L' := [some (mR 118), some (mI (i)), some (mI ((n : Int))), some (mI ((A : Int))), some (mI ((d : Int) + (-1))), w5, w6, w7]) rfl rfl rfl (by omega) rfl ?_
      refine rn_goto rfl ?_
      exact ih _ _ _ _ _ (by omega) (by omega) (fun z' l h1 h2 h3 => by
        by_cases e : z' = d
        · rw [e]; exact hT1.2 l h3
        · exact hT1.1 z' l (by omega) h2 h3)
set_option maxHeartbeats 4000000 in
theorem l_sm_s {μ : Nat → Nat → Int} {c s : Nat} (hL : I_land μ) (hS : I_scene μ) {n : Nat} (hnn : μ 6 13 = (n : Int)) (h8 : n < 9) {i : Int} (hi : 0 ≤ i ∧ i ≤ 99) {A : Nat} {T : Nat → Int} (hT : TB (wW μ i n) n T 0) {v6 v7 : Option MV} {Q : MR → Prop} (K : ∀ v5, Rn PT none kX12_seats 108 [some (mR 118), some (mI (i)), some (mI ((n : Int))), some (mI ((A : Int))), some (mI (sO (wW μ i n) n)), v5, v6, v7] [] (mkh (m_upd (m_set μ 118 0 (0)) 133 T) c s) Q) : ∀ (d k0 : Nat) (acc k : Int), acc = (if n = 0 then 1 else 0) + sS (fun k => wW μ i n (so 0 k) k) k0 → k = (k0 : Int) → k0 + d = n → Rn PT none kX12_seats 90 [some (mR 118), some (mI (i)), some (mI ((n : Int))), some (mI ((A : Int))), some (mI (acc)), some (mI (k)), v6, v7] [] (mkh (m_upd (m_set μ 118 0 (0)) 133 T) c s) Q := by
  have hL_ := hL
  obtain ⟨lc, lr, le, lm, lw, lh, lwo, lwd, q0, q1, q2, q3, q4, q8, q499, q500, lth, lG, lT, lW, -⟩ := hL_
  have hS_ := hS
  obtain ⟨sd, sw, stk, s4, s5, s6, hC, hH, -, s10, sce, swc, s13⟩ := hS_
  obtain ⟨a1, a2, a3, a4, a5⟩ := all_f n h8
  intro d
  induction d with
  | zero =>
    intro k0 acc k ea ek hk
    subst ea ek
    have e0 : k0 = n := by omega
    have hv : (if n = 0 then 1 else 0) + sS (fun k => wW μ i n (so 0 k) k) k0 = sO (wW μ i n) n := by
      rw [e0]
      unfold sO
      by_cases e : n = 0
      · rw [if_pos e, if_pos e, e]; rfl
      · rw [if_neg e, if_neg e, Int.zero_add]
        refine sS_congr n (fun k hk => ?_)
        unfold sT
        rw [if_pos ⟨Nat.zero_testBit k, rfl⟩]
    refine rn_iload (k' := 91) rfl rfl rfl ?_
    refine rn_iload_n (k' := 92) rfl rfl rfl ?_
    refine rn_icmp_ge (k' := 93) rfl rfl (fun hc1 => ?_) (fun hc1 => ?_)
    · skip
      rw [hv]
      exact K _
    · exfalso; omega
  | succ d ih =>
    intro k0 acc k ea ek hk
    subst ea ek
    have hsb := sS_b (t := fun k => wW μ i n (so 0 k) k) (B := 2097152) k0 (fun k hk => wW_c h8 (by omega) (by omega) (Nat.zero_testBit k))
    have hwk := wW_c (μ := μ) (i := i) (z := 0) (k := k0) (l := k0) h8 (by omega) (by omega) (Nat.zero_testBit k0)
    have hib : 0 ≤ (if n = 0 then (1 : Int) else 0) ∧ (if n = 0 then (1 : Int) else 0) ≤ 1 := by split <;> omega
    obtain ⟨f1, f2, f3, f4⟩ := so_f 0 (by decide) k0 (by omega)
    have hTk : T ((8 * (so 0 k0 : Int)) + (k0 : Int)).toNat = wW μ i n (so 0 k0) k0 := by
      rw [show ((8 * (so 0 k0 : Int)) + (k0 : Int)).toNat = so 0 k0 * 8 + k0 by omega]
      exact hT _ k0 (f4 (Nat.zero_testBit k0)).1 (so_lt (by omega) (by omega)) (by omega)
    refine rn_iload (k' := 91) rfl rfl rfl ?_
    refine rn_iload_n (k' := 92) rfl rfl rfl ?_
    refine rn_icmp_ge (k' := 93) rfl rfl (fun hc1 => ?_) (fun hc1 => ?_)
    · exfalso; omega
    · skip
      refine rn_iload (k' := 94) rfl rfl rfl ?_
      refine rn_aload_n (k' := 95) rfl rfl rfl ?_
      refine rn_getR (k' := 96) rfl rfl K0_118 (by decide) rfl R0_118_35 ?_
      refine rn_bipush (k' := 97) rfl rfl ?_
      refine rn_iconst (k' := 98) rfl rfl ?_
      refine rn_iload (k' := 99) rfl rfl rfl ?_
      refine rn_ishl (k' := 100) rfl rfl ?_
      rw [so_0 k0 (by omega)]
      refine rn_imul (k' := 101) rfl rfl (by omega) ?_
      refine rn_iload (k' := 102) rfl rfl rfl ?_
      refine rn_iadd (k' := 103) rfl rfl (by omega) ?_
      refine rn_iaload (k' := 104) rfl rfl K0_133 (by omega) (by omega) ?_
      show Rn PT none kX12_seats 104 [some (mR 118), some (mI (i)), some (mI ((n : Int))), some (mI ((A : Int))), some (mI ((if n = 0 then 1 else 0) + sS (fun k => wW μ i n (so 0 k) k) k0)), some (mI ((k0 : Int))), v6, v7] [mI (T (((8 * ((so 0 k0 : Int))) + (k0 : Int)).toNat)), mI ((if n = 0 then 1 else 0) + sS (fun k => wW μ i n (so 0 k) k) k0)] (mkh (m_upd (m_set μ 118 0 (0)) 133 T) c s) _
      rw [hTk]
      refine rn_iadd (k' := 105) rfl rfl (by omega) ?_
      refine rn_istore (k' := 106) (L' := [some (mR 118), some (mI (i)), some (mI ((n : Int))), some (mI ((A : Int))), some (mI (((if n = 0 then 1 else 0) + sS (fun k => wW μ i n (so 0 k) k) k0) + (wW μ i n (so 0 k0) k0))), some (mI ((k0 : Int))), v6, v7]) rfl rfl (Nat.le_of_ble_eq_true rfl) rfl ?_
      refine rn_iinc (k' := 107) (L' := [some (mR 118), some (mI (i)), some (mI ((n : Int))), some (mI ((A : Int))), some (mI (((if n = 0 then 1 else 0) + sS (fun k => wW μ i n (so 0 k) k) k0) + (wW μ i n (so 0 k0) k0))), some (mI ((k0 : Int) + 1)), v6, v7]) rfl rfl rfl (by omega) rfl ?_
      refine rn_goto rfl ?_
      exact ih (k0 + 1) _ _ (by show _ = (if n = 0 then 1 else 0) + (sS (fun k => wW μ i n (so 0 k) k) k0 + wW μ i n (so 0 k0) k0); omega) (by omega) (by omega)
set_option maxHeartbeats 4000000 in
theorem l_sm_in {μ : Nat → Nat → Int} {c s : Nat} (hL : I_land μ) (hS : I_scene μ) {n : Nat} (hnn : μ 6 13 = (n : Int)) (h8 : n < 9) {i : Int} (hi : 0 ≤ i ∧ i ≤ 99) {A : Nat} (hA : A = 2 ^ n - 1) {j : Nat} (hj : j < n) (hzb : (sG (wW μ i n) (sP μ i) n j).1 < 256 ∧ (sG (wW μ i n) (sP μ i) n j).2 < n) (hz1 : (sG (wW μ i n) (sP μ i) n (j + 1)).1 < 256 ∧ (sG (wW μ i n) (sP μ i) n (j + 1)).2 < n) (hz2 : (sG (wW μ i n) (sP μ i) n j).1 < 2 ^ n) {T U : Nat → Int} (hT : TB (wW μ i n) n T 0) (hU : ∀ l, l < j → U l = ((sG (wW μ i n) (sP μ i) n (l + 1)).2 : Int)) (hyes : (sQ (fun k => decide (j = 0) || sP μ i (sG (wW μ i n) (sP μ i) n j).2 k) (wW μ i n) (sG (wW μ i n) (sP μ i) n j).1) (sG (wW μ i n) (sP μ i) n (j + 1)).2 = true) (hno : ∀ k, k < (sG (wW μ i n) (sP μ i) n (j + 1)).2 → ¬ (sQ (fun k => decide (j = 0) || sP μ i (sG (wW μ i n) (sP μ i) n j).2 k) (wW μ i n) (sG (wW μ i n) (sP μ i) n j).1) k = true) {so_ : Int} {Q : MR → Prop} (K : Rn PT none kX12_seats 156 [some (mR 118), some (mI (i)), some (mI ((n : Int))), some (mI ((A : Int))), some (mI (so_)), some (mI (((sG (wW μ i n) (sP μ i) n j).1 : Int))), some (mI ((j : Int))), some (mI (((sG (wW μ i n) (sP μ i) n (j + 1)).2 : Int)))] [] (mkh (m_upd (m_set (m_upd (m_set μ 118 0 (0)) 133 T) 118 37 ((n : Int))) 134 U) c s) Q) : ∀ (d k0 : Nat) (k : Int), k = (k0 : Int) → k0 + d = (sG (wW μ i n) (sP μ i) n (j + 1)).2 → Rn PT none kX12_seats 124 [some (mR 118), some (mI (i)), some (mI ((n : Int))), some (mI ((A : Int))), some (mI (so_)), some (mI (((sG (wW μ i n) (sP μ i) n j).1 : Int))), some (mI ((j : Int))), some (mI (k))] [] (mkh (m_upd (m_set (m_upd (m_set μ 118 0 (0)) 133 T) 118 37 ((n : Int))) 134 U) c s) (Q) := by
  have hL_ := hL
  obtain ⟨lc, lr, le, lm, lw, lh, lwo, lwd, q0, q1, q2, q3, q4, q8, q499, q500, lth, lG, lT, lW, -⟩ := hL_
  have hS_ := hS
  obtain ⟨sd, sw, stk, s4, s5, s6, hC, hH, -, s10, sce, swc, s13⟩ := hS_
  obtain ⟨a1, a2, a3, a4, a5⟩ := all_f n h8
  intro d
  induction d with
  | zero =>
    intro k0 k ek hn 
    subst ek
    obtain ⟨f1, f2, f3, f4⟩ := so_f (sG (wW μ i n) (sP μ i) n j).1 hzb.1 k0 (by omega)
    have hbz : ¬ bI ((sG (wW μ i n) (sP μ i) n j).1 : Int) k0 = true → (sG (wW μ i n) (sP μ i) n j).1.testBit k0 = false := fun y => by rw [f3] at y; simpa using y
    have hTk : ¬ bI ((sG (wW μ i n) (sP μ i) n j).1 : Int) k0 = true → T ((8 * (so (sG (wW μ i n) (sP μ i) n j).1 k0 : Int)) + (k0 : Int)).toNat = wW μ i n (so (sG (wW μ i n) (sP μ i) n j).1 k0) k0 ∧ 0 ≤ wW μ i n (so (sG (wW μ i n) (sP μ i) n j).1 k0) k0 := fun y => by
      rw [show ((8 * (so (sG (wW μ i n) (sP μ i) n j).1 k0 : Int)) + (k0 : Int)).toNat = so (sG (wW μ i n) (sP μ i) n j).1 k0 * 8 + k0 by omega]
      exact ⟨hT _ k0 (by have := (f4 (hbz y)).1; omega) (so_lt hz2 (by omega)) (by omega), (wW_c h8 hz2 (by omega) (hbz y)).1⟩
    have hU1 : 0 < j → U ((j : Int) - 1).toNat = ((sG (wW μ i n) (sP μ i) n j).2 : Int) := fun y => by
      rw [show ((j : Int) - 1).toNat = j - 1 by omega, hU (j - 1) (by omega), show j - 1 + 1 = j by omega]
    have e0 : k0 = (sG (wW μ i n) (sP μ i) n (j + 1)).2 := by omega
    obtain ⟨y1, y2, y3⟩ := sQ_iff.mp hyes
    rw [← e0] at y1 y2 y3
    have y4 : ¬ bI ((sG (wW μ i n) (sP μ i) n j).1 : Int) k0 = true := by rw [f3, y1]; decide
    have y5 : j = 0 ∨ sP μ i (sG (wW μ i n) (sP μ i) n j).2 k0 = true := by
      by_cases e : j = 0
      · exact Or.inl e
      · right
        rw [show decide (j = 0) = false from decide_eq_false e, Bool.false_or] at y2
        exact y2
    rw [← e0] at K
    refine rn_iload (k' := 125) rfl rfl rfl ?_
    refine rn_iload (k' := 126) rfl rfl rfl ?_
    by_cases hq1 : bI ((sG (wW μ i n) (sP μ i) n j).1 : Int) k0 = true
    · refine rn_callP (k' := 127) (y := 168) (vs := [mI (((sG (wW μ i n) (sP μ i) n j).1 : Int)), mI ((k0 : Int))]) (S' := []) (v := some (mI 1)) (h' := mkh (m_upd (m_set (m_upd (m_set μ 118 0 (0)) 133 T) 118 37 ((n : Int))) 134 U) c s) rfl rfl rfl (by have hz : Cl PT 168 [mI (((sG (wW μ i n) (sP μ i) n j).1 : Int)), mI ((k0 : Int))] (mkh (m_upd (m_set (m_upd (m_set μ 118 0 (0)) 133 T) 118 37 ((n : Int))) 134 U) c s) (fun r => r = (some (some (mI (if bI ((sG (wW μ i n) (sP μ i) n j).1 : Int) k0 = true then 1 else 0))), mkh (m_upd (m_set (m_upd (m_set μ 118 0 (0)) 133 T) 118 37 ((n : Int))) 134 U) c s)) := c_X12_has (x := ((sG (wW μ i n) (sP μ i) n j).1 : Int)) (t := k0) (by omega) (μ := (m_upd (m_set (m_upd (m_set μ 118 0 (0)) 133 T) 118 37 ((n : Int))) 134 U)) (c := c) (s := s); rw [if_pos hq1] at hz; exact hz) ?_
      show Rn PT none kX12_seats 127 [some (mR 118), some (mI (i)), some (mI ((n : Int))), some (mI ((A : Int))), some (mI (so_)), some (mI (((sG (wW μ i n) (sP μ i) n j).1 : Int))), some (mI ((j : Int))), some (mI ((k0 : Int)))] [mI (1)] (mkh (m_upd (m_set (m_upd (m_set μ 118 0 (0)) 133 T) 118 37 ((n : Int))) 134 U) c s) _
      refine rn_if_ne (k' := 128) rfl rfl (fun hc2 => ?_) (fun hc2 => ?_)
      · skip
        refine rn_iinc (k' := 155) (L' := [some (mR 118), some (mI (i)), some (mI ((n : Int))), some (mI ((A : Int))), some (mI (so_)), some (mI (((sG (wW μ i n) (sP μ i) n j).1 : Int))), some (mI ((j : Int))), some (mI ((k0 : Int) + 1))]) rfl rfl rfl (by omega) rfl ?_
        refine rn_goto rfl ?_
        exfalso
        first | exact y4 (by assumption) | (rcases y5 with y | y <;> first | omega | exact absurd y (by assumption))
      · exfalso; omega
    · refine rn_callP (k' := 127) (y := 168) (vs := [mI (((sG (wW μ i n) (sP μ i) n j).1 : Int)), mI ((k0 : Int))]) (S' := []) (v := some (mI 0)) (h' := mkh (m_upd (m_set (m_upd (m_set μ 118 0 (0)) 133 T) 118 37 ((n : Int))) 134 U) c s) rfl rfl rfl (by have hz : Cl PT 168 [mI (((sG (wW μ i n) (sP μ i) n j).1 : Int)), mI ((k0 : Int))] (mkh (m_upd (m_set (m_upd (m_set μ 118 0 (0)) 133 T) 118 37 ((n : Int))) 134 U) c s) (fun r => r = (some (some (mI (if bI ((sG (wW μ i n) (sP μ i) n j).1 : Int) k0 = true then 1 else 0))), mkh (m_upd (m_set (m_upd (m_set μ 118 0 (0)) 133 T) 118 37 ((n : Int))) 134 U) c s)) := c_X12_has (x := ((sG (wW μ i n) (sP μ i) n j).1 : Int)) (t := k0) (by omega) (μ := (m_upd (m_set (m_upd (m_set μ 118 0 (0)) 133 T) 118 37 ((n : Int))) 134 U)) (c := c) (s := s); rw [if_neg hq1] at hz; exact hz) ?_
      show Rn PT none kX12_seats 127 [some (mR 118), some (mI (i)), some (mI ((n : Int))), some (mI ((A : Int))), some (mI (so_)), some (mI (((sG (wW μ i n) (sP μ i) n j).1 : Int))), some (mI ((j : Int))), some (mI ((k0 : Int)))] [mI (0)] (mkh (m_upd (m_set (m_upd (m_set μ 118 0 (0)) 133 T) 118 37 ((n : Int))) 134 U) c s) _
      refine rn_if_ne (k' := 128) rfl rfl (fun hc3 => ?_) (fun hc3 => ?_)
      · exfalso; omega
      · skip
        refine rn_iload (k' := 129) rfl rfl rfl ?_
        refine rn_if_le (k' := 130) rfl rfl (fun hc4 => ?_) (fun hc4 => ?_)
        · skip
          refine rn_aload_n (k' := 142) rfl rfl rfl ?_
          refine rn_getR (k' := 143) rfl rfl K0_118 (by decide) rfl R0_118_35 ?_
          refine rn_bipush (k' := 144) rfl rfl ?_
          refine rn_iload (k' := 145) rfl rfl rfl ?_
          refine rn_iconst (k' := 146) rfl rfl ?_
          refine rn_iload (k' := 147) rfl rfl rfl ?_
          refine rn_ishl (k' := 148) rfl rfl ?_
          refine rn_ior (k' := 149) rfl rfl ?_
          rw [f1]
          refine rn_imul (k' := 150) rfl rfl (by omega) ?_
          refine rn_iload (k' := 151) rfl rfl rfl ?_
          refine rn_iadd (k' := 152) rfl rfl (by omega) ?_
          refine rn_iaload (k' := 153) rfl rfl K0_133 (by omega) (by omega) ?_
          show Rn PT none kX12_seats 153 [some (mR 118), some (mI (i)), some (mI ((n : Int))), some (mI ((A : Int))), some (mI (so_)), some (mI (((sG (wW μ i n) (sP μ i) n j).1 : Int))), some (mI ((j : Int))), some (mI ((k0 : Int)))] [mI (T (((8 * ((so (sG (wW μ i n) (sP μ i) n j).1 k0 : Int))) + (k0 : Int)).toNat))] (mkh (m_upd (m_set (m_upd (m_set μ 118 0 (0)) 133 T) 118 37 ((n : Int))) 134 U) c s) _
          rw [(hTk (by assumption)).1]
          have hb5 := (hTk (by assumption)).2
          refine rn_if_ne (k' := 154) rfl rfl (fun hc6 => ?_) (fun hc6 => ?_)
          · skip
            exact K
          · exfalso; omega
        · skip
          refine rn_aload_n (k' := 131) rfl rfl rfl ?_
          refine rn_aload_n (k' := 132) rfl rfl rfl ?_
          refine rn_getR (k' := 133) rfl rfl K0_118 (by decide) rfl R0_118_36 ?_
          refine rn_iload (k' := 134) rfl rfl rfl ?_
          refine rn_iconst (k' := 135) rfl rfl ?_
          refine rn_isub (k' := 136) rfl rfl (by omega) ?_
          refine rn_iaload (k' := 137) rfl rfl K0_134 (by omega) (by omega) ?_
          show Rn PT none kX12_seats 137 [some (mR 118), some (mI (i)), some (mI ((n : Int))), some (mI ((A : Int))), some (mI (so_)), some (mI (((sG (wW μ i n) (sP μ i) n j).1 : Int))), some (mI ((j : Int))), some (mI ((k0 : Int)))] [mI (U (((j : Int) - 1).toNat)), mR 118] (mkh (m_upd (m_set (m_upd (m_set μ 118 0 (0)) 133 T) 118 37 ((n : Int))) 134 U) c s) _
          rw [hU1 (by omega)]
          refine rn_iload (k' := 138) rfl rfl rfl ?_
          refine rn_iload_n (k' := 139) rfl rfl rfl ?_
          by_cases hq7 : sP μ i (sG (wW μ i n) (sP μ i) n j).2 k0 = true
          · refine rn_callP (k' := 140) (y := 251) (vs := [mR 118, mI (((sG (wW μ i n) (sP μ i) n j).2 : Int)), mI ((k0 : Int)), mI (i)]) (S' := []) (v := some (mI 1)) (h' := mkh (m_upd (m_set (m_upd (m_set μ 118 0 (0)) 133 T) 118 37 ((n : Int))) 134 U) c s) rfl rfl rfl (by have hz : Cl PT 251 [mR 118, mI (((sG (wW μ i n) (sP μ i) n j).2 : Int)), mI ((k0 : Int)), mI (i)] (mkh (m_upd (m_set (m_upd (m_set μ 118 0 (0)) 133 T) 118 37 ((n : Int))) 134 U) c s) (fun r => r = (some (some (mI (if sP μ i (sG (wW μ i n) (sP μ i) n j).2 k0 = true then 1 else 0))), mkh (m_upd (m_set (m_upd (m_set μ 118 0 (0)) 133 T) 118 37 ((n : Int))) 134 U) c s)) := (by have h := c_X12_mayNeighbour (μ := (m_upd (m_set (m_upd (m_set μ 118 0 (0)) 133 T) 118 37 ((n : Int))) 134 U)) (c := c) (s := s) (((((hL).set rfl).upd rfl).set rfl).upd rfl) (((((hS).set rfl).upd rfl).set rfl).upd rfl) (a := (sG (wW μ i n) (sP μ i) n j).2) (b := k0) (by show (_ : Int) < μ 6 13; omega) (by show (_ : Int) < μ 6 13; omega) (i := i); rw [sP_rows (ν := (m_upd (m_set (m_upd (m_set μ 118 0 (0)) 133 T) 118 37 ((n : Int))) 134 U)) (μ := μ) rfl rfl] at h; exact h); rw [if_pos hq7] at hz; exact hz) ?_
            show Rn PT none kX12_seats 140 [some (mR 118), some (mI (i)), some (mI ((n : Int))), some (mI ((A : Int))), some (mI (so_)), some (mI (((sG (wW μ i n) (sP μ i) n j).1 : Int))), some (mI ((j : Int))), some (mI ((k0 : Int)))] [mI (1)] (mkh (m_upd (m_set (m_upd (m_set μ 118 0 (0)) 133 T) 118 37 ((n : Int))) 134 U) c s) _
            refine rn_if_eq (k' := 141) rfl rfl (fun hc8 => ?_) (fun hc8 => ?_)
            · exfalso; omega
            · skip
              refine rn_aload_n (k' := 142) rfl rfl rfl ?_
              refine rn_getR (k' := 143) rfl rfl K0_118 (by decide) rfl R0_118_35 ?_
              refine rn_bipush (k' := 144) rfl rfl ?_
              refine rn_iload (k' := 145) rfl rfl rfl ?_
              refine rn_iconst (k' := 146) rfl rfl ?_
              refine rn_iload (k' := 147) rfl rfl rfl ?_
              refine rn_ishl (k' := 148) rfl rfl ?_
              refine rn_ior (k' := 149) rfl rfl ?_
              rw [f1]
              refine rn_imul (k' := 150) rfl rfl (by omega) ?_
              refine rn_iload (k' := 151) rfl rfl rfl ?_
              refine rn_iadd (k' := 152) rfl rfl (by omega) ?_
              refine rn_iaload (k' := 153) rfl rfl K0_133 (by omega) (by omega) ?_
              show Rn PT none kX12_seats 153 [some (mR 118), some (mI (i)), some (mI ((n : Int))), some (mI ((A : Int))), some (mI (so_)), some (mI (((sG (wW μ i n) (sP μ i) n j).1 : Int))), some (mI ((j : Int))), some (mI ((k0 : Int)))] [mI (T (((8 * ((so (sG (wW μ i n) (sP μ i) n j).1 k0 : Int))) + (k0 : Int)).toNat))] (mkh (m_upd (m_set (m_upd (m_set μ 118 0 (0)) 133 T) 118 37 ((n : Int))) 134 U) c s) _
              rw [(hTk (by assumption)).1]
              have hb9 := (hTk (by assumption)).2
              refine rn_if_ne (k' := 154) rfl rfl (fun hc10 => ?_) (fun hc10 => ?_)
              · skip
                exact K
              · exfalso; omega
          · refine rn_callP (k' := 140) (y := 251) (vs := [mR 118, mI (((sG (wW μ i n) (sP μ i) n j).2 : Int)), mI ((k0 : Int)), mI (i)]) (S' := []) (v := some (mI 0)) (h' := mkh (m_upd (m_set (m_upd (m_set μ 118 0 (0)) 133 T) 118 37 ((n : Int))) 134 U) c s) rfl rfl rfl (by have hz : Cl PT 251 [mR 118, mI (((sG (wW μ i n) (sP μ i) n j).2 : Int)), mI ((k0 : Int)), mI (i)] (mkh (m_upd (m_set (m_upd (m_set μ 118 0 (0)) 133 T) 118 37 ((n : Int))) 134 U) c s) (fun r => r = (some (some (mI (if sP μ i (sG (wW μ i n) (sP μ i) n j).2 k0 = true then 1 else 0))), mkh (m_upd (m_set (m_upd (m_set μ 118 0 (0)) 133 T) 118 37 ((n : Int))) 134 U) c s)) := (by have h := c_X12_mayNeighbour (μ := (m_upd (m_set (m_upd (m_set μ 118 0 (0)) 133 T) 118 37 ((n : Int))) 134 U)) (c := c) (s := s) (((((hL).set rfl).upd rfl).set rfl).upd rfl) (((((hS).set rfl).upd rfl).set rfl).upd rfl) (a := (sG (wW μ i n) (sP μ i) n j).2) (b := k0) (by show (_ : Int) < μ 6 13; omega) (by show (_ : Int) < μ 6 13; omega) (i := i); rw [sP_rows (ν := (m_upd (m_set (m_upd (m_set μ 118 0 (0)) 133 T) 118 37 ((n : Int))) 134 U)) (μ := μ) rfl rfl] at h; exact h); rw [if_neg hq7] at hz; exact hz) ?_
            show Rn PT none kX12_seats 140 [some (mR 118), some (mI (i)), some (mI ((n : Int))), some (mI ((A : Int))), some (mI (so_)), some (mI (((sG (wW μ i n) (sP μ i) n j).1 : Int))), some (mI ((j : Int))), some (mI ((k0 : Int)))] [mI (0)] (mkh (m_upd (m_set (m_upd (m_set μ 118 0 (0)) 133 T) 118 37 ((n : Int))) 134 U) c s) _
            refine rn_if_eq (k' := 141) rfl rfl (fun hc11 => ?_) (fun hc11 => ?_)
            · skip
              refine rn_iinc (k' := 155) (L' := [some (mR 118), some (mI (i)), some (mI ((n : Int))), some (mI ((A : Int))), some (mI (so_)), some (mI (((sG (wW μ i n) (sP μ i) n j).1 : Int))), some (mI ((j : Int))), some (mI ((k0 : Int) + 1))]) rfl rfl rfl (by omega) rfl ?_
              refine rn_goto rfl ?_
              exfalso
              first | exact y4 (by assumption) | (rcases y5 with y | y <;> first | omega | exact absurd y (by assumption))
            · exfalso; omega
  | succ d ih =>
    intro k0 k ek hn 
    subst ek
    obtain ⟨f1, f2, f3, f4⟩ := so_f (sG (wW μ i n) (sP μ i) n j).1 hzb.1 k0 (by omega)
    have hbz : ¬ bI ((sG (wW μ i n) (sP μ i) n j).1 : Int) k0 = true → (sG (wW μ i n) (sP μ i) n j).1.testBit k0 = false := fun y => by rw [f3] at y; simpa using y
    have hTk : ¬ bI ((sG (wW μ i n) (sP μ i) n j).1 : Int) k0 = true → T ((8 * (so (sG (wW μ i n) (sP μ i) n j).1 k0 : Int)) + (k0 : Int)).toNat = wW μ i n (so (sG (wW μ i n) (sP μ i) n j).1 k0) k0 ∧ 0 ≤ wW μ i n (so (sG (wW μ i n) (sP μ i) n j).1 k0) k0 := fun y => by
      rw [show ((8 * (so (sG (wW μ i n) (sP μ i) n j).1 k0 : Int)) + (k0 : Int)).toNat = so (sG (wW μ i n) (sP μ i) n j).1 k0 * 8 + k0 by omega]
      exact ⟨hT _ k0 (by have := (f4 (hbz y)).1; omega) (so_lt hz2 (by omega)) (by omega), (wW_c h8 hz2 (by omega) (hbz y)).1⟩
    have hU1 : 0 < j → U ((j : Int) - 1).toNat = ((sG (wW μ i n) (sP μ i) n j).2 : Int) := fun y => by
      rw [show ((j : Int) - 1).toNat = j - 1 by omega, hU (j - 1) (by omega), show j - 1 + 1 = j by omega]
    have hq : ¬ (sQ (fun k => decide (j = 0) || sP μ i (sG (wW μ i n) (sP μ i) n j).2 k) (wW μ i n) (sG (wW μ i n) (sP μ i) n j).1) k0 = true := hno k0 (by omega)
    have hq2 : bI ((sG (wW μ i n) (sP μ i) n j).1 : Int) k0 = true ∨ (¬ j = 0 ∧ ¬ sP μ i (sG (wW μ i n) (sP μ i) n j).2 k0 = true) ∨ ¬ 0 < wW μ i n (so (sG (wW μ i n) (sP μ i) n j).1 k0) k0 := by
      by_cases y1 : bI ((sG (wW μ i n) (sP μ i) n j).1 : Int) k0 = true
      · exact Or.inl y1
      · by_cases y2 : 0 < wW μ i n (so (sG (wW μ i n) (sP μ i) n j).1 k0) k0
        · refine Or.inr (Or.inl (Classical.byContradiction (fun y3 => hq (sQ_iff.mpr ⟨hbz y1, ?_, y2⟩))))
          by_cases y4 : j = 0
          · simp [y4]
          · by_cases y5 : sP μ i (sG (wW μ i n) (sP μ i) n j).2 k0 = true
            · rw [y5, Bool.or_true]
            · exact absurd ⟨y4, y5⟩ y3
        · exact Or.inr (Or.inr y2)
    refine rn_iload (k' := 125) rfl rfl rfl ?_
    refine rn_iload (k' := 126) rfl rfl rfl ?_
    by_cases hq1 : bI ((sG (wW μ i n) (sP μ i) n j).1 : Int) k0 = true
    · refine rn_callP (k' := 127) (y := 168) (vs := [mI (((sG (wW μ i n) (sP μ i) n j).1 : Int)), mI ((k0 : Int))]) (S' := []) (v := some (mI 1)) (h' := mkh (m_upd (m_set (m_upd (m_set μ 118 0 (0)) 133 T) 118 37 ((n : Int))) 134 U) c s) rfl rfl rfl (by have hz : Cl PT 168 [mI (((sG (wW μ i n) (sP μ i) n j).1 : Int)), mI ((k0 : Int))] (mkh (m_upd (m_set (m_upd (m_set μ 118 0 (0)) 133 T) 118 37 ((n : Int))) 134 U) c s) (fun r => r = (some (some (mI (if bI ((sG (wW μ i n) (sP μ i) n j).1 : Int) k0 = true then 1 else 0))), mkh (m_upd (m_set (m_upd (m_set μ 118 0 (0)) 133 T) 118 37 ((n : Int))) 134 U) c s)) := c_X12_has (x := ((sG (wW μ i n) (sP μ i) n j).1 : Int)) (t := k0) (by omega) (μ := (m_upd (m_set (m_upd (m_set μ 118 0 (0)) 133 T) 118 37 ((n : Int))) 134 U)) (c := c) (s := s); rw [if_pos hq1] at hz; exact hz) ?_
      show Rn PT none kX12_seats 127 [some (mR 118), some (mI (i)), some (mI ((n : Int))), some (mI ((A : Int))), some (mI (so_)), some (mI (((sG (wW μ i n) (sP μ i) n j).1 : Int))), some (mI ((j : Int))), some (mI ((k0 : Int)))] [mI (1)] (mkh (m_upd (m_set (m_upd (m_set μ 118 0 (0)) 133 T) 118 37 ((n : Int))) 134 U) c s) _
      refine rn_if_ne (k' := 128) rfl rfl (fun hc2 => ?_) (fun hc2 => ?_)
      · skip
        refine rn_iinc (k' := 155) (L' := [some (mR 118), some (mI (i)), some (mI ((n : Int))), some (mI ((A : Int))), some (mI (so_)), some (mI (((sG (wW μ i n) (sP μ i) n j).1 : Int))), some (mI ((j : Int))), some (mI ((k0 : Int) + 1))]) rfl rfl rfl (by omega) rfl ?_
        refine rn_goto rfl ?_
        exact ih (k0 + 1) _ (by omega) (by omega)
      · exfalso; omega
    · refine rn_callP (k' := 127) (y := 168) (vs := [mI (((sG (wW μ i n) (sP μ i) n j).1 : Int)), mI ((k0 : Int))]) (S' := []) (v := some (mI 0)) (h' := mkh (m_upd (m_set (m_upd (m_set μ 118 0 (0)) 133 T) 118 37 ((n : Int))) 134 U) c s) rfl rfl rfl (by have hz : Cl PT 168 [mI (((sG (wW μ i n) (sP μ i) n j).1 : Int)), mI ((k0 : Int))] (mkh (m_upd (m_set (m_upd (m_set μ 118 0 (0)) 133 T) 118 37 ((n : Int))) 134 U) c s) (fun r => r = (some (some (mI (if bI ((sG (wW μ i n) (sP μ i) n j).1 : Int) k0 = true then 1 else 0))), mkh (m_upd (m_set (m_upd (m_set μ 118 0 (0)) 133 T) 118 37 ((n : Int))) 134 U) c s)) := c_X12_has (x := ((sG (wW μ i n) (sP μ i) n j).1 : Int)) (t := k0) (by omega) (μ := (m_upd (m_set (m_upd (m_set μ 118 0 (0)) 133 T) 118 37 ((n : Int))) 134 U)) (c := c) (s := s); rw [if_neg hq1] at hz; exact hz) ?_
      show Rn PT none kX12_seats 127 [some (mR 118), some (mI (i)), some (mI ((n : Int))), some (mI ((A : Int))), some (mI (so_)), some (mI (((sG (wW μ i n) (sP μ i) n j).1 : Int))), some (mI ((j : Int))), some (mI ((k0 : Int)))] [mI (0)] (mkh (m_upd (m_set (m_upd (m_set μ 118 0 (0)) 133 T) 118 37 ((n : Int))) 134 U) c s) _
      refine rn_if_ne (k' := 128) rfl rfl (fun hc3 => ?_) (fun hc3 => ?_)
      · exfalso; omega
      · skip
        refine rn_iload (k' := 129) rfl rfl rfl ?_
        refine rn_if_le (k' := 130) rfl rfl (fun hc4 => ?_) (fun hc4 => ?_)
        · skip
          refine rn_aload_n (k' := 142) rfl rfl rfl ?_
          refine rn_getR (k' := 143) rfl rfl K0_118 (by decide) rfl R0_118_35 ?_
          refine rn_bipush (k' := 144) rfl rfl ?_
          refine rn_iload (k' := 145) rfl rfl rfl ?_
          refine rn_iconst (k' := 146) rfl rfl ?_
          refine rn_iload (k' := 147) rfl rfl rfl ?_
          refine rn_ishl (k' := 148) rfl rfl ?_
          refine rn_ior (k' := 149) rfl rfl ?_
          rw [f1]
          refine rn_imul (k' := 150) rfl rfl (by omega) ?_
          refine rn_iload (k' := 151) rfl rfl rfl ?_
          refine rn_iadd (k' := 152) rfl rfl (by omega) ?_
          refine rn_iaload (k' := 153) rfl rfl K0_133 (by omega) (by omega) ?_
          show Rn PT none kX12_seats 153 [some (mR 118), some (mI (i)), some (mI ((n : Int))), some (mI ((A : Int))), some (mI (so_)), some (mI (((sG (wW μ i n) (sP μ i) n j).1 : Int))), some (mI ((j : Int))), some (mI ((k0 : Int)))] [mI (T (((8 * ((so (sG (wW μ i n) (sP μ i) n j).1 k0 : Int))) + (k0 : Int)).toNat))] (mkh (m_upd (m_set (m_upd (m_set μ 118 0 (0)) 133 T) 118 37 ((n : Int))) 134 U) c s) _
          rw [(hTk (by assumption)).1]
          have hb5 := (hTk (by assumption)).2
          refine rn_if_ne (k' := 154) rfl rfl (fun hc6 => ?_) (fun hc6 => ?_)
          · skip
            exfalso
            rcases hq2 with y | y | y
            · exact absurd y (by assumption)
            · first | exact absurd (by omega) y.1 | exact absurd (by assumption) y.2
            · omega
          · skip
            refine rn_iinc (k' := 155) (L' := [some (mR 118), some (mI (i)), some (mI ((n : Int))), some (mI ((A : Int))), some (mI (so_)), some (mI (((sG (wW μ i n) (sP μ i) n j).1 : Int))), some (mI ((j : Int))), some (mI ((k0 : Int) + 1))]) rfl rfl rfl (by omega) rfl ?_
            refine rn_goto rfl ?_
            exact ih (k0 + 1) _ (by omega) (by omega)
        · skip
          refine rn_aload_n (k' := 131) rfl rfl rfl ?_
          refine rn_aload_n (k' := 132) rfl rfl rfl ?_
          refine rn_getR (k' := 133) rfl rfl K0_118 (by decide) rfl R0_118_36 ?_
          refine rn_iload (k' := 134) rfl rfl rfl ?_
          refine rn_iconst (k' := 135) rfl rfl ?_
          refine rn_isub (k' := 136) rfl rfl (by omega) ?_
          refine rn_iaload (k' := 137) rfl rfl K0_134 (by omega) (by omega) ?_
          show Rn PT none kX12_seats 137 [some (mR 118), some (mI (i)), some (mI ((n : Int))), some (mI ((A : Int))), some (mI (so_)), some (mI (((sG (wW μ i n) (sP μ i) n j).1 : Int))), some (mI ((j : Int))), some (mI ((k0 : Int)))] [mI (U (((j : Int) - 1).toNat)), mR 118] (mkh (m_upd (m_set (m_upd (m_set μ 118 0 (0)) 133 T) 118 37 ((n : Int))) 134 U) c s) _
          rw [hU1 (by omega)]
          refine rn_iload (k' := 138) rfl rfl rfl ?_
          refine rn_iload_n (k' := 139) rfl rfl rfl ?_
          by_cases hq7 : sP μ i (sG (wW μ i n) (sP μ i) n j).2 k0 = true
          · refine rn_callP (k' := 140) (y := 251) (vs := [mR 118, mI (((sG (wW μ i n) (sP μ i) n j).2 : Int)), mI ((k0 : Int)), mI (i)]) (S' := []) (v := some (mI 1)) (h' := mkh (m_upd (m_set (m_upd (m_set μ 118 0 (0)) 133 T) 118 37 ((n : Int))) 134 U) c s) rfl rfl rfl (by have hz : Cl PT 251 [mR 118, mI (((sG (wW μ i n) (sP μ i) n j).2 : Int)), mI ((k0 : Int)), mI (i)] (mkh (m_upd (m_set (m_upd (m_set μ 118 0 (0)) 133 T) 118 37 ((n : Int))) 134 U) c s) (fun r => r = (some (some (mI (if sP μ i (sG (wW μ i n) (sP μ i) n j).2 k0 = true then 1 else 0))), mkh (m_upd (m_set (m_upd (m_set μ 118 0 (0)) 133 T) 118 37 ((n : Int))) 134 U) c s)) := (by have h := c_X12_mayNeighbour (μ := (m_upd (m_set (m_upd (m_set μ 118 0 (0)) 133 T) 118 37 ((n : Int))) 134 U)) (c := c) (s := s) (((((hL).set rfl).upd rfl).set rfl).upd rfl) (((((hS).set rfl).upd rfl).set rfl).upd rfl) (a := (sG (wW μ i n) (sP μ i) n j).2) (b := k0) (by show (_ : Int) < μ 6 13; omega) (by show (_ : Int) < μ 6 13; omega) (i := i); rw [sP_rows (ν := (m_upd (m_set (m_upd (m_set μ 118 0 (0)) 133 T) 118 37 ((n : Int))) 134 U)) (μ := μ) rfl rfl] at h; exact h); rw [if_pos hq7] at hz; exact hz) ?_
            show Rn PT none kX12_seats 140 [some (mR 118), some (mI (i)), some (mI ((n : Int))), some (mI ((A : Int))), some (mI (so_)), some (mI (((sG (wW μ i n) (sP μ i) n j).1 : Int))), some (mI ((j : Int))), some (mI ((k0 : Int)))] [mI (1)] (mkh (m_upd (m_set (m_upd (m_set μ 118 0 (0)) 133 T) 118 37 ((n : Int))) 134 U) c s) _
            refine rn_if_eq (k' := 141) rfl rfl (fun hc8 => ?_) (fun hc8 => ?_)
            · exfalso; omega
            · skip
              refine rn_aload_n (k' := 142) rfl rfl rfl ?_
              refine rn_getR (k' := 143) rfl rfl K0_118 (by decide) rfl R0_118_35 ?_
              refine rn_bipush (k' := 144) rfl rfl ?_
              refine rn_iload (k' := 145) rfl rfl rfl ?_
              refine rn_iconst (k' := 146) rfl rfl ?_
              refine rn_iload (k' := 147) rfl rfl rfl ?_
              refine rn_ishl (k' := 148) rfl rfl ?_
              refine rn_ior (k' := 149) rfl rfl ?_
              rw [f1]
              refine rn_imul (k' := 150) rfl rfl (by omega) ?_
              refine rn_iload (k' := 151) rfl rfl rfl ?_
              refine rn_iadd (k' := 152) rfl rfl (by omega) ?_
              refine rn_iaload (k' := 153) rfl rfl K0_133 (by omega) (by omega) ?_
              show Rn PT none kX12_seats 153 [some (mR 118), some (mI (i)), some (mI ((n : Int))), some (mI ((A : Int))), some (mI (so_)), some (mI (((sG (wW μ i n) (sP μ i) n j).1 : Int))), some (mI ((j : Int))), some (mI ((k0 : Int)))] [mI (T (((8 * ((so (sG (wW μ i n) (sP μ i) n j).1 k0 : Int))) + (k0 : Int)).toNat))] (mkh (m_upd (m_set (m_upd (m_set μ 118 0 (0)) 133 T) 118 37 ((n : Int))) 134 U) c s) _
              rw [(hTk (by assumption)).1]
              have hb9 := (hTk (by assumption)).2
              refine rn_if_ne (k' := 154) rfl rfl (fun hc10 => ?_) (fun hc10 => ?_)
              · skip
                exfalso
                rcases hq2 with y | y | y
                · exact absurd y (by assumption)
                · first | exact absurd (by omega) y.1 | exact absurd (by assumption) y.2
                · omega
              · skip
                refine rn_iinc (k' := 155) (L' := [some (mR 118), some (mI (i)), some (mI ((n : Int))), some (mI ((A : Int))), some (mI (so_)), some (mI (((sG (wW μ i n) (sP μ i) n j).1 : Int))), some (mI ((j : Int))), some (mI ((k0 : Int) + 1))]) rfl rfl rfl (by omega) rfl ?_
                refine rn_goto rfl ?_
                exact ih (k0 + 1) _ (by omega) (by omega)
          · refine rn_callP (k' := 140) (y := 251) (vs := [mR 118, mI (((sG (wW μ i n) (sP μ i) n j).2 : Int)), mI ((k0 : Int)), mI (i)]) (S' := []) (v := some (mI 0)) (h' := mkh (m_upd (m_set (m_upd (m_set μ 118 0 (0)) 133 T) 118 37 ((n : Int))) 134 U) c s) rfl rfl rfl (by have hz : Cl PT 251 [mR 118, mI (((sG (wW μ i n) (sP μ i) n j).2 : Int)), mI ((k0 : Int)), mI (i)] (mkh (m_upd (m_set (m_upd (m_set μ 118 0 (0)) 133 T) 118 37 ((n : Int))) 134 U) c s) (fun r => r = (some (some (mI (if sP μ i (sG (wW μ i n) (sP μ i) n j).2 k0 = true then 1 else 0))), mkh (m_upd (m_set (m_upd (m_set μ 118 0 (0)) 133 T) 118 37 ((n : Int))) 134 U) c s)) := (by have h := c_X12_mayNeighbour (μ := (m_upd (m_set (m_upd (m_set μ 118 0 (0)) 133 T) 118 37 ((n : Int))) 134 U)) (c := c) (s := s) (((((hL).set rfl).upd rfl).set rfl).upd rfl) (((((hS).set rfl).upd rfl).set rfl).upd rfl) (a := (sG (wW μ i n) (sP μ i) n j).2) (b := k0) (by show (_ : Int) < μ 6 13; omega) (by show (_ : Int) < μ 6 13; omega) (i := i); rw [sP_rows (ν := (m_upd (m_set (m_upd (m_set μ 118 0 (0)) 133 T) 118 37 ((n : Int))) 134 U)) (μ := μ) rfl rfl] at h; exact h); rw [if_neg hq7] at hz; exact hz) ?_
            show Rn PT none kX12_seats 140 [some (mR 118), some (mI (i)), some (mI ((n : Int))), some (mI ((A : Int))), some (mI (so_)), some (mI (((sG (wW μ i n) (sP μ i) n j).1 : Int))), some (mI ((j : Int))), some (mI ((k0 : Int)))] [mI (0)] (mkh (m_upd (m_set (m_upd (m_set μ 118 0 (0)) 133 T) 118 37 ((n : Int))) 134 U) c s) _
            refine rn_if_eq (k' := 141) rfl rfl (fun hc11 => ?_) (fun hc11 => ?_)
            · skip
              refine rn_iinc (k' := 155) (L' := [some (mR 118), some (mI (i)), some (mI ((n : Int))), some (mI ((A : Int))), some (mI (so_)), some (mI (((sG (wW μ i n) (sP μ i) n j).1 : Int))), some (mI ((j : Int))), some (mI ((k0 : Int) + 1))]) rfl rfl rfl (by omega) rfl ?_
              refine rn_goto rfl ?_
              exact ih (k0 + 1) _ (by omega) (by omega)
            · exfalso; omega
set_option maxHeartbeats 4000000 in
theorem l_sm_o {μ : Nat → Nat → Int} {c s : Nat} (hL : I_land μ) (hS : I_scene μ) {n : Nat} (hnn : μ 6 13 = (n : Int)) (h8 : n < 9) {i : Int} (hi : 0 ≤ i ∧ i ≤ 99) {A : Nat} (hA : A = 2 ^ n - 1) (hn1 : 1 ≤ n) (h0 : 0 < sO (wW μ i n) n) {T : Nat → Int} (hT : TB (wW μ i n) n T 0) : ∀ (d j : Nat) (zi : Int) (k : Int) (U : Nat → Int) (v7 : Option MV), zi = ((sG (wW μ i n) (sP μ i) n j).1 : Int) → k = (j : Int) → j + d = n → (∀ l, l < j → U l = ((sG (wW μ i n) (sP μ i) n (l + 1)).2 : Int)) → Rn PT none kX12_seats 119 [some (mR 118), some (mI (i)), some (mI ((n : Int))), some (mI ((A : Int))), some (mI (sO (wW μ i n) n)), some (mI (zi)), some (mI (k)), v7] [] (mkh (m_upd (m_set (m_upd (m_set μ 118 0 (0)) 133 T) 118 37 ((n : Int))) 134 U) c s) (fun r => ∃ (T U : Nat → Int), r = (some (some (mI (sO (wW μ i n) n))), mkh (m_upd (m_set (m_upd (m_set μ 118 0 (0)) 133 T) 118 37 (n : Int)) 134 U) c s) ∧ ∀ l, l < n → U l = ((sG (wW μ i n) (sP μ i) n (l + 1)).2 : Int)) := by
  have hL_ := hL
  obtain ⟨lc, lr, le, lm, lw, lh, lwo, lwd, q0, q1, q2, q3, q4, q8, q499, q500, lth, lG, lT, lW, -⟩ := hL_
  have hS_ := hS
  obtain ⟨sd, sw, stk, s4, s5, s6, hC, hH, -, s10, sce, swc, s13⟩ := hS_
  obtain ⟨a1, a2, a3, a4, a5⟩ := all_f n h8
  intro d
  induction d with
  | zero =>
    intro j zi k U v7 ezi ek hn hU
    subst ezi ek
    refine rn_iload (k' := 120) rfl rfl rfl ?_
    refine rn_iload_n (k' := 121) rfl rfl rfl ?_
    refine rn_icmp_ge (k' := 122) rfl rfl (fun hc1 => ?_) (fun hc1 => ?_)
    · skip
      refine rn_iload (k' := 170) rfl rfl rfl ?_
      refine rn_iret rfl (Or.inl rfl) ?_
      exact ⟨T, U, rfl, fun l hl => hU l (by omega)⟩
    · exfalso; omega
  | succ d ih =>
    intro j zi k U v7 ezi ek hn hU
    subst ezi ek
    have hzb := sG_lt (w := (wW μ i n)) (P := sP μ i) h8 hn1 j
    have hz1 := sG_lt (w := (wW μ i n)) (P := sP μ i) h8 hn1 (j + 1)
    have hz2 := sG_2n (w := (wW μ i n)) (P := sP μ i) h8 hn1 j
    have hor : m_or ((sG (wW μ i n) (sP μ i) n j).1 : Int) (m_shl 1 ((sG (wW μ i n) (sP μ i) n (j + 1)).2 : Int)) = ((sG (wW μ i n) (sP μ i) n (j + 1)).1 : Int) := (so_f (sG (wW μ i n) (sP μ i) n j).1 hzb.1 (sG (wW μ i n) (sP μ i) n (j + 1)).2 (by omega)).1
    obtain ⟨-, kx, kx1, kx2⟩ := sG_ok h8 hn1 h0 j (by omega)
    have hok := sN_ok (q := (sQ (fun k => decide (j = 0) || sP μ i (sG (wW μ i n) (sP μ i) n j).2 k) (wW μ i n) (sG (wW μ i n) (sP μ i) n j).1)) n 0 ⟨kx, by omega, by omega, kx2⟩
    have hyes : (sQ (fun k => decide (j = 0) || sP μ i (sG (wW μ i n) (sP μ i) n j).2 k) (wW μ i n) (sG (wW μ i n) (sP μ i) n j).1) (sG (wW μ i n) (sP μ i) n (j + 1)).2 = true := hok.1
    have hno : ∀ k, k < (sG (wW μ i n) (sP μ i) n (j + 1)).2 → ¬ (sQ (fun k => decide (j = 0) || sP μ i (sG (wW μ i n) (sP μ i) n j).2 k) (wW μ i n) (sG (wW μ i n) (sP μ i) n j).1) k = true := fun k hk => sN_skip n 0 _ rfl (Nat.zero_le _) hyes k (Nat.zero_le _) hk
    refine rn_iload (k' := 120) rfl rfl rfl ?_
    refine rn_iload_n (k' := 121) rfl rfl rfl ?_
    refine rn_icmp_ge (k' := 122) rfl rfl (fun hc1 => ?_) (fun hc1 => ?_)
    · exfalso; omega
    · skip
      refine rn_iconst (k' := 123) rfl rfl ?_
      refine rn_istore (k' := 124) (L' := [some (mR 118), some (mI (i)), some (mI ((n : Int))), some (mI ((A : Int))), some (mI (sO (wW μ i n) n)), some (mI (((sG (wW μ i n) (sP μ i) n j).1 : Int))), some (mI ((j : Int))), some (mI (0))]) rfl rfl (Nat.le_of_ble_eq_true rfl) rfl ?_
      refine l_sm_in hL hS hnn h8 hi hA (j := j) (by omega) hzb hz1 hz2 hT hU hyes hno ?_ (sG (wW μ i n) (sP μ i) n (j + 1)).2 0 _ rfl (by omega)
      refine rn_aload_n (k' := 157) rfl rfl rfl ?_
      refine rn_getR (k' := 158) rfl rfl K0_118 (by decide) rfl R0_118_36 ?_
      refine rn_iload (k' := 159) rfl rfl rfl ?_
      refine rn_iload (k' := 160) rfl rfl rfl ?_
      refine rn_iastore (k' := 161) rfl rfl K0_134 (by omega) (by omega) ?_
      refine rn_iload (k' := 162) rfl rfl rfl ?_
      refine rn_iconst (k' := 163) rfl rfl ?_
      refine rn_iload (k' := 164) rfl rfl rfl ?_
      refine rn_ishl (k' := 165) rfl rfl ?_
      refine rn_ior (k' := 166) rfl rfl ?_
      rw [hor]
      refine rn_istore (k' := 167) (L' := [some (mR 118), some (mI (i)), some (mI ((n : Int))), some (mI ((A : Int))), some (mI (sO (wW μ i n) n)), some (mI (((sG (wW μ i n) (sP μ i) n (j + 1)).1 : Int))), some (mI ((j : Int))), some (mI (((sG (wW μ i n) (sP μ i) n (j + 1)).2 : Int)))]) rfl rfl (Nat.le_of_ble_eq_true rfl) rfl ?_
      refine rn_iinc (k' := 168) (L' := [some (mR 118), some (mI (i)), some (mI ((n : Int))), some (mI ((A : Int))), some (mI (sO (wW μ i n) n)), some (mI (((sG (wW μ i n) (sP μ i) n (j + 1)).1 : Int))), some (mI ((j : Int) + 1)), some (mI (((sG (wW μ i n) (sP μ i) n (j + 1)).2 : Int)))]) rfl rfl rfl (by omega) rfl ?_
      refine rn_goto rfl ?_
      show Rn PT none kX12_seats 119 [some (mR 118), some (mI (i)), some (mI ((n : Int))), some (mI ((A : Int))), some (mI (sO (wW μ i n) n)), some (mI (((sG (wW μ i n) (sP μ i) n (j + 1)).1 : Int))), some (mI ((j : Int) + 1)), some (mI (((sG (wW μ i n) (sP μ i) n (j + 1)).2 : Int)))] [] (mkh (m_set (m_upd (m_set (m_upd (m_set μ 118 0 (0)) 133 T) 118 37 ((n : Int))) 134 U) 134 j (((sG (wW μ i n) (sP μ i) n (j + 1)).2 : Int))) c s) _
      rw [set_upd_eq (a := 134)]
      exact ih (j + 1) _ _ _ _ rfl (by omega) (by omega) (fun l hl => by
        by_cases e : l = j
        · rw [e, fs_eq]
        · rw [fs_ne e]; exact hU l (by omega))
def kU (a j : Nat) : Bool := sup a j && !(a == 134 || (a == 118 && j == 37))
theorem kT_kU {a j : Nat} (h : kT a j = true) : kU a j = true := by
  have hs := kT_sup h
  unfold kT at h
  unfold kU
  rw [hs] at h ⊢
  simp only [Bool.true_and, Bool.not_eq_true', Bool.or_eq_false_iff, Bool.and_eq_false_iff] at h ⊢
  obtain ⟨⟨⟨⟨⟨⟨⟨⟨h1, h2⟩, h3⟩, h4⟩, h5⟩, h6⟩, h7⟩, h8⟩, h9⟩ := h
  refine ⟨h5, ?_⟩
  rcases h9 with z | z
  · exact Or.inl z
  · exact Or.inr z.1.2
theorem sO_nn {μ : Nat → Nat → Int} {i : Int} {n : Nat} (h8 : n < 9) : 0 ≤ sO (wW μ i n) n := by
  obtain ⟨-, -, -, a4, -⟩ := all_f n h8
  unfold sO
  by_cases e : n = 0
  · rw [if_pos e]; decide
  · rw [if_neg e]
    exact (sS_b (t := sT (fun _ => true) (wW μ i n) 0) (B := 2097152) n (fun k hk => sT_b (fun k hk hb => wW_c h8 (by omega) hk hb) hk)).1
set_option maxHeartbeats 4000000 in
theorem x_X12_seats {μ : Nat → Nat → Int} {c s : Nat} (hL : I_land μ) (hS : I_scene μ) {n : Nat} (hnn : μ 6 13 = (n : Int)) (h8 : n < 9) {i : Int} (hi : 0 ≤ i ∧ i ≤ 99) {A : Nat} (hA : A = 2 ^ n - 1) : Cl PT 252 [mR 118, mI i] (mkh μ c s) (fun r => ∃ M : Nat → Nat → Int, r = (some (some (mI (sO (wW μ i n) n))), mkh M c s) ∧ rm kU M = rm kU μ ∧ (sO (wW μ i n) n = 0 → rst M = rst μ) ∧ (¬ sO (wW μ i n) n = 0 → M 118 37 = (n : Int) ∧ ∀ l, l < n → M 134 l = ((sG (wW μ i n) (sP μ i) n (l + 1)).2 : Int))) := by
  have hL_ := hL
  obtain ⟨lc, lr, le, lm, lw, lh, lwo, lwd, q0, q1, q2, q3, q4, q8, q499, q500, lth, lG, lT, lW, -⟩ := hL_
  have hS_ := hS
  obtain ⟨sd, sw, stk, s4, s5, s6, hC, hH, -, s10, sce, swc, s13⟩ := hS_
  obtain ⟨a1, a2, a3, a4, a5⟩ := all_f n h8
  have hsh : m_shl 1 (μ 6 13) = (A : Int) + 1 := by rw [hnn, hA]; omega
  refine ⟨_, PT_252, Nat.le_of_ble_eq_true rfl, ?_⟩
  show Rn PT none kX12_seats 0 [some (mR 118), some (mI (i)), none, none, none, none, none, none] [] (mkh μ c s) _
  refine rn_aload_n (k' := 1) rfl rfl rfl ?_
  refine rn_iconst (k' := 2) rfl rfl ?_
  refine rn_putI (k' := 3) rfl rfl K0_118 (by decide) rfl ?_
  refine rn_iload_n (k' := 4) rfl rfl rfl ?_
  by_cases hq2 : 0 ≤ i ∧ i ≤ 99
  · refine rn_callP (k' := 5) (y := 195) (vs := [mI (i)]) (S' := []) (v := some (mI 1)) (h' := mkh (m_set μ 118 0 (0)) c s) rfl rfl rfl (by have hz : Cl PT 195 [mI (i)] (mkh (m_set μ 118 0 (0)) c s) (fun r => r = (some (some (mI (if 0 ≤ i ∧ i ≤ 99 then 1 else 0))), mkh (m_set μ 118 0 (0)) c s)) := c_X12_isTall (a := i) (μ := (m_set μ 118 0 (0))) (c := c) (s := s); rw [if_pos hq2] at hz; exact hz) ?_
    show Rn PT none kX12_seats 5 [some (mR 118), some (mI (i)), none, none, none, none, none, none] [mI (1)] (mkh (m_set μ 118 0 (0)) c s) _
    refine rn_if_ne (k' := 6) rfl rfl (fun hc3 => ?_) (fun hc3 => ?_)
    · skip
      refine rn_aload_n (k' := 9) rfl rfl rfl ?_
      refine rn_getR (k' := 10) rfl rfl K0_118 (by decide) rfl R0_118_6 ?_
      refine rn_bipush (k' := 11) rfl rfl ?_
      refine rn_iaload (k' := 12) rfl rfl K0_120 (by omega) (by omega) ?_
      show Rn PT none kX12_seats 12 [some (mR 118), some (mI (i)), none, none, none, none, none, none] [mI (μ 120 8)] (mkh (m_set μ 118 0 (0)) c s) _
      rw [q8]
      refine rn_istore_n (k' := 13) (L' := [some (mR 118), some (mI (i)), some (mI (μ 6 13)), none, none, none, none, none]) rfl rfl (Nat.le_of_ble_eq_true rfl) rfl ?_
      refine rn_iconst (k' := 14) rfl rfl ?_
      refine rn_iload_n (k' := 15) rfl rfl rfl ?_
      refine rn_ishl (k' := 16) rfl rfl ?_
      rw [hsh]
      refine rn_iconst (k' := 17) rfl rfl ?_
      refine rn_isub (k' := 18) rfl rfl (by omega) ?_
      refine rn_istore_n (k' := 19) (L' := [some (mR 118), some (mI (i)), some (mI (μ 6 13)), some (mI (((A : Int) + 1) - 1)), none, none, none, none]) rfl rfl (Nat.le_of_ble_eq_true rfl) rfl ?_
      refine rn_iload_n (k' := 20) rfl rfl rfl ?_
      refine rn_istore (k' := 21) (L' := [some (mR 118), some (mI (i)), some (mI (μ 6 13)), some (mI (((A : Int) + 1) - 1)), some (mI (((A : Int) + 1) - 1)), none, none, none]) rfl rfl (Nat.le_of_ble_eq_true rfl) rfl ?_
      rw [show ((A : Int) + 1) - 1 = (A : Int) by omega, hnn]
      have hu : m_upd (m_set μ 118 0 (0)) 133 ((m_set μ 118 0 (0)) 133) = (m_set μ 118 0 (0)) := upd_self
      refine (show Rn PT none kX12_seats 21 [some (mR 118), some (mI (i)), some (mI ((n : Int))), some (mI ((A : Int))), some (mI ((A : Int))), none, none, none] [] (mkh (m_upd (m_set μ 118 0 (0)) 133 ((m_set μ 118 0 (0)) 133)) c s) _ → Rn PT none kX12_seats 21 [some (mR 118), some (mI (i)), some (mI ((n : Int))), some (mI ((A : Int))), some (mI ((A : Int))), none, none, none] [] (mkh (m_set μ 118 0 (0)) c s) _ from fun h => by rw [hu] at h; exact h) ?_
      refine l_sm hL hS hnn h8 hi hA (fun T v4 v5 v6 v7 hT => ?_) (2 ^ n) (A : Int) _ _ _ _ (by omega) (by omega) (fun z l h1 h2 _ => by omega)
      have hnn2 := sO_nn (μ := μ) (i := i) h8
      refine rn_iload_n (k' := 83) rfl rfl rfl ?_
      refine rn_if_ne (k' := 84) rfl rfl (fun hc1 => ?_) (fun hc1 => ?_)
      · skip
        refine rn_iconst (k' := 87) rfl rfl ?_
        refine rn_istore (k' := 88) (L' := [some (mR 118), some (mI (i)), some (mI ((n : Int))), some (mI ((A : Int))), some (mI (0)), v5, v6, v7]) rfl rfl (Nat.le_of_ble_eq_true rfl) rfl ?_
        refine rn_iconst (k' := 89) rfl rfl ?_
        refine rn_istore (k' := 90) (L' := [some (mR 118), some (mI (i)), some (mI ((n : Int))), some (mI ((A : Int))), some (mI (0)), some (mI (0)), v6, v7]) rfl rfl (Nat.le_of_ble_eq_true rfl) rfl ?_
        refine l_sm_s hL hS hnn h8 hi (T := T) hT (fun w5 => ?_) n 0 _ _ (by show (0 : Int) = (if n = 0 then 1 else 0) + 0; first | rw [if_pos (by omega)]; rfl | rw [if_neg (by omega)]; rfl) rfl (by omega)
        refine rn_iload (k' := 109) rfl rfl rfl ?_
        refine rn_if_ne (k' := 110) rfl rfl (fun hc1 => ?_) (fun hc1 => ?_)
        · skip
          refine rn_aload_n (k' := 113) rfl rfl rfl ?_
          refine rn_iload_n (k' := 114) rfl rfl rfl ?_
          refine rn_putI (k' := 115) rfl rfl K0_118 (by decide) rfl ?_
          refine rn_iconst (k' := 116) rfl rfl ?_
          refine rn_istore (k' := 117) (L' := [some (mR 118), some (mI (i)), some (mI ((n : Int))), some (mI ((A : Int))), some (mI (sO (wW μ i n) n)), some (mI (0)), v6, v7]) rfl rfl (Nat.le_of_ble_eq_true rfl) rfl ?_
          refine rn_iconst (k' := 118) rfl rfl ?_
          refine rn_istore (k' := 119) (L' := [some (mR 118), some (mI (i)), some (mI ((n : Int))), some (mI ((A : Int))), some (mI (sO (wW μ i n) n)), some (mI (0)), some (mI (0)), v7]) rfl rfl (Nat.le_of_ble_eq_true rfl) rfl ?_
          by_cases hn1 : 1 ≤ n
          · have h := l_sm_o (c := c) (s := s) hL hS hnn h8 hi hA hn1 (by omega) (T := T) hT n 0 0 0 (μ 134) v7 rfl rfl (by omega) (fun l hl => absurd hl (Nat.not_lt_zero l))
            rw [show m_upd (m_set (m_upd (m_set μ 118 0 (0)) 133 T) 118 37 ((n : Int))) 134 (μ 134) = (m_set (m_upd (m_set μ 118 0 (0)) 133 T) 118 37 ((n : Int))) from upd_self (μ := (m_set (m_upd (m_set μ 118 0 (0)) 133 T) 118 37 ((n : Int)))) (a := 134)] at h
            refine h.mono (fun r hr => ?_)
            obtain ⟨T2, U2, e1, e2⟩ := hr
            exact ⟨_, e1, (rm_upd0 (fun _ => rfl)).trans ((rm_set rfl).trans ((rm_upd0 (fun _ => rfl)).trans (rm_set rfl))), fun z => by omega, fun _ => ⟨rfl, e2⟩⟩
          · refine rn_iload (k' := 120) rfl rfl rfl ?_
            refine rn_iload_n (k' := 121) rfl rfl rfl ?_
            refine rn_icmp_ge (k' := 122) rfl rfl (fun hc1 => ?_) (fun hc1 => ?_)
            · skip
              refine rn_iload (k' := 170) rfl rfl rfl ?_
              refine rn_iret rfl (Or.inl rfl) ?_
              exact ⟨_, rfl, (rm_set rfl).trans ((rm_upd0 (fun _ => rfl)).trans (rm_set rfl)), fun z => by omega, fun _ => ⟨rfl, fun l hl => absurd hl (by omega)⟩⟩
            · exfalso; omega
        · skip
          refine rn_iconst (k' := 111) rfl rfl ?_
          refine rn_iret rfl (Or.inl rfl) ?_
          refine ⟨(m_upd (m_set μ 118 0 (0)) 133 T), ?_, (rm_upd0 (fun _ => rfl)).trans (rm_set rfl), fun _ => (rst_upd (fun _ => rfl)).trans (rst_set rfl), fun z => by omega⟩
          rw [show sO (wW μ i n) n = 0 by omega]
      · skip
        refine rn_iconst (k' := 85) rfl rfl ?_
        refine rn_goto rfl ?_
        refine rn_istore (k' := 88) (L' := [some (mR 118), some (mI (i)), some (mI ((n : Int))), some (mI ((A : Int))), some (mI (1)), v5, v6, v7]) rfl rfl (Nat.le_of_ble_eq_true rfl) rfl ?_
        refine rn_iconst (k' := 89) rfl rfl ?_
        refine rn_istore (k' := 90) (L' := [some (mR 118), some (mI (i)), some (mI ((n : Int))), some (mI ((A : Int))), some (mI (1)), some (mI (0)), v6, v7]) rfl rfl (Nat.le_of_ble_eq_true rfl) rfl ?_
        refine l_sm_s hL hS hnn h8 hi (T := T) hT (fun w5 => ?_) n 0 _ _ (by show (1 : Int) = (if n = 0 then 1 else 0) + 0; first | rw [if_pos (by omega)]; rfl | rw [if_neg (by omega)]; rfl) rfl (by omega)
        refine rn_iload (k' := 109) rfl rfl rfl ?_
        refine rn_if_ne (k' := 110) rfl rfl (fun hc1 => ?_) (fun hc1 => ?_)
        · skip
          refine rn_aload_n (k' := 113) rfl rfl rfl ?_
          refine rn_iload_n (k' := 114) rfl rfl rfl ?_
          refine rn_putI (k' := 115) rfl rfl K0_118 (by decide) rfl ?_
          refine rn_iconst (k' := 116) rfl rfl ?_
          refine rn_istore (k' := 117) (L' := [some (mR 118), some (mI (i)), some (mI ((n : Int))), some (mI ((A : Int))), some (mI (sO (wW μ i n) n)), some (mI (0)), v6, v7]) rfl rfl (Nat.le_of_ble_eq_true rfl) rfl ?_
          refine rn_iconst (k' := 118) rfl rfl ?_
          refine rn_istore (k' := 119) (L' := [some (mR 118), some (mI (i)), some (mI ((n : Int))), some (mI ((A : Int))), some (mI (sO (wW μ i n) n)), some (mI (0)), some (mI (0)), v7]) rfl rfl (Nat.le_of_ble_eq_true rfl) rfl ?_
          by_cases hn1 : 1 ≤ n
          · have h := l_sm_o (c := c) (s := s) hL hS hnn h8 hi hA hn1 (by omega) (T := T) hT n 0 0 0 (μ 134) v7 rfl rfl (by omega) (fun l hl => absurd hl (Nat.not_lt_zero l))
            rw [show m_upd (m_set (m_upd (m_set μ 118 0 (0)) 133 T) 118 37 ((n : Int))) 134 (μ 134) = (m_set (m_upd (m_set μ 118 0 (0)) 133 T) 118 37 ((n : Int))) from upd_self (μ := (m_set (m_upd (m_set μ 118 0 (0)) 133 T) 118 37 ((n : Int)))) (a := 134)] at h
            refine h.mono (fun r hr => ?_)
            obtain ⟨T2, U2, e1, e2⟩ := hr
            exact ⟨_, e1, (rm_upd0 (fun _ => rfl)).trans ((rm_set rfl).trans ((rm_upd0 (fun _ => rfl)).trans (rm_set rfl))), fun z => by omega, fun _ => ⟨rfl, e2⟩⟩
          · refine rn_iload (k' := 120) rfl rfl rfl ?_
            refine rn_iload_n (k' := 121) rfl rfl rfl ?_
            refine rn_icmp_ge (k' := 122) rfl rfl (fun hc1 => ?_) (fun hc1 => ?_)
            · skip
              refine rn_iload (k' := 170) rfl rfl rfl ?_
              refine rn_iret rfl (Or.inl rfl) ?_
              exact ⟨_, rfl, (rm_set rfl).trans ((rm_upd0 (fun _ => rfl)).trans (rm_set rfl)), fun z => by omega, fun _ => ⟨rfl, fun l hl => absurd hl (by omega)⟩⟩
            · exfalso; omega
        · skip
          refine rn_iconst (k' := 111) rfl rfl ?_
          refine rn_iret rfl (Or.inl rfl) ?_
          refine ⟨(m_upd (m_set μ 118 0 (0)) 133 T), ?_, (rm_upd0 (fun _ => rfl)).trans (rm_set rfl), fun _ => (rst_upd (fun _ => rfl)).trans (rst_set rfl), fun z => by omega⟩
          rw [show sO (wW μ i n) n = 0 by omega]
    · exfalso; omega
  · exfalso; omega
theorem x_X11_seats {μ : Nat → Nat → Int} {c s : Nat} (hL : I_land μ) (hS : I_scene μ) {n : Nat} (hnn : μ 6 13 = (n : Int)) (h8 : n < 9) {i : Int} (hi : 0 ≤ i ∧ i ≤ 99) {A : Nat} (hA : A = 2 ^ n - 1) : Cl PT 137 [mR 0, mI i] (mkh μ c s) (fun r => ∃ M : Nat → Nat → Int, r = (some (some (mI (sO (wW μ i n) n))), mkh M c s) ∧ rm kS M = rm kS μ ∧ (sO (wW μ i n) n = 0 → rst M = rst μ) ∧ (¬ sO (wW μ i n) n = 0 → M 112 5 = (n : Int) ∧ ∀ l, l < n → M 115 l = ((sG (wW μ i n) (sP μ i) n (l + 1)).2 : Int))) := by
  obtain ⟨MM, z1, z2, nn, rr, z3, M, z4, z5⟩ : Cl PT 72 [mR 112, mI i] (mkh μ c s) (fun r => ∃ M : Nat → Nat → Int, r = (some (some (mI (sO (wW μ i n) n))), mkh M c s) ∧ rm kS M = rm kS μ ∧ (sO (wW μ i n) n = 0 → rst M = rst μ) ∧ (¬ sO (wW μ i n) n = 0 → M 112 5 = (n : Int) ∧ ∀ l, l < n → M 115 l = ((sG (wW μ i n) (sP μ i) n (l + 1)).2 : Int))) := by
    by_cases e : n = 0
    · exact x0_ob hL hS hnn h8 hi hA e
    · exact x1_ob hL hS hnn h8 hi hA (by omega)
  have hcl : Cl PT 72 [mR 112, mI i] (mkh μ c s) (fun r => r = (some (some (mI (sO (wW μ i n) n))), mkh M c s)) := ⟨MM, z1, z2, nn, rr, z3, z4⟩
  refine ⟨_, PT_137, Nat.le_of_ble_eq_true rfl, ?_⟩
  show Rn PT none kX11_seats 0 [some (mR 0), some (mI (i))] [] (mkh μ c s) _
  refine rn_iload_n (k' := 1) rfl rfl rfl ?_
  by_cases hq1 : 0 ≤ i ∧ i ≤ 99
  · refine rn_callP (k' := 2) (y := 153) (vs := [mI (i)]) (S' := []) (v := some (mI 1)) (h' := mkh μ c s) rfl rfl rfl (by have hz : Cl PT 153 [mI (i)] (mkh μ c s) (fun r => r = (some (some (mI (if 0 ≤ i ∧ i ≤ 99 then 1 else 0))), mkh μ c s)) := c_X11_isNumber (a := i) (μ := μ) (c := c) (s := s); rw [if_pos hq1] at hz; exact hz) ?_
    show Rn PT none kX11_seats 2 [some (mR 0), some (mI (i))] [mI (1)] (mkh μ c s) _
    refine rn_if_eq (k' := 3) rfl rfl (fun hc2 => ?_) (fun hc2 => ?_)
    · exfalso; omega
    · skip
      refine rn_aload_n (k' := 4) rfl rfl rfl ?_
      refine rn_getR (k' := 5) rfl rfl K0_0 (by decide) rfl R0_0_12 ?_
      refine rn_iload_n (k' := 6) rfl rfl rfl ?_
      refine rn_callP (k' := 7) (y := 72) (vs := [mR 112, mI (i)]) (S' := []) (v := some (mI (sO (wW μ i n) n))) (h' := mkh M c s) rfl rfl rfl (hcl) ?_
      show Rn PT none kX11_seats 7 [some (mR 0), some (mI (i))] [mI (sO (wW μ i n) n)] (mkh M c s) _
      refine rn_goto rfl ?_
      refine rn_iret rfl (Or.inl rfl) ?_
      exact ⟨M, rfl, z5⟩
  · exfalso; omega
theorem i_X11_seats {μ : Nat → Nat → Int} {c s : Nat} (hL : I_land μ) (hS : I_scene μ) {a0 : Int} (h0 : i32 a0) (hv : ¬ (0 ≤ a0 ∧ a0 ≤ 99)) : Cl PT 137 [mR 0, mI a0] (mkh μ c s) (fun r => r = (some (some (mI (-1))), mkh μ c s)) := by
  have hL_ := hL
  obtain ⟨lc, lr, le, lm, lw, lh, lwo, lwd, q0, q1, q2, q3, q4, q8, q499, q500, lth, lG, lT, lW, -⟩ := hL_
  have hS_ := hS
  obtain ⟨sd, sw, stk, s4, s5, s6, hC, hH, -, s10, sce, swc, s13⟩ := hS_
  refine ⟨_, PT_137, Nat.le_of_ble_eq_true rfl, ?_⟩
  show Rn PT none kX11_seats 0 [some (mR 0), some (mI (a0))] [] (mkh μ c s) _
  refine rn_iload_n (k' := 1) rfl rfl rfl ?_
  by_cases hq1 : 0 ≤ a0 ∧ a0 ≤ 99
  · refine rn_callP (k' := 2) (y := 153) (vs := [mI (a0)]) (S' := []) (v := some (mI 1)) (h' := mkh μ c s) rfl rfl rfl (by have hz : Cl PT 153 [mI (a0)] (mkh μ c s) (fun r => r = (some (some (mI (if 0 ≤ a0 ∧ a0 ≤ 99 then 1 else 0))), mkh μ c s)) := c_X11_isNumber (a := a0) (μ := μ) (c := c) (s := s); rw [if_pos hq1] at hz; exact hz) ?_
    show Rn PT none kX11_seats 2 [some (mR 0), some (mI (a0))] [mI (1)] (mkh μ c s) _
    refine rn_if_eq (k' := 3) rfl rfl (fun hc2 => ?_) (fun hc2 => ?_)
    · exfalso; omega
    · skip
      refine rn_aload_n (k' := 4) rfl rfl rfl ?_
      refine rn_getR (k' := 5) rfl rfl K0_0 (by decide) rfl R0_0_12 ?_
      refine rn_iload_n (k' := 6) rfl rfl rfl ?_
      exfalso; omega
  · refine rn_callP (k' := 2) (y := 153) (vs := [mI (a0)]) (S' := []) (v := some (mI 0)) (h' := mkh μ c s) rfl rfl rfl (by have hz : Cl PT 153 [mI (a0)] (mkh μ c s) (fun r => r = (some (some (mI (if 0 ≤ a0 ∧ a0 ≤ 99 then 1 else 0))), mkh μ c s)) := c_X11_isNumber (a := a0) (μ := μ) (c := c) (s := s); rw [if_neg hq1] at hz; exact hz) ?_
    show Rn PT none kX11_seats 2 [some (mR 0), some (mI (a0))] [mI (0)] (mkh μ c s) _
    refine rn_if_eq (k' := 3) rfl rfl (fun hc3 => ?_) (fun hc3 => ?_)
    · skip
      refine rn_iconst (k' := 9) rfl rfl ?_
      refine rn_iret rfl (Or.inl rfl) ?_
      rfl
    · exfalso; omega
theorem i_X12_seats {μ : Nat → Nat → Int} {c s : Nat} (hL : I_land μ) (hS : I_scene μ) {a0 : Int} (h0 : i32 a0) (hv : ¬ (0 ≤ a0 ∧ a0 ≤ 99)) : Cl PT 252 [mR 118, mI a0] (mkh μ c s) (fun r => r = (some (some (mI (-1))), mkh (m_set μ 118 0 0) c s)) := by
  have hL_ := hL
  obtain ⟨lc, lr, le, lm, lw, lh, lwo, lwd, q0, q1, q2, q3, q4, q8, q499, q500, lth, lG, lT, lW, -⟩ := hL_
  have hS_ := hS
  obtain ⟨sd, sw, stk, s4, s5, s6, hC, hH, -, s10, sce, swc, s13⟩ := hS_
  refine ⟨_, PT_252, Nat.le_of_ble_eq_true rfl, ?_⟩
  show Rn PT none kX12_seats 0 [some (mR 118), some (mI (a0)), none, none, none, none, none, none] [] (mkh μ c s) _
  refine rn_aload_n (k' := 1) rfl rfl rfl ?_
  refine rn_iconst (k' := 2) rfl rfl ?_
  refine rn_putI (k' := 3) rfl rfl K0_118 (by decide) rfl ?_
  refine rn_iload_n (k' := 4) rfl rfl rfl ?_
  by_cases hq2 : 0 ≤ a0 ∧ a0 ≤ 99
  · exfalso; omega
  · refine rn_callP (k' := 5) (y := 195) (vs := [mI (a0)]) (S' := []) (v := some (mI 0)) (h' := mkh (m_set μ 118 0 (0)) c s) rfl rfl rfl (by have hz : Cl PT 195 [mI (a0)] (mkh (m_set μ 118 0 (0)) c s) (fun r => r = (some (some (mI (if 0 ≤ a0 ∧ a0 ≤ 99 then 1 else 0))), mkh (m_set μ 118 0 (0)) c s)) := c_X12_isTall (a := a0) (μ := (m_set μ 118 0 (0))) (c := c) (s := s); rw [if_neg hq2] at hz; exact hz) ?_
    show Rn PT none kX12_seats 5 [some (mR 118), some (mI (a0)), none, none, none, none, none, none] [mI (0)] (mkh (m_set μ 118 0 (0)) c s) _
    refine rn_if_ne (k' := 6) rfl rfl (fun hc3 => ?_) (fun hc3 => ?_)
    · exfalso; omega
    · skip
      refine rn_iconst (k' := 7) rfl rfl ?_
      refine rn_iret rfl (Or.inl rfl) ?_
      rfl
set_option maxHeartbeats 4000000 in
theorem pair_34 : ∀ (a0 : Int), i32 a0 → PairI (Inv N) 137 252 [mI a0] := by
  intro a0 h0 μ c s hI
  have hL := hI.land
  have hS := hI.scene
  have lh := hL.2.2.2.2.2.1
  by_cases hv : 0 ≤ a0 ∧ a0 ≤ 99
  · obtain ⟨n, hn⟩ := Int.eq_ofNat_of_zero_le lh.1
    have h8 : n < 9 := by omega
    obtain ⟨MM, z1, z2, nn, rr, z3, μ1, z4, hr1, hz1, hp1⟩ := x_X11_seats (c := c) (s := s) hL hS hn h8 hv (A := 2 ^ n - 1) rfl
    have hrT : rm kT μ1 = rm kT μ := rm_sub (k := kS) (fun a j hj => kT_kS hj) hr1
    have e6 : μ1 6 = μ 6 := rm_row hrT (fun _ => rfl)
    have e16 : μ1 16 = μ 16 := rm_row hrT (fun _ => rfl)
    obtain ⟨M', y1, y2, n', r', y3, μ2, y4, hr2, hz2, hp2⟩ := x_X12_seats (μ := μ1) (c := c) (s := s) (land_rows hL hrT) (scene_rows hS hrT) (by rw [e6]; exact hn) h8 hv (A := 2 ^ n - 1) rfl
    rw [wW_rows e6 e16] at y4 hz2 hp2
    rw [sP_rows e6 e16] at hp2
    refine ⟨_, μ1, μ2, ⟨MM, z1, z2, nn, rr, z3, z4⟩, ⟨M', y1, y2, n', r', y3, y4⟩, ?_⟩
    by_cases e0 : sO (wW μ a0 n) n = 0
    · exact hI.same ((hz2 e0).trans (hz1 e0))
    · obtain ⟨p1, p2⟩ := hp1 e0
      obtain ⟨p3, p4⟩ := hp2 e0
      have l1 := hI.last
      have kr : ∀ a, (∀ j, kU a j = true) → (∀ j, kS a j = true) → μ2 a = μ a := fun a w1 w2 => (rm_row hr2 w1).trans (rm_row hr1 w2)
      have kc : ∀ a j, kU a j = true → kS a j = true → μ2 a j = μ a j := fun a j w1 w2 => (rm_cell hr2 w1).trans (rm_cell hr1 w2)
      refine last_inv hI ((rm_sub (k := kU) (fun a j hj => kT_kU hj) hr2).trans hrT) ⟨?_, ?_, ⟨?_, ?_, fun j hj => ?_⟩, ?_⟩
      · rw [kc 0 14 rfl rfl, kc 118 31 rfl rfl, kr 130 (fun _ => rfl) (fun _ => rfl), kr 116 (fun _ => rfl) (fun _ => rfl)]
        exact l1.1
      · rw [kc 0 16 rfl rfl, kc 118 39 rfl rfl, kr 135 (fun _ => rfl) (fun _ => rfl), kr 117 (fun _ => rfl) (fun _ => rfl)]
        exact l1.2.1
      · rw [rm_cell hr2 (a := 112) (j := 5) rfl, p1]; omega
      · rw [rm_cell hr2 (a := 112) (j := 5) rfl, p1, p3]
      · rw [rm_cell hr2 (a := 112) (j := 5) rfl, p1] at hj
        rw [rm_row hr2 (a := 115) (fun _ => rfl), p2 j (by omega), p4 j (by omega)]
      · rw [kc 82 9 rfl rfl, kc 118 44 rfl rfl, kr 136 (fun _ => rfl) (fun _ => rfl), kr 87 (fun _ => rfl) (fun _ => rfl)]
        exact l1.2.2.2
  · exact ⟨-1, μ, m_set μ 118 0 0, i_X11_seats hL hS h0 hv, i_X12_seats hL hS h0 hv, hI.set rfl⟩
