variable {N : Int}
/-! ===== printed by wip/whole/gen44.py: rows filled, the class's flood ===== -/
theorem td10 {a : Int} (h : 0 ≤ a) : a.tdiv 10 = a / 10 ∧ a.tmod 10 = a % 10 := ⟨Int.tdiv_eq_ediv_of_nonneg h, Int.tmod_eq_emod_of_nonneg h⟩
theorem g_GR {μ : Nat → Nat → Int} (hL : I_land μ) : GR (g_nb μ) (g_cell μ) := by
  refine ⟨fun x hx => g_cell_b hL hx, ?_⟩
  intro a d ha hd0 hd3
  have hb := g_cell_b hL ha
  obtain ⟨a0, a1, a2⟩ := ha
  have e := td10 a0
  have lr := hL.2.1
  have lc := hL.1
  rw [e.2] at a1
  rw [e.1] at a2
  unfold g_nb g_cell
  rw [(td10 a0).1, (td10 a0).2]
  by_cases h0 : d = 0
  · rw [if_pos h0]
    by_cases h1 : 0 < a / 10
    · rw [if_pos h1]; right
      rw [(td10 (show 0 ≤ a - 10 by omega)).1, (td10 (show 0 ≤ a - 10 by omega)).2]; omega
    · rw [if_neg h1]; left; rfl
  rw [if_neg h0]
  by_cases h1 : d = 1
  · rw [if_pos h1]
    by_cases h2 : a % 10 + 1 < μ 6 8
    · rw [if_pos h2]; right
      rw [(td10 (show 0 ≤ a + 1 by omega)).1, (td10 (show 0 ≤ a + 1 by omega)).2]; omega
    · rw [if_neg h2]; left; rfl
  rw [if_neg h1]
  by_cases h2 : d = 2
  · rw [if_pos h2]
    by_cases h3 : a / 10 + 1 < μ 6 9
    · rw [if_pos h3]; right
      rw [(td10 (show 0 ≤ a + 10 by omega)).1, (td10 (show 0 ≤ a + 10 by omega)).2]; omega
    · rw [if_neg h3]; left; rfl
  rw [if_neg h2]
  by_cases h3 : 0 < a % 10
  · rw [if_pos h3]; right
    rw [(td10 (show 0 ≤ a - 1 by omega)).1, (td10 (show 0 ≤ a - 1 by omega)).2]; omega
  · rw [if_neg h3]; left; rfl
/-- a row filled up to n -/
def fl (g f : Nat → Int) (n : Nat) : Nat → Int := fun j => if j < n then g j else f j
theorem fl_lt {g f : Nat → Int} {n j : Nat} (h : j < n) : fl g f n j = g j := by unfold fl; rw [if_pos h]
theorem fl_st {μ : Nat → Nat → Int} {a n : Nat} {g f : Nat → Int} {v : Int} (h : v = g n) : m_set (m_upd μ a (fl g f n)) a n v = m_upd μ a (fl g f (n + 1)) := by
  rw [set_upd_eq]
  congr 1
  funext j
  unfold fs fl
  by_cases e : j = n
  · subst e; rw [if_pos rfl, if_pos (by omega), h]
  · rw [if_neg e]
    by_cases e2 : j < n
    · rw [if_pos e2, if_pos (by omega)]
    · rw [if_neg e2, if_neg (by omega)]
theorem fl_0 {μ : Nat → Nat → Int} {a : Nat} {g : Nat → Int} : m_upd μ a (fl g (μ a) 0) = μ := by
  rw [show fl g (μ a) 0 = μ a from by funext j; unfold fl; rw [if_neg (by omega)]]
  exact upd_self
set_option maxHeartbeats 2000000 in
theorem c_X12_beside {μ : Nat → Nat → Int} {c s : Nat} (hL : I_land μ) {a d : Int} (ha : g_cell μ a) (hd : 0 ≤ d ∧ d ≤ 3) : Cl PT 211 [mR 118, mI a, mI d] (mkh μ c s) (fun r => r = (some (some (mI (g_nb μ a d))), mkh (μ) c s)) := by
  have hL_ := hL
  obtain ⟨lc, lr, le, lm, lw, lh, lwo, lwd, q0, q1, q2, q3, q4, q8, q499, q500, lth, lG, lT, lW, -⟩ := hL_
  have hgb := g_cell_b hL ha
  have e1 := td10 hgb.1
  obtain ⟨ha1, ha2, ha3⟩ := ha
  refine ⟨_, PT_211, Nat.le_of_ble_eq_true rfl, ?_⟩
  show Rn PT none kX12_beside 0 [some (mR 118), some (mI (a)), some (mI (d)), none, none] [] (mkh μ c s) _
  refine rn_iload_n (k' := 1) rfl rfl rfl ?_
  refine rn_bipush (k' := 2) rfl rfl ?_
  refine rn_irem (k' := 3) rfl rfl (by omega) ?_
  refine rn_iload_n (k' := 4) rfl rfl rfl ?_
  refine rn_iconst (k' := 5) rfl rfl ?_
  refine rn_icmp_ne (k' := 6) rfl rfl (fun hc1 => ?_) (fun hc1 => ?_)
  · skip
    refine rn_iload_n (k' := 9) rfl rfl rfl ?_
    refine rn_iconst (k' := 10) rfl rfl ?_
    refine rn_icmp_ne (k' := 11) rfl rfl (fun hc2 => ?_) (fun hc2 => ?_)
    · skip
      refine rn_iconst (k' := 14) rfl rfl ?_
      refine rn_iadd (k' := 15) rfl rfl (by omega) ?_
      refine rn_istore_n (k' := 16) (L' := [some (mR 118), some (mI (a)), some (mI (d)), some (mI (((a).tmod (10)) + 0)), none]) rfl rfl (Nat.le_of_ble_eq_true rfl) rfl ?_
      refine rn_iload_n (k' := 17) rfl rfl rfl ?_
      refine rn_bipush (k' := 18) rfl rfl ?_
      refine rn_idiv (k' := 19) rfl rfl (by omega) (by omega) ?_
      refine rn_iload_n (k' := 20) rfl rfl rfl ?_
      refine rn_iconst (k' := 21) rfl rfl ?_
      refine rn_icmp_ne (k' := 22) rfl rfl (fun hc3 => ?_) (fun hc3 => ?_)
      · skip
        refine rn_iload_n (k' := 25) rfl rfl rfl ?_
        refine rn_if_ne (k' := 26) rfl rfl (fun hc4 => ?_) (fun hc4 => ?_)
        · skip
          refine rn_iconst (k' := 29) rfl rfl ?_
          refine rn_iadd (k' := 30) rfl rfl (by omega) ?_
          refine rn_istore (k' := 31) (L' := [some (mR 118), some (mI (a)), some (mI (d)), some (mI (((a).tmod (10)) + 0)), some (mI (((a).tdiv (10)) + 0))]) rfl rfl (Nat.le_of_ble_eq_true rfl) rfl ?_
          refine rn_iload_n (k' := 32) rfl rfl rfl ?_
          refine rn_iconst (k' := 33) rfl rfl ?_
          refine rn_aload_n (k' := 34) rfl rfl rfl ?_
          refine rn_getR (k' := 35) rfl rfl K0_118 (by decide) rfl R0_118_6 ?_
          refine rn_iconst (k' := 36) rfl rfl ?_
          refine rn_iaload (k' := 37) rfl rfl K0_120 (by omega) (by omega) ?_
          show Rn PT none kX12_beside 37 [some (mR 118), some (mI (a)), some (mI (d)), some (mI (((a).tmod (10)) + 0)), some (mI (((a).tdiv (10)) + 0))] [mI (μ 120 0), mI (0), mI (((a).tmod (10)) + 0)] (mkh μ c s) _
          rw [q0]
          refine rn_iconst (k' := 38) rfl rfl ?_
          refine rn_isub (k' := 39) rfl rfl (by omega) ?_
          by_cases hq5 : 0 ≤ ((a).tmod (10)) + 0 ∧ ((a).tmod (10)) + 0 ≤ (μ 6 8) - 1
          · refine rn_callP (k' := 40) (y := 167) (vs := [mI (((a).tmod (10)) + 0), mI (0), mI ((μ 6 8) - 1)]) (S' := []) (v := some (mI 1)) (h' := mkh μ c s) rfl rfl rfl (by have hz : Cl PT 167 [mI (((a).tmod (10)) + 0), mI (0), mI ((μ 6 8) - 1)] (mkh μ c s) (fun r => r = (some (some (mI (if 0 ≤ ((a).tmod (10)) + 0 ∧ ((a).tmod (10)) + 0 ≤ (μ 6 8) - 1 then 1 else 0))), mkh μ c s)) := c_X12_isIn (v := ((a).tmod (10)) + 0) (lo := 0) (hi := (μ 6 8) - 1) (μ := μ) (c := c) (s := s); rw [if_pos hq5] at hz; exact hz) ?_
            show Rn PT none kX12_beside 40 [some (mR 118), some (mI (a)), some (mI (d)), some (mI (((a).tmod (10)) + 0)), some (mI (((a).tdiv (10)) + 0))] [mI (1)] (mkh μ c s) _
            refine rn_if_eq (k' := 41) rfl rfl (fun hc6 => ?_) (fun hc6 => ?_)
            · exfalso; omega
            · skip
              refine rn_iload (k' := 42) rfl rfl rfl ?_
              refine rn_iconst (k' := 43) rfl rfl ?_
              refine rn_aload_n (k' := 44) rfl rfl rfl ?_
              refine rn_getR (k' := 45) rfl rfl K0_118 (by decide) rfl R0_118_6 ?_
              refine rn_iconst (k' := 46) rfl rfl ?_
              refine rn_iaload (k' := 47) rfl rfl K0_120 (by omega) (by omega) ?_
              show Rn PT none kX12_beside 47 [some (mR 118), some (mI (a)), some (mI (d)), some (mI (((a).tmod (10)) + 0)), some (mI (((a).tdiv (10)) + 0))] [mI (μ 120 1), mI (0), mI (((a).tdiv (10)) + 0)] (mkh μ c s) _
              rw [q1]
              refine rn_iconst (k' := 48) rfl rfl ?_
              refine rn_isub (k' := 49) rfl rfl (by omega) ?_
              by_cases hq7 : 0 ≤ ((a).tdiv (10)) + 0 ∧ ((a).tdiv (10)) + 0 ≤ (μ 6 9) - 1
              · refine rn_callP (k' := 50) (y := 167) (vs := [mI (((a).tdiv (10)) + 0), mI (0), mI ((μ 6 9) - 1)]) (S' := []) (v := some (mI 1)) (h' := mkh μ c s) rfl rfl rfl (by have hz : Cl PT 167 [mI (((a).tdiv (10)) + 0), mI (0), mI ((μ 6 9) - 1)] (mkh μ c s) (fun r => r = (some (some (mI (if 0 ≤ ((a).tdiv (10)) + 0 ∧ ((a).tdiv (10)) + 0 ≤ (μ 6 9) - 1 then 1 else 0))), mkh μ c s)) := c_X12_isIn (v := ((a).tdiv (10)) + 0) (lo := 0) (hi := (μ 6 9) - 1) (μ := μ) (c := c) (s := s); rw [if_pos hq7] at hz; exact hz) ?_
                show Rn PT none kX12_beside 50 [some (mR 118), some (mI (a)), some (mI (d)), some (mI (((a).tmod (10)) + 0)), some (mI (((a).tdiv (10)) + 0))] [mI (1)] (mkh μ c s) _
                refine rn_if_eq (k' := 51) rfl rfl (fun hc8 => ?_) (fun hc8 => ?_)
                · exfalso; omega
                · skip
                  refine rn_bipush (k' := 52) rfl rfl ?_
                  refine rn_iload (k' := 53) rfl rfl rfl ?_
                  refine rn_imul (k' := 54) rfl rfl (by omega) ?_
                  refine rn_iload_n (k' := 55) rfl rfl rfl ?_
                  refine rn_iadd (k' := 56) rfl rfl (by omega) ?_
                  refine rn_goto rfl ?_
                  refine rn_iret rfl (Or.inl rfl) ?_
                  first | rfl | (refine congrArg (fun z => ((some (some (mI z)) : Option (Option MV)), mkh μ c s)) ?_; first | rfl | omega | (symm; first | (rw [if_pos (by omega)]; first | done | rfl | omega) | (rw [if_neg (by omega)]; first | done | rfl | omega)) | (symm; unfold g_tim; first | (rw [if_pos (by omega)]; first | done | rfl | omega) | (rw [if_neg (by omega)]; first | done | rfl | omega)) | (symm; unfold g_st; first | (rw [if_pos (by omega)]; first | done | rfl | omega) | (rw [if_neg (by omega)]; first | done | rfl | omega)) | (symm; unfold g_dep; first | (rw [if_pos (by omega)]; first | done | rfl | omega) | (rw [if_neg (by omega)]; first | done | rfl | omega)) | (symm; unfold g_nb; first | (rw [if_pos (by omega)]; first | done | rfl | omega) | (rw [if_neg (by omega)]; first | done | rfl | omega)) | ((try unfold g_st); (try unfold g_dep); (try unfold g_nb); (repeat' split) <;> omega) | (symm; (repeat (first | rw [if_pos (by omega)] | rw [if_neg (by omega)])); first | done | rfl | omega))
              · refine rn_callP (k' := 50) (y := 167) (vs := [mI (((a).tdiv (10)) + 0), mI (0), mI ((μ 6 9) - 1)]) (S' := []) (v := some (mI 0)) (h' := mkh μ c s) rfl rfl rfl (by have hz : Cl PT 167 [mI (((a).tdiv (10)) + 0), mI (0), mI ((μ 6 9) - 1)] (mkh μ c s) (fun r => r = (some (some (mI (if 0 ≤ ((a).tdiv (10)) + 0 ∧ ((a).tdiv (10)) + 0 ≤ (μ 6 9) - 1 then 1 else 0))), mkh μ c s)) := c_X12_isIn (v := ((a).tdiv (10)) + 0) (lo := 0) (hi := (μ 6 9) - 1) (μ := μ) (c := c) (s := s); rw [if_neg hq7] at hz; exact hz) ?_
                show Rn PT none kX12_beside 50 [some (mR 118), some (mI (a)), some (mI (d)), some (mI (((a).tmod (10)) + 0)), some (mI (((a).tdiv (10)) + 0))] [mI (0)] (mkh μ c s) _
                refine rn_if_eq (k' := 51) rfl rfl (fun hc9 => ?_) (fun hc9 => ?_)
                · skip
                  refine rn_iconst (k' := 58) rfl rfl ?_
                  refine rn_iret rfl (Or.inl rfl) ?_
                  first | rfl | (refine congrArg (fun z => ((some (some (mI z)) : Option (Option MV)), mkh μ c s)) ?_; first | rfl | omega | (symm; first | (rw [if_pos (by omega)]; first | done | rfl | omega) | (rw [if_neg (by omega)]; first | done | rfl | omega)) | (symm; unfold g_tim; first | (rw [if_pos (by omega)]; first | done | rfl | omega) | (rw [if_neg (by omega)]; first | done | rfl | omega)) | (symm; unfold g_st; first | (rw [if_pos (by omega)]; first | done | rfl | omega) | (rw [if_neg (by omega)]; first | done | rfl | omega)) | (symm; unfold g_dep; first | (rw [if_pos (by omega)]; first | done | rfl | omega) | (rw [if_neg (by omega)]; first | done | rfl | omega)) | (symm; unfold g_nb; first | (rw [if_pos (by omega)]; first | done | rfl | omega) | (rw [if_neg (by omega)]; first | done | rfl | omega)) | ((try unfold g_st); (try unfold g_dep); (try unfold g_nb); (repeat' split) <;> omega) | (symm; (repeat (first | rw [if_pos (by omega)] | rw [if_neg (by omega)])); first | done | rfl | omega))
                · exfalso; omega
          · refine rn_callP (k' := 40) (y := 167) (vs := [mI (((a).tmod (10)) + 0), mI (0), mI ((μ 6 8) - 1)]) (S' := []) (v := some (mI 0)) (h' := mkh μ c s) rfl rfl rfl (by have hz : Cl PT 167 [mI (((a).tmod (10)) + 0), mI (0), mI ((μ 6 8) - 1)] (mkh μ c s) (fun r => r = (some (some (mI (if 0 ≤ ((a).tmod (10)) + 0 ∧ ((a).tmod (10)) + 0 ≤ (μ 6 8) - 1 then 1 else 0))), mkh μ c s)) := c_X12_isIn (v := ((a).tmod (10)) + 0) (lo := 0) (hi := (μ 6 8) - 1) (μ := μ) (c := c) (s := s); rw [if_neg hq5] at hz; exact hz) ?_
            show Rn PT none kX12_beside 40 [some (mR 118), some (mI (a)), some (mI (d)), some (mI (((a).tmod (10)) + 0)), some (mI (((a).tdiv (10)) + 0))] [mI (0)] (mkh μ c s) _
            refine rn_if_eq (k' := 41) rfl rfl (fun hc10 => ?_) (fun hc10 => ?_)
            · skip
              refine rn_iconst (k' := 58) rfl rfl ?_
              refine rn_iret rfl (Or.inl rfl) ?_
              first | rfl | (refine congrArg (fun z => ((some (some (mI z)) : Option (Option MV)), mkh μ c s)) ?_; first | rfl | omega | (symm; first | (rw [if_pos (by omega)]; first | done | rfl | omega) | (rw [if_neg (by omega)]; first | done | rfl | omega)) | (symm; unfold g_tim; first | (rw [if_pos (by omega)]; first | done | rfl | omega) | (rw [if_neg (by omega)]; first | done | rfl | omega)) | (symm; unfold g_st; first | (rw [if_pos (by omega)]; first | done | rfl | omega) | (rw [if_neg (by omega)]; first | done | rfl | omega)) | (symm; unfold g_dep; first | (rw [if_pos (by omega)]; first | done | rfl | omega) | (rw [if_neg (by omega)]; first | done | rfl | omega)) | (symm; unfold g_nb; first | (rw [if_pos (by omega)]; first | done | rfl | omega) | (rw [if_neg (by omega)]; first | done | rfl | omega)) | ((try unfold g_st); (try unfold g_dep); (try unfold g_nb); (repeat' split) <;> omega) | (symm; (repeat (first | rw [if_pos (by omega)] | rw [if_neg (by omega)])); first | done | rfl | omega))
            · exfalso; omega
        · skip
          refine rn_iconst (k' := 27) rfl rfl ?_
          refine rn_goto rfl ?_
          refine rn_iadd (k' := 30) rfl rfl (by omega) ?_
          refine rn_istore (k' := 31) (L' := [some (mR 118), some (mI (a)), some (mI (d)), some (mI (((a).tmod (10)) + 0)), some (mI (((a).tdiv (10)) + (-1)))]) rfl rfl (Nat.le_of_ble_eq_true rfl) rfl ?_
          refine rn_iload_n (k' := 32) rfl rfl rfl ?_
          refine rn_iconst (k' := 33) rfl rfl ?_
          refine rn_aload_n (k' := 34) rfl rfl rfl ?_
          refine rn_getR (k' := 35) rfl rfl K0_118 (by decide) rfl R0_118_6 ?_
          refine rn_iconst (k' := 36) rfl rfl ?_
          refine rn_iaload (k' := 37) rfl rfl K0_120 (by omega) (by omega) ?_
          show Rn PT none kX12_beside 37 [some (mR 118), some (mI (a)), some (mI (d)), some (mI (((a).tmod (10)) + 0)), some (mI (((a).tdiv (10)) + (-1)))] [mI (μ 120 0), mI (0), mI (((a).tmod (10)) + 0)] (mkh μ c s) _
          rw [q0]
          refine rn_iconst (k' := 38) rfl rfl ?_
          refine rn_isub (k' := 39) rfl rfl (by omega) ?_
          by_cases hq11 : 0 ≤ ((a).tmod (10)) + 0 ∧ ((a).tmod (10)) + 0 ≤ (μ 6 8) - 1
          · refine rn_callP (k' := 40) (y := 167) (vs := [mI (((a).tmod (10)) + 0), mI (0), mI ((μ 6 8) - 1)]) (S' := []) (v := some (mI 1)) (h' := mkh μ c s) rfl rfl rfl (by have hz : Cl PT 167 [mI (((a).tmod (10)) + 0), mI (0), mI ((μ 6 8) - 1)] (mkh μ c s) (fun r => r = (some (some (mI (if 0 ≤ ((a).tmod (10)) + 0 ∧ ((a).tmod (10)) + 0 ≤ (μ 6 8) - 1 then 1 else 0))), mkh μ c s)) := c_X12_isIn (v := ((a).tmod (10)) + 0) (lo := 0) (hi := (μ 6 8) - 1) (μ := μ) (c := c) (s := s); rw [if_pos hq11] at hz; exact hz) ?_
            show Rn PT none kX12_beside 40 [some (mR 118), some (mI (a)), some (mI (d)), some (mI (((a).tmod (10)) + 0)), some (mI (((a).tdiv (10)) + (-1)))] [mI (1)] (mkh μ c s) _
            refine rn_if_eq (k' := 41) rfl rfl (fun hc12 => ?_) (fun hc12 => ?_)
            · exfalso; omega
            · skip
              refine rn_iload (k' := 42) rfl rfl rfl ?_
              refine rn_iconst (k' := 43) rfl rfl ?_
              refine rn_aload_n (k' := 44) rfl rfl rfl ?_
              refine rn_getR (k' := 45) rfl rfl K0_118 (by decide) rfl R0_118_6 ?_
              refine rn_iconst (k' := 46) rfl rfl ?_
              refine rn_iaload (k' := 47) rfl rfl K0_120 (by omega) (by omega) ?_
              show Rn PT none kX12_beside 47 [some (mR 118), some (mI (a)), some (mI (d)), some (mI (((a).tmod (10)) + 0)), some (mI (((a).tdiv (10)) + (-1)))] [mI (μ 120 1), mI (0), mI (((a).tdiv (10)) + (-1))] (mkh μ c s) _
              rw [q1]
              refine rn_iconst (k' := 48) rfl rfl ?_
              refine rn_isub (k' := 49) rfl rfl (by omega) ?_
              by_cases hq13 : 0 ≤ ((a).tdiv (10)) + (-1) ∧ ((a).tdiv (10)) + (-1) ≤ (μ 6 9) - 1
              · refine rn_callP (k' := 50) (y := 167) (vs := [mI (((a).tdiv (10)) + (-1)), mI (0), mI ((μ 6 9) - 1)]) (S' := []) (v := some (mI 1)) (h' := mkh μ c s) rfl rfl rfl (by have hz : Cl PT 167 [mI (((a).tdiv (10)) + (-1)), mI (0), mI ((μ 6 9) - 1)] (mkh μ c s) (fun r => r = (some (some (mI (if 0 ≤ ((a).tdiv (10)) + (-1) ∧ ((a).tdiv (10)) + (-1) ≤ (μ 6 9) - 1 then 1 else 0))), mkh μ c s)) := c_X12_isIn (v := ((a).tdiv (10)) + (-1)) (lo := 0) (hi := (μ 6 9) - 1) (μ := μ) (c := c) (s := s); rw [if_pos hq13] at hz; exact hz) ?_
                show Rn PT none kX12_beside 50 [some (mR 118), some (mI (a)), some (mI (d)), some (mI (((a).tmod (10)) + 0)), some (mI (((a).tdiv (10)) + (-1)))] [mI (1)] (mkh μ c s) _
                refine rn_if_eq (k' := 51) rfl rfl (fun hc14 => ?_) (fun hc14 => ?_)
                · exfalso; omega
                · skip
                  refine rn_bipush (k' := 52) rfl rfl ?_
                  refine rn_iload (k' := 53) rfl rfl rfl ?_
                  refine rn_imul (k' := 54) rfl rfl (by omega) ?_
                  refine rn_iload_n (k' := 55) rfl rfl rfl ?_
                  refine rn_iadd (k' := 56) rfl rfl (by omega) ?_
                  refine rn_goto rfl ?_
                  refine rn_iret rfl (Or.inl rfl) ?_
                  first | rfl | (refine congrArg (fun z => ((some (some (mI z)) : Option (Option MV)), mkh μ c s)) ?_; first | rfl | omega | (symm; first | (rw [if_pos (by omega)]; first | done | rfl | omega) | (rw [if_neg (by omega)]; first | done | rfl | omega)) | (symm; unfold g_tim; first | (rw [if_pos (by omega)]; first | done | rfl | omega) | (rw [if_neg (by omega)]; first | done | rfl | omega)) | (symm; unfold g_st; first | (rw [if_pos (by omega)]; first | done | rfl | omega) | (rw [if_neg (by omega)]; first | done | rfl | omega)) | (symm; unfold g_dep; first | (rw [if_pos (by omega)]; first | done | rfl | omega) | (rw [if_neg (by omega)]; first | done | rfl | omega)) | (symm; unfold g_nb; first | (rw [if_pos (by omega)]; first | done | rfl | omega) | (rw [if_neg (by omega)]; first | done | rfl | omega)) | ((try unfold g_st); (try unfold g_dep); (try unfold g_nb); (repeat' split) <;> omega) | (symm; (repeat (first | rw [if_pos (by omega)] | rw [if_neg (by omega)])); first | done | rfl | omega))
              · refine rn_callP (k' := 50) (y := 167) (vs := [mI (((a).tdiv (10)) + (-1)), mI (0), mI ((μ 6 9) - 1)]) (S' := []) (v := some (mI 0)) (h' := mkh μ c s) rfl rfl rfl (by have hz : Cl PT 167 [mI (((a).tdiv (10)) + (-1)), mI (0), mI ((μ 6 9) - 1)] (mkh μ c s) (fun r => r = (some (some (mI (if 0 ≤ ((a).tdiv (10)) + (-1) ∧ ((a).tdiv (10)) + (-1) ≤ (μ 6 9) - 1 then 1 else 0))), mkh μ c s)) := c_X12_isIn (v := ((a).tdiv (10)) + (-1)) (lo := 0) (hi := (μ 6 9) - 1) (μ := μ) (c := c) (s := s); rw [if_neg hq13] at hz; exact hz) ?_
                show Rn PT none kX12_beside 50 [some (mR 118), some (mI (a)), some (mI (d)), some (mI (((a).tmod (10)) + 0)), some (mI (((a).tdiv (10)) + (-1)))] [mI (0)] (mkh μ c s) _
                refine rn_if_eq (k' := 51) rfl rfl (fun hc15 => ?_) (fun hc15 => ?_)
                · skip
                  refine rn_iconst (k' := 58) rfl rfl ?_
                  refine rn_iret rfl (Or.inl rfl) ?_
                  first | rfl | (refine congrArg (fun z => ((some (some (mI z)) : Option (Option MV)), mkh μ c s)) ?_; first | rfl | omega | (symm; first | (rw [if_pos (by omega)]; first | done | rfl | omega) | (rw [if_neg (by omega)]; first | done | rfl | omega)) | (symm; unfold g_tim; first | (rw [if_pos (by omega)]; first | done | rfl | omega) | (rw [if_neg (by omega)]; first | done | rfl | omega)) | (symm; unfold g_st; first | (rw [if_pos (by omega)]; first | done | rfl | omega) | (rw [if_neg (by omega)]; first | done | rfl | omega)) | (symm; unfold g_dep; first | (rw [if_pos (by omega)]; first | done | rfl | omega) | (rw [if_neg (by omega)]; first | done | rfl | omega)) | (symm; unfold g_nb; first | (rw [if_pos (by omega)]; first | done | rfl | omega) | (rw [if_neg (by omega)]; first | done | rfl | omega)) | ((try unfold g_st); (try unfold g_dep); (try unfold g_nb); (repeat' split) <;> omega) | (symm; (repeat (first | rw [if_pos (by omega)] | rw [if_neg (by omega)])); first | done | rfl | omega))
                · exfalso; omega
          · refine rn_callP (k' := 40) (y := 167) (vs := [mI (((a).tmod (10)) + 0), mI (0), mI ((μ 6 8) - 1)]) (S' := []) (v := some (mI 0)) (h' := mkh μ c s) rfl rfl rfl (by have hz : Cl PT 167 [mI (((a).tmod (10)) + 0), mI (0), mI ((μ 6 8) - 1)] (mkh μ c s) (fun r => r = (some (some (mI (if 0 ≤ ((a).tmod (10)) + 0 ∧ ((a).tmod (10)) + 0 ≤ (μ 6 8) - 1 then 1 else 0))), mkh μ c s)) := c_X12_isIn (v := ((a).tmod (10)) + 0) (lo := 0) (hi := (μ 6 8) - 1) (μ := μ) (c := c) (s := s); rw [if_neg hq11] at hz; exact hz) ?_
            show Rn PT none kX12_beside 40 [some (mR 118), some (mI (a)), some (mI (d)), some (mI (((a).tmod (10)) + 0)), some (mI (((a).tdiv (10)) + (-1)))] [mI (0)] (mkh μ c s) _
            refine rn_if_eq (k' := 41) rfl rfl (fun hc16 => ?_) (fun hc16 => ?_)
            · skip
              refine rn_iconst (k' := 58) rfl rfl ?_
              refine rn_iret rfl (Or.inl rfl) ?_
              first | rfl | (refine congrArg (fun z => ((some (some (mI z)) : Option (Option MV)), mkh μ c s)) ?_; first | rfl | omega | (symm; first | (rw [if_pos (by omega)]; first | done | rfl | omega) | (rw [if_neg (by omega)]; first | done | rfl | omega)) | (symm; unfold g_tim; first | (rw [if_pos (by omega)]; first | done | rfl | omega) | (rw [if_neg (by omega)]; first | done | rfl | omega)) | (symm; unfold g_st; first | (rw [if_pos (by omega)]; first | done | rfl | omega) | (rw [if_neg (by omega)]; first | done | rfl | omega)) | (symm; unfold g_dep; first | (rw [if_pos (by omega)]; first | done | rfl | omega) | (rw [if_neg (by omega)]; first | done | rfl | omega)) | (symm; unfold g_nb; first | (rw [if_pos (by omega)]; first | done | rfl | omega) | (rw [if_neg (by omega)]; first | done | rfl | omega)) | ((try unfold g_st); (try unfold g_dep); (try unfold g_nb); (repeat' split) <;> omega) | (symm; (repeat (first | rw [if_pos (by omega)] | rw [if_neg (by omega)])); first | done | rfl | omega))
            · exfalso; omega
      · skip
        refine rn_iconst (k' := 23) rfl rfl ?_
        refine rn_goto rfl ?_
        refine rn_iadd (k' := 30) rfl rfl (by omega) ?_
        refine rn_istore (k' := 31) (L' := [some (mR 118), some (mI (a)), some (mI (d)), some (mI (((a).tmod (10)) + 0)), some (mI (((a).tdiv (10)) + 1))]) rfl rfl (Nat.le_of_ble_eq_true rfl) rfl ?_
        refine rn_iload_n (k' := 32) rfl rfl rfl ?_
        refine rn_iconst (k' := 33) rfl rfl ?_
        refine rn_aload_n (k' := 34) rfl rfl rfl ?_
        refine rn_getR (k' := 35) rfl rfl K0_118 (by decide) rfl R0_118_6 ?_
        refine rn_iconst (k' := 36) rfl rfl ?_
        refine rn_iaload (k' := 37) rfl rfl K0_120 (by omega) (by omega) ?_
        show Rn PT none kX12_beside 37 [some (mR 118), some (mI (a)), some (mI (d)), some (mI (((a).tmod (10)) + 0)), some (mI (((a).tdiv (10)) + 1))] [mI (μ 120 0), mI (0), mI (((a).tmod (10)) + 0)] (mkh μ c s) _
        rw [q0]
        refine rn_iconst (k' := 38) rfl rfl ?_
        refine rn_isub (k' := 39) rfl rfl (by omega) ?_
        by_cases hq17 : 0 ≤ ((a).tmod (10)) + 0 ∧ ((a).tmod (10)) + 0 ≤ (μ 6 8) - 1
        · refine rn_callP (k' := 40) (y := 167) (vs := [mI (((a).tmod (10)) + 0), mI (0), mI ((μ 6 8) - 1)]) (S' := []) (v := some (mI 1)) (h' := mkh μ c s) rfl rfl rfl (by have hz : Cl PT 167 [mI (((a).tmod (10)) + 0), mI (0), mI ((μ 6 8) - 1)] (mkh μ c s) (fun r => r = (some (some (mI (if 0 ≤ ((a).tmod (10)) + 0 ∧ ((a).tmod (10)) + 0 ≤ (μ 6 8) - 1 then 1 else 0))), mkh μ c s)) := c_X12_isIn (v := ((a).tmod (10)) + 0) (lo := 0) (hi := (μ 6 8) - 1) (μ := μ) (c := c) (s := s); rw [if_pos hq17] at hz; exact hz) ?_
          show Rn PT none kX12_beside 40 [some (mR 118), some (mI (a)), some (mI (d)), some (mI (((a).tmod (10)) + 0)), some (mI (((a).tdiv (10)) + 1))] [mI (1)] (mkh μ c s) _
          refine rn_if_eq (k' := 41) rfl rfl (fun hc18 => ?_) (fun hc18 => ?_)
          · exfalso; omega
          · skip
            refine rn_iload (k' := 42) rfl rfl rfl ?_
            refine rn_iconst (k' := 43) rfl rfl ?_
            refine rn_aload_n (k' := 44) rfl rfl rfl ?_
            refine rn_getR (k' := 45) rfl rfl K0_118 (by decide) rfl R0_118_6 ?_
            refine rn_iconst (k' := 46) rfl rfl ?_
            refine rn_iaload (k' := 47) rfl rfl K0_120 (by omega) (by omega) ?_
            show Rn PT none kX12_beside 47 [some (mR 118), some (mI (a)), some (mI (d)), some (mI (((a).tmod (10)) + 0)), some (mI (((a).tdiv (10)) + 1))] [mI (μ 120 1), mI (0), mI (((a).tdiv (10)) + 1)] (mkh μ c s) _
            rw [q1]
            refine rn_iconst (k' := 48) rfl rfl ?_
            refine rn_isub (k' := 49) rfl rfl (by omega) ?_
            by_cases hq19 : 0 ≤ ((a).tdiv (10)) + 1 ∧ ((a).tdiv (10)) + 1 ≤ (μ 6 9) - 1
            · refine rn_callP (k' := 50) (y := 167) (vs := [mI (((a).tdiv (10)) + 1), mI (0), mI ((μ 6 9) - 1)]) (S' := []) (v := some (mI 1)) (h' := mkh μ c s) rfl rfl rfl (by have hz : Cl PT 167 [mI (((a).tdiv (10)) + 1), mI (0), mI ((μ 6 9) - 1)] (mkh μ c s) (fun r => r = (some (some (mI (if 0 ≤ ((a).tdiv (10)) + 1 ∧ ((a).tdiv (10)) + 1 ≤ (μ 6 9) - 1 then 1 else 0))), mkh μ c s)) := c_X12_isIn (v := ((a).tdiv (10)) + 1) (lo := 0) (hi := (μ 6 9) - 1) (μ := μ) (c := c) (s := s); rw [if_pos hq19] at hz; exact hz) ?_
              show Rn PT none kX12_beside 50 [some (mR 118), some (mI (a)), some (mI (d)), some (mI (((a).tmod (10)) + 0)), some (mI (((a).tdiv (10)) + 1))] [mI (1)] (mkh μ c s) _
              refine rn_if_eq (k' := 51) rfl rfl (fun hc20 => ?_) (fun hc20 => ?_)
              · exfalso; omega
              · skip
                refine rn_bipush (k' := 52) rfl rfl ?_
                refine rn_iload (k' := 53) rfl rfl rfl ?_
                refine rn_imul (k' := 54) rfl rfl (by omega) ?_
                refine rn_iload_n (k' := 55) rfl rfl rfl ?_
                refine rn_iadd (k' := 56) rfl rfl (by omega) ?_
                refine rn_goto rfl ?_
                refine rn_iret rfl (Or.inl rfl) ?_
                first | rfl | (refine congrArg (fun z => ((some (some (mI z)) : Option (Option MV)), mkh μ c s)) ?_; first | rfl | omega | (symm; first | (rw [if_pos (by omega)]; first | done | rfl | omega) | (rw [if_neg (by omega)]; first | done | rfl | omega)) | (symm; unfold g_tim; first | (rw [if_pos (by omega)]; first | done | rfl | omega) | (rw [if_neg (by omega)]; first | done | rfl | omega)) | (symm; unfold g_st; first | (rw [if_pos (by omega)]; first | done | rfl | omega) | (rw [if_neg (by omega)]; first | done | rfl | omega)) | (symm; unfold g_dep; first | (rw [if_pos (by omega)]; first | done | rfl | omega) | (rw [if_neg (by omega)]; first | done | rfl | omega)) | (symm; unfold g_nb; first | (rw [if_pos (by omega)]; first | done | rfl | omega) | (rw [if_neg (by omega)]; first | done | rfl | omega)) | ((try unfold g_st); (try unfold g_dep); (try unfold g_nb); (repeat' split) <;> omega) | (symm; (repeat (first | rw [if_pos (by omega)] | rw [if_neg (by omega)])); first | done | rfl | omega))
            · refine rn_callP (k' := 50) (y := 167) (vs := [mI (((a).tdiv (10)) + 1), mI (0), mI ((μ 6 9) - 1)]) (S' := []) (v := some (mI 0)) (h' := mkh μ c s) rfl rfl rfl (by have hz : Cl PT 167 [mI (((a).tdiv (10)) + 1), mI (0), mI ((μ 6 9) - 1)] (mkh μ c s) (fun r => r = (some (some (mI (if 0 ≤ ((a).tdiv (10)) + 1 ∧ ((a).tdiv (10)) + 1 ≤ (μ 6 9) - 1 then 1 else 0))), mkh μ c s)) := c_X12_isIn (v := ((a).tdiv (10)) + 1) (lo := 0) (hi := (μ 6 9) - 1) (μ := μ) (c := c) (s := s); rw [if_neg hq19] at hz; exact hz) ?_
              show Rn PT none kX12_beside 50 [some (mR 118), some (mI (a)), some (mI (d)), some (mI (((a).tmod (10)) + 0)), some (mI (((a).tdiv (10)) + 1))] [mI (0)] (mkh μ c s) _
              refine rn_if_eq (k' := 51) rfl rfl (fun hc21 => ?_) (fun hc21 => ?_)
              · skip
                refine rn_iconst (k' := 58) rfl rfl ?_
                refine rn_iret rfl (Or.inl rfl) ?_
                first | rfl | (refine congrArg (fun z => ((some (some (mI z)) : Option (Option MV)), mkh μ c s)) ?_; first | rfl | omega | (symm; first | (rw [if_pos (by omega)]; first | done | rfl | omega) | (rw [if_neg (by omega)]; first | done | rfl | omega)) | (symm; unfold g_tim; first | (rw [if_pos (by omega)]; first | done | rfl | omega) | (rw [if_neg (by omega)]; first | done | rfl | omega)) | (symm; unfold g_st; first | (rw [if_pos (by omega)]; first | done | rfl | omega) | (rw [if_neg (by omega)]; first | done | rfl | omega)) | (symm; unfold g_dep; first | (rw [if_pos (by omega)]; first | done | rfl | omega) | (rw [if_neg (by omega)]; first | done | rfl | omega)) | (symm; unfold g_nb; first | (rw [if_pos (by omega)]; first | done | rfl | omega) | (rw [if_neg (by omega)]; first | done | rfl | omega)) | ((try unfold g_st); (try unfold g_dep); (try unfold g_nb); (repeat' split) <;> omega) | (symm; (repeat (first | rw [if_pos (by omega)] | rw [if_neg (by omega)])); first | done | rfl | omega))
              · exfalso; omega
        · refine rn_callP (k' := 40) (y := 167) (vs := [mI (((a).tmod (10)) + 0), mI (0), mI ((μ 6 8) - 1)]) (S' := []) (v := some (mI 0)) (h' := mkh μ c s) rfl rfl rfl (by have hz : Cl PT 167 [mI (((a).tmod (10)) + 0), mI (0), mI ((μ 6 8) - 1)] (mkh μ c s) (fun r => r = (some (some (mI (if 0 ≤ ((a).tmod (10)) + 0 ∧ ((a).tmod (10)) + 0 ≤ (μ 6 8) - 1 then 1 else 0))), mkh μ c s)) := c_X12_isIn (v := ((a).tmod (10)) + 0) (lo := 0) (hi := (μ 6 8) - 1) (μ := μ) (c := c) (s := s); rw [if_neg hq17] at hz; exact hz) ?_
          show Rn PT none kX12_beside 40 [some (mR 118), some (mI (a)), some (mI (d)), some (mI (((a).tmod (10)) + 0)), some (mI (((a).tdiv (10)) + 1))] [mI (0)] (mkh μ c s) _
          refine rn_if_eq (k' := 41) rfl rfl (fun hc22 => ?_) (fun hc22 => ?_)
          · skip
            refine rn_iconst (k' := 58) rfl rfl ?_
            refine rn_iret rfl (Or.inl rfl) ?_
            first | rfl | (refine congrArg (fun z => ((some (some (mI z)) : Option (Option MV)), mkh μ c s)) ?_; first | rfl | omega | (symm; first | (rw [if_pos (by omega)]; first | done | rfl | omega) | (rw [if_neg (by omega)]; first | done | rfl | omega)) | (symm; unfold g_tim; first | (rw [if_pos (by omega)]; first | done | rfl | omega) | (rw [if_neg (by omega)]; first | done | rfl | omega)) | (symm; unfold g_st; first | (rw [if_pos (by omega)]; first | done | rfl | omega) | (rw [if_neg (by omega)]; first | done | rfl | omega)) | (symm; unfold g_dep; first | (rw [if_pos (by omega)]; first | done | rfl | omega) | (rw [if_neg (by omega)]; first | done | rfl | omega)) | (symm; unfold g_nb; first | (rw [if_pos (by omega)]; first | done | rfl | omega) | (rw [if_neg (by omega)]; first | done | rfl | omega)) | ((try unfold g_st); (try unfold g_dep); (try unfold g_nb); (repeat' split) <;> omega) | (symm; (repeat (first | rw [if_pos (by omega)] | rw [if_neg (by omega)])); first | done | rfl | omega))
          · exfalso; omega
    · skip
      refine rn_iconst (k' := 12) rfl rfl ?_
      refine rn_goto rfl ?_
      refine rn_iadd (k' := 15) rfl rfl (by omega) ?_
      refine rn_istore_n (k' := 16) (L' := [some (mR 118), some (mI (a)), some (mI (d)), some (mI (((a).tmod (10)) + (-1))), none]) rfl rfl (Nat.le_of_ble_eq_true rfl) rfl ?_
      refine rn_iload_n (k' := 17) rfl rfl rfl ?_
      refine rn_bipush (k' := 18) rfl rfl ?_
      refine rn_idiv (k' := 19) rfl rfl (by omega) (by omega) ?_
      refine rn_iload_n (k' := 20) rfl rfl rfl ?_
      refine rn_iconst (k' := 21) rfl rfl ?_
      refine rn_icmp_ne (k' := 22) rfl rfl (fun hc23 => ?_) (fun hc23 => ?_)
      · skip
        refine rn_iload_n (k' := 25) rfl rfl rfl ?_
        refine rn_if_ne (k' := 26) rfl rfl (fun hc24 => ?_) (fun hc24 => ?_)
        · skip
          refine rn_iconst (k' := 29) rfl rfl ?_
          refine rn_iadd (k' := 30) rfl rfl (by omega) ?_
          refine rn_istore (k' := 31) (L' := [some (mR 118), some (mI (a)), some (mI (d)), some (mI (((a).tmod (10)) + (-1))), some (mI (((a).tdiv (10)) + 0))]) rfl rfl (Nat.le_of_ble_eq_true rfl) rfl ?_
          refine rn_iload_n (k' := 32) rfl rfl rfl ?_
          refine rn_iconst (k' := 33) rfl rfl ?_
          refine rn_aload_n (k' := 34) rfl rfl rfl ?_
          refine rn_getR (k' := 35) rfl rfl K0_118 (by decide) rfl R0_118_6 ?_
          refine rn_iconst (k' := 36) rfl rfl ?_
          refine rn_iaload (k' := 37) rfl rfl K0_120 (by omega) (by omega) ?_
          show Rn PT none kX12_beside 37 [some (mR 118), some (mI (a)), some (mI (d)), some (mI (((a).tmod (10)) + (-1))), some (mI (((a).tdiv (10)) + 0))] [mI (μ 120 0), mI (0), mI (((a).tmod (10)) + (-1))] (mkh μ c s) _
          rw [q0]
          refine rn_iconst (k' := 38) rfl rfl ?_
          refine rn_isub (k' := 39) rfl rfl (by omega) ?_
          by_cases hq25 : 0 ≤ ((a).tmod (10)) + (-1) ∧ ((a).tmod (10)) + (-1) ≤ (μ 6 8) - 1
          · refine rn_callP (k' := 40) (y := 167) (vs := [mI (((a).tmod (10)) + (-1)), mI (0), mI ((μ 6 8) - 1)]) (S' := []) (v := some (mI 1)) (h' := mkh μ c s) rfl rfl rfl (by have hz : Cl PT 167 [mI (((a).tmod (10)) + (-1)), mI (0), mI ((μ 6 8) - 1)] (mkh μ c s) (fun r => r = (some (some (mI (if 0 ≤ ((a).tmod (10)) + (-1) ∧ ((a).tmod (10)) + (-1) ≤ (μ 6 8) - 1 then 1 else 0))), mkh μ c s)) := c_X12_isIn (v := ((a).tmod (10)) + (-1)) (lo := 0) (hi := (μ 6 8) - 1) (μ := μ) (c := c) (s := s); rw [if_pos hq25] at hz; exact hz) ?_
            show Rn PT none kX12_beside 40 [some (mR 118), some (mI (a)), some (mI (d)), some (mI (((a).tmod (10)) + (-1))), some (mI (((a).tdiv (10)) + 0))] [mI (1)] (mkh μ c s) _
            refine rn_if_eq (k' := 41) rfl rfl (fun hc26 => ?_) (fun hc26 => ?_)
            · exfalso; omega
            · skip
              refine rn_iload (k' := 42) rfl rfl rfl ?_
              refine rn_iconst (k' := 43) rfl rfl ?_
              refine rn_aload_n (k' := 44) rfl rfl rfl ?_
              refine rn_getR (k' := 45) rfl rfl K0_118 (by decide) rfl R0_118_6 ?_
              refine rn_iconst (k' := 46) rfl rfl ?_
              refine rn_iaload (k' := 47) rfl rfl K0_120 (by omega) (by omega) ?_
              show Rn PT none kX12_beside 47 [some (mR 118), some (mI (a)), some (mI (d)), some (mI (((a).tmod (10)) + (-1))), some (mI (((a).tdiv (10)) + 0))] [mI (μ 120 1), mI (0), mI (((a).tdiv (10)) + 0)] (mkh μ c s) _
              rw [q1]
              refine rn_iconst (k' := 48) rfl rfl ?_
              refine rn_isub (k' := 49) rfl rfl (by omega) ?_
              by_cases hq27 : 0 ≤ ((a).tdiv (10)) + 0 ∧ ((a).tdiv (10)) + 0 ≤ (μ 6 9) - 1
              · refine rn_callP (k' := 50) (y := 167) (vs := [mI (((a).tdiv (10)) + 0), mI (0), mI ((μ 6 9) - 1)]) (S' := []) (v := some (mI 1)) (h' := mkh μ c s) rfl rfl rfl (by have hz : Cl PT 167 [mI (((a).tdiv (10)) + 0), mI (0), mI ((μ 6 9) - 1)] (mkh μ c s) (fun r => r = (some (some (mI (if 0 ≤ ((a).tdiv (10)) + 0 ∧ ((a).tdiv (10)) + 0 ≤ (μ 6 9) - 1 then 1 else 0))), mkh μ c s)) := c_X12_isIn (v := ((a).tdiv (10)) + 0) (lo := 0) (hi := (μ 6 9) - 1) (μ := μ) (c := c) (s := s); rw [if_pos hq27] at hz; exact hz) ?_
                show Rn PT none kX12_beside 50 [some (mR 118), some (mI (a)), some (mI (d)), some (mI (((a).tmod (10)) + (-1))), some (mI (((a).tdiv (10)) + 0))] [mI (1)] (mkh μ c s) _
                refine rn_if_eq (k' := 51) rfl rfl (fun hc28 => ?_) (fun hc28 => ?_)
                · exfalso; omega
                · skip
                  refine rn_bipush (k' := 52) rfl rfl ?_
                  refine rn_iload (k' := 53) rfl rfl rfl ?_
                  refine rn_imul (k' := 54) rfl rfl (by omega) ?_
                  refine rn_iload_n (k' := 55) rfl rfl rfl ?_
                  refine rn_iadd (k' := 56) rfl rfl (by omega) ?_
                  refine rn_goto rfl ?_
                  refine rn_iret rfl (Or.inl rfl) ?_
                  first | rfl | (refine congrArg (fun z => ((some (some (mI z)) : Option (Option MV)), mkh μ c s)) ?_; first | rfl | omega | (symm; first | (rw [if_pos (by omega)]; first | done | rfl | omega) | (rw [if_neg (by omega)]; first | done | rfl | omega)) | (symm; unfold g_tim; first | (rw [if_pos (by omega)]; first | done | rfl | omega) | (rw [if_neg (by omega)]; first | done | rfl | omega)) | (symm; unfold g_st; first | (rw [if_pos (by omega)]; first | done | rfl | omega) | (rw [if_neg (by omega)]; first | done | rfl | omega)) | (symm; unfold g_dep; first | (rw [if_pos (by omega)]; first | done | rfl | omega) | (rw [if_neg (by omega)]; first | done | rfl | omega)) | (symm; unfold g_nb; first | (rw [if_pos (by omega)]; first | done | rfl | omega) | (rw [if_neg (by omega)]; first | done | rfl | omega)) | ((try unfold g_st); (try unfold g_dep); (try unfold g_nb); (repeat' split) <;> omega) | (symm; (repeat (first | rw [if_pos (by omega)] | rw [if_neg (by omega)])); first | done | rfl | omega))
              · refine rn_callP (k' := 50) (y := 167) (vs := [mI (((a).tdiv (10)) + 0), mI (0), mI ((μ 6 9) - 1)]) (S' := []) (v := some (mI 0)) (h' := mkh μ c s) rfl rfl rfl (by have hz : Cl PT 167 [mI (((a).tdiv (10)) + 0), mI (0), mI ((μ 6 9) - 1)] (mkh μ c s) (fun r => r = (some (some (mI (if 0 ≤ ((a).tdiv (10)) + 0 ∧ ((a).tdiv (10)) + 0 ≤ (μ 6 9) - 1 then 1 else 0))), mkh μ c s)) := c_X12_isIn (v := ((a).tdiv (10)) + 0) (lo := 0) (hi := (μ 6 9) - 1) (μ := μ) (c := c) (s := s); rw [if_neg hq27] at hz; exact hz) ?_
                show Rn PT none kX12_beside 50 [some (mR 118), some (mI (a)), some (mI (d)), some (mI (((a).tmod (10)) + (-1))), some (mI (((a).tdiv (10)) + 0))] [mI (0)] (mkh μ c s) _
                refine rn_if_eq (k' := 51) rfl rfl (fun hc29 => ?_) (fun hc29 => ?_)
                · skip
                  refine rn_iconst (k' := 58) rfl rfl ?_
                  refine rn_iret rfl (Or.inl rfl) ?_
                  first | rfl | (refine congrArg (fun z => ((some (some (mI z)) : Option (Option MV)), mkh μ c s)) ?_; first | rfl | omega | (symm; first | (rw [if_pos (by omega)]; first | done | rfl | omega) | (rw [if_neg (by omega)]; first | done | rfl | omega)) | (symm; unfold g_tim; first | (rw [if_pos (by omega)]; first | done | rfl | omega) | (rw [if_neg (by omega)]; first | done | rfl | omega)) | (symm; unfold g_st; first | (rw [if_pos (by omega)]; first | done | rfl | omega) | (rw [if_neg (by omega)]; first | done | rfl | omega)) | (symm; unfold g_dep; first | (rw [if_pos (by omega)]; first | done | rfl | omega) | (rw [if_neg (by omega)]; first | done | rfl | omega)) | (symm; unfold g_nb; first | (rw [if_pos (by omega)]; first | done | rfl | omega) | (rw [if_neg (by omega)]; first | done | rfl | omega)) | ((try unfold g_st); (try unfold g_dep); (try unfold g_nb); (repeat' split) <;> omega) | (symm; (repeat (first | rw [if_pos (by omega)] | rw [if_neg (by omega)])); first | done | rfl | omega))
                · exfalso; omega
          · refine rn_callP (k' := 40) (y := 167) (vs := [mI (((a).tmod (10)) + (-1)), mI (0), mI ((μ 6 8) - 1)]) (S' := []) (v := some (mI 0)) (h' := mkh μ c s) rfl rfl rfl (by have hz : Cl PT 167 [mI (((a).tmod (10)) + (-1)), mI (0), mI ((μ 6 8) - 1)] (mkh μ c s) (fun r => r = (some (some (mI (if 0 ≤ ((a).tmod (10)) + (-1) ∧ ((a).tmod (10)) + (-1) ≤ (μ 6 8) - 1 then 1 else 0))), mkh μ c s)) := c_X12_isIn (v := ((a).tmod (10)) + (-1)) (lo := 0) (hi := (μ 6 8) - 1) (μ := μ) (c := c) (s := s); rw [if_neg hq25] at hz; exact hz) ?_
            show Rn PT none kX12_beside 40 [some (mR 118), some (mI (a)), some (mI (d)), some (mI (((a).tmod (10)) + (-1))), some (mI (((a).tdiv (10)) + 0))] [mI (0)] (mkh μ c s) _
            refine rn_if_eq (k' := 41) rfl rfl (fun hc30 => ?_) (fun hc30 => ?_)
            · skip
              refine rn_iconst (k' := 58) rfl rfl ?_
              refine rn_iret rfl (Or.inl rfl) ?_
              first | rfl | (refine congrArg (fun z => ((some (some (mI z)) : Option (Option MV)), mkh μ c s)) ?_; first | rfl | omega | (symm; first | (rw [if_pos (by omega)]; first | done | rfl | omega) | (rw [if_neg (by omega)]; first | done | rfl | omega)) | (symm; unfold g_tim; first | (rw [if_pos (by omega)]; first | done | rfl | omega) | (rw [if_neg (by omega)]; first | done | rfl | omega)) | (symm; unfold g_st; first | (rw [if_pos (by omega)]; first | done | rfl | omega) | (rw [if_neg (by omega)]; first | done | rfl | omega)) | (symm; unfold g_dep; first | (rw [if_pos (by omega)]; first | done | rfl | omega) | (rw [if_neg (by omega)]; first | done | rfl | omega)) | (symm; unfold g_nb; first | (rw [if_pos (by omega)]; first | done | rfl | omega) | (rw [if_neg (by omega)]; first | done | rfl | omega)) | ((try unfold g_st); (try unfold g_dep); (try unfold g_nb); (repeat' split) <;> omega) | (symm; (repeat (first | rw [if_pos (by omega)] | rw [if_neg (by omega)])); first | done | rfl | omega))
            · exfalso; omega
        · skip
          refine rn_iconst (k' := 27) rfl rfl ?_
          refine rn_goto rfl ?_
          refine rn_iadd (k' := 30) rfl rfl (by omega) ?_
          refine rn_istore (k' := 31) (L' := [some (mR 118), some (mI (a)), some (mI (d)), some (mI (((a).tmod (10)) + (-1))), some (mI (((a).tdiv (10)) + (-1)))]) rfl rfl (Nat.le_of_ble_eq_true rfl) rfl ?_
          refine rn_iload_n (k' := 32) rfl rfl rfl ?_
          refine rn_iconst (k' := 33) rfl rfl ?_
          refine rn_aload_n (k' := 34) rfl rfl rfl ?_
          refine rn_getR (k' := 35) rfl rfl K0_118 (by decide) rfl R0_118_6 ?_
          refine rn_iconst (k' := 36) rfl rfl ?_
          refine rn_iaload (k' := 37) rfl rfl K0_120 (by omega) (by omega) ?_
          show Rn PT none kX12_beside 37 [some (mR 118), some (mI (a)), some (mI (d)), some (mI (((a).tmod (10)) + (-1))), some (mI (((a).tdiv (10)) + (-1)))] [mI (μ 120 0), mI (0), mI (((a).tmod (10)) + (-1))] (mkh μ c s) _
          rw [q0]
          refine rn_iconst (k' := 38) rfl rfl ?_
          refine rn_isub (k' := 39) rfl rfl (by omega) ?_
          by_cases hq31 : 0 ≤ ((a).tmod (10)) + (-1) ∧ ((a).tmod (10)) + (-1) ≤ (μ 6 8) - 1
          · refine rn_callP (k' := 40) (y := 167) (vs := [mI (((a).tmod (10)) + (-1)), mI (0), mI ((μ 6 8) - 1)]) (S' := []) (v := some (mI 1)) (h' := mkh μ c s) rfl rfl rfl (by have hz : Cl PT 167 [mI (((a).tmod (10)) + (-1)), mI (0), mI ((μ 6 8) - 1)] (mkh μ c s) (fun r => r = (some (some (mI (if 0 ≤ ((a).tmod (10)) + (-1) ∧ ((a).tmod (10)) + (-1) ≤ (μ 6 8) - 1 then 1 else 0))), mkh μ c s)) := c_X12_isIn (v := ((a).tmod (10)) + (-1)) (lo := 0) (hi := (μ 6 8) - 1) (μ := μ) (c := c) (s := s); rw [if_pos hq31] at hz; exact hz) ?_
            show Rn PT none kX12_beside 40 [some (mR 118), some (mI (a)), some (mI (d)), some (mI (((a).tmod (10)) + (-1))), some (mI (((a).tdiv (10)) + (-1)))] [mI (1)] (mkh μ c s) _
            refine rn_if_eq (k' := 41) rfl rfl (fun hc32 => ?_) (fun hc32 => ?_)
            · exfalso; omega
            · skip
              refine rn_iload (k' := 42) rfl rfl rfl ?_
              refine rn_iconst (k' := 43) rfl rfl ?_
              refine rn_aload_n (k' := 44) rfl rfl rfl ?_
              refine rn_getR (k' := 45) rfl rfl K0_118 (by decide) rfl R0_118_6 ?_
              refine rn_iconst (k' := 46) rfl rfl ?_
              refine rn_iaload (k' := 47) rfl rfl K0_120 (by omega) (by omega) ?_
              show Rn PT none kX12_beside 47 [some (mR 118), some (mI (a)), some (mI (d)), some (mI (((a).tmod (10)) + (-1))), some (mI (((a).tdiv (10)) + (-1)))] [mI (μ 120 1), mI (0), mI (((a).tdiv (10)) + (-1))] (mkh μ c s) _
              rw [q1]
              refine rn_iconst (k' := 48) rfl rfl ?_
              refine rn_isub (k' := 49) rfl rfl (by omega) ?_
              by_cases hq33 : 0 ≤ ((a).tdiv (10)) + (-1) ∧ ((a).tdiv (10)) + (-1) ≤ (μ 6 9) - 1
              · refine rn_callP (k' := 50) (y := 167) (vs := [mI (((a).tdiv (10)) + (-1)), mI (0), mI ((μ 6 9) - 1)]) (S' := []) (v := some (mI 1)) (h' := mkh μ c s) rfl rfl rfl (by have hz : Cl PT 167 [mI (((a).tdiv (10)) + (-1)), mI (0), mI ((μ 6 9) - 1)] (mkh μ c s) (fun r => r = (some (some (mI (if 0 ≤ ((a).tdiv (10)) + (-1) ∧ ((a).tdiv (10)) + (-1) ≤ (μ 6 9) - 1 then 1 else 0))), mkh μ c s)) := c_X12_isIn (v := ((a).tdiv (10)) + (-1)) (lo := 0) (hi := (μ 6 9) - 1) (μ := μ) (c := c) (s := s); rw [if_pos hq33] at hz; exact hz) ?_
                show Rn PT none kX12_beside 50 [some (mR 118), some (mI (a)), some (mI (d)), some (mI (((a).tmod (10)) + (-1))), some (mI (((a).tdiv (10)) + (-1)))] [mI (1)] (mkh μ c s) _
                refine rn_if_eq (k' := 51) rfl rfl (fun hc34 => ?_) (fun hc34 => ?_)
                · exfalso; omega
                · skip
                  refine rn_bipush (k' := 52) rfl rfl ?_
                  refine rn_iload (k' := 53) rfl rfl rfl ?_
                  refine rn_imul (k' := 54) rfl rfl (by omega) ?_
                  refine rn_iload_n (k' := 55) rfl rfl rfl ?_
                  refine rn_iadd (k' := 56) rfl rfl (by omega) ?_
                  refine rn_goto rfl ?_
                  refine rn_iret rfl (Or.inl rfl) ?_
                  first | rfl | (refine congrArg (fun z => ((some (some (mI z)) : Option (Option MV)), mkh μ c s)) ?_; first | rfl | omega | (symm; first | (rw [if_pos (by omega)]; first | done | rfl | omega) | (rw [if_neg (by omega)]; first | done | rfl | omega)) | (symm; unfold g_tim; first | (rw [if_pos (by omega)]; first | done | rfl | omega) | (rw [if_neg (by omega)]; first | done | rfl | omega)) | (symm; unfold g_st; first | (rw [if_pos (by omega)]; first | done | rfl | omega) | (rw [if_neg (by omega)]; first | done | rfl | omega)) | (symm; unfold g_dep; first | (rw [if_pos (by omega)]; first | done | rfl | omega) | (rw [if_neg (by omega)]; first | done | rfl | omega)) | (symm; unfold g_nb; first | (rw [if_pos (by omega)]; first | done | rfl | omega) | (rw [if_neg (by omega)]; first | done | rfl | omega)) | ((try unfold g_st); (try unfold g_dep); (try unfold g_nb); (repeat' split) <;> omega) | (symm; (repeat (first | rw [if_pos (by omega)] | rw [if_neg (by omega)])); first | done | rfl | omega))
              · refine rn_callP (k' := 50) (y := 167) (vs := [mI (((a).tdiv (10)) + (-1)), mI (0), mI ((μ 6 9) - 1)]) (S' := []) (v := some (mI 0)) (h' := mkh μ c s) rfl rfl rfl (by have hz : Cl PT 167 [mI (((a).tdiv (10)) + (-1)), mI (0), mI ((μ 6 9) - 1)] (mkh μ c s) (fun r => r = (some (some (mI (if 0 ≤ ((a).tdiv (10)) + (-1) ∧ ((a).tdiv (10)) + (-1) ≤ (μ 6 9) - 1 then 1 else 0))), mkh μ c s)) := c_X12_isIn (v := ((a).tdiv (10)) + (-1)) (lo := 0) (hi := (μ 6 9) - 1) (μ := μ) (c := c) (s := s); rw [if_neg hq33] at hz; exact hz) ?_
                show Rn PT none kX12_beside 50 [some (mR 118), some (mI (a)), some (mI (d)), some (mI (((a).tmod (10)) + (-1))), some (mI (((a).tdiv (10)) + (-1)))] [mI (0)] (mkh μ c s) _
                refine rn_if_eq (k' := 51) rfl rfl (fun hc35 => ?_) (fun hc35 => ?_)
                · skip
                  refine rn_iconst (k' := 58) rfl rfl ?_
                  refine rn_iret rfl (Or.inl rfl) ?_
                  first | rfl | (refine congrArg (fun z => ((some (some (mI z)) : Option (Option MV)), mkh μ c s)) ?_; first | rfl | omega | (symm; first | (rw [if_pos (by omega)]; first | done | rfl | omega) | (rw [if_neg (by omega)]; first | done | rfl | omega)) | (symm; unfold g_tim; first | (rw [if_pos (by omega)]; first | done | rfl | omega) | (rw [if_neg (by omega)]; first | done | rfl | omega)) | (symm; unfold g_st; first | (rw [if_pos (by omega)]; first | done | rfl | omega) | (rw [if_neg (by omega)]; first | done | rfl | omega)) | (symm; unfold g_dep; first | (rw [if_pos (by omega)]; first | done | rfl | omega) | (rw [if_neg (by omega)]; first | done | rfl | omega)) | (symm; unfold g_nb; first | (rw [if_pos (by omega)]; first | done | rfl | omega) | (rw [if_neg (by omega)]; first | done | rfl | omega)) | ((try unfold g_st); (try unfold g_dep); (try unfold g_nb); (repeat' split) <;> omega) | (symm; (repeat (first | rw [if_pos (by omega)] | rw [if_neg (by omega)])); first | done | rfl | omega))
                · exfalso; omega
          · refine rn_callP (k' := 40) (y := 167) (vs := [mI (((a).tmod (10)) + (-1)), mI (0), mI ((μ 6 8) - 1)]) (S' := []) (v := some (mI 0)) (h' := mkh μ c s) rfl rfl rfl (by have hz : Cl PT 167 [mI (((a).tmod (10)) + (-1)), mI (0), mI ((μ 6 8) - 1)] (mkh μ c s) (fun r => r = (some (some (mI (if 0 ≤ ((a).tmod (10)) + (-1) ∧ ((a).tmod (10)) + (-1) ≤ (μ 6 8) - 1 then 1 else 0))), mkh μ c s)) := c_X12_isIn (v := ((a).tmod (10)) + (-1)) (lo := 0) (hi := (μ 6 8) - 1) (μ := μ) (c := c) (s := s); rw [if_neg hq31] at hz; exact hz) ?_
            show Rn PT none kX12_beside 40 [some (mR 118), some (mI (a)), some (mI (d)), some (mI (((a).tmod (10)) + (-1))), some (mI (((a).tdiv (10)) + (-1)))] [mI (0)] (mkh μ c s) _
            refine rn_if_eq (k' := 41) rfl rfl (fun hc36 => ?_) (fun hc36 => ?_)
            · skip
              refine rn_iconst (k' := 58) rfl rfl ?_
              refine rn_iret rfl (Or.inl rfl) ?_
              first | rfl | (refine congrArg (fun z => ((some (some (mI z)) : Option (Option MV)), mkh μ c s)) ?_; first | rfl | omega | (symm; first | (rw [if_pos (by omega)]; first | done | rfl | omega) | (rw [if_neg (by omega)]; first | done | rfl | omega)) | (symm; unfold g_tim; first | (rw [if_pos (by omega)]; first | done | rfl | omega) | (rw [if_neg (by omega)]; first | done | rfl | omega)) | (symm; unfold g_st; first | (rw [if_pos (by omega)]; first | done | rfl | omega) | (rw [if_neg (by omega)]; first | done | rfl | omega)) | (symm; unfold g_dep; first | (rw [if_pos (by omega)]; first | done | rfl | omega) | (rw [if_neg (by omega)]; first | done | rfl | omega)) | (symm; unfold g_nb; first | (rw [if_pos (by omega)]; first | done | rfl | omega) | (rw [if_neg (by omega)]; first | done | rfl | omega)) | ((try unfold g_st); (try unfold g_dep); (try unfold g_nb); (repeat' split) <;> omega) | (symm; (repeat (first | rw [if_pos (by omega)] | rw [if_neg (by omega)])); first | done | rfl | omega))
            · exfalso; omega
      · skip
        refine rn_iconst (k' := 23) rfl rfl ?_
        refine rn_goto rfl ?_
        refine rn_iadd (k' := 30) rfl rfl (by omega) ?_
        refine rn_istore (k' := 31) (L' := [some (mR 118), some (mI (a)), some (mI (d)), some (mI (((a).tmod (10)) + (-1))), some (mI (((a).tdiv (10)) + 1))]) rfl rfl (Nat.le_of_ble_eq_true rfl) rfl ?_
        refine rn_iload_n (k' := 32) rfl rfl rfl ?_
        refine rn_iconst (k' := 33) rfl rfl ?_
        refine rn_aload_n (k' := 34) rfl rfl rfl ?_
        refine rn_getR (k' := 35) rfl rfl K0_118 (by decide) rfl R0_118_6 ?_
        refine rn_iconst (k' := 36) rfl rfl ?_
        refine rn_iaload (k' := 37) rfl rfl K0_120 (by omega) (by omega) ?_
        show Rn PT none kX12_beside 37 [some (mR 118), some (mI (a)), some (mI (d)), some (mI (((a).tmod (10)) + (-1))), some (mI (((a).tdiv (10)) + 1))] [mI (μ 120 0), mI (0), mI (((a).tmod (10)) + (-1))] (mkh μ c s) _
        rw [q0]
        refine rn_iconst (k' := 38) rfl rfl ?_
        refine rn_isub (k' := 39) rfl rfl (by omega) ?_
        by_cases hq37 : 0 ≤ ((a).tmod (10)) + (-1) ∧ ((a).tmod (10)) + (-1) ≤ (μ 6 8) - 1
        · refine rn_callP (k' := 40) (y := 167) (vs := [mI (((a).tmod (10)) + (-1)), mI (0), mI ((μ 6 8) - 1)]) (S' := []) (v := some (mI 1)) (h' := mkh μ c s) rfl rfl rfl (by have hz : Cl PT 167 [mI (((a).tmod (10)) + (-1)), mI (0), mI ((μ 6 8) - 1)] (mkh μ c s) (fun r => r = (some (some (mI (if 0 ≤ ((a).tmod (10)) + (-1) ∧ ((a).tmod (10)) + (-1) ≤ (μ 6 8) - 1 then 1 else 0))), mkh μ c s)) := c_X12_isIn (v := ((a).tmod (10)) + (-1)) (lo := 0) (hi := (μ 6 8) - 1) (μ := μ) (c := c) (s := s); rw [if_pos hq37] at hz; exact hz) ?_
          show Rn PT none kX12_beside 40 [some (mR 118), some (mI (a)), some (mI (d)), some (mI (((a).tmod (10)) + (-1))), some (mI (((a).tdiv (10)) + 1))] [mI (1)] (mkh μ c s) _
          refine rn_if_eq (k' := 41) rfl rfl (fun hc38 => ?_) (fun hc38 => ?_)
          · exfalso; omega
          · skip
            refine rn_iload (k' := 42) rfl rfl rfl ?_
            refine rn_iconst (k' := 43) rfl rfl ?_
            refine rn_aload_n (k' := 44) rfl rfl rfl ?_
            refine rn_getR (k' := 45) rfl rfl K0_118 (by decide) rfl R0_118_6 ?_
            refine rn_iconst (k' := 46) rfl rfl ?_
            refine rn_iaload (k' := 47) rfl rfl K0_120 (by omega) (by omega) ?_
            show Rn PT none kX12_beside 47 [some (mR 118), some (mI (a)), some (mI (d)), some (mI (((a).tmod (10)) + (-1))), some (mI (((a).tdiv (10)) + 1))] [mI (μ 120 1), mI (0), mI (((a).tdiv (10)) + 1)] (mkh μ c s) _
            rw [q1]
            refine rn_iconst (k' := 48) rfl rfl ?_
            refine rn_isub (k' := 49) rfl rfl (by omega) ?_
            by_cases hq39 : 0 ≤ ((a).tdiv (10)) + 1 ∧ ((a).tdiv (10)) + 1 ≤ (μ 6 9) - 1
            · refine rn_callP (k' := 50) (y := 167) (vs := [mI (((a).tdiv (10)) + 1), mI (0), mI ((μ 6 9) - 1)]) (S' := []) (v := some (mI 1)) (h' := mkh μ c s) rfl rfl rfl (by have hz : Cl PT 167 [mI (((a).tdiv (10)) + 1), mI (0), mI ((μ 6 9) - 1)] (mkh μ c s) (fun r => r = (some (some (mI (if 0 ≤ ((a).tdiv (10)) + 1 ∧ ((a).tdiv (10)) + 1 ≤ (μ 6 9) - 1 then 1 else 0))), mkh μ c s)) := c_X12_isIn (v := ((a).tdiv (10)) + 1) (lo := 0) (hi := (μ 6 9) - 1) (μ := μ) (c := c) (s := s); rw [if_pos hq39] at hz; exact hz) ?_
              show Rn PT none kX12_beside 50 [some (mR 118), some (mI (a)), some (mI (d)), some (mI (((a).tmod (10)) + (-1))), some (mI (((a).tdiv (10)) + 1))] [mI (1)] (mkh μ c s) _
              refine rn_if_eq (k' := 51) rfl rfl (fun hc40 => ?_) (fun hc40 => ?_)
              · exfalso; omega
              · skip
                refine rn_bipush (k' := 52) rfl rfl ?_
                refine rn_iload (k' := 53) rfl rfl rfl ?_
                refine rn_imul (k' := 54) rfl rfl (by omega) ?_
                refine rn_iload_n (k' := 55) rfl rfl rfl ?_
                refine rn_iadd (k' := 56) rfl rfl (by omega) ?_
                refine rn_goto rfl ?_
                refine rn_iret rfl (Or.inl rfl) ?_
                first | rfl | (refine congrArg (fun z => ((some (some (mI z)) : Option (Option MV)), mkh μ c s)) ?_; first | rfl | omega | (symm; first | (rw [if_pos (by omega)]; first | done | rfl | omega) | (rw [if_neg (by omega)]; first | done | rfl | omega)) | (symm; unfold g_tim; first | (rw [if_pos (by omega)]; first | done | rfl | omega) | (rw [if_neg (by omega)]; first | done | rfl | omega)) | (symm; unfold g_st; first | (rw [if_pos (by omega)]; first | done | rfl | omega) | (rw [if_neg (by omega)]; first | done | rfl | omega)) | (symm; unfold g_dep; first | (rw [if_pos (by omega)]; first | done | rfl | omega) | (rw [if_neg (by omega)]; first | done | rfl | omega)) | (symm; unfold g_nb; first | (rw [if_pos (by omega)]; first | done | rfl | omega) | (rw [if_neg (by omega)]; first | done | rfl | omega)) | ((try unfold g_st); (try unfold g_dep); (try unfold g_nb); (repeat' split) <;> omega) | (symm; (repeat (first | rw [if_pos (by omega)] | rw [if_neg (by omega)])); first | done | rfl | omega))
            · refine rn_callP (k' := 50) (y := 167) (vs := [mI (((a).tdiv (10)) + 1), mI (0), mI ((μ 6 9) - 1)]) (S' := []) (v := some (mI 0)) (h' := mkh μ c s) rfl rfl rfl (by have hz : Cl PT 167 [mI (((a).tdiv (10)) + 1), mI (0), mI ((μ 6 9) - 1)] (mkh μ c s) (fun r => r = (some (some (mI (if 0 ≤ ((a).tdiv (10)) + 1 ∧ ((a).tdiv (10)) + 1 ≤ (μ 6 9) - 1 then 1 else 0))), mkh μ c s)) := c_X12_isIn (v := ((a).tdiv (10)) + 1) (lo := 0) (hi := (μ 6 9) - 1) (μ := μ) (c := c) (s := s); rw [if_neg hq39] at hz; exact hz) ?_
              show Rn PT none kX12_beside 50 [some (mR 118), some (mI (a)), some (mI (d)), some (mI (((a).tmod (10)) + (-1))), some (mI (((a).tdiv (10)) + 1))] [mI (0)] (mkh μ c s) _
              refine rn_if_eq (k' := 51) rfl rfl (fun hc41 => ?_) (fun hc41 => ?_)
              · skip
                refine rn_iconst (k' := 58) rfl rfl ?_
                refine rn_iret rfl (Or.inl rfl) ?_
                first | rfl | (refine congrArg (fun z => ((some (some (mI z)) : Option (Option MV)), mkh μ c s)) ?_; first | rfl | omega | (symm; first | (rw [if_pos (by omega)]; first | done | rfl | omega) | (rw [if_neg (by omega)]; first | done | rfl | omega)) | (symm; unfold g_tim; first | (rw [if_pos (by omega)]; first | done | rfl | omega) | (rw [if_neg (by omega)]; first | done | rfl | omega)) | (symm; unfold g_st; first | (rw [if_pos (by omega)]; first | done | rfl | omega) | (rw [if_neg (by omega)]; first | done | rfl | omega)) | (symm; unfold g_dep; first | (rw [if_pos (by omega)]; first | done | rfl | omega) | (rw [if_neg (by omega)]; first | done | rfl | omega)) | (symm; unfold g_nb; first | (rw [if_pos (by omega)]; first | done | rfl | omega) | (rw [if_neg (by omega)]; first | done | rfl | omega)) | ((try unfold g_st); (try unfold g_dep); (try unfold g_nb); (repeat' split) <;> omega) | (symm; (repeat (first | rw [if_pos (by omega)] | rw [if_neg (by omega)])); first | done | rfl | omega))
              · exfalso; omega
        · refine rn_callP (k' := 40) (y := 167) (vs := [mI (((a).tmod (10)) + (-1)), mI (0), mI ((μ 6 8) - 1)]) (S' := []) (v := some (mI 0)) (h' := mkh μ c s) rfl rfl rfl (by have hz : Cl PT 167 [mI (((a).tmod (10)) + (-1)), mI (0), mI ((μ 6 8) - 1)] (mkh μ c s) (fun r => r = (some (some (mI (if 0 ≤ ((a).tmod (10)) + (-1) ∧ ((a).tmod (10)) + (-1) ≤ (μ 6 8) - 1 then 1 else 0))), mkh μ c s)) := c_X12_isIn (v := ((a).tmod (10)) + (-1)) (lo := 0) (hi := (μ 6 8) - 1) (μ := μ) (c := c) (s := s); rw [if_neg hq37] at hz; exact hz) ?_
          show Rn PT none kX12_beside 40 [some (mR 118), some (mI (a)), some (mI (d)), some (mI (((a).tmod (10)) + (-1))), some (mI (((a).tdiv (10)) + 1))] [mI (0)] (mkh μ c s) _
          refine rn_if_eq (k' := 41) rfl rfl (fun hc42 => ?_) (fun hc42 => ?_)
          · skip
            refine rn_iconst (k' := 58) rfl rfl ?_
            refine rn_iret rfl (Or.inl rfl) ?_
            first | rfl | (refine congrArg (fun z => ((some (some (mI z)) : Option (Option MV)), mkh μ c s)) ?_; first | rfl | omega | (symm; first | (rw [if_pos (by omega)]; first | done | rfl | omega) | (rw [if_neg (by omega)]; first | done | rfl | omega)) | (symm; unfold g_tim; first | (rw [if_pos (by omega)]; first | done | rfl | omega) | (rw [if_neg (by omega)]; first | done | rfl | omega)) | (symm; unfold g_st; first | (rw [if_pos (by omega)]; first | done | rfl | omega) | (rw [if_neg (by omega)]; first | done | rfl | omega)) | (symm; unfold g_dep; first | (rw [if_pos (by omega)]; first | done | rfl | omega) | (rw [if_neg (by omega)]; first | done | rfl | omega)) | (symm; unfold g_nb; first | (rw [if_pos (by omega)]; first | done | rfl | omega) | (rw [if_neg (by omega)]; first | done | rfl | omega)) | ((try unfold g_st); (try unfold g_dep); (try unfold g_nb); (repeat' split) <;> omega) | (symm; (repeat (first | rw [if_pos (by omega)] | rw [if_neg (by omega)])); first | done | rfl | omega))
          · exfalso; omega
  · skip
    refine rn_iconst (k' := 7) rfl rfl ?_
    refine rn_goto rfl ?_
    refine rn_iadd (k' := 15) rfl rfl (by omega) ?_
    refine rn_istore_n (k' := 16) (L' := [some (mR 118), some (mI (a)), some (mI (d)), some (mI (((a).tmod (10)) + 1)), none]) rfl rfl (Nat.le_of_ble_eq_true rfl) rfl ?_
    refine rn_iload_n (k' := 17) rfl rfl rfl ?_
    refine rn_bipush (k' := 18) rfl rfl ?_
    refine rn_idiv (k' := 19) rfl rfl (by omega) (by omega) ?_
    refine rn_iload_n (k' := 20) rfl rfl rfl ?_
    refine rn_iconst (k' := 21) rfl rfl ?_
    refine rn_icmp_ne (k' := 22) rfl rfl (fun hc43 => ?_) (fun hc43 => ?_)
    · skip
      refine rn_iload_n (k' := 25) rfl rfl rfl ?_
      refine rn_if_ne (k' := 26) rfl rfl (fun hc44 => ?_) (fun hc44 => ?_)
      · skip
        refine rn_iconst (k' := 29) rfl rfl ?_
        refine rn_iadd (k' := 30) rfl rfl (by omega) ?_
        refine rn_istore (k' := 31) (L' := [some (mR 118), some (mI (a)), some (mI (d)), some (mI (((a).tmod (10)) + 1)), some (mI (((a).tdiv (10)) + 0))]) rfl rfl (Nat.le_of_ble_eq_true rfl) rfl ?_
        refine rn_iload_n (k' := 32) rfl rfl rfl ?_
        refine rn_iconst (k' := 33) rfl rfl ?_
        refine rn_aload_n (k' := 34) rfl rfl rfl ?_
        refine rn_getR (k' := 35) rfl rfl K0_118 (by decide) rfl R0_118_6 ?_
        refine rn_iconst (k' := 36) rfl rfl ?_
        refine rn_iaload (k' := 37) rfl rfl K0_120 (by omega) (by omega) ?_
        show Rn PT none kX12_beside 37 [some (mR 118), some (mI (a)), some (mI (d)), some (mI (((a).tmod (10)) + 1)), some (mI (((a).tdiv (10)) + 0))] [mI (μ 120 0), mI (0), mI (((a).tmod (10)) + 1)] (mkh μ c s) _
        rw [q0]
        refine rn_iconst (k' := 38) rfl rfl ?_
        refine rn_isub (k' := 39) rfl rfl (by omega) ?_
        by_cases hq45 : 0 ≤ ((a).tmod (10)) + 1 ∧ ((a).tmod (10)) + 1 ≤ (μ 6 8) - 1
        · refine rn_callP (k' := 40) (y := 167) (vs := [mI (((a).tmod (10)) + 1), mI (0), mI ((μ 6 8) - 1)]) (S' := []) (v := some (mI 1)) (h' := mkh μ c s) rfl rfl rfl (by have hz : Cl PT 167 [mI (((a).tmod (10)) + 1), mI (0), mI ((μ 6 8) - 1)] (mkh μ c s) (fun r => r = (some (some (mI (if 0 ≤ ((a).tmod (10)) + 1 ∧ ((a).tmod (10)) + 1 ≤ (μ 6 8) - 1 then 1 else 0))), mkh μ c s)) := c_X12_isIn (v := ((a).tmod (10)) + 1) (lo := 0) (hi := (μ 6 8) - 1) (μ := μ) (c := c) (s := s); rw [if_pos hq45] at hz; exact hz) ?_
          show Rn PT none kX12_beside 40 [some (mR 118), some (mI (a)), some (mI (d)), some (mI (((a).tmod (10)) + 1)), some (mI (((a).tdiv (10)) + 0))] [mI (1)] (mkh μ c s) _
          refine rn_if_eq (k' := 41) rfl rfl (fun hc46 => ?_) (fun hc46 => ?_)
          · exfalso; omega
          · skip
            refine rn_iload (k' := 42) rfl rfl rfl ?_
            refine rn_iconst (k' := 43) rfl rfl ?_
            refine rn_aload_n (k' := 44) rfl rfl rfl ?_
            refine rn_getR (k' := 45) rfl rfl K0_118 (by decide) rfl R0_118_6 ?_
            refine rn_iconst (k' := 46) rfl rfl ?_
            refine rn_iaload (k' := 47) rfl rfl K0_120 (by omega) (by omega) ?_
            show Rn PT none kX12_beside 47 [some (mR 118), some (mI (a)), some (mI (d)), some (mI (((a).tmod (10)) + 1)), some (mI (((a).tdiv (10)) + 0))] [mI (μ 120 1), mI (0), mI (((a).tdiv (10)) + 0)] (mkh μ c s) _
            rw [q1]
            refine rn_iconst (k' := 48) rfl rfl ?_
            refine rn_isub (k' := 49) rfl rfl (by omega) ?_
            by_cases hq47 : 0 ≤ ((a).tdiv (10)) + 0 ∧ ((a).tdiv (10)) + 0 ≤ (μ 6 9) - 1
            · refine rn_callP (k' := 50) (y := 167) (vs := [mI (((a).tdiv (10)) + 0), mI (0), mI ((μ 6 9) - 1)]) (S' := []) (v := some (mI 1)) (h' := mkh μ c s) rfl rfl rfl (by have hz : Cl PT 167 [mI (((a).tdiv (10)) + 0), mI (0), mI ((μ 6 9) - 1)] (mkh μ c s) (fun r => r = (some (some (mI (if 0 ≤ ((a).tdiv (10)) + 0 ∧ ((a).tdiv (10)) + 0 ≤ (μ 6 9) - 1 then 1 else 0))), mkh μ c s)) := c_X12_isIn (v := ((a).tdiv (10)) + 0) (lo := 0) (hi := (μ 6 9) - 1) (μ := μ) (c := c) (s := s); rw [if_pos hq47] at hz; exact hz) ?_
              show Rn PT none kX12_beside 50 [some (mR 118), some (mI (a)), some (mI (d)), some (mI (((a).tmod (10)) + 1)), some (mI (((a).tdiv (10)) + 0))] [mI (1)] (mkh μ c s) _
              refine rn_if_eq (k' := 51) rfl rfl (fun hc48 => ?_) (fun hc48 => ?_)
              · exfalso; omega
              · skip
                refine rn_bipush (k' := 52) rfl rfl ?_
                refine rn_iload (k' := 53) rfl rfl rfl ?_
                refine rn_imul (k' := 54) rfl rfl (by omega) ?_
                refine rn_iload_n (k' := 55) rfl rfl rfl ?_
                refine rn_iadd (k' := 56) rfl rfl (by omega) ?_
                refine rn_goto rfl ?_
                refine rn_iret rfl (Or.inl rfl) ?_
                first | rfl | (refine congrArg (fun z => ((some (some (mI z)) : Option (Option MV)), mkh μ c s)) ?_; first | rfl | omega | (symm; first | (rw [if_pos (by omega)]; first | done | rfl | omega) | (rw [if_neg (by omega)]; first | done | rfl | omega)) | (symm; unfold g_tim; first | (rw [if_pos (by omega)]; first | done | rfl | omega) | (rw [if_neg (by omega)]; first | done | rfl | omega)) | (symm; unfold g_st; first | (rw [if_pos (by omega)]; first | done | rfl | omega) | (rw [if_neg (by omega)]; first | done | rfl | omega)) | (symm; unfold g_dep; first | (rw [if_pos (by omega)]; first | done | rfl | omega) | (rw [if_neg (by omega)]; first | done | rfl | omega)) | (symm; unfold g_nb; first | (rw [if_pos (by omega)]; first | done | rfl | omega) | (rw [if_neg (by omega)]; first | done | rfl | omega)) | ((try unfold g_st); (try unfold g_dep); (try unfold g_nb); (repeat' split) <;> omega) | (symm; (repeat (first | rw [if_pos (by omega)] | rw [if_neg (by omega)])); first | done | rfl | omega))
            · refine rn_callP (k' := 50) (y := 167) (vs := [mI (((a).tdiv (10)) + 0), mI (0), mI ((μ 6 9) - 1)]) (S' := []) (v := some (mI 0)) (h' := mkh μ c s) rfl rfl rfl (by have hz : Cl PT 167 [mI (((a).tdiv (10)) + 0), mI (0), mI ((μ 6 9) - 1)] (mkh μ c s) (fun r => r = (some (some (mI (if 0 ≤ ((a).tdiv (10)) + 0 ∧ ((a).tdiv (10)) + 0 ≤ (μ 6 9) - 1 then 1 else 0))), mkh μ c s)) := c_X12_isIn (v := ((a).tdiv (10)) + 0) (lo := 0) (hi := (μ 6 9) - 1) (μ := μ) (c := c) (s := s); rw [if_neg hq47] at hz; exact hz) ?_
              show Rn PT none kX12_beside 50 [some (mR 118), some (mI (a)), some (mI (d)), some (mI (((a).tmod (10)) + 1)), some (mI (((a).tdiv (10)) + 0))] [mI (0)] (mkh μ c s) _
              refine rn_if_eq (k' := 51) rfl rfl (fun hc49 => ?_) (fun hc49 => ?_)
              · skip
                refine rn_iconst (k' := 58) rfl rfl ?_
                refine rn_iret rfl (Or.inl rfl) ?_
                first | rfl | (refine congrArg (fun z => ((some (some (mI z)) : Option (Option MV)), mkh μ c s)) ?_; first | rfl | omega | (symm; first | (rw [if_pos (by omega)]; first | done | rfl | omega) | (rw [if_neg (by omega)]; first | done | rfl | omega)) | (symm; unfold g_tim; first | (rw [if_pos (by omega)]; first | done | rfl | omega) | (rw [if_neg (by omega)]; first | done | rfl | omega)) | (symm; unfold g_st; first | (rw [if_pos (by omega)]; first | done | rfl | omega) | (rw [if_neg (by omega)]; first | done | rfl | omega)) | (symm; unfold g_dep; first | (rw [if_pos (by omega)]; first | done | rfl | omega) | (rw [if_neg (by omega)]; first | done | rfl | omega)) | (symm; unfold g_nb; first | (rw [if_pos (by omega)]; first | done | rfl | omega) | (rw [if_neg (by omega)]; first | done | rfl | omega)) | ((try unfold g_st); (try unfold g_dep); (try unfold g_nb); (repeat' split) <;> omega) | (symm; (repeat (first | rw [if_pos (by omega)] | rw [if_neg (by omega)])); first | done | rfl | omega))
              · exfalso; omega
        · refine rn_callP (k' := 40) (y := 167) (vs := [mI (((a).tmod (10)) + 1), mI (0), mI ((μ 6 8) - 1)]) (S' := []) (v := some (mI 0)) (h' := mkh μ c s) rfl rfl rfl (by have hz : Cl PT 167 [mI (((a).tmod (10)) + 1), mI (0), mI ((μ 6 8) - 1)] (mkh μ c s) (fun r => r = (some (some (mI (if 0 ≤ ((a).tmod (10)) + 1 ∧ ((a).tmod (10)) + 1 ≤ (μ 6 8) - 1 then 1 else 0))), mkh μ c s)) := c_X12_isIn (v := ((a).tmod (10)) + 1) (lo := 0) (hi := (μ 6 8) - 1) (μ := μ) (c := c) (s := s); rw [if_neg hq45] at hz; exact hz) ?_
          show Rn PT none kX12_beside 40 [some (mR 118), some (mI (a)), some (mI (d)), some (mI (((a).tmod (10)) + 1)), some (mI (((a).tdiv (10)) + 0))] [mI (0)] (mkh μ c s) _
          refine rn_if_eq (k' := 41) rfl rfl (fun hc50 => ?_) (fun hc50 => ?_)
          · skip
            refine rn_iconst (k' := 58) rfl rfl ?_
            refine rn_iret rfl (Or.inl rfl) ?_
            first | rfl | (refine congrArg (fun z => ((some (some (mI z)) : Option (Option MV)), mkh μ c s)) ?_; first | rfl | omega | (symm; first | (rw [if_pos (by omega)]; first | done | rfl | omega) | (rw [if_neg (by omega)]; first | done | rfl | omega)) | (symm; unfold g_tim; first | (rw [if_pos (by omega)]; first | done | rfl | omega) | (rw [if_neg (by omega)]; first | done | rfl | omega)) | (symm; unfold g_st; first | (rw [if_pos (by omega)]; first | done | rfl | omega) | (rw [if_neg (by omega)]; first | done | rfl | omega)) | (symm; unfold g_dep; first | (rw [if_pos (by omega)]; first | done | rfl | omega) | (rw [if_neg (by omega)]; first | done | rfl | omega)) | (symm; unfold g_nb; first | (rw [if_pos (by omega)]; first | done | rfl | omega) | (rw [if_neg (by omega)]; first | done | rfl | omega)) | ((try unfold g_st); (try unfold g_dep); (try unfold g_nb); (repeat' split) <;> omega) | (symm; (repeat (first | rw [if_pos (by omega)] | rw [if_neg (by omega)])); first | done | rfl | omega))
          · exfalso; omega
      · skip
        refine rn_iconst (k' := 27) rfl rfl ?_
        refine rn_goto rfl ?_
        refine rn_iadd (k' := 30) rfl rfl (by omega) ?_
        refine rn_istore (k' := 31) (L' := [some (mR 118), some (mI (a)), some (mI (d)), some (mI (((a).tmod (10)) + 1)), some (mI (((a).tdiv (10)) + (-1)))]) rfl rfl (Nat.le_of_ble_eq_true rfl) rfl ?_
        refine rn_iload_n (k' := 32) rfl rfl rfl ?_
        refine rn_iconst (k' := 33) rfl rfl ?_
        refine rn_aload_n (k' := 34) rfl rfl rfl ?_
        refine rn_getR (k' := 35) rfl rfl K0_118 (by decide) rfl R0_118_6 ?_
        refine rn_iconst (k' := 36) rfl rfl ?_
        refine rn_iaload (k' := 37) rfl rfl K0_120 (by omega) (by omega) ?_
        show Rn PT none kX12_beside 37 [some (mR 118), some (mI (a)), some (mI (d)), some (mI (((a).tmod (10)) + 1)), some (mI (((a).tdiv (10)) + (-1)))] [mI (μ 120 0), mI (0), mI (((a).tmod (10)) + 1)] (mkh μ c s) _
        rw [q0]
        refine rn_iconst (k' := 38) rfl rfl ?_
        refine rn_isub (k' := 39) rfl rfl (by omega) ?_
        by_cases hq51 : 0 ≤ ((a).tmod (10)) + 1 ∧ ((a).tmod (10)) + 1 ≤ (μ 6 8) - 1
        · refine rn_callP (k' := 40) (y := 167) (vs := [mI (((a).tmod (10)) + 1), mI (0), mI ((μ 6 8) - 1)]) (S' := []) (v := some (mI 1)) (h' := mkh μ c s) rfl rfl rfl (by have hz : Cl PT 167 [mI (((a).tmod (10)) + 1), mI (0), mI ((μ 6 8) - 1)] (mkh μ c s) (fun r => r = (some (some (mI (if 0 ≤ ((a).tmod (10)) + 1 ∧ ((a).tmod (10)) + 1 ≤ (μ 6 8) - 1 then 1 else 0))), mkh μ c s)) := c_X12_isIn (v := ((a).tmod (10)) + 1) (lo := 0) (hi := (μ 6 8) - 1) (μ := μ) (c := c) (s := s); rw [if_pos hq51] at hz; exact hz) ?_
          show Rn PT none kX12_beside 40 [some (mR 118), some (mI (a)), some (mI (d)), some (mI (((a).tmod (10)) + 1)), some (mI (((a).tdiv (10)) + (-1)))] [mI (1)] (mkh μ c s) _
          refine rn_if_eq (k' := 41) rfl rfl (fun hc52 => ?_) (fun hc52 => ?_)
          · exfalso; omega
          · skip
            refine rn_iload (k' := 42) rfl rfl rfl ?_
            refine rn_iconst (k' := 43) rfl rfl ?_
            refine rn_aload_n (k' := 44) rfl rfl rfl ?_
            refine rn_getR (k' := 45) rfl rfl K0_118 (by decide) rfl R0_118_6 ?_
            refine rn_iconst (k' := 46) rfl rfl ?_
            refine rn_iaload (k' := 47) rfl rfl K0_120 (by omega) (by omega) ?_
            show Rn PT none kX12_beside 47 [some (mR 118), some (mI (a)), some (mI (d)), some (mI (((a).tmod (10)) + 1)), some (mI (((a).tdiv (10)) + (-1)))] [mI (μ 120 1), mI (0), mI (((a).tdiv (10)) + (-1))] (mkh μ c s) _
            rw [q1]
            refine rn_iconst (k' := 48) rfl rfl ?_
            refine rn_isub (k' := 49) rfl rfl (by omega) ?_
            by_cases hq53 : 0 ≤ ((a).tdiv (10)) + (-1) ∧ ((a).tdiv (10)) + (-1) ≤ (μ 6 9) - 1
            · refine rn_callP (k' := 50) (y := 167) (vs := [mI (((a).tdiv (10)) + (-1)), mI (0), mI ((μ 6 9) - 1)]) (S' := []) (v := some (mI 1)) (h' := mkh μ c s) rfl rfl rfl (by have hz : Cl PT 167 [mI (((a).tdiv (10)) + (-1)), mI (0), mI ((μ 6 9) - 1)] (mkh μ c s) (fun r => r = (some (some (mI (if 0 ≤ ((a).tdiv (10)) + (-1) ∧ ((a).tdiv (10)) + (-1) ≤ (μ 6 9) - 1 then 1 else 0))), mkh μ c s)) := c_X12_isIn (v := ((a).tdiv (10)) + (-1)) (lo := 0) (hi := (μ 6 9) - 1) (μ := μ) (c := c) (s := s); rw [if_pos hq53] at hz; exact hz) ?_
              show Rn PT none kX12_beside 50 [some (mR 118), some (mI (a)), some (mI (d)), some (mI (((a).tmod (10)) + 1)), some (mI (((a).tdiv (10)) + (-1)))] [mI (1)] (mkh μ c s) _
              refine rn_if_eq (k' := 51) rfl rfl (fun hc54 => ?_) (fun hc54 => ?_)
              · exfalso; omega
              · skip
                refine rn_bipush (k' := 52) rfl rfl ?_
                refine rn_iload (k' := 53) rfl rfl rfl ?_
                refine rn_imul (k' := 54) rfl rfl (by omega) ?_
                refine rn_iload_n (k' := 55) rfl rfl rfl ?_
                refine rn_iadd (k' := 56) rfl rfl (by omega) ?_
                refine rn_goto rfl ?_
                refine rn_iret rfl (Or.inl rfl) ?_
                first | rfl | (refine congrArg (fun z => ((some (some (mI z)) : Option (Option MV)), mkh μ c s)) ?_; first | rfl | omega | (symm; first | (rw [if_pos (by omega)]; first | done | rfl | omega) | (rw [if_neg (by omega)]; first | done | rfl | omega)) | (symm; unfold g_tim; first | (rw [if_pos (by omega)]; first | done | rfl | omega) | (rw [if_neg (by omega)]; first | done | rfl | omega)) | (symm; unfold g_st; first | (rw [if_pos (by omega)]; first | done | rfl | omega) | (rw [if_neg (by omega)]; first | done | rfl | omega)) | (symm; unfold g_dep; first | (rw [if_pos (by omega)]; first | done | rfl | omega) | (rw [if_neg (by omega)]; first | done | rfl | omega)) | (symm; unfold g_nb; first | (rw [if_pos (by omega)]; first | done | rfl | omega) | (rw [if_neg (by omega)]; first | done | rfl | omega)) | ((try unfold g_st); (try unfold g_dep); (try unfold g_nb); (repeat' split) <;> omega) | (symm; (repeat (first | rw [if_pos (by omega)] | rw [if_neg (by omega)])); first | done | rfl | omega))
            · refine rn_callP (k' := 50) (y := 167) (vs := [mI (((a).tdiv (10)) + (-1)), mI (0), mI ((μ 6 9) - 1)]) (S' := []) (v := some (mI 0)) (h' := mkh μ c s) rfl rfl rfl (by have hz : Cl PT 167 [mI (((a).tdiv (10)) + (-1)), mI (0), mI ((μ 6 9) - 1)] (mkh μ c s) (fun r => r = (some (some (mI (if 0 ≤ ((a).tdiv (10)) + (-1) ∧ ((a).tdiv (10)) + (-1) ≤ (μ 6 9) - 1 then 1 else 0))), mkh μ c s)) := c_X12_isIn (v := ((a).tdiv (10)) + (-1)) (lo := 0) (hi := (μ 6 9) - 1) (μ := μ) (c := c) (s := s); rw [if_neg hq53] at hz; exact hz) ?_
              show Rn PT none kX12_beside 50 [some (mR 118), some (mI (a)), some (mI (d)), some (mI (((a).tmod (10)) + 1)), some (mI (((a).tdiv (10)) + (-1)))] [mI (0)] (mkh μ c s) _
              refine rn_if_eq (k' := 51) rfl rfl (fun hc55 => ?_) (fun hc55 => ?_)
              · skip
                refine rn_iconst (k' := 58) rfl rfl ?_
                refine rn_iret rfl (Or.inl rfl) ?_
                first | rfl | (refine congrArg (fun z => ((some (some (mI z)) : Option (Option MV)), mkh μ c s)) ?_; first | rfl | omega | (symm; first | (rw [if_pos (by omega)]; first | done | rfl | omega) | (rw [if_neg (by omega)]; first | done | rfl | omega)) | (symm; unfold g_tim; first | (rw [if_pos (by omega)]; first | done | rfl | omega) | (rw [if_neg (by omega)]; first | done | rfl | omega)) | (symm; unfold g_st; first | (rw [if_pos (by omega)]; first | done | rfl | omega) | (rw [if_neg (by omega)]; first | done | rfl | omega)) | (symm; unfold g_dep; first | (rw [if_pos (by omega)]; first | done | rfl | omega) | (rw [if_neg (by omega)]; first | done | rfl | omega)) | (symm; unfold g_nb; first | (rw [if_pos (by omega)]; first | done | rfl | omega) | (rw [if_neg (by omega)]; first | done | rfl | omega)) | ((try unfold g_st); (try unfold g_dep); (try unfold g_nb); (repeat' split) <;> omega) | (symm; (repeat (first | rw [if_pos (by omega)] | rw [if_neg (by omega)])); first | done | rfl | omega))
              · exfalso; omega
        · refine rn_callP (k' := 40) (y := 167) (vs := [mI (((a).tmod (10)) + 1), mI (0), mI ((μ 6 8) - 1)]) (S' := []) (v := some (mI 0)) (h' := mkh μ c s) rfl rfl rfl (by have hz : Cl PT 167 [mI (((a).tmod (10)) + 1), mI (0), mI ((μ 6 8) - 1)] (mkh μ c s) (fun r => r = (some (some (mI (if 0 ≤ ((a).tmod (10)) + 1 ∧ ((a).tmod (10)) + 1 ≤ (μ 6 8) - 1 then 1 else 0))), mkh μ c s)) := c_X12_isIn (v := ((a).tmod (10)) + 1) (lo := 0) (hi := (μ 6 8) - 1) (μ := μ) (c := c) (s := s); rw [if_neg hq51] at hz; exact hz) ?_
          show Rn PT none kX12_beside 40 [some (mR 118), some (mI (a)), some (mI (d)), some (mI (((a).tmod (10)) + 1)), some (mI (((a).tdiv (10)) + (-1)))] [mI (0)] (mkh μ c s) _
          refine rn_if_eq (k' := 41) rfl rfl (fun hc56 => ?_) (fun hc56 => ?_)
          · skip
            refine rn_iconst (k' := 58) rfl rfl ?_
            refine rn_iret rfl (Or.inl rfl) ?_
            first | rfl | (refine congrArg (fun z => ((some (some (mI z)) : Option (Option MV)), mkh μ c s)) ?_; first | rfl | omega | (symm; first | (rw [if_pos (by omega)]; first | done | rfl | omega) | (rw [if_neg (by omega)]; first | done | rfl | omega)) | (symm; unfold g_tim; first | (rw [if_pos (by omega)]; first | done | rfl | omega) | (rw [if_neg (by omega)]; first | done | rfl | omega)) | (symm; unfold g_st; first | (rw [if_pos (by omega)]; first | done | rfl | omega) | (rw [if_neg (by omega)]; first | done | rfl | omega)) | (symm; unfold g_dep; first | (rw [if_pos (by omega)]; first | done | rfl | omega) | (rw [if_neg (by omega)]; first | done | rfl | omega)) | (symm; unfold g_nb; first | (rw [if_pos (by omega)]; first | done | rfl | omega) | (rw [if_neg (by omega)]; first | done | rfl | omega)) | ((try unfold g_st); (try unfold g_dep); (try unfold g_nb); (repeat' split) <;> omega) | (symm; (repeat (first | rw [if_pos (by omega)] | rw [if_neg (by omega)])); first | done | rfl | omega))
          · exfalso; omega
    · skip
      refine rn_iconst (k' := 23) rfl rfl ?_
      refine rn_goto rfl ?_
      refine rn_iadd (k' := 30) rfl rfl (by omega) ?_
      refine rn_istore (k' := 31) (L' := [some (mR 118), some (mI (a)), some (mI (d)), some (mI (((a).tmod (10)) + 1)), some (mI (((a).tdiv (10)) + 1))]) rfl rfl (Nat.le_of_ble_eq_true rfl) rfl ?_
      refine rn_iload_n (k' := 32) rfl rfl rfl ?_
      refine rn_iconst (k' := 33) rfl rfl ?_
      refine rn_aload_n (k' := 34) rfl rfl rfl ?_
      refine rn_getR (k' := 35) rfl rfl K0_118 (by decide) rfl R0_118_6 ?_
      refine rn_iconst (k' := 36) rfl rfl ?_
      refine rn_iaload (k' := 37) rfl rfl K0_120 (by omega) (by omega) ?_
      show Rn PT none kX12_beside 37 [some (mR 118), some (mI (a)), some (mI (d)), some (mI (((a).tmod (10)) + 1)), some (mI (((a).tdiv (10)) + 1))] [mI (μ 120 0), mI (0), mI (((a).tmod (10)) + 1)] (mkh μ c s) _
      rw [q0]
      refine rn_iconst (k' := 38) rfl rfl ?_
      refine rn_isub (k' := 39) rfl rfl (by omega) ?_
      by_cases hq57 : 0 ≤ ((a).tmod (10)) + 1 ∧ ((a).tmod (10)) + 1 ≤ (μ 6 8) - 1
      · refine rn_callP (k' := 40) (y := 167) (vs := [mI (((a).tmod (10)) + 1), mI (0), mI ((μ 6 8) - 1)]) (S' := []) (v := some (mI 1)) (h' := mkh μ c s) rfl rfl rfl (by have hz : Cl PT 167 [mI (((a).tmod (10)) + 1), mI (0), mI ((μ 6 8) - 1)] (mkh μ c s) (fun r => r = (some (some (mI (if 0 ≤ ((a).tmod (10)) + 1 ∧ ((a).tmod (10)) + 1 ≤ (μ 6 8) - 1 then 1 else 0))), mkh μ c s)) := c_X12_isIn (v := ((a).tmod (10)) + 1) (lo := 0) (hi := (μ 6 8) - 1) (μ := μ) (c := c) (s := s); rw [if_pos hq57] at hz; exact hz) ?_
        show Rn PT none kX12_beside 40 [some (mR 118), some (mI (a)), some (mI (d)), some (mI (((a).tmod (10)) + 1)), some (mI (((a).tdiv (10)) + 1))] [mI (1)] (mkh μ c s) _
        refine rn_if_eq (k' := 41) rfl rfl (fun hc58 => ?_) (fun hc58 => ?_)
        · exfalso; omega
        · skip
          refine rn_iload (k' := 42) rfl rfl rfl ?_
          refine rn_iconst (k' := 43) rfl rfl ?_
          refine rn_aload_n (k' := 44) rfl rfl rfl ?_
          refine rn_getR (k' := 45) rfl rfl K0_118 (by decide) rfl R0_118_6 ?_
          refine rn_iconst (k' := 46) rfl rfl ?_
          refine rn_iaload (k' := 47) rfl rfl K0_120 (by omega) (by omega) ?_
          show Rn PT none kX12_beside 47 [some (mR 118), some (mI (a)), some (mI (d)), some (mI (((a).tmod (10)) + 1)), some (mI (((a).tdiv (10)) + 1))] [mI (μ 120 1), mI (0), mI (((a).tdiv (10)) + 1)] (mkh μ c s) _
          rw [q1]
          refine rn_iconst (k' := 48) rfl rfl ?_
          refine rn_isub (k' := 49) rfl rfl (by omega) ?_
          by_cases hq59 : 0 ≤ ((a).tdiv (10)) + 1 ∧ ((a).tdiv (10)) + 1 ≤ (μ 6 9) - 1
          · refine rn_callP (k' := 50) (y := 167) (vs := [mI (((a).tdiv (10)) + 1), mI (0), mI ((μ 6 9) - 1)]) (S' := []) (v := some (mI 1)) (h' := mkh μ c s) rfl rfl rfl (by have hz : Cl PT 167 [mI (((a).tdiv (10)) + 1), mI (0), mI ((μ 6 9) - 1)] (mkh μ c s) (fun r => r = (some (some (mI (if 0 ≤ ((a).tdiv (10)) + 1 ∧ ((a).tdiv (10)) + 1 ≤ (μ 6 9) - 1 then 1 else 0))), mkh μ c s)) := c_X12_isIn (v := ((a).tdiv (10)) + 1) (lo := 0) (hi := (μ 6 9) - 1) (μ := μ) (c := c) (s := s); rw [if_pos hq59] at hz; exact hz) ?_
            show Rn PT none kX12_beside 50 [some (mR 118), some (mI (a)), some (mI (d)), some (mI (((a).tmod (10)) + 1)), some (mI (((a).tdiv (10)) + 1))] [mI (1)] (mkh μ c s) _
            refine rn_if_eq (k' := 51) rfl rfl (fun hc60 => ?_) (fun hc60 => ?_)
            · exfalso; omega
            · skip
              refine rn_bipush (k' := 52) rfl rfl ?_
              refine rn_iload (k' := 53) rfl rfl rfl ?_
              refine rn_imul (k' := 54) rfl rfl (by omega) ?_
              refine rn_iload_n (k' := 55) rfl rfl rfl ?_
              refine rn_iadd (k' := 56) rfl rfl (by omega) ?_
              refine rn_goto rfl ?_
              refine rn_iret rfl (Or.inl rfl) ?_
              first | rfl | (refine congrArg (fun z => ((some (some (mI z)) : Option (Option MV)), mkh μ c s)) ?_; first | rfl | omega | (symm; first | (rw [if_pos (by omega)]; first | done | rfl | omega) | (rw [if_neg (by omega)]; first | done | rfl | omega)) | (symm; unfold g_tim; first | (rw [if_pos (by omega)]; first | done | rfl | omega) | (rw [if_neg (by omega)]; first | done | rfl | omega)) | (symm; unfold g_st; first | (rw [if_pos (by omega)]; first | done | rfl | omega) | (rw [if_neg (by omega)]; first | done | rfl | omega)) | (symm; unfold g_dep; first | (rw [if_pos (by omega)]; first | done | rfl | omega) | (rw [if_neg (by omega)]; first | done | rfl | omega)) | (symm; unfold g_nb; first | (rw [if_pos (by omega)]; first | done | rfl | omega) | (rw [if_neg (by omega)]; first | done | rfl | omega)) | ((try unfold g_st); (try unfold g_dep); (try unfold g_nb); (repeat' split) <;> omega) | (symm; (repeat (first | rw [if_pos (by omega)] | rw [if_neg (by omega)])); first | done | rfl | omega))
          · refine rn_callP (k' := 50) (y := 167) (vs := [mI (((a).tdiv (10)) + 1), mI (0), mI ((μ 6 9) - 1)]) (S' := []) (v := some (mI 0)) (h' := mkh μ c s) rfl rfl rfl (by have hz : Cl PT 167 [mI (((a).tdiv (10)) + 1), mI (0), mI ((μ 6 9) - 1)] (mkh μ c s) (fun r => r = (some (some (mI (if 0 ≤ ((a).tdiv (10)) + 1 ∧ ((a).tdiv (10)) + 1 ≤ (μ 6 9) - 1 then 1 else 0))), mkh μ c s)) := c_X12_isIn (v := ((a).tdiv (10)) + 1) (lo := 0) (hi := (μ 6 9) - 1) (μ := μ) (c := c) (s := s); rw [if_neg hq59] at hz; exact hz) ?_
            show Rn PT none kX12_beside 50 [some (mR 118), some (mI (a)), some (mI (d)), some (mI (((a).tmod (10)) + 1)), some (mI (((a).tdiv (10)) + 1))] [mI (0)] (mkh μ c s) _
            refine rn_if_eq (k' := 51) rfl rfl (fun hc61 => ?_) (fun hc61 => ?_)
            · skip
              refine rn_iconst (k' := 58) rfl rfl ?_
              refine rn_iret rfl (Or.inl rfl) ?_
              first | rfl | (refine congrArg (fun z => ((some (some (mI z)) : Option (Option MV)), mkh μ c s)) ?_; first | rfl | omega | (symm; first | (rw [if_pos (by omega)]; first | done | rfl | omega) | (rw [if_neg (by omega)]; first | done | rfl | omega)) | (symm; unfold g_tim; first | (rw [if_pos (by omega)]; first | done | rfl | omega) | (rw [if_neg (by omega)]; first | done | rfl | omega)) | (symm; unfold g_st; first | (rw [if_pos (by omega)]; first | done | rfl | omega) | (rw [if_neg (by omega)]; first | done | rfl | omega)) | (symm; unfold g_dep; first | (rw [if_pos (by omega)]; first | done | rfl | omega) | (rw [if_neg (by omega)]; first | done | rfl | omega)) | (symm; unfold g_nb; first | (rw [if_pos (by omega)]; first | done | rfl | omega) | (rw [if_neg (by omega)]; first | done | rfl | omega)) | ((try unfold g_st); (try unfold g_dep); (try unfold g_nb); (repeat' split) <;> omega) | (symm; (repeat (first | rw [if_pos (by omega)] | rw [if_neg (by omega)])); first | done | rfl | omega))
            · exfalso; omega
      · refine rn_callP (k' := 40) (y := 167) (vs := [mI (((a).tmod (10)) + 1), mI (0), mI ((μ 6 8) - 1)]) (S' := []) (v := some (mI 0)) (h' := mkh μ c s) rfl rfl rfl (by have hz : Cl PT 167 [mI (((a).tmod (10)) + 1), mI (0), mI ((μ 6 8) - 1)] (mkh μ c s) (fun r => r = (some (some (mI (if 0 ≤ ((a).tmod (10)) + 1 ∧ ((a).tmod (10)) + 1 ≤ (μ 6 8) - 1 then 1 else 0))), mkh μ c s)) := c_X12_isIn (v := ((a).tmod (10)) + 1) (lo := 0) (hi := (μ 6 8) - 1) (μ := μ) (c := c) (s := s); rw [if_neg hq57] at hz; exact hz) ?_
        show Rn PT none kX12_beside 40 [some (mR 118), some (mI (a)), some (mI (d)), some (mI (((a).tmod (10)) + 1)), some (mI (((a).tdiv (10)) + 1))] [mI (0)] (mkh μ c s) _
        refine rn_if_eq (k' := 41) rfl rfl (fun hc62 => ?_) (fun hc62 => ?_)
        · skip
          refine rn_iconst (k' := 58) rfl rfl ?_
          refine rn_iret rfl (Or.inl rfl) ?_
          first | rfl | (refine congrArg (fun z => ((some (some (mI z)) : Option (Option MV)), mkh μ c s)) ?_; first | rfl | omega | (symm; first | (rw [if_pos (by omega)]; first | done | rfl | omega) | (rw [if_neg (by omega)]; first | done | rfl | omega)) | (symm; unfold g_tim; first | (rw [if_pos (by omega)]; first | done | rfl | omega) | (rw [if_neg (by omega)]; first | done | rfl | omega)) | (symm; unfold g_st; first | (rw [if_pos (by omega)]; first | done | rfl | omega) | (rw [if_neg (by omega)]; first | done | rfl | omega)) | (symm; unfold g_dep; first | (rw [if_pos (by omega)]; first | done | rfl | omega) | (rw [if_neg (by omega)]; first | done | rfl | omega)) | (symm; unfold g_nb; first | (rw [if_pos (by omega)]; first | done | rfl | omega) | (rw [if_neg (by omega)]; first | done | rfl | omega)) | ((try unfold g_st); (try unfold g_dep); (try unfold g_nb); (repeat' split) <;> omega) | (symm; (repeat (first | rw [if_pos (by omega)] | rw [if_neg (by omega)])); first | done | rfl | omega))
        · exfalso; omega
theorem l_fill {μ : Nat → Nat → Int} {c s a N : Nat} {v : Int} (hK : K0[a]? = some (100, N)) (hN : N < 2147483648) : ∀ (d n : Nat) (k : Int), k = (n : Int) → n + d = N → Rn PT none kJ7_fill_53178 5 [some (mR a), some (mI v), some (mI k), some (mI (N : Int))] [] (mkh (m_upd μ a (fl (fun _ => v) (μ a) n)) c s) (fun r => r = (some none, mkh (m_upd μ a (fl (fun _ => v) (μ a) N)) c s)) := by
  intro d
  induction d with
  | zero =>
    intro n k ek hn
    subst ek
    refine rn_iload_n (k' := 6) rfl rfl rfl ?_
    refine rn_iload_n (k' := 7) rfl rfl rfl ?_
    refine rn_icmp_ge (k' := 8) rfl rfl (fun hc => ?_) (fun hc => ?_)
    · refine rn_vret rfl ?_
      rw [show N = n by omega]
    · exfalso; omega
  | succ d ih =>
    intro n k ek hn
    subst ek
    refine rn_iload_n (k' := 6) rfl rfl rfl ?_
    refine rn_iload_n (k' := 7) rfl rfl rfl ?_
    refine rn_icmp_ge (k' := 8) rfl rfl (fun hc => ?_) (fun hc => ?_)
    · exfalso; omega
    · refine rn_aload_n (k' := 9) rfl rfl rfl ?_
      refine rn_iload_n (k' := 10) rfl rfl rfl ?_
      refine rn_iload_n (k' := 11) rfl rfl rfl ?_
      refine rn_iastore (k' := 12) rfl rfl hK (by omega) (by omega) ?_
      refine rn_iinc (k' := 13) (L' := [some (mR a), some (mI v), some (mI ((n : Int) + 1)), some (mI (N : Int))]) rfl rfl rfl (by omega) rfl ?_
      refine rn_goto rfl ?_
      show Rn PT none kJ7_fill_53178 5 _ _ (mkh (m_set (m_upd μ a (fl (fun _ => v) (μ a) n)) a n v) c s) _
      rw [fl_st rfl]
      exact ih (n + 1) _ (by omega) (by omega)
theorem c_fill {μ : Nat → Nat → Int} {c s a N : Nat} {v : Int} (hK : K0[a]? = some (100, N)) (hN : N < 2147483648) : Cl PT 275 [mR a, mI v] (mkh μ c s) (fun r => r = (some none, mkh (m_upd μ a (fl (fun _ => v) (μ a) N)) c s)) := by
  refine ⟨_, PT_275, Nat.le_of_ble_eq_true rfl, ?_⟩
  show Rn PT none kJ7_fill_53178 0 [some (mR a), some (mI v), none, none] [] (mkh μ c s) _
  refine rn_iconst (k' := 1) rfl rfl ?_
  refine rn_istore_n (k' := 2) (L' := [some (mR a), some (mI v), some (mI 0), none]) rfl rfl (Nat.le_of_ble_eq_true rfl) rfl ?_
  refine rn_aload_n (k' := 3) rfl rfl rfl ?_
  refine rn_alen (k' := 4) rfl rfl hK ⟨by decide, hN⟩ ?_
  refine rn_istore_n (k' := 5) (L' := [some (mR a), some (mI v), some (mI 0), some (mI (N : Int))]) rfl rfl (Nat.le_of_ble_eq_true rfl) rfl ?_
  have h := l_fill (μ := μ) (c := c) (s := s) (v := v) hK hN N 0 0 rfl (by omega)
  rw [fl_0] at h
  exact h
set_option maxHeartbeats 4000000 in
theorem l_X10_openFor {μ : Nat → Nat → Int} {c s : Nat} (hL : I_land μ) {t w : Int} (hw : 0 ≤ w ∧ w ≤ 1000) : ∀ (d n : Nat) (k : Int), k = (n : Int) → (n : Int) + d = 10 * μ 6 9 → Rn PT none kX10_openFor 2 [some (mR 66), some (mI (t)), some (mI (w)), some (mI (k))] [] (mkh (m_upd μ 67 (fl (fun j : Nat => if g_stand μ (j : Int) t w then 1 else 0) (μ 67) n)) c s) (fun r => r = (some none, mkh ((m_upd μ 67 (fl (fun j : Nat => if g_stand μ (j : Int) t w then 1 else 0) (μ 67) (10 * μ 6 9).toNat))) c s)) := by
  have hL_ := hL
  obtain ⟨lc, lr, le, lm, lw, lh, lwo, lwd, q0, q1, q2, q3, q4, q8, q499, q500, lth, lG, lT, lW, -⟩ := hL_
  intro d
  induction d with
  | zero =>
    intro n k  ek hn
    subst ek
    refine rn_iload_n (k' := 3) rfl rfl rfl ?_
    refine rn_aload_n (k' := 4) rfl rfl rfl ?_
    refine rn_getR (k' := 5) rfl rfl K0_66 (by decide) rfl R0_66_0 ?_
    refine rn_callP (k' := 6) (y := 29) (vs := [mR 6]) (S' := [mI ((n : Int))]) (v := some (mI (10 * μ 6 9))) (h' := mkh (m_upd μ 67 (fl (fun j : Nat => if g_stand μ (j : Int) t w then 1 else 0) (μ 67) n)) c s) rfl rfl rfl (c_X3_span (by show 0 ≤ μ 6 9 ∧ μ 6 9 ≤ 10; omega)) ?_
    show Rn PT none kX10_openFor 6 [some (mR 66), some (mI (t)), some (mI (w)), some (mI ((n : Int)))] [mI (10 * μ 6 9), mI ((n : Int))] (mkh (m_upd μ 67 (fl (fun j : Nat => if g_stand μ (j : Int) t w then 1 else 0) (μ 67) n)) c s) _
    refine rn_icmp_ge (k' := 7) rfl rfl (fun hc1 => ?_) (fun hc1 => ?_)
    · skip
      refine rn_vret rfl ?_
      rw [show (10 * μ 6 9).toNat = n by omega]
    · exfalso; omega
  | succ d ih =>
    intro n k  ek hn
    subst ek
    refine rn_iload_n (k' := 3) rfl rfl rfl ?_
    refine rn_aload_n (k' := 4) rfl rfl rfl ?_
    refine rn_getR (k' := 5) rfl rfl K0_66 (by decide) rfl R0_66_0 ?_
    refine rn_callP (k' := 6) (y := 29) (vs := [mR 6]) (S' := [mI ((n : Int))]) (v := some (mI (10 * μ 6 9))) (h' := mkh (m_upd μ 67 (fl (fun j : Nat => if g_stand μ (j : Int) t w then 1 else 0) (μ 67) n)) c s) rfl rfl rfl (c_X3_span (by show 0 ≤ μ 6 9 ∧ μ 6 9 ≤ 10; omega)) ?_
    show Rn PT none kX10_openFor 6 [some (mR 66), some (mI (t)), some (mI (w)), some (mI ((n : Int)))] [mI (10 * μ 6 9), mI ((n : Int))] (mkh (m_upd μ 67 (fl (fun j : Nat => if g_stand μ (j : Int) t w then 1 else 0) (μ 67) n)) c s) _
    refine rn_icmp_ge (k' := 7) rfl rfl (fun hc1 => ?_) (fun hc1 => ?_)
    · exfalso; omega
    · skip
      refine rn_aload_n (k' := 8) rfl rfl rfl ?_
      refine rn_getR (k' := 9) rfl rfl K0_66 (by decide) rfl R0_66_1 ?_
      refine rn_iload_n (k' := 10) rfl rfl rfl ?_
      refine rn_aload_n (k' := 11) rfl rfl rfl ?_
      refine rn_getR (k' := 12) rfl rfl K0_66 (by decide) rfl R0_66_0 ?_
      refine rn_iload_n (k' := 13) rfl rfl rfl ?_
      refine rn_iload_n (k' := 14) rfl rfl rfl ?_
      refine rn_iload_n (k' := 15) rfl rfl rfl ?_
      by_cases hq2 : g_stand μ (n : Int) t w
      · refine rn_callP (k' := 16) (y := 36) (vs := [mR 6, mI ((n : Int)), mI (t), mI (w)]) (S' := [mI ((n : Int)), mR 67]) (v := some (mI 1)) (h' := mkh (m_upd μ 67 (fl (fun j : Nat => if g_stand μ (j : Int) t w then 1 else 0) (μ 67) n)) c s) rfl rfl rfl (by have hz : Cl PT 36 [mR 6, mI ((n : Int)), mI (t), mI (w)] (mkh (m_upd μ 67 (fl (fun j : Nat => if g_stand μ (j : Int) t w then 1 else 0) (μ 67) n)) c s) (fun r => r = (some (some (mI (if g_stand μ (n : Int) t w then 1 else 0))), mkh (m_upd μ 67 (fl (fun j : Nat => if g_stand μ (j : Int) t w then 1 else 0) (μ 67) n)) c s)) := k_canStand ((hL).upd rfl) (a := (n : Int)) (t := t) (w := w) (by omega) (by omega) (μ := (m_upd μ 67 (fl (fun j : Nat => if g_stand μ (j : Int) t w then 1 else 0) (μ 67) n))) (c := c) (s := s); rw [if_pos hq2] at hz; exact hz) ?_
        show Rn PT none kX10_openFor 16 [some (mR 66), some (mI (t)), some (mI (w)), some (mI ((n : Int)))] [mI (1), mI ((n : Int)), mR 67] (mkh (m_upd μ 67 (fl (fun j : Nat => if g_stand μ (j : Int) t w then 1 else 0) (μ 67) n)) c s) _
        refine rn_zastore (k' := 17) rfl rfl K0_67 (by omega) (by omega) (by omega) ?_
        refine rn_iinc (k' := 18) (L' := [some (mR 66), some (mI (t)), some (mI (w)), some (mI ((n : Int) + 1))]) rfl rfl rfl (by omega) rfl ?_
        refine rn_goto rfl ?_
        show Rn PT none kX10_openFor 2 [some (mR 66), some (mI (t)), some (mI (w)), some (mI ((n : Int) + 1))] [] (mkh (m_set (m_upd μ 67 (fl (fun j : Nat => if g_stand μ (j : Int) t w then 1 else 0) (μ 67) n)) 67 n (1)) c s) _
        rw [fl_st (n := n) (g := fun j : Nat => if g_stand μ (j : Int) t w then 1 else 0) (by show (1 : Int) = if _ then _ else _; first | rw [if_pos (by assumption)] | rw [if_neg (by assumption)])]
        exact ih (n + 1) _ (by omega) (by omega)
      · refine rn_callP (k' := 16) (y := 36) (vs := [mR 6, mI ((n : Int)), mI (t), mI (w)]) (S' := [mI ((n : Int)), mR 67]) (v := some (mI 0)) (h' := mkh (m_upd μ 67 (fl (fun j : Nat => if g_stand μ (j : Int) t w then 1 else 0) (μ 67) n)) c s) rfl rfl rfl (by have hz : Cl PT 36 [mR 6, mI ((n : Int)), mI (t), mI (w)] (mkh (m_upd μ 67 (fl (fun j : Nat => if g_stand μ (j : Int) t w then 1 else 0) (μ 67) n)) c s) (fun r => r = (some (some (mI (if g_stand μ (n : Int) t w then 1 else 0))), mkh (m_upd μ 67 (fl (fun j : Nat => if g_stand μ (j : Int) t w then 1 else 0) (μ 67) n)) c s)) := k_canStand ((hL).upd rfl) (a := (n : Int)) (t := t) (w := w) (by omega) (by omega) (μ := (m_upd μ 67 (fl (fun j : Nat => if g_stand μ (j : Int) t w then 1 else 0) (μ 67) n))) (c := c) (s := s); rw [if_neg hq2] at hz; exact hz) ?_
        show Rn PT none kX10_openFor 16 [some (mR 66), some (mI (t)), some (mI (w)), some (mI ((n : Int)))] [mI (0), mI ((n : Int)), mR 67] (mkh (m_upd μ 67 (fl (fun j : Nat => if g_stand μ (j : Int) t w then 1 else 0) (μ 67) n)) c s) _
        refine rn_zastore (k' := 17) rfl rfl K0_67 (by omega) (by omega) (by omega) ?_
        refine rn_iinc (k' := 18) (L' := [some (mR 66), some (mI (t)), some (mI (w)), some (mI ((n : Int) + 1))]) rfl rfl rfl (by omega) rfl ?_
        refine rn_goto rfl ?_
        show Rn PT none kX10_openFor 2 [some (mR 66), some (mI (t)), some (mI (w)), some (mI ((n : Int) + 1))] [] (mkh (m_set (m_upd μ 67 (fl (fun j : Nat => if g_stand μ (j : Int) t w then 1 else 0) (μ 67) n)) 67 n (0)) c s) _
        rw [fl_st (n := n) (g := fun j : Nat => if g_stand μ (j : Int) t w then 1 else 0) (by show (0 : Int) = if _ then _ else _; first | rw [if_pos (by assumption)] | rw [if_neg (by assumption)])]
        exact ih (n + 1) _ (by omega) (by omega)
set_option maxHeartbeats 2000000 in
theorem c_X10_openFor {μ : Nat → Nat → Int} {c s : Nat} (hL : I_land μ) {t w : Int} (hw : 0 ≤ w ∧ w ≤ 1000) : Cl PT 87 [mR 66, mI t, mI w] (mkh μ c s) (fun r => r = (some none, mkh ((m_upd μ 67 (fl (fun j : Nat => if g_stand μ (j : Int) t w then 1 else 0) (μ 67) (10 * μ 6 9).toNat))) c s)) := by
  have hL_ := hL
  obtain ⟨lc, lr, le, lm, lw, lh, lwo, lwd, q0, q1, q2, q3, q4, q8, q499, q500, lth, lG, lT, lW, -⟩ := hL_
  refine ⟨_, PT_87, Nat.le_of_ble_eq_true rfl, ?_⟩
  show Rn PT none kX10_openFor 0 [some (mR 66), some (mI (t)), some (mI (w)), none] [] (mkh μ c s) _
  refine rn_iconst (k' := 1) rfl rfl ?_
  refine rn_istore_n (k' := 2) (L' := [some (mR 66), some (mI (t)), some (mI (w)), some (mI (0))]) rfl rfl (Nat.le_of_ble_eq_true rfl) rfl ?_
  have h := l_X10_openFor (c := c) (s := s) hL (t := t) (w := w) hw (10 * μ 6 9).toNat 0 0 rfl (by omega)
  rw [fl_0] at h
  exact h
