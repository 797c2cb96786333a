variable {N : Int}
/-! ===== printed by wip/whole/gen9H.py: tokens of the model ===== -/
set_option maxHeartbeats 2000000 in
theorem c_X12_isSmall {μ : Nat → Nat → Int} {c s : Nat} {a : Int} : Cl PT 173 [mI a] (mkh μ c s) (fun r => r = (some (some (mI (if 97 ≤ a ∧ a ≤ 122 then 1 else 0))), mkh (μ) c s)) := by
  refine ⟨_, PT_173, Nat.le_of_ble_eq_true rfl, ?_⟩
  show Rn PT none kX12_isSmall 0 [some (mI (a))] [] (mkh μ c s) _
  refine rn_iload_n (k' := 1) rfl rfl rfl ?_
  refine rn_bipush (k' := 2) rfl rfl ?_
  refine rn_icmp_lt (k' := 3) rfl rfl (fun hc1 => ?_) (fun hc1 => ?_)
  · skip
    refine rn_iconst (k' := 9) rfl rfl ?_
    refine rn_iret rfl (Or.inr (by omega)) ?_
    first | rfl | (refine congrArg (fun z => ((some (some (mI z)) : Option (Option MV)), mkh μ c s)) ?_; first | rfl | omega | (symm; first | (rw [if_pos (by omega)]; first | done | rfl | omega) | (rw [if_neg (by omega)]; first | done | rfl | omega)) | (symm; unfold g_tim; first | (rw [if_pos (by omega)]; first | done | rfl | omega) | (rw [if_neg (by omega)]; first | done | rfl | omega)) | (symm; unfold g_st; first | (rw [if_pos (by omega)]; first | done | rfl | omega) | (rw [if_neg (by omega)]; first | done | rfl | omega)) | (symm; unfold g_dep; first | (rw [if_pos (by omega)]; first | done | rfl | omega) | (rw [if_neg (by omega)]; first | done | rfl | omega)) | (symm; unfold g_nb; first | (rw [if_pos (by omega)]; first | done | rfl | omega) | (rw [if_neg (by omega)]; first | done | rfl | omega)) | ((try unfold g_st); (try unfold g_dep); (try unfold g_nb); (repeat' split) <;> omega) | (symm; (repeat (first | rw [if_pos (by omega)] | rw [if_neg (by omega)])); first | done | rfl | omega))
  · skip
    refine rn_iload_n (k' := 4) rfl rfl rfl ?_
    refine rn_bipush (k' := 5) rfl rfl ?_
    refine rn_icmp_gt (k' := 6) rfl rfl (fun hc2 => ?_) (fun hc2 => ?_)
    · skip
      refine rn_iconst (k' := 9) rfl rfl ?_
      refine rn_iret rfl (Or.inr (by omega)) ?_
      first | rfl | (refine congrArg (fun z => ((some (some (mI z)) : Option (Option MV)), mkh μ c s)) ?_; first | rfl | omega | (symm; first | (rw [if_pos (by omega)]; first | done | rfl | omega) | (rw [if_neg (by omega)]; first | done | rfl | omega)) | (symm; unfold g_tim; first | (rw [if_pos (by omega)]; first | done | rfl | omega) | (rw [if_neg (by omega)]; first | done | rfl | omega)) | (symm; unfold g_st; first | (rw [if_pos (by omega)]; first | done | rfl | omega) | (rw [if_neg (by omega)]; first | done | rfl | omega)) | (symm; unfold g_dep; first | (rw [if_pos (by omega)]; first | done | rfl | omega) | (rw [if_neg (by omega)]; first | done | rfl | omega)) | (symm; unfold g_nb; first | (rw [if_pos (by omega)]; first | done | rfl | omega) | (rw [if_neg (by omega)]; first | done | rfl | omega)) | ((try unfold g_st); (try unfold g_dep); (try unfold g_nb); (repeat' split) <;> omega) | (symm; (repeat (first | rw [if_pos (by omega)] | rw [if_neg (by omega)])); first | done | rfl | omega))
    · skip
      refine rn_iconst (k' := 7) rfl rfl ?_
      refine rn_goto rfl ?_
      refine rn_iret rfl (Or.inr (by omega)) ?_
      first | rfl | (refine congrArg (fun z => ((some (some (mI z)) : Option (Option MV)), mkh μ c s)) ?_; first | rfl | omega | (symm; first | (rw [if_pos (by omega)]; first | done | rfl | omega) | (rw [if_neg (by omega)]; first | done | rfl | omega)) | (symm; unfold g_tim; first | (rw [if_pos (by omega)]; first | done | rfl | omega) | (rw [if_neg (by omega)]; first | done | rfl | omega)) | (symm; unfold g_st; first | (rw [if_pos (by omega)]; first | done | rfl | omega) | (rw [if_neg (by omega)]; first | done | rfl | omega)) | (symm; unfold g_dep; first | (rw [if_pos (by omega)]; first | done | rfl | omega) | (rw [if_neg (by omega)]; first | done | rfl | omega)) | (symm; unfold g_nb; first | (rw [if_pos (by omega)]; first | done | rfl | omega) | (rw [if_neg (by omega)]; first | done | rfl | omega)) | ((try unfold g_st); (try unfold g_dep); (try unfold g_nb); (repeat' split) <;> omega) | (symm; (repeat (first | rw [if_pos (by omega)] | rw [if_neg (by omega)])); first | done | rfl | omega))
set_option maxHeartbeats 2000000 in
theorem c_X12_isDigit {μ : Nat → Nat → Int} {c s : Nat} {a : Int} : Cl PT 174 [mI a] (mkh μ c s) (fun r => r = (some (some (mI (if 48 ≤ a ∧ a ≤ 57 then 1 else 0))), mkh (μ) c s)) := by
  refine ⟨_, PT_174, Nat.le_of_ble_eq_true rfl, ?_⟩
  show Rn PT none kX12_isDigit 0 [some (mI (a))] [] (mkh μ c s) _
  refine rn_iload_n (k' := 1) rfl rfl rfl ?_
  refine rn_bipush (k' := 2) rfl rfl ?_
  refine rn_icmp_lt (k' := 3) rfl rfl (fun hc1 => ?_) (fun hc1 => ?_)
  · skip
    refine rn_iconst (k' := 9) rfl rfl ?_
    refine rn_iret rfl (Or.inr (by omega)) ?_
    first | rfl | (refine congrArg (fun z => ((some (some (mI z)) : Option (Option MV)), mkh μ c s)) ?_; first | rfl | omega | (symm; first | (rw [if_pos (by omega)]; first | done | rfl | omega) | (rw [if_neg (by omega)]; first | done | rfl | omega)) | (symm; unfold g_tim; first | (rw [if_pos (by omega)]; first | done | rfl | omega) | (rw [if_neg (by omega)]; first | done | rfl | omega)) | (symm; unfold g_st; first | (rw [if_pos (by omega)]; first | done | rfl | omega) | (rw [if_neg (by omega)]; first | done | rfl | omega)) | (symm; unfold g_dep; first | (rw [if_pos (by omega)]; first | done | rfl | omega) | (rw [if_neg (by omega)]; first | done | rfl | omega)) | (symm; unfold g_nb; first | (rw [if_pos (by omega)]; first | done | rfl | omega) | (rw [if_neg (by omega)]; first | done | rfl | omega)) | ((try unfold g_st); (try unfold g_dep); (try unfold g_nb); (repeat' split) <;> omega) | (symm; (repeat (first | rw [if_pos (by omega)] | rw [if_neg (by omega)])); first | done | rfl | omega))
  · skip
    refine rn_iload_n (k' := 4) rfl rfl rfl ?_
    refine rn_bipush (k' := 5) rfl rfl ?_
    refine rn_icmp_gt (k' := 6) rfl rfl (fun hc2 => ?_) (fun hc2 => ?_)
    · skip
      refine rn_iconst (k' := 9) rfl rfl ?_
      refine rn_iret rfl (Or.inr (by omega)) ?_
      first | rfl | (refine congrArg (fun z => ((some (some (mI z)) : Option (Option MV)), mkh μ c s)) ?_; first | rfl | omega | (symm; first | (rw [if_pos (by omega)]; first | done | rfl | omega) | (rw [if_neg (by omega)]; first | done | rfl | omega)) | (symm; unfold g_tim; first | (rw [if_pos (by omega)]; first | done | rfl | omega) | (rw [if_neg (by omega)]; first | done | rfl | omega)) | (symm; unfold g_st; first | (rw [if_pos (by omega)]; first | done | rfl | omega) | (rw [if_neg (by omega)]; first | done | rfl | omega)) | (symm; unfold g_dep; first | (rw [if_pos (by omega)]; first | done | rfl | omega) | (rw [if_neg (by omega)]; first | done | rfl | omega)) | (symm; unfold g_nb; first | (rw [if_pos (by omega)]; first | done | rfl | omega) | (rw [if_neg (by omega)]; first | done | rfl | omega)) | ((try unfold g_st); (try unfold g_dep); (try unfold g_nb); (repeat' split) <;> omega) | (symm; (repeat (first | rw [if_pos (by omega)] | rw [if_neg (by omega)])); first | done | rfl | omega))
    · skip
      refine rn_iconst (k' := 7) rfl rfl ?_
      refine rn_goto rfl ?_
      refine rn_iret rfl (Or.inr (by omega)) ?_
      first | rfl | (refine congrArg (fun z => ((some (some (mI z)) : Option (Option MV)), mkh μ c s)) ?_; first | rfl | omega | (symm; first | (rw [if_pos (by omega)]; first | done | rfl | omega) | (rw [if_neg (by omega)]; first | done | rfl | omega)) | (symm; unfold g_tim; first | (rw [if_pos (by omega)]; first | done | rfl | omega) | (rw [if_neg (by omega)]; first | done | rfl | omega)) | (symm; unfold g_st; first | (rw [if_pos (by omega)]; first | done | rfl | omega) | (rw [if_neg (by omega)]; first | done | rfl | omega)) | (symm; unfold g_dep; first | (rw [if_pos (by omega)]; first | done | rfl | omega) | (rw [if_neg (by omega)]; first | done | rfl | omega)) | (symm; unfold g_nb; first | (rw [if_pos (by omega)]; first | done | rfl | omega) | (rw [if_neg (by omega)]; first | done | rfl | omega)) | ((try unfold g_st); (try unfold g_dep); (try unfold g_nb); (repeat' split) <;> omega) | (symm; (repeat (first | rw [if_pos (by omega)] | rw [if_neg (by omega)])); first | done | rfl | omega))
theorem peek_in {μ : Nat → Nat → Int} {c s : Nat} (ht : ∀ j, μ 2 j = μ 119 j % 256) {H : Nat → Int} {n j : Nat} (h3 : H 3 = (n : Int)) (hj : H 4 = (j : Int)) (hl : j < n) (hn : n ≤ 940) : Cl PT 172 [mR 118] (mkh (m_upd μ 118 H) c s) (fun r => r = (some (some (mI (μ 2 j))), mkh (m_upd μ 118 H) c s)) := by
  refine ⟨_, PT_172, Nat.le_of_ble_eq_true rfl, ?_⟩
  show Rn PT none kX12_peek 0 [some (mR 118)] [] (mkh (m_upd μ 118 H) c s) _
  refine rn_aload_n (k' := 1) rfl rfl rfl ?_
  refine rn_getI (k' := 2) rfl rfl K0_118 (by decide) rfl ?_
  show Rn PT none kX12_peek 2 [some (mR 118)] [mI (H 4)] (mkh (m_upd μ 118 H) c s) _
  refine rn_aload_n (k' := 3) rfl rfl rfl ?_
  refine rn_getI (k' := 4) rfl rfl K0_118 (by decide) rfl ?_
  show Rn PT none kX12_peek 4 [some (mR 118)] [mI (H 3), mI (H 4)] (mkh (m_upd μ 118 H) c s) _
  refine rn_icmp_ge (k' := 5) rfl rfl (fun hc1 => ?_) (fun hc1 => ?_)
  · exfalso; omega
  · skip
    refine rn_aload_n (k' := 6) rfl rfl rfl ?_
    refine rn_getR (k' := 7) rfl rfl K0_118 (by decide) rfl R0_118_1 ?_
    refine rn_aload_n (k' := 8) rfl rfl rfl ?_
    refine rn_getI (k' := 9) rfl rfl K0_118 (by decide) rfl ?_
    show Rn PT none kX12_peek 9 [some (mR 118)] [mI (H 4), mR 119] (mkh (m_upd μ 118 H) c s) _
    refine rn_baload (k' := 10) rfl rfl K0_119 (by omega) (by omega) ?_
    show Rn PT none kX12_peek 10 [some (mR 118)] [mI (μ 119 ((H 4).toNat))] (mkh (m_upd μ 118 H) c s) _
    refine rn_sipush (k' := 11) rfl rfl ?_
    refine rn_iand (k' := 12) rfl rfl ?_
    refine rn_goto rfl ?_
    refine rn_iret rfl (Or.inl rfl) ?_
    rw [ht, ← and255, hj]
    rfl
theorem peek_out {μ : Nat → Nat → Int} {c s : Nat} {H : Nat → Int} (hl : H 3 ≤ H 4) : Cl PT 172 [mR 118] (mkh (m_upd μ 118 H) c s) (fun r => r = (some (some (mI (-1))), mkh (m_upd μ 118 H) c s)) := by
  refine ⟨_, PT_172, Nat.le_of_ble_eq_true rfl, ?_⟩
  show Rn PT none kX12_peek 0 [some (mR 118)] [] (mkh (m_upd μ 118 H) c s) _
  refine rn_aload_n (k' := 1) rfl rfl rfl ?_
  refine rn_getI (k' := 2) rfl rfl K0_118 (by decide) rfl ?_
  show Rn PT none kX12_peek 2 [some (mR 118)] [mI (H 4)] (mkh (m_upd μ 118 H) c s) _
  refine rn_aload_n (k' := 3) rfl rfl rfl ?_
  refine rn_getI (k' := 4) rfl rfl K0_118 (by decide) rfl ?_
  show Rn PT none kX12_peek 4 [some (mR 118)] [mI (H 3), mI (H 4)] (mkh (m_upd μ 118 H) c s) _
  refine rn_icmp_ge (k' := 5) rfl rfl (fun hc1 => ?_) (fun hc1 => ?_)
  · skip
    refine rn_iconst (k' := 14) rfl rfl ?_
    refine rn_iret rfl (Or.inl rfl) ?_
    rfl
  · exfalso; omega
set_option maxHeartbeats 4000000 in
theorem l_next_run {μ : Nat → Nat → Int} {c s : Nat} (ht : ∀ j, μ 2 j = μ 119 j % 256) {n q e : Nat} (hn9 : n ≤ 940) {H0 : Nat → Int} {cc sl : Int} (hsl : (sl = 1 ∧ sm (μ 2 q)) ∨ (sl = 0 ∧ ¬ sm (μ 2 q))) {Q : MR → Prop} (K : ∀ (H : Nat → Int) (al : Int), ((al = 0 ∨ al = 1) ∧ (al = 1 ↔ ((sl = 1 ∧ cD (μ 2) q (e - q) = 0) ∨ (sl = 0 ∧ cL (μ 2) q (e - q) = 0)))) → H 3 = (n : Int) → H 4 = (e : Int) → H 12 = H0 12 → H 13 = ((e - q : Nat) : Int) → H 14 = mn (μ 2) q (e - q) → H 17 = mw (μ 2) q (e - q) → (∀ j, ¬ j = 4 → ¬ j = 11 → ¬ j = 12 → ¬ j = 13 → ¬ j = 14 → ¬ j = 17 → H j = H0 j) → Rn PT none kX12_next 145 [some (mR 118), some (mI (cc)), some (mI (sl)), some (mI (al))] [] (mkh (m_upd μ 118 H) c s) Q) : ∀ (d k0 : Nat) (al : Int) (H : Nat → Int), q + k0 + d = n → ((al = 0 ∨ al = 1) ∧ (al = 1 ↔ ((sl = 1 ∧ cD (μ 2) q k0 = 0) ∨ (sl = 0 ∧ cL (μ 2) q k0 = 0)))) → (H 3 = (n : Int)) → (H 4 = ((q + k0 : Nat) : Int)) → (H 12 = H0 12) → (H 13 = (k0 : Int)) → (H 14 = mn (μ 2) q k0) → (H 17 = mw (μ 2) q k0) → ((∀ j, ¬ j = 4 → ¬ j = 11 → ¬ j = 12 → ¬ j = 13 → ¬ j = 14 → ¬ j = 17 → H j = H0 j)) → (tre (μ 2) d (q + k0) = e) → Rn PT none kX12_next 84 [some (mR 118), some (mI (cc)), some (mI (sl)), some (mI (al))] [] (mkh (m_upd μ 118 H) c s) (Q) := by
  intro d
  induction d with
  | zero =>
    intro k0 al H hn hal hH3 hH4 hH12 hH13 hH14 hH17 hfr he
    have hcl := cLD (b := (μ 2)) (q := q) k0
    have ek : e - q = k0 := by
      have h9 : q + k0 = e := he
      omega
    rw [ek] at K
    refine rn_aload_n (k' := 85) rfl rfl rfl ?_
    refine rn_callP (k' := 86) (y := 172) (vs := [mR 118]) (S' := []) (v := some (mI (-1))) (h' := mkh (m_upd μ 118 H) c s) rfl rfl rfl (peek_out (μ := μ) (c := c) (s := s) (H := H) (by show H 3 ≤ H 4; omega)) ?_
    show Rn PT none kX12_next 86 [some (mR 118), some (mI (cc)), some (mI (sl)), some (mI (al))] [mI (-1)] (mkh (m_upd μ 118 H) c s) _
    by_cases hq1 : 97 ≤ -1 ∧ -1 ≤ 122
    · exfalso; omega
    · refine rn_callP (k' := 87) (y := 173) (vs := [mI (-1)]) (S' := []) (v := some (mI 0)) (h' := mkh (m_upd μ 118 H) c s) rfl rfl rfl (by have hz : Cl PT 173 [mI (-1)] (mkh (m_upd μ 118 H) c s) (fun r => r = (some (some (mI (if 97 ≤ -1 ∧ -1 ≤ 122 then 1 else 0))), mkh (m_upd μ 118 H) c s)) := c_X12_isSmall (a := -1) (μ := (m_upd μ 118 H)) (c := c) (s := s); rw [if_neg hq1] at hz; exact hz) ?_
      show Rn PT none kX12_next 87 [some (mR 118), some (mI (cc)), some (mI (sl)), some (mI (al))] [mI (0)] (mkh (m_upd μ 118 H) c s) _
      refine rn_if_ne (k' := 88) rfl rfl (fun hc2 => ?_) (fun hc2 => ?_)
      · exfalso; omega
      · skip
        refine rn_aload_n (k' := 89) rfl rfl rfl ?_
        refine rn_callP (k' := 90) (y := 172) (vs := [mR 118]) (S' := []) (v := some (mI (-1))) (h' := mkh (m_upd μ 118 H) c s) rfl rfl rfl (peek_out (μ := μ) (c := c) (s := s) (H := H) (by show H 3 ≤ H 4; omega)) ?_
        show Rn PT none kX12_next 90 [some (mR 118), some (mI (cc)), some (mI (sl)), some (mI (al))] [mI (-1)] (mkh (m_upd μ 118 H) c s) _
        by_cases hq3 : 48 ≤ -1 ∧ -1 ≤ 57
        · exfalso; omega
        · refine rn_callP (k' := 91) (y := 174) (vs := [mI (-1)]) (S' := []) (v := some (mI 0)) (h' := mkh (m_upd μ 118 H) c s) rfl rfl rfl (by have hz : Cl PT 174 [mI (-1)] (mkh (m_upd μ 118 H) c s) (fun r => r = (some (some (mI (if 48 ≤ -1 ∧ -1 ≤ 57 then 1 else 0))), mkh (m_upd μ 118 H) c s)) := c_X12_isDigit (a := -1) (μ := (m_upd μ 118 H)) (c := c) (s := s); rw [if_neg hq3] at hz; exact hz) ?_
          show Rn PT none kX12_next 91 [some (mR 118), some (mI (cc)), some (mI (sl)), some (mI (al))] [mI (0)] (mkh (m_upd μ 118 H) c s) _
          refine rn_if_eq (k' := 92) rfl rfl (fun hc4 => ?_) (fun hc4 => ?_)
          · skip
            exact K _ _ hal hH3 (by have h9 : q + k0 = e := he; omega) hH12 hH13 hH14 hH17 hfr
          · exfalso; omega
  | succ d ih =>
    intro k0 al H hn hal hH3 hH4 hH12 hH13 hH14 hH17 hfr he
    have hcl := cLD (b := (μ 2)) (q := q) k0
    have hbb : 0 ≤ μ 2 (q + k0) ∧ μ 2 (q + k0) ≤ 255 := by have := ht (q + k0); omega
    refine rn_aload_n (k' := 85) rfl rfl rfl ?_
    refine rn_callP (k' := 86) (y := 172) (vs := [mR 118]) (S' := []) (v := some (mI (μ 2 (q + k0)))) (h' := mkh (m_upd μ 118 H) c s) rfl rfl rfl (peek_in (μ := μ) (c := c) (s := s) ht (H := H) (n := n) (j := q + k0) (show H 3 = _ from hH3) (show H 4 = _ from hH4) (by omega) hn9) ?_
    show Rn PT none kX12_next 86 [some (mR 118), some (mI (cc)), some (mI (sl)), some (mI (al))] [mI (μ 2 (q + k0))] (mkh (m_upd μ 118 H) c s) _
    by_cases hq1 : 97 ≤ μ 2 (q + k0) ∧ μ 2 (q + k0) ≤ 122
    · refine rn_callP (k' := 87) (y := 173) (vs := [mI (μ 2 (q + k0))]) (S' := []) (v := some (mI 1)) (h' := mkh (m_upd μ 118 H) c s) rfl rfl rfl (by have hz : Cl PT 173 [mI (μ 2 (q + k0))] (mkh (m_upd μ 118 H) c s) (fun r => r = (some (some (mI (if 97 ≤ μ 2 (q + k0) ∧ μ 2 (q + k0) ≤ 122 then 1 else 0))), mkh (m_upd μ 118 H) c s)) := c_X12_isSmall (a := μ 2 (q + k0)) (μ := (m_upd μ 118 H)) (c := c) (s := s); rw [if_pos hq1] at hz; exact hz) ?_
      show Rn PT none kX12_next 87 [some (mR 118), some (mI (cc)), some (mI (sl)), some (mI (al))] [mI (1)] (mkh (m_upd μ 118 H) c s) _
      refine rn_if_ne (k' := 88) rfl rfl (fun hc2 => ?_) (fun hc2 => ?_)
      · skip
        refine rn_iload_n (k' := 93) rfl rfl rfl ?_
        refine rn_if_eq (k' := 94) rfl rfl (fun hc3 => ?_) (fun hc3 => ?_)
        · skip
          refine rn_iconst (k' := 102) rfl rfl ?_
          refine rn_istore_n (k' := 103) (L' := [some (mR 118), some (mI (cc)), some (mI (sl)), some (mI (0))]) rfl rfl (Nat.le_of_ble_eq_true rfl) rfl ?_
          refine rn_aload_n (k' := 104) rfl rfl rfl ?_
          refine rn_getI (k' := 105) rfl rfl K0_118 (by decide) rfl ?_
          show Rn PT none kX12_next 105 [some (mR 118), some (mI (cc)), some (mI (sl)), some (mI (0))] [mI (H 13)] (mkh (m_upd μ 118 H) c s) _
          refine rn_bipush (k' := 106) rfl rfl ?_
          refine rn_icmp_ge (k' := 107) rfl rfl (fun hc4 => ?_) (fun hc4 => ?_)
          · skip
            refine rn_aload_n (k' := 118) rfl rfl rfl ?_
            refine rn_getI (k' := 119) rfl rfl K0_118 (by decide) rfl ?_
            show Rn PT none kX12_next 119 [some (mR 118), some (mI (cc)), some (mI (sl)), some (mI (0))] [mI (H 13)] (mkh (m_upd μ 118 H) c s) _
            refine rn_iconst (k' := 120) rfl rfl ?_
            refine rn_icmp_ge (k' := 121) rfl rfl (fun hc5 => ?_) (fun hc5 => ?_)
            · skip
              refine rn_aload_n (k' := 133) rfl rfl rfl ?_
              refine rn_dupR (k' := 134) rfl rfl ?_
              refine rn_getI (k' := 135) rfl rfl K0_118 (by decide) rfl ?_
              show Rn PT none kX12_next 135 [some (mR 118), some (mI (cc)), some (mI (sl)), some (mI (0))] [mI (H 13), mR 118] (mkh (m_upd μ 118 H) c s) _
              refine rn_iconst (k' := 136) rfl rfl ?_
              refine rn_iadd (k' := 137) rfl rfl (by first | omega | (simp [fs]; omega)) ?_
              refine rn_putI (k' := 138) rfl rfl K0_118 (by decide) rfl ?_
              refine rn_aload_n (k' := 139) rfl rfl rfl ?_
              refine rn_dupR (k' := 140) rfl rfl ?_
              refine rn_getI (k' := 141) rfl rfl K0_118 (by decide) rfl ?_
              show Rn PT none kX12_next 141 [some (mR 118), some (mI (cc)), some (mI (sl)), some (mI (0))] [mI (H 4), mR 118] (mkh (m_set (m_upd μ 118 H) 118 13 ((H 13) + 1)) c s) _
              refine rn_iconst (k' := 142) rfl rfl ?_
              refine rn_iadd (k' := 143) rfl rfl (by first | omega | (simp [fs]; omega)) ?_
              refine rn_putI (k' := 144) rfl rfl K0_118 (by decide) rfl ?_
              refine rn_goto rfl ?_
              show Rn PT none kX12_next 84 [some (mR 118), some (mI (cc)), some (mI (sl)), some (mI (0))] [] (mkh (m_set (m_set (m_upd μ 118 H) 118 13 ((H 13) + 1)) 118 4 ((H 4) + 1)) c s) _
              rw [set_upd_eq (a := 118), set_upd_eq (a := 118)]
              have hsm : sm (μ 2 (q + k0)) := by omega
              have hcL : cL (μ 2) q (k0 + 1) = cL (μ 2) q k0 + 1 := by show cL (μ 2) q k0 + (if _ then _ else _) = _; rw [if_pos hsm]
              have hcD : cD (μ 2) q (k0 + 1) = cD (μ 2) q k0 + 0 := by show cD (μ 2) q k0 + (if _ then _ else _) = _; rw [if_pos hsm]
              have hmw : mw (μ 2) q (k0 + 1) = mw (μ 2) q k0 := if_neg (by omega)
              have hmn : mn (μ 2) q (k0 + 1) = mn (μ 2) q k0 := if_neg (by omega)
              exact ih (k0 + 1) _ _ (by omega) ⟨by omega, by rw [hcL, hcD]; omega⟩ hH3 (by show H 4 + 1 = _; omega) hH12 (by show H 13 + 1 = _; omega) (by rw [hmn]; first | rfl | exact hH14) (by rw [hmw]; first | rfl | exact hH17) (fun j j1 j2 j3 j4 j5 j6 => by
                rw [← hfr j j1 j2 j3 j4 j5 j6]
                first | rfl | (simp [fs, j1, j4, j5, j6]))
                (by rw [← he]; exact (tre_t (b := μ 2) (d := d) (r := q + k0) (by omega)).symm)
            · skip
              refine rn_aload_n (k' := 122) rfl rfl rfl ?_
              refine rn_bipush (k' := 123) rfl rfl ?_
              refine rn_aload_n (k' := 124) rfl rfl rfl ?_
              refine rn_getI (k' := 125) rfl rfl K0_118 (by decide) rfl ?_
              show Rn PT none kX12_next 125 [some (mR 118), some (mI (cc)), some (mI (sl)), some (mI (0))] [mI (H 14), mI (10), mR 118] (mkh (m_upd μ 118 H) c s) _
              refine rn_imulW (k' := 126) rfl rfl ?_
              refine rn_aload_n (k' := 127) rfl rfl rfl ?_
              refine rn_callP (k' := 128) (y := 172) (vs := [mR 118]) (S' := [mI (w32 (10 * (H 14))), mR 118]) (v := some (mI (μ 2 (q + k0)))) (h' := mkh (m_upd μ 118 H) c s) rfl rfl rfl (peek_in (μ := μ) (c := c) (s := s) ht (H := H) (n := n) (j := q + k0) (show H 3 = _ from hH3) (show H 4 = _ from hH4) (by omega) hn9) ?_
              show Rn PT none kX12_next 128 [some (mR 118), some (mI (cc)), some (mI (sl)), some (mI (0))] [mI (μ 2 (q + k0)), mI (w32 (10 * (H 14))), mR 118] (mkh (m_upd μ 118 H) c s) _
              refine rn_iaddW (k' := 129) rfl rfl ?_
              refine rn_bipush (k' := 130) rfl rfl ?_
              refine rn_isubW (k' := 131) rfl rfl ?_
              refine rn_putI (k' := 132) rfl rfl K0_118 (by decide) rfl ?_
              refine rn_aload_n (k' := 133) rfl rfl rfl ?_
              refine rn_dupR (k' := 134) rfl rfl ?_
              refine rn_getI (k' := 135) rfl rfl K0_118 (by decide) rfl ?_
              show Rn PT none kX12_next 135 [some (mR 118), some (mI (cc)), some (mI (sl)), some (mI (0))] [mI (H 13), mR 118] (mkh (m_set (m_upd μ 118 H) 118 14 (w32 ((w32 ((w32 (10 * (H 14))) + (μ 2 (q + k0)))) - 48))) c s) _
              refine rn_iconst (k' := 136) rfl rfl ?_
              refine rn_iadd (k' := 137) rfl rfl (by first | omega | (simp [fs]; omega)) ?_
              refine rn_putI (k' := 138) rfl rfl K0_118 (by decide) rfl ?_
              refine rn_aload_n (k' := 139) rfl rfl rfl ?_
              refine rn_dupR (k' := 140) rfl rfl ?_
              refine rn_getI (k' := 141) rfl rfl K0_118 (by decide) rfl ?_
              show Rn PT none kX12_next 141 [some (mR 118), some (mI (cc)), some (mI (sl)), some (mI (0))] [mI (H 4), mR 118] (mkh (m_set (m_set (m_upd μ 118 H) 118 14 (w32 ((w32 ((w32 (10 * (H 14))) + (μ 2 (q + k0)))) - 48))) 118 13 ((H 13) + 1)) c s) _
              refine rn_iconst (k' := 142) rfl rfl ?_
              refine rn_iadd (k' := 143) rfl rfl (by first | omega | (simp [fs]; omega)) ?_
              refine rn_putI (k' := 144) rfl rfl K0_118 (by decide) rfl ?_
              refine rn_goto rfl ?_
              show Rn PT none kX12_next 84 [some (mR 118), some (mI (cc)), some (mI (sl)), some (mI (0))] [] (mkh (m_set (m_set (m_set (m_upd μ 118 H) 118 14 (w32 ((w32 ((w32 (10 * (H 14))) + (μ 2 (q + k0)))) - 48))) 118 13 ((H 13) + 1)) 118 4 ((H 4) + 1)) c s) _
              rw [set_upd_eq (a := 118), set_upd_eq (a := 118), set_upd_eq (a := 118)]
              have hsm : sm (μ 2 (q + k0)) := by omega
              have hcL : cL (μ 2) q (k0 + 1) = cL (μ 2) q k0 + 1 := by show cL (μ 2) q k0 + (if _ then _ else _) = _; rw [if_pos hsm]
              have hcD : cD (μ 2) q (k0 + 1) = cD (μ 2) q k0 + 0 := by show cD (μ 2) q k0 + (if _ then _ else _) = _; rw [if_pos hsm]
              have hmw : mw (μ 2) q (k0 + 1) = mw (μ 2) q k0 := if_neg (by omega)
              have hmn : mn (μ 2) q (k0 + 1) = w32 (w32 (w32 (10 * mn (μ 2) q k0) + μ 2 (q + k0)) - 48) := if_pos (by omega)
              exact ih (k0 + 1) _ _ (by omega) ⟨by omega, by rw [hcL, hcD]; omega⟩ hH3 (by show H 4 + 1 = _; omega) hH12 (by show H 13 + 1 = _; omega) (by rw [hmn, ← hH14]; first | rfl | exact hH14) (by rw [hmw]; first | rfl | exact hH17) (fun j j1 j2 j3 j4 j5 j6 => by
                rw [← hfr j j1 j2 j3 j4 j5 j6]
                first | rfl | (simp [fs, j1, j4, j5, j6]))
                (by rw [← he]; exact (tre_t (b := μ 2) (d := d) (r := q + k0) (by omega)).symm)
          · skip
            refine rn_aload_n (k' := 108) rfl rfl rfl ?_
            refine rn_aload_n (k' := 109) rfl rfl rfl ?_
            refine rn_getJ (k' := 110) rfl rfl K0_118 (by decide) rfl ?_
            show Rn PT none kX12_next 110 [some (mR 118), some (mI (cc)), some (mI (sl)), some (mI (0))] [mJ (H 17), mR 118] (mkh (m_upd μ 118 H) c s) _
            refine rn_bipush (k' := 111) rfl rfl ?_
            refine rn_lshl (k' := 112) rfl rfl ?_
            refine rn_aload_n (k' := 113) rfl rfl rfl ?_
            refine rn_callP (k' := 114) (y := 172) (vs := [mR 118]) (S' := [mJ (m_lshl (H 17) (8)), mR 118]) (v := some (mI (μ 2 (q + k0)))) (h' := mkh (m_upd μ 118 H) c s) rfl rfl rfl (peek_in (μ := μ) (c := c) (s := s) ht (H := H) (n := n) (j := q + k0) (show H 3 = _ from hH3) (show H 4 = _ from hH4) (by omega) hn9) ?_
            show Rn PT none kX12_next 114 [some (mR 118), some (mI (cc)), some (mI (sl)), some (mI (0))] [mI (μ 2 (q + k0)), mJ (m_lshl (H 17) (8)), mR 118] (mkh (m_upd μ 118 H) c s) _
            refine rn_i2l (k' := 115) rfl rfl ?_
            refine rn_lor (k' := 116) rfl rfl ?_
            refine rn_putJ (k' := 117) rfl rfl K0_118 (by decide) rfl ?_
            refine rn_aload_n (k' := 118) rfl rfl rfl ?_
            refine rn_getI (k' := 119) rfl rfl K0_118 (by decide) rfl ?_
            show Rn PT none kX12_next 119 [some (mR 118), some (mI (cc)), some (mI (sl)), some (mI (0))] [mI (H 13)] (mkh (m_set (m_upd μ 118 H) 118 17 (m_lor (m_lshl (H 17) (8)) (μ 2 (q + k0)))) c s) _
            refine rn_iconst (k' := 120) rfl rfl ?_
            refine rn_icmp_ge (k' := 121) rfl rfl (fun hc12 => ?_) (fun hc12 => ?_)
            · skip
              refine rn_aload_n (k' := 133) rfl rfl rfl ?_
              refine rn_dupR (k' := 134) rfl rfl ?_
              refine rn_getI (k' := 135) rfl rfl K0_118 (by decide) rfl ?_
              show Rn PT none kX12_next 135 [some (mR 118), some (mI (cc)), some (mI (sl)), some (mI (0))] [mI (H 13), mR 118] (mkh (m_set (m_upd μ 118 H) 118 17 (m_lor (m_lshl (H 17) (8)) (μ 2 (q + k0)))) c s) _
              refine rn_iconst (k' := 136) rfl rfl ?_
              refine rn_iadd (k' := 137) rfl rfl (by first | omega | (simp [fs]; omega)) ?_
              refine rn_putI (k' := 138) rfl rfl K0_118 (by decide) rfl ?_
              refine rn_aload_n (k' := 139) rfl rfl rfl ?_
              refine rn_dupR (k' := 140) rfl rfl ?_
              refine rn_getI (k' := 141) rfl rfl K0_118 (by decide) rfl ?_
              show Rn PT none kX12_next 141 [some (mR 118), some (mI (cc)), some (mI (sl)), some (mI (0))] [mI (H 4), mR 118] (mkh (m_set (m_set (m_upd μ 118 H) 118 17 (m_lor (m_lshl (H 17) (8)) (μ 2 (q + k0)))) 118 13 ((H 13) + 1)) c s) _
              refine rn_iconst (k' := 142) rfl rfl ?_
              refine rn_iadd (k' := 143) rfl rfl (by first | omega | (simp [fs]; omega)) ?_
              refine rn_putI (k' := 144) rfl rfl K0_118 (by decide) rfl ?_
              refine rn_goto rfl ?_
              show Rn PT none kX12_next 84 [some (mR 118), some (mI (cc)), some (mI (sl)), some (mI (0))] [] (mkh (m_set (m_set (m_set (m_upd μ 118 H) 118 17 (m_lor (m_lshl (H 17) (8)) (μ 2 (q + k0)))) 118 13 ((H 13) + 1)) 118 4 ((H 4) + 1)) c s) _
              rw [set_upd_eq (a := 118), set_upd_eq (a := 118), set_upd_eq (a := 118)]
              have hsm : sm (μ 2 (q + k0)) := by omega
              have hcL : cL (μ 2) q (k0 + 1) = cL (μ 2) q k0 + 1 := by show cL (μ 2) q k0 + (if _ then _ else _) = _; rw [if_pos hsm]
              have hcD : cD (μ 2) q (k0 + 1) = cD (μ 2) q k0 + 0 := by show cD (μ 2) q k0 + (if _ then _ else _) = _; rw [if_pos hsm]
              have hmw : mw (μ 2) q (k0 + 1) = m_lor (m_lshl (mw (μ 2) q k0) 8) (μ 2 (q + k0)) := if_pos (by omega)
              have hmn : mn (μ 2) q (k0 + 1) = mn (μ 2) q k0 := if_neg (by omega)
              exact ih (k0 + 1) _ _ (by omega) ⟨by omega, by rw [hcL, hcD]; omega⟩ hH3 (by show H 4 + 1 = _; omega) hH12 (by show H 13 + 1 = _; omega) (by rw [hmn]; first | rfl | exact hH14) (by rw [hmw, ← hH17]; first | rfl | exact hH17) (fun j j1 j2 j3 j4 j5 j6 => by
                rw [← hfr j j1 j2 j3 j4 j5 j6]
                first | rfl | (simp [fs, j1, j4, j5, j6]))
                (by rw [← he]; exact (tre_t (b := μ 2) (d := d) (r := q + k0) (by omega)).symm)
            · skip
              refine rn_aload_n (k' := 122) rfl rfl rfl ?_
              refine rn_bipush (k' := 123) rfl rfl ?_
              refine rn_aload_n (k' := 124) rfl rfl rfl ?_
              refine rn_getI (k' := 125) rfl rfl K0_118 (by decide) rfl ?_
              show Rn PT none kX12_next 125 [some (mR 118), some (mI (cc)), some (mI (sl)), some (mI (0))] [mI (H 14), mI (10), mR 118] (mkh (m_set (m_upd μ 118 H) 118 17 (m_lor (m_lshl (H 17) (8)) (μ 2 (q + k0)))) c s) _
              refine rn_imulW (k' := 126) rfl rfl ?_
              refine rn_aload_n (k' := 127) rfl rfl rfl ?_
              rw [set_upd_eq (a := 118)]
              refine rn_callP (k' := 128) (y := 172) (vs := [mR 118]) (S' := [mI (w32 (10 * (H 14))), mR 118]) (v := some (mI (μ 2 (q + k0)))) (h' := mkh (m_upd μ 118 ((fs H 17 (m_lor (m_lshl (H 17) (8)) (μ 2 (q + k0)))))) c s) rfl rfl rfl (peek_in (μ := μ) (c := c) (s := s) ht (H := (fs H 17 (m_lor (m_lshl (H 17) (8)) (μ 2 (q + k0))))) (n := n) (j := q + k0) (show H 3 = _ from hH3) (show H 4 = _ from hH4) (by omega) hn9) ?_
              show Rn PT none kX12_next 128 [some (mR 118), some (mI (cc)), some (mI (sl)), some (mI (0))] [mI (μ 2 (q + k0)), mI (w32 (10 * (H 14))), mR 118] (mkh (m_upd μ 118 ((fs H 17 (m_lor (m_lshl (H 17) (8)) (μ 2 (q + k0)))))) c s) _
              refine rn_iaddW (k' := 129) rfl rfl ?_
              refine rn_bipush (k' := 130) rfl rfl ?_
              refine rn_isubW (k' := 131) rfl rfl ?_
              refine rn_putI (k' := 132) rfl rfl K0_118 (by decide) rfl ?_
              refine rn_aload_n (k' := 133) rfl rfl rfl ?_
              refine rn_dupR (k' := 134) rfl rfl ?_
              refine rn_getI (k' := 135) rfl rfl K0_118 (by decide) rfl ?_
              show Rn PT none kX12_next 135 [some (mR 118), some (mI (cc)), some (mI (sl)), some (mI (0))] [mI (((fs H 17 (m_lor (m_lshl (H 17) (8)) (μ 2 (q + k0))))) 13), mR 118] (mkh (m_set (m_upd μ 118 ((fs H 17 (m_lor (m_lshl (H 17) (8)) (μ 2 (q + k0)))))) 118 14 (w32 ((w32 ((w32 (10 * (H 14))) + (μ 2 (q + k0)))) - 48))) c s) _
              refine rn_iconst (k' := 136) rfl rfl ?_
              refine rn_iadd (k' := 137) rfl rfl (by first | omega | (simp [fs]; omega)) ?_
              refine rn_putI (k' := 138) rfl rfl K0_118 (by decide) rfl ?_
              refine rn_aload_n (k' := 139) rfl rfl rfl ?_
              refine rn_dupR (k' := 140) rfl rfl ?_
              refine rn_getI (k' := 141) rfl rfl K0_118 (by decide) rfl ?_
              show Rn PT none kX12_next 141 [some (mR 118), some (mI (cc)), some (mI (sl)), some (mI (0))] [mI (((fs H 17 (m_lor (m_lshl (H 17) (8)) (μ 2 (q + k0))))) 4), mR 118] (mkh (m_set (m_set (m_upd μ 118 ((fs H 17 (m_lor (m_lshl (H 17) (8)) (μ 2 (q + k0)))))) 118 14 (w32 ((w32 ((w32 (10 * (H 14))) + (μ 2 (q + k0)))) - 48))) 118 13 ((((fs H 17 (m_lor (m_lshl (H 17) (8)) (μ 2 (q + k0))))) 13) + 1)) c s) _
              refine rn_iconst (k' := 142) rfl rfl ?_
              refine rn_iadd (k' := 143) rfl rfl (by first | omega | (simp [fs]; omega)) ?_
              refine rn_putI (k' := 144) rfl rfl K0_118 (by decide) rfl ?_
              refine rn_goto rfl ?_
              show Rn PT none kX12_next 84 [some (mR 118), some (mI (cc)), some (mI (sl)), some (mI (0))] [] (mkh (m_set (m_set (m_set (m_upd μ 118 ((fs H 17 (m_lor (m_lshl (H 17) (8)) (μ 2 (q + k0)))))) 118 14 (w32 ((w32 ((w32 (10 * (H 14))) + (μ 2 (q + k0)))) - 48))) 118 13 ((((fs H 17 (m_lor (m_lshl (H 17) (8)) (μ 2 (q + k0))))) 13) + 1)) 118 4 ((((fs H 17 (m_lor (m_lshl (H 17) (8)) (μ 2 (q + k0))))) 4) + 1)) c s) _
              rw [set_upd_eq (a := 118), set_upd_eq (a := 118), set_upd_eq (a := 118)]
              have hsm : sm (μ 2 (q + k0)) := by omega
              have hcL : cL (μ 2) q (k0 + 1) = cL (μ 2) q k0 + 1 := by show cL (μ 2) q k0 + (if _ then _ else _) = _; rw [if_pos hsm]
              have hcD : cD (μ 2) q (k0 + 1) = cD (μ 2) q k0 + 0 := by show cD (μ 2) q k0 + (if _ then _ else _) = _; rw [if_pos hsm]
              have hmw : mw (μ 2) q (k0 + 1) = m_lor (m_lshl (mw (μ 2) q k0) 8) (μ 2 (q + k0)) := if_pos (by omega)
              have hmn : mn (μ 2) q (k0 + 1) = w32 (w32 (w32 (10 * mn (μ 2) q k0) + μ 2 (q + k0)) - 48) := if_pos (by omega)
              exact ih (k0 + 1) _ _ (by omega) ⟨by omega, by rw [hcL, hcD]; omega⟩ hH3 (by show H 4 + 1 = _; omega) hH12 (by show H 13 + 1 = _; omega) (by rw [hmn, ← hH14]; first | rfl | exact hH14) (by rw [hmw, ← hH17]; first | rfl | exact hH17) (fun j j1 j2 j3 j4 j5 j6 => by
                rw [← hfr j j1 j2 j3 j4 j5 j6]
                first | rfl | (simp [fs, j1, j4, j5, j6]))
                (by rw [← he]; exact (tre_t (b := μ 2) (d := d) (r := q + k0) (by omega)).symm)
        · skip
          refine rn_aload_n (k' := 95) rfl rfl rfl ?_
          refine rn_callP (k' := 96) (y := 172) (vs := [mR 118]) (S' := []) (v := some (mI (μ 2 (q + k0)))) (h' := mkh (m_upd μ 118 H) c s) rfl rfl rfl (peek_in (μ := μ) (c := c) (s := s) ht (H := H) (n := n) (j := q + k0) (show H 3 = _ from hH3) (show H 4 = _ from hH4) (by omega) hn9) ?_
          show Rn PT none kX12_next 96 [some (mR 118), some (mI (cc)), some (mI (sl)), some (mI (al))] [mI (μ 2 (q + k0))] (mkh (m_upd μ 118 H) c s) _
          by_cases hq18 : 97 ≤ μ 2 (q + k0) ∧ μ 2 (q + k0) ≤ 122
          · refine rn_callP (k' := 97) (y := 173) (vs := [mI (μ 2 (q + k0))]) (S' := []) (v := some (mI 1)) (h' := mkh (m_upd μ 118 H) c s) rfl rfl rfl (by have hz : Cl PT 173 [mI (μ 2 (q + k0))] (mkh (m_upd μ 118 H) c s) (fun r => r = (some (some (mI (if 97 ≤ μ 2 (q + k0) ∧ μ 2 (q + k0) ≤ 122 then 1 else 0))), mkh (m_upd μ 118 H) c s)) := c_X12_isSmall (a := μ 2 (q + k0)) (μ := (m_upd μ 118 H)) (c := c) (s := s); rw [if_pos hq18] at hz; exact hz) ?_
            show Rn PT none kX12_next 97 [some (mR 118), some (mI (cc)), some (mI (sl)), some (mI (al))] [mI (1)] (mkh (m_upd μ 118 H) c s) _
            refine rn_iload_n (k' := 98) rfl rfl rfl ?_
            refine rn_icmp_ne (k' := 99) rfl rfl (fun hc19 => ?_) (fun hc19 => ?_)
            · skip
              refine rn_iconst (k' := 102) rfl rfl ?_
              refine rn_istore_n (k' := 103) (L' := [some (mR 118), some (mI (cc)), some (mI (sl)), some (mI (0))]) rfl rfl (Nat.le_of_ble_eq_true rfl) rfl ?_
              refine rn_aload_n (k' := 104) rfl rfl rfl ?_
              refine rn_getI (k' := 105) rfl rfl K0_118 (by decide) rfl ?_
              show Rn PT none kX12_next 105 [some (mR 118), some (mI (cc)), some (mI (sl)), some (mI (0))] [mI (H 13)] (mkh (m_upd μ 118 H) c s) _
              refine rn_bipush (k' := 106) rfl rfl ?_
              refine rn_icmp_ge (k' := 107) rfl rfl (fun hc20 => ?_) (fun hc20 => ?_)
              · skip
                refine rn_aload_n (k' := 118) rfl rfl rfl ?_
                refine rn_getI (k' := 119) rfl rfl K0_118 (by decide) rfl ?_
                show Rn PT none kX12_next 119 [some (mR 118), some (mI (cc)), some (mI (sl)), some (mI (0))] [mI (H 13)] (mkh (m_upd μ 118 H) c s) _
                refine rn_iconst (k' := 120) rfl rfl ?_
                refine rn_icmp_ge (k' := 121) rfl rfl (fun hc21 => ?_) (fun hc21 => ?_)
                · skip
                  refine rn_aload_n (k' := 133) rfl rfl rfl ?_
                  refine rn_dupR (k' := 134) rfl rfl ?_
                  refine rn_getI (k' := 135) rfl rfl K0_118 (by decide) rfl ?_
                  show Rn PT none kX12_next 135 [some (mR 118), some (mI (cc)), some (mI (sl)), some (mI (0))] [mI (H 13), mR 118] (mkh (m_upd μ 118 H) c s) _
                  refine rn_iconst (k' := 136) rfl rfl ?_
                  refine rn_iadd (k' := 137) rfl rfl (by first | omega | (simp [fs]; omega)) ?_
                  refine rn_putI (k' := 138) rfl rfl K0_118 (by decide) rfl ?_
                  refine rn_aload_n (k' := 139) rfl rfl rfl ?_
                  refine rn_dupR (k' := 140) rfl rfl ?_
                  refine rn_getI (k' := 141) rfl rfl K0_118 (by decide) rfl ?_
                  show Rn PT none kX12_next 141 [some (mR 118), some (mI (cc)), some (mI (sl)), some (mI (0))] [mI (H 4), mR 118] (mkh (m_set (m_upd μ 118 H) 118 13 ((H 13) + 1)) c s) _
                  refine rn_iconst (k' := 142) rfl rfl ?_
                  refine rn_iadd (k' := 143) rfl rfl (by first | omega | (simp [fs]; omega)) ?_
                  refine rn_putI (k' := 144) rfl rfl K0_118 (by decide) rfl ?_
                  refine rn_goto rfl ?_
                  show Rn PT none kX12_next 84 [some (mR 118), some (mI (cc)), some (mI (sl)), some (mI (0))] [] (mkh (m_set (m_set (m_upd μ 118 H) 118 13 ((H 13) + 1)) 118 4 ((H 4) + 1)) c s) _
                  rw [set_upd_eq (a := 118), set_upd_eq (a := 118)]
                  have hsm : sm (μ 2 (q + k0)) := by omega
                  have hcL : cL (μ 2) q (k0 + 1) = cL (μ 2) q k0 + 1 := by show cL (μ 2) q k0 + (if _ then _ else _) = _; rw [if_pos hsm]
                  have hcD : cD (μ 2) q (k0 + 1) = cD (μ 2) q k0 + 0 := by show cD (μ 2) q k0 + (if _ then _ else _) = _; rw [if_pos hsm]
                  have hmw : mw (μ 2) q (k0 + 1) = mw (μ 2) q k0 := if_neg (by omega)
                  have hmn : mn (μ 2) q (k0 + 1) = mn (μ 2) q k0 := if_neg (by omega)
                  exact ih (k0 + 1) _ _ (by omega) ⟨by omega, by rw [hcL, hcD]; omega⟩ hH3 (by show H 4 + 1 = _; omega) hH12 (by show H 13 + 1 = _; omega) (by rw [hmn]; first | rfl | exact hH14) (by rw [hmw]; first | rfl | exact hH17) (fun j j1 j2 j3 j4 j5 j6 => by
                    rw [← hfr j j1 j2 j3 j4 j5 j6]
                    first | rfl | (simp [fs, j1, j4, j5, j6]))
                    (by rw [← he]; exact (tre_t (b := μ 2) (d := d) (r := q + k0) (by omega)).symm)
                · skip
                  refine rn_aload_n (k' := 122) rfl rfl rfl ?_
                  refine rn_bipush (k' := 123) rfl rfl ?_
                  refine rn_aload_n (k' := 124) rfl rfl rfl ?_
                  refine rn_getI (k' := 125) rfl rfl K0_118 (by decide) rfl ?_
                  show Rn PT none kX12_next 125 [some (mR 118), some (mI (cc)), some (mI (sl)), some (mI (0))] [mI (H 14), mI (10), mR 118] (mkh (m_upd μ 118 H) c s) _
                  refine rn_imulW (k' := 126) rfl rfl ?_
                  refine rn_aload_n (k' := 127) rfl rfl rfl ?_
                  refine rn_callP (k' := 128) (y := 172) (vs := [mR 118]) (S' := [mI (w32 (10 * (H 14))), mR 118]) (v := some (mI (μ 2 (q + k0)))) (h' := mkh (m_upd μ 118 H) c s) rfl rfl rfl (peek_in (μ := μ) (c := c) (s := s) ht (H := H) (n := n) (j := q + k0) (show H 3 = _ from hH3) (show H 4 = _ from hH4) (by omega) hn9) ?_
                  show Rn PT none kX12_next 128 [some (mR 118), some (mI (cc)), some (mI (sl)), some (mI (0))] [mI (μ 2 (q + k0)), mI (w32 (10 * (H 14))), mR 118] (mkh (m_upd μ 118 H) c s) _
                  refine rn_iaddW (k' := 129) rfl rfl ?_
                  refine rn_bipush (k' := 130) rfl rfl ?_
                  refine rn_isubW (k' := 131) rfl rfl ?_
                  refine rn_putI (k' := 132) rfl rfl K0_118 (by decide) rfl ?_
                  refine rn_aload_n (k' := 133) rfl rfl rfl ?_
                  refine rn_dupR (k' := 134) rfl rfl ?_
                  refine rn_getI (k' := 135) rfl rfl K0_118 (by decide) rfl ?_
                  show Rn PT none kX12_next 135 [some (mR 118), some (mI (cc)), some (mI (sl)), some (mI (0))] [mI (H 13), mR 118] (mkh (m_set (m_upd μ 118 H) 118 14 (w32 ((w32 ((w32 (10 * (H 14))) + (μ 2 (q + k0)))) - 48))) c s) _
                  refine rn_iconst (k' := 136) rfl rfl ?_
                  refine rn_iadd (k' := 137) rfl rfl (by first | omega | (simp [fs]; omega)) ?_
                  refine rn_putI (k' := 138) rfl rfl K0_118 (by decide) rfl ?_
                  refine rn_aload_n (k' := 139) rfl rfl rfl ?_
                  refine rn_dupR (k' := 140) rfl rfl ?_
                  refine rn_getI (k' := 141) rfl rfl K0_118 (by decide) rfl ?_
                  show Rn PT none kX12_next 141 [some (mR 118), some (mI (cc)), some (mI (sl)), some (mI (0))] [mI (H 4), mR 118] (mkh (m_set (m_set (m_upd μ 118 H) 118 14 (w32 ((w32 ((w32 (10 * (H 14))) + (μ 2 (q + k0)))) - 48))) 118 13 ((H 13) + 1)) c s) _
                  refine rn_iconst (k' := 142) rfl rfl ?_
                  refine rn_iadd (k' := 143) rfl rfl (by first | omega | (simp [fs]; omega)) ?_
                  refine rn_putI (k' := 144) rfl rfl K0_118 (by decide) rfl ?_
                  refine rn_goto rfl ?_
                  show Rn PT none kX12_next 84 [some (mR 118), some (mI (cc)), some (mI (sl)), some (mI (0))] [] (mkh (m_set (m_set (m_set (m_upd μ 118 H) 118 14 (w32 ((w32 ((w32 (10 * (H 14))) + (μ 2 (q + k0)))) - 48))) 118 13 ((H 13) + 1)) 118 4 ((H 4) + 1)) c s) _
                  rw [set_upd_eq (a := 118), set_upd_eq (a := 118), set_upd_eq (a := 118)]
                  have hsm : sm (μ 2 (q + k0)) := by omega
                  have hcL : cL (μ 2) q (k0 + 1) = cL (μ 2) q k0 + 1 := by show cL (μ 2) q k0 + (if _ then _ else _) = _; rw [if_pos hsm]
                  have hcD : cD (μ 2) q (k0 + 1) = cD (μ 2) q k0 + 0 := by show cD (μ 2) q k0 + (if _ then _ else _) = _; rw [if_pos hsm]
                  have hmw : mw (μ 2) q (k0 + 1) = mw (μ 2) q k0 := if_neg (by omega)
                  have hmn : mn (μ 2) q (k0 + 1) = w32 (w32 (w32 (10 * mn (μ 2) q k0) + μ 2 (q + k0)) - 48) := if_pos (by omega)
                  exact ih (k0 + 1) _ _ (by omega) ⟨by omega, by rw [hcL, hcD]; omega⟩ hH3 (by show H 4 + 1 = _; omega) hH12 (by show H 13 + 1 = _; omega) (by rw [hmn, ← hH14]; first | rfl | exact hH14) (by rw [hmw]; first | rfl | exact hH17) (fun j j1 j2 j3 j4 j5 j6 => by
                    rw [← hfr j j1 j2 j3 j4 j5 j6]
                    first | rfl | (simp [fs, j1, j4, j5, j6]))
                    (by rw [← he]; exact (tre_t (b := μ 2) (d := d) (r := q + k0) (by omega)).symm)
              · skip
                refine rn_aload_n (k' := 108) rfl rfl rfl ?_
                refine rn_aload_n (k' := 109) rfl rfl rfl ?_
                refine rn_getJ (k' := 110) rfl rfl K0_118 (by decide) rfl ?_
                show Rn PT none kX12_next 110 [some (mR 118), some (mI (cc)), some (mI (sl)), some (mI (0))] [mJ (H 17), mR 118] (mkh (m_upd μ 118 H) c s) _
                refine rn_bipush (k' := 111) rfl rfl ?_
                refine rn_lshl (k' := 112) rfl rfl ?_
                refine rn_aload_n (k' := 113) rfl rfl rfl ?_
                refine rn_callP (k' := 114) (y := 172) (vs := [mR 118]) (S' := [mJ (m_lshl (H 17) (8)), mR 118]) (v := some (mI (μ 2 (q + k0)))) (h' := mkh (m_upd μ 118 H) c s) rfl rfl rfl (peek_in (μ := μ) (c := c) (s := s) ht (H := H) (n := n) (j := q + k0) (show H 3 = _ from hH3) (show H 4 = _ from hH4) (by omega) hn9) ?_
                show Rn PT none kX12_next 114 [some (mR 118), some (mI (cc)), some (mI (sl)), some (mI (0))] [mI (μ 2 (q + k0)), mJ (m_lshl (H 17) (8)), mR 118] (mkh (m_upd μ 118 H) c s) _
                refine rn_i2l (k' := 115) rfl rfl ?_
                refine rn_lor (k' := 116) rfl rfl ?_
                refine rn_putJ (k' := 117) rfl rfl K0_118 (by decide) rfl ?_
                refine rn_aload_n (k' := 118) rfl rfl rfl ?_
                refine rn_getI (k' := 119) rfl rfl K0_118 (by decide) rfl ?_
                show Rn PT none kX12_next 119 [some (mR 118), some (mI (cc)), some (mI (sl)), some (mI (0))] [mI (H 13)] (mkh (m_set (m_upd μ 118 H) 118 17 (m_lor (m_lshl (H 17) (8)) (μ 2 (q + k0)))) c s) _
                refine rn_iconst (k' := 120) rfl rfl ?_
                refine rn_icmp_ge (k' := 121) rfl rfl (fun hc28 => ?_) (fun hc28 => ?_)
                · skip
                  refine rn_aload_n (k' := 133) rfl rfl rfl ?_
                  refine rn_dupR (k' := 134) rfl rfl ?_
                  refine rn_getI (k' := 135) rfl rfl K0_118 (by decide) rfl ?_
                  show Rn PT none kX12_next 135 [some (mR 118), some (mI (cc)), some (mI (sl)), some (mI (0))] [mI (H 13), mR 118] (mkh (m_set (m_upd μ 118 H) 118 17 (m_lor (m_lshl (H 17) (8)) (μ 2 (q + k0)))) c s) _
                  refine rn_iconst (k' := 136) rfl rfl ?_
                  refine rn_iadd (k' := 137) rfl rfl (by first | omega | (simp [fs]; omega)) ?_
                  refine rn_putI (k' := 138) rfl rfl K0_118 (by decide) rfl ?_
                  refine rn_aload_n (k' := 139) rfl rfl rfl ?_
                  refine rn_dupR (k' := 140) rfl rfl ?_
                  refine rn_getI (k' := 141) rfl rfl K0_118 (by decide) rfl ?_
                  show Rn PT none kX12_next 141 [some (mR 118), some (mI (cc)), some (mI (sl)), some (mI (0))] [mI (H 4), mR 118] (mkh (m_set (m_set (m_upd μ 118 H) 118 17 (m_lor (m_lshl (H 17) (8)) (μ 2 (q + k0)))) 118 13 ((H 13) + 1)) c s) _
                  refine rn_iconst (k' := 142) rfl rfl ?_
                  refine rn_iadd (k' := 143) rfl rfl (by first | omega | (simp [fs]; omega)) ?_
                  refine rn_putI (k' := 144) rfl rfl K0_118 (by decide) rfl ?_
                  refine rn_goto rfl ?_
                  show Rn PT none kX12_next 84 [some (mR 118), some (mI (cc)), some (mI (sl)), some (mI (0))] [] (mkh (m_set (m_set (m_set (m_upd μ 118 H) 118 17 (m_lor (m_lshl (H 17) (8)) (μ 2 (q + k0)))) 118 13 ((H 13) + 1)) 118 4 ((H 4) + 1)) c s) _
                  rw [set_upd_eq (a := 118), set_upd_eq (a := 118), set_upd_eq (a := 118)]
                  have hsm : sm (μ 2 (q + k0)) := by omega
                  have hcL : cL (μ 2) q (k0 + 1) = cL (μ 2) q k0 + 1 := by show cL (μ 2) q k0 + (if _ then _ else _) = _; rw [if_pos hsm]
                  have hcD : cD (μ 2) q (k0 + 1) = cD (μ 2) q k0 + 0 := by show cD (μ 2) q k0 + (if _ then _ else _) = _; rw [if_pos hsm]
                  have hmw : mw (μ 2) q (k0 + 1) = m_lor (m_lshl (mw (μ 2) q k0) 8) (μ 2 (q + k0)) := if_pos (by omega)
                  have hmn : mn (μ 2) q (k0 + 1) = mn (μ 2) q k0 := if_neg (by omega)
                  exact ih (k0 + 1) _ _ (by omega) ⟨by omega, by rw [hcL, hcD]; omega⟩ hH3 (by show H 4 + 1 = _; omega) hH12 (by show H 13 + 1 = _; omega) (by rw [hmn]; first | rfl | exact hH14) (by rw [hmw, ← hH17]; first | rfl | exact hH17) (fun j j1 j2 j3 j4 j5 j6 => by
                    rw [← hfr j j1 j2 j3 j4 j5 j6]
                    first | rfl | (simp [fs, j1, j4, j5, j6]))
                    (by rw [← he]; exact (tre_t (b := μ 2) (d := d) (r := q + k0) (by omega)).symm)
                · skip
                  refine rn_aload_n (k' := 122) rfl rfl rfl ?_
                  refine rn_bipush (k' := 123) rfl rfl ?_
                  refine rn_aload_n (k' := 124) rfl rfl rfl ?_
                  refine rn_getI (k' := 125) rfl rfl K0_118 (by decide) rfl ?_
                  show Rn PT none kX12_next 125 [some (mR 118), some (mI (cc)), some (mI (sl)), some (mI (0))] [mI (H 14), mI (10), mR 118] (mkh (m_set (m_upd μ 118 H) 118 17 (m_lor (m_lshl (H 17) (8)) (μ 2 (q + k0)))) c s) _
                  refine rn_imulW (k' := 126) rfl rfl ?_
                  refine rn_aload_n (k' := 127) rfl rfl rfl ?_
                  rw [set_upd_eq (a := 118)]
                  refine rn_callP (k' := 128) (y := 172) (vs := [mR 118]) (S' := [mI (w32 (10 * (H 14))), mR 118]) (v := some (mI (μ 2 (q + k0)))) (h' := mkh (m_upd μ 118 ((fs H 17 (m_lor (m_lshl (H 17) (8)) (μ 2 (q + k0)))))) c s) rfl rfl rfl (peek_in (μ := μ) (c := c) (s := s) ht (H := (fs H 17 (m_lor (m_lshl (H 17) (8)) (μ 2 (q + k0))))) (n := n) (j := q + k0) (show H 3 = _ from hH3) (show H 4 = _ from hH4) (by omega) hn9) ?_
                  show Rn PT none kX12_next 128 [some (mR 118), some (mI (cc)), some (mI (sl)), some (mI (0))] [mI (μ 2 (q + k0)), mI (w32 (10 * (H 14))), mR 118] (mkh (m_upd μ 118 ((fs H 17 (m_lor (m_lshl (H 17) (8)) (μ 2 (q + k0)))))) c s) _
                  refine rn_iaddW (k' := 129) rfl rfl ?_
                  refine rn_bipush (k' := 130) rfl rfl ?_
                  refine rn_isubW (k' := 131) rfl rfl ?_
                  refine rn_putI (k' := 132) rfl rfl K0_118 (by decide) rfl ?_
                  refine rn_aload_n (k' := 133) rfl rfl rfl ?_
                  refine rn_dupR (k' := 134) rfl rfl ?_
                  refine rn_getI (k' := 135) rfl rfl K0_118 (by decide) rfl ?_
                  show Rn PT none kX12_next 135 [some (mR 118), some (mI (cc)), some (mI (sl)), some (mI (0))] [mI (((fs H 17 (m_lor (m_lshl (H 17) (8)) (μ 2 (q + k0))))) 13), mR 118] (mkh (m_set (m_upd μ 118 ((fs H 17 (m_lor (m_lshl (H 17) (8)) (μ 2 (q + k0)))))) 118 14 (w32 ((w32 ((w32 (10 * (H 14))) + (μ 2 (q + k0)))) - 48))) c s) _
                  refine rn_iconst (k' := 136) rfl rfl ?_
                  refine rn_iadd (k' := 137) rfl rfl (by first | omega | (simp [fs]; omega)) ?_
                  refine rn_putI (k' := 138) rfl rfl K0_118 (by decide) rfl ?_
                  refine rn_aload_n (k' := 139) rfl rfl rfl ?_
                  refine rn_dupR (k' := 140) rfl rfl ?_
                  refine rn_getI (k' := 141) rfl rfl K0_118 (by decide) rfl ?_
                  show Rn PT none kX12_next 141 [some (mR 118), some (mI (cc)), some (mI (sl)), some (mI (0))] [mI (((fs H 17 (m_lor (m_lshl (H 17) (8)) (μ 2 (q + k0))))) 4), mR 118] (mkh (m_set (m_set (m_upd μ 118 ((fs H 17 (m_lor (m_lshl (H 17) (8)) (μ 2 (q + k0)))))) 118 14 (w32 ((w32 ((w32 (10 * (H 14))) + (μ 2 (q + k0)))) - 48))) 118 13 ((((fs H 17 (m_lor (m_lshl (H 17) (8)) (μ 2 (q + k0))))) 13) + 1)) c s) _
                  refine rn_iconst (k' := 142) rfl rfl ?_
                  refine rn_iadd (k' := 143) rfl rfl (by first | omega | (simp [fs]; omega)) ?_
                  refine rn_putI (k' := 144) rfl rfl K0_118 (by decide) rfl ?_
                  refine rn_goto rfl ?_
                  show Rn PT none kX12_next 84 [some (mR 118), some (mI (cc)), some (mI (sl)), some (mI (0))] [] (mkh (m_set (m_set (m_set (m_upd μ 118 ((fs H 17 (m_lor (m_lshl (H 17) (8)) (μ 2 (q + k0)))))) 118 14 (w32 ((w32 ((w32 (10 * (H 14))) + (μ 2 (q + k0)))) - 48))) 118 13 ((((fs H 17 (m_lor (m_lshl (H 17) (8)) (μ 2 (q + k0))))) 13) + 1)) 118 4 ((((fs H 17 (m_lor (m_lshl (H 17) (8)) (μ 2 (q + k0))))) 4) + 1)) c s) _
                  rw [set_upd_eq (a := 118), set_upd_eq (a := 118), set_upd_eq (a := 118)]
                  have hsm : sm (μ 2 (q + k0)) := by omega
                  have hcL : cL (μ 2) q (k0 + 1) = cL (μ 2) q k0 + 1 := by show cL (μ 2) q k0 + (if _ then _ else _) = _; rw [if_pos hsm]
                  have hcD : cD (μ 2) q (k0 + 1) = cD (μ 2) q k0 + 0 := by show cD (μ 2) q k0 + (if _ then _ else _) = _; rw [if_pos hsm]
                  have hmw : mw (μ 2) q (k0 + 1) = m_lor (m_lshl (mw (μ 2) q k0) 8) (μ 2 (q + k0)) := if_pos (by omega)
                  have hmn : mn (μ 2) q (k0 + 1) = w32 (w32 (w32 (10 * mn (μ 2) q k0) + μ 2 (q + k0)) - 48) := if_pos (by omega)
                  exact ih (k0 + 1) _ _ (by omega) ⟨by omega, by rw [hcL, hcD]; omega⟩ hH3 (by show H 4 + 1 = _; omega) hH12 (by show H 13 + 1 = _; omega) (by rw [hmn, ← hH14]; first | rfl | exact hH14) (by rw [hmw, ← hH17]; first | rfl | exact hH17) (fun j j1 j2 j3 j4 j5 j6 => by
                    rw [← hfr j j1 j2 j3 j4 j5 j6]
                    first | rfl | (simp [fs, j1, j4, j5, j6]))
                    (by rw [← he]; exact (tre_t (b := μ 2) (d := d) (r := q + k0) (by omega)).symm)
            · skip
              refine rn_iconst (k' := 100) rfl rfl ?_
              refine rn_goto rfl ?_
              refine rn_istore_n (k' := 103) (L' := [some (mR 118), some (mI (cc)), some (mI (sl)), some (mI (1))]) rfl rfl (Nat.le_of_ble_eq_true rfl) rfl ?_
              refine rn_aload_n (k' := 104) rfl rfl rfl ?_
              refine rn_getI (k' := 105) rfl rfl K0_118 (by decide) rfl ?_
              show Rn PT none kX12_next 105 [some (mR 118), some (mI (cc)), some (mI (sl)), some (mI (1))] [mI (H 13)] (mkh (m_upd μ 118 H) c s) _
              refine rn_bipush (k' := 106) rfl rfl ?_
              refine rn_icmp_ge (k' := 107) rfl rfl (fun hc34 => ?_) (fun hc34 => ?_)
              · skip
                refine rn_aload_n (k' := 118) rfl rfl rfl ?_
                refine rn_getI (k' := 119) rfl rfl K0_118 (by decide) rfl ?_
                show Rn PT none kX12_next 119 [some (mR 118), some (mI (cc)), some (mI (sl)), some (mI (1))] [mI (H 13)] (mkh (m_upd μ 118 H) c s) _
                refine rn_iconst (k' := 120) rfl rfl ?_
                refine rn_icmp_ge (k' := 121) rfl rfl (fun hc35 => ?_) (fun hc35 => ?_)
                · skip
                  refine rn_aload_n (k' := 133) rfl rfl rfl ?_
                  refine rn_dupR (k' := 134) rfl rfl ?_
                  refine rn_getI (k' := 135) rfl rfl K0_118 (by decide) rfl ?_
                  show Rn PT none kX12_next 135 [some (mR 118), some (mI (cc)), some (mI (sl)), some (mI (1))] [mI (H 13), mR 118] (mkh (m_upd μ 118 H) c s) _
                  refine rn_iconst (k' := 136) rfl rfl ?_
                  refine rn_iadd (k' := 137) rfl rfl (by first | omega | (simp [fs]; omega)) ?_
                  refine rn_putI (k' := 138) rfl rfl K0_118 (by decide) rfl ?_
                  refine rn_aload_n (k' := 139) rfl rfl rfl ?_
                  refine rn_dupR (k' := 140) rfl rfl ?_
                  refine rn_getI (k' := 141) rfl rfl K0_118 (by decide) rfl ?_
                  show Rn PT none kX12_next 141 [some (mR 118), some (mI (cc)), some (mI (sl)), some (mI (1))] [mI (H 4), mR 118] (mkh (m_set (m_upd μ 118 H) 118 13 ((H 13) + 1)) c s) _
                  refine rn_iconst (k' := 142) rfl rfl ?_
                  refine rn_iadd (k' := 143) rfl rfl (by first | omega | (simp [fs]; omega)) ?_
                  refine rn_putI (k' := 144) rfl rfl K0_118 (by decide) rfl ?_
                  refine rn_goto rfl ?_
                  show Rn PT none kX12_next 84 [some (mR 118), some (mI (cc)), some (mI (sl)), some (mI (1))] [] (mkh (m_set (m_set (m_upd μ 118 H) 118 13 ((H 13) + 1)) 118 4 ((H 4) + 1)) c s) _
                  rw [set_upd_eq (a := 118), set_upd_eq (a := 118)]
                  have hsm : sm (μ 2 (q + k0)) := by omega
                  have hcL : cL (μ 2) q (k0 + 1) = cL (μ 2) q k0 + 1 := by show cL (μ 2) q k0 + (if _ then _ else _) = _; rw [if_pos hsm]
                  have hcD : cD (μ 2) q (k0 + 1) = cD (μ 2) q k0 + 0 := by show cD (μ 2) q k0 + (if _ then _ else _) = _; rw [if_pos hsm]
                  have hmw : mw (μ 2) q (k0 + 1) = mw (μ 2) q k0 := if_neg (by omega)
                  have hmn : mn (μ 2) q (k0 + 1) = mn (μ 2) q k0 := if_neg (by omega)
                  exact ih (k0 + 1) _ _ (by omega) ⟨by omega, by rw [hcL, hcD]; omega⟩ hH3 (by show H 4 + 1 = _; omega) hH12 (by show H 13 + 1 = _; omega) (by rw [hmn]; first | rfl | exact hH14) (by rw [hmw]; first | rfl | exact hH17) (fun j j1 j2 j3 j4 j5 j6 => by
                    rw [← hfr j j1 j2 j3 j4 j5 j6]
                    first | rfl | (simp [fs, j1, j4, j5, j6]))
                    (by rw [← he]; exact (tre_t (b := μ 2) (d := d) (r := q + k0) (by omega)).symm)
                · skip
                  refine rn_aload_n (k' := 122) rfl rfl rfl ?_
                  refine rn_bipush (k' := 123) rfl rfl ?_
                  refine rn_aload_n (k' := 124) rfl rfl rfl ?_
                  refine rn_getI (k' := 125) rfl rfl K0_118 (by decide) rfl ?_
                  show Rn PT none kX12_next 125 [some (mR 118), some (mI (cc)), some (mI (sl)), some (mI (1))] [mI (H 14), mI (10), mR 118] (mkh (m_upd μ 118 H) c s) _
                  refine rn_imulW (k' := 126) rfl rfl ?_
                  refine rn_aload_n (k' := 127) rfl rfl rfl ?_
                  refine rn_callP (k' := 128) (y := 172) (vs := [mR 118]) (S' := [mI (w32 (10 * (H 14))), mR 118]) (v := some (mI (μ 2 (q + k0)))) (h' := mkh (m_upd μ 118 H) c s) rfl rfl rfl (peek_in (μ := μ) (c := c) (s := s) ht (H := H) (n := n) (j := q + k0) (show H 3 = _ from hH3) (show H 4 = _ from hH4) (by omega) hn9) ?_
                  show Rn PT none kX12_next 128 [some (mR 118), some (mI (cc)), some (mI (sl)), some (mI (1))] [mI (μ 2 (q + k0)), mI (w32 (10 * (H 14))), mR 118] (mkh (m_upd μ 118 H) c s) _
                  refine rn_iaddW (k' := 129) rfl rfl ?_
                  refine rn_bipush (k' := 130) rfl rfl ?_
                  refine rn_isubW (k' := 131) rfl rfl ?_
                  refine rn_putI (k' := 132) rfl rfl K0_118 (by decide) rfl ?_
                  refine rn_aload_n (k' := 133) rfl rfl rfl ?_
                  refine rn_dupR (k' := 134) rfl rfl ?_
                  refine rn_getI (k' := 135) rfl rfl K0_118 (by decide) rfl ?_
                  show Rn PT none kX12_next 135 [some (mR 118), some (mI (cc)), some (mI (sl)), some (mI (1))] [mI (H 13), mR 118] (mkh (m_set (m_upd μ 118 H) 118 14 (w32 ((w32 ((w32 (10 * (H 14))) + (μ 2 (q + k0)))) - 48))) c s) _
                  refine rn_iconst (k' := 136) rfl rfl ?_
                  refine rn_iadd (k' := 137) rfl rfl (by first | omega | (simp [fs]; omega)) ?_
                  refine rn_putI (k' := 138) rfl rfl K0_118 (by decide) rfl ?_
                  refine rn_aload_n (k' := 139) rfl rfl rfl ?_
                  refine rn_dupR (k' := 140) rfl rfl ?_
                  refine rn_getI (k' := 141) rfl rfl K0_118 (by decide) rfl ?_
                  show Rn PT none kX12_next 141 [some (mR 118), some (mI (cc)), some (mI (sl)), some (mI (1))] [mI (H 4), mR 118] (mkh (m_set (m_set (m_upd μ 118 H) 118 14 (w32 ((w32 ((w32 (10 * (H 14))) + (μ 2 (q + k0)))) - 48))) 118 13 ((H 13) + 1)) c s) _
                  refine rn_iconst (k' := 142) rfl rfl ?_
                  refine rn_iadd (k' := 143) rfl rfl (by first | omega | (simp [fs]; omega)) ?_
                  refine rn_putI (k' := 144) rfl rfl K0_118 (by decide) rfl ?_
                  refine rn_goto rfl ?_
                  show Rn PT none kX12_next 84 [some (mR 118), some (mI (cc)), some (mI (sl)), some (mI (1))] [] (mkh (m_set (m_set (m_set (m_upd μ 118 H) 118 14 (w32 ((w32 ((w32 (10 * (H 14))) + (μ 2 (q + k0)))) - 48))) 118 13 ((H 13) + 1)) 118 4 ((H 4) + 1)) c s) _
                  rw [set_upd_eq (a := 118), set_upd_eq (a := 118), set_upd_eq (a := 118)]
                  have hsm : sm (μ 2 (q + k0)) := by omega
                  have hcL : cL (μ 2) q (k0 + 1) = cL (μ 2) q k0 + 1 := by show cL (μ 2) q k0 + (if _ then _ else _) = _; rw [if_pos hsm]
                  have hcD : cD (μ 2) q (k0 + 1) = cD (μ 2) q k0 + 0 := by show cD (μ 2) q k0 + (if _ then _ else _) = _; rw [if_pos hsm]
                  have hmw : mw (μ 2) q (k0 + 1) = mw (μ 2) q k0 := if_neg (by omega)
                  have hmn : mn (μ 2) q (k0 + 1) = w32 (w32 (w32 (10 * mn (μ 2) q k0) + μ 2 (q + k0)) - 48) := if_pos (by omega)
                  exact ih (k0 + 1) _ _ (by omega) ⟨by omega, by rw [hcL, hcD]; omega⟩ hH3 (by show H 4 + 1 = _; omega) hH12 (by show H 13 + 1 = _; omega) (by rw [hmn, ← hH14]; first | rfl | exact hH14) (by rw [hmw]; first | rfl | exact hH17) (fun j j1 j2 j3 j4 j5 j6 => by
                    rw [← hfr j j1 j2 j3 j4 j5 j6]
                    first | rfl | (simp [fs, j1, j4, j5, j6]))
                    (by rw [← he]; exact (tre_t (b := μ 2) (d := d) (r := q + k0) (by omega)).symm)
              · skip
                refine rn_aload_n (k' := 108) rfl rfl rfl ?_
                refine rn_aload_n (k' := 109) rfl rfl rfl ?_
                refine rn_getJ (k' := 110) rfl rfl K0_118 (by decide) rfl ?_
                show Rn PT none kX12_next 110 [some (mR 118), some (mI (cc)), some (mI (sl)), some (mI (1))] [mJ (H 17), mR 118] (mkh (m_upd μ 118 H) c s) _
                refine rn_bipush (k' := 111) rfl rfl ?_
                refine rn_lshl (k' := 112) rfl rfl ?_
                refine rn_aload_n (k' := 113) rfl rfl rfl ?_
                refine rn_callP (k' := 114) (y := 172) (vs := [mR 118]) (S' := [mJ (m_lshl (H 17) (8)), mR 118]) (v := some (mI (μ 2 (q + k0)))) (h' := mkh (m_upd μ 118 H) c s) rfl rfl rfl (peek_in (μ := μ) (c := c) (s := s) ht (H := H) (n := n) (j := q + k0) (show H 3 = _ from hH3) (show H 4 = _ from hH4) (by omega) hn9) ?_
                show Rn PT none kX12_next 114 [some (mR 118), some (mI (cc)), some (mI (sl)), some (mI (1))] [mI (μ 2 (q + k0)), mJ (m_lshl (H 17) (8)), mR 118] (mkh (m_upd μ 118 H) c s) _
                refine rn_i2l (k' := 115) rfl rfl ?_
                refine rn_lor (k' := 116) rfl rfl ?_
                refine rn_putJ (k' := 117) rfl rfl K0_118 (by decide) rfl ?_
                refine rn_aload_n (k' := 118) rfl rfl rfl ?_
                refine rn_getI (k' := 119) rfl rfl K0_118 (by decide) rfl ?_
                show Rn PT none kX12_next 119 [some (mR 118), some (mI (cc)), some (mI (sl)), some (mI (1))] [mI (H 13)] (mkh (m_set (m_upd μ 118 H) 118 17 (m_lor (m_lshl (H 17) (8)) (μ 2 (q + k0)))) c s) _
                refine rn_iconst (k' := 120) rfl rfl ?_
                refine rn_icmp_ge (k' := 121) rfl rfl (fun hc42 => ?_) (fun hc42 => ?_)
                · skip
                  refine rn_aload_n (k' := 133) rfl rfl rfl ?_
                  refine rn_dupR (k' := 134) rfl rfl ?_
                  refine rn_getI (k' := 135) rfl rfl K0_118 (by decide) rfl ?_
                  show Rn PT none kX12_next 135 [some (mR 118), some (mI (cc)), some (mI (sl)), some (mI (1))] [mI (H 13), mR 118] (mkh (m_set (m_upd μ 118 H) 118 17 (m_lor (m_lshl (H 17) (8)) (μ 2 (q + k0)))) c s) _
                  refine rn_iconst (k' := 136) rfl rfl ?_
                  refine rn_iadd (k' := 137) rfl rfl (by first | omega | (simp [fs]; omega)) ?_
                  refine rn_putI (k' := 138) rfl rfl K0_118 (by decide) rfl ?_
                  refine rn_aload_n (k' := 139) rfl rfl rfl ?_
                  refine rn_dupR (k' := 140) rfl rfl ?_
                  refine rn_getI (k' := 141) rfl rfl K0_118 (by decide) rfl ?_
                  show Rn PT none kX12_next 141 [some (mR 118), some (mI (cc)), some (mI (sl)), some (mI (1))] [mI (H 4), mR 118] (mkh (m_set (m_set (m_upd μ 118 H) 118 17 (m_lor (m_lshl (H 17) (8)) (μ 2 (q + k0)))) 118 13 ((H 13) + 1)) c s) _
                  refine rn_iconst (k' := 142) rfl rfl ?_
                  refine rn_iadd (k' := 143) rfl rfl (by first | omega | (simp [fs]; omega)) ?_
                  refine rn_putI (k' := 144) rfl rfl K0_118 (by decide) rfl ?_
                  refine rn_goto rfl ?_
                  show Rn PT none kX12_next 84 [some (mR 118), some (mI (cc)), some (mI (sl)), some (mI (1))] [] (mkh (m_set (m_set (m_set (m_upd μ 118 H) 118 17 (m_lor (m_lshl (H 17) (8)) (μ 2 (q + k0)))) 118 13 ((H 13) + 1)) 118 4 ((H 4) + 1)) c s) _
                  rw [set_upd_eq (a := 118), set_upd_eq (a := 118), set_upd_eq (a := 118)]
                  have hsm : sm (μ 2 (q + k0)) := by omega
                  have hcL : cL (μ 2) q (k0 + 1) = cL (μ 2) q k0 + 1 := by show cL (μ 2) q k0 + (if _ then _ else _) = _; rw [if_pos hsm]
                  have hcD : cD (μ 2) q (k0 + 1) = cD (μ 2) q k0 + 0 := by show cD (μ 2) q k0 + (if _ then _ else _) = _; rw [if_pos hsm]
                  have hmw : mw (μ 2) q (k0 + 1) = m_lor (m_lshl (mw (μ 2) q k0) 8) (μ 2 (q + k0)) := if_pos (by omega)
                  have hmn : mn (μ 2) q (k0 + 1) = mn (μ 2) q k0 := if_neg (by omega)
                  exact ih (k0 + 1) _ _ (by omega) ⟨by omega, by rw [hcL, hcD]; omega⟩ hH3 (by show H 4 + 1 = _; omega) hH12 (by show H 13 + 1 = _; omega) (by rw [hmn]; first | rfl | exact hH14) (by rw [hmw, ← hH17]; first | rfl | exact hH17) (fun j j1 j2 j3 j4 j5 j6 => by
                    rw [← hfr j j1 j2 j3 j4 j5 j6]
                    first | rfl | (simp [fs, j1, j4, j5, j6]))
                    (by rw [← he]; exact (tre_t (b := μ 2) (d := d) (r := q + k0) (by omega)).symm)
                · skip
                  refine rn_aload_n (k' := 122) rfl rfl rfl ?_
                  refine rn_bipush (k' := 123) rfl rfl ?_
                  refine rn_aload_n (k' := 124) rfl rfl rfl ?_
                  refine rn_getI (k' := 125) rfl rfl K0_118 (by decide) rfl ?_
                  show Rn PT none kX12_next 125 [some (mR 118), some (mI (cc)), some (mI (sl)), some (mI (1))] [mI (H 14), mI (10), mR 118] (mkh (m_set (m_upd μ 118 H) 118 17 (m_lor (m_lshl (H 17) (8)) (μ 2 (q + k0)))) c s) _
                  refine rn_imulW (k' := 126) rfl rfl ?_
                  refine rn_aload_n (k' := 127) rfl rfl rfl ?_
                  rw [set_upd_eq (a := 118)]
                  refine rn_callP (k' := 128) (y := 172) (vs := [mR 118]) (S' := [mI (w32 (10 * (H 14))), mR 118]) (v := some (mI (μ 2 (q + k0)))) (h' := mkh (m_upd μ 118 ((fs H 17 (m_lor (m_lshl (H 17) (8)) (μ 2 (q + k0)))))) c s) rfl rfl rfl (peek_in (μ := μ) (c := c) (s := s) ht (H := (fs H 17 (m_lor (m_lshl (H 17) (8)) (μ 2 (q + k0))))) (n := n) (j := q + k0) (show H 3 = _ from hH3) (show H 4 = _ from hH4) (by omega) hn9) ?_
                  show Rn PT none kX12_next 128 [some (mR 118), some (mI (cc)), some (mI (sl)), some (mI (1))] [mI (μ 2 (q + k0)), mI (w32 (10 * (H 14))), mR 118] (mkh (m_upd μ 118 ((fs H 17 (m_lor (m_lshl (H 17) (8)) (μ 2 (q + k0)))))) c s) _
                  refine rn_iaddW (k' := 129) rfl rfl ?_
                  refine rn_bipush (k' := 130) rfl rfl ?_
                  refine rn_isubW (k' := 131) rfl rfl ?_
                  refine rn_putI (k' := 132) rfl rfl K0_118 (by decide) rfl ?_
                  refine rn_aload_n (k' := 133) rfl rfl rfl ?_
                  refine rn_dupR (k' := 134) rfl rfl ?_
                  refine rn_getI (k' := 135) rfl rfl K0_118 (by decide) rfl ?_
                  show Rn PT none kX12_next 135 [some (mR 118), some (mI (cc)), some (mI (sl)), some (mI (1))] [mI (((fs H 17 (m_lor (m_lshl (H 17) (8)) (μ 2 (q + k0))))) 13), mR 118] (mkh (m_set (m_upd μ 118 ((fs H 17 (m_lor (m_lshl (H 17) (8)) (μ 2 (q + k0)))))) 118 14 (w32 ((w32 ((w32 (10 * (H 14))) + (μ 2 (q + k0)))) - 48))) c s) _
                  refine rn_iconst (k' := 136) rfl rfl ?_
                  refine rn_iadd (k' := 137) rfl rfl (by first | omega | (simp [fs]; omega)) ?_
                  refine rn_putI (k' := 138) rfl rfl K0_118 (by decide) rfl ?_
                  refine rn_aload_n (k' := 139) rfl rfl rfl ?_
                  refine rn_dupR (k' := 140) rfl rfl ?_
                  refine rn_getI (k' := 141) rfl rfl K0_118 (by decide) rfl ?_
                  show Rn PT none kX12_next 141 [some (mR 118), some (mI (cc)), some (mI (sl)), some (mI (1))] [mI (((fs H 17 (m_lor (m_lshl (H 17) (8)) (μ 2 (q + k0))))) 4), mR 118] (mkh (m_set (m_set (m_upd μ 118 ((fs H 17 (m_lor (m_lshl (H 17) (8)) (μ 2 (q + k0)))))) 118 14 (w32 ((w32 ((w32 (10 * (H 14))) + (μ 2 (q + k0)))) - 48))) 118 13 ((((fs H 17 (m_lor (m_lshl (H 17) (8)) (μ 2 (q + k0))))) 13) + 1)) c s) _
                  refine rn_iconst (k' := 142) rfl rfl ?_
                  refine rn_iadd (k' := 143) rfl rfl (by first | omega | (simp [fs]; omega)) ?_
                  refine rn_putI (k' := 144) rfl rfl K0_118 (by decide) rfl ?_
                  refine rn_goto rfl ?_
                  show Rn PT none kX12_next 84 [some (mR 118), some (mI (cc)), some (mI (sl)), some (mI (1))] [] (mkh (m_set (m_set (m_set (m_upd μ 118 ((fs H 17 (m_lor (m_lshl (H 17) (8)) (μ 2 (q + k0)))))) 118 14 (w32 ((w32 ((w32 (10 * (H 14))) + (μ 2 (q + k0)))) - 48))) 118 13 ((((fs H 17 (m_lor (m_lshl (H 17) (8)) (μ 2 (q + k0))))) 13) + 1)) 118 4 ((((fs H 17 (m_lor (m_lshl (H 17) (8)) (μ 2 (q + k0))))) 4) + 1)) c s) _
                  rw [set_upd_eq (a := 118), set_upd_eq (a := 118), set_upd_eq (a := 118)]
                  have hsm : sm (μ 2 (q + k0)) := by omega
                  have hcL : cL (μ 2) q (k0 + 1) = cL (μ 2) q k0 + 1 := by show cL (μ 2) q k0 + (if _ then _ else _) = _; rw [if_pos hsm]
                  have hcD : cD (μ 2) q (k0 + 1) = cD (μ 2) q k0 + 0 := by show cD (μ 2) q k0 + (if _ then _ else _) = _; rw [if_pos hsm]
                  have hmw : mw (μ 2) q (k0 + 1) = m_lor (m_lshl (mw (μ 2) q k0) 8) (μ 2 (q + k0)) := if_pos (by omega)
                  have hmn : mn (μ 2) q (k0 + 1) = w32 (w32 (w32 (10 * mn (μ 2) q k0) + μ 2 (q + k0)) - 48) := if_pos (by omega)
                  exact ih (k0 + 1) _ _ (by omega) ⟨by omega, by rw [hcL, hcD]; omega⟩ hH3 (by show H 4 + 1 = _; omega) hH12 (by show H 13 + 1 = _; omega) (by rw [hmn, ← hH14]; first | rfl | exact hH14) (by rw [hmw, ← hH17]; first | rfl | exact hH17) (fun j j1 j2 j3 j4 j5 j6 => by
                    rw [← hfr j j1 j2 j3 j4 j5 j6]
                    first | rfl | (simp [fs, j1, j4, j5, j6]))
                    (by rw [← he]; exact (tre_t (b := μ 2) (d := d) (r := q + k0) (by omega)).symm)
          · refine rn_callP (k' := 97) (y := 173) (vs := [mI (μ 2 (q + k0))]) (S' := []) (v := some (mI 0)) (h' := mkh (m_upd μ 118 H) c s) rfl rfl rfl (by have hz : Cl PT 173 [mI (μ 2 (q + k0))] (mkh (m_upd μ 118 H) c s) (fun r => r = (some (some (mI (if 97 ≤ μ 2 (q + k0) ∧ μ 2 (q + k0) ≤ 122 then 1 else 0))), mkh (m_upd μ 118 H) c s)) := c_X12_isSmall (a := μ 2 (q + k0)) (μ := (m_upd μ 118 H)) (c := c) (s := s); rw [if_neg hq18] at hz; exact hz) ?_
            show Rn PT none kX12_next 97 [some (mR 118), some (mI (cc)), some (mI (sl)), some (mI (al))] [mI (0)] (mkh (m_upd μ 118 H) c s) _
            refine rn_iload_n (k' := 98) rfl rfl rfl ?_
            refine rn_icmp_ne (k' := 99) rfl rfl (fun hc48 => ?_) (fun hc48 => ?_)
            · skip
              refine rn_iconst (k' := 102) rfl rfl ?_
              refine rn_istore_n (k' := 103) (L' := [some (mR 118), some (mI (cc)), some (mI (sl)), some (mI (0))]) rfl rfl (Nat.le_of_ble_eq_true rfl) rfl ?_
              refine rn_aload_n (k' := 104) rfl rfl rfl ?_
              refine rn_getI (k' := 105) rfl rfl K0_118 (by decide) rfl ?_
              show Rn PT none kX12_next 105 [some (mR 118), some (mI (cc)), some (mI (sl)), some (mI (0))] [mI (H 13)] (mkh (m_upd μ 118 H) c s) _
              refine rn_bipush (k' := 106) rfl rfl ?_
              refine rn_icmp_ge (k' := 107) rfl rfl (fun hc49 => ?_) (fun hc49 => ?_)
              · skip
                refine rn_aload_n (k' := 118) rfl rfl rfl ?_
                refine rn_getI (k' := 119) rfl rfl K0_118 (by decide) rfl ?_
                show Rn PT none kX12_next 119 [some (mR 118), some (mI (cc)), some (mI (sl)), some (mI (0))] [mI (H 13)] (mkh (m_upd μ 118 H) c s) _
                refine rn_iconst (k' := 120) rfl rfl ?_
                refine rn_icmp_ge (k' := 121) rfl rfl (fun hc50 => ?_) (fun hc50 => ?_)
                · skip
                  refine rn_aload_n (k' := 133) rfl rfl rfl ?_
                  refine rn_dupR (k' := 134) rfl rfl ?_
                  refine rn_getI (k' := 135) rfl rfl K0_118 (by decide) rfl ?_
                  show Rn PT none kX12_next 135 [some (mR 118), some (mI (cc)), some (mI (sl)), some (mI (0))] [mI (H 13), mR 118] (mkh (m_upd μ 118 H) c s) _
                  refine rn_iconst (k' := 136) rfl rfl ?_
                  refine rn_iadd (k' := 137) rfl rfl (by first | omega | (simp [fs]; omega)) ?_
                  refine rn_putI (k' := 138) rfl rfl K0_118 (by decide) rfl ?_
                  refine rn_aload_n (k' := 139) rfl rfl rfl ?_
                  refine rn_dupR (k' := 140) rfl rfl ?_
                  refine rn_getI (k' := 141) rfl rfl K0_118 (by decide) rfl ?_
                  show Rn PT none kX12_next 141 [some (mR 118), some (mI (cc)), some (mI (sl)), some (mI (0))] [mI (H 4), mR 118] (mkh (m_set (m_upd μ 118 H) 118 13 ((H 13) + 1)) c s) _
                  refine rn_iconst (k' := 142) rfl rfl ?_
                  refine rn_iadd (k' := 143) rfl rfl (by first | omega | (simp [fs]; omega)) ?_
                  refine rn_putI (k' := 144) rfl rfl K0_118 (by decide) rfl ?_
                  refine rn_goto rfl ?_
                  show Rn PT none kX12_next 84 [some (mR 118), some (mI (cc)), some (mI (sl)), some (mI (0))] [] (mkh (m_set (m_set (m_upd μ 118 H) 118 13 ((H 13) + 1)) 118 4 ((H 4) + 1)) c s) _
                  rw [set_upd_eq (a := 118), set_upd_eq (a := 118)]
                  have hsm : sm (μ 2 (q + k0)) := by omega
                  have hcL : cL (μ 2) q (k0 + 1) = cL (μ 2) q k0 + 1 := by show cL (μ 2) q k0 + (if _ then _ else _) = _; rw [if_pos hsm]
                  have hcD : cD (μ 2) q (k0 + 1) = cD (μ 2) q k0 + 0 := by show cD (μ 2) q k0 + (if _ then _ else _) = _; rw [if_pos hsm]
                  have hmw : mw (μ 2) q (k0 + 1) = mw (μ 2) q k0 := if_neg (by omega)
                  have hmn : mn (μ 2) q (k0 + 1) = mn (μ 2) q k0 := if_neg (by omega)
                  exact ih (k0 + 1) _ _ (by omega) ⟨by omega, by rw [hcL, hcD]; omega⟩ hH3 (by show H 4 + 1 = _; omega) hH12 (by show H 13 + 1 = _; omega) (by rw [hmn]; first | rfl | exact hH14) (by rw [hmw]; first | rfl | exact hH17) (fun j j1 j2 j3 j4 j5 j6 => by
                    rw [← hfr j j1 j2 j3 j4 j5 j6]
                    first | rfl | (simp [fs, j1, j4, j5, j6]))
                    (by rw [← he]; exact (tre_t (b := μ 2) (d := d) (r := q + k0) (by omega)).symm)
                · skip
                  refine rn_aload_n (k' := 122) rfl rfl rfl ?_
                  refine rn_bipush (k' := 123) rfl rfl ?_
                  refine rn_aload_n (k' := 124) rfl rfl rfl ?_
                  refine rn_getI (k' := 125) rfl rfl K0_118 (by decide) rfl ?_
                  show Rn PT none kX12_next 125 [some (mR 118), some (mI (cc)), some (mI (sl)), some (mI (0))] [mI (H 14), mI (10), mR 118] (mkh (m_upd μ 118 H) c s) _
                  refine rn_imulW (k' := 126) rfl rfl ?_
                  refine rn_aload_n (k' := 127) rfl rfl rfl ?_
                  refine rn_callP (k' := 128) (y := 172) (vs := [mR 118]) (S' := [mI (w32 (10 * (H 14))), mR 118]) (v := some (mI (μ 2 (q + k0)))) (h' := mkh (m_upd μ 118 H) c s) rfl rfl rfl (peek_in (μ := μ) (c := c) (s := s) ht (H := H) (n := n) (j := q + k0) (show H 3 = _ from hH3) (show H 4 = _ from hH4) (by omega) hn9) ?_
                  show Rn PT none kX12_next 128 [some (mR 118), some (mI (cc)), some (mI (sl)), some (mI (0))] [mI (μ 2 (q + k0)), mI (w32 (10 * (H 14))), mR 118] (mkh (m_upd μ 118 H) c s) _
                  refine rn_iaddW (k' := 129) rfl rfl ?_
                  refine rn_bipush (k' := 130) rfl rfl ?_
                  refine rn_isubW (k' := 131) rfl rfl ?_
                  refine rn_putI (k' := 132) rfl rfl K0_118 (by decide) rfl ?_
                  refine rn_aload_n (k' := 133) rfl rfl rfl ?_
                  refine rn_dupR (k' := 134) rfl rfl ?_
                  refine rn_getI (k' := 135) rfl rfl K0_118 (by decide) rfl ?_
                  show Rn PT none kX12_next 135 [some (mR 118), some (mI (cc)), some (mI (sl)), some (mI (0))] [mI (H 13), mR 118] (mkh (m_set (m_upd μ 118 H) 118 14 (w32 ((w32 ((w32 (10 * (H 14))) + (μ 2 (q + k0)))) - 48))) c s) _
                  refine rn_iconst (k' := 136) rfl rfl ?_
                  refine rn_iadd (k' := 137) rfl rfl (by first | omega | (simp [fs]; omega)) ?_
                  refine rn_putI (k' := 138) rfl rfl K0_118 (by decide) rfl ?_
                  refine rn_aload_n (k' := 139) rfl rfl rfl ?_
                  refine rn_dupR (k' := 140) rfl rfl ?_
                  refine rn_getI (k' := 141) rfl rfl K0_118 (by decide) rfl ?_
                  show Rn PT none kX12_next 141 [some (mR 118), some (mI (cc)), some (mI (sl)), some (mI (0))] [mI (H 4), mR 118] (mkh (m_set (m_set (m_upd μ 118 H) 118 14 (w32 ((w32 ((w32 (10 * (H 14))) + (μ 2 (q + k0)))) - 48))) 118 13 ((H 13) + 1)) c s) _
                  refine rn_iconst (k' := 142) rfl rfl ?_
                  refine rn_iadd (k' := 143) rfl rfl (by first | omega | (simp [fs]; omega)) ?_
                  refine rn_putI (k' := 144) rfl rfl K0_118 (by decide) rfl ?_
                  refine rn_goto rfl ?_
                  show Rn PT none kX12_next 84 [some (mR 118), some (mI (cc)), some (mI (sl)), some (mI (0))] [] (mkh (m_set (m_set (m_set (m_upd μ 118 H) 118 14 (w32 ((w32 ((w32 (10 * (H 14))) + (μ 2 (q + k0)))) - 48))) 118 13 ((H 13) + 1)) 118 4 ((H 4) + 1)) c s) _
                  rw [set_upd_eq (a := 118), set_upd_eq (a := 118), set_upd_eq (a := 118)]
                  have hsm : sm (μ 2 (q + k0)) := by omega
                  have hcL : cL (μ 2) q (k0 + 1) = cL (μ 2) q k0 + 1 := by show cL (μ 2) q k0 + (if _ then _ else _) = _; rw [if_pos hsm]
                  have hcD : cD (μ 2) q (k0 + 1) = cD (μ 2) q k0 + 0 := by show cD (μ 2) q k0 + (if _ then _ else _) = _; rw [if_pos hsm]
                  have hmw : mw (μ 2) q (k0 + 1) = mw (μ 2) q k0 := if_neg (by omega)
                  have hmn : mn (μ 2) q (k0 + 1) = w32 (w32 (w32 (10 * mn (μ 2) q k0) + μ 2 (q + k0)) - 48) := if_pos (by omega)
                  exact ih (k0 + 1) _ _ (by omega) ⟨by omega, by rw [hcL, hcD]; omega⟩ hH3 (by show H 4 + 1 = _; omega) hH12 (by show H 13 + 1 = _; omega) (by rw [hmn, ← hH14]; first | rfl | exact hH14) (by rw [hmw]; first | rfl | exact hH17) (fun j j1 j2 j3 j4 j5 j6 => by
                    rw [← hfr j j1 j2 j3 j4 j5 j6]
                    first | rfl | (simp [fs, j1, j4, j5, j6]))
                    (by rw [← he]; exact (tre_t (b := μ 2) (d := d) (r := q + k0) (by omega)).symm)
              · skip
                refine rn_aload_n (k' := 108) rfl rfl rfl ?_
                refine rn_aload_n (k' := 109) rfl rfl rfl ?_
                refine rn_getJ (k' := 110) rfl rfl K0_118 (by decide) rfl ?_
                show Rn PT none kX12_next 110 [some (mR 118), some (mI (cc)), some (mI (sl)), some (mI (0))] [mJ (H 17), mR 118] (mkh (m_upd μ 118 H) c s) _
                refine rn_bipush (k' := 111) rfl rfl ?_
                refine rn_lshl (k' := 112) rfl rfl ?_
                refine rn_aload_n (k' := 113) rfl rfl rfl ?_
                refine rn_callP (k' := 114) (y := 172) (vs := [mR 118]) (S' := [mJ (m_lshl (H 17) (8)), mR 118]) (v := some (mI (μ 2 (q + k0)))) (h' := mkh (m_upd μ 118 H) c s) rfl rfl rfl (peek_in (μ := μ) (c := c) (s := s) ht (H := H) (n := n) (j := q + k0) (show H 3 = _ from hH3) (show H 4 = _ from hH4) (by omega) hn9) ?_
                show Rn PT none kX12_next 114 [some (mR 118), some (mI (cc)), some (mI (sl)), some (mI (0))] [mI (μ 2 (q + k0)), mJ (m_lshl (H 17) (8)), mR 118] (mkh (m_upd μ 118 H) c s) _
                refine rn_i2l (k' := 115) rfl rfl ?_
                refine rn_lor (k' := 116) rfl rfl ?_
                refine rn_putJ (k' := 117) rfl rfl K0_118 (by decide) rfl ?_
                refine rn_aload_n (k' := 118) rfl rfl rfl ?_
                refine rn_getI (k' := 119) rfl rfl K0_118 (by decide) rfl ?_
                show Rn PT none kX12_next 119 [some (mR 118), some (mI (cc)), some (mI (sl)), some (mI (0))] [mI (H 13)] (mkh (m_set (m_upd μ 118 H) 118 17 (m_lor (m_lshl (H 17) (8)) (μ 2 (q + k0)))) c s) _
                refine rn_iconst (k' := 120) rfl rfl ?_
                refine rn_icmp_ge (k' := 121) rfl rfl (fun hc57 => ?_) (fun hc57 => ?_)
                · skip
                  refine rn_aload_n (k' := 133) rfl rfl rfl ?_
                  refine rn_dupR (k' := 134) rfl rfl ?_
                  refine rn_getI (k' := 135) rfl rfl K0_118 (by decide) rfl ?_
                  show Rn PT none kX12_next 135 [some (mR 118), some (mI (cc)), some (mI (sl)), some (mI (0))] [mI (H 13), mR 118] (mkh (m_set (m_upd μ 118 H) 118 17 (m_lor (m_lshl (H 17) (8)) (μ 2 (q + k0)))) c s) _
                  refine rn_iconst (k' := 136) rfl rfl ?_
                  refine rn_iadd (k' := 137) rfl rfl (by first | omega | (simp [fs]; omega)) ?_
                  refine rn_putI (k' := 138) rfl rfl K0_118 (by decide) rfl ?_
                  refine rn_aload_n (k' := 139) rfl rfl rfl ?_
                  refine rn_dupR (k' := 140) rfl rfl ?_
                  refine rn_getI (k' := 141) rfl rfl K0_118 (by decide) rfl ?_
                  show Rn PT none kX12_next 141 [some (mR 118), some (mI (cc)), some (mI (sl)), some (mI (0))] [mI (H 4), mR 118] (mkh (m_set (m_set (m_upd μ 118 H) 118 17 (m_lor (m_lshl (H 17) (8)) (μ 2 (q + k0)))) 118 13 ((H 13) + 1)) c s) _
                  refine rn_iconst (k' := 142) rfl rfl ?_
                  refine rn_iadd (k' := 143) rfl rfl (by first | omega | (simp [fs]; omega)) ?_
                  refine rn_putI (k' := 144) rfl rfl K0_118 (by decide) rfl ?_
                  refine rn_goto rfl ?_
                  show Rn PT none kX12_next 84 [some (mR 118), some (mI (cc)), some (mI (sl)), some (mI (0))] [] (mkh (m_set (m_set (m_set (m_upd μ 118 H) 118 17 (m_lor (m_lshl (H 17) (8)) (μ 2 (q + k0)))) 118 13 ((H 13) + 1)) 118 4 ((H 4) + 1)) c s) _
                  rw [set_upd_eq (a := 118), set_upd_eq (a := 118), set_upd_eq (a := 118)]
                  have hsm : sm (μ 2 (q + k0)) := by omega
                  have hcL : cL (μ 2) q (k0 + 1) = cL (μ 2) q k0 + 1 := by show cL (μ 2) q k0 + (if _ then _ else _) = _; rw [if_pos hsm]
                  have hcD : cD (μ 2) q (k0 + 1) = cD (μ 2) q k0 + 0 := by show cD (μ 2) q k0 + (if _ then _ else _) = _; rw [if_pos hsm]
                  have hmw : mw (μ 2) q (k0 + 1) = m_lor (m_lshl (mw (μ 2) q k0) 8) (μ 2 (q + k0)) := if_pos (by omega)
                  have hmn : mn (μ 2) q (k0 + 1) = mn (μ 2) q k0 := if_neg (by omega)
                  exact ih (k0 + 1) _ _ (by omega) ⟨by omega, by rw [hcL, hcD]; omega⟩ hH3 (by show H 4 + 1 = _; omega) hH12 (by show H 13 + 1 = _; omega) (by rw [hmn]; first | rfl | exact hH14) (by rw [hmw, ← hH17]; first | rfl | exact hH17) (fun j j1 j2 j3 j4 j5 j6 => by
                    rw [← hfr j j1 j2 j3 j4 j5 j6]
                    first | rfl | (simp [fs, j1, j4, j5, j6]))
                    (by rw [← he]; exact (tre_t (b := μ 2) (d := d) (r := q + k0) (by omega)).symm)
                · skip
                  refine rn_aload_n (k' := 122) rfl rfl rfl ?_
                  refine rn_bipush (k' := 123) rfl rfl ?_
                  refine rn_aload_n (k' := 124) rfl rfl rfl ?_
                  refine rn_getI (k' := 125) rfl rfl K0_118 (by decide) rfl ?_
                  show Rn PT none kX12_next 125 [some (mR 118), some (mI (cc)), some (mI (sl)), some (mI (0))] [mI (H 14), mI (10), mR 118] (mkh (m_set (m_upd μ 118 H) 118 17 (m_lor (m_lshl (H 17) (8)) (μ 2 (q + k0)))) c s) _
                  refine rn_imulW (k' := 126) rfl rfl ?_
                  refine rn_aload_n (k' := 127) rfl rfl rfl ?_
                  rw [set_upd_eq (a := 118)]
                  refine rn_callP (k' := 128) (y := 172) (vs := [mR 118]) (S' := [mI (w32 (10 * (H 14))), mR 118]) (v := some (mI (μ 2 (q + k0)))) (h' := mkh (m_upd μ 118 ((fs H 17 (m_lor (m_lshl (H 17) (8)) (μ 2 (q + k0)))))) c s) rfl rfl rfl (peek_in (μ := μ) (c := c) (s := s) ht (H := (fs H 17 (m_lor (m_lshl (H 17) (8)) (μ 2 (q + k0))))) (n := n) (j := q + k0) (show H 3 = _ from hH3) (show H 4 = _ from hH4) (by omega) hn9) ?_
                  show Rn PT none kX12_next 128 [some (mR 118), some (mI (cc)), some (mI (sl)), some (mI (0))] [mI (μ 2 (q + k0)), mI (w32 (10 * (H 14))), mR 118] (mkh (m_upd μ 118 ((fs H 17 (m_lor (m_lshl (H 17) (8)) (μ 2 (q + k0)))))) c s) _
                  refine rn_iaddW (k' := 129) rfl rfl ?_
                  refine rn_bipush (k' := 130) rfl rfl ?_
                  refine rn_isubW (k' := 131) rfl rfl ?_
                  refine rn_putI (k' := 132) rfl rfl K0_118 (by decide) rfl ?_
                  refine rn_aload_n (k' := 133) rfl rfl rfl ?_
                  refine rn_dupR (k' := 134) rfl rfl ?_
                  refine rn_getI (k' := 135) rfl rfl K0_118 (by decide) rfl ?_
                  show Rn PT none kX12_next 135 [some (mR 118), some (mI (cc)), some (mI (sl)), some (mI (0))] [mI (((fs H 17 (m_lor (m_lshl (H 17) (8)) (μ 2 (q + k0))))) 13), mR 118] (mkh (m_set (m_upd μ 118 ((fs H 17 (m_lor (m_lshl (H 17) (8)) (μ 2 (q + k0)))))) 118 14 (w32 ((w32 ((w32 (10 * (H 14))) + (μ 2 (q + k0)))) - 48))) c s) _
                  refine rn_iconst (k' := 136) rfl rfl ?_
                  refine rn_iadd (k' := 137) rfl rfl (by first | omega | (simp [fs]; omega)) ?_
                  refine rn_putI (k' := 138) rfl rfl K0_118 (by decide) rfl ?_
                  refine rn_aload_n (k' := 139) rfl rfl rfl ?_
                  refine rn_dupR (k' := 140) rfl rfl ?_
                  refine rn_getI (k' := 141) rfl rfl K0_118 (by decide) rfl ?_
                  show Rn PT none kX12_next 141 [some (mR 118), some (mI (cc)), some (mI (sl)), some (mI (0))] [mI (((fs H 17 (m_lor (m_lshl (H 17) (8)) (μ 2 (q + k0))))) 4), mR 118] (mkh (m_set (m_set (m_upd μ 118 ((fs H 17 (m_lor (m_lshl (H 17) (8)) (μ 2 (q + k0)))))) 118 14 (w32 ((w32 ((w32 (10 * (H 14))) + (μ 2 (q + k0)))) - 48))) 118 13 ((((fs H 17 (m_lor (m_lshl (H 17) (8)) (μ 2 (q + k0))))) 13) + 1)) c s) _
                  refine rn_iconst (k' := 142) rfl rfl ?_
                  refine rn_iadd (k' := 143) rfl rfl (by first | omega | (simp [fs]; omega)) ?_
                  refine rn_putI (k' := 144) rfl rfl K0_118 (by decide) rfl ?_
                  refine rn_goto rfl ?_
                  show Rn PT none kX12_next 84 [some (mR 118), some (mI (cc)), some (mI (sl)), some (mI (0))] [] (mkh (m_set (m_set (m_set (m_upd μ 118 ((fs H 17 (m_lor (m_lshl (H 17) (8)) (μ 2 (q + k0)))))) 118 14 (w32 ((w32 ((w32 (10 * (H 14))) + (μ 2 (q + k0)))) - 48))) 118 13 ((((fs H 17 (m_lor (m_lshl (H 17) (8)) (μ 2 (q + k0))))) 13) + 1)) 118 4 ((((fs H 17 (m_lor (m_lshl (H 17) (8)) (μ 2 (q + k0))))) 4) + 1)) c s) _
                  rw [set_upd_eq (a := 118), set_upd_eq (a := 118), set_upd_eq (a := 118)]
                  have hsm : sm (μ 2 (q + k0)) := by omega
                  have hcL : cL (μ 2) q (k0 + 1) = cL (μ 2) q k0 + 1 := by show cL (μ 2) q k0 + (if _ then _ else _) = _; rw [if_pos hsm]
                  have hcD : cD (μ 2) q (k0 + 1) = cD (μ 2) q k0 + 0 := by show cD (μ 2) q k0 + (if _ then _ else _) = _; rw [if_pos hsm]
                  have hmw : mw (μ 2) q (k0 + 1) = m_lor (m_lshl (mw (μ 2) q k0) 8) (μ 2 (q + k0)) := if_pos (by omega)
                  have hmn : mn (μ 2) q (k0 + 1) = w32 (w32 (w32 (10 * mn (μ 2) q k0) + μ 2 (q + k0)) - 48) := if_pos (by omega)
                  exact ih (k0 + 1) _ _ (by omega) ⟨by omega, by rw [hcL, hcD]; omega⟩ hH3 (by show H 4 + 1 = _; omega) hH12 (by show H 13 + 1 = _; omega) (by rw [hmn, ← hH14]; first | rfl | exact hH14) (by rw [hmw, ← hH17]; first | rfl | exact hH17) (fun j j1 j2 j3 j4 j5 j6 => by
                    rw [← hfr j j1 j2 j3 j4 j5 j6]
                    first | rfl | (simp [fs, j1, j4, j5, j6]))
                    (by rw [← he]; exact (tre_t (b := μ 2) (d := d) (r := q + k0) (by omega)).symm)
            · skip
              refine rn_iconst (k' := 100) rfl rfl ?_
              refine rn_goto rfl ?_
              refine rn_istore_n (k' := 103) (L' := [some (mR 118), some (mI (cc)), some (mI (sl)), some (mI (1))]) rfl rfl (Nat.le_of_ble_eq_true rfl) rfl ?_
              refine rn_aload_n (k' := 104) rfl rfl rfl ?_
              refine rn_getI (k' := 105) rfl rfl K0_118 (by decide) rfl ?_
              show Rn PT none kX12_next 105 [some (mR 118), some (mI (cc)), some (mI (sl)), some (mI (1))] [mI (H 13)] (mkh (m_upd μ 118 H) c s) _
              refine rn_bipush (k' := 106) rfl rfl ?_
              refine rn_icmp_ge (k' := 107) rfl rfl (fun hc63 => ?_) (fun hc63 => ?_)
              · skip
                refine rn_aload_n (k' := 118) rfl rfl rfl ?_
                refine rn_getI (k' := 119) rfl rfl K0_118 (by decide) rfl ?_
                show Rn PT none kX12_next 119 [some (mR 118), some (mI (cc)), some (mI (sl)), some (mI (1))] [mI (H 13)] (mkh (m_upd μ 118 H) c s) _
                refine rn_iconst (k' := 120) rfl rfl ?_
                refine rn_icmp_ge (k' := 121) rfl rfl (fun hc64 => ?_) (fun hc64 => ?_)
                · skip
                  refine rn_aload_n (k' := 133) rfl rfl rfl ?_
                  refine rn_dupR (k' := 134) rfl rfl ?_
                  refine rn_getI (k' := 135) rfl rfl K0_118 (by decide) rfl ?_
                  show Rn PT none kX12_next 135 [some (mR 118), some (mI (cc)), some (mI (sl)), some (mI (1))] [mI (H 13), mR 118] (mkh (m_upd μ 118 H) c s) _
                  refine rn_iconst (k' := 136) rfl rfl ?_
                  refine rn_iadd (k' := 137) rfl rfl (by first | omega | (simp [fs]; omega)) ?_
                  refine rn_putI (k' := 138) rfl rfl K0_118 (by decide) rfl ?_
                  refine rn_aload_n (k' := 139) rfl rfl rfl ?_
                  refine rn_dupR (k' := 140) rfl rfl ?_
                  refine rn_getI (k' := 141) rfl rfl K0_118 (by decide) rfl ?_
                  show Rn PT none kX12_next 141 [some (mR 118), some (mI (cc)), some (mI (sl)), some (mI (1))] [mI (H 4), mR 118] (mkh (m_set (m_upd μ 118 H) 118 13 ((H 13) + 1)) c s) _
                  refine rn_iconst (k' := 142) rfl rfl ?_
                  refine rn_iadd (k' := 143) rfl rfl (by first | omega | (simp [fs]; omega)) ?_
                  refine rn_putI (k' := 144) rfl rfl K0_118 (by decide) rfl ?_
                  refine rn_goto rfl ?_
                  show Rn PT none kX12_next 84 [some (mR 118), some (mI (cc)), some (mI (sl)), some (mI (1))] [] (mkh (m_set (m_set (m_upd μ 118 H) 118 13 ((H 13) + 1)) 118 4 ((H 4) + 1)) c s) _
                  rw [set_upd_eq (a := 118), set_upd_eq (a := 118)]
                  have hsm : sm (μ 2 (q + k0)) := by omega
                  have hcL : cL (μ 2) q (k0 + 1) = cL (μ 2) q k0 + 1 := by show cL (μ 2) q k0 + (if _ then _ else _) = _; rw [if_pos hsm]
                  have hcD : cD (μ 2) q (k0 + 1) = cD (μ 2) q k0 + 0 := by show cD (μ 2) q k0 + (if _ then _ else _) = _; rw [if_pos hsm]
                  have hmw : mw (μ 2) q (k0 + 1) = mw (μ 2) q k0 := if_neg (by omega)
                  have hmn : mn (μ 2) q (k0 + 1) = mn (μ 2) q k0 := if_neg (by omega)
                  exact ih (k0 + 1) _ _ (by omega) ⟨by omega, by rw [hcL, hcD]; omega⟩ hH3 (by show H 4 + 1 = _; omega) hH12 (by show H 13 + 1 = _; omega) (by rw [hmn]; first | rfl | exact hH14) (by rw [hmw]; first | rfl | exact hH17) (fun j j1 j2 j3 j4 j5 j6 => by
                    rw [← hfr j j1 j2 j3 j4 j5 j6]
                    first | rfl | (simp [fs, j1, j4, j5, j6]))
                    (by rw [← he]; exact (tre_t (b := μ 2) (d := d) (r := q + k0) (by omega)).symm)
                · skip
                  refine rn_aload_n (k' := 122) rfl rfl rfl ?_
                  refine rn_bipush (k' := 123) rfl rfl ?_
                  refine rn_aload_n (k' := 124) rfl rfl rfl ?_
                  refine rn_getI (k' := 125) rfl rfl K0_118 (by decide) rfl ?_
                  show Rn PT none kX12_next 125 [some (mR 118), some (mI (cc)), some (mI (sl)), some (mI (1))] [mI (H 14), mI (10), mR 118] (mkh (m_upd μ 118 H) c s) _
                  refine rn_imulW (k' := 126) rfl rfl ?_
                  refine rn_aload_n (k' := 127) rfl rfl rfl ?_
                  refine rn_callP (k' := 128) (y := 172) (vs := [mR 118]) (S' := [mI (w32 (10 * (H 14))), mR 118]) (v := some (mI (μ 2 (q + k0)))) (h' := mkh (m_upd μ 118 H) c s) rfl rfl rfl (peek_in (μ := μ) (c := c) (s := s) ht (H := H) (n := n) (j := q + k0) (show H 3 = _ from hH3) (show H 4 = _ from hH4) (by omega) hn9) ?_
                  show Rn PT none kX12_next 128 [some (mR 118), some (mI (cc)), some (mI (sl)), some (mI (1))] [mI (μ 2 (q + k0)), mI (w32 (10 * (H 14))), mR 118] (mkh (m_upd μ 118 H) c s) _
                  refine rn_iaddW (k' := 129) rfl rfl ?_
                  refine rn_bipush (k' := 130) rfl rfl ?_
                  refine rn_isubW (k' := 131) rfl rfl ?_
                  refine rn_putI (k' := 132) rfl rfl K0_118 (by decide) rfl ?_
                  refine rn_aload_n (k' := 133) rfl rfl rfl ?_
                  refine rn_dupR (k' := 134) rfl rfl ?_
                  refine rn_getI (k' := 135) rfl rfl K0_118 (by decide) rfl ?_
                  show Rn PT none kX12_next 135 [some (mR 118), some (mI (cc)), some (mI (sl)), some (mI (1))] [mI (H 13), mR 118] (mkh (m_set (m_upd μ 118 H) 118 14 (w32 ((w32 ((w32 (10 * (H 14))) + (μ 2 (q + k0)))) - 48))) c s) _
                  refine rn_iconst (k' := 136) rfl rfl ?_
                  refine rn_iadd (k' := 137) rfl rfl (by first | omega | (simp [fs]; omega)) ?_
                  refine rn_putI (k' := 138) rfl rfl K0_118 (by decide) rfl ?_
                  refine rn_aload_n (k' := 139) rfl rfl rfl ?_
                  refine rn_dupR (k' := 140) rfl rfl ?_
                  refine rn_getI (k' := 141) rfl rfl K0_118 (by decide) rfl ?_
                  show Rn PT none kX12_next 141 [some (mR 118), some (mI (cc)), some (mI (sl)), some (mI (1))] [mI (H 4), mR 118] (mkh (m_set (m_set (m_upd μ 118 H) 118 14 (w32 ((w32 ((w32 (10 * (H 14))) + (μ 2 (q + k0)))) - 48))) 118 13 ((H 13) + 1)) c s) _
                  refine rn_iconst (k' := 142) rfl rfl ?_
                  refine rn_iadd (k' := 143) rfl rfl (by first | omega | (simp [fs]; omega)) ?_
                  refine rn_putI (k' := 144) rfl rfl K0_118 (by decide) rfl ?_
                  refine rn_goto rfl ?_
                  show Rn PT none kX12_next 84 [some (mR 118), some (mI (cc)), some (mI (sl)), some (mI (1))] [] (mkh (m_set (m_set (m_set (m_upd μ 118 H) 118 14 (w32 ((w32 ((w32 (10 * (H 14))) + (μ 2 (q + k0)))) - 48))) 118 13 ((H 13) + 1)) 118 4 ((H 4) + 1)) c s) _
                  rw [set_upd_eq (a := 118), set_upd_eq (a := 118), set_upd_eq (a := 118)]
                  have hsm : sm (μ 2 (q + k0)) := by omega
                  have hcL : cL (μ 2) q (k0 + 1) = cL (μ 2) q k0 + 1 := by show cL (μ 2) q k0 + (if _ then _ else _) = _; rw [if_pos hsm]
                  have hcD : cD (μ 2) q (k0 + 1) = cD (μ 2) q k0 + 0 := by show cD (μ 2) q k0 + (if _ then _ else _) = _; rw [if_pos hsm]
                  have hmw : mw (μ 2) q (k0 + 1) = mw (μ 2) q k0 := if_neg (by omega)
                  have hmn : mn (μ 2) q (k0 + 1) = w32 (w32 (w32 (10 * mn (μ 2) q k0) + μ 2 (q + k0)) - 48) := if_pos (by omega)
                  exact ih (k0 + 1) _ _ (by omega) ⟨by omega, by rw [hcL, hcD]; omega⟩ hH3 (by show H 4 + 1 = _; omega) hH12 (by show H 13 + 1 = _; omega) (by rw [hmn, ← hH14]; first | rfl | exact hH14) (by rw [hmw]; first | rfl | exact hH17) (fun j j1 j2 j3 j4 j5 j6 => by
                    rw [← hfr j j1 j2 j3 j4 j5 j6]
                    first | rfl | (simp [fs, j1, j4, j5, j6]))
                    (by rw [← he]; exact (tre_t (b := μ 2) (d := d) (r := q + k0) (by omega)).symm)
              · skip
                refine rn_aload_n (k' := 108) rfl rfl rfl ?_
                refine rn_aload_n (k' := 109) rfl rfl rfl ?_
                refine rn_getJ (k' := 110) rfl rfl K0_118 (by decide) rfl ?_
                show Rn PT none kX12_next 110 [some (mR 118), some (mI (cc)), some (mI (sl)), some (mI (1))] [mJ (H 17), mR 118] (mkh (m_upd μ 118 H) c s) _
                refine rn_bipush (k' := 111) rfl rfl ?_
                refine rn_lshl (k' := 112) rfl rfl ?_
                refine rn_aload_n (k' := 113) rfl rfl rfl ?_
                refine rn_callP (k' := 114) (y := 172) (vs := [mR 118]) (S' := [mJ (m_lshl (H 17) (8)), mR 118]) (v := some (mI (μ 2 (q + k0)))) (h' := mkh (m_upd μ 118 H) c s) rfl rfl rfl (peek_in (μ := μ) (c := c) (s := s) ht (H := H) (n := n) (j := q + k0) (show H 3 = _ from hH3) (show H 4 = _ from hH4) (by omega) hn9) ?_
                show Rn PT none kX12_next 114 [some (mR 118), some (mI (cc)), some (mI (sl)), some (mI (1))] [mI (μ 2 (q + k0)), mJ (m_lshl (H 17) (8)), mR 118] (mkh (m_upd μ 118 H) c s) _
                refine rn_i2l (k' := 115) rfl rfl ?_
                refine rn_lor (k' := 116) rfl rfl ?_
                refine rn_putJ (k' := 117) rfl rfl K0_118 (by decide) rfl ?_
                refine rn_aload_n (k' := 118) rfl rfl rfl ?_
                refine rn_getI (k' := 119) rfl rfl K0_118 (by decide) rfl ?_
                show Rn PT none kX12_next 119 [some (mR 118), some (mI (cc)), some (mI (sl)), some (mI (1))] [mI (H 13)] (mkh (m_set (m_upd μ 118 H) 118 17 (m_lor (m_lshl (H 17) (8)) (μ 2 (q + k0)))) c s) _
                refine rn_iconst (k' := 120) rfl rfl ?_
                refine rn_icmp_ge (k' := 121) rfl rfl (fun hc71 => ?_) (fun hc71 => ?_)
                · skip
                  refine rn_aload_n (k' := 133) rfl rfl rfl ?_
                  refine rn_dupR (k' := 134) rfl rfl ?_
                  refine rn_getI (k' := 135) rfl rfl K0_118 (by decide) rfl ?_
                  show Rn PT none kX12_next 135 [some (mR 118), some (mI (cc)), some (mI (sl)), some (mI (1))] [mI (H 13), mR 118] (mkh (m_set (m_upd μ 118 H) 118 17 (m_lor (m_lshl (H 17) (8)) (μ 2 (q + k0)))) c s) _
                  refine rn_iconst (k' := 136) rfl rfl ?_
                  refine rn_iadd (k' := 137) rfl rfl (by first | omega | (simp [fs]; omega)) ?_
                  refine rn_putI (k' := 138) rfl rfl K0_118 (by decide) rfl ?_
                  refine rn_aload_n (k' := 139) rfl rfl rfl ?_
                  refine rn_dupR (k' := 140) rfl rfl ?_
                  refine rn_getI (k' := 141) rfl rfl K0_118 (by decide) rfl ?_
                  show Rn PT none kX12_next 141 [some (mR 118), some (mI (cc)), some (mI (sl)), some (mI (1))] [mI (H 4), mR 118] (mkh (m_set (m_set (m_upd μ 118 H) 118 17 (m_lor (m_lshl (H 17) (8)) (μ 2 (q + k0)))) 118 13 ((H 13) + 1)) c s) _
                  refine rn_iconst (k' := 142) rfl rfl ?_
                  refine rn_iadd (k' := 143) rfl rfl (by first | omega | (simp [fs]; omega)) ?_
                  refine rn_putI (k' := 144) rfl rfl K0_118 (by decide) rfl ?_
                  refine rn_goto rfl ?_
                  show Rn PT none kX12_next 84 [some (mR 118), some (mI (cc)), some (mI (sl)), some (mI (1))] [] (mkh (m_set (m_set (m_set (m_upd μ 118 H) 118 17 (m_lor (m_lshl (H 17) (8)) (μ 2 (q + k0)))) 118 13 ((H 13) + 1)) 118 4 ((H 4) + 1)) c s) _
                  rw [set_upd_eq (a := 118), set_upd_eq (a := 118), set_upd_eq (a := 118)]
                  have hsm : sm (μ 2 (q + k0)) := by omega
                  have hcL : cL (μ 2) q (k0 + 1) = cL (μ 2) q k0 + 1 := by show cL (μ 2) q k0 + (if _ then _ else _) = _; rw [if_pos hsm]
                  have hcD : cD (μ 2) q (k0 + 1) = cD (μ 2) q k0 + 0 := by show cD (μ 2) q k0 + (if _ then _ else _) = _; rw [if_pos hsm]
                  have hmw : mw (μ 2) q (k0 + 1) = m_lor (m_lshl (mw (μ 2) q k0) 8) (μ 2 (q + k0)) := if_pos (by omega)
                  have hmn : mn (μ 2) q (k0 + 1) = mn (μ 2) q k0 := if_neg (by omega)
                  exact ih (k0 + 1) _ _ (by omega) ⟨by omega, by rw [hcL, hcD]; omega⟩ hH3 (by show H 4 + 1 = _; omega) hH12 (by show H 13 + 1 = _; omega) (by rw [hmn]; first | rfl | exact hH14) (by rw [hmw, ← hH17]; first | rfl | exact hH17) (fun j j1 j2 j3 j4 j5 j6 => by
                    rw [← hfr j j1 j2 j3 j4 j5 j6]
                    first | rfl | (simp [fs, j1, j4, j5, j6]))
                    (by rw [← he]; exact (tre_t (b := μ 2) (d := d) (r := q + k0) (by omega)).symm)
                · skip
                  refine rn_aload_n (k' := 122) rfl rfl rfl ?_
                  refine rn_bipush (k' := 123) rfl rfl ?_
                  refine rn_aload_n (k' := 124) rfl rfl rfl ?_
                  refine rn_getI (k' := 125) rfl rfl K0_118 (by decide) rfl ?_
                  show Rn PT none kX12_next 125 [some (mR 118), some (mI (cc)), some (mI (sl)), some (mI (1))] [mI (H 14), mI (10), mR 118] (mkh (m_set (m_upd μ 118 H) 118 17 (m_lor (m_lshl (H 17) (8)) (μ 2 (q + k0)))) c s) _
                  refine rn_imulW (k' := 126) rfl rfl ?_
                  refine rn_aload_n (k' := 127) rfl rfl rfl ?_
                  rw [set_upd_eq (a := 118)]
                  refine rn_callP (k' := 128) (y := 172) (vs := [mR 118]) (S' := [mI (w32 (10 * (H 14))), mR 118]) (v := some (mI (μ 2 (q + k0)))) (h' := mkh (m_upd μ 118 ((fs H 17 (m_lor (m_lshl (H 17) (8)) (μ 2 (q + k0)))))) c s) rfl rfl rfl (peek_in (μ := μ) (c := c) (s := s) ht (H := (fs H 17 (m_lor (m_lshl (H 17) (8)) (μ 2 (q + k0))))) (n := n) (j := q + k0) (show H 3 = _ from hH3) (show H 4 = _ from hH4) (by omega) hn9) ?_
                  show Rn PT none kX12_next 128 [some (mR 118), some (mI (cc)), some (mI (sl)), some (mI (1))] [mI (μ 2 (q + k0)), mI (w32 (10 * (H 14))), mR 118] (mkh (m_upd μ 118 ((fs H 17 (m_lor (m_lshl (H 17) (8)) (μ 2 (q + k0)))))) c s) _
                  refine rn_iaddW (k' := 129) rfl rfl ?_
                  refine rn_bipush (k' := 130) rfl rfl ?_
                  refine rn_isubW (k' := 131) rfl rfl ?_
                  refine rn_putI (k' := 132) rfl rfl K0_118 (by decide) rfl ?_
                  refine rn_aload_n (k' := 133) rfl rfl rfl ?_
                  refine rn_dupR (k' := 134) rfl rfl ?_
                  refine rn_getI (k' := 135) rfl rfl K0_118 (by decide) rfl ?_
                  show Rn PT none kX12_next 135 [some (mR 118), some (mI (cc)), some (mI (sl)), some (mI (1))] [mI (((fs H 17 (m_lor (m_lshl (H 17) (8)) (μ 2 (q + k0))))) 13), mR 118] (mkh (m_set (m_upd μ 118 ((fs H 17 (m_lor (m_lshl (H 17) (8)) (μ 2 (q + k0)))))) 118 14 (w32 ((w32 ((w32 (10 * (H 14))) + (μ 2 (q + k0)))) - 48))) c s) _
                  refine rn_iconst (k' := 136) rfl rfl ?_
                  refine rn_iadd (k' := 137) rfl rfl (by first | omega | (simp [fs]; omega)) ?_
                  refine rn_putI (k' := 138) rfl rfl K0_118 (by decide) rfl ?_
                  refine rn_aload_n (k' := 139) rfl rfl rfl ?_
                  refine rn_dupR (k' := 140) rfl rfl ?_
                  refine rn_getI (k' := 141) rfl rfl K0_118 (by decide) rfl ?_
                  show Rn PT none kX12_next 141 [some (mR 118), some (mI (cc)), some (mI (sl)), some (mI (1))] [mI (((fs H 17 (m_lor (m_lshl (H 17) (8)) (μ 2 (q + k0))))) 4), mR 118] (mkh (m_set (m_set (m_upd μ 118 ((fs H 17 (m_lor (m_lshl (H 17) (8)) (μ 2 (q + k0)))))) 118 14 (w32 ((w32 ((w32 (10 * (H 14))) + (μ 2 (q + k0)))) - 48))) 118 13 ((((fs H 17 (m_lor (m_lshl (H 17) (8)) (μ 2 (q + k0))))) 13) + 1)) c s) _
                  refine rn_iconst (k' := 142) rfl rfl ?_
                  refine rn_iadd (k' := 143) rfl rfl (by first | omega | (simp [fs]; omega)) ?_
                  refine rn_putI (k' := 144) rfl rfl K0_118 (by decide) rfl ?_
                  refine rn_goto rfl ?_
                  show Rn PT none kX12_next 84 [some (mR 118), some (mI (cc)), some (mI (sl)), some (mI (1))] [] (mkh (m_set (m_set (m_set (m_upd μ 118 ((fs H 17 (m_lor (m_lshl (H 17) (8)) (μ 2 (q + k0)))))) 118 14 (w32 ((w32 ((w32 (10 * (H 14))) + (μ 2 (q + k0)))) - 48))) 118 13 ((((fs H 17 (m_lor (m_lshl (H 17) (8)) (μ 2 (q + k0))))) 13) + 1)) 118 4 ((((fs H 17 (m_lor (m_lshl (H 17) (8)) (μ 2 (q + k0))))) 4) + 1)) c s) _
                  rw [set_upd_eq (a := 118), set_upd_eq (a := 118), set_upd_eq (a := 118)]
                  have hsm : sm (μ 2 (q + k0)) := by omega
                  have hcL : cL (μ 2) q (k0 + 1) = cL (μ 2) q k0 + 1 := by show cL (μ 2) q k0 + (if _ then _ else _) = _; rw [if_pos hsm]
                  have hcD : cD (μ 2) q (k0 + 1) = cD (μ 2) q k0 + 0 := by show cD (μ 2) q k0 + (if _ then _ else _) = _; rw [if_pos hsm]
                  have hmw : mw (μ 2) q (k0 + 1) = m_lor (m_lshl (mw (μ 2) q k0) 8) (μ 2 (q + k0)) := if_pos (by omega)
                  have hmn : mn (μ 2) q (k0 + 1) = w32 (w32 (w32 (10 * mn (μ 2) q k0) + μ 2 (q + k0)) - 48) := if_pos (by omega)
                  exact ih (k0 + 1) _ _ (by omega) ⟨by omega, by rw [hcL, hcD]; omega⟩ hH3 (by show H 4 + 1 = _; omega) hH12 (by show H 13 + 1 = _; omega) (by rw [hmn, ← hH14]; first | rfl | exact hH14) (by rw [hmw, ← hH17]; first | rfl | exact hH17) (fun j j1 j2 j3 j4 j5 j6 => by
                    rw [← hfr j j1 j2 j3 j4 j5 j6]
                    first | rfl | (simp [fs, j1, j4, j5, j6]))
                    (by rw [← he]; exact (tre_t (b := μ 2) (d := d) (r := q + k0) (by omega)).symm)
      · exfalso; omega
    · refine rn_callP (k' := 87) (y := 173) (vs := [mI (μ 2 (q + k0))]) (S' := []) (v := some (mI 0)) (h' := mkh (m_upd μ 118 H) c s) rfl rfl rfl (by have hz : Cl PT 173 [mI (μ 2 (q + k0))] (mkh (m_upd μ 118 H) c s) (fun r => r = (some (some (mI (if 97 ≤ μ 2 (q + k0) ∧ μ 2 (q + k0) ≤ 122 then 1 else 0))), mkh (m_upd μ 118 H) c s)) := c_X12_isSmall (a := μ 2 (q + k0)) (μ := (m_upd μ 118 H)) (c := c) (s := s); rw [if_neg hq1] at hz; exact hz) ?_
      show Rn PT none kX12_next 87 [some (mR 118), some (mI (cc)), some (mI (sl)), some (mI (al))] [mI (0)] (mkh (m_upd μ 118 H) c s) _
      refine rn_if_ne (k' := 88) rfl rfl (fun hc77 => ?_) (fun hc77 => ?_)
      · exfalso; omega
      · skip
        refine rn_aload_n (k' := 89) rfl rfl rfl ?_
        refine rn_callP (k' := 90) (y := 172) (vs := [mR 118]) (S' := []) (v := some (mI (μ 2 (q + k0)))) (h' := mkh (m_upd μ 118 H) c s) rfl rfl rfl (peek_in (μ := μ) (c := c) (s := s) ht (H := H) (n := n) (j := q + k0) (show H 3 = _ from hH3) (show H 4 = _ from hH4) (by omega) hn9) ?_
        show Rn PT none kX12_next 90 [some (mR 118), some (mI (cc)), some (mI (sl)), some (mI (al))] [mI (μ 2 (q + k0))] (mkh (m_upd μ 118 H) c s) _
        by_cases hq78 : 48 ≤ μ 2 (q + k0) ∧ μ 2 (q + k0) ≤ 57
        · refine rn_callP (k' := 91) (y := 174) (vs := [mI (μ 2 (q + k0))]) (S' := []) (v := some (mI 1)) (h' := mkh (m_upd μ 118 H) c s) rfl rfl rfl (by have hz : Cl PT 174 [mI (μ 2 (q + k0))] (mkh (m_upd μ 118 H) c s) (fun r => r = (some (some (mI (if 48 ≤ μ 2 (q + k0) ∧ μ 2 (q + k0) ≤ 57 then 1 else 0))), mkh (m_upd μ 118 H) c s)) := c_X12_isDigit (a := μ 2 (q + k0)) (μ := (m_upd μ 118 H)) (c := c) (s := s); rw [if_pos hq78] at hz; exact hz) ?_
          show Rn PT none kX12_next 91 [some (mR 118), some (mI (cc)), some (mI (sl)), some (mI (al))] [mI (1)] (mkh (m_upd μ 118 H) c s) _
          refine rn_if_eq (k' := 92) rfl rfl (fun hc79 => ?_) (fun hc79 => ?_)
          · exfalso; omega
          · skip
            refine rn_iload_n (k' := 93) rfl rfl rfl ?_
            refine rn_if_eq (k' := 94) rfl rfl (fun hc80 => ?_) (fun hc80 => ?_)
            · skip
              refine rn_iconst (k' := 102) rfl rfl ?_
              refine rn_istore_n (k' := 103) (L' := [some (mR 118), some (mI (cc)), some (mI (sl)), some (mI (0))]) rfl rfl (Nat.le_of_ble_eq_true rfl) rfl ?_
              refine rn_aload_n (k' := 104) rfl rfl rfl ?_
              refine rn_getI (k' := 105) rfl rfl K0_118 (by decide) rfl ?_
              show Rn PT none kX12_next 105 [some (mR 118), some (mI (cc)), some (mI (sl)), some (mI (0))] [mI (H 13)] (mkh (m_upd μ 118 H) c s) _
              refine rn_bipush (k' := 106) rfl rfl ?_
              refine rn_icmp_ge (k' := 107) rfl rfl (fun hc81 => ?_) (fun hc81 => ?_)
              · skip
                refine rn_aload_n (k' := 118) rfl rfl rfl ?_
                refine rn_getI (k' := 119) rfl rfl K0_118 (by decide) rfl ?_
                show Rn PT none kX12_next 119 [some (mR 118), some (mI (cc)), some (mI (sl)), some (mI (0))] [mI (H 13)] (mkh (m_upd μ 118 H) c s) _
                refine rn_iconst (k' := 120) rfl rfl ?_
                refine rn_icmp_ge (k' := 121) rfl rfl (fun hc82 => ?_) (fun hc82 => ?_)
                · skip
                  refine rn_aload_n (k' := 133) rfl rfl rfl ?_
                  refine rn_dupR (k' := 134) rfl rfl ?_
                  refine rn_getI (k' := 135) rfl rfl K0_118 (by decide) rfl ?_
                  show Rn PT none kX12_next 135 [some (mR 118), some (mI (cc)), some (mI (sl)), some (mI (0))] [mI (H 13), mR 118] (mkh (m_upd μ 118 H) c s) _
                  refine rn_iconst (k' := 136) rfl rfl ?_
                  refine rn_iadd (k' := 137) rfl rfl (by first | omega | (simp [fs]; omega)) ?_
                  refine rn_putI (k' := 138) rfl rfl K0_118 (by decide) rfl ?_
                  refine rn_aload_n (k' := 139) rfl rfl rfl ?_
                  refine rn_dupR (k' := 140) rfl rfl ?_
                  refine rn_getI (k' := 141) rfl rfl K0_118 (by decide) rfl ?_
                  show Rn PT none kX12_next 141 [some (mR 118), some (mI (cc)), some (mI (sl)), some (mI (0))] [mI (H 4), mR 118] (mkh (m_set (m_upd μ 118 H) 118 13 ((H 13) + 1)) c s) _
                  refine rn_iconst (k' := 142) rfl rfl ?_
                  refine rn_iadd (k' := 143) rfl rfl (by first | omega | (simp [fs]; omega)) ?_
                  refine rn_putI (k' := 144) rfl rfl K0_118 (by decide) rfl ?_
                  refine rn_goto rfl ?_
                  show Rn PT none kX12_next 84 [some (mR 118), some (mI (cc)), some (mI (sl)), some (mI (0))] [] (mkh (m_set (m_set (m_upd μ 118 H) 118 13 ((H 13) + 1)) 118 4 ((H 4) + 1)) c s) _
                  rw [set_upd_eq (a := 118), set_upd_eq (a := 118)]
                  have hsm : ¬ sm (μ 2 (q + k0)) := by omega
                  have hcL : cL (μ 2) q (k0 + 1) = cL (μ 2) q k0 + 0 := by show cL (μ 2) q k0 + (if _ then _ else _) = _; rw [if_neg hsm]
                  have hcD : cD (μ 2) q (k0 + 1) = cD (μ 2) q k0 + 1 := by show cD (μ 2) q k0 + (if _ then _ else _) = _; rw [if_neg hsm]
                  have hmw : mw (μ 2) q (k0 + 1) = mw (μ 2) q k0 := if_neg (by omega)
                  have hmn : mn (μ 2) q (k0 + 1) = mn (μ 2) q k0 := if_neg (by omega)
                  exact ih (k0 + 1) _ _ (by omega) ⟨by omega, by rw [hcL, hcD]; omega⟩ hH3 (by show H 4 + 1 = _; omega) hH12 (by show H 13 + 1 = _; omega) (by rw [hmn]; first | rfl | exact hH14) (by rw [hmw]; first | rfl | exact hH17) (fun j j1 j2 j3 j4 j5 j6 => by
                    rw [← hfr j j1 j2 j3 j4 j5 j6]
                    first | rfl | (simp [fs, j1, j4, j5, j6]))
                    (by rw [← he]; exact (tre_t (b := μ 2) (d := d) (r := q + k0) (by omega)).symm)
                · skip
                  refine rn_aload_n (k' := 122) rfl rfl rfl ?_
                  refine rn_bipush (k' := 123) rfl rfl ?_
                  refine rn_aload_n (k' := 124) rfl rfl rfl ?_
                  refine rn_getI (k' := 125) rfl rfl K0_118 (by decide) rfl ?_
                  show Rn PT none kX12_next 125 [some (mR 118), some (mI (cc)), some (mI (sl)), some (mI (0))] [mI (H 14), mI (10), mR 118] (mkh (m_upd μ 118 H) c s) _
                  refine rn_imulW (k' := 126) rfl rfl ?_
                  refine rn_aload_n (k' := 127) rfl rfl rfl ?_
                  refine rn_callP (k' := 128) (y := 172) (vs := [mR 118]) (S' := [mI (w32 (10 * (H 14))), mR 118]) (v := some (mI (μ 2 (q + k0)))) (h' := mkh (m_upd μ 118 H) c s) rfl rfl rfl (peek_in (μ := μ) (c := c) (s := s) ht (H := H) (n := n) (j := q + k0) (show H 3 = _ from hH3) (show H 4 = _ from hH4) (by omega) hn9) ?_
                  show Rn PT none kX12_next 128 [some (mR 118), some (mI (cc)), some (mI (sl)), some (mI (0))] [mI (μ 2 (q + k0)), mI (w32 (10 * (H 14))), mR 118] (mkh (m_upd μ 118 H) c s) _
                  refine rn_iaddW (k' := 129) rfl rfl ?_
                  refine rn_bipush (k' := 130) rfl rfl ?_
                  refine rn_isubW (k' := 131) rfl rfl ?_
                  refine rn_putI (k' := 132) rfl rfl K0_118 (by decide) rfl ?_
                  refine rn_aload_n (k' := 133) rfl rfl rfl ?_
                  refine rn_dupR (k' := 134) rfl rfl ?_
                  refine rn_getI (k' := 135) rfl rfl K0_118 (by decide) rfl ?_
                  show Rn PT none kX12_next 135 [some (mR 118), some (mI (cc)), some (mI (sl)), some (mI (0))] [mI (H 13), mR 118] (mkh (m_set (m_upd μ 118 H) 118 14 (w32 ((w32 ((w32 (10 * (H 14))) + (μ 2 (q + k0)))) - 48))) c s) _
                  refine rn_iconst (k' := 136) rfl rfl ?_
                  refine rn_iadd (k' := 137) rfl rfl (by first | omega | (simp [fs]; omega)) ?_
                  refine rn_putI (k' := 138) rfl rfl K0_118 (by decide) rfl ?_
                  refine rn_aload_n (k' := 139) rfl rfl rfl ?_
                  refine rn_dupR (k' := 140) rfl rfl ?_
                  refine rn_getI (k' := 141) rfl rfl K0_118 (by decide) rfl ?_
                  show Rn PT none kX12_next 141 [some (mR 118), some (mI (cc)), some (mI (sl)), some (mI (0))] [mI (H 4), mR 118] (mkh (m_set (m_set (m_upd μ 118 H) 118 14 (w32 ((w32 ((w32 (10 * (H 14))) + (μ 2 (q + k0)))) - 48))) 118 13 ((H 13) + 1)) c s) _
                  refine rn_iconst (k' := 142) rfl rfl ?_
                  refine rn_iadd (k' := 143) rfl rfl (by first | omega | (simp [fs]; omega)) ?_
                  refine rn_putI (k' := 144) rfl rfl K0_118 (by decide) rfl ?_
                  refine rn_goto rfl ?_
                  show Rn PT none kX12_next 84 [some (mR 118), some (mI (cc)), some (mI (sl)), some (mI (0))] [] (mkh (m_set (m_set (m_set (m_upd μ 118 H) 118 14 (w32 ((w32 ((w32 (10 * (H 14))) + (μ 2 (q + k0)))) - 48))) 118 13 ((H 13) + 1)) 118 4 ((H 4) + 1)) c s) _
                  rw [set_upd_eq (a := 118), set_upd_eq (a := 118), set_upd_eq (a := 118)]
                  have hsm : ¬ sm (μ 2 (q + k0)) := by omega
                  have hcL : cL (μ 2) q (k0 + 1) = cL (μ 2) q k0 + 0 := by show cL (μ 2) q k0 + (if _ then _ else _) = _; rw [if_neg hsm]
                  have hcD : cD (μ 2) q (k0 + 1) = cD (μ 2) q k0 + 1 := by show cD (μ 2) q k0 + (if _ then _ else _) = _; rw [if_neg hsm]
                  have hmw : mw (μ 2) q (k0 + 1) = mw (μ 2) q k0 := if_neg (by omega)
                  have hmn : mn (μ 2) q (k0 + 1) = w32 (w32 (w32 (10 * mn (μ 2) q k0) + μ 2 (q + k0)) - 48) := if_pos (by omega)
                  exact ih (k0 + 1) _ _ (by omega) ⟨by omega, by rw [hcL, hcD]; omega⟩ hH3 (by show H 4 + 1 = _; omega) hH12 (by show H 13 + 1 = _; omega) (by rw [hmn, ← hH14]; first | rfl | exact hH14) (by rw [hmw]; first | rfl | exact hH17) (fun j j1 j2 j3 j4 j5 j6 => by
                    rw [← hfr j j1 j2 j3 j4 j5 j6]
                    first | rfl | (simp [fs, j1, j4, j5, j6]))
                    (by rw [← he]; exact (tre_t (b := μ 2) (d := d) (r := q + k0) (by omega)).symm)
              · skip
                refine rn_aload_n (k' := 108) rfl rfl rfl ?_
                refine rn_aload_n (k' := 109) rfl rfl rfl ?_
                refine rn_getJ (k' := 110) rfl rfl K0_118 (by decide) rfl ?_
                show Rn PT none kX12_next 110 [some (mR 118), some (mI (cc)), some (mI (sl)), some (mI (0))] [mJ (H 17), mR 118] (mkh (m_upd μ 118 H) c s) _
                refine rn_bipush (k' := 111) rfl rfl ?_
                refine rn_lshl (k' := 112) rfl rfl ?_
                refine rn_aload_n (k' := 113) rfl rfl rfl ?_
                refine rn_callP (k' := 114) (y := 172) (vs := [mR 118]) (S' := [mJ (m_lshl (H 17) (8)), mR 118]) (v := some (mI (μ 2 (q + k0)))) (h' := mkh (m_upd μ 118 H) c s) rfl rfl rfl (peek_in (μ := μ) (c := c) (s := s) ht (H := H) (n := n) (j := q + k0) (show H 3 = _ from hH3) (show H 4 = _ from hH4) (by omega) hn9) ?_
                show Rn PT none kX12_next 114 [some (mR 118), some (mI (cc)), some (mI (sl)), some (mI (0))] [mI (μ 2 (q + k0)), mJ (m_lshl (H 17) (8)), mR 118] (mkh (m_upd μ 118 H) c s) _
                refine rn_i2l (k' := 115) rfl rfl ?_
                refine rn_lor (k' := 116) rfl rfl ?_
                refine rn_putJ (k' := 117) rfl rfl K0_118 (by decide) rfl ?_
                refine rn_aload_n (k' := 118) rfl rfl rfl ?_
                refine rn_getI (k' := 119) rfl rfl K0_118 (by decide) rfl ?_
                show Rn PT none kX12_next 119 [some (mR 118), some (mI (cc)), some (mI (sl)), some (mI (0))] [mI (H 13)] (mkh (m_set (m_upd μ 118 H) 118 17 (m_lor (m_lshl (H 17) (8)) (μ 2 (q + k0)))) c s) _
                refine rn_iconst (k' := 120) rfl rfl ?_
                refine rn_icmp_ge (k' := 121) rfl rfl (fun hc89 => ?_) (fun hc89 => ?_)
                · skip
                  refine rn_aload_n (k' := 133) rfl rfl rfl ?_
                  refine rn_dupR (k' := 134) rfl rfl ?_
                  refine rn_getI (k' := 135) rfl rfl K0_118 (by decide) rfl ?_
                  show Rn PT none kX12_next 135 [some (mR 118), some (mI (cc)), some (mI (sl)), some (mI (0))] [mI (H 13), mR 118] (mkh (m_set (m_upd μ 118 H) 118 17 (m_lor (m_lshl (H 17) (8)) (μ 2 (q + k0)))) c s) _
                  refine rn_iconst (k' := 136) rfl rfl ?_
                  refine rn_iadd (k' := 137) rfl rfl (by first | omega | (simp [fs]; omega)) ?_
                  refine rn_putI (k' := 138) rfl rfl K0_118 (by decide) rfl ?_
                  refine rn_aload_n (k' := 139) rfl rfl rfl ?_
                  refine rn_dupR (k' := 140) rfl rfl ?_
                  refine rn_getI (k' := 141) rfl rfl K0_118 (by decide) rfl ?_
                  show Rn PT none kX12_next 141 [some (mR 118), some (mI (cc)), some (mI (sl)), some (mI (0))] [mI (H 4), mR 118] (mkh (m_set (m_set (m_upd μ 118 H) 118 17 (m_lor (m_lshl (H 17) (8)) (μ 2 (q + k0)))) 118 13 ((H 13) + 1)) c s) _
                  refine rn_iconst (k' := 142) rfl rfl ?_
                  refine rn_iadd (k' := 143) rfl rfl (by first | omega | (simp [fs]; omega)) ?_
                  refine rn_putI (k' := 144) rfl rfl K0_118 (by decide) rfl ?_
                  refine rn_goto rfl ?_
                  show Rn PT none kX12_next 84 [some (mR 118), some (mI (cc)), some (mI (sl)), some (mI (0))] [] (mkh (m_set (m_set (m_set (m_upd μ 118 H) 118 17 (m_lor (m_lshl (H 17) (8)) (μ 2 (q + k0)))) 118 13 ((H 13) + 1)) 118 4 ((H 4) + 1)) c s) _
                  rw [set_upd_eq (a := 118), set_upd_eq (a := 118), set_upd_eq (a := 118)]
                  have hsm : ¬ sm (μ 2 (q + k0)) := by omega
                  have hcL : cL (μ 2) q (k0 + 1) = cL (μ 2) q k0 + 0 := by show cL (μ 2) q k0 + (if _ then _ else _) = _; rw [if_neg hsm]
                  have hcD : cD (μ 2) q (k0 + 1) = cD (μ 2) q k0 + 1 := by show cD (μ 2) q k0 + (if _ then _ else _) = _; rw [if_neg hsm]
                  have hmw : mw (μ 2) q (k0 + 1) = m_lor (m_lshl (mw (μ 2) q k0) 8) (μ 2 (q + k0)) := if_pos (by omega)
                  have hmn : mn (μ 2) q (k0 + 1) = mn (μ 2) q k0 := if_neg (by omega)
                  exact ih (k0 + 1) _ _ (by omega) ⟨by omega, by rw [hcL, hcD]; omega⟩ hH3 (by show H 4 + 1 = _; omega) hH12 (by show H 13 + 1 = _; omega) (by rw [hmn]; first | rfl | exact hH14) (by rw [hmw, ← hH17]; first | rfl | exact hH17) (fun j j1 j2 j3 j4 j5 j6 => by
                    rw [← hfr j j1 j2 j3 j4 j5 j6]
                    first | rfl | (simp [fs, j1, j4, j5, j6]))
                    (by rw [← he]; exact (tre_t (b := μ 2) (d := d) (r := q + k0) (by omega)).symm)
                · skip
                  refine rn_aload_n (k' := 122) rfl rfl rfl ?_
                  refine rn_bipush (k' := 123) rfl rfl ?_
                  refine rn_aload_n (k' := 124) rfl rfl rfl ?_
                  refine rn_getI (k' := 125) rfl rfl K0_118 (by decide) rfl ?_
                  show Rn PT none kX12_next 125 [some (mR 118), some (mI (cc)), some (mI (sl)), some (mI (0))] [mI (H 14), mI (10), mR 118] (mkh (m_set (m_upd μ 118 H) 118 17 (m_lor (m_lshl (H 17) (8)) (μ 2 (q + k0)))) c s) _
                  refine rn_imulW (k' := 126) rfl rfl ?_
                  refine rn_aload_n (k' := 127) rfl rfl rfl ?_
                  rw [set_upd_eq (a := 118)]
                  refine rn_callP (k' := 128) (y := 172) (vs := [mR 118]) (S' := [mI (w32 (10 * (H 14))), mR 118]) (v := some (mI (μ 2 (q + k0)))) (h' := mkh (m_upd μ 118 ((fs H 17 (m_lor (m_lshl (H 17) (8)) (μ 2 (q + k0)))))) c s) rfl rfl rfl (peek_in (μ := μ) (c := c) (s := s) ht (H := (fs H 17 (m_lor (m_lshl (H 17) (8)) (μ 2 (q + k0))))) (n := n) (j := q + k0) (show H 3 = _ from hH3) (show H 4 = _ from hH4) (by omega) hn9) ?_
                  show Rn PT none kX12_next 128 [some (mR 118), some (mI (cc)), some (mI (sl)), some (mI (0))] [mI (μ 2 (q + k0)), mI (w32 (10 * (H 14))), mR 118] (mkh (m_upd μ 118 ((fs H 17 (m_lor (m_lshl (H 17) (8)) (μ 2 (q + k0)))))) c s) _
                  refine rn_iaddW (k' := 129) rfl rfl ?_
                  refine rn_bipush (k' := 130) rfl rfl ?_
                  refine rn_isubW (k' := 131) rfl rfl ?_
                  refine rn_putI (k' := 132) rfl rfl K0_118 (by decide) rfl ?_
                  refine rn_aload_n (k' := 133) rfl rfl rfl ?_
                  refine rn_dupR (k' := 134) rfl rfl ?_
                  refine rn_getI (k' := 135) rfl rfl K0_118 (by decide) rfl ?_
                  show Rn PT none kX12_next 135 [some (mR 118), some (mI (cc)), some (mI (sl)), some (mI (0))] [mI (((fs H 17 (m_lor (m_lshl (H 17) (8)) (μ 2 (q + k0))))) 13), mR 118] (mkh (m_set (m_upd μ 118 ((fs H 17 (m_lor (m_lshl (H 17) (8)) (μ 2 (q + k0)))))) 118 14 (w32 ((w32 ((w32 (10 * (H 14))) + (μ 2 (q + k0)))) - 48))) c s) _
                  refine rn_iconst (k' := 136) rfl rfl ?_
                  refine rn_iadd (k' := 137) rfl rfl (by first | omega | (simp [fs]; omega)) ?_
                  refine rn_putI (k' := 138) rfl rfl K0_118 (by decide) rfl ?_
                  refine rn_aload_n (k' := 139) rfl rfl rfl ?_
                  refine rn_dupR (k' := 140) rfl rfl ?_
                  refine rn_getI (k' := 141) rfl rfl K0_118 (by decide) rfl ?_
                  show Rn PT none kX12_next 141 [some (mR 118), some (mI (cc)), some (mI (sl)), some (mI (0))] [mI (((fs H 17 (m_lor (m_lshl (H 17) (8)) (μ 2 (q + k0))))) 4), mR 118] (mkh (m_set (m_set (m_upd μ 118 ((fs H 17 (m_lor (m_lshl (H 17) (8)) (μ 2 (q + k0)))))) 118 14 (w32 ((w32 ((w32 (10 * (H 14))) + (μ 2 (q + k0)))) - 48))) 118 13 ((((fs H 17 (m_lor (m_lshl (H 17) (8)) (μ 2 (q + k0))))) 13) + 1)) c s) _
                  refine rn_iconst (k' := 142) rfl rfl ?_
                  refine rn_iadd (k' := 143) rfl rfl (by first | omega | (simp [fs]; omega)) ?_
                  refine rn_putI (k' := 144) rfl rfl K0_118 (by decide) rfl ?_
                  refine rn_goto rfl ?_
                  show Rn PT none kX12_next 84 [some (mR 118), some (mI (cc)), some (mI (sl)), some (mI (0))] [] (mkh (m_set (m_set (m_set (m_upd μ 118 ((fs H 17 (m_lor (m_lshl (H 17) (8)) (μ 2 (q + k0)))))) 118 14 (w32 ((w32 ((w32 (10 * (H 14))) + (μ 2 (q + k0)))) - 48))) 118 13 ((((fs H 17 (m_lor (m_lshl (H 17) (8)) (μ 2 (q + k0))))) 13) + 1)) 118 4 ((((fs H 17 (m_lor (m_lshl (H 17) (8)) (μ 2 (q + k0))))) 4) + 1)) c s) _
                  rw [set_upd_eq (a := 118), set_upd_eq (a := 118), set_upd_eq (a := 118)]
                  have hsm : ¬ sm (μ 2 (q + k0)) := by omega
                  have hcL : cL (μ 2) q (k0 + 1) = cL (μ 2) q k0 + 0 := by show cL (μ 2) q k0 + (if _ then _ else _) = _; rw [if_neg hsm]
                  have hcD : cD (μ 2) q (k0 + 1) = cD (μ 2) q k0 + 1 := by show cD (μ 2) q k0 + (if _ then _ else _) = _; rw [if_neg hsm]
                  have hmw : mw (μ 2) q (k0 + 1) = m_lor (m_lshl (mw (μ 2) q k0) 8) (μ 2 (q + k0)) := if_pos (by omega)
                  have hmn : mn (μ 2) q (k0 + 1) = w32 (w32 (w32 (10 * mn (μ 2) q k0) + μ 2 (q + k0)) - 48) := if_pos (by omega)
                  exact ih (k0 + 1) _ _ (by omega) ⟨by omega, by rw [hcL, hcD]; omega⟩ hH3 (by show H 4 + 1 = _; omega) hH12 (by show H 13 + 1 = _; omega) (by rw [hmn, ← hH14]; first | rfl | exact hH14) (by rw [hmw, ← hH17]; first | rfl | exact hH17) (fun j j1 j2 j3 j4 j5 j6 => by
                    rw [← hfr j j1 j2 j3 j4 j5 j6]
                    first | rfl | (simp [fs, j1, j4, j5, j6]))
                    (by rw [← he]; exact (tre_t (b := μ 2) (d := d) (r := q + k0) (by omega)).symm)
            · skip
              refine rn_aload_n (k' := 95) rfl rfl rfl ?_
              refine rn_callP (k' := 96) (y := 172) (vs := [mR 118]) (S' := []) (v := some (mI (μ 2 (q + k0)))) (h' := mkh (m_upd μ 118 H) c s) rfl rfl rfl (peek_in (μ := μ) (c := c) (s := s) ht (H := H) (n := n) (j := q + k0) (show H 3 = _ from hH3) (show H 4 = _ from hH4) (by omega) hn9) ?_
              show Rn PT none kX12_next 96 [some (mR 118), some (mI (cc)), some (mI (sl)), some (mI (al))] [mI (μ 2 (q + k0))] (mkh (m_upd μ 118 H) c s) _
              by_cases hq95 : 97 ≤ μ 2 (q + k0) ∧ μ 2 (q + k0) ≤ 122
              · refine rn_callP (k' := 97) (y := 173) (vs := [mI (μ 2 (q + k0))]) (S' := []) (v := some (mI 1)) (h' := mkh (m_upd μ 118 H) c s) rfl rfl rfl (by have hz : Cl PT 173 [mI (μ 2 (q + k0))] (mkh (m_upd μ 118 H) c s) (fun r => r = (some (some (mI (if 97 ≤ μ 2 (q + k0) ∧ μ 2 (q + k0) ≤ 122 then 1 else 0))), mkh (m_upd μ 118 H) c s)) := c_X12_isSmall (a := μ 2 (q + k0)) (μ := (m_upd μ 118 H)) (c := c) (s := s); rw [if_pos hq95] at hz; exact hz) ?_
                show Rn PT none kX12_next 97 [some (mR 118), some (mI (cc)), some (mI (sl)), some (mI (al))] [mI (1)] (mkh (m_upd μ 118 H) c s) _
                refine rn_iload_n (k' := 98) rfl rfl rfl ?_
                refine rn_icmp_ne (k' := 99) rfl rfl (fun hc96 => ?_) (fun hc96 => ?_)
                · skip
                  refine rn_iconst (k' := 102) rfl rfl ?_
                  refine rn_istore_n (k' := 103) (L' := [some (mR 118), some (mI (cc)), some (mI (sl)), some (mI (0))]) rfl rfl (Nat.le_of_ble_eq_true rfl) rfl ?_
                  refine rn_aload_n (k' := 104) rfl rfl rfl ?_
                  refine rn_getI (k' := 105) rfl rfl K0_118 (by decide) rfl ?_
                  show Rn PT none kX12_next 105 [some (mR 118), some (mI (cc)), some (mI (sl)), some (mI (0))] [mI (H 13)] (mkh (m_upd μ 118 H) c s) _
                  refine rn_bipush (k' := 106) rfl rfl ?_
                  refine rn_icmp_ge (k' := 107) rfl rfl (fun hc97 => ?_) (fun hc97 => ?_)
                  · skip
                    refine rn_aload_n (k' := 118) rfl rfl rfl ?_
                    refine rn_getI (k' := 119) rfl rfl K0_118 (by decide) rfl ?_
                    show Rn PT none kX12_next 119 [some (mR 118), some (mI (cc)), some (mI (sl)), some (mI (0))] [mI (H 13)] (mkh (m_upd μ 118 H) c s) _
                    refine rn_iconst (k' := 120) rfl rfl ?_
                    refine rn_icmp_ge (k' := 121) rfl rfl (fun hc98 => ?_) (fun hc98 => ?_)
                    · skip
                      refine rn_aload_n (k' := 133) rfl rfl rfl ?_
                      refine rn_dupR (k' := 134) rfl rfl ?_
                      refine rn_getI (k' := 135) rfl rfl K0_118 (by decide) rfl ?_
                      show Rn PT none kX12_next 135 [some (mR 118), some (mI (cc)), some (mI (sl)), some (mI (0))] [mI (H 13), mR 118] (mkh (m_upd μ 118 H) c s) _
                      refine rn_iconst (k' := 136) rfl rfl ?_
                      refine rn_iadd (k' := 137) rfl rfl (by first | omega | (simp [fs]; omega)) ?_
                      refine rn_putI (k' := 138) rfl rfl K0_118 (by decide) rfl ?_
                      refine rn_aload_n (k' := 139) rfl rfl rfl ?_
                      refine rn_dupR (k' := 140) rfl rfl ?_
                      refine rn_getI (k' := 141) rfl rfl K0_118 (by decide) rfl ?_
                      show Rn PT none kX12_next 141 [some (mR 118), some (mI (cc)), some (mI (sl)), some (mI (0))] [mI (H 4), mR 118] (mkh (m_set (m_upd μ 118 H) 118 13 ((H 13) + 1)) c s) _
                      refine rn_iconst (k' := 142) rfl rfl ?_
                      refine rn_iadd (k' := 143) rfl rfl (by first | omega | (simp [fs]; omega)) ?_
                      refine rn_putI (k' := 144) rfl rfl K0_118 (by decide) rfl ?_
                      refine rn_goto rfl ?_
                      show Rn PT none kX12_next 84 [some (mR 118), some (mI (cc)), some (mI (sl)), some (mI (0))] [] (mkh (m_set (m_set (m_upd μ 118 H) 118 13 ((H 13) + 1)) 118 4 ((H 4) + 1)) c s) _
                      rw [set_upd_eq (a := 118), set_upd_eq (a := 118)]
                      have hsm : ¬ sm (μ 2 (q + k0)) := by omega
                      have hcL : cL (μ 2) q (k0 + 1) = cL (μ 2) q k0 + 0 := by show cL (μ 2) q k0 + (if _ then _ else _) = _; rw [if_neg hsm]
                      have hcD : cD (μ 2) q (k0 + 1) = cD (μ 2) q k0 + 1 := by show cD (μ 2) q k0 + (if _ then _ else _) = _; rw [if_neg hsm]
                      have hmw : mw (μ 2) q (k0 + 1) = mw (μ 2) q k0 := if_neg (by omega)
                      have hmn : mn (μ 2) q (k0 + 1) = mn (μ 2) q k0 := if_neg (by omega)
                      exact ih (k0 + 1) _ _ (by omega) ⟨by omega, by rw [hcL, hcD]; omega⟩ hH3 (by show H 4 + 1 = _; omega) hH12 (by show H 13 + 1 = _; omega) (by rw [hmn]; first | rfl | exact hH14) (by rw [hmw]; first | rfl | exact hH17) (fun j j1 j2 j3 j4 j5 j6 => by
                        rw [← hfr j j1 j2 j3 j4 j5 j6]
                        first | rfl | (simp [fs, j1, j4, j5, j6]))
                        (by rw [← he]; exact (tre_t (b := μ 2) (d := d) (r := q + k0) (by omega)).symm)
                    · skip
                      refine rn_aload_n (k' := 122) rfl rfl rfl ?_
                      refine rn_bipush (k' := 123) rfl rfl ?_
                      refine rn_aload_n (k' := 124) rfl rfl rfl ?_
                      refine rn_getI (k' := 125) rfl rfl K0_118 (by decide) rfl ?_
                      show Rn PT none kX12_next 125 [some (mR 118), some (mI (cc)), some (mI (sl)), some (mI (0))] [mI (H 14), mI (10), mR 118] (mkh (m_upd μ 118 H) c s) _
                      refine rn_imulW (k' := 126) rfl rfl ?_
                      refine rn_aload_n (k' := 127) rfl rfl rfl ?_
                      refine rn_callP (k' := 128) (y := 172) (vs := [mR 118]) (S' := [mI (w32 (10 * (H 14))), mR 118]) (v := some (mI (μ 2 (q + k0)))) (h' := mkh (m_upd μ 118 H) c s) rfl rfl rfl (peek_in (μ := μ) (c := c) (s := s) ht (H := H) (n := n) (j := q + k0) (show H 3 = _ from hH3) (show H 4 = _ from hH4) (by omega) hn9) ?_
                      show Rn PT none kX12_next 128 [some (mR 118), some (mI (cc)), some (mI (sl)), some (mI (0))] [mI (μ 2 (q + k0)), mI (w32 (10 * (H 14))), mR 118] (mkh (m_upd μ 118 H) c s) _
                      refine rn_iaddW (k' := 129) rfl rfl ?_
                      refine rn_bipush (k' := 130) rfl rfl ?_
                      refine rn_isubW (k' := 131) rfl rfl ?_
                      refine rn_putI (k' := 132) rfl rfl K0_118 (by decide) rfl ?_
                      refine rn_aload_n (k' := 133) rfl rfl rfl ?_
                      refine rn_dupR (k' := 134) rfl rfl ?_
                      refine rn_getI (k' := 135) rfl rfl K0_118 (by decide) rfl ?_
                      show Rn PT none kX12_next 135 [some (mR 118), some (mI (cc)), some (mI (sl)), some (mI (0))] [mI (H 13), mR 118] (mkh (m_set (m_upd μ 118 H) 118 14 (w32 ((w32 ((w32 (10 * (H 14))) + (μ 2 (q + k0)))) - 48))) c s) _
                      refine rn_iconst (k' := 136) rfl rfl ?_
                      refine rn_iadd (k' := 137) rfl rfl (by first | omega | (simp [fs]; omega)) ?_
                      refine rn_putI (k' := 138) rfl rfl K0_118 (by decide) rfl ?_
                      refine rn_aload_n (k' := 139) rfl rfl rfl ?_
                      refine rn_dupR (k' := 140) rfl rfl ?_
                      refine rn_getI (k' := 141) rfl rfl K0_118 (by decide) rfl ?_
                      show Rn PT none kX12_next 141 [some (mR 118), some (mI (cc)), some (mI (sl)), some (mI (0))] [mI (H 4), mR 118] (mkh (m_set (m_set (m_upd μ 118 H) 118 14 (w32 ((w32 ((w32 (10 * (H 14))) + (μ 2 (q + k0)))) - 48))) 118 13 ((H 13) + 1)) c s) _
                      refine rn_iconst (k' := 142) rfl rfl ?_
                      refine rn_iadd (k' := 143) rfl rfl (by first | omega | (simp [fs]; omega)) ?_
                      refine rn_putI (k' := 144) rfl rfl K0_118 (by decide) rfl ?_
                      refine rn_goto rfl ?_
                      show Rn PT none kX12_next 84 [some (mR 118), some (mI (cc)), some (mI (sl)), some (mI (0))] [] (mkh (m_set (m_set (m_set (m_upd μ 118 H) 118 14 (w32 ((w32 ((w32 (10 * (H 14))) + (μ 2 (q + k0)))) - 48))) 118 13 ((H 13) + 1)) 118 4 ((H 4) + 1)) c s) _
                      rw [set_upd_eq (a := 118), set_upd_eq (a := 118), set_upd_eq (a := 118)]
                      have hsm : ¬ sm (μ 2 (q + k0)) := by omega
                      have hcL : cL (μ 2) q (k0 + 1) = cL (μ 2) q k0 + 0 := by show cL (μ 2) q k0 + (if _ then _ else _) = _; rw [if_neg hsm]
                      have hcD : cD (μ 2) q (k0 + 1) = cD (μ 2) q k0 + 1 := by show cD (μ 2) q k0 + (if _ then _ else _) = _; rw [if_neg hsm]
                      have hmw : mw (μ 2) q (k0 + 1) = mw (μ 2) q k0 := if_neg (by omega)
                      have hmn : mn (μ 2) q (k0 + 1) = w32 (w32 (w32 (10 * mn (μ 2) q k0) + μ 2 (q + k0)) - 48) := if_pos (by omega)
                      exact ih (k0 + 1) _ _ (by omega) ⟨by omega, by rw [hcL, hcD]; omega⟩ hH3 (by show H 4 + 1 = _; omega) hH12 (by show H 13 + 1 = _; omega) (by rw [hmn, ← hH14]; first | rfl | exact hH14) (by rw [hmw]; first | rfl | exact hH17) (fun j j1 j2 j3 j4 j5 j6 => by
                        rw [← hfr j j1 j2 j3 j4 j5 j6]
                        first | rfl | (simp [fs, j1, j4, j5, j6]))
                        (by rw [← he]; exact (tre_t (b := μ 2) (d := d) (r := q + k0) (by omega)).symm)
                  · skip
                    refine rn_aload_n (k' := 108) rfl rfl rfl ?_
                    refine rn_aload_n (k' := 109) rfl rfl rfl ?_
                    refine rn_getJ (k' := 110) rfl rfl K0_118 (by decide) rfl ?_
                    show Rn PT none kX12_next 110 [some (mR 118), some (mI (cc)), some (mI (sl)), some (mI (0))] [mJ (H 17), mR 118] (mkh (m_upd μ 118 H) c s) _
                    refine rn_bipush (k' := 111) rfl rfl ?_
                    refine rn_lshl (k' := 112) rfl rfl ?_
                    refine rn_aload_n (k' := 113) rfl rfl rfl ?_
                    refine rn_callP (k' := 114) (y := 172) (vs := [mR 118]) (S' := [mJ (m_lshl (H 17) (8)), mR 118]) (v := some (mI (μ 2 (q + k0)))) (h' := mkh (m_upd μ 118 H) c s) rfl rfl rfl (peek_in (μ := μ) (c := c) (s := s) ht (H := H) (n := n) (j := q + k0) (show H 3 = _ from hH3) (show H 4 = _ from hH4) (by omega) hn9) ?_
                    show Rn PT none kX12_next 114 [some (mR 118), some (mI (cc)), some (mI (sl)), some (mI (0))] [mI (μ 2 (q + k0)), mJ (m_lshl (H 17) (8)), mR 118] (mkh (m_upd μ 118 H) c s) _
                    refine rn_i2l (k' := 115) rfl rfl ?_
                    refine rn_lor (k' := 116) rfl rfl ?_
                    refine rn_putJ (k' := 117) rfl rfl K0_118 (by decide) rfl ?_
                    refine rn_aload_n (k' := 118) rfl rfl rfl ?_
                    refine rn_getI (k' := 119) rfl rfl K0_118 (by decide) rfl ?_
                    show Rn PT none kX12_next 119 [some (mR 118), some (mI (cc)), some (mI (sl)), some (mI (0))] [mI (H 13)] (mkh (m_set (m_upd μ 118 H) 118 17 (m_lor (m_lshl (H 17) (8)) (μ 2 (q + k0)))) c s) _
                    refine rn_iconst (k' := 120) rfl rfl ?_
                    refine rn_icmp_ge (k' := 121) rfl rfl (fun hc105 => ?_) (fun hc105 => ?_)
                    · skip
                      refine rn_aload_n (k' := 133) rfl rfl rfl ?_
                      refine rn_dupR (k' := 134) rfl rfl ?_
                      refine rn_getI (k' := 135) rfl rfl K0_118 (by decide) rfl ?_
                      show Rn PT none kX12_next 135 [some (mR 118), some (mI (cc)), some (mI (sl)), some (mI (0))] [mI (H 13), mR 118] (mkh (m_set (m_upd μ 118 H) 118 17 (m_lor (m_lshl (H 17) (8)) (μ 2 (q + k0)))) c s) _
                      refine rn_iconst (k' := 136) rfl rfl ?_
                      refine rn_iadd (k' := 137) rfl rfl (by first | omega | (simp [fs]; omega)) ?_
                      refine rn_putI (k' := 138) rfl rfl K0_118 (by decide) rfl ?_
                      refine rn_aload_n (k' := 139) rfl rfl rfl ?_
                      refine rn_dupR (k' := 140) rfl rfl ?_
                      refine rn_getI (k' := 141) rfl rfl K0_118 (by decide) rfl ?_
                      show Rn PT none kX12_next 141 [some (mR 118), some (mI (cc)), some (mI (sl)), some (mI (0))] [mI (H 4), mR 118] (mkh (m_set (m_set (m_upd μ 118 H) 118 17 (m_lor (m_lshl (H 17) (8)) (μ 2 (q + k0)))) 118 13 ((H 13) + 1)) c s) _
                      refine rn_iconst (k' := 142) rfl rfl ?_
                      refine rn_iadd (k' := 143) rfl rfl (by first | omega | (simp [fs]; omega)) ?_
                      refine rn_putI (k' := 144) rfl rfl K0_118 (by decide) rfl ?_
                      refine rn_goto rfl ?_
                      show Rn PT none kX12_next 84 [some (mR 118), some (mI (cc)), some (mI (sl)), some (mI (0))] [] (mkh (m_set (m_set (m_set (m_upd μ 118 H) 118 17 (m_lor (m_lshl (H 17) (8)) (μ 2 (q + k0)))) 118 13 ((H 13) + 1)) 118 4 ((H 4) + 1)) c s) _
                      rw [set_upd_eq (a := 118), set_upd_eq (a := 118), set_upd_eq (a := 118)]
                      have hsm : ¬ sm (μ 2 (q + k0)) := by omega
                      have hcL : cL (μ 2) q (k0 + 1) = cL (μ 2) q k0 + 0 := by show cL (μ 2) q k0 + (if _ then _ else _) = _; rw [if_neg hsm]
                      have hcD : cD (μ 2) q (k0 + 1) = cD (μ 2) q k0 + 1 := by show cD (μ 2) q k0 + (if _ then _ else _) = _; rw [if_neg hsm]
                      have hmw : mw (μ 2) q (k0 + 1) = m_lor (m_lshl (mw (μ 2) q k0) 8) (μ 2 (q + k0)) := if_pos (by omega)
                      have hmn : mn (μ 2) q (k0 + 1) = mn (μ 2) q k0 := if_neg (by omega)
                      exact ih (k0 + 1) _ _ (by omega) ⟨by omega, by rw [hcL, hcD]; omega⟩ hH3 (by show H 4 + 1 = _; omega) hH12 (by show H 13 + 1 = _; omega) (by rw [hmn]; first | rfl | exact hH14) (by rw [hmw, ← hH17]; first | rfl | exact hH17) (fun j j1 j2 j3 j4 j5 j6 => by
                        rw [← hfr j j1 j2 j3 j4 j5 j6]
                        first | rfl | (simp [fs, j1, j4, j5, j6]))
                        (by rw [← he]; exact (tre_t (b := μ 2) (d := d) (r := q + k0) (by omega)).symm)
                    · skip
                      refine rn_aload_n (k' := 122) rfl rfl rfl ?_
                      refine rn_bipush (k' := 123) rfl rfl ?_
                      refine rn_aload_n (k' := 124) rfl rfl rfl ?_
                      refine rn_getI (k' := 125) rfl rfl K0_118 (by decide) rfl ?_
                      show Rn PT none kX12_next 125 [some (mR 118), some (mI (cc)), some (mI (sl)), some (mI (0))] [mI (H 14), mI (10), mR 118] (mkh (m_set (m_upd μ 118 H) 118 17 (m_lor (m_lshl (H 17) (8)) (μ 2 (q + k0)))) c s) _
                      refine rn_imulW (k' := 126) rfl rfl ?_
                      refine rn_aload_n (k' := 127) rfl rfl rfl ?_
                      rw [set_upd_eq (a := 118)]
                      refine rn_callP (k' := 128) (y := 172) (vs := [mR 118]) (S' := [mI (w32 (10 * (H 14))), mR 118]) (v := some (mI (μ 2 (q + k0)))) (h' := mkh (m_upd μ 118 ((fs H 17 (m_lor (m_lshl (H 17) (8)) (μ 2 (q + k0)))))) c s) rfl rfl rfl (peek_in (μ := μ) (c := c) (s := s) ht (H := (fs H 17 (m_lor (m_lshl (H 17) (8)) (μ 2 (q + k0))))) (n := n) (j := q + k0) (show H 3 = _ from hH3) (show H 4 = _ from hH4) (by omega) hn9) ?_
                      show Rn PT none kX12_next 128 [some (mR 118), some (mI (cc)), some (mI (sl)), some (mI (0))] [mI (μ 2 (q + k0)), mI (w32 (10 * (H 14))), mR 118] (mkh (m_upd μ 118 ((fs H 17 (m_lor (m_lshl (H 17) (8)) (μ 2 (q + k0)))))) c s) _
                      refine rn_iaddW (k' := 129) rfl rfl ?_
                      refine rn_bipush (k' := 130) rfl rfl ?_
                      refine rn_isubW (k' := 131) rfl rfl ?_
                      refine rn_putI (k' := 132) rfl rfl K0_118 (by decide) rfl ?_
                      refine rn_aload_n (k' := 133) rfl rfl rfl ?_
                      refine rn_dupR (k' := 134) rfl rfl ?_
                      refine rn_getI (k' := 135) rfl rfl K0_118 (by decide) rfl ?_
                      show Rn PT none kX12_next 135 [some (mR 118), some (mI (cc)), some (mI (sl)), some (mI (0))] [mI (((fs H 17 (m_lor (m_lshl (H 17) (8)) (μ 2 (q + k0))))) 13), mR 118] (mkh (m_set (m_upd μ 118 ((fs H 17 (m_lor (m_lshl (H 17) (8)) (μ 2 (q + k0)))))) 118 14 (w32 ((w32 ((w32 (10 * (H 14))) + (μ 2 (q + k0)))) - 48))) c s) _
                      refine rn_iconst (k' := 136) rfl rfl ?_
                      refine rn_iadd (k' := 137) rfl rfl (by first | omega | (simp [fs]; omega)) ?_
                      refine rn_putI (k' := 138) rfl rfl K0_118 (by decide) rfl ?_
                      refine rn_aload_n (k' := 139) rfl rfl rfl ?_
                      refine rn_dupR (k' := 140) rfl rfl ?_
                      refine rn_getI (k' := 141) rfl rfl K0_118 (by decide) rfl ?_
                      show Rn PT none kX12_next 141 [some (mR 118), some (mI (cc)), some (mI (sl)), some (mI (0))] [mI (((fs H 17 (m_lor (m_lshl (H 17) (8)) (μ 2 (q + k0))))) 4), mR 118] (mkh (m_set (m_set (m_upd μ 118 ((fs H 17 (m_lor (m_lshl (H 17) (8)) (μ 2 (q + k0)))))) 118 14 (w32 ((w32 ((w32 (10 * (H 14))) + (μ 2 (q + k0)))) - 48))) 118 13 ((((fs H 17 (m_lor (m_lshl (H 17) (8)) (μ 2 (q + k0))))) 13) + 1)) c s) _
                      refine rn_iconst (k' := 142) rfl rfl ?_
                      refine rn_iadd (k' := 143) rfl rfl (by first | omega | (simp [fs]; omega)) ?_
                      refine rn_putI (k' := 144) rfl rfl K0_118 (by decide) rfl ?_
                      refine rn_goto rfl ?_
                      show Rn PT none kX12_next 84 [some (mR 118), some (mI (cc)), some (mI (sl)), some (mI (0))] [] (mkh (m_set (m_set (m_set (m_upd μ 118 ((fs H 17 (m_lor (m_lshl (H 17) (8)) (μ 2 (q + k0)))))) 118 14 (w32 ((w32 ((w32 (10 * (H 14))) + (μ 2 (q + k0)))) - 48))) 118 13 ((((fs H 17 (m_lor (m_lshl (H 17) (8)) (μ 2 (q + k0))))) 13) + 1)) 118 4 ((((fs H 17 (m_lor (m_lshl (H 17) (8)) (μ 2 (q + k0))))) 4) + 1)) c s) _
                      rw [set_upd_eq (a := 118), set_upd_eq (a := 118), set_upd_eq (a := 118)]
                      have hsm : ¬ sm (μ 2 (q + k0)) := by omega
                      have hcL : cL (μ 2) q (k0 + 1) = cL (μ 2) q k0 + 0 := by show cL (μ 2) q k0 + (if _ then _ else _) = _; rw [if_neg hsm]
                      have hcD : cD (μ 2) q (k0 + 1) = cD (μ 2) q k0 + 1 := by show cD (μ 2) q k0 + (if _ then _ else _) = _; rw [if_neg hsm]
                      have hmw : mw (μ 2) q (k0 + 1) = m_lor (m_lshl (mw (μ 2) q k0) 8) (μ 2 (q + k0)) := if_pos (by omega)
                      have hmn : mn (μ 2) q (k0 + 1) = w32 (w32 (w32 (10 * mn (μ 2) q k0) + μ 2 (q + k0)) - 48) := if_pos (by omega)
                      exact ih (k0 + 1) _ _ (by omega) ⟨by omega, by rw [hcL, hcD]; omega⟩ hH3 (by show H 4 + 1 = _; omega) hH12 (by show H 13 + 1 = _; omega) (by rw [hmn, ← hH14]; first | rfl | exact hH14) (by rw [hmw, ← hH17]; first | rfl | exact hH17) (fun j j1 j2 j3 j4 j5 j6 => by
                        rw [← hfr j j1 j2 j3 j4 j5 j6]
                        first | rfl | (simp [fs, j1, j4, j5, j6]))
                        (by rw [← he]; exact (tre_t (b := μ 2) (d := d) (r := q + k0) (by omega)).symm)
                · skip
                  refine rn_iconst (k' := 100) rfl rfl ?_
                  refine rn_goto rfl ?_
                  refine rn_istore_n (k' := 103) (L' := [some (mR 118), some (mI (cc)), some (mI (sl)), some (mI (1))]) rfl rfl (Nat.le_of_ble_eq_true rfl) rfl ?_
                  refine rn_aload_n (k' := 104) rfl rfl rfl ?_
                  refine rn_getI (k' := 105) rfl rfl K0_118 (by decide) rfl ?_
                  show Rn PT none kX12_next 105 [some (mR 118), some (mI (cc)), some (mI (sl)), some (mI (1))] [mI (H 13)] (mkh (m_upd μ 118 H) c s) _
                  refine rn_bipush (k' := 106) rfl rfl ?_
                  refine rn_icmp_ge (k' := 107) rfl rfl (fun hc111 => ?_) (fun hc111 => ?_)
                  · skip
                    refine rn_aload_n (k' := 118) rfl rfl rfl ?_
                    refine rn_getI (k' := 119) rfl rfl K0_118 (by decide) rfl ?_
                    show Rn PT none kX12_next 119 [some (mR 118), some (mI (cc)), some (mI (sl)), some (mI (1))] [mI (H 13)] (mkh (m_upd μ 118 H) c s) _
                    refine rn_iconst (k' := 120) rfl rfl ?_
                    refine rn_icmp_ge (k' := 121) rfl rfl (fun hc112 => ?_) (fun hc112 => ?_)
                    · skip
                      refine rn_aload_n (k' := 133) rfl rfl rfl ?_
                      refine rn_dupR (k' := 134) rfl rfl ?_
                      refine rn_getI (k' := 135) rfl rfl K0_118 (by decide) rfl ?_
                      show Rn PT none kX12_next 135 [some (mR 118), some (mI (cc)), some (mI (sl)), some (mI (1))] [mI (H 13), mR 118] (mkh (m_upd μ 118 H) c s) _
                      refine rn_iconst (k' := 136) rfl rfl ?_
                      refine rn_iadd (k' := 137) rfl rfl (by first | omega | (simp [fs]; omega)) ?_
                      refine rn_putI (k' := 138) rfl rfl K0_118 (by decide) rfl ?_
                      refine rn_aload_n (k' := 139) rfl rfl rfl ?_
                      refine rn_dupR (k' := 140) rfl rfl ?_
                      refine rn_getI (k' := 141) rfl rfl K0_118 (by decide) rfl ?_
                      show Rn PT none kX12_next 141 [some (mR 118), some (mI (cc)), some (mI (sl)), some (mI (1))] [mI (H 4), mR 118] (mkh (m_set (m_upd μ 118 H) 118 13 ((H 13) + 1)) c s) _
                      refine rn_iconst (k' := 142) rfl rfl ?_
                      refine rn_iadd (k' := 143) rfl rfl (by first | omega | (simp [fs]; omega)) ?_
                      refine rn_putI (k' := 144) rfl rfl K0_118 (by decide) rfl ?_
                      refine rn_goto rfl ?_
                      show Rn PT none kX12_next 84 [some (mR 118), some (mI (cc)), some (mI (sl)), some (mI (1))] [] (mkh (m_set (m_set (m_upd μ 118 H) 118 13 ((H 13) + 1)) 118 4 ((H 4) + 1)) c s) _
                      rw [set_upd_eq (a := 118), set_upd_eq (a := 118)]
                      have hsm : ¬ sm (μ 2 (q + k0)) := by omega
                      have hcL : cL (μ 2) q (k0 + 1) = cL (μ 2) q k0 + 0 := by show cL (μ 2) q k0 + (if _ then _ else _) = _; rw [if_neg hsm]
                      have hcD : cD (μ 2) q (k0 + 1) = cD (μ 2) q k0 + 1 := by show cD (μ 2) q k0 + (if _ then _ else _) = _; rw [if_neg hsm]
                      have hmw : mw (μ 2) q (k0 + 1) = mw (μ 2) q k0 := if_neg (by omega)
                      have hmn : mn (μ 2) q (k0 + 1) = mn (μ 2) q k0 := if_neg (by omega)
                      exact ih (k0 + 1) _ _ (by omega) ⟨by omega, by rw [hcL, hcD]; omega⟩ hH3 (by show H 4 + 1 = _; omega) hH12 (by show H 13 + 1 = _; omega) (by rw [hmn]; first | rfl | exact hH14) (by rw [hmw]; first | rfl | exact hH17) (fun j j1 j2 j3 j4 j5 j6 => by
                        rw [← hfr j j1 j2 j3 j4 j5 j6]
                        first | rfl | (simp [fs, j1, j4, j5, j6]))
                        (by rw [← he]; exact (tre_t (b := μ 2) (d := d) (r := q + k0) (by omega)).symm)
                    · skip
                      refine rn_aload_n (k' := 122) rfl rfl rfl ?_
                      refine rn_bipush (k' := 123) rfl rfl ?_
                      refine rn_aload_n (k' := 124) rfl rfl rfl ?_
                      refine rn_getI (k' := 125) rfl rfl K0_118 (by decide) rfl ?_
                      show Rn PT none kX12_next 125 [some (mR 118), some (mI (cc)), some (mI (sl)), some (mI (1))] [mI (H 14), mI (10), mR 118] (mkh (m_upd μ 118 H) c s) _
                      refine rn_imulW (k' := 126) rfl rfl ?_
                      refine rn_aload_n (k' := 127) rfl rfl rfl ?_
                      refine rn_callP (k' := 128) (y := 172) (vs := [mR 118]) (S' := [mI (w32 (10 * (H 14))), mR 118]) (v := some (mI (μ 2 (q + k0)))) (h' := mkh (m_upd μ 118 H) c s) rfl rfl rfl (peek_in (μ := μ) (c := c) (s := s) ht (H := H) (n := n) (j := q + k0) (show H 3 = _ from hH3) (show H 4 = _ from hH4) (by omega) hn9) ?_
                      show Rn PT none kX12_next 128 [some (mR 118), some (mI (cc)), some (mI (sl)), some (mI (1))] [mI (μ 2 (q + k0)), mI (w32 (10 * (H 14))), mR 118] (mkh (m_upd μ 118 H) c s) _
                      refine rn_iaddW (k' := 129) rfl rfl ?_
                      refine rn_bipush (k' := 130) rfl rfl ?_
                      refine rn_isubW (k' := 131) rfl rfl ?_
                      refine rn_putI (k' := 132) rfl rfl K0_118 (by decide) rfl ?_
                      refine rn_aload_n (k' := 133) rfl rfl rfl ?_
                      refine rn_dupR (k' := 134) rfl rfl ?_
                      refine rn_getI (k' := 135) rfl rfl K0_118 (by decide) rfl ?_
                      show Rn PT none kX12_next 135 [some (mR 118), some (mI (cc)), some (mI (sl)), some (mI (1))] [mI (H 13), mR 118] (mkh (m_set (m_upd μ 118 H) 118 14 (w32 ((w32 ((w32 (10 * (H 14))) + (μ 2 (q + k0)))) - 48))) c s) _
                      refine rn_iconst (k' := 136) rfl rfl ?_
                      refine rn_iadd (k' := 137) rfl rfl (by first | omega | (simp [fs]; omega)) ?_
                      refine rn_putI (k' := 138) rfl rfl K0_118 (by decide) rfl ?_
                      refine rn_aload_n (k' := 139) rfl rfl rfl ?_
                      refine rn_dupR (k' := 140) rfl rfl ?_
                      refine rn_getI (k' := 141) rfl rfl K0_118 (by decide) rfl ?_
                      show Rn PT none kX12_next 141 [some (mR 118), some (mI (cc)), some (mI (sl)), some (mI (1))] [mI (H 4), mR 118] (mkh (m_set (m_set (m_upd μ 118 H) 118 14 (w32 ((w32 ((w32 (10 * (H 14))) + (μ 2 (q + k0)))) - 48))) 118 13 ((H 13) + 1)) c s) _
                      refine rn_iconst (k' := 142) rfl rfl ?_
                      refine rn_iadd (k' := 143) rfl rfl (by first | omega | (simp [fs]; omega)) ?_
                      refine rn_putI (k' := 144) rfl rfl K0_118 (by decide) rfl ?_
                      refine rn_goto rfl ?_
                      show Rn PT none kX12_next 84 [some (mR 118), some (mI (cc)), some (mI (sl)), some (mI (1))] [] (mkh (m_set (m_set (m_set (m_upd μ 118 H) 118 14 (w32 ((w32 ((w32 (10 * (H 14))) + (μ 2 (q + k0)))) - 48))) 118 13 ((H 13) + 1)) 118 4 ((H 4) + 1)) c s) _
                      rw [set_upd_eq (a := 118), set_upd_eq (a := 118), set_upd_eq (a := 118)]
                      have hsm : ¬ sm (μ 2 (q + k0)) := by omega
                      have hcL : cL (μ 2) q (k0 + 1) = cL (μ 2) q k0 + 0 := by show cL (μ 2) q k0 + (if _ then _ else _) = _; rw [if_neg hsm]
                      have hcD : cD (μ 2) q (k0 + 1) = cD (μ 2) q k0 + 1 := by show cD (μ 2) q k0 + (if _ then _ else _) = _; rw [if_neg hsm]
                      have hmw : mw (μ 2) q (k0 + 1) = mw (μ 2) q k0 := if_neg (by omega)
                      have hmn : mn (μ 2) q (k0 + 1) = w32 (w32 (w32 (10 * mn (μ 2) q k0) + μ 2 (q + k0)) - 48) := if_pos (by omega)
                      exact ih (k0 + 1) _ _ (by omega) ⟨by omega, by rw [hcL, hcD]; omega⟩ hH3 (by show H 4 + 1 = _; omega) hH12 (by show H 13 + 1 = _; omega) (by rw [hmn, ← hH14]; first | rfl | exact hH14) (by rw [hmw]; first | rfl | exact hH17) (fun j j1 j2 j3 j4 j5 j6 => by
                        rw [← hfr j j1 j2 j3 j4 j5 j6]
                        first | rfl | (simp [fs, j1, j4, j5, j6]))
                        (by rw [← he]; exact (tre_t (b := μ 2) (d := d) (r := q + k0) (by omega)).symm)
                  · skip
                    refine rn_aload_n (k' := 108) rfl rfl rfl ?_
                    refine rn_aload_n (k' := 109) rfl rfl rfl ?_
                    refine rn_getJ (k' := 110) rfl rfl K0_118 (by decide) rfl ?_
                    show Rn PT none kX12_next 110 [some (mR 118), some (mI (cc)), some (mI (sl)), some (mI (1))] [mJ (H 17), mR 118] (mkh (m_upd μ 118 H) c s) _
                    refine rn_bipush (k' := 111) rfl rfl ?_
                    refine rn_lshl (k' := 112) rfl rfl ?_
                    refine rn_aload_n (k' := 113) rfl rfl rfl ?_
                    refine rn_callP (k' := 114) (y := 172) (vs := [mR 118]) (S' := [mJ (m_lshl (H 17) (8)), mR 118]) (v := some (mI (μ 2 (q + k0)))) (h' := mkh (m_upd μ 118 H) c s) rfl rfl rfl (peek_in (μ := μ) (c := c) (s := s) ht (H := H) (n := n) (j := q + k0) (show H 3 = _ from hH3) (show H 4 = _ from hH4) (by omega) hn9) ?_
                    show Rn PT none kX12_next 114 [some (mR 118), some (mI (cc)), some (mI (sl)), some (mI (1))] [mI (μ 2 (q + k0)), mJ (m_lshl (H 17) (8)), mR 118] (mkh (m_upd μ 118 H) c s) _
                    refine rn_i2l (k' := 115) rfl rfl ?_
                    refine rn_lor (k' := 116) rfl rfl ?_
                    refine rn_putJ (k' := 117) rfl rfl K0_118 (by decide) rfl ?_
                    refine rn_aload_n (k' := 118) rfl rfl rfl ?_
                    refine rn_getI (k' := 119) rfl rfl K0_118 (by decide) rfl ?_
                    show Rn PT none kX12_next 119 [some (mR 118), some (mI (cc)), some (mI (sl)), some (mI (1))] [mI (H 13)] (mkh (m_set (m_upd μ 118 H) 118 17 (m_lor (m_lshl (H 17) (8)) (μ 2 (q + k0)))) c s) _
                    refine rn_iconst (k' := 120) rfl rfl ?_
                    refine rn_icmp_ge (k' := 121) rfl rfl (fun hc119 => ?_) (fun hc119 => ?_)
                    · skip
                      refine rn_aload_n (k' := 133) rfl rfl rfl ?_
                      refine rn_dupR (k' := 134) rfl rfl ?_
                      refine rn_getI (k' := 135) rfl rfl K0_118 (by decide) rfl ?_
                      show Rn PT none kX12_next 135 [some (mR 118), some (mI (cc)), some (mI (sl)), some (mI (1))] [mI (H 13), mR 118] (mkh (m_set (m_upd μ 118 H) 118 17 (m_lor (m_lshl (H 17) (8)) (μ 2 (q + k0)))) c s) _
                      refine rn_iconst (k' := 136) rfl rfl ?_
                      refine rn_iadd (k' := 137) rfl rfl (by first | omega | (simp [fs]; omega)) ?_
                      refine rn_putI (k' := 138) rfl rfl K0_118 (by decide) rfl ?_
                      refine rn_aload_n (k' := 139) rfl rfl rfl ?_
                      refine rn_dupR (k' := 140) rfl rfl ?_
                      refine rn_getI (k' := 141) rfl rfl K0_118 (by decide) rfl ?_
                      show Rn PT none kX12_next 141 [some (mR 118), some (mI (cc)), some (mI (sl)), some (mI (1))] [mI (H 4), mR 118] (mkh (m_set (m_set (m_upd μ 118 H) 118 17 (m_lor (m_lshl (H 17) (8)) (μ 2 (q + k0)))) 118 13 ((H 13) + 1)) c s) _
                      refine rn_iconst (k' := 142) rfl rfl ?_
                      refine rn_iadd (k' := 143) rfl rfl (by first | omega | (simp [fs]; omega)) ?_
                      refine rn_putI (k' := 144) rfl rfl K0_118 (by decide) rfl ?_
                      refine rn_goto rfl ?_
                      show Rn PT none kX12_next 84 [some (mR 118), some (mI (cc)), some (mI (sl)), some (mI (1))] [] (mkh (m_set (m_set (m_set (m_upd μ 118 H) 118 17 (m_lor (m_lshl (H 17) (8)) (μ 2 (q + k0)))) 118 13 ((H 13) + 1)) 118 4 ((H 4) + 1)) c s) _
                      rw [set_upd_eq (a := 118), set_upd_eq (a := 118), set_upd_eq (a := 118)]
                      have hsm : ¬ sm (μ 2 (q + k0)) := by omega
                      have hcL : cL (μ 2) q (k0 + 1) = cL (μ 2) q k0 + 0 := by show cL (μ 2) q k0 + (if _ then _ else _) = _; rw [if_neg hsm]
                      have hcD : cD (μ 2) q (k0 + 1) = cD (μ 2) q k0 + 1 := by show cD (μ 2) q k0 + (if _ then _ else _) = _; rw [if_neg hsm]
                      have hmw : mw (μ 2) q (k0 + 1) = m_lor (m_lshl (mw (μ 2) q k0) 8) (μ 2 (q + k0)) := if_pos (by omega)
                      have hmn : mn (μ 2) q (k0 + 1) = mn (μ 2) q k0 := if_neg (by omega)
                      exact ih (k0 + 1) _ _ (by omega) ⟨by omega, by rw [hcL, hcD]; omega⟩ hH3 (by show H 4 + 1 = _; omega) hH12 (by show H 13 + 1 = _; omega) (by rw [hmn]; first | rfl | exact hH14) (by rw [hmw, ← hH17]; first | rfl | exact hH17) (fun j j1 j2 j3 j4 j5 j6 => by
                        rw [← hfr j j1 j2 j3 j4 j5 j6]
                        first | rfl | (simp [fs, j1, j4, j5, j6]))
                        (by rw [← he]; exact (tre_t (b := μ 2) (d := d) (r := q + k0) (by omega)).symm)
                    · skip
                      refine rn_aload_n (k' := 122) rfl rfl rfl ?_
                      refine rn_bipush (k' := 123) rfl rfl ?_
                      refine rn_aload_n (k' := 124) rfl rfl rfl ?_
                      refine rn_getI (k' := 125) rfl rfl K0_118 (by decide) rfl ?_
                      show Rn PT none kX12_next 125 [some (mR 118), some (mI (cc)), some (mI (sl)), some (mI (1))] [mI (H 14), mI (10), mR 118] (mkh (m_set (m_upd μ 118 H) 118 17 (m_lor (m_lshl (H 17) (8)) (μ 2 (q + k0)))) c s) _
                      refine rn_imulW (k' := 126) rfl rfl ?_
                      refine rn_aload_n (k' := 127) rfl rfl rfl ?_
                      rw [set_upd_eq (a := 118)]
                      refine rn_callP (k' := 128) (y := 172) (vs := [mR 118]) (S' := [mI (w32 (10 * (H 14))), mR 118]) (v := some (mI (μ 2 (q + k0)))) (h' := mkh (m_upd μ 118 ((fs H 17 (m_lor (m_lshl (H 17) (8)) (μ 2 (q + k0)))))) c s) rfl rfl rfl (peek_in (μ := μ) (c := c) (s := s) ht (H := (fs H 17 (m_lor (m_lshl (H 17) (8)) (μ 2 (q + k0))))) (n := n) (j := q + k0) (show H 3 = _ from hH3) (show H 4 = _ from hH4) (by omega) hn9) ?_
                      show Rn PT none kX12_next 128 [some (mR 118), some (mI (cc)), some (mI (sl)), some (mI (1))] [mI (μ 2 (q + k0)), mI (w32 (10 * (H 14))), mR 118] (mkh (m_upd μ 118 ((fs H 17 (m_lor (m_lshl (H 17) (8)) (μ 2 (q + k0)))))) c s) _
                      refine rn_iaddW (k' := 129) rfl rfl ?_
                      refine rn_bipush (k' := 130) rfl rfl ?_
                      refine rn_isubW (k' := 131) rfl rfl ?_
                      refine rn_putI (k' := 132) rfl rfl K0_118 (by decide) rfl ?_
                      refine rn_aload_n (k' := 133) rfl rfl rfl ?_
                      refine rn_dupR (k' := 134) rfl rfl ?_
                      refine rn_getI (k' := 135) rfl rfl K0_118 (by decide) rfl ?_
                      show Rn PT none kX12_next 135 [some (mR 118), some (mI (cc)), some (mI (sl)), some (mI (1))] [mI (((fs H 17 (m_lor (m_lshl (H 17) (8)) (μ 2 (q + k0))))) 13), mR 118] (mkh (m_set (m_upd μ 118 ((fs H 17 (m_lor (m_lshl (H 17) (8)) (μ 2 (q + k0)))))) 118 14 (w32 ((w32 ((w32 (10 * (H 14))) + (μ 2 (q + k0)))) - 48))) c s) _
                      refine rn_iconst (k' := 136) rfl rfl ?_
                      refine rn_iadd (k' := 137) rfl rfl (by first | omega | (simp [fs]; omega)) ?_
                      refine rn_putI (k' := 138) rfl rfl K0_118 (by decide) rfl ?_
                      refine rn_aload_n (k' := 139) rfl rfl rfl ?_
                      refine rn_dupR (k' := 140) rfl rfl ?_
                      refine rn_getI (k' := 141) rfl rfl K0_118 (by decide) rfl ?_
                      show Rn PT none kX12_next 141 [some (mR 118), some (mI (cc)), some (mI (sl)), some (mI (1))] [mI (((fs H 17 (m_lor (m_lshl (H 17) (8)) (μ 2 (q + k0))))) 4), mR 118] (mkh (m_set (m_set (m_upd μ 118 ((fs H 17 (m_lor (m_lshl (H 17) (8)) (μ 2 (q + k0)))))) 118 14 (w32 ((w32 ((w32 (10 * (H 14))) + (μ 2 (q + k0)))) - 48))) 118 13 ((((fs H 17 (m_lor (m_lshl (H 17) (8)) (μ 2 (q + k0))))) 13) + 1)) c s) _
                      refine rn_iconst (k' := 142) rfl rfl ?_
                      refine rn_iadd (k' := 143) rfl rfl (by first | omega | (simp [fs]; omega)) ?_
                      refine rn_putI (k' := 144) rfl rfl K0_118 (by decide) rfl ?_
                      refine rn_goto rfl ?_
                      show Rn PT none kX12_next 84 [some (mR 118), some (mI (cc)), some (mI (sl)), some (mI (1))] [] (mkh (m_set (m_set (m_set (m_upd μ 118 ((fs H 17 (m_lor (m_lshl (H 17) (8)) (μ 2 (q + k0)))))) 118 14 (w32 ((w32 ((w32 (10 * (H 14))) + (μ 2 (q + k0)))) - 48))) 118 13 ((((fs H 17 (m_lor (m_lshl (H 17) (8)) (μ 2 (q + k0))))) 13) + 1)) 118 4 ((((fs H 17 (m_lor (m_lshl (H 17) (8)) (μ 2 (q + k0))))) 4) + 1)) c s) _
                      rw [set_upd_eq (a := 118), set_upd_eq (a := 118), set_upd_eq (a := 118)]
                      have hsm : ¬ sm (μ 2 (q + k0)) := by omega
                      have hcL : cL (μ 2) q (k0 + 1) = cL (μ 2) q k0 + 0 := by show cL (μ 2) q k0 + (if _ then _ else _) = _; rw [if_neg hsm]
                      have hcD : cD (μ 2) q (k0 + 1) = cD (μ 2) q k0 + 1 := by show cD (μ 2) q k0 + (if _ then _ else _) = _; rw [if_neg hsm]
                      have hmw : mw (μ 2) q (k0 + 1) = m_lor (m_lshl (mw (μ 2) q k0) 8) (μ 2 (q + k0)) := if_pos (by omega)
                      have hmn : mn (μ 2) q (k0 + 1) = w32 (w32 (w32 (10 * mn (μ 2) q k0) + μ 2 (q + k0)) - 48) := if_pos (by omega)
                      exact ih (k0 + 1) _ _ (by omega) ⟨by omega, by rw [hcL, hcD]; omega⟩ hH3 (by show H 4 + 1 = _; omega) hH12 (by show H 13 + 1 = _; omega) (by rw [hmn, ← hH14]; first | rfl | exact hH14) (by rw [hmw, ← hH17]; first | rfl | exact hH17) (fun j j1 j2 j3 j4 j5 j6 => by
                        rw [← hfr j j1 j2 j3 j4 j5 j6]
                        first | rfl | (simp [fs, j1, j4, j5, j6]))
                        (by rw [← he]; exact (tre_t (b := μ 2) (d := d) (r := q + k0) (by omega)).symm)
              · refine rn_callP (k' := 97) (y := 173) (vs := [mI (μ 2 (q + k0))]) (S' := []) (v := some (mI 0)) (h' := mkh (m_upd μ 118 H) c s) rfl rfl rfl (by have hz : Cl PT 173 [mI (μ 2 (q + k0))] (mkh (m_upd μ 118 H) c s) (fun r => r = (some (some (mI (if 97 ≤ μ 2 (q + k0) ∧ μ 2 (q + k0) ≤ 122 then 1 else 0))), mkh (m_upd μ 118 H) c s)) := c_X12_isSmall (a := μ 2 (q + k0)) (μ := (m_upd μ 118 H)) (c := c) (s := s); rw [if_neg hq95] at hz; exact hz) ?_
                show Rn PT none kX12_next 97 [some (mR 118), some (mI (cc)), some (mI (sl)), some (mI (al))] [mI (0)] (mkh (m_upd μ 118 H) c s) _
                refine rn_iload_n (k' := 98) rfl rfl rfl ?_
                refine rn_icmp_ne (k' := 99) rfl rfl (fun hc125 => ?_) (fun hc125 => ?_)
                · skip
                  refine rn_iconst (k' := 102) rfl rfl ?_
                  refine rn_istore_n (k' := 103) (L' := [some (mR 118), some (mI (cc)), some (mI (sl)), some (mI (0))]) rfl rfl (Nat.le_of_ble_eq_true rfl) rfl ?_
                  refine rn_aload_n (k' := 104) rfl rfl rfl ?_
                  refine rn_getI (k' := 105) rfl rfl K0_118 (by decide) rfl ?_
                  show Rn PT none kX12_next 105 [some (mR 118), some (mI (cc)), some (mI (sl)), some (mI (0))] [mI (H 13)] (mkh (m_upd μ 118 H) c s) _
                  refine rn_bipush (k' := 106) rfl rfl ?_
                  refine rn_icmp_ge (k' := 107) rfl rfl (fun hc126 => ?_) (fun hc126 => ?_)
                  · skip
                    refine rn_aload_n (k' := 118) rfl rfl rfl ?_
                    refine rn_getI (k' := 119) rfl rfl K0_118 (by decide) rfl ?_
                    show Rn PT none kX12_next 119 [some (mR 118), some (mI (cc)), some (mI (sl)), some (mI (0))] [mI (H 13)] (mkh (m_upd μ 118 H) c s) _
                    refine rn_iconst (k' := 120) rfl rfl ?_
                    refine rn_icmp_ge (k' := 121) rfl rfl (fun hc127 => ?_) (fun hc127 => ?_)
                    · skip
                      refine rn_aload_n (k' := 133) rfl rfl rfl ?_
                      refine rn_dupR (k' := 134) rfl rfl ?_
                      refine rn_getI (k' := 135) rfl rfl K0_118 (by decide) rfl ?_
                      show Rn PT none kX12_next 135 [some (mR 118), some (mI (cc)), some (mI (sl)), some (mI (0))] [mI (H 13), mR 118] (mkh (m_upd μ 118 H) c s) _
                      refine rn_iconst (k' := 136) rfl rfl ?_
                      refine rn_iadd (k' := 137) rfl rfl (by first | omega | (simp [fs]; omega)) ?_
                      refine rn_putI (k' := 138) rfl rfl K0_118 (by decide) rfl ?_
                      refine rn_aload_n (k' := 139) rfl rfl rfl ?_
                      refine rn_dupR (k' := 140) rfl rfl ?_
                      refine rn_getI (k' := 141) rfl rfl K0_118 (by decide) rfl ?_
                      show Rn PT none kX12_next 141 [some (mR 118), some (mI (cc)), some (mI (sl)), some (mI (0))] [mI (H 4), mR 118] (mkh (m_set (m_upd μ 118 H) 118 13 ((H 13) + 1)) c s) _
                      refine rn_iconst (k' := 142) rfl rfl ?_
                      refine rn_iadd (k' := 143) rfl rfl (by first | omega | (simp [fs]; omega)) ?_
                      refine rn_putI (k' := 144) rfl rfl K0_118 (by decide) rfl ?_
                      refine rn_goto rfl ?_
                      show Rn PT none kX12_next 84 [some (mR 118), some (mI (cc)), some (mI (sl)), some (mI (0))] [] (mkh (m_set (m_set (m_upd μ 118 H) 118 13 ((H 13) + 1)) 118 4 ((H 4) + 1)) c s) _
                      rw [set_upd_eq (a := 118), set_upd_eq (a := 118)]
                      have hsm : ¬ sm (μ 2 (q + k0)) := by omega
                      have hcL : cL (μ 2) q (k0 + 1) = cL (μ 2) q k0 + 0 := by show cL (μ 2) q k0 + (if _ then _ else _) = _; rw [if_neg hsm]
                      have hcD : cD (μ 2) q (k0 + 1) = cD (μ 2) q k0 + 1 := by show cD (μ 2) q k0 + (if _ then _ else _) = _; rw [if_neg hsm]
                      have hmw : mw (μ 2) q (k0 + 1) = mw (μ 2) q k0 := if_neg (by omega)
                      have hmn : mn (μ 2) q (k0 + 1) = mn (μ 2) q k0 := if_neg (by omega)
                      exact ih (k0 + 1) _ _ (by omega) ⟨by omega, by rw [hcL, hcD]; omega⟩ hH3 (by show H 4 + 1 = _; omega) hH12 (by show H 13 + 1 = _; omega) (by rw [hmn]; first | rfl | exact hH14) (by rw [hmw]; first | rfl | exact hH17) (fun j j1 j2 j3 j4 j5 j6 => by
                        rw [← hfr j j1 j2 j3 j4 j5 j6]
                        first | rfl | (simp [fs, j1, j4, j5, j6]))
                        (by rw [← he]; exact (tre_t (b := μ 2) (d := d) (r := q + k0) (by omega)).symm)
                    · skip
                      refine rn_aload_n (k' := 122) rfl rfl rfl ?_
                      refine rn_bipush (k' := 123) rfl rfl ?_
                      refine rn_aload_n (k' := 124) rfl rfl rfl ?_
                      refine rn_getI (k' := 125) rfl rfl K0_118 (by decide) rfl ?_
                      show Rn PT none kX12_next 125 [some (mR 118), some (mI (cc)), some (mI (sl)), some (mI (0))] [mI (H 14), mI (10), mR 118] (mkh (m_upd μ 118 H) c s) _
                      refine rn_imulW (k' := 126) rfl rfl ?_
                      refine rn_aload_n (k' := 127) rfl rfl rfl ?_
                      refine rn_callP (k' := 128) (y := 172) (vs := [mR 118]) (S' := [mI (w32 (10 * (H 14))), mR 118]) (v := some (mI (μ 2 (q + k0)))) (h' := mkh (m_upd μ 118 H) c s) rfl rfl rfl (peek_in (μ := μ) (c := c) (s := s) ht (H := H) (n := n) (j := q + k0) (show H 3 = _ from hH3) (show H 4 = _ from hH4) (by omega) hn9) ?_
                      show Rn PT none kX12_next 128 [some (mR 118), some (mI (cc)), some (mI (sl)), some (mI (0))] [mI (μ 2 (q + k0)), mI (w32 (10 * (H 14))), mR 118] (mkh (m_upd μ 118 H) c s) _
                      refine rn_iaddW (k' := 129) rfl rfl ?_
                      refine rn_bipush (k' := 130) rfl rfl ?_
                      refine rn_isubW (k' := 131) rfl rfl ?_
                      refine rn_putI (k' := 132) rfl rfl K0_118 (by decide) rfl ?_
                      refine rn_aload_n (k' := 133) rfl rfl rfl ?_
                      refine rn_dupR (k' := 134) rfl rfl ?_
                      refine rn_getI (k' := 135) rfl rfl K0_118 (by decide) rfl ?_
                      show Rn PT none kX12_next 135 [some (mR 118), some (mI (cc)), some (mI (sl)), some (mI (0))] [mI (H 13), mR 118] (mkh (m_set (m_upd μ 118 H) 118 14 (w32 ((w32 ((w32 (10 * (H 14))) + (μ 2 (q + k0)))) - 48))) c s) _
                      refine rn_iconst (k' := 136) rfl rfl ?_
                      refine rn_iadd (k' := 137) rfl rfl (by first | omega | (simp [fs]; omega)) ?_
                      refine rn_putI (k' := 138) rfl rfl K0_118 (by decide) rfl ?_
                      refine rn_aload_n (k' := 139) rfl rfl rfl ?_
                      refine rn_dupR (k' := 140) rfl rfl ?_
                      refine rn_getI (k' := 141) rfl rfl K0_118 (by decide) rfl ?_
                      show Rn PT none kX12_next 141 [some (mR 118), some (mI (cc)), some (mI (sl)), some (mI (0))] [mI (H 4), mR 118] (mkh (m_set (m_set (m_upd μ 118 H) 118 14 (w32 ((w32 ((w32 (10 * (H 14))) + (μ 2 (q + k0)))) - 48))) 118 13 ((H 13) + 1)) c s) _
                      refine rn_iconst (k' := 142) rfl rfl ?_
                      refine rn_iadd (k' := 143) rfl rfl (by first | omega | (simp [fs]; omega)) ?_
                      refine rn_putI (k' := 144) rfl rfl K0_118 (by decide) rfl ?_
                      refine rn_goto rfl ?_
                      show Rn PT none kX12_next 84 [some (mR 118), some (mI (cc)), some (mI (sl)), some (mI (0))] [] (mkh (m_set (m_set (m_set (m_upd μ 118 H) 118 14 (w32 ((w32 ((w32 (10 * (H 14))) + (μ 2 (q + k0)))) - 48))) 118 13 ((H 13) + 1)) 118 4 ((H 4) + 1)) c s) _
                      rw [set_upd_eq (a := 118), set_upd_eq (a := 118), set_upd_eq (a := 118)]
                      have hsm : ¬ sm (μ 2 (q + k0)) := by omega
                      have hcL : cL (μ 2) q (k0 + 1) = cL (μ 2) q k0 + 0 := by show cL (μ 2) q k0 + (if _ then _ else _) = _; rw [if_neg hsm]
                      have hcD : cD (μ 2) q (k0 + 1) = cD (μ 2) q k0 + 1 := by show cD (μ 2) q k0 + (if _ then _ else _) = _; rw [if_neg hsm]
                      have hmw : mw (μ 2) q (k0 + 1) = mw (μ 2) q k0 := if_neg (by omega)
                      have hmn : mn (μ 2) q (k0 + 1) = w32 (w32 (w32 (10 * mn (μ 2) q k0) + μ 2 (q + k0)) - 48) := if_pos (by omega)
                      exact ih (k0 + 1) _ _ (by omega) ⟨by omega, by rw [hcL, hcD]; omega⟩ hH3 (by show H 4 + 1 = _; omega) hH12 (by show H 13 + 1 = _; omega) (by rw [hmn, ← hH14]; first | rfl | exact hH14) (by rw [hmw]; first | rfl | exact hH17) (fun j j1 j2 j3 j4 j5 j6 => by
                        rw [← hfr j j1 j2 j3 j4 j5 j6]
                        first | rfl | (simp [fs, j1, j4, j5, j6]))
                        (by rw [← he]; exact (tre_t (b := μ 2) (d := d) (r := q + k0) (by omega)).symm)
                  · skip
                    refine rn_aload_n (k' := 108) rfl rfl rfl ?_
                    refine rn_aload_n (k' := 109) rfl rfl rfl ?_
                    refine rn_getJ (k' := 110) rfl rfl K0_118 (by decide) rfl ?_
                    show Rn PT none kX12_next 110 [some (mR 118), some (mI (cc)), some (mI (sl)), some (mI (0))] [mJ (H 17), mR 118] (mkh (m_upd μ 118 H) c s) _
                    refine rn_bipush (k' := 111) rfl rfl ?_
                    refine rn_lshl (k' := 112) rfl rfl ?_
                    refine rn_aload_n (k' := 113) rfl rfl rfl ?_
                    refine rn_callP (k' := 114) (y := 172) (vs := [mR 118]) (S' := [mJ (m_lshl (H 17) (8)), mR 118]) (v := some (mI (μ 2 (q + k0)))) (h' := mkh (m_upd μ 118 H) c s) rfl rfl rfl (peek_in (μ := μ) (c := c) (s := s) ht (H := H) (n := n) (j := q + k0) (show H 3 = _ from hH3) (show H 4 = _ from hH4) (by omega) hn9) ?_
                    show Rn PT none kX12_next 114 [some (mR 118), some (mI (cc)), some (mI (sl)), some (mI (0))] [mI (μ 2 (q + k0)), mJ (m_lshl (H 17) (8)), mR 118] (mkh (m_upd μ 118 H) c s) _
                    refine rn_i2l (k' := 115) rfl rfl ?_
                    refine rn_lor (k' := 116) rfl rfl ?_
                    refine rn_putJ (k' := 117) rfl rfl K0_118 (by decide) rfl ?_
                    refine rn_aload_n (k' := 118) rfl rfl rfl ?_
                    refine rn_getI (k' := 119) rfl rfl K0_118 (by decide) rfl ?_
                    show Rn PT none kX12_next 119 [some (mR 118), some (mI (cc)), some (mI (sl)), some (mI (0))] [mI (H 13)] (mkh (m_set (m_upd μ 118 H) 118 17 (m_lor (m_lshl (H 17) (8)) (μ 2 (q + k0)))) c s) _
                    refine rn_iconst (k' := 120) rfl rfl ?_
                    refine rn_icmp_ge (k' := 121) rfl rfl (fun hc134 => ?_) (fun hc134 => ?_)
                    · skip
                      refine rn_aload_n (k' := 133) rfl rfl rfl ?_
                      refine rn_dupR (k' := 134) rfl rfl ?_
                      refine rn_getI (k' := 135) rfl rfl K0_118 (by decide) rfl ?_
                      show Rn PT none kX12_next 135 [some (mR 118), some (mI (cc)), some (mI (sl)), some (mI (0))] [mI (H 13), mR 118] (mkh (m_set (m_upd μ 118 H) 118 17 (m_lor (m_lshl (H 17) (8)) (μ 2 (q + k0)))) c s) _
                      refine rn_iconst (k' := 136) rfl rfl ?_
                      refine rn_iadd (k' := 137) rfl rfl (by first | omega | (simp [fs]; omega)) ?_
                      refine rn_putI (k' := 138) rfl rfl K0_118 (by decide) rfl ?_
                      refine rn_aload_n (k' := 139) rfl rfl rfl ?_
                      refine rn_dupR (k' := 140) rfl rfl ?_
                      refine rn_getI (k' := 141) rfl rfl K0_118 (by decide) rfl ?_
                      show Rn PT none kX12_next 141 [some (mR 118), some (mI (cc)), some (mI (sl)), some (mI (0))] [mI (H 4), mR 118] (mkh (m_set (m_set (m_upd μ 118 H) 118 17 (m_lor (m_lshl (H 17) (8)) (μ 2 (q + k0)))) 118 13 ((H 13) + 1)) c s) _
                      refine rn_iconst (k' := 142) rfl rfl ?_
                      refine rn_iadd (k' := 143) rfl rfl (by first | omega | (simp [fs]; omega)) ?_
                      refine rn_putI (k' := 144) rfl rfl K0_118 (by decide) rfl ?_
                      refine rn_goto rfl ?_
                      show Rn PT none kX12_next 84 [some (mR 118), some (mI (cc)), some (mI (sl)), some (mI (0))] [] (mkh (m_set (m_set (m_set (m_upd μ 118 H) 118 17 (m_lor (m_lshl (H 17) (8)) (μ 2 (q + k0)))) 118 13 ((H 13) + 1)) 118 4 ((H 4) + 1)) c s) _
                      rw [set_upd_eq (a := 118), set_upd_eq (a := 118), set_upd_eq (a := 118)]
                      have hsm : ¬ sm (μ 2 (q + k0)) := by omega
                      have hcL : cL (μ 2) q (k0 + 1) = cL (μ 2) q k0 + 0 := by show cL (μ 2) q k0 + (if _ then _ else _) = _; rw [if_neg hsm]
                      have hcD : cD (μ 2) q (k0 + 1) = cD (μ 2) q k0 + 1 := by show cD (μ 2) q k0 + (if _ then _ else _) = _; rw [if_neg hsm]
                      have hmw : mw (μ 2) q (k0 + 1) = m_lor (m_lshl (mw (μ 2) q k0) 8) (μ 2 (q + k0)) := if_pos (by omega)
                      have hmn : mn (μ 2) q (k0 + 1) = mn (μ 2) q k0 := if_neg (by omega)
                      exact ih (k0 + 1) _ _ (by omega) ⟨by omega, by rw [hcL, hcD]; omega⟩ hH3 (by show H 4 + 1 = _; omega) hH12 (by show H 13 + 1 = _; omega) (by rw [hmn]; first | rfl | exact hH14) (by rw [hmw, ← hH17]; first | rfl | exact hH17) (fun j j1 j2 j3 j4 j5 j6 => by
                        rw [← hfr j j1 j2 j3 j4 j5 j6]
                        first | rfl | (simp [fs, j1, j4, j5, j6]))
                        (by rw [← he]; exact (tre_t (b := μ 2) (d := d) (r := q + k0) (by omega)).symm)
                    · skip
                      refine rn_aload_n (k' := 122) rfl rfl rfl ?_
                      refine rn_bipush (k' := 123) rfl rfl ?_
                      refine rn_aload_n (k' := 124) rfl rfl rfl ?_
                      refine rn_getI (k' := 125) rfl rfl K0_118 (by decide) rfl ?_
                      show Rn PT none kX12_next 125 [some (mR 118), some (mI (cc)), some (mI (sl)), some (mI (0))] [mI (H 14), mI (10), mR 118] (mkh (m_set (m_upd μ 118 H) 118 17 (m_lor (m_lshl (H 17) (8)) (μ 2 (q + k0)))) c s) _
                      refine rn_imulW (k' := 126) rfl rfl ?_
                      refine rn_aload_n (k' := 127) rfl rfl rfl ?_
                      rw [set_upd_eq (a := 118)]
                      refine rn_callP (k' := 128) (y := 172) (vs := [mR 118]) (S' := [mI (w32 (10 * (H 14))), mR 118]) (v := some (mI (μ 2 (q + k0)))) (h' := mkh (m_upd μ 118 ((fs H 17 (m_lor (m_lshl (H 17) (8)) (μ 2 (q + k0)))))) c s) rfl rfl rfl (peek_in (μ := μ) (c := c) (s := s) ht (H := (fs H 17 (m_lor (m_lshl (H 17) (8)) (μ 2 (q + k0))))) (n := n) (j := q + k0) (show H 3 = _ from hH3) (show H 4 = _ from hH4) (by omega) hn9) ?_
                      show Rn PT none kX12_next 128 [some (mR 118), some (mI (cc)), some (mI (sl)), some (mI (0))] [mI (μ 2 (q + k0)), mI (w32 (10 * (H 14))), mR 118] (mkh (m_upd μ 118 ((fs H 17 (m_lor (m_lshl (H 17) (8)) (μ 2 (q + k0)))))) c s) _
                      refine rn_iaddW (k' := 129) rfl rfl ?_
                      refine rn_bipush (k' := 130) rfl rfl ?_
                      refine rn_isubW (k' := 131) rfl rfl ?_
                      refine rn_putI (k' := 132) rfl rfl K0_118 (by decide) rfl ?_
                      refine rn_aload_n (k' := 133) rfl rfl rfl ?_
                      refine rn_dupR (k' := 134) rfl rfl ?_
                      refine rn_getI (k' := 135) rfl rfl K0_118 (by decide) rfl ?_
                      show Rn PT none kX12_next 135 [some (mR 118), some (mI (cc)), some (mI (sl)), some (mI (0))] [mI (((fs H 17 (m_lor (m_lshl (H 17) (8)) (μ 2 (q + k0))))) 13), mR 118] (mkh (m_set (m_upd μ 118 ((fs H 17 (m_lor (m_lshl (H 17) (8)) (μ 2 (q + k0)))))) 118 14 (w32 ((w32 ((w32 (10 * (H 14))) + (μ 2 (q + k0)))) - 48))) c s) _
                      refine rn_iconst (k' := 136) rfl rfl ?_
                      refine rn_iadd (k' := 137) rfl rfl (by first | omega | (simp [fs]; omega)) ?_
                      refine rn_putI (k' := 138) rfl rfl K0_118 (by decide) rfl ?_
                      refine rn_aload_n (k' := 139) rfl rfl rfl ?_
                      refine rn_dupR (k' := 140) rfl rfl ?_
                      refine rn_getI (k' := 141) rfl rfl K0_118 (by decide) rfl ?_
                      show Rn PT none kX12_next 141 [some (mR 118), some (mI (cc)), some (mI (sl)), some (mI (0))] [mI (((fs H 17 (m_lor (m_lshl (H 17) (8)) (μ 2 (q + k0))))) 4), mR 118] (mkh (m_set (m_set (m_upd μ 118 ((fs H 17 (m_lor (m_lshl (H 17) (8)) (μ 2 (q + k0)))))) 118 14 (w32 ((w32 ((w32 (10 * (H 14))) + (μ 2 (q + k0)))) - 48))) 118 13 ((((fs H 17 (m_lor (m_lshl (H 17) (8)) (μ 2 (q + k0))))) 13) + 1)) c s) _
                      refine rn_iconst (k' := 142) rfl rfl ?_
                      refine rn_iadd (k' := 143) rfl rfl (by first | omega | (simp [fs]; omega)) ?_
                      refine rn_putI (k' := 144) rfl rfl K0_118 (by decide) rfl ?_
                      refine rn_goto rfl ?_
                      show Rn PT none kX12_next 84 [some (mR 118), some (mI (cc)), some (mI (sl)), some (mI (0))] [] (mkh (m_set (m_set (m_set (m_upd μ 118 ((fs H 17 (m_lor (m_lshl (H 17) (8)) (μ 2 (q + k0)))))) 118 14 (w32 ((w32 ((w32 (10 * (H 14))) + (μ 2 (q + k0)))) - 48))) 118 13 ((((fs H 17 (m_lor (m_lshl (H 17) (8)) (μ 2 (q + k0))))) 13) + 1)) 118 4 ((((fs H 17 (m_lor (m_lshl (H 17) (8)) (μ 2 (q + k0))))) 4) + 1)) c s) _
                      rw [set_upd_eq (a := 118), set_upd_eq (a := 118), set_upd_eq (a := 118)]
                      have hsm : ¬ sm (μ 2 (q + k0)) := by omega
                      have hcL : cL (μ 2) q (k0 + 1) = cL (μ 2) q k0 + 0 := by show cL (μ 2) q k0 + (if _ then _ else _) = _; rw [if_neg hsm]
                      have hcD : cD (μ 2) q (k0 + 1) = cD (μ 2) q k0 + 1 := by show cD (μ 2) q k0 + (if _ then _ else _) = _; rw [if_neg hsm]
                      have hmw : mw (μ 2) q (k0 + 1) = m_lor (m_lshl (mw (μ 2) q k0) 8) (μ 2 (q + k0)) := if_pos (by omega)
                      have hmn : mn (μ 2) q (k0 + 1) = w32 (w32 (w32 (10 * mn (μ 2) q k0) + μ 2 (q + k0)) - 48) := if_pos (by omega)
                      exact ih (k0 + 1) _ _ (by omega) ⟨by omega, by rw [hcL, hcD]; omega⟩ hH3 (by show H 4 + 1 = _; omega) hH12 (by show H 13 + 1 = _; omega) (by rw [hmn, ← hH14]; first | rfl | exact hH14) (by rw [hmw, ← hH17]; first | rfl | exact hH17) (fun j j1 j2 j3 j4 j5 j6 => by
                        rw [← hfr j j1 j2 j3 j4 j5 j6]
                        first | rfl | (simp [fs, j1, j4, j5, j6]))
                        (by rw [← he]; exact (tre_t (b := μ 2) (d := d) (r := q + k0) (by omega)).symm)
                · skip
                  refine rn_iconst (k' := 100) rfl rfl ?_
                  refine rn_goto rfl ?_
                  refine rn_istore_n (k' := 103) (L' := [some (mR 118), some (mI (cc)), some (mI (sl)), some (mI (1))]) rfl rfl (Nat.le_of_ble_eq_true rfl) rfl ?_
                  refine rn_aload_n (k' := 104) rfl rfl rfl ?_
                  refine rn_getI (k' := 105) rfl rfl K0_118 (by decide) rfl ?_
                  show Rn PT none kX12_next 105 [some (mR 118), some (mI (cc)), some (mI (sl)), some (mI (1))] [mI (H 13)] (mkh (m_upd μ 118 H) c s) _
                  refine rn_bipush (k' := 106) rfl rfl ?_
                  refine rn_icmp_ge (k' := 107) rfl rfl (fun hc140 => ?_) (fun hc140 => ?_)
                  · skip
                    refine rn_aload_n (k' := 118) rfl rfl rfl ?_
                    refine rn_getI (k' := 119) rfl rfl K0_118 (by decide) rfl ?_
                    show Rn PT none kX12_next 119 [some (mR 118), some (mI (cc)), some (mI (sl)), some (mI (1))] [mI (H 13)] (mkh (m_upd μ 118 H) c s) _
                    refine rn_iconst (k' := 120) rfl rfl ?_
                    refine rn_icmp_ge (k' := 121) rfl rfl (fun hc141 => ?_) (fun hc141 => ?_)
                    · skip
                      refine rn_aload_n (k' := 133) rfl rfl rfl ?_
                      refine rn_dupR (k' := 134) rfl rfl ?_
                      refine rn_getI (k' := 135) rfl rfl K0_118 (by decide) rfl ?_
                      show Rn PT none kX12_next 135 [some (mR 118), some (mI (cc)), some (mI (sl)), some (mI (1))] [mI (H 13), mR 118] (mkh (m_upd μ 118 H) c s) _
                      refine rn_iconst (k' := 136) rfl rfl ?_
                      refine rn_iadd (k' := 137) rfl rfl (by first | omega | (simp [fs]; omega)) ?_
                      refine rn_putI (k' := 138) rfl rfl K0_118 (by decide) rfl ?_
                      refine rn_aload_n (k' := 139) rfl rfl rfl ?_
                      refine rn_dupR (k' := 140) rfl rfl ?_
                      refine rn_getI (k' := 141) rfl rfl K0_118 (by decide) rfl ?_
                      show Rn PT none kX12_next 141 [some (mR 118), some (mI (cc)), some (mI (sl)), some (mI (1))] [mI (H 4), mR 118] (mkh (m_set (m_upd μ 118 H) 118 13 ((H 13) + 1)) c s) _
                      refine rn_iconst (k' := 142) rfl rfl ?_
                      refine rn_iadd (k' := 143) rfl rfl (by first | omega | (simp [fs]; omega)) ?_
                      refine rn_putI (k' := 144) rfl rfl K0_118 (by decide) rfl ?_
                      refine rn_goto rfl ?_
                      show Rn PT none kX12_next 84 [some (mR 118), some (mI (cc)), some (mI (sl)), some (mI (1))] [] (mkh (m_set (m_set (m_upd μ 118 H) 118 13 ((H 13) + 1)) 118 4 ((H 4) + 1)) c s) _
                      rw [set_upd_eq (a := 118), set_upd_eq (a := 118)]
                      have hsm : ¬ sm (μ 2 (q + k0)) := by omega
                      have hcL : cL (μ 2) q (k0 + 1) = cL (μ 2) q k0 + 0 := by show cL (μ 2) q k0 + (if _ then _ else _) = _; rw [if_neg hsm]
                      have hcD : cD (μ 2) q (k0 + 1) = cD (μ 2) q k0 + 1 := by show cD (μ 2) q k0 + (if _ then _ else _) = _; rw [if_neg hsm]
                      have hmw : mw (μ 2) q (k0 + 1) = mw (μ 2) q k0 := if_neg (by omega)
                      have hmn : mn (μ 2) q (k0 + 1) = mn (μ 2) q k0 := if_neg (by omega)
                      exact ih (k0 + 1) _ _ (by omega) ⟨by omega, by rw [hcL, hcD]; omega⟩ hH3 (by show H 4 + 1 = _; omega) hH12 (by show H 13 + 1 = _; omega) (by rw [hmn]; first | rfl | exact hH14) (by rw [hmw]; first | rfl | exact hH17) (fun j j1 j2 j3 j4 j5 j6 => by
                        rw [← hfr j j1 j2 j3 j4 j5 j6]
                        first | rfl | (simp [fs, j1, j4, j5, j6]))
                        (by rw [← he]; exact (tre_t (b := μ 2) (d := d) (r := q + k0) (by omega)).symm)
                    · skip
                      refine rn_aload_n (k' := 122) rfl rfl rfl ?_
                      refine rn_bipush (k' := 123) rfl rfl ?_
                      refine rn_aload_n (k' := 124) rfl rfl rfl ?_
                      refine rn_getI (k' := 125) rfl rfl K0_118 (by decide) rfl ?_
                      show Rn PT none kX12_next 125 [some (mR 118), some (mI (cc)), some (mI (sl)), some (mI (1))] [mI (H 14), mI (10), mR 118] (mkh (m_upd μ 118 H) c s) _
                      refine rn_imulW (k' := 126) rfl rfl ?_
                      refine rn_aload_n (k' := 127) rfl rfl rfl ?_
                      refine rn_callP (k' := 128) (y := 172) (vs := [mR 118]) (S' := [mI (w32 (10 * (H 14))), mR 118]) (v := some (mI (μ 2 (q + k0)))) (h' := mkh (m_upd μ 118 H) c s) rfl rfl rfl (peek_in (μ := μ) (c := c) (s := s) ht (H := H) (n := n) (j := q + k0) (show H 3 = _ from hH3) (show H 4 = _ from hH4) (by omega) hn9) ?_
                      show Rn PT none kX12_next 128 [some (mR 118), some (mI (cc)), some (mI (sl)), some (mI (1))] [mI (μ 2 (q + k0)), mI (w32 (10 * (H 14))), mR 118] (mkh (m_upd μ 118 H) c s) _
                      refine rn_iaddW (k' := 129) rfl rfl ?_
                      refine rn_bipush (k' := 130) rfl rfl ?_
                      refine rn_isubW (k' := 131) rfl rfl ?_
                      refine rn_putI (k' := 132) rfl rfl K0_118 (by decide) rfl ?_
                      refine rn_aload_n (k' := 133) rfl rfl rfl ?_
                      refine rn_dupR (k' := 134) rfl rfl ?_
                      refine rn_getI (k' := 135) rfl rfl K0_118 (by decide) rfl ?_
                      show Rn PT none kX12_next 135 [some (mR 118), some (mI (cc)), some (mI (sl)), some (mI (1))] [mI (H 13), mR 118] (mkh (m_set (m_upd μ 118 H) 118 14 (w32 ((w32 ((w32 (10 * (H 14))) + (μ 2 (q + k0)))) - 48))) c s) _
                      refine rn_iconst (k' := 136) rfl rfl ?_
                      refine rn_iadd (k' := 137) rfl rfl (by first | omega | (simp [fs]; omega)) ?_
                      refine rn_putI (k' := 138) rfl rfl K0_118 (by decide) rfl ?_
                      refine rn_aload_n (k' := 139) rfl rfl rfl ?_
                      refine rn_dupR (k' := 140) rfl rfl ?_
                      refine rn_getI (k' := 141) rfl rfl K0_118 (by decide) rfl ?_
                      show Rn PT none kX12_next 141 [some (mR 118), some (mI (cc)), some (mI (sl)), some (mI (1))] [mI (H 4), mR 118] (mkh (m_set (m_set (m_upd μ 118 H) 118 14 (w32 ((w32 ((w32 (10 * (H 14))) + (μ 2 (q + k0)))) - 48))) 118 13 ((H 13) + 1)) c s) _
                      refine rn_iconst (k' := 142) rfl rfl ?_
                      refine rn_iadd (k' := 143) rfl rfl (by first | omega | (simp [fs]; omega)) ?_
                      refine rn_putI (k' := 144) rfl rfl K0_118 (by decide) rfl ?_
                      refine rn_goto rfl ?_
                      show Rn PT none kX12_next 84 [some (mR 118), some (mI (cc)), some (mI (sl)), some (mI (1))] [] (mkh (m_set (m_set (m_set (m_upd μ 118 H) 118 14 (w32 ((w32 ((w32 (10 * (H 14))) + (μ 2 (q + k0)))) - 48))) 118 13 ((H 13) + 1)) 118 4 ((H 4) + 1)) c s) _
                      rw [set_upd_eq (a := 118), set_upd_eq (a := 118), set_upd_eq (a := 118)]
                      have hsm : ¬ sm (μ 2 (q + k0)) := by omega
                      have hcL : cL (μ 2) q (k0 + 1) = cL (μ 2) q k0 + 0 := by show cL (μ 2) q k0 + (if _ then _ else _) = _; rw [if_neg hsm]
                      have hcD : cD (μ 2) q (k0 + 1) = cD (μ 2) q k0 + 1 := by show cD (μ 2) q k0 + (if _ then _ else _) = _; rw [if_neg hsm]
                      have hmw : mw (μ 2) q (k0 + 1) = mw (μ 2) q k0 := if_neg (by omega)
                      have hmn : mn (μ 2) q (k0 + 1) = w32 (w32 (w32 (10 * mn (μ 2) q k0) + μ 2 (q + k0)) - 48) := if_pos (by omega)
                      exact ih (k0 + 1) _ _ (by omega) ⟨by omega, by rw [hcL, hcD]; omega⟩ hH3 (by show H 4 + 1 = _; omega) hH12 (by show H 13 + 1 = _; omega) (by rw [hmn, ← hH14]; first | rfl | exact hH14) (by rw [hmw]; first | rfl | exact hH17) (fun j j1 j2 j3 j4 j5 j6 => by
                        rw [← hfr j j1 j2 j3 j4 j5 j6]
                        first | rfl | (simp [fs, j1, j4, j5, j6]))
                        (by rw [← he]; exact (tre_t (b := μ 2) (d := d) (r := q + k0) (by omega)).symm)
                  · skip
                    refine rn_aload_n (k' := 108) rfl rfl rfl ?_
                    refine rn_aload_n (k' := 109) rfl rfl rfl ?_
                    refine rn_getJ (k' := 110) rfl rfl K0_118 (by decide) rfl ?_
                    show Rn PT none kX12_next 110 [some (mR 118), some (mI (cc)), some (mI (sl)), some (mI (1))] [mJ (H 17), mR 118] (mkh (m_upd μ 118 H) c s) _
                    refine rn_bipush (k' := 111) rfl rfl ?_
                    refine rn_lshl (k' := 112) rfl rfl ?_
                    refine rn_aload_n (k' := 113) rfl rfl rfl ?_
                    refine rn_callP (k' := 114) (y := 172) (vs := [mR 118]) (S' := [mJ (m_lshl (H 17) (8)), mR 118]) (v := some (mI (μ 2 (q + k0)))) (h' := mkh (m_upd μ 118 H) c s) rfl rfl rfl (peek_in (μ := μ) (c := c) (s := s) ht (H := H) (n := n) (j := q + k0) (show H 3 = _ from hH3) (show H 4 = _ from hH4) (by omega) hn9) ?_
                    show Rn PT none kX12_next 114 [some (mR 118), some (mI (cc)), some (mI (sl)), some (mI (1))] [mI (μ 2 (q + k0)), mJ (m_lshl (H 17) (8)), mR 118] (mkh (m_upd μ 118 H) c s) _
                    refine rn_i2l (k' := 115) rfl rfl ?_
                    refine rn_lor (k' := 116) rfl rfl ?_
                    refine rn_putJ (k' := 117) rfl rfl K0_118 (by decide) rfl ?_
                    refine rn_aload_n (k' := 118) rfl rfl rfl ?_
                    refine rn_getI (k' := 119) rfl rfl K0_118 (by decide) rfl ?_
                    show Rn PT none kX12_next 119 [some (mR 118), some (mI (cc)), some (mI (sl)), some (mI (1))] [mI (H 13)] (mkh (m_set (m_upd μ 118 H) 118 17 (m_lor (m_lshl (H 17) (8)) (μ 2 (q + k0)))) c s) _
                    refine rn_iconst (k' := 120) rfl rfl ?_
                    refine rn_icmp_ge (k' := 121) rfl rfl (fun hc148 => ?_) (fun hc148 => ?_)
                    · skip
                      refine rn_aload_n (k' := 133) rfl rfl rfl ?_
                      refine rn_dupR (k' := 134) rfl rfl ?_
                      refine rn_getI (k' := 135) rfl rfl K0_118 (by decide) rfl ?_
                      show Rn PT none kX12_next 135 [some (mR 118), some (mI (cc)), some (mI (sl)), some (mI (1))] [mI (H 13), mR 118] (mkh (m_set (m_upd μ 118 H) 118 17 (m_lor (m_lshl (H 17) (8)) (μ 2 (q + k0)))) c s) _
                      refine rn_iconst (k' := 136) rfl rfl ?_
                      refine rn_iadd (k' := 137) rfl rfl (by first | omega | (simp [fs]; omega)) ?_
                      refine rn_putI (k' := 138) rfl rfl K0_118 (by decide) rfl ?_
                      refine rn_aload_n (k' := 139) rfl rfl rfl ?_
                      refine rn_dupR (k' := 140) rfl rfl ?_
                      refine rn_getI (k' := 141) rfl rfl K0_118 (by decide) rfl ?_
                      show Rn PT none kX12_next 141 [some (mR 118), some (mI (cc)), some (mI (sl)), some (mI (1))] [mI (H 4), mR 118] (mkh (m_set (m_set (m_upd μ 118 H) 118 17 (m_lor (m_lshl (H 17) (8)) (μ 2 (q + k0)))) 118 13 ((H 13) + 1)) c s) _
                      refine rn_iconst (k' := 142) rfl rfl ?_
                      refine rn_iadd (k' := 143) rfl rfl (by first | omega | (simp [fs]; omega)) ?_
                      refine rn_putI (k' := 144) rfl rfl K0_118 (by decide) rfl ?_
                      refine rn_goto rfl ?_
                      show Rn PT none kX12_next 84 [some (mR 118), some (mI (cc)), some (mI (sl)), some (mI (1))] [] (mkh (m_set (m_set (m_set (m_upd μ 118 H) 118 17 (m_lor (m_lshl (H 17) (8)) (μ 2 (q + k0)))) 118 13 ((H 13) + 1)) 118 4 ((H 4) + 1)) c s) _
                      rw [set_upd_eq (a := 118), set_upd_eq (a := 118), set_upd_eq (a := 118)]
                      have hsm : ¬ sm (μ 2 (q + k0)) := by omega
                      have hcL : cL (μ 2) q (k0 + 1) = cL (μ 2) q k0 + 0 := by show cL (μ 2) q k0 + (if _ then _ else _) = _; rw [if_neg hsm]
                      have hcD : cD (μ 2) q (k0 + 1) = cD (μ 2) q k0 + 1 := by show cD (μ 2) q k0 + (if _ then _ else _) = _; rw [if_neg hsm]
                      have hmw : mw (μ 2) q (k0 + 1) = m_lor (m_lshl (mw (μ 2) q k0) 8) (μ 2 (q + k0)) := if_pos (by omega)
                      have hmn : mn (μ 2) q (k0 + 1) = mn (μ 2) q k0 := if_neg (by omega)
                      exact ih (k0 + 1) _ _ (by omega) ⟨by omega, by rw [hcL, hcD]; omega⟩ hH3 (by show H 4 + 1 = _; omega) hH12 (by show H 13 + 1 = _; omega) (by rw [hmn]; first | rfl | exact hH14) (by rw [hmw, ← hH17]; first | rfl | exact hH17) (fun j j1 j2 j3 j4 j5 j6 => by
                        rw [← hfr j j1 j2 j3 j4 j5 j6]
                        first | rfl | (simp [fs, j1, j4, j5, j6]))
                        (by rw [← he]; exact (tre_t (b := μ 2) (d := d) (r := q + k0) (by omega)).symm)
                    · skip
                      refine rn_aload_n (k' := 122) rfl rfl rfl ?_
                      refine rn_bipush (k' := 123) rfl rfl ?_
                      refine rn_aload_n (k' := 124) rfl rfl rfl ?_
                      refine rn_getI (k' := 125) rfl rfl K0_118 (by decide) rfl ?_
                      show Rn PT none kX12_next 125 [some (mR 118), some (mI (cc)), some (mI (sl)), some (mI (1))] [mI (H 14), mI (10), mR 118] (mkh (m_set (m_upd μ 118 H) 118 17 (m_lor (m_lshl (H 17) (8)) (μ 2 (q + k0)))) c s) _
                      refine rn_imulW (k' := 126) rfl rfl ?_
                      refine rn_aload_n (k' := 127) rfl rfl rfl ?_
                      rw [set_upd_eq (a := 118)]
                      refine rn_callP (k' := 128) (y := 172) (vs := [mR 118]) (S' := [mI (w32 (10 * (H 14))), mR 118]) (v := some (mI (μ 2 (q + k0)))) (h' := mkh (m_upd μ 118 ((fs H 17 (m_lor (m_lshl (H 17) (8)) (μ 2 (q + k0)))))) c s) rfl rfl rfl (peek_in (μ := μ) (c := c) (s := s) ht (H := (fs H 17 (m_lor (m_lshl (H 17) (8)) (μ 2 (q + k0))))) (n := n) (j := q + k0) (show H 3 = _ from hH3) (show H 4 = _ from hH4) (by omega) hn9) ?_
                      show Rn PT none kX12_next 128 [some (mR 118), some (mI (cc)), some (mI (sl)), some (mI (1))] [mI (μ 2 (q + k0)), mI (w32 (10 * (H 14))), mR 118] (mkh (m_upd μ 118 ((fs H 17 (m_lor (m_lshl (H 17) (8)) (μ 2 (q + k0)))))) c s) _
                      refine rn_iaddW (k' := 129) rfl rfl ?_
                      refine rn_bipush (k' := 130) rfl rfl ?_
                      refine rn_isubW (k' := 131) rfl rfl ?_
                      refine rn_putI (k' := 132) rfl rfl K0_118 (by decide) rfl ?_
                      refine rn_aload_n (k' := 133) rfl rfl rfl ?_
                      refine rn_dupR (k' := 134) rfl rfl ?_
                      refine rn_getI (k' := 135) rfl rfl K0_118 (by decide) rfl ?_
                      show Rn PT none kX12_next 135 [some (mR 118), some (mI (cc)), some (mI (sl)), some (mI (1))] [mI (((fs H 17 (m_lor (m_lshl (H 17) (8)) (μ 2 (q + k0))))) 13), mR 118] (mkh (m_set (m_upd μ 118 ((fs H 17 (m_lor (m_lshl (H 17) (8)) (μ 2 (q + k0)))))) 118 14 (w32 ((w32 ((w32 (10 * (H 14))) + (μ 2 (q + k0)))) - 48))) c s) _
                      refine rn_iconst (k' := 136) rfl rfl ?_
                      refine rn_iadd (k' := 137) rfl rfl (by first | omega | (simp [fs]; omega)) ?_
                      refine rn_putI (k' := 138) rfl rfl K0_118 (by decide) rfl ?_
                      refine rn_aload_n (k' := 139) rfl rfl rfl ?_
                      refine rn_dupR (k' := 140) rfl rfl ?_
                      refine rn_getI (k' := 141) rfl rfl K0_118 (by decide) rfl ?_
                      show Rn PT none kX12_next 141 [some (mR 118), some (mI (cc)), some (mI (sl)), some (mI (1))] [mI (((fs H 17 (m_lor (m_lshl (H 17) (8)) (μ 2 (q + k0))))) 4), mR 118] (mkh (m_set (m_set (m_upd μ 118 ((fs H 17 (m_lor (m_lshl (H 17) (8)) (μ 2 (q + k0)))))) 118 14 (w32 ((w32 ((w32 (10 * (H 14))) + (μ 2 (q + k0)))) - 48))) 118 13 ((((fs H 17 (m_lor (m_lshl (H 17) (8)) (μ 2 (q + k0))))) 13) + 1)) c s) _
                      refine rn_iconst (k' := 142) rfl rfl ?_
                      refine rn_iadd (k' := 143) rfl rfl (by first | omega | (simp [fs]; omega)) ?_
                      refine rn_putI (k' := 144) rfl rfl K0_118 (by decide) rfl ?_
                      refine rn_goto rfl ?_
                      show Rn PT none kX12_next 84 [some (mR 118), some (mI (cc)), some (mI (sl)), some (mI (1))] [] (mkh (m_set (m_set (m_set (m_upd μ 118 ((fs H 17 (m_lor (m_lshl (H 17) (8)) (μ 2 (q + k0)))))) 118 14 (w32 ((w32 ((w32 (10 * (H 14))) + (μ 2 (q + k0)))) - 48))) 118 13 ((((fs H 17 (m_lor (m_lshl (H 17) (8)) (μ 2 (q + k0))))) 13) + 1)) 118 4 ((((fs H 17 (m_lor (m_lshl (H 17) (8)) (μ 2 (q + k0))))) 4) + 1)) c s) _
                      rw [set_upd_eq (a := 118), set_upd_eq (a := 118), set_upd_eq (a := 118)]
                      have hsm : ¬ sm (μ 2 (q + k0)) := by omega
                      have hcL : cL (μ 2) q (k0 + 1) = cL (μ 2) q k0 + 0 := by show cL (μ 2) q k0 + (if _ then _ else _) = _; rw [if_neg hsm]
                      have hcD : cD (μ 2) q (k0 + 1) = cD (μ 2) q k0 + 1 := by show cD (μ 2) q k0 + (if _ then _ else _) = _; rw [if_neg hsm]
                      have hmw : mw (μ 2) q (k0 + 1) = m_lor (m_lshl (mw (μ 2) q k0) 8) (μ 2 (q + k0)) := if_pos (by omega)
                      have hmn : mn (μ 2) q (k0 + 1) = w32 (w32 (w32 (10 * mn (μ 2) q k0) + μ 2 (q + k0)) - 48) := if_pos (by omega)
                      exact ih (k0 + 1) _ _ (by omega) ⟨by omega, by rw [hcL, hcD]; omega⟩ hH3 (by show H 4 + 1 = _; omega) hH12 (by show H 13 + 1 = _; omega) (by rw [hmn, ← hH14]; first | rfl | exact hH14) (by rw [hmw, ← hH17]; first | rfl | exact hH17) (fun j j1 j2 j3 j4 j5 j6 => by
                        rw [← hfr j j1 j2 j3 j4 j5 j6]
                        first | rfl | (simp [fs, j1, j4, j5, j6]))
                        (by rw [← he]; exact (tre_t (b := μ 2) (d := d) (r := q + k0) (by omega)).symm)
        · refine rn_callP (k' := 91) (y := 174) (vs := [mI (μ 2 (q + k0))]) (S' := []) (v := some (mI 0)) (h' := mkh (m_upd μ 118 H) c s) rfl rfl rfl (by have hz : Cl PT 174 [mI (μ 2 (q + k0))] (mkh (m_upd μ 118 H) c s) (fun r => r = (some (some (mI (if 48 ≤ μ 2 (q + k0) ∧ μ 2 (q + k0) ≤ 57 then 1 else 0))), mkh (m_upd μ 118 H) c s)) := c_X12_isDigit (a := μ 2 (q + k0)) (μ := (m_upd μ 118 H)) (c := c) (s := s); rw [if_neg hq78] at hz; exact hz) ?_
          show Rn PT none kX12_next 91 [some (mR 118), some (mI (cc)), some (mI (sl)), some (mI (al))] [mI (0)] (mkh (m_upd μ 118 H) c s) _
          refine rn_if_eq (k' := 92) rfl rfl (fun hc154 => ?_) (fun hc154 => ?_)
          · skip
            have h9 : tre (μ 2) (d + 1) (q + k0) = q + k0 := tre_f (by omega)
            rw [h9] at he
            have ek : e - q = k0 := by omega
            rw [ek] at K
            exact K _ _ hal hH3 (by omega) hH12 hH13 hH14 hH17 hfr
          · exfalso; omega
