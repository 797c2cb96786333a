variable {N : Int}
/-! ===== printed by wip/whole/gen9l.py: lines of a plan by the model ===== -/
def FrmQ (ν ν' : Nat → Nat → Int) : Prop := (∀ r, ¬ r = 118 → ¬ r = 122 → ν' r = ν r) ∧ (∀ j, fq j → ν' 118 j = ν 118 j)
theorem FrmQ.r {ν : Nat → Nat → Int} : FrmQ ν ν := ⟨fun _ _ _ => rfl, fun _ _ => rfl⟩
theorem FrmQ.s {μ ν : Nat → Nat → Int} {i : Nat} {v : Int} (h : FrmQ μ ν) (hi : ¬ fq i) : FrmQ μ (m_set ν 118 i v) := ⟨fun r h1 h2 => (row_set h1).trans (h.1 r h1 h2), fun j hj => (set_mis (show ¬ j = i from fun z => hi (z ▸ hj))).trans (h.2 j hj)⟩
theorem FrmQ.s2 {μ ν : Nat → Nat → Int} {i : Nat} {v : Int} (h : FrmQ μ ν) : FrmQ μ (m_set ν 122 i v) := ⟨fun r h1 h2 => (row_set h2).trans (h.1 r h1 h2), fun j hj => h.2 j hj⟩
theorem FrmQ.u {μ ν : Nat → Nat → Int} {f : Nat → Int} (h : FrmQ μ ν) (hf : FRt f (ν 118)) : FrmQ μ (m_upd ν 118 f) := ⟨fun r h1 h2 => (row_upd h1).trans (h.1 r h1 h2), fun j hj => Eq.trans (hf j (by omega) (by omega) (by omega) (by omega) (by omega) (by omega) (by omega)) (h.2 j hj)⟩
theorem e_pl11 {μ : Nat → Nat → Int} {c s : Nat} (h11 : μ 118 11 = 1) (h17 : μ 118 17 = 26479) {Q : MR → Prop} (K : Rn PT none kX12_planLine 32 [some (mR 118), some (mI (0)), none, none, none] [] (mkh μ c s) Q) : Cl PT 265 [mR 118] (mkh μ c s) Q := by
  refine ⟨_, PT_265, Nat.le_of_ble_eq_true rfl, ?_⟩
  show Rn PT none kX12_planLine 0 [some (mR 118), none, none, none, none] [] (mkh μ c s) _
  refine rn_aload_n (k' := 1) rfl rfl rfl ?_
  refine rn_ldc2_w (k' := 2) rfl rfl ?_
  by_cases hq1 : μ 118 11 = 1 ∧ μ 118 17 = 26479
  · refine rn_callP (k' := 3) (y := 177) (vs := [mR 118, mJ (26479)]) (S' := []) (v := some (mI 1)) (h' := mkh μ c s) rfl rfl rfl (by have hz : Cl PT 177 [mR 118, mJ (26479)] (mkh μ c s) (fun r => r = (some (some (mI (if μ 118 11 = 1 ∧ μ 118 17 = 26479 then 1 else 0))), mkh μ c s)) := c_X12_isWord (w := 26479) (μ := μ) (c := c) (s := s); rw [if_pos hq1] at hz; exact hz) ?_
    show Rn PT none kX12_planLine 3 [some (mR 118), none, none, none, none] [mI (1)] (mkh μ c s) _
    refine rn_if_eq (k' := 4) rfl rfl (fun hc2 => ?_) (fun hc2 => ?_)
    · exfalso; omega
    · skip
      refine rn_iconst (k' := 5) rfl rfl ?_
      refine rn_goto rfl ?_
      refine rn_istore_n (k' := 32) (L' := [some (mR 118), some (mI (0)), none, none, none]) rfl rfl (Nat.le_of_ble_eq_true rfl) rfl ?_
      exact K
  · exfalso; omega
theorem e_pl12 {μ : Nat → Nat → Int} {c s : Nat} (h11 : μ 118 11 = 1) (h17 : μ 118 17 = 1936026732) {Q : MR → Prop} (K : Rn PT none kX12_planLine 32 [some (mR 118), some (mI (1)), none, none, none] [] (mkh μ c s) Q) : Cl PT 265 [mR 118] (mkh μ c s) Q := by
  refine ⟨_, PT_265, Nat.le_of_ble_eq_true rfl, ?_⟩
  show Rn PT none kX12_planLine 0 [some (mR 118), none, none, none, none] [] (mkh μ c s) _
  refine rn_aload_n (k' := 1) rfl rfl rfl ?_
  refine rn_ldc2_w (k' := 2) rfl rfl ?_
  by_cases hq1 : μ 118 11 = 1 ∧ μ 118 17 = 26479
  · exfalso; omega
  · refine rn_callP (k' := 3) (y := 177) (vs := [mR 118, mJ (26479)]) (S' := []) (v := some (mI 0)) (h' := mkh μ c s) rfl rfl rfl (by have hz : Cl PT 177 [mR 118, mJ (26479)] (mkh μ c s) (fun r => r = (some (some (mI (if μ 118 11 = 1 ∧ μ 118 17 = 26479 then 1 else 0))), mkh μ c s)) := c_X12_isWord (w := 26479) (μ := μ) (c := c) (s := s); rw [if_neg hq1] at hz; exact hz) ?_
    show Rn PT none kX12_planLine 3 [some (mR 118), none, none, none, none] [mI (0)] (mkh μ c s) _
    refine rn_if_eq (k' := 4) rfl rfl (fun hc2 => ?_) (fun hc2 => ?_)
    · skip
      refine rn_aload_n (k' := 7) rfl rfl rfl ?_
      refine rn_ldc2_w (k' := 8) rfl rfl ?_
      by_cases hq3 : μ 118 11 = 1 ∧ μ 118 17 = 1936026732
      · refine rn_callP (k' := 9) (y := 177) (vs := [mR 118, mJ (1936026732)]) (S' := []) (v := some (mI 1)) (h' := mkh μ c s) rfl rfl rfl (by have hz : Cl PT 177 [mR 118, mJ (1936026732)] (mkh μ c s) (fun r => r = (some (some (mI (if μ 118 11 = 1 ∧ μ 118 17 = 1936026732 then 1 else 0))), mkh μ c s)) := c_X12_isWord (w := 1936026732) (μ := μ) (c := c) (s := s); rw [if_pos hq3] at hz; exact hz) ?_
        show Rn PT none kX12_planLine 9 [some (mR 118), none, none, none, none] [mI (1)] (mkh μ c s) _
        refine rn_if_eq (k' := 10) rfl rfl (fun hc4 => ?_) (fun hc4 => ?_)
        · exfalso; omega
        · skip
          refine rn_iconst (k' := 11) rfl rfl ?_
          refine rn_goto rfl ?_
          refine rn_istore_n (k' := 32) (L' := [some (mR 118), some (mI (1)), none, none, none]) rfl rfl (Nat.le_of_ble_eq_true rfl) rfl ?_
          exact K
      · exfalso; omega
    · exfalso; omega
theorem e_pl13 {μ : Nat → Nat → Int} {c s : Nat} (h11 : μ 118 11 = 1) (h17 : μ 118 17 = 6452601) {Q : MR → Prop} (K : Rn PT none kX12_planLine 32 [some (mR 118), some (mI (2)), none, none, none] [] (mkh μ c s) Q) : Cl PT 265 [mR 118] (mkh μ c s) Q := by
  refine ⟨_, PT_265, Nat.le_of_ble_eq_true rfl, ?_⟩
  show Rn PT none kX12_planLine 0 [some (mR 118), none, none, none, none] [] (mkh μ c s) _
  refine rn_aload_n (k' := 1) rfl rfl rfl ?_
  refine rn_ldc2_w (k' := 2) rfl rfl ?_
  by_cases hq1 : μ 118 11 = 1 ∧ μ 118 17 = 26479
  · exfalso; omega
  · refine rn_callP (k' := 3) (y := 177) (vs := [mR 118, mJ (26479)]) (S' := []) (v := some (mI 0)) (h' := mkh μ c s) rfl rfl rfl (by have hz : Cl PT 177 [mR 118, mJ (26479)] (mkh μ c s) (fun r => r = (some (some (mI (if μ 118 11 = 1 ∧ μ 118 17 = 26479 then 1 else 0))), mkh μ c s)) := c_X12_isWord (w := 26479) (μ := μ) (c := c) (s := s); rw [if_neg hq1] at hz; exact hz) ?_
    show Rn PT none kX12_planLine 3 [some (mR 118), none, none, none, none] [mI (0)] (mkh μ c s) _
    refine rn_if_eq (k' := 4) rfl rfl (fun hc2 => ?_) (fun hc2 => ?_)
    · skip
      refine rn_aload_n (k' := 7) rfl rfl rfl ?_
      refine rn_ldc2_w (k' := 8) rfl rfl ?_
      by_cases hq3 : μ 118 11 = 1 ∧ μ 118 17 = 1936026732
      · exfalso; omega
      · refine rn_callP (k' := 9) (y := 177) (vs := [mR 118, mJ (1936026732)]) (S' := []) (v := some (mI 0)) (h' := mkh μ c s) rfl rfl rfl (by have hz : Cl PT 177 [mR 118, mJ (1936026732)] (mkh μ c s) (fun r => r = (some (some (mI (if μ 118 11 = 1 ∧ μ 118 17 = 1936026732 then 1 else 0))), mkh μ c s)) := c_X12_isWord (w := 1936026732) (μ := μ) (c := c) (s := s); rw [if_neg hq3] at hz; exact hz) ?_
        show Rn PT none kX12_planLine 9 [some (mR 118), none, none, none, none] [mI (0)] (mkh μ c s) _
        refine rn_if_eq (k' := 10) rfl rfl (fun hc4 => ?_) (fun hc4 => ?_)
        · skip
          refine rn_aload_n (k' := 13) rfl rfl rfl ?_
          refine rn_ldc2_w (k' := 14) rfl rfl ?_
          by_cases hq5 : μ 118 11 = 1 ∧ μ 118 17 = 6452601
          · refine rn_callP (k' := 15) (y := 177) (vs := [mR 118, mJ (6452601)]) (S' := []) (v := some (mI 1)) (h' := mkh μ c s) rfl rfl rfl (by have hz : Cl PT 177 [mR 118, mJ (6452601)] (mkh μ c s) (fun r => r = (some (some (mI (if μ 118 11 = 1 ∧ μ 118 17 = 6452601 then 1 else 0))), mkh μ c s)) := c_X12_isWord (w := 6452601) (μ := μ) (c := c) (s := s); rw [if_pos hq5] at hz; exact hz) ?_
            show Rn PT none kX12_planLine 15 [some (mR 118), none, none, none, none] [mI (1)] (mkh μ c s) _
            refine rn_if_eq (k' := 16) rfl rfl (fun hc6 => ?_) (fun hc6 => ?_)
            · exfalso; omega
            · skip
              refine rn_iconst (k' := 17) rfl rfl ?_
              refine rn_goto rfl ?_
              refine rn_istore_n (k' := 32) (L' := [some (mR 118), some (mI (2)), none, none, none]) rfl rfl (Nat.le_of_ble_eq_true rfl) rfl ?_
              exact K
          · exfalso; omega
        · exfalso; omega
    · exfalso; omega
theorem e_pl14 {μ : Nat → Nat → Int} {c s : Nat} (h11 : μ 118 11 = 1) (h17 : μ 118 17 = 6578553) {Q : MR → Prop} (K : Rn PT none kX12_planLine 32 [some (mR 118), some (mI (3)), none, none, none] [] (mkh μ c s) Q) : Cl PT 265 [mR 118] (mkh μ c s) Q := by
  refine ⟨_, PT_265, Nat.le_of_ble_eq_true rfl, ?_⟩
  show Rn PT none kX12_planLine 0 [some (mR 118), none, none, none, none] [] (mkh μ c s) _
  refine rn_aload_n (k' := 1) rfl rfl rfl ?_
  refine rn_ldc2_w (k' := 2) rfl rfl ?_
  by_cases hq1 : μ 118 11 = 1 ∧ μ 118 17 = 26479
  · exfalso; omega
  · refine rn_callP (k' := 3) (y := 177) (vs := [mR 118, mJ (26479)]) (S' := []) (v := some (mI 0)) (h' := mkh μ c s) rfl rfl rfl (by have hz : Cl PT 177 [mR 118, mJ (26479)] (mkh μ c s) (fun r => r = (some (some (mI (if μ 118 11 = 1 ∧ μ 118 17 = 26479 then 1 else 0))), mkh μ c s)) := c_X12_isWord (w := 26479) (μ := μ) (c := c) (s := s); rw [if_neg hq1] at hz; exact hz) ?_
    show Rn PT none kX12_planLine 3 [some (mR 118), none, none, none, none] [mI (0)] (mkh μ c s) _
    refine rn_if_eq (k' := 4) rfl rfl (fun hc2 => ?_) (fun hc2 => ?_)
    · skip
      refine rn_aload_n (k' := 7) rfl rfl rfl ?_
      refine rn_ldc2_w (k' := 8) rfl rfl ?_
      by_cases hq3 : μ 118 11 = 1 ∧ μ 118 17 = 1936026732
      · exfalso; omega
      · refine rn_callP (k' := 9) (y := 177) (vs := [mR 118, mJ (1936026732)]) (S' := []) (v := some (mI 0)) (h' := mkh μ c s) rfl rfl rfl (by have hz : Cl PT 177 [mR 118, mJ (1936026732)] (mkh μ c s) (fun r => r = (some (some (mI (if μ 118 11 = 1 ∧ μ 118 17 = 1936026732 then 1 else 0))), mkh μ c s)) := c_X12_isWord (w := 1936026732) (μ := μ) (c := c) (s := s); rw [if_neg hq3] at hz; exact hz) ?_
        show Rn PT none kX12_planLine 9 [some (mR 118), none, none, none, none] [mI (0)] (mkh μ c s) _
        refine rn_if_eq (k' := 10) rfl rfl (fun hc4 => ?_) (fun hc4 => ?_)
        · skip
          refine rn_aload_n (k' := 13) rfl rfl rfl ?_
          refine rn_ldc2_w (k' := 14) rfl rfl ?_
          by_cases hq5 : μ 118 11 = 1 ∧ μ 118 17 = 6452601
          · exfalso; omega
          · refine rn_callP (k' := 15) (y := 177) (vs := [mR 118, mJ (6452601)]) (S' := []) (v := some (mI 0)) (h' := mkh μ c s) rfl rfl rfl (by have hz : Cl PT 177 [mR 118, mJ (6452601)] (mkh μ c s) (fun r => r = (some (some (mI (if μ 118 11 = 1 ∧ μ 118 17 = 6452601 then 1 else 0))), mkh μ c s)) := c_X12_isWord (w := 6452601) (μ := μ) (c := c) (s := s); rw [if_neg hq5] at hz; exact hz) ?_
            show Rn PT none kX12_planLine 15 [some (mR 118), none, none, none, none] [mI (0)] (mkh μ c s) _
            refine rn_if_eq (k' := 16) rfl rfl (fun hc6 => ?_) (fun hc6 => ?_)
            · skip
              refine rn_aload_n (k' := 19) rfl rfl rfl ?_
              refine rn_ldc2_w (k' := 20) rfl rfl ?_
              by_cases hq7 : μ 118 11 = 1 ∧ μ 118 17 = 6578553
              · refine rn_callP (k' := 21) (y := 177) (vs := [mR 118, mJ (6578553)]) (S' := []) (v := some (mI 1)) (h' := mkh μ c s) rfl rfl rfl (by have hz : Cl PT 177 [mR 118, mJ (6578553)] (mkh μ c s) (fun r => r = (some (some (mI (if μ 118 11 = 1 ∧ μ 118 17 = 6578553 then 1 else 0))), mkh μ c s)) := c_X12_isWord (w := 6578553) (μ := μ) (c := c) (s := s); rw [if_pos hq7] at hz; exact hz) ?_
                show Rn PT none kX12_planLine 21 [some (mR 118), none, none, none, none] [mI (1)] (mkh μ c s) _
                refine rn_if_eq (k' := 22) rfl rfl (fun hc8 => ?_) (fun hc8 => ?_)
                · exfalso; omega
                · skip
                  refine rn_iconst (k' := 23) rfl rfl ?_
                  refine rn_goto rfl ?_
                  refine rn_istore_n (k' := 32) (L' := [some (mR 118), some (mI (3)), none, none, none]) rfl rfl (Nat.le_of_ble_eq_true rfl) rfl ?_
                  exact K
              · exfalso; omega
            · exfalso; omega
        · exfalso; omega
    · exfalso; omega
theorem e_pl15 {μ : Nat → Nat → Int} {c s : Nat} (h11 : μ 118 11 = 1) (h17 : μ 118 17 = 474214787188) {Q : MR → Prop} (K : Rn PT none kX12_planLine 32 [some (mR 118), some (mI (4)), none, none, none] [] (mkh μ c s) Q) : Cl PT 265 [mR 118] (mkh μ c s) Q := by
  refine ⟨_, PT_265, Nat.le_of_ble_eq_true rfl, ?_⟩
  show Rn PT none kX12_planLine 0 [some (mR 118), none, none, none, none] [] (mkh μ c s) _
  refine rn_aload_n (k' := 1) rfl rfl rfl ?_
  refine rn_ldc2_w (k' := 2) rfl rfl ?_
  by_cases hq1 : μ 118 11 = 1 ∧ μ 118 17 = 26479
  · exfalso; omega
  · refine rn_callP (k' := 3) (y := 177) (vs := [mR 118, mJ (26479)]) (S' := []) (v := some (mI 0)) (h' := mkh μ c s) rfl rfl rfl (by have hz : Cl PT 177 [mR 118, mJ (26479)] (mkh μ c s) (fun r => r = (some (some (mI (if μ 118 11 = 1 ∧ μ 118 17 = 26479 then 1 else 0))), mkh μ c s)) := c_X12_isWord (w := 26479) (μ := μ) (c := c) (s := s); rw [if_neg hq1] at hz; exact hz) ?_
    show Rn PT none kX12_planLine 3 [some (mR 118), none, none, none, none] [mI (0)] (mkh μ c s) _
    refine rn_if_eq (k' := 4) rfl rfl (fun hc2 => ?_) (fun hc2 => ?_)
    · skip
      refine rn_aload_n (k' := 7) rfl rfl rfl ?_
      refine rn_ldc2_w (k' := 8) rfl rfl ?_
      by_cases hq3 : μ 118 11 = 1 ∧ μ 118 17 = 1936026732
      · exfalso; omega
      · refine rn_callP (k' := 9) (y := 177) (vs := [mR 118, mJ (1936026732)]) (S' := []) (v := some (mI 0)) (h' := mkh μ c s) rfl rfl rfl (by have hz : Cl PT 177 [mR 118, mJ (1936026732)] (mkh μ c s) (fun r => r = (some (some (mI (if μ 118 11 = 1 ∧ μ 118 17 = 1936026732 then 1 else 0))), mkh μ c s)) := c_X12_isWord (w := 1936026732) (μ := μ) (c := c) (s := s); rw [if_neg hq3] at hz; exact hz) ?_
        show Rn PT none kX12_planLine 9 [some (mR 118), none, none, none, none] [mI (0)] (mkh μ c s) _
        refine rn_if_eq (k' := 10) rfl rfl (fun hc4 => ?_) (fun hc4 => ?_)
        · skip
          refine rn_aload_n (k' := 13) rfl rfl rfl ?_
          refine rn_ldc2_w (k' := 14) rfl rfl ?_
          by_cases hq5 : μ 118 11 = 1 ∧ μ 118 17 = 6452601
          · exfalso; omega
          · refine rn_callP (k' := 15) (y := 177) (vs := [mR 118, mJ (6452601)]) (S' := []) (v := some (mI 0)) (h' := mkh μ c s) rfl rfl rfl (by have hz : Cl PT 177 [mR 118, mJ (6452601)] (mkh μ c s) (fun r => r = (some (some (mI (if μ 118 11 = 1 ∧ μ 118 17 = 6452601 then 1 else 0))), mkh μ c s)) := c_X12_isWord (w := 6452601) (μ := μ) (c := c) (s := s); rw [if_neg hq5] at hz; exact hz) ?_
            show Rn PT none kX12_planLine 15 [some (mR 118), none, none, none, none] [mI (0)] (mkh μ c s) _
            refine rn_if_eq (k' := 16) rfl rfl (fun hc6 => ?_) (fun hc6 => ?_)
            · skip
              refine rn_aload_n (k' := 19) rfl rfl rfl ?_
              refine rn_ldc2_w (k' := 20) rfl rfl ?_
              by_cases hq7 : μ 118 11 = 1 ∧ μ 118 17 = 6578553
              · exfalso; omega
              · refine rn_callP (k' := 21) (y := 177) (vs := [mR 118, mJ (6578553)]) (S' := []) (v := some (mI 0)) (h' := mkh μ c s) rfl rfl rfl (by have hz : Cl PT 177 [mR 118, mJ (6578553)] (mkh μ c s) (fun r => r = (some (some (mI (if μ 118 11 = 1 ∧ μ 118 17 = 6578553 then 1 else 0))), mkh μ c s)) := c_X12_isWord (w := 6578553) (μ := μ) (c := c) (s := s); rw [if_neg hq7] at hz; exact hz) ?_
                show Rn PT none kX12_planLine 21 [some (mR 118), none, none, none, none] [mI (0)] (mkh μ c s) _
                refine rn_if_eq (k' := 22) rfl rfl (fun hc8 => ?_) (fun hc8 => ?_)
                · skip
                  refine rn_aload_n (k' := 25) rfl rfl rfl ?_
                  refine rn_ldc2_w (k' := 26) rfl rfl ?_
                  by_cases hq9 : μ 118 11 = 1 ∧ μ 118 17 = 474214787188
                  · refine rn_callP (k' := 27) (y := 177) (vs := [mR 118, mJ (474214787188)]) (S' := []) (v := some (mI 1)) (h' := mkh μ c s) rfl rfl rfl (by have hz : Cl PT 177 [mR 118, mJ (474214787188)] (mkh μ c s) (fun r => r = (some (some (mI (if μ 118 11 = 1 ∧ μ 118 17 = 474214787188 then 1 else 0))), mkh μ c s)) := c_X12_isWord (w := 474214787188) (μ := μ) (c := c) (s := s); rw [if_pos hq9] at hz; exact hz) ?_
                    show Rn PT none kX12_planLine 27 [some (mR 118), none, none, none, none] [mI (1)] (mkh μ c s) _
                    refine rn_if_eq (k' := 28) rfl rfl (fun hc10 => ?_) (fun hc10 => ?_)
                    · exfalso; omega
                    · skip
                      refine rn_iconst (k' := 29) rfl rfl ?_
                      refine rn_goto rfl ?_
                      refine rn_istore_n (k' := 32) (L' := [some (mR 118), some (mI (4)), none, none, none]) rfl rfl (Nat.le_of_ble_eq_true rfl) rfl ?_
                      exact K
                  · exfalso; omega
                · exfalso; omega
            · exfalso; omega
        · exfalso; omega
    · exfalso; omega
theorem e_plN {μ : Nat → Nat → Int} {c s : Nat} (hno : μ 118 11 = 1 → ¬ μ 118 17 = 26479 ∧ ¬ μ 118 17 = 1936026732 ∧ ¬ μ 118 17 = 6452601 ∧ ¬ μ 118 17 = 6578553 ∧ ¬ μ 118 17 = 474214787188) : Cl PT 265 [mR 118] (mkh μ c s) (fun r => r = (some (some (mI 0)), mkh (m_set (m_set μ 118 15 1) 118 16 (μ 118 12)) c s)) := by
  refine ⟨_, PT_265, Nat.le_of_ble_eq_true rfl, ?_⟩
  show Rn PT none kX12_planLine 0 [some (mR 118), none, none, none, none] [] (mkh μ c s) _
  refine rn_aload_n (k' := 1) rfl rfl rfl ?_
  refine rn_ldc2_w (k' := 2) rfl rfl ?_
  by_cases hq1 : μ 118 11 = 1 ∧ μ 118 17 = 26479
  · exfalso; omega
  · refine rn_callP (k' := 3) (y := 177) (vs := [mR 118, mJ (26479)]) (S' := []) (v := some (mI 0)) (h' := mkh μ c s) rfl rfl rfl (by have hz : Cl PT 177 [mR 118, mJ (26479)] (mkh μ c s) (fun r => r = (some (some (mI (if μ 118 11 = 1 ∧ μ 118 17 = 26479 then 1 else 0))), mkh μ c s)) := c_X12_isWord (w := 26479) (μ := μ) (c := c) (s := s); rw [if_neg hq1] at hz; exact hz) ?_
    show Rn PT none kX12_planLine 3 [some (mR 118), none, none, none, none] [mI (0)] (mkh μ c s) _
    refine rn_if_eq (k' := 4) rfl rfl (fun hc2 => ?_) (fun hc2 => ?_)
    · skip
      refine rn_aload_n (k' := 7) rfl rfl rfl ?_
      refine rn_ldc2_w (k' := 8) rfl rfl ?_
      by_cases hq3 : μ 118 11 = 1 ∧ μ 118 17 = 1936026732
      · exfalso; omega
      · refine rn_callP (k' := 9) (y := 177) (vs := [mR 118, mJ (1936026732)]) (S' := []) (v := some (mI 0)) (h' := mkh μ c s) rfl rfl rfl (by have hz : Cl PT 177 [mR 118, mJ (1936026732)] (mkh μ c s) (fun r => r = (some (some (mI (if μ 118 11 = 1 ∧ μ 118 17 = 1936026732 then 1 else 0))), mkh μ c s)) := c_X12_isWord (w := 1936026732) (μ := μ) (c := c) (s := s); rw [if_neg hq3] at hz; exact hz) ?_
        show Rn PT none kX12_planLine 9 [some (mR 118), none, none, none, none] [mI (0)] (mkh μ c s) _
        refine rn_if_eq (k' := 10) rfl rfl (fun hc4 => ?_) (fun hc4 => ?_)
        · skip
          refine rn_aload_n (k' := 13) rfl rfl rfl ?_
          refine rn_ldc2_w (k' := 14) rfl rfl ?_
          by_cases hq5 : μ 118 11 = 1 ∧ μ 118 17 = 6452601
          · exfalso; omega
          · refine rn_callP (k' := 15) (y := 177) (vs := [mR 118, mJ (6452601)]) (S' := []) (v := some (mI 0)) (h' := mkh μ c s) rfl rfl rfl (by have hz : Cl PT 177 [mR 118, mJ (6452601)] (mkh μ c s) (fun r => r = (some (some (mI (if μ 118 11 = 1 ∧ μ 118 17 = 6452601 then 1 else 0))), mkh μ c s)) := c_X12_isWord (w := 6452601) (μ := μ) (c := c) (s := s); rw [if_neg hq5] at hz; exact hz) ?_
            show Rn PT none kX12_planLine 15 [some (mR 118), none, none, none, none] [mI (0)] (mkh μ c s) _
            refine rn_if_eq (k' := 16) rfl rfl (fun hc6 => ?_) (fun hc6 => ?_)
            · skip
              refine rn_aload_n (k' := 19) rfl rfl rfl ?_
              refine rn_ldc2_w (k' := 20) rfl rfl ?_
              by_cases hq7 : μ 118 11 = 1 ∧ μ 118 17 = 6578553
              · exfalso; omega
              · refine rn_callP (k' := 21) (y := 177) (vs := [mR 118, mJ (6578553)]) (S' := []) (v := some (mI 0)) (h' := mkh μ c s) rfl rfl rfl (by have hz : Cl PT 177 [mR 118, mJ (6578553)] (mkh μ c s) (fun r => r = (some (some (mI (if μ 118 11 = 1 ∧ μ 118 17 = 6578553 then 1 else 0))), mkh μ c s)) := c_X12_isWord (w := 6578553) (μ := μ) (c := c) (s := s); rw [if_neg hq7] at hz; exact hz) ?_
                show Rn PT none kX12_planLine 21 [some (mR 118), none, none, none, none] [mI (0)] (mkh μ c s) _
                refine rn_if_eq (k' := 22) rfl rfl (fun hc8 => ?_) (fun hc8 => ?_)
                · skip
                  refine rn_aload_n (k' := 25) rfl rfl rfl ?_
                  refine rn_ldc2_w (k' := 26) rfl rfl ?_
                  by_cases hq9 : μ 118 11 = 1 ∧ μ 118 17 = 474214787188
                  · exfalso; omega
                  · refine rn_callP (k' := 27) (y := 177) (vs := [mR 118, mJ (474214787188)]) (S' := []) (v := some (mI 0)) (h' := mkh μ c s) rfl rfl rfl (by have hz : Cl PT 177 [mR 118, mJ (474214787188)] (mkh μ c s) (fun r => r = (some (some (mI (if μ 118 11 = 1 ∧ μ 118 17 = 474214787188 then 1 else 0))), mkh μ c s)) := c_X12_isWord (w := 474214787188) (μ := μ) (c := c) (s := s); rw [if_neg hq9] at hz; exact hz) ?_
                    show Rn PT none kX12_planLine 27 [some (mR 118), none, none, none, none] [mI (0)] (mkh μ c s) _
                    refine rn_if_eq (k' := 28) rfl rfl (fun hc10 => ?_) (fun hc10 => ?_)
                    · skip
                      refine rn_iconst (k' := 31) rfl rfl ?_
                      refine rn_istore_n (k' := 32) (L' := [some (mR 118), some (mI (-1)), none, none, none]) rfl rfl (Nat.le_of_ble_eq_true rfl) rfl ?_
                      refine rn_iload_n (k' := 33) rfl rfl rfl ?_
                      refine rn_if_ge (k' := 34) rfl rfl (fun hc11 => ?_) (fun hc11 => ?_)
                      · exfalso; omega
                      · skip
                        refine rn_aload_n (k' := 35) rfl rfl rfl ?_
                        refine rn_iconst (k' := 36) rfl rfl ?_
                        refine rn_callP (k' := 37) (y := 176) (vs := [mR 118, mI (1)]) (S' := []) (v := some (mI (0))) (h' := mkh (m_set (m_set μ 118 15 (1)) 118 16 (μ 118 12)) c s) rfl rfl rfl (g_bad (μ := μ) (e := 1)) ?_
                        show Rn PT none kX12_planLine 37 [some (mR 118), some (mI (-1)), none, none, none] [mI (0)] (mkh (m_set (m_set μ 118 15 (1)) 118 16 (μ 118 12)) c s) _
                        refine rn_iret rfl (Or.inr (by omega)) ?_
                        rfl
                    · exfalso; omega
                · exfalso; omega
            · exfalso; omega
        · exfalso; omega
    · exfalso; omega
theorem kw_11 : en 256 0 (kw 11) = 26479 := by decide
theorem kw_12 : en 256 0 (kw 12) = 1936026732 := by decide
theorem kw_13 : en 256 0 (kw 13) = 6452601 := by decide
theorem kw_14 : en 256 0 (kw 14) = 6578553 := by decide
theorem kw_15 : en 256 0 (kw 15) = 474214787188 := by decide
set_option maxHeartbeats 1000000 in
theorem m_pl11_x0 {μ : Nat → Nat → Int} {c s : Nat} {b : Nat → Int} {n m p : Nat} (hM : MSt μ b n m p) (hk : tkK b n m p = 1) {l9 : Nat} (hl : μ 118 41 = (l9 : Int)) (hl9 : l9 ≤ 30) (hl3 : ¬ l9 = 30) {k9 : Nat} (hk9 : k9 ≤ 8) (h8 : μ 120 8 = (k9 : Int)) (w0 : tkK b n m (tkN b n m p) = 1 → ∀ y, Nm (tkV b n m (tkN b n m p)) y → ¬ ix (μ 124) y 16 0 = -1) (c8 : 0 ≤ μ 120 0 ∧ μ 120 0 ≤ 10) (c9 : 0 ≤ μ 120 1 ∧ μ 120 1 ≤ 10) : Rn PT none kX12_planLine 32 [some (mR 118), some (mI (0)), none, none, none] [] (mkh μ c s) (fun r => ∃ ν', r = (some (some (mI 0)), mkh ν' c s) ∧ ν' 118 15 = 1 ∧ ν' 118 16 = ((tkP b n m (tkN b n m p) : Nat) : Int) ∧ FrmQ μ ν') := by
  refine rn_iload_n (k' := 33) rfl rfl rfl ?_
  refine rn_if_ge (k' := 34) rfl rfl (fun hc1 => ?_) (fun hc1 => ?_)
  · skip
    refine rn_aload_n (k' := 39) rfl rfl rfl ?_
    refine rn_getI (k' := 40) rfl rfl K0_118 (by decide) rfl ?_
    refine rn_bipush (k' := 41) rfl rfl ?_
    refine rn_icmp_ne (k' := 42) rfl rfl (fun hc2 => ?_) (fun hc2 => ?_)
    · skip
      refine rn_iconst (k' := 47) rfl rfl ?_
      refine rn_iconst (k' := 48) rfl rfl ?_
      refine rn_aload_n (k' := 49) rfl rfl rfl ?_
      refine rn_getI (k' := 50) rfl rfl K0_118 (by decide) rfl ?_
      refine rn_imul (k' := 51) rfl rfl (by omega) ?_
      refine rn_iadd (k' := 52) rfl rfl (by omega) ?_
      refine rn_istore_n (k' := 53) (L' := [some (mR 118), some (mI (0)), some (mI (1 + (4 * (μ 118 41)))), none, none]) rfl rfl (Nat.le_of_ble_eq_true rfl) rfl ?_
      refine rn_iconst (k' := 54) rfl rfl ?_
      refine rn_istore_n (k' := 55) (L' := [some (mR 118), some (mI (0)), some (mI (1 + (4 * (μ 118 41)))), some (mI (0)), none]) rfl rfl (Nat.le_of_ble_eq_true rfl) rfl ?_
      refine rn_iload_n (k' := 56) rfl rfl rfl ?_
      refine rn_iconst (k' := 57) rfl rfl ?_
      refine rn_icmp_ge (k' := 58) rfl rfl (fun hc3 => ?_) (fun hc3 => ?_)
      · exfalso; omega
      · skip
        refine rn_aload_n (k' := 59) rfl rfl rfl ?_
        refine rn_getR (k' := 60) rfl rfl K0_118 (by decide) rfl R0_118_8 ?_
        refine rn_iload_n (k' := 61) rfl rfl rfl ?_
        refine rn_iload_n (k' := 62) rfl rfl rfl ?_
        refine rn_iadd (k' := 63) rfl rfl (by omega) ?_
        refine rn_iconst (k' := 64) rfl rfl ?_
        refine rn_iastore (k' := 65) rfl rfl K0_122 (by omega) (by omega) ?_
        refine rn_iinc (k' := 66) (L' := [some (mR 118), some (mI (0)), some (mI (1 + (4 * (μ 118 41)))), some (mI (0 + 1)), none]) rfl rfl rfl (by omega) rfl ?_
        refine rn_goto rfl ?_
        refine rn_iload_n (k' := 56) rfl rfl rfl ?_
        refine rn_iconst (k' := 57) rfl rfl ?_
        refine rn_icmp_ge (k' := 58) rfl rfl (fun hc4 => ?_) (fun hc4 => ?_)
        · exfalso; omega
        · skip
          refine rn_aload_n (k' := 59) rfl rfl rfl ?_
          refine rn_getR (k' := 60) rfl rfl K0_118 (by decide) rfl R0_118_8 ?_
          refine rn_iload_n (k' := 61) rfl rfl rfl ?_
          refine rn_iload_n (k' := 62) rfl rfl rfl ?_
          refine rn_iadd (k' := 63) rfl rfl (by omega) ?_
          refine rn_iconst (k' := 64) rfl rfl ?_
          refine rn_iastore (k' := 65) rfl rfl K0_122 (by omega) (by omega) ?_
          refine rn_iinc (k' := 66) (L' := [some (mR 118), some (mI (0)), some (mI (1 + (4 * (μ 118 41)))), some (mI (0 + 1 + 1)), none]) rfl rfl rfl (by omega) rfl ?_
          refine rn_goto rfl ?_
          refine rn_iload_n (k' := 56) rfl rfl rfl ?_
          refine rn_iconst (k' := 57) rfl rfl ?_
          refine rn_icmp_ge (k' := 58) rfl rfl (fun hc5 => ?_) (fun hc5 => ?_)
          · exfalso; omega
          · skip
            refine rn_aload_n (k' := 59) rfl rfl rfl ?_
            refine rn_getR (k' := 60) rfl rfl K0_118 (by decide) rfl R0_118_8 ?_
            refine rn_iload_n (k' := 61) rfl rfl rfl ?_
            refine rn_iload_n (k' := 62) rfl rfl rfl ?_
            refine rn_iadd (k' := 63) rfl rfl (by omega) ?_
            refine rn_iconst (k' := 64) rfl rfl ?_
            refine rn_iastore (k' := 65) rfl rfl K0_122 (by omega) (by omega) ?_
            refine rn_iinc (k' := 66) (L' := [some (mR 118), some (mI (0)), some (mI (1 + (4 * (μ 118 41)))), some (mI (0 + 1 + 1 + 1)), none]) rfl rfl rfl (by omega) rfl ?_
            refine rn_goto rfl ?_
            refine rn_iload_n (k' := 56) rfl rfl rfl ?_
            refine rn_iconst (k' := 57) rfl rfl ?_
            refine rn_icmp_ge (k' := 58) rfl rfl (fun hc6 => ?_) (fun hc6 => ?_)
            · exfalso; omega
            · skip
              refine rn_aload_n (k' := 59) rfl rfl rfl ?_
              refine rn_getR (k' := 60) rfl rfl K0_118 (by decide) rfl R0_118_8 ?_
              refine rn_iload_n (k' := 61) rfl rfl rfl ?_
              refine rn_iload_n (k' := 62) rfl rfl rfl ?_
              refine rn_iadd (k' := 63) rfl rfl (by omega) ?_
              refine rn_iconst (k' := 64) rfl rfl ?_
              refine rn_iastore (k' := 65) rfl rfl K0_122 (by omega) (by omega) ?_
              refine rn_iinc (k' := 66) (L' := [some (mR 118), some (mI (0)), some (mI (1 + (4 * (μ 118 41)))), some (mI (0 + 1 + 1 + 1 + 1)), none]) rfl rfl rfl (by omega) rfl ?_
              refine rn_goto rfl ?_
              refine rn_iload_n (k' := 56) rfl rfl rfl ?_
              refine rn_iconst (k' := 57) rfl rfl ?_
              refine rn_icmp_ge (k' := 58) rfl rfl (fun hc7 => ?_) (fun hc7 => ?_)
              · skip
                refine rn_aload_n (k' := 68) rfl rfl rfl ?_
                refine rn_getR (k' := 69) rfl rfl K0_118 (by decide) rfl R0_118_8 ?_
                refine rn_iload_n (k' := 70) rfl rfl rfl ?_
                refine rn_iload_n (k' := 71) rfl rfl rfl ?_
                refine rn_iastore (k' := 72) rfl rfl K0_122 (by omega) (by omega) ?_
                refine rn_aload_n (k' := 73) rfl rfl rfl ?_
                obtain ⟨Ha, ⟨hma, hfa_⟩, hca⟩ := g_next2 (μ := (m_set (m_set (m_set (m_set (m_set μ 122 (((1 + (4 * (μ 118 41))) + 0).toNat) (0)) 122 (((1 + (4 * (μ 118 41))) + (0 + 1)).toNat) (0)) 122 (((1 + (4 * (μ 118 41))) + (0 + 1 + 1)).toNat) (0)) 122 (((1 + (4 * (μ 118 41))) + (0 + 1 + 1 + 1)).toNat) (0)) 122 ((1 + (4 * (μ 118 41))).toNat) (0))) (c := c) (s := s) (b := b) (n := n) (m := m) (p := p) hM (by omega)
                have hfa : FRt Ha _ := hfa_.t
                have hM0 : MSt (m_upd (m_set (m_set (m_set (m_set (m_set μ 122 (((1 + (4 * (μ 118 41))) + 0).toNat) (0)) 122 (((1 + (4 * (μ 118 41))) + (0 + 1)).toNat) (0)) 122 (((1 + (4 * (μ 118 41))) + (0 + 1 + 1)).toNat) (0)) 122 (((1 + (4 * (μ 118 41))) + (0 + 1 + 1 + 1)).toNat) (0)) 122 ((1 + (4 * (μ 118 41))).toNat) (0)) 118 Ha) b n m (tkN b n m p) := ⟨hM.1, hM.2.1, hM.2.2.1, (tkN_b hM.2.2.2.1).2.1, hma⟩
                obtain ⟨_, _, u12, u11, _, u17, _, _⟩ := hma
                refine rn_callP (k' := 74) (y := 175) (vs := [mR 118]) (S' := []) (v := none) (h' := mkh (m_upd (m_set (m_set (m_set (m_set (m_set μ 122 (((1 + (4 * (μ 118 41))) + 0).toNat) (0)) 122 (((1 + (4 * (μ 118 41))) + (0 + 1)).toNat) (0)) 122 (((1 + (4 * (μ 118 41))) + (0 + 1 + 1)).toNat) (0)) 122 (((1 + (4 * (μ 118 41))) + (0 + 1 + 1 + 1)).toNat) (0)) 122 ((1 + (4 * (μ 118 41))).toNat) (0)) 118 Ha) c s) rfl rfl rfl (hca) ?_
                show Rn PT none kX12_planLine 74 [some (mR 118), some (mI (0)), some (mI (1 + (4 * (μ 118 41)))), some (mI (0 + 1 + 1 + 1 + 1)), none] [] (mkh (m_upd (m_set (m_set (m_set (m_set (m_set μ 122 (((1 + (4 * (μ 118 41))) + 0).toNat) (0)) 122 (((1 + (4 * (μ 118 41))) + (0 + 1)).toNat) (0)) 122 (((1 + (4 * (μ 118 41))) + (0 + 1 + 1)).toNat) (0)) 122 (((1 + (4 * (μ 118 41))) + (0 + 1 + 1 + 1)).toNat) (0)) 122 ((1 + (4 * (μ 118 41))).toNat) (0)) 118 Ha) c s) _
                refine rn_iload_n (k' := 75) rfl rfl rfl ?_
                refine rn_iconst (k' := 76) rfl rfl ?_
                refine rn_icmp_ne (k' := 77) rfl rfl (fun hc8 => ?_) (fun hc8 => ?_)
                · skip
                  refine rn_iload_n (k' := 80) rfl rfl rfl ?_
                  refine rn_iconst (k' := 81) rfl rfl ?_
                  refine rn_icmp_ne (k' := 82) rfl rfl (fun hc9 => ?_) (fun hc9 => ?_)
                  · skip
                    refine rn_aload_n (k' := 100) rfl rfl rfl ?_
                    refine rn_callP (k' := 101) (y := 180) (vs := [mR 118]) (S' := []) (v := some (mI (0))) (h' := mkh (m_upd (m_set (m_set (m_set (m_set (m_set μ 122 (((1 + (4 * (μ 118 41))) + 0).toNat) (0)) 122 (((1 + (4 * (μ 118 41))) + (0 + 1)).toNat) (0)) 122 (((1 + (4 * (μ 118 41))) + (0 + 1 + 1)).toNat) (0)) 122 (((1 + (4 * (μ 118 41))) + (0 + 1 + 1 + 1)).toNat) (0)) 122 ((1 + (4 * (μ 118 41))).toNat) (0)) 118 Ha) c s) rfl rfl rfl (by have hz : Cl PT 180 [mR 118] (mkh (m_upd (m_set (m_set (m_set (m_set (m_set μ 122 (((1 + (4 * (μ 118 41))) + 0).toNat) (0)) 122 (((1 + (4 * (μ 118 41))) + (0 + 1)).toNat) (0)) 122 (((1 + (4 * (μ 118 41))) + (0 + 1 + 1)).toNat) (0)) 122 (((1 + (4 * (μ 118 41))) + (0 + 1 + 1 + 1)).toNat) (0)) 122 ((1 + (4 * (μ 118 41))).toNat) (0)) 118 Ha) c s) (fun r => r = (some (some (mI (if Ha 11 = 1 ∧ ix (μ 124) (Ha 17) 16 0 = -1 then 1 else 0))), mkh (m_upd (m_set (m_set (m_set (m_set (m_set μ 122 (((1 + (4 * (μ 118 41))) + 0).toNat) (0)) 122 (((1 + (4 * (μ 118 41))) + (0 + 1)).toNat) (0)) 122 (((1 + (4 * (μ 118 41))) + (0 + 1 + 1)).toNat) (0)) 122 (((1 + (4 * (μ 118 41))) + (0 + 1 + 1 + 1)).toNat) (0)) 122 ((1 + (4 * (μ 118 41))).toNat) (0)) 118 Ha) c s)) := c_X12_isName (μ := (m_upd (m_set (m_set (m_set (m_set (m_set μ 122 (((1 + (4 * (μ 118 41))) + 0).toNat) (0)) 122 (((1 + (4 * (μ 118 41))) + (0 + 1)).toNat) (0)) 122 (((1 + (4 * (μ 118 41))) + (0 + 1 + 1)).toNat) (0)) 122 (((1 + (4 * (μ 118 41))) + (0 + 1 + 1 + 1)).toNat) (0)) 122 ((1 + (4 * (μ 118 41))).toNat) (0)) 118 Ha)) (c := c) (s := s); rw [if_neg (show ¬ (Ha 11 = 1 ∧ ix (μ 124) (Ha 17) 16 0 = -1) from fun z => by have k0 := mkk_1.mp (u11.symm.trans z.1); exact w0 k0 _ (u17 k0) z.2)] at hz; exact hz) ?_
                    show Rn PT none kX12_planLine 101 [some (mR 118), some (mI (0)), some (mI (1 + (4 * (μ 118 41)))), some (mI (0 + 1 + 1 + 1 + 1)), none] [mI (0)] (mkh (m_upd (m_set (m_set (m_set (m_set (m_set μ 122 (((1 + (4 * (μ 118 41))) + 0).toNat) (0)) 122 (((1 + (4 * (μ 118 41))) + (0 + 1)).toNat) (0)) 122 (((1 + (4 * (μ 118 41))) + (0 + 1 + 1)).toNat) (0)) 122 (((1 + (4 * (μ 118 41))) + (0 + 1 + 1 + 1)).toNat) (0)) 122 ((1 + (4 * (μ 118 41))).toNat) (0)) 118 Ha) c s) _
                    refine rn_if_ne (k' := 102) rfl rfl (fun hc10 => ?_) (fun hc10 => ?_)
                    · exfalso; omega
                    · skip
                      refine rn_aload_n (k' := 103) rfl rfl rfl ?_
                      refine rn_iconst (k' := 104) rfl rfl ?_
                      refine rn_callP (k' := 105) (y := 176) (vs := [mR 118, mI (1)]) (S' := []) (v := some (mI (0))) (h' := mkh (m_set (m_set (m_upd (m_set (m_set (m_set (m_set (m_set μ 122 (((1 + (4 * (μ 118 41))) + 0).toNat) (0)) 122 (((1 + (4 * (μ 118 41))) + (0 + 1)).toNat) (0)) 122 (((1 + (4 * (μ 118 41))) + (0 + 1 + 1)).toNat) (0)) 122 (((1 + (4 * (μ 118 41))) + (0 + 1 + 1 + 1)).toNat) (0)) 122 ((1 + (4 * (μ 118 41))).toNat) (0)) 118 Ha) 118 15 (1)) 118 16 (Ha 12)) c s) rfl rfl rfl (g_bad (μ := (m_upd (m_set (m_set (m_set (m_set (m_set μ 122 (((1 + (4 * (μ 118 41))) + 0).toNat) (0)) 122 (((1 + (4 * (μ 118 41))) + (0 + 1)).toNat) (0)) 122 (((1 + (4 * (μ 118 41))) + (0 + 1 + 1)).toNat) (0)) 122 (((1 + (4 * (μ 118 41))) + (0 + 1 + 1 + 1)).toNat) (0)) 122 ((1 + (4 * (μ 118 41))).toNat) (0)) 118 Ha)) (e := 1)) ?_
                      show Rn PT none kX12_planLine 105 [some (mR 118), some (mI (0)), some (mI (1 + (4 * (μ 118 41)))), some (mI (0 + 1 + 1 + 1 + 1)), none] [mI (0)] (mkh (m_set (m_set (m_upd (m_set (m_set (m_set (m_set (m_set μ 122 (((1 + (4 * (μ 118 41))) + 0).toNat) (0)) 122 (((1 + (4 * (μ 118 41))) + (0 + 1)).toNat) (0)) 122 (((1 + (4 * (μ 118 41))) + (0 + 1 + 1)).toNat) (0)) 122 (((1 + (4 * (μ 118 41))) + (0 + 1 + 1 + 1)).toNat) (0)) 122 ((1 + (4 * (μ 118 41))).toNat) (0)) 118 Ha) 118 15 (1)) 118 16 (Ha 12)) c s) _
                      refine rn_iret rfl (Or.inr (by omega)) ?_
                      exact ⟨_, rfl, rfl, u12, (FrmQ.s (FrmQ.s (FrmQ.u (FrmQ.s2 (FrmQ.s2 (FrmQ.s2 (FrmQ.s2 (FrmQ.s2 FrmQ.r))))) hfa) (by decide)) (by decide))⟩
                  · exfalso; omega
                · exfalso; omega
              · exfalso; omega
    · exfalso; omega
  · exfalso; omega
set_option maxHeartbeats 1000000 in
theorem m_pl11_x1 {μ : Nat → Nat → Int} {c s : Nat} {b : Nat → Int} {n m p : Nat} (hM : MSt μ b n m p) (hk : tkK b n m p = 1) {l9 : Nat} (hl : μ 118 41 = (l9 : Int)) (hl9 : l9 ≤ 30) (hl3 : ¬ l9 = 30) {k9 : Nat} (hk9 : k9 ≤ 8) (h8 : μ 120 8 = (k9 : Int)) (k0 : tkK b n m (tkN b n m p) = 1) (w0 : ∀ y, Nm (tkV b n m (tkN b n m p)) y → ix (μ 124) y 16 0 = -1) (d0 : ∀ y, Nm (tkV b n m (tkN b n m p)) y → ¬ ix (fun j => μ 123 (0 + j)) y k9 0 = -1) (c8 : 0 ≤ μ 120 0 ∧ μ 120 0 ≤ 10) (c9 : 0 ≤ μ 120 1 ∧ μ 120 1 ≤ 10) (e1 : ¬ eN b n m (tkN b n m (tkN b n m p)) 0 (μ 120 0 - 1) = 0) : Rn PT none kX12_planLine 32 [some (mR 118), some (mI (0)), none, none, none] [] (mkh μ c s) (fun r => ∃ ν', r = (some (some (mI 0)), mkh ν' c s) ∧ ν' 118 15 = eN b n m (tkN b n m (tkN b n m p)) 0 (μ 120 0 - 1) ∧ ν' 118 16 = ((tkP b n m (tkN b n m (tkN b n m p)) : Nat) : Int) ∧ FrmQ μ ν') := by
  refine rn_iload_n (k' := 33) rfl rfl rfl ?_
  refine rn_if_ge (k' := 34) rfl rfl (fun hc1 => ?_) (fun hc1 => ?_)
  · skip
    refine rn_aload_n (k' := 39) rfl rfl rfl ?_
    refine rn_getI (k' := 40) rfl rfl K0_118 (by decide) rfl ?_
    refine rn_bipush (k' := 41) rfl rfl ?_
    refine rn_icmp_ne (k' := 42) rfl rfl (fun hc2 => ?_) (fun hc2 => ?_)
    · skip
      refine rn_iconst (k' := 47) rfl rfl ?_
      refine rn_iconst (k' := 48) rfl rfl ?_
      refine rn_aload_n (k' := 49) rfl rfl rfl ?_
      refine rn_getI (k' := 50) rfl rfl K0_118 (by decide) rfl ?_
      refine rn_imul (k' := 51) rfl rfl (by omega) ?_
      refine rn_iadd (k' := 52) rfl rfl (by omega) ?_
      refine rn_istore_n (k' := 53) (L' := [some (mR 118), some (mI (0)), some (mI (1 + (4 * (μ 118 41)))), none, none]) rfl rfl (Nat.le_of_ble_eq_true rfl) rfl ?_
      refine rn_iconst (k' := 54) rfl rfl ?_
      refine rn_istore_n (k' := 55) (L' := [some (mR 118), some (mI (0)), some (mI (1 + (4 * (μ 118 41)))), some (mI (0)), none]) rfl rfl (Nat.le_of_ble_eq_true rfl) rfl ?_
      refine rn_iload_n (k' := 56) rfl rfl rfl ?_
      refine rn_iconst (k' := 57) rfl rfl ?_
      refine rn_icmp_ge (k' := 58) rfl rfl (fun hc3 => ?_) (fun hc3 => ?_)
      · exfalso; omega
      · skip
        refine rn_aload_n (k' := 59) rfl rfl rfl ?_
        refine rn_getR (k' := 60) rfl rfl K0_118 (by decide) rfl R0_118_8 ?_
        refine rn_iload_n (k' := 61) rfl rfl rfl ?_
        refine rn_iload_n (k' := 62) rfl rfl rfl ?_
        refine rn_iadd (k' := 63) rfl rfl (by omega) ?_
        refine rn_iconst (k' := 64) rfl rfl ?_
        refine rn_iastore (k' := 65) rfl rfl K0_122 (by omega) (by omega) ?_
        refine rn_iinc (k' := 66) (L' := [some (mR 118), some (mI (0)), some (mI (1 + (4 * (μ 118 41)))), some (mI (0 + 1)), none]) rfl rfl rfl (by omega) rfl ?_
        refine rn_goto rfl ?_
        refine rn_iload_n (k' := 56) rfl rfl rfl ?_
        refine rn_iconst (k' := 57) rfl rfl ?_
        refine rn_icmp_ge (k' := 58) rfl rfl (fun hc4 => ?_) (fun hc4 => ?_)
        · exfalso; omega
        · skip
          refine rn_aload_n (k' := 59) rfl rfl rfl ?_
          refine rn_getR (k' := 60) rfl rfl K0_118 (by decide) rfl R0_118_8 ?_
          refine rn_iload_n (k' := 61) rfl rfl rfl ?_
          refine rn_iload_n (k' := 62) rfl rfl rfl ?_
          refine rn_iadd (k' := 63) rfl rfl (by omega) ?_
          refine rn_iconst (k' := 64) rfl rfl ?_
          refine rn_iastore (k' := 65) rfl rfl K0_122 (by omega) (by omega) ?_
          refine rn_iinc (k' := 66) (L' := [some (mR 118), some (mI (0)), some (mI (1 + (4 * (μ 118 41)))), some (mI (0 + 1 + 1)), none]) rfl rfl rfl (by omega) rfl ?_
          refine rn_goto rfl ?_
          refine rn_iload_n (k' := 56) rfl rfl rfl ?_
          refine rn_iconst (k' := 57) rfl rfl ?_
          refine rn_icmp_ge (k' := 58) rfl rfl (fun hc5 => ?_) (fun hc5 => ?_)
          · exfalso; omega
          · skip
            refine rn_aload_n (k' := 59) rfl rfl rfl ?_
            refine rn_getR (k' := 60) rfl rfl K0_118 (by decide) rfl R0_118_8 ?_
            refine rn_iload_n (k' := 61) rfl rfl rfl ?_
            refine rn_iload_n (k' := 62) rfl rfl rfl ?_
            refine rn_iadd (k' := 63) rfl rfl (by omega) ?_
            refine rn_iconst (k' := 64) rfl rfl ?_
            refine rn_iastore (k' := 65) rfl rfl K0_122 (by omega) (by omega) ?_
            refine rn_iinc (k' := 66) (L' := [some (mR 118), some (mI (0)), some (mI (1 + (4 * (μ 118 41)))), some (mI (0 + 1 + 1 + 1)), none]) rfl rfl rfl (by omega) rfl ?_
            refine rn_goto rfl ?_
            refine rn_iload_n (k' := 56) rfl rfl rfl ?_
            refine rn_iconst (k' := 57) rfl rfl ?_
            refine rn_icmp_ge (k' := 58) rfl rfl (fun hc6 => ?_) (fun hc6 => ?_)
            · exfalso; omega
            · skip
              refine rn_aload_n (k' := 59) rfl rfl rfl ?_
              refine rn_getR (k' := 60) rfl rfl K0_118 (by decide) rfl R0_118_8 ?_
              refine rn_iload_n (k' := 61) rfl rfl rfl ?_
              refine rn_iload_n (k' := 62) rfl rfl rfl ?_
              refine rn_iadd (k' := 63) rfl rfl (by omega) ?_
              refine rn_iconst (k' := 64) rfl rfl ?_
              refine rn_iastore (k' := 65) rfl rfl K0_122 (by omega) (by omega) ?_
              refine rn_iinc (k' := 66) (L' := [some (mR 118), some (mI (0)), some (mI (1 + (4 * (μ 118 41)))), some (mI (0 + 1 + 1 + 1 + 1)), none]) rfl rfl rfl (by omega) rfl ?_
              refine rn_goto rfl ?_
              refine rn_iload_n (k' := 56) rfl rfl rfl ?_
              refine rn_iconst (k' := 57) rfl rfl ?_
              refine rn_icmp_ge (k' := 58) rfl rfl (fun hc7 => ?_) (fun hc7 => ?_)
              · skip
                refine rn_aload_n (k' := 68) rfl rfl rfl ?_
                refine rn_getR (k' := 69) rfl rfl K0_118 (by decide) rfl R0_118_8 ?_
                refine rn_iload_n (k' := 70) rfl rfl rfl ?_
                refine rn_iload_n (k' := 71) rfl rfl rfl ?_
                refine rn_iastore (k' := 72) rfl rfl K0_122 (by omega) (by omega) ?_
                refine rn_aload_n (k' := 73) rfl rfl rfl ?_
                obtain ⟨Ha, ⟨hma, hfa_⟩, hca⟩ := g_next2 (μ := (m_set (m_set (m_set (m_set (m_set μ 122 (((1 + (4 * (μ 118 41))) + 0).toNat) (0)) 122 (((1 + (4 * (μ 118 41))) + (0 + 1)).toNat) (0)) 122 (((1 + (4 * (μ 118 41))) + (0 + 1 + 1)).toNat) (0)) 122 (((1 + (4 * (μ 118 41))) + (0 + 1 + 1 + 1)).toNat) (0)) 122 ((1 + (4 * (μ 118 41))).toNat) (0))) (c := c) (s := s) (b := b) (n := n) (m := m) (p := p) hM (by omega)
                have hfa : FRt Ha _ := hfa_.t
                have hM0 : MSt (m_upd (m_set (m_set (m_set (m_set (m_set μ 122 (((1 + (4 * (μ 118 41))) + 0).toNat) (0)) 122 (((1 + (4 * (μ 118 41))) + (0 + 1)).toNat) (0)) 122 (((1 + (4 * (μ 118 41))) + (0 + 1 + 1)).toNat) (0)) 122 (((1 + (4 * (μ 118 41))) + (0 + 1 + 1 + 1)).toNat) (0)) 122 ((1 + (4 * (μ 118 41))).toNat) (0)) 118 Ha) b n m (tkN b n m p) := ⟨hM.1, hM.2.1, hM.2.2.1, (tkN_b hM.2.2.2.1).2.1, hma⟩
                obtain ⟨_, _, u12, u11, _, u17, _, _⟩ := hma
                have hu : Ha 11 = 1 := by rw [u11]; exact mkk_1.mpr k0
                have hw := w0 _ (u17 k0)
                have hd := d0 _ (u17 k0)
                refine rn_callP (k' := 74) (y := 175) (vs := [mR 118]) (S' := []) (v := none) (h' := mkh (m_upd (m_set (m_set (m_set (m_set (m_set μ 122 (((1 + (4 * (μ 118 41))) + 0).toNat) (0)) 122 (((1 + (4 * (μ 118 41))) + (0 + 1)).toNat) (0)) 122 (((1 + (4 * (μ 118 41))) + (0 + 1 + 1)).toNat) (0)) 122 (((1 + (4 * (μ 118 41))) + (0 + 1 + 1 + 1)).toNat) (0)) 122 ((1 + (4 * (μ 118 41))).toNat) (0)) 118 Ha) c s) rfl rfl rfl (hca) ?_
                show Rn PT none kX12_planLine 74 [some (mR 118), some (mI (0)), some (mI (1 + (4 * (μ 118 41)))), some (mI (0 + 1 + 1 + 1 + 1)), none] [] (mkh (m_upd (m_set (m_set (m_set (m_set (m_set μ 122 (((1 + (4 * (μ 118 41))) + 0).toNat) (0)) 122 (((1 + (4 * (μ 118 41))) + (0 + 1)).toNat) (0)) 122 (((1 + (4 * (μ 118 41))) + (0 + 1 + 1)).toNat) (0)) 122 (((1 + (4 * (μ 118 41))) + (0 + 1 + 1 + 1)).toNat) (0)) 122 ((1 + (4 * (μ 118 41))).toNat) (0)) 118 Ha) c s) _
                refine rn_iload_n (k' := 75) rfl rfl rfl ?_
                refine rn_iconst (k' := 76) rfl rfl ?_
                refine rn_icmp_ne (k' := 77) rfl rfl (fun hc8 => ?_) (fun hc8 => ?_)
                · skip
                  refine rn_iload_n (k' := 80) rfl rfl rfl ?_
                  refine rn_iconst (k' := 81) rfl rfl ?_
                  refine rn_icmp_ne (k' := 82) rfl rfl (fun hc9 => ?_) (fun hc9 => ?_)
                  · skip
                    refine rn_aload_n (k' := 100) rfl rfl rfl ?_
                    refine rn_callP (k' := 101) (y := 180) (vs := [mR 118]) (S' := []) (v := some (mI (1))) (h' := mkh (m_upd (m_set (m_set (m_set (m_set (m_set μ 122 (((1 + (4 * (μ 118 41))) + 0).toNat) (0)) 122 (((1 + (4 * (μ 118 41))) + (0 + 1)).toNat) (0)) 122 (((1 + (4 * (μ 118 41))) + (0 + 1 + 1)).toNat) (0)) 122 (((1 + (4 * (μ 118 41))) + (0 + 1 + 1 + 1)).toNat) (0)) 122 ((1 + (4 * (μ 118 41))).toNat) (0)) 118 Ha) c s) rfl rfl rfl (by have hz : Cl PT 180 [mR 118] (mkh (m_upd (m_set (m_set (m_set (m_set (m_set μ 122 (((1 + (4 * (μ 118 41))) + 0).toNat) (0)) 122 (((1 + (4 * (μ 118 41))) + (0 + 1)).toNat) (0)) 122 (((1 + (4 * (μ 118 41))) + (0 + 1 + 1)).toNat) (0)) 122 (((1 + (4 * (μ 118 41))) + (0 + 1 + 1 + 1)).toNat) (0)) 122 ((1 + (4 * (μ 118 41))).toNat) (0)) 118 Ha) c s) (fun r => r = (some (some (mI (if Ha 11 = 1 ∧ ix (μ 124) (Ha 17) 16 0 = -1 then 1 else 0))), mkh (m_upd (m_set (m_set (m_set (m_set (m_set μ 122 (((1 + (4 * (μ 118 41))) + 0).toNat) (0)) 122 (((1 + (4 * (μ 118 41))) + (0 + 1)).toNat) (0)) 122 (((1 + (4 * (μ 118 41))) + (0 + 1 + 1)).toNat) (0)) 122 (((1 + (4 * (μ 118 41))) + (0 + 1 + 1 + 1)).toNat) (0)) 122 ((1 + (4 * (μ 118 41))).toNat) (0)) 118 Ha) c s)) := c_X12_isName (μ := (m_upd (m_set (m_set (m_set (m_set (m_set μ 122 (((1 + (4 * (μ 118 41))) + 0).toNat) (0)) 122 (((1 + (4 * (μ 118 41))) + (0 + 1)).toNat) (0)) 122 (((1 + (4 * (μ 118 41))) + (0 + 1 + 1)).toNat) (0)) 122 (((1 + (4 * (μ 118 41))) + (0 + 1 + 1 + 1)).toNat) (0)) 122 ((1 + (4 * (μ 118 41))).toNat) (0)) 118 Ha)) (c := c) (s := s); rw [if_pos (show Ha 11 = 1 ∧ ix (μ 124) (Ha 17) 16 0 = -1 from ⟨hu, hw⟩)] at hz; exact hz) ?_
                    show Rn PT none kX12_planLine 101 [some (mR 118), some (mI (0)), some (mI (1 + (4 * (μ 118 41)))), some (mI (0 + 1 + 1 + 1 + 1)), none] [mI (1)] (mkh (m_upd (m_set (m_set (m_set (m_set (m_set μ 122 (((1 + (4 * (μ 118 41))) + 0).toNat) (0)) 122 (((1 + (4 * (μ 118 41))) + (0 + 1)).toNat) (0)) 122 (((1 + (4 * (μ 118 41))) + (0 + 1 + 1)).toNat) (0)) 122 (((1 + (4 * (μ 118 41))) + (0 + 1 + 1 + 1)).toNat) (0)) 122 ((1 + (4 * (μ 118 41))).toNat) (0)) 118 Ha) c s) _
                    refine rn_if_ne (k' := 102) rfl rfl (fun hc10 => ?_) (fun hc10 => ?_)
                    · skip
                      refine rn_aload_n (k' := 107) rfl rfl rfl ?_
                      refine rn_iconst (k' := 108) rfl rfl ?_
                      refine rn_aload_n (k' := 109) rfl rfl rfl ?_
                      refine rn_getR (k' := 110) rfl rfl K0_118 (by decide) rfl R0_118_6 ?_
                      refine rn_bipush (k' := 111) rfl rfl ?_
                      refine rn_iaload (k' := 112) rfl rfl K0_120 (by omega) (by omega) ?_
                      show Rn PT none kX12_planLine 112 [some (mR 118), some (mI (0)), some (mI (1 + (4 * (μ 118 41)))), some (mI (0 + 1 + 1 + 1 + 1)), none] [mI (μ 120 8), mI (0), mR 118] (mkh (m_upd (m_set (m_set (m_set (m_set (m_set μ 122 (((1 + (4 * (μ 118 41))) + 0).toNat) (0)) 122 (((1 + (4 * (μ 118 41))) + (0 + 1)).toNat) (0)) 122 (((1 + (4 * (μ 118 41))) + (0 + 1 + 1)).toNat) (0)) 122 (((1 + (4 * (μ 118 41))) + (0 + 1 + 1 + 1)).toNat) (0)) 122 ((1 + (4 * (μ 118 41))).toNat) (0)) 118 Ha) c s) _
                      have hfb9 := ix_b (f := fun j => μ 123 (0 + j)) (v := Ha 17) k9 0
                      refine rn_callP (k' := 113) (y := 182) (vs := [mR 118, mI (0), mI (μ 120 8)]) (S' := []) (v := some (mI (ix (fun j => μ 123 (0 + j)) (Ha 17) k9 0))) (h' := mkh (m_upd (m_set (m_set (m_set (m_set (m_set μ 122 (((1 + (4 * (μ 118 41))) + 0).toNat) (0)) 122 (((1 + (4 * (μ 118 41))) + (0 + 1)).toNat) (0)) 122 (((1 + (4 * (μ 118 41))) + (0 + 1 + 1)).toNat) (0)) 122 (((1 + (4 * (μ 118 41))) + (0 + 1 + 1 + 1)).toNat) (0)) 122 ((1 + (4 * (μ 118 41))).toNat) (0)) 118 Ha) c s) rfl rfl rfl (by have hz := c_find (μ := (m_upd (m_set (m_set (m_set (m_set (m_set μ 122 (((1 + (4 * (μ 118 41))) + 0).toNat) (0)) 122 (((1 + (4 * (μ 118 41))) + (0 + 1)).toNat) (0)) 122 (((1 + (4 * (μ 118 41))) + (0 + 1 + 1)).toNat) (0)) 122 (((1 + (4 * (μ 118 41))) + (0 + 1 + 1 + 1)).toNat) (0)) 122 ((1 + (4 * (μ 118 41))).toNat) (0)) 118 Ha)) (c := c) (s := s) (o9 := 0) (k9 := k9) (by decide) hk9; rw [← h8] at hz; exact hz) ?_
                      show Rn PT none kX12_planLine 113 [some (mR 118), some (mI (0)), some (mI (1 + (4 * (μ 118 41)))), some (mI (0 + 1 + 1 + 1 + 1)), none] [mI (ix (fun j => μ 123 (0 + j)) (Ha 17) k9 0)] (mkh (m_upd (m_set (m_set (m_set (m_set (m_set μ 122 (((1 + (4 * (μ 118 41))) + 0).toNat) (0)) 122 (((1 + (4 * (μ 118 41))) + (0 + 1)).toNat) (0)) 122 (((1 + (4 * (μ 118 41))) + (0 + 1 + 1)).toNat) (0)) 122 (((1 + (4 * (μ 118 41))) + (0 + 1 + 1 + 1)).toNat) (0)) 122 ((1 + (4 * (μ 118 41))).toNat) (0)) 118 Ha) c s) _
                      refine rn_istore_n (k' := 114) (L' := [some (mR 118), some (mI (0)), some (mI (1 + (4 * (μ 118 41)))), some (mI (ix (fun j => μ 123 (0 + j)) (Ha 17) k9 0)), none]) rfl rfl (Nat.le_of_ble_eq_true rfl) rfl ?_
                      refine rn_iload_n (k' := 115) rfl rfl rfl ?_
                      refine rn_if_ge (k' := 116) rfl rfl (fun hc11 => ?_) (fun hc11 => ?_)
                      · skip
                        refine rn_aload_n (k' := 121) rfl rfl rfl ?_
                        refine rn_getR (k' := 122) rfl rfl K0_118 (by decide) rfl R0_118_8 ?_
                        refine rn_iload_n (k' := 123) rfl rfl rfl ?_
                        refine rn_iconst (k' := 124) rfl rfl ?_
                        refine rn_iadd (k' := 125) rfl rfl (by omega) ?_
                        refine rn_iload_n (k' := 126) rfl rfl rfl ?_
                        refine rn_iastore (k' := 127) rfl rfl K0_122 (by omega) (by omega) ?_
                        refine rn_aload_n (k' := 128) rfl rfl rfl ?_
                        obtain ⟨Hb, ⟨hmb, hfb_⟩, hcb⟩ := g_next2 (μ := (m_set (m_upd (m_set (m_set (m_set (m_set (m_set μ 122 (((1 + (4 * (μ 118 41))) + 0).toNat) (0)) 122 (((1 + (4 * (μ 118 41))) + (0 + 1)).toNat) (0)) 122 (((1 + (4 * (μ 118 41))) + (0 + 1 + 1)).toNat) (0)) 122 (((1 + (4 * (μ 118 41))) + (0 + 1 + 1 + 1)).toNat) (0)) 122 ((1 + (4 * (μ 118 41))).toNat) (0)) 118 Ha) 122 (((1 + (4 * (μ 118 41))) + 1).toNat) (ix (fun j => μ 123 (0 + j)) (Ha 17) k9 0))) (c := c) (s := s) (b := b) (n := n) (m := m) (p := (tkN b n m p)) hM0 (by omega)
                        have hfb : FRt Hb _ := hfb_.t
                        have hM1 : MSt (m_upd (m_set (m_upd (m_set (m_set (m_set (m_set (m_set μ 122 (((1 + (4 * (μ 118 41))) + 0).toNat) (0)) 122 (((1 + (4 * (μ 118 41))) + (0 + 1)).toNat) (0)) 122 (((1 + (4 * (μ 118 41))) + (0 + 1 + 1)).toNat) (0)) 122 (((1 + (4 * (μ 118 41))) + (0 + 1 + 1 + 1)).toNat) (0)) 122 ((1 + (4 * (μ 118 41))).toNat) (0)) 118 Ha) 122 (((1 + (4 * (μ 118 41))) + 1).toNat) (ix (fun j => μ 123 (0 + j)) (Ha 17) k9 0)) 118 Hb) b n m (tkN b n m (tkN b n m p)) := ⟨hM0.1, hM0.2.1, hM0.2.2.1, (tkN_b hM0.2.2.2.1).2.1, hmb⟩
                        refine rn_callP (k' := 129) (y := 175) (vs := [mR 118]) (S' := []) (v := none) (h' := mkh (m_upd (m_set (m_upd (m_set (m_set (m_set (m_set (m_set μ 122 (((1 + (4 * (μ 118 41))) + 0).toNat) (0)) 122 (((1 + (4 * (μ 118 41))) + (0 + 1)).toNat) (0)) 122 (((1 + (4 * (μ 118 41))) + (0 + 1 + 1)).toNat) (0)) 122 (((1 + (4 * (μ 118 41))) + (0 + 1 + 1 + 1)).toNat) (0)) 122 ((1 + (4 * (μ 118 41))).toNat) (0)) 118 Ha) 122 (((1 + (4 * (μ 118 41))) + 1).toNat) (ix (fun j => μ 123 (0 + j)) (Ha 17) k9 0)) 118 Hb) c s) rfl rfl rfl (hcb) ?_
                        show Rn PT none kX12_planLine 129 [some (mR 118), some (mI (0)), some (mI (1 + (4 * (μ 118 41)))), some (mI (ix (fun j => μ 123 (0 + j)) (Ha 17) k9 0)), none] [] (mkh (m_upd (m_set (m_upd (m_set (m_set (m_set (m_set (m_set μ 122 (((1 + (4 * (μ 118 41))) + 0).toNat) (0)) 122 (((1 + (4 * (μ 118 41))) + (0 + 1)).toNat) (0)) 122 (((1 + (4 * (μ 118 41))) + (0 + 1 + 1)).toNat) (0)) 122 (((1 + (4 * (μ 118 41))) + (0 + 1 + 1 + 1)).toNat) (0)) 122 ((1 + (4 * (μ 118 41))).toNat) (0)) 118 Ha) 122 (((1 + (4 * (μ 118 41))) + 1).toNat) (ix (fun j => μ 123 (0 + j)) (Ha 17) k9 0)) 118 Hb) c s) _
                        refine rn_iload_n (k' := 130) rfl rfl rfl ?_
                        refine rn_if_eq (k' := 131) rfl rfl (fun hc12 => ?_) (fun hc12 => ?_)
                        · skip
                          refine rn_aload_n (k' := 149) rfl rfl rfl ?_
                          refine rn_iconst (k' := 150) rfl rfl ?_
                          refine rn_aload_n (k' := 151) rfl rfl rfl ?_
                          refine rn_getR (k' := 152) rfl rfl K0_118 (by decide) rfl R0_118_6 ?_
                          refine rn_iconst (k' := 153) rfl rfl ?_
                          refine rn_iaload (k' := 154) rfl rfl K0_120 (by omega) (by omega) ?_
                          show Rn PT none kX12_planLine 154 [some (mR 118), some (mI (0)), some (mI (1 + (4 * (μ 118 41)))), some (mI (ix (fun j => μ 123 (0 + j)) (Ha 17) k9 0)), none] [mI (μ 120 0), mI (0), mR 118] (mkh (m_upd (m_set (m_upd (m_set (m_set (m_set (m_set (m_set μ 122 (((1 + (4 * (μ 118 41))) + 0).toNat) (0)) 122 (((1 + (4 * (μ 118 41))) + (0 + 1)).toNat) (0)) 122 (((1 + (4 * (μ 118 41))) + (0 + 1 + 1)).toNat) (0)) 122 (((1 + (4 * (μ 118 41))) + (0 + 1 + 1 + 1)).toNat) (0)) 122 ((1 + (4 * (μ 118 41))).toNat) (0)) 118 Ha) 122 (((1 + (4 * (μ 118 41))) + 1).toNat) (ix (fun j => μ 123 (0 + j)) (Ha 17) k9 0)) 118 Hb) c s) _
                          refine rn_iconst (k' := 155) rfl rfl ?_
                          refine rn_isub (k' := 156) rfl rfl (by omega) ?_
                          have hc1 := g_takesX (μ := (m_upd (m_set (m_upd (m_set (m_set (m_set (m_set (m_set μ 122 (((1 + (4 * (μ 118 41))) + 0).toNat) (0)) 122 (((1 + (4 * (μ 118 41))) + (0 + 1)).toNat) (0)) 122 (((1 + (4 * (μ 118 41))) + (0 + 1 + 1)).toNat) (0)) 122 (((1 + (4 * (μ 118 41))) + (0 + 1 + 1 + 1)).toNat) (0)) 122 ((1 + (4 * (μ 118 41))).toNat) (0)) 118 Ha) 122 (((1 + (4 * (μ 118 41))) + 1).toNat) (ix (fun j => μ 123 (0 + j)) (Ha 17) k9 0)) 118 Hb)) (c := c) (s := s) (b := b) (n := n) (m := m) (p := (tkN b n m (tkN b n m p))) (lo := 0) (hi := (μ 120 0) - 1) hM1 e1
                          refine rn_callP (k' := 157) (y := 181) (vs := [mR 118, mI (0), mI ((μ 120 0) - 1)]) (S' := []) (v := some (mI (0))) (h' := mkh (m_set (m_set (m_upd (m_set (m_upd (m_set (m_set (m_set (m_set (m_set μ 122 (((1 + (4 * (μ 118 41))) + 0).toNat) (0)) 122 (((1 + (4 * (μ 118 41))) + (0 + 1)).toNat) (0)) 122 (((1 + (4 * (μ 118 41))) + (0 + 1 + 1)).toNat) (0)) 122 (((1 + (4 * (μ 118 41))) + (0 + 1 + 1 + 1)).toNat) (0)) 122 ((1 + (4 * (μ 118 41))).toNat) (0)) 118 Ha) 122 (((1 + (4 * (μ 118 41))) + 1).toNat) (ix (fun j => μ 123 (0 + j)) (Ha 17) k9 0)) 118 Hb) 118 15 (eN b n m (tkN b n m (tkN b n m p)) (0) ((μ 120 0) - 1))) 118 16 (((tkP b n m (tkN b n m (tkN b n m p)) : Nat) : Int))) c s) rfl rfl rfl (hc1) ?_
                          show Rn PT none kX12_planLine 157 [some (mR 118), some (mI (0)), some (mI (1 + (4 * (μ 118 41)))), some (mI (ix (fun j => μ 123 (0 + j)) (Ha 17) k9 0)), none] [mI (0)] (mkh (m_set (m_set (m_upd (m_set (m_upd (m_set (m_set (m_set (m_set (m_set μ 122 (((1 + (4 * (μ 118 41))) + 0).toNat) (0)) 122 (((1 + (4 * (μ 118 41))) + (0 + 1)).toNat) (0)) 122 (((1 + (4 * (μ 118 41))) + (0 + 1 + 1)).toNat) (0)) 122 (((1 + (4 * (μ 118 41))) + (0 + 1 + 1 + 1)).toNat) (0)) 122 ((1 + (4 * (μ 118 41))).toNat) (0)) 118 Ha) 122 (((1 + (4 * (μ 118 41))) + 1).toNat) (ix (fun j => μ 123 (0 + j)) (Ha 17) k9 0)) 118 Hb) 118 15 (eN b n m (tkN b n m (tkN b n m p)) (0) ((μ 120 0) - 1))) 118 16 (((tkP b n m (tkN b n m (tkN b n m p)) : Nat) : Int))) c s) _
                          refine rn_if_ne (k' := 158) rfl rfl (fun hc13 => ?_) (fun hc13 => ?_)
                          · exfalso; omega
                          · skip
                            refine rn_iconst (k' := 159) rfl rfl ?_
                            refine rn_iret rfl (Or.inr (by omega)) ?_
                            exact ⟨_, rfl, rfl, rfl, (FrmQ.s (FrmQ.s (FrmQ.u (FrmQ.s2 (FrmQ.u (FrmQ.s2 (FrmQ.s2 (FrmQ.s2 (FrmQ.s2 (FrmQ.s2 FrmQ.r))))) hfa)) hfb) (by decide)) (by decide))⟩
                        · exfalso; omega
                      · exfalso; omega
                    · exfalso; omega
                  · exfalso; omega
                · exfalso; omega
              · exfalso; omega
    · exfalso; omega
  · exfalso; omega
set_option maxHeartbeats 1000000 in
theorem m_pl11_x2 {μ : Nat → Nat → Int} {c s : Nat} {b : Nat → Int} {n m p : Nat} (hM : MSt μ b n m p) (hk : tkK b n m p = 1) {l9 : Nat} (hl : μ 118 41 = (l9 : Int)) (hl9 : l9 ≤ 30) (hl3 : ¬ l9 = 30) {k9 : Nat} (hk9 : k9 ≤ 8) (h8 : μ 120 8 = (k9 : Int)) (k0 : tkK b n m (tkN b n m p) = 1) (w0 : ∀ y, Nm (tkV b n m (tkN b n m p)) y → ix (μ 124) y 16 0 = -1) (d0 : ∀ y, Nm (tkV b n m (tkN b n m p)) y → ¬ ix (fun j => μ 123 (0 + j)) y k9 0 = -1) (c8 : 0 ≤ μ 120 0 ∧ μ 120 0 ≤ 10) (c9 : 0 ≤ μ 120 1 ∧ μ 120 1 ≤ 10) (e1 : eN b n m (tkN b n m (tkN b n m p)) 0 (μ 120 0 - 1) = 0) (e2 : ¬ eN b n m (tkN b n m (tkN b n m (tkN b n m p))) 0 (μ 120 1 - 1) = 0) : Rn PT none kX12_planLine 32 [some (mR 118), some (mI (0)), none, none, none] [] (mkh μ c s) (fun r => ∃ ν', r = (some (some (mI 0)), mkh ν' c s) ∧ ν' 118 15 = eN b n m (tkN b n m (tkN b n m (tkN b n m p))) 0 (μ 120 1 - 1) ∧ ν' 118 16 = ((tkP b n m (tkN b n m (tkN b n m (tkN b n m p))) : Nat) : Int) ∧ FrmQ μ ν') := by
  refine rn_iload_n (k' := 33) rfl rfl rfl ?_
  refine rn_if_ge (k' := 34) rfl rfl (fun hc1 => ?_) (fun hc1 => ?_)
  · skip
    refine rn_aload_n (k' := 39) rfl rfl rfl ?_
    refine rn_getI (k' := 40) rfl rfl K0_118 (by decide) rfl ?_
    refine rn_bipush (k' := 41) rfl rfl ?_
    refine rn_icmp_ne (k' := 42) rfl rfl (fun hc2 => ?_) (fun hc2 => ?_)
    · skip
      refine rn_iconst (k' := 47) rfl rfl ?_
      refine rn_iconst (k' := 48) rfl rfl ?_
      refine rn_aload_n (k' := 49) rfl rfl rfl ?_
      refine rn_getI (k' := 50) rfl rfl K0_118 (by decide) rfl ?_
      refine rn_imul (k' := 51) rfl rfl (by omega) ?_
      refine rn_iadd (k' := 52) rfl rfl (by omega) ?_
      refine rn_istore_n (k' := 53) (L' := [some (mR 118), some (mI (0)), some (mI (1 + (4 * (μ 118 41)))), none, none]) rfl rfl (Nat.le_of_ble_eq_true rfl) rfl ?_
      refine rn_iconst (k' := 54) rfl rfl ?_
      refine rn_istore_n (k' := 55) (L' := [some (mR 118), some (mI (0)), some (mI (1 + (4 * (μ 118 41)))), some (mI (0)), none]) rfl rfl (Nat.le_of_ble_eq_true rfl) rfl ?_
      refine rn_iload_n (k' := 56) rfl rfl rfl ?_
      refine rn_iconst (k' := 57) rfl rfl ?_
      refine rn_icmp_ge (k' := 58) rfl rfl (fun hc3 => ?_) (fun hc3 => ?_)
      · exfalso; omega
      · skip
        refine rn_aload_n (k' := 59) rfl rfl rfl ?_
        refine rn_getR (k' := 60) rfl rfl K0_118 (by decide) rfl R0_118_8 ?_
        refine rn_iload_n (k' := 61) rfl rfl rfl ?_
        refine rn_iload_n (k' := 62) rfl rfl rfl ?_
        refine rn_iadd (k' := 63) rfl rfl (by omega) ?_
        refine rn_iconst (k' := 64) rfl rfl ?_
        refine rn_iastore (k' := 65) rfl rfl K0_122 (by omega) (by omega) ?_
        refine rn_iinc (k' := 66) (L' := [some (mR 118), some (mI (0)), some (mI (1 + (4 * (μ 118 41)))), some (mI (0 + 1)), none]) rfl rfl rfl (by omega) rfl ?_
        refine rn_goto rfl ?_
        refine rn_iload_n (k' := 56) rfl rfl rfl ?_
        refine rn_iconst (k' := 57) rfl rfl ?_
        refine rn_icmp_ge (k' := 58) rfl rfl (fun hc4 => ?_) (fun hc4 => ?_)
        · exfalso; omega
        · skip
          refine rn_aload_n (k' := 59) rfl rfl rfl ?_
          refine rn_getR (k' := 60) rfl rfl K0_118 (by decide) rfl R0_118_8 ?_
          refine rn_iload_n (k' := 61) rfl rfl rfl ?_
          refine rn_iload_n (k' := 62) rfl rfl rfl ?_
          refine rn_iadd (k' := 63) rfl rfl (by omega) ?_
          refine rn_iconst (k' := 64) rfl rfl ?_
          refine rn_iastore (k' := 65) rfl rfl K0_122 (by omega) (by omega) ?_
          refine rn_iinc (k' := 66) (L' := [some (mR 118), some (mI (0)), some (mI (1 + (4 * (μ 118 41)))), some (mI (0 + 1 + 1)), none]) rfl rfl rfl (by omega) rfl ?_
          refine rn_goto rfl ?_
          refine rn_iload_n (k' := 56) rfl rfl rfl ?_
          refine rn_iconst (k' := 57) rfl rfl ?_
          refine rn_icmp_ge (k' := 58) rfl rfl (fun hc5 => ?_) (fun hc5 => ?_)
          · exfalso; omega
          · skip
            refine rn_aload_n (k' := 59) rfl rfl rfl ?_
            refine rn_getR (k' := 60) rfl rfl K0_118 (by decide) rfl R0_118_8 ?_
            refine rn_iload_n (k' := 61) rfl rfl rfl ?_
            refine rn_iload_n (k' := 62) rfl rfl rfl ?_
            refine rn_iadd (k' := 63) rfl rfl (by omega) ?_
            refine rn_iconst (k' := 64) rfl rfl ?_
            refine rn_iastore (k' := 65) rfl rfl K0_122 (by omega) (by omega) ?_
            refine rn_iinc (k' := 66) (L' := [some (mR 118), some (mI (0)), some (mI (1 + (4 * (μ 118 41)))), some (mI (0 + 1 + 1 + 1)), none]) rfl rfl rfl (by omega) rfl ?_
            refine rn_goto rfl ?_
            refine rn_iload_n (k' := 56) rfl rfl rfl ?_
            refine rn_iconst (k' := 57) rfl rfl ?_
            refine rn_icmp_ge (k' := 58) rfl rfl (fun hc6 => ?_) (fun hc6 => ?_)
            · exfalso; omega
            · skip
              refine rn_aload_n (k' := 59) rfl rfl rfl ?_
              refine rn_getR (k' := 60) rfl rfl K0_118 (by decide) rfl R0_118_8 ?_
              refine rn_iload_n (k' := 61) rfl rfl rfl ?_
              refine rn_iload_n (k' := 62) rfl rfl rfl ?_
              refine rn_iadd (k' := 63) rfl rfl (by omega) ?_
              refine rn_iconst (k' := 64) rfl rfl ?_
              refine rn_iastore (k' := 65) rfl rfl K0_122 (by omega) (by omega) ?_
              refine rn_iinc (k' := 66) (L' := [some (mR 118), some (mI (0)), some (mI (1 + (4 * (μ 118 41)))), some (mI (0 + 1 + 1 + 1 + 1)), none]) rfl rfl rfl (by omega) rfl ?_
              refine rn_goto rfl ?_
              refine rn_iload_n (k' := 56) rfl rfl rfl ?_
              refine rn_iconst (k' := 57) rfl rfl ?_
              refine rn_icmp_ge (k' := 58) rfl rfl (fun hc7 => ?_) (fun hc7 => ?_)
              · skip
                refine rn_aload_n (k' := 68) rfl rfl rfl ?_
                refine rn_getR (k' := 69) rfl rfl K0_118 (by decide) rfl R0_118_8 ?_
                refine rn_iload_n (k' := 70) rfl rfl rfl ?_
                refine rn_iload_n (k' := 71) rfl rfl rfl ?_
                refine rn_iastore (k' := 72) rfl rfl K0_122 (by omega) (by omega) ?_
                refine rn_aload_n (k' := 73) rfl rfl rfl ?_
                obtain ⟨Ha, ⟨hma, hfa_⟩, hca⟩ := g_next2 (μ := (m_set (m_set (m_set (m_set (m_set μ 122 (((1 + (4 * (μ 118 41))) + 0).toNat) (0)) 122 (((1 + (4 * (μ 118 41))) + (0 + 1)).toNat) (0)) 122 (((1 + (4 * (μ 118 41))) + (0 + 1 + 1)).toNat) (0)) 122 (((1 + (4 * (μ 118 41))) + (0 + 1 + 1 + 1)).toNat) (0)) 122 ((1 + (4 * (μ 118 41))).toNat) (0))) (c := c) (s := s) (b := b) (n := n) (m := m) (p := p) hM (by omega)
                have hfa : FRt Ha _ := hfa_.t
                have hM0 : MSt (m_upd (m_set (m_set (m_set (m_set (m_set μ 122 (((1 + (4 * (μ 118 41))) + 0).toNat) (0)) 122 (((1 + (4 * (μ 118 41))) + (0 + 1)).toNat) (0)) 122 (((1 + (4 * (μ 118 41))) + (0 + 1 + 1)).toNat) (0)) 122 (((1 + (4 * (μ 118 41))) + (0 + 1 + 1 + 1)).toNat) (0)) 122 ((1 + (4 * (μ 118 41))).toNat) (0)) 118 Ha) b n m (tkN b n m p) := ⟨hM.1, hM.2.1, hM.2.2.1, (tkN_b hM.2.2.2.1).2.1, hma⟩
                obtain ⟨_, _, u12, u11, _, u17, _, _⟩ := hma
                have hu : Ha 11 = 1 := by rw [u11]; exact mkk_1.mpr k0
                have hw := w0 _ (u17 k0)
                have hd := d0 _ (u17 k0)
                refine rn_callP (k' := 74) (y := 175) (vs := [mR 118]) (S' := []) (v := none) (h' := mkh (m_upd (m_set (m_set (m_set (m_set (m_set μ 122 (((1 + (4 * (μ 118 41))) + 0).toNat) (0)) 122 (((1 + (4 * (μ 118 41))) + (0 + 1)).toNat) (0)) 122 (((1 + (4 * (μ 118 41))) + (0 + 1 + 1)).toNat) (0)) 122 (((1 + (4 * (μ 118 41))) + (0 + 1 + 1 + 1)).toNat) (0)) 122 ((1 + (4 * (μ 118 41))).toNat) (0)) 118 Ha) c s) rfl rfl rfl (hca) ?_
                show Rn PT none kX12_planLine 74 [some (mR 118), some (mI (0)), some (mI (1 + (4 * (μ 118 41)))), some (mI (0 + 1 + 1 + 1 + 1)), none] [] (mkh (m_upd (m_set (m_set (m_set (m_set (m_set μ 122 (((1 + (4 * (μ 118 41))) + 0).toNat) (0)) 122 (((1 + (4 * (μ 118 41))) + (0 + 1)).toNat) (0)) 122 (((1 + (4 * (μ 118 41))) + (0 + 1 + 1)).toNat) (0)) 122 (((1 + (4 * (μ 118 41))) + (0 + 1 + 1 + 1)).toNat) (0)) 122 ((1 + (4 * (μ 118 41))).toNat) (0)) 118 Ha) c s) _
                refine rn_iload_n (k' := 75) rfl rfl rfl ?_
                refine rn_iconst (k' := 76) rfl rfl ?_
                refine rn_icmp_ne (k' := 77) rfl rfl (fun hc8 => ?_) (fun hc8 => ?_)
                · skip
                  refine rn_iload_n (k' := 80) rfl rfl rfl ?_
                  refine rn_iconst (k' := 81) rfl rfl ?_
                  refine rn_icmp_ne (k' := 82) rfl rfl (fun hc9 => ?_) (fun hc9 => ?_)
                  · skip
                    refine rn_aload_n (k' := 100) rfl rfl rfl ?_
                    refine rn_callP (k' := 101) (y := 180) (vs := [mR 118]) (S' := []) (v := some (mI (1))) (h' := mkh (m_upd (m_set (m_set (m_set (m_set (m_set μ 122 (((1 + (4 * (μ 118 41))) + 0).toNat) (0)) 122 (((1 + (4 * (μ 118 41))) + (0 + 1)).toNat) (0)) 122 (((1 + (4 * (μ 118 41))) + (0 + 1 + 1)).toNat) (0)) 122 (((1 + (4 * (μ 118 41))) + (0 + 1 + 1 + 1)).toNat) (0)) 122 ((1 + (4 * (μ 118 41))).toNat) (0)) 118 Ha) c s) rfl rfl rfl (by have hz : Cl PT 180 [mR 118] (mkh (m_upd (m_set (m_set (m_set (m_set (m_set μ 122 (((1 + (4 * (μ 118 41))) + 0).toNat) (0)) 122 (((1 + (4 * (μ 118 41))) + (0 + 1)).toNat) (0)) 122 (((1 + (4 * (μ 118 41))) + (0 + 1 + 1)).toNat) (0)) 122 (((1 + (4 * (μ 118 41))) + (0 + 1 + 1 + 1)).toNat) (0)) 122 ((1 + (4 * (μ 118 41))).toNat) (0)) 118 Ha) c s) (fun r => r = (some (some (mI (if Ha 11 = 1 ∧ ix (μ 124) (Ha 17) 16 0 = -1 then 1 else 0))), mkh (m_upd (m_set (m_set (m_set (m_set (m_set μ 122 (((1 + (4 * (μ 118 41))) + 0).toNat) (0)) 122 (((1 + (4 * (μ 118 41))) + (0 + 1)).toNat) (0)) 122 (((1 + (4 * (μ 118 41))) + (0 + 1 + 1)).toNat) (0)) 122 (((1 + (4 * (μ 118 41))) + (0 + 1 + 1 + 1)).toNat) (0)) 122 ((1 + (4 * (μ 118 41))).toNat) (0)) 118 Ha) c s)) := c_X12_isName (μ := (m_upd (m_set (m_set (m_set (m_set (m_set μ 122 (((1 + (4 * (μ 118 41))) + 0).toNat) (0)) 122 (((1 + (4 * (μ 118 41))) + (0 + 1)).toNat) (0)) 122 (((1 + (4 * (μ 118 41))) + (0 + 1 + 1)).toNat) (0)) 122 (((1 + (4 * (μ 118 41))) + (0 + 1 + 1 + 1)).toNat) (0)) 122 ((1 + (4 * (μ 118 41))).toNat) (0)) 118 Ha)) (c := c) (s := s); rw [if_pos (show Ha 11 = 1 ∧ ix (μ 124) (Ha 17) 16 0 = -1 from ⟨hu, hw⟩)] at hz; exact hz) ?_
                    show Rn PT none kX12_planLine 101 [some (mR 118), some (mI (0)), some (mI (1 + (4 * (μ 118 41)))), some (mI (0 + 1 + 1 + 1 + 1)), none] [mI (1)] (mkh (m_upd (m_set (m_set (m_set (m_set (m_set μ 122 (((1 + (4 * (μ 118 41))) + 0).toNat) (0)) 122 (((1 + (4 * (μ 118 41))) + (0 + 1)).toNat) (0)) 122 (((1 + (4 * (μ 118 41))) + (0 + 1 + 1)).toNat) (0)) 122 (((1 + (4 * (μ 118 41))) + (0 + 1 + 1 + 1)).toNat) (0)) 122 ((1 + (4 * (μ 118 41))).toNat) (0)) 118 Ha) c s) _
                    refine rn_if_ne (k' := 102) rfl rfl (fun hc10 => ?_) (fun hc10 => ?_)
                    · skip
                      refine rn_aload_n (k' := 107) rfl rfl rfl ?_
                      refine rn_iconst (k' := 108) rfl rfl ?_
                      refine rn_aload_n (k' := 109) rfl rfl rfl ?_
                      refine rn_getR (k' := 110) rfl rfl K0_118 (by decide) rfl R0_118_6 ?_
                      refine rn_bipush (k' := 111) rfl rfl ?_
                      refine rn_iaload (k' := 112) rfl rfl K0_120 (by omega) (by omega) ?_
                      show Rn PT none kX12_planLine 112 [some (mR 118), some (mI (0)), some (mI (1 + (4 * (μ 118 41)))), some (mI (0 + 1 + 1 + 1 + 1)), none] [mI (μ 120 8), mI (0), mR 118] (mkh (m_upd (m_set (m_set (m_set (m_set (m_set μ 122 (((1 + (4 * (μ 118 41))) + 0).toNat) (0)) 122 (((1 + (4 * (μ 118 41))) + (0 + 1)).toNat) (0)) 122 (((1 + (4 * (μ 118 41))) + (0 + 1 + 1)).toNat) (0)) 122 (((1 + (4 * (μ 118 41))) + (0 + 1 + 1 + 1)).toNat) (0)) 122 ((1 + (4 * (μ 118 41))).toNat) (0)) 118 Ha) c s) _
                      have hfb9 := ix_b (f := fun j => μ 123 (0 + j)) (v := Ha 17) k9 0
                      refine rn_callP (k' := 113) (y := 182) (vs := [mR 118, mI (0), mI (μ 120 8)]) (S' := []) (v := some (mI (ix (fun j => μ 123 (0 + j)) (Ha 17) k9 0))) (h' := mkh (m_upd (m_set (m_set (m_set (m_set (m_set μ 122 (((1 + (4 * (μ 118 41))) + 0).toNat) (0)) 122 (((1 + (4 * (μ 118 41))) + (0 + 1)).toNat) (0)) 122 (((1 + (4 * (μ 118 41))) + (0 + 1 + 1)).toNat) (0)) 122 (((1 + (4 * (μ 118 41))) + (0 + 1 + 1 + 1)).toNat) (0)) 122 ((1 + (4 * (μ 118 41))).toNat) (0)) 118 Ha) c s) rfl rfl rfl (by have hz := c_find (μ := (m_upd (m_set (m_set (m_set (m_set (m_set μ 122 (((1 + (4 * (μ 118 41))) + 0).toNat) (0)) 122 (((1 + (4 * (μ 118 41))) + (0 + 1)).toNat) (0)) 122 (((1 + (4 * (μ 118 41))) + (0 + 1 + 1)).toNat) (0)) 122 (((1 + (4 * (μ 118 41))) + (0 + 1 + 1 + 1)).toNat) (0)) 122 ((1 + (4 * (μ 118 41))).toNat) (0)) 118 Ha)) (c := c) (s := s) (o9 := 0) (k9 := k9) (by decide) hk9; rw [← h8] at hz; exact hz) ?_
                      show Rn PT none kX12_planLine 113 [some (mR 118), some (mI (0)), some (mI (1 + (4 * (μ 118 41)))), some (mI (0 + 1 + 1 + 1 + 1)), none] [mI (ix (fun j => μ 123 (0 + j)) (Ha 17) k9 0)] (mkh (m_upd (m_set (m_set (m_set (m_set (m_set μ 122 (((1 + (4 * (μ 118 41))) + 0).toNat) (0)) 122 (((1 + (4 * (μ 118 41))) + (0 + 1)).toNat) (0)) 122 (((1 + (4 * (μ 118 41))) + (0 + 1 + 1)).toNat) (0)) 122 (((1 + (4 * (μ 118 41))) + (0 + 1 + 1 + 1)).toNat) (0)) 122 ((1 + (4 * (μ 118 41))).toNat) (0)) 118 Ha) c s) _
                      refine rn_istore_n (k' := 114) (L' := [some (mR 118), some (mI (0)), some (mI (1 + (4 * (μ 118 41)))), some (mI (ix (fun j => μ 123 (0 + j)) (Ha 17) k9 0)), none]) rfl rfl (Nat.le_of_ble_eq_true rfl) rfl ?_
                      refine rn_iload_n (k' := 115) rfl rfl rfl ?_
                      refine rn_if_ge (k' := 116) rfl rfl (fun hc11 => ?_) (fun hc11 => ?_)
                      · skip
                        refine rn_aload_n (k' := 121) rfl rfl rfl ?_
                        refine rn_getR (k' := 122) rfl rfl K0_118 (by decide) rfl R0_118_8 ?_
                        refine rn_iload_n (k' := 123) rfl rfl rfl ?_
                        refine rn_iconst (k' := 124) rfl rfl ?_
                        refine rn_iadd (k' := 125) rfl rfl (by omega) ?_
                        refine rn_iload_n (k' := 126) rfl rfl rfl ?_
                        refine rn_iastore (k' := 127) rfl rfl K0_122 (by omega) (by omega) ?_
                        refine rn_aload_n (k' := 128) rfl rfl rfl ?_
                        obtain ⟨Hb, ⟨hmb, hfb_⟩, hcb⟩ := g_next2 (μ := (m_set (m_upd (m_set (m_set (m_set (m_set (m_set μ 122 (((1 + (4 * (μ 118 41))) + 0).toNat) (0)) 122 (((1 + (4 * (μ 118 41))) + (0 + 1)).toNat) (0)) 122 (((1 + (4 * (μ 118 41))) + (0 + 1 + 1)).toNat) (0)) 122 (((1 + (4 * (μ 118 41))) + (0 + 1 + 1 + 1)).toNat) (0)) 122 ((1 + (4 * (μ 118 41))).toNat) (0)) 118 Ha) 122 (((1 + (4 * (μ 118 41))) + 1).toNat) (ix (fun j => μ 123 (0 + j)) (Ha 17) k9 0))) (c := c) (s := s) (b := b) (n := n) (m := m) (p := (tkN b n m p)) hM0 (by omega)
                        have hfb : FRt Hb _ := hfb_.t
                        have hM1 : MSt (m_upd (m_set (m_upd (m_set (m_set (m_set (m_set (m_set μ 122 (((1 + (4 * (μ 118 41))) + 0).toNat) (0)) 122 (((1 + (4 * (μ 118 41))) + (0 + 1)).toNat) (0)) 122 (((1 + (4 * (μ 118 41))) + (0 + 1 + 1)).toNat) (0)) 122 (((1 + (4 * (μ 118 41))) + (0 + 1 + 1 + 1)).toNat) (0)) 122 ((1 + (4 * (μ 118 41))).toNat) (0)) 118 Ha) 122 (((1 + (4 * (μ 118 41))) + 1).toNat) (ix (fun j => μ 123 (0 + j)) (Ha 17) k9 0)) 118 Hb) b n m (tkN b n m (tkN b n m p)) := ⟨hM0.1, hM0.2.1, hM0.2.2.1, (tkN_b hM0.2.2.2.1).2.1, hmb⟩
                        refine rn_callP (k' := 129) (y := 175) (vs := [mR 118]) (S' := []) (v := none) (h' := mkh (m_upd (m_set (m_upd (m_set (m_set (m_set (m_set (m_set μ 122 (((1 + (4 * (μ 118 41))) + 0).toNat) (0)) 122 (((1 + (4 * (μ 118 41))) + (0 + 1)).toNat) (0)) 122 (((1 + (4 * (μ 118 41))) + (0 + 1 + 1)).toNat) (0)) 122 (((1 + (4 * (μ 118 41))) + (0 + 1 + 1 + 1)).toNat) (0)) 122 ((1 + (4 * (μ 118 41))).toNat) (0)) 118 Ha) 122 (((1 + (4 * (μ 118 41))) + 1).toNat) (ix (fun j => μ 123 (0 + j)) (Ha 17) k9 0)) 118 Hb) c s) rfl rfl rfl (hcb) ?_
                        show Rn PT none kX12_planLine 129 [some (mR 118), some (mI (0)), some (mI (1 + (4 * (μ 118 41)))), some (mI (ix (fun j => μ 123 (0 + j)) (Ha 17) k9 0)), none] [] (mkh (m_upd (m_set (m_upd (m_set (m_set (m_set (m_set (m_set μ 122 (((1 + (4 * (μ 118 41))) + 0).toNat) (0)) 122 (((1 + (4 * (μ 118 41))) + (0 + 1)).toNat) (0)) 122 (((1 + (4 * (μ 118 41))) + (0 + 1 + 1)).toNat) (0)) 122 (((1 + (4 * (μ 118 41))) + (0 + 1 + 1 + 1)).toNat) (0)) 122 ((1 + (4 * (μ 118 41))).toNat) (0)) 118 Ha) 122 (((1 + (4 * (μ 118 41))) + 1).toNat) (ix (fun j => μ 123 (0 + j)) (Ha 17) k9 0)) 118 Hb) c s) _
                        refine rn_iload_n (k' := 130) rfl rfl rfl ?_
                        refine rn_if_eq (k' := 131) rfl rfl (fun hc12 => ?_) (fun hc12 => ?_)
                        · skip
                          refine rn_aload_n (k' := 149) rfl rfl rfl ?_
                          refine rn_iconst (k' := 150) rfl rfl ?_
                          refine rn_aload_n (k' := 151) rfl rfl rfl ?_
                          refine rn_getR (k' := 152) rfl rfl K0_118 (by decide) rfl R0_118_6 ?_
                          refine rn_iconst (k' := 153) rfl rfl ?_
                          refine rn_iaload (k' := 154) rfl rfl K0_120 (by omega) (by omega) ?_
                          show Rn PT none kX12_planLine 154 [some (mR 118), some (mI (0)), some (mI (1 + (4 * (μ 118 41)))), some (mI (ix (fun j => μ 123 (0 + j)) (Ha 17) k9 0)), none] [mI (μ 120 0), mI (0), mR 118] (mkh (m_upd (m_set (m_upd (m_set (m_set (m_set (m_set (m_set μ 122 (((1 + (4 * (μ 118 41))) + 0).toNat) (0)) 122 (((1 + (4 * (μ 118 41))) + (0 + 1)).toNat) (0)) 122 (((1 + (4 * (μ 118 41))) + (0 + 1 + 1)).toNat) (0)) 122 (((1 + (4 * (μ 118 41))) + (0 + 1 + 1 + 1)).toNat) (0)) 122 ((1 + (4 * (μ 118 41))).toNat) (0)) 118 Ha) 122 (((1 + (4 * (μ 118 41))) + 1).toNat) (ix (fun j => μ 123 (0 + j)) (Ha 17) k9 0)) 118 Hb) c s) _
                          refine rn_iconst (k' := 155) rfl rfl ?_
                          refine rn_isub (k' := 156) rfl rfl (by omega) ?_
                          obtain ⟨H1, ⟨hm1, hv1, hf1⟩, hc1⟩ := g_takes (μ := (m_upd (m_set (m_upd (m_set (m_set (m_set (m_set (m_set μ 122 (((1 + (4 * (μ 118 41))) + 0).toNat) (0)) 122 (((1 + (4 * (μ 118 41))) + (0 + 1)).toNat) (0)) 122 (((1 + (4 * (μ 118 41))) + (0 + 1 + 1)).toNat) (0)) 122 (((1 + (4 * (μ 118 41))) + (0 + 1 + 1 + 1)).toNat) (0)) 122 ((1 + (4 * (μ 118 41))).toNat) (0)) 118 Ha) 122 (((1 + (4 * (μ 118 41))) + 1).toNat) (ix (fun j => μ 123 (0 + j)) (Ha 17) k9 0)) 118 Hb)) (c := c) (s := s) (b := b) (n := n) (m := m) (p := (tkN b n m (tkN b n m p))) (lo := 0) (hi := (μ 120 0) - 1) hM1 e1
                          have hM2 : MSt (m_upd (m_upd (m_set (m_upd (m_set (m_set (m_set (m_set (m_set μ 122 (((1 + (4 * (μ 118 41))) + 0).toNat) (0)) 122 (((1 + (4 * (μ 118 41))) + (0 + 1)).toNat) (0)) 122 (((1 + (4 * (μ 118 41))) + (0 + 1 + 1)).toNat) (0)) 122 (((1 + (4 * (μ 118 41))) + (0 + 1 + 1 + 1)).toNat) (0)) 122 ((1 + (4 * (μ 118 41))).toNat) (0)) 118 Ha) 122 (((1 + (4 * (μ 118 41))) + 1).toNat) (ix (fun j => μ 123 (0 + j)) (Ha 17) k9 0)) 118 Hb) 118 H1) b n m (tkN b n m (tkN b n m (tkN b n m p))) := ⟨hM1.1, hM1.2.1, hM1.2.2.1, (tkN_b hM1.2.2.2.1).2.1, hm1⟩
                          have kk1 := eN_ok e1
                          have kx1 := tk_num kk1.1
                          refine rn_callP (k' := 157) (y := 181) (vs := [mR 118, mI (0), mI ((μ 120 0) - 1)]) (S' := []) (v := some (mI (1))) (h' := mkh (m_upd (m_upd (m_set (m_upd (m_set (m_set (m_set (m_set (m_set μ 122 (((1 + (4 * (μ 118 41))) + 0).toNat) (0)) 122 (((1 + (4 * (μ 118 41))) + (0 + 1)).toNat) (0)) 122 (((1 + (4 * (μ 118 41))) + (0 + 1 + 1)).toNat) (0)) 122 (((1 + (4 * (μ 118 41))) + (0 + 1 + 1 + 1)).toNat) (0)) 122 ((1 + (4 * (μ 118 41))).toNat) (0)) 118 Ha) 122 (((1 + (4 * (μ 118 41))) + 1).toNat) (ix (fun j => μ 123 (0 + j)) (Ha 17) k9 0)) 118 Hb) 118 H1) c s) rfl rfl rfl (hc1) ?_
                          show Rn PT none kX12_planLine 157 [some (mR 118), some (mI (0)), some (mI (1 + (4 * (μ 118 41)))), some (mI (ix (fun j => μ 123 (0 + j)) (Ha 17) k9 0)), none] [mI (1)] (mkh (m_upd (m_upd (m_set (m_upd (m_set (m_set (m_set (m_set (m_set μ 122 (((1 + (4 * (μ 118 41))) + 0).toNat) (0)) 122 (((1 + (4 * (μ 118 41))) + (0 + 1)).toNat) (0)) 122 (((1 + (4 * (μ 118 41))) + (0 + 1 + 1)).toNat) (0)) 122 (((1 + (4 * (μ 118 41))) + (0 + 1 + 1 + 1)).toNat) (0)) 122 ((1 + (4 * (μ 118 41))).toNat) (0)) 118 Ha) 122 (((1 + (4 * (μ 118 41))) + 1).toNat) (ix (fun j => μ 123 (0 + j)) (Ha 17) k9 0)) 118 Hb) 118 H1) c s) _
                          refine rn_if_ne (k' := 158) rfl rfl (fun hc13 => ?_) (fun hc13 => ?_)
                          · skip
                            refine rn_aload_n (k' := 161) rfl rfl rfl ?_
                            refine rn_getI (k' := 162) rfl rfl K0_118 (by decide) rfl ?_
                            show Rn PT none kX12_planLine 162 [some (mR 118), some (mI (0)), some (mI (1 + (4 * (μ 118 41)))), some (mI (ix (fun j => μ 123 (0 + j)) (Ha 17) k9 0)), none] [mI (H1 18)] (mkh (m_upd (m_upd (m_set (m_upd (m_set (m_set (m_set (m_set (m_set μ 122 (((1 + (4 * (μ 118 41))) + 0).toNat) (0)) 122 (((1 + (4 * (μ 118 41))) + (0 + 1)).toNat) (0)) 122 (((1 + (4 * (μ 118 41))) + (0 + 1 + 1)).toNat) (0)) 122 (((1 + (4 * (μ 118 41))) + (0 + 1 + 1 + 1)).toNat) (0)) 122 ((1 + (4 * (μ 118 41))).toNat) (0)) 118 Ha) 122 (((1 + (4 * (μ 118 41))) + 1).toNat) (ix (fun j => μ 123 (0 + j)) (Ha 17) k9 0)) 118 Hb) 118 H1) c s) _
                            refine rn_istore (k' := 163) (L' := [some (mR 118), some (mI (0)), some (mI (1 + (4 * (μ 118 41)))), some (mI (ix (fun j => μ 123 (0 + j)) (Ha 17) k9 0)), some (mI (H1 18))]) rfl rfl (Nat.le_of_ble_eq_true rfl) rfl ?_
                            refine rn_aload_n (k' := 164) rfl rfl rfl ?_
                            refine rn_iconst (k' := 165) rfl rfl ?_
                            refine rn_aload_n (k' := 166) rfl rfl rfl ?_
                            refine rn_getR (k' := 167) rfl rfl K0_118 (by decide) rfl R0_118_6 ?_
                            refine rn_iconst (k' := 168) rfl rfl ?_
                            refine rn_iaload (k' := 169) rfl rfl K0_120 (by omega) (by omega) ?_
                            show Rn PT none kX12_planLine 169 [some (mR 118), some (mI (0)), some (mI (1 + (4 * (μ 118 41)))), some (mI (ix (fun j => μ 123 (0 + j)) (Ha 17) k9 0)), some (mI (H1 18))] [mI (μ 120 1), mI (0), mR 118] (mkh (m_upd (m_upd (m_set (m_upd (m_set (m_set (m_set (m_set (m_set μ 122 (((1 + (4 * (μ 118 41))) + 0).toNat) (0)) 122 (((1 + (4 * (μ 118 41))) + (0 + 1)).toNat) (0)) 122 (((1 + (4 * (μ 118 41))) + (0 + 1 + 1)).toNat) (0)) 122 (((1 + (4 * (μ 118 41))) + (0 + 1 + 1 + 1)).toNat) (0)) 122 ((1 + (4 * (μ 118 41))).toNat) (0)) 118 Ha) 122 (((1 + (4 * (μ 118 41))) + 1).toNat) (ix (fun j => μ 123 (0 + j)) (Ha 17) k9 0)) 118 Hb) 118 H1) c s) _
                            refine rn_iconst (k' := 170) rfl rfl ?_
                            refine rn_isub (k' := 171) rfl rfl (by omega) ?_
                            have hc2 := g_takesX (μ := (m_upd (m_upd (m_set (m_upd (m_set (m_set (m_set (m_set (m_set μ 122 (((1 + (4 * (μ 118 41))) + 0).toNat) (0)) 122 (((1 + (4 * (μ 118 41))) + (0 + 1)).toNat) (0)) 122 (((1 + (4 * (μ 118 41))) + (0 + 1 + 1)).toNat) (0)) 122 (((1 + (4 * (μ 118 41))) + (0 + 1 + 1 + 1)).toNat) (0)) 122 ((1 + (4 * (μ 118 41))).toNat) (0)) 118 Ha) 122 (((1 + (4 * (μ 118 41))) + 1).toNat) (ix (fun j => μ 123 (0 + j)) (Ha 17) k9 0)) 118 Hb) 118 H1)) (c := c) (s := s) (b := b) (n := n) (m := m) (p := (tkN b n m (tkN b n m (tkN b n m p)))) (lo := 0) (hi := (μ 120 1) - 1) hM2 e2
                            refine rn_callP (k' := 172) (y := 181) (vs := [mR 118, mI (0), mI ((μ 120 1) - 1)]) (S' := []) (v := some (mI (0))) (h' := mkh (m_set (m_set (m_upd (m_upd (m_set (m_upd (m_set (m_set (m_set (m_set (m_set μ 122 (((1 + (4 * (μ 118 41))) + 0).toNat) (0)) 122 (((1 + (4 * (μ 118 41))) + (0 + 1)).toNat) (0)) 122 (((1 + (4 * (μ 118 41))) + (0 + 1 + 1)).toNat) (0)) 122 (((1 + (4 * (μ 118 41))) + (0 + 1 + 1 + 1)).toNat) (0)) 122 ((1 + (4 * (μ 118 41))).toNat) (0)) 118 Ha) 122 (((1 + (4 * (μ 118 41))) + 1).toNat) (ix (fun j => μ 123 (0 + j)) (Ha 17) k9 0)) 118 Hb) 118 H1) 118 15 (eN b n m (tkN b n m (tkN b n m (tkN b n m p))) (0) ((μ 120 1) - 1))) 118 16 (((tkP b n m (tkN b n m (tkN b n m (tkN b n m p))) : Nat) : Int))) c s) rfl rfl rfl (hc2) ?_
                            show Rn PT none kX12_planLine 172 [some (mR 118), some (mI (0)), some (mI (1 + (4 * (μ 118 41)))), some (mI (ix (fun j => μ 123 (0 + j)) (Ha 17) k9 0)), some (mI (H1 18))] [mI (0)] (mkh (m_set (m_set (m_upd (m_upd (m_set (m_upd (m_set (m_set (m_set (m_set (m_set μ 122 (((1 + (4 * (μ 118 41))) + 0).toNat) (0)) 122 (((1 + (4 * (μ 118 41))) + (0 + 1)).toNat) (0)) 122 (((1 + (4 * (μ 118 41))) + (0 + 1 + 1)).toNat) (0)) 122 (((1 + (4 * (μ 118 41))) + (0 + 1 + 1 + 1)).toNat) (0)) 122 ((1 + (4 * (μ 118 41))).toNat) (0)) 118 Ha) 122 (((1 + (4 * (μ 118 41))) + 1).toNat) (ix (fun j => μ 123 (0 + j)) (Ha 17) k9 0)) 118 Hb) 118 H1) 118 15 (eN b n m (tkN b n m (tkN b n m (tkN b n m p))) (0) ((μ 120 1) - 1))) 118 16 (((tkP b n m (tkN b n m (tkN b n m (tkN b n m p))) : Nat) : Int))) c s) _
                            refine rn_if_ne (k' := 173) rfl rfl (fun hc14 => ?_) (fun hc14 => ?_)
                            · exfalso; omega
                            · skip
                              refine rn_iconst (k' := 174) rfl rfl ?_
                              refine rn_iret rfl (Or.inr (by omega)) ?_
                              exact ⟨_, rfl, rfl, rfl, (FrmQ.s (FrmQ.s (FrmQ.u (FrmQ.u (FrmQ.s2 (FrmQ.u (FrmQ.s2 (FrmQ.s2 (FrmQ.s2 (FrmQ.s2 (FrmQ.s2 FrmQ.r))))) hfa)) hfb) hf1) (by decide)) (by decide))⟩
                          · exfalso; omega
                        · exfalso; omega
                      · exfalso; omega
                    · exfalso; omega
                  · exfalso; omega
                · exfalso; omega
              · exfalso; omega
    · exfalso; omega
  · exfalso; omega
set_option maxHeartbeats 1000000 in
theorem m_pl11_had {μ : Nat → Nat → Int} {c s : Nat} {b : Nat → Int} {n m p : Nat} (hM : MSt μ b n m p) (hk : tkK b n m p = 1) {l9 : Nat} (hl : μ 118 41 = (l9 : Int)) (hl9 : l9 ≤ 30) (hl3 : ¬ l9 = 30) {k9 : Nat} (hk9 : k9 ≤ 8) (h8 : μ 120 8 = (k9 : Int)) (k0 : tkK b n m (tkN b n m p) = 1) (w0 : ∀ y, Nm (tkV b n m (tkN b n m p)) y → ix (μ 124) y 16 0 = -1) (d0 : ∀ y, Nm (tkV b n m (tkN b n m p)) y → ix (fun j => μ 123 (0 + j)) y k9 0 = -1) (c8 : 0 ≤ μ 120 0 ∧ μ 120 0 ≤ 10) (c9 : 0 ≤ μ 120 1 ∧ μ 120 1 ≤ 10) : Rn PT none kX12_planLine 32 [some (mR 118), some (mI (0)), none, none, none] [] (mkh μ c s) (fun r => ∃ ν', r = (some (some (mI 0)), mkh ν' c s) ∧ ν' 118 15 = 3 ∧ ν' 118 16 = ((tkP b n m (tkN b n m p) : Nat) : Int) ∧ FrmQ μ ν') := by
  refine rn_iload_n (k' := 33) rfl rfl rfl ?_
  refine rn_if_ge (k' := 34) rfl rfl (fun hc1 => ?_) (fun hc1 => ?_)
  · skip
    refine rn_aload_n (k' := 39) rfl rfl rfl ?_
    refine rn_getI (k' := 40) rfl rfl K0_118 (by decide) rfl ?_
    refine rn_bipush (k' := 41) rfl rfl ?_
    refine rn_icmp_ne (k' := 42) rfl rfl (fun hc2 => ?_) (fun hc2 => ?_)
    · skip
      refine rn_iconst (k' := 47) rfl rfl ?_
      refine rn_iconst (k' := 48) rfl rfl ?_
      refine rn_aload_n (k' := 49) rfl rfl rfl ?_
      refine rn_getI (k' := 50) rfl rfl K0_118 (by decide) rfl ?_
      refine rn_imul (k' := 51) rfl rfl (by omega) ?_
      refine rn_iadd (k' := 52) rfl rfl (by omega) ?_
      refine rn_istore_n (k' := 53) (L' := [some (mR 118), some (mI (0)), some (mI (1 + (4 * (μ 118 41)))), none, none]) rfl rfl (Nat.le_of_ble_eq_true rfl) rfl ?_
      refine rn_iconst (k' := 54) rfl rfl ?_
      refine rn_istore_n (k' := 55) (L' := [some (mR 118), some (mI (0)), some (mI (1 + (4 * (μ 118 41)))), some (mI (0)), none]) rfl rfl (Nat.le_of_ble_eq_true rfl) rfl ?_
      refine rn_iload_n (k' := 56) rfl rfl rfl ?_
      refine rn_iconst (k' := 57) rfl rfl ?_
      refine rn_icmp_ge (k' := 58) rfl rfl (fun hc3 => ?_) (fun hc3 => ?_)
      · exfalso; omega
      · skip
        refine rn_aload_n (k' := 59) rfl rfl rfl ?_
        refine rn_getR (k' := 60) rfl rfl K0_118 (by decide) rfl R0_118_8 ?_
        refine rn_iload_n (k' := 61) rfl rfl rfl ?_
        refine rn_iload_n (k' := 62) rfl rfl rfl ?_
        refine rn_iadd (k' := 63) rfl rfl (by omega) ?_
        refine rn_iconst (k' := 64) rfl rfl ?_
        refine rn_iastore (k' := 65) rfl rfl K0_122 (by omega) (by omega) ?_
        refine rn_iinc (k' := 66) (L' := [some (mR 118), some (mI (0)), some (mI (1 + (4 * (μ 118 41)))), some (mI (0 + 1)), none]) rfl rfl rfl (by omega) rfl ?_
        refine rn_goto rfl ?_
        refine rn_iload_n (k' := 56) rfl rfl rfl ?_
        refine rn_iconst (k' := 57) rfl rfl ?_
        refine rn_icmp_ge (k' := 58) rfl rfl (fun hc4 => ?_) (fun hc4 => ?_)
        · exfalso; omega
        · skip
          refine rn_aload_n (k' := 59) rfl rfl rfl ?_
          refine rn_getR (k' := 60) rfl rfl K0_118 (by decide) rfl R0_118_8 ?_
          refine rn_iload_n (k' := 61) rfl rfl rfl ?_
          refine rn_iload_n (k' := 62) rfl rfl rfl ?_
          refine rn_iadd (k' := 63) rfl rfl (by omega) ?_
          refine rn_iconst (k' := 64) rfl rfl ?_
          refine rn_iastore (k' := 65) rfl rfl K0_122 (by omega) (by omega) ?_
          refine rn_iinc (k' := 66) (L' := [some (mR 118), some (mI (0)), some (mI (1 + (4 * (μ 118 41)))), some (mI (0 + 1 + 1)), none]) rfl rfl rfl (by omega) rfl ?_
          refine rn_goto rfl ?_
          refine rn_iload_n (k' := 56) rfl rfl rfl ?_
          refine rn_iconst (k' := 57) rfl rfl ?_
          refine rn_icmp_ge (k' := 58) rfl rfl (fun hc5 => ?_) (fun hc5 => ?_)
          · exfalso; omega
          · skip
            refine rn_aload_n (k' := 59) rfl rfl rfl ?_
            refine rn_getR (k' := 60) rfl rfl K0_118 (by decide) rfl R0_118_8 ?_
            refine rn_iload_n (k' := 61) rfl rfl rfl ?_
            refine rn_iload_n (k' := 62) rfl rfl rfl ?_
            refine rn_iadd (k' := 63) rfl rfl (by omega) ?_
            refine rn_iconst (k' := 64) rfl rfl ?_
            refine rn_iastore (k' := 65) rfl rfl K0_122 (by omega) (by omega) ?_
            refine rn_iinc (k' := 66) (L' := [some (mR 118), some (mI (0)), some (mI (1 + (4 * (μ 118 41)))), some (mI (0 + 1 + 1 + 1)), none]) rfl rfl rfl (by omega) rfl ?_
            refine rn_goto rfl ?_
            refine rn_iload_n (k' := 56) rfl rfl rfl ?_
            refine rn_iconst (k' := 57) rfl rfl ?_
            refine rn_icmp_ge (k' := 58) rfl rfl (fun hc6 => ?_) (fun hc6 => ?_)
            · exfalso; omega
            · skip
              refine rn_aload_n (k' := 59) rfl rfl rfl ?_
              refine rn_getR (k' := 60) rfl rfl K0_118 (by decide) rfl R0_118_8 ?_
              refine rn_iload_n (k' := 61) rfl rfl rfl ?_
              refine rn_iload_n (k' := 62) rfl rfl rfl ?_
              refine rn_iadd (k' := 63) rfl rfl (by omega) ?_
              refine rn_iconst (k' := 64) rfl rfl ?_
              refine rn_iastore (k' := 65) rfl rfl K0_122 (by omega) (by omega) ?_
              refine rn_iinc (k' := 66) (L' := [some (mR 118), some (mI (0)), some (mI (1 + (4 * (μ 118 41)))), some (mI (0 + 1 + 1 + 1 + 1)), none]) rfl rfl rfl (by omega) rfl ?_
              refine rn_goto rfl ?_
              refine rn_iload_n (k' := 56) rfl rfl rfl ?_
              refine rn_iconst (k' := 57) rfl rfl ?_
              refine rn_icmp_ge (k' := 58) rfl rfl (fun hc7 => ?_) (fun hc7 => ?_)
              · skip
                refine rn_aload_n (k' := 68) rfl rfl rfl ?_
                refine rn_getR (k' := 69) rfl rfl K0_118 (by decide) rfl R0_118_8 ?_
                refine rn_iload_n (k' := 70) rfl rfl rfl ?_
                refine rn_iload_n (k' := 71) rfl rfl rfl ?_
                refine rn_iastore (k' := 72) rfl rfl K0_122 (by omega) (by omega) ?_
                refine rn_aload_n (k' := 73) rfl rfl rfl ?_
                obtain ⟨Ha, ⟨hma, hfa_⟩, hca⟩ := g_next2 (μ := (m_set (m_set (m_set (m_set (m_set μ 122 (((1 + (4 * (μ 118 41))) + 0).toNat) (0)) 122 (((1 + (4 * (μ 118 41))) + (0 + 1)).toNat) (0)) 122 (((1 + (4 * (μ 118 41))) + (0 + 1 + 1)).toNat) (0)) 122 (((1 + (4 * (μ 118 41))) + (0 + 1 + 1 + 1)).toNat) (0)) 122 ((1 + (4 * (μ 118 41))).toNat) (0))) (c := c) (s := s) (b := b) (n := n) (m := m) (p := p) hM (by omega)
                have hfa : FRt Ha _ := hfa_.t
                have hM0 : MSt (m_upd (m_set (m_set (m_set (m_set (m_set μ 122 (((1 + (4 * (μ 118 41))) + 0).toNat) (0)) 122 (((1 + (4 * (μ 118 41))) + (0 + 1)).toNat) (0)) 122 (((1 + (4 * (μ 118 41))) + (0 + 1 + 1)).toNat) (0)) 122 (((1 + (4 * (μ 118 41))) + (0 + 1 + 1 + 1)).toNat) (0)) 122 ((1 + (4 * (μ 118 41))).toNat) (0)) 118 Ha) b n m (tkN b n m p) := ⟨hM.1, hM.2.1, hM.2.2.1, (tkN_b hM.2.2.2.1).2.1, hma⟩
                obtain ⟨_, _, u12, u11, _, u17, _, _⟩ := hma
                have hu : Ha 11 = 1 := by rw [u11]; exact mkk_1.mpr k0
                have hw := w0 _ (u17 k0)
                have hd := d0 _ (u17 k0)
                refine rn_callP (k' := 74) (y := 175) (vs := [mR 118]) (S' := []) (v := none) (h' := mkh (m_upd (m_set (m_set (m_set (m_set (m_set μ 122 (((1 + (4 * (μ 118 41))) + 0).toNat) (0)) 122 (((1 + (4 * (μ 118 41))) + (0 + 1)).toNat) (0)) 122 (((1 + (4 * (μ 118 41))) + (0 + 1 + 1)).toNat) (0)) 122 (((1 + (4 * (μ 118 41))) + (0 + 1 + 1 + 1)).toNat) (0)) 122 ((1 + (4 * (μ 118 41))).toNat) (0)) 118 Ha) c s) rfl rfl rfl (hca) ?_
                show Rn PT none kX12_planLine 74 [some (mR 118), some (mI (0)), some (mI (1 + (4 * (μ 118 41)))), some (mI (0 + 1 + 1 + 1 + 1)), none] [] (mkh (m_upd (m_set (m_set (m_set (m_set (m_set μ 122 (((1 + (4 * (μ 118 41))) + 0).toNat) (0)) 122 (((1 + (4 * (μ 118 41))) + (0 + 1)).toNat) (0)) 122 (((1 + (4 * (μ 118 41))) + (0 + 1 + 1)).toNat) (0)) 122 (((1 + (4 * (μ 118 41))) + (0 + 1 + 1 + 1)).toNat) (0)) 122 ((1 + (4 * (μ 118 41))).toNat) (0)) 118 Ha) c s) _
                refine rn_iload_n (k' := 75) rfl rfl rfl ?_
                refine rn_iconst (k' := 76) rfl rfl ?_
                refine rn_icmp_ne (k' := 77) rfl rfl (fun hc8 => ?_) (fun hc8 => ?_)
                · skip
                  refine rn_iload_n (k' := 80) rfl rfl rfl ?_
                  refine rn_iconst (k' := 81) rfl rfl ?_
                  refine rn_icmp_ne (k' := 82) rfl rfl (fun hc9 => ?_) (fun hc9 => ?_)
                  · skip
                    refine rn_aload_n (k' := 100) rfl rfl rfl ?_
                    refine rn_callP (k' := 101) (y := 180) (vs := [mR 118]) (S' := []) (v := some (mI (1))) (h' := mkh (m_upd (m_set (m_set (m_set (m_set (m_set μ 122 (((1 + (4 * (μ 118 41))) + 0).toNat) (0)) 122 (((1 + (4 * (μ 118 41))) + (0 + 1)).toNat) (0)) 122 (((1 + (4 * (μ 118 41))) + (0 + 1 + 1)).toNat) (0)) 122 (((1 + (4 * (μ 118 41))) + (0 + 1 + 1 + 1)).toNat) (0)) 122 ((1 + (4 * (μ 118 41))).toNat) (0)) 118 Ha) c s) rfl rfl rfl (by have hz : Cl PT 180 [mR 118] (mkh (m_upd (m_set (m_set (m_set (m_set (m_set μ 122 (((1 + (4 * (μ 118 41))) + 0).toNat) (0)) 122 (((1 + (4 * (μ 118 41))) + (0 + 1)).toNat) (0)) 122 (((1 + (4 * (μ 118 41))) + (0 + 1 + 1)).toNat) (0)) 122 (((1 + (4 * (μ 118 41))) + (0 + 1 + 1 + 1)).toNat) (0)) 122 ((1 + (4 * (μ 118 41))).toNat) (0)) 118 Ha) c s) (fun r => r = (some (some (mI (if Ha 11 = 1 ∧ ix (μ 124) (Ha 17) 16 0 = -1 then 1 else 0))), mkh (m_upd (m_set (m_set (m_set (m_set (m_set μ 122 (((1 + (4 * (μ 118 41))) + 0).toNat) (0)) 122 (((1 + (4 * (μ 118 41))) + (0 + 1)).toNat) (0)) 122 (((1 + (4 * (μ 118 41))) + (0 + 1 + 1)).toNat) (0)) 122 (((1 + (4 * (μ 118 41))) + (0 + 1 + 1 + 1)).toNat) (0)) 122 ((1 + (4 * (μ 118 41))).toNat) (0)) 118 Ha) c s)) := c_X12_isName (μ := (m_upd (m_set (m_set (m_set (m_set (m_set μ 122 (((1 + (4 * (μ 118 41))) + 0).toNat) (0)) 122 (((1 + (4 * (μ 118 41))) + (0 + 1)).toNat) (0)) 122 (((1 + (4 * (μ 118 41))) + (0 + 1 + 1)).toNat) (0)) 122 (((1 + (4 * (μ 118 41))) + (0 + 1 + 1 + 1)).toNat) (0)) 122 ((1 + (4 * (μ 118 41))).toNat) (0)) 118 Ha)) (c := c) (s := s); rw [if_pos (show Ha 11 = 1 ∧ ix (μ 124) (Ha 17) 16 0 = -1 from ⟨hu, hw⟩)] at hz; exact hz) ?_
                    show Rn PT none kX12_planLine 101 [some (mR 118), some (mI (0)), some (mI (1 + (4 * (μ 118 41)))), some (mI (0 + 1 + 1 + 1 + 1)), none] [mI (1)] (mkh (m_upd (m_set (m_set (m_set (m_set (m_set μ 122 (((1 + (4 * (μ 118 41))) + 0).toNat) (0)) 122 (((1 + (4 * (μ 118 41))) + (0 + 1)).toNat) (0)) 122 (((1 + (4 * (μ 118 41))) + (0 + 1 + 1)).toNat) (0)) 122 (((1 + (4 * (μ 118 41))) + (0 + 1 + 1 + 1)).toNat) (0)) 122 ((1 + (4 * (μ 118 41))).toNat) (0)) 118 Ha) c s) _
                    refine rn_if_ne (k' := 102) rfl rfl (fun hc10 => ?_) (fun hc10 => ?_)
                    · skip
                      refine rn_aload_n (k' := 107) rfl rfl rfl ?_
                      refine rn_iconst (k' := 108) rfl rfl ?_
                      refine rn_aload_n (k' := 109) rfl rfl rfl ?_
                      refine rn_getR (k' := 110) rfl rfl K0_118 (by decide) rfl R0_118_6 ?_
                      refine rn_bipush (k' := 111) rfl rfl ?_
                      refine rn_iaload (k' := 112) rfl rfl K0_120 (by omega) (by omega) ?_
                      show Rn PT none kX12_planLine 112 [some (mR 118), some (mI (0)), some (mI (1 + (4 * (μ 118 41)))), some (mI (0 + 1 + 1 + 1 + 1)), none] [mI (μ 120 8), mI (0), mR 118] (mkh (m_upd (m_set (m_set (m_set (m_set (m_set μ 122 (((1 + (4 * (μ 118 41))) + 0).toNat) (0)) 122 (((1 + (4 * (μ 118 41))) + (0 + 1)).toNat) (0)) 122 (((1 + (4 * (μ 118 41))) + (0 + 1 + 1)).toNat) (0)) 122 (((1 + (4 * (μ 118 41))) + (0 + 1 + 1 + 1)).toNat) (0)) 122 ((1 + (4 * (μ 118 41))).toNat) (0)) 118 Ha) c s) _
                      have hfb9 := ix_b (f := fun j => μ 123 (0 + j)) (v := Ha 17) k9 0
                      refine rn_callP (k' := 113) (y := 182) (vs := [mR 118, mI (0), mI (μ 120 8)]) (S' := []) (v := some (mI (ix (fun j => μ 123 (0 + j)) (Ha 17) k9 0))) (h' := mkh (m_upd (m_set (m_set (m_set (m_set (m_set μ 122 (((1 + (4 * (μ 118 41))) + 0).toNat) (0)) 122 (((1 + (4 * (μ 118 41))) + (0 + 1)).toNat) (0)) 122 (((1 + (4 * (μ 118 41))) + (0 + 1 + 1)).toNat) (0)) 122 (((1 + (4 * (μ 118 41))) + (0 + 1 + 1 + 1)).toNat) (0)) 122 ((1 + (4 * (μ 118 41))).toNat) (0)) 118 Ha) c s) rfl rfl rfl (by have hz := c_find (μ := (m_upd (m_set (m_set (m_set (m_set (m_set μ 122 (((1 + (4 * (μ 118 41))) + 0).toNat) (0)) 122 (((1 + (4 * (μ 118 41))) + (0 + 1)).toNat) (0)) 122 (((1 + (4 * (μ 118 41))) + (0 + 1 + 1)).toNat) (0)) 122 (((1 + (4 * (μ 118 41))) + (0 + 1 + 1 + 1)).toNat) (0)) 122 ((1 + (4 * (μ 118 41))).toNat) (0)) 118 Ha)) (c := c) (s := s) (o9 := 0) (k9 := k9) (by decide) hk9; rw [← h8] at hz; exact hz) ?_
                      show Rn PT none kX12_planLine 113 [some (mR 118), some (mI (0)), some (mI (1 + (4 * (μ 118 41)))), some (mI (0 + 1 + 1 + 1 + 1)), none] [mI (ix (fun j => μ 123 (0 + j)) (Ha 17) k9 0)] (mkh (m_upd (m_set (m_set (m_set (m_set (m_set μ 122 (((1 + (4 * (μ 118 41))) + 0).toNat) (0)) 122 (((1 + (4 * (μ 118 41))) + (0 + 1)).toNat) (0)) 122 (((1 + (4 * (μ 118 41))) + (0 + 1 + 1)).toNat) (0)) 122 (((1 + (4 * (μ 118 41))) + (0 + 1 + 1 + 1)).toNat) (0)) 122 ((1 + (4 * (μ 118 41))).toNat) (0)) 118 Ha) c s) _
                      refine rn_istore_n (k' := 114) (L' := [some (mR 118), some (mI (0)), some (mI (1 + (4 * (μ 118 41)))), some (mI (ix (fun j => μ 123 (0 + j)) (Ha 17) k9 0)), none]) rfl rfl (Nat.le_of_ble_eq_true rfl) rfl ?_
                      refine rn_iload_n (k' := 115) rfl rfl rfl ?_
                      refine rn_if_ge (k' := 116) rfl rfl (fun hc11 => ?_) (fun hc11 => ?_)
                      · exfalso; omega
                      · skip
                        refine rn_aload_n (k' := 117) rfl rfl rfl ?_
                        refine rn_iconst (k' := 118) rfl rfl ?_
                        refine rn_callP (k' := 119) (y := 176) (vs := [mR 118, mI (3)]) (S' := []) (v := some (mI (0))) (h' := mkh (m_set (m_set (m_upd (m_set (m_set (m_set (m_set (m_set μ 122 (((1 + (4 * (μ 118 41))) + 0).toNat) (0)) 122 (((1 + (4 * (μ 118 41))) + (0 + 1)).toNat) (0)) 122 (((1 + (4 * (μ 118 41))) + (0 + 1 + 1)).toNat) (0)) 122 (((1 + (4 * (μ 118 41))) + (0 + 1 + 1 + 1)).toNat) (0)) 122 ((1 + (4 * (μ 118 41))).toNat) (0)) 118 Ha) 118 15 (3)) 118 16 (Ha 12)) c s) rfl rfl rfl (g_bad (μ := (m_upd (m_set (m_set (m_set (m_set (m_set μ 122 (((1 + (4 * (μ 118 41))) + 0).toNat) (0)) 122 (((1 + (4 * (μ 118 41))) + (0 + 1)).toNat) (0)) 122 (((1 + (4 * (μ 118 41))) + (0 + 1 + 1)).toNat) (0)) 122 (((1 + (4 * (μ 118 41))) + (0 + 1 + 1 + 1)).toNat) (0)) 122 ((1 + (4 * (μ 118 41))).toNat) (0)) 118 Ha)) (e := 3)) ?_
                        show Rn PT none kX12_planLine 119 [some (mR 118), some (mI (0)), some (mI (1 + (4 * (μ 118 41)))), some (mI (ix (fun j => μ 123 (0 + j)) (Ha 17) k9 0)), none] [mI (0)] (mkh (m_set (m_set (m_upd (m_set (m_set (m_set (m_set (m_set μ 122 (((1 + (4 * (μ 118 41))) + 0).toNat) (0)) 122 (((1 + (4 * (μ 118 41))) + (0 + 1)).toNat) (0)) 122 (((1 + (4 * (μ 118 41))) + (0 + 1 + 1)).toNat) (0)) 122 (((1 + (4 * (μ 118 41))) + (0 + 1 + 1 + 1)).toNat) (0)) 122 ((1 + (4 * (μ 118 41))).toNat) (0)) 118 Ha) 118 15 (3)) 118 16 (Ha 12)) c s) _
                        refine rn_iret rfl (Or.inr (by omega)) ?_
                        exact ⟨_, rfl, rfl, u12, (FrmQ.s (FrmQ.s (FrmQ.u (FrmQ.s2 (FrmQ.s2 (FrmQ.s2 (FrmQ.s2 (FrmQ.s2 FrmQ.r))))) hfa) (by decide)) (by decide))⟩
                    · exfalso; omega
                  · exfalso; omega
                · exfalso; omega
              · exfalso; omega
    · exfalso; omega
  · exfalso; omega
set_option maxHeartbeats 1000000 in
theorem m_pl11_full {μ : Nat → Nat → Int} {c s : Nat} {b : Nat → Int} {n m p : Nat} (hM : MSt μ b n m p) (hk : tkK b n m p = 1) {l9 : Nat} (hl : μ 118 41 = (l9 : Int)) (hl9 : l9 ≤ 30) (hl3 : l9 = 30) : Rn PT none kX12_planLine 32 [some (mR 118), some (mI (0)), none, none, none] [] (mkh μ c s) (fun r => ∃ ν', r = (some (some (mI 0)), mkh ν' c s) ∧ ν' 118 15 = 4 ∧ ν' 118 16 = ((tkP b n m p : Nat) : Int) ∧ FrmQ μ ν') := by
  refine rn_iload_n (k' := 33) rfl rfl rfl ?_
  refine rn_if_ge (k' := 34) rfl rfl (fun hc1 => ?_) (fun hc1 => ?_)
  · skip
    refine rn_aload_n (k' := 39) rfl rfl rfl ?_
    refine rn_getI (k' := 40) rfl rfl K0_118 (by decide) rfl ?_
    refine rn_bipush (k' := 41) rfl rfl ?_
    refine rn_icmp_ne (k' := 42) rfl rfl (fun hc2 => ?_) (fun hc2 => ?_)
    · exfalso; omega
    · skip
      refine rn_aload_n (k' := 43) rfl rfl rfl ?_
      refine rn_iconst (k' := 44) rfl rfl ?_
      refine rn_callP (k' := 45) (y := 176) (vs := [mR 118, mI (4)]) (S' := []) (v := some (mI (0))) (h' := mkh (m_set (m_set μ 118 15 (4)) 118 16 (μ 118 12)) c s) rfl rfl rfl (g_bad (μ := μ) (e := 4)) ?_
      show Rn PT none kX12_planLine 45 [some (mR 118), some (mI (0)), none, none, none] [mI (0)] (mkh (m_set (m_set μ 118 15 (4)) 118 16 (μ 118 12)) c s) _
      refine rn_iret rfl (Or.inr (by omega)) ?_
      exact ⟨_, rfl, rfl, hM.2.2.2.2.2.2.1, (FrmQ.s (FrmQ.s FrmQ.r (by decide)) (by decide))⟩
  · exfalso; omega
set_option maxHeartbeats 1000000 in
theorem m_pl11_ok {μ : Nat → Nat → Int} {c s : Nat} {b : Nat → Int} {n m p : Nat} (hM : MSt μ b n m p) (hk : tkK b n m p = 1) {l9 : Nat} (hl : μ 118 41 = (l9 : Int)) (hl9 : l9 ≤ 30) (hl3 : ¬ l9 = 30) {k9 : Nat} (hk9 : k9 ≤ 8) (h8 : μ 120 8 = (k9 : Int)) (k0 : tkK b n m (tkN b n m p) = 1) (w0 : ∀ y, Nm (tkV b n m (tkN b n m p)) y → ix (μ 124) y 16 0 = -1) (d0 : ∀ y, Nm (tkV b n m (tkN b n m p)) y → ¬ ix (fun j => μ 123 (0 + j)) y k9 0 = -1) (c8 : 0 ≤ μ 120 0 ∧ μ 120 0 ≤ 10) (c9 : 0 ≤ μ 120 1 ∧ μ 120 1 ≤ 10) (e1 : eN b n m (tkN b n m (tkN b n m p)) 0 (μ 120 0 - 1) = 0) (e2 : eN b n m (tkN b n m (tkN b n m (tkN b n m p))) 0 (μ 120 1 - 1) = 0) : Rn PT none kX12_planLine 32 [some (mR 118), some (mI (0)), none, none, none] [] (mkh μ c s) (fun r => ∃ ν', r = (some (some (mI 1)), mkh ν' c s) ∧ MSt ν' b n m (tkN b n m (tkN b n m (tkN b n m (tkN b n m p)))) ∧ FrmQ μ ν' ∧ ν' 118 15 = μ 118 15 ∧ ν' 122 (1 + 4 * l9) = 0 ∧ (∃ y, Nm (tkV b n m (tkN b n m p)) y ∧ ν' 122 (2 + 4 * l9) = ix (fun j => μ 123 (0 + j)) y k9 0) ∧ ν' 122 (3 + 4 * l9) = 10 * tkV b n m (tkN b n m (tkN b n m (tkN b n m p))) + tkV b n m (tkN b n m (tkN b n m p)) ∧ (∀ j, j < 1 + 4 * l9 → ν' 122 j = μ 122 j)) := by
  refine rn_iload_n (k' := 33) rfl rfl rfl ?_
  refine rn_if_ge (k' := 34) rfl rfl (fun hc1 => ?_) (fun hc1 => ?_)
  · skip
    refine rn_aload_n (k' := 39) rfl rfl rfl ?_
    refine rn_getI (k' := 40) rfl rfl K0_118 (by decide) rfl ?_
    refine rn_bipush (k' := 41) rfl rfl ?_
    refine rn_icmp_ne (k' := 42) rfl rfl (fun hc2 => ?_) (fun hc2 => ?_)
    · skip
      refine rn_iconst (k' := 47) rfl rfl ?_
      refine rn_iconst (k' := 48) rfl rfl ?_
      refine rn_aload_n (k' := 49) rfl rfl rfl ?_
      refine rn_getI (k' := 50) rfl rfl K0_118 (by decide) rfl ?_
      refine rn_imul (k' := 51) rfl rfl (by omega) ?_
      refine rn_iadd (k' := 52) rfl rfl (by omega) ?_
      refine rn_istore_n (k' := 53) (L' := [some (mR 118), some (mI (0)), some (mI (1 + (4 * (μ 118 41)))), none, none]) rfl rfl (Nat.le_of_ble_eq_true rfl) rfl ?_
      refine rn_iconst (k' := 54) rfl rfl ?_
      refine rn_istore_n (k' := 55) (L' := [some (mR 118), some (mI (0)), some (mI (1 + (4 * (μ 118 41)))), some (mI (0)), none]) rfl rfl (Nat.le_of_ble_eq_true rfl) rfl ?_
      refine rn_iload_n (k' := 56) rfl rfl rfl ?_
      refine rn_iconst (k' := 57) rfl rfl ?_
      refine rn_icmp_ge (k' := 58) rfl rfl (fun hc3 => ?_) (fun hc3 => ?_)
      · exfalso; omega
      · skip
        refine rn_aload_n (k' := 59) rfl rfl rfl ?_
        refine rn_getR (k' := 60) rfl rfl K0_118 (by decide) rfl R0_118_8 ?_
        refine rn_iload_n (k' := 61) rfl rfl rfl ?_
        refine rn_iload_n (k' := 62) rfl rfl rfl ?_
        refine rn_iadd (k' := 63) rfl rfl (by omega) ?_
        refine rn_iconst (k' := 64) rfl rfl ?_
        refine rn_iastore (k' := 65) rfl rfl K0_122 (by omega) (by omega) ?_
        refine rn_iinc (k' := 66) (L' := [some (mR 118), some (mI (0)), some (mI (1 + (4 * (μ 118 41)))), some (mI (0 + 1)), none]) rfl rfl rfl (by omega) rfl ?_
        refine rn_goto rfl ?_
        refine rn_iload_n (k' := 56) rfl rfl rfl ?_
        refine rn_iconst (k' := 57) rfl rfl ?_
        refine rn_icmp_ge (k' := 58) rfl rfl (fun hc4 => ?_) (fun hc4 => ?_)
        · exfalso; omega
        · skip
          refine rn_aload_n (k' := 59) rfl rfl rfl ?_
          refine rn_getR (k' := 60) rfl rfl K0_118 (by decide) rfl R0_118_8 ?_
          refine rn_iload_n (k' := 61) rfl rfl rfl ?_
          refine rn_iload_n (k' := 62) rfl rfl rfl ?_
          refine rn_iadd (k' := 63) rfl rfl (by omega) ?_
          refine rn_iconst (k' := 64) rfl rfl ?_
          refine rn_iastore (k' := 65) rfl rfl K0_122 (by omega) (by omega) ?_
          refine rn_iinc (k' := 66) (L' := [some (mR 118), some (mI (0)), some (mI (1 + (4 * (μ 118 41)))), some (mI (0 + 1 + 1)), none]) rfl rfl rfl (by omega) rfl ?_
          refine rn_goto rfl ?_
          refine rn_iload_n (k' := 56) rfl rfl rfl ?_
          refine rn_iconst (k' := 57) rfl rfl ?_
          refine rn_icmp_ge (k' := 58) rfl rfl (fun hc5 => ?_) (fun hc5 => ?_)
          · exfalso; omega
          · skip
            refine rn_aload_n (k' := 59) rfl rfl rfl ?_
            refine rn_getR (k' := 60) rfl rfl K0_118 (by decide) rfl R0_118_8 ?_
            refine rn_iload_n (k' := 61) rfl rfl rfl ?_
            refine rn_iload_n (k' := 62) rfl rfl rfl ?_
            refine rn_iadd (k' := 63) rfl rfl (by omega) ?_
            refine rn_iconst (k' := 64) rfl rfl ?_
            refine rn_iastore (k' := 65) rfl rfl K0_122 (by omega) (by omega) ?_
            refine rn_iinc (k' := 66) (L' := [some (mR 118), some (mI (0)), some (mI (1 + (4 * (μ 118 41)))), some (mI (0 + 1 + 1 + 1)), none]) rfl rfl rfl (by omega) rfl ?_
            refine rn_goto rfl ?_
            refine rn_iload_n (k' := 56) rfl rfl rfl ?_
            refine rn_iconst (k' := 57) rfl rfl ?_
            refine rn_icmp_ge (k' := 58) rfl rfl (fun hc6 => ?_) (fun hc6 => ?_)
            · exfalso; omega
            · skip
              refine rn_aload_n (k' := 59) rfl rfl rfl ?_
              refine rn_getR (k' := 60) rfl rfl K0_118 (by decide) rfl R0_118_8 ?_
              refine rn_iload_n (k' := 61) rfl rfl rfl ?_
              refine rn_iload_n (k' := 62) rfl rfl rfl ?_
              refine rn_iadd (k' := 63) rfl rfl (by omega) ?_
              refine rn_iconst (k' := 64) rfl rfl ?_
              refine rn_iastore (k' := 65) rfl rfl K0_122 (by omega) (by omega) ?_
              refine rn_iinc (k' := 66) (L' := [some (mR 118), some (mI (0)), some (mI (1 + (4 * (μ 118 41)))), some (mI (0 + 1 + 1 + 1 + 1)), none]) rfl rfl rfl (by omega) rfl ?_
              refine rn_goto rfl ?_
              refine rn_iload_n (k' := 56) rfl rfl rfl ?_
              refine rn_iconst (k' := 57) rfl rfl ?_
              refine rn_icmp_ge (k' := 58) rfl rfl (fun hc7 => ?_) (fun hc7 => ?_)
              · skip
                refine rn_aload_n (k' := 68) rfl rfl rfl ?_
                refine rn_getR (k' := 69) rfl rfl K0_118 (by decide) rfl R0_118_8 ?_
                refine rn_iload_n (k' := 70) rfl rfl rfl ?_
                refine rn_iload_n (k' := 71) rfl rfl rfl ?_
                refine rn_iastore (k' := 72) rfl rfl K0_122 (by omega) (by omega) ?_
                refine rn_aload_n (k' := 73) rfl rfl rfl ?_
                obtain ⟨Ha, ⟨hma, hfa_⟩, hca⟩ := g_next2 (μ := (m_set (m_set (m_set (m_set (m_set μ 122 (((1 + (4 * (μ 118 41))) + 0).toNat) (0)) 122 (((1 + (4 * (μ 118 41))) + (0 + 1)).toNat) (0)) 122 (((1 + (4 * (μ 118 41))) + (0 + 1 + 1)).toNat) (0)) 122 (((1 + (4 * (μ 118 41))) + (0 + 1 + 1 + 1)).toNat) (0)) 122 ((1 + (4 * (μ 118 41))).toNat) (0))) (c := c) (s := s) (b := b) (n := n) (m := m) (p := p) hM (by omega)
                have hfa : FRt Ha _ := hfa_.t
                have hM0 : MSt (m_upd (m_set (m_set (m_set (m_set (m_set μ 122 (((1 + (4 * (μ 118 41))) + 0).toNat) (0)) 122 (((1 + (4 * (μ 118 41))) + (0 + 1)).toNat) (0)) 122 (((1 + (4 * (μ 118 41))) + (0 + 1 + 1)).toNat) (0)) 122 (((1 + (4 * (μ 118 41))) + (0 + 1 + 1 + 1)).toNat) (0)) 122 ((1 + (4 * (μ 118 41))).toNat) (0)) 118 Ha) b n m (tkN b n m p) := ⟨hM.1, hM.2.1, hM.2.2.1, (tkN_b hM.2.2.2.1).2.1, hma⟩
                obtain ⟨_, _, u12, u11, _, u17, _, _⟩ := hma
                have hu : Ha 11 = 1 := by rw [u11]; exact mkk_1.mpr k0
                have hw := w0 _ (u17 k0)
                have hd := d0 _ (u17 k0)
                refine rn_callP (k' := 74) (y := 175) (vs := [mR 118]) (S' := []) (v := none) (h' := mkh (m_upd (m_set (m_set (m_set (m_set (m_set μ 122 (((1 + (4 * (μ 118 41))) + 0).toNat) (0)) 122 (((1 + (4 * (μ 118 41))) + (0 + 1)).toNat) (0)) 122 (((1 + (4 * (μ 118 41))) + (0 + 1 + 1)).toNat) (0)) 122 (((1 + (4 * (μ 118 41))) + (0 + 1 + 1 + 1)).toNat) (0)) 122 ((1 + (4 * (μ 118 41))).toNat) (0)) 118 Ha) c s) rfl rfl rfl (hca) ?_
                show Rn PT none kX12_planLine 74 [some (mR 118), some (mI (0)), some (mI (1 + (4 * (μ 118 41)))), some (mI (0 + 1 + 1 + 1 + 1)), none] [] (mkh (m_upd (m_set (m_set (m_set (m_set (m_set μ 122 (((1 + (4 * (μ 118 41))) + 0).toNat) (0)) 122 (((1 + (4 * (μ 118 41))) + (0 + 1)).toNat) (0)) 122 (((1 + (4 * (μ 118 41))) + (0 + 1 + 1)).toNat) (0)) 122 (((1 + (4 * (μ 118 41))) + (0 + 1 + 1 + 1)).toNat) (0)) 122 ((1 + (4 * (μ 118 41))).toNat) (0)) 118 Ha) c s) _
                refine rn_iload_n (k' := 75) rfl rfl rfl ?_
                refine rn_iconst (k' := 76) rfl rfl ?_
                refine rn_icmp_ne (k' := 77) rfl rfl (fun hc8 => ?_) (fun hc8 => ?_)
                · skip
                  refine rn_iload_n (k' := 80) rfl rfl rfl ?_
                  refine rn_iconst (k' := 81) rfl rfl ?_
                  refine rn_icmp_ne (k' := 82) rfl rfl (fun hc9 => ?_) (fun hc9 => ?_)
                  · skip
                    refine rn_aload_n (k' := 100) rfl rfl rfl ?_
                    refine rn_callP (k' := 101) (y := 180) (vs := [mR 118]) (S' := []) (v := some (mI (1))) (h' := mkh (m_upd (m_set (m_set (m_set (m_set (m_set μ 122 (((1 + (4 * (μ 118 41))) + 0).toNat) (0)) 122 (((1 + (4 * (μ 118 41))) + (0 + 1)).toNat) (0)) 122 (((1 + (4 * (μ 118 41))) + (0 + 1 + 1)).toNat) (0)) 122 (((1 + (4 * (μ 118 41))) + (0 + 1 + 1 + 1)).toNat) (0)) 122 ((1 + (4 * (μ 118 41))).toNat) (0)) 118 Ha) c s) rfl rfl rfl (by have hz : Cl PT 180 [mR 118] (mkh (m_upd (m_set (m_set (m_set (m_set (m_set μ 122 (((1 + (4 * (μ 118 41))) + 0).toNat) (0)) 122 (((1 + (4 * (μ 118 41))) + (0 + 1)).toNat) (0)) 122 (((1 + (4 * (μ 118 41))) + (0 + 1 + 1)).toNat) (0)) 122 (((1 + (4 * (μ 118 41))) + (0 + 1 + 1 + 1)).toNat) (0)) 122 ((1 + (4 * (μ 118 41))).toNat) (0)) 118 Ha) c s) (fun r => r = (some (some (mI (if Ha 11 = 1 ∧ ix (μ 124) (Ha 17) 16 0 = -1 then 1 else 0))), mkh (m_upd (m_set (m_set (m_set (m_set (m_set μ 122 (((1 + (4 * (μ 118 41))) + 0).toNat) (0)) 122 (((1 + (4 * (μ 118 41))) + (0 + 1)).toNat) (0)) 122 (((1 + (4 * (μ 118 41))) + (0 + 1 + 1)).toNat) (0)) 122 (((1 + (4 * (μ 118 41))) + (0 + 1 + 1 + 1)).toNat) (0)) 122 ((1 + (4 * (μ 118 41))).toNat) (0)) 118 Ha) c s)) := c_X12_isName (μ := (m_upd (m_set (m_set (m_set (m_set (m_set μ 122 (((1 + (4 * (μ 118 41))) + 0).toNat) (0)) 122 (((1 + (4 * (μ 118 41))) + (0 + 1)).toNat) (0)) 122 (((1 + (4 * (μ 118 41))) + (0 + 1 + 1)).toNat) (0)) 122 (((1 + (4 * (μ 118 41))) + (0 + 1 + 1 + 1)).toNat) (0)) 122 ((1 + (4 * (μ 118 41))).toNat) (0)) 118 Ha)) (c := c) (s := s); rw [if_pos (show Ha 11 = 1 ∧ ix (μ 124) (Ha 17) 16 0 = -1 from ⟨hu, hw⟩)] at hz; exact hz) ?_
                    show Rn PT none kX12_planLine 101 [some (mR 118), some (mI (0)), some (mI (1 + (4 * (μ 118 41)))), some (mI (0 + 1 + 1 + 1 + 1)), none] [mI (1)] (mkh (m_upd (m_set (m_set (m_set (m_set (m_set μ 122 (((1 + (4 * (μ 118 41))) + 0).toNat) (0)) 122 (((1 + (4 * (μ 118 41))) + (0 + 1)).toNat) (0)) 122 (((1 + (4 * (μ 118 41))) + (0 + 1 + 1)).toNat) (0)) 122 (((1 + (4 * (μ 118 41))) + (0 + 1 + 1 + 1)).toNat) (0)) 122 ((1 + (4 * (μ 118 41))).toNat) (0)) 118 Ha) c s) _
                    refine rn_if_ne (k' := 102) rfl rfl (fun hc10 => ?_) (fun hc10 => ?_)
                    · skip
                      refine rn_aload_n (k' := 107) rfl rfl rfl ?_
                      refine rn_iconst (k' := 108) rfl rfl ?_
                      refine rn_aload_n (k' := 109) rfl rfl rfl ?_
                      refine rn_getR (k' := 110) rfl rfl K0_118 (by decide) rfl R0_118_6 ?_
                      refine rn_bipush (k' := 111) rfl rfl ?_
                      refine rn_iaload (k' := 112) rfl rfl K0_120 (by omega) (by omega) ?_
                      show Rn PT none kX12_planLine 112 [some (mR 118), some (mI (0)), some (mI (1 + (4 * (μ 118 41)))), some (mI (0 + 1 + 1 + 1 + 1)), none] [mI (μ 120 8), mI (0), mR 118] (mkh (m_upd (m_set (m_set (m_set (m_set (m_set μ 122 (((1 + (4 * (μ 118 41))) + 0).toNat) (0)) 122 (((1 + (4 * (μ 118 41))) + (0 + 1)).toNat) (0)) 122 (((1 + (4 * (μ 118 41))) + (0 + 1 + 1)).toNat) (0)) 122 (((1 + (4 * (μ 118 41))) + (0 + 1 + 1 + 1)).toNat) (0)) 122 ((1 + (4 * (μ 118 41))).toNat) (0)) 118 Ha) c s) _
                      have hfb9 := ix_b (f := fun j => μ 123 (0 + j)) (v := Ha 17) k9 0
                      refine rn_callP (k' := 113) (y := 182) (vs := [mR 118, mI (0), mI (μ 120 8)]) (S' := []) (v := some (mI (ix (fun j => μ 123 (0 + j)) (Ha 17) k9 0))) (h' := mkh (m_upd (m_set (m_set (m_set (m_set (m_set μ 122 (((1 + (4 * (μ 118 41))) + 0).toNat) (0)) 122 (((1 + (4 * (μ 118 41))) + (0 + 1)).toNat) (0)) 122 (((1 + (4 * (μ 118 41))) + (0 + 1 + 1)).toNat) (0)) 122 (((1 + (4 * (μ 118 41))) + (0 + 1 + 1 + 1)).toNat) (0)) 122 ((1 + (4 * (μ 118 41))).toNat) (0)) 118 Ha) c s) rfl rfl rfl (by have hz := c_find (μ := (m_upd (m_set (m_set (m_set (m_set (m_set μ 122 (((1 + (4 * (μ 118 41))) + 0).toNat) (0)) 122 (((1 + (4 * (μ 118 41))) + (0 + 1)).toNat) (0)) 122 (((1 + (4 * (μ 118 41))) + (0 + 1 + 1)).toNat) (0)) 122 (((1 + (4 * (μ 118 41))) + (0 + 1 + 1 + 1)).toNat) (0)) 122 ((1 + (4 * (μ 118 41))).toNat) (0)) 118 Ha)) (c := c) (s := s) (o9 := 0) (k9 := k9) (by decide) hk9; rw [← h8] at hz; exact hz) ?_
                      show Rn PT none kX12_planLine 113 [some (mR 118), some (mI (0)), some (mI (1 + (4 * (μ 118 41)))), some (mI (0 + 1 + 1 + 1 + 1)), none] [mI (ix (fun j => μ 123 (0 + j)) (Ha 17) k9 0)] (mkh (m_upd (m_set (m_set (m_set (m_set (m_set μ 122 (((1 + (4 * (μ 118 41))) + 0).toNat) (0)) 122 (((1 + (4 * (μ 118 41))) + (0 + 1)).toNat) (0)) 122 (((1 + (4 * (μ 118 41))) + (0 + 1 + 1)).toNat) (0)) 122 (((1 + (4 * (μ 118 41))) + (0 + 1 + 1 + 1)).toNat) (0)) 122 ((1 + (4 * (μ 118 41))).toNat) (0)) 118 Ha) c s) _
                      refine rn_istore_n (k' := 114) (L' := [some (mR 118), some (mI (0)), some (mI (1 + (4 * (μ 118 41)))), some (mI (ix (fun j => μ 123 (0 + j)) (Ha 17) k9 0)), none]) rfl rfl (Nat.le_of_ble_eq_true rfl) rfl ?_
                      refine rn_iload_n (k' := 115) rfl rfl rfl ?_
                      refine rn_if_ge (k' := 116) rfl rfl (fun hc11 => ?_) (fun hc11 => ?_)
                      · skip
                        refine rn_aload_n (k' := 121) rfl rfl rfl ?_
                        refine rn_getR (k' := 122) rfl rfl K0_118 (by decide) rfl R0_118_8 ?_
                        refine rn_iload_n (k' := 123) rfl rfl rfl ?_
                        refine rn_iconst (k' := 124) rfl rfl ?_
                        refine rn_iadd (k' := 125) rfl rfl (by omega) ?_
                        refine rn_iload_n (k' := 126) rfl rfl rfl ?_
                        refine rn_iastore (k' := 127) rfl rfl K0_122 (by omega) (by omega) ?_
                        refine rn_aload_n (k' := 128) rfl rfl rfl ?_
                        obtain ⟨Hb, ⟨hmb, hfb_⟩, hcb⟩ := g_next2 (μ := (m_set (m_upd (m_set (m_set (m_set (m_set (m_set μ 122 (((1 + (4 * (μ 118 41))) + 0).toNat) (0)) 122 (((1 + (4 * (μ 118 41))) + (0 + 1)).toNat) (0)) 122 (((1 + (4 * (μ 118 41))) + (0 + 1 + 1)).toNat) (0)) 122 (((1 + (4 * (μ 118 41))) + (0 + 1 + 1 + 1)).toNat) (0)) 122 ((1 + (4 * (μ 118 41))).toNat) (0)) 118 Ha) 122 (((1 + (4 * (μ 118 41))) + 1).toNat) (ix (fun j => μ 123 (0 + j)) (Ha 17) k9 0))) (c := c) (s := s) (b := b) (n := n) (m := m) (p := (tkN b n m p)) hM0 (by omega)
                        have hfb : FRt Hb _ := hfb_.t
                        have hM1 : MSt (m_upd (m_set (m_upd (m_set (m_set (m_set (m_set (m_set μ 122 (((1 + (4 * (μ 118 41))) + 0).toNat) (0)) 122 (((1 + (4 * (μ 118 41))) + (0 + 1)).toNat) (0)) 122 (((1 + (4 * (μ 118 41))) + (0 + 1 + 1)).toNat) (0)) 122 (((1 + (4 * (μ 118 41))) + (0 + 1 + 1 + 1)).toNat) (0)) 122 ((1 + (4 * (μ 118 41))).toNat) (0)) 118 Ha) 122 (((1 + (4 * (μ 118 41))) + 1).toNat) (ix (fun j => μ 123 (0 + j)) (Ha 17) k9 0)) 118 Hb) b n m (tkN b n m (tkN b n m p)) := ⟨hM0.1, hM0.2.1, hM0.2.2.1, (tkN_b hM0.2.2.2.1).2.1, hmb⟩
                        refine rn_callP (k' := 129) (y := 175) (vs := [mR 118]) (S' := []) (v := none) (h' := mkh (m_upd (m_set (m_upd (m_set (m_set (m_set (m_set (m_set μ 122 (((1 + (4 * (μ 118 41))) + 0).toNat) (0)) 122 (((1 + (4 * (μ 118 41))) + (0 + 1)).toNat) (0)) 122 (((1 + (4 * (μ 118 41))) + (0 + 1 + 1)).toNat) (0)) 122 (((1 + (4 * (μ 118 41))) + (0 + 1 + 1 + 1)).toNat) (0)) 122 ((1 + (4 * (μ 118 41))).toNat) (0)) 118 Ha) 122 (((1 + (4 * (μ 118 41))) + 1).toNat) (ix (fun j => μ 123 (0 + j)) (Ha 17) k9 0)) 118 Hb) c s) rfl rfl rfl (hcb) ?_
                        show Rn PT none kX12_planLine 129 [some (mR 118), some (mI (0)), some (mI (1 + (4 * (μ 118 41)))), some (mI (ix (fun j => μ 123 (0 + j)) (Ha 17) k9 0)), none] [] (mkh (m_upd (m_set (m_upd (m_set (m_set (m_set (m_set (m_set μ 122 (((1 + (4 * (μ 118 41))) + 0).toNat) (0)) 122 (((1 + (4 * (μ 118 41))) + (0 + 1)).toNat) (0)) 122 (((1 + (4 * (μ 118 41))) + (0 + 1 + 1)).toNat) (0)) 122 (((1 + (4 * (μ 118 41))) + (0 + 1 + 1 + 1)).toNat) (0)) 122 ((1 + (4 * (μ 118 41))).toNat) (0)) 118 Ha) 122 (((1 + (4 * (μ 118 41))) + 1).toNat) (ix (fun j => μ 123 (0 + j)) (Ha 17) k9 0)) 118 Hb) c s) _
                        refine rn_iload_n (k' := 130) rfl rfl rfl ?_
                        refine rn_if_eq (k' := 131) rfl rfl (fun hc12 => ?_) (fun hc12 => ?_)
                        · skip
                          refine rn_aload_n (k' := 149) rfl rfl rfl ?_
                          refine rn_iconst (k' := 150) rfl rfl ?_
                          refine rn_aload_n (k' := 151) rfl rfl rfl ?_
                          refine rn_getR (k' := 152) rfl rfl K0_118 (by decide) rfl R0_118_6 ?_
                          refine rn_iconst (k' := 153) rfl rfl ?_
                          refine rn_iaload (k' := 154) rfl rfl K0_120 (by omega) (by omega) ?_
                          show Rn PT none kX12_planLine 154 [some (mR 118), some (mI (0)), some (mI (1 + (4 * (μ 118 41)))), some (mI (ix (fun j => μ 123 (0 + j)) (Ha 17) k9 0)), none] [mI (μ 120 0), mI (0), mR 118] (mkh (m_upd (m_set (m_upd (m_set (m_set (m_set (m_set (m_set μ 122 (((1 + (4 * (μ 118 41))) + 0).toNat) (0)) 122 (((1 + (4 * (μ 118 41))) + (0 + 1)).toNat) (0)) 122 (((1 + (4 * (μ 118 41))) + (0 + 1 + 1)).toNat) (0)) 122 (((1 + (4 * (μ 118 41))) + (0 + 1 + 1 + 1)).toNat) (0)) 122 ((1 + (4 * (μ 118 41))).toNat) (0)) 118 Ha) 122 (((1 + (4 * (μ 118 41))) + 1).toNat) (ix (fun j => μ 123 (0 + j)) (Ha 17) k9 0)) 118 Hb) c s) _
                          refine rn_iconst (k' := 155) rfl rfl ?_
                          refine rn_isub (k' := 156) rfl rfl (by omega) ?_
                          obtain ⟨H1, ⟨hm1, hv1, hf1⟩, hc1⟩ := g_takes (μ := (m_upd (m_set (m_upd (m_set (m_set (m_set (m_set (m_set μ 122 (((1 + (4 * (μ 118 41))) + 0).toNat) (0)) 122 (((1 + (4 * (μ 118 41))) + (0 + 1)).toNat) (0)) 122 (((1 + (4 * (μ 118 41))) + (0 + 1 + 1)).toNat) (0)) 122 (((1 + (4 * (μ 118 41))) + (0 + 1 + 1 + 1)).toNat) (0)) 122 ((1 + (4 * (μ 118 41))).toNat) (0)) 118 Ha) 122 (((1 + (4 * (μ 118 41))) + 1).toNat) (ix (fun j => μ 123 (0 + j)) (Ha 17) k9 0)) 118 Hb)) (c := c) (s := s) (b := b) (n := n) (m := m) (p := (tkN b n m (tkN b n m p))) (lo := 0) (hi := (μ 120 0) - 1) hM1 e1
                          have hM2 : MSt (m_upd (m_upd (m_set (m_upd (m_set (m_set (m_set (m_set (m_set μ 122 (((1 + (4 * (μ 118 41))) + 0).toNat) (0)) 122 (((1 + (4 * (μ 118 41))) + (0 + 1)).toNat) (0)) 122 (((1 + (4 * (μ 118 41))) + (0 + 1 + 1)).toNat) (0)) 122 (((1 + (4 * (μ 118 41))) + (0 + 1 + 1 + 1)).toNat) (0)) 122 ((1 + (4 * (μ 118 41))).toNat) (0)) 118 Ha) 122 (((1 + (4 * (μ 118 41))) + 1).toNat) (ix (fun j => μ 123 (0 + j)) (Ha 17) k9 0)) 118 Hb) 118 H1) b n m (tkN b n m (tkN b n m (tkN b n m p))) := ⟨hM1.1, hM1.2.1, hM1.2.2.1, (tkN_b hM1.2.2.2.1).2.1, hm1⟩
                          have kk1 := eN_ok e1
                          have kx1 := tk_num kk1.1
                          refine rn_callP (k' := 157) (y := 181) (vs := [mR 118, mI (0), mI ((μ 120 0) - 1)]) (S' := []) (v := some (mI (1))) (h' := mkh (m_upd (m_upd (m_set (m_upd (m_set (m_set (m_set (m_set (m_set μ 122 (((1 + (4 * (μ 118 41))) + 0).toNat) (0)) 122 (((1 + (4 * (μ 118 41))) + (0 + 1)).toNat) (0)) 122 (((1 + (4 * (μ 118 41))) + (0 + 1 + 1)).toNat) (0)) 122 (((1 + (4 * (μ 118 41))) + (0 + 1 + 1 + 1)).toNat) (0)) 122 ((1 + (4 * (μ 118 41))).toNat) (0)) 118 Ha) 122 (((1 + (4 * (μ 118 41))) + 1).toNat) (ix (fun j => μ 123 (0 + j)) (Ha 17) k9 0)) 118 Hb) 118 H1) c s) rfl rfl rfl (hc1) ?_
                          show Rn PT none kX12_planLine 157 [some (mR 118), some (mI (0)), some (mI (1 + (4 * (μ 118 41)))), some (mI (ix (fun j => μ 123 (0 + j)) (Ha 17) k9 0)), none] [mI (1)] (mkh (m_upd (m_upd (m_set (m_upd (m_set (m_set (m_set (m_set (m_set μ 122 (((1 + (4 * (μ 118 41))) + 0).toNat) (0)) 122 (((1 + (4 * (μ 118 41))) + (0 + 1)).toNat) (0)) 122 (((1 + (4 * (μ 118 41))) + (0 + 1 + 1)).toNat) (0)) 122 (((1 + (4 * (μ 118 41))) + (0 + 1 + 1 + 1)).toNat) (0)) 122 ((1 + (4 * (μ 118 41))).toNat) (0)) 118 Ha) 122 (((1 + (4 * (μ 118 41))) + 1).toNat) (ix (fun j => μ 123 (0 + j)) (Ha 17) k9 0)) 118 Hb) 118 H1) c s) _
                          refine rn_if_ne (k' := 158) rfl rfl (fun hc13 => ?_) (fun hc13 => ?_)
                          · skip
                            refine rn_aload_n (k' := 161) rfl rfl rfl ?_
                            refine rn_getI (k' := 162) rfl rfl K0_118 (by decide) rfl ?_
                            show Rn PT none kX12_planLine 162 [some (mR 118), some (mI (0)), some (mI (1 + (4 * (μ 118 41)))), some (mI (ix (fun j => μ 123 (0 + j)) (Ha 17) k9 0)), none] [mI (H1 18)] (mkh (m_upd (m_upd (m_set (m_upd (m_set (m_set (m_set (m_set (m_set μ 122 (((1 + (4 * (μ 118 41))) + 0).toNat) (0)) 122 (((1 + (4 * (μ 118 41))) + (0 + 1)).toNat) (0)) 122 (((1 + (4 * (μ 118 41))) + (0 + 1 + 1)).toNat) (0)) 122 (((1 + (4 * (μ 118 41))) + (0 + 1 + 1 + 1)).toNat) (0)) 122 ((1 + (4 * (μ 118 41))).toNat) (0)) 118 Ha) 122 (((1 + (4 * (μ 118 41))) + 1).toNat) (ix (fun j => μ 123 (0 + j)) (Ha 17) k9 0)) 118 Hb) 118 H1) c s) _
                            refine rn_istore (k' := 163) (L' := [some (mR 118), some (mI (0)), some (mI (1 + (4 * (μ 118 41)))), some (mI (ix (fun j => μ 123 (0 + j)) (Ha 17) k9 0)), some (mI (H1 18))]) rfl rfl (Nat.le_of_ble_eq_true rfl) rfl ?_
                            refine rn_aload_n (k' := 164) rfl rfl rfl ?_
                            refine rn_iconst (k' := 165) rfl rfl ?_
                            refine rn_aload_n (k' := 166) rfl rfl rfl ?_
                            refine rn_getR (k' := 167) rfl rfl K0_118 (by decide) rfl R0_118_6 ?_
                            refine rn_iconst (k' := 168) rfl rfl ?_
                            refine rn_iaload (k' := 169) rfl rfl K0_120 (by omega) (by omega) ?_
                            show Rn PT none kX12_planLine 169 [some (mR 118), some (mI (0)), some (mI (1 + (4 * (μ 118 41)))), some (mI (ix (fun j => μ 123 (0 + j)) (Ha 17) k9 0)), some (mI (H1 18))] [mI (μ 120 1), mI (0), mR 118] (mkh (m_upd (m_upd (m_set (m_upd (m_set (m_set (m_set (m_set (m_set μ 122 (((1 + (4 * (μ 118 41))) + 0).toNat) (0)) 122 (((1 + (4 * (μ 118 41))) + (0 + 1)).toNat) (0)) 122 (((1 + (4 * (μ 118 41))) + (0 + 1 + 1)).toNat) (0)) 122 (((1 + (4 * (μ 118 41))) + (0 + 1 + 1 + 1)).toNat) (0)) 122 ((1 + (4 * (μ 118 41))).toNat) (0)) 118 Ha) 122 (((1 + (4 * (μ 118 41))) + 1).toNat) (ix (fun j => μ 123 (0 + j)) (Ha 17) k9 0)) 118 Hb) 118 H1) c s) _
                            refine rn_iconst (k' := 170) rfl rfl ?_
                            refine rn_isub (k' := 171) rfl rfl (by omega) ?_
                            obtain ⟨H2, ⟨hm2, hv2, hf2⟩, hc2⟩ := g_takes (μ := (m_upd (m_upd (m_set (m_upd (m_set (m_set (m_set (m_set (m_set μ 122 (((1 + (4 * (μ 118 41))) + 0).toNat) (0)) 122 (((1 + (4 * (μ 118 41))) + (0 + 1)).toNat) (0)) 122 (((1 + (4 * (μ 118 41))) + (0 + 1 + 1)).toNat) (0)) 122 (((1 + (4 * (μ 118 41))) + (0 + 1 + 1 + 1)).toNat) (0)) 122 ((1 + (4 * (μ 118 41))).toNat) (0)) 118 Ha) 122 (((1 + (4 * (μ 118 41))) + 1).toNat) (ix (fun j => μ 123 (0 + j)) (Ha 17) k9 0)) 118 Hb) 118 H1)) (c := c) (s := s) (b := b) (n := n) (m := m) (p := (tkN b n m (tkN b n m (tkN b n m p)))) (lo := 0) (hi := (μ 120 1) - 1) hM2 e2
                            have hM3 : MSt (m_upd (m_upd (m_upd (m_set (m_upd (m_set (m_set (m_set (m_set (m_set μ 122 (((1 + (4 * (μ 118 41))) + 0).toNat) (0)) 122 (((1 + (4 * (μ 118 41))) + (0 + 1)).toNat) (0)) 122 (((1 + (4 * (μ 118 41))) + (0 + 1 + 1)).toNat) (0)) 122 (((1 + (4 * (μ 118 41))) + (0 + 1 + 1 + 1)).toNat) (0)) 122 ((1 + (4 * (μ 118 41))).toNat) (0)) 118 Ha) 122 (((1 + (4 * (μ 118 41))) + 1).toNat) (ix (fun j => μ 123 (0 + j)) (Ha 17) k9 0)) 118 Hb) 118 H1) 118 H2) b n m (tkN b n m (tkN b n m (tkN b n m (tkN b n m p)))) := ⟨hM2.1, hM2.2.1, hM2.2.2.1, (tkN_b hM2.2.2.2.1).2.1, hm2⟩
                            have kk2 := eN_ok e2
                            have kx2 := tk_num kk2.1
                            refine rn_callP (k' := 172) (y := 181) (vs := [mR 118, mI (0), mI ((μ 120 1) - 1)]) (S' := []) (v := some (mI (1))) (h' := mkh (m_upd (m_upd (m_upd (m_set (m_upd (m_set (m_set (m_set (m_set (m_set μ 122 (((1 + (4 * (μ 118 41))) + 0).toNat) (0)) 122 (((1 + (4 * (μ 118 41))) + (0 + 1)).toNat) (0)) 122 (((1 + (4 * (μ 118 41))) + (0 + 1 + 1)).toNat) (0)) 122 (((1 + (4 * (μ 118 41))) + (0 + 1 + 1 + 1)).toNat) (0)) 122 ((1 + (4 * (μ 118 41))).toNat) (0)) 118 Ha) 122 (((1 + (4 * (μ 118 41))) + 1).toNat) (ix (fun j => μ 123 (0 + j)) (Ha 17) k9 0)) 118 Hb) 118 H1) 118 H2) c s) rfl rfl rfl (hc2) ?_
                            show Rn PT none kX12_planLine 172 [some (mR 118), some (mI (0)), some (mI (1 + (4 * (μ 118 41)))), some (mI (ix (fun j => μ 123 (0 + j)) (Ha 17) k9 0)), some (mI (H1 18))] [mI (1)] (mkh (m_upd (m_upd (m_upd (m_set (m_upd (m_set (m_set (m_set (m_set (m_set μ 122 (((1 + (4 * (μ 118 41))) + 0).toNat) (0)) 122 (((1 + (4 * (μ 118 41))) + (0 + 1)).toNat) (0)) 122 (((1 + (4 * (μ 118 41))) + (0 + 1 + 1)).toNat) (0)) 122 (((1 + (4 * (μ 118 41))) + (0 + 1 + 1 + 1)).toNat) (0)) 122 ((1 + (4 * (μ 118 41))).toNat) (0)) 118 Ha) 122 (((1 + (4 * (μ 118 41))) + 1).toNat) (ix (fun j => μ 123 (0 + j)) (Ha 17) k9 0)) 118 Hb) 118 H1) 118 H2) c s) _
                            refine rn_if_ne (k' := 173) rfl rfl (fun hc14 => ?_) (fun hc14 => ?_)
                            · skip
                              refine rn_aload_n (k' := 176) rfl rfl rfl ?_
                              refine rn_getR (k' := 177) rfl rfl K0_118 (by decide) rfl R0_118_8 ?_
                              refine rn_iload_n (k' := 178) rfl rfl rfl ?_
                              refine rn_iconst (k' := 179) rfl rfl ?_
                              refine rn_iadd (k' := 180) rfl rfl (by omega) ?_
                              refine rn_bipush (k' := 181) rfl rfl ?_
                              refine rn_aload_n (k' := 182) rfl rfl rfl ?_
                              refine rn_getI (k' := 183) rfl rfl K0_118 (by decide) rfl ?_
                              show Rn PT none kX12_planLine 183 [some (mR 118), some (mI (0)), some (mI (1 + (4 * (μ 118 41)))), some (mI (ix (fun j => μ 123 (0 + j)) (Ha 17) k9 0)), some (mI (H1 18))] [mI (H2 18), mI (10), mI ((1 + (4 * (μ 118 41))) + 2), mR 122] (mkh (m_upd (m_upd (m_upd (m_set (m_upd (m_set (m_set (m_set (m_set (m_set μ 122 (((1 + (4 * (μ 118 41))) + 0).toNat) (0)) 122 (((1 + (4 * (μ 118 41))) + (0 + 1)).toNat) (0)) 122 (((1 + (4 * (μ 118 41))) + (0 + 1 + 1)).toNat) (0)) 122 (((1 + (4 * (μ 118 41))) + (0 + 1 + 1 + 1)).toNat) (0)) 122 ((1 + (4 * (μ 118 41))).toNat) (0)) 118 Ha) 122 (((1 + (4 * (μ 118 41))) + 1).toNat) (ix (fun j => μ 123 (0 + j)) (Ha 17) k9 0)) 118 Hb) 118 H1) 118 H2) c s) _
                              refine rn_imul (k' := 184) rfl rfl (by omega) ?_
                              refine rn_iload (k' := 185) rfl rfl rfl ?_
                              refine rn_iadd (k' := 186) rfl rfl (by omega) ?_
                              refine rn_iastore (k' := 187) rfl rfl K0_122 (by omega) (by omega) ?_
                              refine rn_iconst (k' := 188) rfl rfl ?_
                              refine rn_iret rfl (Or.inr (by omega)) ?_
                              refine ⟨_, rfl, hM3, (FrmQ.s2 (FrmQ.u (FrmQ.u (FrmQ.u (FrmQ.s2 (FrmQ.u (FrmQ.s2 (FrmQ.s2 (FrmQ.s2 (FrmQ.s2 (FrmQ.s2 FrmQ.r))))) hfa)) hfb) hf1) hf2)), ((hf2 15 (by decide) (by decide) (by decide) (by decide) (by decide) (by decide) (by decide)).trans ((hf1 15 (by decide) (by decide) (by decide) (by decide) (by decide) (by decide) (by decide)).trans ((hfb 15 (by decide) (by decide) (by decide) (by decide) (by decide) (by decide) (by decide)).trans ((hfa 15 (by decide) (by decide) (by decide) (by decide) (by decide) (by decide) (by decide)).trans rfl)))), ((set_mis (by omega)).trans ((set_mis (by omega)).trans (set_hit (by omega)))), ⟨Ha 17, u17 k0, ((set_mis (by omega)).trans (set_hit (by omega)))⟩, ((set_hit (by omega)).trans (show 10 * H2 18 + H1 18 = _ by rw [hv2, hv1])), (fun j hj => ((set_mis (by omega)).trans ((set_mis (by omega)).trans ((set_mis (by omega)).trans ((set_mis (by omega)).trans ((set_mis (by omega)).trans ((set_mis (by omega)).trans ((set_mis (by omega)).trans rfl))))))))⟩
                            · exfalso; omega
                          · exfalso; omega
                        · exfalso; omega
                      · exfalso; omega
                    · exfalso; omega
                  · exfalso; omega
                · exfalso; omega
              · exfalso; omega
    · exfalso; omega
  · exfalso; omega
set_option maxHeartbeats 1000000 in
theorem m_pl12_x0 {μ : Nat → Nat → Int} {c s : Nat} {b : Nat → Int} {n m p : Nat} (hM : MSt μ b n m p) (hk : tkK b n m p = 1) {l9 : Nat} (hl : μ 118 41 = (l9 : Int)) (hl9 : l9 ≤ 30) (hl3 : ¬ l9 = 30) {k9 : Nat} (hk9 : k9 ≤ 8) (h8 : μ 120 8 = (k9 : Int)) (w0 : tkK b n m (tkN b n m p) = 1 → ∀ y, Nm (tkV b n m (tkN b n m p)) y → ¬ ix (μ 124) y 16 0 = -1) : Rn PT none kX12_planLine 32 [some (mR 118), some (mI (1)), none, none, none] [] (mkh μ c s) (fun r => ∃ ν', r = (some (some (mI 0)), mkh ν' c s) ∧ ν' 118 15 = 1 ∧ ν' 118 16 = ((tkP b n m (tkN b n m p) : Nat) : Int) ∧ FrmQ μ ν') := by
  refine rn_iload_n (k' := 33) rfl rfl rfl ?_
  refine rn_if_ge (k' := 34) rfl rfl (fun hc1 => ?_) (fun hc1 => ?_)
  · skip
    refine rn_aload_n (k' := 39) rfl rfl rfl ?_
    refine rn_getI (k' := 40) rfl rfl K0_118 (by decide) rfl ?_
    refine rn_bipush (k' := 41) rfl rfl ?_
    refine rn_icmp_ne (k' := 42) rfl rfl (fun hc2 => ?_) (fun hc2 => ?_)
    · skip
      refine rn_iconst (k' := 47) rfl rfl ?_
      refine rn_iconst (k' := 48) rfl rfl ?_
      refine rn_aload_n (k' := 49) rfl rfl rfl ?_
      refine rn_getI (k' := 50) rfl rfl K0_118 (by decide) rfl ?_
      refine rn_imul (k' := 51) rfl rfl (by omega) ?_
      refine rn_iadd (k' := 52) rfl rfl (by omega) ?_
      refine rn_istore_n (k' := 53) (L' := [some (mR 118), some (mI (1)), some (mI (1 + (4 * (μ 118 41)))), none, none]) rfl rfl (Nat.le_of_ble_eq_true rfl) rfl ?_
      refine rn_iconst (k' := 54) rfl rfl ?_
      refine rn_istore_n (k' := 55) (L' := [some (mR 118), some (mI (1)), some (mI (1 + (4 * (μ 118 41)))), some (mI (0)), none]) rfl rfl (Nat.le_of_ble_eq_true rfl) rfl ?_
      refine rn_iload_n (k' := 56) rfl rfl rfl ?_
      refine rn_iconst (k' := 57) rfl rfl ?_
      refine rn_icmp_ge (k' := 58) rfl rfl (fun hc3 => ?_) (fun hc3 => ?_)
      · exfalso; omega
      · skip
        refine rn_aload_n (k' := 59) rfl rfl rfl ?_
        refine rn_getR (k' := 60) rfl rfl K0_118 (by decide) rfl R0_118_8 ?_
        refine rn_iload_n (k' := 61) rfl rfl rfl ?_
        refine rn_iload_n (k' := 62) rfl rfl rfl ?_
        refine rn_iadd (k' := 63) rfl rfl (by omega) ?_
        refine rn_iconst (k' := 64) rfl rfl ?_
        refine rn_iastore (k' := 65) rfl rfl K0_122 (by omega) (by omega) ?_
        refine rn_iinc (k' := 66) (L' := [some (mR 118), some (mI (1)), some (mI (1 + (4 * (μ 118 41)))), some (mI (0 + 1)), none]) rfl rfl rfl (by omega) rfl ?_
        refine rn_goto rfl ?_
        refine rn_iload_n (k' := 56) rfl rfl rfl ?_
        refine rn_iconst (k' := 57) rfl rfl ?_
        refine rn_icmp_ge (k' := 58) rfl rfl (fun hc4 => ?_) (fun hc4 => ?_)
        · exfalso; omega
        · skip
          refine rn_aload_n (k' := 59) rfl rfl rfl ?_
          refine rn_getR (k' := 60) rfl rfl K0_118 (by decide) rfl R0_118_8 ?_
          refine rn_iload_n (k' := 61) rfl rfl rfl ?_
          refine rn_iload_n (k' := 62) rfl rfl rfl ?_
          refine rn_iadd (k' := 63) rfl rfl (by omega) ?_
          refine rn_iconst (k' := 64) rfl rfl ?_
          refine rn_iastore (k' := 65) rfl rfl K0_122 (by omega) (by omega) ?_
          refine rn_iinc (k' := 66) (L' := [some (mR 118), some (mI (1)), some (mI (1 + (4 * (μ 118 41)))), some (mI (0 + 1 + 1)), none]) rfl rfl rfl (by omega) rfl ?_
          refine rn_goto rfl ?_
          refine rn_iload_n (k' := 56) rfl rfl rfl ?_
          refine rn_iconst (k' := 57) rfl rfl ?_
          refine rn_icmp_ge (k' := 58) rfl rfl (fun hc5 => ?_) (fun hc5 => ?_)
          · exfalso; omega
          · skip
            refine rn_aload_n (k' := 59) rfl rfl rfl ?_
            refine rn_getR (k' := 60) rfl rfl K0_118 (by decide) rfl R0_118_8 ?_
            refine rn_iload_n (k' := 61) rfl rfl rfl ?_
            refine rn_iload_n (k' := 62) rfl rfl rfl ?_
            refine rn_iadd (k' := 63) rfl rfl (by omega) ?_
            refine rn_iconst (k' := 64) rfl rfl ?_
            refine rn_iastore (k' := 65) rfl rfl K0_122 (by omega) (by omega) ?_
            refine rn_iinc (k' := 66) (L' := [some (mR 118), some (mI (1)), some (mI (1 + (4 * (μ 118 41)))), some (mI (0 + 1 + 1 + 1)), none]) rfl rfl rfl (by omega) rfl ?_
            refine rn_goto rfl ?_
            refine rn_iload_n (k' := 56) rfl rfl rfl ?_
            refine rn_iconst (k' := 57) rfl rfl ?_
            refine rn_icmp_ge (k' := 58) rfl rfl (fun hc6 => ?_) (fun hc6 => ?_)
            · exfalso; omega
            · skip
              refine rn_aload_n (k' := 59) rfl rfl rfl ?_
              refine rn_getR (k' := 60) rfl rfl K0_118 (by decide) rfl R0_118_8 ?_
              refine rn_iload_n (k' := 61) rfl rfl rfl ?_
              refine rn_iload_n (k' := 62) rfl rfl rfl ?_
              refine rn_iadd (k' := 63) rfl rfl (by omega) ?_
              refine rn_iconst (k' := 64) rfl rfl ?_
              refine rn_iastore (k' := 65) rfl rfl K0_122 (by omega) (by omega) ?_
              refine rn_iinc (k' := 66) (L' := [some (mR 118), some (mI (1)), some (mI (1 + (4 * (μ 118 41)))), some (mI (0 + 1 + 1 + 1 + 1)), none]) rfl rfl rfl (by omega) rfl ?_
              refine rn_goto rfl ?_
              refine rn_iload_n (k' := 56) rfl rfl rfl ?_
              refine rn_iconst (k' := 57) rfl rfl ?_
              refine rn_icmp_ge (k' := 58) rfl rfl (fun hc7 => ?_) (fun hc7 => ?_)
              · skip
                refine rn_aload_n (k' := 68) rfl rfl rfl ?_
                refine rn_getR (k' := 69) rfl rfl K0_118 (by decide) rfl R0_118_8 ?_
                refine rn_iload_n (k' := 70) rfl rfl rfl ?_
                refine rn_iload_n (k' := 71) rfl rfl rfl ?_
                refine rn_iastore (k' := 72) rfl rfl K0_122 (by omega) (by omega) ?_
                refine rn_aload_n (k' := 73) rfl rfl rfl ?_
                obtain ⟨Ha, ⟨hma, hfa_⟩, hca⟩ := g_next2 (μ := (m_set (m_set (m_set (m_set (m_set μ 122 (((1 + (4 * (μ 118 41))) + 0).toNat) (0)) 122 (((1 + (4 * (μ 118 41))) + (0 + 1)).toNat) (0)) 122 (((1 + (4 * (μ 118 41))) + (0 + 1 + 1)).toNat) (0)) 122 (((1 + (4 * (μ 118 41))) + (0 + 1 + 1 + 1)).toNat) (0)) 122 ((1 + (4 * (μ 118 41))).toNat) (1))) (c := c) (s := s) (b := b) (n := n) (m := m) (p := p) hM (by omega)
                have hfa : FRt Ha _ := hfa_.t
                have hM0 : MSt (m_upd (m_set (m_set (m_set (m_set (m_set μ 122 (((1 + (4 * (μ 118 41))) + 0).toNat) (0)) 122 (((1 + (4 * (μ 118 41))) + (0 + 1)).toNat) (0)) 122 (((1 + (4 * (μ 118 41))) + (0 + 1 + 1)).toNat) (0)) 122 (((1 + (4 * (μ 118 41))) + (0 + 1 + 1 + 1)).toNat) (0)) 122 ((1 + (4 * (μ 118 41))).toNat) (1)) 118 Ha) b n m (tkN b n m p) := ⟨hM.1, hM.2.1, hM.2.2.1, (tkN_b hM.2.2.2.1).2.1, hma⟩
                obtain ⟨_, _, u12, u11, _, u17, _, _⟩ := hma
                refine rn_callP (k' := 74) (y := 175) (vs := [mR 118]) (S' := []) (v := none) (h' := mkh (m_upd (m_set (m_set (m_set (m_set (m_set μ 122 (((1 + (4 * (μ 118 41))) + 0).toNat) (0)) 122 (((1 + (4 * (μ 118 41))) + (0 + 1)).toNat) (0)) 122 (((1 + (4 * (μ 118 41))) + (0 + 1 + 1)).toNat) (0)) 122 (((1 + (4 * (μ 118 41))) + (0 + 1 + 1 + 1)).toNat) (0)) 122 ((1 + (4 * (μ 118 41))).toNat) (1)) 118 Ha) c s) rfl rfl rfl (hca) ?_
                show Rn PT none kX12_planLine 74 [some (mR 118), some (mI (1)), some (mI (1 + (4 * (μ 118 41)))), some (mI (0 + 1 + 1 + 1 + 1)), none] [] (mkh (m_upd (m_set (m_set (m_set (m_set (m_set μ 122 (((1 + (4 * (μ 118 41))) + 0).toNat) (0)) 122 (((1 + (4 * (μ 118 41))) + (0 + 1)).toNat) (0)) 122 (((1 + (4 * (μ 118 41))) + (0 + 1 + 1)).toNat) (0)) 122 (((1 + (4 * (μ 118 41))) + (0 + 1 + 1 + 1)).toNat) (0)) 122 ((1 + (4 * (μ 118 41))).toNat) (1)) 118 Ha) c s) _
                refine rn_iload_n (k' := 75) rfl rfl rfl ?_
                refine rn_iconst (k' := 76) rfl rfl ?_
                refine rn_icmp_ne (k' := 77) rfl rfl (fun hc8 => ?_) (fun hc8 => ?_)
                · skip
                  refine rn_iload_n (k' := 80) rfl rfl rfl ?_
                  refine rn_iconst (k' := 81) rfl rfl ?_
                  refine rn_icmp_ne (k' := 82) rfl rfl (fun hc9 => ?_) (fun hc9 => ?_)
                  · skip
                    refine rn_aload_n (k' := 100) rfl rfl rfl ?_
                    refine rn_callP (k' := 101) (y := 180) (vs := [mR 118]) (S' := []) (v := some (mI (0))) (h' := mkh (m_upd (m_set (m_set (m_set (m_set (m_set μ 122 (((1 + (4 * (μ 118 41))) + 0).toNat) (0)) 122 (((1 + (4 * (μ 118 41))) + (0 + 1)).toNat) (0)) 122 (((1 + (4 * (μ 118 41))) + (0 + 1 + 1)).toNat) (0)) 122 (((1 + (4 * (μ 118 41))) + (0 + 1 + 1 + 1)).toNat) (0)) 122 ((1 + (4 * (μ 118 41))).toNat) (1)) 118 Ha) c s) rfl rfl rfl (by have hz : Cl PT 180 [mR 118] (mkh (m_upd (m_set (m_set (m_set (m_set (m_set μ 122 (((1 + (4 * (μ 118 41))) + 0).toNat) (0)) 122 (((1 + (4 * (μ 118 41))) + (0 + 1)).toNat) (0)) 122 (((1 + (4 * (μ 118 41))) + (0 + 1 + 1)).toNat) (0)) 122 (((1 + (4 * (μ 118 41))) + (0 + 1 + 1 + 1)).toNat) (0)) 122 ((1 + (4 * (μ 118 41))).toNat) (1)) 118 Ha) c s) (fun r => r = (some (some (mI (if Ha 11 = 1 ∧ ix (μ 124) (Ha 17) 16 0 = -1 then 1 else 0))), mkh (m_upd (m_set (m_set (m_set (m_set (m_set μ 122 (((1 + (4 * (μ 118 41))) + 0).toNat) (0)) 122 (((1 + (4 * (μ 118 41))) + (0 + 1)).toNat) (0)) 122 (((1 + (4 * (μ 118 41))) + (0 + 1 + 1)).toNat) (0)) 122 (((1 + (4 * (μ 118 41))) + (0 + 1 + 1 + 1)).toNat) (0)) 122 ((1 + (4 * (μ 118 41))).toNat) (1)) 118 Ha) c s)) := c_X12_isName (μ := (m_upd (m_set (m_set (m_set (m_set (m_set μ 122 (((1 + (4 * (μ 118 41))) + 0).toNat) (0)) 122 (((1 + (4 * (μ 118 41))) + (0 + 1)).toNat) (0)) 122 (((1 + (4 * (μ 118 41))) + (0 + 1 + 1)).toNat) (0)) 122 (((1 + (4 * (μ 118 41))) + (0 + 1 + 1 + 1)).toNat) (0)) 122 ((1 + (4 * (μ 118 41))).toNat) (1)) 118 Ha)) (c := c) (s := s); rw [if_neg (show ¬ (Ha 11 = 1 ∧ ix (μ 124) (Ha 17) 16 0 = -1) from fun z => by have k0 := mkk_1.mp (u11.symm.trans z.1); exact w0 k0 _ (u17 k0) z.2)] at hz; exact hz) ?_
                    show Rn PT none kX12_planLine 101 [some (mR 118), some (mI (1)), some (mI (1 + (4 * (μ 118 41)))), some (mI (0 + 1 + 1 + 1 + 1)), none] [mI (0)] (mkh (m_upd (m_set (m_set (m_set (m_set (m_set μ 122 (((1 + (4 * (μ 118 41))) + 0).toNat) (0)) 122 (((1 + (4 * (μ 118 41))) + (0 + 1)).toNat) (0)) 122 (((1 + (4 * (μ 118 41))) + (0 + 1 + 1)).toNat) (0)) 122 (((1 + (4 * (μ 118 41))) + (0 + 1 + 1 + 1)).toNat) (0)) 122 ((1 + (4 * (μ 118 41))).toNat) (1)) 118 Ha) c s) _
                    refine rn_if_ne (k' := 102) rfl rfl (fun hc10 => ?_) (fun hc10 => ?_)
                    · exfalso; omega
                    · skip
                      refine rn_aload_n (k' := 103) rfl rfl rfl ?_
                      refine rn_iconst (k' := 104) rfl rfl ?_
                      refine rn_callP (k' := 105) (y := 176) (vs := [mR 118, mI (1)]) (S' := []) (v := some (mI (0))) (h' := mkh (m_set (m_set (m_upd (m_set (m_set (m_set (m_set (m_set μ 122 (((1 + (4 * (μ 118 41))) + 0).toNat) (0)) 122 (((1 + (4 * (μ 118 41))) + (0 + 1)).toNat) (0)) 122 (((1 + (4 * (μ 118 41))) + (0 + 1 + 1)).toNat) (0)) 122 (((1 + (4 * (μ 118 41))) + (0 + 1 + 1 + 1)).toNat) (0)) 122 ((1 + (4 * (μ 118 41))).toNat) (1)) 118 Ha) 118 15 (1)) 118 16 (Ha 12)) c s) rfl rfl rfl (g_bad (μ := (m_upd (m_set (m_set (m_set (m_set (m_set μ 122 (((1 + (4 * (μ 118 41))) + 0).toNat) (0)) 122 (((1 + (4 * (μ 118 41))) + (0 + 1)).toNat) (0)) 122 (((1 + (4 * (μ 118 41))) + (0 + 1 + 1)).toNat) (0)) 122 (((1 + (4 * (μ 118 41))) + (0 + 1 + 1 + 1)).toNat) (0)) 122 ((1 + (4 * (μ 118 41))).toNat) (1)) 118 Ha)) (e := 1)) ?_
                      show Rn PT none kX12_planLine 105 [some (mR 118), some (mI (1)), some (mI (1 + (4 * (μ 118 41)))), some (mI (0 + 1 + 1 + 1 + 1)), none] [mI (0)] (mkh (m_set (m_set (m_upd (m_set (m_set (m_set (m_set (m_set μ 122 (((1 + (4 * (μ 118 41))) + 0).toNat) (0)) 122 (((1 + (4 * (μ 118 41))) + (0 + 1)).toNat) (0)) 122 (((1 + (4 * (μ 118 41))) + (0 + 1 + 1)).toNat) (0)) 122 (((1 + (4 * (μ 118 41))) + (0 + 1 + 1 + 1)).toNat) (0)) 122 ((1 + (4 * (μ 118 41))).toNat) (1)) 118 Ha) 118 15 (1)) 118 16 (Ha 12)) c s) _
                      refine rn_iret rfl (Or.inr (by omega)) ?_
                      exact ⟨_, rfl, rfl, u12, (FrmQ.s (FrmQ.s (FrmQ.u (FrmQ.s2 (FrmQ.s2 (FrmQ.s2 (FrmQ.s2 (FrmQ.s2 FrmQ.r))))) hfa) (by decide)) (by decide))⟩
                  · exfalso; omega
                · exfalso; omega
              · exfalso; omega
    · exfalso; omega
  · exfalso; omega
set_option maxHeartbeats 1000000 in
theorem m_pl12_x1 {μ : Nat → Nat → Int} {c s : Nat} {b : Nat → Int} {n m p : Nat} (hM : MSt μ b n m p) (hk : tkK b n m p = 1) {l9 : Nat} (hl : μ 118 41 = (l9 : Int)) (hl9 : l9 ≤ 30) (hl3 : ¬ l9 = 30) {k9 : Nat} (hk9 : k9 ≤ 8) (h8 : μ 120 8 = (k9 : Int)) (k0 : tkK b n m (tkN b n m p) = 1) (w0 : ∀ y, Nm (tkV b n m (tkN b n m p)) y → ix (μ 124) y 16 0 = -1) (d0 : ∀ y, Nm (tkV b n m (tkN b n m p)) y → ¬ ix (fun j => μ 123 (0 + j)) y k9 0 = -1) (e1 : ¬ eN b n m (tkN b n m (tkN b n m p)) 1 99 = 0) : Rn PT none kX12_planLine 32 [some (mR 118), some (mI (1)), none, none, none] [] (mkh μ c s) (fun r => ∃ ν', r = (some (some (mI 0)), mkh ν' c s) ∧ ν' 118 15 = eN b n m (tkN b n m (tkN b n m p)) 1 99 ∧ ν' 118 16 = ((tkP b n m (tkN b n m (tkN b n m p)) : Nat) : Int) ∧ FrmQ μ ν') := by
  refine rn_iload_n (k' := 33) rfl rfl rfl ?_
  refine rn_if_ge (k' := 34) rfl rfl (fun hc1 => ?_) (fun hc1 => ?_)
  · skip
    refine rn_aload_n (k' := 39) rfl rfl rfl ?_
    refine rn_getI (k' := 40) rfl rfl K0_118 (by decide) rfl ?_
    refine rn_bipush (k' := 41) rfl rfl ?_
    refine rn_icmp_ne (k' := 42) rfl rfl (fun hc2 => ?_) (fun hc2 => ?_)
    · skip
      refine rn_iconst (k' := 47) rfl rfl ?_
      refine rn_iconst (k' := 48) rfl rfl ?_
      refine rn_aload_n (k' := 49) rfl rfl rfl ?_
      refine rn_getI (k' := 50) rfl rfl K0_118 (by decide) rfl ?_
      refine rn_imul (k' := 51) rfl rfl (by omega) ?_
      refine rn_iadd (k' := 52) rfl rfl (by omega) ?_
      refine rn_istore_n (k' := 53) (L' := [some (mR 118), some (mI (1)), some (mI (1 + (4 * (μ 118 41)))), none, none]) rfl rfl (Nat.le_of_ble_eq_true rfl) rfl ?_
      refine rn_iconst (k' := 54) rfl rfl ?_
      refine rn_istore_n (k' := 55) (L' := [some (mR 118), some (mI (1)), some (mI (1 + (4 * (μ 118 41)))), some (mI (0)), none]) rfl rfl (Nat.le_of_ble_eq_true rfl) rfl ?_
      refine rn_iload_n (k' := 56) rfl rfl rfl ?_
      refine rn_iconst (k' := 57) rfl rfl ?_
      refine rn_icmp_ge (k' := 58) rfl rfl (fun hc3 => ?_) (fun hc3 => ?_)
      · exfalso; omega
      · skip
        refine rn_aload_n (k' := 59) rfl rfl rfl ?_
        refine rn_getR (k' := 60) rfl rfl K0_118 (by decide) rfl R0_118_8 ?_
        refine rn_iload_n (k' := 61) rfl rfl rfl ?_
        refine rn_iload_n (k' := 62) rfl rfl rfl ?_
        refine rn_iadd (k' := 63) rfl rfl (by omega) ?_
        refine rn_iconst (k' := 64) rfl rfl ?_
        refine rn_iastore (k' := 65) rfl rfl K0_122 (by omega) (by omega) ?_
        refine rn_iinc (k' := 66) (L' := [some (mR 118), some (mI (1)), some (mI (1 + (4 * (μ 118 41)))), some (mI (0 + 1)), none]) rfl rfl rfl (by omega) rfl ?_
        refine rn_goto rfl ?_
        refine rn_iload_n (k' := 56) rfl rfl rfl ?_
        refine rn_iconst (k' := 57) rfl rfl ?_
        refine rn_icmp_ge (k' := 58) rfl rfl (fun hc4 => ?_) (fun hc4 => ?_)
        · exfalso; omega
        · skip
          refine rn_aload_n (k' := 59) rfl rfl rfl ?_
          refine rn_getR (k' := 60) rfl rfl K0_118 (by decide) rfl R0_118_8 ?_
          refine rn_iload_n (k' := 61) rfl rfl rfl ?_
          refine rn_iload_n (k' := 62) rfl rfl rfl ?_
          refine rn_iadd (k' := 63) rfl rfl (by omega) ?_
          refine rn_iconst (k' := 64) rfl rfl ?_
          refine rn_iastore (k' := 65) rfl rfl K0_122 (by omega) (by omega) ?_
          refine rn_iinc (k' := 66) (L' := [some (mR 118), some (mI (1)), some (mI (1 + (4 * (μ 118 41)))), some (mI (0 + 1 + 1)), none]) rfl rfl rfl (by omega) rfl ?_
          refine rn_goto rfl ?_
          refine rn_iload_n (k' := 56) rfl rfl rfl ?_
          refine rn_iconst (k' := 57) rfl rfl ?_
          refine rn_icmp_ge (k' := 58) rfl rfl (fun hc5 => ?_) (fun hc5 => ?_)
          · exfalso; omega
          · skip
            refine rn_aload_n (k' := 59) rfl rfl rfl ?_
            refine rn_getR (k' := 60) rfl rfl K0_118 (by decide) rfl R0_118_8 ?_
            refine rn_iload_n (k' := 61) rfl rfl rfl ?_
            refine rn_iload_n (k' := 62) rfl rfl rfl ?_
            refine rn_iadd (k' := 63) rfl rfl (by omega) ?_
            refine rn_iconst (k' := 64) rfl rfl ?_
            refine rn_iastore (k' := 65) rfl rfl K0_122 (by omega) (by omega) ?_
            refine rn_iinc (k' := 66) (L' := [some (mR 118), some (mI (1)), some (mI (1 + (4 * (μ 118 41)))), some (mI (0 + 1 + 1 + 1)), none]) rfl rfl rfl (by omega) rfl ?_
            refine rn_goto rfl ?_
            refine rn_iload_n (k' := 56) rfl rfl rfl ?_
            refine rn_iconst (k' := 57) rfl rfl ?_
            refine rn_icmp_ge (k' := 58) rfl rfl (fun hc6 => ?_) (fun hc6 => ?_)
            · exfalso; omega
            · skip
              refine rn_aload_n (k' := 59) rfl rfl rfl ?_
              refine rn_getR (k' := 60) rfl rfl K0_118 (by decide) rfl R0_118_8 ?_
              refine rn_iload_n (k' := 61) rfl rfl rfl ?_
              refine rn_iload_n (k' := 62) rfl rfl rfl ?_
              refine rn_iadd (k' := 63) rfl rfl (by omega) ?_
              refine rn_iconst (k' := 64) rfl rfl ?_
              refine rn_iastore (k' := 65) rfl rfl K0_122 (by omega) (by omega) ?_
              refine rn_iinc (k' := 66) (L' := [some (mR 118), some (mI (1)), some (mI (1 + (4 * (μ 118 41)))), some (mI (0 + 1 + 1 + 1 + 1)), none]) rfl rfl rfl (by omega) rfl ?_
              refine rn_goto rfl ?_
              refine rn_iload_n (k' := 56) rfl rfl rfl ?_
              refine rn_iconst (k' := 57) rfl rfl ?_
              refine rn_icmp_ge (k' := 58) rfl rfl (fun hc7 => ?_) (fun hc7 => ?_)
              · skip
                refine rn_aload_n (k' := 68) rfl rfl rfl ?_
                refine rn_getR (k' := 69) rfl rfl K0_118 (by decide) rfl R0_118_8 ?_
                refine rn_iload_n (k' := 70) rfl rfl rfl ?_
                refine rn_iload_n (k' := 71) rfl rfl rfl ?_
                refine rn_iastore (k' := 72) rfl rfl K0_122 (by omega) (by omega) ?_
                refine rn_aload_n (k' := 73) rfl rfl rfl ?_
                obtain ⟨Ha, ⟨hma, hfa_⟩, hca⟩ := g_next2 (μ := (m_set (m_set (m_set (m_set (m_set μ 122 (((1 + (4 * (μ 118 41))) + 0).toNat) (0)) 122 (((1 + (4 * (μ 118 41))) + (0 + 1)).toNat) (0)) 122 (((1 + (4 * (μ 118 41))) + (0 + 1 + 1)).toNat) (0)) 122 (((1 + (4 * (μ 118 41))) + (0 + 1 + 1 + 1)).toNat) (0)) 122 ((1 + (4 * (μ 118 41))).toNat) (1))) (c := c) (s := s) (b := b) (n := n) (m := m) (p := p) hM (by omega)
                have hfa : FRt Ha _ := hfa_.t
                have hM0 : MSt (m_upd (m_set (m_set (m_set (m_set (m_set μ 122 (((1 + (4 * (μ 118 41))) + 0).toNat) (0)) 122 (((1 + (4 * (μ 118 41))) + (0 + 1)).toNat) (0)) 122 (((1 + (4 * (μ 118 41))) + (0 + 1 + 1)).toNat) (0)) 122 (((1 + (4 * (μ 118 41))) + (0 + 1 + 1 + 1)).toNat) (0)) 122 ((1 + (4 * (μ 118 41))).toNat) (1)) 118 Ha) b n m (tkN b n m p) := ⟨hM.1, hM.2.1, hM.2.2.1, (tkN_b hM.2.2.2.1).2.1, hma⟩
                obtain ⟨_, _, u12, u11, _, u17, _, _⟩ := hma
                have hu : Ha 11 = 1 := by rw [u11]; exact mkk_1.mpr k0
                have hw := w0 _ (u17 k0)
                have hd := d0 _ (u17 k0)
                refine rn_callP (k' := 74) (y := 175) (vs := [mR 118]) (S' := []) (v := none) (h' := mkh (m_upd (m_set (m_set (m_set (m_set (m_set μ 122 (((1 + (4 * (μ 118 41))) + 0).toNat) (0)) 122 (((1 + (4 * (μ 118 41))) + (0 + 1)).toNat) (0)) 122 (((1 + (4 * (μ 118 41))) + (0 + 1 + 1)).toNat) (0)) 122 (((1 + (4 * (μ 118 41))) + (0 + 1 + 1 + 1)).toNat) (0)) 122 ((1 + (4 * (μ 118 41))).toNat) (1)) 118 Ha) c s) rfl rfl rfl (hca) ?_
                show Rn PT none kX12_planLine 74 [some (mR 118), some (mI (1)), some (mI (1 + (4 * (μ 118 41)))), some (mI (0 + 1 + 1 + 1 + 1)), none] [] (mkh (m_upd (m_set (m_set (m_set (m_set (m_set μ 122 (((1 + (4 * (μ 118 41))) + 0).toNat) (0)) 122 (((1 + (4 * (μ 118 41))) + (0 + 1)).toNat) (0)) 122 (((1 + (4 * (μ 118 41))) + (0 + 1 + 1)).toNat) (0)) 122 (((1 + (4 * (μ 118 41))) + (0 + 1 + 1 + 1)).toNat) (0)) 122 ((1 + (4 * (μ 118 41))).toNat) (1)) 118 Ha) c s) _
                refine rn_iload_n (k' := 75) rfl rfl rfl ?_
                refine rn_iconst (k' := 76) rfl rfl ?_
                refine rn_icmp_ne (k' := 77) rfl rfl (fun hc8 => ?_) (fun hc8 => ?_)
                · skip
                  refine rn_iload_n (k' := 80) rfl rfl rfl ?_
                  refine rn_iconst (k' := 81) rfl rfl ?_
                  refine rn_icmp_ne (k' := 82) rfl rfl (fun hc9 => ?_) (fun hc9 => ?_)
                  · skip
                    refine rn_aload_n (k' := 100) rfl rfl rfl ?_
                    refine rn_callP (k' := 101) (y := 180) (vs := [mR 118]) (S' := []) (v := some (mI (1))) (h' := mkh (m_upd (m_set (m_set (m_set (m_set (m_set μ 122 (((1 + (4 * (μ 118 41))) + 0).toNat) (0)) 122 (((1 + (4 * (μ 118 41))) + (0 + 1)).toNat) (0)) 122 (((1 + (4 * (μ 118 41))) + (0 + 1 + 1)).toNat) (0)) 122 (((1 + (4 * (μ 118 41))) + (0 + 1 + 1 + 1)).toNat) (0)) 122 ((1 + (4 * (μ 118 41))).toNat) (1)) 118 Ha) c s) rfl rfl rfl (by have hz : Cl PT 180 [mR 118] (mkh (m_upd (m_set (m_set (m_set (m_set (m_set μ 122 (((1 + (4 * (μ 118 41))) + 0).toNat) (0)) 122 (((1 + (4 * (μ 118 41))) + (0 + 1)).toNat) (0)) 122 (((1 + (4 * (μ 118 41))) + (0 + 1 + 1)).toNat) (0)) 122 (((1 + (4 * (μ 118 41))) + (0 + 1 + 1 + 1)).toNat) (0)) 122 ((1 + (4 * (μ 118 41))).toNat) (1)) 118 Ha) c s) (fun r => r = (some (some (mI (if Ha 11 = 1 ∧ ix (μ 124) (Ha 17) 16 0 = -1 then 1 else 0))), mkh (m_upd (m_set (m_set (m_set (m_set (m_set μ 122 (((1 + (4 * (μ 118 41))) + 0).toNat) (0)) 122 (((1 + (4 * (μ 118 41))) + (0 + 1)).toNat) (0)) 122 (((1 + (4 * (μ 118 41))) + (0 + 1 + 1)).toNat) (0)) 122 (((1 + (4 * (μ 118 41))) + (0 + 1 + 1 + 1)).toNat) (0)) 122 ((1 + (4 * (μ 118 41))).toNat) (1)) 118 Ha) c s)) := c_X12_isName (μ := (m_upd (m_set (m_set (m_set (m_set (m_set μ 122 (((1 + (4 * (μ 118 41))) + 0).toNat) (0)) 122 (((1 + (4 * (μ 118 41))) + (0 + 1)).toNat) (0)) 122 (((1 + (4 * (μ 118 41))) + (0 + 1 + 1)).toNat) (0)) 122 (((1 + (4 * (μ 118 41))) + (0 + 1 + 1 + 1)).toNat) (0)) 122 ((1 + (4 * (μ 118 41))).toNat) (1)) 118 Ha)) (c := c) (s := s); rw [if_pos (show Ha 11 = 1 ∧ ix (μ 124) (Ha 17) 16 0 = -1 from ⟨hu, hw⟩)] at hz; exact hz) ?_
                    show Rn PT none kX12_planLine 101 [some (mR 118), some (mI (1)), some (mI (1 + (4 * (μ 118 41)))), some (mI (0 + 1 + 1 + 1 + 1)), none] [mI (1)] (mkh (m_upd (m_set (m_set (m_set (m_set (m_set μ 122 (((1 + (4 * (μ 118 41))) + 0).toNat) (0)) 122 (((1 + (4 * (μ 118 41))) + (0 + 1)).toNat) (0)) 122 (((1 + (4 * (μ 118 41))) + (0 + 1 + 1)).toNat) (0)) 122 (((1 + (4 * (μ 118 41))) + (0 + 1 + 1 + 1)).toNat) (0)) 122 ((1 + (4 * (μ 118 41))).toNat) (1)) 118 Ha) c s) _
                    refine rn_if_ne (k' := 102) rfl rfl (fun hc10 => ?_) (fun hc10 => ?_)
                    · skip
                      refine rn_aload_n (k' := 107) rfl rfl rfl ?_
                      refine rn_iconst (k' := 108) rfl rfl ?_
                      refine rn_aload_n (k' := 109) rfl rfl rfl ?_
                      refine rn_getR (k' := 110) rfl rfl K0_118 (by decide) rfl R0_118_6 ?_
                      refine rn_bipush (k' := 111) rfl rfl ?_
                      refine rn_iaload (k' := 112) rfl rfl K0_120 (by omega) (by omega) ?_
                      show Rn PT none kX12_planLine 112 [some (mR 118), some (mI (1)), some (mI (1 + (4 * (μ 118 41)))), some (mI (0 + 1 + 1 + 1 + 1)), none] [mI (μ 120 8), mI (0), mR 118] (mkh (m_upd (m_set (m_set (m_set (m_set (m_set μ 122 (((1 + (4 * (μ 118 41))) + 0).toNat) (0)) 122 (((1 + (4 * (μ 118 41))) + (0 + 1)).toNat) (0)) 122 (((1 + (4 * (μ 118 41))) + (0 + 1 + 1)).toNat) (0)) 122 (((1 + (4 * (μ 118 41))) + (0 + 1 + 1 + 1)).toNat) (0)) 122 ((1 + (4 * (μ 118 41))).toNat) (1)) 118 Ha) c s) _
                      have hfb9 := ix_b (f := fun j => μ 123 (0 + j)) (v := Ha 17) k9 0
                      refine rn_callP (k' := 113) (y := 182) (vs := [mR 118, mI (0), mI (μ 120 8)]) (S' := []) (v := some (mI (ix (fun j => μ 123 (0 + j)) (Ha 17) k9 0))) (h' := mkh (m_upd (m_set (m_set (m_set (m_set (m_set μ 122 (((1 + (4 * (μ 118 41))) + 0).toNat) (0)) 122 (((1 + (4 * (μ 118 41))) + (0 + 1)).toNat) (0)) 122 (((1 + (4 * (μ 118 41))) + (0 + 1 + 1)).toNat) (0)) 122 (((1 + (4 * (μ 118 41))) + (0 + 1 + 1 + 1)).toNat) (0)) 122 ((1 + (4 * (μ 118 41))).toNat) (1)) 118 Ha) c s) rfl rfl rfl (by have hz := c_find (μ := (m_upd (m_set (m_set (m_set (m_set (m_set μ 122 (((1 + (4 * (μ 118 41))) + 0).toNat) (0)) 122 (((1 + (4 * (μ 118 41))) + (0 + 1)).toNat) (0)) 122 (((1 + (4 * (μ 118 41))) + (0 + 1 + 1)).toNat) (0)) 122 (((1 + (4 * (μ 118 41))) + (0 + 1 + 1 + 1)).toNat) (0)) 122 ((1 + (4 * (μ 118 41))).toNat) (1)) 118 Ha)) (c := c) (s := s) (o9 := 0) (k9 := k9) (by decide) hk9; rw [← h8] at hz; exact hz) ?_
                      show Rn PT none kX12_planLine 113 [some (mR 118), some (mI (1)), some (mI (1 + (4 * (μ 118 41)))), some (mI (0 + 1 + 1 + 1 + 1)), none] [mI (ix (fun j => μ 123 (0 + j)) (Ha 17) k9 0)] (mkh (m_upd (m_set (m_set (m_set (m_set (m_set μ 122 (((1 + (4 * (μ 118 41))) + 0).toNat) (0)) 122 (((1 + (4 * (μ 118 41))) + (0 + 1)).toNat) (0)) 122 (((1 + (4 * (μ 118 41))) + (0 + 1 + 1)).toNat) (0)) 122 (((1 + (4 * (μ 118 41))) + (0 + 1 + 1 + 1)).toNat) (0)) 122 ((1 + (4 * (μ 118 41))).toNat) (1)) 118 Ha) c s) _
                      refine rn_istore_n (k' := 114) (L' := [some (mR 118), some (mI (1)), some (mI (1 + (4 * (μ 118 41)))), some (mI (ix (fun j => μ 123 (0 + j)) (Ha 17) k9 0)), none]) rfl rfl (Nat.le_of_ble_eq_true rfl) rfl ?_
                      refine rn_iload_n (k' := 115) rfl rfl rfl ?_
                      refine rn_if_ge (k' := 116) rfl rfl (fun hc11 => ?_) (fun hc11 => ?_)
                      · skip
                        refine rn_aload_n (k' := 121) rfl rfl rfl ?_
                        refine rn_getR (k' := 122) rfl rfl K0_118 (by decide) rfl R0_118_8 ?_
                        refine rn_iload_n (k' := 123) rfl rfl rfl ?_
                        refine rn_iconst (k' := 124) rfl rfl ?_
                        refine rn_iadd (k' := 125) rfl rfl (by omega) ?_
                        refine rn_iload_n (k' := 126) rfl rfl rfl ?_
                        refine rn_iastore (k' := 127) rfl rfl K0_122 (by omega) (by omega) ?_
                        refine rn_aload_n (k' := 128) rfl rfl rfl ?_
                        obtain ⟨Hb, ⟨hmb, hfb_⟩, hcb⟩ := g_next2 (μ := (m_set (m_upd (m_set (m_set (m_set (m_set (m_set μ 122 (((1 + (4 * (μ 118 41))) + 0).toNat) (0)) 122 (((1 + (4 * (μ 118 41))) + (0 + 1)).toNat) (0)) 122 (((1 + (4 * (μ 118 41))) + (0 + 1 + 1)).toNat) (0)) 122 (((1 + (4 * (μ 118 41))) + (0 + 1 + 1 + 1)).toNat) (0)) 122 ((1 + (4 * (μ 118 41))).toNat) (1)) 118 Ha) 122 (((1 + (4 * (μ 118 41))) + 1).toNat) (ix (fun j => μ 123 (0 + j)) (Ha 17) k9 0))) (c := c) (s := s) (b := b) (n := n) (m := m) (p := (tkN b n m p)) hM0 (by omega)
                        have hfb : FRt Hb _ := hfb_.t
                        have hM1 : MSt (m_upd (m_set (m_upd (m_set (m_set (m_set (m_set (m_set μ 122 (((1 + (4 * (μ 118 41))) + 0).toNat) (0)) 122 (((1 + (4 * (μ 118 41))) + (0 + 1)).toNat) (0)) 122 (((1 + (4 * (μ 118 41))) + (0 + 1 + 1)).toNat) (0)) 122 (((1 + (4 * (μ 118 41))) + (0 + 1 + 1 + 1)).toNat) (0)) 122 ((1 + (4 * (μ 118 41))).toNat) (1)) 118 Ha) 122 (((1 + (4 * (μ 118 41))) + 1).toNat) (ix (fun j => μ 123 (0 + j)) (Ha 17) k9 0)) 118 Hb) b n m (tkN b n m (tkN b n m p)) := ⟨hM0.1, hM0.2.1, hM0.2.2.1, (tkN_b hM0.2.2.2.1).2.1, hmb⟩
                        refine rn_callP (k' := 129) (y := 175) (vs := [mR 118]) (S' := []) (v := none) (h' := mkh (m_upd (m_set (m_upd (m_set (m_set (m_set (m_set (m_set μ 122 (((1 + (4 * (μ 118 41))) + 0).toNat) (0)) 122 (((1 + (4 * (μ 118 41))) + (0 + 1)).toNat) (0)) 122 (((1 + (4 * (μ 118 41))) + (0 + 1 + 1)).toNat) (0)) 122 (((1 + (4 * (μ 118 41))) + (0 + 1 + 1 + 1)).toNat) (0)) 122 ((1 + (4 * (μ 118 41))).toNat) (1)) 118 Ha) 122 (((1 + (4 * (μ 118 41))) + 1).toNat) (ix (fun j => μ 123 (0 + j)) (Ha 17) k9 0)) 118 Hb) c s) rfl rfl rfl (hcb) ?_
                        show Rn PT none kX12_planLine 129 [some (mR 118), some (mI (1)), some (mI (1 + (4 * (μ 118 41)))), some (mI (ix (fun j => μ 123 (0 + j)) (Ha 17) k9 0)), none] [] (mkh (m_upd (m_set (m_upd (m_set (m_set (m_set (m_set (m_set μ 122 (((1 + (4 * (μ 118 41))) + 0).toNat) (0)) 122 (((1 + (4 * (μ 118 41))) + (0 + 1)).toNat) (0)) 122 (((1 + (4 * (μ 118 41))) + (0 + 1 + 1)).toNat) (0)) 122 (((1 + (4 * (μ 118 41))) + (0 + 1 + 1 + 1)).toNat) (0)) 122 ((1 + (4 * (μ 118 41))).toNat) (1)) 118 Ha) 122 (((1 + (4 * (μ 118 41))) + 1).toNat) (ix (fun j => μ 123 (0 + j)) (Ha 17) k9 0)) 118 Hb) c s) _
                        refine rn_iload_n (k' := 130) rfl rfl rfl ?_
                        refine rn_if_eq (k' := 131) rfl rfl (fun hc12 => ?_) (fun hc12 => ?_)
                        · exfalso; omega
                        · skip
                          refine rn_aload_n (k' := 132) rfl rfl rfl ?_
                          refine rn_iconst (k' := 133) rfl rfl ?_
                          refine rn_bipush (k' := 134) rfl rfl ?_
                          have hc1 := g_takesX (μ := (m_upd (m_set (m_upd (m_set (m_set (m_set (m_set (m_set μ 122 (((1 + (4 * (μ 118 41))) + 0).toNat) (0)) 122 (((1 + (4 * (μ 118 41))) + (0 + 1)).toNat) (0)) 122 (((1 + (4 * (μ 118 41))) + (0 + 1 + 1)).toNat) (0)) 122 (((1 + (4 * (μ 118 41))) + (0 + 1 + 1 + 1)).toNat) (0)) 122 ((1 + (4 * (μ 118 41))).toNat) (1)) 118 Ha) 122 (((1 + (4 * (μ 118 41))) + 1).toNat) (ix (fun j => μ 123 (0 + j)) (Ha 17) k9 0)) 118 Hb)) (c := c) (s := s) (b := b) (n := n) (m := m) (p := (tkN b n m (tkN b n m p))) (lo := 1) (hi := 99) hM1 e1
                          refine rn_callP (k' := 135) (y := 181) (vs := [mR 118, mI (1), mI (99)]) (S' := []) (v := some (mI (0))) (h' := mkh (m_set (m_set (m_upd (m_set (m_upd (m_set (m_set (m_set (m_set (m_set μ 122 (((1 + (4 * (μ 118 41))) + 0).toNat) (0)) 122 (((1 + (4 * (μ 118 41))) + (0 + 1)).toNat) (0)) 122 (((1 + (4 * (μ 118 41))) + (0 + 1 + 1)).toNat) (0)) 122 (((1 + (4 * (μ 118 41))) + (0 + 1 + 1 + 1)).toNat) (0)) 122 ((1 + (4 * (μ 118 41))).toNat) (1)) 118 Ha) 122 (((1 + (4 * (μ 118 41))) + 1).toNat) (ix (fun j => μ 123 (0 + j)) (Ha 17) k9 0)) 118 Hb) 118 15 (eN b n m (tkN b n m (tkN b n m p)) (1) (99))) 118 16 (((tkP b n m (tkN b n m (tkN b n m p)) : Nat) : Int))) c s) rfl rfl rfl (hc1) ?_
                          show Rn PT none kX12_planLine 135 [some (mR 118), some (mI (1)), some (mI (1 + (4 * (μ 118 41)))), some (mI (ix (fun j => μ 123 (0 + j)) (Ha 17) k9 0)), none] [mI (0)] (mkh (m_set (m_set (m_upd (m_set (m_upd (m_set (m_set (m_set (m_set (m_set μ 122 (((1 + (4 * (μ 118 41))) + 0).toNat) (0)) 122 (((1 + (4 * (μ 118 41))) + (0 + 1)).toNat) (0)) 122 (((1 + (4 * (μ 118 41))) + (0 + 1 + 1)).toNat) (0)) 122 (((1 + (4 * (μ 118 41))) + (0 + 1 + 1 + 1)).toNat) (0)) 122 ((1 + (4 * (μ 118 41))).toNat) (1)) 118 Ha) 122 (((1 + (4 * (μ 118 41))) + 1).toNat) (ix (fun j => μ 123 (0 + j)) (Ha 17) k9 0)) 118 Hb) 118 15 (eN b n m (tkN b n m (tkN b n m p)) (1) (99))) 118 16 (((tkP b n m (tkN b n m (tkN b n m p)) : Nat) : Int))) c s) _
                          refine rn_if_ne (k' := 136) rfl rfl (fun hc13 => ?_) (fun hc13 => ?_)
                          · exfalso; omega
                          · skip
                            refine rn_iconst (k' := 137) rfl rfl ?_
                            refine rn_iret rfl (Or.inr (by omega)) ?_
                            exact ⟨_, rfl, rfl, rfl, (FrmQ.s (FrmQ.s (FrmQ.u (FrmQ.s2 (FrmQ.u (FrmQ.s2 (FrmQ.s2 (FrmQ.s2 (FrmQ.s2 (FrmQ.s2 FrmQ.r))))) hfa)) hfb) (by decide)) (by decide))⟩
                      · exfalso; omega
                    · exfalso; omega
                  · exfalso; omega
                · exfalso; omega
              · exfalso; omega
    · exfalso; omega
  · exfalso; omega
set_option maxHeartbeats 1000000 in
theorem m_pl12_had {μ : Nat → Nat → Int} {c s : Nat} {b : Nat → Int} {n m p : Nat} (hM : MSt μ b n m p) (hk : tkK b n m p = 1) {l9 : Nat} (hl : μ 118 41 = (l9 : Int)) (hl9 : l9 ≤ 30) (hl3 : ¬ l9 = 30) {k9 : Nat} (hk9 : k9 ≤ 8) (h8 : μ 120 8 = (k9 : Int)) (k0 : tkK b n m (tkN b n m p) = 1) (w0 : ∀ y, Nm (tkV b n m (tkN b n m p)) y → ix (μ 124) y 16 0 = -1) (d0 : ∀ y, Nm (tkV b n m (tkN b n m p)) y → ix (fun j => μ 123 (0 + j)) y k9 0 = -1) : Rn PT none kX12_planLine 32 [some (mR 118), some (mI (1)), none, none, none] [] (mkh μ c s) (fun r => ∃ ν', r = (some (some (mI 0)), mkh ν' c s) ∧ ν' 118 15 = 3 ∧ ν' 118 16 = ((tkP b n m (tkN b n m p) : Nat) : Int) ∧ FrmQ μ ν') := by
  refine rn_iload_n (k' := 33) rfl rfl rfl ?_
  refine rn_if_ge (k' := 34) rfl rfl (fun hc1 => ?_) (fun hc1 => ?_)
  · skip
    refine rn_aload_n (k' := 39) rfl rfl rfl ?_
    refine rn_getI (k' := 40) rfl rfl K0_118 (by decide) rfl ?_
    refine rn_bipush (k' := 41) rfl rfl ?_
    refine rn_icmp_ne (k' := 42) rfl rfl (fun hc2 => ?_) (fun hc2 => ?_)
    · skip
      refine rn_iconst (k' := 47) rfl rfl ?_
      refine rn_iconst (k' := 48) rfl rfl ?_
      refine rn_aload_n (k' := 49) rfl rfl rfl ?_
      refine rn_getI (k' := 50) rfl rfl K0_118 (by decide) rfl ?_
      refine rn_imul (k' := 51) rfl rfl (by omega) ?_
      refine rn_iadd (k' := 52) rfl rfl (by omega) ?_
      refine rn_istore_n (k' := 53) (L' := [some (mR 118), some (mI (1)), some (mI (1 + (4 * (μ 118 41)))), none, none]) rfl rfl (Nat.le_of_ble_eq_true rfl) rfl ?_
      refine rn_iconst (k' := 54) rfl rfl ?_
      refine rn_istore_n (k' := 55) (L' := [some (mR 118), some (mI (1)), some (mI (1 + (4 * (μ 118 41)))), some (mI (0)), none]) rfl rfl (Nat.le_of_ble_eq_true rfl) rfl ?_
      refine rn_iload_n (k' := 56) rfl rfl rfl ?_
      refine rn_iconst (k' := 57) rfl rfl ?_
      refine rn_icmp_ge (k' := 58) rfl rfl (fun hc3 => ?_) (fun hc3 => ?_)
      · exfalso; omega
      · skip
        refine rn_aload_n (k' := 59) rfl rfl rfl ?_
        refine rn_getR (k' := 60) rfl rfl K0_118 (by decide) rfl R0_118_8 ?_
        refine rn_iload_n (k' := 61) rfl rfl rfl ?_
        refine rn_iload_n (k' := 62) rfl rfl rfl ?_
        refine rn_iadd (k' := 63) rfl rfl (by omega) ?_
        refine rn_iconst (k' := 64) rfl rfl ?_
        refine rn_iastore (k' := 65) rfl rfl K0_122 (by omega) (by omega) ?_
        refine rn_iinc (k' := 66) (L' := [some (mR 118), some (mI (1)), some (mI (1 + (4 * (μ 118 41)))), some (mI (0 + 1)), none]) rfl rfl rfl (by omega) rfl ?_
        refine rn_goto rfl ?_
        refine rn_iload_n (k' := 56) rfl rfl rfl ?_
        refine rn_iconst (k' := 57) rfl rfl ?_
        refine rn_icmp_ge (k' := 58) rfl rfl (fun hc4 => ?_) (fun hc4 => ?_)
        · exfalso; omega
        · skip
          refine rn_aload_n (k' := 59) rfl rfl rfl ?_
          refine rn_getR (k' := 60) rfl rfl K0_118 (by decide) rfl R0_118_8 ?_
          refine rn_iload_n (k' := 61) rfl rfl rfl ?_
          refine rn_iload_n (k' := 62) rfl rfl rfl ?_
          refine rn_iadd (k' := 63) rfl rfl (by omega) ?_
          refine rn_iconst (k' := 64) rfl rfl ?_
          refine rn_iastore (k' := 65) rfl rfl K0_122 (by omega) (by omega) ?_
          refine rn_iinc (k' := 66) (L' := [some (mR 118), some (mI (1)), some (mI (1 + (4 * (μ 118 41)))), some (mI (0 + 1 + 1)), none]) rfl rfl rfl (by omega) rfl ?_
          refine rn_goto rfl ?_
          refine rn_iload_n (k' := 56) rfl rfl rfl ?_
          refine rn_iconst (k' := 57) rfl rfl ?_
          refine rn_icmp_ge (k' := 58) rfl rfl (fun hc5 => ?_) (fun hc5 => ?_)
          · exfalso; omega
          · skip
            refine rn_aload_n (k' := 59) rfl rfl rfl ?_
            refine rn_getR (k' := 60) rfl rfl K0_118 (by decide) rfl R0_118_8 ?_
            refine rn_iload_n (k' := 61) rfl rfl rfl ?_
            refine rn_iload_n (k' := 62) rfl rfl rfl ?_
            refine rn_iadd (k' := 63) rfl rfl (by omega) ?_
            refine rn_iconst (k' := 64) rfl rfl ?_
            refine rn_iastore (k' := 65) rfl rfl K0_122 (by omega) (by omega) ?_
            refine rn_iinc (k' := 66) (L' := [some (mR 118), some (mI (1)), some (mI (1 + (4 * (μ 118 41)))), some (mI (0 + 1 + 1 + 1)), none]) rfl rfl rfl (by omega) rfl ?_
            refine rn_goto rfl ?_
            refine rn_iload_n (k' := 56) rfl rfl rfl ?_
            refine rn_iconst (k' := 57) rfl rfl ?_
            refine rn_icmp_ge (k' := 58) rfl rfl (fun hc6 => ?_) (fun hc6 => ?_)
            · exfalso; omega
            · skip
              refine rn_aload_n (k' := 59) rfl rfl rfl ?_
              refine rn_getR (k' := 60) rfl rfl K0_118 (by decide) rfl R0_118_8 ?_
              refine rn_iload_n (k' := 61) rfl rfl rfl ?_
              refine rn_iload_n (k' := 62) rfl rfl rfl ?_
              refine rn_iadd (k' := 63) rfl rfl (by omega) ?_
              refine rn_iconst (k' := 64) rfl rfl ?_
              refine rn_iastore (k' := 65) rfl rfl K0_122 (by omega) (by omega) ?_
              refine rn_iinc (k' := 66) (L' := [some (mR 118), some (mI (1)), some (mI (1 + (4 * (μ 118 41)))), some (mI (0 + 1 + 1 + 1 + 1)), none]) rfl rfl rfl (by omega) rfl ?_
              refine rn_goto rfl ?_
              refine rn_iload_n (k' := 56) rfl rfl rfl ?_
              refine rn_iconst (k' := 57) rfl rfl ?_
              refine rn_icmp_ge (k' := 58) rfl rfl (fun hc7 => ?_) (fun hc7 => ?_)
              · skip
                refine rn_aload_n (k' := 68) rfl rfl rfl ?_
                refine rn_getR (k' := 69) rfl rfl K0_118 (by decide) rfl R0_118_8 ?_
                refine rn_iload_n (k' := 70) rfl rfl rfl ?_
                refine rn_iload_n (k' := 71) rfl rfl rfl ?_
                refine rn_iastore (k' := 72) rfl rfl K0_122 (by omega) (by omega) ?_
                refine rn_aload_n (k' := 73) rfl rfl rfl ?_
                obtain ⟨Ha, ⟨hma, hfa_⟩, hca⟩ := g_next2 (μ := (m_set (m_set (m_set (m_set (m_set μ 122 (((1 + (4 * (μ 118 41))) + 0).toNat) (0)) 122 (((1 + (4 * (μ 118 41))) + (0 + 1)).toNat) (0)) 122 (((1 + (4 * (μ 118 41))) + (0 + 1 + 1)).toNat) (0)) 122 (((1 + (4 * (μ 118 41))) + (0 + 1 + 1 + 1)).toNat) (0)) 122 ((1 + (4 * (μ 118 41))).toNat) (1))) (c := c) (s := s) (b := b) (n := n) (m := m) (p := p) hM (by omega)
                have hfa : FRt Ha _ := hfa_.t
                have hM0 : MSt (m_upd (m_set (m_set (m_set (m_set (m_set μ 122 (((1 + (4 * (μ 118 41))) + 0).toNat) (0)) 122 (((1 + (4 * (μ 118 41))) + (0 + 1)).toNat) (0)) 122 (((1 + (4 * (μ 118 41))) + (0 + 1 + 1)).toNat) (0)) 122 (((1 + (4 * (μ 118 41))) + (0 + 1 + 1 + 1)).toNat) (0)) 122 ((1 + (4 * (μ 118 41))).toNat) (1)) 118 Ha) b n m (tkN b n m p) := ⟨hM.1, hM.2.1, hM.2.2.1, (tkN_b hM.2.2.2.1).2.1, hma⟩
                obtain ⟨_, _, u12, u11, _, u17, _, _⟩ := hma
                have hu : Ha 11 = 1 := by rw [u11]; exact mkk_1.mpr k0
                have hw := w0 _ (u17 k0)
                have hd := d0 _ (u17 k0)
                refine rn_callP (k' := 74) (y := 175) (vs := [mR 118]) (S' := []) (v := none) (h' := mkh (m_upd (m_set (m_set (m_set (m_set (m_set μ 122 (((1 + (4 * (μ 118 41))) + 0).toNat) (0)) 122 (((1 + (4 * (μ 118 41))) + (0 + 1)).toNat) (0)) 122 (((1 + (4 * (μ 118 41))) + (0 + 1 + 1)).toNat) (0)) 122 (((1 + (4 * (μ 118 41))) + (0 + 1 + 1 + 1)).toNat) (0)) 122 ((1 + (4 * (μ 118 41))).toNat) (1)) 118 Ha) c s) rfl rfl rfl (hca) ?_
                show Rn PT none kX12_planLine 74 [some (mR 118), some (mI (1)), some (mI (1 + (4 * (μ 118 41)))), some (mI (0 + 1 + 1 + 1 + 1)), none] [] (mkh (m_upd (m_set (m_set (m_set (m_set (m_set μ 122 (((1 + (4 * (μ 118 41))) + 0).toNat) (0)) 122 (((1 + (4 * (μ 118 41))) + (0 + 1)).toNat) (0)) 122 (((1 + (4 * (μ 118 41))) + (0 + 1 + 1)).toNat) (0)) 122 (((1 + (4 * (μ 118 41))) + (0 + 1 + 1 + 1)).toNat) (0)) 122 ((1 + (4 * (μ 118 41))).toNat) (1)) 118 Ha) c s) _
                refine rn_iload_n (k' := 75) rfl rfl rfl ?_
                refine rn_iconst (k' := 76) rfl rfl ?_
                refine rn_icmp_ne (k' := 77) rfl rfl (fun hc8 => ?_) (fun hc8 => ?_)
                · skip
                  refine rn_iload_n (k' := 80) rfl rfl rfl ?_
                  refine rn_iconst (k' := 81) rfl rfl ?_
                  refine rn_icmp_ne (k' := 82) rfl rfl (fun hc9 => ?_) (fun hc9 => ?_)
                  · skip
                    refine rn_aload_n (k' := 100) rfl rfl rfl ?_
                    refine rn_callP (k' := 101) (y := 180) (vs := [mR 118]) (S' := []) (v := some (mI (1))) (h' := mkh (m_upd (m_set (m_set (m_set (m_set (m_set μ 122 (((1 + (4 * (μ 118 41))) + 0).toNat) (0)) 122 (((1 + (4 * (μ 118 41))) + (0 + 1)).toNat) (0)) 122 (((1 + (4 * (μ 118 41))) + (0 + 1 + 1)).toNat) (0)) 122 (((1 + (4 * (μ 118 41))) + (0 + 1 + 1 + 1)).toNat) (0)) 122 ((1 + (4 * (μ 118 41))).toNat) (1)) 118 Ha) c s) rfl rfl rfl (by have hz : Cl PT 180 [mR 118] (mkh (m_upd (m_set (m_set (m_set (m_set (m_set μ 122 (((1 + (4 * (μ 118 41))) + 0).toNat) (0)) 122 (((1 + (4 * (μ 118 41))) + (0 + 1)).toNat) (0)) 122 (((1 + (4 * (μ 118 41))) + (0 + 1 + 1)).toNat) (0)) 122 (((1 + (4 * (μ 118 41))) + (0 + 1 + 1 + 1)).toNat) (0)) 122 ((1 + (4 * (μ 118 41))).toNat) (1)) 118 Ha) c s) (fun r => r = (some (some (mI (if Ha 11 = 1 ∧ ix (μ 124) (Ha 17) 16 0 = -1 then 1 else 0))), mkh (m_upd (m_set (m_set (m_set (m_set (m_set μ 122 (((1 + (4 * (μ 118 41))) + 0).toNat) (0)) 122 (((1 + (4 * (μ 118 41))) + (0 + 1)).toNat) (0)) 122 (((1 + (4 * (μ 118 41))) + (0 + 1 + 1)).toNat) (0)) 122 (((1 + (4 * (μ 118 41))) + (0 + 1 + 1 + 1)).toNat) (0)) 122 ((1 + (4 * (μ 118 41))).toNat) (1)) 118 Ha) c s)) := c_X12_isName (μ := (m_upd (m_set (m_set (m_set (m_set (m_set μ 122 (((1 + (4 * (μ 118 41))) + 0).toNat) (0)) 122 (((1 + (4 * (μ 118 41))) + (0 + 1)).toNat) (0)) 122 (((1 + (4 * (μ 118 41))) + (0 + 1 + 1)).toNat) (0)) 122 (((1 + (4 * (μ 118 41))) + (0 + 1 + 1 + 1)).toNat) (0)) 122 ((1 + (4 * (μ 118 41))).toNat) (1)) 118 Ha)) (c := c) (s := s); rw [if_pos (show Ha 11 = 1 ∧ ix (μ 124) (Ha 17) 16 0 = -1 from ⟨hu, hw⟩)] at hz; exact hz) ?_
                    show Rn PT none kX12_planLine 101 [some (mR 118), some (mI (1)), some (mI (1 + (4 * (μ 118 41)))), some (mI (0 + 1 + 1 + 1 + 1)), none] [mI (1)] (mkh (m_upd (m_set (m_set (m_set (m_set (m_set μ 122 (((1 + (4 * (μ 118 41))) + 0).toNat) (0)) 122 (((1 + (4 * (μ 118 41))) + (0 + 1)).toNat) (0)) 122 (((1 + (4 * (μ 118 41))) + (0 + 1 + 1)).toNat) (0)) 122 (((1 + (4 * (μ 118 41))) + (0 + 1 + 1 + 1)).toNat) (0)) 122 ((1 + (4 * (μ 118 41))).toNat) (1)) 118 Ha) c s) _
                    refine rn_if_ne (k' := 102) rfl rfl (fun hc10 => ?_) (fun hc10 => ?_)
                    · skip
                      refine rn_aload_n (k' := 107) rfl rfl rfl ?_
                      refine rn_iconst (k' := 108) rfl rfl ?_
                      refine rn_aload_n (k' := 109) rfl rfl rfl ?_
                      refine rn_getR (k' := 110) rfl rfl K0_118 (by decide) rfl R0_118_6 ?_
                      refine rn_bipush (k' := 111) rfl rfl ?_
                      refine rn_iaload (k' := 112) rfl rfl K0_120 (by omega) (by omega) ?_
                      show Rn PT none kX12_planLine 112 [some (mR 118), some (mI (1)), some (mI (1 + (4 * (μ 118 41)))), some (mI (0 + 1 + 1 + 1 + 1)), none] [mI (μ 120 8), mI (0), mR 118] (mkh (m_upd (m_set (m_set (m_set (m_set (m_set μ 122 (((1 + (4 * (μ 118 41))) + 0).toNat) (0)) 122 (((1 + (4 * (μ 118 41))) + (0 + 1)).toNat) (0)) 122 (((1 + (4 * (μ 118 41))) + (0 + 1 + 1)).toNat) (0)) 122 (((1 + (4 * (μ 118 41))) + (0 + 1 + 1 + 1)).toNat) (0)) 122 ((1 + (4 * (μ 118 41))).toNat) (1)) 118 Ha) c s) _
                      have hfb9 := ix_b (f := fun j => μ 123 (0 + j)) (v := Ha 17) k9 0
                      refine rn_callP (k' := 113) (y := 182) (vs := [mR 118, mI (0), mI (μ 120 8)]) (S' := []) (v := some (mI (ix (fun j => μ 123 (0 + j)) (Ha 17) k9 0))) (h' := mkh (m_upd (m_set (m_set (m_set (m_set (m_set μ 122 (((1 + (4 * (μ 118 41))) + 0).toNat) (0)) 122 (((1 + (4 * (μ 118 41))) + (0 + 1)).toNat) (0)) 122 (((1 + (4 * (μ 118 41))) + (0 + 1 + 1)).toNat) (0)) 122 (((1 + (4 * (μ 118 41))) + (0 + 1 + 1 + 1)).toNat) (0)) 122 ((1 + (4 * (μ 118 41))).toNat) (1)) 118 Ha) c s) rfl rfl rfl (by have hz := c_find (μ := (m_upd (m_set (m_set (m_set (m_set (m_set μ 122 (((1 + (4 * (μ 118 41))) + 0).toNat) (0)) 122 (((1 + (4 * (μ 118 41))) + (0 + 1)).toNat) (0)) 122 (((1 + (4 * (μ 118 41))) + (0 + 1 + 1)).toNat) (0)) 122 (((1 + (4 * (μ 118 41))) + (0 + 1 + 1 + 1)).toNat) (0)) 122 ((1 + (4 * (μ 118 41))).toNat) (1)) 118 Ha)) (c := c) (s := s) (o9 := 0) (k9 := k9) (by decide) hk9; rw [← h8] at hz; exact hz) ?_
                      show Rn PT none kX12_planLine 113 [some (mR 118), some (mI (1)), some (mI (1 + (4 * (μ 118 41)))), some (mI (0 + 1 + 1 + 1 + 1)), none] [mI (ix (fun j => μ 123 (0 + j)) (Ha 17) k9 0)] (mkh (m_upd (m_set (m_set (m_set (m_set (m_set μ 122 (((1 + (4 * (μ 118 41))) + 0).toNat) (0)) 122 (((1 + (4 * (μ 118 41))) + (0 + 1)).toNat) (0)) 122 (((1 + (4 * (μ 118 41))) + (0 + 1 + 1)).toNat) (0)) 122 (((1 + (4 * (μ 118 41))) + (0 + 1 + 1 + 1)).toNat) (0)) 122 ((1 + (4 * (μ 118 41))).toNat) (1)) 118 Ha) c s) _
                      refine rn_istore_n (k' := 114) (L' := [some (mR 118), some (mI (1)), some (mI (1 + (4 * (μ 118 41)))), some (mI (ix (fun j => μ 123 (0 + j)) (Ha 17) k9 0)), none]) rfl rfl (Nat.le_of_ble_eq_true rfl) rfl ?_
                      refine rn_iload_n (k' := 115) rfl rfl rfl ?_
                      refine rn_if_ge (k' := 116) rfl rfl (fun hc11 => ?_) (fun hc11 => ?_)
                      · exfalso; omega
                      · skip
                        refine rn_aload_n (k' := 117) rfl rfl rfl ?_
                        refine rn_iconst (k' := 118) rfl rfl ?_
                        refine rn_callP (k' := 119) (y := 176) (vs := [mR 118, mI (3)]) (S' := []) (v := some (mI (0))) (h' := mkh (m_set (m_set (m_upd (m_set (m_set (m_set (m_set (m_set μ 122 (((1 + (4 * (μ 118 41))) + 0).toNat) (0)) 122 (((1 + (4 * (μ 118 41))) + (0 + 1)).toNat) (0)) 122 (((1 + (4 * (μ 118 41))) + (0 + 1 + 1)).toNat) (0)) 122 (((1 + (4 * (μ 118 41))) + (0 + 1 + 1 + 1)).toNat) (0)) 122 ((1 + (4 * (μ 118 41))).toNat) (1)) 118 Ha) 118 15 (3)) 118 16 (Ha 12)) c s) rfl rfl rfl (g_bad (μ := (m_upd (m_set (m_set (m_set (m_set (m_set μ 122 (((1 + (4 * (μ 118 41))) + 0).toNat) (0)) 122 (((1 + (4 * (μ 118 41))) + (0 + 1)).toNat) (0)) 122 (((1 + (4 * (μ 118 41))) + (0 + 1 + 1)).toNat) (0)) 122 (((1 + (4 * (μ 118 41))) + (0 + 1 + 1 + 1)).toNat) (0)) 122 ((1 + (4 * (μ 118 41))).toNat) (1)) 118 Ha)) (e := 3)) ?_
                        show Rn PT none kX12_planLine 119 [some (mR 118), some (mI (1)), some (mI (1 + (4 * (μ 118 41)))), some (mI (ix (fun j => μ 123 (0 + j)) (Ha 17) k9 0)), none] [mI (0)] (mkh (m_set (m_set (m_upd (m_set (m_set (m_set (m_set (m_set μ 122 (((1 + (4 * (μ 118 41))) + 0).toNat) (0)) 122 (((1 + (4 * (μ 118 41))) + (0 + 1)).toNat) (0)) 122 (((1 + (4 * (μ 118 41))) + (0 + 1 + 1)).toNat) (0)) 122 (((1 + (4 * (μ 118 41))) + (0 + 1 + 1 + 1)).toNat) (0)) 122 ((1 + (4 * (μ 118 41))).toNat) (1)) 118 Ha) 118 15 (3)) 118 16 (Ha 12)) c s) _
                        refine rn_iret rfl (Or.inr (by omega)) ?_
                        exact ⟨_, rfl, rfl, u12, (FrmQ.s (FrmQ.s (FrmQ.u (FrmQ.s2 (FrmQ.s2 (FrmQ.s2 (FrmQ.s2 (FrmQ.s2 FrmQ.r))))) hfa) (by decide)) (by decide))⟩
                    · exfalso; omega
                  · exfalso; omega
                · exfalso; omega
              · exfalso; omega
    · exfalso; omega
  · exfalso; omega
set_option maxHeartbeats 1000000 in
theorem m_pl12_full {μ : Nat → Nat → Int} {c s : Nat} {b : Nat → Int} {n m p : Nat} (hM : MSt μ b n m p) (hk : tkK b n m p = 1) {l9 : Nat} (hl : μ 118 41 = (l9 : Int)) (hl9 : l9 ≤ 30) (hl3 : l9 = 30) : Rn PT none kX12_planLine 32 [some (mR 118), some (mI (1)), none, none, none] [] (mkh μ c s) (fun r => ∃ ν', r = (some (some (mI 0)), mkh ν' c s) ∧ ν' 118 15 = 4 ∧ ν' 118 16 = ((tkP b n m p : Nat) : Int) ∧ FrmQ μ ν') := by
  refine rn_iload_n (k' := 33) rfl rfl rfl ?_
  refine rn_if_ge (k' := 34) rfl rfl (fun hc1 => ?_) (fun hc1 => ?_)
  · skip
    refine rn_aload_n (k' := 39) rfl rfl rfl ?_
    refine rn_getI (k' := 40) rfl rfl K0_118 (by decide) rfl ?_
    refine rn_bipush (k' := 41) rfl rfl ?_
    refine rn_icmp_ne (k' := 42) rfl rfl (fun hc2 => ?_) (fun hc2 => ?_)
    · exfalso; omega
    · skip
      refine rn_aload_n (k' := 43) rfl rfl rfl ?_
      refine rn_iconst (k' := 44) rfl rfl ?_
      refine rn_callP (k' := 45) (y := 176) (vs := [mR 118, mI (4)]) (S' := []) (v := some (mI (0))) (h' := mkh (m_set (m_set μ 118 15 (4)) 118 16 (μ 118 12)) c s) rfl rfl rfl (g_bad (μ := μ) (e := 4)) ?_
      show Rn PT none kX12_planLine 45 [some (mR 118), some (mI (1)), none, none, none] [mI (0)] (mkh (m_set (m_set μ 118 15 (4)) 118 16 (μ 118 12)) c s) _
      refine rn_iret rfl (Or.inr (by omega)) ?_
      exact ⟨_, rfl, rfl, hM.2.2.2.2.2.2.1, (FrmQ.s (FrmQ.s FrmQ.r (by decide)) (by decide))⟩
  · exfalso; omega
set_option maxHeartbeats 1000000 in
theorem m_pl12_ok {μ : Nat → Nat → Int} {c s : Nat} {b : Nat → Int} {n m p : Nat} (hM : MSt μ b n m p) (hk : tkK b n m p = 1) {l9 : Nat} (hl : μ 118 41 = (l9 : Int)) (hl9 : l9 ≤ 30) (hl3 : ¬ l9 = 30) {k9 : Nat} (hk9 : k9 ≤ 8) (h8 : μ 120 8 = (k9 : Int)) (k0 : tkK b n m (tkN b n m p) = 1) (w0 : ∀ y, Nm (tkV b n m (tkN b n m p)) y → ix (μ 124) y 16 0 = -1) (d0 : ∀ y, Nm (tkV b n m (tkN b n m p)) y → ¬ ix (fun j => μ 123 (0 + j)) y k9 0 = -1) (e1 : eN b n m (tkN b n m (tkN b n m p)) 1 99 = 0) : Rn PT none kX12_planLine 32 [some (mR 118), some (mI (1)), none, none, none] [] (mkh μ c s) (fun r => ∃ ν', r = (some (some (mI 1)), mkh ν' c s) ∧ MSt ν' b n m (tkN b n m (tkN b n m (tkN b n m p))) ∧ FrmQ μ ν' ∧ ν' 118 15 = μ 118 15 ∧ ν' 122 (1 + 4 * l9) = 1 ∧ (∃ y, Nm (tkV b n m (tkN b n m p)) y ∧ ν' 122 (2 + 4 * l9) = ix (fun j => μ 123 (0 + j)) y k9 0) ∧ ν' 122 (3 + 4 * l9) = tkV b n m (tkN b n m (tkN b n m p)) ∧ (∀ j, j < 1 + 4 * l9 → ν' 122 j = μ 122 j)) := by
  refine rn_iload_n (k' := 33) rfl rfl rfl ?_
  refine rn_if_ge (k' := 34) rfl rfl (fun hc1 => ?_) (fun hc1 => ?_)
  · skip
    refine rn_aload_n (k' := 39) rfl rfl rfl ?_
    refine rn_getI (k' := 40) rfl rfl K0_118 (by decide) rfl ?_
    refine rn_bipush (k' := 41) rfl rfl ?_
    refine rn_icmp_ne (k' := 42) rfl rfl (fun hc2 => ?_) (fun hc2 => ?_)
    · skip
      refine rn_iconst (k' := 47) rfl rfl ?_
      refine rn_iconst (k' := 48) rfl rfl ?_
      refine rn_aload_n (k' := 49) rfl rfl rfl ?_
      refine rn_getI (k' := 50) rfl rfl K0_118 (by decide) rfl ?_
      refine rn_imul (k' := 51) rfl rfl (by omega) ?_
      refine rn_iadd (k' := 52) rfl rfl (by omega) ?_
      refine rn_istore_n (k' := 53) (L' := [some (mR 118), some (mI (1)), some (mI (1 + (4 * (μ 118 41)))), none, none]) rfl rfl (Nat.le_of_ble_eq_true rfl) rfl ?_
      refine rn_iconst (k' := 54) rfl rfl ?_
      refine rn_istore_n (k' := 55) (L' := [some (mR 118), some (mI (1)), some (mI (1 + (4 * (μ 118 41)))), some (mI (0)), none]) rfl rfl (Nat.le_of_ble_eq_true rfl) rfl ?_
      refine rn_iload_n (k' := 56) rfl rfl rfl ?_
      refine rn_iconst (k' := 57) rfl rfl ?_
      refine rn_icmp_ge (k' := 58) rfl rfl (fun hc3 => ?_) (fun hc3 => ?_)
      · exfalso; omega
      · skip
        refine rn_aload_n (k' := 59) rfl rfl rfl ?_
        refine rn_getR (k' := 60) rfl rfl K0_118 (by decide) rfl R0_118_8 ?_
        refine rn_iload_n (k' := 61) rfl rfl rfl ?_
        refine rn_iload_n (k' := 62) rfl rfl rfl ?_
        refine rn_iadd (k' := 63) rfl rfl (by omega) ?_
        refine rn_iconst (k' := 64) rfl rfl ?_
        refine rn_iastore (k' := 65) rfl rfl K0_122 (by omega) (by omega) ?_
        refine rn_iinc (k' := 66) (L' := [some (mR 118), some (mI (1)), some (mI (1 + (4 * (μ 118 41)))), some (mI (0 + 1)), none]) rfl rfl rfl (by omega) rfl ?_
        refine rn_goto rfl ?_
        refine rn_iload_n (k' := 56) rfl rfl rfl ?_
        refine rn_iconst (k' := 57) rfl rfl ?_
        refine rn_icmp_ge (k' := 58) rfl rfl (fun hc4 => ?_) (fun hc4 => ?_)
        · exfalso; omega
        · skip
          refine rn_aload_n (k' := 59) rfl rfl rfl ?_
          refine rn_getR (k' := 60) rfl rfl K0_118 (by decide) rfl R0_118_8 ?_
          refine rn_iload_n (k' := 61) rfl rfl rfl ?_
          refine rn_iload_n (k' := 62) rfl rfl rfl ?_
          refine rn_iadd (k' := 63) rfl rfl (by omega) ?_
          refine rn_iconst (k' := 64) rfl rfl ?_
          refine rn_iastore (k' := 65) rfl rfl K0_122 (by omega) (by omega) ?_
          refine rn_iinc (k' := 66) (L' := [some (mR 118), some (mI (1)), some (mI (1 + (4 * (μ 118 41)))), some (mI (0 + 1 + 1)), none]) rfl rfl rfl (by omega) rfl ?_
          refine rn_goto rfl ?_
          refine rn_iload_n (k' := 56) rfl rfl rfl ?_
          refine rn_iconst (k' := 57) rfl rfl ?_
          refine rn_icmp_ge (k' := 58) rfl rfl (fun hc5 => ?_) (fun hc5 => ?_)
          · exfalso; omega
          · skip
            refine rn_aload_n (k' := 59) rfl rfl rfl ?_
            refine rn_getR (k' := 60) rfl rfl K0_118 (by decide) rfl R0_118_8 ?_
            refine rn_iload_n (k' := 61) rfl rfl rfl ?_
            refine rn_iload_n (k' := 62) rfl rfl rfl ?_
            refine rn_iadd (k' := 63) rfl rfl (by omega) ?_
            refine rn_iconst (k' := 64) rfl rfl ?_
            refine rn_iastore (k' := 65) rfl rfl K0_122 (by omega) (by omega) ?_
            refine rn_iinc (k' := 66) (L' := [some (mR 118), some (mI (1)), some (mI (1 + (4 * (μ 118 41)))), some (mI (0 + 1 + 1 + 1)), none]) rfl rfl rfl (by omega) rfl ?_
            refine rn_goto rfl ?_
            refine rn_iload_n (k' := 56) rfl rfl rfl ?_
            refine rn_iconst (k' := 57) rfl rfl ?_
            refine rn_icmp_ge (k' := 58) rfl rfl (fun hc6 => ?_) (fun hc6 => ?_)
            · exfalso; omega
            · skip
              refine rn_aload_n (k' := 59) rfl rfl rfl ?_
              refine rn_getR (k' := 60) rfl rfl K0_118 (by decide) rfl R0_118_8 ?_
              refine rn_iload_n (k' := 61) rfl rfl rfl ?_
              refine rn_iload_n (k' := 62) rfl rfl rfl ?_
              refine rn_iadd (k' := 63) rfl rfl (by omega) ?_
              refine rn_iconst (k' := 64) rfl rfl ?_
              refine rn_iastore (k' := 65) rfl rfl K0_122 (by omega) (by omega) ?_
              refine rn_iinc (k' := 66) (L' := [some (mR 118), some (mI (1)), some (mI (1 + (4 * (μ 118 41)))), some (mI (0 + 1 + 1 + 1 + 1)), none]) rfl rfl rfl (by omega) rfl ?_
              refine rn_goto rfl ?_
              refine rn_iload_n (k' := 56) rfl rfl rfl ?_
              refine rn_iconst (k' := 57) rfl rfl ?_
              refine rn_icmp_ge (k' := 58) rfl rfl (fun hc7 => ?_) (fun hc7 => ?_)
              · skip
                refine rn_aload_n (k' := 68) rfl rfl rfl ?_
                refine rn_getR (k' := 69) rfl rfl K0_118 (by decide) rfl R0_118_8 ?_
                refine rn_iload_n (k' := 70) rfl rfl rfl ?_
                refine rn_iload_n (k' := 71) rfl rfl rfl ?_
                refine rn_iastore (k' := 72) rfl rfl K0_122 (by omega) (by omega) ?_
                refine rn_aload_n (k' := 73) rfl rfl rfl ?_
                obtain ⟨Ha, ⟨hma, hfa_⟩, hca⟩ := g_next2 (μ := (m_set (m_set (m_set (m_set (m_set μ 122 (((1 + (4 * (μ 118 41))) + 0).toNat) (0)) 122 (((1 + (4 * (μ 118 41))) + (0 + 1)).toNat) (0)) 122 (((1 + (4 * (μ 118 41))) + (0 + 1 + 1)).toNat) (0)) 122 (((1 + (4 * (μ 118 41))) + (0 + 1 + 1 + 1)).toNat) (0)) 122 ((1 + (4 * (μ 118 41))).toNat) (1))) (c := c) (s := s) (b := b) (n := n) (m := m) (p := p) hM (by omega)
                have hfa : FRt Ha _ := hfa_.t
                have hM0 : MSt (m_upd (m_set (m_set (m_set (m_set (m_set μ 122 (((1 + (4 * (μ 118 41))) + 0).toNat) (0)) 122 (((1 + (4 * (μ 118 41))) + (0 + 1)).toNat) (0)) 122 (((1 + (4 * (μ 118 41))) + (0 + 1 + 1)).toNat) (0)) 122 (((1 + (4 * (μ 118 41))) + (0 + 1 + 1 + 1)).toNat) (0)) 122 ((1 + (4 * (μ 118 41))).toNat) (1)) 118 Ha) b n m (tkN b n m p) := ⟨hM.1, hM.2.1, hM.2.2.1, (tkN_b hM.2.2.2.1).2.1, hma⟩
                obtain ⟨_, _, u12, u11, _, u17, _, _⟩ := hma
                have hu : Ha 11 = 1 := by rw [u11]; exact mkk_1.mpr k0
                have hw := w0 _ (u17 k0)
                have hd := d0 _ (u17 k0)
                refine rn_callP (k' := 74) (y := 175) (vs := [mR 118]) (S' := []) (v := none) (h' := mkh (m_upd (m_set (m_set (m_set (m_set (m_set μ 122 (((1 + (4 * (μ 118 41))) + 0).toNat) (0)) 122 (((1 + (4 * (μ 118 41))) + (0 + 1)).toNat) (0)) 122 (((1 + (4 * (μ 118 41))) + (0 + 1 + 1)).toNat) (0)) 122 (((1 + (4 * (μ 118 41))) + (0 + 1 + 1 + 1)).toNat) (0)) 122 ((1 + (4 * (μ 118 41))).toNat) (1)) 118 Ha) c s) rfl rfl rfl (hca) ?_
                show Rn PT none kX12_planLine 74 [some (mR 118), some (mI (1)), some (mI (1 + (4 * (μ 118 41)))), some (mI (0 + 1 + 1 + 1 + 1)), none] [] (mkh (m_upd (m_set (m_set (m_set (m_set (m_set μ 122 (((1 + (4 * (μ 118 41))) + 0).toNat) (0)) 122 (((1 + (4 * (μ 118 41))) + (0 + 1)).toNat) (0)) 122 (((1 + (4 * (μ 118 41))) + (0 + 1 + 1)).toNat) (0)) 122 (((1 + (4 * (μ 118 41))) + (0 + 1 + 1 + 1)).toNat) (0)) 122 ((1 + (4 * (μ 118 41))).toNat) (1)) 118 Ha) c s) _
                refine rn_iload_n (k' := 75) rfl rfl rfl ?_
                refine rn_iconst (k' := 76) rfl rfl ?_
                refine rn_icmp_ne (k' := 77) rfl rfl (fun hc8 => ?_) (fun hc8 => ?_)
                · skip
                  refine rn_iload_n (k' := 80) rfl rfl rfl ?_
                  refine rn_iconst (k' := 81) rfl rfl ?_
                  refine rn_icmp_ne (k' := 82) rfl rfl (fun hc9 => ?_) (fun hc9 => ?_)
                  · skip
                    refine rn_aload_n (k' := 100) rfl rfl rfl ?_
                    refine rn_callP (k' := 101) (y := 180) (vs := [mR 118]) (S' := []) (v := some (mI (1))) (h' := mkh (m_upd (m_set (m_set (m_set (m_set (m_set μ 122 (((1 + (4 * (μ 118 41))) + 0).toNat) (0)) 122 (((1 + (4 * (μ 118 41))) + (0 + 1)).toNat) (0)) 122 (((1 + (4 * (μ 118 41))) + (0 + 1 + 1)).toNat) (0)) 122 (((1 + (4 * (μ 118 41))) + (0 + 1 + 1 + 1)).toNat) (0)) 122 ((1 + (4 * (μ 118 41))).toNat) (1)) 118 Ha) c s) rfl rfl rfl (by have hz : Cl PT 180 [mR 118] (mkh (m_upd (m_set (m_set (m_set (m_set (m_set μ 122 (((1 + (4 * (μ 118 41))) + 0).toNat) (0)) 122 (((1 + (4 * (μ 118 41))) + (0 + 1)).toNat) (0)) 122 (((1 + (4 * (μ 118 41))) + (0 + 1 + 1)).toNat) (0)) 122 (((1 + (4 * (μ 118 41))) + (0 + 1 + 1 + 1)).toNat) (0)) 122 ((1 + (4 * (μ 118 41))).toNat) (1)) 118 Ha) c s) (fun r => r = (some (some (mI (if Ha 11 = 1 ∧ ix (μ 124) (Ha 17) 16 0 = -1 then 1 else 0))), mkh (m_upd (m_set (m_set (m_set (m_set (m_set μ 122 (((1 + (4 * (μ 118 41))) + 0).toNat) (0)) 122 (((1 + (4 * (μ 118 41))) + (0 + 1)).toNat) (0)) 122 (((1 + (4 * (μ 118 41))) + (0 + 1 + 1)).toNat) (0)) 122 (((1 + (4 * (μ 118 41))) + (0 + 1 + 1 + 1)).toNat) (0)) 122 ((1 + (4 * (μ 118 41))).toNat) (1)) 118 Ha) c s)) := c_X12_isName (μ := (m_upd (m_set (m_set (m_set (m_set (m_set μ 122 (((1 + (4 * (μ 118 41))) + 0).toNat) (0)) 122 (((1 + (4 * (μ 118 41))) + (0 + 1)).toNat) (0)) 122 (((1 + (4 * (μ 118 41))) + (0 + 1 + 1)).toNat) (0)) 122 (((1 + (4 * (μ 118 41))) + (0 + 1 + 1 + 1)).toNat) (0)) 122 ((1 + (4 * (μ 118 41))).toNat) (1)) 118 Ha)) (c := c) (s := s); rw [if_pos (show Ha 11 = 1 ∧ ix (μ 124) (Ha 17) 16 0 = -1 from ⟨hu, hw⟩)] at hz; exact hz) ?_
                    show Rn PT none kX12_planLine 101 [some (mR 118), some (mI (1)), some (mI (1 + (4 * (μ 118 41)))), some (mI (0 + 1 + 1 + 1 + 1)), none] [mI (1)] (mkh (m_upd (m_set (m_set (m_set (m_set (m_set μ 122 (((1 + (4 * (μ 118 41))) + 0).toNat) (0)) 122 (((1 + (4 * (μ 118 41))) + (0 + 1)).toNat) (0)) 122 (((1 + (4 * (μ 118 41))) + (0 + 1 + 1)).toNat) (0)) 122 (((1 + (4 * (μ 118 41))) + (0 + 1 + 1 + 1)).toNat) (0)) 122 ((1 + (4 * (μ 118 41))).toNat) (1)) 118 Ha) c s) _
                    refine rn_if_ne (k' := 102) rfl rfl (fun hc10 => ?_) (fun hc10 => ?_)
                    · skip
                      refine rn_aload_n (k' := 107) rfl rfl rfl ?_
                      refine rn_iconst (k' := 108) rfl rfl ?_
                      refine rn_aload_n (k' := 109) rfl rfl rfl ?_
                      refine rn_getR (k' := 110) rfl rfl K0_118 (by decide) rfl R0_118_6 ?_
                      refine rn_bipush (k' := 111) rfl rfl ?_
                      refine rn_iaload (k' := 112) rfl rfl K0_120 (by omega) (by omega) ?_
                      show Rn PT none kX12_planLine 112 [some (mR 118), some (mI (1)), some (mI (1 + (4 * (μ 118 41)))), some (mI (0 + 1 + 1 + 1 + 1)), none] [mI (μ 120 8), mI (0), mR 118] (mkh (m_upd (m_set (m_set (m_set (m_set (m_set μ 122 (((1 + (4 * (μ 118 41))) + 0).toNat) (0)) 122 (((1 + (4 * (μ 118 41))) + (0 + 1)).toNat) (0)) 122 (((1 + (4 * (μ 118 41))) + (0 + 1 + 1)).toNat) (0)) 122 (((1 + (4 * (μ 118 41))) + (0 + 1 + 1 + 1)).toNat) (0)) 122 ((1 + (4 * (μ 118 41))).toNat) (1)) 118 Ha) c s) _
                      have hfb9 := ix_b (f := fun j => μ 123 (0 + j)) (v := Ha 17) k9 0
                      refine rn_callP (k' := 113) (y := 182) (vs := [mR 118, mI (0), mI (μ 120 8)]) (S' := []) (v := some (mI (ix (fun j => μ 123 (0 + j)) (Ha 17) k9 0))) (h' := mkh (m_upd (m_set (m_set (m_set (m_set (m_set μ 122 (((1 + (4 * (μ 118 41))) + 0).toNat) (0)) 122 (((1 + (4 * (μ 118 41))) + (0 + 1)).toNat) (0)) 122 (((1 + (4 * (μ 118 41))) + (0 + 1 + 1)).toNat) (0)) 122 (((1 + (4 * (μ 118 41))) + (0 + 1 + 1 + 1)).toNat) (0)) 122 ((1 + (4 * (μ 118 41))).toNat) (1)) 118 Ha) c s) rfl rfl rfl (by have hz := c_find (μ := (m_upd (m_set (m_set (m_set (m_set (m_set μ 122 (((1 + (4 * (μ 118 41))) + 0).toNat) (0)) 122 (((1 + (4 * (μ 118 41))) + (0 + 1)).toNat) (0)) 122 (((1 + (4 * (μ 118 41))) + (0 + 1 + 1)).toNat) (0)) 122 (((1 + (4 * (μ 118 41))) + (0 + 1 + 1 + 1)).toNat) (0)) 122 ((1 + (4 * (μ 118 41))).toNat) (1)) 118 Ha)) (c := c) (s := s) (o9 := 0) (k9 := k9) (by decide) hk9; rw [← h8] at hz; exact hz) ?_
                      show Rn PT none kX12_planLine 113 [some (mR 118), some (mI (1)), some (mI (1 + (4 * (μ 118 41)))), some (mI (0 + 1 + 1 + 1 + 1)), none] [mI (ix (fun j => μ 123 (0 + j)) (Ha 17) k9 0)] (mkh (m_upd (m_set (m_set (m_set (m_set (m_set μ 122 (((1 + (4 * (μ 118 41))) + 0).toNat) (0)) 122 (((1 + (4 * (μ 118 41))) + (0 + 1)).toNat) (0)) 122 (((1 + (4 * (μ 118 41))) + (0 + 1 + 1)).toNat) (0)) 122 (((1 + (4 * (μ 118 41))) + (0 + 1 + 1 + 1)).toNat) (0)) 122 ((1 + (4 * (μ 118 41))).toNat) (1)) 118 Ha) c s) _
                      refine rn_istore_n (k' := 114) (L' := [some (mR 118), some (mI (1)), some (mI (1 + (4 * (μ 118 41)))), some (mI (ix (fun j => μ 123 (0 + j)) (Ha 17) k9 0)), none]) rfl rfl (Nat.le_of_ble_eq_true rfl) rfl ?_
                      refine rn_iload_n (k' := 115) rfl rfl rfl ?_
                      refine rn_if_ge (k' := 116) rfl rfl (fun hc11 => ?_) (fun hc11 => ?_)
                      · skip
                        refine rn_aload_n (k' := 121) rfl rfl rfl ?_
                        refine rn_getR (k' := 122) rfl rfl K0_118 (by decide) rfl R0_118_8 ?_
                        refine rn_iload_n (k' := 123) rfl rfl rfl ?_
                        refine rn_iconst (k' := 124) rfl rfl ?_
                        refine rn_iadd (k' := 125) rfl rfl (by omega) ?_
                        refine rn_iload_n (k' := 126) rfl rfl rfl ?_
                        refine rn_iastore (k' := 127) rfl rfl K0_122 (by omega) (by omega) ?_
                        refine rn_aload_n (k' := 128) rfl rfl rfl ?_
                        obtain ⟨Hb, ⟨hmb, hfb_⟩, hcb⟩ := g_next2 (μ := (m_set (m_upd (m_set (m_set (m_set (m_set (m_set μ 122 (((1 + (4 * (μ 118 41))) + 0).toNat) (0)) 122 (((1 + (4 * (μ 118 41))) + (0 + 1)).toNat) (0)) 122 (((1 + (4 * (μ 118 41))) + (0 + 1 + 1)).toNat) (0)) 122 (((1 + (4 * (μ 118 41))) + (0 + 1 + 1 + 1)).toNat) (0)) 122 ((1 + (4 * (μ 118 41))).toNat) (1)) 118 Ha) 122 (((1 + (4 * (μ 118 41))) + 1).toNat) (ix (fun j => μ 123 (0 + j)) (Ha 17) k9 0))) (c := c) (s := s) (b := b) (n := n) (m := m) (p := (tkN b n m p)) hM0 (by omega)
                        have hfb : FRt Hb _ := hfb_.t
                        have hM1 : MSt (m_upd (m_set (m_upd (m_set (m_set (m_set (m_set (m_set μ 122 (((1 + (4 * (μ 118 41))) + 0).toNat) (0)) 122 (((1 + (4 * (μ 118 41))) + (0 + 1)).toNat) (0)) 122 (((1 + (4 * (μ 118 41))) + (0 + 1 + 1)).toNat) (0)) 122 (((1 + (4 * (μ 118 41))) + (0 + 1 + 1 + 1)).toNat) (0)) 122 ((1 + (4 * (μ 118 41))).toNat) (1)) 118 Ha) 122 (((1 + (4 * (μ 118 41))) + 1).toNat) (ix (fun j => μ 123 (0 + j)) (Ha 17) k9 0)) 118 Hb) b n m (tkN b n m (tkN b n m p)) := ⟨hM0.1, hM0.2.1, hM0.2.2.1, (tkN_b hM0.2.2.2.1).2.1, hmb⟩
                        refine rn_callP (k' := 129) (y := 175) (vs := [mR 118]) (S' := []) (v := none) (h' := mkh (m_upd (m_set (m_upd (m_set (m_set (m_set (m_set (m_set μ 122 (((1 + (4 * (μ 118 41))) + 0).toNat) (0)) 122 (((1 + (4 * (μ 118 41))) + (0 + 1)).toNat) (0)) 122 (((1 + (4 * (μ 118 41))) + (0 + 1 + 1)).toNat) (0)) 122 (((1 + (4 * (μ 118 41))) + (0 + 1 + 1 + 1)).toNat) (0)) 122 ((1 + (4 * (μ 118 41))).toNat) (1)) 118 Ha) 122 (((1 + (4 * (μ 118 41))) + 1).toNat) (ix (fun j => μ 123 (0 + j)) (Ha 17) k9 0)) 118 Hb) c s) rfl rfl rfl (hcb) ?_
                        show Rn PT none kX12_planLine 129 [some (mR 118), some (mI (1)), some (mI (1 + (4 * (μ 118 41)))), some (mI (ix (fun j => μ 123 (0 + j)) (Ha 17) k9 0)), none] [] (mkh (m_upd (m_set (m_upd (m_set (m_set (m_set (m_set (m_set μ 122 (((1 + (4 * (μ 118 41))) + 0).toNat) (0)) 122 (((1 + (4 * (μ 118 41))) + (0 + 1)).toNat) (0)) 122 (((1 + (4 * (μ 118 41))) + (0 + 1 + 1)).toNat) (0)) 122 (((1 + (4 * (μ 118 41))) + (0 + 1 + 1 + 1)).toNat) (0)) 122 ((1 + (4 * (μ 118 41))).toNat) (1)) 118 Ha) 122 (((1 + (4 * (μ 118 41))) + 1).toNat) (ix (fun j => μ 123 (0 + j)) (Ha 17) k9 0)) 118 Hb) c s) _
                        refine rn_iload_n (k' := 130) rfl rfl rfl ?_
                        refine rn_if_eq (k' := 131) rfl rfl (fun hc12 => ?_) (fun hc12 => ?_)
                        · exfalso; omega
                        · skip
                          refine rn_aload_n (k' := 132) rfl rfl rfl ?_
                          refine rn_iconst (k' := 133) rfl rfl ?_
                          refine rn_bipush (k' := 134) rfl rfl ?_
                          obtain ⟨H1, ⟨hm1, hv1, hf1⟩, hc1⟩ := g_takes (μ := (m_upd (m_set (m_upd (m_set (m_set (m_set (m_set (m_set μ 122 (((1 + (4 * (μ 118 41))) + 0).toNat) (0)) 122 (((1 + (4 * (μ 118 41))) + (0 + 1)).toNat) (0)) 122 (((1 + (4 * (μ 118 41))) + (0 + 1 + 1)).toNat) (0)) 122 (((1 + (4 * (μ 118 41))) + (0 + 1 + 1 + 1)).toNat) (0)) 122 ((1 + (4 * (μ 118 41))).toNat) (1)) 118 Ha) 122 (((1 + (4 * (μ 118 41))) + 1).toNat) (ix (fun j => μ 123 (0 + j)) (Ha 17) k9 0)) 118 Hb)) (c := c) (s := s) (b := b) (n := n) (m := m) (p := (tkN b n m (tkN b n m p))) (lo := 1) (hi := 99) hM1 e1
                          have hM2 : MSt (m_upd (m_upd (m_set (m_upd (m_set (m_set (m_set (m_set (m_set μ 122 (((1 + (4 * (μ 118 41))) + 0).toNat) (0)) 122 (((1 + (4 * (μ 118 41))) + (0 + 1)).toNat) (0)) 122 (((1 + (4 * (μ 118 41))) + (0 + 1 + 1)).toNat) (0)) 122 (((1 + (4 * (μ 118 41))) + (0 + 1 + 1 + 1)).toNat) (0)) 122 ((1 + (4 * (μ 118 41))).toNat) (1)) 118 Ha) 122 (((1 + (4 * (μ 118 41))) + 1).toNat) (ix (fun j => μ 123 (0 + j)) (Ha 17) k9 0)) 118 Hb) 118 H1) b n m (tkN b n m (tkN b n m (tkN b n m p))) := ⟨hM1.1, hM1.2.1, hM1.2.2.1, (tkN_b hM1.2.2.2.1).2.1, hm1⟩
                          have kk1 := eN_ok e1
                          have kx1 := tk_num kk1.1
                          refine rn_callP (k' := 135) (y := 181) (vs := [mR 118, mI (1), mI (99)]) (S' := []) (v := some (mI (1))) (h' := mkh (m_upd (m_upd (m_set (m_upd (m_set (m_set (m_set (m_set (m_set μ 122 (((1 + (4 * (μ 118 41))) + 0).toNat) (0)) 122 (((1 + (4 * (μ 118 41))) + (0 + 1)).toNat) (0)) 122 (((1 + (4 * (μ 118 41))) + (0 + 1 + 1)).toNat) (0)) 122 (((1 + (4 * (μ 118 41))) + (0 + 1 + 1 + 1)).toNat) (0)) 122 ((1 + (4 * (μ 118 41))).toNat) (1)) 118 Ha) 122 (((1 + (4 * (μ 118 41))) + 1).toNat) (ix (fun j => μ 123 (0 + j)) (Ha 17) k9 0)) 118 Hb) 118 H1) c s) rfl rfl rfl (hc1) ?_
                          show Rn PT none kX12_planLine 135 [some (mR 118), some (mI (1)), some (mI (1 + (4 * (μ 118 41)))), some (mI (ix (fun j => μ 123 (0 + j)) (Ha 17) k9 0)), none] [mI (1)] (mkh (m_upd (m_upd (m_set (m_upd (m_set (m_set (m_set (m_set (m_set μ 122 (((1 + (4 * (μ 118 41))) + 0).toNat) (0)) 122 (((1 + (4 * (μ 118 41))) + (0 + 1)).toNat) (0)) 122 (((1 + (4 * (μ 118 41))) + (0 + 1 + 1)).toNat) (0)) 122 (((1 + (4 * (μ 118 41))) + (0 + 1 + 1 + 1)).toNat) (0)) 122 ((1 + (4 * (μ 118 41))).toNat) (1)) 118 Ha) 122 (((1 + (4 * (μ 118 41))) + 1).toNat) (ix (fun j => μ 123 (0 + j)) (Ha 17) k9 0)) 118 Hb) 118 H1) c s) _
                          refine rn_if_ne (k' := 136) rfl rfl (fun hc13 => ?_) (fun hc13 => ?_)
                          · skip
                            refine rn_aload_n (k' := 139) rfl rfl rfl ?_
                            refine rn_getR (k' := 140) rfl rfl K0_118 (by decide) rfl R0_118_8 ?_
                            refine rn_iload_n (k' := 141) rfl rfl rfl ?_
                            refine rn_iconst (k' := 142) rfl rfl ?_
                            refine rn_iadd (k' := 143) rfl rfl (by omega) ?_
                            refine rn_aload_n (k' := 144) rfl rfl rfl ?_
                            refine rn_getI (k' := 145) rfl rfl K0_118 (by decide) rfl ?_
                            show Rn PT none kX12_planLine 145 [some (mR 118), some (mI (1)), some (mI (1 + (4 * (μ 118 41)))), some (mI (ix (fun j => μ 123 (0 + j)) (Ha 17) k9 0)), none] [mI (H1 18), mI ((1 + (4 * (μ 118 41))) + 2), mR 122] (mkh (m_upd (m_upd (m_set (m_upd (m_set (m_set (m_set (m_set (m_set μ 122 (((1 + (4 * (μ 118 41))) + 0).toNat) (0)) 122 (((1 + (4 * (μ 118 41))) + (0 + 1)).toNat) (0)) 122 (((1 + (4 * (μ 118 41))) + (0 + 1 + 1)).toNat) (0)) 122 (((1 + (4 * (μ 118 41))) + (0 + 1 + 1 + 1)).toNat) (0)) 122 ((1 + (4 * (μ 118 41))).toNat) (1)) 118 Ha) 122 (((1 + (4 * (μ 118 41))) + 1).toNat) (ix (fun j => μ 123 (0 + j)) (Ha 17) k9 0)) 118 Hb) 118 H1) c s) _
                            refine rn_iastore (k' := 146) rfl rfl K0_122 (by omega) (by omega) ?_
                            refine rn_iconst (k' := 147) rfl rfl ?_
                            refine rn_iret rfl (Or.inr (by omega)) ?_
                            refine ⟨_, rfl, hM2, (FrmQ.s2 (FrmQ.u (FrmQ.u (FrmQ.s2 (FrmQ.u (FrmQ.s2 (FrmQ.s2 (FrmQ.s2 (FrmQ.s2 (FrmQ.s2 FrmQ.r))))) hfa)) hfb) hf1)), ((hf1 15 (by decide) (by decide) (by decide) (by decide) (by decide) (by decide) (by decide)).trans ((hfb 15 (by decide) (by decide) (by decide) (by decide) (by decide) (by decide) (by decide)).trans ((hfa 15 (by decide) (by decide) (by decide) (by decide) (by decide) (by decide) (by decide)).trans rfl))), ((set_mis (by omega)).trans ((set_mis (by omega)).trans (set_hit (by omega)))), ⟨Ha 17, u17 k0, ((set_mis (by omega)).trans (set_hit (by omega)))⟩, ((set_hit (by omega)).trans hv1), (fun j hj => ((set_mis (by omega)).trans ((set_mis (by omega)).trans ((set_mis (by omega)).trans ((set_mis (by omega)).trans ((set_mis (by omega)).trans ((set_mis (by omega)).trans ((set_mis (by omega)).trans rfl))))))))⟩
                          · exfalso; omega
                      · exfalso; omega
                    · exfalso; omega
                  · exfalso; omega
                · exfalso; omega
              · exfalso; omega
    · exfalso; omega
  · exfalso; omega
set_option maxHeartbeats 1000000 in
theorem m_pl13_x0 {μ : Nat → Nat → Int} {c s : Nat} {b : Nat → Int} {n m p : Nat} (hM : MSt μ b n m p) (hk : tkK b n m p = 1) {l9 : Nat} (hl : μ 118 41 = (l9 : Int)) (hl9 : l9 ≤ 30) (hl3 : ¬ l9 = 30) {k9 : Nat} (hk9 : k9 ≤ 8) (h8 : μ 120 8 = (k9 : Int)) (w0 : tkK b n m (tkN b n m p) = 1 → ∀ y, Nm (tkV b n m (tkN b n m p)) y → ¬ ix (μ 124) y 16 0 = -1) : Rn PT none kX12_planLine 32 [some (mR 118), some (mI (2)), none, none, none] [] (mkh μ c s) (fun r => ∃ ν', r = (some (some (mI 0)), mkh ν' c s) ∧ ν' 118 15 = 1 ∧ ν' 118 16 = ((tkP b n m (tkN b n m p) : Nat) : Int) ∧ FrmQ μ ν') := by
  refine rn_iload_n (k' := 33) rfl rfl rfl ?_
  refine rn_if_ge (k' := 34) rfl rfl (fun hc1 => ?_) (fun hc1 => ?_)
  · skip
    refine rn_aload_n (k' := 39) rfl rfl rfl ?_
    refine rn_getI (k' := 40) rfl rfl K0_118 (by decide) rfl ?_
    refine rn_bipush (k' := 41) rfl rfl ?_
    refine rn_icmp_ne (k' := 42) rfl rfl (fun hc2 => ?_) (fun hc2 => ?_)
    · skip
      refine rn_iconst (k' := 47) rfl rfl ?_
      refine rn_iconst (k' := 48) rfl rfl ?_
      refine rn_aload_n (k' := 49) rfl rfl rfl ?_
      refine rn_getI (k' := 50) rfl rfl K0_118 (by decide) rfl ?_
      refine rn_imul (k' := 51) rfl rfl (by omega) ?_
      refine rn_iadd (k' := 52) rfl rfl (by omega) ?_
      refine rn_istore_n (k' := 53) (L' := [some (mR 118), some (mI (2)), some (mI (1 + (4 * (μ 118 41)))), none, none]) rfl rfl (Nat.le_of_ble_eq_true rfl) rfl ?_
      refine rn_iconst (k' := 54) rfl rfl ?_
      refine rn_istore_n (k' := 55) (L' := [some (mR 118), some (mI (2)), some (mI (1 + (4 * (μ 118 41)))), some (mI (0)), none]) rfl rfl (Nat.le_of_ble_eq_true rfl) rfl ?_
      refine rn_iload_n (k' := 56) rfl rfl rfl ?_
      refine rn_iconst (k' := 57) rfl rfl ?_
      refine rn_icmp_ge (k' := 58) rfl rfl (fun hc3 => ?_) (fun hc3 => ?_)
      · exfalso; omega
      · skip
        refine rn_aload_n (k' := 59) rfl rfl rfl ?_
        refine rn_getR (k' := 60) rfl rfl K0_118 (by decide) rfl R0_118_8 ?_
        refine rn_iload_n (k' := 61) rfl rfl rfl ?_
        refine rn_iload_n (k' := 62) rfl rfl rfl ?_
        refine rn_iadd (k' := 63) rfl rfl (by omega) ?_
        refine rn_iconst (k' := 64) rfl rfl ?_
        refine rn_iastore (k' := 65) rfl rfl K0_122 (by omega) (by omega) ?_
        refine rn_iinc (k' := 66) (L' := [some (mR 118), some (mI (2)), some (mI (1 + (4 * (μ 118 41)))), some (mI (0 + 1)), none]) rfl rfl rfl (by omega) rfl ?_
        refine rn_goto rfl ?_
        refine rn_iload_n (k' := 56) rfl rfl rfl ?_
        refine rn_iconst (k' := 57) rfl rfl ?_
        refine rn_icmp_ge (k' := 58) rfl rfl (fun hc4 => ?_) (fun hc4 => ?_)
        · exfalso; omega
        · skip
          refine rn_aload_n (k' := 59) rfl rfl rfl ?_
          refine rn_getR (k' := 60) rfl rfl K0_118 (by decide) rfl R0_118_8 ?_
          refine rn_iload_n (k' := 61) rfl rfl rfl ?_
          refine rn_iload_n (k' := 62) rfl rfl rfl ?_
          refine rn_iadd (k' := 63) rfl rfl (by omega) ?_
          refine rn_iconst (k' := 64) rfl rfl ?_
          refine rn_iastore (k' := 65) rfl rfl K0_122 (by omega) (by omega) ?_
          refine rn_iinc (k' := 66) (L' := [some (mR 118), some (mI (2)), some (mI (1 + (4 * (μ 118 41)))), some (mI (0 + 1 + 1)), none]) rfl rfl rfl (by omega) rfl ?_
          refine rn_goto rfl ?_
          refine rn_iload_n (k' := 56) rfl rfl rfl ?_
          refine rn_iconst (k' := 57) rfl rfl ?_
          refine rn_icmp_ge (k' := 58) rfl rfl (fun hc5 => ?_) (fun hc5 => ?_)
          · exfalso; omega
          · skip
            refine rn_aload_n (k' := 59) rfl rfl rfl ?_
            refine rn_getR (k' := 60) rfl rfl K0_118 (by decide) rfl R0_118_8 ?_
            refine rn_iload_n (k' := 61) rfl rfl rfl ?_
            refine rn_iload_n (k' := 62) rfl rfl rfl ?_
            refine rn_iadd (k' := 63) rfl rfl (by omega) ?_
            refine rn_iconst (k' := 64) rfl rfl ?_
            refine rn_iastore (k' := 65) rfl rfl K0_122 (by omega) (by omega) ?_
            refine rn_iinc (k' := 66) (L' := [some (mR 118), some (mI (2)), some (mI (1 + (4 * (μ 118 41)))), some (mI (0 + 1 + 1 + 1)), none]) rfl rfl rfl (by omega) rfl ?_
            refine rn_goto rfl ?_
            refine rn_iload_n (k' := 56) rfl rfl rfl ?_
            refine rn_iconst (k' := 57) rfl rfl ?_
            refine rn_icmp_ge (k' := 58) rfl rfl (fun hc6 => ?_) (fun hc6 => ?_)
            · exfalso; omega
            · skip
              refine rn_aload_n (k' := 59) rfl rfl rfl ?_
              refine rn_getR (k' := 60) rfl rfl K0_118 (by decide) rfl R0_118_8 ?_
              refine rn_iload_n (k' := 61) rfl rfl rfl ?_
              refine rn_iload_n (k' := 62) rfl rfl rfl ?_
              refine rn_iadd (k' := 63) rfl rfl (by omega) ?_
              refine rn_iconst (k' := 64) rfl rfl ?_
              refine rn_iastore (k' := 65) rfl rfl K0_122 (by omega) (by omega) ?_
              refine rn_iinc (k' := 66) (L' := [some (mR 118), some (mI (2)), some (mI (1 + (4 * (μ 118 41)))), some (mI (0 + 1 + 1 + 1 + 1)), none]) rfl rfl rfl (by omega) rfl ?_
              refine rn_goto rfl ?_
              refine rn_iload_n (k' := 56) rfl rfl rfl ?_
              refine rn_iconst (k' := 57) rfl rfl ?_
              refine rn_icmp_ge (k' := 58) rfl rfl (fun hc7 => ?_) (fun hc7 => ?_)
              · skip
                refine rn_aload_n (k' := 68) rfl rfl rfl ?_
                refine rn_getR (k' := 69) rfl rfl K0_118 (by decide) rfl R0_118_8 ?_
                refine rn_iload_n (k' := 70) rfl rfl rfl ?_
                refine rn_iload_n (k' := 71) rfl rfl rfl ?_
                refine rn_iastore (k' := 72) rfl rfl K0_122 (by omega) (by omega) ?_
                refine rn_aload_n (k' := 73) rfl rfl rfl ?_
                obtain ⟨Ha, ⟨hma, hfa_⟩, hca⟩ := g_next2 (μ := (m_set (m_set (m_set (m_set (m_set μ 122 (((1 + (4 * (μ 118 41))) + 0).toNat) (0)) 122 (((1 + (4 * (μ 118 41))) + (0 + 1)).toNat) (0)) 122 (((1 + (4 * (μ 118 41))) + (0 + 1 + 1)).toNat) (0)) 122 (((1 + (4 * (μ 118 41))) + (0 + 1 + 1 + 1)).toNat) (0)) 122 ((1 + (4 * (μ 118 41))).toNat) (2))) (c := c) (s := s) (b := b) (n := n) (m := m) (p := p) hM (by omega)
                have hfa : FRt Ha _ := hfa_.t
                have hM0 : MSt (m_upd (m_set (m_set (m_set (m_set (m_set μ 122 (((1 + (4 * (μ 118 41))) + 0).toNat) (0)) 122 (((1 + (4 * (μ 118 41))) + (0 + 1)).toNat) (0)) 122 (((1 + (4 * (μ 118 41))) + (0 + 1 + 1)).toNat) (0)) 122 (((1 + (4 * (μ 118 41))) + (0 + 1 + 1 + 1)).toNat) (0)) 122 ((1 + (4 * (μ 118 41))).toNat) (2)) 118 Ha) b n m (tkN b n m p) := ⟨hM.1, hM.2.1, hM.2.2.1, (tkN_b hM.2.2.2.1).2.1, hma⟩
                obtain ⟨_, _, u12, u11, _, u17, _, _⟩ := hma
                refine rn_callP (k' := 74) (y := 175) (vs := [mR 118]) (S' := []) (v := none) (h' := mkh (m_upd (m_set (m_set (m_set (m_set (m_set μ 122 (((1 + (4 * (μ 118 41))) + 0).toNat) (0)) 122 (((1 + (4 * (μ 118 41))) + (0 + 1)).toNat) (0)) 122 (((1 + (4 * (μ 118 41))) + (0 + 1 + 1)).toNat) (0)) 122 (((1 + (4 * (μ 118 41))) + (0 + 1 + 1 + 1)).toNat) (0)) 122 ((1 + (4 * (μ 118 41))).toNat) (2)) 118 Ha) c s) rfl rfl rfl (hca) ?_
                show Rn PT none kX12_planLine 74 [some (mR 118), some (mI (2)), some (mI (1 + (4 * (μ 118 41)))), some (mI (0 + 1 + 1 + 1 + 1)), none] [] (mkh (m_upd (m_set (m_set (m_set (m_set (m_set μ 122 (((1 + (4 * (μ 118 41))) + 0).toNat) (0)) 122 (((1 + (4 * (μ 118 41))) + (0 + 1)).toNat) (0)) 122 (((1 + (4 * (μ 118 41))) + (0 + 1 + 1)).toNat) (0)) 122 (((1 + (4 * (μ 118 41))) + (0 + 1 + 1 + 1)).toNat) (0)) 122 ((1 + (4 * (μ 118 41))).toNat) (2)) 118 Ha) c s) _
                refine rn_iload_n (k' := 75) rfl rfl rfl ?_
                refine rn_iconst (k' := 76) rfl rfl ?_
                refine rn_icmp_ne (k' := 77) rfl rfl (fun hc8 => ?_) (fun hc8 => ?_)
                · skip
                  refine rn_iload_n (k' := 80) rfl rfl rfl ?_
                  refine rn_iconst (k' := 81) rfl rfl ?_
                  refine rn_icmp_ne (k' := 82) rfl rfl (fun hc9 => ?_) (fun hc9 => ?_)
                  · skip
                    refine rn_aload_n (k' := 100) rfl rfl rfl ?_
                    refine rn_callP (k' := 101) (y := 180) (vs := [mR 118]) (S' := []) (v := some (mI (0))) (h' := mkh (m_upd (m_set (m_set (m_set (m_set (m_set μ 122 (((1 + (4 * (μ 118 41))) + 0).toNat) (0)) 122 (((1 + (4 * (μ 118 41))) + (0 + 1)).toNat) (0)) 122 (((1 + (4 * (μ 118 41))) + (0 + 1 + 1)).toNat) (0)) 122 (((1 + (4 * (μ 118 41))) + (0 + 1 + 1 + 1)).toNat) (0)) 122 ((1 + (4 * (μ 118 41))).toNat) (2)) 118 Ha) c s) rfl rfl rfl (by have hz : Cl PT 180 [mR 118] (mkh (m_upd (m_set (m_set (m_set (m_set (m_set μ 122 (((1 + (4 * (μ 118 41))) + 0).toNat) (0)) 122 (((1 + (4 * (μ 118 41))) + (0 + 1)).toNat) (0)) 122 (((1 + (4 * (μ 118 41))) + (0 + 1 + 1)).toNat) (0)) 122 (((1 + (4 * (μ 118 41))) + (0 + 1 + 1 + 1)).toNat) (0)) 122 ((1 + (4 * (μ 118 41))).toNat) (2)) 118 Ha) c s) (fun r => r = (some (some (mI (if Ha 11 = 1 ∧ ix (μ 124) (Ha 17) 16 0 = -1 then 1 else 0))), mkh (m_upd (m_set (m_set (m_set (m_set (m_set μ 122 (((1 + (4 * (μ 118 41))) + 0).toNat) (0)) 122 (((1 + (4 * (μ 118 41))) + (0 + 1)).toNat) (0)) 122 (((1 + (4 * (μ 118 41))) + (0 + 1 + 1)).toNat) (0)) 122 (((1 + (4 * (μ 118 41))) + (0 + 1 + 1 + 1)).toNat) (0)) 122 ((1 + (4 * (μ 118 41))).toNat) (2)) 118 Ha) c s)) := c_X12_isName (μ := (m_upd (m_set (m_set (m_set (m_set (m_set μ 122 (((1 + (4 * (μ 118 41))) + 0).toNat) (0)) 122 (((1 + (4 * (μ 118 41))) + (0 + 1)).toNat) (0)) 122 (((1 + (4 * (μ 118 41))) + (0 + 1 + 1)).toNat) (0)) 122 (((1 + (4 * (μ 118 41))) + (0 + 1 + 1 + 1)).toNat) (0)) 122 ((1 + (4 * (μ 118 41))).toNat) (2)) 118 Ha)) (c := c) (s := s); rw [if_neg (show ¬ (Ha 11 = 1 ∧ ix (μ 124) (Ha 17) 16 0 = -1) from fun z => by have k0 := mkk_1.mp (u11.symm.trans z.1); exact w0 k0 _ (u17 k0) z.2)] at hz; exact hz) ?_
                    show Rn PT none kX12_planLine 101 [some (mR 118), some (mI (2)), some (mI (1 + (4 * (μ 118 41)))), some (mI (0 + 1 + 1 + 1 + 1)), none] [mI (0)] (mkh (m_upd (m_set (m_set (m_set (m_set (m_set μ 122 (((1 + (4 * (μ 118 41))) + 0).toNat) (0)) 122 (((1 + (4 * (μ 118 41))) + (0 + 1)).toNat) (0)) 122 (((1 + (4 * (μ 118 41))) + (0 + 1 + 1)).toNat) (0)) 122 (((1 + (4 * (μ 118 41))) + (0 + 1 + 1 + 1)).toNat) (0)) 122 ((1 + (4 * (μ 118 41))).toNat) (2)) 118 Ha) c s) _
                    refine rn_if_ne (k' := 102) rfl rfl (fun hc10 => ?_) (fun hc10 => ?_)
                    · exfalso; omega
                    · skip
                      refine rn_aload_n (k' := 103) rfl rfl rfl ?_
                      refine rn_iconst (k' := 104) rfl rfl ?_
                      refine rn_callP (k' := 105) (y := 176) (vs := [mR 118, mI (1)]) (S' := []) (v := some (mI (0))) (h' := mkh (m_set (m_set (m_upd (m_set (m_set (m_set (m_set (m_set μ 122 (((1 + (4 * (μ 118 41))) + 0).toNat) (0)) 122 (((1 + (4 * (μ 118 41))) + (0 + 1)).toNat) (0)) 122 (((1 + (4 * (μ 118 41))) + (0 + 1 + 1)).toNat) (0)) 122 (((1 + (4 * (μ 118 41))) + (0 + 1 + 1 + 1)).toNat) (0)) 122 ((1 + (4 * (μ 118 41))).toNat) (2)) 118 Ha) 118 15 (1)) 118 16 (Ha 12)) c s) rfl rfl rfl (g_bad (μ := (m_upd (m_set (m_set (m_set (m_set (m_set μ 122 (((1 + (4 * (μ 118 41))) + 0).toNat) (0)) 122 (((1 + (4 * (μ 118 41))) + (0 + 1)).toNat) (0)) 122 (((1 + (4 * (μ 118 41))) + (0 + 1 + 1)).toNat) (0)) 122 (((1 + (4 * (μ 118 41))) + (0 + 1 + 1 + 1)).toNat) (0)) 122 ((1 + (4 * (μ 118 41))).toNat) (2)) 118 Ha)) (e := 1)) ?_
                      show Rn PT none kX12_planLine 105 [some (mR 118), some (mI (2)), some (mI (1 + (4 * (μ 118 41)))), some (mI (0 + 1 + 1 + 1 + 1)), none] [mI (0)] (mkh (m_set (m_set (m_upd (m_set (m_set (m_set (m_set (m_set μ 122 (((1 + (4 * (μ 118 41))) + 0).toNat) (0)) 122 (((1 + (4 * (μ 118 41))) + (0 + 1)).toNat) (0)) 122 (((1 + (4 * (μ 118 41))) + (0 + 1 + 1)).toNat) (0)) 122 (((1 + (4 * (μ 118 41))) + (0 + 1 + 1 + 1)).toNat) (0)) 122 ((1 + (4 * (μ 118 41))).toNat) (2)) 118 Ha) 118 15 (1)) 118 16 (Ha 12)) c s) _
                      refine rn_iret rfl (Or.inr (by omega)) ?_
                      exact ⟨_, rfl, rfl, u12, (FrmQ.s (FrmQ.s (FrmQ.u (FrmQ.s2 (FrmQ.s2 (FrmQ.s2 (FrmQ.s2 (FrmQ.s2 FrmQ.r))))) hfa) (by decide)) (by decide))⟩
                  · exfalso; omega
                · exfalso; omega
              · exfalso; omega
    · exfalso; omega
  · exfalso; omega
set_option maxHeartbeats 1000000 in
theorem m_pl13_x1 {μ : Nat → Nat → Int} {c s : Nat} {b : Nat → Int} {n m p : Nat} (hM : MSt μ b n m p) (hk : tkK b n m p = 1) {l9 : Nat} (hl : μ 118 41 = (l9 : Int)) (hl9 : l9 ≤ 30) (hl3 : ¬ l9 = 30) {k9 : Nat} (hk9 : k9 ≤ 8) (h8 : μ 120 8 = (k9 : Int)) (k0 : tkK b n m (tkN b n m p) = 1) (w0 : ∀ y, Nm (tkV b n m (tkN b n m p)) y → ix (μ 124) y 16 0 = -1) (d0 : ∀ y, Nm (tkV b n m (tkN b n m p)) y → ¬ ix (fun j => μ 123 (0 + j)) y k9 0 = -1) (e1 : ¬ eN b n m (tkN b n m (tkN b n m p)) 1 99 = 0) : Rn PT none kX12_planLine 32 [some (mR 118), some (mI (2)), none, none, none] [] (mkh μ c s) (fun r => ∃ ν', r = (some (some (mI 0)), mkh ν' c s) ∧ ν' 118 15 = eN b n m (tkN b n m (tkN b n m p)) 1 99 ∧ ν' 118 16 = ((tkP b n m (tkN b n m (tkN b n m p)) : Nat) : Int) ∧ FrmQ μ ν') := by
  refine rn_iload_n (k' := 33) rfl rfl rfl ?_
  refine rn_if_ge (k' := 34) rfl rfl (fun hc1 => ?_) (fun hc1 => ?_)
  · skip
    refine rn_aload_n (k' := 39) rfl rfl rfl ?_
    refine rn_getI (k' := 40) rfl rfl K0_118 (by decide) rfl ?_
    refine rn_bipush (k' := 41) rfl rfl ?_
    refine rn_icmp_ne (k' := 42) rfl rfl (fun hc2 => ?_) (fun hc2 => ?_)
    · skip
      refine rn_iconst (k' := 47) rfl rfl ?_
      refine rn_iconst (k' := 48) rfl rfl ?_
      refine rn_aload_n (k' := 49) rfl rfl rfl ?_
      refine rn_getI (k' := 50) rfl rfl K0_118 (by decide) rfl ?_
      refine rn_imul (k' := 51) rfl rfl (by omega) ?_
      refine rn_iadd (k' := 52) rfl rfl (by omega) ?_
      refine rn_istore_n (k' := 53) (L' := [some (mR 118), some (mI (2)), some (mI (1 + (4 * (μ 118 41)))), none, none]) rfl rfl (Nat.le_of_ble_eq_true rfl) rfl ?_
      refine rn_iconst (k' := 54) rfl rfl ?_
      refine rn_istore_n (k' := 55) (L' := [some (mR 118), some (mI (2)), some (mI (1 + (4 * (μ 118 41)))), some (mI (0)), none]) rfl rfl (Nat.le_of_ble_eq_true rfl) rfl ?_
      refine rn_iload_n (k' := 56) rfl rfl rfl ?_
      refine rn_iconst (k' := 57) rfl rfl ?_
      refine rn_icmp_ge (k' := 58) rfl rfl (fun hc3 => ?_) (fun hc3 => ?_)
      · exfalso; omega
      · skip
        refine rn_aload_n (k' := 59) rfl rfl rfl ?_
        refine rn_getR (k' := 60) rfl rfl K0_118 (by decide) rfl R0_118_8 ?_
        refine rn_iload_n (k' := 61) rfl rfl rfl ?_
        refine rn_iload_n (k' := 62) rfl rfl rfl ?_
        refine rn_iadd (k' := 63) rfl rfl (by omega) ?_
        refine rn_iconst (k' := 64) rfl rfl ?_
        refine rn_iastore (k' := 65) rfl rfl K0_122 (by omega) (by omega) ?_
        refine rn_iinc (k' := 66) (L' := [some (mR 118), some (mI (2)), some (mI (1 + (4 * (μ 118 41)))), some (mI (0 + 1)), none]) rfl rfl rfl (by omega) rfl ?_
        refine rn_goto rfl ?_
        refine rn_iload_n (k' := 56) rfl rfl rfl ?_
        refine rn_iconst (k' := 57) rfl rfl ?_
        refine rn_icmp_ge (k' := 58) rfl rfl (fun hc4 => ?_) (fun hc4 => ?_)
        · exfalso; omega
        · skip
          refine rn_aload_n (k' := 59) rfl rfl rfl ?_
          refine rn_getR (k' := 60) rfl rfl K0_118 (by decide) rfl R0_118_8 ?_
          refine rn_iload_n (k' := 61) rfl rfl rfl ?_
          refine rn_iload_n (k' := 62) rfl rfl rfl ?_
          refine rn_iadd (k' := 63) rfl rfl (by omega) ?_
          refine rn_iconst (k' := 64) rfl rfl ?_
          refine rn_iastore (k' := 65) rfl rfl K0_122 (by omega) (by omega) ?_
          refine rn_iinc (k' := 66) (L' := [some (mR 118), some (mI (2)), some (mI (1 + (4 * (μ 118 41)))), some (mI (0 + 1 + 1)), none]) rfl rfl rfl (by omega) rfl ?_
          refine rn_goto rfl ?_
          refine rn_iload_n (k' := 56) rfl rfl rfl ?_
          refine rn_iconst (k' := 57) rfl rfl ?_
          refine rn_icmp_ge (k' := 58) rfl rfl (fun hc5 => ?_) (fun hc5 => ?_)
          · exfalso; omega
          · skip
            refine rn_aload_n (k' := 59) rfl rfl rfl ?_
            refine rn_getR (k' := 60) rfl rfl K0_118 (by decide) rfl R0_118_8 ?_
            refine rn_iload_n (k' := 61) rfl rfl rfl ?_
            refine rn_iload_n (k' := 62) rfl rfl rfl ?_
            refine rn_iadd (k' := 63) rfl rfl (by omega) ?_
            refine rn_iconst (k' := 64) rfl rfl ?_
            refine rn_iastore (k' := 65) rfl rfl K0_122 (by omega) (by omega) ?_
            refine rn_iinc (k' := 66) (L' := [some (mR 118), some (mI (2)), some (mI (1 + (4 * (μ 118 41)))), some (mI (0 + 1 + 1 + 1)), none]) rfl rfl rfl (by omega) rfl ?_
            refine rn_goto rfl ?_
            refine rn_iload_n (k' := 56) rfl rfl rfl ?_
            refine rn_iconst (k' := 57) rfl rfl ?_
            refine rn_icmp_ge (k' := 58) rfl rfl (fun hc6 => ?_) (fun hc6 => ?_)
            · exfalso; omega
            · skip
              refine rn_aload_n (k' := 59) rfl rfl rfl ?_
              refine rn_getR (k' := 60) rfl rfl K0_118 (by decide) rfl R0_118_8 ?_
              refine rn_iload_n (k' := 61) rfl rfl rfl ?_
              refine rn_iload_n (k' := 62) rfl rfl rfl ?_
              refine rn_iadd (k' := 63) rfl rfl (by omega) ?_
              refine rn_iconst (k' := 64) rfl rfl ?_
              refine rn_iastore (k' := 65) rfl rfl K0_122 (by omega) (by omega) ?_
              refine rn_iinc (k' := 66) (L' := [some (mR 118), some (mI (2)), some (mI (1 + (4 * (μ 118 41)))), some (mI (0 + 1 + 1 + 1 + 1)), none]) rfl rfl rfl (by omega) rfl ?_
              refine rn_goto rfl ?_
              refine rn_iload_n (k' := 56) rfl rfl rfl ?_
              refine rn_iconst (k' := 57) rfl rfl ?_
              refine rn_icmp_ge (k' := 58) rfl rfl (fun hc7 => ?_) (fun hc7 => ?_)
              · skip
                refine rn_aload_n (k' := 68) rfl rfl rfl ?_
                refine rn_getR (k' := 69) rfl rfl K0_118 (by decide) rfl R0_118_8 ?_
                refine rn_iload_n (k' := 70) rfl rfl rfl ?_
                refine rn_iload_n (k' := 71) rfl rfl rfl ?_
                refine rn_iastore (k' := 72) rfl rfl K0_122 (by omega) (by omega) ?_
                refine rn_aload_n (k' := 73) rfl rfl rfl ?_
                obtain ⟨Ha, ⟨hma, hfa_⟩, hca⟩ := g_next2 (μ := (m_set (m_set (m_set (m_set (m_set μ 122 (((1 + (4 * (μ 118 41))) + 0).toNat) (0)) 122 (((1 + (4 * (μ 118 41))) + (0 + 1)).toNat) (0)) 122 (((1 + (4 * (μ 118 41))) + (0 + 1 + 1)).toNat) (0)) 122 (((1 + (4 * (μ 118 41))) + (0 + 1 + 1 + 1)).toNat) (0)) 122 ((1 + (4 * (μ 118 41))).toNat) (2))) (c := c) (s := s) (b := b) (n := n) (m := m) (p := p) hM (by omega)
                have hfa : FRt Ha _ := hfa_.t
                have hM0 : MSt (m_upd (m_set (m_set (m_set (m_set (m_set μ 122 (((1 + (4 * (μ 118 41))) + 0).toNat) (0)) 122 (((1 + (4 * (μ 118 41))) + (0 + 1)).toNat) (0)) 122 (((1 + (4 * (μ 118 41))) + (0 + 1 + 1)).toNat) (0)) 122 (((1 + (4 * (μ 118 41))) + (0 + 1 + 1 + 1)).toNat) (0)) 122 ((1 + (4 * (μ 118 41))).toNat) (2)) 118 Ha) b n m (tkN b n m p) := ⟨hM.1, hM.2.1, hM.2.2.1, (tkN_b hM.2.2.2.1).2.1, hma⟩
                obtain ⟨_, _, u12, u11, _, u17, _, _⟩ := hma
                have hu : Ha 11 = 1 := by rw [u11]; exact mkk_1.mpr k0
                have hw := w0 _ (u17 k0)
                have hd := d0 _ (u17 k0)
                refine rn_callP (k' := 74) (y := 175) (vs := [mR 118]) (S' := []) (v := none) (h' := mkh (m_upd (m_set (m_set (m_set (m_set (m_set μ 122 (((1 + (4 * (μ 118 41))) + 0).toNat) (0)) 122 (((1 + (4 * (μ 118 41))) + (0 + 1)).toNat) (0)) 122 (((1 + (4 * (μ 118 41))) + (0 + 1 + 1)).toNat) (0)) 122 (((1 + (4 * (μ 118 41))) + (0 + 1 + 1 + 1)).toNat) (0)) 122 ((1 + (4 * (μ 118 41))).toNat) (2)) 118 Ha) c s) rfl rfl rfl (hca) ?_
                show Rn PT none kX12_planLine 74 [some (mR 118), some (mI (2)), some (mI (1 + (4 * (μ 118 41)))), some (mI (0 + 1 + 1 + 1 + 1)), none] [] (mkh (m_upd (m_set (m_set (m_set (m_set (m_set μ 122 (((1 + (4 * (μ 118 41))) + 0).toNat) (0)) 122 (((1 + (4 * (μ 118 41))) + (0 + 1)).toNat) (0)) 122 (((1 + (4 * (μ 118 41))) + (0 + 1 + 1)).toNat) (0)) 122 (((1 + (4 * (μ 118 41))) + (0 + 1 + 1 + 1)).toNat) (0)) 122 ((1 + (4 * (μ 118 41))).toNat) (2)) 118 Ha) c s) _
                refine rn_iload_n (k' := 75) rfl rfl rfl ?_
                refine rn_iconst (k' := 76) rfl rfl ?_
                refine rn_icmp_ne (k' := 77) rfl rfl (fun hc8 => ?_) (fun hc8 => ?_)
                · skip
                  refine rn_iload_n (k' := 80) rfl rfl rfl ?_
                  refine rn_iconst (k' := 81) rfl rfl ?_
                  refine rn_icmp_ne (k' := 82) rfl rfl (fun hc9 => ?_) (fun hc9 => ?_)
                  · skip
                    refine rn_aload_n (k' := 100) rfl rfl rfl ?_
                    refine rn_callP (k' := 101) (y := 180) (vs := [mR 118]) (S' := []) (v := some (mI (1))) (h' := mkh (m_upd (m_set (m_set (m_set (m_set (m_set μ 122 (((1 + (4 * (μ 118 41))) + 0).toNat) (0)) 122 (((1 + (4 * (μ 118 41))) + (0 + 1)).toNat) (0)) 122 (((1 + (4 * (μ 118 41))) + (0 + 1 + 1)).toNat) (0)) 122 (((1 + (4 * (μ 118 41))) + (0 + 1 + 1 + 1)).toNat) (0)) 122 ((1 + (4 * (μ 118 41))).toNat) (2)) 118 Ha) c s) rfl rfl rfl (by have hz : Cl PT 180 [mR 118] (mkh (m_upd (m_set (m_set (m_set (m_set (m_set μ 122 (((1 + (4 * (μ 118 41))) + 0).toNat) (0)) 122 (((1 + (4 * (μ 118 41))) + (0 + 1)).toNat) (0)) 122 (((1 + (4 * (μ 118 41))) + (0 + 1 + 1)).toNat) (0)) 122 (((1 + (4 * (μ 118 41))) + (0 + 1 + 1 + 1)).toNat) (0)) 122 ((1 + (4 * (μ 118 41))).toNat) (2)) 118 Ha) c s) (fun r => r = (some (some (mI (if Ha 11 = 1 ∧ ix (μ 124) (Ha 17) 16 0 = -1 then 1 else 0))), mkh (m_upd (m_set (m_set (m_set (m_set (m_set μ 122 (((1 + (4 * (μ 118 41))) + 0).toNat) (0)) 122 (((1 + (4 * (μ 118 41))) + (0 + 1)).toNat) (0)) 122 (((1 + (4 * (μ 118 41))) + (0 + 1 + 1)).toNat) (0)) 122 (((1 + (4 * (μ 118 41))) + (0 + 1 + 1 + 1)).toNat) (0)) 122 ((1 + (4 * (μ 118 41))).toNat) (2)) 118 Ha) c s)) := c_X12_isName (μ := (m_upd (m_set (m_set (m_set (m_set (m_set μ 122 (((1 + (4 * (μ 118 41))) + 0).toNat) (0)) 122 (((1 + (4 * (μ 118 41))) + (0 + 1)).toNat) (0)) 122 (((1 + (4 * (μ 118 41))) + (0 + 1 + 1)).toNat) (0)) 122 (((1 + (4 * (μ 118 41))) + (0 + 1 + 1 + 1)).toNat) (0)) 122 ((1 + (4 * (μ 118 41))).toNat) (2)) 118 Ha)) (c := c) (s := s); rw [if_pos (show Ha 11 = 1 ∧ ix (μ 124) (Ha 17) 16 0 = -1 from ⟨hu, hw⟩)] at hz; exact hz) ?_
                    show Rn PT none kX12_planLine 101 [some (mR 118), some (mI (2)), some (mI (1 + (4 * (μ 118 41)))), some (mI (0 + 1 + 1 + 1 + 1)), none] [mI (1)] (mkh (m_upd (m_set (m_set (m_set (m_set (m_set μ 122 (((1 + (4 * (μ 118 41))) + 0).toNat) (0)) 122 (((1 + (4 * (μ 118 41))) + (0 + 1)).toNat) (0)) 122 (((1 + (4 * (μ 118 41))) + (0 + 1 + 1)).toNat) (0)) 122 (((1 + (4 * (μ 118 41))) + (0 + 1 + 1 + 1)).toNat) (0)) 122 ((1 + (4 * (μ 118 41))).toNat) (2)) 118 Ha) c s) _
                    refine rn_if_ne (k' := 102) rfl rfl (fun hc10 => ?_) (fun hc10 => ?_)
                    · skip
                      refine rn_aload_n (k' := 107) rfl rfl rfl ?_
                      refine rn_iconst (k' := 108) rfl rfl ?_
                      refine rn_aload_n (k' := 109) rfl rfl rfl ?_
                      refine rn_getR (k' := 110) rfl rfl K0_118 (by decide) rfl R0_118_6 ?_
                      refine rn_bipush (k' := 111) rfl rfl ?_
                      refine rn_iaload (k' := 112) rfl rfl K0_120 (by omega) (by omega) ?_
                      show Rn PT none kX12_planLine 112 [some (mR 118), some (mI (2)), some (mI (1 + (4 * (μ 118 41)))), some (mI (0 + 1 + 1 + 1 + 1)), none] [mI (μ 120 8), mI (0), mR 118] (mkh (m_upd (m_set (m_set (m_set (m_set (m_set μ 122 (((1 + (4 * (μ 118 41))) + 0).toNat) (0)) 122 (((1 + (4 * (μ 118 41))) + (0 + 1)).toNat) (0)) 122 (((1 + (4 * (μ 118 41))) + (0 + 1 + 1)).toNat) (0)) 122 (((1 + (4 * (μ 118 41))) + (0 + 1 + 1 + 1)).toNat) (0)) 122 ((1 + (4 * (μ 118 41))).toNat) (2)) 118 Ha) c s) _
                      have hfb9 := ix_b (f := fun j => μ 123 (0 + j)) (v := Ha 17) k9 0
                      refine rn_callP (k' := 113) (y := 182) (vs := [mR 118, mI (0), mI (μ 120 8)]) (S' := []) (v := some (mI (ix (fun j => μ 123 (0 + j)) (Ha 17) k9 0))) (h' := mkh (m_upd (m_set (m_set (m_set (m_set (m_set μ 122 (((1 + (4 * (μ 118 41))) + 0).toNat) (0)) 122 (((1 + (4 * (μ 118 41))) + (0 + 1)).toNat) (0)) 122 (((1 + (4 * (μ 118 41))) + (0 + 1 + 1)).toNat) (0)) 122 (((1 + (4 * (μ 118 41))) + (0 + 1 + 1 + 1)).toNat) (0)) 122 ((1 + (4 * (μ 118 41))).toNat) (2)) 118 Ha) c s) rfl rfl rfl (by have hz := c_find (μ := (m_upd (m_set (m_set (m_set (m_set (m_set μ 122 (((1 + (4 * (μ 118 41))) + 0).toNat) (0)) 122 (((1 + (4 * (μ 118 41))) + (0 + 1)).toNat) (0)) 122 (((1 + (4 * (μ 118 41))) + (0 + 1 + 1)).toNat) (0)) 122 (((1 + (4 * (μ 118 41))) + (0 + 1 + 1 + 1)).toNat) (0)) 122 ((1 + (4 * (μ 118 41))).toNat) (2)) 118 Ha)) (c := c) (s := s) (o9 := 0) (k9 := k9) (by decide) hk9; rw [← h8] at hz; exact hz) ?_
                      show Rn PT none kX12_planLine 113 [some (mR 118), some (mI (2)), some (mI (1 + (4 * (μ 118 41)))), some (mI (0 + 1 + 1 + 1 + 1)), none] [mI (ix (fun j => μ 123 (0 + j)) (Ha 17) k9 0)] (mkh (m_upd (m_set (m_set (m_set (m_set (m_set μ 122 (((1 + (4 * (μ 118 41))) + 0).toNat) (0)) 122 (((1 + (4 * (μ 118 41))) + (0 + 1)).toNat) (0)) 122 (((1 + (4 * (μ 118 41))) + (0 + 1 + 1)).toNat) (0)) 122 (((1 + (4 * (μ 118 41))) + (0 + 1 + 1 + 1)).toNat) (0)) 122 ((1 + (4 * (μ 118 41))).toNat) (2)) 118 Ha) c s) _
                      refine rn_istore_n (k' := 114) (L' := [some (mR 118), some (mI (2)), some (mI (1 + (4 * (μ 118 41)))), some (mI (ix (fun j => μ 123 (0 + j)) (Ha 17) k9 0)), none]) rfl rfl (Nat.le_of_ble_eq_true rfl) rfl ?_
                      refine rn_iload_n (k' := 115) rfl rfl rfl ?_
                      refine rn_if_ge (k' := 116) rfl rfl (fun hc11 => ?_) (fun hc11 => ?_)
                      · skip
                        refine rn_aload_n (k' := 121) rfl rfl rfl ?_
                        refine rn_getR (k' := 122) rfl rfl K0_118 (by decide) rfl R0_118_8 ?_
                        refine rn_iload_n (k' := 123) rfl rfl rfl ?_
                        refine rn_iconst (k' := 124) rfl rfl ?_
                        refine rn_iadd (k' := 125) rfl rfl (by omega) ?_
                        refine rn_iload_n (k' := 126) rfl rfl rfl ?_
                        refine rn_iastore (k' := 127) rfl rfl K0_122 (by omega) (by omega) ?_
                        refine rn_aload_n (k' := 128) rfl rfl rfl ?_
                        obtain ⟨Hb, ⟨hmb, hfb_⟩, hcb⟩ := g_next2 (μ := (m_set (m_upd (m_set (m_set (m_set (m_set (m_set μ 122 (((1 + (4 * (μ 118 41))) + 0).toNat) (0)) 122 (((1 + (4 * (μ 118 41))) + (0 + 1)).toNat) (0)) 122 (((1 + (4 * (μ 118 41))) + (0 + 1 + 1)).toNat) (0)) 122 (((1 + (4 * (μ 118 41))) + (0 + 1 + 1 + 1)).toNat) (0)) 122 ((1 + (4 * (μ 118 41))).toNat) (2)) 118 Ha) 122 (((1 + (4 * (μ 118 41))) + 1).toNat) (ix (fun j => μ 123 (0 + j)) (Ha 17) k9 0))) (c := c) (s := s) (b := b) (n := n) (m := m) (p := (tkN b n m p)) hM0 (by omega)
                        have hfb : FRt Hb _ := hfb_.t
                        have hM1 : MSt (m_upd (m_set (m_upd (m_set (m_set (m_set (m_set (m_set μ 122 (((1 + (4 * (μ 118 41))) + 0).toNat) (0)) 122 (((1 + (4 * (μ 118 41))) + (0 + 1)).toNat) (0)) 122 (((1 + (4 * (μ 118 41))) + (0 + 1 + 1)).toNat) (0)) 122 (((1 + (4 * (μ 118 41))) + (0 + 1 + 1 + 1)).toNat) (0)) 122 ((1 + (4 * (μ 118 41))).toNat) (2)) 118 Ha) 122 (((1 + (4 * (μ 118 41))) + 1).toNat) (ix (fun j => μ 123 (0 + j)) (Ha 17) k9 0)) 118 Hb) b n m (tkN b n m (tkN b n m p)) := ⟨hM0.1, hM0.2.1, hM0.2.2.1, (tkN_b hM0.2.2.2.1).2.1, hmb⟩
                        refine rn_callP (k' := 129) (y := 175) (vs := [mR 118]) (S' := []) (v := none) (h' := mkh (m_upd (m_set (m_upd (m_set (m_set (m_set (m_set (m_set μ 122 (((1 + (4 * (μ 118 41))) + 0).toNat) (0)) 122 (((1 + (4 * (μ 118 41))) + (0 + 1)).toNat) (0)) 122 (((1 + (4 * (μ 118 41))) + (0 + 1 + 1)).toNat) (0)) 122 (((1 + (4 * (μ 118 41))) + (0 + 1 + 1 + 1)).toNat) (0)) 122 ((1 + (4 * (μ 118 41))).toNat) (2)) 118 Ha) 122 (((1 + (4 * (μ 118 41))) + 1).toNat) (ix (fun j => μ 123 (0 + j)) (Ha 17) k9 0)) 118 Hb) c s) rfl rfl rfl (hcb) ?_
                        show Rn PT none kX12_planLine 129 [some (mR 118), some (mI (2)), some (mI (1 + (4 * (μ 118 41)))), some (mI (ix (fun j => μ 123 (0 + j)) (Ha 17) k9 0)), none] [] (mkh (m_upd (m_set (m_upd (m_set (m_set (m_set (m_set (m_set μ 122 (((1 + (4 * (μ 118 41))) + 0).toNat) (0)) 122 (((1 + (4 * (μ 118 41))) + (0 + 1)).toNat) (0)) 122 (((1 + (4 * (μ 118 41))) + (0 + 1 + 1)).toNat) (0)) 122 (((1 + (4 * (μ 118 41))) + (0 + 1 + 1 + 1)).toNat) (0)) 122 ((1 + (4 * (μ 118 41))).toNat) (2)) 118 Ha) 122 (((1 + (4 * (μ 118 41))) + 1).toNat) (ix (fun j => μ 123 (0 + j)) (Ha 17) k9 0)) 118 Hb) c s) _
                        refine rn_iload_n (k' := 130) rfl rfl rfl ?_
                        refine rn_if_eq (k' := 131) rfl rfl (fun hc12 => ?_) (fun hc12 => ?_)
                        · exfalso; omega
                        · skip
                          refine rn_aload_n (k' := 132) rfl rfl rfl ?_
                          refine rn_iconst (k' := 133) rfl rfl ?_
                          refine rn_bipush (k' := 134) rfl rfl ?_
                          have hc1 := g_takesX (μ := (m_upd (m_set (m_upd (m_set (m_set (m_set (m_set (m_set μ 122 (((1 + (4 * (μ 118 41))) + 0).toNat) (0)) 122 (((1 + (4 * (μ 118 41))) + (0 + 1)).toNat) (0)) 122 (((1 + (4 * (μ 118 41))) + (0 + 1 + 1)).toNat) (0)) 122 (((1 + (4 * (μ 118 41))) + (0 + 1 + 1 + 1)).toNat) (0)) 122 ((1 + (4 * (μ 118 41))).toNat) (2)) 118 Ha) 122 (((1 + (4 * (μ 118 41))) + 1).toNat) (ix (fun j => μ 123 (0 + j)) (Ha 17) k9 0)) 118 Hb)) (c := c) (s := s) (b := b) (n := n) (m := m) (p := (tkN b n m (tkN b n m p))) (lo := 1) (hi := 99) hM1 e1
                          refine rn_callP (k' := 135) (y := 181) (vs := [mR 118, mI (1), mI (99)]) (S' := []) (v := some (mI (0))) (h' := mkh (m_set (m_set (m_upd (m_set (m_upd (m_set (m_set (m_set (m_set (m_set μ 122 (((1 + (4 * (μ 118 41))) + 0).toNat) (0)) 122 (((1 + (4 * (μ 118 41))) + (0 + 1)).toNat) (0)) 122 (((1 + (4 * (μ 118 41))) + (0 + 1 + 1)).toNat) (0)) 122 (((1 + (4 * (μ 118 41))) + (0 + 1 + 1 + 1)).toNat) (0)) 122 ((1 + (4 * (μ 118 41))).toNat) (2)) 118 Ha) 122 (((1 + (4 * (μ 118 41))) + 1).toNat) (ix (fun j => μ 123 (0 + j)) (Ha 17) k9 0)) 118 Hb) 118 15 (eN b n m (tkN b n m (tkN b n m p)) (1) (99))) 118 16 (((tkP b n m (tkN b n m (tkN b n m p)) : Nat) : Int))) c s) rfl rfl rfl (hc1) ?_
                          show Rn PT none kX12_planLine 135 [some (mR 118), some (mI (2)), some (mI (1 + (4 * (μ 118 41)))), some (mI (ix (fun j => μ 123 (0 + j)) (Ha 17) k9 0)), none] [mI (0)] (mkh (m_set (m_set (m_upd (m_set (m_upd (m_set (m_set (m_set (m_set (m_set μ 122 (((1 + (4 * (μ 118 41))) + 0).toNat) (0)) 122 (((1 + (4 * (μ 118 41))) + (0 + 1)).toNat) (0)) 122 (((1 + (4 * (μ 118 41))) + (0 + 1 + 1)).toNat) (0)) 122 (((1 + (4 * (μ 118 41))) + (0 + 1 + 1 + 1)).toNat) (0)) 122 ((1 + (4 * (μ 118 41))).toNat) (2)) 118 Ha) 122 (((1 + (4 * (μ 118 41))) + 1).toNat) (ix (fun j => μ 123 (0 + j)) (Ha 17) k9 0)) 118 Hb) 118 15 (eN b n m (tkN b n m (tkN b n m p)) (1) (99))) 118 16 (((tkP b n m (tkN b n m (tkN b n m p)) : Nat) : Int))) c s) _
                          refine rn_if_ne (k' := 136) rfl rfl (fun hc13 => ?_) (fun hc13 => ?_)
                          · exfalso; omega
                          · skip
                            refine rn_iconst (k' := 137) rfl rfl ?_
                            refine rn_iret rfl (Or.inr (by omega)) ?_
                            exact ⟨_, rfl, rfl, rfl, (FrmQ.s (FrmQ.s (FrmQ.u (FrmQ.s2 (FrmQ.u (FrmQ.s2 (FrmQ.s2 (FrmQ.s2 (FrmQ.s2 (FrmQ.s2 FrmQ.r))))) hfa)) hfb) (by decide)) (by decide))⟩
                      · exfalso; omega
                    · exfalso; omega
                  · exfalso; omega
                · exfalso; omega
              · exfalso; omega
    · exfalso; omega
  · exfalso; omega
set_option maxHeartbeats 1000000 in
theorem m_pl13_had {μ : Nat → Nat → Int} {c s : Nat} {b : Nat → Int} {n m p : Nat} (hM : MSt μ b n m p) (hk : tkK b n m p = 1) {l9 : Nat} (hl : μ 118 41 = (l9 : Int)) (hl9 : l9 ≤ 30) (hl3 : ¬ l9 = 30) {k9 : Nat} (hk9 : k9 ≤ 8) (h8 : μ 120 8 = (k9 : Int)) (k0 : tkK b n m (tkN b n m p) = 1) (w0 : ∀ y, Nm (tkV b n m (tkN b n m p)) y → ix (μ 124) y 16 0 = -1) (d0 : ∀ y, Nm (tkV b n m (tkN b n m p)) y → ix (fun j => μ 123 (0 + j)) y k9 0 = -1) : Rn PT none kX12_planLine 32 [some (mR 118), some (mI (2)), none, none, none] [] (mkh μ c s) (fun r => ∃ ν', r = (some (some (mI 0)), mkh ν' c s) ∧ ν' 118 15 = 3 ∧ ν' 118 16 = ((tkP b n m (tkN b n m p) : Nat) : Int) ∧ FrmQ μ ν') := by
  refine rn_iload_n (k' := 33) rfl rfl rfl ?_
  refine rn_if_ge (k' := 34) rfl rfl (fun hc1 => ?_) (fun hc1 => ?_)
  · skip
    refine rn_aload_n (k' := 39) rfl rfl rfl ?_
    refine rn_getI (k' := 40) rfl rfl K0_118 (by decide) rfl ?_
    refine rn_bipush (k' := 41) rfl rfl ?_
    refine rn_icmp_ne (k' := 42) rfl rfl (fun hc2 => ?_) (fun hc2 => ?_)
    · skip
      refine rn_iconst (k' := 47) rfl rfl ?_
      refine rn_iconst (k' := 48) rfl rfl ?_
      refine rn_aload_n (k' := 49) rfl rfl rfl ?_
      refine rn_getI (k' := 50) rfl rfl K0_118 (by decide) rfl ?_
      refine rn_imul (k' := 51) rfl rfl (by omega) ?_
      refine rn_iadd (k' := 52) rfl rfl (by omega) ?_
      refine rn_istore_n (k' := 53) (L' := [some (mR 118), some (mI (2)), some (mI (1 + (4 * (μ 118 41)))), none, none]) rfl rfl (Nat.le_of_ble_eq_true rfl) rfl ?_
      refine rn_iconst (k' := 54) rfl rfl ?_
      refine rn_istore_n (k' := 55) (L' := [some (mR 118), some (mI (2)), some (mI (1 + (4 * (μ 118 41)))), some (mI (0)), none]) rfl rfl (Nat.le_of_ble_eq_true rfl) rfl ?_
      refine rn_iload_n (k' := 56) rfl rfl rfl ?_
      refine rn_iconst (k' := 57) rfl rfl ?_
      refine rn_icmp_ge (k' := 58) rfl rfl (fun hc3 => ?_) (fun hc3 => ?_)
      · exfalso; omega
      · skip
        refine rn_aload_n (k' := 59) rfl rfl rfl ?_
        refine rn_getR (k' := 60) rfl rfl K0_118 (by decide) rfl R0_118_8 ?_
        refine rn_iload_n (k' := 61) rfl rfl rfl ?_
        refine rn_iload_n (k' := 62) rfl rfl rfl ?_
        refine rn_iadd (k' := 63) rfl rfl (by omega) ?_
        refine rn_iconst (k' := 64) rfl rfl ?_
        refine rn_iastore (k' := 65) rfl rfl K0_122 (by omega) (by omega) ?_
        refine rn_iinc (k' := 66) (L' := [some (mR 118), some (mI (2)), some (mI (1 + (4 * (μ 118 41)))), some (mI (0 + 1)), none]) rfl rfl rfl (by omega) rfl ?_
        refine rn_goto rfl ?_
        refine rn_iload_n (k' := 56) rfl rfl rfl ?_
        refine rn_iconst (k' := 57) rfl rfl ?_
        refine rn_icmp_ge (k' := 58) rfl rfl (fun hc4 => ?_) (fun hc4 => ?_)
        · exfalso; omega
        · skip
          refine rn_aload_n (k' := 59) rfl rfl rfl ?_
          refine rn_getR (k' := 60) rfl rfl K0_118 (by decide) rfl R0_118_8 ?_
          refine rn_iload_n (k' := 61) rfl rfl rfl ?_
          refine rn_iload_n (k' := 62) rfl rfl rfl ?_
          refine rn_iadd (k' := 63) rfl rfl (by omega) ?_
          refine rn_iconst (k' := 64) rfl rfl ?_
          refine rn_iastore (k' := 65) rfl rfl K0_122 (by omega) (by omega) ?_
          refine rn_iinc (k' := 66) (L' := [some (mR 118), some (mI (2)), some (mI (1 + (4 * (μ 118 41)))), some (mI (0 + 1 + 1)), none]) rfl rfl rfl (by omega) rfl ?_
          refine rn_goto rfl ?_
          refine rn_iload_n (k' := 56) rfl rfl rfl ?_
          refine rn_iconst (k' := 57) rfl rfl ?_
          refine rn_icmp_ge (k' := 58) rfl rfl (fun hc5 => ?_) (fun hc5 => ?_)
          · exfalso; omega
          · skip
            refine rn_aload_n (k' := 59) rfl rfl rfl ?_
            refine rn_getR (k' := 60) rfl rfl K0_118 (by decide) rfl R0_118_8 ?_
            refine rn_iload_n (k' := 61) rfl rfl rfl ?_
            refine rn_iload_n (k' := 62) rfl rfl rfl ?_
            refine rn_iadd (k' := 63) rfl rfl (by omega) ?_
            refine rn_iconst (k' := 64) rfl rfl ?_
            refine rn_iastore (k' := 65) rfl rfl K0_122 (by omega) (by omega) ?_
            refine rn_iinc (k' := 66) (L' := [some (mR 118), some (mI (2)), some (mI (1 + (4 * (μ 118 41)))), some (mI (0 + 1 + 1 + 1)), none]) rfl rfl rfl (by omega) rfl ?_
            refine rn_goto rfl ?_
            refine rn_iload_n (k' := 56) rfl rfl rfl ?_
            refine rn_iconst (k' := 57) rfl rfl ?_
            refine rn_icmp_ge (k' := 58) rfl rfl (fun hc6 => ?_) (fun hc6 => ?_)
            · exfalso; omega
            · skip
              refine rn_aload_n (k' := 59) rfl rfl rfl ?_
              refine rn_getR (k' := 60) rfl rfl K0_118 (by decide) rfl R0_118_8 ?_
              refine rn_iload_n (k' := 61) rfl rfl rfl ?_
              refine rn_iload_n (k' := 62) rfl rfl rfl ?_
              refine rn_iadd (k' := 63) rfl rfl (by omega) ?_
              refine rn_iconst (k' := 64) rfl rfl ?_
              refine rn_iastore (k' := 65) rfl rfl K0_122 (by omega) (by omega) ?_
              refine rn_iinc (k' := 66) (L' := [some (mR 118), some (mI (2)), some (mI (1 + (4 * (μ 118 41)))), some (mI (0 + 1 + 1 + 1 + 1)), none]) rfl rfl rfl (by omega) rfl ?_
              refine rn_goto rfl ?_
              refine rn_iload_n (k' := 56) rfl rfl rfl ?_
              refine rn_iconst (k' := 57) rfl rfl ?_
              refine rn_icmp_ge (k' := 58) rfl rfl (fun hc7 => ?_) (fun hc7 => ?_)
              · skip
                refine rn_aload_n (k' := 68) rfl rfl rfl ?_
                refine rn_getR (k' := 69) rfl rfl K0_118 (by decide) rfl R0_118_8 ?_
                refine rn_iload_n (k' := 70) rfl rfl rfl ?_
                refine rn_iload_n (k' := 71) rfl rfl rfl ?_
                refine rn_iastore (k' := 72) rfl rfl K0_122 (by omega) (by omega) ?_
                refine rn_aload_n (k' := 73) rfl rfl rfl ?_
                obtain ⟨Ha, ⟨hma, hfa_⟩, hca⟩ := g_next2 (μ := (m_set (m_set (m_set (m_set (m_set μ 122 (((1 + (4 * (μ 118 41))) + 0).toNat) (0)) 122 (((1 + (4 * (μ 118 41))) + (0 + 1)).toNat) (0)) 122 (((1 + (4 * (μ 118 41))) + (0 + 1 + 1)).toNat) (0)) 122 (((1 + (4 * (μ 118 41))) + (0 + 1 + 1 + 1)).toNat) (0)) 122 ((1 + (4 * (μ 118 41))).toNat) (2))) (c := c) (s := s) (b := b) (n := n) (m := m) (p := p) hM (by omega)
                have hfa : FRt Ha _ := hfa_.t
                have hM0 : MSt (m_upd (m_set (m_set (m_set (m_set (m_set μ 122 (((1 + (4 * (μ 118 41))) + 0).toNat) (0)) 122 (((1 + (4 * (μ 118 41))) + (0 + 1)).toNat) (0)) 122 (((1 + (4 * (μ 118 41))) + (0 + 1 + 1)).toNat) (0)) 122 (((1 + (4 * (μ 118 41))) + (0 + 1 + 1 + 1)).toNat) (0)) 122 ((1 + (4 * (μ 118 41))).toNat) (2)) 118 Ha) b n m (tkN b n m p) := ⟨hM.1, hM.2.1, hM.2.2.1, (tkN_b hM.2.2.2.1).2.1, hma⟩
                obtain ⟨_, _, u12, u11, _, u17, _, _⟩ := hma
                have hu : Ha 11 = 1 := by rw [u11]; exact mkk_1.mpr k0
                have hw := w0 _ (u17 k0)
                have hd := d0 _ (u17 k0)
                refine rn_callP (k' := 74) (y := 175) (vs := [mR 118]) (S' := []) (v := none) (h' := mkh (m_upd (m_set (m_set (m_set (m_set (m_set μ 122 (((1 + (4 * (μ 118 41))) + 0).toNat) (0)) 122 (((1 + (4 * (μ 118 41))) + (0 + 1)).toNat) (0)) 122 (((1 + (4 * (μ 118 41))) + (0 + 1 + 1)).toNat) (0)) 122 (((1 + (4 * (μ 118 41))) + (0 + 1 + 1 + 1)).toNat) (0)) 122 ((1 + (4 * (μ 118 41))).toNat) (2)) 118 Ha) c s) rfl rfl rfl (hca) ?_
                show Rn PT none kX12_planLine 74 [some (mR 118), some (mI (2)), some (mI (1 + (4 * (μ 118 41)))), some (mI (0 + 1 + 1 + 1 + 1)), none] [] (mkh (m_upd (m_set (m_set (m_set (m_set (m_set μ 122 (((1 + (4 * (μ 118 41))) + 0).toNat) (0)) 122 (((1 + (4 * (μ 118 41))) + (0 + 1)).toNat) (0)) 122 (((1 + (4 * (μ 118 41))) + (0 + 1 + 1)).toNat) (0)) 122 (((1 + (4 * (μ 118 41))) + (0 + 1 + 1 + 1)).toNat) (0)) 122 ((1 + (4 * (μ 118 41))).toNat) (2)) 118 Ha) c s) _
                refine rn_iload_n (k' := 75) rfl rfl rfl ?_
                refine rn_iconst (k' := 76) rfl rfl ?_
                refine rn_icmp_ne (k' := 77) rfl rfl (fun hc8 => ?_) (fun hc8 => ?_)
                · skip
                  refine rn_iload_n (k' := 80) rfl rfl rfl ?_
                  refine rn_iconst (k' := 81) rfl rfl ?_
                  refine rn_icmp_ne (k' := 82) rfl rfl (fun hc9 => ?_) (fun hc9 => ?_)
                  · skip
                    refine rn_aload_n (k' := 100) rfl rfl rfl ?_
                    refine rn_callP (k' := 101) (y := 180) (vs := [mR 118]) (S' := []) (v := some (mI (1))) (h' := mkh (m_upd (m_set (m_set (m_set (m_set (m_set μ 122 (((1 + (4 * (μ 118 41))) + 0).toNat) (0)) 122 (((1 + (4 * (μ 118 41))) + (0 + 1)).toNat) (0)) 122 (((1 + (4 * (μ 118 41))) + (0 + 1 + 1)).toNat) (0)) 122 (((1 + (4 * (μ 118 41))) + (0 + 1 + 1 + 1)).toNat) (0)) 122 ((1 + (4 * (μ 118 41))).toNat) (2)) 118 Ha) c s) rfl rfl rfl (by have hz : Cl PT 180 [mR 118] (mkh (m_upd (m_set (m_set (m_set (m_set (m_set μ 122 (((1 + (4 * (μ 118 41))) + 0).toNat) (0)) 122 (((1 + (4 * (μ 118 41))) + (0 + 1)).toNat) (0)) 122 (((1 + (4 * (μ 118 41))) + (0 + 1 + 1)).toNat) (0)) 122 (((1 + (4 * (μ 118 41))) + (0 + 1 + 1 + 1)).toNat) (0)) 122 ((1 + (4 * (μ 118 41))).toNat) (2)) 118 Ha) c s) (fun r => r = (some (some (mI (if Ha 11 = 1 ∧ ix (μ 124) (Ha 17) 16 0 = -1 then 1 else 0))), mkh (m_upd (m_set (m_set (m_set (m_set (m_set μ 122 (((1 + (4 * (μ 118 41))) + 0).toNat) (0)) 122 (((1 + (4 * (μ 118 41))) + (0 + 1)).toNat) (0)) 122 (((1 + (4 * (μ 118 41))) + (0 + 1 + 1)).toNat) (0)) 122 (((1 + (4 * (μ 118 41))) + (0 + 1 + 1 + 1)).toNat) (0)) 122 ((1 + (4 * (μ 118 41))).toNat) (2)) 118 Ha) c s)) := c_X12_isName (μ := (m_upd (m_set (m_set (m_set (m_set (m_set μ 122 (((1 + (4 * (μ 118 41))) + 0).toNat) (0)) 122 (((1 + (4 * (μ 118 41))) + (0 + 1)).toNat) (0)) 122 (((1 + (4 * (μ 118 41))) + (0 + 1 + 1)).toNat) (0)) 122 (((1 + (4 * (μ 118 41))) + (0 + 1 + 1 + 1)).toNat) (0)) 122 ((1 + (4 * (μ 118 41))).toNat) (2)) 118 Ha)) (c := c) (s := s); rw [if_pos (show Ha 11 = 1 ∧ ix (μ 124) (Ha 17) 16 0 = -1 from ⟨hu, hw⟩)] at hz; exact hz) ?_
                    show Rn PT none kX12_planLine 101 [some (mR 118), some (mI (2)), some (mI (1 + (4 * (μ 118 41)))), some (mI (0 + 1 + 1 + 1 + 1)), none] [mI (1)] (mkh (m_upd (m_set (m_set (m_set (m_set (m_set μ 122 (((1 + (4 * (μ 118 41))) + 0).toNat) (0)) 122 (((1 + (4 * (μ 118 41))) + (0 + 1)).toNat) (0)) 122 (((1 + (4 * (μ 118 41))) + (0 + 1 + 1)).toNat) (0)) 122 (((1 + (4 * (μ 118 41))) + (0 + 1 + 1 + 1)).toNat) (0)) 122 ((1 + (4 * (μ 118 41))).toNat) (2)) 118 Ha) c s) _
                    refine rn_if_ne (k' := 102) rfl rfl (fun hc10 => ?_) (fun hc10 => ?_)
                    · skip
                      refine rn_aload_n (k' := 107) rfl rfl rfl ?_
                      refine rn_iconst (k' := 108) rfl rfl ?_
                      refine rn_aload_n (k' := 109) rfl rfl rfl ?_
                      refine rn_getR (k' := 110) rfl rfl K0_118 (by decide) rfl R0_118_6 ?_
                      refine rn_bipush (k' := 111) rfl rfl ?_
                      refine rn_iaload (k' := 112) rfl rfl K0_120 (by omega) (by omega) ?_
                      show Rn PT none kX12_planLine 112 [some (mR 118), some (mI (2)), some (mI (1 + (4 * (μ 118 41)))), some (mI (0 + 1 + 1 + 1 + 1)), none] [mI (μ 120 8), mI (0), mR 118] (mkh (m_upd (m_set (m_set (m_set (m_set (m_set μ 122 (((1 + (4 * (μ 118 41))) + 0).toNat) (0)) 122 (((1 + (4 * (μ 118 41))) + (0 + 1)).toNat) (0)) 122 (((1 + (4 * (μ 118 41))) + (0 + 1 + 1)).toNat) (0)) 122 (((1 + (4 * (μ 118 41))) + (0 + 1 + 1 + 1)).toNat) (0)) 122 ((1 + (4 * (μ 118 41))).toNat) (2)) 118 Ha) c s) _
                      have hfb9 := ix_b (f := fun j => μ 123 (0 + j)) (v := Ha 17) k9 0
                      refine rn_callP (k' := 113) (y := 182) (vs := [mR 118, mI (0), mI (μ 120 8)]) (S' := []) (v := some (mI (ix (fun j => μ 123 (0 + j)) (Ha 17) k9 0))) (h' := mkh (m_upd (m_set (m_set (m_set (m_set (m_set μ 122 (((1 + (4 * (μ 118 41))) + 0).toNat) (0)) 122 (((1 + (4 * (μ 118 41))) + (0 + 1)).toNat) (0)) 122 (((1 + (4 * (μ 118 41))) + (0 + 1 + 1)).toNat) (0)) 122 (((1 + (4 * (μ 118 41))) + (0 + 1 + 1 + 1)).toNat) (0)) 122 ((1 + (4 * (μ 118 41))).toNat) (2)) 118 Ha) c s) rfl rfl rfl (by have hz := c_find (μ := (m_upd (m_set (m_set (m_set (m_set (m_set μ 122 (((1 + (4 * (μ 118 41))) + 0).toNat) (0)) 122 (((1 + (4 * (μ 118 41))) + (0 + 1)).toNat) (0)) 122 (((1 + (4 * (μ 118 41))) + (0 + 1 + 1)).toNat) (0)) 122 (((1 + (4 * (μ 118 41))) + (0 + 1 + 1 + 1)).toNat) (0)) 122 ((1 + (4 * (μ 118 41))).toNat) (2)) 118 Ha)) (c := c) (s := s) (o9 := 0) (k9 := k9) (by decide) hk9; rw [← h8] at hz; exact hz) ?_
                      show Rn PT none kX12_planLine 113 [some (mR 118), some (mI (2)), some (mI (1 + (4 * (μ 118 41)))), some (mI (0 + 1 + 1 + 1 + 1)), none] [mI (ix (fun j => μ 123 (0 + j)) (Ha 17) k9 0)] (mkh (m_upd (m_set (m_set (m_set (m_set (m_set μ 122 (((1 + (4 * (μ 118 41))) + 0).toNat) (0)) 122 (((1 + (4 * (μ 118 41))) + (0 + 1)).toNat) (0)) 122 (((1 + (4 * (μ 118 41))) + (0 + 1 + 1)).toNat) (0)) 122 (((1 + (4 * (μ 118 41))) + (0 + 1 + 1 + 1)).toNat) (0)) 122 ((1 + (4 * (μ 118 41))).toNat) (2)) 118 Ha) c s) _
                      refine rn_istore_n (k' := 114) (L' := [some (mR 118), some (mI (2)), some (mI (1 + (4 * (μ 118 41)))), some (mI (ix (fun j => μ 123 (0 + j)) (Ha 17) k9 0)), none]) rfl rfl (Nat.le_of_ble_eq_true rfl) rfl ?_
                      refine rn_iload_n (k' := 115) rfl rfl rfl ?_
                      refine rn_if_ge (k' := 116) rfl rfl (fun hc11 => ?_) (fun hc11 => ?_)
                      · exfalso; omega
                      · skip
                        refine rn_aload_n (k' := 117) rfl rfl rfl ?_
                        refine rn_iconst (k' := 118) rfl rfl ?_
                        refine rn_callP (k' := 119) (y := 176) (vs := [mR 118, mI (3)]) (S' := []) (v := some (mI (0))) (h' := mkh (m_set (m_set (m_upd (m_set (m_set (m_set (m_set (m_set μ 122 (((1 + (4 * (μ 118 41))) + 0).toNat) (0)) 122 (((1 + (4 * (μ 118 41))) + (0 + 1)).toNat) (0)) 122 (((1 + (4 * (μ 118 41))) + (0 + 1 + 1)).toNat) (0)) 122 (((1 + (4 * (μ 118 41))) + (0 + 1 + 1 + 1)).toNat) (0)) 122 ((1 + (4 * (μ 118 41))).toNat) (2)) 118 Ha) 118 15 (3)) 118 16 (Ha 12)) c s) rfl rfl rfl (g_bad (μ := (m_upd (m_set (m_set (m_set (m_set (m_set μ 122 (((1 + (4 * (μ 118 41))) + 0).toNat) (0)) 122 (((1 + (4 * (μ 118 41))) + (0 + 1)).toNat) (0)) 122 (((1 + (4 * (μ 118 41))) + (0 + 1 + 1)).toNat) (0)) 122 (((1 + (4 * (μ 118 41))) + (0 + 1 + 1 + 1)).toNat) (0)) 122 ((1 + (4 * (μ 118 41))).toNat) (2)) 118 Ha)) (e := 3)) ?_
                        show Rn PT none kX12_planLine 119 [some (mR 118), some (mI (2)), some (mI (1 + (4 * (μ 118 41)))), some (mI (ix (fun j => μ 123 (0 + j)) (Ha 17) k9 0)), none] [mI (0)] (mkh (m_set (m_set (m_upd (m_set (m_set (m_set (m_set (m_set μ 122 (((1 + (4 * (μ 118 41))) + 0).toNat) (0)) 122 (((1 + (4 * (μ 118 41))) + (0 + 1)).toNat) (0)) 122 (((1 + (4 * (μ 118 41))) + (0 + 1 + 1)).toNat) (0)) 122 (((1 + (4 * (μ 118 41))) + (0 + 1 + 1 + 1)).toNat) (0)) 122 ((1 + (4 * (μ 118 41))).toNat) (2)) 118 Ha) 118 15 (3)) 118 16 (Ha 12)) c s) _
                        refine rn_iret rfl (Or.inr (by omega)) ?_
                        exact ⟨_, rfl, rfl, u12, (FrmQ.s (FrmQ.s (FrmQ.u (FrmQ.s2 (FrmQ.s2 (FrmQ.s2 (FrmQ.s2 (FrmQ.s2 FrmQ.r))))) hfa) (by decide)) (by decide))⟩
                    · exfalso; omega
                  · exfalso; omega
                · exfalso; omega
              · exfalso; omega
    · exfalso; omega
  · exfalso; omega
set_option maxHeartbeats 1000000 in
theorem m_pl13_full {μ : Nat → Nat → Int} {c s : Nat} {b : Nat → Int} {n m p : Nat} (hM : MSt μ b n m p) (hk : tkK b n m p = 1) {l9 : Nat} (hl : μ 118 41 = (l9 : Int)) (hl9 : l9 ≤ 30) (hl3 : l9 = 30) : Rn PT none kX12_planLine 32 [some (mR 118), some (mI (2)), none, none, none] [] (mkh μ c s) (fun r => ∃ ν', r = (some (some (mI 0)), mkh ν' c s) ∧ ν' 118 15 = 4 ∧ ν' 118 16 = ((tkP b n m p : Nat) : Int) ∧ FrmQ μ ν') := by
  refine rn_iload_n (k' := 33) rfl rfl rfl ?_
  refine rn_if_ge (k' := 34) rfl rfl (fun hc1 => ?_) (fun hc1 => ?_)
  · skip
    refine rn_aload_n (k' := 39) rfl rfl rfl ?_
    refine rn_getI (k' := 40) rfl rfl K0_118 (by decide) rfl ?_
    refine rn_bipush (k' := 41) rfl rfl ?_
    refine rn_icmp_ne (k' := 42) rfl rfl (fun hc2 => ?_) (fun hc2 => ?_)
    · exfalso; omega
    · skip
      refine rn_aload_n (k' := 43) rfl rfl rfl ?_
      refine rn_iconst (k' := 44) rfl rfl ?_
      refine rn_callP (k' := 45) (y := 176) (vs := [mR 118, mI (4)]) (S' := []) (v := some (mI (0))) (h' := mkh (m_set (m_set μ 118 15 (4)) 118 16 (μ 118 12)) c s) rfl rfl rfl (g_bad (μ := μ) (e := 4)) ?_
      show Rn PT none kX12_planLine 45 [some (mR 118), some (mI (2)), none, none, none] [mI (0)] (mkh (m_set (m_set μ 118 15 (4)) 118 16 (μ 118 12)) c s) _
      refine rn_iret rfl (Or.inr (by omega)) ?_
      exact ⟨_, rfl, rfl, hM.2.2.2.2.2.2.1, (FrmQ.s (FrmQ.s FrmQ.r (by decide)) (by decide))⟩
  · exfalso; omega
set_option maxHeartbeats 1000000 in
theorem m_pl13_ok {μ : Nat → Nat → Int} {c s : Nat} {b : Nat → Int} {n m p : Nat} (hM : MSt μ b n m p) (hk : tkK b n m p = 1) {l9 : Nat} (hl : μ 118 41 = (l9 : Int)) (hl9 : l9 ≤ 30) (hl3 : ¬ l9 = 30) {k9 : Nat} (hk9 : k9 ≤ 8) (h8 : μ 120 8 = (k9 : Int)) (k0 : tkK b n m (tkN b n m p) = 1) (w0 : ∀ y, Nm (tkV b n m (tkN b n m p)) y → ix (μ 124) y 16 0 = -1) (d0 : ∀ y, Nm (tkV b n m (tkN b n m p)) y → ¬ ix (fun j => μ 123 (0 + j)) y k9 0 = -1) (e1 : eN b n m (tkN b n m (tkN b n m p)) 1 99 = 0) : Rn PT none kX12_planLine 32 [some (mR 118), some (mI (2)), none, none, none] [] (mkh μ c s) (fun r => ∃ ν', r = (some (some (mI 1)), mkh ν' c s) ∧ MSt ν' b n m (tkN b n m (tkN b n m (tkN b n m p))) ∧ FrmQ μ ν' ∧ ν' 118 15 = μ 118 15 ∧ ν' 122 (1 + 4 * l9) = 2 ∧ (∃ y, Nm (tkV b n m (tkN b n m p)) y ∧ ν' 122 (2 + 4 * l9) = ix (fun j => μ 123 (0 + j)) y k9 0) ∧ ν' 122 (3 + 4 * l9) = tkV b n m (tkN b n m (tkN b n m p)) ∧ (∀ j, j < 1 + 4 * l9 → ν' 122 j = μ 122 j)) := by
  refine rn_iload_n (k' := 33) rfl rfl rfl ?_
  refine rn_if_ge (k' := 34) rfl rfl (fun hc1 => ?_) (fun hc1 => ?_)
  · skip
    refine rn_aload_n (k' := 39) rfl rfl rfl ?_
    refine rn_getI (k' := 40) rfl rfl K0_118 (by decide) rfl ?_
    refine rn_bipush (k' := 41) rfl rfl ?_
    refine rn_icmp_ne (k' := 42) rfl rfl (fun hc2 => ?_) (fun hc2 => ?_)
    · skip
      refine rn_iconst (k' := 47) rfl rfl ?_
      refine rn_iconst (k' := 48) rfl rfl ?_
      refine rn_aload_n (k' := 49) rfl rfl rfl ?_
      refine rn_getI (k' := 50) rfl rfl K0_118 (by decide) rfl ?_
      refine rn_imul (k' := 51) rfl rfl (by omega) ?_
      refine rn_iadd (k' := 52) rfl rfl (by omega) ?_
      refine rn_istore_n (k' := 53) (L' := [some (mR 118), some (mI (2)), some (mI (1 + (4 * (μ 118 41)))), none, none]) rfl rfl (Nat.le_of_ble_eq_true rfl) rfl ?_
      refine rn_iconst (k' := 54) rfl rfl ?_
      refine rn_istore_n (k' := 55) (L' := [some (mR 118), some (mI (2)), some (mI (1 + (4 * (μ 118 41)))), some (mI (0)), none]) rfl rfl (Nat.le_of_ble_eq_true rfl) rfl ?_
      refine rn_iload_n (k' := 56) rfl rfl rfl ?_
      refine rn_iconst (k' := 57) rfl rfl ?_
      refine rn_icmp_ge (k' := 58) rfl rfl (fun hc3 => ?_) (fun hc3 => ?_)
      · exfalso; omega
      · skip
        refine rn_aload_n (k' := 59) rfl rfl rfl ?_
        refine rn_getR (k' := 60) rfl rfl K0_118 (by decide) rfl R0_118_8 ?_
        refine rn_iload_n (k' := 61) rfl rfl rfl ?_
        refine rn_iload_n (k' := 62) rfl rfl rfl ?_
        refine rn_iadd (k' := 63) rfl rfl (by omega) ?_
        refine rn_iconst (k' := 64) rfl rfl ?_
        refine rn_iastore (k' := 65) rfl rfl K0_122 (by omega) (by omega) ?_
        refine rn_iinc (k' := 66) (L' := [some (mR 118), some (mI (2)), some (mI (1 + (4 * (μ 118 41)))), some (mI (0 + 1)), none]) rfl rfl rfl (by omega) rfl ?_
        refine rn_goto rfl ?_
        refine rn_iload_n (k' := 56) rfl rfl rfl ?_
        refine rn_iconst (k' := 57) rfl rfl ?_
        refine rn_icmp_ge (k' := 58) rfl rfl (fun hc4 => ?_) (fun hc4 => ?_)
        · exfalso; omega
        · skip
          refine rn_aload_n (k' := 59) rfl rfl rfl ?_
          refine rn_getR (k' := 60) rfl rfl K0_118 (by decide) rfl R0_118_8 ?_
          refine rn_iload_n (k' := 61) rfl rfl rfl ?_
          refine rn_iload_n (k' := 62) rfl rfl rfl ?_
          refine rn_iadd (k' := 63) rfl rfl (by omega) ?_
          refine rn_iconst (k' := 64) rfl rfl ?_
          refine rn_iastore (k' := 65) rfl rfl K0_122 (by omega) (by omega) ?_
          refine rn_iinc (k' := 66) (L' := [some (mR 118), some (mI (2)), some (mI (1 + (4 * (μ 118 41)))), some (mI (0 + 1 + 1)), none]) rfl rfl rfl (by omega) rfl ?_
          refine rn_goto rfl ?_
          refine rn_iload_n (k' := 56) rfl rfl rfl ?_
          refine rn_iconst (k' := 57) rfl rfl ?_
          refine rn_icmp_ge (k' := 58) rfl rfl (fun hc5 => ?_) (fun hc5 => ?_)
          · exfalso; omega
          · skip
            refine rn_aload_n (k' := 59) rfl rfl rfl ?_
            refine rn_getR (k' := 60) rfl rfl K0_118 (by decide) rfl R0_118_8 ?_
            refine rn_iload_n (k' := 61) rfl rfl rfl ?_
            refine rn_iload_n (k' := 62) rfl rfl rfl ?_
            refine rn_iadd (k' := 63) rfl rfl (by omega) ?_
            refine rn_iconst (k' := 64) rfl rfl ?_
            refine rn_iastore (k' := 65) rfl rfl K0_122 (by omega) (by omega) ?_
            refine rn_iinc (k' := 66) (L' := [some (mR 118), some (mI (2)), some (mI (1 + (4 * (μ 118 41)))), some (mI (0 + 1 + 1 + 1)), none]) rfl rfl rfl (by omega) rfl ?_
            refine rn_goto rfl ?_
            refine rn_iload_n (k' := 56) rfl rfl rfl ?_
            refine rn_iconst (k' := 57) rfl rfl ?_
            refine rn_icmp_ge (k' := 58) rfl rfl (fun hc6 => ?_) (fun hc6 => ?_)
            · exfalso; omega
            · skip
              refine rn_aload_n (k' := 59) rfl rfl rfl ?_
              refine rn_getR (k' := 60) rfl rfl K0_118 (by decide) rfl R0_118_8 ?_
              refine rn_iload_n (k' := 61) rfl rfl rfl ?_
              refine rn_iload_n (k' := 62) rfl rfl rfl ?_
              refine rn_iadd (k' := 63) rfl rfl (by omega) ?_
              refine rn_iconst (k' := 64) rfl rfl ?_
              refine rn_iastore (k' := 65) rfl rfl K0_122 (by omega) (by omega) ?_
              refine rn_iinc (k' := 66) (L' := [some (mR 118), some (mI (2)), some (mI (1 + (4 * (μ 118 41)))), some (mI (0 + 1 + 1 + 1 + 1)), none]) rfl rfl rfl (by omega) rfl ?_
              refine rn_goto rfl ?_
              refine rn_iload_n (k' := 56) rfl rfl rfl ?_
              refine rn_iconst (k' := 57) rfl rfl ?_
              refine rn_icmp_ge (k' := 58) rfl rfl (fun hc7 => ?_) (fun hc7 => ?_)
              · skip
                refine rn_aload_n (k' := 68) rfl rfl rfl ?_
                refine rn_getR (k' := 69) rfl rfl K0_118 (by decide) rfl R0_118_8 ?_
                refine rn_iload_n (k' := 70) rfl rfl rfl ?_
                refine rn_iload_n (k' := 71) rfl rfl rfl ?_
                refine rn_iastore (k' := 72) rfl rfl K0_122 (by omega) (by omega) ?_
                refine rn_aload_n (k' := 73) rfl rfl rfl ?_
                obtain ⟨Ha, ⟨hma, hfa_⟩, hca⟩ := g_next2 (μ := (m_set (m_set (m_set (m_set (m_set μ 122 (((1 + (4 * (μ 118 41))) + 0).toNat) (0)) 122 (((1 + (4 * (μ 118 41))) + (0 + 1)).toNat) (0)) 122 (((1 + (4 * (μ 118 41))) + (0 + 1 + 1)).toNat) (0)) 122 (((1 + (4 * (μ 118 41))) + (0 + 1 + 1 + 1)).toNat) (0)) 122 ((1 + (4 * (μ 118 41))).toNat) (2))) (c := c) (s := s) (b := b) (n := n) (m := m) (p := p) hM (by omega)
                have hfa : FRt Ha _ := hfa_.t
                have hM0 : MSt (m_upd (m_set (m_set (m_set (m_set (m_set μ 122 (((1 + (4 * (μ 118 41))) + 0).toNat) (0)) 122 (((1 + (4 * (μ 118 41))) + (0 + 1)).toNat) (0)) 122 (((1 + (4 * (μ 118 41))) + (0 + 1 + 1)).toNat) (0)) 122 (((1 + (4 * (μ 118 41))) + (0 + 1 + 1 + 1)).toNat) (0)) 122 ((1 + (4 * (μ 118 41))).toNat) (2)) 118 Ha) b n m (tkN b n m p) := ⟨hM.1, hM.2.1, hM.2.2.1, (tkN_b hM.2.2.2.1).2.1, hma⟩
                obtain ⟨_, _, u12, u11, _, u17, _, _⟩ := hma
                have hu : Ha 11 = 1 := by rw [u11]; exact mkk_1.mpr k0
                have hw := w0 _ (u17 k0)
                have hd := d0 _ (u17 k0)
                refine rn_callP (k' := 74) (y := 175) (vs := [mR 118]) (S' := []) (v := none) (h' := mkh (m_upd (m_set (m_set (m_set (m_set (m_set μ 122 (((1 + (4 * (μ 118 41))) + 0).toNat) (0)) 122 (((1 + (4 * (μ 118 41))) + (0 + 1)).toNat) (0)) 122 (((1 + (4 * (μ 118 41))) + (0 + 1 + 1)).toNat) (0)) 122 (((1 + (4 * (μ 118 41))) + (0 + 1 + 1 + 1)).toNat) (0)) 122 ((1 + (4 * (μ 118 41))).toNat) (2)) 118 Ha) c s) rfl rfl rfl (hca) ?_
                show Rn PT none kX12_planLine 74 [some (mR 118), some (mI (2)), some (mI (1 + (4 * (μ 118 41)))), some (mI (0 + 1 + 1 + 1 + 1)), none] [] (mkh (m_upd (m_set (m_set (m_set (m_set (m_set μ 122 (((1 + (4 * (μ 118 41))) + 0).toNat) (0)) 122 (((1 + (4 * (μ 118 41))) + (0 + 1)).toNat) (0)) 122 (((1 + (4 * (μ 118 41))) + (0 + 1 + 1)).toNat) (0)) 122 (((1 + (4 * (μ 118 41))) + (0 + 1 + 1 + 1)).toNat) (0)) 122 ((1 + (4 * (μ 118 41))).toNat) (2)) 118 Ha) c s) _
                refine rn_iload_n (k' := 75) rfl rfl rfl ?_
                refine rn_iconst (k' := 76) rfl rfl ?_
                refine rn_icmp_ne (k' := 77) rfl rfl (fun hc8 => ?_) (fun hc8 => ?_)
                · skip
                  refine rn_iload_n (k' := 80) rfl rfl rfl ?_
                  refine rn_iconst (k' := 81) rfl rfl ?_
                  refine rn_icmp_ne (k' := 82) rfl rfl (fun hc9 => ?_) (fun hc9 => ?_)
                  · skip
                    refine rn_aload_n (k' := 100) rfl rfl rfl ?_
                    refine rn_callP (k' := 101) (y := 180) (vs := [mR 118]) (S' := []) (v := some (mI (1))) (h' := mkh (m_upd (m_set (m_set (m_set (m_set (m_set μ 122 (((1 + (4 * (μ 118 41))) + 0).toNat) (0)) 122 (((1 + (4 * (μ 118 41))) + (0 + 1)).toNat) (0)) 122 (((1 + (4 * (μ 118 41))) + (0 + 1 + 1)).toNat) (0)) 122 (((1 + (4 * (μ 118 41))) + (0 + 1 + 1 + 1)).toNat) (0)) 122 ((1 + (4 * (μ 118 41))).toNat) (2)) 118 Ha) c s) rfl rfl rfl (by have hz : Cl PT 180 [mR 118] (mkh (m_upd (m_set (m_set (m_set (m_set (m_set μ 122 (((1 + (4 * (μ 118 41))) + 0).toNat) (0)) 122 (((1 + (4 * (μ 118 41))) + (0 + 1)).toNat) (0)) 122 (((1 + (4 * (μ 118 41))) + (0 + 1 + 1)).toNat) (0)) 122 (((1 + (4 * (μ 118 41))) + (0 + 1 + 1 + 1)).toNat) (0)) 122 ((1 + (4 * (μ 118 41))).toNat) (2)) 118 Ha) c s) (fun r => r = (some (some (mI (if Ha 11 = 1 ∧ ix (μ 124) (Ha 17) 16 0 = -1 then 1 else 0))), mkh (m_upd (m_set (m_set (m_set (m_set (m_set μ 122 (((1 + (4 * (μ 118 41))) + 0).toNat) (0)) 122 (((1 + (4 * (μ 118 41))) + (0 + 1)).toNat) (0)) 122 (((1 + (4 * (μ 118 41))) + (0 + 1 + 1)).toNat) (0)) 122 (((1 + (4 * (μ 118 41))) + (0 + 1 + 1 + 1)).toNat) (0)) 122 ((1 + (4 * (μ 118 41))).toNat) (2)) 118 Ha) c s)) := c_X12_isName (μ := (m_upd (m_set (m_set (m_set (m_set (m_set μ 122 (((1 + (4 * (μ 118 41))) + 0).toNat) (0)) 122 (((1 + (4 * (μ 118 41))) + (0 + 1)).toNat) (0)) 122 (((1 + (4 * (μ 118 41))) + (0 + 1 + 1)).toNat) (0)) 122 (((1 + (4 * (μ 118 41))) + (0 + 1 + 1 + 1)).toNat) (0)) 122 ((1 + (4 * (μ 118 41))).toNat) (2)) 118 Ha)) (c := c) (s := s); rw [if_pos (show Ha 11 = 1 ∧ ix (μ 124) (Ha 17) 16 0 = -1 from ⟨hu, hw⟩)] at hz; exact hz) ?_
                    show Rn PT none kX12_planLine 101 [some (mR 118), some (mI (2)), some (mI (1 + (4 * (μ 118 41)))), some (mI (0 + 1 + 1 + 1 + 1)), none] [mI (1)] (mkh (m_upd (m_set (m_set (m_set (m_set (m_set μ 122 (((1 + (4 * (μ 118 41))) + 0).toNat) (0)) 122 (((1 + (4 * (μ 118 41))) + (0 + 1)).toNat) (0)) 122 (((1 + (4 * (μ 118 41))) + (0 + 1 + 1)).toNat) (0)) 122 (((1 + (4 * (μ 118 41))) + (0 + 1 + 1 + 1)).toNat) (0)) 122 ((1 + (4 * (μ 118 41))).toNat) (2)) 118 Ha) c s) _
                    refine rn_if_ne (k' := 102) rfl rfl (fun hc10 => ?_) (fun hc10 => ?_)
                    · skip
                      refine rn_aload_n (k' := 107) rfl rfl rfl ?_
                      refine rn_iconst (k' := 108) rfl rfl ?_
                      refine rn_aload_n (k' := 109) rfl rfl rfl ?_
                      refine rn_getR (k' := 110) rfl rfl K0_118 (by decide) rfl R0_118_6 ?_
                      refine rn_bipush (k' := 111) rfl rfl ?_
                      refine rn_iaload (k' := 112) rfl rfl K0_120 (by omega) (by omega) ?_
                      show Rn PT none kX12_planLine 112 [some (mR 118), some (mI (2)), some (mI (1 + (4 * (μ 118 41)))), some (mI (0 + 1 + 1 + 1 + 1)), none] [mI (μ 120 8), mI (0), mR 118] (mkh (m_upd (m_set (m_set (m_set (m_set (m_set μ 122 (((1 + (4 * (μ 118 41))) + 0).toNat) (0)) 122 (((1 + (4 * (μ 118 41))) + (0 + 1)).toNat) (0)) 122 (((1 + (4 * (μ 118 41))) + (0 + 1 + 1)).toNat) (0)) 122 (((1 + (4 * (μ 118 41))) + (0 + 1 + 1 + 1)).toNat) (0)) 122 ((1 + (4 * (μ 118 41))).toNat) (2)) 118 Ha) c s) _
                      have hfb9 := ix_b (f := fun j => μ 123 (0 + j)) (v := Ha 17) k9 0
                      refine rn_callP (k' := 113) (y := 182) (vs := [mR 118, mI (0), mI (μ 120 8)]) (S' := []) (v := some (mI (ix (fun j => μ 123 (0 + j)) (Ha 17) k9 0))) (h' := mkh (m_upd (m_set (m_set (m_set (m_set (m_set μ 122 (((1 + (4 * (μ 118 41))) + 0).toNat) (0)) 122 (((1 + (4 * (μ 118 41))) + (0 + 1)).toNat) (0)) 122 (((1 + (4 * (μ 118 41))) + (0 + 1 + 1)).toNat) (0)) 122 (((1 + (4 * (μ 118 41))) + (0 + 1 + 1 + 1)).toNat) (0)) 122 ((1 + (4 * (μ 118 41))).toNat) (2)) 118 Ha) c s) rfl rfl rfl (by have hz := c_find (μ := (m_upd (m_set (m_set (m_set (m_set (m_set μ 122 (((1 + (4 * (μ 118 41))) + 0).toNat) (0)) 122 (((1 + (4 * (μ 118 41))) + (0 + 1)).toNat) (0)) 122 (((1 + (4 * (μ 118 41))) + (0 + 1 + 1)).toNat) (0)) 122 (((1 + (4 * (μ 118 41))) + (0 + 1 + 1 + 1)).toNat) (0)) 122 ((1 + (4 * (μ 118 41))).toNat) (2)) 118 Ha)) (c := c) (s := s) (o9 := 0) (k9 := k9) (by decide) hk9; rw [← h8] at hz; exact hz) ?_
                      show Rn PT none kX12_planLine 113 [some (mR 118), some (mI (2)), some (mI (1 + (4 * (μ 118 41)))), some (mI (0 + 1 + 1 + 1 + 1)), none] [mI (ix (fun j => μ 123 (0 + j)) (Ha 17) k9 0)] (mkh (m_upd (m_set (m_set (m_set (m_set (m_set μ 122 (((1 + (4 * (μ 118 41))) + 0).toNat) (0)) 122 (((1 + (4 * (μ 118 41))) + (0 + 1)).toNat) (0)) 122 (((1 + (4 * (μ 118 41))) + (0 + 1 + 1)).toNat) (0)) 122 (((1 + (4 * (μ 118 41))) + (0 + 1 + 1 + 1)).toNat) (0)) 122 ((1 + (4 * (μ 118 41))).toNat) (2)) 118 Ha) c s) _
                      refine rn_istore_n (k' := 114) (L' := [some (mR 118), some (mI (2)), some (mI (1 + (4 * (μ 118 41)))), some (mI (ix (fun j => μ 123 (0 + j)) (Ha 17) k9 0)), none]) rfl rfl (Nat.le_of_ble_eq_true rfl) rfl ?_
                      refine rn_iload_n (k' := 115) rfl rfl rfl ?_
                      refine rn_if_ge (k' := 116) rfl rfl (fun hc11 => ?_) (fun hc11 => ?_)
                      · skip
                        refine rn_aload_n (k' := 121) rfl rfl rfl ?_
                        refine rn_getR (k' := 122) rfl rfl K0_118 (by decide) rfl R0_118_8 ?_
                        refine rn_iload_n (k' := 123) rfl rfl rfl ?_
                        refine rn_iconst (k' := 124) rfl rfl ?_
                        refine rn_iadd (k' := 125) rfl rfl (by omega) ?_
                        refine rn_iload_n (k' := 126) rfl rfl rfl ?_
                        refine rn_iastore (k' := 127) rfl rfl K0_122 (by omega) (by omega) ?_
                        refine rn_aload_n (k' := 128) rfl rfl rfl ?_
                        obtain ⟨Hb, ⟨hmb, hfb_⟩, hcb⟩ := g_next2 (μ := (m_set (m_upd (m_set (m_set (m_set (m_set (m_set μ 122 (((1 + (4 * (μ 118 41))) + 0).toNat) (0)) 122 (((1 + (4 * (μ 118 41))) + (0 + 1)).toNat) (0)) 122 (((1 + (4 * (μ 118 41))) + (0 + 1 + 1)).toNat) (0)) 122 (((1 + (4 * (μ 118 41))) + (0 + 1 + 1 + 1)).toNat) (0)) 122 ((1 + (4 * (μ 118 41))).toNat) (2)) 118 Ha) 122 (((1 + (4 * (μ 118 41))) + 1).toNat) (ix (fun j => μ 123 (0 + j)) (Ha 17) k9 0))) (c := c) (s := s) (b := b) (n := n) (m := m) (p := (tkN b n m p)) hM0 (by omega)
                        have hfb : FRt Hb _ := hfb_.t
                        have hM1 : MSt (m_upd (m_set (m_upd (m_set (m_set (m_set (m_set (m_set μ 122 (((1 + (4 * (μ 118 41))) + 0).toNat) (0)) 122 (((1 + (4 * (μ 118 41))) + (0 + 1)).toNat) (0)) 122 (((1 + (4 * (μ 118 41))) + (0 + 1 + 1)).toNat) (0)) 122 (((1 + (4 * (μ 118 41))) + (0 + 1 + 1 + 1)).toNat) (0)) 122 ((1 + (4 * (μ 118 41))).toNat) (2)) 118 Ha) 122 (((1 + (4 * (μ 118 41))) + 1).toNat) (ix (fun j => μ 123 (0 + j)) (Ha 17) k9 0)) 118 Hb) b n m (tkN b n m (tkN b n m p)) := ⟨hM0.1, hM0.2.1, hM0.2.2.1, (tkN_b hM0.2.2.2.1).2.1, hmb⟩
                        refine rn_callP (k' := 129) (y := 175) (vs := [mR 118]) (S' := []) (v := none) (h' := mkh (m_upd (m_set (m_upd (m_set (m_set (m_set (m_set (m_set μ 122 (((1 + (4 * (μ 118 41))) + 0).toNat) (0)) 122 (((1 + (4 * (μ 118 41))) + (0 + 1)).toNat) (0)) 122 (((1 + (4 * (μ 118 41))) + (0 + 1 + 1)).toNat) (0)) 122 (((1 + (4 * (μ 118 41))) + (0 + 1 + 1 + 1)).toNat) (0)) 122 ((1 + (4 * (μ 118 41))).toNat) (2)) 118 Ha) 122 (((1 + (4 * (μ 118 41))) + 1).toNat) (ix (fun j => μ 123 (0 + j)) (Ha 17) k9 0)) 118 Hb) c s) rfl rfl rfl (hcb) ?_
                        show Rn PT none kX12_planLine 129 [some (mR 118), some (mI (2)), some (mI (1 + (4 * (μ 118 41)))), some (mI (ix (fun j => μ 123 (0 + j)) (Ha 17) k9 0)), none] [] (mkh (m_upd (m_set (m_upd (m_set (m_set (m_set (m_set (m_set μ 122 (((1 + (4 * (μ 118 41))) + 0).toNat) (0)) 122 (((1 + (4 * (μ 118 41))) + (0 + 1)).toNat) (0)) 122 (((1 + (4 * (μ 118 41))) + (0 + 1 + 1)).toNat) (0)) 122 (((1 + (4 * (μ 118 41))) + (0 + 1 + 1 + 1)).toNat) (0)) 122 ((1 + (4 * (μ 118 41))).toNat) (2)) 118 Ha) 122 (((1 + (4 * (μ 118 41))) + 1).toNat) (ix (fun j => μ 123 (0 + j)) (Ha 17) k9 0)) 118 Hb) c s) _
                        refine rn_iload_n (k' := 130) rfl rfl rfl ?_
                        refine rn_if_eq (k' := 131) rfl rfl (fun hc12 => ?_) (fun hc12 => ?_)
                        · exfalso; omega
                        · skip
                          refine rn_aload_n (k' := 132) rfl rfl rfl ?_
                          refine rn_iconst (k' := 133) rfl rfl ?_
                          refine rn_bipush (k' := 134) rfl rfl ?_
                          obtain ⟨H1, ⟨hm1, hv1, hf1⟩, hc1⟩ := g_takes (μ := (m_upd (m_set (m_upd (m_set (m_set (m_set (m_set (m_set μ 122 (((1 + (4 * (μ 118 41))) + 0).toNat) (0)) 122 (((1 + (4 * (μ 118 41))) + (0 + 1)).toNat) (0)) 122 (((1 + (4 * (μ 118 41))) + (0 + 1 + 1)).toNat) (0)) 122 (((1 + (4 * (μ 118 41))) + (0 + 1 + 1 + 1)).toNat) (0)) 122 ((1 + (4 * (μ 118 41))).toNat) (2)) 118 Ha) 122 (((1 + (4 * (μ 118 41))) + 1).toNat) (ix (fun j => μ 123 (0 + j)) (Ha 17) k9 0)) 118 Hb)) (c := c) (s := s) (b := b) (n := n) (m := m) (p := (tkN b n m (tkN b n m p))) (lo := 1) (hi := 99) hM1 e1
                          have hM2 : MSt (m_upd (m_upd (m_set (m_upd (m_set (m_set (m_set (m_set (m_set μ 122 (((1 + (4 * (μ 118 41))) + 0).toNat) (0)) 122 (((1 + (4 * (μ 118 41))) + (0 + 1)).toNat) (0)) 122 (((1 + (4 * (μ 118 41))) + (0 + 1 + 1)).toNat) (0)) 122 (((1 + (4 * (μ 118 41))) + (0 + 1 + 1 + 1)).toNat) (0)) 122 ((1 + (4 * (μ 118 41))).toNat) (2)) 118 Ha) 122 (((1 + (4 * (μ 118 41))) + 1).toNat) (ix (fun j => μ 123 (0 + j)) (Ha 17) k9 0)) 118 Hb) 118 H1) b n m (tkN b n m (tkN b n m (tkN b n m p))) := ⟨hM1.1, hM1.2.1, hM1.2.2.1, (tkN_b hM1.2.2.2.1).2.1, hm1⟩
                          have kk1 := eN_ok e1
                          have kx1 := tk_num kk1.1
                          refine rn_callP (k' := 135) (y := 181) (vs := [mR 118, mI (1), mI (99)]) (S' := []) (v := some (mI (1))) (h' := mkh (m_upd (m_upd (m_set (m_upd (m_set (m_set (m_set (m_set (m_set μ 122 (((1 + (4 * (μ 118 41))) + 0).toNat) (0)) 122 (((1 + (4 * (μ 118 41))) + (0 + 1)).toNat) (0)) 122 (((1 + (4 * (μ 118 41))) + (0 + 1 + 1)).toNat) (0)) 122 (((1 + (4 * (μ 118 41))) + (0 + 1 + 1 + 1)).toNat) (0)) 122 ((1 + (4 * (μ 118 41))).toNat) (2)) 118 Ha) 122 (((1 + (4 * (μ 118 41))) + 1).toNat) (ix (fun j => μ 123 (0 + j)) (Ha 17) k9 0)) 118 Hb) 118 H1) c s) rfl rfl rfl (hc1) ?_
                          show Rn PT none kX12_planLine 135 [some (mR 118), some (mI (2)), some (mI (1 + (4 * (μ 118 41)))), some (mI (ix (fun j => μ 123 (0 + j)) (Ha 17) k9 0)), none] [mI (1)] (mkh (m_upd (m_upd (m_set (m_upd (m_set (m_set (m_set (m_set (m_set μ 122 (((1 + (4 * (μ 118 41))) + 0).toNat) (0)) 122 (((1 + (4 * (μ 118 41))) + (0 + 1)).toNat) (0)) 122 (((1 + (4 * (μ 118 41))) + (0 + 1 + 1)).toNat) (0)) 122 (((1 + (4 * (μ 118 41))) + (0 + 1 + 1 + 1)).toNat) (0)) 122 ((1 + (4 * (μ 118 41))).toNat) (2)) 118 Ha) 122 (((1 + (4 * (μ 118 41))) + 1).toNat) (ix (fun j => μ 123 (0 + j)) (Ha 17) k9 0)) 118 Hb) 118 H1) c s) _
                          refine rn_if_ne (k' := 136) rfl rfl (fun hc13 => ?_) (fun hc13 => ?_)
                          · skip
                            refine rn_aload_n (k' := 139) rfl rfl rfl ?_
                            refine rn_getR (k' := 140) rfl rfl K0_118 (by decide) rfl R0_118_8 ?_
                            refine rn_iload_n (k' := 141) rfl rfl rfl ?_
                            refine rn_iconst (k' := 142) rfl rfl ?_
                            refine rn_iadd (k' := 143) rfl rfl (by omega) ?_
                            refine rn_aload_n (k' := 144) rfl rfl rfl ?_
                            refine rn_getI (k' := 145) rfl rfl K0_118 (by decide) rfl ?_
                            show Rn PT none kX12_planLine 145 [some (mR 118), some (mI (2)), some (mI (1 + (4 * (μ 118 41)))), some (mI (ix (fun j => μ 123 (0 + j)) (Ha 17) k9 0)), none] [mI (H1 18), mI ((1 + (4 * (μ 118 41))) + 2), mR 122] (mkh (m_upd (m_upd (m_set (m_upd (m_set (m_set (m_set (m_set (m_set μ 122 (((1 + (4 * (μ 118 41))) + 0).toNat) (0)) 122 (((1 + (4 * (μ 118 41))) + (0 + 1)).toNat) (0)) 122 (((1 + (4 * (μ 118 41))) + (0 + 1 + 1)).toNat) (0)) 122 (((1 + (4 * (μ 118 41))) + (0 + 1 + 1 + 1)).toNat) (0)) 122 ((1 + (4 * (μ 118 41))).toNat) (2)) 118 Ha) 122 (((1 + (4 * (μ 118 41))) + 1).toNat) (ix (fun j => μ 123 (0 + j)) (Ha 17) k9 0)) 118 Hb) 118 H1) c s) _
                            refine rn_iastore (k' := 146) rfl rfl K0_122 (by omega) (by omega) ?_
                            refine rn_iconst (k' := 147) rfl rfl ?_
                            refine rn_iret rfl (Or.inr (by omega)) ?_
                            refine ⟨_, rfl, hM2, (FrmQ.s2 (FrmQ.u (FrmQ.u (FrmQ.s2 (FrmQ.u (FrmQ.s2 (FrmQ.s2 (FrmQ.s2 (FrmQ.s2 (FrmQ.s2 FrmQ.r))))) hfa)) hfb) hf1)), ((hf1 15 (by decide) (by decide) (by decide) (by decide) (by decide) (by decide) (by decide)).trans ((hfb 15 (by decide) (by decide) (by decide) (by decide) (by decide) (by decide) (by decide)).trans ((hfa 15 (by decide) (by decide) (by decide) (by decide) (by decide) (by decide) (by decide)).trans rfl))), ((set_mis (by omega)).trans ((set_mis (by omega)).trans (set_hit (by omega)))), ⟨Ha 17, u17 k0, ((set_mis (by omega)).trans (set_hit (by omega)))⟩, ((set_hit (by omega)).trans hv1), (fun j hj => ((set_mis (by omega)).trans ((set_mis (by omega)).trans ((set_mis (by omega)).trans ((set_mis (by omega)).trans ((set_mis (by omega)).trans ((set_mis (by omega)).trans ((set_mis (by omega)).trans rfl))))))))⟩
                          · exfalso; omega
                      · exfalso; omega
                    · exfalso; omega
                  · exfalso; omega
                · exfalso; omega
              · exfalso; omega
    · exfalso; omega
  · exfalso; omega
set_option maxHeartbeats 1000000 in
theorem m_pl14_full {μ : Nat → Nat → Int} {c s : Nat} {b : Nat → Int} {n m p : Nat} (hM : MSt μ b n m p) (hk : tkK b n m p = 1) {l9 : Nat} (hl : μ 118 41 = (l9 : Int)) (hl9 : l9 ≤ 30) (hl3 : l9 = 30) : Rn PT none kX12_planLine 32 [some (mR 118), some (mI (3)), none, none, none] [] (mkh μ c s) (fun r => ∃ ν', r = (some (some (mI 0)), mkh ν' c s) ∧ ν' 118 15 = 4 ∧ ν' 118 16 = ((tkP b n m p : Nat) : Int) ∧ FrmQ μ ν') := by
  refine rn_iload_n (k' := 33) rfl rfl rfl ?_
  refine rn_if_ge (k' := 34) rfl rfl (fun hc1 => ?_) (fun hc1 => ?_)
  · skip
    refine rn_aload_n (k' := 39) rfl rfl rfl ?_
    refine rn_getI (k' := 40) rfl rfl K0_118 (by decide) rfl ?_
    refine rn_bipush (k' := 41) rfl rfl ?_
    refine rn_icmp_ne (k' := 42) rfl rfl (fun hc2 => ?_) (fun hc2 => ?_)
    · exfalso; omega
    · skip
      refine rn_aload_n (k' := 43) rfl rfl rfl ?_
      refine rn_iconst (k' := 44) rfl rfl ?_
      refine rn_callP (k' := 45) (y := 176) (vs := [mR 118, mI (4)]) (S' := []) (v := some (mI (0))) (h' := mkh (m_set (m_set μ 118 15 (4)) 118 16 (μ 118 12)) c s) rfl rfl rfl (g_bad (μ := μ) (e := 4)) ?_
      show Rn PT none kX12_planLine 45 [some (mR 118), some (mI (3)), none, none, none] [mI (0)] (mkh (m_set (m_set μ 118 15 (4)) 118 16 (μ 118 12)) c s) _
      refine rn_iret rfl (Or.inr (by omega)) ?_
      exact ⟨_, rfl, rfl, hM.2.2.2.2.2.2.1, (FrmQ.s (FrmQ.s FrmQ.r (by decide)) (by decide))⟩
  · exfalso; omega
set_option maxHeartbeats 1000000 in
theorem m_pl14_ok {μ : Nat → Nat → Int} {c s : Nat} {b : Nat → Int} {n m p : Nat} (hM : MSt μ b n m p) (hk : tkK b n m p = 1) {l9 : Nat} (hl : μ 118 41 = (l9 : Int)) (hl9 : l9 ≤ 30) (hl3 : ¬ l9 = 30) : Rn PT none kX12_planLine 32 [some (mR 118), some (mI (3)), none, none, none] [] (mkh μ c s) (fun r => ∃ ν', r = (some (some (mI 1)), mkh ν' c s) ∧ MSt ν' b n m (tkN b n m p) ∧ FrmQ μ ν' ∧ ν' 118 15 = μ 118 15 ∧ ν' 122 (1 + 4 * l9) = 3 ∧ (∀ j, j < 1 + 4 * l9 → ν' 122 j = μ 122 j)) := by
  refine rn_iload_n (k' := 33) rfl rfl rfl ?_
  refine rn_if_ge (k' := 34) rfl rfl (fun hc1 => ?_) (fun hc1 => ?_)
  · skip
    refine rn_aload_n (k' := 39) rfl rfl rfl ?_
    refine rn_getI (k' := 40) rfl rfl K0_118 (by decide) rfl ?_
    refine rn_bipush (k' := 41) rfl rfl ?_
    refine rn_icmp_ne (k' := 42) rfl rfl (fun hc2 => ?_) (fun hc2 => ?_)
    · skip
      refine rn_iconst (k' := 47) rfl rfl ?_
      refine rn_iconst (k' := 48) rfl rfl ?_
      refine rn_aload_n (k' := 49) rfl rfl rfl ?_
      refine rn_getI (k' := 50) rfl rfl K0_118 (by decide) rfl ?_
      refine rn_imul (k' := 51) rfl rfl (by omega) ?_
      refine rn_iadd (k' := 52) rfl rfl (by omega) ?_
      refine rn_istore_n (k' := 53) (L' := [some (mR 118), some (mI (3)), some (mI (1 + (4 * (μ 118 41)))), none, none]) rfl rfl (Nat.le_of_ble_eq_true rfl) rfl ?_
      refine rn_iconst (k' := 54) rfl rfl ?_
      refine rn_istore_n (k' := 55) (L' := [some (mR 118), some (mI (3)), some (mI (1 + (4 * (μ 118 41)))), some (mI (0)), none]) rfl rfl (Nat.le_of_ble_eq_true rfl) rfl ?_
      refine rn_iload_n (k' := 56) rfl rfl rfl ?_
      refine rn_iconst (k' := 57) rfl rfl ?_
      refine rn_icmp_ge (k' := 58) rfl rfl (fun hc3 => ?_) (fun hc3 => ?_)
      · exfalso; omega
      · skip
        refine rn_aload_n (k' := 59) rfl rfl rfl ?_
        refine rn_getR (k' := 60) rfl rfl K0_118 (by decide) rfl R0_118_8 ?_
        refine rn_iload_n (k' := 61) rfl rfl rfl ?_
        refine rn_iload_n (k' := 62) rfl rfl rfl ?_
        refine rn_iadd (k' := 63) rfl rfl (by omega) ?_
        refine rn_iconst (k' := 64) rfl rfl ?_
        refine rn_iastore (k' := 65) rfl rfl K0_122 (by omega) (by omega) ?_
        refine rn_iinc (k' := 66) (L' := [some (mR 118), some (mI (3)), some (mI (1 + (4 * (μ 118 41)))), some (mI (0 + 1)), none]) rfl rfl rfl (by omega) rfl ?_
        refine rn_goto rfl ?_
        refine rn_iload_n (k' := 56) rfl rfl rfl ?_
        refine rn_iconst (k' := 57) rfl rfl ?_
        refine rn_icmp_ge (k' := 58) rfl rfl (fun hc4 => ?_) (fun hc4 => ?_)
        · exfalso; omega
        · skip
          refine rn_aload_n (k' := 59) rfl rfl rfl ?_
          refine rn_getR (k' := 60) rfl rfl K0_118 (by decide) rfl R0_118_8 ?_
          refine rn_iload_n (k' := 61) rfl rfl rfl ?_
          refine rn_iload_n (k' := 62) rfl rfl rfl ?_
          refine rn_iadd (k' := 63) rfl rfl (by omega) ?_
          refine rn_iconst (k' := 64) rfl rfl ?_
          refine rn_iastore (k' := 65) rfl rfl K0_122 (by omega) (by omega) ?_
          refine rn_iinc (k' := 66) (L' := [some (mR 118), some (mI (3)), some (mI (1 + (4 * (μ 118 41)))), some (mI (0 + 1 + 1)), none]) rfl rfl rfl (by omega) rfl ?_
          refine rn_goto rfl ?_
          refine rn_iload_n (k' := 56) rfl rfl rfl ?_
          refine rn_iconst (k' := 57) rfl rfl ?_
          refine rn_icmp_ge (k' := 58) rfl rfl (fun hc5 => ?_) (fun hc5 => ?_)
          · exfalso; omega
          · skip
            refine rn_aload_n (k' := 59) rfl rfl rfl ?_
            refine rn_getR (k' := 60) rfl rfl K0_118 (by decide) rfl R0_118_8 ?_
            refine rn_iload_n (k' := 61) rfl rfl rfl ?_
            refine rn_iload_n (k' := 62) rfl rfl rfl ?_
            refine rn_iadd (k' := 63) rfl rfl (by omega) ?_
            refine rn_iconst (k' := 64) rfl rfl ?_
            refine rn_iastore (k' := 65) rfl rfl K0_122 (by omega) (by omega) ?_
            refine rn_iinc (k' := 66) (L' := [some (mR 118), some (mI (3)), some (mI (1 + (4 * (μ 118 41)))), some (mI (0 + 1 + 1 + 1)), none]) rfl rfl rfl (by omega) rfl ?_
            refine rn_goto rfl ?_
            refine rn_iload_n (k' := 56) rfl rfl rfl ?_
            refine rn_iconst (k' := 57) rfl rfl ?_
            refine rn_icmp_ge (k' := 58) rfl rfl (fun hc6 => ?_) (fun hc6 => ?_)
            · exfalso; omega
            · skip
              refine rn_aload_n (k' := 59) rfl rfl rfl ?_
              refine rn_getR (k' := 60) rfl rfl K0_118 (by decide) rfl R0_118_8 ?_
              refine rn_iload_n (k' := 61) rfl rfl rfl ?_
              refine rn_iload_n (k' := 62) rfl rfl rfl ?_
              refine rn_iadd (k' := 63) rfl rfl (by omega) ?_
              refine rn_iconst (k' := 64) rfl rfl ?_
              refine rn_iastore (k' := 65) rfl rfl K0_122 (by omega) (by omega) ?_
              refine rn_iinc (k' := 66) (L' := [some (mR 118), some (mI (3)), some (mI (1 + (4 * (μ 118 41)))), some (mI (0 + 1 + 1 + 1 + 1)), none]) rfl rfl rfl (by omega) rfl ?_
              refine rn_goto rfl ?_
              refine rn_iload_n (k' := 56) rfl rfl rfl ?_
              refine rn_iconst (k' := 57) rfl rfl ?_
              refine rn_icmp_ge (k' := 58) rfl rfl (fun hc7 => ?_) (fun hc7 => ?_)
              · skip
                refine rn_aload_n (k' := 68) rfl rfl rfl ?_
                refine rn_getR (k' := 69) rfl rfl K0_118 (by decide) rfl R0_118_8 ?_
                refine rn_iload_n (k' := 70) rfl rfl rfl ?_
                refine rn_iload_n (k' := 71) rfl rfl rfl ?_
                refine rn_iastore (k' := 72) rfl rfl K0_122 (by omega) (by omega) ?_
                refine rn_aload_n (k' := 73) rfl rfl rfl ?_
                obtain ⟨Ha, ⟨hma, hfa_⟩, hca⟩ := g_next2 (μ := (m_set (m_set (m_set (m_set (m_set μ 122 (((1 + (4 * (μ 118 41))) + 0).toNat) (0)) 122 (((1 + (4 * (μ 118 41))) + (0 + 1)).toNat) (0)) 122 (((1 + (4 * (μ 118 41))) + (0 + 1 + 1)).toNat) (0)) 122 (((1 + (4 * (μ 118 41))) + (0 + 1 + 1 + 1)).toNat) (0)) 122 ((1 + (4 * (μ 118 41))).toNat) (3))) (c := c) (s := s) (b := b) (n := n) (m := m) (p := p) hM (by omega)
                have hfa : FRt Ha _ := hfa_.t
                have hM0 : MSt (m_upd (m_set (m_set (m_set (m_set (m_set μ 122 (((1 + (4 * (μ 118 41))) + 0).toNat) (0)) 122 (((1 + (4 * (μ 118 41))) + (0 + 1)).toNat) (0)) 122 (((1 + (4 * (μ 118 41))) + (0 + 1 + 1)).toNat) (0)) 122 (((1 + (4 * (μ 118 41))) + (0 + 1 + 1 + 1)).toNat) (0)) 122 ((1 + (4 * (μ 118 41))).toNat) (3)) 118 Ha) b n m (tkN b n m p) := ⟨hM.1, hM.2.1, hM.2.2.1, (tkN_b hM.2.2.2.1).2.1, hma⟩
                obtain ⟨_, _, u12, u11, _, u17, _, _⟩ := hma
                refine rn_callP (k' := 74) (y := 175) (vs := [mR 118]) (S' := []) (v := none) (h' := mkh (m_upd (m_set (m_set (m_set (m_set (m_set μ 122 (((1 + (4 * (μ 118 41))) + 0).toNat) (0)) 122 (((1 + (4 * (μ 118 41))) + (0 + 1)).toNat) (0)) 122 (((1 + (4 * (μ 118 41))) + (0 + 1 + 1)).toNat) (0)) 122 (((1 + (4 * (μ 118 41))) + (0 + 1 + 1 + 1)).toNat) (0)) 122 ((1 + (4 * (μ 118 41))).toNat) (3)) 118 Ha) c s) rfl rfl rfl (hca) ?_
                show Rn PT none kX12_planLine 74 [some (mR 118), some (mI (3)), some (mI (1 + (4 * (μ 118 41)))), some (mI (0 + 1 + 1 + 1 + 1)), none] [] (mkh (m_upd (m_set (m_set (m_set (m_set (m_set μ 122 (((1 + (4 * (μ 118 41))) + 0).toNat) (0)) 122 (((1 + (4 * (μ 118 41))) + (0 + 1)).toNat) (0)) 122 (((1 + (4 * (μ 118 41))) + (0 + 1 + 1)).toNat) (0)) 122 (((1 + (4 * (μ 118 41))) + (0 + 1 + 1 + 1)).toNat) (0)) 122 ((1 + (4 * (μ 118 41))).toNat) (3)) 118 Ha) c s) _
                refine rn_iload_n (k' := 75) rfl rfl rfl ?_
                refine rn_iconst (k' := 76) rfl rfl ?_
                refine rn_icmp_ne (k' := 77) rfl rfl (fun hc8 => ?_) (fun hc8 => ?_)
                · exfalso; omega
                · skip
                  refine rn_iconst (k' := 78) rfl rfl ?_
                  refine rn_iret rfl (Or.inr (by omega)) ?_
                  refine ⟨_, rfl, hM0, (FrmQ.u (FrmQ.s2 (FrmQ.s2 (FrmQ.s2 (FrmQ.s2 (FrmQ.s2 FrmQ.r))))) hfa), ((hfa 15 (by decide) (by decide) (by decide) (by decide) (by decide) (by decide) (by decide)).trans rfl), (set_hit (by omega)), (fun j hj => ((set_mis (by omega)).trans ((set_mis (by omega)).trans ((set_mis (by omega)).trans ((set_mis (by omega)).trans ((set_mis (by omega)).trans rfl))))))⟩
              · exfalso; omega
    · exfalso; omega
  · exfalso; omega
set_option maxHeartbeats 1000000 in
theorem m_pl15_x0 {μ : Nat → Nat → Int} {c s : Nat} {b : Nat → Int} {n m p : Nat} (hM : MSt μ b n m p) (hk : tkK b n m p = 1) {l9 : Nat} (hl : μ 118 41 = (l9 : Int)) (hl9 : l9 ≤ 30) (hl3 : ¬ l9 = 30) (e0 : ¬ eN b n m (tkN b n m p) 1 20 = 0) : Rn PT none kX12_planLine 32 [some (mR 118), some (mI (4)), none, none, none] [] (mkh μ c s) (fun r => ∃ ν', r = (some (some (mI 0)), mkh ν' c s) ∧ ν' 118 15 = eN b n m (tkN b n m p) 1 20 ∧ ν' 118 16 = ((tkP b n m (tkN b n m p) : Nat) : Int) ∧ FrmQ μ ν') := by
  refine rn_iload_n (k' := 33) rfl rfl rfl ?_
  refine rn_if_ge (k' := 34) rfl rfl (fun hc1 => ?_) (fun hc1 => ?_)
  · skip
    refine rn_aload_n (k' := 39) rfl rfl rfl ?_
    refine rn_getI (k' := 40) rfl rfl K0_118 (by decide) rfl ?_
    refine rn_bipush (k' := 41) rfl rfl ?_
    refine rn_icmp_ne (k' := 42) rfl rfl (fun hc2 => ?_) (fun hc2 => ?_)
    · skip
      refine rn_iconst (k' := 47) rfl rfl ?_
      refine rn_iconst (k' := 48) rfl rfl ?_
      refine rn_aload_n (k' := 49) rfl rfl rfl ?_
      refine rn_getI (k' := 50) rfl rfl K0_118 (by decide) rfl ?_
      refine rn_imul (k' := 51) rfl rfl (by omega) ?_
      refine rn_iadd (k' := 52) rfl rfl (by omega) ?_
      refine rn_istore_n (k' := 53) (L' := [some (mR 118), some (mI (4)), some (mI (1 + (4 * (μ 118 41)))), none, none]) rfl rfl (Nat.le_of_ble_eq_true rfl) rfl ?_
      refine rn_iconst (k' := 54) rfl rfl ?_
      refine rn_istore_n (k' := 55) (L' := [some (mR 118), some (mI (4)), some (mI (1 + (4 * (μ 118 41)))), some (mI (0)), none]) rfl rfl (Nat.le_of_ble_eq_true rfl) rfl ?_
      refine rn_iload_n (k' := 56) rfl rfl rfl ?_
      refine rn_iconst (k' := 57) rfl rfl ?_
      refine rn_icmp_ge (k' := 58) rfl rfl (fun hc3 => ?_) (fun hc3 => ?_)
      · exfalso; omega
      · skip
        refine rn_aload_n (k' := 59) rfl rfl rfl ?_
        refine rn_getR (k' := 60) rfl rfl K0_118 (by decide) rfl R0_118_8 ?_
        refine rn_iload_n (k' := 61) rfl rfl rfl ?_
        refine rn_iload_n (k' := 62) rfl rfl rfl ?_
        refine rn_iadd (k' := 63) rfl rfl (by omega) ?_
        refine rn_iconst (k' := 64) rfl rfl ?_
        refine rn_iastore (k' := 65) rfl rfl K0_122 (by omega) (by omega) ?_
        refine rn_iinc (k' := 66) (L' := [some (mR 118), some (mI (4)), some (mI (1 + (4 * (μ 118 41)))), some (mI (0 + 1)), none]) rfl rfl rfl (by omega) rfl ?_
        refine rn_goto rfl ?_
        refine rn_iload_n (k' := 56) rfl rfl rfl ?_
        refine rn_iconst (k' := 57) rfl rfl ?_
        refine rn_icmp_ge (k' := 58) rfl rfl (fun hc4 => ?_) (fun hc4 => ?_)
        · exfalso; omega
        · skip
          refine rn_aload_n (k' := 59) rfl rfl rfl ?_
          refine rn_getR (k' := 60) rfl rfl K0_118 (by decide) rfl R0_118_8 ?_
          refine rn_iload_n (k' := 61) rfl rfl rfl ?_
          refine rn_iload_n (k' := 62) rfl rfl rfl ?_
          refine rn_iadd (k' := 63) rfl rfl (by omega) ?_
          refine rn_iconst (k' := 64) rfl rfl ?_
          refine rn_iastore (k' := 65) rfl rfl K0_122 (by omega) (by omega) ?_
          refine rn_iinc (k' := 66) (L' := [some (mR 118), some (mI (4)), some (mI (1 + (4 * (μ 118 41)))), some (mI (0 + 1 + 1)), none]) rfl rfl rfl (by omega) rfl ?_
          refine rn_goto rfl ?_
          refine rn_iload_n (k' := 56) rfl rfl rfl ?_
          refine rn_iconst (k' := 57) rfl rfl ?_
          refine rn_icmp_ge (k' := 58) rfl rfl (fun hc5 => ?_) (fun hc5 => ?_)
          · exfalso; omega
          · skip
            refine rn_aload_n (k' := 59) rfl rfl rfl ?_
            refine rn_getR (k' := 60) rfl rfl K0_118 (by decide) rfl R0_118_8 ?_
            refine rn_iload_n (k' := 61) rfl rfl rfl ?_
            refine rn_iload_n (k' := 62) rfl rfl rfl ?_
            refine rn_iadd (k' := 63) rfl rfl (by omega) ?_
            refine rn_iconst (k' := 64) rfl rfl ?_
            refine rn_iastore (k' := 65) rfl rfl K0_122 (by omega) (by omega) ?_
            refine rn_iinc (k' := 66) (L' := [some (mR 118), some (mI (4)), some (mI (1 + (4 * (μ 118 41)))), some (mI (0 + 1 + 1 + 1)), none]) rfl rfl rfl (by omega) rfl ?_
            refine rn_goto rfl ?_
            refine rn_iload_n (k' := 56) rfl rfl rfl ?_
            refine rn_iconst (k' := 57) rfl rfl ?_
            refine rn_icmp_ge (k' := 58) rfl rfl (fun hc6 => ?_) (fun hc6 => ?_)
            · exfalso; omega
            · skip
              refine rn_aload_n (k' := 59) rfl rfl rfl ?_
              refine rn_getR (k' := 60) rfl rfl K0_118 (by decide) rfl R0_118_8 ?_
              refine rn_iload_n (k' := 61) rfl rfl rfl ?_
              refine rn_iload_n (k' := 62) rfl rfl rfl ?_
              refine rn_iadd (k' := 63) rfl rfl (by omega) ?_
              refine rn_iconst (k' := 64) rfl rfl ?_
              refine rn_iastore (k' := 65) rfl rfl K0_122 (by omega) (by omega) ?_
              refine rn_iinc (k' := 66) (L' := [some (mR 118), some (mI (4)), some (mI (1 + (4 * (μ 118 41)))), some (mI (0 + 1 + 1 + 1 + 1)), none]) rfl rfl rfl (by omega) rfl ?_
              refine rn_goto rfl ?_
              refine rn_iload_n (k' := 56) rfl rfl rfl ?_
              refine rn_iconst (k' := 57) rfl rfl ?_
              refine rn_icmp_ge (k' := 58) rfl rfl (fun hc7 => ?_) (fun hc7 => ?_)
              · skip
                refine rn_aload_n (k' := 68) rfl rfl rfl ?_
                refine rn_getR (k' := 69) rfl rfl K0_118 (by decide) rfl R0_118_8 ?_
                refine rn_iload_n (k' := 70) rfl rfl rfl ?_
                refine rn_iload_n (k' := 71) rfl rfl rfl ?_
                refine rn_iastore (k' := 72) rfl rfl K0_122 (by omega) (by omega) ?_
                refine rn_aload_n (k' := 73) rfl rfl rfl ?_
                obtain ⟨Ha, ⟨hma, hfa_⟩, hca⟩ := g_next2 (μ := (m_set (m_set (m_set (m_set (m_set μ 122 (((1 + (4 * (μ 118 41))) + 0).toNat) (0)) 122 (((1 + (4 * (μ 118 41))) + (0 + 1)).toNat) (0)) 122 (((1 + (4 * (μ 118 41))) + (0 + 1 + 1)).toNat) (0)) 122 (((1 + (4 * (μ 118 41))) + (0 + 1 + 1 + 1)).toNat) (0)) 122 ((1 + (4 * (μ 118 41))).toNat) (4))) (c := c) (s := s) (b := b) (n := n) (m := m) (p := p) hM (by omega)
                have hfa : FRt Ha _ := hfa_.t
                have hM0 : MSt (m_upd (m_set (m_set (m_set (m_set (m_set μ 122 (((1 + (4 * (μ 118 41))) + 0).toNat) (0)) 122 (((1 + (4 * (μ 118 41))) + (0 + 1)).toNat) (0)) 122 (((1 + (4 * (μ 118 41))) + (0 + 1 + 1)).toNat) (0)) 122 (((1 + (4 * (μ 118 41))) + (0 + 1 + 1 + 1)).toNat) (0)) 122 ((1 + (4 * (μ 118 41))).toNat) (4)) 118 Ha) b n m (tkN b n m p) := ⟨hM.1, hM.2.1, hM.2.2.1, (tkN_b hM.2.2.2.1).2.1, hma⟩
                obtain ⟨_, _, u12, u11, _, u17, _, _⟩ := hma
                refine rn_callP (k' := 74) (y := 175) (vs := [mR 118]) (S' := []) (v := none) (h' := mkh (m_upd (m_set (m_set (m_set (m_set (m_set μ 122 (((1 + (4 * (μ 118 41))) + 0).toNat) (0)) 122 (((1 + (4 * (μ 118 41))) + (0 + 1)).toNat) (0)) 122 (((1 + (4 * (μ 118 41))) + (0 + 1 + 1)).toNat) (0)) 122 (((1 + (4 * (μ 118 41))) + (0 + 1 + 1 + 1)).toNat) (0)) 122 ((1 + (4 * (μ 118 41))).toNat) (4)) 118 Ha) c s) rfl rfl rfl (hca) ?_
                show Rn PT none kX12_planLine 74 [some (mR 118), some (mI (4)), some (mI (1 + (4 * (μ 118 41)))), some (mI (0 + 1 + 1 + 1 + 1)), none] [] (mkh (m_upd (m_set (m_set (m_set (m_set (m_set μ 122 (((1 + (4 * (μ 118 41))) + 0).toNat) (0)) 122 (((1 + (4 * (μ 118 41))) + (0 + 1)).toNat) (0)) 122 (((1 + (4 * (μ 118 41))) + (0 + 1 + 1)).toNat) (0)) 122 (((1 + (4 * (μ 118 41))) + (0 + 1 + 1 + 1)).toNat) (0)) 122 ((1 + (4 * (μ 118 41))).toNat) (4)) 118 Ha) c s) _
                refine rn_iload_n (k' := 75) rfl rfl rfl ?_
                refine rn_iconst (k' := 76) rfl rfl ?_
                refine rn_icmp_ne (k' := 77) rfl rfl (fun hc8 => ?_) (fun hc8 => ?_)
                · skip
                  refine rn_iload_n (k' := 80) rfl rfl rfl ?_
                  refine rn_iconst (k' := 81) rfl rfl ?_
                  refine rn_icmp_ne (k' := 82) rfl rfl (fun hc9 => ?_) (fun hc9 => ?_)
                  · exfalso; omega
                  · skip
                    refine rn_aload_n (k' := 83) rfl rfl rfl ?_
                    refine rn_iconst (k' := 84) rfl rfl ?_
                    refine rn_bipush (k' := 85) rfl rfl ?_
                    have hc0 := g_takesX (μ := (m_upd (m_set (m_set (m_set (m_set (m_set μ 122 (((1 + (4 * (μ 118 41))) + 0).toNat) (0)) 122 (((1 + (4 * (μ 118 41))) + (0 + 1)).toNat) (0)) 122 (((1 + (4 * (μ 118 41))) + (0 + 1 + 1)).toNat) (0)) 122 (((1 + (4 * (μ 118 41))) + (0 + 1 + 1 + 1)).toNat) (0)) 122 ((1 + (4 * (μ 118 41))).toNat) (4)) 118 Ha)) (c := c) (s := s) (b := b) (n := n) (m := m) (p := (tkN b n m p)) (lo := 1) (hi := 20) hM0 e0
                    refine rn_callP (k' := 86) (y := 181) (vs := [mR 118, mI (1), mI (20)]) (S' := []) (v := some (mI (0))) (h' := mkh (m_set (m_set (m_upd (m_set (m_set (m_set (m_set (m_set μ 122 (((1 + (4 * (μ 118 41))) + 0).toNat) (0)) 122 (((1 + (4 * (μ 118 41))) + (0 + 1)).toNat) (0)) 122 (((1 + (4 * (μ 118 41))) + (0 + 1 + 1)).toNat) (0)) 122 (((1 + (4 * (μ 118 41))) + (0 + 1 + 1 + 1)).toNat) (0)) 122 ((1 + (4 * (μ 118 41))).toNat) (4)) 118 Ha) 118 15 (eN b n m (tkN b n m p) (1) (20))) 118 16 (((tkP b n m (tkN b n m p) : Nat) : Int))) c s) rfl rfl rfl (hc0) ?_
                    show Rn PT none kX12_planLine 86 [some (mR 118), some (mI (4)), some (mI (1 + (4 * (μ 118 41)))), some (mI (0 + 1 + 1 + 1 + 1)), none] [mI (0)] (mkh (m_set (m_set (m_upd (m_set (m_set (m_set (m_set (m_set μ 122 (((1 + (4 * (μ 118 41))) + 0).toNat) (0)) 122 (((1 + (4 * (μ 118 41))) + (0 + 1)).toNat) (0)) 122 (((1 + (4 * (μ 118 41))) + (0 + 1 + 1)).toNat) (0)) 122 (((1 + (4 * (μ 118 41))) + (0 + 1 + 1 + 1)).toNat) (0)) 122 ((1 + (4 * (μ 118 41))).toNat) (4)) 118 Ha) 118 15 (eN b n m (tkN b n m p) (1) (20))) 118 16 (((tkP b n m (tkN b n m p) : Nat) : Int))) c s) _
                    refine rn_if_ne (k' := 87) rfl rfl (fun hc10 => ?_) (fun hc10 => ?_)
                    · exfalso; omega
                    · skip
                      refine rn_iconst (k' := 88) rfl rfl ?_
                      refine rn_iret rfl (Or.inr (by omega)) ?_
                      exact ⟨_, rfl, rfl, rfl, (FrmQ.s (FrmQ.s (FrmQ.u (FrmQ.s2 (FrmQ.s2 (FrmQ.s2 (FrmQ.s2 (FrmQ.s2 FrmQ.r))))) hfa) (by decide)) (by decide))⟩
                · exfalso; omega
              · exfalso; omega
    · exfalso; omega
  · exfalso; omega
set_option maxHeartbeats 1000000 in
theorem m_pl15_full {μ : Nat → Nat → Int} {c s : Nat} {b : Nat → Int} {n m p : Nat} (hM : MSt μ b n m p) (hk : tkK b n m p = 1) {l9 : Nat} (hl : μ 118 41 = (l9 : Int)) (hl9 : l9 ≤ 30) (hl3 : l9 = 30) : Rn PT none kX12_planLine 32 [some (mR 118), some (mI (4)), none, none, none] [] (mkh μ c s) (fun r => ∃ ν', r = (some (some (mI 0)), mkh ν' c s) ∧ ν' 118 15 = 4 ∧ ν' 118 16 = ((tkP b n m p : Nat) : Int) ∧ FrmQ μ ν') := by
  refine rn_iload_n (k' := 33) rfl rfl rfl ?_
  refine rn_if_ge (k' := 34) rfl rfl (fun hc1 => ?_) (fun hc1 => ?_)
  · skip
    refine rn_aload_n (k' := 39) rfl rfl rfl ?_
    refine rn_getI (k' := 40) rfl rfl K0_118 (by decide) rfl ?_
    refine rn_bipush (k' := 41) rfl rfl ?_
    refine rn_icmp_ne (k' := 42) rfl rfl (fun hc2 => ?_) (fun hc2 => ?_)
    · exfalso; omega
    · skip
      refine rn_aload_n (k' := 43) rfl rfl rfl ?_
      refine rn_iconst (k' := 44) rfl rfl ?_
      refine rn_callP (k' := 45) (y := 176) (vs := [mR 118, mI (4)]) (S' := []) (v := some (mI (0))) (h' := mkh (m_set (m_set μ 118 15 (4)) 118 16 (μ 118 12)) c s) rfl rfl rfl (g_bad (μ := μ) (e := 4)) ?_
      show Rn PT none kX12_planLine 45 [some (mR 118), some (mI (4)), none, none, none] [mI (0)] (mkh (m_set (m_set μ 118 15 (4)) 118 16 (μ 118 12)) c s) _
      refine rn_iret rfl (Or.inr (by omega)) ?_
      exact ⟨_, rfl, rfl, hM.2.2.2.2.2.2.1, (FrmQ.s (FrmQ.s FrmQ.r (by decide)) (by decide))⟩
  · exfalso; omega
set_option maxHeartbeats 1000000 in
theorem m_pl15_ok {μ : Nat → Nat → Int} {c s : Nat} {b : Nat → Int} {n m p : Nat} (hM : MSt μ b n m p) (hk : tkK b n m p = 1) {l9 : Nat} (hl : μ 118 41 = (l9 : Int)) (hl9 : l9 ≤ 30) (hl3 : ¬ l9 = 30) (e0 : eN b n m (tkN b n m p) 1 20 = 0) : Rn PT none kX12_planLine 32 [some (mR 118), some (mI (4)), none, none, none] [] (mkh μ c s) (fun r => ∃ ν', r = (some (some (mI 1)), mkh ν' c s) ∧ MSt ν' b n m (tkN b n m (tkN b n m p)) ∧ FrmQ μ ν' ∧ ν' 118 15 = μ 118 15 ∧ ν' 122 (1 + 4 * l9) = 4 ∧ ν' 122 (3 + 4 * l9) = tkV b n m (tkN b n m p) ∧ (∀ j, j < 1 + 4 * l9 → ν' 122 j = μ 122 j)) := by
  refine rn_iload_n (k' := 33) rfl rfl rfl ?_
  refine rn_if_ge (k' := 34) rfl rfl (fun hc1 => ?_) (fun hc1 => ?_)
  · skip
    refine rn_aload_n (k' := 39) rfl rfl rfl ?_
    refine rn_getI (k' := 40) rfl rfl K0_118 (by decide) rfl ?_
    refine rn_bipush (k' := 41) rfl rfl ?_
    refine rn_icmp_ne (k' := 42) rfl rfl (fun hc2 => ?_) (fun hc2 => ?_)
    · skip
      refine rn_iconst (k' := 47) rfl rfl ?_
      refine rn_iconst (k' := 48) rfl rfl ?_
      refine rn_aload_n (k' := 49) rfl rfl rfl ?_
      refine rn_getI (k' := 50) rfl rfl K0_118 (by decide) rfl ?_
      refine rn_imul (k' := 51) rfl rfl (by omega) ?_
      refine rn_iadd (k' := 52) rfl rfl (by omega) ?_
      refine rn_istore_n (k' := 53) (L' := [some (mR 118), some (mI (4)), some (mI (1 + (4 * (μ 118 41)))), none, none]) rfl rfl (Nat.le_of_ble_eq_true rfl) rfl ?_
      refine rn_iconst (k' := 54) rfl rfl ?_
      refine rn_istore_n (k' := 55) (L' := [some (mR 118), some (mI (4)), some (mI (1 + (4 * (μ 118 41)))), some (mI (0)), none]) rfl rfl (Nat.le_of_ble_eq_true rfl) rfl ?_
      refine rn_iload_n (k' := 56) rfl rfl rfl ?_
      refine rn_iconst (k' := 57) rfl rfl ?_
      refine rn_icmp_ge (k' := 58) rfl rfl (fun hc3 => ?_) (fun hc3 => ?_)
      · exfalso; omega
      · skip
        refine rn_aload_n (k' := 59) rfl rfl rfl ?_
        refine rn_getR (k' := 60) rfl rfl K0_118 (by decide) rfl R0_118_8 ?_
        refine rn_iload_n (k' := 61) rfl rfl rfl ?_
        refine rn_iload_n (k' := 62) rfl rfl rfl ?_
        refine rn_iadd (k' := 63) rfl rfl (by omega) ?_
        refine rn_iconst (k' := 64) rfl rfl ?_
        refine rn_iastore (k' := 65) rfl rfl K0_122 (by omega) (by omega) ?_
        refine rn_iinc (k' := 66) (L' := [some (mR 118), some (mI (4)), some (mI (1 + (4 * (μ 118 41)))), some (mI (0 + 1)), none]) rfl rfl rfl (by omega) rfl ?_
        refine rn_goto rfl ?_
        refine rn_iload_n (k' := 56) rfl rfl rfl ?_
        refine rn_iconst (k' := 57) rfl rfl ?_
        refine rn_icmp_ge (k' := 58) rfl rfl (fun hc4 => ?_) (fun hc4 => ?_)
        · exfalso; omega
        · skip
          refine rn_aload_n (k' := 59) rfl rfl rfl ?_
          refine rn_getR (k' := 60) rfl rfl K0_118 (by decide) rfl R0_118_8 ?_
          refine rn_iload_n (k' := 61) rfl rfl rfl ?_
          refine rn_iload_n (k' := 62) rfl rfl rfl ?_
          refine rn_iadd (k' := 63) rfl rfl (by omega) ?_
          refine rn_iconst (k' := 64) rfl rfl ?_
          refine rn_iastore (k' := 65) rfl rfl K0_122 (by omega) (by omega) ?_
          refine rn_iinc (k' := 66) (L' := [some (mR 118), some (mI (4)), some (mI (1 + (4 * (μ 118 41)))), some (mI (0 + 1 + 1)), none]) rfl rfl rfl (by omega) rfl ?_
          refine rn_goto rfl ?_
          refine rn_iload_n (k' := 56) rfl rfl rfl ?_
          refine rn_iconst (k' := 57) rfl rfl ?_
          refine rn_icmp_ge (k' := 58) rfl rfl (fun hc5 => ?_) (fun hc5 => ?_)
          · exfalso; omega
          · skip
            refine rn_aload_n (k' := 59) rfl rfl rfl ?_
            refine rn_getR (k' := 60) rfl rfl K0_118 (by decide) rfl R0_118_8 ?_
            refine rn_iload_n (k' := 61) rfl rfl rfl ?_
            refine rn_iload_n (k' := 62) rfl rfl rfl ?_
            refine rn_iadd (k' := 63) rfl rfl (by omega) ?_
            refine rn_iconst (k' := 64) rfl rfl ?_
            refine rn_iastore (k' := 65) rfl rfl K0_122 (by omega) (by omega) ?_
            refine rn_iinc (k' := 66) (L' := [some (mR 118), some (mI (4)), some (mI (1 + (4 * (μ 118 41)))), some (mI (0 + 1 + 1 + 1)), none]) rfl rfl rfl (by omega) rfl ?_
            refine rn_goto rfl ?_
            refine rn_iload_n (k' := 56) rfl rfl rfl ?_
            refine rn_iconst (k' := 57) rfl rfl ?_
            refine rn_icmp_ge (k' := 58) rfl rfl (fun hc6 => ?_) (fun hc6 => ?_)
            · exfalso; omega
            · skip
              refine rn_aload_n (k' := 59) rfl rfl rfl ?_
              refine rn_getR (k' := 60) rfl rfl K0_118 (by decide) rfl R0_118_8 ?_
              refine rn_iload_n (k' := 61) rfl rfl rfl ?_
              refine rn_iload_n (k' := 62) rfl rfl rfl ?_
              refine rn_iadd (k' := 63) rfl rfl (by omega) ?_
              refine rn_iconst (k' := 64) rfl rfl ?_
              refine rn_iastore (k' := 65) rfl rfl K0_122 (by omega) (by omega) ?_
              refine rn_iinc (k' := 66) (L' := [some (mR 118), some (mI (4)), some (mI (1 + (4 * (μ 118 41)))), some (mI (0 + 1 + 1 + 1 + 1)), none]) rfl rfl rfl (by omega) rfl ?_
              refine rn_goto rfl ?_
              refine rn_iload_n (k' := 56) rfl rfl rfl ?_
              refine rn_iconst (k' := 57) rfl rfl ?_
              refine rn_icmp_ge (k' := 58) rfl rfl (fun hc7 => ?_) (fun hc7 => ?_)
              · skip
                refine rn_aload_n (k' := 68) rfl rfl rfl ?_
                refine rn_getR (k' := 69) rfl rfl K0_118 (by decide) rfl R0_118_8 ?_
                refine rn_iload_n (k' := 70) rfl rfl rfl ?_
                refine rn_iload_n (k' := 71) rfl rfl rfl ?_
                refine rn_iastore (k' := 72) rfl rfl K0_122 (by omega) (by omega) ?_
                refine rn_aload_n (k' := 73) rfl rfl rfl ?_
                obtain ⟨Ha, ⟨hma, hfa_⟩, hca⟩ := g_next2 (μ := (m_set (m_set (m_set (m_set (m_set μ 122 (((1 + (4 * (μ 118 41))) + 0).toNat) (0)) 122 (((1 + (4 * (μ 118 41))) + (0 + 1)).toNat) (0)) 122 (((1 + (4 * (μ 118 41))) + (0 + 1 + 1)).toNat) (0)) 122 (((1 + (4 * (μ 118 41))) + (0 + 1 + 1 + 1)).toNat) (0)) 122 ((1 + (4 * (μ 118 41))).toNat) (4))) (c := c) (s := s) (b := b) (n := n) (m := m) (p := p) hM (by omega)
                have hfa : FRt Ha _ := hfa_.t
                have hM0 : MSt (m_upd (m_set (m_set (m_set (m_set (m_set μ 122 (((1 + (4 * (μ 118 41))) + 0).toNat) (0)) 122 (((1 + (4 * (μ 118 41))) + (0 + 1)).toNat) (0)) 122 (((1 + (4 * (μ 118 41))) + (0 + 1 + 1)).toNat) (0)) 122 (((1 + (4 * (μ 118 41))) + (0 + 1 + 1 + 1)).toNat) (0)) 122 ((1 + (4 * (μ 118 41))).toNat) (4)) 118 Ha) b n m (tkN b n m p) := ⟨hM.1, hM.2.1, hM.2.2.1, (tkN_b hM.2.2.2.1).2.1, hma⟩
                obtain ⟨_, _, u12, u11, _, u17, _, _⟩ := hma
                refine rn_callP (k' := 74) (y := 175) (vs := [mR 118]) (S' := []) (v := none) (h' := mkh (m_upd (m_set (m_set (m_set (m_set (m_set μ 122 (((1 + (4 * (μ 118 41))) + 0).toNat) (0)) 122 (((1 + (4 * (μ 118 41))) + (0 + 1)).toNat) (0)) 122 (((1 + (4 * (μ 118 41))) + (0 + 1 + 1)).toNat) (0)) 122 (((1 + (4 * (μ 118 41))) + (0 + 1 + 1 + 1)).toNat) (0)) 122 ((1 + (4 * (μ 118 41))).toNat) (4)) 118 Ha) c s) rfl rfl rfl (hca) ?_
                show Rn PT none kX12_planLine 74 [some (mR 118), some (mI (4)), some (mI (1 + (4 * (μ 118 41)))), some (mI (0 + 1 + 1 + 1 + 1)), none] [] (mkh (m_upd (m_set (m_set (m_set (m_set (m_set μ 122 (((1 + (4 * (μ 118 41))) + 0).toNat) (0)) 122 (((1 + (4 * (μ 118 41))) + (0 + 1)).toNat) (0)) 122 (((1 + (4 * (μ 118 41))) + (0 + 1 + 1)).toNat) (0)) 122 (((1 + (4 * (μ 118 41))) + (0 + 1 + 1 + 1)).toNat) (0)) 122 ((1 + (4 * (μ 118 41))).toNat) (4)) 118 Ha) c s) _
                refine rn_iload_n (k' := 75) rfl rfl rfl ?_
                refine rn_iconst (k' := 76) rfl rfl ?_
                refine rn_icmp_ne (k' := 77) rfl rfl (fun hc8 => ?_) (fun hc8 => ?_)
                · skip
                  refine rn_iload_n (k' := 80) rfl rfl rfl ?_
                  refine rn_iconst (k' := 81) rfl rfl ?_
                  refine rn_icmp_ne (k' := 82) rfl rfl (fun hc9 => ?_) (fun hc9 => ?_)
                  · exfalso; omega
                  · skip
                    refine rn_aload_n (k' := 83) rfl rfl rfl ?_
                    refine rn_iconst (k' := 84) rfl rfl ?_
                    refine rn_bipush (k' := 85) rfl rfl ?_
                    obtain ⟨H0, ⟨hm0, hv0, hf0⟩, hc0⟩ := g_takes (μ := (m_upd (m_set (m_set (m_set (m_set (m_set μ 122 (((1 + (4 * (μ 118 41))) + 0).toNat) (0)) 122 (((1 + (4 * (μ 118 41))) + (0 + 1)).toNat) (0)) 122 (((1 + (4 * (μ 118 41))) + (0 + 1 + 1)).toNat) (0)) 122 (((1 + (4 * (μ 118 41))) + (0 + 1 + 1 + 1)).toNat) (0)) 122 ((1 + (4 * (μ 118 41))).toNat) (4)) 118 Ha)) (c := c) (s := s) (b := b) (n := n) (m := m) (p := (tkN b n m p)) (lo := 1) (hi := 20) hM0 e0
                    have hM1 : MSt (m_upd (m_upd (m_set (m_set (m_set (m_set (m_set μ 122 (((1 + (4 * (μ 118 41))) + 0).toNat) (0)) 122 (((1 + (4 * (μ 118 41))) + (0 + 1)).toNat) (0)) 122 (((1 + (4 * (μ 118 41))) + (0 + 1 + 1)).toNat) (0)) 122 (((1 + (4 * (μ 118 41))) + (0 + 1 + 1 + 1)).toNat) (0)) 122 ((1 + (4 * (μ 118 41))).toNat) (4)) 118 Ha) 118 H0) b n m (tkN b n m (tkN b n m p)) := ⟨hM0.1, hM0.2.1, hM0.2.2.1, (tkN_b hM0.2.2.2.1).2.1, hm0⟩
                    have kk0 := eN_ok e0
                    have kx0 := tk_num kk0.1
                    refine rn_callP (k' := 86) (y := 181) (vs := [mR 118, mI (1), mI (20)]) (S' := []) (v := some (mI (1))) (h' := mkh (m_upd (m_upd (m_set (m_set (m_set (m_set (m_set μ 122 (((1 + (4 * (μ 118 41))) + 0).toNat) (0)) 122 (((1 + (4 * (μ 118 41))) + (0 + 1)).toNat) (0)) 122 (((1 + (4 * (μ 118 41))) + (0 + 1 + 1)).toNat) (0)) 122 (((1 + (4 * (μ 118 41))) + (0 + 1 + 1 + 1)).toNat) (0)) 122 ((1 + (4 * (μ 118 41))).toNat) (4)) 118 Ha) 118 H0) c s) rfl rfl rfl (hc0) ?_
                    show Rn PT none kX12_planLine 86 [some (mR 118), some (mI (4)), some (mI (1 + (4 * (μ 118 41)))), some (mI (0 + 1 + 1 + 1 + 1)), none] [mI (1)] (mkh (m_upd (m_upd (m_set (m_set (m_set (m_set (m_set μ 122 (((1 + (4 * (μ 118 41))) + 0).toNat) (0)) 122 (((1 + (4 * (μ 118 41))) + (0 + 1)).toNat) (0)) 122 (((1 + (4 * (μ 118 41))) + (0 + 1 + 1)).toNat) (0)) 122 (((1 + (4 * (μ 118 41))) + (0 + 1 + 1 + 1)).toNat) (0)) 122 ((1 + (4 * (μ 118 41))).toNat) (4)) 118 Ha) 118 H0) c s) _
                    refine rn_if_ne (k' := 87) rfl rfl (fun hc10 => ?_) (fun hc10 => ?_)
                    · skip
                      refine rn_aload_n (k' := 90) rfl rfl rfl ?_
                      refine rn_getR (k' := 91) rfl rfl K0_118 (by decide) rfl R0_118_8 ?_
                      refine rn_iload_n (k' := 92) rfl rfl rfl ?_
                      refine rn_iconst (k' := 93) rfl rfl ?_
                      refine rn_iadd (k' := 94) rfl rfl (by omega) ?_
                      refine rn_aload_n (k' := 95) rfl rfl rfl ?_
                      refine rn_getI (k' := 96) rfl rfl K0_118 (by decide) rfl ?_
                      show Rn PT none kX12_planLine 96 [some (mR 118), some (mI (4)), some (mI (1 + (4 * (μ 118 41)))), some (mI (0 + 1 + 1 + 1 + 1)), none] [mI (H0 18), mI ((1 + (4 * (μ 118 41))) + 2), mR 122] (mkh (m_upd (m_upd (m_set (m_set (m_set (m_set (m_set μ 122 (((1 + (4 * (μ 118 41))) + 0).toNat) (0)) 122 (((1 + (4 * (μ 118 41))) + (0 + 1)).toNat) (0)) 122 (((1 + (4 * (μ 118 41))) + (0 + 1 + 1)).toNat) (0)) 122 (((1 + (4 * (μ 118 41))) + (0 + 1 + 1 + 1)).toNat) (0)) 122 ((1 + (4 * (μ 118 41))).toNat) (4)) 118 Ha) 118 H0) c s) _
                      refine rn_iastore (k' := 97) rfl rfl K0_122 (by omega) (by omega) ?_
                      refine rn_iconst (k' := 98) rfl rfl ?_
                      refine rn_iret rfl (Or.inr (by omega)) ?_
                      refine ⟨_, rfl, hM1, (FrmQ.s2 (FrmQ.u (FrmQ.u (FrmQ.s2 (FrmQ.s2 (FrmQ.s2 (FrmQ.s2 (FrmQ.s2 FrmQ.r))))) hfa) hf0)), ((hf0 15 (by decide) (by decide) (by decide) (by decide) (by decide) (by decide) (by decide)).trans ((hfa 15 (by decide) (by decide) (by decide) (by decide) (by decide) (by decide) (by decide)).trans rfl)), ((set_mis (by omega)).trans (set_hit (by omega))), ((set_hit (by omega)).trans hv0), (fun j hj => ((set_mis (by omega)).trans ((set_mis (by omega)).trans ((set_mis (by omega)).trans ((set_mis (by omega)).trans ((set_mis (by omega)).trans ((set_mis (by omega)).trans rfl)))))))⟩
                    · exfalso; omega
                · exfalso; omega
              · exfalso; omega
    · exfalso; omega
  · exfalso; omega
