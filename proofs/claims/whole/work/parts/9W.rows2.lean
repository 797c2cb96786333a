variable {N : Int}
/-! ===== printed by wip/whole/gen9W.py: row lines by the model ===== -/
theorem MFr.g {μ : Nat → Nat → Int} {G H : Nat → Int} (hf : FRt H (μ 118)) : MFr μ (m_upd (m_upd μ 121 G) 118 H) := ⟨fun r h1 h2 h3 => by
  funext j
  show (if r = 118 then H j else (if r = 121 then G j else μ r j)) = μ r j
  rw [if_neg h1, if_neg h2], fun j hj => hf j (by omega) (by omega) (by omega) (by omega) (by omega) (by omega) (by omega), fun _ _ => rfl⟩
theorem FRt.trans {H1 H0 H : Nat → Int} (h : FRt H1 H0) (h2 : FRt H0 H) : FRt H1 H := fun j a b c d e f g => (h j a b c d e f g).trans (h2 j a b c d e f g)
theorem fs_ne_ {f : Nat → Int} {i j : Nat} {v : Int} (h : ¬ j = i) : fs f i v j = f j := by
  show (if j = i then v else f j) = f j
  rw [if_neg h]
set_option maxHeartbeats 4000000 in
theorem l_rowM {μ : Nat → Nat → Int} {c s : Nat} {b : Nat → Int} {n m le mo y9 c9 : Nat} (hmo : mo ≤ 10) (hy9 : y9 < 10) (hc9 : c9 ≤ 10) (hle : (y9 = 0 → le = 2) ∧ (¬ y9 = 0 → le = c9)) : ∀ (d i9 : Nat) (i : Int) (q : Nat) (H : Nat → Int) (G : Nat → Int), i = (i9 : Int) → i9 + d = mo → (MSt (m_upd (m_upd μ 121 G) 118 H) b n m q) → (FRt H (μ 118)) → (G 0 = (c9 : Int)) → (G 1 = (y9 : Int)) → Rn PT none kX12_readRow 33 [some (mR 118), some (mI (i)), some (mI ((mo : Int)))] [] (mkh (m_upd (m_upd μ 121 G) 118 H) c s) (fun r => ∃ ν', r = (some (some (mI (if (rowO b n m le d i9 q).1 = 0 then 1 else 0))), mkh ν' c s) ∧ MFr μ ν' ∧ (¬ (rowO b n m le d i9 q).1 = 0 → ν' 118 15 = (rowO b n m le d i9 q).1 ∧ ν' 118 16 = ((tkP b n m (rowO b n m le d i9 q).2.1 : Nat) : Int)) ∧ ((rowO b n m le d i9 q).1 = 0 → MSt ν' b n m (rowO b n m le d i9 q).2.1 ∧ tkK b n m (rowO b n m le d i9 q).2.1 = 3 ∧ ν' 118 15 = μ 118 15 ∧ ν' 118 20 = μ 118 20 ∧ ν' 118 21 = μ 118 21 ∧ ν' 121 = fs (fs (rowG b n m (9 + 10 * y9) d i9 q G) 0 (((rowO b n m le d i9 q).2.2 : Nat) : Int)) 1 ((y9 : Int) + 1) ∧ ν' 123 = μ 123)) := by
  intro d
  induction d with
  | zero =>
    intro i9 i q H G ei hn hM hf hG0 hG1
    subst ei
    obtain ⟨_, _, u12, u11, _, _, u14, u59⟩ := hM.2.2.2.2
    have k2i : H 11 = 2 ↔ tkK b n m q = 2 := by
      have e : H 11 = mkk (tkK b n m q) := u11
      rw [e]; exact mkk_2
    have k3i : H 11 = 3 ↔ tkK b n m q = 3 := by
      have e : H 11 = mkk (tkK b n m q) := u11
      rw [e]; exact mkk_3
    have u59b : tkK b n m q = 3 → H 14 = 59 := u59
    have u14b : tkK b n m q = 2 → H 14 = tkV b n m q := u14
    refine rn_aload_n (k' := 34) rfl rfl rfl ?_
    refine rn_bipush (k' := 35) rfl rfl ?_
    by_cases hq1 : H 11 = 3 ∧ H 14 = 59
    · refine rn_callP (k' := 36) (y := 178) (vs := [mR 118, mI (59)]) (S' := []) (v := some (mI 1)) (h' := mkh (m_upd (m_upd μ 121 G) 118 H) c s) rfl rfl rfl (by have hz : Cl PT 178 [mR 118, mI (59)] (mkh (m_upd (m_upd μ 121 G) 118 H) c s) (fun r => r = (some (some (mI (if H 11 = 3 ∧ H 14 = 59 then 1 else 0))), mkh (m_upd (m_upd μ 121 G) 118 H) c s)) := c_X12_isSign (a := 59) (μ := (m_upd (m_upd μ 121 G) 118 H)) (c := c) (s := s); rw [if_pos hq1] at hz; exact hz) ?_
      show Rn PT none kX12_readRow 36 [some (mR 118), some (mI ((i9 : Int))), some (mI ((mo : Int)))] [mI (1)] (mkh (m_upd (m_upd μ 121 G) 118 H) c s) _
      refine rn_if_ne (k' := 37) rfl rfl (fun hc2 => ?_) (fun hc2 => ?_)
      · skip
        refine rn_iload_n (k' := 72) rfl rfl rfl ?_
        refine rn_iconst (k' := 73) rfl rfl ?_
        refine rn_icmp_ge (k' := 74) rfl rfl (fun hc3 => ?_) (fun hc3 => ?_)
        · skip
          refine rn_aload_n (k' := 79) rfl rfl rfl ?_
          refine rn_getR (k' := 80) rfl rfl K0_118 (by decide) rfl R0_118_7 ?_
          refine rn_iconst (k' := 81) rfl rfl ?_
          refine rn_iaload (k' := 82) rfl rfl K0_121 (by omega) (by omega) ?_
          show Rn PT none kX12_readRow 82 [some (mR 118), some (mI ((i9 : Int))), some (mI ((mo : Int)))] [mI (G 1)] (mkh (m_upd (m_upd μ 121 G) 118 H) c s) _
          refine rn_if_ne (k' := 83) rfl rfl (fun hc4 => ?_) (fun hc4 => ?_)
          · skip
            refine rn_iload_n (k' := 88) rfl rfl rfl ?_
            refine rn_aload_n (k' := 89) rfl rfl rfl ?_
            refine rn_getR (k' := 90) rfl rfl K0_118 (by decide) rfl R0_118_7 ?_
            refine rn_iconst (k' := 91) rfl rfl ?_
            refine rn_iaload (k' := 92) rfl rfl K0_121 (by omega) (by omega) ?_
            show Rn PT none kX12_readRow 92 [some (mR 118), some (mI ((i9 : Int))), some (mI ((mo : Int)))] [mI (G 0), mI ((i9 : Int))] (mkh (m_upd (m_upd μ 121 G) 118 H) c s) _
            refine rn_icmp_ge (k' := 93) rfl rfl (fun hc5 => ?_) (fun hc5 => ?_)
            · skip
              refine rn_aload_n (k' := 98) rfl rfl rfl ?_
              refine rn_getR (k' := 99) rfl rfl K0_118 (by decide) rfl R0_118_7 ?_
              refine rn_iconst (k' := 100) rfl rfl ?_
              refine rn_iload_n (k' := 101) rfl rfl rfl ?_
              refine rn_iastore (k' := 102) rfl rfl K0_121 (by omega) (by omega) ?_
              refine rn_aload_n (k' := 103) rfl rfl rfl ?_
              refine rn_getR (k' := 104) rfl rfl K0_118 (by decide) rfl R0_118_7 ?_
              refine rn_iconst (k' := 105) rfl rfl ?_
              refine rn_dup2 (k' := 106) rfl rfl ?_
              refine rn_iaload (k' := 107) rfl rfl K0_121 (by omega) (by omega) ?_
              show Rn PT none kX12_readRow 107 [some (mR 118), some (mI ((i9 : Int))), some (mI ((mo : Int)))] [mI (G 1), mI (1), mR 121] (mkh (m_set (m_upd (m_upd μ 121 G) 118 H) 121 0 ((i9 : Int))) c s) _
              refine rn_iconst (k' := 108) rfl rfl ?_
              refine rn_iadd (k' := 109) rfl rfl (by omega) ?_
              refine rn_iastore (k' := 110) rfl rfl K0_121 (by omega) (by omega) ?_
              refine rn_iconst (k' := 111) rfl rfl ?_
              refine rn_iret rfl (Or.inr (by omega)) ?_
              rw [ro_0 (b := b) (q := q) (by omega) (by omega) (by omega), rg_n (b := b) (q := q) (by omega)]
              refine ⟨_, rfl, (MFr.s2 (MFr.s2 (MFr.g hf) (.inl rfl)) (.inl rfl)), fun z => absurd rfl z, fun _ => ⟨hM, (show tkK b n m q = 3 by omega), hf 15 (by decide) (by decide) (by decide) (by decide) (by decide) (by decide) (by decide), hf 20 (by decide) (by decide) (by decide) (by decide) (by decide) (by decide) (by decide), hf 21 (by decide) (by decide) (by decide) (by decide) (by decide) (by decide) (by decide), ?_, rfl⟩⟩
              funext j
              show (if 121 = 121 ∧ j = 1 then G 1 + 1 else (if 121 = 121 ∧ j = 0 then (i9 : Int) else G j)) = (if j = 1 then (y9 : Int) + 1 else (if j = 0 then (i9 : Int) else G j))
              by_cases c1 : j = 1
              · rw [if_pos ⟨rfl, c1⟩, if_pos c1, hG1]
              · rw [if_neg (fun z => c1 z.2), if_neg c1]
                by_cases c0 : j = 0
                · rw [if_pos ⟨rfl, c0⟩, if_pos c0]
                · rw [if_neg (fun z => c0 z.2), if_neg c0]
            · skip
              refine rn_aload_n (k' := 94) rfl rfl rfl ?_
              refine rn_iconst (k' := 95) rfl rfl ?_
              refine rn_callP (k' := 96) (y := 176) (vs := [mR 118, mI (4)]) (S' := []) (v := some (mI (0))) (h' := mkh (m_set (m_set (m_upd (m_upd μ 121 G) 118 H) 118 15 (4)) 118 16 (H 12)) c s) rfl rfl rfl (g_bad (μ := (m_upd (m_upd μ 121 G) 118 H)) (e := 4)) ?_
              show Rn PT none kX12_readRow 96 [some (mR 118), some (mI ((i9 : Int))), some (mI ((mo : Int)))] [mI (0)] (mkh (m_set (m_set (m_upd (m_upd μ 121 G) 118 H) 118 15 (4)) 118 16 (H 12)) c s) _
              refine rn_iret rfl (Or.inr (by omega)) ?_
              rw [ro_4 (b := b) (q := q) (by omega) (by omega) (by omega)]
              exact ⟨_, rfl, (MFr.s (MFr.s (MFr.g hf) (by decide)) (by decide)), fun _ => ⟨rfl, u12⟩, fun z => absurd (show (4 : Int) = 0 from z) (by decide)⟩
          · skip
            refine rn_iload_n (k' := 84) rfl rfl rfl ?_
            refine rn_iconst (k' := 85) rfl rfl ?_
            refine rn_icmp_ge (k' := 86) rfl rfl (fun hc6 => ?_) (fun hc6 => ?_)
            · skip
              refine rn_aload_n (k' := 98) rfl rfl rfl ?_
              refine rn_getR (k' := 99) rfl rfl K0_118 (by decide) rfl R0_118_7 ?_
              refine rn_iconst (k' := 100) rfl rfl ?_
              refine rn_iload_n (k' := 101) rfl rfl rfl ?_
              refine rn_iastore (k' := 102) rfl rfl K0_121 (by omega) (by omega) ?_
              refine rn_aload_n (k' := 103) rfl rfl rfl ?_
              refine rn_getR (k' := 104) rfl rfl K0_118 (by decide) rfl R0_118_7 ?_
              refine rn_iconst (k' := 105) rfl rfl ?_
              refine rn_dup2 (k' := 106) rfl rfl ?_
              refine rn_iaload (k' := 107) rfl rfl K0_121 (by omega) (by omega) ?_
              show Rn PT none kX12_readRow 107 [some (mR 118), some (mI ((i9 : Int))), some (mI ((mo : Int)))] [mI (G 1), mI (1), mR 121] (mkh (m_set (m_upd (m_upd μ 121 G) 118 H) 121 0 ((i9 : Int))) c s) _
              refine rn_iconst (k' := 108) rfl rfl ?_
              refine rn_iadd (k' := 109) rfl rfl (by omega) ?_
              refine rn_iastore (k' := 110) rfl rfl K0_121 (by omega) (by omega) ?_
              refine rn_iconst (k' := 111) rfl rfl ?_
              refine rn_iret rfl (Or.inr (by omega)) ?_
              rw [ro_0 (b := b) (q := q) (by omega) (by omega) (by omega), rg_n (b := b) (q := q) (by omega)]
              refine ⟨_, rfl, (MFr.s2 (MFr.s2 (MFr.g hf) (.inl rfl)) (.inl rfl)), fun z => absurd rfl z, fun _ => ⟨hM, (show tkK b n m q = 3 by omega), hf 15 (by decide) (by decide) (by decide) (by decide) (by decide) (by decide) (by decide), hf 20 (by decide) (by decide) (by decide) (by decide) (by decide) (by decide) (by decide), hf 21 (by decide) (by decide) (by decide) (by decide) (by decide) (by decide) (by decide), ?_, rfl⟩⟩
              funext j
              show (if 121 = 121 ∧ j = 1 then G 1 + 1 else (if 121 = 121 ∧ j = 0 then (i9 : Int) else G j)) = (if j = 1 then (y9 : Int) + 1 else (if j = 0 then (i9 : Int) else G j))
              by_cases c1 : j = 1
              · rw [if_pos ⟨rfl, c1⟩, if_pos c1, hG1]
              · rw [if_neg (fun z => c1 z.2), if_neg c1]
                by_cases c0 : j = 0
                · rw [if_pos ⟨rfl, c0⟩, if_pos c0]
                · rw [if_neg (fun z => c0 z.2), if_neg c0]
            · skip
              refine rn_goto rfl ?_
              refine rn_aload_n (k' := 94) rfl rfl rfl ?_
              refine rn_iconst (k' := 95) rfl rfl ?_
              refine rn_callP (k' := 96) (y := 176) (vs := [mR 118, mI (4)]) (S' := []) (v := some (mI (0))) (h' := mkh (m_set (m_set (m_upd (m_upd μ 121 G) 118 H) 118 15 (4)) 118 16 (H 12)) c s) rfl rfl rfl (g_bad (μ := (m_upd (m_upd μ 121 G) 118 H)) (e := 4)) ?_
              show Rn PT none kX12_readRow 96 [some (mR 118), some (mI ((i9 : Int))), some (mI ((mo : Int)))] [mI (0)] (mkh (m_set (m_set (m_upd (m_upd μ 121 G) 118 H) 118 15 (4)) 118 16 (H 12)) c s) _
              refine rn_iret rfl (Or.inr (by omega)) ?_
              rw [ro_4 (b := b) (q := q) (by omega) (by omega) (by omega)]
              exact ⟨_, rfl, (MFr.s (MFr.s (MFr.g hf) (by decide)) (by decide)), fun _ => ⟨rfl, u12⟩, fun z => absurd (show (4 : Int) = 0 from z) (by decide)⟩
        · skip
          refine rn_aload_n (k' := 75) rfl rfl rfl ?_
          refine rn_iconst (k' := 76) rfl rfl ?_
          refine rn_callP (k' := 77) (y := 176) (vs := [mR 118, mI (1)]) (S' := []) (v := some (mI (0))) (h' := mkh (m_set (m_set (m_upd (m_upd μ 121 G) 118 H) 118 15 (1)) 118 16 (H 12)) c s) rfl rfl rfl (g_bad (μ := (m_upd (m_upd μ 121 G) 118 H)) (e := 1)) ?_
          show Rn PT none kX12_readRow 77 [some (mR 118), some (mI ((i9 : Int))), some (mI ((mo : Int)))] [mI (0)] (mkh (m_set (m_set (m_upd (m_upd μ 121 G) 118 H) 118 15 (1)) 118 16 (H 12)) c s) _
          refine rn_iret rfl (Or.inr (by omega)) ?_
          rw [ro_1 (b := b) (q := q) (by omega) (by omega)]
          exact ⟨_, rfl, (MFr.s (MFr.s (MFr.g hf) (by decide)) (by decide)), fun _ => ⟨rfl, u12⟩, fun z => absurd (show (1 : Int) = 0 from z) (by decide)⟩
      · exfalso; omega
    · refine rn_callP (k' := 36) (y := 178) (vs := [mR 118, mI (59)]) (S' := []) (v := some (mI 0)) (h' := mkh (m_upd (m_upd μ 121 G) 118 H) c s) rfl rfl rfl (by have hz : Cl PT 178 [mR 118, mI (59)] (mkh (m_upd (m_upd μ 121 G) 118 H) c s) (fun r => r = (some (some (mI (if H 11 = 3 ∧ H 14 = 59 then 1 else 0))), mkh (m_upd (m_upd μ 121 G) 118 H) c s)) := c_X12_isSign (a := 59) (μ := (m_upd (m_upd μ 121 G) 118 H)) (c := c) (s := s); rw [if_neg hq1] at hz; exact hz) ?_
      show Rn PT none kX12_readRow 36 [some (mR 118), some (mI ((i9 : Int))), some (mI ((mo : Int)))] [mI (0)] (mkh (m_upd (m_upd μ 121 G) 118 H) c s) _
      refine rn_if_ne (k' := 37) rfl rfl (fun hc7 => ?_) (fun hc7 => ?_)
      · exfalso; omega
      · skip
        refine rn_aload_n (k' := 38) rfl rfl rfl ?_
        refine rn_getI (k' := 39) rfl rfl K0_118 (by decide) rfl ?_
        show Rn PT none kX12_readRow 39 [some (mR 118), some (mI ((i9 : Int))), some (mI ((mo : Int)))] [mI (H 11)] (mkh (m_upd (m_upd μ 121 G) 118 H) c s) _
        refine rn_iconst (k' := 40) rfl rfl ?_
        refine rn_icmp_eq (k' := 41) rfl rfl (fun hc8 => ?_) (fun hc8 => ?_)
        · skip
          refine rn_iload_n (k' := 46) rfl rfl rfl ?_
          refine rn_iload_n (k' := 47) rfl rfl rfl ?_
          refine rn_icmp_ne (k' := 48) rfl rfl (fun hc9 => ?_) (fun hc9 => ?_)
          · exfalso; omega
          · skip
            refine rn_aload_n (k' := 49) rfl rfl rfl ?_
            refine rn_iconst (k' := 50) rfl rfl ?_
            refine rn_callP (k' := 51) (y := 176) (vs := [mR 118, mI (4)]) (S' := []) (v := some (mI (0))) (h' := mkh (m_set (m_set (m_upd (m_upd μ 121 G) 118 H) 118 15 (4)) 118 16 (H 12)) c s) rfl rfl rfl (g_bad (μ := (m_upd (m_upd μ 121 G) 118 H)) (e := 4)) ?_
            show Rn PT none kX12_readRow 51 [some (mR 118), some (mI ((i9 : Int))), some (mI ((mo : Int)))] [mI (0)] (mkh (m_set (m_set (m_upd (m_upd μ 121 G) 118 H) 118 15 (4)) 118 16 (H 12)) c s) _
            refine rn_iret rfl (Or.inr (by omega)) ?_
            rw [ro_z (b := b) (q := q) (by omega)]
            exact ⟨_, rfl, (MFr.s (MFr.s (MFr.g hf) (by decide)) (by decide)), fun _ => ⟨rfl, u12⟩, fun z => absurd (show (4 : Int) = 0 from z) (by decide)⟩
        · skip
          refine rn_aload_n (k' := 42) rfl rfl rfl ?_
          refine rn_iconst (k' := 43) rfl rfl ?_
          refine rn_callP (k' := 44) (y := 176) (vs := [mR 118, mI (1)]) (S' := []) (v := some (mI (0))) (h' := mkh (m_set (m_set (m_upd (m_upd μ 121 G) 118 H) 118 15 (1)) 118 16 (H 12)) c s) rfl rfl rfl (g_bad (μ := (m_upd (m_upd μ 121 G) 118 H)) (e := 1)) ?_
          show Rn PT none kX12_readRow 44 [some (mR 118), some (mI ((i9 : Int))), some (mI ((mo : Int)))] [mI (0)] (mkh (m_set (m_set (m_upd (m_upd μ 121 G) 118 H) 118 15 (1)) 118 16 (H 12)) c s) _
          refine rn_iret rfl (Or.inr (by omega)) ?_
          rw [ro_1 (b := b) (q := q) (by omega) (by omega)]
          exact ⟨_, rfl, (MFr.s (MFr.s (MFr.g hf) (by decide)) (by decide)), fun _ => ⟨rfl, u12⟩, fun z => absurd (show (1 : Int) = 0 from z) (by decide)⟩
  | succ d ih =>
    intro i9 i q H G ei hn hM hf hG0 hG1
    subst ei
    obtain ⟨_, _, u12, u11, _, _, u14, u59⟩ := hM.2.2.2.2
    have k2i : H 11 = 2 ↔ tkK b n m q = 2 := by
      have e : H 11 = mkk (tkK b n m q) := u11
      rw [e]; exact mkk_2
    have k3i : H 11 = 3 ↔ tkK b n m q = 3 := by
      have e : H 11 = mkk (tkK b n m q) := u11
      rw [e]; exact mkk_3
    have u59b : tkK b n m q = 3 → H 14 = 59 := u59
    have u14b : tkK b n m q = 2 → H 14 = tkV b n m q := u14
    refine rn_aload_n (k' := 34) rfl rfl rfl ?_
    refine rn_bipush (k' := 35) rfl rfl ?_
    by_cases hq1 : H 11 = 3 ∧ H 14 = 59
    · refine rn_callP (k' := 36) (y := 178) (vs := [mR 118, mI (59)]) (S' := []) (v := some (mI 1)) (h' := mkh (m_upd (m_upd μ 121 G) 118 H) c s) rfl rfl rfl (by have hz : Cl PT 178 [mR 118, mI (59)] (mkh (m_upd (m_upd μ 121 G) 118 H) c s) (fun r => r = (some (some (mI (if H 11 = 3 ∧ H 14 = 59 then 1 else 0))), mkh (m_upd (m_upd μ 121 G) 118 H) c s)) := c_X12_isSign (a := 59) (μ := (m_upd (m_upd μ 121 G) 118 H)) (c := c) (s := s); rw [if_pos hq1] at hz; exact hz) ?_
      show Rn PT none kX12_readRow 36 [some (mR 118), some (mI ((i9 : Int))), some (mI ((mo : Int)))] [mI (1)] (mkh (m_upd (m_upd μ 121 G) 118 H) c s) _
      refine rn_if_ne (k' := 37) rfl rfl (fun hc2 => ?_) (fun hc2 => ?_)
      · skip
        refine rn_iload_n (k' := 72) rfl rfl rfl ?_
        refine rn_iconst (k' := 73) rfl rfl ?_
        refine rn_icmp_ge (k' := 74) rfl rfl (fun hc3 => ?_) (fun hc3 => ?_)
        · skip
          refine rn_aload_n (k' := 79) rfl rfl rfl ?_
          refine rn_getR (k' := 80) rfl rfl K0_118 (by decide) rfl R0_118_7 ?_
          refine rn_iconst (k' := 81) rfl rfl ?_
          refine rn_iaload (k' := 82) rfl rfl K0_121 (by omega) (by omega) ?_
          show Rn PT none kX12_readRow 82 [some (mR 118), some (mI ((i9 : Int))), some (mI ((mo : Int)))] [mI (G 1)] (mkh (m_upd (m_upd μ 121 G) 118 H) c s) _
          refine rn_if_ne (k' := 83) rfl rfl (fun hc4 => ?_) (fun hc4 => ?_)
          · skip
            refine rn_iload_n (k' := 88) rfl rfl rfl ?_
            refine rn_aload_n (k' := 89) rfl rfl rfl ?_
            refine rn_getR (k' := 90) rfl rfl K0_118 (by decide) rfl R0_118_7 ?_
            refine rn_iconst (k' := 91) rfl rfl ?_
            refine rn_iaload (k' := 92) rfl rfl K0_121 (by omega) (by omega) ?_
            show Rn PT none kX12_readRow 92 [some (mR 118), some (mI ((i9 : Int))), some (mI ((mo : Int)))] [mI (G 0), mI ((i9 : Int))] (mkh (m_upd (m_upd μ 121 G) 118 H) c s) _
            refine rn_icmp_ge (k' := 93) rfl rfl (fun hc5 => ?_) (fun hc5 => ?_)
            · skip
              refine rn_aload_n (k' := 98) rfl rfl rfl ?_
              refine rn_getR (k' := 99) rfl rfl K0_118 (by decide) rfl R0_118_7 ?_
              refine rn_iconst (k' := 100) rfl rfl ?_
              refine rn_iload_n (k' := 101) rfl rfl rfl ?_
              refine rn_iastore (k' := 102) rfl rfl K0_121 (by omega) (by omega) ?_
              refine rn_aload_n (k' := 103) rfl rfl rfl ?_
              refine rn_getR (k' := 104) rfl rfl K0_118 (by decide) rfl R0_118_7 ?_
              refine rn_iconst (k' := 105) rfl rfl ?_
              refine rn_dup2 (k' := 106) rfl rfl ?_
              refine rn_iaload (k' := 107) rfl rfl K0_121 (by omega) (by omega) ?_
              show Rn PT none kX12_readRow 107 [some (mR 118), some (mI ((i9 : Int))), some (mI ((mo : Int)))] [mI (G 1), mI (1), mR 121] (mkh (m_set (m_upd (m_upd μ 121 G) 118 H) 121 0 ((i9 : Int))) c s) _
              refine rn_iconst (k' := 108) rfl rfl ?_
              refine rn_iadd (k' := 109) rfl rfl (by omega) ?_
              refine rn_iastore (k' := 110) rfl rfl K0_121 (by omega) (by omega) ?_
              refine rn_iconst (k' := 111) rfl rfl ?_
              refine rn_iret rfl (Or.inr (by omega)) ?_
              rw [ro_0 (b := b) (q := q) (by omega) (by omega) (by omega), rg_n (b := b) (q := q) (by omega)]
              refine ⟨_, rfl, (MFr.s2 (MFr.s2 (MFr.g hf) (.inl rfl)) (.inl rfl)), fun z => absurd rfl z, fun _ => ⟨hM, (show tkK b n m q = 3 by omega), hf 15 (by decide) (by decide) (by decide) (by decide) (by decide) (by decide) (by decide), hf 20 (by decide) (by decide) (by decide) (by decide) (by decide) (by decide) (by decide), hf 21 (by decide) (by decide) (by decide) (by decide) (by decide) (by decide) (by decide), ?_, rfl⟩⟩
              funext j
              show (if 121 = 121 ∧ j = 1 then G 1 + 1 else (if 121 = 121 ∧ j = 0 then (i9 : Int) else G j)) = (if j = 1 then (y9 : Int) + 1 else (if j = 0 then (i9 : Int) else G j))
              by_cases c1 : j = 1
              · rw [if_pos ⟨rfl, c1⟩, if_pos c1, hG1]
              · rw [if_neg (fun z => c1 z.2), if_neg c1]
                by_cases c0 : j = 0
                · rw [if_pos ⟨rfl, c0⟩, if_pos c0]
                · rw [if_neg (fun z => c0 z.2), if_neg c0]
            · skip
              refine rn_aload_n (k' := 94) rfl rfl rfl ?_
              refine rn_iconst (k' := 95) rfl rfl ?_
              refine rn_callP (k' := 96) (y := 176) (vs := [mR 118, mI (4)]) (S' := []) (v := some (mI (0))) (h' := mkh (m_set (m_set (m_upd (m_upd μ 121 G) 118 H) 118 15 (4)) 118 16 (H 12)) c s) rfl rfl rfl (g_bad (μ := (m_upd (m_upd μ 121 G) 118 H)) (e := 4)) ?_
              show Rn PT none kX12_readRow 96 [some (mR 118), some (mI ((i9 : Int))), some (mI ((mo : Int)))] [mI (0)] (mkh (m_set (m_set (m_upd (m_upd μ 121 G) 118 H) 118 15 (4)) 118 16 (H 12)) c s) _
              refine rn_iret rfl (Or.inr (by omega)) ?_
              rw [ro_4 (b := b) (q := q) (by omega) (by omega) (by omega)]
              exact ⟨_, rfl, (MFr.s (MFr.s (MFr.g hf) (by decide)) (by decide)), fun _ => ⟨rfl, u12⟩, fun z => absurd (show (4 : Int) = 0 from z) (by decide)⟩
          · skip
            refine rn_iload_n (k' := 84) rfl rfl rfl ?_
            refine rn_iconst (k' := 85) rfl rfl ?_
            refine rn_icmp_ge (k' := 86) rfl rfl (fun hc6 => ?_) (fun hc6 => ?_)
            · skip
              refine rn_aload_n (k' := 98) rfl rfl rfl ?_
              refine rn_getR (k' := 99) rfl rfl K0_118 (by decide) rfl R0_118_7 ?_
              refine rn_iconst (k' := 100) rfl rfl ?_
              refine rn_iload_n (k' := 101) rfl rfl rfl ?_
              refine rn_iastore (k' := 102) rfl rfl K0_121 (by omega) (by omega) ?_
              refine rn_aload_n (k' := 103) rfl rfl rfl ?_
              refine rn_getR (k' := 104) rfl rfl K0_118 (by decide) rfl R0_118_7 ?_
              refine rn_iconst (k' := 105) rfl rfl ?_
              refine rn_dup2 (k' := 106) rfl rfl ?_
              refine rn_iaload (k' := 107) rfl rfl K0_121 (by omega) (by omega) ?_
              show Rn PT none kX12_readRow 107 [some (mR 118), some (mI ((i9 : Int))), some (mI ((mo : Int)))] [mI (G 1), mI (1), mR 121] (mkh (m_set (m_upd (m_upd μ 121 G) 118 H) 121 0 ((i9 : Int))) c s) _
              refine rn_iconst (k' := 108) rfl rfl ?_
              refine rn_iadd (k' := 109) rfl rfl (by omega) ?_
              refine rn_iastore (k' := 110) rfl rfl K0_121 (by omega) (by omega) ?_
              refine rn_iconst (k' := 111) rfl rfl ?_
              refine rn_iret rfl (Or.inr (by omega)) ?_
              rw [ro_0 (b := b) (q := q) (by omega) (by omega) (by omega), rg_n (b := b) (q := q) (by omega)]
              refine ⟨_, rfl, (MFr.s2 (MFr.s2 (MFr.g hf) (.inl rfl)) (.inl rfl)), fun z => absurd rfl z, fun _ => ⟨hM, (show tkK b n m q = 3 by omega), hf 15 (by decide) (by decide) (by decide) (by decide) (by decide) (by decide) (by decide), hf 20 (by decide) (by decide) (by decide) (by decide) (by decide) (by decide) (by decide), hf 21 (by decide) (by decide) (by decide) (by decide) (by decide) (by decide) (by decide), ?_, rfl⟩⟩
              funext j
              show (if 121 = 121 ∧ j = 1 then G 1 + 1 else (if 121 = 121 ∧ j = 0 then (i9 : Int) else G j)) = (if j = 1 then (y9 : Int) + 1 else (if j = 0 then (i9 : Int) else G j))
              by_cases c1 : j = 1
              · rw [if_pos ⟨rfl, c1⟩, if_pos c1, hG1]
              · rw [if_neg (fun z => c1 z.2), if_neg c1]
                by_cases c0 : j = 0
                · rw [if_pos ⟨rfl, c0⟩, if_pos c0]
                · rw [if_neg (fun z => c0 z.2), if_neg c0]
            · skip
              refine rn_goto rfl ?_
              refine rn_aload_n (k' := 94) rfl rfl rfl ?_
              refine rn_iconst (k' := 95) rfl rfl ?_
              refine rn_callP (k' := 96) (y := 176) (vs := [mR 118, mI (4)]) (S' := []) (v := some (mI (0))) (h' := mkh (m_set (m_set (m_upd (m_upd μ 121 G) 118 H) 118 15 (4)) 118 16 (H 12)) c s) rfl rfl rfl (g_bad (μ := (m_upd (m_upd μ 121 G) 118 H)) (e := 4)) ?_
              show Rn PT none kX12_readRow 96 [some (mR 118), some (mI ((i9 : Int))), some (mI ((mo : Int)))] [mI (0)] (mkh (m_set (m_set (m_upd (m_upd μ 121 G) 118 H) 118 15 (4)) 118 16 (H 12)) c s) _
              refine rn_iret rfl (Or.inr (by omega)) ?_
              rw [ro_4 (b := b) (q := q) (by omega) (by omega) (by omega)]
              exact ⟨_, rfl, (MFr.s (MFr.s (MFr.g hf) (by decide)) (by decide)), fun _ => ⟨rfl, u12⟩, fun z => absurd (show (4 : Int) = 0 from z) (by decide)⟩
        · skip
          refine rn_aload_n (k' := 75) rfl rfl rfl ?_
          refine rn_iconst (k' := 76) rfl rfl ?_
          refine rn_callP (k' := 77) (y := 176) (vs := [mR 118, mI (1)]) (S' := []) (v := some (mI (0))) (h' := mkh (m_set (m_set (m_upd (m_upd μ 121 G) 118 H) 118 15 (1)) 118 16 (H 12)) c s) rfl rfl rfl (g_bad (μ := (m_upd (m_upd μ 121 G) 118 H)) (e := 1)) ?_
          show Rn PT none kX12_readRow 77 [some (mR 118), some (mI ((i9 : Int))), some (mI ((mo : Int)))] [mI (0)] (mkh (m_set (m_set (m_upd (m_upd μ 121 G) 118 H) 118 15 (1)) 118 16 (H 12)) c s) _
          refine rn_iret rfl (Or.inr (by omega)) ?_
          rw [ro_1 (b := b) (q := q) (by omega) (by omega)]
          exact ⟨_, rfl, (MFr.s (MFr.s (MFr.g hf) (by decide)) (by decide)), fun _ => ⟨rfl, u12⟩, fun z => absurd (show (1 : Int) = 0 from z) (by decide)⟩
      · exfalso; omega
    · refine rn_callP (k' := 36) (y := 178) (vs := [mR 118, mI (59)]) (S' := []) (v := some (mI 0)) (h' := mkh (m_upd (m_upd μ 121 G) 118 H) c s) rfl rfl rfl (by have hz : Cl PT 178 [mR 118, mI (59)] (mkh (m_upd (m_upd μ 121 G) 118 H) c s) (fun r => r = (some (some (mI (if H 11 = 3 ∧ H 14 = 59 then 1 else 0))), mkh (m_upd (m_upd μ 121 G) 118 H) c s)) := c_X12_isSign (a := 59) (μ := (m_upd (m_upd μ 121 G) 118 H)) (c := c) (s := s); rw [if_neg hq1] at hz; exact hz) ?_
      show Rn PT none kX12_readRow 36 [some (mR 118), some (mI ((i9 : Int))), some (mI ((mo : Int)))] [mI (0)] (mkh (m_upd (m_upd μ 121 G) 118 H) c s) _
      refine rn_if_ne (k' := 37) rfl rfl (fun hc7 => ?_) (fun hc7 => ?_)
      · exfalso; omega
      · skip
        refine rn_aload_n (k' := 38) rfl rfl rfl ?_
        refine rn_getI (k' := 39) rfl rfl K0_118 (by decide) rfl ?_
        show Rn PT none kX12_readRow 39 [some (mR 118), some (mI ((i9 : Int))), some (mI ((mo : Int)))] [mI (H 11)] (mkh (m_upd (m_upd μ 121 G) 118 H) c s) _
        refine rn_iconst (k' := 40) rfl rfl ?_
        refine rn_icmp_eq (k' := 41) rfl rfl (fun hc8 => ?_) (fun hc8 => ?_)
        · skip
          refine rn_iload_n (k' := 46) rfl rfl rfl ?_
          refine rn_iload_n (k' := 47) rfl rfl rfl ?_
          refine rn_icmp_ne (k' := 48) rfl rfl (fun hc9 => ?_) (fun hc9 => ?_)
          · skip
            refine rn_aload_n (k' := 53) rfl rfl rfl ?_
            refine rn_getR (k' := 54) rfl rfl K0_118 (by decide) rfl R0_118_7 ?_
            refine rn_bipush (k' := 55) rfl rfl ?_
            refine rn_bipush (k' := 56) rfl rfl ?_
            refine rn_aload_n (k' := 57) rfl rfl rfl ?_
            refine rn_getR (k' := 58) rfl rfl K0_118 (by decide) rfl R0_118_7 ?_
            refine rn_iconst (k' := 59) rfl rfl ?_
            refine rn_iaload (k' := 60) rfl rfl K0_121 (by omega) (by omega) ?_
            show Rn PT none kX12_readRow 60 [some (mR 118), some (mI ((i9 : Int))), some (mI ((mo : Int)))] [mI (G 1), mI (10), mI (9), mR 121] (mkh (m_upd (m_upd μ 121 G) 118 H) c s) _
            refine rn_imul (k' := 61) rfl rfl (by omega) ?_
            refine rn_iadd (k' := 62) rfl rfl (by omega) ?_
            refine rn_iload_n (k' := 63) rfl rfl rfl ?_
            refine rn_iadd (k' := 64) rfl rfl (by omega) ?_
            refine rn_aload_n (k' := 65) rfl rfl rfl ?_
            refine rn_getI (k' := 66) rfl rfl K0_118 (by decide) rfl ?_
            show Rn PT none kX12_readRow 66 [some (mR 118), some (mI ((i9 : Int))), some (mI ((mo : Int)))] [mI (H 14), mI ((9 + (10 * (G 1))) + (i9 : Int)), mR 121] (mkh (m_upd (m_upd μ 121 G) 118 H) c s) _
            refine rn_iastore (k' := 67) rfl rfl K0_121 (by omega) (by omega) ?_
            refine rn_iinc (k' := 68) (L' := [some (mR 118), some (mI ((i9 : Int) + 1)), some (mI ((mo : Int)))]) rfl rfl rfl (by omega) rfl ?_
            refine rn_aload_n (k' := 69) rfl rfl rfl ?_
            obtain ⟨H1, ⟨hm1, hf1_⟩, hc1⟩ := g_next2 (μ := (m_set (m_upd (m_upd μ 121 G) 118 H) 121 (((9 + (10 * (G 1))) + (i9 : Int)).toNat) (H 14))) (c := c) (s := s) (b := b) (n := n) (m := m) (p := q) hM (by omega)
            have hf1 : FRt H1 H := hf1_.t
            have hM1 : MSt (m_upd (m_set (m_upd (m_upd μ 121 G) 118 H) 121 (((9 + (10 * (G 1))) + (i9 : Int)).toNat) (H 14)) 118 H1) b n m (tkN b n m q) := ⟨hM.1, hM.2.1, hM.2.2.1, (tkN_b hM.2.2.2.1).2.1, hm1⟩
            refine rn_callP (k' := 70) (y := 175) (vs := [mR 118]) (S' := []) (v := none) (h' := mkh (m_upd (m_set (m_upd (m_upd μ 121 G) 118 H) 121 (((9 + (10 * (G 1))) + (i9 : Int)).toNat) (H 14)) 118 H1) c s) rfl rfl rfl (hc1) ?_
            show Rn PT none kX12_readRow 70 [some (mR 118), some (mI ((i9 : Int) + 1)), some (mI ((mo : Int)))] [] (mkh (m_upd (m_set (m_upd (m_upd μ 121 G) 118 H) 121 (((9 + (10 * (G 1))) + (i9 : Int)).toNat) (H 14)) 118 H1) c s) _
            refine rn_goto rfl ?_
            have k2 : tkK b n m q = 2 := by omega
            rw [ro_s k2, rg_s k2]
            have hix : (9 + 10 * G 1 + (i9 : Int)).toNat = 9 + 10 * y9 + i9 := by omega
            show Rn PT none kX12_readRow 33 [some (mR 118), some (mI ((i9 : Int) + 1)), some (mI ((mo : Int)))] [] (mkh (m_upd (m_set (m_upd (m_upd μ 121 G) 118 H) 121 (((9 + (10 * (G 1))) + (i9 : Int)).toNat) (H 14)) 118 H1) c s) _
            rw [show (m_upd (m_set (m_upd (m_upd μ 121 G) 118 H) 121 (((9 + (10 * (G 1))) + (i9 : Int)).toNat) (H 14)) 118 H1) = m_upd (m_upd μ 121 (fs G (9 + 10 * y9 + i9) (tkV b n m q))) 118 H1 by rw [hix, u14b k2, set_upd_ne (by decide), set_upd_eq, upd_upd]]
            exact ih (i9 + 1) _ (tkN b n m q) H1 _ (by omega) (by omega) ⟨hM1.1, hM1.2.1, hM1.2.2.1, hM1.2.2.2.1, hm1⟩ (hf1.trans hf) ((fs_ne_ (by omega)).trans hG0) ((fs_ne_ (by omega)).trans hG1)
          · exfalso; omega
        · skip
          refine rn_aload_n (k' := 42) rfl rfl rfl ?_
          refine rn_iconst (k' := 43) rfl rfl ?_
          refine rn_callP (k' := 44) (y := 176) (vs := [mR 118, mI (1)]) (S' := []) (v := some (mI (0))) (h' := mkh (m_set (m_set (m_upd (m_upd μ 121 G) 118 H) 118 15 (1)) 118 16 (H 12)) c s) rfl rfl rfl (g_bad (μ := (m_upd (m_upd μ 121 G) 118 H)) (e := 1)) ?_
          show Rn PT none kX12_readRow 44 [some (mR 118), some (mI ((i9 : Int))), some (mI ((mo : Int)))] [mI (0)] (mkh (m_set (m_set (m_upd (m_upd μ 121 G) 118 H) 118 15 (1)) 118 16 (H 12)) c s) _
          refine rn_iret rfl (Or.inr (by omega)) ?_
          rw [ro_1 (b := b) (q := q) (by omega) (by omega)]
          exact ⟨_, rfl, (MFr.s (MFr.s (MFr.g hf) (by decide)) (by decide)), fun _ => ⟨rfl, u12⟩, fun z => absurd (show (1 : Int) = 0 from z) (by decide)⟩
