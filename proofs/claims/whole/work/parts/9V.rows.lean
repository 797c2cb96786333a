variable {N : Int}
/-! ===== printed by wip/whole/gen9V.py: row lines by the class ===== -/
/-- a row read: fault code, pointer of the token at which it ends, how many numbers -/
def rowO (b : Nat → Int) (n m le : Nat) : Nat → Nat → Nat → Int × Nat × Nat
  | 0, i, q => if tkK b n m q = 3 ∧ 0 < i then (if le ≤ i then (0, q, i) else (4, q, i)) else if tkK b n m q = 2 then (4, q, i) else (1, q, i)
  | d + 1, i, q => if tkK b n m q = 3 ∧ 0 < i then (if le ≤ i then (0, q, i) else (4, q, i)) else if tkK b n m q = 2 then rowO b n m le d (i + 1) (tkN b n m q) else (1, q, i)
def rowG (b : Nat → Int) (n m ba : Nat) : Nat → Nat → Nat → (Nat → Int) → Nat → Int
  | 0, _, _, G => G
  | d + 1, i, q, G => if tkK b n m q = 2 then rowG b n m ba d (i + 1) (tkN b n m q) (fs G (ba + i) (tkV b n m q)) else G
theorem fs_bd {G : Nat → Int} {a j : Nat} {v : Int} (h : 0 ≤ G j ∧ G j ≤ 99) (hv : 0 ≤ v ∧ v ≤ 99) : 0 ≤ fs G a v j ∧ fs G a v j ≤ 99 := by
  by_cases q : j = a
  · rw [show fs G a v j = v from if_pos q]; exact hv
  · rw [show fs G a v j = G j from if_neg q]; exact h
theorem ro_0 {b : Nat → Int} {n m le d i q : Nat} (h : tkK b n m q = 3) (hi : 0 < i) (hl : le ≤ i) : rowO b n m le d i q = (0, q, i) := by
  cases d
  · show (if _ then _ else _) = _
    rw [if_pos ⟨h, hi⟩, if_pos hl]
  · show (if _ then _ else _) = _
    rw [if_pos ⟨h, hi⟩, if_pos hl]
theorem ro_4 {b : Nat → Int} {n m le d i q : Nat} (h : tkK b n m q = 3) (hi : 0 < i) (hl : ¬ le ≤ i) : rowO b n m le d i q = (4, q, i) := by
  cases d
  · show (if _ then _ else _) = _
    rw [if_pos ⟨h, hi⟩, if_neg hl]
  · show (if _ then _ else _) = _
    rw [if_pos ⟨h, hi⟩, if_neg hl]
theorem ro_1 {b : Nat → Int} {n m le d i q : Nat} (h : ¬ (tkK b n m q = 3 ∧ 0 < i)) (h2 : ¬ tkK b n m q = 2) : rowO b n m le d i q = (1, q, i) := by
  cases d
  · show (if _ then _ else _) = _
    rw [if_neg h, if_neg h2]
  · show (if _ then _ else _) = _
    rw [if_neg h, if_neg h2]
theorem ro_z {b : Nat → Int} {n m le i q : Nat} (h2 : tkK b n m q = 2) : rowO b n m le 0 i q = (4, q, i) := by
  show (if _ then _ else _) = _
  rw [if_neg (by omega), if_pos h2]
theorem ro_s {b : Nat → Int} {n m le d i q : Nat} (h2 : tkK b n m q = 2) : rowO b n m le (d + 1) i q = rowO b n m le d (i + 1) (tkN b n m q) := by
  show (if _ then _ else _) = _
  rw [if_neg (by omega), if_pos h2]
theorem rg_s {b : Nat → Int} {n m ba d i q : Nat} {G : Nat → Int} (h2 : tkK b n m q = 2) : rowG b n m ba (d + 1) i q G = rowG b n m ba d (i + 1) (tkN b n m q) (fs G (ba + i) (tkV b n m q)) := if_pos h2
theorem rg_n {b : Nat → Int} {n m ba d i q : Nat} {G : Nat → Int} (h2 : ¬ tkK b n m q = 2) : rowG b n m ba d i q G = G := by
  cases d
  · rfl
  · exact if_neg h2
set_option maxHeartbeats 4000000 in
theorem l_rowC {μ : Nat → Nat → Int} {c s : Nat} {b : Nat → Int} {n m le mo y9 : Nat} (hmo : mo ≤ 10) (hy : μ 54 9 = (y9 : Int)) (hy9 : y9 < 10) : ∀ (d i9 : Nat) (i : Int) (q : Nat) (A : Nat → Int) (G : Nat → Int), i = (i9 : Int) → i9 + d = mo → (CSt (m_upd (m_upd μ 55 G) 1 A) b n m q) → (I_fresh μ → ∀ j, 0 ≤ G j ∧ G j ≤ 99) → Rn PT none kX5_readRow 35 [some (mR 3), some (mR 54), some (mI ((le : Int))), some (mI ((mo : Int))), some (mI (i))] [] (mkh (m_upd (m_upd μ 55 G) 1 A) c s) (fun r => ∃ μ', r = (some (some (mI (if (rowO b n m le d i9 q).1 = 0 then 1 else 0))), mkh μ' c s) ∧ CF μ μ' ∧ (¬ (rowO b n m le d i9 q).1 = 0 → μ' 3 2 = (rowO b n m le d i9 q).1 ∧ μ' 1 4 = ((tkP b n m (rowO b n m le d i9 q).2.1 : Nat) : Int)) ∧ ((rowO b n m le d i9 q).1 = 0 → CSt μ' b n m (tkN b n m (rowO b n m le d i9 q).2.1) ∧ μ' 3 2 = μ 3 2 ∧ μ' 54 8 = (((rowO b n m le d i9 q).2.2 : Nat) : Int) ∧ μ' 54 9 = μ 54 9 + 1 ∧ (∀ j, ¬ j = 8 → ¬ j = 9 → μ' 54 j = μ 54 j) ∧ μ' 55 = rowG b n m (10 * y9) d i9 q G ∧ μ' 56 = μ 56 ∧ μ' 57 = μ 57 ∧ μ' 58 = μ 58 ∧ μ' 59 = μ 59 ∧ μ' 60 = μ 60 ∧ μ' 61 = μ 61)) := by
  intro d
  induction d with
  | zero =>
    intro i9 i q A G ei hn hC hG
    subst ei
    refine rn_iload (k' := 36) rfl rfl rfl ?_
    refine rn_iload_n (k' := 37) rfl rfl rfl ?_
    refine rn_icmp_gt (k' := 38) rfl rfl (fun hc1 => ?_) (fun hc1 => ?_)
    · exfalso; omega
    · skip
      refine rn_aload_n (k' := 39) rfl rfl rfl ?_
      refine rn_getR (k' := 40) rfl rfl K0_3 (by decide) rfl R0_3_0 ?_
      obtain ⟨A1, hA1, hc1⟩ := g_readToken (μ := (m_upd (m_upd μ 55 G) 1 A)) (c := c) (s := s) (b := b) (n := n) (m := m) (p := q) hC
      rw [upd_upd] at hc1
      have hC1 : CSt (m_upd (m_upd μ 55 G) 1 A1) b n m (tkN b n m q) := ⟨hC.1, hC.2.1, (tkN_b hC.2.2.1).2.1, hA1.1, hA1.2.1, hA1.2.2.1⟩
      obtain ⟨_, _, _, a4, a5, a6⟩ := hA1
      have tnq : tkK b n m q = 2 → 0 ≤ tkV b n m q ∧ tkV b n m q ≤ 99 := fun z => (tk_num z).2
      refine rn_callP (k' := 41) (y := 69) (vs := [mR 1]) (S' := []) (v := none) (h' := mkh (m_upd (m_upd μ 55 G) 1 A1) c s) rfl rfl rfl (hc1) ?_
      show Rn PT none kX5_readRow 41 [some (mR 3), some (mR 54), some (mI ((le : Int))), some (mI ((mo : Int))), some (mI ((i9 : Int)))] [] (mkh (m_upd (m_upd μ 55 G) 1 A1) c s) _
      refine rn_aload_n (k' := 42) rfl rfl rfl ?_
      refine rn_getR (k' := 43) rfl rfl K0_3 (by decide) rfl R0_3_0 ?_
      refine rn_getI (k' := 44) rfl rfl K0_1 (by decide) rfl ?_
      show Rn PT none kX5_readRow 44 [some (mR 3), some (mR 54), some (mI ((le : Int))), some (mI ((mo : Int))), some (mI ((i9 : Int)))] [mI (A1 5)] (mkh (m_upd (m_upd μ 55 G) 1 A1) c s) _
      refine rn_iconst (k' := 45) rfl rfl ?_
      refine rn_icmp_ne (k' := 46) rfl rfl (fun hc2 => ?_) (fun hc2 => ?_)
      · skip
        refine rn_aload_n (k' := 80) rfl rfl rfl ?_
        refine rn_getR (k' := 81) rfl rfl K0_3 (by decide) rfl R0_3_0 ?_
        refine rn_getI (k' := 82) rfl rfl K0_1 (by decide) rfl ?_
        show Rn PT none kX5_readRow 82 [some (mR 3), some (mR 54), some (mI ((le : Int))), some (mI ((mo : Int))), some (mI ((i9 : Int)))] [mI (A1 5)] (mkh (m_upd (m_upd μ 55 G) 1 A1) c s) _
        refine rn_iconst (k' := 83) rfl rfl ?_
        refine rn_icmp_eq (k' := 84) rfl rfl (fun hc3 => ?_) (fun hc3 => ?_)
        · skip
          refine rn_iload (k' := 89) rfl rfl rfl ?_
          refine rn_iload_n (k' := 90) rfl rfl rfl ?_
          refine rn_icmp_ge (k' := 91) rfl rfl (fun hc4 => ?_) (fun hc4 => ?_)
          · skip
            refine rn_iinc (k' := 104) (L' := [some (mR 3), some (mR 54), some (mI ((le : Int))), some (mI ((mo : Int))), some (mI ((i9 : Int) + 1))]) rfl rfl rfl (by omega) rfl ?_
            refine rn_goto rfl ?_
            refine rn_iload (k' := 36) rfl rfl rfl ?_
            refine rn_iload_n (k' := 37) rfl rfl rfl ?_
            refine rn_icmp_gt (k' := 38) rfl rfl (fun hc1 => ?_) (fun hc1 => ?_)
            · skip
              refine rn_aload_n (k' := 106) rfl rfl rfl ?_
              refine rn_iconst (k' := 107) rfl rfl ?_
              refine rn_callP (k' := 108) (y := 45) (vs := [mR 3, mI (4)]) (S' := []) (v := some (mI (0))) (h' := mkh (m_set (m_upd (m_upd μ 55 G) 1 A1) 3 2 (4)) c s) rfl rfl rfl (g_fail (μ := (m_upd (m_upd μ 55 G) 1 A1)) (e := 4)) ?_
              show Rn PT none kX5_readRow 108 [some (mR 3), some (mR 54), some (mI ((le : Int))), some (mI ((mo : Int))), some (mI ((i9 : Int) + 1))] [mI (0)] (mkh (m_set (m_upd (m_upd μ 55 G) 1 A1) 3 2 (4)) c s) _
              refine rn_iret rfl (Or.inr (by omega)) ?_
              rw [ro_z (b := b) (q := q) (by omega)]
              exact ⟨_, rfl, (CF.s (CF.u (CF.u55 CF.r hG) (by decide)) (by decide)), fun _ => ⟨rfl, a4⟩, fun z => absurd (show (4 : Int) = 0 from z) (by decide)⟩
            · exfalso; omega
          · exfalso; omega
        · skip
          refine rn_aload_n (k' := 85) rfl rfl rfl ?_
          refine rn_iconst (k' := 86) rfl rfl ?_
          refine rn_callP (k' := 87) (y := 45) (vs := [mR 3, mI (1)]) (S' := []) (v := some (mI (0))) (h' := mkh (m_set (m_upd (m_upd μ 55 G) 1 A1) 3 2 (1)) c s) rfl rfl rfl (g_fail (μ := (m_upd (m_upd μ 55 G) 1 A1)) (e := 1)) ?_
          show Rn PT none kX5_readRow 87 [some (mR 3), some (mR 54), some (mI ((le : Int))), some (mI ((mo : Int))), some (mI ((i9 : Int)))] [mI (0)] (mkh (m_set (m_upd (m_upd μ 55 G) 1 A1) 3 2 (1)) c s) _
          refine rn_iret rfl (Or.inr (by omega)) ?_
          rw [ro_1 (b := b) (q := q) (by omega) (by omega)]
          exact ⟨_, rfl, (CF.s (CF.u (CF.u55 CF.r hG) (by decide)) (by decide)), fun _ => ⟨rfl, a4⟩, fun z => absurd (show (1 : Int) = 0 from z) (by decide)⟩
      · skip
        refine rn_iload (k' := 47) rfl rfl rfl ?_
        refine rn_if_le (k' := 48) rfl rfl (fun hc5 => ?_) (fun hc5 => ?_)
        · skip
          refine rn_aload_n (k' := 80) rfl rfl rfl ?_
          refine rn_getR (k' := 81) rfl rfl K0_3 (by decide) rfl R0_3_0 ?_
          refine rn_getI (k' := 82) rfl rfl K0_1 (by decide) rfl ?_
          show Rn PT none kX5_readRow 82 [some (mR 3), some (mR 54), some (mI ((le : Int))), some (mI ((mo : Int))), some (mI ((i9 : Int)))] [mI (A1 5)] (mkh (m_upd (m_upd μ 55 G) 1 A1) c s) _
          refine rn_iconst (k' := 83) rfl rfl ?_
          refine rn_icmp_eq (k' := 84) rfl rfl (fun hc6 => ?_) (fun hc6 => ?_)
          · skip
            refine rn_iload (k' := 89) rfl rfl rfl ?_
            refine rn_iload_n (k' := 90) rfl rfl rfl ?_
            refine rn_icmp_ge (k' := 91) rfl rfl (fun hc7 => ?_) (fun hc7 => ?_)
            · skip
              refine rn_iinc (k' := 104) (L' := [some (mR 3), some (mR 54), some (mI ((le : Int))), some (mI ((mo : Int))), some (mI ((i9 : Int) + 1))]) rfl rfl rfl (by omega) rfl ?_
              refine rn_goto rfl ?_
              refine rn_iload (k' := 36) rfl rfl rfl ?_
              refine rn_iload_n (k' := 37) rfl rfl rfl ?_
              refine rn_icmp_gt (k' := 38) rfl rfl (fun hc1 => ?_) (fun hc1 => ?_)
              · skip
                refine rn_aload_n (k' := 106) rfl rfl rfl ?_
                refine rn_iconst (k' := 107) rfl rfl ?_
                refine rn_callP (k' := 108) (y := 45) (vs := [mR 3, mI (4)]) (S' := []) (v := some (mI (0))) (h' := mkh (m_set (m_upd (m_upd μ 55 G) 1 A1) 3 2 (4)) c s) rfl rfl rfl (g_fail (μ := (m_upd (m_upd μ 55 G) 1 A1)) (e := 4)) ?_
                show Rn PT none kX5_readRow 108 [some (mR 3), some (mR 54), some (mI ((le : Int))), some (mI ((mo : Int))), some (mI ((i9 : Int) + 1))] [mI (0)] (mkh (m_set (m_upd (m_upd μ 55 G) 1 A1) 3 2 (4)) c s) _
                refine rn_iret rfl (Or.inr (by omega)) ?_
                rw [ro_z (b := b) (q := q) (by omega)]
                exact ⟨_, rfl, (CF.s (CF.u (CF.u55 CF.r hG) (by decide)) (by decide)), fun _ => ⟨rfl, a4⟩, fun z => absurd (show (4 : Int) = 0 from z) (by decide)⟩
              · exfalso; omega
            · exfalso; omega
          · skip
            refine rn_aload_n (k' := 85) rfl rfl rfl ?_
            refine rn_iconst (k' := 86) rfl rfl ?_
            refine rn_callP (k' := 87) (y := 45) (vs := [mR 3, mI (1)]) (S' := []) (v := some (mI (0))) (h' := mkh (m_set (m_upd (m_upd μ 55 G) 1 A1) 3 2 (1)) c s) rfl rfl rfl (g_fail (μ := (m_upd (m_upd μ 55 G) 1 A1)) (e := 1)) ?_
            show Rn PT none kX5_readRow 87 [some (mR 3), some (mR 54), some (mI ((le : Int))), some (mI ((mo : Int))), some (mI ((i9 : Int)))] [mI (0)] (mkh (m_set (m_upd (m_upd μ 55 G) 1 A1) 3 2 (1)) c s) _
            refine rn_iret rfl (Or.inr (by omega)) ?_
            rw [ro_1 (b := b) (q := q) (by omega) (by omega)]
            exact ⟨_, rfl, (CF.s (CF.u (CF.u55 CF.r hG) (by decide)) (by decide)), fun _ => ⟨rfl, a4⟩, fun z => absurd (show (1 : Int) = 0 from z) (by decide)⟩
        · skip
          refine rn_aload_n (k' := 49) rfl rfl rfl ?_
          refine rn_iload (k' := 50) rfl rfl rfl ?_
          refine rn_iload_n (k' := 51) rfl rfl rfl ?_
          refine rn_icmp_lt (k' := 52) rfl rfl (fun hc8 => ?_) (fun hc8 => ?_)
          · skip
            refine rn_aload_n (k' := 55) rfl rfl rfl ?_
            refine rn_getI (k' := 56) rfl rfl K0_54 (by decide) rfl ?_
            show Rn PT none kX5_readRow 56 [some (mR 3), some (mR 54), some (mI ((le : Int))), some (mI ((mo : Int))), some (mI ((i9 : Int)))] [mI (μ 54 8), mR 54] (mkh (m_upd (m_upd μ 55 G) 1 A1) c s) _
            refine rn_putI (k' := 57) rfl rfl K0_54 (by decide) rfl ?_
            refine rn_aload_n (k' := 58) rfl rfl rfl ?_
            refine rn_dupR (k' := 59) rfl rfl ?_
            refine rn_getI (k' := 60) rfl rfl K0_54 (by decide) rfl ?_
            show Rn PT none kX5_readRow 60 [some (mR 3), some (mR 54), some (mI ((le : Int))), some (mI ((mo : Int))), some (mI ((i9 : Int)))] [mI (μ 54 9), mR 54] (mkh (m_set (m_upd (m_upd μ 55 G) 1 A1) 54 8 (μ 54 8)) c s) _
            refine rn_iload (k' := 61) rfl rfl rfl ?_
            refine rn_iload_n (k' := 62) rfl rfl rfl ?_
            refine rn_icmp_lt (k' := 63) rfl rfl (fun hc10 => ?_) (fun hc10 => ?_)
            · skip
              refine rn_iconst (k' := 66) rfl rfl ?_
              refine rn_iadd (k' := 67) rfl rfl (by omega) ?_
              refine rn_putI (k' := 68) rfl rfl K0_54 (by decide) rfl ?_
              refine rn_iload (k' := 69) rfl rfl rfl ?_
              refine rn_iload_n (k' := 70) rfl rfl rfl ?_
              refine rn_icmp_ge (k' := 71) rfl rfl (fun hc12 => ?_) (fun hc12 => ?_)
              · skip
                refine rn_iconst (k' := 76) rfl rfl ?_
                refine rn_goto rfl ?_
                refine rn_iret rfl (Or.inr (by omega)) ?_
                exfalso; omega
              · skip
                refine rn_aload_n (k' := 72) rfl rfl rfl ?_
                refine rn_iconst (k' := 73) rfl rfl ?_
                refine rn_callP (k' := 74) (y := 45) (vs := [mR 3, mI (4)]) (S' := []) (v := some (mI (0))) (h' := mkh (m_set (m_set (m_set (m_upd (m_upd μ 55 G) 1 A1) 54 8 (μ 54 8)) 54 9 ((μ 54 9) + 0)) 3 2 (4)) c s) rfl rfl rfl (g_fail (μ := (m_set (m_set (m_upd (m_upd μ 55 G) 1 A1) 54 8 (μ 54 8)) 54 9 ((μ 54 9) + 0))) (e := 4)) ?_
                show Rn PT none kX5_readRow 74 [some (mR 3), some (mR 54), some (mI ((le : Int))), some (mI ((mo : Int))), some (mI ((i9 : Int)))] [mI (0)] (mkh (m_set (m_set (m_set (m_upd (m_upd μ 55 G) 1 A1) 54 8 (μ 54 8)) 54 9 ((μ 54 9) + 0)) 3 2 (4)) c s) _
                refine rn_if_eq (k' := 75) rfl rfl (fun hc13 => ?_) (fun hc13 => ?_)
                · skip
                  refine rn_iconst (k' := 78) rfl rfl ?_
                  refine rn_iret rfl (Or.inr (by omega)) ?_
                  rw [ro_4 (b := b) (q := q) (by omega) (by omega) (by omega)]
                  exact ⟨_, rfl, (CF.s (CF.s (CF.s (CF.u (CF.u55 CF.r hG) (by decide)) (by decide)) (by decide)) (by decide)), fun _ => ⟨rfl, a4⟩, fun z => absurd (show (4 : Int) = 0 from z) (by decide)⟩
                · exfalso; omega
            · skip
              refine rn_iconst (k' := 64) rfl rfl ?_
              refine rn_goto rfl ?_
              refine rn_iadd (k' := 67) rfl rfl (by omega) ?_
              refine rn_putI (k' := 68) rfl rfl K0_54 (by decide) rfl ?_
              refine rn_iload (k' := 69) rfl rfl rfl ?_
              refine rn_iload_n (k' := 70) rfl rfl rfl ?_
              refine rn_icmp_ge (k' := 71) rfl rfl (fun hc15 => ?_) (fun hc15 => ?_)
              · skip
                refine rn_iconst (k' := 76) rfl rfl ?_
                refine rn_goto rfl ?_
                refine rn_iret rfl (Or.inr (by omega)) ?_
                exfalso; omega
              · skip
                refine rn_aload_n (k' := 72) rfl rfl rfl ?_
                refine rn_iconst (k' := 73) rfl rfl ?_
                refine rn_callP (k' := 74) (y := 45) (vs := [mR 3, mI (4)]) (S' := []) (v := some (mI (0))) (h' := mkh (m_set (m_set (m_set (m_upd (m_upd μ 55 G) 1 A1) 54 8 (μ 54 8)) 54 9 ((μ 54 9) + 1)) 3 2 (4)) c s) rfl rfl rfl (g_fail (μ := (m_set (m_set (m_upd (m_upd μ 55 G) 1 A1) 54 8 (μ 54 8)) 54 9 ((μ 54 9) + 1))) (e := 4)) ?_
                show Rn PT none kX5_readRow 74 [some (mR 3), some (mR 54), some (mI ((le : Int))), some (mI ((mo : Int))), some (mI ((i9 : Int)))] [mI (0)] (mkh (m_set (m_set (m_set (m_upd (m_upd μ 55 G) 1 A1) 54 8 (μ 54 8)) 54 9 ((μ 54 9) + 1)) 3 2 (4)) c s) _
                refine rn_if_eq (k' := 75) rfl rfl (fun hc16 => ?_) (fun hc16 => ?_)
                · skip
                  refine rn_iconst (k' := 78) rfl rfl ?_
                  refine rn_iret rfl (Or.inr (by omega)) ?_
                  exfalso; omega
                · exfalso; omega
          · skip
            refine rn_iload (k' := 53) rfl rfl rfl ?_
            refine rn_goto rfl ?_
            refine rn_putI (k' := 57) rfl rfl K0_54 (by decide) rfl ?_
            refine rn_aload_n (k' := 58) rfl rfl rfl ?_
            refine rn_dupR (k' := 59) rfl rfl ?_
            refine rn_getI (k' := 60) rfl rfl K0_54 (by decide) rfl ?_
            show Rn PT none kX5_readRow 60 [some (mR 3), some (mR 54), some (mI ((le : Int))), some (mI ((mo : Int))), some (mI ((i9 : Int)))] [mI (μ 54 9), mR 54] (mkh (m_set (m_upd (m_upd μ 55 G) 1 A1) 54 8 ((i9 : Int))) c s) _
            refine rn_iload (k' := 61) rfl rfl rfl ?_
            refine rn_iload_n (k' := 62) rfl rfl rfl ?_
            refine rn_icmp_lt (k' := 63) rfl rfl (fun hc18 => ?_) (fun hc18 => ?_)
            · skip
              refine rn_iconst (k' := 66) rfl rfl ?_
              refine rn_iadd (k' := 67) rfl rfl (by omega) ?_
              refine rn_putI (k' := 68) rfl rfl K0_54 (by decide) rfl ?_
              refine rn_iload (k' := 69) rfl rfl rfl ?_
              refine rn_iload_n (k' := 70) rfl rfl rfl ?_
              refine rn_icmp_ge (k' := 71) rfl rfl (fun hc20 => ?_) (fun hc20 => ?_)
              · skip
                refine rn_iconst (k' := 76) rfl rfl ?_
                refine rn_goto rfl ?_
                refine rn_iret rfl (Or.inr (by omega)) ?_
                exfalso; omega
              · skip
                refine rn_aload_n (k' := 72) rfl rfl rfl ?_
                refine rn_iconst (k' := 73) rfl rfl ?_
                refine rn_callP (k' := 74) (y := 45) (vs := [mR 3, mI (4)]) (S' := []) (v := some (mI (0))) (h' := mkh (m_set (m_set (m_set (m_upd (m_upd μ 55 G) 1 A1) 54 8 ((i9 : Int))) 54 9 ((μ 54 9) + 0)) 3 2 (4)) c s) rfl rfl rfl (g_fail (μ := (m_set (m_set (m_upd (m_upd μ 55 G) 1 A1) 54 8 ((i9 : Int))) 54 9 ((μ 54 9) + 0))) (e := 4)) ?_
                show Rn PT none kX5_readRow 74 [some (mR 3), some (mR 54), some (mI ((le : Int))), some (mI ((mo : Int))), some (mI ((i9 : Int)))] [mI (0)] (mkh (m_set (m_set (m_set (m_upd (m_upd μ 55 G) 1 A1) 54 8 ((i9 : Int))) 54 9 ((μ 54 9) + 0)) 3 2 (4)) c s) _
                refine rn_if_eq (k' := 75) rfl rfl (fun hc21 => ?_) (fun hc21 => ?_)
                · skip
                  refine rn_iconst (k' := 78) rfl rfl ?_
                  refine rn_iret rfl (Or.inr (by omega)) ?_
                  exfalso; omega
                · exfalso; omega
            · skip
              refine rn_iconst (k' := 64) rfl rfl ?_
              refine rn_goto rfl ?_
              refine rn_iadd (k' := 67) rfl rfl (by omega) ?_
              refine rn_putI (k' := 68) rfl rfl K0_54 (by decide) rfl ?_
              refine rn_iload (k' := 69) rfl rfl rfl ?_
              refine rn_iload_n (k' := 70) rfl rfl rfl ?_
              refine rn_icmp_ge (k' := 71) rfl rfl (fun hc23 => ?_) (fun hc23 => ?_)
              · skip
                refine rn_iconst (k' := 76) rfl rfl ?_
                refine rn_goto rfl ?_
                refine rn_iret rfl (Or.inr (by omega)) ?_
                rw [ro_0 (b := b) (q := q) (by omega) (by omega) (by omega), rg_n (b := b) (q := q) (by omega)]
                refine ⟨_, rfl, (CF.s (CF.s (CF.u (CF.u55 CF.r hG) (by decide)) (by decide)) (by decide)), fun z => absurd rfl z, fun _ => ⟨hC1, rfl, rfl, rfl, (fun j h8 h9 => by simp [m_set, m_upd, h8, h9]), rfl, rfl, rfl, rfl, rfl, rfl, rfl⟩⟩
              · skip
                refine rn_aload_n (k' := 72) rfl rfl rfl ?_
                refine rn_iconst (k' := 73) rfl rfl ?_
                refine rn_callP (k' := 74) (y := 45) (vs := [mR 3, mI (4)]) (S' := []) (v := some (mI (0))) (h' := mkh (m_set (m_set (m_set (m_upd (m_upd μ 55 G) 1 A1) 54 8 ((i9 : Int))) 54 9 ((μ 54 9) + 1)) 3 2 (4)) c s) rfl rfl rfl (g_fail (μ := (m_set (m_set (m_upd (m_upd μ 55 G) 1 A1) 54 8 ((i9 : Int))) 54 9 ((μ 54 9) + 1))) (e := 4)) ?_
                show Rn PT none kX5_readRow 74 [some (mR 3), some (mR 54), some (mI ((le : Int))), some (mI ((mo : Int))), some (mI ((i9 : Int)))] [mI (0)] (mkh (m_set (m_set (m_set (m_upd (m_upd μ 55 G) 1 A1) 54 8 ((i9 : Int))) 54 9 ((μ 54 9) + 1)) 3 2 (4)) c s) _
                refine rn_if_eq (k' := 75) rfl rfl (fun hc24 => ?_) (fun hc24 => ?_)
                · skip
                  refine rn_iconst (k' := 78) rfl rfl ?_
                  refine rn_iret rfl (Or.inr (by omega)) ?_
                  exfalso; omega
                · exfalso; omega
  | succ d ih =>
    intro i9 i q A G ei hn hC hG
    subst ei
    refine rn_iload (k' := 36) rfl rfl rfl ?_
    refine rn_iload_n (k' := 37) rfl rfl rfl ?_
    refine rn_icmp_gt (k' := 38) rfl rfl (fun hc1 => ?_) (fun hc1 => ?_)
    · exfalso; omega
    · skip
      refine rn_aload_n (k' := 39) rfl rfl rfl ?_
      refine rn_getR (k' := 40) rfl rfl K0_3 (by decide) rfl R0_3_0 ?_
      obtain ⟨A1, hA1, hc1⟩ := g_readToken (μ := (m_upd (m_upd μ 55 G) 1 A)) (c := c) (s := s) (b := b) (n := n) (m := m) (p := q) hC
      rw [upd_upd] at hc1
      have hC1 : CSt (m_upd (m_upd μ 55 G) 1 A1) b n m (tkN b n m q) := ⟨hC.1, hC.2.1, (tkN_b hC.2.2.1).2.1, hA1.1, hA1.2.1, hA1.2.2.1⟩
      obtain ⟨_, _, _, a4, a5, a6⟩ := hA1
      have tnq : tkK b n m q = 2 → 0 ≤ tkV b n m q ∧ tkV b n m q ≤ 99 := fun z => (tk_num z).2
      refine rn_callP (k' := 41) (y := 69) (vs := [mR 1]) (S' := []) (v := none) (h' := mkh (m_upd (m_upd μ 55 G) 1 A1) c s) rfl rfl rfl (hc1) ?_
      show Rn PT none kX5_readRow 41 [some (mR 3), some (mR 54), some (mI ((le : Int))), some (mI ((mo : Int))), some (mI ((i9 : Int)))] [] (mkh (m_upd (m_upd μ 55 G) 1 A1) c s) _
      refine rn_aload_n (k' := 42) rfl rfl rfl ?_
      refine rn_getR (k' := 43) rfl rfl K0_3 (by decide) rfl R0_3_0 ?_
      refine rn_getI (k' := 44) rfl rfl K0_1 (by decide) rfl ?_
      show Rn PT none kX5_readRow 44 [some (mR 3), some (mR 54), some (mI ((le : Int))), some (mI ((mo : Int))), some (mI ((i9 : Int)))] [mI (A1 5)] (mkh (m_upd (m_upd μ 55 G) 1 A1) c s) _
      refine rn_iconst (k' := 45) rfl rfl ?_
      refine rn_icmp_ne (k' := 46) rfl rfl (fun hc2 => ?_) (fun hc2 => ?_)
      · skip
        refine rn_aload_n (k' := 80) rfl rfl rfl ?_
        refine rn_getR (k' := 81) rfl rfl K0_3 (by decide) rfl R0_3_0 ?_
        refine rn_getI (k' := 82) rfl rfl K0_1 (by decide) rfl ?_
        show Rn PT none kX5_readRow 82 [some (mR 3), some (mR 54), some (mI ((le : Int))), some (mI ((mo : Int))), some (mI ((i9 : Int)))] [mI (A1 5)] (mkh (m_upd (m_upd μ 55 G) 1 A1) c s) _
        refine rn_iconst (k' := 83) rfl rfl ?_
        refine rn_icmp_eq (k' := 84) rfl rfl (fun hc3 => ?_) (fun hc3 => ?_)
        · skip
          refine rn_iload (k' := 89) rfl rfl rfl ?_
          refine rn_iload_n (k' := 90) rfl rfl rfl ?_
          refine rn_icmp_ge (k' := 91) rfl rfl (fun hc4 => ?_) (fun hc4 => ?_)
          · exfalso; omega
          · skip
            refine rn_aload_n (k' := 92) rfl rfl rfl ?_
            refine rn_getR (k' := 93) rfl rfl K0_54 (by decide) rfl R0_54_0 ?_
            refine rn_bipush (k' := 94) rfl rfl ?_
            refine rn_aload_n (k' := 95) rfl rfl rfl ?_
            refine rn_getI (k' := 96) rfl rfl K0_54 (by decide) rfl ?_
            show Rn PT none kX5_readRow 96 [some (mR 3), some (mR 54), some (mI ((le : Int))), some (mI ((mo : Int))), some (mI ((i9 : Int)))] [mI (μ 54 9), mI (10), mR 55] (mkh (m_upd (m_upd μ 55 G) 1 A1) c s) _
            refine rn_imul (k' := 97) rfl rfl (by omega) ?_
            refine rn_iload (k' := 98) rfl rfl rfl ?_
            refine rn_iadd (k' := 99) rfl rfl (by omega) ?_
            refine rn_aload_n (k' := 100) rfl rfl rfl ?_
            refine rn_getR (k' := 101) rfl rfl K0_3 (by decide) rfl R0_3_0 ?_
            refine rn_getI (k' := 102) rfl rfl K0_1 (by decide) rfl ?_
            show Rn PT none kX5_readRow 102 [some (mR 3), some (mR 54), some (mI ((le : Int))), some (mI ((mo : Int))), some (mI ((i9 : Int)))] [mI (A1 6), mI ((10 * (μ 54 9)) + (i9 : Int)), mR 55] (mkh (m_upd (m_upd μ 55 G) 1 A1) c s) _
            refine rn_iastore (k' := 103) rfl rfl K0_55 (by omega) (by omega) ?_
            refine rn_iinc (k' := 104) (L' := [some (mR 3), some (mR 54), some (mI ((le : Int))), some (mI ((mo : Int))), some (mI ((i9 : Int) + 1))]) rfl rfl rfl (by omega) rfl ?_
            refine rn_goto rfl ?_
            have k2 : tkK b n m q = 2 := by omega
            rw [ro_s k2, rg_s k2]
            have hix : (10 * μ 54 9 + (i9 : Int)).toNat = 10 * y9 + i9 := by omega
            show Rn PT none kX5_readRow 35 [some (mR 3), some (mR 54), some (mI ((le : Int))), some (mI ((mo : Int))), some (mI ((i9 : Int) + 1))] [] (mkh (m_set (m_upd (m_upd μ 55 G) 1 A1) 55 (((10 * (μ 54 9)) + (i9 : Int)).toNat) (A1 6)) c s) _
            rw [show (m_set (m_upd (m_upd μ 55 G) 1 A1) 55 (((10 * (μ 54 9)) + (i9 : Int)).toNat) (A1 6)) = m_upd (m_upd μ 55 (fs G (10 * y9 + i9) (tkV b n m q))) 1 A1 by rw [hix, a6, set_upd_ne (by decide), set_upd_eq]]
            exact ih (i9 + 1) _ (tkN b n m q) A1 _ (by omega) (by omega) hC1 (fun z j => fs_bd (hG z j) (tnq k2))
        · skip
          refine rn_aload_n (k' := 85) rfl rfl rfl ?_
          refine rn_iconst (k' := 86) rfl rfl ?_
          refine rn_callP (k' := 87) (y := 45) (vs := [mR 3, mI (1)]) (S' := []) (v := some (mI (0))) (h' := mkh (m_set (m_upd (m_upd μ 55 G) 1 A1) 3 2 (1)) c s) rfl rfl rfl (g_fail (μ := (m_upd (m_upd μ 55 G) 1 A1)) (e := 1)) ?_
          show Rn PT none kX5_readRow 87 [some (mR 3), some (mR 54), some (mI ((le : Int))), some (mI ((mo : Int))), some (mI ((i9 : Int)))] [mI (0)] (mkh (m_set (m_upd (m_upd μ 55 G) 1 A1) 3 2 (1)) c s) _
          refine rn_iret rfl (Or.inr (by omega)) ?_
          rw [ro_1 (b := b) (q := q) (by omega) (by omega)]
          exact ⟨_, rfl, (CF.s (CF.u (CF.u55 CF.r hG) (by decide)) (by decide)), fun _ => ⟨rfl, a4⟩, fun z => absurd (show (1 : Int) = 0 from z) (by decide)⟩
      · skip
        refine rn_iload (k' := 47) rfl rfl rfl ?_
        refine rn_if_le (k' := 48) rfl rfl (fun hc5 => ?_) (fun hc5 => ?_)
        · skip
          refine rn_aload_n (k' := 80) rfl rfl rfl ?_
          refine rn_getR (k' := 81) rfl rfl K0_3 (by decide) rfl R0_3_0 ?_
          refine rn_getI (k' := 82) rfl rfl K0_1 (by decide) rfl ?_
          show Rn PT none kX5_readRow 82 [some (mR 3), some (mR 54), some (mI ((le : Int))), some (mI ((mo : Int))), some (mI ((i9 : Int)))] [mI (A1 5)] (mkh (m_upd (m_upd μ 55 G) 1 A1) c s) _
          refine rn_iconst (k' := 83) rfl rfl ?_
          refine rn_icmp_eq (k' := 84) rfl rfl (fun hc6 => ?_) (fun hc6 => ?_)
          · skip
            refine rn_iload (k' := 89) rfl rfl rfl ?_
            refine rn_iload_n (k' := 90) rfl rfl rfl ?_
            refine rn_icmp_ge (k' := 91) rfl rfl (fun hc7 => ?_) (fun hc7 => ?_)
            · exfalso; omega
            · skip
              refine rn_aload_n (k' := 92) rfl rfl rfl ?_
              refine rn_getR (k' := 93) rfl rfl K0_54 (by decide) rfl R0_54_0 ?_
              refine rn_bipush (k' := 94) rfl rfl ?_
              refine rn_aload_n (k' := 95) rfl rfl rfl ?_
              refine rn_getI (k' := 96) rfl rfl K0_54 (by decide) rfl ?_
              show Rn PT none kX5_readRow 96 [some (mR 3), some (mR 54), some (mI ((le : Int))), some (mI ((mo : Int))), some (mI ((i9 : Int)))] [mI (μ 54 9), mI (10), mR 55] (mkh (m_upd (m_upd μ 55 G) 1 A1) c s) _
              refine rn_imul (k' := 97) rfl rfl (by omega) ?_
              refine rn_iload (k' := 98) rfl rfl rfl ?_
              refine rn_iadd (k' := 99) rfl rfl (by omega) ?_
              refine rn_aload_n (k' := 100) rfl rfl rfl ?_
              refine rn_getR (k' := 101) rfl rfl K0_3 (by decide) rfl R0_3_0 ?_
              refine rn_getI (k' := 102) rfl rfl K0_1 (by decide) rfl ?_
              show Rn PT none kX5_readRow 102 [some (mR 3), some (mR 54), some (mI ((le : Int))), some (mI ((mo : Int))), some (mI ((i9 : Int)))] [mI (A1 6), mI ((10 * (μ 54 9)) + (i9 : Int)), mR 55] (mkh (m_upd (m_upd μ 55 G) 1 A1) c s) _
              refine rn_iastore (k' := 103) rfl rfl K0_55 (by omega) (by omega) ?_
              refine rn_iinc (k' := 104) (L' := [some (mR 3), some (mR 54), some (mI ((le : Int))), some (mI ((mo : Int))), some (mI ((i9 : Int) + 1))]) rfl rfl rfl (by omega) rfl ?_
              refine rn_goto rfl ?_
              have k2 : tkK b n m q = 2 := by omega
              rw [ro_s k2, rg_s k2]
              have hix : (10 * μ 54 9 + (i9 : Int)).toNat = 10 * y9 + i9 := by omega
              show Rn PT none kX5_readRow 35 [some (mR 3), some (mR 54), some (mI ((le : Int))), some (mI ((mo : Int))), some (mI ((i9 : Int) + 1))] [] (mkh (m_set (m_upd (m_upd μ 55 G) 1 A1) 55 (((10 * (μ 54 9)) + (i9 : Int)).toNat) (A1 6)) c s) _
              rw [show (m_set (m_upd (m_upd μ 55 G) 1 A1) 55 (((10 * (μ 54 9)) + (i9 : Int)).toNat) (A1 6)) = m_upd (m_upd μ 55 (fs G (10 * y9 + i9) (tkV b n m q))) 1 A1 by rw [hix, a6, set_upd_ne (by decide), set_upd_eq]]
              exact ih (i9 + 1) _ (tkN b n m q) A1 _ (by omega) (by omega) hC1 (fun z j => fs_bd (hG z j) (tnq k2))
          · skip
            refine rn_aload_n (k' := 85) rfl rfl rfl ?_
            refine rn_iconst (k' := 86) rfl rfl ?_
            refine rn_callP (k' := 87) (y := 45) (vs := [mR 3, mI (1)]) (S' := []) (v := some (mI (0))) (h' := mkh (m_set (m_upd (m_upd μ 55 G) 1 A1) 3 2 (1)) c s) rfl rfl rfl (g_fail (μ := (m_upd (m_upd μ 55 G) 1 A1)) (e := 1)) ?_
            show Rn PT none kX5_readRow 87 [some (mR 3), some (mR 54), some (mI ((le : Int))), some (mI ((mo : Int))), some (mI ((i9 : Int)))] [mI (0)] (mkh (m_set (m_upd (m_upd μ 55 G) 1 A1) 3 2 (1)) c s) _
            refine rn_iret rfl (Or.inr (by omega)) ?_
            rw [ro_1 (b := b) (q := q) (by omega) (by omega)]
            exact ⟨_, rfl, (CF.s (CF.u (CF.u55 CF.r hG) (by decide)) (by decide)), fun _ => ⟨rfl, a4⟩, fun z => absurd (show (1 : Int) = 0 from z) (by decide)⟩
        · skip
          refine rn_aload_n (k' := 49) rfl rfl rfl ?_
          refine rn_iload (k' := 50) rfl rfl rfl ?_
          refine rn_iload_n (k' := 51) rfl rfl rfl ?_
          refine rn_icmp_lt (k' := 52) rfl rfl (fun hc8 => ?_) (fun hc8 => ?_)
          · skip
            refine rn_aload_n (k' := 55) rfl rfl rfl ?_
            refine rn_getI (k' := 56) rfl rfl K0_54 (by decide) rfl ?_
            show Rn PT none kX5_readRow 56 [some (mR 3), some (mR 54), some (mI ((le : Int))), some (mI ((mo : Int))), some (mI ((i9 : Int)))] [mI (μ 54 8), mR 54] (mkh (m_upd (m_upd μ 55 G) 1 A1) c s) _
            refine rn_putI (k' := 57) rfl rfl K0_54 (by decide) rfl ?_
            refine rn_aload_n (k' := 58) rfl rfl rfl ?_
            refine rn_dupR (k' := 59) rfl rfl ?_
            refine rn_getI (k' := 60) rfl rfl K0_54 (by decide) rfl ?_
            show Rn PT none kX5_readRow 60 [some (mR 3), some (mR 54), some (mI ((le : Int))), some (mI ((mo : Int))), some (mI ((i9 : Int)))] [mI (μ 54 9), mR 54] (mkh (m_set (m_upd (m_upd μ 55 G) 1 A1) 54 8 (μ 54 8)) c s) _
            refine rn_iload (k' := 61) rfl rfl rfl ?_
            refine rn_iload_n (k' := 62) rfl rfl rfl ?_
            refine rn_icmp_lt (k' := 63) rfl rfl (fun hc10 => ?_) (fun hc10 => ?_)
            · skip
              refine rn_iconst (k' := 66) rfl rfl ?_
              refine rn_iadd (k' := 67) rfl rfl (by omega) ?_
              refine rn_putI (k' := 68) rfl rfl K0_54 (by decide) rfl ?_
              refine rn_iload (k' := 69) rfl rfl rfl ?_
              refine rn_iload_n (k' := 70) rfl rfl rfl ?_
              refine rn_icmp_ge (k' := 71) rfl rfl (fun hc12 => ?_) (fun hc12 => ?_)
              · skip
                refine rn_iconst (k' := 76) rfl rfl ?_
                refine rn_goto rfl ?_
                refine rn_iret rfl (Or.inr (by omega)) ?_
                exfalso; omega
              · skip
                refine rn_aload_n (k' := 72) rfl rfl rfl ?_
                refine rn_iconst (k' := 73) rfl rfl ?_
                refine rn_callP (k' := 74) (y := 45) (vs := [mR 3, mI (4)]) (S' := []) (v := some (mI (0))) (h' := mkh (m_set (m_set (m_set (m_upd (m_upd μ 55 G) 1 A1) 54 8 (μ 54 8)) 54 9 ((μ 54 9) + 0)) 3 2 (4)) c s) rfl rfl rfl (g_fail (μ := (m_set (m_set (m_upd (m_upd μ 55 G) 1 A1) 54 8 (μ 54 8)) 54 9 ((μ 54 9) + 0))) (e := 4)) ?_
                show Rn PT none kX5_readRow 74 [some (mR 3), some (mR 54), some (mI ((le : Int))), some (mI ((mo : Int))), some (mI ((i9 : Int)))] [mI (0)] (mkh (m_set (m_set (m_set (m_upd (m_upd μ 55 G) 1 A1) 54 8 (μ 54 8)) 54 9 ((μ 54 9) + 0)) 3 2 (4)) c s) _
                refine rn_if_eq (k' := 75) rfl rfl (fun hc13 => ?_) (fun hc13 => ?_)
                · skip
                  refine rn_iconst (k' := 78) rfl rfl ?_
                  refine rn_iret rfl (Or.inr (by omega)) ?_
                  rw [ro_4 (b := b) (q := q) (by omega) (by omega) (by omega)]
                  exact ⟨_, rfl, (CF.s (CF.s (CF.s (CF.u (CF.u55 CF.r hG) (by decide)) (by decide)) (by decide)) (by decide)), fun _ => ⟨rfl, a4⟩, fun z => absurd (show (4 : Int) = 0 from z) (by decide)⟩
                · exfalso; omega
            · skip
              refine rn_iconst (k' := 64) rfl rfl ?_
              refine rn_goto rfl ?_
              refine rn_iadd (k' := 67) rfl rfl (by omega) ?_
              refine rn_putI (k' := 68) rfl rfl K0_54 (by decide) rfl ?_
              refine rn_iload (k' := 69) rfl rfl rfl ?_
              refine rn_iload_n (k' := 70) rfl rfl rfl ?_
              refine rn_icmp_ge (k' := 71) rfl rfl (fun hc15 => ?_) (fun hc15 => ?_)
              · skip
                refine rn_iconst (k' := 76) rfl rfl ?_
                refine rn_goto rfl ?_
                refine rn_iret rfl (Or.inr (by omega)) ?_
                exfalso; omega
              · skip
                refine rn_aload_n (k' := 72) rfl rfl rfl ?_
                refine rn_iconst (k' := 73) rfl rfl ?_
                refine rn_callP (k' := 74) (y := 45) (vs := [mR 3, mI (4)]) (S' := []) (v := some (mI (0))) (h' := mkh (m_set (m_set (m_set (m_upd (m_upd μ 55 G) 1 A1) 54 8 (μ 54 8)) 54 9 ((μ 54 9) + 1)) 3 2 (4)) c s) rfl rfl rfl (g_fail (μ := (m_set (m_set (m_upd (m_upd μ 55 G) 1 A1) 54 8 (μ 54 8)) 54 9 ((μ 54 9) + 1))) (e := 4)) ?_
                show Rn PT none kX5_readRow 74 [some (mR 3), some (mR 54), some (mI ((le : Int))), some (mI ((mo : Int))), some (mI ((i9 : Int)))] [mI (0)] (mkh (m_set (m_set (m_set (m_upd (m_upd μ 55 G) 1 A1) 54 8 (μ 54 8)) 54 9 ((μ 54 9) + 1)) 3 2 (4)) c s) _
                refine rn_if_eq (k' := 75) rfl rfl (fun hc16 => ?_) (fun hc16 => ?_)
                · skip
                  refine rn_iconst (k' := 78) rfl rfl ?_
                  refine rn_iret rfl (Or.inr (by omega)) ?_
                  exfalso; omega
                · exfalso; omega
          · skip
            refine rn_iload (k' := 53) rfl rfl rfl ?_
            refine rn_goto rfl ?_
            refine rn_putI (k' := 57) rfl rfl K0_54 (by decide) rfl ?_
            refine rn_aload_n (k' := 58) rfl rfl rfl ?_
            refine rn_dupR (k' := 59) rfl rfl ?_
            refine rn_getI (k' := 60) rfl rfl K0_54 (by decide) rfl ?_
            show Rn PT none kX5_readRow 60 [some (mR 3), some (mR 54), some (mI ((le : Int))), some (mI ((mo : Int))), some (mI ((i9 : Int)))] [mI (μ 54 9), mR 54] (mkh (m_set (m_upd (m_upd μ 55 G) 1 A1) 54 8 ((i9 : Int))) c s) _
            refine rn_iload (k' := 61) rfl rfl rfl ?_
            refine rn_iload_n (k' := 62) rfl rfl rfl ?_
            refine rn_icmp_lt (k' := 63) rfl rfl (fun hc18 => ?_) (fun hc18 => ?_)
            · skip
              refine rn_iconst (k' := 66) rfl rfl ?_
              refine rn_iadd (k' := 67) rfl rfl (by omega) ?_
              refine rn_putI (k' := 68) rfl rfl K0_54 (by decide) rfl ?_
              refine rn_iload (k' := 69) rfl rfl rfl ?_
              refine rn_iload_n (k' := 70) rfl rfl rfl ?_
              refine rn_icmp_ge (k' := 71) rfl rfl (fun hc20 => ?_) (fun hc20 => ?_)
              · skip
                refine rn_iconst (k' := 76) rfl rfl ?_
                refine rn_goto rfl ?_
                refine rn_iret rfl (Or.inr (by omega)) ?_
                exfalso; omega
              · skip
                refine rn_aload_n (k' := 72) rfl rfl rfl ?_
                refine rn_iconst (k' := 73) rfl rfl ?_
                refine rn_callP (k' := 74) (y := 45) (vs := [mR 3, mI (4)]) (S' := []) (v := some (mI (0))) (h' := mkh (m_set (m_set (m_set (m_upd (m_upd μ 55 G) 1 A1) 54 8 ((i9 : Int))) 54 9 ((μ 54 9) + 0)) 3 2 (4)) c s) rfl rfl rfl (g_fail (μ := (m_set (m_set (m_upd (m_upd μ 55 G) 1 A1) 54 8 ((i9 : Int))) 54 9 ((μ 54 9) + 0))) (e := 4)) ?_
                show Rn PT none kX5_readRow 74 [some (mR 3), some (mR 54), some (mI ((le : Int))), some (mI ((mo : Int))), some (mI ((i9 : Int)))] [mI (0)] (mkh (m_set (m_set (m_set (m_upd (m_upd μ 55 G) 1 A1) 54 8 ((i9 : Int))) 54 9 ((μ 54 9) + 0)) 3 2 (4)) c s) _
                refine rn_if_eq (k' := 75) rfl rfl (fun hc21 => ?_) (fun hc21 => ?_)
                · skip
                  refine rn_iconst (k' := 78) rfl rfl ?_
                  refine rn_iret rfl (Or.inr (by omega)) ?_
                  exfalso; omega
                · exfalso; omega
            · skip
              refine rn_iconst (k' := 64) rfl rfl ?_
              refine rn_goto rfl ?_
              refine rn_iadd (k' := 67) rfl rfl (by omega) ?_
              refine rn_putI (k' := 68) rfl rfl K0_54 (by decide) rfl ?_
              refine rn_iload (k' := 69) rfl rfl rfl ?_
              refine rn_iload_n (k' := 70) rfl rfl rfl ?_
              refine rn_icmp_ge (k' := 71) rfl rfl (fun hc23 => ?_) (fun hc23 => ?_)
              · skip
                refine rn_iconst (k' := 76) rfl rfl ?_
                refine rn_goto rfl ?_
                refine rn_iret rfl (Or.inr (by omega)) ?_
                rw [ro_0 (b := b) (q := q) (by omega) (by omega) (by omega), rg_n (b := b) (q := q) (by omega)]
                refine ⟨_, rfl, (CF.s (CF.s (CF.u (CF.u55 CF.r hG) (by decide)) (by decide)) (by decide)), fun z => absurd rfl z, fun _ => ⟨hC1, rfl, rfl, rfl, (fun j h8 h9 => by simp [m_set, m_upd, h8, h9]), rfl, rfl, rfl, rfl, rfl, rfl, rfl⟩⟩
              · skip
                refine rn_aload_n (k' := 72) rfl rfl rfl ?_
                refine rn_iconst (k' := 73) rfl rfl ?_
                refine rn_callP (k' := 74) (y := 45) (vs := [mR 3, mI (4)]) (S' := []) (v := some (mI (0))) (h' := mkh (m_set (m_set (m_set (m_upd (m_upd μ 55 G) 1 A1) 54 8 ((i9 : Int))) 54 9 ((μ 54 9) + 1)) 3 2 (4)) c s) rfl rfl rfl (g_fail (μ := (m_set (m_set (m_upd (m_upd μ 55 G) 1 A1) 54 8 ((i9 : Int))) 54 9 ((μ 54 9) + 1))) (e := 4)) ?_
                show Rn PT none kX5_readRow 74 [some (mR 3), some (mR 54), some (mI ((le : Int))), some (mI ((mo : Int))), some (mI ((i9 : Int)))] [mI (0)] (mkh (m_set (m_set (m_set (m_upd (m_upd μ 55 G) 1 A1) 54 8 ((i9 : Int))) 54 9 ((μ 54 9) + 1)) 3 2 (4)) c s) _
                refine rn_if_eq (k' := 75) rfl rfl (fun hc24 => ?_) (fun hc24 => ?_)
                · skip
                  refine rn_iconst (k' := 78) rfl rfl ?_
                  refine rn_iret rfl (Or.inr (by omega)) ?_
                  exfalso; omega
                · exfalso; omega
