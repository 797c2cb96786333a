variable {N : Int}
/-! ===== printed by wip/whole/gen9h.py: the lines of a moor, one after another ===== -/
theorem kr_end {μ : Nat → Nat → Int} {c s : Nat} {A : Nat → Int} {i : Int} (hi : 0 ≤ i ∧ i ≤ 900) (hT : Cl PT 69 [mR 1] (mkh μ c s) (fun r => r = (some none, mkh (m_upd μ 1 A) c s))) (h5 : A 5 = 4) : Rn PT none kX5_readMoor 11 [some (mR 3), some (mR 54), some (mI (i))] [] (mkh μ c s) (fun r => r = (some (some (mI (μ 54 7))), mkh (m_upd μ 1 A) c s)) := by
  refine rn_iload_n (k' := 12) rfl rfl rfl ?_
  refine rn_sipush (k' := 13) rfl rfl ?_
  refine rn_icmp_gt (k' := 14) rfl rfl (fun hc1 => ?_) (fun hc1 => ?_)
  · exfalso; omega
  · skip
    refine rn_aload_n (k' := 15) rfl rfl rfl ?_
    refine rn_getR (k' := 16) rfl rfl K0_3 (by decide) rfl R0_3_0 ?_
    refine rn_callP (k' := 17) (y := 69) (vs := [mR 1]) (S' := []) (v := none) (h' := mkh (m_upd μ 1 A) c s) rfl rfl rfl (hT) ?_
    show Rn PT none kX5_readMoor 17 [some (mR 3), some (mR 54), some (mI (i))] [] (mkh (m_upd μ 1 A) c s) _
    refine rn_aload_n (k' := 18) rfl rfl rfl ?_
    refine rn_getR (k' := 19) rfl rfl K0_3 (by decide) rfl R0_3_0 ?_
    refine rn_getI (k' := 20) rfl rfl K0_1 (by decide) rfl ?_
    show Rn PT none kX5_readMoor 20 [some (mR 3), some (mR 54), some (mI (i))] [mI (A 5)] (mkh (m_upd μ 1 A) c s) _
    refine rn_iconst (k' := 21) rfl rfl ?_
    refine rn_icmp_ne (k' := 22) rfl rfl (fun hc2 => ?_) (fun hc2 => ?_)
    · exfalso; omega
    · skip
      refine rn_aload_n (k' := 23) rfl rfl rfl ?_
      refine rn_getI (k' := 24) rfl rfl K0_54 (by decide) rfl ?_
      show Rn PT none kX5_readMoor 24 [some (mR 3), some (mR 54), some (mI (i))] [mI (μ 54 7)] (mkh (m_upd μ 1 A) c s) _
      refine rn_iret rfl (Or.inl rfl) ?_
      rfl
theorem kr_bad {μ : Nat → Nat → Int} {c s : Nat} {A : Nat → Int} {i : Int} (hi : 0 ≤ i ∧ i ≤ 900) (hT : Cl PT 69 [mR 1] (mkh μ c s) (fun r => r = (some none, mkh (m_upd μ 1 A) c s))) (h5 : ¬ A 5 = 4) {μ2 : Nat → Nat → Int} (hL : Cl PT 51 [mR 3, mR 54] (mkh (m_upd μ 1 A) c s) (fun r => r = (some (some (mI 0)), mkh μ2 c s))) (hp : 0 ≤ μ2 1 4 ∧ μ2 1 4 ≤ 940) : Rn PT none kX5_readMoor 11 [some (mR 3), some (mR 54), some (mI (i))] [] (mkh μ c s) (fun r => r = (some (some (mI (-1 - μ2 1 4))), mkh μ2 c s)) := by
  refine rn_iload_n (k' := 12) rfl rfl rfl ?_
  refine rn_sipush (k' := 13) rfl rfl ?_
  refine rn_icmp_gt (k' := 14) rfl rfl (fun hc1 => ?_) (fun hc1 => ?_)
  · exfalso; omega
  · skip
    refine rn_aload_n (k' := 15) rfl rfl rfl ?_
    refine rn_getR (k' := 16) rfl rfl K0_3 (by decide) rfl R0_3_0 ?_
    refine rn_callP (k' := 17) (y := 69) (vs := [mR 1]) (S' := []) (v := none) (h' := mkh (m_upd μ 1 A) c s) rfl rfl rfl (hT) ?_
    show Rn PT none kX5_readMoor 17 [some (mR 3), some (mR 54), some (mI (i))] [] (mkh (m_upd μ 1 A) c s) _
    refine rn_aload_n (k' := 18) rfl rfl rfl ?_
    refine rn_getR (k' := 19) rfl rfl K0_3 (by decide) rfl R0_3_0 ?_
    refine rn_getI (k' := 20) rfl rfl K0_1 (by decide) rfl ?_
    show Rn PT none kX5_readMoor 20 [some (mR 3), some (mR 54), some (mI (i))] [mI (A 5)] (mkh (m_upd μ 1 A) c s) _
    refine rn_iconst (k' := 21) rfl rfl ?_
    refine rn_icmp_ne (k' := 22) rfl rfl (fun hc2 => ?_) (fun hc2 => ?_)
    · skip
      refine rn_aload_n (k' := 26) rfl rfl rfl ?_
      refine rn_aload_n (k' := 27) rfl rfl rfl ?_
      refine rn_callP (k' := 28) (y := 51) (vs := [mR 3, mR 54]) (S' := []) (v := some (mI (0))) (h' := mkh μ2 c s) rfl rfl rfl (hL) ?_
      show Rn PT none kX5_readMoor 28 [some (mR 3), some (mR 54), some (mI (i))] [mI (0)] (mkh μ2 c s) _
      refine rn_if_ne (k' := 29) rfl rfl (fun hc3 => ?_) (fun hc3 => ?_)
      · exfalso; omega
      · skip
        refine rn_goto rfl ?_
        refine rn_iconst (k' := 39) rfl rfl ?_
        refine rn_aload_n (k' := 40) rfl rfl rfl ?_
        refine rn_getR (k' := 41) rfl rfl K0_3 (by decide) rfl R0_3_0 ?_
        refine rn_getI (k' := 42) rfl rfl K0_1 (by decide) rfl ?_
        refine rn_isub (k' := 43) rfl rfl (by omega) ?_
        refine rn_iret rfl (Or.inl rfl) ?_
        rfl
    · exfalso; omega
theorem kr_ok {μ : Nat → Nat → Int} {c s : Nat} {A : Nat → Int} {i : Int} (hi : 0 ≤ i ∧ i ≤ 900) (hT : Cl PT 69 [mR 1] (mkh μ c s) (fun r => r = (some none, mkh (m_upd μ 1 A) c s))) (h5 : ¬ A 5 = 4) {μ2 : Nat → Nat → Int} (hL : Cl PT 51 [mR 3, mR 54] (mkh (m_upd μ 1 A) c s) (fun r => r = (some (some (mI 1)), mkh μ2 c s))) (h7 : 0 ≤ μ2 54 7 ∧ μ2 54 7 ≤ 900) {Q : MR → Prop} (K : Rn PT none kX5_readMoor 11 [some (mR 3), some (mR 54), some (mI (i + 1))] [] (mkh (m_set μ2 54 7 (μ2 54 7 + 1)) c s) Q) : Rn PT none kX5_readMoor 11 [some (mR 3), some (mR 54), some (mI (i))] [] (mkh μ c s) Q := by
  refine rn_iload_n (k' := 12) rfl rfl rfl ?_
  refine rn_sipush (k' := 13) rfl rfl ?_
  refine rn_icmp_gt (k' := 14) rfl rfl (fun hc1 => ?_) (fun hc1 => ?_)
  · exfalso; omega
  · skip
    refine rn_aload_n (k' := 15) rfl rfl rfl ?_
    refine rn_getR (k' := 16) rfl rfl K0_3 (by decide) rfl R0_3_0 ?_
    refine rn_callP (k' := 17) (y := 69) (vs := [mR 1]) (S' := []) (v := none) (h' := mkh (m_upd μ 1 A) c s) rfl rfl rfl (hT) ?_
    show Rn PT none kX5_readMoor 17 [some (mR 3), some (mR 54), some (mI (i))] [] (mkh (m_upd μ 1 A) c s) _
    refine rn_aload_n (k' := 18) rfl rfl rfl ?_
    refine rn_getR (k' := 19) rfl rfl K0_3 (by decide) rfl R0_3_0 ?_
    refine rn_getI (k' := 20) rfl rfl K0_1 (by decide) rfl ?_
    show Rn PT none kX5_readMoor 20 [some (mR 3), some (mR 54), some (mI (i))] [mI (A 5)] (mkh (m_upd μ 1 A) c s) _
    refine rn_iconst (k' := 21) rfl rfl ?_
    refine rn_icmp_ne (k' := 22) rfl rfl (fun hc2 => ?_) (fun hc2 => ?_)
    · skip
      refine rn_aload_n (k' := 26) rfl rfl rfl ?_
      refine rn_aload_n (k' := 27) rfl rfl rfl ?_
      refine rn_callP (k' := 28) (y := 51) (vs := [mR 3, mR 54]) (S' := []) (v := some (mI (1))) (h' := mkh μ2 c s) rfl rfl rfl (hL) ?_
      show Rn PT none kX5_readMoor 28 [some (mR 3), some (mR 54), some (mI (i))] [mI (1)] (mkh μ2 c s) _
      refine rn_if_ne (k' := 29) rfl rfl (fun hc3 => ?_) (fun hc3 => ?_)
      · skip
        refine rn_aload_n (k' := 31) rfl rfl rfl ?_
        refine rn_dupR (k' := 32) rfl rfl ?_
        refine rn_getI (k' := 33) rfl rfl K0_54 (by decide) rfl ?_
        refine rn_iconst (k' := 34) rfl rfl ?_
        refine rn_iadd (k' := 35) rfl rfl (by omega) ?_
        refine rn_putI (k' := 36) rfl rfl K0_54 (by decide) rfl ?_
        refine rn_iinc (k' := 37) (L' := [some (mR 3), some (mR 54), some (mI (i + 1))]) rfl rfl rfl (by omega) rfl ?_
        refine rn_goto rfl ?_
        exact K
      · exfalso; omega
    · exfalso; omega
theorem mr_end {μ : Nat → Nat → Int} {c s : Nat} (h11 : μ 118 11 = 0) {Q : MR → Prop} (K : Rn PT none kX12_moor 64 [some (mR 118), some (mI (517))] [] (mkh μ c s) Q) : Rn PT none kX12_moor 42 [some (mR 118), some (mI (517))] [] (mkh μ c s) Q := by
  refine rn_aload_n (k' := 43) rfl rfl rfl ?_
  refine rn_getI (k' := 44) rfl rfl K0_118 (by decide) rfl ?_
  refine rn_if_eq (k' := 45) rfl rfl (fun hc1 => ?_) (fun hc1 => ?_)
  · skip
    exact K
  · exfalso; omega
theorem mr_bad {μ : Nat → Nat → Int} {c s : Nat} (h11 : ¬ μ 118 11 = 0) {μ2 : Nat → Nat → Int} (hL : Cl PT 183 [mR 118] (mkh μ c s) (fun r => r = (some (some (mI 0)), mkh μ2 c s))) (hp : 0 ≤ μ2 118 16 ∧ μ2 118 16 ≤ 940) : Rn PT none kX12_moor 42 [some (mR 118), some (mI (517))] [] (mkh μ c s) (fun r => r = (some (some (mI (-1 - μ2 118 16))), mkh μ2 c s)) := by
  refine rn_aload_n (k' := 43) rfl rfl rfl ?_
  refine rn_getI (k' := 44) rfl rfl K0_118 (by decide) rfl ?_
  refine rn_if_eq (k' := 45) rfl rfl (fun hc1 => ?_) (fun hc1 => ?_)
  · exfalso; omega
  · skip
    refine rn_aload_n (k' := 46) rfl rfl rfl ?_
    refine rn_callP (k' := 47) (y := 183) (vs := [mR 118]) (S' := []) (v := some (mI (0))) (h' := mkh μ2 c s) rfl rfl rfl (hL) ?_
    show Rn PT none kX12_moor 47 [some (mR 118), some (mI (517))] [mI (0)] (mkh μ2 c s) _
    refine rn_if_eq (k' := 48) rfl rfl (fun hc2 => ?_) (fun hc2 => ?_)
    · skip
      refine rn_iconst (k' := 53) rfl rfl ?_
      refine rn_aload_n (k' := 54) rfl rfl rfl ?_
      refine rn_getI (k' := 55) rfl rfl K0_118 (by decide) rfl ?_
      refine rn_isub (k' := 56) rfl rfl (by omega) ?_
      refine rn_iret rfl (Or.inl rfl) ?_
      rfl
    · exfalso; omega
theorem mr_sgn {μ : Nat → Nat → Int} {c s : Nat} (h11 : ¬ μ 118 11 = 0) {μ2 : Nat → Nat → Int} (hL : Cl PT 183 [mR 118] (mkh μ c s) (fun r => r = (some (some (mI 1)), mkh μ2 c s))) {μ3 : Nat → Nat → Int} (hS : Cl PT 179 [mR 118, mI 59] (mkh μ2 c s) (fun r => r = (some (some (mI 0)), mkh μ3 c s))) (hp : 0 ≤ μ3 118 16 ∧ μ3 118 16 ≤ 940) : Rn PT none kX12_moor 42 [some (mR 118), some (mI (517))] [] (mkh μ c s) (fun r => r = (some (some (mI (-1 - μ3 118 16))), mkh μ3 c s)) := by
  refine rn_aload_n (k' := 43) rfl rfl rfl ?_
  refine rn_getI (k' := 44) rfl rfl K0_118 (by decide) rfl ?_
  refine rn_if_eq (k' := 45) rfl rfl (fun hc1 => ?_) (fun hc1 => ?_)
  · exfalso; omega
  · skip
    refine rn_aload_n (k' := 46) rfl rfl rfl ?_
    refine rn_callP (k' := 47) (y := 183) (vs := [mR 118]) (S' := []) (v := some (mI (1))) (h' := mkh μ2 c s) rfl rfl rfl (hL) ?_
    show Rn PT none kX12_moor 47 [some (mR 118), some (mI (517))] [mI (1)] (mkh μ2 c s) _
    refine rn_if_eq (k' := 48) rfl rfl (fun hc2 => ?_) (fun hc2 => ?_)
    · exfalso; omega
    · skip
      refine rn_aload_n (k' := 49) rfl rfl rfl ?_
      refine rn_bipush (k' := 50) rfl rfl ?_
      refine rn_callP (k' := 51) (y := 179) (vs := [mR 118, mI (59)]) (S' := []) (v := some (mI (0))) (h' := mkh μ3 c s) rfl rfl rfl (hS) ?_
      show Rn PT none kX12_moor 51 [some (mR 118), some (mI (517))] [mI (0)] (mkh μ3 c s) _
      refine rn_if_ne (k' := 52) rfl rfl (fun hc3 => ?_) (fun hc3 => ?_)
      · exfalso; omega
      · skip
        refine rn_iconst (k' := 53) rfl rfl ?_
        refine rn_aload_n (k' := 54) rfl rfl rfl ?_
        refine rn_getI (k' := 55) rfl rfl K0_118 (by decide) rfl ?_
        refine rn_isub (k' := 56) rfl rfl (by omega) ?_
        refine rn_iret rfl (Or.inl rfl) ?_
        rfl
theorem mr_ok {μ : Nat → Nat → Int} {c s : Nat} (h11 : ¬ μ 118 11 = 0) {μ2 : Nat → Nat → Int} (hL : Cl PT 183 [mR 118] (mkh μ c s) (fun r => r = (some (some (mI 1)), mkh μ2 c s))) {μ3 : Nat → Nat → Int} (hS : Cl PT 179 [mR 118, mI 59] (mkh μ2 c s) (fun r => r = (some (some (mI 1)), mkh μ3 c s))) (h7 : 0 ≤ μ3 118 19 ∧ μ3 118 19 ≤ 900) {Q : MR → Prop} (K : Rn PT none kX12_moor 42 [some (mR 118), some (mI (517))] [] (mkh (m_set μ3 118 19 (μ3 118 19 + 1)) c s) Q) : Rn PT none kX12_moor 42 [some (mR 118), some (mI (517))] [] (mkh μ c s) Q := by
  refine rn_aload_n (k' := 43) rfl rfl rfl ?_
  refine rn_getI (k' := 44) rfl rfl K0_118 (by decide) rfl ?_
  refine rn_if_eq (k' := 45) rfl rfl (fun hc1 => ?_) (fun hc1 => ?_)
  · exfalso; omega
  · skip
    refine rn_aload_n (k' := 46) rfl rfl rfl ?_
    refine rn_callP (k' := 47) (y := 183) (vs := [mR 118]) (S' := []) (v := some (mI (1))) (h' := mkh μ2 c s) rfl rfl rfl (hL) ?_
    show Rn PT none kX12_moor 47 [some (mR 118), some (mI (517))] [mI (1)] (mkh μ2 c s) _
    refine rn_if_eq (k' := 48) rfl rfl (fun hc2 => ?_) (fun hc2 => ?_)
    · exfalso; omega
    · skip
      refine rn_aload_n (k' := 49) rfl rfl rfl ?_
      refine rn_bipush (k' := 50) rfl rfl ?_
      refine rn_callP (k' := 51) (y := 179) (vs := [mR 118, mI (59)]) (S' := []) (v := some (mI (1))) (h' := mkh μ3 c s) rfl rfl rfl (hS) ?_
      show Rn PT none kX12_moor 51 [some (mR 118), some (mI (517))] [mI (1)] (mkh μ3 c s) _
      refine rn_if_ne (k' := 52) rfl rfl (fun hc3 => ?_) (fun hc3 => ?_)
      · skip
        refine rn_aload_n (k' := 58) rfl rfl rfl ?_
        refine rn_dupR (k' := 59) rfl rfl ?_
        refine rn_getI (k' := 60) rfl rfl K0_118 (by decide) rfl ?_
        refine rn_iconst (k' := 61) rfl rfl ?_
        refine rn_iadd (k' := 62) rfl rfl (by omega) ?_
        refine rn_putI (k' := 63) rfl rfl K0_118 (by decide) rfl ?_
        refine rn_goto rfl ?_
        exact K
      · exfalso; omega
/-- the model's frame over many lines -/
def MFq (ν ν' : Nat → Nat → Int) : Prop := (∀ r, ¬ r = 118 → ¬ r = 121 → ¬ r = 123 → ν' r = ν r) ∧ (∀ j, (22 ≤ j ∨ j ≤ 3) → ν' 118 j = ν 118 j) ∧ (∀ j, j < 8 → ν' 123 j = ν 123 j)
theorem MFr.q {ν ν' : Nat → Nat → Int} (h : MFr ν ν') : MFq ν ν' := ⟨h.1, fun j hj => h.2.1 j (by omega), h.2.2⟩
theorem MFq.trans {a b d : Nat → Nat → Int} (h : MFq a b) (h2 : MFq b d) : MFq a d := ⟨fun r z1 z2 z3 => (h2.1 r z1 z2 z3).trans (h.1 r z1 z2 z3), fun j hj => (h2.2.1 j hj).trans (h.2.1 j hj), fun j hj => (h2.2.2 j hj).trans (h.2.2 j hj)⟩
theorem MFq.s {a b : Nat → Nat → Int} {i : Nat} {v : Int} (h : MFq a b) (hi : ¬ (22 ≤ i ∨ i ≤ 3)) : MFq a (m_set b 118 i v) := ⟨fun r z1 z2 z3 => by
  refine Eq.trans ?_ (h.1 r z1 z2 z3)
  funext j
  exact if_neg (fun z => z1 z.1), fun j hj => (set_mis (show ¬ j = i from fun z => hi (z ▸ hj))).trans (h.2.1 j hj), fun j hj => (show m_set b 118 i v 123 j = b 123 j from if_neg (fun z => absurd z.1 (by decide))).trans (h.2.2 j hj)⟩
theorem MFq.u {a b : Nat → Nat → Int} {H : Nat → Int} (h : MFq a b) (hf : FRn H (b 118)) : MFq a (m_upd b 118 H) := ⟨fun r z1 z2 z3 => by
  refine Eq.trans ?_ (h.1 r z1 z2 z3)
  funext j
  exact if_neg z1, fun j hj => (hf j (by omega) (by omega) (by omega) (by omega) (by omega) (by omega)).trans (h.2.1 j hj), fun j hj => (show m_upd b 118 H 123 j = b 123 j from if_neg (by decide)).trans (h.2.2 j hj)⟩
theorem CF.trans {a b d : Nat → Nat → Int} (h : CF a b) (h2 : CF b d) : CF a d := ⟨fun r z1 z2 z3 => (h2.1 r z1 z2 z3).trans (h.1 r z1 z2 z3), fun z => h2.2 (h.2 z)⟩
theorem RelL.tok {σ ν : Nat → Nat → Int} {A : Nat → Int} {d : Int} (h : RelL σ ν d) : RelL (m_upd σ 1 A) ν d := h
/-- a line more -/
theorem RelL.more {σ ν : Nat → Nat → Int} {H : Nat → Int} (h : RelL σ ν 1) (hf : FRn H (ν 118)) : RelL (m_set σ 54 7 (σ 54 7 + 1)) (m_set (m_upd ν 118 H) 118 19 (H 19 + 1)) 0 := by
  obtain ⟨⟨n1, n2, n3, n4, n5, n6, n7, n8, n9, n10, n11, n12, n13, n14, n15, n16, n17, n18, n19, n20, n21, n22, n23, n24, n25⟩, h57, h56, h58, h55, hH⟩ := h
  have g19 := hf 19 (by decide) (by decide) (by decide) (by decide) (by decide) (by decide)
  have g20 := hf 20 (by decide) (by decide) (by decide) (by decide) (by decide) (by decide)
  have g21 := hf 21 (by decide) (by decide) (by decide) (by decide) (by decide) (by decide)
  refine ⟨⟨n1, n2, n3, n4, n5, n6, n7, n8, n9, n10, n11, n12, n13, n14, n15, n16, n17, n18, fun z => g20.trans (n19 z), fun z => g20.trans (n20 z), ?_, ?_, n23, n24, ?_⟩, h57, h56, h58, h55, hH⟩
  · show H 19 + 1 = σ 54 7 + 1
    omega
  · show (H 21 = 1 ∧ σ 54 9 < σ 54 7 + 1 + 0) ∨ (H 21 = 0 ∧ σ 54 9 = σ 54 7 + 1 + 0)
    omega
  · show 0 ≤ σ 54 7 + 1
    omega
theorem mo_loop {b : Nat → Int} {n m c s : Nat} : ∀ (k p : Nat) (σ ν : Nat → Nat → Int) (i : Int), n - p < k → CSt σ b n m p → MSt ν b n m p → RelL σ ν 0 → σ 54 7 = i → 2 * i ≤ (p : Int) → I_words σ → ν 124 = σ 124 → σ 3 2 = 0 → ν 118 15 = 0 → ∃ σ' ν', CF σ σ' ∧ MFq ν ν' ∧
    ((RelL σ' ν' 0 ∧ σ' 3 2 = 0 ∧ ν' 118 15 = 0 ∧ σ' 54 7 ≤ 900 ∧ Rn PT none kX5_readMoor 11 [some (mR 3), some (mR 54), some (mI i)] [] (mkh σ c s) (fun r => r = (some (some (mI (σ' 54 7))), mkh σ' c s)) ∧ (∀ Q : MR → Prop, Rn PT none kX12_moor 64 [some (mR 118), some (mI 517)] [] (mkh ν' c s) Q → Rn PT none kX12_moor 42 [some (mR 118), some (mI 517)] [] (mkh ν c s) Q)) ∨
     (∃ t : Nat, t ≤ 940 ∧ σ' 3 2 = ν' 118 15 ∧ Rn PT none kX5_readMoor 11 [some (mR 3), some (mR 54), some (mI i)] [] (mkh σ c s) (fun r => r = (some (some (mI (-1 - (t : Int)))), mkh σ' c s)) ∧ Rn PT none kX12_moor 42 [some (mR 118), some (mI 517)] [] (mkh ν c s) (fun r => r = (some (some (mI (-1 - (t : Int)))), mkh ν' c s)))) := by
  intro k
  induction k with
  | zero => intro p σ ν i hk; omega
  | succ k ih =>
    intro p σ ν i hk hC hM hR h7 hip hw h124 h32 h15
    have hn25 : 0 ≤ σ 54 7 := hR.1.2.2.2.2.2.2.2.2.2.2.2.2.2.2.2.2.2.2.2.2.2.2.2.2
    have hC2 := hC
    obtain ⟨w2, wn, wp, z1, z2, z3⟩ := hC2
    obtain ⟨A, hA, hT⟩ := g_readToken (c := c) (s := s) hC
    have hi : 0 ≤ i ∧ i ≤ 900 := by omega
    have hA2 := hA
    obtain ⟨t1, t2, t3, t4, t5, t6⟩ := hA2
    have hM2 := hM
    obtain ⟨_, _, _, _, _, _, m12, m11, _, m17, _, _⟩ := hM2
    have cf0 : CF σ (m_upd σ 1 A) := CF.u CF.r (by decide)
    by_cases k4 : tkK b n m p = 4
    · refine ⟨m_upd σ 1 A, ν, cf0, MFr.r.q, .inl ⟨hR, h32, h15, (show σ 54 7 ≤ 900 by omega), kr_end hi hT (t5.trans k4), fun Q K => mr_end (m11.trans (mkk_0.mpr k4)) K⟩⟩
    have h5 : ¬ A 5 = 4 := by rw [t5]; exact k4
    have h11 : ¬ ν 118 11 = 0 := by rw [m11]; exact fun z => k4 (mkk_0.mp z)
    have hWK : TokK (m_upd σ 1 A) b n m p := ⟨w2, wn, wp, hA⟩
    rcases lk_all (c := c) (s := s) hWK hM hR.tok (σ := m_upd σ 1 A) hw h124 with hg | hb | he
    · obtain ⟨σ', ν', q, ⟨kF, k32⟩, ⟨mF, m15⟩, K, M, kC, mS, kq, kl, kR⟩ := hg
      obtain ⟨H, ⟨hm, hf⟩, hS⟩ := g_sign (c := c) (s := s) mS kq
      have lines0 : 0 ≤ σ' 54 7 := kR.1.2.2.2.2.2.2.2.2.2.2.2.2.2.2.2.2.2.2.2.2.2.2.2.2
      have hqn : q ≤ n := mS.2.2.2.1
      have hq2 := tkN_b (b := b) (n := n) (m := m) hqn
      have hrow : ∀ j, ¬ j = 7 → True := fun _ _ => trivial
      have h19 : ν' 118 19 = ν 118 19 := mF.2.1 19 (by decide)
      have e19 : ν 118 19 = σ 54 7 := hR.1.2.2.2.2.2.2.2.2.2.2.2.2.2.2.2.2.2.2.2.2.1
      have f19 : ν' 118 19 = σ' 54 7 := kR.1.2.2.2.2.2.2.2.2.2.2.2.2.2.2.2.2.2.2.2.2.1
      have g19 := hf 19 (by decide) (by decide) (by decide) (by decide) (by decide) (by decide)
      have g15 := hf 15 (by decide) (by decide) (by decide) (by decide) (by decide) (by decide)
      have hσ7 : σ' 54 7 = i := by omega
      have hwr : ∀ r, ¬ r = 1 → ¬ r = 3 → (r < 54 ∨ 61 < r) → σ' r = σ r := fun r y1 y2 y3 => (kF.1 r y1 y2 y3).trans (cf0.1 r y1 y2 y3)
      obtain ⟨σ2, ν2, c2, f2, hz⟩ := ih (tkN b n m q) (m_set σ' 54 7 (σ' 54 7 + 1)) (m_set (m_upd ν' 118 H) 118 19 (H 19 + 1)) (i + 1) (by omega) kC ⟨mS.1, mS.2.1, mS.2.2.1, hq2.2.1, hm⟩ (kR.more hf) (show σ' 54 7 + 1 = i + 1 by omega) (by omega)
        (fun w hw2 => by have z := hw w hw2; rw [← hwr 4 (by decide) (by decide) (by decide), ← hwr 124 (by decide) (by decide) (by decide)] at z; exact z)
        (show ν' 124 = σ' 124 by rw [mF.1 124 (by decide) (by decide) (by decide), hwr 124 (by decide) (by decide) (by decide)]; exact h124)
        (show σ' 3 2 = 0 from k32.trans h32) (show H 15 = 0 from g15.trans (m15.trans h15))
      have cft : CF σ σ2 := (cf0.trans (kF.trans (CF.s CF.r (by decide)))).trans c2
      have mft : MFq ν ν2 := ((mF.q.u hf).s (by decide)).trans f2
      have hK := @kr_ok σ c s A i hi hT h5 σ' K (by omega)
      have hMk := @mr_ok ν c s h11 ν' M (m_upd ν' 118 H) hS (show 0 ≤ H 19 ∧ H 19 ≤ 900 by omega)
      refine ⟨σ2, ν2, cft, mft, ?_⟩
      rcases hz with ⟨r1, r2, r3, r4, r5, r6⟩ | ⟨t, r1, r2, r3, r4⟩
      · exact .inl ⟨r1, r2, r3, r4, hK r5, fun Q KQ => hMk (r6 Q KQ)⟩
      · exact .inr ⟨t, r1, r2, hK r3, hMk r4⟩
    · obtain ⟨σ', ν', t, kF, mF, K, M, he, ht, k1, k2⟩ := hb
      have zk := kr_bad (i := i) hi hT h5 K (by omega)
      have zm := mr_bad (c := c) (s := s) h11 M (by omega)
      rw [k1] at zk
      rw [k2] at zm
      exact ⟨σ', ν', cf0.trans kF, mF.q, .inr ⟨t, ht, he, zk, zm⟩⟩
    · obtain ⟨σ', ν', q, kF, mF, K, M, mS, kq, k1, k2⟩ := he
      have hqn : tkP b n m q ≤ n := tkP_b mS.2.2.2.1
      have zk := kr_bad (i := i) hi hT h5 K (by omega)
      have zm := mr_sgn (c := c) (s := s) h11 M (g_signX mS kq) (show 0 ≤ ((tkP b n m q : Nat) : Int) ∧ ((tkP b n m q : Nat) : Int) ≤ 940 by omega)
      rw [k2] at zk
      exact ⟨σ', m_set (m_set ν' 118 15 1) 118 16 ((tkP b n m q : Nat) : Int), cf0.trans kF, (mF.q.s (by decide)).s (by decide), .inr ⟨tkP b n m q, by omega, k1, zk, zm⟩⟩
