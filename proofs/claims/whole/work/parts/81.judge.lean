variable {N : Int}
/-! ===== printed by wip/whole/gen81.py: judge of the model ===== -/
theorem c_does {μ : Nat → Nat → Int} {c s : Nat} (hL : I_land μ) {T S t0 : Int} (hT : T ≤ 900000) (hS : S ≤ 90000) {s0 : JT} (hs : jOK μ T S s0) {o120 : Nat → Int} (hM : MS (μ 6 13) o120 s0 (μ 120)) (h4 : μ 136 4 = js s0) (h5 : μ 136 5 = jt s0 - t0) (ht0 : 0 ≤ t0 ∧ t0 ≤ 900000) (hwf : jw s0 = -1 ↔ μ 6 14 = -1) {w : Int} {h : Nat} {a x y z : Int} (hp : jP μ w h a) (ex : x = w - 11) (ey : w ≤ 13 → y = (h : Int)) (ez : ¬ w = 14 → z = a) : Cl PT 267 [mR 118, mI x, mI y, mI z] (mkh μ c s) (fun r => ∃ ν, r = (some (some (mI (jl μ w h a s0).1)), mkh ν c s) ∧ MD μ ν o120 t0 (jl μ w h a s0).2) := by
  obtain ⟨p1, p2, p3, p4, p5⟩ := hp
  rcases (show w = 11 ∨ w = 12 ∨ w = 13 ∨ w = 14 ∨ w = 15 by omega) with rfl | rfl | rfl | rfl | rfl
  · rw [ex, ey (by decide), ez (by decide)]
    by_cases cc : jst μ h a s0 = -1
    · rw [jl_11n cc]; exact c_does_go_n hL hT hS hs hM h4 h5 ht0 hwf (p2 (by decide)) (p3 rfl) cc
    · rw [jl_11y cc]; exact c_does_go_y hL hT hS hs hM h4 h5 ht0 hwf (p2 (by decide)) (p3 rfl) cc
  · rw [ex, ey (by decide), ez (by decide)]
    by_cases cc : jh s0 h < a
    · rw [jl_12n cc]; exact c_does_tr0_n hL hT hS hs hM h4 h5 ht0 hwf (p2 (by decide)) (p4 (Or.inl rfl)) cc
    · rw [jl_12y cc]; exact c_does_tr0_y hL hT hS hs hM h4 h5 ht0 hwf (p2 (by decide)) (p4 (Or.inl rfl)) cc
  · rw [ex, ey (by decide), ez (by decide)]
    by_cases cc : 99 < jh s0 h + a
    · rw [jl_13n cc]; exact c_does_tr1_n hL hT hS hs hM h4 h5 ht0 hwf (p2 (by decide)) (p4 (Or.inr rfl)) cc
    · rw [jl_13y cc]; exact c_does_tr1_y hL hT hS hs hM h4 h5 ht0 hwf (p2 (by decide)) (p4 (Or.inr rfl)) cc
  · rw [ex]
    by_cases cc : 29 ≤ jd s0
    · rw [jl_14n cc]; exact c_does_day_n hL hT hS hs hM h4 h5 ht0 hwf cc
    · rw [jl_14y cc]; exact c_does_day_y hL hT hS hs hM h4 h5 ht0 hwf cc
  · rw [ex, ez (by decide)]
    have b := p5 rfl
    obtain ⟨R, rfl⟩ := Int.eq_ofNat_of_zero_le (show 0 ≤ a by omega)
    by_cases cc : jw s0 = -1
    · rw [jl_15n cc]; exact c_does_ni_n hL hT hS hs hM h4 h5 ht0 hwf cc
    · rw [jl_15y cc]; exact c_does_ni_y hL hT hS hs hM h4 h5 ht0 hwf (by omega) cc
theorem MS.land {μ M : Nat → Nat → Int} (hL : I_land μ) {s : JT} (h : MS (μ 6 13) (μ 120) s (M 120)) (e6 : M 6 = μ 6) (e7 : M 7 = μ 7) (e8 : M 8 = μ 8) (e9 : M 9 = μ 9) (e10 : M 10 = μ 10) : I_land M := hL.congr e6 e7 e8 e9 e10 (fun j hj => h.2.2.2.2 j (Or.inl hj))
/-- what is written when the lines are done -/
def mvd (M : Nat → Nat → Int) (h : Int) : Nat → Nat → Int := m_set (m_set (m_set M 136 2 (M 120 517)) 136 3 h) 118 44 1
set_option maxHeartbeats 8000000 in
theorem l_judge {μ : Nat → Nat → Int} {c s : Nat} (hL : I_land μ) (hP : I_plan μ) {T : Int} (hT : T ≤ 800000) {s0 : JT} (h0 : jOK μ T 0 s0) (hwf : jw s0 = -1 ↔ μ 6 14 = -1) {lv : Int} {Q : MR → Prop} (K : ∀ (M : Nat → Nat → Int) (k : Int) (v4 : Option MV), MS (μ 6 13) (μ 120) (jr μ s0 (μ 17 0).toNat).2.2 (M 120) → M 136 0 = (jr μ s0 (μ 17 0).toNat).1 → M 136 1 = (jr μ s0 (μ 17 0).toNat).2.1 → M 136 4 = js (jr μ s0 (μ 17 0).toNat).2.2 → M 136 5 = jt (jr μ s0 (μ 17 0).toNat).2.2 - jt s0 → frm μ M → Rn PT none kX12_judge 97 [some (mR 118), some (mI lv), some (mI (if (jr μ s0 (μ 17 0).toNat).1 = 0 then -1 else (jr μ s0 (μ 17 0).toNat).2.1)), some (mI k), v4] [] (mkh M c s) Q) : ∀ (d n : Nat) (k wr : Int) (M : Nat → Nat → Int) (v4 : Option MV), k = (n : Int) → (n : Int) + d = μ 17 0 → wr = (if (jr μ s0 n).1 = 0 then -1 else (jr μ s0 n).2.1) → MS (μ 6 13) (μ 120) (jr μ s0 n).2.2 (M 120) → M 136 0 = (jr μ s0 n).1 → M 136 1 = (jr μ s0 n).2.1 → M 136 4 = js (jr μ s0 n).2.2 → M 136 5 = jt (jr μ s0 n).2.2 - jt s0 → frm μ M → Rn PT none kX12_judge 43 [some (mR 118), some (mI (lv)), some (mI (wr)), some (mI (k)), v4] [] (mkh M c s) Q := by
  have hL_ := hL
  obtain ⟨lc, lr, le, lm, lw, lh, lwo, lwd, q0, q1, q2, q3, q4, q8, q499, q500, lth, lG, lT, lW, -⟩ := hL_
  have hpl := hP.1
  intro d
  induction d with
  | zero =>
    intro n k wr M v4 ek hn ew f1 f2 f3 f4 f5 f6
    subst ek
    obtain ⟨j1, j2, j3, j4, j5, j6, j7⟩ := jr_ok hL hP h0 n (by omega)
    have e536 : M 120 536 = μ 17 0 := (f1.2.2.2.2 536 (by omega)).trans hP.2.1
    have eN : (μ 17 0).toNat = n := by omega
    rw [eN] at K
    refine rn_iload_n (k' := 44) rfl rfl rfl ?_
    refine rn_aload_n (k' := 45) rfl rfl rfl ?_
    refine rn_getR (k' := 46) rfl rfl K0_118 (by decide) rfl R0_118_6 ?_
    refine rn_sipush (k' := 47) rfl rfl ?_
    refine rn_iaload (k' := 48) rfl rfl K0_120 (by omega) (by omega) ?_
    show Rn PT none kX12_judge 48 [some (mR 118), some (mI (lv)), some (mI (wr)), some (mI ((n : Int))), v4] [mI (M 120 536), mI ((n : Int))] (mkh M c s) _
    refine rn_icmp_ge (k' := 49) rfl rfl (fun hc1 => ?_) (fun hc1 => ?_)
    · skip
      rw [ew]
      exact K M _ _ f1 f2 f3 f4 f5 f6
    · exfalso; omega
  | succ d ih =>
    intro n k wr M v4 ek hn ew f1 f2 f3 f4 f5 f6
    subst ek
    obtain ⟨j1, j2, j3, j4, j5, j6, j7⟩ := jr_ok hL hP h0 n (by omega)
    have e536 : M 120 536 = μ 17 0 := (f1.2.2.2.2 536 (by omega)).trans hP.2.1
    by_cases hz : (jr μ s0 n).1 = 0
    · rw [if_pos hz] at ew
      have pp := plan_P hP (i := n) (by omega)
      have fo : ∀ b, ¬ b = 118 → ¬ b = 120 → ¬ b = 125 → ¬ b = 126 → ¬ b = 136 → M b = μ b := f6.1
      have e6 := fo 6 (by decide) (by decide) (by decide) (by decide) (by decide)
      have r7 := fo 7 (by decide) (by decide) (by decide) (by decide) (by decide)
      have r8 := fo 8 (by decide) (by decide) (by decide) (by decide) (by decide)
      have r9 := fo 9 (by decide) (by decide) (by decide) (by decide) (by decide)
      have r10 := fo 10 (by decide) (by decide) (by decide) (by decide) (by decide)
      have hLM : I_land M := f1.land hL e6 r7 r8 r9 r10
      have ht0 := h0.2.2.2.2.1
      obtain ⟨b1, b2, b3, b4, b5, b6, b7⟩ := hP.2.2 n (by omega)
      have i1 : M 120 (537 + 4 * n) = μ 120 (537 + 4 * n) := f1.2.2.2.2 _ (by omega)
      have i2 : M 120 (538 + 4 * n) = μ 120 (538 + 4 * n) := f1.2.2.2.2 _ (by omega)
      have i3 : M 120 (539 + 4 * n) = μ 120 (539 + 4 * n) := f1.2.2.2.2 _ (by omega)
      have hdo := c_does (μ := M) (c := c) (s := s) hLM (T := T + 20 * n) (S := 100 * n) (t0 := jt s0) (by omega) (by omega) (j1.row e6) (o120 := μ 120) (by rw [e6]; exact f1) f4 f5 (by omega) (by rw [e6]; exact j4.trans hwf) (w := μ 18 n) (h := (μ 19 n).toNat) (a := μ 20 n) (x := M 120 (537 + 4 * n)) (y := M 120 (538 + 4 * n)) (z := M 120 (539 + 4 * n)) (pp.row e6) (by rw [i1]; omega) (fun z => by have := b3 z; rw [i2]; omega) (fun z => by rw [i3]; exact (b4 z).2.symm)
      obtain ⟨M2, ⟨g1, g4, g5, go, gf⟩, hcl⟩ := hdo.ex (g := fun ν => (some (some (mI (jl M (μ 18 n) (μ 19 n).toNat (μ 20 n) (jr μ s0 n).2.2).1)), mkh ν c s))
      rw [jl_rows e6 r7 r8 r10] at g1 g4 g5 hcl
      rw [e6] at g1
      have hg := jr_go (μ := μ) (s := s0) (n := n) hz
      have hlb := (jl_ok hL j1 pp).2.1
      have x1 : (537 + (4 * (n : Int))).toNat = 537 + 4 * n := by omega
      have x2 : ((537 + (4 * (n : Int))) + 1).toNat = 538 + 4 * n := by omega
      have x3 : ((537 + (4 * (n : Int))) + 2).toNat = 539 + 4 * n := by omega
      have m21 : M2 136 1 = (jr μ s0 n).2.1 := (go 1 (by decide) (by decide)).trans f3
      have hj6 := j6 hz
      refine rn_iload_n (k' := 44) rfl rfl rfl ?_
      refine rn_aload_n (k' := 45) rfl rfl rfl ?_
      refine rn_getR (k' := 46) rfl rfl K0_118 (by decide) rfl R0_118_6 ?_
      refine rn_sipush (k' := 47) rfl rfl ?_
      refine rn_iaload (k' := 48) rfl rfl K0_120 (by omega) (by omega) ?_
      show Rn PT none kX12_judge 48 [some (mR 118), some (mI (lv)), some (mI (wr)), some (mI ((n : Int))), v4] [mI (M 120 536), mI ((n : Int))] (mkh M c s) _
      refine rn_icmp_ge (k' := 49) rfl rfl (fun hc1 => ?_) (fun hc1 => ?_)
      · exfalso; omega
      · skip
        refine rn_iload_n (k' := 50) rfl rfl rfl ?_
        refine rn_if_ge (k' := 51) rfl rfl (fun hc2 => ?_) (fun hc2 => ?_)
        · exfalso; omega
        · skip
          refine rn_sipush (k' := 52) rfl rfl ?_
          refine rn_iconst (k' := 53) rfl rfl ?_
          refine rn_iload_n (k' := 54) rfl rfl rfl ?_
          refine rn_imul (k' := 55) rfl rfl (by omega) ?_
          refine rn_iadd (k' := 56) rfl rfl (by omega) ?_
          refine rn_istore (k' := 57) (L' := [some (mR 118), some (mI (lv)), some (mI (wr)), some (mI ((n : Int))), some (mI (537 + (4 * (n : Int))))]) rfl rfl (Nat.le_of_ble_eq_true rfl) rfl ?_
          refine rn_aload_n (k' := 58) rfl rfl rfl ?_
          refine rn_getR (k' := 59) rfl rfl K0_118 (by decide) rfl R0_118_42 ?_
          refine rn_iconst (k' := 60) rfl rfl ?_
          refine rn_aload_n (k' := 61) rfl rfl rfl ?_
          refine rn_aload_n (k' := 62) rfl rfl rfl ?_
          refine rn_getR (k' := 63) rfl rfl K0_118 (by decide) rfl R0_118_6 ?_
          refine rn_iload (k' := 64) rfl rfl rfl ?_
          refine rn_iaload (k' := 65) rfl rfl K0_120 (by omega) (by omega) ?_
          refine rn_aload_n (k' := 66) rfl rfl rfl ?_
          refine rn_getR (k' := 67) rfl rfl K0_118 (by decide) rfl R0_118_6 ?_
          refine rn_iload (k' := 68) rfl rfl rfl ?_
          refine rn_iconst (k' := 69) rfl rfl ?_
          refine rn_iadd (k' := 70) rfl rfl (by omega) ?_
          refine rn_iaload (k' := 71) rfl rfl K0_120 (by omega) (by omega) ?_
          refine rn_aload_n (k' := 72) rfl rfl rfl ?_
          refine rn_getR (k' := 73) rfl rfl K0_118 (by decide) rfl R0_118_6 ?_
          refine rn_iload (k' := 74) rfl rfl rfl ?_
          refine rn_iconst (k' := 75) rfl rfl ?_
          refine rn_iadd (k' := 76) rfl rfl (by omega) ?_
          refine rn_iaload (k' := 77) rfl rfl K0_120 (by omega) (by omega) ?_
          refine rn_callP (k' := 78) (y := 267) (vs := [mR 118, mI (M 120 ((537 + (4 * (n : Int))).toNat)), mI (M 120 (((537 + (4 * (n : Int))) + 1).toNat)), mI (M 120 (((537 + (4 * (n : Int))) + 2).toNat))]) (S' := [mI (0), mR 136]) (v := some (mI ((jl μ (μ 18 n) (μ 19 n).toNat (μ 20 n) (jr μ s0 n).2.2).1))) (h' := mkh M2 c s) rfl rfl rfl (by rw [x1, x2, x3]; exact hcl) ?_
          show Rn PT none kX12_judge 78 [some (mR 118), some (mI (lv)), some (mI (wr)), some (mI ((n : Int))), some (mI (537 + (4 * (n : Int))))] [mI ((jl μ (μ 18 n) (μ 19 n).toNat (μ 20 n) (jr μ s0 n).2.2).1), mI (0), mR 136] (mkh M2 c s) _
          refine rn_iastore (k' := 79) rfl rfl K0_136 (by omega) (by omega) ?_
          refine rn_aload_n (k' := 80) rfl rfl rfl ?_
          refine rn_getR (k' := 81) rfl rfl K0_118 (by decide) rfl R0_118_42 ?_
          refine rn_iconst (k' := 82) rfl rfl ?_
          refine rn_iaload (k' := 83) rfl rfl K0_136 (by omega) (by omega) ?_
          show Rn PT none kX12_judge 83 [some (mR 118), some (mI (lv)), some (mI (wr)), some (mI ((n : Int))), some (mI (537 + (4 * (n : Int))))] [mI ((jl μ (μ 18 n) (μ 19 n).toNat (μ 20 n) (jr μ s0 n).2.2).1)] (mkh (m_set M2 136 0 ((jl μ (μ 18 n) (μ 19 n).toNat (μ 20 n) (jr μ s0 n).2.2).1)) c s) _
          refine rn_if_le (k' := 84) rfl rfl (fun hc3 => ?_) (fun hc3 => ?_)
          · skip
            refine rn_aload_n (k' := 88) rfl rfl rfl ?_
            refine rn_getR (k' := 89) rfl rfl K0_118 (by decide) rfl R0_118_42 ?_
            refine rn_iconst (k' := 90) rfl rfl ?_
            refine rn_dup2 (k' := 91) rfl rfl ?_
            refine rn_iaload (k' := 92) rfl rfl K0_136 (by omega) (by omega) ?_
            show Rn PT none kX12_judge 92 [some (mR 118), some (mI (lv)), some (mI (wr)), some (mI ((n : Int))), some (mI (537 + (4 * (n : Int))))] [mI (M2 136 1), mI (1), mR 136] (mkh (m_set M2 136 0 ((jl μ (μ 18 n) (μ 19 n).toNat (μ 20 n) (jr μ s0 n).2.2).1)) c s) _
            refine rn_iconst (k' := 93) rfl rfl ?_
            refine rn_iadd (k' := 94) rfl rfl (by omega) ?_
            refine rn_iastore (k' := 95) rfl rfl K0_136 (by omega) (by omega) ?_
            refine rn_iinc (k' := 96) (L' := [some (mR 118), some (mI (lv)), some (mI (wr)), some (mI ((n : Int) + 1)), some (mI (537 + (4 * (n : Int))))]) rfl rfl rfl (by omega) rfl ?_
            refine rn_goto rfl ?_
            show Rn PT none kX12_judge 43 [some (mR 118), some (mI (lv)), some (mI (wr)), some (mI ((n : Int) + 1)), some (mI (537 + (4 * (n : Int))))] [] (mkh (m_set (m_set M2 136 0 ((jl μ (μ 18 n) (μ 19 n).toNat (μ 20 n) (jr μ s0 n).2.2).1)) 136 1 ((M2 136 1) + 1)) c s) _
            exact ih (n + 1) _ _ (m_set (m_set M2 136 0 ((jl μ (μ 18 n) (μ 19 n).toNat (μ 20 n) (jr μ s0 n).2.2).1)) 136 1 ((M2 136 1) + 1)) _ (by omega) (by omega) (by rw [hg]; dsimp only; rw [if_pos (by omega)]; exact ew) (by rw [hg]; exact g1) (by rw [hg]; rfl) (by rw [hg]; dsimp only; rw [if_pos (by omega)]; show M2 136 1 + 1 = _; omega) (by rw [hg]; exact g4) (by rw [hg]; exact g5) (((f6.trans gf).set (by omega)).set (by omega))
          · skip
            refine rn_iload_n (k' := 85) rfl rfl rfl ?_
            refine rn_istore_n (k' := 86) (L' := [some (mR 118), some (mI (lv)), some (mI ((n : Int))), some (mI ((n : Int))), some (mI (537 + (4 * (n : Int))))]) rfl rfl (Nat.le_of_ble_eq_true rfl) rfl ?_
            refine rn_goto rfl ?_
            refine rn_iinc (k' := 96) (L' := [some (mR 118), some (mI (lv)), some (mI ((n : Int))), some (mI ((n : Int) + 1)), some (mI (537 + (4 * (n : Int))))]) rfl rfl rfl (by omega) rfl ?_
            refine rn_goto rfl ?_
            show Rn PT none kX12_judge 43 [some (mR 118), some (mI (lv)), some (mI ((n : Int))), some (mI ((n : Int) + 1)), some (mI (537 + (4 * (n : Int))))] [] (mkh (m_set M2 136 0 ((jl μ (μ 18 n) (μ 19 n).toNat (μ 20 n) (jr μ s0 n).2.2).1)) c s) _
            exact ih (n + 1) _ _ (m_set M2 136 0 ((jl μ (μ 18 n) (μ 19 n).toNat (μ 20 n) (jr μ s0 n).2.2).1)) _ (by omega) (by omega) (by rw [hg]; dsimp only; rw [if_neg (by omega), if_neg (by omega)]; omega) (by rw [hg]; exact g1) (by rw [hg]; rfl) (by rw [hg]; dsimp only; rw [if_neg (by omega)]; show M2 136 1 = _; omega) (by rw [hg]; exact g4) (by rw [hg]; exact g5) ((f6.trans gf).set (by omega))
    · have eN : jr μ s0 (μ 17 0).toNat = (jr μ s0 n) := by
        rw [show (μ 17 0).toNat = n + (d + 1) by omega]
        exact jr_st hz (d + 1)
      rw [eN] at K
      have ew2 := ew
      rw [if_neg hz] at ew2
      refine rn_iload_n (k' := 44) rfl rfl rfl ?_
      refine rn_aload_n (k' := 45) rfl rfl rfl ?_
      refine rn_getR (k' := 46) rfl rfl K0_118 (by decide) rfl R0_118_6 ?_
      refine rn_sipush (k' := 47) rfl rfl ?_
      refine rn_iaload (k' := 48) rfl rfl K0_120 (by omega) (by omega) ?_
      show Rn PT none kX12_judge 48 [some (mR 118), some (mI (lv)), some (mI (wr)), some (mI ((n : Int))), v4] [mI (M 120 536), mI ((n : Int))] (mkh M c s) _
      refine rn_icmp_ge (k' := 49) rfl rfl (fun hc1 => ?_) (fun hc1 => ?_)
      · exfalso; omega
      · skip
        refine rn_iload_n (k' := 50) rfl rfl rfl ?_
        refine rn_if_ge (k' := 51) rfl rfl (fun hc2 => ?_) (fun hc2 => ?_)
        · skip
          rw [ew]
          exact K M _ _ f1 f2 f3 f4 f5 f6
        · exfalso; omega
