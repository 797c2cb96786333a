variable {N : Int}
/-! ===== printed by wip/whole/gen79.py: follow, judge of the class ===== -/
theorem jl_rows {μ ν : Nat → Nat → Int} (e6 : ν 6 = μ 6) (e7 : ν 7 = μ 7) (e8 : ν 8 = μ 8) (e10 : ν 10 = μ 10) : jl ν = jl μ := by
  funext w h a s
  unfold jl
  simp only [jst, jhu, g_steps_rows e6 e7 e8, g_st, g_w, hunt_rows e6 e7, e6, e10]
theorem jr_rows {μ ν : Nat → Nat → Int} (e6 : ν 6 = μ 6) (e7 : ν 7 = μ 7) (e8 : ν 8 = μ 8) (e10 : ν 10 = μ 10) (e18 : ν 18 = μ 18) (e19 : ν 19 = μ 19) (e20 : ν 20 = μ 20) {s : JT} : ∀ n, jr ν s n = jr μ s n
  | 0 => rfl
  | n + 1 => by
    show (if (jr ν s n).1 = 0 then ((jl ν (ν 18 n) (ν 19 n).toNat (ν 20 n) (jr ν s n).2.2).1, (jr ν s n).2.1 + (if (jl ν (ν 18 n) (ν 19 n).toNat (ν 20 n) (jr ν s n).2.2).1 = 0 then 1 else 0), (jl ν (ν 18 n) (ν 19 n).toNat (ν 20 n) (jr ν s n).2.2).2) else jr ν s n) = _
    rw [jr_rows e6 e7 e8 e10 e18 e19 e20 n, jl_rows e6 e7 e8 e10, e18, e19, e20]
    rfl
theorem jOK.row {μ ν : Nat → Nat → Int} {T S : Int} {s : JT} (h : jOK μ T S s) (e6 : ν 6 = μ 6) : jOK ν T S s := by
  obtain ⟨a1, a2, a3, a4, a5, a6⟩ := h
  exact ⟨a1, fun j hj => g_cell_row e6 (a2 j (by rw [e6] at hj; exact hj)), fun j hj => a3 j (by rw [e6] at hj; exact hj), a4.imp_right (g_cell_row e6), a5, a6⟩
theorem jP.row {μ ν : Nat → Nat → Int} {w : Int} {h : Nat} {a : Int} (hp : jP μ w h a) (e6 : ν 6 = μ 6) : jP ν w h a := by
  obtain ⟨p1, p2, p3, p4, p5⟩ := hp
  exact ⟨p1, fun z => by rw [e6]; exact p2 z, fun z => g_cell_row e6 (p3 z), p4, p5⟩
/-- the verdict written -/
def vrd (M : Nat → Nat → Int) (w l hs t0 : Int) : Nat → Nat → Int := m_set (m_set (m_set (m_set (m_set (m_set (m_set M 82 9 1) 87 0 w) 87 1 l) 87 2 (M 83 0)) 87 3 hs) 87 4 (M 82 7)) 87 5 (M 83 4 - t0)
set_option maxHeartbeats 4000000 in
theorem l_heads83 {μ : Nat → Nat → Int} {c s : Nat} {a : Int} (hQ : ∀ j : Nat, (j : Int) < a → 0 ≤ μ 85 j ∧ μ 85 j ≤ 99) (ha : 0 ≤ a ∧ a ≤ 8) : ∀ (d n : Nat) (k : Int) (acc : Int), k = (n : Int) → acc = fS (μ 85) n → (n : Int) + d = a → Rn PT none kX6_headsOfAll 4 [some (mR 83), some (mI (a)), some (mI (acc)), some (mI (k))] [] (mkh μ c s) (fun r => r = (some (some (mI (fS (μ 85) a.toNat))), mkh (μ) c s)) := by
  intro d
  induction d with
  | zero =>
    intro n k acc  ek eacc hn
    subst ek eacc
    refine rn_iload_n (k' := 5) rfl rfl rfl ?_
    refine rn_iload_n (k' := 6) rfl rfl rfl ?_
    refine rn_icmp_ge (k' := 7) rfl rfl (fun hc1 => ?_) (fun hc1 => ?_)
    · skip
      refine rn_iload_n (k' := 17) rfl rfl rfl ?_
      refine rn_iret rfl (Or.inl rfl) ?_
      rw [show (a).toNat = n by omega]
    · exfalso; omega
  | succ d ih =>
    intro n k acc  ek eacc hn
    subst ek eacc
    have hsum := fS_b8 (f := μ 85) (B := 99) n (fun j hj => hQ j (by omega))
    have hone := hQ n (by omega)
    refine rn_iload_n (k' := 5) rfl rfl rfl ?_
    refine rn_iload_n (k' := 6) rfl rfl rfl ?_
    refine rn_icmp_ge (k' := 7) rfl rfl (fun hc1 => ?_) (fun hc1 => ?_)
    · exfalso; omega
    · skip
      refine rn_iload_n (k' := 8) rfl rfl rfl ?_
      refine rn_aload_n (k' := 9) rfl rfl rfl ?_
      refine rn_getR (k' := 10) rfl rfl K0_83 (by decide) rfl R0_83_2 ?_
      refine rn_iload_n (k' := 11) rfl rfl rfl ?_
      refine rn_iaload (k' := 12) rfl rfl K0_85 (by omega) (by omega) ?_
      show Rn PT none kX6_headsOfAll 12 [some (mR 83), some (mI (a)), some (mI (fS (μ 85) n)), some (mI ((n : Int)))] [mI (μ 85 (n)), mI (fS (μ 85) n)] (mkh μ c s) _
      refine rn_iadd (k' := 13) rfl rfl (by omega) ?_
      refine rn_istore_n (k' := 14) (L' := [some (mR 83), some (mI (a)), some (mI ((fS (μ 85) n) + (μ 85 (n)))), some (mI ((n : Int)))]) rfl rfl (Nat.le_of_ble_eq_true rfl) rfl ?_
      refine rn_iinc (k' := 15) (L' := [some (mR 83), some (mI (a)), some (mI ((fS (μ 85) n) + (μ 85 (n)))), some (mI ((n : Int) + 1))]) rfl rfl rfl (by omega) rfl ?_
      refine rn_goto rfl ?_
      exact ih (n + 1) _ _ (by omega) (by rfl) (by omega)
set_option maxHeartbeats 2000000 in
theorem c_heads83 {μ : Nat → Nat → Int} {c s : Nat} {a : Int} (hQ : ∀ j : Nat, (j : Int) < a → 0 ≤ μ 85 j ∧ μ 85 j ≤ 99) (ha : 0 ≤ a ∧ a ≤ 8) : Cl PT 65 [mR 83, mI a] (mkh μ c s) (fun r => r = (some (some (mI (fS (μ 85) a.toNat))), mkh (μ) c s)) := by
  refine ⟨_, PT_65, Nat.le_of_ble_eq_true rfl, ?_⟩
  show Rn PT none kX6_headsOfAll 0 [some (mR 83), some (mI (a)), none, none] [] (mkh μ c s) _
  refine rn_iconst (k' := 1) rfl rfl ?_
  refine rn_istore_n (k' := 2) (L' := [some (mR 83), some (mI (a)), some (mI (0)), none]) rfl rfl (Nat.le_of_ble_eq_true rfl) rfl ?_
  refine rn_iconst (k' := 3) rfl rfl ?_
  refine rn_istore_n (k' := 4) (L' := [some (mR 83), some (mI (a)), some (mI (0)), some (mI (0))]) rfl rfl (Nat.le_of_ble_eq_true rfl) rfl ?_
  exact l_heads83 hQ ha a.toNat 0 _ _ rfl rfl (by omega)
set_option maxHeartbeats 8000000 in
theorem l_follow {μ : Nat → Nat → Int} {c s : Nat} (hL : I_land μ) (hP : I_plan μ) {T : Int} (hT : T ≤ 800000) {s0 : JT} (h0 : jOK μ T 0 s0) (h14 : 0 ≤ μ 14 4 ∧ μ 14 4 ≤ 800000) : ∀ (d n : Nat) (k wr ln : Int) (M : Nat → Nat → Int), k = (n : Int) → (n : Int) + d = μ 17 0 → wr = (jr μ s0 n).1 → ln = (jr μ s0 n).2.1 → tr M = (jr μ s0 n).2.2 → fr μ M → Rn PT none kX0_follow 6 [some (mR 82), some (mR 17), some (mI (wr)), some (mI (ln)), some (mI (k))] [] (mkh M c s) (fun r => ∃ M, (tr M = (jr μ s0 (μ 17 0).toNat).2.2 ∧ fr μ M) ∧ r = (some (some (mI (if (jr μ s0 (μ 17 0).toNat).1 = 0 then -1 else (jr μ s0 (μ 17 0).toNat).2.1))), mkh (vrd M (jr μ s0 (μ 17 0).toNat).1 (jr μ s0 (μ 17 0).toNat).2.1 (fS (jh (jr μ s0 (μ 17 0).toNat).2.2) (μ 6 13).toNat) (μ 14 4)) c s)) := by
  have hL_ := hL
  obtain ⟨lc, lr, le, lm, lw, lh, lwo, lwd, q0, q1, q2, q3, q4, q8, q499, q500, lth, lG, lT, lW, -⟩ := hL_
  have hpl := hP.1
  intro d
  induction d with
  | zero =>
    intro n k wr ln M ek hn ew el ht hf
    subst ek ew el
    obtain ⟨j1, j2, j3, j4, j5, j6, j7⟩ := jr_ok hL hP h0 n (by omega)
    have e6 : M 6 = μ 6 := hf.1 6 (by decide) (by decide) (by decide) (by decide) (by decide) (by decide) (by decide)
    have e17 : M 17 0 = μ 17 0 := by rw [hf.1 17 (by decide) (by decide) (by decide) (by decide) (by decide) (by decide) (by decide)]
    have e14 : M 14 4 = μ 14 4 := by rw [hf.1 14 (by decide) (by decide) (by decide) (by decide) (by decide) (by decide) (by decide)]
    have e613 : M 6 13 = μ 6 13 := by rw [e6]
    have hk := j1
    rw [← ht] at hk
    have hk5 : 0 ≤ M 83 4 ∧ M 83 4 ≤ T + 20 * n := hk.2.2.2.2.1
    have eN : (μ 17 0).toNat = n := by omega
    refine rn_iload (k' := 7) rfl rfl rfl ?_
    refine rn_aload_n (k' := 8) rfl rfl rfl ?_
    refine rn_getI (k' := 9) rfl rfl K0_17 (by decide) rfl ?_
    refine rn_icmp_ge (k' := 10) rfl rfl (fun hc1 => ?_) (fun hc1 => ?_)
    · skip
      refine rn_aload_n (k' := 28) rfl rfl rfl ?_
      refine rn_iconst (k' := 29) rfl rfl ?_
      refine rn_putZ (k' := 30) rfl rfl K0_82 (by decide) rfl (by omega) ?_
      refine rn_aload_n (k' := 31) rfl rfl rfl ?_
      refine rn_getR (k' := 32) rfl rfl K0_82 (by decide) rfl R0_82_8 ?_
      refine rn_iconst (k' := 33) rfl rfl ?_
      refine rn_iload_n (k' := 34) rfl rfl rfl ?_
      refine rn_iastore (k' := 35) rfl rfl K0_87 (by omega) (by omega) ?_
      refine rn_aload_n (k' := 36) rfl rfl rfl ?_
      refine rn_getR (k' := 37) rfl rfl K0_82 (by decide) rfl R0_82_8 ?_
      refine rn_iconst (k' := 38) rfl rfl ?_
      refine rn_iload_n (k' := 39) rfl rfl rfl ?_
      refine rn_iastore (k' := 40) rfl rfl K0_87 (by omega) (by omega) ?_
      refine rn_aload_n (k' := 41) rfl rfl rfl ?_
      refine rn_getR (k' := 42) rfl rfl K0_82 (by decide) rfl R0_82_8 ?_
      refine rn_iconst (k' := 43) rfl rfl ?_
      refine rn_aload_n (k' := 44) rfl rfl rfl ?_
      refine rn_getR (k' := 45) rfl rfl K0_82 (by decide) rfl R0_82_3 ?_
      refine rn_getI (k' := 46) rfl rfl K0_83 (by decide) rfl ?_
      show Rn PT none kX0_follow 46 [some (mR 82), some (mR 17), some (mI ((jr μ s0 n).1)), some (mI ((jr μ s0 n).2.1)), some (mI ((n : Int)))] [mI (M 83 0), mI (2), mR 87] (mkh (m_set (m_set (m_set M 82 9 (1)) 87 0 ((jr μ s0 n).1)) 87 1 ((jr μ s0 n).2.1)) c s) _
      refine rn_iastore (k' := 47) rfl rfl K0_87 (by omega) (by omega) ?_
      refine rn_aload_n (k' := 48) rfl rfl rfl ?_
      refine rn_getR (k' := 49) rfl rfl K0_82 (by decide) rfl R0_82_8 ?_
      refine rn_iconst (k' := 50) rfl rfl ?_
      refine rn_aload_n (k' := 51) rfl rfl rfl ?_
      refine rn_getR (k' := 52) rfl rfl K0_82 (by decide) rfl R0_82_3 ?_
      refine rn_aload_n (k' := 53) rfl rfl rfl ?_
      refine rn_getR (k' := 54) rfl rfl K0_82 (by decide) rfl R0_82_0 ?_
      refine rn_getI (k' := 55) rfl rfl K0_6 (by decide) rfl ?_
      show Rn PT none kX0_follow 55 [some (mR 82), some (mR 17), some (mI ((jr μ s0 n).1)), some (mI ((jr μ s0 n).2.1)), some (mI ((n : Int)))] [mI (M 6 13), mR 83, mI (3), mR 87] (mkh (m_set (m_set (m_set (m_set M 82 9 (1)) 87 0 ((jr μ s0 n).1)) 87 1 ((jr μ s0 n).2.1)) 87 2 (M 83 0)) c s) _
      refine rn_callP (k' := 56) (y := 65) (vs := [mR 83, mI (M 6 13)]) (S' := [mI (3), mR 87]) (v := some (mI (fS (M 85) (M 6 13).toNat))) (h' := mkh (m_set (m_set (m_set (m_set M 82 9 (1)) 87 0 ((jr μ s0 n).1)) 87 1 ((jr μ s0 n).2.1)) 87 2 (M 83 0)) c s) rfl rfl rfl (c_heads83 (μ := (m_set (m_set (m_set (m_set M 82 9 (1)) 87 0 ((jr μ s0 n).1)) 87 1 ((jr μ s0 n).2.1)) 87 2 (M 83 0))) (c := c) (s := s) (a := M 6 13) (fun j hj => hk.2.2.1 j (by omega)) (by omega)) ?_
      show Rn PT none kX0_follow 56 [some (mR 82), some (mR 17), some (mI ((jr μ s0 n).1)), some (mI ((jr μ s0 n).2.1)), some (mI ((n : Int)))] [mI (fS (M 85) (M 6 13).toNat), mI (3), mR 87] (mkh (m_set (m_set (m_set (m_set M 82 9 (1)) 87 0 ((jr μ s0 n).1)) 87 1 ((jr μ s0 n).2.1)) 87 2 (M 83 0)) c s) _
      refine rn_iastore (k' := 57) rfl rfl K0_87 (by omega) (by omega) ?_
      refine rn_aload_n (k' := 58) rfl rfl rfl ?_
      refine rn_getR (k' := 59) rfl rfl K0_82 (by decide) rfl R0_82_8 ?_
      refine rn_iconst (k' := 60) rfl rfl ?_
      refine rn_aload_n (k' := 61) rfl rfl rfl ?_
      refine rn_getI (k' := 62) rfl rfl K0_82 (by decide) rfl ?_
      show Rn PT none kX0_follow 62 [some (mR 82), some (mR 17), some (mI ((jr μ s0 n).1)), some (mI ((jr μ s0 n).2.1)), some (mI ((n : Int)))] [mI (M 82 7), mI (4), mR 87] (mkh (m_set (m_set (m_set (m_set (m_set M 82 9 (1)) 87 0 ((jr μ s0 n).1)) 87 1 ((jr μ s0 n).2.1)) 87 2 (M 83 0)) 87 3 (fS (M 85) (M 6 13).toNat)) c s) _
      refine rn_iastore (k' := 63) rfl rfl K0_87 (by omega) (by omega) ?_
      refine rn_aload_n (k' := 64) rfl rfl rfl ?_
      refine rn_getR (k' := 65) rfl rfl K0_82 (by decide) rfl R0_82_8 ?_
      refine rn_iconst (k' := 66) rfl rfl ?_
      refine rn_aload_n (k' := 67) rfl rfl rfl ?_
      refine rn_getR (k' := 68) rfl rfl K0_82 (by decide) rfl R0_82_3 ?_
      refine rn_getI (k' := 69) rfl rfl K0_83 (by decide) rfl ?_
      show Rn PT none kX0_follow 69 [some (mR 82), some (mR 17), some (mI ((jr μ s0 n).1)), some (mI ((jr μ s0 n).2.1)), some (mI ((n : Int)))] [mI (M 83 4), mI (5), mR 87] (mkh (m_set (m_set (m_set (m_set (m_set (m_set M 82 9 (1)) 87 0 ((jr μ s0 n).1)) 87 1 ((jr μ s0 n).2.1)) 87 2 (M 83 0)) 87 3 (fS (M 85) (M 6 13).toNat)) 87 4 (M 82 7)) c s) _
      refine rn_aload_n (k' := 70) rfl rfl rfl ?_
      refine rn_getR (k' := 71) rfl rfl K0_82 (by decide) rfl R0_82_2 ?_
      refine rn_getI (k' := 72) rfl rfl K0_14 (by decide) rfl ?_
      show Rn PT none kX0_follow 72 [some (mR 82), some (mR 17), some (mI ((jr μ s0 n).1)), some (mI ((jr μ s0 n).2.1)), some (mI ((n : Int)))] [mI (M 14 4), mI (M 83 4), mI (5), mR 87] (mkh (m_set (m_set (m_set (m_set (m_set (m_set M 82 9 (1)) 87 0 ((jr μ s0 n).1)) 87 1 ((jr μ s0 n).2.1)) 87 2 (M 83 0)) 87 3 (fS (M 85) (M 6 13).toNat)) 87 4 (M 82 7)) c s) _
      refine rn_isub (k' := 73) rfl rfl (by omega) ?_
      refine rn_iastore (k' := 74) rfl rfl K0_87 (by omega) (by omega) ?_
      refine rn_iload_n (k' := 75) rfl rfl rfl ?_
      refine rn_if_ne (k' := 76) rfl rfl (fun hc3 => ?_) (fun hc3 => ?_)
      · skip
        refine rn_iload_n (k' := 79) rfl rfl rfl ?_
        refine rn_iret rfl (Or.inl rfl) ?_
        refine ⟨M, ⟨by rw [eN]; exact ht, hf⟩, ?_⟩
        rw [eN]
        rw [show jh (jr μ s0 n).2.2 = M 85 by rw [← ht], ← e613, ← e14]
        rw [if_neg (by omega)]
        rfl
      · skip
        refine rn_iconst (k' := 77) rfl rfl ?_
        refine rn_goto rfl ?_
        refine rn_iret rfl (Or.inl rfl) ?_
        refine ⟨M, ⟨by rw [eN]; exact ht, hf⟩, ?_⟩
        rw [eN]
        rw [show jh (jr μ s0 n).2.2 = M 85 by rw [← ht], ← e613, ← e14]
        rw [if_pos (by omega)]
        rfl
    · exfalso; omega
  | succ d ih =>
    intro n k wr ln M ek hn ew el ht hf
    subst ek ew el
    obtain ⟨j1, j2, j3, j4, j5, j6, j7⟩ := jr_ok hL hP h0 n (by omega)
    have e6 : M 6 = μ 6 := hf.1 6 (by decide) (by decide) (by decide) (by decide) (by decide) (by decide) (by decide)
    have e17 : M 17 0 = μ 17 0 := by rw [hf.1 17 (by decide) (by decide) (by decide) (by decide) (by decide) (by decide) (by decide)]
    have e14 : M 14 4 = μ 14 4 := by rw [hf.1 14 (by decide) (by decide) (by decide) (by decide) (by decide) (by decide) (by decide)]
    have e613 : M 6 13 = μ 6 13 := by rw [e6]
    have hk := j1
    rw [← ht] at hk
    have hk5 : 0 ≤ M 83 4 ∧ M 83 4 ≤ T + 20 * n := hk.2.2.2.2.1
    by_cases hz : (jr μ s0 n).1 = 0
    · have pp := plan_P hP (i := n) (by omega)
      have r18 : M 18 = μ 18 := hf.1 18 (by decide) (by decide) (by decide) (by decide) (by decide) (by decide) (by decide)
      have r19 : M 19 = μ 19 := hf.1 19 (by decide) (by decide) (by decide) (by decide) (by decide) (by decide) (by decide)
      have r20 : M 20 = μ 20 := hf.1 20 (by decide) (by decide) (by decide) (by decide) (by decide) (by decide) (by decide)
      have r7 : M 7 = μ 7 := hf.1 7 (by decide) (by decide) (by decide) (by decide) (by decide) (by decide) (by decide)
      have r8 : M 8 = μ 8 := hf.1 8 (by decide) (by decide) (by decide) (by decide) (by decide) (by decide) (by decide)
      have r9 : M 9 = μ 9 := hf.1 9 (by decide) (by decide) (by decide) (by decide) (by decide) (by decide) (by decide)
      have r10 : M 10 = μ 10 := hf.1 10 (by decide) (by decide) (by decide) (by decide) (by decide) (by decide) (by decide)
      have r120 : M 120 = μ 120 := hf.1 120 (by decide) (by decide) (by decide) (by decide) (by decide) (by decide) (by decide)
      have hLM : I_land M := hL.congr e6 r7 r8 r9 r10 (fun j _ => by rw [r120])
      obtain ⟨M2, ⟨hm1, hm2⟩, hcl⟩ := c_fline (μ := M) (c := c) (s := s) hLM (T := T + 20 * n) (S := 100 * n) (by omega) (by omega) (hk.row e6) (i := n) (by omega) (by rw [r18, r19, r20]; exact pp.row e6) (by rw [r18, r19]; intro z; exact ((hP.2.2 n (by omega)).2.2.1 z).1.1)
      rw [jl_rows e6 r7 r8 r10, r18, r19, r20, ht] at hm1 hcl
      have hg := jr_go (μ := μ) (s := s0) (n := n) hz
      have hlb := (jl_ok hL j1 pp).2.1
      refine rn_iload (k' := 7) rfl rfl rfl ?_
      refine rn_aload_n (k' := 8) rfl rfl rfl ?_
      refine rn_getI (k' := 9) rfl rfl K0_17 (by decide) rfl ?_
      refine rn_icmp_ge (k' := 10) rfl rfl (fun hc1 => ?_) (fun hc1 => ?_)
      · exfalso; omega
      · skip
        refine rn_iload_n (k' := 11) rfl rfl rfl ?_
        refine rn_if_ne (k' := 12) rfl rfl (fun hc2 => ?_) (fun hc2 => ?_)
        · exfalso; omega
        · skip
          refine rn_aload_n (k' := 13) rfl rfl rfl ?_
          refine rn_aload_n (k' := 14) rfl rfl rfl ?_
          refine rn_iload (k' := 15) rfl rfl rfl ?_
          refine rn_callP (k' := 16) (y := 13) (vs := [mR 82, mR 17, mI ((n : Int))]) (S' := []) (v := some (mI ((jl μ (μ 18 n) (μ 19 n).toNat (μ 20 n) (jr μ s0 n).2.2).1))) (h' := mkh M2 c s) rfl rfl rfl (hcl) ?_
          show Rn PT none kX0_follow 16 [some (mR 82), some (mR 17), some (mI ((jr μ s0 n).1)), some (mI ((jr μ s0 n).2.1)), some (mI ((n : Int)))] [mI ((jl μ (μ 18 n) (μ 19 n).toNat (μ 20 n) (jr μ s0 n).2.2).1)] (mkh M2 c s) _
          refine rn_istore_n (k' := 17) (L' := [some (mR 82), some (mR 17), some (mI ((jl μ (μ 18 n) (μ 19 n).toNat (μ 20 n) (jr μ s0 n).2.2).1)), some (mI ((jr μ s0 n).2.1)), some (mI ((n : Int)))]) rfl rfl (Nat.le_of_ble_eq_true rfl) rfl ?_
          refine rn_iload_n (k' := 18) rfl rfl rfl ?_
          refine rn_iload_n (k' := 19) rfl rfl rfl ?_
          refine rn_if_ne (k' := 20) rfl rfl (fun hc3 => ?_) (fun hc3 => ?_)
          · skip
            refine rn_iconst (k' := 23) rfl rfl ?_
            refine rn_iadd (k' := 24) rfl rfl (by omega) ?_
            refine rn_istore_n (k' := 25) (L' := [some (mR 82), some (mR 17), some (mI ((jl μ (μ 18 n) (μ 19 n).toNat (μ 20 n) (jr μ s0 n).2.2).1)), some (mI (((jr μ s0 n).2.1) + 0)), some (mI ((n : Int)))]) rfl rfl (Nat.le_of_ble_eq_true rfl) rfl ?_
            refine rn_iinc (k' := 26) (L' := [some (mR 82), some (mR 17), some (mI ((jl μ (μ 18 n) (μ 19 n).toNat (μ 20 n) (jr μ s0 n).2.2).1)), some (mI (((jr μ s0 n).2.1) + 0)), some (mI ((n : Int) + 1))]) rfl rfl rfl (by omega) rfl ?_
            refine rn_goto rfl ?_
            exact ih (n + 1) _ _ _ M2 (by omega) (by omega) (by rw [hg]) (by rw [hg]; dsimp only; first | rw [if_pos (by omega)] | rw [if_neg (by omega)]) (by rw [hg]; exact hm1) (hf.trans hm2)
          · skip
            refine rn_iconst (k' := 21) rfl rfl ?_
            refine rn_goto rfl ?_
            refine rn_iadd (k' := 24) rfl rfl (by omega) ?_
            refine rn_istore_n (k' := 25) (L' := [some (mR 82), some (mR 17), some (mI ((jl μ (μ 18 n) (μ 19 n).toNat (μ 20 n) (jr μ s0 n).2.2).1)), some (mI (((jr μ s0 n).2.1) + 1)), some (mI ((n : Int)))]) rfl rfl (Nat.le_of_ble_eq_true rfl) rfl ?_
            refine rn_iinc (k' := 26) (L' := [some (mR 82), some (mR 17), some (mI ((jl μ (μ 18 n) (μ 19 n).toNat (μ 20 n) (jr μ s0 n).2.2).1)), some (mI (((jr μ s0 n).2.1) + 1)), some (mI ((n : Int) + 1))]) rfl rfl rfl (by omega) rfl ?_
            refine rn_goto rfl ?_
            exact ih (n + 1) _ _ _ M2 (by omega) (by omega) (by rw [hg]) (by rw [hg]; dsimp only; first | rw [if_pos (by omega)] | rw [if_neg (by omega)]) (by rw [hg]; exact hm1) (hf.trans hm2)
    · have eN : jr μ s0 (μ 17 0).toNat = (jr μ s0 n) := by
        rw [show (μ 17 0).toNat = n + (d + 1) by omega]
        exact jr_st hz (d + 1)
      refine rn_iload (k' := 7) rfl rfl rfl ?_
      refine rn_aload_n (k' := 8) rfl rfl rfl ?_
      refine rn_getI (k' := 9) rfl rfl K0_17 (by decide) rfl ?_
      refine rn_icmp_ge (k' := 10) rfl rfl (fun hc1 => ?_) (fun hc1 => ?_)
      · exfalso; omega
      · skip
        refine rn_iload_n (k' := 11) rfl rfl rfl ?_
        refine rn_if_ne (k' := 12) rfl rfl (fun hc2 => ?_) (fun hc2 => ?_)
        · skip
          refine rn_aload_n (k' := 28) rfl rfl rfl ?_
          refine rn_iconst (k' := 29) rfl rfl ?_
          refine rn_putZ (k' := 30) rfl rfl K0_82 (by decide) rfl (by omega) ?_
          refine rn_aload_n (k' := 31) rfl rfl rfl ?_
          refine rn_getR (k' := 32) rfl rfl K0_82 (by decide) rfl R0_82_8 ?_
          refine rn_iconst (k' := 33) rfl rfl ?_
          refine rn_iload_n (k' := 34) rfl rfl rfl ?_
          refine rn_iastore (k' := 35) rfl rfl K0_87 (by omega) (by omega) ?_
          refine rn_aload_n (k' := 36) rfl rfl rfl ?_
          refine rn_getR (k' := 37) rfl rfl K0_82 (by decide) rfl R0_82_8 ?_
          refine rn_iconst (k' := 38) rfl rfl ?_
          refine rn_iload_n (k' := 39) rfl rfl rfl ?_
          refine rn_iastore (k' := 40) rfl rfl K0_87 (by omega) (by omega) ?_
          refine rn_aload_n (k' := 41) rfl rfl rfl ?_
          refine rn_getR (k' := 42) rfl rfl K0_82 (by decide) rfl R0_82_8 ?_
          refine rn_iconst (k' := 43) rfl rfl ?_
          refine rn_aload_n (k' := 44) rfl rfl rfl ?_
          refine rn_getR (k' := 45) rfl rfl K0_82 (by decide) rfl R0_82_3 ?_
          refine rn_getI (k' := 46) rfl rfl K0_83 (by decide) rfl ?_
          show Rn PT none kX0_follow 46 [some (mR 82), some (mR 17), some (mI ((jr μ s0 n).1)), some (mI ((jr μ s0 n).2.1)), some (mI ((n : Int)))] [mI (M 83 0), mI (2), mR 87] (mkh (m_set (m_set (m_set M 82 9 (1)) 87 0 ((jr μ s0 n).1)) 87 1 ((jr μ s0 n).2.1)) c s) _
          refine rn_iastore (k' := 47) rfl rfl K0_87 (by omega) (by omega) ?_
          refine rn_aload_n (k' := 48) rfl rfl rfl ?_
          refine rn_getR (k' := 49) rfl rfl K0_82 (by decide) rfl R0_82_8 ?_
          refine rn_iconst (k' := 50) rfl rfl ?_
          refine rn_aload_n (k' := 51) rfl rfl rfl ?_
          refine rn_getR (k' := 52) rfl rfl K0_82 (by decide) rfl R0_82_3 ?_
          refine rn_aload_n (k' := 53) rfl rfl rfl ?_
          refine rn_getR (k' := 54) rfl rfl K0_82 (by decide) rfl R0_82_0 ?_
          refine rn_getI (k' := 55) rfl rfl K0_6 (by decide) rfl ?_
          show Rn PT none kX0_follow 55 [some (mR 82), some (mR 17), some (mI ((jr μ s0 n).1)), some (mI ((jr μ s0 n).2.1)), some (mI ((n : Int)))] [mI (M 6 13), mR 83, mI (3), mR 87] (mkh (m_set (m_set (m_set (m_set M 82 9 (1)) 87 0 ((jr μ s0 n).1)) 87 1 ((jr μ s0 n).2.1)) 87 2 (M 83 0)) c s) _
          refine rn_callP (k' := 56) (y := 65) (vs := [mR 83, mI (M 6 13)]) (S' := [mI (3), mR 87]) (v := some (mI (fS (M 85) (M 6 13).toNat))) (h' := mkh (m_set (m_set (m_set (m_set M 82 9 (1)) 87 0 ((jr μ s0 n).1)) 87 1 ((jr μ s0 n).2.1)) 87 2 (M 83 0)) c s) rfl rfl rfl (c_heads83 (μ := (m_set (m_set (m_set (m_set M 82 9 (1)) 87 0 ((jr μ s0 n).1)) 87 1 ((jr μ s0 n).2.1)) 87 2 (M 83 0))) (c := c) (s := s) (a := M 6 13) (fun j hj => hk.2.2.1 j (by omega)) (by omega)) ?_
          show Rn PT none kX0_follow 56 [some (mR 82), some (mR 17), some (mI ((jr μ s0 n).1)), some (mI ((jr μ s0 n).2.1)), some (mI ((n : Int)))] [mI (fS (M 85) (M 6 13).toNat), mI (3), mR 87] (mkh (m_set (m_set (m_set (m_set M 82 9 (1)) 87 0 ((jr μ s0 n).1)) 87 1 ((jr μ s0 n).2.1)) 87 2 (M 83 0)) c s) _
          refine rn_iastore (k' := 57) rfl rfl K0_87 (by omega) (by omega) ?_
          refine rn_aload_n (k' := 58) rfl rfl rfl ?_
          refine rn_getR (k' := 59) rfl rfl K0_82 (by decide) rfl R0_82_8 ?_
          refine rn_iconst (k' := 60) rfl rfl ?_
          refine rn_aload_n (k' := 61) rfl rfl rfl ?_
          refine rn_getI (k' := 62) rfl rfl K0_82 (by decide) rfl ?_
          show Rn PT none kX0_follow 62 [some (mR 82), some (mR 17), some (mI ((jr μ s0 n).1)), some (mI ((jr μ s0 n).2.1)), some (mI ((n : Int)))] [mI (M 82 7), mI (4), mR 87] (mkh (m_set (m_set (m_set (m_set (m_set M 82 9 (1)) 87 0 ((jr μ s0 n).1)) 87 1 ((jr μ s0 n).2.1)) 87 2 (M 83 0)) 87 3 (fS (M 85) (M 6 13).toNat)) c s) _
          refine rn_iastore (k' := 63) rfl rfl K0_87 (by omega) (by omega) ?_
          refine rn_aload_n (k' := 64) rfl rfl rfl ?_
          refine rn_getR (k' := 65) rfl rfl K0_82 (by decide) rfl R0_82_8 ?_
          refine rn_iconst (k' := 66) rfl rfl ?_
          refine rn_aload_n (k' := 67) rfl rfl rfl ?_
          refine rn_getR (k' := 68) rfl rfl K0_82 (by decide) rfl R0_82_3 ?_
          refine rn_getI (k' := 69) rfl rfl K0_83 (by decide) rfl ?_
          show Rn PT none kX0_follow 69 [some (mR 82), some (mR 17), some (mI ((jr μ s0 n).1)), some (mI ((jr μ s0 n).2.1)), some (mI ((n : Int)))] [mI (M 83 4), mI (5), mR 87] (mkh (m_set (m_set (m_set (m_set (m_set (m_set M 82 9 (1)) 87 0 ((jr μ s0 n).1)) 87 1 ((jr μ s0 n).2.1)) 87 2 (M 83 0)) 87 3 (fS (M 85) (M 6 13).toNat)) 87 4 (M 82 7)) c s) _
          refine rn_aload_n (k' := 70) rfl rfl rfl ?_
          refine rn_getR (k' := 71) rfl rfl K0_82 (by decide) rfl R0_82_2 ?_
          refine rn_getI (k' := 72) rfl rfl K0_14 (by decide) rfl ?_
          show Rn PT none kX0_follow 72 [some (mR 82), some (mR 17), some (mI ((jr μ s0 n).1)), some (mI ((jr μ s0 n).2.1)), some (mI ((n : Int)))] [mI (M 14 4), mI (M 83 4), mI (5), mR 87] (mkh (m_set (m_set (m_set (m_set (m_set (m_set M 82 9 (1)) 87 0 ((jr μ s0 n).1)) 87 1 ((jr μ s0 n).2.1)) 87 2 (M 83 0)) 87 3 (fS (M 85) (M 6 13).toNat)) 87 4 (M 82 7)) c s) _
          refine rn_isub (k' := 73) rfl rfl (by omega) ?_
          refine rn_iastore (k' := 74) rfl rfl K0_87 (by omega) (by omega) ?_
          refine rn_iload_n (k' := 75) rfl rfl rfl ?_
          refine rn_if_ne (k' := 76) rfl rfl (fun hc4 => ?_) (fun hc4 => ?_)
          · skip
            refine rn_iload_n (k' := 79) rfl rfl rfl ?_
            refine rn_iret rfl (Or.inl rfl) ?_
            refine ⟨M, ⟨by rw [eN]; exact ht, hf⟩, ?_⟩
            rw [eN]
            rw [show jh (jr μ s0 n).2.2 = M 85 by rw [← ht], ← e613, ← e14]
            rw [if_neg (by omega)]
            rfl
          · exfalso; omega
        · exfalso; omega
theorem c_follow {μ : Nat → Nat → Int} {c s : Nat} (hL : I_land μ) (hP : I_plan μ) {T : Int} (hT : T ≤ 800000) (h0 : jOK μ T 0 (tr μ)) (h14 : 0 ≤ μ 14 4 ∧ μ 14 4 ≤ 800000) : Cl PT 12 [mR 82, mR 17] (mkh μ c s) (fun r => ∃ M, (tr M = (jr μ (tr μ) (μ 17 0).toNat).2.2 ∧ fr μ M) ∧ r = (some (some (mI (if (jr μ (tr μ) (μ 17 0).toNat).1 = 0 then -1 else (jr μ (tr μ) (μ 17 0).toNat).2.1))), mkh (vrd M (jr μ (tr μ) (μ 17 0).toNat).1 (jr μ (tr μ) (μ 17 0).toNat).2.1 (fS (jh (jr μ (tr μ) (μ 17 0).toNat).2.2) (μ 6 13).toNat) (μ 14 4)) c s)) := by
  have hpl := hP.1
  refine ⟨_, PT_12, Nat.le_of_ble_eq_true rfl, ?_⟩
  show Rn PT none kX0_follow 0 [some (mR 82), some (mR 17), none, none, none] [] (mkh μ c s) _
  refine rn_iconst (k' := 1) rfl rfl ?_
  refine rn_istore_n (k' := 2) (L' := [some (mR 82), some (mR 17), some (mI (0)), none, none]) rfl rfl (Nat.le_of_ble_eq_true rfl) rfl ?_
  refine rn_iconst (k' := 3) rfl rfl ?_
  refine rn_istore_n (k' := 4) (L' := [some (mR 82), some (mR 17), some (mI (0)), some (mI (0)), none]) rfl rfl (Nat.le_of_ble_eq_true rfl) rfl ?_
  refine rn_iconst (k' := 5) rfl rfl ?_
  refine rn_istore (k' := 6) (L' := [some (mR 82), some (mR 17), some (mI (0)), some (mI (0)), some (mI (0))]) rfl rfl (Nat.le_of_ble_eq_true rfl) rfl ?_
  exact l_follow hL hP hT h0 h14 (μ 17 0).toNat 0 _ _ _ μ rfl (by omega) rfl rfl rfl fr.refl
