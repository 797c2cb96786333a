variable {N : Int}
/-! ===== printed by wip/whole/gen9K.py: numbers and signs ===== -/
theorem tkN_b {b : Nat → Int} {n m p : Nat} (hp : p ≤ n) : p ≤ tkN b n m p ∧ tkN b n m p ≤ n ∧ (¬ tkK b n m p = 0 → ¬ tkK b n m p = 4 → p < tkN b n m p) := by
  have h1 := tsk_b (b := b) (n - p) p
  have h2 := tre_b (b := b) (n - tq b n p) (tq b n p)
  by_cases c1 : m < n ∧ m ≤ tq b n p
  · obtain ⟨t1, _, _, t4⟩ := tk_lim c1
    rw [t4]
    exact ⟨h1.1, by have : tsk b (n - p) p ≤ p + (n - p) := h1.2.1; show tsk b (n - p) p ≤ n; omega, fun z => absurd t1 z⟩
  by_cases c2 : n ≤ tq b n p
  · obtain ⟨t1, _, _, t4⟩ := tk_end c1 c2
    rw [t4]
    exact ⟨h1.1, by have : tsk b (n - p) p ≤ p + (n - p) := h1.2.1; show tsk b (n - p) p ≤ n; omega, fun _ z => absurd t1 z⟩
  by_cases c3 : b (tq b n p) = 59
  · obtain ⟨t1, _, _, t4⟩ := tk_semi c1 c2 c3
    rw [t4]
    have h3 : p ≤ tq b n p := h1.1
    exact ⟨by omega, by omega, fun _ _ => by omega⟩
  · obtain ⟨t1, _, _, t4⟩ := tk_run c1 c2 c3
    have hc := cLD (b := b) (q := tq b n p) (tl b n p)
    have h3 : p ≤ tq b n p := h1.1
    have h5 : tl b n p = tre b (n - tq b n p) (tq b n p) - tq b n p := rfl
    rw [t4, t1]
    refine ⟨by omega, by omega, fun z1 z2 => ?_⟩
    by_cases h4 : cL b (tq b n p) (tl b n p) = 0 ∧ cD b (tq b n p) (tl b n p) = 0
    · exact absurd (rK_0 (b := b) (q := tq b n p) (k := tl b n p) (by omega) (by omega)) z1
    · omega
/-- a token read by the class, a token before the model -/
def CTk (b : Nat → Int) (n m p : Nat) (A : Nat → Int) : Prop := A 1 = (n : Int) ∧ A 2 = (m : Int) ∧ A 3 = ((tkN b n m p : Nat) : Int) ∧ A 4 = ((tkP b n m p : Nat) : Int) ∧ A 5 = tkK b n m p ∧ A 6 = tkV b n m p
def MTk (b : Nat → Int) (n m p : Nat) (H : Nat → Int) : Prop := H 3 = (n : Int) ∧ H 5 = (m : Int) ∧ H 12 = ((tkP b n m p : Nat) : Int) ∧ H 11 = mkk (tkK b n m p) ∧ (tkK b n m p ≠ 0 → H 4 = ((tkN b n m p : Nat) : Int)) ∧ (tkK b n m p = 1 → Nm (tkV b n m p) (H 17)) ∧ (tkK b n m p = 2 → H 14 = tkV b n m p) ∧ (tkK b n m p = 3 → H 14 = 59)
def FRn (H1 H0 : Nat → Int) : Prop := (∀ j, ¬ j = 4 → ¬ j = 11 → ¬ j = 12 → ¬ j = 13 → ¬ j = 14 → ¬ j = 17 → H1 j = H0 j)
def CSt (μ : Nat → Nat → Int) (b : Nat → Int) (n m p : Nat) : Prop := μ 2 = b ∧ n ≤ 940 ∧ p ≤ n ∧ μ 1 1 = (n : Int) ∧ μ 1 2 = (m : Int) ∧ μ 1 3 = (p : Int)
def MSt (μ : Nat → Nat → Int) (b : Nat → Int) (n m p : Nat) : Prop := μ 2 = b ∧ (∀ j, b j = μ 119 j % 256) ∧ n ≤ 940 ∧ p ≤ n ∧ MTk b n m p (μ 118)
def eN (b : Nat → Int) (n m p : Nat) (lo hi : Int) : Int := if tkK b n m p = 2 then (if tkV b n m p < lo ∨ hi < tkV b n m p then 2 else 0) else 1
theorem eN_1 {b : Nat → Int} {n m p : Nat} {lo hi : Int} (h : ¬ tkK b n m p = 2) : eN b n m p lo hi = 1 := if_neg h
theorem eN_2 {b : Nat → Int} {n m p : Nat} {lo hi : Int} (h : tkK b n m p = 2) (h2 : tkV b n m p < lo ∨ hi < tkV b n m p) : eN b n m p lo hi = 2 := by
  unfold eN; rw [if_pos h, if_pos h2]
theorem eN_0 {b : Nat → Int} {n m p : Nat} {lo hi : Int} (h : tkK b n m p = 2) (h2 : ¬ (tkV b n m p < lo ∨ hi < tkV b n m p)) : eN b n m p lo hi = 0 := by
  unfold eN; rw [if_pos h, if_neg h2]
theorem eN_ok {b : Nat → Int} {n m p : Nat} {lo hi : Int} (h : eN b n m p lo hi = 0) : tkK b n m p = 2 ∧ lo ≤ tkV b n m p ∧ tkV b n m p ≤ hi := by
  by_cases h1 : tkK b n m p = 2
  · by_cases h2 : tkV b n m p < lo ∨ hi < tkV b n m p
    · rw [eN_2 h1 h2] at h; omega
    · exact ⟨h1, by omega, by omega⟩
  · rw [eN_1 h1] at h; omega
theorem g_readToken {μ : Nat → Nat → Int} {c s : Nat} {b : Nat → Int} {n m p : Nat} (h : CSt μ b n m p) : ∃ A1, CTk b n m p A1 ∧ Cl PT 69 [mR 1] (mkh μ c s) (fun r => r = (some none, mkh (m_upd μ 1 A1) c s)) := by
  obtain ⟨rfl, hn, hp, h1, h2, h3⟩ := h
  obtain ⟨A1, hA, hc⟩ := c_readToken (μ := μ) (c := c) (s := s) hn hp (A := μ 1) h1 h2 h3
  rw [upd_self] at hc
  exact ⟨A1, hA, hc⟩
theorem g_next {μ : Nat → Nat → Int} {c s : Nat} {b : Nat → Int} {n m p : Nat} (hb : μ 2 = b) (ht : ∀ j, b j = μ 119 j % 256) (hn : n ≤ 940) (hp : p ≤ n) (h3 : μ 118 3 = (n : Int)) (h5 : μ 118 5 = (m : Int)) (h4 : μ 118 4 = (p : Int)) : ∃ H1, (MTk b n m p H1 ∧ FRn H1 (μ 118)) ∧ Cl PT 175 [mR 118] (mkh μ c s) (fun r => r = (some none, mkh (m_upd μ 118 H1) c s)) := by
  subst hb
  obtain ⟨H1, ⟨g1, g2, g3, g4, g5, g6, g7, g8⟩, hc⟩ := c_next (μ := μ) (c := c) (s := s) ht (m := m) hn hp (H0 := μ 118) h3 h5 h4
  rw [upd_self] at hc
  refine ⟨H1, ⟨⟨g1, (g8 5 (by decide) (by decide) (by decide) (by decide) (by decide) (by decide)).trans h5, g2, g3, g4, fun z => ?_, fun z => ?_, g7⟩, g8⟩, hc⟩
  · rw [g5 z]; exact tk_word z
  · rw [g6 z]; exact (tk_num z).1
/-- the model's next, when the token before it was good -/
theorem g_next2 {μ : Nat → Nat → Int} {c s : Nat} {b : Nat → Int} {n m p : Nat} (h : MSt μ b n m p) (hk : ¬ tkK b n m p = 0) : ∃ H1, (MTk b n m (tkN b n m p) H1 ∧ FRn H1 (μ 118)) ∧ Cl PT 175 [mR 118] (mkh μ c s) (fun r => r = (some none, mkh (m_upd μ 118 H1) c s)) := by
  obtain ⟨hb, ht, hn, hp, h1, h2, h3, h4, h5, _⟩ := h
  exact g_next hb ht hn (tkN_b hp).2.1 h1 h2 (h5 hk)
theorem mkk_2 {k : Int} : mkk k = 2 ↔ k = 2 := by
  unfold mkk; constructor
  · intro h; split at h
    · omega
    · split at h <;> omega
  · intro h; subst h; rfl
theorem mkk_1 {k : Int} : mkk k = 1 ↔ k = 1 := by
  unfold mkk; constructor
  · intro h; split at h
    · omega
    · split at h <;> omega
  · intro h; subst h; rfl
theorem mkk_3 {k : Int} : mkk k = 3 ↔ k = 3 := by
  unfold mkk; constructor
  · intro h; split at h
    · omega
    · split at h <;> omega
  · intro h; subst h; rfl
theorem mkk_0 {k : Int} : mkk k = 0 ↔ k = 4 := by
  unfold mkk; constructor
  · intro h; split at h
    · omega
    · split at h <;> omega
  · intro h; subst h; rfl
theorem g_fail {μ : Nat → Nat → Int} {c s : Nat} {e : Int} : Cl PT 45 [mR 3, mI e] (mkh μ c s) (fun r => r = (some (some (mI 0)), mkh (m_set μ 3 2 e) c s)) := by
  refine ⟨_, PT_45, Nat.le_of_ble_eq_true rfl, ?_⟩
  show Rn PT none kX5_fail 0 [some (mR 3), some (mI (e))] [] (mkh μ c s) _
  refine rn_aload_n (k' := 1) rfl rfl rfl ?_
  refine rn_iload_n (k' := 2) rfl rfl rfl ?_
  refine rn_putI (k' := 3) rfl rfl K0_3 (by decide) rfl ?_
  refine rn_iconst (k' := 4) rfl rfl ?_
  refine rn_iret rfl (Or.inr (by omega)) ?_
  rfl
theorem g_bad {μ : Nat → Nat → Int} {c s : Nat} {e : Int} : Cl PT 176 [mR 118, mI e] (mkh μ c s) (fun r => r = (some (some (mI 0)), mkh (m_set (m_set μ 118 15 e) 118 16 (μ 118 12)) c s)) := by
  refine ⟨_, PT_176, Nat.le_of_ble_eq_true rfl, ?_⟩
  show Rn PT none kX12_bad 0 [some (mR 118), some (mI (e))] [] (mkh μ c s) _
  refine rn_aload_n (k' := 1) rfl rfl rfl ?_
  refine rn_iload_n (k' := 2) rfl rfl rfl ?_
  refine rn_putI (k' := 3) rfl rfl K0_118 (by decide) rfl ?_
  refine rn_aload_n (k' := 4) rfl rfl rfl ?_
  refine rn_aload_n (k' := 5) rfl rfl rfl ?_
  refine rn_getI (k' := 6) rfl rfl K0_118 (by decide) rfl ?_
  show Rn PT none kX12_bad 6 [some (mR 118), some (mI (e))] [mI (μ 118 12), mR 118] (mkh (m_set μ 118 15 (e)) c s) _
  refine rn_putI (k' := 7) rfl rfl K0_118 (by decide) rfl ?_
  refine rn_iconst (k' := 8) rfl rfl ?_
  refine rn_iret rfl (Or.inr (by omega)) ?_
  rfl
theorem g_num {μ : Nat → Nat → Int} {c s : Nat} {b : Nat → Int} {n m p : Nat} {lo hi : Int} (h : CSt μ b n m p) (he : eN b n m p lo hi = 0) : ∃ A1, CTk b n m p A1 ∧ Cl PT 47 [mR 3, mI lo, mI hi] (mkh μ c s) (fun r => r = (some (some (mI 1)), mkh (m_upd μ 1 A1) c s)) := by
  obtain ⟨k1, k2, k3⟩ := eN_ok he
  obtain ⟨A1, hA, hcl⟩ := g_readToken (c := c) (s := s) h
  refine ⟨A1, hA, ?_⟩
  obtain ⟨a1, a2, a3, a4, a5, a6⟩ := hA
  refine ⟨_, PT_47, Nat.le_of_ble_eq_true rfl, ?_⟩
  show Rn PT none kX5_readNumber 0 [some (mR 3), some (mI (lo)), some (mI (hi))] [] (mkh μ c s) _
  refine rn_aload_n (k' := 1) rfl rfl rfl ?_
  refine rn_getR (k' := 2) rfl rfl K0_3 (by decide) rfl R0_3_0 ?_
  refine rn_callP (k' := 3) (y := 69) (vs := [mR 1]) (S' := []) (v := none) (h' := mkh (m_upd μ 1 A1) c s) rfl rfl rfl (hcl) ?_
  show Rn PT none kX5_readNumber 3 [some (mR 3), some (mI (lo)), some (mI (hi))] [] (mkh (m_upd μ 1 A1) c s) _
  refine rn_aload_n (k' := 4) rfl rfl rfl ?_
  refine rn_getR (k' := 5) rfl rfl K0_3 (by decide) rfl R0_3_0 ?_
  refine rn_getI (k' := 6) rfl rfl K0_1 (by decide) rfl ?_
  show Rn PT none kX5_readNumber 6 [some (mR 3), some (mI (lo)), some (mI (hi))] [mI (A1 5)] (mkh (m_upd μ 1 A1) c s) _
  refine rn_iconst (k' := 7) rfl rfl ?_
  refine rn_icmp_eq (k' := 8) rfl rfl (fun hc1 => ?_) (fun hc1 => ?_)
  · skip
    refine rn_aload_n (k' := 13) rfl rfl rfl ?_
    refine rn_getR (k' := 14) rfl rfl K0_3 (by decide) rfl R0_3_0 ?_
    refine rn_getI (k' := 15) rfl rfl K0_1 (by decide) rfl ?_
    show Rn PT none kX5_readNumber 15 [some (mR 3), some (mI (lo)), some (mI (hi))] [mI (A1 6)] (mkh (m_upd μ 1 A1) c s) _
    refine rn_iload_n (k' := 16) rfl rfl rfl ?_
    refine rn_icmp_lt (k' := 17) rfl rfl (fun hc2 => ?_) (fun hc2 => ?_)
    · exfalso; omega
    · skip
      refine rn_aload_n (k' := 18) rfl rfl rfl ?_
      refine rn_getR (k' := 19) rfl rfl K0_3 (by decide) rfl R0_3_0 ?_
      refine rn_getI (k' := 20) rfl rfl K0_1 (by decide) rfl ?_
      show Rn PT none kX5_readNumber 20 [some (mR 3), some (mI (lo)), some (mI (hi))] [mI (A1 6)] (mkh (m_upd μ 1 A1) c s) _
      refine rn_iload_n (k' := 21) rfl rfl rfl ?_
      refine rn_icmp_le (k' := 22) rfl rfl (fun hc3 => ?_) (fun hc3 => ?_)
      · skip
        refine rn_iconst (k' := 27) rfl rfl ?_
        refine rn_goto rfl ?_
        refine rn_iret rfl (Or.inr (by omega)) ?_
        rfl
      · exfalso; omega
  · exfalso; omega
theorem g_numX {μ : Nat → Nat → Int} {c s : Nat} {b : Nat → Int} {n m p : Nat} {lo hi : Int} (h : CSt μ b n m p) (he : ¬ eN b n m p lo hi = 0) : ∃ A1, CTk b n m p A1 ∧ Cl PT 47 [mR 3, mI lo, mI hi] (mkh μ c s) (fun r => r = (some (some (mI 0)), mkh (m_set (m_upd μ 1 A1) 3 2 (eN b n m p lo hi)) c s)) := by
  obtain ⟨A1, hA, hcl⟩ := g_readToken (c := c) (s := s) h
  refine ⟨A1, hA, ?_⟩
  obtain ⟨a1, a2, a3, a4, a5, a6⟩ := hA
  refine ⟨_, PT_47, Nat.le_of_ble_eq_true rfl, ?_⟩
  show Rn PT none kX5_readNumber 0 [some (mR 3), some (mI (lo)), some (mI (hi))] [] (mkh μ c s) _
  refine rn_aload_n (k' := 1) rfl rfl rfl ?_
  refine rn_getR (k' := 2) rfl rfl K0_3 (by decide) rfl R0_3_0 ?_
  refine rn_callP (k' := 3) (y := 69) (vs := [mR 1]) (S' := []) (v := none) (h' := mkh (m_upd μ 1 A1) c s) rfl rfl rfl (hcl) ?_
  show Rn PT none kX5_readNumber 3 [some (mR 3), some (mI (lo)), some (mI (hi))] [] (mkh (m_upd μ 1 A1) c s) _
  refine rn_aload_n (k' := 4) rfl rfl rfl ?_
  refine rn_getR (k' := 5) rfl rfl K0_3 (by decide) rfl R0_3_0 ?_
  refine rn_getI (k' := 6) rfl rfl K0_1 (by decide) rfl ?_
  show Rn PT none kX5_readNumber 6 [some (mR 3), some (mI (lo)), some (mI (hi))] [mI (A1 5)] (mkh (m_upd μ 1 A1) c s) _
  refine rn_iconst (k' := 7) rfl rfl ?_
  refine rn_icmp_eq (k' := 8) rfl rfl (fun hc1 => ?_) (fun hc1 => ?_)
  · skip
    refine rn_aload_n (k' := 13) rfl rfl rfl ?_
    refine rn_getR (k' := 14) rfl rfl K0_3 (by decide) rfl R0_3_0 ?_
    refine rn_getI (k' := 15) rfl rfl K0_1 (by decide) rfl ?_
    show Rn PT none kX5_readNumber 15 [some (mR 3), some (mI (lo)), some (mI (hi))] [mI (A1 6)] (mkh (m_upd μ 1 A1) c s) _
    refine rn_iload_n (k' := 16) rfl rfl rfl ?_
    refine rn_icmp_lt (k' := 17) rfl rfl (fun hc2 => ?_) (fun hc2 => ?_)
    · skip
      refine rn_aload_n (k' := 23) rfl rfl rfl ?_
      refine rn_iconst (k' := 24) rfl rfl ?_
      refine rn_callP (k' := 25) (y := 45) (vs := [mR 3, mI (2)]) (S' := []) (v := some (mI (0))) (h' := mkh (m_set (m_upd μ 1 A1) 3 2 (2)) c s) rfl rfl rfl (g_fail (μ := (m_upd μ 1 A1)) (e := 2)) ?_
      show Rn PT none kX5_readNumber 25 [some (mR 3), some (mI (lo)), some (mI (hi))] [mI (0)] (mkh (m_set (m_upd μ 1 A1) 3 2 (2)) c s) _
      refine rn_if_eq (k' := 26) rfl rfl (fun hc3 => ?_) (fun hc3 => ?_)
      · skip
        refine rn_iconst (k' := 29) rfl rfl ?_
        refine rn_iret rfl (Or.inr (by omega)) ?_
        rw [eN_2 (by omega) (by omega)]
      · exfalso; omega
    · skip
      refine rn_aload_n (k' := 18) rfl rfl rfl ?_
      refine rn_getR (k' := 19) rfl rfl K0_3 (by decide) rfl R0_3_0 ?_
      refine rn_getI (k' := 20) rfl rfl K0_1 (by decide) rfl ?_
      show Rn PT none kX5_readNumber 20 [some (mR 3), some (mI (lo)), some (mI (hi))] [mI (A1 6)] (mkh (m_upd μ 1 A1) c s) _
      refine rn_iload_n (k' := 21) rfl rfl rfl ?_
      refine rn_icmp_le (k' := 22) rfl rfl (fun hc4 => ?_) (fun hc4 => ?_)
      · skip
        refine rn_iconst (k' := 27) rfl rfl ?_
        refine rn_goto rfl ?_
        refine rn_iret rfl (Or.inr (by omega)) ?_
        exact absurd (eN_0 (b := b) (n := n) (m := m) (p := p) (lo := lo) (hi := hi) (by omega) (by omega)) he
      · skip
        refine rn_aload_n (k' := 23) rfl rfl rfl ?_
        refine rn_iconst (k' := 24) rfl rfl ?_
        refine rn_callP (k' := 25) (y := 45) (vs := [mR 3, mI (2)]) (S' := []) (v := some (mI (0))) (h' := mkh (m_set (m_upd μ 1 A1) 3 2 (2)) c s) rfl rfl rfl (g_fail (μ := (m_upd μ 1 A1)) (e := 2)) ?_
        show Rn PT none kX5_readNumber 25 [some (mR 3), some (mI (lo)), some (mI (hi))] [mI (0)] (mkh (m_set (m_upd μ 1 A1) 3 2 (2)) c s) _
        refine rn_if_eq (k' := 26) rfl rfl (fun hc5 => ?_) (fun hc5 => ?_)
        · skip
          refine rn_iconst (k' := 29) rfl rfl ?_
          refine rn_iret rfl (Or.inr (by omega)) ?_
          rw [eN_2 (by omega) (by omega)]
        · exfalso; omega
  · skip
    refine rn_aload_n (k' := 9) rfl rfl rfl ?_
    refine rn_iconst (k' := 10) rfl rfl ?_
    refine rn_callP (k' := 11) (y := 45) (vs := [mR 3, mI (1)]) (S' := []) (v := some (mI (0))) (h' := mkh (m_set (m_upd μ 1 A1) 3 2 (1)) c s) rfl rfl rfl (g_fail (μ := (m_upd μ 1 A1)) (e := 1)) ?_
    show Rn PT none kX5_readNumber 11 [some (mR 3), some (mI (lo)), some (mI (hi))] [mI (0)] (mkh (m_set (m_upd μ 1 A1) 3 2 (1)) c s) _
    refine rn_iret rfl (Or.inr (by omega)) ?_
    rw [eN_1 (by omega)]
theorem g_end {μ : Nat → Nat → Int} {c s : Nat} {b : Nat → Int} {n m p : Nat} (h : CSt μ b n m p) (he : tkK b n m p = 3) : ∃ A1, CTk b n m p A1 ∧ Cl PT 50 [mR 3] (mkh μ c s) (fun r => r = (some (some (mI 1)), mkh (m_upd μ 1 A1) c s)) := by
  obtain ⟨A1, hA, hcl⟩ := g_readToken (c := c) (s := s) h
  refine ⟨A1, hA, ?_⟩
  obtain ⟨a1, a2, a3, a4, a5, a6⟩ := hA
  refine ⟨_, PT_50, Nat.le_of_ble_eq_true rfl, ?_⟩
  show Rn PT none kX5_readLineEnd 0 [some (mR 3)] [] (mkh μ c s) _
  refine rn_aload_n (k' := 1) rfl rfl rfl ?_
  refine rn_getR (k' := 2) rfl rfl K0_3 (by decide) rfl R0_3_0 ?_
  refine rn_callP (k' := 3) (y := 69) (vs := [mR 1]) (S' := []) (v := none) (h' := mkh (m_upd μ 1 A1) c s) rfl rfl rfl (hcl) ?_
  show Rn PT none kX5_readLineEnd 3 [some (mR 3)] [] (mkh (m_upd μ 1 A1) c s) _
  refine rn_aload_n (k' := 4) rfl rfl rfl ?_
  refine rn_getR (k' := 5) rfl rfl K0_3 (by decide) rfl R0_3_0 ?_
  refine rn_getI (k' := 6) rfl rfl K0_1 (by decide) rfl ?_
  show Rn PT none kX5_readLineEnd 6 [some (mR 3)] [mI (A1 5)] (mkh (m_upd μ 1 A1) c s) _
  refine rn_iconst (k' := 7) rfl rfl ?_
  refine rn_icmp_eq (k' := 8) rfl rfl (fun hc1 => ?_) (fun hc1 => ?_)
  · skip
    refine rn_iconst (k' := 13) rfl rfl ?_
    refine rn_goto rfl ?_
    refine rn_iret rfl (Or.inr (by omega)) ?_
    rfl
  · exfalso; omega
theorem g_endX {μ : Nat → Nat → Int} {c s : Nat} {b : Nat → Int} {n m p : Nat} (h : CSt μ b n m p) (he : ¬ tkK b n m p = 3) : ∃ A1, CTk b n m p A1 ∧ Cl PT 50 [mR 3] (mkh μ c s) (fun r => r = (some (some (mI 0)), mkh (m_set (m_upd μ 1 A1) 3 2 1) c s)) := by
  obtain ⟨A1, hA, hcl⟩ := g_readToken (c := c) (s := s) h
  refine ⟨A1, hA, ?_⟩
  obtain ⟨a1, a2, a3, a4, a5, a6⟩ := hA
  refine ⟨_, PT_50, Nat.le_of_ble_eq_true rfl, ?_⟩
  show Rn PT none kX5_readLineEnd 0 [some (mR 3)] [] (mkh μ c s) _
  refine rn_aload_n (k' := 1) rfl rfl rfl ?_
  refine rn_getR (k' := 2) rfl rfl K0_3 (by decide) rfl R0_3_0 ?_
  refine rn_callP (k' := 3) (y := 69) (vs := [mR 1]) (S' := []) (v := none) (h' := mkh (m_upd μ 1 A1) c s) rfl rfl rfl (hcl) ?_
  show Rn PT none kX5_readLineEnd 3 [some (mR 3)] [] (mkh (m_upd μ 1 A1) c s) _
  refine rn_aload_n (k' := 4) rfl rfl rfl ?_
  refine rn_getR (k' := 5) rfl rfl K0_3 (by decide) rfl R0_3_0 ?_
  refine rn_getI (k' := 6) rfl rfl K0_1 (by decide) rfl ?_
  show Rn PT none kX5_readLineEnd 6 [some (mR 3)] [mI (A1 5)] (mkh (m_upd μ 1 A1) c s) _
  refine rn_iconst (k' := 7) rfl rfl ?_
  refine rn_icmp_eq (k' := 8) rfl rfl (fun hc1 => ?_) (fun hc1 => ?_)
  · exfalso; omega
  · skip
    refine rn_aload_n (k' := 9) rfl rfl rfl ?_
    refine rn_iconst (k' := 10) rfl rfl ?_
    refine rn_callP (k' := 11) (y := 45) (vs := [mR 3, mI (1)]) (S' := []) (v := some (mI (0))) (h' := mkh (m_set (m_upd μ 1 A1) 3 2 (1)) c s) rfl rfl rfl (g_fail (μ := (m_upd μ 1 A1)) (e := 1)) ?_
    show Rn PT none kX5_readLineEnd 11 [some (mR 3)] [mI (0)] (mkh (m_set (m_upd μ 1 A1) 3 2 (1)) c s) _
    refine rn_if_eq (k' := 12) rfl rfl (fun hc2 => ?_) (fun hc2 => ?_)
    · skip
      refine rn_iconst (k' := 15) rfl rfl ?_
      refine rn_iret rfl (Or.inr (by omega)) ?_
      rfl
    · exfalso; omega
theorem g_takesX {μ : Nat → Nat → Int} {c s : Nat} {b : Nat → Int} {n m p : Nat} {lo hi : Int} (h : MSt μ b n m p) (he : ¬ eN b n m p lo hi = 0) : Cl PT 181 [mR 118, mI lo, mI hi] (mkh μ c s) (fun r => r = (some (some (mI 0)), mkh (m_set (m_set μ 118 15 (eN b n m p lo hi)) 118 16 ((tkP b n m p : Nat) : Int)) c s)) := by
  obtain ⟨hb, ht, hn, hp, h3, h5, h12, h11, h4, h17, h14, hs⟩ := h
  by_cases hk2 : tkK b n m p = 2
  · have h11b := (mkk_2 (k := tkK b n m p)).mpr hk2
    have h14b := h14 hk2
    have hne : tkV b n m p < lo ∨ hi < tkV b n m p := Classical.byContradiction (fun z => he (eN_0 hk2 z))
    refine ⟨_, PT_181, Nat.le_of_ble_eq_true rfl, ?_⟩
    show Rn PT none kX12_takes 0 [some (mR 118), some (mI (lo)), some (mI (hi))] [] (mkh μ c s) _
    refine rn_aload_n (k' := 1) rfl rfl rfl ?_
    refine rn_getI (k' := 2) rfl rfl K0_118 (by decide) rfl ?_
    refine rn_iconst (k' := 3) rfl rfl ?_
    refine rn_icmp_eq (k' := 4) rfl rfl (fun hc1 => ?_) (fun hc1 => ?_)
    · skip
      refine rn_aload_n (k' := 9) rfl rfl rfl ?_
      refine rn_getI (k' := 10) rfl rfl K0_118 (by decide) rfl ?_
      refine rn_iload_n (k' := 11) rfl rfl rfl ?_
      refine rn_iload_n (k' := 12) rfl rfl rfl ?_
      by_cases hq2 : lo ≤ μ 118 14 ∧ μ 118 14 ≤ hi
      · exfalso; omega
      · refine rn_callP (k' := 13) (y := 167) (vs := [mI (μ 118 14), mI (lo), mI (hi)]) (S' := []) (v := some (mI 0)) (h' := mkh μ c s) rfl rfl rfl (by have hz : Cl PT 167 [mI (μ 118 14), mI (lo), mI (hi)] (mkh μ c s) (fun r => r = (some (some (mI (if lo ≤ μ 118 14 ∧ μ 118 14 ≤ hi then 1 else 0))), mkh μ c s)) := c_X12_isIn (v := μ 118 14) (lo := lo) (hi := hi) (μ := μ) (c := c) (s := s); rw [if_neg hq2] at hz; exact hz) ?_
        show Rn PT none kX12_takes 13 [some (mR 118), some (mI (lo)), some (mI (hi))] [mI (0)] (mkh μ c s) _
        refine rn_if_ne (k' := 14) rfl rfl (fun hc3 => ?_) (fun hc3 => ?_)
        · exfalso; omega
        · skip
          refine rn_aload_n (k' := 15) rfl rfl rfl ?_
          refine rn_iconst (k' := 16) rfl rfl ?_
          refine rn_callP (k' := 17) (y := 176) (vs := [mR 118, mI (2)]) (S' := []) (v := some (mI (0))) (h' := mkh (m_set (m_set μ 118 15 (2)) 118 16 (μ 118 12)) c s) rfl rfl rfl (g_bad (μ := μ) (e := 2)) ?_
          show Rn PT none kX12_takes 17 [some (mR 118), some (mI (lo)), some (mI (hi))] [mI (0)] (mkh (m_set (m_set μ 118 15 (2)) 118 16 (μ 118 12)) c s) _
          refine rn_iret rfl (Or.inr (by omega)) ?_
          rw [h12, eN_2 hk2 (by omega)]
    · exfalso; omega
  · have h11b : ¬ mkk (tkK b n m p) = 2 := fun z => hk2 (mkk_2.mp z)
    refine ⟨_, PT_181, Nat.le_of_ble_eq_true rfl, ?_⟩
    show Rn PT none kX12_takes 0 [some (mR 118), some (mI (lo)), some (mI (hi))] [] (mkh μ c s) _
    refine rn_aload_n (k' := 1) rfl rfl rfl ?_
    refine rn_getI (k' := 2) rfl rfl K0_118 (by decide) rfl ?_
    refine rn_iconst (k' := 3) rfl rfl ?_
    refine rn_icmp_eq (k' := 4) rfl rfl (fun hc1 => ?_) (fun hc1 => ?_)
    · exfalso; omega
    · skip
      refine rn_aload_n (k' := 5) rfl rfl rfl ?_
      refine rn_iconst (k' := 6) rfl rfl ?_
      refine rn_callP (k' := 7) (y := 176) (vs := [mR 118, mI (1)]) (S' := []) (v := some (mI (0))) (h' := mkh (m_set (m_set μ 118 15 (1)) 118 16 (μ 118 12)) c s) rfl rfl rfl (g_bad (μ := μ) (e := 1)) ?_
      show Rn PT none kX12_takes 7 [some (mR 118), some (mI (lo)), some (mI (hi))] [mI (0)] (mkh (m_set (m_set μ 118 15 (1)) 118 16 (μ 118 12)) c s) _
      refine rn_iret rfl (Or.inr (by omega)) ?_
      rw [h12, eN_1 hk2]
theorem g_takes {μ : Nat → Nat → Int} {c s : Nat} {b : Nat → Int} {n m p : Nat} {lo hi : Int} (h : MSt μ b n m p) (he : eN b n m p lo hi = 0) : ∃ H1, (MTk b n m (tkN b n m p) H1 ∧ H1 18 = tkV b n m p ∧ (∀ j, ¬ j = 4 → ¬ j = 11 → ¬ j = 12 → ¬ j = 13 → ¬ j = 14 → ¬ j = 17 → ¬ j = 18 → H1 j = μ 118 j)) ∧ Cl PT 181 [mR 118, mI lo, mI hi] (mkh μ c s) (fun r => r = (some (some (mI 1)), mkh (m_upd μ 118 H1) c s)) := by
  obtain ⟨k1, k2, k3⟩ := eN_ok he
  have hk0 : ¬ tkK b n m p = 0 := by omega
  have hk3 : ¬ tkK b n m p = 3 := by omega
  obtain ⟨H1, ⟨hm, hf⟩, hcl⟩ := g_next2 (μ := m_set μ 118 18 (μ 118 14)) (c := c) (s := s) (b := b) (n := n) (m := m) (p := p) h hk0
  obtain ⟨hb, ht, hn, hp, h3, h5, h12, h11, h4, h17, h14, hs⟩ := h
  have h11b := (mkk_2 (k := tkK b n m p)).mpr k1
  have h14b := h14 k1
  refine ⟨H1, ⟨hm, (hf 18 (by decide) (by decide) (by decide) (by decide) (by decide) (by decide)).trans h14b, fun j j1 j2 j3 j4 j5 j6 j7 => (hf j j1 j2 j3 j4 j5 j6).trans ?_⟩, ?_⟩
  · show (if (118 = 118 ∧ j = 18) then _ else _) = _
    rw [if_neg (fun z => j7 z.2)]
  refine ⟨_, PT_181, Nat.le_of_ble_eq_true rfl, ?_⟩
  show Rn PT none kX12_takes 0 [some (mR 118), some (mI (lo)), some (mI (hi))] [] (mkh μ c s) _
  refine rn_aload_n (k' := 1) rfl rfl rfl ?_
  refine rn_getI (k' := 2) rfl rfl K0_118 (by decide) rfl ?_
  refine rn_iconst (k' := 3) rfl rfl ?_
  refine rn_icmp_eq (k' := 4) rfl rfl (fun hc1 => ?_) (fun hc1 => ?_)
  · skip
    refine rn_aload_n (k' := 9) rfl rfl rfl ?_
    refine rn_getI (k' := 10) rfl rfl K0_118 (by decide) rfl ?_
    refine rn_iload_n (k' := 11) rfl rfl rfl ?_
    refine rn_iload_n (k' := 12) rfl rfl rfl ?_
    by_cases hq2 : lo ≤ μ 118 14 ∧ μ 118 14 ≤ hi
    · refine rn_callP (k' := 13) (y := 167) (vs := [mI (μ 118 14), mI (lo), mI (hi)]) (S' := []) (v := some (mI 1)) (h' := mkh μ c s) rfl rfl rfl (by have hz : Cl PT 167 [mI (μ 118 14), mI (lo), mI (hi)] (mkh μ c s) (fun r => r = (some (some (mI (if lo ≤ μ 118 14 ∧ μ 118 14 ≤ hi then 1 else 0))), mkh μ c s)) := c_X12_isIn (v := μ 118 14) (lo := lo) (hi := hi) (μ := μ) (c := c) (s := s); rw [if_pos hq2] at hz; exact hz) ?_
      show Rn PT none kX12_takes 13 [some (mR 118), some (mI (lo)), some (mI (hi))] [mI (1)] (mkh μ c s) _
      refine rn_if_ne (k' := 14) rfl rfl (fun hc3 => ?_) (fun hc3 => ?_)
      · skip
        refine rn_aload_n (k' := 19) rfl rfl rfl ?_
        refine rn_aload_n (k' := 20) rfl rfl rfl ?_
        refine rn_getI (k' := 21) rfl rfl K0_118 (by decide) rfl ?_
        refine rn_putI (k' := 22) rfl rfl K0_118 (by decide) rfl ?_
        refine rn_aload_n (k' := 23) rfl rfl rfl ?_
        refine rn_callP (k' := 24) (y := 175) (vs := [mR 118]) (S' := []) (v := none) (h' := mkh (m_upd (m_set μ 118 18 (μ 118 14)) 118 H1) c s) rfl rfl rfl (hcl) ?_
        show Rn PT none kX12_takes 24 [some (mR 118), some (mI (lo)), some (mI (hi))] [] (mkh (m_upd (m_set μ 118 18 (μ 118 14)) 118 H1) c s) _
        refine rn_iconst (k' := 25) rfl rfl ?_
        refine rn_iret rfl (Or.inr (by omega)) ?_
        rw [upd_set]
      · exfalso; omega
    · exfalso; omega
  · exfalso; omega
