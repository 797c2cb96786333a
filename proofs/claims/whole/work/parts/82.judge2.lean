variable {N : Int}
/-! ===== printed by wip/whole/gen82.py: judge of the model, whole; pair: judge ===== -/
def kK (a j : Nat) : Bool := sup a j && !(a == 136 || (a == 118 && (j == 44 || j == 34)) || a == 131 || (a == 120 && (Nat.ble 517 j && Nat.ble j 535)))
theorem kK_120f {j : Nat} (h : 517 ≤ j ∧ j < 536) : kK 120 j = false := by
  show (!(false || (true && (Nat.ble 517 j && Nat.ble j 535)))) = false
  rw [show Nat.ble 517 j = true from by rw [Nat.ble_eq]; omega, show Nat.ble j 535 = true from by rw [Nat.ble_eq]; omega]
  rfl
theorem kK_kM {μ ν : Nat → Nat → Int} (h : rm kK ν = rm kK μ) : rm kM ν = rm kM μ := rm_sub (k := kK) (fun a j hj => by
  unfold kM kJ at hj
  unfold kK
  simp only [Bool.and_eq_true, Bool.not_eq_true', Bool.or_eq_false_iff, Bool.and_eq_false_iff] at hj ⊢
  obtain ⟨⟨h1, h2⟩, h3⟩ := hj
  refine ⟨h1, ?_⟩
  simp only [h2, h3, and_self, true_and, and_true]
  rcases h2.2 with z | z <;> rcases h3.1.2 with y | y <;> simp [z, y]) h
theorem frm_rm {μ M : Nat → Nat → Int} (h : frm μ M) {n : Int} {s : JT} (hM : MS n (μ 120) s (M 120)) : rm kK M = rm kK μ := rm_same (fun a j hk => by
  by_cases e1 : a = 118
  · subst e1
    exact h.2 j (fun z => by subst z; cases hk) (fun z => by subst z; cases hk)
  · by_cases e2 : a = 120
    · subst e2
      refine hM.2.2.2.2 j ?_
      by_cases z : 517 ≤ j ∧ j < 536
      · rw [kK_120f z] at hk; cases hk
      · omega
    · by_cases e3 : a = 125
      · subst e3; cases hk
      · by_cases e4 : a = 126
        · subst e4; cases hk
        · by_cases e5 : a = 136
          · subst e5; cases hk
          · rw [h.1 a e1 e2 e3 e4 e5])
def VDF (μ ν : Nat → Nat → Int) (s0 : JT) : Prop := ν 118 44 = 1 ∧ ν 136 0 = (jr μ s0 (μ 17 0).toNat).1 ∧ ν 136 1 = (jr μ s0 (μ 17 0).toNat).2.1 ∧ ν 136 2 = jd (jr μ s0 (μ 17 0).toNat).2.2 ∧ ν 136 3 = fS (jh (jr μ s0 (μ 17 0).toNat).2.2) (μ 6 13).toNat ∧ ν 136 4 = js (jr μ s0 (μ 17 0).toNat).2.2 ∧ ν 136 5 = jt (jr μ s0 (μ 17 0).toNat).2.2 - jt s0
set_option maxHeartbeats 4000000 in
theorem l_jg1 {μ : Nat → Nat → Int} {c s : Nat} {lv : Int} {v3 v4 : Option MV} {Q : MR → Prop} (K : Rn PT none kX12_judge 27 [some (mR 118), some (mI (lv)), some (mI (19)), v3, v4] [] (mkh (m_upd μ 137 (pbn (μ 137) 0 (fun k => μ 120 (517 + k)) 19)) c s) Q) : ∀ (d n : Nat) (k : Int) (U : Nat → Int), k = (n : Int) → (n : Int) + d = 19 → U = pbn (μ 137) 0 (fun k => μ 120 (517 + k)) n → Rn PT none kX12_judge 12 [some (mR 118), some (mI (lv)), some (mI (k)), v3, v4] [] (mkh (m_upd μ 137 U) c s) Q := by
  intro d
  induction d with
  | zero =>
    intro n k U ek hn hU
    subst ek
    refine rn_iload_n (k' := 13) rfl rfl rfl ?_
    refine rn_bipush (k' := 14) rfl rfl ?_
    refine rn_icmp_ge (k' := 15) rfl rfl (fun hc1 => ?_) (fun hc1 => ?_)
    · skip
      have hn2 : n = 19 := by omega
      subst hn2
      rw [hU]
      exact K
    · exfalso; omega
  | succ d ih =>
    intro n k U ek hn hU
    subst ek
    refine rn_iload_n (k' := 13) rfl rfl rfl ?_
    refine rn_bipush (k' := 14) rfl rfl ?_
    refine rn_icmp_ge (k' := 15) rfl rfl (fun hc1 => ?_) (fun hc1 => ?_)
    · exfalso; omega
    · skip
      refine rn_aload_n (k' := 16) rfl rfl rfl ?_
      refine rn_getR (k' := 17) rfl rfl K0_118 (by decide) rfl R0_118_43 ?_
      refine rn_iload_n (k' := 18) rfl rfl rfl ?_
      refine rn_aload_n (k' := 19) rfl rfl rfl ?_
      refine rn_getR (k' := 20) rfl rfl K0_118 (by decide) rfl R0_118_6 ?_
      refine rn_sipush (k' := 21) rfl rfl ?_
      refine rn_iload_n (k' := 22) rfl rfl rfl ?_
      refine rn_iadd (k' := 23) rfl rfl (by omega) ?_
      refine rn_iaload (k' := 24) rfl rfl K0_120 (by omega) (by omega) ?_
      show Rn PT none kX12_judge 24 [some (mR 118), some (mI (lv)), some (mI ((n : Int))), v3, v4] [mI (μ 120 (517 + n)), mI ((n : Int)), mR 137] (mkh (m_upd μ 137 U) c s) _
      refine rn_iastore (k' := 25) rfl rfl K0_137 (by omega) (by omega) ?_
      refine rn_iinc (k' := 26) (L' := [some (mR 118), some (mI (lv)), some (mI ((n : Int) + 1)), v3, v4]) rfl rfl rfl (by omega) rfl ?_
      refine rn_goto rfl ?_
      show Rn PT none kX12_judge 12 [some (mR 118), some (mI (lv)), some (mI ((n : Int) + 1)), v3, v4] [] (mkh (m_set (m_upd μ 137 U) 137 n (μ 120 (517 + n))) c s) _
      rw [set_upd_eq]
      exact ih (n + 1) _ _ (by omega) (by omega) (by rw [hU, show fs (pbn (μ 137) 0 (fun k => μ 120 (517 + k)) n) n = fs (pbn (μ 137) 0 (fun k => μ 120 (517 + k)) n) (0 + n) by rw [Nat.zero_add]]; exact pbn_step (b := fun k => μ 120 (517 + k)))
set_option maxHeartbeats 4000000 in
theorem l_jg2 {μ : Nat → Nat → Int} {c s : Nat} {lv : Int} {v3 v4 : Option MV} {Q : MR → Prop} (K : Rn PT none kX12_judge 39 [some (mR 118), some (mI (lv)), some (mI (6)), v3, v4] [] (mkh (m_upd μ 136 (pbn (μ 136) 0 (fun k => 0) 6)) c s) Q) : ∀ (d n : Nat) (k : Int) (U : Nat → Int), k = (n : Int) → (n : Int) + d = 6 → U = pbn (μ 136) 0 (fun k => 0) n → Rn PT none kX12_judge 29 [some (mR 118), some (mI (lv)), some (mI (k)), v3, v4] [] (mkh (m_upd μ 136 U) c s) Q := by
  intro d
  induction d with
  | zero =>
    intro n k U ek hn hU
    subst ek
    refine rn_iload_n (k' := 30) rfl rfl rfl ?_
    refine rn_bipush (k' := 31) rfl rfl ?_
    refine rn_icmp_ge (k' := 32) rfl rfl (fun hc1 => ?_) (fun hc1 => ?_)
    · skip
      have hn2 : n = 6 := by omega
      subst hn2
      rw [hU]
      exact K
    · exfalso; omega
  | succ d ih =>
    intro n k U ek hn hU
    subst ek
    refine rn_iload_n (k' := 30) rfl rfl rfl ?_
    refine rn_bipush (k' := 31) rfl rfl ?_
    refine rn_icmp_ge (k' := 32) rfl rfl (fun hc1 => ?_) (fun hc1 => ?_)
    · exfalso; omega
    · skip
      refine rn_aload_n (k' := 33) rfl rfl rfl ?_
      refine rn_getR (k' := 34) rfl rfl K0_118 (by decide) rfl R0_118_42 ?_
      refine rn_iload_n (k' := 35) rfl rfl rfl ?_
      refine rn_iconst (k' := 36) rfl rfl ?_
      refine rn_iastore (k' := 37) rfl rfl K0_136 (by omega) (by omega) ?_
      refine rn_iinc (k' := 38) (L' := [some (mR 118), some (mI (lv)), some (mI ((n : Int) + 1)), v3, v4]) rfl rfl rfl (by omega) rfl ?_
      refine rn_goto rfl ?_
      show Rn PT none kX12_judge 29 [some (mR 118), some (mI (lv)), some (mI ((n : Int) + 1)), v3, v4] [] (mkh (m_set (m_upd μ 136 U) 136 n (0)) c s) _
      rw [set_upd_eq]
      exact ih (n + 1) _ _ (by omega) (by omega) (by rw [hU, show fs (pbn (μ 136) 0 (fun k => 0) n) n = fs (pbn (μ 136) 0 (fun k => 0) n) (0 + n) by rw [Nat.zero_add]]; exact pbn_step (b := fun k => 0))
set_option maxHeartbeats 4000000 in
theorem l_jg3 {μ : Nat → Nat → Int} {c s : Nat} {lv wr : Int} {v4 : Option MV} {Q : MR → Prop} (h34 : 1 ≤ μ 118 34 ∧ μ 118 34 ≤ 8) (K : Rn PT none kX12_judge 146 [some (mR 118), some (mI (lv)), some (mI (wr)), some (mI (19)), v4] [] (mkh (m_upd μ 131 (pbn (μ 131) (19 * (μ 118 34 - 1)).toNat (fun k => μ 137 k) 19)) c s) Q) : ∀ (d n : Nat) (k : Int) (U : Nat → Int), k = (n : Int) → (n : Int) + d = 19 → U = pbn (μ 131) (19 * (μ 118 34 - 1)).toNat (fun k => μ 137 k) n → Rn PT none kX12_judge 126 [some (mR 118), some (mI (lv)), some (mI (wr)), some (mI (k)), v4] [] (mkh (m_upd μ 131 U) c s) Q := by
  intro d
  induction d with
  | zero =>
    intro n k U ek hn hU
    subst ek
    refine rn_iload_n (k' := 127) rfl rfl rfl ?_
    refine rn_bipush (k' := 128) rfl rfl ?_
    refine rn_icmp_ge (k' := 129) rfl rfl (fun hc1 => ?_) (fun hc1 => ?_)
    · skip
      have hn2 : n = 19 := by omega
      subst hn2
      rw [hU]
      exact K
    · exfalso; omega
  | succ d ih =>
    intro n k U ek hn hU
    subst ek
    refine rn_iload_n (k' := 127) rfl rfl rfl ?_
    refine rn_bipush (k' := 128) rfl rfl ?_
    refine rn_icmp_ge (k' := 129) rfl rfl (fun hc1 => ?_) (fun hc1 => ?_)
    · exfalso; omega
    · skip
      refine rn_aload_n (k' := 130) rfl rfl rfl ?_
      refine rn_getR (k' := 131) rfl rfl K0_118 (by decide) rfl R0_118_32 ?_
      refine rn_bipush (k' := 132) rfl rfl ?_
      refine rn_aload_n (k' := 133) rfl rfl rfl ?_
      refine rn_getI (k' := 134) rfl rfl K0_118 (by decide) rfl ?_
      show Rn PT none kX12_judge 134 [some (mR 118), some (mI (lv)), some (mI (wr)), some (mI ((n : Int))), v4] [mI (μ 118 34), mI (19), mR 131] (mkh (m_upd μ 131 U) c s) _
      refine rn_iconst (k' := 135) rfl rfl ?_
      refine rn_isub (k' := 136) rfl rfl (by omega) ?_
      refine rn_imul (k' := 137) rfl rfl (by omega) ?_
      refine rn_iload_n (k' := 138) rfl rfl rfl ?_
      refine rn_iadd (k' := 139) rfl rfl (by omega) ?_
      refine rn_aload_n (k' := 140) rfl rfl rfl ?_
      refine rn_getR (k' := 141) rfl rfl K0_118 (by decide) rfl R0_118_43 ?_
      refine rn_iload_n (k' := 142) rfl rfl rfl ?_
      refine rn_iaload (k' := 143) rfl rfl K0_137 (by omega) (by omega) ?_
      show Rn PT none kX12_judge 143 [some (mR 118), some (mI (lv)), some (mI (wr)), some (mI ((n : Int))), v4] [mI (μ 137 (n)), mI ((19 * ((μ 118 34) - 1)) + (n : Int)), mR 131] (mkh (m_upd μ 131 U) c s) _
      refine rn_iastore (k' := 144) rfl rfl K0_131 (by omega) (by omega) ?_
      refine rn_iinc (k' := 145) (L' := [some (mR 118), some (mI (lv)), some (mI (wr)), some (mI ((n : Int) + 1)), v4]) rfl rfl rfl (by omega) rfl ?_
      refine rn_goto rfl ?_
      show Rn PT none kX12_judge 126 [some (mR 118), some (mI (lv)), some (mI (wr)), some (mI ((n : Int) + 1)), v4] [] (mkh (m_set (m_upd μ 131 U) 131 (((19 * ((μ 118 34) - 1)) + (n : Int)).toNat) (μ 137 (n))) c s) _
      rw [set_upd_eq]
      exact ih (n + 1) _ _ (by omega) (by omega) (by rw [show ((19 * (μ 118 34 - 1)) + (n : Int)).toNat = (19 * (μ 118 34 - 1)).toNat + n by omega, hU]; exact pbn_step (b := fun k => μ 137 k))
set_option maxHeartbeats 4000000 in
theorem l_jg4 {μ : Nat → Nat → Int} {c s : Nat} {wr : Int} {v4 : Option MV} {Q : MR → Prop} (K : Rn PT none kX12_judge 165 [some (mR 118), some (mI (0)), some (mI (wr)), some (mI (19)), v4] [] (mkh (m_upd μ 120 (pbn (μ 120) 517 (fun k => μ 137 k) 19)) c s) Q) : ∀ (d n : Nat) (k : Int) (U : Nat → Int), k = (n : Int) → (n : Int) + d = 19 → U = pbn (μ 120) 517 (fun k => μ 137 k) n → Rn PT none kX12_judge 148 [some (mR 118), some (mI (0)), some (mI (wr)), some (mI (k)), v4] [] (mkh (m_upd μ 120 U) c s) Q := by
  intro d
  induction d with
  | zero =>
    intro n k U ek hn hU
    subst ek
    refine rn_iload_n (k' := 149) rfl rfl rfl ?_
    refine rn_bipush (k' := 150) rfl rfl ?_
    refine rn_icmp_ge (k' := 151) rfl rfl (fun hc1 => ?_) (fun hc1 => ?_)
    · skip
      have hn2 : n = 19 := by omega
      subst hn2
      rw [hU]
      exact K
    · exfalso; omega
  | succ d ih =>
    intro n k U ek hn hU
    subst ek
    refine rn_iload_n (k' := 149) rfl rfl rfl ?_
    refine rn_bipush (k' := 150) rfl rfl ?_
    refine rn_icmp_ge (k' := 151) rfl rfl (fun hc1 => ?_) (fun hc1 => ?_)
    · exfalso; omega
    · skip
      refine rn_iload_n (k' := 152) rfl rfl rfl ?_
      refine rn_if_ne (k' := 153) rfl rfl (fun hc2 => ?_) (fun hc2 => ?_)
      · exfalso; omega
      · skip
        refine rn_aload_n (k' := 154) rfl rfl rfl ?_
        refine rn_getR (k' := 155) rfl rfl K0_118 (by decide) rfl R0_118_6 ?_
        refine rn_sipush (k' := 156) rfl rfl ?_
        refine rn_iload_n (k' := 157) rfl rfl rfl ?_
        refine rn_iadd (k' := 158) rfl rfl (by omega) ?_
        refine rn_aload_n (k' := 159) rfl rfl rfl ?_
        refine rn_getR (k' := 160) rfl rfl K0_118 (by decide) rfl R0_118_43 ?_
        refine rn_iload_n (k' := 161) rfl rfl rfl ?_
        refine rn_iaload (k' := 162) rfl rfl K0_137 (by omega) (by omega) ?_
        show Rn PT none kX12_judge 162 [some (mR 118), some (mI (0)), some (mI (wr)), some (mI ((n : Int))), v4] [mI (μ 137 (n)), mI (517 + (n : Int)), mR 120] (mkh (m_upd μ 120 U) c s) _
        refine rn_iastore (k' := 163) rfl rfl K0_120 (by omega) (by omega) ?_
        refine rn_iinc (k' := 164) (L' := [some (mR 118), some (mI (0)), some (mI (wr)), some (mI ((n : Int) + 1)), v4]) rfl rfl rfl (by omega) rfl ?_
        refine rn_goto rfl ?_
        show Rn PT none kX12_judge 148 [some (mR 118), some (mI (0)), some (mI (wr)), some (mI ((n : Int) + 1)), v4] [] (mkh (m_set (m_upd μ 120 U) 120 (517 + n) (μ 137 (n))) c s) _
        rw [set_upd_eq]
        exact ih (n + 1) _ _ (by omega) (by omega) (by rw [hU]; exact pbn_step (b := fun k => μ 137 k))
set_option maxHeartbeats 8000000 in
theorem x_X12_judge_1n {μ : Nat → Nat → Int} {c s : Nat} (hL : I_land μ) (hP : I_plan μ) {T : Int} (hT : T ≤ 800000) {s0 : JT} (h0 : jOK μ T 0 s0) (hwf : jw s0 = -1 ↔ μ 6 14 = -1) (hM0 : MS (μ 6 13) (μ 120) s0 (μ 120)) (h34 : 0 ≤ μ 118 34 ∧ μ 118 34 ≤ 8) (hz : (jr μ s0 (μ 17 0).toNat).2.1 ≤ 0) : Cl PT 268 [mR 118, mI 1] (mkh μ c s) (fun r => ∃ ν, r = (some (some (mI (if (jr μ s0 (μ 17 0).toNat).1 = 0 then -1 else (jr μ s0 (μ 17 0).toNat).2.1))), mkh ν c s) ∧ VDF μ ν s0 ∧ rm kK ν = rm kK μ ∧ MS (μ 6 13) (μ 120) (jr μ s0 (μ 17 0).toNat).2.2 (ν 120) ∧ ν 131 = μ 131 ∧ ν 118 34 = μ 118 34) := by
  have hpl := hP.1
  have hLA : I_land (m_upd (m_upd (m_set μ 118 0 0) 137 (pbn (μ 137) 0 (fun k => μ 120 (517 + k)) 19)) 136 (pbn (μ 136) 0 (fun k => 0) 6)) := hL.congr rfl rfl rfl rfl rfl (fun _ _ => rfl)
  have hPA : I_plan (m_upd (m_upd (m_set μ 118 0 0) 137 (pbn (μ 137) 0 (fun k => μ 120 (517 + k)) 19)) 136 (pbn (μ 136) 0 (fun k => 0) 6)) := hP.congr rfl rfl rfl rfl rfl (fun _ _ _ => rfl)
  have hjs : js s0 = 0 := by have := h0.2.2.2.2.2; omega
  obtain ⟨j1, j2, j3, j4, j5, j6, j7⟩ := jr_ok hL hP h0 (μ 17 0).toNat (by omega)
  refine ⟨_, PT_268, Nat.le_of_ble_eq_true rfl, ?_⟩
  show Rn PT none kX12_judge 0 [some (mR 118), some (mI (1)), none, none, none] [] (mkh μ c s) _
  refine rn_aload_n (k' := 1) rfl rfl rfl ?_
  refine rn_iconst (k' := 2) rfl rfl ?_
  refine rn_putI (k' := 3) rfl rfl K0_118 (by decide) rfl ?_
  refine rn_iload_n (k' := 4) rfl rfl rfl ?_
  refine rn_iconst (k' := 5) rfl rfl ?_
  refine rn_iconst (k' := 6) rfl rfl ?_
  by_cases hq2 : 0 ≤ 1 ∧ 1 ≤ 1
  · refine rn_callP (k' := 7) (y := 167) (vs := [mI (1), mI (0), mI (1)]) (S' := []) (v := some (mI 1)) (h' := mkh (m_set μ 118 0 (0)) c s) rfl rfl rfl (by have hz : Cl PT 167 [mI (1), mI (0), mI (1)] (mkh (m_set μ 118 0 (0)) c s) (fun r => r = (some (some (mI (if 0 ≤ 1 ∧ 1 ≤ 1 then 1 else 0))), mkh (m_set μ 118 0 (0)) c s)) := c_X12_isIn (v := 1) (lo := 0) (hi := 1) (μ := (m_set μ 118 0 (0))) (c := c) (s := s); rw [if_pos hq2] at hz; exact hz) ?_
    show Rn PT none kX12_judge 7 [some (mR 118), some (mI (1)), none, none, none] [mI (1)] (mkh (m_set μ 118 0 (0)) c s) _
    refine rn_if_ne (k' := 8) rfl rfl (fun hc3 => ?_) (fun hc3 => ?_)
    · skip
      refine rn_iconst (k' := 11) rfl rfl ?_
      refine rn_istore_n (k' := 12) (L' := [some (mR 118), some (mI (1)), some (mI (0)), none, none]) rfl rfl (Nat.le_of_ble_eq_true rfl) rfl ?_
      have h1 := fun Q K => l_jg1 (μ := m_set μ 118 0 0) (c := c) (s := s) (lv := 1) (v3 := none) (v4 := none) (Q := Q) K 19 0 0 (m_set μ 118 0 0 137) rfl rfl pbn_0.symm
      rw [upd_self] at h1
      refine h1 _ ?_
      refine rn_iconst (k' := 28) rfl rfl ?_
      refine rn_istore_n (k' := 29) (L' := [some (mR 118), some (mI (1)), some (mI (0)), none, none]) rfl rfl (Nat.le_of_ble_eq_true rfl) rfl ?_
      have h2 := fun Q K => l_jg2 (μ := (m_upd (m_set μ 118 0 0) 137 (pbn (μ 137) 0 (fun k => μ 120 (517 + k)) 19))) (c := c) (s := s) (lv := 1) (v3 := none) (v4 := none) (Q := Q) K 6 0 0 ((m_upd (m_set μ 118 0 0) 137 (pbn (μ 137) 0 (fun k => μ 120 (517 + k)) 19)) 136) rfl rfl pbn_0.symm
      rw [upd_self] at h2
      refine h2 _ ?_
      refine rn_iconst (k' := 40) rfl rfl ?_
      refine rn_istore_n (k' := 41) (L' := [some (mR 118), some (mI (1)), some (mI (-1)), none, none]) rfl rfl (Nat.le_of_ble_eq_true rfl) rfl ?_
      refine rn_iconst (k' := 42) rfl rfl ?_
      refine rn_istore_n (k' := 43) (L' := [some (mR 118), some (mI (1)), some (mI (-1)), some (mI (0)), none]) rfl rfl (Nat.le_of_ble_eq_true rfl) rfl ?_
      refine l_judge (μ := (m_upd (m_upd (m_set μ 118 0 0) 137 (pbn (μ 137) 0 (fun k => μ 120 (517 + k)) 19)) 136 (pbn (μ 136) 0 (fun k => 0) 6))) hLA hPA hT (s0 := s0) (h0.row rfl) hwf ?_ (μ 17 0).toNat 0 _ _ (m_upd (m_upd (m_set μ 118 0 0) 137 (pbn (μ 137) 0 (fun k => μ 120 (517 + k)) 19)) 136 (pbn (μ 136) 0 (fun k => 0) 6)) none rfl (by show ((0 : Nat) : Int) + (((μ 17 0).toNat : Nat) : Int) = μ 17 0; omega) rfl hM0 rfl rfl (by rw [show (jr (m_upd (m_upd (m_set μ 118 0 0) 137 (pbn (μ 137) 0 (fun k => μ 120 (517 + k)) 19)) 136 (pbn (μ 136) 0 (fun k => 0) 6)) s0 0).2.2 = s0 from rfl, hjs]; rfl) (by show (0 : Int) = jt s0 - jt s0; omega) frm.refl
      refine fun M k v4 f1 f2 f3 f4 f5 f6 => ?_
      rw [jr_rows (ν := (m_upd (m_upd (m_set μ 118 0 0) 137 (pbn (μ 137) 0 (fun k => μ 120 (517 + k)) 19)) 136 (pbn (μ 136) 0 (fun k => 0) 6))) (μ := μ) rfl rfl rfl rfl rfl rfl rfl] at f1 f2 f3 f4 f5 ⊢
      have f1 : MS (μ 6 13) (μ 120) (jr μ s0 (μ 17 0).toNat).2.2 (M 120) := f1
      have f2 : M 136 0 = (jr μ s0 (μ 17 0).toNat).1 := f2
      have f3 : M 136 1 = (jr μ s0 (μ 17 0).toNat).2.1 := f3
      have f4 : M 136 4 = js (jr μ s0 (μ 17 0).toNat).2.2 := f4
      have f5 : M 136 5 = jt (jr μ s0 (μ 17 0).toNat).2.2 - jt s0 := f5
      have fo := f6.1
      have e6 : M 6 = μ 6 := fo 6 (by decide) (by decide) (by decide) (by decide) (by decide)
      have r7 : M 7 = μ 7 := fo 7 (by decide) (by decide) (by decide) (by decide) (by decide)
      have r8 : M 8 = μ 8 := fo 8 (by decide) (by decide) (by decide) (by decide) (by decide)
      have r9 : M 9 = μ 9 := fo 9 (by decide) (by decide) (by decide) (by decide) (by decide)
      have r10 : M 10 = μ 10 := fo 10 (by decide) (by decide) (by decide) (by decide) (by decide)
      have e131 : M 131 = μ 131 := fo 131 (by decide) (by decide) (by decide) (by decide) (by decide)
      have e137 : M 137 = pbn (μ 137) 0 (fun k => μ 120 (517 + k)) 19 := fo 137 (by decide) (by decide) (by decide) (by decide) (by decide)
      have e34 : M 118 34 = μ 118 34 := f6.2 34 (by decide) (by decide)
      have hLM : I_land M := f1.land hL e6 r7 r8 r9 r10
      have hQ : ∀ j : Nat, (j : Int) < M 6 13 → 0 ≤ M 120 (526 + j) ∧ M 120 (526 + j) ≤ 99 := fun j hj => by
        rw [e6] at hj
        rw [(f1.2.1 j hj).2]
        exact j1.2.2.1 j hj
      have hfs : (fS (fun j => M 120 (526 + j)) (M 6 13).toNat) = fS (jh (jr μ s0 (μ 17 0).toNat).2.2) (μ 6 13).toNat := by
        rw [e6]
        exact fS_congr _ (fun j hj => (f1.2.1 j (by omega)).2)
      have hfsb := fS_b8 (f := fun j => M 120 (526 + j)) (B := 99) (M 6 13).toNat (fun j hj => hQ j (by omega))
      have hrm : rm kK M = rm kK μ := (frm_rm f6 f1).trans ((rm_upd0 (fun _ => rfl)).trans ((rm_upd0 (fun _ => rfl)).trans (rm_set rfl)))
      have hv2 : M 120 517 = jd (jr μ s0 (μ 17 0).toNat).2.2 := f1.1
      have hah : ∀ k, k < 19 → M 137 k = μ 120 (517 + k) := fun k hk => by
        rw [e137, show k = 0 + k by omega, pbn_in hk]
        try rw [Nat.zero_add]
      refine rn_aload_n (k' := 98) rfl rfl rfl ?_
      refine rn_getR (k' := 99) rfl rfl K0_118 (by decide) rfl R0_118_42 ?_
      refine rn_iconst (k' := 100) rfl rfl ?_
      refine rn_aload_n (k' := 101) rfl rfl rfl ?_
      refine rn_getR (k' := 102) rfl rfl K0_118 (by decide) rfl R0_118_6 ?_
      refine rn_sipush (k' := 103) rfl rfl ?_
      refine rn_iaload (k' := 104) rfl rfl K0_120 (by omega) (by omega) ?_
      show Rn PT none kX12_judge 104 [some (mR 118), some (mI (1)), some (mI ((if (jr μ s0 (μ 17 0).toNat).1 = 0 then -1 else (jr μ s0 (μ 17 0).toNat).2.1))), some (mI (k)), v4] [mI (M 120 517), mI (2), mR 136] (mkh M c s) _
      refine rn_iastore (k' := 105) rfl rfl K0_136 (by omega) (by omega) ?_
      refine rn_aload_n (k' := 106) rfl rfl rfl ?_
      refine rn_getR (k' := 107) rfl rfl K0_118 (by decide) rfl R0_118_42 ?_
      refine rn_iconst (k' := 108) rfl rfl ?_
      refine rn_aload_n (k' := 109) rfl rfl rfl ?_
      refine rn_callP (k' := 110) (y := 208) (vs := [mR 118]) (S' := [mI (3), mR 136]) (v := some (mI ((fS (fun j => M 120 (526 + j)) (M 6 13).toNat)))) (h' := mkh (m_set M 136 2 (M 120 517)) c s) rfl rfl rfl (c_X12_heads (μ := (m_set M 136 2 (M 120 517))) (c := c) (s := s) ((hLM).set rfl) (fun j hj => hQ j hj)) ?_
      show Rn PT none kX12_judge 110 [some (mR 118), some (mI (1)), some (mI ((if (jr μ s0 (μ 17 0).toNat).1 = 0 then -1 else (jr μ s0 (μ 17 0).toNat).2.1))), some (mI (k)), v4] [mI ((fS (fun j => M 120 (526 + j)) (M 6 13).toNat)), mI (3), mR 136] (mkh (m_set M 136 2 (M 120 517)) c s) _
      refine rn_iastore (k' := 111) rfl rfl K0_136 (by omega) (by omega) ?_
      refine rn_aload_n (k' := 112) rfl rfl rfl ?_
      refine rn_iconst (k' := 113) rfl rfl ?_
      refine rn_putZ (k' := 114) rfl rfl K0_118 (by decide) rfl (by omega) ?_
      refine rn_iload_n (k' := 115) rfl rfl rfl ?_
      refine rn_iconst (k' := 116) rfl rfl ?_
      refine rn_icmp_ne (k' := 117) rfl rfl (fun hc2 => ?_) (fun hc2 => ?_)
      · exfalso; omega
      · skip
        refine rn_aload_n (k' := 118) rfl rfl rfl ?_
        refine rn_getR (k' := 119) rfl rfl K0_118 (by decide) rfl R0_118_42 ?_
        refine rn_iconst (k' := 120) rfl rfl ?_
        refine rn_iaload (k' := 121) rfl rfl K0_136 (by omega) (by omega) ?_
        show Rn PT none kX12_judge 121 [some (mR 118), some (mI (1)), some (mI ((if (jr μ s0 (μ 17 0).toNat).1 = 0 then -1 else (jr μ s0 (μ 17 0).toNat).2.1))), some (mI (k)), v4] [mI (M 136 1)] (mkh (m_set (m_set (m_set M 136 2 (M 120 517)) 136 3 ((fS (fun j => M 120 (526 + j)) (M 6 13).toNat))) 118 44 (1)) c s) _
        refine rn_if_le (k' := 122) rfl rfl (fun hc3 => ?_) (fun hc3 => ?_)
        · skip
          refine rn_iconst (k' := 147) rfl rfl ?_
          refine rn_istore_n (k' := 148) (L' := [some (mR 118), some (mI (1)), some (mI ((if (jr μ s0 (μ 17 0).toNat).1 = 0 then -1 else (jr μ s0 (μ 17 0).toNat).2.1))), some (mI (0)), v4]) rfl rfl (Nat.le_of_ble_eq_true rfl) rfl ?_
          refine rn_iload_n (k' := 149) rfl rfl rfl ?_
          refine rn_bipush (k' := 150) rfl rfl ?_
          refine rn_icmp_ge (k' := 151) rfl rfl (fun hc4 => ?_) (fun hc4 => ?_)
          · exfalso; omega
          · skip
            refine rn_iload_n (k' := 152) rfl rfl rfl ?_
            refine rn_if_ne (k' := 153) rfl rfl (fun hc5 => ?_) (fun hc5 => ?_)
            · skip
              refine rn_iload_n (k' := 166) rfl rfl rfl ?_
              refine rn_iret rfl (Or.inl rfl) ?_
              exact ⟨(m_set (m_set (m_set M 136 2 (M 120 517)) 136 3 ((fS (fun j => M 120 (526 + j)) (M 6 13).toNat))) 118 44 (1)), rfl, ⟨rfl, f2, f3, hv2, hfs, f4, f5⟩, (rm_set rfl).trans ((rm_set rfl).trans ((rm_set rfl).trans hrm)), f1, e131, e34⟩
            · exfalso; omega
        · exfalso; omega
    · exfalso; omega
  · exfalso; omega
set_option maxHeartbeats 8000000 in
theorem x_X12_judge_1y {μ : Nat → Nat → Int} {c s : Nat} (hL : I_land μ) (hP : I_plan μ) {T : Int} (hT : T ≤ 800000) {s0 : JT} (h0 : jOK μ T 0 s0) (hwf : jw s0 = -1 ↔ μ 6 14 = -1) (hM0 : MS (μ 6 13) (μ 120) s0 (μ 120)) (h34 : 0 ≤ μ 118 34 ∧ μ 118 34 ≤ 8) (hz : ¬ (jr μ s0 (μ 17 0).toNat).2.1 ≤ 0) : Cl PT 268 [mR 118, mI 1] (mkh μ c s) (fun r => ∃ ν, r = (some (some (mI (if (jr μ s0 (μ 17 0).toNat).1 = 0 then -1 else (jr μ s0 (μ 17 0).toNat).2.1))), mkh ν c s) ∧ VDF μ ν s0 ∧ rm kK ν = rm kK μ ∧ MS (μ 6 13) (μ 120) (jr μ s0 (μ 17 0).toNat).2.2 (ν 120) ∧ KR (μ 120) (μ 131) (μ 118 34) (ν 131) (ν 118 34)) := by
  have hpl := hP.1
  have hLA : I_land (m_upd (m_upd (m_set μ 118 0 0) 137 (pbn (μ 137) 0 (fun k => μ 120 (517 + k)) 19)) 136 (pbn (μ 136) 0 (fun k => 0) 6)) := hL.congr rfl rfl rfl rfl rfl (fun _ _ => rfl)
  have hPA : I_plan (m_upd (m_upd (m_set μ 118 0 0) 137 (pbn (μ 137) 0 (fun k => μ 120 (517 + k)) 19)) 136 (pbn (μ 136) 0 (fun k => 0) 6)) := hP.congr rfl rfl rfl rfl rfl (fun _ _ _ => rfl)
  have hjs : js s0 = 0 := by have := h0.2.2.2.2.2; omega
  obtain ⟨j1, j2, j3, j4, j5, j6, j7⟩ := jr_ok hL hP h0 (μ 17 0).toNat (by omega)
  refine ⟨_, PT_268, Nat.le_of_ble_eq_true rfl, ?_⟩
  show Rn PT none kX12_judge 0 [some (mR 118), some (mI (1)), none, none, none] [] (mkh μ c s) _
  refine rn_aload_n (k' := 1) rfl rfl rfl ?_
  refine rn_iconst (k' := 2) rfl rfl ?_
  refine rn_putI (k' := 3) rfl rfl K0_118 (by decide) rfl ?_
  refine rn_iload_n (k' := 4) rfl rfl rfl ?_
  refine rn_iconst (k' := 5) rfl rfl ?_
  refine rn_iconst (k' := 6) rfl rfl ?_
  by_cases hq2 : 0 ≤ 1 ∧ 1 ≤ 1
  · refine rn_callP (k' := 7) (y := 167) (vs := [mI (1), mI (0), mI (1)]) (S' := []) (v := some (mI 1)) (h' := mkh (m_set μ 118 0 (0)) c s) rfl rfl rfl (by have hz : Cl PT 167 [mI (1), mI (0), mI (1)] (mkh (m_set μ 118 0 (0)) c s) (fun r => r = (some (some (mI (if 0 ≤ 1 ∧ 1 ≤ 1 then 1 else 0))), mkh (m_set μ 118 0 (0)) c s)) := c_X12_isIn (v := 1) (lo := 0) (hi := 1) (μ := (m_set μ 118 0 (0))) (c := c) (s := s); rw [if_pos hq2] at hz; exact hz) ?_
    show Rn PT none kX12_judge 7 [some (mR 118), some (mI (1)), none, none, none] [mI (1)] (mkh (m_set μ 118 0 (0)) c s) _
    refine rn_if_ne (k' := 8) rfl rfl (fun hc3 => ?_) (fun hc3 => ?_)
    · skip
      refine rn_iconst (k' := 11) rfl rfl ?_
      refine rn_istore_n (k' := 12) (L' := [some (mR 118), some (mI (1)), some (mI (0)), none, none]) rfl rfl (Nat.le_of_ble_eq_true rfl) rfl ?_
      have h1 := fun Q K => l_jg1 (μ := m_set μ 118 0 0) (c := c) (s := s) (lv := 1) (v3 := none) (v4 := none) (Q := Q) K 19 0 0 (m_set μ 118 0 0 137) rfl rfl pbn_0.symm
      rw [upd_self] at h1
      refine h1 _ ?_
      refine rn_iconst (k' := 28) rfl rfl ?_
      refine rn_istore_n (k' := 29) (L' := [some (mR 118), some (mI (1)), some (mI (0)), none, none]) rfl rfl (Nat.le_of_ble_eq_true rfl) rfl ?_
      have h2 := fun Q K => l_jg2 (μ := (m_upd (m_set μ 118 0 0) 137 (pbn (μ 137) 0 (fun k => μ 120 (517 + k)) 19))) (c := c) (s := s) (lv := 1) (v3 := none) (v4 := none) (Q := Q) K 6 0 0 ((m_upd (m_set μ 118 0 0) 137 (pbn (μ 137) 0 (fun k => μ 120 (517 + k)) 19)) 136) rfl rfl pbn_0.symm
      rw [upd_self] at h2
      refine h2 _ ?_
      refine rn_iconst (k' := 40) rfl rfl ?_
      refine rn_istore_n (k' := 41) (L' := [some (mR 118), some (mI (1)), some (mI (-1)), none, none]) rfl rfl (Nat.le_of_ble_eq_true rfl) rfl ?_
      refine rn_iconst (k' := 42) rfl rfl ?_
      refine rn_istore_n (k' := 43) (L' := [some (mR 118), some (mI (1)), some (mI (-1)), some (mI (0)), none]) rfl rfl (Nat.le_of_ble_eq_true rfl) rfl ?_
      refine l_judge (μ := (m_upd (m_upd (m_set μ 118 0 0) 137 (pbn (μ 137) 0 (fun k => μ 120 (517 + k)) 19)) 136 (pbn (μ 136) 0 (fun k => 0) 6))) hLA hPA hT (s0 := s0) (h0.row rfl) hwf ?_ (μ 17 0).toNat 0 _ _ (m_upd (m_upd (m_set μ 118 0 0) 137 (pbn (μ 137) 0 (fun k => μ 120 (517 + k)) 19)) 136 (pbn (μ 136) 0 (fun k => 0) 6)) none rfl (by show ((0 : Nat) : Int) + (((μ 17 0).toNat : Nat) : Int) = μ 17 0; omega) rfl hM0 rfl rfl (by rw [show (jr (m_upd (m_upd (m_set μ 118 0 0) 137 (pbn (μ 137) 0 (fun k => μ 120 (517 + k)) 19)) 136 (pbn (μ 136) 0 (fun k => 0) 6)) s0 0).2.2 = s0 from rfl, hjs]; rfl) (by show (0 : Int) = jt s0 - jt s0; omega) frm.refl
      refine fun M k v4 f1 f2 f3 f4 f5 f6 => ?_
      rw [jr_rows (ν := (m_upd (m_upd (m_set μ 118 0 0) 137 (pbn (μ 137) 0 (fun k => μ 120 (517 + k)) 19)) 136 (pbn (μ 136) 0 (fun k => 0) 6))) (μ := μ) rfl rfl rfl rfl rfl rfl rfl] at f1 f2 f3 f4 f5 ⊢
      have f1 : MS (μ 6 13) (μ 120) (jr μ s0 (μ 17 0).toNat).2.2 (M 120) := f1
      have f2 : M 136 0 = (jr μ s0 (μ 17 0).toNat).1 := f2
      have f3 : M 136 1 = (jr μ s0 (μ 17 0).toNat).2.1 := f3
      have f4 : M 136 4 = js (jr μ s0 (μ 17 0).toNat).2.2 := f4
      have f5 : M 136 5 = jt (jr μ s0 (μ 17 0).toNat).2.2 - jt s0 := f5
      have fo := f6.1
      have e6 : M 6 = μ 6 := fo 6 (by decide) (by decide) (by decide) (by decide) (by decide)
      have r7 : M 7 = μ 7 := fo 7 (by decide) (by decide) (by decide) (by decide) (by decide)
      have r8 : M 8 = μ 8 := fo 8 (by decide) (by decide) (by decide) (by decide) (by decide)
      have r9 : M 9 = μ 9 := fo 9 (by decide) (by decide) (by decide) (by decide) (by decide)
      have r10 : M 10 = μ 10 := fo 10 (by decide) (by decide) (by decide) (by decide) (by decide)
      have e131 : M 131 = μ 131 := fo 131 (by decide) (by decide) (by decide) (by decide) (by decide)
      have e137 : M 137 = pbn (μ 137) 0 (fun k => μ 120 (517 + k)) 19 := fo 137 (by decide) (by decide) (by decide) (by decide) (by decide)
      have e34 : M 118 34 = μ 118 34 := f6.2 34 (by decide) (by decide)
      have hLM : I_land M := f1.land hL e6 r7 r8 r9 r10
      have hQ : ∀ j : Nat, (j : Int) < M 6 13 → 0 ≤ M 120 (526 + j) ∧ M 120 (526 + j) ≤ 99 := fun j hj => by
        rw [e6] at hj
        rw [(f1.2.1 j hj).2]
        exact j1.2.2.1 j hj
      have hfs : (fS (fun j => M 120 (526 + j)) (M 6 13).toNat) = fS (jh (jr μ s0 (μ 17 0).toNat).2.2) (μ 6 13).toNat := by
        rw [e6]
        exact fS_congr _ (fun j hj => (f1.2.1 j (by omega)).2)
      have hfsb := fS_b8 (f := fun j => M 120 (526 + j)) (B := 99) (M 6 13).toNat (fun j hj => hQ j (by omega))
      have hrm : rm kK M = rm kK μ := (frm_rm f6 f1).trans ((rm_upd0 (fun _ => rfl)).trans ((rm_upd0 (fun _ => rfl)).trans (rm_set rfl)))
      have hv2 : M 120 517 = jd (jr μ s0 (μ 17 0).toNat).2.2 := f1.1
      have hah : ∀ k, k < 19 → M 137 k = μ 120 (517 + k) := fun k hk => by
        rw [e137, show k = 0 + k by omega, pbn_in hk]
        try rw [Nat.zero_add]
      refine rn_aload_n (k' := 98) rfl rfl rfl ?_
      refine rn_getR (k' := 99) rfl rfl K0_118 (by decide) rfl R0_118_42 ?_
      refine rn_iconst (k' := 100) rfl rfl ?_
      refine rn_aload_n (k' := 101) rfl rfl rfl ?_
      refine rn_getR (k' := 102) rfl rfl K0_118 (by decide) rfl R0_118_6 ?_
      refine rn_sipush (k' := 103) rfl rfl ?_
      refine rn_iaload (k' := 104) rfl rfl K0_120 (by omega) (by omega) ?_
      show Rn PT none kX12_judge 104 [some (mR 118), some (mI (1)), some (mI ((if (jr μ s0 (μ 17 0).toNat).1 = 0 then -1 else (jr μ s0 (μ 17 0).toNat).2.1))), some (mI (k)), v4] [mI (M 120 517), mI (2), mR 136] (mkh M c s) _
      refine rn_iastore (k' := 105) rfl rfl K0_136 (by omega) (by omega) ?_
      refine rn_aload_n (k' := 106) rfl rfl rfl ?_
      refine rn_getR (k' := 107) rfl rfl K0_118 (by decide) rfl R0_118_42 ?_
      refine rn_iconst (k' := 108) rfl rfl ?_
      refine rn_aload_n (k' := 109) rfl rfl rfl ?_
      refine rn_callP (k' := 110) (y := 208) (vs := [mR 118]) (S' := [mI (3), mR 136]) (v := some (mI ((fS (fun j => M 120 (526 + j)) (M 6 13).toNat)))) (h' := mkh (m_set M 136 2 (M 120 517)) c s) rfl rfl rfl (c_X12_heads (μ := (m_set M 136 2 (M 120 517))) (c := c) (s := s) ((hLM).set rfl) (fun j hj => hQ j hj)) ?_
      show Rn PT none kX12_judge 110 [some (mR 118), some (mI (1)), some (mI ((if (jr μ s0 (μ 17 0).toNat).1 = 0 then -1 else (jr μ s0 (μ 17 0).toNat).2.1))), some (mI (k)), v4] [mI ((fS (fun j => M 120 (526 + j)) (M 6 13).toNat)), mI (3), mR 136] (mkh (m_set M 136 2 (M 120 517)) c s) _
      refine rn_iastore (k' := 111) rfl rfl K0_136 (by omega) (by omega) ?_
      refine rn_aload_n (k' := 112) rfl rfl rfl ?_
      refine rn_iconst (k' := 113) rfl rfl ?_
      refine rn_putZ (k' := 114) rfl rfl K0_118 (by decide) rfl (by omega) ?_
      refine rn_iload_n (k' := 115) rfl rfl rfl ?_
      refine rn_iconst (k' := 116) rfl rfl ?_
      refine rn_icmp_ne (k' := 117) rfl rfl (fun hc2 => ?_) (fun hc2 => ?_)
      · exfalso; omega
      · skip
        refine rn_aload_n (k' := 118) rfl rfl rfl ?_
        refine rn_getR (k' := 119) rfl rfl K0_118 (by decide) rfl R0_118_42 ?_
        refine rn_iconst (k' := 120) rfl rfl ?_
        refine rn_iaload (k' := 121) rfl rfl K0_136 (by omega) (by omega) ?_
        show Rn PT none kX12_judge 121 [some (mR 118), some (mI (1)), some (mI ((if (jr μ s0 (μ 17 0).toNat).1 = 0 then -1 else (jr μ s0 (μ 17 0).toNat).2.1))), some (mI (k)), v4] [mI (M 136 1)] (mkh (m_set (m_set (m_set M 136 2 (M 120 517)) 136 3 ((fS (fun j => M 120 (526 + j)) (M 6 13).toNat))) 118 44 (1)) c s) _
        refine rn_if_le (k' := 122) rfl rfl (fun hc3 => ?_) (fun hc3 => ?_)
        · exfalso; omega
        · skip
          refine rn_aload_n (k' := 123) rfl rfl rfl ?_
          obtain ⟨U, V, hK, hclk⟩ := c_keep (μ := (m_set (m_set (m_set M 136 2 (M 120 517)) 136 3 ((fS (fun j => M 120 (526 + j)) (M 6 13).toNat))) 118 44 (1))) (c := c) (s := s) (by show 0 ≤ M 118 34 ∧ M 118 34 ≤ 8; rw [e34]; exact h34)
          refine rn_callP (k' := 124) (y := 238) (vs := [mR 118]) (S' := []) (v := none) (h' := mkh (m_set (m_upd (m_set (m_set (m_set M 136 2 (M 120 517)) 136 3 (fS (fun j => M 120 (526 + j)) (M 6 13).toNat)) 118 44 1) 131 U) 118 34 V) c s) rfl rfl rfl (hclk) ?_
          show Rn PT none kX12_judge 124 [some (mR 118), some (mI (1)), some (mI ((if (jr μ s0 (μ 17 0).toNat).1 = 0 then -1 else (jr μ s0 (μ 17 0).toNat).2.1))), some (mI (k)), v4] [] (mkh (m_set (m_upd (m_set (m_set (m_set M 136 2 (M 120 517)) 136 3 (fS (fun j => M 120 (526 + j)) (M 6 13).toNat)) 118 44 1) 131 U) 118 34 V) c s) _
          refine rn_iconst (k' := 125) rfl rfl ?_
          refine rn_istore_n (k' := 126) (L' := [some (mR 118), some (mI (1)), some (mI ((if (jr μ s0 (μ 17 0).toNat).1 = 0 then -1 else (jr μ s0 (μ 17 0).toNat).2.1))), some (mI (0)), v4]) rfl rfl (Nat.le_of_ble_eq_true rfl) rfl ?_
          obtain ⟨q1, q2, q3⟩ := hK
          have q1 : V = if M 118 34 = 8 then 8 else M 118 34 + 1 := q1
          have hVb : 1 ≤ V ∧ V ≤ 8 := by rw [q1, e34]; split <;> omega
          have hKR : KR (μ 120) (μ 131) (μ 118 34) (pbn U (19 * (V - 1)).toNat (fun k => M 137 k) 19) V := by
            refine ⟨by rw [q1, e34], fun i k hi hk => ?_, fun i k hi hk => ?_⟩
            · rw [pbn_out (by omega)]
              have h := q2 i k hi hk
              rw [← e34, ← e131]
              exact h
            · rw [show 19 * i + k = (19 * (V - 1)).toNat + k by omega, pbn_in hk]
              exact hah k hk
          have h3 := fun Q K => l_jg3 (μ := (m_set (m_upd (m_set (m_set (m_set M 136 2 (M 120 517)) 136 3 (fS (fun j => M 120 (526 + j)) (M 6 13).toNat)) 118 44 1) 131 U) 118 34 V)) (c := c) (s := s) (lv := 1) (wr := (if (jr μ s0 (μ 17 0).toNat).1 = 0 then -1 else (jr μ s0 (μ 17 0).toNat).2.1)) (v4 := v4) (Q := Q) hVb K 19 0 0 ((m_set (m_upd (m_set (m_set (m_set M 136 2 (M 120 517)) 136 3 (fS (fun j => M 120 (526 + j)) (M 6 13).toNat)) 118 44 1) 131 U) 118 34 V) 131) rfl rfl pbn_0.symm
          rw [upd_self] at h3
          refine h3 _ ?_
          show Rn PT none kX12_judge 146 [some (mR 118), some (mI 1), some (mI (if (jr μ s0 (μ 17 0).toNat).1 = 0 then -1 else (jr μ s0 (μ 17 0).toNat).2.1)), some (mI 19), v4] [] (mkh (m_upd (m_set (m_upd (m_set (m_set (m_set M 136 2 (M 120 517)) 136 3 (fS (fun j => M 120 (526 + j)) (M 6 13).toNat)) 118 44 1) 131 U) 118 34 V) 131 (pbn U (19 * (V - 1)).toNat (fun k => M 137 k) 19)) c s) _
          refine rn_iconst (k' := 147) rfl rfl ?_
          refine rn_istore_n (k' := 148) (L' := [some (mR 118), some (mI (1)), some (mI ((if (jr μ s0 (μ 17 0).toNat).1 = 0 then -1 else (jr μ s0 (μ 17 0).toNat).2.1))), some (mI (0)), v4]) rfl rfl (Nat.le_of_ble_eq_true rfl) rfl ?_
          refine rn_iload_n (k' := 149) rfl rfl rfl ?_
          refine rn_bipush (k' := 150) rfl rfl ?_
          refine rn_icmp_ge (k' := 151) rfl rfl (fun hc1 => ?_) (fun hc1 => ?_)
          · exfalso; omega
          · skip
            refine rn_iload_n (k' := 152) rfl rfl rfl ?_
            refine rn_if_ne (k' := 153) rfl rfl (fun hc2 => ?_) (fun hc2 => ?_)
            · skip
              refine rn_iload_n (k' := 166) rfl rfl rfl ?_
              refine rn_iret rfl (Or.inl rfl) ?_
              refine ⟨(m_upd (m_set (m_upd (m_set (m_set (m_set M 136 2 (M 120 517)) 136 3 (fS (fun j => M 120 (526 + j)) (M 6 13).toNat)) 118 44 1) 131 U) 118 34 V) 131 (pbn U (19 * (V - 1)).toNat (fun k => M 137 k) 19)), rfl, ⟨rfl, f2, f3, hv2, hfs, f4, f5⟩, ?_, f1, ?_⟩
              · exact (rm_upd0 (fun _ => rfl)).trans ((rm_set rfl).trans ((rm_upd0 (fun _ => rfl)).trans ((rm_set rfl).trans ((rm_set rfl).trans ((rm_set rfl).trans hrm)))))
              · exact hKR
            · exfalso; omega
    · exfalso; omega
  · exfalso; omega
set_option maxHeartbeats 8000000 in
theorem x_X12_judge_0 {μ : Nat → Nat → Int} {c s : Nat} (hL : I_land μ) (hP : I_plan μ) {T : Int} (hT : T ≤ 800000) {s0 : JT} (h0 : jOK μ T 0 s0) (hwf : jw s0 = -1 ↔ μ 6 14 = -1) (hM0 : MS (μ 6 13) (μ 120) s0 (μ 120)) (h34 : 0 ≤ μ 118 34 ∧ μ 118 34 ≤ 8) : Cl PT 268 [mR 118, mI 0] (mkh μ c s) (fun r => ∃ ν, r = (some (some (mI (if (jr μ s0 (μ 17 0).toNat).1 = 0 then -1 else (jr μ s0 (μ 17 0).toNat).2.1))), mkh ν c s) ∧ VDF μ ν s0 ∧ rm kK ν = rm kK μ ∧ ν 120 = μ 120 ∧ ν 131 = μ 131 ∧ ν 118 34 = μ 118 34) := by
  have hpl := hP.1
  have hLA : I_land (m_upd (m_upd (m_set μ 118 0 0) 137 (pbn (μ 137) 0 (fun k => μ 120 (517 + k)) 19)) 136 (pbn (μ 136) 0 (fun k => 0) 6)) := hL.congr rfl rfl rfl rfl rfl (fun _ _ => rfl)
  have hPA : I_plan (m_upd (m_upd (m_set μ 118 0 0) 137 (pbn (μ 137) 0 (fun k => μ 120 (517 + k)) 19)) 136 (pbn (μ 136) 0 (fun k => 0) 6)) := hP.congr rfl rfl rfl rfl rfl (fun _ _ _ => rfl)
  have hjs : js s0 = 0 := by have := h0.2.2.2.2.2; omega
  obtain ⟨j1, j2, j3, j4, j5, j6, j7⟩ := jr_ok hL hP h0 (μ 17 0).toNat (by omega)
  refine ⟨_, PT_268, Nat.le_of_ble_eq_true rfl, ?_⟩
  show Rn PT none kX12_judge 0 [some (mR 118), some (mI (0)), none, none, none] [] (mkh μ c s) _
  refine rn_aload_n (k' := 1) rfl rfl rfl ?_
  refine rn_iconst (k' := 2) rfl rfl ?_
  refine rn_putI (k' := 3) rfl rfl K0_118 (by decide) rfl ?_
  refine rn_iload_n (k' := 4) rfl rfl rfl ?_
  refine rn_iconst (k' := 5) rfl rfl ?_
  refine rn_iconst (k' := 6) rfl rfl ?_
  by_cases hq2 : 0 ≤ 0 ∧ 0 ≤ 1
  · refine rn_callP (k' := 7) (y := 167) (vs := [mI (0), mI (0), mI (1)]) (S' := []) (v := some (mI 1)) (h' := mkh (m_set μ 118 0 (0)) c s) rfl rfl rfl (by have hz : Cl PT 167 [mI (0), mI (0), mI (1)] (mkh (m_set μ 118 0 (0)) c s) (fun r => r = (some (some (mI (if 0 ≤ 0 ∧ 0 ≤ 1 then 1 else 0))), mkh (m_set μ 118 0 (0)) c s)) := c_X12_isIn (v := 0) (lo := 0) (hi := 1) (μ := (m_set μ 118 0 (0))) (c := c) (s := s); rw [if_pos hq2] at hz; exact hz) ?_
    show Rn PT none kX12_judge 7 [some (mR 118), some (mI (0)), none, none, none] [mI (1)] (mkh (m_set μ 118 0 (0)) c s) _
    refine rn_if_ne (k' := 8) rfl rfl (fun hc3 => ?_) (fun hc3 => ?_)
    · skip
      refine rn_iconst (k' := 11) rfl rfl ?_
      refine rn_istore_n (k' := 12) (L' := [some (mR 118), some (mI (0)), some (mI (0)), none, none]) rfl rfl (Nat.le_of_ble_eq_true rfl) rfl ?_
      have h1 := fun Q K => l_jg1 (μ := m_set μ 118 0 0) (c := c) (s := s) (lv := 0) (v3 := none) (v4 := none) (Q := Q) K 19 0 0 (m_set μ 118 0 0 137) rfl rfl pbn_0.symm
      rw [upd_self] at h1
      refine h1 _ ?_
      refine rn_iconst (k' := 28) rfl rfl ?_
      refine rn_istore_n (k' := 29) (L' := [some (mR 118), some (mI (0)), some (mI (0)), none, none]) rfl rfl (Nat.le_of_ble_eq_true rfl) rfl ?_
      have h2 := fun Q K => l_jg2 (μ := (m_upd (m_set μ 118 0 0) 137 (pbn (μ 137) 0 (fun k => μ 120 (517 + k)) 19))) (c := c) (s := s) (lv := 0) (v3 := none) (v4 := none) (Q := Q) K 6 0 0 ((m_upd (m_set μ 118 0 0) 137 (pbn (μ 137) 0 (fun k => μ 120 (517 + k)) 19)) 136) rfl rfl pbn_0.symm
      rw [upd_self] at h2
      refine h2 _ ?_
      refine rn_iconst (k' := 40) rfl rfl ?_
      refine rn_istore_n (k' := 41) (L' := [some (mR 118), some (mI (0)), some (mI (-1)), none, none]) rfl rfl (Nat.le_of_ble_eq_true rfl) rfl ?_
      refine rn_iconst (k' := 42) rfl rfl ?_
      refine rn_istore_n (k' := 43) (L' := [some (mR 118), some (mI (0)), some (mI (-1)), some (mI (0)), none]) rfl rfl (Nat.le_of_ble_eq_true rfl) rfl ?_
      refine l_judge (μ := (m_upd (m_upd (m_set μ 118 0 0) 137 (pbn (μ 137) 0 (fun k => μ 120 (517 + k)) 19)) 136 (pbn (μ 136) 0 (fun k => 0) 6))) hLA hPA hT (s0 := s0) (h0.row rfl) hwf ?_ (μ 17 0).toNat 0 _ _ (m_upd (m_upd (m_set μ 118 0 0) 137 (pbn (μ 137) 0 (fun k => μ 120 (517 + k)) 19)) 136 (pbn (μ 136) 0 (fun k => 0) 6)) none rfl (by show ((0 : Nat) : Int) + (((μ 17 0).toNat : Nat) : Int) = μ 17 0; omega) rfl hM0 rfl rfl (by rw [show (jr (m_upd (m_upd (m_set μ 118 0 0) 137 (pbn (μ 137) 0 (fun k => μ 120 (517 + k)) 19)) 136 (pbn (μ 136) 0 (fun k => 0) 6)) s0 0).2.2 = s0 from rfl, hjs]; rfl) (by show (0 : Int) = jt s0 - jt s0; omega) frm.refl
      refine fun M k v4 f1 f2 f3 f4 f5 f6 => ?_
      rw [jr_rows (ν := (m_upd (m_upd (m_set μ 118 0 0) 137 (pbn (μ 137) 0 (fun k => μ 120 (517 + k)) 19)) 136 (pbn (μ 136) 0 (fun k => 0) 6))) (μ := μ) rfl rfl rfl rfl rfl rfl rfl] at f1 f2 f3 f4 f5 ⊢
      have f1 : MS (μ 6 13) (μ 120) (jr μ s0 (μ 17 0).toNat).2.2 (M 120) := f1
      have f2 : M 136 0 = (jr μ s0 (μ 17 0).toNat).1 := f2
      have f3 : M 136 1 = (jr μ s0 (μ 17 0).toNat).2.1 := f3
      have f4 : M 136 4 = js (jr μ s0 (μ 17 0).toNat).2.2 := f4
      have f5 : M 136 5 = jt (jr μ s0 (μ 17 0).toNat).2.2 - jt s0 := f5
      have fo := f6.1
      have e6 : M 6 = μ 6 := fo 6 (by decide) (by decide) (by decide) (by decide) (by decide)
      have r7 : M 7 = μ 7 := fo 7 (by decide) (by decide) (by decide) (by decide) (by decide)
      have r8 : M 8 = μ 8 := fo 8 (by decide) (by decide) (by decide) (by decide) (by decide)
      have r9 : M 9 = μ 9 := fo 9 (by decide) (by decide) (by decide) (by decide) (by decide)
      have r10 : M 10 = μ 10 := fo 10 (by decide) (by decide) (by decide) (by decide) (by decide)
      have e131 : M 131 = μ 131 := fo 131 (by decide) (by decide) (by decide) (by decide) (by decide)
      have e137 : M 137 = pbn (μ 137) 0 (fun k => μ 120 (517 + k)) 19 := fo 137 (by decide) (by decide) (by decide) (by decide) (by decide)
      have e34 : M 118 34 = μ 118 34 := f6.2 34 (by decide) (by decide)
      have hLM : I_land M := f1.land hL e6 r7 r8 r9 r10
      have hQ : ∀ j : Nat, (j : Int) < M 6 13 → 0 ≤ M 120 (526 + j) ∧ M 120 (526 + j) ≤ 99 := fun j hj => by
        rw [e6] at hj
        rw [(f1.2.1 j hj).2]
        exact j1.2.2.1 j hj
      have hfs : (fS (fun j => M 120 (526 + j)) (M 6 13).toNat) = fS (jh (jr μ s0 (μ 17 0).toNat).2.2) (μ 6 13).toNat := by
        rw [e6]
        exact fS_congr _ (fun j hj => (f1.2.1 j (by omega)).2)
      have hfsb := fS_b8 (f := fun j => M 120 (526 + j)) (B := 99) (M 6 13).toNat (fun j hj => hQ j (by omega))
      have hrm : rm kK M = rm kK μ := (frm_rm f6 f1).trans ((rm_upd0 (fun _ => rfl)).trans ((rm_upd0 (fun _ => rfl)).trans (rm_set rfl)))
      have hv2 : M 120 517 = jd (jr μ s0 (μ 17 0).toNat).2.2 := f1.1
      have hah : ∀ k, k < 19 → M 137 k = μ 120 (517 + k) := fun k hk => by
        rw [e137, show k = 0 + k by omega, pbn_in hk]
        try rw [Nat.zero_add]
      refine rn_aload_n (k' := 98) rfl rfl rfl ?_
      refine rn_getR (k' := 99) rfl rfl K0_118 (by decide) rfl R0_118_42 ?_
      refine rn_iconst (k' := 100) rfl rfl ?_
      refine rn_aload_n (k' := 101) rfl rfl rfl ?_
      refine rn_getR (k' := 102) rfl rfl K0_118 (by decide) rfl R0_118_6 ?_
      refine rn_sipush (k' := 103) rfl rfl ?_
      refine rn_iaload (k' := 104) rfl rfl K0_120 (by omega) (by omega) ?_
      show Rn PT none kX12_judge 104 [some (mR 118), some (mI (0)), some (mI ((if (jr μ s0 (μ 17 0).toNat).1 = 0 then -1 else (jr μ s0 (μ 17 0).toNat).2.1))), some (mI (k)), v4] [mI (M 120 517), mI (2), mR 136] (mkh M c s) _
      refine rn_iastore (k' := 105) rfl rfl K0_136 (by omega) (by omega) ?_
      refine rn_aload_n (k' := 106) rfl rfl rfl ?_
      refine rn_getR (k' := 107) rfl rfl K0_118 (by decide) rfl R0_118_42 ?_
      refine rn_iconst (k' := 108) rfl rfl ?_
      refine rn_aload_n (k' := 109) rfl rfl rfl ?_
      refine rn_callP (k' := 110) (y := 208) (vs := [mR 118]) (S' := [mI (3), mR 136]) (v := some (mI ((fS (fun j => M 120 (526 + j)) (M 6 13).toNat)))) (h' := mkh (m_set M 136 2 (M 120 517)) c s) rfl rfl rfl (c_X12_heads (μ := (m_set M 136 2 (M 120 517))) (c := c) (s := s) ((hLM).set rfl) (fun j hj => hQ j hj)) ?_
      show Rn PT none kX12_judge 110 [some (mR 118), some (mI (0)), some (mI ((if (jr μ s0 (μ 17 0).toNat).1 = 0 then -1 else (jr μ s0 (μ 17 0).toNat).2.1))), some (mI (k)), v4] [mI ((fS (fun j => M 120 (526 + j)) (M 6 13).toNat)), mI (3), mR 136] (mkh (m_set M 136 2 (M 120 517)) c s) _
      refine rn_iastore (k' := 111) rfl rfl K0_136 (by omega) (by omega) ?_
      refine rn_aload_n (k' := 112) rfl rfl rfl ?_
      refine rn_iconst (k' := 113) rfl rfl ?_
      refine rn_putZ (k' := 114) rfl rfl K0_118 (by decide) rfl (by omega) ?_
      refine rn_iload_n (k' := 115) rfl rfl rfl ?_
      refine rn_iconst (k' := 116) rfl rfl ?_
      refine rn_icmp_ne (k' := 117) rfl rfl (fun hc2 => ?_) (fun hc2 => ?_)
      · skip
        refine rn_iconst (k' := 147) rfl rfl ?_
        refine rn_istore_n (k' := 148) (L' := [some (mR 118), some (mI (0)), some (mI ((if (jr μ s0 (μ 17 0).toNat).1 = 0 then -1 else (jr μ s0 (μ 17 0).toNat).2.1))), some (mI (0)), v4]) rfl rfl (Nat.le_of_ble_eq_true rfl) rfl ?_
        have h120 : pbn (M 120) 517 (fun k => M 137 k) 19 = μ 120 := by
          funext j
          by_cases z : 517 ≤ j ∧ j < 536
          · rw [show j = 517 + (j - 517) by omega, pbn_in (by omega)]
            exact hah _ (by omega)
          · rw [pbn_out (by omega)]
            exact f1.2.2.2.2 j (by omega)
        have h4 := fun Q K => l_jg4 (μ := (m_set (m_set (m_set M 136 2 (M 120 517)) 136 3 (fS (fun j => M 120 (526 + j)) (M 6 13).toNat)) 118 44 1)) (c := c) (s := s) (wr := (if (jr μ s0 (μ 17 0).toNat).1 = 0 then -1 else (jr μ s0 (μ 17 0).toNat).2.1)) (v4 := v4) (Q := Q) K 19 0 0 ((m_set (m_set (m_set M 136 2 (M 120 517)) 136 3 (fS (fun j => M 120 (526 + j)) (M 6 13).toNat)) 118 44 1) 120) rfl rfl pbn_0.symm
        rw [upd_self] at h4
        refine h4 _ ?_
        show Rn PT none kX12_judge 165 [some (mR 118), some (mI 0), some (mI (if (jr μ s0 (μ 17 0).toNat).1 = 0 then -1 else (jr μ s0 (μ 17 0).toNat).2.1)), some (mI 19), v4] [] (mkh (m_upd (m_set (m_set (m_set M 136 2 (M 120 517)) 136 3 (fS (fun j => M 120 (526 + j)) (M 6 13).toNat)) 118 44 1) 120 (pbn (M 120) 517 (fun k => M 137 k) 19)) c s) _
        refine rn_iload_n (k' := 166) rfl rfl rfl ?_
        refine rn_iret rfl (Or.inl rfl) ?_
        refine ⟨(m_upd (m_set (m_set (m_set M 136 2 (M 120 517)) 136 3 (fS (fun j => M 120 (526 + j)) (M 6 13).toNat)) 118 44 1) 120 (pbn (M 120) 517 (fun k => M 137 k) 19)), rfl, ⟨rfl, f2, f3, hv2, hfs, f4, f5⟩, ?_, ?_, e131, e34⟩
        · rw [h120]
          exact (rm_upd (μ := (m_set (m_set (m_set M 136 2 (M 120 517)) 136 3 (fS (fun j => M 120 (526 + j)) (M 6 13).toNat)) 118 44 1)) (fun j hj => (rm_cell hrm hj).symm)).trans ((rm_set rfl).trans ((rm_set rfl).trans ((rm_set rfl).trans hrm)))
        · exact h120
      · exfalso; omega
    · exfalso; omega
  · exfalso; omega
