variable {N : Int}
/-! ===== printed by wip/whole/gen39.py: more leaf methods; sums and sets over the herds ===== -/
theorem v_atN {μ : Nat → Nat → Int} (h : I_scene μ) {n : Nat} (hn : (n : Int) < μ 6 13) : μ 120 (518 + n) = μ 15 n ∧ 0 ≤ μ 15 n ∧ μ 15 n ≤ 99 := by
  obtain ⟨-, -, -, -, -, -, h1, -, h2, -⟩ := h
  exact ⟨(h2 n hn).1, h1 n⟩
theorem v_hdN {μ : Nat → Nat → Int} (h : I_scene μ) {n : Nat} (hn : (n : Int) < μ 6 13) : μ 120 (526 + n) = μ 16 n ∧ 0 ≤ μ 16 n ∧ μ 16 n ≤ 99 := by
  obtain ⟨-, -, -, -, -, -, -, h1, h2, -⟩ := h
  exact ⟨(h2 n hn).2, h1 n⟩
theorem v_at {μ : Nat → Nat → Int} (h : I_scene μ) {a : Int} (ha : 0 ≤ a ∧ a < μ 6 13) : μ 120 (518 + a).toNat = μ 15 a.toNat ∧ 0 ≤ μ 15 a.toNat ∧ μ 15 a.toNat ≤ 99 := by
  rw [show (518 + a).toNat = 518 + a.toNat by omega]; exact v_atN h (by omega)
theorem v_hd {μ : Nat → Nat → Int} (h : I_scene μ) {a : Int} (ha : 0 ≤ a ∧ a < μ 6 13) : μ 120 (526 + a).toNat = μ 16 a.toNat ∧ 0 ≤ μ 16 a.toNat ∧ μ 16 a.toNat ≤ 99 := by
  rw [show (526 + a).toNat = 526 + a.toNat by omega]; exact v_hdN h (by omega)
/-- sums, sets of bits -/
def fS (f : Nat → Int) : Nat → Int
  | 0 => 0
  | n + 1 => fS f n + f n
def fO (p : Nat → Prop) [DecidablePred p] : Nat → Int
  | 0 => 0
  | n + 1 => if p n then m_or (fO p n) (m_shl 1 n) else fO p n
theorem fS_b {f : Nat → Int} {B : Int} (h : ∀ j, 0 ≤ f j ∧ f j ≤ B) : ∀ n : Nat, 0 ≤ fS f n ∧ fS f n ≤ B * n
  | 0 => ⟨Int.le_refl 0, by show (0 : Int) ≤ B * ((0 : Nat) : Int); omega⟩
  | n + 1 => by
    have h1 := fS_b h n
    have h2 := h n
    have h3 : B * ((n + 1 : Nat) : Int) = B * n + B := by rw [Int.natCast_succ, Int.mul_add, Int.mul_one]
    unfold fS
    omega
theorem fS_congr {f g : Nat → Int} : ∀ n : Nat, (∀ j, j < n → f j = g j) → fS f n = fS g n
  | 0, _ => rfl
  | n + 1, h => by
    unfold fS
    rw [fS_congr n (fun j hj => h j (by omega)), h n (by omega)]
theorem fO_congr {p q : Nat → Prop} [DecidablePred p] [DecidablePred q] : ∀ n : Nat, (∀ j, j < n → (p j ↔ q j)) → fO p n = fO q n
  | 0, _ => rfl
  | n + 1, h => by
    unfold fO
    rw [fO_congr n (fun j hj => h j (by omega))]
    by_cases hq : q n
    · rw [if_pos hq, if_pos ((h n (by omega)).mpr hq)]
    · rw [if_neg hq, if_neg (fun z => hq ((h n (by omega)).mp z))]
set_option maxHeartbeats 2000000 in
theorem l_X12_onDay {μ : Nat → Nat → Int} {c s : Nat} {σ : Nat} {day : Int} (hL : I_land μ) (hs : σ ≤ 2) : ∀ (n : Nat) (d : Int), d = (n : Int) - 1 → n ≤ 30 → Rn PT none kX12_onDay 2 [some (mR 118), some (mI day), some (mI (σ : Int)), some (mI d)] [] (mkh μ c s) (fun r => r = (some (some (mI (wOn (μ 10) (30 * σ) n))), mkh μ c s)) := by
  intro n
  induction n with
  | zero =>
    intro d hd hn
    refine rn_iload_n (k' := 3) rfl rfl rfl ?_
    refine rn_if_lt (k' := 4) rfl rfl (fun hc1 => ?_) (fun hc1 => ?_)
    · skip
      refine rn_iconst (k' := 31) rfl rfl ?_
      refine rn_iret rfl (Or.inl rfl) ?_
      rfl
    · exfalso; omega
  | succ n ih =>
    intro d hd hn
    have hi : ((409 + (30 * (σ : Int))) + d).toNat = 409 + (30 * σ + n) := by omega
    have hw := v_wN hL (n := 30 * σ + n) (by omega)
    rw [← hi] at hw
    refine rn_iload_n (k' := 3) rfl rfl rfl ?_
    refine rn_if_lt (k' := 4) rfl rfl (fun hc1 => ?_) (fun hc1 => ?_)
    · exfalso; omega
    · skip
      refine rn_aload_n (k' := 5) rfl rfl rfl ?_
      refine rn_getR (k' := 6) rfl rfl K0_118 (by decide) rfl R0_118_6 ?_
      refine rn_sipush (k' := 7) rfl rfl ?_
      refine rn_bipush (k' := 8) rfl rfl ?_
      refine rn_iload_n (k' := 9) rfl rfl rfl ?_
      refine rn_imul (k' := 10) rfl rfl (by omega) ?_
      refine rn_iadd (k' := 11) rfl rfl (by omega) ?_
      refine rn_iload_n (k' := 12) rfl rfl rfl ?_
      refine rn_iadd (k' := 13) rfl rfl (by omega) ?_
      refine rn_iaload (k' := 14) rfl rfl K0_120 (by omega) (by omega) ?_
      refine rn_if_le (k' := 15) rfl rfl (fun hc2 => ?_) (fun hc2 => ?_)
      · skip
        refine rn_iinc (k' := 29) (L' := [some (mR 118), some (mI (day)), some (mI ((σ : Int))), some (mI (d + (-1)))]) rfl rfl rfl (by omega) rfl ?_
        refine rn_goto rfl ?_
        rw [show wOn (μ 10) (30 * σ) (n + 1) = wOn (μ 10) (30 * σ) n by rw [wOn, if_pos (by omega)]]
        exact ih _ (by omega) (by omega)
      · skip
        refine rn_aload_n (k' := 16) rfl rfl rfl ?_
        refine rn_getR (k' := 17) rfl rfl K0_118 (by decide) rfl R0_118_6 ?_
        refine rn_sipush (k' := 18) rfl rfl ?_
        refine rn_bipush (k' := 19) rfl rfl ?_
        refine rn_iload_n (k' := 20) rfl rfl rfl ?_
        refine rn_imul (k' := 21) rfl rfl (by omega) ?_
        refine rn_iadd (k' := 22) rfl rfl (by omega) ?_
        refine rn_iload_n (k' := 23) rfl rfl rfl ?_
        refine rn_iadd (k' := 24) rfl rfl (by omega) ?_
        refine rn_iaload (k' := 25) rfl rfl K0_120 (by omega) (by omega) ?_
        refine rn_iconst (k' := 26) rfl rfl ?_
        refine rn_isub (k' := 27) rfl rfl (by omega) ?_
        refine rn_iret rfl (Or.inl rfl) ?_
        rw [wOn, if_neg (by omega)]
        exact congrArg (fun z => ((some (some (mI z)) : Option (Option MV)), mkh μ c s)) (by omega)
theorem c_X12_onDay {μ : Nat → Nat → Int} {c s : Nat} (hL : I_land μ) {σ d : Int} (hs : 0 ≤ σ ∧ σ ≤ 2) (hd : 0 ≤ d ∧ d ≤ 29) : Fn 196 [mR 118, mI d, mI σ] μ c s (g_w μ σ d) := by
  obtain ⟨σ, rfl⟩ := Int.eq_ofNat_of_zero_le hs.1
  obtain ⟨d, rfl⟩ := Int.eq_ofNat_of_zero_le hd.1
  refine ⟨_, PT_196, Nat.le_of_ble_eq_true rfl, ?_⟩
  show Rn PT none kX12_onDay 0 [some (mR 118), some (mI ((d : Int))), some (mI ((σ : Int))), none] [] (mkh μ c s) _
  refine rn_iload_n (k' := 1) rfl rfl rfl ?_
  refine rn_istore_n (k' := 2) (L' := [some (mR 118), some (mI ((d : Int))), some (mI ((σ : Int))), some (mI ((d : Int)))]) rfl rfl (Nat.le_of_ble_eq_true rfl) rfl ?_
  exact l_X12_onDay hL (by omega) (d + 1) _ (by omega) (by omega)
set_option maxHeartbeats 2000000 in
theorem c_X12_of {μ : Nat → Nat → Int} {c s : Nat} (hL : I_land μ) {d : Int} (hd : 0 ≤ d ∧ d ≤ 29) : Cl PT 201 [mR 118, mI d] (mkh μ c s) (fun r => r = (some none, mkh (m_set (m_set μ 118 22 (g_w μ 0 d)) 118 23 (g_w μ 1 d)) c s)) := by
  have hL_ := hL
  obtain ⟨lc, lr, le, lm, lw, lh, lwo, lwd, q0, q1, q2, q3, q4, q8, q499, q500, lth, lG, lT, lW, -⟩ := hL_
  refine ⟨_, PT_201, Nat.le_of_ble_eq_true rfl, ?_⟩
  show Rn PT none kX12_of 0 [some (mR 118), some (mI (d))] [] (mkh μ c s) _
  refine rn_aload_n (k' := 1) rfl rfl rfl ?_
  refine rn_aload_n (k' := 2) rfl rfl rfl ?_
  refine rn_iload_n (k' := 3) rfl rfl rfl ?_
  refine rn_iconst (k' := 4) rfl rfl ?_
  have hb1 := g_w_b hL 0 d
  refine rn_callP (k' := 5) (y := 196) (vs := [mR 118, mI (d), mI (0)]) (S' := [mR 118]) (v := some (mI (g_w μ 0 d))) (h' := mkh μ c s) rfl rfl rfl (c_X12_onDay (hL) (by omega) (by omega)) ?_
  show Rn PT none kX12_of 5 [some (mR 118), some (mI (d))] [mI (g_w μ 0 d), mR 118] (mkh μ c s) _
  refine rn_putI (k' := 6) rfl rfl K0_118 (by decide) rfl ?_
  refine rn_aload_n (k' := 7) rfl rfl rfl ?_
  refine rn_aload_n (k' := 8) rfl rfl rfl ?_
  refine rn_iload_n (k' := 9) rfl rfl rfl ?_
  refine rn_iconst (k' := 10) rfl rfl ?_
  have hb3 := g_w_b hL 1 d
  refine rn_callP (k' := 11) (y := 196) (vs := [mR 118, mI (d), mI (1)]) (S' := [mR 118]) (v := some (mI (g_w μ 1 d))) (h' := mkh (m_set μ 118 22 (g_w μ 0 d)) c s) rfl rfl rfl (c_X12_onDay ((hL).set rfl) (by omega) (by omega)) ?_
  show Rn PT none kX12_of 11 [some (mR 118), some (mI (d))] [mI (g_w μ 1 d), mR 118] (mkh (m_set μ 118 22 (g_w μ 0 d)) c s) _
  refine rn_putI (k' := 12) rfl rfl K0_118 (by decide) rfl ?_
  refine rn_vret rfl ?_
  rfl
set_option maxHeartbeats 2000000 in
theorem c_X12_depthOf {μ : Nat → Nat → Int} {c s : Nat} (hL : I_land μ) (hw : 0 ≤ μ 118 22 ∧ μ 118 22 ≤ 1000) {a : Int} (ha : g_cell μ a) : Cl PT 202 [mR 118, mI a] (mkh μ c s) (fun r => r = (some (some (mI (g_dep μ a (μ 118 22)))), mkh (μ) c s)) := by
  have hL_ := hL
  obtain ⟨lc, lr, le, lm, lw, lh, lwo, lwd, q0, q1, q2, q3, q4, q8, q499, q500, lth, lG, lT, lW, -⟩ := hL_
  have hab := g_cell_b hL ha
  refine ⟨_, PT_202, Nat.le_of_ble_eq_true rfl, ?_⟩
  show Rn PT none kX12_depthOf 0 [some (mR 118), some (mI (a))] [] (mkh μ c s) _
  refine rn_aload_n (k' := 1) rfl rfl rfl ?_
  refine rn_getI (k' := 2) rfl rfl K0_118 (by decide) rfl ?_
  refine rn_aload_n (k' := 3) rfl rfl rfl ?_
  refine rn_getR (k' := 4) rfl rfl K0_118 (by decide) rfl R0_118_6 ?_
  refine rn_bipush (k' := 5) rfl rfl ?_
  refine rn_iload_n (k' := 6) rfl rfl rfl ?_
  refine rn_iadd (k' := 7) rfl rfl (by omega) ?_
  refine rn_iaload (k' := 8) rfl rfl K0_120 (by omega) (by omega) ?_
  rw [(v_g hL (a := a) (by first | assumption | omega)).1]
  have hb1 := (v_g hL (a := a) (by first | assumption | omega)).2
  refine rn_icmp_le (k' := 9) rfl rfl (fun hc2 => ?_) (fun hc2 => ?_)
  · skip
    refine rn_iconst (k' := 20) rfl rfl ?_
    refine rn_iret rfl (Or.inl rfl) ?_
    first | rfl | (refine congrArg (fun z => ((some (some (mI z)) : Option (Option MV)), mkh μ c s)) ?_; first | rfl | omega | (symm; first | (rw [if_pos (by omega)]; first | done | rfl | omega) | (rw [if_neg (by omega)]; first | done | rfl | omega)) | (symm; unfold g_tim; first | (rw [if_pos (by omega)]; first | done | rfl | omega) | (rw [if_neg (by omega)]; first | done | rfl | omega)) | (symm; unfold g_st; first | (rw [if_pos (by omega)]; first | done | rfl | omega) | (rw [if_neg (by omega)]; first | done | rfl | omega)) | (symm; unfold g_dep; first | (rw [if_pos (by omega)]; first | done | rfl | omega) | (rw [if_neg (by omega)]; first | done | rfl | omega)) | (symm; unfold g_nb; first | (rw [if_pos (by omega)]; first | done | rfl | omega) | (rw [if_neg (by omega)]; first | done | rfl | omega)) | ((try unfold g_st); (try unfold g_dep); (try unfold g_nb); (repeat' split) <;> omega) | (symm; (repeat (first | rw [if_pos (by omega)] | rw [if_neg (by omega)])); first | done | rfl | omega))
  · skip
    refine rn_aload_n (k' := 10) rfl rfl rfl ?_
    refine rn_getI (k' := 11) rfl rfl K0_118 (by decide) rfl ?_
    refine rn_aload_n (k' := 12) rfl rfl rfl ?_
    refine rn_getR (k' := 13) rfl rfl K0_118 (by decide) rfl R0_118_6 ?_
    refine rn_bipush (k' := 14) rfl rfl ?_
    refine rn_iload_n (k' := 15) rfl rfl rfl ?_
    refine rn_iadd (k' := 16) rfl rfl (by omega) ?_
    refine rn_iaload (k' := 17) rfl rfl K0_120 (by omega) (by omega) ?_
    rw [(v_g hL (a := a) (by first | assumption | omega)).1]
    have hb3 := (v_g hL (a := a) (by first | assumption | omega)).2
    refine rn_isub (k' := 18) rfl rfl (by omega) ?_
    refine rn_goto rfl ?_
    refine rn_iret rfl (Or.inl rfl) ?_
    first | rfl | (refine congrArg (fun z => ((some (some (mI z)) : Option (Option MV)), mkh μ c s)) ?_; first | rfl | omega | (symm; first | (rw [if_pos (by omega)]; first | done | rfl | omega) | (rw [if_neg (by omega)]; first | done | rfl | omega)) | (symm; unfold g_tim; first | (rw [if_pos (by omega)]; first | done | rfl | omega) | (rw [if_neg (by omega)]; first | done | rfl | omega)) | (symm; unfold g_st; first | (rw [if_pos (by omega)]; first | done | rfl | omega) | (rw [if_neg (by omega)]; first | done | rfl | omega)) | (symm; unfold g_dep; first | (rw [if_pos (by omega)]; first | done | rfl | omega) | (rw [if_neg (by omega)]; first | done | rfl | omega)) | (symm; unfold g_nb; first | (rw [if_pos (by omega)]; first | done | rfl | omega) | (rw [if_neg (by omega)]; first | done | rfl | omega)) | ((try unfold g_st); (try unfold g_dep); (try unfold g_nb); (repeat' split) <;> omega) | (symm; (repeat (first | rw [if_pos (by omega)] | rw [if_neg (by omega)])); first | done | rfl | omega))
set_option maxHeartbeats 2000000 in
theorem c_X12_standsOn {μ : Nat → Nat → Int} {c s : Nat} (hL : I_land μ) (hw : 0 ≤ μ 118 22 ∧ μ 118 22 ≤ 1000) {a t : Int} (ha : g_cell μ a) (ht : 0 ≤ t) : Cl PT 203 [mR 118, mI a, mI t] (mkh μ c s) (fun r => r = (some (some (mI (if g_stand μ a t (μ 118 22) then 1 else 0))), mkh (μ) c s)) := by
  have hL_ := hL
  obtain ⟨lc, lr, le, lm, lw, lh, lwo, lwd, q0, q1, q2, q3, q4, q8, q499, q500, lth, lG, lT, lW, -⟩ := hL_
  have hab := g_cell_b hL ha
  refine ⟨_, PT_203, Nat.le_of_ble_eq_true rfl, ?_⟩
  show Rn PT none kX12_standsOn 0 [some (mR 118), some (mI (a)), some (mI (t))] [] (mkh μ c s) _
  refine rn_aload_n (k' := 1) rfl rfl rfl ?_
  refine rn_iload_n (k' := 2) rfl rfl rfl ?_
  refine rn_callP (k' := 3) (y := 202) (vs := [mR 118, mI (a)]) (S' := []) (v := some (mI (g_dep μ a (μ 118 22)))) (h' := mkh μ c s) rfl rfl rfl (c_X12_depthOf (hL) (by show 0 ≤ μ 118 22 ∧ μ 118 22 ≤ 1000; omega) (by show g_cell μ (a); first | assumption | omega)) ?_
  show Rn PT none kX12_standsOn 3 [some (mR 118), some (mI (a)), some (mI (t))] [mI (g_dep μ a (μ 118 22))] (mkh μ c s) _
  refine rn_iload_n (k' := 4) rfl rfl rfl ?_
  refine rn_icmp_gt (k' := 5) rfl rfl (fun hc1 => ?_) (fun hc1 => ?_)
  · skip
    refine rn_iconst (k' := 42) rfl rfl ?_
    refine rn_iret rfl (Or.inr (by omega)) ?_
    refine congrArg (fun z => ((some (some (mI z)) : Option (Option MV)), mkh μ c s)) ?_
    have hz : g_dep μ a (μ 118 22) ≤ t ↔ μ 118 22 - μ 7 a.toNat ≤ t := by unfold g_dep; split <;> omega
    have h1 := v_d hL (a := a) hab
    have h2 := v_m hL (a := a) hab
    symm
    first | rw [if_pos (by unfold g_stand; omega)] | rw [if_neg (by unfold g_stand; omega)]
  · skip
    refine rn_aload_n (k' := 6) rfl rfl rfl ?_
    refine rn_getR (k' := 7) rfl rfl K0_118 (by decide) rfl R0_118_6 ?_
    refine rn_bipush (k' := 8) rfl rfl ?_
    refine rn_iload_n (k' := 9) rfl rfl rfl ?_
    refine rn_iadd (k' := 10) rfl rfl (by omega) ?_
    refine rn_iaload (k' := 11) rfl rfl K0_120 (by omega) (by omega) ?_
    rw [(v_d hL (a := a) (by omega)).1]
    have hb2 := (v_d hL (a := a) (by omega)).2
    refine rn_if_eq (k' := 12) rfl rfl (fun hc3 => ?_) (fun hc3 => ?_)
    · skip
      refine rn_aload_n (k' := 23) rfl rfl rfl ?_
      refine rn_getR (k' := 24) rfl rfl K0_118 (by decide) rfl R0_118_6 ?_
      refine rn_sipush (k' := 25) rfl rfl ?_
      refine rn_iload_n (k' := 26) rfl rfl rfl ?_
      refine rn_iadd (k' := 27) rfl rfl (by omega) ?_
      refine rn_iaload (k' := 28) rfl rfl K0_120 (by omega) (by omega) ?_
      rw [(v_m hL (a := a) (by omega)).1]
      have hb4 := (v_m hL (a := a) (by omega)).2
      refine rn_if_eq (k' := 29) rfl rfl (fun hc5 => ?_) (fun hc5 => ?_)
      · skip
        refine rn_iconst (k' := 40) rfl rfl ?_
        refine rn_goto rfl ?_
        refine rn_iret rfl (Or.inr (by omega)) ?_
        refine congrArg (fun z => ((some (some (mI z)) : Option (Option MV)), mkh μ c s)) ?_
        have hz : g_dep μ a (μ 118 22) ≤ t ↔ μ 118 22 - μ 7 a.toNat ≤ t := by unfold g_dep; split <;> omega
        have h1 := v_d hL (a := a) hab
        have h2 := v_m hL (a := a) hab
        symm
        first | rw [if_pos (by unfold g_stand; omega)] | rw [if_neg (by unfold g_stand; omega)]
      · skip
        refine rn_aload_n (k' := 30) rfl rfl rfl ?_
        refine rn_getR (k' := 31) rfl rfl K0_118 (by decide) rfl R0_118_6 ?_
        refine rn_sipush (k' := 32) rfl rfl ?_
        refine rn_iload_n (k' := 33) rfl rfl rfl ?_
        refine rn_iadd (k' := 34) rfl rfl (by omega) ?_
        refine rn_iaload (k' := 35) rfl rfl K0_120 (by omega) (by omega) ?_
        rw [(v_m hL (a := a) (by omega)).1]
        have hb6 := (v_m hL (a := a) (by omega)).2
        refine rn_iconst (k' := 36) rfl rfl ?_
        refine rn_isub (k' := 37) rfl rfl (by omega) ?_
        refine rn_iload_n (k' := 38) rfl rfl rfl ?_
        refine rn_icmp_gt (k' := 39) rfl rfl (fun hc7 => ?_) (fun hc7 => ?_)
        · skip
          refine rn_iconst (k' := 42) rfl rfl ?_
          refine rn_iret rfl (Or.inr (by omega)) ?_
          refine congrArg (fun z => ((some (some (mI z)) : Option (Option MV)), mkh μ c s)) ?_
          have hz : g_dep μ a (μ 118 22) ≤ t ↔ μ 118 22 - μ 7 a.toNat ≤ t := by unfold g_dep; split <;> omega
          have h1 := v_d hL (a := a) hab
          have h2 := v_m hL (a := a) hab
          symm
          first | rw [if_pos (by unfold g_stand; omega)] | rw [if_neg (by unfold g_stand; omega)]
        · skip
          refine rn_iconst (k' := 40) rfl rfl ?_
          refine rn_goto rfl ?_
          refine rn_iret rfl (Or.inr (by omega)) ?_
          refine congrArg (fun z => ((some (some (mI z)) : Option (Option MV)), mkh μ c s)) ?_
          have hz : g_dep μ a (μ 118 22) ≤ t ↔ μ 118 22 - μ 7 a.toNat ≤ t := by unfold g_dep; split <;> omega
          have h1 := v_d hL (a := a) hab
          have h2 := v_m hL (a := a) hab
          symm
          first | rw [if_pos (by unfold g_stand; omega)] | rw [if_neg (by unfold g_stand; omega)]
    · skip
      refine rn_aload_n (k' := 13) rfl rfl rfl ?_
      refine rn_getR (k' := 14) rfl rfl K0_118 (by decide) rfl R0_118_6 ?_
      refine rn_bipush (k' := 15) rfl rfl ?_
      refine rn_iload_n (k' := 16) rfl rfl rfl ?_
      refine rn_iadd (k' := 17) rfl rfl (by omega) ?_
      refine rn_iaload (k' := 18) rfl rfl K0_120 (by omega) (by omega) ?_
      rw [(v_d hL (a := a) (by omega)).1]
      have hb8 := (v_d hL (a := a) (by omega)).2
      refine rn_iconst (k' := 19) rfl rfl ?_
      refine rn_isub (k' := 20) rfl rfl (by omega) ?_
      refine rn_iload_n (k' := 21) rfl rfl rfl ?_
      refine rn_icmp_lt (k' := 22) rfl rfl (fun hc9 => ?_) (fun hc9 => ?_)
      · skip
        refine rn_iconst (k' := 42) rfl rfl ?_
        refine rn_iret rfl (Or.inr (by omega)) ?_
        refine congrArg (fun z => ((some (some (mI z)) : Option (Option MV)), mkh μ c s)) ?_
        have hz : g_dep μ a (μ 118 22) ≤ t ↔ μ 118 22 - μ 7 a.toNat ≤ t := by unfold g_dep; split <;> omega
        have h1 := v_d hL (a := a) hab
        have h2 := v_m hL (a := a) hab
        symm
        first | rw [if_pos (by unfold g_stand; omega)] | rw [if_neg (by unfold g_stand; omega)]
      · skip
        refine rn_aload_n (k' := 23) rfl rfl rfl ?_
        refine rn_getR (k' := 24) rfl rfl K0_118 (by decide) rfl R0_118_6 ?_
        refine rn_sipush (k' := 25) rfl rfl ?_
        refine rn_iload_n (k' := 26) rfl rfl rfl ?_
        refine rn_iadd (k' := 27) rfl rfl (by omega) ?_
        refine rn_iaload (k' := 28) rfl rfl K0_120 (by omega) (by omega) ?_
        rw [(v_m hL (a := a) (by omega)).1]
        have hb10 := (v_m hL (a := a) (by omega)).2
        refine rn_if_eq (k' := 29) rfl rfl (fun hc11 => ?_) (fun hc11 => ?_)
        · skip
          refine rn_iconst (k' := 40) rfl rfl ?_
          refine rn_goto rfl ?_
          refine rn_iret rfl (Or.inr (by omega)) ?_
          refine congrArg (fun z => ((some (some (mI z)) : Option (Option MV)), mkh μ c s)) ?_
          have hz : g_dep μ a (μ 118 22) ≤ t ↔ μ 118 22 - μ 7 a.toNat ≤ t := by unfold g_dep; split <;> omega
          have h1 := v_d hL (a := a) hab
          have h2 := v_m hL (a := a) hab
          symm
          first | rw [if_pos (by unfold g_stand; omega)] | rw [if_neg (by unfold g_stand; omega)]
        · skip
          refine rn_aload_n (k' := 30) rfl rfl rfl ?_
          refine rn_getR (k' := 31) rfl rfl K0_118 (by decide) rfl R0_118_6 ?_
          refine rn_sipush (k' := 32) rfl rfl ?_
          refine rn_iload_n (k' := 33) rfl rfl rfl ?_
          refine rn_iadd (k' := 34) rfl rfl (by omega) ?_
          refine rn_iaload (k' := 35) rfl rfl K0_120 (by omega) (by omega) ?_
          rw [(v_m hL (a := a) (by omega)).1]
          have hb12 := (v_m hL (a := a) (by omega)).2
          refine rn_iconst (k' := 36) rfl rfl ?_
          refine rn_isub (k' := 37) rfl rfl (by omega) ?_
          refine rn_iload_n (k' := 38) rfl rfl rfl ?_
          refine rn_icmp_gt (k' := 39) rfl rfl (fun hc13 => ?_) (fun hc13 => ?_)
          · skip
            refine rn_iconst (k' := 42) rfl rfl ?_
            refine rn_iret rfl (Or.inr (by omega)) ?_
            refine congrArg (fun z => ((some (some (mI z)) : Option (Option MV)), mkh μ c s)) ?_
            have hz : g_dep μ a (μ 118 22) ≤ t ↔ μ 118 22 - μ 7 a.toNat ≤ t := by unfold g_dep; split <;> omega
            have h1 := v_d hL (a := a) hab
            have h2 := v_m hL (a := a) hab
            symm
            first | rw [if_pos (by unfold g_stand; omega)] | rw [if_neg (by unfold g_stand; omega)]
          · skip
            refine rn_iconst (k' := 40) rfl rfl ?_
            refine rn_goto rfl ?_
            refine rn_iret rfl (Or.inr (by omega)) ?_
            refine congrArg (fun z => ((some (some (mI z)) : Option (Option MV)), mkh μ c s)) ?_
            have hz : g_dep μ a (μ 118 22) ≤ t ↔ μ 118 22 - μ 7 a.toNat ≤ t := by unfold g_dep; split <;> omega
            have h1 := v_d hL (a := a) hab
            have h2 := v_m hL (a := a) hab
            symm
            first | rw [if_pos (by unfold g_stand; omega)] | rw [if_neg (by unfold g_stand; omega)]
set_option maxHeartbeats 2000000 in
theorem c_X12_stiltsOf {μ : Nat → Nat → Int} {c s : Nat} (hL : I_land μ) (hS : I_scene μ) {a : Int} (ha : 0 ≤ a ∧ a < μ 6 13) : Cl PT 198 [mR 118, mI a] (mkh μ c s) (fun r => r = (some (some (mI (g_st μ (μ 16 a.toNat)))), mkh (μ) c s)) := by
  have hL_ := hL
  obtain ⟨lc, lr, le, lm, lw, lh, lwo, lwd, q0, q1, q2, q3, q4, q8, q499, q500, lth, lG, lT, lW, -⟩ := hL_
  have hS_ := hS
  obtain ⟨sd, sw, stk, s4, s5, s6, hC, hH, -, s10, sce, swc, s13⟩ := hS_
  refine ⟨_, PT_198, Nat.le_of_ble_eq_true rfl, ?_⟩
  show Rn PT none kX12_stiltsOf 0 [some (mR 118), some (mI (a))] [] (mkh μ c s) _
  refine rn_aload_n (k' := 1) rfl rfl rfl ?_
  refine rn_aload_n (k' := 2) rfl rfl rfl ?_
  refine rn_getR (k' := 3) rfl rfl K0_118 (by decide) rfl R0_118_6 ?_
  refine rn_sipush (k' := 4) rfl rfl ?_
  refine rn_iload_n (k' := 5) rfl rfl rfl ?_
  refine rn_iadd (k' := 6) rfl rfl (by omega) ?_
  refine rn_iaload (k' := 7) rfl rfl K0_120 (by omega) (by omega) ?_
  rw [(v_hd hS (a := a) (by omega)).1]
  have hb1 := (v_hd hS (a := a) (by omega)).2
  have hb2 := g_st_b hL (a := (μ 16 (a).toNat)) (by omega)
  refine rn_callP (k' := 8) (y := 197) (vs := [mR 118, mI (μ 16 (a).toNat)]) (S' := []) (v := some (mI (g_st μ (μ 16 (a).toNat)))) (h' := mkh μ c s) rfl rfl rfl (c_X12_stiltsBy (hL) (by omega)) ?_
  show Rn PT none kX12_stiltsOf 8 [some (mR 118), some (mI (a))] [mI (g_st μ (μ 16 (a).toNat))] (mkh μ c s) _
  refine rn_iret rfl (Or.inl rfl) ?_
  first | rfl | (refine congrArg (fun z => ((some (some (mI z)) : Option (Option MV)), mkh μ c s)) ?_; first | rfl | omega | (symm; first | (rw [if_pos (by omega)]; first | done | rfl | omega) | (rw [if_neg (by omega)]; first | done | rfl | omega)) | (symm; unfold g_tim; first | (rw [if_pos (by omega)]; first | done | rfl | omega) | (rw [if_neg (by omega)]; first | done | rfl | omega)) | (symm; unfold g_st; first | (rw [if_pos (by omega)]; first | done | rfl | omega) | (rw [if_neg (by omega)]; first | done | rfl | omega)) | (symm; unfold g_dep; first | (rw [if_pos (by omega)]; first | done | rfl | omega) | (rw [if_neg (by omega)]; first | done | rfl | omega)) | (symm; unfold g_nb; first | (rw [if_pos (by omega)]; first | done | rfl | omega) | (rw [if_neg (by omega)]; first | done | rfl | omega)) | ((try unfold g_st); (try unfold g_dep); (try unfold g_nb); (repeat' split) <;> omega) | (symm; (repeat (first | rw [if_pos (by omega)] | rw [if_neg (by omega)])); first | done | rfl | omega))
/-- rows that the scene is told in -/
def srow (a : Nat) : Bool := a == 6 || a == 14 || a == 15 || a == 16 || a == 120
theorem srow_ne {a b : Nat} (h : srow a = false) (hb : srow b = true) : ¬ b = a := by
  rintro rfl
  rw [h] at hb
  cases hb
theorem I_scene.congr {μ μ' : Nat → Nat → Int} (h : I_scene μ) (e6 : μ' 6 = μ 6) (e14 : μ' 14 = μ 14) (e15 : μ' 15 = μ 15) (e16 : μ' 16 = μ 16) (e120 : μ' 120 = μ 120) : I_scene μ' := by
  unfold I_scene at h ⊢
  rw [e6, e14, e15, e16, e120]
  exact h
theorem I_scene.set {μ : Nat → Nat → Int} {a j : Nat} {v : Int} (h : I_scene μ) (ha : srow a = false) : I_scene (m_set μ a j v) :=
  h.congr (row_set (srow_ne ha rfl)) (row_set (srow_ne ha rfl)) (row_set (srow_ne ha rfl)) (row_set (srow_ne ha rfl)) (row_set (srow_ne ha rfl))
theorem I_scene.upd {μ : Nat → Nat → Int} {a : Nat} {f : Nat → Int} (h : I_scene μ) (ha : srow a = false) : I_scene (m_upd μ a f) :=
  h.congr (row_upd (srow_ne ha rfl)) (row_upd (srow_ne ha rfl)) (row_upd (srow_ne ha rfl)) (row_upd (srow_ne ha rfl)) (row_upd (srow_ne ha rfl))
set_option maxHeartbeats 2000000 in
theorem c_X12_eyeOf {μ : Nat → Nat → Int} {c s : Nat} (hL : I_land μ) (hS : I_scene μ) {a : Int} (ha : 0 ≤ a ∧ a < μ 6 13) : Cl PT 199 [mR 118, mI a] (mkh μ c s) (fun r => r = (some (some (mI (μ 7 (μ 15 a.toNat).toNat + g_st μ (μ 16 a.toNat)))), mkh (μ) c s)) := by
  have hL_ := hL
  obtain ⟨lc, lr, le, lm, lw, lh, lwo, lwd, q0, q1, q2, q3, q4, q8, q499, q500, lth, lG, lT, lW, -⟩ := hL_
  have hS_ := hS
  obtain ⟨sd, sw, stk, s4, s5, s6, hC, hH, -, s10, sce, swc, s13⟩ := hS_
  have hag : g_cell μ (μ 15 a.toNat) := ⟨(hC _).1, sce _ (by omega)⟩
  refine ⟨_, PT_199, Nat.le_of_ble_eq_true rfl, ?_⟩
  show Rn PT none kX12_eyeOf 0 [some (mR 118), some (mI (a))] [] (mkh μ c s) _
  refine rn_aload_n (k' := 1) rfl rfl rfl ?_
  refine rn_getR (k' := 2) rfl rfl K0_118 (by decide) rfl R0_118_6 ?_
  refine rn_bipush (k' := 3) rfl rfl ?_
  refine rn_aload_n (k' := 4) rfl rfl rfl ?_
  refine rn_getR (k' := 5) rfl rfl K0_118 (by decide) rfl R0_118_6 ?_
  refine rn_sipush (k' := 6) rfl rfl ?_
  refine rn_iload_n (k' := 7) rfl rfl rfl ?_
  refine rn_iadd (k' := 8) rfl rfl (by omega) ?_
  refine rn_iaload (k' := 9) rfl rfl K0_120 (by omega) (by omega) ?_
  rw [(v_at hS (a := a) (by omega)).1]
  have hb1 := (v_at hS (a := a) (by omega)).2
  refine rn_iadd (k' := 10) rfl rfl (by omega) ?_
  refine rn_iaload (k' := 11) rfl rfl K0_120 (by omega) (by omega) ?_
  rw [(v_g hL (a := (μ 15 (a).toNat)) (by first | assumption | omega)).1]
  have hb2 := (v_g hL (a := (μ 15 (a).toNat)) (by first | assumption | omega)).2
  refine rn_aload_n (k' := 12) rfl rfl rfl ?_
  refine rn_iload_n (k' := 13) rfl rfl rfl ?_
  have hb3 := g_st_b hL (a := μ 16 (a).toNat) (hH _).1
  refine rn_callP (k' := 14) (y := 198) (vs := [mR 118, mI (a)]) (S' := [mI (μ 7 ((μ 15 (a).toNat)).toNat)]) (v := some (mI (g_st μ (μ 16 (a).toNat)))) (h' := mkh μ c s) rfl rfl rfl (c_X12_stiltsOf (hL) (hS) (by show 0 ≤ (a : Int) ∧ (a : Int) < μ 6 13; omega)) ?_
  show Rn PT none kX12_eyeOf 14 [some (mR 118), some (mI (a))] [mI (g_st μ (μ 16 (a).toNat)), mI (μ 7 ((μ 15 (a).toNat)).toNat)] (mkh μ c s) _
  refine rn_iadd (k' := 15) rfl rfl (by omega) ?_
  refine rn_iret rfl (Or.inl rfl) ?_
  first | rfl | (refine congrArg (fun z => ((some (some (mI z)) : Option (Option MV)), mkh μ c s)) ?_; first | rfl | omega | (symm; first | (rw [if_pos (by omega)]; first | done | rfl | omega) | (rw [if_neg (by omega)]; first | done | rfl | omega)) | (symm; unfold g_tim; first | (rw [if_pos (by omega)]; first | done | rfl | omega) | (rw [if_neg (by omega)]; first | done | rfl | omega)) | (symm; unfold g_st; first | (rw [if_pos (by omega)]; first | done | rfl | omega) | (rw [if_neg (by omega)]; first | done | rfl | omega)) | (symm; unfold g_dep; first | (rw [if_pos (by omega)]; first | done | rfl | omega) | (rw [if_neg (by omega)]; first | done | rfl | omega)) | (symm; unfold g_nb; first | (rw [if_pos (by omega)]; first | done | rfl | omega) | (rw [if_neg (by omega)]; first | done | rfl | omega)) | ((try unfold g_st); (try unfold g_dep); (try unfold g_nb); (repeat' split) <;> omega) | (symm; (repeat (first | rw [if_pos (by omega)] | rw [if_neg (by omega)])); first | done | rfl | omega))
set_option maxHeartbeats 2000000 in
theorem c_X9_eyeOf {μ : Nat → Nat → Int} {c s : Nat} (hL : I_land μ) (hS : I_scene μ) {a : Int} (ha : 0 ≤ a ∧ a < 8) : Cl PT 78 [mR 81, mI a] (mkh μ c s) (fun r => r = (some (some (mI (μ 7 (μ 15 a.toNat).toNat + g_st μ (μ 16 a.toNat)))), mkh (μ) c s)) := by
  have hL_ := hL
  obtain ⟨lc, lr, le, lm, lw, lh, lwo, lwd, q0, q1, q2, q3, q4, q8, q499, q500, lth, lG, lT, lW, -⟩ := hL_
  have hS_ := hS
  obtain ⟨sd, sw, stk, s4, s5, s6, hC, hH, -, s10, sce, swc, s13⟩ := hS_
  refine ⟨_, PT_78, Nat.le_of_ble_eq_true rfl, ?_⟩
  show Rn PT none kX9_eyeOf 0 [some (mR 81), some (mI (a))] [] (mkh μ c s) _
  refine rn_aload_n (k' := 1) rfl rfl rfl ?_
  refine rn_getR (k' := 2) rfl rfl K0_81 (by decide) rfl R0_81_0 ?_
  refine rn_getR (k' := 3) rfl rfl K0_6 (by decide) rfl R0_6_0 ?_
  refine rn_aload_n (k' := 4) rfl rfl rfl ?_
  refine rn_getR (k' := 5) rfl rfl K0_81 (by decide) rfl R0_81_1 ?_
  refine rn_getR (k' := 6) rfl rfl K0_14 (by decide) rfl R0_14_1 ?_
  refine rn_iload_n (k' := 7) rfl rfl rfl ?_
  refine rn_iaload (k' := 8) rfl rfl K0_15 (by omega) (by omega) ?_
  have hb1 := hC ((a).toNat)
  refine rn_iaload (k' := 9) rfl rfl K0_7 (by omega) (by omega) ?_
  have hb2 := lG ((μ 15 ((a).toNat)).toNat)
  refine rn_aload_n (k' := 10) rfl rfl rfl ?_
  refine rn_getR (k' := 11) rfl rfl K0_81 (by decide) rfl R0_81_0 ?_
  refine rn_aload_n (k' := 12) rfl rfl rfl ?_
  refine rn_getR (k' := 13) rfl rfl K0_81 (by decide) rfl R0_81_1 ?_
  refine rn_getR (k' := 14) rfl rfl K0_14 (by decide) rfl R0_14_2 ?_
  refine rn_iload_n (k' := 15) rfl rfl rfl ?_
  refine rn_iaload (k' := 16) rfl rfl K0_16 (by omega) (by omega) ?_
  have hb3 := hH ((a).toNat)
  have hb4 := g_st_b hL (a := (μ 16 ((a).toNat))) (by omega)
  refine rn_callP (k' := 17) (y := 33) (vs := [mR 6, mI (μ 16 ((a).toNat))]) (S' := [mI (μ 7 ((μ 15 ((a).toNat)).toNat))]) (v := some (mI (g_st μ (μ 16 ((a).toNat))))) (h' := mkh μ c s) rfl rfl rfl (k_stiltsFor (hL) (by omega)) ?_
  show Rn PT none kX9_eyeOf 17 [some (mR 81), some (mI (a))] [mI (g_st μ (μ 16 ((a).toNat))), mI (μ 7 ((μ 15 ((a).toNat)).toNat))] (mkh μ c s) _
  refine rn_iadd (k' := 18) rfl rfl (by omega) ?_
  refine rn_iret rfl (Or.inl rfl) ?_
  first | rfl | (refine congrArg (fun z => ((some (some (mI z)) : Option (Option MV)), mkh μ c s)) ?_; first | rfl | omega | (symm; first | (rw [if_pos (by omega)]; first | done | rfl | omega) | (rw [if_neg (by omega)]; first | done | rfl | omega)) | (symm; unfold g_tim; first | (rw [if_pos (by omega)]; first | done | rfl | omega) | (rw [if_neg (by omega)]; first | done | rfl | omega)) | (symm; unfold g_st; first | (rw [if_pos (by omega)]; first | done | rfl | omega) | (rw [if_neg (by omega)]; first | done | rfl | omega)) | (symm; unfold g_dep; first | (rw [if_pos (by omega)]; first | done | rfl | omega) | (rw [if_neg (by omega)]; first | done | rfl | omega)) | (symm; unfold g_nb; first | (rw [if_pos (by omega)]; first | done | rfl | omega) | (rw [if_neg (by omega)]; first | done | rfl | omega)) | ((try unfold g_st); (try unfold g_dep); (try unfold g_nb); (repeat' split) <;> omega) | (symm; (repeat (first | rw [if_pos (by omega)] | rw [if_neg (by omega)])); first | done | rfl | omega))
set_option maxHeartbeats 2000000 in
theorem c_X12_timberOf {μ : Nat → Nat → Int} {c s : Nat} (hL : I_land μ) (hS : I_scene μ) {a : Int} (ha : 0 ≤ a ∧ a < μ 6 13) : Cl PT 200 [mR 118, mI a] (mkh μ c s) (fun r => r = (some (some (mI (g_tim μ (g_st μ (μ 16 a.toNat))))), mkh (μ) c s)) := by
  have hL_ := hL
  obtain ⟨lc, lr, le, lm, lw, lh, lwo, lwd, q0, q1, q2, q3, q4, q8, q499, q500, lth, lG, lT, lW, -⟩ := hL_
  have hS_ := hS
  obtain ⟨sd, sw, stk, s4, s5, s6, hC, hH, -, s10, sce, swc, s13⟩ := hS_
  refine ⟨_, PT_200, Nat.le_of_ble_eq_true rfl, ?_⟩
  show Rn PT none kX12_timberOf 0 [some (mR 118), some (mI (a))] [] (mkh μ c s) _
  refine rn_aload_n (k' := 1) rfl rfl rfl ?_
  refine rn_iload_n (k' := 2) rfl rfl rfl ?_
  have hb1 := g_st_b hL (a := μ 16 (a).toNat) (hH _).1
  refine rn_callP (k' := 3) (y := 198) (vs := [mR 118, mI (a)]) (S' := []) (v := some (mI (g_st μ (μ 16 (a).toNat)))) (h' := mkh μ c s) rfl rfl rfl (c_X12_stiltsOf (hL) (hS) (by show 0 ≤ (a : Int) ∧ (a : Int) < μ 6 13; omega)) ?_
  show Rn PT none kX12_timberOf 3 [some (mR 118), some (mI (a))] [mI (g_st μ (μ 16 (a).toNat))] (mkh μ c s) _
  refine rn_if_ne (k' := 4) rfl rfl (fun hc2 => ?_) (fun hc2 => ?_)
  · skip
    refine rn_iconst (k' := 7) rfl rfl ?_
    refine rn_aload_n (k' := 8) rfl rfl rfl ?_
    refine rn_iload_n (k' := 9) rfl rfl rfl ?_
    have hb3 := g_st_b hL (a := μ 16 (a).toNat) (hH _).1
    refine rn_callP (k' := 10) (y := 198) (vs := [mR 118, mI (a)]) (S' := [mI (2)]) (v := some (mI (g_st μ (μ 16 (a).toNat)))) (h' := mkh μ c s) rfl rfl rfl (c_X12_stiltsOf (hL) (hS) (by show 0 ≤ (a : Int) ∧ (a : Int) < μ 6 13; omega)) ?_
    show Rn PT none kX12_timberOf 10 [some (mR 118), some (mI (a))] [mI (g_st μ (μ 16 (a).toNat)), mI (2)] (mkh μ c s) _
    refine rn_imul (k' := 11) rfl rfl (by omega) ?_
    refine rn_aload_n (k' := 12) rfl rfl rfl ?_
    refine rn_getR (k' := 13) rfl rfl K0_118 (by decide) rfl R0_118_6 ?_
    refine rn_iconst (k' := 14) rfl rfl ?_
    refine rn_iaload (k' := 15) rfl rfl K0_120 (by omega) (by omega) ?_
    show Rn PT none kX12_timberOf 15 [some (mR 118), some (mI (a))] [mI (μ 120 4), mI (2 * (g_st μ (μ 16 (a).toNat)))] (mkh μ c s) _
    rw [q4]
    refine rn_iadd (k' := 16) rfl rfl (by omega) ?_
    refine rn_iret rfl (Or.inl rfl) ?_
    first | rfl | (refine congrArg (fun z => ((some (some (mI z)) : Option (Option MV)), mkh μ c s)) ?_; first | rfl | omega | (symm; first | (rw [if_pos (by omega)]; first | done | rfl | omega) | (rw [if_neg (by omega)]; first | done | rfl | omega)) | (symm; unfold g_tim; first | (rw [if_pos (by omega)]; first | done | rfl | omega) | (rw [if_neg (by omega)]; first | done | rfl | omega)) | (symm; unfold g_st; first | (rw [if_pos (by omega)]; first | done | rfl | omega) | (rw [if_neg (by omega)]; first | done | rfl | omega)) | (symm; unfold g_dep; first | (rw [if_pos (by omega)]; first | done | rfl | omega) | (rw [if_neg (by omega)]; first | done | rfl | omega)) | (symm; unfold g_nb; first | (rw [if_pos (by omega)]; first | done | rfl | omega) | (rw [if_neg (by omega)]; first | done | rfl | omega)) | ((try unfold g_st); (try unfold g_dep); (try unfold g_nb); (repeat' split) <;> omega) | (symm; (repeat (first | rw [if_pos (by omega)] | rw [if_neg (by omega)])); first | done | rfl | omega))
  · skip
    refine rn_iconst (k' := 5) rfl rfl ?_
    refine rn_goto rfl ?_
    refine rn_iret rfl (Or.inl rfl) ?_
    first | rfl | (refine congrArg (fun z => ((some (some (mI z)) : Option (Option MV)), mkh μ c s)) ?_; first | rfl | omega | (symm; first | (rw [if_pos (by omega)]; first | done | rfl | omega) | (rw [if_neg (by omega)]; first | done | rfl | omega)) | (symm; unfold g_tim; first | (rw [if_pos (by omega)]; first | done | rfl | omega) | (rw [if_neg (by omega)]; first | done | rfl | omega)) | (symm; unfold g_st; first | (rw [if_pos (by omega)]; first | done | rfl | omega) | (rw [if_neg (by omega)]; first | done | rfl | omega)) | (symm; unfold g_dep; first | (rw [if_pos (by omega)]; first | done | rfl | omega) | (rw [if_neg (by omega)]; first | done | rfl | omega)) | (symm; unfold g_nb; first | (rw [if_pos (by omega)]; first | done | rfl | omega) | (rw [if_neg (by omega)]; first | done | rfl | omega)) | ((try unfold g_st); (try unfold g_dep); (try unfold g_nb); (repeat' split) <;> omega) | (symm; (repeat (first | rw [if_pos (by omega)] | rw [if_neg (by omega)])); first | done | rfl | omega))
