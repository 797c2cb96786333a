variable {N : Int}
/-! ===== printed by wip/whole/gen98.py: sets of heights of the class ===== -/
theorem upd7_of {μ ν : Nat → Nat → Int} (h : ∀ b, ¬ b = 74 → ¬ b = 75 → ¬ b = 76 → ¬ b = 77 → ¬ b = 78 → ¬ b = 79 → ¬ b = 80 → ν b = μ b) : ν = m_upd (m_upd (m_upd (m_upd (m_upd (m_upd (m_upd μ 74 (ν 74)) 75 (ν 75)) 76 (ν 76)) 77 (ν 77)) 78 (ν 78)) 79 (ν 79)) 80 (ν 80) := by
  funext i j
  unfold m_upd
  by_cases i0 : i = 80
  · rw [if_pos i0, i0]
  · rw [if_neg i0]
    by_cases i1 : i = 79
    · rw [if_pos i1, i1]
    · rw [if_neg i1]
      by_cases i2 : i = 78
      · rw [if_pos i2, i2]
      · rw [if_neg i2]
        by_cases i3 : i = 77
        · rw [if_pos i3, i3]
        · rw [if_neg i3]
          by_cases i4 : i = 76
          · rw [if_pos i4, i4]
          · rw [if_neg i4]
            by_cases i5 : i = 75
            · rw [if_pos i5, i5]
            · rw [if_neg i5]
              by_cases i6 : i = 74
              · rw [if_pos i6, i6]
              · rw [if_neg i6, h i i6 i5 i4 i3 i2 i1 i0]
theorem l_fillJ {μ : Nat → Nat → Int} {c s a N : Nat} {v : Int} (hK : K0[a]? = some (103, N)) (hN : N < 2147483648) : ∀ (d n : Nat) (k : Int), k = (n : Int) → n + d = N → Rn PT none kJ7_fill_d0a16 5 [some (mR a), some (mJ v), none, some (mI k), some (mI (N : Int))] [] (mkh (m_upd μ a (fl (fun _ => v) (μ a) n)) c s) (fun r => r = (some none, mkh (m_upd μ a (fl (fun _ => v) (μ a) N)) c s)) := by
  intro d
  induction d with
  | zero =>
    intro n k ek hn
    subst ek
    refine rn_iload_n (k' := 6) rfl rfl rfl ?_
    refine rn_iload (k' := 7) rfl rfl rfl ?_
    refine rn_icmp_ge (k' := 8) rfl rfl (fun hc => ?_) (fun hc => ?_)
    · refine rn_vret rfl ?_
      rw [show N = n by omega]
    · exfalso; omega
  | succ d ih =>
    intro n k ek hn
    subst ek
    refine rn_iload_n (k' := 6) rfl rfl rfl ?_
    refine rn_iload (k' := 7) rfl rfl rfl ?_
    refine rn_icmp_ge (k' := 8) rfl rfl (fun hc => ?_) (fun hc => ?_)
    · exfalso; omega
    · refine rn_aload_n (k' := 9) rfl rfl rfl ?_
      refine rn_iload_n (k' := 10) rfl rfl rfl ?_
      refine rn_lload_n (k' := 11) rfl rfl rfl ?_
      refine rn_lastore (k' := 12) rfl rfl hK (by omega) (by omega) ?_
      refine rn_iinc (k' := 13) (L' := [some (mR a), some (mJ v), none, some (mI ((n : Int) + 1)), some (mI (N : Int))]) rfl rfl rfl (by omega) rfl ?_
      refine rn_goto rfl ?_
      show Rn PT none kJ7_fill_d0a16 5 _ _ (mkh (m_set (m_upd μ a (fl (fun _ => v) (μ a) n)) a n v) c s) _
      rw [fl_st rfl]
      exact ih (n + 1) _ (by omega) (by omega)
theorem c_fillJ {μ : Nat → Nat → Int} {c s a N : Nat} {v : Int} (hK : K0[a]? = some (103, N)) (hN : N < 2147483648) : Cl PT 274 [mR a, mJ v] (mkh μ c s) (fun r => r = (some none, mkh (m_upd μ a (fl (fun _ => v) (μ a) N)) c s)) := by
  refine ⟨_, PT_274, Nat.le_of_ble_eq_true rfl, ?_⟩
  show Rn PT none kJ7_fill_d0a16 0 [some (mR a), some (mJ v), none, none, none] [] (mkh μ c s) _
  refine rn_iconst (k' := 1) rfl rfl ?_
  refine rn_istore_n (k' := 2) (L' := [some (mR a), some (mJ v), none, some (mI 0), none]) rfl rfl (Nat.le_of_ble_eq_true rfl) rfl ?_
  refine rn_aload_n (k' := 3) rfl rfl rfl ?_
  refine rn_alen (k' := 4) rfl rfl hK ⟨by decide, hN⟩ ?_
  refine rn_istore (k' := 5) (L' := [some (mR a), some (mJ v), none, some (mI 0), some (mI (N : Int))]) rfl rfl (Nat.le_of_ble_eq_true rfl) rfl ?_
  have h := l_fillJ (μ := μ) (c := c) (s := s) (v := v) hK hN N 0 0 rfl (by omega)
  rw [fl_0] at h
  exact h
theorem bet_bits {lo hi : Nat} (h1 : lo ≤ hi) (h2 : hi < 64) {i : Nat} (hi64 : i < 64) : bJ (m_land (m_lshl (-1) (lo : Int)) (m_lushr (-1) (63 - (hi : Int)))) i = decide (lo ≤ i ∧ i ≤ hi) := by
  have e : (63 - (hi : Int)) = ((63 - hi : Nat) : Int) := by omega
  rw [bJ_and, bJ_shl (by omega) _ hi64, e, bJ_ushr (by omega)]
  by_cases a : lo ≤ i
  · rw [decide_eq_true a, bJ_m1 (i - lo) (by omega)]
    by_cases b : i ≤ hi
    · rw [bJ_m1 (63 - hi + i) (by omega), decide_eq_true ⟨a, b⟩]; rfl
    · rw [show bJ (-1) (63 - hi + i) = false from BitVec.getLsbD_of_ge _ _ (by omega), decide_eq_false (fun z => b z.2)]; rfl
  · rw [decide_eq_false a, decide_eq_false (fun z => a z.1)]; rfl
theorem c_bet_ok {μ : Nat → Nat → Int} {c s : Nat} {le mo fi : Int} (hle : -1 ≤ le ∧ le ≤ 1000) (hmo : 0 ≤ mo ∧ mo ≤ 99) (hfi : 0 ≤ fi ∧ fi ≤ 64) {lo hh : Int} (hmax : (if le - fi < 0 then 0 else le - fi) = lo) (hmin : (if 63 < mo - fi then 63 else mo - fi) = hh) (hlo : 0 ≤ lo ∧ lo ≤ 1001) (hhh : -100 ≤ hh ∧ hh ≤ 63) (hlh : lo ≤ hh) : Cl PT 16 [mI le, mI mo, mI fi] (mkh μ c s) (fun r => r = (some (some (mJ (m_land (m_lshl (-1) lo) (m_lushr (-1) (63 - hh))))), mkh μ c s)) := by
  refine ⟨_, PT_16, Nat.le_of_ble_eq_true rfl, ?_⟩
  show Rn PT none kX1_between 0 [some (mI (le)), some (mI (mo)), some (mI (fi)), none, none] [] (mkh μ c s) _
  refine rn_iload_n (k' := 1) rfl rfl rfl ?_
  refine rn_iload_n (k' := 2) rfl rfl rfl ?_
  refine rn_isub (k' := 3) rfl rfl (by omega) ?_
  refine rn_iconst (k' := 4) rfl rfl ?_
  refine rn_nat (k' := 5) (S' := [mI (if le - fi < 0 then 0 else le - fi)]) (h' := mkh μ c s) rfl rfl rfl ?_
  rw [hmax]
  refine rn_istore_n (k' := 6) (L' := [some (mI (le)), some (mI (mo)), some (mI (fi)), some (mI (lo)), none]) rfl rfl (Nat.le_of_ble_eq_true rfl) rfl ?_
  refine rn_iload_n (k' := 7) rfl rfl rfl ?_
  refine rn_iload_n (k' := 8) rfl rfl rfl ?_
  refine rn_isub (k' := 9) rfl rfl (by omega) ?_
  refine rn_bipush (k' := 10) rfl rfl ?_
  refine rn_nat (k' := 11) (S' := [mI (if 63 < mo - fi then 63 else mo - fi)]) (h' := mkh μ c s) rfl rfl rfl ?_
  rw [hmin]
  refine rn_istore (k' := 12) (L' := [some (mI (le)), some (mI (mo)), some (mI (fi)), some (mI (lo)), some (mI (hh))]) rfl rfl (Nat.le_of_ble_eq_true rfl) rfl ?_
  refine rn_iload_n (k' := 13) rfl rfl rfl ?_
  refine rn_iload (k' := 14) rfl rfl rfl ?_
  refine rn_icmp_le (k' := 15) rfl rfl (fun hc1 => ?_) (fun hc1 => ?_)
  · skip
    refine rn_ldc2_w (k' := 18) rfl rfl ?_
    refine rn_iload_n (k' := 19) rfl rfl rfl ?_
    refine rn_lshl (k' := 20) rfl rfl ?_
    refine rn_ldc2_w (k' := 21) rfl rfl ?_
    refine rn_bipush (k' := 22) rfl rfl ?_
    refine rn_iload (k' := 23) rfl rfl rfl ?_
    refine rn_isub (k' := 24) rfl rfl (by omega) ?_
    refine rn_lushr (k' := 25) rfl rfl ?_
    refine rn_land (k' := 26) rfl rfl ?_
    refine rn_lret rfl ?_
    rfl
  · exfalso; omega
theorem c_bet_no {μ : Nat → Nat → Int} {c s : Nat} {le mo fi : Int} (hle : -1 ≤ le ∧ le ≤ 1000) (hmo : 0 ≤ mo ∧ mo ≤ 99) (hfi : 0 ≤ fi ∧ fi ≤ 64) {lo hh : Int} (hmax : (if le - fi < 0 then 0 else le - fi) = lo) (hmin : (if 63 < mo - fi then 63 else mo - fi) = hh) (hlo : 0 ≤ lo ∧ lo ≤ 1001) (hhh : -100 ≤ hh ∧ hh ≤ 63) (hlh : ¬ lo ≤ hh) : Cl PT 16 [mI le, mI mo, mI fi] (mkh μ c s) (fun r => r = (some (some (mJ 0)), mkh μ c s)) := by
  refine ⟨_, PT_16, Nat.le_of_ble_eq_true rfl, ?_⟩
  show Rn PT none kX1_between 0 [some (mI (le)), some (mI (mo)), some (mI (fi)), none, none] [] (mkh μ c s) _
  refine rn_iload_n (k' := 1) rfl rfl rfl ?_
  refine rn_iload_n (k' := 2) rfl rfl rfl ?_
  refine rn_isub (k' := 3) rfl rfl (by omega) ?_
  refine rn_iconst (k' := 4) rfl rfl ?_
  refine rn_nat (k' := 5) (S' := [mI (if le - fi < 0 then 0 else le - fi)]) (h' := mkh μ c s) rfl rfl rfl ?_
  rw [hmax]
  refine rn_istore_n (k' := 6) (L' := [some (mI (le)), some (mI (mo)), some (mI (fi)), some (mI (lo)), none]) rfl rfl (Nat.le_of_ble_eq_true rfl) rfl ?_
  refine rn_iload_n (k' := 7) rfl rfl rfl ?_
  refine rn_iload_n (k' := 8) rfl rfl rfl ?_
  refine rn_isub (k' := 9) rfl rfl (by omega) ?_
  refine rn_bipush (k' := 10) rfl rfl ?_
  refine rn_nat (k' := 11) (S' := [mI (if 63 < mo - fi then 63 else mo - fi)]) (h' := mkh μ c s) rfl rfl rfl ?_
  rw [hmin]
  refine rn_istore (k' := 12) (L' := [some (mI (le)), some (mI (mo)), some (mI (fi)), some (mI (lo)), some (mI (hh))]) rfl rfl (Nat.le_of_ble_eq_true rfl) rfl ?_
  refine rn_iload_n (k' := 13) rfl rfl rfl ?_
  refine rn_iload (k' := 14) rfl rfl rfl ?_
  refine rn_icmp_le (k' := 15) rfl rfl (fun hc1 => ?_) (fun hc1 => ?_)
  · exfalso; omega
  · skip
    refine rn_lconst (z := 0) (k' := 16) rfl rfl rfl ?_
    refine rn_goto rfl ?_
    refine rn_lret rfl ?_
    rfl
theorem c_between {μ : Nat → Nat → Int} {c s : Nat} {le mo fi : Int} (hle : -1 ≤ le ∧ le ≤ 1000) (hmo : 0 ≤ mo ∧ mo ≤ 99) (hfi : 0 ≤ fi ∧ fi ≤ 64) : ∃ z, (∀ i : Nat, i < 64 → bJ z i = decide (le ≤ fi + (i : Int) ∧ fi + (i : Int) ≤ mo)) ∧ Cl PT 16 [mI le, mI mo, mI fi] (mkh μ c s) (fun r => r = (some (some (mJ z)), mkh μ c s)) := by
  obtain ⟨lo, hmax, hl⟩ : ∃ lo, (if le - fi < 0 then 0 else le - fi) = lo ∧ ((le - fi < 0 ∧ lo = 0) ∨ (¬ le - fi < 0 ∧ lo = le - fi)) := by
    by_cases e : le - fi < 0
    · exact ⟨0, if_pos e, Or.inl ⟨e, rfl⟩⟩
    · exact ⟨le - fi, if_neg e, Or.inr ⟨e, rfl⟩⟩
  obtain ⟨hh, hmin, hm⟩ : ∃ hh, (if 63 < mo - fi then 63 else mo - fi) = hh ∧ ((63 < mo - fi ∧ hh = 63) ∨ (¬ 63 < mo - fi ∧ hh = mo - fi)) := by
    by_cases e : 63 < mo - fi
    · exact ⟨63, if_pos e, Or.inl ⟨e, rfl⟩⟩
    · exact ⟨mo - fi, if_neg e, Or.inr ⟨e, rfl⟩⟩
  by_cases hlh : lo ≤ hh
  · refine ⟨_, fun i hi => ?_, c_bet_ok hle hmo hfi hmax hmin (by omega) (by omega) hlh⟩
    obtain ⟨ln, rfl⟩ := Int.eq_ofNat_of_zero_le (show 0 ≤ lo by omega)
    obtain ⟨hn, rfl⟩ := Int.eq_ofNat_of_zero_le (show 0 ≤ hh by omega)
    rw [bet_bits (by omega) (by omega) hi]
    by_cases e : ln ≤ i ∧ i ≤ hn
    · rw [decide_eq_true e, decide_eq_true (by omega)]
    · rw [decide_eq_false e, decide_eq_false (by omega)]
  · refine ⟨0, fun i hi => ?_, c_bet_no hle hmo hfi hmax hmin (by omega) (by omega) hlh⟩
    rw [bJ_0 i hi, decide_eq_false (by omega)]
theorem c_has75_t {μ : Nat → Nat → Int} {c s : Nat} {a : Int} (ha : 0 ≤ a ∧ a < 100) {h : Nat} (hh : h < 100) (hq : hb (μ 75) a h = true) : Cl PT 15 [mR 75, mI a, mI (h : Int)] (mkh μ c s) (fun r => r = (some (some (mI 1)), mkh μ c s)) := by
  have t1 : ((h : Int)).tdiv 64 = (h : Int) / 64 := Int.tdiv_eq_ediv_of_nonneg (by omega)
  have t2 : ((h : Int)).tmod 64 = (h : Int) % 64 := Int.tmod_eq_emod_of_nonneg (by omega)
  have t3 : ((h : Int)).tmod 64 = ((h % 64 : Nat) : Int) := by rw [t2]; omega
  have hbt : m_land (m_lushr (μ 75 ((2 * a) + ((h : Int)).tdiv 64).toNat) (((h : Int)).tmod 64)) 1 = 1 := by
    rw [t3, bitJ (by omega)]
    have e : bJ (μ 75 ((2 * a) + ((h : Int)).tdiv 64).toNat) (h % 64) = hb (μ 75) a h := by
      unfold hb pb
      by_cases e : h < 64
      · rw [if_pos e, show ((2 * a) + ((h : Int)).tdiv 64).toNat = (2 * a).toNat by omega, show h % 64 = h by omega]
      · rw [if_neg e, show ((2 * a) + ((h : Int)).tdiv 64).toNat = ((2 * a) + 1).toNat by omega, show h % 64 = h - 64 by omega]
    rw [e]
    first | rw [if_pos hq] | rw [if_neg hq]
  refine ⟨_, PT_15, Nat.le_of_ble_eq_true rfl, ?_⟩
  show Rn PT none kX1_has 0 [some (mR 75), some (mI (a)), some (mI ((h : Int)))] [] (mkh μ c s) _
  refine rn_aload_n (k' := 1) rfl rfl rfl ?_
  refine rn_iconst (k' := 2) rfl rfl ?_
  refine rn_iload_n (k' := 3) rfl rfl rfl ?_
  refine rn_imul (k' := 4) rfl rfl (by omega) ?_
  refine rn_iload_n (k' := 5) rfl rfl rfl ?_
  refine rn_bipush (k' := 6) rfl rfl ?_
  refine rn_idiv (k' := 7) rfl rfl (by decide) (by rw [t1]; omega) ?_
  refine rn_iadd (k' := 8) rfl rfl (by omega) ?_
  refine rn_laload (k' := 9) rfl rfl K0_75 (by omega) (by omega) ?_
  refine rn_iload_n (k' := 10) rfl rfl rfl ?_
  refine rn_bipush (k' := 11) rfl rfl ?_
  refine rn_irem (k' := 12) rfl rfl (by decide) ?_
  refine rn_lushr (k' := 13) rfl rfl ?_
  refine rn_lconst (z := 1) (k' := 14) rfl rfl rfl ?_
  refine rn_land (k' := 15) rfl rfl ?_
  show Rn PT none kX1_has 15 [some (mR 75), some (mI (a)), some (mI ((h : Int)))] [mJ (m_land (m_lushr (μ 75 (((2 * a) + (((h : Int)).tdiv (64))).toNat)) (((h : Int)).tmod (64))) (1))] (mkh μ c s) _
  rw [hbt]
  show Rn PT none kX1_has 15 [some (mR 75), some (mI (a)), some (mI ((h : Int)))] [mJ 1] (mkh μ c s) _
  refine rn_lconst (k' := 16) rfl rfl rfl ?_
  refine rn_lcmp (k' := 17) rfl rfl ?_
  show Rn PT none kX1_has 17 [some (mR 75), some (mI (a)), some (mI ((h : Int)))] [mI 0] (mkh μ c s) _
  refine rn_if_ne (k' := 18) rfl rfl (fun hc1 => ?_) (fun hc1 => ?_)
  · exfalso; omega
  · skip
    refine rn_iconst (k' := 19) rfl rfl ?_
    refine rn_goto rfl ?_
    refine rn_iret rfl (Or.inr (by omega)) ?_
    rfl
theorem c_has75_f {μ : Nat → Nat → Int} {c s : Nat} {a : Int} (ha : 0 ≤ a ∧ a < 100) {h : Nat} (hh : h < 100) (hq : ¬ hb (μ 75) a h = true) : Cl PT 15 [mR 75, mI a, mI (h : Int)] (mkh μ c s) (fun r => r = (some (some (mI 0)), mkh μ c s)) := by
  have t1 : ((h : Int)).tdiv 64 = (h : Int) / 64 := Int.tdiv_eq_ediv_of_nonneg (by omega)
  have t2 : ((h : Int)).tmod 64 = (h : Int) % 64 := Int.tmod_eq_emod_of_nonneg (by omega)
  have t3 : ((h : Int)).tmod 64 = ((h % 64 : Nat) : Int) := by rw [t2]; omega
  have hbt : m_land (m_lushr (μ 75 ((2 * a) + ((h : Int)).tdiv 64).toNat) (((h : Int)).tmod 64)) 1 = 0 := by
    rw [t3, bitJ (by omega)]
    have e : bJ (μ 75 ((2 * a) + ((h : Int)).tdiv 64).toNat) (h % 64) = hb (μ 75) a h := by
      unfold hb pb
      by_cases e : h < 64
      · rw [if_pos e, show ((2 * a) + ((h : Int)).tdiv 64).toNat = (2 * a).toNat by omega, show h % 64 = h by omega]
      · rw [if_neg e, show ((2 * a) + ((h : Int)).tdiv 64).toNat = ((2 * a) + 1).toNat by omega, show h % 64 = h - 64 by omega]
    rw [e]
    first | rw [if_pos hq] | rw [if_neg hq]
  refine ⟨_, PT_15, Nat.le_of_ble_eq_true rfl, ?_⟩
  show Rn PT none kX1_has 0 [some (mR 75), some (mI (a)), some (mI ((h : Int)))] [] (mkh μ c s) _
  refine rn_aload_n (k' := 1) rfl rfl rfl ?_
  refine rn_iconst (k' := 2) rfl rfl ?_
  refine rn_iload_n (k' := 3) rfl rfl rfl ?_
  refine rn_imul (k' := 4) rfl rfl (by omega) ?_
  refine rn_iload_n (k' := 5) rfl rfl rfl ?_
  refine rn_bipush (k' := 6) rfl rfl ?_
  refine rn_idiv (k' := 7) rfl rfl (by decide) (by rw [t1]; omega) ?_
  refine rn_iadd (k' := 8) rfl rfl (by omega) ?_
  refine rn_laload (k' := 9) rfl rfl K0_75 (by omega) (by omega) ?_
  refine rn_iload_n (k' := 10) rfl rfl rfl ?_
  refine rn_bipush (k' := 11) rfl rfl ?_
  refine rn_irem (k' := 12) rfl rfl (by decide) ?_
  refine rn_lushr (k' := 13) rfl rfl ?_
  refine rn_lconst (z := 1) (k' := 14) rfl rfl rfl ?_
  refine rn_land (k' := 15) rfl rfl ?_
  show Rn PT none kX1_has 15 [some (mR 75), some (mI (a)), some (mI ((h : Int)))] [mJ (m_land (m_lushr (μ 75 (((2 * a) + (((h : Int)).tdiv (64))).toNat)) (((h : Int)).tmod (64))) (1))] (mkh μ c s) _
  rw [hbt]
  show Rn PT none kX1_has 15 [some (mR 75), some (mI (a)), some (mI ((h : Int)))] [mJ 0] (mkh μ c s) _
  refine rn_lconst (k' := 16) rfl rfl rfl ?_
  refine rn_lcmp (k' := 17) rfl rfl ?_
  show Rn PT none kX1_has 17 [some (mR 75), some (mI (a)), some (mI ((h : Int)))] [mI (-1)] (mkh μ c s) _
  refine rn_if_ne (k' := 18) rfl rfl (fun hc1 => ?_) (fun hc1 => ?_)
  · skip
    refine rn_iconst (k' := 21) rfl rfl ?_
    refine rn_iret rfl (Or.inr (by omega)) ?_
    rfl
  · exfalso; omega
theorem c_has76_t {μ : Nat → Nat → Int} {c s : Nat} {a : Int} (ha : 0 ≤ a ∧ a < 100) {h : Nat} (hh : h < 100) (hq : hb (μ 76) a h = true) : Cl PT 15 [mR 76, mI a, mI (h : Int)] (mkh μ c s) (fun r => r = (some (some (mI 1)), mkh μ c s)) := by
  have t1 : ((h : Int)).tdiv 64 = (h : Int) / 64 := Int.tdiv_eq_ediv_of_nonneg (by omega)
  have t2 : ((h : Int)).tmod 64 = (h : Int) % 64 := Int.tmod_eq_emod_of_nonneg (by omega)
  have t3 : ((h : Int)).tmod 64 = ((h % 64 : Nat) : Int) := by rw [t2]; omega
  have hbt : m_land (m_lushr (μ 76 ((2 * a) + ((h : Int)).tdiv 64).toNat) (((h : Int)).tmod 64)) 1 = 1 := by
    rw [t3, bitJ (by omega)]
    have e : bJ (μ 76 ((2 * a) + ((h : Int)).tdiv 64).toNat) (h % 64) = hb (μ 76) a h := by
      unfold hb pb
      by_cases e : h < 64
      · rw [if_pos e, show ((2 * a) + ((h : Int)).tdiv 64).toNat = (2 * a).toNat by omega, show h % 64 = h by omega]
      · rw [if_neg e, show ((2 * a) + ((h : Int)).tdiv 64).toNat = ((2 * a) + 1).toNat by omega, show h % 64 = h - 64 by omega]
    rw [e]
    first | rw [if_pos hq] | rw [if_neg hq]
  refine ⟨_, PT_15, Nat.le_of_ble_eq_true rfl, ?_⟩
  show Rn PT none kX1_has 0 [some (mR 76), some (mI (a)), some (mI ((h : Int)))] [] (mkh μ c s) _
  refine rn_aload_n (k' := 1) rfl rfl rfl ?_
  refine rn_iconst (k' := 2) rfl rfl ?_
  refine rn_iload_n (k' := 3) rfl rfl rfl ?_
  refine rn_imul (k' := 4) rfl rfl (by omega) ?_
  refine rn_iload_n (k' := 5) rfl rfl rfl ?_
  refine rn_bipush (k' := 6) rfl rfl ?_
  refine rn_idiv (k' := 7) rfl rfl (by decide) (by rw [t1]; omega) ?_
  refine rn_iadd (k' := 8) rfl rfl (by omega) ?_
  refine rn_laload (k' := 9) rfl rfl K0_76 (by omega) (by omega) ?_
  refine rn_iload_n (k' := 10) rfl rfl rfl ?_
  refine rn_bipush (k' := 11) rfl rfl ?_
  refine rn_irem (k' := 12) rfl rfl (by decide) ?_
  refine rn_lushr (k' := 13) rfl rfl ?_
  refine rn_lconst (z := 1) (k' := 14) rfl rfl rfl ?_
  refine rn_land (k' := 15) rfl rfl ?_
  show Rn PT none kX1_has 15 [some (mR 76), some (mI (a)), some (mI ((h : Int)))] [mJ (m_land (m_lushr (μ 76 (((2 * a) + (((h : Int)).tdiv (64))).toNat)) (((h : Int)).tmod (64))) (1))] (mkh μ c s) _
  rw [hbt]
  show Rn PT none kX1_has 15 [some (mR 76), some (mI (a)), some (mI ((h : Int)))] [mJ 1] (mkh μ c s) _
  refine rn_lconst (k' := 16) rfl rfl rfl ?_
  refine rn_lcmp (k' := 17) rfl rfl ?_
  show Rn PT none kX1_has 17 [some (mR 76), some (mI (a)), some (mI ((h : Int)))] [mI 0] (mkh μ c s) _
  refine rn_if_ne (k' := 18) rfl rfl (fun hc1 => ?_) (fun hc1 => ?_)
  · exfalso; omega
  · skip
    refine rn_iconst (k' := 19) rfl rfl ?_
    refine rn_goto rfl ?_
    refine rn_iret rfl (Or.inr (by omega)) ?_
    rfl
theorem c_has76_f {μ : Nat → Nat → Int} {c s : Nat} {a : Int} (ha : 0 ≤ a ∧ a < 100) {h : Nat} (hh : h < 100) (hq : ¬ hb (μ 76) a h = true) : Cl PT 15 [mR 76, mI a, mI (h : Int)] (mkh μ c s) (fun r => r = (some (some (mI 0)), mkh μ c s)) := by
  have t1 : ((h : Int)).tdiv 64 = (h : Int) / 64 := Int.tdiv_eq_ediv_of_nonneg (by omega)
  have t2 : ((h : Int)).tmod 64 = (h : Int) % 64 := Int.tmod_eq_emod_of_nonneg (by omega)
  have t3 : ((h : Int)).tmod 64 = ((h % 64 : Nat) : Int) := by rw [t2]; omega
  have hbt : m_land (m_lushr (μ 76 ((2 * a) + ((h : Int)).tdiv 64).toNat) (((h : Int)).tmod 64)) 1 = 0 := by
    rw [t3, bitJ (by omega)]
    have e : bJ (μ 76 ((2 * a) + ((h : Int)).tdiv 64).toNat) (h % 64) = hb (μ 76) a h := by
      unfold hb pb
      by_cases e : h < 64
      · rw [if_pos e, show ((2 * a) + ((h : Int)).tdiv 64).toNat = (2 * a).toNat by omega, show h % 64 = h by omega]
      · rw [if_neg e, show ((2 * a) + ((h : Int)).tdiv 64).toNat = ((2 * a) + 1).toNat by omega, show h % 64 = h - 64 by omega]
    rw [e]
    first | rw [if_pos hq] | rw [if_neg hq]
  refine ⟨_, PT_15, Nat.le_of_ble_eq_true rfl, ?_⟩
  show Rn PT none kX1_has 0 [some (mR 76), some (mI (a)), some (mI ((h : Int)))] [] (mkh μ c s) _
  refine rn_aload_n (k' := 1) rfl rfl rfl ?_
  refine rn_iconst (k' := 2) rfl rfl ?_
  refine rn_iload_n (k' := 3) rfl rfl rfl ?_
  refine rn_imul (k' := 4) rfl rfl (by omega) ?_
  refine rn_iload_n (k' := 5) rfl rfl rfl ?_
  refine rn_bipush (k' := 6) rfl rfl ?_
  refine rn_idiv (k' := 7) rfl rfl (by decide) (by rw [t1]; omega) ?_
  refine rn_iadd (k' := 8) rfl rfl (by omega) ?_
  refine rn_laload (k' := 9) rfl rfl K0_76 (by omega) (by omega) ?_
  refine rn_iload_n (k' := 10) rfl rfl rfl ?_
  refine rn_bipush (k' := 11) rfl rfl ?_
  refine rn_irem (k' := 12) rfl rfl (by decide) ?_
  refine rn_lushr (k' := 13) rfl rfl ?_
  refine rn_lconst (z := 1) (k' := 14) rfl rfl rfl ?_
  refine rn_land (k' := 15) rfl rfl ?_
  show Rn PT none kX1_has 15 [some (mR 76), some (mI (a)), some (mI ((h : Int)))] [mJ (m_land (m_lushr (μ 76 (((2 * a) + (((h : Int)).tdiv (64))).toNat)) (((h : Int)).tmod (64))) (1))] (mkh μ c s) _
  rw [hbt]
  show Rn PT none kX1_has 15 [some (mR 76), some (mI (a)), some (mI ((h : Int)))] [mJ 0] (mkh μ c s) _
  refine rn_lconst (k' := 16) rfl rfl rfl ?_
  refine rn_lcmp (k' := 17) rfl rfl ?_
  show Rn PT none kX1_has 17 [some (mR 76), some (mI (a)), some (mI ((h : Int)))] [mI (-1)] (mkh μ c s) _
  refine rn_if_ne (k' := 18) rfl rfl (fun hc1 => ?_) (fun hc1 => ?_)
  · skip
    refine rn_iconst (k' := 21) rfl rfl ?_
    refine rn_iret rfl (Or.inr (by omega)) ?_
    rfl
  · exfalso; omega
theorem c_passesWith {μ : Nat → Nat → Int} {c s : Nat} {a : Int} (ha : 0 ≤ a ∧ a < 100) {h : Nat} (hh : h < 100) : Cl PT 19 [mR 74, mI a, mI (h : Int)] (mkh μ c s) (fun r => r = (some (some (mI (if hb (μ 76) a h = true then 1 else 0))), mkh μ c s)) := by
  by_cases hq : hb (μ 76) a h = true
  · rw [if_pos hq]
    refine ⟨_, PT_19, Nat.le_of_ble_eq_true rfl, ?_⟩
    show Rn PT none kX1_passesWith 0 [some (mR 74), some (mI (a)), some (mI ((h : Int)))] [] (mkh μ c s) _
    refine rn_aload_n (k' := 1) rfl rfl rfl ?_
    refine rn_getR (k' := 2) rfl rfl K0_74 (by decide) rfl R0_74_2 ?_
    refine rn_iload_n (k' := 3) rfl rfl rfl ?_
    refine rn_iload_n (k' := 4) rfl rfl rfl ?_
    refine rn_callP (k' := 5) (y := 15) (vs := [mR 76, mI (a), mI ((h : Int))]) (S' := []) (v := some (mI (1))) (h' := mkh μ c s) rfl rfl rfl (c_has76_t ha hh hq) ?_
    show Rn PT none kX1_passesWith 5 [some (mR 74), some (mI (a)), some (mI ((h : Int)))] [mI (1)] (mkh μ c s) _
    refine rn_iret rfl (Or.inr (by omega)) ?_
    rfl
  · rw [if_neg hq]
    refine ⟨_, PT_19, Nat.le_of_ble_eq_true rfl, ?_⟩
    show Rn PT none kX1_passesWith 0 [some (mR 74), some (mI (a)), some (mI ((h : Int)))] [] (mkh μ c s) _
    refine rn_aload_n (k' := 1) rfl rfl rfl ?_
    refine rn_getR (k' := 2) rfl rfl K0_74 (by decide) rfl R0_74_2 ?_
    refine rn_iload_n (k' := 3) rfl rfl rfl ?_
    refine rn_iload_n (k' := 4) rfl rfl rfl ?_
    refine rn_callP (k' := 5) (y := 15) (vs := [mR 76, mI (a), mI ((h : Int))]) (S' := []) (v := some (mI (0))) (h' := mkh μ c s) rfl rfl rfl (c_has76_f ha hh hq) ?_
    show Rn PT none kX1_passesWith 5 [some (mR 74), some (mI (a)), some (mI ((h : Int)))] [mI (0)] (mkh μ c s) _
    refine rn_iret rfl (Or.inr (by omega)) ?_
    rfl
theorem pb_bet {z0 z1 le mo : Int} (h0 : ∀ i : Nat, i < 64 → bJ z0 i = decide (le ≤ 0 + (i : Int) ∧ 0 + (i : Int) ≤ mo)) (h1 : ∀ i : Nat, i < 64 → bJ z1 i = decide (le ≤ 64 + (i : Int) ∧ 64 + (i : Int) ≤ mo)) {h : Nat} (hh : h < 128) : pb z0 z1 h = decide (le ≤ (h : Int) ∧ (h : Int) ≤ mo) := by
  unfold pb
  by_cases e : h < 64
  · rw [if_pos e, h0 h e, Int.zero_add]
  · rw [if_neg e, h1 (h - 64) (by omega), show 64 + ((h - 64 : Nat) : Int) = (h : Int) by omega]
theorem st_bet {μ : Nat → Nat → Int} (hL : I_land μ) {n : Nat} {w le mo : Int} (hn : n < 100) (hle : le = g_dep μ (n : Int) w ∨ (le = μ 8 (100 + n) ∧ g_dep μ (n : Int) w ≤ le)) (hle2 : μ 8 (100 + n) ≤ le) (hmo : (μ 8 n = -1 ∧ mo = 99) ∨ (¬ μ 8 n = -1 ∧ mo = μ 8 n)) {h : Nat} : (le ≤ (h : Int) ∧ (h : Int) ≤ mo) ↔ (h ≤ 99 ∧ g_stand μ (n : Int) (h : Int) w) := by
  have d1 := v_dN hL hn
  have d2 := v_mN hL hn
  have e1 : ((n : Int)).toNat = n := rfl
  have e2 : (100 + (n : Int)).toNat = 100 + n := by omega
  have hd : g_dep μ (n : Int) w = if w > μ 7 n then w - μ 7 n else 0 := rfl
  have hd2 : (w > μ 7 n ∧ g_dep μ (n : Int) w = w - μ 7 n) ∨ (¬ w > μ 7 n ∧ g_dep μ (n : Int) w = 0) := by
    rw [hd]
    by_cases e : w > μ 7 n
    · exact Or.inl ⟨e, if_pos e⟩
    · exact Or.inr ⟨e, if_neg e⟩
  unfold g_stand
  rw [e1, e2]
  omega
set_option maxHeartbeats 4000000 in
theorem l_prepare {μ : Nat → Nat → Int} {c s : Nat} (hL : I_land μ) {w : Int} (hw : 0 ≤ w ∧ w ≤ 1000) {Q : MR → Prop} (K : ∀ F v2 v3 v4 v5, (∀ (j h : Nat), (j : Int) < 10 * μ 6 9 → h < 128 → hb F (j : Int) h = decide (h ≤ 99 ∧ g_stand μ (j : Int) (h : Int) w)) → Rn PT none kX1_prepare 60 [some (mR 74), some (mI (w)), v2, v3, v4, v5] [] (mkh (m_upd μ 75 F) c s) Q) : ∀ (d n : Nat) (k : Int) (F : Nat → Int) (v3 : Option MV) (v4 : Option MV) (v5 : Option MV), k = (n : Int) → (n : Int) + d = 10 * μ 6 9 → (∀ (j h : Nat), j < n → h < 128 → hb F (j : Int) h = decide (h ≤ 99 ∧ g_stand μ (j : Int) (h : Int) w)) → Rn PT none kX1_prepare 2 [some (mR 74), some (mI (w)), some (mI (k)), v3, v4, v5] [] (mkh (m_upd μ 75 F) c s) (Q) := by
  have hL_ := hL
  obtain ⟨lc, lr, le, lm, lw, lh, lwo, lwd, q0, q1, q2, q3, q4, q8, q499, q500, lth, lG, lT, lW, -⟩ := hL_
  intro d
  induction d with
  | zero =>
    intro n k F v3 v4 v5 ek hn hF
    subst ek
    refine rn_iload_n (k' := 3) rfl rfl rfl ?_
    refine rn_aload_n (k' := 4) rfl rfl rfl ?_
    refine rn_getR (k' := 5) rfl rfl K0_74 (by decide) rfl R0_74_0 ?_
    refine rn_callP (k' := 6) (y := 29) (vs := [mR 6]) (S' := [mI ((n : Int))]) (v := some (mI (10 * μ 6 9))) (h' := mkh (m_upd μ 75 F) c s) rfl rfl rfl (c_X3_span (μ := (m_upd μ 75 F)) (by show 0 ≤ μ 6 9 ∧ μ 6 9 ≤ 10; omega)) ?_
    show Rn PT none kX1_prepare 6 [some (mR 74), some (mI (w)), some (mI ((n : Int))), v3, v4, v5] [mI (10 * μ 6 9), mI ((n : Int))] (mkh (m_upd μ 75 F) c s) _
    refine rn_icmp_ge (k' := 7) rfl rfl (fun hc1 => ?_) (fun hc1 => ?_)
    · skip
      exact K _ _ _ _ _ (fun j h hj hh => hF j h (by omega) hh)
    · exfalso; omega
  | succ d ih =>
    intro n k F v3 v4 v5 ek hn hF
    subst ek
    have hwd := v_mN hL (n := n) (by omega)
    have hdd := v_dN hL (n := n) (by omega)
    have hgb : 0 ≤ g_dep μ (n : Int) w ∧ g_dep μ (n : Int) w ≤ 1000 := by
      unfold g_dep
      have := lG ((n : Int)).toNat
      split <;> omega
    have x1 : (100 + (n : Int)).toNat = 100 + n := by omega
    have x0 : (0 + (n : Int)).toNat = n := by omega
    obtain ⟨le, hmax, hle1, hle2⟩ : ∃ le, (if g_dep μ (n : Int) w < μ 8 (100 + n) then μ 8 (100 + n) else g_dep μ (n : Int) w) = le ∧ (le = g_dep μ (n : Int) w ∨ (le = μ 8 (100 + n) ∧ g_dep μ (n : Int) w ≤ le)) ∧ μ 8 (100 + n) ≤ le := by
      by_cases e : g_dep μ (n : Int) w < μ 8 (100 + n)
      · exact ⟨_, if_pos e, Or.inr ⟨rfl, by omega⟩, Int.le_refl _⟩
      · exact ⟨_, if_neg e, Or.inl rfl, by omega⟩
    refine rn_iload_n (k' := 3) rfl rfl rfl ?_
    refine rn_aload_n (k' := 4) rfl rfl rfl ?_
    refine rn_getR (k' := 5) rfl rfl K0_74 (by decide) rfl R0_74_0 ?_
    refine rn_callP (k' := 6) (y := 29) (vs := [mR 6]) (S' := [mI ((n : Int))]) (v := some (mI (10 * μ 6 9))) (h' := mkh (m_upd μ 75 F) c s) rfl rfl rfl (c_X3_span (μ := (m_upd μ 75 F)) (by show 0 ≤ μ 6 9 ∧ μ 6 9 ≤ 10; omega)) ?_
    show Rn PT none kX1_prepare 6 [some (mR 74), some (mI (w)), some (mI ((n : Int))), v3, v4, v5] [mI (10 * μ 6 9), mI ((n : Int))] (mkh (m_upd μ 75 F) c s) _
    refine rn_icmp_ge (k' := 7) rfl rfl (fun hc1 => ?_) (fun hc1 => ?_)
    · exfalso; omega
    · skip
      refine rn_aload_n (k' := 8) rfl rfl rfl ?_
      refine rn_getR (k' := 9) rfl rfl K0_74 (by decide) rfl R0_74_0 ?_
      refine rn_getR (k' := 10) rfl rfl K0_6 (by decide) rfl R0_6_1 ?_
      refine rn_iconst (k' := 11) rfl rfl ?_
      refine rn_iload_n (k' := 12) rfl rfl rfl ?_
      refine rn_iadd (k' := 13) rfl rfl (by omega) ?_
      rw [Int.zero_add ((n : Int))]
      refine rn_iaload (k' := 14) rfl rfl K0_8 (by omega) (by omega) ?_
      show Rn PT none kX1_prepare 14 [some (mR 74), some (mI (w)), some (mI ((n : Int))), v3, v4, v5] [mI (μ 8 (n))] (mkh (m_upd μ 75 F) c s) _
      refine rn_istore_n (k' := 15) (L' := [some (mR 74), some (mI (w)), some (mI ((n : Int))), some (mI (μ 8 (n))), v4, v5]) rfl rfl (Nat.le_of_ble_eq_true rfl) rfl ?_
      refine rn_aload_n (k' := 16) rfl rfl rfl ?_
      refine rn_getR (k' := 17) rfl rfl K0_74 (by decide) rfl R0_74_0 ?_
      refine rn_iload_n (k' := 18) rfl rfl rfl ?_
      refine rn_iload_n (k' := 19) rfl rfl rfl ?_
      refine rn_callP (k' := 20) (y := 35) (vs := [mR 6, mI ((n : Int)), mI (w)]) (S' := []) (v := some (mI (g_dep μ (n : Int) w))) (h' := mkh (m_upd μ 75 F) c s) rfl rfl rfl (k_depthOf (μ := (m_upd μ 75 F)) ((hL).upd rfl) (by omega) (by omega)) ?_
      show Rn PT none kX1_prepare 20 [some (mR 74), some (mI (w)), some (mI ((n : Int))), some (mI (μ 8 (n))), v4, v5] [mI (g_dep μ (n : Int) w)] (mkh (m_upd μ 75 F) c s) _
      refine rn_aload_n (k' := 21) rfl rfl rfl ?_
      refine rn_getR (k' := 22) rfl rfl K0_74 (by decide) rfl R0_74_0 ?_
      refine rn_getR (k' := 23) rfl rfl K0_6 (by decide) rfl R0_6_1 ?_
      refine rn_bipush (k' := 24) rfl rfl ?_
      refine rn_iload_n (k' := 25) rfl rfl rfl ?_
      refine rn_iadd (k' := 26) rfl rfl (by omega) ?_
      refine rn_iaload (k' := 27) rfl rfl K0_8 (by omega) (by omega) ?_
      show Rn PT none kX1_prepare 27 [some (mR 74), some (mI (w)), some (mI ((n : Int))), some (mI (μ 8 (n))), v4, v5] [mI (μ 8 (100 + n)), mI (g_dep μ (n : Int) w)] (mkh (m_upd μ 75 F) c s) _
      refine rn_nat (k' := 28) (S' := [mI (if g_dep μ (n : Int) w < μ 8 (100 + n) then μ 8 (100 + n) else g_dep μ (n : Int) w)]) (h' := mkh (m_upd μ 75 F) c s) rfl rfl rfl ?_
      rw [hmax]
      refine rn_istore (k' := 29) (L' := [some (mR 74), some (mI (w)), some (mI ((n : Int))), some (mI (μ 8 (n))), some (mI (le)), v5]) rfl rfl (Nat.le_of_ble_eq_true rfl) rfl ?_
      refine rn_iload_n (k' := 30) rfl rfl rfl ?_
      refine rn_iconst (k' := 31) rfl rfl ?_
      refine rn_icmp_ne (k' := 32) rfl rfl (fun hc2 => ?_) (fun hc2 => ?_)
      · skip
        refine rn_iload_n (k' := 35) rfl rfl rfl ?_
        refine rn_istore (k' := 36) (L' := [some (mR 74), some (mI (w)), some (mI ((n : Int))), some (mI (μ 8 (n))), some (mI (le)), some (mI (μ 8 (n)))]) rfl rfl (Nat.le_of_ble_eq_true rfl) rfl ?_
        refine rn_aload_n (k' := 37) rfl rfl rfl ?_
        refine rn_getR (k' := 38) rfl rfl K0_74 (by decide) rfl R0_74_1 ?_
        refine rn_iconst (k' := 39) rfl rfl ?_
        refine rn_iload_n (k' := 40) rfl rfl rfl ?_
        refine rn_imul (k' := 41) rfl rfl (by omega) ?_
        refine rn_iload (k' := 42) rfl rfl rfl ?_
        refine rn_iload (k' := 43) rfl rfl rfl ?_
        refine rn_iconst (k' := 44) rfl rfl ?_
        obtain ⟨z3, hz3, hcl3⟩ := c_between (μ := (m_upd μ 75 F)) (c := c) (s := s) (le := le) (mo := μ 8 (n)) (fi := 0) (by omega) (by omega) (by omega)
        refine rn_callP (k' := 45) (y := 16) (vs := [mI (le), mI (μ 8 (n)), mI (0)]) (S' := [mI (2 * (n : Int)), mR 75]) (v := some (mJ (z3))) (h' := mkh (m_upd μ 75 F) c s) rfl rfl rfl (hcl3) ?_
        show Rn PT none kX1_prepare 45 [some (mR 74), some (mI (w)), some (mI ((n : Int))), some (mI (μ 8 (n))), some (mI (le)), some (mI (μ 8 (n)))] [mJ (z3), mI (2 * (n : Int)), mR 75] (mkh (m_upd μ 75 F) c s) _
        refine rn_lastore (k' := 46) rfl rfl K0_75 (by omega) (by omega) ?_
        refine rn_aload_n (k' := 47) rfl rfl rfl ?_
        refine rn_getR (k' := 48) rfl rfl K0_74 (by decide) rfl R0_74_1 ?_
        refine rn_iconst (k' := 49) rfl rfl ?_
        refine rn_iload_n (k' := 50) rfl rfl rfl ?_
        refine rn_imul (k' := 51) rfl rfl (by omega) ?_
        refine rn_iconst (k' := 52) rfl rfl ?_
        refine rn_iadd (k' := 53) rfl rfl (by omega) ?_
        refine rn_iload (k' := 54) rfl rfl rfl ?_
        refine rn_iload (k' := 55) rfl rfl rfl ?_
        refine rn_bipush (k' := 56) rfl rfl ?_
        obtain ⟨z4, hz4, hcl4⟩ := c_between (μ := (m_set (m_upd μ 75 F) 75 ((2 * (n : Int)).toNat) (z3))) (c := c) (s := s) (le := le) (mo := μ 8 (n)) (fi := 64) (by omega) (by omega) (by omega)
        refine rn_callP (k' := 57) (y := 16) (vs := [mI (le), mI (μ 8 (n)), mI (64)]) (S' := [mI ((2 * (n : Int)) + 1), mR 75]) (v := some (mJ (z4))) (h' := mkh (m_set (m_upd μ 75 F) 75 ((2 * (n : Int)).toNat) (z3)) c s) rfl rfl rfl (hcl4) ?_
        show Rn PT none kX1_prepare 57 [some (mR 74), some (mI (w)), some (mI ((n : Int))), some (mI (μ 8 (n))), some (mI (le)), some (mI (μ 8 (n)))] [mJ (z4), mI ((2 * (n : Int)) + 1), mR 75] (mkh (m_set (m_upd μ 75 F) 75 ((2 * (n : Int)).toNat) (z3)) c s) _
        refine rn_lastore (k' := 58) rfl rfl K0_75 (by omega) (by omega) ?_
        refine rn_iinc (k' := 59) (L' := [some (mR 74), some (mI (w)), some (mI ((n : Int) + 1)), some (mI (μ 8 (n))), some (mI (le)), some (mI (μ 8 (n)))]) rfl rfl rfl (by omega) rfl ?_
        refine rn_goto rfl ?_
        show Rn PT none kX1_prepare 2 [some (mR 74), some (mI (w)), some (mI ((n : Int) + 1)), some (mI (μ 8 (n))), some (mI (le)), some (mI (μ 8 (n)))] [] (mkh (m_set (m_set (m_upd μ 75 F) 75 ((2 * (n : Int)).toNat) (z3)) 75 (((2 * (n : Int)) + 1).toNat) (z4)) c s) _
        rw [set_upd_eq (a := 75), set_upd_eq (a := 75)]
        exact ih (n + 1) _ _ _ _ _ (by omega) (by omega) (fun j h hj hh => by
          rw [hb_set (F := F) (a := (n : Int)) (x := (j : Int)) (by omega) (by omega) h]
          by_cases e : j = n
          · rw [e, if_pos rfl, pb_bet (le := le) (mo := μ 8 (n)) (fun i hi => hz3 i hi) (fun i hi => hz4 i hi) hh]
            exact decide_eq_decide.mpr (st_bet hL (by omega) hle1 hle2 (by omega))
          · rw [if_neg (by omega)]
            exact hF j h (by omega) hh)
      · skip
        refine rn_bipush (k' := 33) rfl rfl ?_
        refine rn_goto rfl ?_
        refine rn_istore (k' := 36) (L' := [some (mR 74), some (mI (w)), some (mI ((n : Int))), some (mI (μ 8 (n))), some (mI (le)), some (mI (99))]) rfl rfl (Nat.le_of_ble_eq_true rfl) rfl ?_
        refine rn_aload_n (k' := 37) rfl rfl rfl ?_
        refine rn_getR (k' := 38) rfl rfl K0_74 (by decide) rfl R0_74_1 ?_
        refine rn_iconst (k' := 39) rfl rfl ?_
        refine rn_iload_n (k' := 40) rfl rfl rfl ?_
        refine rn_imul (k' := 41) rfl rfl (by omega) ?_
        refine rn_iload (k' := 42) rfl rfl rfl ?_
        refine rn_iload (k' := 43) rfl rfl rfl ?_
        refine rn_iconst (k' := 44) rfl rfl ?_
        obtain ⟨z5, hz5, hcl5⟩ := c_between (μ := (m_upd μ 75 F)) (c := c) (s := s) (le := le) (mo := 99) (fi := 0) (by omega) (by omega) (by omega)
        refine rn_callP (k' := 45) (y := 16) (vs := [mI (le), mI (99), mI (0)]) (S' := [mI (2 * (n : Int)), mR 75]) (v := some (mJ (z5))) (h' := mkh (m_upd μ 75 F) c s) rfl rfl rfl (hcl5) ?_
        show Rn PT none kX1_prepare 45 [some (mR 74), some (mI (w)), some (mI ((n : Int))), some (mI (μ 8 (n))), some (mI (le)), some (mI (99))] [mJ (z5), mI (2 * (n : Int)), mR 75] (mkh (m_upd μ 75 F) c s) _
        refine rn_lastore (k' := 46) rfl rfl K0_75 (by omega) (by omega) ?_
        refine rn_aload_n (k' := 47) rfl rfl rfl ?_
        refine rn_getR (k' := 48) rfl rfl K0_74 (by decide) rfl R0_74_1 ?_
        refine rn_iconst (k' := 49) rfl rfl ?_
        refine rn_iload_n (k' := 50) rfl rfl rfl ?_
        refine rn_imul (k' := 51) rfl rfl (by omega) ?_
        refine rn_iconst (k' := 52) rfl rfl ?_
        refine rn_iadd (k' := 53) rfl rfl (by omega) ?_
        refine rn_iload (k' := 54) rfl rfl rfl ?_
        refine rn_iload (k' := 55) rfl rfl rfl ?_
        refine rn_bipush (k' := 56) rfl rfl ?_
        obtain ⟨z6, hz6, hcl6⟩ := c_between (μ := (m_set (m_upd μ 75 F) 75 ((2 * (n : Int)).toNat) (z5))) (c := c) (s := s) (le := le) (mo := 99) (fi := 64) (by omega) (by omega) (by omega)
        refine rn_callP (k' := 57) (y := 16) (vs := [mI (le), mI (99), mI (64)]) (S' := [mI ((2 * (n : Int)) + 1), mR 75]) (v := some (mJ (z6))) (h' := mkh (m_set (m_upd μ 75 F) 75 ((2 * (n : Int)).toNat) (z5)) c s) rfl rfl rfl (hcl6) ?_
        show Rn PT none kX1_prepare 57 [some (mR 74), some (mI (w)), some (mI ((n : Int))), some (mI (μ 8 (n))), some (mI (le)), some (mI (99))] [mJ (z6), mI ((2 * (n : Int)) + 1), mR 75] (mkh (m_set (m_upd μ 75 F) 75 ((2 * (n : Int)).toNat) (z5)) c s) _
        refine rn_lastore (k' := 58) rfl rfl K0_75 (by omega) (by omega) ?_
        refine rn_iinc (k' := 59) (L' := [some (mR 74), some (mI (w)), some (mI ((n : Int) + 1)), some (mI (μ 8 (n))), some (mI (le)), some (mI (99))]) rfl rfl rfl (by omega) rfl ?_
        refine rn_goto rfl ?_
        show Rn PT none kX1_prepare 2 [some (mR 74), some (mI (w)), some (mI ((n : Int) + 1)), some (mI (μ 8 (n))), some (mI (le)), some (mI (99))] [] (mkh (m_set (m_set (m_upd μ 75 F) 75 ((2 * (n : Int)).toNat) (z5)) 75 (((2 * (n : Int)) + 1).toNat) (z6)) c s) _
        rw [set_upd_eq (a := 75), set_upd_eq (a := 75)]
        exact ih (n + 1) _ _ _ _ _ (by omega) (by omega) (fun j h hj hh => by
          rw [hb_set (F := F) (a := (n : Int)) (x := (j : Int)) (by omega) (by omega) h]
          by_cases e : j = n
          · rw [e, if_pos rfl, pb_bet (le := le) (mo := 99) (fun i hi => hz5 i hi) (fun i hi => hz6 i hi) hh]
            exact decide_eq_decide.mpr (st_bet hL (by omega) hle1 hle2 (by omega))
          · rw [if_neg (by omega)]
            exact hF j h (by omega) hh)
set_option maxHeartbeats 4000000 in
theorem c_prepare {μ : Nat → Nat → Int} {c s : Nat} (hL : I_land μ) {w : Int} (hw : 0 ≤ w ∧ w ≤ 1000) : ∃ F, (∀ (j h : Nat), (j : Int) < 10 * μ 6 9 → h < 128 → hb F (j : Int) h = decide (h ≤ 99 ∧ g_stand μ (j : Int) (h : Int) w)) ∧ Cl PT 17 [mR 74, mI w] (mkh μ c s) (fun r => r = (some none, mkh (m_set (m_set (m_upd (m_upd (m_upd μ 75 F) 76 ((fl (fun _ => 0) (μ 76) 200))) 78 ((fl (fun _ => 0) (μ 78) 200))) 74 7 (0)) 74 8 (0)) c s)) := by
  refine Cl.ex (g := fun F => (some none, mkh (m_set (m_set (m_upd (m_upd (m_upd μ 75 F) 76 ((fl (fun _ => 0) (μ 76) 200))) 78 ((fl (fun _ => 0) (μ 78) 200))) 74 7 (0)) 74 8 (0)) c s)) ?_
  have hL_ := hL
  obtain ⟨lc, lr, le, lm, lw, lh, lwo, lwd, q0, q1, q2, q3, q4, q8, q499, q500, lth, lG, lT, lW, -⟩ := hL_
  refine ⟨_, PT_17, Nat.le_of_ble_eq_true rfl, ?_⟩
  show Rn PT none kX1_prepare 0 [some (mR 74), some (mI (w)), none, none, none, none] [] (mkh μ c s) _
  refine rn_iconst (k' := 1) rfl rfl ?_
  refine rn_istore_n (k' := 2) (L' := [some (mR 74), some (mI (w)), some (mI (0)), none, none, none]) rfl rfl (Nat.le_of_ble_eq_true rfl) rfl ?_
  refine (show Rn PT none kX1_prepare 2 [some (mR 74), some (mI (w)), some (mI (0)), none, none, none] [] (mkh (m_upd μ 75 (μ 75)) c s) _ → Rn PT none kX1_prepare 2 [some (mR 74), some (mI (w)), some (mI (0)), none, none, none] [] (mkh μ c s) _ from fun h => by rw [upd_self] at h; exact h) ?_
  refine l_prepare hL hw (fun F v2 v3 v4 v5 hF => ?_) (10 * μ 6 9).toNat 0 _ _ _ _ _ rfl (by omega) (fun j h hj => absurd hj (Nat.not_lt_zero j))
  refine rn_aload_n (k' := 61) rfl rfl rfl ?_
  refine rn_getR (k' := 62) rfl rfl K0_74 (by decide) rfl R0_74_2 ?_
  refine rn_lconst (z := 0) (k' := 63) rfl rfl rfl ?_
  refine rn_callP (k' := 64) (y := 274) (vs := [mR 76, mJ (0)]) (S' := []) (v := none) (h' := mkh (m_upd (m_upd μ 75 F) 76 ((fl (fun _ => 0) (μ 76) 200))) c s) rfl rfl rfl (c_fillJ (μ := (m_upd μ 75 F)) (c := c) (s := s) K0_76 (by decide)) ?_
  show Rn PT none kX1_prepare 64 [some (mR 74), some (mI (w)), v2, v3, v4, v5] [] (mkh (m_upd (m_upd μ 75 F) 76 ((fl (fun _ => 0) (μ 76) 200))) c s) _
  refine rn_aload_n (k' := 65) rfl rfl rfl ?_
  refine rn_getR (k' := 66) rfl rfl K0_74 (by decide) rfl R0_74_4 ?_
  refine rn_lconst (z := 0) (k' := 67) rfl rfl rfl ?_
  refine rn_callP (k' := 68) (y := 274) (vs := [mR 78, mJ (0)]) (S' := []) (v := none) (h' := mkh (m_upd (m_upd (m_upd μ 75 F) 76 ((fl (fun _ => 0) (μ 76) 200))) 78 ((fl (fun _ => 0) (μ 78) 200))) c s) rfl rfl rfl (c_fillJ (μ := (m_upd (m_upd μ 75 F) 76 ((fl (fun _ => 0) (μ 76) 200)))) (c := c) (s := s) K0_78 (by decide)) ?_
  show Rn PT none kX1_prepare 68 [some (mR 74), some (mI (w)), v2, v3, v4, v5] [] (mkh (m_upd (m_upd (m_upd μ 75 F) 76 ((fl (fun _ => 0) (μ 76) 200))) 78 ((fl (fun _ => 0) (μ 78) 200))) c s) _
  refine rn_aload_n (k' := 69) rfl rfl rfl ?_
  refine rn_iconst (k' := 70) rfl rfl ?_
  refine rn_putI (k' := 71) rfl rfl K0_74 (by decide) rfl ?_
  refine rn_aload_n (k' := 72) rfl rfl rfl ?_
  refine rn_iconst (k' := 73) rfl rfl ?_
  refine rn_putI (k' := 74) rfl rfl K0_74 (by decide) rfl ?_
  refine rn_vret rfl ?_
  exact ⟨F, rfl, hF⟩
