/-! ===== printed by wip/whole/gen32.py: contracts of small methods, over the numbers ===== -/
theorem tdiv_rng {a b : Int} (ha : 0 ≤ a ∧ a < 2147483648) (hb : 1 ≤ b) : -2147483648 ≤ a.tdiv b ∧ a.tdiv b < 2147483648 := by
  have h1 : 0 ≤ a.tdiv b := Int.tdiv_nonneg ha.1 (by omega)
  have h2 : a.tdiv b ≤ a := Int.tdiv_le_self b ha.1
  omega
theorem tmod_10 {a : Int} (h : 0 ≤ a) : 0 ≤ a.tmod 10 ∧ a.tmod 10 < 10 := ⟨Int.tmod_nonneg 10 h, Int.tmod_lt_of_pos a (by decide)⟩
theorem tdiv_10 {a : Int} (h : 0 ≤ a ∧ a < 100) : 0 ≤ a.tdiv 10 ∧ a.tdiv 10 < 10 := ⟨Int.tdiv_nonneg h.1 (by decide), by rw [Int.tdiv_eq_ediv_of_nonneg h.1]; omega⟩
/-- an int -/
abbrev i32 (z : Int) : Prop := -2147483648 ≤ z ∧ z < 2147483648
/-- a method without an effect: what it answers -/
abbrev Fn (y : Nat) (vs : List MV) (μ : Nat → Nat → Int) (c s : Nat) (z : Int) : Prop := Cl PT y vs (mkh μ c s) (fun r => r = (some (some (mI z)), mkh μ c s))
set_option maxHeartbeats 2000000 in
theorem c_X3_span {μ : Nat → Nat → Int} {c s : Nat} (hr : 0 ≤ μ 6 9 ∧ μ 6 9 ≤ 10) : Fn 29 [mR 6] μ c s (10 * μ 6 9) := by
  refine ⟨_, PT_29, Nat.le_of_ble_eq_true rfl, ?_⟩
  show Rn PT none kX3_span 0 [some (mR 6)] [] (mkh μ c s) _
  refine rn_bipush (k' := 1) rfl rfl ?_
  refine rn_aload_n (k' := 2) rfl rfl rfl ?_
  refine rn_getI (k' := 3) rfl rfl K0_6 (by decide) rfl ?_
  refine rn_imul (k' := 4) rfl rfl (by omega) ?_
  refine rn_iret rfl (Or.inl rfl) ?_
  exact congrArg (fun z => ((some (some (mI z)) : Option (Option MV)), mkh μ c s)) (by first | rfl | (split <;> omega) | (split <;> simp_all))
set_option maxHeartbeats 2000000 in
theorem c_X3_hasCell {μ : Nat → Nat → Int} {c s : Nat} {a : Int} (ha : i32 a) : Fn 30 [mR 6, mI a] μ c s (if 0 ≤ a ∧ a.tmod 10 < μ 6 8 ∧ a.tdiv 10 < μ 6 9 then 1 else 0) := by
  refine ⟨_, PT_30, Nat.le_of_ble_eq_true rfl, ?_⟩
  show Rn PT none kX3_hasCell 0 [some (mR 6), some (mI (a))] [] (mkh μ c s) _
  refine rn_iload_n (k' := 1) rfl rfl rfl ?_
  refine rn_if_lt (k' := 2) rfl rfl (fun hc1 => ?_) (fun hc1 => ?_)
  · skip
    refine rn_iconst (k' := 17) rfl rfl ?_
    refine rn_iret rfl (Or.inr (by omega)) ?_
    exact congrArg (fun z => ((some (some (mI z)) : Option (Option MV)), mkh μ c s)) (by first | rfl | (split <;> omega) | (split <;> simp_all))
  · skip
    refine rn_iload_n (k' := 3) rfl rfl rfl ?_
    refine rn_bipush (k' := 4) rfl rfl ?_
    refine rn_irem (k' := 5) rfl rfl (by omega) ?_
    refine rn_aload_n (k' := 6) rfl rfl rfl ?_
    refine rn_getI (k' := 7) rfl rfl K0_6 (by decide) rfl ?_
    refine rn_icmp_ge (k' := 8) rfl rfl (fun hc2 => ?_) (fun hc2 => ?_)
    · skip
      refine rn_iconst (k' := 17) rfl rfl ?_
      refine rn_iret rfl (Or.inr (by omega)) ?_
      exact congrArg (fun z => ((some (some (mI z)) : Option (Option MV)), mkh μ c s)) (by first | rfl | (split <;> omega) | (split <;> simp_all))
    · skip
      refine rn_iload_n (k' := 9) rfl rfl rfl ?_
      refine rn_bipush (k' := 10) rfl rfl ?_
      refine rn_idiv (k' := 11) rfl rfl (by omega) (tdiv_rng (by omega) (by omega)) ?_
      refine rn_aload_n (k' := 12) rfl rfl rfl ?_
      refine rn_getI (k' := 13) rfl rfl K0_6 (by decide) rfl ?_
      refine rn_icmp_ge (k' := 14) rfl rfl (fun hc3 => ?_) (fun hc3 => ?_)
      · skip
        refine rn_iconst (k' := 17) rfl rfl ?_
        refine rn_iret rfl (Or.inr (by omega)) ?_
        exact congrArg (fun z => ((some (some (mI z)) : Option (Option MV)), mkh μ c s)) (by first | rfl | (split <;> omega) | (split <;> simp_all))
      · skip
        refine rn_iconst (k' := 15) rfl rfl ?_
        refine rn_goto rfl ?_
        refine rn_iret rfl (Or.inr (by omega)) ?_
        exact congrArg (fun z => ((some (some (mI z)) : Option (Option MV)), mkh μ c s)) (by first | rfl | (split <;> omega) | (split <;> simp_all))
set_option maxHeartbeats 2000000 in
theorem c_X3_stiltsFor {μ : Nat → Nat → Int} {c s : Nat} {a : Int} (ha : 0 ≤ a ∧ a ≤ 1000) (he : 1 ≤ μ 6 10) : Fn 33 [mR 6, mI a] μ c s (if a.tdiv (μ 6 10) < μ 6 11 then a.tdiv (μ 6 10) else μ 6 11) := by
  refine ⟨_, PT_33, Nat.le_of_ble_eq_true rfl, ?_⟩
  show Rn PT none kX3_stiltsFor 0 [some (mR 6), some (mI (a)), none] [] (mkh μ c s) _
  refine rn_aload_n (k' := 1) rfl rfl rfl ?_
  refine rn_getI (k' := 2) rfl rfl K0_6 (by decide) rfl ?_
  refine rn_iconst (k' := 3) rfl rfl ?_
  refine rn_icmp_ge (k' := 4) rfl rfl (fun hc1 => ?_) (fun hc1 => ?_)
  · skip
    refine rn_iload_n (k' := 7) rfl rfl rfl ?_
    refine rn_aload_n (k' := 8) rfl rfl rfl ?_
    refine rn_getI (k' := 9) rfl rfl K0_6 (by decide) rfl ?_
    refine rn_idiv (k' := 10) rfl rfl (by omega) (tdiv_rng (by omega) (by omega)) ?_
    refine rn_istore_n (k' := 11) (L' := [some (mR 6), some (mI (a)), some (mI ((a).tdiv (μ 6 10)))]) rfl rfl (Nat.le_of_ble_eq_true rfl) rfl ?_
    refine rn_iload_n (k' := 12) rfl rfl rfl ?_
    refine rn_aload_n (k' := 13) rfl rfl rfl ?_
    refine rn_getI (k' := 14) rfl rfl K0_6 (by decide) rfl ?_
    refine rn_icmp_ge (k' := 15) rfl rfl (fun hc2 => ?_) (fun hc2 => ?_)
    · skip
      refine rn_aload_n (k' := 18) rfl rfl rfl ?_
      refine rn_getI (k' := 19) rfl rfl K0_6 (by decide) rfl ?_
      refine rn_iret rfl (Or.inl rfl) ?_
      exact congrArg (fun z => ((some (some (mI z)) : Option (Option MV)), mkh μ c s)) (by first | rfl | (split <;> omega) | (split <;> simp_all))
    · skip
      refine rn_iload_n (k' := 16) rfl rfl rfl ?_
      refine rn_goto rfl ?_
      refine rn_iret rfl (Or.inl rfl) ?_
      exact congrArg (fun z => ((some (some (mI z)) : Option (Option MV)), mkh μ c s)) (by first | rfl | (split <;> omega) | (split <;> simp_all))
  · skip
    refine rn_iload_n (k' := 5) rfl rfl rfl ?_
    refine rn_goto rfl ?_
    refine rn_istore_n (k' := 11) (L' := [some (mR 6), some (mI (a)), some (mI (a))]) rfl rfl (Nat.le_of_ble_eq_true rfl) rfl ?_
    refine rn_iload_n (k' := 12) rfl rfl rfl ?_
    refine rn_aload_n (k' := 13) rfl rfl rfl ?_
    refine rn_getI (k' := 14) rfl rfl K0_6 (by decide) rfl ?_
    refine rn_icmp_ge (k' := 15) rfl rfl (fun hc3 => ?_) (fun hc3 => ?_)
    · skip
      refine rn_aload_n (k' := 18) rfl rfl rfl ?_
      refine rn_getI (k' := 19) rfl rfl K0_6 (by decide) rfl ?_
      refine rn_iret rfl (Or.inl rfl) ?_
      exact congrArg (fun z => ((some (some (mI z)) : Option (Option MV)), mkh μ c s)) (by first | rfl | (split <;> omega) | (split <;> simp_all))
    · skip
      refine rn_iload_n (k' := 16) rfl rfl rfl ?_
      refine rn_goto rfl ?_
      refine rn_iret rfl (Or.inl rfl) ?_
      exact congrArg (fun z => ((some (some (mI z)) : Option (Option MV)), mkh μ c s)) (by first | rfl | (split <;> omega) | (split <;> simp_all))
set_option maxHeartbeats 2000000 in
theorem c_X3_timberFor {μ : Nat → Nat → Int} {c s : Nat} {a : Int} (ha : 0 ≤ a ∧ a ≤ 1000) (hw : 0 ≤ μ 6 12 ∧ μ 6 12 ≤ 99) : Fn 34 [mR 6, mI a] μ c s (if a = 0 then 0 else 2 * a + μ 6 12) := by
  refine ⟨_, PT_34, Nat.le_of_ble_eq_true rfl, ?_⟩
  show Rn PT none kX3_timberFor 0 [some (mR 6), some (mI (a))] [] (mkh μ c s) _
  refine rn_iload_n (k' := 1) rfl rfl rfl ?_
  refine rn_if_ne (k' := 2) rfl rfl (fun hc1 => ?_) (fun hc1 => ?_)
  · skip
    refine rn_iconst (k' := 5) rfl rfl ?_
    refine rn_iload_n (k' := 6) rfl rfl rfl ?_
    refine rn_imul (k' := 7) rfl rfl (by omega) ?_
    refine rn_aload_n (k' := 8) rfl rfl rfl ?_
    refine rn_getI (k' := 9) rfl rfl K0_6 (by decide) rfl ?_
    refine rn_iadd (k' := 10) rfl rfl (by omega) ?_
    refine rn_iret rfl (Or.inl rfl) ?_
    exact congrArg (fun z => ((some (some (mI z)) : Option (Option MV)), mkh μ c s)) (by first | rfl | (split <;> omega) | (split <;> simp_all))
  · skip
    refine rn_iconst (k' := 3) rfl rfl ?_
    refine rn_goto rfl ?_
    refine rn_iret rfl (Or.inl rfl) ?_
    exact congrArg (fun z => ((some (some (mI z)) : Option (Option MV)), mkh μ c s)) (by first | rfl | (split <;> omega) | (split <;> simp_all))
set_option maxHeartbeats 2000000 in
theorem c_X3_depthOf {μ : Nat → Nat → Int} {c s : Nat} {a w : Int} (hG : ∀ j, 0 ≤ μ 7 j ∧ μ 7 j ≤ 99) (ha : 0 ≤ a ∧ a < 100) (hw : 0 ≤ w ∧ w ≤ 1000) : Fn 35 [mR 6, mI a, mI w] μ c s (if w > μ 7 a.toNat then w - μ 7 a.toNat else 0) := by
  refine ⟨_, PT_35, Nat.le_of_ble_eq_true rfl, ?_⟩
  show Rn PT none kX3_depthOf 0 [some (mR 6), some (mI (a)), some (mI (w))] [] (mkh μ c s) _
  refine rn_iload_n (k' := 1) rfl rfl rfl ?_
  refine rn_aload_n (k' := 2) rfl rfl rfl ?_
  refine rn_getR (k' := 3) rfl rfl K0_6 (by decide) rfl R0_6_0 ?_
  refine rn_iload_n (k' := 4) rfl rfl rfl ?_
  refine rn_iaload (k' := 5) rfl rfl K0_7 (by omega) (by omega) ?_
  have hb1 := hG ((a).toNat)
  refine rn_icmp_le (k' := 6) rfl rfl (fun hc2 => ?_) (fun hc2 => ?_)
  · skip
    refine rn_iconst (k' := 14) rfl rfl ?_
    refine rn_iret rfl (Or.inl rfl) ?_
    exact congrArg (fun z => ((some (some (mI z)) : Option (Option MV)), mkh μ c s)) (by first | rfl | (split <;> omega) | (split <;> simp_all))
  · skip
    refine rn_iload_n (k' := 7) rfl rfl rfl ?_
    refine rn_aload_n (k' := 8) rfl rfl rfl ?_
    refine rn_getR (k' := 9) rfl rfl K0_6 (by decide) rfl R0_6_0 ?_
    refine rn_iload_n (k' := 10) rfl rfl rfl ?_
    refine rn_iaload (k' := 11) rfl rfl K0_7 (by omega) (by omega) ?_
    have hb3 := hG ((a).toNat)
    refine rn_isub (k' := 12) rfl rfl (by omega) ?_
    refine rn_goto rfl ?_
    refine rn_iret rfl (Or.inl rfl) ?_
    exact congrArg (fun z => ((some (some (mI z)) : Option (Option MV)), mkh μ c s)) (by first | rfl | (split <;> omega) | (split <;> simp_all))
set_option maxHeartbeats 2000000 in
theorem c_X3_canStand {μ : Nat → Nat → Int} {c s : Nat} {a t w : Int} (hG : ∀ j, 0 ≤ μ 7 j ∧ μ 7 j ≤ 99) (hT : ∀ j, -1 ≤ μ 8 j ∧ μ 8 j ≤ 99) (ha : 0 ≤ a ∧ a < 100) (hw : 0 ≤ w ∧ w ≤ 1000) : Fn 36 [mR 6, mI a, mI t, mI w] μ c s (if w - μ 7 a.toNat ≤ t ∧ (μ 8 (0 + a).toNat = -1 ∨ t ≤ μ 8 (0 + a).toNat) ∧ (μ 8 (100 + a).toNat = -1 ∨ μ 8 (100 + a).toNat ≤ t) then 1 else 0) := by
  refine ⟨_, PT_36, Nat.le_of_ble_eq_true rfl, ?_⟩
  show Rn PT none kX3_canStand 0 [some (mR 6), some (mI (a)), some (mI (t)), some (mI (w)), none, none] [] (mkh μ c s) _
  refine rn_aload_n (k' := 1) rfl rfl rfl ?_
  refine rn_getR (k' := 2) rfl rfl K0_6 (by decide) rfl R0_6_1 ?_
  refine rn_iconst (k' := 3) rfl rfl ?_
  refine rn_iload_n (k' := 4) rfl rfl rfl ?_
  refine rn_iadd (k' := 5) rfl rfl (by omega) ?_
  refine rn_iaload (k' := 6) rfl rfl K0_8 (by omega) (by omega) ?_
  have hb1 := hT ((0 + a).toNat)
  refine rn_istore (k' := 7) (L' := [some (mR 6), some (mI (a)), some (mI (t)), some (mI (w)), some (mI (μ 8 (0 + a).toNat)), none]) rfl rfl (Nat.le_of_ble_eq_true rfl) rfl ?_
  refine rn_aload_n (k' := 8) rfl rfl rfl ?_
  refine rn_getR (k' := 9) rfl rfl K0_6 (by decide) rfl R0_6_1 ?_
  refine rn_bipush (k' := 10) rfl rfl ?_
  refine rn_iload_n (k' := 11) rfl rfl rfl ?_
  refine rn_iadd (k' := 12) rfl rfl (by omega) ?_
  refine rn_iaload (k' := 13) rfl rfl K0_8 (by omega) (by omega) ?_
  have hb2 := hT ((100 + a).toNat)
  refine rn_istore (k' := 14) (L' := [some (mR 6), some (mI (a)), some (mI (t)), some (mI (w)), some (mI (μ 8 (0 + a).toNat)), some (mI (μ 8 (100 + a).toNat))]) rfl rfl (Nat.le_of_ble_eq_true rfl) rfl ?_
  refine rn_iload_n (k' := 15) rfl rfl rfl ?_
  refine rn_aload_n (k' := 16) rfl rfl rfl ?_
  refine rn_getR (k' := 17) rfl rfl K0_6 (by decide) rfl R0_6_0 ?_
  refine rn_iload_n (k' := 18) rfl rfl rfl ?_
  refine rn_iaload (k' := 19) rfl rfl K0_7 (by omega) (by omega) ?_
  have hb3 := hG ((a).toNat)
  refine rn_isub (k' := 20) rfl rfl (by omega) ?_
  refine rn_iload_n (k' := 21) rfl rfl rfl ?_
  refine rn_icmp_gt (k' := 22) rfl rfl (fun hc4 => ?_) (fun hc4 => ?_)
  · skip
    refine rn_iconst (k' := 37) rfl rfl ?_
    refine rn_iret rfl (Or.inr (by omega)) ?_
    exact congrArg (fun z => ((some (some (mI z)) : Option (Option MV)), mkh μ c s)) (by first | rfl | (split <;> omega) | (split <;> simp_all))
  · skip
    refine rn_iload (k' := 23) rfl rfl rfl ?_
    refine rn_iconst (k' := 24) rfl rfl ?_
    refine rn_icmp_eq (k' := 25) rfl rfl (fun hc5 => ?_) (fun hc5 => ?_)
    · skip
      refine rn_iload (k' := 29) rfl rfl rfl ?_
      refine rn_iconst (k' := 30) rfl rfl ?_
      refine rn_icmp_eq (k' := 31) rfl rfl (fun hc6 => ?_) (fun hc6 => ?_)
      · skip
        refine rn_iconst (k' := 35) rfl rfl ?_
        refine rn_goto rfl ?_
        refine rn_iret rfl (Or.inr (by omega)) ?_
        exact congrArg (fun z => ((some (some (mI z)) : Option (Option MV)), mkh μ c s)) (by first | rfl | (split <;> omega) | (split <;> simp_all))
      · skip
        refine rn_iload (k' := 32) rfl rfl rfl ?_
        refine rn_iload_n (k' := 33) rfl rfl rfl ?_
        refine rn_icmp_gt (k' := 34) rfl rfl (fun hc7 => ?_) (fun hc7 => ?_)
        · skip
          refine rn_iconst (k' := 37) rfl rfl ?_
          refine rn_iret rfl (Or.inr (by omega)) ?_
          exact congrArg (fun z => ((some (some (mI z)) : Option (Option MV)), mkh μ c s)) (by first | rfl | (split <;> omega) | (split <;> simp_all))
        · skip
          refine rn_iconst (k' := 35) rfl rfl ?_
          refine rn_goto rfl ?_
          refine rn_iret rfl (Or.inr (by omega)) ?_
          exact congrArg (fun z => ((some (some (mI z)) : Option (Option MV)), mkh μ c s)) (by first | rfl | (split <;> omega) | (split <;> simp_all))
    · skip
      refine rn_iload (k' := 26) rfl rfl rfl ?_
      refine rn_iload_n (k' := 27) rfl rfl rfl ?_
      refine rn_icmp_lt (k' := 28) rfl rfl (fun hc8 => ?_) (fun hc8 => ?_)
      · skip
        refine rn_iconst (k' := 37) rfl rfl ?_
        refine rn_iret rfl (Or.inr (by omega)) ?_
        exact congrArg (fun z => ((some (some (mI z)) : Option (Option MV)), mkh μ c s)) (by first | rfl | (split <;> omega) | (split <;> simp_all))
      · skip
        refine rn_iload (k' := 29) rfl rfl rfl ?_
        refine rn_iconst (k' := 30) rfl rfl ?_
        refine rn_icmp_eq (k' := 31) rfl rfl (fun hc9 => ?_) (fun hc9 => ?_)
        · skip
          refine rn_iconst (k' := 35) rfl rfl ?_
          refine rn_goto rfl ?_
          refine rn_iret rfl (Or.inr (by omega)) ?_
          exact congrArg (fun z => ((some (some (mI z)) : Option (Option MV)), mkh μ c s)) (by first | rfl | (split <;> omega) | (split <;> simp_all))
        · skip
          refine rn_iload (k' := 32) rfl rfl rfl ?_
          refine rn_iload_n (k' := 33) rfl rfl rfl ?_
          refine rn_icmp_gt (k' := 34) rfl rfl (fun hc10 => ?_) (fun hc10 => ?_)
          · skip
            refine rn_iconst (k' := 37) rfl rfl ?_
            refine rn_iret rfl (Or.inr (by omega)) ?_
            exact congrArg (fun z => ((some (some (mI z)) : Option (Option MV)), mkh μ c s)) (by first | rfl | (split <;> omega) | (split <;> simp_all))
          · skip
            refine rn_iconst (k' := 35) rfl rfl ?_
            refine rn_goto rfl ?_
            refine rn_iret rfl (Or.inr (by omega)) ?_
            exact congrArg (fun z => ((some (some (mI z)) : Option (Option MV)), mkh μ c s)) (by first | rfl | (split <;> omega) | (split <;> simp_all))
set_option maxHeartbeats 2000000 in
theorem c_X3_hasLadder {μ : Nat → Nat → Int} {c s : Nat} {a : Int} (hT : ∀ j, -1 ≤ μ 8 j ∧ μ 8 j ≤ 99) (ha : 0 ≤ a ∧ a < 100) : Fn 37 [mR 6, mI a] μ c s (if μ 8 (200 + a).toNat = -1 then 0 else 1) := by
  refine ⟨_, PT_37, Nat.le_of_ble_eq_true rfl, ?_⟩
  show Rn PT none kX3_hasLadder 0 [some (mR 6), some (mI (a))] [] (mkh μ c s) _
  refine rn_aload_n (k' := 1) rfl rfl rfl ?_
  refine rn_getR (k' := 2) rfl rfl K0_6 (by decide) rfl R0_6_1 ?_
  refine rn_sipush (k' := 3) rfl rfl ?_
  refine rn_iload_n (k' := 4) rfl rfl rfl ?_
  refine rn_iadd (k' := 5) rfl rfl (by omega) ?_
  refine rn_iaload (k' := 6) rfl rfl K0_8 (by omega) (by omega) ?_
  have hb1 := hT ((200 + a).toNat)
  refine rn_iconst (k' := 7) rfl rfl ?_
  refine rn_icmp_eq (k' := 8) rfl rfl (fun hc2 => ?_) (fun hc2 => ?_)
  · skip
    refine rn_iconst (k' := 11) rfl rfl ?_
    refine rn_iret rfl (Or.inr (by omega)) ?_
    exact congrArg (fun z => ((some (some (mI z)) : Option (Option MV)), mkh μ c s)) (by first | rfl | (split <;> omega) | (split <;> simp_all))
  · skip
    refine rn_iconst (k' := 9) rfl rfl ?_
    refine rn_goto rfl ?_
    refine rn_iret rfl (Or.inr (by omega)) ?_
    exact congrArg (fun z => ((some (some (mI z)) : Option (Option MV)), mkh μ c s)) (by first | rfl | (split <;> omega) | (split <;> simp_all))
set_option maxHeartbeats 2000000 in
theorem c_X3_neighbour {μ : Nat → Nat → Int} {c s : Nat} {a d : Int} (hc : 0 ≤ μ 6 8 ∧ μ 6 8 ≤ 10) (hr : 0 ≤ μ 6 9 ∧ μ 6 9 ≤ 10) (ha : 0 ≤ a ∧ a < 100) (hd : 0 ≤ d ∧ d ≤ 3) : Fn 39 [mR 6, mI a, mI d] μ c s (if d = 0 then (if 0 < a.tdiv 10 then a - 10 else -1) else if d = 1 then (if a.tmod 10 + 1 < μ 6 8 then a + 1 else -1) else if d = 2 then (if a.tdiv 10 + 1 < μ 6 9 then a + 10 else -1) else (if 0 < a.tmod 10 then a - 1 else -1)) := by
  have hm1 := tmod_10 ha.1
  have hd1 := tdiv_10 ha
  refine ⟨_, PT_39, Nat.le_of_ble_eq_true rfl, ?_⟩
  show Rn PT none kX3_neighbour 0 [some (mR 6), some (mI (a)), some (mI (d)), none, none] [] (mkh μ c s) _
  refine rn_iload_n (k' := 1) rfl rfl rfl ?_
  refine rn_bipush (k' := 2) rfl rfl ?_
  refine rn_irem (k' := 3) rfl rfl (by omega) ?_
  refine rn_istore_n (k' := 4) (L' := [some (mR 6), some (mI (a)), some (mI (d)), some (mI ((a).tmod (10))), none]) rfl rfl (Nat.le_of_ble_eq_true rfl) rfl ?_
  refine rn_iload_n (k' := 5) rfl rfl rfl ?_
  refine rn_bipush (k' := 6) rfl rfl ?_
  refine rn_idiv (k' := 7) rfl rfl (by omega) (tdiv_rng (by omega) (by omega)) ?_
  refine rn_istore (k' := 8) (L' := [some (mR 6), some (mI (a)), some (mI (d)), some (mI ((a).tmod (10))), some (mI ((a).tdiv (10)))]) rfl rfl (Nat.le_of_ble_eq_true rfl) rfl ?_
  refine rn_iload_n (k' := 9) rfl rfl rfl ?_
  rcases (show (d < 0 ∨ 2 < d) ∨ d = 0 ∨ d = 1 ∨ d = 2 by omega) with hs1 | hs1 | hs1 | hs1
  · refine rn_swO rfl hs1 ?_
    refine rn_iload_n (k' := 43) rfl rfl rfl ?_
    refine rn_if_le (k' := 44) rfl rfl (fun hc2 => ?_) (fun hc2 => ?_)
    · skip
      refine rn_iconst (k' := 49) rfl rfl ?_
      refine rn_iret rfl (Or.inl rfl) ?_
      exact congrArg (fun z => ((some (some (mI z)) : Option (Option MV)), mkh μ c s)) (by first | rfl | (repeat' split) <;> omega)
    · skip
      refine rn_iload_n (k' := 45) rfl rfl rfl ?_
      refine rn_iconst (k' := 46) rfl rfl ?_
      refine rn_isub (k' := 47) rfl rfl (by omega) ?_
      refine rn_goto rfl ?_
      refine rn_iret rfl (Or.inl rfl) ?_
      exact congrArg (fun z => ((some (some (mI z)) : Option (Option MV)), mkh μ c s)) (by first | rfl | (repeat' split) <;> omega)
  · refine rn_swI (j := 0) (t' := 10) rfl (by omega) rfl ?_
    refine rn_iload (k' := 11) rfl rfl rfl ?_
    refine rn_if_le (k' := 12) rfl rfl (fun hc3 => ?_) (fun hc3 => ?_)
    · skip
      refine rn_iconst (k' := 17) rfl rfl ?_
      refine rn_iret rfl (Or.inl rfl) ?_
      exact congrArg (fun z => ((some (some (mI z)) : Option (Option MV)), mkh μ c s)) (by first | rfl | (repeat' split) <;> omega)
    · skip
      refine rn_iload_n (k' := 13) rfl rfl rfl ?_
      refine rn_bipush (k' := 14) rfl rfl ?_
      refine rn_isub (k' := 15) rfl rfl (by omega) ?_
      refine rn_goto rfl ?_
      refine rn_iret rfl (Or.inl rfl) ?_
      exact congrArg (fun z => ((some (some (mI z)) : Option (Option MV)), mkh μ c s)) (by first | rfl | (repeat' split) <;> omega)
  · refine rn_swI (j := 1) (t' := 18) rfl (by omega) rfl ?_
    refine rn_iload_n (k' := 19) rfl rfl rfl ?_
    refine rn_iconst (k' := 20) rfl rfl ?_
    refine rn_iadd (k' := 21) rfl rfl (by omega) ?_
    refine rn_aload_n (k' := 22) rfl rfl rfl ?_
    refine rn_getI (k' := 23) rfl rfl K0_6 (by decide) rfl ?_
    refine rn_icmp_ge (k' := 24) rfl rfl (fun hc4 => ?_) (fun hc4 => ?_)
    · skip
      refine rn_iconst (k' := 29) rfl rfl ?_
      refine rn_iret rfl (Or.inl rfl) ?_
      exact congrArg (fun z => ((some (some (mI z)) : Option (Option MV)), mkh μ c s)) (by first | rfl | (repeat' split) <;> omega)
    · skip
      refine rn_iload_n (k' := 25) rfl rfl rfl ?_
      refine rn_iconst (k' := 26) rfl rfl ?_
      refine rn_iadd (k' := 27) rfl rfl (by omega) ?_
      refine rn_goto rfl ?_
      refine rn_iret rfl (Or.inl rfl) ?_
      exact congrArg (fun z => ((some (some (mI z)) : Option (Option MV)), mkh μ c s)) (by first | rfl | (repeat' split) <;> omega)
  · refine rn_swI (j := 2) (t' := 30) rfl (by omega) rfl ?_
    refine rn_iload (k' := 31) rfl rfl rfl ?_
    refine rn_iconst (k' := 32) rfl rfl ?_
    refine rn_iadd (k' := 33) rfl rfl (by omega) ?_
    refine rn_aload_n (k' := 34) rfl rfl rfl ?_
    refine rn_getI (k' := 35) rfl rfl K0_6 (by decide) rfl ?_
    refine rn_icmp_ge (k' := 36) rfl rfl (fun hc5 => ?_) (fun hc5 => ?_)
    · skip
      refine rn_iconst (k' := 41) rfl rfl ?_
      refine rn_iret rfl (Or.inl rfl) ?_
      exact congrArg (fun z => ((some (some (mI z)) : Option (Option MV)), mkh μ c s)) (by first | rfl | (repeat' split) <;> omega)
    · skip
      refine rn_iload_n (k' := 37) rfl rfl rfl ?_
      refine rn_bipush (k' := 38) rfl rfl ?_
      refine rn_iadd (k' := 39) rfl rfl (by omega) ?_
      refine rn_goto rfl ?_
      refine rn_iret rfl (Or.inl rfl) ?_
      exact congrArg (fun z => ((some (some (mI z)) : Option (Option MV)), mkh μ c s)) (by first | rfl | (repeat' split) <;> omega)
/-- what the last day told says: the days b + n - 1 down to b -/
def wOn (f : Nat → Int) (b : Nat) : Nat → Int
  | 0 => 0
  | n + 1 => if f (b + n) = -1 then wOn f b n else f (b + n)
set_option maxHeartbeats 2000000 in
theorem l_X3_weatherOn {μ : Nat → Nat → Int} {c s : Nat} {σ : Nat} {day : Int} (hW : ∀ j, -1 ≤ μ 10 j ∧ μ 10 j ≤ 99) (hs : σ ≤ 2) : ∀ (n : Nat) (d : Int) (v4 : Option MV), d = (n : Int) - 1 → n ≤ 30 → Rn PT none kX3_weatherOn 2 [some (mR 6), some (mI (σ : Int)), some (mI day), some (mI d), v4] [] (mkh μ c s) (fun r => r = (some (some (mI (wOn (μ 10) (30 * σ) n))), mkh μ c s)) := by
  intro n
  induction n with
  | zero =>
    intro d v4 hd hn
    refine rn_iload_n (k' := 3) rfl rfl rfl ?_
    refine rn_if_lt (k' := 4) rfl rfl (fun hc1 => ?_) (fun hc1 => ?_)
    · skip
      refine rn_iconst (k' := 21) rfl rfl ?_
      refine rn_iret rfl (Or.inl rfl) ?_
      rfl
    · exfalso; omega
  | succ n ih =>
    intro d v4 hd hn
    have hi : (((σ : Int) * 30) + d).toNat = 30 * σ + n := by omega
    refine rn_iload_n (k' := 3) rfl rfl rfl ?_
    refine rn_if_lt (k' := 4) rfl rfl (fun hc1 => ?_) (fun hc1 => ?_)
    · exfalso; omega
    · skip
      refine rn_aload_n (k' := 5) rfl rfl rfl ?_
      refine rn_getR (k' := 6) rfl rfl K0_6 (by decide) rfl R0_6_3 ?_
      refine rn_iload_n (k' := 7) rfl rfl rfl ?_
      refine rn_bipush (k' := 8) rfl rfl ?_
      refine rn_imul (k' := 9) rfl rfl (by omega) ?_
      refine rn_iload_n (k' := 10) rfl rfl rfl ?_
      refine rn_iadd (k' := 11) rfl rfl (by omega) ?_
      refine rn_iaload (k' := 12) rfl rfl K0_10 (by omega) (by omega) ?_
      have hb2 := hW (((((σ : Int)) * 30) + d).toNat)
      refine rn_istore (k' := 13) (L' := [some (mR 6), some (mI ((σ : Int))), some (mI (day)), some (mI (d)), some (mI (μ 10 ((((σ : Int)) * 30) + d).toNat))]) rfl rfl (Nat.le_of_ble_eq_true rfl) rfl ?_
      refine rn_iload (k' := 14) rfl rfl rfl ?_
      refine rn_iconst (k' := 15) rfl rfl ?_
      refine rn_icmp_eq (k' := 16) rfl rfl (fun hc3 => ?_) (fun hc3 => ?_)
      · skip
        refine rn_iinc (k' := 19) (L' := [some (mR 6), some (mI ((σ : Int))), some (mI (day)), some (mI (d + (-1))), some (mI (μ 10 ((((σ : Int)) * 30) + d).toNat))]) rfl rfl rfl (by omega) rfl ?_
        refine rn_goto rfl ?_
        rw [show wOn (μ 10) (30 * σ) (n + 1) = wOn (μ 10) (30 * σ) n by rw [wOn, ← hi, if_pos (by omega)]]
        exact ih _ _ (by omega) (by omega)
      · skip
        refine rn_iload (k' := 17) rfl rfl rfl ?_
        refine rn_iret rfl (Or.inl rfl) ?_
        rw [wOn, ← hi, if_neg (by omega)]
set_option maxHeartbeats 2000000 in
theorem c_X3_weatherOn {μ : Nat → Nat → Int} {c s : Nat} {σ n : Nat} (hW : ∀ j, -1 ≤ μ 10 j ∧ μ 10 j ≤ 99) (hs : σ ≤ 2) (hn : n < 30) : Fn 32 [mR 6, mI ((σ : Int)), mI ((n : Int))] μ c s (wOn (μ 10) (30 * σ) (n + 1)) := by
  refine ⟨_, PT_32, Nat.le_of_ble_eq_true rfl, ?_⟩
  show Rn PT none kX3_weatherOn 0 [some (mR 6), some (mI ((σ : Int))), some (mI ((n : Int))), none, none] [] (mkh μ c s) _
  refine rn_iload_n (k' := 1) rfl rfl rfl ?_
  refine rn_istore_n (k' := 2) (L' := [some (mR 6), some (mI ((σ : Int))), some (mI ((n : Int))), some (mI ((n : Int))), none]) rfl rfl (Nat.le_of_ble_eq_true rfl) rfl ?_
  exact l_X3_weatherOn hW hs (n + 1) _ _ (by omega) (by omega)
theorem c_X12_thrown {μ : Nat → Nat → Int} {c s : Nat} {z : Int} (hz : μ 118 0 = z) : Fn 161 [mR 118] μ c s z := by
  refine ⟨_, PT_161, Nat.le_of_ble_eq_true rfl, ?_⟩
  show Rn PT none kX12_thrown 0 [some (mR 118)] [] (mkh μ c s) _
  refine rn_aload_n (k' := 1) rfl rfl rfl ?_
  refine rn_getI (k' := 2) rfl rfl K0_118 (by decide) rfl ?_
  refine rn_iret rfl (Or.inl rfl) ?_
  rw [hz]
