variable {N : Int}
/-! ===== printed by wip/whole/gen9L.py: words and names looked up ===== -/
def ix (f : Nat → Int) (v : Int) : Nat → Nat → Int
  | 0, _ => -1
  | d + 1, i => if f i = v then (i : Int) else ix f v d (i + 1)
theorem ix_t {f : Nat → Int} {v : Int} {d i : Nat} (h : f i = v) : ix f v (d + 1) i = (i : Int) := if_pos h
theorem ix_f {f : Nat → Int} {v : Int} {d i : Nat} (h : ¬ f i = v) : ix f v (d + 1) i = ix f v d (i + 1) := if_neg h
theorem ix_b {f : Nat → Int} {v : Int} : ∀ d i : Nat, ix f v d i = -1 ∨ ((i : Int) ≤ ix f v d i ∧ ix f v d i < ((i + d : Nat) : Int))
  | 0, _ => Or.inl rfl
  | d + 1, i => by
    by_cases h : f i = v
    · rw [ix_t h]; right; omega
    · rw [ix_f h]
      rcases ix_b (f := f) (v := v) d (i + 1) with h | h
      · exact Or.inl h
      · right; omega
theorem ix_none {f : Nat → Int} {v : Int} : ∀ d i : Nat, ix f v d i = -1 ↔ ∀ j, i ≤ j → j < i + d → ¬ f j = v
  | 0, i => ⟨fun _ j h1 h2 => by omega, fun _ => rfl⟩
  | d + 1, i => by
    by_cases h : f i = v
    · rw [ix_t h]
      exact ⟨fun z => by omega, fun z => absurd h (z i (Nat.le_refl i) (by omega))⟩
    · rw [ix_f h, ix_none d (i + 1)]
      constructor
      · intro z j h1 h2
        by_cases e : j = i
        · rw [e]; exact h
        · exact z j (by omega) (by omega)
      · intro z j h1 h2
        exact z j (by omega) (by omega)
theorem ix_two {f g : Nat → Int} {v w : Int} : ∀ d i : Nat, (∀ j, i ≤ j → j < i + d → (f j = v ↔ g j = w)) → ix f v d i = ix g w d i
  | 0, _, _ => rfl
  | d + 1, i, h => by
    have h0 := h i (Nat.le_refl i) (by omega)
    have ih := ix_two (f := f) (g := g) (v := v) (w := w) d (i + 1) (fun j h1 h2 => h j (by omega) (by omega))
    by_cases e : f i = v
    · rw [ix_t e, ix_t (h0.mp e)]
    · rw [ix_f e, ix_f (fun z => e (h0.mpr z)), ih]
theorem cmp_0 {x y : Int} : m_cmp x y = 0 ↔ x = y := by
  unfold m_cmp
  constructor
  · intro h; split at h
    · omega
    · split at h <;> omega
  · intro h; subst h; simp
set_option maxHeartbeats 4000000 in
theorem l_wordRead {μ : Nat → Nat → Int} {c s : Nat} (h5 : μ 1 5 = 1) : ∀ (d n : Nat) (i : Int), i = (n : Int) → n + d = 16 → Rn PT none kX5_wordRead 2 [some (mR 3), some (mI (i))] [] (mkh μ c s) (fun r => r = (some (some (mI (ix (μ 4) (μ 1 6) d n))), mkh μ c s)) := by
  intro d
  induction d with
  | zero =>
    intro n i ei hn 
    subst ei
    refine rn_aload_n (k' := 3) rfl rfl rfl ?_
    refine rn_getR (k' := 4) rfl rfl K0_3 (by decide) rfl R0_3_0 ?_
    refine rn_getI (k' := 5) rfl rfl K0_1 (by decide) rfl ?_
    refine rn_iconst (k' := 6) rfl rfl ?_
    refine rn_icmp_ne (k' := 7) rfl rfl (fun hc1 => ?_) (fun hc1 => ?_)
    · exfalso; omega
    · skip
      refine rn_iload_n (k' := 8) rfl rfl rfl ?_
      refine rn_bipush (k' := 9) rfl rfl ?_
      refine rn_icmp_ge (k' := 10) rfl rfl (fun hc2 => ?_) (fun hc2 => ?_)
      · skip
        refine rn_iconst (k' := 23) rfl rfl ?_
        refine rn_iret rfl (Or.inl rfl) ?_
        rfl
      · exfalso; omega
  | succ d ih =>
    intro n i ei hn 
    subst ei
    refine rn_aload_n (k' := 3) rfl rfl rfl ?_
    refine rn_getR (k' := 4) rfl rfl K0_3 (by decide) rfl R0_3_0 ?_
    refine rn_getI (k' := 5) rfl rfl K0_1 (by decide) rfl ?_
    refine rn_iconst (k' := 6) rfl rfl ?_
    refine rn_icmp_ne (k' := 7) rfl rfl (fun hc1 => ?_) (fun hc1 => ?_)
    · exfalso; omega
    · skip
      refine rn_iload_n (k' := 8) rfl rfl rfl ?_
      refine rn_bipush (k' := 9) rfl rfl ?_
      refine rn_icmp_ge (k' := 10) rfl rfl (fun hc2 => ?_) (fun hc2 => ?_)
      · exfalso; omega
      · skip
        refine rn_aload_n (k' := 11) rfl rfl rfl ?_
        refine rn_getR (k' := 12) rfl rfl K0_3 (by decide) rfl R0_3_1 ?_
        refine rn_iload_n (k' := 13) rfl rfl rfl ?_
        refine rn_iaload (k' := 14) rfl rfl K0_4 (by omega) (by omega) ?_
        show Rn PT none kX5_wordRead 14 [some (mR 3), some (mI ((n : Int)))] [mI (μ 4 (n))] (mkh μ c s) _
        refine rn_aload_n (k' := 15) rfl rfl rfl ?_
        refine rn_getR (k' := 16) rfl rfl K0_3 (by decide) rfl R0_3_0 ?_
        refine rn_getI (k' := 17) rfl rfl K0_1 (by decide) rfl ?_
        refine rn_icmp_ne (k' := 18) rfl rfl (fun hc3 => ?_) (fun hc3 => ?_)
        · skip
          refine rn_iinc (k' := 21) (L' := [some (mR 3), some (mI ((n : Int) + 1))]) rfl rfl rfl (by omega) rfl ?_
          refine rn_goto rfl ?_
          rw [ix_f (by omega)]
          exact ih (n + 1) _ (by omega) (by omega)
        · skip
          refine rn_iload_n (k' := 19) rfl rfl rfl ?_
          refine rn_iret rfl (Or.inl rfl) ?_
          rw [ix_t (by omega)]
set_option maxHeartbeats 4000000 in
theorem l_named_f {μ : Nat → Nat → Int} {c s : Nat} {v : Int} {k9 : Nat} (hk : k9 ≤ 8) (h13 : μ 54 13 = (k9 : Int)) : ∀ (d n : Nat) (i : Int), i = (n : Int) → n + d = k9 → Rn PT none kX3_herdNamed 2 [some (mR 54), some (mI (v)), some (mI (i))] [] (mkh μ c s) (fun r => r = (some (some (mI (ix (μ 59) v d n))), mkh μ c s)) := by
  intro d
  induction d with
  | zero =>
    intro n i ei hn 
    subst ei
    refine rn_iload_n (k' := 3) rfl rfl rfl ?_
    refine rn_aload_n (k' := 4) rfl rfl rfl ?_
    refine rn_getI (k' := 5) rfl rfl K0_54 (by decide) rfl ?_
    refine rn_icmp_ge (k' := 6) rfl rfl (fun hc1 => ?_) (fun hc1 => ?_)
    · skip
      refine rn_iconst (k' := 17) rfl rfl ?_
      refine rn_iret rfl (Or.inl rfl) ?_
      rfl
    · exfalso; omega
  | succ d ih =>
    intro n i ei hn 
    subst ei
    refine rn_iload_n (k' := 3) rfl rfl rfl ?_
    refine rn_aload_n (k' := 4) rfl rfl rfl ?_
    refine rn_getI (k' := 5) rfl rfl K0_54 (by decide) rfl ?_
    refine rn_icmp_ge (k' := 6) rfl rfl (fun hc1 => ?_) (fun hc1 => ?_)
    · exfalso; omega
    · skip
      refine rn_aload_n (k' := 7) rfl rfl rfl ?_
      refine rn_getR (k' := 8) rfl rfl K0_54 (by decide) rfl R0_54_4 ?_
      refine rn_iload_n (k' := 9) rfl rfl rfl ?_
      refine rn_iaload (k' := 10) rfl rfl K0_59 (by omega) (by omega) ?_
      show Rn PT none kX3_herdNamed 10 [some (mR 54), some (mI (v)), some (mI ((n : Int)))] [mI (μ 59 (n))] (mkh μ c s) _
      refine rn_iload_n (k' := 11) rfl rfl rfl ?_
      refine rn_icmp_ne (k' := 12) rfl rfl (fun hc2 => ?_) (fun hc2 => ?_)
      · skip
        refine rn_iinc (k' := 15) (L' := [some (mR 54), some (mI (v)), some (mI ((n : Int) + 1))]) rfl rfl rfl (by omega) rfl ?_
        refine rn_goto rfl ?_
        rw [ix_f (by omega)]
        exact ih (n + 1) _ (by omega) (by omega)
      · skip
        refine rn_iload_n (k' := 13) rfl rfl rfl ?_
        refine rn_iret rfl (Or.inl rfl) ?_
        rw [ix_t (by omega)]
set_option maxHeartbeats 4000000 in
theorem l_named_l {μ : Nat → Nat → Int} {c s : Nat} {v : Int} {k9 : Nat} (hk : k9 ≤ 8) (h13 : μ 6 13 = (k9 : Int)) : ∀ (d n : Nat) (i : Int), i = (n : Int) → n + d = k9 → Rn PT none kX3_herdNamed 2 [some (mR 6), some (mI (v)), some (mI (i))] [] (mkh μ c s) (fun r => r = (some (some (mI (ix (μ 11) v d n))), mkh μ c s)) := by
  intro d
  induction d with
  | zero =>
    intro n i ei hn 
    subst ei
    refine rn_iload_n (k' := 3) rfl rfl rfl ?_
    refine rn_aload_n (k' := 4) rfl rfl rfl ?_
    refine rn_getI (k' := 5) rfl rfl K0_6 (by decide) rfl ?_
    refine rn_icmp_ge (k' := 6) rfl rfl (fun hc1 => ?_) (fun hc1 => ?_)
    · skip
      refine rn_iconst (k' := 17) rfl rfl ?_
      refine rn_iret rfl (Or.inl rfl) ?_
      rfl
    · exfalso; omega
  | succ d ih =>
    intro n i ei hn 
    subst ei
    refine rn_iload_n (k' := 3) rfl rfl rfl ?_
    refine rn_aload_n (k' := 4) rfl rfl rfl ?_
    refine rn_getI (k' := 5) rfl rfl K0_6 (by decide) rfl ?_
    refine rn_icmp_ge (k' := 6) rfl rfl (fun hc1 => ?_) (fun hc1 => ?_)
    · exfalso; omega
    · skip
      refine rn_aload_n (k' := 7) rfl rfl rfl ?_
      refine rn_getR (k' := 8) rfl rfl K0_6 (by decide) rfl R0_6_4 ?_
      refine rn_iload_n (k' := 9) rfl rfl rfl ?_
      refine rn_iaload (k' := 10) rfl rfl K0_11 (by omega) (by omega) ?_
      show Rn PT none kX3_herdNamed 10 [some (mR 6), some (mI (v)), some (mI ((n : Int)))] [mI (μ 11 (n))] (mkh μ c s) _
      refine rn_iload_n (k' := 11) rfl rfl rfl ?_
      refine rn_icmp_ne (k' := 12) rfl rfl (fun hc2 => ?_) (fun hc2 => ?_)
      · skip
        refine rn_iinc (k' := 15) (L' := [some (mR 6), some (mI (v)), some (mI ((n : Int) + 1))]) rfl rfl rfl (by omega) rfl ?_
        refine rn_goto rfl ?_
        rw [ix_f (by omega)]
        exact ih (n + 1) _ (by omega) (by omega)
      · skip
        refine rn_iload_n (k' := 13) rfl rfl rfl ?_
        refine rn_iret rfl (Or.inl rfl) ?_
        rw [ix_t (by omega)]
