variable {N : Int}
/-! ===== printed by wip/whole/gen9C.py: pairs: passes, who, low, high ===== -/
/-- what passFrom leaves -/
abbrev PF (μ : Nat → Nat → Int) (a w : Int) : Prop := ∀ x (h : Nat), g_cell μ x → h ≤ 99 → (hb (μ 76) x h = true ↔ ¬ g_steps μ a x (h : Int) w = -1)
theorem k_passesWith {μ : Nat → Nat → Int} {c s : Nat} (hL : I_land μ) {a w x t : Int} (hP : PF μ a w) (hx : g_cell μ x) (ht : 0 ≤ t ∧ t ≤ 99) : Cl PT 19 [mR 74, mI x, mI t] (mkh μ c s) (fun r => r = (some (some (mI (if ¬ g_steps μ a x t w = -1 then 1 else 0))), mkh μ c s)) := by
  obtain ⟨h, rfl⟩ := Int.eq_ofNat_of_zero_le ht.1
  have h1 := c_passesWith (μ := μ) (c := c) (s := s) (g_cell_b hL hx) (show h < 100 by omega)
  have e := hP x h hx (by omega)
  by_cases q : ¬ g_steps μ a x (h : Int) w = -1
  · rw [if_pos q]
    rw [if_pos (e.mpr q)] at h1
    exact h1
  · rw [if_neg q]
    rw [if_neg (fun z => q (e.mp z))] at h1
    exact h1
theorem pf_of {μ M : Nat → Nat → Int} {a w : Int} (hr : rst M = rst μ) (h : ∀ x (h : Nat), g_cell μ x → h ≤ 99 → (hb (M 76) x h = true ↔ ¬ g_steps μ a x (h : Int) w = -1)) : PF M a w := fun x k hx hk => by
  have e6 := row_rst hr (a := 6) (fun _ => rfl)
  have e7 := row_rst hr (a := 7) (fun _ => rfl)
  have e8 := row_rst hr (a := 8) (fun _ => rfl)
  rw [g_steps_rows e6 e7 e8]
  unfold g_cell at hx
  rw [e6] at hx
  exact h x k hx hk
theorem g_steps_nn {μ : Nat → Nat → Int} (hL : I_land μ) {a b t w : Int} (ha : g_cell μ a) : g_steps μ a b t w = -1 ∨ 0 ≤ g_steps μ a b t w := by
  have h := g_far_b hL (t := t) (w := w) ha b.toNat
  rw [g_steps_far]
  omega
/-- how many, the least, the greatest -/
def pN (p : Nat → Prop) [DecidablePred p] : Nat → Int
  | 0 => 0
  | n + 1 => pN p n + (if p n then 1 else 0)
def pL (p : Nat → Prop) [DecidablePred p] : Nat → Int
  | 0 => -1
  | n + 1 => if p n then (if pL p n = -1 then (n : Int) else pL p n) else pL p n
def pG (p : Nat → Prop) [DecidablePred p] : Nat → Int
  | 0 => -1
  | n + 1 => if p n then (n : Int) else pG p n
theorem pN_b {p : Nat → Prop} [DecidablePred p] : ∀ n : Nat, 0 ≤ pN p n ∧ pN p n ≤ n
  | 0 => ⟨Int.le_refl 0, Int.le_refl 0⟩
  | n + 1 => by
    have := pN_b (p := p) n
    show 0 ≤ pN p n + (if p n then 1 else 0) ∧ pN p n + (if p n then 1 else 0) ≤ ((n + 1 : Nat) : Int)
    split <;> omega
theorem pL_b {p : Nat → Prop} [DecidablePred p] : ∀ n : Nat, -1 ≤ pL p n ∧ pL p n < n
  | 0 => by show (-1 : Int) ≤ -1 ∧ (-1 : Int) < ((0 : Nat) : Int); decide
  | n + 1 => by
    have := pL_b (p := p) n
    show -1 ≤ (if p n then (if pL p n = -1 then (n : Int) else pL p n) else pL p n) ∧ (if p n then (if pL p n = -1 then (n : Int) else pL p n) else pL p n) < ((n + 1 : Nat) : Int)
    split
    · split <;> omega
    · omega
set_option maxHeartbeats 4000000 in
theorem l_X11_passes {μ : Nat → Nat → Int} {c s : Nat} (hL : I_land μ) {a b w : Int} (hx : g_cell μ b) (hMP : PF μ a w) {x1 wh : Int} (hwh : 0 ≤ wh ∧ wh ≤ 2) : ∀ (d n : Nat) (ac : Int) (le : Int) (gr : Int) (k : Int), ac = pN (fun v : Nat => ¬ g_steps μ a b (v : Int) w = -1) n → le = pL (fun v : Nat => ¬ g_steps μ a b (v : Int) w = -1) n → gr = pG (fun v : Nat => ¬ g_steps μ a b (v : Int) w = -1) n → k = (n : Int) → n + d = 100 → Rn PT none kX11_passes 31 [some (mR 0), some (mI (a)), some (mI (b)), some (mI (x1)), some (mI (wh)), some (mI (ac)), some (mI (le)), some (mI (gr)), some (mI (k))] [] (mkh μ c s) (fun r => r = (some (some (mI (if wh = 0 then pN (fun v : Nat => ¬ g_steps μ a b (v : Int) w = -1) 100 else if wh = 1 then pL (fun v : Nat => ¬ g_steps μ a b (v : Int) w = -1) 100 else pG (fun v : Nat => ¬ g_steps μ a b (v : Int) w = -1) 100))), mkh μ c s)) := by
  intro d
  induction d with
  | zero =>
    intro n ac le gr k eac ele egr ek hn 
    subst eac ele egr ek
    have hnb := pN_b (p := (fun v : Nat => ¬ g_steps μ a b (v : Int) w = -1)) n
    have hlb := pL_b (p := (fun v : Nat => ¬ g_steps μ a b (v : Int) w = -1)) n
    refine rn_iload (k' := 32) rfl rfl rfl ?_
    refine rn_bipush (k' := 33) rfl rfl ?_
    refine rn_icmp_gt (k' := 34) rfl rfl (fun hc1 => ?_) (fun hc1 => ?_)
    · skip
      refine rn_iload (k' := 53) rfl rfl rfl ?_
      refine rn_if_ne (k' := 54) rfl rfl (fun hc2 => ?_) (fun hc2 => ?_)
      · skip
        refine rn_iload (k' := 57) rfl rfl rfl ?_
        refine rn_iconst (k' := 58) rfl rfl ?_
        refine rn_icmp_ne (k' := 59) rfl rfl (fun hc3 => ?_) (fun hc3 => ?_)
        · skip
          refine rn_iload (k' := 62) rfl rfl rfl ?_
          refine rn_iret rfl (Or.inl rfl) ?_
          refine congrArg (fun z => ((some (some (mI z)) : Option (Option MV)), mkh μ c s)) ?_
          rw [show n = 100 by omega]
          first | rw [if_pos (by omega)] | (rw [if_neg (by omega), if_pos (by omega)]) | (rw [if_neg (by omega), if_neg (by omega)])
        · skip
          refine rn_iload (k' := 60) rfl rfl rfl ?_
          refine rn_goto rfl ?_
          refine rn_iret rfl (Or.inl rfl) ?_
          refine congrArg (fun z => ((some (some (mI z)) : Option (Option MV)), mkh μ c s)) ?_
          rw [show n = 100 by omega]
          first | rw [if_pos (by omega)] | (rw [if_neg (by omega), if_pos (by omega)]) | (rw [if_neg (by omega), if_neg (by omega)])
      · skip
        refine rn_iload (k' := 55) rfl rfl rfl ?_
        refine rn_iret rfl (Or.inl rfl) ?_
        refine congrArg (fun z => ((some (some (mI z)) : Option (Option MV)), mkh μ c s)) ?_
        rw [show n = 100 by omega]
        first | rw [if_pos (by omega)] | (rw [if_neg (by omega), if_pos (by omega)]) | (rw [if_neg (by omega), if_neg (by omega)])
    · exfalso; omega
  | succ d ih =>
    intro n ac le gr k eac ele egr ek hn 
    subst eac ele egr ek
    have hnb := pN_b (p := (fun v : Nat => ¬ g_steps μ a b (v : Int) w = -1)) n
    have hlb := pL_b (p := (fun v : Nat => ¬ g_steps μ a b (v : Int) w = -1)) n
    refine rn_iload (k' := 32) rfl rfl rfl ?_
    refine rn_bipush (k' := 33) rfl rfl ?_
    refine rn_icmp_gt (k' := 34) rfl rfl (fun hc1 => ?_) (fun hc1 => ?_)
    · exfalso; omega
    · skip
      refine rn_aload_n (k' := 35) rfl rfl rfl ?_
      refine rn_getR (k' := 36) rfl rfl K0_0 (by decide) rfl R0_0_9 ?_
      refine rn_iload_n (k' := 37) rfl rfl rfl ?_
      refine rn_iload (k' := 38) rfl rfl rfl ?_
      by_cases hq2 : ¬ g_steps μ a b (n : Int) w = -1
      · refine rn_callP (k' := 39) (y := 19) (vs := [mR 74, mI (b), mI ((n : Int))]) (S' := []) (v := some (mI 1)) (h' := mkh μ c s) rfl rfl rfl (by have hz : Cl PT 19 [mR 74, mI (b), mI ((n : Int))] (mkh μ c s) (fun r => r = (some (some (mI (if ¬ g_steps μ a b (n : Int) w = -1 then 1 else 0))), mkh μ c s)) := k_passesWith hL (a := a) (w := w) (x := b) (t := (n : Int)) hMP hx (by omega) (μ := μ) (c := c) (s := s); rw [if_pos hq2] at hz; exact hz) ?_
        show Rn PT none kX11_passes 39 [some (mR 0), some (mI (a)), some (mI (b)), some (mI (x1)), some (mI (wh)), some (mI (pN (fun v : Nat => ¬ g_steps μ a b (v : Int) w = -1) n)), some (mI (pL (fun v : Nat => ¬ g_steps μ a b (v : Int) w = -1) n)), some (mI (pG (fun v : Nat => ¬ g_steps μ a b (v : Int) w = -1) n)), some (mI ((n : Int)))] [mI (1)] (mkh μ c s) _
        refine rn_if_eq (k' := 40) rfl rfl (fun hc3 => ?_) (fun hc3 => ?_)
        · exfalso; omega
        · skip
          refine rn_iinc (k' := 41) (L' := [some (mR 0), some (mI (a)), some (mI (b)), some (mI (x1)), some (mI (wh)), some (mI (pN (fun v : Nat => ¬ g_steps μ a b (v : Int) w = -1) n + 1)), some (mI (pL (fun v : Nat => ¬ g_steps μ a b (v : Int) w = -1) n)), some (mI (pG (fun v : Nat => ¬ g_steps μ a b (v : Int) w = -1) n)), some (mI ((n : Int)))]) rfl rfl rfl (by omega) rfl ?_
          refine rn_iload (k' := 42) rfl rfl rfl ?_
          refine rn_iconst (k' := 43) rfl rfl ?_
          refine rn_icmp_ne (k' := 44) rfl rfl (fun hc4 => ?_) (fun hc4 => ?_)
          · skip
            refine rn_iload (k' := 47) rfl rfl rfl ?_
            refine rn_istore (k' := 48) (L' := [some (mR 0), some (mI (a)), some (mI (b)), some (mI (x1)), some (mI (wh)), some (mI (pN (fun v : Nat => ¬ g_steps μ a b (v : Int) w = -1) n + 1)), some (mI (pL (fun v : Nat => ¬ g_steps μ a b (v : Int) w = -1) n)), some (mI (pG (fun v : Nat => ¬ g_steps μ a b (v : Int) w = -1) n)), some (mI ((n : Int)))]) rfl rfl (Nat.le_of_ble_eq_true rfl) rfl ?_
            refine rn_iload (k' := 49) rfl rfl rfl ?_
            refine rn_istore (k' := 50) (L' := [some (mR 0), some (mI (a)), some (mI (b)), some (mI (x1)), some (mI (wh)), some (mI (pN (fun v : Nat => ¬ g_steps μ a b (v : Int) w = -1) n + 1)), some (mI (pL (fun v : Nat => ¬ g_steps μ a b (v : Int) w = -1) n)), some (mI ((n : Int))), some (mI ((n : Int)))]) rfl rfl (Nat.le_of_ble_eq_true rfl) rfl ?_
            refine rn_iinc (k' := 51) (L' := [some (mR 0), some (mI (a)), some (mI (b)), some (mI (x1)), some (mI (wh)), some (mI (pN (fun v : Nat => ¬ g_steps μ a b (v : Int) w = -1) n + 1)), some (mI (pL (fun v : Nat => ¬ g_steps μ a b (v : Int) w = -1) n)), some (mI ((n : Int))), some (mI ((n : Int) + 1))]) rfl rfl rfl (by omega) rfl ?_
            refine rn_goto rfl ?_
            exact ih (n + 1) _ _ _ _ (by show _ = pN (fun v : Nat => ¬ g_steps μ a b (v : Int) w = -1) n + (if _ then _ else _); rw [if_pos (by assumption)]) (by show _ = (if _ then (if _ then _ else _) else _); rw [if_pos (by assumption), if_neg (by omega)]) (by show _ = (if _ then _ else _); rw [if_pos (by assumption)]) (by omega) (by omega)
          · skip
            refine rn_iload (k' := 45) rfl rfl rfl ?_
            refine rn_goto rfl ?_
            refine rn_istore (k' := 48) (L' := [some (mR 0), some (mI (a)), some (mI (b)), some (mI (x1)), some (mI (wh)), some (mI (pN (fun v : Nat => ¬ g_steps μ a b (v : Int) w = -1) n + 1)), some (mI ((n : Int))), some (mI (pG (fun v : Nat => ¬ g_steps μ a b (v : Int) w = -1) n)), some (mI ((n : Int)))]) rfl rfl (Nat.le_of_ble_eq_true rfl) rfl ?_
            refine rn_iload (k' := 49) rfl rfl rfl ?_
            refine rn_istore (k' := 50) (L' := [some (mR 0), some (mI (a)), some (mI (b)), some (mI (x1)), some (mI (wh)), some (mI (pN (fun v : Nat => ¬ g_steps μ a b (v : Int) w = -1) n + 1)), some (mI ((n : Int))), some (mI ((n : Int))), some (mI ((n : Int)))]) rfl rfl (Nat.le_of_ble_eq_true rfl) rfl ?_
            refine rn_iinc (k' := 51) (L' := [some (mR 0), some (mI (a)), some (mI (b)), some (mI (x1)), some (mI (wh)), some (mI (pN (fun v : Nat => ¬ g_steps μ a b (v : Int) w = -1) n + 1)), some (mI ((n : Int))), some (mI ((n : Int))), some (mI ((n : Int) + 1))]) rfl rfl rfl (by omega) rfl ?_
            refine rn_goto rfl ?_
            exact ih (n + 1) _ _ _ _ (by show _ = pN (fun v : Nat => ¬ g_steps μ a b (v : Int) w = -1) n + (if _ then _ else _); rw [if_pos (by assumption)]) (by show _ = (if _ then (if _ then _ else _) else _); rw [if_pos (by assumption), if_pos (by omega)]) (by show _ = (if _ then _ else _); rw [if_pos (by assumption)]) (by omega) (by omega)
      · refine rn_callP (k' := 39) (y := 19) (vs := [mR 74, mI (b), mI ((n : Int))]) (S' := []) (v := some (mI 0)) (h' := mkh μ c s) rfl rfl rfl (by have hz : Cl PT 19 [mR 74, mI (b), mI ((n : Int))] (mkh μ c s) (fun r => r = (some (some (mI (if ¬ g_steps μ a b (n : Int) w = -1 then 1 else 0))), mkh μ c s)) := k_passesWith hL (a := a) (w := w) (x := b) (t := (n : Int)) hMP hx (by omega) (μ := μ) (c := c) (s := s); rw [if_neg hq2] at hz; exact hz) ?_
        show Rn PT none kX11_passes 39 [some (mR 0), some (mI (a)), some (mI (b)), some (mI (x1)), some (mI (wh)), some (mI (pN (fun v : Nat => ¬ g_steps μ a b (v : Int) w = -1) n)), some (mI (pL (fun v : Nat => ¬ g_steps μ a b (v : Int) w = -1) n)), some (mI (pG (fun v : Nat => ¬ g_steps μ a b (v : Int) w = -1) n)), some (mI ((n : Int)))] [mI (0)] (mkh μ c s) _
        refine rn_if_eq (k' := 40) rfl rfl (fun hc5 => ?_) (fun hc5 => ?_)
        · skip
          refine rn_iinc (k' := 51) (L' := [some (mR 0), some (mI (a)), some (mI (b)), some (mI (x1)), some (mI (wh)), some (mI (pN (fun v : Nat => ¬ g_steps μ a b (v : Int) w = -1) n)), some (mI (pL (fun v : Nat => ¬ g_steps μ a b (v : Int) w = -1) n)), some (mI (pG (fun v : Nat => ¬ g_steps μ a b (v : Int) w = -1) n)), some (mI ((n : Int) + 1))]) rfl rfl rfl (by omega) rfl ?_
          refine rn_goto rfl ?_
          exact ih (n + 1) _ _ _ _ (by show _ = pN (fun v : Nat => ¬ g_steps μ a b (v : Int) w = -1) n + (if _ then _ else _); rw [if_neg (by assumption), Int.add_zero]) (by show _ = (if _ then _ else _); rw [if_neg (by assumption)]) (by show _ = (if _ then _ else _); rw [if_neg (by assumption)]) (by omega) (by omega)
        · exfalso; omega
theorem i_X11_passes {μ : Nat → Nat → Int} {c s : Nat} (hL : I_land μ) (hS : I_scene μ) {a0 a1 a2 a3 : Int} (h0 : i32 a0) (h1 : i32 a1) (h2 : i32 a2) (h3 : i32 a3) (hv : ¬ (g_cell μ a0 ∧ g_cell μ a1 ∧ (0 ≤ a2 ∧ a2 ≤ 29) ∧ 0 ≤ a3 ∧ a3 ≤ 2)) : Cl PT 121 [mR 0, mI a0, mI a1, mI a2, mI a3] (mkh μ c s) (fun r => r = (some (some (mI (-1))), mkh μ c s)) := by
  have hL_ := hL
  obtain ⟨lc, lr, le, lm, lw, lh, lwo, lwd, q0, q1, q2, q3, q4, q8, q499, q500, lth, lG, lT, lW, -⟩ := hL_
  have hS_ := hS
  obtain ⟨sd, sw, stk, s4, s5, s6, hC, hH, -, s10, sce, swc, s13⟩ := hS_
  refine ⟨_, PT_121, Nat.le_of_ble_eq_true rfl, ?_⟩
  show Rn PT none kX11_passes 0 [some (mR 0), some (mI (a0)), some (mI (a1)), some (mI (a2)), some (mI (a3)), none, none, none, none] [] (mkh μ c s) _
  refine rn_aload_n (k' := 1) rfl rfl rfl ?_
  refine rn_iload_n (k' := 2) rfl rfl rfl ?_
  refine rn_iload_n (k' := 3) rfl rfl rfl ?_
  refine rn_iconst (k' := 4) rfl rfl ?_
  refine rn_iload_n (k' := 5) rfl rfl rfl ?_
  by_cases hq1 : g_cell μ a0 ∧ g_cell μ a1 ∧ (0 ≤ (0 : Int) ∧ (0 : Int) ≤ 99) ∧ 0 ≤ a2 ∧ a2 ≤ 29
  · refine rn_callP (k' := 6) (y := 155) (vs := [mR 0, mI (a0), mI (a1), mI (0), mI (a2)]) (S' := []) (v := some (mI 1)) (h' := mkh μ c s) rfl rfl rfl (by have hz : Cl PT 155 [mR 0, mI (a0), mI (a1), mI (0), mI (a2)] (mkh μ c s) (fun r => r = (some (some (mI (if g_cell μ a0 ∧ g_cell μ a1 ∧ (0 ≤ (0 : Int) ∧ (0 : Int) ≤ 99) ∧ 0 ≤ a2 ∧ a2 ≤ 29 then 1 else 0))), mkh μ c s)) := c_X11_areSuch (hL) (a := a0) (b := a1) (t := 0) (d := a2) (by omega) (by omega) (μ := μ) (c := c) (s := s); rw [if_pos hq1] at hz; exact hz) ?_
    show Rn PT none kX11_passes 6 [some (mR 0), some (mI (a0)), some (mI (a1)), some (mI (a2)), some (mI (a3)), none, none, none, none] [mI (1)] (mkh μ c s) _
    refine rn_if_eq (k' := 7) rfl rfl (fun hc2 => ?_) (fun hc2 => ?_)
    · exfalso; omega
    · skip
      refine rn_iload (k' := 8) rfl rfl rfl ?_
      refine rn_if_lt (k' := 9) rfl rfl (fun hc3 => ?_) (fun hc3 => ?_)
      · skip
        refine rn_iconst (k' := 13) rfl rfl ?_
        refine rn_iret rfl (Or.inl rfl) ?_
        rfl
      · skip
        refine rn_iload (k' := 10) rfl rfl rfl ?_
        refine rn_iconst (k' := 11) rfl rfl ?_
        refine rn_icmp_le (k' := 12) rfl rfl (fun hc4 => ?_) (fun hc4 => ?_)
        · skip
          refine rn_aload_n (k' := 15) rfl rfl rfl ?_
          refine rn_getR (k' := 16) rfl rfl K0_0 (by decide) rfl R0_0_9 ?_
          refine rn_iload_n (k' := 17) rfl rfl rfl ?_
          refine rn_aload_n (k' := 18) rfl rfl rfl ?_
          refine rn_getR (k' := 19) rfl rfl K0_0 (by decide) rfl R0_0_3 ?_
          refine rn_iconst (k' := 20) rfl rfl ?_
          refine rn_iload_n (k' := 21) rfl rfl rfl ?_
          exfalso; omega
        · skip
          refine rn_iconst (k' := 13) rfl rfl ?_
          refine rn_iret rfl (Or.inl rfl) ?_
          rfl
  · refine rn_callP (k' := 6) (y := 155) (vs := [mR 0, mI (a0), mI (a1), mI (0), mI (a2)]) (S' := []) (v := some (mI 0)) (h' := mkh μ c s) rfl rfl rfl (by have hz : Cl PT 155 [mR 0, mI (a0), mI (a1), mI (0), mI (a2)] (mkh μ c s) (fun r => r = (some (some (mI (if g_cell μ a0 ∧ g_cell μ a1 ∧ (0 ≤ (0 : Int) ∧ (0 : Int) ≤ 99) ∧ 0 ≤ a2 ∧ a2 ≤ 29 then 1 else 0))), mkh μ c s)) := c_X11_areSuch (hL) (a := a0) (b := a1) (t := 0) (d := a2) (by omega) (by omega) (μ := μ) (c := c) (s := s); rw [if_neg hq1] at hz; exact hz) ?_
    show Rn PT none kX11_passes 6 [some (mR 0), some (mI (a0)), some (mI (a1)), some (mI (a2)), some (mI (a3)), none, none, none, none] [mI (0)] (mkh μ c s) _
    refine rn_if_eq (k' := 7) rfl rfl (fun hc5 => ?_) (fun hc5 => ?_)
    · skip
      refine rn_iconst (k' := 13) rfl rfl ?_
      refine rn_iret rfl (Or.inl rfl) ?_
      rfl
    · exfalso; omega
theorem i_X12_passes {μ : Nat → Nat → Int} {c s : Nat} (hL : I_land μ) (hS : I_scene μ) {a0 a1 a2 a3 : Int} (h0 : i32 a0) (h1 : i32 a1) (h2 : i32 a2) (h3 : i32 a3) (hv : ¬ (g_cell μ a0 ∧ g_cell μ a1 ∧ (0 ≤ a2 ∧ a2 ≤ 29) ∧ 0 ≤ a3 ∧ a3 ≤ 2)) : Cl PT 225 [mR 118, mI a0, mI a1, mI a2, mI a3] (mkh μ c s) (fun r => r = (some (some (mI (-1))), mkh (m_set μ 118 0 0) c s)) := by
  have hL_ := hL
  obtain ⟨lc, lr, le, lm, lw, lh, lwo, lwd, q0, q1, q2, q3, q4, q8, q499, q500, lth, lG, lT, lW, -⟩ := hL_
  have hS_ := hS
  obtain ⟨sd, sw, stk, s4, s5, s6, hC, hH, -, s10, sce, swc, s13⟩ := hS_
  refine ⟨_, PT_225, Nat.le_of_ble_eq_true rfl, ?_⟩
  show Rn PT none kX12_passes 0 [some (mR 118), some (mI (a0)), some (mI (a1)), some (mI (a2)), some (mI (a3)), none, none, none, none] [] (mkh μ c s) _
  refine rn_aload_n (k' := 1) rfl rfl rfl ?_
  refine rn_iconst (k' := 2) rfl rfl ?_
  refine rn_putI (k' := 3) rfl rfl K0_118 (by decide) rfl ?_
  refine rn_aload_n (k' := 4) rfl rfl rfl ?_
  refine rn_iload_n (k' := 5) rfl rfl rfl ?_
  refine rn_iload_n (k' := 6) rfl rfl rfl ?_
  refine rn_iconst (k' := 7) rfl rfl ?_
  refine rn_iload_n (k' := 8) rfl rfl rfl ?_
  by_cases hq2 : g_cell μ a0 ∧ g_cell μ a1 ∧ (0 ≤ (0 : Int) ∧ (0 : Int) ≤ 99) ∧ 0 ≤ a2 ∧ a2 ≤ 29
  · refine rn_callP (k' := 9) (y := 214) (vs := [mR 118, mI (a0), mI (a1), mI (0), mI (a2)]) (S' := []) (v := some (mI 1)) (h' := mkh (m_set μ 118 0 (0)) c s) rfl rfl rfl (by have hz : Cl PT 214 [mR 118, mI (a0), mI (a1), mI (0), mI (a2)] (mkh (m_set μ 118 0 (0)) c s) (fun r => r = (some (some (mI (if g_cell μ a0 ∧ g_cell μ a1 ∧ (0 ≤ (0 : Int) ∧ (0 : Int) ≤ 99) ∧ 0 ≤ a2 ∧ a2 ≤ 29 then 1 else 0))), mkh (m_set μ 118 0 (0)) c s)) := c_X12_areAll ((hL).set rfl) (a := a0) (b := a1) (t := 0) (d := a2) (by omega) (by omega) (μ := (m_set μ 118 0 (0))) (c := c) (s := s); rw [if_pos hq2] at hz; exact hz) ?_
    show Rn PT none kX12_passes 9 [some (mR 118), some (mI (a0)), some (mI (a1)), some (mI (a2)), some (mI (a3)), none, none, none, none] [mI (1)] (mkh (m_set μ 118 0 (0)) c s) _
    refine rn_if_eq (k' := 10) rfl rfl (fun hc3 => ?_) (fun hc3 => ?_)
    · exfalso; omega
    · skip
      refine rn_iload (k' := 11) rfl rfl rfl ?_
      refine rn_iconst (k' := 12) rfl rfl ?_
      refine rn_iconst (k' := 13) rfl rfl ?_
      by_cases hq4 : 0 ≤ a3 ∧ a3 ≤ 2
      · refine rn_callP (k' := 14) (y := 167) (vs := [mI (a3), mI (0), mI (2)]) (S' := []) (v := some (mI 1)) (h' := mkh (m_set μ 118 0 (0)) c s) rfl rfl rfl (by have hz : Cl PT 167 [mI (a3), mI (0), mI (2)] (mkh (m_set μ 118 0 (0)) c s) (fun r => r = (some (some (mI (if 0 ≤ a3 ∧ a3 ≤ 2 then 1 else 0))), mkh (m_set μ 118 0 (0)) c s)) := c_X12_isIn (v := a3) (lo := 0) (hi := 2) (μ := (m_set μ 118 0 (0))) (c := c) (s := s); rw [if_pos hq4] at hz; exact hz) ?_
        show Rn PT none kX12_passes 14 [some (mR 118), some (mI (a0)), some (mI (a1)), some (mI (a2)), some (mI (a3)), none, none, none, none] [mI (1)] (mkh (m_set μ 118 0 (0)) c s) _
        refine rn_if_ne (k' := 15) rfl rfl (fun hc5 => ?_) (fun hc5 => ?_)
        · skip
          refine rn_aload_n (k' := 18) rfl rfl rfl ?_
          refine rn_iload_n (k' := 19) rfl rfl rfl ?_
          exfalso; omega
        · exfalso; omega
      · refine rn_callP (k' := 14) (y := 167) (vs := [mI (a3), mI (0), mI (2)]) (S' := []) (v := some (mI 0)) (h' := mkh (m_set μ 118 0 (0)) c s) rfl rfl rfl (by have hz : Cl PT 167 [mI (a3), mI (0), mI (2)] (mkh (m_set μ 118 0 (0)) c s) (fun r => r = (some (some (mI (if 0 ≤ a3 ∧ a3 ≤ 2 then 1 else 0))), mkh (m_set μ 118 0 (0)) c s)) := c_X12_isIn (v := a3) (lo := 0) (hi := 2) (μ := (m_set μ 118 0 (0))) (c := c) (s := s); rw [if_neg hq4] at hz; exact hz) ?_
        show Rn PT none kX12_passes 14 [some (mR 118), some (mI (a0)), some (mI (a1)), some (mI (a2)), some (mI (a3)), none, none, none, none] [mI (0)] (mkh (m_set μ 118 0 (0)) c s) _
        refine rn_if_ne (k' := 15) rfl rfl (fun hc6 => ?_) (fun hc6 => ?_)
        · exfalso; omega
        · skip
          refine rn_iconst (k' := 16) rfl rfl ?_
          refine rn_iret rfl (Or.inl rfl) ?_
          rfl
  · refine rn_callP (k' := 9) (y := 214) (vs := [mR 118, mI (a0), mI (a1), mI (0), mI (a2)]) (S' := []) (v := some (mI 0)) (h' := mkh (m_set μ 118 0 (0)) c s) rfl rfl rfl (by have hz : Cl PT 214 [mR 118, mI (a0), mI (a1), mI (0), mI (a2)] (mkh (m_set μ 118 0 (0)) c s) (fun r => r = (some (some (mI (if g_cell μ a0 ∧ g_cell μ a1 ∧ (0 ≤ (0 : Int) ∧ (0 : Int) ≤ 99) ∧ 0 ≤ a2 ∧ a2 ≤ 29 then 1 else 0))), mkh (m_set μ 118 0 (0)) c s)) := c_X12_areAll ((hL).set rfl) (a := a0) (b := a1) (t := 0) (d := a2) (by omega) (by omega) (μ := (m_set μ 118 0 (0))) (c := c) (s := s); rw [if_neg hq2] at hz; exact hz) ?_
    show Rn PT none kX12_passes 9 [some (mR 118), some (mI (a0)), some (mI (a1)), some (mI (a2)), some (mI (a3)), none, none, none, none] [mI (0)] (mkh (m_set μ 118 0 (0)) c s) _
    refine rn_if_eq (k' := 10) rfl rfl (fun hc7 => ?_) (fun hc7 => ?_)
    · skip
      refine rn_iconst (k' := 16) rfl rfl ?_
      refine rn_iret rfl (Or.inl rfl) ?_
      rfl
    · exfalso; omega
set_option maxHeartbeats 4000000 in
theorem t_X11_passes {μ : Nat → Nat → Int} {c s : Nat} (hL : I_land μ) (hS : I_scene μ) {a0 a1 a2 a3 : Int} (h0 : i32 a0) (h1 : i32 a1) (h2 : i32 a2) (h3 : i32 a3) : Cl PT 121 [mR 0, mI a0, mI a1, mI a2, mI a3] (mkh μ c s) (fun r => ∃ μ1, r = (some (some (mI (if g_cell μ a0 ∧ g_cell μ a1 ∧ (0 ≤ a2 ∧ a2 ≤ 29) ∧ 0 ≤ a3 ∧ a3 ≤ 2 then if a3 = 0 then pN (fun v : Nat => ¬ g_steps μ a0 a1 (v : Int) (g_w μ 0 a2) = -1) 100 else if a3 = 1 then pL (fun v : Nat => ¬ g_steps μ a0 a1 (v : Int) (g_w μ 0 a2) = -1) 100 else pG (fun v : Nat => ¬ g_steps μ a0 a1 (v : Int) (g_w μ 0 a2) = -1) 100 else -1))), mkh μ1 c s) ∧ rst μ1 = rst μ) := by
  have hL_ := hL
  obtain ⟨lc, lr, le, lm, lw, lh, lwo, lwd, q0, q1, q2, q3, q4, q8, q499, q500, lth, lG, lT, lW, -⟩ := hL_
  have hS_ := hS
  obtain ⟨sd, sw, stk, s4, s5, s6, hC, hH, -, s10, sce, swc, s13⟩ := hS_
  by_cases hv : g_cell μ a0 ∧ g_cell μ a1 ∧ (0 ≤ a2 ∧ a2 ≤ 29) ∧ 0 ≤ a3 ∧ a3 ≤ 2
  · rw [if_pos hv]
    have hv_ := hv
    obtain ⟨hv1, hv2, hv3, hv4⟩ := hv_
    refine ⟨_, PT_121, Nat.le_of_ble_eq_true rfl, ?_⟩
    show Rn PT none kX11_passes 0 [some (mR 0), some (mI (a0)), some (mI (a1)), some (mI (a2)), some (mI (a3)), none, none, none, none] [] (mkh μ c s) _
    refine rn_aload_n (k' := 1) rfl rfl rfl ?_
    refine rn_iload_n (k' := 2) rfl rfl rfl ?_
    refine rn_iload_n (k' := 3) rfl rfl rfl ?_
    refine rn_iconst (k' := 4) rfl rfl ?_
    refine rn_iload_n (k' := 5) rfl rfl rfl ?_
    by_cases hq1 : g_cell μ a0 ∧ g_cell μ a1 ∧ (0 ≤ (0 : Int) ∧ (0 : Int) ≤ 99) ∧ 0 ≤ a2 ∧ a2 ≤ 29
    · refine rn_callP (k' := 6) (y := 155) (vs := [mR 0, mI (a0), mI (a1), mI (0), mI (a2)]) (S' := []) (v := some (mI 1)) (h' := mkh μ c s) rfl rfl rfl (by have hz : Cl PT 155 [mR 0, mI (a0), mI (a1), mI (0), mI (a2)] (mkh μ c s) (fun r => r = (some (some (mI (if g_cell μ a0 ∧ g_cell μ a1 ∧ (0 ≤ (0 : Int) ∧ (0 : Int) ≤ 99) ∧ 0 ≤ a2 ∧ a2 ≤ 29 then 1 else 0))), mkh μ c s)) := c_X11_areSuch (hL) (a := a0) (b := a1) (t := 0) (d := a2) (by omega) (by omega) (μ := μ) (c := c) (s := s); rw [if_pos hq1] at hz; exact hz) ?_
      show Rn PT none kX11_passes 6 [some (mR 0), some (mI (a0)), some (mI (a1)), some (mI (a2)), some (mI (a3)), none, none, none, none] [mI (1)] (mkh μ c s) _
      refine rn_if_eq (k' := 7) rfl rfl (fun hc2 => ?_) (fun hc2 => ?_)
      · exfalso; omega
      · skip
        refine rn_iload (k' := 8) rfl rfl rfl ?_
        refine rn_if_lt (k' := 9) rfl rfl (fun hc3 => ?_) (fun hc3 => ?_)
        · exfalso; omega
        · skip
          refine rn_iload (k' := 10) rfl rfl rfl ?_
          refine rn_iconst (k' := 11) rfl rfl ?_
          refine rn_icmp_le (k' := 12) rfl rfl (fun hc4 => ?_) (fun hc4 => ?_)
          · skip
            refine rn_aload_n (k' := 15) rfl rfl rfl ?_
            refine rn_getR (k' := 16) rfl rfl K0_0 (by decide) rfl R0_0_9 ?_
            refine rn_iload_n (k' := 17) rfl rfl rfl ?_
            refine rn_aload_n (k' := 18) rfl rfl rfl ?_
            refine rn_getR (k' := 19) rfl rfl K0_0 (by decide) rfl R0_0_3 ?_
            refine rn_iconst (k' := 20) rfl rfl ?_
            refine rn_iload_n (k' := 21) rfl rfl rfl ?_
            have hb5 := g_w_b hL 0 a2
            refine rn_callP (k' := 22) (y := 32) (vs := [mR 6, mI (0), mI (a2)]) (S' := [mI (a0), mR 74]) (v := some (mI (g_w μ 0 a2))) (h' := mkh μ c s) rfl rfl rfl (k_weatherOn (μ := μ) (hL) (by omega) (by omega)) ?_
            show Rn PT none kX11_passes 22 [some (mR 0), some (mI (a0)), some (mI (a1)), some (mI (a2)), some (mI (a3)), none, none, none, none] [mI (g_w μ 0 a2), mI (a0), mR 74] (mkh μ c s) _
            obtain ⟨M, ⟨hMr, hM0⟩, hcl⟩ := c_passFrom (μ := μ) (c := c) (s := s) hL (a := a0) (w := g_w μ 0 a2) (by assumption) (by omega)
            have hMP := pf_of hMr hM0
            have hrT := rm_rst hMr
            have hLM := land_rows hL hrT
            have hSM := scene_rows hS hrT
            have e6 := row_rst hMr (a := 6) (fun _ => rfl)
            have e14 := row_rst hMr (a := 14) (fun _ => rfl)
            have e15 := row_rst hMr (a := 15) (fun _ => rfl)
            have e16 := row_rst hMr (a := 16) (fun _ => rfl)
            have e10 := row_rst hMr (a := 10) (fun _ => rfl)
            refine rn_callP (k' := 23) (y := 18) (vs := [mR 74, mI (a0), mI (g_w μ 0 a2)]) (S' := []) (v := none) (h' := mkh M c s) rfl rfl rfl (hcl) ?_
            show Rn PT none kX11_passes 23 [some (mR 0), some (mI (a0)), some (mI (a1)), some (mI (a2)), some (mI (a3)), none, none, none, none] [] (mkh M c s) _
            refine rn_iconst (k' := 24) rfl rfl ?_
            refine rn_istore (k' := 25) (L' := [some (mR 0), some (mI (a0)), some (mI (a1)), some (mI (a2)), some (mI (a3)), some (mI (0)), none, none, none]) rfl rfl (Nat.le_of_ble_eq_true rfl) rfl ?_
            refine rn_iconst (k' := 26) rfl rfl ?_
            refine rn_istore (k' := 27) (L' := [some (mR 0), some (mI (a0)), some (mI (a1)), some (mI (a2)), some (mI (a3)), some (mI (0)), some (mI (-1)), none, none]) rfl rfl (Nat.le_of_ble_eq_true rfl) rfl ?_
            refine rn_iconst (k' := 28) rfl rfl ?_
            refine rn_istore (k' := 29) (L' := [some (mR 0), some (mI (a0)), some (mI (a1)), some (mI (a2)), some (mI (a3)), some (mI (0)), some (mI (-1)), some (mI (-1)), none]) rfl rfl (Nat.le_of_ble_eq_true rfl) rfl ?_
            refine rn_iconst (k' := 30) rfl rfl ?_
            refine rn_istore (k' := 31) (L' := [some (mR 0), some (mI (a0)), some (mI (a1)), some (mI (a2)), some (mI (a3)), some (mI (0)), some (mI (-1)), some (mI (-1)), some (mI (0))]) rfl rfl (Nat.le_of_ble_eq_true rfl) rfl ?_
            have h := l_X11_passes (μ := M) (c := c) (s := s) hLM (a := a0) (b := a1) (w := g_w μ 0 a2) (by unfold g_cell; rw [e6]; exact hv2) hMP (x1 := a2) (wh := a3) hv4 100 0 _ _ _ _ rfl rfl rfl rfl (by omega)
            rw [g_steps_rows e6 (row_rst hMr (a := 7) (fun _ => rfl)) (row_rst hMr (a := 8) (fun _ => rfl))] at h
            exact h.mono (fun r hr => ⟨M, hr, hMr⟩)
          · exfalso; omega
    · exfalso; omega
  · rw [if_neg hv]
    exact (i_X11_passes hL hS h0 h1 h2 h3 hv).mono (fun r hr => ⟨_, hr, rfl⟩)
set_option maxHeartbeats 4000000 in
theorem l_X12_passes {μ : Nat → Nat → Int} {c s : Nat} (hL : I_land μ) (hS : I_scene μ) {a0 a1 a2 a3 : Int} (hv1 : g_cell μ a0) (hv2 : g_cell μ a1) (hv3 : 0 ≤ a2 ∧ a2 ≤ 29) (hv4 : 0 ≤ a3 ∧ a3 ≤ 2) : ∀ (d n : Nat) (ac : Int) (le : Int) (gr : Int) (k : Int) (F : Nat → Int) (q : Nat → Int), ac = pN (fun v : Nat => ¬ g_steps μ a0 a1 (v : Int) (g_w μ 0 a2) = -1) n → le = pL (fun v : Nat => ¬ g_steps μ a0 a1 (v : Int) (g_w μ 0 a2) = -1) n → gr = pG (fun v : Nat => ¬ g_steps μ a0 a1 (v : Int) (g_w μ 0 a2) = -1) n → k = (n : Int) → n + d = 100 → Rn PT none kX12_passes 28 [some (mR 118), some (mI (a0)), some (mI (a1)), some (mI (a2)), some (mI (a3)), some (mI (ac)), some (mI (le)), some (mI (gr)), some (mI (k))] [] (mkh (m_upd (m_upd (m_set (m_set (m_set μ 118 0 (0)) 118 22 (g_w μ 0 a2)) 118 23 (g_w μ 1 a2)) 125 F) 126 q) c s) (fun r => ∃ μ1, r = (some (some (mI (if a3 = 0 then pN (fun v : Nat => ¬ g_steps μ a0 a1 (v : Int) (g_w μ 0 a2) = -1) 100 else if a3 = 1 then pL (fun v : Nat => ¬ g_steps μ a0 a1 (v : Int) (g_w μ 0 a2) = -1) 100 else pG (fun v : Nat => ¬ g_steps μ a0 a1 (v : Int) (g_w μ 0 a2) = -1) 100))), mkh μ1 c s) ∧ rst μ1 = rst μ) := by
  have hL_ := hL
  obtain ⟨lc, lr, le, lm, lw, lh, lwo, lwd, q0, q1, q2, q3, q4, q8, q499, q500, lth, lG, lT, lW, -⟩ := hL_
  have hS_ := hS
  obtain ⟨sd, sw, stk, s4, s5, s6, hC, hH, -, s10, sce, swc, s13⟩ := hS_
  have hwb := g_w_b hL 0 a2
  intro d
  induction d with
  | zero =>
    intro n ac le gr k F q eac ele egr ek hn 
    subst eac ele egr ek
    have hnb := pN_b (p := (fun v : Nat => ¬ g_steps μ a0 a1 (v : Int) (g_w μ 0 a2) = -1)) n
    have hlb := pL_b (p := (fun v : Nat => ¬ g_steps μ a0 a1 (v : Int) (g_w μ 0 a2) = -1)) n
    refine rn_iload (k' := 29) rfl rfl rfl ?_
    refine rn_bipush (k' := 30) rfl rfl ?_
    refine rn_icmp_ge (k' := 31) rfl rfl (fun hc1 => ?_) (fun hc1 => ?_)
    · skip
      refine rn_iload (k' := 50) rfl rfl rfl ?_
      refine rn_if_ne (k' := 51) rfl rfl (fun hc2 => ?_) (fun hc2 => ?_)
      · skip
        refine rn_iload (k' := 54) rfl rfl rfl ?_
        refine rn_iconst (k' := 55) rfl rfl ?_
        refine rn_icmp_ne (k' := 56) rfl rfl (fun hc3 => ?_) (fun hc3 => ?_)
        · skip
          refine rn_iload (k' := 59) rfl rfl rfl ?_
          refine rn_iret rfl (Or.inl rfl) ?_
          refine ⟨(m_upd (m_upd (m_set (m_set (m_set μ 118 0 (0)) 118 22 (g_w μ 0 a2)) 118 23 (g_w μ 1 a2)) 125 F) 126 q), ?_, ((rst_upd (a := 126) (fun _ => rfl)).trans ((rst_upd (a := 125) (fun _ => rfl)).trans ((rst_set (a := 118) (j := 23) rfl).trans ((rst_set (a := 118) (j := 22) rfl).trans (rst_set (a := 118) (j := 0) rfl)))))⟩
          refine congrArg (fun z => ((some (some (mI z)) : Option (Option MV)), mkh (m_upd (m_upd (m_set (m_set (m_set μ 118 0 (0)) 118 22 (g_w μ 0 a2)) 118 23 (g_w μ 1 a2)) 125 F) 126 q) c s)) ?_
          rw [show n = 100 by omega]
          first | rw [if_pos (by omega)] | (rw [if_neg (by omega), if_pos (by omega)]) | (rw [if_neg (by omega), if_neg (by omega)])
        · skip
          refine rn_iload (k' := 57) rfl rfl rfl ?_
          refine rn_goto rfl ?_
          refine rn_iret rfl (Or.inl rfl) ?_
          refine ⟨(m_upd (m_upd (m_set (m_set (m_set μ 118 0 (0)) 118 22 (g_w μ 0 a2)) 118 23 (g_w μ 1 a2)) 125 F) 126 q), ?_, ((rst_upd (a := 126) (fun _ => rfl)).trans ((rst_upd (a := 125) (fun _ => rfl)).trans ((rst_set (a := 118) (j := 23) rfl).trans ((rst_set (a := 118) (j := 22) rfl).trans (rst_set (a := 118) (j := 0) rfl)))))⟩
          refine congrArg (fun z => ((some (some (mI z)) : Option (Option MV)), mkh (m_upd (m_upd (m_set (m_set (m_set μ 118 0 (0)) 118 22 (g_w μ 0 a2)) 118 23 (g_w μ 1 a2)) 125 F) 126 q) c s)) ?_
          rw [show n = 100 by omega]
          first | rw [if_pos (by omega)] | (rw [if_neg (by omega), if_pos (by omega)]) | (rw [if_neg (by omega), if_neg (by omega)])
      · skip
        refine rn_iload (k' := 52) rfl rfl rfl ?_
        refine rn_goto rfl ?_
        refine rn_iret rfl (Or.inl rfl) ?_
        refine ⟨(m_upd (m_upd (m_set (m_set (m_set μ 118 0 (0)) 118 22 (g_w μ 0 a2)) 118 23 (g_w μ 1 a2)) 125 F) 126 q), ?_, ((rst_upd (a := 126) (fun _ => rfl)).trans ((rst_upd (a := 125) (fun _ => rfl)).trans ((rst_set (a := 118) (j := 23) rfl).trans ((rst_set (a := 118) (j := 22) rfl).trans (rst_set (a := 118) (j := 0) rfl)))))⟩
        refine congrArg (fun z => ((some (some (mI z)) : Option (Option MV)), mkh (m_upd (m_upd (m_set (m_set (m_set μ 118 0 (0)) 118 22 (g_w μ 0 a2)) 118 23 (g_w μ 1 a2)) 125 F) 126 q) c s)) ?_
        rw [show n = 100 by omega]
        first | rw [if_pos (by omega)] | (rw [if_neg (by omega), if_pos (by omega)]) | (rw [if_neg (by omega), if_neg (by omega)])
    · exfalso; omega
  | succ d ih =>
    intro n ac le gr k F q eac ele egr ek hn 
    subst eac ele egr ek
    have hnb := pN_b (p := (fun v : Nat => ¬ g_steps μ a0 a1 (v : Int) (g_w μ 0 a2) = -1)) n
    have hlb := pL_b (p := (fun v : Nat => ¬ g_steps μ a0 a1 (v : Int) (g_w μ 0 a2) = -1)) n
    have hnn := g_steps_nn hL (a := a0) (b := a1) (t := (n : Int)) (w := g_w μ 0 a2) hv1
    refine rn_iload (k' := 29) rfl rfl rfl ?_
    refine rn_bipush (k' := 30) rfl rfl ?_
    refine rn_icmp_ge (k' := 31) rfl rfl (fun hc1 => ?_) (fun hc1 => ?_)
    · exfalso; omega
    · skip
      refine rn_aload_n (k' := 32) rfl rfl rfl ?_
      refine rn_iload_n (k' := 33) rfl rfl rfl ?_
      refine rn_iload_n (k' := 34) rfl rfl rfl ?_
      refine rn_iload (k' := 35) rfl rfl rfl ?_
      obtain ⟨F2, q2, hF2, hcl2⟩ := c_stepsOf (μ := (m_upd (m_upd (m_set (m_set (m_set μ 118 0 (0)) 118 22 (g_w μ 0 a2)) 118 23 (g_w μ 1 a2)) 125 F) 126 q)) (c := c) (s := s) ((((((hL).set rfl).set rfl).set rfl).upd rfl).upd rfl) (by show 0 ≤ g_w μ 0 a2 ∧ g_w μ 0 a2 ≤ 1000; omega) (a := a0) (b := a1) (t := (n : Int)) (by omega) (by assumption) (by assumption)
      rw [g_steps_rows (ν := (m_upd (m_upd (m_set (m_set (m_set μ 118 0 (0)) 118 22 (g_w μ 0 a2)) 118 23 (g_w μ 1 a2)) 125 F) 126 q)) (μ := μ) rfl rfl rfl] at hcl2
      have hsb3 := g_steps_b hL (a := a0) (b := a1) (t := (n : Int)) (w := g_w μ 0 a2) (by assumption)
      refine rn_callP (k' := 36) (y := 213) (vs := [mR 118, mI (a0), mI (a1), mI ((n : Int))]) (S' := []) (v := some (mI (g_steps μ a0 a1 (n : Int) (g_w μ 0 a2)))) (h' := mkh (m_upd (m_upd (m_upd (m_upd (m_set (m_set (m_set μ 118 0 (0)) 118 22 (g_w μ 0 a2)) 118 23 (g_w μ 1 a2)) 125 F) 126 q) 125 F2) 126 q2) c s) rfl rfl rfl (hcl2) ?_
      show Rn PT none kX12_passes 36 [some (mR 118), some (mI (a0)), some (mI (a1)), some (mI (a2)), some (mI (a3)), some (mI (pN (fun v : Nat => ¬ g_steps μ a0 a1 (v : Int) (g_w μ 0 a2) = -1) n)), some (mI (pL (fun v : Nat => ¬ g_steps μ a0 a1 (v : Int) (g_w μ 0 a2) = -1) n)), some (mI (pG (fun v : Nat => ¬ g_steps μ a0 a1 (v : Int) (g_w μ 0 a2) = -1) n)), some (mI ((n : Int)))] [mI (g_steps μ a0 a1 (n : Int) (g_w μ 0 a2))] (mkh (m_upd (m_upd (m_upd (m_upd (m_set (m_set (m_set μ 118 0 (0)) 118 22 (g_w μ 0 a2)) 118 23 (g_w μ 1 a2)) 125 F) 126 q) 125 F2) 126 q2) c s) _
      refine rn_if_ge (k' := 37) rfl rfl (fun hc4 => ?_) (fun hc4 => ?_)
      · skip
        refine rn_iinc (k' := 39) (L' := [some (mR 118), some (mI (a0)), some (mI (a1)), some (mI (a2)), some (mI (a3)), some (mI (pN (fun v : Nat => ¬ g_steps μ a0 a1 (v : Int) (g_w μ 0 a2) = -1) n + 1)), some (mI (pL (fun v : Nat => ¬ g_steps μ a0 a1 (v : Int) (g_w μ 0 a2) = -1) n)), some (mI (pG (fun v : Nat => ¬ g_steps μ a0 a1 (v : Int) (g_w μ 0 a2) = -1) n)), some (mI ((n : Int)))]) rfl rfl rfl (by omega) rfl ?_
        refine rn_iload (k' := 40) rfl rfl rfl ?_
        refine rn_if_ge (k' := 41) rfl rfl (fun hc5 => ?_) (fun hc5 => ?_)
        · skip
          refine rn_iload (k' := 44) rfl rfl rfl ?_
          refine rn_istore (k' := 45) (L' := [some (mR 118), some (mI (a0)), some (mI (a1)), some (mI (a2)), some (mI (a3)), some (mI (pN (fun v : Nat => ¬ g_steps μ a0 a1 (v : Int) (g_w μ 0 a2) = -1) n + 1)), some (mI (pL (fun v : Nat => ¬ g_steps μ a0 a1 (v : Int) (g_w μ 0 a2) = -1) n)), some (mI (pG (fun v : Nat => ¬ g_steps μ a0 a1 (v : Int) (g_w μ 0 a2) = -1) n)), some (mI ((n : Int)))]) rfl rfl (Nat.le_of_ble_eq_true rfl) rfl ?_
          refine rn_iload (k' := 46) rfl rfl rfl ?_
          refine rn_istore (k' := 47) (L' := [some (mR 118), some (mI (a0)), some (mI (a1)), some (mI (a2)), some (mI (a3)), some (mI (pN (fun v : Nat => ¬ g_steps μ a0 a1 (v : Int) (g_w μ 0 a2) = -1) n + 1)), some (mI (pL (fun v : Nat => ¬ g_steps μ a0 a1 (v : Int) (g_w μ 0 a2) = -1) n)), some (mI ((n : Int))), some (mI ((n : Int)))]) rfl rfl (Nat.le_of_ble_eq_true rfl) rfl ?_
          refine rn_iinc (k' := 48) (L' := [some (mR 118), some (mI (a0)), some (mI (a1)), some (mI (a2)), some (mI (a3)), some (mI (pN (fun v : Nat => ¬ g_steps μ a0 a1 (v : Int) (g_w μ 0 a2) = -1) n + 1)), some (mI (pL (fun v : Nat => ¬ g_steps μ a0 a1 (v : Int) (g_w μ 0 a2) = -1) n)), some (mI ((n : Int))), some (mI ((n : Int) + 1))]) rfl rfl rfl (by omega) rfl ?_
          refine rn_goto rfl ?_
          show Rn PT none kX12_passes 28 [some (mR 118), some (mI (a0)), some (mI (a1)), some (mI (a2)), some (mI (a3)), some (mI (pN (fun v : Nat => ¬ g_steps μ a0 a1 (v : Int) (g_w μ 0 a2) = -1) n + 1)), some (mI (pL (fun v : Nat => ¬ g_steps μ a0 a1 (v : Int) (g_w μ 0 a2) = -1) n)), some (mI ((n : Int))), some (mI ((n : Int) + 1))] [] (mkh (m_upd (m_upd (m_upd (m_upd (m_set (m_set (m_set μ 118 0 (0)) 118 22 (g_w μ 0 a2)) 118 23 (g_w μ 1 a2)) 125 F) 126 q) 125 F2) 126 q2) c s) _
          rw [upd2_of (μ := (m_set (m_set (m_set μ 118 0 (0)) 118 22 (g_w μ 0 a2)) 118 23 (g_w μ 1 a2))) (ν := (m_upd (m_upd (m_upd (m_upd (m_set (m_set (m_set μ 118 0 (0)) 118 22 (g_w μ 0 a2)) 118 23 (g_w μ 1 a2)) 125 F) 126 q) 125 F2) 126 q2)) (x := 125) (y := 126) (fun b hb125 hb126 => (row_upd hb126).trans ((row_upd hb125).trans ((row_upd hb126).trans (row_upd hb125))))]
          have hye : ¬ g_steps μ a0 a1 (n : Int) (g_w μ 0 a2) = -1 := by omega
          exact ih (n + 1) _ _ _ _ _ _ (by show _ = pN (fun v : Nat => ¬ g_steps μ a0 a1 (v : Int) (g_w μ 0 a2) = -1) n + (if _ then _ else _); rw [if_pos hye]) (by show _ = (if _ then (if _ then _ else _) else _); rw [if_pos hye, if_neg (by omega)]) (by show _ = (if _ then _ else _); rw [if_pos hye]) (by omega) (by omega)
        · skip
          refine rn_iload (k' := 42) rfl rfl rfl ?_
          refine rn_goto rfl ?_
          refine rn_istore (k' := 45) (L' := [some (mR 118), some (mI (a0)), some (mI (a1)), some (mI (a2)), some (mI (a3)), some (mI (pN (fun v : Nat => ¬ g_steps μ a0 a1 (v : Int) (g_w μ 0 a2) = -1) n + 1)), some (mI ((n : Int))), some (mI (pG (fun v : Nat => ¬ g_steps μ a0 a1 (v : Int) (g_w μ 0 a2) = -1) n)), some (mI ((n : Int)))]) rfl rfl (Nat.le_of_ble_eq_true rfl) rfl ?_
          refine rn_iload (k' := 46) rfl rfl rfl ?_
          refine rn_istore (k' := 47) (L' := [some (mR 118), some (mI (a0)), some (mI (a1)), some (mI (a2)), some (mI (a3)), some (mI (pN (fun v : Nat => ¬ g_steps μ a0 a1 (v : Int) (g_w μ 0 a2) = -1) n + 1)), some (mI ((n : Int))), some (mI ((n : Int))), some (mI ((n : Int)))]) rfl rfl (Nat.le_of_ble_eq_true rfl) rfl ?_
          refine rn_iinc (k' := 48) (L' := [some (mR 118), some (mI (a0)), some (mI (a1)), some (mI (a2)), some (mI (a3)), some (mI (pN (fun v : Nat => ¬ g_steps μ a0 a1 (v : Int) (g_w μ 0 a2) = -1) n + 1)), some (mI ((n : Int))), some (mI ((n : Int))), some (mI ((n : Int) + 1))]) rfl rfl rfl (by omega) rfl ?_
          refine rn_goto rfl ?_
          show Rn PT none kX12_passes 28 [some (mR 118), some (mI (a0)), some (mI (a1)), some (mI (a2)), some (mI (a3)), some (mI (pN (fun v : Nat => ¬ g_steps μ a0 a1 (v : Int) (g_w μ 0 a2) = -1) n + 1)), some (mI ((n : Int))), some (mI ((n : Int))), some (mI ((n : Int) + 1))] [] (mkh (m_upd (m_upd (m_upd (m_upd (m_set (m_set (m_set μ 118 0 (0)) 118 22 (g_w μ 0 a2)) 118 23 (g_w μ 1 a2)) 125 F) 126 q) 125 F2) 126 q2) c s) _
          rw [upd2_of (μ := (m_set (m_set (m_set μ 118 0 (0)) 118 22 (g_w μ 0 a2)) 118 23 (g_w μ 1 a2))) (ν := (m_upd (m_upd (m_upd (m_upd (m_set (m_set (m_set μ 118 0 (0)) 118 22 (g_w μ 0 a2)) 118 23 (g_w μ 1 a2)) 125 F) 126 q) 125 F2) 126 q2)) (x := 125) (y := 126) (fun b hb125 hb126 => (row_upd hb126).trans ((row_upd hb125).trans ((row_upd hb126).trans (row_upd hb125))))]
          have hye : ¬ g_steps μ a0 a1 (n : Int) (g_w μ 0 a2) = -1 := by omega
          exact ih (n + 1) _ _ _ _ _ _ (by show _ = pN (fun v : Nat => ¬ g_steps μ a0 a1 (v : Int) (g_w μ 0 a2) = -1) n + (if _ then _ else _); rw [if_pos hye]) (by show _ = (if _ then (if _ then _ else _) else _); rw [if_pos hye, if_pos (by omega)]) (by show _ = (if _ then _ else _); rw [if_pos hye]) (by omega) (by omega)
      · skip
        refine rn_goto rfl ?_
        refine rn_iinc (k' := 48) (L' := [some (mR 118), some (mI (a0)), some (mI (a1)), some (mI (a2)), some (mI (a3)), some (mI (pN (fun v : Nat => ¬ g_steps μ a0 a1 (v : Int) (g_w μ 0 a2) = -1) n)), some (mI (pL (fun v : Nat => ¬ g_steps μ a0 a1 (v : Int) (g_w μ 0 a2) = -1) n)), some (mI (pG (fun v : Nat => ¬ g_steps μ a0 a1 (v : Int) (g_w μ 0 a2) = -1) n)), some (mI ((n : Int) + 1))]) rfl rfl rfl (by omega) rfl ?_
        refine rn_goto rfl ?_
        show Rn PT none kX12_passes 28 [some (mR 118), some (mI (a0)), some (mI (a1)), some (mI (a2)), some (mI (a3)), some (mI (pN (fun v : Nat => ¬ g_steps μ a0 a1 (v : Int) (g_w μ 0 a2) = -1) n)), some (mI (pL (fun v : Nat => ¬ g_steps μ a0 a1 (v : Int) (g_w μ 0 a2) = -1) n)), some (mI (pG (fun v : Nat => ¬ g_steps μ a0 a1 (v : Int) (g_w μ 0 a2) = -1) n)), some (mI ((n : Int) + 1))] [] (mkh (m_upd (m_upd (m_upd (m_upd (m_set (m_set (m_set μ 118 0 (0)) 118 22 (g_w μ 0 a2)) 118 23 (g_w μ 1 a2)) 125 F) 126 q) 125 F2) 126 q2) c s) _
        rw [upd2_of (μ := (m_set (m_set (m_set μ 118 0 (0)) 118 22 (g_w μ 0 a2)) 118 23 (g_w μ 1 a2))) (ν := (m_upd (m_upd (m_upd (m_upd (m_set (m_set (m_set μ 118 0 (0)) 118 22 (g_w μ 0 a2)) 118 23 (g_w μ 1 a2)) 125 F) 126 q) 125 F2) 126 q2)) (x := 125) (y := 126) (fun b hb125 hb126 => (row_upd hb126).trans ((row_upd hb125).trans ((row_upd hb126).trans (row_upd hb125))))]
        have hno : ¬ (¬ g_steps μ a0 a1 (n : Int) (g_w μ 0 a2) = -1) := fun z => by omega
        exact ih (n + 1) _ _ _ _ _ _ (by show _ = pN (fun v : Nat => ¬ g_steps μ a0 a1 (v : Int) (g_w μ 0 a2) = -1) n + (if _ then _ else _); rw [if_neg hno, Int.add_zero]) (by show _ = (if _ then _ else _); rw [if_neg hno]) (by show _ = (if _ then _ else _); rw [if_neg hno]) (by omega) (by omega)
set_option maxHeartbeats 4000000 in
theorem t_X12_passes {μ : Nat → Nat → Int} {c s : Nat} (hL : I_land μ) (hS : I_scene μ) {a0 a1 a2 a3 : Int} (h0 : i32 a0) (h1 : i32 a1) (h2 : i32 a2) (h3 : i32 a3) : Cl PT 225 [mR 118, mI a0, mI a1, mI a2, mI a3] (mkh μ c s) (fun r => ∃ μ1, r = (some (some (mI (if g_cell μ a0 ∧ g_cell μ a1 ∧ (0 ≤ a2 ∧ a2 ≤ 29) ∧ 0 ≤ a3 ∧ a3 ≤ 2 then if a3 = 0 then pN (fun v : Nat => ¬ g_steps μ a0 a1 (v : Int) (g_w μ 0 a2) = -1) 100 else if a3 = 1 then pL (fun v : Nat => ¬ g_steps μ a0 a1 (v : Int) (g_w μ 0 a2) = -1) 100 else pG (fun v : Nat => ¬ g_steps μ a0 a1 (v : Int) (g_w μ 0 a2) = -1) 100 else -1))), mkh μ1 c s) ∧ rst μ1 = rst μ) := by
  have hL_ := hL
  obtain ⟨lc, lr, le, lm, lw, lh, lwo, lwd, q0, q1, q2, q3, q4, q8, q499, q500, lth, lG, lT, lW, -⟩ := hL_
  have hS_ := hS
  obtain ⟨sd, sw, stk, s4, s5, s6, hC, hH, -, s10, sce, swc, s13⟩ := hS_
  by_cases hv : g_cell μ a0 ∧ g_cell μ a1 ∧ (0 ≤ a2 ∧ a2 ≤ 29) ∧ 0 ≤ a3 ∧ a3 ≤ 2
  · rw [if_pos hv]
    have hv_ := hv
    obtain ⟨hv1, hv2, hv3, hv4⟩ := hv_
    refine ⟨_, PT_225, Nat.le_of_ble_eq_true rfl, ?_⟩
    show Rn PT none kX12_passes 0 [some (mR 118), some (mI (a0)), some (mI (a1)), some (mI (a2)), some (mI (a3)), none, none, none, none] [] (mkh μ c s) _
    refine rn_aload_n (k' := 1) rfl rfl rfl ?_
    refine rn_iconst (k' := 2) rfl rfl ?_
    refine rn_putI (k' := 3) rfl rfl K0_118 (by decide) rfl ?_
    refine rn_aload_n (k' := 4) rfl rfl rfl ?_
    refine rn_iload_n (k' := 5) rfl rfl rfl ?_
    refine rn_iload_n (k' := 6) rfl rfl rfl ?_
    refine rn_iconst (k' := 7) rfl rfl ?_
    refine rn_iload_n (k' := 8) rfl rfl rfl ?_
    by_cases hq2 : g_cell μ a0 ∧ g_cell μ a1 ∧ (0 ≤ (0 : Int) ∧ (0 : Int) ≤ 99) ∧ 0 ≤ a2 ∧ a2 ≤ 29
    · refine rn_callP (k' := 9) (y := 214) (vs := [mR 118, mI (a0), mI (a1), mI (0), mI (a2)]) (S' := []) (v := some (mI 1)) (h' := mkh (m_set μ 118 0 (0)) c s) rfl rfl rfl (by have hz : Cl PT 214 [mR 118, mI (a0), mI (a1), mI (0), mI (a2)] (mkh (m_set μ 118 0 (0)) c s) (fun r => r = (some (some (mI (if g_cell μ a0 ∧ g_cell μ a1 ∧ (0 ≤ (0 : Int) ∧ (0 : Int) ≤ 99) ∧ 0 ≤ a2 ∧ a2 ≤ 29 then 1 else 0))), mkh (m_set μ 118 0 (0)) c s)) := c_X12_areAll ((hL).set rfl) (a := a0) (b := a1) (t := 0) (d := a2) (by omega) (by omega) (μ := (m_set μ 118 0 (0))) (c := c) (s := s); rw [if_pos hq2] at hz; exact hz) ?_
      show Rn PT none kX12_passes 9 [some (mR 118), some (mI (a0)), some (mI (a1)), some (mI (a2)), some (mI (a3)), none, none, none, none] [mI (1)] (mkh (m_set μ 118 0 (0)) c s) _
      refine rn_if_eq (k' := 10) rfl rfl (fun hc3 => ?_) (fun hc3 => ?_)
      · exfalso; omega
      · skip
        refine rn_iload (k' := 11) rfl rfl rfl ?_
        refine rn_iconst (k' := 12) rfl rfl ?_
        refine rn_iconst (k' := 13) rfl rfl ?_
        by_cases hq4 : 0 ≤ a3 ∧ a3 ≤ 2
        · refine rn_callP (k' := 14) (y := 167) (vs := [mI (a3), mI (0), mI (2)]) (S' := []) (v := some (mI 1)) (h' := mkh (m_set μ 118 0 (0)) c s) rfl rfl rfl (by have hz : Cl PT 167 [mI (a3), mI (0), mI (2)] (mkh (m_set μ 118 0 (0)) c s) (fun r => r = (some (some (mI (if 0 ≤ a3 ∧ a3 ≤ 2 then 1 else 0))), mkh (m_set μ 118 0 (0)) c s)) := c_X12_isIn (v := a3) (lo := 0) (hi := 2) (μ := (m_set μ 118 0 (0))) (c := c) (s := s); rw [if_pos hq4] at hz; exact hz) ?_
          show Rn PT none kX12_passes 14 [some (mR 118), some (mI (a0)), some (mI (a1)), some (mI (a2)), some (mI (a3)), none, none, none, none] [mI (1)] (mkh (m_set μ 118 0 (0)) c s) _
          refine rn_if_ne (k' := 15) rfl rfl (fun hc5 => ?_) (fun hc5 => ?_)
          · skip
            refine rn_aload_n (k' := 18) rfl rfl rfl ?_
            refine rn_iload_n (k' := 19) rfl rfl rfl ?_
            have hb6 := g_w_b hL 0 a2
            have hc906 := g_w_b hL 1 a2
            refine rn_callP (k' := 20) (y := 201) (vs := [mR 118, mI (a2)]) (S' := []) (v := none) (h' := mkh (m_set (m_set (m_set μ 118 0 (0)) 118 22 (g_w μ 0 a2)) 118 23 (g_w μ 1 a2)) c s) rfl rfl rfl (c_X12_of (μ := (m_set μ 118 0 (0))) ((hL).set rfl) (by omega)) ?_
            show Rn PT none kX12_passes 20 [some (mR 118), some (mI (a0)), some (mI (a1)), some (mI (a2)), some (mI (a3)), none, none, none, none] [] (mkh (m_set (m_set (m_set μ 118 0 (0)) 118 22 (g_w μ 0 a2)) 118 23 (g_w μ 1 a2)) c s) _
            refine rn_iconst (k' := 21) rfl rfl ?_
            refine rn_istore (k' := 22) (L' := [some (mR 118), some (mI (a0)), some (mI (a1)), some (mI (a2)), some (mI (a3)), some (mI (0)), none, none, none]) rfl rfl (Nat.le_of_ble_eq_true rfl) rfl ?_
            refine rn_iconst (k' := 23) rfl rfl ?_
            refine rn_istore (k' := 24) (L' := [some (mR 118), some (mI (a0)), some (mI (a1)), some (mI (a2)), some (mI (a3)), some (mI (0)), some (mI (-1)), none, none]) rfl rfl (Nat.le_of_ble_eq_true rfl) rfl ?_
            refine rn_iconst (k' := 25) rfl rfl ?_
            refine rn_istore (k' := 26) (L' := [some (mR 118), some (mI (a0)), some (mI (a1)), some (mI (a2)), some (mI (a3)), some (mI (0)), some (mI (-1)), some (mI (-1)), none]) rfl rfl (Nat.le_of_ble_eq_true rfl) rfl ?_
            refine rn_iconst (k' := 27) rfl rfl ?_
            refine rn_istore (k' := 28) (L' := [some (mR 118), some (mI (a0)), some (mI (a1)), some (mI (a2)), some (mI (a3)), some (mI (0)), some (mI (-1)), some (mI (-1)), some (mI (0))]) rfl rfl (Nat.le_of_ble_eq_true rfl) rfl ?_
            have h := l_X12_passes (c := c) (s := s) (a3 := a3) hL hS hv1 hv2 hv3 hv4 100 0 _ _ _ _ ((m_set (m_set (m_set μ 118 0 (0)) 118 22 (g_w μ 0 a2)) 118 23 (g_w μ 1 a2)) 125) ((m_set (m_set (m_set μ 118 0 (0)) 118 22 (g_w μ 0 a2)) 118 23 (g_w μ 1 a2)) 126) rfl rfl rfl rfl (by omega)
            rw [show m_upd (m_upd (m_set (m_set (m_set μ 118 0 (0)) 118 22 (g_w μ 0 a2)) 118 23 (g_w μ 1 a2)) 125 ((m_set (m_set (m_set μ 118 0 (0)) 118 22 (g_w μ 0 a2)) 118 23 (g_w μ 1 a2)) 125)) 126 ((m_set (m_set (m_set μ 118 0 (0)) 118 22 (g_w μ 0 a2)) 118 23 (g_w μ 1 a2)) 126) = (m_set (m_set (m_set μ 118 0 (0)) 118 22 (g_w μ 0 a2)) 118 23 (g_w μ 1 a2)) from by rw [upd_self]; exact upd_self] at h
            exact h
          · exfalso; omega
        · exfalso; omega
    · exfalso; omega
  · rw [if_neg hv]
    exact (i_X12_passes hL hS h0 h1 h2 h3 hv).mono (fun r hr => ⟨_, hr, rst_set rfl⟩)
theorem pair_18 : ∀ (a0 : Int), ∀ (a1 : Int), ∀ (a2 : Int), ∀ (a3 : Int), i32 a0 → i32 a1 → i32 a2 → i32 a3 → PairI (Inv N) 121 225 [mI a0, mI a1, mI a2, mI a3] := by
  intro a0 a1 a2 a3 ha0 ha1 ha2 ha3
  exact pair_of (fun μ => (if g_cell μ a0 ∧ g_cell μ a1 ∧ (0 ≤ a2 ∧ a2 ≤ 29) ∧ 0 ≤ a3 ∧ a3 ≤ 2 then if a3 = 0 then pN (fun v : Nat => ¬ g_steps μ a0 a1 (v : Int) (g_w μ 0 a2) = -1) 100 else if a3 = 1 then pL (fun v : Nat => ¬ g_steps μ a0 a1 (v : Int) (g_w μ 0 a2) = -1) 100 else pG (fun v : Nat => ¬ g_steps μ a0 a1 (v : Int) (g_w μ 0 a2) = -1) 100 else -1)) (fun μ c s hI => t_X11_passes hI.land hI.scene ha0 ha1 ha2 ha3) (fun μ c s hI => t_X12_passes hI.land hI.scene ha0 ha1 ha2 ha3) (fun μ ν h => by
    have e6 := row_rst h (a := 6) (fun _ => rfl)
    have e7 := row_rst h (a := 7) (fun _ => rfl)
    have e8 := row_rst h (a := 8) (fun _ => rfl)
    have e10 := row_rst h (a := 10) (fun _ => rfl)
    have e14 := row_rst h (a := 14) (fun _ => rfl)
    have e15 := row_rst h (a := 15) (fun _ => rfl)
    have e16 := row_rst h (a := 16) (fun _ => rfl)
    have eW : g_w ν = g_w μ := by delta g_w; rw [e10]
    have eS : g_st ν = g_st μ := by delta g_st; rw [e6]
    show (if g_cell ν a0 ∧ g_cell ν a1 ∧ (0 ≤ a2 ∧ a2 ≤ 29) ∧ 0 ≤ a3 ∧ a3 ≤ 2 then if a3 = 0 then pN (fun v : Nat => ¬ g_steps ν a0 a1 (v : Int) (g_w ν 0 a2) = -1) 100 else if a3 = 1 then pL (fun v : Nat => ¬ g_steps ν a0 a1 (v : Int) (g_w ν 0 a2) = -1) 100 else pG (fun v : Nat => ¬ g_steps ν a0 a1 (v : Int) (g_w ν 0 a2) = -1) 100 else -1) = (if g_cell μ a0 ∧ g_cell μ a1 ∧ (0 ≤ a2 ∧ a2 ≤ 29) ∧ 0 ≤ a3 ∧ a3 ≤ 2 then if a3 = 0 then pN (fun v : Nat => ¬ g_steps μ a0 a1 (v : Int) (g_w μ 0 a2) = -1) 100 else if a3 = 1 then pL (fun v : Nat => ¬ g_steps μ a0 a1 (v : Int) (g_w μ 0 a2) = -1) 100 else pG (fun v : Nat => ¬ g_steps μ a0 a1 (v : Int) (g_w μ 0 a2) = -1) 100 else -1)
    rw [g_steps_rows e6 e7 e8, eW]
    try rw [e14]
    try rw [e15]
    try rw [e16]
    try rw [eS]
    try unfold g_cell
    try rw [e6])
set_option maxHeartbeats 4000000 in
theorem l_X11_who {μ : Nat → Nat → Int} {c s : Nat} (hL : I_land μ) (hS : I_scene μ) {a b w : Int} (hx : g_cell μ b) (hMP : PF μ a w) : ∀ (d n : Nat) (ac : Int) (k : Int), ac = fO (fun k : Nat => ¬ g_steps μ a b (g_st μ (μ 16 k)) w = -1) n → k = (n : Int) → (n : Int) + d = μ 6 13 → Rn PT none kX11_who 21 [some (mR 0), some (mI (a)), some (mI (b)), some (mI (ac)), some (mI (k))] [] (mkh μ c s) (fun r => r = (some (some (mI (fO (fun k : Nat => ¬ g_steps μ a b (g_st μ (μ 16 k)) w = -1) (μ 6 13).toNat))), mkh μ c s)) := by
  have hL_ := hL
  obtain ⟨lc, lr, le, lm, lw, lh, lwo, lwd, q0, q1, q2, q3, q4, q8, q499, q500, lth, lG, lT, lW, -⟩ := hL_
  have hS_ := hS
  obtain ⟨sd, sw, stk, s4, s5, s6, hC, hH, -, s10, sce, swc, s13⟩ := hS_
  intro d
  induction d with
  | zero =>
    intro n ac k eac ek hn 
    subst eac ek
    refine rn_iload (k' := 22) rfl rfl rfl ?_
    refine rn_aload_n (k' := 23) rfl rfl rfl ?_
    refine rn_getR (k' := 24) rfl rfl K0_0 (by decide) rfl R0_0_3 ?_
    refine rn_getI (k' := 25) rfl rfl K0_6 (by decide) rfl ?_
    refine rn_icmp_ge (k' := 26) rfl rfl (fun hc1 => ?_) (fun hc1 => ?_)
    · skip
      refine rn_iload_n (k' := 43) rfl rfl rfl ?_
      refine rn_iret rfl (Or.inl rfl) ?_
      rw [show (μ 6 13).toNat = n by omega]
    · exfalso; omega
  | succ d ih =>
    intro n ac k eac ek hn 
    subst eac ek
    refine rn_iload (k' := 22) rfl rfl rfl ?_
    refine rn_aload_n (k' := 23) rfl rfl rfl ?_
    refine rn_getR (k' := 24) rfl rfl K0_0 (by decide) rfl R0_0_3 ?_
    refine rn_getI (k' := 25) rfl rfl K0_6 (by decide) rfl ?_
    refine rn_icmp_ge (k' := 26) rfl rfl (fun hc1 => ?_) (fun hc1 => ?_)
    · exfalso; omega
    · skip
      refine rn_aload_n (k' := 27) rfl rfl rfl ?_
      refine rn_getR (k' := 28) rfl rfl K0_0 (by decide) rfl R0_0_9 ?_
      refine rn_iload_n (k' := 29) rfl rfl rfl ?_
      refine rn_aload_n (k' := 30) rfl rfl rfl ?_
      refine rn_iload (k' := 31) rfl rfl rfl ?_
      have hb2 := g_st_b hL (a := μ 16 n) (hH _).1
      refine rn_callP (k' := 32) (y := 157) (vs := [mR 0, mI ((n : Int))]) (S' := [mI (b), mR 74]) (v := some (mI (g_st μ (μ 16 n)))) (h' := mkh μ c s) rfl rfl rfl (c_X11_stiltsOf (μ := μ) (hL) hH (by omega)) ?_
      show Rn PT none kX11_who 32 [some (mR 0), some (mI (a)), some (mI (b)), some (mI (fO (fun k : Nat => ¬ g_steps μ a b (g_st μ (μ 16 k)) w = -1) n)), some (mI ((n : Int)))] [mI (g_st μ (μ 16 n)), mI (b), mR 74] (mkh μ c s) _
      by_cases hq3 : ¬ g_steps μ a b (g_st μ (μ 16 n)) w = -1
      · refine rn_callP (k' := 33) (y := 19) (vs := [mR 74, mI (b), mI (g_st μ (μ 16 n))]) (S' := []) (v := some (mI 1)) (h' := mkh μ c s) rfl rfl rfl (by have hz : Cl PT 19 [mR 74, mI (b), mI (g_st μ (μ 16 n))] (mkh μ c s) (fun r => r = (some (some (mI (if ¬ g_steps μ a b (g_st μ (μ 16 n)) w = -1 then 1 else 0))), mkh μ c s)) := k_passesWith hL (a := a) (w := w) (x := b) (t := g_st μ (μ 16 n)) hMP hx (by omega) (μ := μ) (c := c) (s := s); rw [if_pos hq3] at hz; exact hz) ?_
        show Rn PT none kX11_who 33 [some (mR 0), some (mI (a)), some (mI (b)), some (mI (fO (fun k : Nat => ¬ g_steps μ a b (g_st μ (μ 16 k)) w = -1) n)), some (mI ((n : Int)))] [mI (1)] (mkh μ c s) _
        refine rn_if_eq (k' := 34) rfl rfl (fun hc4 => ?_) (fun hc4 => ?_)
        · exfalso; omega
        · skip
          refine rn_iload_n (k' := 35) rfl rfl rfl ?_
          refine rn_iconst (k' := 36) rfl rfl ?_
          refine rn_iload (k' := 37) rfl rfl rfl ?_
          refine rn_ishl (k' := 38) rfl rfl ?_
          refine rn_ior (k' := 39) rfl rfl ?_
          refine rn_istore_n (k' := 40) (L' := [some (mR 0), some (mI (a)), some (mI (b)), some (mI (m_or (fO (fun k : Nat => ¬ g_steps μ a b (g_st μ (μ 16 k)) w = -1) n) (m_shl (1) ((n : Int))))), some (mI ((n : Int)))]) rfl rfl (Nat.le_of_ble_eq_true rfl) rfl ?_
          refine rn_iinc (k' := 41) (L' := [some (mR 0), some (mI (a)), some (mI (b)), some (mI (m_or (fO (fun k : Nat => ¬ g_steps μ a b (g_st μ (μ 16 k)) w = -1) n) (m_shl (1) ((n : Int))))), some (mI ((n : Int) + 1))]) rfl rfl rfl (by omega) rfl ?_
          refine rn_goto rfl ?_
          exact ih (n + 1) _ _ (by first | exact (fO_pos (p := (fun k : Nat => ¬ g_steps μ a b (g_st μ (μ 16 k)) w = -1)) (by assumption)).symm | exact (fO_neg (p := (fun k : Nat => ¬ g_steps μ a b (g_st μ (μ 16 k)) w = -1)) (by assumption)).symm) (by omega) (by omega)
      · refine rn_callP (k' := 33) (y := 19) (vs := [mR 74, mI (b), mI (g_st μ (μ 16 n))]) (S' := []) (v := some (mI 0)) (h' := mkh μ c s) rfl rfl rfl (by have hz : Cl PT 19 [mR 74, mI (b), mI (g_st μ (μ 16 n))] (mkh μ c s) (fun r => r = (some (some (mI (if ¬ g_steps μ a b (g_st μ (μ 16 n)) w = -1 then 1 else 0))), mkh μ c s)) := k_passesWith hL (a := a) (w := w) (x := b) (t := g_st μ (μ 16 n)) hMP hx (by omega) (μ := μ) (c := c) (s := s); rw [if_neg hq3] at hz; exact hz) ?_
        show Rn PT none kX11_who 33 [some (mR 0), some (mI (a)), some (mI (b)), some (mI (fO (fun k : Nat => ¬ g_steps μ a b (g_st μ (μ 16 k)) w = -1) n)), some (mI ((n : Int)))] [mI (0)] (mkh μ c s) _
        refine rn_if_eq (k' := 34) rfl rfl (fun hc5 => ?_) (fun hc5 => ?_)
        · skip
          refine rn_iinc (k' := 41) (L' := [some (mR 0), some (mI (a)), some (mI (b)), some (mI (fO (fun k : Nat => ¬ g_steps μ a b (g_st μ (μ 16 k)) w = -1) n)), some (mI ((n : Int) + 1))]) rfl rfl rfl (by omega) rfl ?_
          refine rn_goto rfl ?_
          exact ih (n + 1) _ _ (by first | exact (fO_pos (p := (fun k : Nat => ¬ g_steps μ a b (g_st μ (μ 16 k)) w = -1)) (by assumption)).symm | exact (fO_neg (p := (fun k : Nat => ¬ g_steps μ a b (g_st μ (μ 16 k)) w = -1)) (by assumption)).symm) (by omega) (by omega)
        · exfalso; omega
theorem i_X11_who {μ : Nat → Nat → Int} {c s : Nat} (hL : I_land μ) (hS : I_scene μ) {a0 a1 : Int} (h0 : i32 a0) (h1 : i32 a1) (hv : ¬ (g_cell μ a0 ∧ g_cell μ a1)) : Cl PT 124 [mR 0, mI a0, mI a1] (mkh μ c s) (fun r => r = (some (some (mI (-1))), mkh μ c s)) := by
  have hL_ := hL
  obtain ⟨lc, lr, le, lm, lw, lh, lwo, lwd, q0, q1, q2, q3, q4, q8, q499, q500, lth, lG, lT, lW, -⟩ := hL_
  have hS_ := hS
  obtain ⟨sd, sw, stk, s4, s5, s6, hC, hH, -, s10, sce, swc, s13⟩ := hS_
  refine ⟨_, PT_124, Nat.le_of_ble_eq_true rfl, ?_⟩
  show Rn PT none kX11_who 0 [some (mR 0), some (mI (a0)), some (mI (a1)), none, none] [] (mkh μ c s) _
  refine rn_aload_n (k' := 1) rfl rfl rfl ?_
  refine rn_iload_n (k' := 2) rfl rfl rfl ?_
  refine rn_iload_n (k' := 3) rfl rfl rfl ?_
  refine rn_iconst (k' := 4) rfl rfl ?_
  refine rn_aload_n (k' := 5) rfl rfl rfl ?_
  refine rn_getR (k' := 6) rfl rfl K0_0 (by decide) rfl R0_0_4 ?_
  refine rn_getI (k' := 7) rfl rfl K0_14 (by decide) rfl ?_
  by_cases hq1 : g_cell μ a0 ∧ g_cell μ a1 ∧ (0 ≤ (0 : Int) ∧ (0 : Int) ≤ 99) ∧ 0 ≤ (μ 14 0) ∧ (μ 14 0) ≤ 29
  · refine rn_callP (k' := 8) (y := 155) (vs := [mR 0, mI (a0), mI (a1), mI (0), mI (μ 14 0)]) (S' := []) (v := some (mI 1)) (h' := mkh μ c s) rfl rfl rfl (by have hz : Cl PT 155 [mR 0, mI (a0), mI (a1), mI (0), mI (μ 14 0)] (mkh μ c s) (fun r => r = (some (some (mI (if g_cell μ a0 ∧ g_cell μ a1 ∧ (0 ≤ (0 : Int) ∧ (0 : Int) ≤ 99) ∧ 0 ≤ (μ 14 0) ∧ (μ 14 0) ≤ 29 then 1 else 0))), mkh μ c s)) := c_X11_areSuch (hL) (a := a0) (b := a1) (t := 0) (d := μ 14 0) (by omega) (by omega) (μ := μ) (c := c) (s := s); rw [if_pos hq1] at hz; exact hz) ?_
    show Rn PT none kX11_who 8 [some (mR 0), some (mI (a0)), some (mI (a1)), none, none] [mI (1)] (mkh μ c s) _
    refine rn_if_ne (k' := 9) rfl rfl (fun hc2 => ?_) (fun hc2 => ?_)
    · skip
      refine rn_aload_n (k' := 12) rfl rfl rfl ?_
      refine rn_getR (k' := 13) rfl rfl K0_0 (by decide) rfl R0_0_9 ?_
      refine rn_iload_n (k' := 14) rfl rfl rfl ?_
      refine rn_aload_n (k' := 15) rfl rfl rfl ?_
      exfalso; omega
    · exfalso; omega
  · refine rn_callP (k' := 8) (y := 155) (vs := [mR 0, mI (a0), mI (a1), mI (0), mI (μ 14 0)]) (S' := []) (v := some (mI 0)) (h' := mkh μ c s) rfl rfl rfl (by have hz : Cl PT 155 [mR 0, mI (a0), mI (a1), mI (0), mI (μ 14 0)] (mkh μ c s) (fun r => r = (some (some (mI (if g_cell μ a0 ∧ g_cell μ a1 ∧ (0 ≤ (0 : Int) ∧ (0 : Int) ≤ 99) ∧ 0 ≤ (μ 14 0) ∧ (μ 14 0) ≤ 29 then 1 else 0))), mkh μ c s)) := c_X11_areSuch (hL) (a := a0) (b := a1) (t := 0) (d := μ 14 0) (by omega) (by omega) (μ := μ) (c := c) (s := s); rw [if_neg hq1] at hz; exact hz) ?_
    show Rn PT none kX11_who 8 [some (mR 0), some (mI (a0)), some (mI (a1)), none, none] [mI (0)] (mkh μ c s) _
    refine rn_if_ne (k' := 9) rfl rfl (fun hc3 => ?_) (fun hc3 => ?_)
    · exfalso; omega
    · skip
      refine rn_iconst (k' := 10) rfl rfl ?_
      refine rn_iret rfl (Or.inl rfl) ?_
      rfl
theorem i_X12_who {μ : Nat → Nat → Int} {c s : Nat} (hL : I_land μ) (hS : I_scene μ) {a0 a1 : Int} (h0 : i32 a0) (h1 : i32 a1) (hv : ¬ (g_cell μ a0 ∧ g_cell μ a1)) : Cl PT 258 [mR 118, mI a0, mI a1] (mkh μ c s) (fun r => r = (some (some (mI (-1))), mkh (m_set μ 118 0 0) c s)) := by
  have hL_ := hL
  obtain ⟨lc, lr, le, lm, lw, lh, lwo, lwd, q0, q1, q2, q3, q4, q8, q499, q500, lth, lG, lT, lW, -⟩ := hL_
  have hS_ := hS
  obtain ⟨sd, sw, stk, s4, s5, s6, hC, hH, -, s10, sce, swc, s13⟩ := hS_
  refine ⟨_, PT_258, Nat.le_of_ble_eq_true rfl, ?_⟩
  show Rn PT none kX12_who 0 [some (mR 118), some (mI (a0)), some (mI (a1)), none, none] [] (mkh μ c s) _
  refine rn_aload_n (k' := 1) rfl rfl rfl ?_
  refine rn_iconst (k' := 2) rfl rfl ?_
  refine rn_putI (k' := 3) rfl rfl K0_118 (by decide) rfl ?_
  refine rn_aload_n (k' := 4) rfl rfl rfl ?_
  refine rn_iload_n (k' := 5) rfl rfl rfl ?_
  by_cases hq2 : g_cell μ a0
  · refine rn_callP (k' := 6) (y := 192) (vs := [mR 118, mI (a0)]) (S' := []) (v := some (mI 1)) (h' := mkh (m_set μ 118 0 (0)) c s) rfl rfl rfl (by have hz : Cl PT 192 [mR 118, mI (a0)] (mkh (m_set μ 118 0 (0)) c s) (fun r => r = (some (some (mI (if g_cell μ a0 then 1 else 0))), mkh (m_set μ 118 0 (0)) c s)) := c_X12_isCell ((hL).set rfl) (a := a0) (by omega) (μ := (m_set μ 118 0 (0))) (c := c) (s := s); rw [if_pos hq2] at hz; exact hz) ?_
    show Rn PT none kX12_who 6 [some (mR 118), some (mI (a0)), some (mI (a1)), none, none] [mI (1)] (mkh (m_set μ 118 0 (0)) c s) _
    refine rn_if_eq (k' := 7) rfl rfl (fun hc3 => ?_) (fun hc3 => ?_)
    · exfalso; omega
    · skip
      refine rn_aload_n (k' := 8) rfl rfl rfl ?_
      refine rn_iload_n (k' := 9) rfl rfl rfl ?_
      by_cases hq4 : g_cell μ a1
      · refine rn_callP (k' := 10) (y := 192) (vs := [mR 118, mI (a1)]) (S' := []) (v := some (mI 1)) (h' := mkh (m_set μ 118 0 (0)) c s) rfl rfl rfl (by have hz : Cl PT 192 [mR 118, mI (a1)] (mkh (m_set μ 118 0 (0)) c s) (fun r => r = (some (some (mI (if g_cell μ a1 then 1 else 0))), mkh (m_set μ 118 0 (0)) c s)) := c_X12_isCell ((hL).set rfl) (a := a1) (by omega) (μ := (m_set μ 118 0 (0))) (c := c) (s := s); rw [if_pos hq4] at hz; exact hz) ?_
        show Rn PT none kX12_who 10 [some (mR 118), some (mI (a0)), some (mI (a1)), none, none] [mI (1)] (mkh (m_set μ 118 0 (0)) c s) _
        refine rn_if_ne (k' := 11) rfl rfl (fun hc5 => ?_) (fun hc5 => ?_)
        · skip
          refine rn_aload_n (k' := 14) rfl rfl rfl ?_
          refine rn_aload_n (k' := 15) rfl rfl rfl ?_
          refine rn_getR (k' := 16) rfl rfl K0_118 (by decide) rfl R0_118_6 ?_
          refine rn_sipush (k' := 17) rfl rfl ?_
          refine rn_iaload (k' := 18) rfl rfl K0_120 (by omega) (by omega) ?_
          show Rn PT none kX12_who 18 [some (mR 118), some (mI (a0)), some (mI (a1)), none, none] [mI (μ 120 517), mR 118] (mkh (m_set μ 118 0 (0)) c s) _
          rw [s4]
          exfalso; omega
        · exfalso; omega
      · refine rn_callP (k' := 10) (y := 192) (vs := [mR 118, mI (a1)]) (S' := []) (v := some (mI 0)) (h' := mkh (m_set μ 118 0 (0)) c s) rfl rfl rfl (by have hz : Cl PT 192 [mR 118, mI (a1)] (mkh (m_set μ 118 0 (0)) c s) (fun r => r = (some (some (mI (if g_cell μ a1 then 1 else 0))), mkh (m_set μ 118 0 (0)) c s)) := c_X12_isCell ((hL).set rfl) (a := a1) (by omega) (μ := (m_set μ 118 0 (0))) (c := c) (s := s); rw [if_neg hq4] at hz; exact hz) ?_
        show Rn PT none kX12_who 10 [some (mR 118), some (mI (a0)), some (mI (a1)), none, none] [mI (0)] (mkh (m_set μ 118 0 (0)) c s) _
        refine rn_if_ne (k' := 11) rfl rfl (fun hc6 => ?_) (fun hc6 => ?_)
        · exfalso; omega
        · skip
          refine rn_iconst (k' := 12) rfl rfl ?_
          refine rn_iret rfl (Or.inl rfl) ?_
          rfl
  · refine rn_callP (k' := 6) (y := 192) (vs := [mR 118, mI (a0)]) (S' := []) (v := some (mI 0)) (h' := mkh (m_set μ 118 0 (0)) c s) rfl rfl rfl (by have hz : Cl PT 192 [mR 118, mI (a0)] (mkh (m_set μ 118 0 (0)) c s) (fun r => r = (some (some (mI (if g_cell μ a0 then 1 else 0))), mkh (m_set μ 118 0 (0)) c s)) := c_X12_isCell ((hL).set rfl) (a := a0) (by omega) (μ := (m_set μ 118 0 (0))) (c := c) (s := s); rw [if_neg hq2] at hz; exact hz) ?_
    show Rn PT none kX12_who 6 [some (mR 118), some (mI (a0)), some (mI (a1)), none, none] [mI (0)] (mkh (m_set μ 118 0 (0)) c s) _
    refine rn_if_eq (k' := 7) rfl rfl (fun hc7 => ?_) (fun hc7 => ?_)
    · skip
      refine rn_iconst (k' := 12) rfl rfl ?_
      refine rn_iret rfl (Or.inl rfl) ?_
      rfl
    · exfalso; omega
set_option maxHeartbeats 4000000 in
theorem t_X11_who {μ : Nat → Nat → Int} {c s : Nat} (hL : I_land μ) (hS : I_scene μ) {a0 a1 : Int} (h0 : i32 a0) (h1 : i32 a1) : Cl PT 124 [mR 0, mI a0, mI a1] (mkh μ c s) (fun r => ∃ μ1, r = (some (some (mI (if g_cell μ a0 ∧ g_cell μ a1 then fO (fun k : Nat => ¬ g_steps μ a0 a1 (g_st μ (μ 16 k)) (g_w μ 0 (μ 14 0)) = -1) (μ 6 13).toNat else -1))), mkh μ1 c s) ∧ rst μ1 = rst μ) := by
  have hL_ := hL
  obtain ⟨lc, lr, le, lm, lw, lh, lwo, lwd, q0, q1, q2, q3, q4, q8, q499, q500, lth, lG, lT, lW, -⟩ := hL_
  have hS_ := hS
  obtain ⟨sd, sw, stk, s4, s5, s6, hC, hH, -, s10, sce, swc, s13⟩ := hS_
  by_cases hv : g_cell μ a0 ∧ g_cell μ a1
  · rw [if_pos hv]
    have hv_ := hv
    obtain ⟨hv1, hv2⟩ := hv_
    refine ⟨_, PT_124, Nat.le_of_ble_eq_true rfl, ?_⟩
    show Rn PT none kX11_who 0 [some (mR 0), some (mI (a0)), some (mI (a1)), none, none] [] (mkh μ c s) _
    refine rn_aload_n (k' := 1) rfl rfl rfl ?_
    refine rn_iload_n (k' := 2) rfl rfl rfl ?_
    refine rn_iload_n (k' := 3) rfl rfl rfl ?_
    refine rn_iconst (k' := 4) rfl rfl ?_
    refine rn_aload_n (k' := 5) rfl rfl rfl ?_
    refine rn_getR (k' := 6) rfl rfl K0_0 (by decide) rfl R0_0_4 ?_
    refine rn_getI (k' := 7) rfl rfl K0_14 (by decide) rfl ?_
    by_cases hq1 : g_cell μ a0 ∧ g_cell μ a1 ∧ (0 ≤ (0 : Int) ∧ (0 : Int) ≤ 99) ∧ 0 ≤ (μ 14 0) ∧ (μ 14 0) ≤ 29
    · refine rn_callP (k' := 8) (y := 155) (vs := [mR 0, mI (a0), mI (a1), mI (0), mI (μ 14 0)]) (S' := []) (v := some (mI 1)) (h' := mkh μ c s) rfl rfl rfl (by have hz : Cl PT 155 [mR 0, mI (a0), mI (a1), mI (0), mI (μ 14 0)] (mkh μ c s) (fun r => r = (some (some (mI (if g_cell μ a0 ∧ g_cell μ a1 ∧ (0 ≤ (0 : Int) ∧ (0 : Int) ≤ 99) ∧ 0 ≤ (μ 14 0) ∧ (μ 14 0) ≤ 29 then 1 else 0))), mkh μ c s)) := c_X11_areSuch (hL) (a := a0) (b := a1) (t := 0) (d := μ 14 0) (by omega) (by omega) (μ := μ) (c := c) (s := s); rw [if_pos hq1] at hz; exact hz) ?_
      show Rn PT none kX11_who 8 [some (mR 0), some (mI (a0)), some (mI (a1)), none, none] [mI (1)] (mkh μ c s) _
      refine rn_if_ne (k' := 9) rfl rfl (fun hc2 => ?_) (fun hc2 => ?_)
      · skip
        refine rn_aload_n (k' := 12) rfl rfl rfl ?_
        refine rn_getR (k' := 13) rfl rfl K0_0 (by decide) rfl R0_0_9 ?_
        refine rn_iload_n (k' := 14) rfl rfl rfl ?_
        refine rn_aload_n (k' := 15) rfl rfl rfl ?_
        have hb3 := g_w_b hL 0 (μ 14 0)
        refine rn_callP (k' := 16) (y := 156) (vs := [mR 0]) (S' := [mI (a0), mR 74]) (v := some (mI (g_w μ 0 (μ 14 0)))) (h' := mkh μ c s) rfl rfl rfl (c_X11_waterToday (μ := μ) (hL) (by show 0 ≤ μ 14 0 ∧ μ 14 0 ≤ 29; omega)) ?_
        show Rn PT none kX11_who 16 [some (mR 0), some (mI (a0)), some (mI (a1)), none, none] [mI (g_w μ 0 (μ 14 0)), mI (a0), mR 74] (mkh μ c s) _
        obtain ⟨M, ⟨hMr, hM0⟩, hcl⟩ := c_passFrom (μ := μ) (c := c) (s := s) hL (a := a0) (w := (g_w μ 0 (μ 14 0))) (by assumption) (by omega)
        have hMP := pf_of hMr hM0
        have hrT := rm_rst hMr
        have hLM := land_rows hL hrT
        have hSM := scene_rows hS hrT
        have e6 := row_rst hMr (a := 6) (fun _ => rfl)
        have e14 := row_rst hMr (a := 14) (fun _ => rfl)
        have e15 := row_rst hMr (a := 15) (fun _ => rfl)
        have e16 := row_rst hMr (a := 16) (fun _ => rfl)
        have e10 := row_rst hMr (a := 10) (fun _ => rfl)
        refine rn_callP (k' := 17) (y := 18) (vs := [mR 74, mI (a0), mI (g_w μ 0 (μ 14 0))]) (S' := []) (v := none) (h' := mkh M c s) rfl rfl rfl (hcl) ?_
        show Rn PT none kX11_who 17 [some (mR 0), some (mI (a0)), some (mI (a1)), none, none] [] (mkh M c s) _
        refine rn_iconst (k' := 18) rfl rfl ?_
        refine rn_istore_n (k' := 19) (L' := [some (mR 0), some (mI (a0)), some (mI (a1)), some (mI (0)), none]) rfl rfl (Nat.le_of_ble_eq_true rfl) rfl ?_
        refine rn_iconst (k' := 20) rfl rfl ?_
        refine rn_istore (k' := 21) (L' := [some (mR 0), some (mI (a0)), some (mI (a1)), some (mI (0)), some (mI (0))]) rfl rfl (Nat.le_of_ble_eq_true rfl) rfl ?_
        have h := l_X11_who (μ := M) (c := c) (s := s) hLM hSM (a := a0) (b := a1) (w := (g_w μ 0 (μ 14 0))) (by unfold g_cell; rw [e6]; exact hv2) hMP (M 6 13).toNat 0 _ _ rfl rfl (by rw [e6]; omega)
        have eS : g_st M = g_st μ := by delta g_st; rw [e6]
        rw [g_steps_rows e6 (row_rst hMr (a := 7) (fun _ => rfl)) (row_rst hMr (a := 8) (fun _ => rfl)), eS, e16, e6] at h
        exact h.mono (fun r hr => ⟨M, hr, hMr⟩)
      · exfalso; omega
    · exfalso; omega
  · rw [if_neg hv]
    exact (i_X11_who hL hS h0 h1 hv).mono (fun r hr => ⟨_, hr, rfl⟩)
set_option maxHeartbeats 4000000 in
theorem l_X12_who {μ : Nat → Nat → Int} {c s : Nat} (hL : I_land μ) (hS : I_scene μ) {a0 a1 : Int} (hv1 : g_cell μ a0) (hv2 : g_cell μ a1) : ∀ (d n : Nat) (ac : Int) (k : Int) (F : Nat → Int) (q : Nat → Int), ac = fO (fun k : Nat => ¬ g_steps μ a0 a1 (g_st μ (μ 16 k)) (g_w μ 0 (μ 14 0)) = -1) n → k = (n : Int) → (n : Int) + d = μ 6 13 → Rn PT none kX12_who 23 [some (mR 118), some (mI (a0)), some (mI (a1)), some (mI (ac)), some (mI (k))] [] (mkh (m_upd (m_upd (m_set (m_set (m_set μ 118 0 (0)) 118 22 (g_w μ 0 (μ 14 0))) 118 23 (g_w μ 1 (μ 14 0))) 125 F) 126 q) c s) (fun r => ∃ μ1, r = (some (some (mI (fO (fun k : Nat => ¬ g_steps μ a0 a1 (g_st μ (μ 16 k)) (g_w μ 0 (μ 14 0)) = -1) (μ 6 13).toNat))), mkh μ1 c s) ∧ rst μ1 = rst μ) := by
  have hL_ := hL
  obtain ⟨lc, lr, le, lm, lw, lh, lwo, lwd, q0, q1, q2, q3, q4, q8, q499, q500, lth, lG, lT, lW, -⟩ := hL_
  have hS_ := hS
  obtain ⟨sd, sw, stk, s4, s5, s6, hC, hH, -, s10, sce, swc, s13⟩ := hS_
  have hwb := g_w_b hL 0 (μ 14 0)
  intro d
  induction d with
  | zero =>
    intro n ac k F q eac ek hn 
    subst eac ek
    refine rn_iload (k' := 24) rfl rfl rfl ?_
    refine rn_aload_n (k' := 25) rfl rfl rfl ?_
    refine rn_getR (k' := 26) rfl rfl K0_118 (by decide) rfl R0_118_6 ?_
    refine rn_bipush (k' := 27) rfl rfl ?_
    refine rn_iaload (k' := 28) rfl rfl K0_120 (by omega) (by omega) ?_
    show Rn PT none kX12_who 28 [some (mR 118), some (mI (a0)), some (mI (a1)), some (mI (fO (fun k : Nat => ¬ g_steps μ a0 a1 (g_st μ (μ 16 k)) (g_w μ 0 (μ 14 0)) = -1) n)), some (mI ((n : Int)))] [mI (μ 120 8), mI ((n : Int))] (mkh (m_upd (m_upd (m_set (m_set (m_set μ 118 0 (0)) 118 22 (g_w μ 0 (μ 14 0))) 118 23 (g_w μ 1 (μ 14 0))) 125 F) 126 q) c s) _
    rw [q8]
    refine rn_icmp_ge (k' := 29) rfl rfl (fun hc1 => ?_) (fun hc1 => ?_)
    · skip
      refine rn_iload_n (k' := 48) rfl rfl rfl ?_
      refine rn_iret rfl (Or.inl rfl) ?_
      refine ⟨(m_upd (m_upd (m_set (m_set (m_set μ 118 0 (0)) 118 22 (g_w μ 0 (μ 14 0))) 118 23 (g_w μ 1 (μ 14 0))) 125 F) 126 q), ?_, ((rst_upd (a := 126) (fun _ => rfl)).trans ((rst_upd (a := 125) (fun _ => rfl)).trans ((rst_set (a := 118) (j := 23) rfl).trans ((rst_set (a := 118) (j := 22) rfl).trans (rst_set (a := 118) (j := 0) rfl)))))⟩
      rw [show (μ 6 13).toNat = n by omega]
    · exfalso; omega
  | succ d ih =>
    intro n ac k F q eac ek hn 
    subst eac ek
    have hnn := g_steps_nn hL (a := a0) (b := a1) (t := g_st μ (μ 16 n)) (w := (g_w μ 0 (μ 14 0))) hv1
    have hsb := g_st_b hL (a := μ 16 n) (hH n).1
    refine rn_iload (k' := 24) rfl rfl rfl ?_
    refine rn_aload_n (k' := 25) rfl rfl rfl ?_
    refine rn_getR (k' := 26) rfl rfl K0_118 (by decide) rfl R0_118_6 ?_
    refine rn_bipush (k' := 27) rfl rfl ?_
    refine rn_iaload (k' := 28) rfl rfl K0_120 (by omega) (by omega) ?_
    show Rn PT none kX12_who 28 [some (mR 118), some (mI (a0)), some (mI (a1)), some (mI (fO (fun k : Nat => ¬ g_steps μ a0 a1 (g_st μ (μ 16 k)) (g_w μ 0 (μ 14 0)) = -1) n)), some (mI ((n : Int)))] [mI (μ 120 8), mI ((n : Int))] (mkh (m_upd (m_upd (m_set (m_set (m_set μ 118 0 (0)) 118 22 (g_w μ 0 (μ 14 0))) 118 23 (g_w μ 1 (μ 14 0))) 125 F) 126 q) c s) _
    rw [q8]
    refine rn_icmp_ge (k' := 29) rfl rfl (fun hc1 => ?_) (fun hc1 => ?_)
    · exfalso; omega
    · skip
      refine rn_iload_n (k' := 30) rfl rfl rfl ?_
      refine rn_aload_n (k' := 31) rfl rfl rfl ?_
      refine rn_iload_n (k' := 32) rfl rfl rfl ?_
      refine rn_iload_n (k' := 33) rfl rfl rfl ?_
      refine rn_aload_n (k' := 34) rfl rfl rfl ?_
      refine rn_iload (k' := 35) rfl rfl rfl ?_
      have hb2 := g_st_b hL (a := μ 16 n) (hH _).1
      refine rn_callP (k' := 36) (y := 198) (vs := [mR 118, mI ((n : Int))]) (S' := [mI (a1), mI (a0), mR 118, mI (fO (fun k : Nat => ¬ g_steps μ a0 a1 (g_st μ (μ 16 k)) (g_w μ 0 (μ 14 0)) = -1) n)]) (v := some (mI (g_st μ (μ 16 n)))) (h' := mkh (m_upd (m_upd (m_set (m_set (m_set μ 118 0 (0)) 118 22 (g_w μ 0 (μ 14 0))) 118 23 (g_w μ 1 (μ 14 0))) 125 F) 126 q) c s) rfl rfl rfl (c_X12_stiltsOf (μ := (m_upd (m_upd (m_set (m_set (m_set μ 118 0 (0)) 118 22 (g_w μ 0 (μ 14 0))) 118 23 (g_w μ 1 (μ 14 0))) 125 F) 126 q)) ((((((hL).set rfl).set rfl).set rfl).upd rfl).upd rfl) ((((((hS).set rfl).set rfl).set rfl).upd rfl).upd rfl) (by show 0 ≤ ((n : Int) : Int) ∧ ((n : Int) : Int) < μ 6 13; omega)) ?_
      show Rn PT none kX12_who 36 [some (mR 118), some (mI (a0)), some (mI (a1)), some (mI (fO (fun k : Nat => ¬ g_steps μ a0 a1 (g_st μ (μ 16 k)) (g_w μ 0 (μ 14 0)) = -1) n)), some (mI ((n : Int)))] [mI (g_st μ (μ 16 n)), mI (a1), mI (a0), mR 118, mI (fO (fun k : Nat => ¬ g_steps μ a0 a1 (g_st μ (μ 16 k)) (g_w μ 0 (μ 14 0)) = -1) n)] (mkh (m_upd (m_upd (m_set (m_set (m_set μ 118 0 (0)) 118 22 (g_w μ 0 (μ 14 0))) 118 23 (g_w μ 1 (μ 14 0))) 125 F) 126 q) c s) _
      obtain ⟨F3, q3, hF3, hcl3⟩ := c_stepsOf (μ := (m_upd (m_upd (m_set (m_set (m_set μ 118 0 (0)) 118 22 (g_w μ 0 (μ 14 0))) 118 23 (g_w μ 1 (μ 14 0))) 125 F) 126 q)) (c := c) (s := s) ((((((hL).set rfl).set rfl).set rfl).upd rfl).upd rfl) (by show 0 ≤ g_w μ 0 (μ 14 0) ∧ g_w μ 0 (μ 14 0) ≤ 1000; omega) (a := a0) (b := a1) (t := g_st μ (μ 16 n)) (by omega) (by assumption) (by assumption)
      rw [g_steps_rows (ν := (m_upd (m_upd (m_set (m_set (m_set μ 118 0 (0)) 118 22 (g_w μ 0 (μ 14 0))) 118 23 (g_w μ 1 (μ 14 0))) 125 F) 126 q)) (μ := μ) rfl rfl rfl] at hcl3
      have hsb4 := g_steps_b hL (a := a0) (b := a1) (t := g_st μ (μ 16 n)) (w := g_w μ 0 (μ 14 0)) (by assumption)
      refine rn_callP (k' := 37) (y := 213) (vs := [mR 118, mI (a0), mI (a1), mI (g_st μ (μ 16 n))]) (S' := [mI (fO (fun k : Nat => ¬ g_steps μ a0 a1 (g_st μ (μ 16 k)) (g_w μ 0 (μ 14 0)) = -1) n)]) (v := some (mI (g_steps μ a0 a1 (g_st μ (μ 16 n)) (g_w μ 0 (μ 14 0))))) (h' := mkh (m_upd (m_upd (m_upd (m_upd (m_set (m_set (m_set μ 118 0 (0)) 118 22 (g_w μ 0 (μ 14 0))) 118 23 (g_w μ 1 (μ 14 0))) 125 F) 126 q) 125 F3) 126 q3) c s) rfl rfl rfl (hcl3) ?_
      show Rn PT none kX12_who 37 [some (mR 118), some (mI (a0)), some (mI (a1)), some (mI (fO (fun k : Nat => ¬ g_steps μ a0 a1 (g_st μ (μ 16 k)) (g_w μ 0 (μ 14 0)) = -1) n)), some (mI ((n : Int)))] [mI (g_steps μ a0 a1 (g_st μ (μ 16 n)) (g_w μ 0 (μ 14 0))), mI (fO (fun k : Nat => ¬ g_steps μ a0 a1 (g_st μ (μ 16 k)) (g_w μ 0 (μ 14 0)) = -1) n)] (mkh (m_upd (m_upd (m_upd (m_upd (m_set (m_set (m_set μ 118 0 (0)) 118 22 (g_w μ 0 (μ 14 0))) 118 23 (g_w μ 1 (μ 14 0))) 125 F) 126 q) 125 F3) 126 q3) c s) _
      refine rn_if_lt (k' := 38) rfl rfl (fun hc5 => ?_) (fun hc5 => ?_)
      · skip
        refine rn_iconst (k' := 43) rfl rfl ?_
        refine rn_ior (k' := 44) rfl rfl ?_
        refine rn_istore_n (k' := 45) (L' := [some (mR 118), some (mI (a0)), some (mI (a1)), some (mI (m_or (fO (fun k : Nat => ¬ g_steps μ a0 a1 (g_st μ (μ 16 k)) (g_w μ 0 (μ 14 0)) = -1) n) (0))), some (mI ((n : Int)))]) rfl rfl (Nat.le_of_ble_eq_true rfl) rfl ?_
        refine rn_iinc (k' := 46) (L' := [some (mR 118), some (mI (a0)), some (mI (a1)), some (mI (m_or (fO (fun k : Nat => ¬ g_steps μ a0 a1 (g_st μ (μ 16 k)) (g_w μ 0 (μ 14 0)) = -1) n) (0))), some (mI ((n : Int) + 1))]) rfl rfl rfl (by omega) rfl ?_
        refine rn_goto rfl ?_
        show Rn PT none kX12_who 23 [some (mR 118), some (mI (a0)), some (mI (a1)), some (mI (m_or (fO (fun k : Nat => ¬ g_steps μ a0 a1 (g_st μ (μ 16 k)) (g_w μ 0 (μ 14 0)) = -1) n) (0))), some (mI ((n : Int) + 1))] [] (mkh (m_upd (m_upd (m_upd (m_upd (m_set (m_set (m_set μ 118 0 (0)) 118 22 (g_w μ 0 (μ 14 0))) 118 23 (g_w μ 1 (μ 14 0))) 125 F) 126 q) 125 F3) 126 q3) c s) _
        rw [upd2_of (μ := (m_set (m_set (m_set μ 118 0 (0)) 118 22 (g_w μ 0 (μ 14 0))) 118 23 (g_w μ 1 (μ 14 0)))) (ν := (m_upd (m_upd (m_upd (m_upd (m_set (m_set (m_set μ 118 0 (0)) 118 22 (g_w μ 0 (μ 14 0))) 118 23 (g_w μ 1 (μ 14 0))) 125 F) 126 q) 125 F3) 126 q3)) (x := 125) (y := 126) (fun b hb125 hb126 => (row_upd hb126).trans ((row_upd hb125).trans ((row_upd hb126).trans (row_upd hb125))))]
        exact ih (n + 1) _ _ _ _ (by rw [fO_neg (p := (fun k : Nat => ¬ g_steps μ a0 a1 (g_st μ (μ 16 k)) (g_w μ 0 (μ 14 0)) = -1)) (fun z => by omega)]; exact or_0 (fO_r n)) (by omega) (by omega)
      · skip
        refine rn_iconst (k' := 39) rfl rfl ?_
        refine rn_iload (k' := 40) rfl rfl rfl ?_
        refine rn_ishl (k' := 41) rfl rfl ?_
        refine rn_goto rfl ?_
        refine rn_ior (k' := 44) rfl rfl ?_
        refine rn_istore_n (k' := 45) (L' := [some (mR 118), some (mI (a0)), some (mI (a1)), some (mI (m_or (fO (fun k : Nat => ¬ g_steps μ a0 a1 (g_st μ (μ 16 k)) (g_w μ 0 (μ 14 0)) = -1) n) (m_shl (1) ((n : Int))))), some (mI ((n : Int)))]) rfl rfl (Nat.le_of_ble_eq_true rfl) rfl ?_
        refine rn_iinc (k' := 46) (L' := [some (mR 118), some (mI (a0)), some (mI (a1)), some (mI (m_or (fO (fun k : Nat => ¬ g_steps μ a0 a1 (g_st μ (μ 16 k)) (g_w μ 0 (μ 14 0)) = -1) n) (m_shl (1) ((n : Int))))), some (mI ((n : Int) + 1))]) rfl rfl rfl (by omega) rfl ?_
        refine rn_goto rfl ?_
        show Rn PT none kX12_who 23 [some (mR 118), some (mI (a0)), some (mI (a1)), some (mI (m_or (fO (fun k : Nat => ¬ g_steps μ a0 a1 (g_st μ (μ 16 k)) (g_w μ 0 (μ 14 0)) = -1) n) (m_shl (1) ((n : Int))))), some (mI ((n : Int) + 1))] [] (mkh (m_upd (m_upd (m_upd (m_upd (m_set (m_set (m_set μ 118 0 (0)) 118 22 (g_w μ 0 (μ 14 0))) 118 23 (g_w μ 1 (μ 14 0))) 125 F) 126 q) 125 F3) 126 q3) c s) _
        rw [upd2_of (μ := (m_set (m_set (m_set μ 118 0 (0)) 118 22 (g_w μ 0 (μ 14 0))) 118 23 (g_w μ 1 (μ 14 0)))) (ν := (m_upd (m_upd (m_upd (m_upd (m_set (m_set (m_set μ 118 0 (0)) 118 22 (g_w μ 0 (μ 14 0))) 118 23 (g_w μ 1 (μ 14 0))) 125 F) 126 q) 125 F3) 126 q3)) (x := 125) (y := 126) (fun b hb125 hb126 => (row_upd hb126).trans ((row_upd hb125).trans ((row_upd hb126).trans (row_upd hb125))))]
        exact ih (n + 1) _ _ _ _ (by exact (fO_pos (p := (fun k : Nat => ¬ g_steps μ a0 a1 (g_st μ (μ 16 k)) (g_w μ 0 (μ 14 0)) = -1)) (by omega)).symm) (by omega) (by omega)
set_option maxHeartbeats 4000000 in
theorem t_X12_who {μ : Nat → Nat → Int} {c s : Nat} (hL : I_land μ) (hS : I_scene μ) {a0 a1 : Int} (h0 : i32 a0) (h1 : i32 a1) : Cl PT 258 [mR 118, mI a0, mI a1] (mkh μ c s) (fun r => ∃ μ1, r = (some (some (mI (if g_cell μ a0 ∧ g_cell μ a1 then fO (fun k : Nat => ¬ g_steps μ a0 a1 (g_st μ (μ 16 k)) (g_w μ 0 (μ 14 0)) = -1) (μ 6 13).toNat else -1))), mkh μ1 c s) ∧ rst μ1 = rst μ) := by
  have hL_ := hL
  obtain ⟨lc, lr, le, lm, lw, lh, lwo, lwd, q0, q1, q2, q3, q4, q8, q499, q500, lth, lG, lT, lW, -⟩ := hL_
  have hS_ := hS
  obtain ⟨sd, sw, stk, s4, s5, s6, hC, hH, -, s10, sce, swc, s13⟩ := hS_
  by_cases hv : g_cell μ a0 ∧ g_cell μ a1
  · rw [if_pos hv]
    have hv_ := hv
    obtain ⟨hv1, hv2⟩ := hv_
    refine ⟨_, PT_258, Nat.le_of_ble_eq_true rfl, ?_⟩
    show Rn PT none kX12_who 0 [some (mR 118), some (mI (a0)), some (mI (a1)), none, none] [] (mkh μ c s) _
    refine rn_aload_n (k' := 1) rfl rfl rfl ?_
    refine rn_iconst (k' := 2) rfl rfl ?_
    refine rn_putI (k' := 3) rfl rfl K0_118 (by decide) rfl ?_
    refine rn_aload_n (k' := 4) rfl rfl rfl ?_
    refine rn_iload_n (k' := 5) rfl rfl rfl ?_
    by_cases hq2 : g_cell μ a0
    · refine rn_callP (k' := 6) (y := 192) (vs := [mR 118, mI (a0)]) (S' := []) (v := some (mI 1)) (h' := mkh (m_set μ 118 0 (0)) c s) rfl rfl rfl (by have hz : Cl PT 192 [mR 118, mI (a0)] (mkh (m_set μ 118 0 (0)) c s) (fun r => r = (some (some (mI (if g_cell μ a0 then 1 else 0))), mkh (m_set μ 118 0 (0)) c s)) := c_X12_isCell ((hL).set rfl) (a := a0) (by omega) (μ := (m_set μ 118 0 (0))) (c := c) (s := s); rw [if_pos hq2] at hz; exact hz) ?_
      show Rn PT none kX12_who 6 [some (mR 118), some (mI (a0)), some (mI (a1)), none, none] [mI (1)] (mkh (m_set μ 118 0 (0)) c s) _
      refine rn_if_eq (k' := 7) rfl rfl (fun hc3 => ?_) (fun hc3 => ?_)
      · exfalso; omega
      · skip
        refine rn_aload_n (k' := 8) rfl rfl rfl ?_
        refine rn_iload_n (k' := 9) rfl rfl rfl ?_
        by_cases hq4 : g_cell μ a1
        · refine rn_callP (k' := 10) (y := 192) (vs := [mR 118, mI (a1)]) (S' := []) (v := some (mI 1)) (h' := mkh (m_set μ 118 0 (0)) c s) rfl rfl rfl (by have hz : Cl PT 192 [mR 118, mI (a1)] (mkh (m_set μ 118 0 (0)) c s) (fun r => r = (some (some (mI (if g_cell μ a1 then 1 else 0))), mkh (m_set μ 118 0 (0)) c s)) := c_X12_isCell ((hL).set rfl) (a := a1) (by omega) (μ := (m_set μ 118 0 (0))) (c := c) (s := s); rw [if_pos hq4] at hz; exact hz) ?_
          show Rn PT none kX12_who 10 [some (mR 118), some (mI (a0)), some (mI (a1)), none, none] [mI (1)] (mkh (m_set μ 118 0 (0)) c s) _
          refine rn_if_ne (k' := 11) rfl rfl (fun hc5 => ?_) (fun hc5 => ?_)
          · skip
            refine rn_aload_n (k' := 14) rfl rfl rfl ?_
            refine rn_aload_n (k' := 15) rfl rfl rfl ?_
            refine rn_getR (k' := 16) rfl rfl K0_118 (by decide) rfl R0_118_6 ?_
            refine rn_sipush (k' := 17) rfl rfl ?_
            refine rn_iaload (k' := 18) rfl rfl K0_120 (by omega) (by omega) ?_
            show Rn PT none kX12_who 18 [some (mR 118), some (mI (a0)), some (mI (a1)), none, none] [mI (μ 120 517), mR 118] (mkh (m_set μ 118 0 (0)) c s) _
            rw [s4]
            have hb6 := g_w_b hL 0 (μ 14 0)
            have hc906 := g_w_b hL 1 (μ 14 0)
            refine rn_callP (k' := 19) (y := 201) (vs := [mR 118, mI (μ 14 0)]) (S' := []) (v := none) (h' := mkh (m_set (m_set (m_set μ 118 0 (0)) 118 22 (g_w μ 0 (μ 14 0))) 118 23 (g_w μ 1 (μ 14 0))) c s) rfl rfl rfl (c_X12_of (μ := (m_set μ 118 0 (0))) ((hL).set rfl) (by omega)) ?_
            show Rn PT none kX12_who 19 [some (mR 118), some (mI (a0)), some (mI (a1)), none, none] [] (mkh (m_set (m_set (m_set μ 118 0 (0)) 118 22 (g_w μ 0 (μ 14 0))) 118 23 (g_w μ 1 (μ 14 0))) c s) _
            refine rn_iconst (k' := 20) rfl rfl ?_
            refine rn_istore_n (k' := 21) (L' := [some (mR 118), some (mI (a0)), some (mI (a1)), some (mI (0)), none]) rfl rfl (Nat.le_of_ble_eq_true rfl) rfl ?_
            refine rn_iconst (k' := 22) rfl rfl ?_
            refine rn_istore (k' := 23) (L' := [some (mR 118), some (mI (a0)), some (mI (a1)), some (mI (0)), some (mI (0))]) rfl rfl (Nat.le_of_ble_eq_true rfl) rfl ?_
            have h := l_X12_who (c := c) (s := s) hL hS hv1 hv2 (μ 6 13).toNat 0 _ _ ((m_set (m_set (m_set μ 118 0 (0)) 118 22 (g_w μ 0 (μ 14 0))) 118 23 (g_w μ 1 (μ 14 0))) 125) ((m_set (m_set (m_set μ 118 0 (0)) 118 22 (g_w μ 0 (μ 14 0))) 118 23 (g_w μ 1 (μ 14 0))) 126) rfl rfl (by omega)
            rw [show m_upd (m_upd (m_set (m_set (m_set μ 118 0 (0)) 118 22 (g_w μ 0 (μ 14 0))) 118 23 (g_w μ 1 (μ 14 0))) 125 ((m_set (m_set (m_set μ 118 0 (0)) 118 22 (g_w μ 0 (μ 14 0))) 118 23 (g_w μ 1 (μ 14 0))) 125)) 126 ((m_set (m_set (m_set μ 118 0 (0)) 118 22 (g_w μ 0 (μ 14 0))) 118 23 (g_w μ 1 (μ 14 0))) 126) = (m_set (m_set (m_set μ 118 0 (0)) 118 22 (g_w μ 0 (μ 14 0))) 118 23 (g_w μ 1 (μ 14 0))) from by rw [upd_self]; exact upd_self] at h
            exact h
          · exfalso; omega
        · exfalso; omega
    · exfalso; omega
  · rw [if_neg hv]
    exact (i_X12_who hL hS h0 h1 hv).mono (fun r hr => ⟨_, hr, rst_set rfl⟩)
theorem pair_40 : ∀ (a0 : Int), ∀ (a1 : Int), i32 a0 → i32 a1 → PairI (Inv N) 124 258 [mI a0, mI a1] := by
  intro a0 a1 ha0 ha1
  exact pair_of (fun μ => (if g_cell μ a0 ∧ g_cell μ a1 then fO (fun k : Nat => ¬ g_steps μ a0 a1 (g_st μ (μ 16 k)) (g_w μ 0 (μ 14 0)) = -1) (μ 6 13).toNat else -1)) (fun μ c s hI => t_X11_who hI.land hI.scene ha0 ha1) (fun μ c s hI => t_X12_who hI.land hI.scene ha0 ha1) (fun μ ν h => by
    have e6 := row_rst h (a := 6) (fun _ => rfl)
    have e7 := row_rst h (a := 7) (fun _ => rfl)
    have e8 := row_rst h (a := 8) (fun _ => rfl)
    have e10 := row_rst h (a := 10) (fun _ => rfl)
    have e14 := row_rst h (a := 14) (fun _ => rfl)
    have e15 := row_rst h (a := 15) (fun _ => rfl)
    have e16 := row_rst h (a := 16) (fun _ => rfl)
    have eW : g_w ν = g_w μ := by delta g_w; rw [e10]
    have eS : g_st ν = g_st μ := by delta g_st; rw [e6]
    show (if g_cell ν a0 ∧ g_cell ν a1 then fO (fun k : Nat => ¬ g_steps ν a0 a1 (g_st ν (ν 16 k)) (g_w ν 0 (ν 14 0)) = -1) (ν 6 13).toNat else -1) = (if g_cell μ a0 ∧ g_cell μ a1 then fO (fun k : Nat => ¬ g_steps μ a0 a1 (g_st μ (μ 16 k)) (g_w μ 0 (μ 14 0)) = -1) (μ 6 13).toNat else -1)
    rw [g_steps_rows e6 e7 e8, eW]
    try rw [e14]
    try rw [e15]
    try rw [e16]
    try rw [eS]
    try unfold g_cell
    try rw [e6])
set_option maxHeartbeats 4000000 in
theorem c_passesBy {μ : Nat → Nat → Int} {c s : Nat} (hL : I_land μ) (hS : I_scene μ) (hw : 0 ≤ μ 118 22 ∧ μ 118 22 ≤ 1000) {a b e : Int} (ha : 0 ≤ a ∧ a < μ 6 13) (hb : g_cell μ b) (he : 0 ≤ e ∧ e ≤ 1000) : ∃ (F q : Nat → Int) (T : Int), ((g_steps μ (μ 15 a.toNat) b (g_st μ e) (μ 118 22) = -1 ∧ T = 0) ∨ (0 ≤ g_steps μ (μ 15 a.toNat) b (g_st μ e) (μ 118 22) ∧ T = 1)) ∧ Cl PT 247 [mR 118, mI a, mI b, mI e] (mkh μ c s) (fun r => r = (some (some (mI T)), mkh (m_upd (m_upd μ 125 F) 126 q) c s)) := by
  have hL_ := hL
  obtain ⟨lc, lr, le, lm, lw, lh, lwo, lwd, q0, q1, q2, q3, q4, q8, q499, q500, lth, lG, lT, lW, -⟩ := hL_
  have hS_ := hS
  obtain ⟨sd, sw, stk, s4, s5, s6, hC, hH, -, s10, sce, swc, s13⟩ := hS_
  have hcl0 := sc_cell hS (n := a.toNat) (by omega)
  have hsb := g_st_b hL (a := e) he.1
  have hnn := g_steps_nn hL (a := μ 15 a.toNat) (b := b) (t := g_st μ e) (w := μ 118 22) hcl0
  have hCL : Cl PT 247 [mR 118, mI a, mI b, mI e] (mkh μ c s) (fun r => ∃ (F q : Nat → Int) (T : Int), r = (some (some (mI T)), mkh (m_upd (m_upd μ 125 F) 126 q) c s) ∧ ((g_steps μ (μ 15 a.toNat) b (g_st μ e) (μ 118 22) = -1 ∧ T = 0) ∨ (0 ≤ g_steps μ (μ 15 a.toNat) b (g_st μ e) (μ 118 22) ∧ T = 1))) := by
    refine ⟨_, PT_247, Nat.le_of_ble_eq_true rfl, ?_⟩
    show Rn PT none kX12_passesBy 0 [some (mR 118), some (mI (a)), some (mI (b)), some (mI (e))] [] (mkh μ c s) _
    refine rn_aload_n (k' := 1) rfl rfl rfl ?_
    refine rn_aload_n (k' := 2) rfl rfl rfl ?_
    refine rn_getR (k' := 3) rfl rfl K0_118 (by decide) rfl R0_118_6 ?_
    refine rn_sipush (k' := 4) rfl rfl ?_
    refine rn_iload_n (k' := 5) rfl rfl rfl ?_
    refine rn_iadd (k' := 6) rfl rfl (by omega) ?_
    refine rn_iaload (k' := 7) rfl rfl K0_120 (by omega) (by omega) ?_
    rw [(v_at hS (a := a) (by omega)).1]
    have hb1 := (v_at hS (a := a) (by omega)).2
    refine rn_iload_n (k' := 8) rfl rfl rfl ?_
    refine rn_aload_n (k' := 9) rfl rfl rfl ?_
    refine rn_iload_n (k' := 10) rfl rfl rfl ?_
    have hb2 := g_st_b hL (a := e) (by omega)
    refine rn_callP (k' := 11) (y := 197) (vs := [mR 118, mI (e)]) (S' := [mI (b), mI (μ 15 (a).toNat), mR 118]) (v := some (mI (g_st μ e))) (h' := mkh μ c s) rfl rfl rfl (c_X12_stiltsBy (hL) (by omega)) ?_
    show Rn PT none kX12_passesBy 11 [some (mR 118), some (mI (a)), some (mI (b)), some (mI (e))] [mI (g_st μ e), mI (b), mI (μ 15 (a).toNat), mR 118] (mkh μ c s) _
    obtain ⟨F3, q3, hF3, hcl3⟩ := c_stepsOf (μ := μ) (c := c) (s := s) (hL) (by show 0 ≤ μ 118 22 ∧ μ 118 22 ≤ 1000; omega) (a := μ 15 (a).toNat) (b := b) (t := g_st μ e) (by omega) (by assumption) (by assumption)
    have hsb4 := g_steps_b hL (a := μ 15 (a).toNat) (b := b) (t := g_st μ e) (w := μ 118 22) (by assumption)
    refine rn_callP (k' := 12) (y := 213) (vs := [mR 118, mI (μ 15 (a).toNat), mI (b), mI (g_st μ e)]) (S' := []) (v := some (mI (g_steps μ (μ 15 (a).toNat) b (g_st μ e) (μ 118 22)))) (h' := mkh (m_upd (m_upd μ 125 F3) 126 q3) c s) rfl rfl rfl (hcl3) ?_
    show Rn PT none kX12_passesBy 12 [some (mR 118), some (mI (a)), some (mI (b)), some (mI (e))] [mI (g_steps μ (μ 15 (a).toNat) b (g_st μ e) (μ 118 22))] (mkh (m_upd (m_upd μ 125 F3) 126 q3) c s) _
    refine rn_if_lt (k' := 13) rfl rfl (fun hc5 => ?_) (fun hc5 => ?_)
    · skip
      refine rn_iconst (k' := 16) rfl rfl ?_
      refine rn_iret rfl (Or.inr (by omega)) ?_
      refine ⟨_, _, 0, rfl, ?_⟩
      omega
    · skip
      refine rn_iconst (k' := 14) rfl rfl ?_
      refine rn_goto rfl ?_
      refine rn_iret rfl (Or.inr (by omega)) ?_
      refine ⟨_, _, 1, rfl, ?_⟩
      omega
  obtain ⟨MM, z1, z2, nn, rr, z3, F, q, T, z4, z5⟩ := hCL
  exact ⟨F, q, T, z5, MM, z1, z2, nn, rr, z3, z4⟩
set_option maxHeartbeats 4000000 in
theorem l_X11_low {μ : Nat → Nat → Int} {c s : Nat} (hL : I_land μ) {a b w : Int} (hx : g_cell μ b) (hMP : PF μ a w) {x0 : Int} {hd : Nat} (hhd : hd ≤ 99) : ∀ (d n : Nat) (k : Int), k = (n : Int) → n + d = hd + 1 → Rn PT none kX11_low 29 [some (mR 0), some (mI (x0)), some (mI (b)), some (mI ((hd : Int))), some (mI (k))] [] (mkh μ c s) (fun r => r = (some (some (mI (fF (fun k : Nat => ¬ g_steps μ a b (g_st μ ((hd : Int) - (k : Int))) w = -1) n d))), mkh μ c s)) := by
  intro d
  induction d with
  | zero =>
    intro n k ek hn 
    subst ek
    refine rn_iload (k' := 30) rfl rfl rfl ?_
    refine rn_iload_n (k' := 31) rfl rfl rfl ?_
    refine rn_icmp_gt (k' := 32) rfl rfl (fun hc1 => ?_) (fun hc1 => ?_)
    · skip
      refine rn_iconst (k' := 48) rfl rfl ?_
      refine rn_iret rfl (Or.inl rfl) ?_
      rfl
    · exfalso; omega
  | succ d ih =>
    intro n k ek hn 
    subst ek
    refine rn_iload (k' := 30) rfl rfl rfl ?_
    refine rn_iload_n (k' := 31) rfl rfl rfl ?_
    refine rn_icmp_gt (k' := 32) rfl rfl (fun hc1 => ?_) (fun hc1 => ?_)
    · exfalso; omega
    · skip
      refine rn_aload_n (k' := 33) rfl rfl rfl ?_
      refine rn_getR (k' := 34) rfl rfl K0_0 (by decide) rfl R0_0_9 ?_
      refine rn_iload_n (k' := 35) rfl rfl rfl ?_
      refine rn_aload_n (k' := 36) rfl rfl rfl ?_
      refine rn_getR (k' := 37) rfl rfl K0_0 (by decide) rfl R0_0_3 ?_
      refine rn_iload_n (k' := 38) rfl rfl rfl ?_
      refine rn_iload (k' := 39) rfl rfl rfl ?_
      refine rn_isub (k' := 40) rfl rfl (by omega) ?_
      have hb2 := g_st_b hL (a := ((hd : Int) - (n : Int))) (by omega)
      refine rn_callP (k' := 41) (y := 33) (vs := [mR 6, mI ((hd : Int) - (n : Int))]) (S' := [mI (b), mR 74]) (v := some (mI (g_st μ ((hd : Int) - (n : Int))))) (h' := mkh μ c s) rfl rfl rfl (k_stiltsFor (μ := μ) (hL) (by omega)) ?_
      show Rn PT none kX11_low 41 [some (mR 0), some (mI (x0)), some (mI (b)), some (mI ((hd : Int))), some (mI ((n : Int)))] [mI (g_st μ ((hd : Int) - (n : Int))), mI (b), mR 74] (mkh μ c s) _
      by_cases hq3 : ¬ g_steps μ a b (g_st μ ((hd : Int) - (n : Int))) w = -1
      · refine rn_callP (k' := 42) (y := 19) (vs := [mR 74, mI (b), mI (g_st μ ((hd : Int) - (n : Int)))]) (S' := []) (v := some (mI 1)) (h' := mkh μ c s) rfl rfl rfl (by have hz : Cl PT 19 [mR 74, mI (b), mI (g_st μ ((hd : Int) - (n : Int)))] (mkh μ c s) (fun r => r = (some (some (mI (if ¬ g_steps μ a b (g_st μ ((hd : Int) - (n : Int))) w = -1 then 1 else 0))), mkh μ c s)) := k_passesWith hL (a := a) (w := w) (x := b) (t := g_st μ ((hd : Int) - (n : Int))) hMP hx (by omega) (μ := μ) (c := c) (s := s); rw [if_pos hq3] at hz; exact hz) ?_
        show Rn PT none kX11_low 42 [some (mR 0), some (mI (x0)), some (mI (b)), some (mI ((hd : Int))), some (mI ((n : Int)))] [mI (1)] (mkh μ c s) _
        refine rn_if_eq (k' := 43) rfl rfl (fun hc4 => ?_) (fun hc4 => ?_)
        · exfalso; omega
        · skip
          refine rn_iload (k' := 44) rfl rfl rfl ?_
          refine rn_iret rfl (Or.inl rfl) ?_
          rw [fF_pos (p := (fun k : Nat => ¬ g_steps μ a b (g_st μ ((hd : Int) - (k : Int))) w = -1)) (by assumption)]
      · refine rn_callP (k' := 42) (y := 19) (vs := [mR 74, mI (b), mI (g_st μ ((hd : Int) - (n : Int)))]) (S' := []) (v := some (mI 0)) (h' := mkh μ c s) rfl rfl rfl (by have hz : Cl PT 19 [mR 74, mI (b), mI (g_st μ ((hd : Int) - (n : Int)))] (mkh μ c s) (fun r => r = (some (some (mI (if ¬ g_steps μ a b (g_st μ ((hd : Int) - (n : Int))) w = -1 then 1 else 0))), mkh μ c s)) := k_passesWith hL (a := a) (w := w) (x := b) (t := g_st μ ((hd : Int) - (n : Int))) hMP hx (by omega) (μ := μ) (c := c) (s := s); rw [if_neg hq3] at hz; exact hz) ?_
        show Rn PT none kX11_low 42 [some (mR 0), some (mI (x0)), some (mI (b)), some (mI ((hd : Int))), some (mI ((n : Int)))] [mI (0)] (mkh μ c s) _
        refine rn_if_eq (k' := 43) rfl rfl (fun hc5 => ?_) (fun hc5 => ?_)
        · skip
          refine rn_iinc (k' := 46) (L' := [some (mR 0), some (mI (x0)), some (mI (b)), some (mI ((hd : Int))), some (mI ((n : Int) + 1))]) rfl rfl rfl (by omega) rfl ?_
          refine rn_goto rfl ?_
          rw [fF_neg (p := (fun k : Nat => ¬ g_steps μ a b (g_st μ ((hd : Int) - (k : Int))) w = -1)) (by assumption)]
          exact ih (n + 1) _ (by omega) (by omega)
        · exfalso; omega
theorem i_X11_low {μ : Nat → Nat → Int} {c s : Nat} (hL : I_land μ) (hS : I_scene μ) {a0 a1 : Int} (h0 : i32 a0) (h1 : i32 a1) (hv : ¬ ((0 ≤ a0 ∧ a0 < μ 6 13) ∧ g_cell μ a1)) : Cl PT 125 [mR 0, mI a0, mI a1] (mkh μ c s) (fun r => r = (some (some (mI (-1))), mkh μ c s)) := by
  have hL_ := hL
  obtain ⟨lc, lr, le, lm, lw, lh, lwo, lwd, q0, q1, q2, q3, q4, q8, q499, q500, lth, lG, lT, lW, -⟩ := hL_
  have hS_ := hS
  obtain ⟨sd, sw, stk, s4, s5, s6, hC, hH, -, s10, sce, swc, s13⟩ := hS_
  refine ⟨_, PT_125, Nat.le_of_ble_eq_true rfl, ?_⟩
  show Rn PT none kX11_low 0 [some (mR 0), some (mI (a0)), some (mI (a1)), none, none] [] (mkh μ c s) _
  refine rn_aload_n (k' := 1) rfl rfl rfl ?_
  refine rn_iload_n (k' := 2) rfl rfl rfl ?_
  by_cases hq1 : 0 ≤ a0 ∧ a0 < μ 6 13
  · refine rn_callP (k' := 3) (y := 151) (vs := [mR 0, mI (a0)]) (S' := []) (v := some (mI 1)) (h' := mkh μ c s) rfl rfl rfl (by have hz : Cl PT 151 [mR 0, mI (a0)] (mkh μ c s) (fun r => r = (some (some (mI (if 0 ≤ a0 ∧ a0 < μ 6 13 then 1 else 0))), mkh μ c s)) := c_X11_isHerd (hL) (a := a0) (μ := μ) (c := c) (s := s); rw [if_pos hq1] at hz; exact hz) ?_
    show Rn PT none kX11_low 3 [some (mR 0), some (mI (a0)), some (mI (a1)), none, none] [mI (1)] (mkh μ c s) _
    refine rn_if_eq (k' := 4) rfl rfl (fun hc2 => ?_) (fun hc2 => ?_)
    · exfalso; omega
    · skip
      refine rn_aload_n (k' := 5) rfl rfl rfl ?_
      refine rn_getR (k' := 6) rfl rfl K0_0 (by decide) rfl R0_0_3 ?_
      refine rn_iload_n (k' := 7) rfl rfl rfl ?_
      by_cases hq3 : g_cell μ a1
      · refine rn_callP (k' := 8) (y := 30) (vs := [mR 6, mI (a1)]) (S' := []) (v := some (mI 1)) (h' := mkh μ c s) rfl rfl rfl (by have hz : Cl PT 30 [mR 6, mI (a1)] (mkh μ c s) (fun r => r = (some (some (mI (if g_cell μ a1 then 1 else 0))), mkh μ c s)) := k_hasCell (a := a1) (by omega) (μ := μ) (c := c) (s := s); rw [if_pos hq3] at hz; exact hz) ?_
        show Rn PT none kX11_low 8 [some (mR 0), some (mI (a0)), some (mI (a1)), none, none] [mI (1)] (mkh μ c s) _
        refine rn_if_ne (k' := 9) rfl rfl (fun hc4 => ?_) (fun hc4 => ?_)
        · skip
          refine rn_aload_n (k' := 12) rfl rfl rfl ?_
          refine rn_getR (k' := 13) rfl rfl K0_0 (by decide) rfl R0_0_9 ?_
          refine rn_aload_n (k' := 14) rfl rfl rfl ?_
          refine rn_getR (k' := 15) rfl rfl K0_0 (by decide) rfl R0_0_4 ?_
          refine rn_getR (k' := 16) rfl rfl K0_14 (by decide) rfl R0_14_1 ?_
          refine rn_iload_n (k' := 17) rfl rfl rfl ?_
          refine rn_iaload (k' := 18) rfl rfl K0_15 (by omega) (by omega) ?_
          have hb5 := hC ((a0).toNat)
          refine rn_aload_n (k' := 19) rfl rfl rfl ?_
          exfalso; omega
        · exfalso; omega
      · refine rn_callP (k' := 8) (y := 30) (vs := [mR 6, mI (a1)]) (S' := []) (v := some (mI 0)) (h' := mkh μ c s) rfl rfl rfl (by have hz : Cl PT 30 [mR 6, mI (a1)] (mkh μ c s) (fun r => r = (some (some (mI (if g_cell μ a1 then 1 else 0))), mkh μ c s)) := k_hasCell (a := a1) (by omega) (μ := μ) (c := c) (s := s); rw [if_neg hq3] at hz; exact hz) ?_
        show Rn PT none kX11_low 8 [some (mR 0), some (mI (a0)), some (mI (a1)), none, none] [mI (0)] (mkh μ c s) _
        refine rn_if_ne (k' := 9) rfl rfl (fun hc6 => ?_) (fun hc6 => ?_)
        · exfalso; omega
        · skip
          refine rn_iconst (k' := 10) rfl rfl ?_
          refine rn_iret rfl (Or.inl rfl) ?_
          rfl
  · refine rn_callP (k' := 3) (y := 151) (vs := [mR 0, mI (a0)]) (S' := []) (v := some (mI 0)) (h' := mkh μ c s) rfl rfl rfl (by have hz : Cl PT 151 [mR 0, mI (a0)] (mkh μ c s) (fun r => r = (some (some (mI (if 0 ≤ a0 ∧ a0 < μ 6 13 then 1 else 0))), mkh μ c s)) := c_X11_isHerd (hL) (a := a0) (μ := μ) (c := c) (s := s); rw [if_neg hq1] at hz; exact hz) ?_
    show Rn PT none kX11_low 3 [some (mR 0), some (mI (a0)), some (mI (a1)), none, none] [mI (0)] (mkh μ c s) _
    refine rn_if_eq (k' := 4) rfl rfl (fun hc7 => ?_) (fun hc7 => ?_)
    · skip
      refine rn_iconst (k' := 10) rfl rfl ?_
      refine rn_iret rfl (Or.inl rfl) ?_
      rfl
    · exfalso; omega
theorem i_X12_low {μ : Nat → Nat → Int} {c s : Nat} (hL : I_land μ) (hS : I_scene μ) {a0 a1 : Int} (h0 : i32 a0) (h1 : i32 a1) (hv : ¬ ((0 ≤ a0 ∧ a0 < μ 6 13) ∧ g_cell μ a1)) : Cl PT 248 [mR 118, mI a0, mI a1] (mkh μ c s) (fun r => r = (some (some (mI (-1))), mkh (m_set μ 118 0 0) c s)) := by
  have hL_ := hL
  obtain ⟨lc, lr, le, lm, lw, lh, lwo, lwd, q0, q1, q2, q3, q4, q8, q499, q500, lth, lG, lT, lW, -⟩ := hL_
  have hS_ := hS
  obtain ⟨sd, sw, stk, s4, s5, s6, hC, hH, -, s10, sce, swc, s13⟩ := hS_
  refine ⟨_, PT_248, Nat.le_of_ble_eq_true rfl, ?_⟩
  show Rn PT none kX12_low 0 [some (mR 118), some (mI (a0)), some (mI (a1)), none] [] (mkh μ c s) _
  refine rn_aload_n (k' := 1) rfl rfl rfl ?_
  refine rn_iconst (k' := 2) rfl rfl ?_
  refine rn_putI (k' := 3) rfl rfl K0_118 (by decide) rfl ?_
  refine rn_aload_n (k' := 4) rfl rfl rfl ?_
  refine rn_iload_n (k' := 5) rfl rfl rfl ?_
  by_cases hq2 : 0 ≤ a0 ∧ a0 < μ 6 13
  · refine rn_callP (k' := 6) (y := 193) (vs := [mR 118, mI (a0)]) (S' := []) (v := some (mI 1)) (h' := mkh (m_set μ 118 0 (0)) c s) rfl rfl rfl (by have hz : Cl PT 193 [mR 118, mI (a0)] (mkh (m_set μ 118 0 (0)) c s) (fun r => r = (some (some (mI (if 0 ≤ a0 ∧ a0 < μ 6 13 then 1 else 0))), mkh (m_set μ 118 0 (0)) c s)) := c_X12_isHerd ((hL).set rfl) (a := a0) (μ := (m_set μ 118 0 (0))) (c := c) (s := s); rw [if_pos hq2] at hz; exact hz) ?_
    show Rn PT none kX12_low 6 [some (mR 118), some (mI (a0)), some (mI (a1)), none] [mI (1)] (mkh (m_set μ 118 0 (0)) c s) _
    refine rn_if_eq (k' := 7) rfl rfl (fun hc3 => ?_) (fun hc3 => ?_)
    · exfalso; omega
    · skip
      refine rn_aload_n (k' := 8) rfl rfl rfl ?_
      refine rn_iload_n (k' := 9) rfl rfl rfl ?_
      by_cases hq4 : g_cell μ a1
      · refine rn_callP (k' := 10) (y := 192) (vs := [mR 118, mI (a1)]) (S' := []) (v := some (mI 1)) (h' := mkh (m_set μ 118 0 (0)) c s) rfl rfl rfl (by have hz : Cl PT 192 [mR 118, mI (a1)] (mkh (m_set μ 118 0 (0)) c s) (fun r => r = (some (some (mI (if g_cell μ a1 then 1 else 0))), mkh (m_set μ 118 0 (0)) c s)) := c_X12_isCell ((hL).set rfl) (a := a1) (by omega) (μ := (m_set μ 118 0 (0))) (c := c) (s := s); rw [if_pos hq4] at hz; exact hz) ?_
        show Rn PT none kX12_low 10 [some (mR 118), some (mI (a0)), some (mI (a1)), none] [mI (1)] (mkh (m_set μ 118 0 (0)) c s) _
        refine rn_if_ne (k' := 11) rfl rfl (fun hc5 => ?_) (fun hc5 => ?_)
        · skip
          refine rn_aload_n (k' := 14) rfl rfl rfl ?_
          refine rn_aload_n (k' := 15) rfl rfl rfl ?_
          refine rn_getR (k' := 16) rfl rfl K0_118 (by decide) rfl R0_118_6 ?_
          refine rn_sipush (k' := 17) rfl rfl ?_
          refine rn_iaload (k' := 18) rfl rfl K0_120 (by omega) (by omega) ?_
          show Rn PT none kX12_low 18 [some (mR 118), some (mI (a0)), some (mI (a1)), none] [mI (μ 120 517), mR 118] (mkh (m_set μ 118 0 (0)) c s) _
          rw [s4]
          exfalso; omega
        · exfalso; omega
      · refine rn_callP (k' := 10) (y := 192) (vs := [mR 118, mI (a1)]) (S' := []) (v := some (mI 0)) (h' := mkh (m_set μ 118 0 (0)) c s) rfl rfl rfl (by have hz : Cl PT 192 [mR 118, mI (a1)] (mkh (m_set μ 118 0 (0)) c s) (fun r => r = (some (some (mI (if g_cell μ a1 then 1 else 0))), mkh (m_set μ 118 0 (0)) c s)) := c_X12_isCell ((hL).set rfl) (a := a1) (by omega) (μ := (m_set μ 118 0 (0))) (c := c) (s := s); rw [if_neg hq4] at hz; exact hz) ?_
        show Rn PT none kX12_low 10 [some (mR 118), some (mI (a0)), some (mI (a1)), none] [mI (0)] (mkh (m_set μ 118 0 (0)) c s) _
        refine rn_if_ne (k' := 11) rfl rfl (fun hc6 => ?_) (fun hc6 => ?_)
        · exfalso; omega
        · skip
          refine rn_iconst (k' := 12) rfl rfl ?_
          refine rn_iret rfl (Or.inl rfl) ?_
          rfl
  · refine rn_callP (k' := 6) (y := 193) (vs := [mR 118, mI (a0)]) (S' := []) (v := some (mI 0)) (h' := mkh (m_set μ 118 0 (0)) c s) rfl rfl rfl (by have hz : Cl PT 193 [mR 118, mI (a0)] (mkh (m_set μ 118 0 (0)) c s) (fun r => r = (some (some (mI (if 0 ≤ a0 ∧ a0 < μ 6 13 then 1 else 0))), mkh (m_set μ 118 0 (0)) c s)) := c_X12_isHerd ((hL).set rfl) (a := a0) (μ := (m_set μ 118 0 (0))) (c := c) (s := s); rw [if_neg hq2] at hz; exact hz) ?_
    show Rn PT none kX12_low 6 [some (mR 118), some (mI (a0)), some (mI (a1)), none] [mI (0)] (mkh (m_set μ 118 0 (0)) c s) _
    refine rn_if_eq (k' := 7) rfl rfl (fun hc7 => ?_) (fun hc7 => ?_)
    · skip
      refine rn_iconst (k' := 12) rfl rfl ?_
      refine rn_iret rfl (Or.inl rfl) ?_
      rfl
    · exfalso; omega
set_option maxHeartbeats 4000000 in
theorem t_X11_low {μ : Nat → Nat → Int} {c s : Nat} (hL : I_land μ) (hS : I_scene μ) {a0 a1 : Int} (h0 : i32 a0) (h1 : i32 a1) : Cl PT 125 [mR 0, mI a0, mI a1] (mkh μ c s) (fun r => ∃ μ1, r = (some (some (mI (if (0 ≤ a0 ∧ a0 < μ 6 13) ∧ g_cell μ a1 then fF (fun k : Nat => ¬ g_steps μ (μ 15 a0.toNat) a1 (g_st μ ((μ 16 a0.toNat) - (k : Int))) (g_w μ 0 (μ 14 0)) = -1) 0 ((μ 16 a0.toNat).toNat + 1) else -1))), mkh μ1 c s) ∧ rst μ1 = rst μ) := by
  have hL_ := hL
  obtain ⟨lc, lr, le, lm, lw, lh, lwo, lwd, q0, q1, q2, q3, q4, q8, q499, q500, lth, lG, lT, lW, -⟩ := hL_
  have hS_ := hS
  obtain ⟨sd, sw, stk, s4, s5, s6, hC, hH, -, s10, sce, swc, s13⟩ := hS_
  by_cases hv : (0 ≤ a0 ∧ a0 < μ 6 13) ∧ g_cell μ a1
  · rw [if_pos hv]
    have hv_ := hv
    obtain ⟨hv1, hv2⟩ := hv_
    have hcl0 := sc_cell hS (n := a0.toNat) (by omega)
    have hhb := hH a0.toNat
    obtain ⟨hd, ehd⟩ := Int.eq_ofNat_of_zero_le (hH a0.toNat).1
    refine ⟨_, PT_125, Nat.le_of_ble_eq_true rfl, ?_⟩
    show Rn PT none kX11_low 0 [some (mR 0), some (mI (a0)), some (mI (a1)), none, none] [] (mkh μ c s) _
    refine rn_aload_n (k' := 1) rfl rfl rfl ?_
    refine rn_iload_n (k' := 2) rfl rfl rfl ?_
    by_cases hq1 : 0 ≤ a0 ∧ a0 < μ 6 13
    · refine rn_callP (k' := 3) (y := 151) (vs := [mR 0, mI (a0)]) (S' := []) (v := some (mI 1)) (h' := mkh μ c s) rfl rfl rfl (by have hz : Cl PT 151 [mR 0, mI (a0)] (mkh μ c s) (fun r => r = (some (some (mI (if 0 ≤ a0 ∧ a0 < μ 6 13 then 1 else 0))), mkh μ c s)) := c_X11_isHerd (hL) (a := a0) (μ := μ) (c := c) (s := s); rw [if_pos hq1] at hz; exact hz) ?_
      show Rn PT none kX11_low 3 [some (mR 0), some (mI (a0)), some (mI (a1)), none, none] [mI (1)] (mkh μ c s) _
      refine rn_if_eq (k' := 4) rfl rfl (fun hc2 => ?_) (fun hc2 => ?_)
      · exfalso; omega
      · skip
        refine rn_aload_n (k' := 5) rfl rfl rfl ?_
        refine rn_getR (k' := 6) rfl rfl K0_0 (by decide) rfl R0_0_3 ?_
        refine rn_iload_n (k' := 7) rfl rfl rfl ?_
        by_cases hq3 : g_cell μ a1
        · refine rn_callP (k' := 8) (y := 30) (vs := [mR 6, mI (a1)]) (S' := []) (v := some (mI 1)) (h' := mkh μ c s) rfl rfl rfl (by have hz : Cl PT 30 [mR 6, mI (a1)] (mkh μ c s) (fun r => r = (some (some (mI (if g_cell μ a1 then 1 else 0))), mkh μ c s)) := k_hasCell (a := a1) (by omega) (μ := μ) (c := c) (s := s); rw [if_pos hq3] at hz; exact hz) ?_
          show Rn PT none kX11_low 8 [some (mR 0), some (mI (a0)), some (mI (a1)), none, none] [mI (1)] (mkh μ c s) _
          refine rn_if_ne (k' := 9) rfl rfl (fun hc4 => ?_) (fun hc4 => ?_)
          · skip
            refine rn_aload_n (k' := 12) rfl rfl rfl ?_
            refine rn_getR (k' := 13) rfl rfl K0_0 (by decide) rfl R0_0_9 ?_
            refine rn_aload_n (k' := 14) rfl rfl rfl ?_
            refine rn_getR (k' := 15) rfl rfl K0_0 (by decide) rfl R0_0_4 ?_
            refine rn_getR (k' := 16) rfl rfl K0_14 (by decide) rfl R0_14_1 ?_
            refine rn_iload_n (k' := 17) rfl rfl rfl ?_
            refine rn_iaload (k' := 18) rfl rfl K0_15 (by omega) (by omega) ?_
            have hb5 := hC ((a0).toNat)
            refine rn_aload_n (k' := 19) rfl rfl rfl ?_
            have hb6 := g_w_b hL 0 (μ 14 0)
            refine rn_callP (k' := 20) (y := 156) (vs := [mR 0]) (S' := [mI (μ 15 ((a0).toNat)), mR 74]) (v := some (mI (g_w μ 0 (μ 14 0)))) (h' := mkh μ c s) rfl rfl rfl (c_X11_waterToday (μ := μ) (hL) (by show 0 ≤ μ 14 0 ∧ μ 14 0 ≤ 29; omega)) ?_
            show Rn PT none kX11_low 20 [some (mR 0), some (mI (a0)), some (mI (a1)), none, none] [mI (g_w μ 0 (μ 14 0)), mI (μ 15 ((a0).toNat)), mR 74] (mkh μ c s) _
            obtain ⟨M, ⟨hMr, hM0⟩, hcl⟩ := c_passFrom (μ := μ) (c := c) (s := s) hL (a := μ 15 a0.toNat) (w := (g_w μ 0 (μ 14 0))) (by assumption) (by omega)
            have hMP := pf_of hMr hM0
            have hrT := rm_rst hMr
            have hLM := land_rows hL hrT
            have hSM := scene_rows hS hrT
            have e6 := row_rst hMr (a := 6) (fun _ => rfl)
            have e14 := row_rst hMr (a := 14) (fun _ => rfl)
            have e15 := row_rst hMr (a := 15) (fun _ => rfl)
            have e16 := row_rst hMr (a := 16) (fun _ => rfl)
            have e10 := row_rst hMr (a := 10) (fun _ => rfl)
            refine rn_callP (k' := 21) (y := 18) (vs := [mR 74, mI (μ 15 ((a0).toNat)), mI (g_w μ 0 (μ 14 0))]) (S' := []) (v := none) (h' := mkh M c s) rfl rfl rfl (hcl) ?_
            show Rn PT none kX11_low 21 [some (mR 0), some (mI (a0)), some (mI (a1)), none, none] [] (mkh M c s) _
            refine rn_aload_n (k' := 22) rfl rfl rfl ?_
            refine rn_getR (k' := 23) rfl rfl K0_0 (by decide) rfl R0_0_4 ?_
            refine rn_getR (k' := 24) rfl rfl K0_14 (by decide) rfl R0_14_2 ?_
            refine rn_iload_n (k' := 25) rfl rfl rfl ?_
            refine rn_iaload (k' := 26) rfl rfl K0_16 (by omega) (by omega) ?_
            have hb7 := hH ((a0).toNat)
            refine rn_istore_n (k' := 27) (L' := [some (mR 0), some (mI (a0)), some (mI (a1)), some (mI (M 16 ((a0).toNat))), none]) rfl rfl (Nat.le_of_ble_eq_true rfl) rfl ?_
            refine rn_iconst (k' := 28) rfl rfl ?_
            refine rn_istore (k' := 29) (L' := [some (mR 0), some (mI (a0)), some (mI (a1)), some (mI (M 16 ((a0).toNat))), some (mI (0))]) rfl rfl (Nat.le_of_ble_eq_true rfl) rfl ?_
            rw [show M 16 a0.toNat = (hd : Int) by rw [e16]; exact ehd]
            have h := l_X11_low (μ := M) (c := c) (s := s) hLM (a := μ 15 a0.toNat) (b := a1) (w := (g_w μ 0 (μ 14 0))) (by unfold g_cell; rw [e6]; exact hv2) hMP (x0 := a0) (hd := hd) (by omega) (hd + 1) 0 _ rfl (by omega)
            have eS : g_st M = g_st μ := by delta g_st; rw [e6]
            rw [g_steps_rows e6 (row_rst hMr (a := 7) (fun _ => rfl)) (row_rst hMr (a := 8) (fun _ => rfl)), eS] at h
            rw [ehd, show ((hd : Int)).toNat = hd from rfl]
            exact h.mono (fun r hr => ⟨M, hr, hMr⟩)
          · exfalso; omega
        · exfalso; omega
    · exfalso; omega
  · rw [if_neg hv]
    exact (i_X11_low hL hS h0 h1 hv).mono (fun r hr => ⟨_, hr, rfl⟩)
set_option maxHeartbeats 4000000 in
theorem l_X12_low {μ : Nat → Nat → Int} {c s : Nat} (hL : I_land μ) (hS : I_scene μ) {a0 a1 : Int} (hv1 : 0 ≤ a0 ∧ a0 < μ 6 13) (hv2 : g_cell μ a1) : ∀ (d n : Nat) (k : Int) (F : Nat → Int) (q : Nat → Int), k = (n : Int) → (n : Int) + d = (μ 16 a0.toNat) + 1 → Rn PT none kX12_low 21 [some (mR 118), some (mI (a0)), some (mI (a1)), some (mI (k))] [] (mkh (m_upd (m_upd (m_set (m_set (m_set μ 118 0 (0)) 118 22 (g_w μ 0 (μ 14 0))) 118 23 (g_w μ 1 (μ 14 0))) 125 F) 126 q) c s) (fun r => ∃ μ1, r = (some (some (mI (fF (fun k : Nat => ¬ g_steps μ (μ 15 a0.toNat) a1 (g_st μ ((μ 16 a0.toNat) - (k : Int))) (g_w μ 0 (μ 14 0)) = -1) n d))), mkh μ1 c s) ∧ rst μ1 = rst μ) := by
  have hL_ := hL
  obtain ⟨lc, lr, le, lm, lw, lh, lwo, lwd, q0, q1, q2, q3, q4, q8, q499, q500, lth, lG, lT, lW, -⟩ := hL_
  have hS_ := hS
  obtain ⟨sd, sw, stk, s4, s5, s6, hC, hH, -, s10, sce, swc, s13⟩ := hS_
  have hwb := g_w_b hL 0 (μ 14 0)
  have hhb := hH a0.toNat
  intro d
  induction d with
  | zero =>
    intro n k F q ek hn 
    subst ek
    refine rn_iload_n (k' := 22) rfl rfl rfl ?_
    refine rn_aload_n (k' := 23) rfl rfl rfl ?_
    refine rn_getR (k' := 24) rfl rfl K0_118 (by decide) rfl R0_118_6 ?_
    refine rn_sipush (k' := 25) rfl rfl ?_
    refine rn_iload_n (k' := 26) rfl rfl rfl ?_
    refine rn_iadd (k' := 27) rfl rfl (by omega) ?_
    refine rn_iaload (k' := 28) rfl rfl K0_120 (by omega) (by omega) ?_
    show Rn PT none kX12_low 28 [some (mR 118), some (mI (a0)), some (mI (a1)), some (mI ((n : Int)))] [mI (μ 120 ((526 + a0).toNat)), mI ((n : Int))] (mkh (m_upd (m_upd (m_set (m_set (m_set μ 118 0 (0)) 118 22 (g_w μ 0 (μ 14 0))) 118 23 (g_w μ 1 (μ 14 0))) 125 F) 126 q) c s) _
    rw [(v_hd hS (a := a0) (by omega)).1]
    have hb1 := (v_hd hS (a := a0) (by omega)).2
    refine rn_icmp_gt (k' := 29) rfl rfl (fun hc2 => ?_) (fun hc2 => ?_)
    · skip
      refine rn_iconst (k' := 47) rfl rfl ?_
      refine rn_iret rfl (Or.inl rfl) ?_
      exact ⟨(m_upd (m_upd (m_set (m_set (m_set μ 118 0 (0)) 118 22 (g_w μ 0 (μ 14 0))) 118 23 (g_w μ 1 (μ 14 0))) 125 F) 126 q), rfl, ((rst_upd (a := 126) (fun _ => rfl)).trans ((rst_upd (a := 125) (fun _ => rfl)).trans ((rst_set (a := 118) (j := 23) rfl).trans ((rst_set (a := 118) (j := 22) rfl).trans (rst_set (a := 118) (j := 0) rfl)))))⟩
    · exfalso; omega
  | succ d ih =>
    intro n k F q ek hn 
    subst ek
    refine rn_iload_n (k' := 22) rfl rfl rfl ?_
    refine rn_aload_n (k' := 23) rfl rfl rfl ?_
    refine rn_getR (k' := 24) rfl rfl K0_118 (by decide) rfl R0_118_6 ?_
    refine rn_sipush (k' := 25) rfl rfl ?_
    refine rn_iload_n (k' := 26) rfl rfl rfl ?_
    refine rn_iadd (k' := 27) rfl rfl (by omega) ?_
    refine rn_iaload (k' := 28) rfl rfl K0_120 (by omega) (by omega) ?_
    show Rn PT none kX12_low 28 [some (mR 118), some (mI (a0)), some (mI (a1)), some (mI ((n : Int)))] [mI (μ 120 ((526 + a0).toNat)), mI ((n : Int))] (mkh (m_upd (m_upd (m_set (m_set (m_set μ 118 0 (0)) 118 22 (g_w μ 0 (μ 14 0))) 118 23 (g_w μ 1 (μ 14 0))) 125 F) 126 q) c s) _
    rw [(v_hd hS (a := a0) (by omega)).1]
    have hb1 := (v_hd hS (a := a0) (by omega)).2
    refine rn_icmp_gt (k' := 29) rfl rfl (fun hc2 => ?_) (fun hc2 => ?_)
    · exfalso; omega
    · skip
      refine rn_aload_n (k' := 30) rfl rfl rfl ?_
      refine rn_iload_n (k' := 31) rfl rfl rfl ?_
      refine rn_iload_n (k' := 32) rfl rfl rfl ?_
      refine rn_aload_n (k' := 33) rfl rfl rfl ?_
      refine rn_getR (k' := 34) rfl rfl K0_118 (by decide) rfl R0_118_6 ?_
      refine rn_sipush (k' := 35) rfl rfl ?_
      refine rn_iload_n (k' := 36) rfl rfl rfl ?_
      refine rn_iadd (k' := 37) rfl rfl (by omega) ?_
      refine rn_iaload (k' := 38) rfl rfl K0_120 (by omega) (by omega) ?_
      show Rn PT none kX12_low 38 [some (mR 118), some (mI (a0)), some (mI (a1)), some (mI ((n : Int)))] [mI (μ 120 ((526 + a0).toNat)), mI (a1), mI (a0), mR 118] (mkh (m_upd (m_upd (m_set (m_set (m_set μ 118 0 (0)) 118 22 (g_w μ 0 (μ 14 0))) 118 23 (g_w μ 1 (μ 14 0))) 125 F) 126 q) c s) _
      rw [(v_hd hS (a := a0) (by omega)).1]
      have hb3 := (v_hd hS (a := a0) (by omega)).2
      refine rn_iload_n (k' := 39) rfl rfl rfl ?_
      refine rn_isub (k' := 40) rfl rfl (by omega) ?_
      have hsq4 := g_st_b hL (a := (μ 16 (a0).toNat) - (n : Int)) (by omega)
      obtain ⟨F4, q4, T4, hT4, hcl4⟩ := c_passesBy (μ := (m_upd (m_upd (m_set (m_set (m_set μ 118 0 (0)) 118 22 (g_w μ 0 (μ 14 0))) 118 23 (g_w μ 1 (μ 14 0))) 125 F) 126 q)) (c := c) (s := s) ((((((hL).set rfl).set rfl).set rfl).upd rfl).upd rfl) ((((((hS).set rfl).set rfl).set rfl).upd rfl).upd rfl) (by show 0 ≤ (g_w μ 0 (μ 14 0)) ∧ (g_w μ 0 (μ 14 0)) ≤ 1000; omega) (a := a0) (b := a1) (e := (μ 16 (a0).toNat) - (n : Int)) hv1 hv2 (by omega)
      rw [g_steps_rows (ν := (m_upd (m_upd (m_set (m_set (m_set μ 118 0 (0)) 118 22 (g_w μ 0 (μ 14 0))) 118 23 (g_w μ 1 (μ 14 0))) 125 F) 126 q)) (μ := μ) rfl rfl rfl] at hT4
      have hT : (g_steps μ (μ 15 a0.toNat) a1 (g_st μ ((μ 16 (a0).toNat) - (n : Int))) (g_w μ 0 (μ 14 0)) = -1 ∧ T4 = 0) ∨ (0 ≤ g_steps μ (μ 15 a0.toNat) a1 (g_st μ ((μ 16 (a0).toNat) - (n : Int))) (g_w μ 0 (μ 14 0)) ∧ T4 = 1) := hT4
      refine rn_callP (k' := 41) (y := 247) (vs := [mR 118, mI (a0), mI (a1), mI ((μ 16 (a0).toNat) - (n : Int))]) (S' := []) (v := some (mI (T4))) (h' := mkh (m_upd (m_upd (m_upd (m_upd (m_set (m_set (m_set μ 118 0 (0)) 118 22 (g_w μ 0 (μ 14 0))) 118 23 (g_w μ 1 (μ 14 0))) 125 F) 126 q) 125 F4) 126 q4) c s) rfl rfl rfl (hcl4) ?_
      show Rn PT none kX12_low 41 [some (mR 118), some (mI (a0)), some (mI (a1)), some (mI ((n : Int)))] [mI (T4)] (mkh (m_upd (m_upd (m_upd (m_upd (m_set (m_set (m_set μ 118 0 (0)) 118 22 (g_w μ 0 (μ 14 0))) 118 23 (g_w μ 1 (μ 14 0))) 125 F) 126 q) 125 F4) 126 q4) c s) _
      refine rn_if_eq (k' := 42) rfl rfl (fun hc5 => ?_) (fun hc5 => ?_)
      · skip
        refine rn_iinc (k' := 45) (L' := [some (mR 118), some (mI (a0)), some (mI (a1)), some (mI ((n : Int) + 1))]) rfl rfl rfl (by omega) rfl ?_
        refine rn_goto rfl ?_
        show Rn PT none kX12_low 21 [some (mR 118), some (mI (a0)), some (mI (a1)), some (mI ((n : Int) + 1))] [] (mkh (m_upd (m_upd (m_upd (m_upd (m_set (m_set (m_set μ 118 0 (0)) 118 22 (g_w μ 0 (μ 14 0))) 118 23 (g_w μ 1 (μ 14 0))) 125 F) 126 q) 125 F4) 126 q4) c s) _
        rw [upd2_of (μ := (m_set (m_set (m_set μ 118 0 (0)) 118 22 (g_w μ 0 (μ 14 0))) 118 23 (g_w μ 1 (μ 14 0)))) (ν := (m_upd (m_upd (m_upd (m_upd (m_set (m_set (m_set μ 118 0 (0)) 118 22 (g_w μ 0 (μ 14 0))) 118 23 (g_w μ 1 (μ 14 0))) 125 F) 126 q) 125 F4) 126 q4)) (x := 125) (y := 126) (fun b hb125 hb126 => (row_upd hb126).trans ((row_upd hb125).trans ((row_upd hb126).trans (row_upd hb125))))]
        rw [fF_neg (p := (fun k : Nat => ¬ g_steps μ (μ 15 a0.toNat) a1 (g_st μ ((μ 16 a0.toNat) - (k : Int))) (g_w μ 0 (μ 14 0)) = -1)) (fun z => by omega)]
        exact ih (n + 1) _ _ _ (by omega) (by omega)
      · skip
        refine rn_iload_n (k' := 43) rfl rfl rfl ?_
        refine rn_iret rfl (Or.inl rfl) ?_
        refine ⟨(m_upd (m_upd (m_upd (m_upd (m_set (m_set (m_set μ 118 0 (0)) 118 22 (g_w μ 0 (μ 14 0))) 118 23 (g_w μ 1 (μ 14 0))) 125 F) 126 q) 125 F4) 126 q4), ?_, ((rst_upd (a := 126) (fun _ => rfl)).trans ((rst_upd (a := 125) (fun _ => rfl)).trans ((rst_upd (a := 126) (fun _ => rfl)).trans ((rst_upd (a := 125) (fun _ => rfl)).trans ((rst_set (a := 118) (j := 23) rfl).trans ((rst_set (a := 118) (j := 22) rfl).trans (rst_set (a := 118) (j := 0) rfl)))))))⟩
        rw [fF_pos (p := (fun k : Nat => ¬ g_steps μ (μ 15 a0.toNat) a1 (g_st μ ((μ 16 a0.toNat) - (k : Int))) (g_w μ 0 (μ 14 0)) = -1)) (by omega)]
set_option maxHeartbeats 4000000 in
theorem t_X12_low {μ : Nat → Nat → Int} {c s : Nat} (hL : I_land μ) (hS : I_scene μ) {a0 a1 : Int} (h0 : i32 a0) (h1 : i32 a1) : Cl PT 248 [mR 118, mI a0, mI a1] (mkh μ c s) (fun r => ∃ μ1, r = (some (some (mI (if (0 ≤ a0 ∧ a0 < μ 6 13) ∧ g_cell μ a1 then fF (fun k : Nat => ¬ g_steps μ (μ 15 a0.toNat) a1 (g_st μ ((μ 16 a0.toNat) - (k : Int))) (g_w μ 0 (μ 14 0)) = -1) 0 ((μ 16 a0.toNat).toNat + 1) else -1))), mkh μ1 c s) ∧ rst μ1 = rst μ) := by
  have hL_ := hL
  obtain ⟨lc, lr, le, lm, lw, lh, lwo, lwd, q0, q1, q2, q3, q4, q8, q499, q500, lth, lG, lT, lW, -⟩ := hL_
  have hS_ := hS
  obtain ⟨sd, sw, stk, s4, s5, s6, hC, hH, -, s10, sce, swc, s13⟩ := hS_
  by_cases hv : (0 ≤ a0 ∧ a0 < μ 6 13) ∧ g_cell μ a1
  · rw [if_pos hv]
    have hv_ := hv
    obtain ⟨hv1, hv2⟩ := hv_
    have hhb := hH a0.toNat
    refine ⟨_, PT_248, Nat.le_of_ble_eq_true rfl, ?_⟩
    show Rn PT none kX12_low 0 [some (mR 118), some (mI (a0)), some (mI (a1)), none] [] (mkh μ c s) _
    refine rn_aload_n (k' := 1) rfl rfl rfl ?_
    refine rn_iconst (k' := 2) rfl rfl ?_
    refine rn_putI (k' := 3) rfl rfl K0_118 (by decide) rfl ?_
    refine rn_aload_n (k' := 4) rfl rfl rfl ?_
    refine rn_iload_n (k' := 5) rfl rfl rfl ?_
    by_cases hq2 : 0 ≤ a0 ∧ a0 < μ 6 13
    · refine rn_callP (k' := 6) (y := 193) (vs := [mR 118, mI (a0)]) (S' := []) (v := some (mI 1)) (h' := mkh (m_set μ 118 0 (0)) c s) rfl rfl rfl (by have hz : Cl PT 193 [mR 118, mI (a0)] (mkh (m_set μ 118 0 (0)) c s) (fun r => r = (some (some (mI (if 0 ≤ a0 ∧ a0 < μ 6 13 then 1 else 0))), mkh (m_set μ 118 0 (0)) c s)) := c_X12_isHerd ((hL).set rfl) (a := a0) (μ := (m_set μ 118 0 (0))) (c := c) (s := s); rw [if_pos hq2] at hz; exact hz) ?_
      show Rn PT none kX12_low 6 [some (mR 118), some (mI (a0)), some (mI (a1)), none] [mI (1)] (mkh (m_set μ 118 0 (0)) c s) _
      refine rn_if_eq (k' := 7) rfl rfl (fun hc3 => ?_) (fun hc3 => ?_)
      · exfalso; omega
      · skip
        refine rn_aload_n (k' := 8) rfl rfl rfl ?_
        refine rn_iload_n (k' := 9) rfl rfl rfl ?_
        by_cases hq4 : g_cell μ a1
        · refine rn_callP (k' := 10) (y := 192) (vs := [mR 118, mI (a1)]) (S' := []) (v := some (mI 1)) (h' := mkh (m_set μ 118 0 (0)) c s) rfl rfl rfl (by have hz : Cl PT 192 [mR 118, mI (a1)] (mkh (m_set μ 118 0 (0)) c s) (fun r => r = (some (some (mI (if g_cell μ a1 then 1 else 0))), mkh (m_set μ 118 0 (0)) c s)) := c_X12_isCell ((hL).set rfl) (a := a1) (by omega) (μ := (m_set μ 118 0 (0))) (c := c) (s := s); rw [if_pos hq4] at hz; exact hz) ?_
          show Rn PT none kX12_low 10 [some (mR 118), some (mI (a0)), some (mI (a1)), none] [mI (1)] (mkh (m_set μ 118 0 (0)) c s) _
          refine rn_if_ne (k' := 11) rfl rfl (fun hc5 => ?_) (fun hc5 => ?_)
          · skip
            refine rn_aload_n (k' := 14) rfl rfl rfl ?_
            refine rn_aload_n (k' := 15) rfl rfl rfl ?_
            refine rn_getR (k' := 16) rfl rfl K0_118 (by decide) rfl R0_118_6 ?_
            refine rn_sipush (k' := 17) rfl rfl ?_
            refine rn_iaload (k' := 18) rfl rfl K0_120 (by omega) (by omega) ?_
            show Rn PT none kX12_low 18 [some (mR 118), some (mI (a0)), some (mI (a1)), none] [mI (μ 120 517), mR 118] (mkh (m_set μ 118 0 (0)) c s) _
            rw [s4]
            have hb6 := g_w_b hL 0 (μ 14 0)
            have hc906 := g_w_b hL 1 (μ 14 0)
            refine rn_callP (k' := 19) (y := 201) (vs := [mR 118, mI (μ 14 0)]) (S' := []) (v := none) (h' := mkh (m_set (m_set (m_set μ 118 0 (0)) 118 22 (g_w μ 0 (μ 14 0))) 118 23 (g_w μ 1 (μ 14 0))) c s) rfl rfl rfl (c_X12_of (μ := (m_set μ 118 0 (0))) ((hL).set rfl) (by omega)) ?_
            show Rn PT none kX12_low 19 [some (mR 118), some (mI (a0)), some (mI (a1)), none] [] (mkh (m_set (m_set (m_set μ 118 0 (0)) 118 22 (g_w μ 0 (μ 14 0))) 118 23 (g_w μ 1 (μ 14 0))) c s) _
            refine rn_iconst (k' := 20) rfl rfl ?_
            refine rn_istore_n (k' := 21) (L' := [some (mR 118), some (mI (a0)), some (mI (a1)), some (mI (0))]) rfl rfl (Nat.le_of_ble_eq_true rfl) rfl ?_
            have h := l_X12_low (c := c) (s := s) hL hS hv1 hv2 ((μ 16 a0.toNat).toNat + 1) 0 _ ((m_set (m_set (m_set μ 118 0 (0)) 118 22 (g_w μ 0 (μ 14 0))) 118 23 (g_w μ 1 (μ 14 0))) 125) ((m_set (m_set (m_set μ 118 0 (0)) 118 22 (g_w μ 0 (μ 14 0))) 118 23 (g_w μ 1 (μ 14 0))) 126) rfl (by omega)
            rw [show m_upd (m_upd (m_set (m_set (m_set μ 118 0 (0)) 118 22 (g_w μ 0 (μ 14 0))) 118 23 (g_w μ 1 (μ 14 0))) 125 ((m_set (m_set (m_set μ 118 0 (0)) 118 22 (g_w μ 0 (μ 14 0))) 118 23 (g_w μ 1 (μ 14 0))) 125)) 126 ((m_set (m_set (m_set μ 118 0 (0)) 118 22 (g_w μ 0 (μ 14 0))) 118 23 (g_w μ 1 (μ 14 0))) 126) = (m_set (m_set (m_set μ 118 0 (0)) 118 22 (g_w μ 0 (μ 14 0))) 118 23 (g_w μ 1 (μ 14 0))) from by rw [upd_self]; exact upd_self] at h
            exact h
          · exfalso; omega
        · exfalso; omega
    · exfalso; omega
  · rw [if_neg hv]
    exact (i_X12_low hL hS h0 h1 hv).mono (fun r hr => ⟨_, hr, rst_set rfl⟩)
theorem pair_30 : ∀ (a0 : Int), ∀ (a1 : Int), i32 a0 → i32 a1 → PairI (Inv N) 125 248 [mI a0, mI a1] := by
  intro a0 a1 ha0 ha1
  exact pair_of (fun μ => (if (0 ≤ a0 ∧ a0 < μ 6 13) ∧ g_cell μ a1 then fF (fun k : Nat => ¬ g_steps μ (μ 15 a0.toNat) a1 (g_st μ ((μ 16 a0.toNat) - (k : Int))) (g_w μ 0 (μ 14 0)) = -1) 0 ((μ 16 a0.toNat).toNat + 1) else -1)) (fun μ c s hI => t_X11_low hI.land hI.scene ha0 ha1) (fun μ c s hI => t_X12_low hI.land hI.scene ha0 ha1) (fun μ ν h => by
    have e6 := row_rst h (a := 6) (fun _ => rfl)
    have e7 := row_rst h (a := 7) (fun _ => rfl)
    have e8 := row_rst h (a := 8) (fun _ => rfl)
    have e10 := row_rst h (a := 10) (fun _ => rfl)
    have e14 := row_rst h (a := 14) (fun _ => rfl)
    have e15 := row_rst h (a := 15) (fun _ => rfl)
    have e16 := row_rst h (a := 16) (fun _ => rfl)
    have eW : g_w ν = g_w μ := by delta g_w; rw [e10]
    have eS : g_st ν = g_st μ := by delta g_st; rw [e6]
    show (if (0 ≤ a0 ∧ a0 < ν 6 13) ∧ g_cell ν a1 then fF (fun k : Nat => ¬ g_steps ν (ν 15 a0.toNat) a1 (g_st ν ((ν 16 a0.toNat) - (k : Int))) (g_w ν 0 (ν 14 0)) = -1) 0 ((ν 16 a0.toNat).toNat + 1) else -1) = (if (0 ≤ a0 ∧ a0 < μ 6 13) ∧ g_cell μ a1 then fF (fun k : Nat => ¬ g_steps μ (μ 15 a0.toNat) a1 (g_st μ ((μ 16 a0.toNat) - (k : Int))) (g_w μ 0 (μ 14 0)) = -1) 0 ((μ 16 a0.toNat).toNat + 1) else -1)
    rw [g_steps_rows e6 e7 e8, eW]
    try rw [e14]
    try rw [e15]
    try rw [e16]
    try rw [eS]
    try unfold g_cell
    try rw [e6])
set_option maxHeartbeats 4000000 in
theorem l_X11_high {μ : Nat → Nat → Int} {c s : Nat} (hL : I_land μ) {a b w : Int} (hx : g_cell μ b) (hMP : PF μ a w) {x0 : Int} {hd : Nat} (hhd : hd ≤ 99) : ∀ (d n : Nat) (k : Int), k = (n : Int) → n + hd + d = 100 → Rn PT none kX11_high 29 [some (mR 0), some (mI (x0)), some (mI (b)), some (mI ((hd : Int))), some (mI (k))] [] (mkh μ c s) (fun r => r = (some (some (mI (fF (fun k : Nat => ¬ g_steps μ a b (g_st μ ((hd : Int) + (k : Int))) w = -1) n d))), mkh μ c s)) := by
  intro d
  induction d with
  | zero =>
    intro n k ek hn 
    subst ek
    refine rn_iload_n (k' := 30) rfl rfl rfl ?_
    refine rn_iload (k' := 31) rfl rfl rfl ?_
    refine rn_iadd (k' := 32) rfl rfl (by omega) ?_
    refine rn_bipush (k' := 33) rfl rfl ?_
    refine rn_icmp_gt (k' := 34) rfl rfl (fun hc1 => ?_) (fun hc1 => ?_)
    · skip
      refine rn_iconst (k' := 50) rfl rfl ?_
      refine rn_iret rfl (Or.inl rfl) ?_
      rfl
    · exfalso; omega
  | succ d ih =>
    intro n k ek hn 
    subst ek
    refine rn_iload_n (k' := 30) rfl rfl rfl ?_
    refine rn_iload (k' := 31) rfl rfl rfl ?_
    refine rn_iadd (k' := 32) rfl rfl (by omega) ?_
    refine rn_bipush (k' := 33) rfl rfl ?_
    refine rn_icmp_gt (k' := 34) rfl rfl (fun hc1 => ?_) (fun hc1 => ?_)
    · exfalso; omega
    · skip
      refine rn_aload_n (k' := 35) rfl rfl rfl ?_
      refine rn_getR (k' := 36) rfl rfl K0_0 (by decide) rfl R0_0_9 ?_
      refine rn_iload_n (k' := 37) rfl rfl rfl ?_
      refine rn_aload_n (k' := 38) rfl rfl rfl ?_
      refine rn_getR (k' := 39) rfl rfl K0_0 (by decide) rfl R0_0_3 ?_
      refine rn_iload_n (k' := 40) rfl rfl rfl ?_
      refine rn_iload (k' := 41) rfl rfl rfl ?_
      refine rn_iadd (k' := 42) rfl rfl (by omega) ?_
      have hb2 := g_st_b hL (a := ((hd : Int) + (n : Int))) (by omega)
      refine rn_callP (k' := 43) (y := 33) (vs := [mR 6, mI ((hd : Int) + (n : Int))]) (S' := [mI (b), mR 74]) (v := some (mI (g_st μ ((hd : Int) + (n : Int))))) (h' := mkh μ c s) rfl rfl rfl (k_stiltsFor (μ := μ) (hL) (by omega)) ?_
      show Rn PT none kX11_high 43 [some (mR 0), some (mI (x0)), some (mI (b)), some (mI ((hd : Int))), some (mI ((n : Int)))] [mI (g_st μ ((hd : Int) + (n : Int))), mI (b), mR 74] (mkh μ c s) _
      by_cases hq3 : ¬ g_steps μ a b (g_st μ ((hd : Int) + (n : Int))) w = -1
      · refine rn_callP (k' := 44) (y := 19) (vs := [mR 74, mI (b), mI (g_st μ ((hd : Int) + (n : Int)))]) (S' := []) (v := some (mI 1)) (h' := mkh μ c s) rfl rfl rfl (by have hz : Cl PT 19 [mR 74, mI (b), mI (g_st μ ((hd : Int) + (n : Int)))] (mkh μ c s) (fun r => r = (some (some (mI (if ¬ g_steps μ a b (g_st μ ((hd : Int) + (n : Int))) w = -1 then 1 else 0))), mkh μ c s)) := k_passesWith hL (a := a) (w := w) (x := b) (t := g_st μ ((hd : Int) + (n : Int))) hMP hx (by omega) (μ := μ) (c := c) (s := s); rw [if_pos hq3] at hz; exact hz) ?_
        show Rn PT none kX11_high 44 [some (mR 0), some (mI (x0)), some (mI (b)), some (mI ((hd : Int))), some (mI ((n : Int)))] [mI (1)] (mkh μ c s) _
        refine rn_if_eq (k' := 45) rfl rfl (fun hc4 => ?_) (fun hc4 => ?_)
        · exfalso; omega
        · skip
          refine rn_iload (k' := 46) rfl rfl rfl ?_
          refine rn_iret rfl (Or.inl rfl) ?_
          rw [fF_pos (p := (fun k : Nat => ¬ g_steps μ a b (g_st μ ((hd : Int) + (k : Int))) w = -1)) (by assumption)]
      · refine rn_callP (k' := 44) (y := 19) (vs := [mR 74, mI (b), mI (g_st μ ((hd : Int) + (n : Int)))]) (S' := []) (v := some (mI 0)) (h' := mkh μ c s) rfl rfl rfl (by have hz : Cl PT 19 [mR 74, mI (b), mI (g_st μ ((hd : Int) + (n : Int)))] (mkh μ c s) (fun r => r = (some (some (mI (if ¬ g_steps μ a b (g_st μ ((hd : Int) + (n : Int))) w = -1 then 1 else 0))), mkh μ c s)) := k_passesWith hL (a := a) (w := w) (x := b) (t := g_st μ ((hd : Int) + (n : Int))) hMP hx (by omega) (μ := μ) (c := c) (s := s); rw [if_neg hq3] at hz; exact hz) ?_
        show Rn PT none kX11_high 44 [some (mR 0), some (mI (x0)), some (mI (b)), some (mI ((hd : Int))), some (mI ((n : Int)))] [mI (0)] (mkh μ c s) _
        refine rn_if_eq (k' := 45) rfl rfl (fun hc5 => ?_) (fun hc5 => ?_)
        · skip
          refine rn_iinc (k' := 48) (L' := [some (mR 0), some (mI (x0)), some (mI (b)), some (mI ((hd : Int))), some (mI ((n : Int) + 1))]) rfl rfl rfl (by omega) rfl ?_
          refine rn_goto rfl ?_
          rw [fF_neg (p := (fun k : Nat => ¬ g_steps μ a b (g_st μ ((hd : Int) + (k : Int))) w = -1)) (by assumption)]
          exact ih (n + 1) _ (by omega) (by omega)
        · exfalso; omega
theorem i_X11_high {μ : Nat → Nat → Int} {c s : Nat} (hL : I_land μ) (hS : I_scene μ) {a0 a1 : Int} (h0 : i32 a0) (h1 : i32 a1) (hv : ¬ ((0 ≤ a0 ∧ a0 < μ 6 13) ∧ g_cell μ a1)) : Cl PT 126 [mR 0, mI a0, mI a1] (mkh μ c s) (fun r => r = (some (some (mI (-1))), mkh μ c s)) := by
  have hL_ := hL
  obtain ⟨lc, lr, le, lm, lw, lh, lwo, lwd, q0, q1, q2, q3, q4, q8, q499, q500, lth, lG, lT, lW, -⟩ := hL_
  have hS_ := hS
  obtain ⟨sd, sw, stk, s4, s5, s6, hC, hH, -, s10, sce, swc, s13⟩ := hS_
  refine ⟨_, PT_126, Nat.le_of_ble_eq_true rfl, ?_⟩
  show Rn PT none kX11_high 0 [some (mR 0), some (mI (a0)), some (mI (a1)), none, none] [] (mkh μ c s) _
  refine rn_aload_n (k' := 1) rfl rfl rfl ?_
  refine rn_iload_n (k' := 2) rfl rfl rfl ?_
  by_cases hq1 : 0 ≤ a0 ∧ a0 < μ 6 13
  · refine rn_callP (k' := 3) (y := 151) (vs := [mR 0, mI (a0)]) (S' := []) (v := some (mI 1)) (h' := mkh μ c s) rfl rfl rfl (by have hz : Cl PT 151 [mR 0, mI (a0)] (mkh μ c s) (fun r => r = (some (some (mI (if 0 ≤ a0 ∧ a0 < μ 6 13 then 1 else 0))), mkh μ c s)) := c_X11_isHerd (hL) (a := a0) (μ := μ) (c := c) (s := s); rw [if_pos hq1] at hz; exact hz) ?_
    show Rn PT none kX11_high 3 [some (mR 0), some (mI (a0)), some (mI (a1)), none, none] [mI (1)] (mkh μ c s) _
    refine rn_if_eq (k' := 4) rfl rfl (fun hc2 => ?_) (fun hc2 => ?_)
    · exfalso; omega
    · skip
      refine rn_aload_n (k' := 5) rfl rfl rfl ?_
      refine rn_getR (k' := 6) rfl rfl K0_0 (by decide) rfl R0_0_3 ?_
      refine rn_iload_n (k' := 7) rfl rfl rfl ?_
      by_cases hq3 : g_cell μ a1
      · refine rn_callP (k' := 8) (y := 30) (vs := [mR 6, mI (a1)]) (S' := []) (v := some (mI 1)) (h' := mkh μ c s) rfl rfl rfl (by have hz : Cl PT 30 [mR 6, mI (a1)] (mkh μ c s) (fun r => r = (some (some (mI (if g_cell μ a1 then 1 else 0))), mkh μ c s)) := k_hasCell (a := a1) (by omega) (μ := μ) (c := c) (s := s); rw [if_pos hq3] at hz; exact hz) ?_
        show Rn PT none kX11_high 8 [some (mR 0), some (mI (a0)), some (mI (a1)), none, none] [mI (1)] (mkh μ c s) _
        refine rn_if_ne (k' := 9) rfl rfl (fun hc4 => ?_) (fun hc4 => ?_)
        · skip
          refine rn_aload_n (k' := 12) rfl rfl rfl ?_
          refine rn_getR (k' := 13) rfl rfl K0_0 (by decide) rfl R0_0_9 ?_
          refine rn_aload_n (k' := 14) rfl rfl rfl ?_
          refine rn_getR (k' := 15) rfl rfl K0_0 (by decide) rfl R0_0_4 ?_
          refine rn_getR (k' := 16) rfl rfl K0_14 (by decide) rfl R0_14_1 ?_
          refine rn_iload_n (k' := 17) rfl rfl rfl ?_
          refine rn_iaload (k' := 18) rfl rfl K0_15 (by omega) (by omega) ?_
          have hb5 := hC ((a0).toNat)
          refine rn_aload_n (k' := 19) rfl rfl rfl ?_
          exfalso; omega
        · exfalso; omega
      · refine rn_callP (k' := 8) (y := 30) (vs := [mR 6, mI (a1)]) (S' := []) (v := some (mI 0)) (h' := mkh μ c s) rfl rfl rfl (by have hz : Cl PT 30 [mR 6, mI (a1)] (mkh μ c s) (fun r => r = (some (some (mI (if g_cell μ a1 then 1 else 0))), mkh μ c s)) := k_hasCell (a := a1) (by omega) (μ := μ) (c := c) (s := s); rw [if_neg hq3] at hz; exact hz) ?_
        show Rn PT none kX11_high 8 [some (mR 0), some (mI (a0)), some (mI (a1)), none, none] [mI (0)] (mkh μ c s) _
        refine rn_if_ne (k' := 9) rfl rfl (fun hc6 => ?_) (fun hc6 => ?_)
        · exfalso; omega
        · skip
          refine rn_iconst (k' := 10) rfl rfl ?_
          refine rn_iret rfl (Or.inl rfl) ?_
          rfl
  · refine rn_callP (k' := 3) (y := 151) (vs := [mR 0, mI (a0)]) (S' := []) (v := some (mI 0)) (h' := mkh μ c s) rfl rfl rfl (by have hz : Cl PT 151 [mR 0, mI (a0)] (mkh μ c s) (fun r => r = (some (some (mI (if 0 ≤ a0 ∧ a0 < μ 6 13 then 1 else 0))), mkh μ c s)) := c_X11_isHerd (hL) (a := a0) (μ := μ) (c := c) (s := s); rw [if_neg hq1] at hz; exact hz) ?_
    show Rn PT none kX11_high 3 [some (mR 0), some (mI (a0)), some (mI (a1)), none, none] [mI (0)] (mkh μ c s) _
    refine rn_if_eq (k' := 4) rfl rfl (fun hc7 => ?_) (fun hc7 => ?_)
    · skip
      refine rn_iconst (k' := 10) rfl rfl ?_
      refine rn_iret rfl (Or.inl rfl) ?_
      rfl
    · exfalso; omega
theorem i_X12_high {μ : Nat → Nat → Int} {c s : Nat} (hL : I_land μ) (hS : I_scene μ) {a0 a1 : Int} (h0 : i32 a0) (h1 : i32 a1) (hv : ¬ ((0 ≤ a0 ∧ a0 < μ 6 13) ∧ g_cell μ a1)) : Cl PT 249 [mR 118, mI a0, mI a1] (mkh μ c s) (fun r => r = (some (some (mI (-1))), mkh (m_set μ 118 0 0) c s)) := by
  have hL_ := hL
  obtain ⟨lc, lr, le, lm, lw, lh, lwo, lwd, q0, q1, q2, q3, q4, q8, q499, q500, lth, lG, lT, lW, -⟩ := hL_
  have hS_ := hS
  obtain ⟨sd, sw, stk, s4, s5, s6, hC, hH, -, s10, sce, swc, s13⟩ := hS_
  refine ⟨_, PT_249, Nat.le_of_ble_eq_true rfl, ?_⟩
  show Rn PT none kX12_high 0 [some (mR 118), some (mI (a0)), some (mI (a1)), none] [] (mkh μ c s) _
  refine rn_aload_n (k' := 1) rfl rfl rfl ?_
  refine rn_iconst (k' := 2) rfl rfl ?_
  refine rn_putI (k' := 3) rfl rfl K0_118 (by decide) rfl ?_
  refine rn_aload_n (k' := 4) rfl rfl rfl ?_
  refine rn_iload_n (k' := 5) rfl rfl rfl ?_
  by_cases hq2 : 0 ≤ a0 ∧ a0 < μ 6 13
  · refine rn_callP (k' := 6) (y := 193) (vs := [mR 118, mI (a0)]) (S' := []) (v := some (mI 1)) (h' := mkh (m_set μ 118 0 (0)) c s) rfl rfl rfl (by have hz : Cl PT 193 [mR 118, mI (a0)] (mkh (m_set μ 118 0 (0)) c s) (fun r => r = (some (some (mI (if 0 ≤ a0 ∧ a0 < μ 6 13 then 1 else 0))), mkh (m_set μ 118 0 (0)) c s)) := c_X12_isHerd ((hL).set rfl) (a := a0) (μ := (m_set μ 118 0 (0))) (c := c) (s := s); rw [if_pos hq2] at hz; exact hz) ?_
    show Rn PT none kX12_high 6 [some (mR 118), some (mI (a0)), some (mI (a1)), none] [mI (1)] (mkh (m_set μ 118 0 (0)) c s) _
    refine rn_if_eq (k' := 7) rfl rfl (fun hc3 => ?_) (fun hc3 => ?_)
    · exfalso; omega
    · skip
      refine rn_aload_n (k' := 8) rfl rfl rfl ?_
      refine rn_iload_n (k' := 9) rfl rfl rfl ?_
      by_cases hq4 : g_cell μ a1
      · refine rn_callP (k' := 10) (y := 192) (vs := [mR 118, mI (a1)]) (S' := []) (v := some (mI 1)) (h' := mkh (m_set μ 118 0 (0)) c s) rfl rfl rfl (by have hz : Cl PT 192 [mR 118, mI (a1)] (mkh (m_set μ 118 0 (0)) c s) (fun r => r = (some (some (mI (if g_cell μ a1 then 1 else 0))), mkh (m_set μ 118 0 (0)) c s)) := c_X12_isCell ((hL).set rfl) (a := a1) (by omega) (μ := (m_set μ 118 0 (0))) (c := c) (s := s); rw [if_pos hq4] at hz; exact hz) ?_
        show Rn PT none kX12_high 10 [some (mR 118), some (mI (a0)), some (mI (a1)), none] [mI (1)] (mkh (m_set μ 118 0 (0)) c s) _
        refine rn_if_ne (k' := 11) rfl rfl (fun hc5 => ?_) (fun hc5 => ?_)
        · skip
          refine rn_aload_n (k' := 14) rfl rfl rfl ?_
          refine rn_aload_n (k' := 15) rfl rfl rfl ?_
          refine rn_getR (k' := 16) rfl rfl K0_118 (by decide) rfl R0_118_6 ?_
          refine rn_sipush (k' := 17) rfl rfl ?_
          refine rn_iaload (k' := 18) rfl rfl K0_120 (by omega) (by omega) ?_
          show Rn PT none kX12_high 18 [some (mR 118), some (mI (a0)), some (mI (a1)), none] [mI (μ 120 517), mR 118] (mkh (m_set μ 118 0 (0)) c s) _
          rw [s4]
          exfalso; omega
        · exfalso; omega
      · refine rn_callP (k' := 10) (y := 192) (vs := [mR 118, mI (a1)]) (S' := []) (v := some (mI 0)) (h' := mkh (m_set μ 118 0 (0)) c s) rfl rfl rfl (by have hz : Cl PT 192 [mR 118, mI (a1)] (mkh (m_set μ 118 0 (0)) c s) (fun r => r = (some (some (mI (if g_cell μ a1 then 1 else 0))), mkh (m_set μ 118 0 (0)) c s)) := c_X12_isCell ((hL).set rfl) (a := a1) (by omega) (μ := (m_set μ 118 0 (0))) (c := c) (s := s); rw [if_neg hq4] at hz; exact hz) ?_
        show Rn PT none kX12_high 10 [some (mR 118), some (mI (a0)), some (mI (a1)), none] [mI (0)] (mkh (m_set μ 118 0 (0)) c s) _
        refine rn_if_ne (k' := 11) rfl rfl (fun hc6 => ?_) (fun hc6 => ?_)
        · exfalso; omega
        · skip
          refine rn_iconst (k' := 12) rfl rfl ?_
          refine rn_iret rfl (Or.inl rfl) ?_
          rfl
  · refine rn_callP (k' := 6) (y := 193) (vs := [mR 118, mI (a0)]) (S' := []) (v := some (mI 0)) (h' := mkh (m_set μ 118 0 (0)) c s) rfl rfl rfl (by have hz : Cl PT 193 [mR 118, mI (a0)] (mkh (m_set μ 118 0 (0)) c s) (fun r => r = (some (some (mI (if 0 ≤ a0 ∧ a0 < μ 6 13 then 1 else 0))), mkh (m_set μ 118 0 (0)) c s)) := c_X12_isHerd ((hL).set rfl) (a := a0) (μ := (m_set μ 118 0 (0))) (c := c) (s := s); rw [if_neg hq2] at hz; exact hz) ?_
    show Rn PT none kX12_high 6 [some (mR 118), some (mI (a0)), some (mI (a1)), none] [mI (0)] (mkh (m_set μ 118 0 (0)) c s) _
    refine rn_if_eq (k' := 7) rfl rfl (fun hc7 => ?_) (fun hc7 => ?_)
    · skip
      refine rn_iconst (k' := 12) rfl rfl ?_
      refine rn_iret rfl (Or.inl rfl) ?_
      rfl
    · exfalso; omega
set_option maxHeartbeats 4000000 in
theorem t_X11_high {μ : Nat → Nat → Int} {c s : Nat} (hL : I_land μ) (hS : I_scene μ) {a0 a1 : Int} (h0 : i32 a0) (h1 : i32 a1) : Cl PT 126 [mR 0, mI a0, mI a1] (mkh μ c s) (fun r => ∃ μ1, r = (some (some (mI (if (0 ≤ a0 ∧ a0 < μ 6 13) ∧ g_cell μ a1 then fF (fun k : Nat => ¬ g_steps μ (μ 15 a0.toNat) a1 (g_st μ ((μ 16 a0.toNat) + (k : Int))) (g_w μ 0 (μ 14 0)) = -1) 0 (100 - (μ 16 a0.toNat).toNat) else -1))), mkh μ1 c s) ∧ rst μ1 = rst μ) := by
  have hL_ := hL
  obtain ⟨lc, lr, le, lm, lw, lh, lwo, lwd, q0, q1, q2, q3, q4, q8, q499, q500, lth, lG, lT, lW, -⟩ := hL_
  have hS_ := hS
  obtain ⟨sd, sw, stk, s4, s5, s6, hC, hH, -, s10, sce, swc, s13⟩ := hS_
  by_cases hv : (0 ≤ a0 ∧ a0 < μ 6 13) ∧ g_cell μ a1
  · rw [if_pos hv]
    have hv_ := hv
    obtain ⟨hv1, hv2⟩ := hv_
    have hcl0 := sc_cell hS (n := a0.toNat) (by omega)
    have hhb := hH a0.toNat
    obtain ⟨hd, ehd⟩ := Int.eq_ofNat_of_zero_le (hH a0.toNat).1
    refine ⟨_, PT_126, Nat.le_of_ble_eq_true rfl, ?_⟩
    show Rn PT none kX11_high 0 [some (mR 0), some (mI (a0)), some (mI (a1)), none, none] [] (mkh μ c s) _
    refine rn_aload_n (k' := 1) rfl rfl rfl ?_
    refine rn_iload_n (k' := 2) rfl rfl rfl ?_
    by_cases hq1 : 0 ≤ a0 ∧ a0 < μ 6 13
    · refine rn_callP (k' := 3) (y := 151) (vs := [mR 0, mI (a0)]) (S' := []) (v := some (mI 1)) (h' := mkh μ c s) rfl rfl rfl (by have hz : Cl PT 151 [mR 0, mI (a0)] (mkh μ c s) (fun r => r = (some (some (mI (if 0 ≤ a0 ∧ a0 < μ 6 13 then 1 else 0))), mkh μ c s)) := c_X11_isHerd (hL) (a := a0) (μ := μ) (c := c) (s := s); rw [if_pos hq1] at hz; exact hz) ?_
      show Rn PT none kX11_high 3 [some (mR 0), some (mI (a0)), some (mI (a1)), none, none] [mI (1)] (mkh μ c s) _
      refine rn_if_eq (k' := 4) rfl rfl (fun hc2 => ?_) (fun hc2 => ?_)
      · exfalso; omega
      · skip
        refine rn_aload_n (k' := 5) rfl rfl rfl ?_
        refine rn_getR (k' := 6) rfl rfl K0_0 (by decide) rfl R0_0_3 ?_
        refine rn_iload_n (k' := 7) rfl rfl rfl ?_
        by_cases hq3 : g_cell μ a1
        · refine rn_callP (k' := 8) (y := 30) (vs := [mR 6, mI (a1)]) (S' := []) (v := some (mI 1)) (h' := mkh μ c s) rfl rfl rfl (by have hz : Cl PT 30 [mR 6, mI (a1)] (mkh μ c s) (fun r => r = (some (some (mI (if g_cell μ a1 then 1 else 0))), mkh μ c s)) := k_hasCell (a := a1) (by omega) (μ := μ) (c := c) (s := s); rw [if_pos hq3] at hz; exact hz) ?_
          show Rn PT none kX11_high 8 [some (mR 0), some (mI (a0)), some (mI (a1)), none, none] [mI (1)] (mkh μ c s) _
          refine rn_if_ne (k' := 9) rfl rfl (fun hc4 => ?_) (fun hc4 => ?_)
          · skip
            refine rn_aload_n (k' := 12) rfl rfl rfl ?_
            refine rn_getR (k' := 13) rfl rfl K0_0 (by decide) rfl R0_0_9 ?_
            refine rn_aload_n (k' := 14) rfl rfl rfl ?_
            refine rn_getR (k' := 15) rfl rfl K0_0 (by decide) rfl R0_0_4 ?_
            refine rn_getR (k' := 16) rfl rfl K0_14 (by decide) rfl R0_14_1 ?_
            refine rn_iload_n (k' := 17) rfl rfl rfl ?_
            refine rn_iaload (k' := 18) rfl rfl K0_15 (by omega) (by omega) ?_
            have hb5 := hC ((a0).toNat)
            refine rn_aload_n (k' := 19) rfl rfl rfl ?_
            have hb6 := g_w_b hL 0 (μ 14 0)
            refine rn_callP (k' := 20) (y := 156) (vs := [mR 0]) (S' := [mI (μ 15 ((a0).toNat)), mR 74]) (v := some (mI (g_w μ 0 (μ 14 0)))) (h' := mkh μ c s) rfl rfl rfl (c_X11_waterToday (μ := μ) (hL) (by show 0 ≤ μ 14 0 ∧ μ 14 0 ≤ 29; omega)) ?_
            show Rn PT none kX11_high 20 [some (mR 0), some (mI (a0)), some (mI (a1)), none, none] [mI (g_w μ 0 (μ 14 0)), mI (μ 15 ((a0).toNat)), mR 74] (mkh μ c s) _
            obtain ⟨M, ⟨hMr, hM0⟩, hcl⟩ := c_passFrom (μ := μ) (c := c) (s := s) hL (a := μ 15 a0.toNat) (w := (g_w μ 0 (μ 14 0))) (by assumption) (by omega)
            have hMP := pf_of hMr hM0
            have hrT := rm_rst hMr
            have hLM := land_rows hL hrT
            have hSM := scene_rows hS hrT
            have e6 := row_rst hMr (a := 6) (fun _ => rfl)
            have e14 := row_rst hMr (a := 14) (fun _ => rfl)
            have e15 := row_rst hMr (a := 15) (fun _ => rfl)
            have e16 := row_rst hMr (a := 16) (fun _ => rfl)
            have e10 := row_rst hMr (a := 10) (fun _ => rfl)
            refine rn_callP (k' := 21) (y := 18) (vs := [mR 74, mI (μ 15 ((a0).toNat)), mI (g_w μ 0 (μ 14 0))]) (S' := []) (v := none) (h' := mkh M c s) rfl rfl rfl (hcl) ?_
            show Rn PT none kX11_high 21 [some (mR 0), some (mI (a0)), some (mI (a1)), none, none] [] (mkh M c s) _
            refine rn_aload_n (k' := 22) rfl rfl rfl ?_
            refine rn_getR (k' := 23) rfl rfl K0_0 (by decide) rfl R0_0_4 ?_
            refine rn_getR (k' := 24) rfl rfl K0_14 (by decide) rfl R0_14_2 ?_
            refine rn_iload_n (k' := 25) rfl rfl rfl ?_
            refine rn_iaload (k' := 26) rfl rfl K0_16 (by omega) (by omega) ?_
            have hb7 := hH ((a0).toNat)
            refine rn_istore_n (k' := 27) (L' := [some (mR 0), some (mI (a0)), some (mI (a1)), some (mI (M 16 ((a0).toNat))), none]) rfl rfl (Nat.le_of_ble_eq_true rfl) rfl ?_
            refine rn_iconst (k' := 28) rfl rfl ?_
            refine rn_istore (k' := 29) (L' := [some (mR 0), some (mI (a0)), some (mI (a1)), some (mI (M 16 ((a0).toNat))), some (mI (0))]) rfl rfl (Nat.le_of_ble_eq_true rfl) rfl ?_
            rw [show M 16 a0.toNat = (hd : Int) by rw [e16]; exact ehd]
            have h := l_X11_high (μ := M) (c := c) (s := s) hLM (a := μ 15 a0.toNat) (b := a1) (w := (g_w μ 0 (μ 14 0))) (by unfold g_cell; rw [e6]; exact hv2) hMP (x0 := a0) (hd := hd) (by omega) (100 - hd) 0 _ rfl (by omega)
            have eS : g_st M = g_st μ := by delta g_st; rw [e6]
            rw [g_steps_rows e6 (row_rst hMr (a := 7) (fun _ => rfl)) (row_rst hMr (a := 8) (fun _ => rfl)), eS] at h
            rw [ehd, show ((hd : Int)).toNat = hd from rfl]
            exact h.mono (fun r hr => ⟨M, hr, hMr⟩)
          · exfalso; omega
        · exfalso; omega
    · exfalso; omega
  · rw [if_neg hv]
    exact (i_X11_high hL hS h0 h1 hv).mono (fun r hr => ⟨_, hr, rfl⟩)
set_option maxHeartbeats 4000000 in
theorem l_X12_high {μ : Nat → Nat → Int} {c s : Nat} (hL : I_land μ) (hS : I_scene μ) {a0 a1 : Int} (hv1 : 0 ≤ a0 ∧ a0 < μ 6 13) (hv2 : g_cell μ a1) : ∀ (d n : Nat) (k : Int) (F : Nat → Int) (q : Nat → Int), k = (n : Int) → (n : Int) + (μ 16 a0.toNat) + d = 100 → Rn PT none kX12_high 21 [some (mR 118), some (mI (a0)), some (mI (a1)), some (mI (k))] [] (mkh (m_upd (m_upd (m_set (m_set (m_set μ 118 0 (0)) 118 22 (g_w μ 0 (μ 14 0))) 118 23 (g_w μ 1 (μ 14 0))) 125 F) 126 q) c s) (fun r => ∃ μ1, r = (some (some (mI (fF (fun k : Nat => ¬ g_steps μ (μ 15 a0.toNat) a1 (g_st μ ((μ 16 a0.toNat) + (k : Int))) (g_w μ 0 (μ 14 0)) = -1) n d))), mkh μ1 c s) ∧ rst μ1 = rst μ) := by
  have hL_ := hL
  obtain ⟨lc, lr, le, lm, lw, lh, lwo, lwd, q0, q1, q2, q3, q4, q8, q499, q500, lth, lG, lT, lW, -⟩ := hL_
  have hS_ := hS
  obtain ⟨sd, sw, stk, s4, s5, s6, hC, hH, -, s10, sce, swc, s13⟩ := hS_
  have hwb := g_w_b hL 0 (μ 14 0)
  have hhb := hH a0.toNat
  intro d
  induction d with
  | zero =>
    intro n k F q ek hn 
    subst ek
    refine rn_aload_n (k' := 22) rfl rfl rfl ?_
    refine rn_getR (k' := 23) rfl rfl K0_118 (by decide) rfl R0_118_6 ?_
    refine rn_sipush (k' := 24) rfl rfl ?_
    refine rn_iload_n (k' := 25) rfl rfl rfl ?_
    refine rn_iadd (k' := 26) rfl rfl (by omega) ?_
    refine rn_iaload (k' := 27) rfl rfl K0_120 (by omega) (by omega) ?_
    show Rn PT none kX12_high 27 [some (mR 118), some (mI (a0)), some (mI (a1)), some (mI ((n : Int)))] [mI (μ 120 ((526 + a0).toNat))] (mkh (m_upd (m_upd (m_set (m_set (m_set μ 118 0 (0)) 118 22 (g_w μ 0 (μ 14 0))) 118 23 (g_w μ 1 (μ 14 0))) 125 F) 126 q) c s) _
    rw [(v_hd hS (a := a0) (by omega)).1]
    have hb1 := (v_hd hS (a := a0) (by omega)).2
    refine rn_iload_n (k' := 28) rfl rfl rfl ?_
    refine rn_iadd (k' := 29) rfl rfl (by omega) ?_
    refine rn_bipush (k' := 30) rfl rfl ?_
    refine rn_icmp_gt (k' := 31) rfl rfl (fun hc2 => ?_) (fun hc2 => ?_)
    · skip
      refine rn_iconst (k' := 49) rfl rfl ?_
      refine rn_iret rfl (Or.inl rfl) ?_
      exact ⟨(m_upd (m_upd (m_set (m_set (m_set μ 118 0 (0)) 118 22 (g_w μ 0 (μ 14 0))) 118 23 (g_w μ 1 (μ 14 0))) 125 F) 126 q), rfl, ((rst_upd (a := 126) (fun _ => rfl)).trans ((rst_upd (a := 125) (fun _ => rfl)).trans ((rst_set (a := 118) (j := 23) rfl).trans ((rst_set (a := 118) (j := 22) rfl).trans (rst_set (a := 118) (j := 0) rfl)))))⟩
    · exfalso; omega
  | succ d ih =>
    intro n k F q ek hn 
    subst ek
    refine rn_aload_n (k' := 22) rfl rfl rfl ?_
    refine rn_getR (k' := 23) rfl rfl K0_118 (by decide) rfl R0_118_6 ?_
    refine rn_sipush (k' := 24) rfl rfl ?_
    refine rn_iload_n (k' := 25) rfl rfl rfl ?_
    refine rn_iadd (k' := 26) rfl rfl (by omega) ?_
    refine rn_iaload (k' := 27) rfl rfl K0_120 (by omega) (by omega) ?_
    show Rn PT none kX12_high 27 [some (mR 118), some (mI (a0)), some (mI (a1)), some (mI ((n : Int)))] [mI (μ 120 ((526 + a0).toNat))] (mkh (m_upd (m_upd (m_set (m_set (m_set μ 118 0 (0)) 118 22 (g_w μ 0 (μ 14 0))) 118 23 (g_w μ 1 (μ 14 0))) 125 F) 126 q) c s) _
    rw [(v_hd hS (a := a0) (by omega)).1]
    have hb1 := (v_hd hS (a := a0) (by omega)).2
    refine rn_iload_n (k' := 28) rfl rfl rfl ?_
    refine rn_iadd (k' := 29) rfl rfl (by omega) ?_
    refine rn_bipush (k' := 30) rfl rfl ?_
    refine rn_icmp_gt (k' := 31) rfl rfl (fun hc2 => ?_) (fun hc2 => ?_)
    · exfalso; omega
    · skip
      refine rn_aload_n (k' := 32) rfl rfl rfl ?_
      refine rn_iload_n (k' := 33) rfl rfl rfl ?_
      refine rn_iload_n (k' := 34) rfl rfl rfl ?_
      refine rn_aload_n (k' := 35) rfl rfl rfl ?_
      refine rn_getR (k' := 36) rfl rfl K0_118 (by decide) rfl R0_118_6 ?_
      refine rn_sipush (k' := 37) rfl rfl ?_
      refine rn_iload_n (k' := 38) rfl rfl rfl ?_
      refine rn_iadd (k' := 39) rfl rfl (by omega) ?_
      refine rn_iaload (k' := 40) rfl rfl K0_120 (by omega) (by omega) ?_
      show Rn PT none kX12_high 40 [some (mR 118), some (mI (a0)), some (mI (a1)), some (mI ((n : Int)))] [mI (μ 120 ((526 + a0).toNat)), mI (a1), mI (a0), mR 118] (mkh (m_upd (m_upd (m_set (m_set (m_set μ 118 0 (0)) 118 22 (g_w μ 0 (μ 14 0))) 118 23 (g_w μ 1 (μ 14 0))) 125 F) 126 q) c s) _
      rw [(v_hd hS (a := a0) (by omega)).1]
      have hb3 := (v_hd hS (a := a0) (by omega)).2
      refine rn_iload_n (k' := 41) rfl rfl rfl ?_
      refine rn_iadd (k' := 42) rfl rfl (by omega) ?_
      have hsq4 := g_st_b hL (a := (μ 16 (a0).toNat) + (n : Int)) (by omega)
      obtain ⟨F4, q4, T4, hT4, hcl4⟩ := c_passesBy (μ := (m_upd (m_upd (m_set (m_set (m_set μ 118 0 (0)) 118 22 (g_w μ 0 (μ 14 0))) 118 23 (g_w μ 1 (μ 14 0))) 125 F) 126 q)) (c := c) (s := s) ((((((hL).set rfl).set rfl).set rfl).upd rfl).upd rfl) ((((((hS).set rfl).set rfl).set rfl).upd rfl).upd rfl) (by show 0 ≤ (g_w μ 0 (μ 14 0)) ∧ (g_w μ 0 (μ 14 0)) ≤ 1000; omega) (a := a0) (b := a1) (e := (μ 16 (a0).toNat) + (n : Int)) hv1 hv2 (by omega)
      rw [g_steps_rows (ν := (m_upd (m_upd (m_set (m_set (m_set μ 118 0 (0)) 118 22 (g_w μ 0 (μ 14 0))) 118 23 (g_w μ 1 (μ 14 0))) 125 F) 126 q)) (μ := μ) rfl rfl rfl] at hT4
      have hT : (g_steps μ (μ 15 a0.toNat) a1 (g_st μ ((μ 16 (a0).toNat) + (n : Int))) (g_w μ 0 (μ 14 0)) = -1 ∧ T4 = 0) ∨ (0 ≤ g_steps μ (μ 15 a0.toNat) a1 (g_st μ ((μ 16 (a0).toNat) + (n : Int))) (g_w μ 0 (μ 14 0)) ∧ T4 = 1) := hT4
      refine rn_callP (k' := 43) (y := 247) (vs := [mR 118, mI (a0), mI (a1), mI ((μ 16 (a0).toNat) + (n : Int))]) (S' := []) (v := some (mI (T4))) (h' := mkh (m_upd (m_upd (m_upd (m_upd (m_set (m_set (m_set μ 118 0 (0)) 118 22 (g_w μ 0 (μ 14 0))) 118 23 (g_w μ 1 (μ 14 0))) 125 F) 126 q) 125 F4) 126 q4) c s) rfl rfl rfl (hcl4) ?_
      show Rn PT none kX12_high 43 [some (mR 118), some (mI (a0)), some (mI (a1)), some (mI ((n : Int)))] [mI (T4)] (mkh (m_upd (m_upd (m_upd (m_upd (m_set (m_set (m_set μ 118 0 (0)) 118 22 (g_w μ 0 (μ 14 0))) 118 23 (g_w μ 1 (μ 14 0))) 125 F) 126 q) 125 F4) 126 q4) c s) _
      refine rn_if_eq (k' := 44) rfl rfl (fun hc5 => ?_) (fun hc5 => ?_)
      · skip
        refine rn_iinc (k' := 47) (L' := [some (mR 118), some (mI (a0)), some (mI (a1)), some (mI ((n : Int) + 1))]) rfl rfl rfl (by omega) rfl ?_
        refine rn_goto rfl ?_
        show Rn PT none kX12_high 21 [some (mR 118), some (mI (a0)), some (mI (a1)), some (mI ((n : Int) + 1))] [] (mkh (m_upd (m_upd (m_upd (m_upd (m_set (m_set (m_set μ 118 0 (0)) 118 22 (g_w μ 0 (μ 14 0))) 118 23 (g_w μ 1 (μ 14 0))) 125 F) 126 q) 125 F4) 126 q4) c s) _
        rw [upd2_of (μ := (m_set (m_set (m_set μ 118 0 (0)) 118 22 (g_w μ 0 (μ 14 0))) 118 23 (g_w μ 1 (μ 14 0)))) (ν := (m_upd (m_upd (m_upd (m_upd (m_set (m_set (m_set μ 118 0 (0)) 118 22 (g_w μ 0 (μ 14 0))) 118 23 (g_w μ 1 (μ 14 0))) 125 F) 126 q) 125 F4) 126 q4)) (x := 125) (y := 126) (fun b hb125 hb126 => (row_upd hb126).trans ((row_upd hb125).trans ((row_upd hb126).trans (row_upd hb125))))]
        rw [fF_neg (p := (fun k : Nat => ¬ g_steps μ (μ 15 a0.toNat) a1 (g_st μ ((μ 16 a0.toNat) + (k : Int))) (g_w μ 0 (μ 14 0)) = -1)) (fun z => by omega)]
        exact ih (n + 1) _ _ _ (by omega) (by omega)
      · skip
        refine rn_iload_n (k' := 45) rfl rfl rfl ?_
        refine rn_iret rfl (Or.inl rfl) ?_
        refine ⟨(m_upd (m_upd (m_upd (m_upd (m_set (m_set (m_set μ 118 0 (0)) 118 22 (g_w μ 0 (μ 14 0))) 118 23 (g_w μ 1 (μ 14 0))) 125 F) 126 q) 125 F4) 126 q4), ?_, ((rst_upd (a := 126) (fun _ => rfl)).trans ((rst_upd (a := 125) (fun _ => rfl)).trans ((rst_upd (a := 126) (fun _ => rfl)).trans ((rst_upd (a := 125) (fun _ => rfl)).trans ((rst_set (a := 118) (j := 23) rfl).trans ((rst_set (a := 118) (j := 22) rfl).trans (rst_set (a := 118) (j := 0) rfl)))))))⟩
        rw [fF_pos (p := (fun k : Nat => ¬ g_steps μ (μ 15 a0.toNat) a1 (g_st μ ((μ 16 a0.toNat) + (k : Int))) (g_w μ 0 (μ 14 0)) = -1)) (by omega)]
set_option maxHeartbeats 4000000 in
theorem t_X12_high {μ : Nat → Nat → Int} {c s : Nat} (hL : I_land μ) (hS : I_scene μ) {a0 a1 : Int} (h0 : i32 a0) (h1 : i32 a1) : Cl PT 249 [mR 118, mI a0, mI a1] (mkh μ c s) (fun r => ∃ μ1, r = (some (some (mI (if (0 ≤ a0 ∧ a0 < μ 6 13) ∧ g_cell μ a1 then fF (fun k : Nat => ¬ g_steps μ (μ 15 a0.toNat) a1 (g_st μ ((μ 16 a0.toNat) + (k : Int))) (g_w μ 0 (μ 14 0)) = -1) 0 (100 - (μ 16 a0.toNat).toNat) else -1))), mkh μ1 c s) ∧ rst μ1 = rst μ) := by
  have hL_ := hL
  obtain ⟨lc, lr, le, lm, lw, lh, lwo, lwd, q0, q1, q2, q3, q4, q8, q499, q500, lth, lG, lT, lW, -⟩ := hL_
  have hS_ := hS
  obtain ⟨sd, sw, stk, s4, s5, s6, hC, hH, -, s10, sce, swc, s13⟩ := hS_
  by_cases hv : (0 ≤ a0 ∧ a0 < μ 6 13) ∧ g_cell μ a1
  · rw [if_pos hv]
    have hv_ := hv
    obtain ⟨hv1, hv2⟩ := hv_
    have hhb := hH a0.toNat
    refine ⟨_, PT_249, Nat.le_of_ble_eq_true rfl, ?_⟩
    show Rn PT none kX12_high 0 [some (mR 118), some (mI (a0)), some (mI (a1)), none] [] (mkh μ c s) _
    refine rn_aload_n (k' := 1) rfl rfl rfl ?_
    refine rn_iconst (k' := 2) rfl rfl ?_
    refine rn_putI (k' := 3) rfl rfl K0_118 (by decide) rfl ?_
    refine rn_aload_n (k' := 4) rfl rfl rfl ?_
    refine rn_iload_n (k' := 5) rfl rfl rfl ?_
    by_cases hq2 : 0 ≤ a0 ∧ a0 < μ 6 13
    · refine rn_callP (k' := 6) (y := 193) (vs := [mR 118, mI (a0)]) (S' := []) (v := some (mI 1)) (h' := mkh (m_set μ 118 0 (0)) c s) rfl rfl rfl (by have hz : Cl PT 193 [mR 118, mI (a0)] (mkh (m_set μ 118 0 (0)) c s) (fun r => r = (some (some (mI (if 0 ≤ a0 ∧ a0 < μ 6 13 then 1 else 0))), mkh (m_set μ 118 0 (0)) c s)) := c_X12_isHerd ((hL).set rfl) (a := a0) (μ := (m_set μ 118 0 (0))) (c := c) (s := s); rw [if_pos hq2] at hz; exact hz) ?_
      show Rn PT none kX12_high 6 [some (mR 118), some (mI (a0)), some (mI (a1)), none] [mI (1)] (mkh (m_set μ 118 0 (0)) c s) _
      refine rn_if_eq (k' := 7) rfl rfl (fun hc3 => ?_) (fun hc3 => ?_)
      · exfalso; omega
      · skip
        refine rn_aload_n (k' := 8) rfl rfl rfl ?_
        refine rn_iload_n (k' := 9) rfl rfl rfl ?_
        by_cases hq4 : g_cell μ a1
        · refine rn_callP (k' := 10) (y := 192) (vs := [mR 118, mI (a1)]) (S' := []) (v := some (mI 1)) (h' := mkh (m_set μ 118 0 (0)) c s) rfl rfl rfl (by have hz : Cl PT 192 [mR 118, mI (a1)] (mkh (m_set μ 118 0 (0)) c s) (fun r => r = (some (some (mI (if g_cell μ a1 then 1 else 0))), mkh (m_set μ 118 0 (0)) c s)) := c_X12_isCell ((hL).set rfl) (a := a1) (by omega) (μ := (m_set μ 118 0 (0))) (c := c) (s := s); rw [if_pos hq4] at hz; exact hz) ?_
          show Rn PT none kX12_high 10 [some (mR 118), some (mI (a0)), some (mI (a1)), none] [mI (1)] (mkh (m_set μ 118 0 (0)) c s) _
          refine rn_if_ne (k' := 11) rfl rfl (fun hc5 => ?_) (fun hc5 => ?_)
          · skip
            refine rn_aload_n (k' := 14) rfl rfl rfl ?_
            refine rn_aload_n (k' := 15) rfl rfl rfl ?_
            refine rn_getR (k' := 16) rfl rfl K0_118 (by decide) rfl R0_118_6 ?_
            refine rn_sipush (k' := 17) rfl rfl ?_
            refine rn_iaload (k' := 18) rfl rfl K0_120 (by omega) (by omega) ?_
            show Rn PT none kX12_high 18 [some (mR 118), some (mI (a0)), some (mI (a1)), none] [mI (μ 120 517), mR 118] (mkh (m_set μ 118 0 (0)) c s) _
            rw [s4]
            have hb6 := g_w_b hL 0 (μ 14 0)
            have hc906 := g_w_b hL 1 (μ 14 0)
            refine rn_callP (k' := 19) (y := 201) (vs := [mR 118, mI (μ 14 0)]) (S' := []) (v := none) (h' := mkh (m_set (m_set (m_set μ 118 0 (0)) 118 22 (g_w μ 0 (μ 14 0))) 118 23 (g_w μ 1 (μ 14 0))) c s) rfl rfl rfl (c_X12_of (μ := (m_set μ 118 0 (0))) ((hL).set rfl) (by omega)) ?_
            show Rn PT none kX12_high 19 [some (mR 118), some (mI (a0)), some (mI (a1)), none] [] (mkh (m_set (m_set (m_set μ 118 0 (0)) 118 22 (g_w μ 0 (μ 14 0))) 118 23 (g_w μ 1 (μ 14 0))) c s) _
            refine rn_iconst (k' := 20) rfl rfl ?_
            refine rn_istore_n (k' := 21) (L' := [some (mR 118), some (mI (a0)), some (mI (a1)), some (mI (0))]) rfl rfl (Nat.le_of_ble_eq_true rfl) rfl ?_
            have h := l_X12_high (c := c) (s := s) hL hS hv1 hv2 (100 - (μ 16 a0.toNat).toNat) 0 _ ((m_set (m_set (m_set μ 118 0 (0)) 118 22 (g_w μ 0 (μ 14 0))) 118 23 (g_w μ 1 (μ 14 0))) 125) ((m_set (m_set (m_set μ 118 0 (0)) 118 22 (g_w μ 0 (μ 14 0))) 118 23 (g_w μ 1 (μ 14 0))) 126) rfl (by omega)
            rw [show m_upd (m_upd (m_set (m_set (m_set μ 118 0 (0)) 118 22 (g_w μ 0 (μ 14 0))) 118 23 (g_w μ 1 (μ 14 0))) 125 ((m_set (m_set (m_set μ 118 0 (0)) 118 22 (g_w μ 0 (μ 14 0))) 118 23 (g_w μ 1 (μ 14 0))) 125)) 126 ((m_set (m_set (m_set μ 118 0 (0)) 118 22 (g_w μ 0 (μ 14 0))) 118 23 (g_w μ 1 (μ 14 0))) 126) = (m_set (m_set (m_set μ 118 0 (0)) 118 22 (g_w μ 0 (μ 14 0))) 118 23 (g_w μ 1 (μ 14 0))) from by rw [upd_self]; exact upd_self] at h
            exact h
          · exfalso; omega
        · exfalso; omega
    · exfalso; omega
  · rw [if_neg hv]
    exact (i_X12_high hL hS h0 h1 hv).mono (fun r hr => ⟨_, hr, rst_set rfl⟩)
theorem pair_31 : ∀ (a0 : Int), ∀ (a1 : Int), i32 a0 → i32 a1 → PairI (Inv N) 126 249 [mI a0, mI a1] := by
  intro a0 a1 ha0 ha1
  exact pair_of (fun μ => (if (0 ≤ a0 ∧ a0 < μ 6 13) ∧ g_cell μ a1 then fF (fun k : Nat => ¬ g_steps μ (μ 15 a0.toNat) a1 (g_st μ ((μ 16 a0.toNat) + (k : Int))) (g_w μ 0 (μ 14 0)) = -1) 0 (100 - (μ 16 a0.toNat).toNat) else -1)) (fun μ c s hI => t_X11_high hI.land hI.scene ha0 ha1) (fun μ c s hI => t_X12_high hI.land hI.scene ha0 ha1) (fun μ ν h => by
    have e6 := row_rst h (a := 6) (fun _ => rfl)
    have e7 := row_rst h (a := 7) (fun _ => rfl)
    have e8 := row_rst h (a := 8) (fun _ => rfl)
    have e10 := row_rst h (a := 10) (fun _ => rfl)
    have e14 := row_rst h (a := 14) (fun _ => rfl)
    have e15 := row_rst h (a := 15) (fun _ => rfl)
    have e16 := row_rst h (a := 16) (fun _ => rfl)
    have eW : g_w ν = g_w μ := by delta g_w; rw [e10]
    have eS : g_st ν = g_st μ := by delta g_st; rw [e6]
    show (if (0 ≤ a0 ∧ a0 < ν 6 13) ∧ g_cell ν a1 then fF (fun k : Nat => ¬ g_steps ν (ν 15 a0.toNat) a1 (g_st ν ((ν 16 a0.toNat) + (k : Int))) (g_w ν 0 (ν 14 0)) = -1) 0 (100 - (ν 16 a0.toNat).toNat) else -1) = (if (0 ≤ a0 ∧ a0 < μ 6 13) ∧ g_cell μ a1 then fF (fun k : Nat => ¬ g_steps μ (μ 15 a0.toNat) a1 (g_st μ ((μ 16 a0.toNat) + (k : Int))) (g_w μ 0 (μ 14 0)) = -1) 0 (100 - (μ 16 a0.toNat).toNat) else -1)
    rw [g_steps_rows e6 e7 e8, eW]
    try rw [e14]
    try rw [e15]
    try rw [e16]
    try rw [eS]
    try unfold g_cell
    try rw [e6])
