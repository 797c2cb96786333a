variable {N : Int}
/-! ===== printed by wip/whole/gen58.py: lines of sight ===== -/
def sg (z : Int) : Int := if 0 < z then 1 else if z < 0 then -1 else 0
def ab (z : Int) : Int := if z < 0 then -z else z
theorem sg_b (z : Int) : (0 < z ∧ sg z = 1) ∨ (z < 0 ∧ sg z = -1) ∨ (z = 0 ∧ sg z = 0) := by
  unfold sg
  by_cases c1 : 0 < z
  · left; rw [if_pos c1]; omega
  · by_cases c2 : z < 0
    · right; left; rw [if_neg c1, if_pos c2]; omega
    · right; right; rw [if_neg c1, if_neg c2]; omega
theorem ab_b (z : Int) : (0 ≤ z ∧ ab z = z) ∨ (z < 0 ∧ ab z = -z) := by
  unfold ab
  by_cases c2 : z < 0
  · right; rw [if_pos c2]; omega
  · left; rw [if_neg c2]; omega
theorem abs_ab (z : Int) (h : -2147483648 < z ∧ z < 2147483648) : (if 0 ≤ z then z else w32 (0 - z)) = ab z := by
  have hb := ab_b z
  by_cases c : 0 ≤ z
  · rw [if_pos c]; omega
  · rw [if_neg c, w32_id (by omega)]; omega
def ln_x (a b : Int) : Int := b.tmod 10 - a.tmod 10
def ln_y (a b : Int) : Int := b.tdiv 10 - a.tdiv 10
def ln_f (a b : Int) : Int := if ab (ln_x a b) < ab (ln_y a b) then ab (ln_y a b) else ab (ln_x a b)
def ln_s (a b : Int) : Int := sg (ln_y a b) * 10 + sg (ln_x a b)
/-- unlike cells on one straight line -/
abbrev ln_ok (a b : Int) : Prop := ¬ a = b ∧ (ln_x a b = 0 ∨ ln_y a b = 0 ∨ ab (ln_x a b) = ab (ln_y a b))
/-- the ground of n cells on the way is lower than e -/
def cl (μ : Nat → Nat → Int) (a st e : Int) : Nat → Int
  | 0 => 1
  | n + 1 => if cl μ a st e n = 1 ∧ μ 7 (a + ((n : Int) + 1) * st).toNat < e then 1 else 0
abbrev g_seen (μ : Nat → Nat → Int) (a b e : Int) : Prop := ln_ok a b ∧ cl μ a (ln_s a b) e (ln_f a b - 1).toNat = 1
theorem cl_rows {μ ν : Nat → Nat → Int} (e7 : ν 7 = μ 7) {a st e : Int} : ∀ n, cl ν a st e n = cl μ a st e n
  | 0 => rfl
  | n + 1 => by
    show (if cl ν a st e n = 1 ∧ ν 7 _ < e then (1 : Int) else 0) = (if cl μ a st e n = 1 ∧ μ 7 _ < e then 1 else 0)
    rw [cl_rows e7 n, e7]
theorem cl_pos {μ : Nat → Nat → Int} {a st e : Int} {n : Nat} (h1 : cl μ a st e n = 1) (h2 : μ 7 (a + ((n : Int) + 1) * st).toNat < e) : cl μ a st e (n + 1) = 1 := if_pos ⟨h1, h2⟩
theorem cl_iff {μ : Nat → Nat → Int} {a st e : Int} : ∀ n : Nat, cl μ a st e n = 1 ↔ ∀ i : Nat, 1 ≤ i → i ≤ n → μ 7 (a + (i : Int) * st).toNat < e
  | 0 => ⟨fun _ i h1 h2 => by omega, fun _ => rfl⟩
  | n + 1 => by
    have ih := cl_iff (μ := μ) (a := a) (st := st) (e := e) n
    have e1 : cl μ a st e (n + 1) = if cl μ a st e n = 1 ∧ μ 7 (a + ((n : Int) + 1) * st).toNat < e then 1 else 0 := rfl
    constructor
    · intro h i h1 h2
      rw [e1] at h
      by_cases hc : cl μ a st e n = 1 ∧ μ 7 (a + ((n : Int) + 1) * st).toNat < e
      · by_cases ei : i = n + 1
        · rw [ei]; exact hc.2
        · exact ih.mp hc.1 i h1 (by omega)
      · rw [if_neg hc] at h; exact absurd h (by decide)
    · intro h
      have h3 := h (n + 1) (by omega) (by omega)
      rw [e1, if_pos ⟨ih.mpr (fun i h1 h2 => h i h1 (by omega)), h3⟩]
theorem cl_no {μ : Nat → Nat → Int} {a st e : Int} {n m : Nat} (hm : n < m) (h2 : ¬ μ 7 (a + ((n : Int) + 1) * st).toNat < e) : ¬ cl μ a st e m = 1 := by
  intro h
  exact h2 ((cl_iff m).mp h (n + 1) (by omega) (by omega))
/-- the line's shape: what every walk along it needs -/
theorem ln_walk {a b C R : Int} (ha : 0 ≤ a ∧ a < 100) (hb : 0 ≤ b ∧ b < 100) (ha1 : a % 10 < C) (hb1 : b % 10 < C) (ha2 : a / 10 < R) (hb2 : b / 10 < R) (h : ln_ok a b) : (1 ≤ ln_f a b ∧ ln_f a b ≤ 9) ∧ (-11 ≤ ln_s a b ∧ ln_s a b ≤ 11) ∧ a + ln_f a b * ln_s a b = b ∧ ∀ i : Int, 0 ≤ i → i < ln_f a b → (0 ≤ a + i * ln_s a b ∧ a + i * ln_s a b < 100 ∧ ¬ a + i * ln_s a b = b ∧ (-99 ≤ i * ln_s a b ∧ i * ln_s a b ≤ 99)) ∧ (a + i * ln_s a b) % 10 < C ∧ (a + i * ln_s a b) / 10 < R := by
  have e1 := td10 ha.1
  have e2 := td10 hb.1
  obtain ⟨h1, h2⟩ := h
  unfold ln_f ln_s
  unfold ln_x ln_y at *
  rw [e1.1, e1.2, e2.1, e2.2] at *
  generalize hx : b % 10 - a % 10 = X at *
  generalize hy : b / 10 - a / 10 = Y at *
  have hX : sg X = 1 ∧ ab X = X ∧ 0 < X ∨ sg X = -1 ∧ ab X = -X ∧ X < 0 ∨ sg X = 0 ∧ ab X = 0 ∧ X = 0 := by
    have h3 := sg_b X
    have h4 := ab_b X
    omega
  have hY : sg Y = 1 ∧ ab Y = Y ∧ 0 < Y ∨ sg Y = -1 ∧ ab Y = -Y ∧ Y < 0 ∨ sg Y = 0 ∧ ab Y = 0 ∧ Y = 0 := by
    have h3 := sg_b Y
    have h4 := ab_b Y
    omega
  rcases hX with ⟨x1, x2, x3⟩ | ⟨x1, x2, x3⟩ | ⟨x1, x2, x3⟩ <;> rcases hY with ⟨y1, y2, y3⟩ | ⟨y1, y2, y3⟩ | ⟨y1, y2, y3⟩ <;> rw [x1, x2, y1, y2] <;> rw [x2, y2] at h2 <;> split <;> refine ⟨by omega, by omega, by omega, fun i i0 i1 => ⟨by omega, by omega, by omega⟩⟩
/-- the same way back -/
theorem ln_back {a b : Int} : ln_x b a = - ln_x a b ∧ ln_y b a = - ln_y a b ∧ ln_f b a = ln_f a b ∧ ln_s b a = - ln_s a b ∧ (ln_ok b a ↔ ln_ok a b) := by
  have h1 : ln_x b a = - ln_x a b := by unfold ln_x; omega
  have h2 : ln_y b a = - ln_y a b := by unfold ln_y; omega
  have s1 := sg_b (ln_x a b)
  have s2 := sg_b (ln_y a b)
  have s3 := sg_b (- ln_x a b)
  have s4 := sg_b (- ln_y a b)
  have s5 := ab_b (ln_x a b)
  have s6 := ab_b (ln_y a b)
  have s7 := ab_b (- ln_x a b)
  have s8 := ab_b (- ln_y a b)
  have e1 : ab (- ln_x a b) = ab (ln_x a b) := by omega
  have e2 : ab (- ln_y a b) = ab (ln_y a b) := by omega
  refine ⟨h1, h2, ?_, ?_, ?_⟩
  · unfold ln_f; rw [h1, h2, e1, e2]
  · unfold ln_s; rw [h1, h2]; omega
  · show (¬ b = a ∧ (ln_x b a = 0 ∨ ln_y b a = 0 ∨ ab (ln_x b a) = ab (ln_y b a))) ↔ _
    rw [h1, h2, e1, e2]
    constructor
    · intro ⟨z1, z2⟩
      exact ⟨fun z => z1 z.symm, by omega⟩
    · intro ⟨z1, z2⟩
      exact ⟨fun z => z1 z.symm, by omega⟩
theorem g_seen_back {μ : Nat → Nat → Int} (hL : I_land μ) {a b e : Int} (ha : g_cell μ a) (hb : g_cell μ b) : g_seen μ b a e ↔ g_seen μ a b e := by
  have key : ∀ {a b : Int}, g_cell μ a → g_cell μ b → g_seen μ a b e → g_seen μ b a e := by
    intro a b ha hb ⟨h1, h2⟩
    have ab1 := g_cell_b hL ha
    have bb1 := g_cell_b hL hb
    have e1 := td10 ab1.1
    have e2 := td10 bb1.1
    obtain ⟨-, -, f, g, k⟩ := ln_back (a := a) (b := b)
    have w := ln_walk (C := 10) (R := 10) ab1 bb1 (by omega) (by omega) (by omega) (by omega) h1
    refine ⟨k.mpr h1, ?_⟩
    rw [f, g, cl_iff]
    rw [cl_iff] at h2
    intro i i1 i2
    have h3 := h2 ((ln_f a b).toNat - i) (by omega) (by omega)
    have e3 : a + (((ln_f a b).toNat - i : Nat) : Int) * ln_s a b = b + (i : Int) * - ln_s a b := by
      rw [show (((ln_f a b).toNat - i : Nat) : Int) = ln_f a b - i by omega, Int.sub_mul, Int.mul_neg]
      have := w.2.2.1
      omega
    rw [e3] at h3
    exact h3
  exact ⟨key hb ha, key ha hb⟩
theorem sg_eq0 : ∀ n : Nat, n < 199 → m_or (m_shr ((n : Int) - 99) 31) (m_ushr (-((n : Int) - 99)) 31) = sg ((n : Int) - 99) := by decide +kernel
theorem sg_eq {z : Int} (h : -99 ≤ z ∧ z ≤ 99) : m_or (m_shr z 31) (m_ushr (-z) 31) = sg z := by
  have h1 := sg_eq0 (z + 99).toNat (by omega)
  rw [show (((z + 99).toNat : Nat) : Int) - 99 = z by omega] at h1
  exact h1
set_option maxHeartbeats 2000000 in
theorem c_J6_signum_0f7a4 {μ : Nat → Nat → Int} {c s : Nat} {z : Int} (hz : -99 ≤ z ∧ z ≤ 99) : Cl PT 273 [mI z] (mkh μ c s) (fun r => r = (some (some (mI (sg z))), mkh (μ) c s)) := by
  refine ⟨_, PT_273, Nat.le_of_ble_eq_true rfl, ?_⟩
  show Rn PT none kJ6_signum_0f7a4 0 [some (mI (z))] [] (mkh μ c s) _
  refine rn_iload_n (k' := 1) rfl rfl rfl ?_
  refine rn_bipush (k' := 2) rfl rfl ?_
  refine rn_ishr (k' := 3) rfl rfl ?_
  refine rn_iload_n (k' := 4) rfl rfl rfl ?_
  refine rn_ineg (k' := 5) rfl rfl (by omega) ?_
  refine rn_bipush (k' := 6) rfl rfl ?_
  refine rn_iushr (k' := 7) rfl rfl ?_
  refine rn_ior (k' := 8) rfl rfl ?_
  refine rn_iret rfl (Or.inl rfl) ?_
  rw [← sg_eq hz]
set_option maxHeartbeats 2000000 in
theorem c_X12_sizeOf {μ : Nat → Nat → Int} {c s : Nat} {z : Int} (hz : -100000 ≤ z ∧ z ≤ 100000) : Cl PT 169 [mI z] (mkh μ c s) (fun r => r = (some (some (mI (ab z))), mkh (μ) c s)) := by
  have hab := ab_b z
  refine ⟨_, PT_169, Nat.le_of_ble_eq_true rfl, ?_⟩
  show Rn PT none kX12_sizeOf 0 [some (mI (z))] [] (mkh μ c s) _
  refine rn_iload_n (k' := 1) rfl rfl rfl ?_
  refine rn_if_ge (k' := 2) rfl rfl (fun hc1 => ?_) (fun hc1 => ?_)
  · skip
    refine rn_iload_n (k' := 6) rfl rfl rfl ?_
    refine rn_iret rfl (Or.inl rfl) ?_
    refine congrArg (fun z => ((some (some (mI z)) : Option (Option MV)), mkh μ c s)) ?_
    omega
  · skip
    refine rn_iload_n (k' := 3) rfl rfl rfl ?_
    refine rn_ineg (k' := 4) rfl rfl (by omega) ?_
    refine rn_goto rfl ?_
    refine rn_iret rfl (Or.inl rfl) ?_
    refine congrArg (fun z => ((some (some (mI z)) : Option (Option MV)), mkh μ c s)) ?_
    omega
set_option maxHeartbeats 4000000 in
theorem l_isClear {μ : Nat → Nat → Int} {c s : Nat} (hL : I_land μ) {a b e X Y F S : Int} (ha : g_cell μ a) (hb : g_cell μ b) (hk : ln_ok a b) (hF : F = ln_f a b) (hS : S = ln_s a b) : ∀ (d n : Nat) (i : Int), i = (n : Int) + 1 → (n : Int) + 1 + d = F → cl μ a S e n = 1 → Rn PT none kX9_isClear 51 [some (mR 81), some (mI (a)), some (mI (b)), some (mI (e)), some (mI (X)), some (mI (Y)), some (mI (F)), some (mI (1)), some (mI (S)), some (mI (i))] [] (mkh μ c s) (fun r => r = (some (some (mI (if g_seen μ a b e then 1 else 0))), mkh μ c s)) := by
  have hL_ := hL
  obtain ⟨lc, lr, le, lm, lw, lh, lwo, lwd, q0, q1, q2, q3, q4, q8, q499, q500, lth, lG, lT, lW, -⟩ := hL_
  have hga1 := g_cell_b hL ha
  have hgb1 := g_cell_b hL hb
  have e1 := td10 hga1.1
  have e2 := td10 hgb1.1
  have ha_ := ha
  have hb_ := hb
  obtain ⟨-, ha1, ha2⟩ := ha_
  obtain ⟨-, hb1, hb2⟩ := hb_
  rw [e1.2] at ha1
  rw [e1.1] at ha2
  rw [e2.2] at hb1
  rw [e2.1] at hb2
  obtain ⟨w1, w2, w3, w4⟩ := ln_walk hga1 hgb1 ha1 hb1 ha2 hb2 hk
  rw [← hF] at w1 w3 w4
  rw [← hS] at w2 w3 w4
  intro d
  induction d with
  | zero =>
    intro n i ei hn hcl
    refine rn_iload (k' := 52) rfl rfl rfl ?_
    refine rn_iload (k' := 53) rfl rfl rfl ?_
    refine rn_icmp_ge (k' := 54) rfl rfl (fun hc1 => ?_) (fun hc1 => ?_)
    · skip
      refine rn_iconst (k' := 70) rfl rfl ?_
      refine rn_iret rfl (Or.inr (by omega)) ?_
      rw [if_pos ⟨hk, (by rw [← hS, ← hF, show (F - 1).toNat = n by omega]; exact hcl)⟩]
    · exfalso; omega
  | succ d ih =>
    intro n i ei hn hcl
    have w5 := w4 i (by omega) (by omega)
    subst ei
    refine rn_iload (k' := 52) rfl rfl rfl ?_
    refine rn_iload (k' := 53) rfl rfl rfl ?_
    refine rn_icmp_ge (k' := 54) rfl rfl (fun hc1 => ?_) (fun hc1 => ?_)
    · exfalso; omega
    · skip
      refine rn_aload_n (k' := 55) rfl rfl rfl ?_
      refine rn_getR (k' := 56) rfl rfl K0_81 (by decide) rfl R0_81_0 ?_
      refine rn_getR (k' := 57) rfl rfl K0_6 (by decide) rfl R0_6_0 ?_
      refine rn_iload_n (k' := 58) rfl rfl rfl ?_
      refine rn_iload (k' := 59) rfl rfl rfl ?_
      refine rn_iload (k' := 60) rfl rfl rfl ?_
      refine rn_imul (k' := 61) rfl rfl (by omega) ?_
      refine rn_iadd (k' := 62) rfl rfl (by omega) ?_
      refine rn_iaload (k' := 63) rfl rfl K0_7 (by omega) (by omega) ?_
      have hb2 := lG ((a + (((n : Int) + 1) * S)).toNat)
      refine rn_iload_n (k' := 64) rfl rfl rfl ?_
      refine rn_icmp_lt (k' := 65) rfl rfl (fun hc3 => ?_) (fun hc3 => ?_)
      · skip
        refine rn_iinc (k' := 68) (L' := [some (mR 81), some (mI (a)), some (mI (b)), some (mI (e)), some (mI (X)), some (mI (Y)), some (mI (F)), some (mI (1)), some (mI (S)), some (mI ((n : Int) + 1 + 1))]) rfl rfl rfl (by omega) rfl ?_
        refine rn_goto rfl ?_
        exact ih (n + 1) _ (by omega) (by omega) (cl_pos hcl (by omega))
      · skip
        refine rn_iconst (k' := 66) rfl rfl ?_
        refine rn_iret rfl (Or.inr (by omega)) ?_
        rw [if_neg (fun z => cl_no (n := n) (m := (ln_f a b - 1).toNat) (by omega) (by rw [← hS]; omega) z.2)]
set_option maxHeartbeats 4000000 in
theorem l_isClear_a {μ : Nat → Nat → Int} {c s : Nat} (hL : I_land μ) {a b e X Y : Int} (ha : g_cell μ a) (hb : g_cell μ b) (hX : X = ln_x a b) (hY : Y = ln_y a b) : Rn PT none kX9_isClear 16 [some (mR 81), some (mI (a)), some (mI (b)), some (mI (e)), some (mI (X)), some (mI (Y)), none, none, none, none] [] (mkh μ c s) (fun r => r = (some (some (mI (if g_seen μ a b e then 1 else 0))), mkh μ c s)) := by
  have hL_ := hL
  obtain ⟨lc, lr, le, lm, lw, lh, lwo, lwd, q0, q1, q2, q3, q4, q8, q499, q500, lth, lG, lT, lW, -⟩ := hL_
  have hga1 := g_cell_b hL ha
  have hgb1 := g_cell_b hL hb
  have e1 := td10 hga1.1
  have e2 := td10 hgb1.1
  have ha_ := ha
  have hb_ := hb
  obtain ⟨-, ha1, ha2⟩ := ha_
  obtain ⟨-, hb1, hb2⟩ := hb_
  rw [e1.2] at ha1
  rw [e1.1] at ha2
  rw [e2.2] at hb1
  rw [e2.1] at hb2
  have eX : X = b % 10 - a % 10 := by rw [hX]; unfold ln_x; rw [e1.2, e2.2]
  have eY : Y = b / 10 - a / 10 := by rw [hY]; unfold ln_y; rw [e1.1, e2.1]
  have hF : (if ab X < ab Y then ab Y else ab X) = ln_f a b := by unfold ln_f; rw [hX, hY]
  have hS : sg Y * 10 + sg X = ln_s a b := by unfold ln_s; rw [hX, hY]
  have hab8 := ab_b X
  have hab9 := ab_b Y
  have hno : ¬ (¬ a = b ∧ (X = 0 ∨ Y = 0 ∨ ab X = ab Y)) → ¬ g_seen μ a b e := fun z1 z2 => z1 ⟨z2.1.1, by rw [hX, hY]; exact z2.1.2⟩
  have hyes : (¬ a = b ∧ (X = 0 ∨ Y = 0 ∨ ab X = ab Y)) → ln_ok a b := fun z1 => ⟨z1.1, by rw [← hX, ← hY]; exact z1.2⟩
  refine rn_iload (k' := 17) rfl rfl rfl ?_
  refine rn_nat (k' := 18) (S' := [mI (if 0 ≤ (X) then (X) else w32 (0 - (X)))]) (h' := mkh μ c s) rfl rfl rfl ?_
  rw [abs_ab (X) (by omega)]
  have hab1 := ab_b (X)
  refine rn_iload (k' := 19) rfl rfl rfl ?_
  refine rn_nat (k' := 20) (S' := [mI (if 0 ≤ (Y) then (Y) else w32 (0 - (Y))), mI (ab (X))]) (h' := mkh μ c s) rfl rfl rfl ?_
  rw [abs_ab (Y) (by omega)]
  have hab2 := ab_b (Y)
  refine rn_nat (k' := 21) (S' := [mI (if ab (X) < ab (Y) then ab (Y) else ab (X))]) (h' := mkh μ c s) rfl rfl rfl ?_
  refine rn_istore (k' := 22) (L' := [some (mR 81), some (mI (a)), some (mI (b)), some (mI (e)), some (mI (X)), some (mI (Y)), some (mI (if ab (X) < ab (Y) then ab (Y) else ab (X))), none, none, none]) rfl rfl (Nat.le_of_ble_eq_true rfl) rfl ?_
  refine rn_iload (k' := 23) rfl rfl rfl ?_
  refine rn_if_eq (k' := 24) rfl rfl (fun hc3 => ?_) (fun hc3 => ?_)
  · skip
    refine rn_iconst (k' := 32) rfl rfl ?_
    refine rn_goto rfl ?_
    refine rn_istore (k' := 35) (L' := [some (mR 81), some (mI (a)), some (mI (b)), some (mI (e)), some (mI (X)), some (mI (Y)), some (mI (if ab (X) < ab (Y) then ab (Y) else ab (X))), some (mI (1)), none, none]) rfl rfl (Nat.le_of_ble_eq_true rfl) rfl ?_
    refine rn_iload (k' := 36) rfl rfl rfl ?_
    refine rn_if_eq (k' := 37) rfl rfl (fun hc4 => ?_) (fun hc4 => ?_)
    · skip
      refine rn_iconst (k' := 40) rfl rfl ?_
      refine rn_iret rfl (Or.inr (by omega)) ?_
      rw [if_neg (hno (by omega))]
    · skip
      refine rn_iload (k' := 38) rfl rfl rfl ?_
      refine rn_if_ne (k' := 39) rfl rfl (fun hc5 => ?_) (fun hc5 => ?_)
      · skip
        refine rn_iload (k' := 42) rfl rfl rfl ?_
        have hsg6 := sg_b (Y)
        refine rn_callP (k' := 43) (y := 273) (vs := [mI (Y)]) (S' := []) (v := some (mI (sg (Y)))) (h' := mkh μ c s) rfl rfl rfl (c_J6_signum_0f7a4 (by omega)) ?_
        show Rn PT none kX9_isClear 43 [some (mR 81), some (mI (a)), some (mI (b)), some (mI (e)), some (mI (X)), some (mI (Y)), some (mI (if ab (X) < ab (Y) then ab (Y) else ab (X))), some (mI (1)), none, none] [mI (sg (Y))] (mkh μ c s) _
        refine rn_bipush (k' := 44) rfl rfl ?_
        refine rn_imul (k' := 45) rfl rfl (by omega) ?_
        refine rn_iload (k' := 46) rfl rfl rfl ?_
        have hsg7 := sg_b (X)
        refine rn_callP (k' := 47) (y := 273) (vs := [mI (X)]) (S' := [mI ((sg (Y)) * 10)]) (v := some (mI (sg (X)))) (h' := mkh μ c s) rfl rfl rfl (c_J6_signum_0f7a4 (by omega)) ?_
        show Rn PT none kX9_isClear 47 [some (mR 81), some (mI (a)), some (mI (b)), some (mI (e)), some (mI (X)), some (mI (Y)), some (mI (if ab (X) < ab (Y) then ab (Y) else ab (X))), some (mI (1)), none, none] [mI (sg (X)), mI ((sg (Y)) * 10)] (mkh μ c s) _
        refine rn_iadd (k' := 48) rfl rfl (by omega) ?_
        refine rn_istore (k' := 49) (L' := [some (mR 81), some (mI (a)), some (mI (b)), some (mI (e)), some (mI (X)), some (mI (Y)), some (mI (if ab (X) < ab (Y) then ab (Y) else ab (X))), some (mI (1)), some (mI (((sg (Y)) * 10) + (sg (X)))), none]) rfl rfl (Nat.le_of_ble_eq_true rfl) rfl ?_
        refine rn_iconst (k' := 50) rfl rfl ?_
        refine rn_istore (k' := 51) (L' := [some (mR 81), some (mI (a)), some (mI (b)), some (mI (e)), some (mI (X)), some (mI (Y)), some (mI (if ab (X) < ab (Y) then ab (Y) else ab (X))), some (mI (1)), some (mI (((sg (Y)) * 10) + (sg (X)))), some (mI (1))]) rfl rfl (Nat.le_of_ble_eq_true rfl) rfl ?_
        have hk := hyes (by omega)
        obtain ⟨w1, w2, w3, w4⟩ := ln_walk hga1 hgb1 ha1 hb1 ha2 hb2 hk
        have h := l_isClear (c := c) (s := s) (X := X) (Y := Y) (e := e) hL ha hb hk hF hS (ln_f a b - 1).toNat 0 1 rfl (by rw [hF]; omega) rfl
        exact h
      · exfalso; omega
  · skip
    refine rn_iload (k' := 25) rfl rfl rfl ?_
    refine rn_if_eq (k' := 26) rfl rfl (fun hc8 => ?_) (fun hc8 => ?_)
    · skip
      refine rn_iconst (k' := 32) rfl rfl ?_
      refine rn_goto rfl ?_
      refine rn_istore (k' := 35) (L' := [some (mR 81), some (mI (a)), some (mI (b)), some (mI (e)), some (mI (X)), some (mI (Y)), some (mI (if ab (X) < ab (Y) then ab (Y) else ab (X))), some (mI (1)), none, none]) rfl rfl (Nat.le_of_ble_eq_true rfl) rfl ?_
      refine rn_iload (k' := 36) rfl rfl rfl ?_
      refine rn_if_eq (k' := 37) rfl rfl (fun hc9 => ?_) (fun hc9 => ?_)
      · skip
        refine rn_iconst (k' := 40) rfl rfl ?_
        refine rn_iret rfl (Or.inr (by omega)) ?_
        rw [if_neg (hno (by omega))]
      · skip
        refine rn_iload (k' := 38) rfl rfl rfl ?_
        refine rn_if_ne (k' := 39) rfl rfl (fun hc10 => ?_) (fun hc10 => ?_)
        · skip
          refine rn_iload (k' := 42) rfl rfl rfl ?_
          have hsg11 := sg_b (Y)
          refine rn_callP (k' := 43) (y := 273) (vs := [mI (Y)]) (S' := []) (v := some (mI (sg (Y)))) (h' := mkh μ c s) rfl rfl rfl (c_J6_signum_0f7a4 (by omega)) ?_
          show Rn PT none kX9_isClear 43 [some (mR 81), some (mI (a)), some (mI (b)), some (mI (e)), some (mI (X)), some (mI (Y)), some (mI (if ab (X) < ab (Y) then ab (Y) else ab (X))), some (mI (1)), none, none] [mI (sg (Y))] (mkh μ c s) _
          refine rn_bipush (k' := 44) rfl rfl ?_
          refine rn_imul (k' := 45) rfl rfl (by omega) ?_
          refine rn_iload (k' := 46) rfl rfl rfl ?_
          have hsg12 := sg_b (X)
          refine rn_callP (k' := 47) (y := 273) (vs := [mI (X)]) (S' := [mI ((sg (Y)) * 10)]) (v := some (mI (sg (X)))) (h' := mkh μ c s) rfl rfl rfl (c_J6_signum_0f7a4 (by omega)) ?_
          show Rn PT none kX9_isClear 47 [some (mR 81), some (mI (a)), some (mI (b)), some (mI (e)), some (mI (X)), some (mI (Y)), some (mI (if ab (X) < ab (Y) then ab (Y) else ab (X))), some (mI (1)), none, none] [mI (sg (X)), mI ((sg (Y)) * 10)] (mkh μ c s) _
          refine rn_iadd (k' := 48) rfl rfl (by omega) ?_
          refine rn_istore (k' := 49) (L' := [some (mR 81), some (mI (a)), some (mI (b)), some (mI (e)), some (mI (X)), some (mI (Y)), some (mI (if ab (X) < ab (Y) then ab (Y) else ab (X))), some (mI (1)), some (mI (((sg (Y)) * 10) + (sg (X)))), none]) rfl rfl (Nat.le_of_ble_eq_true rfl) rfl ?_
          refine rn_iconst (k' := 50) rfl rfl ?_
          refine rn_istore (k' := 51) (L' := [some (mR 81), some (mI (a)), some (mI (b)), some (mI (e)), some (mI (X)), some (mI (Y)), some (mI (if ab (X) < ab (Y) then ab (Y) else ab (X))), some (mI (1)), some (mI (((sg (Y)) * 10) + (sg (X)))), some (mI (1))]) rfl rfl (Nat.le_of_ble_eq_true rfl) rfl ?_
          have hk := hyes (by omega)
          obtain ⟨w1, w2, w3, w4⟩ := ln_walk hga1 hgb1 ha1 hb1 ha2 hb2 hk
          have h := l_isClear (c := c) (s := s) (X := X) (Y := Y) (e := e) hL ha hb hk hF hS (ln_f a b - 1).toNat 0 1 rfl (by rw [hF]; omega) rfl
          exact h
        · exfalso; omega
    · skip
      refine rn_iload (k' := 27) rfl rfl rfl ?_
      refine rn_nat (k' := 28) (S' := [mI (if 0 ≤ (X) then (X) else w32 (0 - (X)))]) (h' := mkh μ c s) rfl rfl rfl ?_
      rw [abs_ab (X) (by omega)]
      have hab13 := ab_b (X)
      refine rn_iload (k' := 29) rfl rfl rfl ?_
      refine rn_nat (k' := 30) (S' := [mI (if 0 ≤ (Y) then (Y) else w32 (0 - (Y))), mI (ab (X))]) (h' := mkh μ c s) rfl rfl rfl ?_
      rw [abs_ab (Y) (by omega)]
      have hab14 := ab_b (Y)
      refine rn_icmp_ne (k' := 31) rfl rfl (fun hc15 => ?_) (fun hc15 => ?_)
      · skip
        refine rn_iconst (k' := 34) rfl rfl ?_
        refine rn_istore (k' := 35) (L' := [some (mR 81), some (mI (a)), some (mI (b)), some (mI (e)), some (mI (X)), some (mI (Y)), some (mI (if ab (X) < ab (Y) then ab (Y) else ab (X))), some (mI (0)), none, none]) rfl rfl (Nat.le_of_ble_eq_true rfl) rfl ?_
        refine rn_iload (k' := 36) rfl rfl rfl ?_
        refine rn_if_eq (k' := 37) rfl rfl (fun hc16 => ?_) (fun hc16 => ?_)
        · skip
          refine rn_iconst (k' := 40) rfl rfl ?_
          refine rn_iret rfl (Or.inr (by omega)) ?_
          rw [if_neg (hno (by omega))]
        · skip
          refine rn_iload (k' := 38) rfl rfl rfl ?_
          refine rn_if_ne (k' := 39) rfl rfl (fun hc17 => ?_) (fun hc17 => ?_)
          · exfalso; omega
          · skip
            refine rn_iconst (k' := 40) rfl rfl ?_
            refine rn_iret rfl (Or.inr (by omega)) ?_
            rw [if_neg (hno (by omega))]
      · skip
        refine rn_iconst (k' := 32) rfl rfl ?_
        refine rn_goto rfl ?_
        refine rn_istore (k' := 35) (L' := [some (mR 81), some (mI (a)), some (mI (b)), some (mI (e)), some (mI (X)), some (mI (Y)), some (mI (if ab (X) < ab (Y) then ab (Y) else ab (X))), some (mI (1)), none, none]) rfl rfl (Nat.le_of_ble_eq_true rfl) rfl ?_
        refine rn_iload (k' := 36) rfl rfl rfl ?_
        refine rn_if_eq (k' := 37) rfl rfl (fun hc18 => ?_) (fun hc18 => ?_)
        · skip
          refine rn_iconst (k' := 40) rfl rfl ?_
          refine rn_iret rfl (Or.inr (by omega)) ?_
          rw [if_neg (hno (by omega))]
        · skip
          refine rn_iload (k' := 38) rfl rfl rfl ?_
          refine rn_if_ne (k' := 39) rfl rfl (fun hc19 => ?_) (fun hc19 => ?_)
          · skip
            refine rn_iload (k' := 42) rfl rfl rfl ?_
            have hsg20 := sg_b (Y)
            refine rn_callP (k' := 43) (y := 273) (vs := [mI (Y)]) (S' := []) (v := some (mI (sg (Y)))) (h' := mkh μ c s) rfl rfl rfl (c_J6_signum_0f7a4 (by omega)) ?_
            show Rn PT none kX9_isClear 43 [some (mR 81), some (mI (a)), some (mI (b)), some (mI (e)), some (mI (X)), some (mI (Y)), some (mI (if ab (X) < ab (Y) then ab (Y) else ab (X))), some (mI (1)), none, none] [mI (sg (Y))] (mkh μ c s) _
            refine rn_bipush (k' := 44) rfl rfl ?_
            refine rn_imul (k' := 45) rfl rfl (by omega) ?_
            refine rn_iload (k' := 46) rfl rfl rfl ?_
            have hsg21 := sg_b (X)
            refine rn_callP (k' := 47) (y := 273) (vs := [mI (X)]) (S' := [mI ((sg (Y)) * 10)]) (v := some (mI (sg (X)))) (h' := mkh μ c s) rfl rfl rfl (c_J6_signum_0f7a4 (by omega)) ?_
            show Rn PT none kX9_isClear 47 [some (mR 81), some (mI (a)), some (mI (b)), some (mI (e)), some (mI (X)), some (mI (Y)), some (mI (if ab (X) < ab (Y) then ab (Y) else ab (X))), some (mI (1)), none, none] [mI (sg (X)), mI ((sg (Y)) * 10)] (mkh μ c s) _
            refine rn_iadd (k' := 48) rfl rfl (by omega) ?_
            refine rn_istore (k' := 49) (L' := [some (mR 81), some (mI (a)), some (mI (b)), some (mI (e)), some (mI (X)), some (mI (Y)), some (mI (if ab (X) < ab (Y) then ab (Y) else ab (X))), some (mI (1)), some (mI (((sg (Y)) * 10) + (sg (X)))), none]) rfl rfl (Nat.le_of_ble_eq_true rfl) rfl ?_
            refine rn_iconst (k' := 50) rfl rfl ?_
            refine rn_istore (k' := 51) (L' := [some (mR 81), some (mI (a)), some (mI (b)), some (mI (e)), some (mI (X)), some (mI (Y)), some (mI (if ab (X) < ab (Y) then ab (Y) else ab (X))), some (mI (1)), some (mI (((sg (Y)) * 10) + (sg (X)))), some (mI (1))]) rfl rfl (Nat.le_of_ble_eq_true rfl) rfl ?_
            have hk := hyes (by omega)
            obtain ⟨w1, w2, w3, w4⟩ := ln_walk hga1 hgb1 ha1 hb1 ha2 hb2 hk
            have h := l_isClear (c := c) (s := s) (X := X) (Y := Y) (e := e) hL ha hb hk hF hS (ln_f a b - 1).toNat 0 1 rfl (by rw [hF]; omega) rfl
            exact h
          · exfalso; omega
set_option maxHeartbeats 2000000 in
theorem c_X9_isClear {μ : Nat → Nat → Int} {c s : Nat} (hL : I_land μ) {a b e : Int} (ha : g_cell μ a) (hb : g_cell μ b) : Cl PT 81 [mR 81, mI a, mI b, mI e] (mkh μ c s) (fun r => r = (some (some (mI (if g_seen μ a b e then 1 else 0))), mkh (μ) c s)) := by
  have hL_ := hL
  obtain ⟨lc, lr, le, lm, lw, lh, lwo, lwd, q0, q1, q2, q3, q4, q8, q499, q500, lth, lG, lT, lW, -⟩ := hL_
  have hga1 := g_cell_b hL ha
  have hgb1 := g_cell_b hL hb
  have e1 := td10 hga1.1
  have e2 := td10 hgb1.1
  have ha_ := ha
  have hb_ := hb
  obtain ⟨-, ha1, ha2⟩ := ha_
  obtain ⟨-, hb1, hb2⟩ := hb_
  rw [e1.2] at ha1
  rw [e1.1] at ha2
  rw [e2.2] at hb1
  rw [e2.1] at hb2
  refine ⟨_, PT_81, Nat.le_of_ble_eq_true rfl, ?_⟩
  show Rn PT none kX9_isClear 0 [some (mR 81), some (mI (a)), some (mI (b)), some (mI (e)), none, none, none, none, none, none] [] (mkh μ c s) _
  refine rn_iload_n (k' := 1) rfl rfl rfl ?_
  refine rn_bipush (k' := 2) rfl rfl ?_
  refine rn_irem (k' := 3) rfl rfl (by omega) ?_
  refine rn_iload_n (k' := 4) rfl rfl rfl ?_
  refine rn_bipush (k' := 5) rfl rfl ?_
  refine rn_irem (k' := 6) rfl rfl (by omega) ?_
  refine rn_isub (k' := 7) rfl rfl (by omega) ?_
  refine rn_istore (k' := 8) (L' := [some (mR 81), some (mI (a)), some (mI (b)), some (mI (e)), some (mI (((b).tmod (10)) - ((a).tmod (10)))), none, none, none, none, none]) rfl rfl (Nat.le_of_ble_eq_true rfl) rfl ?_
  refine rn_iload_n (k' := 9) rfl rfl rfl ?_
  refine rn_bipush (k' := 10) rfl rfl ?_
  refine rn_idiv (k' := 11) rfl rfl (by omega) (tdiv_rng (by omega) (by omega)) ?_
  refine rn_iload_n (k' := 12) rfl rfl rfl ?_
  refine rn_bipush (k' := 13) rfl rfl ?_
  refine rn_idiv (k' := 14) rfl rfl (by omega) (tdiv_rng (by omega) (by omega)) ?_
  refine rn_isub (k' := 15) rfl rfl (by omega) ?_
  refine rn_istore (k' := 16) (L' := [some (mR 81), some (mI (a)), some (mI (b)), some (mI (e)), some (mI (((b).tmod (10)) - ((a).tmod (10)))), some (mI (((b).tdiv (10)) - ((a).tdiv (10)))), none, none, none, none]) rfl rfl (Nat.le_of_ble_eq_true rfl) rfl ?_
  exact l_isClear_a hL ha hb rfl rfl
set_option maxHeartbeats 4000000 in
theorem l_areSeen {μ : Nat → Nat → Int} {c s : Nat} (hL : I_land μ) {a b ea eb X Y F S f low : Int} (ha : g_cell μ a) (hb : g_cell μ b) (hk : ln_ok a b) (hF : F = ln_f a b) (hS : S = ln_s a b) : ∀ (d n : Nat) (cc : Int), cc = a + ((n : Int) + 1) * S → (n : Int) + 1 + d = F → cl μ a S low n = 1 → Rn PT none kX12_areSeen 76 [some (mR 118), some (mI (a)), some (mI (ea)), some (mI (b)), some (mI (eb)), some (mI (X)), some (mI (Y)), some (mI (f)), some (mI (low)), some (mI (S)), some (mI (cc))] [] (mkh μ c s) (fun r => r = (some (some (mI (if g_seen μ a b low then 1 else 0))), mkh μ c s)) := by
  have hL_ := hL
  obtain ⟨lc, lr, le, lm, lw, lh, lwo, lwd, q0, q1, q2, q3, q4, q8, q499, q500, lth, lG, lT, lW, -⟩ := hL_
  have hga1 := g_cell_b hL ha
  have hgb1 := g_cell_b hL hb
  have e1 := td10 hga1.1
  have e2 := td10 hgb1.1
  have ha_ := ha
  have hb_ := hb
  obtain ⟨-, ha1, ha2⟩ := ha_
  obtain ⟨-, hb1, hb2⟩ := hb_
  rw [e1.2] at ha1
  rw [e1.1] at ha2
  rw [e2.2] at hb1
  rw [e2.1] at hb2
  obtain ⟨w1, w2, w3, w4⟩ := ln_walk hga1 hgb1 ha1 hb1 ha2 hb2 hk
  rw [← hF] at w1 w3 w4
  rw [← hS] at w2 w3 w4
  intro d
  induction d with
  | zero =>
    intro n cc ec hn hcl
    have hcb : cc = b := by rw [ec, ← w3]; congr 2 <;> omega
    refine rn_iload (k' := 77) rfl rfl rfl ?_
    refine rn_iload_n (k' := 78) rfl rfl rfl ?_
    refine rn_icmp_eq (k' := 79) rfl rfl (fun hc1 => ?_) (fun hc1 => ?_)
    · skip
      refine rn_iconst (k' := 95) rfl rfl ?_
      refine rn_iret rfl (Or.inr (by omega)) ?_
      rw [if_pos ⟨hk, (by rw [← hS, ← hF, show (F - 1).toNat = n by omega]; exact hcl)⟩]
    · exfalso; omega
  | succ d ih =>
    intro n cc ec hn hcl
    have w5 := w4 ((n : Int) + 1) (by omega) (by omega)
    rw [← ec] at w5
    have e3 := td10 w5.1.1
    have hg : g_cell μ cc := ⟨w5.1.1, by rw [e3.2]; exact w5.2.1, by rw [e3.1]; exact w5.2.2⟩
    have en : cc + S = a + (((n + 1 : Nat) : Int) + 1) * S := by rw [ec, show (((n + 1 : Nat) : Int) + 1) = ((n : Int) + 1) + 1 by omega, Int.add_mul ((n : Int) + 1) 1 S, Int.one_mul]; omega
    refine rn_iload (k' := 77) rfl rfl rfl ?_
    refine rn_iload_n (k' := 78) rfl rfl rfl ?_
    refine rn_icmp_eq (k' := 79) rfl rfl (fun hc1 => ?_) (fun hc1 => ?_)
    · exfalso; omega
    · skip
      refine rn_aload_n (k' := 80) rfl rfl rfl ?_
      refine rn_getR (k' := 81) rfl rfl K0_118 (by decide) rfl R0_118_6 ?_
      refine rn_bipush (k' := 82) rfl rfl ?_
      refine rn_iload (k' := 83) rfl rfl rfl ?_
      refine rn_iadd (k' := 84) rfl rfl (by omega) ?_
      refine rn_iaload (k' := 85) rfl rfl K0_120 (by omega) (by omega) ?_
      rw [(v_g hL (a := cc) (by first | assumption | omega)).1]
      have hb2 := (v_g hL (a := cc) (by first | assumption | omega)).2
      refine rn_iload (k' := 86) rfl rfl rfl ?_
      refine rn_icmp_lt (k' := 87) rfl rfl (fun hc3 => ?_) (fun hc3 => ?_)
      · skip
        refine rn_iload (k' := 90) rfl rfl rfl ?_
        refine rn_iload (k' := 91) rfl rfl rfl ?_
        refine rn_iadd (k' := 92) rfl rfl (by omega) ?_
        refine rn_istore (k' := 93) (L' := [some (mR 118), some (mI (a)), some (mI (ea)), some (mI (b)), some (mI (eb)), some (mI (X)), some (mI (Y)), some (mI (f)), some (mI (low)), some (mI (S)), some (mI (cc + S))]) rfl rfl (Nat.le_of_ble_eq_true rfl) rfl ?_
        refine rn_goto rfl ?_
        exact ih (n + 1) _ en (by omega) (cl_pos hcl (by rw [← ec]; omega))
      · skip
        refine rn_iconst (k' := 88) rfl rfl ?_
        refine rn_iret rfl (Or.inr (by omega)) ?_
        rw [if_neg (fun z => cl_no (n := n) (m := (ln_f a b - 1).toNat) (by omega) (by rw [← hS, ← ec]; omega) z.2)]
set_option maxHeartbeats 8000000 in
theorem l_areSeen_a {μ : Nat → Nat → Int} {c s : Nat} (hL : I_land μ) (hS : I_scene μ) {a b ea eb X Y : Int} (ha : g_cell μ a) (hb : g_cell μ b) (hea : -1000 ≤ ea ∧ ea ≤ 1000) (heb : -1000 ≤ eb ∧ eb ≤ 1000) (hX : X = ln_x a b) (hY : Y = ln_y a b) : Rn PT none kX12_areSeen 16 [some (mR 118), some (mI (a)), some (mI (ea)), some (mI (b)), some (mI (eb)), some (mI (X)), some (mI (Y)), none, none, none, none] [] (mkh μ c s) (fun r => r = (some (some (mI (if g_w μ 2 (μ 14 0) < (if ea < eb then ea else eb) ∧ g_seen μ a b (if ea < eb then ea else eb) then 1 else 0))), mkh μ c s)) := by
  have hL_ := hL
  obtain ⟨lc, lr, le, lm, lw, lh, lwo, lwd, q0, q1, q2, q3, q4, q8, q499, q500, lth, lG, lT, lW, -⟩ := hL_
  have hS_ := hS
  obtain ⟨sd, sw, stk, s4, s5, s6, hC, hH, -, s10, sce, swc, s13⟩ := hS_
  have hga1 := g_cell_b hL ha
  have hgb1 := g_cell_b hL hb
  have e1 := td10 hga1.1
  have e2 := td10 hgb1.1
  have ha_ := ha
  have hb_ := hb
  obtain ⟨-, ha1, ha2⟩ := ha_
  obtain ⟨-, hb1, hb2⟩ := hb_
  rw [e1.2] at ha1
  rw [e1.1] at ha2
  rw [e2.2] at hb1
  rw [e2.1] at hb2
  have eX : X = b % 10 - a % 10 := by rw [hX]; unfold ln_x; rw [e1.2, e2.2]
  have eY : Y = b / 10 - a / 10 := by rw [hY]; unfold ln_y; rw [e1.1, e2.1]
  have hS0 : ln_s a b = sg Y * 10 + sg X := by unfold ln_s; rw [hX, hY]
  have hsx := sg_b X
  have hsy := sg_b Y
  have hab8 := ab_b X
  have hab9 := ab_b Y
  have hno : ¬ (¬ a = b ∧ (X = 0 ∨ Y = 0 ∨ ab X = ab Y)) → ¬ (g_w μ 2 (μ 14 0) < (if ea < eb then ea else eb) ∧ g_seen μ a b (if ea < eb then ea else eb)) := fun z1 z2 => z1 ⟨z2.2.1.1, by rw [hX, hY]; exact z2.2.1.2⟩
  have hyes : (¬ a = b ∧ (X = 0 ∨ Y = 0 ∨ ab X = ab Y)) → ln_ok a b := fun z1 => ⟨z1.1, by rw [← hX, ← hY]; exact z1.2⟩
  refine rn_iload_n (k' := 17) rfl rfl rfl ?_
  refine rn_iload_n (k' := 18) rfl rfl rfl ?_
  refine rn_icmp_eq (k' := 19) rfl rfl (fun hc1 => ?_) (fun hc1 => ?_)
  · skip
    refine rn_iconst (k' := 29) rfl rfl ?_
    refine rn_iret rfl (Or.inr (by omega)) ?_
    first | rw [if_neg (hno (by omega))] | rw [if_neg (fun z => by have := z.1; omega)]
  · skip
    refine rn_iload (k' := 20) rfl rfl rfl ?_
    refine rn_if_eq (k' := 21) rfl rfl (fun hc2 => ?_) (fun hc2 => ?_)
    · skip
      refine rn_aload_n (k' := 31) rfl rfl rfl ?_
      refine rn_aload_n (k' := 32) rfl rfl rfl ?_
      refine rn_getR (k' := 33) rfl rfl K0_118 (by decide) rfl R0_118_6 ?_
      refine rn_sipush (k' := 34) rfl rfl ?_
      refine rn_iaload (k' := 35) rfl rfl K0_120 (by omega) (by omega) ?_
      show Rn PT none kX12_areSeen 35 [some (mR 118), some (mI (a)), some (mI (ea)), some (mI (b)), some (mI (eb)), some (mI (X)), some (mI (Y)), none, none, none, none] [mI (μ 120 517), mR 118] (mkh μ c s) _
      rw [s4]
      refine rn_iconst (k' := 36) rfl rfl ?_
      have hb3 := g_w_b hL 2 (μ 14 0)
      refine rn_callP (k' := 37) (y := 196) (vs := [mR 118, mI (μ 14 0), mI (2)]) (S' := []) (v := some (mI (g_w μ 2 (μ 14 0)))) (h' := mkh μ c s) rfl rfl rfl (c_X12_onDay (μ := μ) (hL) (by omega) (by omega)) ?_
      show Rn PT none kX12_areSeen 37 [some (mR 118), some (mI (a)), some (mI (ea)), some (mI (b)), some (mI (eb)), some (mI (X)), some (mI (Y)), none, none, none, none] [mI (g_w μ 2 (μ 14 0))] (mkh μ c s) _
      refine rn_istore (k' := 38) (L' := [some (mR 118), some (mI (a)), some (mI (ea)), some (mI (b)), some (mI (eb)), some (mI (X)), some (mI (Y)), some (mI (g_w μ 2 (μ 14 0))), none, none, none]) rfl rfl (Nat.le_of_ble_eq_true rfl) rfl ?_
      refine rn_iload_n (k' := 39) rfl rfl rfl ?_
      refine rn_iload (k' := 40) rfl rfl rfl ?_
      refine rn_icmp_ge (k' := 41) rfl rfl (fun hc4 => ?_) (fun hc4 => ?_)
      · skip
        refine rn_iload (k' := 44) rfl rfl rfl ?_
        refine rn_istore (k' := 45) (L' := [some (mR 118), some (mI (a)), some (mI (ea)), some (mI (b)), some (mI (eb)), some (mI (X)), some (mI (Y)), some (mI (g_w μ 2 (μ 14 0))), some (mI (eb)), none, none]) rfl rfl (Nat.le_of_ble_eq_true rfl) rfl ?_
        refine rn_iload (k' := 46) rfl rfl rfl ?_
        refine rn_iload (k' := 47) rfl rfl rfl ?_
        refine rn_icmp_gt (k' := 48) rfl rfl (fun hc5 => ?_) (fun hc5 => ?_)
        · skip
          refine rn_iload (k' := 51) rfl rfl rfl ?_
          refine rn_if_le (k' := 52) rfl rfl (fun hc6 => ?_) (fun hc6 => ?_)
          · skip
            refine rn_iload (k' := 55) rfl rfl rfl ?_
            refine rn_if_ge (k' := 56) rfl rfl (fun hc7 => ?_) (fun hc7 => ?_)
            · skip
              refine rn_iconst (k' := 59) rfl rfl ?_
              refine rn_bipush (k' := 60) rfl rfl ?_
              refine rn_iload (k' := 61) rfl rfl rfl ?_
              refine rn_if_le (k' := 62) rfl rfl (fun hc8 => ?_) (fun hc8 => ?_)
              · skip
                refine rn_iload (k' := 65) rfl rfl rfl ?_
                refine rn_if_ge (k' := 66) rfl rfl (fun hc9 => ?_) (fun hc9 => ?_)
                · skip
                  refine rn_iconst (k' := 69) rfl rfl ?_
                  refine rn_imul (k' := 70) rfl rfl (by omega) ?_
                  refine rn_iadd (k' := 71) rfl rfl (by omega) ?_
                  refine rn_istore (k' := 72) (L' := [some (mR 118), some (mI (a)), some (mI (ea)), some (mI (b)), some (mI (eb)), some (mI (X)), some (mI (Y)), some (mI (g_w μ 2 (μ 14 0))), some (mI (eb)), some (mI (0 + (10 * 0))), none]) rfl rfl (Nat.le_of_ble_eq_true rfl) rfl ?_
                  refine rn_iload_n (k' := 73) rfl rfl rfl ?_
                  refine rn_iload (k' := 74) rfl rfl rfl ?_
                  refine rn_iadd (k' := 75) rfl rfl (by omega) ?_
                  refine rn_istore (k' := 76) (L' := [some (mR 118), some (mI (a)), some (mI (ea)), some (mI (b)), some (mI (eb)), some (mI (X)), some (mI (Y)), some (mI (g_w μ 2 (μ 14 0))), some (mI (eb)), some (mI (0 + (10 * 0))), some (mI (a + (0 + (10 * 0))))]) rfl rfl (Nat.le_of_ble_eq_true rfl) rfl ?_
                  have hk := hyes (by omega)
                  obtain ⟨w1, w2, w3, w4⟩ := ln_walk hga1 hgb1 ha1 hb1 ha2 hb2 hk
                  have hS2 : (0 + (10 * 0) : Int) = ln_s a b := by rw [hS0]; omega
                  have hlo : (if ea < eb then ea else eb) = eb := by omega
                  have h := l_areSeen (c := c) (s := s) (X := X) (Y := Y) (ea := ea) (eb := eb) (f := g_w μ 2 (μ 14 0)) (low := eb) hL ha hb hk rfl hS2 (ln_f a b - 1).toNat 0 (a + (0 + (10 * 0))) (by show a + (0 + (10 * 0) : Int) = a + ((0 : Int) + 1) * (0 + (10 * 0)); omega) (by omega) rfl
                  rw [hlo]
                  by_cases hz : g_seen μ a b (eb)
                  · rw [if_pos ⟨by omega, hz⟩]
                    rw [if_pos hz] at h
                    exact h
                  · rw [if_neg (fun z => hz z.2)]
                    rw [if_neg hz] at h
                    exact h
                · skip
                  refine rn_iconst (k' := 67) rfl rfl ?_
                  refine rn_goto rfl ?_
                  refine rn_imul (k' := 70) rfl rfl (by omega) ?_
                  refine rn_iadd (k' := 71) rfl rfl (by omega) ?_
                  refine rn_istore (k' := 72) (L' := [some (mR 118), some (mI (a)), some (mI (ea)), some (mI (b)), some (mI (eb)), some (mI (X)), some (mI (Y)), some (mI (g_w μ 2 (μ 14 0))), some (mI (eb)), some (mI (0 + (10 * (-1)))), none]) rfl rfl (Nat.le_of_ble_eq_true rfl) rfl ?_
                  refine rn_iload_n (k' := 73) rfl rfl rfl ?_
                  refine rn_iload (k' := 74) rfl rfl rfl ?_
                  refine rn_iadd (k' := 75) rfl rfl (by omega) ?_
                  refine rn_istore (k' := 76) (L' := [some (mR 118), some (mI (a)), some (mI (ea)), some (mI (b)), some (mI (eb)), some (mI (X)), some (mI (Y)), some (mI (g_w μ 2 (μ 14 0))), some (mI (eb)), some (mI (0 + (10 * (-1)))), some (mI (a + (0 + (10 * (-1)))))]) rfl rfl (Nat.le_of_ble_eq_true rfl) rfl ?_
                  have hk := hyes (by omega)
                  obtain ⟨w1, w2, w3, w4⟩ := ln_walk hga1 hgb1 ha1 hb1 ha2 hb2 hk
                  have hS2 : (0 + (10 * (-1)) : Int) = ln_s a b := by rw [hS0]; omega
                  have hlo : (if ea < eb then ea else eb) = eb := by omega
                  have h := l_areSeen (c := c) (s := s) (X := X) (Y := Y) (ea := ea) (eb := eb) (f := g_w μ 2 (μ 14 0)) (low := eb) hL ha hb hk rfl hS2 (ln_f a b - 1).toNat 0 (a + (0 + (10 * (-1)))) (by show a + (0 + (10 * (-1)) : Int) = a + ((0 : Int) + 1) * (0 + (10 * (-1))); omega) (by omega) rfl
                  rw [hlo]
                  by_cases hz : g_seen μ a b (eb)
                  · rw [if_pos ⟨by omega, hz⟩]
                    rw [if_pos hz] at h
                    exact h
                  · rw [if_neg (fun z => hz z.2)]
                    rw [if_neg hz] at h
                    exact h
              · skip
                refine rn_iconst (k' := 63) rfl rfl ?_
                refine rn_goto rfl ?_
                refine rn_imul (k' := 70) rfl rfl (by omega) ?_
                refine rn_iadd (k' := 71) rfl rfl (by omega) ?_
                refine rn_istore (k' := 72) (L' := [some (mR 118), some (mI (a)), some (mI (ea)), some (mI (b)), some (mI (eb)), some (mI (X)), some (mI (Y)), some (mI (g_w μ 2 (μ 14 0))), some (mI (eb)), some (mI (0 + (10 * 1))), none]) rfl rfl (Nat.le_of_ble_eq_true rfl) rfl ?_
                refine rn_iload_n (k' := 73) rfl rfl rfl ?_
                refine rn_iload (k' := 74) rfl rfl rfl ?_
                refine rn_iadd (k' := 75) rfl rfl (by omega) ?_
                refine rn_istore (k' := 76) (L' := [some (mR 118), some (mI (a)), some (mI (ea)), some (mI (b)), some (mI (eb)), some (mI (X)), some (mI (Y)), some (mI (g_w μ 2 (μ 14 0))), some (mI (eb)), some (mI (0 + (10 * 1))), some (mI (a + (0 + (10 * 1))))]) rfl rfl (Nat.le_of_ble_eq_true rfl) rfl ?_
                have hk := hyes (by omega)
                obtain ⟨w1, w2, w3, w4⟩ := ln_walk hga1 hgb1 ha1 hb1 ha2 hb2 hk
                have hS2 : (0 + (10 * 1) : Int) = ln_s a b := by rw [hS0]; omega
                have hlo : (if ea < eb then ea else eb) = eb := by omega
                have h := l_areSeen (c := c) (s := s) (X := X) (Y := Y) (ea := ea) (eb := eb) (f := g_w μ 2 (μ 14 0)) (low := eb) hL ha hb hk rfl hS2 (ln_f a b - 1).toNat 0 (a + (0 + (10 * 1))) (by show a + (0 + (10 * 1) : Int) = a + ((0 : Int) + 1) * (0 + (10 * 1)); omega) (by omega) rfl
                rw [hlo]
                by_cases hz : g_seen μ a b (eb)
                · rw [if_pos ⟨by omega, hz⟩]
                  rw [if_pos hz] at h
                  exact h
                · rw [if_neg (fun z => hz z.2)]
                  rw [if_neg hz] at h
                  exact h
            · skip
              refine rn_iconst (k' := 57) rfl rfl ?_
              refine rn_goto rfl ?_
              refine rn_bipush (k' := 60) rfl rfl ?_
              refine rn_iload (k' := 61) rfl rfl rfl ?_
              refine rn_if_le (k' := 62) rfl rfl (fun hc10 => ?_) (fun hc10 => ?_)
              · skip
                refine rn_iload (k' := 65) rfl rfl rfl ?_
                refine rn_if_ge (k' := 66) rfl rfl (fun hc11 => ?_) (fun hc11 => ?_)
                · skip
                  refine rn_iconst (k' := 69) rfl rfl ?_
                  refine rn_imul (k' := 70) rfl rfl (by omega) ?_
                  refine rn_iadd (k' := 71) rfl rfl (by omega) ?_
                  refine rn_istore (k' := 72) (L' := [some (mR 118), some (mI (a)), some (mI (ea)), some (mI (b)), some (mI (eb)), some (mI (X)), some (mI (Y)), some (mI (g_w μ 2 (μ 14 0))), some (mI (eb)), some (mI ((-1) + (10 * 0))), none]) rfl rfl (Nat.le_of_ble_eq_true rfl) rfl ?_
                  refine rn_iload_n (k' := 73) rfl rfl rfl ?_
                  refine rn_iload (k' := 74) rfl rfl rfl ?_
                  refine rn_iadd (k' := 75) rfl rfl (by omega) ?_
                  refine rn_istore (k' := 76) (L' := [some (mR 118), some (mI (a)), some (mI (ea)), some (mI (b)), some (mI (eb)), some (mI (X)), some (mI (Y)), some (mI (g_w μ 2 (μ 14 0))), some (mI (eb)), some (mI ((-1) + (10 * 0))), some (mI (a + ((-1) + (10 * 0))))]) rfl rfl (Nat.le_of_ble_eq_true rfl) rfl ?_
                  have hk := hyes (by omega)
                  obtain ⟨w1, w2, w3, w4⟩ := ln_walk hga1 hgb1 ha1 hb1 ha2 hb2 hk
                  have hS2 : ((-1) + (10 * 0) : Int) = ln_s a b := by rw [hS0]; omega
                  have hlo : (if ea < eb then ea else eb) = eb := by omega
                  have h := l_areSeen (c := c) (s := s) (X := X) (Y := Y) (ea := ea) (eb := eb) (f := g_w μ 2 (μ 14 0)) (low := eb) hL ha hb hk rfl hS2 (ln_f a b - 1).toNat 0 (a + ((-1) + (10 * 0))) (by show a + ((-1) + (10 * 0) : Int) = a + ((0 : Int) + 1) * ((-1) + (10 * 0)); omega) (by omega) rfl
                  rw [hlo]
                  by_cases hz : g_seen μ a b (eb)
                  · rw [if_pos ⟨by omega, hz⟩]
                    rw [if_pos hz] at h
                    exact h
                  · rw [if_neg (fun z => hz z.2)]
                    rw [if_neg hz] at h
                    exact h
                · skip
                  refine rn_iconst (k' := 67) rfl rfl ?_
                  refine rn_goto rfl ?_
                  refine rn_imul (k' := 70) rfl rfl (by omega) ?_
                  refine rn_iadd (k' := 71) rfl rfl (by omega) ?_
                  refine rn_istore (k' := 72) (L' := [some (mR 118), some (mI (a)), some (mI (ea)), some (mI (b)), some (mI (eb)), some (mI (X)), some (mI (Y)), some (mI (g_w μ 2 (μ 14 0))), some (mI (eb)), some (mI ((-1) + (10 * (-1)))), none]) rfl rfl (Nat.le_of_ble_eq_true rfl) rfl ?_
                  refine rn_iload_n (k' := 73) rfl rfl rfl ?_
                  refine rn_iload (k' := 74) rfl rfl rfl ?_
                  refine rn_iadd (k' := 75) rfl rfl (by omega) ?_
                  refine rn_istore (k' := 76) (L' := [some (mR 118), some (mI (a)), some (mI (ea)), some (mI (b)), some (mI (eb)), some (mI (X)), some (mI (Y)), some (mI (g_w μ 2 (μ 14 0))), some (mI (eb)), some (mI ((-1) + (10 * (-1)))), some (mI (a + ((-1) + (10 * (-1)))))]) rfl rfl (Nat.le_of_ble_eq_true rfl) rfl ?_
                  have hk := hyes (by omega)
                  obtain ⟨w1, w2, w3, w4⟩ := ln_walk hga1 hgb1 ha1 hb1 ha2 hb2 hk
                  have hS2 : ((-1) + (10 * (-1)) : Int) = ln_s a b := by rw [hS0]; omega
                  have hlo : (if ea < eb then ea else eb) = eb := by omega
                  have h := l_areSeen (c := c) (s := s) (X := X) (Y := Y) (ea := ea) (eb := eb) (f := g_w μ 2 (μ 14 0)) (low := eb) hL ha hb hk rfl hS2 (ln_f a b - 1).toNat 0 (a + ((-1) + (10 * (-1)))) (by show a + ((-1) + (10 * (-1)) : Int) = a + ((0 : Int) + 1) * ((-1) + (10 * (-1))); omega) (by omega) rfl
                  rw [hlo]
                  by_cases hz : g_seen μ a b (eb)
                  · rw [if_pos ⟨by omega, hz⟩]
                    rw [if_pos hz] at h
                    exact h
                  · rw [if_neg (fun z => hz z.2)]
                    rw [if_neg hz] at h
                    exact h
              · skip
                refine rn_iconst (k' := 63) rfl rfl ?_
                refine rn_goto rfl ?_
                refine rn_imul (k' := 70) rfl rfl (by omega) ?_
                refine rn_iadd (k' := 71) rfl rfl (by omega) ?_
                refine rn_istore (k' := 72) (L' := [some (mR 118), some (mI (a)), some (mI (ea)), some (mI (b)), some (mI (eb)), some (mI (X)), some (mI (Y)), some (mI (g_w μ 2 (μ 14 0))), some (mI (eb)), some (mI ((-1) + (10 * 1))), none]) rfl rfl (Nat.le_of_ble_eq_true rfl) rfl ?_
                refine rn_iload_n (k' := 73) rfl rfl rfl ?_
                refine rn_iload (k' := 74) rfl rfl rfl ?_
                refine rn_iadd (k' := 75) rfl rfl (by omega) ?_
                refine rn_istore (k' := 76) (L' := [some (mR 118), some (mI (a)), some (mI (ea)), some (mI (b)), some (mI (eb)), some (mI (X)), some (mI (Y)), some (mI (g_w μ 2 (μ 14 0))), some (mI (eb)), some (mI ((-1) + (10 * 1))), some (mI (a + ((-1) + (10 * 1))))]) rfl rfl (Nat.le_of_ble_eq_true rfl) rfl ?_
                have hk := hyes (by omega)
                obtain ⟨w1, w2, w3, w4⟩ := ln_walk hga1 hgb1 ha1 hb1 ha2 hb2 hk
                have hS2 : ((-1) + (10 * 1) : Int) = ln_s a b := by rw [hS0]; omega
                have hlo : (if ea < eb then ea else eb) = eb := by omega
                have h := l_areSeen (c := c) (s := s) (X := X) (Y := Y) (ea := ea) (eb := eb) (f := g_w μ 2 (μ 14 0)) (low := eb) hL ha hb hk rfl hS2 (ln_f a b - 1).toNat 0 (a + ((-1) + (10 * 1))) (by show a + ((-1) + (10 * 1) : Int) = a + ((0 : Int) + 1) * ((-1) + (10 * 1)); omega) (by omega) rfl
                rw [hlo]
                by_cases hz : g_seen μ a b (eb)
                · rw [if_pos ⟨by omega, hz⟩]
                  rw [if_pos hz] at h
                  exact h
                · rw [if_neg (fun z => hz z.2)]
                  rw [if_neg hz] at h
                  exact h
          · skip
            refine rn_iconst (k' := 53) rfl rfl ?_
            refine rn_goto rfl ?_
            refine rn_bipush (k' := 60) rfl rfl ?_
            refine rn_iload (k' := 61) rfl rfl rfl ?_
            refine rn_if_le (k' := 62) rfl rfl (fun hc12 => ?_) (fun hc12 => ?_)
            · skip
              refine rn_iload (k' := 65) rfl rfl rfl ?_
              refine rn_if_ge (k' := 66) rfl rfl (fun hc13 => ?_) (fun hc13 => ?_)
              · skip
                refine rn_iconst (k' := 69) rfl rfl ?_
                refine rn_imul (k' := 70) rfl rfl (by omega) ?_
                refine rn_iadd (k' := 71) rfl rfl (by omega) ?_
                refine rn_istore (k' := 72) (L' := [some (mR 118), some (mI (a)), some (mI (ea)), some (mI (b)), some (mI (eb)), some (mI (X)), some (mI (Y)), some (mI (g_w μ 2 (μ 14 0))), some (mI (eb)), some (mI (1 + (10 * 0))), none]) rfl rfl (Nat.le_of_ble_eq_true rfl) rfl ?_
                refine rn_iload_n (k' := 73) rfl rfl rfl ?_
                refine rn_iload (k' := 74) rfl rfl rfl ?_
                refine rn_iadd (k' := 75) rfl rfl (by omega) ?_
                refine rn_istore (k' := 76) (L' := [some (mR 118), some (mI (a)), some (mI (ea)), some (mI (b)), some (mI (eb)), some (mI (X)), some (mI (Y)), some (mI (g_w μ 2 (μ 14 0))), some (mI (eb)), some (mI (1 + (10 * 0))), some (mI (a + (1 + (10 * 0))))]) rfl rfl (Nat.le_of_ble_eq_true rfl) rfl ?_
                have hk := hyes (by omega)
                obtain ⟨w1, w2, w3, w4⟩ := ln_walk hga1 hgb1 ha1 hb1 ha2 hb2 hk
                have hS2 : (1 + (10 * 0) : Int) = ln_s a b := by rw [hS0]; omega
                have hlo : (if ea < eb then ea else eb) = eb := by omega
                have h := l_areSeen (c := c) (s := s) (X := X) (Y := Y) (ea := ea) (eb := eb) (f := g_w μ 2 (μ 14 0)) (low := eb) hL ha hb hk rfl hS2 (ln_f a b - 1).toNat 0 (a + (1 + (10 * 0))) (by show a + (1 + (10 * 0) : Int) = a + ((0 : Int) + 1) * (1 + (10 * 0)); omega) (by omega) rfl
                rw [hlo]
                by_cases hz : g_seen μ a b (eb)
                · rw [if_pos ⟨by omega, hz⟩]
                  rw [if_pos hz] at h
                  exact h
                · rw [if_neg (fun z => hz z.2)]
                  rw [if_neg hz] at h
                  exact h
              · skip
                refine rn_iconst (k' := 67) rfl rfl ?_
                refine rn_goto rfl ?_
                refine rn_imul (k' := 70) rfl rfl (by omega) ?_
                refine rn_iadd (k' := 71) rfl rfl (by omega) ?_
                refine rn_istore (k' := 72) (L' := [some (mR 118), some (mI (a)), some (mI (ea)), some (mI (b)), some (mI (eb)), some (mI (X)), some (mI (Y)), some (mI (g_w μ 2 (μ 14 0))), some (mI (eb)), some (mI (1 + (10 * (-1)))), none]) rfl rfl (Nat.le_of_ble_eq_true rfl) rfl ?_
                refine rn_iload_n (k' := 73) rfl rfl rfl ?_
                refine rn_iload (k' := 74) rfl rfl rfl ?_
                refine rn_iadd (k' := 75) rfl rfl (by omega) ?_
                refine rn_istore (k' := 76) (L' := [some (mR 118), some (mI (a)), some (mI (ea)), some (mI (b)), some (mI (eb)), some (mI (X)), some (mI (Y)), some (mI (g_w μ 2 (μ 14 0))), some (mI (eb)), some (mI (1 + (10 * (-1)))), some (mI (a + (1 + (10 * (-1)))))]) rfl rfl (Nat.le_of_ble_eq_true rfl) rfl ?_
                have hk := hyes (by omega)
                obtain ⟨w1, w2, w3, w4⟩ := ln_walk hga1 hgb1 ha1 hb1 ha2 hb2 hk
                have hS2 : (1 + (10 * (-1)) : Int) = ln_s a b := by rw [hS0]; omega
                have hlo : (if ea < eb then ea else eb) = eb := by omega
                have h := l_areSeen (c := c) (s := s) (X := X) (Y := Y) (ea := ea) (eb := eb) (f := g_w μ 2 (μ 14 0)) (low := eb) hL ha hb hk rfl hS2 (ln_f a b - 1).toNat 0 (a + (1 + (10 * (-1)))) (by show a + (1 + (10 * (-1)) : Int) = a + ((0 : Int) + 1) * (1 + (10 * (-1))); omega) (by omega) rfl
                rw [hlo]
                by_cases hz : g_seen μ a b (eb)
                · rw [if_pos ⟨by omega, hz⟩]
                  rw [if_pos hz] at h
                  exact h
                · rw [if_neg (fun z => hz z.2)]
                  rw [if_neg hz] at h
                  exact h
            · skip
              refine rn_iconst (k' := 63) rfl rfl ?_
              refine rn_goto rfl ?_
              refine rn_imul (k' := 70) rfl rfl (by omega) ?_
              refine rn_iadd (k' := 71) rfl rfl (by omega) ?_
              refine rn_istore (k' := 72) (L' := [some (mR 118), some (mI (a)), some (mI (ea)), some (mI (b)), some (mI (eb)), some (mI (X)), some (mI (Y)), some (mI (g_w μ 2 (μ 14 0))), some (mI (eb)), some (mI (1 + (10 * 1))), none]) rfl rfl (Nat.le_of_ble_eq_true rfl) rfl ?_
              refine rn_iload_n (k' := 73) rfl rfl rfl ?_
              refine rn_iload (k' := 74) rfl rfl rfl ?_
              refine rn_iadd (k' := 75) rfl rfl (by omega) ?_
              refine rn_istore (k' := 76) (L' := [some (mR 118), some (mI (a)), some (mI (ea)), some (mI (b)), some (mI (eb)), some (mI (X)), some (mI (Y)), some (mI (g_w μ 2 (μ 14 0))), some (mI (eb)), some (mI (1 + (10 * 1))), some (mI (a + (1 + (10 * 1))))]) rfl rfl (Nat.le_of_ble_eq_true rfl) rfl ?_
              have hk := hyes (by omega)
              obtain ⟨w1, w2, w3, w4⟩ := ln_walk hga1 hgb1 ha1 hb1 ha2 hb2 hk
              have hS2 : (1 + (10 * 1) : Int) = ln_s a b := by rw [hS0]; omega
              have hlo : (if ea < eb then ea else eb) = eb := by omega
              have h := l_areSeen (c := c) (s := s) (X := X) (Y := Y) (ea := ea) (eb := eb) (f := g_w μ 2 (μ 14 0)) (low := eb) hL ha hb hk rfl hS2 (ln_f a b - 1).toNat 0 (a + (1 + (10 * 1))) (by show a + (1 + (10 * 1) : Int) = a + ((0 : Int) + 1) * (1 + (10 * 1)); omega) (by omega) rfl
              rw [hlo]
              by_cases hz : g_seen μ a b (eb)
              · rw [if_pos ⟨by omega, hz⟩]
                rw [if_pos hz] at h
                exact h
              · rw [if_neg (fun z => hz z.2)]
                rw [if_neg hz] at h
                exact h
        · skip
          refine rn_iconst (k' := 49) rfl rfl ?_
          refine rn_iret rfl (Or.inr (by omega)) ?_
          first | rw [if_neg (hno (by omega))] | rw [if_neg (fun z => by have := z.1; omega)]
      · skip
        refine rn_iload_n (k' := 42) rfl rfl rfl ?_
        refine rn_goto rfl ?_
        refine rn_istore (k' := 45) (L' := [some (mR 118), some (mI (a)), some (mI (ea)), some (mI (b)), some (mI (eb)), some (mI (X)), some (mI (Y)), some (mI (g_w μ 2 (μ 14 0))), some (mI (ea)), none, none]) rfl rfl (Nat.le_of_ble_eq_true rfl) rfl ?_
        refine rn_iload (k' := 46) rfl rfl rfl ?_
        refine rn_iload (k' := 47) rfl rfl rfl ?_
        refine rn_icmp_gt (k' := 48) rfl rfl (fun hc14 => ?_) (fun hc14 => ?_)
        · skip
          refine rn_iload (k' := 51) rfl rfl rfl ?_
          refine rn_if_le (k' := 52) rfl rfl (fun hc15 => ?_) (fun hc15 => ?_)
          · skip
            refine rn_iload (k' := 55) rfl rfl rfl ?_
            refine rn_if_ge (k' := 56) rfl rfl (fun hc16 => ?_) (fun hc16 => ?_)
            · skip
              refine rn_iconst (k' := 59) rfl rfl ?_
              refine rn_bipush (k' := 60) rfl rfl ?_
              refine rn_iload (k' := 61) rfl rfl rfl ?_
              refine rn_if_le (k' := 62) rfl rfl (fun hc17 => ?_) (fun hc17 => ?_)
              · skip
                refine rn_iload (k' := 65) rfl rfl rfl ?_
                refine rn_if_ge (k' := 66) rfl rfl (fun hc18 => ?_) (fun hc18 => ?_)
                · skip
                  refine rn_iconst (k' := 69) rfl rfl ?_
                  refine rn_imul (k' := 70) rfl rfl (by omega) ?_
                  refine rn_iadd (k' := 71) rfl rfl (by omega) ?_
                  refine rn_istore (k' := 72) (L' := [some (mR 118), some (mI (a)), some (mI (ea)), some (mI (b)), some (mI (eb)), some (mI (X)), some (mI (Y)), some (mI (g_w μ 2 (μ 14 0))), some (mI (ea)), some (mI (0 + (10 * 0))), none]) rfl rfl (Nat.le_of_ble_eq_true rfl) rfl ?_
                  refine rn_iload_n (k' := 73) rfl rfl rfl ?_
                  refine rn_iload (k' := 74) rfl rfl rfl ?_
                  refine rn_iadd (k' := 75) rfl rfl (by omega) ?_
                  refine rn_istore (k' := 76) (L' := [some (mR 118), some (mI (a)), some (mI (ea)), some (mI (b)), some (mI (eb)), some (mI (X)), some (mI (Y)), some (mI (g_w μ 2 (μ 14 0))), some (mI (ea)), some (mI (0 + (10 * 0))), some (mI (a + (0 + (10 * 0))))]) rfl rfl (Nat.le_of_ble_eq_true rfl) rfl ?_
                  have hk := hyes (by omega)
                  obtain ⟨w1, w2, w3, w4⟩ := ln_walk hga1 hgb1 ha1 hb1 ha2 hb2 hk
                  have hS2 : (0 + (10 * 0) : Int) = ln_s a b := by rw [hS0]; omega
                  have hlo : (if ea < eb then ea else eb) = ea := by omega
                  have h := l_areSeen (c := c) (s := s) (X := X) (Y := Y) (ea := ea) (eb := eb) (f := g_w μ 2 (μ 14 0)) (low := ea) hL ha hb hk rfl hS2 (ln_f a b - 1).toNat 0 (a + (0 + (10 * 0))) (by show a + (0 + (10 * 0) : Int) = a + ((0 : Int) + 1) * (0 + (10 * 0)); omega) (by omega) rfl
                  rw [hlo]
                  by_cases hz : g_seen μ a b (ea)
                  · rw [if_pos ⟨by omega, hz⟩]
                    rw [if_pos hz] at h
                    exact h
                  · rw [if_neg (fun z => hz z.2)]
                    rw [if_neg hz] at h
                    exact h
                · skip
                  refine rn_iconst (k' := 67) rfl rfl ?_
                  refine rn_goto rfl ?_
                  refine rn_imul (k' := 70) rfl rfl (by omega) ?_
                  refine rn_iadd (k' := 71) rfl rfl (by omega) ?_
                  refine rn_istore (k' := 72) (L' := [some (mR 118), some (mI (a)), some (mI (ea)), some (mI (b)), some (mI (eb)), some (mI (X)), some (mI (Y)), some (mI (g_w μ 2 (μ 14 0))), some (mI (ea)), some (mI (0 + (10 * (-1)))), none]) rfl rfl (Nat.le_of_ble_eq_true rfl) rfl ?_
                  refine rn_iload_n (k' := 73) rfl rfl rfl ?_
                  refine rn_iload (k' := 74) rfl rfl rfl ?_
                  refine rn_iadd (k' := 75) rfl rfl (by omega) ?_
                  refine rn_istore (k' := 76) (L' := [some (mR 118), some (mI (a)), some (mI (ea)), some (mI (b)), some (mI (eb)), some (mI (X)), some (mI (Y)), some (mI (g_w μ 2 (μ 14 0))), some (mI (ea)), some (mI (0 + (10 * (-1)))), some (mI (a + (0 + (10 * (-1)))))]) rfl rfl (Nat.le_of_ble_eq_true rfl) rfl ?_
                  have hk := hyes (by omega)
                  obtain ⟨w1, w2, w3, w4⟩ := ln_walk hga1 hgb1 ha1 hb1 ha2 hb2 hk
                  have hS2 : (0 + (10 * (-1)) : Int) = ln_s a b := by rw [hS0]; omega
                  have hlo : (if ea < eb then ea else eb) = ea := by omega
                  have h := l_areSeen (c := c) (s := s) (X := X) (Y := Y) (ea := ea) (eb := eb) (f := g_w μ 2 (μ 14 0)) (low := ea) hL ha hb hk rfl hS2 (ln_f a b - 1).toNat 0 (a + (0 + (10 * (-1)))) (by show a + (0 + (10 * (-1)) : Int) = a + ((0 : Int) + 1) * (0 + (10 * (-1))); omega) (by omega) rfl
                  rw [hlo]
                  by_cases hz : g_seen μ a b (ea)
                  · rw [if_pos ⟨by omega, hz⟩]
                    rw [if_pos hz] at h
                    exact h
                  · rw [if_neg (fun z => hz z.2)]
                    rw [if_neg hz] at h
                    exact h
              · skip
                refine rn_iconst (k' := 63) rfl rfl ?_
                refine rn_goto rfl ?_
                refine rn_imul (k' := 70) rfl rfl (by omega) ?_
                refine rn_iadd (k' := 71) rfl rfl (by omega) ?_
                refine rn_istore (k' := 72) (L' := [some (mR 118), some (mI (a)), some (mI (ea)), some (mI (b)), some (mI (eb)), some (mI (X)), some (mI (Y)), some (mI (g_w μ 2 (μ 14 0))), some (mI (ea)), some (mI (0 + (10 * 1))), none]) rfl rfl (Nat.le_of_ble_eq_true rfl) rfl ?_
                refine rn_iload_n (k' := 73) rfl rfl rfl ?_
                refine rn_iload (k' := 74) rfl rfl rfl ?_
                refine rn_iadd (k' := 75) rfl rfl (by omega) ?_
                refine rn_istore (k' := 76) (L' := [some (mR 118), some (mI (a)), some (mI (ea)), some (mI (b)), some (mI (eb)), some (mI (X)), some (mI (Y)), some (mI (g_w μ 2 (μ 14 0))), some (mI (ea)), some (mI (0 + (10 * 1))), some (mI (a + (0 + (10 * 1))))]) rfl rfl (Nat.le_of_ble_eq_true rfl) rfl ?_
                have hk := hyes (by omega)
                obtain ⟨w1, w2, w3, w4⟩ := ln_walk hga1 hgb1 ha1 hb1 ha2 hb2 hk
                have hS2 : (0 + (10 * 1) : Int) = ln_s a b := by rw [hS0]; omega
                have hlo : (if ea < eb then ea else eb) = ea := by omega
                have h := l_areSeen (c := c) (s := s) (X := X) (Y := Y) (ea := ea) (eb := eb) (f := g_w μ 2 (μ 14 0)) (low := ea) hL ha hb hk rfl hS2 (ln_f a b - 1).toNat 0 (a + (0 + (10 * 1))) (by show a + (0 + (10 * 1) : Int) = a + ((0 : Int) + 1) * (0 + (10 * 1)); omega) (by omega) rfl
                rw [hlo]
                by_cases hz : g_seen μ a b (ea)
                · rw [if_pos ⟨by omega, hz⟩]
                  rw [if_pos hz] at h
                  exact h
                · rw [if_neg (fun z => hz z.2)]
                  rw [if_neg hz] at h
                  exact h
            · skip
              refine rn_iconst (k' := 57) rfl rfl ?_
              refine rn_goto rfl ?_
              refine rn_bipush (k' := 60) rfl rfl ?_
              refine rn_iload (k' := 61) rfl rfl rfl ?_
              refine rn_if_le (k' := 62) rfl rfl (fun hc19 => ?_) (fun hc19 => ?_)
              · skip
                refine rn_iload (k' := 65) rfl rfl rfl ?_
                refine rn_if_ge (k' := 66) rfl rfl (fun hc20 => ?_) (fun hc20 => ?_)
                · skip
                  refine rn_iconst (k' := 69) rfl rfl ?_
                  refine rn_imul (k' := 70) rfl rfl (by omega) ?_
                  refine rn_iadd (k' := 71) rfl rfl (by omega) ?_
                  refine rn_istore (k' := 72) (L' := [some (mR 118), some (mI (a)), some (mI (ea)), some (mI (b)), some (mI (eb)), some (mI (X)), some (mI (Y)), some (mI (g_w μ 2 (μ 14 0))), some (mI (ea)), some (mI ((-1) + (10 * 0))), none]) rfl rfl (Nat.le_of_ble_eq_true rfl) rfl ?_
                  refine rn_iload_n (k' := 73) rfl rfl rfl ?_
                  refine rn_iload (k' := 74) rfl rfl rfl ?_
                  refine rn_iadd (k' := 75) rfl rfl (by omega) ?_
                  refine rn_istore (k' := 76) (L' := [some (mR 118), some (mI (a)), some (mI (ea)), some (mI (b)), some (mI (eb)), some (mI (X)), some (mI (Y)), some (mI (g_w μ 2 (μ 14 0))), some (mI (ea)), some (mI ((-1) + (10 * 0))), some (mI (a + ((-1) + (10 * 0))))]) rfl rfl (Nat.le_of_ble_eq_true rfl) rfl ?_
                  have hk := hyes (by omega)
                  obtain ⟨w1, w2, w3, w4⟩ := ln_walk hga1 hgb1 ha1 hb1 ha2 hb2 hk
                  have hS2 : ((-1) + (10 * 0) : Int) = ln_s a b := by rw [hS0]; omega
                  have hlo : (if ea < eb then ea else eb) = ea := by omega
                  have h := l_areSeen (c := c) (s := s) (X := X) (Y := Y) (ea := ea) (eb := eb) (f := g_w μ 2 (μ 14 0)) (low := ea) hL ha hb hk rfl hS2 (ln_f a b - 1).toNat 0 (a + ((-1) + (10 * 0))) (by show a + ((-1) + (10 * 0) : Int) = a + ((0 : Int) + 1) * ((-1) + (10 * 0)); omega) (by omega) rfl
                  rw [hlo]
                  by_cases hz : g_seen μ a b (ea)
                  · rw [if_pos ⟨by omega, hz⟩]
                    rw [if_pos hz] at h
                    exact h
                  · rw [if_neg (fun z => hz z.2)]
                    rw [if_neg hz] at h
                    exact h
                · skip
                  refine rn_iconst (k' := 67) rfl rfl ?_
                  refine rn_goto rfl ?_
                  refine rn_imul (k' := 70) rfl rfl (by omega) ?_
                  refine rn_iadd (k' := 71) rfl rfl (by omega) ?_
                  refine rn_istore (k' := 72) (L' := [some (mR 118), some (mI (a)), some (mI (ea)), some (mI (b)), some (mI (eb)), some (mI (X)), some (mI (Y)), some (mI (g_w μ 2 (μ 14 0))), some (mI (ea)), some (mI ((-1) + (10 * (-1)))), none]) rfl rfl (Nat.le_of_ble_eq_true rfl) rfl ?_
                  refine rn_iload_n (k' := 73) rfl rfl rfl ?_
                  refine rn_iload (k' := 74) rfl rfl rfl ?_
                  refine rn_iadd (k' := 75) rfl rfl (by omega) ?_
                  refine rn_istore (k' := 76) (L' := [some (mR 118), some (mI (a)), some (mI (ea)), some (mI (b)), some (mI (eb)), some (mI (X)), some (mI (Y)), some (mI (g_w μ 2 (μ 14 0))), some (mI (ea)), some (mI ((-1) + (10 * (-1)))), some (mI (a + ((-1) + (10 * (-1)))))]) rfl rfl (Nat.le_of_ble_eq_true rfl) rfl ?_
                  have hk := hyes (by omega)
                  obtain ⟨w1, w2, w3, w4⟩ := ln_walk hga1 hgb1 ha1 hb1 ha2 hb2 hk
                  have hS2 : ((-1) + (10 * (-1)) : Int) = ln_s a b := by rw [hS0]; omega
                  have hlo : (if ea < eb then ea else eb) = ea := by omega
                  have h := l_areSeen (c := c) (s := s) (X := X) (Y := Y) (ea := ea) (eb := eb) (f := g_w μ 2 (μ 14 0)) (low := ea) hL ha hb hk rfl hS2 (ln_f a b - 1).toNat 0 (a + ((-1) + (10 * (-1)))) (by show a + ((-1) + (10 * (-1)) : Int) = a + ((0 : Int) + 1) * ((-1) + (10 * (-1))); omega) (by omega) rfl
                  rw [hlo]
                  by_cases hz : g_seen μ a b (ea)
                  · rw [if_pos ⟨by omega, hz⟩]
                    rw [if_pos hz] at h
                    exact h
                  · rw [if_neg (fun z => hz z.2)]
                    rw [if_neg hz] at h
                    exact h
              · skip
                refine rn_iconst (k' := 63) rfl rfl ?_
                refine rn_goto rfl ?_
                refine rn_imul (k' := 70) rfl rfl (by omega) ?_
                refine rn_iadd (k' := 71) rfl rfl (by omega) ?_
                refine rn_istore (k' := 72) (L' := [some (mR 118), some (mI (a)), some (mI (ea)), some (mI (b)), some (mI (eb)), some (mI (X)), some (mI (Y)), some (mI (g_w μ 2 (μ 14 0))), some (mI (ea)), some (mI ((-1) + (10 * 1))), none]) rfl rfl (Nat.le_of_ble_eq_true rfl) rfl ?_
                refine rn_iload_n (k' := 73) rfl rfl rfl ?_
                refine rn_iload (k' := 74) rfl rfl rfl ?_
                refine rn_iadd (k' := 75) rfl rfl (by omega) ?_
                refine rn_istore (k' := 76) (L' := [some (mR 118), some (mI (a)), some (mI (ea)), some (mI (b)), some (mI (eb)), some (mI (X)), some (mI (Y)), some (mI (g_w μ 2 (μ 14 0))), some (mI (ea)), some (mI ((-1) + (10 * 1))), some (mI (a + ((-1) + (10 * 1))))]) rfl rfl (Nat.le_of_ble_eq_true rfl) rfl ?_
                have hk := hyes (by omega)
                obtain ⟨w1, w2, w3, w4⟩ := ln_walk hga1 hgb1 ha1 hb1 ha2 hb2 hk
                have hS2 : ((-1) + (10 * 1) : Int) = ln_s a b := by rw [hS0]; omega
                have hlo : (if ea < eb then ea else eb) = ea := by omega
                have h := l_areSeen (c := c) (s := s) (X := X) (Y := Y) (ea := ea) (eb := eb) (f := g_w μ 2 (μ 14 0)) (low := ea) hL ha hb hk rfl hS2 (ln_f a b - 1).toNat 0 (a + ((-1) + (10 * 1))) (by show a + ((-1) + (10 * 1) : Int) = a + ((0 : Int) + 1) * ((-1) + (10 * 1)); omega) (by omega) rfl
                rw [hlo]
                by_cases hz : g_seen μ a b (ea)
                · rw [if_pos ⟨by omega, hz⟩]
                  rw [if_pos hz] at h
                  exact h
                · rw [if_neg (fun z => hz z.2)]
                  rw [if_neg hz] at h
                  exact h
          · skip
            refine rn_iconst (k' := 53) rfl rfl ?_
            refine rn_goto rfl ?_
            refine rn_bipush (k' := 60) rfl rfl ?_
            refine rn_iload (k' := 61) rfl rfl rfl ?_
            refine rn_if_le (k' := 62) rfl rfl (fun hc21 => ?_) (fun hc21 => ?_)
            · skip
              refine rn_iload (k' := 65) rfl rfl rfl ?_
              refine rn_if_ge (k' := 66) rfl rfl (fun hc22 => ?_) (fun hc22 => ?_)
              · skip
                refine rn_iconst (k' := 69) rfl rfl ?_
                refine rn_imul (k' := 70) rfl rfl (by omega) ?_
                refine rn_iadd (k' := 71) rfl rfl (by omega) ?_
                refine rn_istore (k' := 72) (L' := [some (mR 118), some (mI (a)), some (mI (ea)), some (mI (b)), some (mI (eb)), some (mI (X)), some (mI (Y)), some (mI (g_w μ 2 (μ 14 0))), some (mI (ea)), some (mI (1 + (10 * 0))), none]) rfl rfl (Nat.le_of_ble_eq_true rfl) rfl ?_
                refine rn_iload_n (k' := 73) rfl rfl rfl ?_
                refine rn_iload (k' := 74) rfl rfl rfl ?_
                refine rn_iadd (k' := 75) rfl rfl (by omega) ?_
                refine rn_istore (k' := 76) (L' := [some (mR 118), some (mI (a)), some (mI (ea)), some (mI (b)), some (mI (eb)), some (mI (X)), some (mI (Y)), some (mI (g_w μ 2 (μ 14 0))), some (mI (ea)), some (mI (1 + (10 * 0))), some (mI (a + (1 + (10 * 0))))]) rfl rfl (Nat.le_of_ble_eq_true rfl) rfl ?_
                have hk := hyes (by omega)
                obtain ⟨w1, w2, w3, w4⟩ := ln_walk hga1 hgb1 ha1 hb1 ha2 hb2 hk
                have hS2 : (1 + (10 * 0) : Int) = ln_s a b := by rw [hS0]; omega
                have hlo : (if ea < eb then ea else eb) = ea := by omega
                have h := l_areSeen (c := c) (s := s) (X := X) (Y := Y) (ea := ea) (eb := eb) (f := g_w μ 2 (μ 14 0)) (low := ea) hL ha hb hk rfl hS2 (ln_f a b - 1).toNat 0 (a + (1 + (10 * 0))) (by show a + (1 + (10 * 0) : Int) = a + ((0 : Int) + 1) * (1 + (10 * 0)); omega) (by omega) rfl
                rw [hlo]
                by_cases hz : g_seen μ a b (ea)
                · rw [if_pos ⟨by omega, hz⟩]
                  rw [if_pos hz] at h
                  exact h
                · rw [if_neg (fun z => hz z.2)]
                  rw [if_neg hz] at h
                  exact h
              · skip
                refine rn_iconst (k' := 67) rfl rfl ?_
                refine rn_goto rfl ?_
                refine rn_imul (k' := 70) rfl rfl (by omega) ?_
                refine rn_iadd (k' := 71) rfl rfl (by omega) ?_
                refine rn_istore (k' := 72) (L' := [some (mR 118), some (mI (a)), some (mI (ea)), some (mI (b)), some (mI (eb)), some (mI (X)), some (mI (Y)), some (mI (g_w μ 2 (μ 14 0))), some (mI (ea)), some (mI (1 + (10 * (-1)))), none]) rfl rfl (Nat.le_of_ble_eq_true rfl) rfl ?_
                refine rn_iload_n (k' := 73) rfl rfl rfl ?_
                refine rn_iload (k' := 74) rfl rfl rfl ?_
                refine rn_iadd (k' := 75) rfl rfl (by omega) ?_
                refine rn_istore (k' := 76) (L' := [some (mR 118), some (mI (a)), some (mI (ea)), some (mI (b)), some (mI (eb)), some (mI (X)), some (mI (Y)), some (mI (g_w μ 2 (μ 14 0))), some (mI (ea)), some (mI (1 + (10 * (-1)))), some (mI (a + (1 + (10 * (-1)))))]) rfl rfl (Nat.le_of_ble_eq_true rfl) rfl ?_
                have hk := hyes (by omega)
                obtain ⟨w1, w2, w3, w4⟩ := ln_walk hga1 hgb1 ha1 hb1 ha2 hb2 hk
                have hS2 : (1 + (10 * (-1)) : Int) = ln_s a b := by rw [hS0]; omega
                have hlo : (if ea < eb then ea else eb) = ea := by omega
                have h := l_areSeen (c := c) (s := s) (X := X) (Y := Y) (ea := ea) (eb := eb) (f := g_w μ 2 (μ 14 0)) (low := ea) hL ha hb hk rfl hS2 (ln_f a b - 1).toNat 0 (a + (1 + (10 * (-1)))) (by show a + (1 + (10 * (-1)) : Int) = a + ((0 : Int) + 1) * (1 + (10 * (-1))); omega) (by omega) rfl
                rw [hlo]
                by_cases hz : g_seen μ a b (ea)
                · rw [if_pos ⟨by omega, hz⟩]
                  rw [if_pos hz] at h
                  exact h
                · rw [if_neg (fun z => hz z.2)]
                  rw [if_neg hz] at h
                  exact h
            · skip
              refine rn_iconst (k' := 63) rfl rfl ?_
              refine rn_goto rfl ?_
              refine rn_imul (k' := 70) rfl rfl (by omega) ?_
              refine rn_iadd (k' := 71) rfl rfl (by omega) ?_
              refine rn_istore (k' := 72) (L' := [some (mR 118), some (mI (a)), some (mI (ea)), some (mI (b)), some (mI (eb)), some (mI (X)), some (mI (Y)), some (mI (g_w μ 2 (μ 14 0))), some (mI (ea)), some (mI (1 + (10 * 1))), none]) rfl rfl (Nat.le_of_ble_eq_true rfl) rfl ?_
              refine rn_iload_n (k' := 73) rfl rfl rfl ?_
              refine rn_iload (k' := 74) rfl rfl rfl ?_
              refine rn_iadd (k' := 75) rfl rfl (by omega) ?_
              refine rn_istore (k' := 76) (L' := [some (mR 118), some (mI (a)), some (mI (ea)), some (mI (b)), some (mI (eb)), some (mI (X)), some (mI (Y)), some (mI (g_w μ 2 (μ 14 0))), some (mI (ea)), some (mI (1 + (10 * 1))), some (mI (a + (1 + (10 * 1))))]) rfl rfl (Nat.le_of_ble_eq_true rfl) rfl ?_
              have hk := hyes (by omega)
              obtain ⟨w1, w2, w3, w4⟩ := ln_walk hga1 hgb1 ha1 hb1 ha2 hb2 hk
              have hS2 : (1 + (10 * 1) : Int) = ln_s a b := by rw [hS0]; omega
              have hlo : (if ea < eb then ea else eb) = ea := by omega
              have h := l_areSeen (c := c) (s := s) (X := X) (Y := Y) (ea := ea) (eb := eb) (f := g_w μ 2 (μ 14 0)) (low := ea) hL ha hb hk rfl hS2 (ln_f a b - 1).toNat 0 (a + (1 + (10 * 1))) (by show a + (1 + (10 * 1) : Int) = a + ((0 : Int) + 1) * (1 + (10 * 1)); omega) (by omega) rfl
              rw [hlo]
              by_cases hz : g_seen μ a b (ea)
              · rw [if_pos ⟨by omega, hz⟩]
                rw [if_pos hz] at h
                exact h
              · rw [if_neg (fun z => hz z.2)]
                rw [if_neg hz] at h
                exact h
        · skip
          refine rn_iconst (k' := 49) rfl rfl ?_
          refine rn_iret rfl (Or.inr (by omega)) ?_
          first | rw [if_neg (hno (by omega))] | rw [if_neg (fun z => by have := z.1; omega)]
    · skip
      refine rn_iload (k' := 22) rfl rfl rfl ?_
      refine rn_if_eq (k' := 23) rfl rfl (fun hc23 => ?_) (fun hc23 => ?_)
      · skip
        refine rn_aload_n (k' := 31) rfl rfl rfl ?_
        refine rn_aload_n (k' := 32) rfl rfl rfl ?_
        refine rn_getR (k' := 33) rfl rfl K0_118 (by decide) rfl R0_118_6 ?_
        refine rn_sipush (k' := 34) rfl rfl ?_
        refine rn_iaload (k' := 35) rfl rfl K0_120 (by omega) (by omega) ?_
        show Rn PT none kX12_areSeen 35 [some (mR 118), some (mI (a)), some (mI (ea)), some (mI (b)), some (mI (eb)), some (mI (X)), some (mI (Y)), none, none, none, none] [mI (μ 120 517), mR 118] (mkh μ c s) _
        rw [s4]
        refine rn_iconst (k' := 36) rfl rfl ?_
        have hb24 := g_w_b hL 2 (μ 14 0)
        refine rn_callP (k' := 37) (y := 196) (vs := [mR 118, mI (μ 14 0), mI (2)]) (S' := []) (v := some (mI (g_w μ 2 (μ 14 0)))) (h' := mkh μ c s) rfl rfl rfl (c_X12_onDay (μ := μ) (hL) (by omega) (by omega)) ?_
        show Rn PT none kX12_areSeen 37 [some (mR 118), some (mI (a)), some (mI (ea)), some (mI (b)), some (mI (eb)), some (mI (X)), some (mI (Y)), none, none, none, none] [mI (g_w μ 2 (μ 14 0))] (mkh μ c s) _
        refine rn_istore (k' := 38) (L' := [some (mR 118), some (mI (a)), some (mI (ea)), some (mI (b)), some (mI (eb)), some (mI (X)), some (mI (Y)), some (mI (g_w μ 2 (μ 14 0))), none, none, none]) rfl rfl (Nat.le_of_ble_eq_true rfl) rfl ?_
        refine rn_iload_n (k' := 39) rfl rfl rfl ?_
        refine rn_iload (k' := 40) rfl rfl rfl ?_
        refine rn_icmp_ge (k' := 41) rfl rfl (fun hc25 => ?_) (fun hc25 => ?_)
        · skip
          refine rn_iload (k' := 44) rfl rfl rfl ?_
          refine rn_istore (k' := 45) (L' := [some (mR 118), some (mI (a)), some (mI (ea)), some (mI (b)), some (mI (eb)), some (mI (X)), some (mI (Y)), some (mI (g_w μ 2 (μ 14 0))), some (mI (eb)), none, none]) rfl rfl (Nat.le_of_ble_eq_true rfl) rfl ?_
          refine rn_iload (k' := 46) rfl rfl rfl ?_
          refine rn_iload (k' := 47) rfl rfl rfl ?_
          refine rn_icmp_gt (k' := 48) rfl rfl (fun hc26 => ?_) (fun hc26 => ?_)
          · skip
            refine rn_iload (k' := 51) rfl rfl rfl ?_
            refine rn_if_le (k' := 52) rfl rfl (fun hc27 => ?_) (fun hc27 => ?_)
            · skip
              refine rn_iload (k' := 55) rfl rfl rfl ?_
              refine rn_if_ge (k' := 56) rfl rfl (fun hc28 => ?_) (fun hc28 => ?_)
              · skip
                refine rn_iconst (k' := 59) rfl rfl ?_
                refine rn_bipush (k' := 60) rfl rfl ?_
                refine rn_iload (k' := 61) rfl rfl rfl ?_
                refine rn_if_le (k' := 62) rfl rfl (fun hc29 => ?_) (fun hc29 => ?_)
                · skip
                  refine rn_iload (k' := 65) rfl rfl rfl ?_
                  refine rn_if_ge (k' := 66) rfl rfl (fun hc30 => ?_) (fun hc30 => ?_)
                  · skip
                    refine rn_iconst (k' := 69) rfl rfl ?_
                    refine rn_imul (k' := 70) rfl rfl (by omega) ?_
                    refine rn_iadd (k' := 71) rfl rfl (by omega) ?_
                    refine rn_istore (k' := 72) (L' := [some (mR 118), some (mI (a)), some (mI (ea)), some (mI (b)), some (mI (eb)), some (mI (X)), some (mI (Y)), some (mI (g_w μ 2 (μ 14 0))), some (mI (eb)), some (mI (0 + (10 * 0))), none]) rfl rfl (Nat.le_of_ble_eq_true rfl) rfl ?_
                    refine rn_iload_n (k' := 73) rfl rfl rfl ?_
                    refine rn_iload (k' := 74) rfl rfl rfl ?_
                    refine rn_iadd (k' := 75) rfl rfl (by omega) ?_
                    refine rn_istore (k' := 76) (L' := [some (mR 118), some (mI (a)), some (mI (ea)), some (mI (b)), some (mI (eb)), some (mI (X)), some (mI (Y)), some (mI (g_w μ 2 (μ 14 0))), some (mI (eb)), some (mI (0 + (10 * 0))), some (mI (a + (0 + (10 * 0))))]) rfl rfl (Nat.le_of_ble_eq_true rfl) rfl ?_
                    have hk := hyes (by omega)
                    obtain ⟨w1, w2, w3, w4⟩ := ln_walk hga1 hgb1 ha1 hb1 ha2 hb2 hk
                    have hS2 : (0 + (10 * 0) : Int) = ln_s a b := by rw [hS0]; omega
                    have hlo : (if ea < eb then ea else eb) = eb := by omega
                    have h := l_areSeen (c := c) (s := s) (X := X) (Y := Y) (ea := ea) (eb := eb) (f := g_w μ 2 (μ 14 0)) (low := eb) hL ha hb hk rfl hS2 (ln_f a b - 1).toNat 0 (a + (0 + (10 * 0))) (by show a + (0 + (10 * 0) : Int) = a + ((0 : Int) + 1) * (0 + (10 * 0)); omega) (by omega) rfl
                    rw [hlo]
                    by_cases hz : g_seen μ a b (eb)
                    · rw [if_pos ⟨by omega, hz⟩]
                      rw [if_pos hz] at h
                      exact h
                    · rw [if_neg (fun z => hz z.2)]
                      rw [if_neg hz] at h
                      exact h
                  · skip
                    refine rn_iconst (k' := 67) rfl rfl ?_
                    refine rn_goto rfl ?_
                    refine rn_imul (k' := 70) rfl rfl (by omega) ?_
                    refine rn_iadd (k' := 71) rfl rfl (by omega) ?_
                    refine rn_istore (k' := 72) (L' := [some (mR 118), some (mI (a)), some (mI (ea)), some (mI (b)), some (mI (eb)), some (mI (X)), some (mI (Y)), some (mI (g_w μ 2 (μ 14 0))), some (mI (eb)), some (mI (0 + (10 * (-1)))), none]) rfl rfl (Nat.le_of_ble_eq_true rfl) rfl ?_
                    refine rn_iload_n (k' := 73) rfl rfl rfl ?_
                    refine rn_iload (k' := 74) rfl rfl rfl ?_
                    refine rn_iadd (k' := 75) rfl rfl (by omega) ?_
                    refine rn_istore (k' := 76) (L' := [some (mR 118), some (mI (a)), some (mI (ea)), some (mI (b)), some (mI (eb)), some (mI (X)), some (mI (Y)), some (mI (g_w μ 2 (μ 14 0))), some (mI (eb)), some (mI (0 + (10 * (-1)))), some (mI (a + (0 + (10 * (-1)))))]) rfl rfl (Nat.le_of_ble_eq_true rfl) rfl ?_
                    have hk := hyes (by omega)
                    obtain ⟨w1, w2, w3, w4⟩ := ln_walk hga1 hgb1 ha1 hb1 ha2 hb2 hk
                    have hS2 : (0 + (10 * (-1)) : Int) = ln_s a b := by rw [hS0]; omega
                    have hlo : (if ea < eb then ea else eb) = eb := by omega
                    have h := l_areSeen (c := c) (s := s) (X := X) (Y := Y) (ea := ea) (eb := eb) (f := g_w μ 2 (μ 14 0)) (low := eb) hL ha hb hk rfl hS2 (ln_f a b - 1).toNat 0 (a + (0 + (10 * (-1)))) (by show a + (0 + (10 * (-1)) : Int) = a + ((0 : Int) + 1) * (0 + (10 * (-1))); omega) (by omega) rfl
                    rw [hlo]
                    by_cases hz : g_seen μ a b (eb)
                    · rw [if_pos ⟨by omega, hz⟩]
                      rw [if_pos hz] at h
                      exact h
                    · rw [if_neg (fun z => hz z.2)]
                      rw [if_neg hz] at h
                      exact h
                · skip
                  refine rn_iconst (k' := 63) rfl rfl ?_
                  refine rn_goto rfl ?_
                  refine rn_imul (k' := 70) rfl rfl (by omega) ?_
                  refine rn_iadd (k' := 71) rfl rfl (by omega) ?_
                  refine rn_istore (k' := 72) (L' := [some (mR 118), some (mI (a)), some (mI (ea)), some (mI (b)), some (mI (eb)), some (mI (X)), some (mI (Y)), some (mI (g_w μ 2 (μ 14 0))), some (mI (eb)), some (mI (0 + (10 * 1))), none]) rfl rfl (Nat.le_of_ble_eq_true rfl) rfl ?_
                  refine rn_iload_n (k' := 73) rfl rfl rfl ?_
                  refine rn_iload (k' := 74) rfl rfl rfl ?_
                  refine rn_iadd (k' := 75) rfl rfl (by omega) ?_
                  refine rn_istore (k' := 76) (L' := [some (mR 118), some (mI (a)), some (mI (ea)), some (mI (b)), some (mI (eb)), some (mI (X)), some (mI (Y)), some (mI (g_w μ 2 (μ 14 0))), some (mI (eb)), some (mI (0 + (10 * 1))), some (mI (a + (0 + (10 * 1))))]) rfl rfl (Nat.le_of_ble_eq_true rfl) rfl ?_
                  have hk := hyes (by omega)
                  obtain ⟨w1, w2, w3, w4⟩ := ln_walk hga1 hgb1 ha1 hb1 ha2 hb2 hk
                  have hS2 : (0 + (10 * 1) : Int) = ln_s a b := by rw [hS0]; omega
                  have hlo : (if ea < eb then ea else eb) = eb := by omega
                  have h := l_areSeen (c := c) (s := s) (X := X) (Y := Y) (ea := ea) (eb := eb) (f := g_w μ 2 (μ 14 0)) (low := eb) hL ha hb hk rfl hS2 (ln_f a b - 1).toNat 0 (a + (0 + (10 * 1))) (by show a + (0 + (10 * 1) : Int) = a + ((0 : Int) + 1) * (0 + (10 * 1)); omega) (by omega) rfl
                  rw [hlo]
                  by_cases hz : g_seen μ a b (eb)
                  · rw [if_pos ⟨by omega, hz⟩]
                    rw [if_pos hz] at h
                    exact h
                  · rw [if_neg (fun z => hz z.2)]
                    rw [if_neg hz] at h
                    exact h
              · skip
                refine rn_iconst (k' := 57) rfl rfl ?_
                refine rn_goto rfl ?_
                refine rn_bipush (k' := 60) rfl rfl ?_
                refine rn_iload (k' := 61) rfl rfl rfl ?_
                refine rn_if_le (k' := 62) rfl rfl (fun hc31 => ?_) (fun hc31 => ?_)
                · skip
                  refine rn_iload (k' := 65) rfl rfl rfl ?_
                  refine rn_if_ge (k' := 66) rfl rfl (fun hc32 => ?_) (fun hc32 => ?_)
                  · skip
                    refine rn_iconst (k' := 69) rfl rfl ?_
                    refine rn_imul (k' := 70) rfl rfl (by omega) ?_
                    refine rn_iadd (k' := 71) rfl rfl (by omega) ?_
                    refine rn_istore (k' := 72) (L' := [some (mR 118), some (mI (a)), some (mI (ea)), some (mI (b)), some (mI (eb)), some (mI (X)), some (mI (Y)), some (mI (g_w μ 2 (μ 14 0))), some (mI (eb)), some (mI ((-1) + (10 * 0))), none]) rfl rfl (Nat.le_of_ble_eq_true rfl) rfl ?_
                    refine rn_iload_n (k' := 73) rfl rfl rfl ?_
                    refine rn_iload (k' := 74) rfl rfl rfl ?_
                    refine rn_iadd (k' := 75) rfl rfl (by omega) ?_
                    refine rn_istore (k' := 76) (L' := [some (mR 118), some (mI (a)), some (mI (ea)), some (mI (b)), some (mI (eb)), some (mI (X)), some (mI (Y)), some (mI (g_w μ 2 (μ 14 0))), some (mI (eb)), some (mI ((-1) + (10 * 0))), some (mI (a + ((-1) + (10 * 0))))]) rfl rfl (Nat.le_of_ble_eq_true rfl) rfl ?_
                    have hk := hyes (by omega)
                    obtain ⟨w1, w2, w3, w4⟩ := ln_walk hga1 hgb1 ha1 hb1 ha2 hb2 hk
                    have hS2 : ((-1) + (10 * 0) : Int) = ln_s a b := by rw [hS0]; omega
                    have hlo : (if ea < eb then ea else eb) = eb := by omega
                    have h := l_areSeen (c := c) (s := s) (X := X) (Y := Y) (ea := ea) (eb := eb) (f := g_w μ 2 (μ 14 0)) (low := eb) hL ha hb hk rfl hS2 (ln_f a b - 1).toNat 0 (a + ((-1) + (10 * 0))) (by show a + ((-1) + (10 * 0) : Int) = a + ((0 : Int) + 1) * ((-1) + (10 * 0)); omega) (by omega) rfl
                    rw [hlo]
                    by_cases hz : g_seen μ a b (eb)
                    · rw [if_pos ⟨by omega, hz⟩]
                      rw [if_pos hz] at h
                      exact h
                    · rw [if_neg (fun z => hz z.2)]
                      rw [if_neg hz] at h
                      exact h
                  · skip
                    refine rn_iconst (k' := 67) rfl rfl ?_
                    refine rn_goto rfl ?_
                    refine rn_imul (k' := 70) rfl rfl (by omega) ?_
                    refine rn_iadd (k' := 71) rfl rfl (by omega) ?_
                    refine rn_istore (k' := 72) (L' := [some (mR 118), some (mI (a)), some (mI (ea)), some (mI (b)), some (mI (eb)), some (mI (X)), some (mI (Y)), some (mI (g_w μ 2 (μ 14 0))), some (mI (eb)), some (mI ((-1) + (10 * (-1)))), none]) rfl rfl (Nat.le_of_ble_eq_true rfl) rfl ?_
                    refine rn_iload_n (k' := 73) rfl rfl rfl ?_
                    refine rn_iload (k' := 74) rfl rfl rfl ?_
                    refine rn_iadd (k' := 75) rfl rfl (by omega) ?_
                    refine rn_istore (k' := 76) (L' := [some (mR 118), some (mI (a)), some (mI (ea)), some (mI (b)), some (mI (eb)), some (mI (X)), some (mI (Y)), some (mI (g_w μ 2 (μ 14 0))), some (mI (eb)), some (mI ((-1) + (10 * (-1)))), some (mI (a + ((-1) + (10 * (-1)))))]) rfl rfl (Nat.le_of_ble_eq_true rfl) rfl ?_
                    have hk := hyes (by omega)
                    obtain ⟨w1, w2, w3, w4⟩ := ln_walk hga1 hgb1 ha1 hb1 ha2 hb2 hk
                    have hS2 : ((-1) + (10 * (-1)) : Int) = ln_s a b := by rw [hS0]; omega
                    have hlo : (if ea < eb then ea else eb) = eb := by omega
                    have h := l_areSeen (c := c) (s := s) (X := X) (Y := Y) (ea := ea) (eb := eb) (f := g_w μ 2 (μ 14 0)) (low := eb) hL ha hb hk rfl hS2 (ln_f a b - 1).toNat 0 (a + ((-1) + (10 * (-1)))) (by show a + ((-1) + (10 * (-1)) : Int) = a + ((0 : Int) + 1) * ((-1) + (10 * (-1))); omega) (by omega) rfl
                    rw [hlo]
                    by_cases hz : g_seen μ a b (eb)
                    · rw [if_pos ⟨by omega, hz⟩]
                      rw [if_pos hz] at h
                      exact h
                    · rw [if_neg (fun z => hz z.2)]
                      rw [if_neg hz] at h
                      exact h
                · skip
                  refine rn_iconst (k' := 63) rfl rfl ?_
                  refine rn_goto rfl ?_
                  refine rn_imul (k' := 70) rfl rfl (by omega) ?_
                  refine rn_iadd (k' := 71) rfl rfl (by omega) ?_
                  refine rn_istore (k' := 72) (L' := [some (mR 118), some (mI (a)), some (mI (ea)), some (mI (b)), some (mI (eb)), some (mI (X)), some (mI (Y)), some (mI (g_w μ 2 (μ 14 0))), some (mI (eb)), some (mI ((-1) + (10 * 1))), none]) rfl rfl (Nat.le_of_ble_eq_true rfl) rfl ?_
                  refine rn_iload_n (k' := 73) rfl rfl rfl ?_
                  refine rn_iload (k' := 74) rfl rfl rfl ?_
                  refine rn_iadd (k' := 75) rfl rfl (by omega) ?_
                  refine rn_istore (k' := 76) (L' := [some (mR 118), some (mI (a)), some (mI (ea)), some (mI (b)), some (mI (eb)), some (mI (X)), some (mI (Y)), some (mI (g_w μ 2 (μ 14 0))), some (mI (eb)), some (mI ((-1) + (10 * 1))), some (mI (a + ((-1) + (10 * 1))))]) rfl rfl (Nat.le_of_ble_eq_true rfl) rfl ?_
                  have hk := hyes (by omega)
                  obtain ⟨w1, w2, w3, w4⟩ := ln_walk hga1 hgb1 ha1 hb1 ha2 hb2 hk
                  have hS2 : ((-1) + (10 * 1) : Int) = ln_s a b := by rw [hS0]; omega
                  have hlo : (if ea < eb then ea else eb) = eb := by omega
                  have h := l_areSeen (c := c) (s := s) (X := X) (Y := Y) (ea := ea) (eb := eb) (f := g_w μ 2 (μ 14 0)) (low := eb) hL ha hb hk rfl hS2 (ln_f a b - 1).toNat 0 (a + ((-1) + (10 * 1))) (by show a + ((-1) + (10 * 1) : Int) = a + ((0 : Int) + 1) * ((-1) + (10 * 1)); omega) (by omega) rfl
                  rw [hlo]
                  by_cases hz : g_seen μ a b (eb)
                  · rw [if_pos ⟨by omega, hz⟩]
                    rw [if_pos hz] at h
                    exact h
                  · rw [if_neg (fun z => hz z.2)]
                    rw [if_neg hz] at h
                    exact h
            · skip
              refine rn_iconst (k' := 53) rfl rfl ?_
              refine rn_goto rfl ?_
              refine rn_bipush (k' := 60) rfl rfl ?_
              refine rn_iload (k' := 61) rfl rfl rfl ?_
              refine rn_if_le (k' := 62) rfl rfl (fun hc33 => ?_) (fun hc33 => ?_)
              · skip
                refine rn_iload (k' := 65) rfl rfl rfl ?_
                refine rn_if_ge (k' := 66) rfl rfl (fun hc34 => ?_) (fun hc34 => ?_)
                · skip
                  refine rn_iconst (k' := 69) rfl rfl ?_
                  refine rn_imul (k' := 70) rfl rfl (by omega) ?_
                  refine rn_iadd (k' := 71) rfl rfl (by omega) ?_
                  refine rn_istore (k' := 72) (L' := [some (mR 118), some (mI (a)), some (mI (ea)), some (mI (b)), some (mI (eb)), some (mI (X)), some (mI (Y)), some (mI (g_w μ 2 (μ 14 0))), some (mI (eb)), some (mI (1 + (10 * 0))), none]) rfl rfl (Nat.le_of_ble_eq_true rfl) rfl ?_
                  refine rn_iload_n (k' := 73) rfl rfl rfl ?_
                  refine rn_iload (k' := 74) rfl rfl rfl ?_
                  refine rn_iadd (k' := 75) rfl rfl (by omega) ?_
                  refine rn_istore (k' := 76) (L' := [some (mR 118), some (mI (a)), some (mI (ea)), some (mI (b)), some (mI (eb)), some (mI (X)), some (mI (Y)), some (mI (g_w μ 2 (μ 14 0))), some (mI (eb)), some (mI (1 + (10 * 0))), some (mI (a + (1 + (10 * 0))))]) rfl rfl (Nat.le_of_ble_eq_true rfl) rfl ?_
                  have hk := hyes (by omega)
                  obtain ⟨w1, w2, w3, w4⟩ := ln_walk hga1 hgb1 ha1 hb1 ha2 hb2 hk
                  have hS2 : (1 + (10 * 0) : Int) = ln_s a b := by rw [hS0]; omega
                  have hlo : (if ea < eb then ea else eb) = eb := by omega
                  have h := l_areSeen (c := c) (s := s) (X := X) (Y := Y) (ea := ea) (eb := eb) (f := g_w μ 2 (μ 14 0)) (low := eb) hL ha hb hk rfl hS2 (ln_f a b - 1).toNat 0 (a + (1 + (10 * 0))) (by show a + (1 + (10 * 0) : Int) = a + ((0 : Int) + 1) * (1 + (10 * 0)); omega) (by omega) rfl
                  rw [hlo]
                  by_cases hz : g_seen μ a b (eb)
                  · rw [if_pos ⟨by omega, hz⟩]
                    rw [if_pos hz] at h
                    exact h
                  · rw [if_neg (fun z => hz z.2)]
                    rw [if_neg hz] at h
                    exact h
                · skip
                  refine rn_iconst (k' := 67) rfl rfl ?_
                  refine rn_goto rfl ?_
                  refine rn_imul (k' := 70) rfl rfl (by omega) ?_
                  refine rn_iadd (k' := 71) rfl rfl (by omega) ?_
                  refine rn_istore (k' := 72) (L' := [some (mR 118), some (mI (a)), some (mI (ea)), some (mI (b)), some (mI (eb)), some (mI (X)), some (mI (Y)), some (mI (g_w μ 2 (μ 14 0))), some (mI (eb)), some (mI (1 + (10 * (-1)))), none]) rfl rfl (Nat.le_of_ble_eq_true rfl) rfl ?_
                  refine rn_iload_n (k' := 73) rfl rfl rfl ?_
                  refine rn_iload (k' := 74) rfl rfl rfl ?_
                  refine rn_iadd (k' := 75) rfl rfl (by omega) ?_
                  refine rn_istore (k' := 76) (L' := [some (mR 118), some (mI (a)), some (mI (ea)), some (mI (b)), some (mI (eb)), some (mI (X)), some (mI (Y)), some (mI (g_w μ 2 (μ 14 0))), some (mI (eb)), some (mI (1 + (10 * (-1)))), some (mI (a + (1 + (10 * (-1)))))]) rfl rfl (Nat.le_of_ble_eq_true rfl) rfl ?_
                  have hk := hyes (by omega)
                  obtain ⟨w1, w2, w3, w4⟩ := ln_walk hga1 hgb1 ha1 hb1 ha2 hb2 hk
                  have hS2 : (1 + (10 * (-1)) : Int) = ln_s a b := by rw [hS0]; omega
                  have hlo : (if ea < eb then ea else eb) = eb := by omega
                  have h := l_areSeen (c := c) (s := s) (X := X) (Y := Y) (ea := ea) (eb := eb) (f := g_w μ 2 (μ 14 0)) (low := eb) hL ha hb hk rfl hS2 (ln_f a b - 1).toNat 0 (a + (1 + (10 * (-1)))) (by show a + (1 + (10 * (-1)) : Int) = a + ((0 : Int) + 1) * (1 + (10 * (-1))); omega) (by omega) rfl
                  rw [hlo]
                  by_cases hz : g_seen μ a b (eb)
                  · rw [if_pos ⟨by omega, hz⟩]
                    rw [if_pos hz] at h
                    exact h
                  · rw [if_neg (fun z => hz z.2)]
                    rw [if_neg hz] at h
                    exact h
              · skip
                refine rn_iconst (k' := 63) rfl rfl ?_
                refine rn_goto rfl ?_
                refine rn_imul (k' := 70) rfl rfl (by omega) ?_
                refine rn_iadd (k' := 71) rfl rfl (by omega) ?_
                refine rn_istore (k' := 72) (L' := [some (mR 118), some (mI (a)), some (mI (ea)), some (mI (b)), some (mI (eb)), some (mI (X)), some (mI (Y)), some (mI (g_w μ 2 (μ 14 0))), some (mI (eb)), some (mI (1 + (10 * 1))), none]) rfl rfl (Nat.le_of_ble_eq_true rfl) rfl ?_
                refine rn_iload_n (k' := 73) rfl rfl rfl ?_
                refine rn_iload (k' := 74) rfl rfl rfl ?_
                refine rn_iadd (k' := 75) rfl rfl (by omega) ?_
                refine rn_istore (k' := 76) (L' := [some (mR 118), some (mI (a)), some (mI (ea)), some (mI (b)), some (mI (eb)), some (mI (X)), some (mI (Y)), some (mI (g_w μ 2 (μ 14 0))), some (mI (eb)), some (mI (1 + (10 * 1))), some (mI (a + (1 + (10 * 1))))]) rfl rfl (Nat.le_of_ble_eq_true rfl) rfl ?_
                have hk := hyes (by omega)
                obtain ⟨w1, w2, w3, w4⟩ := ln_walk hga1 hgb1 ha1 hb1 ha2 hb2 hk
                have hS2 : (1 + (10 * 1) : Int) = ln_s a b := by rw [hS0]; omega
                have hlo : (if ea < eb then ea else eb) = eb := by omega
                have h := l_areSeen (c := c) (s := s) (X := X) (Y := Y) (ea := ea) (eb := eb) (f := g_w μ 2 (μ 14 0)) (low := eb) hL ha hb hk rfl hS2 (ln_f a b - 1).toNat 0 (a + (1 + (10 * 1))) (by show a + (1 + (10 * 1) : Int) = a + ((0 : Int) + 1) * (1 + (10 * 1)); omega) (by omega) rfl
                rw [hlo]
                by_cases hz : g_seen μ a b (eb)
                · rw [if_pos ⟨by omega, hz⟩]
                  rw [if_pos hz] at h
                  exact h
                · rw [if_neg (fun z => hz z.2)]
                  rw [if_neg hz] at h
                  exact h
          · skip
            refine rn_iconst (k' := 49) rfl rfl ?_
            refine rn_iret rfl (Or.inr (by omega)) ?_
            first | rw [if_neg (hno (by omega))] | rw [if_neg (fun z => by have := z.1; omega)]
        · skip
          refine rn_iload_n (k' := 42) rfl rfl rfl ?_
          refine rn_goto rfl ?_
          refine rn_istore (k' := 45) (L' := [some (mR 118), some (mI (a)), some (mI (ea)), some (mI (b)), some (mI (eb)), some (mI (X)), some (mI (Y)), some (mI (g_w μ 2 (μ 14 0))), some (mI (ea)), none, none]) rfl rfl (Nat.le_of_ble_eq_true rfl) rfl ?_
          refine rn_iload (k' := 46) rfl rfl rfl ?_
          refine rn_iload (k' := 47) rfl rfl rfl ?_
          refine rn_icmp_gt (k' := 48) rfl rfl (fun hc35 => ?_) (fun hc35 => ?_)
          · skip
            refine rn_iload (k' := 51) rfl rfl rfl ?_
            refine rn_if_le (k' := 52) rfl rfl (fun hc36 => ?_) (fun hc36 => ?_)
            · skip
              refine rn_iload (k' := 55) rfl rfl rfl ?_
              refine rn_if_ge (k' := 56) rfl rfl (fun hc37 => ?_) (fun hc37 => ?_)
              · skip
                refine rn_iconst (k' := 59) rfl rfl ?_
                refine rn_bipush (k' := 60) rfl rfl ?_
                refine rn_iload (k' := 61) rfl rfl rfl ?_
                refine rn_if_le (k' := 62) rfl rfl (fun hc38 => ?_) (fun hc38 => ?_)
                · skip
                  refine rn_iload (k' := 65) rfl rfl rfl ?_
                  refine rn_if_ge (k' := 66) rfl rfl (fun hc39 => ?_) (fun hc39 => ?_)
                  · skip
                    refine rn_iconst (k' := 69) rfl rfl ?_
                    refine rn_imul (k' := 70) rfl rfl (by omega) ?_
                    refine rn_iadd (k' := 71) rfl rfl (by omega) ?_
                    refine rn_istore (k' := 72) (L' := [some (mR 118), some (mI (a)), some (mI (ea)), some (mI (b)), some (mI (eb)), some (mI (X)), some (mI (Y)), some (mI (g_w μ 2 (μ 14 0))), some (mI (ea)), some (mI (0 + (10 * 0))), none]) rfl rfl (Nat.le_of_ble_eq_true rfl) rfl ?_
                    refine rn_iload_n (k' := 73) rfl rfl rfl ?_
                    refine rn_iload (k' := 74) rfl rfl rfl ?_
                    refine rn_iadd (k' := 75) rfl rfl (by omega) ?_
                    refine rn_istore (k' := 76) (L' := [some (mR 118), some (mI (a)), some (mI (ea)), some (mI (b)), some (mI (eb)), some (mI (X)), some (mI (Y)), some (mI (g_w μ 2 (μ 14 0))), some (mI (ea)), some (mI (0 + (10 * 0))), some (mI (a + (0 + (10 * 0))))]) rfl rfl (Nat.le_of_ble_eq_true rfl) rfl ?_
                    have hk := hyes (by omega)
                    obtain ⟨w1, w2, w3, w4⟩ := ln_walk hga1 hgb1 ha1 hb1 ha2 hb2 hk
                    have hS2 : (0 + (10 * 0) : Int) = ln_s a b := by rw [hS0]; omega
                    have hlo : (if ea < eb then ea else eb) = ea := by omega
                    have h := l_areSeen (c := c) (s := s) (X := X) (Y := Y) (ea := ea) (eb := eb) (f := g_w μ 2 (μ 14 0)) (low := ea) hL ha hb hk rfl hS2 (ln_f a b - 1).toNat 0 (a + (0 + (10 * 0))) (by show a + (0 + (10 * 0) : Int) = a + ((0 : Int) + 1) * (0 + (10 * 0)); omega) (by omega) rfl
                    rw [hlo]
                    by_cases hz : g_seen μ a b (ea)
                    · rw [if_pos ⟨by omega, hz⟩]
                      rw [if_pos hz] at h
                      exact h
                    · rw [if_neg (fun z => hz z.2)]
                      rw [if_neg hz] at h
                      exact h
                  · skip
                    refine rn_iconst (k' := 67) rfl rfl ?_
                    refine rn_goto rfl ?_
                    refine rn_imul (k' := 70) rfl rfl (by omega) ?_
                    refine rn_iadd (k' := 71) rfl rfl (by omega) ?_
                    refine rn_istore (k' := 72) (L' := [some (mR 118), some (mI (a)), some (mI (ea)), some (mI (b)), some (mI (eb)), some (mI (X)), some (mI (Y)), some (mI (g_w μ 2 (μ 14 0))), some (mI (ea)), some (mI (0 + (10 * (-1)))), none]) rfl rfl (Nat.le_of_ble_eq_true rfl) rfl ?_
                    refine rn_iload_n (k' := 73) rfl rfl rfl ?_
                    refine rn_iload (k' := 74) rfl rfl rfl ?_
                    refine rn_iadd (k' := 75) rfl rfl (by omega) ?_
                    refine rn_istore (k' := 76) (L' := [some (mR 118), some (mI (a)), some (mI (ea)), some (mI (b)), some (mI (eb)), some (mI (X)), some (mI (Y)), some (mI (g_w μ 2 (μ 14 0))), some (mI (ea)), some (mI (0 + (10 * (-1)))), some (mI (a + (0 + (10 * (-1)))))]) rfl rfl (Nat.le_of_ble_eq_true rfl) rfl ?_
                    have hk := hyes (by omega)
                    obtain ⟨w1, w2, w3, w4⟩ := ln_walk hga1 hgb1 ha1 hb1 ha2 hb2 hk
                    have hS2 : (0 + (10 * (-1)) : Int) = ln_s a b := by rw [hS0]; omega
                    have hlo : (if ea < eb then ea else eb) = ea := by omega
                    have h := l_areSeen (c := c) (s := s) (X := X) (Y := Y) (ea := ea) (eb := eb) (f := g_w μ 2 (μ 14 0)) (low := ea) hL ha hb hk rfl hS2 (ln_f a b - 1).toNat 0 (a + (0 + (10 * (-1)))) (by show a + (0 + (10 * (-1)) : Int) = a + ((0 : Int) + 1) * (0 + (10 * (-1))); omega) (by omega) rfl
                    rw [hlo]
                    by_cases hz : g_seen μ a b (ea)
                    · rw [if_pos ⟨by omega, hz⟩]
                      rw [if_pos hz] at h
                      exact h
                    · rw [if_neg (fun z => hz z.2)]
                      rw [if_neg hz] at h
                      exact h
                · skip
                  refine rn_iconst (k' := 63) rfl rfl ?_
                  refine rn_goto rfl ?_
                  refine rn_imul (k' := 70) rfl rfl (by omega) ?_
                  refine rn_iadd (k' := 71) rfl rfl (by omega) ?_
                  refine rn_istore (k' := 72) (L' := [some (mR 118), some (mI (a)), some (mI (ea)), some (mI (b)), some (mI (eb)), some (mI (X)), some (mI (Y)), some (mI (g_w μ 2 (μ 14 0))), some (mI (ea)), some (mI (0 + (10 * 1))), none]) rfl rfl (Nat.le_of_ble_eq_true rfl) rfl ?_
                  refine rn_iload_n (k' := 73) rfl rfl rfl ?_
                  refine rn_iload (k' := 74) rfl rfl rfl ?_
                  refine rn_iadd (k' := 75) rfl rfl (by omega) ?_
                  refine rn_istore (k' := 76) (L' := [some (mR 118), some (mI (a)), some (mI (ea)), some (mI (b)), some (mI (eb)), some (mI (X)), some (mI (Y)), some (mI (g_w μ 2 (μ 14 0))), some (mI (ea)), some (mI (0 + (10 * 1))), some (mI (a + (0 + (10 * 1))))]) rfl rfl (Nat.le_of_ble_eq_true rfl) rfl ?_
                  have hk := hyes (by omega)
                  obtain ⟨w1, w2, w3, w4⟩ := ln_walk hga1 hgb1 ha1 hb1 ha2 hb2 hk
                  have hS2 : (0 + (10 * 1) : Int) = ln_s a b := by rw [hS0]; omega
                  have hlo : (if ea < eb then ea else eb) = ea := by omega
                  have h := l_areSeen (c := c) (s := s) (X := X) (Y := Y) (ea := ea) (eb := eb) (f := g_w μ 2 (μ 14 0)) (low := ea) hL ha hb hk rfl hS2 (ln_f a b - 1).toNat 0 (a + (0 + (10 * 1))) (by show a + (0 + (10 * 1) : Int) = a + ((0 : Int) + 1) * (0 + (10 * 1)); omega) (by omega) rfl
                  rw [hlo]
                  by_cases hz : g_seen μ a b (ea)
                  · rw [if_pos ⟨by omega, hz⟩]
                    rw [if_pos hz] at h
                    exact h
                  · rw [if_neg (fun z => hz z.2)]
                    rw [if_neg hz] at h
                    exact h
              · skip
                refine rn_iconst (k' := 57) rfl rfl ?_
                refine rn_goto rfl ?_
                refine rn_bipush (k' := 60) rfl rfl ?_
                refine rn_iload (k' := 61) rfl rfl rfl ?_
                refine rn_if_le (k' := 62) rfl rfl (fun hc40 => ?_) (fun hc40 => ?_)
                · skip
                  refine rn_iload (k' := 65) rfl rfl rfl ?_
                  refine rn_if_ge (k' := 66) rfl rfl (fun hc41 => ?_) (fun hc41 => ?_)
                  · skip
                    refine rn_iconst (k' := 69) rfl rfl ?_
                    refine rn_imul (k' := 70) rfl rfl (by omega) ?_
                    refine rn_iadd (k' := 71) rfl rfl (by omega) ?_
                    refine rn_istore (k' := 72) (L' := [some (mR 118), some (mI (a)), some (mI (ea)), some (mI (b)), some (mI (eb)), some (mI (X)), some (mI (Y)), some (mI (g_w μ 2 (μ 14 0))), some (mI (ea)), some (mI ((-1) + (10 * 0))), none]) rfl rfl (Nat.le_of_ble_eq_true rfl) rfl ?_
                    refine rn_iload_n (k' := 73) rfl rfl rfl ?_
                    refine rn_iload (k' := 74) rfl rfl rfl ?_
                    refine rn_iadd (k' := 75) rfl rfl (by omega) ?_
                    refine rn_istore (k' := 76) (L' := [some (mR 118), some (mI (a)), some (mI (ea)), some (mI (b)), some (mI (eb)), some (mI (X)), some (mI (Y)), some (mI (g_w μ 2 (μ 14 0))), some (mI (ea)), some (mI ((-1) + (10 * 0))), some (mI (a + ((-1) + (10 * 0))))]) rfl rfl (Nat.le_of_ble_eq_true rfl) rfl ?_
                    have hk := hyes (by omega)
                    obtain ⟨w1, w2, w3, w4⟩ := ln_walk hga1 hgb1 ha1 hb1 ha2 hb2 hk
                    have hS2 : ((-1) + (10 * 0) : Int) = ln_s a b := by rw [hS0]; omega
                    have hlo : (if ea < eb then ea else eb) = ea := by omega
                    have h := l_areSeen (c := c) (s := s) (X := X) (Y := Y) (ea := ea) (eb := eb) (f := g_w μ 2 (μ 14 0)) (low := ea) hL ha hb hk rfl hS2 (ln_f a b - 1).toNat 0 (a + ((-1) + (10 * 0))) (by show a + ((-1) + (10 * 0) : Int) = a + ((0 : Int) + 1) * ((-1) + (10 * 0)); omega) (by omega) rfl
                    rw [hlo]
                    by_cases hz : g_seen μ a b (ea)
                    · rw [if_pos ⟨by omega, hz⟩]
                      rw [if_pos hz] at h
                      exact h
                    · rw [if_neg (fun z => hz z.2)]
                      rw [if_neg hz] at h
                      exact h
                  · skip
                    refine rn_iconst (k' := 67) rfl rfl ?_
                    refine rn_goto rfl ?_
                    refine rn_imul (k' := 70) rfl rfl (by omega) ?_
                    refine rn_iadd (k' := 71) rfl rfl (by omega) ?_
                    refine rn_istore (k' := 72) (L' := [some (mR 118), some (mI (a)), some (mI (ea)), some (mI (b)), some (mI (eb)), some (mI (X)), some (mI (Y)), some (mI (g_w μ 2 (μ 14 0))), some (mI (ea)), some (mI ((-1) + (10 * (-1)))), none]) rfl rfl (Nat.le_of_ble_eq_true rfl) rfl ?_
                    refine rn_iload_n (k' := 73) rfl rfl rfl ?_
                    refine rn_iload (k' := 74) rfl rfl rfl ?_
                    refine rn_iadd (k' := 75) rfl rfl (by omega) ?_
                    refine rn_istore (k' := 76) (L' := [some (mR 118), some (mI (a)), some (mI (ea)), some (mI (b)), some (mI (eb)), some (mI (X)), some (mI (Y)), some (mI (g_w μ 2 (μ 14 0))), some (mI (ea)), some (mI ((-1) + (10 * (-1)))), some (mI (a + ((-1) + (10 * (-1)))))]) rfl rfl (Nat.le_of_ble_eq_true rfl) rfl ?_
                    have hk := hyes (by omega)
                    obtain ⟨w1, w2, w3, w4⟩ := ln_walk hga1 hgb1 ha1 hb1 ha2 hb2 hk
                    have hS2 : ((-1) + (10 * (-1)) : Int) = ln_s a b := by rw [hS0]; omega
                    have hlo : (if ea < eb then ea else eb) = ea := by omega
                    have h := l_areSeen (c := c) (s := s) (X := X) (Y := Y) (ea := ea) (eb := eb) (f := g_w μ 2 (μ 14 0)) (low := ea) hL ha hb hk rfl hS2 (ln_f a b - 1).toNat 0 (a + ((-1) + (10 * (-1)))) (by show a + ((-1) + (10 * (-1)) : Int) = a + ((0 : Int) + 1) * ((-1) + (10 * (-1))); omega) (by omega) rfl
                    rw [hlo]
                    by_cases hz : g_seen μ a b (ea)
                    · rw [if_pos ⟨by omega, hz⟩]
                      rw [if_pos hz] at h
                      exact h
                    · rw [if_neg (fun z => hz z.2)]
                      rw [if_neg hz] at h
                      exact h
                · skip
                  refine rn_iconst (k' := 63) rfl rfl ?_
                  refine rn_goto rfl ?_
                  refine rn_imul (k' := 70) rfl rfl (by omega) ?_
                  refine rn_iadd (k' := 71) rfl rfl (by omega) ?_
                  refine rn_istore (k' := 72) (L' := [some (mR 118), some (mI (a)), some (mI (ea)), some (mI (b)), some (mI (eb)), some (mI (X)), some (mI (Y)), some (mI (g_w μ 2 (μ 14 0))), some (mI (ea)), some (mI ((-1) + (10 * 1))), none]) rfl rfl (Nat.le_of_ble_eq_true rfl) rfl ?_
                  refine rn_iload_n (k' := 73) rfl rfl rfl ?_
                  refine rn_iload (k' := 74) rfl rfl rfl ?_
                  refine rn_iadd (k' := 75) rfl rfl (by omega) ?_
                  refine rn_istore (k' := 76) (L' := [some (mR 118), some (mI (a)), some (mI (ea)), some (mI (b)), some (mI (eb)), some (mI (X)), some (mI (Y)), some (mI (g_w μ 2 (μ 14 0))), some (mI (ea)), some (mI ((-1) + (10 * 1))), some (mI (a + ((-1) + (10 * 1))))]) rfl rfl (Nat.le_of_ble_eq_true rfl) rfl ?_
                  have hk := hyes (by omega)
                  obtain ⟨w1, w2, w3, w4⟩ := ln_walk hga1 hgb1 ha1 hb1 ha2 hb2 hk
                  have hS2 : ((-1) + (10 * 1) : Int) = ln_s a b := by rw [hS0]; omega
                  have hlo : (if ea < eb then ea else eb) = ea := by omega
                  have h := l_areSeen (c := c) (s := s) (X := X) (Y := Y) (ea := ea) (eb := eb) (f := g_w μ 2 (μ 14 0)) (low := ea) hL ha hb hk rfl hS2 (ln_f a b - 1).toNat 0 (a + ((-1) + (10 * 1))) (by show a + ((-1) + (10 * 1) : Int) = a + ((0 : Int) + 1) * ((-1) + (10 * 1)); omega) (by omega) rfl
                  rw [hlo]
                  by_cases hz : g_seen μ a b (ea)
                  · rw [if_pos ⟨by omega, hz⟩]
                    rw [if_pos hz] at h
                    exact h
                  · rw [if_neg (fun z => hz z.2)]
                    rw [if_neg hz] at h
                    exact h
            · skip
              refine rn_iconst (k' := 53) rfl rfl ?_
              refine rn_goto rfl ?_
              refine rn_bipush (k' := 60) rfl rfl ?_
              refine rn_iload (k' := 61) rfl rfl rfl ?_
              refine rn_if_le (k' := 62) rfl rfl (fun hc42 => ?_) (fun hc42 => ?_)
              · skip
                refine rn_iload (k' := 65) rfl rfl rfl ?_
                refine rn_if_ge (k' := 66) rfl rfl (fun hc43 => ?_) (fun hc43 => ?_)
                · skip
                  refine rn_iconst (k' := 69) rfl rfl ?_
                  refine rn_imul (k' := 70) rfl rfl (by omega) ?_
                  refine rn_iadd (k' := 71) rfl rfl (by omega) ?_
                  refine rn_istore (k' := 72) (L' := [some (mR 118), some (mI (a)), some (mI (ea)), some (mI (b)), some (mI (eb)), some (mI (X)), some (mI (Y)), some (mI (g_w μ 2 (μ 14 0))), some (mI (ea)), some (mI (1 + (10 * 0))), none]) rfl rfl (Nat.le_of_ble_eq_true rfl) rfl ?_
                  refine rn_iload_n (k' := 73) rfl rfl rfl ?_
                  refine rn_iload (k' := 74) rfl rfl rfl ?_
                  refine rn_iadd (k' := 75) rfl rfl (by omega) ?_
                  refine rn_istore (k' := 76) (L' := [some (mR 118), some (mI (a)), some (mI (ea)), some (mI (b)), some (mI (eb)), some (mI (X)), some (mI (Y)), some (mI (g_w μ 2 (μ 14 0))), some (mI (ea)), some (mI (1 + (10 * 0))), some (mI (a + (1 + (10 * 0))))]) rfl rfl (Nat.le_of_ble_eq_true rfl) rfl ?_
                  have hk := hyes (by omega)
                  obtain ⟨w1, w2, w3, w4⟩ := ln_walk hga1 hgb1 ha1 hb1 ha2 hb2 hk
                  have hS2 : (1 + (10 * 0) : Int) = ln_s a b := by rw [hS0]; omega
                  have hlo : (if ea < eb then ea else eb) = ea := by omega
                  have h := l_areSeen (c := c) (s := s) (X := X) (Y := Y) (ea := ea) (eb := eb) (f := g_w μ 2 (μ 14 0)) (low := ea) hL ha hb hk rfl hS2 (ln_f a b - 1).toNat 0 (a + (1 + (10 * 0))) (by show a + (1 + (10 * 0) : Int) = a + ((0 : Int) + 1) * (1 + (10 * 0)); omega) (by omega) rfl
                  rw [hlo]
                  by_cases hz : g_seen μ a b (ea)
                  · rw [if_pos ⟨by omega, hz⟩]
                    rw [if_pos hz] at h
                    exact h
                  · rw [if_neg (fun z => hz z.2)]
                    rw [if_neg hz] at h
                    exact h
                · skip
                  refine rn_iconst (k' := 67) rfl rfl ?_
                  refine rn_goto rfl ?_
                  refine rn_imul (k' := 70) rfl rfl (by omega) ?_
                  refine rn_iadd (k' := 71) rfl rfl (by omega) ?_
                  refine rn_istore (k' := 72) (L' := [some (mR 118), some (mI (a)), some (mI (ea)), some (mI (b)), some (mI (eb)), some (mI (X)), some (mI (Y)), some (mI (g_w μ 2 (μ 14 0))), some (mI (ea)), some (mI (1 + (10 * (-1)))), none]) rfl rfl (Nat.le_of_ble_eq_true rfl) rfl ?_
                  refine rn_iload_n (k' := 73) rfl rfl rfl ?_
                  refine rn_iload (k' := 74) rfl rfl rfl ?_
                  refine rn_iadd (k' := 75) rfl rfl (by omega) ?_
                  refine rn_istore (k' := 76) (L' := [some (mR 118), some (mI (a)), some (mI (ea)), some (mI (b)), some (mI (eb)), some (mI (X)), some (mI (Y)), some (mI (g_w μ 2 (μ 14 0))), some (mI (ea)), some (mI (1 + (10 * (-1)))), some (mI (a + (1 + (10 * (-1)))))]) rfl rfl (Nat.le_of_ble_eq_true rfl) rfl ?_
                  have hk := hyes (by omega)
                  obtain ⟨w1, w2, w3, w4⟩ := ln_walk hga1 hgb1 ha1 hb1 ha2 hb2 hk
                  have hS2 : (1 + (10 * (-1)) : Int) = ln_s a b := by rw [hS0]; omega
                  have hlo : (if ea < eb then ea else eb) = ea := by omega
                  have h := l_areSeen (c := c) (s := s) (X := X) (Y := Y) (ea := ea) (eb := eb) (f := g_w μ 2 (μ 14 0)) (low := ea) hL ha hb hk rfl hS2 (ln_f a b - 1).toNat 0 (a + (1 + (10 * (-1)))) (by show a + (1 + (10 * (-1)) : Int) = a + ((0 : Int) + 1) * (1 + (10 * (-1))); omega) (by omega) rfl
                  rw [hlo]
                  by_cases hz : g_seen μ a b (ea)
                  · rw [if_pos ⟨by omega, hz⟩]
                    rw [if_pos hz] at h
                    exact h
                  · rw [if_neg (fun z => hz z.2)]
                    rw [if_neg hz] at h
                    exact h
              · skip
                refine rn_iconst (k' := 63) rfl rfl ?_
                refine rn_goto rfl ?_
                refine rn_imul (k' := 70) rfl rfl (by omega) ?_
                refine rn_iadd (k' := 71) rfl rfl (by omega) ?_
                refine rn_istore (k' := 72) (L' := [some (mR 118), some (mI (a)), some (mI (ea)), some (mI (b)), some (mI (eb)), some (mI (X)), some (mI (Y)), some (mI (g_w μ 2 (μ 14 0))), some (mI (ea)), some (mI (1 + (10 * 1))), none]) rfl rfl (Nat.le_of_ble_eq_true rfl) rfl ?_
                refine rn_iload_n (k' := 73) rfl rfl rfl ?_
                refine rn_iload (k' := 74) rfl rfl rfl ?_
                refine rn_iadd (k' := 75) rfl rfl (by omega) ?_
                refine rn_istore (k' := 76) (L' := [some (mR 118), some (mI (a)), some (mI (ea)), some (mI (b)), some (mI (eb)), some (mI (X)), some (mI (Y)), some (mI (g_w μ 2 (μ 14 0))), some (mI (ea)), some (mI (1 + (10 * 1))), some (mI (a + (1 + (10 * 1))))]) rfl rfl (Nat.le_of_ble_eq_true rfl) rfl ?_
                have hk := hyes (by omega)
                obtain ⟨w1, w2, w3, w4⟩ := ln_walk hga1 hgb1 ha1 hb1 ha2 hb2 hk
                have hS2 : (1 + (10 * 1) : Int) = ln_s a b := by rw [hS0]; omega
                have hlo : (if ea < eb then ea else eb) = ea := by omega
                have h := l_areSeen (c := c) (s := s) (X := X) (Y := Y) (ea := ea) (eb := eb) (f := g_w μ 2 (μ 14 0)) (low := ea) hL ha hb hk rfl hS2 (ln_f a b - 1).toNat 0 (a + (1 + (10 * 1))) (by show a + (1 + (10 * 1) : Int) = a + ((0 : Int) + 1) * (1 + (10 * 1)); omega) (by omega) rfl
                rw [hlo]
                by_cases hz : g_seen μ a b (ea)
                · rw [if_pos ⟨by omega, hz⟩]
                  rw [if_pos hz] at h
                  exact h
                · rw [if_neg (fun z => hz z.2)]
                  rw [if_neg hz] at h
                  exact h
          · skip
            refine rn_iconst (k' := 49) rfl rfl ?_
            refine rn_iret rfl (Or.inr (by omega)) ?_
            first | rw [if_neg (hno (by omega))] | rw [if_neg (fun z => by have := z.1; omega)]
      · skip
        refine rn_iload (k' := 24) rfl rfl rfl ?_
        have hsz44 := ab_b (X)
        refine rn_callP (k' := 25) (y := 169) (vs := [mI (X)]) (S' := []) (v := some (mI (ab (X)))) (h' := mkh μ c s) rfl rfl rfl (c_X12_sizeOf (by omega)) ?_
        show Rn PT none kX12_areSeen 25 [some (mR 118), some (mI (a)), some (mI (ea)), some (mI (b)), some (mI (eb)), some (mI (X)), some (mI (Y)), none, none, none, none] [mI (ab (X))] (mkh μ c s) _
        refine rn_iload (k' := 26) rfl rfl rfl ?_
        have hsz45 := ab_b (Y)
        refine rn_callP (k' := 27) (y := 169) (vs := [mI (Y)]) (S' := [mI (ab (X))]) (v := some (mI (ab (Y)))) (h' := mkh μ c s) rfl rfl rfl (c_X12_sizeOf (by omega)) ?_
        show Rn PT none kX12_areSeen 27 [some (mR 118), some (mI (a)), some (mI (ea)), some (mI (b)), some (mI (eb)), some (mI (X)), some (mI (Y)), none, none, none, none] [mI (ab (Y)), mI (ab (X))] (mkh μ c s) _
        refine rn_icmp_eq (k' := 28) rfl rfl (fun hc46 => ?_) (fun hc46 => ?_)
        · skip
          refine rn_aload_n (k' := 31) rfl rfl rfl ?_
          refine rn_aload_n (k' := 32) rfl rfl rfl ?_
          refine rn_getR (k' := 33) rfl rfl K0_118 (by decide) rfl R0_118_6 ?_
          refine rn_sipush (k' := 34) rfl rfl ?_
          refine rn_iaload (k' := 35) rfl rfl K0_120 (by omega) (by omega) ?_
          show Rn PT none kX12_areSeen 35 [some (mR 118), some (mI (a)), some (mI (ea)), some (mI (b)), some (mI (eb)), some (mI (X)), some (mI (Y)), none, none, none, none] [mI (μ 120 517), mR 118] (mkh μ c s) _
          rw [s4]
          refine rn_iconst (k' := 36) rfl rfl ?_
          have hb47 := g_w_b hL 2 (μ 14 0)
          refine rn_callP (k' := 37) (y := 196) (vs := [mR 118, mI (μ 14 0), mI (2)]) (S' := []) (v := some (mI (g_w μ 2 (μ 14 0)))) (h' := mkh μ c s) rfl rfl rfl (c_X12_onDay (μ := μ) (hL) (by omega) (by omega)) ?_
          show Rn PT none kX12_areSeen 37 [some (mR 118), some (mI (a)), some (mI (ea)), some (mI (b)), some (mI (eb)), some (mI (X)), some (mI (Y)), none, none, none, none] [mI (g_w μ 2 (μ 14 0))] (mkh μ c s) _
          refine rn_istore (k' := 38) (L' := [some (mR 118), some (mI (a)), some (mI (ea)), some (mI (b)), some (mI (eb)), some (mI (X)), some (mI (Y)), some (mI (g_w μ 2 (μ 14 0))), none, none, none]) rfl rfl (Nat.le_of_ble_eq_true rfl) rfl ?_
          refine rn_iload_n (k' := 39) rfl rfl rfl ?_
          refine rn_iload (k' := 40) rfl rfl rfl ?_
          refine rn_icmp_ge (k' := 41) rfl rfl (fun hc48 => ?_) (fun hc48 => ?_)
          · skip
            refine rn_iload (k' := 44) rfl rfl rfl ?_
            refine rn_istore (k' := 45) (L' := [some (mR 118), some (mI (a)), some (mI (ea)), some (mI (b)), some (mI (eb)), some (mI (X)), some (mI (Y)), some (mI (g_w μ 2 (μ 14 0))), some (mI (eb)), none, none]) rfl rfl (Nat.le_of_ble_eq_true rfl) rfl ?_
            refine rn_iload (k' := 46) rfl rfl rfl ?_
            refine rn_iload (k' := 47) rfl rfl rfl ?_
            refine rn_icmp_gt (k' := 48) rfl rfl (fun hc49 => ?_) (fun hc49 => ?_)
            · skip
              refine rn_iload (k' := 51) rfl rfl rfl ?_
              refine rn_if_le (k' := 52) rfl rfl (fun hc50 => ?_) (fun hc50 => ?_)
              · skip
                refine rn_iload (k' := 55) rfl rfl rfl ?_
                refine rn_if_ge (k' := 56) rfl rfl (fun hc51 => ?_) (fun hc51 => ?_)
                · skip
                  refine rn_iconst (k' := 59) rfl rfl ?_
                  refine rn_bipush (k' := 60) rfl rfl ?_
                  refine rn_iload (k' := 61) rfl rfl rfl ?_
                  refine rn_if_le (k' := 62) rfl rfl (fun hc52 => ?_) (fun hc52 => ?_)
                  · skip
                    refine rn_iload (k' := 65) rfl rfl rfl ?_
                    refine rn_if_ge (k' := 66) rfl rfl (fun hc53 => ?_) (fun hc53 => ?_)
                    · skip
                      refine rn_iconst (k' := 69) rfl rfl ?_
                      refine rn_imul (k' := 70) rfl rfl (by omega) ?_
                      refine rn_iadd (k' := 71) rfl rfl (by omega) ?_
                      refine rn_istore (k' := 72) (L' := [some (mR 118), some (mI (a)), some (mI (ea)), some (mI (b)), some (mI (eb)), some (mI (X)), some (mI (Y)), some (mI (g_w μ 2 (μ 14 0))), some (mI (eb)), some (mI (0 + (10 * 0))), none]) rfl rfl (Nat.le_of_ble_eq_true rfl) rfl ?_
                      refine rn_iload_n (k' := 73) rfl rfl rfl ?_
                      refine rn_iload (k' := 74) rfl rfl rfl ?_
                      refine rn_iadd (k' := 75) rfl rfl (by omega) ?_
                      refine rn_istore (k' := 76) (L' := [some (mR 118), some (mI (a)), some (mI (ea)), some (mI (b)), some (mI (eb)), some (mI (X)), some (mI (Y)), some (mI (g_w μ 2 (μ 14 0))), some (mI (eb)), some (mI (0 + (10 * 0))), some (mI (a + (0 + (10 * 0))))]) rfl rfl (Nat.le_of_ble_eq_true rfl) rfl ?_
                      have hk := hyes (by omega)
                      obtain ⟨w1, w2, w3, w4⟩ := ln_walk hga1 hgb1 ha1 hb1 ha2 hb2 hk
                      have hS2 : (0 + (10 * 0) : Int) = ln_s a b := by rw [hS0]; omega
                      have hlo : (if ea < eb then ea else eb) = eb := by omega
                      have h := l_areSeen (c := c) (s := s) (X := X) (Y := Y) (ea := ea) (eb := eb) (f := g_w μ 2 (μ 14 0)) (low := eb) hL ha hb hk rfl hS2 (ln_f a b - 1).toNat 0 (a + (0 + (10 * 0))) (by show a + (0 + (10 * 0) : Int) = a + ((0 : Int) + 1) * (0 + (10 * 0)); omega) (by omega) rfl
                      rw [hlo]
                      by_cases hz : g_seen μ a b (eb)
                      · rw [if_pos ⟨by omega, hz⟩]
                        rw [if_pos hz] at h
                        exact h
                      · rw [if_neg (fun z => hz z.2)]
                        rw [if_neg hz] at h
                        exact h
                    · skip
                      refine rn_iconst (k' := 67) rfl rfl ?_
                      refine rn_goto rfl ?_
                      refine rn_imul (k' := 70) rfl rfl (by omega) ?_
                      refine rn_iadd (k' := 71) rfl rfl (by omega) ?_
                      refine rn_istore (k' := 72) (L' := [some (mR 118), some (mI (a)), some (mI (ea)), some (mI (b)), some (mI (eb)), some (mI (X)), some (mI (Y)), some (mI (g_w μ 2 (μ 14 0))), some (mI (eb)), some (mI (0 + (10 * (-1)))), none]) rfl rfl (Nat.le_of_ble_eq_true rfl) rfl ?_
                      refine rn_iload_n (k' := 73) rfl rfl rfl ?_
                      refine rn_iload (k' := 74) rfl rfl rfl ?_
                      refine rn_iadd (k' := 75) rfl rfl (by omega) ?_
                      refine rn_istore (k' := 76) (L' := [some (mR 118), some (mI (a)), some (mI (ea)), some (mI (b)), some (mI (eb)), some (mI (X)), some (mI (Y)), some (mI (g_w μ 2 (μ 14 0))), some (mI (eb)), some (mI (0 + (10 * (-1)))), some (mI (a + (0 + (10 * (-1)))))]) rfl rfl (Nat.le_of_ble_eq_true rfl) rfl ?_
                      have hk := hyes (by omega)
                      obtain ⟨w1, w2, w3, w4⟩ := ln_walk hga1 hgb1 ha1 hb1 ha2 hb2 hk
                      have hS2 : (0 + (10 * (-1)) : Int) = ln_s a b := by rw [hS0]; omega
                      have hlo : (if ea < eb then ea else eb) = eb := by omega
                      have h := l_areSeen (c := c) (s := s) (X := X) (Y := Y) (ea := ea) (eb := eb) (f := g_w μ 2 (μ 14 0)) (low := eb) hL ha hb hk rfl hS2 (ln_f a b - 1).toNat 0 (a + (0 + (10 * (-1)))) (by show a + (0 + (10 * (-1)) : Int) = a + ((0 : Int) + 1) * (0 + (10 * (-1))); omega) (by omega) rfl
                      rw [hlo]
                      by_cases hz : g_seen μ a b (eb)
                      · rw [if_pos ⟨by omega, hz⟩]
                        rw [if_pos hz] at h
                        exact h
                      · rw [if_neg (fun z => hz z.2)]
                        rw [if_neg hz] at h
                        exact h
                  · skip
                    refine rn_iconst (k' := 63) rfl rfl ?_
                    refine rn_goto rfl ?_
                    refine rn_imul (k' := 70) rfl rfl (by omega) ?_
                    refine rn_iadd (k' := 71) rfl rfl (by omega) ?_
                    refine rn_istore (k' := 72) (L' := [some (mR 118), some (mI (a)), some (mI (ea)), some (mI (b)), some (mI (eb)), some (mI (X)), some (mI (Y)), some (mI (g_w μ 2 (μ 14 0))), some (mI (eb)), some (mI (0 + (10 * 1))), none]) rfl rfl (Nat.le_of_ble_eq_true rfl) rfl ?_
                    refine rn_iload_n (k' := 73) rfl rfl rfl ?_
                    refine rn_iload (k' := 74) rfl rfl rfl ?_
                    refine rn_iadd (k' := 75) rfl rfl (by omega) ?_
                    refine rn_istore (k' := 76) (L' := [some (mR 118), some (mI (a)), some (mI (ea)), some (mI (b)), some (mI (eb)), some (mI (X)), some (mI (Y)), some (mI (g_w μ 2 (μ 14 0))), some (mI (eb)), some (mI (0 + (10 * 1))), some (mI (a + (0 + (10 * 1))))]) rfl rfl (Nat.le_of_ble_eq_true rfl) rfl ?_
                    have hk := hyes (by omega)
                    obtain ⟨w1, w2, w3, w4⟩ := ln_walk hga1 hgb1 ha1 hb1 ha2 hb2 hk
                    have hS2 : (0 + (10 * 1) : Int) = ln_s a b := by rw [hS0]; omega
                    have hlo : (if ea < eb then ea else eb) = eb := by omega
                    have h := l_areSeen (c := c) (s := s) (X := X) (Y := Y) (ea := ea) (eb := eb) (f := g_w μ 2 (μ 14 0)) (low := eb) hL ha hb hk rfl hS2 (ln_f a b - 1).toNat 0 (a + (0 + (10 * 1))) (by show a + (0 + (10 * 1) : Int) = a + ((0 : Int) + 1) * (0 + (10 * 1)); omega) (by omega) rfl
                    rw [hlo]
                    by_cases hz : g_seen μ a b (eb)
                    · rw [if_pos ⟨by omega, hz⟩]
                      rw [if_pos hz] at h
                      exact h
                    · rw [if_neg (fun z => hz z.2)]
                      rw [if_neg hz] at h
                      exact h
                · skip
                  refine rn_iconst (k' := 57) rfl rfl ?_
                  refine rn_goto rfl ?_
                  refine rn_bipush (k' := 60) rfl rfl ?_
                  refine rn_iload (k' := 61) rfl rfl rfl ?_
                  refine rn_if_le (k' := 62) rfl rfl (fun hc54 => ?_) (fun hc54 => ?_)
                  · skip
                    refine rn_iload (k' := 65) rfl rfl rfl ?_
                    refine rn_if_ge (k' := 66) rfl rfl (fun hc55 => ?_) (fun hc55 => ?_)
                    · skip
                      refine rn_iconst (k' := 69) rfl rfl ?_
                      refine rn_imul (k' := 70) rfl rfl (by omega) ?_
                      refine rn_iadd (k' := 71) rfl rfl (by omega) ?_
                      refine rn_istore (k' := 72) (L' := [some (mR 118), some (mI (a)), some (mI (ea)), some (mI (b)), some (mI (eb)), some (mI (X)), some (mI (Y)), some (mI (g_w μ 2 (μ 14 0))), some (mI (eb)), some (mI ((-1) + (10 * 0))), none]) rfl rfl (Nat.le_of_ble_eq_true rfl) rfl ?_
                      refine rn_iload_n (k' := 73) rfl rfl rfl ?_
                      refine rn_iload (k' := 74) rfl rfl rfl ?_
                      refine rn_iadd (k' := 75) rfl rfl (by omega) ?_
                      refine rn_istore (k' := 76) (L' := [some (mR 118), some (mI (a)), some (mI (ea)), some (mI (b)), some (mI (eb)), some (mI (X)), some (mI (Y)), some (mI (g_w μ 2 (μ 14 0))), some (mI (eb)), some (mI ((-1) + (10 * 0))), some (mI (a + ((-1) + (10 * 0))))]) rfl rfl (Nat.le_of_ble_eq_true rfl) rfl ?_
                      have hk := hyes (by omega)
                      obtain ⟨w1, w2, w3, w4⟩ := ln_walk hga1 hgb1 ha1 hb1 ha2 hb2 hk
                      have hS2 : ((-1) + (10 * 0) : Int) = ln_s a b := by rw [hS0]; omega
                      have hlo : (if ea < eb then ea else eb) = eb := by omega
                      have h := l_areSeen (c := c) (s := s) (X := X) (Y := Y) (ea := ea) (eb := eb) (f := g_w μ 2 (μ 14 0)) (low := eb) hL ha hb hk rfl hS2 (ln_f a b - 1).toNat 0 (a + ((-1) + (10 * 0))) (by show a + ((-1) + (10 * 0) : Int) = a + ((0 : Int) + 1) * ((-1) + (10 * 0)); omega) (by omega) rfl
                      rw [hlo]
                      by_cases hz : g_seen μ a b (eb)
                      · rw [if_pos ⟨by omega, hz⟩]
                        rw [if_pos hz] at h
                        exact h
                      · rw [if_neg (fun z => hz z.2)]
                        rw [if_neg hz] at h
                        exact h
                    · skip
                      refine rn_iconst (k' := 67) rfl rfl ?_
                      refine rn_goto rfl ?_
                      refine rn_imul (k' := 70) rfl rfl (by omega) ?_
                      refine rn_iadd (k' := 71) rfl rfl (by omega) ?_
                      refine rn_istore (k' := 72) (L' := [some (mR 118), some (mI (a)), some (mI (ea)), some (mI (b)), some (mI (eb)), some (mI (X)), some (mI (Y)), some (mI (g_w μ 2 (μ 14 0))), some (mI (eb)), some (mI ((-1) + (10 * (-1)))), none]) rfl rfl (Nat.le_of_ble_eq_true rfl) rfl ?_
                      refine rn_iload_n (k' := 73) rfl rfl rfl ?_
                      refine rn_iload (k' := 74) rfl rfl rfl ?_
                      refine rn_iadd (k' := 75) rfl rfl (by omega) ?_
                      refine rn_istore (k' := 76) (L' := [some (mR 118), some (mI (a)), some (mI (ea)), some (mI (b)), some (mI (eb)), some (mI (X)), some (mI (Y)), some (mI (g_w μ 2 (μ 14 0))), some (mI (eb)), some (mI ((-1) + (10 * (-1)))), some (mI (a + ((-1) + (10 * (-1)))))]) rfl rfl (Nat.le_of_ble_eq_true rfl) rfl ?_
                      have hk := hyes (by omega)
                      obtain ⟨w1, w2, w3, w4⟩ := ln_walk hga1 hgb1 ha1 hb1 ha2 hb2 hk
                      have hS2 : ((-1) + (10 * (-1)) : Int) = ln_s a b := by rw [hS0]; omega
                      have hlo : (if ea < eb then ea else eb) = eb := by omega
                      have h := l_areSeen (c := c) (s := s) (X := X) (Y := Y) (ea := ea) (eb := eb) (f := g_w μ 2 (μ 14 0)) (low := eb) hL ha hb hk rfl hS2 (ln_f a b - 1).toNat 0 (a + ((-1) + (10 * (-1)))) (by show a + ((-1) + (10 * (-1)) : Int) = a + ((0 : Int) + 1) * ((-1) + (10 * (-1))); omega) (by omega) rfl
                      rw [hlo]
                      by_cases hz : g_seen μ a b (eb)
                      · rw [if_pos ⟨by omega, hz⟩]
                        rw [if_pos hz] at h
                        exact h
                      · rw [if_neg (fun z => hz z.2)]
                        rw [if_neg hz] at h
                        exact h
                  · skip
                    refine rn_iconst (k' := 63) rfl rfl ?_
                    refine rn_goto rfl ?_
                    refine rn_imul (k' := 70) rfl rfl (by omega) ?_
                    refine rn_iadd (k' := 71) rfl rfl (by omega) ?_
                    refine rn_istore (k' := 72) (L' := [some (mR 118), some (mI (a)), some (mI (ea)), some (mI (b)), some (mI (eb)), some (mI (X)), some (mI (Y)), some (mI (g_w μ 2 (μ 14 0))), some (mI (eb)), some (mI ((-1) + (10 * 1))), none]) rfl rfl (Nat.le_of_ble_eq_true rfl) rfl ?_
                    refine rn_iload_n (k' := 73) rfl rfl rfl ?_
                    refine rn_iload (k' := 74) rfl rfl rfl ?_
                    refine rn_iadd (k' := 75) rfl rfl (by omega) ?_
                    refine rn_istore (k' := 76) (L' := [some (mR 118), some (mI (a)), some (mI (ea)), some (mI (b)), some (mI (eb)), some (mI (X)), some (mI (Y)), some (mI (g_w μ 2 (μ 14 0))), some (mI (eb)), some (mI ((-1) + (10 * 1))), some (mI (a + ((-1) + (10 * 1))))]) rfl rfl (Nat.le_of_ble_eq_true rfl) rfl ?_
                    have hk := hyes (by omega)
                    obtain ⟨w1, w2, w3, w4⟩ := ln_walk hga1 hgb1 ha1 hb1 ha2 hb2 hk
                    have hS2 : ((-1) + (10 * 1) : Int) = ln_s a b := by rw [hS0]; omega
                    have hlo : (if ea < eb then ea else eb) = eb := by omega
                    have h := l_areSeen (c := c) (s := s) (X := X) (Y := Y) (ea := ea) (eb := eb) (f := g_w μ 2 (μ 14 0)) (low := eb) hL ha hb hk rfl hS2 (ln_f a b - 1).toNat 0 (a + ((-1) + (10 * 1))) (by show a + ((-1) + (10 * 1) : Int) = a + ((0 : Int) + 1) * ((-1) + (10 * 1)); omega) (by omega) rfl
                    rw [hlo]
                    by_cases hz : g_seen μ a b (eb)
                    · rw [if_pos ⟨by omega, hz⟩]
                      rw [if_pos hz] at h
                      exact h
                    · rw [if_neg (fun z => hz z.2)]
                      rw [if_neg hz] at h
                      exact h
              · skip
                refine rn_iconst (k' := 53) rfl rfl ?_
                refine rn_goto rfl ?_
                refine rn_bipush (k' := 60) rfl rfl ?_
                refine rn_iload (k' := 61) rfl rfl rfl ?_
                refine rn_if_le (k' := 62) rfl rfl (fun hc56 => ?_) (fun hc56 => ?_)
                · skip
                  refine rn_iload (k' := 65) rfl rfl rfl ?_
                  refine rn_if_ge (k' := 66) rfl rfl (fun hc57 => ?_) (fun hc57 => ?_)
                  · skip
                    refine rn_iconst (k' := 69) rfl rfl ?_
                    refine rn_imul (k' := 70) rfl rfl (by omega) ?_
                    refine rn_iadd (k' := 71) rfl rfl (by omega) ?_
                    refine rn_istore (k' := 72) (L' := [some (mR 118), some (mI (a)), some (mI (ea)), some (mI (b)), some (mI (eb)), some (mI (X)), some (mI (Y)), some (mI (g_w μ 2 (μ 14 0))), some (mI (eb)), some (mI (1 + (10 * 0))), none]) rfl rfl (Nat.le_of_ble_eq_true rfl) rfl ?_
                    refine rn_iload_n (k' := 73) rfl rfl rfl ?_
                    refine rn_iload (k' := 74) rfl rfl rfl ?_
                    refine rn_iadd (k' := 75) rfl rfl (by omega) ?_
                    refine rn_istore (k' := 76) (L' := [some (mR 118), some (mI (a)), some (mI (ea)), some (mI (b)), some (mI (eb)), some (mI (X)), some (mI (Y)), some (mI (g_w μ 2 (μ 14 0))), some (mI (eb)), some (mI (1 + (10 * 0))), some (mI (a + (1 + (10 * 0))))]) rfl rfl (Nat.le_of_ble_eq_true rfl) rfl ?_
                    have hk := hyes (by omega)
                    obtain ⟨w1, w2, w3, w4⟩ := ln_walk hga1 hgb1 ha1 hb1 ha2 hb2 hk
                    have hS2 : (1 + (10 * 0) : Int) = ln_s a b := by rw [hS0]; omega
                    have hlo : (if ea < eb then ea else eb) = eb := by omega
                    have h := l_areSeen (c := c) (s := s) (X := X) (Y := Y) (ea := ea) (eb := eb) (f := g_w μ 2 (μ 14 0)) (low := eb) hL ha hb hk rfl hS2 (ln_f a b - 1).toNat 0 (a + (1 + (10 * 0))) (by show a + (1 + (10 * 0) : Int) = a + ((0 : Int) + 1) * (1 + (10 * 0)); omega) (by omega) rfl
                    rw [hlo]
                    by_cases hz : g_seen μ a b (eb)
                    · rw [if_pos ⟨by omega, hz⟩]
                      rw [if_pos hz] at h
                      exact h
                    · rw [if_neg (fun z => hz z.2)]
                      rw [if_neg hz] at h
                      exact h
                  · skip
                    refine rn_iconst (k' := 67) rfl rfl ?_
                    refine rn_goto rfl ?_
                    refine rn_imul (k' := 70) rfl rfl (by omega) ?_
                    refine rn_iadd (k' := 71) rfl rfl (by omega) ?_
                    refine rn_istore (k' := 72) (L' := [some (mR 118), some (mI (a)), some (mI (ea)), some (mI (b)), some (mI (eb)), some (mI (X)), some (mI (Y)), some (mI (g_w μ 2 (μ 14 0))), some (mI (eb)), some (mI (1 + (10 * (-1)))), none]) rfl rfl (Nat.le_of_ble_eq_true rfl) rfl ?_
                    refine rn_iload_n (k' := 73) rfl rfl rfl ?_
                    refine rn_iload (k' := 74) rfl rfl rfl ?_
                    refine rn_iadd (k' := 75) rfl rfl (by omega) ?_
                    refine rn_istore (k' := 76) (L' := [some (mR 118), some (mI (a)), some (mI (ea)), some (mI (b)), some (mI (eb)), some (mI (X)), some (mI (Y)), some (mI (g_w μ 2 (μ 14 0))), some (mI (eb)), some (mI (1 + (10 * (-1)))), some (mI (a + (1 + (10 * (-1)))))]) rfl rfl (Nat.le_of_ble_eq_true rfl) rfl ?_
                    have hk := hyes (by omega)
                    obtain ⟨w1, w2, w3, w4⟩ := ln_walk hga1 hgb1 ha1 hb1 ha2 hb2 hk
                    have hS2 : (1 + (10 * (-1)) : Int) = ln_s a b := by rw [hS0]; omega
                    have hlo : (if ea < eb then ea else eb) = eb := by omega
                    have h := l_areSeen (c := c) (s := s) (X := X) (Y := Y) (ea := ea) (eb := eb) (f := g_w μ 2 (μ 14 0)) (low := eb) hL ha hb hk rfl hS2 (ln_f a b - 1).toNat 0 (a + (1 + (10 * (-1)))) (by show a + (1 + (10 * (-1)) : Int) = a + ((0 : Int) + 1) * (1 + (10 * (-1))); omega) (by omega) rfl
                    rw [hlo]
                    by_cases hz : g_seen μ a b (eb)
                    · rw [if_pos ⟨by omega, hz⟩]
                      rw [if_pos hz] at h
                      exact h
                    · rw [if_neg (fun z => hz z.2)]
                      rw [if_neg hz] at h
                      exact h
                · skip
                  refine rn_iconst (k' := 63) rfl rfl ?_
                  refine rn_goto rfl ?_
                  refine rn_imul (k' := 70) rfl rfl (by omega) ?_
                  refine rn_iadd (k' := 71) rfl rfl (by omega) ?_
                  refine rn_istore (k' := 72) (L' := [some (mR 118), some (mI (a)), some (mI (ea)), some (mI (b)), some (mI (eb)), some (mI (X)), some (mI (Y)), some (mI (g_w μ 2 (μ 14 0))), some (mI (eb)), some (mI (1 + (10 * 1))), none]) rfl rfl (Nat.le_of_ble_eq_true rfl) rfl ?_
                  refine rn_iload_n (k' := 73) rfl rfl rfl ?_
                  refine rn_iload (k' := 74) rfl rfl rfl ?_
                  refine rn_iadd (k' := 75) rfl rfl (by omega) ?_
                  refine rn_istore (k' := 76) (L' := [some (mR 118), some (mI (a)), some (mI (ea)), some (mI (b)), some (mI (eb)), some (mI (X)), some (mI (Y)), some (mI (g_w μ 2 (μ 14 0))), some (mI (eb)), some (mI (1 + (10 * 1))), some (mI (a + (1 + (10 * 1))))]) rfl rfl (Nat.le_of_ble_eq_true rfl) rfl ?_
                  have hk := hyes (by omega)
                  obtain ⟨w1, w2, w3, w4⟩ := ln_walk hga1 hgb1 ha1 hb1 ha2 hb2 hk
                  have hS2 : (1 + (10 * 1) : Int) = ln_s a b := by rw [hS0]; omega
                  have hlo : (if ea < eb then ea else eb) = eb := by omega
                  have h := l_areSeen (c := c) (s := s) (X := X) (Y := Y) (ea := ea) (eb := eb) (f := g_w μ 2 (μ 14 0)) (low := eb) hL ha hb hk rfl hS2 (ln_f a b - 1).toNat 0 (a + (1 + (10 * 1))) (by show a + (1 + (10 * 1) : Int) = a + ((0 : Int) + 1) * (1 + (10 * 1)); omega) (by omega) rfl
                  rw [hlo]
                  by_cases hz : g_seen μ a b (eb)
                  · rw [if_pos ⟨by omega, hz⟩]
                    rw [if_pos hz] at h
                    exact h
                  · rw [if_neg (fun z => hz z.2)]
                    rw [if_neg hz] at h
                    exact h
            · skip
              refine rn_iconst (k' := 49) rfl rfl ?_
              refine rn_iret rfl (Or.inr (by omega)) ?_
              first | rw [if_neg (hno (by omega))] | rw [if_neg (fun z => by have := z.1; omega)]
          · skip
            refine rn_iload_n (k' := 42) rfl rfl rfl ?_
            refine rn_goto rfl ?_
            refine rn_istore (k' := 45) (L' := [some (mR 118), some (mI (a)), some (mI (ea)), some (mI (b)), some (mI (eb)), some (mI (X)), some (mI (Y)), some (mI (g_w μ 2 (μ 14 0))), some (mI (ea)), none, none]) rfl rfl (Nat.le_of_ble_eq_true rfl) rfl ?_
            refine rn_iload (k' := 46) rfl rfl rfl ?_
            refine rn_iload (k' := 47) rfl rfl rfl ?_
            refine rn_icmp_gt (k' := 48) rfl rfl (fun hc58 => ?_) (fun hc58 => ?_)
            · skip
              refine rn_iload (k' := 51) rfl rfl rfl ?_
              refine rn_if_le (k' := 52) rfl rfl (fun hc59 => ?_) (fun hc59 => ?_)
              · skip
                refine rn_iload (k' := 55) rfl rfl rfl ?_
                refine rn_if_ge (k' := 56) rfl rfl (fun hc60 => ?_) (fun hc60 => ?_)
                · skip
                  refine rn_iconst (k' := 59) rfl rfl ?_
                  refine rn_bipush (k' := 60) rfl rfl ?_
                  refine rn_iload (k' := 61) rfl rfl rfl ?_
                  refine rn_if_le (k' := 62) rfl rfl (fun hc61 => ?_) (fun hc61 => ?_)
                  · skip
                    refine rn_iload (k' := 65) rfl rfl rfl ?_
                    refine rn_if_ge (k' := 66) rfl rfl (fun hc62 => ?_) (fun hc62 => ?_)
                    · skip
                      refine rn_iconst (k' := 69) rfl rfl ?_
                      refine rn_imul (k' := 70) rfl rfl (by omega) ?_
                      refine rn_iadd (k' := 71) rfl rfl (by omega) ?_
                      refine rn_istore (k' := 72) (L' := [some (mR 118), some (mI (a)), some (mI (ea)), some (mI (b)), some (mI (eb)), some (mI (X)), some (mI (Y)), some (mI (g_w μ 2 (μ 14 0))), some (mI (ea)), some (mI (0 + (10 * 0))), none]) rfl rfl (Nat.le_of_ble_eq_true rfl) rfl ?_
                      refine rn_iload_n (k' := 73) rfl rfl rfl ?_
                      refine rn_iload (k' := 74) rfl rfl rfl ?_
                      refine rn_iadd (k' := 75) rfl rfl (by omega) ?_
                      refine rn_istore (k' := 76) (L' := [some (mR 118), some (mI (a)), some (mI (ea)), some (mI (b)), some (mI (eb)), some (mI (X)), some (mI (Y)), some (mI (g_w μ 2 (μ 14 0))), some (mI (ea)), some (mI (0 + (10 * 0))), some (mI (a + (0 + (10 * 0))))]) rfl rfl (Nat.le_of_ble_eq_true rfl) rfl ?_
                      have hk := hyes (by omega)
                      obtain ⟨w1, w2, w3, w4⟩ := ln_walk hga1 hgb1 ha1 hb1 ha2 hb2 hk
                      have hS2 : (0 + (10 * 0) : Int) = ln_s a b := by rw [hS0]; omega
                      have hlo : (if ea < eb then ea else eb) = ea := by omega
                      have h := l_areSeen (c := c) (s := s) (X := X) (Y := Y) (ea := ea) (eb := eb) (f := g_w μ 2 (μ 14 0)) (low := ea) hL ha hb hk rfl hS2 (ln_f a b - 1).toNat 0 (a + (0 + (10 * 0))) (by show a + (0 + (10 * 0) : Int) = a + ((0 : Int) + 1) * (0 + (10 * 0)); omega) (by omega) rfl
                      rw [hlo]
                      by_cases hz : g_seen μ a b (ea)
                      · rw [if_pos ⟨by omega, hz⟩]
                        rw [if_pos hz] at h
                        exact h
                      · rw [if_neg (fun z => hz z.2)]
                        rw [if_neg hz] at h
                        exact h
                    · skip
                      refine rn_iconst (k' := 67) rfl rfl ?_
                      refine rn_goto rfl ?_
                      refine rn_imul (k' := 70) rfl rfl (by omega) ?_
                      refine rn_iadd (k' := 71) rfl rfl (by omega) ?_
                      refine rn_istore (k' := 72) (L' := [some (mR 118), some (mI (a)), some (mI (ea)), some (mI (b)), some (mI (eb)), some (mI (X)), some (mI (Y)), some (mI (g_w μ 2 (μ 14 0))), some (mI (ea)), some (mI (0 + (10 * (-1)))), none]) rfl rfl (Nat.le_of_ble_eq_true rfl) rfl ?_
                      refine rn_iload_n (k' := 73) rfl rfl rfl ?_
                      refine rn_iload (k' := 74) rfl rfl rfl ?_
                      refine rn_iadd (k' := 75) rfl rfl (by omega) ?_
                      refine rn_istore (k' := 76) (L' := [some (mR 118), some (mI (a)), some (mI (ea)), some (mI (b)), some (mI (eb)), some (mI (X)), some (mI (Y)), some (mI (g_w μ 2 (μ 14 0))), some (mI (ea)), some (mI (0 + (10 * (-1)))), some (mI (a + (0 + (10 * (-1)))))]) rfl rfl (Nat.le_of_ble_eq_true rfl) rfl ?_
                      have hk := hyes (by omega)
                      obtain ⟨w1, w2, w3, w4⟩ := ln_walk hga1 hgb1 ha1 hb1 ha2 hb2 hk
                      have hS2 : (0 + (10 * (-1)) : Int) = ln_s a b := by rw [hS0]; omega
                      have hlo : (if ea < eb then ea else eb) = ea := by omega
                      have h := l_areSeen (c := c) (s := s) (X := X) (Y := Y) (ea := ea) (eb := eb) (f := g_w μ 2 (μ 14 0)) (low := ea) hL ha hb hk rfl hS2 (ln_f a b - 1).toNat 0 (a + (0 + (10 * (-1)))) (by show a + (0 + (10 * (-1)) : Int) = a + ((0 : Int) + 1) * (0 + (10 * (-1))); omega) (by omega) rfl
                      rw [hlo]
                      by_cases hz : g_seen μ a b (ea)
                      · rw [if_pos ⟨by omega, hz⟩]
                        rw [if_pos hz] at h
                        exact h
                      · rw [if_neg (fun z => hz z.2)]
                        rw [if_neg hz] at h
                        exact h
                  · skip
                    refine rn_iconst (k' := 63) rfl rfl ?_
                    refine rn_goto rfl ?_
                    refine rn_imul (k' := 70) rfl rfl (by omega) ?_
                    refine rn_iadd (k' := 71) rfl rfl (by omega) ?_
                    refine rn_istore (k' := 72) (L' := [some (mR 118), some (mI (a)), some (mI (ea)), some (mI (b)), some (mI (eb)), some (mI (X)), some (mI (Y)), some (mI (g_w μ 2 (μ 14 0))), some (mI (ea)), some (mI (0 + (10 * 1))), none]) rfl rfl (Nat.le_of_ble_eq_true rfl) rfl ?_
                    refine rn_iload_n (k' := 73) rfl rfl rfl ?_
                    refine rn_iload (k' := 74) rfl rfl rfl ?_
                    refine rn_iadd (k' := 75) rfl rfl (by omega) ?_
                    refine rn_istore (k' := 76) (L' := [some (mR 118), some (mI (a)), some (mI (ea)), some (mI (b)), some (mI (eb)), some (mI (X)), some (mI (Y)), some (mI (g_w μ 2 (μ 14 0))), some (mI (ea)), some (mI (0 + (10 * 1))), some (mI (a + (0 + (10 * 1))))]) rfl rfl (Nat.le_of_ble_eq_true rfl) rfl ?_
                    have hk := hyes (by omega)
                    obtain ⟨w1, w2, w3, w4⟩ := ln_walk hga1 hgb1 ha1 hb1 ha2 hb2 hk
                    have hS2 : (0 + (10 * 1) : Int) = ln_s a b := by rw [hS0]; omega
                    have hlo : (if ea < eb then ea else eb) = ea := by omega
                    have h := l_areSeen (c := c) (s := s) (X := X) (Y := Y) (ea := ea) (eb := eb) (f := g_w μ 2 (μ 14 0)) (low := ea) hL ha hb hk rfl hS2 (ln_f a b - 1).toNat 0 (a + (0 + (10 * 1))) (by show a + (0 + (10 * 1) : Int) = a + ((0 : Int) + 1) * (0 + (10 * 1)); omega) (by omega) rfl
                    rw [hlo]
                    by_cases hz : g_seen μ a b (ea)
                    · rw [if_pos ⟨by omega, hz⟩]
                      rw [if_pos hz] at h
                      exact h
                    · rw [if_neg (fun z => hz z.2)]
                      rw [if_neg hz] at h
                      exact h
                · skip
                  refine rn_iconst (k' := 57) rfl rfl ?_
                  refine rn_goto rfl ?_
                  refine rn_bipush (k' := 60) rfl rfl ?_
                  refine rn_iload (k' := 61) rfl rfl rfl ?_
                  refine rn_if_le (k' := 62) rfl rfl (fun hc63 => ?_) (fun hc63 => ?_)
                  · skip
                    refine rn_iload (k' := 65) rfl rfl rfl ?_
                    refine rn_if_ge (k' := 66) rfl rfl (fun hc64 => ?_) (fun hc64 => ?_)
                    · skip
                      refine rn_iconst (k' := 69) rfl rfl ?_
                      refine rn_imul (k' := 70) rfl rfl (by omega) ?_
                      refine rn_iadd (k' := 71) rfl rfl (by omega) ?_
                      refine rn_istore (k' := 72) (L' := [some (mR 118), some (mI (a)), some (mI (ea)), some (mI (b)), some (mI (eb)), some (mI (X)), some (mI (Y)), some (mI (g_w μ 2 (μ 14 0))), some (mI (ea)), some (mI ((-1) + (10 * 0))), none]) rfl rfl (Nat.le_of_ble_eq_true rfl) rfl ?_
                      refine rn_iload_n (k' := 73) rfl rfl rfl ?_
                      refine rn_iload (k' := 74) rfl rfl rfl ?_
                      refine rn_iadd (k' := 75) rfl rfl (by omega) ?_
                      refine rn_istore (k' := 76) (L' := [some (mR 118), some (mI (a)), some (mI (ea)), some (mI (b)), some (mI (eb)), some (mI (X)), some (mI (Y)), some (mI (g_w μ 2 (μ 14 0))), some (mI (ea)), some (mI ((-1) + (10 * 0))), some (mI (a + ((-1) + (10 * 0))))]) rfl rfl (Nat.le_of_ble_eq_true rfl) rfl ?_
                      have hk := hyes (by omega)
                      obtain ⟨w1, w2, w3, w4⟩ := ln_walk hga1 hgb1 ha1 hb1 ha2 hb2 hk
                      have hS2 : ((-1) + (10 * 0) : Int) = ln_s a b := by rw [hS0]; omega
                      have hlo : (if ea < eb then ea else eb) = ea := by omega
                      have h := l_areSeen (c := c) (s := s) (X := X) (Y := Y) (ea := ea) (eb := eb) (f := g_w μ 2 (μ 14 0)) (low := ea) hL ha hb hk rfl hS2 (ln_f a b - 1).toNat 0 (a + ((-1) + (10 * 0))) (by show a + ((-1) + (10 * 0) : Int) = a + ((0 : Int) + 1) * ((-1) + (10 * 0)); omega) (by omega) rfl
                      rw [hlo]
                      by_cases hz : g_seen μ a b (ea)
                      · rw [if_pos ⟨by omega, hz⟩]
                        rw [if_pos hz] at h
                        exact h
                      · rw [if_neg (fun z => hz z.2)]
                        rw [if_neg hz] at h
                        exact h
                    · skip
                      refine rn_iconst (k' := 67) rfl rfl ?_
                      refine rn_goto rfl ?_
                      refine rn_imul (k' := 70) rfl rfl (by omega) ?_
                      refine rn_iadd (k' := 71) rfl rfl (by omega) ?_
                      refine rn_istore (k' := 72) (L' := [some (mR 118), some (mI (a)), some (mI (ea)), some (mI (b)), some (mI (eb)), some (mI (X)), some (mI (Y)), some (mI (g_w μ 2 (μ 14 0))), some (mI (ea)), some (mI ((-1) + (10 * (-1)))), none]) rfl rfl (Nat.le_of_ble_eq_true rfl) rfl ?_
                      refine rn_iload_n (k' := 73) rfl rfl rfl ?_
                      refine rn_iload (k' := 74) rfl rfl rfl ?_
                      refine rn_iadd (k' := 75) rfl rfl (by omega) ?_
                      refine rn_istore (k' := 76) (L' := [some (mR 118), some (mI (a)), some (mI (ea)), some (mI (b)), some (mI (eb)), some (mI (X)), some (mI (Y)), some (mI (g_w μ 2 (μ 14 0))), some (mI (ea)), some (mI ((-1) + (10 * (-1)))), some (mI (a + ((-1) + (10 * (-1)))))]) rfl rfl (Nat.le_of_ble_eq_true rfl) rfl ?_
                      have hk := hyes (by omega)
                      obtain ⟨w1, w2, w3, w4⟩ := ln_walk hga1 hgb1 ha1 hb1 ha2 hb2 hk
                      have hS2 : ((-1) + (10 * (-1)) : Int) = ln_s a b := by rw [hS0]; omega
                      have hlo : (if ea < eb then ea else eb) = ea := by omega
                      have h := l_areSeen (c := c) (s := s) (X := X) (Y := Y) (ea := ea) (eb := eb) (f := g_w μ 2 (μ 14 0)) (low := ea) hL ha hb hk rfl hS2 (ln_f a b - 1).toNat 0 (a + ((-1) + (10 * (-1)))) (by show a + ((-1) + (10 * (-1)) : Int) = a + ((0 : Int) + 1) * ((-1) + (10 * (-1))); omega) (by omega) rfl
                      rw [hlo]
                      by_cases hz : g_seen μ a b (ea)
                      · rw [if_pos ⟨by omega, hz⟩]
                        rw [if_pos hz] at h
                        exact h
                      · rw [if_neg (fun z => hz z.2)]
                        rw [if_neg hz] at h
                        exact h
                  · skip
                    refine rn_iconst (k' := 63) rfl rfl ?_
                    refine rn_goto rfl ?_
                    refine rn_imul (k' := 70) rfl rfl (by omega) ?_
                    refine rn_iadd (k' := 71) rfl rfl (by omega) ?_
                    refine rn_istore (k' := 72) (L' := [some (mR 118), some (mI (a)), some (mI (ea)), some (mI (b)), some (mI (eb)), some (mI (X)), some (mI (Y)), some (mI (g_w μ 2 (μ 14 0))), some (mI (ea)), some (mI ((-1) + (10 * 1))), none]) rfl rfl (Nat.le_of_ble_eq_true rfl) rfl ?_
                    refine rn_iload_n (k' := 73) rfl rfl rfl ?_
                    refine rn_iload (k' := 74) rfl rfl rfl ?_
                    refine rn_iadd (k' := 75) rfl rfl (by omega) ?_
                    refine rn_istore (k' := 76) (L' := [some (mR 118), some (mI (a)), some (mI (ea)), some (mI (b)), some (mI (eb)), some (mI (X)), some (mI (Y)), some (mI (g_w μ 2 (μ 14 0))), some (mI (ea)), some (mI ((-1) + (10 * 1))), some (mI (a + ((-1) + (10 * 1))))]) rfl rfl (Nat.le_of_ble_eq_true rfl) rfl ?_
                    have hk := hyes (by omega)
                    obtain ⟨w1, w2, w3, w4⟩ := ln_walk hga1 hgb1 ha1 hb1 ha2 hb2 hk
                    have hS2 : ((-1) + (10 * 1) : Int) = ln_s a b := by rw [hS0]; omega
                    have hlo : (if ea < eb then ea else eb) = ea := by omega
                    have h := l_areSeen (c := c) (s := s) (X := X) (Y := Y) (ea := ea) (eb := eb) (f := g_w μ 2 (μ 14 0)) (low := ea) hL ha hb hk rfl hS2 (ln_f a b - 1).toNat 0 (a + ((-1) + (10 * 1))) (by show a + ((-1) + (10 * 1) : Int) = a + ((0 : Int) + 1) * ((-1) + (10 * 1)); omega) (by omega) rfl
                    rw [hlo]
                    by_cases hz : g_seen μ a b (ea)
                    · rw [if_pos ⟨by omega, hz⟩]
                      rw [if_pos hz] at h
                      exact h
                    · rw [if_neg (fun z => hz z.2)]
                      rw [if_neg hz] at h
                      exact h
              · skip
                refine rn_iconst (k' := 53) rfl rfl ?_
                refine rn_goto rfl ?_
                refine rn_bipush (k' := 60) rfl rfl ?_
                refine rn_iload (k' := 61) rfl rfl rfl ?_
                refine rn_if_le (k' := 62) rfl rfl (fun hc65 => ?_) (fun hc65 => ?_)
                · skip
                  refine rn_iload (k' := 65) rfl rfl rfl ?_
                  refine rn_if_ge (k' := 66) rfl rfl (fun hc66 => ?_) (fun hc66 => ?_)
                  · skip
                    refine rn_iconst (k' := 69) rfl rfl ?_
                    refine rn_imul (k' := 70) rfl rfl (by omega) ?_
                    refine rn_iadd (k' := 71) rfl rfl (by omega) ?_
                    refine rn_istore (k' := 72) (L' := [some (mR 118), some (mI (a)), some (mI (ea)), some (mI (b)), some (mI (eb)), some (mI (X)), some (mI (Y)), some (mI (g_w μ 2 (μ 14 0))), some (mI (ea)), some (mI (1 + (10 * 0))), none]) rfl rfl (Nat.le_of_ble_eq_true rfl) rfl ?_
                    refine rn_iload_n (k' := 73) rfl rfl rfl ?_
                    refine rn_iload (k' := 74) rfl rfl rfl ?_
                    refine rn_iadd (k' := 75) rfl rfl (by omega) ?_
                    refine rn_istore (k' := 76) (L' := [some (mR 118), some (mI (a)), some (mI (ea)), some (mI (b)), some (mI (eb)), some (mI (X)), some (mI (Y)), some (mI (g_w μ 2 (μ 14 0))), some (mI (ea)), some (mI (1 + (10 * 0))), some (mI (a + (1 + (10 * 0))))]) rfl rfl (Nat.le_of_ble_eq_true rfl) rfl ?_
                    have hk := hyes (by omega)
                    obtain ⟨w1, w2, w3, w4⟩ := ln_walk hga1 hgb1 ha1 hb1 ha2 hb2 hk
                    have hS2 : (1 + (10 * 0) : Int) = ln_s a b := by rw [hS0]; omega
                    have hlo : (if ea < eb then ea else eb) = ea := by omega
                    have h := l_areSeen (c := c) (s := s) (X := X) (Y := Y) (ea := ea) (eb := eb) (f := g_w μ 2 (μ 14 0)) (low := ea) hL ha hb hk rfl hS2 (ln_f a b - 1).toNat 0 (a + (1 + (10 * 0))) (by show a + (1 + (10 * 0) : Int) = a + ((0 : Int) + 1) * (1 + (10 * 0)); omega) (by omega) rfl
                    rw [hlo]
                    by_cases hz : g_seen μ a b (ea)
                    · rw [if_pos ⟨by omega, hz⟩]
                      rw [if_pos hz] at h
                      exact h
                    · rw [if_neg (fun z => hz z.2)]
                      rw [if_neg hz] at h
                      exact h
                  · skip
                    refine rn_iconst (k' := 67) rfl rfl ?_
                    refine rn_goto rfl ?_
                    refine rn_imul (k' := 70) rfl rfl (by omega) ?_
                    refine rn_iadd (k' := 71) rfl rfl (by omega) ?_
                    refine rn_istore (k' := 72) (L' := [some (mR 118), some (mI (a)), some (mI (ea)), some (mI (b)), some (mI (eb)), some (mI (X)), some (mI (Y)), some (mI (g_w μ 2 (μ 14 0))), some (mI (ea)), some (mI (1 + (10 * (-1)))), none]) rfl rfl (Nat.le_of_ble_eq_true rfl) rfl ?_
                    refine rn_iload_n (k' := 73) rfl rfl rfl ?_
                    refine rn_iload (k' := 74) rfl rfl rfl ?_
                    refine rn_iadd (k' := 75) rfl rfl (by omega) ?_
                    refine rn_istore (k' := 76) (L' := [some (mR 118), some (mI (a)), some (mI (ea)), some (mI (b)), some (mI (eb)), some (mI (X)), some (mI (Y)), some (mI (g_w μ 2 (μ 14 0))), some (mI (ea)), some (mI (1 + (10 * (-1)))), some (mI (a + (1 + (10 * (-1)))))]) rfl rfl (Nat.le_of_ble_eq_true rfl) rfl ?_
                    have hk := hyes (by omega)
                    obtain ⟨w1, w2, w3, w4⟩ := ln_walk hga1 hgb1 ha1 hb1 ha2 hb2 hk
                    have hS2 : (1 + (10 * (-1)) : Int) = ln_s a b := by rw [hS0]; omega
                    have hlo : (if ea < eb then ea else eb) = ea := by omega
                    have h := l_areSeen (c := c) (s := s) (X := X) (Y := Y) (ea := ea) (eb := eb) (f := g_w μ 2 (μ 14 0)) (low := ea) hL ha hb hk rfl hS2 (ln_f a b - 1).toNat 0 (a + (1 + (10 * (-1)))) (by show a + (1 + (10 * (-1)) : Int) = a + ((0 : Int) + 1) * (1 + (10 * (-1))); omega) (by omega) rfl
                    rw [hlo]
                    by_cases hz : g_seen μ a b (ea)
                    · rw [if_pos ⟨by omega, hz⟩]
                      rw [if_pos hz] at h
                      exact h
                    · rw [if_neg (fun z => hz z.2)]
                      rw [if_neg hz] at h
                      exact h
                · skip
                  refine rn_iconst (k' := 63) rfl rfl ?_
                  refine rn_goto rfl ?_
                  refine rn_imul (k' := 70) rfl rfl (by omega) ?_
                  refine rn_iadd (k' := 71) rfl rfl (by omega) ?_
                  refine rn_istore (k' := 72) (L' := [some (mR 118), some (mI (a)), some (mI (ea)), some (mI (b)), some (mI (eb)), some (mI (X)), some (mI (Y)), some (mI (g_w μ 2 (μ 14 0))), some (mI (ea)), some (mI (1 + (10 * 1))), none]) rfl rfl (Nat.le_of_ble_eq_true rfl) rfl ?_
                  refine rn_iload_n (k' := 73) rfl rfl rfl ?_
                  refine rn_iload (k' := 74) rfl rfl rfl ?_
                  refine rn_iadd (k' := 75) rfl rfl (by omega) ?_
                  refine rn_istore (k' := 76) (L' := [some (mR 118), some (mI (a)), some (mI (ea)), some (mI (b)), some (mI (eb)), some (mI (X)), some (mI (Y)), some (mI (g_w μ 2 (μ 14 0))), some (mI (ea)), some (mI (1 + (10 * 1))), some (mI (a + (1 + (10 * 1))))]) rfl rfl (Nat.le_of_ble_eq_true rfl) rfl ?_
                  have hk := hyes (by omega)
                  obtain ⟨w1, w2, w3, w4⟩ := ln_walk hga1 hgb1 ha1 hb1 ha2 hb2 hk
                  have hS2 : (1 + (10 * 1) : Int) = ln_s a b := by rw [hS0]; omega
                  have hlo : (if ea < eb then ea else eb) = ea := by omega
                  have h := l_areSeen (c := c) (s := s) (X := X) (Y := Y) (ea := ea) (eb := eb) (f := g_w μ 2 (μ 14 0)) (low := ea) hL ha hb hk rfl hS2 (ln_f a b - 1).toNat 0 (a + (1 + (10 * 1))) (by show a + (1 + (10 * 1) : Int) = a + ((0 : Int) + 1) * (1 + (10 * 1)); omega) (by omega) rfl
                  rw [hlo]
                  by_cases hz : g_seen μ a b (ea)
                  · rw [if_pos ⟨by omega, hz⟩]
                    rw [if_pos hz] at h
                    exact h
                  · rw [if_neg (fun z => hz z.2)]
                    rw [if_neg hz] at h
                    exact h
            · skip
              refine rn_iconst (k' := 49) rfl rfl ?_
              refine rn_iret rfl (Or.inr (by omega)) ?_
              first | rw [if_neg (hno (by omega))] | rw [if_neg (fun z => by have := z.1; omega)]
        · skip
          refine rn_iconst (k' := 29) rfl rfl ?_
          refine rn_iret rfl (Or.inr (by omega)) ?_
          first | rw [if_neg (hno (by omega))] | rw [if_neg (fun z => by have := z.1; omega)]
set_option maxHeartbeats 2000000 in
theorem c_X12_areSeen {μ : Nat → Nat → Int} {c s : Nat} (hL : I_land μ) (hS : I_scene μ) {a b ea eb : Int} (ha : g_cell μ a) (hb : g_cell μ b) (hea : -1000 ≤ ea ∧ ea ≤ 1000) (heb : -1000 ≤ eb ∧ eb ≤ 1000) : Cl PT 228 [mR 118, mI a, mI ea, mI b, mI eb] (mkh μ c s) (fun r => r = (some (some (mI (if g_w μ 2 (μ 14 0) < (if ea < eb then ea else eb) ∧ g_seen μ a b (if ea < eb then ea else eb) then 1 else 0))), mkh (μ) c s)) := by
  have hL_ := hL
  obtain ⟨lc, lr, le, lm, lw, lh, lwo, lwd, q0, q1, q2, q3, q4, q8, q499, q500, lth, lG, lT, lW, -⟩ := hL_
  have hga1 := g_cell_b hL ha
  have hgb1 := g_cell_b hL hb
  have e1 := td10 hga1.1
  have e2 := td10 hgb1.1
  have ha_ := ha
  have hb_ := hb
  obtain ⟨-, ha1, ha2⟩ := ha_
  obtain ⟨-, hb1, hb2⟩ := hb_
  rw [e1.2] at ha1
  rw [e1.1] at ha2
  rw [e2.2] at hb1
  rw [e2.1] at hb2
  refine ⟨_, PT_228, Nat.le_of_ble_eq_true rfl, ?_⟩
  show Rn PT none kX12_areSeen 0 [some (mR 118), some (mI (a)), some (mI (ea)), some (mI (b)), some (mI (eb)), none, none, none, none, none, none] [] (mkh μ c s) _
  refine rn_iload_n (k' := 1) rfl rfl rfl ?_
  refine rn_bipush (k' := 2) rfl rfl ?_
  refine rn_irem (k' := 3) rfl rfl (by omega) ?_
  refine rn_iload_n (k' := 4) rfl rfl rfl ?_
  refine rn_bipush (k' := 5) rfl rfl ?_
  refine rn_irem (k' := 6) rfl rfl (by omega) ?_
  refine rn_isub (k' := 7) rfl rfl (by omega) ?_
  refine rn_istore (k' := 8) (L' := [some (mR 118), some (mI (a)), some (mI (ea)), some (mI (b)), some (mI (eb)), some (mI (((b).tmod (10)) - ((a).tmod (10)))), none, none, none, none, none]) rfl rfl (Nat.le_of_ble_eq_true rfl) rfl ?_
  refine rn_iload_n (k' := 9) rfl rfl rfl ?_
  refine rn_bipush (k' := 10) rfl rfl ?_
  refine rn_idiv (k' := 11) rfl rfl (by omega) (tdiv_rng (by omega) (by omega)) ?_
  refine rn_iload_n (k' := 12) rfl rfl rfl ?_
  refine rn_bipush (k' := 13) rfl rfl ?_
  refine rn_idiv (k' := 14) rfl rfl (by omega) (tdiv_rng (by omega) (by omega)) ?_
  refine rn_isub (k' := 15) rfl rfl (by omega) ?_
  refine rn_istore (k' := 16) (L' := [some (mR 118), some (mI (a)), some (mI (ea)), some (mI (b)), some (mI (eb)), some (mI (((b).tmod (10)) - ((a).tmod (10)))), some (mI (((b).tdiv (10)) - ((a).tdiv (10)))), none, none, none, none]) rfl rfl (Nat.le_of_ble_eq_true rfl) rfl ?_
  exact l_areSeen_a hL hS ha hb hea heb rfl rfl
