variable {N : Int}
/-! ===== printed by wip/whole/gen84.py: pair: holes ===== -/
/-- 1 if all below n -/
def aL (p : Nat → Prop) [DecidablePred p] : Nat → Int
  | 0 => 1
  | n + 1 => if aL p n = 1 ∧ p n then 1 else 0
theorem aL_iff {p : Nat → Prop} [DecidablePred p] : ∀ n, aL p n = 1 ↔ ∀ j, j < n → p j
  | 0 => ⟨fun _ j hj => by omega, fun _ => rfl⟩
  | n + 1 => by
    have ih := aL_iff (p := p) n
    have e : aL p (n + 1) = if aL p n = 1 ∧ p n then 1 else 0 := rfl
    constructor
    · intro h j hj
      rw [e] at h
      by_cases c : aL p n = 1 ∧ p n
      · by_cases ej : j = n
        · rw [ej]; exact c.2
        · exact ih.mp c.1 j (by omega)
      · rw [if_neg c] at h; exact absurd h (by decide)
    · intro h
      rw [e, if_pos ⟨ih.mpr (fun j hj => h j (by omega)), h n (by omega)⟩]
theorem aL_01 {p : Nat → Prop} [DecidablePred p] : ∀ n, aL p n = 0 ∨ aL p n = 1
  | 0 => Or.inr rfl
  | n + 1 => by
    show (if _ then (1 : Int) else 0) = 0 ∨ (if _ then (1 : Int) else 0) = 1
    split
    · exact Or.inr rfl
    · exact Or.inl rfl
theorem aL_no {p : Nat → Prop} [DecidablePred p] {n m : Nat} (h : ¬ p n) (hm : n < m) : aL p m = 0 := by
  rcases aL_01 (p := p) m with z | z
  · exact z
  · exact absurd ((aL_iff m).mp z n hm) h
theorem aL_congr {p r : Nat → Prop} [DecidablePred p] [DecidablePred r] : ∀ n, (∀ j, j < n → (p j ↔ r j)) → aL p n = aL r n
  | 0, _ => rfl
  | n + 1, h => by
    show (if aL p n = 1 ∧ p n then (1 : Int) else 0) = (if aL r n = 1 ∧ r n then 1 else 0)
    rw [aL_congr n (fun j hj => h j (by omega))]
    by_cases c : aL r n = 1 ∧ r n
    · rw [if_pos c, if_pos ⟨c.1, (h n (by omega)).mpr c.2⟩]
    · rw [if_neg c, if_neg (fun z => c ⟨z.1, (h n (by omega)).mp z.2⟩)]
abbrev hoc (μ : Nat → Nat → Int) (n : Nat) : Prop := μ 2 (3 * n) < μ 6 8 ∧ μ 2 (3 * n + 1) < μ 6 9
abbrev hat (μ : Nat → Nat → Int) (n : Nat) : Int := 10 * μ 2 (3 * n + 1) + μ 2 (3 * n)
abbrev hol (μ : Nat → Nat → Int) (a t : Int) : Int := t.tdiv 5 + 3 + (if μ 8 (100 + a).toNat = -1 then 0 else (μ 8 (100 + a).toNat).tdiv 2)
abbrev hok (μ : Nat → Nat → Int) (t : Int) (n : Nat) : Prop := g_stand μ (hat μ n) t (g_w μ 0 (μ 14 0)) ∧ μ 2 (3 * n + 2) = hol μ (hat μ n) t
theorem hat_cell {μ : Nat → Nat → Int} (hL : I_land μ) {n : Nat} (hb : ∀ j, 0 ≤ μ 2 j ∧ μ 2 j ≤ 255) (h : hoc μ n) : g_cell μ (hat μ n) := by
  have b1 := hb (3 * n)
  have b2 := hb (3 * n + 1)
  have lc := hL.1
  obtain ⟨h1, h2⟩ := h
  have e := td10 (show 0 ≤ hat μ n by unfold hat; omega)
  refine ⟨by unfold hat; omega, ?_, ?_⟩
  · rw [e.2]; unfold hat; omega
  · rw [e.1]; unfold hat; omega
set_option maxHeartbeats 4000000 in
theorem l_onCells {μ : Nat → Nat → Int} {c s : Nat} (hb : ∀ j, 0 ≤ μ 2 j ∧ μ 2 j ≤ 255) {m : Nat} (hm : μ 1 1 = 3 * (m : Int)) (hm4 : m ≤ 40) : ∀ (d n : Nat) (k : Int), k = 3 * (n : Int) → n + d = m → (∀ j, j < n → hoc μ j) → Rn PT none kX11_holesAreOnCells 2 [some (mR 0), some (mI k)] [] (mkh μ c s) (fun r => r = (some (some (mI (aL (fun n => hoc μ n) m))), mkh μ c s)) := by
  intro d
  induction d with
  | zero =>
    intro n k ek hn hall
    subst ek
    have x0 : (3 * (n : Int)).toNat = 3 * n := by omega
    have x1 : ((3 * (n : Int)) + 1).toNat = 3 * n + 1 := by omega
    have x2 : ((3 * (n : Int)) + 2).toNat = 3 * n + 2 := by omega
    have y0 : μ 2 (3 * (n : Int)).toNat = μ 2 (3 * n) := by rw [x0]
    have y1 : μ 2 ((3 * (n : Int)) + 1).toNat = μ 2 (3 * n + 1) := by rw [x1]
    have y2 : μ 2 ((3 * (n : Int)) + 2).toNat = μ 2 (3 * n + 2) := by rw [x2]
    have z0 := hb (3 * n)
    have z1 := hb (3 * n + 1)
    have z2 := hb (3 * n + 2)
    refine rn_iload_n (k' := 3) rfl rfl rfl ?_
    refine rn_iconst (k' := 4) rfl rfl ?_
    refine rn_iadd (k' := 5) rfl rfl (by omega) ?_
    refine rn_aload_n (k' := 6) rfl rfl rfl ?_
    refine rn_getR (k' := 7) rfl rfl K0_0 (by decide) rfl R0_0_0 ?_
    refine rn_getI (k' := 8) rfl rfl K0_1 (by decide) rfl ?_
    refine rn_icmp_ge (k' := 9) rfl rfl (fun hc1 => ?_) (fun hc1 => ?_)
    · skip
      refine rn_iconst (k' := 34) rfl rfl ?_
      refine rn_iret rfl (Or.inr (by omega)) ?_
      rw [(aL_iff (p := (fun n => hoc μ n)) m).mpr (fun j hj => hall j (by omega))]
    · exfalso; omega
  | succ d ih =>
    intro n k ek hn hall
    subst ek
    have x0 : (3 * (n : Int)).toNat = 3 * n := by omega
    have x1 : ((3 * (n : Int)) + 1).toNat = 3 * n + 1 := by omega
    have x2 : ((3 * (n : Int)) + 2).toNat = 3 * n + 2 := by omega
    have y0 : μ 2 (3 * (n : Int)).toNat = μ 2 (3 * n) := by rw [x0]
    have y1 : μ 2 ((3 * (n : Int)) + 1).toNat = μ 2 (3 * n + 1) := by rw [x1]
    have y2 : μ 2 ((3 * (n : Int)) + 2).toNat = μ 2 (3 * n + 2) := by rw [x2]
    have z0 := hb (3 * n)
    have z1 := hb (3 * n + 1)
    have z2 := hb (3 * n + 2)
    refine rn_iload_n (k' := 3) rfl rfl rfl ?_
    refine rn_iconst (k' := 4) rfl rfl ?_
    refine rn_iadd (k' := 5) rfl rfl (by omega) ?_
    refine rn_aload_n (k' := 6) rfl rfl rfl ?_
    refine rn_getR (k' := 7) rfl rfl K0_0 (by decide) rfl R0_0_0 ?_
    refine rn_getI (k' := 8) rfl rfl K0_1 (by decide) rfl ?_
    refine rn_icmp_ge (k' := 9) rfl rfl (fun hc1 => ?_) (fun hc1 => ?_)
    · exfalso; omega
    · skip
      refine rn_aload_n (k' := 10) rfl rfl rfl ?_
      refine rn_getR (k' := 11) rfl rfl K0_0 (by decide) rfl R0_0_0 ?_
      refine rn_getR (k' := 12) rfl rfl K0_1 (by decide) rfl R0_1_0 ?_
      refine rn_iload_n (k' := 13) rfl rfl rfl ?_
      refine rn_iaload (k' := 14) rfl rfl K0_2 (by omega) (by omega) ?_
      refine rn_aload_n (k' := 15) rfl rfl rfl ?_
      refine rn_getR (k' := 16) rfl rfl K0_0 (by decide) rfl R0_0_3 ?_
      refine rn_getI (k' := 17) rfl rfl K0_6 (by decide) rfl ?_
      refine rn_icmp_ge (k' := 18) rfl rfl (fun hc2 => ?_) (fun hc2 => ?_)
      · skip
        refine rn_iconst (k' := 30) rfl rfl ?_
        refine rn_iret rfl (Or.inr (by omega)) ?_
        rw [aL_no (p := (fun n => hoc μ n)) (n := n) (fun z => by have := z.1; have := z.2; omega) (by omega)]
      · skip
        refine rn_aload_n (k' := 19) rfl rfl rfl ?_
        refine rn_getR (k' := 20) rfl rfl K0_0 (by decide) rfl R0_0_0 ?_
        refine rn_getR (k' := 21) rfl rfl K0_1 (by decide) rfl R0_1_0 ?_
        refine rn_iload_n (k' := 22) rfl rfl rfl ?_
        refine rn_iconst (k' := 23) rfl rfl ?_
        refine rn_iadd (k' := 24) rfl rfl (by omega) ?_
        refine rn_iaload (k' := 25) rfl rfl K0_2 (by omega) (by omega) ?_
        refine rn_aload_n (k' := 26) rfl rfl rfl ?_
        refine rn_getR (k' := 27) rfl rfl K0_0 (by decide) rfl R0_0_3 ?_
        refine rn_getI (k' := 28) rfl rfl K0_6 (by decide) rfl ?_
        refine rn_icmp_lt (k' := 29) rfl rfl (fun hc3 => ?_) (fun hc3 => ?_)
        · skip
          refine rn_iinc (k' := 32) (L' := [some (mR 0), some (mI (3 * (n : Int) + 3))]) rfl rfl rfl (by omega) rfl ?_
          refine rn_goto rfl ?_
          exact ih (n + 1) _ (by omega) (by omega) (fun j hj => by
            by_cases e : j = n
            · rw [e]; exact ⟨by omega, by omega⟩
            · exact hall j (by omega))
        · skip
          refine rn_iconst (k' := 30) rfl rfl ?_
          refine rn_iret rfl (Or.inr (by omega)) ?_
          rw [aL_no (p := (fun n => hoc μ n)) (n := n) (fun z => by have := z.1; have := z.2; omega) (by omega)]
set_option maxHeartbeats 2000000 in
theorem c_X11_holesAreOnCells {μ : Nat → Nat → Int} {c s : Nat} (hb : ∀ j, 0 ≤ μ 2 j ∧ μ 2 j ≤ 255) {m : Nat} (hm : μ 1 1 = 3 * (m : Int)) (hm4 : m ≤ 40) : Cl PT 159 [mR 0] (mkh μ c s) (fun r => r = (some (some (mI (aL (fun n => hoc μ n) m))), mkh (μ) c s)) := by
  refine ⟨_, PT_159, Nat.le_of_ble_eq_true rfl, ?_⟩
  show Rn PT none kX11_holesAreOnCells 0 [some (mR 0), none] [] (mkh μ c s) _
  refine rn_iconst (k' := 1) rfl rfl ?_
  refine rn_istore_n (k' := 2) (L' := [some (mR 0), some (mI (0))]) rfl rfl (Nat.le_of_ble_eq_true rfl) rfl ?_
  exact l_onCells hb hm hm4 m 0 _ rfl (by omega) (fun j hj => absurd hj (Nat.not_lt_zero j))
theorem td_b {a b : Int} (ha : 0 ≤ a ∧ a ≤ 99) (hb : 1 ≤ b) : 0 ≤ a.tdiv b ∧ a.tdiv b ≤ 99 := by
  refine ⟨Int.tdiv_nonneg ha.1 (by omega), ?_⟩
  rw [Int.tdiv_eq_ediv_of_nonneg ha.1]
  exact Int.le_trans (Int.ediv_le_self b ha.1) ha.2
theorem td_b2 {a : Int} (ha : -1 ≤ a ∧ a ≤ 99) : -1 ≤ a.tdiv 2 ∧ a.tdiv 2 ≤ 99 := by
  by_cases h : a = -1
  · subst h; decide
  · have := td_b (a := a) (b := 2) (by omega) (by decide)
    omega
set_option maxHeartbeats 2000000 in
theorem c_X3_holeOf {μ : Nat → Nat → Int} {c s : Nat} (hL : I_land μ) {a t : Int} (ha : 0 ≤ a ∧ a < 100) (ht : 0 ≤ t ∧ t ≤ 99) : Cl PT 38 [mR 6, mI a, mI t] (mkh μ c s) (fun r => r = (some (some (mI (hol μ a t))), mkh (μ) c s)) := by
  have hL_ := hL
  obtain ⟨lc, lr, le, lm, lw, lh, lwo, lwd, q0, q1, q2, q3, q4, q8, q499, q500, lth, lG, lT, lW, -⟩ := hL_
  have ht5 := td_b (a := t) (b := 5) (by omega) (by decide)
  have ht2 := td_b2 (lT (100 + a).toNat)
  refine ⟨_, PT_38, Nat.le_of_ble_eq_true rfl, ?_⟩
  show Rn PT none kX3_holeOf 0 [some (mR 6), some (mI (a)), some (mI (t)), none] [] (mkh μ c s) _
  refine rn_aload_n (k' := 1) rfl rfl rfl ?_
  refine rn_getR (k' := 2) rfl rfl K0_6 (by decide) rfl R0_6_1 ?_
  refine rn_bipush (k' := 3) rfl rfl ?_
  refine rn_iload_n (k' := 4) rfl rfl rfl ?_
  refine rn_iadd (k' := 5) rfl rfl (by omega) ?_
  refine rn_iaload (k' := 6) rfl rfl K0_8 (by omega) (by omega) ?_
  have hb1 := lT ((100 + a).toNat)
  refine rn_istore_n (k' := 7) (L' := [some (mR 6), some (mI (a)), some (mI (t)), some (mI (μ 8 ((100 + a).toNat)))]) rfl rfl (Nat.le_of_ble_eq_true rfl) rfl ?_
  refine rn_iload_n (k' := 8) rfl rfl rfl ?_
  refine rn_iconst (k' := 9) rfl rfl ?_
  refine rn_idiv (k' := 10) rfl rfl (by omega) (tdiv_rng (by omega) (by omega)) ?_
  refine rn_iconst (k' := 11) rfl rfl ?_
  refine rn_iadd (k' := 12) rfl rfl (by omega) ?_
  refine rn_iload_n (k' := 13) rfl rfl rfl ?_
  refine rn_iconst (k' := 14) rfl rfl ?_
  refine rn_icmp_ne (k' := 15) rfl rfl (fun hc2 => ?_) (fun hc2 => ?_)
  · skip
    refine rn_iload_n (k' := 18) rfl rfl rfl ?_
    refine rn_iconst (k' := 19) rfl rfl ?_
    refine rn_idiv (k' := 20) rfl rfl (by omega) (tdiv_rng (by omega) (by omega)) ?_
    refine rn_iadd (k' := 21) rfl rfl (by omega) ?_
    refine rn_iret rfl (Or.inl rfl) ?_
    unfold hol
    first | rw [if_pos (by assumption)] | rw [if_neg (by assumption)]
  · skip
    refine rn_iconst (k' := 16) rfl rfl ?_
    refine rn_goto rfl ?_
    refine rn_iadd (k' := 21) rfl rfl (by omega) ?_
    refine rn_iret rfl (Or.inl rfl) ?_
    unfold hol
    first | rw [if_pos (by assumption)] | rw [if_neg (by assumption)]
set_option maxHeartbeats 4000000 in
theorem l_leaves {μ : Nat → Nat → Int} {c s : Nat} (hL : I_land μ) (hd : 0 ≤ μ 14 0 ∧ μ 14 0 ≤ 29) (hb : ∀ j, 0 ≤ μ 2 j ∧ μ 2 j ≤ 255) {m : Nat} (hm : μ 1 1 = 3 * (m : Int)) (hm4 : m ≤ 40) (hall : ∀ j, j < m → hoc μ j) {t : Int} (ht : 0 ≤ t ∧ t ≤ 99) : ∀ (d n : Nat) (k : Int) (v4 : Option MV), k = 3 * (n : Int) → n + d = m → (∀ j, j < n → hok μ t j) → Rn PT none kX11_leavesHoles 5 [some (mR 0), some (mI t), some (mI (g_w μ 0 (μ 14 0))), some (mI k), v4] [] (mkh μ c s) (fun r => r = (some (some (mI (aL (fun n => hok μ t n) m))), mkh μ c s)) := by
  have hL_ := hL
  obtain ⟨lc, lr, le, lm, lw, lh, lwo, lwd, q0, q1, q2, q3, q4, q8, q499, q500, lth, lG, lT, lW, -⟩ := hL_
  have hwb := g_w_b hL 0 (μ 14 0)
  intro d
  induction d with
  | zero =>
    intro n k v4 ek hn hk
    subst ek
    have x0 : (3 * (n : Int)).toNat = 3 * n := by omega
    have x1 : ((3 * (n : Int)) + 1).toNat = 3 * n + 1 := by omega
    have x2 : ((3 * (n : Int)) + 2).toNat = 3 * n + 2 := by omega
    have y0 : μ 2 (3 * (n : Int)).toNat = μ 2 (3 * n) := by rw [x0]
    have y1 : μ 2 ((3 * (n : Int)) + 1).toNat = μ 2 (3 * n + 1) := by rw [x1]
    have y2 : μ 2 ((3 * (n : Int)) + 2).toNat = μ 2 (3 * n + 2) := by rw [x2]
    have z0 := hb (3 * n)
    have z1 := hb (3 * n + 1)
    have z2 := hb (3 * n + 2)
    refine rn_iload_n (k' := 6) rfl rfl rfl ?_
    refine rn_iconst (k' := 7) rfl rfl ?_
    refine rn_iadd (k' := 8) rfl rfl (by omega) ?_
    refine rn_aload_n (k' := 9) rfl rfl rfl ?_
    refine rn_getR (k' := 10) rfl rfl K0_0 (by decide) rfl R0_0_0 ?_
    refine rn_getI (k' := 11) rfl rfl K0_1 (by decide) rfl ?_
    refine rn_icmp_ge (k' := 12) rfl rfl (fun hc1 => ?_) (fun hc1 => ?_)
    · skip
      refine rn_iconst (k' := 53) rfl rfl ?_
      refine rn_iret rfl (Or.inr (by omega)) ?_
      rw [(aL_iff (p := (fun n => hok μ t n)) m).mpr (fun j hj => hk j (by omega))]
    · exfalso; omega
  | succ d ih =>
    intro n k v4 ek hn hk
    subst ek
    have x0 : (3 * (n : Int)).toNat = 3 * n := by omega
    have x1 : ((3 * (n : Int)) + 1).toNat = 3 * n + 1 := by omega
    have x2 : ((3 * (n : Int)) + 2).toNat = 3 * n + 2 := by omega
    have y0 : μ 2 (3 * (n : Int)).toNat = μ 2 (3 * n) := by rw [x0]
    have y1 : μ 2 ((3 * (n : Int)) + 1).toNat = μ 2 (3 * n + 1) := by rw [x1]
    have y2 : μ 2 ((3 * (n : Int)) + 2).toNat = μ 2 (3 * n + 2) := by rw [x2]
    have z0 := hb (3 * n)
    have z1 := hb (3 * n + 1)
    have z2 := hb (3 * n + 2)
    have hgc := hat_cell hL hb (hall n (by omega))
    have hgb := g_cell_b hL hgc
    refine rn_iload_n (k' := 6) rfl rfl rfl ?_
    refine rn_iconst (k' := 7) rfl rfl ?_
    refine rn_iadd (k' := 8) rfl rfl (by omega) ?_
    refine rn_aload_n (k' := 9) rfl rfl rfl ?_
    refine rn_getR (k' := 10) rfl rfl K0_0 (by decide) rfl R0_0_0 ?_
    refine rn_getI (k' := 11) rfl rfl K0_1 (by decide) rfl ?_
    refine rn_icmp_ge (k' := 12) rfl rfl (fun hc1 => ?_) (fun hc1 => ?_)
    · exfalso; omega
    · skip
      refine rn_bipush (k' := 13) rfl rfl ?_
      refine rn_aload_n (k' := 14) rfl rfl rfl ?_
      refine rn_getR (k' := 15) rfl rfl K0_0 (by decide) rfl R0_0_0 ?_
      refine rn_getR (k' := 16) rfl rfl K0_1 (by decide) rfl R0_1_0 ?_
      refine rn_iload_n (k' := 17) rfl rfl rfl ?_
      refine rn_iconst (k' := 18) rfl rfl ?_
      refine rn_iadd (k' := 19) rfl rfl (by omega) ?_
      refine rn_iaload (k' := 20) rfl rfl K0_2 (by omega) (by omega) ?_
      refine rn_imul (k' := 21) rfl rfl (by omega) ?_
      refine rn_aload_n (k' := 22) rfl rfl rfl ?_
      refine rn_getR (k' := 23) rfl rfl K0_0 (by decide) rfl R0_0_0 ?_
      refine rn_getR (k' := 24) rfl rfl K0_1 (by decide) rfl R0_1_0 ?_
      refine rn_iload_n (k' := 25) rfl rfl rfl ?_
      refine rn_iaload (k' := 26) rfl rfl K0_2 (by omega) (by omega) ?_
      refine rn_iadd (k' := 27) rfl rfl (by omega) ?_
      rw [y1, y0]
      show Rn PT none kX11_leavesHoles 27 [some (mR 0), some (mI (t)), some (mI (g_w μ 0 (μ 14 0))), some (mI (3 * (n : Int))), v4] [mI (hat μ n)] (mkh μ c s) _
      refine rn_istore (k' := 28) (L' := [some (mR 0), some (mI (t)), some (mI (g_w μ 0 (μ 14 0))), some (mI (3 * (n : Int))), some (mI (hat μ n))]) rfl rfl (Nat.le_of_ble_eq_true rfl) rfl ?_
      refine rn_aload_n (k' := 29) rfl rfl rfl ?_
      refine rn_getR (k' := 30) rfl rfl K0_0 (by decide) rfl R0_0_3 ?_
      refine rn_iload (k' := 31) rfl rfl rfl ?_
      refine rn_iload_n (k' := 32) rfl rfl rfl ?_
      refine rn_iload_n (k' := 33) rfl rfl rfl ?_
      by_cases hq1 : g_stand μ (hat μ n) t (g_w μ 0 (μ 14 0))
      · refine rn_callP (k' := 34) (y := 36) (vs := [mR 6, mI (hat μ n), mI (t), mI (g_w μ 0 (μ 14 0))]) (S' := []) (v := some (mI 1)) (h' := mkh μ c s) rfl rfl rfl (by have hz : Cl PT 36 [mR 6, mI (hat μ n), mI (t), mI (g_w μ 0 (μ 14 0))] (mkh μ c s) (fun r => r = (some (some (mI (if g_stand μ (hat μ n) t (g_w μ 0 (μ 14 0)) then 1 else 0))), mkh μ c s)) := k_canStand hL (a := hat μ n) (t := t) (w := g_w μ 0 (μ 14 0)) (by omega) (by omega) (μ := μ) (c := c) (s := s); rw [if_pos hq1] at hz; exact hz) ?_
        show Rn PT none kX11_leavesHoles 34 [some (mR 0), some (mI (t)), some (mI (g_w μ 0 (μ 14 0))), some (mI (3 * (n : Int))), some (mI (hat μ n))] [mI (1)] (mkh μ c s) _
        refine rn_if_eq (k' := 35) rfl rfl (fun hc2 => ?_) (fun hc2 => ?_)
        · exfalso; omega
        · skip
          refine rn_aload_n (k' := 36) rfl rfl rfl ?_
          refine rn_getR (k' := 37) rfl rfl K0_0 (by decide) rfl R0_0_0 ?_
          refine rn_getR (k' := 38) rfl rfl K0_1 (by decide) rfl R0_1_0 ?_
          refine rn_iload_n (k' := 39) rfl rfl rfl ?_
          refine rn_iconst (k' := 40) rfl rfl ?_
          refine rn_iadd (k' := 41) rfl rfl (by omega) ?_
          refine rn_iaload (k' := 42) rfl rfl K0_2 (by omega) (by omega) ?_
          rw [y2]
          refine rn_aload_n (k' := 43) rfl rfl rfl ?_
          refine rn_getR (k' := 44) rfl rfl K0_0 (by decide) rfl R0_0_3 ?_
          refine rn_iload (k' := 45) rfl rfl rfl ?_
          refine rn_iload_n (k' := 46) rfl rfl rfl ?_
          refine rn_callP (k' := 47) (y := 38) (vs := [mR 6, mI (hat μ n), mI (t)]) (S' := [mI (μ 2 (3 * n + 2))]) (v := some (mI (hol μ (hat μ n) t))) (h' := mkh μ c s) rfl rfl rfl (c_X3_holeOf hL (by omega) (by omega)) ?_
          show Rn PT none kX11_leavesHoles 47 [some (mR 0), some (mI (t)), some (mI (g_w μ 0 (μ 14 0))), some (mI (3 * (n : Int))), some (mI (hat μ n))] [mI (hol μ (hat μ n) t), mI (μ 2 (3 * n + 2))] (mkh μ c s) _
          refine rn_icmp_eq (k' := 48) rfl rfl (fun hc3 => ?_) (fun hc3 => ?_)
          · skip
            refine rn_iinc (k' := 51) (L' := [some (mR 0), some (mI (t)), some (mI (g_w μ 0 (μ 14 0))), some (mI (3 * (n : Int) + 3)), some (mI (hat μ n))]) rfl rfl rfl (by omega) rfl ?_
            refine rn_goto rfl ?_
            exact ih (n + 1) _ _ (by omega) (by omega) (fun j hj => by
              by_cases e : j = n
              · rw [e]; exact ⟨by assumption, by assumption⟩
              · exact hk j (by omega))
          · skip
            refine rn_iconst (k' := 49) rfl rfl ?_
            refine rn_iret rfl (Or.inr (by omega)) ?_
            rw [aL_no (p := (fun n => hok μ t n)) (n := n) (fun z => by first | exact absurd z.1 (by assumption) | exact absurd z.2 (by assumption)) (by omega)]
      · refine rn_callP (k' := 34) (y := 36) (vs := [mR 6, mI (hat μ n), mI (t), mI (g_w μ 0 (μ 14 0))]) (S' := []) (v := some (mI 0)) (h' := mkh μ c s) rfl rfl rfl (by have hz : Cl PT 36 [mR 6, mI (hat μ n), mI (t), mI (g_w μ 0 (μ 14 0))] (mkh μ c s) (fun r => r = (some (some (mI (if g_stand μ (hat μ n) t (g_w μ 0 (μ 14 0)) then 1 else 0))), mkh μ c s)) := k_canStand hL (a := hat μ n) (t := t) (w := g_w μ 0 (μ 14 0)) (by omega) (by omega) (μ := μ) (c := c) (s := s); rw [if_neg hq1] at hz; exact hz) ?_
        show Rn PT none kX11_leavesHoles 34 [some (mR 0), some (mI (t)), some (mI (g_w μ 0 (μ 14 0))), some (mI (3 * (n : Int))), some (mI (hat μ n))] [mI (0)] (mkh μ c s) _
        refine rn_if_eq (k' := 35) rfl rfl (fun hc4 => ?_) (fun hc4 => ?_)
        · skip
          refine rn_iconst (k' := 49) rfl rfl ?_
          refine rn_iret rfl (Or.inr (by omega)) ?_
          rw [aL_no (p := (fun n => hok μ t n)) (n := n) (fun z => by first | exact absurd z.1 (by assumption) | exact absurd z.2 (by assumption)) (by omega)]
        · exfalso; omega
set_option maxHeartbeats 2000000 in
theorem c_X11_leavesHoles {μ : Nat → Nat → Int} {c s : Nat} (hL : I_land μ) (hd : 0 ≤ μ 14 0 ∧ μ 14 0 ≤ 29) (hb : ∀ j, 0 ≤ μ 2 j ∧ μ 2 j ≤ 255) {m : Nat} (hm : μ 1 1 = 3 * (m : Int)) (hm4 : m ≤ 40) (hall : ∀ j, j < m → hoc μ j) {t : Int} (ht : 0 ≤ t ∧ t ≤ 99) : Cl PT 160 [mR 0, mI t] (mkh μ c s) (fun r => r = (some (some (mI (aL (fun n => hok μ t n) m))), mkh (μ) c s)) := by
  have hL_ := hL
  obtain ⟨lc, lr, le, lm, lw, lh, lwo, lwd, q0, q1, q2, q3, q4, q8, q499, q500, lth, lG, lT, lW, -⟩ := hL_
  refine ⟨_, PT_160, Nat.le_of_ble_eq_true rfl, ?_⟩
  show Rn PT none kX11_leavesHoles 0 [some (mR 0), some (mI (t)), none, none, none] [] (mkh μ c s) _
  refine rn_aload_n (k' := 1) rfl rfl rfl ?_
  have hb1 := g_w_b hL 0 (μ 14 0)
  refine rn_callP (k' := 2) (y := 156) (vs := [mR 0]) (S' := []) (v := some (mI (g_w μ 0 (μ 14 0)))) (h' := mkh μ c s) rfl rfl rfl (c_X11_waterToday (μ := μ) (hL) (by show 0 ≤ μ 14 0 ∧ μ 14 0 ≤ 29; omega)) ?_
  show Rn PT none kX11_leavesHoles 2 [some (mR 0), some (mI (t)), none, none, none] [mI (g_w μ 0 (μ 14 0))] (mkh μ c s) _
  refine rn_istore_n (k' := 3) (L' := [some (mR 0), some (mI (t)), some (mI (g_w μ 0 (μ 14 0))), none, none]) rfl rfl (Nat.le_of_ble_eq_true rfl) rfl ?_
  refine rn_iconst (k' := 4) rfl rfl ?_
  refine rn_istore_n (k' := 5) (L' := [some (mR 0), some (mI (t)), some (mI (g_w μ 0 (μ 14 0))), some (mI (0)), none]) rfl rfl (Nat.le_of_ble_eq_true rfl) rfl ?_
  exact l_leaves hL hd hb hm hm4 hall ht m 0 _ _ rfl (by omega) (fun j hj => absurd hj (Nat.not_lt_zero j))
