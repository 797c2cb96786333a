variable {N : Int}
/-! ===== printed by wip/whole/gen38.py: the model's row read as the class's land; leaf methods ===== -/
/-- a whole row replaced -/
def m_upd (μ : Nat → Nat → Int) (a : Nat) (f : Nat → Int) : Nat → Nat → Int := fun a' j => if a' = a then f j else μ a' j
theorem row_set {μ : Nat → Nat → Int} {a j b : Nat} {v : Int} (h : ¬ b = a) : m_set μ a j v b = μ b := by
  funext i
  exact m_set_ne _ _ (fun z => h z.1)
theorem row_upd {μ : Nat → Nat → Int} {a b : Nat} {f : Nat → Int} (h : ¬ b = a) : m_upd μ a f b = μ b := by
  funext i
  unfold m_upd
  rw [if_neg h]
theorem Inv.upd {μ : Nat → Nat → Int} {a : Nat} {f : Nat → Int} (h : Inv N μ) (hs : ∀ j, sup a j = false) : Inv N (m_upd μ a f) := h.same (rst_same (fun a' j hj => by
  have : ¬ a' = a := by
    rintro rfl
    rw [hs j] at hj
    cases hj
  rw [row_upd this]))
theorem I_land.congr {μ μ' : Nat → Nat → Int} (h : I_land μ) (e6 : μ' 6 = μ 6) (e7 : μ' 7 = μ 7) (e8 : μ' 8 = μ 8) (e9 : μ' 9 = μ 9) (e10 : μ' 10 = μ 10) (e : ∀ j, j < 517 → μ' 120 j = μ 120 j) : I_land μ' := by
  obtain ⟨h1, h2, h3, h4, h5, h6, h7, h8, q0, q1, q2, q3, q4, q8, q499, q500, t, g, th, w, g', th', w'⟩ := h
  unfold I_land
  rw [e6, e7, e8, e9, e10]
  exact ⟨h1, h2, h3, h4, h5, h6, h7, h8, (e 0 (by decide)).trans q0, (e 1 (by decide)).trans q1, (e 2 (by decide)).trans q2, (e 3 (by decide)).trans q3, (e 4 (by decide)).trans q4, (e 8 (by decide)).trans q8, (e 499 (by decide)).trans q499, (e 500 (by decide)).trans q500, fun j hj => ⟨(t j hj).1, (e _ (by omega)).trans (t j hj).2⟩, g, th, w, fun j hj hj2 => (e _ (by have := Int.tdiv_eq_ediv_of_nonneg (a := (j : Int)) (b := 10) (by omega); omega)).trans (g' j hj hj2), fun j hj => (e _ (by omega)).trans (th' j hj), fun j hj => (e _ (by omega)).trans (w' j hj)⟩
/-- rows that the land is told in -/
def lrow (a : Nat) : Bool := a == 6 || a == 7 || a == 8 || a == 9 || a == 10 || a == 120
theorem lrow_ne {a b : Nat} (h : lrow a = false) (hb : lrow b = true) : ¬ b = a := by
  rintro rfl
  rw [h] at hb
  cases hb
theorem I_land.set {μ : Nat → Nat → Int} {a j : Nat} {v : Int} (h : I_land μ) (ha : lrow a = false) : I_land (m_set μ a j v) :=
  h.congr (row_set (lrow_ne ha rfl)) (row_set (lrow_ne ha rfl)) (row_set (lrow_ne ha rfl)) (row_set (lrow_ne ha rfl)) (row_set (lrow_ne ha rfl)) (fun j _ => by rw [row_set (lrow_ne ha rfl)])
theorem I_land.upd {μ : Nat → Nat → Int} {a : Nat} {f : Nat → Int} (h : I_land μ) (ha : lrow a = false) : I_land (m_upd μ a f) :=
  h.congr (row_upd (lrow_ne ha rfl)) (row_upd (lrow_ne ha rfl)) (row_upd (lrow_ne ha rfl)) (row_upd (lrow_ne ha rfl)) (row_upd (lrow_ne ha rfl)) (fun j _ => by rw [row_upd (lrow_ne ha rfl)])
theorem I_land.set120 {μ : Nat → Nat → Int} {j : Nat} {v : Int} (h : I_land μ) (hj : 517 ≤ j) : I_land (m_set μ 120 j v) :=
  h.congr (row_set (by decide)) (row_set (by decide)) (row_set (by decide)) (row_set (by decide)) (row_set (by decide)) (fun i hi => m_set_ne _ _ (by omega))
/-- a cell of the grid -/
abbrev g_cell (μ : Nat → Nat → Int) (a : Int) : Prop := 0 ≤ a ∧ a.tmod 10 < μ 6 8 ∧ a.tdiv 10 < μ 6 9
theorem v_gN {μ : Nat → Nat → Int} (h : I_land μ) {n : Nat} (hn : g_cell μ (n : Int)) : μ 120 (9 + n) = μ 7 n ∧ 0 ≤ μ 7 n ∧ μ 7 n ≤ 99 := by
  obtain ⟨-, -, -, -, -, -, -, -, -, -, -, -, -, -, -, -, -, g, -, -, g', -, -⟩ := h
  exact ⟨g' n hn.2.1 hn.2.2, g n⟩
theorem v_dN {μ : Nat → Nat → Int} (h : I_land μ) {n : Nat} (hn : n < 100) : μ 120 (109 + n) = μ 8 n + 1 ∧ -1 ≤ μ 8 n ∧ μ 8 n ≤ 99 := by
  obtain ⟨-, -, -, -, -, -, -, -, -, -, -, -, -, -, -, -, -, -, g, -, -, g', -⟩ := h
  exact ⟨g' n (by omega), g n⟩
theorem v_mN {μ : Nat → Nat → Int} (h : I_land μ) {n : Nat} (hn : n < 100) : μ 120 (209 + n) = μ 8 (100 + n) + 1 ∧ -1 ≤ μ 8 (100 + n) ∧ μ 8 (100 + n) ≤ 99 := by
  obtain ⟨-, -, -, -, -, -, -, -, -, -, -, -, -, -, -, -, -, -, g, -, -, g', -⟩ := h
  have h1 := g' (100 + n) (by omega)
  rw [show 109 + (100 + n) = 209 + n by omega] at h1
  exact ⟨h1, g _⟩
theorem v_lN {μ : Nat → Nat → Int} (h : I_land μ) {n : Nat} (hn : n < 100) : μ 120 (309 + n) = μ 8 (200 + n) + 1 ∧ -1 ≤ μ 8 (200 + n) ∧ μ 8 (200 + n) ≤ 99 := by
  obtain ⟨-, -, -, -, -, -, -, -, -, -, -, -, -, -, -, -, -, -, g, -, -, g', -⟩ := h
  have h1 := g' (200 + n) (by omega)
  rw [show 109 + (200 + n) = 309 + n by omega] at h1
  exact ⟨h1, g _⟩
theorem toNat_add {k : Nat} {a : Int} (ha : 0 ≤ a) : ((k : Int) + a).toNat = k + a.toNat := by omega
theorem v_g {μ : Nat → Nat → Int} (h : I_land μ) {a : Int} (ha : g_cell μ a) : μ 120 (9 + a).toNat = μ 7 a.toNat ∧ 0 ≤ μ 7 a.toNat ∧ μ 7 a.toNat ≤ 99 := by
  have h0 := ha.1
  rw [show (9 + a).toNat = 9 + a.toNat by omega]; exact v_gN h (by rw [Int.toNat_of_nonneg h0]; exact ha)
theorem v_d {μ : Nat → Nat → Int} (h : I_land μ) {a : Int} (ha : 0 ≤ a ∧ a < 100) : μ 120 (109 + a).toNat = μ 8 a.toNat + 1 ∧ -1 ≤ μ 8 a.toNat ∧ μ 8 a.toNat ≤ 99 := by
  rw [show (109 + a).toNat = 109 + a.toNat by omega]; exact v_dN h (by omega)
theorem v_m {μ : Nat → Nat → Int} (h : I_land μ) {a : Int} (ha : 0 ≤ a ∧ a < 100) : μ 120 (209 + a).toNat = μ 8 (100 + a).toNat + 1 ∧ -1 ≤ μ 8 (100 + a).toNat ∧ μ 8 (100 + a).toNat ≤ 99 := by
  rw [show (209 + a).toNat = 209 + a.toNat by omega, show (100 + a).toNat = 100 + a.toNat by omega]; exact v_mN h (by omega)
theorem v_l {μ : Nat → Nat → Int} (h : I_land μ) {a : Int} (ha : 0 ≤ a ∧ a < 100) : μ 120 (309 + a).toNat = μ 8 (200 + a).toNat + 1 ∧ -1 ≤ μ 8 (200 + a).toNat ∧ μ 8 (200 + a).toNat ≤ 99 := by
  rw [show (309 + a).toNat = 309 + a.toNat by omega, show (200 + a).toNat = 200 + a.toNat by omega]; exact v_lN h (by omega)
theorem v_wN {μ : Nat → Nat → Int} (h : I_land μ) {n : Nat} (hn : n < 90) : μ 120 (409 + n) = μ 10 n + 1 ∧ -1 ≤ μ 10 n ∧ μ 10 n ≤ 99 := by
  obtain ⟨-, -, -, -, -, -, -, -, -, -, -, -, -, -, -, -, -, -, -, g, -, -, g'⟩ := h
  exact ⟨g' n (by omega), g n⟩
theorem wOn_b {f : Nat → Int} (h : ∀ j, -1 ≤ f j ∧ f j ≤ 99) (b : Nat) : ∀ n, 0 ≤ wOn f b n ∧ wOn f b n ≤ 99
  | 0 => ⟨Int.le_refl 0, show (0 : Int) ≤ 99 by decide⟩
  | n + 1 => by
    have h1 := wOn_b h b n
    have h2 := h (b + n)
    unfold wOn
    split <;> omega
/-- the weather on a day -/
abbrev g_w (μ : Nat → Nat → Int) (σ d : Int) : Int := wOn (μ 10) (30 * σ.toNat) (d.toNat + 1)
/-- stilts of so many heads -/
abbrev g_st (μ : Nat → Nat → Int) (a : Int) : Int := if a.tdiv (μ 6 10) < μ 6 11 then a.tdiv (μ 6 10) else μ 6 11
abbrev g_tim (μ : Nat → Nat → Int) (a : Int) : Int := if a = 0 then 0 else 2 * a + μ 6 12
abbrev g_dep (μ : Nat → Nat → Int) (a w : Int) : Int := if w > μ 7 a.toNat then w - μ 7 a.toNat else 0
abbrev g_stand (μ : Nat → Nat → Int) (a t w : Int) : Prop := w - μ 7 a.toNat ≤ t ∧ (μ 8 a.toNat = -1 ∨ t ≤ μ 8 a.toNat) ∧ (μ 8 (100 + a).toNat = -1 ∨ μ 8 (100 + a).toNat ≤ t)
abbrev g_nb (μ : Nat → Nat → Int) (a d : Int) : Int := if d = 0 then (if 0 < a.tdiv 10 then a - 10 else -1) else if d = 1 then (if a.tmod 10 + 1 < μ 6 8 then a + 1 else -1) else if d = 2 then (if a.tdiv 10 + 1 < μ 6 9 then a + 10 else -1) else (if 0 < a.tmod 10 then a - 1 else -1)
theorem g_w_b {μ : Nat → Nat → Int} (h : I_land μ) (σ d : Int) : 0 ≤ g_w μ σ d ∧ g_w μ σ d ≤ 99 := by
  obtain ⟨-, -, -, -, -, -, -, -, -, -, -, -, -, -, -, -, -, -, -, g, -⟩ := h
  exact wOn_b g _ _
theorem g_cell_b {μ : Nat → Nat → Int} (h : I_land μ) {a : Int} (ha : g_cell μ a) : 0 ≤ a ∧ a < 100 := by
  obtain ⟨-, h2, -⟩ := h
  obtain ⟨a1, a2, a3⟩ := ha
  refine ⟨a1, ?_⟩
  rw [Int.tdiv_eq_ediv_of_nonneg a1] at a3
  omega
theorem g_st_b {μ : Nat → Nat → Int} (h : I_land μ) {a : Int} (ha : 0 ≤ a) : 0 ≤ g_st μ a ∧ g_st μ a ≤ 99 := by
  obtain ⟨-, -, h3, h4, -⟩ := h
  have := Int.tdiv_nonneg ha (show 0 ≤ μ 6 10 by omega)
  unfold g_st
  split <;> omega
/-! class: the moor -/
theorem k_hasCell {μ : Nat → Nat → Int} {c s : Nat} {a : Int} (ha : i32 a) : Fn 30 [mR 6, mI a] μ c s (if g_cell μ a then 1 else 0) := c_X3_hasCell ha
theorem k_weatherOn {μ : Nat → Nat → Int} {c s : Nat} (hL : I_land μ) {σ d : Int} (hs : 0 ≤ σ ∧ σ ≤ 2) (hd : 0 ≤ d ∧ d ≤ 29) : Fn 32 [mR 6, mI σ, mI d] μ c s (g_w μ σ d) := by
  obtain ⟨-, -, -, -, -, -, -, -, -, -, -, -, -, -, -, -, -, -, -, g, -⟩ := hL
  obtain ⟨σ, rfl⟩ := Int.eq_ofNat_of_zero_le hs.1
  obtain ⟨d, rfl⟩ := Int.eq_ofNat_of_zero_le hd.1
  exact c_X3_weatherOn g (by omega) (by omega)
theorem k_stiltsFor {μ : Nat → Nat → Int} {c s : Nat} (hL : I_land μ) {a : Int} (ha : 0 ≤ a ∧ a ≤ 1000) : Fn 33 [mR 6, mI a] μ c s (g_st μ a) := c_X3_stiltsFor ha hL.2.2.1.1
theorem k_timberFor {μ : Nat → Nat → Int} {c s : Nat} (hL : I_land μ) {a : Int} (ha : 0 ≤ a ∧ a ≤ 1000) : Fn 34 [mR 6, mI a] μ c s (g_tim μ a) := c_X3_timberFor ha hL.2.2.2.2.1
theorem k_depthOf {μ : Nat → Nat → Int} {c s : Nat} (hL : I_land μ) {a w : Int} (ha : 0 ≤ a ∧ a < 100) (hw : 0 ≤ w ∧ w ≤ 1000) : Fn 35 [mR 6, mI a, mI w] μ c s (g_dep μ a w) := by
  obtain ⟨-, -, -, -, -, -, -, -, -, -, -, -, -, -, -, -, -, g, -⟩ := hL
  exact c_X3_depthOf g ha hw
theorem k_canStand {μ : Nat → Nat → Int} {c s : Nat} (hL : I_land μ) {a t w : Int} (ha : 0 ≤ a ∧ a < 100) (hw : 0 ≤ w ∧ w ≤ 1000) : Fn 36 [mR 6, mI a, mI t, mI w] μ c s (if g_stand μ a t w then 1 else 0) := by
  obtain ⟨-, -, -, -, -, -, -, -, -, -, -, -, -, -, -, -, -, g, th, -⟩ := hL
  have h := c_X3_canStand (c := c) (s := s) (t := t) g th ha hw
  rw [Int.zero_add] at h
  exact h
theorem k_neighbour {μ : Nat → Nat → Int} {c s : Nat} (hL : I_land μ) {a d : Int} (ha : 0 ≤ a ∧ a < 100) (hd : 0 ≤ d ∧ d ≤ 3) : Fn 39 [mR 6, mI a, mI d] μ c s (g_nb μ a d) := c_X3_neighbour hL.1 hL.2.1 ha hd
set_option maxHeartbeats 2000000 in
theorem c_X11_isHerd {μ : Nat → Nat → Int} {c s : Nat} (hL : I_land μ) {a : Int} : Cl PT 151 [mR 0, mI a] (mkh μ c s) (fun r => r = (some (some (mI (if 0 ≤ a ∧ a < μ 6 13 then 1 else 0))), mkh (μ) c s)) := by
  have hL_ := hL
  obtain ⟨lc, lr, le, lm, lw, lh, lwo, lwd, q0, q1, q2, q3, q4, q8, q499, q500, lth, lG, lT, lW, -⟩ := hL_
  refine ⟨_, PT_151, Nat.le_of_ble_eq_true rfl, ?_⟩
  show Rn PT none kX11_isHerd 0 [some (mR 0), some (mI (a))] [] (mkh μ c s) _
  refine rn_iload_n (k' := 1) rfl rfl rfl ?_
  refine rn_if_lt (k' := 2) rfl rfl (fun hc1 => ?_) (fun hc1 => ?_)
  · skip
    refine rn_iconst (k' := 10) rfl rfl ?_
    refine rn_iret rfl (Or.inr (by omega)) ?_
    first | rfl | (refine congrArg (fun z => ((some (some (mI z)) : Option (Option MV)), mkh μ c s)) ?_; first | rfl | omega | (symm; first | (rw [if_pos (by omega)]; first | done | rfl | omega) | (rw [if_neg (by omega)]; first | done | rfl | omega)) | (symm; unfold g_tim; first | (rw [if_pos (by omega)]; first | done | rfl | omega) | (rw [if_neg (by omega)]; first | done | rfl | omega)) | (symm; unfold g_st; first | (rw [if_pos (by omega)]; first | done | rfl | omega) | (rw [if_neg (by omega)]; first | done | rfl | omega)) | (symm; unfold g_dep; first | (rw [if_pos (by omega)]; first | done | rfl | omega) | (rw [if_neg (by omega)]; first | done | rfl | omega)) | (symm; unfold g_nb; first | (rw [if_pos (by omega)]; first | done | rfl | omega) | (rw [if_neg (by omega)]; first | done | rfl | omega)) | ((try unfold g_st); (try unfold g_dep); (try unfold g_nb); (repeat' split) <;> omega) | (symm; (repeat (first | rw [if_pos (by omega)] | rw [if_neg (by omega)])); first | done | rfl | omega))
  · skip
    refine rn_iload_n (k' := 3) rfl rfl rfl ?_
    refine rn_aload_n (k' := 4) rfl rfl rfl ?_
    refine rn_getR (k' := 5) rfl rfl K0_0 (by decide) rfl R0_0_3 ?_
    refine rn_getI (k' := 6) rfl rfl K0_6 (by decide) rfl ?_
    refine rn_icmp_ge (k' := 7) rfl rfl (fun hc2 => ?_) (fun hc2 => ?_)
    · skip
      refine rn_iconst (k' := 10) rfl rfl ?_
      refine rn_iret rfl (Or.inr (by omega)) ?_
      first | rfl | (refine congrArg (fun z => ((some (some (mI z)) : Option (Option MV)), mkh μ c s)) ?_; first | rfl | omega | (symm; first | (rw [if_pos (by omega)]; first | done | rfl | omega) | (rw [if_neg (by omega)]; first | done | rfl | omega)) | (symm; unfold g_tim; first | (rw [if_pos (by omega)]; first | done | rfl | omega) | (rw [if_neg (by omega)]; first | done | rfl | omega)) | (symm; unfold g_st; first | (rw [if_pos (by omega)]; first | done | rfl | omega) | (rw [if_neg (by omega)]; first | done | rfl | omega)) | (symm; unfold g_dep; first | (rw [if_pos (by omega)]; first | done | rfl | omega) | (rw [if_neg (by omega)]; first | done | rfl | omega)) | (symm; unfold g_nb; first | (rw [if_pos (by omega)]; first | done | rfl | omega) | (rw [if_neg (by omega)]; first | done | rfl | omega)) | ((try unfold g_st); (try unfold g_dep); (try unfold g_nb); (repeat' split) <;> omega) | (symm; (repeat (first | rw [if_pos (by omega)] | rw [if_neg (by omega)])); first | done | rfl | omega))
    · skip
      refine rn_iconst (k' := 8) rfl rfl ?_
      refine rn_goto rfl ?_
      refine rn_iret rfl (Or.inr (by omega)) ?_
      first | rfl | (refine congrArg (fun z => ((some (some (mI z)) : Option (Option MV)), mkh μ c s)) ?_; first | rfl | omega | (symm; first | (rw [if_pos (by omega)]; first | done | rfl | omega) | (rw [if_neg (by omega)]; first | done | rfl | omega)) | (symm; unfold g_tim; first | (rw [if_pos (by omega)]; first | done | rfl | omega) | (rw [if_neg (by omega)]; first | done | rfl | omega)) | (symm; unfold g_st; first | (rw [if_pos (by omega)]; first | done | rfl | omega) | (rw [if_neg (by omega)]; first | done | rfl | omega)) | (symm; unfold g_dep; first | (rw [if_pos (by omega)]; first | done | rfl | omega) | (rw [if_neg (by omega)]; first | done | rfl | omega)) | (symm; unfold g_nb; first | (rw [if_pos (by omega)]; first | done | rfl | omega) | (rw [if_neg (by omega)]; first | done | rfl | omega)) | ((try unfold g_st); (try unfold g_dep); (try unfold g_nb); (repeat' split) <;> omega) | (symm; (repeat (first | rw [if_pos (by omega)] | rw [if_neg (by omega)])); first | done | rfl | omega))
set_option maxHeartbeats 2000000 in
theorem c_X11_isDay {μ : Nat → Nat → Int} {c s : Nat} {a : Int} : Cl PT 152 [mI a] (mkh μ c s) (fun r => r = (some (some (mI (if 0 ≤ a ∧ a ≤ 29 then 1 else 0))), mkh (μ) c s)) := by
  refine ⟨_, PT_152, Nat.le_of_ble_eq_true rfl, ?_⟩
  show Rn PT none kX11_isDay 0 [some (mI (a))] [] (mkh μ c s) _
  refine rn_iload_n (k' := 1) rfl rfl rfl ?_
  refine rn_if_lt (k' := 2) rfl rfl (fun hc1 => ?_) (fun hc1 => ?_)
  · skip
    refine rn_iconst (k' := 8) rfl rfl ?_
    refine rn_iret rfl (Or.inr (by omega)) ?_
    first | rfl | (refine congrArg (fun z => ((some (some (mI z)) : Option (Option MV)), mkh μ c s)) ?_; first | rfl | omega | (symm; first | (rw [if_pos (by omega)]; first | done | rfl | omega) | (rw [if_neg (by omega)]; first | done | rfl | omega)) | (symm; unfold g_tim; first | (rw [if_pos (by omega)]; first | done | rfl | omega) | (rw [if_neg (by omega)]; first | done | rfl | omega)) | (symm; unfold g_st; first | (rw [if_pos (by omega)]; first | done | rfl | omega) | (rw [if_neg (by omega)]; first | done | rfl | omega)) | (symm; unfold g_dep; first | (rw [if_pos (by omega)]; first | done | rfl | omega) | (rw [if_neg (by omega)]; first | done | rfl | omega)) | (symm; unfold g_nb; first | (rw [if_pos (by omega)]; first | done | rfl | omega) | (rw [if_neg (by omega)]; first | done | rfl | omega)) | ((try unfold g_st); (try unfold g_dep); (try unfold g_nb); (repeat' split) <;> omega) | (symm; (repeat (first | rw [if_pos (by omega)] | rw [if_neg (by omega)])); first | done | rfl | omega))
  · skip
    refine rn_iload_n (k' := 3) rfl rfl rfl ?_
    refine rn_bipush (k' := 4) rfl rfl ?_
    refine rn_icmp_ge (k' := 5) rfl rfl (fun hc2 => ?_) (fun hc2 => ?_)
    · skip
      refine rn_iconst (k' := 8) rfl rfl ?_
      refine rn_iret rfl (Or.inr (by omega)) ?_
      first | rfl | (refine congrArg (fun z => ((some (some (mI z)) : Option (Option MV)), mkh μ c s)) ?_; first | rfl | omega | (symm; first | (rw [if_pos (by omega)]; first | done | rfl | omega) | (rw [if_neg (by omega)]; first | done | rfl | omega)) | (symm; unfold g_tim; first | (rw [if_pos (by omega)]; first | done | rfl | omega) | (rw [if_neg (by omega)]; first | done | rfl | omega)) | (symm; unfold g_st; first | (rw [if_pos (by omega)]; first | done | rfl | omega) | (rw [if_neg (by omega)]; first | done | rfl | omega)) | (symm; unfold g_dep; first | (rw [if_pos (by omega)]; first | done | rfl | omega) | (rw [if_neg (by omega)]; first | done | rfl | omega)) | (symm; unfold g_nb; first | (rw [if_pos (by omega)]; first | done | rfl | omega) | (rw [if_neg (by omega)]; first | done | rfl | omega)) | ((try unfold g_st); (try unfold g_dep); (try unfold g_nb); (repeat' split) <;> omega) | (symm; (repeat (first | rw [if_pos (by omega)] | rw [if_neg (by omega)])); first | done | rfl | omega))
    · skip
      refine rn_iconst (k' := 6) rfl rfl ?_
      refine rn_goto rfl ?_
      refine rn_iret rfl (Or.inr (by omega)) ?_
      first | rfl | (refine congrArg (fun z => ((some (some (mI z)) : Option (Option MV)), mkh μ c s)) ?_; first | rfl | omega | (symm; first | (rw [if_pos (by omega)]; first | done | rfl | omega) | (rw [if_neg (by omega)]; first | done | rfl | omega)) | (symm; unfold g_tim; first | (rw [if_pos (by omega)]; first | done | rfl | omega) | (rw [if_neg (by omega)]; first | done | rfl | omega)) | (symm; unfold g_st; first | (rw [if_pos (by omega)]; first | done | rfl | omega) | (rw [if_neg (by omega)]; first | done | rfl | omega)) | (symm; unfold g_dep; first | (rw [if_pos (by omega)]; first | done | rfl | omega) | (rw [if_neg (by omega)]; first | done | rfl | omega)) | (symm; unfold g_nb; first | (rw [if_pos (by omega)]; first | done | rfl | omega) | (rw [if_neg (by omega)]; first | done | rfl | omega)) | ((try unfold g_st); (try unfold g_dep); (try unfold g_nb); (repeat' split) <;> omega) | (symm; (repeat (first | rw [if_pos (by omega)] | rw [if_neg (by omega)])); first | done | rfl | omega))
set_option maxHeartbeats 2000000 in
theorem c_X11_isNumber {μ : Nat → Nat → Int} {c s : Nat} {a : Int} : Cl PT 153 [mI a] (mkh μ c s) (fun r => r = (some (some (mI (if 0 ≤ a ∧ a ≤ 99 then 1 else 0))), mkh (μ) c s)) := by
  refine ⟨_, PT_153, Nat.le_of_ble_eq_true rfl, ?_⟩
  show Rn PT none kX11_isNumber 0 [some (mI (a))] [] (mkh μ c s) _
  refine rn_iload_n (k' := 1) rfl rfl rfl ?_
  refine rn_if_lt (k' := 2) rfl rfl (fun hc1 => ?_) (fun hc1 => ?_)
  · skip
    refine rn_iconst (k' := 8) rfl rfl ?_
    refine rn_iret rfl (Or.inr (by omega)) ?_
    first | rfl | (refine congrArg (fun z => ((some (some (mI z)) : Option (Option MV)), mkh μ c s)) ?_; first | rfl | omega | (symm; first | (rw [if_pos (by omega)]; first | done | rfl | omega) | (rw [if_neg (by omega)]; first | done | rfl | omega)) | (symm; unfold g_tim; first | (rw [if_pos (by omega)]; first | done | rfl | omega) | (rw [if_neg (by omega)]; first | done | rfl | omega)) | (symm; unfold g_st; first | (rw [if_pos (by omega)]; first | done | rfl | omega) | (rw [if_neg (by omega)]; first | done | rfl | omega)) | (symm; unfold g_dep; first | (rw [if_pos (by omega)]; first | done | rfl | omega) | (rw [if_neg (by omega)]; first | done | rfl | omega)) | (symm; unfold g_nb; first | (rw [if_pos (by omega)]; first | done | rfl | omega) | (rw [if_neg (by omega)]; first | done | rfl | omega)) | ((try unfold g_st); (try unfold g_dep); (try unfold g_nb); (repeat' split) <;> omega) | (symm; (repeat (first | rw [if_pos (by omega)] | rw [if_neg (by omega)])); first | done | rfl | omega))
  · skip
    refine rn_iload_n (k' := 3) rfl rfl rfl ?_
    refine rn_bipush (k' := 4) rfl rfl ?_
    refine rn_icmp_gt (k' := 5) rfl rfl (fun hc2 => ?_) (fun hc2 => ?_)
    · skip
      refine rn_iconst (k' := 8) rfl rfl ?_
      refine rn_iret rfl (Or.inr (by omega)) ?_
      first | rfl | (refine congrArg (fun z => ((some (some (mI z)) : Option (Option MV)), mkh μ c s)) ?_; first | rfl | omega | (symm; first | (rw [if_pos (by omega)]; first | done | rfl | omega) | (rw [if_neg (by omega)]; first | done | rfl | omega)) | (symm; unfold g_tim; first | (rw [if_pos (by omega)]; first | done | rfl | omega) | (rw [if_neg (by omega)]; first | done | rfl | omega)) | (symm; unfold g_st; first | (rw [if_pos (by omega)]; first | done | rfl | omega) | (rw [if_neg (by omega)]; first | done | rfl | omega)) | (symm; unfold g_dep; first | (rw [if_pos (by omega)]; first | done | rfl | omega) | (rw [if_neg (by omega)]; first | done | rfl | omega)) | (symm; unfold g_nb; first | (rw [if_pos (by omega)]; first | done | rfl | omega) | (rw [if_neg (by omega)]; first | done | rfl | omega)) | ((try unfold g_st); (try unfold g_dep); (try unfold g_nb); (repeat' split) <;> omega) | (symm; (repeat (first | rw [if_pos (by omega)] | rw [if_neg (by omega)])); first | done | rfl | omega))
    · skip
      refine rn_iconst (k' := 6) rfl rfl ?_
      refine rn_goto rfl ?_
      refine rn_iret rfl (Or.inr (by omega)) ?_
      first | rfl | (refine congrArg (fun z => ((some (some (mI z)) : Option (Option MV)), mkh μ c s)) ?_; first | rfl | omega | (symm; first | (rw [if_pos (by omega)]; first | done | rfl | omega) | (rw [if_neg (by omega)]; first | done | rfl | omega)) | (symm; unfold g_tim; first | (rw [if_pos (by omega)]; first | done | rfl | omega) | (rw [if_neg (by omega)]; first | done | rfl | omega)) | (symm; unfold g_st; first | (rw [if_pos (by omega)]; first | done | rfl | omega) | (rw [if_neg (by omega)]; first | done | rfl | omega)) | (symm; unfold g_dep; first | (rw [if_pos (by omega)]; first | done | rfl | omega) | (rw [if_neg (by omega)]; first | done | rfl | omega)) | (symm; unfold g_nb; first | (rw [if_pos (by omega)]; first | done | rfl | omega) | (rw [if_neg (by omega)]; first | done | rfl | omega)) | ((try unfold g_st); (try unfold g_dep); (try unfold g_nb); (repeat' split) <;> omega) | (symm; (repeat (first | rw [if_pos (by omega)] | rw [if_neg (by omega)])); first | done | rfl | omega))
set_option maxHeartbeats 2000000 in
theorem c_X11_isNight {μ : Nat → Nat → Int} {c s : Nat} {a : Int} : Cl PT 154 [mI a] (mkh μ c s) (fun r => r = (some (some (mI (if 1 ≤ a ∧ a ≤ 20 then 1 else 0))), mkh (μ) c s)) := by
  refine ⟨_, PT_154, Nat.le_of_ble_eq_true rfl, ?_⟩
  show Rn PT none kX11_isNight 0 [some (mI (a))] [] (mkh μ c s) _
  refine rn_iload_n (k' := 1) rfl rfl rfl ?_
  refine rn_iconst (k' := 2) rfl rfl ?_
  refine rn_icmp_lt (k' := 3) rfl rfl (fun hc1 => ?_) (fun hc1 => ?_)
  · skip
    refine rn_iconst (k' := 9) rfl rfl ?_
    refine rn_iret rfl (Or.inr (by omega)) ?_
    first | rfl | (refine congrArg (fun z => ((some (some (mI z)) : Option (Option MV)), mkh μ c s)) ?_; first | rfl | omega | (symm; first | (rw [if_pos (by omega)]; first | done | rfl | omega) | (rw [if_neg (by omega)]; first | done | rfl | omega)) | (symm; unfold g_tim; first | (rw [if_pos (by omega)]; first | done | rfl | omega) | (rw [if_neg (by omega)]; first | done | rfl | omega)) | (symm; unfold g_st; first | (rw [if_pos (by omega)]; first | done | rfl | omega) | (rw [if_neg (by omega)]; first | done | rfl | omega)) | (symm; unfold g_dep; first | (rw [if_pos (by omega)]; first | done | rfl | omega) | (rw [if_neg (by omega)]; first | done | rfl | omega)) | (symm; unfold g_nb; first | (rw [if_pos (by omega)]; first | done | rfl | omega) | (rw [if_neg (by omega)]; first | done | rfl | omega)) | ((try unfold g_st); (try unfold g_dep); (try unfold g_nb); (repeat' split) <;> omega) | (symm; (repeat (first | rw [if_pos (by omega)] | rw [if_neg (by omega)])); first | done | rfl | omega))
  · skip
    refine rn_iload_n (k' := 4) rfl rfl rfl ?_
    refine rn_bipush (k' := 5) rfl rfl ?_
    refine rn_icmp_gt (k' := 6) rfl rfl (fun hc2 => ?_) (fun hc2 => ?_)
    · skip
      refine rn_iconst (k' := 9) rfl rfl ?_
      refine rn_iret rfl (Or.inr (by omega)) ?_
      first | rfl | (refine congrArg (fun z => ((some (some (mI z)) : Option (Option MV)), mkh μ c s)) ?_; first | rfl | omega | (symm; first | (rw [if_pos (by omega)]; first | done | rfl | omega) | (rw [if_neg (by omega)]; first | done | rfl | omega)) | (symm; unfold g_tim; first | (rw [if_pos (by omega)]; first | done | rfl | omega) | (rw [if_neg (by omega)]; first | done | rfl | omega)) | (symm; unfold g_st; first | (rw [if_pos (by omega)]; first | done | rfl | omega) | (rw [if_neg (by omega)]; first | done | rfl | omega)) | (symm; unfold g_dep; first | (rw [if_pos (by omega)]; first | done | rfl | omega) | (rw [if_neg (by omega)]; first | done | rfl | omega)) | (symm; unfold g_nb; first | (rw [if_pos (by omega)]; first | done | rfl | omega) | (rw [if_neg (by omega)]; first | done | rfl | omega)) | ((try unfold g_st); (try unfold g_dep); (try unfold g_nb); (repeat' split) <;> omega) | (symm; (repeat (first | rw [if_pos (by omega)] | rw [if_neg (by omega)])); first | done | rfl | omega))
    · skip
      refine rn_iconst (k' := 7) rfl rfl ?_
      refine rn_goto rfl ?_
      refine rn_iret rfl (Or.inr (by omega)) ?_
      first | rfl | (refine congrArg (fun z => ((some (some (mI z)) : Option (Option MV)), mkh μ c s)) ?_; first | rfl | omega | (symm; first | (rw [if_pos (by omega)]; first | done | rfl | omega) | (rw [if_neg (by omega)]; first | done | rfl | omega)) | (symm; unfold g_tim; first | (rw [if_pos (by omega)]; first | done | rfl | omega) | (rw [if_neg (by omega)]; first | done | rfl | omega)) | (symm; unfold g_st; first | (rw [if_pos (by omega)]; first | done | rfl | omega) | (rw [if_neg (by omega)]; first | done | rfl | omega)) | (symm; unfold g_dep; first | (rw [if_pos (by omega)]; first | done | rfl | omega) | (rw [if_neg (by omega)]; first | done | rfl | omega)) | (symm; unfold g_nb; first | (rw [if_pos (by omega)]; first | done | rfl | omega) | (rw [if_neg (by omega)]; first | done | rfl | omega)) | ((try unfold g_st); (try unfold g_dep); (try unfold g_nb); (repeat' split) <;> omega) | (symm; (repeat (first | rw [if_pos (by omega)] | rw [if_neg (by omega)])); first | done | rfl | omega))
set_option maxHeartbeats 2000000 in
theorem c_X11_areSuch {μ : Nat → Nat → Int} {c s : Nat} (hL : I_land μ) {a b t d : Int} (ha : i32 a) (hb : i32 b) : Cl PT 155 [mR 0, mI a, mI b, mI t, mI d] (mkh μ c s) (fun r => r = (some (some (mI (if g_cell μ a ∧ g_cell μ b ∧ (0 ≤ t ∧ t ≤ 99) ∧ 0 ≤ d ∧ d ≤ 29 then 1 else 0))), mkh (μ) c s)) := by
  have hL_ := hL
  obtain ⟨lc, lr, le, lm, lw, lh, lwo, lwd, q0, q1, q2, q3, q4, q8, q499, q500, lth, lG, lT, lW, -⟩ := hL_
  refine ⟨_, PT_155, Nat.le_of_ble_eq_true rfl, ?_⟩
  show Rn PT none kX11_areSuch 0 [some (mR 0), some (mI (a)), some (mI (b)), some (mI (t)), some (mI (d))] [] (mkh μ c s) _
  refine rn_aload_n (k' := 1) rfl rfl rfl ?_
  refine rn_getR (k' := 2) rfl rfl K0_0 (by decide) rfl R0_0_3 ?_
  refine rn_iload_n (k' := 3) rfl rfl rfl ?_
  by_cases hq1 : g_cell μ a
  · refine rn_callP (k' := 4) (y := 30) (vs := [mR 6, mI (a)]) (S' := []) (v := some (mI 1)) (h' := mkh μ c s) rfl rfl rfl (by have hz : Cl PT 30 [mR 6, mI (a)] (mkh μ c s) (fun r => r = (some (some (mI (if g_cell μ a then 1 else 0))), mkh μ c s)) := k_hasCell (a := a) (by omega) (μ := μ) (c := c) (s := s); rw [if_pos hq1] at hz; exact hz) ?_
    show Rn PT none kX11_areSuch 4 [some (mR 0), some (mI (a)), some (mI (b)), some (mI (t)), some (mI (d))] [mI (1)] (mkh μ c s) _
    refine rn_if_eq (k' := 5) rfl rfl (fun hc2 => ?_) (fun hc2 => ?_)
    · exfalso; omega
    · skip
      refine rn_aload_n (k' := 6) rfl rfl rfl ?_
      refine rn_getR (k' := 7) rfl rfl K0_0 (by decide) rfl R0_0_3 ?_
      refine rn_iload_n (k' := 8) rfl rfl rfl ?_
      by_cases hq3 : g_cell μ b
      · refine rn_callP (k' := 9) (y := 30) (vs := [mR 6, mI (b)]) (S' := []) (v := some (mI 1)) (h' := mkh μ c s) rfl rfl rfl (by have hz : Cl PT 30 [mR 6, mI (b)] (mkh μ c s) (fun r => r = (some (some (mI (if g_cell μ b then 1 else 0))), mkh μ c s)) := k_hasCell (a := b) (by omega) (μ := μ) (c := c) (s := s); rw [if_pos hq3] at hz; exact hz) ?_
        show Rn PT none kX11_areSuch 9 [some (mR 0), some (mI (a)), some (mI (b)), some (mI (t)), some (mI (d))] [mI (1)] (mkh μ c s) _
        refine rn_if_eq (k' := 10) rfl rfl (fun hc4 => ?_) (fun hc4 => ?_)
        · exfalso; omega
        · skip
          refine rn_iload_n (k' := 11) rfl rfl rfl ?_
          by_cases hq5 : 0 ≤ t ∧ t ≤ 99
          · refine rn_callP (k' := 12) (y := 153) (vs := [mI (t)]) (S' := []) (v := some (mI 1)) (h' := mkh μ c s) rfl rfl rfl (by have hz : Cl PT 153 [mI (t)] (mkh μ c s) (fun r => r = (some (some (mI (if 0 ≤ t ∧ t ≤ 99 then 1 else 0))), mkh μ c s)) := c_X11_isNumber (a := t) (μ := μ) (c := c) (s := s); rw [if_pos hq5] at hz; exact hz) ?_
            show Rn PT none kX11_areSuch 12 [some (mR 0), some (mI (a)), some (mI (b)), some (mI (t)), some (mI (d))] [mI (1)] (mkh μ c s) _
            refine rn_if_eq (k' := 13) rfl rfl (fun hc6 => ?_) (fun hc6 => ?_)
            · exfalso; omega
            · skip
              refine rn_iload (k' := 14) rfl rfl rfl ?_
              by_cases hq7 : 0 ≤ d ∧ d ≤ 29
              · refine rn_callP (k' := 15) (y := 152) (vs := [mI (d)]) (S' := []) (v := some (mI 1)) (h' := mkh μ c s) rfl rfl rfl (by have hz : Cl PT 152 [mI (d)] (mkh μ c s) (fun r => r = (some (some (mI (if 0 ≤ d ∧ d ≤ 29 then 1 else 0))), mkh μ c s)) := c_X11_isDay (a := d) (μ := μ) (c := c) (s := s); rw [if_pos hq7] at hz; exact hz) ?_
                show Rn PT none kX11_areSuch 15 [some (mR 0), some (mI (a)), some (mI (b)), some (mI (t)), some (mI (d))] [mI (1)] (mkh μ c s) _
                refine rn_if_eq (k' := 16) rfl rfl (fun hc8 => ?_) (fun hc8 => ?_)
                · exfalso; omega
                · skip
                  refine rn_iconst (k' := 17) rfl rfl ?_
                  refine rn_goto rfl ?_
                  refine rn_iret rfl (Or.inr (by omega)) ?_
                  first | rfl | (refine congrArg (fun z => ((some (some (mI z)) : Option (Option MV)), mkh μ c s)) ?_; first | rfl | omega | (symm; first | (rw [if_pos (by omega)]; first | done | rfl | omega) | (rw [if_neg (by omega)]; first | done | rfl | omega)) | (symm; unfold g_tim; first | (rw [if_pos (by omega)]; first | done | rfl | omega) | (rw [if_neg (by omega)]; first | done | rfl | omega)) | (symm; unfold g_st; first | (rw [if_pos (by omega)]; first | done | rfl | omega) | (rw [if_neg (by omega)]; first | done | rfl | omega)) | (symm; unfold g_dep; first | (rw [if_pos (by omega)]; first | done | rfl | omega) | (rw [if_neg (by omega)]; first | done | rfl | omega)) | (symm; unfold g_nb; first | (rw [if_pos (by omega)]; first | done | rfl | omega) | (rw [if_neg (by omega)]; first | done | rfl | omega)) | ((try unfold g_st); (try unfold g_dep); (try unfold g_nb); (repeat' split) <;> omega) | (symm; (repeat (first | rw [if_pos (by omega)] | rw [if_neg (by omega)])); first | done | rfl | omega))
              · refine rn_callP (k' := 15) (y := 152) (vs := [mI (d)]) (S' := []) (v := some (mI 0)) (h' := mkh μ c s) rfl rfl rfl (by have hz : Cl PT 152 [mI (d)] (mkh μ c s) (fun r => r = (some (some (mI (if 0 ≤ d ∧ d ≤ 29 then 1 else 0))), mkh μ c s)) := c_X11_isDay (a := d) (μ := μ) (c := c) (s := s); rw [if_neg hq7] at hz; exact hz) ?_
                show Rn PT none kX11_areSuch 15 [some (mR 0), some (mI (a)), some (mI (b)), some (mI (t)), some (mI (d))] [mI (0)] (mkh μ c s) _
                refine rn_if_eq (k' := 16) rfl rfl (fun hc9 => ?_) (fun hc9 => ?_)
                · skip
                  refine rn_iconst (k' := 19) rfl rfl ?_
                  refine rn_iret rfl (Or.inr (by omega)) ?_
                  first | rfl | (refine congrArg (fun z => ((some (some (mI z)) : Option (Option MV)), mkh μ c s)) ?_; first | rfl | omega | (symm; first | (rw [if_pos (by omega)]; first | done | rfl | omega) | (rw [if_neg (by omega)]; first | done | rfl | omega)) | (symm; unfold g_tim; first | (rw [if_pos (by omega)]; first | done | rfl | omega) | (rw [if_neg (by omega)]; first | done | rfl | omega)) | (symm; unfold g_st; first | (rw [if_pos (by omega)]; first | done | rfl | omega) | (rw [if_neg (by omega)]; first | done | rfl | omega)) | (symm; unfold g_dep; first | (rw [if_pos (by omega)]; first | done | rfl | omega) | (rw [if_neg (by omega)]; first | done | rfl | omega)) | (symm; unfold g_nb; first | (rw [if_pos (by omega)]; first | done | rfl | omega) | (rw [if_neg (by omega)]; first | done | rfl | omega)) | ((try unfold g_st); (try unfold g_dep); (try unfold g_nb); (repeat' split) <;> omega) | (symm; (repeat (first | rw [if_pos (by omega)] | rw [if_neg (by omega)])); first | done | rfl | omega))
                · exfalso; omega
          · refine rn_callP (k' := 12) (y := 153) (vs := [mI (t)]) (S' := []) (v := some (mI 0)) (h' := mkh μ c s) rfl rfl rfl (by have hz : Cl PT 153 [mI (t)] (mkh μ c s) (fun r => r = (some (some (mI (if 0 ≤ t ∧ t ≤ 99 then 1 else 0))), mkh μ c s)) := c_X11_isNumber (a := t) (μ := μ) (c := c) (s := s); rw [if_neg hq5] at hz; exact hz) ?_
            show Rn PT none kX11_areSuch 12 [some (mR 0), some (mI (a)), some (mI (b)), some (mI (t)), some (mI (d))] [mI (0)] (mkh μ c s) _
            refine rn_if_eq (k' := 13) rfl rfl (fun hc10 => ?_) (fun hc10 => ?_)
            · skip
              refine rn_iconst (k' := 19) rfl rfl ?_
              refine rn_iret rfl (Or.inr (by omega)) ?_
              first | rfl | (refine congrArg (fun z => ((some (some (mI z)) : Option (Option MV)), mkh μ c s)) ?_; first | rfl | omega | (symm; first | (rw [if_pos (by omega)]; first | done | rfl | omega) | (rw [if_neg (by omega)]; first | done | rfl | omega)) | (symm; unfold g_tim; first | (rw [if_pos (by omega)]; first | done | rfl | omega) | (rw [if_neg (by omega)]; first | done | rfl | omega)) | (symm; unfold g_st; first | (rw [if_pos (by omega)]; first | done | rfl | omega) | (rw [if_neg (by omega)]; first | done | rfl | omega)) | (symm; unfold g_dep; first | (rw [if_pos (by omega)]; first | done | rfl | omega) | (rw [if_neg (by omega)]; first | done | rfl | omega)) | (symm; unfold g_nb; first | (rw [if_pos (by omega)]; first | done | rfl | omega) | (rw [if_neg (by omega)]; first | done | rfl | omega)) | ((try unfold g_st); (try unfold g_dep); (try unfold g_nb); (repeat' split) <;> omega) | (symm; (repeat (first | rw [if_pos (by omega)] | rw [if_neg (by omega)])); first | done | rfl | omega))
            · exfalso; omega
      · refine rn_callP (k' := 9) (y := 30) (vs := [mR 6, mI (b)]) (S' := []) (v := some (mI 0)) (h' := mkh μ c s) rfl rfl rfl (by have hz : Cl PT 30 [mR 6, mI (b)] (mkh μ c s) (fun r => r = (some (some (mI (if g_cell μ b then 1 else 0))), mkh μ c s)) := k_hasCell (a := b) (by omega) (μ := μ) (c := c) (s := s); rw [if_neg hq3] at hz; exact hz) ?_
        show Rn PT none kX11_areSuch 9 [some (mR 0), some (mI (a)), some (mI (b)), some (mI (t)), some (mI (d))] [mI (0)] (mkh μ c s) _
        refine rn_if_eq (k' := 10) rfl rfl (fun hc11 => ?_) (fun hc11 => ?_)
        · skip
          refine rn_iconst (k' := 19) rfl rfl ?_
          refine rn_iret rfl (Or.inr (by omega)) ?_
          first | rfl | (refine congrArg (fun z => ((some (some (mI z)) : Option (Option MV)), mkh μ c s)) ?_; first | rfl | omega | (symm; first | (rw [if_pos (by omega)]; first | done | rfl | omega) | (rw [if_neg (by omega)]; first | done | rfl | omega)) | (symm; unfold g_tim; first | (rw [if_pos (by omega)]; first | done | rfl | omega) | (rw [if_neg (by omega)]; first | done | rfl | omega)) | (symm; unfold g_st; first | (rw [if_pos (by omega)]; first | done | rfl | omega) | (rw [if_neg (by omega)]; first | done | rfl | omega)) | (symm; unfold g_dep; first | (rw [if_pos (by omega)]; first | done | rfl | omega) | (rw [if_neg (by omega)]; first | done | rfl | omega)) | (symm; unfold g_nb; first | (rw [if_pos (by omega)]; first | done | rfl | omega) | (rw [if_neg (by omega)]; first | done | rfl | omega)) | ((try unfold g_st); (try unfold g_dep); (try unfold g_nb); (repeat' split) <;> omega) | (symm; (repeat (first | rw [if_pos (by omega)] | rw [if_neg (by omega)])); first | done | rfl | omega))
        · exfalso; omega
  · refine rn_callP (k' := 4) (y := 30) (vs := [mR 6, mI (a)]) (S' := []) (v := some (mI 0)) (h' := mkh μ c s) rfl rfl rfl (by have hz : Cl PT 30 [mR 6, mI (a)] (mkh μ c s) (fun r => r = (some (some (mI (if g_cell μ a then 1 else 0))), mkh μ c s)) := k_hasCell (a := a) (by omega) (μ := μ) (c := c) (s := s); rw [if_neg hq1] at hz; exact hz) ?_
    show Rn PT none kX11_areSuch 4 [some (mR 0), some (mI (a)), some (mI (b)), some (mI (t)), some (mI (d))] [mI (0)] (mkh μ c s) _
    refine rn_if_eq (k' := 5) rfl rfl (fun hc12 => ?_) (fun hc12 => ?_)
    · skip
      refine rn_iconst (k' := 19) rfl rfl ?_
      refine rn_iret rfl (Or.inr (by omega)) ?_
      first | rfl | (refine congrArg (fun z => ((some (some (mI z)) : Option (Option MV)), mkh μ c s)) ?_; first | rfl | omega | (symm; first | (rw [if_pos (by omega)]; first | done | rfl | omega) | (rw [if_neg (by omega)]; first | done | rfl | omega)) | (symm; unfold g_tim; first | (rw [if_pos (by omega)]; first | done | rfl | omega) | (rw [if_neg (by omega)]; first | done | rfl | omega)) | (symm; unfold g_st; first | (rw [if_pos (by omega)]; first | done | rfl | omega) | (rw [if_neg (by omega)]; first | done | rfl | omega)) | (symm; unfold g_dep; first | (rw [if_pos (by omega)]; first | done | rfl | omega) | (rw [if_neg (by omega)]; first | done | rfl | omega)) | (symm; unfold g_nb; first | (rw [if_pos (by omega)]; first | done | rfl | omega) | (rw [if_neg (by omega)]; first | done | rfl | omega)) | ((try unfold g_st); (try unfold g_dep); (try unfold g_nb); (repeat' split) <;> omega) | (symm; (repeat (first | rw [if_pos (by omega)] | rw [if_neg (by omega)])); first | done | rfl | omega))
    · exfalso; omega
set_option maxHeartbeats 2000000 in
theorem c_X11_waterToday {μ : Nat → Nat → Int} {c s : Nat} (hL : I_land μ) (hd : 0 ≤ μ 14 0 ∧ μ 14 0 ≤ 29) : Cl PT 156 [mR 0] (mkh μ c s) (fun r => r = (some (some (mI (g_w μ 0 (μ 14 0)))), mkh (μ) c s)) := by
  have hL_ := hL
  obtain ⟨lc, lr, le, lm, lw, lh, lwo, lwd, q0, q1, q2, q3, q4, q8, q499, q500, lth, lG, lT, lW, -⟩ := hL_
  refine ⟨_, PT_156, Nat.le_of_ble_eq_true rfl, ?_⟩
  show Rn PT none kX11_waterToday 0 [some (mR 0)] [] (mkh μ c s) _
  refine rn_aload_n (k' := 1) rfl rfl rfl ?_
  refine rn_getR (k' := 2) rfl rfl K0_0 (by decide) rfl R0_0_3 ?_
  refine rn_iconst (k' := 3) rfl rfl ?_
  refine rn_aload_n (k' := 4) rfl rfl rfl ?_
  refine rn_getR (k' := 5) rfl rfl K0_0 (by decide) rfl R0_0_4 ?_
  refine rn_getI (k' := 6) rfl rfl K0_14 (by decide) rfl ?_
  have hb1 := g_w_b hL 0 (μ 14 0)
  refine rn_callP (k' := 7) (y := 32) (vs := [mR 6, mI (0), mI (μ 14 0)]) (S' := []) (v := some (mI (g_w μ 0 (μ 14 0)))) (h' := mkh μ c s) rfl rfl rfl (k_weatherOn (hL) (by omega) (by omega)) ?_
  show Rn PT none kX11_waterToday 7 [some (mR 0)] [mI (g_w μ 0 (μ 14 0))] (mkh μ c s) _
  refine rn_iret rfl (Or.inl rfl) ?_
  first | rfl | (refine congrArg (fun z => ((some (some (mI z)) : Option (Option MV)), mkh μ c s)) ?_; first | rfl | omega | (symm; first | (rw [if_pos (by omega)]; first | done | rfl | omega) | (rw [if_neg (by omega)]; first | done | rfl | omega)) | (symm; unfold g_tim; first | (rw [if_pos (by omega)]; first | done | rfl | omega) | (rw [if_neg (by omega)]; first | done | rfl | omega)) | (symm; unfold g_st; first | (rw [if_pos (by omega)]; first | done | rfl | omega) | (rw [if_neg (by omega)]; first | done | rfl | omega)) | (symm; unfold g_dep; first | (rw [if_pos (by omega)]; first | done | rfl | omega) | (rw [if_neg (by omega)]; first | done | rfl | omega)) | (symm; unfold g_nb; first | (rw [if_pos (by omega)]; first | done | rfl | omega) | (rw [if_neg (by omega)]; first | done | rfl | omega)) | ((try unfold g_st); (try unfold g_dep); (try unfold g_nb); (repeat' split) <;> omega) | (symm; (repeat (first | rw [if_pos (by omega)] | rw [if_neg (by omega)])); first | done | rfl | omega))
set_option maxHeartbeats 2000000 in
theorem c_X11_stiltsOf {μ : Nat → Nat → Int} {c s : Nat} (hL : I_land μ) (hH : ∀ j, 0 ≤ μ 16 j ∧ μ 16 j ≤ 99) {a : Int} (ha : 0 ≤ a ∧ a < 8) : Cl PT 157 [mR 0, mI a] (mkh μ c s) (fun r => r = (some (some (mI (g_st μ (μ 16 a.toNat)))), mkh (μ) c s)) := by
  have hL_ := hL
  obtain ⟨lc, lr, le, lm, lw, lh, lwo, lwd, q0, q1, q2, q3, q4, q8, q499, q500, lth, lG, lT, lW, -⟩ := hL_
  refine ⟨_, PT_157, Nat.le_of_ble_eq_true rfl, ?_⟩
  show Rn PT none kX11_stiltsOf 0 [some (mR 0), some (mI (a))] [] (mkh μ c s) _
  refine rn_aload_n (k' := 1) rfl rfl rfl ?_
  refine rn_getR (k' := 2) rfl rfl K0_0 (by decide) rfl R0_0_3 ?_
  refine rn_aload_n (k' := 3) rfl rfl rfl ?_
  refine rn_getR (k' := 4) rfl rfl K0_0 (by decide) rfl R0_0_4 ?_
  refine rn_getR (k' := 5) rfl rfl K0_14 (by decide) rfl R0_14_2 ?_
  refine rn_iload_n (k' := 6) rfl rfl rfl ?_
  refine rn_iaload (k' := 7) rfl rfl K0_16 (by omega) (by omega) ?_
  have hb1 := hH ((a).toNat)
  have hb2 := g_st_b hL (a := (μ 16 ((a).toNat))) (by omega)
  refine rn_callP (k' := 8) (y := 33) (vs := [mR 6, mI (μ 16 ((a).toNat))]) (S' := []) (v := some (mI (g_st μ (μ 16 ((a).toNat))))) (h' := mkh μ c s) rfl rfl rfl (k_stiltsFor (hL) (by omega)) ?_
  show Rn PT none kX11_stiltsOf 8 [some (mR 0), some (mI (a))] [mI (g_st μ (μ 16 ((a).toNat)))] (mkh μ c s) _
  refine rn_iret rfl (Or.inl rfl) ?_
  first | rfl | (refine congrArg (fun z => ((some (some (mI z)) : Option (Option MV)), mkh μ c s)) ?_; first | rfl | omega | (symm; first | (rw [if_pos (by omega)]; first | done | rfl | omega) | (rw [if_neg (by omega)]; first | done | rfl | omega)) | (symm; unfold g_tim; first | (rw [if_pos (by omega)]; first | done | rfl | omega) | (rw [if_neg (by omega)]; first | done | rfl | omega)) | (symm; unfold g_st; first | (rw [if_pos (by omega)]; first | done | rfl | omega) | (rw [if_neg (by omega)]; first | done | rfl | omega)) | (symm; unfold g_dep; first | (rw [if_pos (by omega)]; first | done | rfl | omega) | (rw [if_neg (by omega)]; first | done | rfl | omega)) | (symm; unfold g_nb; first | (rw [if_pos (by omega)]; first | done | rfl | omega) | (rw [if_neg (by omega)]; first | done | rfl | omega)) | ((try unfold g_st); (try unfold g_dep); (try unfold g_nb); (repeat' split) <;> omega) | (symm; (repeat (first | rw [if_pos (by omega)] | rw [if_neg (by omega)])); first | done | rfl | omega))
set_option maxHeartbeats 2000000 in
theorem c_X12_isDay {μ : Nat → Nat → Int} {c s : Nat} {a : Int} : Cl PT 194 [mI a] (mkh μ c s) (fun r => r = (some (some (mI (if 0 ≤ a ∧ a ≤ 29 then 1 else 0))), mkh (μ) c s)) := by
  refine ⟨_, PT_194, Nat.le_of_ble_eq_true rfl, ?_⟩
  show Rn PT none kX12_isDay 0 [some (mI (a))] [] (mkh μ c s) _
  refine rn_iload_n (k' := 1) rfl rfl rfl ?_
  refine rn_iconst (k' := 2) rfl rfl ?_
  refine rn_bipush (k' := 3) rfl rfl ?_
  by_cases hq1 : 0 ≤ a ∧ a ≤ 29
  · refine rn_callP (k' := 4) (y := 167) (vs := [mI (a), mI (0), mI (29)]) (S' := []) (v := some (mI 1)) (h' := mkh μ c s) rfl rfl rfl (by have hz : Cl PT 167 [mI (a), mI (0), mI (29)] (mkh μ c s) (fun r => r = (some (some (mI (if 0 ≤ a ∧ a ≤ 29 then 1 else 0))), mkh μ c s)) := c_X12_isIn (v := a) (lo := 0) (hi := 29) (μ := μ) (c := c) (s := s); rw [if_pos hq1] at hz; exact hz) ?_
    show Rn PT none kX12_isDay 4 [some (mI (a))] [mI (1)] (mkh μ c s) _
    refine rn_iret rfl (Or.inr (by omega)) ?_
    first | rfl | (refine congrArg (fun z => ((some (some (mI z)) : Option (Option MV)), mkh μ c s)) ?_; first | rfl | omega | (symm; first | (rw [if_pos (by omega)]; first | done | rfl | omega) | (rw [if_neg (by omega)]; first | done | rfl | omega)) | (symm; unfold g_tim; first | (rw [if_pos (by omega)]; first | done | rfl | omega) | (rw [if_neg (by omega)]; first | done | rfl | omega)) | (symm; unfold g_st; first | (rw [if_pos (by omega)]; first | done | rfl | omega) | (rw [if_neg (by omega)]; first | done | rfl | omega)) | (symm; unfold g_dep; first | (rw [if_pos (by omega)]; first | done | rfl | omega) | (rw [if_neg (by omega)]; first | done | rfl | omega)) | (symm; unfold g_nb; first | (rw [if_pos (by omega)]; first | done | rfl | omega) | (rw [if_neg (by omega)]; first | done | rfl | omega)) | ((try unfold g_st); (try unfold g_dep); (try unfold g_nb); (repeat' split) <;> omega) | (symm; (repeat (first | rw [if_pos (by omega)] | rw [if_neg (by omega)])); first | done | rfl | omega))
  · refine rn_callP (k' := 4) (y := 167) (vs := [mI (a), mI (0), mI (29)]) (S' := []) (v := some (mI 0)) (h' := mkh μ c s) rfl rfl rfl (by have hz : Cl PT 167 [mI (a), mI (0), mI (29)] (mkh μ c s) (fun r => r = (some (some (mI (if 0 ≤ a ∧ a ≤ 29 then 1 else 0))), mkh μ c s)) := c_X12_isIn (v := a) (lo := 0) (hi := 29) (μ := μ) (c := c) (s := s); rw [if_neg hq1] at hz; exact hz) ?_
    show Rn PT none kX12_isDay 4 [some (mI (a))] [mI (0)] (mkh μ c s) _
    refine rn_iret rfl (Or.inr (by omega)) ?_
    first | rfl | (refine congrArg (fun z => ((some (some (mI z)) : Option (Option MV)), mkh μ c s)) ?_; first | rfl | omega | (symm; first | (rw [if_pos (by omega)]; first | done | rfl | omega) | (rw [if_neg (by omega)]; first | done | rfl | omega)) | (symm; unfold g_tim; first | (rw [if_pos (by omega)]; first | done | rfl | omega) | (rw [if_neg (by omega)]; first | done | rfl | omega)) | (symm; unfold g_st; first | (rw [if_pos (by omega)]; first | done | rfl | omega) | (rw [if_neg (by omega)]; first | done | rfl | omega)) | (symm; unfold g_dep; first | (rw [if_pos (by omega)]; first | done | rfl | omega) | (rw [if_neg (by omega)]; first | done | rfl | omega)) | (symm; unfold g_nb; first | (rw [if_pos (by omega)]; first | done | rfl | omega) | (rw [if_neg (by omega)]; first | done | rfl | omega)) | ((try unfold g_st); (try unfold g_dep); (try unfold g_nb); (repeat' split) <;> omega) | (symm; (repeat (first | rw [if_pos (by omega)] | rw [if_neg (by omega)])); first | done | rfl | omega))
set_option maxHeartbeats 2000000 in
theorem c_X12_isTall {μ : Nat → Nat → Int} {c s : Nat} {a : Int} : Cl PT 195 [mI a] (mkh μ c s) (fun r => r = (some (some (mI (if 0 ≤ a ∧ a ≤ 99 then 1 else 0))), mkh (μ) c s)) := by
  refine ⟨_, PT_195, Nat.le_of_ble_eq_true rfl, ?_⟩
  show Rn PT none kX12_isTall 0 [some (mI (a))] [] (mkh μ c s) _
  refine rn_iload_n (k' := 1) rfl rfl rfl ?_
  refine rn_iconst (k' := 2) rfl rfl ?_
  refine rn_bipush (k' := 3) rfl rfl ?_
  by_cases hq1 : 0 ≤ a ∧ a ≤ 99
  · refine rn_callP (k' := 4) (y := 167) (vs := [mI (a), mI (0), mI (99)]) (S' := []) (v := some (mI 1)) (h' := mkh μ c s) rfl rfl rfl (by have hz : Cl PT 167 [mI (a), mI (0), mI (99)] (mkh μ c s) (fun r => r = (some (some (mI (if 0 ≤ a ∧ a ≤ 99 then 1 else 0))), mkh μ c s)) := c_X12_isIn (v := a) (lo := 0) (hi := 99) (μ := μ) (c := c) (s := s); rw [if_pos hq1] at hz; exact hz) ?_
    show Rn PT none kX12_isTall 4 [some (mI (a))] [mI (1)] (mkh μ c s) _
    refine rn_iret rfl (Or.inr (by omega)) ?_
    first | rfl | (refine congrArg (fun z => ((some (some (mI z)) : Option (Option MV)), mkh μ c s)) ?_; first | rfl | omega | (symm; first | (rw [if_pos (by omega)]; first | done | rfl | omega) | (rw [if_neg (by omega)]; first | done | rfl | omega)) | (symm; unfold g_tim; first | (rw [if_pos (by omega)]; first | done | rfl | omega) | (rw [if_neg (by omega)]; first | done | rfl | omega)) | (symm; unfold g_st; first | (rw [if_pos (by omega)]; first | done | rfl | omega) | (rw [if_neg (by omega)]; first | done | rfl | omega)) | (symm; unfold g_dep; first | (rw [if_pos (by omega)]; first | done | rfl | omega) | (rw [if_neg (by omega)]; first | done | rfl | omega)) | (symm; unfold g_nb; first | (rw [if_pos (by omega)]; first | done | rfl | omega) | (rw [if_neg (by omega)]; first | done | rfl | omega)) | ((try unfold g_st); (try unfold g_dep); (try unfold g_nb); (repeat' split) <;> omega) | (symm; (repeat (first | rw [if_pos (by omega)] | rw [if_neg (by omega)])); first | done | rfl | omega))
  · refine rn_callP (k' := 4) (y := 167) (vs := [mI (a), mI (0), mI (99)]) (S' := []) (v := some (mI 0)) (h' := mkh μ c s) rfl rfl rfl (by have hz : Cl PT 167 [mI (a), mI (0), mI (99)] (mkh μ c s) (fun r => r = (some (some (mI (if 0 ≤ a ∧ a ≤ 99 then 1 else 0))), mkh μ c s)) := c_X12_isIn (v := a) (lo := 0) (hi := 99) (μ := μ) (c := c) (s := s); rw [if_neg hq1] at hz; exact hz) ?_
    show Rn PT none kX12_isTall 4 [some (mI (a))] [mI (0)] (mkh μ c s) _
    refine rn_iret rfl (Or.inr (by omega)) ?_
    first | rfl | (refine congrArg (fun z => ((some (some (mI z)) : Option (Option MV)), mkh μ c s)) ?_; first | rfl | omega | (symm; first | (rw [if_pos (by omega)]; first | done | rfl | omega) | (rw [if_neg (by omega)]; first | done | rfl | omega)) | (symm; unfold g_tim; first | (rw [if_pos (by omega)]; first | done | rfl | omega) | (rw [if_neg (by omega)]; first | done | rfl | omega)) | (symm; unfold g_st; first | (rw [if_pos (by omega)]; first | done | rfl | omega) | (rw [if_neg (by omega)]; first | done | rfl | omega)) | (symm; unfold g_dep; first | (rw [if_pos (by omega)]; first | done | rfl | omega) | (rw [if_neg (by omega)]; first | done | rfl | omega)) | (symm; unfold g_nb; first | (rw [if_pos (by omega)]; first | done | rfl | omega) | (rw [if_neg (by omega)]; first | done | rfl | omega)) | ((try unfold g_st); (try unfold g_dep); (try unfold g_nb); (repeat' split) <;> omega) | (symm; (repeat (first | rw [if_pos (by omega)] | rw [if_neg (by omega)])); first | done | rfl | omega))
set_option maxHeartbeats 2000000 in
theorem c_X12_isCell {μ : Nat → Nat → Int} {c s : Nat} (hL : I_land μ) {a : Int} (ha : i32 a) : Cl PT 192 [mR 118, mI a] (mkh μ c s) (fun r => r = (some (some (mI (if g_cell μ a then 1 else 0))), mkh (μ) c s)) := by
  have hL_ := hL
  obtain ⟨lc, lr, le, lm, lw, lh, lwo, lwd, q0, q1, q2, q3, q4, q8, q499, q500, lth, lG, lT, lW, -⟩ := hL_
  refine ⟨_, PT_192, Nat.le_of_ble_eq_true rfl, ?_⟩
  show Rn PT none kX12_isCell 0 [some (mR 118), some (mI (a))] [] (mkh μ c s) _
  refine rn_iload_n (k' := 1) rfl rfl rfl ?_
  refine rn_if_lt (k' := 2) rfl rfl (fun hc1 => ?_) (fun hc1 => ?_)
  · skip
    refine rn_iconst (k' := 21) rfl rfl ?_
    refine rn_iret rfl (Or.inr (by omega)) ?_
    first | rfl | (refine congrArg (fun z => ((some (some (mI z)) : Option (Option MV)), mkh μ c s)) ?_; first | rfl | omega | (symm; first | (rw [if_pos (by omega)]; first | done | rfl | omega) | (rw [if_neg (by omega)]; first | done | rfl | omega)) | (symm; unfold g_tim; first | (rw [if_pos (by omega)]; first | done | rfl | omega) | (rw [if_neg (by omega)]; first | done | rfl | omega)) | (symm; unfold g_st; first | (rw [if_pos (by omega)]; first | done | rfl | omega) | (rw [if_neg (by omega)]; first | done | rfl | omega)) | (symm; unfold g_dep; first | (rw [if_pos (by omega)]; first | done | rfl | omega) | (rw [if_neg (by omega)]; first | done | rfl | omega)) | (symm; unfold g_nb; first | (rw [if_pos (by omega)]; first | done | rfl | omega) | (rw [if_neg (by omega)]; first | done | rfl | omega)) | ((try unfold g_st); (try unfold g_dep); (try unfold g_nb); (repeat' split) <;> omega) | (symm; (repeat (first | rw [if_pos (by omega)] | rw [if_neg (by omega)])); first | done | rfl | omega))
  · skip
    refine rn_iload_n (k' := 3) rfl rfl rfl ?_
    refine rn_bipush (k' := 4) rfl rfl ?_
    refine rn_irem (k' := 5) rfl rfl (by omega) ?_
    refine rn_aload_n (k' := 6) rfl rfl rfl ?_
    refine rn_getR (k' := 7) rfl rfl K0_118 (by decide) rfl R0_118_6 ?_
    refine rn_iconst (k' := 8) rfl rfl ?_
    refine rn_iaload (k' := 9) rfl rfl K0_120 (by omega) (by omega) ?_
    show Rn PT none kX12_isCell 9 [some (mR 118), some (mI (a))] [mI (μ 120 0), mI ((a).tmod (10))] (mkh μ c s) _
    rw [q0]
    refine rn_icmp_ge (k' := 10) rfl rfl (fun hc2 => ?_) (fun hc2 => ?_)
    · skip
      refine rn_iconst (k' := 21) rfl rfl ?_
      refine rn_iret rfl (Or.inr (by omega)) ?_
      first | rfl | (refine congrArg (fun z => ((some (some (mI z)) : Option (Option MV)), mkh μ c s)) ?_; first | rfl | omega | (symm; first | (rw [if_pos (by omega)]; first | done | rfl | omega) | (rw [if_neg (by omega)]; first | done | rfl | omega)) | (symm; unfold g_tim; first | (rw [if_pos (by omega)]; first | done | rfl | omega) | (rw [if_neg (by omega)]; first | done | rfl | omega)) | (symm; unfold g_st; first | (rw [if_pos (by omega)]; first | done | rfl | omega) | (rw [if_neg (by omega)]; first | done | rfl | omega)) | (symm; unfold g_dep; first | (rw [if_pos (by omega)]; first | done | rfl | omega) | (rw [if_neg (by omega)]; first | done | rfl | omega)) | (symm; unfold g_nb; first | (rw [if_pos (by omega)]; first | done | rfl | omega) | (rw [if_neg (by omega)]; first | done | rfl | omega)) | ((try unfold g_st); (try unfold g_dep); (try unfold g_nb); (repeat' split) <;> omega) | (symm; (repeat (first | rw [if_pos (by omega)] | rw [if_neg (by omega)])); first | done | rfl | omega))
    · skip
      refine rn_iload_n (k' := 11) rfl rfl rfl ?_
      refine rn_bipush (k' := 12) rfl rfl ?_
      refine rn_idiv (k' := 13) rfl rfl (by omega) (tdiv_rng (by omega) (by omega)) ?_
      refine rn_aload_n (k' := 14) rfl rfl rfl ?_
      refine rn_getR (k' := 15) rfl rfl K0_118 (by decide) rfl R0_118_6 ?_
      refine rn_iconst (k' := 16) rfl rfl ?_
      refine rn_iaload (k' := 17) rfl rfl K0_120 (by omega) (by omega) ?_
      show Rn PT none kX12_isCell 17 [some (mR 118), some (mI (a))] [mI (μ 120 1), mI ((a).tdiv (10))] (mkh μ c s) _
      rw [q1]
      refine rn_icmp_ge (k' := 18) rfl rfl (fun hc3 => ?_) (fun hc3 => ?_)
      · skip
        refine rn_iconst (k' := 21) rfl rfl ?_
        refine rn_iret rfl (Or.inr (by omega)) ?_
        first | rfl | (refine congrArg (fun z => ((some (some (mI z)) : Option (Option MV)), mkh μ c s)) ?_; first | rfl | omega | (symm; first | (rw [if_pos (by omega)]; first | done | rfl | omega) | (rw [if_neg (by omega)]; first | done | rfl | omega)) | (symm; unfold g_tim; first | (rw [if_pos (by omega)]; first | done | rfl | omega) | (rw [if_neg (by omega)]; first | done | rfl | omega)) | (symm; unfold g_st; first | (rw [if_pos (by omega)]; first | done | rfl | omega) | (rw [if_neg (by omega)]; first | done | rfl | omega)) | (symm; unfold g_dep; first | (rw [if_pos (by omega)]; first | done | rfl | omega) | (rw [if_neg (by omega)]; first | done | rfl | omega)) | (symm; unfold g_nb; first | (rw [if_pos (by omega)]; first | done | rfl | omega) | (rw [if_neg (by omega)]; first | done | rfl | omega)) | ((try unfold g_st); (try unfold g_dep); (try unfold g_nb); (repeat' split) <;> omega) | (symm; (repeat (first | rw [if_pos (by omega)] | rw [if_neg (by omega)])); first | done | rfl | omega))
      · skip
        refine rn_iconst (k' := 19) rfl rfl ?_
        refine rn_goto rfl ?_
        refine rn_iret rfl (Or.inr (by omega)) ?_
        first | rfl | (refine congrArg (fun z => ((some (some (mI z)) : Option (Option MV)), mkh μ c s)) ?_; first | rfl | omega | (symm; first | (rw [if_pos (by omega)]; first | done | rfl | omega) | (rw [if_neg (by omega)]; first | done | rfl | omega)) | (symm; unfold g_tim; first | (rw [if_pos (by omega)]; first | done | rfl | omega) | (rw [if_neg (by omega)]; first | done | rfl | omega)) | (symm; unfold g_st; first | (rw [if_pos (by omega)]; first | done | rfl | omega) | (rw [if_neg (by omega)]; first | done | rfl | omega)) | (symm; unfold g_dep; first | (rw [if_pos (by omega)]; first | done | rfl | omega) | (rw [if_neg (by omega)]; first | done | rfl | omega)) | (symm; unfold g_nb; first | (rw [if_pos (by omega)]; first | done | rfl | omega) | (rw [if_neg (by omega)]; first | done | rfl | omega)) | ((try unfold g_st); (try unfold g_dep); (try unfold g_nb); (repeat' split) <;> omega) | (symm; (repeat (first | rw [if_pos (by omega)] | rw [if_neg (by omega)])); first | done | rfl | omega))
set_option maxHeartbeats 2000000 in
theorem c_X12_isHerd {μ : Nat → Nat → Int} {c s : Nat} (hL : I_land μ) {a : Int} : Cl PT 193 [mR 118, mI a] (mkh μ c s) (fun r => r = (some (some (mI (if 0 ≤ a ∧ a < μ 6 13 then 1 else 0))), mkh (μ) c s)) := by
  have hL_ := hL
  obtain ⟨lc, lr, le, lm, lw, lh, lwo, lwd, q0, q1, q2, q3, q4, q8, q499, q500, lth, lG, lT, lW, -⟩ := hL_
  refine ⟨_, PT_193, Nat.le_of_ble_eq_true rfl, ?_⟩
  show Rn PT none kX12_isHerd 0 [some (mR 118), some (mI (a))] [] (mkh μ c s) _
  refine rn_iload_n (k' := 1) rfl rfl rfl ?_
  refine rn_iconst (k' := 2) rfl rfl ?_
  refine rn_aload_n (k' := 3) rfl rfl rfl ?_
  refine rn_getR (k' := 4) rfl rfl K0_118 (by decide) rfl R0_118_6 ?_
  refine rn_bipush (k' := 5) rfl rfl ?_
  refine rn_iaload (k' := 6) rfl rfl K0_120 (by omega) (by omega) ?_
  show Rn PT none kX12_isHerd 6 [some (mR 118), some (mI (a))] [mI (μ 120 8), mI (0), mI (a)] (mkh μ c s) _
  rw [q8]
  refine rn_iconst (k' := 7) rfl rfl ?_
  refine rn_isub (k' := 8) rfl rfl (by omega) ?_
  by_cases hq1 : 0 ≤ a ∧ a ≤ (μ 6 13) - 1
  · refine rn_callP (k' := 9) (y := 167) (vs := [mI (a), mI (0), mI ((μ 6 13) - 1)]) (S' := []) (v := some (mI 1)) (h' := mkh μ c s) rfl rfl rfl (by have hz : Cl PT 167 [mI (a), mI (0), mI ((μ 6 13) - 1)] (mkh μ c s) (fun r => r = (some (some (mI (if 0 ≤ a ∧ a ≤ (μ 6 13) - 1 then 1 else 0))), mkh μ c s)) := c_X12_isIn (v := a) (lo := 0) (hi := (μ 6 13) - 1) (μ := μ) (c := c) (s := s); rw [if_pos hq1] at hz; exact hz) ?_
    show Rn PT none kX12_isHerd 9 [some (mR 118), some (mI (a))] [mI (1)] (mkh μ c s) _
    refine rn_iret rfl (Or.inr (by omega)) ?_
    first | rfl | (refine congrArg (fun z => ((some (some (mI z)) : Option (Option MV)), mkh μ c s)) ?_; first | rfl | omega | (symm; first | (rw [if_pos (by omega)]; first | done | rfl | omega) | (rw [if_neg (by omega)]; first | done | rfl | omega)) | (symm; unfold g_tim; first | (rw [if_pos (by omega)]; first | done | rfl | omega) | (rw [if_neg (by omega)]; first | done | rfl | omega)) | (symm; unfold g_st; first | (rw [if_pos (by omega)]; first | done | rfl | omega) | (rw [if_neg (by omega)]; first | done | rfl | omega)) | (symm; unfold g_dep; first | (rw [if_pos (by omega)]; first | done | rfl | omega) | (rw [if_neg (by omega)]; first | done | rfl | omega)) | (symm; unfold g_nb; first | (rw [if_pos (by omega)]; first | done | rfl | omega) | (rw [if_neg (by omega)]; first | done | rfl | omega)) | ((try unfold g_st); (try unfold g_dep); (try unfold g_nb); (repeat' split) <;> omega) | (symm; (repeat (first | rw [if_pos (by omega)] | rw [if_neg (by omega)])); first | done | rfl | omega))
  · refine rn_callP (k' := 9) (y := 167) (vs := [mI (a), mI (0), mI ((μ 6 13) - 1)]) (S' := []) (v := some (mI 0)) (h' := mkh μ c s) rfl rfl rfl (by have hz : Cl PT 167 [mI (a), mI (0), mI ((μ 6 13) - 1)] (mkh μ c s) (fun r => r = (some (some (mI (if 0 ≤ a ∧ a ≤ (μ 6 13) - 1 then 1 else 0))), mkh μ c s)) := c_X12_isIn (v := a) (lo := 0) (hi := (μ 6 13) - 1) (μ := μ) (c := c) (s := s); rw [if_neg hq1] at hz; exact hz) ?_
    show Rn PT none kX12_isHerd 9 [some (mR 118), some (mI (a))] [mI (0)] (mkh μ c s) _
    refine rn_iret rfl (Or.inr (by omega)) ?_
    first | rfl | (refine congrArg (fun z => ((some (some (mI z)) : Option (Option MV)), mkh μ c s)) ?_; first | rfl | omega | (symm; first | (rw [if_pos (by omega)]; first | done | rfl | omega) | (rw [if_neg (by omega)]; first | done | rfl | omega)) | (symm; unfold g_tim; first | (rw [if_pos (by omega)]; first | done | rfl | omega) | (rw [if_neg (by omega)]; first | done | rfl | omega)) | (symm; unfold g_st; first | (rw [if_pos (by omega)]; first | done | rfl | omega) | (rw [if_neg (by omega)]; first | done | rfl | omega)) | (symm; unfold g_dep; first | (rw [if_pos (by omega)]; first | done | rfl | omega) | (rw [if_neg (by omega)]; first | done | rfl | omega)) | (symm; unfold g_nb; first | (rw [if_pos (by omega)]; first | done | rfl | omega) | (rw [if_neg (by omega)]; first | done | rfl | omega)) | ((try unfold g_st); (try unfold g_dep); (try unfold g_nb); (repeat' split) <;> omega) | (symm; (repeat (first | rw [if_pos (by omega)] | rw [if_neg (by omega)])); first | done | rfl | omega))
set_option maxHeartbeats 2000000 in
theorem c_X12_areAll {μ : Nat → Nat → Int} {c s : Nat} (hL : I_land μ) {a b t d : Int} (ha : i32 a) (hb : i32 b) : Cl PT 214 [mR 118, mI a, mI b, mI t, mI d] (mkh μ c s) (fun r => r = (some (some (mI (if g_cell μ a ∧ g_cell μ b ∧ (0 ≤ t ∧ t ≤ 99) ∧ 0 ≤ d ∧ d ≤ 29 then 1 else 0))), mkh (μ) c s)) := by
  have hL_ := hL
  obtain ⟨lc, lr, le, lm, lw, lh, lwo, lwd, q0, q1, q2, q3, q4, q8, q499, q500, lth, lG, lT, lW, -⟩ := hL_
  refine ⟨_, PT_214, Nat.le_of_ble_eq_true rfl, ?_⟩
  show Rn PT none kX12_areAll 0 [some (mR 118), some (mI (a)), some (mI (b)), some (mI (t)), some (mI (d))] [] (mkh μ c s) _
  refine rn_aload_n (k' := 1) rfl rfl rfl ?_
  refine rn_iload_n (k' := 2) rfl rfl rfl ?_
  by_cases hq1 : g_cell μ a
  · refine rn_callP (k' := 3) (y := 192) (vs := [mR 118, mI (a)]) (S' := []) (v := some (mI 1)) (h' := mkh μ c s) rfl rfl rfl (by have hz : Cl PT 192 [mR 118, mI (a)] (mkh μ c s) (fun r => r = (some (some (mI (if g_cell μ a then 1 else 0))), mkh μ c s)) := c_X12_isCell (hL) (a := a) (by omega) (μ := μ) (c := c) (s := s); rw [if_pos hq1] at hz; exact hz) ?_
    show Rn PT none kX12_areAll 3 [some (mR 118), some (mI (a)), some (mI (b)), some (mI (t)), some (mI (d))] [mI (1)] (mkh μ c s) _
    refine rn_if_eq (k' := 4) rfl rfl (fun hc2 => ?_) (fun hc2 => ?_)
    · exfalso; omega
    · skip
      refine rn_aload_n (k' := 5) rfl rfl rfl ?_
      refine rn_iload_n (k' := 6) rfl rfl rfl ?_
      by_cases hq3 : g_cell μ b
      · refine rn_callP (k' := 7) (y := 192) (vs := [mR 118, mI (b)]) (S' := []) (v := some (mI 1)) (h' := mkh μ c s) rfl rfl rfl (by have hz : Cl PT 192 [mR 118, mI (b)] (mkh μ c s) (fun r => r = (some (some (mI (if g_cell μ b then 1 else 0))), mkh μ c s)) := c_X12_isCell (hL) (a := b) (by omega) (μ := μ) (c := c) (s := s); rw [if_pos hq3] at hz; exact hz) ?_
        show Rn PT none kX12_areAll 7 [some (mR 118), some (mI (a)), some (mI (b)), some (mI (t)), some (mI (d))] [mI (1)] (mkh μ c s) _
        refine rn_if_eq (k' := 8) rfl rfl (fun hc4 => ?_) (fun hc4 => ?_)
        · exfalso; omega
        · skip
          refine rn_iload_n (k' := 9) rfl rfl rfl ?_
          by_cases hq5 : 0 ≤ t ∧ t ≤ 99
          · refine rn_callP (k' := 10) (y := 195) (vs := [mI (t)]) (S' := []) (v := some (mI 1)) (h' := mkh μ c s) rfl rfl rfl (by have hz : Cl PT 195 [mI (t)] (mkh μ c s) (fun r => r = (some (some (mI (if 0 ≤ t ∧ t ≤ 99 then 1 else 0))), mkh μ c s)) := c_X12_isTall (a := t) (μ := μ) (c := c) (s := s); rw [if_pos hq5] at hz; exact hz) ?_
            show Rn PT none kX12_areAll 10 [some (mR 118), some (mI (a)), some (mI (b)), some (mI (t)), some (mI (d))] [mI (1)] (mkh μ c s) _
            refine rn_if_eq (k' := 11) rfl rfl (fun hc6 => ?_) (fun hc6 => ?_)
            · exfalso; omega
            · skip
              refine rn_iload (k' := 12) rfl rfl rfl ?_
              by_cases hq7 : 0 ≤ d ∧ d ≤ 29
              · refine rn_callP (k' := 13) (y := 194) (vs := [mI (d)]) (S' := []) (v := some (mI 1)) (h' := mkh μ c s) rfl rfl rfl (by have hz : Cl PT 194 [mI (d)] (mkh μ c s) (fun r => r = (some (some (mI (if 0 ≤ d ∧ d ≤ 29 then 1 else 0))), mkh μ c s)) := c_X12_isDay (a := d) (μ := μ) (c := c) (s := s); rw [if_pos hq7] at hz; exact hz) ?_
                show Rn PT none kX12_areAll 13 [some (mR 118), some (mI (a)), some (mI (b)), some (mI (t)), some (mI (d))] [mI (1)] (mkh μ c s) _
                refine rn_if_eq (k' := 14) rfl rfl (fun hc8 => ?_) (fun hc8 => ?_)
                · exfalso; omega
                · skip
                  refine rn_iconst (k' := 15) rfl rfl ?_
                  refine rn_goto rfl ?_
                  refine rn_iret rfl (Or.inr (by omega)) ?_
                  first | rfl | (refine congrArg (fun z => ((some (some (mI z)) : Option (Option MV)), mkh μ c s)) ?_; first | rfl | omega | (symm; first | (rw [if_pos (by omega)]; first | done | rfl | omega) | (rw [if_neg (by omega)]; first | done | rfl | omega)) | (symm; unfold g_tim; first | (rw [if_pos (by omega)]; first | done | rfl | omega) | (rw [if_neg (by omega)]; first | done | rfl | omega)) | (symm; unfold g_st; first | (rw [if_pos (by omega)]; first | done | rfl | omega) | (rw [if_neg (by omega)]; first | done | rfl | omega)) | (symm; unfold g_dep; first | (rw [if_pos (by omega)]; first | done | rfl | omega) | (rw [if_neg (by omega)]; first | done | rfl | omega)) | (symm; unfold g_nb; first | (rw [if_pos (by omega)]; first | done | rfl | omega) | (rw [if_neg (by omega)]; first | done | rfl | omega)) | ((try unfold g_st); (try unfold g_dep); (try unfold g_nb); (repeat' split) <;> omega) | (symm; (repeat (first | rw [if_pos (by omega)] | rw [if_neg (by omega)])); first | done | rfl | omega))
              · refine rn_callP (k' := 13) (y := 194) (vs := [mI (d)]) (S' := []) (v := some (mI 0)) (h' := mkh μ c s) rfl rfl rfl (by have hz : Cl PT 194 [mI (d)] (mkh μ c s) (fun r => r = (some (some (mI (if 0 ≤ d ∧ d ≤ 29 then 1 else 0))), mkh μ c s)) := c_X12_isDay (a := d) (μ := μ) (c := c) (s := s); rw [if_neg hq7] at hz; exact hz) ?_
                show Rn PT none kX12_areAll 13 [some (mR 118), some (mI (a)), some (mI (b)), some (mI (t)), some (mI (d))] [mI (0)] (mkh μ c s) _
                refine rn_if_eq (k' := 14) rfl rfl (fun hc9 => ?_) (fun hc9 => ?_)
                · skip
                  refine rn_iconst (k' := 17) rfl rfl ?_
                  refine rn_iret rfl (Or.inr (by omega)) ?_
                  first | rfl | (refine congrArg (fun z => ((some (some (mI z)) : Option (Option MV)), mkh μ c s)) ?_; first | rfl | omega | (symm; first | (rw [if_pos (by omega)]; first | done | rfl | omega) | (rw [if_neg (by omega)]; first | done | rfl | omega)) | (symm; unfold g_tim; first | (rw [if_pos (by omega)]; first | done | rfl | omega) | (rw [if_neg (by omega)]; first | done | rfl | omega)) | (symm; unfold g_st; first | (rw [if_pos (by omega)]; first | done | rfl | omega) | (rw [if_neg (by omega)]; first | done | rfl | omega)) | (symm; unfold g_dep; first | (rw [if_pos (by omega)]; first | done | rfl | omega) | (rw [if_neg (by omega)]; first | done | rfl | omega)) | (symm; unfold g_nb; first | (rw [if_pos (by omega)]; first | done | rfl | omega) | (rw [if_neg (by omega)]; first | done | rfl | omega)) | ((try unfold g_st); (try unfold g_dep); (try unfold g_nb); (repeat' split) <;> omega) | (symm; (repeat (first | rw [if_pos (by omega)] | rw [if_neg (by omega)])); first | done | rfl | omega))
                · exfalso; omega
          · refine rn_callP (k' := 10) (y := 195) (vs := [mI (t)]) (S' := []) (v := some (mI 0)) (h' := mkh μ c s) rfl rfl rfl (by have hz : Cl PT 195 [mI (t)] (mkh μ c s) (fun r => r = (some (some (mI (if 0 ≤ t ∧ t ≤ 99 then 1 else 0))), mkh μ c s)) := c_X12_isTall (a := t) (μ := μ) (c := c) (s := s); rw [if_neg hq5] at hz; exact hz) ?_
            show Rn PT none kX12_areAll 10 [some (mR 118), some (mI (a)), some (mI (b)), some (mI (t)), some (mI (d))] [mI (0)] (mkh μ c s) _
            refine rn_if_eq (k' := 11) rfl rfl (fun hc10 => ?_) (fun hc10 => ?_)
            · skip
              refine rn_iconst (k' := 17) rfl rfl ?_
              refine rn_iret rfl (Or.inr (by omega)) ?_
              first | rfl | (refine congrArg (fun z => ((some (some (mI z)) : Option (Option MV)), mkh μ c s)) ?_; first | rfl | omega | (symm; first | (rw [if_pos (by omega)]; first | done | rfl | omega) | (rw [if_neg (by omega)]; first | done | rfl | omega)) | (symm; unfold g_tim; first | (rw [if_pos (by omega)]; first | done | rfl | omega) | (rw [if_neg (by omega)]; first | done | rfl | omega)) | (symm; unfold g_st; first | (rw [if_pos (by omega)]; first | done | rfl | omega) | (rw [if_neg (by omega)]; first | done | rfl | omega)) | (symm; unfold g_dep; first | (rw [if_pos (by omega)]; first | done | rfl | omega) | (rw [if_neg (by omega)]; first | done | rfl | omega)) | (symm; unfold g_nb; first | (rw [if_pos (by omega)]; first | done | rfl | omega) | (rw [if_neg (by omega)]; first | done | rfl | omega)) | ((try unfold g_st); (try unfold g_dep); (try unfold g_nb); (repeat' split) <;> omega) | (symm; (repeat (first | rw [if_pos (by omega)] | rw [if_neg (by omega)])); first | done | rfl | omega))
            · exfalso; omega
      · refine rn_callP (k' := 7) (y := 192) (vs := [mR 118, mI (b)]) (S' := []) (v := some (mI 0)) (h' := mkh μ c s) rfl rfl rfl (by have hz : Cl PT 192 [mR 118, mI (b)] (mkh μ c s) (fun r => r = (some (some (mI (if g_cell μ b then 1 else 0))), mkh μ c s)) := c_X12_isCell (hL) (a := b) (by omega) (μ := μ) (c := c) (s := s); rw [if_neg hq3] at hz; exact hz) ?_
        show Rn PT none kX12_areAll 7 [some (mR 118), some (mI (a)), some (mI (b)), some (mI (t)), some (mI (d))] [mI (0)] (mkh μ c s) _
        refine rn_if_eq (k' := 8) rfl rfl (fun hc11 => ?_) (fun hc11 => ?_)
        · skip
          refine rn_iconst (k' := 17) rfl rfl ?_
          refine rn_iret rfl (Or.inr (by omega)) ?_
          first | rfl | (refine congrArg (fun z => ((some (some (mI z)) : Option (Option MV)), mkh μ c s)) ?_; first | rfl | omega | (symm; first | (rw [if_pos (by omega)]; first | done | rfl | omega) | (rw [if_neg (by omega)]; first | done | rfl | omega)) | (symm; unfold g_tim; first | (rw [if_pos (by omega)]; first | done | rfl | omega) | (rw [if_neg (by omega)]; first | done | rfl | omega)) | (symm; unfold g_st; first | (rw [if_pos (by omega)]; first | done | rfl | omega) | (rw [if_neg (by omega)]; first | done | rfl | omega)) | (symm; unfold g_dep; first | (rw [if_pos (by omega)]; first | done | rfl | omega) | (rw [if_neg (by omega)]; first | done | rfl | omega)) | (symm; unfold g_nb; first | (rw [if_pos (by omega)]; first | done | rfl | omega) | (rw [if_neg (by omega)]; first | done | rfl | omega)) | ((try unfold g_st); (try unfold g_dep); (try unfold g_nb); (repeat' split) <;> omega) | (symm; (repeat (first | rw [if_pos (by omega)] | rw [if_neg (by omega)])); first | done | rfl | omega))
        · exfalso; omega
  · refine rn_callP (k' := 3) (y := 192) (vs := [mR 118, mI (a)]) (S' := []) (v := some (mI 0)) (h' := mkh μ c s) rfl rfl rfl (by have hz : Cl PT 192 [mR 118, mI (a)] (mkh μ c s) (fun r => r = (some (some (mI (if g_cell μ a then 1 else 0))), mkh μ c s)) := c_X12_isCell (hL) (a := a) (by omega) (μ := μ) (c := c) (s := s); rw [if_neg hq1] at hz; exact hz) ?_
    show Rn PT none kX12_areAll 3 [some (mR 118), some (mI (a)), some (mI (b)), some (mI (t)), some (mI (d))] [mI (0)] (mkh μ c s) _
    refine rn_if_eq (k' := 4) rfl rfl (fun hc12 => ?_) (fun hc12 => ?_)
    · skip
      refine rn_iconst (k' := 17) rfl rfl ?_
      refine rn_iret rfl (Or.inr (by omega)) ?_
      first | rfl | (refine congrArg (fun z => ((some (some (mI z)) : Option (Option MV)), mkh μ c s)) ?_; first | rfl | omega | (symm; first | (rw [if_pos (by omega)]; first | done | rfl | omega) | (rw [if_neg (by omega)]; first | done | rfl | omega)) | (symm; unfold g_tim; first | (rw [if_pos (by omega)]; first | done | rfl | omega) | (rw [if_neg (by omega)]; first | done | rfl | omega)) | (symm; unfold g_st; first | (rw [if_pos (by omega)]; first | done | rfl | omega) | (rw [if_neg (by omega)]; first | done | rfl | omega)) | (symm; unfold g_dep; first | (rw [if_pos (by omega)]; first | done | rfl | omega) | (rw [if_neg (by omega)]; first | done | rfl | omega)) | (symm; unfold g_nb; first | (rw [if_pos (by omega)]; first | done | rfl | omega) | (rw [if_neg (by omega)]; first | done | rfl | omega)) | ((try unfold g_st); (try unfold g_dep); (try unfold g_nb); (repeat' split) <;> omega) | (symm; (repeat (first | rw [if_pos (by omega)] | rw [if_neg (by omega)])); first | done | rfl | omega))
    · exfalso; omega
set_option maxHeartbeats 2000000 in
theorem c_X12_stiltsBy {μ : Nat → Nat → Int} {c s : Nat} (hL : I_land μ) {a : Int} (ha : 0 ≤ a ∧ a ≤ 1000) : Cl PT 197 [mR 118, mI a] (mkh μ c s) (fun r => r = (some (some (mI (g_st μ a))), mkh (μ) c s)) := by
  have hL_ := hL
  obtain ⟨lc, lr, le, lm, lw, lh, lwo, lwd, q0, q1, q2, q3, q4, q8, q499, q500, lth, lG, lT, lW, -⟩ := hL_
  refine ⟨_, PT_197, Nat.le_of_ble_eq_true rfl, ?_⟩
  show Rn PT none kX12_stiltsBy 0 [some (mR 118), some (mI (a))] [] (mkh μ c s) _
  refine rn_iload_n (k' := 1) rfl rfl rfl ?_
  refine rn_aload_n (k' := 2) rfl rfl rfl ?_
  refine rn_getR (k' := 3) rfl rfl K0_118 (by decide) rfl R0_118_6 ?_
  refine rn_iconst (k' := 4) rfl rfl ?_
  refine rn_iaload (k' := 5) rfl rfl K0_120 (by omega) (by omega) ?_
  show Rn PT none kX12_stiltsBy 5 [some (mR 118), some (mI (a))] [mI (μ 120 2), mI (a)] (mkh μ c s) _
  rw [q2]
  refine rn_idiv (k' := 6) rfl rfl (by omega) (tdiv_rng (by omega) (by omega)) ?_
  refine rn_aload_n (k' := 7) rfl rfl rfl ?_
  refine rn_getR (k' := 8) rfl rfl K0_118 (by decide) rfl R0_118_6 ?_
  refine rn_iconst (k' := 9) rfl rfl ?_
  refine rn_iaload (k' := 10) rfl rfl K0_120 (by omega) (by omega) ?_
  show Rn PT none kX12_stiltsBy 10 [some (mR 118), some (mI (a))] [mI (μ 120 3), mI ((a).tdiv (μ 6 10))] (mkh μ c s) _
  rw [q3]
  refine rn_icmp_ge (k' := 11) rfl rfl (fun hc1 => ?_) (fun hc1 => ?_)
  · skip
    refine rn_aload_n (k' := 19) rfl rfl rfl ?_
    refine rn_getR (k' := 20) rfl rfl K0_118 (by decide) rfl R0_118_6 ?_
    refine rn_iconst (k' := 21) rfl rfl ?_
    refine rn_iaload (k' := 22) rfl rfl K0_120 (by omega) (by omega) ?_
    show Rn PT none kX12_stiltsBy 22 [some (mR 118), some (mI (a))] [mI (μ 120 3)] (mkh μ c s) _
    rw [q3]
    refine rn_iret rfl (Or.inl rfl) ?_
    first | rfl | (refine congrArg (fun z => ((some (some (mI z)) : Option (Option MV)), mkh μ c s)) ?_; first | rfl | omega | (symm; first | (rw [if_pos (by omega)]; first | done | rfl | omega) | (rw [if_neg (by omega)]; first | done | rfl | omega)) | (symm; unfold g_tim; first | (rw [if_pos (by omega)]; first | done | rfl | omega) | (rw [if_neg (by omega)]; first | done | rfl | omega)) | (symm; unfold g_st; first | (rw [if_pos (by omega)]; first | done | rfl | omega) | (rw [if_neg (by omega)]; first | done | rfl | omega)) | (symm; unfold g_dep; first | (rw [if_pos (by omega)]; first | done | rfl | omega) | (rw [if_neg (by omega)]; first | done | rfl | omega)) | (symm; unfold g_nb; first | (rw [if_pos (by omega)]; first | done | rfl | omega) | (rw [if_neg (by omega)]; first | done | rfl | omega)) | ((try unfold g_st); (try unfold g_dep); (try unfold g_nb); (repeat' split) <;> omega) | (symm; (repeat (first | rw [if_pos (by omega)] | rw [if_neg (by omega)])); first | done | rfl | omega))
  · skip
    refine rn_iload_n (k' := 12) rfl rfl rfl ?_
    refine rn_aload_n (k' := 13) rfl rfl rfl ?_
    refine rn_getR (k' := 14) rfl rfl K0_118 (by decide) rfl R0_118_6 ?_
    refine rn_iconst (k' := 15) rfl rfl ?_
    refine rn_iaload (k' := 16) rfl rfl K0_120 (by omega) (by omega) ?_
    show Rn PT none kX12_stiltsBy 16 [some (mR 118), some (mI (a))] [mI (μ 120 2), mI (a)] (mkh μ c s) _
    rw [q2]
    refine rn_idiv (k' := 17) rfl rfl (by omega) (tdiv_rng (by omega) (by omega)) ?_
    refine rn_goto rfl ?_
    refine rn_iret rfl (Or.inl rfl) ?_
    first | rfl | (refine congrArg (fun z => ((some (some (mI z)) : Option (Option MV)), mkh μ c s)) ?_; first | rfl | omega | (symm; first | (rw [if_pos (by omega)]; first | done | rfl | omega) | (rw [if_neg (by omega)]; first | done | rfl | omega)) | (symm; unfold g_tim; first | (rw [if_pos (by omega)]; first | done | rfl | omega) | (rw [if_neg (by omega)]; first | done | rfl | omega)) | (symm; unfold g_st; first | (rw [if_pos (by omega)]; first | done | rfl | omega) | (rw [if_neg (by omega)]; first | done | rfl | omega)) | (symm; unfold g_dep; first | (rw [if_pos (by omega)]; first | done | rfl | omega) | (rw [if_neg (by omega)]; first | done | rfl | omega)) | (symm; unfold g_nb; first | (rw [if_pos (by omega)]; first | done | rfl | omega) | (rw [if_neg (by omega)]; first | done | rfl | omega)) | ((try unfold g_st); (try unfold g_dep); (try unfold g_nb); (repeat' split) <;> omega) | (symm; (repeat (first | rw [if_pos (by omega)] | rw [if_neg (by omega)])); first | done | rfl | omega))
