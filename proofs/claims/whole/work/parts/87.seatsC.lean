variable {N : Int}
/-! ===== printed by wip/whole/gen87.py: seats of the class, first half ===== -/
theorem or_0 {x : Int} (h : i32 x) : m_or x 0 = x := bI_ext (r_or _ _) h (fun i hi => by rw [bI_or, bI_0 i hi, Bool.or_false])
def sQ (p : Nat → Bool) (w : Nat → Nat → Int) (z k : Nat) : Bool := !z.testBit k && p k && decide (0 < w (so z k) k)
def sN (q : Nat → Bool) : Nat → Nat → Nat
  | 0, _ => 0
  | d + 1, k => if q k = true then k else sN q d (k + 1)
theorem sN_t {q : Nat → Bool} {d k : Nat} (h : q k = true) : sN q (d + 1) k = k := by
  show (if q k = true then k else _) = k
  rw [if_pos h]
theorem sN_f {q : Nat → Bool} {d k : Nat} (h : ¬ q k = true) : sN q (d + 1) k = sN q d (k + 1) := by
  show (if q k = true then k else _) = _
  rw [if_neg h]
theorem sN_congr {q r : Nat → Bool} : ∀ d k : Nat, (∀ j, k ≤ j → j < k + d → q j = r j) → sN q d k = sN r d k
  | 0, _, _ => rfl
  | d + 1, k, h => by
    show (if q k = true then k else sN q d (k + 1)) = (if r k = true then k else sN r d (k + 1))
    rw [h k (by omega) (by omega), sN_congr d (k + 1) (fun j h1 h2 => h j (by omega) (by omega))]
theorem sN_ok {q : Nat → Bool} : ∀ d k : Nat, (∃ j, k ≤ j ∧ j < k + d ∧ q j = true) → q (sN q d k) = true ∧ k ≤ sN q d k ∧ sN q d k < k + d
  | 0, k, ⟨j, h1, h2, _⟩ => by omega
  | d + 1, k, ⟨j, h1, h2, h3⟩ => by
    by_cases e : q k = true
    · rw [sN_t e]; exact ⟨e, by omega, by omega⟩
    · have e2 : ¬ j = k := fun y => by subst y; exact e h3
      have ih := sN_ok (q := q) d (k + 1) ⟨j, by omega, by omega, h3⟩
      rw [sN_f e]
      exact ⟨ih.1, by omega, by omega⟩
theorem sQ_iff {p : Nat → Bool} {w : Nat → Nat → Int} {z k : Nat} : sQ p w z k = true ↔ z.testBit k = false ∧ p k = true ∧ 0 < w (so z k) k := by
  unfold sQ
  cases z.testBit k <;> cases p k <;> simp
set_option maxHeartbeats 400000 in
theorem l_fnb_in {μ : Nat → Nat → Int} {c s : Nat} (hL : I_land μ) (hS : I_scene μ) {n : Nat} (hn : μ 6 13 = (n : Int)) (h8 : n < 9) {i : Int} (hi : 0 ≤ i ∧ i ≤ 99) {h : Nat} (hh : h < n) {Q : MR → Prop} (K : ∀ v, Rn PT none kX8_findNeighbours 48 [some (mR 112), some (mI i), some (mI (h : Int)), some (mI (fO (fun k => sP μ i h k = true) n)), some (mI (n : Int)), v] [] (mkh (m_upd μ 114 (fl (fun l : Nat => fO (fun k => sP μ i l k = true) n) (μ 114) h)) c s) Q) : ∀ (d k0 : Nat) (k acc : Int) (v : Option MV), k = (k0 : Int) → k0 + d = n → acc = fO (fun k => sP μ i h k = true) k0 → Rn PT none kX8_findNeighbours 11 [some (mR 112), some (mI i), some (mI (h : Int)), some (mI acc), some (mI k), v] [] (mkh (m_upd μ 114 (fl (fun l : Nat => fO (fun k => sP μ i l k = true) n) (μ 114) h)) c s) Q := by
  have hL_ := hL
  obtain ⟨lc, lr, le, lm, lw, lh, lwo, lwd, q0, q1, q2, q3, q4, q8, q499, q500, lth, lG, lT, lW, -⟩ := hL_
  have hS_ := hS
  obtain ⟨sd, sw, stk, s4, s5, s6, hC, hH, -, s10, sce, swc, s13⟩ := hS_
  have hsh := g_st_b hL (a := μ 16 h) (hH h).1
  intro d
  induction d with
  | zero =>
    intro k0 k acc v ek hk ea
    subst ek ea
    have e0 : n = k0 := by omega
    subst e0
    refine rn_iload (k' := 12) rfl rfl rfl ?_
    refine rn_aload_n (k' := 13) rfl rfl rfl ?_
    refine rn_getR (k' := 14) rfl rfl K0_112 (by decide) rfl R0_112_0 ?_
    refine rn_getI (k' := 15) rfl rfl K0_6 (by decide) rfl ?_
    show Rn PT none kX8_findNeighbours 15 [some (mR 112), some (mI (i)), some (mI ((h : Int))), some (mI (fO (fun k => sP μ i h k = true) n)), some (mI ((n : Int))), v] [mI (μ 6 13), mI ((n : Int))] (mkh (m_upd μ 114 (fl (fun l : Nat => fO (fun k => sP μ i l k = true) n) (μ 114) h)) c s) _
    refine rn_icmp_ge (k' := 16) rfl rfl (fun hc1 => ?_) (fun hc1 => ?_)
    · skip
      exact K _
    · exfalso; omega
  | succ d ih =>
    intro k0 k acc v ek hk ea
    subst ek ea
    have hsk := g_st_b hL (a := μ 16 k0) (hH k0).1
    refine rn_iload (k' := 12) rfl rfl rfl ?_
    refine rn_aload_n (k' := 13) rfl rfl rfl ?_
    refine rn_getR (k' := 14) rfl rfl K0_112 (by decide) rfl R0_112_0 ?_
    refine rn_getI (k' := 15) rfl rfl K0_6 (by decide) rfl ?_
    show Rn PT none kX8_findNeighbours 15 [some (mR 112), some (mI (i)), some (mI ((h : Int))), some (mI (fO (fun k => sP μ i h k = true) k0)), some (mI ((k0 : Int))), v] [mI (μ 6 13), mI ((k0 : Int))] (mkh (m_upd μ 114 (fl (fun l : Nat => fO (fun k => sP μ i l k = true) n) (μ 114) h)) c s) _
    refine rn_icmp_ge (k' := 16) rfl rfl (fun hc1 => ?_) (fun hc1 => ?_)
    · exfalso; omega
    · skip
      refine rn_aload_n (k' := 17) rfl rfl rfl ?_
      refine rn_getR (k' := 18) rfl rfl K0_112 (by decide) rfl R0_112_0 ?_
      refine rn_aload_n (k' := 19) rfl rfl rfl ?_
      refine rn_getR (k' := 20) rfl rfl K0_112 (by decide) rfl R0_112_1 ?_
      refine rn_getR (k' := 21) rfl rfl K0_14 (by decide) rfl R0_14_2 ?_
      refine rn_iload_n (k' := 22) rfl rfl rfl ?_
      refine rn_iaload (k' := 23) rfl rfl K0_16 (by omega) (by omega) ?_
      show Rn PT none kX8_findNeighbours 23 [some (mR 112), some (mI (i)), some (mI ((h : Int))), some (mI (fO (fun k => sP μ i h k = true) k0)), some (mI ((k0 : Int))), v] [mI (μ 16 (h)), mR 6] (mkh (m_upd μ 114 (fl (fun l : Nat => fO (fun k => sP μ i l k = true) n) (μ 114) h)) c s) _
      have hb2 := hH h
      have hb3 := g_st_b hL (a := (μ 16 (h))) (by omega)
      refine rn_callP (k' := 24) (y := 33) (vs := [mR 6, mI (μ 16 (h))]) (S' := []) (v := some (mI (g_st μ (μ 16 (h))))) (h' := mkh (m_upd μ 114 (fl (fun l : Nat => fO (fun k => sP μ i l k = true) n) (μ 114) h)) c s) rfl rfl rfl (k_stiltsFor (μ := (m_upd μ 114 (fl (fun l : Nat => fO (fun k => sP μ i l k = true) n) (μ 114) h))) ((hL).upd rfl) (by omega)) ?_
      show Rn PT none kX8_findNeighbours 24 [some (mR 112), some (mI (i)), some (mI ((h : Int))), some (mI (fO (fun k => sP μ i h k = true) k0)), some (mI ((k0 : Int))), v] [mI (g_st μ (μ 16 (h)))] (mkh (m_upd μ 114 (fl (fun l : Nat => fO (fun k => sP μ i l k = true) n) (μ 114) h)) c s) _
      refine rn_aload_n (k' := 25) rfl rfl rfl ?_
      refine rn_getR (k' := 26) rfl rfl K0_112 (by decide) rfl R0_112_0 ?_
      refine rn_aload_n (k' := 27) rfl rfl rfl ?_
      refine rn_getR (k' := 28) rfl rfl K0_112 (by decide) rfl R0_112_1 ?_
      refine rn_getR (k' := 29) rfl rfl K0_14 (by decide) rfl R0_14_2 ?_
      refine rn_iload (k' := 30) rfl rfl rfl ?_
      refine rn_iaload (k' := 31) rfl rfl K0_16 (by omega) (by omega) ?_
      show Rn PT none kX8_findNeighbours 31 [some (mR 112), some (mI (i)), some (mI ((h : Int))), some (mI (fO (fun k => sP μ i h k = true) k0)), some (mI ((k0 : Int))), v] [mI (μ 16 (k0)), mR 6, mI (g_st μ (μ 16 (h)))] (mkh (m_upd μ 114 (fl (fun l : Nat => fO (fun k => sP μ i l k = true) n) (μ 114) h)) c s) _
      have hb4 := hH k0
      have hb5 := g_st_b hL (a := (μ 16 (k0))) (by omega)
      refine rn_callP (k' := 32) (y := 33) (vs := [mR 6, mI (μ 16 (k0))]) (S' := [mI (g_st μ (μ 16 (h)))]) (v := some (mI (g_st μ (μ 16 (k0))))) (h' := mkh (m_upd μ 114 (fl (fun l : Nat => fO (fun k => sP μ i l k = true) n) (μ 114) h)) c s) rfl rfl rfl (k_stiltsFor (μ := (m_upd μ 114 (fl (fun l : Nat => fO (fun k => sP μ i l k = true) n) (μ 114) h))) ((hL).upd rfl) (by omega)) ?_
      show Rn PT none kX8_findNeighbours 32 [some (mR 112), some (mI (i)), some (mI ((h : Int))), some (mI (fO (fun k => sP μ i h k = true) k0)), some (mI ((k0 : Int))), v] [mI (g_st μ (μ 16 (k0))), mI (g_st μ (μ 16 (h)))] (mkh (m_upd μ 114 (fl (fun l : Nat => fO (fun k => sP μ i l k = true) n) (μ 114) h)) c s) _
      refine rn_isub (k' := 33) rfl rfl (by omega) ?_
      refine rn_istore (k' := 34) (L' := [some (mR 112), some (mI (i)), some (mI ((h : Int))), some (mI (fO (fun k => sP μ i h k = true) k0)), some (mI ((k0 : Int))), some (mI ((g_st μ (μ 16 (h))) - (g_st μ (μ 16 (k0)))))]) rfl rfl (Nat.le_of_ble_eq_true rfl) rfl ?_
      refine rn_iload_n (k' := 35) rfl rfl rfl ?_
      refine rn_iload (k' := 36) rfl rfl rfl ?_
      refine rn_nat (k' := 37) (S' := [mI (if 0 ≤ ((g_st μ (μ 16 (h))) - (g_st μ (μ 16 (k0)))) then ((g_st μ (μ 16 (h))) - (g_st μ (μ 16 (k0)))) else w32 (0 - ((g_st μ (μ 16 (h))) - (g_st μ (μ 16 (k0)))))), mI (fO (fun k => sP μ i h k = true) k0)]) (h' := mkh (m_upd μ 114 (fl (fun l : Nat => fO (fun k => sP μ i l k = true) n) (μ 114) h)) c s) rfl rfl rfl ?_
      rw [abs_ab ((g_st μ (μ 16 (h))) - (g_st μ (μ 16 (k0)))) (by omega)]
      have hab6 := ab_b ((g_st μ (μ 16 (h))) - (g_st μ (μ 16 (k0))))
      refine rn_iload_n (k' := 38) rfl rfl rfl ?_
      refine rn_icmp_gt (k' := 39) rfl rfl (fun hc7 => ?_) (fun hc7 => ?_)
      · skip
        refine rn_iconst (k' := 44) rfl rfl ?_
        refine rn_ior (k' := 45) rfl rfl ?_
        refine rn_istore_n (k' := 46) (L' := [some (mR 112), some (mI (i)), some (mI ((h : Int))), some (mI (m_or (fO (fun k => sP μ i h k = true) k0) (0))), some (mI ((k0 : Int))), some (mI ((g_st μ (μ 16 (h))) - (g_st μ (μ 16 (k0)))))]) rfl rfl (Nat.le_of_ble_eq_true rfl) rfl ?_
        refine rn_iinc (k' := 47) (L' := [some (mR 112), some (mI (i)), some (mI ((h : Int))), some (mI (m_or (fO (fun k => sP μ i h k = true) k0) (0))), some (mI ((k0 : Int) + 1)), some (mI ((g_st μ (μ 16 (h))) - (g_st μ (μ 16 (k0)))))]) rfl rfl rfl (by omega) rfl ?_
        refine rn_goto rfl ?_
        exact ih (k0 + 1) _ _ _ (by omega) (by omega) (by rw [fO_neg (p := (fun k => sP μ i h k = true)) (by unfold sP; rw [decide_eq_true_iff]; omega)]; exact or_0 (fO_r k0))
      · skip
        refine rn_iconst (k' := 40) rfl rfl ?_
        refine rn_iload (k' := 41) rfl rfl rfl ?_
        refine rn_ishl (k' := 42) rfl rfl ?_
        refine rn_goto rfl ?_
        refine rn_ior (k' := 45) rfl rfl ?_
        refine rn_istore_n (k' := 46) (L' := [some (mR 112), some (mI (i)), some (mI ((h : Int))), some (mI (m_or (fO (fun k => sP μ i h k = true) k0) (m_shl (1) ((k0 : Int))))), some (mI ((k0 : Int))), some (mI ((g_st μ (μ 16 (h))) - (g_st μ (μ 16 (k0)))))]) rfl rfl (Nat.le_of_ble_eq_true rfl) rfl ?_
        refine rn_iinc (k' := 47) (L' := [some (mR 112), some (mI (i)), some (mI ((h : Int))), some (mI (m_or (fO (fun k => sP μ i h k = true) k0) (m_shl (1) ((k0 : Int))))), some (mI ((k0 : Int) + 1)), some (mI ((g_st μ (μ 16 (h))) - (g_st μ (μ 16 (k0)))))]) rfl rfl rfl (by omega) rfl ?_
        refine rn_goto rfl ?_
        exact ih (k0 + 1) _ _ _ (by omega) (by omega) (fO_pos (p := (fun k => sP μ i h k = true)) (by unfold sP; rw [decide_eq_true_iff]; omega)).symm
set_option maxHeartbeats 400000 in
theorem l_fnb {μ : Nat → Nat → Int} {c s : Nat} (hL : I_land μ) (hS : I_scene μ) {n : Nat} (hn : μ 6 13 = (n : Int)) (h8 : n < 9) {i : Int} (hi : 0 ≤ i ∧ i ≤ 99) : ∀ (d h : Nat) (k : Int) (v3 v4 v5 : Option MV), k = (h : Int) → h + d = n → Rn PT none kX8_findNeighbours 2 [some (mR 112), some (mI i), some (mI k), v3, v4, v5] [] (mkh (m_upd μ 114 (fl (fun l : Nat => fO (fun k => sP μ i l k = true) n) (μ 114) h)) c s) (fun r => r = (some none, mkh (m_upd μ 114 (fl (fun l : Nat => fO (fun k => sP μ i l k = true) n) (μ 114) n)) c s)) := by
  have hL_ := hL
  obtain ⟨lc, lr, le, lm, lw, lh, lwo, lwd, q0, q1, q2, q3, q4, q8, q499, q500, lth, lG, lT, lW, -⟩ := hL_
  have hS_ := hS
  obtain ⟨sd, sw, stk, s4, s5, s6, hC, hH, -, s10, sce, swc, s13⟩ := hS_
  intro d
  induction d with
  | zero =>
    intro h k v3 v4 v5 ek hk
    subst ek
    refine rn_iload_n (k' := 3) rfl rfl rfl ?_
    refine rn_aload_n (k' := 4) rfl rfl rfl ?_
    refine rn_getR (k' := 5) rfl rfl K0_112 (by decide) rfl R0_112_0 ?_
    refine rn_getI (k' := 6) rfl rfl K0_6 (by decide) rfl ?_
    show Rn PT none kX8_findNeighbours 6 [some (mR 112), some (mI (i)), some (mI ((h : Int))), v3, v4, v5] [mI (μ 6 13), mI ((h : Int))] (mkh (m_upd μ 114 (fl (fun l : Nat => fO (fun k => sP μ i l k = true) n) (μ 114) h)) c s) _
    refine rn_icmp_ge (k' := 7) rfl rfl (fun hc1 => ?_) (fun hc1 => ?_)
    · skip
      refine rn_vret rfl ?_
      rw [show n = h by omega]
    · exfalso; omega
  | succ d ih =>
    intro h k v3 v4 v5 ek hk
    subst ek
    refine rn_iload_n (k' := 3) rfl rfl rfl ?_
    refine rn_aload_n (k' := 4) rfl rfl rfl ?_
    refine rn_getR (k' := 5) rfl rfl K0_112 (by decide) rfl R0_112_0 ?_
    refine rn_getI (k' := 6) rfl rfl K0_6 (by decide) rfl ?_
    show Rn PT none kX8_findNeighbours 6 [some (mR 112), some (mI (i)), some (mI ((h : Int))), v3, v4, v5] [mI (μ 6 13), mI ((h : Int))] (mkh (m_upd μ 114 (fl (fun l : Nat => fO (fun k => sP μ i l k = true) n) (μ 114) h)) c s) _
    refine rn_icmp_ge (k' := 7) rfl rfl (fun hc1 => ?_) (fun hc1 => ?_)
    · exfalso; omega
    · skip
      refine rn_iconst (k' := 8) rfl rfl ?_
      refine rn_istore_n (k' := 9) (L' := [some (mR 112), some (mI (i)), some (mI ((h : Int))), some (mI (0)), v4, v5]) rfl rfl (Nat.le_of_ble_eq_true rfl) rfl ?_
      refine rn_iconst (k' := 10) rfl rfl ?_
      refine rn_istore (k' := 11) (L' := [some (mR 112), some (mI (i)), some (mI ((h : Int))), some (mI (0)), some (mI (0)), v5]) rfl rfl (Nat.le_of_ble_eq_true rfl) rfl ?_
      refine l_fnb_in hL hS hn h8 hi (h := h) (by omega) (fun v => ?_) n 0 _ _ _ rfl (by omega) rfl
      refine rn_aload_n (k' := 49) rfl rfl rfl ?_
      refine rn_getR (k' := 50) rfl rfl K0_112 (by decide) rfl R0_112_3 ?_
      refine rn_iload_n (k' := 51) rfl rfl rfl ?_
      refine rn_iload_n (k' := 52) rfl rfl rfl ?_
      refine rn_iastore (k' := 53) rfl rfl K0_114 (by omega) (by omega) ?_
      refine rn_iinc (k' := 54) (L' := [some (mR 112), some (mI (i)), some (mI ((h : Int) + 1)), some (mI (fO (fun k => sP μ i h k = true) n)), some (mI ((n : Int))), v]) rfl rfl rfl (by omega) rfl ?_
      refine rn_goto rfl ?_
      show Rn PT none kX8_findNeighbours 2 [some (mR 112), some (mI (i)), some (mI ((h : Int) + 1)), some (mI (fO (fun k => sP μ i h k = true) n)), some (mI ((n : Int))), v] [] (mkh (m_set (m_upd μ 114 (fl (fun l : Nat => fO (fun k => sP μ i l k = true) n) (μ 114) h)) 114 h (fO (fun k => sP μ i h k = true) n)) c s) _
      rw [fl_st (n := h) (g := (fun l : Nat => fO (fun k => sP μ i l k = true) n)) rfl]
      exact ih (h + 1) _ _ _ _ (by omega) (by omega)
set_option maxHeartbeats 2000000 in
theorem c_X8_findNeighbours {μ : Nat → Nat → Int} {c s : Nat} (hL : I_land μ) (hS : I_scene μ) {n : Nat} (hn : μ 6 13 = (n : Int)) (h8 : n < 9) {i : Int} (hi : 0 ≤ i ∧ i ≤ 99) : Cl PT 73 [mR 112, mI i] (mkh μ c s) (fun r => r = (some none, mkh ((m_upd μ 114 (fl (fun l : Nat => fO (fun k => sP μ i l k = true) n) (μ 114) n))) c s)) := by
  refine ⟨_, PT_73, Nat.le_of_ble_eq_true rfl, ?_⟩
  show Rn PT none kX8_findNeighbours 0 [some (mR 112), some (mI (i)), none, none, none, none] [] (mkh μ c s) _
  refine rn_iconst (k' := 1) rfl rfl ?_
  refine rn_istore_n (k' := 2) (L' := [some (mR 112), some (mI (i)), some (mI (0)), none, none, none]) rfl rfl (Nat.le_of_ble_eq_true rfl) rfl ?_
  have h := l_fnb (c := c) (s := s) hL hS hn h8 hi n 0 0 none none none rfl (by omega)
  rw [fl_0] at h
  exact h
set_option maxHeartbeats 400000 in
theorem l_rests {μ : Nat → Nat → Int} {c s : Nat} {n : Nat} (hn : μ 6 13 = (n : Int)) (h8 : n < 9) {z : Nat} (hz : z < 256) {al : Int} {w : Nat → Nat → Int} (hT : ∀ k, k < n → z.testBit k = false → μ 113 (((so z k : Nat) : Int) * 8 + (k : Int)).toNat = w (so z k) k) (hw : ∀ k, k < n → z.testBit k = false → 0 ≤ w (so z k) k ∧ w (so z k) k ≤ 2097152) : ∀ (d n0 : Nat) (k acc : Int), k = (n0 : Int) → n0 + d = n → acc = sS (sT (bI al) w z) n0 → Rn PT none kX8_restsBehind 4 [some (mR 112), some (mI (z : Int)), some (mI al), some (mI acc), some (mI k)] [] (mkh μ c s) (fun r => r = (some (some (mI (sS (sT (bI al) w z) n))), mkh μ c s)) := by
  intro d
  induction d with
  | zero =>
    intro n0 k acc ek hk ea
    subst ek ea
    refine rn_iload (k' := 5) rfl rfl rfl ?_
    refine rn_aload_n (k' := 6) rfl rfl rfl ?_
    refine rn_getR (k' := 7) rfl rfl K0_112 (by decide) rfl R0_112_0 ?_
    refine rn_getI (k' := 8) rfl rfl K0_6 (by decide) rfl ?_
    refine rn_icmp_ge (k' := 9) rfl rfl (fun hc1 => ?_) (fun hc1 => ?_)
    · skip
      refine rn_iload_n (k' := 38) rfl rfl rfl ?_
      refine rn_iret rfl (Or.inl rfl) ?_
      rw [show n = n0 by omega]
    · exfalso; omega
  | succ d ih =>
    intro n0 k acc ek hk ea
    subst ek ea
    obtain ⟨f1, f2, f3, f4⟩ := so_f z hz n0 (by omega)
    have hs := sS_b (t := sT (bI al) w z) (B := 2097152) n0 (fun k hk => sT_b hw (by omega))
    refine rn_iload (k' := 5) rfl rfl rfl ?_
    refine rn_aload_n (k' := 6) rfl rfl rfl ?_
    refine rn_getR (k' := 7) rfl rfl K0_112 (by decide) rfl R0_112_0 ?_
    refine rn_getI (k' := 8) rfl rfl K0_6 (by decide) rfl ?_
    refine rn_icmp_ge (k' := 9) rfl rfl (fun hc1 => ?_) (fun hc1 => ?_)
    · exfalso; omega
    · skip
      refine rn_iload_n (k' := 10) rfl rfl rfl ?_
      refine rn_iload_n (k' := 11) rfl rfl rfl ?_
      refine rn_iconst (k' := 12) rfl rfl ?_
      refine rn_ixor (k' := 13) rfl rfl ?_
      refine rn_iand (k' := 14) rfl rfl ?_
      refine rn_iload (k' := 15) rfl rfl rfl ?_
      refine rn_iushr (k' := 16) rfl rfl ?_
      refine rn_iconst (k' := 17) rfl rfl ?_
      refine rn_iand (k' := 18) rfl rfl ?_
      rw [bit_u (x := m_and (al) (m_xor ((z : Int)) (-1))) (k := n0) (by omega)]
      by_cases hq2 : bI (m_and (al) (m_xor ((z : Int)) (-1))) n0 = true
      · rw [if_pos hq2]
        refine rn_iconst (k' := 19) rfl rfl ?_
        refine rn_icmp_ne (k' := 20) rfl rfl (fun hc3 => ?_) (fun hc3 => ?_)
        · exfalso; omega
        · skip
          refine rn_iload_n (k' := 21) rfl rfl rfl ?_
          refine rn_aload_n (k' := 22) rfl rfl rfl ?_
          refine rn_getR (k' := 23) rfl rfl K0_112 (by decide) rfl R0_112_2 ?_
          refine rn_iload_n (k' := 24) rfl rfl rfl ?_
          refine rn_iconst (k' := 25) rfl rfl ?_
          refine rn_iload (k' := 26) rfl rfl rfl ?_
          refine rn_ishl (k' := 27) rfl rfl ?_
          refine rn_ior (k' := 28) rfl rfl ?_
          rw [(so_f z (by omega) n0 (by omega)).1]
          refine rn_bipush (k' := 29) rfl rfl ?_
          refine rn_imul (k' := 30) rfl rfl (by omega) ?_
          refine rn_iload (k' := 31) rfl rfl rfl ?_
          refine rn_iadd (k' := 32) rfl rfl (by omega) ?_
          refine rn_iaload (k' := 33) rfl rfl K0_113 (by omega) (by omega) ?_
          rw [hT n0 (by omega) (sT_t (al := al) hz (by omega) (by assumption)).1]
          have hb4 := hw n0 (by omega) (sT_t (al := al) hz (by omega) (by assumption)).1
          refine rn_iadd (k' := 34) rfl rfl (by omega) ?_
          refine rn_istore_n (k' := 35) (L' := [some (mR 112), some (mI ((z : Int))), some (mI (al)), some (mI ((sS (sT (bI al) w z) n0) + (w (so z n0) n0))), some (mI ((n0 : Int)))]) rfl rfl (Nat.le_of_ble_eq_true rfl) rfl ?_
          refine rn_iinc (k' := 36) (L' := [some (mR 112), some (mI ((z : Int))), some (mI (al)), some (mI ((sS (sT (bI al) w z) n0) + (w (so z n0) n0))), some (mI ((n0 : Int) + 1))]) rfl rfl rfl (by omega) rfl ?_
          refine rn_goto rfl ?_
          exact ih (n0 + 1) _ _ (by omega) (by omega) (by show _ = sS (sT (bI al) w z) n0 + (if _ then _ else _); rw [if_pos (sT_t hz (by omega) hq2)])
      · rw [if_neg hq2]
        refine rn_iconst (k' := 19) rfl rfl ?_
        refine rn_icmp_ne (k' := 20) rfl rfl (fun hc5 => ?_) (fun hc5 => ?_)
        · skip
          refine rn_iinc (k' := 36) (L' := [some (mR 112), some (mI ((z : Int))), some (mI (al)), some (mI (sS (sT (bI al) w z) n0)), some (mI ((n0 : Int) + 1))]) rfl rfl rfl (by omega) rfl ?_
          refine rn_goto rfl ?_
          exact ih (n0 + 1) _ _ (by omega) (by omega) (by show _ = sS (sT (bI al) w z) n0 + (if _ then _ else _); rw [if_neg (sT_f hz (by omega) hq2), Int.add_zero])
        · exfalso; omega
set_option maxHeartbeats 2000000 in
theorem c_X8_restsBehind {μ : Nat → Nat → Int} {c s : Nat} {n : Nat} (hn : μ 6 13 = (n : Int)) (h8 : n < 9) {z : Nat} (hz : z < 256) {al : Int} {w : Nat → Nat → Int} (hT : ∀ k, k < n → z.testBit k = false → μ 113 (((so z k : Nat) : Int) * 8 + (k : Int)).toNat = w (so z k) k) (hw : ∀ k, k < n → z.testBit k = false → 0 ≤ w (so z k) k ∧ w (so z k) k ≤ 2097152) : Cl PT 74 [mR 112, mI ((z : Int)), mI al] (mkh μ c s) (fun r => r = (some (some (mI (sS (sT (bI al) w z) n))), mkh (μ) c s)) := by
  refine ⟨_, PT_74, Nat.le_of_ble_eq_true rfl, ?_⟩
  show Rn PT none kX8_restsBehind 0 [some (mR 112), some (mI ((z : Int))), some (mI (al)), none, none] [] (mkh μ c s) _
  refine rn_iconst (k' := 1) rfl rfl ?_
  refine rn_istore_n (k' := 2) (L' := [some (mR 112), some (mI ((z : Int))), some (mI (al)), some (mI (0)), none]) rfl rfl (Nat.le_of_ble_eq_true rfl) rfl ?_
  refine rn_iconst (k' := 3) rfl rfl ?_
  refine rn_istore (k' := 4) (L' := [some (mR 112), some (mI ((z : Int))), some (mI (al)), some (mI (0)), some (mI (0))]) rfl rfl (Nat.le_of_ble_eq_true rfl) rfl ?_
  exact l_rests hn h8 hz hT hw n 0 _ _ rfl (by omega) rfl
set_option maxHeartbeats 400000 in
theorem l_least {μ : Nat → Nat → Int} {c s : Nat} {n : Nat} (hn : μ 6 13 = (n : Int)) (h8 : n < 9) {z : Nat} (hz : z < 256) {al : Int} {w : Nat → Nat → Int} (hT : ∀ k, k < n → z.testBit k = false → μ 113 (((so z k : Nat) : Int) * 8 + (k : Int)).toNat = w (so z k) k) (hw : ∀ k, k < n → z.testBit k = false → 0 ≤ w (so z k) k ∧ w (so z k) k ≤ 2097152) : ∀ (d n0 : Nat) (k : Int), k = (n0 : Int) → n0 + d = n → Rn PT none kX8_leastNext 2 [some (mR 112), some (mI (z : Int)), some (mI al), some (mI k)] [] (mkh μ c s) (fun r => r = (some (some (mI ((sN (sQ (bI al) w z) d n0 : Nat) : Int))), mkh μ c s)) := by
  intro d
  induction d with
  | zero =>
    intro n0 k ek hk
    subst ek
    refine rn_iload_n (k' := 3) rfl rfl rfl ?_
    refine rn_aload_n (k' := 4) rfl rfl rfl ?_
    refine rn_getR (k' := 5) rfl rfl K0_112 (by decide) rfl R0_112_0 ?_
    refine rn_getI (k' := 6) rfl rfl K0_6 (by decide) rfl ?_
    refine rn_icmp_ge (k' := 7) rfl rfl (fun hc1 => ?_) (fun hc1 => ?_)
    · skip
      refine rn_iconst (k' := 36) rfl rfl ?_
      refine rn_iret rfl (Or.inl rfl) ?_
      rfl
    · exfalso; omega
  | succ d ih =>
    intro n0 k ek hk
    subst ek
    obtain ⟨f1, f2, f3, f4⟩ := so_f z hz n0 (by omega)
    refine rn_iload_n (k' := 3) rfl rfl rfl ?_
    refine rn_aload_n (k' := 4) rfl rfl rfl ?_
    refine rn_getR (k' := 5) rfl rfl K0_112 (by decide) rfl R0_112_0 ?_
    refine rn_getI (k' := 6) rfl rfl K0_6 (by decide) rfl ?_
    refine rn_icmp_ge (k' := 7) rfl rfl (fun hc1 => ?_) (fun hc1 => ?_)
    · exfalso; omega
    · skip
      refine rn_iload_n (k' := 8) rfl rfl rfl ?_
      refine rn_iload_n (k' := 9) rfl rfl rfl ?_
      refine rn_iconst (k' := 10) rfl rfl ?_
      refine rn_ixor (k' := 11) rfl rfl ?_
      refine rn_iand (k' := 12) rfl rfl ?_
      refine rn_iload_n (k' := 13) rfl rfl rfl ?_
      refine rn_iushr (k' := 14) rfl rfl ?_
      refine rn_iconst (k' := 15) rfl rfl ?_
      refine rn_iand (k' := 16) rfl rfl ?_
      rw [bit_u (x := m_and (al) (m_xor ((z : Int)) (-1))) (k := n0) (by omega)]
      by_cases hq2 : bI (m_and (al) (m_xor ((z : Int)) (-1))) n0 = true
      · rw [if_pos hq2]
        refine rn_iconst (k' := 17) rfl rfl ?_
        refine rn_icmp_ne (k' := 18) rfl rfl (fun hc3 => ?_) (fun hc3 => ?_)
        · exfalso; omega
        · skip
          refine rn_aload_n (k' := 19) rfl rfl rfl ?_
          refine rn_getR (k' := 20) rfl rfl K0_112 (by decide) rfl R0_112_2 ?_
          refine rn_iload_n (k' := 21) rfl rfl rfl ?_
          refine rn_iconst (k' := 22) rfl rfl ?_
          refine rn_iload_n (k' := 23) rfl rfl rfl ?_
          refine rn_ishl (k' := 24) rfl rfl ?_
          refine rn_ior (k' := 25) rfl rfl ?_
          rw [(so_f z (by omega) n0 (by omega)).1]
          refine rn_bipush (k' := 26) rfl rfl ?_
          refine rn_imul (k' := 27) rfl rfl (by omega) ?_
          refine rn_iload_n (k' := 28) rfl rfl rfl ?_
          refine rn_iadd (k' := 29) rfl rfl (by omega) ?_
          refine rn_iaload (k' := 30) rfl rfl K0_113 (by omega) (by omega) ?_
          rw [hT n0 (by omega) (sT_t (al := al) hz (by omega) (by assumption)).1]
          have hb4 := hw n0 (by omega) (sT_t (al := al) hz (by omega) (by assumption)).1
          refine rn_if_le (k' := 31) rfl rfl (fun hc5 => ?_) (fun hc5 => ?_)
          · skip
            refine rn_iinc (k' := 34) (L' := [some (mR 112), some (mI ((z : Int))), some (mI (al)), some (mI ((n0 : Int) + 1))]) rfl rfl rfl (by omega) rfl ?_
            refine rn_goto rfl ?_
            rw [sN_f (q := sQ (bI al) w z) (fun y => by have y2 := (sQ_iff.mp y).2.2; omega)]
            exact ih (n0 + 1) _ (by omega) (by omega)
          · skip
            refine rn_iload_n (k' := 32) rfl rfl rfl ?_
            refine rn_iret rfl (Or.inl rfl) ?_
            rw [sN_t (q := sQ (bI al) w z) (sQ_iff.mpr ⟨(sT_t hz (by omega) hq2).1, (sT_t hz (by omega) hq2).2, by omega⟩)]
      · rw [if_neg hq2]
        refine rn_iconst (k' := 17) rfl rfl ?_
        refine rn_icmp_ne (k' := 18) rfl rfl (fun hc6 => ?_) (fun hc6 => ?_)
        · skip
          refine rn_iinc (k' := 34) (L' := [some (mR 112), some (mI ((z : Int))), some (mI (al)), some (mI ((n0 : Int) + 1))]) rfl rfl rfl (by omega) rfl ?_
          refine rn_goto rfl ?_
          rw [sN_f (q := sQ (bI al) w z) (fun y => sT_f hz (by omega) hq2 ⟨(sQ_iff.mp y).1, (sQ_iff.mp y).2.1⟩)]
          exact ih (n0 + 1) _ (by omega) (by omega)
        · exfalso; omega
set_option maxHeartbeats 2000000 in
theorem c_X8_leastNext {μ : Nat → Nat → Int} {c s : Nat} {n : Nat} (hn : μ 6 13 = (n : Int)) (h8 : n < 9) {z : Nat} (hz : z < 256) {al : Int} {w : Nat → Nat → Int} (hT : ∀ k, k < n → z.testBit k = false → μ 113 (((so z k : Nat) : Int) * 8 + (k : Int)).toNat = w (so z k) k) (hw : ∀ k, k < n → z.testBit k = false → 0 ≤ w (so z k) k ∧ w (so z k) k ≤ 2097152) : Cl PT 76 [mR 112, mI ((z : Int)), mI al] (mkh μ c s) (fun r => r = (some (some (mI (((sN (sQ (bI al) w z) n 0 : Nat) : Int)))), mkh (μ) c s)) := by
  refine ⟨_, PT_76, Nat.le_of_ble_eq_true rfl, ?_⟩
  show Rn PT none kX8_leastNext 0 [some (mR 112), some (mI ((z : Int))), some (mI (al)), none] [] (mkh μ c s) _
  refine rn_iconst (k' := 1) rfl rfl ?_
  refine rn_istore_n (k' := 2) (L' := [some (mR 112), some (mI ((z : Int))), some (mI (al)), some (mI (0))]) rfl rfl (Nat.le_of_ble_eq_true rfl) rfl ?_
  exact l_least hn h8 hz hT hw n 0 _ rfl (by omega)
