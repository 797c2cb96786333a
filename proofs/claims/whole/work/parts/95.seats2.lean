variable {N : Int}
/-! ===== printed by wip/whole/gen95.py: seats of the class ===== -/
theorem wW_rows {μ ν : Nat → Nat → Int} (e6 : ν 6 = μ 6) (e16 : ν 16 = μ 16) : wW ν = wW μ := by
  have e : sP ν = sP μ := by
    funext i l k
    unfold sP g_st
    rw [e6, e16]
  delta wW
  rw [e]
theorem sP_rows {μ ν : Nat → Nat → Int} (e6 : ν 6 = μ 6) (e16 : ν 16 = μ 16) : sP ν = sP μ := by
  funext i l k
  unfold sP g_st
  rw [e6, e16]
/-- the table, above z -/
def TB (w : Nat → Nat → Int) (n : Nat) (T : Nat → Int) (z : Nat) : Prop := ∀ z' l : Nat, z < z' → z' < 2 ^ n → l < n → T (z' * 8 + l) = w z' l
def TI (w : Nat → Nat → Int) (n : Nat) (T : Nat → Int) (z m : Nat) : Prop := TB w n T z ∧ ∀ l : Nat, l < m → T (z * 8 + l) = w z l
theorem TI_step {w : Nat → Nat → Int} {n : Nat} {T : Nat → Int} {z m : Nat} {v : Int} (h : TI w n T z m) (hn : n ≤ 8) (hm : m < 8) (hv : v = w z m) : TI w n (fs T (z * 8 + m) v) z (m + 1) := by
  refine ⟨fun z' l h1 h2 h3 => ?_, fun l hl => ?_⟩
  · rw [fs_ne (by omega)]; exact h.1 z' l h1 h2 h3
  · by_cases e : l = m
    · rw [e, fs_eq, hv]
    · rw [fs_ne (by omega)]; exact h.2 l (by omega)
theorem TI_down {w : Nat → Nat → Int} {n : Nat} {T : Nat → Int} {z : Nat} (h : TI w n T (z + 1) n) : TB w n T z := fun z' l h1 h2 h3 => by
  by_cases e : z' = z + 1
  · rw [e]; exact h.2 l h3
  · exact h.1 z' l (by omega) h2 h3
/-- the first order: who sits, and who sat down last -/
def sG (w : Nat → Nat → Int) (P : Nat → Nat → Bool) (n : Nat) : Nat → Nat × Nat
  | 0 => (0, 0)
  | j + 1 => (so (sG w P n j).1 (sN (sQ (fun k => decide (j = 0) || P (sG w P n j).2 k) w (sG w P n j).1) n 0), sN (sQ (fun k => decide (j = 0) || P (sG w P n j).2 k) w (sG w P n j).1) n 0)
theorem sN_b {q : Nat → Bool} {n : Nat} : ∀ d k : Nat, k + d = n → sN q d k < n ∨ sN q d k = 0
  | 0, _, _ => Or.inr rfl
  | d + 1, k, h => by
    by_cases e : q k = true
    · rw [sN_t e]; exact Or.inl (by omega)
    · rw [sN_f e]; exact sN_b d (k + 1) (by omega)
theorem sQ_congr {p r : Nat → Bool} {w : Nat → Nat → Int} {z k : Nat} (h : p k = r k) : sQ p w z k = sQ r w z k := by
  unfold sQ
  rw [h]
theorem sT_congr {p r : Nat → Bool} {w : Nat → Nat → Int} {z k : Nat} (h : p k = r k) : sT p w z k = sT r w z k := by
  unfold sT
  rw [h]
/-- in how many orders -/
def sO (w : Nat → Nat → Int) (n : Nat) : Int := if n = 0 then 1 else sS (sT (fun _ => true) w 0) n
theorem sG_lt {w : Nat → Nat → Int} {P : Nat → Nat → Bool} {n : Nat} (h8 : n < 9) (h1 : 1 ≤ n) : ∀ j, (sG w P n j).1 < 256 ∧ (sG w P n j).2 < n
  | 0 => ⟨by show 0 < 256; decide, by show 0 < n; omega⟩
  | j + 1 => by
    have ih := sG_lt (w := w) (P := P) h8 h1 j
    have hb := sN_b (q := sQ (fun k => decide (j = 0) || P (sG w P n j).2 k) w (sG w P n j).1) (n := n) n 0 (by omega)
    refine ⟨(so_f _ ih.1 _ (by omega)).2.1, ?_⟩
    show sN _ n 0 < n
    omega
set_option maxHeartbeats 4000000 in
theorem l_ob_in {μ : Nat → Nat → Int} {c s : Nat} (hL : I_land μ) (hS : I_scene μ) {n : Nat} (hnn : μ 6 13 = (n : Int)) (h8 : n < 9) {i : Int} (hi : 0 ≤ i ∧ i ≤ 99) (hN : ∀ l, l < n → μ 114 l = fO (fun k => sP μ i l k = true) n) {A : Nat} (hA : A = 2 ^ n - 1) {z : Nat} (hz : z < 2 ^ n) (hz1 : 1 ≤ z) {Q : MR → Prop} (K : ∀ T v, TI (wW μ i n) n T z n → Rn PT none kX8_ordersBy 44 [some (mR 112), some (mI (i)), some (mI ((A : Int))), some (mI ((z : Int))), v] [] (mkh (m_upd μ 113 T) c s) Q) : ∀ (d n0 : Nat) (k : Int) (T : Nat → Int), k = (n0 : Int) → n0 + d = n → (TI (wW μ i n) n T z n0) → Rn PT none kX8_ordersBy 17 [some (mR 112), some (mI (i)), some (mI ((A : Int))), some (mI ((z : Int))), some (mI (k))] [] (mkh (m_upd μ 113 T) c s) (Q) := by
  have hL_ := hL
  obtain ⟨lc, lr, le, lm, lw, lh, lwo, lwd, q0, q1, q2, q3, q4, q8, q499, q500, lth, lG, lT, lW, -⟩ := hL_
  have hS_ := hS
  obtain ⟨sd, sw, stk, s4, s5, s6, hC, hH, -, s10, sce, swc, s13⟩ := hS_
  obtain ⟨a1, a2, a3, a4, a5⟩ := all_f n h8
  intro d
  induction d with
  | zero =>
    intro n0 k T ek hn hT
    subst ek
    have e0 : n0 = n := by omega
    rw [e0] at hT
    refine rn_iload (k' := 18) rfl rfl rfl ?_
    refine rn_aload_n (k' := 19) rfl rfl rfl ?_
    refine rn_getR (k' := 20) rfl rfl K0_112 (by decide) rfl R0_112_0 ?_
    refine rn_getI (k' := 21) rfl rfl K0_6 (by decide) rfl ?_
    show Rn PT none kX8_ordersBy 21 [some (mR 112), some (mI (i)), some (mI ((A : Int))), some (mI ((z : Int))), some (mI ((n0 : Int)))] [mI (μ 6 13), mI ((n0 : Int))] (mkh (m_upd μ 113 T) c s) _
    refine rn_icmp_ge (k' := 22) rfl rfl (fun hc1 => ?_) (fun hc1 => ?_)
    · skip
      exact K _ _ hT
    · exfalso; omega
  | succ d ih =>
    intro n0 k T ek hn hT
    subst ek
    have hv : sS (sT (bI (μ 114 n0)) (wW μ i n) z) n = sS (sT (sP μ i n0) (wW μ i n) z) n := sS_congr n (fun k hk => sT_congr (by
      rw [hN n0 (by omega), fO_bit n (by omega) k (by omega)]
      cases sP μ i n0 k <;> simp [hk]))
    refine rn_iload (k' := 18) rfl rfl rfl ?_
    refine rn_aload_n (k' := 19) rfl rfl rfl ?_
    refine rn_getR (k' := 20) rfl rfl K0_112 (by decide) rfl R0_112_0 ?_
    refine rn_getI (k' := 21) rfl rfl K0_6 (by decide) rfl ?_
    show Rn PT none kX8_ordersBy 21 [some (mR 112), some (mI (i)), some (mI ((A : Int))), some (mI ((z : Int))), some (mI ((n0 : Int)))] [mI (μ 6 13), mI ((n0 : Int))] (mkh (m_upd μ 113 T) c s) _
    refine rn_icmp_ge (k' := 22) rfl rfl (fun hc1 => ?_) (fun hc1 => ?_)
    · exfalso; omega
    · skip
      refine rn_aload_n (k' := 23) rfl rfl rfl ?_
      refine rn_getR (k' := 24) rfl rfl K0_112 (by decide) rfl R0_112_2 ?_
      refine rn_iload_n (k' := 25) rfl rfl rfl ?_
      refine rn_bipush (k' := 26) rfl rfl ?_
      refine rn_imul (k' := 27) rfl rfl (by omega) ?_
      refine rn_iload (k' := 28) rfl rfl rfl ?_
      refine rn_iadd (k' := 29) rfl rfl (by omega) ?_
      refine rn_iload_n (k' := 30) rfl rfl rfl ?_
      refine rn_iload_n (k' := 31) rfl rfl rfl ?_
      refine rn_icmp_ne (k' := 32) rfl rfl (fun hc2 => ?_) (fun hc2 => ?_)
      · skip
        refine rn_aload_n (k' := 35) rfl rfl rfl ?_
        refine rn_iload_n (k' := 36) rfl rfl rfl ?_
        refine rn_aload_n (k' := 37) rfl rfl rfl ?_
        refine rn_getR (k' := 38) rfl rfl K0_112 (by decide) rfl R0_112_3 ?_
        refine rn_iload (k' := 39) rfl rfl rfl ?_
        refine rn_iaload (k' := 40) rfl rfl K0_114 (by omega) (by omega) ?_
        show Rn PT none kX8_ordersBy 40 [some (mR 112), some (mI (i)), some (mI ((A : Int))), some (mI ((z : Int))), some (mI ((n0 : Int)))] [mI (μ 114 (n0)), mI ((z : Int)), mR 112, mI (((z : Int) * 8) + (n0 : Int)), mR 113] (mkh (m_upd μ 113 T) c s) _
        have hcl3 := c_X8_restsBehind (μ := (m_upd μ 113 T)) (c := c) (s := s) (n := n) hnn h8 (z := z) (by omega) (al := μ 114 n0) (w := (wW μ i n)) (fun k hk hb => by rw [show (((so z k : Nat) : Int) * 8 + (k : Int)).toNat = so z k * 8 + k by omega]; exact hT.1 _ k ((so_f z (by omega) k (by omega)).2.2.2 hb).1 (so_lt (by omega) hk) hk) (fun k hk hb => wW_c h8 (by omega) hk hb)
        refine rn_callP (k' := 41) (y := 74) (vs := [mR 112, mI ((z : Int)), mI (μ 114 (n0))]) (S' := [mI (((z : Int) * 8) + (n0 : Int)), mR 113]) (v := some (mI (sS (sT (bI (μ 114 n0)) (wW μ i n) z) n))) (h' := mkh (m_upd μ 113 T) c s) rfl rfl rfl (hcl3) ?_
        show Rn PT none kX8_ordersBy 41 [some (mR 112), some (mI (i)), some (mI ((A : Int))), some (mI ((z : Int))), some (mI ((n0 : Int)))] [mI (sS (sT (bI (μ 114 n0)) (wW μ i n) z) n), mI (((z : Int) * 8) + (n0 : Int)), mR 113] (mkh (m_upd μ 113 T) c s) _
        refine rn_iastore (k' := 42) rfl rfl K0_113 (by omega) (by omega) ?_
        refine rn_iinc (k' := 43) (L' := [some (mR 112), some (mI (i)), some (mI ((A : Int))), some (mI ((z : Int))), some (mI ((n0 : Int) + 1))]) rfl rfl rfl (by omega) rfl ?_
        refine rn_goto rfl ?_
        show Rn PT none kX8_ordersBy 17 [some (mR 112), some (mI (i)), some (mI ((A : Int))), some (mI ((z : Int))), some (mI ((n0 : Int) + 1))] [] (mkh (m_set (m_upd μ 113 T) 113 ((((z : Int) * 8) + (n0 : Int)).toNat) (sS (sT (bI (μ 114 n0)) (wW μ i n) z) n)) c s) _
        rw [set_upd_eq (a := 113), show (((z : Int) * 8) + (n0 : Int)).toNat = z * 8 + n0 by omega]
        exact ih (n0 + 1) _ _ (by omega) (by omega) (TI_step hT (by omega) (by omega) (by first | (rw [wW_all (by omega)]; done) | (rw [hv, ← wW_step h8 hz (by omega)]; done)))
      · skip
        refine rn_iconst (k' := 33) rfl rfl ?_
        refine rn_goto rfl ?_
        refine rn_iastore (k' := 42) rfl rfl K0_113 (by omega) (by omega) ?_
        refine rn_iinc (k' := 43) (L' := [some (mR 112), some (mI (i)), some (mI ((A : Int))), some (mI ((z : Int))), some (mI ((n0 : Int) + 1))]) rfl rfl rfl (by omega) rfl ?_
        refine rn_goto rfl ?_
        show Rn PT none kX8_ordersBy 17 [some (mR 112), some (mI (i)), some (mI ((A : Int))), some (mI ((z : Int))), some (mI ((n0 : Int) + 1))] [] (mkh (m_set (m_upd μ 113 T) 113 ((((z : Int) * 8) + (n0 : Int)).toNat) (1)) c s) _
        rw [set_upd_eq (a := 113), show (((z : Int) * 8) + (n0 : Int)).toNat = z * 8 + n0 by omega]
        exact ih (n0 + 1) _ _ (by omega) (by omega) (TI_step hT (by omega) (by omega) (by first | (rw [wW_all (by omega)]; done) | (rw [hv, ← wW_step h8 hz (by omega)]; done)))
set_option maxHeartbeats 4000000 in
theorem l_ob {μ : Nat → Nat → Int} {c s : Nat} (hL : I_land μ) (hS : I_scene μ) {n : Nat} (hnn : μ 6 13 = (n : Int)) (h8 : n < 9) {i : Int} (hi : 0 ≤ i ∧ i ≤ 99) (hN : ∀ l, l < n → μ 114 l = fO (fun k => sP μ i l k = true) n) {A : Nat} (hA : A = 2 ^ n - 1) {Q : MR → Prop} (K : ∀ T v, TB (wW μ i n) n T 0 → Rn PT none kX8_ordersBy 46 [some (mR 112), some (mI (i)), some (mI ((A : Int))), some (mI (0)), v] [] (mkh (m_upd μ 113 T) c s) Q) : ∀ (d : Nat) (z : Int) (T : Nat → Int) (v : Option MV), z = (d : Int) → d < 2 ^ n → TB (wW μ i n) n T d → Rn PT none kX8_ordersBy 13 [some (mR 112), some (mI (i)), some (mI ((A : Int))), some (mI (z)), v] [] (mkh (m_upd μ 113 T) c s) Q := by
  have hL_ := hL
  obtain ⟨lc, lr, le, lm, lw, lh, lwo, lwd, q0, q1, q2, q3, q4, q8, q499, q500, lth, lG, lT, lW, -⟩ := hL_
  have hS_ := hS
  obtain ⟨sd, sw, stk, s4, s5, s6, hC, hH, -, s10, sce, swc, s13⟩ := hS_
  obtain ⟨a1, a2, a3, a4, a5⟩ := all_f n h8
  intro d
  induction d with
  | zero =>
    intro z T v ez hd hT
    subst ez
    show Rn PT none kX8_ordersBy 13 [some (mR 112), some (mI (i)), some (mI ((A : Int))), some (mI (0)), v] [] (mkh (m_upd μ 113 T) c s) _
    refine rn_iload_n (k' := 14) rfl rfl rfl ?_
    refine rn_if_le (k' := 15) rfl rfl (fun hc1 => ?_) (fun hc1 => ?_)
    · skip
      exact K _ _ hT
    · exfalso; omega
  | succ d ih =>
    intro z T v ez hd hT
    subst ez
    refine rn_iload_n (k' := 14) rfl rfl rfl ?_
    refine rn_if_le (k' := 15) rfl rfl (fun hc1 => ?_) (fun hc1 => ?_)
    · exfalso; omega
    · skip
      refine rn_iconst (k' := 16) rfl rfl ?_
      refine rn_istore (k' := 17) (L' := [some (mR 112), some (mI (i)), some (mI ((A : Int))), some (mI (((d + 1 : Nat) : Int))), some (mI (0))]) rfl rfl (Nat.le_of_ble_eq_true rfl) rfl ?_
      refine l_ob_in hL hS hnn h8 hi hN hA (z := d + 1) hd (by omega) (fun T1 w hT1 => ?_) n 0 _ _ rfl (by omega) ⟨hT, fun l hl => absurd hl (Nat.not_lt_zero l)⟩
      refine rn_iinc (k' := 45) (L' := [some (mR 112), some (mI (i)), some (mI ((A : Int))), some (mI (((d + 1 : Nat) : Int) + (-1))), w]) rfl rfl rfl (by omega) rfl ?_
      refine rn_goto rfl ?_
      exact ih _ _ _ (by omega) (by omega) (TI_down hT1)
theorem sG_2n {w : Nat → Nat → Int} {P : Nat → Nat → Bool} {n : Nat} (h8 : n < 9) (h1 : 1 ≤ n) : ∀ j, (sG w P n j).1 < 2 ^ n
  | 0 => by show 0 < 2 ^ n; exact Nat.pow_pos (by decide)
  | j + 1 => so_lt (sG_2n h8 h1 j) (sG_lt (w := w) (P := P) h8 h1 (j + 1)).2
set_option maxHeartbeats 4000000 in
theorem l_sf {μ : Nat → Nat → Int} {c s : Nat} (hL : I_land μ) (hS : I_scene μ) {n : Nat} (hnn : μ 6 13 = (n : Int)) (h8 : n < 9) {i : Int} (hi : 0 ≤ i ∧ i ≤ 99) (hN : ∀ l, l < n → μ 114 l = fO (fun k => sP μ i l k = true) n) (hT : TB (wW μ i n) n (μ 113) 0) (hn1 : 1 ≤ n) {av : Int} : ∀ (d j : Nat) (zi : Int) (k : Int) (al : Int) (U : Nat → Int) (v5 : Option MV), zi = ((sG (wW μ i n) (sP μ i) n j).1 : Int) → k = (j : Int) → j + d = n → (∀ k, k < n → bI al k = (decide (j = 0) || sP μ i (sG (wW μ i n) (sP μ i) n j).2 k)) → (∀ l, l < j → U l = ((sG (wW μ i n) (sP μ i) n (l + 1)).2 : Int)) → Rn PT none kX8_seatFirst 6 [some (mR 112), some (mI (av)), some (mI (zi)), some (mI (al)), some (mI (k)), v5] [] (mkh (m_upd μ 115 U) c s) (fun r => ∃ U, r = (some none, mkh (m_set (m_upd μ 115 U) 112 5 (n : Int)) c s) ∧ ∀ l, l < n → U l = ((sG (wW μ i n) (sP μ i) n (l + 1)).2 : Int)) := by
  have hL_ := hL
  obtain ⟨lc, lr, le, lm, lw, lh, lwo, lwd, q0, q1, q2, q3, q4, q8, q499, q500, lth, lG, lT, lW, -⟩ := hL_
  have hS_ := hS
  obtain ⟨sd, sw, stk, s4, s5, s6, hC, hH, -, s10, sce, swc, s13⟩ := hS_
  obtain ⟨a1, a2, a3, a4, a5⟩ := all_f n h8
  intro d
  induction d with
  | zero =>
    intro j zi k al U v5 ezi ek hn hal hU
    subst ezi ek
    have ej : j = n := by omega
    refine rn_iload (k' := 7) rfl rfl rfl ?_
    refine rn_aload_n (k' := 8) rfl rfl rfl ?_
    refine rn_getR (k' := 9) rfl rfl K0_112 (by decide) rfl R0_112_0 ?_
    refine rn_getI (k' := 10) rfl rfl K0_6 (by decide) rfl ?_
    show Rn PT none kX8_seatFirst 10 [some (mR 112), some (mI (av)), some (mI (((sG (wW μ i n) (sP μ i) n j).1 : Int))), some (mI (al)), some (mI ((j : Int))), v5] [mI (μ 6 13), mI ((j : Int))] (mkh (m_upd μ 115 U) c s) _
    refine rn_icmp_ge (k' := 11) rfl rfl (fun hc1 => ?_) (fun hc1 => ?_)
    · skip
      refine rn_aload_n (k' := 35) rfl rfl rfl ?_
      refine rn_aload_n (k' := 36) rfl rfl rfl ?_
      refine rn_getR (k' := 37) rfl rfl K0_112 (by decide) rfl R0_112_0 ?_
      refine rn_getI (k' := 38) rfl rfl K0_6 (by decide) rfl ?_
      show Rn PT none kX8_seatFirst 38 [some (mR 112), some (mI (av)), some (mI (((sG (wW μ i n) (sP μ i) n j).1 : Int))), some (mI (al)), some (mI ((j : Int))), v5] [mI (μ 6 13), mR 112] (mkh (m_upd μ 115 U) c s) _
      refine rn_putI (k' := 39) rfl rfl K0_112 (by decide) rfl ?_
      refine rn_vret rfl ?_
      refine ⟨U, ?_, fun l hl => hU l (by omega)⟩
      rw [hnn]
    · exfalso; omega
  | succ d ih =>
    intro j zi k al U v5 ezi ek hn hal hU
    subst ezi ek
    have hzb := sG_lt (w := (wW μ i n)) (P := sP μ i) h8 hn1 j
    have hz1 := sG_lt (w := (wW μ i n)) (P := sP μ i) h8 hn1 (j + 1)
    have hz2 := sG_2n (w := (wW μ i n)) (P := sP μ i) h8 hn1 j
    have hor : m_or ((sG (wW μ i n) (sP μ i) n j).1 : Int) (m_shl 1 ((sG (wW μ i n) (sP μ i) n (j + 1)).2 : Int)) = ((sG (wW μ i n) (sP μ i) n (j + 1)).1 : Int) := (so_f (sG (wW μ i n) (sP μ i) n j).1 hzb.1 (sG (wW μ i n) (sP μ i) n (j + 1)).2 (by omega)).1
    refine rn_iload (k' := 7) rfl rfl rfl ?_
    refine rn_aload_n (k' := 8) rfl rfl rfl ?_
    refine rn_getR (k' := 9) rfl rfl K0_112 (by decide) rfl R0_112_0 ?_
    refine rn_getI (k' := 10) rfl rfl K0_6 (by decide) rfl ?_
    show Rn PT none kX8_seatFirst 10 [some (mR 112), some (mI (av)), some (mI (((sG (wW μ i n) (sP μ i) n j).1 : Int))), some (mI (al)), some (mI ((j : Int))), v5] [mI (μ 6 13), mI ((j : Int))] (mkh (m_upd μ 115 U) c s) _
    refine rn_icmp_ge (k' := 11) rfl rfl (fun hc1 => ?_) (fun hc1 => ?_)
    · exfalso; omega
    · skip
      refine rn_aload_n (k' := 12) rfl rfl rfl ?_
      refine rn_iload_n (k' := 13) rfl rfl rfl ?_
      refine rn_iload_n (k' := 14) rfl rfl rfl ?_
      have hcl2 := c_X8_leastNext (μ := (m_upd μ 115 U)) (c := c) (s := s) (n := n) hnn h8 (z := (sG (wW μ i n) (sP μ i) n j).1) hzb.1 (al := al) (w := (wW μ i n)) (fun k hk hb => by rw [show (((so (sG (wW μ i n) (sP μ i) n j).1 k : Nat) : Int) * 8 + (k : Int)).toNat = so (sG (wW μ i n) (sP μ i) n j).1 k * 8 + k by omega]; exact hT _ k (by have := ((so_f (sG (wW μ i n) (sP μ i) n j).1 hzb.1 k (by omega)).2.2.2 hb).1; omega) (so_lt hz2 hk) hk) (fun k hk hb => wW_c h8 hz2 hk hb)
      rw [sN_congr (r := sQ (fun k => decide (j = 0) || sP μ i (sG (wW μ i n) (sP μ i) n j).2 k) (wW μ i n) (sG (wW μ i n) (sP μ i) n j).1) n 0 (fun k h1 h2 => sQ_congr (r := fun k => decide (j = 0) || sP μ i (sG (wW μ i n) (sP μ i) n j).2 k) (hal k (by omega)))] at hcl2
      refine rn_callP (k' := 15) (y := 76) (vs := [mR 112, mI (((sG (wW μ i n) (sP μ i) n j).1 : Int)), mI (al)]) (S' := []) (v := some (mI (((sG (wW μ i n) (sP μ i) n (j + 1)).2 : Int)))) (h' := mkh (m_upd μ 115 U) c s) rfl rfl rfl (hcl2) ?_
      show Rn PT none kX8_seatFirst 15 [some (mR 112), some (mI (av)), some (mI (((sG (wW μ i n) (sP μ i) n j).1 : Int))), some (mI (al)), some (mI ((j : Int))), v5] [mI (((sG (wW μ i n) (sP μ i) n (j + 1)).2 : Int))] (mkh (m_upd μ 115 U) c s) _
      refine rn_istore (k' := 16) (L' := [some (mR 112), some (mI (av)), some (mI (((sG (wW μ i n) (sP μ i) n j).1 : Int))), some (mI (al)), some (mI ((j : Int))), some (mI (((sG (wW μ i n) (sP μ i) n (j + 1)).2 : Int)))]) rfl rfl (Nat.le_of_ble_eq_true rfl) rfl ?_
      refine rn_aload_n (k' := 17) rfl rfl rfl ?_
      refine rn_getR (k' := 18) rfl rfl K0_112 (by decide) rfl R0_112_4 ?_
      refine rn_iload (k' := 19) rfl rfl rfl ?_
      refine rn_iload (k' := 20) rfl rfl rfl ?_
      refine rn_iastore (k' := 21) rfl rfl K0_115 (by omega) (by omega) ?_
      refine rn_iload_n (k' := 22) rfl rfl rfl ?_
      refine rn_iconst (k' := 23) rfl rfl ?_
      refine rn_iload (k' := 24) rfl rfl rfl ?_
      refine rn_ishl (k' := 25) rfl rfl ?_
      refine rn_ior (k' := 26) rfl rfl ?_
      rw [hor]
      refine rn_istore_n (k' := 27) (L' := [some (mR 112), some (mI (av)), some (mI (((sG (wW μ i n) (sP μ i) n (j + 1)).1 : Int))), some (mI (al)), some (mI ((j : Int))), some (mI (((sG (wW μ i n) (sP μ i) n (j + 1)).2 : Int)))]) rfl rfl (Nat.le_of_ble_eq_true rfl) rfl ?_
      refine rn_aload_n (k' := 28) rfl rfl rfl ?_
      refine rn_getR (k' := 29) rfl rfl K0_112 (by decide) rfl R0_112_3 ?_
      refine rn_iload (k' := 30) rfl rfl rfl ?_
      refine rn_iaload (k' := 31) rfl rfl K0_114 (by omega) (by omega) ?_
      show Rn PT none kX8_seatFirst 31 [some (mR 112), some (mI (av)), some (mI (((sG (wW μ i n) (sP μ i) n (j + 1)).1 : Int))), some (mI (al)), some (mI ((j : Int))), some (mI (((sG (wW μ i n) (sP μ i) n (j + 1)).2 : Int)))] [mI (μ 114 ((((sG (wW μ i n) (sP μ i) n (j + 1)).2 : Int)).toNat))] (mkh (m_set (m_upd μ 115 U) 115 j (((sG (wW μ i n) (sP μ i) n (j + 1)).2 : Int))) c s) _
      refine rn_istore_n (k' := 32) (L' := [some (mR 112), some (mI (av)), some (mI (((sG (wW μ i n) (sP μ i) n (j + 1)).1 : Int))), some (mI (μ 114 ((((sG (wW μ i n) (sP μ i) n (j + 1)).2 : Int)).toNat))), some (mI ((j : Int))), some (mI (((sG (wW μ i n) (sP μ i) n (j + 1)).2 : Int)))]) rfl rfl (Nat.le_of_ble_eq_true rfl) rfl ?_
      refine rn_iinc (k' := 33) (L' := [some (mR 112), some (mI (av)), some (mI (((sG (wW μ i n) (sP μ i) n (j + 1)).1 : Int))), some (mI (μ 114 ((((sG (wW μ i n) (sP μ i) n (j + 1)).2 : Int)).toNat))), some (mI ((j : Int) + 1)), some (mI (((sG (wW μ i n) (sP μ i) n (j + 1)).2 : Int)))]) rfl rfl rfl (by omega) rfl ?_
      refine rn_goto rfl ?_
      show Rn PT none kX8_seatFirst 6 [some (mR 112), some (mI (av)), some (mI (((sG (wW μ i n) (sP μ i) n (j + 1)).1 : Int))), some (mI (μ 114 ((((sG (wW μ i n) (sP μ i) n (j + 1)).2 : Int)).toNat))), some (mI ((j : Int) + 1)), some (mI (((sG (wW μ i n) (sP μ i) n (j + 1)).2 : Int)))] [] (mkh (m_set (m_upd μ 115 U) 115 j (((sG (wW μ i n) (sP μ i) n (j + 1)).2 : Int))) c s) _
      rw [set_upd_eq (a := 115)]
      exact ih (j + 1) _ _ _ _ _ rfl (by omega) (by omega) (fun k hk => by
        show bI (μ 114 (sG (wW μ i n) (sP μ i) n (j + 1)).2) k = _
        rw [hN _ hz1.2, fO_bit n (by omega) k (by omega)]
        cases sP μ i (sG (wW μ i n) (sP μ i) n (j + 1)).2 k <;> simp [hk]) (fun l hl => by
        by_cases e : l = j
        · rw [e, fs_eq]
        · rw [fs_ne e]; exact hU l (by omega))
theorem c_sf {μ : Nat → Nat → Int} {c s : Nat} (hL : I_land μ) (hS : I_scene μ) {n : Nat} (hnn : μ 6 13 = (n : Int)) (h8 : n < 9) {i : Int} (hi : 0 ≤ i ∧ i ≤ 99) (hN : ∀ l, l < n → μ 114 l = fO (fun k => sP μ i l k = true) n) (hT : TB (wW μ i n) n (μ 113) 0) {A : Nat} (hA : A = 2 ^ n - 1) (hn1 : 1 ≤ n) : Cl PT 75 [mR 112, mI (A : Int)] (mkh μ c s) (fun r => ∃ U, r = (some none, mkh (m_set (m_upd μ 115 U) 112 5 (n : Int)) c s) ∧ ∀ l, l < n → U l = ((sG (wW μ i n) (sP μ i) n (l + 1)).2 : Int)) := by
  obtain ⟨a1, a2, a3, a4, a5⟩ := all_f n h8
  refine ⟨_, PT_75, Nat.le_of_ble_eq_true rfl, ?_⟩
  show Rn PT none kX8_seatFirst 0 [some (mR 112), some (mI ((A : Int))), none, none, none, none] [] (mkh μ c s) _
  refine rn_iconst (k' := 1) rfl rfl ?_
  refine rn_istore_n (k' := 2) (L' := [some (mR 112), some (mI ((A : Int))), some (mI (0)), none, none, none]) rfl rfl (Nat.le_of_ble_eq_true rfl) rfl ?_
  refine rn_iload_n (k' := 3) rfl rfl rfl ?_
  refine rn_istore_n (k' := 4) (L' := [some (mR 112), some (mI ((A : Int))), some (mI (0)), some (mI ((A : Int))), none, none]) rfl rfl (Nat.le_of_ble_eq_true rfl) rfl ?_
  refine rn_iconst (k' := 5) rfl rfl ?_
  refine rn_istore (k' := 6) (L' := [some (mR 112), some (mI ((A : Int))), some (mI (0)), some (mI ((A : Int))), some (mI (0)), none]) rfl rfl (Nat.le_of_ble_eq_true rfl) rfl ?_
  have h := l_sf (c := c) (s := s) hL hS hnn h8 hi hN hT hn1 (av := (A : Int)) n 0 0 0 (A : Int) (μ 115) none rfl rfl (by omega) (fun k hk => by rw [hA, (a5 k hk).2]; rfl) (fun l hl => absurd hl (Nat.not_lt_zero l))
  rw [upd_self (a := 115)] at h
  exact h
theorem c_sf0 {μ : Nat → Nat → Int} {c s : Nat} (hnn : μ 6 13 = 0) {av : Int} : Cl PT 75 [mR 112, mI av] (mkh μ c s) (fun r => r = (some none, mkh (m_set μ 112 5 0) c s)) := by
  refine ⟨_, PT_75, Nat.le_of_ble_eq_true rfl, ?_⟩
  show Rn PT none kX8_seatFirst 0 [some (mR 112), some (mI (av)), none, none, none, none] [] (mkh μ c s) _
  refine rn_iconst (k' := 1) rfl rfl ?_
  refine rn_istore_n (k' := 2) (L' := [some (mR 112), some (mI (av)), some (mI (0)), none, none, none]) rfl rfl (Nat.le_of_ble_eq_true rfl) rfl ?_
  refine rn_iload_n (k' := 3) rfl rfl rfl ?_
  refine rn_istore_n (k' := 4) (L' := [some (mR 112), some (mI (av)), some (mI (0)), some (mI (av)), none, none]) rfl rfl (Nat.le_of_ble_eq_true rfl) rfl ?_
  refine rn_iconst (k' := 5) rfl rfl ?_
  refine rn_istore (k' := 6) (L' := [some (mR 112), some (mI (av)), some (mI (0)), some (mI (av)), some (mI (0)), none]) rfl rfl (Nat.le_of_ble_eq_true rfl) rfl ?_
  refine rn_iload (k' := 7) rfl rfl rfl ?_
  refine rn_aload_n (k' := 8) rfl rfl rfl ?_
  refine rn_getR (k' := 9) rfl rfl K0_112 (by decide) rfl R0_112_0 ?_
  refine rn_getI (k' := 10) rfl rfl K0_6 (by decide) rfl ?_
  refine rn_icmp_ge (k' := 11) rfl rfl (fun hc1 => ?_) (fun hc1 => ?_)
  · skip
    refine rn_aload_n (k' := 35) rfl rfl rfl ?_
    refine rn_aload_n (k' := 36) rfl rfl rfl ?_
    refine rn_getR (k' := 37) rfl rfl K0_112 (by decide) rfl R0_112_0 ?_
    refine rn_getI (k' := 38) rfl rfl K0_6 (by decide) rfl ?_
    refine rn_putI (k' := 39) rfl rfl K0_112 (by decide) rfl ?_
    refine rn_vret rfl ?_
    rw [hnn]
  · exfalso; omega
def kS (a j : Nat) : Bool := sup a j && !(a == 115 || (a == 112 && j == 5))
theorem kT_kS {a j : Nat} (h : kT a j = true) : kS a j = true := by
  have hs := kT_sup h
  unfold kT at h
  unfold kS
  rw [hs] at h ⊢
  simp only [Bool.true_and, Bool.not_eq_true', Bool.or_eq_false_iff, Bool.and_eq_false_iff] at h ⊢
  obtain ⟨⟨⟨⟨⟨⟨⟨⟨h1, h2⟩, h3⟩, h4⟩, h5⟩, h6⟩, h7⟩, h8⟩, h9⟩ := h
  exact ⟨h3, Or.inl h8⟩
theorem kS_sup {a j : Nat} (h : kS a j = true) : sup a j = true := by
  unfold kS at h
  cases hs : sup a j with
  | true => rfl
  | false => rw [hs] at h; exact h
set_option maxHeartbeats 4000000 in
theorem x0_ob {μ : Nat → Nat → Int} {c s : Nat} (hL : I_land μ) (hS : I_scene μ) {n : Nat} (hnn : μ 6 13 = (n : Int)) (h8 : n < 9) {i : Int} (hi : 0 ≤ i ∧ i ≤ 99) {A : Nat} (hA : A = 2 ^ n - 1) (hn0 : n = 0) : Cl PT 72 [mR 112, mI i] (mkh μ c s) (fun r => ∃ M : Nat → Nat → Int, r = (some (some (mI (sO (wW μ i n) n))), mkh M c s) ∧ rm kS M = rm kS μ ∧ (sO (wW μ i n) n = 0 → rst M = rst μ) ∧ (¬ sO (wW μ i n) n = 0 → M 112 5 = (n : Int) ∧ ∀ l, l < n → M 115 l = ((sG (wW μ i n) (sP μ i) n (l + 1)).2 : Int))) := by
  subst hn0
  have hL_ := hL
  obtain ⟨lc, lr, le, lm, lw, lh, lwo, lwd, q0, q1, q2, q3, q4, q8, q499, q500, lth, lG, lT, lW, -⟩ := hL_
  have hS_ := hS
  obtain ⟨sd, sw, stk, s4, s5, s6, hC, hH, -, s10, sce, swc, s13⟩ := hS_
  obtain ⟨a1, a2, a3, a4, a5⟩ := all_f 0 h8
  have hsh : m_shl 1 (μ 6 13) = (A : Int) + 1 := by rw [hnn, hA]; omega
  refine ⟨_, PT_72, Nat.le_of_ble_eq_true rfl, ?_⟩
  show Rn PT none kX8_ordersBy 0 [some (mR 112), some (mI (i)), none, none, none] [] (mkh μ c s) _
  refine rn_iconst (k' := 1) rfl rfl ?_
  refine rn_aload_n (k' := 2) rfl rfl rfl ?_
  refine rn_getR (k' := 3) rfl rfl K0_112 (by decide) rfl R0_112_0 ?_
  refine rn_getI (k' := 4) rfl rfl K0_6 (by decide) rfl ?_
  refine rn_ishl (k' := 5) rfl rfl ?_
  rw [hsh]
  refine rn_iconst (k' := 6) rfl rfl ?_
  refine rn_isub (k' := 7) rfl rfl (by omega) ?_
  refine rn_istore_n (k' := 8) (L' := [some (mR 112), some (mI (i)), some (mI (((A : Int) + 1) - 1)), none, none]) rfl rfl (Nat.le_of_ble_eq_true rfl) rfl ?_
  refine rn_aload_n (k' := 9) rfl rfl rfl ?_
  refine rn_iload_n (k' := 10) rfl rfl rfl ?_
  refine rn_callP (k' := 11) (y := 73) (vs := [mR 112, mI (i)]) (S' := []) (v := none) (h' := mkh (m_upd μ 114 ((fl (fun l : Nat => fO (fun k => sP μ i l k = true) 0) (μ 114) 0))) c s) rfl rfl rfl (c_X8_findNeighbours (μ := μ) (c := c) (s := s) hL hS hnn h8 hi) ?_
  show Rn PT none kX8_ordersBy 11 [some (mR 112), some (mI (i)), some (mI (((A : Int) + 1) - 1)), none, none] [] (mkh (m_upd μ 114 ((fl (fun l : Nat => fO (fun k => sP μ i l k = true) 0) (μ 114) 0))) c s) _
  refine rn_iload_n (k' := 12) rfl rfl rfl ?_
  refine rn_istore_n (k' := 13) (L' := [some (mR 112), some (mI (i)), some (mI (((A : Int) + 1) - 1)), some (mI (((A : Int) + 1) - 1)), none]) rfl rfl (Nat.le_of_ble_eq_true rfl) rfl ?_
  rw [show ((A : Int) + 1) - 1 = (A : Int) by omega]
  have hu : m_upd (m_upd μ 114 ((fl (fun l : Nat => fO (fun k => sP μ i l k = true) 0) (μ 114) 0))) 113 ((m_upd μ 114 ((fl (fun l : Nat => fO (fun k => sP μ i l k = true) 0) (μ 114) 0))) 113) = (m_upd μ 114 ((fl (fun l : Nat => fO (fun k => sP μ i l k = true) 0) (μ 114) 0))) := upd_self
  refine (show Rn PT none kX8_ordersBy 13 [some (mR 112), some (mI (i)), some (mI ((A : Int))), some (mI ((A : Int))), none] [] (mkh (m_upd (m_upd μ 114 ((fl (fun l : Nat => fO (fun k => sP μ i l k = true) 0) (μ 114) 0))) 113 ((m_upd μ 114 ((fl (fun l : Nat => fO (fun k => sP μ i l k = true) 0) (μ 114) 0))) 113)) c s) _ → Rn PT none kX8_ordersBy 13 [some (mR 112), some (mI (i)), some (mI ((A : Int))), some (mI ((A : Int))), none] [] (mkh (m_upd μ 114 ((fl (fun l : Nat => fO (fun k => sP μ i l k = true) 0) (μ 114) 0))) c s) _ from fun h => by rw [hu] at h; exact h) ?_
  have hN4 : ∀ l, l < 0 → (m_upd μ 114 ((fl (fun l : Nat => fO (fun k => sP μ i l k = true) 0) (μ 114) 0))) 114 l = fO (fun k => sP (m_upd μ 114 ((fl (fun l : Nat => fO (fun k => sP μ i l k = true) 0) (μ 114) 0))) i l k = true) 0 := fun l hl => by
    rw [sP_rows (ν := (m_upd μ 114 ((fl (fun l : Nat => fO (fun k => sP μ i l k = true) 0) (μ 114) 0)))) (μ := μ) rfl rfl]
    show fl (fun l : Nat => fO (fun k => sP μ i l k = true) 0) (μ 114) 0 l = _
    exact fl_lt hl
  refine l_ob (μ := (m_upd μ 114 ((fl (fun l : Nat => fO (fun k => sP μ i l k = true) 0) (μ 114) 0)))) ((hL).upd rfl) ((hS).upd rfl) hnn h8 hi hN4 hA (fun T v hT0 => ?_) A (A : Int) _ none rfl (by omega) (fun z l h1 h2 _ => by omega)
  have hT1 : TB (wW μ i 0) 0 T 0 := by rw [wW_rows (ν := (m_upd μ 114 ((fl (fun l : Nat => fO (fun k => sP μ i l k = true) 0) (μ 114) 0)))) (μ := μ) rfl rfl] at hT0; exact hT0
  refine rn_aload_n (k' := 47) rfl rfl rfl ?_
  refine rn_getR (k' := 48) rfl rfl K0_112 (by decide) rfl R0_112_0 ?_
  refine rn_getI (k' := 49) rfl rfl K0_6 (by decide) rfl ?_
  show Rn PT none kX8_ordersBy 49 [some (mR 112), some (mI (i)), some (mI ((A : Int))), some (mI (0)), v] [mI (μ 6 13)] (mkh (m_upd (m_upd μ 114 ((fl (fun l : Nat => fO (fun k => sP μ i l k = true) 0) (μ 114) 0))) 113 T) c s) _
  refine rn_if_ne (k' := 50) rfl rfl (fun hc1 => ?_) (fun hc1 => ?_)
  · exfalso; omega
  · skip
    refine rn_iconst (k' := 51) rfl rfl ?_
    refine rn_goto rfl ?_
    refine rn_istore_n (k' := 57) (L' := [some (mR 112), some (mI (i)), some (mI ((A : Int))), some (mI (1)), v]) rfl rfl (Nat.le_of_ble_eq_true rfl) rfl ?_
    refine rn_iload_n (k' := 58) rfl rfl rfl ?_
    refine rn_if_le (k' := 59) rfl rfl (fun hc2 => ?_) (fun hc2 => ?_)
    · exfalso; omega
    · skip
      refine rn_aload_n (k' := 60) rfl rfl rfl ?_
      refine rn_iload_n (k' := 61) rfl rfl rfl ?_
      refine rn_callP (k' := 62) (y := 75) (vs := [mR 112, mI ((A : Int))]) (S' := []) (v := none) (h' := mkh (m_set (m_upd (m_upd μ 114 ((fl (fun l : Nat => fO (fun k => sP μ i l k = true) 0) (μ 114) 0))) 113 T) 112 5 (0)) c s) rfl rfl rfl (c_sf0 (μ := (m_upd (m_upd μ 114 ((fl (fun l : Nat => fO (fun k => sP μ i l k = true) 0) (μ 114) 0))) 113 T)) (c := c) (s := s) hnn) ?_
      show Rn PT none kX8_ordersBy 62 [some (mR 112), some (mI (i)), some (mI ((A : Int))), some (mI (1)), v] [] (mkh (m_set (m_upd (m_upd μ 114 ((fl (fun l : Nat => fO (fun k => sP μ i l k = true) 0) (μ 114) 0))) 113 T) 112 5 (0)) c s) _
      refine rn_iload_n (k' := 63) rfl rfl rfl ?_
      refine rn_iret rfl (Or.inl rfl) ?_
      refine ⟨(m_set (m_upd (m_upd μ 114 ((fl (fun l : Nat => fO (fun k => sP μ i l k = true) 0) (μ 114) 0))) 113 T) 112 5 (0)), ?_, ?_, fun z => ?_, fun _ => ⟨rfl, fun l hl => absurd hl (Nat.not_lt_zero l)⟩⟩
      · rfl
      · exact (rm_set rfl).trans ((rm_upd0 (fun _ => rfl)).trans (rm_upd0 (fun _ => rfl)))
      · exact absurd (show (1 : Int) = 0 from z) (by decide)
set_option maxHeartbeats 4000000 in
theorem x1_ob {μ : Nat → Nat → Int} {c s : Nat} (hL : I_land μ) (hS : I_scene μ) {n : Nat} (hnn : μ 6 13 = (n : Int)) (h8 : n < 9) {i : Int} (hi : 0 ≤ i ∧ i ≤ 99) {A : Nat} (hA : A = 2 ^ n - 1) (hn1 : 1 ≤ n) : Cl PT 72 [mR 112, mI i] (mkh μ c s) (fun r => ∃ M : Nat → Nat → Int, r = (some (some (mI (sO (wW μ i n) n))), mkh M c s) ∧ rm kS M = rm kS μ ∧ (sO (wW μ i n) n = 0 → rst M = rst μ) ∧ (¬ sO (wW μ i n) n = 0 → M 112 5 = (n : Int) ∧ ∀ l, l < n → M 115 l = ((sG (wW μ i n) (sP μ i) n (l + 1)).2 : Int))) := by
  have hL_ := hL
  obtain ⟨lc, lr, le, lm, lw, lh, lwo, lwd, q0, q1, q2, q3, q4, q8, q499, q500, lth, lG, lT, lW, -⟩ := hL_
  have hS_ := hS
  obtain ⟨sd, sw, stk, s4, s5, s6, hC, hH, -, s10, sce, swc, s13⟩ := hS_
  obtain ⟨a1, a2, a3, a4, a5⟩ := all_f n h8
  have hsh : m_shl 1 (μ 6 13) = (A : Int) + 1 := by rw [hnn, hA]; omega
  have hso : sO (wW μ i n) n = sS (sT (fun _ => true) (wW μ i n) 0) n := by unfold sO; rw [if_neg (by omega)]
  refine ⟨_, PT_72, Nat.le_of_ble_eq_true rfl, ?_⟩
  show Rn PT none kX8_ordersBy 0 [some (mR 112), some (mI (i)), none, none, none] [] (mkh μ c s) _
  refine rn_iconst (k' := 1) rfl rfl ?_
  refine rn_aload_n (k' := 2) rfl rfl rfl ?_
  refine rn_getR (k' := 3) rfl rfl K0_112 (by decide) rfl R0_112_0 ?_
  refine rn_getI (k' := 4) rfl rfl K0_6 (by decide) rfl ?_
  refine rn_ishl (k' := 5) rfl rfl ?_
  rw [hsh]
  refine rn_iconst (k' := 6) rfl rfl ?_
  refine rn_isub (k' := 7) rfl rfl (by omega) ?_
  refine rn_istore_n (k' := 8) (L' := [some (mR 112), some (mI (i)), some (mI (((A : Int) + 1) - 1)), none, none]) rfl rfl (Nat.le_of_ble_eq_true rfl) rfl ?_
  refine rn_aload_n (k' := 9) rfl rfl rfl ?_
  refine rn_iload_n (k' := 10) rfl rfl rfl ?_
  refine rn_callP (k' := 11) (y := 73) (vs := [mR 112, mI (i)]) (S' := []) (v := none) (h' := mkh (m_upd μ 114 ((fl (fun l : Nat => fO (fun k => sP μ i l k = true) n) (μ 114) n))) c s) rfl rfl rfl (c_X8_findNeighbours (μ := μ) (c := c) (s := s) hL hS hnn h8 hi) ?_
  show Rn PT none kX8_ordersBy 11 [some (mR 112), some (mI (i)), some (mI (((A : Int) + 1) - 1)), none, none] [] (mkh (m_upd μ 114 ((fl (fun l : Nat => fO (fun k => sP μ i l k = true) n) (μ 114) n))) c s) _
  refine rn_iload_n (k' := 12) rfl rfl rfl ?_
  refine rn_istore_n (k' := 13) (L' := [some (mR 112), some (mI (i)), some (mI (((A : Int) + 1) - 1)), some (mI (((A : Int) + 1) - 1)), none]) rfl rfl (Nat.le_of_ble_eq_true rfl) rfl ?_
  rw [show ((A : Int) + 1) - 1 = (A : Int) by omega]
  have hu : m_upd (m_upd μ 114 ((fl (fun l : Nat => fO (fun k => sP μ i l k = true) n) (μ 114) n))) 113 ((m_upd μ 114 ((fl (fun l : Nat => fO (fun k => sP μ i l k = true) n) (μ 114) n))) 113) = (m_upd μ 114 ((fl (fun l : Nat => fO (fun k => sP μ i l k = true) n) (μ 114) n))) := upd_self
  refine (show Rn PT none kX8_ordersBy 13 [some (mR 112), some (mI (i)), some (mI ((A : Int))), some (mI ((A : Int))), none] [] (mkh (m_upd (m_upd μ 114 ((fl (fun l : Nat => fO (fun k => sP μ i l k = true) n) (μ 114) n))) 113 ((m_upd μ 114 ((fl (fun l : Nat => fO (fun k => sP μ i l k = true) n) (μ 114) n))) 113)) c s) _ → Rn PT none kX8_ordersBy 13 [some (mR 112), some (mI (i)), some (mI ((A : Int))), some (mI ((A : Int))), none] [] (mkh (m_upd μ 114 ((fl (fun l : Nat => fO (fun k => sP μ i l k = true) n) (μ 114) n))) c s) _ from fun h => by rw [hu] at h; exact h) ?_
  have hN4 : ∀ l, l < n → (m_upd μ 114 ((fl (fun l : Nat => fO (fun k => sP μ i l k = true) n) (μ 114) n))) 114 l = fO (fun k => sP (m_upd μ 114 ((fl (fun l : Nat => fO (fun k => sP μ i l k = true) n) (μ 114) n))) i l k = true) n := fun l hl => by
    rw [sP_rows (ν := (m_upd μ 114 ((fl (fun l : Nat => fO (fun k => sP μ i l k = true) n) (μ 114) n)))) (μ := μ) rfl rfl]
    show fl (fun l : Nat => fO (fun k => sP μ i l k = true) n) (μ 114) n l = _
    exact fl_lt hl
  refine l_ob (μ := (m_upd μ 114 ((fl (fun l : Nat => fO (fun k => sP μ i l k = true) n) (μ 114) n)))) ((hL).upd rfl) ((hS).upd rfl) hnn h8 hi hN4 hA (fun T v hT0 => ?_) A (A : Int) _ none rfl (by omega) (fun z l h1 h2 _ => by omega)
  have hT1 : TB (wW μ i n) n T 0 := by rw [wW_rows (ν := (m_upd μ 114 ((fl (fun l : Nat => fO (fun k => sP μ i l k = true) n) (μ 114) n)))) (μ := μ) rfl rfl] at hT0; exact hT0
  refine rn_aload_n (k' := 47) rfl rfl rfl ?_
  refine rn_getR (k' := 48) rfl rfl K0_112 (by decide) rfl R0_112_0 ?_
  refine rn_getI (k' := 49) rfl rfl K0_6 (by decide) rfl ?_
  show Rn PT none kX8_ordersBy 49 [some (mR 112), some (mI (i)), some (mI ((A : Int))), some (mI (0)), v] [mI (μ 6 13)] (mkh (m_upd (m_upd μ 114 ((fl (fun l : Nat => fO (fun k => sP μ i l k = true) n) (μ 114) n))) 113 T) c s) _
  refine rn_if_ne (k' := 50) rfl rfl (fun hc1 => ?_) (fun hc1 => ?_)
  · skip
    refine rn_aload_n (k' := 53) rfl rfl rfl ?_
    refine rn_iconst (k' := 54) rfl rfl ?_
    refine rn_iload_n (k' := 55) rfl rfl rfl ?_
    have hcl8 := c_X8_restsBehind (μ := (m_upd (m_upd μ 114 ((fl (fun l : Nat => fO (fun k => sP μ i l k = true) n) (μ 114) n))) 113 T)) (c := c) (s := s) (n := n) hnn h8 (z := 0) (by decide) (al := (A : Int)) (w := (wW μ i n)) (fun k hk hb => by rw [show (((so 0 k : Nat) : Int) * 8 + (k : Int)).toNat = so 0 k * 8 + k by omega]; exact hT1 _ k ((so_f 0 (by decide) k (by omega)).2.2.2 hb).1 (so_lt (by omega) hk) hk) (fun k hk hb => wW_c h8 (by omega) hk hb)
    rw [sS_congr n (fun k hk => sT_congr (r := fun _ => true) (by rw [hA, (a5 k hk).2])), ← hso] at hcl8
    have hsb : 0 ≤ sO (wW μ i n) n := by rw [hso]; exact (sS_b (t := sT (fun _ => true) (wW μ i n) 0) (B := 2097152) n (fun k hk => sT_b (fun k hk hb => wW_c h8 (by omega) hk hb) hk)).1
    refine rn_callP (k' := 56) (y := 74) (vs := [mR 112, mI (0), mI ((A : Int))]) (S' := []) (v := some (mI (sO (wW μ i n) n))) (h' := mkh (m_upd (m_upd μ 114 ((fl (fun l : Nat => fO (fun k => sP μ i l k = true) n) (μ 114) n))) 113 T) c s) rfl rfl rfl (hcl8) ?_
    show Rn PT none kX8_ordersBy 56 [some (mR 112), some (mI (i)), some (mI ((A : Int))), some (mI (0)), v] [mI (sO (wW μ i n) n)] (mkh (m_upd (m_upd μ 114 ((fl (fun l : Nat => fO (fun k => sP μ i l k = true) n) (μ 114) n))) 113 T) c s) _
    refine rn_istore_n (k' := 57) (L' := [some (mR 112), some (mI (i)), some (mI ((A : Int))), some (mI (sO (wW μ i n) n)), v]) rfl rfl (Nat.le_of_ble_eq_true rfl) rfl ?_
    refine rn_iload_n (k' := 58) rfl rfl rfl ?_
    refine rn_if_le (k' := 59) rfl rfl (fun hc2 => ?_) (fun hc2 => ?_)
    · skip
      refine rn_iload_n (k' := 63) rfl rfl rfl ?_
      refine rn_iret rfl (Or.inl rfl) ?_
      exact ⟨_, rfl, (rm_upd0 (fun _ => rfl)).trans (rm_upd0 (fun _ => rfl)), fun _ => (rst_upd (fun _ => rfl)).trans (rst_upd (fun _ => rfl)), fun z => by omega⟩
    · skip
      refine rn_aload_n (k' := 60) rfl rfl rfl ?_
      refine rn_iload_n (k' := 61) rfl rfl rfl ?_
      have hN : ∀ l, l < n → (m_upd (m_upd μ 114 ((fl (fun l : Nat => fO (fun k => sP μ i l k = true) n) (μ 114) n))) 113 T) 114 l = fO (fun k => sP (m_upd (m_upd μ 114 ((fl (fun l : Nat => fO (fun k => sP μ i l k = true) n) (μ 114) n))) 113 T) i l k = true) n := fun l hl => by
        rw [sP_rows (ν := (m_upd (m_upd μ 114 ((fl (fun l : Nat => fO (fun k => sP μ i l k = true) n) (μ 114) n))) 113 T)) (μ := μ) rfl rfl]
        show fl (fun l : Nat => fO (fun k => sP μ i l k = true) n) (μ 114) n l = _
        exact fl_lt hl
      have hTm : TB (wW (m_upd (m_upd μ 114 ((fl (fun l : Nat => fO (fun k => sP μ i l k = true) n) (μ 114) n))) 113 T) i n) n ((m_upd (m_upd μ 114 ((fl (fun l : Nat => fO (fun k => sP μ i l k = true) n) (μ 114) n))) 113 T) 113) 0 := by rw [wW_rows (ν := (m_upd (m_upd μ 114 ((fl (fun l : Nat => fO (fun k => sP μ i l k = true) n) (μ 114) n))) 113 T)) (μ := μ) rfl rfl]; exact hT1
      obtain ⟨U, hU, hcl9⟩ := Cl.ex (g := fun U => (some none, mkh (m_set (m_upd (m_upd (m_upd μ 114 ((fl (fun l : Nat => fO (fun k => sP μ i l k = true) n) (μ 114) n))) 113 T) 115 U) 112 5 (n : Int)) c s)) (c_sf (μ := (m_upd (m_upd μ 114 ((fl (fun l : Nat => fO (fun k => sP μ i l k = true) n) (μ 114) n))) 113 T)) (c := c) (s := s) (((hL).upd rfl).upd rfl) (((hS).upd rfl).upd rfl) hnn h8 hi hN hTm hA hn1)
      rw [wW_rows (ν := (m_upd (m_upd μ 114 ((fl (fun l : Nat => fO (fun k => sP μ i l k = true) n) (μ 114) n))) 113 T)) (μ := μ) rfl rfl, sP_rows (ν := (m_upd (m_upd μ 114 ((fl (fun l : Nat => fO (fun k => sP μ i l k = true) n) (μ 114) n))) 113 T)) (μ := μ) rfl rfl] at hU
      refine rn_callP (k' := 62) (y := 75) (vs := [mR 112, mI ((A : Int))]) (S' := []) (v := none) (h' := mkh (m_set (m_upd (m_upd (m_upd μ 114 ((fl (fun l : Nat => fO (fun k => sP μ i l k = true) n) (μ 114) n))) 113 T) 115 U) 112 5 ((n : Int))) c s) rfl rfl rfl (hcl9) ?_
      show Rn PT none kX8_ordersBy 62 [some (mR 112), some (mI (i)), some (mI ((A : Int))), some (mI (sO (wW μ i n) n)), v] [] (mkh (m_set (m_upd (m_upd (m_upd μ 114 ((fl (fun l : Nat => fO (fun k => sP μ i l k = true) n) (μ 114) n))) 113 T) 115 U) 112 5 ((n : Int))) c s) _
      refine rn_iload_n (k' := 63) rfl rfl rfl ?_
      refine rn_iret rfl (Or.inl rfl) ?_
      exact ⟨_, rfl, (rm_set rfl).trans ((rm_upd0 (fun _ => rfl)).trans ((rm_upd0 (fun _ => rfl)).trans (rm_upd0 (fun _ => rfl)))), fun z => by omega, fun _ => ⟨rfl, hU⟩⟩
  · exfalso; omega
