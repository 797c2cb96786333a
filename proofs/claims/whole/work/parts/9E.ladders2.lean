variable {N : Int}
/-! ===== printed by wip/whole/gen9E.py: ways by ladders of the model; pair: ladders ===== -/
def mkF (mk : Nat → Int) (s : Nat) : Int := if mk s < 1000000000 then 0 else -1
theorem mf_n {mk : Nat → Int} {s : Nat} : mkF mk s = -1 ↔ ¬ mk s < 1000000000 := by
  unfold mkF
  by_cases e : mk s < 1000000000
  · rw [if_pos e]; exact ⟨fun z => absurd z (by decide), fun z => absurd e z⟩
  · rw [if_neg e]; exact ⟨fun _ => e, fun _ => rfl⟩
/-- the row of states: marked with their levels, none above n -/
def QB (Lv : Nat → Int → Nat → Prop) (mk qu : Nat → Int) (m n : Nat) : Prop :=
  cn (mkF mk) 10000 = m ∧ (∀ s, s < 10000 → mk s = 1000000000 ∨ (0 ≤ mk s ∧ mk s ≤ (n : Int) ∧ Lv (mk s).toNat ((s / 100 : Nat) : Int) (s % 100))) ∧ (∀ i, i < m → ∃ s : Nat, s < 10000 ∧ qu i = (s : Int) ∧ mk s < 1000000000 ∧ mk s ≤ (i : Int)) ∧ (∀ s : Nat, s < 10000 → mk s < 1000000000 → ∃ i, i < m ∧ qu i = (s : Int)) ∧ ∀ i j, i ≤ j → j < m → mk (qu i).toNat ≤ mk (qu j).toNat
theorem qb_le {Lv : Nat → Int → Nat → Prop} {mk qu : Nat → Int} {m n n' : Nat} (h : QB Lv mk qu m n) (hn : n ≤ n') : QB Lv mk qu m n' := by
  obtain ⟨h1, h2, h3, h4, h5⟩ := h
  refine ⟨h1, fun s hs => ?_, h3, h4, h5⟩
  rcases h2 s hs with z | ⟨z1, z2, z3⟩
  · exact Or.inl z
  · exact Or.inr ⟨z1, by omega, z3⟩
theorem qb_mark {Lv : Nat → Int → Nat → Prop} {mk qu : Nat → Int} {m n s : Nat} (h : QB Lv mk qu m n) (hs : s < 10000) (hf : ¬ mk s < 1000000000) (hl : Lv n ((s / 100 : Nat) : Int) (s % 100)) (hnm : n ≤ m) (hn : n < 20000) : m < 10000 ∧ QB Lv (fs mk s (n : Int)) (fs qu m (s : Int)) (m + 1) n := by
  obtain ⟨h1, h2, h3, h4, h5⟩ := h
  have hk := mf_n.mpr hf
  have hlt := cn_lt hk 10000 hs
  have old : ∀ i, i < m → ∃ u : Nat, u < 10000 ∧ qu i = (u : Int) ∧ mk u < 1000000000 ∧ ¬ u = s := fun i hi => by
    obtain ⟨u, u1, u2, u3, u4⟩ := h3 i hi
    exact ⟨u, u1, u2, u3, fun e => hf (by rw [← e]; exact u3)⟩
  refine ⟨by omega, ?_, fun u hu => ?_, fun i hi => ?_, fun u hu hm => ?_, fun i j hij hj => ?_⟩
  · rw [cn_congr (G := fs (mkF mk) s 0) 10000 (fun j hj => by
      by_cases e : j = s
      · rw [e, fs_eq, mf_n, fs_eq]
        exact ⟨fun z => by omega, fun z => absurd z (by decide)⟩
      · rw [fs_ne e, mf_n, fs_ne e, mf_n]), cn_fs hk (by decide) 10000 hs]
    omega
  · by_cases e : u = s
    · rw [e, fs_eq]
      exact Or.inr ⟨by omega, by omega, hl⟩
    · rw [fs_ne e]; exact h2 u hu
  · by_cases e : i = m
    · rw [e, fs_eq]
      exact ⟨s, hs, rfl, by rw [fs_eq]; omega, by rw [fs_eq]; omega⟩
    · rw [fs_ne e]
      obtain ⟨u, u1, u2, u3, u4⟩ := h3 i (by omega)
      have hne : ¬ u = s := fun q => hf (by rw [← q]; exact u3)
      exact ⟨u, u1, u2, by rw [fs_ne hne]; exact u3, by rw [fs_ne hne]; exact u4⟩
  · by_cases e : u = s
    · exact ⟨m, by omega, by rw [fs_eq, e]⟩
    · rw [fs_ne e] at hm
      obtain ⟨i, i1, i2⟩ := h4 u hu hm
      exact ⟨i, by omega, by rw [fs_ne (by omega)]; exact i2⟩
  · have val : ∀ i, i < m → fs mk s (n : Int) (fs qu m (s : Int) i).toNat = mk (qu i).toNat := fun i hi => by
      obtain ⟨u, u1, u2, u3, u4⟩ := old i hi
      rw [fs_ne (show ¬ i = m by omega), u2, show ((u : Int)).toNat = u from rfl, fs_ne u4]
    by_cases e : j = m
    · have vj : fs mk s (n : Int) (fs qu m (s : Int) j).toNat = (n : Int) := by
        rw [e, fs_eq, show ((s : Int)).toNat = s from rfl, fs_eq]
      rw [vj]
      by_cases e2 : i = m
      · rw [e2, fs_eq, show ((s : Int)).toNat = s from rfl, fs_eq]; exact Int.le_refl _
      · rw [val i (by omega)]
        obtain ⟨u, u1, u2, u3, u4⟩ := old i (by omega)
        rw [u2, show ((u : Int)).toNat = u from rfl]
        rcases h2 u u1 with z | z
        · omega
        · exact z.2.1
    · rw [val i (by omega), val j (by omega)]
      exact h5 i j hij (by omega)
/-- what a call of comes does -/
def cmR (Lv : Nat → Int → Nat → Prop) (A : Nat → Prop) (cn_ t n : Nat) (mk qu : Nat → Int) (m : Nat) (mk' qu' : Nat → Int) (m' : Nat) : Prop :=
  QB Lv mk' qu' m' n ∧ m ≤ m' ∧ (∀ s, s < 10000 → mk s < 1000000000 → mk' s = mk s) ∧ (∀ i, i < m → qu' i = qu i) ∧ (∀ s, s < 10000 → mk' s = mk s ∨ (s / 100 = cn_ ∧ mk' s = (n : Int) ∧ ¬ mk s < 1000000000 ∧ (s % 100 = t ∨ A (s % 100))))
theorem cr_refl {Lv : Nat → Int → Nat → Prop} {A : Nat → Prop} {cn_ t n : Nat} {mk qu : Nat → Int} {m : Nat} (h : QB Lv mk qu m n) : cmR Lv A cn_ t n mk qu m mk qu m := ⟨h, Nat.le_refl m, fun _ _ _ => rfl, fun _ _ => rfl, fun _ _ => Or.inl rfl⟩
theorem cr_mark {Lv : Nat → Int → Nat → Prop} {A : Nat → Prop} {cn_ t n v : Nat} {mk qu mk' qu' : Nat → Int} {m m' : Nat} (h : cmR Lv A cn_ t n mk qu m mk' qu' m') (hc : cn_ < 100) (hv : v < 100) (hf : ¬ mk' (100 * cn_ + v) < 1000000000) (hA : v = t ∨ A v) (hl : Lv n (cn_ : Int) v) (hnm : n ≤ m) (hn : n < 20000) : m' < 10000 ∧ cmR Lv A cn_ t n mk qu m (fs mk' (100 * cn_ + v) (n : Int)) (fs qu' m' ((100 * cn_ + v : Nat) : Int)) (m' + 1) := by
  obtain ⟨h1, h2, h3, h4, h5⟩ := h
  have e1 : (100 * cn_ + v) / 100 = cn_ := by omega
  have e2 : (100 * cn_ + v) % 100 = v := by omega
  obtain ⟨q1, q2⟩ := qb_mark h1 (s := 100 * cn_ + v) (by omega) hf (by rw [e1, e2]; exact hl) (by omega) hn
  refine ⟨q1, q2, by omega, fun s hs hm => ?_, fun i hi => ?_, fun s hs => ?_⟩
  · rw [fs_ne (fun e => hf (by rw [← e, h3 s hs hm]; exact hm))]
    exact h3 s hs hm
  · rw [fs_ne (by omega)]; exact h4 i hi
  · by_cases e : s = 100 * cn_ + v
    · rw [e, fs_eq, e1, e2]
      refine Or.inr ⟨rfl, rfl, fun z => hf ?_, hA⟩
      rw [h3 _ (by omega) z]; exact z
    · rw [fs_ne e]; exact h5 s hs
set_option maxHeartbeats 4000000 in
theorem l_comes {μ : Nat → Nat → Int} {c s : Nat} (hL : I_land μ) (hw : 0 ≤ μ 118 22 ∧ μ 118 22 ≤ 1000) {Lv : Nat → Int → Nat → Prop} {x : Int} (hx : g_cell μ x) {t n : Nat} (ht : t ≤ 99) {mk qu : Nat → Int} {m : Nat} (hnm : n ≤ m) (hn2 : n < 20000) (hlt : Lv n x t) (hll : ¬ μ 8 (200 + x).toNat = -1 → ∀ v : Nat, v ≤ 99 → g_stand μ x (v : Int) (μ 118 22) → Lv n x v) : ∀ (d v0 : Nat) (k : Int) (mk1 : Nat → Int) (qu1 : Nat → Int) (m1 : Nat), k = (v0 : Int) → v0 + d = 100 → (cmR Lv (fun v => ¬ μ 8 (200 + x).toNat = -1 ∧ g_stand μ x (v : Int) (μ 118 22)) x.toNat t n mk qu m mk1 qu1 m1) → (∀ v : Nat, v < v0 → (v = t ∨ (fun v => ¬ μ 8 (200 + x).toNat = -1 ∧ g_stand μ x (v : Int) (μ 118 22)) v) → mk1 (100 * x.toNat + v) < 1000000000) → Rn PT none kX12_comes 13 [some (mR 118), some (mI (x)), some (mI ((t : Int))), some (mI ((n : Int))), some (mI (k))] [] (mkh (m_upd (m_upd (m_set μ 118 29 ((m1 : Int))) 128 mk1) 129 qu1) c s) (fun r => ∃ (mk1 qu1 : Nat → Int) (m1 : Nat), r = (some none, mkh (m_upd (m_upd (m_set μ 118 29 ((m1 : Int))) 128 mk1) 129 qu1) c s) ∧ cmR Lv (fun v => ¬ μ 8 (200 + x).toNat = -1 ∧ g_stand μ x (v : Int) (μ 118 22)) x.toNat t n mk qu m mk1 qu1 m1 ∧ (∀ v : Nat, v < 100 → (v = t ∨ (fun v => ¬ μ 8 (200 + x).toNat = -1 ∧ g_stand μ x (v : Int) (μ 118 22)) v) → mk1 (100 * x.toNat + v) < 1000000000)) := by
  have hL_ := hL
  obtain ⟨lc, lr, le, lm, lw, lh, lwo, lwd, q0, q1, q2, q3, q4, q8, q499, q500, lth, lG, lT, lW, -⟩ := hL_
  have hxb := g_cell_b hL hx
  have hxn : x.toNat < 100 := by omega
  have hxc : ((x.toNat : Nat) : Int) = x := by omega
  have hvl := v_l hL (a := x) hxb
  intro d
  induction d with
  | zero =>
    intro v0 k mk1 qu1 m1 ek hn hC hD
    subst ek
    refine rn_iload (k' := 14) rfl rfl rfl ?_
    refine rn_bipush (k' := 15) rfl rfl ?_
    refine rn_icmp_ge (k' := 16) rfl rfl (fun hc1 => ?_) (fun hc1 => ?_)
    · skip
      refine rn_vret rfl ?_
      refine ⟨mk1, qu1, m1, rfl, hC, ?_⟩
      rw [show v0 = 100 by omega] at hD
      exact hD
    · exfalso; omega
  | succ d ih =>
    intro v0 k mk1 qu1 m1 ek hn hC hD
    subst ek
    have ex : ((100 * x) + (v0 : Int)).toNat = 100 * x.toNat + v0 := by omega
    have ex2 : (100 * x) + (v0 : Int) = ((100 * x.toNat + v0 : Nat) : Int) := by omega
    have hmx : m1 < 10000 ∨ mk1 (100 * x.toNat + v0) < 1000000000 := by
      by_cases e : mk1 (100 * x.toNat + v0) < 1000000000
      · exact Or.inr e
      · left
        have := cn_lt (mf_n.mpr e) 10000 (by omega)
        have := hC.1.1
        omega
    rw [← ex] at hmx
    refine rn_iload (k' := 14) rfl rfl rfl ?_
    refine rn_bipush (k' := 15) rfl rfl ?_
    refine rn_icmp_ge (k' := 16) rfl rfl (fun hc1 => ?_) (fun hc1 => ?_)
    · exfalso; omega
    · skip
      refine rn_iload (k' := 17) rfl rfl rfl ?_
      refine rn_iload_n (k' := 18) rfl rfl rfl ?_
      refine rn_icmp_eq (k' := 19) rfl rfl (fun hc2 => ?_) (fun hc2 => ?_)
      · skip
        refine rn_aload_n (k' := 32) rfl rfl rfl ?_
        refine rn_getR (k' := 33) rfl rfl K0_118 (by decide) rfl R0_118_27 ?_
        refine rn_bipush (k' := 34) rfl rfl ?_
        refine rn_iload_n (k' := 35) rfl rfl rfl ?_
        refine rn_imul (k' := 36) rfl rfl (by omega) ?_
        refine rn_iload (k' := 37) rfl rfl rfl ?_
        refine rn_iadd (k' := 38) rfl rfl (by omega) ?_
        refine rn_iaload (k' := 39) rfl rfl K0_128 (by omega) (by omega) ?_
        show Rn PT none kX12_comes 39 [some (mR 118), some (mI (x)), some (mI ((t : Int))), some (mI ((n : Int))), some (mI ((v0 : Int)))] [mI (mk1 (((100 * x) + (v0 : Int)).toNat))] (mkh (m_upd (m_upd (m_set μ 118 29 ((m1 : Int))) 128 mk1) 129 qu1) c s) _
        refine rn_ldc_w (k' := 40) rfl rfl ?_
        refine rn_icmp_ge (k' := 41) rfl rfl (fun hc3 => ?_) (fun hc3 => ?_)
        · skip
          refine rn_aload_n (k' := 43) rfl rfl rfl ?_
          refine rn_getR (k' := 44) rfl rfl K0_118 (by decide) rfl R0_118_27 ?_
          refine rn_bipush (k' := 45) rfl rfl ?_
          refine rn_iload_n (k' := 46) rfl rfl rfl ?_
          refine rn_imul (k' := 47) rfl rfl (by omega) ?_
          refine rn_iload (k' := 48) rfl rfl rfl ?_
          refine rn_iadd (k' := 49) rfl rfl (by omega) ?_
          refine rn_iload_n (k' := 50) rfl rfl rfl ?_
          refine rn_iastore (k' := 51) rfl rfl K0_128 (by omega) (by omega) ?_
          refine rn_aload_n (k' := 52) rfl rfl rfl ?_
          refine rn_getR (k' := 53) rfl rfl K0_118 (by decide) rfl R0_118_28 ?_
          refine rn_aload_n (k' := 54) rfl rfl rfl ?_
          refine rn_getI (k' := 55) rfl rfl K0_118 (by decide) rfl ?_
          show Rn PT none kX12_comes 55 [some (mR 118), some (mI (x)), some (mI ((t : Int))), some (mI ((n : Int))), some (mI ((v0 : Int)))] [mI ((m1 : Int)), mR 129] (mkh (m_set (m_upd (m_upd (m_set μ 118 29 ((m1 : Int))) 128 mk1) 129 qu1) 128 (((100 * x) + (v0 : Int)).toNat) ((n : Int))) c s) _
          refine rn_bipush (k' := 56) rfl rfl ?_
          refine rn_iload_n (k' := 57) rfl rfl rfl ?_
          refine rn_imul (k' := 58) rfl rfl (by omega) ?_
          refine rn_iload (k' := 59) rfl rfl rfl ?_
          refine rn_iadd (k' := 60) rfl rfl (by omega) ?_
          refine rn_iastore (k' := 61) rfl rfl K0_129 (by omega) (by omega) ?_
          refine rn_aload_n (k' := 62) rfl rfl rfl ?_
          refine rn_dupR (k' := 63) rfl rfl ?_
          refine rn_getI (k' := 64) rfl rfl K0_118 (by decide) rfl ?_
          show Rn PT none kX12_comes 64 [some (mR 118), some (mI (x)), some (mI ((t : Int))), some (mI ((n : Int))), some (mI ((v0 : Int)))] [mI ((m1 : Int)), mR 118] (mkh (m_set (m_set (m_upd (m_upd (m_set μ 118 29 ((m1 : Int))) 128 mk1) 129 qu1) 128 (((100 * x) + (v0 : Int)).toNat) ((n : Int))) 129 m1 ((100 * x) + (v0 : Int))) c s) _
          refine rn_iconst (k' := 65) rfl rfl ?_
          refine rn_iadd (k' := 66) rfl rfl (by omega) ?_
          refine rn_putI (k' := 67) rfl rfl K0_118 (by decide) rfl ?_
          refine rn_iinc (k' := 68) (L' := [some (mR 118), some (mI (x)), some (mI ((t : Int))), some (mI ((n : Int))), some (mI ((v0 : Int) + 1))]) rfl rfl rfl (by omega) rfl ?_
          refine rn_goto rfl ?_
          show Rn PT none kX12_comes 13 [some (mR 118), some (mI (x)), some (mI ((t : Int))), some (mI ((n : Int))), some (mI ((v0 : Int) + 1))] [] (mkh (m_set (m_set (m_set (m_upd (m_upd (m_set μ 118 29 ((m1 : Int))) 128 mk1) 129 qu1) 128 (((100 * x) + (v0 : Int)).toNat) ((n : Int))) 129 m1 ((100 * x) + (v0 : Int))) 118 29 ((m1 : Int) + 1)) c s) _
          rw [set_upd_ne (a := 128) (b := 129) (by decide), set_upd_eq (a := 128), set_upd_eq (a := 129), set_upd_ne (a := 118) (b := 129) (by decide), set_upd_ne (a := 118) (b := 128) (by decide), set_set]
          rw [ex]
          have hcr := cr_mark hC (v := v0) hxn (by omega) (by rw [← ex]; omega) (by first | exact Or.inl (by omega) | exact Or.inr ⟨by omega, by assumption⟩) (by rw [hxc]; first | (rw [show v0 = t by omega]; exact hlt) | exact hll (by omega) v0 (by omega) (by assumption)) hnm hn2
          rw [ex2]
          exact ih (v0 + 1) _ _ _ (m1 + 1) (by omega) (by omega) hcr.2 (fun v hv hA => by
            by_cases e : v = v0
            · rw [e, fs_eq]; omega
            · rw [fs_ne (by omega)]; exact hD v (by omega) hA)
        · skip
          refine rn_goto rfl ?_
          refine rn_iinc (k' := 68) (L' := [some (mR 118), some (mI (x)), some (mI ((t : Int))), some (mI ((n : Int))), some (mI ((v0 : Int) + 1))]) rfl rfl rfl (by omega) rfl ?_
          refine rn_goto rfl ?_
          exact ih (v0 + 1) _ _ _ m1 (by omega) (by omega) hC (fun v hv hA => by
            by_cases e : v = v0
            · rw [e] at hA ⊢
              first | (rw [← ex]; omega) | (exfalso; rcases hA with q | q; · omega; · first | exact absurd q.2 (by assumption) | (have := q.1; omega))
            · exact hD v (by omega) hA)
      · skip
        refine rn_aload_n (k' := 20) rfl rfl rfl ?_
        refine rn_getR (k' := 21) rfl rfl K0_118 (by decide) rfl R0_118_6 ?_
        refine rn_sipush (k' := 22) rfl rfl ?_
        refine rn_iload_n (k' := 23) rfl rfl rfl ?_
        refine rn_iadd (k' := 24) rfl rfl (by omega) ?_
        refine rn_iaload (k' := 25) rfl rfl K0_120 (by omega) (by omega) ?_
        show Rn PT none kX12_comes 25 [some (mR 118), some (mI (x)), some (mI ((t : Int))), some (mI ((n : Int))), some (mI ((v0 : Int)))] [mI (μ 120 ((309 + x).toNat))] (mkh (m_upd (m_upd (m_set μ 118 29 ((m1 : Int))) 128 mk1) 129 qu1) c s) _
        rw [(v_l hL (a := x) (by omega)).1]
        have hb5 := (v_l hL (a := x) (by omega)).2
        refine rn_if_eq (k' := 26) rfl rfl (fun hc6 => ?_) (fun hc6 => ?_)
        · skip
          refine rn_iinc (k' := 68) (L' := [some (mR 118), some (mI (x)), some (mI ((t : Int))), some (mI ((n : Int))), some (mI ((v0 : Int) + 1))]) rfl rfl rfl (by omega) rfl ?_
          refine rn_goto rfl ?_
          exact ih (v0 + 1) _ _ _ m1 (by omega) (by omega) hC (fun v hv hA => by
            by_cases e : v = v0
            · rw [e] at hA ⊢
              first | (rw [← ex]; omega) | (exfalso; rcases hA with q | q; · omega; · first | exact absurd q.2 (by assumption) | (have := q.1; omega))
            · exact hD v (by omega) hA)
        · skip
          refine rn_aload_n (k' := 27) rfl rfl rfl ?_
          refine rn_iload_n (k' := 28) rfl rfl rfl ?_
          refine rn_iload (k' := 29) rfl rfl rfl ?_
          by_cases hq7 : g_stand μ x (v0 : Int) (μ 118 22)
          · refine rn_callP (k' := 30) (y := 203) (vs := [mR 118, mI (x), mI ((v0 : Int))]) (S' := []) (v := some (mI 1)) (h' := mkh (m_upd (m_upd (m_set μ 118 29 ((m1 : Int))) 128 mk1) 129 qu1) c s) rfl rfl rfl (by have hz : Cl PT 203 [mR 118, mI (x), mI ((v0 : Int))] (mkh (m_upd (m_upd (m_set μ 118 29 ((m1 : Int))) 128 mk1) 129 qu1) c s) (fun r => r = (some (some (mI (if g_stand μ x (v0 : Int) (μ 118 22) then 1 else 0))), mkh (m_upd (m_upd (m_set μ 118 29 ((m1 : Int))) 128 mk1) 129 qu1) c s)) := c_X12_standsOn ((((hL).set rfl).upd rfl).upd rfl) (by show 0 ≤ μ 118 22 ∧ μ 118 22 ≤ 1000; omega) (a := x) (t := (v0 : Int)) (by show g_cell μ (x); first | assumption | omega) (by omega) (μ := (m_upd (m_upd (m_set μ 118 29 ((m1 : Int))) 128 mk1) 129 qu1)) (c := c) (s := s); rw [if_pos hq7] at hz; exact hz) ?_
            show Rn PT none kX12_comes 30 [some (mR 118), some (mI (x)), some (mI ((t : Int))), some (mI ((n : Int))), some (mI ((v0 : Int)))] [mI (1)] (mkh (m_upd (m_upd (m_set μ 118 29 ((m1 : Int))) 128 mk1) 129 qu1) c s) _
            refine rn_if_eq (k' := 31) rfl rfl (fun hc8 => ?_) (fun hc8 => ?_)
            · exfalso; omega
            · skip
              refine rn_aload_n (k' := 32) rfl rfl rfl ?_
              refine rn_getR (k' := 33) rfl rfl K0_118 (by decide) rfl R0_118_27 ?_
              refine rn_bipush (k' := 34) rfl rfl ?_
              refine rn_iload_n (k' := 35) rfl rfl rfl ?_
              refine rn_imul (k' := 36) rfl rfl (by omega) ?_
              refine rn_iload (k' := 37) rfl rfl rfl ?_
              refine rn_iadd (k' := 38) rfl rfl (by omega) ?_
              refine rn_iaload (k' := 39) rfl rfl K0_128 (by omega) (by omega) ?_
              show Rn PT none kX12_comes 39 [some (mR 118), some (mI (x)), some (mI ((t : Int))), some (mI ((n : Int))), some (mI ((v0 : Int)))] [mI (mk1 (((100 * x) + (v0 : Int)).toNat))] (mkh (m_upd (m_upd (m_set μ 118 29 ((m1 : Int))) 128 mk1) 129 qu1) c s) _
              refine rn_ldc_w (k' := 40) rfl rfl ?_
              refine rn_icmp_ge (k' := 41) rfl rfl (fun hc9 => ?_) (fun hc9 => ?_)
              · skip
                refine rn_aload_n (k' := 43) rfl rfl rfl ?_
                refine rn_getR (k' := 44) rfl rfl K0_118 (by decide) rfl R0_118_27 ?_
                refine rn_bipush (k' := 45) rfl rfl ?_
                refine rn_iload_n (k' := 46) rfl rfl rfl ?_
                refine rn_imul (k' := 47) rfl rfl (by omega) ?_
                refine rn_iload (k' := 48) rfl rfl rfl ?_
                refine rn_iadd (k' := 49) rfl rfl (by omega) ?_
                refine rn_iload_n (k' := 50) rfl rfl rfl ?_
                refine rn_iastore (k' := 51) rfl rfl K0_128 (by omega) (by omega) ?_
                refine rn_aload_n (k' := 52) rfl rfl rfl ?_
                refine rn_getR (k' := 53) rfl rfl K0_118 (by decide) rfl R0_118_28 ?_
                refine rn_aload_n (k' := 54) rfl rfl rfl ?_
                refine rn_getI (k' := 55) rfl rfl K0_118 (by decide) rfl ?_
                show Rn PT none kX12_comes 55 [some (mR 118), some (mI (x)), some (mI ((t : Int))), some (mI ((n : Int))), some (mI ((v0 : Int)))] [mI ((m1 : Int)), mR 129] (mkh (m_set (m_upd (m_upd (m_set μ 118 29 ((m1 : Int))) 128 mk1) 129 qu1) 128 (((100 * x) + (v0 : Int)).toNat) ((n : Int))) c s) _
                refine rn_bipush (k' := 56) rfl rfl ?_
                refine rn_iload_n (k' := 57) rfl rfl rfl ?_
                refine rn_imul (k' := 58) rfl rfl (by omega) ?_
                refine rn_iload (k' := 59) rfl rfl rfl ?_
                refine rn_iadd (k' := 60) rfl rfl (by omega) ?_
                refine rn_iastore (k' := 61) rfl rfl K0_129 (by omega) (by omega) ?_
                refine rn_aload_n (k' := 62) rfl rfl rfl ?_
                refine rn_dupR (k' := 63) rfl rfl ?_
                refine rn_getI (k' := 64) rfl rfl K0_118 (by decide) rfl ?_
                show Rn PT none kX12_comes 64 [some (mR 118), some (mI (x)), some (mI ((t : Int))), some (mI ((n : Int))), some (mI ((v0 : Int)))] [mI ((m1 : Int)), mR 118] (mkh (m_set (m_set (m_upd (m_upd (m_set μ 118 29 ((m1 : Int))) 128 mk1) 129 qu1) 128 (((100 * x) + (v0 : Int)).toNat) ((n : Int))) 129 m1 ((100 * x) + (v0 : Int))) c s) _
                refine rn_iconst (k' := 65) rfl rfl ?_
                refine rn_iadd (k' := 66) rfl rfl (by omega) ?_
                refine rn_putI (k' := 67) rfl rfl K0_118 (by decide) rfl ?_
                refine rn_iinc (k' := 68) (L' := [some (mR 118), some (mI (x)), some (mI ((t : Int))), some (mI ((n : Int))), some (mI ((v0 : Int) + 1))]) rfl rfl rfl (by omega) rfl ?_
                refine rn_goto rfl ?_
                show Rn PT none kX12_comes 13 [some (mR 118), some (mI (x)), some (mI ((t : Int))), some (mI ((n : Int))), some (mI ((v0 : Int) + 1))] [] (mkh (m_set (m_set (m_set (m_upd (m_upd (m_set μ 118 29 ((m1 : Int))) 128 mk1) 129 qu1) 128 (((100 * x) + (v0 : Int)).toNat) ((n : Int))) 129 m1 ((100 * x) + (v0 : Int))) 118 29 ((m1 : Int) + 1)) c s) _
                rw [set_upd_ne (a := 128) (b := 129) (by decide), set_upd_eq (a := 128), set_upd_eq (a := 129), set_upd_ne (a := 118) (b := 129) (by decide), set_upd_ne (a := 118) (b := 128) (by decide), set_set]
                rw [ex]
                have hcr := cr_mark hC (v := v0) hxn (by omega) (by rw [← ex]; omega) (by first | exact Or.inl (by omega) | exact Or.inr ⟨by omega, by assumption⟩) (by rw [hxc]; first | (rw [show v0 = t by omega]; exact hlt) | exact hll (by omega) v0 (by omega) (by assumption)) hnm hn2
                rw [ex2]
                exact ih (v0 + 1) _ _ _ (m1 + 1) (by omega) (by omega) hcr.2 (fun v hv hA => by
                  by_cases e : v = v0
                  · rw [e, fs_eq]; omega
                  · rw [fs_ne (by omega)]; exact hD v (by omega) hA)
              · skip
                refine rn_goto rfl ?_
                refine rn_iinc (k' := 68) (L' := [some (mR 118), some (mI (x)), some (mI ((t : Int))), some (mI ((n : Int))), some (mI ((v0 : Int) + 1))]) rfl rfl rfl (by omega) rfl ?_
                refine rn_goto rfl ?_
                exact ih (v0 + 1) _ _ _ m1 (by omega) (by omega) hC (fun v hv hA => by
                  by_cases e : v = v0
                  · rw [e] at hA ⊢
                    first | (rw [← ex]; omega) | (exfalso; rcases hA with q | q; · omega; · first | exact absurd q.2 (by assumption) | (have := q.1; omega))
                  · exact hD v (by omega) hA)
          · refine rn_callP (k' := 30) (y := 203) (vs := [mR 118, mI (x), mI ((v0 : Int))]) (S' := []) (v := some (mI 0)) (h' := mkh (m_upd (m_upd (m_set μ 118 29 ((m1 : Int))) 128 mk1) 129 qu1) c s) rfl rfl rfl (by have hz : Cl PT 203 [mR 118, mI (x), mI ((v0 : Int))] (mkh (m_upd (m_upd (m_set μ 118 29 ((m1 : Int))) 128 mk1) 129 qu1) c s) (fun r => r = (some (some (mI (if g_stand μ x (v0 : Int) (μ 118 22) then 1 else 0))), mkh (m_upd (m_upd (m_set μ 118 29 ((m1 : Int))) 128 mk1) 129 qu1) c s)) := c_X12_standsOn ((((hL).set rfl).upd rfl).upd rfl) (by show 0 ≤ μ 118 22 ∧ μ 118 22 ≤ 1000; omega) (a := x) (t := (v0 : Int)) (by show g_cell μ (x); first | assumption | omega) (by omega) (μ := (m_upd (m_upd (m_set μ 118 29 ((m1 : Int))) 128 mk1) 129 qu1)) (c := c) (s := s); rw [if_neg hq7] at hz; exact hz) ?_
            show Rn PT none kX12_comes 30 [some (mR 118), some (mI (x)), some (mI ((t : Int))), some (mI ((n : Int))), some (mI ((v0 : Int)))] [mI (0)] (mkh (m_upd (m_upd (m_set μ 118 29 ((m1 : Int))) 128 mk1) 129 qu1) c s) _
            refine rn_if_eq (k' := 31) rfl rfl (fun hc11 => ?_) (fun hc11 => ?_)
            · skip
              refine rn_iinc (k' := 68) (L' := [some (mR 118), some (mI (x)), some (mI ((t : Int))), some (mI ((n : Int))), some (mI ((v0 : Int) + 1))]) rfl rfl rfl (by omega) rfl ?_
              refine rn_goto rfl ?_
              exact ih (v0 + 1) _ _ _ m1 (by omega) (by omega) hC (fun v hv hA => by
                by_cases e : v = v0
                · rw [e] at hA ⊢
                  first | (rw [← ex]; omega) | (exfalso; rcases hA with q | q; · omega; · first | exact absurd q.2 (by assumption) | (have := q.1; omega))
                · exact hD v (by omega) hA)
            · exfalso; omega
set_option maxHeartbeats 4000000 in
theorem c_comes {μ : Nat → Nat → Int} {c s : Nat} (hL : I_land μ) (hw : 0 ≤ μ 118 22 ∧ μ 118 22 ≤ 1000) {Lv : Nat → Int → Nat → Prop} {x : Int} (hx : g_cell μ x) {t n : Nat} (ht : t ≤ 99) {mk qu : Nat → Int} {m : Nat} (hnm : n ≤ m) (hn2 : n < 20000) (hlt : Lv n x t) (hll : ¬ μ 8 (200 + x).toNat = -1 → ∀ v : Nat, v ≤ 99 → g_stand μ x (v : Int) (μ 118 22) → Lv n x v) (hQ : QB Lv mk qu m n) : ∃ (mk1 qu1 : Nat → Int) (m1 : Nat), (cmR Lv (fun v => ¬ μ 8 (200 + x).toNat = -1 ∧ g_stand μ x (v : Int) (μ 118 22)) x.toNat t n mk qu m mk1 qu1 m1 ∧ (mk1 (100 * x.toNat + t) < 1000000000 ∧ (¬ mk (100 * x.toNat + t) < 1000000000 → ∀ v : Nat, v < 100 → (v = t ∨ (fun v => ¬ μ 8 (200 + x).toNat = -1 ∧ g_stand μ x (v : Int) (μ 118 22)) v) → mk1 (100 * x.toNat + v) < 1000000000))) ∧ Cl PT 222 [mR 118, mI x, mI (t : Int), mI (n : Int)] (mkh (m_upd (m_upd (m_set μ 118 29 ((m : Int))) 128 mk) 129 qu) c s) (fun r => r = (some none, mkh (m_upd (m_upd (m_set μ 118 29 ((m1 : Int))) 128 mk1) 129 qu1) c s)) := by
  have hCL : Cl PT 222 [mR 118, mI x, mI (t : Int), mI (n : Int)] (mkh (m_upd (m_upd (m_set μ 118 29 ((m : Int))) 128 mk) 129 qu) c s) (fun r => ∃ (mk1 qu1 : Nat → Int) (m1 : Nat), r = (some none, mkh (m_upd (m_upd (m_set μ 118 29 ((m1 : Int))) 128 mk1) 129 qu1) c s) ∧ cmR Lv (fun v => ¬ μ 8 (200 + x).toNat = -1 ∧ g_stand μ x (v : Int) (μ 118 22)) x.toNat t n mk qu m mk1 qu1 m1 ∧ (mk1 (100 * x.toNat + t) < 1000000000 ∧ (¬ mk (100 * x.toNat + t) < 1000000000 → ∀ v : Nat, v < 100 → (v = t ∨ (fun v => ¬ μ 8 (200 + x).toNat = -1 ∧ g_stand μ x (v : Int) (μ 118 22)) v) → mk1 (100 * x.toNat + v) < 1000000000))) := by
    have hxb := g_cell_b hL hx
    have ext : ((100 * x) + (t : Int)).toNat = 100 * x.toNat + t := by omega
    refine ⟨_, PT_222, Nat.le_of_ble_eq_true rfl, ?_⟩
    show Rn PT none kX12_comes 0 [some (mR 118), some (mI (x)), some (mI ((t : Int))), some (mI ((n : Int))), none] [] (mkh (m_upd (m_upd (m_set μ 118 29 ((m : Int))) 128 mk) 129 qu) c s) _
    refine rn_aload_n (k' := 1) rfl rfl rfl ?_
    refine rn_getR (k' := 2) rfl rfl K0_118 (by decide) rfl R0_118_27 ?_
    refine rn_bipush (k' := 3) rfl rfl ?_
    refine rn_iload_n (k' := 4) rfl rfl rfl ?_
    refine rn_imul (k' := 5) rfl rfl (by omega) ?_
    refine rn_iload_n (k' := 6) rfl rfl rfl ?_
    refine rn_iadd (k' := 7) rfl rfl (by omega) ?_
    refine rn_iaload (k' := 8) rfl rfl K0_128 (by omega) (by omega) ?_
    show Rn PT none kX12_comes 8 [some (mR 118), some (mI (x)), some (mI ((t : Int))), some (mI ((n : Int))), none] [mI (mk (((100 * x) + (t : Int)).toNat))] (mkh (m_upd (m_upd (m_set μ 118 29 ((m : Int))) 128 mk) 129 qu) c s) _
    refine rn_ldc_w (k' := 9) rfl rfl ?_
    refine rn_icmp_ge (k' := 10) rfl rfl (fun hc1 => ?_) (fun hc1 => ?_)
    · skip
      refine rn_iconst (k' := 12) rfl rfl ?_
      refine rn_istore (k' := 13) (L' := [some (mR 118), some (mI (x)), some (mI ((t : Int))), some (mI ((n : Int))), some (mI (0))]) rfl rfl (Nat.le_of_ble_eq_true rfl) rfl ?_
      refine (l_comes hL hw hx ht hnm hn2 hlt hll 100 0 _ mk qu m rfl (by omega) (cr_refl hQ) (fun v hv => absurd hv (Nat.not_lt_zero v))).mono (fun r hr => ?_)
      obtain ⟨mk1, qu1, m1, e1, e2, e3⟩ := hr
      exact ⟨mk1, qu1, m1, e1, e2, e3 t (by omega) (Or.inl rfl), fun _ => e3⟩
    · skip
      refine rn_vret rfl ?_
      exact ⟨mk, qu, m, rfl, cr_refl hQ, by rw [← ext]; omega, fun z => absurd (by rw [← ext]; omega) z⟩
  obtain ⟨MM, z1, z2, nn, rr, z3, mk1, qu1, m1, z4, z5⟩ := hCL
  exact ⟨mk1, qu1, m1, z5, MM, z1, z2, nn, rr, z3, z4⟩
