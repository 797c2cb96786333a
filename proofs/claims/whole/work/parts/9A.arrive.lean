variable {N : Int}
/-! ===== printed by wip/whole/gen9A.py: arrive, passFrom ===== -/
theorem k_hasLadder {μ : Nat → Nat → Int} {c s : Nat} (hL : I_land μ) {a : Int} (ha : 0 ≤ a ∧ a < 100) : Cl PT 37 [mR 6, mI a] (mkh μ c s) (fun r => r = (some (some (mI (if ¬ μ 8 (200 + a).toNat = -1 then 1 else 0))), mkh μ c s)) := by
  obtain ⟨-, -, -, -, -, -, -, -, -, -, -, -, -, -, -, -, -, -, th, -⟩ := hL
  have h := c_X3_hasLadder (c := c) (s := s) (μ := μ) th ha
  by_cases e : μ 8 (200 + a).toNat = -1
  · rw [if_neg (fun z => z e)]
    have h2 : Cl PT 37 [mR 6, mI a] (mkh μ c s) (fun r => r = (some (some (mI (if μ 8 (200 + a).toNat = -1 then 0 else 1))), mkh μ c s)) := h
    rw [if_pos e] at h2
    exact h2
  · rw [if_pos e]
    have h2 : Cl PT 37 [mR 6, mI a] (mkh μ c s) (fun r => r = (some (some (mI (if μ 8 (200 + a).toNat = -1 then 0 else 1))), mkh μ c s)) := h
    rw [if_neg e] at h2
    exact h2
/-- who is fresh after the arrival of P -/
def AF (St Se : Nat → Int) (ld : Int → Prop) (P : Int → Nat → Prop) (x : Int) (h : Nat) : Prop := (∃ h', h' < 128 ∧ P x h') ∧ ((ld x ∧ hb St x h = true ∧ ¬ hb Se x h = true) ∨ (¬ ld x ∧ P x h))
/-- the first n of the list have arrived -/
def AI (G : Int → Prop) (St Se0 cc : Nat → Int) (ld : Int → Prop) (P : Int → Nat → Prop) (n : Nat) (Se Fr Co fc : Nat → Int) : Prop :=
  (∀ x h, G x → h < 128 → (hb Se x h = true ↔ (hb Se0 x h = true ∨ ((∃ j, j < n ∧ cc j = x) ∧ AF St Se0 ld P x h)))) ∧
  (∀ x h, G x → h < 128 → (hb Co x h = true ↔ (P x h ∧ ¬ ∃ j, j < n ∧ cc j = x))) ∧
  (∀ j : Nat, j < 100 → ¬ G (j : Int) → KF Co j = -1) ∧
  (∀ j, j < n → fc j = cc j) ∧ (∀ j h, j < n → h < 128 → (hb Fr (cc j) h = true ↔ AF St Se0 ld P (cc j) h))
theorem ai_step {G : Int → Prop} {St Se0 cc Se Fr Co fc : Nat → Int} {ld : Int → Prop} {P : Int → Nat → Prop} {n m : Nat} {Co0 : Nat → Int} {f0 f1 : Int} (hg : ∀ y, G y → 0 ≤ y ∧ y < 100) (hP : CP G P m Co0 cc) (hn : n < m) (h : AI G St Se0 cc ld P n Se Fr Co fc)
    (hf : (ld (cc n) ∧ f0 = m_land (St (2 * cc n).toNat) (m_lxor (Se (2 * cc n).toNat) (-1)) ∧ f1 = m_land (St ((2 * cc n) + 1).toNat) (m_lxor (Se ((2 * cc n) + 1).toNat) (-1))) ∨ (¬ ld (cc n) ∧ f0 = Co (2 * cc n).toNat ∧ f1 = Co ((2 * cc n) + 1).toNat)) :
    AI G St Se0 cc ld P (n + 1) (fs (fs Se (2 * cc n).toNat (m_lor (Se (2 * cc n).toNat) f0)) ((2 * cc n) + 1).toNat (m_lor (Se ((2 * cc n) + 1).toNat) f1)) (fs (fs Fr (2 * cc n).toNat f0) ((2 * cc n) + 1).toNat f1) (fs (fs Co (2 * cc n).toNat 0) ((2 * cc n) + 1).toNat 0) (fs fc n (cc n)) := by
  obtain ⟨h1, h2, h3, h4, h5⟩ := h
  obtain ⟨p1, p2, p3, p4, p5, p6, p7⟩ := hP
  obtain ⟨gx, hx, hx1, hx2⟩ := p3 n hn
  have bx := hg _ gx
  have hnot : ¬ ∃ j, j < n ∧ cc j = cc n := fun ⟨j, j1, j2⟩ => p5 j n j1 hn j2
  have hSe : ∀ k, k < 128 → (hb Se (cc n) k = true ↔ hb Se0 (cc n) k = true) := fun k hk => by
    rw [h1 _ k gx hk]
    exact ⟨fun z => z.resolve_right (fun q => hnot q.1), Or.inl⟩
  have hF : ∀ k, k < 128 → (pb f0 f1 k = true ↔ AF St Se0 ld P (cc n) k) := fun k hk => by
    unfold AF
    rcases hf with ⟨l, e0, e1⟩ | ⟨l, e0, e1⟩
    · rw [e0, e1, pb_and, pb_not hk, Bool.and_eq_true]
      have q1 : pb (Se (2 * cc n).toNat) (Se ((2 * cc n) + 1).toNat) k = hb Se (cc n) k := rfl
      have q2 : pb (St (2 * cc n).toNat) (St ((2 * cc n) + 1).toNat) k = hb St (cc n) k := rfl
      rw [q1, q2]
      have q3 : (!hb Se (cc n) k) = true ↔ ¬ hb Se0 (cc n) k = true := by
        rw [← hSe k hk]
        cases hb Se (cc n) k <;> simp
      rw [q3]
      exact ⟨fun z => ⟨⟨hx, hx1, hx2⟩, Or.inl ⟨l, z⟩⟩, fun z => z.2.elim (fun q => q.2) (fun q => absurd l q.1)⟩
    · rw [e0, e1]
      have q1 : pb (Co (2 * cc n).toNat) (Co ((2 * cc n) + 1).toNat) k = hb Co (cc n) k := rfl
      rw [q1, h2 _ k gx hk]
      exact ⟨fun z => ⟨⟨k, hk, z.1⟩, Or.inr ⟨l, z.1⟩⟩, fun z => ⟨z.2.elim (fun q => absurd q.1 l) (fun q => q.2), hnot⟩⟩
  have ex : ∀ y : Int, (∃ j, j < n + 1 ∧ cc j = y) ↔ ((∃ j, j < n ∧ cc j = y) ∨ y = cc n) := fun y => by
    constructor
    · rintro ⟨j, j1, j2⟩
      by_cases e : j = n
      · rw [e] at j2; exact Or.inr j2.symm
      · exact Or.inl ⟨j, by omega, j2⟩
    · rintro (⟨j, j1, j2⟩ | e)
      · exact ⟨j, by omega, j2⟩
      · exact ⟨n, by omega, e.symm⟩
  refine ⟨fun y k hy hk => ?_, fun y k hy hk => ?_, fun j hj9 hj => ?_, fun j hj => ?_, fun j k hj hk => ?_⟩
  · rw [hb_add bx.1 (hg y hy).1 k, ex]
    by_cases e : y = cc n
    · rw [if_pos e, e, Bool.or_eq_true, hSe k hk, hF k hk]
      exact ⟨fun z => z.imp_right (fun q => ⟨Or.inr rfl, q⟩), fun z => z.imp_right (fun q => q.2)⟩
    · rw [if_neg e, h1 y k hy hk]
      exact or_congr Iff.rfl (and_congr ⟨Or.inl, fun z => z.resolve_right e⟩ Iff.rfl)
  · rw [hb_set bx.1 (hg y hy).1 k, ex]
    by_cases e : y = cc n
    · rw [if_pos e, pb_0 hk]
      exact ⟨fun z => absurd z (by decide), fun z => absurd (Or.inr e) z.2⟩
    · rw [if_neg e, h2 y k hy hk]
      exact and_congr Iff.rfl (not_congr ⟨Or.inl, fun z => z.resolve_right e⟩)
  · rw [kf_iff]
    intro k hk
    have hne : ¬ (j : Int) = cc n := fun e => hj (by rw [e]; exact gx)
    rw [hb_set bx.1 (by omega) k, if_neg hne]
    exact kf_iff.mp (h3 j hj9 hj) k hk
  · by_cases e : j = n
    · rw [e, fs_eq]
    · rw [fs_ne e]; exact h4 j (by omega)
  · by_cases e : j = n
    · rw [e, hb_set bx.1 bx.1 k, if_pos rfl]; exact hF k hk
    · have gj := (p3 j (by omega)).1
      rw [hb_set bx.1 (hg _ gj).1 k, if_neg (fun q => p5 j n (by omega) hn q)]
      exact h5 j k (by omega) hk
/-- the list of the fresh -/
def FSt (G : Int → Prop) (F : Int → Nat → Prop) (f : Nat) (Fr fc : Nat → Int) : Prop := f ≤ 100 ∧ (∀ j, j < f → G (fc j)) ∧ (∀ j h, j < f → h < 128 → (hb Fr (fc j) h = true ↔ F (fc j) h)) ∧ (∀ x h, G x → h < 128 → F x h → ∃ j, j < f ∧ fc j = x) ∧ ∀ j, j < f → ∃ h, h < 128 ∧ F (fc j) h
theorem cn_none {F : Nat → Int} : ∀ n : Nat, (∀ j, j < n → F j = -1) → cn F n = 0
  | 0, _ => rfl
  | n + 1, h => by
    show cn F n + (if F n = -1 then 0 else 1) = 0
    rw [cn_none n (fun j hj => h j (by omega)), if_pos (h n (by omega))]
theorem ai_end {G : Int → Prop} {St Se0 cc Se Fr Co fc : Nat → Int} {ld : Int → Prop} {P : Int → Nat → Prop} {m : Nat} {Co0 : Nat → Int} (hP : CP G P m Co0 cc) (hPS : ∀ x h, G x → h < 128 → P x h → hb St x h = true ∧ ¬ hb Se0 x h = true) (h : AI G St Se0 cc ld P m Se Fr Co fc) :
    (∀ x h, G x → h < 128 → (hb Se x h = true ↔ (hb Se0 x h = true ∨ AF St Se0 ld P x h))) ∧ FSt G (AF St Se0 ld P) m Fr fc ∧ CP G (fun _ _ => False) 0 Co cc := by
  obtain ⟨h1, h2, h3, h4, h5⟩ := h
  obtain ⟨p1, p2, p3, p4, p5, p6, p7⟩ := hP
  have hin : ∀ x, G x → (∃ h', h' < 128 ∧ P x h') → ∃ j, j < m ∧ cc j = x := fun x hx ⟨h', k1, k2⟩ => p4 x h' hx k1 k2
  refine ⟨fun x k hx hk => ?_, ⟨p1, fun j hj => by rw [h4 j hj]; exact (p3 j hj).1, fun j k hj hk => by rw [h4 j hj]; exact h5 j k hj hk, fun x k hx hk hF => ?_, fun j hj => ?_⟩, ?_⟩
  · rw [h1 x k hx hk]
    exact or_congr Iff.rfl ⟨fun z => z.2, fun z => ⟨hin x hx z.1, z⟩⟩
  · obtain ⟨j, j1, j2⟩ := hin x hx hF.1
    exact ⟨j, j1, by rw [h4 j j1]; exact j2⟩
  · rw [h4 j hj]
    obtain ⟨g, k, k1, k2⟩ := p3 j hj
    by_cases l : ld (cc j)
    · exact ⟨k, k1, ⟨k, k1, k2⟩, Or.inl ⟨l, hPS _ k g k1 k2⟩⟩
    · exact ⟨k, k1, ⟨k, k1, k2⟩, Or.inr ⟨l, k2⟩⟩
  · have hno : ∀ x k, G x → k < 128 → ¬ hb Co x k = true := fun x k hx hk z => by
      obtain ⟨z1, z2⟩ := (h2 x k hx hk).mp z
      exact z2 (p4 x k hx hk z1)
    have hk : ∀ j : Nat, j < 100 → KF Co j = -1 := fun j hj9 => by
      by_cases g : G (j : Int)
      · exact kf_iff.mpr (fun k hk => bn.mp (hno _ k g hk))
      · exact h3 j hj9 g
    exact ⟨by decide, fun x k hx hk => ⟨fun z => hno x k hx hk z, fun z => z.elim⟩, fun j hj => absurd hj (Nat.not_lt_zero j), fun x k _ _ z => z.elim, fun i j _ hj => absurd hj (Nat.not_lt_zero j), cn_none 100 (fun j hj => hk j hj), fun j hj _ => hk j hj⟩
set_option maxHeartbeats 4000000 in
theorem l_arrive {μ : Nat → Nat → Int} {c s : Nat} (hL : I_land μ) {l : Int} (hl : l = 0 ∨ l = 1) {H St Se0 cc Co0 : Nat → Int} {P : Int → Nat → Prop} {m : Nat} (hH : H 8 = (m : Int)) (hP : CP (g_cell μ) P m Co0 cc) : ∀ (d n : Nat) (k : Int) (Se : Nat → Int) (Fr : Nat → Int) (Co : Nat → Int) (fc : Nat → Int) (v3 : Option MV) (v4 : Option MV) (v5 : Option MV), k = (n : Int) → n + d = m → (AI (g_cell μ) St Se0 cc (fun x => l = 1 ∧ ¬ μ 8 (200 + x).toNat = -1) P n Se Fr Co fc) → Rn PT none kX1_arrive 2 [some (mR 74), some (mI (l)), some (mI (k)), v3, v4, v5] [] (mkh (m_upd (m_upd (m_upd (m_upd (m_upd (m_upd (m_upd μ 74 H) 75 St) 76 Se) 77 Fr) 78 Co) 79 fc) 80 cc) c s) (fun r => ∃ (H1 S1 F1 C1 f1 : Nat → Int), r = (some none, mkh (m_upd (m_upd (m_upd (m_upd (m_upd (m_upd (m_upd μ 74 H1) 75 St) 76 S1) 77 F1) 78 C1) 79 f1) 80 cc) c s) ∧ H1 8 = 0 ∧ H1 7 = (m : Int) ∧ AI (g_cell μ) St Se0 cc (fun x => l = 1 ∧ ¬ μ 8 (200 + x).toNat = -1) P m S1 F1 C1 f1) := by
  have hL_ := hL
  obtain ⟨lc, lr, le, lm, lw, lh, lwo, lwd, q0, q1, q2, q3, q4, q8, q499, q500, lth, lG, lT, lW, -⟩ := hL_
  have hm := hP.1
  intro d
  induction d with
  | zero =>
    intro n k Se Fr Co fc v3 v4 v5 ek hn hA
    subst ek
    refine rn_iload_n (k' := 3) rfl rfl rfl ?_
    refine rn_aload_n (k' := 4) rfl rfl rfl ?_
    refine rn_getI (k' := 5) rfl rfl K0_74 (by decide) rfl ?_
    show Rn PT none kX1_arrive 5 [some (mR 74), some (mI (l)), some (mI ((n : Int))), v3, v4, v5] [mI (H 8), mI ((n : Int))] (mkh (m_upd (m_upd (m_upd (m_upd (m_upd (m_upd (m_upd μ 74 H) 75 St) 76 Se) 77 Fr) 78 Co) 79 fc) 80 cc) c s) _
    refine rn_icmp_ge (k' := 6) rfl rfl (fun hc1 => ?_) (fun hc1 => ?_)
    · skip
      refine rn_aload_n (k' := 81) rfl rfl rfl ?_
      refine rn_aload_n (k' := 82) rfl rfl rfl ?_
      refine rn_getI (k' := 83) rfl rfl K0_74 (by decide) rfl ?_
      show Rn PT none kX1_arrive 83 [some (mR 74), some (mI (l)), some (mI ((n : Int))), v3, v4, v5] [mI (H 8), mR 74] (mkh (m_upd (m_upd (m_upd (m_upd (m_upd (m_upd (m_upd μ 74 H) 75 St) 76 Se) 77 Fr) 78 Co) 79 fc) 80 cc) c s) _
      refine rn_putI (k' := 84) rfl rfl K0_74 (by decide) rfl ?_
      refine rn_aload_n (k' := 85) rfl rfl rfl ?_
      refine rn_iconst (k' := 86) rfl rfl ?_
      refine rn_putI (k' := 87) rfl rfl K0_74 (by decide) rfl ?_
      refine rn_vret rfl ?_
      refine ⟨fs (fs H 7 (m : Int)) 8 0, Se, Fr, Co, fc, ?_, fs_eq, by rw [fs_ne (by decide), fs_eq], ?_⟩
      · refine congrArg (fun z => ((some none : Option (Option MV)), mkh z c s)) ?_
        rw [upd7_of (μ := μ) (ν := (m_set (m_set (m_upd (m_upd (m_upd (m_upd (m_upd (m_upd (m_upd μ 74 H) 75 St) 76 Se) 77 Fr) 78 Co) 79 fc) 80 cc) 74 7 (H 8)) 74 8 (0))) (fun b hb74 hb75 hb76 hb77 hb78 hb79 hb80 => ((row_set hb74).trans ((row_set hb74).trans ((row_upd hb80).trans ((row_upd hb79).trans ((row_upd hb78).trans ((row_upd hb77).trans ((row_upd hb76).trans ((row_upd hb75).trans (row_upd hb74))))))))))]
        have q74 : (m_set (m_set (m_upd (m_upd (m_upd (m_upd (m_upd (m_upd (m_upd μ 74 H) 75 St) 76 Se) 77 Fr) 78 Co) 79 fc) 80 cc) 74 7 (H 8)) 74 8 (0)) 74 = fs (fs H 7 (m : Int)) 8 0 := by
          rw [row_set_eq, row_set_eq, ← hH]
          rfl
        rw [q74]
        rfl
      · rw [show n = m by omega] at hA
        exact hA
    · exfalso; omega
  | succ d ih =>
    intro n k Se Fr Co fc v3 v4 v5 ek hn hA
    subst ek
    obtain ⟨hcn, -⟩ := hP.2.2.1 n (by omega)
    have hcb := g_cell_b hL hcn
    refine rn_iload_n (k' := 3) rfl rfl rfl ?_
    refine rn_aload_n (k' := 4) rfl rfl rfl ?_
    refine rn_getI (k' := 5) rfl rfl K0_74 (by decide) rfl ?_
    show Rn PT none kX1_arrive 5 [some (mR 74), some (mI (l)), some (mI ((n : Int))), v3, v4, v5] [mI (H 8), mI ((n : Int))] (mkh (m_upd (m_upd (m_upd (m_upd (m_upd (m_upd (m_upd μ 74 H) 75 St) 76 Se) 77 Fr) 78 Co) 79 fc) 80 cc) c s) _
    refine rn_icmp_ge (k' := 6) rfl rfl (fun hc1 => ?_) (fun hc1 => ?_)
    · exfalso; omega
    · skip
      refine rn_aload_n (k' := 7) rfl rfl rfl ?_
      refine rn_getR (k' := 8) rfl rfl K0_74 (by decide) rfl R0_74_6 ?_
      refine rn_iload_n (k' := 9) rfl rfl rfl ?_
      refine rn_iaload (k' := 10) rfl rfl K0_80 (by omega) (by omega) ?_
      show Rn PT none kX1_arrive 10 [some (mR 74), some (mI (l)), some (mI ((n : Int))), v3, v4, v5] [mI (cc (n))] (mkh (m_upd (m_upd (m_upd (m_upd (m_upd (m_upd (m_upd μ 74 H) 75 St) 76 Se) 77 Fr) 78 Co) 79 fc) 80 cc) c s) _
      refine rn_istore_n (k' := 11) (L' := [some (mR 74), some (mI (l)), some (mI ((n : Int))), some (mI (cc (n))), v4, v5]) rfl rfl (Nat.le_of_ble_eq_true rfl) rfl ?_
      refine rn_iload_n (k' := 12) rfl rfl rfl ?_
      refine rn_if_eq (k' := 13) rfl rfl (fun hc2 => ?_) (fun hc2 => ?_)
      · skip
        refine rn_iconst (k' := 21) rfl rfl ?_
        refine rn_istore (k' := 22) (L' := [some (mR 74), some (mI (l)), some (mI ((n : Int))), some (mI (cc (n))), some (mI (0)), v5]) rfl rfl (Nat.le_of_ble_eq_true rfl) rfl ?_
        refine rn_iconst (k' := 23) rfl rfl ?_
        refine rn_iload_n (k' := 24) rfl rfl rfl ?_
        refine rn_imul (k' := 25) rfl rfl (by omega) ?_
        refine rn_istore (k' := 26) (L' := [some (mR 74), some (mI (l)), some (mI ((n : Int))), some (mI (cc (n))), some (mI (0)), some (mI (2 * (cc (n))))]) rfl rfl (Nat.le_of_ble_eq_true rfl) rfl ?_
        refine rn_iload (k' := 27) rfl rfl rfl ?_
        refine rn_iconst (k' := 28) rfl rfl ?_
        refine rn_iload_n (k' := 29) rfl rfl rfl ?_
        refine rn_imul (k' := 30) rfl rfl (by omega) ?_
        refine rn_iconst (k' := 31) rfl rfl ?_
        refine rn_iadd (k' := 32) rfl rfl (by omega) ?_
        refine rn_icmp_gt (k' := 33) rfl rfl (fun hc3 => ?_) (fun hc3 => ?_)
        · exfalso; omega
        · skip
          refine rn_aload_n (k' := 34) rfl rfl rfl ?_
          refine rn_getR (k' := 35) rfl rfl K0_74 (by decide) rfl R0_74_3 ?_
          refine rn_iload (k' := 36) rfl rfl rfl ?_
          refine rn_iload (k' := 37) rfl rfl rfl ?_
          refine rn_if_eq (k' := 38) rfl rfl (fun hc4 => ?_) (fun hc4 => ?_)
          · skip
            refine rn_aload_n (k' := 51) rfl rfl rfl ?_
            refine rn_getR (k' := 52) rfl rfl K0_74 (by decide) rfl R0_74_4 ?_
            refine rn_iload (k' := 53) rfl rfl rfl ?_
            refine rn_laload (k' := 54) rfl rfl K0_78 (by omega) (by omega) ?_
            show Rn PT none kX1_arrive 54 [some (mR 74), some (mI (l)), some (mI ((n : Int))), some (mI (cc (n))), some (mI (0)), some (mI (2 * (cc (n))))] [mJ (Co ((2 * (cc (n))).toNat)), mI (2 * (cc (n))), mR 77] (mkh (m_upd (m_upd (m_upd (m_upd (m_upd (m_upd (m_upd μ 74 H) 75 St) 76 Se) 77 Fr) 78 Co) 79 fc) 80 cc) c s) _
            refine rn_lastore (k' := 55) rfl rfl K0_77 (by omega) (by omega) ?_
            refine rn_aload_n (k' := 56) rfl rfl rfl ?_
            refine rn_getR (k' := 57) rfl rfl K0_74 (by decide) rfl R0_74_2 ?_
            refine rn_iload (k' := 58) rfl rfl rfl ?_
            refine rn_dup2 (k' := 59) rfl rfl ?_
            refine rn_laload (k' := 60) rfl rfl K0_76 (by omega) (by omega) ?_
            show Rn PT none kX1_arrive 60 [some (mR 74), some (mI (l)), some (mI ((n : Int))), some (mI (cc (n))), some (mI (0)), some (mI (2 * (cc (n))))] [mJ (Se ((2 * (cc (n))).toNat)), mI (2 * (cc (n))), mR 76] (mkh (m_set (m_upd (m_upd (m_upd (m_upd (m_upd (m_upd (m_upd μ 74 H) 75 St) 76 Se) 77 Fr) 78 Co) 79 fc) 80 cc) 77 ((2 * (cc (n))).toNat) (Co ((2 * (cc (n))).toNat))) c s) _
            refine rn_aload_n (k' := 61) rfl rfl rfl ?_
            refine rn_getR (k' := 62) rfl rfl K0_74 (by decide) rfl R0_74_3 ?_
            refine rn_iload (k' := 63) rfl rfl rfl ?_
            refine rn_laload (k' := 64) rfl rfl K0_77 (by omega) (by omega) ?_
            show Rn PT none kX1_arrive 64 [some (mR 74), some (mI (l)), some (mI ((n : Int))), some (mI (cc (n))), some (mI (0)), some (mI (2 * (cc (n))))] [mJ ((m_set (m_upd (m_upd (m_upd (m_upd (m_upd (m_upd (m_upd μ 74 H) 75 St) 76 Se) 77 Fr) 78 Co) 79 fc) 80 cc) 77 ((2 * (cc (n))).toNat) (Co ((2 * (cc (n))).toNat))) 77 ((2 * (cc (n))).toNat)), mJ (Se ((2 * (cc (n))).toNat)), mI (2 * (cc (n))), mR 76] (mkh (m_set (m_upd (m_upd (m_upd (m_upd (m_upd (m_upd (m_upd μ 74 H) 75 St) 76 Se) 77 Fr) 78 Co) 79 fc) 80 cc) 77 ((2 * (cc (n))).toNat) (Co ((2 * (cc (n))).toNat))) c s) _
            rw [(show (m_set (m_upd (m_upd (m_upd (m_upd (m_upd (m_upd (m_upd μ 74 H) 75 St) 76 Se) 77 Fr) 78 Co) 79 fc) 80 cc) 77 ((2 * (cc (n))).toNat) (Co ((2 * (cc (n))).toNat))) 77 ((2 * (cc (n))).toNat) = Co ((2 * (cc (n))).toNat) from by rw [row_set_eq, fs_eq])]
            refine rn_lor (k' := 65) rfl rfl ?_
            refine rn_lastore (k' := 66) rfl rfl K0_76 (by omega) (by omega) ?_
            refine rn_aload_n (k' := 67) rfl rfl rfl ?_
            refine rn_getR (k' := 68) rfl rfl K0_74 (by decide) rfl R0_74_4 ?_
            refine rn_iload (k' := 69) rfl rfl rfl ?_
            refine rn_lconst (z := 0) (k' := 70) rfl rfl rfl ?_
            refine rn_lastore (k' := 71) rfl rfl K0_78 (by omega) (by omega) ?_
            refine rn_iinc (k' := 72) (L' := [some (mR 74), some (mI (l)), some (mI ((n : Int))), some (mI (cc (n))), some (mI (0)), some (mI (2 * (cc (n)) + 1))]) rfl rfl rfl (by omega) rfl ?_
            refine rn_goto rfl ?_
            refine rn_iload (k' := 27) rfl rfl rfl ?_
            refine rn_iconst (k' := 28) rfl rfl ?_
            refine rn_iload_n (k' := 29) rfl rfl rfl ?_
            refine rn_imul (k' := 30) rfl rfl (by omega) ?_
            refine rn_iconst (k' := 31) rfl rfl ?_
            refine rn_iadd (k' := 32) rfl rfl (by omega) ?_
            refine rn_icmp_gt (k' := 33) rfl rfl (fun hc5 => ?_) (fun hc5 => ?_)
            · exfalso; omega
            · skip
              refine rn_aload_n (k' := 34) rfl rfl rfl ?_
              refine rn_getR (k' := 35) rfl rfl K0_74 (by decide) rfl R0_74_3 ?_
              refine rn_iload (k' := 36) rfl rfl rfl ?_
              refine rn_iload (k' := 37) rfl rfl rfl ?_
              refine rn_if_eq (k' := 38) rfl rfl (fun hc6 => ?_) (fun hc6 => ?_)
              · skip
                refine rn_aload_n (k' := 51) rfl rfl rfl ?_
                refine rn_getR (k' := 52) rfl rfl K0_74 (by decide) rfl R0_74_4 ?_
                refine rn_iload (k' := 53) rfl rfl rfl ?_
                refine rn_laload (k' := 54) rfl rfl K0_78 (by omega) (by omega) ?_
                show Rn PT none kX1_arrive 54 [some (mR 74), some (mI (l)), some (mI ((n : Int))), some (mI (cc (n))), some (mI (0)), some (mI (2 * (cc (n)) + 1))] [mJ ((m_set (m_set (m_set (m_upd (m_upd (m_upd (m_upd (m_upd (m_upd (m_upd μ 74 H) 75 St) 76 Se) 77 Fr) 78 Co) 79 fc) 80 cc) 77 ((2 * (cc (n))).toNat) (Co ((2 * (cc (n))).toNat))) 76 ((2 * (cc (n))).toNat) (m_lor (Se ((2 * (cc (n))).toNat)) (Co ((2 * (cc (n))).toNat)))) 78 ((2 * (cc (n))).toNat) (0)) 78 ((2 * (cc (n)) + 1).toNat)), mI (2 * (cc (n)) + 1), mR 77] (mkh (m_set (m_set (m_set (m_upd (m_upd (m_upd (m_upd (m_upd (m_upd (m_upd μ 74 H) 75 St) 76 Se) 77 Fr) 78 Co) 79 fc) 80 cc) 77 ((2 * (cc (n))).toNat) (Co ((2 * (cc (n))).toNat))) 76 ((2 * (cc (n))).toNat) (m_lor (Se ((2 * (cc (n))).toNat)) (Co ((2 * (cc (n))).toNat)))) 78 ((2 * (cc (n))).toNat) (0)) c s) _
                rw [(show (m_set (m_set (m_set (m_upd (m_upd (m_upd (m_upd (m_upd (m_upd (m_upd μ 74 H) 75 St) 76 Se) 77 Fr) 78 Co) 79 fc) 80 cc) 77 ((2 * (cc (n))).toNat) (Co ((2 * (cc (n))).toNat))) 76 ((2 * (cc (n))).toNat) (m_lor (Se ((2 * (cc (n))).toNat)) (Co ((2 * (cc (n))).toNat)))) 78 ((2 * (cc (n))).toNat) (0)) 78 ((2 * (cc (n)) + 1).toNat) = Co ((2 * (cc (n)) + 1).toNat) from by rw [row_set_eq]; exact fs_ne (by omega))]
                refine rn_lastore (k' := 55) rfl rfl K0_77 (by omega) (by omega) ?_
                refine rn_aload_n (k' := 56) rfl rfl rfl ?_
                refine rn_getR (k' := 57) rfl rfl K0_74 (by decide) rfl R0_74_2 ?_
                refine rn_iload (k' := 58) rfl rfl rfl ?_
                refine rn_dup2 (k' := 59) rfl rfl ?_
                refine rn_laload (k' := 60) rfl rfl K0_76 (by omega) (by omega) ?_
                show Rn PT none kX1_arrive 60 [some (mR 74), some (mI (l)), some (mI ((n : Int))), some (mI (cc (n))), some (mI (0)), some (mI (2 * (cc (n)) + 1))] [mJ ((m_set (m_set (m_set (m_set (m_upd (m_upd (m_upd (m_upd (m_upd (m_upd (m_upd μ 74 H) 75 St) 76 Se) 77 Fr) 78 Co) 79 fc) 80 cc) 77 ((2 * (cc (n))).toNat) (Co ((2 * (cc (n))).toNat))) 76 ((2 * (cc (n))).toNat) (m_lor (Se ((2 * (cc (n))).toNat)) (Co ((2 * (cc (n))).toNat)))) 78 ((2 * (cc (n))).toNat) (0)) 77 ((2 * (cc (n)) + 1).toNat) (Co ((2 * (cc (n)) + 1).toNat))) 76 ((2 * (cc (n)) + 1).toNat)), mI (2 * (cc (n)) + 1), mR 76] (mkh (m_set (m_set (m_set (m_set (m_upd (m_upd (m_upd (m_upd (m_upd (m_upd (m_upd μ 74 H) 75 St) 76 Se) 77 Fr) 78 Co) 79 fc) 80 cc) 77 ((2 * (cc (n))).toNat) (Co ((2 * (cc (n))).toNat))) 76 ((2 * (cc (n))).toNat) (m_lor (Se ((2 * (cc (n))).toNat)) (Co ((2 * (cc (n))).toNat)))) 78 ((2 * (cc (n))).toNat) (0)) 77 ((2 * (cc (n)) + 1).toNat) (Co ((2 * (cc (n)) + 1).toNat))) c s) _
                rw [(show (m_set (m_set (m_set (m_set (m_upd (m_upd (m_upd (m_upd (m_upd (m_upd (m_upd μ 74 H) 75 St) 76 Se) 77 Fr) 78 Co) 79 fc) 80 cc) 77 ((2 * (cc (n))).toNat) (Co ((2 * (cc (n))).toNat))) 76 ((2 * (cc (n))).toNat) (m_lor (Se ((2 * (cc (n))).toNat)) (Co ((2 * (cc (n))).toNat)))) 78 ((2 * (cc (n))).toNat) (0)) 77 ((2 * (cc (n)) + 1).toNat) (Co ((2 * (cc (n)) + 1).toNat))) 76 ((2 * (cc (n)) + 1).toNat) = Se ((2 * (cc (n)) + 1).toNat) from by rw [row_set (show ¬ 76 = 77 by decide), row_set (show ¬ 76 = 78 by decide), row_set_eq]; exact fs_ne (by omega))]
                refine rn_aload_n (k' := 61) rfl rfl rfl ?_
                refine rn_getR (k' := 62) rfl rfl K0_74 (by decide) rfl R0_74_3 ?_
                refine rn_iload (k' := 63) rfl rfl rfl ?_
                refine rn_laload (k' := 64) rfl rfl K0_77 (by omega) (by omega) ?_
                show Rn PT none kX1_arrive 64 [some (mR 74), some (mI (l)), some (mI ((n : Int))), some (mI (cc (n))), some (mI (0)), some (mI (2 * (cc (n)) + 1))] [mJ ((m_set (m_set (m_set (m_set (m_upd (m_upd (m_upd (m_upd (m_upd (m_upd (m_upd μ 74 H) 75 St) 76 Se) 77 Fr) 78 Co) 79 fc) 80 cc) 77 ((2 * (cc (n))).toNat) (Co ((2 * (cc (n))).toNat))) 76 ((2 * (cc (n))).toNat) (m_lor (Se ((2 * (cc (n))).toNat)) (Co ((2 * (cc (n))).toNat)))) 78 ((2 * (cc (n))).toNat) (0)) 77 ((2 * (cc (n)) + 1).toNat) (Co ((2 * (cc (n)) + 1).toNat))) 77 ((2 * (cc (n)) + 1).toNat)), mJ (Se ((2 * (cc (n)) + 1).toNat)), mI (2 * (cc (n)) + 1), mR 76] (mkh (m_set (m_set (m_set (m_set (m_upd (m_upd (m_upd (m_upd (m_upd (m_upd (m_upd μ 74 H) 75 St) 76 Se) 77 Fr) 78 Co) 79 fc) 80 cc) 77 ((2 * (cc (n))).toNat) (Co ((2 * (cc (n))).toNat))) 76 ((2 * (cc (n))).toNat) (m_lor (Se ((2 * (cc (n))).toNat)) (Co ((2 * (cc (n))).toNat)))) 78 ((2 * (cc (n))).toNat) (0)) 77 ((2 * (cc (n)) + 1).toNat) (Co ((2 * (cc (n)) + 1).toNat))) c s) _
                rw [(show (m_set (m_set (m_set (m_set (m_upd (m_upd (m_upd (m_upd (m_upd (m_upd (m_upd μ 74 H) 75 St) 76 Se) 77 Fr) 78 Co) 79 fc) 80 cc) 77 ((2 * (cc (n))).toNat) (Co ((2 * (cc (n))).toNat))) 76 ((2 * (cc (n))).toNat) (m_lor (Se ((2 * (cc (n))).toNat)) (Co ((2 * (cc (n))).toNat)))) 78 ((2 * (cc (n))).toNat) (0)) 77 ((2 * (cc (n)) + 1).toNat) (Co ((2 * (cc (n)) + 1).toNat))) 77 ((2 * (cc (n)) + 1).toNat) = Co ((2 * (cc (n)) + 1).toNat) from by rw [row_set_eq, fs_eq])]
                refine rn_lor (k' := 65) rfl rfl ?_
                refine rn_lastore (k' := 66) rfl rfl K0_76 (by omega) (by omega) ?_
                refine rn_aload_n (k' := 67) rfl rfl rfl ?_
                refine rn_getR (k' := 68) rfl rfl K0_74 (by decide) rfl R0_74_4 ?_
                refine rn_iload (k' := 69) rfl rfl rfl ?_
                refine rn_lconst (z := 0) (k' := 70) rfl rfl rfl ?_
                refine rn_lastore (k' := 71) rfl rfl K0_78 (by omega) (by omega) ?_
                refine rn_iinc (k' := 72) (L' := [some (mR 74), some (mI (l)), some (mI ((n : Int))), some (mI (cc (n))), some (mI (0)), some (mI (2 * (cc (n)) + 1 + 1))]) rfl rfl rfl (by omega) rfl ?_
                refine rn_goto rfl ?_
                refine rn_iload (k' := 27) rfl rfl rfl ?_
                refine rn_iconst (k' := 28) rfl rfl ?_
                refine rn_iload_n (k' := 29) rfl rfl rfl ?_
                refine rn_imul (k' := 30) rfl rfl (by omega) ?_
                refine rn_iconst (k' := 31) rfl rfl ?_
                refine rn_iadd (k' := 32) rfl rfl (by omega) ?_
                refine rn_icmp_gt (k' := 33) rfl rfl (fun hc7 => ?_) (fun hc7 => ?_)
                · skip
                  refine rn_aload_n (k' := 74) rfl rfl rfl ?_
                  refine rn_getR (k' := 75) rfl rfl K0_74 (by decide) rfl R0_74_5 ?_
                  refine rn_iload_n (k' := 76) rfl rfl rfl ?_
                  refine rn_iload_n (k' := 77) rfl rfl rfl ?_
                  refine rn_iastore (k' := 78) rfl rfl K0_79 (by omega) (by omega) ?_
                  refine rn_iinc (k' := 79) (L' := [some (mR 74), some (mI (l)), some (mI ((n : Int) + 1)), some (mI (cc (n))), some (mI (0)), some (mI (2 * (cc (n)) + 1 + 1))]) rfl rfl rfl (by omega) rfl ?_
                  refine rn_goto rfl ?_
                  show Rn PT none kX1_arrive 2 [some (mR 74), some (mI (l)), some (mI ((n : Int) + 1)), some (mI (cc (n))), some (mI (0)), some (mI (2 * (cc (n)) + 1 + 1))] [] (mkh (m_set (m_set (m_set (m_set (m_set (m_set (m_set (m_upd (m_upd (m_upd (m_upd (m_upd (m_upd (m_upd μ 74 H) 75 St) 76 Se) 77 Fr) 78 Co) 79 fc) 80 cc) 77 ((2 * (cc (n))).toNat) (Co ((2 * (cc (n))).toNat))) 76 ((2 * (cc (n))).toNat) (m_lor (Se ((2 * (cc (n))).toNat)) (Co ((2 * (cc (n))).toNat)))) 78 ((2 * (cc (n))).toNat) (0)) 77 ((2 * (cc (n)) + 1).toNat) (Co ((2 * (cc (n)) + 1).toNat))) 76 ((2 * (cc (n)) + 1).toNat) (m_lor (Se ((2 * (cc (n)) + 1).toNat)) (Co ((2 * (cc (n)) + 1).toNat)))) 78 ((2 * (cc (n)) + 1).toNat) (0)) 79 n (cc (n))) c s) _
                  rw [upd7_of (μ := μ) (ν := (m_set (m_set (m_set (m_set (m_set (m_set (m_set (m_upd (m_upd (m_upd (m_upd (m_upd (m_upd (m_upd μ 74 H) 75 St) 76 Se) 77 Fr) 78 Co) 79 fc) 80 cc) 77 ((2 * (cc (n))).toNat) (Co ((2 * (cc (n))).toNat))) 76 ((2 * (cc (n))).toNat) (m_lor (Se ((2 * (cc (n))).toNat)) (Co ((2 * (cc (n))).toNat)))) 78 ((2 * (cc (n))).toNat) (0)) 77 ((2 * (cc (n)) + 1).toNat) (Co ((2 * (cc (n)) + 1).toNat))) 76 ((2 * (cc (n)) + 1).toNat) (m_lor (Se ((2 * (cc (n)) + 1).toNat)) (Co ((2 * (cc (n)) + 1).toNat)))) 78 ((2 * (cc (n)) + 1).toNat) (0)) 79 n (cc (n)))) (fun b hb74 hb75 hb76 hb77 hb78 hb79 hb80 => ((row_set hb79).trans ((row_set hb78).trans ((row_set hb76).trans ((row_set hb77).trans ((row_set hb78).trans ((row_set hb76).trans ((row_set hb77).trans ((row_upd hb80).trans ((row_upd hb79).trans ((row_upd hb78).trans ((row_upd hb77).trans ((row_upd hb76).trans ((row_upd hb75).trans (row_upd hb74)))))))))))))))]
                  have q77 : (m_set (m_set (m_set (m_set (m_set (m_set (m_set (m_upd (m_upd (m_upd (m_upd (m_upd (m_upd (m_upd μ 74 H) 75 St) 76 Se) 77 Fr) 78 Co) 79 fc) 80 cc) 77 ((2 * (cc (n))).toNat) (Co ((2 * (cc (n))).toNat))) 76 ((2 * (cc (n))).toNat) (m_lor (Se ((2 * (cc (n))).toNat)) (Co ((2 * (cc (n))).toNat)))) 78 ((2 * (cc (n))).toNat) (0)) 77 ((2 * (cc (n)) + 1).toNat) (Co ((2 * (cc (n)) + 1).toNat))) 76 ((2 * (cc (n)) + 1).toNat) (m_lor (Se ((2 * (cc (n)) + 1).toNat)) (Co ((2 * (cc (n)) + 1).toNat)))) 78 ((2 * (cc (n)) + 1).toNat) (0)) 79 n (cc (n))) 77 = fs (fs Fr (2 * cc n).toNat (Co ((2 * (cc (n))).toNat))) ((2 * cc n) + 1).toNat (Co ((2 * (cc (n)) + 1).toNat)) := by
                    rw [row_set (show ¬ 77 = 79 by decide), row_set (show ¬ 77 = 78 by decide), row_set (show ¬ 77 = 76 by decide), row_set_eq, row_set (show ¬ 77 = 78 by decide), row_set (show ¬ 77 = 76 by decide), row_set_eq]
                    rfl
                  have q76 : (m_set (m_set (m_set (m_set (m_set (m_set (m_set (m_upd (m_upd (m_upd (m_upd (m_upd (m_upd (m_upd μ 74 H) 75 St) 76 Se) 77 Fr) 78 Co) 79 fc) 80 cc) 77 ((2 * (cc (n))).toNat) (Co ((2 * (cc (n))).toNat))) 76 ((2 * (cc (n))).toNat) (m_lor (Se ((2 * (cc (n))).toNat)) (Co ((2 * (cc (n))).toNat)))) 78 ((2 * (cc (n))).toNat) (0)) 77 ((2 * (cc (n)) + 1).toNat) (Co ((2 * (cc (n)) + 1).toNat))) 76 ((2 * (cc (n)) + 1).toNat) (m_lor (Se ((2 * (cc (n)) + 1).toNat)) (Co ((2 * (cc (n)) + 1).toNat)))) 78 ((2 * (cc (n)) + 1).toNat) (0)) 79 n (cc (n))) 76 = fs (fs Se (2 * cc n).toNat (m_lor (Se (2 * cc n).toNat) (Co ((2 * (cc (n))).toNat)))) ((2 * cc n) + 1).toNat (m_lor (Se ((2 * cc n) + 1).toNat) (Co ((2 * (cc (n)) + 1).toNat))) := by
                    rw [row_set (show ¬ 76 = 79 by decide), row_set (show ¬ 76 = 78 by decide), row_set_eq, row_set (show ¬ 76 = 77 by decide), row_set (show ¬ 76 = 78 by decide), row_set_eq, row_set (show ¬ 76 = 77 by decide)]
                    rfl
                  have q78 : (m_set (m_set (m_set (m_set (m_set (m_set (m_set (m_upd (m_upd (m_upd (m_upd (m_upd (m_upd (m_upd μ 74 H) 75 St) 76 Se) 77 Fr) 78 Co) 79 fc) 80 cc) 77 ((2 * (cc (n))).toNat) (Co ((2 * (cc (n))).toNat))) 76 ((2 * (cc (n))).toNat) (m_lor (Se ((2 * (cc (n))).toNat)) (Co ((2 * (cc (n))).toNat)))) 78 ((2 * (cc (n))).toNat) (0)) 77 ((2 * (cc (n)) + 1).toNat) (Co ((2 * (cc (n)) + 1).toNat))) 76 ((2 * (cc (n)) + 1).toNat) (m_lor (Se ((2 * (cc (n)) + 1).toNat)) (Co ((2 * (cc (n)) + 1).toNat)))) 78 ((2 * (cc (n)) + 1).toNat) (0)) 79 n (cc (n))) 78 = fs (fs Co (2 * cc n).toNat 0) ((2 * cc n) + 1).toNat 0 := by
                    rw [row_set (show ¬ 78 = 79 by decide), row_set_eq, row_set (show ¬ 78 = 76 by decide), row_set (show ¬ 78 = 77 by decide), row_set_eq, row_set (show ¬ 78 = 76 by decide), row_set (show ¬ 78 = 77 by decide)]
                    rfl
                  have q79 : (m_set (m_set (m_set (m_set (m_set (m_set (m_set (m_upd (m_upd (m_upd (m_upd (m_upd (m_upd (m_upd μ 74 H) 75 St) 76 Se) 77 Fr) 78 Co) 79 fc) 80 cc) 77 ((2 * (cc (n))).toNat) (Co ((2 * (cc (n))).toNat))) 76 ((2 * (cc (n))).toNat) (m_lor (Se ((2 * (cc (n))).toNat)) (Co ((2 * (cc (n))).toNat)))) 78 ((2 * (cc (n))).toNat) (0)) 77 ((2 * (cc (n)) + 1).toNat) (Co ((2 * (cc (n)) + 1).toNat))) 76 ((2 * (cc (n)) + 1).toNat) (m_lor (Se ((2 * (cc (n)) + 1).toNat)) (Co ((2 * (cc (n)) + 1).toNat)))) 78 ((2 * (cc (n)) + 1).toNat) (0)) 79 n (cc (n))) 79 = fs fc n (cc n) := by
                    rw [row_set_eq, row_set (show ¬ 79 = 78 by decide), row_set (show ¬ 79 = 76 by decide), row_set (show ¬ 79 = 77 by decide), row_set (show ¬ 79 = 78 by decide), row_set (show ¬ 79 = 76 by decide), row_set (show ¬ 79 = 77 by decide)]
                    rfl
                  have q74 : (m_set (m_set (m_set (m_set (m_set (m_set (m_set (m_upd (m_upd (m_upd (m_upd (m_upd (m_upd (m_upd μ 74 H) 75 St) 76 Se) 77 Fr) 78 Co) 79 fc) 80 cc) 77 ((2 * (cc (n))).toNat) (Co ((2 * (cc (n))).toNat))) 76 ((2 * (cc (n))).toNat) (m_lor (Se ((2 * (cc (n))).toNat)) (Co ((2 * (cc (n))).toNat)))) 78 ((2 * (cc (n))).toNat) (0)) 77 ((2 * (cc (n)) + 1).toNat) (Co ((2 * (cc (n)) + 1).toNat))) 76 ((2 * (cc (n)) + 1).toNat) (m_lor (Se ((2 * (cc (n)) + 1).toNat)) (Co ((2 * (cc (n)) + 1).toNat)))) 78 ((2 * (cc (n)) + 1).toNat) (0)) 79 n (cc (n))) 74 = H := by
                    rw [row_set (show ¬ 74 = 79 by decide), row_set (show ¬ 74 = 78 by decide), row_set (show ¬ 74 = 76 by decide), row_set (show ¬ 74 = 77 by decide), row_set (show ¬ 74 = 78 by decide), row_set (show ¬ 74 = 76 by decide), row_set (show ¬ 74 = 77 by decide)]
                    rfl
                  have q75 : (m_set (m_set (m_set (m_set (m_set (m_set (m_set (m_upd (m_upd (m_upd (m_upd (m_upd (m_upd (m_upd μ 74 H) 75 St) 76 Se) 77 Fr) 78 Co) 79 fc) 80 cc) 77 ((2 * (cc (n))).toNat) (Co ((2 * (cc (n))).toNat))) 76 ((2 * (cc (n))).toNat) (m_lor (Se ((2 * (cc (n))).toNat)) (Co ((2 * (cc (n))).toNat)))) 78 ((2 * (cc (n))).toNat) (0)) 77 ((2 * (cc (n)) + 1).toNat) (Co ((2 * (cc (n)) + 1).toNat))) 76 ((2 * (cc (n)) + 1).toNat) (m_lor (Se ((2 * (cc (n)) + 1).toNat)) (Co ((2 * (cc (n)) + 1).toNat)))) 78 ((2 * (cc (n)) + 1).toNat) (0)) 79 n (cc (n))) 75 = St := by
                    rw [row_set (show ¬ 75 = 79 by decide), row_set (show ¬ 75 = 78 by decide), row_set (show ¬ 75 = 76 by decide), row_set (show ¬ 75 = 77 by decide), row_set (show ¬ 75 = 78 by decide), row_set (show ¬ 75 = 76 by decide), row_set (show ¬ 75 = 77 by decide)]
                    rfl
                  have q80 : (m_set (m_set (m_set (m_set (m_set (m_set (m_set (m_upd (m_upd (m_upd (m_upd (m_upd (m_upd (m_upd μ 74 H) 75 St) 76 Se) 77 Fr) 78 Co) 79 fc) 80 cc) 77 ((2 * (cc (n))).toNat) (Co ((2 * (cc (n))).toNat))) 76 ((2 * (cc (n))).toNat) (m_lor (Se ((2 * (cc (n))).toNat)) (Co ((2 * (cc (n))).toNat)))) 78 ((2 * (cc (n))).toNat) (0)) 77 ((2 * (cc (n)) + 1).toNat) (Co ((2 * (cc (n)) + 1).toNat))) 76 ((2 * (cc (n)) + 1).toNat) (m_lor (Se ((2 * (cc (n)) + 1).toNat)) (Co ((2 * (cc (n)) + 1).toNat)))) 78 ((2 * (cc (n)) + 1).toNat) (0)) 79 n (cc (n))) 80 = cc := by
                    rw [row_set (show ¬ 80 = 79 by decide), row_set (show ¬ 80 = 78 by decide), row_set (show ¬ 80 = 76 by decide), row_set (show ¬ 80 = 77 by decide), row_set (show ¬ 80 = 78 by decide), row_set (show ¬ 80 = 76 by decide), row_set (show ¬ 80 = 77 by decide)]
                    rfl
                  rw [q74, q75, q76, q77, q78, q79, q80]
                  exact ih (n + 1) _ _ _ _ _ _ _ _ (by omega) (by omega) (ai_step (fun y hy => g_cell_b hL hy) hP (by omega) hA (Or.inr ⟨fun z => by first | (have := z.1; omega) | exact absurd z.2 (by assumption), rfl, rfl⟩))
                · exfalso; omega
              · exfalso; omega
          · exfalso; omega
      · skip
        refine rn_aload_n (k' := 14) rfl rfl rfl ?_
        refine rn_getR (k' := 15) rfl rfl K0_74 (by decide) rfl R0_74_0 ?_
        refine rn_iload_n (k' := 16) rfl rfl rfl ?_
        by_cases hq8 : ¬ μ 8 (200 + cc n).toNat = -1
        · refine rn_callP (k' := 17) (y := 37) (vs := [mR 6, mI (cc (n))]) (S' := []) (v := some (mI 1)) (h' := mkh (m_upd (m_upd (m_upd (m_upd (m_upd (m_upd (m_upd μ 74 H) 75 St) 76 Se) 77 Fr) 78 Co) 79 fc) 80 cc) c s) rfl rfl rfl (by have hz : Cl PT 37 [mR 6, mI (cc (n))] (mkh (m_upd (m_upd (m_upd (m_upd (m_upd (m_upd (m_upd μ 74 H) 75 St) 76 Se) 77 Fr) 78 Co) 79 fc) 80 cc) c s) (fun r => r = (some (some (mI (if ¬ μ 8 (200 + cc n).toNat = -1 then 1 else 0))), mkh (m_upd (m_upd (m_upd (m_upd (m_upd (m_upd (m_upd μ 74 H) 75 St) 76 Se) 77 Fr) 78 Co) 79 fc) 80 cc) c s)) := k_hasLadder (μ := (m_upd (m_upd (m_upd (m_upd (m_upd (m_upd (m_upd μ 74 H) 75 St) 76 Se) 77 Fr) 78 Co) 79 fc) 80 cc)) (c := c) (s := s) ((((((((hL).upd rfl).upd rfl).upd rfl).upd rfl).upd rfl).upd rfl).upd rfl) (a := cc n) (by omega); rw [if_pos hq8] at hz; exact hz) ?_
          show Rn PT none kX1_arrive 17 [some (mR 74), some (mI (l)), some (mI ((n : Int))), some (mI (cc (n))), v4, v5] [mI (1)] (mkh (m_upd (m_upd (m_upd (m_upd (m_upd (m_upd (m_upd μ 74 H) 75 St) 76 Se) 77 Fr) 78 Co) 79 fc) 80 cc) c s) _
          refine rn_if_eq (k' := 18) rfl rfl (fun hc9 => ?_) (fun hc9 => ?_)
          · exfalso; omega
          · skip
            refine rn_iconst (k' := 19) rfl rfl ?_
            refine rn_goto rfl ?_
            refine rn_istore (k' := 22) (L' := [some (mR 74), some (mI (l)), some (mI ((n : Int))), some (mI (cc (n))), some (mI (1)), v5]) rfl rfl (Nat.le_of_ble_eq_true rfl) rfl ?_
            refine rn_iconst (k' := 23) rfl rfl ?_
            refine rn_iload_n (k' := 24) rfl rfl rfl ?_
            refine rn_imul (k' := 25) rfl rfl (by omega) ?_
            refine rn_istore (k' := 26) (L' := [some (mR 74), some (mI (l)), some (mI ((n : Int))), some (mI (cc (n))), some (mI (1)), some (mI (2 * (cc (n))))]) rfl rfl (Nat.le_of_ble_eq_true rfl) rfl ?_
            refine rn_iload (k' := 27) rfl rfl rfl ?_
            refine rn_iconst (k' := 28) rfl rfl ?_
            refine rn_iload_n (k' := 29) rfl rfl rfl ?_
            refine rn_imul (k' := 30) rfl rfl (by omega) ?_
            refine rn_iconst (k' := 31) rfl rfl ?_
            refine rn_iadd (k' := 32) rfl rfl (by omega) ?_
            refine rn_icmp_gt (k' := 33) rfl rfl (fun hc10 => ?_) (fun hc10 => ?_)
            · exfalso; omega
            · skip
              refine rn_aload_n (k' := 34) rfl rfl rfl ?_
              refine rn_getR (k' := 35) rfl rfl K0_74 (by decide) rfl R0_74_3 ?_
              refine rn_iload (k' := 36) rfl rfl rfl ?_
              refine rn_iload (k' := 37) rfl rfl rfl ?_
              refine rn_if_eq (k' := 38) rfl rfl (fun hc11 => ?_) (fun hc11 => ?_)
              · exfalso; omega
              · skip
                refine rn_aload_n (k' := 39) rfl rfl rfl ?_
                refine rn_getR (k' := 40) rfl rfl K0_74 (by decide) rfl R0_74_1 ?_
                refine rn_iload (k' := 41) rfl rfl rfl ?_
                refine rn_laload (k' := 42) rfl rfl K0_75 (by omega) (by omega) ?_
                show Rn PT none kX1_arrive 42 [some (mR 74), some (mI (l)), some (mI ((n : Int))), some (mI (cc (n))), some (mI (1)), some (mI (2 * (cc (n))))] [mJ (St ((2 * (cc (n))).toNat)), mI (2 * (cc (n))), mR 77] (mkh (m_upd (m_upd (m_upd (m_upd (m_upd (m_upd (m_upd μ 74 H) 75 St) 76 Se) 77 Fr) 78 Co) 79 fc) 80 cc) c s) _
                refine rn_aload_n (k' := 43) rfl rfl rfl ?_
                refine rn_getR (k' := 44) rfl rfl K0_74 (by decide) rfl R0_74_2 ?_
                refine rn_iload (k' := 45) rfl rfl rfl ?_
                refine rn_laload (k' := 46) rfl rfl K0_76 (by omega) (by omega) ?_
                show Rn PT none kX1_arrive 46 [some (mR 74), some (mI (l)), some (mI ((n : Int))), some (mI (cc (n))), some (mI (1)), some (mI (2 * (cc (n))))] [mJ (Se ((2 * (cc (n))).toNat)), mJ (St ((2 * (cc (n))).toNat)), mI (2 * (cc (n))), mR 77] (mkh (m_upd (m_upd (m_upd (m_upd (m_upd (m_upd (m_upd μ 74 H) 75 St) 76 Se) 77 Fr) 78 Co) 79 fc) 80 cc) c s) _
                refine rn_ldc2_w (k' := 47) rfl rfl ?_
                refine rn_lxor (k' := 48) rfl rfl ?_
                refine rn_land (k' := 49) rfl rfl ?_
                refine rn_goto rfl ?_
                refine rn_lastore (k' := 55) rfl rfl K0_77 (by omega) (by omega) ?_
                refine rn_aload_n (k' := 56) rfl rfl rfl ?_
                refine rn_getR (k' := 57) rfl rfl K0_74 (by decide) rfl R0_74_2 ?_
                refine rn_iload (k' := 58) rfl rfl rfl ?_
                refine rn_dup2 (k' := 59) rfl rfl ?_
                refine rn_laload (k' := 60) rfl rfl K0_76 (by omega) (by omega) ?_
                show Rn PT none kX1_arrive 60 [some (mR 74), some (mI (l)), some (mI ((n : Int))), some (mI (cc (n))), some (mI (1)), some (mI (2 * (cc (n))))] [mJ (Se ((2 * (cc (n))).toNat)), mI (2 * (cc (n))), mR 76] (mkh (m_set (m_upd (m_upd (m_upd (m_upd (m_upd (m_upd (m_upd μ 74 H) 75 St) 76 Se) 77 Fr) 78 Co) 79 fc) 80 cc) 77 ((2 * (cc (n))).toNat) (m_land (St ((2 * (cc (n))).toNat)) (m_lxor (Se ((2 * (cc (n))).toNat)) (-1)))) c s) _
                refine rn_aload_n (k' := 61) rfl rfl rfl ?_
                refine rn_getR (k' := 62) rfl rfl K0_74 (by decide) rfl R0_74_3 ?_
                refine rn_iload (k' := 63) rfl rfl rfl ?_
                refine rn_laload (k' := 64) rfl rfl K0_77 (by omega) (by omega) ?_
                show Rn PT none kX1_arrive 64 [some (mR 74), some (mI (l)), some (mI ((n : Int))), some (mI (cc (n))), some (mI (1)), some (mI (2 * (cc (n))))] [mJ ((m_set (m_upd (m_upd (m_upd (m_upd (m_upd (m_upd (m_upd μ 74 H) 75 St) 76 Se) 77 Fr) 78 Co) 79 fc) 80 cc) 77 ((2 * (cc (n))).toNat) (m_land (St ((2 * (cc (n))).toNat)) (m_lxor (Se ((2 * (cc (n))).toNat)) (-1)))) 77 ((2 * (cc (n))).toNat)), mJ (Se ((2 * (cc (n))).toNat)), mI (2 * (cc (n))), mR 76] (mkh (m_set (m_upd (m_upd (m_upd (m_upd (m_upd (m_upd (m_upd μ 74 H) 75 St) 76 Se) 77 Fr) 78 Co) 79 fc) 80 cc) 77 ((2 * (cc (n))).toNat) (m_land (St ((2 * (cc (n))).toNat)) (m_lxor (Se ((2 * (cc (n))).toNat)) (-1)))) c s) _
                rw [(show (m_set (m_upd (m_upd (m_upd (m_upd (m_upd (m_upd (m_upd μ 74 H) 75 St) 76 Se) 77 Fr) 78 Co) 79 fc) 80 cc) 77 ((2 * (cc (n))).toNat) (m_land (St ((2 * (cc (n))).toNat)) (m_lxor (Se ((2 * (cc (n))).toNat)) (-1)))) 77 ((2 * (cc (n))).toNat) = m_land (St ((2 * (cc (n))).toNat)) (m_lxor (Se ((2 * (cc (n))).toNat)) (-1)) from by rw [row_set_eq, fs_eq])]
                refine rn_lor (k' := 65) rfl rfl ?_
                refine rn_lastore (k' := 66) rfl rfl K0_76 (by omega) (by omega) ?_
                refine rn_aload_n (k' := 67) rfl rfl rfl ?_
                refine rn_getR (k' := 68) rfl rfl K0_74 (by decide) rfl R0_74_4 ?_
                refine rn_iload (k' := 69) rfl rfl rfl ?_
                refine rn_lconst (z := 0) (k' := 70) rfl rfl rfl ?_
                refine rn_lastore (k' := 71) rfl rfl K0_78 (by omega) (by omega) ?_
                refine rn_iinc (k' := 72) (L' := [some (mR 74), some (mI (l)), some (mI ((n : Int))), some (mI (cc (n))), some (mI (1)), some (mI (2 * (cc (n)) + 1))]) rfl rfl rfl (by omega) rfl ?_
                refine rn_goto rfl ?_
                refine rn_iload (k' := 27) rfl rfl rfl ?_
                refine rn_iconst (k' := 28) rfl rfl ?_
                refine rn_iload_n (k' := 29) rfl rfl rfl ?_
                refine rn_imul (k' := 30) rfl rfl (by omega) ?_
                refine rn_iconst (k' := 31) rfl rfl ?_
                refine rn_iadd (k' := 32) rfl rfl (by omega) ?_
                refine rn_icmp_gt (k' := 33) rfl rfl (fun hc12 => ?_) (fun hc12 => ?_)
                · exfalso; omega
                · skip
                  refine rn_aload_n (k' := 34) rfl rfl rfl ?_
                  refine rn_getR (k' := 35) rfl rfl K0_74 (by decide) rfl R0_74_3 ?_
                  refine rn_iload (k' := 36) rfl rfl rfl ?_
                  refine rn_iload (k' := 37) rfl rfl rfl ?_
                  refine rn_if_eq (k' := 38) rfl rfl (fun hc13 => ?_) (fun hc13 => ?_)
                  · exfalso; omega
                  · skip
                    refine rn_aload_n (k' := 39) rfl rfl rfl ?_
                    refine rn_getR (k' := 40) rfl rfl K0_74 (by decide) rfl R0_74_1 ?_
                    refine rn_iload (k' := 41) rfl rfl rfl ?_
                    refine rn_laload (k' := 42) rfl rfl K0_75 (by omega) (by omega) ?_
                    show Rn PT none kX1_arrive 42 [some (mR 74), some (mI (l)), some (mI ((n : Int))), some (mI (cc (n))), some (mI (1)), some (mI (2 * (cc (n)) + 1))] [mJ (St ((2 * (cc (n)) + 1).toNat)), mI (2 * (cc (n)) + 1), mR 77] (mkh (m_set (m_set (m_set (m_upd (m_upd (m_upd (m_upd (m_upd (m_upd (m_upd μ 74 H) 75 St) 76 Se) 77 Fr) 78 Co) 79 fc) 80 cc) 77 ((2 * (cc (n))).toNat) (m_land (St ((2 * (cc (n))).toNat)) (m_lxor (Se ((2 * (cc (n))).toNat)) (-1)))) 76 ((2 * (cc (n))).toNat) (m_lor (Se ((2 * (cc (n))).toNat)) (m_land (St ((2 * (cc (n))).toNat)) (m_lxor (Se ((2 * (cc (n))).toNat)) (-1))))) 78 ((2 * (cc (n))).toNat) (0)) c s) _
                    refine rn_aload_n (k' := 43) rfl rfl rfl ?_
                    refine rn_getR (k' := 44) rfl rfl K0_74 (by decide) rfl R0_74_2 ?_
                    refine rn_iload (k' := 45) rfl rfl rfl ?_
                    refine rn_laload (k' := 46) rfl rfl K0_76 (by omega) (by omega) ?_
                    show Rn PT none kX1_arrive 46 [some (mR 74), some (mI (l)), some (mI ((n : Int))), some (mI (cc (n))), some (mI (1)), some (mI (2 * (cc (n)) + 1))] [mJ ((m_set (m_set (m_set (m_upd (m_upd (m_upd (m_upd (m_upd (m_upd (m_upd μ 74 H) 75 St) 76 Se) 77 Fr) 78 Co) 79 fc) 80 cc) 77 ((2 * (cc (n))).toNat) (m_land (St ((2 * (cc (n))).toNat)) (m_lxor (Se ((2 * (cc (n))).toNat)) (-1)))) 76 ((2 * (cc (n))).toNat) (m_lor (Se ((2 * (cc (n))).toNat)) (m_land (St ((2 * (cc (n))).toNat)) (m_lxor (Se ((2 * (cc (n))).toNat)) (-1))))) 78 ((2 * (cc (n))).toNat) (0)) 76 ((2 * (cc (n)) + 1).toNat)), mJ (St ((2 * (cc (n)) + 1).toNat)), mI (2 * (cc (n)) + 1), mR 77] (mkh (m_set (m_set (m_set (m_upd (m_upd (m_upd (m_upd (m_upd (m_upd (m_upd μ 74 H) 75 St) 76 Se) 77 Fr) 78 Co) 79 fc) 80 cc) 77 ((2 * (cc (n))).toNat) (m_land (St ((2 * (cc (n))).toNat)) (m_lxor (Se ((2 * (cc (n))).toNat)) (-1)))) 76 ((2 * (cc (n))).toNat) (m_lor (Se ((2 * (cc (n))).toNat)) (m_land (St ((2 * (cc (n))).toNat)) (m_lxor (Se ((2 * (cc (n))).toNat)) (-1))))) 78 ((2 * (cc (n))).toNat) (0)) c s) _
                    rw [(show (m_set (m_set (m_set (m_upd (m_upd (m_upd (m_upd (m_upd (m_upd (m_upd μ 74 H) 75 St) 76 Se) 77 Fr) 78 Co) 79 fc) 80 cc) 77 ((2 * (cc (n))).toNat) (m_land (St ((2 * (cc (n))).toNat)) (m_lxor (Se ((2 * (cc (n))).toNat)) (-1)))) 76 ((2 * (cc (n))).toNat) (m_lor (Se ((2 * (cc (n))).toNat)) (m_land (St ((2 * (cc (n))).toNat)) (m_lxor (Se ((2 * (cc (n))).toNat)) (-1))))) 78 ((2 * (cc (n))).toNat) (0)) 76 ((2 * (cc (n)) + 1).toNat) = Se ((2 * (cc (n)) + 1).toNat) from by rw [row_set (show ¬ 76 = 78 by decide), row_set_eq]; exact fs_ne (by omega))]
                    refine rn_ldc2_w (k' := 47) rfl rfl ?_
                    refine rn_lxor (k' := 48) rfl rfl ?_
                    refine rn_land (k' := 49) rfl rfl ?_
                    refine rn_goto rfl ?_
                    refine rn_lastore (k' := 55) rfl rfl K0_77 (by omega) (by omega) ?_
                    refine rn_aload_n (k' := 56) rfl rfl rfl ?_
                    refine rn_getR (k' := 57) rfl rfl K0_74 (by decide) rfl R0_74_2 ?_
                    refine rn_iload (k' := 58) rfl rfl rfl ?_
                    refine rn_dup2 (k' := 59) rfl rfl ?_
                    refine rn_laload (k' := 60) rfl rfl K0_76 (by omega) (by omega) ?_
                    show Rn PT none kX1_arrive 60 [some (mR 74), some (mI (l)), some (mI ((n : Int))), some (mI (cc (n))), some (mI (1)), some (mI (2 * (cc (n)) + 1))] [mJ ((m_set (m_set (m_set (m_set (m_upd (m_upd (m_upd (m_upd (m_upd (m_upd (m_upd μ 74 H) 75 St) 76 Se) 77 Fr) 78 Co) 79 fc) 80 cc) 77 ((2 * (cc (n))).toNat) (m_land (St ((2 * (cc (n))).toNat)) (m_lxor (Se ((2 * (cc (n))).toNat)) (-1)))) 76 ((2 * (cc (n))).toNat) (m_lor (Se ((2 * (cc (n))).toNat)) (m_land (St ((2 * (cc (n))).toNat)) (m_lxor (Se ((2 * (cc (n))).toNat)) (-1))))) 78 ((2 * (cc (n))).toNat) (0)) 77 ((2 * (cc (n)) + 1).toNat) (m_land (St ((2 * (cc (n)) + 1).toNat)) (m_lxor (Se ((2 * (cc (n)) + 1).toNat)) (-1)))) 76 ((2 * (cc (n)) + 1).toNat)), mI (2 * (cc (n)) + 1), mR 76] (mkh (m_set (m_set (m_set (m_set (m_upd (m_upd (m_upd (m_upd (m_upd (m_upd (m_upd μ 74 H) 75 St) 76 Se) 77 Fr) 78 Co) 79 fc) 80 cc) 77 ((2 * (cc (n))).toNat) (m_land (St ((2 * (cc (n))).toNat)) (m_lxor (Se ((2 * (cc (n))).toNat)) (-1)))) 76 ((2 * (cc (n))).toNat) (m_lor (Se ((2 * (cc (n))).toNat)) (m_land (St ((2 * (cc (n))).toNat)) (m_lxor (Se ((2 * (cc (n))).toNat)) (-1))))) 78 ((2 * (cc (n))).toNat) (0)) 77 ((2 * (cc (n)) + 1).toNat) (m_land (St ((2 * (cc (n)) + 1).toNat)) (m_lxor (Se ((2 * (cc (n)) + 1).toNat)) (-1)))) c s) _
                    rw [(show (m_set (m_set (m_set (m_set (m_upd (m_upd (m_upd (m_upd (m_upd (m_upd (m_upd μ 74 H) 75 St) 76 Se) 77 Fr) 78 Co) 79 fc) 80 cc) 77 ((2 * (cc (n))).toNat) (m_land (St ((2 * (cc (n))).toNat)) (m_lxor (Se ((2 * (cc (n))).toNat)) (-1)))) 76 ((2 * (cc (n))).toNat) (m_lor (Se ((2 * (cc (n))).toNat)) (m_land (St ((2 * (cc (n))).toNat)) (m_lxor (Se ((2 * (cc (n))).toNat)) (-1))))) 78 ((2 * (cc (n))).toNat) (0)) 77 ((2 * (cc (n)) + 1).toNat) (m_land (St ((2 * (cc (n)) + 1).toNat)) (m_lxor (Se ((2 * (cc (n)) + 1).toNat)) (-1)))) 76 ((2 * (cc (n)) + 1).toNat) = Se ((2 * (cc (n)) + 1).toNat) from by rw [row_set (show ¬ 76 = 77 by decide), row_set (show ¬ 76 = 78 by decide), row_set_eq]; exact fs_ne (by omega))]
                    refine rn_aload_n (k' := 61) rfl rfl rfl ?_
                    refine rn_getR (k' := 62) rfl rfl K0_74 (by decide) rfl R0_74_3 ?_
                    refine rn_iload (k' := 63) rfl rfl rfl ?_
                    refine rn_laload (k' := 64) rfl rfl K0_77 (by omega) (by omega) ?_
                    show Rn PT none kX1_arrive 64 [some (mR 74), some (mI (l)), some (mI ((n : Int))), some (mI (cc (n))), some (mI (1)), some (mI (2 * (cc (n)) + 1))] [mJ ((m_set (m_set (m_set (m_set (m_upd (m_upd (m_upd (m_upd (m_upd (m_upd (m_upd μ 74 H) 75 St) 76 Se) 77 Fr) 78 Co) 79 fc) 80 cc) 77 ((2 * (cc (n))).toNat) (m_land (St ((2 * (cc (n))).toNat)) (m_lxor (Se ((2 * (cc (n))).toNat)) (-1)))) 76 ((2 * (cc (n))).toNat) (m_lor (Se ((2 * (cc (n))).toNat)) (m_land (St ((2 * (cc (n))).toNat)) (m_lxor (Se ((2 * (cc (n))).toNat)) (-1))))) 78 ((2 * (cc (n))).toNat) (0)) 77 ((2 * (cc (n)) + 1).toNat) (m_land (St ((2 * (cc (n)) + 1).toNat)) (m_lxor (Se ((2 * (cc (n)) + 1).toNat)) (-1)))) 77 ((2 * (cc (n)) + 1).toNat)), mJ (Se ((2 * (cc (n)) + 1).toNat)), mI (2 * (cc (n)) + 1), mR 76] (mkh (m_set (m_set (m_set (m_set (m_upd (m_upd (m_upd (m_upd (m_upd (m_upd (m_upd μ 74 H) 75 St) 76 Se) 77 Fr) 78 Co) 79 fc) 80 cc) 77 ((2 * (cc (n))).toNat) (m_land (St ((2 * (cc (n))).toNat)) (m_lxor (Se ((2 * (cc (n))).toNat)) (-1)))) 76 ((2 * (cc (n))).toNat) (m_lor (Se ((2 * (cc (n))).toNat)) (m_land (St ((2 * (cc (n))).toNat)) (m_lxor (Se ((2 * (cc (n))).toNat)) (-1))))) 78 ((2 * (cc (n))).toNat) (0)) 77 ((2 * (cc (n)) + 1).toNat) (m_land (St ((2 * (cc (n)) + 1).toNat)) (m_lxor (Se ((2 * (cc (n)) + 1).toNat)) (-1)))) c s) _
                    rw [(show (m_set (m_set (m_set (m_set (m_upd (m_upd (m_upd (m_upd (m_upd (m_upd (m_upd μ 74 H) 75 St) 76 Se) 77 Fr) 78 Co) 79 fc) 80 cc) 77 ((2 * (cc (n))).toNat) (m_land (St ((2 * (cc (n))).toNat)) (m_lxor (Se ((2 * (cc (n))).toNat)) (-1)))) 76 ((2 * (cc (n))).toNat) (m_lor (Se ((2 * (cc (n))).toNat)) (m_land (St ((2 * (cc (n))).toNat)) (m_lxor (Se ((2 * (cc (n))).toNat)) (-1))))) 78 ((2 * (cc (n))).toNat) (0)) 77 ((2 * (cc (n)) + 1).toNat) (m_land (St ((2 * (cc (n)) + 1).toNat)) (m_lxor (Se ((2 * (cc (n)) + 1).toNat)) (-1)))) 77 ((2 * (cc (n)) + 1).toNat) = m_land (St ((2 * (cc (n)) + 1).toNat)) (m_lxor (Se ((2 * (cc (n)) + 1).toNat)) (-1)) from by rw [row_set_eq, fs_eq])]
                    refine rn_lor (k' := 65) rfl rfl ?_
                    refine rn_lastore (k' := 66) rfl rfl K0_76 (by omega) (by omega) ?_
                    refine rn_aload_n (k' := 67) rfl rfl rfl ?_
                    refine rn_getR (k' := 68) rfl rfl K0_74 (by decide) rfl R0_74_4 ?_
                    refine rn_iload (k' := 69) rfl rfl rfl ?_
                    refine rn_lconst (z := 0) (k' := 70) rfl rfl rfl ?_
                    refine rn_lastore (k' := 71) rfl rfl K0_78 (by omega) (by omega) ?_
                    refine rn_iinc (k' := 72) (L' := [some (mR 74), some (mI (l)), some (mI ((n : Int))), some (mI (cc (n))), some (mI (1)), some (mI (2 * (cc (n)) + 1 + 1))]) rfl rfl rfl (by omega) rfl ?_
                    refine rn_goto rfl ?_
                    refine rn_iload (k' := 27) rfl rfl rfl ?_
                    refine rn_iconst (k' := 28) rfl rfl ?_
                    refine rn_iload_n (k' := 29) rfl rfl rfl ?_
                    refine rn_imul (k' := 30) rfl rfl (by omega) ?_
                    refine rn_iconst (k' := 31) rfl rfl ?_
                    refine rn_iadd (k' := 32) rfl rfl (by omega) ?_
                    refine rn_icmp_gt (k' := 33) rfl rfl (fun hc14 => ?_) (fun hc14 => ?_)
                    · skip
                      refine rn_aload_n (k' := 74) rfl rfl rfl ?_
                      refine rn_getR (k' := 75) rfl rfl K0_74 (by decide) rfl R0_74_5 ?_
                      refine rn_iload_n (k' := 76) rfl rfl rfl ?_
                      refine rn_iload_n (k' := 77) rfl rfl rfl ?_
                      refine rn_iastore (k' := 78) rfl rfl K0_79 (by omega) (by omega) ?_
                      refine rn_iinc (k' := 79) (L' := [some (mR 74), some (mI (l)), some (mI ((n : Int) + 1)), some (mI (cc (n))), some (mI (1)), some (mI (2 * (cc (n)) + 1 + 1))]) rfl rfl rfl (by omega) rfl ?_
                      refine rn_goto rfl ?_
                      show Rn PT none kX1_arrive 2 [some (mR 74), some (mI (l)), some (mI ((n : Int) + 1)), some (mI (cc (n))), some (mI (1)), some (mI (2 * (cc (n)) + 1 + 1))] [] (mkh (m_set (m_set (m_set (m_set (m_set (m_set (m_set (m_upd (m_upd (m_upd (m_upd (m_upd (m_upd (m_upd μ 74 H) 75 St) 76 Se) 77 Fr) 78 Co) 79 fc) 80 cc) 77 ((2 * (cc (n))).toNat) (m_land (St ((2 * (cc (n))).toNat)) (m_lxor (Se ((2 * (cc (n))).toNat)) (-1)))) 76 ((2 * (cc (n))).toNat) (m_lor (Se ((2 * (cc (n))).toNat)) (m_land (St ((2 * (cc (n))).toNat)) (m_lxor (Se ((2 * (cc (n))).toNat)) (-1))))) 78 ((2 * (cc (n))).toNat) (0)) 77 ((2 * (cc (n)) + 1).toNat) (m_land (St ((2 * (cc (n)) + 1).toNat)) (m_lxor (Se ((2 * (cc (n)) + 1).toNat)) (-1)))) 76 ((2 * (cc (n)) + 1).toNat) (m_lor (Se ((2 * (cc (n)) + 1).toNat)) (m_land (St ((2 * (cc (n)) + 1).toNat)) (m_lxor (Se ((2 * (cc (n)) + 1).toNat)) (-1))))) 78 ((2 * (cc (n)) + 1).toNat) (0)) 79 n (cc (n))) c s) _
                      rw [upd7_of (μ := μ) (ν := (m_set (m_set (m_set (m_set (m_set (m_set (m_set (m_upd (m_upd (m_upd (m_upd (m_upd (m_upd (m_upd μ 74 H) 75 St) 76 Se) 77 Fr) 78 Co) 79 fc) 80 cc) 77 ((2 * (cc (n))).toNat) (m_land (St ((2 * (cc (n))).toNat)) (m_lxor (Se ((2 * (cc (n))).toNat)) (-1)))) 76 ((2 * (cc (n))).toNat) (m_lor (Se ((2 * (cc (n))).toNat)) (m_land (St ((2 * (cc (n))).toNat)) (m_lxor (Se ((2 * (cc (n))).toNat)) (-1))))) 78 ((2 * (cc (n))).toNat) (0)) 77 ((2 * (cc (n)) + 1).toNat) (m_land (St ((2 * (cc (n)) + 1).toNat)) (m_lxor (Se ((2 * (cc (n)) + 1).toNat)) (-1)))) 76 ((2 * (cc (n)) + 1).toNat) (m_lor (Se ((2 * (cc (n)) + 1).toNat)) (m_land (St ((2 * (cc (n)) + 1).toNat)) (m_lxor (Se ((2 * (cc (n)) + 1).toNat)) (-1))))) 78 ((2 * (cc (n)) + 1).toNat) (0)) 79 n (cc (n)))) (fun b hb74 hb75 hb76 hb77 hb78 hb79 hb80 => ((row_set hb79).trans ((row_set hb78).trans ((row_set hb76).trans ((row_set hb77).trans ((row_set hb78).trans ((row_set hb76).trans ((row_set hb77).trans ((row_upd hb80).trans ((row_upd hb79).trans ((row_upd hb78).trans ((row_upd hb77).trans ((row_upd hb76).trans ((row_upd hb75).trans (row_upd hb74)))))))))))))))]
                      have q77 : (m_set (m_set (m_set (m_set (m_set (m_set (m_set (m_upd (m_upd (m_upd (m_upd (m_upd (m_upd (m_upd μ 74 H) 75 St) 76 Se) 77 Fr) 78 Co) 79 fc) 80 cc) 77 ((2 * (cc (n))).toNat) (m_land (St ((2 * (cc (n))).toNat)) (m_lxor (Se ((2 * (cc (n))).toNat)) (-1)))) 76 ((2 * (cc (n))).toNat) (m_lor (Se ((2 * (cc (n))).toNat)) (m_land (St ((2 * (cc (n))).toNat)) (m_lxor (Se ((2 * (cc (n))).toNat)) (-1))))) 78 ((2 * (cc (n))).toNat) (0)) 77 ((2 * (cc (n)) + 1).toNat) (m_land (St ((2 * (cc (n)) + 1).toNat)) (m_lxor (Se ((2 * (cc (n)) + 1).toNat)) (-1)))) 76 ((2 * (cc (n)) + 1).toNat) (m_lor (Se ((2 * (cc (n)) + 1).toNat)) (m_land (St ((2 * (cc (n)) + 1).toNat)) (m_lxor (Se ((2 * (cc (n)) + 1).toNat)) (-1))))) 78 ((2 * (cc (n)) + 1).toNat) (0)) 79 n (cc (n))) 77 = fs (fs Fr (2 * cc n).toNat (m_land (St ((2 * (cc (n))).toNat)) (m_lxor (Se ((2 * (cc (n))).toNat)) (-1)))) ((2 * cc n) + 1).toNat (m_land (St ((2 * (cc (n)) + 1).toNat)) (m_lxor (Se ((2 * (cc (n)) + 1).toNat)) (-1))) := by
                        rw [row_set (show ¬ 77 = 79 by decide), row_set (show ¬ 77 = 78 by decide), row_set (show ¬ 77 = 76 by decide), row_set_eq, row_set (show ¬ 77 = 78 by decide), row_set (show ¬ 77 = 76 by decide), row_set_eq]
                        rfl
                      have q76 : (m_set (m_set (m_set (m_set (m_set (m_set (m_set (m_upd (m_upd (m_upd (m_upd (m_upd (m_upd (m_upd μ 74 H) 75 St) 76 Se) 77 Fr) 78 Co) 79 fc) 80 cc) 77 ((2 * (cc (n))).toNat) (m_land (St ((2 * (cc (n))).toNat)) (m_lxor (Se ((2 * (cc (n))).toNat)) (-1)))) 76 ((2 * (cc (n))).toNat) (m_lor (Se ((2 * (cc (n))).toNat)) (m_land (St ((2 * (cc (n))).toNat)) (m_lxor (Se ((2 * (cc (n))).toNat)) (-1))))) 78 ((2 * (cc (n))).toNat) (0)) 77 ((2 * (cc (n)) + 1).toNat) (m_land (St ((2 * (cc (n)) + 1).toNat)) (m_lxor (Se ((2 * (cc (n)) + 1).toNat)) (-1)))) 76 ((2 * (cc (n)) + 1).toNat) (m_lor (Se ((2 * (cc (n)) + 1).toNat)) (m_land (St ((2 * (cc (n)) + 1).toNat)) (m_lxor (Se ((2 * (cc (n)) + 1).toNat)) (-1))))) 78 ((2 * (cc (n)) + 1).toNat) (0)) 79 n (cc (n))) 76 = fs (fs Se (2 * cc n).toNat (m_lor (Se (2 * cc n).toNat) (m_land (St ((2 * (cc (n))).toNat)) (m_lxor (Se ((2 * (cc (n))).toNat)) (-1))))) ((2 * cc n) + 1).toNat (m_lor (Se ((2 * cc n) + 1).toNat) (m_land (St ((2 * (cc (n)) + 1).toNat)) (m_lxor (Se ((2 * (cc (n)) + 1).toNat)) (-1)))) := by
                        rw [row_set (show ¬ 76 = 79 by decide), row_set (show ¬ 76 = 78 by decide), row_set_eq, row_set (show ¬ 76 = 77 by decide), row_set (show ¬ 76 = 78 by decide), row_set_eq, row_set (show ¬ 76 = 77 by decide)]
                        rfl
                      have q78 : (m_set (m_set (m_set (m_set (m_set (m_set (m_set (m_upd (m_upd (m_upd (m_upd (m_upd (m_upd (m_upd μ 74 H) 75 St) 76 Se) 77 Fr) 78 Co) 79 fc) 80 cc) 77 ((2 * (cc (n))).toNat) (m_land (St ((2 * (cc (n))).toNat)) (m_lxor (Se ((2 * (cc (n))).toNat)) (-1)))) 76 ((2 * (cc (n))).toNat) (m_lor (Se ((2 * (cc (n))).toNat)) (m_land (St ((2 * (cc (n))).toNat)) (m_lxor (Se ((2 * (cc (n))).toNat)) (-1))))) 78 ((2 * (cc (n))).toNat) (0)) 77 ((2 * (cc (n)) + 1).toNat) (m_land (St ((2 * (cc (n)) + 1).toNat)) (m_lxor (Se ((2 * (cc (n)) + 1).toNat)) (-1)))) 76 ((2 * (cc (n)) + 1).toNat) (m_lor (Se ((2 * (cc (n)) + 1).toNat)) (m_land (St ((2 * (cc (n)) + 1).toNat)) (m_lxor (Se ((2 * (cc (n)) + 1).toNat)) (-1))))) 78 ((2 * (cc (n)) + 1).toNat) (0)) 79 n (cc (n))) 78 = fs (fs Co (2 * cc n).toNat 0) ((2 * cc n) + 1).toNat 0 := by
                        rw [row_set (show ¬ 78 = 79 by decide), row_set_eq, row_set (show ¬ 78 = 76 by decide), row_set (show ¬ 78 = 77 by decide), row_set_eq, row_set (show ¬ 78 = 76 by decide), row_set (show ¬ 78 = 77 by decide)]
                        rfl
                      have q79 : (m_set (m_set (m_set (m_set (m_set (m_set (m_set (m_upd (m_upd (m_upd (m_upd (m_upd (m_upd (m_upd μ 74 H) 75 St) 76 Se) 77 Fr) 78 Co) 79 fc) 80 cc) 77 ((2 * (cc (n))).toNat) (m_land (St ((2 * (cc (n))).toNat)) (m_lxor (Se ((2 * (cc (n))).toNat)) (-1)))) 76 ((2 * (cc (n))).toNat) (m_lor (Se ((2 * (cc (n))).toNat)) (m_land (St ((2 * (cc (n))).toNat)) (m_lxor (Se ((2 * (cc (n))).toNat)) (-1))))) 78 ((2 * (cc (n))).toNat) (0)) 77 ((2 * (cc (n)) + 1).toNat) (m_land (St ((2 * (cc (n)) + 1).toNat)) (m_lxor (Se ((2 * (cc (n)) + 1).toNat)) (-1)))) 76 ((2 * (cc (n)) + 1).toNat) (m_lor (Se ((2 * (cc (n)) + 1).toNat)) (m_land (St ((2 * (cc (n)) + 1).toNat)) (m_lxor (Se ((2 * (cc (n)) + 1).toNat)) (-1))))) 78 ((2 * (cc (n)) + 1).toNat) (0)) 79 n (cc (n))) 79 = fs fc n (cc n) := by
                        rw [row_set_eq, row_set (show ¬ 79 = 78 by decide), row_set (show ¬ 79 = 76 by decide), row_set (show ¬ 79 = 77 by decide), row_set (show ¬ 79 = 78 by decide), row_set (show ¬ 79 = 76 by decide), row_set (show ¬ 79 = 77 by decide)]
                        rfl
                      have q74 : (m_set (m_set (m_set (m_set (m_set (m_set (m_set (m_upd (m_upd (m_upd (m_upd (m_upd (m_upd (m_upd μ 74 H) 75 St) 76 Se) 77 Fr) 78 Co) 79 fc) 80 cc) 77 ((2 * (cc (n))).toNat) (m_land (St ((2 * (cc (n))).toNat)) (m_lxor (Se ((2 * (cc (n))).toNat)) (-1)))) 76 ((2 * (cc (n))).toNat) (m_lor (Se ((2 * (cc (n))).toNat)) (m_land (St ((2 * (cc (n))).toNat)) (m_lxor (Se ((2 * (cc (n))).toNat)) (-1))))) 78 ((2 * (cc (n))).toNat) (0)) 77 ((2 * (cc (n)) + 1).toNat) (m_land (St ((2 * (cc (n)) + 1).toNat)) (m_lxor (Se ((2 * (cc (n)) + 1).toNat)) (-1)))) 76 ((2 * (cc (n)) + 1).toNat) (m_lor (Se ((2 * (cc (n)) + 1).toNat)) (m_land (St ((2 * (cc (n)) + 1).toNat)) (m_lxor (Se ((2 * (cc (n)) + 1).toNat)) (-1))))) 78 ((2 * (cc (n)) + 1).toNat) (0)) 79 n (cc (n))) 74 = H := by
                        rw [row_set (show ¬ 74 = 79 by decide), row_set (show ¬ 74 = 78 by decide), row_set (show ¬ 74 = 76 by decide), row_set (show ¬ 74 = 77 by decide), row_set (show ¬ 74 = 78 by decide), row_set (show ¬ 74 = 76 by decide), row_set (show ¬ 74 = 77 by decide)]
                        rfl
                      have q75 : (m_set (m_set (m_set (m_set (m_set (m_set (m_set (m_upd (m_upd (m_upd (m_upd (m_upd (m_upd (m_upd μ 74 H) 75 St) 76 Se) 77 Fr) 78 Co) 79 fc) 80 cc) 77 ((2 * (cc (n))).toNat) (m_land (St ((2 * (cc (n))).toNat)) (m_lxor (Se ((2 * (cc (n))).toNat)) (-1)))) 76 ((2 * (cc (n))).toNat) (m_lor (Se ((2 * (cc (n))).toNat)) (m_land (St ((2 * (cc (n))).toNat)) (m_lxor (Se ((2 * (cc (n))).toNat)) (-1))))) 78 ((2 * (cc (n))).toNat) (0)) 77 ((2 * (cc (n)) + 1).toNat) (m_land (St ((2 * (cc (n)) + 1).toNat)) (m_lxor (Se ((2 * (cc (n)) + 1).toNat)) (-1)))) 76 ((2 * (cc (n)) + 1).toNat) (m_lor (Se ((2 * (cc (n)) + 1).toNat)) (m_land (St ((2 * (cc (n)) + 1).toNat)) (m_lxor (Se ((2 * (cc (n)) + 1).toNat)) (-1))))) 78 ((2 * (cc (n)) + 1).toNat) (0)) 79 n (cc (n))) 75 = St := by
                        rw [row_set (show ¬ 75 = 79 by decide), row_set (show ¬ 75 = 78 by decide), row_set (show ¬ 75 = 76 by decide), row_set (show ¬ 75 = 77 by decide), row_set (show ¬ 75 = 78 by decide), row_set (show ¬ 75 = 76 by decide), row_set (show ¬ 75 = 77 by decide)]
                        rfl
                      have q80 : (m_set (m_set (m_set (m_set (m_set (m_set (m_set (m_upd (m_upd (m_upd (m_upd (m_upd (m_upd (m_upd μ 74 H) 75 St) 76 Se) 77 Fr) 78 Co) 79 fc) 80 cc) 77 ((2 * (cc (n))).toNat) (m_land (St ((2 * (cc (n))).toNat)) (m_lxor (Se ((2 * (cc (n))).toNat)) (-1)))) 76 ((2 * (cc (n))).toNat) (m_lor (Se ((2 * (cc (n))).toNat)) (m_land (St ((2 * (cc (n))).toNat)) (m_lxor (Se ((2 * (cc (n))).toNat)) (-1))))) 78 ((2 * (cc (n))).toNat) (0)) 77 ((2 * (cc (n)) + 1).toNat) (m_land (St ((2 * (cc (n)) + 1).toNat)) (m_lxor (Se ((2 * (cc (n)) + 1).toNat)) (-1)))) 76 ((2 * (cc (n)) + 1).toNat) (m_lor (Se ((2 * (cc (n)) + 1).toNat)) (m_land (St ((2 * (cc (n)) + 1).toNat)) (m_lxor (Se ((2 * (cc (n)) + 1).toNat)) (-1))))) 78 ((2 * (cc (n)) + 1).toNat) (0)) 79 n (cc (n))) 80 = cc := by
                        rw [row_set (show ¬ 80 = 79 by decide), row_set (show ¬ 80 = 78 by decide), row_set (show ¬ 80 = 76 by decide), row_set (show ¬ 80 = 77 by decide), row_set (show ¬ 80 = 78 by decide), row_set (show ¬ 80 = 76 by decide), row_set (show ¬ 80 = 77 by decide)]
                        rfl
                      rw [q74, q75, q76, q77, q78, q79, q80]
                      exact ih (n + 1) _ _ _ _ _ _ _ _ (by omega) (by omega) (ai_step (fun y hy => g_cell_b hL hy) hP (by omega) hA (Or.inl ⟨⟨by omega, by assumption⟩, rfl, rfl⟩))
                    · exfalso; omega
        · refine rn_callP (k' := 17) (y := 37) (vs := [mR 6, mI (cc (n))]) (S' := []) (v := some (mI 0)) (h' := mkh (m_upd (m_upd (m_upd (m_upd (m_upd (m_upd (m_upd μ 74 H) 75 St) 76 Se) 77 Fr) 78 Co) 79 fc) 80 cc) c s) rfl rfl rfl (by have hz : Cl PT 37 [mR 6, mI (cc (n))] (mkh (m_upd (m_upd (m_upd (m_upd (m_upd (m_upd (m_upd μ 74 H) 75 St) 76 Se) 77 Fr) 78 Co) 79 fc) 80 cc) c s) (fun r => r = (some (some (mI (if ¬ μ 8 (200 + cc n).toNat = -1 then 1 else 0))), mkh (m_upd (m_upd (m_upd (m_upd (m_upd (m_upd (m_upd μ 74 H) 75 St) 76 Se) 77 Fr) 78 Co) 79 fc) 80 cc) c s)) := k_hasLadder (μ := (m_upd (m_upd (m_upd (m_upd (m_upd (m_upd (m_upd μ 74 H) 75 St) 76 Se) 77 Fr) 78 Co) 79 fc) 80 cc)) (c := c) (s := s) ((((((((hL).upd rfl).upd rfl).upd rfl).upd rfl).upd rfl).upd rfl).upd rfl) (a := cc n) (by omega); rw [if_neg hq8] at hz; exact hz) ?_
          show Rn PT none kX1_arrive 17 [some (mR 74), some (mI (l)), some (mI ((n : Int))), some (mI (cc (n))), v4, v5] [mI (0)] (mkh (m_upd (m_upd (m_upd (m_upd (m_upd (m_upd (m_upd μ 74 H) 75 St) 76 Se) 77 Fr) 78 Co) 79 fc) 80 cc) c s) _
          refine rn_if_eq (k' := 18) rfl rfl (fun hc15 => ?_) (fun hc15 => ?_)
          · skip
            refine rn_iconst (k' := 21) rfl rfl ?_
            refine rn_istore (k' := 22) (L' := [some (mR 74), some (mI (l)), some (mI ((n : Int))), some (mI (cc (n))), some (mI (0)), v5]) rfl rfl (Nat.le_of_ble_eq_true rfl) rfl ?_
            refine rn_iconst (k' := 23) rfl rfl ?_
            refine rn_iload_n (k' := 24) rfl rfl rfl ?_
            refine rn_imul (k' := 25) rfl rfl (by omega) ?_
            refine rn_istore (k' := 26) (L' := [some (mR 74), some (mI (l)), some (mI ((n : Int))), some (mI (cc (n))), some (mI (0)), some (mI (2 * (cc (n))))]) rfl rfl (Nat.le_of_ble_eq_true rfl) rfl ?_
            refine rn_iload (k' := 27) rfl rfl rfl ?_
            refine rn_iconst (k' := 28) rfl rfl ?_
            refine rn_iload_n (k' := 29) rfl rfl rfl ?_
            refine rn_imul (k' := 30) rfl rfl (by omega) ?_
            refine rn_iconst (k' := 31) rfl rfl ?_
            refine rn_iadd (k' := 32) rfl rfl (by omega) ?_
            refine rn_icmp_gt (k' := 33) rfl rfl (fun hc16 => ?_) (fun hc16 => ?_)
            · exfalso; omega
            · skip
              refine rn_aload_n (k' := 34) rfl rfl rfl ?_
              refine rn_getR (k' := 35) rfl rfl K0_74 (by decide) rfl R0_74_3 ?_
              refine rn_iload (k' := 36) rfl rfl rfl ?_
              refine rn_iload (k' := 37) rfl rfl rfl ?_
              refine rn_if_eq (k' := 38) rfl rfl (fun hc17 => ?_) (fun hc17 => ?_)
              · skip
                refine rn_aload_n (k' := 51) rfl rfl rfl ?_
                refine rn_getR (k' := 52) rfl rfl K0_74 (by decide) rfl R0_74_4 ?_
                refine rn_iload (k' := 53) rfl rfl rfl ?_
                refine rn_laload (k' := 54) rfl rfl K0_78 (by omega) (by omega) ?_
                show Rn PT none kX1_arrive 54 [some (mR 74), some (mI (l)), some (mI ((n : Int))), some (mI (cc (n))), some (mI (0)), some (mI (2 * (cc (n))))] [mJ (Co ((2 * (cc (n))).toNat)), mI (2 * (cc (n))), mR 77] (mkh (m_upd (m_upd (m_upd (m_upd (m_upd (m_upd (m_upd μ 74 H) 75 St) 76 Se) 77 Fr) 78 Co) 79 fc) 80 cc) c s) _
                refine rn_lastore (k' := 55) rfl rfl K0_77 (by omega) (by omega) ?_
                refine rn_aload_n (k' := 56) rfl rfl rfl ?_
                refine rn_getR (k' := 57) rfl rfl K0_74 (by decide) rfl R0_74_2 ?_
                refine rn_iload (k' := 58) rfl rfl rfl ?_
                refine rn_dup2 (k' := 59) rfl rfl ?_
                refine rn_laload (k' := 60) rfl rfl K0_76 (by omega) (by omega) ?_
                show Rn PT none kX1_arrive 60 [some (mR 74), some (mI (l)), some (mI ((n : Int))), some (mI (cc (n))), some (mI (0)), some (mI (2 * (cc (n))))] [mJ (Se ((2 * (cc (n))).toNat)), mI (2 * (cc (n))), mR 76] (mkh (m_set (m_upd (m_upd (m_upd (m_upd (m_upd (m_upd (m_upd μ 74 H) 75 St) 76 Se) 77 Fr) 78 Co) 79 fc) 80 cc) 77 ((2 * (cc (n))).toNat) (Co ((2 * (cc (n))).toNat))) c s) _
                refine rn_aload_n (k' := 61) rfl rfl rfl ?_
                refine rn_getR (k' := 62) rfl rfl K0_74 (by decide) rfl R0_74_3 ?_
                refine rn_iload (k' := 63) rfl rfl rfl ?_
                refine rn_laload (k' := 64) rfl rfl K0_77 (by omega) (by omega) ?_
                show Rn PT none kX1_arrive 64 [some (mR 74), some (mI (l)), some (mI ((n : Int))), some (mI (cc (n))), some (mI (0)), some (mI (2 * (cc (n))))] [mJ ((m_set (m_upd (m_upd (m_upd (m_upd (m_upd (m_upd (m_upd μ 74 H) 75 St) 76 Se) 77 Fr) 78 Co) 79 fc) 80 cc) 77 ((2 * (cc (n))).toNat) (Co ((2 * (cc (n))).toNat))) 77 ((2 * (cc (n))).toNat)), mJ (Se ((2 * (cc (n))).toNat)), mI (2 * (cc (n))), mR 76] (mkh (m_set (m_upd (m_upd (m_upd (m_upd (m_upd (m_upd (m_upd μ 74 H) 75 St) 76 Se) 77 Fr) 78 Co) 79 fc) 80 cc) 77 ((2 * (cc (n))).toNat) (Co ((2 * (cc (n))).toNat))) c s) _
                rw [(show (m_set (m_upd (m_upd (m_upd (m_upd (m_upd (m_upd (m_upd μ 74 H) 75 St) 76 Se) 77 Fr) 78 Co) 79 fc) 80 cc) 77 ((2 * (cc (n))).toNat) (Co ((2 * (cc (n))).toNat))) 77 ((2 * (cc (n))).toNat) = Co ((2 * (cc (n))).toNat) from by rw [row_set_eq, fs_eq])]
                refine rn_lor (k' := 65) rfl rfl ?_
                refine rn_lastore (k' := 66) rfl rfl K0_76 (by omega) (by omega) ?_
                refine rn_aload_n (k' := 67) rfl rfl rfl ?_
                refine rn_getR (k' := 68) rfl rfl K0_74 (by decide) rfl R0_74_4 ?_
                refine rn_iload (k' := 69) rfl rfl rfl ?_
                refine rn_lconst (z := 0) (k' := 70) rfl rfl rfl ?_
                refine rn_lastore (k' := 71) rfl rfl K0_78 (by omega) (by omega) ?_
                refine rn_iinc (k' := 72) (L' := [some (mR 74), some (mI (l)), some (mI ((n : Int))), some (mI (cc (n))), some (mI (0)), some (mI (2 * (cc (n)) + 1))]) rfl rfl rfl (by omega) rfl ?_
                refine rn_goto rfl ?_
                refine rn_iload (k' := 27) rfl rfl rfl ?_
                refine rn_iconst (k' := 28) rfl rfl ?_
                refine rn_iload_n (k' := 29) rfl rfl rfl ?_
                refine rn_imul (k' := 30) rfl rfl (by omega) ?_
                refine rn_iconst (k' := 31) rfl rfl ?_
                refine rn_iadd (k' := 32) rfl rfl (by omega) ?_
                refine rn_icmp_gt (k' := 33) rfl rfl (fun hc18 => ?_) (fun hc18 => ?_)
                · exfalso; omega
                · skip
                  refine rn_aload_n (k' := 34) rfl rfl rfl ?_
                  refine rn_getR (k' := 35) rfl rfl K0_74 (by decide) rfl R0_74_3 ?_
                  refine rn_iload (k' := 36) rfl rfl rfl ?_
                  refine rn_iload (k' := 37) rfl rfl rfl ?_
                  refine rn_if_eq (k' := 38) rfl rfl (fun hc19 => ?_) (fun hc19 => ?_)
                  · skip
                    refine rn_aload_n (k' := 51) rfl rfl rfl ?_
                    refine rn_getR (k' := 52) rfl rfl K0_74 (by decide) rfl R0_74_4 ?_
                    refine rn_iload (k' := 53) rfl rfl rfl ?_
                    refine rn_laload (k' := 54) rfl rfl K0_78 (by omega) (by omega) ?_
                    show Rn PT none kX1_arrive 54 [some (mR 74), some (mI (l)), some (mI ((n : Int))), some (mI (cc (n))), some (mI (0)), some (mI (2 * (cc (n)) + 1))] [mJ ((m_set (m_set (m_set (m_upd (m_upd (m_upd (m_upd (m_upd (m_upd (m_upd μ 74 H) 75 St) 76 Se) 77 Fr) 78 Co) 79 fc) 80 cc) 77 ((2 * (cc (n))).toNat) (Co ((2 * (cc (n))).toNat))) 76 ((2 * (cc (n))).toNat) (m_lor (Se ((2 * (cc (n))).toNat)) (Co ((2 * (cc (n))).toNat)))) 78 ((2 * (cc (n))).toNat) (0)) 78 ((2 * (cc (n)) + 1).toNat)), mI (2 * (cc (n)) + 1), mR 77] (mkh (m_set (m_set (m_set (m_upd (m_upd (m_upd (m_upd (m_upd (m_upd (m_upd μ 74 H) 75 St) 76 Se) 77 Fr) 78 Co) 79 fc) 80 cc) 77 ((2 * (cc (n))).toNat) (Co ((2 * (cc (n))).toNat))) 76 ((2 * (cc (n))).toNat) (m_lor (Se ((2 * (cc (n))).toNat)) (Co ((2 * (cc (n))).toNat)))) 78 ((2 * (cc (n))).toNat) (0)) c s) _
                    rw [(show (m_set (m_set (m_set (m_upd (m_upd (m_upd (m_upd (m_upd (m_upd (m_upd μ 74 H) 75 St) 76 Se) 77 Fr) 78 Co) 79 fc) 80 cc) 77 ((2 * (cc (n))).toNat) (Co ((2 * (cc (n))).toNat))) 76 ((2 * (cc (n))).toNat) (m_lor (Se ((2 * (cc (n))).toNat)) (Co ((2 * (cc (n))).toNat)))) 78 ((2 * (cc (n))).toNat) (0)) 78 ((2 * (cc (n)) + 1).toNat) = Co ((2 * (cc (n)) + 1).toNat) from by rw [row_set_eq]; exact fs_ne (by omega))]
                    refine rn_lastore (k' := 55) rfl rfl K0_77 (by omega) (by omega) ?_
                    refine rn_aload_n (k' := 56) rfl rfl rfl ?_
                    refine rn_getR (k' := 57) rfl rfl K0_74 (by decide) rfl R0_74_2 ?_
                    refine rn_iload (k' := 58) rfl rfl rfl ?_
                    refine rn_dup2 (k' := 59) rfl rfl ?_
                    refine rn_laload (k' := 60) rfl rfl K0_76 (by omega) (by omega) ?_
                    show Rn PT none kX1_arrive 60 [some (mR 74), some (mI (l)), some (mI ((n : Int))), some (mI (cc (n))), some (mI (0)), some (mI (2 * (cc (n)) + 1))] [mJ ((m_set (m_set (m_set (m_set (m_upd (m_upd (m_upd (m_upd (m_upd (m_upd (m_upd μ 74 H) 75 St) 76 Se) 77 Fr) 78 Co) 79 fc) 80 cc) 77 ((2 * (cc (n))).toNat) (Co ((2 * (cc (n))).toNat))) 76 ((2 * (cc (n))).toNat) (m_lor (Se ((2 * (cc (n))).toNat)) (Co ((2 * (cc (n))).toNat)))) 78 ((2 * (cc (n))).toNat) (0)) 77 ((2 * (cc (n)) + 1).toNat) (Co ((2 * (cc (n)) + 1).toNat))) 76 ((2 * (cc (n)) + 1).toNat)), mI (2 * (cc (n)) + 1), mR 76] (mkh (m_set (m_set (m_set (m_set (m_upd (m_upd (m_upd (m_upd (m_upd (m_upd (m_upd μ 74 H) 75 St) 76 Se) 77 Fr) 78 Co) 79 fc) 80 cc) 77 ((2 * (cc (n))).toNat) (Co ((2 * (cc (n))).toNat))) 76 ((2 * (cc (n))).toNat) (m_lor (Se ((2 * (cc (n))).toNat)) (Co ((2 * (cc (n))).toNat)))) 78 ((2 * (cc (n))).toNat) (0)) 77 ((2 * (cc (n)) + 1).toNat) (Co ((2 * (cc (n)) + 1).toNat))) c s) _
                    rw [(show (m_set (m_set (m_set (m_set (m_upd (m_upd (m_upd (m_upd (m_upd (m_upd (m_upd μ 74 H) 75 St) 76 Se) 77 Fr) 78 Co) 79 fc) 80 cc) 77 ((2 * (cc (n))).toNat) (Co ((2 * (cc (n))).toNat))) 76 ((2 * (cc (n))).toNat) (m_lor (Se ((2 * (cc (n))).toNat)) (Co ((2 * (cc (n))).toNat)))) 78 ((2 * (cc (n))).toNat) (0)) 77 ((2 * (cc (n)) + 1).toNat) (Co ((2 * (cc (n)) + 1).toNat))) 76 ((2 * (cc (n)) + 1).toNat) = Se ((2 * (cc (n)) + 1).toNat) from by rw [row_set (show ¬ 76 = 77 by decide), row_set (show ¬ 76 = 78 by decide), row_set_eq]; exact fs_ne (by omega))]
                    refine rn_aload_n (k' := 61) rfl rfl rfl ?_
                    refine rn_getR (k' := 62) rfl rfl K0_74 (by decide) rfl R0_74_3 ?_
                    refine rn_iload (k' := 63) rfl rfl rfl ?_
                    refine rn_laload (k' := 64) rfl rfl K0_77 (by omega) (by omega) ?_
                    show Rn PT none kX1_arrive 64 [some (mR 74), some (mI (l)), some (mI ((n : Int))), some (mI (cc (n))), some (mI (0)), some (mI (2 * (cc (n)) + 1))] [mJ ((m_set (m_set (m_set (m_set (m_upd (m_upd (m_upd (m_upd (m_upd (m_upd (m_upd μ 74 H) 75 St) 76 Se) 77 Fr) 78 Co) 79 fc) 80 cc) 77 ((2 * (cc (n))).toNat) (Co ((2 * (cc (n))).toNat))) 76 ((2 * (cc (n))).toNat) (m_lor (Se ((2 * (cc (n))).toNat)) (Co ((2 * (cc (n))).toNat)))) 78 ((2 * (cc (n))).toNat) (0)) 77 ((2 * (cc (n)) + 1).toNat) (Co ((2 * (cc (n)) + 1).toNat))) 77 ((2 * (cc (n)) + 1).toNat)), mJ (Se ((2 * (cc (n)) + 1).toNat)), mI (2 * (cc (n)) + 1), mR 76] (mkh (m_set (m_set (m_set (m_set (m_upd (m_upd (m_upd (m_upd (m_upd (m_upd (m_upd μ 74 H) 75 St) 76 Se) 77 Fr) 78 Co) 79 fc) 80 cc) 77 ((2 * (cc (n))).toNat) (Co ((2 * (cc (n))).toNat))) 76 ((2 * (cc (n))).toNat) (m_lor (Se ((2 * (cc (n))).toNat)) (Co ((2 * (cc (n))).toNat)))) 78 ((2 * (cc (n))).toNat) (0)) 77 ((2 * (cc (n)) + 1).toNat) (Co ((2 * (cc (n)) + 1).toNat))) c s) _
                    rw [(show (m_set (m_set (m_set (m_set (m_upd (m_upd (m_upd (m_upd (m_upd (m_upd (m_upd μ 74 H) 75 St) 76 Se) 77 Fr) 78 Co) 79 fc) 80 cc) 77 ((2 * (cc (n))).toNat) (Co ((2 * (cc (n))).toNat))) 76 ((2 * (cc (n))).toNat) (m_lor (Se ((2 * (cc (n))).toNat)) (Co ((2 * (cc (n))).toNat)))) 78 ((2 * (cc (n))).toNat) (0)) 77 ((2 * (cc (n)) + 1).toNat) (Co ((2 * (cc (n)) + 1).toNat))) 77 ((2 * (cc (n)) + 1).toNat) = Co ((2 * (cc (n)) + 1).toNat) from by rw [row_set_eq, fs_eq])]
                    refine rn_lor (k' := 65) rfl rfl ?_
                    refine rn_lastore (k' := 66) rfl rfl K0_76 (by omega) (by omega) ?_
                    refine rn_aload_n (k' := 67) rfl rfl rfl ?_
                    refine rn_getR (k' := 68) rfl rfl K0_74 (by decide) rfl R0_74_4 ?_
                    refine rn_iload (k' := 69) rfl rfl rfl ?_
                    refine rn_lconst (z := 0) (k' := 70) rfl rfl rfl ?_
                    refine rn_lastore (k' := 71) rfl rfl K0_78 (by omega) (by omega) ?_
                    refine rn_iinc (k' := 72) (L' := [some (mR 74), some (mI (l)), some (mI ((n : Int))), some (mI (cc (n))), some (mI (0)), some (mI (2 * (cc (n)) + 1 + 1))]) rfl rfl rfl (by omega) rfl ?_
                    refine rn_goto rfl ?_
                    refine rn_iload (k' := 27) rfl rfl rfl ?_
                    refine rn_iconst (k' := 28) rfl rfl ?_
                    refine rn_iload_n (k' := 29) rfl rfl rfl ?_
                    refine rn_imul (k' := 30) rfl rfl (by omega) ?_
                    refine rn_iconst (k' := 31) rfl rfl ?_
                    refine rn_iadd (k' := 32) rfl rfl (by omega) ?_
                    refine rn_icmp_gt (k' := 33) rfl rfl (fun hc20 => ?_) (fun hc20 => ?_)
                    · skip
                      refine rn_aload_n (k' := 74) rfl rfl rfl ?_
                      refine rn_getR (k' := 75) rfl rfl K0_74 (by decide) rfl R0_74_5 ?_
                      refine rn_iload_n (k' := 76) rfl rfl rfl ?_
                      refine rn_iload_n (k' := 77) rfl rfl rfl ?_
                      refine rn_iastore (k' := 78) rfl rfl K0_79 (by omega) (by omega) ?_
                      refine rn_iinc (k' := 79) (L' := [some (mR 74), some (mI (l)), some (mI ((n : Int) + 1)), some (mI (cc (n))), some (mI (0)), some (mI (2 * (cc (n)) + 1 + 1))]) rfl rfl rfl (by omega) rfl ?_
                      refine rn_goto rfl ?_
                      show Rn PT none kX1_arrive 2 [some (mR 74), some (mI (l)), some (mI ((n : Int) + 1)), some (mI (cc (n))), some (mI (0)), some (mI (2 * (cc (n)) + 1 + 1))] [] (mkh (m_set (m_set (m_set (m_set (m_set (m_set (m_set (m_upd (m_upd (m_upd (m_upd (m_upd (m_upd (m_upd μ 74 H) 75 St) 76 Se) 77 Fr) 78 Co) 79 fc) 80 cc) 77 ((2 * (cc (n))).toNat) (Co ((2 * (cc (n))).toNat))) 76 ((2 * (cc (n))).toNat) (m_lor (Se ((2 * (cc (n))).toNat)) (Co ((2 * (cc (n))).toNat)))) 78 ((2 * (cc (n))).toNat) (0)) 77 ((2 * (cc (n)) + 1).toNat) (Co ((2 * (cc (n)) + 1).toNat))) 76 ((2 * (cc (n)) + 1).toNat) (m_lor (Se ((2 * (cc (n)) + 1).toNat)) (Co ((2 * (cc (n)) + 1).toNat)))) 78 ((2 * (cc (n)) + 1).toNat) (0)) 79 n (cc (n))) c s) _
                      rw [upd7_of (μ := μ) (ν := (m_set (m_set (m_set (m_set (m_set (m_set (m_set (m_upd (m_upd (m_upd (m_upd (m_upd (m_upd (m_upd μ 74 H) 75 St) 76 Se) 77 Fr) 78 Co) 79 fc) 80 cc) 77 ((2 * (cc (n))).toNat) (Co ((2 * (cc (n))).toNat))) 76 ((2 * (cc (n))).toNat) (m_lor (Se ((2 * (cc (n))).toNat)) (Co ((2 * (cc (n))).toNat)))) 78 ((2 * (cc (n))).toNat) (0)) 77 ((2 * (cc (n)) + 1).toNat) (Co ((2 * (cc (n)) + 1).toNat))) 76 ((2 * (cc (n)) + 1).toNat) (m_lor (Se ((2 * (cc (n)) + 1).toNat)) (Co ((2 * (cc (n)) + 1).toNat)))) 78 ((2 * (cc (n)) + 1).toNat) (0)) 79 n (cc (n)))) (fun b hb74 hb75 hb76 hb77 hb78 hb79 hb80 => ((row_set hb79).trans ((row_set hb78).trans ((row_set hb76).trans ((row_set hb77).trans ((row_set hb78).trans ((row_set hb76).trans ((row_set hb77).trans ((row_upd hb80).trans ((row_upd hb79).trans ((row_upd hb78).trans ((row_upd hb77).trans ((row_upd hb76).trans ((row_upd hb75).trans (row_upd hb74)))))))))))))))]
                      have q77 : (m_set (m_set (m_set (m_set (m_set (m_set (m_set (m_upd (m_upd (m_upd (m_upd (m_upd (m_upd (m_upd μ 74 H) 75 St) 76 Se) 77 Fr) 78 Co) 79 fc) 80 cc) 77 ((2 * (cc (n))).toNat) (Co ((2 * (cc (n))).toNat))) 76 ((2 * (cc (n))).toNat) (m_lor (Se ((2 * (cc (n))).toNat)) (Co ((2 * (cc (n))).toNat)))) 78 ((2 * (cc (n))).toNat) (0)) 77 ((2 * (cc (n)) + 1).toNat) (Co ((2 * (cc (n)) + 1).toNat))) 76 ((2 * (cc (n)) + 1).toNat) (m_lor (Se ((2 * (cc (n)) + 1).toNat)) (Co ((2 * (cc (n)) + 1).toNat)))) 78 ((2 * (cc (n)) + 1).toNat) (0)) 79 n (cc (n))) 77 = fs (fs Fr (2 * cc n).toNat (Co ((2 * (cc (n))).toNat))) ((2 * cc n) + 1).toNat (Co ((2 * (cc (n)) + 1).toNat)) := by
                        rw [row_set (show ¬ 77 = 79 by decide), row_set (show ¬ 77 = 78 by decide), row_set (show ¬ 77 = 76 by decide), row_set_eq, row_set (show ¬ 77 = 78 by decide), row_set (show ¬ 77 = 76 by decide), row_set_eq]
                        rfl
                      have q76 : (m_set (m_set (m_set (m_set (m_set (m_set (m_set (m_upd (m_upd (m_upd (m_upd (m_upd (m_upd (m_upd μ 74 H) 75 St) 76 Se) 77 Fr) 78 Co) 79 fc) 80 cc) 77 ((2 * (cc (n))).toNat) (Co ((2 * (cc (n))).toNat))) 76 ((2 * (cc (n))).toNat) (m_lor (Se ((2 * (cc (n))).toNat)) (Co ((2 * (cc (n))).toNat)))) 78 ((2 * (cc (n))).toNat) (0)) 77 ((2 * (cc (n)) + 1).toNat) (Co ((2 * (cc (n)) + 1).toNat))) 76 ((2 * (cc (n)) + 1).toNat) (m_lor (Se ((2 * (cc (n)) + 1).toNat)) (Co ((2 * (cc (n)) + 1).toNat)))) 78 ((2 * (cc (n)) + 1).toNat) (0)) 79 n (cc (n))) 76 = fs (fs Se (2 * cc n).toNat (m_lor (Se (2 * cc n).toNat) (Co ((2 * (cc (n))).toNat)))) ((2 * cc n) + 1).toNat (m_lor (Se ((2 * cc n) + 1).toNat) (Co ((2 * (cc (n)) + 1).toNat))) := by
                        rw [row_set (show ¬ 76 = 79 by decide), row_set (show ¬ 76 = 78 by decide), row_set_eq, row_set (show ¬ 76 = 77 by decide), row_set (show ¬ 76 = 78 by decide), row_set_eq, row_set (show ¬ 76 = 77 by decide)]
                        rfl
                      have q78 : (m_set (m_set (m_set (m_set (m_set (m_set (m_set (m_upd (m_upd (m_upd (m_upd (m_upd (m_upd (m_upd μ 74 H) 75 St) 76 Se) 77 Fr) 78 Co) 79 fc) 80 cc) 77 ((2 * (cc (n))).toNat) (Co ((2 * (cc (n))).toNat))) 76 ((2 * (cc (n))).toNat) (m_lor (Se ((2 * (cc (n))).toNat)) (Co ((2 * (cc (n))).toNat)))) 78 ((2 * (cc (n))).toNat) (0)) 77 ((2 * (cc (n)) + 1).toNat) (Co ((2 * (cc (n)) + 1).toNat))) 76 ((2 * (cc (n)) + 1).toNat) (m_lor (Se ((2 * (cc (n)) + 1).toNat)) (Co ((2 * (cc (n)) + 1).toNat)))) 78 ((2 * (cc (n)) + 1).toNat) (0)) 79 n (cc (n))) 78 = fs (fs Co (2 * cc n).toNat 0) ((2 * cc n) + 1).toNat 0 := by
                        rw [row_set (show ¬ 78 = 79 by decide), row_set_eq, row_set (show ¬ 78 = 76 by decide), row_set (show ¬ 78 = 77 by decide), row_set_eq, row_set (show ¬ 78 = 76 by decide), row_set (show ¬ 78 = 77 by decide)]
                        rfl
                      have q79 : (m_set (m_set (m_set (m_set (m_set (m_set (m_set (m_upd (m_upd (m_upd (m_upd (m_upd (m_upd (m_upd μ 74 H) 75 St) 76 Se) 77 Fr) 78 Co) 79 fc) 80 cc) 77 ((2 * (cc (n))).toNat) (Co ((2 * (cc (n))).toNat))) 76 ((2 * (cc (n))).toNat) (m_lor (Se ((2 * (cc (n))).toNat)) (Co ((2 * (cc (n))).toNat)))) 78 ((2 * (cc (n))).toNat) (0)) 77 ((2 * (cc (n)) + 1).toNat) (Co ((2 * (cc (n)) + 1).toNat))) 76 ((2 * (cc (n)) + 1).toNat) (m_lor (Se ((2 * (cc (n)) + 1).toNat)) (Co ((2 * (cc (n)) + 1).toNat)))) 78 ((2 * (cc (n)) + 1).toNat) (0)) 79 n (cc (n))) 79 = fs fc n (cc n) := by
                        rw [row_set_eq, row_set (show ¬ 79 = 78 by decide), row_set (show ¬ 79 = 76 by decide), row_set (show ¬ 79 = 77 by decide), row_set (show ¬ 79 = 78 by decide), row_set (show ¬ 79 = 76 by decide), row_set (show ¬ 79 = 77 by decide)]
                        rfl
                      have q74 : (m_set (m_set (m_set (m_set (m_set (m_set (m_set (m_upd (m_upd (m_upd (m_upd (m_upd (m_upd (m_upd μ 74 H) 75 St) 76 Se) 77 Fr) 78 Co) 79 fc) 80 cc) 77 ((2 * (cc (n))).toNat) (Co ((2 * (cc (n))).toNat))) 76 ((2 * (cc (n))).toNat) (m_lor (Se ((2 * (cc (n))).toNat)) (Co ((2 * (cc (n))).toNat)))) 78 ((2 * (cc (n))).toNat) (0)) 77 ((2 * (cc (n)) + 1).toNat) (Co ((2 * (cc (n)) + 1).toNat))) 76 ((2 * (cc (n)) + 1).toNat) (m_lor (Se ((2 * (cc (n)) + 1).toNat)) (Co ((2 * (cc (n)) + 1).toNat)))) 78 ((2 * (cc (n)) + 1).toNat) (0)) 79 n (cc (n))) 74 = H := by
                        rw [row_set (show ¬ 74 = 79 by decide), row_set (show ¬ 74 = 78 by decide), row_set (show ¬ 74 = 76 by decide), row_set (show ¬ 74 = 77 by decide), row_set (show ¬ 74 = 78 by decide), row_set (show ¬ 74 = 76 by decide), row_set (show ¬ 74 = 77 by decide)]
                        rfl
                      have q75 : (m_set (m_set (m_set (m_set (m_set (m_set (m_set (m_upd (m_upd (m_upd (m_upd (m_upd (m_upd (m_upd μ 74 H) 75 St) 76 Se) 77 Fr) 78 Co) 79 fc) 80 cc) 77 ((2 * (cc (n))).toNat) (Co ((2 * (cc (n))).toNat))) 76 ((2 * (cc (n))).toNat) (m_lor (Se ((2 * (cc (n))).toNat)) (Co ((2 * (cc (n))).toNat)))) 78 ((2 * (cc (n))).toNat) (0)) 77 ((2 * (cc (n)) + 1).toNat) (Co ((2 * (cc (n)) + 1).toNat))) 76 ((2 * (cc (n)) + 1).toNat) (m_lor (Se ((2 * (cc (n)) + 1).toNat)) (Co ((2 * (cc (n)) + 1).toNat)))) 78 ((2 * (cc (n)) + 1).toNat) (0)) 79 n (cc (n))) 75 = St := by
                        rw [row_set (show ¬ 75 = 79 by decide), row_set (show ¬ 75 = 78 by decide), row_set (show ¬ 75 = 76 by decide), row_set (show ¬ 75 = 77 by decide), row_set (show ¬ 75 = 78 by decide), row_set (show ¬ 75 = 76 by decide), row_set (show ¬ 75 = 77 by decide)]
                        rfl
                      have q80 : (m_set (m_set (m_set (m_set (m_set (m_set (m_set (m_upd (m_upd (m_upd (m_upd (m_upd (m_upd (m_upd μ 74 H) 75 St) 76 Se) 77 Fr) 78 Co) 79 fc) 80 cc) 77 ((2 * (cc (n))).toNat) (Co ((2 * (cc (n))).toNat))) 76 ((2 * (cc (n))).toNat) (m_lor (Se ((2 * (cc (n))).toNat)) (Co ((2 * (cc (n))).toNat)))) 78 ((2 * (cc (n))).toNat) (0)) 77 ((2 * (cc (n)) + 1).toNat) (Co ((2 * (cc (n)) + 1).toNat))) 76 ((2 * (cc (n)) + 1).toNat) (m_lor (Se ((2 * (cc (n)) + 1).toNat)) (Co ((2 * (cc (n)) + 1).toNat)))) 78 ((2 * (cc (n)) + 1).toNat) (0)) 79 n (cc (n))) 80 = cc := by
                        rw [row_set (show ¬ 80 = 79 by decide), row_set (show ¬ 80 = 78 by decide), row_set (show ¬ 80 = 76 by decide), row_set (show ¬ 80 = 77 by decide), row_set (show ¬ 80 = 78 by decide), row_set (show ¬ 80 = 76 by decide), row_set (show ¬ 80 = 77 by decide)]
                        rfl
                      rw [q74, q75, q76, q77, q78, q79, q80]
                      exact ih (n + 1) _ _ _ _ _ _ _ _ (by omega) (by omega) (ai_step (fun y hy => g_cell_b hL hy) hP (by omega) hA (Or.inr ⟨fun z => by first | (have := z.1; omega) | exact absurd z.2 (by assumption), rfl, rfl⟩))
                    · exfalso; omega
                  · exfalso; omega
              · exfalso; omega
          · exfalso; omega
theorem c_arrive {μ : Nat → Nat → Int} {c s : Nat} (hL : I_land μ) {l : Int} (hl : l = 0 ∨ l = 1) {H St Se0 cc Co0 : Nat → Int} {P : Int → Nat → Prop} {m : Nat} (hH : H 8 = (m : Int)) (hP : CP (g_cell μ) P m Co0 cc) {Fr fc : Nat → Int} (hPS : ∀ x h, g_cell μ x → h < 128 → P x h → hb St x h = true ∧ ¬ hb Se0 x h = true) : Cl PT 23 [mR 74, mI l] (mkh (m_upd (m_upd (m_upd (m_upd (m_upd (m_upd (m_upd μ 74 H) 75 St) 76 Se0) 77 Fr) 78 Co0) 79 fc) 80 cc) c s) (fun r => ∃ (H1 S1 F1 C1 f1 : Nat → Int), r = (some none, mkh (m_upd (m_upd (m_upd (m_upd (m_upd (m_upd (m_upd μ 74 H1) 75 St) 76 S1) 77 F1) 78 C1) 79 f1) 80 cc) c s) ∧ H1 8 = 0 ∧ H1 7 = (m : Int) ∧ (∀ x h, g_cell μ x → h < 128 → (hb S1 x h = true ↔ (hb Se0 x h = true ∨ AF St Se0 (fun x => l = 1 ∧ ¬ μ 8 (200 + x).toNat = -1) P x h))) ∧ FSt (g_cell μ) (AF St Se0 (fun x => l = 1 ∧ ¬ μ 8 (200 + x).toNat = -1) P) m F1 f1 ∧ CP (g_cell μ) (fun _ _ => False) 0 C1 cc) := by
  refine ⟨_, PT_23, Nat.le_of_ble_eq_true rfl, ?_⟩
  show Rn PT none kX1_arrive 0 [some (mR 74), some (mI (l)), none, none, none, none] [] (mkh (m_upd (m_upd (m_upd (m_upd (m_upd (m_upd (m_upd μ 74 H) 75 St) 76 Se0) 77 Fr) 78 Co0) 79 fc) 80 cc) c s) _
  refine rn_iconst (k' := 1) rfl rfl ?_
  refine rn_istore_n (k' := 2) (L' := [some (mR 74), some (mI (l)), some (mI (0)), none, none, none]) rfl rfl (Nat.le_of_ble_eq_true rfl) rfl ?_
  refine (l_arrive hL hl hH hP m 0 _ Se0 Fr Co0 fc _ _ _ rfl (by omega) ⟨fun x h hx hh => ⟨Or.inl, fun z => z.resolve_right (fun q => by obtain ⟨⟨j, j1, -⟩, -⟩ := q; omega)⟩, fun x h hx hh => ⟨fun z => ⟨(hP.2.1 x h hx hh).mp z, fun ⟨j, j1, _⟩ => by omega⟩, fun z => (hP.2.1 x h hx hh).mpr z.1⟩, hP.2.2.2.2.2.2, fun j hj => absurd hj (Nat.not_lt_zero j), fun j h hj => absurd hj (Nat.not_lt_zero j)⟩).mono (fun r hr => ?_)
  obtain ⟨H1, S1, F1, C1, f1, e1, e2, e3, e4⟩ := hr
  exact ⟨H1, S1, F1, C1, f1, e1, e2, e3, ai_end hP hPS e4⟩
