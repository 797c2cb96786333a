variable {N : Int}
/-! ===== printed by wip/whole/gen99.py: come, stepOn, arrive ===== -/
def KF (Co : Nat → Int) (j : Nat) : Int := if m_lor (Co (2 * j)) (Co (2 * j + 1)) = 0 then -1 else 0
theorem kf_iff {Co : Nat → Int} {j : Nat} : KF Co j = -1 ↔ ∀ h, h < 128 → hb Co (j : Int) h = false := by
  have e0 : (2 * (j : Int)).toNat = 2 * j := by omega
  have e1 : ((2 * (j : Int)) + 1).toNat = 2 * j + 1 := by omega
  unfold KF hb
  rw [e0, e1, ← pb_zero]
  by_cases e : m_lor (Co (2 * j)) (Co (2 * j + 1)) = 0
  · rw [if_pos e]; exact ⟨fun _ => e, fun _ => rfl⟩
  · rw [if_neg e]; exact ⟨fun h => absurd h (by decide), fun h => absurd h e⟩
/-- who is coming: the set P, its cells listed once each -/
def CP (G : Int → Prop) (P : Int → Nat → Prop) (m : Nat) (Co cc : Nat → Int) : Prop :=
  m ≤ 100 ∧ (∀ x h, G x → h < 128 → (hb Co x h = true ↔ P x h)) ∧ (∀ j, j < m → G (cc j) ∧ ∃ h, h < 128 ∧ P (cc j) h) ∧ (∀ x h, G x → h < 128 → P x h → ∃ j, j < m ∧ cc j = x) ∧ (∀ i j, i < j → j < m → ¬ cc i = cc j) ∧ cn (KF Co) 100 = m ∧ ∀ j : Nat, j < 100 → ¬ G (j : Int) → KF Co j = -1
theorem cp_congr {G : Int → Prop} {P P' : Int → Nat → Prop} {m : Nat} {Co cc : Nat → Int} (h : CP G P m Co cc) (e : ∀ x h, G x → h < 128 → (P x h ↔ P' x h)) : CP G P' m Co cc := by
  obtain ⟨h1, h2, h3, h4, h5, h6, h7⟩ := h
  refine ⟨h1, fun x k hx hk => (h2 x k hx hk).trans (e x k hx hk), fun j hj => ⟨(h3 j hj).1, ?_⟩, fun x k hx hk hp => h4 x k hx hk ((e x k hx hk).mpr hp), h5, h6, h7⟩
  obtain ⟨k, hk, hp⟩ := (h3 j hj).2
  exact ⟨k, hk, (e _ k (h3 j hj).1 hk).mp hp⟩
theorem hb_add {Co : Nat → Int} {x y u v : Int} (hx : 0 ≤ x) (hy : 0 ≤ y) (h : Nat) : hb (fs (fs Co (2 * x).toNat (m_lor (Co (2 * x).toNat) u)) ((2 * x) + 1).toNat (m_lor (Co ((2 * x) + 1).toNat) v)) y h = (if y = x then (hb Co x h || pb u v h) else hb Co y h) := by
  rw [hb_set hx hy h]
  by_cases e : y = x
  · rw [if_pos e, if_pos e, pb_or]; rfl
  · rw [if_neg e, if_neg e]
theorem bn {b : Bool} : ¬ b = true ↔ b = false := by cases b <;> simp
theorem cp_add {G : Int → Prop} {P : Int → Nat → Prop} {m : Nat} {Co cc : Nat → Int} {x u v : Int} (hg : ∀ y, G y → 0 ≤ y ∧ y < 100) (hx : G x) (h : CP G P m Co cc) (hne : ∃ k, k < 128 ∧ pb u v k = true) :
    (m_lor (Co (2 * x).toNat) (Co ((2 * x) + 1).toNat) = 0 → m < 100 ∧ CP G (fun y k => P y k ∨ (y = x ∧ pb u v k = true)) (m + 1) (fs (fs Co (2 * x).toNat (m_lor (Co (2 * x).toNat) u)) ((2 * x) + 1).toNat (m_lor (Co ((2 * x) + 1).toNat) v)) (fs cc m x)) ∧
    (¬ m_lor (Co (2 * x).toNat) (Co ((2 * x) + 1).toNat) = 0 → CP G (fun y k => P y k ∨ (y = x ∧ pb u v k = true)) m (fs (fs Co (2 * x).toNat (m_lor (Co (2 * x).toNat) u)) ((2 * x) + 1).toNat (m_lor (Co ((2 * x) + 1).toNat) v)) cc) := by
  obtain ⟨h1, h2, h3, h4, h5, h6, h7⟩ := h
  have bx := hg x hx
  have hbn : ∀ y k, G y → k < 128 → (hb (fs (fs Co (2 * x).toNat (m_lor (Co (2 * x).toNat) u)) ((2 * x) + 1).toNat (m_lor (Co ((2 * x) + 1).toNat) v)) y k = true ↔ (P y k ∨ (y = x ∧ pb u v k = true))) := fun y k hy hk => by
    rw [hb_add bx.1 (hg y hy).1 k]
    by_cases e : y = x
    · rw [if_pos e, Bool.or_eq_true, ← e, h2 y k hy hk]
      exact ⟨fun z => z.imp_right (fun q => ⟨rfl, q⟩), fun z => z.imp_right (fun q => q.2)⟩
    · rw [if_neg e, h2 y k hy hk]
      exact ⟨Or.inl, fun z => z.resolve_right (fun q => e q.1)⟩
  have kfo : ∀ j : Nat, ¬ j = x.toNat → (KF (fs (fs Co (2 * x).toNat (m_lor (Co (2 * x).toNat) u)) ((2 * x) + 1).toNat (m_lor (Co ((2 * x) + 1).toNat) v)) j = -1 ↔ KF Co j = -1) := fun j hj => by
    rw [kf_iff, kf_iff]
    constructor
    · intro z k hk
      have := z k hk
      rw [hb_add bx.1 (by omega) k, if_neg (by omega)] at this
      exact this
    · intro z k hk
      rw [hb_add bx.1 (by omega) k, if_neg (by omega)]
      exact z k hk
  have kfx : ¬ KF (fs (fs Co (2 * x).toNat (m_lor (Co (2 * x).toNat) u)) ((2 * x) + 1).toNat (m_lor (Co ((2 * x) + 1).toNat) v)) x.toNat = -1 := fun z => by
    obtain ⟨k, hk, hk2⟩ := hne
    have := kf_iff.mp z k hk
    rw [Int.toNat_of_nonneg bx.1, hb_add bx.1 bx.1 k, if_pos rfl, hk2, Bool.or_true] at this
    cases this
  have out : ∀ j : Nat, j < 100 → ¬ G (j : Int) → KF (fs (fs Co (2 * x).toNat (m_lor (Co (2 * x).toNat) u)) ((2 * x) + 1).toNat (m_lor (Co ((2 * x) + 1).toNat) v)) j = -1 := fun j hj9 hj => by
    rw [kfo j (fun e => hj (by rw [e, Int.toNat_of_nonneg bx.1]; exact hx))]
    exact h7 j hj9 hj
  have kx0 : KF Co x.toNat = -1 ↔ m_lor (Co (2 * x).toNat) (Co ((2 * x) + 1).toNat) = 0 := by
    rw [kf_iff, Int.toNat_of_nonneg bx.1]
    exact pb_zero.symm
  constructor
  · intro hz
    have hk := kx0.mpr hz
    have hlt := cn_lt hk 100 (by omega)
    have hno : ∀ k, k < 128 → ¬ P x k := fun k hk2 hp => by
      have h9 := kf_iff.mp hk k hk2
      rw [Int.toNat_of_nonneg bx.1] at h9
      rw [(h2 x k hx hk2).mpr hp] at h9
      cases h9
    refine ⟨by omega, by omega, hbn, ?_, ?_, ?_, ?_, out⟩
    · intro j hj
      by_cases e : j = m
      · rw [e, fs_eq]
        obtain ⟨k, k1, k2⟩ := hne
        exact ⟨hx, k, k1, Or.inr ⟨rfl, k2⟩⟩
      · rw [fs_ne e]
        obtain ⟨g1, k, k1, k2⟩ := h3 j (by omega)
        exact ⟨g1, k, k1, Or.inl k2⟩
    · intro y k hy hk2 hp
      rcases hp with hp | hp
      · obtain ⟨j, j1, j2⟩ := h4 y k hy hk2 hp
        exact ⟨j, by omega, by rw [fs_ne (by omega)]; exact j2⟩
      · exact ⟨m, by omega, by rw [fs_eq]; exact hp.1.symm⟩
    · intro i j hij hj
      by_cases e : j = m
      · rw [e, fs_eq, fs_ne (by omega)]
        intro q
        obtain ⟨g1, k, k1, k2⟩ := h3 i (by omega)
        rw [q] at k2
        exact hno k k1 k2
      · rw [fs_ne e, fs_ne (by omega)]
        exact h5 i j hij (by omega)
    · rw [cn_congr (G := fs (KF Co) x.toNat 0) 100 (fun j hj => by
        by_cases e : j = x.toNat
        · rw [e, fs_eq]; exact ⟨fun z => absurd z kfx, fun z => absurd z (by decide)⟩
        · rw [fs_ne e]; exact kfo j e), cn_fs hk (by decide) 100 (by omega)]
      omega
  · intro hz
    have hk : ¬ KF Co x.toNat = -1 := fun z => hz (kx0.mp z)
    refine ⟨h1, hbn, ?_, ?_, h5, ?_, out⟩
    · intro j hj
      obtain ⟨g1, k, k1, k2⟩ := h3 j hj
      exact ⟨g1, k, k1, Or.inl k2⟩
    · intro y k hy hk2 hp
      rcases hp with hp | hp
      · exact h4 y k hy hk2 hp
      · obtain ⟨k3, z3, z4⟩ := pb_some hz
        rw [hp.1]
        exact h4 x k3 hx z3 ((h2 x k3 hx z3).mp z4)
    · rw [cn_congr (G := KF Co) 100 (fun j hj => by
        by_cases e : j = x.toNat
        · rw [e]; exact ⟨fun z => absurd z kfx, fun z => absurd z hk⟩
        · exact kfo j e)]
      exact h6
set_option maxHeartbeats 4000000 in
theorem come_0 {μ : Nat → Nat → Int} {c s : Nat} {x lo hi : Int} (hxb : 0 ≤ x ∧ x < 100) {H St Se Fr Co fc cc : Nat → Int} (hn : m_cmp (m_lor (m_land (m_land (lo) (St ((2 * x).toNat))) (m_lxor (Se ((2 * x).toNat)) (-1))) (m_land (m_land (hi) (St (((2 * x) + 1).toNat))) (m_lxor (Se (((2 * x) + 1).toNat)) (-1)))) 0 = 0) : Cl PT 22 [mR 74, mI x, mJ lo, mJ hi] (mkh (m_upd (m_upd (m_upd (m_upd (m_upd (m_upd (m_upd μ 74 H) 75 St) 76 Se) 77 Fr) 78 Co) 79 fc) 80 cc) c s) (fun r => r = (some none, mkh (m_upd (m_upd (m_upd (m_upd (m_upd (m_upd (m_upd μ 74 H) 75 St) 76 Se) 77 Fr) 78 Co) 79 fc) 80 cc) c s)) := by
  refine ⟨_, PT_22, Nat.le_of_ble_eq_true rfl, ?_⟩
  show Rn PT none kX1_come 0 [some (mR 74), some (mI (x)), some (mJ (lo)), none, some (mJ (hi)), none, none, none, none, none] [] (mkh (m_upd (m_upd (m_upd (m_upd (m_upd (m_upd (m_upd μ 74 H) 75 St) 76 Se) 77 Fr) 78 Co) 79 fc) 80 cc) c s) _
  refine rn_lload_n (k' := 1) rfl rfl rfl ?_
  refine rn_aload_n (k' := 2) rfl rfl rfl ?_
  refine rn_getR (k' := 3) rfl rfl K0_74 (by decide) rfl R0_74_1 ?_
  refine rn_iconst (k' := 4) rfl rfl ?_
  refine rn_iload_n (k' := 5) rfl rfl rfl ?_
  refine rn_imul (k' := 6) rfl rfl (by omega) ?_
  refine rn_laload (k' := 7) rfl rfl K0_75 (by omega) (by omega) ?_
  show Rn PT none kX1_come 7 [some (mR 74), some (mI (x)), some (mJ (lo)), none, some (mJ (hi)), none, none, none, none, none] [mJ (St ((2 * x).toNat)), mJ (lo)] (mkh (m_upd (m_upd (m_upd (m_upd (m_upd (m_upd (m_upd μ 74 H) 75 St) 76 Se) 77 Fr) 78 Co) 79 fc) 80 cc) c s) _
  refine rn_land (k' := 8) rfl rfl ?_
  refine rn_aload_n (k' := 9) rfl rfl rfl ?_
  refine rn_getR (k' := 10) rfl rfl K0_74 (by decide) rfl R0_74_2 ?_
  refine rn_iconst (k' := 11) rfl rfl ?_
  refine rn_iload_n (k' := 12) rfl rfl rfl ?_
  refine rn_imul (k' := 13) rfl rfl (by omega) ?_
  refine rn_laload (k' := 14) rfl rfl K0_76 (by omega) (by omega) ?_
  show Rn PT none kX1_come 14 [some (mR 74), some (mI (x)), some (mJ (lo)), none, some (mJ (hi)), none, none, none, none, none] [mJ (Se ((2 * x).toNat)), mJ (m_land (lo) (St ((2 * x).toNat)))] (mkh (m_upd (m_upd (m_upd (m_upd (m_upd (m_upd (m_upd μ 74 H) 75 St) 76 Se) 77 Fr) 78 Co) 79 fc) 80 cc) c s) _
  refine rn_ldc2_w (k' := 15) rfl rfl ?_
  refine rn_lxor (k' := 16) rfl rfl ?_
  refine rn_land (k' := 17) rfl rfl ?_
  refine rn_lstore (k' := 18) (L' := [some (mR 74), some (mI (x)), some (mJ (lo)), none, some (mJ (hi)), none, some (mJ (m_land (m_land (lo) (St ((2 * x).toNat))) (m_lxor (Se ((2 * x).toNat)) (-1)))), none, none, none]) rfl rfl (Nat.le_of_ble_eq_true rfl) rfl ?_
  refine rn_lload (k' := 19) rfl rfl rfl ?_
  refine rn_aload_n (k' := 20) rfl rfl rfl ?_
  refine rn_getR (k' := 21) rfl rfl K0_74 (by decide) rfl R0_74_1 ?_
  refine rn_iconst (k' := 22) rfl rfl ?_
  refine rn_iload_n (k' := 23) rfl rfl rfl ?_
  refine rn_imul (k' := 24) rfl rfl (by omega) ?_
  refine rn_iconst (k' := 25) rfl rfl ?_
  refine rn_iadd (k' := 26) rfl rfl (by omega) ?_
  refine rn_laload (k' := 27) rfl rfl K0_75 (by omega) (by omega) ?_
  show Rn PT none kX1_come 27 [some (mR 74), some (mI (x)), some (mJ (lo)), none, some (mJ (hi)), none, some (mJ (m_land (m_land (lo) (St ((2 * x).toNat))) (m_lxor (Se ((2 * x).toNat)) (-1)))), none, none, none] [mJ (St (((2 * x) + 1).toNat)), mJ (hi)] (mkh (m_upd (m_upd (m_upd (m_upd (m_upd (m_upd (m_upd μ 74 H) 75 St) 76 Se) 77 Fr) 78 Co) 79 fc) 80 cc) c s) _
  refine rn_land (k' := 28) rfl rfl ?_
  refine rn_aload_n (k' := 29) rfl rfl rfl ?_
  refine rn_getR (k' := 30) rfl rfl K0_74 (by decide) rfl R0_74_2 ?_
  refine rn_iconst (k' := 31) rfl rfl ?_
  refine rn_iload_n (k' := 32) rfl rfl rfl ?_
  refine rn_imul (k' := 33) rfl rfl (by omega) ?_
  refine rn_iconst (k' := 34) rfl rfl ?_
  refine rn_iadd (k' := 35) rfl rfl (by omega) ?_
  refine rn_laload (k' := 36) rfl rfl K0_76 (by omega) (by omega) ?_
  show Rn PT none kX1_come 36 [some (mR 74), some (mI (x)), some (mJ (lo)), none, some (mJ (hi)), none, some (mJ (m_land (m_land (lo) (St ((2 * x).toNat))) (m_lxor (Se ((2 * x).toNat)) (-1)))), none, none, none] [mJ (Se (((2 * x) + 1).toNat)), mJ (m_land (hi) (St (((2 * x) + 1).toNat)))] (mkh (m_upd (m_upd (m_upd (m_upd (m_upd (m_upd (m_upd μ 74 H) 75 St) 76 Se) 77 Fr) 78 Co) 79 fc) 80 cc) c s) _
  refine rn_ldc2_w (k' := 37) rfl rfl ?_
  refine rn_lxor (k' := 38) rfl rfl ?_
  refine rn_land (k' := 39) rfl rfl ?_
  refine rn_lstore (k' := 40) (L' := [some (mR 74), some (mI (x)), some (mJ (lo)), none, some (mJ (hi)), none, some (mJ (m_land (m_land (lo) (St ((2 * x).toNat))) (m_lxor (Se ((2 * x).toNat)) (-1)))), none, some (mJ (m_land (m_land (hi) (St (((2 * x) + 1).toNat))) (m_lxor (Se (((2 * x) + 1).toNat)) (-1)))), none]) rfl rfl (Nat.le_of_ble_eq_true rfl) rfl ?_
  refine rn_lload (k' := 41) rfl rfl rfl ?_
  refine rn_lload (k' := 42) rfl rfl rfl ?_
  refine rn_lor (k' := 43) rfl rfl ?_
  refine rn_lconst (z := 0) (k' := 44) rfl rfl rfl ?_
  refine rn_lcmp (k' := 45) rfl rfl ?_
  refine rn_if_ne (k' := 46) rfl rfl (fun hc1 => ?_) (fun hc1 => ?_)
  · exfalso; omega
  · skip
    refine rn_vret rfl ?_
    rfl
set_option maxHeartbeats 4000000 in
theorem come_A {μ : Nat → Nat → Int} {c s : Nat} {x lo hi : Int} (hxb : 0 ≤ x ∧ x < 100) {H St Se Fr Co fc cc : Nat → Int} (hn : ¬ m_cmp (m_lor (m_land (m_land (lo) (St ((2 * x).toNat))) (m_lxor (Se ((2 * x).toNat)) (-1))) (m_land (m_land (hi) (St (((2 * x) + 1).toNat))) (m_lxor (Se (((2 * x) + 1).toNat)) (-1)))) 0 = 0) (hz : m_cmp (m_lor (Co ((2 * x).toNat)) (Co (((2 * x) + 1).toNat))) 0 = 0) (h8 : 0 ≤ H 8 ∧ H 8 < 100) : Cl PT 22 [mR 74, mI x, mJ lo, mJ hi] (mkh (m_upd (m_upd (m_upd (m_upd (m_upd (m_upd (m_upd μ 74 H) 75 St) 76 Se) 77 Fr) 78 Co) 79 fc) 80 cc) c s) (fun r => r = (some none, mkh (m_upd (m_upd (m_upd (m_upd (m_upd (m_upd (m_upd μ 74 ((fs H 8 (H 8 + 1)))) 75 St) 76 Se) 77 Fr) 78 ((fs (fs Co (2 * x).toNat (m_lor (Co (2 * x).toNat) (m_land (m_land (lo) (St ((2 * x).toNat))) (m_lxor (Se ((2 * x).toNat)) (-1))))) ((2 * x) + 1).toNat (m_lor (Co ((2 * x) + 1).toNat) (m_land (m_land (hi) (St (((2 * x) + 1).toNat))) (m_lxor (Se (((2 * x) + 1).toNat)) (-1))))))) 79 fc) 80 ((fs cc (H 8).toNat x))) c s)) := by
  refine ⟨_, PT_22, Nat.le_of_ble_eq_true rfl, ?_⟩
  show Rn PT none kX1_come 0 [some (mR 74), some (mI (x)), some (mJ (lo)), none, some (mJ (hi)), none, none, none, none, none] [] (mkh (m_upd (m_upd (m_upd (m_upd (m_upd (m_upd (m_upd μ 74 H) 75 St) 76 Se) 77 Fr) 78 Co) 79 fc) 80 cc) c s) _
  refine rn_lload_n (k' := 1) rfl rfl rfl ?_
  refine rn_aload_n (k' := 2) rfl rfl rfl ?_
  refine rn_getR (k' := 3) rfl rfl K0_74 (by decide) rfl R0_74_1 ?_
  refine rn_iconst (k' := 4) rfl rfl ?_
  refine rn_iload_n (k' := 5) rfl rfl rfl ?_
  refine rn_imul (k' := 6) rfl rfl (by omega) ?_
  refine rn_laload (k' := 7) rfl rfl K0_75 (by omega) (by omega) ?_
  show Rn PT none kX1_come 7 [some (mR 74), some (mI (x)), some (mJ (lo)), none, some (mJ (hi)), none, none, none, none, none] [mJ (St ((2 * x).toNat)), mJ (lo)] (mkh (m_upd (m_upd (m_upd (m_upd (m_upd (m_upd (m_upd μ 74 H) 75 St) 76 Se) 77 Fr) 78 Co) 79 fc) 80 cc) c s) _
  refine rn_land (k' := 8) rfl rfl ?_
  refine rn_aload_n (k' := 9) rfl rfl rfl ?_
  refine rn_getR (k' := 10) rfl rfl K0_74 (by decide) rfl R0_74_2 ?_
  refine rn_iconst (k' := 11) rfl rfl ?_
  refine rn_iload_n (k' := 12) rfl rfl rfl ?_
  refine rn_imul (k' := 13) rfl rfl (by omega) ?_
  refine rn_laload (k' := 14) rfl rfl K0_76 (by omega) (by omega) ?_
  show Rn PT none kX1_come 14 [some (mR 74), some (mI (x)), some (mJ (lo)), none, some (mJ (hi)), none, none, none, none, none] [mJ (Se ((2 * x).toNat)), mJ (m_land (lo) (St ((2 * x).toNat)))] (mkh (m_upd (m_upd (m_upd (m_upd (m_upd (m_upd (m_upd μ 74 H) 75 St) 76 Se) 77 Fr) 78 Co) 79 fc) 80 cc) c s) _
  refine rn_ldc2_w (k' := 15) rfl rfl ?_
  refine rn_lxor (k' := 16) rfl rfl ?_
  refine rn_land (k' := 17) rfl rfl ?_
  refine rn_lstore (k' := 18) (L' := [some (mR 74), some (mI (x)), some (mJ (lo)), none, some (mJ (hi)), none, some (mJ (m_land (m_land (lo) (St ((2 * x).toNat))) (m_lxor (Se ((2 * x).toNat)) (-1)))), none, none, none]) rfl rfl (Nat.le_of_ble_eq_true rfl) rfl ?_
  refine rn_lload (k' := 19) rfl rfl rfl ?_
  refine rn_aload_n (k' := 20) rfl rfl rfl ?_
  refine rn_getR (k' := 21) rfl rfl K0_74 (by decide) rfl R0_74_1 ?_
  refine rn_iconst (k' := 22) rfl rfl ?_
  refine rn_iload_n (k' := 23) rfl rfl rfl ?_
  refine rn_imul (k' := 24) rfl rfl (by omega) ?_
  refine rn_iconst (k' := 25) rfl rfl ?_
  refine rn_iadd (k' := 26) rfl rfl (by omega) ?_
  refine rn_laload (k' := 27) rfl rfl K0_75 (by omega) (by omega) ?_
  show Rn PT none kX1_come 27 [some (mR 74), some (mI (x)), some (mJ (lo)), none, some (mJ (hi)), none, some (mJ (m_land (m_land (lo) (St ((2 * x).toNat))) (m_lxor (Se ((2 * x).toNat)) (-1)))), none, none, none] [mJ (St (((2 * x) + 1).toNat)), mJ (hi)] (mkh (m_upd (m_upd (m_upd (m_upd (m_upd (m_upd (m_upd μ 74 H) 75 St) 76 Se) 77 Fr) 78 Co) 79 fc) 80 cc) c s) _
  refine rn_land (k' := 28) rfl rfl ?_
  refine rn_aload_n (k' := 29) rfl rfl rfl ?_
  refine rn_getR (k' := 30) rfl rfl K0_74 (by decide) rfl R0_74_2 ?_
  refine rn_iconst (k' := 31) rfl rfl ?_
  refine rn_iload_n (k' := 32) rfl rfl rfl ?_
  refine rn_imul (k' := 33) rfl rfl (by omega) ?_
  refine rn_iconst (k' := 34) rfl rfl ?_
  refine rn_iadd (k' := 35) rfl rfl (by omega) ?_
  refine rn_laload (k' := 36) rfl rfl K0_76 (by omega) (by omega) ?_
  show Rn PT none kX1_come 36 [some (mR 74), some (mI (x)), some (mJ (lo)), none, some (mJ (hi)), none, some (mJ (m_land (m_land (lo) (St ((2 * x).toNat))) (m_lxor (Se ((2 * x).toNat)) (-1)))), none, none, none] [mJ (Se (((2 * x) + 1).toNat)), mJ (m_land (hi) (St (((2 * x) + 1).toNat)))] (mkh (m_upd (m_upd (m_upd (m_upd (m_upd (m_upd (m_upd μ 74 H) 75 St) 76 Se) 77 Fr) 78 Co) 79 fc) 80 cc) c s) _
  refine rn_ldc2_w (k' := 37) rfl rfl ?_
  refine rn_lxor (k' := 38) rfl rfl ?_
  refine rn_land (k' := 39) rfl rfl ?_
  refine rn_lstore (k' := 40) (L' := [some (mR 74), some (mI (x)), some (mJ (lo)), none, some (mJ (hi)), none, some (mJ (m_land (m_land (lo) (St ((2 * x).toNat))) (m_lxor (Se ((2 * x).toNat)) (-1)))), none, some (mJ (m_land (m_land (hi) (St (((2 * x) + 1).toNat))) (m_lxor (Se (((2 * x) + 1).toNat)) (-1)))), none]) rfl rfl (Nat.le_of_ble_eq_true rfl) rfl ?_
  refine rn_lload (k' := 41) rfl rfl rfl ?_
  refine rn_lload (k' := 42) rfl rfl rfl ?_
  refine rn_lor (k' := 43) rfl rfl ?_
  refine rn_lconst (z := 0) (k' := 44) rfl rfl rfl ?_
  refine rn_lcmp (k' := 45) rfl rfl ?_
  refine rn_if_ne (k' := 46) rfl rfl (fun hc1 => ?_) (fun hc1 => ?_)
  · skip
    refine rn_aload_n (k' := 48) rfl rfl rfl ?_
    refine rn_getR (k' := 49) rfl rfl K0_74 (by decide) rfl R0_74_4 ?_
    refine rn_iconst (k' := 50) rfl rfl ?_
    refine rn_iload_n (k' := 51) rfl rfl rfl ?_
    refine rn_imul (k' := 52) rfl rfl (by omega) ?_
    refine rn_laload (k' := 53) rfl rfl K0_78 (by omega) (by omega) ?_
    show Rn PT none kX1_come 53 [some (mR 74), some (mI (x)), some (mJ (lo)), none, some (mJ (hi)), none, some (mJ (m_land (m_land (lo) (St ((2 * x).toNat))) (m_lxor (Se ((2 * x).toNat)) (-1)))), none, some (mJ (m_land (m_land (hi) (St (((2 * x) + 1).toNat))) (m_lxor (Se (((2 * x) + 1).toNat)) (-1)))), none] [mJ (Co ((2 * x).toNat))] (mkh (m_upd (m_upd (m_upd (m_upd (m_upd (m_upd (m_upd μ 74 H) 75 St) 76 Se) 77 Fr) 78 Co) 79 fc) 80 cc) c s) _
    refine rn_aload_n (k' := 54) rfl rfl rfl ?_
    refine rn_getR (k' := 55) rfl rfl K0_74 (by decide) rfl R0_74_4 ?_
    refine rn_iconst (k' := 56) rfl rfl ?_
    refine rn_iload_n (k' := 57) rfl rfl rfl ?_
    refine rn_imul (k' := 58) rfl rfl (by omega) ?_
    refine rn_iconst (k' := 59) rfl rfl ?_
    refine rn_iadd (k' := 60) rfl rfl (by omega) ?_
    refine rn_laload (k' := 61) rfl rfl K0_78 (by omega) (by omega) ?_
    show Rn PT none kX1_come 61 [some (mR 74), some (mI (x)), some (mJ (lo)), none, some (mJ (hi)), none, some (mJ (m_land (m_land (lo) (St ((2 * x).toNat))) (m_lxor (Se ((2 * x).toNat)) (-1)))), none, some (mJ (m_land (m_land (hi) (St (((2 * x) + 1).toNat))) (m_lxor (Se (((2 * x) + 1).toNat)) (-1)))), none] [mJ (Co (((2 * x) + 1).toNat)), mJ (Co ((2 * x).toNat))] (mkh (m_upd (m_upd (m_upd (m_upd (m_upd (m_upd (m_upd μ 74 H) 75 St) 76 Se) 77 Fr) 78 Co) 79 fc) 80 cc) c s) _
    refine rn_lor (k' := 62) rfl rfl ?_
    refine rn_lconst (z := 0) (k' := 63) rfl rfl rfl ?_
    refine rn_lcmp (k' := 64) rfl rfl ?_
    refine rn_if_ne (k' := 65) rfl rfl (fun hc2 => ?_) (fun hc2 => ?_)
    · exfalso; omega
    · skip
      refine rn_aload_n (k' := 66) rfl rfl rfl ?_
      refine rn_getI (k' := 67) rfl rfl K0_74 (by decide) rfl ?_
      show Rn PT none kX1_come 67 [some (mR 74), some (mI (x)), some (mJ (lo)), none, some (mJ (hi)), none, some (mJ (m_land (m_land (lo) (St ((2 * x).toNat))) (m_lxor (Se ((2 * x).toNat)) (-1)))), none, some (mJ (m_land (m_land (hi) (St (((2 * x) + 1).toNat))) (m_lxor (Se (((2 * x) + 1).toNat)) (-1)))), none] [mI (H 8)] (mkh (m_upd (m_upd (m_upd (m_upd (m_upd (m_upd (m_upd μ 74 H) 75 St) 76 Se) 77 Fr) 78 Co) 79 fc) 80 cc) c s) _
      refine rn_bipush (k' := 68) rfl rfl ?_
      refine rn_icmp_ge (k' := 69) rfl rfl (fun hc3 => ?_) (fun hc3 => ?_)
      · exfalso; omega
      · skip
        refine rn_aload_n (k' := 70) rfl rfl rfl ?_
        refine rn_getR (k' := 71) rfl rfl K0_74 (by decide) rfl R0_74_6 ?_
        refine rn_aload_n (k' := 72) rfl rfl rfl ?_
        refine rn_getI (k' := 73) rfl rfl K0_74 (by decide) rfl ?_
        show Rn PT none kX1_come 73 [some (mR 74), some (mI (x)), some (mJ (lo)), none, some (mJ (hi)), none, some (mJ (m_land (m_land (lo) (St ((2 * x).toNat))) (m_lxor (Se ((2 * x).toNat)) (-1)))), none, some (mJ (m_land (m_land (hi) (St (((2 * x) + 1).toNat))) (m_lxor (Se (((2 * x) + 1).toNat)) (-1)))), none] [mI (H 8), mR 80] (mkh (m_upd (m_upd (m_upd (m_upd (m_upd (m_upd (m_upd μ 74 H) 75 St) 76 Se) 77 Fr) 78 Co) 79 fc) 80 cc) c s) _
        refine rn_iload_n (k' := 74) rfl rfl rfl ?_
        refine rn_iastore (k' := 75) rfl rfl K0_80 (by omega) (by omega) ?_
        refine rn_aload_n (k' := 76) rfl rfl rfl ?_
        refine rn_dupR (k' := 77) rfl rfl ?_
        refine rn_getI (k' := 78) rfl rfl K0_74 (by decide) rfl ?_
        show Rn PT none kX1_come 78 [some (mR 74), some (mI (x)), some (mJ (lo)), none, some (mJ (hi)), none, some (mJ (m_land (m_land (lo) (St ((2 * x).toNat))) (m_lxor (Se ((2 * x).toNat)) (-1)))), none, some (mJ (m_land (m_land (hi) (St (((2 * x) + 1).toNat))) (m_lxor (Se (((2 * x) + 1).toNat)) (-1)))), none] [mI (H 8), mR 74] (mkh (m_set (m_upd (m_upd (m_upd (m_upd (m_upd (m_upd (m_upd μ 74 H) 75 St) 76 Se) 77 Fr) 78 Co) 79 fc) 80 cc) 80 ((H 8).toNat) (x)) c s) _
        refine rn_iconst (k' := 79) rfl rfl ?_
        refine rn_iadd (k' := 80) rfl rfl (by omega) ?_
        refine rn_putI (k' := 81) rfl rfl K0_74 (by decide) rfl ?_
        refine rn_aload_n (k' := 82) rfl rfl rfl ?_
        refine rn_getR (k' := 83) rfl rfl K0_74 (by decide) rfl R0_74_4 ?_
        refine rn_iconst (k' := 84) rfl rfl ?_
        refine rn_iload_n (k' := 85) rfl rfl rfl ?_
        refine rn_imul (k' := 86) rfl rfl (by omega) ?_
        refine rn_dup2 (k' := 87) rfl rfl ?_
        refine rn_laload (k' := 88) rfl rfl K0_78 (by omega) (by omega) ?_
        show Rn PT none kX1_come 88 [some (mR 74), some (mI (x)), some (mJ (lo)), none, some (mJ (hi)), none, some (mJ (m_land (m_land (lo) (St ((2 * x).toNat))) (m_lxor (Se ((2 * x).toNat)) (-1)))), none, some (mJ (m_land (m_land (hi) (St (((2 * x) + 1).toNat))) (m_lxor (Se (((2 * x) + 1).toNat)) (-1)))), none] [mJ (Co ((2 * x).toNat)), mI (2 * x), mR 78] (mkh (m_set (m_set (m_upd (m_upd (m_upd (m_upd (m_upd (m_upd (m_upd μ 74 H) 75 St) 76 Se) 77 Fr) 78 Co) 79 fc) 80 cc) 80 ((H 8).toNat) (x)) 74 8 ((H 8) + 1)) c s) _
        refine rn_lload (k' := 89) rfl rfl rfl ?_
        refine rn_lor (k' := 90) rfl rfl ?_
        refine rn_lastore (k' := 91) rfl rfl K0_78 (by omega) (by omega) ?_
        refine rn_aload_n (k' := 92) rfl rfl rfl ?_
        refine rn_getR (k' := 93) rfl rfl K0_74 (by decide) rfl R0_74_4 ?_
        refine rn_iconst (k' := 94) rfl rfl ?_
        refine rn_iload_n (k' := 95) rfl rfl rfl ?_
        refine rn_imul (k' := 96) rfl rfl (by omega) ?_
        refine rn_iconst (k' := 97) rfl rfl ?_
        refine rn_iadd (k' := 98) rfl rfl (by omega) ?_
        refine rn_dup2 (k' := 99) rfl rfl ?_
        refine rn_laload (k' := 100) rfl rfl K0_78 (by omega) (by omega) ?_
        show Rn PT none kX1_come 100 [some (mR 74), some (mI (x)), some (mJ (lo)), none, some (mJ (hi)), none, some (mJ (m_land (m_land (lo) (St ((2 * x).toNat))) (m_lxor (Se ((2 * x).toNat)) (-1)))), none, some (mJ (m_land (m_land (hi) (St (((2 * x) + 1).toNat))) (m_lxor (Se (((2 * x) + 1).toNat)) (-1)))), none] [mJ ((m_set (m_set (m_set (m_upd (m_upd (m_upd (m_upd (m_upd (m_upd (m_upd μ 74 H) 75 St) 76 Se) 77 Fr) 78 Co) 79 fc) 80 cc) 80 ((H 8).toNat) (x)) 74 8 ((H 8) + 1)) 78 ((2 * x).toNat) (m_lor (Co ((2 * x).toNat)) (m_land (m_land (lo) (St ((2 * x).toNat))) (m_lxor (Se ((2 * x).toNat)) (-1))))) 78 (((2 * x) + 1).toNat)), mI ((2 * x) + 1), mR 78] (mkh (m_set (m_set (m_set (m_upd (m_upd (m_upd (m_upd (m_upd (m_upd (m_upd μ 74 H) 75 St) 76 Se) 77 Fr) 78 Co) 79 fc) 80 cc) 80 ((H 8).toNat) (x)) 74 8 ((H 8) + 1)) 78 ((2 * x).toNat) (m_lor (Co ((2 * x).toNat)) (m_land (m_land (lo) (St ((2 * x).toNat))) (m_lxor (Se ((2 * x).toNat)) (-1))))) c s) _
        refine rn_lload (k' := 101) rfl rfl rfl ?_
        refine rn_lor (k' := 102) rfl rfl ?_
        refine rn_lastore (k' := 103) rfl rfl K0_78 (by omega) (by omega) ?_
        refine rn_vret rfl ?_
        refine congrArg (fun z => ((some none : Option (Option MV)), mkh z c s)) ?_
        rw [upd7_of (μ := μ) (ν := (m_set (m_set (m_set (m_set (m_upd (m_upd (m_upd (m_upd (m_upd (m_upd (m_upd μ 74 H) 75 St) 76 Se) 77 Fr) 78 Co) 79 fc) 80 cc) 80 ((H 8).toNat) (x)) 74 8 ((H 8) + 1)) 78 ((2 * x).toNat) (m_lor (Co ((2 * x).toNat)) (m_land (m_land (lo) (St ((2 * x).toNat))) (m_lxor (Se ((2 * x).toNat)) (-1))))) 78 (((2 * x) + 1).toNat) (m_lor ((m_set (m_set (m_set (m_upd (m_upd (m_upd (m_upd (m_upd (m_upd (m_upd μ 74 H) 75 St) 76 Se) 77 Fr) 78 Co) 79 fc) 80 cc) 80 ((H 8).toNat) (x)) 74 8 ((H 8) + 1)) 78 ((2 * x).toNat) (m_lor (Co ((2 * x).toNat)) (m_land (m_land (lo) (St ((2 * x).toNat))) (m_lxor (Se ((2 * x).toNat)) (-1))))) 78 (((2 * x) + 1).toNat)) (m_land (m_land (hi) (St (((2 * x) + 1).toNat))) (m_lxor (Se (((2 * x) + 1).toNat)) (-1)))))) (fun b hb74 hb75 hb76 hb77 hb78 hb79 hb80 => ((row_set hb78).trans ((row_set hb78).trans ((row_set hb74).trans ((row_set hb80).trans ((row_upd hb80).trans ((row_upd hb79).trans ((row_upd hb78).trans ((row_upd hb77).trans ((row_upd hb76).trans ((row_upd hb75).trans (row_upd hb74))))))))))))]
        have q78 : (m_set (m_set (m_set (m_set (m_upd (m_upd (m_upd (m_upd (m_upd (m_upd (m_upd μ 74 H) 75 St) 76 Se) 77 Fr) 78 Co) 79 fc) 80 cc) 80 ((H 8).toNat) (x)) 74 8 ((H 8) + 1)) 78 ((2 * x).toNat) (m_lor (Co ((2 * x).toNat)) (m_land (m_land (lo) (St ((2 * x).toNat))) (m_lxor (Se ((2 * x).toNat)) (-1))))) 78 (((2 * x) + 1).toNat) (m_lor ((m_set (m_set (m_set (m_upd (m_upd (m_upd (m_upd (m_upd (m_upd (m_upd μ 74 H) 75 St) 76 Se) 77 Fr) 78 Co) 79 fc) 80 cc) 80 ((H 8).toNat) (x)) 74 8 ((H 8) + 1)) 78 ((2 * x).toNat) (m_lor (Co ((2 * x).toNat)) (m_land (m_land (lo) (St ((2 * x).toNat))) (m_lxor (Se ((2 * x).toNat)) (-1))))) 78 (((2 * x) + 1).toNat)) (m_land (m_land (hi) (St (((2 * x) + 1).toNat))) (m_lxor (Se (((2 * x) + 1).toNat)) (-1))))) 78 = (fs (fs Co (2 * x).toNat (m_lor (Co (2 * x).toNat) (m_land (m_land (lo) (St ((2 * x).toNat))) (m_lxor (Se ((2 * x).toNat)) (-1))))) ((2 * x) + 1).toNat (m_lor (Co ((2 * x) + 1).toNat) (m_land (m_land (hi) (St (((2 * x) + 1).toNat))) (m_lxor (Se (((2 * x) + 1).toNat)) (-1))))) := by
          rw [row_set_eq, row_set_eq]
          have e0 : fs (((m_set (m_set (m_upd (m_upd (m_upd (m_upd (m_upd (m_upd (m_upd μ 74 H) 75 St) 76 Se) 77 Fr) 78 Co) 79 fc) 80 cc) 80 ((H 8).toNat) (x)) 74 8 ((H 8) + 1))) 78) (2 * x).toNat (m_lor (Co (2 * x).toNat) (m_land (m_land (lo) (St ((2 * x).toNat))) (m_lxor (Se ((2 * x).toNat)) (-1)))) ((2 * x) + 1).toNat = Co ((2 * x) + 1).toNat := fs_ne (by omega)
          rw [e0]
          rfl
        have q74 : (m_set (m_set (m_set (m_set (m_upd (m_upd (m_upd (m_upd (m_upd (m_upd (m_upd μ 74 H) 75 St) 76 Se) 77 Fr) 78 Co) 79 fc) 80 cc) 80 ((H 8).toNat) (x)) 74 8 ((H 8) + 1)) 78 ((2 * x).toNat) (m_lor (Co ((2 * x).toNat)) (m_land (m_land (lo) (St ((2 * x).toNat))) (m_lxor (Se ((2 * x).toNat)) (-1))))) 78 (((2 * x) + 1).toNat) (m_lor ((m_set (m_set (m_set (m_upd (m_upd (m_upd (m_upd (m_upd (m_upd (m_upd μ 74 H) 75 St) 76 Se) 77 Fr) 78 Co) 79 fc) 80 cc) 80 ((H 8).toNat) (x)) 74 8 ((H 8) + 1)) 78 ((2 * x).toNat) (m_lor (Co ((2 * x).toNat)) (m_land (m_land (lo) (St ((2 * x).toNat))) (m_lxor (Se ((2 * x).toNat)) (-1))))) 78 (((2 * x) + 1).toNat)) (m_land (m_land (hi) (St (((2 * x) + 1).toNat))) (m_lxor (Se (((2 * x) + 1).toNat)) (-1))))) 74 = (fs H 8 (H 8 + 1)) := by
          rw [row_set (by decide), row_set (by decide), row_set_eq]
          rfl
        have q80 : (m_set (m_set (m_set (m_set (m_upd (m_upd (m_upd (m_upd (m_upd (m_upd (m_upd μ 74 H) 75 St) 76 Se) 77 Fr) 78 Co) 79 fc) 80 cc) 80 ((H 8).toNat) (x)) 74 8 ((H 8) + 1)) 78 ((2 * x).toNat) (m_lor (Co ((2 * x).toNat)) (m_land (m_land (lo) (St ((2 * x).toNat))) (m_lxor (Se ((2 * x).toNat)) (-1))))) 78 (((2 * x) + 1).toNat) (m_lor ((m_set (m_set (m_set (m_upd (m_upd (m_upd (m_upd (m_upd (m_upd (m_upd μ 74 H) 75 St) 76 Se) 77 Fr) 78 Co) 79 fc) 80 cc) 80 ((H 8).toNat) (x)) 74 8 ((H 8) + 1)) 78 ((2 * x).toNat) (m_lor (Co ((2 * x).toNat)) (m_land (m_land (lo) (St ((2 * x).toNat))) (m_lxor (Se ((2 * x).toNat)) (-1))))) 78 (((2 * x) + 1).toNat)) (m_land (m_land (hi) (St (((2 * x) + 1).toNat))) (m_lxor (Se (((2 * x) + 1).toNat)) (-1))))) 80 = (fs cc (H 8).toNat x) := by
          rw [row_set (by decide), row_set (by decide), row_set (by decide), row_set_eq]
          rfl
        have q75 : (m_set (m_set (m_set (m_set (m_upd (m_upd (m_upd (m_upd (m_upd (m_upd (m_upd μ 74 H) 75 St) 76 Se) 77 Fr) 78 Co) 79 fc) 80 cc) 80 ((H 8).toNat) (x)) 74 8 ((H 8) + 1)) 78 ((2 * x).toNat) (m_lor (Co ((2 * x).toNat)) (m_land (m_land (lo) (St ((2 * x).toNat))) (m_lxor (Se ((2 * x).toNat)) (-1))))) 78 (((2 * x) + 1).toNat) (m_lor ((m_set (m_set (m_set (m_upd (m_upd (m_upd (m_upd (m_upd (m_upd (m_upd μ 74 H) 75 St) 76 Se) 77 Fr) 78 Co) 79 fc) 80 cc) 80 ((H 8).toNat) (x)) 74 8 ((H 8) + 1)) 78 ((2 * x).toNat) (m_lor (Co ((2 * x).toNat)) (m_land (m_land (lo) (St ((2 * x).toNat))) (m_lxor (Se ((2 * x).toNat)) (-1))))) 78 (((2 * x) + 1).toNat)) (m_land (m_land (hi) (St (((2 * x) + 1).toNat))) (m_lxor (Se (((2 * x) + 1).toNat)) (-1))))) 75 = St := rfl
        have q76 : (m_set (m_set (m_set (m_set (m_upd (m_upd (m_upd (m_upd (m_upd (m_upd (m_upd μ 74 H) 75 St) 76 Se) 77 Fr) 78 Co) 79 fc) 80 cc) 80 ((H 8).toNat) (x)) 74 8 ((H 8) + 1)) 78 ((2 * x).toNat) (m_lor (Co ((2 * x).toNat)) (m_land (m_land (lo) (St ((2 * x).toNat))) (m_lxor (Se ((2 * x).toNat)) (-1))))) 78 (((2 * x) + 1).toNat) (m_lor ((m_set (m_set (m_set (m_upd (m_upd (m_upd (m_upd (m_upd (m_upd (m_upd μ 74 H) 75 St) 76 Se) 77 Fr) 78 Co) 79 fc) 80 cc) 80 ((H 8).toNat) (x)) 74 8 ((H 8) + 1)) 78 ((2 * x).toNat) (m_lor (Co ((2 * x).toNat)) (m_land (m_land (lo) (St ((2 * x).toNat))) (m_lxor (Se ((2 * x).toNat)) (-1))))) 78 (((2 * x) + 1).toNat)) (m_land (m_land (hi) (St (((2 * x) + 1).toNat))) (m_lxor (Se (((2 * x) + 1).toNat)) (-1))))) 76 = Se := rfl
        have q77 : (m_set (m_set (m_set (m_set (m_upd (m_upd (m_upd (m_upd (m_upd (m_upd (m_upd μ 74 H) 75 St) 76 Se) 77 Fr) 78 Co) 79 fc) 80 cc) 80 ((H 8).toNat) (x)) 74 8 ((H 8) + 1)) 78 ((2 * x).toNat) (m_lor (Co ((2 * x).toNat)) (m_land (m_land (lo) (St ((2 * x).toNat))) (m_lxor (Se ((2 * x).toNat)) (-1))))) 78 (((2 * x) + 1).toNat) (m_lor ((m_set (m_set (m_set (m_upd (m_upd (m_upd (m_upd (m_upd (m_upd (m_upd μ 74 H) 75 St) 76 Se) 77 Fr) 78 Co) 79 fc) 80 cc) 80 ((H 8).toNat) (x)) 74 8 ((H 8) + 1)) 78 ((2 * x).toNat) (m_lor (Co ((2 * x).toNat)) (m_land (m_land (lo) (St ((2 * x).toNat))) (m_lxor (Se ((2 * x).toNat)) (-1))))) 78 (((2 * x) + 1).toNat)) (m_land (m_land (hi) (St (((2 * x) + 1).toNat))) (m_lxor (Se (((2 * x) + 1).toNat)) (-1))))) 77 = Fr := rfl
        have q79 : (m_set (m_set (m_set (m_set (m_upd (m_upd (m_upd (m_upd (m_upd (m_upd (m_upd μ 74 H) 75 St) 76 Se) 77 Fr) 78 Co) 79 fc) 80 cc) 80 ((H 8).toNat) (x)) 74 8 ((H 8) + 1)) 78 ((2 * x).toNat) (m_lor (Co ((2 * x).toNat)) (m_land (m_land (lo) (St ((2 * x).toNat))) (m_lxor (Se ((2 * x).toNat)) (-1))))) 78 (((2 * x) + 1).toNat) (m_lor ((m_set (m_set (m_set (m_upd (m_upd (m_upd (m_upd (m_upd (m_upd (m_upd μ 74 H) 75 St) 76 Se) 77 Fr) 78 Co) 79 fc) 80 cc) 80 ((H 8).toNat) (x)) 74 8 ((H 8) + 1)) 78 ((2 * x).toNat) (m_lor (Co ((2 * x).toNat)) (m_land (m_land (lo) (St ((2 * x).toNat))) (m_lxor (Se ((2 * x).toNat)) (-1))))) 78 (((2 * x) + 1).toNat)) (m_land (m_land (hi) (St (((2 * x) + 1).toNat))) (m_lxor (Se (((2 * x) + 1).toNat)) (-1))))) 79 = fc := rfl
        rw [q74, q75, q76, q77, q78, q79, q80]
  · exfalso; omega
set_option maxHeartbeats 4000000 in
theorem come_B {μ : Nat → Nat → Int} {c s : Nat} {x lo hi : Int} (hxb : 0 ≤ x ∧ x < 100) {H St Se Fr Co fc cc : Nat → Int} (hn : ¬ m_cmp (m_lor (m_land (m_land (lo) (St ((2 * x).toNat))) (m_lxor (Se ((2 * x).toNat)) (-1))) (m_land (m_land (hi) (St (((2 * x) + 1).toNat))) (m_lxor (Se (((2 * x) + 1).toNat)) (-1)))) 0 = 0) (hz : ¬ m_cmp (m_lor (Co ((2 * x).toNat)) (Co (((2 * x) + 1).toNat))) 0 = 0) : Cl PT 22 [mR 74, mI x, mJ lo, mJ hi] (mkh (m_upd (m_upd (m_upd (m_upd (m_upd (m_upd (m_upd μ 74 H) 75 St) 76 Se) 77 Fr) 78 Co) 79 fc) 80 cc) c s) (fun r => r = (some none, mkh (m_upd (m_upd (m_upd (m_upd (m_upd (m_upd (m_upd μ 74 H) 75 St) 76 Se) 77 Fr) 78 ((fs (fs Co (2 * x).toNat (m_lor (Co (2 * x).toNat) (m_land (m_land (lo) (St ((2 * x).toNat))) (m_lxor (Se ((2 * x).toNat)) (-1))))) ((2 * x) + 1).toNat (m_lor (Co ((2 * x) + 1).toNat) (m_land (m_land (hi) (St (((2 * x) + 1).toNat))) (m_lxor (Se (((2 * x) + 1).toNat)) (-1))))))) 79 fc) 80 cc) c s)) := by
  refine ⟨_, PT_22, Nat.le_of_ble_eq_true rfl, ?_⟩
  show Rn PT none kX1_come 0 [some (mR 74), some (mI (x)), some (mJ (lo)), none, some (mJ (hi)), none, none, none, none, none] [] (mkh (m_upd (m_upd (m_upd (m_upd (m_upd (m_upd (m_upd μ 74 H) 75 St) 76 Se) 77 Fr) 78 Co) 79 fc) 80 cc) c s) _
  refine rn_lload_n (k' := 1) rfl rfl rfl ?_
  refine rn_aload_n (k' := 2) rfl rfl rfl ?_
  refine rn_getR (k' := 3) rfl rfl K0_74 (by decide) rfl R0_74_1 ?_
  refine rn_iconst (k' := 4) rfl rfl ?_
  refine rn_iload_n (k' := 5) rfl rfl rfl ?_
  refine rn_imul (k' := 6) rfl rfl (by omega) ?_
  refine rn_laload (k' := 7) rfl rfl K0_75 (by omega) (by omega) ?_
  show Rn PT none kX1_come 7 [some (mR 74), some (mI (x)), some (mJ (lo)), none, some (mJ (hi)), none, none, none, none, none] [mJ (St ((2 * x).toNat)), mJ (lo)] (mkh (m_upd (m_upd (m_upd (m_upd (m_upd (m_upd (m_upd μ 74 H) 75 St) 76 Se) 77 Fr) 78 Co) 79 fc) 80 cc) c s) _
  refine rn_land (k' := 8) rfl rfl ?_
  refine rn_aload_n (k' := 9) rfl rfl rfl ?_
  refine rn_getR (k' := 10) rfl rfl K0_74 (by decide) rfl R0_74_2 ?_
  refine rn_iconst (k' := 11) rfl rfl ?_
  refine rn_iload_n (k' := 12) rfl rfl rfl ?_
  refine rn_imul (k' := 13) rfl rfl (by omega) ?_
  refine rn_laload (k' := 14) rfl rfl K0_76 (by omega) (by omega) ?_
  show Rn PT none kX1_come 14 [some (mR 74), some (mI (x)), some (mJ (lo)), none, some (mJ (hi)), none, none, none, none, none] [mJ (Se ((2 * x).toNat)), mJ (m_land (lo) (St ((2 * x).toNat)))] (mkh (m_upd (m_upd (m_upd (m_upd (m_upd (m_upd (m_upd μ 74 H) 75 St) 76 Se) 77 Fr) 78 Co) 79 fc) 80 cc) c s) _
  refine rn_ldc2_w (k' := 15) rfl rfl ?_
  refine rn_lxor (k' := 16) rfl rfl ?_
  refine rn_land (k' := 17) rfl rfl ?_
  refine rn_lstore (k' := 18) (L' := [some (mR 74), some (mI (x)), some (mJ (lo)), none, some (mJ (hi)), none, some (mJ (m_land (m_land (lo) (St ((2 * x).toNat))) (m_lxor (Se ((2 * x).toNat)) (-1)))), none, none, none]) rfl rfl (Nat.le_of_ble_eq_true rfl) rfl ?_
  refine rn_lload (k' := 19) rfl rfl rfl ?_
  refine rn_aload_n (k' := 20) rfl rfl rfl ?_
  refine rn_getR (k' := 21) rfl rfl K0_74 (by decide) rfl R0_74_1 ?_
  refine rn_iconst (k' := 22) rfl rfl ?_
  refine rn_iload_n (k' := 23) rfl rfl rfl ?_
  refine rn_imul (k' := 24) rfl rfl (by omega) ?_
  refine rn_iconst (k' := 25) rfl rfl ?_
  refine rn_iadd (k' := 26) rfl rfl (by omega) ?_
  refine rn_laload (k' := 27) rfl rfl K0_75 (by omega) (by omega) ?_
  show Rn PT none kX1_come 27 [some (mR 74), some (mI (x)), some (mJ (lo)), none, some (mJ (hi)), none, some (mJ (m_land (m_land (lo) (St ((2 * x).toNat))) (m_lxor (Se ((2 * x).toNat)) (-1)))), none, none, none] [mJ (St (((2 * x) + 1).toNat)), mJ (hi)] (mkh (m_upd (m_upd (m_upd (m_upd (m_upd (m_upd (m_upd μ 74 H) 75 St) 76 Se) 77 Fr) 78 Co) 79 fc) 80 cc) c s) _
  refine rn_land (k' := 28) rfl rfl ?_
  refine rn_aload_n (k' := 29) rfl rfl rfl ?_
  refine rn_getR (k' := 30) rfl rfl K0_74 (by decide) rfl R0_74_2 ?_
  refine rn_iconst (k' := 31) rfl rfl ?_
  refine rn_iload_n (k' := 32) rfl rfl rfl ?_
  refine rn_imul (k' := 33) rfl rfl (by omega) ?_
  refine rn_iconst (k' := 34) rfl rfl ?_
  refine rn_iadd (k' := 35) rfl rfl (by omega) ?_
  refine rn_laload (k' := 36) rfl rfl K0_76 (by omega) (by omega) ?_
  show Rn PT none kX1_come 36 [some (mR 74), some (mI (x)), some (mJ (lo)), none, some (mJ (hi)), none, some (mJ (m_land (m_land (lo) (St ((2 * x).toNat))) (m_lxor (Se ((2 * x).toNat)) (-1)))), none, none, none] [mJ (Se (((2 * x) + 1).toNat)), mJ (m_land (hi) (St (((2 * x) + 1).toNat)))] (mkh (m_upd (m_upd (m_upd (m_upd (m_upd (m_upd (m_upd μ 74 H) 75 St) 76 Se) 77 Fr) 78 Co) 79 fc) 80 cc) c s) _
  refine rn_ldc2_w (k' := 37) rfl rfl ?_
  refine rn_lxor (k' := 38) rfl rfl ?_
  refine rn_land (k' := 39) rfl rfl ?_
  refine rn_lstore (k' := 40) (L' := [some (mR 74), some (mI (x)), some (mJ (lo)), none, some (mJ (hi)), none, some (mJ (m_land (m_land (lo) (St ((2 * x).toNat))) (m_lxor (Se ((2 * x).toNat)) (-1)))), none, some (mJ (m_land (m_land (hi) (St (((2 * x) + 1).toNat))) (m_lxor (Se (((2 * x) + 1).toNat)) (-1)))), none]) rfl rfl (Nat.le_of_ble_eq_true rfl) rfl ?_
  refine rn_lload (k' := 41) rfl rfl rfl ?_
  refine rn_lload (k' := 42) rfl rfl rfl ?_
  refine rn_lor (k' := 43) rfl rfl ?_
  refine rn_lconst (z := 0) (k' := 44) rfl rfl rfl ?_
  refine rn_lcmp (k' := 45) rfl rfl ?_
  refine rn_if_ne (k' := 46) rfl rfl (fun hc1 => ?_) (fun hc1 => ?_)
  · skip
    refine rn_aload_n (k' := 48) rfl rfl rfl ?_
    refine rn_getR (k' := 49) rfl rfl K0_74 (by decide) rfl R0_74_4 ?_
    refine rn_iconst (k' := 50) rfl rfl ?_
    refine rn_iload_n (k' := 51) rfl rfl rfl ?_
    refine rn_imul (k' := 52) rfl rfl (by omega) ?_
    refine rn_laload (k' := 53) rfl rfl K0_78 (by omega) (by omega) ?_
    show Rn PT none kX1_come 53 [some (mR 74), some (mI (x)), some (mJ (lo)), none, some (mJ (hi)), none, some (mJ (m_land (m_land (lo) (St ((2 * x).toNat))) (m_lxor (Se ((2 * x).toNat)) (-1)))), none, some (mJ (m_land (m_land (hi) (St (((2 * x) + 1).toNat))) (m_lxor (Se (((2 * x) + 1).toNat)) (-1)))), none] [mJ (Co ((2 * x).toNat))] (mkh (m_upd (m_upd (m_upd (m_upd (m_upd (m_upd (m_upd μ 74 H) 75 St) 76 Se) 77 Fr) 78 Co) 79 fc) 80 cc) c s) _
    refine rn_aload_n (k' := 54) rfl rfl rfl ?_
    refine rn_getR (k' := 55) rfl rfl K0_74 (by decide) rfl R0_74_4 ?_
    refine rn_iconst (k' := 56) rfl rfl ?_
    refine rn_iload_n (k' := 57) rfl rfl rfl ?_
    refine rn_imul (k' := 58) rfl rfl (by omega) ?_
    refine rn_iconst (k' := 59) rfl rfl ?_
    refine rn_iadd (k' := 60) rfl rfl (by omega) ?_
    refine rn_laload (k' := 61) rfl rfl K0_78 (by omega) (by omega) ?_
    show Rn PT none kX1_come 61 [some (mR 74), some (mI (x)), some (mJ (lo)), none, some (mJ (hi)), none, some (mJ (m_land (m_land (lo) (St ((2 * x).toNat))) (m_lxor (Se ((2 * x).toNat)) (-1)))), none, some (mJ (m_land (m_land (hi) (St (((2 * x) + 1).toNat))) (m_lxor (Se (((2 * x) + 1).toNat)) (-1)))), none] [mJ (Co (((2 * x) + 1).toNat)), mJ (Co ((2 * x).toNat))] (mkh (m_upd (m_upd (m_upd (m_upd (m_upd (m_upd (m_upd μ 74 H) 75 St) 76 Se) 77 Fr) 78 Co) 79 fc) 80 cc) c s) _
    refine rn_lor (k' := 62) rfl rfl ?_
    refine rn_lconst (z := 0) (k' := 63) rfl rfl rfl ?_
    refine rn_lcmp (k' := 64) rfl rfl ?_
    refine rn_if_ne (k' := 65) rfl rfl (fun hc2 => ?_) (fun hc2 => ?_)
    · skip
      refine rn_aload_n (k' := 82) rfl rfl rfl ?_
      refine rn_getR (k' := 83) rfl rfl K0_74 (by decide) rfl R0_74_4 ?_
      refine rn_iconst (k' := 84) rfl rfl ?_
      refine rn_iload_n (k' := 85) rfl rfl rfl ?_
      refine rn_imul (k' := 86) rfl rfl (by omega) ?_
      refine rn_dup2 (k' := 87) rfl rfl ?_
      refine rn_laload (k' := 88) rfl rfl K0_78 (by omega) (by omega) ?_
      show Rn PT none kX1_come 88 [some (mR 74), some (mI (x)), some (mJ (lo)), none, some (mJ (hi)), none, some (mJ (m_land (m_land (lo) (St ((2 * x).toNat))) (m_lxor (Se ((2 * x).toNat)) (-1)))), none, some (mJ (m_land (m_land (hi) (St (((2 * x) + 1).toNat))) (m_lxor (Se (((2 * x) + 1).toNat)) (-1)))), none] [mJ (Co ((2 * x).toNat)), mI (2 * x), mR 78] (mkh (m_upd (m_upd (m_upd (m_upd (m_upd (m_upd (m_upd μ 74 H) 75 St) 76 Se) 77 Fr) 78 Co) 79 fc) 80 cc) c s) _
      refine rn_lload (k' := 89) rfl rfl rfl ?_
      refine rn_lor (k' := 90) rfl rfl ?_
      refine rn_lastore (k' := 91) rfl rfl K0_78 (by omega) (by omega) ?_
      refine rn_aload_n (k' := 92) rfl rfl rfl ?_
      refine rn_getR (k' := 93) rfl rfl K0_74 (by decide) rfl R0_74_4 ?_
      refine rn_iconst (k' := 94) rfl rfl ?_
      refine rn_iload_n (k' := 95) rfl rfl rfl ?_
      refine rn_imul (k' := 96) rfl rfl (by omega) ?_
      refine rn_iconst (k' := 97) rfl rfl ?_
      refine rn_iadd (k' := 98) rfl rfl (by omega) ?_
      refine rn_dup2 (k' := 99) rfl rfl ?_
      refine rn_laload (k' := 100) rfl rfl K0_78 (by omega) (by omega) ?_
      show Rn PT none kX1_come 100 [some (mR 74), some (mI (x)), some (mJ (lo)), none, some (mJ (hi)), none, some (mJ (m_land (m_land (lo) (St ((2 * x).toNat))) (m_lxor (Se ((2 * x).toNat)) (-1)))), none, some (mJ (m_land (m_land (hi) (St (((2 * x) + 1).toNat))) (m_lxor (Se (((2 * x) + 1).toNat)) (-1)))), none] [mJ ((m_set (m_upd (m_upd (m_upd (m_upd (m_upd (m_upd (m_upd μ 74 H) 75 St) 76 Se) 77 Fr) 78 Co) 79 fc) 80 cc) 78 ((2 * x).toNat) (m_lor (Co ((2 * x).toNat)) (m_land (m_land (lo) (St ((2 * x).toNat))) (m_lxor (Se ((2 * x).toNat)) (-1))))) 78 (((2 * x) + 1).toNat)), mI ((2 * x) + 1), mR 78] (mkh (m_set (m_upd (m_upd (m_upd (m_upd (m_upd (m_upd (m_upd μ 74 H) 75 St) 76 Se) 77 Fr) 78 Co) 79 fc) 80 cc) 78 ((2 * x).toNat) (m_lor (Co ((2 * x).toNat)) (m_land (m_land (lo) (St ((2 * x).toNat))) (m_lxor (Se ((2 * x).toNat)) (-1))))) c s) _
      refine rn_lload (k' := 101) rfl rfl rfl ?_
      refine rn_lor (k' := 102) rfl rfl ?_
      refine rn_lastore (k' := 103) rfl rfl K0_78 (by omega) (by omega) ?_
      refine rn_vret rfl ?_
      refine congrArg (fun z => ((some none : Option (Option MV)), mkh z c s)) ?_
      rw [upd7_of (μ := μ) (ν := (m_set (m_set (m_upd (m_upd (m_upd (m_upd (m_upd (m_upd (m_upd μ 74 H) 75 St) 76 Se) 77 Fr) 78 Co) 79 fc) 80 cc) 78 ((2 * x).toNat) (m_lor (Co ((2 * x).toNat)) (m_land (m_land (lo) (St ((2 * x).toNat))) (m_lxor (Se ((2 * x).toNat)) (-1))))) 78 (((2 * x) + 1).toNat) (m_lor ((m_set (m_upd (m_upd (m_upd (m_upd (m_upd (m_upd (m_upd μ 74 H) 75 St) 76 Se) 77 Fr) 78 Co) 79 fc) 80 cc) 78 ((2 * x).toNat) (m_lor (Co ((2 * x).toNat)) (m_land (m_land (lo) (St ((2 * x).toNat))) (m_lxor (Se ((2 * x).toNat)) (-1))))) 78 (((2 * x) + 1).toNat)) (m_land (m_land (hi) (St (((2 * x) + 1).toNat))) (m_lxor (Se (((2 * x) + 1).toNat)) (-1)))))) (fun b hb74 hb75 hb76 hb77 hb78 hb79 hb80 => ((row_set hb78).trans ((row_set hb78).trans ((row_upd hb80).trans ((row_upd hb79).trans ((row_upd hb78).trans ((row_upd hb77).trans ((row_upd hb76).trans ((row_upd hb75).trans (row_upd hb74))))))))))]
      have q78 : (m_set (m_set (m_upd (m_upd (m_upd (m_upd (m_upd (m_upd (m_upd μ 74 H) 75 St) 76 Se) 77 Fr) 78 Co) 79 fc) 80 cc) 78 ((2 * x).toNat) (m_lor (Co ((2 * x).toNat)) (m_land (m_land (lo) (St ((2 * x).toNat))) (m_lxor (Se ((2 * x).toNat)) (-1))))) 78 (((2 * x) + 1).toNat) (m_lor ((m_set (m_upd (m_upd (m_upd (m_upd (m_upd (m_upd (m_upd μ 74 H) 75 St) 76 Se) 77 Fr) 78 Co) 79 fc) 80 cc) 78 ((2 * x).toNat) (m_lor (Co ((2 * x).toNat)) (m_land (m_land (lo) (St ((2 * x).toNat))) (m_lxor (Se ((2 * x).toNat)) (-1))))) 78 (((2 * x) + 1).toNat)) (m_land (m_land (hi) (St (((2 * x) + 1).toNat))) (m_lxor (Se (((2 * x) + 1).toNat)) (-1))))) 78 = (fs (fs Co (2 * x).toNat (m_lor (Co (2 * x).toNat) (m_land (m_land (lo) (St ((2 * x).toNat))) (m_lxor (Se ((2 * x).toNat)) (-1))))) ((2 * x) + 1).toNat (m_lor (Co ((2 * x) + 1).toNat) (m_land (m_land (hi) (St (((2 * x) + 1).toNat))) (m_lxor (Se (((2 * x) + 1).toNat)) (-1))))) := by
        rw [row_set_eq, row_set_eq]
        have e0 : fs (((m_upd (m_upd (m_upd (m_upd (m_upd (m_upd (m_upd μ 74 H) 75 St) 76 Se) 77 Fr) 78 Co) 79 fc) 80 cc)) 78) (2 * x).toNat (m_lor (Co (2 * x).toNat) (m_land (m_land (lo) (St ((2 * x).toNat))) (m_lxor (Se ((2 * x).toNat)) (-1)))) ((2 * x) + 1).toNat = Co ((2 * x) + 1).toNat := fs_ne (by omega)
        rw [e0]
        rfl
      have q74 : (m_set (m_set (m_upd (m_upd (m_upd (m_upd (m_upd (m_upd (m_upd μ 74 H) 75 St) 76 Se) 77 Fr) 78 Co) 79 fc) 80 cc) 78 ((2 * x).toNat) (m_lor (Co ((2 * x).toNat)) (m_land (m_land (lo) (St ((2 * x).toNat))) (m_lxor (Se ((2 * x).toNat)) (-1))))) 78 (((2 * x) + 1).toNat) (m_lor ((m_set (m_upd (m_upd (m_upd (m_upd (m_upd (m_upd (m_upd μ 74 H) 75 St) 76 Se) 77 Fr) 78 Co) 79 fc) 80 cc) 78 ((2 * x).toNat) (m_lor (Co ((2 * x).toNat)) (m_land (m_land (lo) (St ((2 * x).toNat))) (m_lxor (Se ((2 * x).toNat)) (-1))))) 78 (((2 * x) + 1).toNat)) (m_land (m_land (hi) (St (((2 * x) + 1).toNat))) (m_lxor (Se (((2 * x) + 1).toNat)) (-1))))) 74 = H := rfl
      have q80 : (m_set (m_set (m_upd (m_upd (m_upd (m_upd (m_upd (m_upd (m_upd μ 74 H) 75 St) 76 Se) 77 Fr) 78 Co) 79 fc) 80 cc) 78 ((2 * x).toNat) (m_lor (Co ((2 * x).toNat)) (m_land (m_land (lo) (St ((2 * x).toNat))) (m_lxor (Se ((2 * x).toNat)) (-1))))) 78 (((2 * x) + 1).toNat) (m_lor ((m_set (m_upd (m_upd (m_upd (m_upd (m_upd (m_upd (m_upd μ 74 H) 75 St) 76 Se) 77 Fr) 78 Co) 79 fc) 80 cc) 78 ((2 * x).toNat) (m_lor (Co ((2 * x).toNat)) (m_land (m_land (lo) (St ((2 * x).toNat))) (m_lxor (Se ((2 * x).toNat)) (-1))))) 78 (((2 * x) + 1).toNat)) (m_land (m_land (hi) (St (((2 * x) + 1).toNat))) (m_lxor (Se (((2 * x) + 1).toNat)) (-1))))) 80 = cc := rfl
      have q75 : (m_set (m_set (m_upd (m_upd (m_upd (m_upd (m_upd (m_upd (m_upd μ 74 H) 75 St) 76 Se) 77 Fr) 78 Co) 79 fc) 80 cc) 78 ((2 * x).toNat) (m_lor (Co ((2 * x).toNat)) (m_land (m_land (lo) (St ((2 * x).toNat))) (m_lxor (Se ((2 * x).toNat)) (-1))))) 78 (((2 * x) + 1).toNat) (m_lor ((m_set (m_upd (m_upd (m_upd (m_upd (m_upd (m_upd (m_upd μ 74 H) 75 St) 76 Se) 77 Fr) 78 Co) 79 fc) 80 cc) 78 ((2 * x).toNat) (m_lor (Co ((2 * x).toNat)) (m_land (m_land (lo) (St ((2 * x).toNat))) (m_lxor (Se ((2 * x).toNat)) (-1))))) 78 (((2 * x) + 1).toNat)) (m_land (m_land (hi) (St (((2 * x) + 1).toNat))) (m_lxor (Se (((2 * x) + 1).toNat)) (-1))))) 75 = St := rfl
      have q76 : (m_set (m_set (m_upd (m_upd (m_upd (m_upd (m_upd (m_upd (m_upd μ 74 H) 75 St) 76 Se) 77 Fr) 78 Co) 79 fc) 80 cc) 78 ((2 * x).toNat) (m_lor (Co ((2 * x).toNat)) (m_land (m_land (lo) (St ((2 * x).toNat))) (m_lxor (Se ((2 * x).toNat)) (-1))))) 78 (((2 * x) + 1).toNat) (m_lor ((m_set (m_upd (m_upd (m_upd (m_upd (m_upd (m_upd (m_upd μ 74 H) 75 St) 76 Se) 77 Fr) 78 Co) 79 fc) 80 cc) 78 ((2 * x).toNat) (m_lor (Co ((2 * x).toNat)) (m_land (m_land (lo) (St ((2 * x).toNat))) (m_lxor (Se ((2 * x).toNat)) (-1))))) 78 (((2 * x) + 1).toNat)) (m_land (m_land (hi) (St (((2 * x) + 1).toNat))) (m_lxor (Se (((2 * x) + 1).toNat)) (-1))))) 76 = Se := rfl
      have q77 : (m_set (m_set (m_upd (m_upd (m_upd (m_upd (m_upd (m_upd (m_upd μ 74 H) 75 St) 76 Se) 77 Fr) 78 Co) 79 fc) 80 cc) 78 ((2 * x).toNat) (m_lor (Co ((2 * x).toNat)) (m_land (m_land (lo) (St ((2 * x).toNat))) (m_lxor (Se ((2 * x).toNat)) (-1))))) 78 (((2 * x) + 1).toNat) (m_lor ((m_set (m_upd (m_upd (m_upd (m_upd (m_upd (m_upd (m_upd μ 74 H) 75 St) 76 Se) 77 Fr) 78 Co) 79 fc) 80 cc) 78 ((2 * x).toNat) (m_lor (Co ((2 * x).toNat)) (m_land (m_land (lo) (St ((2 * x).toNat))) (m_lxor (Se ((2 * x).toNat)) (-1))))) 78 (((2 * x) + 1).toNat)) (m_land (m_land (hi) (St (((2 * x) + 1).toNat))) (m_lxor (Se (((2 * x) + 1).toNat)) (-1))))) 77 = Fr := rfl
      have q79 : (m_set (m_set (m_upd (m_upd (m_upd (m_upd (m_upd (m_upd (m_upd μ 74 H) 75 St) 76 Se) 77 Fr) 78 Co) 79 fc) 80 cc) 78 ((2 * x).toNat) (m_lor (Co ((2 * x).toNat)) (m_land (m_land (lo) (St ((2 * x).toNat))) (m_lxor (Se ((2 * x).toNat)) (-1))))) 78 (((2 * x) + 1).toNat) (m_lor ((m_set (m_upd (m_upd (m_upd (m_upd (m_upd (m_upd (m_upd μ 74 H) 75 St) 76 Se) 77 Fr) 78 Co) 79 fc) 80 cc) 78 ((2 * x).toNat) (m_lor (Co ((2 * x).toNat)) (m_land (m_land (lo) (St ((2 * x).toNat))) (m_lxor (Se ((2 * x).toNat)) (-1))))) 78 (((2 * x) + 1).toNat)) (m_land (m_land (hi) (St (((2 * x) + 1).toNat))) (m_lxor (Se (((2 * x) + 1).toNat)) (-1))))) 79 = fc := rfl
      rw [q74, q75, q76, q77, q78, q79, q80]
    · exfalso; omega
  · exfalso; omega
theorem nl_bits {lo hi x : Int} {St Se : Nat → Int} {h : Nat} (hh : h < 128) : pb (m_land (m_land (lo) (St ((2 * x).toNat))) (m_lxor (Se ((2 * x).toNat)) (-1))) (m_land (m_land (hi) (St (((2 * x) + 1).toNat))) (m_lxor (Se (((2 * x) + 1).toNat)) (-1))) h = (pb lo hi h && hb St x h && !hb Se x h) := by
  rw [pb_and, pb_and, pb_not hh]
  rfl
theorem c_come {μ : Nat → Nat → Int} {c s : Nat} (hL : I_land μ) {x lo hi : Int} (hx : g_cell μ x) {H St Se Fr Co fc cc : Nat → Int} {P : Int → Nat → Prop} {m : Nat} (hH : H 8 = (m : Int)) (hP : CP (g_cell μ) P m Co cc) : ∃ H1 C1 c1 m1, (H1 8 = ((m1 : Nat) : Int) ∧ H1 7 = H 7 ∧ CP (g_cell μ) (fun y h => P y h ∨ (y = x ∧ pb lo hi h = true ∧ hb St x h = true ∧ ¬ hb Se x h = true)) m1 C1 c1) ∧ Cl PT 22 [mR 74, mI x, mJ lo, mJ hi] (mkh (m_upd (m_upd (m_upd (m_upd (m_upd (m_upd (m_upd μ 74 H) 75 St) 76 Se) 77 Fr) 78 Co) 79 fc) 80 cc) c s) (fun r => r = (some none, mkh (m_upd (m_upd (m_upd (m_upd (m_upd (m_upd (m_upd μ 74 H1) 75 St) 76 Se) 77 Fr) 78 C1) 79 fc) 80 c1) c s)) := by
  have hxb := g_cell_b hL hx
  have hbits : ∀ h, h < 128 → (pb (m_land (m_land (lo) (St ((2 * x).toNat))) (m_lxor (Se ((2 * x).toNat)) (-1))) (m_land (m_land (hi) (St (((2 * x) + 1).toNat))) (m_lxor (Se (((2 * x) + 1).toNat)) (-1))) h = true ↔ (pb lo hi h = true ∧ hb St x h = true ∧ ¬ hb Se x h = true)) := fun h hh => by
    rw [nl_bits hh]
    cases pb lo hi h <;> cases hb St x h <;> cases hb Se x h <;> simp
  by_cases h0 : m_lor (m_land (m_land (lo) (St ((2 * x).toNat))) (m_lxor (Se ((2 * x).toNat)) (-1))) (m_land (m_land (hi) (St (((2 * x) + 1).toNat))) (m_lxor (Se (((2 * x) + 1).toNat)) (-1))) = 0
  · refine ⟨H, Co, cc, m, ⟨hH, rfl, cp_congr hP (fun y h hy hh => ⟨Or.inl, fun z => z.resolve_right (fun q => ?_)⟩)⟩, come_0 hxb (cmp0.mpr h0)⟩
    have h1 := pb_zero.mp h0 h hh
    rw [(hbits h hh).mpr q.2] at h1
    cases h1
  · have hne := pb_some h0
    obtain ⟨kA, kB⟩ := cp_add (fun y hy => g_cell_b hL hy) hx hP hne
    have hn : ¬ m_cmp (m_lor (m_land (m_land (lo) (St ((2 * x).toNat))) (m_lxor (Se ((2 * x).toNat)) (-1))) (m_land (m_land (hi) (St (((2 * x) + 1).toNat))) (m_lxor (Se (((2 * x) + 1).toNat)) (-1)))) 0 = 0 := fun z => h0 (cmp0.mp z)
    by_cases hz : m_lor (Co (2 * x).toNat) (Co ((2 * x) + 1).toNat) = 0
    · obtain ⟨m1, hq⟩ := kA hz
      refine ⟨fs H 8 (H 8 + 1), _, fs cc (H 8).toNat x, m + 1, ⟨by rw [fs_eq, hH]; omega, fs_ne (by decide), ?_⟩, come_A hxb hn (cmp0.mpr hz) (by omega)⟩
      rw [show (H 8).toNat = m by omega]
      exact cp_congr hq (fun y h hy hh => or_congr Iff.rfl (and_congr Iff.rfl (hbits h hh)))
    · exact ⟨H, _, cc, m, ⟨hH, rfl, cp_congr (kB hz) (fun y h hy hh => or_congr Iff.rfl (and_congr Iff.rfl (hbits h hh)))⟩, come_B hxb hn (fun z => hz (cmp0.mp z))⟩
def PP (nb : Int → Int → Int) (St Se Fr fc : Nat → Int) (n d : Nat) (x : Int) (h : Nat) : Prop := hb St x h = true ∧ ¬ hb Se x h = true ∧ ∃ j e : Nat, (j < n ∨ (j = n ∧ e < d)) ∧ e < 4 ∧ nb (fc j) e = x ∧ hb Fr (fc j) h = true
theorem pp_d {nb : Int → Int → Int} {St Se Fr fc : Nat → Int} {n d : Nat} (hd : d < 4) {x : Int} {h : Nat} : (PP nb St Se Fr fc n d x h ∨ (x = nb (fc n) d ∧ hb Fr (fc n) h = true ∧ hb St x h = true ∧ ¬ hb Se x h = true)) ↔ PP nb St Se Fr fc n (d + 1) x h := by
  constructor
  · rintro (⟨h1, h2, j, e, h3, h4, h5, h6⟩ | ⟨h1, h2, h3, h4⟩)
    · exact ⟨h1, h2, j, e, by omega, h4, h5, h6⟩
    · exact ⟨h3, h4, n, d, Or.inr ⟨rfl, by omega⟩, hd, h1.symm, h2⟩
  · rintro ⟨h1, h2, j, e, h3, h4, h5, h6⟩
    by_cases q : j = n ∧ e = d
    · obtain ⟨q1, q2⟩ := q
      subst q1 q2
      exact Or.inr ⟨h5.symm, h6, h1, h2⟩
    · exact Or.inl ⟨h1, h2, j, e, by omega, h4, h5, h6⟩
theorem pp_n {nb : Int → Int → Int} {St Se Fr fc : Nat → Int} {n : Nat} {x : Int} {h : Nat} : PP nb St Se Fr fc n 4 x h ↔ PP nb St Se Fr fc (n + 1) 0 x h := by
  constructor
  · rintro ⟨h1, h2, j, e, h3, h4, h5⟩
    exact ⟨h1, h2, j, e, by omega, h4, h5⟩
  · rintro ⟨h1, h2, j, e, h3, h4, h5⟩
    exact ⟨h1, h2, j, e, by omega, h4, h5⟩
set_option maxHeartbeats 4000000 in
theorem l_stepOn_in {μ : Nat → Nat → Int} {c s : Nat} (hL : I_land μ) {St Se Fr fc : Nat → Int} {f : Nat} (hfm : f ≤ 100) (hfc : ∀ j, j < f → g_cell μ (fc j)) {n : Nat} (hn : n < f) {Q : MR → Prop} (K : ∀ (H Co cc : Nat → Int) (m : Nat) v3 v4, H 8 = (m : Int) → H 7 = (f : Int) → CP (g_cell μ) (PP (g_nb μ) St Se Fr fc n 4) m Co cc → Rn PT none kX1_stepOn 44 [some (mR 74), some (mI ((n : Int))), some (mI (fc n)), v3, v4] [] (mkh (m_upd (m_upd (m_upd (m_upd (m_upd (m_upd (m_upd μ 74 H) 75 St) 76 Se) 77 Fr) 78 Co) 79 fc) 80 cc) c s) Q) : ∀ (d d0 : Nat) (k : Int) (H : Nat → Int) (Co : Nat → Int) (cc : Nat → Int) (m : Nat) (v4 : Option MV), k = (d0 : Int) → d0 + d = 4 → (H 8 = (m : Int)) → (H 7 = (f : Int)) → (CP (g_cell μ) (PP (g_nb μ) St Se Fr fc n d0) m Co cc) → Rn PT none kX1_stepOn 13 [some (mR 74), some (mI ((n : Int))), some (mI (fc n)), some (mI (k)), v4] [] (mkh (m_upd (m_upd (m_upd (m_upd (m_upd (m_upd (m_upd μ 74 H) 75 St) 76 Se) 77 Fr) 78 Co) 79 fc) 80 cc) c s) (Q) := by
  have hL_ := hL
  obtain ⟨lc, lr, le, lm, lw, lh, lwo, lwd, q0, q1, q2, q3, q4, q8, q499, q500, lth, lG, lT, lW, -⟩ := hL_
  have hcn := hfc n hn
  have hcb := g_cell_b hL hcn
  intro d
  induction d with
  | zero =>
    intro d0 k H Co cc m v4 ek hn hH h7 hP
    subst ek
    have e4 : d0 = 4 := by omega
    rw [e4] at hP
    refine rn_iload_n (k' := 14) rfl rfl rfl ?_
    refine rn_iconst (k' := 15) rfl rfl ?_
    refine rn_icmp_ge (k' := 16) rfl rfl (fun hc1 => ?_) (fun hc1 => ?_)
    · skip
      exact K _ _ _ _ _ _ hH h7 hP
    · exfalso; omega
  | succ d ih =>
    intro d0 k H Co cc m v4 ek hn hH h7 hP
    subst ek
    have hN := (g_GR hL).2 (fc n) (d0 : Int) hcn (by omega) (by omega)
    have hNb : g_nb μ (fc n) (d0 : Int) = -1 ∨ (0 ≤ g_nb μ (fc n) (d0 : Int) ∧ g_nb μ (fc n) (d0 : Int) < 100) := hN.imp_right (fun z => g_cell_b hL z)
    refine rn_iload_n (k' := 14) rfl rfl rfl ?_
    refine rn_iconst (k' := 15) rfl rfl ?_
    refine rn_icmp_ge (k' := 16) rfl rfl (fun hc1 => ?_) (fun hc1 => ?_)
    · exfalso; omega
    · skip
      refine rn_aload_n (k' := 17) rfl rfl rfl ?_
      refine rn_getR (k' := 18) rfl rfl K0_74 (by decide) rfl R0_74_0 ?_
      refine rn_iload_n (k' := 19) rfl rfl rfl ?_
      refine rn_iload_n (k' := 20) rfl rfl rfl ?_
      refine rn_callP (k' := 21) (y := 39) (vs := [mR 6, mI (fc n), mI ((d0 : Int))]) (S' := []) (v := some (mI (g_nb μ (fc n) (d0 : Int)))) (h' := mkh (m_upd (m_upd (m_upd (m_upd (m_upd (m_upd (m_upd μ 74 H) 75 St) 76 Se) 77 Fr) 78 Co) 79 fc) 80 cc) c s) rfl rfl rfl (k_neighbour ((((((((hL).upd rfl).upd rfl).upd rfl).upd rfl).upd rfl).upd rfl).upd rfl) (by omega) (by omega)) ?_
      show Rn PT none kX1_stepOn 21 [some (mR 74), some (mI ((n : Int))), some (mI (fc n)), some (mI ((d0 : Int))), v4] [mI (g_nb μ (fc n) (d0 : Int))] (mkh (m_upd (m_upd (m_upd (m_upd (m_upd (m_upd (m_upd μ 74 H) 75 St) 76 Se) 77 Fr) 78 Co) 79 fc) 80 cc) c s) _
      refine rn_istore (k' := 22) (L' := [some (mR 74), some (mI ((n : Int))), some (mI (fc n)), some (mI ((d0 : Int))), some (mI (g_nb μ (fc n) (d0 : Int)))]) rfl rfl (Nat.le_of_ble_eq_true rfl) rfl ?_
      refine rn_iload (k' := 23) rfl rfl rfl ?_
      refine rn_iconst (k' := 24) rfl rfl ?_
      refine rn_icmp_eq (k' := 25) rfl rfl (fun hc2 => ?_) (fun hc2 => ?_)
      · skip
        refine rn_iinc (k' := 43) (L' := [some (mR 74), some (mI ((n : Int))), some (mI (fc n)), some (mI ((d0 : Int) + 1)), some (mI (g_nb μ (fc n) (d0 : Int)))]) rfl rfl rfl (by omega) rfl ?_
        refine rn_goto rfl ?_
        exact ih (d0 + 1) _ _ _ _ _ _ (by omega) (by omega) hH h7 (cp_congr hP (fun y h hy hh => ⟨fun z => (pp_d (by omega)).mp (Or.inl z), fun z => ((pp_d (by omega)).mpr z).resolve_right (fun q => by have := hy.1; have := q.1; omega)⟩))
      · skip
        refine rn_aload_n (k' := 26) rfl rfl rfl ?_
        refine rn_iload (k' := 27) rfl rfl rfl ?_
        refine rn_aload_n (k' := 28) rfl rfl rfl ?_
        refine rn_getR (k' := 29) rfl rfl K0_74 (by decide) rfl R0_74_3 ?_
        refine rn_iconst (k' := 30) rfl rfl ?_
        refine rn_iload_n (k' := 31) rfl rfl rfl ?_
        refine rn_imul (k' := 32) rfl rfl (by omega) ?_
        refine rn_laload (k' := 33) rfl rfl K0_77 (by omega) (by omega) ?_
        show Rn PT none kX1_stepOn 33 [some (mR 74), some (mI ((n : Int))), some (mI (fc n)), some (mI ((d0 : Int))), some (mI (g_nb μ (fc n) (d0 : Int)))] [mJ (Fr ((2 * (fc n)).toNat)), mI (g_nb μ (fc n) (d0 : Int)), mR 74] (mkh (m_upd (m_upd (m_upd (m_upd (m_upd (m_upd (m_upd μ 74 H) 75 St) 76 Se) 77 Fr) 78 Co) 79 fc) 80 cc) c s) _
        refine rn_aload_n (k' := 34) rfl rfl rfl ?_
        refine rn_getR (k' := 35) rfl rfl K0_74 (by decide) rfl R0_74_3 ?_
        refine rn_iconst (k' := 36) rfl rfl ?_
        refine rn_iload_n (k' := 37) rfl rfl rfl ?_
        refine rn_imul (k' := 38) rfl rfl (by omega) ?_
        refine rn_iconst (k' := 39) rfl rfl ?_
        refine rn_iadd (k' := 40) rfl rfl (by omega) ?_
        refine rn_laload (k' := 41) rfl rfl K0_77 (by omega) (by omega) ?_
        show Rn PT none kX1_stepOn 41 [some (mR 74), some (mI ((n : Int))), some (mI (fc n)), some (mI ((d0 : Int))), some (mI (g_nb μ (fc n) (d0 : Int)))] [mJ (Fr (((2 * (fc n)) + 1).toNat)), mJ (Fr ((2 * (fc n)).toNat)), mI (g_nb μ (fc n) (d0 : Int)), mR 74] (mkh (m_upd (m_upd (m_upd (m_upd (m_upd (m_upd (m_upd μ 74 H) 75 St) 76 Se) 77 Fr) 78 Co) 79 fc) 80 cc) c s) _
        obtain ⟨H1, C1, c1, m1, ⟨e1, e2, e3⟩, hcl3⟩ := c_come (μ := μ) (c := c) (s := s) hL (x := g_nb μ (fc n) (d0 : Int)) (lo := Fr ((2 * (fc n)).toNat)) (hi := Fr (((2 * (fc n)) + 1).toNat)) (by first | assumption | exact hN.resolve_left (by assumption)) (H := H) (St := St) (Se := Se) (Fr := Fr) (Co := Co) (fc := fc) (cc := cc) hH hP
        refine rn_callP (k' := 42) (y := 22) (vs := [mR 74, mI (g_nb μ (fc n) (d0 : Int)), mJ (Fr ((2 * (fc n)).toNat)), mJ (Fr (((2 * (fc n)) + 1).toNat))]) (S' := []) (v := none) (h' := mkh (m_upd (m_upd (m_upd (m_upd (m_upd (m_upd (m_upd μ 74 H1) 75 St) 76 Se) 77 Fr) 78 C1) 79 fc) 80 c1) c s) rfl rfl rfl (hcl3) ?_
        show Rn PT none kX1_stepOn 42 [some (mR 74), some (mI ((n : Int))), some (mI (fc n)), some (mI ((d0 : Int))), some (mI (g_nb μ (fc n) (d0 : Int)))] [] (mkh (m_upd (m_upd (m_upd (m_upd (m_upd (m_upd (m_upd μ 74 H1) 75 St) 76 Se) 77 Fr) 78 C1) 79 fc) 80 c1) c s) _
        refine rn_iinc (k' := 43) (L' := [some (mR 74), some (mI ((n : Int))), some (mI (fc n)), some (mI ((d0 : Int) + 1)), some (mI (g_nb μ (fc n) (d0 : Int)))]) rfl rfl rfl (by omega) rfl ?_
        refine rn_goto rfl ?_
        exact ih (d0 + 1) _ _ _ _ _ _ (by omega) (by omega) e1 (e2.trans h7) (cp_congr e3 (fun y h hy hh => (or_congr Iff.rfl ⟨fun z => ⟨z.1, z.2.1, by rw [z.1]; exact z.2.2.1, by rw [z.1]; exact z.2.2.2⟩, fun z => ⟨z.1, z.2.1, by have q := z.2.2.1; rw [z.1] at q; exact q, by have q := z.2.2.2; rw [z.1] at q; exact q⟩⟩).trans (pp_d (by omega))))
set_option maxHeartbeats 4000000 in
theorem l_stepOn {μ : Nat → Nat → Int} {c s : Nat} (hL : I_land μ) {St Se Fr fc : Nat → Int} {f : Nat} (hfm : f ≤ 100) (hfc : ∀ j, j < f → g_cell μ (fc j)) : ∀ (d n : Nat) (k : Int) (H : Nat → Int) (Co : Nat → Int) (cc : Nat → Int) (m : Nat) (v2 : Option MV) (v3 : Option MV) (v4 : Option MV), k = (n : Int) → n + d = f → (H 8 = (m : Int)) → (H 7 = (f : Int)) → (CP (g_cell μ) (PP (g_nb μ) St Se Fr fc n 0) m Co cc) → Rn PT none kX1_stepOn 2 [some (mR 74), some (mI (k)), v2, v3, v4] [] (mkh (m_upd (m_upd (m_upd (m_upd (m_upd (m_upd (m_upd μ 74 H) 75 St) 76 Se) 77 Fr) 78 Co) 79 fc) 80 cc) c s) (fun r => ∃ (H1 C1 c1 : Nat → Int) (m1 : Nat), r = (some none, mkh (m_upd (m_upd (m_upd (m_upd (m_upd (m_upd (m_upd μ 74 H1) 75 St) 76 Se) 77 Fr) 78 C1) 79 fc) 80 c1) c s) ∧ H1 8 = (m1 : Int) ∧ H1 7 = (f : Int) ∧ CP (g_cell μ) (PP (g_nb μ) St Se Fr fc f 0) m1 C1 c1) := by
  have hL_ := hL
  obtain ⟨lc, lr, le, lm, lw, lh, lwo, lwd, q0, q1, q2, q3, q4, q8, q499, q500, lth, lG, lT, lW, -⟩ := hL_
  intro d
  induction d with
  | zero =>
    intro n k H Co cc m v2 v3 v4 ek hn hH h7 hP
    subst ek
    have en : n = f := by omega
    rw [en] at hP
    refine rn_iload_n (k' := 3) rfl rfl rfl ?_
    refine rn_aload_n (k' := 4) rfl rfl rfl ?_
    refine rn_getI (k' := 5) rfl rfl K0_74 (by decide) rfl ?_
    show Rn PT none kX1_stepOn 5 [some (mR 74), some (mI ((n : Int))), v2, v3, v4] [mI (H 7), mI ((n : Int))] (mkh (m_upd (m_upd (m_upd (m_upd (m_upd (m_upd (m_upd μ 74 H) 75 St) 76 Se) 77 Fr) 78 Co) 79 fc) 80 cc) c s) _
    refine rn_icmp_ge (k' := 6) rfl rfl (fun hc1 => ?_) (fun hc1 => ?_)
    · skip
      refine rn_vret rfl ?_
      exact ⟨H, Co, cc, m, rfl, hH, h7, hP⟩
    · exfalso; omega
  | succ d ih =>
    intro n k H Co cc m v2 v3 v4 ek hn hH h7 hP
    subst ek
    refine rn_iload_n (k' := 3) rfl rfl rfl ?_
    refine rn_aload_n (k' := 4) rfl rfl rfl ?_
    refine rn_getI (k' := 5) rfl rfl K0_74 (by decide) rfl ?_
    show Rn PT none kX1_stepOn 5 [some (mR 74), some (mI ((n : Int))), v2, v3, v4] [mI (H 7), mI ((n : Int))] (mkh (m_upd (m_upd (m_upd (m_upd (m_upd (m_upd (m_upd μ 74 H) 75 St) 76 Se) 77 Fr) 78 Co) 79 fc) 80 cc) c s) _
    refine rn_icmp_ge (k' := 6) rfl rfl (fun hc1 => ?_) (fun hc1 => ?_)
    · exfalso; omega
    · skip
      refine rn_aload_n (k' := 7) rfl rfl rfl ?_
      refine rn_getR (k' := 8) rfl rfl K0_74 (by decide) rfl R0_74_5 ?_
      refine rn_iload_n (k' := 9) rfl rfl rfl ?_
      refine rn_iaload (k' := 10) rfl rfl K0_79 (by omega) (by omega) ?_
      show Rn PT none kX1_stepOn 10 [some (mR 74), some (mI ((n : Int))), v2, v3, v4] [mI (fc (n))] (mkh (m_upd (m_upd (m_upd (m_upd (m_upd (m_upd (m_upd μ 74 H) 75 St) 76 Se) 77 Fr) 78 Co) 79 fc) 80 cc) c s) _
      refine rn_istore_n (k' := 11) (L' := [some (mR 74), some (mI ((n : Int))), some (mI (fc (n))), v3, v4]) rfl rfl (Nat.le_of_ble_eq_true rfl) rfl ?_
      refine rn_iconst (k' := 12) rfl rfl ?_
      refine rn_istore_n (k' := 13) (L' := [some (mR 74), some (mI ((n : Int))), some (mI (fc (n))), some (mI (0)), v4]) rfl rfl (Nat.le_of_ble_eq_true rfl) rfl ?_
      refine l_stepOn_in hL hfm hfc (n := n) (by omega) (fun H2 C2 c2 m2 v3 v4 q1 q2 q3 => ?_) 4 0 _ _ _ _ _ _ rfl (by omega) hH h7 hP
      refine rn_iinc (k' := 45) (L' := [some (mR 74), some (mI ((n : Int) + 1)), some (mI (fc n)), v3, v4]) rfl rfl rfl (by omega) rfl ?_
      refine rn_goto rfl ?_
      exact ih (n + 1) _ _ _ _ _ _ _ _ (by omega) (by omega) q1 q2 (cp_congr q3 (fun y h _ _ => pp_n))
theorem c_stepOn {μ : Nat → Nat → Int} {c s : Nat} (hL : I_land μ) {St Se Fr fc : Nat → Int} {f : Nat} (hfm : f ≤ 100) (hfc : ∀ j, j < f → g_cell μ (fc j)) {H Co cc : Nat → Int} (hH : H 8 = 0) (h7 : H 7 = (f : Int)) (hP : CP (g_cell μ) (fun _ _ => False) 0 Co cc) : Cl PT 21 [mR 74] (mkh (m_upd (m_upd (m_upd (m_upd (m_upd (m_upd (m_upd μ 74 H) 75 St) 76 Se) 77 Fr) 78 Co) 79 fc) 80 cc) c s) (fun r => ∃ (H1 C1 c1 : Nat → Int) (m1 : Nat), r = (some none, mkh (m_upd (m_upd (m_upd (m_upd (m_upd (m_upd (m_upd μ 74 H1) 75 St) 76 Se) 77 Fr) 78 C1) 79 fc) 80 c1) c s) ∧ H1 8 = (m1 : Int) ∧ H1 7 = (f : Int) ∧ CP (g_cell μ) (PP (g_nb μ) St Se Fr fc f 0) m1 C1 c1) := by
  refine ⟨_, PT_21, Nat.le_of_ble_eq_true rfl, ?_⟩
  show Rn PT none kX1_stepOn 0 [some (mR 74), none, none, none, none] [] (mkh (m_upd (m_upd (m_upd (m_upd (m_upd (m_upd (m_upd μ 74 H) 75 St) 76 Se) 77 Fr) 78 Co) 79 fc) 80 cc) c s) _
  refine rn_iconst (k' := 1) rfl rfl ?_
  refine rn_istore_n (k' := 2) (L' := [some (mR 74), some (mI (0)), none, none, none]) rfl rfl (Nat.le_of_ble_eq_true rfl) rfl ?_
  exact l_stepOn hL hfm hfc f 0 _ _ _ _ 0 _ _ _ rfl (by omega) hH h7 (cp_congr hP (fun y h _ _ => ⟨fun z => z.elim, fun z => by obtain ⟨-, -, j, e, q, -⟩ := z; omega⟩))
