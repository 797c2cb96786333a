variable {N : Int}
/-! ===== printed by wip/whole/gen9F.py: the search by ladders of the model; pair: ladders ===== -/
def sx (x : Int) (v : Nat) : Nat := 100 * x.toNat + v
/-- the search at the head k, its first d directions done -/
def lpS (μ : Nat → Nat → Int) (w a b : Int) (t : Nat) (mk qu : Nat → Int) (m B k d : Nat) : Prop :=
  QB (LV (g_nb μ) (g_cell μ) (Sd μ w) (fun x => (1 : Int) = 1 ∧ ¬ μ 8 (200 + x).toNat = -1) (I0 (Sd μ w) (fun x => (1 : Int) = 1 ∧ ¬ μ 8 (200 + x).toNat = -1) (fun h => h = t) a)) mk qu m B ∧
  (∀ (x : Int) (v v' : Nat), g_cell μ x → ¬ μ 8 (200 + x).toNat = -1 → v ≤ 99 → mk (sx x v) < 1000000000 → Sd μ w x v' → mk (sx x v') = mk (sx x v)) ∧
  (∀ (i e s : Nat) (y : Int), (i < k ∨ (i = k ∧ e < d)) → i < m → e < 4 → s < 10000 → qu i = (s : Int) → g_nb μ ((s / 100 : Nat) : Int) (e : Int) = y → ¬ y = -1 → Sd μ w y (s % 100) → mk (sx y (s % 100)) ≤ mk s + 1) ∧
  (∀ (x : Int) (v : Nat), (LV (g_nb μ) (g_cell μ) (Sd μ w) (fun x => (1 : Int) = 1 ∧ ¬ μ 8 (200 + x).toNat = -1) (I0 (Sd μ w) (fun x => (1 : Int) = 1 ∧ ¬ μ 8 (200 + x).toNat = -1) (fun h => h = t) a)) 0 x v → mk (sx x v) ≤ 0) ∧
  (∀ i s : Nat, i < k → i < m → s < 10000 → qu i = (s : Int) → ¬ ((s / 100 : Nat) : Int) = b)
theorem lp_sk {μ : Nat → Nat → Int} {w a b : Int} {t : Nat} {mk qu : Nat → Int} {m B k d s : Nat} (h : lpS μ w a b t mk qu m B k d) (hs : qu k = (s : Int)) (hno : g_nb μ ((s / 100 : Nat) : Int) (d : Int) = -1 ∨ ¬ Sd μ w (g_nb μ ((s / 100 : Nat) : Int) (d : Int)) (s % 100)) : lpS μ w a b t mk qu m B k (d + 1) := by
  obtain ⟨h1, h2, h3, h4, h5⟩ := h
  refine ⟨h1, h2, fun i e u y hi him he hu hq hy hy1 hS => ?_, h4, h5⟩
  by_cases q : i = k ∧ e = d
  · obtain ⟨q1, q2⟩ := q
    subst q1 q2
    have eu : u = s := by rw [hs] at hq; omega
    subst eu
    rcases hno with z | z
    · exact absurd (hy.symm.trans z) hy1
    · rw [hy] at z; exact absurd hS z
  · exact h3 i e u y (by omega) him he hu hq hy hy1 hS
theorem lp_nx {μ : Nat → Nat → Int} {w a b : Int} {t : Nat} {mk qu : Nat → Int} {m B k s : Nat} (h : lpS μ w a b t mk qu m B k 4) (hs : qu k = (s : Int)) (hb : ¬ ((s / 100 : Nat) : Int) = b) : lpS μ w a b t mk qu m B (k + 1) 0 := by
  obtain ⟨h1, h2, h3, h4, h5⟩ := h
  refine ⟨h1, h2, fun i e u y hi him he hu hq hy hy1 hS => h3 i e u y (by omega) him he hu hq hy hy1 hS, h4, fun i u hi him hu hq => ?_⟩
  by_cases e : i = k
  · subst e
    have eu : u = s := by rw [hs] at hq; omega
    rw [eu]; exact hb
  · exact h5 i u (by omega) him hu hq
theorem lv_a {nb : Int → Int → Int} {G : Int → Prop} {S : Int → Nat → Prop} {ld : Int → Prop} {B : Nat → Prop} {a : Int} : ∀ (k : Nat) (x : Int) (h : Nat), LV nb G S ld (I0 S ld B a) k x h → ∃ h', S a h'
  | 0, _, _, z => by
    obtain ⟨⟨h', -, z2, -⟩, -⟩ := z
    exact ⟨h', z2⟩
  | k + 1, x, h, z => by
    rcases z with z | ⟨y, d, h', -, -, -, -, z5, -⟩
    · exact lv_a k x h z
    · exact lv_a k y h' z5
theorem lp_cm {μ : Nat → Nat → Int} (hL : I_land μ) {w a b : Int} (ha : g_cell μ a) {t : Nat} {mk qu mk' qu' : Nat → Int} {m m' B k d s n : Nat} {y : Int} (h : lpS μ w a b t mk qu m B k d) (hk : k < m) (hd : d < 4) (hs9 : s < 10000) (hs : qu k = (s : Int)) (hn : (n : Int) = mk s + 1) (hsm : mk s < 1000000000) (hy : g_nb μ ((s / 100 : Nat) : Int) (d : Int) = y) (hyc : g_cell μ y) (hyS : Sd μ w y (s % 100))
    (hc : cmR (LV (g_nb μ) (g_cell μ) (Sd μ w) (fun x => (1 : Int) = 1 ∧ ¬ μ 8 (200 + x).toNat = -1) (I0 (Sd μ w) (fun x => (1 : Int) = 1 ∧ ¬ μ 8 (200 + x).toNat = -1) (fun h => h = t) a)) (fun v => ¬ μ 8 (200 + y).toNat = -1 ∧ g_stand μ y (v : Int) w) y.toNat (s % 100) n mk qu m mk' qu' m') (hD : mk' (100 * y.toNat + s % 100) < 1000000000 ∧ (¬ mk (100 * y.toNat + s % 100) < 1000000000 → ∀ v : Nat, v < 100 → (v = s % 100 ∨ (¬ μ 8 (200 + y).toNat = -1 ∧ g_stand μ y (v : Int) w)) → mk' (100 * y.toNat + v) < 1000000000)) : lpS μ w a b t mk' qu' m' n k (d + 1) ∧ k < m' ∧ qu' k = (s : Int) ∧ mk' s = mk s := by
  obtain ⟨h1, h2, h3, h4, h5⟩ := h
  obtain ⟨c1, c2, c3, c4, c5⟩ := hc
  have bnd : ∀ i, i < m → ∀ u : Nat, u < 10000 → qu i = (u : Int) → mk u < 1000000000 ∧ mk u ≤ (i : Int) := fun i hi u hu hq => by
    obtain ⟨u2, -, q2, q3, q4⟩ := h1.2.2.1 i hi
    have : u2 = u := by rw [q2] at hq; omega
    subst this
    exact ⟨q3, q4⟩
  have m1 := cn_le (mkF mk) 10000
  rw [h1.1] at m1
  have sxl : ∀ x v, g_cell μ x → v ≤ 99 → sx x v < 10000 := fun x v hx hv => by
    have := g_cell_b hL hx
    unfold sx
    omega
  have yb := g_cell_b hL hyc
  have keep : ∀ u, u < 10000 → mk u < 1000000000 → mk' u = mk u := c3
  refine ⟨⟨c1, fun x v v' hx hl hv hm hS => ?_, fun i e u z hi him he hu hq hz hz1 hS => ?_, fun x v hl => ?_, fun i u hi him hu hq => h5 i u hi (by omega) hu (by rw [← c4 i (by omega)]; exact hq)⟩, by omega, by rw [c4 k hk]; exact hs, keep s hs9 hsm⟩
  · have hxb := g_cell_b hL hx
    by_cases ex : x = y
    · subst ex
      by_cases hf : mk (sx x (s % 100)) < 1000000000
      · -- all at x were marked before
        have hall : ∀ u, Sd μ w x u → mk (sx x u) < 1000000000 := fun u hu => by rw [h2 x _ u hx hl (by omega) hf hu]; exact hf
        have hv2 : mk (sx x v) < 1000000000 := by
          rcases c5 (sx x v) (sxl x v hx hv) with z | ⟨-, -, z3, z4⟩
          · rw [← z]; exact hm
          · have e1 : sx x v % 100 = v := by unfold sx; omega
            rw [e1] at z4
            rcases z4 with q | q
            · rw [q]; exact hf
            · exact hall v ⟨hv, q.2⟩
        rw [keep _ (sxl x v hx hv) hv2, keep _ (sxl x v' hx hS.1) (hall v' hS)]
        exact h2 x v v' hx hl hv hv2 hS
      · have hnone : ∀ u, u ≤ 99 → ¬ mk (sx x u) < 1000000000 := fun u hu q => hf (by rw [h2 x u _ hx hl hu q hyS]; exact q)
        have hval : ∀ u, u ≤ 99 → mk' (sx x u) < 1000000000 → mk' (sx x u) = (n : Int) := fun u hu q => by
          rcases c5 (sx x u) (sxl x u hx hu) with z | ⟨-, z2, -⟩
          · rw [z] at q; exact absurd q (hnone u hu)
          · exact z2
        have hv' := (hD.2 hf) v' (by have := hS.1; omega) (Or.inr ⟨hl, hS.2⟩)
        rw [hval v hv hm, hval v' hS.1 hv']
    · have ne : ∀ u, u ≤ 99 → mk' (sx x u) = mk (sx x u) := fun u hu => by
        rcases c5 (sx x u) (sxl x u hx hu) with z | ⟨z1, -⟩
        · exact z
        · have e1 : sx x u / 100 = x.toNat := by unfold sx; omega
          rw [e1] at z1
          exact absurd (show x = y by omega) ex
      rw [ne v hv] at hm ⊢
      rw [ne v' hS.1]
      exact h2 x v v' hx hl hv hm hS
  · rw [c4 i (by omega)] at hq
    obtain ⟨b1, b2⟩ := bnd i (by omega) u hu hq
    rw [keep u hu b1]
    by_cases q : i = k ∧ e = d
    · obtain ⟨q1, q2⟩ := q
      subst q1 q2
      have eu : u = s := by rw [hs] at hq; omega
      subst eu
      have ez : z = y := hz.symm.trans hy
      subst ez
      rcases c1.2.1 (sx z (u % 100)) (sxl z _ hyc (by omega)) with q | q
      · have := hD.1
        unfold sx at q
        omega
      · have := q.2.1
        omega
    · have h9 := h3 i e u z (by omega) (by omega) he hu hq hz hz1 hS
      have hzc : sx z (u % 100) < 10000 := by
        have hc0 : g_cell μ ((u / 100 : Nat) : Int) := by
          rcases h1.2.1 u hu with q | q
          · omega
          · exact (lv_G (g_GR hL) (i0_li ha) _ _ _ q.2.2).1
        have := (g_GR hL).2 _ (e : Int) hc0 (by omega) (by omega)
        rw [hz] at this
        exact sxl z _ (this.resolve_left hz1) (by omega)
      rw [keep _ hzc (by omega)]
      exact h9
  · have h9 := h4 x v hl
    have hg := lv_G (g_GR hL) (i0_li ha) 0 x v hl
    rw [keep _ (sxl x v hg.1 hg.2.1) (by omega)]
    exact h9
/-- all below the head's mark is marked -/
theorem lp_all {μ : Nat → Nat → Int} (hL : I_land μ) {w a b : Int} (ha : g_cell μ a) {t : Nat} {mk qu : Nat → Int} {m B k : Nat} (h : lpS μ w a b t mk qu m B k 0) {L : Int} (hL9 : L ≤ 20000) (hpr : ∀ i, i < m → mk (qu i).toNat < L → i < k) : ∀ (n : Nat) (x : Int) (v : Nat), (n : Int) ≤ L → (LV (g_nb μ) (g_cell μ) (Sd μ w) (fun x => (1 : Int) = 1 ∧ ¬ μ 8 (200 + x).toNat = -1) (I0 (Sd μ w) (fun x => (1 : Int) = 1 ∧ ¬ μ 8 (200 + x).toNat = -1) (fun h => h = t) a)) n x v → mk (sx x v) ≤ (n : Int) := by
  obtain ⟨h1, h2, h3, h4, h5⟩ := h
  intro n
  induction n with
  | zero => intro x v _ z; exact h4 x v z
  | succ n ih =>
    intro x v hn z
    rcases z with z | ⟨y, d, v', z1, z2, z3, z4, z5, z6, z7, z8⟩
    · have := ih x v (by omega) z
      omega
    · have hy := ih y v' (by omega) z5
      obtain ⟨gy, sy⟩ := lv_G (g_GR hL) (i0_li ha) n y v' z5
      have yb := g_cell_b hL gy
      have sy9 := sy.1
      have e1 : sx y v' / 100 = y.toNat := by unfold sx; omega
      have e2 : sx y v' % 100 = v' := by unfold sx; omega
      have sl : sx y v' < 10000 := by unfold sx; omega
      have mm := cn_le (mkF mk) 10000
      rw [h1.1] at mm
      have hfin : mk (sx y v') < 1000000000 := by omega
      obtain ⟨i, i1, i2⟩ := h1.2.2.2.1 (sx y v') sl hfin
      have ik : i < k := hpr i i1 (by rw [i2, show (((sx y v' : Nat) : Int)).toNat = sx y v' from rfl]; omega)
      have h9 := h3 i d (sx y v') x (Or.inl ik) i1 z1 sl i2 (by rw [e1, Int.toNat_of_nonneg yb.1]; exact z3) z4 (by rw [e2]; exact z6)
      rw [e2] at h9
      rcases z8 with e | l
      · rw [e]; omega
      · have xb := (g_GR hL).2 y d gy (by omega) (by omega)
        rw [z3] at xb
        have gx := xb.resolve_left z4
        have hv : mk (sx x v) = mk (sx x v') := h2 x v' v gx l.2 z6.1 (by omega) z7
        omega
theorem g_lad_no2 {μ : Nat → Nat → Int} {a b w : Int} {t : Nat} (h2 : ∀ j, j < 10000 → ¬ ∃ h, (LV (g_nb μ) (g_cell μ) (Sd μ w) (fun x => (1 : Int) = 1 ∧ ¬ μ 8 (200 + x).toNat = -1) (I0 (Sd μ w) (fun x => (1 : Int) = 1 ∧ ¬ μ 8 (200 + x).toNat = -1) (fun h => h = t) a)) j b h) : g_lad μ a b t w = -1 := by
  unfold g_lad
  exact @fF_none _ (fun _ => Classical.propDecidable _) 10000 0 (fun j _ hj => h2 j (by omega))
theorem lp_end {μ : Nat → Nat → Int} (hL : I_land μ) {w a b : Int} (ha : g_cell μ a) (hb : g_cell μ b) {t : Nat} {mk qu : Nat → Int} {m B k : Nat} (h : lpS μ w a b t mk qu m B k 0) (hk : m ≤ k) : g_lad μ a b t w = -1 := by
  refine g_lad_no2 (fun j hj ⟨v, hv⟩ => ?_)
  have h9 := lp_all hL ha h (L := 20000) (by decide) (fun i hi _ => by omega) j b v (by omega) hv
  obtain ⟨-, sv⟩ := lv_G (g_GR hL) (i0_li ha) j b v hv
  have bb := g_cell_b hL hb
  have sv9 := sv.1
  obtain ⟨i, i1, i2⟩ := h.1.2.2.2.1 (sx b v) (by unfold sx; omega) (by omega)
  exact h.2.2.2.2 i (sx b v) (by omega) i1 (by unfold sx; omega) i2 (by rw [show sx b v / 100 = b.toNat by unfold sx; omega, Int.toNat_of_nonneg bb.1])
theorem lp_hit {μ : Nat → Nat → Int} (hL : I_land μ) {w a b : Int} (ha : g_cell μ a) (hb : g_cell μ b) {t : Nat} {mk qu : Nat → Int} {m B k s L : Nat} (h : lpS μ w a b t mk qu m B k 0) (hk : k < m) (hs9 : s < 10000) (hs : qu k = (s : Int)) (hm : mk s = (L : Int)) (hsb : ((s / 100 : Nat) : Int) = b) : g_lad μ a b t w = (L : Int) := by
  have bb := g_cell_b hL hb
  obtain ⟨u, u1, u2, u3, u4⟩ := h.1.2.2.1 k hk
  have eu : u = s := by rw [u2] at hs; omega
  subst eu
  have mm := cn_le (mkF mk) 10000
  rw [h.1.1] at mm
  have hlv : (LV (g_nb μ) (g_cell μ) (Sd μ w) (fun x => (1 : Int) = 1 ∧ ¬ μ 8 (200 + x).toNat = -1) (I0 (Sd μ w) (fun x => (1 : Int) = 1 ∧ ¬ μ 8 (200 + x).toNat = -1) (fun h => h = t) a)) L b (u % 100) := by
    rcases h.1.2.1 u hs9 with q | q
    · omega
    · have := q.2.2
      rw [hm, hsb] at this
      exact this
  refine g_lad_is hL ha hlv (fun j hj ⟨v, hv⟩ => ?_)
  have h9 := lp_all hL ha h (L := (L : Int)) (by omega) (fun i hi hlt => by
    rcases Nat.lt_or_ge i k with q | q
    · exact q
    · have := h.1.2.2.2.2 k i q hi
      rw [hs, show ((u : Int)).toNat = u from rfl, hm] at this
      omega) j b v (by omega) hv
  obtain ⟨-, sv⟩ := lv_G (g_GR hL) (i0_li ha) j b v hv
  have sv9 := sv.1
  obtain ⟨i, i1, i2⟩ := h.1.2.2.2.1 (sx b v) (by unfold sx; omega) (by omega)
  rcases Nat.lt_or_ge i k with q | q
  · exact h.2.2.2.2 i (sx b v) q i1 (by unfold sx; omega) i2 (by rw [show sx b v / 100 = b.toNat by unfold sx; omega, Int.toNat_of_nonneg bb.1])
  · have := h.1.2.2.2.2 k i q i1
    rw [hs, i2, show ((u : Int)).toNat = u from rfl, show (((sx b v : Nat) : Int)).toNat = sx b v from rfl, hm] at this
    omega
set_option maxHeartbeats 4000000 in
theorem l_ld_in {μ : Nat → Nat → Int} {c sc : Nat} (hL : I_land μ) {a b w wi : Int} (hw : 0 ≤ w ∧ w ≤ 1000) (ha : g_cell μ a) (hbc : g_cell μ b) {t : Nat} (ht : t ≤ 99) {dy : Int} {kp s L : Nat} (hs9 : s < 10000) (hxc : g_cell μ ((s / 100 : Nat) : Int)) (hlv : (LV (g_nb μ) (g_cell μ) (Sd μ w) (fun x => (1 : Int) = 1 ∧ ¬ μ 8 (200 + x).toNat = -1) (I0 (Sd μ w) (fun x => (1 : Int) = 1 ∧ ¬ μ 8 (200 + x).toNat = -1) (fun h => h = t) a)) L ((s / 100 : Nat) : Int) (s % 100)) {Q : MR → Prop} (K : ∀ (mk qu : Nat → Int) (m B : Nat) v8 v9, lpS μ w a b t mk qu m B kp 4 → kp < m → qu kp = (s : Int) → mk s = (L : Int) → B ≤ L + 1 → Rn PT none kX12_ladders 105 [some (mR 118), some (mI (a)), some (mI (b)), some (mI ((t : Int))), some (mI (dy)), some (mI ((kp : Int))), some (mI (((s / 100 : Nat) : Int))), some (mI (((s % 100 : Nat) : Int))), v8, v9] [] (mkh (m_upd (m_upd (m_set (m_set (m_set (m_set μ 118 0 (0)) 118 22 (w)) 118 23 (wi)) 118 29 ((m : Int))) 128 mk) 129 qu) c sc) Q) : ∀ (d d0 : Nat) (k : Int) (mk : Nat → Int) (qu : Nat → Int) (m : Nat) (B : Nat) (v9 : Option MV), k = (d0 : Int) → d0 + d = 4 → (lpS μ w a b t mk qu m B kp d0) → (kp < m) → (qu kp = (s : Int)) → (mk s = (L : Int)) → (B ≤ L + 1) → Rn PT none kX12_ladders 75 [some (mR 118), some (mI (a)), some (mI (b)), some (mI ((t : Int))), some (mI (dy)), some (mI ((kp : Int))), some (mI (((s / 100 : Nat) : Int))), some (mI (((s % 100 : Nat) : Int))), some (mI (k)), v9] [] (mkh (m_upd (m_upd (m_set (m_set (m_set (m_set μ 118 0 (0)) 118 22 (w)) 118 23 (wi)) 118 29 ((m : Int))) 128 mk) 129 qu) c sc) (Q) := by
  have hL_ := hL
  obtain ⟨lc, lr, le, lm, lw, lh, lwo, lwd, q0, q1, q2, q3, q4, q8, q499, q500, lth, lG, lT, lW, -⟩ := hL_
  have hxb := g_cell_b hL hxc
  intro d
  induction d with
  | zero =>
    intro d0 k mk qu m B v9 ek hn hP hkm hq hmk hB
    subst ek
    have mm := cn_le (mkF mk) 10000
    rw [hP.1.1] at mm
    have hL9 : L ≤ kp := by
      obtain ⟨u, u1, u2, u3, u4⟩ := hP.1.2.2.1 kp hkm
      have : u = s := by rw [u2] at hq; omega
      subst this
      omega
    have e4 : d0 = 4 := by omega
    rw [e4] at hP
    refine rn_iload (k' := 76) rfl rfl rfl ?_
    refine rn_iconst (k' := 77) rfl rfl ?_
    refine rn_icmp_ge (k' := 78) rfl rfl (fun hc1 => ?_) (fun hc1 => ?_)
    · skip
      exact K _ _ _ _ _ _ hP hkm hq hmk hB
    · exfalso; omega
  | succ d ih =>
    intro d0 k mk qu m B v9 ek hn hP hkm hq hmk hB
    subst ek
    have mm := cn_le (mkF mk) 10000
    rw [hP.1.1] at mm
    have hL9 : L ≤ kp := by
      obtain ⟨u, u1, u2, u3, u4⟩ := hP.1.2.2.1 kp hkm
      have : u = s := by rw [u2] at hq; omega
      subst this
      omega
    have hN := (g_GR hL).2 ((s / 100 : Nat) : Int) (d0 : Int) hxc (by omega) (by omega)
    have hNb : g_nb μ ((s / 100 : Nat) : Int) (d0 : Int) = -1 ∨ (0 ≤ g_nb μ ((s / 100 : Nat) : Int) (d0 : Int) ∧ g_nb μ ((s / 100 : Nat) : Int) (d0 : Int) < 100) := hN.imp_right (fun z => g_cell_b hL z)
    have hNc : 0 ≤ g_nb μ ((s / 100 : Nat) : Int) (d0 : Int) → g_cell μ (g_nb μ ((s / 100 : Nat) : Int) (d0 : Int)) := fun z => hN.resolve_left (by omega)
    have hq2 : qu ((kp : Int)).toNat = (s : Int) := hq
    refine rn_iload (k' := 76) rfl rfl rfl ?_
    refine rn_iconst (k' := 77) rfl rfl ?_
    refine rn_icmp_ge (k' := 78) rfl rfl (fun hc1 => ?_) (fun hc1 => ?_)
    · exfalso; omega
    · skip
      refine rn_aload_n (k' := 79) rfl rfl rfl ?_
      refine rn_iload (k' := 80) rfl rfl rfl ?_
      refine rn_iload (k' := 81) rfl rfl rfl ?_
      refine rn_callP (k' := 82) (y := 211) (vs := [mR 118, mI (((s / 100 : Nat) : Int)), mI ((d0 : Int))]) (S' := []) (v := some (mI (g_nb μ ((s / 100 : Nat) : Int) (d0 : Int)))) (h' := mkh (m_upd (m_upd (m_set (m_set (m_set (m_set μ 118 0 (0)) 118 22 (w)) 118 23 (wi)) 118 29 ((m : Int))) 128 mk) 129 qu) c sc) rfl rfl rfl (c_X12_beside (((((((hL).set rfl).set rfl).set rfl).set rfl).upd rfl).upd rfl) (a := ((s / 100 : Nat) : Int)) (d := (d0 : Int)) hxc (by omega)) ?_
      show Rn PT none kX12_ladders 82 [some (mR 118), some (mI (a)), some (mI (b)), some (mI ((t : Int))), some (mI (dy)), some (mI ((kp : Int))), some (mI (((s / 100 : Nat) : Int))), some (mI (((s % 100 : Nat) : Int))), some (mI ((d0 : Int))), v9] [mI (g_nb μ ((s / 100 : Nat) : Int) (d0 : Int))] (mkh (m_upd (m_upd (m_set (m_set (m_set (m_set μ 118 0 (0)) 118 22 (w)) 118 23 (wi)) 118 29 ((m : Int))) 128 mk) 129 qu) c sc) _
      refine rn_istore (k' := 83) (L' := [some (mR 118), some (mI (a)), some (mI (b)), some (mI ((t : Int))), some (mI (dy)), some (mI ((kp : Int))), some (mI (((s / 100 : Nat) : Int))), some (mI (((s % 100 : Nat) : Int))), some (mI ((d0 : Int))), some (mI (g_nb μ ((s / 100 : Nat) : Int) (d0 : Int)))]) rfl rfl (Nat.le_of_ble_eq_true rfl) rfl ?_
      refine rn_iload (k' := 84) rfl rfl rfl ?_
      refine rn_if_lt (k' := 85) rfl rfl (fun hc2 => ?_) (fun hc2 => ?_)
      · skip
        refine rn_iinc (k' := 104) (L' := [some (mR 118), some (mI (a)), some (mI (b)), some (mI ((t : Int))), some (mI (dy)), some (mI ((kp : Int))), some (mI (((s / 100 : Nat) : Int))), some (mI (((s % 100 : Nat) : Int))), some (mI ((d0 : Int) + 1)), some (mI (g_nb μ ((s / 100 : Nat) : Int) (d0 : Int)))]) rfl rfl rfl (by omega) rfl ?_
        refine rn_goto rfl ?_
        exact ih (d0 + 1) _ mk qu m B _ (by omega) (by omega) (lp_sk hP hq (by first | exact Or.inl (by omega) | exact Or.inr (fun z => absurd z.2 (by assumption)))) hkm hq hmk hB
      · skip
        refine rn_aload_n (k' := 86) rfl rfl rfl ?_
        refine rn_iload (k' := 87) rfl rfl rfl ?_
        refine rn_iload (k' := 88) rfl rfl rfl ?_
        by_cases hq3 : g_stand μ (g_nb μ ((s / 100 : Nat) : Int) (d0 : Int)) ((s % 100 : Nat) : Int) w
        · refine rn_callP (k' := 89) (y := 203) (vs := [mR 118, mI (g_nb μ ((s / 100 : Nat) : Int) (d0 : Int)), mI (((s % 100 : Nat) : Int))]) (S' := []) (v := some (mI 1)) (h' := mkh (m_upd (m_upd (m_set (m_set (m_set (m_set μ 118 0 (0)) 118 22 (w)) 118 23 (wi)) 118 29 ((m : Int))) 128 mk) 129 qu) c sc) rfl rfl rfl (by have hz : Cl PT 203 [mR 118, mI (g_nb μ ((s / 100 : Nat) : Int) (d0 : Int)), mI (((s % 100 : Nat) : Int))] (mkh (m_upd (m_upd (m_set (m_set (m_set (m_set μ 118 0 (0)) 118 22 (w)) 118 23 (wi)) 118 29 ((m : Int))) 128 mk) 129 qu) c sc) (fun r => r = (some (some (mI (if g_stand μ (g_nb μ ((s / 100 : Nat) : Int) (d0 : Int)) ((s % 100 : Nat) : Int) w then 1 else 0))), mkh (m_upd (m_upd (m_set (m_set (m_set (m_set μ 118 0 (0)) 118 22 (w)) 118 23 (wi)) 118 29 ((m : Int))) 128 mk) 129 qu) c sc)) := c_X12_standsOn (((((((hL).set rfl).set rfl).set rfl).set rfl).upd rfl).upd rfl) (by show 0 ≤ w ∧ w ≤ 1000; exact hw) (a := g_nb μ ((s / 100 : Nat) : Int) (d0 : Int)) (t := ((s % 100 : Nat) : Int)) (hNc (by omega)) (by omega) (μ := (m_upd (m_upd (m_set (m_set (m_set (m_set μ 118 0 (0)) 118 22 (w)) 118 23 (wi)) 118 29 ((m : Int))) 128 mk) 129 qu)) (c := c) (s := sc); rw [if_pos hq3] at hz; exact hz) ?_
          show Rn PT none kX12_ladders 89 [some (mR 118), some (mI (a)), some (mI (b)), some (mI ((t : Int))), some (mI (dy)), some (mI ((kp : Int))), some (mI (((s / 100 : Nat) : Int))), some (mI (((s % 100 : Nat) : Int))), some (mI ((d0 : Int))), some (mI (g_nb μ ((s / 100 : Nat) : Int) (d0 : Int)))] [mI (1)] (mkh (m_upd (m_upd (m_set (m_set (m_set (m_set μ 118 0 (0)) 118 22 (w)) 118 23 (wi)) 118 29 ((m : Int))) 128 mk) 129 qu) c sc) _
          refine rn_if_eq (k' := 90) rfl rfl (fun hc4 => ?_) (fun hc4 => ?_)
          · exfalso; omega
          · skip
            refine rn_aload_n (k' := 91) rfl rfl rfl ?_
            refine rn_iload (k' := 92) rfl rfl rfl ?_
            refine rn_iload (k' := 93) rfl rfl rfl ?_
            refine rn_aload_n (k' := 94) rfl rfl rfl ?_
            refine rn_getR (k' := 95) rfl rfl K0_118 (by decide) rfl R0_118_27 ?_
            refine rn_aload_n (k' := 96) rfl rfl rfl ?_
            refine rn_getR (k' := 97) rfl rfl K0_118 (by decide) rfl R0_118_28 ?_
            refine rn_iload (k' := 98) rfl rfl rfl ?_
            refine rn_iaload (k' := 99) rfl rfl K0_129 (by omega) (by omega) ?_
            show Rn PT none kX12_ladders 99 [some (mR 118), some (mI (a)), some (mI (b)), some (mI ((t : Int))), some (mI (dy)), some (mI ((kp : Int))), some (mI (((s / 100 : Nat) : Int))), some (mI (((s % 100 : Nat) : Int))), some (mI ((d0 : Int))), some (mI (g_nb μ ((s / 100 : Nat) : Int) (d0 : Int)))] [mI (qu (kp)), mR 128, mI (((s % 100 : Nat) : Int)), mI (g_nb μ ((s / 100 : Nat) : Int) (d0 : Int)), mR 118] (mkh (m_upd (m_upd (m_set (m_set (m_set (m_set μ 118 0 (0)) 118 22 (w)) 118 23 (wi)) 118 29 ((m : Int))) 128 mk) 129 qu) c sc) _
            rw [hq]
            refine rn_iaload (k' := 100) rfl rfl K0_128 (by omega) (by omega) ?_
            show Rn PT none kX12_ladders 100 [some (mR 118), some (mI (a)), some (mI (b)), some (mI ((t : Int))), some (mI (dy)), some (mI ((kp : Int))), some (mI (((s / 100 : Nat) : Int))), some (mI (((s % 100 : Nat) : Int))), some (mI ((d0 : Int))), some (mI (g_nb μ ((s / 100 : Nat) : Int) (d0 : Int)))] [mI (mk (s)), mI (((s % 100 : Nat) : Int)), mI (g_nb μ ((s / 100 : Nat) : Int) (d0 : Int)), mR 118] (mkh (m_upd (m_upd (m_set (m_set (m_set (m_set μ 118 0 (0)) 118 22 (w)) 118 23 (wi)) 118 29 ((m : Int))) 128 mk) 129 qu) c sc) _
            rw [hmk]
            refine rn_iconst (k' := 101) rfl rfl ?_
            refine rn_iadd (k' := 102) rfl rfl (by omega) ?_
            have hyc : g_cell μ (g_nb μ ((s / 100 : Nat) : Int) (d0 : Int)) := hN.resolve_left (by omega)
            have hyS : Sd μ w (g_nb μ ((s / 100 : Nat) : Int) (d0 : Int)) (s % 100) := ⟨by omega, by assumption⟩
            obtain ⟨mk1, qu1, m1, ⟨e1, e2⟩, hcl0⟩ := c_comes (μ := (m_set (m_set (m_set μ 118 0 (0)) 118 22 (w)) 118 23 (wi))) (c := c) (s := sc) ((((hL).set rfl).set rfl).set rfl) (by show 0 ≤ w ∧ w ≤ 1000; exact hw) (Lv := (LV (g_nb μ) (g_cell μ) (Sd μ w) (fun x => (1 : Int) = 1 ∧ ¬ μ 8 (200 + x).toNat = -1) (I0 (Sd μ w) (fun x => (1 : Int) = 1 ∧ ¬ μ 8 (200 + x).toNat = -1) (fun h => h = t) a))) (x := g_nb μ ((s / 100 : Nat) : Int) (d0 : Int)) hyc (t := s % 100) (n := L + 1) (by omega) (mk := mk) (qu := qu) (m := m) (by omega) (by omega) (Or.inr ⟨_, d0, s % 100, by omega, hxc, rfl, by omega, hlv, hyS, hyS, Or.inl rfl⟩) (fun hl v hv9 hst => Or.inr ⟨_, d0, s % 100, by omega, hxc, rfl, by omega, hlv, hyS, ⟨hv9, hst⟩, Or.inr ⟨rfl, hl⟩⟩) (qb_le hP.1 hB)
            have e1b : cmR (LV (g_nb μ) (g_cell μ) (Sd μ w) (fun x => (1 : Int) = 1 ∧ ¬ μ 8 (200 + x).toNat = -1) (I0 (Sd μ w) (fun x => (1 : Int) = 1 ∧ ¬ μ 8 (200 + x).toNat = -1) (fun h => h = t) a)) (fun v => ¬ μ 8 (200 + (g_nb μ ((s / 100 : Nat) : Int) (d0 : Int))).toNat = -1 ∧ g_stand μ (g_nb μ ((s / 100 : Nat) : Int) (d0 : Int)) (v : Int) w) (g_nb μ ((s / 100 : Nat) : Int) (d0 : Int)).toNat (s % 100) (L + 1) mk qu m mk1 qu1 m1 := e1
            obtain ⟨w1, w2, w3, w4⟩ := lp_cm hL ha hP hkm (by omega) hs9 hq (n := L + 1) (by omega) (by omega) rfl hyc hyS e1b e2
            have hcl : Cl PT 222 [mR 118, mI (g_nb μ ((s / 100 : Nat) : Int) (d0 : Int)), mI (((s % 100 : Nat) : Int)), mI ((L : Int) + 1)] (mkh (m_upd (m_upd (m_set (m_set (m_set (m_set μ 118 0 (0)) 118 22 (w)) 118 23 (wi)) 118 29 ((m : Int))) 128 mk) 129 qu) c sc) (fun r => r = (some none, mkh (m_upd (m_upd (m_set (m_set (m_set (m_set μ 118 0 (0)) 118 22 (w)) 118 23 (wi)) 118 29 ((m1 : Int))) 128 mk1) 129 qu1) c sc)) := by
              rw [show (((L + 1 : Nat)) : Int) = (L : Int) + 1 by omega] at hcl0
              exact hcl0
            refine rn_callP (k' := 103) (y := 222) (vs := [mR 118, mI (g_nb μ ((s / 100 : Nat) : Int) (d0 : Int)), mI (((s % 100 : Nat) : Int)), mI ((L : Int) + 1)]) (S' := []) (v := none) (h' := mkh (m_upd (m_upd (m_set (m_set (m_set (m_set μ 118 0 (0)) 118 22 (w)) 118 23 (wi)) 118 29 ((m1 : Int))) 128 mk1) 129 qu1) c sc) rfl rfl rfl (hcl) ?_
            show Rn PT none kX12_ladders 103 [some (mR 118), some (mI (a)), some (mI (b)), some (mI ((t : Int))), some (mI (dy)), some (mI ((kp : Int))), some (mI (((s / 100 : Nat) : Int))), some (mI (((s % 100 : Nat) : Int))), some (mI ((d0 : Int))), some (mI (g_nb μ ((s / 100 : Nat) : Int) (d0 : Int)))] [] (mkh (m_upd (m_upd (m_set (m_set (m_set (m_set μ 118 0 (0)) 118 22 (w)) 118 23 (wi)) 118 29 ((m1 : Int))) 128 mk1) 129 qu1) c sc) _
            refine rn_iinc (k' := 104) (L' := [some (mR 118), some (mI (a)), some (mI (b)), some (mI ((t : Int))), some (mI (dy)), some (mI ((kp : Int))), some (mI (((s / 100 : Nat) : Int))), some (mI (((s % 100 : Nat) : Int))), some (mI ((d0 : Int) + 1)), some (mI (g_nb μ ((s / 100 : Nat) : Int) (d0 : Int)))]) rfl rfl rfl (by omega) rfl ?_
            refine rn_goto rfl ?_
            exact ih (d0 + 1) _ mk1 qu1 m1 (L + 1) _ (by omega) (by omega) w1 w2 w3 (w4.trans hmk) (Nat.le_refl _)
        · refine rn_callP (k' := 89) (y := 203) (vs := [mR 118, mI (g_nb μ ((s / 100 : Nat) : Int) (d0 : Int)), mI (((s % 100 : Nat) : Int))]) (S' := []) (v := some (mI 0)) (h' := mkh (m_upd (m_upd (m_set (m_set (m_set (m_set μ 118 0 (0)) 118 22 (w)) 118 23 (wi)) 118 29 ((m : Int))) 128 mk) 129 qu) c sc) rfl rfl rfl (by have hz : Cl PT 203 [mR 118, mI (g_nb μ ((s / 100 : Nat) : Int) (d0 : Int)), mI (((s % 100 : Nat) : Int))] (mkh (m_upd (m_upd (m_set (m_set (m_set (m_set μ 118 0 (0)) 118 22 (w)) 118 23 (wi)) 118 29 ((m : Int))) 128 mk) 129 qu) c sc) (fun r => r = (some (some (mI (if g_stand μ (g_nb μ ((s / 100 : Nat) : Int) (d0 : Int)) ((s % 100 : Nat) : Int) w then 1 else 0))), mkh (m_upd (m_upd (m_set (m_set (m_set (m_set μ 118 0 (0)) 118 22 (w)) 118 23 (wi)) 118 29 ((m : Int))) 128 mk) 129 qu) c sc)) := c_X12_standsOn (((((((hL).set rfl).set rfl).set rfl).set rfl).upd rfl).upd rfl) (by show 0 ≤ w ∧ w ≤ 1000; exact hw) (a := g_nb μ ((s / 100 : Nat) : Int) (d0 : Int)) (t := ((s % 100 : Nat) : Int)) (hNc (by omega)) (by omega) (μ := (m_upd (m_upd (m_set (m_set (m_set (m_set μ 118 0 (0)) 118 22 (w)) 118 23 (wi)) 118 29 ((m : Int))) 128 mk) 129 qu)) (c := c) (s := sc); rw [if_neg hq3] at hz; exact hz) ?_
          show Rn PT none kX12_ladders 89 [some (mR 118), some (mI (a)), some (mI (b)), some (mI ((t : Int))), some (mI (dy)), some (mI ((kp : Int))), some (mI (((s / 100 : Nat) : Int))), some (mI (((s % 100 : Nat) : Int))), some (mI ((d0 : Int))), some (mI (g_nb μ ((s / 100 : Nat) : Int) (d0 : Int)))] [mI (0)] (mkh (m_upd (m_upd (m_set (m_set (m_set (m_set μ 118 0 (0)) 118 22 (w)) 118 23 (wi)) 118 29 ((m : Int))) 128 mk) 129 qu) c sc) _
          refine rn_if_eq (k' := 90) rfl rfl (fun hc6 => ?_) (fun hc6 => ?_)
          · skip
            refine rn_iinc (k' := 104) (L' := [some (mR 118), some (mI (a)), some (mI (b)), some (mI ((t : Int))), some (mI (dy)), some (mI ((kp : Int))), some (mI (((s / 100 : Nat) : Int))), some (mI (((s % 100 : Nat) : Int))), some (mI ((d0 : Int) + 1)), some (mI (g_nb μ ((s / 100 : Nat) : Int) (d0 : Int)))]) rfl rfl rfl (by omega) rfl ?_
            refine rn_goto rfl ?_
            exact ih (d0 + 1) _ mk qu m B _ (by omega) (by omega) (lp_sk hP hq (by first | exact Or.inl (by omega) | exact Or.inr (fun z => absurd z.2 (by assumption)))) hkm hq hmk hB
          · exfalso; omega
theorem lp_0 {μ : Nat → Nat → Int} {w a b : Int} {t : Nat} {mk qu : Nat → Int} {m B k : Nat} (h : lpS μ w a b t mk qu m B k 0) : lpS μ w a b t mk qu m B k 0 := h
set_option maxHeartbeats 4000000 in
theorem l_ld {μ : Nat → Nat → Int} {c sc : Nat} (hL : I_land μ) {a b w wi : Int} (hw : 0 ≤ w ∧ w ≤ 1000) (ha : g_cell μ a) (hbc : g_cell μ b) {t : Nat} (ht : t ≤ 99) {dy : Int} : ∀ (d kp : Nat) (k : Int) (mk qu : Nat → Int) (m B : Nat) (v6 v7 v8 v9 : Option MV), k = (kp : Int) → kp + d = 10001 → (lpS μ w a b t mk qu m B kp 0) → (kp < m → (B : Int) ≤ mk (qu kp).toNat + 1) → Rn PT none kX12_ladders 44 [some (mR 118), some (mI (a)), some (mI (b)), some (mI ((t : Int))), some (mI (dy)), some (mI (k)), v6, v7, v8, v9] [] (mkh (m_upd (m_upd (m_set (m_set (m_set (m_set μ 118 0 (0)) 118 22 (w)) 118 23 (wi)) 118 29 ((m : Int))) 128 mk) 129 qu) c sc) (fun r => ∃ M : Nat → Nat → Int, r = (some (some (mI (g_lad μ a b t w))), mkh M c sc) ∧ rst M = rst μ) := by
  have hL_ := hL
  obtain ⟨lc, lr, le, lm, lw, lh, lwo, lwd, q0, q1, q2, q3, q4, q8, q499, q500, lth, lG, lT, lW, -⟩ := hL_
  have hbb := g_cell_b hL hbc
  intro d
  induction d with
  | zero =>
    intro kp k mk qu m B v6 v7 v8 v9 ek hn hP hB
    subst ek
    have mm := cn_le (mkF mk) 10000
    rw [hP.1.1] at mm
    refine rn_iload (k' := 45) rfl rfl rfl ?_
    refine rn_aload_n (k' := 46) rfl rfl rfl ?_
    refine rn_getI (k' := 47) rfl rfl K0_118 (by decide) rfl ?_
    show Rn PT none kX12_ladders 47 [some (mR 118), some (mI (a)), some (mI (b)), some (mI ((t : Int))), some (mI (dy)), some (mI ((kp : Int))), v6, v7, v8, v9] [mI ((m : Int)), mI ((kp : Int))] (mkh (m_upd (m_upd (m_set (m_set (m_set (m_set μ 118 0 (0)) 118 22 (w)) 118 23 (wi)) 118 29 ((m : Int))) 128 mk) 129 qu) c sc) _
    refine rn_icmp_ge (k' := 48) rfl rfl (fun hc1 => ?_) (fun hc1 => ?_)
    · skip
      refine rn_iconst (k' := 108) rfl rfl ?_
      refine rn_iret rfl (Or.inl rfl) ?_
      refine ⟨(m_upd (m_upd (m_set (m_set (m_set (m_set μ 118 0 (0)) 118 22 (w)) 118 23 (wi)) 118 29 ((m : Int))) 128 mk) 129 qu), ?_, ((rst_upd (a := 129) (fun _ => rfl)).trans ((rst_upd (a := 128) (fun _ => rfl)).trans ((rst_set (a := 118) (j := 29) rfl).trans ((rst_set (a := 118) (j := 23) rfl).trans ((rst_set (a := 118) (j := 22) rfl).trans (rst_set (a := 118) (j := 0) rfl))))))⟩
      rw [lp_end hL ha hbc hP (by omega)]
    · exfalso; omega
  | succ d ih =>
    intro kp k mk qu m B v6 v7 v8 v9 ek hn hP hB
    subst ek
    have mm := cn_le (mkF mk) 10000
    rw [hP.1.1] at mm
    by_cases hkm : kp < m
    · obtain ⟨s, hs9, hq, hs3, hs4⟩ := hP.1.2.2.1 kp hkm
      obtain ⟨L, hmk⟩ : ∃ L : Nat, mk s = (L : Int) := by
        rcases hP.1.2.1 s hs9 with z | z
        · omega
        · exact Int.eq_ofNat_of_zero_le z.1
      have hlv : (LV (g_nb μ) (g_cell μ) (Sd μ w) (fun x => (1 : Int) = 1 ∧ ¬ μ 8 (200 + x).toNat = -1) (I0 (Sd μ w) (fun x => (1 : Int) = 1 ∧ ¬ μ 8 (200 + x).toNat = -1) (fun h => h = t) a)) L ((s / 100 : Nat) : Int) (s % 100) := by
        rcases hP.1.2.1 s hs9 with z | z
        · omega
        · have := z.2.2
          rw [hmk] at this
          exact this
      have hxc := (lv_G (g_GR hL) (i0_li ha) _ _ _ hlv).1
      have hB2 : B ≤ L + 1 := by
        have := hB hkm
        rw [hq, show ((s : Int)).toNat = s from rfl, hmk] at this
        omega
      have hdv : ((s : Int)).tdiv 100 = ((s / 100 : Nat) : Int) := by rw [Int.tdiv_eq_ediv_of_nonneg (by omega)]; omega
      have hmd : ((s : Int)).tmod 100 = ((s % 100 : Nat) : Int) := by rw [Int.tmod_eq_emod_of_nonneg (by omega)]; omega
      refine rn_iload (k' := 45) rfl rfl rfl ?_
      refine rn_aload_n (k' := 46) rfl rfl rfl ?_
      refine rn_getI (k' := 47) rfl rfl K0_118 (by decide) rfl ?_
      show Rn PT none kX12_ladders 47 [some (mR 118), some (mI (a)), some (mI (b)), some (mI ((t : Int))), some (mI (dy)), some (mI ((kp : Int))), v6, v7, v8, v9] [mI ((m : Int)), mI ((kp : Int))] (mkh (m_upd (m_upd (m_set (m_set (m_set (m_set μ 118 0 (0)) 118 22 (w)) 118 23 (wi)) 118 29 ((m : Int))) 128 mk) 129 qu) c sc) _
      refine rn_icmp_ge (k' := 48) rfl rfl (fun hc1 => ?_) (fun hc1 => ?_)
      · exfalso; omega
      · skip
        refine rn_aload_n (k' := 49) rfl rfl rfl ?_
        refine rn_getR (k' := 50) rfl rfl K0_118 (by decide) rfl R0_118_28 ?_
        refine rn_iload (k' := 51) rfl rfl rfl ?_
        refine rn_iaload (k' := 52) rfl rfl K0_129 (by omega) (by omega) ?_
        show Rn PT none kX12_ladders 52 [some (mR 118), some (mI (a)), some (mI (b)), some (mI ((t : Int))), some (mI (dy)), some (mI ((kp : Int))), v6, v7, v8, v9] [mI (qu (kp))] (mkh (m_upd (m_upd (m_set (m_set (m_set (m_set μ 118 0 (0)) 118 22 (w)) 118 23 (wi)) 118 29 ((m : Int))) 128 mk) 129 qu) c sc) _
        rw [hq]
        refine rn_bipush (k' := 53) rfl rfl ?_
        refine rn_idiv (k' := 54) rfl rfl (by decide) (tdiv_rng (by omega) (by omega)) ?_
        refine rn_istore (k' := 55) (L' := [some (mR 118), some (mI (a)), some (mI (b)), some (mI ((t : Int))), some (mI (dy)), some (mI ((kp : Int))), some (mI (((s : Int)).tdiv (100))), v7, v8, v9]) rfl rfl (Nat.le_of_ble_eq_true rfl) rfl ?_
        refine rn_aload_n (k' := 56) rfl rfl rfl ?_
        refine rn_getR (k' := 57) rfl rfl K0_118 (by decide) rfl R0_118_28 ?_
        refine rn_iload (k' := 58) rfl rfl rfl ?_
        refine rn_iaload (k' := 59) rfl rfl K0_129 (by omega) (by omega) ?_
        show Rn PT none kX12_ladders 59 [some (mR 118), some (mI (a)), some (mI (b)), some (mI ((t : Int))), some (mI (dy)), some (mI ((kp : Int))), some (mI (((s : Int)).tdiv (100))), v7, v8, v9] [mI (qu (kp))] (mkh (m_upd (m_upd (m_set (m_set (m_set (m_set μ 118 0 (0)) 118 22 (w)) 118 23 (wi)) 118 29 ((m : Int))) 128 mk) 129 qu) c sc) _
        rw [hq]
        refine rn_bipush (k' := 60) rfl rfl ?_
        refine rn_irem (k' := 61) rfl rfl (by decide) ?_
        refine rn_istore (k' := 62) (L' := [some (mR 118), some (mI (a)), some (mI (b)), some (mI ((t : Int))), some (mI (dy)), some (mI ((kp : Int))), some (mI (((s : Int)).tdiv (100))), some (mI (((s : Int)).tmod (100))), v8, v9]) rfl rfl (Nat.le_of_ble_eq_true rfl) rfl ?_
        rw [hdv, hmd]
        refine rn_iload (k' := 63) rfl rfl rfl ?_
        refine rn_iload_n (k' := 64) rfl rfl rfl ?_
        refine rn_icmp_ne (k' := 65) rfl rfl (fun hc1 => ?_) (fun hc1 => ?_)
        · skip
          refine rn_iconst (k' := 74) rfl rfl ?_
          refine rn_istore (k' := 75) (L' := [some (mR 118), some (mI (a)), some (mI (b)), some (mI ((t : Int))), some (mI (dy)), some (mI ((kp : Int))), some (mI (((s / 100 : Nat) : Int))), some (mI (((s % 100 : Nat) : Int))), some (mI (0)), v9]) rfl rfl (Nat.le_of_ble_eq_true rfl) rfl ?_
          refine l_ld_in hL (wi := wi) hw ha hbc ht (kp := kp) (s := s) (L := L) hs9 hxc hlv (fun mk2 qu2 m2 B2 w8 w9 w1 w2 w3 w4 w5 => ?_) 4 0 _ mk qu m B _ rfl (by omega) (lp_0 hP) hkm hq hmk hB2
          refine rn_iinc (k' := 106) (L' := [some (mR 118), some (mI (a)), some (mI (b)), some (mI ((t : Int))), some (mI (dy)), some (mI ((kp : Int) + 1)), some (mI (((s / 100 : Nat) : Int))), some (mI (((s % 100 : Nat) : Int))), w8, w9]) rfl rfl rfl (by omega) rfl ?_
          refine rn_goto rfl ?_
          exact ih (kp + 1) _ mk2 qu2 m2 B2 _ _ _ _ (by omega) (by omega) (lp_nx w1 w3 (by assumption)) (fun hk2 => by
            have h9 := w1.1.2.2.2.2 kp (kp + 1) (by omega) hk2
            rw [w3, show ((s : Int)).toNat = s from rfl, w4] at h9
            omega)
        · skip
          refine rn_aload_n (k' := 66) rfl rfl rfl ?_
          refine rn_getR (k' := 67) rfl rfl K0_118 (by decide) rfl R0_118_27 ?_
          refine rn_aload_n (k' := 68) rfl rfl rfl ?_
          refine rn_getR (k' := 69) rfl rfl K0_118 (by decide) rfl R0_118_28 ?_
          refine rn_iload (k' := 70) rfl rfl rfl ?_
          refine rn_iaload (k' := 71) rfl rfl K0_129 (by omega) (by omega) ?_
          show Rn PT none kX12_ladders 71 [some (mR 118), some (mI (a)), some (mI (b)), some (mI ((t : Int))), some (mI (dy)), some (mI ((kp : Int))), some (mI (((s / 100 : Nat) : Int))), some (mI (((s % 100 : Nat) : Int))), v8, v9] [mI (qu (kp)), mR 128] (mkh (m_upd (m_upd (m_set (m_set (m_set (m_set μ 118 0 (0)) 118 22 (w)) 118 23 (wi)) 118 29 ((m : Int))) 128 mk) 129 qu) c sc) _
          rw [hq]
          refine rn_iaload (k' := 72) rfl rfl K0_128 (by omega) (by omega) ?_
          show Rn PT none kX12_ladders 72 [some (mR 118), some (mI (a)), some (mI (b)), some (mI ((t : Int))), some (mI (dy)), some (mI ((kp : Int))), some (mI (((s / 100 : Nat) : Int))), some (mI (((s % 100 : Nat) : Int))), v8, v9] [mI (mk (s))] (mkh (m_upd (m_upd (m_set (m_set (m_set (m_set μ 118 0 (0)) 118 22 (w)) 118 23 (wi)) 118 29 ((m : Int))) 128 mk) 129 qu) c sc) _
          rw [hmk]
          refine rn_iret rfl (Or.inl rfl) ?_
          refine ⟨(m_upd (m_upd (m_set (m_set (m_set (m_set μ 118 0 (0)) 118 22 (w)) 118 23 (wi)) 118 29 ((m : Int))) 128 mk) 129 qu), ?_, ((rst_upd (a := 129) (fun _ => rfl)).trans ((rst_upd (a := 128) (fun _ => rfl)).trans ((rst_set (a := 118) (j := 29) rfl).trans ((rst_set (a := 118) (j := 23) rfl).trans ((rst_set (a := 118) (j := 22) rfl).trans (rst_set (a := 118) (j := 0) rfl))))))⟩
          rw [lp_hit hL ha hbc hP hkm hs9 hq hmk (by assumption)]
    · skip
      refine rn_iload (k' := 45) rfl rfl rfl ?_
      refine rn_aload_n (k' := 46) rfl rfl rfl ?_
      refine rn_getI (k' := 47) rfl rfl K0_118 (by decide) rfl ?_
      show Rn PT none kX12_ladders 47 [some (mR 118), some (mI (a)), some (mI (b)), some (mI ((t : Int))), some (mI (dy)), some (mI ((kp : Int))), v6, v7, v8, v9] [mI ((m : Int)), mI ((kp : Int))] (mkh (m_upd (m_upd (m_set (m_set (m_set (m_set μ 118 0 (0)) 118 22 (w)) 118 23 (wi)) 118 29 ((m : Int))) 128 mk) 129 qu) c sc) _
      refine rn_icmp_ge (k' := 48) rfl rfl (fun hc1 => ?_) (fun hc1 => ?_)
      · skip
        refine rn_iconst (k' := 108) rfl rfl ?_
        refine rn_iret rfl (Or.inl rfl) ?_
        refine ⟨(m_upd (m_upd (m_set (m_set (m_set (m_set μ 118 0 (0)) 118 22 (w)) 118 23 (wi)) 118 29 ((m : Int))) 128 mk) 129 qu), ?_, ((rst_upd (a := 129) (fun _ => rfl)).trans ((rst_upd (a := 128) (fun _ => rfl)).trans ((rst_set (a := 118) (j := 29) rfl).trans ((rst_set (a := 118) (j := 23) rfl).trans ((rst_set (a := 118) (j := 22) rfl).trans (rst_set (a := 118) (j := 0) rfl))))))⟩
        rw [lp_end hL ha hbc hP (by omega)]
      · exfalso; omega
theorem lp_start {μ : Nat → Nat → Int} (hL : I_land μ) {w a b : Int} (ha : g_cell μ a) {t : Nat} (hst : Sd μ w a t) {mk qu mk1 qu1 : Nat → Int} {m1 : Nat} (hm : ∀ s, s < 10000 → mk s = 1000000000) (hc : cmR (LV (g_nb μ) (g_cell μ) (Sd μ w) (fun x => (1 : Int) = 1 ∧ ¬ μ 8 (200 + x).toNat = -1) (I0 (Sd μ w) (fun x => (1 : Int) = 1 ∧ ¬ μ 8 (200 + x).toNat = -1) (fun h => h = t) a)) (fun v => ¬ μ 8 (200 + a).toNat = -1 ∧ g_stand μ a (v : Int) w) a.toNat t 0 mk qu 0 mk1 qu1 m1) (hD : ∀ v : Nat, v < 100 → (v = t ∨ (¬ μ 8 (200 + a).toNat = -1 ∧ g_stand μ a (v : Int) w)) → mk1 (100 * a.toNat + v) < 1000000000) : lpS μ w a b t mk1 qu1 m1 0 0 0 := by
  obtain ⟨c1, c2, c3, c4, c5⟩ := hc
  have ab := g_cell_b hL ha
  have ch : ∀ x v, g_cell μ x → v ≤ 99 → mk1 (sx x v) < 1000000000 → x = a ∧ mk1 (sx x v) = 0 := fun x v hx hv hl => by
    have xb := g_cell_b hL hx
    have sl : sx x v < 10000 := by unfold sx; omega
    rcases c5 (sx x v) sl with z | ⟨z1, z2, -⟩
    · rw [z, hm _ sl] at hl; omega
    · have e1 : sx x v / 100 = x.toNat := by unfold sx; omega
      rw [e1] at z1
      exact ⟨by omega, z2⟩
  refine ⟨c1, fun x v v' hx hl hv hmv hS => ?_, fun i e s y hi => by omega, fun x v z => ?_, fun i s hi => by omega⟩
  · obtain ⟨ex, e0⟩ := ch x v hx hv hmv
    subst ex
    have h2 := hD v' (by have := hS.1; omega) (Or.inr ⟨hl, hS.2⟩)
    rw [e0, (ch x v' hx hS.1 h2).2]
  · obtain ⟨⟨h', ex, -, -⟩, z2⟩ := z
    subst ex
    have key : v ≤ 99 ∧ mk1 (sx x v) < 1000000000 := by
      rcases z2 with ⟨l, s2⟩ | ⟨-, -, s2, e⟩
      · exact ⟨s2.1, hD v (by have := s2.1; omega) (Or.inr ⟨l.2, s2.2⟩)⟩
      · exact ⟨s2.1, hD v (by have := s2.1; omega) (Or.inl e)⟩
    have := (ch x v ha key.1 key.2).2
    omega
theorem qb_0 {Lv : Nat → Int → Nat → Prop} {mk qu : Nat → Int} (hm : ∀ s, s < 10000 → mk s = 1000000000) : QB Lv mk qu 0 0 := ⟨cn_none 10000 (fun s hs => mf_n.mpr (by rw [hm s hs]; decide)), fun s hs => Or.inl (hm s hs), fun i hi => absurd hi (Nat.not_lt_zero i), fun s hs hl => by rw [hm s hs] at hl; omega, fun i j _ hj => absurd hj (Nat.not_lt_zero j)⟩
set_option maxHeartbeats 4000000 in
theorem l_ld_f {μ : Nat → Nat → Int} {c s : Nat} {a b w wi : Int} {t : Nat} {dy : Int} {Q : MR → Prop} (K : ∀ v5, Rn PT none kX12_ladders 34 [some (mR 118), some (mI (a)), some (mI (b)), some (mI ((t : Int))), some (mI (dy)), v5, none, none, none, none] [] (mkh (m_upd (m_set (m_set (m_set μ 118 0 (0)) 118 22 (w)) 118 23 (wi)) 128 (fl (fun _ => 1000000000) (μ 128) 10000)) c s) Q) : ∀ (d n : Nat) (k : Int), k = (n : Int) → n + d = 10000 → Rn PT none kX12_ladders 24 [some (mR 118), some (mI (a)), some (mI (b)), some (mI ((t : Int))), some (mI (dy)), some (mI (k)), none, none, none, none] [] (mkh (m_upd (m_set (m_set (m_set μ 118 0 (0)) 118 22 (w)) 118 23 (wi)) 128 (fl (fun _ => 1000000000) (μ 128) n)) c s) (Q) := by
  intro d
  induction d with
  | zero =>
    intro n k ek hn 
    subst ek
    have en : n = 10000 := by omega
    rw [← en] at K
    refine rn_iload (k' := 25) rfl rfl rfl ?_
    refine rn_sipush (k' := 26) rfl rfl ?_
    refine rn_icmp_ge (k' := 27) rfl rfl (fun hc1 => ?_) (fun hc1 => ?_)
    · skip
      exact K _
    · exfalso; omega
  | succ d ih =>
    intro n k ek hn 
    subst ek
    refine rn_iload (k' := 25) rfl rfl rfl ?_
    refine rn_sipush (k' := 26) rfl rfl ?_
    refine rn_icmp_ge (k' := 27) rfl rfl (fun hc1 => ?_) (fun hc1 => ?_)
    · exfalso; omega
    · skip
      refine rn_aload_n (k' := 28) rfl rfl rfl ?_
      refine rn_getR (k' := 29) rfl rfl K0_118 (by decide) rfl R0_118_27 ?_
      refine rn_iload (k' := 30) rfl rfl rfl ?_
      refine rn_ldc_w (k' := 31) rfl rfl ?_
      refine rn_iastore (k' := 32) rfl rfl K0_128 (by omega) (by omega) ?_
      refine rn_iinc (k' := 33) (L' := [some (mR 118), some (mI (a)), some (mI (b)), some (mI ((t : Int))), some (mI (dy)), some (mI ((n : Int) + 1)), none, none, none, none]) rfl rfl rfl (by omega) rfl ?_
      refine rn_goto rfl ?_
      show Rn PT none kX12_ladders 24 [some (mR 118), some (mI (a)), some (mI (b)), some (mI ((t : Int))), some (mI (dy)), some (mI ((n : Int) + 1)), none, none, none, none] [] (mkh (m_set (m_upd (m_set (m_set (m_set μ 118 0 (0)) 118 22 (w)) 118 23 (wi)) 128 (fl (fun _ => 1000000000) (μ 128) n)) 128 n (1000000000)) c s) _
      rw [fl_st (n := n) rfl]
      exact ih (n + 1) _ (by omega) (by omega)
set_option maxHeartbeats 4000000 in
theorem x_X12_ladders {μ : Nat → Nat → Int} {c s : Nat} (hL : I_land μ) (hS : I_scene μ) {a0 a1 a3 : Int} {t : Nat} (hv1 : g_cell μ a0) (hv2 : g_cell μ a1) (hv3 : t ≤ 99) (hv4 : 0 ≤ a3 ∧ a3 ≤ 29) (h0 : i32 a0) (h1 : i32 a1) (hst : g_stand μ a0 (t : Int) (g_w μ 0 a3)) : Cl PT 221 [mR 118, mI a0, mI a1, mI ((t : Int)), mI a3] (mkh μ c s) (fun r => ∃ M : Nat → Nat → Int, r = (some (some (mI (g_lad μ a0 a1 t (g_w μ 0 a3)))), mkh M c s) ∧ rst M = rst μ) := by
  have hL_ := hL
  obtain ⟨lc, lr, le, lm, lw, lh, lwo, lwd, q0, q1, q2, q3, q4, q8, q499, q500, lth, lG, lT, lW, -⟩ := hL_
  have hS_ := hS
  obtain ⟨sd, sw, stk, s4, s5, s6, hC, hH, -, s10, sce, swc, s13⟩ := hS_
  refine ⟨_, PT_221, Nat.le_of_ble_eq_true rfl, ?_⟩
  show Rn PT none kX12_ladders 0 [some (mR 118), some (mI (a0)), some (mI (a1)), some (mI ((t : Int))), some (mI (a3)), none, none, none, none, none] [] (mkh μ c s) _
  refine rn_aload_n (k' := 1) rfl rfl rfl ?_
  refine rn_iconst (k' := 2) rfl rfl ?_
  refine rn_putI (k' := 3) rfl rfl K0_118 (by decide) rfl ?_
  refine rn_aload_n (k' := 4) rfl rfl rfl ?_
  refine rn_iload_n (k' := 5) rfl rfl rfl ?_
  refine rn_iload_n (k' := 6) rfl rfl rfl ?_
  refine rn_iload_n (k' := 7) rfl rfl rfl ?_
  refine rn_iload (k' := 8) rfl rfl rfl ?_
  by_cases hq2 : g_cell μ a0 ∧ g_cell μ a1 ∧ (0 ≤ (t : Int) ∧ (t : Int) ≤ 99) ∧ 0 ≤ a3 ∧ a3 ≤ 29
  · refine rn_callP (k' := 9) (y := 214) (vs := [mR 118, mI (a0), mI (a1), mI ((t : Int)), mI (a3)]) (S' := []) (v := some (mI 1)) (h' := mkh (m_set μ 118 0 (0)) c s) rfl rfl rfl (by have hz : Cl PT 214 [mR 118, mI (a0), mI (a1), mI ((t : Int)), mI (a3)] (mkh (m_set μ 118 0 (0)) c s) (fun r => r = (some (some (mI (if g_cell μ a0 ∧ g_cell μ a1 ∧ (0 ≤ (t : Int) ∧ (t : Int) ≤ 99) ∧ 0 ≤ a3 ∧ a3 ≤ 29 then 1 else 0))), mkh (m_set μ 118 0 (0)) c s)) := c_X12_areAll ((hL).set rfl) (a := a0) (b := a1) (t := (t : Int)) (d := a3) (by omega) (by omega) (μ := (m_set μ 118 0 (0))) (c := c) (s := s); rw [if_pos hq2] at hz; exact hz) ?_
    show Rn PT none kX12_ladders 9 [some (mR 118), some (mI (a0)), some (mI (a1)), some (mI ((t : Int))), some (mI (a3)), none, none, none, none, none] [mI (1)] (mkh (m_set μ 118 0 (0)) c s) _
    refine rn_if_ne (k' := 10) rfl rfl (fun hc3 => ?_) (fun hc3 => ?_)
    · skip
      refine rn_aload_n (k' := 13) rfl rfl rfl ?_
      refine rn_iload (k' := 14) rfl rfl rfl ?_
      have hb4 := g_w_b hL 0 a3
      have hc904 := g_w_b hL 1 a3
      refine rn_callP (k' := 15) (y := 201) (vs := [mR 118, mI (a3)]) (S' := []) (v := none) (h' := mkh (m_set (m_set (m_set μ 118 0 (0)) 118 22 (g_w μ 0 a3)) 118 23 (g_w μ 1 a3)) c s) rfl rfl rfl (c_X12_of (μ := (m_set μ 118 0 (0))) ((hL).set rfl) (by omega)) ?_
      show Rn PT none kX12_ladders 15 [some (mR 118), some (mI (a0)), some (mI (a1)), some (mI ((t : Int))), some (mI (a3)), none, none, none, none, none] [] (mkh (m_set (m_set (m_set μ 118 0 (0)) 118 22 (g_w μ 0 a3)) 118 23 (g_w μ 1 a3)) c s) _
      refine rn_aload_n (k' := 16) rfl rfl rfl ?_
      refine rn_iload_n (k' := 17) rfl rfl rfl ?_
      refine rn_iload_n (k' := 18) rfl rfl rfl ?_
      by_cases hq5 : g_stand μ a0 (t : Int) (g_w μ 0 a3)
      · refine rn_callP (k' := 19) (y := 203) (vs := [mR 118, mI (a0), mI ((t : Int))]) (S' := []) (v := some (mI 1)) (h' := mkh (m_set (m_set (m_set μ 118 0 (0)) 118 22 (g_w μ 0 a3)) 118 23 (g_w μ 1 a3)) c s) rfl rfl rfl (by have hz : Cl PT 203 [mR 118, mI (a0), mI ((t : Int))] (mkh (m_set (m_set (m_set μ 118 0 (0)) 118 22 (g_w μ 0 a3)) 118 23 (g_w μ 1 a3)) c s) (fun r => r = (some (some (mI (if g_stand μ a0 (t : Int) (g_w μ 0 a3) then 1 else 0))), mkh (m_set (m_set (m_set μ 118 0 (0)) 118 22 (g_w μ 0 a3)) 118 23 (g_w μ 1 a3)) c s)) := c_X12_standsOn ((((hL).set rfl).set rfl).set rfl) (by show 0 ≤ g_w μ 0 a3 ∧ g_w μ 0 a3 ≤ 1000; omega) (a := a0) (t := (t : Int)) (by show g_cell μ (a0); first | assumption | omega) (by omega) (μ := (m_set (m_set (m_set μ 118 0 (0)) 118 22 (g_w μ 0 a3)) 118 23 (g_w μ 1 a3))) (c := c) (s := s); rw [if_pos hq5] at hz; exact hz) ?_
        show Rn PT none kX12_ladders 19 [some (mR 118), some (mI (a0)), some (mI (a1)), some (mI ((t : Int))), some (mI (a3)), none, none, none, none, none] [mI (1)] (mkh (m_set (m_set (m_set μ 118 0 (0)) 118 22 (g_w μ 0 a3)) 118 23 (g_w μ 1 a3)) c s) _
        refine rn_if_ne (k' := 20) rfl rfl (fun hc6 => ?_) (fun hc6 => ?_)
        · skip
          refine rn_iconst (k' := 23) rfl rfl ?_
          refine rn_istore (k' := 24) (L' := [some (mR 118), some (mI (a0)), some (mI (a1)), some (mI ((t : Int))), some (mI (a3)), some (mI (0)), none, none, none, none]) rfl rfl (Nat.le_of_ble_eq_true rfl) rfl ?_
          refine (show Rn PT none kX12_ladders 24 [some (mR 118), some (mI (a0)), some (mI (a1)), some (mI ((t : Int))), some (mI (a3)), some (mI (0)), none, none, none, none] [] (mkh (m_upd (m_set (m_set (m_set μ 118 0 (0)) 118 22 ((g_w μ 0 a3))) 118 23 ((g_w μ 1 a3))) 128 (fl (fun _ => 1000000000) (μ 128) 0)) c s) _ → Rn PT none kX12_ladders 24 [some (mR 118), some (mI (a0)), some (mI (a1)), some (mI ((t : Int))), some (mI (a3)), some (mI (0)), none, none, none, none] [] (mkh (m_set (m_set (m_set μ 118 0 (0)) 118 22 ((g_w μ 0 a3))) 118 23 ((g_w μ 1 a3))) c s) _ from fun h => by rw [show m_upd (m_set (m_set (m_set μ 118 0 (0)) 118 22 ((g_w μ 0 a3))) 118 23 ((g_w μ 1 a3))) 128 (fl (fun _ => 1000000000) (μ 128) 0) = (m_set (m_set (m_set μ 118 0 (0)) 118 22 ((g_w μ 0 a3))) 118 23 ((g_w μ 1 a3))) from fl_0 (μ := (m_set (m_set (m_set μ 118 0 (0)) 118 22 ((g_w μ 0 a3))) 118 23 ((g_w μ 1 a3)))) (a := 128)] at h; exact h) ?_
          refine l_ld_f (fun v5 => ?_) 10000 0 _ rfl (by omega)
          refine rn_aload_n (k' := 35) rfl rfl rfl ?_
          refine rn_iconst (k' := 36) rfl rfl ?_
          refine rn_putI (k' := 37) rfl rfl K0_118 (by decide) rfl ?_
          refine rn_aload_n (k' := 38) rfl rfl rfl ?_
          refine rn_iload_n (k' := 39) rfl rfl rfl ?_
          refine rn_iload_n (k' := 40) rfl rfl rfl ?_
          refine rn_iconst (k' := 41) rfl rfl ?_
          show Rn PT none kX12_ladders 41 [some (mR 118), some (mI (a0)), some (mI (a1)), some (mI ((t : Int))), some (mI (a3)), v5, none, none, none, none] [mI (0), mI ((t : Int)), mI (a0), mR 118] (mkh (m_set (m_upd (m_set (m_set (m_set μ 118 0 (0)) 118 22 ((g_w μ 0 a3))) 118 23 ((g_w μ 1 a3))) 128 ((fl (fun _ => 1000000000) (μ 128) 10000))) 118 29 (0)) c s) _
          rw [show (m_set (m_upd (m_set (m_set (m_set μ 118 0 (0)) 118 22 ((g_w μ 0 a3))) 118 23 ((g_w μ 1 a3))) 128 ((fl (fun _ => 1000000000) (μ 128) 10000))) 118 29 (0)) = (m_upd (m_upd (m_set (m_set (m_set (m_set μ 118 0 (0)) 118 22 ((g_w μ 0 a3))) 118 23 ((g_w μ 1 a3))) 118 29 (((0 : Nat) : Int))) 128 ((fl (fun _ => 1000000000) (μ 128) 10000))) 129 ((μ 129))) from by rw [set_upd_ne (a := 118) (b := 128) (by decide)]; exact (upd_self (μ := m_upd (m_set (m_set (m_set (m_set μ 118 0 (0)) 118 22 ((g_w μ 0 a3))) 118 23 ((g_w μ 1 a3))) 118 29 0) 128 (fl (fun _ => 1000000000) (μ 128) 10000)) (a := 129)).symm]
          have hfl : ∀ s, s < 10000 → (fl (fun _ => 1000000000) (μ 128) 10000) s = 1000000000 := fun s hs => fl_lt hs
          have hSa : Sd μ (g_w μ 0 a3) a0 t := ⟨by omega, hst⟩
          obtain ⟨mk1, qu1, m1, ⟨e1, e2, e3⟩, hcl0⟩ := c_comes (μ := (m_set (m_set (m_set μ 118 0 (0)) 118 22 ((g_w μ 0 a3))) 118 23 ((g_w μ 1 a3)))) (c := c) (s := s) ((((hL).set rfl).set rfl).set rfl) (by show 0 ≤ (g_w μ 0 a3) ∧ (g_w μ 0 a3) ≤ 1000; omega) (Lv := (LV (g_nb μ) (g_cell μ) (Sd μ (g_w μ 0 a3)) (fun x => (1 : Int) = 1 ∧ ¬ μ 8 (200 + x).toNat = -1) (I0 (Sd μ (g_w μ 0 a3)) (fun x => (1 : Int) = 1 ∧ ¬ μ 8 (200 + x).toNat = -1) (fun h => h = t) a0))) (x := a0) hv1 (t := t) (n := 0) (by omega) (mk := (fl (fun _ => 1000000000) (μ 128) 10000)) (qu := μ 129) (m := 0) (Nat.le_refl 0) (by decide) (by
            refine ⟨⟨t, rfl, hSa, rfl⟩, ?_⟩
            by_cases hq : ¬ μ 8 (200 + a0).toNat = -1
            · exact Or.inl ⟨⟨rfl, hq⟩, hSa⟩
            · exact Or.inr ⟨fun z => hq z.2, rfl, hSa, rfl⟩) (fun hl v hv9 hs9 => ⟨⟨t, rfl, hSa, rfl⟩, Or.inl ⟨⟨rfl, hl⟩, ⟨hv9, hs9⟩⟩⟩) (qb_0 hfl)
          have hp0 := lp_start (b := a1) hL hv1 hSa hfl e1 (e3 (by rw [hfl _ (by have := g_cell_b hL hv1; omega)]; decide))
          refine rn_callP (k' := 42) (y := 222) (vs := [mR 118, mI (a0), mI ((t : Int)), mI (0)]) (S' := []) (v := none) (h' := mkh (m_upd (m_upd (m_set (m_set (m_set (m_set μ 118 0 (0)) 118 22 ((g_w μ 0 a3))) 118 23 ((g_w μ 1 a3))) 118 29 ((m1 : Int))) 128 mk1) 129 qu1) c s) rfl rfl rfl (hcl0) ?_
          show Rn PT none kX12_ladders 42 [some (mR 118), some (mI (a0)), some (mI (a1)), some (mI ((t : Int))), some (mI (a3)), v5, none, none, none, none] [] (mkh (m_upd (m_upd (m_set (m_set (m_set (m_set μ 118 0 (0)) 118 22 ((g_w μ 0 a3))) 118 23 ((g_w μ 1 a3))) 118 29 ((m1 : Int))) 128 mk1) 129 qu1) c s) _
          refine rn_iconst (k' := 43) rfl rfl ?_
          refine rn_istore (k' := 44) (L' := [some (mR 118), some (mI (a0)), some (mI (a1)), some (mI ((t : Int))), some (mI (a3)), some (mI (0)), none, none, none, none]) rfl rfl (Nat.le_of_ble_eq_true rfl) rfl ?_
          exact l_ld (wi := g_w μ 1 a3) hL (by omega) hv1 hv2 (by omega) 10001 0 0 mk1 qu1 m1 0 _ _ _ _ rfl (by omega) hp0 (fun hk => by
            obtain ⟨u, u1, u2, u3, u4⟩ := hp0.1.2.2.1 0 hk
            rcases hp0.1.2.1 u u1 with q | q
            · omega
            · rw [u2, show ((u : Int)).toNat = u from rfl]; omega)
        · exfalso; omega
      · exfalso; omega
    · exfalso; omega
  · exfalso; omega
theorem lad_st {μ : Nat → Nat → Int} {a b w : Int} {t : Nat} (hst : ¬ g_stand μ a (t : Int) w) : g_lad μ a b t w = -1 := by
  refine g_lad_no (fun j hj => ?_)
  obtain ⟨h, hj⟩ := hj
  have key : ∀ (k : Nat) (x : Int) (h : Nat), ¬ (LV (g_nb μ) (g_cell μ) (Sd μ w) (fun x => (1 : Int) = 1 ∧ ¬ μ 8 (200 + x).toNat = -1) (I0 (Sd μ w) (fun x => (1 : Int) = 1 ∧ ¬ μ 8 (200 + x).toNat = -1) (fun h => h = t) a)) k x h := by
    intro k
    induction k with
    | zero =>
      intro x h z
      obtain ⟨⟨h2, -, z2, z3⟩, -⟩ := z
      rw [z3] at z2
      exact hst z2.2
    | succ k ih =>
      intro x h z
      rcases z with z | ⟨y, d, h2, -, -, -, -, z5, -⟩
      · exact ih x h z
      · exact ih y h2 z5
  exact key j b h hj
set_option maxHeartbeats 4000000 in
theorem n_X12_ladders {μ : Nat → Nat → Int} {c s : Nat} (hL : I_land μ) (hS : I_scene μ) {a0 a1 a3 : Int} {t : Nat} (hv1 : g_cell μ a0) (hv2 : g_cell μ a1) (hv3 : t ≤ 99) (hv4 : 0 ≤ a3 ∧ a3 ≤ 29) (h0 : i32 a0) (h1 : i32 a1) (hst : ¬ g_stand μ a0 (t : Int) (g_w μ 0 a3)) : Cl PT 221 [mR 118, mI a0, mI a1, mI ((t : Int)), mI a3] (mkh μ c s) (fun r => ∃ M : Nat → Nat → Int, r = (some (some (mI (g_lad μ a0 a1 t (g_w μ 0 a3)))), mkh M c s) ∧ rst M = rst μ) := by
  have hL_ := hL
  obtain ⟨lc, lr, le, lm, lw, lh, lwo, lwd, q0, q1, q2, q3, q4, q8, q499, q500, lth, lG, lT, lW, -⟩ := hL_
  have hS_ := hS
  obtain ⟨sd, sw, stk, s4, s5, s6, hC, hH, -, s10, sce, swc, s13⟩ := hS_
  refine ⟨_, PT_221, Nat.le_of_ble_eq_true rfl, ?_⟩
  show Rn PT none kX12_ladders 0 [some (mR 118), some (mI (a0)), some (mI (a1)), some (mI ((t : Int))), some (mI (a3)), none, none, none, none, none] [] (mkh μ c s) _
  refine rn_aload_n (k' := 1) rfl rfl rfl ?_
  refine rn_iconst (k' := 2) rfl rfl ?_
  refine rn_putI (k' := 3) rfl rfl K0_118 (by decide) rfl ?_
  refine rn_aload_n (k' := 4) rfl rfl rfl ?_
  refine rn_iload_n (k' := 5) rfl rfl rfl ?_
  refine rn_iload_n (k' := 6) rfl rfl rfl ?_
  refine rn_iload_n (k' := 7) rfl rfl rfl ?_
  refine rn_iload (k' := 8) rfl rfl rfl ?_
  by_cases hq2 : g_cell μ a0 ∧ g_cell μ a1 ∧ (0 ≤ (t : Int) ∧ (t : Int) ≤ 99) ∧ 0 ≤ a3 ∧ a3 ≤ 29
  · refine rn_callP (k' := 9) (y := 214) (vs := [mR 118, mI (a0), mI (a1), mI ((t : Int)), mI (a3)]) (S' := []) (v := some (mI 1)) (h' := mkh (m_set μ 118 0 (0)) c s) rfl rfl rfl (by have hz : Cl PT 214 [mR 118, mI (a0), mI (a1), mI ((t : Int)), mI (a3)] (mkh (m_set μ 118 0 (0)) c s) (fun r => r = (some (some (mI (if g_cell μ a0 ∧ g_cell μ a1 ∧ (0 ≤ (t : Int) ∧ (t : Int) ≤ 99) ∧ 0 ≤ a3 ∧ a3 ≤ 29 then 1 else 0))), mkh (m_set μ 118 0 (0)) c s)) := c_X12_areAll ((hL).set rfl) (a := a0) (b := a1) (t := (t : Int)) (d := a3) (by omega) (by omega) (μ := (m_set μ 118 0 (0))) (c := c) (s := s); rw [if_pos hq2] at hz; exact hz) ?_
    show Rn PT none kX12_ladders 9 [some (mR 118), some (mI (a0)), some (mI (a1)), some (mI ((t : Int))), some (mI (a3)), none, none, none, none, none] [mI (1)] (mkh (m_set μ 118 0 (0)) c s) _
    refine rn_if_ne (k' := 10) rfl rfl (fun hc3 => ?_) (fun hc3 => ?_)
    · skip
      refine rn_aload_n (k' := 13) rfl rfl rfl ?_
      refine rn_iload (k' := 14) rfl rfl rfl ?_
      have hb4 := g_w_b hL 0 a3
      have hc904 := g_w_b hL 1 a3
      refine rn_callP (k' := 15) (y := 201) (vs := [mR 118, mI (a3)]) (S' := []) (v := none) (h' := mkh (m_set (m_set (m_set μ 118 0 (0)) 118 22 (g_w μ 0 a3)) 118 23 (g_w μ 1 a3)) c s) rfl rfl rfl (c_X12_of (μ := (m_set μ 118 0 (0))) ((hL).set rfl) (by omega)) ?_
      show Rn PT none kX12_ladders 15 [some (mR 118), some (mI (a0)), some (mI (a1)), some (mI ((t : Int))), some (mI (a3)), none, none, none, none, none] [] (mkh (m_set (m_set (m_set μ 118 0 (0)) 118 22 (g_w μ 0 a3)) 118 23 (g_w μ 1 a3)) c s) _
      refine rn_aload_n (k' := 16) rfl rfl rfl ?_
      refine rn_iload_n (k' := 17) rfl rfl rfl ?_
      refine rn_iload_n (k' := 18) rfl rfl rfl ?_
      by_cases hq5 : g_stand μ a0 (t : Int) (g_w μ 0 a3)
      · exfalso; omega
      · refine rn_callP (k' := 19) (y := 203) (vs := [mR 118, mI (a0), mI ((t : Int))]) (S' := []) (v := some (mI 0)) (h' := mkh (m_set (m_set (m_set μ 118 0 (0)) 118 22 (g_w μ 0 a3)) 118 23 (g_w μ 1 a3)) c s) rfl rfl rfl (by have hz : Cl PT 203 [mR 118, mI (a0), mI ((t : Int))] (mkh (m_set (m_set (m_set μ 118 0 (0)) 118 22 (g_w μ 0 a3)) 118 23 (g_w μ 1 a3)) c s) (fun r => r = (some (some (mI (if g_stand μ a0 (t : Int) (g_w μ 0 a3) then 1 else 0))), mkh (m_set (m_set (m_set μ 118 0 (0)) 118 22 (g_w μ 0 a3)) 118 23 (g_w μ 1 a3)) c s)) := c_X12_standsOn ((((hL).set rfl).set rfl).set rfl) (by show 0 ≤ g_w μ 0 a3 ∧ g_w μ 0 a3 ≤ 1000; omega) (a := a0) (t := (t : Int)) (by show g_cell μ (a0); first | assumption | omega) (by omega) (μ := (m_set (m_set (m_set μ 118 0 (0)) 118 22 (g_w μ 0 a3)) 118 23 (g_w μ 1 a3))) (c := c) (s := s); rw [if_neg hq5] at hz; exact hz) ?_
        show Rn PT none kX12_ladders 19 [some (mR 118), some (mI (a0)), some (mI (a1)), some (mI ((t : Int))), some (mI (a3)), none, none, none, none, none] [mI (0)] (mkh (m_set (m_set (m_set μ 118 0 (0)) 118 22 (g_w μ 0 a3)) 118 23 (g_w μ 1 a3)) c s) _
        refine rn_if_ne (k' := 20) rfl rfl (fun hc6 => ?_) (fun hc6 => ?_)
        · exfalso; omega
        · skip
          refine rn_iconst (k' := 21) rfl rfl ?_
          refine rn_iret rfl (Or.inl rfl) ?_
          refine ⟨(m_set (m_set (m_set μ 118 0 (0)) 118 22 (g_w μ 0 a3)) 118 23 (g_w μ 1 a3)), ?_, ((rst_set (a := 118) (j := 23) rfl).trans ((rst_set (a := 118) (j := 22) rfl).trans (rst_set (a := 118) (j := 0) rfl)))⟩
          rw [lad_st hst]
    · exfalso; omega
  · exfalso; omega
set_option maxHeartbeats 4000000 in
theorem x_X11_ladders {μ : Nat → Nat → Int} {c s : Nat} (hL : I_land μ) (hS : I_scene μ) {a0 a1 a3 : Int} {t : Nat} (hv1 : g_cell μ a0) (hv2 : g_cell μ a1) (hv3 : t ≤ 99) (hv4 : 0 ≤ a3 ∧ a3 ≤ 29) (h0 : i32 a0) (h1 : i32 a1) : Cl PT 118 [mR 0, mI a0, mI a1, mI ((t : Int)), mI a3] (mkh μ c s) (fun r => ∃ M : Nat → Nat → Int, r = (some (some (mI (g_lad μ a0 a1 t (g_w μ 0 a3)))), mkh M c s) ∧ rst M = rst μ) := by
  have hL_ := hL
  obtain ⟨lc, lr, le, lm, lw, lh, lwo, lwd, q0, q1, q2, q3, q4, q8, q499, q500, lth, lG, lT, lW, -⟩ := hL_
  have hS_ := hS
  obtain ⟨sd, sw, stk, s4, s5, s6, hC, hH, -, s10, sce, swc, s13⟩ := hS_
  refine ⟨_, PT_118, Nat.le_of_ble_eq_true rfl, ?_⟩
  show Rn PT none kX11_ladders 0 [some (mR 0), some (mI (a0)), some (mI (a1)), some (mI ((t : Int))), some (mI (a3))] [] (mkh μ c s) _
  refine rn_aload_n (k' := 1) rfl rfl rfl ?_
  refine rn_iload_n (k' := 2) rfl rfl rfl ?_
  refine rn_iload_n (k' := 3) rfl rfl rfl ?_
  refine rn_iload_n (k' := 4) rfl rfl rfl ?_
  refine rn_iload (k' := 5) rfl rfl rfl ?_
  by_cases hq1 : g_cell μ a0 ∧ g_cell μ a1 ∧ (0 ≤ (t : Int) ∧ (t : Int) ≤ 99) ∧ 0 ≤ a3 ∧ a3 ≤ 29
  · refine rn_callP (k' := 6) (y := 155) (vs := [mR 0, mI (a0), mI (a1), mI ((t : Int)), mI (a3)]) (S' := []) (v := some (mI 1)) (h' := mkh μ c s) rfl rfl rfl (by have hz : Cl PT 155 [mR 0, mI (a0), mI (a1), mI ((t : Int)), mI (a3)] (mkh μ c s) (fun r => r = (some (some (mI (if g_cell μ a0 ∧ g_cell μ a1 ∧ (0 ≤ (t : Int) ∧ (t : Int) ≤ 99) ∧ 0 ≤ a3 ∧ a3 ≤ 29 then 1 else 0))), mkh μ c s)) := c_X11_areSuch (hL) (a := a0) (b := a1) (t := (t : Int)) (d := a3) (by omega) (by omega) (μ := μ) (c := c) (s := s); rw [if_pos hq1] at hz; exact hz) ?_
    show Rn PT none kX11_ladders 6 [some (mR 0), some (mI (a0)), some (mI (a1)), some (mI ((t : Int))), some (mI (a3))] [mI (1)] (mkh μ c s) _
    refine rn_if_ne (k' := 7) rfl rfl (fun hc2 => ?_) (fun hc2 => ?_)
    · skip
      refine rn_aload_n (k' := 10) rfl rfl rfl ?_
      refine rn_getR (k' := 11) rfl rfl K0_0 (by decide) rfl R0_0_9 ?_
      refine rn_iload_n (k' := 12) rfl rfl rfl ?_
      refine rn_iload_n (k' := 13) rfl rfl rfl ?_
      refine rn_iload_n (k' := 14) rfl rfl rfl ?_
      refine rn_aload_n (k' := 15) rfl rfl rfl ?_
      refine rn_getR (k' := 16) rfl rfl K0_0 (by decide) rfl R0_0_3 ?_
      refine rn_iconst (k' := 17) rfl rfl ?_
      refine rn_iload (k' := 18) rfl rfl rfl ?_
      have hb3 := g_w_b hL 0 a3
      refine rn_callP (k' := 19) (y := 32) (vs := [mR 6, mI (0), mI (a3)]) (S' := [mI ((t : Int)), mI (a1), mI (a0), mR 74]) (v := some (mI (g_w μ 0 a3))) (h' := mkh μ c s) rfl rfl rfl (k_weatherOn (μ := μ) (hL) (by omega) (by omega)) ?_
      show Rn PT none kX11_ladders 19 [some (mR 0), some (mI (a0)), some (mI (a1)), some (mI ((t : Int))), some (mI (a3))] [mI (g_w μ 0 a3), mI ((t : Int)), mI (a1), mI (a0), mR 74] (mkh μ c s) _
      obtain ⟨M, hMr, hcl⟩ := Cl.ex (g := fun M => (some (some (mI (g_lad μ a0 a1 t (g_w μ 0 a3)))), mkh M c s)) (show Cl PT 20 [mR 74, mI a0, mI a1, mI (t : Int), mI (g_w μ 0 a3)] (mkh μ c s) (fun r => ∃ M : Nat → Nat → Int, r = (some (some (mI (g_lad μ a0 a1 t (g_w μ 0 a3)))), mkh M c s) ∧ rst M = rst μ) from by
        by_cases hst : g_stand μ a0 (t : Int) (g_w μ 0 a3)
        · exact x_lad hL hv1 hv2 (by omega) hv3 hst
        · exact n_lad hL hv1 hv2 (by omega) hv3 hst)
      refine rn_callP (k' := 20) (y := 20) (vs := [mR 74, mI (a0), mI (a1), mI ((t : Int)), mI (g_w μ 0 a3)]) (S' := []) (v := some (mI (g_lad μ a0 a1 t (g_w μ 0 a3)))) (h' := mkh M c s) rfl rfl rfl (hcl) ?_
      show Rn PT none kX11_ladders 20 [some (mR 0), some (mI (a0)), some (mI (a1)), some (mI ((t : Int))), some (mI (a3))] [mI (g_lad μ a0 a1 t (g_w μ 0 a3))] (mkh M c s) _
      refine rn_iret rfl (Or.inl rfl) ?_
      exact ⟨M, rfl, hMr⟩
    · exfalso; omega
  · exfalso; omega
theorem i_X11_ladders {μ : Nat → Nat → Int} {c s : Nat} (hL : I_land μ) (hS : I_scene μ) {a0 a1 a2 a3 : Int} (h0 : i32 a0) (h1 : i32 a1) (h2 : i32 a2) (h3 : i32 a3) (hv : ¬ (g_cell μ a0 ∧ g_cell μ a1 ∧ (0 ≤ a2 ∧ a2 ≤ 99) ∧ 0 ≤ a3 ∧ a3 ≤ 29)) : Cl PT 118 [mR 0, mI a0, mI a1, mI a2, mI a3] (mkh μ c s) (fun r => r = (some (some (mI (-1))), mkh μ c s)) := by
  have hL_ := hL
  obtain ⟨lc, lr, le, lm, lw, lh, lwo, lwd, q0, q1, q2, q3, q4, q8, q499, q500, lth, lG, lT, lW, -⟩ := hL_
  have hS_ := hS
  obtain ⟨sd, sw, stk, s4, s5, s6, hC, hH, -, s10, sce, swc, s13⟩ := hS_
  refine ⟨_, PT_118, Nat.le_of_ble_eq_true rfl, ?_⟩
  show Rn PT none kX11_ladders 0 [some (mR 0), some (mI (a0)), some (mI (a1)), some (mI (a2)), some (mI (a3))] [] (mkh μ c s) _
  refine rn_aload_n (k' := 1) rfl rfl rfl ?_
  refine rn_iload_n (k' := 2) rfl rfl rfl ?_
  refine rn_iload_n (k' := 3) rfl rfl rfl ?_
  refine rn_iload_n (k' := 4) rfl rfl rfl ?_
  refine rn_iload (k' := 5) rfl rfl rfl ?_
  by_cases hq1 : g_cell μ a0 ∧ g_cell μ a1 ∧ (0 ≤ a2 ∧ a2 ≤ 99) ∧ 0 ≤ a3 ∧ a3 ≤ 29
  · refine rn_callP (k' := 6) (y := 155) (vs := [mR 0, mI (a0), mI (a1), mI (a2), mI (a3)]) (S' := []) (v := some (mI 1)) (h' := mkh μ c s) rfl rfl rfl (by have hz : Cl PT 155 [mR 0, mI (a0), mI (a1), mI (a2), mI (a3)] (mkh μ c s) (fun r => r = (some (some (mI (if g_cell μ a0 ∧ g_cell μ a1 ∧ (0 ≤ a2 ∧ a2 ≤ 99) ∧ 0 ≤ a3 ∧ a3 ≤ 29 then 1 else 0))), mkh μ c s)) := c_X11_areSuch (hL) (a := a0) (b := a1) (t := a2) (d := a3) (by omega) (by omega) (μ := μ) (c := c) (s := s); rw [if_pos hq1] at hz; exact hz) ?_
    show Rn PT none kX11_ladders 6 [some (mR 0), some (mI (a0)), some (mI (a1)), some (mI (a2)), some (mI (a3))] [mI (1)] (mkh μ c s) _
    refine rn_if_ne (k' := 7) rfl rfl (fun hc2 => ?_) (fun hc2 => ?_)
    · skip
      refine rn_aload_n (k' := 10) rfl rfl rfl ?_
      refine rn_getR (k' := 11) rfl rfl K0_0 (by decide) rfl R0_0_9 ?_
      refine rn_iload_n (k' := 12) rfl rfl rfl ?_
      refine rn_iload_n (k' := 13) rfl rfl rfl ?_
      refine rn_iload_n (k' := 14) rfl rfl rfl ?_
      refine rn_aload_n (k' := 15) rfl rfl rfl ?_
      refine rn_getR (k' := 16) rfl rfl K0_0 (by decide) rfl R0_0_3 ?_
      refine rn_iconst (k' := 17) rfl rfl ?_
      refine rn_iload (k' := 18) rfl rfl rfl ?_
      exfalso; omega
    · exfalso; omega
  · refine rn_callP (k' := 6) (y := 155) (vs := [mR 0, mI (a0), mI (a1), mI (a2), mI (a3)]) (S' := []) (v := some (mI 0)) (h' := mkh μ c s) rfl rfl rfl (by have hz : Cl PT 155 [mR 0, mI (a0), mI (a1), mI (a2), mI (a3)] (mkh μ c s) (fun r => r = (some (some (mI (if g_cell μ a0 ∧ g_cell μ a1 ∧ (0 ≤ a2 ∧ a2 ≤ 99) ∧ 0 ≤ a3 ∧ a3 ≤ 29 then 1 else 0))), mkh μ c s)) := c_X11_areSuch (hL) (a := a0) (b := a1) (t := a2) (d := a3) (by omega) (by omega) (μ := μ) (c := c) (s := s); rw [if_neg hq1] at hz; exact hz) ?_
    show Rn PT none kX11_ladders 6 [some (mR 0), some (mI (a0)), some (mI (a1)), some (mI (a2)), some (mI (a3))] [mI (0)] (mkh μ c s) _
    refine rn_if_ne (k' := 7) rfl rfl (fun hc3 => ?_) (fun hc3 => ?_)
    · exfalso; omega
    · skip
      refine rn_iconst (k' := 8) rfl rfl ?_
      refine rn_iret rfl (Or.inl rfl) ?_
      rfl
theorem i_X12_ladders {μ : Nat → Nat → Int} {c s : Nat} (hL : I_land μ) (hS : I_scene μ) {a0 a1 a2 a3 : Int} (h0 : i32 a0) (h1 : i32 a1) (h2 : i32 a2) (h3 : i32 a3) (hv : ¬ (g_cell μ a0 ∧ g_cell μ a1 ∧ (0 ≤ a2 ∧ a2 ≤ 99) ∧ 0 ≤ a3 ∧ a3 ≤ 29)) : Cl PT 221 [mR 118, mI a0, mI a1, mI a2, mI a3] (mkh μ c s) (fun r => r = (some (some (mI (-1))), mkh (m_set μ 118 0 0) c s)) := by
  have hL_ := hL
  obtain ⟨lc, lr, le, lm, lw, lh, lwo, lwd, q0, q1, q2, q3, q4, q8, q499, q500, lth, lG, lT, lW, -⟩ := hL_
  have hS_ := hS
  obtain ⟨sd, sw, stk, s4, s5, s6, hC, hH, -, s10, sce, swc, s13⟩ := hS_
  refine ⟨_, PT_221, Nat.le_of_ble_eq_true rfl, ?_⟩
  show Rn PT none kX12_ladders 0 [some (mR 118), some (mI (a0)), some (mI (a1)), some (mI (a2)), some (mI (a3)), none, none, none, none, none] [] (mkh μ c s) _
  refine rn_aload_n (k' := 1) rfl rfl rfl ?_
  refine rn_iconst (k' := 2) rfl rfl ?_
  refine rn_putI (k' := 3) rfl rfl K0_118 (by decide) rfl ?_
  refine rn_aload_n (k' := 4) rfl rfl rfl ?_
  refine rn_iload_n (k' := 5) rfl rfl rfl ?_
  refine rn_iload_n (k' := 6) rfl rfl rfl ?_
  refine rn_iload_n (k' := 7) rfl rfl rfl ?_
  refine rn_iload (k' := 8) rfl rfl rfl ?_
  by_cases hq2 : g_cell μ a0 ∧ g_cell μ a1 ∧ (0 ≤ a2 ∧ a2 ≤ 99) ∧ 0 ≤ a3 ∧ a3 ≤ 29
  · refine rn_callP (k' := 9) (y := 214) (vs := [mR 118, mI (a0), mI (a1), mI (a2), mI (a3)]) (S' := []) (v := some (mI 1)) (h' := mkh (m_set μ 118 0 (0)) c s) rfl rfl rfl (by have hz : Cl PT 214 [mR 118, mI (a0), mI (a1), mI (a2), mI (a3)] (mkh (m_set μ 118 0 (0)) c s) (fun r => r = (some (some (mI (if g_cell μ a0 ∧ g_cell μ a1 ∧ (0 ≤ a2 ∧ a2 ≤ 99) ∧ 0 ≤ a3 ∧ a3 ≤ 29 then 1 else 0))), mkh (m_set μ 118 0 (0)) c s)) := c_X12_areAll ((hL).set rfl) (a := a0) (b := a1) (t := a2) (d := a3) (by omega) (by omega) (μ := (m_set μ 118 0 (0))) (c := c) (s := s); rw [if_pos hq2] at hz; exact hz) ?_
    show Rn PT none kX12_ladders 9 [some (mR 118), some (mI (a0)), some (mI (a1)), some (mI (a2)), some (mI (a3)), none, none, none, none, none] [mI (1)] (mkh (m_set μ 118 0 (0)) c s) _
    refine rn_if_ne (k' := 10) rfl rfl (fun hc3 => ?_) (fun hc3 => ?_)
    · skip
      refine rn_aload_n (k' := 13) rfl rfl rfl ?_
      refine rn_iload (k' := 14) rfl rfl rfl ?_
      exfalso; omega
    · exfalso; omega
  · refine rn_callP (k' := 9) (y := 214) (vs := [mR 118, mI (a0), mI (a1), mI (a2), mI (a3)]) (S' := []) (v := some (mI 0)) (h' := mkh (m_set μ 118 0 (0)) c s) rfl rfl rfl (by have hz : Cl PT 214 [mR 118, mI (a0), mI (a1), mI (a2), mI (a3)] (mkh (m_set μ 118 0 (0)) c s) (fun r => r = (some (some (mI (if g_cell μ a0 ∧ g_cell μ a1 ∧ (0 ≤ a2 ∧ a2 ≤ 99) ∧ 0 ≤ a3 ∧ a3 ≤ 29 then 1 else 0))), mkh (m_set μ 118 0 (0)) c s)) := c_X12_areAll ((hL).set rfl) (a := a0) (b := a1) (t := a2) (d := a3) (by omega) (by omega) (μ := (m_set μ 118 0 (0))) (c := c) (s := s); rw [if_neg hq2] at hz; exact hz) ?_
    show Rn PT none kX12_ladders 9 [some (mR 118), some (mI (a0)), some (mI (a1)), some (mI (a2)), some (mI (a3)), none, none, none, none, none] [mI (0)] (mkh (m_set μ 118 0 (0)) c s) _
    refine rn_if_ne (k' := 10) rfl rfl (fun hc4 => ?_) (fun hc4 => ?_)
    · exfalso; omega
    · skip
      refine rn_iconst (k' := 11) rfl rfl ?_
      refine rn_iret rfl (Or.inl rfl) ?_
      rfl
theorem t_X11_ladders {μ : Nat → Nat → Int} {c s : Nat} (hL : I_land μ) (hS : I_scene μ) {a0 a1 a2 a3 : Int} (h0 : i32 a0) (h1 : i32 a1) (h2 : i32 a2) (h3 : i32 a3) : Cl PT 118 [mR 0, mI a0, mI a1, mI a2, mI a3] (mkh μ c s) (fun r => ∃ μ1, r = (some (some (mI (if g_cell μ a0 ∧ g_cell μ a1 ∧ (0 ≤ a2 ∧ a2 ≤ 99) ∧ 0 ≤ a3 ∧ a3 ≤ 29 then g_lad μ a0 a1 a2.toNat (g_w μ 0 a3) else -1))), mkh μ1 c s) ∧ rst μ1 = rst μ) := by
  by_cases hv : g_cell μ a0 ∧ g_cell μ a1 ∧ (0 ≤ a2 ∧ a2 ≤ 99) ∧ 0 ≤ a3 ∧ a3 ≤ 29
  · rw [if_pos hv]
    obtain ⟨hv1, hv2, hv3, hv4⟩ := hv
    obtain ⟨t, rfl⟩ := Int.eq_ofNat_of_zero_le hv3.1
    rw [show ((t : Int)).toNat = t from rfl]
    exact x_X11_ladders hL hS hv1 hv2 (by omega) hv4 h0 h1
  · rw [if_neg hv]
    exact (i_X11_ladders hL hS h0 h1 h2 h3 hv).mono (fun r hr => ⟨_, hr, rfl⟩)
theorem t_X12_ladders {μ : Nat → Nat → Int} {c s : Nat} (hL : I_land μ) (hS : I_scene μ) {a0 a1 a2 a3 : Int} (h0 : i32 a0) (h1 : i32 a1) (h2 : i32 a2) (h3 : i32 a3) : Cl PT 221 [mR 118, mI a0, mI a1, mI a2, mI a3] (mkh μ c s) (fun r => ∃ μ1, r = (some (some (mI (if g_cell μ a0 ∧ g_cell μ a1 ∧ (0 ≤ a2 ∧ a2 ≤ 99) ∧ 0 ≤ a3 ∧ a3 ≤ 29 then g_lad μ a0 a1 a2.toNat (g_w μ 0 a3) else -1))), mkh μ1 c s) ∧ rst μ1 = rst μ) := by
  by_cases hv : g_cell μ a0 ∧ g_cell μ a1 ∧ (0 ≤ a2 ∧ a2 ≤ 99) ∧ 0 ≤ a3 ∧ a3 ≤ 29
  · rw [if_pos hv]
    obtain ⟨hv1, hv2, hv3, hv4⟩ := hv
    obtain ⟨t, rfl⟩ := Int.eq_ofNat_of_zero_le hv3.1
    rw [show ((t : Int)).toNat = t from rfl]
    by_cases hst : g_stand μ a0 (t : Int) (g_w μ 0 a3)
    · exact x_X12_ladders hL hS hv1 hv2 (by omega) hv4 h0 h1 hst
    · exact n_X12_ladders hL hS hv1 hv2 (by omega) hv4 h0 h1 hst
  · rw [if_neg hv]
    exact (i_X12_ladders hL hS h0 h1 h2 h3 hv).mono (fun r hr => ⟨_, hr, rst_set rfl⟩)
theorem pair_15 : ∀ (a0 : Int), ∀ (a1 : Int), ∀ (a2 : Int), ∀ (a3 : Int), i32 a0 → i32 a1 → i32 a2 → i32 a3 → PairI (Inv N) 118 221 [mI a0, mI a1, mI a2, mI a3] := by
  intro a0 a1 a2 a3 ha0 ha1 ha2 ha3
  exact pair_of (fun μ => (if g_cell μ a0 ∧ g_cell μ a1 ∧ (0 ≤ a2 ∧ a2 ≤ 99) ∧ 0 ≤ a3 ∧ a3 ≤ 29 then g_lad μ a0 a1 a2.toNat (g_w μ 0 a3) else -1)) (fun μ c s hI => t_X11_ladders hI.land hI.scene ha0 ha1 ha2 ha3) (fun μ c s hI => t_X12_ladders hI.land hI.scene ha0 ha1 ha2 ha3) (fun μ ν h => by
    have e6 := row_rst h (a := 6) (fun _ => rfl)
    have e7 := row_rst h (a := 7) (fun _ => rfl)
    have e8 := row_rst h (a := 8) (fun _ => rfl)
    have e10 := row_rst h (a := 10) (fun _ => rfl)
    have e14 := row_rst h (a := 14) (fun _ => rfl)
    have e15 := row_rst h (a := 15) (fun _ => rfl)
    have e16 := row_rst h (a := 16) (fun _ => rfl)
    have eW : g_w ν = g_w μ := by delta g_w; rw [e10]
    have eS : g_st ν = g_st μ := by delta g_st; rw [e6]
    show (if g_cell ν a0 ∧ g_cell ν a1 ∧ (0 ≤ a2 ∧ a2 ≤ 99) ∧ 0 ≤ a3 ∧ a3 ≤ 29 then g_lad ν a0 a1 a2.toNat (g_w ν 0 a3) else -1) = (if g_cell μ a0 ∧ g_cell μ a1 ∧ (0 ≤ a2 ∧ a2 ≤ 99) ∧ 0 ≤ a3 ∧ a3 ≤ 29 then g_lad μ a0 a1 a2.toNat (g_w μ 0 a3) else -1)
    rw [g_lad_rows e6 e7 e8, eW]
    try rw [e14]
    try rw [e15]
    try rw [e16]
    try rw [eS]
    try unfold g_cell
    try rw [e6])
