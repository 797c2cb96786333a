variable {N : Int}
/-! ===== printed by wip/whole/gen9g.py: herd and row lines on both sides; any line ===== -/
set_option maxHeartbeats 1000000 in
theorem rel_herd {σ ν σ' ν' : Nat → Nat → Int} (hR : RelL σ ν 0) (s19 : ν' 118 19 = ν 118 19) {k9 : Nat} {X Y V T : Int} (q1 : 0 ≤ X ∧ X ≤ σ 54 8 - 1) (q2 : 0 ≤ Y ∧ Y ≤ σ 54 9 - 1) (q3 : 0 ≤ V ∧ V ≤ 99) (h13 : σ 54 13 = (k9 : Int)) (h8 : ¬ k9 = 8) (a59 : σ' 59 k9 = T) (f59 : (∀ j, ¬ j = k9 → σ' 59 j = σ 59 j)) (a60 : σ' 60 k9 = 10 * Y + X) (f60 : (∀ j, ¬ j = k9 → σ' 60 j = σ 60 j)) (a61 : σ' 61 k9 = V) (f61 : (∀ j, ¬ j = k9 → σ' 61 j = σ 61 j)) (a13 : σ' 54 13 = (k9 : Int) + 1) (f54 : ∀ j, ¬ j = 13 → σ' 54 j = σ 54 j) (f55 : σ' 55 = σ 55) (f56 : σ' 56 = σ 56) (f57 : σ' 57 = σ 57) (f58 : σ' 58 = σ 58) (b20 : ν' 118 20 = ν 118 20) (b21 : ν' 118 21 = 1) (bN : Nm T (ν' 123 (8 + k9))) (f123 : ∀ j, ¬ j = 8 + k9 → ν' 123 j = ν 123 j) (b501 : ν' 121 (501 + k9) = 10 * Y + X) (b509 : ν' 121 (509 + k9) = V) (b8 : ν' 121 8 = (k9 : Int) + 1) (f121 : ∀ j, ¬ j = 501 + k9 → ¬ j = 509 + k9 → ¬ j = 8 → ν' 121 j = ν 121 j) : RelL σ' ν' 1 := by
  obtain ⟨⟨n1, n2, n3, n4, n5, n6, n7, n8, n9, n10, n11, n12, n13, n14, n15, n16, n17, n18, n19, n20, n21, n22, n23, n24, n25⟩, h57, h56, h58, h55, hH⟩ := hR
  have cg := cellG n1 n2 q1 q2
  have s7 := f54 7 (by decide)
  have s8 := f54 8 (by decide)
  have s9 := f54 9 (by decide)
  have s10 := f54 10 (by decide)
  have s11 := f54 11 (by decide)
  have s12 := f54 12 (by decide)
  have s14 := f54 14 (by decide)
  have s15 := f54 15 (by decide)
  have s16 := f54 16 (by decide)
  have s17 := f54 17 (by decide)
  have u0 := f121 0 (by omega) (by omega) (by omega)
  have u1 := f121 1 (by omega) (by omega) (by omega)
  have u2 := f121 2 (by omega) (by omega) (by omega)
  have u3 := f121 3 (by omega) (by omega) (by omega)
  have u4 := f121 4 (by omega) (by omega) (by omega)
  have u499 := f121 499 (by omega) (by omega) (by omega)
  have u500 := f121 500 (by omega) (by omega) (by omega)
  refine ⟨⟨by rw [s8]; exact n1, by rw [s9]; exact n2, by rw [s10]; exact n3, by rw [s11]; exact n4, by rw [s12]; exact n5, by omega, by rw [s14]; exact n7, by rw [s15]; exact n8, by rw [u0, s8]; exact n9, by rw [u1, s9]; exact n10, by rw [u2, s10]; exact n11, by rw [u3, s11]; exact n12, by rw [u4, s12]; exact n13, b8.trans a13.symm, by rw [u499, s14]; exact n15, by rw [u500, s15]; exact n16, by rw [s16]; exact n17, by rw [s17]; exact n18, by omega, by omega, by omega, by omega, by omega, by omega, by rw [s7]; exact n25⟩, ?_, ?_, ?_, ?_, ?_⟩
  · intro k hk3
    have z := h57 k hk3
    rw [f121 (5 + k) (by omega) (by omega) (by omega), f57]
    exact z
  · intro j hj3
    have z := h56 j hj3
    rw [f121 (109 + j) (by omega) (by omega) (by omega), f56]
    exact z
  · intro j hj3
    have z := h58 j hj3
    rw [f121 (409 + j) (by omega) (by omega) (by omega), f58]
    exact z
  · intro j g1 g2
    rw [s8] at g1
    rw [s9] at g2
    have z := h55 j g1 g2
    have hj9 : j < 100 := by omega
    rw [f121 (9 + j) (by omega) (by omega) (by omega), f55]
    exact z
  · intro j g1
    by_cases qj : j = k9
    · rw [qj, b501, b509, a60, a61, a59, s8, s9]
      exact ⟨⟨rfl, rfl, cg.1.1, cg.2⟩, bN⟩
    · have z := hH j (by omega)
      have hj9 : j < 8 := by omega
      rw [f121 (501 + j) (by omega) (by omega) (by omega), f121 (509 + j) (by omega) (by omega) (by omega), f60 j qj, f61 j qj, f59 j qj, f123 (8 + j) (by omega), s8, s9]
      exact z
set_option maxHeartbeats 1000000 in
theorem lk_herd {σ ν : Nat → Nat → Int} {c s : Nat} {b : Nat → Int} {n m p : Nat} (hW : TokK σ b n m p) (hM : MSt ν b n m p) (hk : tkK b n m p = 1) (hR : RelL σ ν 0) (hw : I_words σ) (h124 : ν 124 = σ 124) (hx : ix (σ 4) (tkV b n m p) 16 0 = 9) (h17 : ν 118 17 = 1751478884) : LokM σ ν b n m p c s := by
  obtain ⟨w2, wn, wp, t1, t2, t3, t4, t5, t6⟩ := hW
  have hC : CSt σ b n m (tkN b n m p) := ⟨w2, wn, (tkN_b wp).2.1, t1, t2, t3⟩
  have hR0 := hR
  obtain ⟨⟨n1, n2, n3, n4, n5, n6, n7, n8, n9, n10, n11, n12, n13, n14, n15, n16, n17, n18, n19, n20, n21, n22, n23, n24, n25⟩, h57, h56, h58, h55, hH⟩ := hR
  have h5 : σ 1 5 = 1 := t5.trans hk
  have hx2 : ix (σ 4) (σ 1 6) 16 0 = 9 := by rw [t6]; exact hx
  have hM2 := hM
  obtain ⟨_, _, _, _, _, _, m12, m11, _, m17, _, _⟩ := hM2
  have h11 : ν 118 11 = 1 := m11.trans (mkk_1.mpr hk)
  have c8m : 0 ≤ ν 121 0 ∧ ν 121 0 ≤ 10 := by rw [n9]; exact n1
  have c9m : 0 ≤ ν 121 1 ∧ ν 121 1 ≤ 10 := by rw [n10]; exact n2
  obtain ⟨k9, h13⟩ := natOf n6.1
  have hk9 : k9 ≤ 8 := by rw [h13] at n6; exact Int.ofNat_le.mp n6.2
  have h8m : ν 121 8 = (k9 : Int) := n14.trans h13
  have SN : ∀ y, Nm (tkV b n m (tkN b n m p)) y → ix (σ 59) (tkV b n m (tkN b n m p)) k9 0 = ix (fun j => ν 123 (8 + j)) y k9 0 := fun y hy => nm_same (g := fun j => ν 123 (8 + j)) (fun j hj => (hH j (by rw [h13]; exact Int.ofNat_lt.mpr hj)).2) hy
  by_cases h8 : ¬ k9 = 8
  · by_cases e0 : tkK b n m (tkN b n m p) = 1 ∧ ix (σ 4) (tkV b n m (tkN b n m p)) 16 0 = -1
    · have w0 : ∀ y, Nm (tkV b n m (tkN b n m p)) y → ix (ν 124) y 16 0 = -1 := fun y hy => by rw [h124]; exact (kw_same hw hy).symm.trans e0.2
      have ke := e0.1
      by_cases d0 : ix (σ 59) (tkV b n m (tkN b n m p)) k9 0 = -1
      · have dm : ∀ y, Nm (tkV b n m (tkN b n m p)) y → ix (fun j => ν 123 (8 + j)) y k9 0 = -1 := fun y hy => (SN y hy).symm.trans d0
        by_cases e1 : eN b n m (tkN b n m (tkN b n m p)) 0 (σ 54 8 - 1) = 0
        · have q1 := (eN_ok e1).2
          by_cases e2 : eN b n m (tkN b n m (tkN b n m (tkN b n m p))) 0 (σ 54 9 - 1) = 0
          · have q2 := (eN_ok e2).2
            by_cases e3 : eN b n m (tkN b n m (tkN b n m (tkN b n m (tkN b n m p)))) 0 99 = 0
            · have q3 := (eN_ok e3).2
              by_cases e4 : tkK b n m (tkN b n m (tkN b n m (tkN b n m (tkN b n m (tkN b n m p))))) = 3
              · obtain ⟨σ', ⟨kC, kF, a59, f59, a60, f60, a61, f61, a13, f54, f55, f56, f57, f58⟩, K⟩ := (D9 (v := 1) h5 hx2 (.inr rfl) (k_herd_ok (hC0 := hC) (c8 := n1) (c9 := n2) (hk9 := hk9) (h13 := h13) (h8 := h8) (e0 := e0) (d0 := d0) (e1 := e1) (e2 := e2) (e3 := e3) (e4 := e4)))
                obtain ⟨ν', ⟨mS, mF, b20, b21, bN, f123, b501, b509, b8, f121⟩, M⟩ := (E9 (v := 1) h11 h17 (.inr rfl) (by have z := m_herd_ok (c := c) (s := s) (hM := hM) hk (c8 := c8m) (c9 := c9m) (hk9 := hk9) (h8 := h8m) (hk8 := h8) (k0 := e0.1) (w0 := w0) (d0 := dm) (e1 := by rw [n9]; exact e1) (e2 := by rw [n10]; exact e2) (e3 := e3); exact z))
                exact .inl ⟨σ', ν', (tkN b n m (tkN b n m (tkN b n m (tkN b n m (tkN b n m p))))), kF, mF, K, M, kC, mS, e4, (lenTwo wp hk (Nat.le_trans (Nat.le_trans (Nat.le_trans (Nat.le_trans (Nat.le_refl _) (tkN_b (tkN_b wp).2.1).1) (tkN_b (tkN_b (tkN_b wp).2.1).2.1).1) (tkN_b (tkN_b (tkN_b (tkN_b wp).2.1).2.1).2.1).1) (tkN_b (tkN_b (tkN_b (tkN_b (tkN_b wp).2.1).2.1).2.1).2.1).1) (tkN_b (tkN_b (tkN_b (tkN_b (tkN_b wp).2.1).2.1).2.1).2.1).2.1 e4), rel_herd hR0 (mF.1.2.1 19 (by decide)) q1 q2 q3 h13 h8 a59 f59 a60 f60 a61 f61 a13 f54 f55 f56 f57 f58 b20 b21 bN f123 b501 b509 b8 f121⟩
              · exact LokM.e (D9 (v := 0) h5 hx2 (.inl rfl) (k_herd_x4 (hC0 := hC) (c8 := n1) (c9 := n2) (hk9 := hk9) (h13 := h13) (h8 := h8) (e0 := e0) (d0 := d0) (e1 := e1) (e2 := e2) (e3 := e3) (e4 := e4))) e4 (E9 (v := 1) h11 h17 (.inr rfl) (by have z := m_herd_ok (c := c) (s := s) (hM := hM) hk (c8 := c8m) (c9 := c9m) (hk9 := hk9) (h8 := h8m) (hk8 := h8) (k0 := e0.1) (w0 := w0) (d0 := dm) (e1 := by rw [n9]; exact e1) (e2 := by rw [n10]; exact e2) (e3 := e3); exact z))
            · exact LokM.b (Nat.le_trans (tkP_b (tkN_b (tkN_b (tkN_b (tkN_b wp).2.1).2.1).2.1).2.1) wn) (D9 (v := 0) h5 hx2 (.inl rfl) (k_herd_x3 (hC0 := hC) (c8 := n1) (c9 := n2) (hk9 := hk9) (h13 := h13) (h8 := h8) (e0 := e0) (d0 := d0) (e1 := e1) (e2 := e2) (e3 := e3))) (E9 (v := 0) h11 h17 (.inl rfl) (by have z := m_herd_x3 (c := c) (s := s) (hM := hM) hk (c8 := c8m) (c9 := c9m) (hk9 := hk9) (h8 := h8m) (hk8 := h8) (k0 := e0.1) (w0 := w0) (d0 := dm) (e1 := by rw [n9]; exact e1) (e2 := by rw [n10]; exact e2) (e3 := e3); exact z))
          · exact LokM.b (Nat.le_trans (tkP_b (tkN_b (tkN_b (tkN_b wp).2.1).2.1).2.1) wn) (D9 (v := 0) h5 hx2 (.inl rfl) (k_herd_x2 (hC0 := hC) (c8 := n1) (c9 := n2) (hk9 := hk9) (h13 := h13) (h8 := h8) (e0 := e0) (d0 := d0) (e1 := e1) (e2 := e2))) (E9 (v := 0) h11 h17 (.inl rfl) (by have z := m_herd_x2 (c := c) (s := s) (hM := hM) hk (c8 := c8m) (c9 := c9m) (hk9 := hk9) (h8 := h8m) (hk8 := h8) (k0 := e0.1) (w0 := w0) (d0 := dm) (e1 := by rw [n9]; exact e1) (e2 := by rw [n10]; exact e2); rw [n10] at z; exact z))
        · exact LokM.b (Nat.le_trans (tkP_b (tkN_b (tkN_b wp).2.1).2.1) wn) (D9 (v := 0) h5 hx2 (.inl rfl) (k_herd_x1 (hC0 := hC) (c8 := n1) (c9 := n2) (hk9 := hk9) (h13 := h13) (h8 := h8) (e0 := e0) (d0 := d0) (e1 := e1))) (E9 (v := 0) h11 h17 (.inl rfl) (by have z := m_herd_x1 (c := c) (s := s) (hM := hM) hk (c8 := c8m) (c9 := c9m) (hk9 := hk9) (h8 := h8m) (hk8 := h8) (k0 := e0.1) (w0 := w0) (d0 := dm) (e1 := by rw [n9]; exact e1); rw [n9] at z; exact z))
      · exact LokM.b (Nat.le_trans (tkP_b (tkN_b wp).2.1) wn) (D9 (v := 0) h5 hx2 (.inl rfl) (k_herd_had (hC0 := hC) (c8 := n1) (c9 := n2) (hk9 := hk9) (h13 := h13) (h8 := h8) (e0 := e0) (d0 := d0))) (E9 (v := 0) h11 h17 (.inl rfl) (by have z := m_herd_had (c := c) (s := s) (hM := hM) hk (c8 := c8m) (c9 := c9m) (hk9 := hk9) (h8 := h8m) (hk8 := h8) (k0 := e0.1) (w0 := w0) (d0 := fun y hy z => d0 ((SN y hy).trans z)); exact z))
    · exact LokM.b (Nat.le_trans (tkP_b (tkN_b wp).2.1) wn) (D9 (v := 0) h5 hx2 (.inl rfl) (k_herd_x0 (hC0 := hC) (c8 := n1) (c9 := n2) (hk9 := hk9) (h13 := h13) (h8 := h8) (e0 := e0))) (E9 (v := 0) h11 h17 (.inl rfl) (by have z := m_herd_x0 (c := c) (s := s) (hM := hM) hk (c8 := c8m) (c9 := c9m) (hk9 := hk9) (h8 := h8m) (hk8 := h8) (w0 := fun k y hy z => e0 ⟨k, (kw_same hw hy).trans (by rw [h124] at z; exact z)⟩); exact z))
  · exact LokM.b (Nat.le_trans (tkP_b wp) wn) (D9 (v := 0) h5 hx2 (.inl rfl) (by have z := k_herd_full (μ := σ) (c := c) (s := s) (c8 := n1) (c9 := n2) (hk9 := hk9) (h13 := h13) (hC0 := hC) (h8 := Classical.not_not.mp h8); rw [t4] at z; exact z)) (E9 (v := 0) h11 h17 (.inl rfl) (by have z := m_herd_full (c := c) (s := s) (hM := hM) hk (c8 := c8m) (c9 := c9m) (hk9 := hk9) (h8 := h8m) (hk8 := Classical.not_not.mp h8); exact z))
theorem rg_1 {b : Nat → Int} {n m ba x : Nat} : ∀ (d i q : Nat) (F G : Nat → Int), F x = G (9 + x) → rowG b n m ba d i q F x = rowG b n m (9 + ba) d i q G (9 + x)
  | 0, _, _, _, _, h => h
  | d + 1, i, q, F, G, h => by
    by_cases k2 : tkK b n m q = 2
    · rw [rg_s k2, rg_s k2]
      refine rg_1 d (i + 1) _ _ _ ?_
      by_cases e : x = ba + i
      · rw [show fs F (ba + i) (tkV b n m q) x = tkV b n m q from if_pos e, show fs G (9 + ba + i) (tkV b n m q) (9 + x) = tkV b n m q from if_pos (by omega)]
      · rw [show fs F (ba + i) (tkV b n m q) x = F x from if_neg e, show fs G (9 + ba + i) (tkV b n m q) (9 + x) = G (9 + x) from if_neg (by omega)]
        exact h
    · rw [rg_n k2, rg_n k2]; exact h
theorem rg_2 {b : Nat → Int} {n m ba le x : Nat} : ∀ (d i q : Nat) (F G : Nat → Int), (rowO b n m le d i q).1 = 0 → ba + i ≤ x → x < ba + (rowO b n m le d i q).2.2 → rowG b n m ba d i q F x = rowG b n m (9 + ba) d i q G (9 + x) := by
  intro d
  induction d with
  | zero =>
    intro i q F G h1 h2 h3
    exfalso
    by_cases k3 : tkK b n m q = 3 ∧ 0 < i
    · by_cases hl : le ≤ i
      · rw [ro_0 k3.1 k3.2 hl] at h3; exact absurd h3 (by show ¬ x < ba + i; omega)
      · rw [ro_4 k3.1 k3.2 hl] at h1; exact absurd h1 (show ¬ (4 : Int) = 0 by decide)
    · by_cases k2 : tkK b n m q = 2
      · rw [ro_z k2] at h1; exact absurd h1 (show ¬ (4 : Int) = 0 by decide)
      · rw [ro_1 k3 k2] at h1; exact absurd h1 (show ¬ (1 : Int) = 0 by decide)
  | succ d ih =>
    intro i q F G h1 h2 h3
    by_cases k2 : tkK b n m q = 2
    · rw [ro_s k2] at h1 h3
      by_cases e : x = ba + i
      · rw [rg_s k2, rg_s k2]
        refine rg_1 d (i + 1) _ _ _ ?_
        rw [show fs F (ba + i) (tkV b n m q) x = tkV b n m q from if_pos e, show fs G (9 + ba + i) (tkV b n m q) (9 + x) = tkV b n m q from if_pos (by omega)]
      · rw [rg_s k2, rg_s k2]
        exact ih (i + 1) _ _ _ h1 (by omega) h3
    · exfalso
      by_cases k3 : tkK b n m q = 3 ∧ 0 < i
      · by_cases hl : le ≤ i
        · rw [ro_0 k3.1 k3.2 hl] at h3; exact absurd h3 (by show ¬ x < ba + i; omega)
        · rw [ro_4 k3.1 k3.2 hl] at h1; exact absurd h1 (show ¬ (4 : Int) = 0 by decide)
      · rw [ro_1 k3 k2] at h1; exact absurd h1 (show ¬ (1 : Int) = 0 by decide)
theorem rg_out {b : Nat → Int} {n m ba x : Nat} : ∀ (d i q : Nat) (G : Nat → Int), (x < ba + i ∨ ba + i + d ≤ x) → rowG b n m ba d i q G x = G x
  | 0, _, _, _, _ => rfl
  | d + 1, i, q, G, h => by
    by_cases k2 : tkK b n m q = 2
    · rw [rg_s k2, rg_out d (i + 1) _ _ (by omega)]
      exact if_neg (by omega)
    · rw [rg_n k2]
theorem ro_b {b : Nat → Int} {n m le : Nat} : ∀ (d i q : Nat), q ≤ n → (q ≤ (rowO b n m le d i q).2.1 ∧ (rowO b n m le d i q).2.1 ≤ n) ∧ ((rowO b n m le d i q).1 = 0 → le ≤ (rowO b n m le d i q).2.2 ∧ (rowO b n m le d i q).2.2 ≤ i + d) := by
  intro d
  induction d with
  | zero =>
    intro i q hq
    by_cases k3 : tkK b n m q = 3 ∧ 0 < i
    · by_cases hl : le ≤ i
      · rw [ro_0 k3.1 k3.2 hl]; exact ⟨⟨Nat.le_refl _, hq⟩, fun _ => ⟨hl, Nat.le_refl _⟩⟩
      · rw [ro_4 k3.1 k3.2 hl]; exact ⟨⟨Nat.le_refl _, hq⟩, fun z => absurd z (show ¬ (4 : Int) = 0 by decide)⟩
    · by_cases k2 : tkK b n m q = 2
      · rw [ro_z k2]; exact ⟨⟨Nat.le_refl _, hq⟩, fun z => absurd z (show ¬ (4 : Int) = 0 by decide)⟩
      · rw [ro_1 k3 k2]; exact ⟨⟨Nat.le_refl _, hq⟩, fun z => absurd z (show ¬ (1 : Int) = 0 by decide)⟩
  | succ d ih =>
    intro i q hq
    by_cases k2 : tkK b n m q = 2
    · rw [ro_s k2]
      have l := tkN_b (b := b) (n := n) (m := m) hq
      have z := ih (i + 1) _ l.2.1
      exact ⟨⟨by omega, z.1.2⟩, fun y => ⟨(z.2 y).1, by have := (z.2 y).2; omega⟩⟩
    · by_cases k3 : tkK b n m q = 3 ∧ 0 < i
      · by_cases hl : le ≤ i
        · rw [ro_0 k3.1 k3.2 hl]; exact ⟨⟨Nat.le_refl _, hq⟩, fun _ => ⟨hl, by show i ≤ i + (d + 1); omega⟩⟩
        · rw [ro_4 k3.1 k3.2 hl]; exact ⟨⟨Nat.le_refl _, hq⟩, fun z => absurd z (show ¬ (4 : Int) = 0 by decide)⟩
      · rw [ro_1 k3 k2]; exact ⟨⟨Nat.le_refl _, hq⟩, fun z => absurd z (show ¬ (1 : Int) = 0 by decide)⟩
set_option maxHeartbeats 1000000 in
theorem rel_row {σ ν σ' ν' : Nat → Nat → Int} (hR : RelL σ ν 0) (s19 : ν' 118 19 = ν 118 19) {b : Nat → Int} {n m q le mo y9 c9 w9 : Nat} (h8 : σ 54 8 = (c9 : Int)) (h9 : σ 54 9 = (y9 : Int)) (hy9 : y9 < 10) (hmo : mo ≤ 10 ∧ (¬ y9 = 0 → w9 = c9) ∧ 2 ≤ w9 ∧ w9 ≤ 10) (e0 : (rowO b n m le mo 0 q).1 = 0) (hw9 : (rowO b n m le mo 0 q).2.2 = w9) (hl : ν 118 21 = 0) (a8 : σ' 54 8 = (w9 : Int)) (a9 : σ' 54 9 = σ 54 9 + 1) (f54 : ∀ j, ¬ j = 8 → ¬ j = 9 → σ' 54 j = σ 54 j) (f55 : σ' 55 = rowG b n m (10 * y9) mo 0 q (σ 55)) (f56 : σ' 56 = σ 56) (f57 : σ' 57 = σ 57) (f58 : σ' 58 = σ 58) (f59 : σ' 59 = σ 59) (f60 : σ' 60 = σ 60) (f61 : σ' 61 = σ 61) (b20 : ν' 118 20 = ν 118 20) (b21 : ν' 118 21 = ν 118 21) (f121a : ν' 121 = fs (fs (rowG b n m (9 + 10 * y9) mo 0 q (ν 121)) 0 (w9 : Int)) 1 ((y9 : Int) + 1)) (f123 : ν' 123 = ν 123) : RelL σ' ν' 1 := by
  obtain ⟨⟨n1, n2, n3, n4, n5, n6, n7, n8, n9, n10, n11, n12, n13, n14, n15, n16, n17, n18, n19, n20, n21, n22, n23, n24, n25⟩, h57, h56, h58, h55, hH⟩ := hR
  have b0 : ν' 121 0 = (w9 : Int) := by rw [f121a]; rfl
  have b1 : ν' 121 1 = (y9 : Int) + 1 := by rw [f121a]; rfl
  have fr : ∀ j, ¬ j = 0 → ¬ j = 1 → ν' 121 j = rowG b n m (9 + 10 * y9) mo 0 q (ν 121) j := fun j z0 z1 => by rw [f121a]; exact (if_neg z1).trans (if_neg z0)
  have f121 : ∀ j, ¬ j = 0 → ¬ j = 1 → (j < 9 ∨ 109 ≤ j) → ν' 121 j = ν 121 j := fun j z0 z1 z2 => (fr j z0 z1).trans (rg_out _ _ _ _ (by omega))
  have s7 := f54 7 (by decide) (by decide)
  have s10 := f54 10 (by decide) (by decide)
  have s11 := f54 11 (by decide) (by decide)
  have s12 := f54 12 (by decide) (by decide)
  have s13 := f54 13 (by decide) (by decide)
  have s14 := f54 14 (by decide) (by decide)
  have s15 := f54 15 (by decide) (by decide)
  have s16 := f54 16 (by decide) (by decide)
  have s17 := f54 17 (by decide) (by decide)
  have u2 := f121 2 (by omega) (by omega) (by omega)
  have u3 := f121 3 (by omega) (by omega) (by omega)
  have u4 := f121 4 (by omega) (by omega) (by omega)
  have u8 := f121 8 (by omega) (by omega) (by omega)
  have u499 := f121 499 (by omega) (by omega) (by omega)
  have u500 := f121 500 (by omega) (by omega) (by omega)
  refine ⟨⟨by omega, by omega, by rw [s10]; exact n3, by rw [s11]; exact n4, by rw [s12]; exact n5, by rw [s13]; exact n6, by rw [s14]; exact n7, by rw [s15]; exact n8, by omega, by omega, by rw [u2, s10]; exact n11, by rw [u3, s11]; exact n12, by rw [u4, s12]; exact n13, by rw [u8, s13]; exact n14, by rw [u499, s14]; exact n15, by rw [u500, s15]; exact n16, by rw [s16]; exact n17, by rw [s17]; exact n18, by omega, by omega, by omega, by omega, by omega, (Decidable.byCases (fun y0 : y9 = 0 => by omega) (fun y0 => by have := hmo.2.1 y0; omega)), by rw [s7]; exact n25⟩, ?_, ?_, ?_, ?_, ?_⟩
  · intro k hk3
    have z := h57 k hk3
    rw [f121 (5 + k) (by omega) (by omega) (by omega), f57]
    exact z
  · intro j hj3
    have z := h56 j hj3
    rw [f121 (109 + j) (by omega) (by omega) (by omega), f56]
    exact z
  · intro j hj3
    have z := h58 j hj3
    rw [f121 (409 + j) (by omega) (by omega) (by omega), f58]
    exact z
  · intro j g1 g2
    rw [a8] at g1
    rw [a9, h9] at g2
    have hj9 : j < 100 := by omega
    by_cases qj : j / 10 = y9
    · rw [fr (9 + j) (by omega) (by omega), f55]
      exact (rg_2 (le := le) mo 0 q _ _ e0 (by omega) (by rw [hw9]; omega)).symm
    · have hwc := hmo.2.1 (by omega)
      have z := h55 j (by omega) (by omega)
      rw [fr (9 + j) (by omega) (by omega), f55]
      exact (rg_1 mo 0 q _ _ z.symm).symm
  · intro j g1
    rw [s13] at g1
    have z := hH j g1
    have hj9 : j < 8 := by omega
    have hwc := hmo.2.1
    rw [f121 (501 + j) (by omega) (by omega) (by omega), f121 (509 + j) (by omega) (by omega) (by omega), f60, f61, f59, f123, a8, a9]
    refine ⟨⟨z.1.1, z.1.2.1, z.1.2.2.1, ?_, ?_⟩, z.2⟩
    · have z1 := z.1.2.2
      by_cases y0 : y9 = 0
      · omega
      · have := hwc y0; omega
    · have z1 := z.1.2.2
      omega
theorem rowNo {a b x : Int} (h : (x = 1 ∧ b < a + 0) ∨ (x = 0 ∧ b = a + 0)) (hl : a ≤ b) : x = 0 := by omega
theorem rowHad {a b x : Int} (h : (x = 1 ∧ b < a + 0) ∨ (x = 0 ∧ b = a + 0)) (hl : ¬ a ≤ b) : ¬ x = 0 := by omega
theorem rowMo {n y9 le mo w9 : Nat} {c r : Int} (c8 : r = 0 ∨ 2 ≤ c) (h8 : c = (n : Int)) (h9 : r = (y9 : Int)) (hc9 : n ≤ 10) (hle : (y9 = 0 → le = 2 ∧ mo = 10) ∧ (¬ y9 = 0 → le = n ∧ mo = n)) (rb : le ≤ w9 ∧ w9 ≤ 0 + mo) : mo ≤ 10 ∧ (¬ y9 = 0 → w9 = n) ∧ 2 ≤ w9 ∧ w9 ≤ 10 := by
  by_cases y0 : y9 = 0
  · have := hle.1 y0; omega
  · have := hle.2 y0; omega
set_option maxHeartbeats 1000000 in
theorem lk_row {σ ν : Nat → Nat → Int} {c s : Nat} {b : Nat → Int} {n m p : Nat} (hW : TokK σ b n m p) (hM : MSt ν b n m p) (hk : tkK b n m p = 1) (hR : RelL σ ν 0) (hx : ix (σ 4) (tkV b n m p) 16 0 = 0) (h17 : ν 118 17 = 7499639) : LokM σ ν b n m p c s := by
  obtain ⟨w2, wn, wp, t1, t2, t3, t4, t5, t6⟩ := hW
  have hC : CSt σ b n m (tkN b n m p) := ⟨w2, wn, (tkN_b wp).2.1, t1, t2, t3⟩
  have hR0 := hR
  obtain ⟨⟨n1, n2, n3, n4, n5, n6, n7, n8, n9, n10, n11, n12, n13, n14, n15, n16, n17, n18, n19, n20, n21, n22, n23, n24, n25⟩, h57, h56, h58, h55, hH⟩ := hR
  have h5 : σ 1 5 = 1 := t5.trans hk
  have hx2 : ix (σ 4) (σ 1 6) 16 0 = 0 := by rw [t6]; exact hx
  have hM2 := hM
  obtain ⟨_, _, _, _, _, _, m12, m11, _, m17, _, _⟩ := hM2
  have h11 : ν 118 11 = 1 := m11.trans (mkk_1.mpr hk)
  have c8m : 0 ≤ ν 121 0 ∧ ν 121 0 ≤ 10 := by rw [n9]; exact n1
  have c9m : 0 ≤ ν 121 1 ∧ ν 121 1 ≤ 10 := by rw [n10]; exact n2
  by_cases hl : σ 54 7 ≤ σ 54 9
  · have hlm : ν 118 21 = 0 := rowNo n22 hl
    by_cases hx9 : σ 54 9 = 10
    · exact LokM.b (Nat.le_trans (tkP_b wp) wn) (D0 (v := 0) h5 hx2 (.inl rfl) (by have z := k_row_full (μ := σ) (c := c) (s := s) hl (by rw [hx9]; exact Int.le_refl _); rw [t4] at z; exact z)) (E0 (v := 0) h11 h17 (.inl rfl) (by have z := m_row_full (c := c) (s := s) (hM := hM) (hl := hlm) (hx := n10.trans hx9); exact z))
    · obtain ⟨c9, h8⟩ := natOf n1.1
      obtain ⟨y9, h9⟩ := natOf n2.1
      have hc9 : c9 ≤ 10 := by rw [h8] at n1; exact Int.ofNat_le.mp n1.2
      have hy9 : y9 ≤ 10 := by rw [h9] at n2; exact Int.ofNat_le.mp n2.2
      have hy10 : ¬ y9 = 10 := fun z => hx9 (by rw [h9, z]; rfl)
      obtain ⟨le, mo, hle⟩ : ∃ le mo : Nat, (y9 = 0 → le = 2 ∧ mo = 10) ∧ (¬ y9 = 0 → le = c9 ∧ mo = c9) := by
        by_cases y0 : y9 = 0
        · exact ⟨2, 10, fun _ => ⟨rfl, rfl⟩, fun z => absurd y0 z⟩
        · exact ⟨c9, c9, fun z => absurd z y0, fun _ => ⟨rfl, rfl⟩⟩
      obtain ⟨σ', ⟨kF, kb, ko⟩, K⟩ := (k_row (c := c) (s := s) (hy9 := hy9) (hc9 := hc9) hle hC h8 h9 hl hy10).ex (g := fun μ' => (some (some (mI (if (rowO b n m le mo 0 (tkN b n m p)).1 = 0 then 1 else 0))), mkh μ' c s))
      obtain ⟨ν', ⟨mF, mb, mo2⟩, M⟩ := (m_row (c := c) (s := s) (hy9 := hy9) (hc9 := hc9) hle hM hk (n9.trans h8) (n10.trans h9) hlm hy10).ex (g := fun μ' => (some (some (mI (if (rowO b n m le mo 0 (tkN b n m p)).1 = 0 then 1 else 0))), mkh μ' c s))
      have rb := ro_b (b := b) (n := n) (m := m) (le := le) mo 0 (tkN b n m p) (tkN_b wp).2.1
      by_cases e0 : (rowO b n m le mo 0 (tkN b n m p)).1 = 0
      · rw [if_pos e0] at K M
        obtain ⟨kC, k32, a8, a9, f54, f55, f56, f57, f58, f59, f60, f61⟩ := ko e0
        obtain ⟨mS, mk3, m15, b20, b21, f121a, f123⟩ := mo2 e0
        have hmo := rowMo (n := c9) (c8 := n23) h8 h9 hc9 hle (rb.2 e0)
        exact .inl ⟨σ', ν', (rowO b n m le mo 0 (tkN b n m p)).2.1, ⟨kF, k32⟩, ⟨mF, m15⟩, d_line0 h5 hx2 K (.inr rfl), e_line0 h11 h17 (b_line0 (.inr rfl) M), kC, mS, mk3, lenTwo wp hk rb.1.1 rb.1.2 mk3, rel_row hR0 (mF.2.1 19 (by decide)) h8 h9 (Nat.lt_of_le_of_ne hy9 hy10) hmo e0 rfl hlm a8 a9 f54 f55 f56 f57 f58 f59 f60 f61 b20 b21 f121a f123⟩
      · rw [if_neg e0] at K M
        obtain ⟨k1, k2⟩ := kb e0
        obtain ⟨m1, m2⟩ := mb e0
        exact LokM.b (Nat.le_trans (tkP_b rb.1.2) wn) ⟨σ', ⟨k1, k2, kF⟩, d_line0 h5 hx2 K (.inl rfl)⟩ ⟨ν', ⟨m1, m2, mF⟩, e_line0 h11 h17 (b_line0 (.inl rfl) M)⟩
  · exact LokM.b (Nat.le_trans (tkP_b wp) wn) (D0 (v := 0) h5 hx2 (.inl rfl) (by have z := k_row_had (μ := σ) (c := c) (s := s) hl; rw [t4] at z; exact z)) (E0 (v := 0) h11 h17 (.inl rfl) (by have z := m_row_had (c := c) (s := s) (hM := hM) (hl := rowHad n22 hl); exact z))
theorem ixNo {v : Int} {k : Nat} (h : v = -1 ∨ (((0 : Nat) : Int) ≤ v ∧ v < (k : Int))) (x0 : ¬ v = 0) (x1 : ¬ v = 1) (x2 : ¬ v = 2) (x3 : ¬ v = 3) (x4 : ¬ v = 4) (x5 : ¬ v = 5) (x6 : ¬ v = 6) (x7 : ¬ v = 7) (x8 : ¬ v = 8) (x9 : ¬ v = 9) (x10 : ¬ v = 10) : v = -1 ∨ 11 ≤ v := by omega
theorem lk_all {σ ν : Nat → Nat → Int} {c s : Nat} {b : Nat → Int} {n m p : Nat} (hW : TokK σ b n m p) (hM : MSt ν b n m p) (hR : RelL σ ν 0) (hw : I_words σ) (h124 : ν 124 = σ 124) : LokM σ ν b n m p c s := by
  obtain ⟨w2, wn, wp, t1, t2, t3, t4, t5, t6⟩ := id hW
  have hM2 := hM
  obtain ⟨_, _, _, _, _, _, m12, m11, _, m17, _, _⟩ := hM2
  have hf : ∀ {P : Prop}, P → Cl PT 51 [mR 3, mR 54] (mkh σ c s) (fun r => r = (some (some (mI 0)), mkh (m_set σ 3 2 1) c s)) → Cl PT 183 [mR 118] (mkh ν c s) (fun r => r = (some (some (mI 0)), mkh (m_set (m_set ν 118 15 1) 118 16 (ν 118 12)) c s)) → LokM σ ν b n m p c s := fun _ K M => LokM.b (Nat.le_trans (tkP_b wp) wn) ⟨m_set σ 3 2 1, ⟨rfl, t4, CF.s CF.r (by decide)⟩, K⟩ ⟨m_set (m_set ν 118 15 1) 118 16 (ν 118 12), ⟨rfl, m12, MFr.s (MFr.s MFr.r (by decide)) (by decide)⟩, M⟩
  by_cases hk : tkK b n m p = 1
  · have hy := m17 hk
    have hb := ix_b (f := σ 4) (v := tkV b n m p) 16 0
    by_cases x0 : ix (σ 4) (tkV b n m p) 16 0 = 0
    · exact lk_row hW hM hk hR x0 ((kw_at hw hy (w := 0) (by decide) x0).trans kw_0)
    by_cases x1 : ix (σ 4) (tkV b n m p) 16 0 = 1
    · exact lk_law hW hM hk hR x1 ((kw_at hw hy (w := 1) (by decide) x1).trans kw_1)
    by_cases x2 : ix (σ 4) (tkV b n m p) 16 0 = 2
    · exact lk_wood hW hM hk hR x2 ((kw_at hw hy (w := 2) (by decide) x2).trans kw_2)
    by_cases x3 : ix (σ 4) (tkV b n m p) 16 0 = 3
    · exact lk_day0 hW hM hk hR x3 ((kw_at hw hy (w := 3) (by decide) x3).trans kw_3)
    by_cases x4 : ix (σ 4) (tkV b n m p) 16 0 = 4
    · exact lk_day1 hW hM hk hR x4 ((kw_at hw hy (w := 4) (by decide) x4).trans kw_4)
    by_cases x5 : ix (σ 4) (tkV b n m p) 16 0 = 5
    · exact lk_day2 hW hM hk hR x5 ((kw_at hw hy (w := 5) (by decide) x5).trans kw_5)
    by_cases x6 : ix (σ 4) (tkV b n m p) 16 0 = 6
    · exact lk_thing0 hW hM hk hR x6 ((kw_at hw hy (w := 6) (by decide) x6).trans kw_6)
    by_cases x7 : ix (σ 4) (tkV b n m p) 16 0 = 7
    · exact lk_thing1 hW hM hk hR x7 ((kw_at hw hy (w := 7) (by decide) x7).trans kw_7)
    by_cases x8 : ix (σ 4) (tkV b n m p) 16 0 = 8
    · exact lk_thing2 hW hM hk hR x8 ((kw_at hw hy (w := 8) (by decide) x8).trans kw_8)
    by_cases x9 : ix (σ 4) (tkV b n m p) 16 0 = 9
    · exact lk_herd hW hM hk hR hw h124 x9 ((kw_at hw hy (w := 9) (by decide) x9).trans kw_9)
    by_cases x10 : ix (σ 4) (tkV b n m p) 16 0 = 10
    · exact lk_wolf hW hM hk hR x10 ((kw_at hw hy (w := 10) (by decide) x10).trans kw_10)
    have hno : ix (σ 4) (tkV b n m p) 16 0 = -1 ∨ 11 ≤ ix (σ 4) (tkV b n m p) 16 0 := ixNo hb x0 x1 x2 x3 x4 x5 x6 x7 x8 x9 x10
    refine hf trivial (d_lineB (t5.trans hk) (by rw [t6]; exact hno)) (e_lineN fun _ => ⟨fun z => kw_no hw hy hno (w := 0) (by decide) (z.trans kw_0.symm), fun z => kw_no hw hy hno (w := 1) (by decide) (z.trans kw_1.symm), fun z => kw_no hw hy hno (w := 2) (by decide) (z.trans kw_2.symm), fun z => kw_no hw hy hno (w := 3) (by decide) (z.trans kw_3.symm), fun z => kw_no hw hy hno (w := 4) (by decide) (z.trans kw_4.symm), fun z => kw_no hw hy hno (w := 5) (by decide) (z.trans kw_5.symm), fun z => kw_no hw hy hno (w := 6) (by decide) (z.trans kw_6.symm), fun z => kw_no hw hy hno (w := 7) (by decide) (z.trans kw_7.symm), fun z => kw_no hw hy hno (w := 8) (by decide) (z.trans kw_8.symm), fun z => kw_no hw hy hno (w := 9) (by decide) (z.trans kw_9.symm), fun z => kw_no hw hy hno (w := 10) (by decide) (z.trans kw_10.symm)⟩)
  · exact hf trivial (d_lineA (by rw [t5]; exact hk)) (e_lineN fun z => absurd (mkk_1.mp (m11.symm.trans z)) hk)
