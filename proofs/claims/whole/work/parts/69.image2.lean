variable {N : Int}
/-! ===== printed by wip/whole/gen69.py: pairs: image, restore ===== -/
theorem fl_b {g f : Nat → Int} {n : Nat} {lo hi : Int} (h1 : ∀ j, lo ≤ g j ∧ g j ≤ hi) (h2 : ∀ j, lo ≤ f j ∧ f j ≤ hi) (j : Nat) : lo ≤ fl g f n j ∧ fl g f n j ≤ hi := by
  unfold fl
  split
  · exact h1 j
  · exact h2 j
theorem pbn_in {f b : Nat → Int} {n m j : Nat} (h : j < m) : pbn f n b m (n + j) = b j := by
  unfold pbn
  rw [if_pos (by omega), Nat.add_sub_cancel_left]
theorem pbn_out {f b : Nat → Int} {n m j : Nat} (h : j < n ∨ n + m ≤ j) : pbn f n b m j = f j := by
  unfold pbn
  rw [if_neg (by omega)]
theorem I_land.bnds {μ : Nat → Nat → Int} (h : I_land μ) : (∀ j, 0 ≤ μ 7 j ∧ μ 7 j ≤ 99) ∧ (∀ j, -1 ≤ μ 8 j ∧ μ 8 j ≤ 99) ∧ (∀ j, -1 ≤ μ 10 j ∧ μ 10 j ≤ 99) := by
  obtain ⟨-, -, -, -, -, -, -, -, -, -, -, -, -, -, -, -, -, g, t, w, -⟩ := h
  exact ⟨g, t, w⟩
theorem Inv.img {μ : Nat → Nat → Int} (h : Inv N μ) : I_img μ := ⟨h.land, h.scene, h.plan, h.names, h.flag⟩
set_option maxHeartbeats 4000000 in
theorem image_inv_0 {μ : Nat → Nat → Int} (hI : Inv N μ) : Inv N (m_set (m_upd (m_upd (m_set (m_set (icp μ 22 5) 22 3 1) 118 0 0) 138 (pbn (μ 138) 0 (fun k => μ 120 k) 657)) 139 (pbn (μ 139) 0 (fun k => μ 123 k) 8)) 140 0 1) := by
  have ro : ∀ b, (b < 22 ∨ 22 + 15 < b) → ¬ b = 118 → ¬ b = 138 → ¬ b = 139 → ¬ b = 140 → (m_set (m_upd (m_upd (m_set (m_set (icp μ 22 5) 22 3 1) 118 0 0) 138 (pbn (μ 138) 0 (fun k => μ 120 k) 657)) 139 (pbn (μ 139) 0 (fun k => μ 123 k) 8)) 140 0 1) b = μ b := fun b h1 h2 h3 h4 h5 => by
    rw [row_set h5, row_upd h4, row_upd h3, row_set h2, row_set (by omega), icp_o (by omega)]
  have hK := hI.kept
  have hL := hI.land.bnds
  have hS := hI.scene
  refine Inv.mk (hI.tape.congr rfl rfl rfl rfl) (hI.fault.congr rfl rfl) (hI.land.congr rfl rfl rfl rfl rfl (fun _ _ => rfl)) (hI.scene.congr rfl rfl rfl rfl rfl) (hI.last.congr rfl rfl rfl rfl rfl rfl rfl rfl rfl rfl rfl rfl rfl rfl rfl rfl) (hI.plan.congr rfl rfl rfl rfl rfl (fun _ _ _ => rfl)) (hI.names.congr hI.land.2.2.2.2.2.1.2 rfl rfl (fun _ _ => rfl)) hI.took (hI.undo.congr rfl rfl rfl rfl (fun b h1 h2 => ro b (by omega) (by omega) (by omega) (by omega) (by omega)) rfl) (fun k hk => ?_) (hI.words.congr rfl rfl) (hI.fresh.congr rfl rfl rfl) hI.flag
  by_cases ek : k = 0
  · subst ek
    have hKk := (hK 0 (by decide)).2.2.2
    have hb : ∀ j, (0 ≤ vw (m_set (m_upd (m_upd (m_set (m_set (icp μ 22 5) 22 3 1) 118 0 0) 138 (pbn (μ 138) 0 (fun k => μ 120 k) 657)) 139 (pbn (μ 139) 0 (fun k => μ 123 k) 8)) 140 0 1) 0 7 j ∧ vw (m_set (m_upd (m_upd (m_set (m_set (icp μ 22 5) 22 3 1) 118 0 0) 138 (pbn (μ 138) 0 (fun k => μ 120 k) 657)) 139 (pbn (μ 139) 0 (fun k => μ 123 k) 8)) 140 0 1) 0 7 j ≤ 99) ∧ (-1 ≤ vw (m_set (m_upd (m_upd (m_set (m_set (icp μ 22 5) 22 3 1) 118 0 0) 138 (pbn (μ 138) 0 (fun k => μ 120 k) 657)) 139 (pbn (μ 139) 0 (fun k => μ 123 k) 8)) 140 0 1) 0 8 j ∧ vw (m_set (m_upd (m_upd (m_set (m_set (icp μ 22 5) 22 3 1) 118 0 0) 138 (pbn (μ 138) 0 (fun k => μ 120 k) 657)) 139 (pbn (μ 139) 0 (fun k => μ 123 k) 8)) 140 0 1) 0 8 j ≤ 99) ∧ (-1 ≤ vw (m_set (m_upd (m_upd (m_set (m_set (icp μ 22 5) 22 3 1) 118 0 0) 138 (pbn (μ 138) 0 (fun k => μ 120 k) 657)) 139 (pbn (μ 139) 0 (fun k => μ 123 k) 8)) 140 0 1) 0 10 j ∧ vw (m_set (m_upd (m_upd (m_set (m_set (icp μ 22 5) 22 3 1) 118 0 0) 138 (pbn (μ 138) 0 (fun k => μ 120 k) 657)) 139 (pbn (μ 139) 0 (fun k => μ 123 k) 8)) 140 0 1) 0 10 j ≤ 99) ∧ (0 ≤ vw (m_set (m_upd (m_upd (m_set (m_set (icp μ 22 5) 22 3 1) 118 0 0) 138 (pbn (μ 138) 0 (fun k => μ 120 k) 657)) 139 (pbn (μ 139) 0 (fun k => μ 123 k) 8)) 140 0 1) 0 15 j ∧ vw (m_set (m_upd (m_upd (m_set (m_set (icp μ 22 5) 22 3 1) 118 0 0) 138 (pbn (μ 138) 0 (fun k => μ 120 k) 657)) 139 (pbn (μ 139) 0 (fun k => μ 123 k) 8)) 140 0 1) 0 15 j ≤ 99) ∧ (0 ≤ vw (m_set (m_upd (m_upd (m_set (m_set (icp μ 22 5) 22 3 1) 118 0 0) 138 (pbn (μ 138) 0 (fun k => μ 120 k) 657)) 139 (pbn (μ 139) 0 (fun k => μ 123 k) 8)) 140 0 1) 0 16 j ∧ vw (m_set (m_upd (m_upd (m_set (m_set (icp μ 22 5) 22 3 1) 118 0 0) 138 (pbn (μ 138) 0 (fun k => μ 120 k) 657)) 139 (pbn (μ 139) 0 (fun k => μ 123 k) 8)) 140 0 1) 0 16 j ≤ 99) := fun j =>
      ⟨fl_b (g := μ 7) (f := μ 24) (n := 100) hL.1 (fun j => (hKk j).1) j, fl_b (g := μ 8) (f := μ 25) (n := 300) hL.2.1 (fun j => (hKk j).2.1) j, fl_b (g := μ 10) (f := μ 27) (n := 90) hL.2.2 (fun j => (hKk j).2.2.1) j, fl_b (g := μ 15) (f := μ 32) (n := 8) hS.2.2.2.2.2.2.1 (fun j => (hKk j).2.2.2.1) j, fl_b (g := μ 16) (f := μ 33) (n := 8) hS.2.2.2.2.2.2.2.1 (fun j => (hKk j).2.2.2.2) j⟩
    refine ⟨Or.inr rfl, rfl, fun _ => ⟨hI.img.copy (fun j hj => cpl_v hj) (fun j hj => fl_lt (g := μ 7) hj) (fun j hj => fl_lt (g := μ 8) hj) (fun j hj => fl_lt (g := μ 9) hj) (fun j hj => fl_lt (g := μ 10) hj) (fun j hj => fl_lt (g := μ 11) hj) rfl rfl rfl (fun j hj => fl_lt (g := μ 15) hj) (fun j hj => fl_lt (g := μ 16) hj) rfl (fun j hj => fl_lt (g := μ 18) hj) (fun j hj => fl_lt (g := μ 19) hj) (fun j hj => fl_lt (g := μ 20) hj) (fun j hj => ?_) (fun j hj => ?_) hb, hI.took⟩, hb⟩
    · show pbn (μ 138) 0 (fun k => μ 120 k) 657 (657 * 0 + j) = μ 120 j
      exact pbn_in (n := 0) hj
    · show pbn (μ 139) 0 (fun k => μ 123 k) 8 (8 * 0 + j) = μ 123 j
      exact pbn_in (n := 0) hj
  · have ek2 : k = 1 := by omega
    subst ek2
    have hv : ∀ a j, 6 ≤ a → a ≤ 20 → vw (m_set (m_upd (m_upd (m_set (m_set (icp μ 22 5) 22 3 1) 118 0 0) 138 (pbn (μ 138) 0 (fun k => μ 120 k) 657)) 139 (pbn (μ 139) 0 (fun k => μ 123 k) 8)) 140 0 1) 1 a j = vw μ 1 a j := fun a j h1 h2 => by
      unfold vw
      rw [if_pos ⟨h1, h2⟩, if_pos ⟨h1, h2⟩, ro _ (by omega) (by omega) (by omega) (by omega) (by omega)]
    have h6 : ∀ j, j < 657 → vw (m_set (m_upd (m_upd (m_set (m_set (icp μ 22 5) 22 3 1) 118 0 0) 138 (pbn (μ 138) 0 (fun k => μ 120 k) 657)) 139 (pbn (μ 139) 0 (fun k => μ 123 k) 8)) 140 0 1) 1 120 j = vw μ 1 120 j := fun j hj => by
      show pbn (μ 138) 0 (fun k => μ 120 k) 657 (657 * 1 + j) = μ 138 (657 * 1 + j)
      exact pbn_out (by omega)
    have h8 : ∀ j, j < 8 → vw (m_set (m_upd (m_upd (m_set (m_set (icp μ 22 5) 22 3 1) 118 0 0) 138 (pbn (μ 138) 0 (fun k => μ 120 k) 657)) 139 (pbn (μ 139) 0 (fun k => μ 123 k) 8)) 140 0 1) 1 123 j = vw μ 1 123 j := fun j hj => by
      show pbn (μ 139) 0 (fun k => μ 123 k) 8 (8 * 1 + j) = μ 139 (8 * 1 + j)
      exact pbn_out (by omega)
    obtain ⟨g1, g2, g3, g4⟩ := hK 1 (by decide)
    have hb : ∀ j, (0 ≤ vw (m_set (m_upd (m_upd (m_set (m_set (icp μ 22 5) 22 3 1) 118 0 0) 138 (pbn (μ 138) 0 (fun k => μ 120 k) 657)) 139 (pbn (μ 139) 0 (fun k => μ 123 k) 8)) 140 0 1) 1 7 j ∧ vw (m_set (m_upd (m_upd (m_set (m_set (icp μ 22 5) 22 3 1) 118 0 0) 138 (pbn (μ 138) 0 (fun k => μ 120 k) 657)) 139 (pbn (μ 139) 0 (fun k => μ 123 k) 8)) 140 0 1) 1 7 j ≤ 99) ∧ (-1 ≤ vw (m_set (m_upd (m_upd (m_set (m_set (icp μ 22 5) 22 3 1) 118 0 0) 138 (pbn (μ 138) 0 (fun k => μ 120 k) 657)) 139 (pbn (μ 139) 0 (fun k => μ 123 k) 8)) 140 0 1) 1 8 j ∧ vw (m_set (m_upd (m_upd (m_set (m_set (icp μ 22 5) 22 3 1) 118 0 0) 138 (pbn (μ 138) 0 (fun k => μ 120 k) 657)) 139 (pbn (μ 139) 0 (fun k => μ 123 k) 8)) 140 0 1) 1 8 j ≤ 99) ∧ (-1 ≤ vw (m_set (m_upd (m_upd (m_set (m_set (icp μ 22 5) 22 3 1) 118 0 0) 138 (pbn (μ 138) 0 (fun k => μ 120 k) 657)) 139 (pbn (μ 139) 0 (fun k => μ 123 k) 8)) 140 0 1) 1 10 j ∧ vw (m_set (m_upd (m_upd (m_set (m_set (icp μ 22 5) 22 3 1) 118 0 0) 138 (pbn (μ 138) 0 (fun k => μ 120 k) 657)) 139 (pbn (μ 139) 0 (fun k => μ 123 k) 8)) 140 0 1) 1 10 j ≤ 99) ∧ (0 ≤ vw (m_set (m_upd (m_upd (m_set (m_set (icp μ 22 5) 22 3 1) 118 0 0) 138 (pbn (μ 138) 0 (fun k => μ 120 k) 657)) 139 (pbn (μ 139) 0 (fun k => μ 123 k) 8)) 140 0 1) 1 15 j ∧ vw (m_set (m_upd (m_upd (m_set (m_set (icp μ 22 5) 22 3 1) 118 0 0) 138 (pbn (μ 138) 0 (fun k => μ 120 k) 657)) 139 (pbn (μ 139) 0 (fun k => μ 123 k) 8)) 140 0 1) 1 15 j ≤ 99) ∧ (0 ≤ vw (m_set (m_upd (m_upd (m_set (m_set (icp μ 22 5) 22 3 1) 118 0 0) 138 (pbn (μ 138) 0 (fun k => μ 120 k) 657)) 139 (pbn (μ 139) 0 (fun k => μ 123 k) 8)) 140 0 1) 1 16 j ∧ vw (m_set (m_upd (m_upd (m_set (m_set (icp μ 22 5) 22 3 1) 118 0 0) 138 (pbn (μ 138) 0 (fun k => μ 120 k) 657)) 139 (pbn (μ 139) 0 (fun k => μ 123 k) 8)) 140 0 1) 1 16 j ≤ 99) := fun j => by
      rw [hv 7 j (by omega) (by omega), hv 8 j (by omega) (by omega), hv 10 j (by omega) (by omega), hv 15 j (by omega) (by omega), hv 16 j (by omega) (by omega)]
      exact g4 j
    refine ⟨g1, g2, fun hu => ⟨(g3 hu).1.copy (fun j _ => hv 6 j (by omega) (by omega)) (fun j _ => hv 7 j (by omega) (by omega)) (fun j _ => hv 8 j (by omega) (by omega)) (fun j _ => hv 9 j (by omega) (by omega)) (fun j _ => hv 10 j (by omega) (by omega)) (fun j _ => hv 11 j (by omega) (by omega)) (hv 14 0 (by omega) (by omega)) (hv 14 3 (by omega) (by omega)) (hv 14 4 (by omega) (by omega)) (fun j _ => hv 15 j (by omega) (by omega)) (fun j _ => hv 16 j (by omega) (by omega)) (hv 17 0 (by omega) (by omega)) (fun j _ => hv 18 j (by omega) (by omega)) (fun j _ => hv 19 j (by omega) (by omega)) (fun j _ => hv 20 j (by omega) (by omega)) h6 h8 hb, ?_⟩, hb⟩
    rw [hv 14 4 (by omega) (by omega)]
    exact (g3 hu).2
set_option maxHeartbeats 4000000 in
theorem restore_inv_0 {μ : Nat → Nat → Int} (hI : Inv N μ) (hN : 0 ≤ N) (hu : μ 22 3 = 1) : Inv N (m_set (m_upd (m_upd (m_set (m_set (m_set (icp μ 5 22) 82 5 0) 82 6 0) 118 0 0) 120 (pbn (μ 120) 0 (fun k => μ 138 (0 + k)) 657)) 123 (pbn (μ 123) 0 (fun k => μ 139 (0 + k)) 8)) 118 34 0) := by
  have ro : ∀ b, (b ≤ 5 ∨ 20 < b) → ¬ b = 82 → ¬ b = 118 → ¬ b = 120 → ¬ b = 123 → (m_set (m_upd (m_upd (m_set (m_set (m_set (icp μ 5 22) 82 5 0) 82 6 0) 118 0 0) 120 (pbn (μ 120) 0 (fun k => μ 138 (0 + k)) 657)) 123 (pbn (μ 123) 0 (fun k => μ 139 (0 + k)) 8)) 118 34 0) b = μ b := fun b h1 h2 h3 h4 h5 => by
    rw [row_set h3, row_upd h5, row_upd h4, row_set h3, row_set h2, row_set h2, icp_o (by omega)]
  obtain ⟨g1, g2, g3, g4⟩ := hI.kept 0 (by decide)
  have hL := hI.land.bnds
  have hS := hI.scene
  have hb : ∀ j, (0 ≤ (m_set (m_upd (m_upd (m_set (m_set (m_set (icp μ 5 22) 82 5 0) 82 6 0) 118 0 0) 120 (pbn (μ 120) 0 (fun k => μ 138 (0 + k)) 657)) 123 (pbn (μ 123) 0 (fun k => μ 139 (0 + k)) 8)) 118 34 0) 7 j ∧ (m_set (m_upd (m_upd (m_set (m_set (m_set (icp μ 5 22) 82 5 0) 82 6 0) 118 0 0) 120 (pbn (μ 120) 0 (fun k => μ 138 (0 + k)) 657)) 123 (pbn (μ 123) 0 (fun k => μ 139 (0 + k)) 8)) 118 34 0) 7 j ≤ 99) ∧ (-1 ≤ (m_set (m_upd (m_upd (m_set (m_set (m_set (icp μ 5 22) 82 5 0) 82 6 0) 118 0 0) 120 (pbn (μ 120) 0 (fun k => μ 138 (0 + k)) 657)) 123 (pbn (μ 123) 0 (fun k => μ 139 (0 + k)) 8)) 118 34 0) 8 j ∧ (m_set (m_upd (m_upd (m_set (m_set (m_set (icp μ 5 22) 82 5 0) 82 6 0) 118 0 0) 120 (pbn (μ 120) 0 (fun k => μ 138 (0 + k)) 657)) 123 (pbn (μ 123) 0 (fun k => μ 139 (0 + k)) 8)) 118 34 0) 8 j ≤ 99) ∧ (-1 ≤ (m_set (m_upd (m_upd (m_set (m_set (m_set (icp μ 5 22) 82 5 0) 82 6 0) 118 0 0) 120 (pbn (μ 120) 0 (fun k => μ 138 (0 + k)) 657)) 123 (pbn (μ 123) 0 (fun k => μ 139 (0 + k)) 8)) 118 34 0) 10 j ∧ (m_set (m_upd (m_upd (m_set (m_set (m_set (icp μ 5 22) 82 5 0) 82 6 0) 118 0 0) 120 (pbn (μ 120) 0 (fun k => μ 138 (0 + k)) 657)) 123 (pbn (μ 123) 0 (fun k => μ 139 (0 + k)) 8)) 118 34 0) 10 j ≤ 99) ∧ (0 ≤ (m_set (m_upd (m_upd (m_set (m_set (m_set (icp μ 5 22) 82 5 0) 82 6 0) 118 0 0) 120 (pbn (μ 120) 0 (fun k => μ 138 (0 + k)) 657)) 123 (pbn (μ 123) 0 (fun k => μ 139 (0 + k)) 8)) 118 34 0) 15 j ∧ (m_set (m_upd (m_upd (m_set (m_set (m_set (icp μ 5 22) 82 5 0) 82 6 0) 118 0 0) 120 (pbn (μ 120) 0 (fun k => μ 138 (0 + k)) 657)) 123 (pbn (μ 123) 0 (fun k => μ 139 (0 + k)) 8)) 118 34 0) 15 j ≤ 99) ∧ (0 ≤ (m_set (m_upd (m_upd (m_set (m_set (m_set (icp μ 5 22) 82 5 0) 82 6 0) 118 0 0) 120 (pbn (μ 120) 0 (fun k => μ 138 (0 + k)) 657)) 123 (pbn (μ 123) 0 (fun k => μ 139 (0 + k)) 8)) 118 34 0) 16 j ∧ (m_set (m_upd (m_upd (m_set (m_set (m_set (icp μ 5 22) 82 5 0) 82 6 0) 118 0 0) 120 (pbn (μ 120) 0 (fun k => μ 138 (0 + k)) 657)) 123 (pbn (μ 123) 0 (fun k => μ 139 (0 + k)) 8)) 118 34 0) 16 j ≤ 99) := fun j =>
    ⟨fl_b (g := μ 24) (f := μ 7) (n := 100) (fun j => (g4 j).1) hL.1 j, fl_b (g := μ 25) (f := μ 8) (n := 300) (fun j => (g4 j).2.1) hL.2.1 j, fl_b (g := μ 27) (f := μ 10) (n := 90) (fun j => (g4 j).2.2.1) hL.2.2 j, fl_b (g := μ 32) (f := μ 15) (n := 8) (fun j => (g4 j).2.2.2.1) hS.2.2.2.2.2.2.1 j, fl_b (g := μ 33) (f := μ 16) (n := 8) (fun j => (g4 j).2.2.2.2) hS.2.2.2.2.2.2.2.1 j⟩
  have hi : I_img (m_set (m_upd (m_upd (m_set (m_set (m_set (icp μ 5 22) 82 5 0) 82 6 0) 118 0 0) 120 (pbn (μ 120) 0 (fun k => μ 138 (0 + k)) 657)) 123 (pbn (μ 123) 0 (fun k => μ 139 (0 + k)) 8)) 118 34 0) := by
    refine (g3 hu).1.copy (fun j hj => cpl_v hj) (fun j hj => fl_lt (g := μ 24) hj) (fun j hj => fl_lt (g := μ 25) hj) (fun j hj => fl_lt (g := μ 26) hj) (fun j hj => fl_lt (g := μ 27) hj) (fun j hj => fl_lt (g := μ 28) hj) rfl rfl rfl (fun j hj => fl_lt (g := μ 32) hj) (fun j hj => fl_lt (g := μ 33) hj) rfl (fun j hj => fl_lt (g := μ 35) hj) (fun j hj => fl_lt (g := μ 36) hj) (fun j hj => fl_lt (g := μ 37) hj) (fun j hj => ?_) (fun j hj => ?_) hb
    · show pbn (μ 120) 0 (fun k => μ 138 (0 + k)) 657 j = μ 138 (657 * 0 + j)
      rw [show j = 0 + j by omega, pbn_in hj, Nat.zero_add]
      try rw [show 657 * 0 + j = j by omega]
    · show pbn (μ 123) 0 (fun k => μ 139 (0 + k)) 8 j = μ 139 (8 * 0 + j)
      rw [show j = 0 + j by omega, pbn_in hj, Nat.zero_add]
      try rw [show 8 * 0 + j = j by omega]
  refine Inv.mk (hI.tape.congr rfl rfl rfl rfl) (hI.fault.congr rfl rfl) hi.1 hi.2.1 (hI.last.congr rfl rfl rfl rfl rfl rfl rfl rfl rfl rfl rfl rfl rfl rfl rfl rfl) hi.2.2.1 hi.2.2.2.1 (g3 hu).2 ⟨⟨⟨by show (0 : Int) ≤ 0; decide, by show (0 : Int) ≤ 8; decide⟩, by show (0 : Int) ≤ 0; decide, by show (0 : Int) ≤ N; exact hN⟩, rfl, fun i p hi _ => ?_⟩ (hI.kept.congr (fun b h1 h2 => ro b (by omega) (by omega) (by omega) (by omega) (by omega)) rfl rfl rfl) (hI.words.congr rfl rfl) (hI.fresh.congr rfl rfl rfl) hi.2.2.2.2
  have : (i : Int) < 0 := hi
  omega
set_option maxHeartbeats 4000000 in
theorem image_inv_1 {μ : Nat → Nat → Int} (hI : Inv N μ) : Inv N (m_set (m_upd (m_upd (m_set (m_set (icp μ 38 5) 38 3 1) 118 0 0) 138 (pbn (μ 138) 657 (fun k => μ 120 k) 657)) 139 (pbn (μ 139) 8 (fun k => μ 123 k) 8)) 140 1 1) := by
  have ro : ∀ b, (b < 38 ∨ 38 + 15 < b) → ¬ b = 118 → ¬ b = 138 → ¬ b = 139 → ¬ b = 140 → (m_set (m_upd (m_upd (m_set (m_set (icp μ 38 5) 38 3 1) 118 0 0) 138 (pbn (μ 138) 657 (fun k => μ 120 k) 657)) 139 (pbn (μ 139) 8 (fun k => μ 123 k) 8)) 140 1 1) b = μ b := fun b h1 h2 h3 h4 h5 => by
    rw [row_set h5, row_upd h4, row_upd h3, row_set h2, row_set (by omega), icp_o (by omega)]
  have hK := hI.kept
  have hL := hI.land.bnds
  have hS := hI.scene
  refine Inv.mk (hI.tape.congr rfl rfl rfl rfl) (hI.fault.congr rfl rfl) (hI.land.congr rfl rfl rfl rfl rfl (fun _ _ => rfl)) (hI.scene.congr rfl rfl rfl rfl rfl) (hI.last.congr rfl rfl rfl rfl rfl rfl rfl rfl rfl rfl rfl rfl rfl rfl rfl rfl) (hI.plan.congr rfl rfl rfl rfl rfl (fun _ _ _ => rfl)) (hI.names.congr hI.land.2.2.2.2.2.1.2 rfl rfl (fun _ _ => rfl)) hI.took (hI.undo.congr rfl rfl rfl rfl (fun b h1 h2 => ro b (by omega) (by omega) (by omega) (by omega) (by omega)) rfl) (fun k hk => ?_) (hI.words.congr rfl rfl) (hI.fresh.congr rfl rfl rfl) hI.flag
  by_cases ek : k = 1
  · subst ek
    have hKk := (hK 1 (by decide)).2.2.2
    have hb : ∀ j, (0 ≤ vw (m_set (m_upd (m_upd (m_set (m_set (icp μ 38 5) 38 3 1) 118 0 0) 138 (pbn (μ 138) 657 (fun k => μ 120 k) 657)) 139 (pbn (μ 139) 8 (fun k => μ 123 k) 8)) 140 1 1) 1 7 j ∧ vw (m_set (m_upd (m_upd (m_set (m_set (icp μ 38 5) 38 3 1) 118 0 0) 138 (pbn (μ 138) 657 (fun k => μ 120 k) 657)) 139 (pbn (μ 139) 8 (fun k => μ 123 k) 8)) 140 1 1) 1 7 j ≤ 99) ∧ (-1 ≤ vw (m_set (m_upd (m_upd (m_set (m_set (icp μ 38 5) 38 3 1) 118 0 0) 138 (pbn (μ 138) 657 (fun k => μ 120 k) 657)) 139 (pbn (μ 139) 8 (fun k => μ 123 k) 8)) 140 1 1) 1 8 j ∧ vw (m_set (m_upd (m_upd (m_set (m_set (icp μ 38 5) 38 3 1) 118 0 0) 138 (pbn (μ 138) 657 (fun k => μ 120 k) 657)) 139 (pbn (μ 139) 8 (fun k => μ 123 k) 8)) 140 1 1) 1 8 j ≤ 99) ∧ (-1 ≤ vw (m_set (m_upd (m_upd (m_set (m_set (icp μ 38 5) 38 3 1) 118 0 0) 138 (pbn (μ 138) 657 (fun k => μ 120 k) 657)) 139 (pbn (μ 139) 8 (fun k => μ 123 k) 8)) 140 1 1) 1 10 j ∧ vw (m_set (m_upd (m_upd (m_set (m_set (icp μ 38 5) 38 3 1) 118 0 0) 138 (pbn (μ 138) 657 (fun k => μ 120 k) 657)) 139 (pbn (μ 139) 8 (fun k => μ 123 k) 8)) 140 1 1) 1 10 j ≤ 99) ∧ (0 ≤ vw (m_set (m_upd (m_upd (m_set (m_set (icp μ 38 5) 38 3 1) 118 0 0) 138 (pbn (μ 138) 657 (fun k => μ 120 k) 657)) 139 (pbn (μ 139) 8 (fun k => μ 123 k) 8)) 140 1 1) 1 15 j ∧ vw (m_set (m_upd (m_upd (m_set (m_set (icp μ 38 5) 38 3 1) 118 0 0) 138 (pbn (μ 138) 657 (fun k => μ 120 k) 657)) 139 (pbn (μ 139) 8 (fun k => μ 123 k) 8)) 140 1 1) 1 15 j ≤ 99) ∧ (0 ≤ vw (m_set (m_upd (m_upd (m_set (m_set (icp μ 38 5) 38 3 1) 118 0 0) 138 (pbn (μ 138) 657 (fun k => μ 120 k) 657)) 139 (pbn (μ 139) 8 (fun k => μ 123 k) 8)) 140 1 1) 1 16 j ∧ vw (m_set (m_upd (m_upd (m_set (m_set (icp μ 38 5) 38 3 1) 118 0 0) 138 (pbn (μ 138) 657 (fun k => μ 120 k) 657)) 139 (pbn (μ 139) 8 (fun k => μ 123 k) 8)) 140 1 1) 1 16 j ≤ 99) := fun j =>
      ⟨fl_b (g := μ 7) (f := μ 40) (n := 100) hL.1 (fun j => (hKk j).1) j, fl_b (g := μ 8) (f := μ 41) (n := 300) hL.2.1 (fun j => (hKk j).2.1) j, fl_b (g := μ 10) (f := μ 43) (n := 90) hL.2.2 (fun j => (hKk j).2.2.1) j, fl_b (g := μ 15) (f := μ 48) (n := 8) hS.2.2.2.2.2.2.1 (fun j => (hKk j).2.2.2.1) j, fl_b (g := μ 16) (f := μ 49) (n := 8) hS.2.2.2.2.2.2.2.1 (fun j => (hKk j).2.2.2.2) j⟩
    refine ⟨Or.inr rfl, rfl, fun _ => ⟨hI.img.copy (fun j hj => cpl_v hj) (fun j hj => fl_lt (g := μ 7) hj) (fun j hj => fl_lt (g := μ 8) hj) (fun j hj => fl_lt (g := μ 9) hj) (fun j hj => fl_lt (g := μ 10) hj) (fun j hj => fl_lt (g := μ 11) hj) rfl rfl rfl (fun j hj => fl_lt (g := μ 15) hj) (fun j hj => fl_lt (g := μ 16) hj) rfl (fun j hj => fl_lt (g := μ 18) hj) (fun j hj => fl_lt (g := μ 19) hj) (fun j hj => fl_lt (g := μ 20) hj) (fun j hj => ?_) (fun j hj => ?_) hb, hI.took⟩, hb⟩
    · show pbn (μ 138) 657 (fun k => μ 120 k) 657 (657 * 1 + j) = μ 120 j
      exact pbn_in (n := 657) hj
    · show pbn (μ 139) 8 (fun k => μ 123 k) 8 (8 * 1 + j) = μ 123 j
      exact pbn_in (n := 8) hj
  · have ek2 : k = 0 := by omega
    subst ek2
    have hv : ∀ a j, 6 ≤ a → a ≤ 20 → vw (m_set (m_upd (m_upd (m_set (m_set (icp μ 38 5) 38 3 1) 118 0 0) 138 (pbn (μ 138) 657 (fun k => μ 120 k) 657)) 139 (pbn (μ 139) 8 (fun k => μ 123 k) 8)) 140 1 1) 0 a j = vw μ 0 a j := fun a j h1 h2 => by
      unfold vw
      rw [if_pos ⟨h1, h2⟩, if_pos ⟨h1, h2⟩, ro _ (by omega) (by omega) (by omega) (by omega) (by omega)]
    have h6 : ∀ j, j < 657 → vw (m_set (m_upd (m_upd (m_set (m_set (icp μ 38 5) 38 3 1) 118 0 0) 138 (pbn (μ 138) 657 (fun k => μ 120 k) 657)) 139 (pbn (μ 139) 8 (fun k => μ 123 k) 8)) 140 1 1) 0 120 j = vw μ 0 120 j := fun j hj => by
      show pbn (μ 138) 657 (fun k => μ 120 k) 657 (657 * 0 + j) = μ 138 (657 * 0 + j)
      exact pbn_out (by omega)
    have h8 : ∀ j, j < 8 → vw (m_set (m_upd (m_upd (m_set (m_set (icp μ 38 5) 38 3 1) 118 0 0) 138 (pbn (μ 138) 657 (fun k => μ 120 k) 657)) 139 (pbn (μ 139) 8 (fun k => μ 123 k) 8)) 140 1 1) 0 123 j = vw μ 0 123 j := fun j hj => by
      show pbn (μ 139) 8 (fun k => μ 123 k) 8 (8 * 0 + j) = μ 139 (8 * 0 + j)
      exact pbn_out (by omega)
    obtain ⟨g1, g2, g3, g4⟩ := hK 0 (by decide)
    have hb : ∀ j, (0 ≤ vw (m_set (m_upd (m_upd (m_set (m_set (icp μ 38 5) 38 3 1) 118 0 0) 138 (pbn (μ 138) 657 (fun k => μ 120 k) 657)) 139 (pbn (μ 139) 8 (fun k => μ 123 k) 8)) 140 1 1) 0 7 j ∧ vw (m_set (m_upd (m_upd (m_set (m_set (icp μ 38 5) 38 3 1) 118 0 0) 138 (pbn (μ 138) 657 (fun k => μ 120 k) 657)) 139 (pbn (μ 139) 8 (fun k => μ 123 k) 8)) 140 1 1) 0 7 j ≤ 99) ∧ (-1 ≤ vw (m_set (m_upd (m_upd (m_set (m_set (icp μ 38 5) 38 3 1) 118 0 0) 138 (pbn (μ 138) 657 (fun k => μ 120 k) 657)) 139 (pbn (μ 139) 8 (fun k => μ 123 k) 8)) 140 1 1) 0 8 j ∧ vw (m_set (m_upd (m_upd (m_set (m_set (icp μ 38 5) 38 3 1) 118 0 0) 138 (pbn (μ 138) 657 (fun k => μ 120 k) 657)) 139 (pbn (μ 139) 8 (fun k => μ 123 k) 8)) 140 1 1) 0 8 j ≤ 99) ∧ (-1 ≤ vw (m_set (m_upd (m_upd (m_set (m_set (icp μ 38 5) 38 3 1) 118 0 0) 138 (pbn (μ 138) 657 (fun k => μ 120 k) 657)) 139 (pbn (μ 139) 8 (fun k => μ 123 k) 8)) 140 1 1) 0 10 j ∧ vw (m_set (m_upd (m_upd (m_set (m_set (icp μ 38 5) 38 3 1) 118 0 0) 138 (pbn (μ 138) 657 (fun k => μ 120 k) 657)) 139 (pbn (μ 139) 8 (fun k => μ 123 k) 8)) 140 1 1) 0 10 j ≤ 99) ∧ (0 ≤ vw (m_set (m_upd (m_upd (m_set (m_set (icp μ 38 5) 38 3 1) 118 0 0) 138 (pbn (μ 138) 657 (fun k => μ 120 k) 657)) 139 (pbn (μ 139) 8 (fun k => μ 123 k) 8)) 140 1 1) 0 15 j ∧ vw (m_set (m_upd (m_upd (m_set (m_set (icp μ 38 5) 38 3 1) 118 0 0) 138 (pbn (μ 138) 657 (fun k => μ 120 k) 657)) 139 (pbn (μ 139) 8 (fun k => μ 123 k) 8)) 140 1 1) 0 15 j ≤ 99) ∧ (0 ≤ vw (m_set (m_upd (m_upd (m_set (m_set (icp μ 38 5) 38 3 1) 118 0 0) 138 (pbn (μ 138) 657 (fun k => μ 120 k) 657)) 139 (pbn (μ 139) 8 (fun k => μ 123 k) 8)) 140 1 1) 0 16 j ∧ vw (m_set (m_upd (m_upd (m_set (m_set (icp μ 38 5) 38 3 1) 118 0 0) 138 (pbn (μ 138) 657 (fun k => μ 120 k) 657)) 139 (pbn (μ 139) 8 (fun k => μ 123 k) 8)) 140 1 1) 0 16 j ≤ 99) := fun j => by
      rw [hv 7 j (by omega) (by omega), hv 8 j (by omega) (by omega), hv 10 j (by omega) (by omega), hv 15 j (by omega) (by omega), hv 16 j (by omega) (by omega)]
      exact g4 j
    refine ⟨g1, g2, fun hu => ⟨(g3 hu).1.copy (fun j _ => hv 6 j (by omega) (by omega)) (fun j _ => hv 7 j (by omega) (by omega)) (fun j _ => hv 8 j (by omega) (by omega)) (fun j _ => hv 9 j (by omega) (by omega)) (fun j _ => hv 10 j (by omega) (by omega)) (fun j _ => hv 11 j (by omega) (by omega)) (hv 14 0 (by omega) (by omega)) (hv 14 3 (by omega) (by omega)) (hv 14 4 (by omega) (by omega)) (fun j _ => hv 15 j (by omega) (by omega)) (fun j _ => hv 16 j (by omega) (by omega)) (hv 17 0 (by omega) (by omega)) (fun j _ => hv 18 j (by omega) (by omega)) (fun j _ => hv 19 j (by omega) (by omega)) (fun j _ => hv 20 j (by omega) (by omega)) h6 h8 hb, ?_⟩, hb⟩
    rw [hv 14 4 (by omega) (by omega)]
    exact (g3 hu).2
set_option maxHeartbeats 4000000 in
theorem restore_inv_1 {μ : Nat → Nat → Int} (hI : Inv N μ) (hN : 0 ≤ N) (hu : μ 38 3 = 1) : Inv N (m_set (m_upd (m_upd (m_set (m_set (m_set (icp μ 5 38) 82 5 0) 82 6 0) 118 0 0) 120 (pbn (μ 120) 0 (fun k => μ 138 (657 + k)) 657)) 123 (pbn (μ 123) 0 (fun k => μ 139 (8 + k)) 8)) 118 34 0) := by
  have ro : ∀ b, (b ≤ 5 ∨ 20 < b) → ¬ b = 82 → ¬ b = 118 → ¬ b = 120 → ¬ b = 123 → (m_set (m_upd (m_upd (m_set (m_set (m_set (icp μ 5 38) 82 5 0) 82 6 0) 118 0 0) 120 (pbn (μ 120) 0 (fun k => μ 138 (657 + k)) 657)) 123 (pbn (μ 123) 0 (fun k => μ 139 (8 + k)) 8)) 118 34 0) b = μ b := fun b h1 h2 h3 h4 h5 => by
    rw [row_set h3, row_upd h5, row_upd h4, row_set h3, row_set h2, row_set h2, icp_o (by omega)]
  obtain ⟨g1, g2, g3, g4⟩ := hI.kept 1 (by decide)
  have hL := hI.land.bnds
  have hS := hI.scene
  have hb : ∀ j, (0 ≤ (m_set (m_upd (m_upd (m_set (m_set (m_set (icp μ 5 38) 82 5 0) 82 6 0) 118 0 0) 120 (pbn (μ 120) 0 (fun k => μ 138 (657 + k)) 657)) 123 (pbn (μ 123) 0 (fun k => μ 139 (8 + k)) 8)) 118 34 0) 7 j ∧ (m_set (m_upd (m_upd (m_set (m_set (m_set (icp μ 5 38) 82 5 0) 82 6 0) 118 0 0) 120 (pbn (μ 120) 0 (fun k => μ 138 (657 + k)) 657)) 123 (pbn (μ 123) 0 (fun k => μ 139 (8 + k)) 8)) 118 34 0) 7 j ≤ 99) ∧ (-1 ≤ (m_set (m_upd (m_upd (m_set (m_set (m_set (icp μ 5 38) 82 5 0) 82 6 0) 118 0 0) 120 (pbn (μ 120) 0 (fun k => μ 138 (657 + k)) 657)) 123 (pbn (μ 123) 0 (fun k => μ 139 (8 + k)) 8)) 118 34 0) 8 j ∧ (m_set (m_upd (m_upd (m_set (m_set (m_set (icp μ 5 38) 82 5 0) 82 6 0) 118 0 0) 120 (pbn (μ 120) 0 (fun k => μ 138 (657 + k)) 657)) 123 (pbn (μ 123) 0 (fun k => μ 139 (8 + k)) 8)) 118 34 0) 8 j ≤ 99) ∧ (-1 ≤ (m_set (m_upd (m_upd (m_set (m_set (m_set (icp μ 5 38) 82 5 0) 82 6 0) 118 0 0) 120 (pbn (μ 120) 0 (fun k => μ 138 (657 + k)) 657)) 123 (pbn (μ 123) 0 (fun k => μ 139 (8 + k)) 8)) 118 34 0) 10 j ∧ (m_set (m_upd (m_upd (m_set (m_set (m_set (icp μ 5 38) 82 5 0) 82 6 0) 118 0 0) 120 (pbn (μ 120) 0 (fun k => μ 138 (657 + k)) 657)) 123 (pbn (μ 123) 0 (fun k => μ 139 (8 + k)) 8)) 118 34 0) 10 j ≤ 99) ∧ (0 ≤ (m_set (m_upd (m_upd (m_set (m_set (m_set (icp μ 5 38) 82 5 0) 82 6 0) 118 0 0) 120 (pbn (μ 120) 0 (fun k => μ 138 (657 + k)) 657)) 123 (pbn (μ 123) 0 (fun k => μ 139 (8 + k)) 8)) 118 34 0) 15 j ∧ (m_set (m_upd (m_upd (m_set (m_set (m_set (icp μ 5 38) 82 5 0) 82 6 0) 118 0 0) 120 (pbn (μ 120) 0 (fun k => μ 138 (657 + k)) 657)) 123 (pbn (μ 123) 0 (fun k => μ 139 (8 + k)) 8)) 118 34 0) 15 j ≤ 99) ∧ (0 ≤ (m_set (m_upd (m_upd (m_set (m_set (m_set (icp μ 5 38) 82 5 0) 82 6 0) 118 0 0) 120 (pbn (μ 120) 0 (fun k => μ 138 (657 + k)) 657)) 123 (pbn (μ 123) 0 (fun k => μ 139 (8 + k)) 8)) 118 34 0) 16 j ∧ (m_set (m_upd (m_upd (m_set (m_set (m_set (icp μ 5 38) 82 5 0) 82 6 0) 118 0 0) 120 (pbn (μ 120) 0 (fun k => μ 138 (657 + k)) 657)) 123 (pbn (μ 123) 0 (fun k => μ 139 (8 + k)) 8)) 118 34 0) 16 j ≤ 99) := fun j =>
    ⟨fl_b (g := μ 40) (f := μ 7) (n := 100) (fun j => (g4 j).1) hL.1 j, fl_b (g := μ 41) (f := μ 8) (n := 300) (fun j => (g4 j).2.1) hL.2.1 j, fl_b (g := μ 43) (f := μ 10) (n := 90) (fun j => (g4 j).2.2.1) hL.2.2 j, fl_b (g := μ 48) (f := μ 15) (n := 8) (fun j => (g4 j).2.2.2.1) hS.2.2.2.2.2.2.1 j, fl_b (g := μ 49) (f := μ 16) (n := 8) (fun j => (g4 j).2.2.2.2) hS.2.2.2.2.2.2.2.1 j⟩
  have hi : I_img (m_set (m_upd (m_upd (m_set (m_set (m_set (icp μ 5 38) 82 5 0) 82 6 0) 118 0 0) 120 (pbn (μ 120) 0 (fun k => μ 138 (657 + k)) 657)) 123 (pbn (μ 123) 0 (fun k => μ 139 (8 + k)) 8)) 118 34 0) := by
    refine (g3 hu).1.copy (fun j hj => cpl_v hj) (fun j hj => fl_lt (g := μ 40) hj) (fun j hj => fl_lt (g := μ 41) hj) (fun j hj => fl_lt (g := μ 42) hj) (fun j hj => fl_lt (g := μ 43) hj) (fun j hj => fl_lt (g := μ 44) hj) rfl rfl rfl (fun j hj => fl_lt (g := μ 48) hj) (fun j hj => fl_lt (g := μ 49) hj) rfl (fun j hj => fl_lt (g := μ 51) hj) (fun j hj => fl_lt (g := μ 52) hj) (fun j hj => fl_lt (g := μ 53) hj) (fun j hj => ?_) (fun j hj => ?_) hb
    · show pbn (μ 120) 0 (fun k => μ 138 (657 + k)) 657 j = μ 138 (657 * 1 + j)
      rw [show j = 0 + j by omega, pbn_in hj, Nat.zero_add]
      try rw [show 657 * 0 + j = j by omega]
    · show pbn (μ 123) 0 (fun k => μ 139 (8 + k)) 8 j = μ 139 (8 * 1 + j)
      rw [show j = 0 + j by omega, pbn_in hj, Nat.zero_add]
      try rw [show 8 * 0 + j = j by omega]
  refine Inv.mk (hI.tape.congr rfl rfl rfl rfl) (hI.fault.congr rfl rfl) hi.1 hi.2.1 (hI.last.congr rfl rfl rfl rfl rfl rfl rfl rfl rfl rfl rfl rfl rfl rfl rfl rfl) hi.2.2.1 hi.2.2.2.1 (g3 hu).2 ⟨⟨⟨by show (0 : Int) ≤ 0; decide, by show (0 : Int) ≤ 8; decide⟩, by show (0 : Int) ≤ 0; decide, by show (0 : Int) ≤ N; exact hN⟩, rfl, fun i p hi _ => ?_⟩ (hI.kept.congr (fun b h1 h2 => ro b (by omega) (by omega) (by omega) (by omega) (by omega)) rfl rfl rfl) (hI.words.congr rfl rfl) (hI.fresh.congr rfl rfl rfl) hi.2.2.2.2
  have : (i : Int) < 0 := hi
  omega
theorem pair_46 : ∀ (a0 : Int), i32 a0 → PairI (Inv N) 148 270 [mI a0] := by
  intro a0 h0 μ c s hI
  by_cases hv : 0 ≤ a0 ∧ a0 ≤ 1
  · rcases (show a0 = 0 ∨ a0 = 1 by omega) with rfl | rfl
    · exact ⟨1, _, _, x_X11_image_0 hI.flag.1 hI.flag.2, x_X12_image (by decide), image_inv_0 hI⟩
    · exact ⟨1, _, _, x_X11_image_1 hI.flag.1 hI.flag.2, x_X12_image (by decide), image_inv_1 hI⟩
  · exact ⟨0, μ, _, i_X11_image hv, i_X12_image hv, hI.set rfl⟩
theorem pair_47 : ∀ (a0 : Int), i32 a0 → (0 ≤ N ∧ N ≤ 511) → PairJ (Inv N) (Inv (N + 1)) 149 271 [mI a0] := by
  intro a0 h0 hN μ c s hI
  by_cases hv : 0 ≤ a0 ∧ a0 ≤ 1
  · rcases (show a0 = 0 ∨ a0 = 1 by omega) with rfl | rfl
    · obtain ⟨g1, g2, g3, g4⟩ := hI.kept 0 (by decide)
      rcases g1 with hu | hu
      · exact ⟨0, μ, _, n_X11_restore_0 hu, n_X12_restore (by decide) (g2.trans hu), (hI.set rfl).le (by omega)⟩
      · exact ⟨1, _, _, x_X11_restore_0 (g3 hu).1.2.2.2.2.1 (g3 hu).1.2.2.2.2.2 hu, x_X12_restore (by decide) (g2.trans hu), (restore_inv_0 hI hN.1 hu).le (by omega)⟩
    · obtain ⟨g1, g2, g3, g4⟩ := hI.kept 1 (by decide)
      rcases g1 with hu | hu
      · exact ⟨0, μ, _, n_X11_restore_1 hu, n_X12_restore (by decide) (g2.trans hu), (hI.set rfl).le (by omega)⟩
      · exact ⟨1, _, _, x_X11_restore_1 (g3 hu).1.2.2.2.2.1 (g3 hu).1.2.2.2.2.2 hu, x_X12_restore (by decide) (g2.trans hu), (restore_inv_1 hI hN.1 hu).le (by omega)⟩
  · exact ⟨0, μ, _, i_X11_restore hv, i_X12_restore hv, (hI.set rfl).le (by omega)⟩
