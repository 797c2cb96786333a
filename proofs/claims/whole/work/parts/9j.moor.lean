variable {N : Int}
/-! ===== printed by wip/whole/gen9j.py: a moor read ===== -/
/-- a text at fault: all stays but the tape, the fault and the fresh moor -/
def FrmM (x ν : Nat → Nat → Int) : Prop := (∀ r, ¬ r = 118 → ¬ r = 121 → ¬ r = 122 → ¬ r = 123 → ν r = x r) ∧ (∀ j, 22 ≤ j → ¬ j = 41 → ν 118 j = x 118 j) ∧ ν 118 2 = 0 ∧ (∀ j, j < 8 → ν 123 j = x 123 j)
def FrmC (μ σ : Nat → Nat → Int) : Prop := (∀ r, ¬ r = 1 → ¬ r = 3 → (r < 54 ∨ 65 < r) → σ r = μ r) ∧ I_fresh σ
theorem bad_inv {μ σ ν : Nat → Nat → Int} (hI : Inv N μ) (hs : FrmC μ σ) (G : FrmM (m_set σ 1 1 0) ν) (hf : σ 3 2 = ν 118 15) : Inv N ν := by
  obtain ⟨g1, g2, g3, g4⟩ := G
  have R : ∀ r, ¬ r = 1 → ¬ r = 3 → (r < 54 ∨ 65 < r) → ¬ r = 118 → ¬ r = 121 → ¬ r = 122 → ¬ r = 123 → ν r = μ r := fun r a1 a2 a3 a4 a5 a7 a6 => (g1 r a4 a5 a7 a6).trans ((row_set a1).trans (hs.1 r a1 a2 a3))
  have F : ∀ j, 22 ≤ j → ¬ j = 41 → ν 118 j = μ 118 j := fun j hj h41 => (g2 j hj h41).trans (by rw [row_set (by decide), hs.1 118 (by decide) (by decide) (by decide)])
  have V : ∀ r, 54 ≤ r → r ≤ 65 → ν r = σ r := fun r a1 a2 => (g1 r (by omega) (by omega) (by omega) (by omega)).trans (row_set (by omega))
  obtain ⟨t1, t2, t3⟩ := hI.tape
  refine Inv.mk ⟨?_, ?_, fun j => ?_⟩ ?_ (hI.land.congr (R 6 (by decide) (by decide) (by decide) (by decide) (by decide) (by decide) (by decide)) (R 7 (by decide) (by decide) (by decide) (by decide) (by decide) (by decide) (by decide)) (R 8 (by decide) (by decide) (by decide) (by decide) (by decide) (by decide) (by decide)) (R 9 (by decide) (by decide) (by decide) (by decide) (by decide) (by decide) (by decide)) (R 10 (by decide) (by decide) (by decide) (by decide) (by decide) (by decide) (by decide)) (fun j _ => by rw [(R 120 (by decide) (by decide) (by decide) (by decide) (by decide) (by decide) (by decide))])) (hI.scene.congr (R 6 (by decide) (by decide) (by decide) (by decide) (by decide) (by decide) (by decide)) (R 14 (by decide) (by decide) (by decide) (by decide) (by decide) (by decide) (by decide)) (R 15 (by decide) (by decide) (by decide) (by decide) (by decide) (by decide) (by decide)) (R 16 (by decide) (by decide) (by decide) (by decide) (by decide) (by decide) (by decide)) (R 120 (by decide) (by decide) (by decide) (by decide) (by decide) (by decide) (by decide))) (hI.last.congr (by rw [(R 0 (by decide) (by decide) (by decide) (by decide) (by decide) (by decide) (by decide))]) (F 31 (by decide) (by decide)) (R 130 (by decide) (by decide) (by decide) (by decide) (by decide) (by decide) (by decide)) (R 116 (by decide) (by decide) (by decide) (by decide) (by decide) (by decide) (by decide)) (by rw [(R 0 (by decide) (by decide) (by decide) (by decide) (by decide) (by decide) (by decide))]) (F 39 (by decide) (by decide)) (R 135 (by decide) (by decide) (by decide) (by decide) (by decide) (by decide) (by decide)) (R 117 (by decide) (by decide) (by decide) (by decide) (by decide) (by decide) (by decide)) (by rw [(R 112 (by decide) (by decide) (by decide) (by decide) (by decide) (by decide) (by decide))]) (F 37 (by decide) (by decide)) (R 134 (by decide) (by decide) (by decide) (by decide) (by decide) (by decide) (by decide)) (R 115 (by decide) (by decide) (by decide) (by decide) (by decide) (by decide) (by decide)) (by rw [(R 82 (by decide) (by decide) (by decide) (by decide) (by decide) (by decide) (by decide))]) (F 44 (by decide) (by decide)) (R 136 (by decide) (by decide) (by decide) (by decide) (by decide) (by decide) (by decide)) (R 87 (by decide) (by decide) (by decide) (by decide) (by decide) (by decide) (by decide))) (hI.plan.congr (R 6 (by decide) (by decide) (by decide) (by decide) (by decide) (by decide) (by decide)) (R 17 (by decide) (by decide) (by decide) (by decide) (by decide) (by decide) (by decide)) (R 18 (by decide) (by decide) (by decide) (by decide) (by decide) (by decide) (by decide)) (R 19 (by decide) (by decide) (by decide) (by decide) (by decide) (by decide) (by decide)) (R 20 (by decide) (by decide) (by decide) (by decide) (by decide) (by decide) (by decide)) (fun j _ _ => by rw [(R 120 (by decide) (by decide) (by decide) (by decide) (by decide) (by decide) (by decide))])) (hI.names.congr hI.land.2.2.2.2.2.1.2 (R 6 (by decide) (by decide) (by decide) (by decide) (by decide) (by decide) (by decide)) (R 11 (by decide) (by decide) (by decide) (by decide) (by decide) (by decide) (by decide)) (fun j hj => (g4 j hj).trans (by rw [row_set (by decide), hs.1 123 (by decide) (by decide) (by decide)]))) (by rw [(R 14 (by decide) (by decide) (by decide) (by decide) (by decide) (by decide) (by decide))]; exact hI.took) (hI.undo.congr (R 6 (by decide) (by decide) (by decide) (by decide) (by decide) (by decide) (by decide)) (by rw [(R 82 (by decide) (by decide) (by decide) (by decide) (by decide) (by decide) (by decide))]) (by rw [(R 82 (by decide) (by decide) (by decide) (by decide) (by decide) (by decide) (by decide))]) (F 34 (by decide) (by decide)) (fun a h1 h2 => R a (by omega) (by omega) (by omega) (by omega) (by omega) (by omega) (by omega)) (R 131 (by decide) (by decide) (by decide) (by decide) (by decide) (by decide) (by decide))) (hI.kept.congr (fun a h1 h2 => R a (by omega) (by omega) (by omega) (by omega) (by omega) (by omega) (by omega)) (R 138 (by decide) (by decide) (by decide) (by decide) (by decide) (by decide) (by decide)) (R 139 (by decide) (by decide) (by decide) (by decide) (by decide) (by decide) (by decide)) (R 140 (by decide) (by decide) (by decide) (by decide) (by decide) (by decide) (by decide))) (hI.words.congr (R 4 (by decide) (by decide) (by decide) (by decide) (by decide) (by decide) (by decide)) (R 124 (by decide) (by decide) (by decide) (by decide) (by decide) (by decide) (by decide))) (hs.2.congr (V 55 (by decide) (by decide)) (V 60 (by decide) (by decide)) (V 61 (by decide) (by decide))) ?_
  · rw [g1 1 (by decide) (by decide) (by decide) (by decide)]
    exact ⟨Int.le_refl 0, (by decide : (0 : Int) ≤ 940)⟩
  · rw [g1 1 (by decide) (by decide) (by decide) (by decide)]
    exact g3
  · rw [(R 119 (by decide) (by decide) (by decide) (by decide) (by decide) (by decide) (by decide)), (R 2 (by decide) (by decide) (by decide) (by decide) (by decide) (by decide) (by decide))]
    exact t3 j
  · show ν 3 2 = ν 118 15
    rw [g1 3 (by decide) (by decide) (by decide) (by decide)]
    exact hf
  · unfold I_flag
    rw [(R 6 (by decide) (by decide) (by decide) (by decide) (by decide) (by decide) (by decide))]
    exact hI.flag
theorem tmm10 {a : Int} (h : 0 ≤ a) : a.tmod 10 = a % 10 := Int.tmod_eq_emod_of_nonneg h
theorem tdd10 {a : Int} (h : 0 ≤ a) : a.tdiv 10 = a / 10 := Int.tdiv_eq_ediv_of_nonneg h
set_option maxHeartbeats 4000000 in
theorem ok_inv {μ σ ν μ2 : Nat → Nat → Int} (hN : 0 ≤ N) (hI : Inv N μ) (hs : FrmC μ σ) (G : FrmM (mfin σ) ν) (h3 : σ 3 2 = 0) (h15 : ν 118 15 = 0) (hR : RelL σ ν 0)
    (q34 : μ2 118 34 = 0) (q118 : ∀ j, ¬ j = 34 → μ2 118 j = ν 118 j) (qr : ∀ r, ¬ r = 118 → ¬ r = 120 → ¬ r = 123 → μ2 r = ν r) (q1 : ∀ j, j < 517 → μ2 120 j = ν 121 j) (q2 : μ2 120 517 = 0) (q3 : ∀ j, j < 8 → μ2 120 (518 + j) = ν 121 (501 + j)) (q4 : ∀ j, j < 8 → μ2 120 (526 + j) = ν 121 (509 + j)) (q5 : μ2 120 534 = ν 121 499 - 1) (q6 : ∀ j, 535 ≤ j → j < 657 → μ2 120 j = 0) (q7 : ∀ j, j < 8 → μ2 123 j = ν 123 (8 + j)) : Inv N μ2 := by
  obtain ⟨g1, g2, g3, g4⟩ := G
  obtain ⟨⟨n1, n2, n3, n4, n5, n6, n7, n8, n9, n10, n11, n12, n13, n14, n15, n16, n17, n18, n19, n20, n21, n22, n23, n24, n25⟩, h57, h56, h58, h55, hH⟩ := hR
  have R : ∀ r, ¬ r = 118 → ¬ r = 120 → ¬ r = 121 → ¬ r = 122 → ¬ r = 123 → μ2 r = mfin σ r := fun r a1 a2 a3 a5 a4 => (qr r a1 a2 a4).trans (g1 r a1 a3 a5 a4)
  have O : ∀ r, (r < 6 ∨ 17 < r) → ¬ r = 82 → ¬ r = 1 → mfin σ r = σ r := fun r a1 a2 a3 => by
    show m_set (m_set (m_set (bgn (lcp (m_set σ 1 1 0) 6 54)) 17 0 0) 82 5 0) 82 6 0 r = σ r
    rw [row_set a2, row_set a2, row_set (by omega)]
    unfold bgn
    rw [row_set (by omega), row_set (by omega), row_upd (by omega), row_upd (by omega), row_set (by omega), lcp_o (by omega), row_set a3]
  have RO : ∀ r, (r < 6 ∨ (17 < r ∧ r < 54) ∨ 65 < r) → ¬ r = 82 → ¬ r = 1 → ¬ r = 3 → ¬ r = 118 → ¬ r = 120 → ¬ r = 121 → ¬ r = 122 → ¬ r = 123 → μ2 r = μ r := fun r a1 a2 a3 a4 a5 a6 a7 a9 a8 => (R r a5 a6 a7 a9 a8).trans ((O r (by omega) a2 a3).trans (hs.1 r a3 a4 (by omega)))
  have F : ∀ j, 22 ≤ j → ¬ j = 34 → ¬ j = 41 → μ2 118 j = μ 118 j := fun j hj h34 h41 => (q118 j h34).trans ((g2 j hj h41).trans (by rw [O 118 (by decide) (by decide) (by decide), hs.1 118 (by decide) (by decide) (by decide)]))
  have s8 : μ2 6 8 = σ 54 8 := by rw [(R 6 (by decide) (by decide) (by decide) (by decide) (by decide))]; rfl
  have s9 : μ2 6 9 = σ 54 9 := by rw [(R 6 (by decide) (by decide) (by decide) (by decide) (by decide))]; rfl
  have s10 : μ2 6 10 = σ 54 10 := by rw [(R 6 (by decide) (by decide) (by decide) (by decide) (by decide))]; rfl
  have s11 : μ2 6 11 = σ 54 11 := by rw [(R 6 (by decide) (by decide) (by decide) (by decide) (by decide))]; rfl
  have s12 : μ2 6 12 = σ 54 12 := by rw [(R 6 (by decide) (by decide) (by decide) (by decide) (by decide))]; rfl
  have s13 : μ2 6 13 = σ 54 13 := by rw [(R 6 (by decide) (by decide) (by decide) (by decide) (by decide))]; rfl
  have s14 : μ2 6 14 = σ 54 14 := by rw [(R 6 (by decide) (by decide) (by decide) (by decide) (by decide))]; rfl
  have s15 : μ2 6 15 = σ 54 15 := by rw [(R 6 (by decide) (by decide) (by decide) (by decide) (by decide))]; rfl
  have s16 : μ2 6 16 = σ 54 16 := by rw [(R 6 (by decide) (by decide) (by decide) (by decide) (by decide))]; rfl
  have s17 : μ2 6 17 = σ 54 17 := by rw [(R 6 (by decide) (by decide) (by decide) (by decide) (by decide))]; rfl
  have u0 : μ2 120 0 = ν 121 0 := q1 0 (by decide)
  have u1 : μ2 120 1 = ν 121 1 := q1 1 (by decide)
  have u2 : μ2 120 2 = ν 121 2 := q1 2 (by decide)
  have u3 : μ2 120 3 = ν 121 3 := q1 3 (by decide)
  have u4 : μ2 120 4 = ν 121 4 := q1 4 (by decide)
  have u8 : μ2 120 8 = ν 121 8 := q1 8 (by decide)
  have u499 : μ2 120 499 = ν 121 499 := q1 499 (by decide)
  have u500 : μ2 120 500 = ν 121 500 := q1 500 (by decide)
  have r7 : ∀ j, μ2 7 j = fl (σ 55) (σ 7) 100 j := fun j => by rw [(R 7 (by decide) (by decide) (by decide) (by decide) (by decide))]; rfl
  have r8 : ∀ j, μ2 8 j = fl (σ 56) (σ 8) 300 j := fun j => by rw [(R 8 (by decide) (by decide) (by decide) (by decide) (by decide))]; rfl
  have r9 : ∀ j, μ2 9 j = fl (σ 57) (σ 9) 3 j := fun j => by rw [(R 9 (by decide) (by decide) (by decide) (by decide) (by decide))]; rfl
  have r10 : ∀ j, μ2 10 j = fl (σ 58) (σ 10) 90 j := fun j => by rw [(R 10 (by decide) (by decide) (by decide) (by decide) (by decide))]; rfl
  have r11 : ∀ j, μ2 11 j = fl (σ 59) (σ 11) 8 j := fun j => by rw [(R 11 (by decide) (by decide) (by decide) (by decide) (by decide))]; rfl
  have r15 : ∀ j, μ2 15 j = fl (fl (σ 60) (σ 12) 8) (σ 15) 8 j := fun j => by rw [(R 15 (by decide) (by decide) (by decide) (by decide) (by decide))]; rfl
  have r16 : ∀ j, μ2 16 j = fl (fl (σ 61) (σ 13) 8) (σ 16) 8 j := fun j => by rw [(R 16 (by decide) (by decide) (by decide) (by decide) (by decide))]; rfl
  have a0 : μ2 14 0 = 0 := by rw [(R 14 (by decide) (by decide) (by decide) (by decide) (by decide))]; rfl
  have a3 : μ2 14 3 = σ 54 14 := by rw [(R 14 (by decide) (by decide) (by decide) (by decide) (by decide))]; rfl
  have a4 : μ2 14 4 = 0 := by rw [(R 14 (by decide) (by decide) (by decide) (by decide) (by decide))]; rfl
  have a17 : μ2 17 0 = 0 := by rw [(R 17 (by decide) (by decide) (by decide) (by decide) (by decide))]; rfl
  have b5 : μ2 82 5 = 0 := by rw [(R 82 (by decide) (by decide) (by decide) (by decide) (by decide))]; rfl
  have b6 : μ2 82 6 = 0 := by rw [(R 82 (by decide) (by decide) (by decide) (by decide) (by decide))]; rfl
  have b9 : μ2 82 9 = μ 82 9 := by rw [(R 82 (by decide) (by decide) (by decide) (by decide) (by decide))]; exact congrFun (hs.1 82 (by decide) (by decide) (by decide)) 9
  have fx : ∀ {g f : Nat → Int} {k j : Nat}, ¬ j < k → fl g f k j = f j := fun h => if_neg h
  have i1 := hI.land
  have l7 : ∀ j, 0 ≤ σ 7 j ∧ σ 7 j ≤ 99 := fun j => by rw [hs.1 7 (by decide) (by decide) (by decide)]; exact i1.2.2.2.2.2.2.2.2.2.2.2.2.2.2.2.2.2.1 j
  have l8 : ∀ j, -1 ≤ σ 8 j ∧ σ 8 j ≤ 99 := fun j => by rw [hs.1 8 (by decide) (by decide) (by decide)]; exact i1.2.2.2.2.2.2.2.2.2.2.2.2.2.2.2.2.2.2.1 j
  have l10 : ∀ j, -1 ≤ σ 10 j ∧ σ 10 j ≤ 99 := fun j => by rw [hs.1 10 (by decide) (by decide) (by decide)]; exact i1.2.2.2.2.2.2.2.2.2.2.2.2.2.2.2.2.2.2.2.1 j
  have i2 := hI.scene
  have l15 : ∀ j, 0 ≤ σ 15 j ∧ σ 15 j ≤ 99 := fun j => by rw [hs.1 15 (by decide) (by decide) (by decide)]; exact i2.2.2.2.2.2.2.1 j
  have l16 : ∀ j, 0 ≤ σ 16 j ∧ σ 16 j ≤ 99 := fun j => by rw [hs.1 16 (by decide) (by decide) (by decide)]; exact i2.2.2.2.2.2.2.2.1 j
  obtain ⟨t1, t2, t3⟩ := hI.tape
  refine Inv.mk ⟨?_, ?_, fun j => ?_⟩ ?_ ?_ ?_ ?_ ?_ ?_ (by omega) ?_ ?_ ?_ ?_ ?_
  · rw [(R 1 (by decide) (by decide) (by decide) (by decide) (by decide))]
    exact ⟨Int.le_refl 0, (by decide : (0 : Int) ≤ 940)⟩
  · rw [q118 2 (by decide), (R 1 (by decide) (by decide) (by decide) (by decide) (by decide))]
    exact g3
  · rw [RO 119  (by decide) (by decide) (by decide) (by decide) (by decide) (by decide) (by decide) (by decide) (by decide), RO 2  (by decide) (by decide) (by decide) (by decide) (by decide) (by decide) (by decide) (by decide) (by decide)]
    exact t3 j
  · show μ2 3 2 = μ2 118 15
    rw [q118 15 (by decide), h15, (R 3 (by decide) (by decide) (by decide) (by decide) (by decide)), O 3 (by decide) (by decide) (by decide)]
    exact h3
  · refine ⟨by omega, by omega, by omega, by omega, by omega, by omega, by omega, by omega, by omega, by omega, by omega, by omega, by omega, by omega, by omega, by omega, fun j hj => ?_, fun j => ?_, fun j => ?_, fun j => ?_, fun j hj hj2 => ?_, fun j hj => ?_, fun j hj => ?_⟩
    · rw [r9, fl_lt hj, q1 _ (by omega)]; exact h57 j hj
    · rw [r7]; exact fl_b (fun j => (hs.2 j).1) l7 j
    · rw [r8]
      by_cases q : j < 300
      · rw [fl_lt q]; exact (h56 j q).1
      · rw [fx q]; exact l8 j
    · rw [r10]
      by_cases q : j < 90
      · rw [fl_lt q]; exact (h58 j q).1
      · rw [fx q]; exact l10 j
    · have e1 : (j : Int).tmod 10 = ((j % 10 : Nat) : Int) := rfl
      have e2 : (j : Int).tdiv 10 = ((j / 10 : Nat) : Int) := rfl
      rw [e1, s8] at hj
      rw [e2, s9] at hj2
      rw [r7, fl_lt (show j < 100 by omega), q1 _ (by omega)]
      exact h55 j hj hj2
    · rw [r8, fl_lt hj, q1 _ (by omega)]; exact (h56 j hj).2
    · rw [r10, fl_lt hj, q1 _ (by omega)]; exact (h58 j hj).2
  · refine ⟨by omega, by omega, by omega, by omega, fun z => by omega, by rw [q6 535 (by decide) (by decide), a4], fun j => ?_, fun j => ?_, fun j hj => ?_, by omega, fun j hj => ?_, ?_, by omega⟩
    · rw [r15]
      by_cases q : j < 8
      · rw [fl_lt q, fl_lt q]; exact (hs.2 j).2.1
      · rw [fx q]; exact l15 j
    · rw [r16]
      by_cases q : j < 8
      · rw [fl_lt q, fl_lt q]; exact (hs.2 j).2.2
      · rw [fx q]; exact l16 j
    · rw [s13] at hj
      have q : j < 8 := by omega
      have z := (hH j hj).1
      rw [r15, r16, fl_lt q, fl_lt q, fl_lt q, fl_lt q, q3 j q, q4 j q]
      exact ⟨z.1, z.2.1⟩
    · rw [s13] at hj
      have q : j < 8 := by omega
      have z := (hH j hj).1
      rw [r15, fl_lt q, fl_lt q, tmm10 z.2.2.1, tdd10 z.2.2.1, s8, s9]
      exact z.2.2.2
    · by_cases w : σ 54 14 = -1
      · exact .inl (a3.trans w)
      · right
        rw [a3, tmm10 (by omega), tdd10 (by omega)]
        omega
  · refine hI.last.congr (by rw [RO 0  (by decide) (by decide) (by decide) (by decide) (by decide) (by decide) (by decide) (by decide) (by decide)]) (F 31 (by decide) (by decide) (by decide)) (RO 130  (by decide) (by decide) (by decide) (by decide) (by decide) (by decide) (by decide) (by decide) (by decide)) (RO 116  (by decide) (by decide) (by decide) (by decide) (by decide) (by decide) (by decide) (by decide) (by decide)) (by rw [RO 0  (by decide) (by decide) (by decide) (by decide) (by decide) (by decide) (by decide) (by decide) (by decide)]) (F 39 (by decide) (by decide) (by decide)) (RO 135  (by decide) (by decide) (by decide) (by decide) (by decide) (by decide) (by decide) (by decide) (by decide)) (RO 117  (by decide) (by decide) (by decide) (by decide) (by decide) (by decide) (by decide) (by decide) (by decide)) (by rw [RO 112  (by decide) (by decide) (by decide) (by decide) (by decide) (by decide) (by decide) (by decide) (by decide)]) (F 37 (by decide) (by decide) (by decide)) (RO 134  (by decide) (by decide) (by decide) (by decide) (by decide) (by decide) (by decide) (by decide) (by decide)) (RO 115  (by decide) (by decide) (by decide) (by decide) (by decide) (by decide) (by decide) (by decide) (by decide)) b9 (F 44 (by decide) (by decide) (by decide)) (RO 136  (by decide) (by decide) (by decide) (by decide) (by decide) (by decide) (by decide) (by decide) (by decide)) (RO 87  (by decide) (by decide) (by decide) (by decide) (by decide) (by decide) (by decide) (by decide) (by decide))
  · refine ⟨by omega, (q6 536 (by decide) (by decide)).trans a17.symm, fun i hi => ?_⟩
    rw [a17] at hi
    omega
  · intro j hj
    rw [s13] at hj
    have q : j < 8 := by omega
    rw [r11, fl_lt q, q7 j q]
    exact (hH j hj).2
  · refine ⟨by omega, by omega, fun i p hi => ?_⟩
    rw [b6] at hi
    omega
  · exact hI.kept.congr (fun a h1 h2 => RO a (by omega) (by omega) (by omega) (by omega) (by omega) (by omega) (by omega) (by omega) (by omega)) (RO 138  (by decide) (by decide) (by decide) (by decide) (by decide) (by decide) (by decide) (by decide) (by decide)) (RO 139  (by decide) (by decide) (by decide) (by decide) (by decide) (by decide) (by decide) (by decide) (by decide)) (RO 140  (by decide) (by decide) (by decide) (by decide) (by decide) (by decide) (by decide) (by decide) (by decide))
  · exact hI.words.congr (RO 4  (by decide) (by decide) (by decide) (by decide) (by decide) (by decide) (by decide) (by decide) (by decide)) (RO 124  (by decide) (by decide) (by decide) (by decide) (by decide) (by decide) (by decide) (by decide) (by decide))
  · exact hs.2.congr ((R 55 (by decide) (by decide) (by decide) (by decide) (by decide)).trans (O 55 (by decide) (by decide) (by decide))) ((R 60 (by decide) (by decide) (by decide) (by decide) (by decide)).trans (O 60 (by decide) (by decide) (by decide))) ((R 61 (by decide) (by decide) (by decide) (by decide) (by decide)).trans (O 61 (by decide) (by decide) (by decide)))
  · unfold I_flag
    rw [s16, s17]
    exact ⟨n17, n18⟩
theorem mo_pre {x : Nat → Nat → Int} {c s : Nat} {b : Nat → Int} {n : Nat} (hb : x 2 = b) (ht : ∀ j, b j = x 119 j % 256) (hn : n ≤ 940) (h2 : x 118 2 = (n : Int)) : ∃ ν, (MSt ν b n 900 0 ∧ (∀ j, j < 517 → ¬ j = 2 → ¬ j = 3 → ν 121 j = 0) ∧ ν 121 2 = 1 ∧ ν 121 3 = 99 ∧ ν 118 15 = 0 ∧ ν 118 19 = 0 ∧ ν 118 20 = 0 ∧ ν 118 21 = 0 ∧ ν 118 2 = 0 ∧ (∀ j, 22 ≤ j → ν 118 j = x 118 j) ∧ (∀ r, ¬ r = 118 → ¬ r = 121 → ν r = x r)) ∧ ∀ Q : MR → Prop, Rn PT none kX12_moor 42 [some (mR 118), some (mI 517)] [] (mkh ν c s) Q → Cl PT 190 [mR 118] (mkh x c s) Q := by
  obtain ⟨H, ⟨hm, hf⟩, hc⟩ := g_next (μ := m_set (m_set (m_upd (mst0 x) 121 (fl (fun _ => 0) (mst0 x 121) 517)) 121 2 1) 121 3 99) (c := c) (s := s) (b := b) (n := n) (m := 900) (p := 0) hb ht hn (Nat.zero_le _) h2 rfl rfl
  have g : ∀ j, ¬ j = 4 → ¬ j = 11 → ¬ j = 12 → ¬ j = 13 → ¬ j = 14 → ¬ j = 17 → H j = mst0 x 118 j := hf
  refine ⟨m_upd (m_set (m_set (m_upd (mst0 x) 121 (fl (fun _ => 0) (mst0 x 121) 517)) 121 2 1) 121 3 99) 118 H, ⟨⟨hb, ht, hn, Nat.zero_le _, hm⟩, ?_, rfl, rfl, ?_, ?_, ?_, ?_, ?_, ?_, ?_⟩, fun Q K => mr_go (mr_30 hc K)⟩
  · intro j hj z2 z3
    show m_set (m_set (m_upd (mst0 x) 121 (fl (fun _ => 0) (mst0 x 121) 517)) 121 2 1) 121 3 99 121 j = 0
    exact (set_mis z3).trans ((set_mis z2).trans (show fl (fun _ => 0) (mst0 x 121) 517 j = 0 from fl_lt hj))
  · exact (g 15 (by decide) (by decide) (by decide) (by decide) (by decide) (by decide)).trans rfl
  · exact (g 19 (by decide) (by decide) (by decide) (by decide) (by decide) (by decide)).trans rfl
  · exact (g 20 (by decide) (by decide) (by decide) (by decide) (by decide) (by decide)).trans rfl
  · exact (g 21 (by decide) (by decide) (by decide) (by decide) (by decide) (by decide)).trans rfl
  · exact (g 2 (by decide) (by decide) (by decide) (by decide) (by decide) (by decide)).trans rfl
  · intro j hj
    refine (g j (by omega) (by omega) (by omega) (by omega) (by omega) (by omega)).trans ?_
    exact (set_mis (by omega)).trans ((set_mis (by omega)).trans ((set_mis (by omega)).trans ((set_mis (by omega)).trans ((set_mis (by omega)).trans ((set_mis (by omega)).trans ((set_mis (by omega)).trans ((set_mis (by omega)).trans (set_mis (by omega)))))))))
  · intro r h1 h2
    rw [row_upd h1, row_set h2, row_set h2, row_upd h2]
    show mst0 x r = x r
    unfold mst0
    rw [row_set h1, row_set h1, row_set h1, row_set h1, row_set h1, row_set h1, row_set h1, row_set h1, row_set h1]
theorem RL0 {μ ν : Nat → Nat → Int} (e56 : ∀ j, j < 300 → μ 56 j = -1) (e57 : ∀ j, j < 3 → μ 57 j = 0) (e58 : ∀ j, j < 90 → μ 58 j = -1) (v7 : μ 54 7 = 0) (v8 : μ 54 8 = 0) (v9 : μ 54 9 = 0) (v10 : μ 54 10 = 1) (v11 : μ 54 11 = 99) (v12 : μ 54 12 = 0) (v13 : μ 54 13 = 0) (v14 : μ 54 14 = -1) (v15 : μ 54 15 = 0) (v16 : μ 54 16 = 0) (v17 : μ 54 17 = 0)
    (z : ∀ j, j < 517 → ¬ j = 2 → ¬ j = 3 → ν 121 j = 0) (z2 : ν 121 2 = 1) (z3 : ν 121 3 = 99) (y19 : ν 118 19 = 0) (y20 : ν 118 20 = 0) (y21 : ν 118 21 = 0) : RelL μ ν 0 := by
  have z0 := z 0 (by decide) (by decide) (by decide)
  have z1 := z 1 (by decide) (by decide) (by decide)
  have z4 := z 4 (by decide) (by decide) (by decide)
  have z8 := z 8 (by decide) (by decide) (by decide)
  have z499 := z 499 (by decide) (by decide) (by decide)
  have z500 := z 500 (by decide) (by decide) (by decide)
  refine ⟨⟨by omega, by omega, by omega, by omega, by omega, by omega, by omega, by omega, by omega, by omega, by omega, by omega, by omega, by omega, by omega, by omega, by omega, by omega, by omega, by omega, by omega, by omega, by omega, by omega, by omega⟩, fun k hk => ?_, fun j hj => ?_, fun j hj => ?_, fun j g1 g2 => ?_, fun j g1 => ?_⟩
  · have a := e57 k hk
    have b := z (5 + k) (by omega) (by omega) (by omega)
    omega
  · have a := e56 j hj
    have b := z (109 + j) (by omega) (by omega) (by omega)
    omega
  · have a := e58 j hj
    have b := z (409 + j) (by omega) (by omega) (by omega)
    omega
  · omega
  · omega
set_option maxHeartbeats 4000000 in
theorem pair_2 : (0 ≤ N ∧ N ≤ 511) → PairJ (Inv N) (Inv (N + 1)) 103 190 [] := by
  intro hN μ c s hI
  obtain ⟨t1, t2, t3⟩ := hI.tape
  obtain ⟨n, hn⟩ : ∃ n : Nat, μ 1 1 = (n : Int) := ⟨(μ 1 1).toNat, by omega⟩
  obtain ⟨μ0, ⟨cf, e56, e57, e58, v7, v8, v9, v10, v11, v12, v13, v14, v15, v16, v17, e55, e59, e60, e61, e1, e3⟩, hE⟩ := k_empty (μ := m_set μ 3 2 0) (c := c) (s := s)
  have cfr : ∀ r, ¬ r = 1 → ¬ r = 3 → (r < 54 ∨ 61 < r) → μ0 r = μ r := fun r a1 a2 a3 => (cf.1 r a1 a2 a3).trans (row_set a2)
  have hn9 : n ≤ 940 := by omega
  have hC : CSt (m_set (m_set μ0 1 2 900) 1 3 0) (μ 2) n 900 0 := ⟨cfr 2 (by decide) (by decide) (by decide), hn9, Nat.zero_le _, (show μ0 1 1 = (n : Int) by rw [e1]; exact hn), rfl, rfl⟩
  have hw0 : I_words (m_set (m_set μ0 1 2 900) 1 3 0) := hI.words.congr (cfr 4 (by decide) (by decide) (by decide)) (cfr 124 (by decide) (by decide) (by decide))
  have fr0 : I_fresh (m_set (m_set μ0 1 2 900) 1 3 0) := cf.2 hI.fresh
  have key : ∀ x : Nat → Nat → Int, x 2 = μ 2 → x 119 = μ 119 → x 118 2 = (n : Int) → x 124 = μ 124 → ∃ σ ν, FrmC μ σ ∧ FrmM x ν ∧
      ((RelL σ ν 0 ∧ σ 3 2 = 0 ∧ ν 118 15 = 0 ∧ Rn PT none kX5_readMoor 11 [some (mR 3), some (mR 54), some (mI 0)] [] (mkh (m_set (m_set μ0 1 2 900) 1 3 0) c s) (fun r => r = (some (some (mI (σ 54 7))), mkh σ c s)) ∧ (∀ Q : MR → Prop, Rn PT none kX12_moor 64 [some (mR 118), some (mI 517)] [] (mkh ν c s) Q → Cl PT 190 [mR 118] (mkh x c s) Q)) ∨
       (∃ t : Nat, t ≤ 940 ∧ σ 3 2 = ν 118 15 ∧ Rn PT none kX5_readMoor 11 [some (mR 3), some (mR 54), some (mI 0)] [] (mkh (m_set (m_set μ0 1 2 900) 1 3 0) c s) (fun r => r = (some (some (mI (-1 - (t : Int)))), mkh σ c s)) ∧ Cl PT 190 [mR 118] (mkh x c s) (fun r => r = (some (some (mI (-1 - (t : Int)))), mkh ν c s)))) := by
    intro x x2 x119 x118 x124
    obtain ⟨ν0, ⟨mS, z, z2, z3, y15, y19, y20, y21, y2, yf, yr⟩, hgo⟩ := mo_pre (x := x) (c := c) (s := s) (b := μ 2) (n := n) x2 (fun j => by rw [x119]; exact (t3 j).2) hn9 x118
    have hRL : RelL μ0 ν0 0 := RL0 e56 e57 e58 v7 v8 v9 v10 v11 v12 v13 v14 v15 v16 v17 z z2 z3 y19 y20 y21
    obtain ⟨σ, ν, c1, f1, hz⟩ := mo_loop (b := μ 2) (n := n) (m := 900) (c := c) (s := s) (n + 1) 0 (m_set (m_set μ0 1 2 900) 1 3 0) ν0 0 (by omega) hC mS hRL v7 (by decide) hw0 ((yr 124 (by decide) (by decide)).trans (x124.trans (cfr 124 (by decide) (by decide) (by decide)).symm)) (show μ0 3 2 = 0 by rw [e3]; rfl) y15
    have g : FrmM x ν := ⟨fun r a1 a2 _ a3 => (f1.1 r a1 a2 a3).trans (yr r a1 a2), fun j hj _ => (f1.2.1 j (.inl hj)).trans (yf j hj), (f1.2.1 2 (.inr (by decide))).trans y2, fun j hj => (f1.2.2 j hj).trans (by rw [yr 123 (by decide) (by decide)])⟩
    have cg : FrmC μ σ := ⟨fun r a1 a2 a3 => (c1.1 r a1 a2 (by omega)).trans ((row_set a1).trans ((row_set a1).trans (cfr r a1 a2 (by omega)))), c1.2 fr0⟩
    rcases hz with ⟨r1, r2, r3, _, r5, r6⟩ | ⟨t, r1, r2, r3, r4⟩
    · exact ⟨σ, ν, cg, g, .inl ⟨r1, r2, r3, r5, fun Q K => hgo Q (r6 Q K)⟩⟩
    · exact ⟨σ, ν, cg, g, .inr ⟨t, r1, r2, r3, hgo _ r4⟩⟩
  obtain ⟨z, σ, cg, hrun, hfl⟩ : ∃ z σ, FrmC μ σ ∧ Rn PT none kX5_readMoor 11 [some (mR 3), some (mR 54), some (mI 0)] [] (mkh (m_set (m_set μ0 1 2 900) 1 3 0) c s) (fun r => r = (some (some (mI z)), mkh σ c s)) ∧ (¬ z < 0 → (σ 54 16 = 0 ∨ σ 54 16 = 1) ∧ (σ 54 17 = 0 ∨ σ 54 17 = 1)) := by
    obtain ⟨σ, ν, cg, g, hz⟩ := key μ rfl rfl (t2.trans hn) rfl
    rcases hz with ⟨r1, r2, r3, r5, _⟩ | ⟨t, r1, r2, r3, _⟩
    · exact ⟨_, σ, cg, r5, fun _ => ⟨r1.1.2.2.2.2.2.2.2.2.2.2.2.2.2.2.2.2.1, r1.1.2.2.2.2.2.2.2.2.2.2.2.2.2.2.2.2.2.1⟩⟩
    · exact ⟨_, σ, cg, r3, fun hz => absurd (show -1 - (t : Int) < 0 by omega) hz⟩
  have c118 : σ 118 = μ 118 := cg.1 118 (by decide) (by decide) (by decide)
  by_cases hz : z < 0
  · obtain ⟨σ2, ν, cg2, g, hcase⟩ := key (m_set σ 1 1 0) (cg.1 2 (by decide) (by decide) (by decide)) (cg.1 119 (by decide) (by decide) (by decide)) (show σ 118 2 = (n : Int) by rw [c118]; exact t2.trans hn) (cg.1 124 (by decide) (by decide) (by decide))
    rcases hcase with ⟨r1, r2, r3, r5, _⟩ | ⟨t, r1, r2, r3, r4⟩
    · exfalso
      have e := res_inj (Rn.det r5 hrun)
      have := r1.1.2.2.2.2.2.2.2.2.2.2.2.2.2.2.2.2.2.2.2.2.2.2.2.2
      omega
    · obtain ⟨ez, es⟩ := res_inj (Rn.det r3 hrun)
      subst es
      rw [ez] at r4
      exact ⟨z, _, ν, x_moor_bad hz (kr_go hE hrun), r4, (bad_inv hI cg g r2).le (by omega)⟩
  · obtain ⟨hb1, hb2⟩ := hfl hz
    have O : ∀ r, (r < 6 ∨ 17 < r) → ¬ r = 82 → ¬ r = 1 → mfin σ r = σ r := fun r a1 a2 a3 => by
      show m_set (m_set (m_set (bgn (lcp (m_set σ 1 1 0) 6 54)) 17 0 0) 82 5 0) 82 6 0 r = σ r
      rw [row_set a2, row_set a2, row_set (by omega)]
      unfold bgn
      rw [row_set (by omega), row_set (by omega), row_upd (by omega), row_upd (by omega), row_set (by omega), lcp_o (by omega), row_set a3]
    obtain ⟨σ2, ν, cg2, g, hcase⟩ := key (mfin σ) ((O 2 (by decide) (by decide) (by decide)).trans (cg.1 2 (by decide) (by decide) (by decide))) ((O 119 (by decide) (by decide) (by decide)).trans (cg.1 119 (by decide) (by decide) (by decide))) (by rw [O 118 (by decide) (by decide) (by decide), c118]; exact t2.trans hn) ((O 124 (by decide) (by decide) (by decide)).trans (cg.1 124 (by decide) (by decide) (by decide)))
    rcases hcase with ⟨r1, r2, r3, r5, r6⟩ | ⟨t, r1, r2, r3, r4⟩
    · obtain ⟨ez, es⟩ := res_inj (Rn.det r5 hrun)
      subst es
      have n15 := r1.1.2.2.2.2.2.2.2.2.2.2.2.2.2.2.1
      have n7 := r1.1.2.2.2.2.2.2.1
      have n21 := r1.1.2.2.2.2.2.2.2.2.2.2.2.2.2.2.2.2.2.2.2.2.1
      obtain ⟨μ2, ⟨q34, q118, qr, q1, q2, q3, q4, q5, q6, q7⟩, hM⟩ := mr_fin (μ := ν) (c := c) (s := s) (by omega)
      rw [n21, ez] at hM
      exact ⟨z, _, μ2, x_moor_ok hz hb1 hb2 (kr_go hE hrun), r6 _ hM, (ok_inv hN.1 hI cg g r2 r3 r1 q34 q118 qr q1 q2 q3 q4 q5 q6 q7).le (by omega)⟩
    · exfalso
      have e := res_inj (Rn.det r3 hrun)
      omega
