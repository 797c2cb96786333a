variable {N : Int}
/-! ===== printed by wip/whole/gen68.py: pairs: image, restore ===== -/
def cpl (f g : Nat → Int) : Nat → Int := (fs (fs (fs (fs (fs (fs (fs (fs (fs (fs (fs f 7 (g 7)) 8 (g 8)) 9 (g 9)) 10 (g 10)) 11 (g 11)) 12 (g 12)) 13 (g 13)) 14 (g 14)) 15 (g 15)) 16 (g 16)) 17 (g 17))
theorem cpl_v {f g : Nat → Int} {j : Nat} (h : 7 ≤ j ∧ j ≤ 17) : cpl f g j = g j := by
  rcases (show j = 7 ∨ j = 8 ∨ j = 9 ∨ j = 10 ∨ j = 11 ∨ j = 12 ∨ j = 13 ∨ j = 14 ∨ j = 15 ∨ j = 16 ∨ j = 17 by omega) with rfl | rfl | rfl | rfl | rfl | rfl | rfl | rfl | rfl | rfl | rfl <;> rfl
theorem sets11 {M : Nat → Nat → Int} {d : Nat} {v7 v8 v9 v10 v11 v12 v13 v14 v15 v16 v17 : Int} : (m_set (m_set (m_set (m_set (m_set (m_set (m_set (m_set (m_set (m_set (m_set M d 7 v7) d 8 v8) d 9 v9) d 10 v10) d 11 v11) d 12 v12) d 13 v13) d 14 v14) d 15 v15) d 16 v16) d 17 v17) = m_upd M d (fs (fs (fs (fs (fs (fs (fs (fs (fs (fs (fs (M d) 7 v7) 8 v8) 9 v9) 10 v10) 11 v11) 12 v12) 13 v13) 14 v14) 15 v15) 16 v16) 17 v17) := by
  rw [set_is_upd (μ := M), set_upd_eq, set_upd_eq, set_upd_eq, set_upd_eq, set_upd_eq, set_upd_eq, set_upd_eq, set_upd_eq, set_upd_eq, set_upd_eq]
/-- a moor made a copy of another; a plan; an image -/
def lcp (μ : Nat → Nat → Int) (d s : Nat) : Nat → Nat → Int := m_upd (m_upd (m_upd (m_upd (m_upd (m_upd (m_upd (m_upd μ (d + 1) (fl (μ (s + 1)) (μ (d + 1)) 100)) (d + 2) (fl (μ (s + 2)) (μ (d + 2)) 300)) (d + 3) (fl (μ (s + 3)) (μ (d + 3)) 3)) (d + 4) (fl (μ (s + 4)) (μ (d + 4)) 90)) (d + 5) (fl (μ (s + 5)) (μ (d + 5)) 8)) (d + 6) (fl (μ (s + 6)) (μ (d + 6)) 8)) (d + 7) (fl (μ (s + 7)) (μ (d + 7)) 8)) d (cpl (μ d) (μ s))
def pcp (μ : Nat → Nat → Int) (d s : Nat) : Nat → Nat → Int := m_upd (m_upd (m_upd (m_set μ d 0 (μ s 0)) (d + 1) (fl (μ (s + 1)) (μ (d + 1)) 30)) (d + 2) (fl (μ (s + 2)) (μ (d + 2)) 30)) (d + 3) (fl (μ (s + 3)) (μ (d + 3)) 30)
def icp (μ : Nat → Nat → Int) (d s : Nat) : Nat → Nat → Int := pcp (scp (lcp μ (d + 1) (s + 1)) (d + 9) (s + 9)) (d + 12) (s + 12)
theorem lcp_o {μ : Nat → Nat → Int} {d s a : Nat} (h : a < d ∨ d + 7 < a) : lcp μ d s a = μ a := by
  unfold lcp
  rw [row_upd (by omega), row_upd (by omega), row_upd (by omega), row_upd (by omega), row_upd (by omega), row_upd (by omega), row_upd (by omega), row_upd (by omega)]
theorem pcp_o {μ : Nat → Nat → Int} {d s a : Nat} (h : a < d ∨ d + 3 < a) : pcp μ d s a = μ a := by
  unfold pcp
  rw [row_upd (by omega), row_upd (by omega), row_upd (by omega), row_set (by omega)]
theorem icp_o {μ : Nat → Nat → Int} {d s a : Nat} (h : a ≤ d ∨ d + 15 < a) : icp μ d s a = μ a := by
  unfold icp
  rw [pcp_o (by omega), scp_o (by omega) (by omega) (by omega), lcp_o (by omega)]
/-- an image that is told by equal numbers -/
theorem I_img.copy {μ ν : Nat → Nat → Int} (h : I_img μ) (e6 : ∀ j, 7 ≤ j ∧ j ≤ 17 → ν 6 j = μ 6 j) (e7 : ∀ j, j < 100 → ν 7 j = μ 7 j) (e8 : ∀ j, j < 300 → ν 8 j = μ 8 j) (e9 : ∀ j, j < 3 → ν 9 j = μ 9 j) (e10 : ∀ j, j < 90 → ν 10 j = μ 10 j) (e11 : ∀ j, j < 8 → ν 11 j = μ 11 j) (e140 : ν 14 0 = μ 14 0) (e143 : ν 14 3 = μ 14 3) (e144 : ν 14 4 = μ 14 4) (e15 : ∀ j, j < 8 → ν 15 j = μ 15 j) (e16 : ∀ j, j < 8 → ν 16 j = μ 16 j) (e17 : ν 17 0 = μ 17 0) (e18 : ∀ j, j < 30 → ν 18 j = μ 18 j) (e19 : ∀ j, j < 30 → ν 19 j = μ 19 j) (e20 : ∀ j, j < 30 → ν 20 j = μ 20 j) (e120 : ∀ j, j < 657 → ν 120 j = μ 120 j) (e123 : ∀ j, j < 8 → ν 123 j = μ 123 j)
    (hb : ∀ j, (0 ≤ ν 7 j ∧ ν 7 j ≤ 99) ∧ (-1 ≤ ν 8 j ∧ ν 8 j ≤ 99) ∧ (-1 ≤ ν 10 j ∧ ν 10 j ≤ 99) ∧ (0 ≤ ν 15 j ∧ ν 15 j ≤ 99) ∧ (0 ≤ ν 16 j ∧ ν 16 j ≤ 99)) : I_img ν := by
  obtain ⟨hL, hS, hP, hN, hF⟩ := h
  have f8 := e6 8 (by omega)
  have f9 := e6 9 (by omega)
  have f10 := e6 10 (by omega)
  have f11 := e6 11 (by omega)
  have f12 := e6 12 (by omega)
  have f13 := e6 13 (by omega)
  have f14 := e6 14 (by omega)
  have f15 := e6 15 (by omega)
  have f16 := e6 16 (by omega)
  have f17 := e6 17 (by omega)
  obtain ⟨h1, h2, h3, h4, h5, h6, h7, h8, q0, q1, q2, q3, q4, q8, q499, q500, t, g, th, w, g', th', w'⟩ := hL
  obtain ⟨i1, i2, i3, i4, i5, i6, i7, i8, i9, i10, i11, i12, i13⟩ := hS
  obtain ⟨p1, p2, p3⟩ := hP
  refine ⟨?_, ?_, ?_, ?_, ?_⟩
  · unfold I_land
    rw [f8, f9, f10, f11, f12, f13, f14, f15, e120 0 (by omega), e120 1 (by omega), e120 2 (by omega), e120 3 (by omega), e120 4 (by omega), e120 8 (by omega), e120 499 (by omega), e120 500 (by omega)]
    refine ⟨h1, h2, h3, h4, h5, h6, h7, h8, q0, q1, q2, q3, q4, q8, q499, q500, fun j hj => ?_, fun j => (hb j).1, fun j => (hb j).2.1, fun j => (hb j).2.2.1, fun j hj hj2 => ?_, fun j hj => ?_, fun j hj => ?_⟩
    · rw [e9 j hj, e120 _ (by omega)]; exact t j hj
    · have hj3 : j < 100 := by
        have := Int.tdiv_eq_ediv_of_nonneg (a := (j : Int)) (b := 10) (by omega)
        omega
      rw [e7 j hj3, e120 _ (by omega)]; exact g' j hj hj2
    · rw [e8 j hj, e120 _ (by omega)]; exact th' j hj
    · rw [e10 j hj, e120 _ (by omega)]; exact w' j hj
  · unfold I_scene
    rw [f8, f9, f13, f14, e140, e143, e144, e120 517 (by omega), e120 534 (by omega), e120 535 (by omega)]
    refine ⟨i1, i2, i3, i4, i5, i6, fun j => (hb j).2.2.2.1, fun j => (hb j).2.2.2.2, fun j hj => ?_, i10, fun j hj => ?_, i12, i13⟩
    · rw [e15 j (by omega), e16 j (by omega), e120 _ (by omega), e120 _ (by omega)]; exact i9 j hj
    · rw [e15 j (by omega)]; exact i11 j hj
  · unfold I_plan
    rw [e17, f13, f8, f9, e120 536 (by omega)]
    refine ⟨p1, p2, fun i hi => ?_⟩
    rw [e18 i (by omega), e19 i (by omega), e20 i (by omega), e120 _ (by omega), e120 _ (by omega), e120 _ (by omega)]
    exact p3 i hi
  · intro j hj
    rw [f13] at hj
    rw [e11 j (by omega), e123 j (by omega)]
    exact hN j hj
  · unfold I_flag
    rw [f16, f17]
    exact hF
set_option maxHeartbeats 2000000 in
theorem c_copy_31_14 {μ : Nat → Nat → Int} {c s : Nat} : Cl PT 64 [mR 31, mR 14] (mkh μ c s) (fun r => r = (some none, mkh (scp μ 31 14) c s)) := by
  refine ⟨_, PT_64, Nat.le_of_ble_eq_true rfl, ?_⟩
  show Rn PT none kX6_copyFrom 0 [some (mR 31), some (mR 14)] [] (mkh μ c s) _
  refine rn_aload_n (k' := 1) rfl rfl rfl ?_
  refine rn_aload_n (k' := 2) rfl rfl rfl ?_
  refine rn_getI (k' := 3) rfl rfl K0_14 (by decide) rfl ?_
  refine rn_putI (k' := 4) rfl rfl K0_31 (by decide) rfl ?_
  refine rn_aload_n (k' := 5) rfl rfl rfl ?_
  refine rn_getR (k' := 6) rfl rfl K0_14 (by decide) rfl R0_14_1 ?_
  refine rn_iconst (k' := 7) rfl rfl ?_
  refine rn_aload_n (k' := 8) rfl rfl rfl ?_
  refine rn_getR (k' := 9) rfl rfl K0_31 (by decide) rfl R0_31_1 ?_
  refine rn_iconst (k' := 10) rfl rfl ?_
  refine rn_bipush (k' := 11) rfl rfl ?_
  refine rn_cpy (k' := 12) rfl rfl K0_15 K0_32 (by decide) (Nat.le_of_ble_eq_true rfl) ?_
  show Rn PT none kX6_copyFrom 12 [some (mR 31), some (mR 14)] [] (mkh (m_upd (m_set μ 31 0 (μ 14 0)) 32 (fl (μ 15) (μ 32) 8)) c s) _
  refine rn_aload_n (k' := 13) rfl rfl rfl ?_
  refine rn_getR (k' := 14) rfl rfl K0_14 (by decide) rfl R0_14_2 ?_
  refine rn_iconst (k' := 15) rfl rfl ?_
  refine rn_aload_n (k' := 16) rfl rfl rfl ?_
  refine rn_getR (k' := 17) rfl rfl K0_31 (by decide) rfl R0_31_2 ?_
  refine rn_iconst (k' := 18) rfl rfl ?_
  refine rn_bipush (k' := 19) rfl rfl ?_
  refine rn_cpy (k' := 20) rfl rfl K0_16 K0_33 (by decide) (Nat.le_of_ble_eq_true rfl) ?_
  show Rn PT none kX6_copyFrom 20 [some (mR 31), some (mR 14)] [] (mkh (m_upd (m_upd (m_set μ 31 0 (μ 14 0)) 32 (fl (μ 15) (μ 32) 8)) 33 (fl (μ 16) (μ 33) 8)) c s) _
  refine rn_aload_n (k' := 21) rfl rfl rfl ?_
  refine rn_aload_n (k' := 22) rfl rfl rfl ?_
  refine rn_getI (k' := 23) rfl rfl K0_14 (by decide) rfl ?_
  show Rn PT none kX6_copyFrom 23 [some (mR 31), some (mR 14)] [mI (μ 14 3), mR 31] (mkh (m_upd (m_upd (m_set μ 31 0 (μ 14 0)) 32 (fl (μ 15) (μ 32) 8)) 33 (fl (μ 16) (μ 33) 8)) c s) _
  refine rn_putI (k' := 24) rfl rfl K0_31 (by decide) rfl ?_
  refine rn_aload_n (k' := 25) rfl rfl rfl ?_
  refine rn_aload_n (k' := 26) rfl rfl rfl ?_
  refine rn_getI (k' := 27) rfl rfl K0_14 (by decide) rfl ?_
  show Rn PT none kX6_copyFrom 27 [some (mR 31), some (mR 14)] [mI (μ 14 4), mR 31] (mkh (m_set (m_upd (m_upd (m_set μ 31 0 (μ 14 0)) 32 (fl (μ 15) (μ 32) 8)) 33 (fl (μ 16) (μ 33) 8)) 31 3 (μ 14 3)) c s) _
  refine rn_putI (k' := 28) rfl rfl K0_31 (by decide) rfl ?_
  refine rn_vret rfl ?_
  exact congrArg (fun z => ((some none : Option (Option MV)), mkh z c s)) (scp_eq (d := 31))
set_option maxHeartbeats 2000000 in
theorem c_copy_47_14 {μ : Nat → Nat → Int} {c s : Nat} : Cl PT 64 [mR 47, mR 14] (mkh μ c s) (fun r => r = (some none, mkh (scp μ 47 14) c s)) := by
  refine ⟨_, PT_64, Nat.le_of_ble_eq_true rfl, ?_⟩
  show Rn PT none kX6_copyFrom 0 [some (mR 47), some (mR 14)] [] (mkh μ c s) _
  refine rn_aload_n (k' := 1) rfl rfl rfl ?_
  refine rn_aload_n (k' := 2) rfl rfl rfl ?_
  refine rn_getI (k' := 3) rfl rfl K0_14 (by decide) rfl ?_
  refine rn_putI (k' := 4) rfl rfl K0_47 (by decide) rfl ?_
  refine rn_aload_n (k' := 5) rfl rfl rfl ?_
  refine rn_getR (k' := 6) rfl rfl K0_14 (by decide) rfl R0_14_1 ?_
  refine rn_iconst (k' := 7) rfl rfl ?_
  refine rn_aload_n (k' := 8) rfl rfl rfl ?_
  refine rn_getR (k' := 9) rfl rfl K0_47 (by decide) rfl R0_47_1 ?_
  refine rn_iconst (k' := 10) rfl rfl ?_
  refine rn_bipush (k' := 11) rfl rfl ?_
  refine rn_cpy (k' := 12) rfl rfl K0_15 K0_48 (by decide) (Nat.le_of_ble_eq_true rfl) ?_
  show Rn PT none kX6_copyFrom 12 [some (mR 47), some (mR 14)] [] (mkh (m_upd (m_set μ 47 0 (μ 14 0)) 48 (fl (μ 15) (μ 48) 8)) c s) _
  refine rn_aload_n (k' := 13) rfl rfl rfl ?_
  refine rn_getR (k' := 14) rfl rfl K0_14 (by decide) rfl R0_14_2 ?_
  refine rn_iconst (k' := 15) rfl rfl ?_
  refine rn_aload_n (k' := 16) rfl rfl rfl ?_
  refine rn_getR (k' := 17) rfl rfl K0_47 (by decide) rfl R0_47_2 ?_
  refine rn_iconst (k' := 18) rfl rfl ?_
  refine rn_bipush (k' := 19) rfl rfl ?_
  refine rn_cpy (k' := 20) rfl rfl K0_16 K0_49 (by decide) (Nat.le_of_ble_eq_true rfl) ?_
  show Rn PT none kX6_copyFrom 20 [some (mR 47), some (mR 14)] [] (mkh (m_upd (m_upd (m_set μ 47 0 (μ 14 0)) 48 (fl (μ 15) (μ 48) 8)) 49 (fl (μ 16) (μ 49) 8)) c s) _
  refine rn_aload_n (k' := 21) rfl rfl rfl ?_
  refine rn_aload_n (k' := 22) rfl rfl rfl ?_
  refine rn_getI (k' := 23) rfl rfl K0_14 (by decide) rfl ?_
  show Rn PT none kX6_copyFrom 23 [some (mR 47), some (mR 14)] [mI (μ 14 3), mR 47] (mkh (m_upd (m_upd (m_set μ 47 0 (μ 14 0)) 48 (fl (μ 15) (μ 48) 8)) 49 (fl (μ 16) (μ 49) 8)) c s) _
  refine rn_putI (k' := 24) rfl rfl K0_47 (by decide) rfl ?_
  refine rn_aload_n (k' := 25) rfl rfl rfl ?_
  refine rn_aload_n (k' := 26) rfl rfl rfl ?_
  refine rn_getI (k' := 27) rfl rfl K0_14 (by decide) rfl ?_
  show Rn PT none kX6_copyFrom 27 [some (mR 47), some (mR 14)] [mI (μ 14 4), mR 47] (mkh (m_set (m_upd (m_upd (m_set μ 47 0 (μ 14 0)) 48 (fl (μ 15) (μ 48) 8)) 49 (fl (μ 16) (μ 49) 8)) 47 3 (μ 14 3)) c s) _
  refine rn_putI (k' := 28) rfl rfl K0_47 (by decide) rfl ?_
  refine rn_vret rfl ?_
  exact congrArg (fun z => ((some none : Option (Option MV)), mkh z c s)) (scp_eq (d := 47))
set_option maxHeartbeats 2000000 in
theorem c_copy_14_31 {μ : Nat → Nat → Int} {c s : Nat} : Cl PT 64 [mR 14, mR 31] (mkh μ c s) (fun r => r = (some none, mkh (scp μ 14 31) c s)) := by
  refine ⟨_, PT_64, Nat.le_of_ble_eq_true rfl, ?_⟩
  show Rn PT none kX6_copyFrom 0 [some (mR 14), some (mR 31)] [] (mkh μ c s) _
  refine rn_aload_n (k' := 1) rfl rfl rfl ?_
  refine rn_aload_n (k' := 2) rfl rfl rfl ?_
  refine rn_getI (k' := 3) rfl rfl K0_31 (by decide) rfl ?_
  refine rn_putI (k' := 4) rfl rfl K0_14 (by decide) rfl ?_
  refine rn_aload_n (k' := 5) rfl rfl rfl ?_
  refine rn_getR (k' := 6) rfl rfl K0_31 (by decide) rfl R0_31_1 ?_
  refine rn_iconst (k' := 7) rfl rfl ?_
  refine rn_aload_n (k' := 8) rfl rfl rfl ?_
  refine rn_getR (k' := 9) rfl rfl K0_14 (by decide) rfl R0_14_1 ?_
  refine rn_iconst (k' := 10) rfl rfl ?_
  refine rn_bipush (k' := 11) rfl rfl ?_
  refine rn_cpy (k' := 12) rfl rfl K0_32 K0_15 (by decide) (Nat.le_of_ble_eq_true rfl) ?_
  show Rn PT none kX6_copyFrom 12 [some (mR 14), some (mR 31)] [] (mkh (m_upd (m_set μ 14 0 (μ 31 0)) 15 (fl (μ 32) (μ 15) 8)) c s) _
  refine rn_aload_n (k' := 13) rfl rfl rfl ?_
  refine rn_getR (k' := 14) rfl rfl K0_31 (by decide) rfl R0_31_2 ?_
  refine rn_iconst (k' := 15) rfl rfl ?_
  refine rn_aload_n (k' := 16) rfl rfl rfl ?_
  refine rn_getR (k' := 17) rfl rfl K0_14 (by decide) rfl R0_14_2 ?_
  refine rn_iconst (k' := 18) rfl rfl ?_
  refine rn_bipush (k' := 19) rfl rfl ?_
  refine rn_cpy (k' := 20) rfl rfl K0_33 K0_16 (by decide) (Nat.le_of_ble_eq_true rfl) ?_
  show Rn PT none kX6_copyFrom 20 [some (mR 14), some (mR 31)] [] (mkh (m_upd (m_upd (m_set μ 14 0 (μ 31 0)) 15 (fl (μ 32) (μ 15) 8)) 16 (fl (μ 33) (μ 16) 8)) c s) _
  refine rn_aload_n (k' := 21) rfl rfl rfl ?_
  refine rn_aload_n (k' := 22) rfl rfl rfl ?_
  refine rn_getI (k' := 23) rfl rfl K0_31 (by decide) rfl ?_
  show Rn PT none kX6_copyFrom 23 [some (mR 14), some (mR 31)] [mI (μ 31 3), mR 14] (mkh (m_upd (m_upd (m_set μ 14 0 (μ 31 0)) 15 (fl (μ 32) (μ 15) 8)) 16 (fl (μ 33) (μ 16) 8)) c s) _
  refine rn_putI (k' := 24) rfl rfl K0_14 (by decide) rfl ?_
  refine rn_aload_n (k' := 25) rfl rfl rfl ?_
  refine rn_aload_n (k' := 26) rfl rfl rfl ?_
  refine rn_getI (k' := 27) rfl rfl K0_31 (by decide) rfl ?_
  show Rn PT none kX6_copyFrom 27 [some (mR 14), some (mR 31)] [mI (μ 31 4), mR 14] (mkh (m_set (m_upd (m_upd (m_set μ 14 0 (μ 31 0)) 15 (fl (μ 32) (μ 15) 8)) 16 (fl (μ 33) (μ 16) 8)) 14 3 (μ 31 3)) c s) _
  refine rn_putI (k' := 28) rfl rfl K0_14 (by decide) rfl ?_
  refine rn_vret rfl ?_
  exact congrArg (fun z => ((some none : Option (Option MV)), mkh z c s)) (scp_eq (d := 14))
set_option maxHeartbeats 2000000 in
theorem c_copy_14_47 {μ : Nat → Nat → Int} {c s : Nat} : Cl PT 64 [mR 14, mR 47] (mkh μ c s) (fun r => r = (some none, mkh (scp μ 14 47) c s)) := by
  refine ⟨_, PT_64, Nat.le_of_ble_eq_true rfl, ?_⟩
  show Rn PT none kX6_copyFrom 0 [some (mR 14), some (mR 47)] [] (mkh μ c s) _
  refine rn_aload_n (k' := 1) rfl rfl rfl ?_
  refine rn_aload_n (k' := 2) rfl rfl rfl ?_
  refine rn_getI (k' := 3) rfl rfl K0_47 (by decide) rfl ?_
  refine rn_putI (k' := 4) rfl rfl K0_14 (by decide) rfl ?_
  refine rn_aload_n (k' := 5) rfl rfl rfl ?_
  refine rn_getR (k' := 6) rfl rfl K0_47 (by decide) rfl R0_47_1 ?_
  refine rn_iconst (k' := 7) rfl rfl ?_
  refine rn_aload_n (k' := 8) rfl rfl rfl ?_
  refine rn_getR (k' := 9) rfl rfl K0_14 (by decide) rfl R0_14_1 ?_
  refine rn_iconst (k' := 10) rfl rfl ?_
  refine rn_bipush (k' := 11) rfl rfl ?_
  refine rn_cpy (k' := 12) rfl rfl K0_48 K0_15 (by decide) (Nat.le_of_ble_eq_true rfl) ?_
  show Rn PT none kX6_copyFrom 12 [some (mR 14), some (mR 47)] [] (mkh (m_upd (m_set μ 14 0 (μ 47 0)) 15 (fl (μ 48) (μ 15) 8)) c s) _
  refine rn_aload_n (k' := 13) rfl rfl rfl ?_
  refine rn_getR (k' := 14) rfl rfl K0_47 (by decide) rfl R0_47_2 ?_
  refine rn_iconst (k' := 15) rfl rfl ?_
  refine rn_aload_n (k' := 16) rfl rfl rfl ?_
  refine rn_getR (k' := 17) rfl rfl K0_14 (by decide) rfl R0_14_2 ?_
  refine rn_iconst (k' := 18) rfl rfl ?_
  refine rn_bipush (k' := 19) rfl rfl ?_
  refine rn_cpy (k' := 20) rfl rfl K0_49 K0_16 (by decide) (Nat.le_of_ble_eq_true rfl) ?_
  show Rn PT none kX6_copyFrom 20 [some (mR 14), some (mR 47)] [] (mkh (m_upd (m_upd (m_set μ 14 0 (μ 47 0)) 15 (fl (μ 48) (μ 15) 8)) 16 (fl (μ 49) (μ 16) 8)) c s) _
  refine rn_aload_n (k' := 21) rfl rfl rfl ?_
  refine rn_aload_n (k' := 22) rfl rfl rfl ?_
  refine rn_getI (k' := 23) rfl rfl K0_47 (by decide) rfl ?_
  show Rn PT none kX6_copyFrom 23 [some (mR 14), some (mR 47)] [mI (μ 47 3), mR 14] (mkh (m_upd (m_upd (m_set μ 14 0 (μ 47 0)) 15 (fl (μ 48) (μ 15) 8)) 16 (fl (μ 49) (μ 16) 8)) c s) _
  refine rn_putI (k' := 24) rfl rfl K0_14 (by decide) rfl ?_
  refine rn_aload_n (k' := 25) rfl rfl rfl ?_
  refine rn_aload_n (k' := 26) rfl rfl rfl ?_
  refine rn_getI (k' := 27) rfl rfl K0_47 (by decide) rfl ?_
  show Rn PT none kX6_copyFrom 27 [some (mR 14), some (mR 47)] [mI (μ 47 4), mR 14] (mkh (m_set (m_upd (m_upd (m_set μ 14 0 (μ 47 0)) 15 (fl (μ 48) (μ 15) 8)) 16 (fl (μ 49) (μ 16) 8)) 14 3 (μ 47 3)) c s) _
  refine rn_putI (k' := 28) rfl rfl K0_14 (by decide) rfl ?_
  refine rn_vret rfl ?_
  exact congrArg (fun z => ((some none : Option (Option MV)), mkh z c s)) (scp_eq (d := 14))
set_option maxHeartbeats 2000000 in
theorem c_lcopy_23_6 {μ : Nat → Nat → Int} {c s : Nat} (hb1 : μ 6 16 = 0 ∨ μ 6 16 = 1) (hb2 : μ 6 17 = 0 ∨ μ 6 17 = 1) : Cl PT 28 [mR 23, mR 6] (mkh μ c s) (fun r => r = (some none, mkh (lcp μ 23 6) c s)) := by
  refine ⟨_, PT_28, Nat.le_of_ble_eq_true rfl, ?_⟩
  show Rn PT none kX3_copyFrom 0 [some (mR 23), some (mR 6)] [] (mkh μ c s) _
  refine rn_aload_n (k' := 1) rfl rfl rfl ?_
  refine rn_getR (k' := 2) rfl rfl K0_6 (by decide) rfl R0_6_0 ?_
  refine rn_iconst (k' := 3) rfl rfl ?_
  refine rn_aload_n (k' := 4) rfl rfl rfl ?_
  refine rn_getR (k' := 5) rfl rfl K0_23 (by decide) rfl R0_23_0 ?_
  refine rn_iconst (k' := 6) rfl rfl ?_
  refine rn_bipush (k' := 7) rfl rfl ?_
  refine rn_cpy (k' := 8) rfl rfl K0_7 K0_24 (by decide) (Nat.le_of_ble_eq_true rfl) ?_
  show Rn PT none kX3_copyFrom 8 [some (mR 23), some (mR 6)] [] (mkh (m_upd μ 24 (fl (μ 7) (μ 24) 100)) c s) _
  refine rn_aload_n (k' := 9) rfl rfl rfl ?_
  refine rn_getR (k' := 10) rfl rfl K0_6 (by decide) rfl R0_6_1 ?_
  refine rn_iconst (k' := 11) rfl rfl ?_
  refine rn_aload_n (k' := 12) rfl rfl rfl ?_
  refine rn_getR (k' := 13) rfl rfl K0_23 (by decide) rfl R0_23_1 ?_
  refine rn_iconst (k' := 14) rfl rfl ?_
  refine rn_sipush (k' := 15) rfl rfl ?_
  refine rn_cpy (k' := 16) rfl rfl K0_8 K0_25 (by decide) (Nat.le_of_ble_eq_true rfl) ?_
  show Rn PT none kX3_copyFrom 16 [some (mR 23), some (mR 6)] [] (mkh (m_upd (m_upd μ 24 (fl (μ 7) (μ 24) 100)) 25 (fl (μ 8) (μ 25) 300)) c s) _
  refine rn_aload_n (k' := 17) rfl rfl rfl ?_
  refine rn_getR (k' := 18) rfl rfl K0_6 (by decide) rfl R0_6_2 ?_
  refine rn_iconst (k' := 19) rfl rfl ?_
  refine rn_aload_n (k' := 20) rfl rfl rfl ?_
  refine rn_getR (k' := 21) rfl rfl K0_23 (by decide) rfl R0_23_2 ?_
  refine rn_iconst (k' := 22) rfl rfl ?_
  refine rn_iconst (k' := 23) rfl rfl ?_
  refine rn_cpy (k' := 24) rfl rfl K0_9 K0_26 (by decide) (Nat.le_of_ble_eq_true rfl) ?_
  show Rn PT none kX3_copyFrom 24 [some (mR 23), some (mR 6)] [] (mkh (m_upd (m_upd (m_upd μ 24 (fl (μ 7) (μ 24) 100)) 25 (fl (μ 8) (μ 25) 300)) 26 (fl (μ 9) (μ 26) 3)) c s) _
  refine rn_aload_n (k' := 25) rfl rfl rfl ?_
  refine rn_getR (k' := 26) rfl rfl K0_6 (by decide) rfl R0_6_3 ?_
  refine rn_iconst (k' := 27) rfl rfl ?_
  refine rn_aload_n (k' := 28) rfl rfl rfl ?_
  refine rn_getR (k' := 29) rfl rfl K0_23 (by decide) rfl R0_23_3 ?_
  refine rn_iconst (k' := 30) rfl rfl ?_
  refine rn_bipush (k' := 31) rfl rfl ?_
  refine rn_cpy (k' := 32) rfl rfl K0_10 K0_27 (by decide) (Nat.le_of_ble_eq_true rfl) ?_
  show Rn PT none kX3_copyFrom 32 [some (mR 23), some (mR 6)] [] (mkh (m_upd (m_upd (m_upd (m_upd μ 24 (fl (μ 7) (μ 24) 100)) 25 (fl (μ 8) (μ 25) 300)) 26 (fl (μ 9) (μ 26) 3)) 27 (fl (μ 10) (μ 27) 90)) c s) _
  refine rn_aload_n (k' := 33) rfl rfl rfl ?_
  refine rn_getR (k' := 34) rfl rfl K0_6 (by decide) rfl R0_6_4 ?_
  refine rn_iconst (k' := 35) rfl rfl ?_
  refine rn_aload_n (k' := 36) rfl rfl rfl ?_
  refine rn_getR (k' := 37) rfl rfl K0_23 (by decide) rfl R0_23_4 ?_
  refine rn_iconst (k' := 38) rfl rfl ?_
  refine rn_bipush (k' := 39) rfl rfl ?_
  refine rn_cpy (k' := 40) rfl rfl K0_11 K0_28 (by decide) (Nat.le_of_ble_eq_true rfl) ?_
  show Rn PT none kX3_copyFrom 40 [some (mR 23), some (mR 6)] [] (mkh (m_upd (m_upd (m_upd (m_upd (m_upd μ 24 (fl (μ 7) (μ 24) 100)) 25 (fl (μ 8) (μ 25) 300)) 26 (fl (μ 9) (μ 26) 3)) 27 (fl (μ 10) (μ 27) 90)) 28 (fl (μ 11) (μ 28) 8)) c s) _
  refine rn_aload_n (k' := 41) rfl rfl rfl ?_
  refine rn_getR (k' := 42) rfl rfl K0_6 (by decide) rfl R0_6_5 ?_
  refine rn_iconst (k' := 43) rfl rfl ?_
  refine rn_aload_n (k' := 44) rfl rfl rfl ?_
  refine rn_getR (k' := 45) rfl rfl K0_23 (by decide) rfl R0_23_5 ?_
  refine rn_iconst (k' := 46) rfl rfl ?_
  refine rn_bipush (k' := 47) rfl rfl ?_
  refine rn_cpy (k' := 48) rfl rfl K0_12 K0_29 (by decide) (Nat.le_of_ble_eq_true rfl) ?_
  show Rn PT none kX3_copyFrom 48 [some (mR 23), some (mR 6)] [] (mkh (m_upd (m_upd (m_upd (m_upd (m_upd (m_upd μ 24 (fl (μ 7) (μ 24) 100)) 25 (fl (μ 8) (μ 25) 300)) 26 (fl (μ 9) (μ 26) 3)) 27 (fl (μ 10) (μ 27) 90)) 28 (fl (μ 11) (μ 28) 8)) 29 (fl (μ 12) (μ 29) 8)) c s) _
  refine rn_aload_n (k' := 49) rfl rfl rfl ?_
  refine rn_getR (k' := 50) rfl rfl K0_6 (by decide) rfl R0_6_6 ?_
  refine rn_iconst (k' := 51) rfl rfl ?_
  refine rn_aload_n (k' := 52) rfl rfl rfl ?_
  refine rn_getR (k' := 53) rfl rfl K0_23 (by decide) rfl R0_23_6 ?_
  refine rn_iconst (k' := 54) rfl rfl ?_
  refine rn_bipush (k' := 55) rfl rfl ?_
  refine rn_cpy (k' := 56) rfl rfl K0_13 K0_30 (by decide) (Nat.le_of_ble_eq_true rfl) ?_
  show Rn PT none kX3_copyFrom 56 [some (mR 23), some (mR 6)] [] (mkh (m_upd (m_upd (m_upd (m_upd (m_upd (m_upd (m_upd μ 24 (fl (μ 7) (μ 24) 100)) 25 (fl (μ 8) (μ 25) 300)) 26 (fl (μ 9) (μ 26) 3)) 27 (fl (μ 10) (μ 27) 90)) 28 (fl (μ 11) (μ 28) 8)) 29 (fl (μ 12) (μ 29) 8)) 30 (fl (μ 13) (μ 30) 8)) c s) _
  refine rn_aload_n (k' := 57) rfl rfl rfl ?_
  refine rn_aload_n (k' := 58) rfl rfl rfl ?_
  refine rn_getI (k' := 59) rfl rfl K0_6 (by decide) rfl ?_
  show Rn PT none kX3_copyFrom 59 [some (mR 23), some (mR 6)] [mI (μ 6 7), mR 23] (mkh (m_upd (m_upd (m_upd (m_upd (m_upd (m_upd (m_upd μ 24 (fl (μ 7) (μ 24) 100)) 25 (fl (μ 8) (μ 25) 300)) 26 (fl (μ 9) (μ 26) 3)) 27 (fl (μ 10) (μ 27) 90)) 28 (fl (μ 11) (μ 28) 8)) 29 (fl (μ 12) (μ 29) 8)) 30 (fl (μ 13) (μ 30) 8)) c s) _
  refine rn_putI (k' := 60) rfl rfl K0_23 (by decide) rfl ?_
  refine rn_aload_n (k' := 61) rfl rfl rfl ?_
  refine rn_aload_n (k' := 62) rfl rfl rfl ?_
  refine rn_getI (k' := 63) rfl rfl K0_6 (by decide) rfl ?_
  show Rn PT none kX3_copyFrom 63 [some (mR 23), some (mR 6)] [mI (μ 6 8), mR 23] (mkh (m_set (m_upd (m_upd (m_upd (m_upd (m_upd (m_upd (m_upd μ 24 (fl (μ 7) (μ 24) 100)) 25 (fl (μ 8) (μ 25) 300)) 26 (fl (μ 9) (μ 26) 3)) 27 (fl (μ 10) (μ 27) 90)) 28 (fl (μ 11) (μ 28) 8)) 29 (fl (μ 12) (μ 29) 8)) 30 (fl (μ 13) (μ 30) 8)) 23 7 (μ 6 7)) c s) _
  refine rn_putI (k' := 64) rfl rfl K0_23 (by decide) rfl ?_
  refine rn_aload_n (k' := 65) rfl rfl rfl ?_
  refine rn_aload_n (k' := 66) rfl rfl rfl ?_
  refine rn_getI (k' := 67) rfl rfl K0_6 (by decide) rfl ?_
  show Rn PT none kX3_copyFrom 67 [some (mR 23), some (mR 6)] [mI (μ 6 9), mR 23] (mkh (m_set (m_set (m_upd (m_upd (m_upd (m_upd (m_upd (m_upd (m_upd μ 24 (fl (μ 7) (μ 24) 100)) 25 (fl (μ 8) (μ 25) 300)) 26 (fl (μ 9) (μ 26) 3)) 27 (fl (μ 10) (μ 27) 90)) 28 (fl (μ 11) (μ 28) 8)) 29 (fl (μ 12) (μ 29) 8)) 30 (fl (μ 13) (μ 30) 8)) 23 7 (μ 6 7)) 23 8 (μ 6 8)) c s) _
  refine rn_putI (k' := 68) rfl rfl K0_23 (by decide) rfl ?_
  refine rn_aload_n (k' := 69) rfl rfl rfl ?_
  refine rn_aload_n (k' := 70) rfl rfl rfl ?_
  refine rn_getI (k' := 71) rfl rfl K0_6 (by decide) rfl ?_
  show Rn PT none kX3_copyFrom 71 [some (mR 23), some (mR 6)] [mI (μ 6 10), mR 23] (mkh (m_set (m_set (m_set (m_upd (m_upd (m_upd (m_upd (m_upd (m_upd (m_upd μ 24 (fl (μ 7) (μ 24) 100)) 25 (fl (μ 8) (μ 25) 300)) 26 (fl (μ 9) (μ 26) 3)) 27 (fl (μ 10) (μ 27) 90)) 28 (fl (μ 11) (μ 28) 8)) 29 (fl (μ 12) (μ 29) 8)) 30 (fl (μ 13) (μ 30) 8)) 23 7 (μ 6 7)) 23 8 (μ 6 8)) 23 9 (μ 6 9)) c s) _
  refine rn_putI (k' := 72) rfl rfl K0_23 (by decide) rfl ?_
  refine rn_aload_n (k' := 73) rfl rfl rfl ?_
  refine rn_aload_n (k' := 74) rfl rfl rfl ?_
  refine rn_getI (k' := 75) rfl rfl K0_6 (by decide) rfl ?_
  show Rn PT none kX3_copyFrom 75 [some (mR 23), some (mR 6)] [mI (μ 6 11), mR 23] (mkh (m_set (m_set (m_set (m_set (m_upd (m_upd (m_upd (m_upd (m_upd (m_upd (m_upd μ 24 (fl (μ 7) (μ 24) 100)) 25 (fl (μ 8) (μ 25) 300)) 26 (fl (μ 9) (μ 26) 3)) 27 (fl (μ 10) (μ 27) 90)) 28 (fl (μ 11) (μ 28) 8)) 29 (fl (μ 12) (μ 29) 8)) 30 (fl (μ 13) (μ 30) 8)) 23 7 (μ 6 7)) 23 8 (μ 6 8)) 23 9 (μ 6 9)) 23 10 (μ 6 10)) c s) _
  refine rn_putI (k' := 76) rfl rfl K0_23 (by decide) rfl ?_
  refine rn_aload_n (k' := 77) rfl rfl rfl ?_
  refine rn_aload_n (k' := 78) rfl rfl rfl ?_
  refine rn_getI (k' := 79) rfl rfl K0_6 (by decide) rfl ?_
  show Rn PT none kX3_copyFrom 79 [some (mR 23), some (mR 6)] [mI (μ 6 12), mR 23] (mkh (m_set (m_set (m_set (m_set (m_set (m_upd (m_upd (m_upd (m_upd (m_upd (m_upd (m_upd μ 24 (fl (μ 7) (μ 24) 100)) 25 (fl (μ 8) (μ 25) 300)) 26 (fl (μ 9) (μ 26) 3)) 27 (fl (μ 10) (μ 27) 90)) 28 (fl (μ 11) (μ 28) 8)) 29 (fl (μ 12) (μ 29) 8)) 30 (fl (μ 13) (μ 30) 8)) 23 7 (μ 6 7)) 23 8 (μ 6 8)) 23 9 (μ 6 9)) 23 10 (μ 6 10)) 23 11 (μ 6 11)) c s) _
  refine rn_putI (k' := 80) rfl rfl K0_23 (by decide) rfl ?_
  refine rn_aload_n (k' := 81) rfl rfl rfl ?_
  refine rn_aload_n (k' := 82) rfl rfl rfl ?_
  refine rn_getI (k' := 83) rfl rfl K0_6 (by decide) rfl ?_
  show Rn PT none kX3_copyFrom 83 [some (mR 23), some (mR 6)] [mI (μ 6 13), mR 23] (mkh (m_set (m_set (m_set (m_set (m_set (m_set (m_upd (m_upd (m_upd (m_upd (m_upd (m_upd (m_upd μ 24 (fl (μ 7) (μ 24) 100)) 25 (fl (μ 8) (μ 25) 300)) 26 (fl (μ 9) (μ 26) 3)) 27 (fl (μ 10) (μ 27) 90)) 28 (fl (μ 11) (μ 28) 8)) 29 (fl (μ 12) (μ 29) 8)) 30 (fl (μ 13) (μ 30) 8)) 23 7 (μ 6 7)) 23 8 (μ 6 8)) 23 9 (μ 6 9)) 23 10 (μ 6 10)) 23 11 (μ 6 11)) 23 12 (μ 6 12)) c s) _
  refine rn_putI (k' := 84) rfl rfl K0_23 (by decide) rfl ?_
  refine rn_aload_n (k' := 85) rfl rfl rfl ?_
  refine rn_aload_n (k' := 86) rfl rfl rfl ?_
  refine rn_getI (k' := 87) rfl rfl K0_6 (by decide) rfl ?_
  show Rn PT none kX3_copyFrom 87 [some (mR 23), some (mR 6)] [mI (μ 6 14), mR 23] (mkh (m_set (m_set (m_set (m_set (m_set (m_set (m_set (m_upd (m_upd (m_upd (m_upd (m_upd (m_upd (m_upd μ 24 (fl (μ 7) (μ 24) 100)) 25 (fl (μ 8) (μ 25) 300)) 26 (fl (μ 9) (μ 26) 3)) 27 (fl (μ 10) (μ 27) 90)) 28 (fl (μ 11) (μ 28) 8)) 29 (fl (μ 12) (μ 29) 8)) 30 (fl (μ 13) (μ 30) 8)) 23 7 (μ 6 7)) 23 8 (μ 6 8)) 23 9 (μ 6 9)) 23 10 (μ 6 10)) 23 11 (μ 6 11)) 23 12 (μ 6 12)) 23 13 (μ 6 13)) c s) _
  refine rn_putI (k' := 88) rfl rfl K0_23 (by decide) rfl ?_
  refine rn_aload_n (k' := 89) rfl rfl rfl ?_
  refine rn_aload_n (k' := 90) rfl rfl rfl ?_
  refine rn_getI (k' := 91) rfl rfl K0_6 (by decide) rfl ?_
  show Rn PT none kX3_copyFrom 91 [some (mR 23), some (mR 6)] [mI (μ 6 15), mR 23] (mkh (m_set (m_set (m_set (m_set (m_set (m_set (m_set (m_set (m_upd (m_upd (m_upd (m_upd (m_upd (m_upd (m_upd μ 24 (fl (μ 7) (μ 24) 100)) 25 (fl (μ 8) (μ 25) 300)) 26 (fl (μ 9) (μ 26) 3)) 27 (fl (μ 10) (μ 27) 90)) 28 (fl (μ 11) (μ 28) 8)) 29 (fl (μ 12) (μ 29) 8)) 30 (fl (μ 13) (μ 30) 8)) 23 7 (μ 6 7)) 23 8 (μ 6 8)) 23 9 (μ 6 9)) 23 10 (μ 6 10)) 23 11 (μ 6 11)) 23 12 (μ 6 12)) 23 13 (μ 6 13)) 23 14 (μ 6 14)) c s) _
  refine rn_putI (k' := 92) rfl rfl K0_23 (by decide) rfl ?_
  refine rn_aload_n (k' := 93) rfl rfl rfl ?_
  refine rn_aload_n (k' := 94) rfl rfl rfl ?_
  refine rn_getZ (k' := 95) rfl rfl K0_6 (by decide) rfl ?_
  show Rn PT none kX3_copyFrom 95 [some (mR 23), some (mR 6)] [mI (μ 6 16), mR 23] (mkh (m_set (m_set (m_set (m_set (m_set (m_set (m_set (m_set (m_set (m_upd (m_upd (m_upd (m_upd (m_upd (m_upd (m_upd μ 24 (fl (μ 7) (μ 24) 100)) 25 (fl (μ 8) (μ 25) 300)) 26 (fl (μ 9) (μ 26) 3)) 27 (fl (μ 10) (μ 27) 90)) 28 (fl (μ 11) (μ 28) 8)) 29 (fl (μ 12) (μ 29) 8)) 30 (fl (μ 13) (μ 30) 8)) 23 7 (μ 6 7)) 23 8 (μ 6 8)) 23 9 (μ 6 9)) 23 10 (μ 6 10)) 23 11 (μ 6 11)) 23 12 (μ 6 12)) 23 13 (μ 6 13)) 23 14 (μ 6 14)) 23 15 (μ 6 15)) c s) _
  refine rn_putZ (k' := 96) rfl rfl K0_23 (by decide) rfl (by omega) ?_
  refine rn_aload_n (k' := 97) rfl rfl rfl ?_
  refine rn_aload_n (k' := 98) rfl rfl rfl ?_
  refine rn_getZ (k' := 99) rfl rfl K0_6 (by decide) rfl ?_
  show Rn PT none kX3_copyFrom 99 [some (mR 23), some (mR 6)] [mI (μ 6 17), mR 23] (mkh (m_set (m_set (m_set (m_set (m_set (m_set (m_set (m_set (m_set (m_set (m_upd (m_upd (m_upd (m_upd (m_upd (m_upd (m_upd μ 24 (fl (μ 7) (μ 24) 100)) 25 (fl (μ 8) (μ 25) 300)) 26 (fl (μ 9) (μ 26) 3)) 27 (fl (μ 10) (μ 27) 90)) 28 (fl (μ 11) (μ 28) 8)) 29 (fl (μ 12) (μ 29) 8)) 30 (fl (μ 13) (μ 30) 8)) 23 7 (μ 6 7)) 23 8 (μ 6 8)) 23 9 (μ 6 9)) 23 10 (μ 6 10)) 23 11 (μ 6 11)) 23 12 (μ 6 12)) 23 13 (μ 6 13)) 23 14 (μ 6 14)) 23 15 (μ 6 15)) 23 16 (μ 6 16)) c s) _
  refine rn_putZ (k' := 100) rfl rfl K0_23 (by decide) rfl (by omega) ?_
  refine rn_vret rfl ?_
  exact congrArg (fun z => ((some none : Option (Option MV)), mkh z c s)) (sets11 (d := 23))
set_option maxHeartbeats 2000000 in
theorem c_lcopy_39_6 {μ : Nat → Nat → Int} {c s : Nat} (hb1 : μ 6 16 = 0 ∨ μ 6 16 = 1) (hb2 : μ 6 17 = 0 ∨ μ 6 17 = 1) : Cl PT 28 [mR 39, mR 6] (mkh μ c s) (fun r => r = (some none, mkh (lcp μ 39 6) c s)) := by
  refine ⟨_, PT_28, Nat.le_of_ble_eq_true rfl, ?_⟩
  show Rn PT none kX3_copyFrom 0 [some (mR 39), some (mR 6)] [] (mkh μ c s) _
  refine rn_aload_n (k' := 1) rfl rfl rfl ?_
  refine rn_getR (k' := 2) rfl rfl K0_6 (by decide) rfl R0_6_0 ?_
  refine rn_iconst (k' := 3) rfl rfl ?_
  refine rn_aload_n (k' := 4) rfl rfl rfl ?_
  refine rn_getR (k' := 5) rfl rfl K0_39 (by decide) rfl R0_39_0 ?_
  refine rn_iconst (k' := 6) rfl rfl ?_
  refine rn_bipush (k' := 7) rfl rfl ?_
  refine rn_cpy (k' := 8) rfl rfl K0_7 K0_40 (by decide) (Nat.le_of_ble_eq_true rfl) ?_
  show Rn PT none kX3_copyFrom 8 [some (mR 39), some (mR 6)] [] (mkh (m_upd μ 40 (fl (μ 7) (μ 40) 100)) c s) _
  refine rn_aload_n (k' := 9) rfl rfl rfl ?_
  refine rn_getR (k' := 10) rfl rfl K0_6 (by decide) rfl R0_6_1 ?_
  refine rn_iconst (k' := 11) rfl rfl ?_
  refine rn_aload_n (k' := 12) rfl rfl rfl ?_
  refine rn_getR (k' := 13) rfl rfl K0_39 (by decide) rfl R0_39_1 ?_
  refine rn_iconst (k' := 14) rfl rfl ?_
  refine rn_sipush (k' := 15) rfl rfl ?_
  refine rn_cpy (k' := 16) rfl rfl K0_8 K0_41 (by decide) (Nat.le_of_ble_eq_true rfl) ?_
  show Rn PT none kX3_copyFrom 16 [some (mR 39), some (mR 6)] [] (mkh (m_upd (m_upd μ 40 (fl (μ 7) (μ 40) 100)) 41 (fl (μ 8) (μ 41) 300)) c s) _
  refine rn_aload_n (k' := 17) rfl rfl rfl ?_
  refine rn_getR (k' := 18) rfl rfl K0_6 (by decide) rfl R0_6_2 ?_
  refine rn_iconst (k' := 19) rfl rfl ?_
  refine rn_aload_n (k' := 20) rfl rfl rfl ?_
  refine rn_getR (k' := 21) rfl rfl K0_39 (by decide) rfl R0_39_2 ?_
  refine rn_iconst (k' := 22) rfl rfl ?_
  refine rn_iconst (k' := 23) rfl rfl ?_
  refine rn_cpy (k' := 24) rfl rfl K0_9 K0_42 (by decide) (Nat.le_of_ble_eq_true rfl) ?_
  show Rn PT none kX3_copyFrom 24 [some (mR 39), some (mR 6)] [] (mkh (m_upd (m_upd (m_upd μ 40 (fl (μ 7) (μ 40) 100)) 41 (fl (μ 8) (μ 41) 300)) 42 (fl (μ 9) (μ 42) 3)) c s) _
  refine rn_aload_n (k' := 25) rfl rfl rfl ?_
  refine rn_getR (k' := 26) rfl rfl K0_6 (by decide) rfl R0_6_3 ?_
  refine rn_iconst (k' := 27) rfl rfl ?_
  refine rn_aload_n (k' := 28) rfl rfl rfl ?_
  refine rn_getR (k' := 29) rfl rfl K0_39 (by decide) rfl R0_39_3 ?_
  refine rn_iconst (k' := 30) rfl rfl ?_
  refine rn_bipush (k' := 31) rfl rfl ?_
  refine rn_cpy (k' := 32) rfl rfl K0_10 K0_43 (by decide) (Nat.le_of_ble_eq_true rfl) ?_
  show Rn PT none kX3_copyFrom 32 [some (mR 39), some (mR 6)] [] (mkh (m_upd (m_upd (m_upd (m_upd μ 40 (fl (μ 7) (μ 40) 100)) 41 (fl (μ 8) (μ 41) 300)) 42 (fl (μ 9) (μ 42) 3)) 43 (fl (μ 10) (μ 43) 90)) c s) _
  refine rn_aload_n (k' := 33) rfl rfl rfl ?_
  refine rn_getR (k' := 34) rfl rfl K0_6 (by decide) rfl R0_6_4 ?_
  refine rn_iconst (k' := 35) rfl rfl ?_
  refine rn_aload_n (k' := 36) rfl rfl rfl ?_
  refine rn_getR (k' := 37) rfl rfl K0_39 (by decide) rfl R0_39_4 ?_
  refine rn_iconst (k' := 38) rfl rfl ?_
  refine rn_bipush (k' := 39) rfl rfl ?_
  refine rn_cpy (k' := 40) rfl rfl K0_11 K0_44 (by decide) (Nat.le_of_ble_eq_true rfl) ?_
  show Rn PT none kX3_copyFrom 40 [some (mR 39), some (mR 6)] [] (mkh (m_upd (m_upd (m_upd (m_upd (m_upd μ 40 (fl (μ 7) (μ 40) 100)) 41 (fl (μ 8) (μ 41) 300)) 42 (fl (μ 9) (μ 42) 3)) 43 (fl (μ 10) (μ 43) 90)) 44 (fl (μ 11) (μ 44) 8)) c s) _
  refine rn_aload_n (k' := 41) rfl rfl rfl ?_
  refine rn_getR (k' := 42) rfl rfl K0_6 (by decide) rfl R0_6_5 ?_
  refine rn_iconst (k' := 43) rfl rfl ?_
  refine rn_aload_n (k' := 44) rfl rfl rfl ?_
  refine rn_getR (k' := 45) rfl rfl K0_39 (by decide) rfl R0_39_5 ?_
  refine rn_iconst (k' := 46) rfl rfl ?_
  refine rn_bipush (k' := 47) rfl rfl ?_
  refine rn_cpy (k' := 48) rfl rfl K0_12 K0_45 (by decide) (Nat.le_of_ble_eq_true rfl) ?_
  show Rn PT none kX3_copyFrom 48 [some (mR 39), some (mR 6)] [] (mkh (m_upd (m_upd (m_upd (m_upd (m_upd (m_upd μ 40 (fl (μ 7) (μ 40) 100)) 41 (fl (μ 8) (μ 41) 300)) 42 (fl (μ 9) (μ 42) 3)) 43 (fl (μ 10) (μ 43) 90)) 44 (fl (μ 11) (μ 44) 8)) 45 (fl (μ 12) (μ 45) 8)) c s) _
  refine rn_aload_n (k' := 49) rfl rfl rfl ?_
  refine rn_getR (k' := 50) rfl rfl K0_6 (by decide) rfl R0_6_6 ?_
  refine rn_iconst (k' := 51) rfl rfl ?_
  refine rn_aload_n (k' := 52) rfl rfl rfl ?_
  refine rn_getR (k' := 53) rfl rfl K0_39 (by decide) rfl R0_39_6 ?_
  refine rn_iconst (k' := 54) rfl rfl ?_
  refine rn_bipush (k' := 55) rfl rfl ?_
  refine rn_cpy (k' := 56) rfl rfl K0_13 K0_46 (by decide) (Nat.le_of_ble_eq_true rfl) ?_
  show Rn PT none kX3_copyFrom 56 [some (mR 39), some (mR 6)] [] (mkh (m_upd (m_upd (m_upd (m_upd (m_upd (m_upd (m_upd μ 40 (fl (μ 7) (μ 40) 100)) 41 (fl (μ 8) (μ 41) 300)) 42 (fl (μ 9) (μ 42) 3)) 43 (fl (μ 10) (μ 43) 90)) 44 (fl (μ 11) (μ 44) 8)) 45 (fl (μ 12) (μ 45) 8)) 46 (fl (μ 13) (μ 46) 8)) c s) _
  refine rn_aload_n (k' := 57) rfl rfl rfl ?_
  refine rn_aload_n (k' := 58) rfl rfl rfl ?_
  refine rn_getI (k' := 59) rfl rfl K0_6 (by decide) rfl ?_
  show Rn PT none kX3_copyFrom 59 [some (mR 39), some (mR 6)] [mI (μ 6 7), mR 39] (mkh (m_upd (m_upd (m_upd (m_upd (m_upd (m_upd (m_upd μ 40 (fl (μ 7) (μ 40) 100)) 41 (fl (μ 8) (μ 41) 300)) 42 (fl (μ 9) (μ 42) 3)) 43 (fl (μ 10) (μ 43) 90)) 44 (fl (μ 11) (μ 44) 8)) 45 (fl (μ 12) (μ 45) 8)) 46 (fl (μ 13) (μ 46) 8)) c s) _
  refine rn_putI (k' := 60) rfl rfl K0_39 (by decide) rfl ?_
  refine rn_aload_n (k' := 61) rfl rfl rfl ?_
  refine rn_aload_n (k' := 62) rfl rfl rfl ?_
  refine rn_getI (k' := 63) rfl rfl K0_6 (by decide) rfl ?_
  show Rn PT none kX3_copyFrom 63 [some (mR 39), some (mR 6)] [mI (μ 6 8), mR 39] (mkh (m_set (m_upd (m_upd (m_upd (m_upd (m_upd (m_upd (m_upd μ 40 (fl (μ 7) (μ 40) 100)) 41 (fl (μ 8) (μ 41) 300)) 42 (fl (μ 9) (μ 42) 3)) 43 (fl (μ 10) (μ 43) 90)) 44 (fl (μ 11) (μ 44) 8)) 45 (fl (μ 12) (μ 45) 8)) 46 (fl (μ 13) (μ 46) 8)) 39 7 (μ 6 7)) c s) _
  refine rn_putI (k' := 64) rfl rfl K0_39 (by decide) rfl ?_
  refine rn_aload_n (k' := 65) rfl rfl rfl ?_
  refine rn_aload_n (k' := 66) rfl rfl rfl ?_
  refine rn_getI (k' := 67) rfl rfl K0_6 (by decide) rfl ?_
  show Rn PT none kX3_copyFrom 67 [some (mR 39), some (mR 6)] [mI (μ 6 9), mR 39] (mkh (m_set (m_set (m_upd (m_upd (m_upd (m_upd (m_upd (m_upd (m_upd μ 40 (fl (μ 7) (μ 40) 100)) 41 (fl (μ 8) (μ 41) 300)) 42 (fl (μ 9) (μ 42) 3)) 43 (fl (μ 10) (μ 43) 90)) 44 (fl (μ 11) (μ 44) 8)) 45 (fl (μ 12) (μ 45) 8)) 46 (fl (μ 13) (μ 46) 8)) 39 7 (μ 6 7)) 39 8 (μ 6 8)) c s) _
  refine rn_putI (k' := 68) rfl rfl K0_39 (by decide) rfl ?_
  refine rn_aload_n (k' := 69) rfl rfl rfl ?_
  refine rn_aload_n (k' := 70) rfl rfl rfl ?_
  refine rn_getI (k' := 71) rfl rfl K0_6 (by decide) rfl ?_
  show Rn PT none kX3_copyFrom 71 [some (mR 39), some (mR 6)] [mI (μ 6 10), mR 39] (mkh (m_set (m_set (m_set (m_upd (m_upd (m_upd (m_upd (m_upd (m_upd (m_upd μ 40 (fl (μ 7) (μ 40) 100)) 41 (fl (μ 8) (μ 41) 300)) 42 (fl (μ 9) (μ 42) 3)) 43 (fl (μ 10) (μ 43) 90)) 44 (fl (μ 11) (μ 44) 8)) 45 (fl (μ 12) (μ 45) 8)) 46 (fl (μ 13) (μ 46) 8)) 39 7 (μ 6 7)) 39 8 (μ 6 8)) 39 9 (μ 6 9)) c s) _
  refine rn_putI (k' := 72) rfl rfl K0_39 (by decide) rfl ?_
  refine rn_aload_n (k' := 73) rfl rfl rfl ?_
  refine rn_aload_n (k' := 74) rfl rfl rfl ?_
  refine rn_getI (k' := 75) rfl rfl K0_6 (by decide) rfl ?_
  show Rn PT none kX3_copyFrom 75 [some (mR 39), some (mR 6)] [mI (μ 6 11), mR 39] (mkh (m_set (m_set (m_set (m_set (m_upd (m_upd (m_upd (m_upd (m_upd (m_upd (m_upd μ 40 (fl (μ 7) (μ 40) 100)) 41 (fl (μ 8) (μ 41) 300)) 42 (fl (μ 9) (μ 42) 3)) 43 (fl (μ 10) (μ 43) 90)) 44 (fl (μ 11) (μ 44) 8)) 45 (fl (μ 12) (μ 45) 8)) 46 (fl (μ 13) (μ 46) 8)) 39 7 (μ 6 7)) 39 8 (μ 6 8)) 39 9 (μ 6 9)) 39 10 (μ 6 10)) c s) _
  refine rn_putI (k' := 76) rfl rfl K0_39 (by decide) rfl ?_
  refine rn_aload_n (k' := 77) rfl rfl rfl ?_
  refine rn_aload_n (k' := 78) rfl rfl rfl ?_
  refine rn_getI (k' := 79) rfl rfl K0_6 (by decide) rfl ?_
  show Rn PT none kX3_copyFrom 79 [some (mR 39), some (mR 6)] [mI (μ 6 12), mR 39] (mkh (m_set (m_set (m_set (m_set (m_set (m_upd (m_upd (m_upd (m_upd (m_upd (m_upd (m_upd μ 40 (fl (μ 7) (μ 40) 100)) 41 (fl (μ 8) (μ 41) 300)) 42 (fl (μ 9) (μ 42) 3)) 43 (fl (μ 10) (μ 43) 90)) 44 (fl (μ 11) (μ 44) 8)) 45 (fl (μ 12) (μ 45) 8)) 46 (fl (μ 13) (μ 46) 8)) 39 7 (μ 6 7)) 39 8 (μ 6 8)) 39 9 (μ 6 9)) 39 10 (μ 6 10)) 39 11 (μ 6 11)) c s) _
  refine rn_putI (k' := 80) rfl rfl K0_39 (by decide) rfl ?_
  refine rn_aload_n (k' := 81) rfl rfl rfl ?_
  refine rn_aload_n (k' := 82) rfl rfl rfl ?_
  refine rn_getI (k' := 83) rfl rfl K0_6 (by decide) rfl ?_
  show Rn PT none kX3_copyFrom 83 [some (mR 39), some (mR 6)] [mI (μ 6 13), mR 39] (mkh (m_set (m_set (m_set (m_set (m_set (m_set (m_upd (m_upd (m_upd (m_upd (m_upd (m_upd (m_upd μ 40 (fl (μ 7) (μ 40) 100)) 41 (fl (μ 8) (μ 41) 300)) 42 (fl (μ 9) (μ 42) 3)) 43 (fl (μ 10) (μ 43) 90)) 44 (fl (μ 11) (μ 44) 8)) 45 (fl (μ 12) (μ 45) 8)) 46 (fl (μ 13) (μ 46) 8)) 39 7 (μ 6 7)) 39 8 (μ 6 8)) 39 9 (μ 6 9)) 39 10 (μ 6 10)) 39 11 (μ 6 11)) 39 12 (μ 6 12)) c s) _
  refine rn_putI (k' := 84) rfl rfl K0_39 (by decide) rfl ?_
  refine rn_aload_n (k' := 85) rfl rfl rfl ?_
  refine rn_aload_n (k' := 86) rfl rfl rfl ?_
  refine rn_getI (k' := 87) rfl rfl K0_6 (by decide) rfl ?_
  show Rn PT none kX3_copyFrom 87 [some (mR 39), some (mR 6)] [mI (μ 6 14), mR 39] (mkh (m_set (m_set (m_set (m_set (m_set (m_set (m_set (m_upd (m_upd (m_upd (m_upd (m_upd (m_upd (m_upd μ 40 (fl (μ 7) (μ 40) 100)) 41 (fl (μ 8) (μ 41) 300)) 42 (fl (μ 9) (μ 42) 3)) 43 (fl (μ 10) (μ 43) 90)) 44 (fl (μ 11) (μ 44) 8)) 45 (fl (μ 12) (μ 45) 8)) 46 (fl (μ 13) (μ 46) 8)) 39 7 (μ 6 7)) 39 8 (μ 6 8)) 39 9 (μ 6 9)) 39 10 (μ 6 10)) 39 11 (μ 6 11)) 39 12 (μ 6 12)) 39 13 (μ 6 13)) c s) _
  refine rn_putI (k' := 88) rfl rfl K0_39 (by decide) rfl ?_
  refine rn_aload_n (k' := 89) rfl rfl rfl ?_
  refine rn_aload_n (k' := 90) rfl rfl rfl ?_
  refine rn_getI (k' := 91) rfl rfl K0_6 (by decide) rfl ?_
  show Rn PT none kX3_copyFrom 91 [some (mR 39), some (mR 6)] [mI (μ 6 15), mR 39] (mkh (m_set (m_set (m_set (m_set (m_set (m_set (m_set (m_set (m_upd (m_upd (m_upd (m_upd (m_upd (m_upd (m_upd μ 40 (fl (μ 7) (μ 40) 100)) 41 (fl (μ 8) (μ 41) 300)) 42 (fl (μ 9) (μ 42) 3)) 43 (fl (μ 10) (μ 43) 90)) 44 (fl (μ 11) (μ 44) 8)) 45 (fl (μ 12) (μ 45) 8)) 46 (fl (μ 13) (μ 46) 8)) 39 7 (μ 6 7)) 39 8 (μ 6 8)) 39 9 (μ 6 9)) 39 10 (μ 6 10)) 39 11 (μ 6 11)) 39 12 (μ 6 12)) 39 13 (μ 6 13)) 39 14 (μ 6 14)) c s) _
  refine rn_putI (k' := 92) rfl rfl K0_39 (by decide) rfl ?_
  refine rn_aload_n (k' := 93) rfl rfl rfl ?_
  refine rn_aload_n (k' := 94) rfl rfl rfl ?_
  refine rn_getZ (k' := 95) rfl rfl K0_6 (by decide) rfl ?_
  show Rn PT none kX3_copyFrom 95 [some (mR 39), some (mR 6)] [mI (μ 6 16), mR 39] (mkh (m_set (m_set (m_set (m_set (m_set (m_set (m_set (m_set (m_set (m_upd (m_upd (m_upd (m_upd (m_upd (m_upd (m_upd μ 40 (fl (μ 7) (μ 40) 100)) 41 (fl (μ 8) (μ 41) 300)) 42 (fl (μ 9) (μ 42) 3)) 43 (fl (μ 10) (μ 43) 90)) 44 (fl (μ 11) (μ 44) 8)) 45 (fl (μ 12) (μ 45) 8)) 46 (fl (μ 13) (μ 46) 8)) 39 7 (μ 6 7)) 39 8 (μ 6 8)) 39 9 (μ 6 9)) 39 10 (μ 6 10)) 39 11 (μ 6 11)) 39 12 (μ 6 12)) 39 13 (μ 6 13)) 39 14 (μ 6 14)) 39 15 (μ 6 15)) c s) _
  refine rn_putZ (k' := 96) rfl rfl K0_39 (by decide) rfl (by omega) ?_
  refine rn_aload_n (k' := 97) rfl rfl rfl ?_
  refine rn_aload_n (k' := 98) rfl rfl rfl ?_
  refine rn_getZ (k' := 99) rfl rfl K0_6 (by decide) rfl ?_
  show Rn PT none kX3_copyFrom 99 [some (mR 39), some (mR 6)] [mI (μ 6 17), mR 39] (mkh (m_set (m_set (m_set (m_set (m_set (m_set (m_set (m_set (m_set (m_set (m_upd (m_upd (m_upd (m_upd (m_upd (m_upd (m_upd μ 40 (fl (μ 7) (μ 40) 100)) 41 (fl (μ 8) (μ 41) 300)) 42 (fl (μ 9) (μ 42) 3)) 43 (fl (μ 10) (μ 43) 90)) 44 (fl (μ 11) (μ 44) 8)) 45 (fl (μ 12) (μ 45) 8)) 46 (fl (μ 13) (μ 46) 8)) 39 7 (μ 6 7)) 39 8 (μ 6 8)) 39 9 (μ 6 9)) 39 10 (μ 6 10)) 39 11 (μ 6 11)) 39 12 (μ 6 12)) 39 13 (μ 6 13)) 39 14 (μ 6 14)) 39 15 (μ 6 15)) 39 16 (μ 6 16)) c s) _
  refine rn_putZ (k' := 100) rfl rfl K0_39 (by decide) rfl (by omega) ?_
  refine rn_vret rfl ?_
  exact congrArg (fun z => ((some none : Option (Option MV)), mkh z c s)) (sets11 (d := 39))
set_option maxHeartbeats 2000000 in
theorem c_lcopy_6_23 {μ : Nat → Nat → Int} {c s : Nat} (hb1 : μ 23 16 = 0 ∨ μ 23 16 = 1) (hb2 : μ 23 17 = 0 ∨ μ 23 17 = 1) : Cl PT 28 [mR 6, mR 23] (mkh μ c s) (fun r => r = (some none, mkh (lcp μ 6 23) c s)) := by
  refine ⟨_, PT_28, Nat.le_of_ble_eq_true rfl, ?_⟩
  show Rn PT none kX3_copyFrom 0 [some (mR 6), some (mR 23)] [] (mkh μ c s) _
  refine rn_aload_n (k' := 1) rfl rfl rfl ?_
  refine rn_getR (k' := 2) rfl rfl K0_23 (by decide) rfl R0_23_0 ?_
  refine rn_iconst (k' := 3) rfl rfl ?_
  refine rn_aload_n (k' := 4) rfl rfl rfl ?_
  refine rn_getR (k' := 5) rfl rfl K0_6 (by decide) rfl R0_6_0 ?_
  refine rn_iconst (k' := 6) rfl rfl ?_
  refine rn_bipush (k' := 7) rfl rfl ?_
  refine rn_cpy (k' := 8) rfl rfl K0_24 K0_7 (by decide) (Nat.le_of_ble_eq_true rfl) ?_
  show Rn PT none kX3_copyFrom 8 [some (mR 6), some (mR 23)] [] (mkh (m_upd μ 7 (fl (μ 24) (μ 7) 100)) c s) _
  refine rn_aload_n (k' := 9) rfl rfl rfl ?_
  refine rn_getR (k' := 10) rfl rfl K0_23 (by decide) rfl R0_23_1 ?_
  refine rn_iconst (k' := 11) rfl rfl ?_
  refine rn_aload_n (k' := 12) rfl rfl rfl ?_
  refine rn_getR (k' := 13) rfl rfl K0_6 (by decide) rfl R0_6_1 ?_
  refine rn_iconst (k' := 14) rfl rfl ?_
  refine rn_sipush (k' := 15) rfl rfl ?_
  refine rn_cpy (k' := 16) rfl rfl K0_25 K0_8 (by decide) (Nat.le_of_ble_eq_true rfl) ?_
  show Rn PT none kX3_copyFrom 16 [some (mR 6), some (mR 23)] [] (mkh (m_upd (m_upd μ 7 (fl (μ 24) (μ 7) 100)) 8 (fl (μ 25) (μ 8) 300)) c s) _
  refine rn_aload_n (k' := 17) rfl rfl rfl ?_
  refine rn_getR (k' := 18) rfl rfl K0_23 (by decide) rfl R0_23_2 ?_
  refine rn_iconst (k' := 19) rfl rfl ?_
  refine rn_aload_n (k' := 20) rfl rfl rfl ?_
  refine rn_getR (k' := 21) rfl rfl K0_6 (by decide) rfl R0_6_2 ?_
  refine rn_iconst (k' := 22) rfl rfl ?_
  refine rn_iconst (k' := 23) rfl rfl ?_
  refine rn_cpy (k' := 24) rfl rfl K0_26 K0_9 (by decide) (Nat.le_of_ble_eq_true rfl) ?_
  show Rn PT none kX3_copyFrom 24 [some (mR 6), some (mR 23)] [] (mkh (m_upd (m_upd (m_upd μ 7 (fl (μ 24) (μ 7) 100)) 8 (fl (μ 25) (μ 8) 300)) 9 (fl (μ 26) (μ 9) 3)) c s) _
  refine rn_aload_n (k' := 25) rfl rfl rfl ?_
  refine rn_getR (k' := 26) rfl rfl K0_23 (by decide) rfl R0_23_3 ?_
  refine rn_iconst (k' := 27) rfl rfl ?_
  refine rn_aload_n (k' := 28) rfl rfl rfl ?_
  refine rn_getR (k' := 29) rfl rfl K0_6 (by decide) rfl R0_6_3 ?_
  refine rn_iconst (k' := 30) rfl rfl ?_
  refine rn_bipush (k' := 31) rfl rfl ?_
  refine rn_cpy (k' := 32) rfl rfl K0_27 K0_10 (by decide) (Nat.le_of_ble_eq_true rfl) ?_
  show Rn PT none kX3_copyFrom 32 [some (mR 6), some (mR 23)] [] (mkh (m_upd (m_upd (m_upd (m_upd μ 7 (fl (μ 24) (μ 7) 100)) 8 (fl (μ 25) (μ 8) 300)) 9 (fl (μ 26) (μ 9) 3)) 10 (fl (μ 27) (μ 10) 90)) c s) _
  refine rn_aload_n (k' := 33) rfl rfl rfl ?_
  refine rn_getR (k' := 34) rfl rfl K0_23 (by decide) rfl R0_23_4 ?_
  refine rn_iconst (k' := 35) rfl rfl ?_
  refine rn_aload_n (k' := 36) rfl rfl rfl ?_
  refine rn_getR (k' := 37) rfl rfl K0_6 (by decide) rfl R0_6_4 ?_
  refine rn_iconst (k' := 38) rfl rfl ?_
  refine rn_bipush (k' := 39) rfl rfl ?_
  refine rn_cpy (k' := 40) rfl rfl K0_28 K0_11 (by decide) (Nat.le_of_ble_eq_true rfl) ?_
  show Rn PT none kX3_copyFrom 40 [some (mR 6), some (mR 23)] [] (mkh (m_upd (m_upd (m_upd (m_upd (m_upd μ 7 (fl (μ 24) (μ 7) 100)) 8 (fl (μ 25) (μ 8) 300)) 9 (fl (μ 26) (μ 9) 3)) 10 (fl (μ 27) (μ 10) 90)) 11 (fl (μ 28) (μ 11) 8)) c s) _
  refine rn_aload_n (k' := 41) rfl rfl rfl ?_
  refine rn_getR (k' := 42) rfl rfl K0_23 (by decide) rfl R0_23_5 ?_
  refine rn_iconst (k' := 43) rfl rfl ?_
  refine rn_aload_n (k' := 44) rfl rfl rfl ?_
  refine rn_getR (k' := 45) rfl rfl K0_6 (by decide) rfl R0_6_5 ?_
  refine rn_iconst (k' := 46) rfl rfl ?_
  refine rn_bipush (k' := 47) rfl rfl ?_
  refine rn_cpy (k' := 48) rfl rfl K0_29 K0_12 (by decide) (Nat.le_of_ble_eq_true rfl) ?_
  show Rn PT none kX3_copyFrom 48 [some (mR 6), some (mR 23)] [] (mkh (m_upd (m_upd (m_upd (m_upd (m_upd (m_upd μ 7 (fl (μ 24) (μ 7) 100)) 8 (fl (μ 25) (μ 8) 300)) 9 (fl (μ 26) (μ 9) 3)) 10 (fl (μ 27) (μ 10) 90)) 11 (fl (μ 28) (μ 11) 8)) 12 (fl (μ 29) (μ 12) 8)) c s) _
  refine rn_aload_n (k' := 49) rfl rfl rfl ?_
  refine rn_getR (k' := 50) rfl rfl K0_23 (by decide) rfl R0_23_6 ?_
  refine rn_iconst (k' := 51) rfl rfl ?_
  refine rn_aload_n (k' := 52) rfl rfl rfl ?_
  refine rn_getR (k' := 53) rfl rfl K0_6 (by decide) rfl R0_6_6 ?_
  refine rn_iconst (k' := 54) rfl rfl ?_
  refine rn_bipush (k' := 55) rfl rfl ?_
  refine rn_cpy (k' := 56) rfl rfl K0_30 K0_13 (by decide) (Nat.le_of_ble_eq_true rfl) ?_
  show Rn PT none kX3_copyFrom 56 [some (mR 6), some (mR 23)] [] (mkh (m_upd (m_upd (m_upd (m_upd (m_upd (m_upd (m_upd μ 7 (fl (μ 24) (μ 7) 100)) 8 (fl (μ 25) (μ 8) 300)) 9 (fl (μ 26) (μ 9) 3)) 10 (fl (μ 27) (μ 10) 90)) 11 (fl (μ 28) (μ 11) 8)) 12 (fl (μ 29) (μ 12) 8)) 13 (fl (μ 30) (μ 13) 8)) c s) _
  refine rn_aload_n (k' := 57) rfl rfl rfl ?_
  refine rn_aload_n (k' := 58) rfl rfl rfl ?_
  refine rn_getI (k' := 59) rfl rfl K0_23 (by decide) rfl ?_
  show Rn PT none kX3_copyFrom 59 [some (mR 6), some (mR 23)] [mI (μ 23 7), mR 6] (mkh (m_upd (m_upd (m_upd (m_upd (m_upd (m_upd (m_upd μ 7 (fl (μ 24) (μ 7) 100)) 8 (fl (μ 25) (μ 8) 300)) 9 (fl (μ 26) (μ 9) 3)) 10 (fl (μ 27) (μ 10) 90)) 11 (fl (μ 28) (μ 11) 8)) 12 (fl (μ 29) (μ 12) 8)) 13 (fl (μ 30) (μ 13) 8)) c s) _
  refine rn_putI (k' := 60) rfl rfl K0_6 (by decide) rfl ?_
  refine rn_aload_n (k' := 61) rfl rfl rfl ?_
  refine rn_aload_n (k' := 62) rfl rfl rfl ?_
  refine rn_getI (k' := 63) rfl rfl K0_23 (by decide) rfl ?_
  show Rn PT none kX3_copyFrom 63 [some (mR 6), some (mR 23)] [mI (μ 23 8), mR 6] (mkh (m_set (m_upd (m_upd (m_upd (m_upd (m_upd (m_upd (m_upd μ 7 (fl (μ 24) (μ 7) 100)) 8 (fl (μ 25) (μ 8) 300)) 9 (fl (μ 26) (μ 9) 3)) 10 (fl (μ 27) (μ 10) 90)) 11 (fl (μ 28) (μ 11) 8)) 12 (fl (μ 29) (μ 12) 8)) 13 (fl (μ 30) (μ 13) 8)) 6 7 (μ 23 7)) c s) _
  refine rn_putI (k' := 64) rfl rfl K0_6 (by decide) rfl ?_
  refine rn_aload_n (k' := 65) rfl rfl rfl ?_
  refine rn_aload_n (k' := 66) rfl rfl rfl ?_
  refine rn_getI (k' := 67) rfl rfl K0_23 (by decide) rfl ?_
  show Rn PT none kX3_copyFrom 67 [some (mR 6), some (mR 23)] [mI (μ 23 9), mR 6] (mkh (m_set (m_set (m_upd (m_upd (m_upd (m_upd (m_upd (m_upd (m_upd μ 7 (fl (μ 24) (μ 7) 100)) 8 (fl (μ 25) (μ 8) 300)) 9 (fl (μ 26) (μ 9) 3)) 10 (fl (μ 27) (μ 10) 90)) 11 (fl (μ 28) (μ 11) 8)) 12 (fl (μ 29) (μ 12) 8)) 13 (fl (μ 30) (μ 13) 8)) 6 7 (μ 23 7)) 6 8 (μ 23 8)) c s) _
  refine rn_putI (k' := 68) rfl rfl K0_6 (by decide) rfl ?_
  refine rn_aload_n (k' := 69) rfl rfl rfl ?_
  refine rn_aload_n (k' := 70) rfl rfl rfl ?_
  refine rn_getI (k' := 71) rfl rfl K0_23 (by decide) rfl ?_
  show Rn PT none kX3_copyFrom 71 [some (mR 6), some (mR 23)] [mI (μ 23 10), mR 6] (mkh (m_set (m_set (m_set (m_upd (m_upd (m_upd (m_upd (m_upd (m_upd (m_upd μ 7 (fl (μ 24) (μ 7) 100)) 8 (fl (μ 25) (μ 8) 300)) 9 (fl (μ 26) (μ 9) 3)) 10 (fl (μ 27) (μ 10) 90)) 11 (fl (μ 28) (μ 11) 8)) 12 (fl (μ 29) (μ 12) 8)) 13 (fl (μ 30) (μ 13) 8)) 6 7 (μ 23 7)) 6 8 (μ 23 8)) 6 9 (μ 23 9)) c s) _
  refine rn_putI (k' := 72) rfl rfl K0_6 (by decide) rfl ?_
  refine rn_aload_n (k' := 73) rfl rfl rfl ?_
  refine rn_aload_n (k' := 74) rfl rfl rfl ?_
  refine rn_getI (k' := 75) rfl rfl K0_23 (by decide) rfl ?_
  show Rn PT none kX3_copyFrom 75 [some (mR 6), some (mR 23)] [mI (μ 23 11), mR 6] (mkh (m_set (m_set (m_set (m_set (m_upd (m_upd (m_upd (m_upd (m_upd (m_upd (m_upd μ 7 (fl (μ 24) (μ 7) 100)) 8 (fl (μ 25) (μ 8) 300)) 9 (fl (μ 26) (μ 9) 3)) 10 (fl (μ 27) (μ 10) 90)) 11 (fl (μ 28) (μ 11) 8)) 12 (fl (μ 29) (μ 12) 8)) 13 (fl (μ 30) (μ 13) 8)) 6 7 (μ 23 7)) 6 8 (μ 23 8)) 6 9 (μ 23 9)) 6 10 (μ 23 10)) c s) _
  refine rn_putI (k' := 76) rfl rfl K0_6 (by decide) rfl ?_
  refine rn_aload_n (k' := 77) rfl rfl rfl ?_
  refine rn_aload_n (k' := 78) rfl rfl rfl ?_
  refine rn_getI (k' := 79) rfl rfl K0_23 (by decide) rfl ?_
  show Rn PT none kX3_copyFrom 79 [some (mR 6), some (mR 23)] [mI (μ 23 12), mR 6] (mkh (m_set (m_set (m_set (m_set (m_set (m_upd (m_upd (m_upd (m_upd (m_upd (m_upd (m_upd μ 7 (fl (μ 24) (μ 7) 100)) 8 (fl (μ 25) (μ 8) 300)) 9 (fl (μ 26) (μ 9) 3)) 10 (fl (μ 27) (μ 10) 90)) 11 (fl (μ 28) (μ 11) 8)) 12 (fl (μ 29) (μ 12) 8)) 13 (fl (μ 30) (μ 13) 8)) 6 7 (μ 23 7)) 6 8 (μ 23 8)) 6 9 (μ 23 9)) 6 10 (μ 23 10)) 6 11 (μ 23 11)) c s) _
  refine rn_putI (k' := 80) rfl rfl K0_6 (by decide) rfl ?_
  refine rn_aload_n (k' := 81) rfl rfl rfl ?_
  refine rn_aload_n (k' := 82) rfl rfl rfl ?_
  refine rn_getI (k' := 83) rfl rfl K0_23 (by decide) rfl ?_
  show Rn PT none kX3_copyFrom 83 [some (mR 6), some (mR 23)] [mI (μ 23 13), mR 6] (mkh (m_set (m_set (m_set (m_set (m_set (m_set (m_upd (m_upd (m_upd (m_upd (m_upd (m_upd (m_upd μ 7 (fl (μ 24) (μ 7) 100)) 8 (fl (μ 25) (μ 8) 300)) 9 (fl (μ 26) (μ 9) 3)) 10 (fl (μ 27) (μ 10) 90)) 11 (fl (μ 28) (μ 11) 8)) 12 (fl (μ 29) (μ 12) 8)) 13 (fl (μ 30) (μ 13) 8)) 6 7 (μ 23 7)) 6 8 (μ 23 8)) 6 9 (μ 23 9)) 6 10 (μ 23 10)) 6 11 (μ 23 11)) 6 12 (μ 23 12)) c s) _
  refine rn_putI (k' := 84) rfl rfl K0_6 (by decide) rfl ?_
  refine rn_aload_n (k' := 85) rfl rfl rfl ?_
  refine rn_aload_n (k' := 86) rfl rfl rfl ?_
  refine rn_getI (k' := 87) rfl rfl K0_23 (by decide) rfl ?_
  show Rn PT none kX3_copyFrom 87 [some (mR 6), some (mR 23)] [mI (μ 23 14), mR 6] (mkh (m_set (m_set (m_set (m_set (m_set (m_set (m_set (m_upd (m_upd (m_upd (m_upd (m_upd (m_upd (m_upd μ 7 (fl (μ 24) (μ 7) 100)) 8 (fl (μ 25) (μ 8) 300)) 9 (fl (μ 26) (μ 9) 3)) 10 (fl (μ 27) (μ 10) 90)) 11 (fl (μ 28) (μ 11) 8)) 12 (fl (μ 29) (μ 12) 8)) 13 (fl (μ 30) (μ 13) 8)) 6 7 (μ 23 7)) 6 8 (μ 23 8)) 6 9 (μ 23 9)) 6 10 (μ 23 10)) 6 11 (μ 23 11)) 6 12 (μ 23 12)) 6 13 (μ 23 13)) c s) _
  refine rn_putI (k' := 88) rfl rfl K0_6 (by decide) rfl ?_
  refine rn_aload_n (k' := 89) rfl rfl rfl ?_
  refine rn_aload_n (k' := 90) rfl rfl rfl ?_
  refine rn_getI (k' := 91) rfl rfl K0_23 (by decide) rfl ?_
  show Rn PT none kX3_copyFrom 91 [some (mR 6), some (mR 23)] [mI (μ 23 15), mR 6] (mkh (m_set (m_set (m_set (m_set (m_set (m_set (m_set (m_set (m_upd (m_upd (m_upd (m_upd (m_upd (m_upd (m_upd μ 7 (fl (μ 24) (μ 7) 100)) 8 (fl (μ 25) (μ 8) 300)) 9 (fl (μ 26) (μ 9) 3)) 10 (fl (μ 27) (μ 10) 90)) 11 (fl (μ 28) (μ 11) 8)) 12 (fl (μ 29) (μ 12) 8)) 13 (fl (μ 30) (μ 13) 8)) 6 7 (μ 23 7)) 6 8 (μ 23 8)) 6 9 (μ 23 9)) 6 10 (μ 23 10)) 6 11 (μ 23 11)) 6 12 (μ 23 12)) 6 13 (μ 23 13)) 6 14 (μ 23 14)) c s) _
  refine rn_putI (k' := 92) rfl rfl K0_6 (by decide) rfl ?_
  refine rn_aload_n (k' := 93) rfl rfl rfl ?_
  refine rn_aload_n (k' := 94) rfl rfl rfl ?_
  refine rn_getZ (k' := 95) rfl rfl K0_23 (by decide) rfl ?_
  show Rn PT none kX3_copyFrom 95 [some (mR 6), some (mR 23)] [mI (μ 23 16), mR 6] (mkh (m_set (m_set (m_set (m_set (m_set (m_set (m_set (m_set (m_set (m_upd (m_upd (m_upd (m_upd (m_upd (m_upd (m_upd μ 7 (fl (μ 24) (μ 7) 100)) 8 (fl (μ 25) (μ 8) 300)) 9 (fl (μ 26) (μ 9) 3)) 10 (fl (μ 27) (μ 10) 90)) 11 (fl (μ 28) (μ 11) 8)) 12 (fl (μ 29) (μ 12) 8)) 13 (fl (μ 30) (μ 13) 8)) 6 7 (μ 23 7)) 6 8 (μ 23 8)) 6 9 (μ 23 9)) 6 10 (μ 23 10)) 6 11 (μ 23 11)) 6 12 (μ 23 12)) 6 13 (μ 23 13)) 6 14 (μ 23 14)) 6 15 (μ 23 15)) c s) _
  refine rn_putZ (k' := 96) rfl rfl K0_6 (by decide) rfl (by omega) ?_
  refine rn_aload_n (k' := 97) rfl rfl rfl ?_
  refine rn_aload_n (k' := 98) rfl rfl rfl ?_
  refine rn_getZ (k' := 99) rfl rfl K0_23 (by decide) rfl ?_
  show Rn PT none kX3_copyFrom 99 [some (mR 6), some (mR 23)] [mI (μ 23 17), mR 6] (mkh (m_set (m_set (m_set (m_set (m_set (m_set (m_set (m_set (m_set (m_set (m_upd (m_upd (m_upd (m_upd (m_upd (m_upd (m_upd μ 7 (fl (μ 24) (μ 7) 100)) 8 (fl (μ 25) (μ 8) 300)) 9 (fl (μ 26) (μ 9) 3)) 10 (fl (μ 27) (μ 10) 90)) 11 (fl (μ 28) (μ 11) 8)) 12 (fl (μ 29) (μ 12) 8)) 13 (fl (μ 30) (μ 13) 8)) 6 7 (μ 23 7)) 6 8 (μ 23 8)) 6 9 (μ 23 9)) 6 10 (μ 23 10)) 6 11 (μ 23 11)) 6 12 (μ 23 12)) 6 13 (μ 23 13)) 6 14 (μ 23 14)) 6 15 (μ 23 15)) 6 16 (μ 23 16)) c s) _
  refine rn_putZ (k' := 100) rfl rfl K0_6 (by decide) rfl (by omega) ?_
  refine rn_vret rfl ?_
  exact congrArg (fun z => ((some none : Option (Option MV)), mkh z c s)) (sets11 (d := 6))
set_option maxHeartbeats 2000000 in
theorem c_lcopy_6_39 {μ : Nat → Nat → Int} {c s : Nat} (hb1 : μ 39 16 = 0 ∨ μ 39 16 = 1) (hb2 : μ 39 17 = 0 ∨ μ 39 17 = 1) : Cl PT 28 [mR 6, mR 39] (mkh μ c s) (fun r => r = (some none, mkh (lcp μ 6 39) c s)) := by
  refine ⟨_, PT_28, Nat.le_of_ble_eq_true rfl, ?_⟩
  show Rn PT none kX3_copyFrom 0 [some (mR 6), some (mR 39)] [] (mkh μ c s) _
  refine rn_aload_n (k' := 1) rfl rfl rfl ?_
  refine rn_getR (k' := 2) rfl rfl K0_39 (by decide) rfl R0_39_0 ?_
  refine rn_iconst (k' := 3) rfl rfl ?_
  refine rn_aload_n (k' := 4) rfl rfl rfl ?_
  refine rn_getR (k' := 5) rfl rfl K0_6 (by decide) rfl R0_6_0 ?_
  refine rn_iconst (k' := 6) rfl rfl ?_
  refine rn_bipush (k' := 7) rfl rfl ?_
  refine rn_cpy (k' := 8) rfl rfl K0_40 K0_7 (by decide) (Nat.le_of_ble_eq_true rfl) ?_
  show Rn PT none kX3_copyFrom 8 [some (mR 6), some (mR 39)] [] (mkh (m_upd μ 7 (fl (μ 40) (μ 7) 100)) c s) _
  refine rn_aload_n (k' := 9) rfl rfl rfl ?_
  refine rn_getR (k' := 10) rfl rfl K0_39 (by decide) rfl R0_39_1 ?_
  refine rn_iconst (k' := 11) rfl rfl ?_
  refine rn_aload_n (k' := 12) rfl rfl rfl ?_
  refine rn_getR (k' := 13) rfl rfl K0_6 (by decide) rfl R0_6_1 ?_
  refine rn_iconst (k' := 14) rfl rfl ?_
  refine rn_sipush (k' := 15) rfl rfl ?_
  refine rn_cpy (k' := 16) rfl rfl K0_41 K0_8 (by decide) (Nat.le_of_ble_eq_true rfl) ?_
  show Rn PT none kX3_copyFrom 16 [some (mR 6), some (mR 39)] [] (mkh (m_upd (m_upd μ 7 (fl (μ 40) (μ 7) 100)) 8 (fl (μ 41) (μ 8) 300)) c s) _
  refine rn_aload_n (k' := 17) rfl rfl rfl ?_
  refine rn_getR (k' := 18) rfl rfl K0_39 (by decide) rfl R0_39_2 ?_
  refine rn_iconst (k' := 19) rfl rfl ?_
  refine rn_aload_n (k' := 20) rfl rfl rfl ?_
  refine rn_getR (k' := 21) rfl rfl K0_6 (by decide) rfl R0_6_2 ?_
  refine rn_iconst (k' := 22) rfl rfl ?_
  refine rn_iconst (k' := 23) rfl rfl ?_
  refine rn_cpy (k' := 24) rfl rfl K0_42 K0_9 (by decide) (Nat.le_of_ble_eq_true rfl) ?_
  show Rn PT none kX3_copyFrom 24 [some (mR 6), some (mR 39)] [] (mkh (m_upd (m_upd (m_upd μ 7 (fl (μ 40) (μ 7) 100)) 8 (fl (μ 41) (μ 8) 300)) 9 (fl (μ 42) (μ 9) 3)) c s) _
  refine rn_aload_n (k' := 25) rfl rfl rfl ?_
  refine rn_getR (k' := 26) rfl rfl K0_39 (by decide) rfl R0_39_3 ?_
  refine rn_iconst (k' := 27) rfl rfl ?_
  refine rn_aload_n (k' := 28) rfl rfl rfl ?_
  refine rn_getR (k' := 29) rfl rfl K0_6 (by decide) rfl R0_6_3 ?_
  refine rn_iconst (k' := 30) rfl rfl ?_
  refine rn_bipush (k' := 31) rfl rfl ?_
  refine rn_cpy (k' := 32) rfl rfl K0_43 K0_10 (by decide) (Nat.le_of_ble_eq_true rfl) ?_
  show Rn PT none kX3_copyFrom 32 [some (mR 6), some (mR 39)] [] (mkh (m_upd (m_upd (m_upd (m_upd μ 7 (fl (μ 40) (μ 7) 100)) 8 (fl (μ 41) (μ 8) 300)) 9 (fl (μ 42) (μ 9) 3)) 10 (fl (μ 43) (μ 10) 90)) c s) _
  refine rn_aload_n (k' := 33) rfl rfl rfl ?_
  refine rn_getR (k' := 34) rfl rfl K0_39 (by decide) rfl R0_39_4 ?_
  refine rn_iconst (k' := 35) rfl rfl ?_
  refine rn_aload_n (k' := 36) rfl rfl rfl ?_
  refine rn_getR (k' := 37) rfl rfl K0_6 (by decide) rfl R0_6_4 ?_
  refine rn_iconst (k' := 38) rfl rfl ?_
  refine rn_bipush (k' := 39) rfl rfl ?_
  refine rn_cpy (k' := 40) rfl rfl K0_44 K0_11 (by decide) (Nat.le_of_ble_eq_true rfl) ?_
  show Rn PT none kX3_copyFrom 40 [some (mR 6), some (mR 39)] [] (mkh (m_upd (m_upd (m_upd (m_upd (m_upd μ 7 (fl (μ 40) (μ 7) 100)) 8 (fl (μ 41) (μ 8) 300)) 9 (fl (μ 42) (μ 9) 3)) 10 (fl (μ 43) (μ 10) 90)) 11 (fl (μ 44) (μ 11) 8)) c s) _
  refine rn_aload_n (k' := 41) rfl rfl rfl ?_
  refine rn_getR (k' := 42) rfl rfl K0_39 (by decide) rfl R0_39_5 ?_
  refine rn_iconst (k' := 43) rfl rfl ?_
  refine rn_aload_n (k' := 44) rfl rfl rfl ?_
  refine rn_getR (k' := 45) rfl rfl K0_6 (by decide) rfl R0_6_5 ?_
  refine rn_iconst (k' := 46) rfl rfl ?_
  refine rn_bipush (k' := 47) rfl rfl ?_
  refine rn_cpy (k' := 48) rfl rfl K0_45 K0_12 (by decide) (Nat.le_of_ble_eq_true rfl) ?_
  show Rn PT none kX3_copyFrom 48 [some (mR 6), some (mR 39)] [] (mkh (m_upd (m_upd (m_upd (m_upd (m_upd (m_upd μ 7 (fl (μ 40) (μ 7) 100)) 8 (fl (μ 41) (μ 8) 300)) 9 (fl (μ 42) (μ 9) 3)) 10 (fl (μ 43) (μ 10) 90)) 11 (fl (μ 44) (μ 11) 8)) 12 (fl (μ 45) (μ 12) 8)) c s) _
  refine rn_aload_n (k' := 49) rfl rfl rfl ?_
  refine rn_getR (k' := 50) rfl rfl K0_39 (by decide) rfl R0_39_6 ?_
  refine rn_iconst (k' := 51) rfl rfl ?_
  refine rn_aload_n (k' := 52) rfl rfl rfl ?_
  refine rn_getR (k' := 53) rfl rfl K0_6 (by decide) rfl R0_6_6 ?_
  refine rn_iconst (k' := 54) rfl rfl ?_
  refine rn_bipush (k' := 55) rfl rfl ?_
  refine rn_cpy (k' := 56) rfl rfl K0_46 K0_13 (by decide) (Nat.le_of_ble_eq_true rfl) ?_
  show Rn PT none kX3_copyFrom 56 [some (mR 6), some (mR 39)] [] (mkh (m_upd (m_upd (m_upd (m_upd (m_upd (m_upd (m_upd μ 7 (fl (μ 40) (μ 7) 100)) 8 (fl (μ 41) (μ 8) 300)) 9 (fl (μ 42) (μ 9) 3)) 10 (fl (μ 43) (μ 10) 90)) 11 (fl (μ 44) (μ 11) 8)) 12 (fl (μ 45) (μ 12) 8)) 13 (fl (μ 46) (μ 13) 8)) c s) _
  refine rn_aload_n (k' := 57) rfl rfl rfl ?_
  refine rn_aload_n (k' := 58) rfl rfl rfl ?_
  refine rn_getI (k' := 59) rfl rfl K0_39 (by decide) rfl ?_
  show Rn PT none kX3_copyFrom 59 [some (mR 6), some (mR 39)] [mI (μ 39 7), mR 6] (mkh (m_upd (m_upd (m_upd (m_upd (m_upd (m_upd (m_upd μ 7 (fl (μ 40) (μ 7) 100)) 8 (fl (μ 41) (μ 8) 300)) 9 (fl (μ 42) (μ 9) 3)) 10 (fl (μ 43) (μ 10) 90)) 11 (fl (μ 44) (μ 11) 8)) 12 (fl (μ 45) (μ 12) 8)) 13 (fl (μ 46) (μ 13) 8)) c s) _
  refine rn_putI (k' := 60) rfl rfl K0_6 (by decide) rfl ?_
  refine rn_aload_n (k' := 61) rfl rfl rfl ?_
  refine rn_aload_n (k' := 62) rfl rfl rfl ?_
  refine rn_getI (k' := 63) rfl rfl K0_39 (by decide) rfl ?_
  show Rn PT none kX3_copyFrom 63 [some (mR 6), some (mR 39)] [mI (μ 39 8), mR 6] (mkh (m_set (m_upd (m_upd (m_upd (m_upd (m_upd (m_upd (m_upd μ 7 (fl (μ 40) (μ 7) 100)) 8 (fl (μ 41) (μ 8) 300)) 9 (fl (μ 42) (μ 9) 3)) 10 (fl (μ 43) (μ 10) 90)) 11 (fl (μ 44) (μ 11) 8)) 12 (fl (μ 45) (μ 12) 8)) 13 (fl (μ 46) (μ 13) 8)) 6 7 (μ 39 7)) c s) _
  refine rn_putI (k' := 64) rfl rfl K0_6 (by decide) rfl ?_
  refine rn_aload_n (k' := 65) rfl rfl rfl ?_
  refine rn_aload_n (k' := 66) rfl rfl rfl ?_
  refine rn_getI (k' := 67) rfl rfl K0_39 (by decide) rfl ?_
  show Rn PT none kX3_copyFrom 67 [some (mR 6), some (mR 39)] [mI (μ 39 9), mR 6] (mkh (m_set (m_set (m_upd (m_upd (m_upd (m_upd (m_upd (m_upd (m_upd μ 7 (fl (μ 40) (μ 7) 100)) 8 (fl (μ 41) (μ 8) 300)) 9 (fl (μ 42) (μ 9) 3)) 10 (fl (μ 43) (μ 10) 90)) 11 (fl (μ 44) (μ 11) 8)) 12 (fl (μ 45) (μ 12) 8)) 13 (fl (μ 46) (μ 13) 8)) 6 7 (μ 39 7)) 6 8 (μ 39 8)) c s) _
  refine rn_putI (k' := 68) rfl rfl K0_6 (by decide) rfl ?_
  refine rn_aload_n (k' := 69) rfl rfl rfl ?_
  refine rn_aload_n (k' := 70) rfl rfl rfl ?_
  refine rn_getI (k' := 71) rfl rfl K0_39 (by decide) rfl ?_
  show Rn PT none kX3_copyFrom 71 [some (mR 6), some (mR 39)] [mI (μ 39 10), mR 6] (mkh (m_set (m_set (m_set (m_upd (m_upd (m_upd (m_upd (m_upd (m_upd (m_upd μ 7 (fl (μ 40) (μ 7) 100)) 8 (fl (μ 41) (μ 8) 300)) 9 (fl (μ 42) (μ 9) 3)) 10 (fl (μ 43) (μ 10) 90)) 11 (fl (μ 44) (μ 11) 8)) 12 (fl (μ 45) (μ 12) 8)) 13 (fl (μ 46) (μ 13) 8)) 6 7 (μ 39 7)) 6 8 (μ 39 8)) 6 9 (μ 39 9)) c s) _
  refine rn_putI (k' := 72) rfl rfl K0_6 (by decide) rfl ?_
  refine rn_aload_n (k' := 73) rfl rfl rfl ?_
  refine rn_aload_n (k' := 74) rfl rfl rfl ?_
  refine rn_getI (k' := 75) rfl rfl K0_39 (by decide) rfl ?_
  show Rn PT none kX3_copyFrom 75 [some (mR 6), some (mR 39)] [mI (μ 39 11), mR 6] (mkh (m_set (m_set (m_set (m_set (m_upd (m_upd (m_upd (m_upd (m_upd (m_upd (m_upd μ 7 (fl (μ 40) (μ 7) 100)) 8 (fl (μ 41) (μ 8) 300)) 9 (fl (μ 42) (μ 9) 3)) 10 (fl (μ 43) (μ 10) 90)) 11 (fl (μ 44) (μ 11) 8)) 12 (fl (μ 45) (μ 12) 8)) 13 (fl (μ 46) (μ 13) 8)) 6 7 (μ 39 7)) 6 8 (μ 39 8)) 6 9 (μ 39 9)) 6 10 (μ 39 10)) c s) _
  refine rn_putI (k' := 76) rfl rfl K0_6 (by decide) rfl ?_
  refine rn_aload_n (k' := 77) rfl rfl rfl ?_
  refine rn_aload_n (k' := 78) rfl rfl rfl ?_
  refine rn_getI (k' := 79) rfl rfl K0_39 (by decide) rfl ?_
  show Rn PT none kX3_copyFrom 79 [some (mR 6), some (mR 39)] [mI (μ 39 12), mR 6] (mkh (m_set (m_set (m_set (m_set (m_set (m_upd (m_upd (m_upd (m_upd (m_upd (m_upd (m_upd μ 7 (fl (μ 40) (μ 7) 100)) 8 (fl (μ 41) (μ 8) 300)) 9 (fl (μ 42) (μ 9) 3)) 10 (fl (μ 43) (μ 10) 90)) 11 (fl (μ 44) (μ 11) 8)) 12 (fl (μ 45) (μ 12) 8)) 13 (fl (μ 46) (μ 13) 8)) 6 7 (μ 39 7)) 6 8 (μ 39 8)) 6 9 (μ 39 9)) 6 10 (μ 39 10)) 6 11 (μ 39 11)) c s) _
  refine rn_putI (k' := 80) rfl rfl K0_6 (by decide) rfl ?_
  refine rn_aload_n (k' := 81) rfl rfl rfl ?_
  refine rn_aload_n (k' := 82) rfl rfl rfl ?_
  refine rn_getI (k' := 83) rfl rfl K0_39 (by decide) rfl ?_
  show Rn PT none kX3_copyFrom 83 [some (mR 6), some (mR 39)] [mI (μ 39 13), mR 6] (mkh (m_set (m_set (m_set (m_set (m_set (m_set (m_upd (m_upd (m_upd (m_upd (m_upd (m_upd (m_upd μ 7 (fl (μ 40) (μ 7) 100)) 8 (fl (μ 41) (μ 8) 300)) 9 (fl (μ 42) (μ 9) 3)) 10 (fl (μ 43) (μ 10) 90)) 11 (fl (μ 44) (μ 11) 8)) 12 (fl (μ 45) (μ 12) 8)) 13 (fl (μ 46) (μ 13) 8)) 6 7 (μ 39 7)) 6 8 (μ 39 8)) 6 9 (μ 39 9)) 6 10 (μ 39 10)) 6 11 (μ 39 11)) 6 12 (μ 39 12)) c s) _
  refine rn_putI (k' := 84) rfl rfl K0_6 (by decide) rfl ?_
  refine rn_aload_n (k' := 85) rfl rfl rfl ?_
  refine rn_aload_n (k' := 86) rfl rfl rfl ?_
  refine rn_getI (k' := 87) rfl rfl K0_39 (by decide) rfl ?_
  show Rn PT none kX3_copyFrom 87 [some (mR 6), some (mR 39)] [mI (μ 39 14), mR 6] (mkh (m_set (m_set (m_set (m_set (m_set (m_set (m_set (m_upd (m_upd (m_upd (m_upd (m_upd (m_upd (m_upd μ 7 (fl (μ 40) (μ 7) 100)) 8 (fl (μ 41) (μ 8) 300)) 9 (fl (μ 42) (μ 9) 3)) 10 (fl (μ 43) (μ 10) 90)) 11 (fl (μ 44) (μ 11) 8)) 12 (fl (μ 45) (μ 12) 8)) 13 (fl (μ 46) (μ 13) 8)) 6 7 (μ 39 7)) 6 8 (μ 39 8)) 6 9 (μ 39 9)) 6 10 (μ 39 10)) 6 11 (μ 39 11)) 6 12 (μ 39 12)) 6 13 (μ 39 13)) c s) _
  refine rn_putI (k' := 88) rfl rfl K0_6 (by decide) rfl ?_
  refine rn_aload_n (k' := 89) rfl rfl rfl ?_
  refine rn_aload_n (k' := 90) rfl rfl rfl ?_
  refine rn_getI (k' := 91) rfl rfl K0_39 (by decide) rfl ?_
  show Rn PT none kX3_copyFrom 91 [some (mR 6), some (mR 39)] [mI (μ 39 15), mR 6] (mkh (m_set (m_set (m_set (m_set (m_set (m_set (m_set (m_set (m_upd (m_upd (m_upd (m_upd (m_upd (m_upd (m_upd μ 7 (fl (μ 40) (μ 7) 100)) 8 (fl (μ 41) (μ 8) 300)) 9 (fl (μ 42) (μ 9) 3)) 10 (fl (μ 43) (μ 10) 90)) 11 (fl (μ 44) (μ 11) 8)) 12 (fl (μ 45) (μ 12) 8)) 13 (fl (μ 46) (μ 13) 8)) 6 7 (μ 39 7)) 6 8 (μ 39 8)) 6 9 (μ 39 9)) 6 10 (μ 39 10)) 6 11 (μ 39 11)) 6 12 (μ 39 12)) 6 13 (μ 39 13)) 6 14 (μ 39 14)) c s) _
  refine rn_putI (k' := 92) rfl rfl K0_6 (by decide) rfl ?_
  refine rn_aload_n (k' := 93) rfl rfl rfl ?_
  refine rn_aload_n (k' := 94) rfl rfl rfl ?_
  refine rn_getZ (k' := 95) rfl rfl K0_39 (by decide) rfl ?_
  show Rn PT none kX3_copyFrom 95 [some (mR 6), some (mR 39)] [mI (μ 39 16), mR 6] (mkh (m_set (m_set (m_set (m_set (m_set (m_set (m_set (m_set (m_set (m_upd (m_upd (m_upd (m_upd (m_upd (m_upd (m_upd μ 7 (fl (μ 40) (μ 7) 100)) 8 (fl (μ 41) (μ 8) 300)) 9 (fl (μ 42) (μ 9) 3)) 10 (fl (μ 43) (μ 10) 90)) 11 (fl (μ 44) (μ 11) 8)) 12 (fl (μ 45) (μ 12) 8)) 13 (fl (μ 46) (μ 13) 8)) 6 7 (μ 39 7)) 6 8 (μ 39 8)) 6 9 (μ 39 9)) 6 10 (μ 39 10)) 6 11 (μ 39 11)) 6 12 (μ 39 12)) 6 13 (μ 39 13)) 6 14 (μ 39 14)) 6 15 (μ 39 15)) c s) _
  refine rn_putZ (k' := 96) rfl rfl K0_6 (by decide) rfl (by omega) ?_
  refine rn_aload_n (k' := 97) rfl rfl rfl ?_
  refine rn_aload_n (k' := 98) rfl rfl rfl ?_
  refine rn_getZ (k' := 99) rfl rfl K0_39 (by decide) rfl ?_
  show Rn PT none kX3_copyFrom 99 [some (mR 6), some (mR 39)] [mI (μ 39 17), mR 6] (mkh (m_set (m_set (m_set (m_set (m_set (m_set (m_set (m_set (m_set (m_set (m_upd (m_upd (m_upd (m_upd (m_upd (m_upd (m_upd μ 7 (fl (μ 40) (μ 7) 100)) 8 (fl (μ 41) (μ 8) 300)) 9 (fl (μ 42) (μ 9) 3)) 10 (fl (μ 43) (μ 10) 90)) 11 (fl (μ 44) (μ 11) 8)) 12 (fl (μ 45) (μ 12) 8)) 13 (fl (μ 46) (μ 13) 8)) 6 7 (μ 39 7)) 6 8 (μ 39 8)) 6 9 (μ 39 9)) 6 10 (μ 39 10)) 6 11 (μ 39 11)) 6 12 (μ 39 12)) 6 13 (μ 39 13)) 6 14 (μ 39 14)) 6 15 (μ 39 15)) 6 16 (μ 39 16)) c s) _
  refine rn_putZ (k' := 100) rfl rfl K0_6 (by decide) rfl (by omega) ?_
  refine rn_vret rfl ?_
  exact congrArg (fun z => ((some none : Option (Option MV)), mkh z c s)) (sets11 (d := 6))
set_option maxHeartbeats 2000000 in
theorem c_lcopy_6_54 {μ : Nat → Nat → Int} {c s : Nat} (hb1 : μ 54 16 = 0 ∨ μ 54 16 = 1) (hb2 : μ 54 17 = 0 ∨ μ 54 17 = 1) : Cl PT 28 [mR 6, mR 54] (mkh μ c s) (fun r => r = (some none, mkh (lcp μ 6 54) c s)) := by
  refine ⟨_, PT_28, Nat.le_of_ble_eq_true rfl, ?_⟩
  show Rn PT none kX3_copyFrom 0 [some (mR 6), some (mR 54)] [] (mkh μ c s) _
  refine rn_aload_n (k' := 1) rfl rfl rfl ?_
  refine rn_getR (k' := 2) rfl rfl K0_54 (by decide) rfl R0_54_0 ?_
  refine rn_iconst (k' := 3) rfl rfl ?_
  refine rn_aload_n (k' := 4) rfl rfl rfl ?_
  refine rn_getR (k' := 5) rfl rfl K0_6 (by decide) rfl R0_6_0 ?_
  refine rn_iconst (k' := 6) rfl rfl ?_
  refine rn_bipush (k' := 7) rfl rfl ?_
  refine rn_cpy (k' := 8) rfl rfl K0_55 K0_7 (by decide) (Nat.le_of_ble_eq_true rfl) ?_
  show Rn PT none kX3_copyFrom 8 [some (mR 6), some (mR 54)] [] (mkh (m_upd μ 7 (fl (μ 55) (μ 7) 100)) c s) _
  refine rn_aload_n (k' := 9) rfl rfl rfl ?_
  refine rn_getR (k' := 10) rfl rfl K0_54 (by decide) rfl R0_54_1 ?_
  refine rn_iconst (k' := 11) rfl rfl ?_
  refine rn_aload_n (k' := 12) rfl rfl rfl ?_
  refine rn_getR (k' := 13) rfl rfl K0_6 (by decide) rfl R0_6_1 ?_
  refine rn_iconst (k' := 14) rfl rfl ?_
  refine rn_sipush (k' := 15) rfl rfl ?_
  refine rn_cpy (k' := 16) rfl rfl K0_56 K0_8 (by decide) (Nat.le_of_ble_eq_true rfl) ?_
  show Rn PT none kX3_copyFrom 16 [some (mR 6), some (mR 54)] [] (mkh (m_upd (m_upd μ 7 (fl (μ 55) (μ 7) 100)) 8 (fl (μ 56) (μ 8) 300)) c s) _
  refine rn_aload_n (k' := 17) rfl rfl rfl ?_
  refine rn_getR (k' := 18) rfl rfl K0_54 (by decide) rfl R0_54_2 ?_
  refine rn_iconst (k' := 19) rfl rfl ?_
  refine rn_aload_n (k' := 20) rfl rfl rfl ?_
  refine rn_getR (k' := 21) rfl rfl K0_6 (by decide) rfl R0_6_2 ?_
  refine rn_iconst (k' := 22) rfl rfl ?_
  refine rn_iconst (k' := 23) rfl rfl ?_
  refine rn_cpy (k' := 24) rfl rfl K0_57 K0_9 (by decide) (Nat.le_of_ble_eq_true rfl) ?_
  show Rn PT none kX3_copyFrom 24 [some (mR 6), some (mR 54)] [] (mkh (m_upd (m_upd (m_upd μ 7 (fl (μ 55) (μ 7) 100)) 8 (fl (μ 56) (μ 8) 300)) 9 (fl (μ 57) (μ 9) 3)) c s) _
  refine rn_aload_n (k' := 25) rfl rfl rfl ?_
  refine rn_getR (k' := 26) rfl rfl K0_54 (by decide) rfl R0_54_3 ?_
  refine rn_iconst (k' := 27) rfl rfl ?_
  refine rn_aload_n (k' := 28) rfl rfl rfl ?_
  refine rn_getR (k' := 29) rfl rfl K0_6 (by decide) rfl R0_6_3 ?_
  refine rn_iconst (k' := 30) rfl rfl ?_
  refine rn_bipush (k' := 31) rfl rfl ?_
  refine rn_cpy (k' := 32) rfl rfl K0_58 K0_10 (by decide) (Nat.le_of_ble_eq_true rfl) ?_
  show Rn PT none kX3_copyFrom 32 [some (mR 6), some (mR 54)] [] (mkh (m_upd (m_upd (m_upd (m_upd μ 7 (fl (μ 55) (μ 7) 100)) 8 (fl (μ 56) (μ 8) 300)) 9 (fl (μ 57) (μ 9) 3)) 10 (fl (μ 58) (μ 10) 90)) c s) _
  refine rn_aload_n (k' := 33) rfl rfl rfl ?_
  refine rn_getR (k' := 34) rfl rfl K0_54 (by decide) rfl R0_54_4 ?_
  refine rn_iconst (k' := 35) rfl rfl ?_
  refine rn_aload_n (k' := 36) rfl rfl rfl ?_
  refine rn_getR (k' := 37) rfl rfl K0_6 (by decide) rfl R0_6_4 ?_
  refine rn_iconst (k' := 38) rfl rfl ?_
  refine rn_bipush (k' := 39) rfl rfl ?_
  refine rn_cpy (k' := 40) rfl rfl K0_59 K0_11 (by decide) (Nat.le_of_ble_eq_true rfl) ?_
  show Rn PT none kX3_copyFrom 40 [some (mR 6), some (mR 54)] [] (mkh (m_upd (m_upd (m_upd (m_upd (m_upd μ 7 (fl (μ 55) (μ 7) 100)) 8 (fl (μ 56) (μ 8) 300)) 9 (fl (μ 57) (μ 9) 3)) 10 (fl (μ 58) (μ 10) 90)) 11 (fl (μ 59) (μ 11) 8)) c s) _
  refine rn_aload_n (k' := 41) rfl rfl rfl ?_
  refine rn_getR (k' := 42) rfl rfl K0_54 (by decide) rfl R0_54_5 ?_
  refine rn_iconst (k' := 43) rfl rfl ?_
  refine rn_aload_n (k' := 44) rfl rfl rfl ?_
  refine rn_getR (k' := 45) rfl rfl K0_6 (by decide) rfl R0_6_5 ?_
  refine rn_iconst (k' := 46) rfl rfl ?_
  refine rn_bipush (k' := 47) rfl rfl ?_
  refine rn_cpy (k' := 48) rfl rfl K0_60 K0_12 (by decide) (Nat.le_of_ble_eq_true rfl) ?_
  show Rn PT none kX3_copyFrom 48 [some (mR 6), some (mR 54)] [] (mkh (m_upd (m_upd (m_upd (m_upd (m_upd (m_upd μ 7 (fl (μ 55) (μ 7) 100)) 8 (fl (μ 56) (μ 8) 300)) 9 (fl (μ 57) (μ 9) 3)) 10 (fl (μ 58) (μ 10) 90)) 11 (fl (μ 59) (μ 11) 8)) 12 (fl (μ 60) (μ 12) 8)) c s) _
  refine rn_aload_n (k' := 49) rfl rfl rfl ?_
  refine rn_getR (k' := 50) rfl rfl K0_54 (by decide) rfl R0_54_6 ?_
  refine rn_iconst (k' := 51) rfl rfl ?_
  refine rn_aload_n (k' := 52) rfl rfl rfl ?_
  refine rn_getR (k' := 53) rfl rfl K0_6 (by decide) rfl R0_6_6 ?_
  refine rn_iconst (k' := 54) rfl rfl ?_
  refine rn_bipush (k' := 55) rfl rfl ?_
  refine rn_cpy (k' := 56) rfl rfl K0_61 K0_13 (by decide) (Nat.le_of_ble_eq_true rfl) ?_
  show Rn PT none kX3_copyFrom 56 [some (mR 6), some (mR 54)] [] (mkh (m_upd (m_upd (m_upd (m_upd (m_upd (m_upd (m_upd μ 7 (fl (μ 55) (μ 7) 100)) 8 (fl (μ 56) (μ 8) 300)) 9 (fl (μ 57) (μ 9) 3)) 10 (fl (μ 58) (μ 10) 90)) 11 (fl (μ 59) (μ 11) 8)) 12 (fl (μ 60) (μ 12) 8)) 13 (fl (μ 61) (μ 13) 8)) c s) _
  refine rn_aload_n (k' := 57) rfl rfl rfl ?_
  refine rn_aload_n (k' := 58) rfl rfl rfl ?_
  refine rn_getI (k' := 59) rfl rfl K0_54 (by decide) rfl ?_
  show Rn PT none kX3_copyFrom 59 [some (mR 6), some (mR 54)] [mI (μ 54 7), mR 6] (mkh (m_upd (m_upd (m_upd (m_upd (m_upd (m_upd (m_upd μ 7 (fl (μ 55) (μ 7) 100)) 8 (fl (μ 56) (μ 8) 300)) 9 (fl (μ 57) (μ 9) 3)) 10 (fl (μ 58) (μ 10) 90)) 11 (fl (μ 59) (μ 11) 8)) 12 (fl (μ 60) (μ 12) 8)) 13 (fl (μ 61) (μ 13) 8)) c s) _
  refine rn_putI (k' := 60) rfl rfl K0_6 (by decide) rfl ?_
  refine rn_aload_n (k' := 61) rfl rfl rfl ?_
  refine rn_aload_n (k' := 62) rfl rfl rfl ?_
  refine rn_getI (k' := 63) rfl rfl K0_54 (by decide) rfl ?_
  show Rn PT none kX3_copyFrom 63 [some (mR 6), some (mR 54)] [mI (μ 54 8), mR 6] (mkh (m_set (m_upd (m_upd (m_upd (m_upd (m_upd (m_upd (m_upd μ 7 (fl (μ 55) (μ 7) 100)) 8 (fl (μ 56) (μ 8) 300)) 9 (fl (μ 57) (μ 9) 3)) 10 (fl (μ 58) (μ 10) 90)) 11 (fl (μ 59) (μ 11) 8)) 12 (fl (μ 60) (μ 12) 8)) 13 (fl (μ 61) (μ 13) 8)) 6 7 (μ 54 7)) c s) _
  refine rn_putI (k' := 64) rfl rfl K0_6 (by decide) rfl ?_
  refine rn_aload_n (k' := 65) rfl rfl rfl ?_
  refine rn_aload_n (k' := 66) rfl rfl rfl ?_
  refine rn_getI (k' := 67) rfl rfl K0_54 (by decide) rfl ?_
  show Rn PT none kX3_copyFrom 67 [some (mR 6), some (mR 54)] [mI (μ 54 9), mR 6] (mkh (m_set (m_set (m_upd (m_upd (m_upd (m_upd (m_upd (m_upd (m_upd μ 7 (fl (μ 55) (μ 7) 100)) 8 (fl (μ 56) (μ 8) 300)) 9 (fl (μ 57) (μ 9) 3)) 10 (fl (μ 58) (μ 10) 90)) 11 (fl (μ 59) (μ 11) 8)) 12 (fl (μ 60) (μ 12) 8)) 13 (fl (μ 61) (μ 13) 8)) 6 7 (μ 54 7)) 6 8 (μ 54 8)) c s) _
  refine rn_putI (k' := 68) rfl rfl K0_6 (by decide) rfl ?_
  refine rn_aload_n (k' := 69) rfl rfl rfl ?_
  refine rn_aload_n (k' := 70) rfl rfl rfl ?_
  refine rn_getI (k' := 71) rfl rfl K0_54 (by decide) rfl ?_
  show Rn PT none kX3_copyFrom 71 [some (mR 6), some (mR 54)] [mI (μ 54 10), mR 6] (mkh (m_set (m_set (m_set (m_upd (m_upd (m_upd (m_upd (m_upd (m_upd (m_upd μ 7 (fl (μ 55) (μ 7) 100)) 8 (fl (μ 56) (μ 8) 300)) 9 (fl (μ 57) (μ 9) 3)) 10 (fl (μ 58) (μ 10) 90)) 11 (fl (μ 59) (μ 11) 8)) 12 (fl (μ 60) (μ 12) 8)) 13 (fl (μ 61) (μ 13) 8)) 6 7 (μ 54 7)) 6 8 (μ 54 8)) 6 9 (μ 54 9)) c s) _
  refine rn_putI (k' := 72) rfl rfl K0_6 (by decide) rfl ?_
  refine rn_aload_n (k' := 73) rfl rfl rfl ?_
  refine rn_aload_n (k' := 74) rfl rfl rfl ?_
  refine rn_getI (k' := 75) rfl rfl K0_54 (by decide) rfl ?_
  show Rn PT none kX3_copyFrom 75 [some (mR 6), some (mR 54)] [mI (μ 54 11), mR 6] (mkh (m_set (m_set (m_set (m_set (m_upd (m_upd (m_upd (m_upd (m_upd (m_upd (m_upd μ 7 (fl (μ 55) (μ 7) 100)) 8 (fl (μ 56) (μ 8) 300)) 9 (fl (μ 57) (μ 9) 3)) 10 (fl (μ 58) (μ 10) 90)) 11 (fl (μ 59) (μ 11) 8)) 12 (fl (μ 60) (μ 12) 8)) 13 (fl (μ 61) (μ 13) 8)) 6 7 (μ 54 7)) 6 8 (μ 54 8)) 6 9 (μ 54 9)) 6 10 (μ 54 10)) c s) _
  refine rn_putI (k' := 76) rfl rfl K0_6 (by decide) rfl ?_
  refine rn_aload_n (k' := 77) rfl rfl rfl ?_
  refine rn_aload_n (k' := 78) rfl rfl rfl ?_
  refine rn_getI (k' := 79) rfl rfl K0_54 (by decide) rfl ?_
  show Rn PT none kX3_copyFrom 79 [some (mR 6), some (mR 54)] [mI (μ 54 12), mR 6] (mkh (m_set (m_set (m_set (m_set (m_set (m_upd (m_upd (m_upd (m_upd (m_upd (m_upd (m_upd μ 7 (fl (μ 55) (μ 7) 100)) 8 (fl (μ 56) (μ 8) 300)) 9 (fl (μ 57) (μ 9) 3)) 10 (fl (μ 58) (μ 10) 90)) 11 (fl (μ 59) (μ 11) 8)) 12 (fl (μ 60) (μ 12) 8)) 13 (fl (μ 61) (μ 13) 8)) 6 7 (μ 54 7)) 6 8 (μ 54 8)) 6 9 (μ 54 9)) 6 10 (μ 54 10)) 6 11 (μ 54 11)) c s) _
  refine rn_putI (k' := 80) rfl rfl K0_6 (by decide) rfl ?_
  refine rn_aload_n (k' := 81) rfl rfl rfl ?_
  refine rn_aload_n (k' := 82) rfl rfl rfl ?_
  refine rn_getI (k' := 83) rfl rfl K0_54 (by decide) rfl ?_
  show Rn PT none kX3_copyFrom 83 [some (mR 6), some (mR 54)] [mI (μ 54 13), mR 6] (mkh (m_set (m_set (m_set (m_set (m_set (m_set (m_upd (m_upd (m_upd (m_upd (m_upd (m_upd (m_upd μ 7 (fl (μ 55) (μ 7) 100)) 8 (fl (μ 56) (μ 8) 300)) 9 (fl (μ 57) (μ 9) 3)) 10 (fl (μ 58) (μ 10) 90)) 11 (fl (μ 59) (μ 11) 8)) 12 (fl (μ 60) (μ 12) 8)) 13 (fl (μ 61) (μ 13) 8)) 6 7 (μ 54 7)) 6 8 (μ 54 8)) 6 9 (μ 54 9)) 6 10 (μ 54 10)) 6 11 (μ 54 11)) 6 12 (μ 54 12)) c s) _
  refine rn_putI (k' := 84) rfl rfl K0_6 (by decide) rfl ?_
  refine rn_aload_n (k' := 85) rfl rfl rfl ?_
  refine rn_aload_n (k' := 86) rfl rfl rfl ?_
  refine rn_getI (k' := 87) rfl rfl K0_54 (by decide) rfl ?_
  show Rn PT none kX3_copyFrom 87 [some (mR 6), some (mR 54)] [mI (μ 54 14), mR 6] (mkh (m_set (m_set (m_set (m_set (m_set (m_set (m_set (m_upd (m_upd (m_upd (m_upd (m_upd (m_upd (m_upd μ 7 (fl (μ 55) (μ 7) 100)) 8 (fl (μ 56) (μ 8) 300)) 9 (fl (μ 57) (μ 9) 3)) 10 (fl (μ 58) (μ 10) 90)) 11 (fl (μ 59) (μ 11) 8)) 12 (fl (μ 60) (μ 12) 8)) 13 (fl (μ 61) (μ 13) 8)) 6 7 (μ 54 7)) 6 8 (μ 54 8)) 6 9 (μ 54 9)) 6 10 (μ 54 10)) 6 11 (μ 54 11)) 6 12 (μ 54 12)) 6 13 (μ 54 13)) c s) _
  refine rn_putI (k' := 88) rfl rfl K0_6 (by decide) rfl ?_
  refine rn_aload_n (k' := 89) rfl rfl rfl ?_
  refine rn_aload_n (k' := 90) rfl rfl rfl ?_
  refine rn_getI (k' := 91) rfl rfl K0_54 (by decide) rfl ?_
  show Rn PT none kX3_copyFrom 91 [some (mR 6), some (mR 54)] [mI (μ 54 15), mR 6] (mkh (m_set (m_set (m_set (m_set (m_set (m_set (m_set (m_set (m_upd (m_upd (m_upd (m_upd (m_upd (m_upd (m_upd μ 7 (fl (μ 55) (μ 7) 100)) 8 (fl (μ 56) (μ 8) 300)) 9 (fl (μ 57) (μ 9) 3)) 10 (fl (μ 58) (μ 10) 90)) 11 (fl (μ 59) (μ 11) 8)) 12 (fl (μ 60) (μ 12) 8)) 13 (fl (μ 61) (μ 13) 8)) 6 7 (μ 54 7)) 6 8 (μ 54 8)) 6 9 (μ 54 9)) 6 10 (μ 54 10)) 6 11 (μ 54 11)) 6 12 (μ 54 12)) 6 13 (μ 54 13)) 6 14 (μ 54 14)) c s) _
  refine rn_putI (k' := 92) rfl rfl K0_6 (by decide) rfl ?_
  refine rn_aload_n (k' := 93) rfl rfl rfl ?_
  refine rn_aload_n (k' := 94) rfl rfl rfl ?_
  refine rn_getZ (k' := 95) rfl rfl K0_54 (by decide) rfl ?_
  show Rn PT none kX3_copyFrom 95 [some (mR 6), some (mR 54)] [mI (μ 54 16), mR 6] (mkh (m_set (m_set (m_set (m_set (m_set (m_set (m_set (m_set (m_set (m_upd (m_upd (m_upd (m_upd (m_upd (m_upd (m_upd μ 7 (fl (μ 55) (μ 7) 100)) 8 (fl (μ 56) (μ 8) 300)) 9 (fl (μ 57) (μ 9) 3)) 10 (fl (μ 58) (μ 10) 90)) 11 (fl (μ 59) (μ 11) 8)) 12 (fl (μ 60) (μ 12) 8)) 13 (fl (μ 61) (μ 13) 8)) 6 7 (μ 54 7)) 6 8 (μ 54 8)) 6 9 (μ 54 9)) 6 10 (μ 54 10)) 6 11 (μ 54 11)) 6 12 (μ 54 12)) 6 13 (μ 54 13)) 6 14 (μ 54 14)) 6 15 (μ 54 15)) c s) _
  refine rn_putZ (k' := 96) rfl rfl K0_6 (by decide) rfl (by omega) ?_
  refine rn_aload_n (k' := 97) rfl rfl rfl ?_
  refine rn_aload_n (k' := 98) rfl rfl rfl ?_
  refine rn_getZ (k' := 99) rfl rfl K0_54 (by decide) rfl ?_
  show Rn PT none kX3_copyFrom 99 [some (mR 6), some (mR 54)] [mI (μ 54 17), mR 6] (mkh (m_set (m_set (m_set (m_set (m_set (m_set (m_set (m_set (m_set (m_set (m_upd (m_upd (m_upd (m_upd (m_upd (m_upd (m_upd μ 7 (fl (μ 55) (μ 7) 100)) 8 (fl (μ 56) (μ 8) 300)) 9 (fl (μ 57) (μ 9) 3)) 10 (fl (μ 58) (μ 10) 90)) 11 (fl (μ 59) (μ 11) 8)) 12 (fl (μ 60) (μ 12) 8)) 13 (fl (μ 61) (μ 13) 8)) 6 7 (μ 54 7)) 6 8 (μ 54 8)) 6 9 (μ 54 9)) 6 10 (μ 54 10)) 6 11 (μ 54 11)) 6 12 (μ 54 12)) 6 13 (μ 54 13)) 6 14 (μ 54 14)) 6 15 (μ 54 15)) 6 16 (μ 54 16)) c s) _
  refine rn_putZ (k' := 100) rfl rfl K0_6 (by decide) rfl (by omega) ?_
  refine rn_vret rfl ?_
  exact congrArg (fun z => ((some none : Option (Option MV)), mkh z c s)) (sets11 (d := 6))
set_option maxHeartbeats 2000000 in
theorem c_pcopy_34_17 {μ : Nat → Nat → Int} {c s : Nat} : Cl PT 41 [mR 34, mR 17] (mkh μ c s) (fun r => r = (some none, mkh (pcp μ 34 17) c s)) := by
  refine ⟨_, PT_41, Nat.le_of_ble_eq_true rfl, ?_⟩
  show Rn PT none kX4_copyFrom 0 [some (mR 34), some (mR 17)] [] (mkh μ c s) _
  refine rn_aload_n (k' := 1) rfl rfl rfl ?_
  refine rn_aload_n (k' := 2) rfl rfl rfl ?_
  refine rn_getI (k' := 3) rfl rfl K0_17 (by decide) rfl ?_
  refine rn_putI (k' := 4) rfl rfl K0_34 (by decide) rfl ?_
  refine rn_aload_n (k' := 5) rfl rfl rfl ?_
  refine rn_getR (k' := 6) rfl rfl K0_17 (by decide) rfl R0_17_1 ?_
  refine rn_iconst (k' := 7) rfl rfl ?_
  refine rn_aload_n (k' := 8) rfl rfl rfl ?_
  refine rn_getR (k' := 9) rfl rfl K0_34 (by decide) rfl R0_34_1 ?_
  refine rn_iconst (k' := 10) rfl rfl ?_
  refine rn_bipush (k' := 11) rfl rfl ?_
  refine rn_cpy (k' := 12) rfl rfl K0_18 K0_35 (by decide) (Nat.le_of_ble_eq_true rfl) ?_
  show Rn PT none kX4_copyFrom 12 [some (mR 34), some (mR 17)] [] (mkh (m_upd (m_set μ 34 0 (μ 17 0)) 35 (fl (μ 18) (μ 35) 30)) c s) _
  refine rn_aload_n (k' := 13) rfl rfl rfl ?_
  refine rn_getR (k' := 14) rfl rfl K0_17 (by decide) rfl R0_17_2 ?_
  refine rn_iconst (k' := 15) rfl rfl ?_
  refine rn_aload_n (k' := 16) rfl rfl rfl ?_
  refine rn_getR (k' := 17) rfl rfl K0_34 (by decide) rfl R0_34_2 ?_
  refine rn_iconst (k' := 18) rfl rfl ?_
  refine rn_bipush (k' := 19) rfl rfl ?_
  refine rn_cpy (k' := 20) rfl rfl K0_19 K0_36 (by decide) (Nat.le_of_ble_eq_true rfl) ?_
  show Rn PT none kX4_copyFrom 20 [some (mR 34), some (mR 17)] [] (mkh (m_upd (m_upd (m_set μ 34 0 (μ 17 0)) 35 (fl (μ 18) (μ 35) 30)) 36 (fl (μ 19) (μ 36) 30)) c s) _
  refine rn_aload_n (k' := 21) rfl rfl rfl ?_
  refine rn_getR (k' := 22) rfl rfl K0_17 (by decide) rfl R0_17_3 ?_
  refine rn_iconst (k' := 23) rfl rfl ?_
  refine rn_aload_n (k' := 24) rfl rfl rfl ?_
  refine rn_getR (k' := 25) rfl rfl K0_34 (by decide) rfl R0_34_3 ?_
  refine rn_iconst (k' := 26) rfl rfl ?_
  refine rn_bipush (k' := 27) rfl rfl ?_
  refine rn_cpy (k' := 28) rfl rfl K0_20 K0_37 (by decide) (Nat.le_of_ble_eq_true rfl) ?_
  show Rn PT none kX4_copyFrom 28 [some (mR 34), some (mR 17)] [] (mkh (m_upd (m_upd (m_upd (m_set μ 34 0 (μ 17 0)) 35 (fl (μ 18) (μ 35) 30)) 36 (fl (μ 19) (μ 36) 30)) 37 (fl (μ 20) (μ 37) 30)) c s) _
  refine rn_vret rfl ?_
  first | rfl | (refine congrArg (fun z => ((some (some (mI z)) : Option (Option MV)), mkh (m_upd (m_upd (m_upd (m_set μ 34 0 (μ 17 0)) 35 (fl (μ 18) (μ 35) 30)) 36 (fl (μ 19) (μ 36) 30)) 37 (fl (μ 20) (μ 37) 30)) c s)) ?_; first | rfl | omega | (symm; first | (rw [if_pos (by omega)]; first | done | rfl | omega) | (rw [if_neg (by omega)]; first | done | rfl | omega)) | (symm; unfold g_tim; first | (rw [if_pos (by omega)]; first | done | rfl | omega) | (rw [if_neg (by omega)]; first | done | rfl | omega)) | (symm; unfold g_st; first | (rw [if_pos (by omega)]; first | done | rfl | omega) | (rw [if_neg (by omega)]; first | done | rfl | omega)) | (symm; unfold g_dep; first | (rw [if_pos (by omega)]; first | done | rfl | omega) | (rw [if_neg (by omega)]; first | done | rfl | omega)) | (symm; unfold g_nb; first | (rw [if_pos (by omega)]; first | done | rfl | omega) | (rw [if_neg (by omega)]; first | done | rfl | omega)) | ((try unfold g_st); (try unfold g_dep); (try unfold g_nb); (repeat' split) <;> omega) | (symm; (repeat (first | rw [if_pos (by omega)] | rw [if_neg (by omega)])); first | done | rfl | omega))
set_option maxHeartbeats 2000000 in
theorem c_pcopy_50_17 {μ : Nat → Nat → Int} {c s : Nat} : Cl PT 41 [mR 50, mR 17] (mkh μ c s) (fun r => r = (some none, mkh (pcp μ 50 17) c s)) := by
  refine ⟨_, PT_41, Nat.le_of_ble_eq_true rfl, ?_⟩
  show Rn PT none kX4_copyFrom 0 [some (mR 50), some (mR 17)] [] (mkh μ c s) _
  refine rn_aload_n (k' := 1) rfl rfl rfl ?_
  refine rn_aload_n (k' := 2) rfl rfl rfl ?_
  refine rn_getI (k' := 3) rfl rfl K0_17 (by decide) rfl ?_
  refine rn_putI (k' := 4) rfl rfl K0_50 (by decide) rfl ?_
  refine rn_aload_n (k' := 5) rfl rfl rfl ?_
  refine rn_getR (k' := 6) rfl rfl K0_17 (by decide) rfl R0_17_1 ?_
  refine rn_iconst (k' := 7) rfl rfl ?_
  refine rn_aload_n (k' := 8) rfl rfl rfl ?_
  refine rn_getR (k' := 9) rfl rfl K0_50 (by decide) rfl R0_50_1 ?_
  refine rn_iconst (k' := 10) rfl rfl ?_
  refine rn_bipush (k' := 11) rfl rfl ?_
  refine rn_cpy (k' := 12) rfl rfl K0_18 K0_51 (by decide) (Nat.le_of_ble_eq_true rfl) ?_
  show Rn PT none kX4_copyFrom 12 [some (mR 50), some (mR 17)] [] (mkh (m_upd (m_set μ 50 0 (μ 17 0)) 51 (fl (μ 18) (μ 51) 30)) c s) _
  refine rn_aload_n (k' := 13) rfl rfl rfl ?_
  refine rn_getR (k' := 14) rfl rfl K0_17 (by decide) rfl R0_17_2 ?_
  refine rn_iconst (k' := 15) rfl rfl ?_
  refine rn_aload_n (k' := 16) rfl rfl rfl ?_
  refine rn_getR (k' := 17) rfl rfl K0_50 (by decide) rfl R0_50_2 ?_
  refine rn_iconst (k' := 18) rfl rfl ?_
  refine rn_bipush (k' := 19) rfl rfl ?_
  refine rn_cpy (k' := 20) rfl rfl K0_19 K0_52 (by decide) (Nat.le_of_ble_eq_true rfl) ?_
  show Rn PT none kX4_copyFrom 20 [some (mR 50), some (mR 17)] [] (mkh (m_upd (m_upd (m_set μ 50 0 (μ 17 0)) 51 (fl (μ 18) (μ 51) 30)) 52 (fl (μ 19) (μ 52) 30)) c s) _
  refine rn_aload_n (k' := 21) rfl rfl rfl ?_
  refine rn_getR (k' := 22) rfl rfl K0_17 (by decide) rfl R0_17_3 ?_
  refine rn_iconst (k' := 23) rfl rfl ?_
  refine rn_aload_n (k' := 24) rfl rfl rfl ?_
  refine rn_getR (k' := 25) rfl rfl K0_50 (by decide) rfl R0_50_3 ?_
  refine rn_iconst (k' := 26) rfl rfl ?_
  refine rn_bipush (k' := 27) rfl rfl ?_
  refine rn_cpy (k' := 28) rfl rfl K0_20 K0_53 (by decide) (Nat.le_of_ble_eq_true rfl) ?_
  show Rn PT none kX4_copyFrom 28 [some (mR 50), some (mR 17)] [] (mkh (m_upd (m_upd (m_upd (m_set μ 50 0 (μ 17 0)) 51 (fl (μ 18) (μ 51) 30)) 52 (fl (μ 19) (μ 52) 30)) 53 (fl (μ 20) (μ 53) 30)) c s) _
  refine rn_vret rfl ?_
  first | rfl | (refine congrArg (fun z => ((some (some (mI z)) : Option (Option MV)), mkh (m_upd (m_upd (m_upd (m_set μ 50 0 (μ 17 0)) 51 (fl (μ 18) (μ 51) 30)) 52 (fl (μ 19) (μ 52) 30)) 53 (fl (μ 20) (μ 53) 30)) c s)) ?_; first | rfl | omega | (symm; first | (rw [if_pos (by omega)]; first | done | rfl | omega) | (rw [if_neg (by omega)]; first | done | rfl | omega)) | (symm; unfold g_tim; first | (rw [if_pos (by omega)]; first | done | rfl | omega) | (rw [if_neg (by omega)]; first | done | rfl | omega)) | (symm; unfold g_st; first | (rw [if_pos (by omega)]; first | done | rfl | omega) | (rw [if_neg (by omega)]; first | done | rfl | omega)) | (symm; unfold g_dep; first | (rw [if_pos (by omega)]; first | done | rfl | omega) | (rw [if_neg (by omega)]; first | done | rfl | omega)) | (symm; unfold g_nb; first | (rw [if_pos (by omega)]; first | done | rfl | omega) | (rw [if_neg (by omega)]; first | done | rfl | omega)) | ((try unfold g_st); (try unfold g_dep); (try unfold g_nb); (repeat' split) <;> omega) | (symm; (repeat (first | rw [if_pos (by omega)] | rw [if_neg (by omega)])); first | done | rfl | omega))
set_option maxHeartbeats 2000000 in
theorem c_pcopy_17_34 {μ : Nat → Nat → Int} {c s : Nat} : Cl PT 41 [mR 17, mR 34] (mkh μ c s) (fun r => r = (some none, mkh (pcp μ 17 34) c s)) := by
  refine ⟨_, PT_41, Nat.le_of_ble_eq_true rfl, ?_⟩
  show Rn PT none kX4_copyFrom 0 [some (mR 17), some (mR 34)] [] (mkh μ c s) _
  refine rn_aload_n (k' := 1) rfl rfl rfl ?_
  refine rn_aload_n (k' := 2) rfl rfl rfl ?_
  refine rn_getI (k' := 3) rfl rfl K0_34 (by decide) rfl ?_
  refine rn_putI (k' := 4) rfl rfl K0_17 (by decide) rfl ?_
  refine rn_aload_n (k' := 5) rfl rfl rfl ?_
  refine rn_getR (k' := 6) rfl rfl K0_34 (by decide) rfl R0_34_1 ?_
  refine rn_iconst (k' := 7) rfl rfl ?_
  refine rn_aload_n (k' := 8) rfl rfl rfl ?_
  refine rn_getR (k' := 9) rfl rfl K0_17 (by decide) rfl R0_17_1 ?_
  refine rn_iconst (k' := 10) rfl rfl ?_
  refine rn_bipush (k' := 11) rfl rfl ?_
  refine rn_cpy (k' := 12) rfl rfl K0_35 K0_18 (by decide) (Nat.le_of_ble_eq_true rfl) ?_
  show Rn PT none kX4_copyFrom 12 [some (mR 17), some (mR 34)] [] (mkh (m_upd (m_set μ 17 0 (μ 34 0)) 18 (fl (μ 35) (μ 18) 30)) c s) _
  refine rn_aload_n (k' := 13) rfl rfl rfl ?_
  refine rn_getR (k' := 14) rfl rfl K0_34 (by decide) rfl R0_34_2 ?_
  refine rn_iconst (k' := 15) rfl rfl ?_
  refine rn_aload_n (k' := 16) rfl rfl rfl ?_
  refine rn_getR (k' := 17) rfl rfl K0_17 (by decide) rfl R0_17_2 ?_
  refine rn_iconst (k' := 18) rfl rfl ?_
  refine rn_bipush (k' := 19) rfl rfl ?_
  refine rn_cpy (k' := 20) rfl rfl K0_36 K0_19 (by decide) (Nat.le_of_ble_eq_true rfl) ?_
  show Rn PT none kX4_copyFrom 20 [some (mR 17), some (mR 34)] [] (mkh (m_upd (m_upd (m_set μ 17 0 (μ 34 0)) 18 (fl (μ 35) (μ 18) 30)) 19 (fl (μ 36) (μ 19) 30)) c s) _
  refine rn_aload_n (k' := 21) rfl rfl rfl ?_
  refine rn_getR (k' := 22) rfl rfl K0_34 (by decide) rfl R0_34_3 ?_
  refine rn_iconst (k' := 23) rfl rfl ?_
  refine rn_aload_n (k' := 24) rfl rfl rfl ?_
  refine rn_getR (k' := 25) rfl rfl K0_17 (by decide) rfl R0_17_3 ?_
  refine rn_iconst (k' := 26) rfl rfl ?_
  refine rn_bipush (k' := 27) rfl rfl ?_
  refine rn_cpy (k' := 28) rfl rfl K0_37 K0_20 (by decide) (Nat.le_of_ble_eq_true rfl) ?_
  show Rn PT none kX4_copyFrom 28 [some (mR 17), some (mR 34)] [] (mkh (m_upd (m_upd (m_upd (m_set μ 17 0 (μ 34 0)) 18 (fl (μ 35) (μ 18) 30)) 19 (fl (μ 36) (μ 19) 30)) 20 (fl (μ 37) (μ 20) 30)) c s) _
  refine rn_vret rfl ?_
  first | rfl | (refine congrArg (fun z => ((some (some (mI z)) : Option (Option MV)), mkh (m_upd (m_upd (m_upd (m_set μ 17 0 (μ 34 0)) 18 (fl (μ 35) (μ 18) 30)) 19 (fl (μ 36) (μ 19) 30)) 20 (fl (μ 37) (μ 20) 30)) c s)) ?_; first | rfl | omega | (symm; first | (rw [if_pos (by omega)]; first | done | rfl | omega) | (rw [if_neg (by omega)]; first | done | rfl | omega)) | (symm; unfold g_tim; first | (rw [if_pos (by omega)]; first | done | rfl | omega) | (rw [if_neg (by omega)]; first | done | rfl | omega)) | (symm; unfold g_st; first | (rw [if_pos (by omega)]; first | done | rfl | omega) | (rw [if_neg (by omega)]; first | done | rfl | omega)) | (symm; unfold g_dep; first | (rw [if_pos (by omega)]; first | done | rfl | omega) | (rw [if_neg (by omega)]; first | done | rfl | omega)) | (symm; unfold g_nb; first | (rw [if_pos (by omega)]; first | done | rfl | omega) | (rw [if_neg (by omega)]; first | done | rfl | omega)) | ((try unfold g_st); (try unfold g_dep); (try unfold g_nb); (repeat' split) <;> omega) | (symm; (repeat (first | rw [if_pos (by omega)] | rw [if_neg (by omega)])); first | done | rfl | omega))
set_option maxHeartbeats 2000000 in
theorem c_pcopy_17_50 {μ : Nat → Nat → Int} {c s : Nat} : Cl PT 41 [mR 17, mR 50] (mkh μ c s) (fun r => r = (some none, mkh (pcp μ 17 50) c s)) := by
  refine ⟨_, PT_41, Nat.le_of_ble_eq_true rfl, ?_⟩
  show Rn PT none kX4_copyFrom 0 [some (mR 17), some (mR 50)] [] (mkh μ c s) _
  refine rn_aload_n (k' := 1) rfl rfl rfl ?_
  refine rn_aload_n (k' := 2) rfl rfl rfl ?_
  refine rn_getI (k' := 3) rfl rfl K0_50 (by decide) rfl ?_
  refine rn_putI (k' := 4) rfl rfl K0_17 (by decide) rfl ?_
  refine rn_aload_n (k' := 5) rfl rfl rfl ?_
  refine rn_getR (k' := 6) rfl rfl K0_50 (by decide) rfl R0_50_1 ?_
  refine rn_iconst (k' := 7) rfl rfl ?_
  refine rn_aload_n (k' := 8) rfl rfl rfl ?_
  refine rn_getR (k' := 9) rfl rfl K0_17 (by decide) rfl R0_17_1 ?_
  refine rn_iconst (k' := 10) rfl rfl ?_
  refine rn_bipush (k' := 11) rfl rfl ?_
  refine rn_cpy (k' := 12) rfl rfl K0_51 K0_18 (by decide) (Nat.le_of_ble_eq_true rfl) ?_
  show Rn PT none kX4_copyFrom 12 [some (mR 17), some (mR 50)] [] (mkh (m_upd (m_set μ 17 0 (μ 50 0)) 18 (fl (μ 51) (μ 18) 30)) c s) _
  refine rn_aload_n (k' := 13) rfl rfl rfl ?_
  refine rn_getR (k' := 14) rfl rfl K0_50 (by decide) rfl R0_50_2 ?_
  refine rn_iconst (k' := 15) rfl rfl ?_
  refine rn_aload_n (k' := 16) rfl rfl rfl ?_
  refine rn_getR (k' := 17) rfl rfl K0_17 (by decide) rfl R0_17_2 ?_
  refine rn_iconst (k' := 18) rfl rfl ?_
  refine rn_bipush (k' := 19) rfl rfl ?_
  refine rn_cpy (k' := 20) rfl rfl K0_52 K0_19 (by decide) (Nat.le_of_ble_eq_true rfl) ?_
  show Rn PT none kX4_copyFrom 20 [some (mR 17), some (mR 50)] [] (mkh (m_upd (m_upd (m_set μ 17 0 (μ 50 0)) 18 (fl (μ 51) (μ 18) 30)) 19 (fl (μ 52) (μ 19) 30)) c s) _
  refine rn_aload_n (k' := 21) rfl rfl rfl ?_
  refine rn_getR (k' := 22) rfl rfl K0_50 (by decide) rfl R0_50_3 ?_
  refine rn_iconst (k' := 23) rfl rfl ?_
  refine rn_aload_n (k' := 24) rfl rfl rfl ?_
  refine rn_getR (k' := 25) rfl rfl K0_17 (by decide) rfl R0_17_3 ?_
  refine rn_iconst (k' := 26) rfl rfl ?_
  refine rn_bipush (k' := 27) rfl rfl ?_
  refine rn_cpy (k' := 28) rfl rfl K0_53 K0_20 (by decide) (Nat.le_of_ble_eq_true rfl) ?_
  show Rn PT none kX4_copyFrom 28 [some (mR 17), some (mR 50)] [] (mkh (m_upd (m_upd (m_upd (m_set μ 17 0 (μ 50 0)) 18 (fl (μ 51) (μ 18) 30)) 19 (fl (μ 52) (μ 19) 30)) 20 (fl (μ 53) (μ 20) 30)) c s) _
  refine rn_vret rfl ?_
  first | rfl | (refine congrArg (fun z => ((some (some (mI z)) : Option (Option MV)), mkh (m_upd (m_upd (m_upd (m_set μ 17 0 (μ 50 0)) 18 (fl (μ 51) (μ 18) 30)) 19 (fl (μ 52) (μ 19) 30)) 20 (fl (μ 53) (μ 20) 30)) c s)) ?_; first | rfl | omega | (symm; first | (rw [if_pos (by omega)]; first | done | rfl | omega) | (rw [if_neg (by omega)]; first | done | rfl | omega)) | (symm; unfold g_tim; first | (rw [if_pos (by omega)]; first | done | rfl | omega) | (rw [if_neg (by omega)]; first | done | rfl | omega)) | (symm; unfold g_st; first | (rw [if_pos (by omega)]; first | done | rfl | omega) | (rw [if_neg (by omega)]; first | done | rfl | omega)) | (symm; unfold g_dep; first | (rw [if_pos (by omega)]; first | done | rfl | omega) | (rw [if_neg (by omega)]; first | done | rfl | omega)) | (symm; unfold g_nb; first | (rw [if_pos (by omega)]; first | done | rfl | omega) | (rw [if_neg (by omega)]; first | done | rfl | omega)) | ((try unfold g_st); (try unfold g_dep); (try unfold g_nb); (repeat' split) <;> omega) | (symm; (repeat (first | rw [if_pos (by omega)] | rw [if_neg (by omega)])); first | done | rfl | omega))
set_option maxHeartbeats 2000000 in
theorem c_pcopy_17_62 {μ : Nat → Nat → Int} {c s : Nat} : Cl PT 41 [mR 17, mR 62] (mkh μ c s) (fun r => r = (some none, mkh (pcp μ 17 62) c s)) := by
  refine ⟨_, PT_41, Nat.le_of_ble_eq_true rfl, ?_⟩
  show Rn PT none kX4_copyFrom 0 [some (mR 17), some (mR 62)] [] (mkh μ c s) _
  refine rn_aload_n (k' := 1) rfl rfl rfl ?_
  refine rn_aload_n (k' := 2) rfl rfl rfl ?_
  refine rn_getI (k' := 3) rfl rfl K0_62 (by decide) rfl ?_
  refine rn_putI (k' := 4) rfl rfl K0_17 (by decide) rfl ?_
  refine rn_aload_n (k' := 5) rfl rfl rfl ?_
  refine rn_getR (k' := 6) rfl rfl K0_62 (by decide) rfl R0_62_1 ?_
  refine rn_iconst (k' := 7) rfl rfl ?_
  refine rn_aload_n (k' := 8) rfl rfl rfl ?_
  refine rn_getR (k' := 9) rfl rfl K0_17 (by decide) rfl R0_17_1 ?_
  refine rn_iconst (k' := 10) rfl rfl ?_
  refine rn_bipush (k' := 11) rfl rfl ?_
  refine rn_cpy (k' := 12) rfl rfl K0_63 K0_18 (by decide) (Nat.le_of_ble_eq_true rfl) ?_
  show Rn PT none kX4_copyFrom 12 [some (mR 17), some (mR 62)] [] (mkh (m_upd (m_set μ 17 0 (μ 62 0)) 18 (fl (μ 63) (μ 18) 30)) c s) _
  refine rn_aload_n (k' := 13) rfl rfl rfl ?_
  refine rn_getR (k' := 14) rfl rfl K0_62 (by decide) rfl R0_62_2 ?_
  refine rn_iconst (k' := 15) rfl rfl ?_
  refine rn_aload_n (k' := 16) rfl rfl rfl ?_
  refine rn_getR (k' := 17) rfl rfl K0_17 (by decide) rfl R0_17_2 ?_
  refine rn_iconst (k' := 18) rfl rfl ?_
  refine rn_bipush (k' := 19) rfl rfl ?_
  refine rn_cpy (k' := 20) rfl rfl K0_64 K0_19 (by decide) (Nat.le_of_ble_eq_true rfl) ?_
  show Rn PT none kX4_copyFrom 20 [some (mR 17), some (mR 62)] [] (mkh (m_upd (m_upd (m_set μ 17 0 (μ 62 0)) 18 (fl (μ 63) (μ 18) 30)) 19 (fl (μ 64) (μ 19) 30)) c s) _
  refine rn_aload_n (k' := 21) rfl rfl rfl ?_
  refine rn_getR (k' := 22) rfl rfl K0_62 (by decide) rfl R0_62_3 ?_
  refine rn_iconst (k' := 23) rfl rfl ?_
  refine rn_aload_n (k' := 24) rfl rfl rfl ?_
  refine rn_getR (k' := 25) rfl rfl K0_17 (by decide) rfl R0_17_3 ?_
  refine rn_iconst (k' := 26) rfl rfl ?_
  refine rn_bipush (k' := 27) rfl rfl ?_
  refine rn_cpy (k' := 28) rfl rfl K0_65 K0_20 (by decide) (Nat.le_of_ble_eq_true rfl) ?_
  show Rn PT none kX4_copyFrom 28 [some (mR 17), some (mR 62)] [] (mkh (m_upd (m_upd (m_upd (m_set μ 17 0 (μ 62 0)) 18 (fl (μ 63) (μ 18) 30)) 19 (fl (μ 64) (μ 19) 30)) 20 (fl (μ 65) (μ 20) 30)) c s) _
  refine rn_vret rfl ?_
  first | rfl | (refine congrArg (fun z => ((some (some (mI z)) : Option (Option MV)), mkh (m_upd (m_upd (m_upd (m_set μ 17 0 (μ 62 0)) 18 (fl (μ 63) (μ 18) 30)) 19 (fl (μ 64) (μ 19) 30)) 20 (fl (μ 65) (μ 20) 30)) c s)) ?_; first | rfl | omega | (symm; first | (rw [if_pos (by omega)]; first | done | rfl | omega) | (rw [if_neg (by omega)]; first | done | rfl | omega)) | (symm; unfold g_tim; first | (rw [if_pos (by omega)]; first | done | rfl | omega) | (rw [if_neg (by omega)]; first | done | rfl | omega)) | (symm; unfold g_st; first | (rw [if_pos (by omega)]; first | done | rfl | omega) | (rw [if_neg (by omega)]; first | done | rfl | omega)) | (symm; unfold g_dep; first | (rw [if_pos (by omega)]; first | done | rfl | omega) | (rw [if_neg (by omega)]; first | done | rfl | omega)) | (symm; unfold g_nb; first | (rw [if_pos (by omega)]; first | done | rfl | omega) | (rw [if_neg (by omega)]; first | done | rfl | omega)) | ((try unfold g_st); (try unfold g_dep); (try unfold g_nb); (repeat' split) <;> omega) | (symm; (repeat (first | rw [if_pos (by omega)] | rw [if_neg (by omega)])); first | done | rfl | omega))
set_option maxHeartbeats 2000000 in
theorem c_icopy_22_5 {μ : Nat → Nat → Int} {c s : Nat} (hb1 : μ 6 16 = 0 ∨ μ 6 16 = 1) (hb2 : μ 6 17 = 0 ∨ μ 6 17 = 1) : Cl PT 25 [mR 22, mR 5] (mkh μ c s) (fun r => r = (some none, mkh (icp μ 22 5) c s)) := by
  refine ⟨_, PT_25, Nat.le_of_ble_eq_true rfl, ?_⟩
  show Rn PT none kX2_copyFrom 0 [some (mR 22), some (mR 5)] [] (mkh μ c s) _
  refine rn_aload_n (k' := 1) rfl rfl rfl ?_
  refine rn_getR (k' := 2) rfl rfl K0_22 (by decide) rfl R0_22_0 ?_
  refine rn_aload_n (k' := 3) rfl rfl rfl ?_
  refine rn_getR (k' := 4) rfl rfl K0_5 (by decide) rfl R0_5_0 ?_
  refine rn_callP (k' := 5) (y := 28) (vs := [mR 23, mR 6]) (S' := []) (v := none) (h' := mkh (lcp μ 23 6) c s) rfl rfl rfl (c_lcopy_23_6 (μ := μ) (c := c) (s := s) hb1 hb2) ?_
  show Rn PT none kX2_copyFrom 5 [some (mR 22), some (mR 5)] [] (mkh (lcp μ 23 6) c s) _
  refine rn_aload_n (k' := 6) rfl rfl rfl ?_
  refine rn_getR (k' := 7) rfl rfl K0_22 (by decide) rfl R0_22_1 ?_
  refine rn_aload_n (k' := 8) rfl rfl rfl ?_
  refine rn_getR (k' := 9) rfl rfl K0_5 (by decide) rfl R0_5_1 ?_
  refine rn_callP (k' := 10) (y := 64) (vs := [mR 31, mR 14]) (S' := []) (v := none) (h' := mkh (scp (lcp μ 23 6) 31 14) c s) rfl rfl rfl (c_copy_31_14 (μ := (lcp μ 23 6)) (c := c) (s := s)) ?_
  show Rn PT none kX2_copyFrom 10 [some (mR 22), some (mR 5)] [] (mkh (scp (lcp μ 23 6) 31 14) c s) _
  refine rn_aload_n (k' := 11) rfl rfl rfl ?_
  refine rn_getR (k' := 12) rfl rfl K0_22 (by decide) rfl R0_22_2 ?_
  refine rn_aload_n (k' := 13) rfl rfl rfl ?_
  refine rn_getR (k' := 14) rfl rfl K0_5 (by decide) rfl R0_5_2 ?_
  refine rn_callP (k' := 15) (y := 41) (vs := [mR 34, mR 17]) (S' := []) (v := none) (h' := mkh (pcp (scp (lcp μ 23 6) 31 14) 34 17) c s) rfl rfl rfl (c_pcopy_34_17 (μ := (scp (lcp μ 23 6) 31 14)) (c := c) (s := s)) ?_
  show Rn PT none kX2_copyFrom 15 [some (mR 22), some (mR 5)] [] (mkh (pcp (scp (lcp μ 23 6) 31 14) 34 17) c s) _
  refine rn_vret rfl ?_
  first | rfl | (refine congrArg (fun z => ((some (some (mI z)) : Option (Option MV)), mkh (pcp (scp (lcp μ 23 6) 31 14) 34 17) c s)) ?_; first | rfl | omega | (symm; first | (rw [if_pos (by omega)]; first | done | rfl | omega) | (rw [if_neg (by omega)]; first | done | rfl | omega)) | (symm; unfold g_tim; first | (rw [if_pos (by omega)]; first | done | rfl | omega) | (rw [if_neg (by omega)]; first | done | rfl | omega)) | (symm; unfold g_st; first | (rw [if_pos (by omega)]; first | done | rfl | omega) | (rw [if_neg (by omega)]; first | done | rfl | omega)) | (symm; unfold g_dep; first | (rw [if_pos (by omega)]; first | done | rfl | omega) | (rw [if_neg (by omega)]; first | done | rfl | omega)) | (symm; unfold g_nb; first | (rw [if_pos (by omega)]; first | done | rfl | omega) | (rw [if_neg (by omega)]; first | done | rfl | omega)) | ((try unfold g_st); (try unfold g_dep); (try unfold g_nb); (repeat' split) <;> omega) | (symm; (repeat (first | rw [if_pos (by omega)] | rw [if_neg (by omega)])); first | done | rfl | omega))
set_option maxHeartbeats 2000000 in
theorem c_icopy_38_5 {μ : Nat → Nat → Int} {c s : Nat} (hb1 : μ 6 16 = 0 ∨ μ 6 16 = 1) (hb2 : μ 6 17 = 0 ∨ μ 6 17 = 1) : Cl PT 25 [mR 38, mR 5] (mkh μ c s) (fun r => r = (some none, mkh (icp μ 38 5) c s)) := by
  refine ⟨_, PT_25, Nat.le_of_ble_eq_true rfl, ?_⟩
  show Rn PT none kX2_copyFrom 0 [some (mR 38), some (mR 5)] [] (mkh μ c s) _
  refine rn_aload_n (k' := 1) rfl rfl rfl ?_
  refine rn_getR (k' := 2) rfl rfl K0_38 (by decide) rfl R0_38_0 ?_
  refine rn_aload_n (k' := 3) rfl rfl rfl ?_
  refine rn_getR (k' := 4) rfl rfl K0_5 (by decide) rfl R0_5_0 ?_
  refine rn_callP (k' := 5) (y := 28) (vs := [mR 39, mR 6]) (S' := []) (v := none) (h' := mkh (lcp μ 39 6) c s) rfl rfl rfl (c_lcopy_39_6 (μ := μ) (c := c) (s := s) hb1 hb2) ?_
  show Rn PT none kX2_copyFrom 5 [some (mR 38), some (mR 5)] [] (mkh (lcp μ 39 6) c s) _
  refine rn_aload_n (k' := 6) rfl rfl rfl ?_
  refine rn_getR (k' := 7) rfl rfl K0_38 (by decide) rfl R0_38_1 ?_
  refine rn_aload_n (k' := 8) rfl rfl rfl ?_
  refine rn_getR (k' := 9) rfl rfl K0_5 (by decide) rfl R0_5_1 ?_
  refine rn_callP (k' := 10) (y := 64) (vs := [mR 47, mR 14]) (S' := []) (v := none) (h' := mkh (scp (lcp μ 39 6) 47 14) c s) rfl rfl rfl (c_copy_47_14 (μ := (lcp μ 39 6)) (c := c) (s := s)) ?_
  show Rn PT none kX2_copyFrom 10 [some (mR 38), some (mR 5)] [] (mkh (scp (lcp μ 39 6) 47 14) c s) _
  refine rn_aload_n (k' := 11) rfl rfl rfl ?_
  refine rn_getR (k' := 12) rfl rfl K0_38 (by decide) rfl R0_38_2 ?_
  refine rn_aload_n (k' := 13) rfl rfl rfl ?_
  refine rn_getR (k' := 14) rfl rfl K0_5 (by decide) rfl R0_5_2 ?_
  refine rn_callP (k' := 15) (y := 41) (vs := [mR 50, mR 17]) (S' := []) (v := none) (h' := mkh (pcp (scp (lcp μ 39 6) 47 14) 50 17) c s) rfl rfl rfl (c_pcopy_50_17 (μ := (scp (lcp μ 39 6) 47 14)) (c := c) (s := s)) ?_
  show Rn PT none kX2_copyFrom 15 [some (mR 38), some (mR 5)] [] (mkh (pcp (scp (lcp μ 39 6) 47 14) 50 17) c s) _
  refine rn_vret rfl ?_
  first | rfl | (refine congrArg (fun z => ((some (some (mI z)) : Option (Option MV)), mkh (pcp (scp (lcp μ 39 6) 47 14) 50 17) c s)) ?_; first | rfl | omega | (symm; first | (rw [if_pos (by omega)]; first | done | rfl | omega) | (rw [if_neg (by omega)]; first | done | rfl | omega)) | (symm; unfold g_tim; first | (rw [if_pos (by omega)]; first | done | rfl | omega) | (rw [if_neg (by omega)]; first | done | rfl | omega)) | (symm; unfold g_st; first | (rw [if_pos (by omega)]; first | done | rfl | omega) | (rw [if_neg (by omega)]; first | done | rfl | omega)) | (symm; unfold g_dep; first | (rw [if_pos (by omega)]; first | done | rfl | omega) | (rw [if_neg (by omega)]; first | done | rfl | omega)) | (symm; unfold g_nb; first | (rw [if_pos (by omega)]; first | done | rfl | omega) | (rw [if_neg (by omega)]; first | done | rfl | omega)) | ((try unfold g_st); (try unfold g_dep); (try unfold g_nb); (repeat' split) <;> omega) | (symm; (repeat (first | rw [if_pos (by omega)] | rw [if_neg (by omega)])); first | done | rfl | omega))
set_option maxHeartbeats 2000000 in
theorem c_icopy_5_22 {μ : Nat → Nat → Int} {c s : Nat} (hb1 : μ 23 16 = 0 ∨ μ 23 16 = 1) (hb2 : μ 23 17 = 0 ∨ μ 23 17 = 1) : Cl PT 25 [mR 5, mR 22] (mkh μ c s) (fun r => r = (some none, mkh (icp μ 5 22) c s)) := by
  refine ⟨_, PT_25, Nat.le_of_ble_eq_true rfl, ?_⟩
  show Rn PT none kX2_copyFrom 0 [some (mR 5), some (mR 22)] [] (mkh μ c s) _
  refine rn_aload_n (k' := 1) rfl rfl rfl ?_
  refine rn_getR (k' := 2) rfl rfl K0_5 (by decide) rfl R0_5_0 ?_
  refine rn_aload_n (k' := 3) rfl rfl rfl ?_
  refine rn_getR (k' := 4) rfl rfl K0_22 (by decide) rfl R0_22_0 ?_
  refine rn_callP (k' := 5) (y := 28) (vs := [mR 6, mR 23]) (S' := []) (v := none) (h' := mkh (lcp μ 6 23) c s) rfl rfl rfl (c_lcopy_6_23 (μ := μ) (c := c) (s := s) hb1 hb2) ?_
  show Rn PT none kX2_copyFrom 5 [some (mR 5), some (mR 22)] [] (mkh (lcp μ 6 23) c s) _
  refine rn_aload_n (k' := 6) rfl rfl rfl ?_
  refine rn_getR (k' := 7) rfl rfl K0_5 (by decide) rfl R0_5_1 ?_
  refine rn_aload_n (k' := 8) rfl rfl rfl ?_
  refine rn_getR (k' := 9) rfl rfl K0_22 (by decide) rfl R0_22_1 ?_
  refine rn_callP (k' := 10) (y := 64) (vs := [mR 14, mR 31]) (S' := []) (v := none) (h' := mkh (scp (lcp μ 6 23) 14 31) c s) rfl rfl rfl (c_copy_14_31 (μ := (lcp μ 6 23)) (c := c) (s := s)) ?_
  show Rn PT none kX2_copyFrom 10 [some (mR 5), some (mR 22)] [] (mkh (scp (lcp μ 6 23) 14 31) c s) _
  refine rn_aload_n (k' := 11) rfl rfl rfl ?_
  refine rn_getR (k' := 12) rfl rfl K0_5 (by decide) rfl R0_5_2 ?_
  refine rn_aload_n (k' := 13) rfl rfl rfl ?_
  refine rn_getR (k' := 14) rfl rfl K0_22 (by decide) rfl R0_22_2 ?_
  refine rn_callP (k' := 15) (y := 41) (vs := [mR 17, mR 34]) (S' := []) (v := none) (h' := mkh (pcp (scp (lcp μ 6 23) 14 31) 17 34) c s) rfl rfl rfl (c_pcopy_17_34 (μ := (scp (lcp μ 6 23) 14 31)) (c := c) (s := s)) ?_
  show Rn PT none kX2_copyFrom 15 [some (mR 5), some (mR 22)] [] (mkh (pcp (scp (lcp μ 6 23) 14 31) 17 34) c s) _
  refine rn_vret rfl ?_
  first | rfl | (refine congrArg (fun z => ((some (some (mI z)) : Option (Option MV)), mkh (pcp (scp (lcp μ 6 23) 14 31) 17 34) c s)) ?_; first | rfl | omega | (symm; first | (rw [if_pos (by omega)]; first | done | rfl | omega) | (rw [if_neg (by omega)]; first | done | rfl | omega)) | (symm; unfold g_tim; first | (rw [if_pos (by omega)]; first | done | rfl | omega) | (rw [if_neg (by omega)]; first | done | rfl | omega)) | (symm; unfold g_st; first | (rw [if_pos (by omega)]; first | done | rfl | omega) | (rw [if_neg (by omega)]; first | done | rfl | omega)) | (symm; unfold g_dep; first | (rw [if_pos (by omega)]; first | done | rfl | omega) | (rw [if_neg (by omega)]; first | done | rfl | omega)) | (symm; unfold g_nb; first | (rw [if_pos (by omega)]; first | done | rfl | omega) | (rw [if_neg (by omega)]; first | done | rfl | omega)) | ((try unfold g_st); (try unfold g_dep); (try unfold g_nb); (repeat' split) <;> omega) | (symm; (repeat (first | rw [if_pos (by omega)] | rw [if_neg (by omega)])); first | done | rfl | omega))
set_option maxHeartbeats 2000000 in
theorem c_icopy_5_38 {μ : Nat → Nat → Int} {c s : Nat} (hb1 : μ 39 16 = 0 ∨ μ 39 16 = 1) (hb2 : μ 39 17 = 0 ∨ μ 39 17 = 1) : Cl PT 25 [mR 5, mR 38] (mkh μ c s) (fun r => r = (some none, mkh (icp μ 5 38) c s)) := by
  refine ⟨_, PT_25, Nat.le_of_ble_eq_true rfl, ?_⟩
  show Rn PT none kX2_copyFrom 0 [some (mR 5), some (mR 38)] [] (mkh μ c s) _
  refine rn_aload_n (k' := 1) rfl rfl rfl ?_
  refine rn_getR (k' := 2) rfl rfl K0_5 (by decide) rfl R0_5_0 ?_
  refine rn_aload_n (k' := 3) rfl rfl rfl ?_
  refine rn_getR (k' := 4) rfl rfl K0_38 (by decide) rfl R0_38_0 ?_
  refine rn_callP (k' := 5) (y := 28) (vs := [mR 6, mR 39]) (S' := []) (v := none) (h' := mkh (lcp μ 6 39) c s) rfl rfl rfl (c_lcopy_6_39 (μ := μ) (c := c) (s := s) hb1 hb2) ?_
  show Rn PT none kX2_copyFrom 5 [some (mR 5), some (mR 38)] [] (mkh (lcp μ 6 39) c s) _
  refine rn_aload_n (k' := 6) rfl rfl rfl ?_
  refine rn_getR (k' := 7) rfl rfl K0_5 (by decide) rfl R0_5_1 ?_
  refine rn_aload_n (k' := 8) rfl rfl rfl ?_
  refine rn_getR (k' := 9) rfl rfl K0_38 (by decide) rfl R0_38_1 ?_
  refine rn_callP (k' := 10) (y := 64) (vs := [mR 14, mR 47]) (S' := []) (v := none) (h' := mkh (scp (lcp μ 6 39) 14 47) c s) rfl rfl rfl (c_copy_14_47 (μ := (lcp μ 6 39)) (c := c) (s := s)) ?_
  show Rn PT none kX2_copyFrom 10 [some (mR 5), some (mR 38)] [] (mkh (scp (lcp μ 6 39) 14 47) c s) _
  refine rn_aload_n (k' := 11) rfl rfl rfl ?_
  refine rn_getR (k' := 12) rfl rfl K0_5 (by decide) rfl R0_5_2 ?_
  refine rn_aload_n (k' := 13) rfl rfl rfl ?_
  refine rn_getR (k' := 14) rfl rfl K0_38 (by decide) rfl R0_38_2 ?_
  refine rn_callP (k' := 15) (y := 41) (vs := [mR 17, mR 50]) (S' := []) (v := none) (h' := mkh (pcp (scp (lcp μ 6 39) 14 47) 17 50) c s) rfl rfl rfl (c_pcopy_17_50 (μ := (scp (lcp μ 6 39) 14 47)) (c := c) (s := s)) ?_
  show Rn PT none kX2_copyFrom 15 [some (mR 5), some (mR 38)] [] (mkh (pcp (scp (lcp μ 6 39) 14 47) 17 50) c s) _
  refine rn_vret rfl ?_
  first | rfl | (refine congrArg (fun z => ((some (some (mI z)) : Option (Option MV)), mkh (pcp (scp (lcp μ 6 39) 14 47) 17 50) c s)) ?_; first | rfl | omega | (symm; first | (rw [if_pos (by omega)]; first | done | rfl | omega) | (rw [if_neg (by omega)]; first | done | rfl | omega)) | (symm; unfold g_tim; first | (rw [if_pos (by omega)]; first | done | rfl | omega) | (rw [if_neg (by omega)]; first | done | rfl | omega)) | (symm; unfold g_st; first | (rw [if_pos (by omega)]; first | done | rfl | omega) | (rw [if_neg (by omega)]; first | done | rfl | omega)) | (symm; unfold g_dep; first | (rw [if_pos (by omega)]; first | done | rfl | omega) | (rw [if_neg (by omega)]; first | done | rfl | omega)) | (symm; unfold g_nb; first | (rw [if_pos (by omega)]; first | done | rfl | omega) | (rw [if_neg (by omega)]; first | done | rfl | omega)) | ((try unfold g_st); (try unfold g_dep); (try unfold g_nb); (repeat' split) <;> omega) | (symm; (repeat (first | rw [if_pos (by omega)] | rw [if_neg (by omega)])); first | done | rfl | omega))
set_option maxHeartbeats 2000000 in
theorem c_X0_forget {μ : Nat → Nat → Int} {c s : Nat} : Cl PT 3 [mR 82] (mkh μ c s) (fun r => r = (some none, mkh (m_set (m_set μ 82 5 0) 82 6 0) c s)) := by
  refine ⟨_, PT_3, Nat.le_of_ble_eq_true rfl, ?_⟩
  show Rn PT none kX0_forget 0 [some (mR 82)] [] (mkh μ c s) _
  refine rn_aload_n (k' := 1) rfl rfl rfl ?_
  refine rn_iconst (k' := 2) rfl rfl ?_
  refine rn_putI (k' := 3) rfl rfl K0_82 (by decide) rfl ?_
  refine rn_aload_n (k' := 4) rfl rfl rfl ?_
  refine rn_iconst (k' := 5) rfl rfl ?_
  refine rn_putI (k' := 6) rfl rfl K0_82 (by decide) rfl ?_
  refine rn_vret rfl ?_
  first | rfl | (refine congrArg (fun z => ((some (some (mI z)) : Option (Option MV)), mkh (m_set (m_set μ 82 5 (0)) 82 6 (0)) c s)) ?_; first | rfl | omega | (symm; first | (rw [if_pos (by omega)]; first | done | rfl | omega) | (rw [if_neg (by omega)]; first | done | rfl | omega)) | (symm; unfold g_tim; first | (rw [if_pos (by omega)]; first | done | rfl | omega) | (rw [if_neg (by omega)]; first | done | rfl | omega)) | (symm; unfold g_st; first | (rw [if_pos (by omega)]; first | done | rfl | omega) | (rw [if_neg (by omega)]; first | done | rfl | omega)) | (symm; unfold g_dep; first | (rw [if_pos (by omega)]; first | done | rfl | omega) | (rw [if_neg (by omega)]; first | done | rfl | omega)) | (symm; unfold g_nb; first | (rw [if_pos (by omega)]; first | done | rfl | omega) | (rw [if_neg (by omega)]; first | done | rfl | omega)) | ((try unfold g_st); (try unfold g_dep); (try unfold g_nb); (repeat' split) <;> omega) | (symm; (repeat (first | rw [if_pos (by omega)] | rw [if_neg (by omega)])); first | done | rfl | omega))
theorem x_X11_image_0 {μ : Nat → Nat → Int} {c s : Nat} (hb1 : μ 6 16 = 0 ∨ μ 6 16 = 1) (hb2 : μ 6 17 = 0 ∨ μ 6 17 = 1) : Cl PT 148 [mR 0, mI 0] (mkh μ c s) (fun r => r = (some (some (mI 1)), mkh (m_set (icp μ 22 5) 22 3 1) c s)) := by
  refine ⟨_, PT_148, Nat.le_of_ble_eq_true rfl, ?_⟩
  show Rn PT none kX11_image 0 [some (mR 0), some (mI (0))] [] (mkh μ c s) _
  refine rn_iload_n (k' := 1) rfl rfl rfl ?_
  refine rn_if_lt (k' := 2) rfl rfl (fun hc1 => ?_) (fun hc1 => ?_)
  · exfalso; omega
  · skip
    refine rn_iload_n (k' := 3) rfl rfl rfl ?_
    refine rn_iconst (k' := 4) rfl rfl ?_
    refine rn_icmp_lt (k' := 5) rfl rfl (fun hc2 => ?_) (fun hc2 => ?_)
    · skip
      refine rn_aload_n (k' := 8) rfl rfl rfl ?_
      refine rn_getR (k' := 9) rfl rfl K0_0 (by decide) rfl R0_0_5 ?_
      refine rn_iload_n (k' := 10) rfl rfl rfl ?_
      refine rn_aaload (k' := 11) rfl rfl K0_21 (by decide) (by decide) (by decide) rfl ?_
      refine rn_aload_n (k' := 12) rfl rfl rfl ?_
      refine rn_getR (k' := 13) rfl rfl K0_0 (by decide) rfl R0_0_2 ?_
      refine rn_callP (k' := 14) (y := 25) (vs := [mR 22, mR 5]) (S' := []) (v := none) (h' := mkh (icp μ 22 5) c s) rfl rfl rfl (c_icopy_22_5 (μ := μ) (c := c) (s := s) hb1 hb2) ?_
      show Rn PT none kX11_image 14 [some (mR 0), some (mI (0))] [] (mkh (icp μ 22 5) c s) _
      refine rn_aload_n (k' := 15) rfl rfl rfl ?_
      refine rn_getR (k' := 16) rfl rfl K0_0 (by decide) rfl R0_0_5 ?_
      refine rn_iload_n (k' := 17) rfl rfl rfl ?_
      refine rn_aaload (k' := 18) rfl rfl K0_21 (by decide) (by decide) (by decide) rfl ?_
      refine rn_iconst (k' := 19) rfl rfl ?_
      refine rn_putZ (k' := 20) rfl rfl K0_22 (by decide) rfl (by omega) ?_
      refine rn_iconst (k' := 21) rfl rfl ?_
      refine rn_iret rfl (Or.inr (by omega)) ?_
      rfl
    · exfalso; omega
theorem x_X11_restore_0 {μ : Nat → Nat → Int} {c s : Nat} (hb1 : μ 23 16 = 0 ∨ μ 23 16 = 1) (hb2 : μ 23 17 = 0 ∨ μ 23 17 = 1) (hu : μ 22 3 = 1) : Cl PT 149 [mR 0, mI 0] (mkh μ c s) (fun r => r = (some (some (mI 1)), mkh (m_set (m_set (icp μ 5 22) 82 5 0) 82 6 0) c s)) := by
  refine ⟨_, PT_149, Nat.le_of_ble_eq_true rfl, ?_⟩
  show Rn PT none kX11_restore 0 [some (mR 0), some (mI (0))] [] (mkh μ c s) _
  refine rn_iload_n (k' := 1) rfl rfl rfl ?_
  refine rn_if_lt (k' := 2) rfl rfl (fun hc1 => ?_) (fun hc1 => ?_)
  · exfalso; omega
  · skip
    refine rn_iload_n (k' := 3) rfl rfl rfl ?_
    refine rn_iconst (k' := 4) rfl rfl ?_
    refine rn_icmp_ge (k' := 5) rfl rfl (fun hc2 => ?_) (fun hc2 => ?_)
    · exfalso; omega
    · skip
      refine rn_aload_n (k' := 6) rfl rfl rfl ?_
      refine rn_getR (k' := 7) rfl rfl K0_0 (by decide) rfl R0_0_5 ?_
      refine rn_iload_n (k' := 8) rfl rfl rfl ?_
      refine rn_aaload (k' := 9) rfl rfl K0_21 (by decide) (by decide) (by decide) rfl ?_
      refine rn_getZ (k' := 10) rfl rfl K0_22 (by decide) rfl ?_
      refine rn_if_ne (k' := 11) rfl rfl (fun hc3 => ?_) (fun hc3 => ?_)
      · skip
        refine rn_aload_n (k' := 14) rfl rfl rfl ?_
        refine rn_getR (k' := 15) rfl rfl K0_0 (by decide) rfl R0_0_2 ?_
        refine rn_aload_n (k' := 16) rfl rfl rfl ?_
        refine rn_getR (k' := 17) rfl rfl K0_0 (by decide) rfl R0_0_5 ?_
        refine rn_iload_n (k' := 18) rfl rfl rfl ?_
        refine rn_aaload (k' := 19) rfl rfl K0_21 (by decide) (by decide) (by decide) rfl ?_
        refine rn_callP (k' := 20) (y := 25) (vs := [mR 5, mR 22]) (S' := []) (v := none) (h' := mkh (icp μ 5 22) c s) rfl rfl rfl (c_icopy_5_22 (μ := μ) (c := c) (s := s) hb1 hb2) ?_
        show Rn PT none kX11_restore 20 [some (mR 0), some (mI (0))] [] (mkh (icp μ 5 22) c s) _
        refine rn_aload_n (k' := 21) rfl rfl rfl ?_
        refine rn_getR (k' := 22) rfl rfl K0_0 (by decide) rfl R0_0_11 ?_
        refine rn_callP (k' := 23) (y := 3) (vs := [mR 82]) (S' := []) (v := none) (h' := mkh (m_set (m_set (icp μ 5 22) 82 5 (0)) 82 6 (0)) c s) rfl rfl rfl (c_X0_forget (μ := (icp μ 5 22)) (c := c) (s := s)) ?_
        show Rn PT none kX11_restore 23 [some (mR 0), some (mI (0))] [] (mkh (m_set (m_set (icp μ 5 22) 82 5 (0)) 82 6 (0)) c s) _
        refine rn_iconst (k' := 24) rfl rfl ?_
        refine rn_iret rfl (Or.inr (by omega)) ?_
        rfl
      · exfalso; omega
theorem n_X11_restore_0 {μ : Nat → Nat → Int} {c s : Nat} (hu : μ 22 3 = 0) : Cl PT 149 [mR 0, mI 0] (mkh μ c s) (fun r => r = (some (some (mI 0)), mkh μ c s)) := by
  refine ⟨_, PT_149, Nat.le_of_ble_eq_true rfl, ?_⟩
  show Rn PT none kX11_restore 0 [some (mR 0), some (mI (0))] [] (mkh μ c s) _
  refine rn_iload_n (k' := 1) rfl rfl rfl ?_
  refine rn_if_lt (k' := 2) rfl rfl (fun hc1 => ?_) (fun hc1 => ?_)
  · exfalso; omega
  · skip
    refine rn_iload_n (k' := 3) rfl rfl rfl ?_
    refine rn_iconst (k' := 4) rfl rfl ?_
    refine rn_icmp_ge (k' := 5) rfl rfl (fun hc2 => ?_) (fun hc2 => ?_)
    · exfalso; omega
    · skip
      refine rn_aload_n (k' := 6) rfl rfl rfl ?_
      refine rn_getR (k' := 7) rfl rfl K0_0 (by decide) rfl R0_0_5 ?_
      refine rn_iload_n (k' := 8) rfl rfl rfl ?_
      refine rn_aaload (k' := 9) rfl rfl K0_21 (by decide) (by decide) (by decide) rfl ?_
      refine rn_getZ (k' := 10) rfl rfl K0_22 (by decide) rfl ?_
      refine rn_if_ne (k' := 11) rfl rfl (fun hc3 => ?_) (fun hc3 => ?_)
      · exfalso; omega
      · skip
        refine rn_iconst (k' := 12) rfl rfl ?_
        refine rn_iret rfl (Or.inr (by omega)) ?_
        rfl
theorem x_X11_image_1 {μ : Nat → Nat → Int} {c s : Nat} (hb1 : μ 6 16 = 0 ∨ μ 6 16 = 1) (hb2 : μ 6 17 = 0 ∨ μ 6 17 = 1) : Cl PT 148 [mR 0, mI 1] (mkh μ c s) (fun r => r = (some (some (mI 1)), mkh (m_set (icp μ 38 5) 38 3 1) c s)) := by
  refine ⟨_, PT_148, Nat.le_of_ble_eq_true rfl, ?_⟩
  show Rn PT none kX11_image 0 [some (mR 0), some (mI (1))] [] (mkh μ c s) _
  refine rn_iload_n (k' := 1) rfl rfl rfl ?_
  refine rn_if_lt (k' := 2) rfl rfl (fun hc1 => ?_) (fun hc1 => ?_)
  · exfalso; omega
  · skip
    refine rn_iload_n (k' := 3) rfl rfl rfl ?_
    refine rn_iconst (k' := 4) rfl rfl ?_
    refine rn_icmp_lt (k' := 5) rfl rfl (fun hc2 => ?_) (fun hc2 => ?_)
    · skip
      refine rn_aload_n (k' := 8) rfl rfl rfl ?_
      refine rn_getR (k' := 9) rfl rfl K0_0 (by decide) rfl R0_0_5 ?_
      refine rn_iload_n (k' := 10) rfl rfl rfl ?_
      refine rn_aaload (k' := 11) rfl rfl K0_21 (by decide) (by decide) (by decide) rfl ?_
      refine rn_aload_n (k' := 12) rfl rfl rfl ?_
      refine rn_getR (k' := 13) rfl rfl K0_0 (by decide) rfl R0_0_2 ?_
      refine rn_callP (k' := 14) (y := 25) (vs := [mR 38, mR 5]) (S' := []) (v := none) (h' := mkh (icp μ 38 5) c s) rfl rfl rfl (c_icopy_38_5 (μ := μ) (c := c) (s := s) hb1 hb2) ?_
      show Rn PT none kX11_image 14 [some (mR 0), some (mI (1))] [] (mkh (icp μ 38 5) c s) _
      refine rn_aload_n (k' := 15) rfl rfl rfl ?_
      refine rn_getR (k' := 16) rfl rfl K0_0 (by decide) rfl R0_0_5 ?_
      refine rn_iload_n (k' := 17) rfl rfl rfl ?_
      refine rn_aaload (k' := 18) rfl rfl K0_21 (by decide) (by decide) (by decide) rfl ?_
      refine rn_iconst (k' := 19) rfl rfl ?_
      refine rn_putZ (k' := 20) rfl rfl K0_38 (by decide) rfl (by omega) ?_
      refine rn_iconst (k' := 21) rfl rfl ?_
      refine rn_iret rfl (Or.inr (by omega)) ?_
      rfl
    · exfalso; omega
theorem x_X11_restore_1 {μ : Nat → Nat → Int} {c s : Nat} (hb1 : μ 39 16 = 0 ∨ μ 39 16 = 1) (hb2 : μ 39 17 = 0 ∨ μ 39 17 = 1) (hu : μ 38 3 = 1) : Cl PT 149 [mR 0, mI 1] (mkh μ c s) (fun r => r = (some (some (mI 1)), mkh (m_set (m_set (icp μ 5 38) 82 5 0) 82 6 0) c s)) := by
  refine ⟨_, PT_149, Nat.le_of_ble_eq_true rfl, ?_⟩
  show Rn PT none kX11_restore 0 [some (mR 0), some (mI (1))] [] (mkh μ c s) _
  refine rn_iload_n (k' := 1) rfl rfl rfl ?_
  refine rn_if_lt (k' := 2) rfl rfl (fun hc1 => ?_) (fun hc1 => ?_)
  · exfalso; omega
  · skip
    refine rn_iload_n (k' := 3) rfl rfl rfl ?_
    refine rn_iconst (k' := 4) rfl rfl ?_
    refine rn_icmp_ge (k' := 5) rfl rfl (fun hc2 => ?_) (fun hc2 => ?_)
    · exfalso; omega
    · skip
      refine rn_aload_n (k' := 6) rfl rfl rfl ?_
      refine rn_getR (k' := 7) rfl rfl K0_0 (by decide) rfl R0_0_5 ?_
      refine rn_iload_n (k' := 8) rfl rfl rfl ?_
      refine rn_aaload (k' := 9) rfl rfl K0_21 (by decide) (by decide) (by decide) rfl ?_
      refine rn_getZ (k' := 10) rfl rfl K0_38 (by decide) rfl ?_
      refine rn_if_ne (k' := 11) rfl rfl (fun hc3 => ?_) (fun hc3 => ?_)
      · skip
        refine rn_aload_n (k' := 14) rfl rfl rfl ?_
        refine rn_getR (k' := 15) rfl rfl K0_0 (by decide) rfl R0_0_2 ?_
        refine rn_aload_n (k' := 16) rfl rfl rfl ?_
        refine rn_getR (k' := 17) rfl rfl K0_0 (by decide) rfl R0_0_5 ?_
        refine rn_iload_n (k' := 18) rfl rfl rfl ?_
        refine rn_aaload (k' := 19) rfl rfl K0_21 (by decide) (by decide) (by decide) rfl ?_
        refine rn_callP (k' := 20) (y := 25) (vs := [mR 5, mR 38]) (S' := []) (v := none) (h' := mkh (icp μ 5 38) c s) rfl rfl rfl (c_icopy_5_38 (μ := μ) (c := c) (s := s) hb1 hb2) ?_
        show Rn PT none kX11_restore 20 [some (mR 0), some (mI (1))] [] (mkh (icp μ 5 38) c s) _
        refine rn_aload_n (k' := 21) rfl rfl rfl ?_
        refine rn_getR (k' := 22) rfl rfl K0_0 (by decide) rfl R0_0_11 ?_
        refine rn_callP (k' := 23) (y := 3) (vs := [mR 82]) (S' := []) (v := none) (h' := mkh (m_set (m_set (icp μ 5 38) 82 5 (0)) 82 6 (0)) c s) rfl rfl rfl (c_X0_forget (μ := (icp μ 5 38)) (c := c) (s := s)) ?_
        show Rn PT none kX11_restore 23 [some (mR 0), some (mI (1))] [] (mkh (m_set (m_set (icp μ 5 38) 82 5 (0)) 82 6 (0)) c s) _
        refine rn_iconst (k' := 24) rfl rfl ?_
        refine rn_iret rfl (Or.inr (by omega)) ?_
        rfl
      · exfalso; omega
theorem n_X11_restore_1 {μ : Nat → Nat → Int} {c s : Nat} (hu : μ 38 3 = 0) : Cl PT 149 [mR 0, mI 1] (mkh μ c s) (fun r => r = (some (some (mI 0)), mkh μ c s)) := by
  refine ⟨_, PT_149, Nat.le_of_ble_eq_true rfl, ?_⟩
  show Rn PT none kX11_restore 0 [some (mR 0), some (mI (1))] [] (mkh μ c s) _
  refine rn_iload_n (k' := 1) rfl rfl rfl ?_
  refine rn_if_lt (k' := 2) rfl rfl (fun hc1 => ?_) (fun hc1 => ?_)
  · exfalso; omega
  · skip
    refine rn_iload_n (k' := 3) rfl rfl rfl ?_
    refine rn_iconst (k' := 4) rfl rfl ?_
    refine rn_icmp_ge (k' := 5) rfl rfl (fun hc2 => ?_) (fun hc2 => ?_)
    · exfalso; omega
    · skip
      refine rn_aload_n (k' := 6) rfl rfl rfl ?_
      refine rn_getR (k' := 7) rfl rfl K0_0 (by decide) rfl R0_0_5 ?_
      refine rn_iload_n (k' := 8) rfl rfl rfl ?_
      refine rn_aaload (k' := 9) rfl rfl K0_21 (by decide) (by decide) (by decide) rfl ?_
      refine rn_getZ (k' := 10) rfl rfl K0_38 (by decide) rfl ?_
      refine rn_if_ne (k' := 11) rfl rfl (fun hc3 => ?_) (fun hc3 => ?_)
      · exfalso; omega
      · skip
        refine rn_iconst (k' := 12) rfl rfl ?_
        refine rn_iret rfl (Or.inr (by omega)) ?_
        rfl
theorem i_X11_image {μ : Nat → Nat → Int} {c s : Nat} {a : Int} (hv : ¬ (0 ≤ a ∧ a ≤ 1)) : Cl PT 148 [mR 0, mI a] (mkh μ c s) (fun r => r = (some (some (mI 0)), mkh μ c s)) := by
  refine ⟨_, PT_148, Nat.le_of_ble_eq_true rfl, ?_⟩
  show Rn PT none kX11_image 0 [some (mR 0), some (mI (a))] [] (mkh μ c s) _
  refine rn_iload_n (k' := 1) rfl rfl rfl ?_
  refine rn_if_lt (k' := 2) rfl rfl (fun hc1 => ?_) (fun hc1 => ?_)
  · skip
    refine rn_iconst (k' := 6) rfl rfl ?_
    refine rn_iret rfl (Or.inr (by omega)) ?_
    rfl
  · skip
    refine rn_iload_n (k' := 3) rfl rfl rfl ?_
    refine rn_iconst (k' := 4) rfl rfl ?_
    refine rn_icmp_lt (k' := 5) rfl rfl (fun hc2 => ?_) (fun hc2 => ?_)
    · exfalso; omega
    · skip
      refine rn_iconst (k' := 6) rfl rfl ?_
      refine rn_iret rfl (Or.inr (by omega)) ?_
      rfl
theorem i_X11_restore {μ : Nat → Nat → Int} {c s : Nat} {a : Int} (hv : ¬ (0 ≤ a ∧ a ≤ 1)) : Cl PT 149 [mR 0, mI a] (mkh μ c s) (fun r => r = (some (some (mI 0)), mkh μ c s)) := by
  refine ⟨_, PT_149, Nat.le_of_ble_eq_true rfl, ?_⟩
  show Rn PT none kX11_restore 0 [some (mR 0), some (mI (a))] [] (mkh μ c s) _
  refine rn_iload_n (k' := 1) rfl rfl rfl ?_
  refine rn_if_lt (k' := 2) rfl rfl (fun hc1 => ?_) (fun hc1 => ?_)
  · skip
    refine rn_iconst (k' := 12) rfl rfl ?_
    refine rn_iret rfl (Or.inr (by omega)) ?_
    rfl
  · skip
    refine rn_iload_n (k' := 3) rfl rfl rfl ?_
    refine rn_iconst (k' := 4) rfl rfl ?_
    refine rn_icmp_ge (k' := 5) rfl rfl (fun hc2 => ?_) (fun hc2 => ?_)
    · skip
      refine rn_iconst (k' := 12) rfl rfl ?_
      refine rn_iret rfl (Or.inr (by omega)) ?_
      rfl
    · exfalso; omega
theorem i_X12_image {μ : Nat → Nat → Int} {c s : Nat} {a : Int} (hv : ¬ (0 ≤ a ∧ a ≤ 1)) : Cl PT 270 [mR 118, mI a] (mkh μ c s) (fun r => r = (some (some (mI 0)), mkh (m_set μ 118 0 0) c s)) := by
  refine ⟨_, PT_270, Nat.le_of_ble_eq_true rfl, ?_⟩
  show Rn PT none kX12_image 0 [some (mR 118), some (mI (a)), none] [] (mkh μ c s) _
  refine rn_aload_n (k' := 1) rfl rfl rfl ?_
  refine rn_iconst (k' := 2) rfl rfl ?_
  refine rn_putI (k' := 3) rfl rfl K0_118 (by decide) rfl ?_
  refine rn_iload_n (k' := 4) rfl rfl rfl ?_
  refine rn_iconst (k' := 5) rfl rfl ?_
  refine rn_iconst (k' := 6) rfl rfl ?_
  by_cases hq2 : 0 ≤ a ∧ a ≤ 1
  · exfalso; omega
  · refine rn_callP (k' := 7) (y := 167) (vs := [mI (a), mI (0), mI (1)]) (S' := []) (v := some (mI 0)) (h' := mkh (m_set μ 118 0 (0)) c s) rfl rfl rfl (by have hz : Cl PT 167 [mI (a), mI (0), mI (1)] (mkh (m_set μ 118 0 (0)) c s) (fun r => r = (some (some (mI (if 0 ≤ a ∧ a ≤ 1 then 1 else 0))), mkh (m_set μ 118 0 (0)) c s)) := c_X12_isIn (v := a) (lo := 0) (hi := 1) (μ := (m_set μ 118 0 (0))) (c := c) (s := s); rw [if_neg hq2] at hz; exact hz) ?_
    show Rn PT none kX12_image 7 [some (mR 118), some (mI (a)), none] [mI (0)] (mkh (m_set μ 118 0 (0)) c s) _
    refine rn_if_ne (k' := 8) rfl rfl (fun hc3 => ?_) (fun hc3 => ?_)
    · exfalso; omega
    · skip
      refine rn_iconst (k' := 9) rfl rfl ?_
      refine rn_iret rfl (Or.inr (by omega)) ?_
      rfl
theorem i_X12_restore {μ : Nat → Nat → Int} {c s : Nat} {a : Int} (hv : ¬ (0 ≤ a ∧ a ≤ 1)) : Cl PT 271 [mR 118, mI a] (mkh μ c s) (fun r => r = (some (some (mI 0)), mkh (m_set μ 118 0 0) c s)) := by
  refine ⟨_, PT_271, Nat.le_of_ble_eq_true rfl, ?_⟩
  show Rn PT none kX12_restore 0 [some (mR 118), some (mI (a)), none] [] (mkh μ c s) _
  refine rn_aload_n (k' := 1) rfl rfl rfl ?_
  refine rn_iconst (k' := 2) rfl rfl ?_
  refine rn_putI (k' := 3) rfl rfl K0_118 (by decide) rfl ?_
  refine rn_iload_n (k' := 4) rfl rfl rfl ?_
  refine rn_iconst (k' := 5) rfl rfl ?_
  refine rn_iconst (k' := 6) rfl rfl ?_
  by_cases hq2 : 0 ≤ a ∧ a ≤ 1
  · exfalso; omega
  · refine rn_callP (k' := 7) (y := 167) (vs := [mI (a), mI (0), mI (1)]) (S' := []) (v := some (mI 0)) (h' := mkh (m_set μ 118 0 (0)) c s) rfl rfl rfl (by have hz : Cl PT 167 [mI (a), mI (0), mI (1)] (mkh (m_set μ 118 0 (0)) c s) (fun r => r = (some (some (mI (if 0 ≤ a ∧ a ≤ 1 then 1 else 0))), mkh (m_set μ 118 0 (0)) c s)) := c_X12_isIn (v := a) (lo := 0) (hi := 1) (μ := (m_set μ 118 0 (0))) (c := c) (s := s); rw [if_neg hq2] at hz; exact hz) ?_
    show Rn PT none kX12_restore 7 [some (mR 118), some (mI (a)), none] [mI (0)] (mkh (m_set μ 118 0 (0)) c s) _
    refine rn_if_eq (k' := 8) rfl rfl (fun hc3 => ?_) (fun hc3 => ?_)
    · skip
      refine rn_iconst (k' := 14) rfl rfl ?_
      refine rn_iret rfl (Or.inr (by omega)) ?_
      rfl
    · exfalso; omega
set_option maxHeartbeats 4000000 in
theorem l_img1 {μ : Nat → Nat → Int} {c s : Nat} {a : Int} {Q : MR → Prop} (ha : 0 ≤ a ∧ a ≤ 1) (K : Rn PT none kX12_image 29 [some (mR 118), some (mI a), some (mI 657)] [] (mkh (m_upd μ 138 (pbn (μ 138) (657 * a).toNat (fun k => μ 120 k) 657)) c s) Q) : ∀ (d n : Nat) (k : Int) (U : Nat → Int), k = (n : Int) → (n : Int) + d = 657 → U = pbn (μ 138) (657 * a).toNat (fun k => μ 120 k) n → Rn PT none kX12_image 12 [some (mR 118), some (mI a), some (mI k)] [] (mkh (m_upd μ 138 U) c s) Q := by
  intro d
  induction d with
  | zero =>
    intro n k U ek hn hU
    subst ek
    refine rn_iload_n (k' := 13) rfl rfl rfl ?_
    refine rn_sipush (k' := 14) rfl rfl ?_
    refine rn_icmp_ge (k' := 15) rfl rfl (fun hc1 => ?_) (fun hc1 => ?_)
    · skip
      have hn2 : n = 657 := by omega
      subst hn2
      rw [hU]
      exact K
    · exfalso; omega
  | succ d ih =>
    intro n k U ek hn hU
    subst ek
    refine rn_iload_n (k' := 13) rfl rfl rfl ?_
    refine rn_sipush (k' := 14) rfl rfl ?_
    refine rn_icmp_ge (k' := 15) rfl rfl (fun hc1 => ?_) (fun hc1 => ?_)
    · exfalso; omega
    · skip
      refine rn_aload_n (k' := 16) rfl rfl rfl ?_
      refine rn_getR (k' := 17) rfl rfl K0_118 (by decide) rfl R0_118_45 ?_
      refine rn_sipush (k' := 18) rfl rfl ?_
      refine rn_iload_n (k' := 19) rfl rfl rfl ?_
      refine rn_imul (k' := 20) rfl rfl (by omega) ?_
      refine rn_iload_n (k' := 21) rfl rfl rfl ?_
      refine rn_iadd (k' := 22) rfl rfl (by omega) ?_
      refine rn_aload_n (k' := 23) rfl rfl rfl ?_
      refine rn_getR (k' := 24) rfl rfl K0_118 (by decide) rfl R0_118_6 ?_
      refine rn_iload_n (k' := 25) rfl rfl rfl ?_
      refine rn_iaload (k' := 26) rfl rfl K0_120 (by omega) (by omega) ?_
      show Rn PT none kX12_image 26 [some (mR 118), some (mI (a)), some (mI ((n : Int)))] [mI (μ 120 (n)), mI ((657 * a) + (n : Int)), mR 138] (mkh (m_upd μ 138 U) c s) _
      refine rn_iastore (k' := 27) rfl rfl K0_138 (by omega) (by omega) ?_
      refine rn_iinc (k' := 28) (L' := [some (mR 118), some (mI (a)), some (mI ((n : Int) + 1))]) rfl rfl rfl (by omega) rfl ?_
      refine rn_goto rfl ?_
      show Rn PT none kX12_image 12 [some (mR 118), some (mI (a)), some (mI ((n : Int) + 1))] [] (mkh (m_set (m_upd μ 138 U) 138 (((657 * a) + (n : Int)).toNat) (μ 120 (n))) c s) _
      rw [set_upd_eq]
      exact ih (n + 1) _ _ (by omega) (by omega) (by rw [show ((657 * a) + (n : Int)).toNat = (657 * a).toNat + n by omega, hU]; exact pbn_step (b := fun k => μ 120 k))
set_option maxHeartbeats 4000000 in
theorem l_img2 {μ : Nat → Nat → Int} {c s : Nat} {a : Int} {Q : MR → Prop} (ha : 0 ≤ a ∧ a ≤ 1) (K : Rn PT none kX12_image 48 [some (mR 118), some (mI a), some (mI 8)] [] (mkh (m_upd μ 139 (pbn (μ 139) (8 * a).toNat (fun k => μ 123 k) 8)) c s) Q) : ∀ (d n : Nat) (k : Int) (U : Nat → Int), k = (n : Int) → (n : Int) + d = 8 → U = pbn (μ 139) (8 * a).toNat (fun k => μ 123 k) n → Rn PT none kX12_image 31 [some (mR 118), some (mI a), some (mI k)] [] (mkh (m_upd μ 139 U) c s) Q := by
  intro d
  induction d with
  | zero =>
    intro n k U ek hn hU
    subst ek
    refine rn_iload_n (k' := 32) rfl rfl rfl ?_
    refine rn_bipush (k' := 33) rfl rfl ?_
    refine rn_icmp_ge (k' := 34) rfl rfl (fun hc1 => ?_) (fun hc1 => ?_)
    · skip
      have hn2 : n = 8 := by omega
      subst hn2
      rw [hU]
      exact K
    · exfalso; omega
  | succ d ih =>
    intro n k U ek hn hU
    subst ek
    refine rn_iload_n (k' := 32) rfl rfl rfl ?_
    refine rn_bipush (k' := 33) rfl rfl ?_
    refine rn_icmp_ge (k' := 34) rfl rfl (fun hc1 => ?_) (fun hc1 => ?_)
    · exfalso; omega
    · skip
      refine rn_aload_n (k' := 35) rfl rfl rfl ?_
      refine rn_getR (k' := 36) rfl rfl K0_118 (by decide) rfl R0_118_46 ?_
      refine rn_bipush (k' := 37) rfl rfl ?_
      refine rn_iload_n (k' := 38) rfl rfl rfl ?_
      refine rn_imul (k' := 39) rfl rfl (by omega) ?_
      refine rn_iload_n (k' := 40) rfl rfl rfl ?_
      refine rn_iadd (k' := 41) rfl rfl (by omega) ?_
      refine rn_aload_n (k' := 42) rfl rfl rfl ?_
      refine rn_getR (k' := 43) rfl rfl K0_118 (by decide) rfl R0_118_9 ?_
      refine rn_iload_n (k' := 44) rfl rfl rfl ?_
      refine rn_laload (k' := 45) rfl rfl K0_123 (by omega) (by omega) ?_
      show Rn PT none kX12_image 45 [some (mR 118), some (mI (a)), some (mI ((n : Int)))] [mJ (μ 123 (n)), mI ((8 * a) + (n : Int)), mR 139] (mkh (m_upd μ 139 U) c s) _
      refine rn_lastore (k' := 46) rfl rfl K0_139 (by omega) (by omega) ?_
      refine rn_iinc (k' := 47) (L' := [some (mR 118), some (mI (a)), some (mI ((n : Int) + 1))]) rfl rfl rfl (by omega) rfl ?_
      refine rn_goto rfl ?_
      show Rn PT none kX12_image 31 [some (mR 118), some (mI (a)), some (mI ((n : Int) + 1))] [] (mkh (m_set (m_upd μ 139 U) 139 (((8 * a) + (n : Int)).toNat) (μ 123 (n))) c s) _
      rw [set_upd_eq]
      exact ih (n + 1) _ _ (by omega) (by omega) (by rw [show ((8 * a) + (n : Int)).toNat = (8 * a).toNat + n by omega, hU]; exact pbn_step (b := fun k => μ 123 k))
set_option maxHeartbeats 4000000 in
theorem l_res1 {μ : Nat → Nat → Int} {c s : Nat} {a : Int} {Q : MR → Prop} (ha : 0 ≤ a ∧ a ≤ 1) (K : Rn PT none kX12_restore 34 [some (mR 118), some (mI a), some (mI 657)] [] (mkh (m_upd μ 120 (pbn (μ 120) 0 (fun k => μ 138 ((657 * a).toNat + k)) 657)) c s) Q) : ∀ (d n : Nat) (k : Int) (U : Nat → Int), k = (n : Int) → (n : Int) + d = 657 → U = pbn (μ 120) 0 (fun k => μ 138 ((657 * a).toNat + k)) n → Rn PT none kX12_restore 17 [some (mR 118), some (mI a), some (mI k)] [] (mkh (m_upd μ 120 U) c s) Q := by
  intro d
  induction d with
  | zero =>
    intro n k U ek hn hU
    subst ek
    refine rn_iload_n (k' := 18) rfl rfl rfl ?_
    refine rn_sipush (k' := 19) rfl rfl ?_
    refine rn_icmp_ge (k' := 20) rfl rfl (fun hc1 => ?_) (fun hc1 => ?_)
    · skip
      have hn2 : n = 657 := by omega
      subst hn2
      rw [hU]
      exact K
    · exfalso; omega
  | succ d ih =>
    intro n k U ek hn hU
    subst ek
    refine rn_iload_n (k' := 18) rfl rfl rfl ?_
    refine rn_sipush (k' := 19) rfl rfl ?_
    refine rn_icmp_ge (k' := 20) rfl rfl (fun hc1 => ?_) (fun hc1 => ?_)
    · exfalso; omega
    · skip
      refine rn_aload_n (k' := 21) rfl rfl rfl ?_
      refine rn_getR (k' := 22) rfl rfl K0_118 (by decide) rfl R0_118_6 ?_
      refine rn_iload_n (k' := 23) rfl rfl rfl ?_
      refine rn_aload_n (k' := 24) rfl rfl rfl ?_
      refine rn_getR (k' := 25) rfl rfl K0_118 (by decide) rfl R0_118_45 ?_
      refine rn_sipush (k' := 26) rfl rfl ?_
      refine rn_iload_n (k' := 27) rfl rfl rfl ?_
      refine rn_imul (k' := 28) rfl rfl (by omega) ?_
      refine rn_iload_n (k' := 29) rfl rfl rfl ?_
      refine rn_iadd (k' := 30) rfl rfl (by omega) ?_
      refine rn_iaload (k' := 31) rfl rfl K0_138 (by omega) (by omega) ?_
      show Rn PT none kX12_restore 31 [some (mR 118), some (mI (a)), some (mI ((n : Int)))] [mI (μ 138 (((657 * a) + (n : Int)).toNat)), mI ((n : Int)), mR 120] (mkh (m_upd μ 120 U) c s) _
      refine rn_iastore (k' := 32) rfl rfl K0_120 (by omega) (by omega) ?_
      refine rn_iinc (k' := 33) (L' := [some (mR 118), some (mI (a)), some (mI ((n : Int) + 1))]) rfl rfl rfl (by omega) rfl ?_
      refine rn_goto rfl ?_
      show Rn PT none kX12_restore 17 [some (mR 118), some (mI (a)), some (mI ((n : Int) + 1))] [] (mkh (m_set (m_upd μ 120 U) 120 n (μ 138 (((657 * a) + (n : Int)).toNat))) c s) _
      rw [set_upd_eq]
      exact ih (n + 1) _ _ (by omega) (by omega) (by rw [show ((657 * a) + (n : Int)).toNat = (657 * a).toNat + n by omega, hU, show fs (pbn (μ 120) 0 (fun k => μ 138 ((657 * a).toNat + k)) n) n = fs (pbn (μ 120) 0 (fun k => μ 138 ((657 * a).toNat + k)) n) (0 + n) by rw [Nat.zero_add]]; exact pbn_step (b := fun k => μ 138 ((657 * a).toNat + k)))
set_option maxHeartbeats 4000000 in
theorem l_res2 {μ : Nat → Nat → Int} {c s : Nat} {a : Int} {Q : MR → Prop} (ha : 0 ≤ a ∧ a ≤ 1) (K : Rn PT none kX12_restore 53 [some (mR 118), some (mI a), some (mI 8)] [] (mkh (m_upd μ 123 (pbn (μ 123) 0 (fun k => μ 139 ((8 * a).toNat + k)) 8)) c s) Q) : ∀ (d n : Nat) (k : Int) (U : Nat → Int), k = (n : Int) → (n : Int) + d = 8 → U = pbn (μ 123) 0 (fun k => μ 139 ((8 * a).toNat + k)) n → Rn PT none kX12_restore 36 [some (mR 118), some (mI a), some (mI k)] [] (mkh (m_upd μ 123 U) c s) Q := by
  intro d
  induction d with
  | zero =>
    intro n k U ek hn hU
    subst ek
    refine rn_iload_n (k' := 37) rfl rfl rfl ?_
    refine rn_bipush (k' := 38) rfl rfl ?_
    refine rn_icmp_ge (k' := 39) rfl rfl (fun hc1 => ?_) (fun hc1 => ?_)
    · skip
      have hn2 : n = 8 := by omega
      subst hn2
      rw [hU]
      exact K
    · exfalso; omega
  | succ d ih =>
    intro n k U ek hn hU
    subst ek
    refine rn_iload_n (k' := 37) rfl rfl rfl ?_
    refine rn_bipush (k' := 38) rfl rfl ?_
    refine rn_icmp_ge (k' := 39) rfl rfl (fun hc1 => ?_) (fun hc1 => ?_)
    · exfalso; omega
    · skip
      refine rn_aload_n (k' := 40) rfl rfl rfl ?_
      refine rn_getR (k' := 41) rfl rfl K0_118 (by decide) rfl R0_118_9 ?_
      refine rn_iload_n (k' := 42) rfl rfl rfl ?_
      refine rn_aload_n (k' := 43) rfl rfl rfl ?_
      refine rn_getR (k' := 44) rfl rfl K0_118 (by decide) rfl R0_118_46 ?_
      refine rn_bipush (k' := 45) rfl rfl ?_
      refine rn_iload_n (k' := 46) rfl rfl rfl ?_
      refine rn_imul (k' := 47) rfl rfl (by omega) ?_
      refine rn_iload_n (k' := 48) rfl rfl rfl ?_
      refine rn_iadd (k' := 49) rfl rfl (by omega) ?_
      refine rn_laload (k' := 50) rfl rfl K0_139 (by omega) (by omega) ?_
      show Rn PT none kX12_restore 50 [some (mR 118), some (mI (a)), some (mI ((n : Int)))] [mJ (μ 139 (((8 * a) + (n : Int)).toNat)), mI ((n : Int)), mR 123] (mkh (m_upd μ 123 U) c s) _
      refine rn_lastore (k' := 51) rfl rfl K0_123 (by omega) (by omega) ?_
      refine rn_iinc (k' := 52) (L' := [some (mR 118), some (mI (a)), some (mI ((n : Int) + 1))]) rfl rfl rfl (by omega) rfl ?_
      refine rn_goto rfl ?_
      show Rn PT none kX12_restore 36 [some (mR 118), some (mI (a)), some (mI ((n : Int) + 1))] [] (mkh (m_set (m_upd μ 123 U) 123 n (μ 139 (((8 * a) + (n : Int)).toNat))) c s) _
      rw [set_upd_eq]
      exact ih (n + 1) _ _ (by omega) (by omega) (by rw [show ((8 * a) + (n : Int)).toNat = (8 * a).toNat + n by omega, hU, show fs (pbn (μ 123) 0 (fun k => μ 139 ((8 * a).toNat + k)) n) n = fs (pbn (μ 123) 0 (fun k => μ 139 ((8 * a).toNat + k)) n) (0 + n) by rw [Nat.zero_add]]; exact pbn_step (b := fun k => μ 139 ((8 * a).toNat + k)))
set_option maxHeartbeats 4000000 in
theorem x_X12_image {μ : Nat → Nat → Int} {c s : Nat} {a : Int} (ha : 0 ≤ a ∧ a ≤ 1) : Cl PT 270 [mR 118, mI a] (mkh μ c s) (fun r => r = (some (some (mI 1)), mkh (m_set (m_upd (m_upd (m_set μ 118 0 0) 138 (pbn (μ 138) (657 * a).toNat (fun k => μ 120 k) 657)) 139 (pbn (μ 139) (8 * a).toNat (fun k => μ 123 k) 8)) 140 a.toNat 1) c s)) := by
  refine ⟨_, PT_270, Nat.le_of_ble_eq_true rfl, ?_⟩
  show Rn PT none kX12_image 0 [some (mR 118), some (mI (a)), none] [] (mkh μ c s) _
  refine rn_aload_n (k' := 1) rfl rfl rfl ?_
  refine rn_iconst (k' := 2) rfl rfl ?_
  refine rn_putI (k' := 3) rfl rfl K0_118 (by decide) rfl ?_
  refine rn_iload_n (k' := 4) rfl rfl rfl ?_
  refine rn_iconst (k' := 5) rfl rfl ?_
  refine rn_iconst (k' := 6) rfl rfl ?_
  by_cases hq2 : 0 ≤ a ∧ a ≤ 1
  · refine rn_callP (k' := 7) (y := 167) (vs := [mI (a), mI (0), mI (1)]) (S' := []) (v := some (mI 1)) (h' := mkh (m_set μ 118 0 (0)) c s) rfl rfl rfl (by have hz : Cl PT 167 [mI (a), mI (0), mI (1)] (mkh (m_set μ 118 0 (0)) c s) (fun r => r = (some (some (mI (if 0 ≤ a ∧ a ≤ 1 then 1 else 0))), mkh (m_set μ 118 0 (0)) c s)) := c_X12_isIn (v := a) (lo := 0) (hi := 1) (μ := (m_set μ 118 0 (0))) (c := c) (s := s); rw [if_pos hq2] at hz; exact hz) ?_
    show Rn PT none kX12_image 7 [some (mR 118), some (mI (a)), none] [mI (1)] (mkh (m_set μ 118 0 (0)) c s) _
    refine rn_if_ne (k' := 8) rfl rfl (fun hc3 => ?_) (fun hc3 => ?_)
    · skip
      refine rn_iconst (k' := 11) rfl rfl ?_
      refine rn_istore_n (k' := 12) (L' := [some (mR 118), some (mI (a)), some (mI (0))]) rfl rfl (Nat.le_of_ble_eq_true rfl) rfl ?_
      have h1 := fun K => l_img1 (μ := m_set μ 118 0 0) (c := c) (s := s) (a := a) (Q := fun r => r = (some (some (mI 1)), mkh (m_set (m_upd (m_upd (m_set μ 118 0 0) 138 (pbn (μ 138) (657 * a).toNat (fun k => μ 120 k) 657)) 139 (pbn (μ 139) (8 * a).toNat (fun k => μ 123 k) 8)) 140 a.toNat 1) c s)) ha K 657 0 0 (m_set μ 118 0 0 138) rfl rfl pbn_0.symm
      rw [upd_self] at h1
      refine h1 ?_
      refine rn_iconst (k' := 30) rfl rfl ?_
      refine rn_istore_n (k' := 31) (L' := [some (mR 118), some (mI (a)), some (mI (0))]) rfl rfl (Nat.le_of_ble_eq_true rfl) rfl ?_
      have h2 := fun K => l_img2 (μ := (m_upd (m_set μ 118 0 0) 138 (pbn (μ 138) (657 * a).toNat (fun k => μ 120 k) 657))) (c := c) (s := s) (a := a) (Q := fun r => r = (some (some (mI 1)), mkh (m_set (m_upd (m_upd (m_set μ 118 0 0) 138 (pbn (μ 138) (657 * a).toNat (fun k => μ 120 k) 657)) 139 (pbn (μ 139) (8 * a).toNat (fun k => μ 123 k) 8)) 140 a.toNat 1) c s)) ha K 8 0 0 ((m_upd (m_set μ 118 0 0) 138 (pbn (μ 138) (657 * a).toNat (fun k => μ 120 k) 657)) 139) rfl rfl pbn_0.symm
      rw [upd_self] at h2
      refine h2 ?_
      refine rn_aload_n (k' := 49) rfl rfl rfl ?_
      refine rn_getR (k' := 50) rfl rfl K0_118 (by decide) rfl R0_118_47 ?_
      refine rn_iload_n (k' := 51) rfl rfl rfl ?_
      refine rn_iconst (k' := 52) rfl rfl ?_
      refine rn_zastore (k' := 53) rfl rfl K0_140 (by omega) (by omega) (by omega) ?_
      refine rn_iconst (k' := 54) rfl rfl ?_
      refine rn_iret rfl (Or.inr (by omega)) ?_
      rfl
    · exfalso; omega
  · exfalso; omega
set_option maxHeartbeats 4000000 in
theorem x_X12_restore {μ : Nat → Nat → Int} {c s : Nat} {a : Int} (ha : 0 ≤ a ∧ a ≤ 1) (hu : μ 140 a.toNat = 1) : Cl PT 271 [mR 118, mI a] (mkh μ c s) (fun r => r = (some (some (mI 1)), mkh (m_set (m_upd (m_upd (m_set μ 118 0 0) 120 (pbn (μ 120) 0 (fun k => μ 138 ((657 * a).toNat + k)) 657)) 123 (pbn (μ 123) 0 (fun k => μ 139 ((8 * a).toNat + k)) 8)) 118 34 0) c s)) := by
  refine ⟨_, PT_271, Nat.le_of_ble_eq_true rfl, ?_⟩
  show Rn PT none kX12_restore 0 [some (mR 118), some (mI (a)), none] [] (mkh μ c s) _
  refine rn_aload_n (k' := 1) rfl rfl rfl ?_
  refine rn_iconst (k' := 2) rfl rfl ?_
  refine rn_putI (k' := 3) rfl rfl K0_118 (by decide) rfl ?_
  refine rn_iload_n (k' := 4) rfl rfl rfl ?_
  refine rn_iconst (k' := 5) rfl rfl ?_
  refine rn_iconst (k' := 6) rfl rfl ?_
  by_cases hq2 : 0 ≤ a ∧ a ≤ 1
  · refine rn_callP (k' := 7) (y := 167) (vs := [mI (a), mI (0), mI (1)]) (S' := []) (v := some (mI 1)) (h' := mkh (m_set μ 118 0 (0)) c s) rfl rfl rfl (by have hz : Cl PT 167 [mI (a), mI (0), mI (1)] (mkh (m_set μ 118 0 (0)) c s) (fun r => r = (some (some (mI (if 0 ≤ a ∧ a ≤ 1 then 1 else 0))), mkh (m_set μ 118 0 (0)) c s)) := c_X12_isIn (v := a) (lo := 0) (hi := 1) (μ := (m_set μ 118 0 (0))) (c := c) (s := s); rw [if_pos hq2] at hz; exact hz) ?_
    show Rn PT none kX12_restore 7 [some (mR 118), some (mI (a)), none] [mI (1)] (mkh (m_set μ 118 0 (0)) c s) _
    refine rn_if_eq (k' := 8) rfl rfl (fun hc3 => ?_) (fun hc3 => ?_)
    · exfalso; omega
    · skip
      refine rn_aload_n (k' := 9) rfl rfl rfl ?_
      refine rn_getR (k' := 10) rfl rfl K0_118 (by decide) rfl R0_118_47 ?_
      refine rn_iload_n (k' := 11) rfl rfl rfl ?_
      refine rn_zaload (k' := 12) rfl rfl K0_140 (by omega) (by omega) ?_
      show Rn PT none kX12_restore 12 [some (mR 118), some (mI (a)), none] [mI (μ 140 ((a).toNat))] (mkh (m_set μ 118 0 (0)) c s) _
      refine rn_if_ne (k' := 13) rfl rfl (fun hc4 => ?_) (fun hc4 => ?_)
      · skip
        refine rn_iconst (k' := 16) rfl rfl ?_
        refine rn_istore_n (k' := 17) (L' := [some (mR 118), some (mI (a)), some (mI (0))]) rfl rfl (Nat.le_of_ble_eq_true rfl) rfl ?_
        have h1 := fun K => l_res1 (μ := m_set μ 118 0 0) (c := c) (s := s) (a := a) (Q := fun r => r = (some (some (mI 1)), mkh (m_set (m_upd (m_upd (m_set μ 118 0 0) 120 (pbn (μ 120) 0 (fun k => μ 138 ((657 * a).toNat + k)) 657)) 123 (pbn (μ 123) 0 (fun k => μ 139 ((8 * a).toNat + k)) 8)) 118 34 0) c s)) ha K 657 0 0 (m_set μ 118 0 0 120) rfl rfl pbn_0.symm
        rw [upd_self] at h1
        refine h1 ?_
        refine rn_iconst (k' := 35) rfl rfl ?_
        refine rn_istore_n (k' := 36) (L' := [some (mR 118), some (mI (a)), some (mI (0))]) rfl rfl (Nat.le_of_ble_eq_true rfl) rfl ?_
        have h2 := fun K => l_res2 (μ := (m_upd (m_set μ 118 0 0) 120 (pbn (μ 120) 0 (fun k => μ 138 ((657 * a).toNat + k)) 657))) (c := c) (s := s) (a := a) (Q := fun r => r = (some (some (mI 1)), mkh (m_set (m_upd (m_upd (m_set μ 118 0 0) 120 (pbn (μ 120) 0 (fun k => μ 138 ((657 * a).toNat + k)) 657)) 123 (pbn (μ 123) 0 (fun k => μ 139 ((8 * a).toNat + k)) 8)) 118 34 0) c s)) ha K 8 0 0 ((m_upd (m_set μ 118 0 0) 120 (pbn (μ 120) 0 (fun k => μ 138 ((657 * a).toNat + k)) 657)) 123) rfl rfl pbn_0.symm
        rw [upd_self] at h2
        refine h2 ?_
        refine rn_aload_n (k' := 54) rfl rfl rfl ?_
        refine rn_iconst (k' := 55) rfl rfl ?_
        refine rn_putI (k' := 56) rfl rfl K0_118 (by decide) rfl ?_
        refine rn_iconst (k' := 57) rfl rfl ?_
        refine rn_iret rfl (Or.inr (by omega)) ?_
        rfl
      · exfalso; omega
  · exfalso; omega
theorem n_X12_restore {μ : Nat → Nat → Int} {c s : Nat} {a : Int} (ha : 0 ≤ a ∧ a ≤ 1) (hu : μ 140 a.toNat = 0) : Cl PT 271 [mR 118, mI a] (mkh μ c s) (fun r => r = (some (some (mI 0)), mkh (m_set μ 118 0 0) c s)) := by
  refine ⟨_, PT_271, Nat.le_of_ble_eq_true rfl, ?_⟩
  show Rn PT none kX12_restore 0 [some (mR 118), some (mI (a)), none] [] (mkh μ c s) _
  refine rn_aload_n (k' := 1) rfl rfl rfl ?_
  refine rn_iconst (k' := 2) rfl rfl ?_
  refine rn_putI (k' := 3) rfl rfl K0_118 (by decide) rfl ?_
  refine rn_iload_n (k' := 4) rfl rfl rfl ?_
  refine rn_iconst (k' := 5) rfl rfl ?_
  refine rn_iconst (k' := 6) rfl rfl ?_
  by_cases hq2 : 0 ≤ a ∧ a ≤ 1
  · refine rn_callP (k' := 7) (y := 167) (vs := [mI (a), mI (0), mI (1)]) (S' := []) (v := some (mI 1)) (h' := mkh (m_set μ 118 0 (0)) c s) rfl rfl rfl (by have hz : Cl PT 167 [mI (a), mI (0), mI (1)] (mkh (m_set μ 118 0 (0)) c s) (fun r => r = (some (some (mI (if 0 ≤ a ∧ a ≤ 1 then 1 else 0))), mkh (m_set μ 118 0 (0)) c s)) := c_X12_isIn (v := a) (lo := 0) (hi := 1) (μ := (m_set μ 118 0 (0))) (c := c) (s := s); rw [if_pos hq2] at hz; exact hz) ?_
    show Rn PT none kX12_restore 7 [some (mR 118), some (mI (a)), none] [mI (1)] (mkh (m_set μ 118 0 (0)) c s) _
    refine rn_if_eq (k' := 8) rfl rfl (fun hc3 => ?_) (fun hc3 => ?_)
    · exfalso; omega
    · skip
      refine rn_aload_n (k' := 9) rfl rfl rfl ?_
      refine rn_getR (k' := 10) rfl rfl K0_118 (by decide) rfl R0_118_47 ?_
      refine rn_iload_n (k' := 11) rfl rfl rfl ?_
      refine rn_zaload (k' := 12) rfl rfl K0_140 (by omega) (by omega) ?_
      show Rn PT none kX12_restore 12 [some (mR 118), some (mI (a)), none] [mI (μ 140 ((a).toNat))] (mkh (m_set μ 118 0 (0)) c s) _
      refine rn_if_ne (k' := 13) rfl rfl (fun hc4 => ?_) (fun hc4 => ?_)
      · exfalso; omega
      · skip
        refine rn_iconst (k' := 14) rfl rfl ?_
        refine rn_iret rfl (Or.inr (by omega)) ?_
        rfl
  · exfalso; omega
