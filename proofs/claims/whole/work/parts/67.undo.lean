variable {N : Int}
/-! ===== printed by wip/whole/gen67.py: pair: undo ===== -/
theorem tkb_o {μ : Nat → Nat → Int} {p a : Nat} (ha : a < 14 ∨ (16 < a ∧ a < 82) ∨ 82 < a) : tkb μ p a = μ a := by
  unfold tkb
  rw [scp_o (by omega) (by omega) (by omega), row_set (by omega), row_set (by omega)]
theorem tkb_14 {μ : Nat → Nat → Int} {p : Nat} : tkb μ p 14 = cpo (μ 14) (μ (88 + 3 * p)) := by
  unfold tkb
  rw [scp_0, row_set (by decide), row_set (by decide), row_set (by omega), row_set (by omega)]
theorem tkb_15 {μ : Nat → Nat → Int} {p : Nat} : tkb μ p 15 = fl (μ (89 + 3 * p)) (μ 15) 8 := by
  have h : tkb μ p (14 + 1) = _ := scp_1
  rw [show (14 + 1 : Nat) = 15 from rfl, show 88 + 3 * p + 1 = 89 + 3 * p by omega, row_set (by omega), row_set (by omega), row_set (by decide), row_set (by decide)] at h
  exact h
theorem tkb_16 {μ : Nat → Nat → Int} {p : Nat} : tkb μ p 16 = fl (μ (90 + 3 * p)) (μ 16) 8 := by
  have h : tkb μ p (14 + 2) = _ := scp_2
  rw [show (14 + 2 : Nat) = 16 from rfl, show 88 + 3 * p + 2 = 90 + 3 * p by omega, row_set (by omega), row_set (by omega), row_set (by decide), row_set (by decide)] at h
  exact h
theorem tkb_82 {μ : Nat → Nat → Int} {p : Nat} (j : Nat) : tkb μ p 82 j = if j = 6 then μ 82 6 - 1 else if j = 5 then μ 82 5 - 1 else μ 82 j := by
  unfold tkb
  rw [scp_o (by decide) (by decide) (by decide), row_set_eq, row_set_eq]
  rfl
theorem undo_inv {μ ν : Nat → Nat → Int} {p : Nat} (hI : Inv N μ) (hN : 0 ≤ N ∧ N ≤ 512) (hu : 0 < μ 82 6) (hp : (p : Int) = (μ 82 5 - 1) % 8) (hν : rm kL ν = rm kL (tkb μ p)) (e34 : ν 118 34 = μ 82 6 - 1) (e131 : ν 131 = μ 131) (e120 : ∀ k, k < 19 → ν 120 (517 + k) = μ 131 (19 * (μ 82 6 - 1).toNat + k)) : Inv N ν := by
  have h8 := hI.land.2.2.2.2.2.1.2
  have hU := hI.undo
  obtain ⟨⟨u1, u2, u3⟩, u4, u5⟩ := hU
  have kc : ∀ a j, (a < 14 ∨ (16 < a ∧ a < 82) ∨ 82 < a) → kL a j = true → ν a j = μ a j := fun a j ha h => by
    rw [rm_cell hν h, tkb_o ha]
  have kr : ∀ a, (a < 14 ∨ (16 < a ∧ a < 82) ∨ 82 < a) → (∀ j, kL a j = true) → ν a = μ a := fun a ha h => by
    funext j
    exact kc a j ha (h j)
  have e6 := kr 6 (by omega) (fun _ => rfl)
  have n14 : ν 14 = cpo (μ 14) (μ (88 + 3 * p)) := by rw [rm_row hν (a := 14) (fun _ => rfl), tkb_14]
  have n15 : ν 15 = fl (μ (89 + 3 * p)) (μ 15) 8 := by rw [rm_row hν (a := 15) (fun _ => rfl), tkb_15]
  have n16 : ν 16 = fl (μ (90 + 3 * p)) (μ 16) 8 := by rw [rm_row hν (a := 16) (fun _ => rfl), tkb_16]
  have n5 : ν 82 5 = μ 82 5 - 1 := by rw [rm_cell hν rfl, tkb_82, if_neg (by decide), if_pos rfl]
  have n6 : ν 82 6 = μ 82 6 - 1 := by rw [rm_cell hν rfl, tkb_82, if_pos rfl]
  have n9 : ν 82 9 = μ 82 9 := by rw [rm_cell hν rfl, tkb_82, if_neg (by decide), if_neg (by decide)]
  have hsc := hI.scene
  have hSC := u5 (μ 82 6 - 1).toNat p (by omega) (by omega)
  have kp : ∀ a, 88 ≤ a → a ≤ 111 → ν a = μ a := fun a h1 h2 => kr a (by omega) (fun j => by
    have h3 := mJ_past (j := j) h1 h2
    unfold kM kJ at h3
    unfold kL
    rw [Bool.and_eq_true_iff] at h3 ⊢
    exact ⟨(Bool.and_eq_true_iff.mp h3.1).1, h3.2⟩)
  have kk : ∀ a, 22 ≤ a → a ≤ 53 → ν a = μ a := fun a h1 h2 => kr a (by omega) (fun j => by
    have h3 := mM_kept (j := j) h1 h2
    unfold kM kJ at h3
    unfold kL
    rw [Bool.and_eq_true_iff] at h3 ⊢
    exact ⟨(Bool.and_eq_true_iff.mp h3.1).1, h3.2⟩)
  have k120 : ∀ j, (j < 517 ∨ 536 ≤ j) → kL 120 j = true := fun j hj => mM_120 hj
  refine Inv.mk (hI.tape.congr (kc 1 1 (by omega) rfl) (kr 2 (by omega) (fun _ => rfl)) (kc 118 2 (by omega) rfl) (kr 119 (by omega) (fun _ => rfl))) (hI.fault.congr (kc 3 2 (by omega) rfl) (kc 118 15 (by omega) rfl))
    (hI.land.congr e6 (kr 7 (by omega) (fun _ => rfl)) (kr 8 (by omega) (fun _ => rfl)) (kr 9 (by omega) (fun _ => rfl)) (kr 10 (by omega) (fun _ => rfl)) (fun j hj => kc 120 j (by omega) (k120 j (Or.inl hj))))
    ?_ (hI.last.congr (kc 0 14 (by omega) rfl) (kc 118 31 (by omega) rfl) (kr 130 (by omega) (fun _ => rfl)) (kr 116 (by omega) (fun _ => rfl)) (kc 0 16 (by omega) rfl) (kc 118 39 (by omega) rfl) (kr 135 (by omega) (fun _ => rfl)) (kr 117 (by omega) (fun _ => rfl)) (kc 112 5 (by omega) rfl) (kc 118 37 (by omega) rfl) (kr 134 (by omega) (fun _ => rfl)) (kr 115 (by omega) (fun _ => rfl)) n9 (kc 118 44 (by omega) rfl) (kr 136 (by omega) (fun _ => rfl)) (kr 87 (by omega) (fun _ => rfl)))
    (hI.plan.congr e6 (kr 17 (by omega) (fun _ => rfl)) (kr 18 (by omega) (fun _ => rfl)) (kr 19 (by omega) (fun _ => rfl)) (kr 20 (by omega) (fun _ => rfl)) (fun j h1 _ => kc 120 j (by omega) (k120 j (Or.inr h1))))
    (hI.names.congr h8 e6 (kr 11 (by omega) (fun _ => rfl)) (fun j _ => kc 123 j (by omega) rfl)) (by rw [n14]; exact hSC.2.2.1.2) ?_ (hI.kept.congr kk (kr 138 (by omega) (fun _ => rfl)) (kr 139 (by omega) (fun _ => rfl)) (kr 140 (by omega) (fun _ => rfl))) (hI.words.congr (kr 4 (by omega) (fun _ => rfl)) (kr 124 (by omega) (fun _ => rfl))) (hI.fresh.congr (kr 55 (by omega) (fun _ => rfl)) (kr 60 (by omega) (fun _ => rfl)) (kr 61 (by omega) (fun _ => rfl))) (by unfold I_flag; rw [e6]; exact hI.flag)
  · refine scene_of_SC (N := N) (sc := μ (88 + 3 * p)) (cl := μ (89 + 3 * p)) (hd := μ (90 + 3 * p)) ?_ (by omega) (by rw [e6]; exact h8) (by rw [n14]; rfl) (by rw [n14]; rfl) (by rw [n14]; rfl) (fun j hj => by rw [n15, fl_lt hj]) (fun j hj => by rw [n16, fl_lt hj]) (fun j hj => by rw [n15, fl_8 hj]; exact hsc.2.2.2.2.2.2.1 j) (fun j hj => by rw [n16, fl_8 hj]; exact hsc.2.2.2.2.2.2.2.1 j) (by rw [e6]; exact hsc.2.2.2.2.2.2.2.2.2.2.2.2)
    rw [e6]
    exact hSC.congr h8 (fun k hk => e120 k hk)
  · refine ⟨⟨by omega, by omega, by omega⟩, by omega, fun i t hi ht => ?_⟩
    rw [e6, kp _ (by omega) (by omega), kp _ (by omega) (by omega), kp _ (by omega) (by omega), e131]
    exact u5 i t (by omega) (by omega)
set_option maxHeartbeats 4000000 in
theorem l_undo {μ : Nat → Nat → Int} {c s : Nat} (h34 : 0 ≤ μ 118 34 ∧ μ 118 34 ≤ 7) : ∀ (d n : Nat) (k : Int) (T : Nat → Int), k = (n : Int) → (n : Int) + d = 19 → T = pbn (μ 120) 517 (fun k => μ 131 ((19 * μ 118 34).toNat + k)) n → Rn PT none kX12_undo 16 [some (mR 118), some (mI k)] [] (mkh (m_upd μ 120 T) c s) (fun r => r = (some (some (mI (μ 118 34))), mkh (m_upd μ 120 (pbn (μ 120) 517 (fun k => μ 131 ((19 * μ 118 34).toNat + k)) 19)) c s)) := by
  intro d
  induction d with
  | zero =>
    intro n k T ek hn hT
    subst ek
    refine rn_iload_n (k' := 17) rfl rfl rfl ?_
    refine rn_bipush (k' := 18) rfl rfl ?_
    refine rn_icmp_ge (k' := 19) rfl rfl (fun hc1 => ?_) (fun hc1 => ?_)
    · skip
      refine rn_aload_n (k' := 37) rfl rfl rfl ?_
      refine rn_getI (k' := 38) rfl rfl K0_118 (by decide) rfl ?_
      show Rn PT none kX12_undo 38 [some (mR 118), some (mI ((n : Int)))] [mI (μ 118 34)] (mkh (m_upd μ 120 T) c s) _
      refine rn_iret rfl (Or.inl rfl) ?_
      rw [hT, show n = 19 by omega]
    · exfalso; omega
  | succ d ih =>
    intro n k T ek hn hT
    subst ek
    refine rn_iload_n (k' := 17) rfl rfl rfl ?_
    refine rn_bipush (k' := 18) rfl rfl ?_
    refine rn_icmp_ge (k' := 19) rfl rfl (fun hc1 => ?_) (fun hc1 => ?_)
    · exfalso; omega
    · skip
      refine rn_aload_n (k' := 20) rfl rfl rfl ?_
      refine rn_getR (k' := 21) rfl rfl K0_118 (by decide) rfl R0_118_6 ?_
      refine rn_sipush (k' := 22) rfl rfl ?_
      refine rn_iload_n (k' := 23) rfl rfl rfl ?_
      refine rn_iadd (k' := 24) rfl rfl (by omega) ?_
      refine rn_aload_n (k' := 25) rfl rfl rfl ?_
      refine rn_getR (k' := 26) rfl rfl K0_118 (by decide) rfl R0_118_32 ?_
      refine rn_bipush (k' := 27) rfl rfl ?_
      refine rn_aload_n (k' := 28) rfl rfl rfl ?_
      refine rn_getI (k' := 29) rfl rfl K0_118 (by decide) rfl ?_
      show Rn PT none kX12_undo 29 [some (mR 118), some (mI ((n : Int)))] [mI (μ 118 34), mI (19), mR 131, mI (517 + (n : Int)), mR 120] (mkh (m_upd μ 120 T) c s) _
      refine rn_imul (k' := 30) rfl rfl (by omega) ?_
      refine rn_iload_n (k' := 31) rfl rfl rfl ?_
      refine rn_iadd (k' := 32) rfl rfl (by omega) ?_
      refine rn_iaload (k' := 33) rfl rfl K0_131 (by omega) (by omega) ?_
      show Rn PT none kX12_undo 33 [some (mR 118), some (mI ((n : Int)))] [mI (μ 131 (((19 * (μ 118 34)) + (n : Int)).toNat)), mI (517 + (n : Int)), mR 120] (mkh (m_upd μ 120 T) c s) _
      refine rn_iastore (k' := 34) rfl rfl K0_120 (by omega) (by omega) ?_
      refine rn_iinc (k' := 35) (L' := [some (mR 118), some (mI ((n : Int) + 1))]) rfl rfl rfl (by omega) rfl ?_
      refine rn_goto rfl ?_
      show Rn PT none kX12_undo 16 [some (mR 118), some (mI ((n : Int) + 1))] [] (mkh (m_set (m_upd μ 120 T) 120 (517 + n) (μ 131 (((19 * (μ 118 34)) + (n : Int)).toNat))) c s) _
      rw [set_upd_eq]
      exact ih (n + 1) _ _ (by omega) (by omega) (by rw [show ((19 * μ 118 34) + (n : Int)).toNat = (19 * μ 118 34).toNat + n by omega, hT]; exact pbn_step (b := fun k => μ 131 ((19 * μ 118 34).toNat + k)))
theorem x_X12_undo {μ : Nat → Nat → Int} {c s : Nat} (h34 : 1 ≤ μ 118 34 ∧ μ 118 34 ≤ 8) : Cl PT 239 [mR 118] (mkh μ c s) (fun r => r = (some (some (mI (μ 118 34 - 1))), mkh (m_upd (m_set (m_set μ 118 0 0) 118 34 (μ 118 34 - 1)) 120 (pbn (μ 120) 517 (fun k => μ 131 ((19 * (μ 118 34 - 1)).toNat + k)) 19)) c s)) := by
  refine ⟨_, PT_239, Nat.le_of_ble_eq_true rfl, ?_⟩
  show Rn PT none kX12_undo 0 [some (mR 118), none] [] (mkh μ c s) _
  refine rn_aload_n (k' := 1) rfl rfl rfl ?_
  refine rn_iconst (k' := 2) rfl rfl ?_
  refine rn_putI (k' := 3) rfl rfl K0_118 (by decide) rfl ?_
  refine rn_aload_n (k' := 4) rfl rfl rfl ?_
  refine rn_getI (k' := 5) rfl rfl K0_118 (by decide) rfl ?_
  show Rn PT none kX12_undo 5 [some (mR 118), none] [mI (μ 118 34)] (mkh (m_set μ 118 0 (0)) c s) _
  refine rn_if_ne (k' := 6) rfl rfl (fun hc2 => ?_) (fun hc2 => ?_)
  · skip
    refine rn_aload_n (k' := 9) rfl rfl rfl ?_
    refine rn_dupR (k' := 10) rfl rfl ?_
    refine rn_getI (k' := 11) rfl rfl K0_118 (by decide) rfl ?_
    show Rn PT none kX12_undo 11 [some (mR 118), none] [mI (μ 118 34), mR 118] (mkh (m_set μ 118 0 (0)) c s) _
    refine rn_iconst (k' := 12) rfl rfl ?_
    refine rn_isub (k' := 13) rfl rfl (by omega) ?_
    refine rn_putI (k' := 14) rfl rfl K0_118 (by decide) rfl ?_
    refine rn_iconst (k' := 15) rfl rfl ?_
    refine rn_istore_n (k' := 16) (L' := [some (mR 118), some (mI (0))]) rfl rfl (Nat.le_of_ble_eq_true rfl) rfl ?_
    have h := l_undo (μ := (m_set (m_set μ 118 0 0) 118 34 (μ 118 34 - 1))) (c := c) (s := s) (by show 0 ≤ μ 118 34 - 1 ∧ μ 118 34 - 1 ≤ 7; omega) 19 0 0 ((m_set (m_set μ 118 0 0) 118 34 (μ 118 34 - 1)) 120) rfl rfl pbn_0.symm
    rw [upd_self] at h
    exact h
  · exfalso; omega
theorem n_X12_undo {μ : Nat → Nat → Int} {c s : Nat} (h34 : μ 118 34 = 0) : Cl PT 239 [mR 118] (mkh μ c s) (fun r => r = (some (some (mI (-1))), mkh (m_set μ 118 0 0) c s)) := by
  refine ⟨_, PT_239, Nat.le_of_ble_eq_true rfl, ?_⟩
  show Rn PT none kX12_undo 0 [some (mR 118), none] [] (mkh μ c s) _
  refine rn_aload_n (k' := 1) rfl rfl rfl ?_
  refine rn_iconst (k' := 2) rfl rfl ?_
  refine rn_putI (k' := 3) rfl rfl K0_118 (by decide) rfl ?_
  refine rn_aload_n (k' := 4) rfl rfl rfl ?_
  refine rn_getI (k' := 5) rfl rfl K0_118 (by decide) rfl ?_
  show Rn PT none kX12_undo 5 [some (mR 118), none] [mI (μ 118 34)] (mkh (m_set μ 118 0 (0)) c s) _
  refine rn_if_ne (k' := 6) rfl rfl (fun hc2 => ?_) (fun hc2 => ?_)
  · exfalso; omega
  · skip
    refine rn_iconst (k' := 7) rfl rfl ?_
    refine rn_iret rfl (Or.inl rfl) ?_
    rfl
theorem x_X11_undo {μ : Nat → Nat → Int} {c s : Nat} {p : Nat} (h5 : 0 ≤ μ 82 5 ∧ μ 82 5 ≤ 1000) (h6 : 0 ≤ μ 82 6 ∧ μ 82 6 ≤ 8) (hu : 0 < μ 82 6) (h56 : μ 82 6 ≤ μ 82 5) (hp : (p : Int) = (μ 82 5 - 1) % 8) : Cl PT 145 [mR 0] (mkh μ c s) (fun r => r = (some (some (mI (μ 82 6 - 1))), mkh (tkb μ p) c s)) := by
  refine ⟨_, PT_145, Nat.le_of_ble_eq_true rfl, ?_⟩
  show Rn PT none kX11_undo 0 [some (mR 0)] [] (mkh μ c s) _
  refine rn_aload_n (k' := 1) rfl rfl rfl ?_
  refine rn_getR (k' := 2) rfl rfl K0_0 (by decide) rfl R0_0_11 ?_
  refine rn_callP (k' := 3) (y := 4) (vs := [mR 82]) (S' := []) (v := some (mI (μ 82 6 - 1))) (h' := mkh (tkb μ p) c s) rfl rfl rfl (c_takeBack h5 h6 hu h56 hp) ?_
  show Rn PT none kX11_undo 3 [some (mR 0)] [mI (μ 82 6 - 1)] (mkh (tkb μ p) c s) _
  refine rn_iret rfl (Or.inl rfl) ?_
  rfl
theorem n_X11_undo {μ : Nat → Nat → Int} {c s : Nat} (hu : μ 82 6 = 0) : Cl PT 145 [mR 0] (mkh μ c s) (fun r => r = (some (some (mI (-1))), mkh μ c s)) := by
  refine ⟨_, PT_145, Nat.le_of_ble_eq_true rfl, ?_⟩
  show Rn PT none kX11_undo 0 [some (mR 0)] [] (mkh μ c s) _
  refine rn_aload_n (k' := 1) rfl rfl rfl ?_
  refine rn_getR (k' := 2) rfl rfl K0_0 (by decide) rfl R0_0_11 ?_
  refine rn_callP (k' := 3) (y := 4) (vs := [mR 82]) (S' := []) (v := some (mI (-1))) (h' := mkh μ c s) rfl rfl rfl (n_takeBack hu) ?_
  show Rn PT none kX11_undo 3 [some (mR 0)] [mI (-1)] (mkh μ c s) _
  refine rn_iret rfl (Or.inl rfl) ?_
  rfl
theorem pair_29 : (0 ≤ N ∧ N ≤ 511) → PairJ (Inv N) (Inv (N + 1)) 145 239 [] := by
  intro hN μ c s hI
  have hU := hI.undo
  obtain ⟨⟨u1, u2, u3⟩, u4, u5⟩ := hU
  by_cases hu : μ 82 6 = 0
  · exact ⟨-1, μ, m_set μ 118 0 0, n_X11_undo hu, n_X12_undo (by omega), (hI.set rfl).le (by omega)⟩
  · have hx := x_X11_undo (μ := μ) (c := c) (s := s) (p := ((μ 82 5 - 1) % 8).toNat) (by omega) (by omega) (by omega) u2 (by omega)
    have e34 : tkb μ ((μ 82 5 - 1) % 8).toNat 118 34 = μ 118 34 := by rw [tkb_o (by omega)]
    have e120 : tkb μ ((μ 82 5 - 1) % 8).toNat 120 = μ 120 := tkb_o (by omega)
    have e131 : tkb μ ((μ 82 5 - 1) % 8).toNat 131 = μ 131 := tkb_o (by omega)
    have hm := x_X12_undo (μ := tkb μ ((μ 82 5 - 1) % 8).toNat) (c := c) (s := s) (by rw [e34]; omega)
    rw [e34, e120, e131] at hm
    refine ⟨μ 82 6 - 1, _, _, hx, by rw [← u4]; exact hm, (undo_inv (p := ((μ 82 5 - 1) % 8).toNat) hI (by omega) (by omega) (by omega) ?_ (by show μ 118 34 - 1 = _; omega) ?_ ?_).le (by omega)⟩
    · refine (rm_upd (fun j hj => ?_)).trans ((rm_set rfl).trans (rm_set rfl))
      rw [row_set (by decide), row_set (by decide), e120]
      unfold pbn
      by_cases h : 517 ≤ j ∧ j < 517 + 19
      · rw [kL_120f (by omega)] at hj; cases hj
      · rw [if_neg h]
    · rw [row_upd (by decide), row_set (by decide), row_set (by decide), e131]
    · intro k hk
      show pbn (μ 120) 517 (fun k => μ 131 ((19 * (μ 118 34 - 1)).toNat + k)) 19 (517 + k) = _
      unfold pbn
      rw [if_pos (by omega)]
      dsimp only
      rw [show (19 * (μ 118 34 - 1)).toNat + (517 + k - 517) = 19 * (μ 82 6 - 1).toNat + k by omega]
