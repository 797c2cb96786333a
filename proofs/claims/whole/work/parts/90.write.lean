variable {N : Int}
/-! ===== printed by wip/whole/gen90.py: what was told last; pair: write ===== -/
theorem rn_ldc_wT {x : MX} {C : List MI} {k k' : Nat} {L : List (Option MV)} {S : List MV} {Q : MR → Prop} {μ : Nat → Nat → Int} {c s n j : Nat} (hC : C[k]? = some (.ldc_w n, 1, j, 0, [])) (hk : k + 1 = k') (kk : Rn PT x C k' L (mS j :: S) (mkh μ c s) Q) : Rn PT x C k L S (mkh μ c s) Q := by
  subst hk
  exact Rn.go hC rfl kk
theorem rn_chr {x : MX} {C : List MI} {k k' : Nat} {L : List (Option MV)} {S : List MV} {Q : MR → Prop} {μ : Nat → Nat → Int} {c s idx : Nat} {i : Int} (hC : C[k]? = some (.invokevirtual idx, 1001, 0, 0, [])) (hk : k + 1 = k') (h0 : 0 ≤ i) (h1 : i < 4) (hw : m_w S ≤ 7) (kk : Rn PT x C k' L (mI ((m_txt 1).getD i.toNat 0) :: S) (mkh μ c s) Q) : Rn PT x C k L (mI i :: mS 1 :: S) (mkh μ c s) Q := by
  subst hk
  refine Rn.go hC ?_ kk
  have hq : m_in i (m_txt 1).length = true := by
    show m_in i 4 = true
    unfold m_in; simp [h0, h1]
  show m_call PT 1 (1001, 0, 0, []) k L (mI i :: mS 1 :: S) (mkh μ c s) = _
  have e : m_nat 1001 (mI i :: mS 1 :: S) (mkh μ c s) = some (mI ((m_txt 1).getD i.toNat 0) :: S, mkh μ c s) := by
    show (if m_in i (m_txt 1).length then some (mI ((m_txt 1).getD i.toNat 0) :: S, mkh μ c s) else none) = _
    rw [if_pos hq]
  unfold m_call
  rw [if_pos (by decide)]
  show (match m_nat 1001 (mI i :: mS 1 :: S) (mkh μ c s) with | some (S', h') => if m_w S' ≤ 8 then some (Sum.inl (k + 1, L, S', h')) else none | none => none) = _
  rw [e]
  show (if m_w (mI ((m_txt 1).getD i.toNat 0) :: S) ≤ 8 then _ else none) = _
  rw [if_pos (by show 1 + m_w S ≤ 8; omega)]
/-- all of 'sup' but what was written, walked, seated last -/
def kT (a j : Nat) : Bool := sup a j && !(a == 116 || a == 117 || a == 115 || a == 130 || a == 134 || a == 135 || a == 0 || a == 112 || (a == 118 && (j == 31 || j == 37 || j == 39)))
theorem kT_past {a j : Nat} (h1 : 88 ≤ a) (h2 : a ≤ 111) : kT a j = true := by
  rcases (show a = 88 ∨ a = 89 ∨ a = 90 ∨ a = 91 ∨ a = 92 ∨ a = 93 ∨ a = 94 ∨ a = 95 ∨ a = 96 ∨ a = 97 ∨ a = 98 ∨ a = 99 ∨ a = 100 ∨ a = 101 ∨ a = 102 ∨ a = 103 ∨ a = 104 ∨ a = 105 ∨ a = 106 ∨ a = 107 ∨ a = 108 ∨ a = 109 ∨ a = 110 ∨ a = 111 by omega) with rfl | rfl | rfl | rfl | rfl | rfl | rfl | rfl | rfl | rfl | rfl | rfl | rfl | rfl | rfl | rfl | rfl | rfl | rfl | rfl | rfl | rfl | rfl | rfl <;> rfl
theorem kT_kept {a j : Nat} (h1 : 22 ≤ a) (h2 : a ≤ 53) : kT a j = true := by
  rcases (show a = 22 ∨ a = 23 ∨ a = 24 ∨ a = 25 ∨ a = 26 ∨ a = 27 ∨ a = 28 ∨ a = 29 ∨ a = 30 ∨ a = 31 ∨ a = 32 ∨ a = 33 ∨ a = 34 ∨ a = 35 ∨ a = 36 ∨ a = 37 ∨ a = 38 ∨ a = 39 ∨ a = 40 ∨ a = 41 ∨ a = 42 ∨ a = 43 ∨ a = 44 ∨ a = 45 ∨ a = 46 ∨ a = 47 ∨ a = 48 ∨ a = 49 ∨ a = 50 ∨ a = 51 ∨ a = 52 ∨ a = 53 by omega) with rfl | rfl | rfl | rfl | rfl | rfl | rfl | rfl | rfl | rfl | rfl | rfl | rfl | rfl | rfl | rfl | rfl | rfl | rfl | rfl | rfl | rfl | rfl | rfl | rfl | rfl | rfl | rfl | rfl | rfl | rfl | rfl <;> rfl
theorem last_inv {μ ν : Nat → Nat → Int} (hI : Inv N μ) (hr : rm kT ν = rm kT μ) (hl : I_last ν) : Inv N ν := by
  have h8 := hI.land.2.2.2.2.2.1.2
  have e6 := rm_row hr (a := 6) (fun _ => rfl)
  have e120 := rm_row hr (a := 120) (fun _ => rfl)
  refine Inv.mk (hI.tape.congr (rm_cell hr rfl) (rm_row hr (fun _ => rfl)) (rm_cell hr rfl) (rm_row hr (fun _ => rfl))) (hI.fault.congr (rm_cell hr rfl) (rm_cell hr rfl))
    (hI.land.congr e6 (rm_row hr (fun _ => rfl)) (rm_row hr (fun _ => rfl)) (rm_row hr (fun _ => rfl)) (rm_row hr (fun _ => rfl)) (fun j _ => by rw [e120]))
    (hI.scene.congr e6 (rm_row hr (fun _ => rfl)) (rm_row hr (fun _ => rfl)) (rm_row hr (fun _ => rfl)) e120) hl
    (hI.plan.congr e6 (rm_row hr (fun _ => rfl)) (rm_row hr (fun _ => rfl)) (rm_row hr (fun _ => rfl)) (rm_row hr (fun _ => rfl)) (fun j _ _ => by rw [e120]))
    (hI.names.congr h8 e6 (rm_row hr (fun _ => rfl)) (fun j _ => by rw [rm_row hr (a := 123) (fun _ => rfl)])) (by rw [rm_row hr (a := 14) (fun _ => rfl)]; exact hI.took)
    (hI.undo.congr e6 (rm_cell hr rfl) (rm_cell hr rfl) (rm_cell hr rfl) (fun a h1 h2 => rm_row hr (fun _ => kT_past h1 h2)) (rm_row hr (fun _ => rfl))) (hI.kept.congr (fun a h1 h2 => rm_row hr (fun _ => kT_kept h1 h2)) (rm_row hr (fun _ => rfl)) (rm_row hr (fun _ => rfl)) (rm_row hr (fun _ => rfl))) (hI.words.congr (rm_row hr (fun _ => rfl)) (rm_row hr (fun _ => rfl))) (hI.fresh.congr (rm_row hr (fun _ => rfl)) (rm_row hr (fun _ => rfl)) (rm_row hr (fun _ => rfl))) (by unfold I_flag; rw [e6]; exact hI.flag)
theorem kT_sup {a j : Nat} (h : kT a j = true) : sup a j = true := by
  unfold kT at h
  cases hs : sup a j with
  | true => rfl
  | false => rw [hs] at h; exact h
theorem rm_rst {μ ν : Nat → Nat → Int} (h : rst ν = rst μ) : rm kT ν = rm kT μ := rm_same (fun a j hk => sup_eq h (kT_sup hk))
/-- the letter of a direction -/
abbrev ltr (k : Int) : Int := (m_txt 1).getD k.toNat 0
theorem ltr_b : ∀ k : Nat, k < 4 → -128 ≤ ltr (k : Int) ∧ ltr (k : Int) ≤ 127 := by decide
set_option maxHeartbeats 4000000 in
theorem l_X11_write {μ : Nat → Nat → Int} {c s : Nat} (hL : I_land μ) {a0 a1 a2 a3 : Int} (hv1 : g_cell μ a0) (hv2 : g_cell μ a1) (hv3 : 0 ≤ a2 ∧ a2 ≤ 99) (hv4 : 0 ≤ a3 ∧ a3 ≤ 29) {m : Nat} (hm : (g_far μ a1 a2 (g_w μ 0 a3)) a0.toNat = (m : Int)) (hm1 : m ≤ 100) {O F q : Nat → Int} (hF : ∀ j, j < 100 → F j = (g_far μ a1 a2 (g_w μ 0 a3)) j) : ∀ (d n : Nat) (k : Int) (at_ : Int) (T : Nat → Int) (v8 : Option MV), k = (n : Int) → at_ = (wp μ (g_far μ a1 a2 (g_w μ 0 a3)) a0 n) → n + d = m → (∀ j, j < n → T j = ltr (ba (gdir μ (g_far μ a1 a2 (g_w μ 0 a3)) (wp μ (g_far μ a1 a2 (g_w μ 0 a3)) a0 j)) 4)) → Rn PT none kX11_write 30 [some (mR 0), some (mI (a0)), some (mI (a1)), some (mI (a2)), some (mI (a3)), some (mI ((m : Int))), some (mI (at_)), some (mI (k)), v8] [] (mkh (m_upd (m_upd (m_upd (m_upd μ 67 O) 68 F) 69 q) 116 T) c s) (fun r => ∃ T, r = (some (some (mI (m : Int))), mkh (m_set (m_upd (m_upd (m_upd (m_upd μ 67 O) 68 F) 69 q) 116 T) 0 14 (m : Int)) c s) ∧ ∀ j, j < m → T j = ltr (ba (gdir μ (g_far μ a1 a2 (g_w μ 0 a3)) (wp μ (g_far μ a1 a2 (g_w μ 0 a3)) a0 j)) 4)) := by
  have hL_ := hL
  obtain ⟨lc, lr, le, lm, lw, lh, lwo, lwd, q0, q1, q2, q3, q4, q8, q499, q500, lth, lG, lT, lW, -⟩ := hL_
  intro d
  induction d with
  | zero =>
    intro n k at_ T v8 ek eat_ hn hT
    subst ek eat_
    refine rn_iload (k' := 31) rfl rfl rfl ?_
    refine rn_iload (k' := 32) rfl rfl rfl ?_
    refine rn_icmp_ge (k' := 33) rfl rfl (fun hc1 => ?_) (fun hc1 => ?_)
    · skip
      refine rn_aload_n (k' := 54) rfl rfl rfl ?_
      refine rn_iload (k' := 55) rfl rfl rfl ?_
      refine rn_putI (k' := 56) rfl rfl K0_0 (by decide) rfl ?_
      refine rn_iload (k' := 57) rfl rfl rfl ?_
      refine rn_iret rfl (Or.inl rfl) ?_
      exact ⟨T, rfl, fun j hj => hT j (by omega)⟩
    · exfalso; omega
  | succ d ih =>
    intro n k at_ T v8 ek eat_ hn hT
    subst ek eat_
    obtain ⟨hat, hft⟩ := wp_ok hL hv2 hv1 hm n (by omega)
    obtain ⟨kk, f1, f2, f3, f4, f5, f6⟩ := far_first hL hv2 hat hft (by omega)
    have hatb := g_cell_b hL hat
    have f5b := g_cell_b hL f5
    have ewp : wp μ (g_far μ a1 a2 (g_w μ 0 a3)) a0 (n + 1) = g_nb μ (wp μ (g_far μ a1 a2 (g_w μ 0 a3)) a0 n) (kk : Int) := by
      show g_nb μ (wp μ (g_far μ a1 a2 (g_w μ 0 a3)) a0 n) (ba (gdir μ (g_far μ a1 a2 (g_w μ 0 a3)) (wp μ (g_far μ a1 a2 (g_w μ 0 a3)) a0 n)) 4) = _
      rw [f2]
    refine rn_iload (k' := 31) rfl rfl rfl ?_
    refine rn_iload (k' := 32) rfl rfl rfl ?_
    refine rn_icmp_ge (k' := 33) rfl rfl (fun hc1 => ?_) (fun hc1 => ?_)
    · exfalso; omega
    · skip
      refine rn_aload_n (k' := 34) rfl rfl rfl ?_
      refine rn_getR (k' := 35) rfl rfl K0_0 (by decide) rfl R0_0_8 ?_
      refine rn_iload (k' := 36) rfl rfl rfl ?_
      have hcl2 := c_X10_nearer (μ := (m_upd (m_upd (m_upd (m_upd μ 67 O) 68 F) 69 q) 116 T)) (c := c) (s := s) (((((hL).upd rfl).upd rfl).upd rfl).upd rfl) (a := (wp μ (g_far μ a1 a2 (g_w μ 0 a3)) a0 n)) hat (G := (g_far μ a1 a2 (g_w μ 0 a3))) hF (fun j => g_far_b hL hv2 j)
      rw [gdir_rows (ν := (m_upd (m_upd (m_upd (m_upd μ 67 O) 68 F) 69 q) 116 T)) (μ := μ) rfl, f2, nz_p (by omega)] at hcl2
      refine rn_callP (k' := 37) (y := 92) (vs := [mR 66, mI ((wp μ (g_far μ a1 a2 (g_w μ 0 a3)) a0 n))]) (S' := []) (v := some (mI ((kk : Int)))) (h' := mkh (m_upd (m_upd (m_upd (m_upd μ 67 O) 68 F) 69 q) 116 T) c s) rfl rfl rfl (hcl2) ?_
      show Rn PT none kX11_write 37 [some (mR 0), some (mI (a0)), some (mI (a1)), some (mI (a2)), some (mI (a3)), some (mI ((m : Int))), some (mI ((wp μ (g_far μ a1 a2 (g_w μ 0 a3)) a0 n))), some (mI ((n : Int))), v8] [mI ((kk : Int))] (mkh (m_upd (m_upd (m_upd (m_upd μ 67 O) 68 F) 69 q) 116 T) c s) _
      refine rn_istore (k' := 38) (L' := [some (mR 0), some (mI (a0)), some (mI (a1)), some (mI (a2)), some (mI (a3)), some (mI ((m : Int))), some (mI ((wp μ (g_far μ a1 a2 (g_w μ 0 a3)) a0 n))), some (mI ((n : Int))), some (mI ((kk : Int)))]) rfl rfl (Nat.le_of_ble_eq_true rfl) rfl ?_
      refine rn_aload_n (k' := 39) rfl rfl rfl ?_
      refine rn_getR (k' := 40) rfl rfl K0_0 (by decide) rfl R0_0_13 ?_
      refine rn_iload (k' := 41) rfl rfl rfl ?_
      refine rn_ldc_wT (k' := 42) rfl rfl ?_
      refine rn_iload (k' := 43) rfl rfl rfl ?_
      refine rn_chr (k' := 44) rfl rfl (by omega) (by omega) (Nat.le_of_ble_eq_true rfl) ?_
      refine rn_iastore (k' := 45) rfl rfl K0_116 (by omega) (by omega) ?_
      refine rn_aload_n (k' := 46) rfl rfl rfl ?_
      refine rn_getR (k' := 47) rfl rfl K0_0 (by decide) rfl R0_0_3 ?_
      refine rn_iload (k' := 48) rfl rfl rfl ?_
      refine rn_iload (k' := 49) rfl rfl rfl ?_
      refine rn_callP (k' := 50) (y := 39) (vs := [mR 6, mI ((wp μ (g_far μ a1 a2 (g_w μ 0 a3)) a0 n)), mI ((kk : Int))]) (S' := []) (v := some (mI (g_nb μ ((wp μ (g_far μ a1 a2 (g_w μ 0 a3)) a0 n)) (kk : Int)))) (h' := mkh (m_set (m_upd (m_upd (m_upd (m_upd μ 67 O) 68 F) 69 q) 116 T) 116 n ((m_txt 1).getD ((kk : Int)).toNat 0)) c s) rfl rfl rfl (k_neighbour (μ := (m_set (m_upd (m_upd (m_upd (m_upd μ 67 O) 68 F) 69 q) 116 T) 116 n ((m_txt 1).getD ((kk : Int)).toNat 0))) ((((((hL).upd rfl).upd rfl).upd rfl).upd rfl).set rfl) (by omega) (by omega)) ?_
      show Rn PT none kX11_write 50 [some (mR 0), some (mI (a0)), some (mI (a1)), some (mI (a2)), some (mI (a3)), some (mI ((m : Int))), some (mI ((wp μ (g_far μ a1 a2 (g_w μ 0 a3)) a0 n))), some (mI ((n : Int))), some (mI ((kk : Int)))] [mI (g_nb μ ((wp μ (g_far μ a1 a2 (g_w μ 0 a3)) a0 n)) (kk : Int))] (mkh (m_set (m_upd (m_upd (m_upd (m_upd μ 67 O) 68 F) 69 q) 116 T) 116 n ((m_txt 1).getD ((kk : Int)).toNat 0)) c s) _
      refine rn_istore (k' := 51) (L' := [some (mR 0), some (mI (a0)), some (mI (a1)), some (mI (a2)), some (mI (a3)), some (mI ((m : Int))), some (mI (g_nb μ ((wp μ (g_far μ a1 a2 (g_w μ 0 a3)) a0 n)) (kk : Int))), some (mI ((n : Int))), some (mI ((kk : Int)))]) rfl rfl (Nat.le_of_ble_eq_true rfl) rfl ?_
      refine rn_iinc (k' := 52) (L' := [some (mR 0), some (mI (a0)), some (mI (a1)), some (mI (a2)), some (mI (a3)), some (mI ((m : Int))), some (mI (g_nb μ ((wp μ (g_far μ a1 a2 (g_w μ 0 a3)) a0 n)) (kk : Int))), some (mI ((n : Int) + 1)), some (mI ((kk : Int)))]) rfl rfl rfl (by omega) rfl ?_
      refine rn_goto rfl ?_
      show Rn PT none kX11_write 30 [some (mR 0), some (mI (a0)), some (mI (a1)), some (mI (a2)), some (mI (a3)), some (mI ((m : Int))), some (mI (g_nb μ ((wp μ (g_far μ a1 a2 (g_w μ 0 a3)) a0 n)) (kk : Int))), some (mI ((n : Int) + 1)), some (mI ((kk : Int)))] [] (mkh (m_set (m_upd (m_upd (m_upd (m_upd μ 67 O) 68 F) 69 q) 116 T) 116 n ((m_txt 1).getD ((kk : Int)).toNat 0)) c s) _
      rw [set_upd_eq (a := 116)]
      exact ih (n + 1) _ _ _ _ (by omega) (by rw [ewp]) (by omega) (fun j hj => by
        by_cases e : j = n
        · rw [e, fs_eq, f2]
        · rw [fs_ne e]; exact hT j (by omega))
theorem x_X11_write {μ : Nat → Nat → Int} {c s : Nat} (hL : I_land μ) {a0 a1 a2 a3 : Int} (hv1 : g_cell μ a0) (hv2 : g_cell μ a1) (hv3 : 0 ≤ a2 ∧ a2 ≤ 99) (hv4 : 0 ≤ a3 ∧ a3 ≤ 29) (h0 : i32 a0) (h1 : i32 a1) {m : Nat} (hm : (g_far μ a1 a2 (g_w μ 0 a3)) a0.toNat = (m : Int)) (hm1 : m ≤ 100) : Cl PT 119 [mR 0, mI a0, mI a1, mI a2, mI a3] (mkh μ c s) (fun r => ∃ O F q T, r = (some (some (mI (m : Int))), mkh (m_set (m_upd (m_upd (m_upd (m_upd μ 67 O) 68 F) 69 q) 116 T) 0 14 (m : Int)) c s) ∧ ∀ j, j < m → T j = ltr (ba (gdir μ (g_far μ a1 a2 (g_w μ 0 a3)) (wp μ (g_far μ a1 a2 (g_w μ 0 a3)) a0 j)) 4)) := by
  have hL_ := hL
  obtain ⟨lc, lr, le, lm, lw, lh, lwo, lwd, q0, q1, q2, q3, q4, q8, q499, q500, lth, lG, lT, lW, -⟩ := hL_
  refine ⟨_, PT_119, Nat.le_of_ble_eq_true rfl, ?_⟩
  show Rn PT none kX11_write 0 [some (mR 0), some (mI (a0)), some (mI (a1)), some (mI (a2)), some (mI (a3)), none, none, none, none] [] (mkh μ c s) _
  refine rn_aload_n (k' := 1) rfl rfl rfl ?_
  refine rn_iload_n (k' := 2) rfl rfl rfl ?_
  refine rn_iload_n (k' := 3) rfl rfl rfl ?_
  refine rn_iload_n (k' := 4) rfl rfl rfl ?_
  refine rn_iload (k' := 5) rfl rfl rfl ?_
  by_cases hq1 : g_cell μ a0 ∧ g_cell μ a1 ∧ (0 ≤ a2 ∧ a2 ≤ 99) ∧ 0 ≤ a3 ∧ a3 ≤ 29
  · refine rn_callP (k' := 6) (y := 155) (vs := [mR 0, mI (a0), mI (a1), mI (a2), mI (a3)]) (S' := []) (v := some (mI 1)) (h' := mkh μ c s) rfl rfl rfl (by have hz : Cl PT 155 [mR 0, mI (a0), mI (a1), mI (a2), mI (a3)] (mkh μ c s) (fun r => r = (some (some (mI (if g_cell μ a0 ∧ g_cell μ a1 ∧ (0 ≤ a2 ∧ a2 ≤ 99) ∧ 0 ≤ a3 ∧ a3 ≤ 29 then 1 else 0))), mkh μ c s)) := c_X11_areSuch (hL) (a := a0) (b := a1) (t := a2) (d := a3) (by omega) (by omega) (μ := μ) (c := c) (s := s); rw [if_pos hq1] at hz; exact hz) ?_
    show Rn PT none kX11_write 6 [some (mR 0), some (mI (a0)), some (mI (a1)), some (mI (a2)), some (mI (a3)), none, none, none, none] [mI (1)] (mkh μ c s) _
    refine rn_if_ne (k' := 7) rfl rfl (fun hc2 => ?_) (fun hc2 => ?_)
    · skip
      refine rn_aload_n (k' := 10) rfl rfl rfl ?_
      refine rn_getR (k' := 11) rfl rfl K0_0 (by decide) rfl R0_0_8 ?_
      refine rn_iload_n (k' := 12) rfl rfl rfl ?_
      refine rn_iload_n (k' := 13) rfl rfl rfl ?_
      refine rn_iload_n (k' := 14) rfl rfl rfl ?_
      refine rn_aload_n (k' := 15) rfl rfl rfl ?_
      refine rn_getR (k' := 16) rfl rfl K0_0 (by decide) rfl R0_0_3 ?_
      refine rn_iconst (k' := 17) rfl rfl ?_
      refine rn_iload (k' := 18) rfl rfl rfl ?_
      have hb3 := g_w_b hL 0 a3
      refine rn_callP (k' := 19) (y := 32) (vs := [mR 6, mI (0), mI (a3)]) (S' := [mI (a2), mI (a0), mI (a1), mR 66]) (v := some (mI (g_w μ 0 a3))) (h' := mkh μ c s) rfl rfl rfl (k_weatherOn (μ := μ) (hL) (by omega) (by omega)) ?_
      show Rn PT none kX11_write 19 [some (mR 0), some (mI (a0)), some (mI (a1)), some (mI (a2)), some (mI (a3)), none, none, none, none] [mI (g_w μ 0 a3), mI (a2), mI (a0), mI (a1), mR 66] (mkh μ c s) _
      have hw0 := g_w_b hL 0 a3
      obtain ⟨O, F, q, hFF, hcl⟩ := c_stepsBetween (μ := μ) (c := c) (s := s) hL (a := a1) (b := a0) (t := a2) (w := g_w μ 0 a3) hv2 hv1 (by omega)
      rw [g_steps_far, hm] at hcl
      refine rn_callP (k' := 20) (y := 91) (vs := [mR 66, mI (a1), mI (a0), mI (a2), mI (g_w μ 0 a3)]) (S' := []) (v := some (mI ((m : Int)))) (h' := mkh (m_upd (m_upd (m_upd μ 67 O) 68 F) 69 q) c s) rfl rfl rfl (hcl) ?_
      show Rn PT none kX11_write 20 [some (mR 0), some (mI (a0)), some (mI (a1)), some (mI (a2)), some (mI (a3)), none, none, none, none] [mI ((m : Int))] (mkh (m_upd (m_upd (m_upd μ 67 O) 68 F) 69 q) c s) _
      refine rn_istore (k' := 21) (L' := [some (mR 0), some (mI (a0)), some (mI (a1)), some (mI (a2)), some (mI (a3)), some (mI ((m : Int))), none, none, none]) rfl rfl (Nat.le_of_ble_eq_true rfl) rfl ?_
      refine rn_iload (k' := 22) rfl rfl rfl ?_
      refine rn_iconst (k' := 23) rfl rfl ?_
      refine rn_icmp_ne (k' := 24) rfl rfl (fun hc4 => ?_) (fun hc4 => ?_)
      · skip
        refine rn_iload_n (k' := 27) rfl rfl rfl ?_
        refine rn_istore (k' := 28) (L' := [some (mR 0), some (mI (a0)), some (mI (a1)), some (mI (a2)), some (mI (a3)), some (mI ((m : Int))), some (mI (a0)), none, none]) rfl rfl (Nat.le_of_ble_eq_true rfl) rfl ?_
        refine rn_iconst (k' := 29) rfl rfl ?_
        refine rn_istore (k' := 30) (L' := [some (mR 0), some (mI (a0)), some (mI (a1)), some (mI (a2)), some (mI (a3)), some (mI ((m : Int))), some (mI (a0)), some (mI (0)), none]) rfl rfl (Nat.le_of_ble_eq_true rfl) rfl ?_
        have hst : g_stand μ a1 a2 (g_w μ 0 a3) := Classical.byContradiction (fun z => by unfold g_far at hm; rw [if_neg z] at hm; omega)
        have hF : ∀ j, j < 100 → F j = (g_far μ a1 a2 (g_w μ 0 a3)) j := fun j hj => by rw [hFF hst j hj]; unfold g_far; rw [if_pos hst]
        have h := l_X11_write (c := c) (s := s) hL hv1 hv2 hv3 hv4 hm hm1 (O := O) (q := q) hF m 0 0 _ (μ 116) none rfl rfl (by omega) (fun j hj => absurd hj (Nat.not_lt_zero j))
        rw [show m_upd (m_upd (m_upd (m_upd μ 67 O) 68 F) 69 q) 116 (μ 116) = m_upd (m_upd (m_upd μ 67 O) 68 F) 69 q from upd_self (μ := m_upd (m_upd (m_upd μ 67 O) 68 F) 69 q) (a := 116)] at h
        exact h.mono (fun r hr => by obtain ⟨T, e1, e2⟩ := hr; exact ⟨O, F, q, T, e1, e2⟩)
      · exfalso; omega
    · exfalso; omega
  · exfalso; omega
theorem n_X11_write {μ : Nat → Nat → Int} {c s : Nat} (hL : I_land μ) {a0 a1 a2 a3 : Int} (hv1 : g_cell μ a0) (hv2 : g_cell μ a1) (hv3 : 0 ≤ a2 ∧ a2 ≤ 99) (hv4 : 0 ≤ a3 ∧ a3 ≤ 29) (h0 : i32 a0) (h1 : i32 a1) (hm : (g_far μ a1 a2 (g_w μ 0 a3)) a0.toNat = -1) : Cl PT 119 [mR 0, mI a0, mI a1, mI a2, mI a3] (mkh μ c s) (fun r => ∃ O F q, r = (some (some (mI (-1))), mkh (m_upd (m_upd (m_upd μ 67 O) 68 F) 69 q) c s)) := by
  have hL_ := hL
  obtain ⟨lc, lr, le, lm, lw, lh, lwo, lwd, q0, q1, q2, q3, q4, q8, q499, q500, lth, lG, lT, lW, -⟩ := hL_
  refine ⟨_, PT_119, Nat.le_of_ble_eq_true rfl, ?_⟩
  show Rn PT none kX11_write 0 [some (mR 0), some (mI (a0)), some (mI (a1)), some (mI (a2)), some (mI (a3)), none, none, none, none] [] (mkh μ c s) _
  refine rn_aload_n (k' := 1) rfl rfl rfl ?_
  refine rn_iload_n (k' := 2) rfl rfl rfl ?_
  refine rn_iload_n (k' := 3) rfl rfl rfl ?_
  refine rn_iload_n (k' := 4) rfl rfl rfl ?_
  refine rn_iload (k' := 5) rfl rfl rfl ?_
  by_cases hq1 : g_cell μ a0 ∧ g_cell μ a1 ∧ (0 ≤ a2 ∧ a2 ≤ 99) ∧ 0 ≤ a3 ∧ a3 ≤ 29
  · refine rn_callP (k' := 6) (y := 155) (vs := [mR 0, mI (a0), mI (a1), mI (a2), mI (a3)]) (S' := []) (v := some (mI 1)) (h' := mkh μ c s) rfl rfl rfl (by have hz : Cl PT 155 [mR 0, mI (a0), mI (a1), mI (a2), mI (a3)] (mkh μ c s) (fun r => r = (some (some (mI (if g_cell μ a0 ∧ g_cell μ a1 ∧ (0 ≤ a2 ∧ a2 ≤ 99) ∧ 0 ≤ a3 ∧ a3 ≤ 29 then 1 else 0))), mkh μ c s)) := c_X11_areSuch (hL) (a := a0) (b := a1) (t := a2) (d := a3) (by omega) (by omega) (μ := μ) (c := c) (s := s); rw [if_pos hq1] at hz; exact hz) ?_
    show Rn PT none kX11_write 6 [some (mR 0), some (mI (a0)), some (mI (a1)), some (mI (a2)), some (mI (a3)), none, none, none, none] [mI (1)] (mkh μ c s) _
    refine rn_if_ne (k' := 7) rfl rfl (fun hc2 => ?_) (fun hc2 => ?_)
    · skip
      refine rn_aload_n (k' := 10) rfl rfl rfl ?_
      refine rn_getR (k' := 11) rfl rfl K0_0 (by decide) rfl R0_0_8 ?_
      refine rn_iload_n (k' := 12) rfl rfl rfl ?_
      refine rn_iload_n (k' := 13) rfl rfl rfl ?_
      refine rn_iload_n (k' := 14) rfl rfl rfl ?_
      refine rn_aload_n (k' := 15) rfl rfl rfl ?_
      refine rn_getR (k' := 16) rfl rfl K0_0 (by decide) rfl R0_0_3 ?_
      refine rn_iconst (k' := 17) rfl rfl ?_
      refine rn_iload (k' := 18) rfl rfl rfl ?_
      have hb3 := g_w_b hL 0 a3
      refine rn_callP (k' := 19) (y := 32) (vs := [mR 6, mI (0), mI (a3)]) (S' := [mI (a2), mI (a0), mI (a1), mR 66]) (v := some (mI (g_w μ 0 a3))) (h' := mkh μ c s) rfl rfl rfl (k_weatherOn (μ := μ) (hL) (by omega) (by omega)) ?_
      show Rn PT none kX11_write 19 [some (mR 0), some (mI (a0)), some (mI (a1)), some (mI (a2)), some (mI (a3)), none, none, none, none] [mI (g_w μ 0 a3), mI (a2), mI (a0), mI (a1), mR 66] (mkh μ c s) _
      have hw0 := g_w_b hL 0 a3
      obtain ⟨O, F, q, hFF, hcl⟩ := c_stepsBetween (μ := μ) (c := c) (s := s) hL (a := a1) (b := a0) (t := a2) (w := g_w μ 0 a3) hv2 hv1 (by omega)
      rw [g_steps_far, hm] at hcl
      refine rn_callP (k' := 20) (y := 91) (vs := [mR 66, mI (a1), mI (a0), mI (a2), mI (g_w μ 0 a3)]) (S' := []) (v := some (mI (-1))) (h' := mkh (m_upd (m_upd (m_upd μ 67 O) 68 F) 69 q) c s) rfl rfl rfl (hcl) ?_
      show Rn PT none kX11_write 20 [some (mR 0), some (mI (a0)), some (mI (a1)), some (mI (a2)), some (mI (a3)), none, none, none, none] [mI (-1)] (mkh (m_upd (m_upd (m_upd μ 67 O) 68 F) 69 q) c s) _
      refine rn_istore (k' := 21) (L' := [some (mR 0), some (mI (a0)), some (mI (a1)), some (mI (a2)), some (mI (a3)), some (mI (-1)), none, none, none]) rfl rfl (Nat.le_of_ble_eq_true rfl) rfl ?_
      refine rn_iload (k' := 22) rfl rfl rfl ?_
      refine rn_iconst (k' := 23) rfl rfl ?_
      refine rn_icmp_ne (k' := 24) rfl rfl (fun hc4 => ?_) (fun hc4 => ?_)
      · exfalso; omega
      · skip
        refine rn_iconst (k' := 25) rfl rfl ?_
        refine rn_iret rfl (Or.inl rfl) ?_
        exact ⟨O, F, q, rfl⟩
    · exfalso; omega
  · exfalso; omega
theorem fv_c {F G : Nat → Int} (hF : ∀ j, j < 100 → F j = fv (G j)) {j : Nat} (hj : j < 100) : (G j = -1 ∧ F j = 1000000000) ∨ (¬ G j = -1 ∧ F j = G j) := by
  by_cases e : G j = -1
  · exact Or.inl ⟨e, by rw [hF j hj, e]; rfl⟩
  · exact Or.inr ⟨e, by rw [hF j hj, fv_p e]⟩
set_option maxHeartbeats 4000000 in
theorem l_X12_write_in {μ : Nat → Nat → Int} {c s : Nat} (hL : I_land μ) {a0 a1 a2 a3 : Int} (hv1 : g_cell μ a0) (hv2 : g_cell μ a1) (hv3 : 0 ≤ a2 ∧ a2 ≤ 99) (hv4 : 0 ≤ a3 ∧ a3 ≤ 29) {m : Nat} (hm : (g_far μ a1 a2 (g_w μ 0 a3)) a0.toNat = (m : Int)) (hm1 : m ≤ 100) {F q : Nat → Int} (hF : ∀ j, j < 100 → F j = fv ((g_far μ a1 a2 (g_w μ 0 a3)) j)) {T : Nat → Int} {n kk : Nat} (hnm : n < m) (hat : g_cell μ (wp μ (g_far μ a1 a2 (g_w μ 0 a3)) a0 n)) (hft : (g_far μ a1 a2 (g_w μ 0 a3)) (wp μ (g_far μ a1 a2 (g_w μ 0 a3)) a0 n).toNat = (m : Int) - n) (f1 : kk < 4) (f4 : ∀ j, j < kk → ¬ gdir μ (g_far μ a1 a2 (g_w μ 0 a3)) (wp μ (g_far μ a1 a2 (g_w μ 0 a3)) a0 n) j = (m : Int) - n - 1) (f5 : g_cell μ (g_nb μ (wp μ (g_far μ a1 a2 (g_w μ 0 a3)) a0 n) (kk : Int))) (f6 : (g_far μ a1 a2 (g_w μ 0 a3)) (g_nb μ (wp μ (g_far μ a1 a2 (g_w μ 0 a3)) a0 n) (kk : Int)).toNat = (m : Int) - n - 1) {Q : MR → Prop} (K : Rn PT none kX12_write 71 [some (mR 118), some (mI (a0)), some (mI (a1)), some (mI (a2)), some (mI (a3)), some (mI ((wp μ (g_far μ a1 a2 (g_w μ 0 a3)) a0 n))), some (mI ((n : Int))), some (mI ((kk : Int)))] [] (mkh (m_upd (m_set (m_upd (m_upd (m_set (m_set (m_set μ 118 0 (0)) 118 22 (g_w μ 0 a3)) 118 23 (g_w μ 1 a3)) 125 F) 126 q) 118 31 ((m : Int))) 130 T) c s) Q) : ∀ (d n0 : Nat) (k : Int), k = (n0 : Int) → n0 + d = kk → Rn PT none kX12_write 50 [some (mR 118), some (mI (a0)), some (mI (a1)), some (mI (a2)), some (mI (a3)), some (mI ((wp μ (g_far μ a1 a2 (g_w μ 0 a3)) a0 n))), some (mI ((n : Int))), some (mI (k))] [] (mkh (m_upd (m_set (m_upd (m_upd (m_set (m_set (m_set μ 118 0 (0)) 118 22 (g_w μ 0 a3)) 118 23 (g_w μ 1 a3)) 125 F) 126 q) 118 31 ((m : Int))) 130 T) c s) (Q) := by
  have hL_ := hL
  obtain ⟨lc, lr, le, lm, lw, lh, lwo, lwd, q0, q1, q2, q3, q4, q8, q499, q500, lth, lG, lT, lW, -⟩ := hL_
  have hatb := g_cell_b hL hat
  have f5b := g_cell_b hL f5
  have fat := fv_c hF (j := (wp μ (g_far μ a1 a2 (g_w μ 0 a3)) a0 n).toNat) (by omega)
  have fnx := fv_c hF (j := (g_nb μ (wp μ (g_far μ a1 a2 (g_w μ 0 a3)) a0 n) (kk : Int)).toNat) (by omega)
  intro d
  induction d with
  | zero =>
    intro n0 k ek hn 
    subst ek
    have e0 : n0 = kk := by omega
    subst e0
    refine rn_aload_n (k' := 51) rfl rfl rfl ?_
    refine rn_iload (k' := 52) rfl rfl rfl ?_
    refine rn_iload (k' := 53) rfl rfl rfl ?_
    refine rn_callP (k' := 54) (y := 211) (vs := [mR 118, mI ((wp μ (g_far μ a1 a2 (g_w μ 0 a3)) a0 n)), mI ((n0 : Int))]) (S' := []) (v := some (mI (g_nb μ ((wp μ (g_far μ a1 a2 (g_w μ 0 a3)) a0 n)) (n0 : Int)))) (h' := mkh (m_upd (m_set (m_upd (m_upd (m_set (m_set (m_set μ 118 0 (0)) 118 22 (g_w μ 0 a3)) 118 23 (g_w μ 1 a3)) 125 F) 126 q) 118 31 ((m : Int))) 130 T) c s) rfl rfl rfl (c_X12_beside (μ := (m_upd (m_set (m_upd (m_upd (m_set (m_set (m_set μ 118 0 (0)) 118 22 (g_w μ 0 a3)) 118 23 (g_w μ 1 a3)) 125 F) 126 q) 118 31 ((m : Int))) 130 T)) ((((((((hL).set rfl).set rfl).set rfl).upd rfl).upd rfl).set rfl).upd rfl) (a := (wp μ (g_far μ a1 a2 (g_w μ 0 a3)) a0 n)) (d := (n0 : Int)) (by assumption) (by omega)) ?_
    show Rn PT none kX12_write 54 [some (mR 118), some (mI (a0)), some (mI (a1)), some (mI (a2)), some (mI (a3)), some (mI ((wp μ (g_far μ a1 a2 (g_w μ 0 a3)) a0 n))), some (mI ((n : Int))), some (mI ((n0 : Int)))] [mI (g_nb μ ((wp μ (g_far μ a1 a2 (g_w μ 0 a3)) a0 n)) (n0 : Int))] (mkh (m_upd (m_set (m_upd (m_upd (m_set (m_set (m_set μ 118 0 (0)) 118 22 (g_w μ 0 a3)) 118 23 (g_w μ 1 a3)) 125 F) 126 q) 118 31 ((m : Int))) 130 T) c s) _
    refine rn_if_lt (k' := 55) rfl rfl (fun hc1 => ?_) (fun hc1 => ?_)
    · exfalso; omega
    · skip
      refine rn_aload_n (k' := 56) rfl rfl rfl ?_
      refine rn_getR (k' := 57) rfl rfl K0_118 (by decide) rfl R0_118_24 ?_
      refine rn_aload_n (k' := 58) rfl rfl rfl ?_
      refine rn_iload (k' := 59) rfl rfl rfl ?_
      refine rn_iload (k' := 60) rfl rfl rfl ?_
      refine rn_callP (k' := 61) (y := 211) (vs := [mR 118, mI ((wp μ (g_far μ a1 a2 (g_w μ 0 a3)) a0 n)), mI ((n0 : Int))]) (S' := [mR 125]) (v := some (mI (g_nb μ ((wp μ (g_far μ a1 a2 (g_w μ 0 a3)) a0 n)) (n0 : Int)))) (h' := mkh (m_upd (m_set (m_upd (m_upd (m_set (m_set (m_set μ 118 0 (0)) 118 22 (g_w μ 0 a3)) 118 23 (g_w μ 1 a3)) 125 F) 126 q) 118 31 ((m : Int))) 130 T) c s) rfl rfl rfl (c_X12_beside (μ := (m_upd (m_set (m_upd (m_upd (m_set (m_set (m_set μ 118 0 (0)) 118 22 (g_w μ 0 a3)) 118 23 (g_w μ 1 a3)) 125 F) 126 q) 118 31 ((m : Int))) 130 T)) ((((((((hL).set rfl).set rfl).set rfl).upd rfl).upd rfl).set rfl).upd rfl) (a := (wp μ (g_far μ a1 a2 (g_w μ 0 a3)) a0 n)) (d := (n0 : Int)) (by assumption) (by omega)) ?_
      show Rn PT none kX12_write 61 [some (mR 118), some (mI (a0)), some (mI (a1)), some (mI (a2)), some (mI (a3)), some (mI ((wp μ (g_far μ a1 a2 (g_w μ 0 a3)) a0 n))), some (mI ((n : Int))), some (mI ((n0 : Int)))] [mI (g_nb μ ((wp μ (g_far μ a1 a2 (g_w μ 0 a3)) a0 n)) (n0 : Int)), mR 125] (mkh (m_upd (m_set (m_upd (m_upd (m_set (m_set (m_set μ 118 0 (0)) 118 22 (g_w μ 0 a3)) 118 23 (g_w μ 1 a3)) 125 F) 126 q) 118 31 ((m : Int))) 130 T) c s) _
      refine rn_iaload (k' := 62) rfl rfl K0_125 (by omega) (by omega) ?_
      show Rn PT none kX12_write 62 [some (mR 118), some (mI (a0)), some (mI (a1)), some (mI (a2)), some (mI (a3)), some (mI ((wp μ (g_far μ a1 a2 (g_w μ 0 a3)) a0 n))), some (mI ((n : Int))), some (mI ((n0 : Int)))] [mI (F ((g_nb μ ((wp μ (g_far μ a1 a2 (g_w μ 0 a3)) a0 n)) (n0 : Int)).toNat))] (mkh (m_upd (m_set (m_upd (m_upd (m_set (m_set (m_set μ 118 0 (0)) 118 22 (g_w μ 0 a3)) 118 23 (g_w μ 1 a3)) 125 F) 126 q) 118 31 ((m : Int))) 130 T) c s) _
      refine rn_aload_n (k' := 63) rfl rfl rfl ?_
      refine rn_getR (k' := 64) rfl rfl K0_118 (by decide) rfl R0_118_24 ?_
      refine rn_iload (k' := 65) rfl rfl rfl ?_
      refine rn_iaload (k' := 66) rfl rfl K0_125 (by omega) (by omega) ?_
      show Rn PT none kX12_write 66 [some (mR 118), some (mI (a0)), some (mI (a1)), some (mI (a2)), some (mI (a3)), some (mI ((wp μ (g_far μ a1 a2 (g_w μ 0 a3)) a0 n))), some (mI ((n : Int))), some (mI ((n0 : Int)))] [mI (F (((wp μ (g_far μ a1 a2 (g_w μ 0 a3)) a0 n)).toNat)), mI (F ((g_nb μ ((wp μ (g_far μ a1 a2 (g_w μ 0 a3)) a0 n)) (n0 : Int)).toNat))] (mkh (m_upd (m_set (m_upd (m_upd (m_set (m_set (m_set μ 118 0 (0)) 118 22 (g_w μ 0 a3)) 118 23 (g_w μ 1 a3)) 125 F) 126 q) 118 31 ((m : Int))) 130 T) c s) _
      refine rn_iconst (k' := 67) rfl rfl ?_
      refine rn_isub (k' := 68) rfl rfl (by omega) ?_
      refine rn_icmp_eq (k' := 69) rfl rfl (fun hc2 => ?_) (fun hc2 => ?_)
      · skip
        exact K
      · exfalso; omega
  | succ d ih =>
    intro n0 k ek hn 
    subst ek
    have hN := (g_GR hL).2 (wp μ (g_far μ a1 a2 (g_w μ 0 a3)) a0 n) (n0 : Int) hat (by omega) (by omega)
    have hNb : g_nb μ (wp μ (g_far μ a1 a2 (g_w μ 0 a3)) a0 n) (n0 : Int) = -1 ∨ (0 ≤ g_nb μ (wp μ (g_far μ a1 a2 (g_w μ 0 a3)) a0 n) (n0 : Int) ∧ g_nb μ (wp μ (g_far μ a1 a2 (g_w μ 0 a3)) a0 n) (n0 : Int) < 100) := hN.imp_right (fun z => g_cell_b hL z)
    have hno : g_nb μ (wp μ (g_far μ a1 a2 (g_w μ 0 a3)) a0 n) (n0 : Int) = -1 ∨ ¬ F (g_nb μ (wp μ (g_far μ a1 a2 (g_w μ 0 a3)) a0 n) (n0 : Int)).toNat = (m : Int) - n - 1 := by
      by_cases e : g_nb μ (wp μ (g_far μ a1 a2 (g_w μ 0 a3)) a0 n) (n0 : Int) = -1
      · exact Or.inl e
      · right
        have h4 := f4 n0 (by omega)
        unfold gdir at h4
        rw [if_neg e] at h4
        have h5 := fv_c hF (j := (g_nb μ (wp μ (g_far μ a1 a2 (g_w μ 0 a3)) a0 n) (n0 : Int)).toNat) (by omega)
        omega
    refine rn_aload_n (k' := 51) rfl rfl rfl ?_
    refine rn_iload (k' := 52) rfl rfl rfl ?_
    refine rn_iload (k' := 53) rfl rfl rfl ?_
    refine rn_callP (k' := 54) (y := 211) (vs := [mR 118, mI ((wp μ (g_far μ a1 a2 (g_w μ 0 a3)) a0 n)), mI ((n0 : Int))]) (S' := []) (v := some (mI (g_nb μ ((wp μ (g_far μ a1 a2 (g_w μ 0 a3)) a0 n)) (n0 : Int)))) (h' := mkh (m_upd (m_set (m_upd (m_upd (m_set (m_set (m_set μ 118 0 (0)) 118 22 (g_w μ 0 a3)) 118 23 (g_w μ 1 a3)) 125 F) 126 q) 118 31 ((m : Int))) 130 T) c s) rfl rfl rfl (c_X12_beside (μ := (m_upd (m_set (m_upd (m_upd (m_set (m_set (m_set μ 118 0 (0)) 118 22 (g_w μ 0 a3)) 118 23 (g_w μ 1 a3)) 125 F) 126 q) 118 31 ((m : Int))) 130 T)) ((((((((hL).set rfl).set rfl).set rfl).upd rfl).upd rfl).set rfl).upd rfl) (a := (wp μ (g_far μ a1 a2 (g_w μ 0 a3)) a0 n)) (d := (n0 : Int)) (by assumption) (by omega)) ?_
    show Rn PT none kX12_write 54 [some (mR 118), some (mI (a0)), some (mI (a1)), some (mI (a2)), some (mI (a3)), some (mI ((wp μ (g_far μ a1 a2 (g_w μ 0 a3)) a0 n))), some (mI ((n : Int))), some (mI ((n0 : Int)))] [mI (g_nb μ ((wp μ (g_far μ a1 a2 (g_w μ 0 a3)) a0 n)) (n0 : Int))] (mkh (m_upd (m_set (m_upd (m_upd (m_set (m_set (m_set μ 118 0 (0)) 118 22 (g_w μ 0 a3)) 118 23 (g_w μ 1 a3)) 125 F) 126 q) 118 31 ((m : Int))) 130 T) c s) _
    refine rn_if_lt (k' := 55) rfl rfl (fun hc1 => ?_) (fun hc1 => ?_)
    · skip
      refine rn_iinc (k' := 70) (L' := [some (mR 118), some (mI (a0)), some (mI (a1)), some (mI (a2)), some (mI (a3)), some (mI ((wp μ (g_far μ a1 a2 (g_w μ 0 a3)) a0 n))), some (mI ((n : Int))), some (mI ((n0 : Int) + 1))]) rfl rfl rfl (by omega) rfl ?_
      refine rn_goto rfl ?_
      exact ih (n0 + 1) _ (by omega) (by omega)
    · skip
      refine rn_aload_n (k' := 56) rfl rfl rfl ?_
      refine rn_getR (k' := 57) rfl rfl K0_118 (by decide) rfl R0_118_24 ?_
      refine rn_aload_n (k' := 58) rfl rfl rfl ?_
      refine rn_iload (k' := 59) rfl rfl rfl ?_
      refine rn_iload (k' := 60) rfl rfl rfl ?_
      refine rn_callP (k' := 61) (y := 211) (vs := [mR 118, mI ((wp μ (g_far μ a1 a2 (g_w μ 0 a3)) a0 n)), mI ((n0 : Int))]) (S' := [mR 125]) (v := some (mI (g_nb μ ((wp μ (g_far μ a1 a2 (g_w μ 0 a3)) a0 n)) (n0 : Int)))) (h' := mkh (m_upd (m_set (m_upd (m_upd (m_set (m_set (m_set μ 118 0 (0)) 118 22 (g_w μ 0 a3)) 118 23 (g_w μ 1 a3)) 125 F) 126 q) 118 31 ((m : Int))) 130 T) c s) rfl rfl rfl (c_X12_beside (μ := (m_upd (m_set (m_upd (m_upd (m_set (m_set (m_set μ 118 0 (0)) 118 22 (g_w μ 0 a3)) 118 23 (g_w μ 1 a3)) 125 F) 126 q) 118 31 ((m : Int))) 130 T)) ((((((((hL).set rfl).set rfl).set rfl).upd rfl).upd rfl).set rfl).upd rfl) (a := (wp μ (g_far μ a1 a2 (g_w μ 0 a3)) a0 n)) (d := (n0 : Int)) (by assumption) (by omega)) ?_
      show Rn PT none kX12_write 61 [some (mR 118), some (mI (a0)), some (mI (a1)), some (mI (a2)), some (mI (a3)), some (mI ((wp μ (g_far μ a1 a2 (g_w μ 0 a3)) a0 n))), some (mI ((n : Int))), some (mI ((n0 : Int)))] [mI (g_nb μ ((wp μ (g_far μ a1 a2 (g_w μ 0 a3)) a0 n)) (n0 : Int)), mR 125] (mkh (m_upd (m_set (m_upd (m_upd (m_set (m_set (m_set μ 118 0 (0)) 118 22 (g_w μ 0 a3)) 118 23 (g_w μ 1 a3)) 125 F) 126 q) 118 31 ((m : Int))) 130 T) c s) _
      refine rn_iaload (k' := 62) rfl rfl K0_125 (by omega) (by omega) ?_
      show Rn PT none kX12_write 62 [some (mR 118), some (mI (a0)), some (mI (a1)), some (mI (a2)), some (mI (a3)), some (mI ((wp μ (g_far μ a1 a2 (g_w μ 0 a3)) a0 n))), some (mI ((n : Int))), some (mI ((n0 : Int)))] [mI (F ((g_nb μ ((wp μ (g_far μ a1 a2 (g_w μ 0 a3)) a0 n)) (n0 : Int)).toNat))] (mkh (m_upd (m_set (m_upd (m_upd (m_set (m_set (m_set μ 118 0 (0)) 118 22 (g_w μ 0 a3)) 118 23 (g_w μ 1 a3)) 125 F) 126 q) 118 31 ((m : Int))) 130 T) c s) _
      refine rn_aload_n (k' := 63) rfl rfl rfl ?_
      refine rn_getR (k' := 64) rfl rfl K0_118 (by decide) rfl R0_118_24 ?_
      refine rn_iload (k' := 65) rfl rfl rfl ?_
      refine rn_iaload (k' := 66) rfl rfl K0_125 (by omega) (by omega) ?_
      show Rn PT none kX12_write 66 [some (mR 118), some (mI (a0)), some (mI (a1)), some (mI (a2)), some (mI (a3)), some (mI ((wp μ (g_far μ a1 a2 (g_w μ 0 a3)) a0 n))), some (mI ((n : Int))), some (mI ((n0 : Int)))] [mI (F (((wp μ (g_far μ a1 a2 (g_w μ 0 a3)) a0 n)).toNat)), mI (F ((g_nb μ ((wp μ (g_far μ a1 a2 (g_w μ 0 a3)) a0 n)) (n0 : Int)).toNat))] (mkh (m_upd (m_set (m_upd (m_upd (m_set (m_set (m_set μ 118 0 (0)) 118 22 (g_w μ 0 a3)) 118 23 (g_w μ 1 a3)) 125 F) 126 q) 118 31 ((m : Int))) 130 T) c s) _
      refine rn_iconst (k' := 67) rfl rfl ?_
      refine rn_isub (k' := 68) rfl rfl (by omega) ?_
      refine rn_icmp_eq (k' := 69) rfl rfl (fun hc2 => ?_) (fun hc2 => ?_)
      · exfalso; omega
      · skip
        refine rn_iinc (k' := 70) (L' := [some (mR 118), some (mI (a0)), some (mI (a1)), some (mI (a2)), some (mI (a3)), some (mI ((wp μ (g_far μ a1 a2 (g_w μ 0 a3)) a0 n))), some (mI ((n : Int))), some (mI ((n0 : Int) + 1))]) rfl rfl rfl (by omega) rfl ?_
        refine rn_goto rfl ?_
        exact ih (n0 + 1) _ (by omega) (by omega)
set_option maxHeartbeats 4000000 in
theorem l_X12_write {μ : Nat → Nat → Int} {c s : Nat} (hL : I_land μ) {a0 a1 a2 a3 : Int} (hv1 : g_cell μ a0) (hv2 : g_cell μ a1) (hv3 : 0 ≤ a2 ∧ a2 ≤ 99) (hv4 : 0 ≤ a3 ∧ a3 ≤ 29) {m : Nat} (hm : (g_far μ a1 a2 (g_w μ 0 a3)) a0.toNat = (m : Int)) (hm1 : m ≤ 100) {F q : Nat → Int} (hF : ∀ j, j < 100 → F j = fv ((g_far μ a1 a2 (g_w μ 0 a3)) j)) : ∀ (d n : Nat) (k : Int) (at_ : Int) (T : Nat → Int) (v7 : Option MV), k = (n : Int) → at_ = (wp μ (g_far μ a1 a2 (g_w μ 0 a3)) a0 n) → n + d = m → (∀ j, -128 ≤ T j ∧ T j ≤ 127) → (∀ j, j < n → T j = ltr (ba (gdir μ (g_far μ a1 a2 (g_w μ 0 a3)) (wp μ (g_far μ a1 a2 (g_w μ 0 a3)) a0 j)) 4)) → Rn PT none kX12_write 44 [some (mR 118), some (mI (a0)), some (mI (a1)), some (mI (a2)), some (mI (a3)), some (mI (at_)), some (mI (k)), v7] [] (mkh (m_upd (m_set (m_upd (m_upd (m_set (m_set (m_set μ 118 0 (0)) 118 22 (g_w μ 0 a3)) 118 23 (g_w μ 1 a3)) 125 F) 126 q) 118 31 ((m : Int))) 130 T) c s) (fun r => ∃ T, r = (some (some (mI (m : Int))), mkh (m_upd (m_set (m_upd (m_upd (m_set (m_set (m_set μ 118 0 (0)) 118 22 (g_w μ 0 a3)) 118 23 (g_w μ 1 a3)) 125 F) 126 q) 118 31 (m : Int)) 130 T) c s) ∧ (∀ j, -128 ≤ T j ∧ T j ≤ 127) ∧ ∀ j, j < m → T j = ltr (ba (gdir μ (g_far μ a1 a2 (g_w μ 0 a3)) (wp μ (g_far μ a1 a2 (g_w μ 0 a3)) a0 j)) 4)) := by
  have hL_ := hL
  obtain ⟨lc, lr, le, lm, lw, lh, lwo, lwd, q0, q1, q2, q3, q4, q8, q499, q500, lth, lG, lT, lW, -⟩ := hL_
  intro d
  induction d with
  | zero =>
    intro n k at_ T v7 ek eat_ hn hTb hT
    subst ek eat_
    refine rn_iload (k' := 45) rfl rfl rfl ?_
    refine rn_aload_n (k' := 46) rfl rfl rfl ?_
    refine rn_getI (k' := 47) rfl rfl K0_118 (by decide) rfl ?_
    show Rn PT none kX12_write 47 [some (mR 118), some (mI (a0)), some (mI (a1)), some (mI (a2)), some (mI (a3)), some (mI ((wp μ (g_far μ a1 a2 (g_w μ 0 a3)) a0 n))), some (mI ((n : Int))), v7] [mI ((m : Int)), mI ((n : Int))] (mkh (m_upd (m_set (m_upd (m_upd (m_set (m_set (m_set μ 118 0 (0)) 118 22 (g_w μ 0 a3)) 118 23 (g_w μ 1 a3)) 125 F) 126 q) 118 31 ((m : Int))) 130 T) c s) _
    refine rn_icmp_ge (k' := 48) rfl rfl (fun hc1 => ?_) (fun hc1 => ?_)
    · skip
      refine rn_aload_n (k' := 99) rfl rfl rfl ?_
      refine rn_getI (k' := 100) rfl rfl K0_118 (by decide) rfl ?_
      show Rn PT none kX12_write 100 [some (mR 118), some (mI (a0)), some (mI (a1)), some (mI (a2)), some (mI (a3)), some (mI ((wp μ (g_far μ a1 a2 (g_w μ 0 a3)) a0 n))), some (mI ((n : Int))), v7] [mI ((m : Int))] (mkh (m_upd (m_set (m_upd (m_upd (m_set (m_set (m_set μ 118 0 (0)) 118 22 (g_w μ 0 a3)) 118 23 (g_w μ 1 a3)) 125 F) 126 q) 118 31 ((m : Int))) 130 T) c s) _
      refine rn_iret rfl (Or.inl rfl) ?_
      exact ⟨T, rfl, hTb, fun j hj => hT j (by omega)⟩
    · exfalso; omega
  | succ d ih =>
    intro n k at_ T v7 ek eat_ hn hTb hT
    subst ek eat_
    obtain ⟨hat, hft⟩ := wp_ok hL hv2 hv1 hm n (by omega)
    obtain ⟨kk, f1, f2, f3, f4, f5, f6⟩ := far_first hL hv2 hat hft (by omega)
    have hatb := g_cell_b hL hat
    have f5b := g_cell_b hL f5
    have ewp : wp μ (g_far μ a1 a2 (g_w μ 0 a3)) a0 (n + 1) = g_nb μ (wp μ (g_far μ a1 a2 (g_w μ 0 a3)) a0 n) (kk : Int) := by
      show g_nb μ (wp μ (g_far μ a1 a2 (g_w μ 0 a3)) a0 n) (ba (gdir μ (g_far μ a1 a2 (g_w μ 0 a3)) (wp μ (g_far μ a1 a2 (g_w μ 0 a3)) a0 n)) 4) = _
      rw [f2]
    refine rn_iload (k' := 45) rfl rfl rfl ?_
    refine rn_aload_n (k' := 46) rfl rfl rfl ?_
    refine rn_getI (k' := 47) rfl rfl K0_118 (by decide) rfl ?_
    show Rn PT none kX12_write 47 [some (mR 118), some (mI (a0)), some (mI (a1)), some (mI (a2)), some (mI (a3)), some (mI ((wp μ (g_far μ a1 a2 (g_w μ 0 a3)) a0 n))), some (mI ((n : Int))), v7] [mI ((m : Int)), mI ((n : Int))] (mkh (m_upd (m_set (m_upd (m_upd (m_set (m_set (m_set μ 118 0 (0)) 118 22 (g_w μ 0 a3)) 118 23 (g_w μ 1 a3)) 125 F) 126 q) 118 31 ((m : Int))) 130 T) c s) _
    refine rn_icmp_ge (k' := 48) rfl rfl (fun hc1 => ?_) (fun hc1 => ?_)
    · exfalso; omega
    · skip
      refine rn_iconst (k' := 49) rfl rfl ?_
      refine rn_istore (k' := 50) (L' := [some (mR 118), some (mI (a0)), some (mI (a1)), some (mI (a2)), some (mI (a3)), some (mI ((wp μ (g_far μ a1 a2 (g_w μ 0 a3)) a0 n))), some (mI ((n : Int))), some (mI (0))]) rfl rfl (Nat.le_of_ble_eq_true rfl) rfl ?_
      refine l_X12_write_in hL hv1 hv2 hv3 hv4 hm hm1 hF (n := n) (kk := kk) (by omega) hat hft f1 f4 f5 f6 ?_ kk 0 _ rfl (by omega)
      refine rn_aload_n (k' := 72) rfl rfl rfl ?_
      refine rn_getR (k' := 73) rfl rfl K0_118 (by decide) rfl R0_118_30 ?_
      refine rn_iload (k' := 74) rfl rfl rfl ?_
      refine rn_iload (k' := 75) rfl rfl rfl ?_
      refine rn_if_ne (k' := 76) rfl rfl (fun hc1 => ?_) (fun hc1 => ?_)
      · skip
        refine rn_iload (k' := 79) rfl rfl rfl ?_
        refine rn_iconst (k' := 80) rfl rfl ?_
        refine rn_icmp_ne (k' := 81) rfl rfl (fun hc2 => ?_) (fun hc2 => ?_)
        · skip
          refine rn_iload (k' := 84) rfl rfl rfl ?_
          refine rn_iconst (k' := 85) rfl rfl ?_
          refine rn_icmp_ne (k' := 86) rfl rfl (fun hc3 => ?_) (fun hc3 => ?_)
          · skip
            refine rn_bipush (k' := 89) rfl rfl ?_
            refine rn_i2b (k' := 90) rfl rfl ?_
            refine rn_bastore (k' := 91) rfl rfl K0_130 (by omega) (by omega) ?_
            refine rn_aload_n (k' := 92) rfl rfl rfl ?_
            refine rn_iload (k' := 93) rfl rfl rfl ?_
            refine rn_iload (k' := 94) rfl rfl rfl ?_
            refine rn_callP (k' := 95) (y := 211) (vs := [mR 118, mI ((wp μ (g_far μ a1 a2 (g_w μ 0 a3)) a0 n)), mI ((kk : Int))]) (S' := []) (v := some (mI (g_nb μ ((wp μ (g_far μ a1 a2 (g_w μ 0 a3)) a0 n)) (kk : Int)))) (h' := mkh (m_set (m_upd (m_set (m_upd (m_upd (m_set (m_set (m_set μ 118 0 (0)) 118 22 (g_w μ 0 a3)) 118 23 (g_w μ 1 a3)) 125 F) 126 q) 118 31 ((m : Int))) 130 T) 130 n (m_i2b (m_i2b (119)))) c s) rfl rfl rfl (c_X12_beside (μ := (m_set (m_upd (m_set (m_upd (m_upd (m_set (m_set (m_set μ 118 0 (0)) 118 22 (g_w μ 0 a3)) 118 23 (g_w μ 1 a3)) 125 F) 126 q) 118 31 ((m : Int))) 130 T) 130 n (m_i2b (m_i2b (119))))) (((((((((hL).set rfl).set rfl).set rfl).upd rfl).upd rfl).set rfl).upd rfl).set rfl) (a := (wp μ (g_far μ a1 a2 (g_w μ 0 a3)) a0 n)) (d := (kk : Int)) (by assumption) (by omega)) ?_
            show Rn PT none kX12_write 95 [some (mR 118), some (mI (a0)), some (mI (a1)), some (mI (a2)), some (mI (a3)), some (mI ((wp μ (g_far μ a1 a2 (g_w μ 0 a3)) a0 n))), some (mI ((n : Int))), some (mI ((kk : Int)))] [mI (g_nb μ ((wp μ (g_far μ a1 a2 (g_w μ 0 a3)) a0 n)) (kk : Int))] (mkh (m_set (m_upd (m_set (m_upd (m_upd (m_set (m_set (m_set μ 118 0 (0)) 118 22 (g_w μ 0 a3)) 118 23 (g_w μ 1 a3)) 125 F) 126 q) 118 31 ((m : Int))) 130 T) 130 n (m_i2b (m_i2b (119)))) c s) _
            refine rn_istore (k' := 96) (L' := [some (mR 118), some (mI (a0)), some (mI (a1)), some (mI (a2)), some (mI (a3)), some (mI (g_nb μ ((wp μ (g_far μ a1 a2 (g_w μ 0 a3)) a0 n)) (kk : Int))), some (mI ((n : Int))), some (mI ((kk : Int)))]) rfl rfl (Nat.le_of_ble_eq_true rfl) rfl ?_
            refine rn_iinc (k' := 97) (L' := [some (mR 118), some (mI (a0)), some (mI (a1)), some (mI (a2)), some (mI (a3)), some (mI (g_nb μ ((wp μ (g_far μ a1 a2 (g_w μ 0 a3)) a0 n)) (kk : Int))), some (mI ((n : Int) + 1)), some (mI ((kk : Int)))]) rfl rfl rfl (by omega) rfl ?_
            refine rn_goto rfl ?_
            show Rn PT none kX12_write 44 [some (mR 118), some (mI (a0)), some (mI (a1)), some (mI (a2)), some (mI (a3)), some (mI (g_nb μ ((wp μ (g_far μ a1 a2 (g_w μ 0 a3)) a0 n)) (kk : Int))), some (mI ((n : Int) + 1)), some (mI ((kk : Int)))] [] (mkh (m_set (m_upd (m_set (m_upd (m_upd (m_set (m_set (m_set μ 118 0 (0)) 118 22 (g_w μ 0 a3)) 118 23 (g_w μ 1 a3)) 125 F) 126 q) 118 31 ((m : Int))) 130 T) 130 n (m_i2b (m_i2b (119)))) c s) _
            rw [set_upd_eq (a := 130)]
            have ev : m_i2b (m_i2b (119)) = ltr (kk : Int) := by
              first | (rw [show kk = 0 by omega]; decide) | (rw [show kk = 1 by omega]; decide) | (rw [show kk = 2 by omega]; decide) | (rw [show kk = 3 by omega]; decide)
            have ltb := ltr_b kk f1
            exact ih (n + 1) _ _ _ _ (by omega) (by rw [ewp]) (by omega) (fun j => by
              by_cases e : j = n
              · rw [e, fs_eq, ev]; exact ltb
              · rw [fs_ne e]; exact hTb j) (fun j hj => by
              by_cases e : j = n
              · rw [e, fs_eq, f2, ev]
              · rw [fs_ne e]; exact hT j (by omega))
          · skip
            refine rn_bipush (k' := 87) rfl rfl ?_
            refine rn_goto rfl ?_
            refine rn_i2b (k' := 90) rfl rfl ?_
            refine rn_bastore (k' := 91) rfl rfl K0_130 (by omega) (by omega) ?_
            refine rn_aload_n (k' := 92) rfl rfl rfl ?_
            refine rn_iload (k' := 93) rfl rfl rfl ?_
            refine rn_iload (k' := 94) rfl rfl rfl ?_
            refine rn_callP (k' := 95) (y := 211) (vs := [mR 118, mI ((wp μ (g_far μ a1 a2 (g_w μ 0 a3)) a0 n)), mI ((kk : Int))]) (S' := []) (v := some (mI (g_nb μ ((wp μ (g_far μ a1 a2 (g_w μ 0 a3)) a0 n)) (kk : Int)))) (h' := mkh (m_set (m_upd (m_set (m_upd (m_upd (m_set (m_set (m_set μ 118 0 (0)) 118 22 (g_w μ 0 a3)) 118 23 (g_w μ 1 a3)) 125 F) 126 q) 118 31 ((m : Int))) 130 T) 130 n (m_i2b (m_i2b (115)))) c s) rfl rfl rfl (c_X12_beside (μ := (m_set (m_upd (m_set (m_upd (m_upd (m_set (m_set (m_set μ 118 0 (0)) 118 22 (g_w μ 0 a3)) 118 23 (g_w μ 1 a3)) 125 F) 126 q) 118 31 ((m : Int))) 130 T) 130 n (m_i2b (m_i2b (115))))) (((((((((hL).set rfl).set rfl).set rfl).upd rfl).upd rfl).set rfl).upd rfl).set rfl) (a := (wp μ (g_far μ a1 a2 (g_w μ 0 a3)) a0 n)) (d := (kk : Int)) (by assumption) (by omega)) ?_
            show Rn PT none kX12_write 95 [some (mR 118), some (mI (a0)), some (mI (a1)), some (mI (a2)), some (mI (a3)), some (mI ((wp μ (g_far μ a1 a2 (g_w μ 0 a3)) a0 n))), some (mI ((n : Int))), some (mI ((kk : Int)))] [mI (g_nb μ ((wp μ (g_far μ a1 a2 (g_w μ 0 a3)) a0 n)) (kk : Int))] (mkh (m_set (m_upd (m_set (m_upd (m_upd (m_set (m_set (m_set μ 118 0 (0)) 118 22 (g_w μ 0 a3)) 118 23 (g_w μ 1 a3)) 125 F) 126 q) 118 31 ((m : Int))) 130 T) 130 n (m_i2b (m_i2b (115)))) c s) _
            refine rn_istore (k' := 96) (L' := [some (mR 118), some (mI (a0)), some (mI (a1)), some (mI (a2)), some (mI (a3)), some (mI (g_nb μ ((wp μ (g_far μ a1 a2 (g_w μ 0 a3)) a0 n)) (kk : Int))), some (mI ((n : Int))), some (mI ((kk : Int)))]) rfl rfl (Nat.le_of_ble_eq_true rfl) rfl ?_
            refine rn_iinc (k' := 97) (L' := [some (mR 118), some (mI (a0)), some (mI (a1)), some (mI (a2)), some (mI (a3)), some (mI (g_nb μ ((wp μ (g_far μ a1 a2 (g_w μ 0 a3)) a0 n)) (kk : Int))), some (mI ((n : Int) + 1)), some (mI ((kk : Int)))]) rfl rfl rfl (by omega) rfl ?_
            refine rn_goto rfl ?_
            show Rn PT none kX12_write 44 [some (mR 118), some (mI (a0)), some (mI (a1)), some (mI (a2)), some (mI (a3)), some (mI (g_nb μ ((wp μ (g_far μ a1 a2 (g_w μ 0 a3)) a0 n)) (kk : Int))), some (mI ((n : Int) + 1)), some (mI ((kk : Int)))] [] (mkh (m_set (m_upd (m_set (m_upd (m_upd (m_set (m_set (m_set μ 118 0 (0)) 118 22 (g_w μ 0 a3)) 118 23 (g_w μ 1 a3)) 125 F) 126 q) 118 31 ((m : Int))) 130 T) 130 n (m_i2b (m_i2b (115)))) c s) _
            rw [set_upd_eq (a := 130)]
            have ev : m_i2b (m_i2b (115)) = ltr (kk : Int) := by
              first | (rw [show kk = 0 by omega]; decide) | (rw [show kk = 1 by omega]; decide) | (rw [show kk = 2 by omega]; decide) | (rw [show kk = 3 by omega]; decide)
            have ltb := ltr_b kk f1
            exact ih (n + 1) _ _ _ _ (by omega) (by rw [ewp]) (by omega) (fun j => by
              by_cases e : j = n
              · rw [e, fs_eq, ev]; exact ltb
              · rw [fs_ne e]; exact hTb j) (fun j hj => by
              by_cases e : j = n
              · rw [e, fs_eq, f2, ev]
              · rw [fs_ne e]; exact hT j (by omega))
        · skip
          refine rn_bipush (k' := 82) rfl rfl ?_
          refine rn_goto rfl ?_
          refine rn_i2b (k' := 90) rfl rfl ?_
          refine rn_bastore (k' := 91) rfl rfl K0_130 (by omega) (by omega) ?_
          refine rn_aload_n (k' := 92) rfl rfl rfl ?_
          refine rn_iload (k' := 93) rfl rfl rfl ?_
          refine rn_iload (k' := 94) rfl rfl rfl ?_
          refine rn_callP (k' := 95) (y := 211) (vs := [mR 118, mI ((wp μ (g_far μ a1 a2 (g_w μ 0 a3)) a0 n)), mI ((kk : Int))]) (S' := []) (v := some (mI (g_nb μ ((wp μ (g_far μ a1 a2 (g_w μ 0 a3)) a0 n)) (kk : Int)))) (h' := mkh (m_set (m_upd (m_set (m_upd (m_upd (m_set (m_set (m_set μ 118 0 (0)) 118 22 (g_w μ 0 a3)) 118 23 (g_w μ 1 a3)) 125 F) 126 q) 118 31 ((m : Int))) 130 T) 130 n (m_i2b (m_i2b (101)))) c s) rfl rfl rfl (c_X12_beside (μ := (m_set (m_upd (m_set (m_upd (m_upd (m_set (m_set (m_set μ 118 0 (0)) 118 22 (g_w μ 0 a3)) 118 23 (g_w μ 1 a3)) 125 F) 126 q) 118 31 ((m : Int))) 130 T) 130 n (m_i2b (m_i2b (101))))) (((((((((hL).set rfl).set rfl).set rfl).upd rfl).upd rfl).set rfl).upd rfl).set rfl) (a := (wp μ (g_far μ a1 a2 (g_w μ 0 a3)) a0 n)) (d := (kk : Int)) (by assumption) (by omega)) ?_
          show Rn PT none kX12_write 95 [some (mR 118), some (mI (a0)), some (mI (a1)), some (mI (a2)), some (mI (a3)), some (mI ((wp μ (g_far μ a1 a2 (g_w μ 0 a3)) a0 n))), some (mI ((n : Int))), some (mI ((kk : Int)))] [mI (g_nb μ ((wp μ (g_far μ a1 a2 (g_w μ 0 a3)) a0 n)) (kk : Int))] (mkh (m_set (m_upd (m_set (m_upd (m_upd (m_set (m_set (m_set μ 118 0 (0)) 118 22 (g_w μ 0 a3)) 118 23 (g_w μ 1 a3)) 125 F) 126 q) 118 31 ((m : Int))) 130 T) 130 n (m_i2b (m_i2b (101)))) c s) _
          refine rn_istore (k' := 96) (L' := [some (mR 118), some (mI (a0)), some (mI (a1)), some (mI (a2)), some (mI (a3)), some (mI (g_nb μ ((wp μ (g_far μ a1 a2 (g_w μ 0 a3)) a0 n)) (kk : Int))), some (mI ((n : Int))), some (mI ((kk : Int)))]) rfl rfl (Nat.le_of_ble_eq_true rfl) rfl ?_
          refine rn_iinc (k' := 97) (L' := [some (mR 118), some (mI (a0)), some (mI (a1)), some (mI (a2)), some (mI (a3)), some (mI (g_nb μ ((wp μ (g_far μ a1 a2 (g_w μ 0 a3)) a0 n)) (kk : Int))), some (mI ((n : Int) + 1)), some (mI ((kk : Int)))]) rfl rfl rfl (by omega) rfl ?_
          refine rn_goto rfl ?_
          show Rn PT none kX12_write 44 [some (mR 118), some (mI (a0)), some (mI (a1)), some (mI (a2)), some (mI (a3)), some (mI (g_nb μ ((wp μ (g_far μ a1 a2 (g_w μ 0 a3)) a0 n)) (kk : Int))), some (mI ((n : Int) + 1)), some (mI ((kk : Int)))] [] (mkh (m_set (m_upd (m_set (m_upd (m_upd (m_set (m_set (m_set μ 118 0 (0)) 118 22 (g_w μ 0 a3)) 118 23 (g_w μ 1 a3)) 125 F) 126 q) 118 31 ((m : Int))) 130 T) 130 n (m_i2b (m_i2b (101)))) c s) _
          rw [set_upd_eq (a := 130)]
          have ev : m_i2b (m_i2b (101)) = ltr (kk : Int) := by
            first | (rw [show kk = 0 by omega]; decide) | (rw [show kk = 1 by omega]; decide) | (rw [show kk = 2 by omega]; decide) | (rw [show kk = 3 by omega]; decide)
          have ltb := ltr_b kk f1
          exact ih (n + 1) _ _ _ _ (by omega) (by rw [ewp]) (by omega) (fun j => by
            by_cases e : j = n
            · rw [e, fs_eq, ev]; exact ltb
            · rw [fs_ne e]; exact hTb j) (fun j hj => by
            by_cases e : j = n
            · rw [e, fs_eq, f2, ev]
            · rw [fs_ne e]; exact hT j (by omega))
      · skip
        refine rn_bipush (k' := 77) rfl rfl ?_
        refine rn_goto rfl ?_
        refine rn_i2b (k' := 90) rfl rfl ?_
        refine rn_bastore (k' := 91) rfl rfl K0_130 (by omega) (by omega) ?_
        refine rn_aload_n (k' := 92) rfl rfl rfl ?_
        refine rn_iload (k' := 93) rfl rfl rfl ?_
        refine rn_iload (k' := 94) rfl rfl rfl ?_
        refine rn_callP (k' := 95) (y := 211) (vs := [mR 118, mI ((wp μ (g_far μ a1 a2 (g_w μ 0 a3)) a0 n)), mI ((kk : Int))]) (S' := []) (v := some (mI (g_nb μ ((wp μ (g_far μ a1 a2 (g_w μ 0 a3)) a0 n)) (kk : Int)))) (h' := mkh (m_set (m_upd (m_set (m_upd (m_upd (m_set (m_set (m_set μ 118 0 (0)) 118 22 (g_w μ 0 a3)) 118 23 (g_w μ 1 a3)) 125 F) 126 q) 118 31 ((m : Int))) 130 T) 130 n (m_i2b (m_i2b (110)))) c s) rfl rfl rfl (c_X12_beside (μ := (m_set (m_upd (m_set (m_upd (m_upd (m_set (m_set (m_set μ 118 0 (0)) 118 22 (g_w μ 0 a3)) 118 23 (g_w μ 1 a3)) 125 F) 126 q) 118 31 ((m : Int))) 130 T) 130 n (m_i2b (m_i2b (110))))) (((((((((hL).set rfl).set rfl).set rfl).upd rfl).upd rfl).set rfl).upd rfl).set rfl) (a := (wp μ (g_far μ a1 a2 (g_w μ 0 a3)) a0 n)) (d := (kk : Int)) (by assumption) (by omega)) ?_
        show Rn PT none kX12_write 95 [some (mR 118), some (mI (a0)), some (mI (a1)), some (mI (a2)), some (mI (a3)), some (mI ((wp μ (g_far μ a1 a2 (g_w μ 0 a3)) a0 n))), some (mI ((n : Int))), some (mI ((kk : Int)))] [mI (g_nb μ ((wp μ (g_far μ a1 a2 (g_w μ 0 a3)) a0 n)) (kk : Int))] (mkh (m_set (m_upd (m_set (m_upd (m_upd (m_set (m_set (m_set μ 118 0 (0)) 118 22 (g_w μ 0 a3)) 118 23 (g_w μ 1 a3)) 125 F) 126 q) 118 31 ((m : Int))) 130 T) 130 n (m_i2b (m_i2b (110)))) c s) _
        refine rn_istore (k' := 96) (L' := [some (mR 118), some (mI (a0)), some (mI (a1)), some (mI (a2)), some (mI (a3)), some (mI (g_nb μ ((wp μ (g_far μ a1 a2 (g_w μ 0 a3)) a0 n)) (kk : Int))), some (mI ((n : Int))), some (mI ((kk : Int)))]) rfl rfl (Nat.le_of_ble_eq_true rfl) rfl ?_
        refine rn_iinc (k' := 97) (L' := [some (mR 118), some (mI (a0)), some (mI (a1)), some (mI (a2)), some (mI (a3)), some (mI (g_nb μ ((wp μ (g_far μ a1 a2 (g_w μ 0 a3)) a0 n)) (kk : Int))), some (mI ((n : Int) + 1)), some (mI ((kk : Int)))]) rfl rfl rfl (by omega) rfl ?_
        refine rn_goto rfl ?_
        show Rn PT none kX12_write 44 [some (mR 118), some (mI (a0)), some (mI (a1)), some (mI (a2)), some (mI (a3)), some (mI (g_nb μ ((wp μ (g_far μ a1 a2 (g_w μ 0 a3)) a0 n)) (kk : Int))), some (mI ((n : Int) + 1)), some (mI ((kk : Int)))] [] (mkh (m_set (m_upd (m_set (m_upd (m_upd (m_set (m_set (m_set μ 118 0 (0)) 118 22 (g_w μ 0 a3)) 118 23 (g_w μ 1 a3)) 125 F) 126 q) 118 31 ((m : Int))) 130 T) 130 n (m_i2b (m_i2b (110)))) c s) _
        rw [set_upd_eq (a := 130)]
        have ev : m_i2b (m_i2b (110)) = ltr (kk : Int) := by
          first | (rw [show kk = 0 by omega]; decide) | (rw [show kk = 1 by omega]; decide) | (rw [show kk = 2 by omega]; decide) | (rw [show kk = 3 by omega]; decide)
        have ltb := ltr_b kk f1
        exact ih (n + 1) _ _ _ _ (by omega) (by rw [ewp]) (by omega) (fun j => by
          by_cases e : j = n
          · rw [e, fs_eq, ev]; exact ltb
          · rw [fs_ne e]; exact hTb j) (fun j hj => by
          by_cases e : j = n
          · rw [e, fs_eq, f2, ev]
          · rw [fs_ne e]; exact hT j (by omega))
set_option maxHeartbeats 4000000 in
theorem x_X12_write {μ : Nat → Nat → Int} {c s : Nat} (hL : I_land μ) {a0 a1 a2 a3 : Int} (hv1 : g_cell μ a0) (hv2 : g_cell μ a1) (hv3 : 0 ≤ a2 ∧ a2 ≤ 99) (hv4 : 0 ≤ a3 ∧ a3 ≤ 29) (h0 : i32 a0) (h1 : i32 a1) {m : Nat} (hm : (g_far μ a1 a2 (g_w μ 0 a3)) a0.toNat = (m : Int)) (hm1 : m ≤ 100) (hTb : ∀ j, -128 ≤ μ 130 j ∧ μ 130 j ≤ 127) : Cl PT 223 [mR 118, mI a0, mI a1, mI a2, mI a3] (mkh μ c s) (fun r => ∃ F q T, r = (some (some (mI (m : Int))), mkh (m_upd (m_set (m_upd (m_upd (m_set (m_set (m_set μ 118 0 (0)) 118 22 (g_w μ 0 a3)) 118 23 (g_w μ 1 a3)) 125 F) 126 q) 118 31 (m : Int)) 130 T) c s) ∧ (∀ j, -128 ≤ T j ∧ T j ≤ 127) ∧ ∀ j, j < m → T j = ltr (ba (gdir μ (g_far μ a1 a2 (g_w μ 0 a3)) (wp μ (g_far μ a1 a2 (g_w μ 0 a3)) a0 j)) 4)) := by
  have hL_ := hL
  obtain ⟨lc, lr, le, lm, lw, lh, lwo, lwd, q0, q1, q2, q3, q4, q8, q499, q500, lth, lG, lT, lW, -⟩ := hL_
  have hs1 : g_stand μ a1 a2 (g_w μ 0 a3) := Classical.byContradiction (fun z => by unfold g_far at hm; rw [if_neg z] at hm; omega)
  have hs0 : g_stand μ a0 a2 (g_w μ 0 a3) := by
    have e : g_far μ a1 a2 (g_w μ 0 a3) = (bfs (g_nb μ) (fun z => g_stand μ z a2 (g_w μ 0 a3)) a1).1 := by unfold g_far; rw [if_pos hs1]
    rw [e] at hm
    rcases bfs_open (O := fun z => g_stand μ z a2 (g_w μ 0 a3)) (g_GR hL) hv2 hv1 (by show ¬ _ = -1; omega) with z | z
    · rw [z]; exact hs1
    · exact z
  refine ⟨_, PT_223, Nat.le_of_ble_eq_true rfl, ?_⟩
  show Rn PT none kX12_write 0 [some (mR 118), some (mI (a0)), some (mI (a1)), some (mI (a2)), some (mI (a3)), none, none, none] [] (mkh μ c s) _
  refine rn_aload_n (k' := 1) rfl rfl rfl ?_
  refine rn_iconst (k' := 2) rfl rfl ?_
  refine rn_putI (k' := 3) rfl rfl K0_118 (by decide) rfl ?_
  refine rn_aload_n (k' := 4) rfl rfl rfl ?_
  refine rn_iload_n (k' := 5) rfl rfl rfl ?_
  refine rn_iload_n (k' := 6) rfl rfl rfl ?_
  refine rn_iload_n (k' := 7) rfl rfl rfl ?_
  refine rn_iload (k' := 8) rfl rfl rfl ?_
  by_cases hq2 : g_cell μ a0 ∧ g_cell μ a1 ∧ (0 ≤ a2 ∧ a2 ≤ 99) ∧ 0 ≤ a3 ∧ a3 ≤ 29
  · refine rn_callP (k' := 9) (y := 214) (vs := [mR 118, mI (a0), mI (a1), mI (a2), mI (a3)]) (S' := []) (v := some (mI 1)) (h' := mkh (m_set μ 118 0 (0)) c s) rfl rfl rfl (by have hz : Cl PT 214 [mR 118, mI (a0), mI (a1), mI (a2), mI (a3)] (mkh (m_set μ 118 0 (0)) c s) (fun r => r = (some (some (mI (if g_cell μ a0 ∧ g_cell μ a1 ∧ (0 ≤ a2 ∧ a2 ≤ 99) ∧ 0 ≤ a3 ∧ a3 ≤ 29 then 1 else 0))), mkh (m_set μ 118 0 (0)) c s)) := c_X12_areAll ((hL).set rfl) (a := a0) (b := a1) (t := a2) (d := a3) (by omega) (by omega) (μ := (m_set μ 118 0 (0))) (c := c) (s := s); rw [if_pos hq2] at hz; exact hz) ?_
    show Rn PT none kX12_write 9 [some (mR 118), some (mI (a0)), some (mI (a1)), some (mI (a2)), some (mI (a3)), none, none, none] [mI (1)] (mkh (m_set μ 118 0 (0)) c s) _
    refine rn_if_ne (k' := 10) rfl rfl (fun hc3 => ?_) (fun hc3 => ?_)
    · skip
      refine rn_aload_n (k' := 13) rfl rfl rfl ?_
      refine rn_iload (k' := 14) rfl rfl rfl ?_
      have hb4 := g_w_b hL 0 a3
      have hc904 := g_w_b hL 1 a3
      refine rn_callP (k' := 15) (y := 201) (vs := [mR 118, mI (a3)]) (S' := []) (v := none) (h' := mkh (m_set (m_set (m_set μ 118 0 (0)) 118 22 (g_w μ 0 a3)) 118 23 (g_w μ 1 a3)) c s) rfl rfl rfl (c_X12_of (μ := (m_set μ 118 0 (0))) ((hL).set rfl) (by omega)) ?_
      show Rn PT none kX12_write 15 [some (mR 118), some (mI (a0)), some (mI (a1)), some (mI (a2)), some (mI (a3)), none, none, none] [] (mkh (m_set (m_set (m_set μ 118 0 (0)) 118 22 (g_w μ 0 a3)) 118 23 (g_w μ 1 a3)) c s) _
      refine rn_aload_n (k' := 16) rfl rfl rfl ?_
      refine rn_iload_n (k' := 17) rfl rfl rfl ?_
      refine rn_iload_n (k' := 18) rfl rfl rfl ?_
      by_cases hq5 : g_stand μ a0 a2 (g_w μ 0 a3)
      · refine rn_callP (k' := 19) (y := 203) (vs := [mR 118, mI (a0), mI (a2)]) (S' := []) (v := some (mI 1)) (h' := mkh (m_set (m_set (m_set μ 118 0 (0)) 118 22 (g_w μ 0 a3)) 118 23 (g_w μ 1 a3)) c s) rfl rfl rfl (by have hz : Cl PT 203 [mR 118, mI (a0), mI (a2)] (mkh (m_set (m_set (m_set μ 118 0 (0)) 118 22 (g_w μ 0 a3)) 118 23 (g_w μ 1 a3)) c s) (fun r => r = (some (some (mI (if g_stand μ a0 a2 (g_w μ 0 a3) then 1 else 0))), mkh (m_set (m_set (m_set μ 118 0 (0)) 118 22 (g_w μ 0 a3)) 118 23 (g_w μ 1 a3)) c s)) := c_X12_standsOn ((((hL).set rfl).set rfl).set rfl) (by show 0 ≤ g_w μ 0 a3 ∧ g_w μ 0 a3 ≤ 1000; omega) (a := a0) (t := a2) (by show g_cell μ (a0); first | assumption | omega) (by omega) (μ := (m_set (m_set (m_set μ 118 0 (0)) 118 22 (g_w μ 0 a3)) 118 23 (g_w μ 1 a3))) (c := c) (s := s); rw [if_pos hq5] at hz; exact hz) ?_
        show Rn PT none kX12_write 19 [some (mR 118), some (mI (a0)), some (mI (a1)), some (mI (a2)), some (mI (a3)), none, none, none] [mI (1)] (mkh (m_set (m_set (m_set μ 118 0 (0)) 118 22 (g_w μ 0 a3)) 118 23 (g_w μ 1 a3)) c s) _
        refine rn_if_ne (k' := 20) rfl rfl (fun hc6 => ?_) (fun hc6 => ?_)
        · skip
          refine rn_aload_n (k' := 23) rfl rfl rfl ?_
          refine rn_iload_n (k' := 24) rfl rfl rfl ?_
          refine rn_iload_n (k' := 25) rfl rfl rfl ?_
          obtain ⟨F, q, hF, hcl⟩ := c_spread_h (μ := (m_set (m_set (m_set μ 118 0 (0)) 118 22 (g_w μ 0 a3)) 118 23 (g_w μ 1 a3))) (c := c) (s := s) ((((hL).set rfl).set rfl).set rfl) (by show 0 ≤ g_w μ 0 a3 ∧ g_w μ 0 a3 ≤ 1000; omega) (a := a1) (t := a2) hv3 hv2
          rw [g_far_rows (ν := (m_set (m_set (m_set μ 118 0 (0)) 118 22 (g_w μ 0 a3)) 118 23 (g_w μ 1 a3))) (μ := μ) rfl rfl rfl] at hF
          have hF2 : ∀ j, j < 100 → F j = fv ((g_far μ a1 a2 (g_w μ 0 a3)) j) := hF
          have hb0 := g_cell_b hL hv1
          have fa0 := fv_c hF2 (j := a0.toNat) (by omega)
          have fab := g_far_b hL (t := a2) (w := g_w μ 0 a3) hv2 a0.toNat
          refine rn_callP (k' := 26) (y := 212) (vs := [mR 118, mI (a1), mI (a2)]) (S' := []) (v := none) (h' := mkh (m_upd (m_upd (m_set (m_set (m_set μ 118 0 (0)) 118 22 (g_w μ 0 a3)) 118 23 (g_w μ 1 a3)) 125 F) 126 q) c s) rfl rfl rfl (hcl) ?_
          show Rn PT none kX12_write 26 [some (mR 118), some (mI (a0)), some (mI (a1)), some (mI (a2)), some (mI (a3)), none, none, none] [] (mkh (m_upd (m_upd (m_set (m_set (m_set μ 118 0 (0)) 118 22 (g_w μ 0 a3)) 118 23 (g_w μ 1 a3)) 125 F) 126 q) c s) _
          refine rn_aload_n (k' := 27) rfl rfl rfl ?_
          refine rn_getR (k' := 28) rfl rfl K0_118 (by decide) rfl R0_118_24 ?_
          refine rn_iload_n (k' := 29) rfl rfl rfl ?_
          refine rn_iaload (k' := 30) rfl rfl K0_125 (by omega) (by omega) ?_
          show Rn PT none kX12_write 30 [some (mR 118), some (mI (a0)), some (mI (a1)), some (mI (a2)), some (mI (a3)), none, none, none] [mI (F ((a0).toNat))] (mkh (m_upd (m_upd (m_set (m_set (m_set μ 118 0 (0)) 118 22 (g_w μ 0 a3)) 118 23 (g_w μ 1 a3)) 125 F) 126 q) c s) _
          refine rn_ldc_w (k' := 31) rfl rfl ?_
          refine rn_icmp_lt (k' := 32) rfl rfl (fun hc7 => ?_) (fun hc7 => ?_)
          · skip
            refine rn_aload_n (k' := 35) rfl rfl rfl ?_
            refine rn_aload_n (k' := 36) rfl rfl rfl ?_
            refine rn_getR (k' := 37) rfl rfl K0_118 (by decide) rfl R0_118_24 ?_
            refine rn_iload_n (k' := 38) rfl rfl rfl ?_
            refine rn_iaload (k' := 39) rfl rfl K0_125 (by omega) (by omega) ?_
            show Rn PT none kX12_write 39 [some (mR 118), some (mI (a0)), some (mI (a1)), some (mI (a2)), some (mI (a3)), none, none, none] [mI (F ((a0).toNat)), mR 118] (mkh (m_upd (m_upd (m_set (m_set (m_set μ 118 0 (0)) 118 22 (g_w μ 0 a3)) 118 23 (g_w μ 1 a3)) 125 F) 126 q) c s) _
            refine rn_putI (k' := 40) rfl rfl K0_118 (by decide) rfl ?_
            refine rn_iload_n (k' := 41) rfl rfl rfl ?_
            refine rn_istore (k' := 42) (L' := [some (mR 118), some (mI (a0)), some (mI (a1)), some (mI (a2)), some (mI (a3)), some (mI (a0)), none, none]) rfl rfl (Nat.le_of_ble_eq_true rfl) rfl ?_
            refine rn_iconst (k' := 43) rfl rfl ?_
            refine rn_istore (k' := 44) (L' := [some (mR 118), some (mI (a0)), some (mI (a1)), some (mI (a2)), some (mI (a3)), some (mI (a0)), some (mI (0)), none]) rfl rfl (Nat.le_of_ble_eq_true rfl) rfl ?_
            have em : F a0.toNat = (m : Int) := by omega
            rw [em]
            have h := l_X12_write (c := c) (s := s) hL hv1 hv2 hv3 hv4 hm hm1 (q := q) hF2 m 0 0 _ (μ 130) none rfl rfl (by omega) hTb (fun j hj => absurd hj (Nat.not_lt_zero j))
            rw [show m_upd (m_set (m_upd (m_upd (m_set (m_set (m_set μ 118 0 (0)) 118 22 (g_w μ 0 a3)) 118 23 (g_w μ 1 a3)) 125 F) 126 q) 118 31 (m : Int)) 130 (μ 130) = m_set (m_upd (m_upd (m_set (m_set (m_set μ 118 0 (0)) 118 22 (g_w μ 0 a3)) 118 23 (g_w μ 1 a3)) 125 F) 126 q) 118 31 (m : Int) from upd_self (μ := m_set (m_upd (m_upd (m_set (m_set (m_set μ 118 0 (0)) 118 22 (g_w μ 0 a3)) 118 23 (g_w μ 1 a3)) 125 F) 126 q) 118 31 (m : Int)) (a := 130)] at h
            exact h.mono (fun r hr => by obtain ⟨T, e1, e2, e3⟩ := hr; exact ⟨F, q, T, e1, e2, e3⟩)
          · exfalso; omega
        · exfalso; omega
      · exfalso; omega
    · exfalso; omega
  · exfalso; omega
set_option maxHeartbeats 4000000 in
theorem n_X12_write {μ : Nat → Nat → Int} {c s : Nat} (hL : I_land μ) {a0 a1 a2 a3 : Int} (hv1 : g_cell μ a0) (hv2 : g_cell μ a1) (hv3 : 0 ≤ a2 ∧ a2 ≤ 99) (hv4 : 0 ≤ a3 ∧ a3 ≤ 29) (h0 : i32 a0) (h1 : i32 a1) (hm : (g_far μ a1 a2 (g_w μ 0 a3)) a0.toNat = -1) : Cl PT 223 [mR 118, mI a0, mI a1, mI a2, mI a3] (mkh μ c s) (fun r => ∃ μ1, r = (some (some (mI (-1))), mkh μ1 c s) ∧ rst μ1 = rst μ) := by
  have hL_ := hL
  obtain ⟨lc, lr, le, lm, lw, lh, lwo, lwd, q0, q1, q2, q3, q4, q8, q499, q500, lth, lG, lT, lW, -⟩ := hL_
  refine ⟨_, PT_223, Nat.le_of_ble_eq_true rfl, ?_⟩
  show Rn PT none kX12_write 0 [some (mR 118), some (mI (a0)), some (mI (a1)), some (mI (a2)), some (mI (a3)), none, none, none] [] (mkh μ c s) _
  refine rn_aload_n (k' := 1) rfl rfl rfl ?_
  refine rn_iconst (k' := 2) rfl rfl ?_
  refine rn_putI (k' := 3) rfl rfl K0_118 (by decide) rfl ?_
  refine rn_aload_n (k' := 4) rfl rfl rfl ?_
  refine rn_iload_n (k' := 5) rfl rfl rfl ?_
  refine rn_iload_n (k' := 6) rfl rfl rfl ?_
  refine rn_iload_n (k' := 7) rfl rfl rfl ?_
  refine rn_iload (k' := 8) rfl rfl rfl ?_
  by_cases hq2 : g_cell μ a0 ∧ g_cell μ a1 ∧ (0 ≤ a2 ∧ a2 ≤ 99) ∧ 0 ≤ a3 ∧ a3 ≤ 29
  · refine rn_callP (k' := 9) (y := 214) (vs := [mR 118, mI (a0), mI (a1), mI (a2), mI (a3)]) (S' := []) (v := some (mI 1)) (h' := mkh (m_set μ 118 0 (0)) c s) rfl rfl rfl (by have hz : Cl PT 214 [mR 118, mI (a0), mI (a1), mI (a2), mI (a3)] (mkh (m_set μ 118 0 (0)) c s) (fun r => r = (some (some (mI (if g_cell μ a0 ∧ g_cell μ a1 ∧ (0 ≤ a2 ∧ a2 ≤ 99) ∧ 0 ≤ a3 ∧ a3 ≤ 29 then 1 else 0))), mkh (m_set μ 118 0 (0)) c s)) := c_X12_areAll ((hL).set rfl) (a := a0) (b := a1) (t := a2) (d := a3) (by omega) (by omega) (μ := (m_set μ 118 0 (0))) (c := c) (s := s); rw [if_pos hq2] at hz; exact hz) ?_
    show Rn PT none kX12_write 9 [some (mR 118), some (mI (a0)), some (mI (a1)), some (mI (a2)), some (mI (a3)), none, none, none] [mI (1)] (mkh (m_set μ 118 0 (0)) c s) _
    refine rn_if_ne (k' := 10) rfl rfl (fun hc3 => ?_) (fun hc3 => ?_)
    · skip
      refine rn_aload_n (k' := 13) rfl rfl rfl ?_
      refine rn_iload (k' := 14) rfl rfl rfl ?_
      have hb4 := g_w_b hL 0 a3
      have hc904 := g_w_b hL 1 a3
      refine rn_callP (k' := 15) (y := 201) (vs := [mR 118, mI (a3)]) (S' := []) (v := none) (h' := mkh (m_set (m_set (m_set μ 118 0 (0)) 118 22 (g_w μ 0 a3)) 118 23 (g_w μ 1 a3)) c s) rfl rfl rfl (c_X12_of (μ := (m_set μ 118 0 (0))) ((hL).set rfl) (by omega)) ?_
      show Rn PT none kX12_write 15 [some (mR 118), some (mI (a0)), some (mI (a1)), some (mI (a2)), some (mI (a3)), none, none, none] [] (mkh (m_set (m_set (m_set μ 118 0 (0)) 118 22 (g_w μ 0 a3)) 118 23 (g_w μ 1 a3)) c s) _
      refine rn_aload_n (k' := 16) rfl rfl rfl ?_
      refine rn_iload_n (k' := 17) rfl rfl rfl ?_
      refine rn_iload_n (k' := 18) rfl rfl rfl ?_
      by_cases hq5 : g_stand μ a0 a2 (g_w μ 0 a3)
      · refine rn_callP (k' := 19) (y := 203) (vs := [mR 118, mI (a0), mI (a2)]) (S' := []) (v := some (mI 1)) (h' := mkh (m_set (m_set (m_set μ 118 0 (0)) 118 22 (g_w μ 0 a3)) 118 23 (g_w μ 1 a3)) c s) rfl rfl rfl (by have hz : Cl PT 203 [mR 118, mI (a0), mI (a2)] (mkh (m_set (m_set (m_set μ 118 0 (0)) 118 22 (g_w μ 0 a3)) 118 23 (g_w μ 1 a3)) c s) (fun r => r = (some (some (mI (if g_stand μ a0 a2 (g_w μ 0 a3) then 1 else 0))), mkh (m_set (m_set (m_set μ 118 0 (0)) 118 22 (g_w μ 0 a3)) 118 23 (g_w μ 1 a3)) c s)) := c_X12_standsOn ((((hL).set rfl).set rfl).set rfl) (by show 0 ≤ g_w μ 0 a3 ∧ g_w μ 0 a3 ≤ 1000; omega) (a := a0) (t := a2) (by show g_cell μ (a0); first | assumption | omega) (by omega) (μ := (m_set (m_set (m_set μ 118 0 (0)) 118 22 (g_w μ 0 a3)) 118 23 (g_w μ 1 a3))) (c := c) (s := s); rw [if_pos hq5] at hz; exact hz) ?_
        show Rn PT none kX12_write 19 [some (mR 118), some (mI (a0)), some (mI (a1)), some (mI (a2)), some (mI (a3)), none, none, none] [mI (1)] (mkh (m_set (m_set (m_set μ 118 0 (0)) 118 22 (g_w μ 0 a3)) 118 23 (g_w μ 1 a3)) c s) _
        refine rn_if_ne (k' := 20) rfl rfl (fun hc6 => ?_) (fun hc6 => ?_)
        · skip
          refine rn_aload_n (k' := 23) rfl rfl rfl ?_
          refine rn_iload_n (k' := 24) rfl rfl rfl ?_
          refine rn_iload_n (k' := 25) rfl rfl rfl ?_
          obtain ⟨F, q, hF, hcl⟩ := c_spread_h (μ := (m_set (m_set (m_set μ 118 0 (0)) 118 22 (g_w μ 0 a3)) 118 23 (g_w μ 1 a3))) (c := c) (s := s) ((((hL).set rfl).set rfl).set rfl) (by show 0 ≤ g_w μ 0 a3 ∧ g_w μ 0 a3 ≤ 1000; omega) (a := a1) (t := a2) hv3 hv2
          rw [g_far_rows (ν := (m_set (m_set (m_set μ 118 0 (0)) 118 22 (g_w μ 0 a3)) 118 23 (g_w μ 1 a3))) (μ := μ) rfl rfl rfl] at hF
          have hF2 : ∀ j, j < 100 → F j = fv ((g_far μ a1 a2 (g_w μ 0 a3)) j) := hF
          have hb0 := g_cell_b hL hv1
          have fa0 := fv_c hF2 (j := a0.toNat) (by omega)
          have fab := g_far_b hL (t := a2) (w := g_w μ 0 a3) hv2 a0.toNat
          refine rn_callP (k' := 26) (y := 212) (vs := [mR 118, mI (a1), mI (a2)]) (S' := []) (v := none) (h' := mkh (m_upd (m_upd (m_set (m_set (m_set μ 118 0 (0)) 118 22 (g_w μ 0 a3)) 118 23 (g_w μ 1 a3)) 125 F) 126 q) c s) rfl rfl rfl (hcl) ?_
          show Rn PT none kX12_write 26 [some (mR 118), some (mI (a0)), some (mI (a1)), some (mI (a2)), some (mI (a3)), none, none, none] [] (mkh (m_upd (m_upd (m_set (m_set (m_set μ 118 0 (0)) 118 22 (g_w μ 0 a3)) 118 23 (g_w μ 1 a3)) 125 F) 126 q) c s) _
          refine rn_aload_n (k' := 27) rfl rfl rfl ?_
          refine rn_getR (k' := 28) rfl rfl K0_118 (by decide) rfl R0_118_24 ?_
          refine rn_iload_n (k' := 29) rfl rfl rfl ?_
          refine rn_iaload (k' := 30) rfl rfl K0_125 (by omega) (by omega) ?_
          show Rn PT none kX12_write 30 [some (mR 118), some (mI (a0)), some (mI (a1)), some (mI (a2)), some (mI (a3)), none, none, none] [mI (F ((a0).toNat))] (mkh (m_upd (m_upd (m_set (m_set (m_set μ 118 0 (0)) 118 22 (g_w μ 0 a3)) 118 23 (g_w μ 1 a3)) 125 F) 126 q) c s) _
          refine rn_ldc_w (k' := 31) rfl rfl ?_
          refine rn_icmp_lt (k' := 32) rfl rfl (fun hc7 => ?_) (fun hc7 => ?_)
          · exfalso; omega
          · skip
            refine rn_iconst (k' := 33) rfl rfl ?_
            refine rn_iret rfl (Or.inl rfl) ?_
            exact ⟨(m_upd (m_upd (m_set (m_set (m_set μ 118 0 (0)) 118 22 (g_w μ 0 a3)) 118 23 (g_w μ 1 a3)) 125 F) 126 q), rfl, ((rst_upd (a := 126) (fun _ => rfl)).trans ((rst_upd (a := 125) (fun _ => rfl)).trans ((rst_set (a := 118) (j := 23) rfl).trans ((rst_set (a := 118) (j := 22) rfl).trans (rst_set (a := 118) (j := 0) rfl)))))⟩
        · exfalso; omega
      · refine rn_callP (k' := 19) (y := 203) (vs := [mR 118, mI (a0), mI (a2)]) (S' := []) (v := some (mI 0)) (h' := mkh (m_set (m_set (m_set μ 118 0 (0)) 118 22 (g_w μ 0 a3)) 118 23 (g_w μ 1 a3)) c s) rfl rfl rfl (by have hz : Cl PT 203 [mR 118, mI (a0), mI (a2)] (mkh (m_set (m_set (m_set μ 118 0 (0)) 118 22 (g_w μ 0 a3)) 118 23 (g_w μ 1 a3)) c s) (fun r => r = (some (some (mI (if g_stand μ a0 a2 (g_w μ 0 a3) then 1 else 0))), mkh (m_set (m_set (m_set μ 118 0 (0)) 118 22 (g_w μ 0 a3)) 118 23 (g_w μ 1 a3)) c s)) := c_X12_standsOn ((((hL).set rfl).set rfl).set rfl) (by show 0 ≤ g_w μ 0 a3 ∧ g_w μ 0 a3 ≤ 1000; omega) (a := a0) (t := a2) (by show g_cell μ (a0); first | assumption | omega) (by omega) (μ := (m_set (m_set (m_set μ 118 0 (0)) 118 22 (g_w μ 0 a3)) 118 23 (g_w μ 1 a3))) (c := c) (s := s); rw [if_neg hq5] at hz; exact hz) ?_
        show Rn PT none kX12_write 19 [some (mR 118), some (mI (a0)), some (mI (a1)), some (mI (a2)), some (mI (a3)), none, none, none] [mI (0)] (mkh (m_set (m_set (m_set μ 118 0 (0)) 118 22 (g_w μ 0 a3)) 118 23 (g_w μ 1 a3)) c s) _
        refine rn_if_ne (k' := 20) rfl rfl (fun hc8 => ?_) (fun hc8 => ?_)
        · exfalso; omega
        · skip
          refine rn_iconst (k' := 21) rfl rfl ?_
          refine rn_iret rfl (Or.inl rfl) ?_
          exact ⟨(m_set (m_set (m_set μ 118 0 (0)) 118 22 (g_w μ 0 a3)) 118 23 (g_w μ 1 a3)), rfl, ((rst_set (a := 118) (j := 23) rfl).trans ((rst_set (a := 118) (j := 22) rfl).trans (rst_set (a := 118) (j := 0) rfl)))⟩
    · exfalso; omega
  · exfalso; omega
theorem i_X11_write {μ : Nat → Nat → Int} {c s : Nat} (hL : I_land μ) {a0 a1 a2 a3 : Int} (h0 : i32 a0) (h1 : i32 a1) (h2 : i32 a2) (h3 : i32 a3) (hv : ¬ (g_cell μ a0 ∧ g_cell μ a1 ∧ (0 ≤ a2 ∧ a2 ≤ 99) ∧ 0 ≤ a3 ∧ a3 ≤ 29)) : Cl PT 119 [mR 0, mI a0, mI a1, mI a2, mI a3] (mkh μ c s) (fun r => r = (some (some (mI (-1))), mkh μ c s)) := by
  have hL_ := hL
  obtain ⟨lc, lr, le, lm, lw, lh, lwo, lwd, q0, q1, q2, q3, q4, q8, q499, q500, lth, lG, lT, lW, -⟩ := hL_
  refine ⟨_, PT_119, Nat.le_of_ble_eq_true rfl, ?_⟩
  show Rn PT none kX11_write 0 [some (mR 0), some (mI (a0)), some (mI (a1)), some (mI (a2)), some (mI (a3)), none, none, none, none] [] (mkh μ c s) _
  refine rn_aload_n (k' := 1) rfl rfl rfl ?_
  refine rn_iload_n (k' := 2) rfl rfl rfl ?_
  refine rn_iload_n (k' := 3) rfl rfl rfl ?_
  refine rn_iload_n (k' := 4) rfl rfl rfl ?_
  refine rn_iload (k' := 5) rfl rfl rfl ?_
  by_cases hq1 : g_cell μ a0 ∧ g_cell μ a1 ∧ (0 ≤ a2 ∧ a2 ≤ 99) ∧ 0 ≤ a3 ∧ a3 ≤ 29
  · refine rn_callP (k' := 6) (y := 155) (vs := [mR 0, mI (a0), mI (a1), mI (a2), mI (a3)]) (S' := []) (v := some (mI 1)) (h' := mkh μ c s) rfl rfl rfl (by have hz : Cl PT 155 [mR 0, mI (a0), mI (a1), mI (a2), mI (a3)] (mkh μ c s) (fun r => r = (some (some (mI (if g_cell μ a0 ∧ g_cell μ a1 ∧ (0 ≤ a2 ∧ a2 ≤ 99) ∧ 0 ≤ a3 ∧ a3 ≤ 29 then 1 else 0))), mkh μ c s)) := c_X11_areSuch (hL) (a := a0) (b := a1) (t := a2) (d := a3) (by omega) (by omega) (μ := μ) (c := c) (s := s); rw [if_pos hq1] at hz; exact hz) ?_
    show Rn PT none kX11_write 6 [some (mR 0), some (mI (a0)), some (mI (a1)), some (mI (a2)), some (mI (a3)), none, none, none, none] [mI (1)] (mkh μ c s) _
    refine rn_if_ne (k' := 7) rfl rfl (fun hc2 => ?_) (fun hc2 => ?_)
    · skip
      refine rn_aload_n (k' := 10) rfl rfl rfl ?_
      refine rn_getR (k' := 11) rfl rfl K0_0 (by decide) rfl R0_0_8 ?_
      refine rn_iload_n (k' := 12) rfl rfl rfl ?_
      refine rn_iload_n (k' := 13) rfl rfl rfl ?_
      refine rn_iload_n (k' := 14) rfl rfl rfl ?_
      refine rn_aload_n (k' := 15) rfl rfl rfl ?_
      refine rn_getR (k' := 16) rfl rfl K0_0 (by decide) rfl R0_0_3 ?_
      refine rn_iconst (k' := 17) rfl rfl ?_
      refine rn_iload (k' := 18) rfl rfl rfl ?_
      exfalso; omega
    · exfalso; omega
  · refine rn_callP (k' := 6) (y := 155) (vs := [mR 0, mI (a0), mI (a1), mI (a2), mI (a3)]) (S' := []) (v := some (mI 0)) (h' := mkh μ c s) rfl rfl rfl (by have hz : Cl PT 155 [mR 0, mI (a0), mI (a1), mI (a2), mI (a3)] (mkh μ c s) (fun r => r = (some (some (mI (if g_cell μ a0 ∧ g_cell μ a1 ∧ (0 ≤ a2 ∧ a2 ≤ 99) ∧ 0 ≤ a3 ∧ a3 ≤ 29 then 1 else 0))), mkh μ c s)) := c_X11_areSuch (hL) (a := a0) (b := a1) (t := a2) (d := a3) (by omega) (by omega) (μ := μ) (c := c) (s := s); rw [if_neg hq1] at hz; exact hz) ?_
    show Rn PT none kX11_write 6 [some (mR 0), some (mI (a0)), some (mI (a1)), some (mI (a2)), some (mI (a3)), none, none, none, none] [mI (0)] (mkh μ c s) _
    refine rn_if_ne (k' := 7) rfl rfl (fun hc3 => ?_) (fun hc3 => ?_)
    · exfalso; omega
    · skip
      refine rn_iconst (k' := 8) rfl rfl ?_
      refine rn_iret rfl (Or.inl rfl) ?_
      rfl
theorem i_X12_write {μ : Nat → Nat → Int} {c s : Nat} (hL : I_land μ) {a0 a1 a2 a3 : Int} (h0 : i32 a0) (h1 : i32 a1) (h2 : i32 a2) (h3 : i32 a3) (hv : ¬ (g_cell μ a0 ∧ g_cell μ a1 ∧ (0 ≤ a2 ∧ a2 ≤ 99) ∧ 0 ≤ a3 ∧ a3 ≤ 29)) : Cl PT 223 [mR 118, mI a0, mI a1, mI a2, mI a3] (mkh μ c s) (fun r => r = (some (some (mI (-1))), mkh (m_set μ 118 0 0) c s)) := by
  have hL_ := hL
  obtain ⟨lc, lr, le, lm, lw, lh, lwo, lwd, q0, q1, q2, q3, q4, q8, q499, q500, lth, lG, lT, lW, -⟩ := hL_
  refine ⟨_, PT_223, Nat.le_of_ble_eq_true rfl, ?_⟩
  show Rn PT none kX12_write 0 [some (mR 118), some (mI (a0)), some (mI (a1)), some (mI (a2)), some (mI (a3)), none, none, none] [] (mkh μ c s) _
  refine rn_aload_n (k' := 1) rfl rfl rfl ?_
  refine rn_iconst (k' := 2) rfl rfl ?_
  refine rn_putI (k' := 3) rfl rfl K0_118 (by decide) rfl ?_
  refine rn_aload_n (k' := 4) rfl rfl rfl ?_
  refine rn_iload_n (k' := 5) rfl rfl rfl ?_
  refine rn_iload_n (k' := 6) rfl rfl rfl ?_
  refine rn_iload_n (k' := 7) rfl rfl rfl ?_
  refine rn_iload (k' := 8) rfl rfl rfl ?_
  by_cases hq2 : g_cell μ a0 ∧ g_cell μ a1 ∧ (0 ≤ a2 ∧ a2 ≤ 99) ∧ 0 ≤ a3 ∧ a3 ≤ 29
  · refine rn_callP (k' := 9) (y := 214) (vs := [mR 118, mI (a0), mI (a1), mI (a2), mI (a3)]) (S' := []) (v := some (mI 1)) (h' := mkh (m_set μ 118 0 (0)) c s) rfl rfl rfl (by have hz : Cl PT 214 [mR 118, mI (a0), mI (a1), mI (a2), mI (a3)] (mkh (m_set μ 118 0 (0)) c s) (fun r => r = (some (some (mI (if g_cell μ a0 ∧ g_cell μ a1 ∧ (0 ≤ a2 ∧ a2 ≤ 99) ∧ 0 ≤ a3 ∧ a3 ≤ 29 then 1 else 0))), mkh (m_set μ 118 0 (0)) c s)) := c_X12_areAll ((hL).set rfl) (a := a0) (b := a1) (t := a2) (d := a3) (by omega) (by omega) (μ := (m_set μ 118 0 (0))) (c := c) (s := s); rw [if_pos hq2] at hz; exact hz) ?_
    show Rn PT none kX12_write 9 [some (mR 118), some (mI (a0)), some (mI (a1)), some (mI (a2)), some (mI (a3)), none, none, none] [mI (1)] (mkh (m_set μ 118 0 (0)) c s) _
    refine rn_if_ne (k' := 10) rfl rfl (fun hc3 => ?_) (fun hc3 => ?_)
    · skip
      refine rn_aload_n (k' := 13) rfl rfl rfl ?_
      refine rn_iload (k' := 14) rfl rfl rfl ?_
      exfalso; omega
    · exfalso; omega
  · refine rn_callP (k' := 9) (y := 214) (vs := [mR 118, mI (a0), mI (a1), mI (a2), mI (a3)]) (S' := []) (v := some (mI 0)) (h' := mkh (m_set μ 118 0 (0)) c s) rfl rfl rfl (by have hz : Cl PT 214 [mR 118, mI (a0), mI (a1), mI (a2), mI (a3)] (mkh (m_set μ 118 0 (0)) c s) (fun r => r = (some (some (mI (if g_cell μ a0 ∧ g_cell μ a1 ∧ (0 ≤ a2 ∧ a2 ≤ 99) ∧ 0 ≤ a3 ∧ a3 ≤ 29 then 1 else 0))), mkh (m_set μ 118 0 (0)) c s)) := c_X12_areAll ((hL).set rfl) (a := a0) (b := a1) (t := a2) (d := a3) (by omega) (by omega) (μ := (m_set μ 118 0 (0))) (c := c) (s := s); rw [if_neg hq2] at hz; exact hz) ?_
    show Rn PT none kX12_write 9 [some (mR 118), some (mI (a0)), some (mI (a1)), some (mI (a2)), some (mI (a3)), none, none, none] [mI (0)] (mkh (m_set μ 118 0 (0)) c s) _
    refine rn_if_ne (k' := 10) rfl rfl (fun hc4 => ?_) (fun hc4 => ?_)
    · exfalso; omega
    · skip
      refine rn_iconst (k' := 11) rfl rfl ?_
      refine rn_iret rfl (Or.inl rfl) ?_
      rfl
theorem pair_16 : ∀ (a0 : Int), ∀ (a1 : Int), ∀ (a2 : Int), ∀ (a3 : Int), i32 a0 → i32 a1 → i32 a2 → i32 a3 → PairI (Inv N) 119 223 [mI a0, mI a1, mI a2, mI a3] := by
  intro a0 a1 a2 a3 h0 h1 h2 h3 μ c s hI
  have hL := hI.land
  by_cases hv : g_cell μ a0 ∧ g_cell μ a1 ∧ (0 ≤ a2 ∧ a2 ≤ 99) ∧ 0 ≤ a3 ∧ a3 ≤ 29
  · have hv_ := hv
    obtain ⟨hv1, hv2, hv3, hv4⟩ := hv_
    have hb := g_far_b hL (t := a2) (w := g_w μ 0 a3) hv2 a0.toNat
    by_cases hm : (g_far μ a1 a2 (g_w μ 0 a3)) a0.toNat = -1
    · obtain ⟨O, F, q, hx⟩ := Cl.ex3 (g := fun O F q => (some (some (mI (-1))), mkh (m_upd (m_upd (m_upd μ 67 O) 68 F) 69 q) c s)) (n_X11_write (c := c) (s := s) hL hv1 hv2 hv3 hv4 h0 h1 hm)
      have hr : rst (m_upd (m_upd (m_upd μ 67 O) 68 F) 69 q) = rst μ := (rst_upd (fun _ => rfl)).trans ((rst_upd (fun _ => rfl)).trans (rst_upd (fun _ => rfl)))
      have hL2 : I_land (m_upd (m_upd (m_upd μ 67 O) 68 F) 69 q) := ((hL.upd rfl).upd rfl).upd rfl
      have hm2 : g_far (m_upd (m_upd (m_upd μ 67 O) 68 F) 69 q) a1 a2 (g_w (m_upd (m_upd (m_upd μ 67 O) 68 F) 69 q) 0 a3) a0.toNat = -1 := by
        rw [g_far_rows (ν := m_upd (m_upd (m_upd μ 67 O) 68 F) 69 q) (μ := μ) rfl rfl rfl]; exact hm
      obtain ⟨μ2, r2, c2⟩ := (n_X12_write (c := c) (s := s) hL2 hv1 hv2 hv3 hv4 h0 h1 hm2).ex (g := fun μ2 => (some (some (mI (-1))), mkh μ2 c s))
      exact ⟨-1, _, μ2, hx, c2, hI.same (r2.trans hr)⟩
    · obtain ⟨m, hm'⟩ := Int.eq_ofNat_of_zero_le (show 0 ≤ (g_far μ a1 a2 (g_w μ 0 a3)) a0.toNat by omega)
      obtain ⟨M, e1, e2, n, r, e3, O, F, q, T, e4, e5⟩ := x_X11_write (c := c) (s := s) hL hv1 hv2 hv3 hv4 h0 h1 hm' (by omega)
      have hx : Cl PT 119 [mR 0, mI a0, mI a1, mI a2, mI a3] (mkh μ c s) (fun r => r = (some (some (mI (m : Int))), mkh (m_set (m_upd (m_upd (m_upd (m_upd μ 67 O) 68 F) 69 q) 116 T) 0 14 (m : Int)) c s)) := ⟨M, e1, e2, n, r, e3, e4⟩
      have hr : rm kT (m_set (m_upd (m_upd (m_upd (m_upd μ 67 O) 68 F) 69 q) 116 T) 0 14 (m : Int)) = rm kT μ := (rm_set rfl).trans ((rm_upd0 (fun _ => rfl)).trans ((rm_upd0 (fun _ => rfl)).trans ((rm_upd0 (fun _ => rfl)).trans (rm_upd0 (fun _ => rfl)))))
      generalize hM1 : m_set (m_upd (m_upd (m_upd (m_upd μ 67 O) 68 F) 69 q) 116 T) 0 14 (m : Int) = μ1 at hx hr
      have k6 : μ1 6 = μ 6 := rm_row hr (fun _ => rfl)
      have k7 : μ1 7 = μ 7 := rm_row hr (fun _ => rfl)
      have k8 : μ1 8 = μ 8 := rm_row hr (fun _ => rfl)
      have k10 : μ1 10 = μ 10 := rm_row hr (fun _ => rfl)
      have hL1 : I_land μ1 := hL.congr k6 k7 k8 (rm_row hr (fun _ => rfl)) k10 (fun j _ => by rw [rm_row hr (a := 120) (fun _ => rfl)])
      have k116 : μ1 116 = T := by rw [← hM1]; rfl
      have k14 : μ1 0 14 = (m : Int) := by rw [← hM1]; rfl
      have k130 : μ1 130 = μ 130 := by rw [← hM1]; rfl
      have kl : ∀ j, ¬ j = 14 → μ1 0 j = μ 0 j := fun j hj => by rw [← hM1, m_set_ne _ _ (by omega)]; rfl
      have ko : ∀ a, ¬ a = 0 → ¬ a = 116 → ¬ a = 67 → ¬ a = 68 → ¬ a = 69 → μ1 a = μ a := fun a b1 b2 b3 b4 b5 => by rw [← hM1, row_set b1, row_upd b2, row_upd b5, row_upd b4, row_upd b3]
      have eg : g_far μ1 a1 a2 (g_w μ1 0 a3) = (g_far μ a1 a2 (g_w μ 0 a3)) := by rw [g_far_rows k6 k7 k8]; unfold g_w; rw [k10]
      have c1 : g_cell μ1 a0 := by unfold g_cell; rw [k6]; exact hv1
      have c2 : g_cell μ1 a1 := by unfold g_cell; rw [k6]; exact hv2
      have l1 := hI.last
      obtain ⟨M', e1', e2', n', r', e3', F', q', T', e4', e5', e6'⟩ := x_X12_write (μ := μ1) (c := c) (s := s) hL1 c1 c2 hv3 hv4 h0 h1 (m := m) (by rw [eg]; exact hm') (by omega) (by rw [k130]; exact fun j => (l1.1.2.2 j).1)
      refine ⟨(m : Int), μ1, _, hx, ⟨M', e1', e2', n', r', e3', e4'⟩, last_inv hI (Eq.trans ((rm_upd0 (fun _ => rfl)).trans ((rm_set rfl).trans ((rm_upd0 (fun _ => rfl)).trans ((rm_upd0 (fun _ => rfl)).trans ((rm_set rfl).trans ((rm_set rfl).trans (rm_set rfl))))))) hr) ?_⟩
      refine ⟨⟨?_, ?_, fun j => ⟨e5' j, fun hj => ?_⟩⟩, ?_, ?_, ?_⟩
      · show 0 ≤ μ1 0 14 ∧ μ1 0 14 ≤ 100
        rw [k14]; omega
      · show (m : Int) = μ1 0 14
        rw [k14]
      · have hj' : (j : Int) < μ1 0 14 := hj
        rw [k14] at hj'
        show T' j = μ1 116 j
        rw [k116, e6' j (by omega), e5 j (by omega), eg, wp_rows k6, gdir_rows k6]
      · show (0 ≤ μ1 0 16 ∧ μ1 0 16 ≤ 100) ∧ μ1 118 39 = μ1 0 16 ∧ ∀ j : Nat, (j : Int) < μ1 0 16 → μ1 135 j = μ1 117 j
        rw [kl 16 (by decide), ko 118 (by decide) (by decide) (by decide) (by decide) (by decide), ko 135 (by decide) (by decide) (by decide) (by decide) (by decide), ko 117 (by decide) (by decide) (by decide) (by decide) (by decide)]
        exact l1.2.1
      · show (0 ≤ μ1 112 5 ∧ μ1 112 5 ≤ 8) ∧ μ1 118 37 = μ1 112 5 ∧ ∀ j : Nat, (j : Int) < μ1 112 5 → μ1 134 j = μ1 115 j
        rw [ko 112 (by decide) (by decide) (by decide) (by decide) (by decide), ko 118 (by decide) (by decide) (by decide) (by decide) (by decide), ko 134 (by decide) (by decide) (by decide) (by decide) (by decide), ko 115 (by decide) (by decide) (by decide) (by decide) (by decide)]
        exact l1.2.2.1
      · show (μ1 82 9 = 0 ∨ μ1 82 9 = 1) ∧ μ1 118 44 = μ1 82 9 ∧ (μ1 82 9 = 1 → ∀ j, j < 6 → μ1 136 j = μ1 87 j)
        rw [ko 82 (by decide) (by decide) (by decide) (by decide) (by decide), ko 118 (by decide) (by decide) (by decide) (by decide) (by decide), ko 136 (by decide) (by decide) (by decide) (by decide) (by decide), ko 87 (by decide) (by decide) (by decide) (by decide) (by decide)]
        exact l1.2.2.2
  · exact ⟨-1, μ, m_set μ 118 0 0, i_X11_write hL h0 h1 h2 h3 hv, i_X12_write hL h0 h1 h2 h3 hv, hI.set rfl⟩
