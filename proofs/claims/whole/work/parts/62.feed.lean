variable {N : Int}
/-! ===== printed by wip/whole/gen62.py: pieces of the invariant over changed rows; the start; pair: feed ===== -/
theorem row_set_eq {μ : Nat → Nat → Int} {a j : Nat} {v : Int} : m_set μ a j v a = fs (μ a) j v := by
  funext i
  unfold m_set fs
  by_cases h : i = j
  · simp [h]
  · simp [h]
theorem row_upd_eq {μ : Nat → Nat → Int} {a : Nat} {f : Nat → Int} : m_upd μ a f a = f := by
  funext i
  unfold m_upd
  rw [if_pos rfl]
theorem I_tape.congr {μ ν : Nat → Nat → Int} (h : I_tape μ) (e1 : ν 1 1 = μ 1 1) (e2 : ν 2 = μ 2) (e3 : ν 118 2 = μ 118 2) (e4 : ν 119 = μ 119) : I_tape ν := by
  unfold I_tape
  rw [e1, e2, e3, e4]
  exact h
theorem I_fault.congr {μ ν : Nat → Nat → Int} (h : I_fault μ) (e1 : ν 3 2 = μ 3 2) (e2 : ν 118 15 = μ 118 15) : I_fault ν := by
  unfold I_fault
  rw [e1, e2]
  exact h
theorem I_last.congr {μ ν : Nat → Nat → Int} (h : I_last μ) (e1 : ν 0 14 = μ 0 14) (e2 : ν 118 31 = μ 118 31) (e3 : ν 130 = μ 130) (e4 : ν 116 = μ 116) (e5 : ν 0 16 = μ 0 16) (e6 : ν 118 39 = μ 118 39) (e7 : ν 135 = μ 135) (e8 : ν 117 = μ 117) (e9 : ν 112 5 = μ 112 5) (e10 : ν 118 37 = μ 118 37) (e11 : ν 134 = μ 134) (e12 : ν 115 = μ 115) (e13 : ν 82 9 = μ 82 9) (e14 : ν 118 44 = μ 118 44) (e15 : ν 136 = μ 136) (e16 : ν 87 = μ 87) : I_last ν := by
  unfold I_last
  rw [e1, e2, e3, e4, e5, e6, e7, e8, e9, e10, e11, e12, e13, e14, e15, e16]
  exact h
theorem I_plan.congr {μ ν : Nat → Nat → Int} (h : I_plan μ) (e6 : ν 6 = μ 6) (e17 : ν 17 = μ 17) (e18 : ν 18 = μ 18) (e19 : ν 19 = μ 19) (e20 : ν 20 = μ 20) (e : ∀ j, 536 ≤ j → j < 657 → ν 120 j = μ 120 j) : I_plan ν := by
  obtain ⟨h1, h2, h3⟩ := h
  unfold I_plan
  rw [e6, e17, e18, e19, e20]
  refine ⟨h1, (e _ (by omega) (by omega)).trans h2, fun i hi => ?_⟩
  rw [e _ (by omega) (by omega), e _ (by omega) (by omega), e _ (by omega) (by omega)]
  exact h3 i hi
theorem I_names.congr {μ ν : Nat → Nat → Int} (h : I_names μ) (h8 : μ 6 13 ≤ 8) (e6 : ν 6 = μ 6) (e11 : ν 11 = μ 11) (e : ∀ j, j < 8 → ν 123 j = μ 123 j) : I_names ν := by
  intro j hj
  rw [e6] at hj
  rw [e11, e j (by omega)]
  exact h j hj
theorem I_words.congr {μ ν : Nat → Nat → Int} (h : I_words μ) (e4 : ν 4 = μ 4) (e124 : ν 124 = μ 124) : I_words ν := by
  unfold I_words
  rw [e4, e124]
  exact h
theorem I_fresh.congr {μ ν : Nat → Nat → Int} (h : I_fresh μ) (e55 : ν 55 = μ 55) (e60 : ν 60 = μ 60) (e61 : ν 61 = μ 61) : I_fresh ν := by
  unfold I_fresh
  rw [e55, e60, e61]
  exact h
/-- the invariant at the start -/
theorem M0_120 {k : Nat} (h : 4 ≤ k) : M0 120 k = 0 := by
  show ([0, 0, 1, 99] : List Int).getD k 0 = 0
  rw [List.getD_eq_getElem?_getD, List.getElem?_eq_none (by simpa using h)]
  rfl
theorem inv_M0 : Inv 0 M0 := by
  refine Inv.mk ?_ rfl ?_ ?_ ?_ ?_ ?_ (by decide) ?_ ?_ ?_ ?_ ⟨Or.inl rfl, Or.inl rfl⟩
  · exact ⟨by decide, rfl, fun j => ⟨⟨show (-128 : Int) ≤ 0 by decide, show (0 : Int) ≤ 127 by decide⟩, rfl⟩⟩
  · refine ⟨by decide, by decide, by decide, by decide, by decide, by decide, by decide, by decide, rfl, rfl, rfl, rfl, rfl, rfl, rfl, rfl, ?_, ?_, ?_, ?_, ?_, ?_, ?_⟩
    · intro j hj
      rw [M0_120 (by omega)]
      exact ⟨⟨show (0 : Int) ≤ 0 by decide, show (0 : Int) ≤ 12 by decide⟩, rfl⟩
    · exact fun j => ⟨show (0 : Int) ≤ 0 by decide, show (0 : Int) ≤ 99 by decide⟩
    · intro j
      show -1 ≤ (if j < 300 then (-1) else 0 : Int) ∧ (if j < 300 then (-1) else 0 : Int) ≤ 99
      split <;> decide
    · intro j
      show -1 ≤ (if j < 90 then (-1) else 0 : Int) ∧ (if j < 90 then (-1) else 0 : Int) ≤ 99
      split <;> decide
    · intro j hj
      have h1 : (j : Int).tmod 10 < 0 := hj
      have h2 := Int.tmod_nonneg (a := (j : Int)) 10 (by omega)
      omega
    · intro j hj
      rw [M0_120 (by omega)]
      show (0 : Int) = (if j < 300 then (-1) else 0) + 1
      rw [if_pos hj]
      rfl
    · intro j hj
      rw [M0_120 (by omega)]
      show (0 : Int) = (if j < 90 then (-1) else 0) + 1
      rw [if_pos hj]
      rfl
  · refine ⟨by decide, by decide, by decide, M0_120 (by decide), fun z => absurd rfl z, M0_120 (by decide), fun j => ⟨show (0 : Int) ≤ 0 by decide, show (0 : Int) ≤ 99 by decide⟩, fun j => ⟨show (0 : Int) ≤ 0 by decide, show (0 : Int) ≤ 99 by decide⟩, ?_, ⟨fun _ => rfl, fun _ => rfl⟩, ?_, Or.inl rfl, Or.inl rfl⟩
    · intro j hj
      have h1 : (j : Int) < 0 := hj
      omega
    · intro j hj
      have h1 : (j : Int) < 0 := hj
      omega
  · refine ⟨⟨by decide, rfl, fun j => ⟨⟨show (-128 : Int) ≤ 0 by decide, show (0 : Int) ≤ 127 by decide⟩, fun _ => rfl⟩⟩, ⟨by decide, rfl, fun j _ => rfl⟩, ⟨by decide, rfl, fun j _ => rfl⟩, Or.inl rfl, rfl, fun z => absurd z (by decide)⟩
  · refine ⟨by decide, M0_120 (by decide), fun i hi => ?_⟩
    have h1 : (i : Int) < 0 := hi
    omega
  · intro j hj
    have h1 : (j : Int) < 0 := hj
    omega
  · refine ⟨by decide, rfl, fun i p hi _ => ?_⟩
    have h1 : (i : Int) < 0 := hi
    omega
  · intro k hk
    rcases (show k = 0 ∨ k = 1 by omega) with rfl | rfl
    · refine ⟨Or.inl rfl, rfl, fun z => absurd z (by decide), fun j => ⟨⟨show (0 : Int) ≤ 0 by decide, show (0 : Int) ≤ 99 by decide⟩, ?_, ?_, ⟨show (0 : Int) ≤ 0 by decide, show (0 : Int) ≤ 99 by decide⟩, ⟨show (0 : Int) ≤ 0 by decide, show (0 : Int) ≤ 99 by decide⟩⟩⟩
      · show -1 ≤ (if j < 300 then (-1) else 0 : Int) ∧ (if j < 300 then (-1) else 0 : Int) ≤ 99
        split <;> decide
      · show -1 ≤ (if j < 90 then (-1) else 0 : Int) ∧ (if j < 90 then (-1) else 0 : Int) ≤ 99
        split <;> decide
    · refine ⟨Or.inl rfl, rfl, fun z => absurd z (by decide), fun j => ⟨⟨show (0 : Int) ≤ 0 by decide, show (0 : Int) ≤ 99 by decide⟩, ?_, ?_, ⟨show (0 : Int) ≤ 0 by decide, show (0 : Int) ≤ 99 by decide⟩, ⟨show (0 : Int) ≤ 0 by decide, show (0 : Int) ≤ 99 by decide⟩⟩⟩
      · show -1 ≤ (if j < 300 then (-1) else 0 : Int) ∧ (if j < 300 then (-1) else 0 : Int) ≤ 99
        split <;> decide
      · show -1 ≤ (if j < 90 then (-1) else 0 : Int) ∧ (if j < 90 then (-1) else 0 : Int) ≤ 99
        split <;> decide
  · unfold I_words
    decide
  · exact fun j => ⟨⟨show (0 : Int) ≤ 0 by decide, show (0 : Int) ≤ 99 by decide⟩, ⟨show (0 : Int) ≤ 0 by decide, show (0 : Int) ≤ 99 by decide⟩, ⟨show (0 : Int) ≤ 0 by decide, show (0 : Int) ≤ 99 by decide⟩⟩
/-- m numbers put from n on -/
def pbn (f : Nat → Int) (n : Nat) (b : Nat → Int) (m : Nat) : Nat → Int := fun j => if n ≤ j ∧ j < n + m then b (j - n) else f j
theorem pbn_0 {f : Nat → Int} {n : Nat} {b : Nat → Int} : pbn f n b 0 = f := by
  funext j
  unfold pbn
  rw [if_neg (by omega)]
theorem pbn_step {f : Nat → Int} {n : Nat} {b : Nat → Int} {m : Nat} : fs (pbn f n b m) (n + m) (b m) = pbn f n b (m + 1) := by
  funext j
  unfold fs pbn
  by_cases h : j = n + m
  · rw [if_pos h, if_pos (by omega), show j - n = m by omega]
  · rw [if_neg h]
    by_cases h2 : n ≤ j ∧ j < n + m
    · rw [if_pos h2, if_pos (by omega)]
    · rw [if_neg h2, if_neg (by omega)]
theorem and255 (z : Int) : m_and z 255 = z % 256 := by
  unfold m_and
  show ((Int32.ofInt z &&& Int32.ofInt 255).toBitVec).toInt = _
  rw [Int32.toBitVec_and]
  have h1 : (Int32.ofInt z).toBitVec = BitVec.ofInt 32 z := rfl
  have h2 : (Int32.ofInt 255).toBitVec = 255#32 := by decide
  rw [h1, h2]
  have h3 : (BitVec.ofInt 32 z &&& 255#32).toNat = (z % 256).toNat := by
    rw [BitVec.toNat_and, BitVec.toNat_ofInt]
    show (z % ((2 ^ 32 : Nat) : Int)).toNat &&& (2 ^ 8 - 1) = _
    rw [Nat.and_two_pow_sub_one_eq_mod]
    omega
  rw [BitVec.toInt_eq_toNat_of_lt (by rw [h3]; omega), h3]
  omega
theorem i2b_b (x : Int) : (-128 ≤ m_i2b x ∧ m_i2b x ≤ 127) ∧ m_i2b x % 256 = x % 256 := by
  unfold m_i2b Int.bmod
  dsimp only
  split <;> omega
/-- the four bytes of a number, as the class and as the model put them -/
abbrev by_c (v : Int) (i : Nat) : Int := m_and (m_ushr v (24 - 8 * (i : Int))) 255
abbrev by_m (v : Int) (i : Nat) : Int := m_i2b (m_i2b (m_shr v (24 - 8 * (i : Int))))
theorem by_eq {v : Int} {i : Nat} (hi : i < 4) : (-128 ≤ by_m v i ∧ by_m v i ≤ 127) ∧ by_c v i = by_m v i % 256 := by
  have h1 := i2b_b (m_i2b (m_shr v (24 - 8 * (i : Int))))
  have h2 := i2b_b (m_shr v (24 - 8 * (i : Int)))
  refine ⟨h1.1, ?_⟩
  show m_and (m_ushr v (24 - 8 * (i : Int))) 255 = m_i2b (m_i2b (m_shr v (24 - 8 * (i : Int)))) % 256
  rw [h1.2, h2.2, ← and255]
  have e : (24 - 8 * (i : Int)) = ((24 - 8 * i : Nat) : Int) := by omega
  rw [e]
  refine bI_ext (r_and _ _) (r_and _ _) (fun k hk => ?_)
  rw [bI_and, bI_and, bI_ushr (by omega), bI_shr (by omega) v hk]
  by_cases h : k < 8
  · rw [if_pos (by omega)]
  · have h3 : bI 255 k = false := (by decide +kernel : ∀ k, k < 32 → ¬ k < 8 → bI 255 k = false) k hk h
    rw [h3, Bool.and_false, Bool.and_false]
theorem tape_put {f g b b' : Nat → Int} {n : Nat} (h : ∀ j, (-128 ≤ g j ∧ g j ≤ 127) ∧ f j = g j % 256) (hb : ∀ i, i < 4 → (-128 ≤ b' i ∧ b' i ≤ 127) ∧ b i = b' i % 256) (j : Nat) : (-128 ≤ pbn g n b' 4 j ∧ pbn g n b' 4 j ≤ 127) ∧ pbn f n b 4 j = pbn g n b' 4 j % 256 := by
  unfold pbn
  by_cases h2 : n ≤ j ∧ j < n + 4
  · rw [if_pos h2, if_pos h2]; exact hb _ (by omega)
  · rw [if_neg h2, if_neg h2]; exact h j
set_option maxHeartbeats 4000000 in
theorem l_X7_putNumber {μ : Nat → Nat → Int} {c s : Nat} {v : Int} (hl : 0 ≤ μ 1 1 ∧ μ 1 1 ≤ 936) : ∀ (d n : Nat) (k : Int) (A : Nat → Int) (G : Nat → Int), k = 24 - 8 * (n : Int) → (n : Int) + d = 4 → (A 1 = μ 1 1 + (n : Int)) → (G = pbn (μ 2) (μ 1 1).toNat (by_c v) n) → Rn PT none kX7_putNumber 2 [some (mR 1), some (mI (v)), some (mI (k))] [] (mkh (m_upd (m_upd μ 1 A) 2 G) c s) (fun r => ∃ A G, r = (some none, mkh (m_upd (m_upd μ 1 A) 2 G) c s) ∧ A 1 = μ 1 1 + 4 ∧ G = pbn (μ 2) (μ 1 1).toNat (by_c v) 4) := by
  intro d
  induction d with
  | zero =>
    intro n k A G ek hn hA hG
    subst ek
    refine rn_iload_n (k' := 3) rfl rfl rfl ?_
    refine rn_if_lt (k' := 4) rfl rfl (fun hc1 => ?_) (fun hc1 => ?_)
    · skip
      refine rn_vret rfl ?_
      exact ⟨A, G, rfl, by omega, by rw [hG, show n = 4 by omega]⟩
    · exfalso; omega
  | succ d ih =>
    intro n k A G ek hn hA hG
    subst ek
    refine rn_iload_n (k' := 3) rfl rfl rfl ?_
    refine rn_if_lt (k' := 4) rfl rfl (fun hc1 => ?_) (fun hc1 => ?_)
    · exfalso; omega
    · skip
      refine rn_aload_n (k' := 5) rfl rfl rfl ?_
      refine rn_getI (k' := 6) rfl rfl K0_1 (by decide) rfl ?_
      show Rn PT none kX7_putNumber 6 [some (mR 1), some (mI (v)), some (mI (24 - 8 * (n : Int)))] [mI (A 1)] (mkh (m_upd (m_upd μ 1 A) 2 G) c s) _
      refine rn_sipush (k' := 7) rfl rfl ?_
      refine rn_icmp_ge (k' := 8) rfl rfl (fun hc2 => ?_) (fun hc2 => ?_)
      · exfalso; omega
      · skip
        refine rn_aload_n (k' := 9) rfl rfl rfl ?_
        refine rn_getR (k' := 10) rfl rfl K0_1 (by decide) rfl R0_1_0 ?_
        refine rn_aload_n (k' := 11) rfl rfl rfl ?_
        refine rn_getI (k' := 12) rfl rfl K0_1 (by decide) rfl ?_
        show Rn PT none kX7_putNumber 12 [some (mR 1), some (mI (v)), some (mI (24 - 8 * (n : Int)))] [mI (A 1), mR 2] (mkh (m_upd (m_upd μ 1 A) 2 G) c s) _
        refine rn_iload_n (k' := 13) rfl rfl rfl ?_
        refine rn_iload_n (k' := 14) rfl rfl rfl ?_
        refine rn_iushr (k' := 15) rfl rfl ?_
        refine rn_sipush (k' := 16) rfl rfl ?_
        refine rn_iand (k' := 17) rfl rfl ?_
        refine rn_iastore (k' := 18) rfl rfl K0_2 (by omega) (by omega) ?_
        refine rn_aload_n (k' := 19) rfl rfl rfl ?_
        refine rn_dupR (k' := 20) rfl rfl ?_
        refine rn_getI (k' := 21) rfl rfl K0_1 (by decide) rfl ?_
        show Rn PT none kX7_putNumber 21 [some (mR 1), some (mI (v)), some (mI (24 - 8 * (n : Int)))] [mI (A 1), mR 1] (mkh (m_set (m_upd (m_upd μ 1 A) 2 G) 2 ((A 1).toNat) (m_and (m_ushr (v) (24 - 8 * (n : Int))) (255))) c s) _
        refine rn_iconst (k' := 22) rfl rfl ?_
        refine rn_iadd (k' := 23) rfl rfl (by omega) ?_
        refine rn_putI (k' := 24) rfl rfl K0_1 (by decide) rfl ?_
        refine rn_iinc (k' := 25) (L' := [some (mR 1), some (mI (v)), some (mI (24 - 8 * (n : Int) + (-8)))]) rfl rfl rfl (by omega) rfl ?_
        refine rn_goto rfl ?_
        show Rn PT none kX7_putNumber 2 [some (mR 1), some (mI (v)), some (mI (24 - 8 * (n : Int) + (-8)))] [] (mkh (m_set (m_set (m_upd (m_upd μ 1 A) 2 G) 2 ((A 1).toNat) (m_and (m_ushr (v) (24 - 8 * (n : Int))) (255))) 1 1 ((A 1) + 1)) c s) _
        rw [upd2_of (μ := μ) (ν := (m_set (m_set (m_upd (m_upd μ 1 A) 2 G) 2 ((A 1).toNat) (m_and (m_ushr (v) (24 - 8 * (n : Int))) (255))) 1 1 ((A 1) + 1))) (x := 1) (y := 2) (fun b hb1 hb2 => ((row_set hb1).trans ((row_set hb2).trans ((row_upd hb2).trans (row_upd hb1)))))]
        exact ih (n + 1) _ _ _ (by omega) (by omega) (by show A 1 + 1 = _; omega) (by rw [row_set (show ¬ (2 : Nat) = 1 by decide), row_set_eq, row_upd_eq, show (A 1).toNat = (μ 1 1).toNat + n by omega, hG]; exact pbn_step (b := by_c v))
theorem c_X7_putNumber {μ : Nat → Nat → Int} {c s : Nat} {v : Int} (hl : 0 ≤ μ 1 1 ∧ μ 1 1 ≤ 936) : Cl PT 67 [mR 1, mI v] (mkh μ c s) (fun r => ∃ A G, r = (some none, mkh (m_upd (m_upd μ 1 A) 2 G) c s) ∧ A 1 = μ 1 1 + 4 ∧ G = pbn (μ 2) (μ 1 1).toNat (by_c v) 4) := by
  refine ⟨_, PT_67, Nat.le_of_ble_eq_true rfl, ?_⟩
  show Rn PT none kX7_putNumber 0 [some (mR 1), some (mI (v)), none] [] (mkh μ c s) _
  refine rn_bipush (k' := 1) rfl rfl ?_
  refine rn_istore_n (k' := 2) (L' := [some (mR 1), some (mI (v)), some (mI (24))]) rfl rfl (Nat.le_of_ble_eq_true rfl) rfl ?_
  have h := l_X7_putNumber (μ := μ) (c := c) (s := s) (v := v) hl 4 0 _ (μ 1) (μ 2) rfl rfl (by omega) pbn_0.symm
  rw [upd_self, upd_self] at h
  exact h
set_option maxHeartbeats 4000000 in
theorem l_X12_four {μ : Nat → Nat → Int} {c s : Nat} {v : Int} (hl : 0 ≤ μ 118 2 ∧ μ 118 2 ≤ 936) : ∀ (d n : Nat) (k : Int) (H : Nat → Int) (T : Nat → Int), k = 24 - 8 * (n : Int) → (n : Int) + d = 4 → (H 2 = μ 118 2 + (n : Int)) → (∀ j, sup 118 j = true → ¬ j = 2 → H j = μ 118 j) → (T = pbn (μ 119) (μ 118 2).toNat (by_m v) n) → Rn PT none kX12_four 2 [some (mR 118), some (mI (v)), some (mI (k))] [] (mkh (m_upd (m_upd μ 118 H) 119 T) c s) (fun r => ∃ H T, r = (some none, mkh (m_upd (m_upd μ 118 H) 119 T) c s) ∧ H 2 = μ 118 2 + 4 ∧ (∀ j, sup 118 j = true → ¬ j = 2 → H j = μ 118 j) ∧ T = pbn (μ 119) (μ 118 2).toNat (by_m v) 4) := by
  intro d
  induction d with
  | zero =>
    intro n k H T ek hn hH hHs hT
    subst ek
    refine rn_iload_n (k' := 3) rfl rfl rfl ?_
    refine rn_if_lt (k' := 4) rfl rfl (fun hc1 => ?_) (fun hc1 => ?_)
    · skip
      refine rn_vret rfl ?_
      exact ⟨H, T, rfl, by omega, hHs, by rw [hT, show n = 4 by omega]⟩
    · exfalso; omega
  | succ d ih =>
    intro n k H T ek hn hH hHs hT
    subst ek
    refine rn_iload_n (k' := 3) rfl rfl rfl ?_
    refine rn_if_lt (k' := 4) rfl rfl (fun hc1 => ?_) (fun hc1 => ?_)
    · exfalso; omega
    · skip
      refine rn_aload_n (k' := 5) rfl rfl rfl ?_
      refine rn_getR (k' := 6) rfl rfl K0_118 (by decide) rfl R0_118_1 ?_
      refine rn_aload_n (k' := 7) rfl rfl rfl ?_
      refine rn_getI (k' := 8) rfl rfl K0_118 (by decide) rfl ?_
      show Rn PT none kX12_four 8 [some (mR 118), some (mI (v)), some (mI (24 - 8 * (n : Int)))] [mI (H 2), mR 119] (mkh (m_upd (m_upd μ 118 H) 119 T) c s) _
      refine rn_iload_n (k' := 9) rfl rfl rfl ?_
      refine rn_iload_n (k' := 10) rfl rfl rfl ?_
      refine rn_ishr (k' := 11) rfl rfl ?_
      refine rn_i2b (k' := 12) rfl rfl ?_
      refine rn_bastore (k' := 13) rfl rfl K0_119 (by omega) (by omega) ?_
      refine rn_aload_n (k' := 14) rfl rfl rfl ?_
      refine rn_dupR (k' := 15) rfl rfl ?_
      refine rn_getI (k' := 16) rfl rfl K0_118 (by decide) rfl ?_
      show Rn PT none kX12_four 16 [some (mR 118), some (mI (v)), some (mI (24 - 8 * (n : Int)))] [mI (H 2), mR 118] (mkh (m_set (m_upd (m_upd μ 118 H) 119 T) 119 ((H 2).toNat) (m_i2b (m_i2b (m_shr (v) (24 - 8 * (n : Int)))))) c s) _
      refine rn_iconst (k' := 17) rfl rfl ?_
      refine rn_iadd (k' := 18) rfl rfl (by omega) ?_
      refine rn_putI (k' := 19) rfl rfl K0_118 (by decide) rfl ?_
      refine rn_iinc (k' := 20) (L' := [some (mR 118), some (mI (v)), some (mI (24 - 8 * (n : Int) + (-8)))]) rfl rfl rfl (by omega) rfl ?_
      refine rn_goto rfl ?_
      show Rn PT none kX12_four 2 [some (mR 118), some (mI (v)), some (mI (24 - 8 * (n : Int) + (-8)))] [] (mkh (m_set (m_set (m_upd (m_upd μ 118 H) 119 T) 119 ((H 2).toNat) (m_i2b (m_i2b (m_shr (v) (24 - 8 * (n : Int)))))) 118 2 ((H 2) + 1)) c s) _
      rw [upd2_of (μ := μ) (ν := (m_set (m_set (m_upd (m_upd μ 118 H) 119 T) 119 ((H 2).toNat) (m_i2b (m_i2b (m_shr (v) (24 - 8 * (n : Int)))))) 118 2 ((H 2) + 1))) (x := 118) (y := 119) (fun b hb118 hb119 => ((row_set hb118).trans ((row_set hb119).trans ((row_upd hb119).trans (row_upd hb118)))))]
      exact ih (n + 1) _ _ _ (by omega) (by omega) (by show H 2 + 1 = _; omega) (fun j h1 h2 => by rw [row_set_eq, fs_ne h2]; exact hHs j h1 h2) (by rw [row_set (show ¬ (119 : Nat) = 118 by decide), row_set_eq, row_upd_eq, show (H 2).toNat = (μ 118 2).toNat + n by omega, hT]; exact pbn_step (b := by_m v))
theorem c_X12_four {μ : Nat → Nat → Int} {c s : Nat} {v : Int} (hl : 0 ≤ μ 118 2 ∧ μ 118 2 ≤ 936) : Cl PT 164 [mR 118, mI v] (mkh μ c s) (fun r => ∃ H T, r = (some none, mkh (m_upd (m_upd μ 118 H) 119 T) c s) ∧ H 2 = μ 118 2 + 4 ∧ (∀ j, sup 118 j = true → ¬ j = 2 → H j = μ 118 j) ∧ T = pbn (μ 119) (μ 118 2).toNat (by_m v) 4) := by
  refine ⟨_, PT_164, Nat.le_of_ble_eq_true rfl, ?_⟩
  show Rn PT none kX12_four 0 [some (mR 118), some (mI (v)), none] [] (mkh μ c s) _
  refine rn_bipush (k' := 1) rfl rfl ?_
  refine rn_istore_n (k' := 2) (L' := [some (mR 118), some (mI (v)), some (mI (24))]) rfl rfl (Nat.le_of_ble_eq_true rfl) rfl ?_
  have h := l_X12_four (μ := μ) (c := c) (s := s) (v := v) hl 4 0 _ (μ 118) (μ 119) rfl rfl (by omega) (fun _ _ _ => rfl) pbn_0.symm
  rw [upd_self, upd_self] at h
  exact h
theorem Cl.ex2b {y : Nat} {vs : List MV} {h : MH} {α β : Type} {P : α → β → Prop} {g : α → β → MR} (hc : Cl PT y vs h (fun r => ∃ a b, r = g a b ∧ P a b)) : ∃ a b, P a b ∧ Cl PT y vs h (fun r => r = g a b) := Cl.ex2 hc
theorem updupd {μ : Nat → Nat → Int} {x y : Nat} {a b e f : Nat → Int} (h : ¬ x = y) : m_upd (m_upd (m_upd (m_upd μ x a) y b) x e) y f = m_upd (m_upd μ x e) y f := upd2 h
theorem updupd2 {μ : Nat → Nat → Int} {x y : Nat} {a1 b1 a2 b2 a3 b3 a4 b4 a5 b5 : Nat → Int} (h : ¬ x = y) : m_upd (m_upd (m_upd (m_upd (m_upd (m_upd (m_upd (m_upd (m_upd (m_upd μ x a1) y b1) x a2) y b2) x a3) y b3) x a4) y b4) x a5) y b5 = m_upd (m_upd μ x a5) y b5 := by
  rw [updupd h, updupd h, updupd h, updupd h]
set_option maxHeartbeats 4000000 in
theorem x_X11_feed {μ : Nat → Nat → Int} {c s : Nat} {a0 a1 a2 a3 a4 : Int} (hl : 0 ≤ μ 1 1 ∧ μ 1 1 + 20 ≤ 940) : Cl PT 101 [mR 0, mI a0, mI a1, mI a2, mI a3, mI a4] (mkh μ c s) (fun r => ∃ A G, r = (some (some (mI (μ 1 1 + 20))), mkh (m_upd (m_upd μ 1 A) 2 G) c s) ∧ A 1 = μ 1 1 + 20 ∧ G = (pbn (pbn (pbn (pbn (pbn (μ 2) (μ 1 1).toNat (by_c a0) 4) ((μ 1 1).toNat + 4) (by_c a1) 4) ((μ 1 1).toNat + 8) (by_c a2) 4) ((μ 1 1).toNat + 12) (by_c a3) 4) ((μ 1 1).toNat + 16) (by_c a4) 4)) := by
  refine ⟨_, PT_101, Nat.le_of_ble_eq_true rfl, ?_⟩
  show Rn PT none kX11_feed 0 [some (mR 0), some (mI (a0)), some (mI (a1)), some (mI (a2)), some (mI (a3)), some (mI (a4))] [] (mkh μ c s) _
  refine rn_aload_n (k' := 1) rfl rfl rfl ?_
  refine rn_getR (k' := 2) rfl rfl K0_0 (by decide) rfl R0_0_0 ?_
  refine rn_getI (k' := 3) rfl rfl K0_1 (by decide) rfl ?_
  refine rn_bipush (k' := 4) rfl rfl ?_
  refine rn_iadd (k' := 5) rfl rfl (by omega) ?_
  refine rn_sipush (k' := 6) rfl rfl ?_
  refine rn_icmp_le (k' := 7) rfl rfl (fun hc1 => ?_) (fun hc1 => ?_)
  · skip
    refine rn_aload_n (k' := 10) rfl rfl rfl ?_
    refine rn_getR (k' := 11) rfl rfl K0_0 (by decide) rfl R0_0_0 ?_
    refine rn_iload_n (k' := 12) rfl rfl rfl ?_
    obtain ⟨A2, G2, ⟨hA2, hG2⟩, hcl2⟩ := Cl.ex2b (g := fun A G => (some none, mkh (m_upd (m_upd μ 1 A) 2 G) c s)) (c_X7_putNumber (μ := μ) (c := c) (s := s) (v := a0) (by show 0 ≤ μ 1 1 ∧ μ 1 1 ≤ 936; omega))
    have hB2 : A2 1 = μ 1 1 + 4 := hA2
    refine rn_callP (k' := 13) (y := 67) (vs := [mR 1, mI (a0)]) (S' := []) (v := none) (h' := mkh (m_upd (m_upd μ 1 A2) 2 G2) c s) rfl rfl rfl (hcl2) ?_
    show Rn PT none kX11_feed 13 [some (mR 0), some (mI (a0)), some (mI (a1)), some (mI (a2)), some (mI (a3)), some (mI (a4))] [] (mkh (m_upd (m_upd μ 1 A2) 2 G2) c s) _
    refine rn_aload_n (k' := 14) rfl rfl rfl ?_
    refine rn_getR (k' := 15) rfl rfl K0_0 (by decide) rfl R0_0_0 ?_
    refine rn_iload_n (k' := 16) rfl rfl rfl ?_
    obtain ⟨A3, G3, ⟨hA3, hG3⟩, hcl3⟩ := Cl.ex2b (g := fun A G => (some none, mkh (m_upd (m_upd (m_upd (m_upd μ 1 A2) 2 G2) 1 A) 2 G) c s)) (c_X7_putNumber (μ := (m_upd (m_upd μ 1 A2) 2 G2)) (c := c) (s := s) (v := a1) (by show 0 ≤ A2 1 ∧ A2 1 ≤ 936; omega))
    have hB3 : A3 1 = A2 1 + 4 := hA3
    refine rn_callP (k' := 17) (y := 67) (vs := [mR 1, mI (a1)]) (S' := []) (v := none) (h' := mkh (m_upd (m_upd (m_upd (m_upd μ 1 A2) 2 G2) 1 A3) 2 G3) c s) rfl rfl rfl (hcl3) ?_
    show Rn PT none kX11_feed 17 [some (mR 0), some (mI (a0)), some (mI (a1)), some (mI (a2)), some (mI (a3)), some (mI (a4))] [] (mkh (m_upd (m_upd (m_upd (m_upd μ 1 A2) 2 G2) 1 A3) 2 G3) c s) _
    refine rn_aload_n (k' := 18) rfl rfl rfl ?_
    refine rn_getR (k' := 19) rfl rfl K0_0 (by decide) rfl R0_0_0 ?_
    refine rn_iload_n (k' := 20) rfl rfl rfl ?_
    obtain ⟨A4, G4, ⟨hA4, hG4⟩, hcl4⟩ := Cl.ex2b (g := fun A G => (some none, mkh (m_upd (m_upd (m_upd (m_upd (m_upd (m_upd μ 1 A2) 2 G2) 1 A3) 2 G3) 1 A) 2 G) c s)) (c_X7_putNumber (μ := (m_upd (m_upd (m_upd (m_upd μ 1 A2) 2 G2) 1 A3) 2 G3)) (c := c) (s := s) (v := a2) (by show 0 ≤ A3 1 ∧ A3 1 ≤ 936; omega))
    have hB4 : A4 1 = A3 1 + 4 := hA4
    refine rn_callP (k' := 21) (y := 67) (vs := [mR 1, mI (a2)]) (S' := []) (v := none) (h' := mkh (m_upd (m_upd (m_upd (m_upd (m_upd (m_upd μ 1 A2) 2 G2) 1 A3) 2 G3) 1 A4) 2 G4) c s) rfl rfl rfl (hcl4) ?_
    show Rn PT none kX11_feed 21 [some (mR 0), some (mI (a0)), some (mI (a1)), some (mI (a2)), some (mI (a3)), some (mI (a4))] [] (mkh (m_upd (m_upd (m_upd (m_upd (m_upd (m_upd μ 1 A2) 2 G2) 1 A3) 2 G3) 1 A4) 2 G4) c s) _
    refine rn_aload_n (k' := 22) rfl rfl rfl ?_
    refine rn_getR (k' := 23) rfl rfl K0_0 (by decide) rfl R0_0_0 ?_
    refine rn_iload (k' := 24) rfl rfl rfl ?_
    obtain ⟨A5, G5, ⟨hA5, hG5⟩, hcl5⟩ := Cl.ex2b (g := fun A G => (some none, mkh (m_upd (m_upd (m_upd (m_upd (m_upd (m_upd (m_upd (m_upd μ 1 A2) 2 G2) 1 A3) 2 G3) 1 A4) 2 G4) 1 A) 2 G) c s)) (c_X7_putNumber (μ := (m_upd (m_upd (m_upd (m_upd (m_upd (m_upd μ 1 A2) 2 G2) 1 A3) 2 G3) 1 A4) 2 G4)) (c := c) (s := s) (v := a3) (by show 0 ≤ A4 1 ∧ A4 1 ≤ 936; omega))
    have hB5 : A5 1 = A4 1 + 4 := hA5
    refine rn_callP (k' := 25) (y := 67) (vs := [mR 1, mI (a3)]) (S' := []) (v := none) (h' := mkh (m_upd (m_upd (m_upd (m_upd (m_upd (m_upd (m_upd (m_upd μ 1 A2) 2 G2) 1 A3) 2 G3) 1 A4) 2 G4) 1 A5) 2 G5) c s) rfl rfl rfl (hcl5) ?_
    show Rn PT none kX11_feed 25 [some (mR 0), some (mI (a0)), some (mI (a1)), some (mI (a2)), some (mI (a3)), some (mI (a4))] [] (mkh (m_upd (m_upd (m_upd (m_upd (m_upd (m_upd (m_upd (m_upd μ 1 A2) 2 G2) 1 A3) 2 G3) 1 A4) 2 G4) 1 A5) 2 G5) c s) _
    refine rn_aload_n (k' := 26) rfl rfl rfl ?_
    refine rn_getR (k' := 27) rfl rfl K0_0 (by decide) rfl R0_0_0 ?_
    refine rn_iload (k' := 28) rfl rfl rfl ?_
    obtain ⟨A6, G6, ⟨hA6, hG6⟩, hcl6⟩ := Cl.ex2b (g := fun A G => (some none, mkh (m_upd (m_upd (m_upd (m_upd (m_upd (m_upd (m_upd (m_upd (m_upd (m_upd μ 1 A2) 2 G2) 1 A3) 2 G3) 1 A4) 2 G4) 1 A5) 2 G5) 1 A) 2 G) c s)) (c_X7_putNumber (μ := (m_upd (m_upd (m_upd (m_upd (m_upd (m_upd (m_upd (m_upd μ 1 A2) 2 G2) 1 A3) 2 G3) 1 A4) 2 G4) 1 A5) 2 G5)) (c := c) (s := s) (v := a4) (by show 0 ≤ A5 1 ∧ A5 1 ≤ 936; omega))
    have hB6 : A6 1 = A5 1 + 4 := hA6
    refine rn_callP (k' := 29) (y := 67) (vs := [mR 1, mI (a4)]) (S' := []) (v := none) (h' := mkh (m_upd (m_upd (m_upd (m_upd (m_upd (m_upd (m_upd (m_upd (m_upd (m_upd μ 1 A2) 2 G2) 1 A3) 2 G3) 1 A4) 2 G4) 1 A5) 2 G5) 1 A6) 2 G6) c s) rfl rfl rfl (hcl6) ?_
    show Rn PT none kX11_feed 29 [some (mR 0), some (mI (a0)), some (mI (a1)), some (mI (a2)), some (mI (a3)), some (mI (a4))] [] (mkh (m_upd (m_upd (m_upd (m_upd (m_upd (m_upd (m_upd (m_upd (m_upd (m_upd μ 1 A2) 2 G2) 1 A3) 2 G3) 1 A4) 2 G4) 1 A5) 2 G5) 1 A6) 2 G6) c s) _
    refine rn_aload_n (k' := 30) rfl rfl rfl ?_
    refine rn_getR (k' := 31) rfl rfl K0_0 (by decide) rfl R0_0_0 ?_
    refine rn_getI (k' := 32) rfl rfl K0_1 (by decide) rfl ?_
    show Rn PT none kX11_feed 32 [some (mR 0), some (mI (a0)), some (mI (a1)), some (mI (a2)), some (mI (a3)), some (mI (a4))] [mI (A6 1)] (mkh (m_upd (m_upd (m_upd (m_upd (m_upd (m_upd (m_upd (m_upd (m_upd (m_upd μ 1 A2) 2 G2) 1 A3) 2 G3) 1 A4) 2 G4) 1 A5) 2 G5) 1 A6) 2 G6) c s) _
    refine rn_iret rfl (Or.inl rfl) ?_
    refine ⟨A6, G6, ?_, by omega, ?_⟩
    · rw [show A6 1 = μ 1 1 + 20 by omega]
      refine congrArg (fun z => ((some (some (mI (μ 1 1 + 20))) : Option (Option MV)), mkh z c s)) ?_
      exact updupd2 (by decide)
    · have g2 : G2 = pbn (μ 2) (μ 1 1).toNat (by_c a0) 4 := hG2
      have g3 : G3 = pbn (G2) (A2 1).toNat (by_c a1) 4 := hG3
      have g4 : G4 = pbn (G3) (A3 1).toNat (by_c a2) 4 := hG4
      have g5 : G5 = pbn (G4) (A4 1).toNat (by_c a3) 4 := hG5
      have g6 : G6 = pbn (G5) (A5 1).toNat (by_c a4) 4 := hG6
      rw [g6, g5, g4, g3, g2, show (A2 1).toNat = (μ 1 1).toNat + 4 by omega, show (A3 1).toNat = (μ 1 1).toNat + 8 by omega, show (A4 1).toNat = (μ 1 1).toNat + 12 by omega, show (A5 1).toNat = (μ 1 1).toNat + 16 by omega]
  · exfalso; omega
theorem n_X11_feed {μ : Nat → Nat → Int} {c s : Nat} {a0 a1 a2 a3 a4 : Int} (hl : 0 ≤ μ 1 1 ∧ μ 1 1 ≤ 940) (hn : ¬ μ 1 1 + 20 ≤ 940) : Cl PT 101 [mR 0, mI a0, mI a1, mI a2, mI a3, mI a4] (mkh μ c s) (fun r => r = (some (some (mI (-1))), mkh μ c s)) := by
  refine ⟨_, PT_101, Nat.le_of_ble_eq_true rfl, ?_⟩
  show Rn PT none kX11_feed 0 [some (mR 0), some (mI (a0)), some (mI (a1)), some (mI (a2)), some (mI (a3)), some (mI (a4))] [] (mkh μ c s) _
  refine rn_aload_n (k' := 1) rfl rfl rfl ?_
  refine rn_getR (k' := 2) rfl rfl K0_0 (by decide) rfl R0_0_0 ?_
  refine rn_getI (k' := 3) rfl rfl K0_1 (by decide) rfl ?_
  refine rn_bipush (k' := 4) rfl rfl ?_
  refine rn_iadd (k' := 5) rfl rfl (by omega) ?_
  refine rn_sipush (k' := 6) rfl rfl ?_
  refine rn_icmp_le (k' := 7) rfl rfl (fun hc1 => ?_) (fun hc1 => ?_)
  · exfalso; omega
  · skip
    refine rn_iconst (k' := 8) rfl rfl ?_
    refine rn_iret rfl (Or.inl rfl) ?_
    rfl
theorem upd_set {μ : Nat → Nat → Int} {a j : Nat} {v : Int} {f : Nat → Int} : m_upd (m_set μ a j v) a f = m_upd μ a f := by
  rw [set_is_upd, upd_upd]
set_option maxHeartbeats 4000000 in
theorem x_X12_feed {μ : Nat → Nat → Int} {c s : Nat} {a0 a1 a2 a3 a4 : Int} (hl : 0 ≤ μ 118 2 ∧ μ 118 2 + 20 ≤ 940) : Cl PT 163 [mR 118, mI a0, mI a1, mI a2, mI a3, mI a4] (mkh μ c s) (fun r => ∃ H T, r = (some (some (mI (μ 118 2 + 20))), mkh (m_upd (m_upd μ 118 H) 119 T) c s) ∧ H 2 = μ 118 2 + 20 ∧ (∀ j, sup 118 j = true → ¬ j = 2 → H j = μ 118 j) ∧ T = (pbn (pbn (pbn (pbn (pbn (μ 119) (μ 118 2).toNat (by_m a0) 4) ((μ 118 2).toNat + 4) (by_m a1) 4) ((μ 118 2).toNat + 8) (by_m a2) 4) ((μ 118 2).toNat + 12) (by_m a3) 4) ((μ 118 2).toNat + 16) (by_m a4) 4)) := by
  refine ⟨_, PT_163, Nat.le_of_ble_eq_true rfl, ?_⟩
  show Rn PT none kX12_feed 0 [some (mR 118), some (mI (a0)), some (mI (a1)), some (mI (a2)), some (mI (a3)), some (mI (a4))] [] (mkh μ c s) _
  refine rn_aload_n (k' := 1) rfl rfl rfl ?_
  refine rn_iconst (k' := 2) rfl rfl ?_
  refine rn_putI (k' := 3) rfl rfl K0_118 (by decide) rfl ?_
  refine rn_aload_n (k' := 4) rfl rfl rfl ?_
  refine rn_getI (k' := 5) rfl rfl K0_118 (by decide) rfl ?_
  show Rn PT none kX12_feed 5 [some (mR 118), some (mI (a0)), some (mI (a1)), some (mI (a2)), some (mI (a3)), some (mI (a4))] [mI (μ 118 2)] (mkh (m_set μ 118 0 (0)) c s) _
  refine rn_bipush (k' := 6) rfl rfl ?_
  refine rn_iadd (k' := 7) rfl rfl (by omega) ?_
  refine rn_sipush (k' := 8) rfl rfl ?_
  refine rn_icmp_le (k' := 9) rfl rfl (fun hc2 => ?_) (fun hc2 => ?_)
  · skip
    refine rn_aload_n (k' := 12) rfl rfl rfl ?_
    refine rn_iload_n (k' := 13) rfl rfl rfl ?_
    obtain ⟨H3, T3, ⟨hH3, hs3, hT3⟩, hcl3⟩ := Cl.ex2b (g := fun H T => (some none, mkh (m_upd (m_upd (m_set μ 118 0 (0)) 118 H) 119 T) c s)) (c_X12_four (μ := (m_set μ 118 0 (0))) (c := c) (s := s) (v := a0) (by show 0 ≤ μ 118 2 ∧ μ 118 2 ≤ 936; omega))
    have hB3 : H3 2 = μ 118 2 + 4 := hH3
    refine rn_callP (k' := 14) (y := 164) (vs := [mR 118, mI (a0)]) (S' := []) (v := none) (h' := mkh (m_upd (m_upd (m_set μ 118 0 (0)) 118 H3) 119 T3) c s) rfl rfl rfl (hcl3) ?_
    show Rn PT none kX12_feed 14 [some (mR 118), some (mI (a0)), some (mI (a1)), some (mI (a2)), some (mI (a3)), some (mI (a4))] [] (mkh (m_upd (m_upd (m_set μ 118 0 (0)) 118 H3) 119 T3) c s) _
    refine rn_aload_n (k' := 15) rfl rfl rfl ?_
    refine rn_iload_n (k' := 16) rfl rfl rfl ?_
    obtain ⟨H4, T4, ⟨hH4, hs4, hT4⟩, hcl4⟩ := Cl.ex2b (g := fun H T => (some none, mkh (m_upd (m_upd (m_upd (m_upd (m_set μ 118 0 (0)) 118 H3) 119 T3) 118 H) 119 T) c s)) (c_X12_four (μ := (m_upd (m_upd (m_set μ 118 0 (0)) 118 H3) 119 T3)) (c := c) (s := s) (v := a1) (by show 0 ≤ H3 2 ∧ H3 2 ≤ 936; omega))
    have hB4 : H4 2 = H3 2 + 4 := hH4
    refine rn_callP (k' := 17) (y := 164) (vs := [mR 118, mI (a1)]) (S' := []) (v := none) (h' := mkh (m_upd (m_upd (m_upd (m_upd (m_set μ 118 0 (0)) 118 H3) 119 T3) 118 H4) 119 T4) c s) rfl rfl rfl (hcl4) ?_
    show Rn PT none kX12_feed 17 [some (mR 118), some (mI (a0)), some (mI (a1)), some (mI (a2)), some (mI (a3)), some (mI (a4))] [] (mkh (m_upd (m_upd (m_upd (m_upd (m_set μ 118 0 (0)) 118 H3) 119 T3) 118 H4) 119 T4) c s) _
    refine rn_aload_n (k' := 18) rfl rfl rfl ?_
    refine rn_iload_n (k' := 19) rfl rfl rfl ?_
    obtain ⟨H5, T5, ⟨hH5, hs5, hT5⟩, hcl5⟩ := Cl.ex2b (g := fun H T => (some none, mkh (m_upd (m_upd (m_upd (m_upd (m_upd (m_upd (m_set μ 118 0 (0)) 118 H3) 119 T3) 118 H4) 119 T4) 118 H) 119 T) c s)) (c_X12_four (μ := (m_upd (m_upd (m_upd (m_upd (m_set μ 118 0 (0)) 118 H3) 119 T3) 118 H4) 119 T4)) (c := c) (s := s) (v := a2) (by show 0 ≤ H4 2 ∧ H4 2 ≤ 936; omega))
    have hB5 : H5 2 = H4 2 + 4 := hH5
    refine rn_callP (k' := 20) (y := 164) (vs := [mR 118, mI (a2)]) (S' := []) (v := none) (h' := mkh (m_upd (m_upd (m_upd (m_upd (m_upd (m_upd (m_set μ 118 0 (0)) 118 H3) 119 T3) 118 H4) 119 T4) 118 H5) 119 T5) c s) rfl rfl rfl (hcl5) ?_
    show Rn PT none kX12_feed 20 [some (mR 118), some (mI (a0)), some (mI (a1)), some (mI (a2)), some (mI (a3)), some (mI (a4))] [] (mkh (m_upd (m_upd (m_upd (m_upd (m_upd (m_upd (m_set μ 118 0 (0)) 118 H3) 119 T3) 118 H4) 119 T4) 118 H5) 119 T5) c s) _
    refine rn_aload_n (k' := 21) rfl rfl rfl ?_
    refine rn_iload (k' := 22) rfl rfl rfl ?_
    obtain ⟨H6, T6, ⟨hH6, hs6, hT6⟩, hcl6⟩ := Cl.ex2b (g := fun H T => (some none, mkh (m_upd (m_upd (m_upd (m_upd (m_upd (m_upd (m_upd (m_upd (m_set μ 118 0 (0)) 118 H3) 119 T3) 118 H4) 119 T4) 118 H5) 119 T5) 118 H) 119 T) c s)) (c_X12_four (μ := (m_upd (m_upd (m_upd (m_upd (m_upd (m_upd (m_set μ 118 0 (0)) 118 H3) 119 T3) 118 H4) 119 T4) 118 H5) 119 T5)) (c := c) (s := s) (v := a3) (by show 0 ≤ H5 2 ∧ H5 2 ≤ 936; omega))
    have hB6 : H6 2 = H5 2 + 4 := hH6
    refine rn_callP (k' := 23) (y := 164) (vs := [mR 118, mI (a3)]) (S' := []) (v := none) (h' := mkh (m_upd (m_upd (m_upd (m_upd (m_upd (m_upd (m_upd (m_upd (m_set μ 118 0 (0)) 118 H3) 119 T3) 118 H4) 119 T4) 118 H5) 119 T5) 118 H6) 119 T6) c s) rfl rfl rfl (hcl6) ?_
    show Rn PT none kX12_feed 23 [some (mR 118), some (mI (a0)), some (mI (a1)), some (mI (a2)), some (mI (a3)), some (mI (a4))] [] (mkh (m_upd (m_upd (m_upd (m_upd (m_upd (m_upd (m_upd (m_upd (m_set μ 118 0 (0)) 118 H3) 119 T3) 118 H4) 119 T4) 118 H5) 119 T5) 118 H6) 119 T6) c s) _
    refine rn_aload_n (k' := 24) rfl rfl rfl ?_
    refine rn_iload (k' := 25) rfl rfl rfl ?_
    obtain ⟨H7, T7, ⟨hH7, hs7, hT7⟩, hcl7⟩ := Cl.ex2b (g := fun H T => (some none, mkh (m_upd (m_upd (m_upd (m_upd (m_upd (m_upd (m_upd (m_upd (m_upd (m_upd (m_set μ 118 0 (0)) 118 H3) 119 T3) 118 H4) 119 T4) 118 H5) 119 T5) 118 H6) 119 T6) 118 H) 119 T) c s)) (c_X12_four (μ := (m_upd (m_upd (m_upd (m_upd (m_upd (m_upd (m_upd (m_upd (m_set μ 118 0 (0)) 118 H3) 119 T3) 118 H4) 119 T4) 118 H5) 119 T5) 118 H6) 119 T6)) (c := c) (s := s) (v := a4) (by show 0 ≤ H6 2 ∧ H6 2 ≤ 936; omega))
    have hB7 : H7 2 = H6 2 + 4 := hH7
    refine rn_callP (k' := 26) (y := 164) (vs := [mR 118, mI (a4)]) (S' := []) (v := none) (h' := mkh (m_upd (m_upd (m_upd (m_upd (m_upd (m_upd (m_upd (m_upd (m_upd (m_upd (m_set μ 118 0 (0)) 118 H3) 119 T3) 118 H4) 119 T4) 118 H5) 119 T5) 118 H6) 119 T6) 118 H7) 119 T7) c s) rfl rfl rfl (hcl7) ?_
    show Rn PT none kX12_feed 26 [some (mR 118), some (mI (a0)), some (mI (a1)), some (mI (a2)), some (mI (a3)), some (mI (a4))] [] (mkh (m_upd (m_upd (m_upd (m_upd (m_upd (m_upd (m_upd (m_upd (m_upd (m_upd (m_set μ 118 0 (0)) 118 H3) 119 T3) 118 H4) 119 T4) 118 H5) 119 T5) 118 H6) 119 T6) 118 H7) 119 T7) c s) _
    refine rn_aload_n (k' := 27) rfl rfl rfl ?_
    refine rn_getI (k' := 28) rfl rfl K0_118 (by decide) rfl ?_
    show Rn PT none kX12_feed 28 [some (mR 118), some (mI (a0)), some (mI (a1)), some (mI (a2)), some (mI (a3)), some (mI (a4))] [mI (H7 2)] (mkh (m_upd (m_upd (m_upd (m_upd (m_upd (m_upd (m_upd (m_upd (m_upd (m_upd (m_set μ 118 0 (0)) 118 H3) 119 T3) 118 H4) 119 T4) 118 H5) 119 T5) 118 H6) 119 T6) 118 H7) 119 T7) c s) _
    refine rn_iret rfl (Or.inl rfl) ?_
    refine ⟨H7, T7, ?_, by omega, fun j h1 h2 => ?_, ?_⟩
    · rw [show H7 2 = μ 118 2 + 20 by omega]
      refine congrArg (fun z => ((some (some (mI (μ 118 2 + 20))) : Option (Option MV)), mkh z c s)) ?_
      rw [updupd2 (by decide), upd_set (a := 118)]
    · rw [(show H7 j = H6 j from hs7 j h1 h2), (show H6 j = H5 j from hs6 j h1 h2), (show H5 j = H4 j from hs5 j h1 h2), (show H4 j = H3 j from hs4 j h1 h2), (show H3 j = m_set μ 118 0 0 118 j from hs3 j h1 h2)]
      exact sup_eq (rst_set rfl) h1
    · have g3 : T3 = pbn (μ 119) (μ 118 2).toNat (by_m a0) 4 := hT3
      have g4 : T4 = pbn (T3) (H3 2).toNat (by_m a1) 4 := hT4
      have g5 : T5 = pbn (T4) (H4 2).toNat (by_m a2) 4 := hT5
      have g6 : T6 = pbn (T5) (H5 2).toNat (by_m a3) 4 := hT6
      have g7 : T7 = pbn (T6) (H6 2).toNat (by_m a4) 4 := hT7
      rw [g7, g6, g5, g4, g3, show (H3 2).toNat = (μ 118 2).toNat + 4 by omega, show (H4 2).toNat = (μ 118 2).toNat + 8 by omega, show (H5 2).toNat = (μ 118 2).toNat + 12 by omega, show (H6 2).toNat = (μ 118 2).toNat + 16 by omega]
  · exfalso; omega
theorem n_X12_feed {μ : Nat → Nat → Int} {c s : Nat} {a0 a1 a2 a3 a4 : Int} (hl : 0 ≤ μ 118 2 ∧ μ 118 2 ≤ 940) (hn : ¬ μ 118 2 + 20 ≤ 940) : Cl PT 163 [mR 118, mI a0, mI a1, mI a2, mI a3, mI a4] (mkh μ c s) (fun r => r = (some (some (mI (-1))), mkh (m_set μ 118 0 0) c s)) := by
  refine ⟨_, PT_163, Nat.le_of_ble_eq_true rfl, ?_⟩
  show Rn PT none kX12_feed 0 [some (mR 118), some (mI (a0)), some (mI (a1)), some (mI (a2)), some (mI (a3)), some (mI (a4))] [] (mkh μ c s) _
  refine rn_aload_n (k' := 1) rfl rfl rfl ?_
  refine rn_iconst (k' := 2) rfl rfl ?_
  refine rn_putI (k' := 3) rfl rfl K0_118 (by decide) rfl ?_
  refine rn_aload_n (k' := 4) rfl rfl rfl ?_
  refine rn_getI (k' := 5) rfl rfl K0_118 (by decide) rfl ?_
  show Rn PT none kX12_feed 5 [some (mR 118), some (mI (a0)), some (mI (a1)), some (mI (a2)), some (mI (a3)), some (mI (a4))] [mI (μ 118 2)] (mkh (m_set μ 118 0 (0)) c s) _
  refine rn_bipush (k' := 6) rfl rfl ?_
  refine rn_iadd (k' := 7) rfl rfl (by omega) ?_
  refine rn_sipush (k' := 8) rfl rfl ?_
  refine rn_icmp_le (k' := 9) rfl rfl (fun hc2 => ?_) (fun hc2 => ?_)
  · exfalso; omega
  · skip
    refine rn_iconst (k' := 10) rfl rfl ?_
    refine rn_iret rfl (Or.inl rfl) ?_
    rfl
theorem pair_0 : ∀ (a0 a1 a2 a3 a4 : Int), i32 a0 → i32 a1 → i32 a2 → i32 a3 → i32 a4 → PairI (Inv N) 101 163 [mI a0, mI a1, mI a2, mI a3, mI a4] := by
  intro a0 a1 a2 a3 a4 _ _ _ _ _ μ c s hI
  obtain ⟨t1, t2, t3⟩ := hI.tape
  by_cases hl : μ 1 1 + 20 ≤ 940
  · obtain ⟨A, G, ⟨hA, hG⟩, hx⟩ := Cl.ex2b (g := fun A G => (some (some (mI (μ 1 1 + 20))), mkh (m_upd (m_upd μ 1 A) 2 G) c s)) (x_X11_feed (μ := μ) (c := c) (s := s) (a0 := a0) (a1 := a1) (a2 := a2) (a3 := a3) (a4 := a4) ⟨t1.1, hl⟩)
    obtain ⟨H, T, ⟨hH, hHs, hT⟩, hm⟩ := Cl.ex2b (g := fun H T => (some (some (mI (μ 118 2 + 20))), mkh (m_upd (m_upd (m_upd (m_upd μ 1 A) 2 G) 118 H) 119 T) c s)) (x_X12_feed (μ := m_upd (m_upd μ 1 A) 2 G) (c := c) (s := s) (a0 := a0) (a1 := a1) (a2 := a2) (a3 := a3) (a4 := a4) (by show 0 ≤ μ 118 2 ∧ μ 118 2 + 20 ≤ 940; omega))
    have hH2 : H 2 = μ 118 2 + 20 := hH
    have hHj : ∀ j, sup 118 j = true → ¬ j = 2 → H j = μ 118 j := hHs
    have hT2 : T = (pbn (pbn (pbn (pbn (pbn (μ 119) (μ 118 2).toNat (by_m a0) 4) ((μ 118 2).toNat + 4) (by_m a1) 4) ((μ 118 2).toNat + 8) (by_m a2) 4) ((μ 118 2).toNat + 12) (by_m a3) 4) ((μ 118 2).toNat + 16) (by_m a4) 4) := hT
    refine ⟨μ 1 1 + 20, _, _, hx, by rw [← t2]; exact hm, ?_⟩
    refine Inv.mk ⟨by show 0 ≤ A 1 ∧ A 1 ≤ 940; omega, by show H 2 = A 1; omega, fun j => ?_⟩ (hI.fault.congr rfl (hHj 15 rfl (by decide))) (((((hI.land.upd rfl).upd rfl).upd rfl).upd rfl)) (((((hI.scene.upd rfl).upd rfl).upd rfl).upd rfl)) (hI.last.congr rfl (hHj 31 rfl (by decide)) rfl rfl rfl (hHj 39 rfl (by decide)) rfl rfl rfl (hHj 37 rfl (by decide)) rfl rfl rfl (hHj 44 rfl (by decide)) rfl rfl) (hI.plan.congr rfl rfl rfl rfl rfl (fun _ _ _ => rfl)) (hI.names.congr hI.land.2.2.2.2.2.1.2 rfl rfl (fun _ _ => rfl)) hI.took (hI.undo.congr rfl rfl rfl (hHj 34 rfl (by decide)) (fun b h1 h2 => ?_) rfl) (hI.kept.congr (fun b h1 h2 => ?_) rfl rfl rfl) (hI.words.congr rfl rfl) (hI.fresh.congr rfl rfl rfl) hI.flag
    · show (-128 ≤ T j ∧ T j ≤ 127) ∧ G j = T j % 256
      rw [hT2, hG, t2]
      exact tape_put (tape_put (tape_put (tape_put (tape_put t3 (fun i hi => by_eq hi)) (fun i hi => by_eq hi)) (fun i hi => by_eq hi)) (fun i hi => by_eq hi)) (fun i hi => by_eq hi) j
    · rw [row_upd (by omega), row_upd (by omega), row_upd (by omega), row_upd (by omega)]
    · rw [row_upd (by omega), row_upd (by omega), row_upd (by omega), row_upd (by omega)]
  · exact ⟨-1, μ, m_set μ 118 0 0, n_X11_feed t1 hl, n_X12_feed (by rw [t2]; exact t1) (by rw [t2]; exact hl), hI.set rfl⟩
