/-! ===== printed by wip/whole/genlaw.py: the law's loop, out of pairs of calls ===== -/
/-- class and model, called alike, answer alike, and the invariant stays -/
def PairJ (Inv Jnv : (Nat → Nat → Int) → Prop) (yx ym : Nat) (as : List MV) : Prop := ∀ μ c s, Inv μ → ∃ (z : Int) (μ1 μ2 : Nat → Nat → Int), Cl PT yx (mR 0 :: as) (mkh μ c s) (fun r => r = (some (some (mI z)), mkh μ1 c s)) ∧ Cl PT ym (mR 118 :: as) (mkh μ1 c s) (fun r => r = (some (some (mI z)), mkh μ2 c s)) ∧ Jnv μ2
def PairI (Inv : (Nat → Nat → Int) → Prop) (yx ym : Nat) (as : List MV) : Prop := PairJ Inv Inv yx ym as
/-- the same where the class may throw: the model's field 'thrown' says so; out row: 141 -/
def PairY (Inv Jnv : (Nat → Nat → Int) → Prop) (yx ym : Nat) (as : List MV) : Prop := ∀ μ c s, Inv μ →
  (∃ (z : Int) (μ2 : Nat → Nat → Int), Cl PT yx (mR 0 :: as) (mkh μ c s) (fun r => r = (some (some (mI z)), mkh μ c s)) ∧ Cl PT ym (mR 118 :: as) (mkh (m_set μ 141 0 z) c s) (fun r => r = (some (some (mI z)), mkh μ2 c s)) ∧ μ2 118 0 = 0 ∧ μ2 141 0 = z ∧ Jnv μ2) ∨
  (∃ (b : Int) (μ2 : Nat → Nat → Int), Cl PT yx (mR 0 :: as) (mkh μ c s) (fun r => r = (none, mkh μ (c + 1) (s + 6))) ∧ Cl PT ym (mR 118 :: as) (mkh μ (c + 1) (s + 6)) (fun r => r = (some (some (mI b)), mkh μ2 (c + 1) (s + 6))) ∧ μ2 118 0 = 1 ∧ Jnv μ2)
def PairX (Inv : (Nat → Nat → Int) → Prop) (yx ym : Nat) (as : List MV) : Prop := PairY Inv Inv yx ym as
theorem PairJ.mono {I J J' : (Nat → Nat → Int) → Prop} {yx ym : Nat} {as : List MV} (h : PairJ I J yx ym as) (hj : ∀ μ, J μ → J' μ) : PairJ I J' yx ym as := by
  intro μ c s hI
  obtain ⟨z, μ1, μ2, h1, h2, h3⟩ := h μ c s hI
  exact ⟨z, μ1, μ2, h1, h2, hj _ h3⟩
theorem PairY.mono {I J J' : (Nat → Nat → Int) → Prop} {yx ym : Nat} {as : List MV} (h : PairY I J yx ym as) (hj : ∀ μ, J μ → J' μ) : PairY I J' yx ym as := by
  intro μ c s hI
  rcases h μ c s hI with ⟨z, μ2, h1, h2, h3, h4, h5⟩ | ⟨b, μ2, h1, h2, h3, h4⟩
  · exact Or.inl ⟨z, μ2, h1, h2, h3, h4, hj _ h5⟩
  · exact Or.inr ⟨b, μ2, h1, h2, h3, hj _ h4⟩
theorem i32_of (x : Int32) : i32 x.toInt := ⟨by have := x.le_toInt; omega, by have := x.toInt_lt; omega⟩
section LAW
variable {C : List MI} {k k' : Nat} {L : List (Option MV)} {S : List MV} {Q : MR → Prop} {μ : Nat → Nat → Int} {c s : Nat} {Lx : Nat} {xs : Nat → Int32}
theorem rn_aload_nS {x : MX} {n : Fin 4} {a : Nat} (hC : C[k]? = some (.aload_n n, 0, 0, 0, [])) (hk : k + 1 = k') (hL : L[(n : Nat)]? = some (some (mS a))) (kk : Rn PT x C k' L (mS a :: S) (mkh μ c s) Q) : Rn PT x C k L S (mkh μ c s) Q := by
  subst hk
  refine Rn.go hC ?_ kk
  have : m_one x (.aload_n n) (0, 0, 0, []) L S (mkh μ c s) = some (L, mS a :: S, mkh μ c s) := by unfold m_one; dsimp only; rw [hL]
  show (match m_one x (.aload_n n) (0, 0, 0, []) L S (mkh μ c s) with | some (L', S', h') => some (Sum.inl (k + 1, L', S', h')) | none => none) = _
  rw [this]
theorem rn_sload {i : Int} (hC : C[k]? = some (.iaload, 0, 0, 0, [])) (hk : k + 1 = k') (h0 : 0 ≤ i) (h1 : i < Lx) (kk : Rn PT (lw_x Lx xs) C k' L (mI ((xs i.toNat).toInt) :: S) (mkh μ c s) Q) : Rn PT (lw_x Lx xs) C k L (mI i :: mS 0 :: S) (mkh μ c s) Q := by
  subst hk
  refine Rn.go hC ?_ kk
  have hq : m_in i Lx = true := by unfold m_in; simp [h0, h1]
  have : m_one (lw_x Lx xs) .iaload (0, 0, 0, []) L (mI i :: mS 0 :: S) (mkh μ c s) = some (L, mI ((xs i.toNat).toInt) :: S, mkh μ c s) := by
    show (if m_in i Lx then some (L, mI ((xs i.toNat).toInt) :: S, mkh μ c s) else none) = _
    rw [if_pos hq]
  show (match m_one (lw_x Lx xs) .iaload (0, 0, 0, []) L (mI i :: mS 0 :: S) (mkh μ c s) with | some (L', S', h') => some (Sum.inl (k + 1, L', S', h')) | none => none) = _
  rw [this]
theorem rn_slen (hC : C[k]? = some (.arraylength, 0, 0, 0, [])) (hk : k + 1 = k') (h1 : Lx < 2 ^ 31) (kk : Rn PT (lw_x Lx xs) C k' L (mI Lx :: S) (mkh μ c s) Q) : Rn PT (lw_x Lx xs) C k L (mS 0 :: S) (mkh μ c s) Q := by
  subst hk
  refine Rn.go hC ?_ kk
  have : m_one (lw_x Lx xs) .arraylength (0, 0, 0, []) L (mS 0 :: S) (mkh μ c s) = some (L, mI Lx :: S, mkh μ c s) := by
    show (if Lx < 2 ^ 31 then some (L, mI Lx :: S, mkh μ c s) else none) = _
    rw [if_pos h1]
  show (match m_one (lw_x Lx xs) .arraylength (0, 0, 0, []) L (mS 0 :: S) (mkh μ c s) with | some (L', S', h') => some (Sum.inl (k + 1, L', S', h')) | none => none) = _
  rw [this]
/-- a catching call that returned, and one that threw -/
theorem rn_cat0 {x : MX} {i : Instr} {d : ML} {y : Nat} {S0 vs : List MV} {z : Int} {o : Nat} {h h1 : MH} (hC : C[k]? = some (i, d)) (hk : k + 1 = k') (hs : m_step PT x i d k L S0 h = some (.inr (.inr (y, vs, mR o :: S, 1)))) (hc : Cl PT y vs h (fun r => r = (some (some (mI z)), h1))) (ho : (mh_k h1)[o]? = some (103, 1)) (kk : Rn PT x C k' L (mI 0 :: S) (mh_k h1, m_set (mh_m h1) o 0 z, mh_r h1, mh_c h1, mh_s h1) Q) : Rn PT x C k L S0 h Q := by
  subst hk
  obtain ⟨M, e1, e2, n1, r1, e3, e4⟩ := hc
  obtain ⟨n2, r2, e5, e6⟩ := kk
  obtain ⟨C', nL, np⟩ := M
  subst e4
  refine ⟨max n1 n2 + 1, r2, ?_, e6⟩
  rw [m_run, hC]
  dsimp only
  rw [hs]
  dsimp only
  rw [e1]
  dsimp only at e2 e3 ⊢
  rw [if_pos e2, m_run_le (Nat.le_max_left n1 n2) e3]
  dsimp only [m_back]
  rw [if_pos ho]
  exact m_run_le (Nat.le_max_right n1 n2) e5
theorem rn_cat1 {x : MX} {i : Instr} {d : ML} {y : Nat} {S0 vs : List MV} {o : Nat} {h h1 : MH} (hC : C[k]? = some (i, d)) (hk : k + 1 = k') (hs : m_step PT x i d k L S0 h = some (.inr (.inr (y, vs, mR o :: S, 1)))) (hc : Cl PT y vs h (fun r => r = (none, h1))) (kk : Rn PT x C k' L (mI 1 :: S) h1 Q) : Rn PT x C k L S0 h Q := by
  subst hk
  obtain ⟨M, e1, e2, n1, r1, e3, e4⟩ := hc
  obtain ⟨n2, r2, e5, e6⟩ := kk
  obtain ⟨C', nL, np⟩ := M
  subst e4
  refine ⟨max n1 n2 + 1, r2, ?_, e6⟩
  rw [m_run, hC]
  dsimp only
  rw [hs]
  dsimp only
  rw [e1]
  dsimp only at e2 e3 ⊢
  rw [if_pos e2, m_run_le (Nat.le_max_left n1 n2) e3]
  dsimp only [m_back]
  exact m_run_le (Nat.le_max_right n1 n2) e5
end LAW
set_option maxRecDepth 50000 in
set_option maxHeartbeats 4000000 in
/-- feed -/
theorem lw_case0 {Inv Jnv : (Nat → Nat → Int) → Prop} {μ : Nat → Nat → Int} {c s Lx : Nat} {xs : Nat → Int32} {i : Int} {v5 v6 : Option MV} {Q : MR → Prop} (hP0 : ∀ (a1 : Int) (a2 : Int) (a3 : Int) (a4 : Int) (a5 : Int) , i32 a1 → i32 a2 → i32 a3 → i32 a4 → i32 a5 → PairJ Inv Jnv 101 163 [mI a1, mI a2, mI a3, mI a4, mI a5]) (h0 : 0 ≤ i) (h1 : i + 6 ≤ Lx) (hL : Lx ≤ 3072) (hI : Inv μ) (kk : ∀ (μ2 : Nat → Nat → Int) (c2 s2 : Nat) (v5 v6 : Option MV), Jnv μ2 → c2 ≤ c + 1 → s2 ≤ s + 6 → Rn PT (lw_x Lx xs) kL_law 1304 [some (mS 0), some (mR 0), some (mR 118), some (mR 141), some (mI i), v5, v6] [] (mkh μ2 c2 s2) Q) : Rn PT (lw_x Lx xs) kL_law 25 [some (mS 0), some (mR 0), some (mR 118), some (mR 141), some (mI i), v5, v6] [] (mkh μ c s) Q := by
  have hP := hP0 ((xs (i + 1).toNat).toInt) ((xs (i + 2).toNat).toInt) ((xs (i + 3).toNat).toInt) ((xs (i + 4).toNat).toInt) ((xs (i + 5).toNat).toInt) (i32_of _) (i32_of _) (i32_of _) (i32_of _) (i32_of _)
  obtain ⟨z, μ1, μ2, hx, hm, hI2⟩ := hP μ c s hI
  refine rn_aload_n (k' := 26) rfl rfl rfl ?_
  refine rn_aload_nS (k' := 27) rfl rfl rfl ?_
  refine rn_iload (k' := 28) rfl rfl rfl ?_
  refine rn_iconst (k' := 29) rfl rfl ?_
  refine rn_iadd (k' := 30) rfl rfl (by omega) ?_
  refine rn_sload (k' := 31) rfl rfl (by omega) (by omega) ?_
  refine rn_aload_nS (k' := 32) rfl rfl rfl ?_
  refine rn_iload (k' := 33) rfl rfl rfl ?_
  refine rn_iconst (k' := 34) rfl rfl ?_
  refine rn_iadd (k' := 35) rfl rfl (by omega) ?_
  refine rn_sload (k' := 36) rfl rfl (by omega) (by omega) ?_
  refine rn_aload_nS (k' := 37) rfl rfl rfl ?_
  refine rn_iload (k' := 38) rfl rfl rfl ?_
  refine rn_iconst (k' := 39) rfl rfl ?_
  refine rn_iadd (k' := 40) rfl rfl (by omega) ?_
  refine rn_sload (k' := 41) rfl rfl (by omega) (by omega) ?_
  refine rn_aload_nS (k' := 42) rfl rfl rfl ?_
  refine rn_iload (k' := 43) rfl rfl rfl ?_
  refine rn_iconst (k' := 44) rfl rfl ?_
  refine rn_iadd (k' := 45) rfl rfl (by omega) ?_
  refine rn_sload (k' := 46) rfl rfl (by omega) (by omega) ?_
  refine rn_aload_nS (k' := 47) rfl rfl rfl ?_
  refine rn_iload (k' := 48) rfl rfl rfl ?_
  refine rn_iconst (k' := 49) rfl rfl ?_
  refine rn_iadd (k' := 50) rfl rfl (by omega) ?_
  refine rn_sload (k' := 51) rfl rfl (by omega) (by omega) ?_
  refine rn_callP (k' := 52) (y := 101) (vs := [mR 0, mI ((xs (i + 1).toNat).toInt), mI ((xs (i + 2).toNat).toInt), mI ((xs (i + 3).toNat).toInt), mI ((xs (i + 4).toNat).toInt), mI ((xs (i + 5).toNat).toInt)]) (S' := []) (v := some (mI (z))) (h' := mkh μ1 c s) rfl rfl rfl (hx) ?_
  show Rn PT (lw_x Lx xs) kL_law 52 [some (mS 0), some (mR 0), some (mR 118), some (mR 141), some (mI (i)), v5, v6] [mI (z)] (mkh μ1 c s) _
  refine rn_aload_n (k' := 53) rfl rfl rfl ?_
  refine rn_aload_nS (k' := 54) rfl rfl rfl ?_
  refine rn_iload (k' := 55) rfl rfl rfl ?_
  refine rn_iconst (k' := 56) rfl rfl ?_
  refine rn_iadd (k' := 57) rfl rfl (by omega) ?_
  refine rn_sload (k' := 58) rfl rfl (by omega) (by omega) ?_
  refine rn_aload_nS (k' := 59) rfl rfl rfl ?_
  refine rn_iload (k' := 60) rfl rfl rfl ?_
  refine rn_iconst (k' := 61) rfl rfl ?_
  refine rn_iadd (k' := 62) rfl rfl (by omega) ?_
  refine rn_sload (k' := 63) rfl rfl (by omega) (by omega) ?_
  refine rn_aload_nS (k' := 64) rfl rfl rfl ?_
  refine rn_iload (k' := 65) rfl rfl rfl ?_
  refine rn_iconst (k' := 66) rfl rfl ?_
  refine rn_iadd (k' := 67) rfl rfl (by omega) ?_
  refine rn_sload (k' := 68) rfl rfl (by omega) (by omega) ?_
  refine rn_aload_nS (k' := 69) rfl rfl rfl ?_
  refine rn_iload (k' := 70) rfl rfl rfl ?_
  refine rn_iconst (k' := 71) rfl rfl ?_
  refine rn_iadd (k' := 72) rfl rfl (by omega) ?_
  refine rn_sload (k' := 73) rfl rfl (by omega) (by omega) ?_
  refine rn_aload_nS (k' := 74) rfl rfl rfl ?_
  refine rn_iload (k' := 75) rfl rfl rfl ?_
  refine rn_iconst (k' := 76) rfl rfl ?_
  refine rn_iadd (k' := 77) rfl rfl (by omega) ?_
  refine rn_sload (k' := 78) rfl rfl (by omega) (by omega) ?_
  refine rn_callP (k' := 79) (y := 163) (vs := [mR 118, mI ((xs (i + 1).toNat).toInt), mI ((xs (i + 2).toNat).toInt), mI ((xs (i + 3).toNat).toInt), mI ((xs (i + 4).toNat).toInt), mI ((xs (i + 5).toNat).toInt)]) (S' := [mI (z)]) (v := some (mI (z))) (h' := mkh μ2 c s) rfl rfl rfl (hm) ?_
  show Rn PT (lw_x Lx xs) kL_law 79 [some (mS 0), some (mR 0), some (mR 118), some (mR 141), some (mI (i)), v5, v6] [mI (z), mI (z)] (mkh μ2 c s) _
  refine rn_icmp_eq (k' := 80) rfl rfl (fun hc1 => ?_) (fun hc1 => ?_)
  · skip
    exact kk _ _ _ _ _ hI2 (by omega) (by omega)
  · exfalso; omega
set_option maxRecDepth 50000 in
set_option maxHeartbeats 4000000 in
/-- end -/
theorem lw_case1 {Inv Jnv : (Nat → Nat → Int) → Prop} {μ : Nat → Nat → Int} {c s Lx : Nat} {xs : Nat → Int32} {i : Int} {v5 v6 : Option MV} {Q : MR → Prop} (hP0 : ∀ (a1 : Int) , i32 a1 → PairJ Inv Jnv 102 165 [mI a1]) (h0 : 0 ≤ i) (h1 : i + 6 ≤ Lx) (hL : Lx ≤ 3072) (hI : Inv μ) (kk : ∀ (μ2 : Nat → Nat → Int) (c2 s2 : Nat) (v5 v6 : Option MV), Jnv μ2 → c2 ≤ c + 1 → s2 ≤ s + 6 → Rn PT (lw_x Lx xs) kL_law 1304 [some (mS 0), some (mR 0), some (mR 118), some (mR 141), some (mI i), v5, v6] [] (mkh μ2 c2 s2) Q) : Rn PT (lw_x Lx xs) kL_law 82 [some (mS 0), some (mR 0), some (mR 118), some (mR 141), some (mI i), v5, v6] [] (mkh μ c s) Q := by
  have hP := hP0 ((xs (i + 1).toNat).toInt) (i32_of _)
  obtain ⟨z, μ1, μ2, hx, hm, hI2⟩ := hP μ c s hI
  refine rn_aload_n (k' := 83) rfl rfl rfl ?_
  refine rn_aload_nS (k' := 84) rfl rfl rfl ?_
  refine rn_iload (k' := 85) rfl rfl rfl ?_
  refine rn_iconst (k' := 86) rfl rfl ?_
  refine rn_iadd (k' := 87) rfl rfl (by omega) ?_
  refine rn_sload (k' := 88) rfl rfl (by omega) (by omega) ?_
  refine rn_callP (k' := 89) (y := 102) (vs := [mR 0, mI ((xs (i + 1).toNat).toInt)]) (S' := []) (v := some (mI (z))) (h' := mkh μ1 c s) rfl rfl rfl (hx) ?_
  show Rn PT (lw_x Lx xs) kL_law 89 [some (mS 0), some (mR 0), some (mR 118), some (mR 141), some (mI (i)), v5, v6] [mI (z)] (mkh μ1 c s) _
  refine rn_aload_n (k' := 90) rfl rfl rfl ?_
  refine rn_aload_nS (k' := 91) rfl rfl rfl ?_
  refine rn_iload (k' := 92) rfl rfl rfl ?_
  refine rn_iconst (k' := 93) rfl rfl ?_
  refine rn_iadd (k' := 94) rfl rfl (by omega) ?_
  refine rn_sload (k' := 95) rfl rfl (by omega) (by omega) ?_
  refine rn_callP (k' := 96) (y := 165) (vs := [mR 118, mI ((xs (i + 1).toNat).toInt)]) (S' := [mI (z)]) (v := some (mI (z))) (h' := mkh μ2 c s) rfl rfl rfl (hm) ?_
  show Rn PT (lw_x Lx xs) kL_law 96 [some (mS 0), some (mR 0), some (mR 118), some (mR 141), some (mI (i)), v5, v6] [mI (z), mI (z)] (mkh μ2 c s) _
  refine rn_icmp_eq (k' := 97) rfl rfl (fun hc1 => ?_) (fun hc1 => ?_)
  · skip
    exact kk _ _ _ _ _ hI2 (by omega) (by omega)
  · exfalso; omega
set_option maxRecDepth 50000 in
set_option maxHeartbeats 4000000 in
/-- moor -/
theorem lw_case2 {Inv Jnv : (Nat → Nat → Int) → Prop} {μ : Nat → Nat → Int} {c s Lx : Nat} {xs : Nat → Int32} {i : Int} {v5 v6 : Option MV} {Q : MR → Prop} (hP0 : PairJ Inv Jnv 103 190 []) (h0 : 0 ≤ i) (h1 : i + 6 ≤ Lx) (hL : Lx ≤ 3072) (hI : Inv μ) (kk : ∀ (μ2 : Nat → Nat → Int) (c2 s2 : Nat) (v5 v6 : Option MV), Jnv μ2 → c2 ≤ c + 1 → s2 ≤ s + 6 → Rn PT (lw_x Lx xs) kL_law 1304 [some (mS 0), some (mR 0), some (mR 118), some (mR 141), some (mI i), v5, v6] [] (mkh μ2 c2 s2) Q) : Rn PT (lw_x Lx xs) kL_law 99 [some (mS 0), some (mR 0), some (mR 118), some (mR 141), some (mI i), v5, v6] [] (mkh μ c s) Q := by
  have hP := hP0
  obtain ⟨z, μ1, μ2, hx, hm, hI2⟩ := hP μ c s hI
  refine rn_aload_n (k' := 100) rfl rfl rfl ?_
  refine rn_callP (k' := 101) (y := 103) (vs := [mR 0]) (S' := []) (v := some (mI (z))) (h' := mkh μ1 c s) rfl rfl rfl (hx) ?_
  show Rn PT (lw_x Lx xs) kL_law 101 [some (mS 0), some (mR 0), some (mR 118), some (mR 141), some (mI (i)), v5, v6] [mI (z)] (mkh μ1 c s) _
  refine rn_aload_n (k' := 102) rfl rfl rfl ?_
  refine rn_callP (k' := 103) (y := 190) (vs := [mR 118]) (S' := [mI (z)]) (v := some (mI (z))) (h' := mkh μ2 c s) rfl rfl rfl (hm) ?_
  show Rn PT (lw_x Lx xs) kL_law 103 [some (mS 0), some (mR 0), some (mR 118), some (mR 141), some (mI (i)), v5, v6] [mI (z), mI (z)] (mkh μ2 c s) _
  refine rn_icmp_eq (k' := 104) rfl rfl (fun hc1 => ?_) (fun hc1 => ?_)
  · skip
    exact kk _ _ _ _ _ hI2 (by omega) (by omega)
  · exfalso; omega
set_option maxRecDepth 50000 in
set_option maxHeartbeats 4000000 in
/-- fault -/
theorem lw_case3 {Inv Jnv : (Nat → Nat → Int) → Prop} {μ : Nat → Nat → Int} {c s Lx : Nat} {xs : Nat → Int32} {i : Int} {v5 v6 : Option MV} {Q : MR → Prop} (hP0 : PairJ Inv Jnv 104 191 []) (h0 : 0 ≤ i) (h1 : i + 6 ≤ Lx) (hL : Lx ≤ 3072) (hI : Inv μ) (kk : ∀ (μ2 : Nat → Nat → Int) (c2 s2 : Nat) (v5 v6 : Option MV), Jnv μ2 → c2 ≤ c + 1 → s2 ≤ s + 6 → Rn PT (lw_x Lx xs) kL_law 1304 [some (mS 0), some (mR 0), some (mR 118), some (mR 141), some (mI i), v5, v6] [] (mkh μ2 c2 s2) Q) : Rn PT (lw_x Lx xs) kL_law 106 [some (mS 0), some (mR 0), some (mR 118), some (mR 141), some (mI i), v5, v6] [] (mkh μ c s) Q := by
  have hP := hP0
  obtain ⟨z, μ1, μ2, hx, hm, hI2⟩ := hP μ c s hI
  refine rn_aload_n (k' := 107) rfl rfl rfl ?_
  refine rn_callP (k' := 108) (y := 104) (vs := [mR 0]) (S' := []) (v := some (mI (z))) (h' := mkh μ1 c s) rfl rfl rfl (hx) ?_
  show Rn PT (lw_x Lx xs) kL_law 108 [some (mS 0), some (mR 0), some (mR 118), some (mR 141), some (mI (i)), v5, v6] [mI (z)] (mkh μ1 c s) _
  refine rn_aload_n (k' := 109) rfl rfl rfl ?_
  refine rn_callP (k' := 110) (y := 191) (vs := [mR 118]) (S' := [mI (z)]) (v := some (mI (z))) (h' := mkh μ2 c s) rfl rfl rfl (hm) ?_
  show Rn PT (lw_x Lx xs) kL_law 110 [some (mS 0), some (mR 0), some (mR 118), some (mR 141), some (mI (i)), v5, v6] [mI (z), mI (z)] (mkh μ2 c s) _
  refine rn_icmp_eq (k' := 111) rfl rfl (fun hc1 => ?_) (fun hc1 => ?_)
  · skip
    exact kk _ _ _ _ _ hI2 (by omega) (by omega)
  · exfalso; omega
set_option maxRecDepth 50000 in
set_option maxHeartbeats 4000000 in
/-- cell -/
theorem lw_case4 {Inv Jnv : (Nat → Nat → Int) → Prop} {μ : Nat → Nat → Int} {c s Lx : Nat} {xs : Nat → Int32} {i : Int} {v5 v6 : Option MV} {Q : MR → Prop} (hP0 : ∀ (a1 : Int) (a2 : Int) , i32 a1 → i32 a2 → PairY Inv Jnv 106 204 [mI a1, mI a2]) (h0 : 0 ≤ i) (h1 : i + 6 ≤ Lx) (hL : Lx ≤ 3072) (hI : Inv μ) (kk : ∀ (μ2 : Nat → Nat → Int) (c2 s2 : Nat) (v5 v6 : Option MV), Jnv μ2 → c2 ≤ c + 1 → s2 ≤ s + 6 → Rn PT (lw_x Lx xs) kL_law 1304 [some (mS 0), some (mR 0), some (mR 118), some (mR 141), some (mI i), v5, v6] [] (mkh μ2 c2 s2) Q) : Rn PT (lw_x Lx xs) kL_law 113 [some (mS 0), some (mR 0), some (mR 118), some (mR 141), some (mI i), v5, v6] [] (mkh μ c s) Q := by
  have hP := hP0 ((xs (i + 1).toNat).toInt) ((xs (i + 2).toNat).toInt) (i32_of _) (i32_of _)
  refine rn_aload_n (k' := 114) rfl rfl rfl ?_
  refine rn_aload_nS (k' := 115) rfl rfl rfl ?_
  refine rn_iload (k' := 116) rfl rfl rfl ?_
  refine rn_iconst (k' := 117) rfl rfl ?_
  refine rn_iadd (k' := 118) rfl rfl (by omega) ?_
  refine rn_sload (k' := 119) rfl rfl (by omega) (by omega) ?_
  refine rn_aload_nS (k' := 120) rfl rfl rfl ?_
  refine rn_iload (k' := 121) rfl rfl rfl ?_
  refine rn_iconst (k' := 122) rfl rfl ?_
  refine rn_iadd (k' := 123) rfl rfl (by omega) ?_
  refine rn_sload (k' := 124) rfl rfl (by omega) (by omega) ?_
  refine rn_aload_n (k' := 125) rfl rfl rfl ?_
  rcases hP μ c s hI with ⟨z, μ2, hx, hm, ht, ho, hI2⟩ | ⟨b, μ2, hx, hm, ht, hI2⟩
  · refine rn_cat0 (k' := 126) (y := 106) (vs := [mR 0, mI ((xs (i + 1).toNat).toInt), mI ((xs (i + 2).toNat).toInt)]) (S := []) (o := 141) rfl rfl rfl hx rfl ?_
    show Rn PT (lw_x Lx xs) kL_law 126 [some (mS 0), some (mR 0), some (mR 118), some (mR 141), some (mI (i)), v5, v6] [mI (0)] (mkh (m_set μ 141 0 z) c s) _
    refine rn_istore (k' := 127) (L' := [some (mS 0), some (mR 0), some (mR 118), some (mR 141), some (mI (i)), some (mI (0)), v6]) rfl rfl (Nat.le_of_ble_eq_true rfl) rfl ?_
    refine rn_aload_n (k' := 128) rfl rfl rfl ?_
    refine rn_aload_nS (k' := 129) rfl rfl rfl ?_
    refine rn_iload (k' := 130) rfl rfl rfl ?_
    refine rn_iconst (k' := 131) rfl rfl ?_
    refine rn_iadd (k' := 132) rfl rfl (by omega) ?_
    refine rn_sload (k' := 133) rfl rfl (by omega) (by omega) ?_
    refine rn_aload_nS (k' := 134) rfl rfl rfl ?_
    refine rn_iload (k' := 135) rfl rfl rfl ?_
    refine rn_iconst (k' := 136) rfl rfl ?_
    refine rn_iadd (k' := 137) rfl rfl (by omega) ?_
    refine rn_sload (k' := 138) rfl rfl (by omega) (by omega) ?_
    refine rn_callP (k' := 139) (y := 204) (vs := [mR 118, mI ((xs (i + 1).toNat).toInt), mI ((xs (i + 2).toNat).toInt)]) (S' := []) (v := some (mI (z))) (h' := mkh μ2 c s) rfl rfl rfl (hm) ?_
    show Rn PT (lw_x Lx xs) kL_law 139 [some (mS 0), some (mR 0), some (mR 118), some (mR 141), some (mI (i)), some (mI (0)), v6] [mI (z)] (mkh μ2 c s) _
    refine rn_istore (k' := 140) (L' := [some (mS 0), some (mR 0), some (mR 118), some (mR 141), some (mI (i)), some (mI (0)), some (mI (z))]) rfl rfl (Nat.le_of_ble_eq_true rfl) rfl ?_
    refine rn_aload_n (k' := 141) rfl rfl rfl ?_
    refine rn_callP (k' := 142) (y := 161) (vs := [mR 118]) (S' := []) (v := some (mI (0))) (h' := mkh μ2 c s) rfl rfl rfl (c_X12_thrown ht) ?_
    show Rn PT (lw_x Lx xs) kL_law 142 [some (mS 0), some (mR 0), some (mR 118), some (mR 141), some (mI (i)), some (mI (0)), some (mI (z))] [mI (0)] (mkh μ2 c s) _
    refine rn_iload (k' := 143) rfl rfl rfl ?_
    refine rn_icmp_eq (k' := 144) rfl rfl (fun hc1 => ?_) (fun hc1 => ?_)
    · skip
      refine rn_iload (k' := 147) rfl rfl rfl ?_
      refine rn_if_ne (k' := 148) rfl rfl (fun hc2 => ?_) (fun hc2 => ?_)
      · exfalso; omega
      · skip
        refine rn_aload_n (k' := 149) rfl rfl rfl ?_
        refine rn_iconst (k' := 150) rfl rfl ?_
        refine rn_laload (k' := 151) rfl rfl K0_141 (by omega) (by omega) ?_
        show Rn PT (lw_x Lx xs) kL_law 151 [some (mS 0), some (mR 0), some (mR 118), some (mR 141), some (mI (i)), some (mI (0)), some (mI (z))] [mJ (μ2 141 0)] (mkh μ2 c s) _
        refine rn_iload (k' := 152) rfl rfl rfl ?_
        refine rn_i2l (k' := 153) rfl rfl ?_
        refine rn_lcmp (k' := 154) rfl rfl ?_
        refine rn_if_eq (k' := 155) rfl rfl (fun hc3 => ?_) (fun hc3 => ?_)
        · skip
          refine rn_goto rfl ?_
          exact kk _ _ _ _ _ hI2 (by omega) (by omega)
        · skip
          refine rn_iconst (k' := 156) rfl rfl ?_
          refine rn_iret rfl (Or.inr (by omega)) ?_
          exact absurd (by rw [ho]; simp [m_cmp]) hc3
    · exfalso; omega
  · refine rn_cat1 (k' := 126) (y := 106) (vs := [mR 0, mI ((xs (i + 1).toNat).toInt), mI ((xs (i + 2).toNat).toInt)]) (S := []) (o := 141) rfl rfl rfl hx ?_
    show Rn PT (lw_x Lx xs) kL_law 126 [some (mS 0), some (mR 0), some (mR 118), some (mR 141), some (mI (i)), v5, v6] [mI (1)] (mkh μ (c + 1) (s + 6)) _
    refine rn_istore (k' := 127) (L' := [some (mS 0), some (mR 0), some (mR 118), some (mR 141), some (mI (i)), some (mI (1)), v6]) rfl rfl (Nat.le_of_ble_eq_true rfl) rfl ?_
    refine rn_aload_n (k' := 128) rfl rfl rfl ?_
    refine rn_aload_nS (k' := 129) rfl rfl rfl ?_
    refine rn_iload (k' := 130) rfl rfl rfl ?_
    refine rn_iconst (k' := 131) rfl rfl ?_
    refine rn_iadd (k' := 132) rfl rfl (by omega) ?_
    refine rn_sload (k' := 133) rfl rfl (by omega) (by omega) ?_
    refine rn_aload_nS (k' := 134) rfl rfl rfl ?_
    refine rn_iload (k' := 135) rfl rfl rfl ?_
    refine rn_iconst (k' := 136) rfl rfl ?_
    refine rn_iadd (k' := 137) rfl rfl (by omega) ?_
    refine rn_sload (k' := 138) rfl rfl (by omega) (by omega) ?_
    refine rn_callP (k' := 139) (y := 204) (vs := [mR 118, mI ((xs (i + 1).toNat).toInt), mI ((xs (i + 2).toNat).toInt)]) (S' := []) (v := some (mI (b))) (h' := mkh μ2 (c + 1) (s + 6)) rfl rfl rfl (hm) ?_
    show Rn PT (lw_x Lx xs) kL_law 139 [some (mS 0), some (mR 0), some (mR 118), some (mR 141), some (mI (i)), some (mI (1)), v6] [mI (b)] (mkh μ2 (c + 1) (s + 6)) _
    refine rn_istore (k' := 140) (L' := [some (mS 0), some (mR 0), some (mR 118), some (mR 141), some (mI (i)), some (mI (1)), some (mI (b))]) rfl rfl (Nat.le_of_ble_eq_true rfl) rfl ?_
    refine rn_aload_n (k' := 141) rfl rfl rfl ?_
    refine rn_callP (k' := 142) (y := 161) (vs := [mR 118]) (S' := []) (v := some (mI (1))) (h' := mkh μ2 (c + 1) (s + 6)) rfl rfl rfl (c_X12_thrown ht) ?_
    show Rn PT (lw_x Lx xs) kL_law 142 [some (mS 0), some (mR 0), some (mR 118), some (mR 141), some (mI (i)), some (mI (1)), some (mI (b))] [mI (1)] (mkh μ2 (c + 1) (s + 6)) _
    refine rn_iload (k' := 143) rfl rfl rfl ?_
    refine rn_icmp_eq (k' := 144) rfl rfl (fun hc4 => ?_) (fun hc4 => ?_)
    · skip
      refine rn_iload (k' := 147) rfl rfl rfl ?_
      refine rn_if_ne (k' := 148) rfl rfl (fun hc5 => ?_) (fun hc5 => ?_)
      · skip
        refine rn_goto rfl ?_
        exact kk _ _ _ _ _ hI2 (by omega) (by omega)
      · exfalso; omega
    · exfalso; omega
set_option maxRecDepth 50000 in
set_option maxHeartbeats 4000000 in
/-- herd -/
theorem lw_case5 {Inv Jnv : (Nat → Nat → Int) → Prop} {μ : Nat → Nat → Int} {c s Lx : Nat} {xs : Nat → Int32} {i : Int} {v5 v6 : Option MV} {Q : MR → Prop} (hP0 : ∀ (a1 : Int) (a2 : Int) , i32 a1 → i32 a2 → PairY Inv Jnv 107 205 [mI a1, mI a2]) (h0 : 0 ≤ i) (h1 : i + 6 ≤ Lx) (hL : Lx ≤ 3072) (hI : Inv μ) (kk : ∀ (μ2 : Nat → Nat → Int) (c2 s2 : Nat) (v5 v6 : Option MV), Jnv μ2 → c2 ≤ c + 1 → s2 ≤ s + 6 → Rn PT (lw_x Lx xs) kL_law 1304 [some (mS 0), some (mR 0), some (mR 118), some (mR 141), some (mI i), v5, v6] [] (mkh μ2 c2 s2) Q) : Rn PT (lw_x Lx xs) kL_law 158 [some (mS 0), some (mR 0), some (mR 118), some (mR 141), some (mI i), v5, v6] [] (mkh μ c s) Q := by
  have hP := hP0 ((xs (i + 1).toNat).toInt) ((xs (i + 2).toNat).toInt) (i32_of _) (i32_of _)
  refine rn_aload_n (k' := 159) rfl rfl rfl ?_
  refine rn_aload_nS (k' := 160) rfl rfl rfl ?_
  refine rn_iload (k' := 161) rfl rfl rfl ?_
  refine rn_iconst (k' := 162) rfl rfl ?_
  refine rn_iadd (k' := 163) rfl rfl (by omega) ?_
  refine rn_sload (k' := 164) rfl rfl (by omega) (by omega) ?_
  refine rn_aload_nS (k' := 165) rfl rfl rfl ?_
  refine rn_iload (k' := 166) rfl rfl rfl ?_
  refine rn_iconst (k' := 167) rfl rfl ?_
  refine rn_iadd (k' := 168) rfl rfl (by omega) ?_
  refine rn_sload (k' := 169) rfl rfl (by omega) (by omega) ?_
  refine rn_aload_n (k' := 170) rfl rfl rfl ?_
  rcases hP μ c s hI with ⟨z, μ2, hx, hm, ht, ho, hI2⟩ | ⟨b, μ2, hx, hm, ht, hI2⟩
  · refine rn_cat0 (k' := 171) (y := 107) (vs := [mR 0, mI ((xs (i + 1).toNat).toInt), mI ((xs (i + 2).toNat).toInt)]) (S := []) (o := 141) rfl rfl rfl hx rfl ?_
    show Rn PT (lw_x Lx xs) kL_law 171 [some (mS 0), some (mR 0), some (mR 118), some (mR 141), some (mI (i)), v5, v6] [mI (0)] (mkh (m_set μ 141 0 z) c s) _
    refine rn_istore (k' := 172) (L' := [some (mS 0), some (mR 0), some (mR 118), some (mR 141), some (mI (i)), some (mI (0)), v6]) rfl rfl (Nat.le_of_ble_eq_true rfl) rfl ?_
    refine rn_aload_n (k' := 173) rfl rfl rfl ?_
    refine rn_aload_nS (k' := 174) rfl rfl rfl ?_
    refine rn_iload (k' := 175) rfl rfl rfl ?_
    refine rn_iconst (k' := 176) rfl rfl ?_
    refine rn_iadd (k' := 177) rfl rfl (by omega) ?_
    refine rn_sload (k' := 178) rfl rfl (by omega) (by omega) ?_
    refine rn_aload_nS (k' := 179) rfl rfl rfl ?_
    refine rn_iload (k' := 180) rfl rfl rfl ?_
    refine rn_iconst (k' := 181) rfl rfl ?_
    refine rn_iadd (k' := 182) rfl rfl (by omega) ?_
    refine rn_sload (k' := 183) rfl rfl (by omega) (by omega) ?_
    refine rn_callP (k' := 184) (y := 205) (vs := [mR 118, mI ((xs (i + 1).toNat).toInt), mI ((xs (i + 2).toNat).toInt)]) (S' := []) (v := some (mI (z))) (h' := mkh μ2 c s) rfl rfl rfl (hm) ?_
    show Rn PT (lw_x Lx xs) kL_law 184 [some (mS 0), some (mR 0), some (mR 118), some (mR 141), some (mI (i)), some (mI (0)), v6] [mI (z)] (mkh μ2 c s) _
    refine rn_istore (k' := 185) (L' := [some (mS 0), some (mR 0), some (mR 118), some (mR 141), some (mI (i)), some (mI (0)), some (mI (z))]) rfl rfl (Nat.le_of_ble_eq_true rfl) rfl ?_
    refine rn_aload_n (k' := 186) rfl rfl rfl ?_
    refine rn_callP (k' := 187) (y := 161) (vs := [mR 118]) (S' := []) (v := some (mI (0))) (h' := mkh μ2 c s) rfl rfl rfl (c_X12_thrown ht) ?_
    show Rn PT (lw_x Lx xs) kL_law 187 [some (mS 0), some (mR 0), some (mR 118), some (mR 141), some (mI (i)), some (mI (0)), some (mI (z))] [mI (0)] (mkh μ2 c s) _
    refine rn_iload (k' := 188) rfl rfl rfl ?_
    refine rn_icmp_eq (k' := 189) rfl rfl (fun hc1 => ?_) (fun hc1 => ?_)
    · skip
      refine rn_iload (k' := 192) rfl rfl rfl ?_
      refine rn_if_ne (k' := 193) rfl rfl (fun hc2 => ?_) (fun hc2 => ?_)
      · exfalso; omega
      · skip
        refine rn_aload_n (k' := 194) rfl rfl rfl ?_
        refine rn_iconst (k' := 195) rfl rfl ?_
        refine rn_laload (k' := 196) rfl rfl K0_141 (by omega) (by omega) ?_
        show Rn PT (lw_x Lx xs) kL_law 196 [some (mS 0), some (mR 0), some (mR 118), some (mR 141), some (mI (i)), some (mI (0)), some (mI (z))] [mJ (μ2 141 0)] (mkh μ2 c s) _
        refine rn_iload (k' := 197) rfl rfl rfl ?_
        refine rn_i2l (k' := 198) rfl rfl ?_
        refine rn_lcmp (k' := 199) rfl rfl ?_
        refine rn_if_eq (k' := 200) rfl rfl (fun hc3 => ?_) (fun hc3 => ?_)
        · skip
          refine rn_goto rfl ?_
          exact kk _ _ _ _ _ hI2 (by omega) (by omega)
        · skip
          refine rn_iconst (k' := 201) rfl rfl ?_
          refine rn_iret rfl (Or.inr (by omega)) ?_
          exact absurd (by rw [ho]; simp [m_cmp]) hc3
    · exfalso; omega
  · refine rn_cat1 (k' := 171) (y := 107) (vs := [mR 0, mI ((xs (i + 1).toNat).toInt), mI ((xs (i + 2).toNat).toInt)]) (S := []) (o := 141) rfl rfl rfl hx ?_
    show Rn PT (lw_x Lx xs) kL_law 171 [some (mS 0), some (mR 0), some (mR 118), some (mR 141), some (mI (i)), v5, v6] [mI (1)] (mkh μ (c + 1) (s + 6)) _
    refine rn_istore (k' := 172) (L' := [some (mS 0), some (mR 0), some (mR 118), some (mR 141), some (mI (i)), some (mI (1)), v6]) rfl rfl (Nat.le_of_ble_eq_true rfl) rfl ?_
    refine rn_aload_n (k' := 173) rfl rfl rfl ?_
    refine rn_aload_nS (k' := 174) rfl rfl rfl ?_
    refine rn_iload (k' := 175) rfl rfl rfl ?_
    refine rn_iconst (k' := 176) rfl rfl ?_
    refine rn_iadd (k' := 177) rfl rfl (by omega) ?_
    refine rn_sload (k' := 178) rfl rfl (by omega) (by omega) ?_
    refine rn_aload_nS (k' := 179) rfl rfl rfl ?_
    refine rn_iload (k' := 180) rfl rfl rfl ?_
    refine rn_iconst (k' := 181) rfl rfl ?_
    refine rn_iadd (k' := 182) rfl rfl (by omega) ?_
    refine rn_sload (k' := 183) rfl rfl (by omega) (by omega) ?_
    refine rn_callP (k' := 184) (y := 205) (vs := [mR 118, mI ((xs (i + 1).toNat).toInt), mI ((xs (i + 2).toNat).toInt)]) (S' := []) (v := some (mI (b))) (h' := mkh μ2 (c + 1) (s + 6)) rfl rfl rfl (hm) ?_
    show Rn PT (lw_x Lx xs) kL_law 184 [some (mS 0), some (mR 0), some (mR 118), some (mR 141), some (mI (i)), some (mI (1)), v6] [mI (b)] (mkh μ2 (c + 1) (s + 6)) _
    refine rn_istore (k' := 185) (L' := [some (mS 0), some (mR 0), some (mR 118), some (mR 141), some (mI (i)), some (mI (1)), some (mI (b))]) rfl rfl (Nat.le_of_ble_eq_true rfl) rfl ?_
    refine rn_aload_n (k' := 186) rfl rfl rfl ?_
    refine rn_callP (k' := 187) (y := 161) (vs := [mR 118]) (S' := []) (v := some (mI (1))) (h' := mkh μ2 (c + 1) (s + 6)) rfl rfl rfl (c_X12_thrown ht) ?_
    show Rn PT (lw_x Lx xs) kL_law 187 [some (mS 0), some (mR 0), some (mR 118), some (mR 141), some (mI (i)), some (mI (1)), some (mI (b))] [mI (1)] (mkh μ2 (c + 1) (s + 6)) _
    refine rn_iload (k' := 188) rfl rfl rfl ?_
    refine rn_icmp_eq (k' := 189) rfl rfl (fun hc4 => ?_) (fun hc4 => ?_)
    · skip
      refine rn_iload (k' := 192) rfl rfl rfl ?_
      refine rn_if_ne (k' := 193) rfl rfl (fun hc5 => ?_) (fun hc5 => ?_)
      · skip
        refine rn_goto rfl ?_
        exact kk _ _ _ _ _ hI2 (by omega) (by omega)
      · exfalso; omega
    · exfalso; omega
set_option maxRecDepth 50000 in
set_option maxHeartbeats 4000000 in
/-- on -/
theorem lw_case6 {Inv Jnv : (Nat → Nat → Int) → Prop} {μ : Nat → Nat → Int} {c s Lx : Nat} {xs : Nat → Int32} {i : Int} {v5 v6 : Option MV} {Q : MR → Prop} (hP0 : ∀ (a1 : Int) (a2 : Int) , i32 a1 → i32 a2 → PairJ Inv Jnv 108 206 [mI a1, mI a2]) (h0 : 0 ≤ i) (h1 : i + 6 ≤ Lx) (hL : Lx ≤ 3072) (hI : Inv μ) (kk : ∀ (μ2 : Nat → Nat → Int) (c2 s2 : Nat) (v5 v6 : Option MV), Jnv μ2 → c2 ≤ c + 1 → s2 ≤ s + 6 → Rn PT (lw_x Lx xs) kL_law 1304 [some (mS 0), some (mR 0), some (mR 118), some (mR 141), some (mI i), v5, v6] [] (mkh μ2 c2 s2) Q) : Rn PT (lw_x Lx xs) kL_law 203 [some (mS 0), some (mR 0), some (mR 118), some (mR 141), some (mI i), v5, v6] [] (mkh μ c s) Q := by
  have hP := hP0 ((xs (i + 1).toNat).toInt) ((xs (i + 2).toNat).toInt) (i32_of _) (i32_of _)
  obtain ⟨z, μ1, μ2, hx, hm, hI2⟩ := hP μ c s hI
  refine rn_aload_n (k' := 204) rfl rfl rfl ?_
  refine rn_aload_nS (k' := 205) rfl rfl rfl ?_
  refine rn_iload (k' := 206) rfl rfl rfl ?_
  refine rn_iconst (k' := 207) rfl rfl ?_
  refine rn_iadd (k' := 208) rfl rfl (by omega) ?_
  refine rn_sload (k' := 209) rfl rfl (by omega) (by omega) ?_
  refine rn_aload_nS (k' := 210) rfl rfl rfl ?_
  refine rn_iload (k' := 211) rfl rfl rfl ?_
  refine rn_iconst (k' := 212) rfl rfl ?_
  refine rn_iadd (k' := 213) rfl rfl (by omega) ?_
  refine rn_sload (k' := 214) rfl rfl (by omega) (by omega) ?_
  refine rn_callP (k' := 215) (y := 108) (vs := [mR 0, mI ((xs (i + 1).toNat).toInt), mI ((xs (i + 2).toNat).toInt)]) (S' := []) (v := some (mI (z))) (h' := mkh μ1 c s) rfl rfl rfl (hx) ?_
  show Rn PT (lw_x Lx xs) kL_law 215 [some (mS 0), some (mR 0), some (mR 118), some (mR 141), some (mI (i)), v5, v6] [mI (z)] (mkh μ1 c s) _
  refine rn_aload_n (k' := 216) rfl rfl rfl ?_
  refine rn_aload_nS (k' := 217) rfl rfl rfl ?_
  refine rn_iload (k' := 218) rfl rfl rfl ?_
  refine rn_iconst (k' := 219) rfl rfl ?_
  refine rn_iadd (k' := 220) rfl rfl (by omega) ?_
  refine rn_sload (k' := 221) rfl rfl (by omega) (by omega) ?_
  refine rn_aload_nS (k' := 222) rfl rfl rfl ?_
  refine rn_iload (k' := 223) rfl rfl rfl ?_
  refine rn_iconst (k' := 224) rfl rfl ?_
  refine rn_iadd (k' := 225) rfl rfl (by omega) ?_
  refine rn_sload (k' := 226) rfl rfl (by omega) (by omega) ?_
  refine rn_callP (k' := 227) (y := 206) (vs := [mR 118, mI ((xs (i + 1).toNat).toInt), mI ((xs (i + 2).toNat).toInt)]) (S' := [mI (z)]) (v := some (mI (z))) (h' := mkh μ2 c s) rfl rfl rfl (hm) ?_
  show Rn PT (lw_x Lx xs) kL_law 227 [some (mS 0), some (mR 0), some (mR 118), some (mR 141), some (mI (i)), v5, v6] [mI (z), mI (z)] (mkh μ2 c s) _
  refine rn_icmp_eq (k' := 228) rfl rfl (fun hc1 => ?_) (fun hc1 => ?_)
  · skip
    exact kk _ _ _ _ _ hI2 (by omega) (by omega)
  · exfalso; omega
set_option maxRecDepth 50000 in
set_option maxHeartbeats 4000000 in
/-- timber -/
theorem lw_case7 {Inv Jnv : (Nat → Nat → Int) → Prop} {μ : Nat → Nat → Int} {c s Lx : Nat} {xs : Nat → Int32} {i : Int} {v5 v6 : Option MV} {Q : MR → Prop} (hP0 : PairJ Inv Jnv 109 207 []) (h0 : 0 ≤ i) (h1 : i + 6 ≤ Lx) (hL : Lx ≤ 3072) (hI : Inv μ) (kk : ∀ (μ2 : Nat → Nat → Int) (c2 s2 : Nat) (v5 v6 : Option MV), Jnv μ2 → c2 ≤ c + 1 → s2 ≤ s + 6 → Rn PT (lw_x Lx xs) kL_law 1304 [some (mS 0), some (mR 0), some (mR 118), some (mR 141), some (mI i), v5, v6] [] (mkh μ2 c2 s2) Q) : Rn PT (lw_x Lx xs) kL_law 230 [some (mS 0), some (mR 0), some (mR 118), some (mR 141), some (mI i), v5, v6] [] (mkh μ c s) Q := by
  have hP := hP0
  obtain ⟨z, μ1, μ2, hx, hm, hI2⟩ := hP μ c s hI
  refine rn_aload_n (k' := 231) rfl rfl rfl ?_
  refine rn_callP (k' := 232) (y := 109) (vs := [mR 0]) (S' := []) (v := some (mI (z))) (h' := mkh μ1 c s) rfl rfl rfl (hx) ?_
  show Rn PT (lw_x Lx xs) kL_law 232 [some (mS 0), some (mR 0), some (mR 118), some (mR 141), some (mI (i)), v5, v6] [mI (z)] (mkh μ1 c s) _
  refine rn_aload_n (k' := 233) rfl rfl rfl ?_
  refine rn_callP (k' := 234) (y := 207) (vs := [mR 118]) (S' := [mI (z)]) (v := some (mI (z))) (h' := mkh μ2 c s) rfl rfl rfl (hm) ?_
  show Rn PT (lw_x Lx xs) kL_law 234 [some (mS 0), some (mR 0), some (mR 118), some (mR 141), some (mI (i)), v5, v6] [mI (z), mI (z)] (mkh μ2 c s) _
  refine rn_icmp_eq (k' := 235) rfl rfl (fun hc1 => ?_) (fun hc1 => ?_)
  · skip
    exact kk _ _ _ _ _ hI2 (by omega) (by omega)
  · exfalso; omega
set_option maxRecDepth 50000 in
set_option maxHeartbeats 4000000 in
/-- flock -/
theorem lw_case8 {Inv Jnv : (Nat → Nat → Int) → Prop} {μ : Nat → Nat → Int} {c s Lx : Nat} {xs : Nat → Int32} {i : Int} {v5 v6 : Option MV} {Q : MR → Prop} (hP0 : PairJ Inv Jnv 110 209 []) (h0 : 0 ≤ i) (h1 : i + 6 ≤ Lx) (hL : Lx ≤ 3072) (hI : Inv μ) (kk : ∀ (μ2 : Nat → Nat → Int) (c2 s2 : Nat) (v5 v6 : Option MV), Jnv μ2 → c2 ≤ c + 1 → s2 ≤ s + 6 → Rn PT (lw_x Lx xs) kL_law 1304 [some (mS 0), some (mR 0), some (mR 118), some (mR 141), some (mI i), v5, v6] [] (mkh μ2 c2 s2) Q) : Rn PT (lw_x Lx xs) kL_law 237 [some (mS 0), some (mR 0), some (mR 118), some (mR 141), some (mI i), v5, v6] [] (mkh μ c s) Q := by
  have hP := hP0
  obtain ⟨z, μ1, μ2, hx, hm, hI2⟩ := hP μ c s hI
  refine rn_aload_n (k' := 238) rfl rfl rfl ?_
  refine rn_callP (k' := 239) (y := 110) (vs := [mR 0]) (S' := []) (v := some (mI (z))) (h' := mkh μ1 c s) rfl rfl rfl (hx) ?_
  show Rn PT (lw_x Lx xs) kL_law 239 [some (mS 0), some (mR 0), some (mR 118), some (mR 141), some (mI (i)), v5, v6] [mI (z)] (mkh μ1 c s) _
  refine rn_aload_n (k' := 240) rfl rfl rfl ?_
  refine rn_callP (k' := 241) (y := 209) (vs := [mR 118]) (S' := [mI (z)]) (v := some (mI (z))) (h' := mkh μ2 c s) rfl rfl rfl (hm) ?_
  show Rn PT (lw_x Lx xs) kL_law 241 [some (mS 0), some (mR 0), some (mR 118), some (mR 141), some (mI (i)), v5, v6] [mI (z), mI (z)] (mkh μ2 c s) _
  refine rn_icmp_eq (k' := 242) rfl rfl (fun hc1 => ?_) (fun hc1 => ?_)
  · skip
    exact kk _ _ _ _ _ hI2 (by omega) (by omega)
  · exfalso; omega
set_option maxRecDepth 50000 in
set_option maxHeartbeats 4000000 in
/-- deepest -/
theorem lw_case9 {Inv Jnv : (Nat → Nat → Int) → Prop} {μ : Nat → Nat → Int} {c s Lx : Nat} {xs : Nat → Int32} {i : Int} {v5 v6 : Option MV} {Q : MR → Prop} (hP0 : ∀ (a1 : Int) , i32 a1 → PairJ Inv Jnv 111 210 [mI a1]) (h0 : 0 ≤ i) (h1 : i + 6 ≤ Lx) (hL : Lx ≤ 3072) (hI : Inv μ) (kk : ∀ (μ2 : Nat → Nat → Int) (c2 s2 : Nat) (v5 v6 : Option MV), Jnv μ2 → c2 ≤ c + 1 → s2 ≤ s + 6 → Rn PT (lw_x Lx xs) kL_law 1304 [some (mS 0), some (mR 0), some (mR 118), some (mR 141), some (mI i), v5, v6] [] (mkh μ2 c2 s2) Q) : Rn PT (lw_x Lx xs) kL_law 244 [some (mS 0), some (mR 0), some (mR 118), some (mR 141), some (mI i), v5, v6] [] (mkh μ c s) Q := by
  have hP := hP0 ((xs (i + 1).toNat).toInt) (i32_of _)
  obtain ⟨z, μ1, μ2, hx, hm, hI2⟩ := hP μ c s hI
  refine rn_aload_n (k' := 245) rfl rfl rfl ?_
  refine rn_aload_nS (k' := 246) rfl rfl rfl ?_
  refine rn_iload (k' := 247) rfl rfl rfl ?_
  refine rn_iconst (k' := 248) rfl rfl ?_
  refine rn_iadd (k' := 249) rfl rfl (by omega) ?_
  refine rn_sload (k' := 250) rfl rfl (by omega) (by omega) ?_
  refine rn_callP (k' := 251) (y := 111) (vs := [mR 0, mI ((xs (i + 1).toNat).toInt)]) (S' := []) (v := some (mI (z))) (h' := mkh μ1 c s) rfl rfl rfl (hx) ?_
  show Rn PT (lw_x Lx xs) kL_law 251 [some (mS 0), some (mR 0), some (mR 118), some (mR 141), some (mI (i)), v5, v6] [mI (z)] (mkh μ1 c s) _
  refine rn_aload_n (k' := 252) rfl rfl rfl ?_
  refine rn_aload_nS (k' := 253) rfl rfl rfl ?_
  refine rn_iload (k' := 254) rfl rfl rfl ?_
  refine rn_iconst (k' := 255) rfl rfl ?_
  refine rn_iadd (k' := 256) rfl rfl (by omega) ?_
  refine rn_sload (k' := 257) rfl rfl (by omega) (by omega) ?_
  refine rn_callP (k' := 258) (y := 210) (vs := [mR 118, mI ((xs (i + 1).toNat).toInt)]) (S' := [mI (z)]) (v := some (mI (z))) (h' := mkh μ2 c s) rfl rfl rfl (hm) ?_
  show Rn PT (lw_x Lx xs) kL_law 258 [some (mS 0), some (mR 0), some (mR 118), some (mR 141), some (mI (i)), v5, v6] [mI (z), mI (z)] (mkh μ2 c s) _
  refine rn_icmp_eq (k' := 259) rfl rfl (fun hc1 => ?_) (fun hc1 => ?_)
  · skip
    exact kk _ _ _ _ _ hI2 (by omega) (by omega)
  · exfalso; omega
set_option maxRecDepth 50000 in
set_option maxHeartbeats 4000000 in
/-- near -/
theorem lw_case10 {Inv Jnv : (Nat → Nat → Int) → Prop} {μ : Nat → Nat → Int} {c s Lx : Nat} {xs : Nat → Int32} {i : Int} {v5 v6 : Option MV} {Q : MR → Prop} (hP0 : ∀ (a1 : Int) (a2 : Int) , i32 a1 → i32 a2 → PairJ Inv Jnv 113 217 [mI a1, mI a2]) (h0 : 0 ≤ i) (h1 : i + 6 ≤ Lx) (hL : Lx ≤ 3072) (hI : Inv μ) (kk : ∀ (μ2 : Nat → Nat → Int) (c2 s2 : Nat) (v5 v6 : Option MV), Jnv μ2 → c2 ≤ c + 1 → s2 ≤ s + 6 → Rn PT (lw_x Lx xs) kL_law 1304 [some (mS 0), some (mR 0), some (mR 118), some (mR 141), some (mI i), v5, v6] [] (mkh μ2 c2 s2) Q) : Rn PT (lw_x Lx xs) kL_law 261 [some (mS 0), some (mR 0), some (mR 118), some (mR 141), some (mI i), v5, v6] [] (mkh μ c s) Q := by
  have hP := hP0 ((xs (i + 1).toNat).toInt) ((xs (i + 2).toNat).toInt) (i32_of _) (i32_of _)
  obtain ⟨z, μ1, μ2, hx, hm, hI2⟩ := hP μ c s hI
  refine rn_aload_n (k' := 262) rfl rfl rfl ?_
  refine rn_aload_nS (k' := 263) rfl rfl rfl ?_
  refine rn_iload (k' := 264) rfl rfl rfl ?_
  refine rn_iconst (k' := 265) rfl rfl ?_
  refine rn_iadd (k' := 266) rfl rfl (by omega) ?_
  refine rn_sload (k' := 267) rfl rfl (by omega) (by omega) ?_
  refine rn_aload_nS (k' := 268) rfl rfl rfl ?_
  refine rn_iload (k' := 269) rfl rfl rfl ?_
  refine rn_iconst (k' := 270) rfl rfl ?_
  refine rn_iadd (k' := 271) rfl rfl (by omega) ?_
  refine rn_sload (k' := 272) rfl rfl (by omega) (by omega) ?_
  refine rn_callP (k' := 273) (y := 113) (vs := [mR 0, mI ((xs (i + 1).toNat).toInt), mI ((xs (i + 2).toNat).toInt)]) (S' := []) (v := some (mI (z))) (h' := mkh μ1 c s) rfl rfl rfl (hx) ?_
  show Rn PT (lw_x Lx xs) kL_law 273 [some (mS 0), some (mR 0), some (mR 118), some (mR 141), some (mI (i)), v5, v6] [mI (z)] (mkh μ1 c s) _
  refine rn_aload_n (k' := 274) rfl rfl rfl ?_
  refine rn_aload_nS (k' := 275) rfl rfl rfl ?_
  refine rn_iload (k' := 276) rfl rfl rfl ?_
  refine rn_iconst (k' := 277) rfl rfl ?_
  refine rn_iadd (k' := 278) rfl rfl (by omega) ?_
  refine rn_sload (k' := 279) rfl rfl (by omega) (by omega) ?_
  refine rn_aload_nS (k' := 280) rfl rfl rfl ?_
  refine rn_iload (k' := 281) rfl rfl rfl ?_
  refine rn_iconst (k' := 282) rfl rfl ?_
  refine rn_iadd (k' := 283) rfl rfl (by omega) ?_
  refine rn_sload (k' := 284) rfl rfl (by omega) (by omega) ?_
  refine rn_callP (k' := 285) (y := 217) (vs := [mR 118, mI ((xs (i + 1).toNat).toInt), mI ((xs (i + 2).toNat).toInt)]) (S' := [mI (z)]) (v := some (mI (z))) (h' := mkh μ2 c s) rfl rfl rfl (hm) ?_
  show Rn PT (lw_x Lx xs) kL_law 285 [some (mS 0), some (mR 0), some (mR 118), some (mR 141), some (mI (i)), v5, v6] [mI (z), mI (z)] (mkh μ2 c s) _
  refine rn_icmp_eq (k' := 286) rfl rfl (fun hc1 => ?_) (fun hc1 => ?_)
  · skip
    exact kk _ _ _ _ _ hI2 (by omega) (by omega)
  · exfalso; omega
set_option maxRecDepth 50000 in
set_option maxHeartbeats 4000000 in
/-- stands -/
theorem lw_case11 {Inv Jnv : (Nat → Nat → Int) → Prop} {μ : Nat → Nat → Int} {c s Lx : Nat} {xs : Nat → Int32} {i : Int} {v5 v6 : Option MV} {Q : MR → Prop} (hP0 : ∀ (a1 : Int) (a2 : Int) (a3 : Int) , i32 a1 → i32 a2 → i32 a3 → PairJ Inv Jnv 114 215 [mI a1, mI a2, mI a3]) (h0 : 0 ≤ i) (h1 : i + 6 ≤ Lx) (hL : Lx ≤ 3072) (hI : Inv μ) (kk : ∀ (μ2 : Nat → Nat → Int) (c2 s2 : Nat) (v5 v6 : Option MV), Jnv μ2 → c2 ≤ c + 1 → s2 ≤ s + 6 → Rn PT (lw_x Lx xs) kL_law 1304 [some (mS 0), some (mR 0), some (mR 118), some (mR 141), some (mI i), v5, v6] [] (mkh μ2 c2 s2) Q) : Rn PT (lw_x Lx xs) kL_law 288 [some (mS 0), some (mR 0), some (mR 118), some (mR 141), some (mI i), v5, v6] [] (mkh μ c s) Q := by
  have hP := hP0 ((xs (i + 1).toNat).toInt) ((xs (i + 2).toNat).toInt) ((xs (i + 3).toNat).toInt) (i32_of _) (i32_of _) (i32_of _)
  obtain ⟨z, μ1, μ2, hx, hm, hI2⟩ := hP μ c s hI
  refine rn_aload_n (k' := 289) rfl rfl rfl ?_
  refine rn_aload_nS (k' := 290) rfl rfl rfl ?_
  refine rn_iload (k' := 291) rfl rfl rfl ?_
  refine rn_iconst (k' := 292) rfl rfl ?_
  refine rn_iadd (k' := 293) rfl rfl (by omega) ?_
  refine rn_sload (k' := 294) rfl rfl (by omega) (by omega) ?_
  refine rn_aload_nS (k' := 295) rfl rfl rfl ?_
  refine rn_iload (k' := 296) rfl rfl rfl ?_
  refine rn_iconst (k' := 297) rfl rfl ?_
  refine rn_iadd (k' := 298) rfl rfl (by omega) ?_
  refine rn_sload (k' := 299) rfl rfl (by omega) (by omega) ?_
  refine rn_aload_nS (k' := 300) rfl rfl rfl ?_
  refine rn_iload (k' := 301) rfl rfl rfl ?_
  refine rn_iconst (k' := 302) rfl rfl ?_
  refine rn_iadd (k' := 303) rfl rfl (by omega) ?_
  refine rn_sload (k' := 304) rfl rfl (by omega) (by omega) ?_
  refine rn_callP (k' := 305) (y := 114) (vs := [mR 0, mI ((xs (i + 1).toNat).toInt), mI ((xs (i + 2).toNat).toInt), mI ((xs (i + 3).toNat).toInt)]) (S' := []) (v := some (mI (z))) (h' := mkh μ1 c s) rfl rfl rfl (hx) ?_
  show Rn PT (lw_x Lx xs) kL_law 305 [some (mS 0), some (mR 0), some (mR 118), some (mR 141), some (mI (i)), v5, v6] [mI (z)] (mkh μ1 c s) _
  refine rn_aload_n (k' := 306) rfl rfl rfl ?_
  refine rn_aload_nS (k' := 307) rfl rfl rfl ?_
  refine rn_iload (k' := 308) rfl rfl rfl ?_
  refine rn_iconst (k' := 309) rfl rfl ?_
  refine rn_iadd (k' := 310) rfl rfl (by omega) ?_
  refine rn_sload (k' := 311) rfl rfl (by omega) (by omega) ?_
  refine rn_aload_nS (k' := 312) rfl rfl rfl ?_
  refine rn_iload (k' := 313) rfl rfl rfl ?_
  refine rn_iconst (k' := 314) rfl rfl ?_
  refine rn_iadd (k' := 315) rfl rfl (by omega) ?_
  refine rn_sload (k' := 316) rfl rfl (by omega) (by omega) ?_
  refine rn_aload_nS (k' := 317) rfl rfl rfl ?_
  refine rn_iload (k' := 318) rfl rfl rfl ?_
  refine rn_iconst (k' := 319) rfl rfl ?_
  refine rn_iadd (k' := 320) rfl rfl (by omega) ?_
  refine rn_sload (k' := 321) rfl rfl (by omega) (by omega) ?_
  refine rn_callP (k' := 322) (y := 215) (vs := [mR 118, mI ((xs (i + 1).toNat).toInt), mI ((xs (i + 2).toNat).toInt), mI ((xs (i + 3).toNat).toInt)]) (S' := [mI (z)]) (v := some (mI (z))) (h' := mkh μ2 c s) rfl rfl rfl (hm) ?_
  show Rn PT (lw_x Lx xs) kL_law 322 [some (mS 0), some (mR 0), some (mR 118), some (mR 141), some (mI (i)), v5, v6] [mI (z), mI (z)] (mkh μ2 c s) _
  refine rn_icmp_eq (k' := 323) rfl rfl (fun hc1 => ?_) (fun hc1 => ?_)
  · skip
    exact kk _ _ _ _ _ hI2 (by omega) (by omega)
  · exfalso; omega
set_option maxRecDepth 50000 in
set_option maxHeartbeats 4000000 in
/-- steps -/
theorem lw_case12 {Inv Jnv : (Nat → Nat → Int) → Prop} {μ : Nat → Nat → Int} {c s Lx : Nat} {xs : Nat → Int32} {i : Int} {v5 v6 : Option MV} {Q : MR → Prop} (hP0 : ∀ (a1 : Int) (a2 : Int) (a3 : Int) (a4 : Int) , i32 a1 → i32 a2 → i32 a3 → i32 a4 → PairJ Inv Jnv 115 216 [mI a1, mI a2, mI a3, mI a4]) (h0 : 0 ≤ i) (h1 : i + 6 ≤ Lx) (hL : Lx ≤ 3072) (hI : Inv μ) (kk : ∀ (μ2 : Nat → Nat → Int) (c2 s2 : Nat) (v5 v6 : Option MV), Jnv μ2 → c2 ≤ c + 1 → s2 ≤ s + 6 → Rn PT (lw_x Lx xs) kL_law 1304 [some (mS 0), some (mR 0), some (mR 118), some (mR 141), some (mI i), v5, v6] [] (mkh μ2 c2 s2) Q) : Rn PT (lw_x Lx xs) kL_law 325 [some (mS 0), some (mR 0), some (mR 118), some (mR 141), some (mI i), v5, v6] [] (mkh μ c s) Q := by
  have hP := hP0 ((xs (i + 1).toNat).toInt) ((xs (i + 2).toNat).toInt) ((xs (i + 3).toNat).toInt) ((xs (i + 4).toNat).toInt) (i32_of _) (i32_of _) (i32_of _) (i32_of _)
  obtain ⟨z, μ1, μ2, hx, hm, hI2⟩ := hP μ c s hI
  refine rn_aload_n (k' := 326) rfl rfl rfl ?_
  refine rn_aload_nS (k' := 327) rfl rfl rfl ?_
  refine rn_iload (k' := 328) rfl rfl rfl ?_
  refine rn_iconst (k' := 329) rfl rfl ?_
  refine rn_iadd (k' := 330) rfl rfl (by omega) ?_
  refine rn_sload (k' := 331) rfl rfl (by omega) (by omega) ?_
  refine rn_aload_nS (k' := 332) rfl rfl rfl ?_
  refine rn_iload (k' := 333) rfl rfl rfl ?_
  refine rn_iconst (k' := 334) rfl rfl ?_
  refine rn_iadd (k' := 335) rfl rfl (by omega) ?_
  refine rn_sload (k' := 336) rfl rfl (by omega) (by omega) ?_
  refine rn_aload_nS (k' := 337) rfl rfl rfl ?_
  refine rn_iload (k' := 338) rfl rfl rfl ?_
  refine rn_iconst (k' := 339) rfl rfl ?_
  refine rn_iadd (k' := 340) rfl rfl (by omega) ?_
  refine rn_sload (k' := 341) rfl rfl (by omega) (by omega) ?_
  refine rn_aload_nS (k' := 342) rfl rfl rfl ?_
  refine rn_iload (k' := 343) rfl rfl rfl ?_
  refine rn_iconst (k' := 344) rfl rfl ?_
  refine rn_iadd (k' := 345) rfl rfl (by omega) ?_
  refine rn_sload (k' := 346) rfl rfl (by omega) (by omega) ?_
  refine rn_callP (k' := 347) (y := 115) (vs := [mR 0, mI ((xs (i + 1).toNat).toInt), mI ((xs (i + 2).toNat).toInt), mI ((xs (i + 3).toNat).toInt), mI ((xs (i + 4).toNat).toInt)]) (S' := []) (v := some (mI (z))) (h' := mkh μ1 c s) rfl rfl rfl (hx) ?_
  show Rn PT (lw_x Lx xs) kL_law 347 [some (mS 0), some (mR 0), some (mR 118), some (mR 141), some (mI (i)), v5, v6] [mI (z)] (mkh μ1 c s) _
  refine rn_aload_n (k' := 348) rfl rfl rfl ?_
  refine rn_aload_nS (k' := 349) rfl rfl rfl ?_
  refine rn_iload (k' := 350) rfl rfl rfl ?_
  refine rn_iconst (k' := 351) rfl rfl ?_
  refine rn_iadd (k' := 352) rfl rfl (by omega) ?_
  refine rn_sload (k' := 353) rfl rfl (by omega) (by omega) ?_
  refine rn_aload_nS (k' := 354) rfl rfl rfl ?_
  refine rn_iload (k' := 355) rfl rfl rfl ?_
  refine rn_iconst (k' := 356) rfl rfl ?_
  refine rn_iadd (k' := 357) rfl rfl (by omega) ?_
  refine rn_sload (k' := 358) rfl rfl (by omega) (by omega) ?_
  refine rn_aload_nS (k' := 359) rfl rfl rfl ?_
  refine rn_iload (k' := 360) rfl rfl rfl ?_
  refine rn_iconst (k' := 361) rfl rfl ?_
  refine rn_iadd (k' := 362) rfl rfl (by omega) ?_
  refine rn_sload (k' := 363) rfl rfl (by omega) (by omega) ?_
  refine rn_aload_nS (k' := 364) rfl rfl rfl ?_
  refine rn_iload (k' := 365) rfl rfl rfl ?_
  refine rn_iconst (k' := 366) rfl rfl ?_
  refine rn_iadd (k' := 367) rfl rfl (by omega) ?_
  refine rn_sload (k' := 368) rfl rfl (by omega) (by omega) ?_
  refine rn_callP (k' := 369) (y := 216) (vs := [mR 118, mI ((xs (i + 1).toNat).toInt), mI ((xs (i + 2).toNat).toInt), mI ((xs (i + 3).toNat).toInt), mI ((xs (i + 4).toNat).toInt)]) (S' := [mI (z)]) (v := some (mI (z))) (h' := mkh μ2 c s) rfl rfl rfl (hm) ?_
  show Rn PT (lw_x Lx xs) kL_law 369 [some (mS 0), some (mR 0), some (mR 118), some (mR 141), some (mI (i)), v5, v6] [mI (z), mI (z)] (mkh μ2 c s) _
  refine rn_icmp_eq (k' := 370) rfl rfl (fun hc1 => ?_) (fun hc1 => ?_)
  · skip
    exact kk _ _ _ _ _ hI2 (by omega) (by omega)
  · exfalso; omega
set_option maxRecDepth 50000 in
set_option maxHeartbeats 4000000 in
/-- risk -/
theorem lw_case13 {Inv Jnv : (Nat → Nat → Int) → Prop} {μ : Nat → Nat → Int} {c s Lx : Nat} {xs : Nat → Int32} {i : Int} {v5 v6 : Option MV} {Q : MR → Prop} (hP0 : ∀ (a1 : Int) (a2 : Int) (a3 : Int) (a4 : Int) , i32 a1 → i32 a2 → i32 a3 → i32 a4 → PairJ Inv Jnv 116 220 [mI a1, mI a2, mI a3, mI a4]) (h0 : 0 ≤ i) (h1 : i + 6 ≤ Lx) (hL : Lx ≤ 3072) (hI : Inv μ) (kk : ∀ (μ2 : Nat → Nat → Int) (c2 s2 : Nat) (v5 v6 : Option MV), Jnv μ2 → c2 ≤ c + 1 → s2 ≤ s + 6 → Rn PT (lw_x Lx xs) kL_law 1304 [some (mS 0), some (mR 0), some (mR 118), some (mR 141), some (mI i), v5, v6] [] (mkh μ2 c2 s2) Q) : Rn PT (lw_x Lx xs) kL_law 372 [some (mS 0), some (mR 0), some (mR 118), some (mR 141), some (mI i), v5, v6] [] (mkh μ c s) Q := by
  have hP := hP0 ((xs (i + 1).toNat).toInt) ((xs (i + 2).toNat).toInt) ((xs (i + 3).toNat).toInt) ((xs (i + 4).toNat).toInt) (i32_of _) (i32_of _) (i32_of _) (i32_of _)
  obtain ⟨z, μ1, μ2, hx, hm, hI2⟩ := hP μ c s hI
  refine rn_aload_n (k' := 373) rfl rfl rfl ?_
  refine rn_aload_nS (k' := 374) rfl rfl rfl ?_
  refine rn_iload (k' := 375) rfl rfl rfl ?_
  refine rn_iconst (k' := 376) rfl rfl ?_
  refine rn_iadd (k' := 377) rfl rfl (by omega) ?_
  refine rn_sload (k' := 378) rfl rfl (by omega) (by omega) ?_
  refine rn_aload_nS (k' := 379) rfl rfl rfl ?_
  refine rn_iload (k' := 380) rfl rfl rfl ?_
  refine rn_iconst (k' := 381) rfl rfl ?_
  refine rn_iadd (k' := 382) rfl rfl (by omega) ?_
  refine rn_sload (k' := 383) rfl rfl (by omega) (by omega) ?_
  refine rn_aload_nS (k' := 384) rfl rfl rfl ?_
  refine rn_iload (k' := 385) rfl rfl rfl ?_
  refine rn_iconst (k' := 386) rfl rfl ?_
  refine rn_iadd (k' := 387) rfl rfl (by omega) ?_
  refine rn_sload (k' := 388) rfl rfl (by omega) (by omega) ?_
  refine rn_aload_nS (k' := 389) rfl rfl rfl ?_
  refine rn_iload (k' := 390) rfl rfl rfl ?_
  refine rn_iconst (k' := 391) rfl rfl ?_
  refine rn_iadd (k' := 392) rfl rfl (by omega) ?_
  refine rn_sload (k' := 393) rfl rfl (by omega) (by omega) ?_
  refine rn_callP (k' := 394) (y := 116) (vs := [mR 0, mI ((xs (i + 1).toNat).toInt), mI ((xs (i + 2).toNat).toInt), mI ((xs (i + 3).toNat).toInt), mI ((xs (i + 4).toNat).toInt)]) (S' := []) (v := some (mI (z))) (h' := mkh μ1 c s) rfl rfl rfl (hx) ?_
  show Rn PT (lw_x Lx xs) kL_law 394 [some (mS 0), some (mR 0), some (mR 118), some (mR 141), some (mI (i)), v5, v6] [mI (z)] (mkh μ1 c s) _
  refine rn_aload_n (k' := 395) rfl rfl rfl ?_
  refine rn_aload_nS (k' := 396) rfl rfl rfl ?_
  refine rn_iload (k' := 397) rfl rfl rfl ?_
  refine rn_iconst (k' := 398) rfl rfl ?_
  refine rn_iadd (k' := 399) rfl rfl (by omega) ?_
  refine rn_sload (k' := 400) rfl rfl (by omega) (by omega) ?_
  refine rn_aload_nS (k' := 401) rfl rfl rfl ?_
  refine rn_iload (k' := 402) rfl rfl rfl ?_
  refine rn_iconst (k' := 403) rfl rfl ?_
  refine rn_iadd (k' := 404) rfl rfl (by omega) ?_
  refine rn_sload (k' := 405) rfl rfl (by omega) (by omega) ?_
  refine rn_aload_nS (k' := 406) rfl rfl rfl ?_
  refine rn_iload (k' := 407) rfl rfl rfl ?_
  refine rn_iconst (k' := 408) rfl rfl ?_
  refine rn_iadd (k' := 409) rfl rfl (by omega) ?_
  refine rn_sload (k' := 410) rfl rfl (by omega) (by omega) ?_
  refine rn_aload_nS (k' := 411) rfl rfl rfl ?_
  refine rn_iload (k' := 412) rfl rfl rfl ?_
  refine rn_iconst (k' := 413) rfl rfl ?_
  refine rn_iadd (k' := 414) rfl rfl (by omega) ?_
  refine rn_sload (k' := 415) rfl rfl (by omega) (by omega) ?_
  refine rn_callP (k' := 416) (y := 220) (vs := [mR 118, mI ((xs (i + 1).toNat).toInt), mI ((xs (i + 2).toNat).toInt), mI ((xs (i + 3).toNat).toInt), mI ((xs (i + 4).toNat).toInt)]) (S' := [mI (z)]) (v := some (mI (z))) (h' := mkh μ2 c s) rfl rfl rfl (hm) ?_
  show Rn PT (lw_x Lx xs) kL_law 416 [some (mS 0), some (mR 0), some (mR 118), some (mR 141), some (mI (i)), v5, v6] [mI (z), mI (z)] (mkh μ2 c s) _
  refine rn_icmp_eq (k' := 417) rfl rfl (fun hc1 => ?_) (fun hc1 => ?_)
  · skip
    exact kk _ _ _ _ _ hI2 (by omega) (by omega)
  · exfalso; omega
set_option maxRecDepth 50000 in
set_option maxHeartbeats 4000000 in
/-- way -/
theorem lw_case14 {Inv Jnv : (Nat → Nat → Int) → Prop} {μ : Nat → Nat → Int} {c s Lx : Nat} {xs : Nat → Int32} {i : Int} {v5 v6 : Option MV} {Q : MR → Prop} (hP0 : ∀ (a1 : Int) , i32 a1 → PairJ Inv Jnv 117 263 [mI a1]) (h0 : 0 ≤ i) (h1 : i + 6 ≤ Lx) (hL : Lx ≤ 3072) (hI : Inv μ) (kk : ∀ (μ2 : Nat → Nat → Int) (c2 s2 : Nat) (v5 v6 : Option MV), Jnv μ2 → c2 ≤ c + 1 → s2 ≤ s + 6 → Rn PT (lw_x Lx xs) kL_law 1304 [some (mS 0), some (mR 0), some (mR 118), some (mR 141), some (mI i), v5, v6] [] (mkh μ2 c2 s2) Q) : Rn PT (lw_x Lx xs) kL_law 419 [some (mS 0), some (mR 0), some (mR 118), some (mR 141), some (mI i), v5, v6] [] (mkh μ c s) Q := by
  have hP := hP0 ((xs (i + 1).toNat).toInt) (i32_of _)
  obtain ⟨z, μ1, μ2, hx, hm, hI2⟩ := hP μ c s hI
  refine rn_aload_n (k' := 420) rfl rfl rfl ?_
  refine rn_aload_nS (k' := 421) rfl rfl rfl ?_
  refine rn_iload (k' := 422) rfl rfl rfl ?_
  refine rn_iconst (k' := 423) rfl rfl ?_
  refine rn_iadd (k' := 424) rfl rfl (by omega) ?_
  refine rn_sload (k' := 425) rfl rfl (by omega) (by omega) ?_
  refine rn_callP (k' := 426) (y := 117) (vs := [mR 0, mI ((xs (i + 1).toNat).toInt)]) (S' := []) (v := some (mI (z))) (h' := mkh μ1 c s) rfl rfl rfl (hx) ?_
  show Rn PT (lw_x Lx xs) kL_law 426 [some (mS 0), some (mR 0), some (mR 118), some (mR 141), some (mI (i)), v5, v6] [mI (z)] (mkh μ1 c s) _
  refine rn_aload_n (k' := 427) rfl rfl rfl ?_
  refine rn_aload_nS (k' := 428) rfl rfl rfl ?_
  refine rn_iload (k' := 429) rfl rfl rfl ?_
  refine rn_iconst (k' := 430) rfl rfl ?_
  refine rn_iadd (k' := 431) rfl rfl (by omega) ?_
  refine rn_sload (k' := 432) rfl rfl (by omega) (by omega) ?_
  refine rn_callP (k' := 433) (y := 263) (vs := [mR 118, mI ((xs (i + 1).toNat).toInt)]) (S' := [mI (z)]) (v := some (mI (z))) (h' := mkh μ2 c s) rfl rfl rfl (hm) ?_
  show Rn PT (lw_x Lx xs) kL_law 433 [some (mS 0), some (mR 0), some (mR 118), some (mR 141), some (mI (i)), v5, v6] [mI (z), mI (z)] (mkh μ2 c s) _
  refine rn_icmp_eq (k' := 434) rfl rfl (fun hc1 => ?_) (fun hc1 => ?_)
  · skip
    exact kk _ _ _ _ _ hI2 (by omega) (by omega)
  · exfalso; omega
set_option maxRecDepth 50000 in
set_option maxHeartbeats 4000000 in
/-- ladders -/
theorem lw_case15 {Inv Jnv : (Nat → Nat → Int) → Prop} {μ : Nat → Nat → Int} {c s Lx : Nat} {xs : Nat → Int32} {i : Int} {v5 v6 : Option MV} {Q : MR → Prop} (hP0 : ∀ (a1 : Int) (a2 : Int) (a3 : Int) (a4 : Int) , i32 a1 → i32 a2 → i32 a3 → i32 a4 → PairJ Inv Jnv 118 221 [mI a1, mI a2, mI a3, mI a4]) (h0 : 0 ≤ i) (h1 : i + 6 ≤ Lx) (hL : Lx ≤ 3072) (hI : Inv μ) (kk : ∀ (μ2 : Nat → Nat → Int) (c2 s2 : Nat) (v5 v6 : Option MV), Jnv μ2 → c2 ≤ c + 1 → s2 ≤ s + 6 → Rn PT (lw_x Lx xs) kL_law 1304 [some (mS 0), some (mR 0), some (mR 118), some (mR 141), some (mI i), v5, v6] [] (mkh μ2 c2 s2) Q) : Rn PT (lw_x Lx xs) kL_law 436 [some (mS 0), some (mR 0), some (mR 118), some (mR 141), some (mI i), v5, v6] [] (mkh μ c s) Q := by
  have hP := hP0 ((xs (i + 1).toNat).toInt) ((xs (i + 2).toNat).toInt) ((xs (i + 3).toNat).toInt) ((xs (i + 4).toNat).toInt) (i32_of _) (i32_of _) (i32_of _) (i32_of _)
  obtain ⟨z, μ1, μ2, hx, hm, hI2⟩ := hP μ c s hI
  refine rn_aload_n (k' := 437) rfl rfl rfl ?_
  refine rn_aload_nS (k' := 438) rfl rfl rfl ?_
  refine rn_iload (k' := 439) rfl rfl rfl ?_
  refine rn_iconst (k' := 440) rfl rfl ?_
  refine rn_iadd (k' := 441) rfl rfl (by omega) ?_
  refine rn_sload (k' := 442) rfl rfl (by omega) (by omega) ?_
  refine rn_aload_nS (k' := 443) rfl rfl rfl ?_
  refine rn_iload (k' := 444) rfl rfl rfl ?_
  refine rn_iconst (k' := 445) rfl rfl ?_
  refine rn_iadd (k' := 446) rfl rfl (by omega) ?_
  refine rn_sload (k' := 447) rfl rfl (by omega) (by omega) ?_
  refine rn_aload_nS (k' := 448) rfl rfl rfl ?_
  refine rn_iload (k' := 449) rfl rfl rfl ?_
  refine rn_iconst (k' := 450) rfl rfl ?_
  refine rn_iadd (k' := 451) rfl rfl (by omega) ?_
  refine rn_sload (k' := 452) rfl rfl (by omega) (by omega) ?_
  refine rn_aload_nS (k' := 453) rfl rfl rfl ?_
  refine rn_iload (k' := 454) rfl rfl rfl ?_
  refine rn_iconst (k' := 455) rfl rfl ?_
  refine rn_iadd (k' := 456) rfl rfl (by omega) ?_
  refine rn_sload (k' := 457) rfl rfl (by omega) (by omega) ?_
  refine rn_callP (k' := 458) (y := 118) (vs := [mR 0, mI ((xs (i + 1).toNat).toInt), mI ((xs (i + 2).toNat).toInt), mI ((xs (i + 3).toNat).toInt), mI ((xs (i + 4).toNat).toInt)]) (S' := []) (v := some (mI (z))) (h' := mkh μ1 c s) rfl rfl rfl (hx) ?_
  show Rn PT (lw_x Lx xs) kL_law 458 [some (mS 0), some (mR 0), some (mR 118), some (mR 141), some (mI (i)), v5, v6] [mI (z)] (mkh μ1 c s) _
  refine rn_aload_n (k' := 459) rfl rfl rfl ?_
  refine rn_aload_nS (k' := 460) rfl rfl rfl ?_
  refine rn_iload (k' := 461) rfl rfl rfl ?_
  refine rn_iconst (k' := 462) rfl rfl ?_
  refine rn_iadd (k' := 463) rfl rfl (by omega) ?_
  refine rn_sload (k' := 464) rfl rfl (by omega) (by omega) ?_
  refine rn_aload_nS (k' := 465) rfl rfl rfl ?_
  refine rn_iload (k' := 466) rfl rfl rfl ?_
  refine rn_iconst (k' := 467) rfl rfl ?_
  refine rn_iadd (k' := 468) rfl rfl (by omega) ?_
  refine rn_sload (k' := 469) rfl rfl (by omega) (by omega) ?_
  refine rn_aload_nS (k' := 470) rfl rfl rfl ?_
  refine rn_iload (k' := 471) rfl rfl rfl ?_
  refine rn_iconst (k' := 472) rfl rfl ?_
  refine rn_iadd (k' := 473) rfl rfl (by omega) ?_
  refine rn_sload (k' := 474) rfl rfl (by omega) (by omega) ?_
  refine rn_aload_nS (k' := 475) rfl rfl rfl ?_
  refine rn_iload (k' := 476) rfl rfl rfl ?_
  refine rn_iconst (k' := 477) rfl rfl ?_
  refine rn_iadd (k' := 478) rfl rfl (by omega) ?_
  refine rn_sload (k' := 479) rfl rfl (by omega) (by omega) ?_
  refine rn_callP (k' := 480) (y := 221) (vs := [mR 118, mI ((xs (i + 1).toNat).toInt), mI ((xs (i + 2).toNat).toInt), mI ((xs (i + 3).toNat).toInt), mI ((xs (i + 4).toNat).toInt)]) (S' := [mI (z)]) (v := some (mI (z))) (h' := mkh μ2 c s) rfl rfl rfl (hm) ?_
  show Rn PT (lw_x Lx xs) kL_law 480 [some (mS 0), some (mR 0), some (mR 118), some (mR 141), some (mI (i)), v5, v6] [mI (z), mI (z)] (mkh μ2 c s) _
  refine rn_icmp_eq (k' := 481) rfl rfl (fun hc1 => ?_) (fun hc1 => ?_)
  · skip
    exact kk _ _ _ _ _ hI2 (by omega) (by omega)
  · exfalso; omega
set_option maxRecDepth 50000 in
set_option maxHeartbeats 4000000 in
/-- write -/
theorem lw_case16 {Inv Jnv : (Nat → Nat → Int) → Prop} {μ : Nat → Nat → Int} {c s Lx : Nat} {xs : Nat → Int32} {i : Int} {v5 v6 : Option MV} {Q : MR → Prop} (hP0 : ∀ (a1 : Int) (a2 : Int) (a3 : Int) (a4 : Int) , i32 a1 → i32 a2 → i32 a3 → i32 a4 → PairJ Inv Jnv 119 223 [mI a1, mI a2, mI a3, mI a4]) (h0 : 0 ≤ i) (h1 : i + 6 ≤ Lx) (hL : Lx ≤ 3072) (hI : Inv μ) (kk : ∀ (μ2 : Nat → Nat → Int) (c2 s2 : Nat) (v5 v6 : Option MV), Jnv μ2 → c2 ≤ c + 1 → s2 ≤ s + 6 → Rn PT (lw_x Lx xs) kL_law 1304 [some (mS 0), some (mR 0), some (mR 118), some (mR 141), some (mI i), v5, v6] [] (mkh μ2 c2 s2) Q) : Rn PT (lw_x Lx xs) kL_law 483 [some (mS 0), some (mR 0), some (mR 118), some (mR 141), some (mI i), v5, v6] [] (mkh μ c s) Q := by
  have hP := hP0 ((xs (i + 1).toNat).toInt) ((xs (i + 2).toNat).toInt) ((xs (i + 3).toNat).toInt) ((xs (i + 4).toNat).toInt) (i32_of _) (i32_of _) (i32_of _) (i32_of _)
  obtain ⟨z, μ1, μ2, hx, hm, hI2⟩ := hP μ c s hI
  refine rn_aload_n (k' := 484) rfl rfl rfl ?_
  refine rn_aload_nS (k' := 485) rfl rfl rfl ?_
  refine rn_iload (k' := 486) rfl rfl rfl ?_
  refine rn_iconst (k' := 487) rfl rfl ?_
  refine rn_iadd (k' := 488) rfl rfl (by omega) ?_
  refine rn_sload (k' := 489) rfl rfl (by omega) (by omega) ?_
  refine rn_aload_nS (k' := 490) rfl rfl rfl ?_
  refine rn_iload (k' := 491) rfl rfl rfl ?_
  refine rn_iconst (k' := 492) rfl rfl ?_
  refine rn_iadd (k' := 493) rfl rfl (by omega) ?_
  refine rn_sload (k' := 494) rfl rfl (by omega) (by omega) ?_
  refine rn_aload_nS (k' := 495) rfl rfl rfl ?_
  refine rn_iload (k' := 496) rfl rfl rfl ?_
  refine rn_iconst (k' := 497) rfl rfl ?_
  refine rn_iadd (k' := 498) rfl rfl (by omega) ?_
  refine rn_sload (k' := 499) rfl rfl (by omega) (by omega) ?_
  refine rn_aload_nS (k' := 500) rfl rfl rfl ?_
  refine rn_iload (k' := 501) rfl rfl rfl ?_
  refine rn_iconst (k' := 502) rfl rfl ?_
  refine rn_iadd (k' := 503) rfl rfl (by omega) ?_
  refine rn_sload (k' := 504) rfl rfl (by omega) (by omega) ?_
  refine rn_callP (k' := 505) (y := 119) (vs := [mR 0, mI ((xs (i + 1).toNat).toInt), mI ((xs (i + 2).toNat).toInt), mI ((xs (i + 3).toNat).toInt), mI ((xs (i + 4).toNat).toInt)]) (S' := []) (v := some (mI (z))) (h' := mkh μ1 c s) rfl rfl rfl (hx) ?_
  show Rn PT (lw_x Lx xs) kL_law 505 [some (mS 0), some (mR 0), some (mR 118), some (mR 141), some (mI (i)), v5, v6] [mI (z)] (mkh μ1 c s) _
  refine rn_aload_n (k' := 506) rfl rfl rfl ?_
  refine rn_aload_nS (k' := 507) rfl rfl rfl ?_
  refine rn_iload (k' := 508) rfl rfl rfl ?_
  refine rn_iconst (k' := 509) rfl rfl ?_
  refine rn_iadd (k' := 510) rfl rfl (by omega) ?_
  refine rn_sload (k' := 511) rfl rfl (by omega) (by omega) ?_
  refine rn_aload_nS (k' := 512) rfl rfl rfl ?_
  refine rn_iload (k' := 513) rfl rfl rfl ?_
  refine rn_iconst (k' := 514) rfl rfl ?_
  refine rn_iadd (k' := 515) rfl rfl (by omega) ?_
  refine rn_sload (k' := 516) rfl rfl (by omega) (by omega) ?_
  refine rn_aload_nS (k' := 517) rfl rfl rfl ?_
  refine rn_iload (k' := 518) rfl rfl rfl ?_
  refine rn_iconst (k' := 519) rfl rfl ?_
  refine rn_iadd (k' := 520) rfl rfl (by omega) ?_
  refine rn_sload (k' := 521) rfl rfl (by omega) (by omega) ?_
  refine rn_aload_nS (k' := 522) rfl rfl rfl ?_
  refine rn_iload (k' := 523) rfl rfl rfl ?_
  refine rn_iconst (k' := 524) rfl rfl ?_
  refine rn_iadd (k' := 525) rfl rfl (by omega) ?_
  refine rn_sload (k' := 526) rfl rfl (by omega) (by omega) ?_
  refine rn_callP (k' := 527) (y := 223) (vs := [mR 118, mI ((xs (i + 1).toNat).toInt), mI ((xs (i + 2).toNat).toInt), mI ((xs (i + 3).toNat).toInt), mI ((xs (i + 4).toNat).toInt)]) (S' := [mI (z)]) (v := some (mI (z))) (h' := mkh μ2 c s) rfl rfl rfl (hm) ?_
  show Rn PT (lw_x Lx xs) kL_law 527 [some (mS 0), some (mR 0), some (mR 118), some (mR 141), some (mI (i)), v5, v6] [mI (z), mI (z)] (mkh μ2 c s) _
  refine rn_icmp_eq (k' := 528) rfl rfl (fun hc1 => ?_) (fun hc1 => ?_)
  · skip
    exact kk _ _ _ _ _ hI2 (by omega) (by omega)
  · exfalso; omega
set_option maxRecDepth 50000 in
set_option maxHeartbeats 4000000 in
/-- byteAt -/
theorem lw_case17 {Inv Jnv : (Nat → Nat → Int) → Prop} {μ : Nat → Nat → Int} {c s Lx : Nat} {xs : Nat → Int32} {i : Int} {v5 v6 : Option MV} {Q : MR → Prop} (hP0 : ∀ (a1 : Int) , i32 a1 → PairJ Inv Jnv 120 224 [mI a1]) (h0 : 0 ≤ i) (h1 : i + 6 ≤ Lx) (hL : Lx ≤ 3072) (hI : Inv μ) (kk : ∀ (μ2 : Nat → Nat → Int) (c2 s2 : Nat) (v5 v6 : Option MV), Jnv μ2 → c2 ≤ c + 1 → s2 ≤ s + 6 → Rn PT (lw_x Lx xs) kL_law 1304 [some (mS 0), some (mR 0), some (mR 118), some (mR 141), some (mI i), v5, v6] [] (mkh μ2 c2 s2) Q) : Rn PT (lw_x Lx xs) kL_law 530 [some (mS 0), some (mR 0), some (mR 118), some (mR 141), some (mI i), v5, v6] [] (mkh μ c s) Q := by
  have hP := hP0 ((xs (i + 1).toNat).toInt) (i32_of _)
  obtain ⟨z, μ1, μ2, hx, hm, hI2⟩ := hP μ c s hI
  refine rn_aload_n (k' := 531) rfl rfl rfl ?_
  refine rn_aload_nS (k' := 532) rfl rfl rfl ?_
  refine rn_iload (k' := 533) rfl rfl rfl ?_
  refine rn_iconst (k' := 534) rfl rfl ?_
  refine rn_iadd (k' := 535) rfl rfl (by omega) ?_
  refine rn_sload (k' := 536) rfl rfl (by omega) (by omega) ?_
  refine rn_callP (k' := 537) (y := 120) (vs := [mR 0, mI ((xs (i + 1).toNat).toInt)]) (S' := []) (v := some (mI (z))) (h' := mkh μ1 c s) rfl rfl rfl (hx) ?_
  show Rn PT (lw_x Lx xs) kL_law 537 [some (mS 0), some (mR 0), some (mR 118), some (mR 141), some (mI (i)), v5, v6] [mI (z)] (mkh μ1 c s) _
  refine rn_aload_n (k' := 538) rfl rfl rfl ?_
  refine rn_aload_nS (k' := 539) rfl rfl rfl ?_
  refine rn_iload (k' := 540) rfl rfl rfl ?_
  refine rn_iconst (k' := 541) rfl rfl ?_
  refine rn_iadd (k' := 542) rfl rfl (by omega) ?_
  refine rn_sload (k' := 543) rfl rfl (by omega) (by omega) ?_
  refine rn_callP (k' := 544) (y := 224) (vs := [mR 118, mI ((xs (i + 1).toNat).toInt)]) (S' := [mI (z)]) (v := some (mI (z))) (h' := mkh μ2 c s) rfl rfl rfl (hm) ?_
  show Rn PT (lw_x Lx xs) kL_law 544 [some (mS 0), some (mR 0), some (mR 118), some (mR 141), some (mI (i)), v5, v6] [mI (z), mI (z)] (mkh μ2 c s) _
  refine rn_icmp_eq (k' := 545) rfl rfl (fun hc1 => ?_) (fun hc1 => ?_)
  · skip
    exact kk _ _ _ _ _ hI2 (by omega) (by omega)
  · exfalso; omega
set_option maxRecDepth 50000 in
set_option maxHeartbeats 4000000 in
/-- passes -/
theorem lw_case18 {Inv Jnv : (Nat → Nat → Int) → Prop} {μ : Nat → Nat → Int} {c s Lx : Nat} {xs : Nat → Int32} {i : Int} {v5 v6 : Option MV} {Q : MR → Prop} (hP0 : ∀ (a1 : Int) (a2 : Int) (a3 : Int) (a4 : Int) , i32 a1 → i32 a2 → i32 a3 → i32 a4 → PairJ Inv Jnv 121 225 [mI a1, mI a2, mI a3, mI a4]) (h0 : 0 ≤ i) (h1 : i + 6 ≤ Lx) (hL : Lx ≤ 3072) (hI : Inv μ) (kk : ∀ (μ2 : Nat → Nat → Int) (c2 s2 : Nat) (v5 v6 : Option MV), Jnv μ2 → c2 ≤ c + 1 → s2 ≤ s + 6 → Rn PT (lw_x Lx xs) kL_law 1304 [some (mS 0), some (mR 0), some (mR 118), some (mR 141), some (mI i), v5, v6] [] (mkh μ2 c2 s2) Q) : Rn PT (lw_x Lx xs) kL_law 547 [some (mS 0), some (mR 0), some (mR 118), some (mR 141), some (mI i), v5, v6] [] (mkh μ c s) Q := by
  have hP := hP0 ((xs (i + 1).toNat).toInt) ((xs (i + 2).toNat).toInt) ((xs (i + 3).toNat).toInt) ((xs (i + 4).toNat).toInt) (i32_of _) (i32_of _) (i32_of _) (i32_of _)
  obtain ⟨z, μ1, μ2, hx, hm, hI2⟩ := hP μ c s hI
  refine rn_aload_n (k' := 548) rfl rfl rfl ?_
  refine rn_aload_nS (k' := 549) rfl rfl rfl ?_
  refine rn_iload (k' := 550) rfl rfl rfl ?_
  refine rn_iconst (k' := 551) rfl rfl ?_
  refine rn_iadd (k' := 552) rfl rfl (by omega) ?_
  refine rn_sload (k' := 553) rfl rfl (by omega) (by omega) ?_
  refine rn_aload_nS (k' := 554) rfl rfl rfl ?_
  refine rn_iload (k' := 555) rfl rfl rfl ?_
  refine rn_iconst (k' := 556) rfl rfl ?_
  refine rn_iadd (k' := 557) rfl rfl (by omega) ?_
  refine rn_sload (k' := 558) rfl rfl (by omega) (by omega) ?_
  refine rn_aload_nS (k' := 559) rfl rfl rfl ?_
  refine rn_iload (k' := 560) rfl rfl rfl ?_
  refine rn_iconst (k' := 561) rfl rfl ?_
  refine rn_iadd (k' := 562) rfl rfl (by omega) ?_
  refine rn_sload (k' := 563) rfl rfl (by omega) (by omega) ?_
  refine rn_aload_nS (k' := 564) rfl rfl rfl ?_
  refine rn_iload (k' := 565) rfl rfl rfl ?_
  refine rn_iconst (k' := 566) rfl rfl ?_
  refine rn_iadd (k' := 567) rfl rfl (by omega) ?_
  refine rn_sload (k' := 568) rfl rfl (by omega) (by omega) ?_
  refine rn_callP (k' := 569) (y := 121) (vs := [mR 0, mI ((xs (i + 1).toNat).toInt), mI ((xs (i + 2).toNat).toInt), mI ((xs (i + 3).toNat).toInt), mI ((xs (i + 4).toNat).toInt)]) (S' := []) (v := some (mI (z))) (h' := mkh μ1 c s) rfl rfl rfl (hx) ?_
  show Rn PT (lw_x Lx xs) kL_law 569 [some (mS 0), some (mR 0), some (mR 118), some (mR 141), some (mI (i)), v5, v6] [mI (z)] (mkh μ1 c s) _
  refine rn_aload_n (k' := 570) rfl rfl rfl ?_
  refine rn_aload_nS (k' := 571) rfl rfl rfl ?_
  refine rn_iload (k' := 572) rfl rfl rfl ?_
  refine rn_iconst (k' := 573) rfl rfl ?_
  refine rn_iadd (k' := 574) rfl rfl (by omega) ?_
  refine rn_sload (k' := 575) rfl rfl (by omega) (by omega) ?_
  refine rn_aload_nS (k' := 576) rfl rfl rfl ?_
  refine rn_iload (k' := 577) rfl rfl rfl ?_
  refine rn_iconst (k' := 578) rfl rfl ?_
  refine rn_iadd (k' := 579) rfl rfl (by omega) ?_
  refine rn_sload (k' := 580) rfl rfl (by omega) (by omega) ?_
  refine rn_aload_nS (k' := 581) rfl rfl rfl ?_
  refine rn_iload (k' := 582) rfl rfl rfl ?_
  refine rn_iconst (k' := 583) rfl rfl ?_
  refine rn_iadd (k' := 584) rfl rfl (by omega) ?_
  refine rn_sload (k' := 585) rfl rfl (by omega) (by omega) ?_
  refine rn_aload_nS (k' := 586) rfl rfl rfl ?_
  refine rn_iload (k' := 587) rfl rfl rfl ?_
  refine rn_iconst (k' := 588) rfl rfl ?_
  refine rn_iadd (k' := 589) rfl rfl (by omega) ?_
  refine rn_sload (k' := 590) rfl rfl (by omega) (by omega) ?_
  refine rn_callP (k' := 591) (y := 225) (vs := [mR 118, mI ((xs (i + 1).toNat).toInt), mI ((xs (i + 2).toNat).toInt), mI ((xs (i + 3).toNat).toInt), mI ((xs (i + 4).toNat).toInt)]) (S' := [mI (z)]) (v := some (mI (z))) (h' := mkh μ2 c s) rfl rfl rfl (hm) ?_
  show Rn PT (lw_x Lx xs) kL_law 591 [some (mS 0), some (mR 0), some (mR 118), some (mR 141), some (mI (i)), v5, v6] [mI (z), mI (z)] (mkh μ2 c s) _
  refine rn_icmp_eq (k' := 592) rfl rfl (fun hc1 => ?_) (fun hc1 => ?_)
  · skip
    exact kk _ _ _ _ _ hI2 (by omega) (by omega)
  · exfalso; omega
set_option maxRecDepth 50000 in
set_option maxHeartbeats 4000000 in
/-- reach -/
theorem lw_case19 {Inv Jnv : (Nat → Nat → Int) → Prop} {μ : Nat → Nat → Int} {c s Lx : Nat} {xs : Nat → Int32} {i : Int} {v5 v6 : Option MV} {Q : MR → Prop} (hP0 : ∀ (a1 : Int) (a2 : Int) (a3 : Int) , i32 a1 → i32 a2 → i32 a3 → PairJ Inv Jnv 122 227 [mI a1, mI a2, mI a3]) (h0 : 0 ≤ i) (h1 : i + 6 ≤ Lx) (hL : Lx ≤ 3072) (hI : Inv μ) (kk : ∀ (μ2 : Nat → Nat → Int) (c2 s2 : Nat) (v5 v6 : Option MV), Jnv μ2 → c2 ≤ c + 1 → s2 ≤ s + 6 → Rn PT (lw_x Lx xs) kL_law 1304 [some (mS 0), some (mR 0), some (mR 118), some (mR 141), some (mI i), v5, v6] [] (mkh μ2 c2 s2) Q) : Rn PT (lw_x Lx xs) kL_law 594 [some (mS 0), some (mR 0), some (mR 118), some (mR 141), some (mI i), v5, v6] [] (mkh μ c s) Q := by
  have hP := hP0 ((xs (i + 1).toNat).toInt) ((xs (i + 2).toNat).toInt) ((xs (i + 3).toNat).toInt) (i32_of _) (i32_of _) (i32_of _)
  obtain ⟨z, μ1, μ2, hx, hm, hI2⟩ := hP μ c s hI
  refine rn_aload_n (k' := 595) rfl rfl rfl ?_
  refine rn_aload_nS (k' := 596) rfl rfl rfl ?_
  refine rn_iload (k' := 597) rfl rfl rfl ?_
  refine rn_iconst (k' := 598) rfl rfl ?_
  refine rn_iadd (k' := 599) rfl rfl (by omega) ?_
  refine rn_sload (k' := 600) rfl rfl (by omega) (by omega) ?_
  refine rn_aload_nS (k' := 601) rfl rfl rfl ?_
  refine rn_iload (k' := 602) rfl rfl rfl ?_
  refine rn_iconst (k' := 603) rfl rfl ?_
  refine rn_iadd (k' := 604) rfl rfl (by omega) ?_
  refine rn_sload (k' := 605) rfl rfl (by omega) (by omega) ?_
  refine rn_aload_nS (k' := 606) rfl rfl rfl ?_
  refine rn_iload (k' := 607) rfl rfl rfl ?_
  refine rn_iconst (k' := 608) rfl rfl ?_
  refine rn_iadd (k' := 609) rfl rfl (by omega) ?_
  refine rn_sload (k' := 610) rfl rfl (by omega) (by omega) ?_
  refine rn_callP (k' := 611) (y := 122) (vs := [mR 0, mI ((xs (i + 1).toNat).toInt), mI ((xs (i + 2).toNat).toInt), mI ((xs (i + 3).toNat).toInt)]) (S' := []) (v := some (mI (z))) (h' := mkh μ1 c s) rfl rfl rfl (hx) ?_
  show Rn PT (lw_x Lx xs) kL_law 611 [some (mS 0), some (mR 0), some (mR 118), some (mR 141), some (mI (i)), v5, v6] [mI (z)] (mkh μ1 c s) _
  refine rn_aload_n (k' := 612) rfl rfl rfl ?_
  refine rn_aload_nS (k' := 613) rfl rfl rfl ?_
  refine rn_iload (k' := 614) rfl rfl rfl ?_
  refine rn_iconst (k' := 615) rfl rfl ?_
  refine rn_iadd (k' := 616) rfl rfl (by omega) ?_
  refine rn_sload (k' := 617) rfl rfl (by omega) (by omega) ?_
  refine rn_aload_nS (k' := 618) rfl rfl rfl ?_
  refine rn_iload (k' := 619) rfl rfl rfl ?_
  refine rn_iconst (k' := 620) rfl rfl ?_
  refine rn_iadd (k' := 621) rfl rfl (by omega) ?_
  refine rn_sload (k' := 622) rfl rfl (by omega) (by omega) ?_
  refine rn_aload_nS (k' := 623) rfl rfl rfl ?_
  refine rn_iload (k' := 624) rfl rfl rfl ?_
  refine rn_iconst (k' := 625) rfl rfl ?_
  refine rn_iadd (k' := 626) rfl rfl (by omega) ?_
  refine rn_sload (k' := 627) rfl rfl (by omega) (by omega) ?_
  refine rn_callP (k' := 628) (y := 227) (vs := [mR 118, mI ((xs (i + 1).toNat).toInt), mI ((xs (i + 2).toNat).toInt), mI ((xs (i + 3).toNat).toInt)]) (S' := [mI (z)]) (v := some (mI (z))) (h' := mkh μ2 c s) rfl rfl rfl (hm) ?_
  show Rn PT (lw_x Lx xs) kL_law 628 [some (mS 0), some (mR 0), some (mR 118), some (mR 141), some (mI (i)), v5, v6] [mI (z), mI (z)] (mkh μ2 c s) _
  refine rn_icmp_eq (k' := 629) rfl rfl (fun hc1 => ?_) (fun hc1 => ?_)
  · skip
    exact kk _ _ _ _ _ hI2 (by omega) (by omega)
  · exfalso; omega
set_option maxRecDepth 50000 in
set_option maxHeartbeats 4000000 in
/-- sees -/
theorem lw_case20 {Inv Jnv : (Nat → Nat → Int) → Prop} {μ : Nat → Nat → Int} {c s Lx : Nat} {xs : Nat → Int32} {i : Int} {v5 v6 : Option MV} {Q : MR → Prop} (hP0 : ∀ (a1 : Int) , i32 a1 → PairJ Inv Jnv 130 230 [mI a1]) (h0 : 0 ≤ i) (h1 : i + 6 ≤ Lx) (hL : Lx ≤ 3072) (hI : Inv μ) (kk : ∀ (μ2 : Nat → Nat → Int) (c2 s2 : Nat) (v5 v6 : Option MV), Jnv μ2 → c2 ≤ c + 1 → s2 ≤ s + 6 → Rn PT (lw_x Lx xs) kL_law 1304 [some (mS 0), some (mR 0), some (mR 118), some (mR 141), some (mI i), v5, v6] [] (mkh μ2 c2 s2) Q) : Rn PT (lw_x Lx xs) kL_law 631 [some (mS 0), some (mR 0), some (mR 118), some (mR 141), some (mI i), v5, v6] [] (mkh μ c s) Q := by
  have hP := hP0 ((xs (i + 1).toNat).toInt) (i32_of _)
  obtain ⟨z, μ1, μ2, hx, hm, hI2⟩ := hP μ c s hI
  refine rn_aload_n (k' := 632) rfl rfl rfl ?_
  refine rn_aload_nS (k' := 633) rfl rfl rfl ?_
  refine rn_iload (k' := 634) rfl rfl rfl ?_
  refine rn_iconst (k' := 635) rfl rfl ?_
  refine rn_iadd (k' := 636) rfl rfl (by omega) ?_
  refine rn_sload (k' := 637) rfl rfl (by omega) (by omega) ?_
  refine rn_callP (k' := 638) (y := 130) (vs := [mR 0, mI ((xs (i + 1).toNat).toInt)]) (S' := []) (v := some (mI (z))) (h' := mkh μ1 c s) rfl rfl rfl (hx) ?_
  show Rn PT (lw_x Lx xs) kL_law 638 [some (mS 0), some (mR 0), some (mR 118), some (mR 141), some (mI (i)), v5, v6] [mI (z)] (mkh μ1 c s) _
  refine rn_aload_n (k' := 639) rfl rfl rfl ?_
  refine rn_aload_nS (k' := 640) rfl rfl rfl ?_
  refine rn_iload (k' := 641) rfl rfl rfl ?_
  refine rn_iconst (k' := 642) rfl rfl ?_
  refine rn_iadd (k' := 643) rfl rfl (by omega) ?_
  refine rn_sload (k' := 644) rfl rfl (by omega) (by omega) ?_
  refine rn_callP (k' := 645) (y := 230) (vs := [mR 118, mI ((xs (i + 1).toNat).toInt)]) (S' := [mI (z)]) (v := some (mI (z))) (h' := mkh μ2 c s) rfl rfl rfl (hm) ?_
  show Rn PT (lw_x Lx xs) kL_law 645 [some (mS 0), some (mR 0), some (mR 118), some (mR 141), some (mI (i)), v5, v6] [mI (z), mI (z)] (mkh μ2 c s) _
  refine rn_icmp_eq (k' := 646) rfl rfl (fun hc1 => ?_) (fun hc1 => ?_)
  · skip
    exact kk _ _ _ _ _ hI2 (by omega) (by omega)
  · exfalso; omega
set_option maxRecDepth 50000 in
set_option maxHeartbeats 4000000 in
/-- saw -/
theorem lw_case21 {Inv Jnv : (Nat → Nat → Int) → Prop} {μ : Nat → Nat → Int} {c s Lx : Nat} {xs : Nat → Int32} {i : Int} {v5 v6 : Option MV} {Q : MR → Prop} (hP0 : ∀ (a1 : Int) (a2 : Int) , i32 a1 → i32 a2 → PairJ Inv Jnv 131 231 [mI a1, mI a2]) (h0 : 0 ≤ i) (h1 : i + 6 ≤ Lx) (hL : Lx ≤ 3072) (hI : Inv μ) (kk : ∀ (μ2 : Nat → Nat → Int) (c2 s2 : Nat) (v5 v6 : Option MV), Jnv μ2 → c2 ≤ c + 1 → s2 ≤ s + 6 → Rn PT (lw_x Lx xs) kL_law 1304 [some (mS 0), some (mR 0), some (mR 118), some (mR 141), some (mI i), v5, v6] [] (mkh μ2 c2 s2) Q) : Rn PT (lw_x Lx xs) kL_law 648 [some (mS 0), some (mR 0), some (mR 118), some (mR 141), some (mI i), v5, v6] [] (mkh μ c s) Q := by
  have hP := hP0 ((xs (i + 1).toNat).toInt) ((xs (i + 2).toNat).toInt) (i32_of _) (i32_of _)
  obtain ⟨z, μ1, μ2, hx, hm, hI2⟩ := hP μ c s hI
  refine rn_aload_n (k' := 649) rfl rfl rfl ?_
  refine rn_aload_nS (k' := 650) rfl rfl rfl ?_
  refine rn_iload (k' := 651) rfl rfl rfl ?_
  refine rn_iconst (k' := 652) rfl rfl ?_
  refine rn_iadd (k' := 653) rfl rfl (by omega) ?_
  refine rn_sload (k' := 654) rfl rfl (by omega) (by omega) ?_
  refine rn_aload_nS (k' := 655) rfl rfl rfl ?_
  refine rn_iload (k' := 656) rfl rfl rfl ?_
  refine rn_iconst (k' := 657) rfl rfl ?_
  refine rn_iadd (k' := 658) rfl rfl (by omega) ?_
  refine rn_sload (k' := 659) rfl rfl (by omega) (by omega) ?_
  refine rn_callP (k' := 660) (y := 131) (vs := [mR 0, mI ((xs (i + 1).toNat).toInt), mI ((xs (i + 2).toNat).toInt)]) (S' := []) (v := some (mI (z))) (h' := mkh μ1 c s) rfl rfl rfl (hx) ?_
  show Rn PT (lw_x Lx xs) kL_law 660 [some (mS 0), some (mR 0), some (mR 118), some (mR 141), some (mI (i)), v5, v6] [mI (z)] (mkh μ1 c s) _
  refine rn_aload_n (k' := 661) rfl rfl rfl ?_
  refine rn_aload_nS (k' := 662) rfl rfl rfl ?_
  refine rn_iload (k' := 663) rfl rfl rfl ?_
  refine rn_iconst (k' := 664) rfl rfl ?_
  refine rn_iadd (k' := 665) rfl rfl (by omega) ?_
  refine rn_sload (k' := 666) rfl rfl (by omega) (by omega) ?_
  refine rn_aload_nS (k' := 667) rfl rfl rfl ?_
  refine rn_iload (k' := 668) rfl rfl rfl ?_
  refine rn_iconst (k' := 669) rfl rfl ?_
  refine rn_iadd (k' := 670) rfl rfl (by omega) ?_
  refine rn_sload (k' := 671) rfl rfl (by omega) (by omega) ?_
  refine rn_callP (k' := 672) (y := 231) (vs := [mR 118, mI ((xs (i + 1).toNat).toInt), mI ((xs (i + 2).toNat).toInt)]) (S' := [mI (z)]) (v := some (mI (z))) (h' := mkh μ2 c s) rfl rfl rfl (hm) ?_
  show Rn PT (lw_x Lx xs) kL_law 672 [some (mS 0), some (mR 0), some (mR 118), some (mR 141), some (mI (i)), v5, v6] [mI (z), mI (z)] (mkh μ2 c s) _
  refine rn_icmp_eq (k' := 673) rfl rfl (fun hc1 => ?_) (fun hc1 => ?_)
  · skip
    exact kk _ _ _ _ _ hI2 (by omega) (by omega)
  · exfalso; omega
set_option maxRecDepth 50000 in
set_option maxHeartbeats 4000000 in
/-- handed -/
theorem lw_case22 {Inv Jnv : (Nat → Nat → Int) → Prop} {μ : Nat → Nat → Int} {c s Lx : Nat} {xs : Nat → Int32} {i : Int} {v5 v6 : Option MV} {Q : MR → Prop} (hP0 : ∀ (a1 : Int) (a2 : Int) , i32 a1 → i32 a2 → PairJ Inv Jnv 132 233 [mI a1, mI a2]) (h0 : 0 ≤ i) (h1 : i + 6 ≤ Lx) (hL : Lx ≤ 3072) (hI : Inv μ) (kk : ∀ (μ2 : Nat → Nat → Int) (c2 s2 : Nat) (v5 v6 : Option MV), Jnv μ2 → c2 ≤ c + 1 → s2 ≤ s + 6 → Rn PT (lw_x Lx xs) kL_law 1304 [some (mS 0), some (mR 0), some (mR 118), some (mR 141), some (mI i), v5, v6] [] (mkh μ2 c2 s2) Q) : Rn PT (lw_x Lx xs) kL_law 675 [some (mS 0), some (mR 0), some (mR 118), some (mR 141), some (mI i), v5, v6] [] (mkh μ c s) Q := by
  have hP := hP0 ((xs (i + 1).toNat).toInt) ((xs (i + 2).toNat).toInt) (i32_of _) (i32_of _)
  obtain ⟨z, μ1, μ2, hx, hm, hI2⟩ := hP μ c s hI
  refine rn_aload_n (k' := 676) rfl rfl rfl ?_
  refine rn_aload_nS (k' := 677) rfl rfl rfl ?_
  refine rn_iload (k' := 678) rfl rfl rfl ?_
  refine rn_iconst (k' := 679) rfl rfl ?_
  refine rn_iadd (k' := 680) rfl rfl (by omega) ?_
  refine rn_sload (k' := 681) rfl rfl (by omega) (by omega) ?_
  refine rn_aload_nS (k' := 682) rfl rfl rfl ?_
  refine rn_iload (k' := 683) rfl rfl rfl ?_
  refine rn_iconst (k' := 684) rfl rfl ?_
  refine rn_iadd (k' := 685) rfl rfl (by omega) ?_
  refine rn_sload (k' := 686) rfl rfl (by omega) (by omega) ?_
  refine rn_callP (k' := 687) (y := 132) (vs := [mR 0, mI ((xs (i + 1).toNat).toInt), mI ((xs (i + 2).toNat).toInt)]) (S' := []) (v := some (mI (z))) (h' := mkh μ1 c s) rfl rfl rfl (hx) ?_
  show Rn PT (lw_x Lx xs) kL_law 687 [some (mS 0), some (mR 0), some (mR 118), some (mR 141), some (mI (i)), v5, v6] [mI (z)] (mkh μ1 c s) _
  refine rn_aload_n (k' := 688) rfl rfl rfl ?_
  refine rn_aload_nS (k' := 689) rfl rfl rfl ?_
  refine rn_iload (k' := 690) rfl rfl rfl ?_
  refine rn_iconst (k' := 691) rfl rfl ?_
  refine rn_iadd (k' := 692) rfl rfl (by omega) ?_
  refine rn_sload (k' := 693) rfl rfl (by omega) (by omega) ?_
  refine rn_aload_nS (k' := 694) rfl rfl rfl ?_
  refine rn_iload (k' := 695) rfl rfl rfl ?_
  refine rn_iconst (k' := 696) rfl rfl ?_
  refine rn_iadd (k' := 697) rfl rfl (by omega) ?_
  refine rn_sload (k' := 698) rfl rfl (by omega) (by omega) ?_
  refine rn_callP (k' := 699) (y := 233) (vs := [mR 118, mI ((xs (i + 1).toNat).toInt), mI ((xs (i + 2).toNat).toInt)]) (S' := [mI (z)]) (v := some (mI (z))) (h' := mkh μ2 c s) rfl rfl rfl (hm) ?_
  show Rn PT (lw_x Lx xs) kL_law 699 [some (mS 0), some (mR 0), some (mR 118), some (mR 141), some (mI (i)), v5, v6] [mI (z), mI (z)] (mkh μ2 c s) _
  refine rn_icmp_eq (k' := 700) rfl rfl (fun hc1 => ?_) (fun hc1 => ?_)
  · skip
    exact kk _ _ _ _ _ hI2 (by omega) (by omega)
  · exfalso; omega
set_option maxRecDepth 50000 in
set_option maxHeartbeats 4000000 in
/-- fires -/
theorem lw_case23 {Inv Jnv : (Nat → Nat → Int) → Prop} {μ : Nat → Nat → Int} {c s Lx : Nat} {xs : Nat → Int32} {i : Int} {v5 v6 : Option MV} {Q : MR → Prop} (hP0 : PairJ Inv Jnv 133 234 []) (h0 : 0 ≤ i) (h1 : i + 6 ≤ Lx) (hL : Lx ≤ 3072) (hI : Inv μ) (kk : ∀ (μ2 : Nat → Nat → Int) (c2 s2 : Nat) (v5 v6 : Option MV), Jnv μ2 → c2 ≤ c + 1 → s2 ≤ s + 6 → Rn PT (lw_x Lx xs) kL_law 1304 [some (mS 0), some (mR 0), some (mR 118), some (mR 141), some (mI i), v5, v6] [] (mkh μ2 c2 s2) Q) : Rn PT (lw_x Lx xs) kL_law 702 [some (mS 0), some (mR 0), some (mR 118), some (mR 141), some (mI i), v5, v6] [] (mkh μ c s) Q := by
  have hP := hP0
  obtain ⟨z, μ1, μ2, hx, hm, hI2⟩ := hP μ c s hI
  refine rn_aload_n (k' := 703) rfl rfl rfl ?_
  refine rn_callP (k' := 704) (y := 133) (vs := [mR 0]) (S' := []) (v := some (mI (z))) (h' := mkh μ1 c s) rfl rfl rfl (hx) ?_
  show Rn PT (lw_x Lx xs) kL_law 704 [some (mS 0), some (mR 0), some (mR 118), some (mR 141), some (mI (i)), v5, v6] [mI (z)] (mkh μ1 c s) _
  refine rn_aload_n (k' := 705) rfl rfl rfl ?_
  refine rn_callP (k' := 706) (y := 234) (vs := [mR 118]) (S' := [mI (z)]) (v := some (mI (z))) (h' := mkh μ2 c s) rfl rfl rfl (hm) ?_
  show Rn PT (lw_x Lx xs) kL_law 706 [some (mS 0), some (mR 0), some (mR 118), some (mR 141), some (mI (i)), v5, v6] [mI (z), mI (z)] (mkh μ2 c s) _
  refine rn_icmp_eq (k' := 707) rfl rfl (fun hc1 => ?_) (fun hc1 => ?_)
  · skip
    exact kk _ _ _ _ _ hI2 (by omega) (by omega)
  · exfalso; omega
set_option maxRecDepth 50000 in
set_option maxHeartbeats 4000000 in
/-- wolf -/
theorem lw_case24 {Inv Jnv : (Nat → Nat → Int) → Prop} {μ : Nat → Nat → Int} {c s Lx : Nat} {xs : Nat → Int32} {i : Int} {v5 v6 : Option MV} {Q : MR → Prop} (hP0 : ∀ (a1 : Int) , i32 a1 → PairJ Inv Jnv 134 235 [mI a1]) (h0 : 0 ≤ i) (h1 : i + 6 ≤ Lx) (hL : Lx ≤ 3072) (hI : Inv μ) (kk : ∀ (μ2 : Nat → Nat → Int) (c2 s2 : Nat) (v5 v6 : Option MV), Jnv μ2 → c2 ≤ c + 1 → s2 ≤ s + 6 → Rn PT (lw_x Lx xs) kL_law 1304 [some (mS 0), some (mR 0), some (mR 118), some (mR 141), some (mI i), v5, v6] [] (mkh μ2 c2 s2) Q) : Rn PT (lw_x Lx xs) kL_law 709 [some (mS 0), some (mR 0), some (mR 118), some (mR 141), some (mI i), v5, v6] [] (mkh μ c s) Q := by
  have hP := hP0 ((xs (i + 1).toNat).toInt) (i32_of _)
  obtain ⟨z, μ1, μ2, hx, hm, hI2⟩ := hP μ c s hI
  refine rn_aload_n (k' := 710) rfl rfl rfl ?_
  refine rn_aload_nS (k' := 711) rfl rfl rfl ?_
  refine rn_iload (k' := 712) rfl rfl rfl ?_
  refine rn_iconst (k' := 713) rfl rfl ?_
  refine rn_iadd (k' := 714) rfl rfl (by omega) ?_
  refine rn_sload (k' := 715) rfl rfl (by omega) (by omega) ?_
  refine rn_callP (k' := 716) (y := 134) (vs := [mR 0, mI ((xs (i + 1).toNat).toInt)]) (S' := []) (v := some (mI (z))) (h' := mkh μ1 c s) rfl rfl rfl (hx) ?_
  show Rn PT (lw_x Lx xs) kL_law 716 [some (mS 0), some (mR 0), some (mR 118), some (mR 141), some (mI (i)), v5, v6] [mI (z)] (mkh μ1 c s) _
  refine rn_aload_n (k' := 717) rfl rfl rfl ?_
  refine rn_aload_nS (k' := 718) rfl rfl rfl ?_
  refine rn_iload (k' := 719) rfl rfl rfl ?_
  refine rn_iconst (k' := 720) rfl rfl ?_
  refine rn_iadd (k' := 721) rfl rfl (by omega) ?_
  refine rn_sload (k' := 722) rfl rfl (by omega) (by omega) ?_
  refine rn_callP (k' := 723) (y := 235) (vs := [mR 118, mI ((xs (i + 1).toNat).toInt)]) (S' := [mI (z)]) (v := some (mI (z))) (h' := mkh μ2 c s) rfl rfl rfl (hm) ?_
  show Rn PT (lw_x Lx xs) kL_law 723 [some (mS 0), some (mR 0), some (mR 118), some (mR 141), some (mI (i)), v5, v6] [mI (z), mI (z)] (mkh μ2 c s) _
  refine rn_icmp_eq (k' := 724) rfl rfl (fun hc1 => ?_) (fun hc1 => ?_)
  · skip
    exact kk _ _ _ _ _ hI2 (by omega) (by omega)
  · exfalso; omega
set_option maxRecDepth 50000 in
set_option maxHeartbeats 4000000 in
/-- go -/
theorem lw_case25 {Inv Jnv : (Nat → Nat → Int) → Prop} {μ : Nat → Nat → Int} {c s Lx : Nat} {xs : Nat → Int32} {i : Int} {v5 v6 : Option MV} {Q : MR → Prop} (hP0 : ∀ (a1 : Int) (a2 : Int) , i32 a1 → i32 a2 → PairJ Inv Jnv 141 241 [mI a1, mI a2]) (h0 : 0 ≤ i) (h1 : i + 6 ≤ Lx) (hL : Lx ≤ 3072) (hI : Inv μ) (kk : ∀ (μ2 : Nat → Nat → Int) (c2 s2 : Nat) (v5 v6 : Option MV), Jnv μ2 → c2 ≤ c + 1 → s2 ≤ s + 6 → Rn PT (lw_x Lx xs) kL_law 1304 [some (mS 0), some (mR 0), some (mR 118), some (mR 141), some (mI i), v5, v6] [] (mkh μ2 c2 s2) Q) : Rn PT (lw_x Lx xs) kL_law 726 [some (mS 0), some (mR 0), some (mR 118), some (mR 141), some (mI i), v5, v6] [] (mkh μ c s) Q := by
  have hP := hP0 ((xs (i + 1).toNat).toInt) ((xs (i + 2).toNat).toInt) (i32_of _) (i32_of _)
  obtain ⟨z, μ1, μ2, hx, hm, hI2⟩ := hP μ c s hI
  refine rn_aload_n (k' := 727) rfl rfl rfl ?_
  refine rn_aload_nS (k' := 728) rfl rfl rfl ?_
  refine rn_iload (k' := 729) rfl rfl rfl ?_
  refine rn_iconst (k' := 730) rfl rfl ?_
  refine rn_iadd (k' := 731) rfl rfl (by omega) ?_
  refine rn_sload (k' := 732) rfl rfl (by omega) (by omega) ?_
  refine rn_aload_nS (k' := 733) rfl rfl rfl ?_
  refine rn_iload (k' := 734) rfl rfl rfl ?_
  refine rn_iconst (k' := 735) rfl rfl ?_
  refine rn_iadd (k' := 736) rfl rfl (by omega) ?_
  refine rn_sload (k' := 737) rfl rfl (by omega) (by omega) ?_
  refine rn_callP (k' := 738) (y := 141) (vs := [mR 0, mI ((xs (i + 1).toNat).toInt), mI ((xs (i + 2).toNat).toInt)]) (S' := []) (v := some (mI (z))) (h' := mkh μ1 c s) rfl rfl rfl (hx) ?_
  show Rn PT (lw_x Lx xs) kL_law 738 [some (mS 0), some (mR 0), some (mR 118), some (mR 141), some (mI (i)), v5, v6] [mI (z)] (mkh μ1 c s) _
  refine rn_aload_n (k' := 739) rfl rfl rfl ?_
  refine rn_aload_nS (k' := 740) rfl rfl rfl ?_
  refine rn_iload (k' := 741) rfl rfl rfl ?_
  refine rn_iconst (k' := 742) rfl rfl ?_
  refine rn_iadd (k' := 743) rfl rfl (by omega) ?_
  refine rn_sload (k' := 744) rfl rfl (by omega) (by omega) ?_
  refine rn_aload_nS (k' := 745) rfl rfl rfl ?_
  refine rn_iload (k' := 746) rfl rfl rfl ?_
  refine rn_iconst (k' := 747) rfl rfl ?_
  refine rn_iadd (k' := 748) rfl rfl (by omega) ?_
  refine rn_sload (k' := 749) rfl rfl (by omega) (by omega) ?_
  refine rn_callP (k' := 750) (y := 241) (vs := [mR 118, mI ((xs (i + 1).toNat).toInt), mI ((xs (i + 2).toNat).toInt)]) (S' := [mI (z)]) (v := some (mI (z))) (h' := mkh μ2 c s) rfl rfl rfl (hm) ?_
  show Rn PT (lw_x Lx xs) kL_law 750 [some (mS 0), some (mR 0), some (mR 118), some (mR 141), some (mI (i)), v5, v6] [mI (z), mI (z)] (mkh μ2 c s) _
  refine rn_icmp_eq (k' := 751) rfl rfl (fun hc1 => ?_) (fun hc1 => ?_)
  · skip
    exact kk _ _ _ _ _ hI2 (by omega) (by omega)
  · exfalso; omega
set_option maxRecDepth 50000 in
set_option maxHeartbeats 4000000 in
/-- trade -/
theorem lw_case26 {Inv Jnv : (Nat → Nat → Int) → Prop} {μ : Nat → Nat → Int} {c s Lx : Nat} {xs : Nat → Int32} {i : Int} {v5 v6 : Option MV} {Q : MR → Prop} (hP0 : ∀ (a1 : Int) (a2 : Int) (a3 : Int) , i32 a1 → i32 a2 → i32 a3 → PairJ Inv Jnv 142 243 [mI a1, mI a2, mI a3]) (h0 : 0 ≤ i) (h1 : i + 6 ≤ Lx) (hL : Lx ≤ 3072) (hI : Inv μ) (kk : ∀ (μ2 : Nat → Nat → Int) (c2 s2 : Nat) (v5 v6 : Option MV), Jnv μ2 → c2 ≤ c + 1 → s2 ≤ s + 6 → Rn PT (lw_x Lx xs) kL_law 1304 [some (mS 0), some (mR 0), some (mR 118), some (mR 141), some (mI i), v5, v6] [] (mkh μ2 c2 s2) Q) : Rn PT (lw_x Lx xs) kL_law 753 [some (mS 0), some (mR 0), some (mR 118), some (mR 141), some (mI i), v5, v6] [] (mkh μ c s) Q := by
  have hP := hP0 ((xs (i + 1).toNat).toInt) ((xs (i + 2).toNat).toInt) ((xs (i + 3).toNat).toInt) (i32_of _) (i32_of _) (i32_of _)
  obtain ⟨z, μ1, μ2, hx, hm, hI2⟩ := hP μ c s hI
  refine rn_aload_n (k' := 754) rfl rfl rfl ?_
  refine rn_aload_nS (k' := 755) rfl rfl rfl ?_
  refine rn_iload (k' := 756) rfl rfl rfl ?_
  refine rn_iconst (k' := 757) rfl rfl ?_
  refine rn_iadd (k' := 758) rfl rfl (by omega) ?_
  refine rn_sload (k' := 759) rfl rfl (by omega) (by omega) ?_
  refine rn_aload_nS (k' := 760) rfl rfl rfl ?_
  refine rn_iload (k' := 761) rfl rfl rfl ?_
  refine rn_iconst (k' := 762) rfl rfl ?_
  refine rn_iadd (k' := 763) rfl rfl (by omega) ?_
  refine rn_sload (k' := 764) rfl rfl (by omega) (by omega) ?_
  refine rn_aload_nS (k' := 765) rfl rfl rfl ?_
  refine rn_iload (k' := 766) rfl rfl rfl ?_
  refine rn_iconst (k' := 767) rfl rfl ?_
  refine rn_iadd (k' := 768) rfl rfl (by omega) ?_
  refine rn_sload (k' := 769) rfl rfl (by omega) (by omega) ?_
  refine rn_callP (k' := 770) (y := 142) (vs := [mR 0, mI ((xs (i + 1).toNat).toInt), mI ((xs (i + 2).toNat).toInt), mI ((xs (i + 3).toNat).toInt)]) (S' := []) (v := some (mI (z))) (h' := mkh μ1 c s) rfl rfl rfl (hx) ?_
  show Rn PT (lw_x Lx xs) kL_law 770 [some (mS 0), some (mR 0), some (mR 118), some (mR 141), some (mI (i)), v5, v6] [mI (z)] (mkh μ1 c s) _
  refine rn_aload_n (k' := 771) rfl rfl rfl ?_
  refine rn_aload_nS (k' := 772) rfl rfl rfl ?_
  refine rn_iload (k' := 773) rfl rfl rfl ?_
  refine rn_iconst (k' := 774) rfl rfl ?_
  refine rn_iadd (k' := 775) rfl rfl (by omega) ?_
  refine rn_sload (k' := 776) rfl rfl (by omega) (by omega) ?_
  refine rn_aload_nS (k' := 777) rfl rfl rfl ?_
  refine rn_iload (k' := 778) rfl rfl rfl ?_
  refine rn_iconst (k' := 779) rfl rfl ?_
  refine rn_iadd (k' := 780) rfl rfl (by omega) ?_
  refine rn_sload (k' := 781) rfl rfl (by omega) (by omega) ?_
  refine rn_aload_nS (k' := 782) rfl rfl rfl ?_
  refine rn_iload (k' := 783) rfl rfl rfl ?_
  refine rn_iconst (k' := 784) rfl rfl ?_
  refine rn_iadd (k' := 785) rfl rfl (by omega) ?_
  refine rn_sload (k' := 786) rfl rfl (by omega) (by omega) ?_
  refine rn_callP (k' := 787) (y := 243) (vs := [mR 118, mI ((xs (i + 1).toNat).toInt), mI ((xs (i + 2).toNat).toInt), mI ((xs (i + 3).toNat).toInt)]) (S' := [mI (z)]) (v := some (mI (z))) (h' := mkh μ2 c s) rfl rfl rfl (hm) ?_
  show Rn PT (lw_x Lx xs) kL_law 787 [some (mS 0), some (mR 0), some (mR 118), some (mR 141), some (mI (i)), v5, v6] [mI (z), mI (z)] (mkh μ2 c s) _
  refine rn_icmp_eq (k' := 788) rfl rfl (fun hc1 => ?_) (fun hc1 => ?_)
  · skip
    exact kk _ _ _ _ _ hI2 (by omega) (by omega)
  · exfalso; omega
set_option maxRecDepth 50000 in
set_option maxHeartbeats 4000000 in
/-- day -/
theorem lw_case27 {Inv Jnv : (Nat → Nat → Int) → Prop} {μ : Nat → Nat → Int} {c s Lx : Nat} {xs : Nat → Int32} {i : Int} {v5 v6 : Option MV} {Q : MR → Prop} (hP0 : PairJ Inv Jnv 143 244 []) (h0 : 0 ≤ i) (h1 : i + 6 ≤ Lx) (hL : Lx ≤ 3072) (hI : Inv μ) (kk : ∀ (μ2 : Nat → Nat → Int) (c2 s2 : Nat) (v5 v6 : Option MV), Jnv μ2 → c2 ≤ c + 1 → s2 ≤ s + 6 → Rn PT (lw_x Lx xs) kL_law 1304 [some (mS 0), some (mR 0), some (mR 118), some (mR 141), some (mI i), v5, v6] [] (mkh μ2 c2 s2) Q) : Rn PT (lw_x Lx xs) kL_law 790 [some (mS 0), some (mR 0), some (mR 118), some (mR 141), some (mI i), v5, v6] [] (mkh μ c s) Q := by
  have hP := hP0
  obtain ⟨z, μ1, μ2, hx, hm, hI2⟩ := hP μ c s hI
  refine rn_aload_n (k' := 791) rfl rfl rfl ?_
  refine rn_callP (k' := 792) (y := 143) (vs := [mR 0]) (S' := []) (v := some (mI (z))) (h' := mkh μ1 c s) rfl rfl rfl (hx) ?_
  show Rn PT (lw_x Lx xs) kL_law 792 [some (mS 0), some (mR 0), some (mR 118), some (mR 141), some (mI (i)), v5, v6] [mI (z)] (mkh μ1 c s) _
  refine rn_aload_n (k' := 793) rfl rfl rfl ?_
  refine rn_callP (k' := 794) (y := 244) (vs := [mR 118]) (S' := [mI (z)]) (v := some (mI (z))) (h' := mkh μ2 c s) rfl rfl rfl (hm) ?_
  show Rn PT (lw_x Lx xs) kL_law 794 [some (mS 0), some (mR 0), some (mR 118), some (mR 141), some (mI (i)), v5, v6] [mI (z), mI (z)] (mkh μ2 c s) _
  refine rn_icmp_eq (k' := 795) rfl rfl (fun hc1 => ?_) (fun hc1 => ?_)
  · skip
    exact kk _ _ _ _ _ hI2 (by omega) (by omega)
  · exfalso; omega
set_option maxRecDepth 50000 in
set_option maxHeartbeats 4000000 in
/-- night -/
theorem lw_case28 {Inv Jnv : (Nat → Nat → Int) → Prop} {μ : Nat → Nat → Int} {c s Lx : Nat} {xs : Nat → Int32} {i : Int} {v5 v6 : Option MV} {Q : MR → Prop} (hP0 : ∀ (a1 : Int) , i32 a1 → PairJ Inv Jnv 144 245 [mI a1]) (h0 : 0 ≤ i) (h1 : i + 6 ≤ Lx) (hL : Lx ≤ 3072) (hI : Inv μ) (kk : ∀ (μ2 : Nat → Nat → Int) (c2 s2 : Nat) (v5 v6 : Option MV), Jnv μ2 → c2 ≤ c + 1 → s2 ≤ s + 6 → Rn PT (lw_x Lx xs) kL_law 1304 [some (mS 0), some (mR 0), some (mR 118), some (mR 141), some (mI i), v5, v6] [] (mkh μ2 c2 s2) Q) : Rn PT (lw_x Lx xs) kL_law 797 [some (mS 0), some (mR 0), some (mR 118), some (mR 141), some (mI i), v5, v6] [] (mkh μ c s) Q := by
  have hP := hP0 ((xs (i + 1).toNat).toInt) (i32_of _)
  obtain ⟨z, μ1, μ2, hx, hm, hI2⟩ := hP μ c s hI
  refine rn_aload_n (k' := 798) rfl rfl rfl ?_
  refine rn_aload_nS (k' := 799) rfl rfl rfl ?_
  refine rn_iload (k' := 800) rfl rfl rfl ?_
  refine rn_iconst (k' := 801) rfl rfl ?_
  refine rn_iadd (k' := 802) rfl rfl (by omega) ?_
  refine rn_sload (k' := 803) rfl rfl (by omega) (by omega) ?_
  refine rn_callP (k' := 804) (y := 144) (vs := [mR 0, mI ((xs (i + 1).toNat).toInt)]) (S' := []) (v := some (mI (z))) (h' := mkh μ1 c s) rfl rfl rfl (hx) ?_
  show Rn PT (lw_x Lx xs) kL_law 804 [some (mS 0), some (mR 0), some (mR 118), some (mR 141), some (mI (i)), v5, v6] [mI (z)] (mkh μ1 c s) _
  refine rn_aload_n (k' := 805) rfl rfl rfl ?_
  refine rn_aload_nS (k' := 806) rfl rfl rfl ?_
  refine rn_iload (k' := 807) rfl rfl rfl ?_
  refine rn_iconst (k' := 808) rfl rfl ?_
  refine rn_iadd (k' := 809) rfl rfl (by omega) ?_
  refine rn_sload (k' := 810) rfl rfl (by omega) (by omega) ?_
  refine rn_callP (k' := 811) (y := 245) (vs := [mR 118, mI ((xs (i + 1).toNat).toInt)]) (S' := [mI (z)]) (v := some (mI (z))) (h' := mkh μ2 c s) rfl rfl rfl (hm) ?_
  show Rn PT (lw_x Lx xs) kL_law 811 [some (mS 0), some (mR 0), some (mR 118), some (mR 141), some (mI (i)), v5, v6] [mI (z), mI (z)] (mkh μ2 c s) _
  refine rn_icmp_eq (k' := 812) rfl rfl (fun hc1 => ?_) (fun hc1 => ?_)
  · skip
    exact kk _ _ _ _ _ hI2 (by omega) (by omega)
  · exfalso; omega
set_option maxRecDepth 50000 in
set_option maxHeartbeats 4000000 in
/-- undo -/
theorem lw_case29 {Inv Jnv : (Nat → Nat → Int) → Prop} {μ : Nat → Nat → Int} {c s Lx : Nat} {xs : Nat → Int32} {i : Int} {v5 v6 : Option MV} {Q : MR → Prop} (hP0 : PairJ Inv Jnv 145 239 []) (h0 : 0 ≤ i) (h1 : i + 6 ≤ Lx) (hL : Lx ≤ 3072) (hI : Inv μ) (kk : ∀ (μ2 : Nat → Nat → Int) (c2 s2 : Nat) (v5 v6 : Option MV), Jnv μ2 → c2 ≤ c + 1 → s2 ≤ s + 6 → Rn PT (lw_x Lx xs) kL_law 1304 [some (mS 0), some (mR 0), some (mR 118), some (mR 141), some (mI i), v5, v6] [] (mkh μ2 c2 s2) Q) : Rn PT (lw_x Lx xs) kL_law 814 [some (mS 0), some (mR 0), some (mR 118), some (mR 141), some (mI i), v5, v6] [] (mkh μ c s) Q := by
  have hP := hP0
  obtain ⟨z, μ1, μ2, hx, hm, hI2⟩ := hP μ c s hI
  refine rn_aload_n (k' := 815) rfl rfl rfl ?_
  refine rn_callP (k' := 816) (y := 145) (vs := [mR 0]) (S' := []) (v := some (mI (z))) (h' := mkh μ1 c s) rfl rfl rfl (hx) ?_
  show Rn PT (lw_x Lx xs) kL_law 816 [some (mS 0), some (mR 0), some (mR 118), some (mR 141), some (mI (i)), v5, v6] [mI (z)] (mkh μ1 c s) _
  refine rn_aload_n (k' := 817) rfl rfl rfl ?_
  refine rn_callP (k' := 818) (y := 239) (vs := [mR 118]) (S' := [mI (z)]) (v := some (mI (z))) (h' := mkh μ2 c s) rfl rfl rfl (hm) ?_
  show Rn PT (lw_x Lx xs) kL_law 818 [some (mS 0), some (mR 0), some (mR 118), some (mR 141), some (mI (i)), v5, v6] [mI (z), mI (z)] (mkh μ2 c s) _
  refine rn_icmp_eq (k' := 819) rfl rfl (fun hc1 => ?_) (fun hc1 => ?_)
  · skip
    exact kk _ _ _ _ _ hI2 (by omega) (by omega)
  · exfalso; omega
set_option maxRecDepth 50000 in
set_option maxHeartbeats 4000000 in
/-- low -/
theorem lw_case30 {Inv Jnv : (Nat → Nat → Int) → Prop} {μ : Nat → Nat → Int} {c s Lx : Nat} {xs : Nat → Int32} {i : Int} {v5 v6 : Option MV} {Q : MR → Prop} (hP0 : ∀ (a1 : Int) (a2 : Int) , i32 a1 → i32 a2 → PairJ Inv Jnv 125 248 [mI a1, mI a2]) (h0 : 0 ≤ i) (h1 : i + 6 ≤ Lx) (hL : Lx ≤ 3072) (hI : Inv μ) (kk : ∀ (μ2 : Nat → Nat → Int) (c2 s2 : Nat) (v5 v6 : Option MV), Jnv μ2 → c2 ≤ c + 1 → s2 ≤ s + 6 → Rn PT (lw_x Lx xs) kL_law 1304 [some (mS 0), some (mR 0), some (mR 118), some (mR 141), some (mI i), v5, v6] [] (mkh μ2 c2 s2) Q) : Rn PT (lw_x Lx xs) kL_law 821 [some (mS 0), some (mR 0), some (mR 118), some (mR 141), some (mI i), v5, v6] [] (mkh μ c s) Q := by
  have hP := hP0 ((xs (i + 1).toNat).toInt) ((xs (i + 2).toNat).toInt) (i32_of _) (i32_of _)
  obtain ⟨z, μ1, μ2, hx, hm, hI2⟩ := hP μ c s hI
  refine rn_aload_n (k' := 822) rfl rfl rfl ?_
  refine rn_aload_nS (k' := 823) rfl rfl rfl ?_
  refine rn_iload (k' := 824) rfl rfl rfl ?_
  refine rn_iconst (k' := 825) rfl rfl ?_
  refine rn_iadd (k' := 826) rfl rfl (by omega) ?_
  refine rn_sload (k' := 827) rfl rfl (by omega) (by omega) ?_
  refine rn_aload_nS (k' := 828) rfl rfl rfl ?_
  refine rn_iload (k' := 829) rfl rfl rfl ?_
  refine rn_iconst (k' := 830) rfl rfl ?_
  refine rn_iadd (k' := 831) rfl rfl (by omega) ?_
  refine rn_sload (k' := 832) rfl rfl (by omega) (by omega) ?_
  refine rn_callP (k' := 833) (y := 125) (vs := [mR 0, mI ((xs (i + 1).toNat).toInt), mI ((xs (i + 2).toNat).toInt)]) (S' := []) (v := some (mI (z))) (h' := mkh μ1 c s) rfl rfl rfl (hx) ?_
  show Rn PT (lw_x Lx xs) kL_law 833 [some (mS 0), some (mR 0), some (mR 118), some (mR 141), some (mI (i)), v5, v6] [mI (z)] (mkh μ1 c s) _
  refine rn_aload_n (k' := 834) rfl rfl rfl ?_
  refine rn_aload_nS (k' := 835) rfl rfl rfl ?_
  refine rn_iload (k' := 836) rfl rfl rfl ?_
  refine rn_iconst (k' := 837) rfl rfl ?_
  refine rn_iadd (k' := 838) rfl rfl (by omega) ?_
  refine rn_sload (k' := 839) rfl rfl (by omega) (by omega) ?_
  refine rn_aload_nS (k' := 840) rfl rfl rfl ?_
  refine rn_iload (k' := 841) rfl rfl rfl ?_
  refine rn_iconst (k' := 842) rfl rfl ?_
  refine rn_iadd (k' := 843) rfl rfl (by omega) ?_
  refine rn_sload (k' := 844) rfl rfl (by omega) (by omega) ?_
  refine rn_callP (k' := 845) (y := 248) (vs := [mR 118, mI ((xs (i + 1).toNat).toInt), mI ((xs (i + 2).toNat).toInt)]) (S' := [mI (z)]) (v := some (mI (z))) (h' := mkh μ2 c s) rfl rfl rfl (hm) ?_
  show Rn PT (lw_x Lx xs) kL_law 845 [some (mS 0), some (mR 0), some (mR 118), some (mR 141), some (mI (i)), v5, v6] [mI (z), mI (z)] (mkh μ2 c s) _
  refine rn_icmp_eq (k' := 846) rfl rfl (fun hc1 => ?_) (fun hc1 => ?_)
  · skip
    exact kk _ _ _ _ _ hI2 (by omega) (by omega)
  · exfalso; omega
set_option maxRecDepth 50000 in
set_option maxHeartbeats 4000000 in
/-- high -/
theorem lw_case31 {Inv Jnv : (Nat → Nat → Int) → Prop} {μ : Nat → Nat → Int} {c s Lx : Nat} {xs : Nat → Int32} {i : Int} {v5 v6 : Option MV} {Q : MR → Prop} (hP0 : ∀ (a1 : Int) (a2 : Int) , i32 a1 → i32 a2 → PairJ Inv Jnv 126 249 [mI a1, mI a2]) (h0 : 0 ≤ i) (h1 : i + 6 ≤ Lx) (hL : Lx ≤ 3072) (hI : Inv μ) (kk : ∀ (μ2 : Nat → Nat → Int) (c2 s2 : Nat) (v5 v6 : Option MV), Jnv μ2 → c2 ≤ c + 1 → s2 ≤ s + 6 → Rn PT (lw_x Lx xs) kL_law 1304 [some (mS 0), some (mR 0), some (mR 118), some (mR 141), some (mI i), v5, v6] [] (mkh μ2 c2 s2) Q) : Rn PT (lw_x Lx xs) kL_law 848 [some (mS 0), some (mR 0), some (mR 118), some (mR 141), some (mI i), v5, v6] [] (mkh μ c s) Q := by
  have hP := hP0 ((xs (i + 1).toNat).toInt) ((xs (i + 2).toNat).toInt) (i32_of _) (i32_of _)
  obtain ⟨z, μ1, μ2, hx, hm, hI2⟩ := hP μ c s hI
  refine rn_aload_n (k' := 849) rfl rfl rfl ?_
  refine rn_aload_nS (k' := 850) rfl rfl rfl ?_
  refine rn_iload (k' := 851) rfl rfl rfl ?_
  refine rn_iconst (k' := 852) rfl rfl ?_
  refine rn_iadd (k' := 853) rfl rfl (by omega) ?_
  refine rn_sload (k' := 854) rfl rfl (by omega) (by omega) ?_
  refine rn_aload_nS (k' := 855) rfl rfl rfl ?_
  refine rn_iload (k' := 856) rfl rfl rfl ?_
  refine rn_iconst (k' := 857) rfl rfl ?_
  refine rn_iadd (k' := 858) rfl rfl (by omega) ?_
  refine rn_sload (k' := 859) rfl rfl (by omega) (by omega) ?_
  refine rn_callP (k' := 860) (y := 126) (vs := [mR 0, mI ((xs (i + 1).toNat).toInt), mI ((xs (i + 2).toNat).toInt)]) (S' := []) (v := some (mI (z))) (h' := mkh μ1 c s) rfl rfl rfl (hx) ?_
  show Rn PT (lw_x Lx xs) kL_law 860 [some (mS 0), some (mR 0), some (mR 118), some (mR 141), some (mI (i)), v5, v6] [mI (z)] (mkh μ1 c s) _
  refine rn_aload_n (k' := 861) rfl rfl rfl ?_
  refine rn_aload_nS (k' := 862) rfl rfl rfl ?_
  refine rn_iload (k' := 863) rfl rfl rfl ?_
  refine rn_iconst (k' := 864) rfl rfl ?_
  refine rn_iadd (k' := 865) rfl rfl (by omega) ?_
  refine rn_sload (k' := 866) rfl rfl (by omega) (by omega) ?_
  refine rn_aload_nS (k' := 867) rfl rfl rfl ?_
  refine rn_iload (k' := 868) rfl rfl rfl ?_
  refine rn_iconst (k' := 869) rfl rfl ?_
  refine rn_iadd (k' := 870) rfl rfl (by omega) ?_
  refine rn_sload (k' := 871) rfl rfl (by omega) (by omega) ?_
  refine rn_callP (k' := 872) (y := 249) (vs := [mR 118, mI ((xs (i + 1).toNat).toInt), mI ((xs (i + 2).toNat).toInt)]) (S' := [mI (z)]) (v := some (mI (z))) (h' := mkh μ2 c s) rfl rfl rfl (hm) ?_
  show Rn PT (lw_x Lx xs) kL_law 872 [some (mS 0), some (mR 0), some (mR 118), some (mR 141), some (mI (i)), v5, v6] [mI (z), mI (z)] (mkh μ2 c s) _
  refine rn_icmp_eq (k' := 873) rfl rfl (fun hc1 => ?_) (fun hc1 => ?_)
  · skip
    exact kk _ _ _ _ _ hI2 (by omega) (by omega)
  · exfalso; omega
set_option maxRecDepth 50000 in
set_option maxHeartbeats 4000000 in
/-- lost -/
theorem lw_case32 {Inv Jnv : (Nat → Nat → Int) → Prop} {μ : Nat → Nat → Int} {c s Lx : Nat} {xs : Nat → Int32} {i : Int} {v5 v6 : Option MV} {Q : MR → Prop} (hP0 : ∀ (a1 : Int) (a2 : Int) , i32 a1 → i32 a2 → PairJ Inv Jnv 135 246 [mI a1, mI a2]) (h0 : 0 ≤ i) (h1 : i + 6 ≤ Lx) (hL : Lx ≤ 3072) (hI : Inv μ) (kk : ∀ (μ2 : Nat → Nat → Int) (c2 s2 : Nat) (v5 v6 : Option MV), Jnv μ2 → c2 ≤ c + 1 → s2 ≤ s + 6 → Rn PT (lw_x Lx xs) kL_law 1304 [some (mS 0), some (mR 0), some (mR 118), some (mR 141), some (mI i), v5, v6] [] (mkh μ2 c2 s2) Q) : Rn PT (lw_x Lx xs) kL_law 875 [some (mS 0), some (mR 0), some (mR 118), some (mR 141), some (mI i), v5, v6] [] (mkh μ c s) Q := by
  have hP := hP0 ((xs (i + 1).toNat).toInt) ((xs (i + 2).toNat).toInt) (i32_of _) (i32_of _)
  obtain ⟨z, μ1, μ2, hx, hm, hI2⟩ := hP μ c s hI
  refine rn_aload_n (k' := 876) rfl rfl rfl ?_
  refine rn_aload_nS (k' := 877) rfl rfl rfl ?_
  refine rn_iload (k' := 878) rfl rfl rfl ?_
  refine rn_iconst (k' := 879) rfl rfl ?_
  refine rn_iadd (k' := 880) rfl rfl (by omega) ?_
  refine rn_sload (k' := 881) rfl rfl (by omega) (by omega) ?_
  refine rn_aload_nS (k' := 882) rfl rfl rfl ?_
  refine rn_iload (k' := 883) rfl rfl rfl ?_
  refine rn_iconst (k' := 884) rfl rfl ?_
  refine rn_iadd (k' := 885) rfl rfl (by omega) ?_
  refine rn_sload (k' := 886) rfl rfl (by omega) (by omega) ?_
  refine rn_callP (k' := 887) (y := 135) (vs := [mR 0, mI ((xs (i + 1).toNat).toInt), mI ((xs (i + 2).toNat).toInt)]) (S' := []) (v := some (mI (z))) (h' := mkh μ1 c s) rfl rfl rfl (hx) ?_
  show Rn PT (lw_x Lx xs) kL_law 887 [some (mS 0), some (mR 0), some (mR 118), some (mR 141), some (mI (i)), v5, v6] [mI (z)] (mkh μ1 c s) _
  refine rn_aload_n (k' := 888) rfl rfl rfl ?_
  refine rn_aload_nS (k' := 889) rfl rfl rfl ?_
  refine rn_iload (k' := 890) rfl rfl rfl ?_
  refine rn_iconst (k' := 891) rfl rfl ?_
  refine rn_iadd (k' := 892) rfl rfl (by omega) ?_
  refine rn_sload (k' := 893) rfl rfl (by omega) (by omega) ?_
  refine rn_aload_nS (k' := 894) rfl rfl rfl ?_
  refine rn_iload (k' := 895) rfl rfl rfl ?_
  refine rn_iconst (k' := 896) rfl rfl ?_
  refine rn_iadd (k' := 897) rfl rfl (by omega) ?_
  refine rn_sload (k' := 898) rfl rfl (by omega) (by omega) ?_
  refine rn_callP (k' := 899) (y := 246) (vs := [mR 118, mI ((xs (i + 1).toNat).toInt), mI ((xs (i + 2).toNat).toInt)]) (S' := [mI (z)]) (v := some (mI (z))) (h' := mkh μ2 c s) rfl rfl rfl (hm) ?_
  show Rn PT (lw_x Lx xs) kL_law 899 [some (mS 0), some (mR 0), some (mR 118), some (mR 141), some (mI (i)), v5, v6] [mI (z), mI (z)] (mkh μ2 c s) _
  refine rn_icmp_eq (k' := 900) rfl rfl (fun hc1 => ?_) (fun hc1 => ?_)
  · skip
    exact kk _ _ _ _ _ hI2 (by omega) (by omega)
  · exfalso; omega
set_option maxRecDepth 50000 in
set_option maxHeartbeats 4000000 in
/-- holes -/
theorem lw_case33 {Inv Jnv : (Nat → Nat → Int) → Prop} {μ : Nat → Nat → Int} {c s Lx : Nat} {xs : Nat → Int32} {i : Int} {v5 v6 : Option MV} {Q : MR → Prop} (hP0 : PairJ Inv Jnv 136 250 []) (h0 : 0 ≤ i) (h1 : i + 6 ≤ Lx) (hL : Lx ≤ 3072) (hI : Inv μ) (kk : ∀ (μ2 : Nat → Nat → Int) (c2 s2 : Nat) (v5 v6 : Option MV), Jnv μ2 → c2 ≤ c + 1 → s2 ≤ s + 6 → Rn PT (lw_x Lx xs) kL_law 1304 [some (mS 0), some (mR 0), some (mR 118), some (mR 141), some (mI i), v5, v6] [] (mkh μ2 c2 s2) Q) : Rn PT (lw_x Lx xs) kL_law 902 [some (mS 0), some (mR 0), some (mR 118), some (mR 141), some (mI i), v5, v6] [] (mkh μ c s) Q := by
  have hP := hP0
  obtain ⟨z, μ1, μ2, hx, hm, hI2⟩ := hP μ c s hI
  refine rn_aload_n (k' := 903) rfl rfl rfl ?_
  refine rn_callP (k' := 904) (y := 136) (vs := [mR 0]) (S' := []) (v := some (mI (z))) (h' := mkh μ1 c s) rfl rfl rfl (hx) ?_
  show Rn PT (lw_x Lx xs) kL_law 904 [some (mS 0), some (mR 0), some (mR 118), some (mR 141), some (mI (i)), v5, v6] [mI (z)] (mkh μ1 c s) _
  refine rn_aload_n (k' := 905) rfl rfl rfl ?_
  refine rn_callP (k' := 906) (y := 250) (vs := [mR 118]) (S' := [mI (z)]) (v := some (mI (z))) (h' := mkh μ2 c s) rfl rfl rfl (hm) ?_
  show Rn PT (lw_x Lx xs) kL_law 906 [some (mS 0), some (mR 0), some (mR 118), some (mR 141), some (mI (i)), v5, v6] [mI (z), mI (z)] (mkh μ2 c s) _
  refine rn_icmp_eq (k' := 907) rfl rfl (fun hc1 => ?_) (fun hc1 => ?_)
  · skip
    exact kk _ _ _ _ _ hI2 (by omega) (by omega)
  · exfalso; omega
set_option maxRecDepth 50000 in
set_option maxHeartbeats 4000000 in
/-- seats -/
theorem lw_case34 {Inv Jnv : (Nat → Nat → Int) → Prop} {μ : Nat → Nat → Int} {c s Lx : Nat} {xs : Nat → Int32} {i : Int} {v5 v6 : Option MV} {Q : MR → Prop} (hP0 : ∀ (a1 : Int) , i32 a1 → PairJ Inv Jnv 137 252 [mI a1]) (h0 : 0 ≤ i) (h1 : i + 6 ≤ Lx) (hL : Lx ≤ 3072) (hI : Inv μ) (kk : ∀ (μ2 : Nat → Nat → Int) (c2 s2 : Nat) (v5 v6 : Option MV), Jnv μ2 → c2 ≤ c + 1 → s2 ≤ s + 6 → Rn PT (lw_x Lx xs) kL_law 1304 [some (mS 0), some (mR 0), some (mR 118), some (mR 141), some (mI i), v5, v6] [] (mkh μ2 c2 s2) Q) : Rn PT (lw_x Lx xs) kL_law 909 [some (mS 0), some (mR 0), some (mR 118), some (mR 141), some (mI i), v5, v6] [] (mkh μ c s) Q := by
  have hP := hP0 ((xs (i + 1).toNat).toInt) (i32_of _)
  obtain ⟨z, μ1, μ2, hx, hm, hI2⟩ := hP μ c s hI
  refine rn_aload_n (k' := 910) rfl rfl rfl ?_
  refine rn_aload_nS (k' := 911) rfl rfl rfl ?_
  refine rn_iload (k' := 912) rfl rfl rfl ?_
  refine rn_iconst (k' := 913) rfl rfl ?_
  refine rn_iadd (k' := 914) rfl rfl (by omega) ?_
  refine rn_sload (k' := 915) rfl rfl (by omega) (by omega) ?_
  refine rn_callP (k' := 916) (y := 137) (vs := [mR 0, mI ((xs (i + 1).toNat).toInt)]) (S' := []) (v := some (mI (z))) (h' := mkh μ1 c s) rfl rfl rfl (hx) ?_
  show Rn PT (lw_x Lx xs) kL_law 916 [some (mS 0), some (mR 0), some (mR 118), some (mR 141), some (mI (i)), v5, v6] [mI (z)] (mkh μ1 c s) _
  refine rn_aload_n (k' := 917) rfl rfl rfl ?_
  refine rn_aload_nS (k' := 918) rfl rfl rfl ?_
  refine rn_iload (k' := 919) rfl rfl rfl ?_
  refine rn_iconst (k' := 920) rfl rfl ?_
  refine rn_iadd (k' := 921) rfl rfl (by omega) ?_
  refine rn_sload (k' := 922) rfl rfl (by omega) (by omega) ?_
  refine rn_callP (k' := 923) (y := 252) (vs := [mR 118, mI ((xs (i + 1).toNat).toInt)]) (S' := [mI (z)]) (v := some (mI (z))) (h' := mkh μ2 c s) rfl rfl rfl (hm) ?_
  show Rn PT (lw_x Lx xs) kL_law 923 [some (mS 0), some (mR 0), some (mR 118), some (mR 141), some (mI (i)), v5, v6] [mI (z), mI (z)] (mkh μ2 c s) _
  refine rn_icmp_eq (k' := 924) rfl rfl (fun hc1 => ?_) (fun hc1 => ?_)
  · skip
    exact kk _ _ _ _ _ hI2 (by omega) (by omega)
  · exfalso; omega
set_option maxRecDepth 50000 in
set_option maxHeartbeats 4000000 in
/-- seat -/
theorem lw_case35 {Inv Jnv : (Nat → Nat → Int) → Prop} {μ : Nat → Nat → Int} {c s Lx : Nat} {xs : Nat → Int32} {i : Int} {v5 v6 : Option MV} {Q : MR → Prop} (hP0 : ∀ (a1 : Int) , i32 a1 → PairJ Inv Jnv 138 253 [mI a1]) (h0 : 0 ≤ i) (h1 : i + 6 ≤ Lx) (hL : Lx ≤ 3072) (hI : Inv μ) (kk : ∀ (μ2 : Nat → Nat → Int) (c2 s2 : Nat) (v5 v6 : Option MV), Jnv μ2 → c2 ≤ c + 1 → s2 ≤ s + 6 → Rn PT (lw_x Lx xs) kL_law 1304 [some (mS 0), some (mR 0), some (mR 118), some (mR 141), some (mI i), v5, v6] [] (mkh μ2 c2 s2) Q) : Rn PT (lw_x Lx xs) kL_law 926 [some (mS 0), some (mR 0), some (mR 118), some (mR 141), some (mI i), v5, v6] [] (mkh μ c s) Q := by
  have hP := hP0 ((xs (i + 1).toNat).toInt) (i32_of _)
  obtain ⟨z, μ1, μ2, hx, hm, hI2⟩ := hP μ c s hI
  refine rn_aload_n (k' := 927) rfl rfl rfl ?_
  refine rn_aload_nS (k' := 928) rfl rfl rfl ?_
  refine rn_iload (k' := 929) rfl rfl rfl ?_
  refine rn_iconst (k' := 930) rfl rfl ?_
  refine rn_iadd (k' := 931) rfl rfl (by omega) ?_
  refine rn_sload (k' := 932) rfl rfl (by omega) (by omega) ?_
  refine rn_callP (k' := 933) (y := 138) (vs := [mR 0, mI ((xs (i + 1).toNat).toInt)]) (S' := []) (v := some (mI (z))) (h' := mkh μ1 c s) rfl rfl rfl (hx) ?_
  show Rn PT (lw_x Lx xs) kL_law 933 [some (mS 0), some (mR 0), some (mR 118), some (mR 141), some (mI (i)), v5, v6] [mI (z)] (mkh μ1 c s) _
  refine rn_aload_n (k' := 934) rfl rfl rfl ?_
  refine rn_aload_nS (k' := 935) rfl rfl rfl ?_
  refine rn_iload (k' := 936) rfl rfl rfl ?_
  refine rn_iconst (k' := 937) rfl rfl ?_
  refine rn_iadd (k' := 938) rfl rfl (by omega) ?_
  refine rn_sload (k' := 939) rfl rfl (by omega) (by omega) ?_
  refine rn_callP (k' := 940) (y := 253) (vs := [mR 118, mI ((xs (i + 1).toNat).toInt)]) (S' := [mI (z)]) (v := some (mI (z))) (h' := mkh μ2 c s) rfl rfl rfl (hm) ?_
  show Rn PT (lw_x Lx xs) kL_law 940 [some (mS 0), some (mR 0), some (mR 118), some (mR 141), some (mI (i)), v5, v6] [mI (z), mI (z)] (mkh μ2 c s) _
  refine rn_icmp_eq (k' := 941) rfl rfl (fun hc1 => ?_) (fun hc1 => ?_)
  · skip
    exact kk _ _ _ _ _ hI2 (by omega) (by omega)
  · exfalso; omega
set_option maxRecDepth 50000 in
set_option maxHeartbeats 4000000 in
/-- cut -/
theorem lw_case36 {Inv Jnv : (Nat → Nat → Int) → Prop} {μ : Nat → Nat → Int} {c s Lx : Nat} {xs : Nat → Int32} {i : Int} {v5 v6 : Option MV} {Q : MR → Prop} (hP0 : ∀ (a1 : Int) (a2 : Int) (a3 : Int) (a4 : Int) , i32 a1 → i32 a2 → i32 a3 → i32 a4 → PairJ Inv Jnv 127 254 [mI a1, mI a2, mI a3, mI a4]) (h0 : 0 ≤ i) (h1 : i + 6 ≤ Lx) (hL : Lx ≤ 3072) (hI : Inv μ) (kk : ∀ (μ2 : Nat → Nat → Int) (c2 s2 : Nat) (v5 v6 : Option MV), Jnv μ2 → c2 ≤ c + 1 → s2 ≤ s + 6 → Rn PT (lw_x Lx xs) kL_law 1304 [some (mS 0), some (mR 0), some (mR 118), some (mR 141), some (mI i), v5, v6] [] (mkh μ2 c2 s2) Q) : Rn PT (lw_x Lx xs) kL_law 943 [some (mS 0), some (mR 0), some (mR 118), some (mR 141), some (mI i), v5, v6] [] (mkh μ c s) Q := by
  have hP := hP0 ((xs (i + 1).toNat).toInt) ((xs (i + 2).toNat).toInt) ((xs (i + 3).toNat).toInt) ((xs (i + 4).toNat).toInt) (i32_of _) (i32_of _) (i32_of _) (i32_of _)
  obtain ⟨z, μ1, μ2, hx, hm, hI2⟩ := hP μ c s hI
  refine rn_aload_n (k' := 944) rfl rfl rfl ?_
  refine rn_aload_nS (k' := 945) rfl rfl rfl ?_
  refine rn_iload (k' := 946) rfl rfl rfl ?_
  refine rn_iconst (k' := 947) rfl rfl ?_
  refine rn_iadd (k' := 948) rfl rfl (by omega) ?_
  refine rn_sload (k' := 949) rfl rfl (by omega) (by omega) ?_
  refine rn_aload_nS (k' := 950) rfl rfl rfl ?_
  refine rn_iload (k' := 951) rfl rfl rfl ?_
  refine rn_iconst (k' := 952) rfl rfl ?_
  refine rn_iadd (k' := 953) rfl rfl (by omega) ?_
  refine rn_sload (k' := 954) rfl rfl (by omega) (by omega) ?_
  refine rn_aload_nS (k' := 955) rfl rfl rfl ?_
  refine rn_iload (k' := 956) rfl rfl rfl ?_
  refine rn_iconst (k' := 957) rfl rfl ?_
  refine rn_iadd (k' := 958) rfl rfl (by omega) ?_
  refine rn_sload (k' := 959) rfl rfl (by omega) (by omega) ?_
  refine rn_aload_nS (k' := 960) rfl rfl rfl ?_
  refine rn_iload (k' := 961) rfl rfl rfl ?_
  refine rn_iconst (k' := 962) rfl rfl ?_
  refine rn_iadd (k' := 963) rfl rfl (by omega) ?_
  refine rn_sload (k' := 964) rfl rfl (by omega) (by omega) ?_
  refine rn_callP (k' := 965) (y := 127) (vs := [mR 0, mI ((xs (i + 1).toNat).toInt), mI ((xs (i + 2).toNat).toInt), mI ((xs (i + 3).toNat).toInt), mI ((xs (i + 4).toNat).toInt)]) (S' := []) (v := some (mI (z))) (h' := mkh μ1 c s) rfl rfl rfl (hx) ?_
  show Rn PT (lw_x Lx xs) kL_law 965 [some (mS 0), some (mR 0), some (mR 118), some (mR 141), some (mI (i)), v5, v6] [mI (z)] (mkh μ1 c s) _
  refine rn_aload_n (k' := 966) rfl rfl rfl ?_
  refine rn_aload_nS (k' := 967) rfl rfl rfl ?_
  refine rn_iload (k' := 968) rfl rfl rfl ?_
  refine rn_iconst (k' := 969) rfl rfl ?_
  refine rn_iadd (k' := 970) rfl rfl (by omega) ?_
  refine rn_sload (k' := 971) rfl rfl (by omega) (by omega) ?_
  refine rn_aload_nS (k' := 972) rfl rfl rfl ?_
  refine rn_iload (k' := 973) rfl rfl rfl ?_
  refine rn_iconst (k' := 974) rfl rfl ?_
  refine rn_iadd (k' := 975) rfl rfl (by omega) ?_
  refine rn_sload (k' := 976) rfl rfl (by omega) (by omega) ?_
  refine rn_aload_nS (k' := 977) rfl rfl rfl ?_
  refine rn_iload (k' := 978) rfl rfl rfl ?_
  refine rn_iconst (k' := 979) rfl rfl ?_
  refine rn_iadd (k' := 980) rfl rfl (by omega) ?_
  refine rn_sload (k' := 981) rfl rfl (by omega) (by omega) ?_
  refine rn_aload_nS (k' := 982) rfl rfl rfl ?_
  refine rn_iload (k' := 983) rfl rfl rfl ?_
  refine rn_iconst (k' := 984) rfl rfl ?_
  refine rn_iadd (k' := 985) rfl rfl (by omega) ?_
  refine rn_sload (k' := 986) rfl rfl (by omega) (by omega) ?_
  refine rn_callP (k' := 987) (y := 254) (vs := [mR 118, mI ((xs (i + 1).toNat).toInt), mI ((xs (i + 2).toNat).toInt), mI ((xs (i + 3).toNat).toInt), mI ((xs (i + 4).toNat).toInt)]) (S' := [mI (z)]) (v := some (mI (z))) (h' := mkh μ2 c s) rfl rfl rfl (hm) ?_
  show Rn PT (lw_x Lx xs) kL_law 987 [some (mS 0), some (mR 0), some (mR 118), some (mR 141), some (mI (i)), v5, v6] [mI (z), mI (z)] (mkh μ2 c s) _
  refine rn_icmp_eq (k' := 988) rfl rfl (fun hc1 => ?_) (fun hc1 => ?_)
  · skip
    exact kk _ _ _ _ _ hI2 (by omega) (by omega)
  · exfalso; omega
set_option maxRecDepth 50000 in
set_option maxHeartbeats 4000000 in
/-- drowns -/
theorem lw_case37 {Inv Jnv : (Nat → Nat → Int) → Prop} {μ : Nat → Nat → Int} {c s Lx : Nat} {xs : Nat → Int32} {i : Int} {v5 v6 : Option MV} {Q : MR → Prop} (hP0 : ∀ (a1 : Int) (a2 : Int) (a3 : Int) (a4 : Int) , i32 a1 → i32 a2 → i32 a3 → i32 a4 → PairJ Inv Jnv 128 255 [mI a1, mI a2, mI a3, mI a4]) (h0 : 0 ≤ i) (h1 : i + 6 ≤ Lx) (hL : Lx ≤ 3072) (hI : Inv μ) (kk : ∀ (μ2 : Nat → Nat → Int) (c2 s2 : Nat) (v5 v6 : Option MV), Jnv μ2 → c2 ≤ c + 1 → s2 ≤ s + 6 → Rn PT (lw_x Lx xs) kL_law 1304 [some (mS 0), some (mR 0), some (mR 118), some (mR 141), some (mI i), v5, v6] [] (mkh μ2 c2 s2) Q) : Rn PT (lw_x Lx xs) kL_law 990 [some (mS 0), some (mR 0), some (mR 118), some (mR 141), some (mI i), v5, v6] [] (mkh μ c s) Q := by
  have hP := hP0 ((xs (i + 1).toNat).toInt) ((xs (i + 2).toNat).toInt) ((xs (i + 3).toNat).toInt) ((xs (i + 4).toNat).toInt) (i32_of _) (i32_of _) (i32_of _) (i32_of _)
  obtain ⟨z, μ1, μ2, hx, hm, hI2⟩ := hP μ c s hI
  refine rn_aload_n (k' := 991) rfl rfl rfl ?_
  refine rn_aload_nS (k' := 992) rfl rfl rfl ?_
  refine rn_iload (k' := 993) rfl rfl rfl ?_
  refine rn_iconst (k' := 994) rfl rfl ?_
  refine rn_iadd (k' := 995) rfl rfl (by omega) ?_
  refine rn_sload (k' := 996) rfl rfl (by omega) (by omega) ?_
  refine rn_aload_nS (k' := 997) rfl rfl rfl ?_
  refine rn_iload (k' := 998) rfl rfl rfl ?_
  refine rn_iconst (k' := 999) rfl rfl ?_
  refine rn_iadd (k' := 1000) rfl rfl (by omega) ?_
  refine rn_sload (k' := 1001) rfl rfl (by omega) (by omega) ?_
  refine rn_aload_nS (k' := 1002) rfl rfl rfl ?_
  refine rn_iload (k' := 1003) rfl rfl rfl ?_
  refine rn_iconst (k' := 1004) rfl rfl ?_
  refine rn_iadd (k' := 1005) rfl rfl (by omega) ?_
  refine rn_sload (k' := 1006) rfl rfl (by omega) (by omega) ?_
  refine rn_aload_nS (k' := 1007) rfl rfl rfl ?_
  refine rn_iload (k' := 1008) rfl rfl rfl ?_
  refine rn_iconst (k' := 1009) rfl rfl ?_
  refine rn_iadd (k' := 1010) rfl rfl (by omega) ?_
  refine rn_sload (k' := 1011) rfl rfl (by omega) (by omega) ?_
  refine rn_callP (k' := 1012) (y := 128) (vs := [mR 0, mI ((xs (i + 1).toNat).toInt), mI ((xs (i + 2).toNat).toInt), mI ((xs (i + 3).toNat).toInt), mI ((xs (i + 4).toNat).toInt)]) (S' := []) (v := some (mI (z))) (h' := mkh μ1 c s) rfl rfl rfl (hx) ?_
  show Rn PT (lw_x Lx xs) kL_law 1012 [some (mS 0), some (mR 0), some (mR 118), some (mR 141), some (mI (i)), v5, v6] [mI (z)] (mkh μ1 c s) _
  refine rn_aload_n (k' := 1013) rfl rfl rfl ?_
  refine rn_aload_nS (k' := 1014) rfl rfl rfl ?_
  refine rn_iload (k' := 1015) rfl rfl rfl ?_
  refine rn_iconst (k' := 1016) rfl rfl ?_
  refine rn_iadd (k' := 1017) rfl rfl (by omega) ?_
  refine rn_sload (k' := 1018) rfl rfl (by omega) (by omega) ?_
  refine rn_aload_nS (k' := 1019) rfl rfl rfl ?_
  refine rn_iload (k' := 1020) rfl rfl rfl ?_
  refine rn_iconst (k' := 1021) rfl rfl ?_
  refine rn_iadd (k' := 1022) rfl rfl (by omega) ?_
  refine rn_sload (k' := 1023) rfl rfl (by omega) (by omega) ?_
  refine rn_aload_nS (k' := 1024) rfl rfl rfl ?_
  refine rn_iload (k' := 1025) rfl rfl rfl ?_
  refine rn_iconst (k' := 1026) rfl rfl ?_
  refine rn_iadd (k' := 1027) rfl rfl (by omega) ?_
  refine rn_sload (k' := 1028) rfl rfl (by omega) (by omega) ?_
  refine rn_aload_nS (k' := 1029) rfl rfl rfl ?_
  refine rn_iload (k' := 1030) rfl rfl rfl ?_
  refine rn_iconst (k' := 1031) rfl rfl ?_
  refine rn_iadd (k' := 1032) rfl rfl (by omega) ?_
  refine rn_sload (k' := 1033) rfl rfl (by omega) (by omega) ?_
  refine rn_callP (k' := 1034) (y := 255) (vs := [mR 118, mI ((xs (i + 1).toNat).toInt), mI ((xs (i + 2).toNat).toInt), mI ((xs (i + 3).toNat).toInt), mI ((xs (i + 4).toNat).toInt)]) (S' := [mI (z)]) (v := some (mI (z))) (h' := mkh μ2 c s) rfl rfl rfl (hm) ?_
  show Rn PT (lw_x Lx xs) kL_law 1034 [some (mS 0), some (mR 0), some (mR 118), some (mR 141), some (mI (i)), v5, v6] [mI (z), mI (z)] (mkh μ2 c s) _
  refine rn_icmp_eq (k' := 1035) rfl rfl (fun hc1 => ?_) (fun hc1 => ?_)
  · skip
    exact kk _ _ _ _ _ hI2 (by omega) (by omega)
  · exfalso; omega
set_option maxRecDepth 50000 in
set_option maxHeartbeats 4000000 in
/-- dry -/
theorem lw_case38 {Inv Jnv : (Nat → Nat → Int) → Prop} {μ : Nat → Nat → Int} {c s Lx : Nat} {xs : Nat → Int32} {i : Int} {v5 v6 : Option MV} {Q : MR → Prop} (hP0 : ∀ (a1 : Int) (a2 : Int) (a3 : Int) , i32 a1 → i32 a2 → i32 a3 → PairJ Inv Jnv 129 256 [mI a1, mI a2, mI a3]) (h0 : 0 ≤ i) (h1 : i + 6 ≤ Lx) (hL : Lx ≤ 3072) (hI : Inv μ) (kk : ∀ (μ2 : Nat → Nat → Int) (c2 s2 : Nat) (v5 v6 : Option MV), Jnv μ2 → c2 ≤ c + 1 → s2 ≤ s + 6 → Rn PT (lw_x Lx xs) kL_law 1304 [some (mS 0), some (mR 0), some (mR 118), some (mR 141), some (mI i), v5, v6] [] (mkh μ2 c2 s2) Q) : Rn PT (lw_x Lx xs) kL_law 1037 [some (mS 0), some (mR 0), some (mR 118), some (mR 141), some (mI i), v5, v6] [] (mkh μ c s) Q := by
  have hP := hP0 ((xs (i + 1).toNat).toInt) ((xs (i + 2).toNat).toInt) ((xs (i + 3).toNat).toInt) (i32_of _) (i32_of _) (i32_of _)
  obtain ⟨z, μ1, μ2, hx, hm, hI2⟩ := hP μ c s hI
  refine rn_aload_n (k' := 1038) rfl rfl rfl ?_
  refine rn_aload_nS (k' := 1039) rfl rfl rfl ?_
  refine rn_iload (k' := 1040) rfl rfl rfl ?_
  refine rn_iconst (k' := 1041) rfl rfl ?_
  refine rn_iadd (k' := 1042) rfl rfl (by omega) ?_
  refine rn_sload (k' := 1043) rfl rfl (by omega) (by omega) ?_
  refine rn_aload_nS (k' := 1044) rfl rfl rfl ?_
  refine rn_iload (k' := 1045) rfl rfl rfl ?_
  refine rn_iconst (k' := 1046) rfl rfl ?_
  refine rn_iadd (k' := 1047) rfl rfl (by omega) ?_
  refine rn_sload (k' := 1048) rfl rfl (by omega) (by omega) ?_
  refine rn_aload_nS (k' := 1049) rfl rfl rfl ?_
  refine rn_iload (k' := 1050) rfl rfl rfl ?_
  refine rn_iconst (k' := 1051) rfl rfl ?_
  refine rn_iadd (k' := 1052) rfl rfl (by omega) ?_
  refine rn_sload (k' := 1053) rfl rfl (by omega) (by omega) ?_
  refine rn_callP (k' := 1054) (y := 129) (vs := [mR 0, mI ((xs (i + 1).toNat).toInt), mI ((xs (i + 2).toNat).toInt), mI ((xs (i + 3).toNat).toInt)]) (S' := []) (v := some (mI (z))) (h' := mkh μ1 c s) rfl rfl rfl (hx) ?_
  show Rn PT (lw_x Lx xs) kL_law 1054 [some (mS 0), some (mR 0), some (mR 118), some (mR 141), some (mI (i)), v5, v6] [mI (z)] (mkh μ1 c s) _
  refine rn_aload_n (k' := 1055) rfl rfl rfl ?_
  refine rn_aload_nS (k' := 1056) rfl rfl rfl ?_
  refine rn_iload (k' := 1057) rfl rfl rfl ?_
  refine rn_iconst (k' := 1058) rfl rfl ?_
  refine rn_iadd (k' := 1059) rfl rfl (by omega) ?_
  refine rn_sload (k' := 1060) rfl rfl (by omega) (by omega) ?_
  refine rn_aload_nS (k' := 1061) rfl rfl rfl ?_
  refine rn_iload (k' := 1062) rfl rfl rfl ?_
  refine rn_iconst (k' := 1063) rfl rfl ?_
  refine rn_iadd (k' := 1064) rfl rfl (by omega) ?_
  refine rn_sload (k' := 1065) rfl rfl (by omega) (by omega) ?_
  refine rn_aload_nS (k' := 1066) rfl rfl rfl ?_
  refine rn_iload (k' := 1067) rfl rfl rfl ?_
  refine rn_iconst (k' := 1068) rfl rfl ?_
  refine rn_iadd (k' := 1069) rfl rfl (by omega) ?_
  refine rn_sload (k' := 1070) rfl rfl (by omega) (by omega) ?_
  refine rn_callP (k' := 1071) (y := 256) (vs := [mR 118, mI ((xs (i + 1).toNat).toInt), mI ((xs (i + 2).toNat).toInt), mI ((xs (i + 3).toNat).toInt)]) (S' := [mI (z)]) (v := some (mI (z))) (h' := mkh μ2 c s) rfl rfl rfl (hm) ?_
  show Rn PT (lw_x Lx xs) kL_law 1071 [some (mS 0), some (mR 0), some (mR 118), some (mR 141), some (mI (i)), v5, v6] [mI (z), mI (z)] (mkh μ2 c s) _
  refine rn_icmp_eq (k' := 1072) rfl rfl (fun hc1 => ?_) (fun hc1 => ?_)
  · skip
    exact kk _ _ _ _ _ hI2 (by omega) (by omega)
  · exfalso; omega
set_option maxRecDepth 50000 in
set_option maxHeartbeats 4000000 in
/-- widest -/
theorem lw_case39 {Inv Jnv : (Nat → Nat → Int) → Prop} {μ : Nat → Nat → Int} {c s Lx : Nat} {xs : Nat → Int32} {i : Int} {v5 v6 : Option MV} {Q : MR → Prop} (hP0 : PairJ Inv Jnv 123 257 []) (h0 : 0 ≤ i) (h1 : i + 6 ≤ Lx) (hL : Lx ≤ 3072) (hI : Inv μ) (kk : ∀ (μ2 : Nat → Nat → Int) (c2 s2 : Nat) (v5 v6 : Option MV), Jnv μ2 → c2 ≤ c + 1 → s2 ≤ s + 6 → Rn PT (lw_x Lx xs) kL_law 1304 [some (mS 0), some (mR 0), some (mR 118), some (mR 141), some (mI i), v5, v6] [] (mkh μ2 c2 s2) Q) : Rn PT (lw_x Lx xs) kL_law 1074 [some (mS 0), some (mR 0), some (mR 118), some (mR 141), some (mI i), v5, v6] [] (mkh μ c s) Q := by
  have hP := hP0
  obtain ⟨z, μ1, μ2, hx, hm, hI2⟩ := hP μ c s hI
  refine rn_aload_n (k' := 1075) rfl rfl rfl ?_
  refine rn_callP (k' := 1076) (y := 123) (vs := [mR 0]) (S' := []) (v := some (mI (z))) (h' := mkh μ1 c s) rfl rfl rfl (hx) ?_
  show Rn PT (lw_x Lx xs) kL_law 1076 [some (mS 0), some (mR 0), some (mR 118), some (mR 141), some (mI (i)), v5, v6] [mI (z)] (mkh μ1 c s) _
  refine rn_aload_n (k' := 1077) rfl rfl rfl ?_
  refine rn_callP (k' := 1078) (y := 257) (vs := [mR 118]) (S' := [mI (z)]) (v := some (mI (z))) (h' := mkh μ2 c s) rfl rfl rfl (hm) ?_
  show Rn PT (lw_x Lx xs) kL_law 1078 [some (mS 0), some (mR 0), some (mR 118), some (mR 141), some (mI (i)), v5, v6] [mI (z), mI (z)] (mkh μ2 c s) _
  refine rn_icmp_eq (k' := 1079) rfl rfl (fun hc1 => ?_) (fun hc1 => ?_)
  · skip
    exact kk _ _ _ _ _ hI2 (by omega) (by omega)
  · exfalso; omega
set_option maxRecDepth 50000 in
set_option maxHeartbeats 4000000 in
/-- who -/
theorem lw_case40 {Inv Jnv : (Nat → Nat → Int) → Prop} {μ : Nat → Nat → Int} {c s Lx : Nat} {xs : Nat → Int32} {i : Int} {v5 v6 : Option MV} {Q : MR → Prop} (hP0 : ∀ (a1 : Int) (a2 : Int) , i32 a1 → i32 a2 → PairJ Inv Jnv 124 258 [mI a1, mI a2]) (h0 : 0 ≤ i) (h1 : i + 6 ≤ Lx) (hL : Lx ≤ 3072) (hI : Inv μ) (kk : ∀ (μ2 : Nat → Nat → Int) (c2 s2 : Nat) (v5 v6 : Option MV), Jnv μ2 → c2 ≤ c + 1 → s2 ≤ s + 6 → Rn PT (lw_x Lx xs) kL_law 1304 [some (mS 0), some (mR 0), some (mR 118), some (mR 141), some (mI i), v5, v6] [] (mkh μ2 c2 s2) Q) : Rn PT (lw_x Lx xs) kL_law 1081 [some (mS 0), some (mR 0), some (mR 118), some (mR 141), some (mI i), v5, v6] [] (mkh μ c s) Q := by
  have hP := hP0 ((xs (i + 1).toNat).toInt) ((xs (i + 2).toNat).toInt) (i32_of _) (i32_of _)
  obtain ⟨z, μ1, μ2, hx, hm, hI2⟩ := hP μ c s hI
  refine rn_aload_n (k' := 1082) rfl rfl rfl ?_
  refine rn_aload_nS (k' := 1083) rfl rfl rfl ?_
  refine rn_iload (k' := 1084) rfl rfl rfl ?_
  refine rn_iconst (k' := 1085) rfl rfl ?_
  refine rn_iadd (k' := 1086) rfl rfl (by omega) ?_
  refine rn_sload (k' := 1087) rfl rfl (by omega) (by omega) ?_
  refine rn_aload_nS (k' := 1088) rfl rfl rfl ?_
  refine rn_iload (k' := 1089) rfl rfl rfl ?_
  refine rn_iconst (k' := 1090) rfl rfl ?_
  refine rn_iadd (k' := 1091) rfl rfl (by omega) ?_
  refine rn_sload (k' := 1092) rfl rfl (by omega) (by omega) ?_
  refine rn_callP (k' := 1093) (y := 124) (vs := [mR 0, mI ((xs (i + 1).toNat).toInt), mI ((xs (i + 2).toNat).toInt)]) (S' := []) (v := some (mI (z))) (h' := mkh μ1 c s) rfl rfl rfl (hx) ?_
  show Rn PT (lw_x Lx xs) kL_law 1093 [some (mS 0), some (mR 0), some (mR 118), some (mR 141), some (mI (i)), v5, v6] [mI (z)] (mkh μ1 c s) _
  refine rn_aload_n (k' := 1094) rfl rfl rfl ?_
  refine rn_aload_nS (k' := 1095) rfl rfl rfl ?_
  refine rn_iload (k' := 1096) rfl rfl rfl ?_
  refine rn_iconst (k' := 1097) rfl rfl ?_
  refine rn_iadd (k' := 1098) rfl rfl (by omega) ?_
  refine rn_sload (k' := 1099) rfl rfl (by omega) (by omega) ?_
  refine rn_aload_nS (k' := 1100) rfl rfl rfl ?_
  refine rn_iload (k' := 1101) rfl rfl rfl ?_
  refine rn_iconst (k' := 1102) rfl rfl ?_
  refine rn_iadd (k' := 1103) rfl rfl (by omega) ?_
  refine rn_sload (k' := 1104) rfl rfl (by omega) (by omega) ?_
  refine rn_callP (k' := 1105) (y := 258) (vs := [mR 118, mI ((xs (i + 1).toNat).toInt), mI ((xs (i + 2).toNat).toInt)]) (S' := [mI (z)]) (v := some (mI (z))) (h' := mkh μ2 c s) rfl rfl rfl (hm) ?_
  show Rn PT (lw_x Lx xs) kL_law 1105 [some (mS 0), some (mR 0), some (mR 118), some (mR 141), some (mI (i)), v5, v6] [mI (z), mI (z)] (mkh μ2 c s) _
  refine rn_icmp_eq (k' := 1106) rfl rfl (fun hc1 => ?_) (fun hc1 => ?_)
  · skip
    exact kk _ _ _ _ _ hI2 (by omega) (by omega)
  · exfalso; omega
set_option maxRecDepth 50000 in
set_option maxHeartbeats 4000000 in
/-- walk -/
theorem lw_case41 {Inv Jnv : (Nat → Nat → Int) → Prop} {μ : Nat → Nat → Int} {c s Lx : Nat} {xs : Nat → Int32} {i : Int} {v5 v6 : Option MV} {Q : MR → Prop} (hP0 : ∀ (a1 : Int) (a2 : Int) (a3 : Int) (a4 : Int) , i32 a1 → i32 a2 → i32 a3 → i32 a4 → PairJ Inv Jnv 139 262 [mI a1, mI a2, mI a3, mI a4]) (h0 : 0 ≤ i) (h1 : i + 6 ≤ Lx) (hL : Lx ≤ 3072) (hI : Inv μ) (kk : ∀ (μ2 : Nat → Nat → Int) (c2 s2 : Nat) (v5 v6 : Option MV), Jnv μ2 → c2 ≤ c + 1 → s2 ≤ s + 6 → Rn PT (lw_x Lx xs) kL_law 1304 [some (mS 0), some (mR 0), some (mR 118), some (mR 141), some (mI i), v5, v6] [] (mkh μ2 c2 s2) Q) : Rn PT (lw_x Lx xs) kL_law 1108 [some (mS 0), some (mR 0), some (mR 118), some (mR 141), some (mI i), v5, v6] [] (mkh μ c s) Q := by
  have hP := hP0 ((xs (i + 1).toNat).toInt) ((xs (i + 2).toNat).toInt) ((xs (i + 3).toNat).toInt) ((xs (i + 4).toNat).toInt) (i32_of _) (i32_of _) (i32_of _) (i32_of _)
  obtain ⟨z, μ1, μ2, hx, hm, hI2⟩ := hP μ c s hI
  refine rn_aload_n (k' := 1109) rfl rfl rfl ?_
  refine rn_aload_nS (k' := 1110) rfl rfl rfl ?_
  refine rn_iload (k' := 1111) rfl rfl rfl ?_
  refine rn_iconst (k' := 1112) rfl rfl ?_
  refine rn_iadd (k' := 1113) rfl rfl (by omega) ?_
  refine rn_sload (k' := 1114) rfl rfl (by omega) (by omega) ?_
  refine rn_aload_nS (k' := 1115) rfl rfl rfl ?_
  refine rn_iload (k' := 1116) rfl rfl rfl ?_
  refine rn_iconst (k' := 1117) rfl rfl ?_
  refine rn_iadd (k' := 1118) rfl rfl (by omega) ?_
  refine rn_sload (k' := 1119) rfl rfl (by omega) (by omega) ?_
  refine rn_aload_nS (k' := 1120) rfl rfl rfl ?_
  refine rn_iload (k' := 1121) rfl rfl rfl ?_
  refine rn_iconst (k' := 1122) rfl rfl ?_
  refine rn_iadd (k' := 1123) rfl rfl (by omega) ?_
  refine rn_sload (k' := 1124) rfl rfl (by omega) (by omega) ?_
  refine rn_aload_nS (k' := 1125) rfl rfl rfl ?_
  refine rn_iload (k' := 1126) rfl rfl rfl ?_
  refine rn_iconst (k' := 1127) rfl rfl ?_
  refine rn_iadd (k' := 1128) rfl rfl (by omega) ?_
  refine rn_sload (k' := 1129) rfl rfl (by omega) (by omega) ?_
  refine rn_callP (k' := 1130) (y := 139) (vs := [mR 0, mI ((xs (i + 1).toNat).toInt), mI ((xs (i + 2).toNat).toInt), mI ((xs (i + 3).toNat).toInt), mI ((xs (i + 4).toNat).toInt)]) (S' := []) (v := some (mI (z))) (h' := mkh μ1 c s) rfl rfl rfl (hx) ?_
  show Rn PT (lw_x Lx xs) kL_law 1130 [some (mS 0), some (mR 0), some (mR 118), some (mR 141), some (mI (i)), v5, v6] [mI (z)] (mkh μ1 c s) _
  refine rn_aload_n (k' := 1131) rfl rfl rfl ?_
  refine rn_aload_nS (k' := 1132) rfl rfl rfl ?_
  refine rn_iload (k' := 1133) rfl rfl rfl ?_
  refine rn_iconst (k' := 1134) rfl rfl ?_
  refine rn_iadd (k' := 1135) rfl rfl (by omega) ?_
  refine rn_sload (k' := 1136) rfl rfl (by omega) (by omega) ?_
  refine rn_aload_nS (k' := 1137) rfl rfl rfl ?_
  refine rn_iload (k' := 1138) rfl rfl rfl ?_
  refine rn_iconst (k' := 1139) rfl rfl ?_
  refine rn_iadd (k' := 1140) rfl rfl (by omega) ?_
  refine rn_sload (k' := 1141) rfl rfl (by omega) (by omega) ?_
  refine rn_aload_nS (k' := 1142) rfl rfl rfl ?_
  refine rn_iload (k' := 1143) rfl rfl rfl ?_
  refine rn_iconst (k' := 1144) rfl rfl ?_
  refine rn_iadd (k' := 1145) rfl rfl (by omega) ?_
  refine rn_sload (k' := 1146) rfl rfl (by omega) (by omega) ?_
  refine rn_aload_nS (k' := 1147) rfl rfl rfl ?_
  refine rn_iload (k' := 1148) rfl rfl rfl ?_
  refine rn_iconst (k' := 1149) rfl rfl ?_
  refine rn_iadd (k' := 1150) rfl rfl (by omega) ?_
  refine rn_sload (k' := 1151) rfl rfl (by omega) (by omega) ?_
  refine rn_callP (k' := 1152) (y := 262) (vs := [mR 118, mI ((xs (i + 1).toNat).toInt), mI ((xs (i + 2).toNat).toInt), mI ((xs (i + 3).toNat).toInt), mI ((xs (i + 4).toNat).toInt)]) (S' := [mI (z)]) (v := some (mI (z))) (h' := mkh μ2 c s) rfl rfl rfl (hm) ?_
  show Rn PT (lw_x Lx xs) kL_law 1152 [some (mS 0), some (mR 0), some (mR 118), some (mR 141), some (mI (i)), v5, v6] [mI (z), mI (z)] (mkh μ2 c s) _
  refine rn_icmp_eq (k' := 1153) rfl rfl (fun hc1 => ?_) (fun hc1 => ?_)
  · skip
    exact kk _ _ _ _ _ hI2 (by omega) (by omega)
  · exfalso; omega
set_option maxRecDepth 50000 in
set_option maxHeartbeats 4000000 in
/-- falls -/
theorem lw_case42 {Inv Jnv : (Nat → Nat → Int) → Prop} {μ : Nat → Nat → Int} {c s Lx : Nat} {xs : Nat → Int32} {i : Int} {v5 v6 : Option MV} {Q : MR → Prop} (hP0 : ∀ (a1 : Int) (a2 : Int) (a3 : Int) (a4 : Int) (a5 : Int) , i32 a1 → i32 a2 → i32 a3 → i32 a4 → i32 a5 → PairJ Inv Jnv 140 264 [mI a1, mI a2, mI a3, mI a4, mI a5]) (h0 : 0 ≤ i) (h1 : i + 6 ≤ Lx) (hL : Lx ≤ 3072) (hI : Inv μ) (kk : ∀ (μ2 : Nat → Nat → Int) (c2 s2 : Nat) (v5 v6 : Option MV), Jnv μ2 → c2 ≤ c + 1 → s2 ≤ s + 6 → Rn PT (lw_x Lx xs) kL_law 1304 [some (mS 0), some (mR 0), some (mR 118), some (mR 141), some (mI i), v5, v6] [] (mkh μ2 c2 s2) Q) : Rn PT (lw_x Lx xs) kL_law 1155 [some (mS 0), some (mR 0), some (mR 118), some (mR 141), some (mI i), v5, v6] [] (mkh μ c s) Q := by
  have hP := hP0 ((xs (i + 1).toNat).toInt) ((xs (i + 2).toNat).toInt) ((xs (i + 3).toNat).toInt) ((xs (i + 4).toNat).toInt) ((xs (i + 5).toNat).toInt) (i32_of _) (i32_of _) (i32_of _) (i32_of _) (i32_of _)
  obtain ⟨z, μ1, μ2, hx, hm, hI2⟩ := hP μ c s hI
  refine rn_aload_n (k' := 1156) rfl rfl rfl ?_
  refine rn_aload_nS (k' := 1157) rfl rfl rfl ?_
  refine rn_iload (k' := 1158) rfl rfl rfl ?_
  refine rn_iconst (k' := 1159) rfl rfl ?_
  refine rn_iadd (k' := 1160) rfl rfl (by omega) ?_
  refine rn_sload (k' := 1161) rfl rfl (by omega) (by omega) ?_
  refine rn_aload_nS (k' := 1162) rfl rfl rfl ?_
  refine rn_iload (k' := 1163) rfl rfl rfl ?_
  refine rn_iconst (k' := 1164) rfl rfl ?_
  refine rn_iadd (k' := 1165) rfl rfl (by omega) ?_
  refine rn_sload (k' := 1166) rfl rfl (by omega) (by omega) ?_
  refine rn_aload_nS (k' := 1167) rfl rfl rfl ?_
  refine rn_iload (k' := 1168) rfl rfl rfl ?_
  refine rn_iconst (k' := 1169) rfl rfl ?_
  refine rn_iadd (k' := 1170) rfl rfl (by omega) ?_
  refine rn_sload (k' := 1171) rfl rfl (by omega) (by omega) ?_
  refine rn_aload_nS (k' := 1172) rfl rfl rfl ?_
  refine rn_iload (k' := 1173) rfl rfl rfl ?_
  refine rn_iconst (k' := 1174) rfl rfl ?_
  refine rn_iadd (k' := 1175) rfl rfl (by omega) ?_
  refine rn_sload (k' := 1176) rfl rfl (by omega) (by omega) ?_
  refine rn_aload_nS (k' := 1177) rfl rfl rfl ?_
  refine rn_iload (k' := 1178) rfl rfl rfl ?_
  refine rn_iconst (k' := 1179) rfl rfl ?_
  refine rn_iadd (k' := 1180) rfl rfl (by omega) ?_
  refine rn_sload (k' := 1181) rfl rfl (by omega) (by omega) ?_
  refine rn_callP (k' := 1182) (y := 140) (vs := [mR 0, mI ((xs (i + 1).toNat).toInt), mI ((xs (i + 2).toNat).toInt), mI ((xs (i + 3).toNat).toInt), mI ((xs (i + 4).toNat).toInt), mI ((xs (i + 5).toNat).toInt)]) (S' := []) (v := some (mI (z))) (h' := mkh μ1 c s) rfl rfl rfl (hx) ?_
  show Rn PT (lw_x Lx xs) kL_law 1182 [some (mS 0), some (mR 0), some (mR 118), some (mR 141), some (mI (i)), v5, v6] [mI (z)] (mkh μ1 c s) _
  refine rn_aload_n (k' := 1183) rfl rfl rfl ?_
  refine rn_aload_nS (k' := 1184) rfl rfl rfl ?_
  refine rn_iload (k' := 1185) rfl rfl rfl ?_
  refine rn_iconst (k' := 1186) rfl rfl ?_
  refine rn_iadd (k' := 1187) rfl rfl (by omega) ?_
  refine rn_sload (k' := 1188) rfl rfl (by omega) (by omega) ?_
  refine rn_aload_nS (k' := 1189) rfl rfl rfl ?_
  refine rn_iload (k' := 1190) rfl rfl rfl ?_
  refine rn_iconst (k' := 1191) rfl rfl ?_
  refine rn_iadd (k' := 1192) rfl rfl (by omega) ?_
  refine rn_sload (k' := 1193) rfl rfl (by omega) (by omega) ?_
  refine rn_aload_nS (k' := 1194) rfl rfl rfl ?_
  refine rn_iload (k' := 1195) rfl rfl rfl ?_
  refine rn_iconst (k' := 1196) rfl rfl ?_
  refine rn_iadd (k' := 1197) rfl rfl (by omega) ?_
  refine rn_sload (k' := 1198) rfl rfl (by omega) (by omega) ?_
  refine rn_aload_nS (k' := 1199) rfl rfl rfl ?_
  refine rn_iload (k' := 1200) rfl rfl rfl ?_
  refine rn_iconst (k' := 1201) rfl rfl ?_
  refine rn_iadd (k' := 1202) rfl rfl (by omega) ?_
  refine rn_sload (k' := 1203) rfl rfl (by omega) (by omega) ?_
  refine rn_aload_nS (k' := 1204) rfl rfl rfl ?_
  refine rn_iload (k' := 1205) rfl rfl rfl ?_
  refine rn_iconst (k' := 1206) rfl rfl ?_
  refine rn_iadd (k' := 1207) rfl rfl (by omega) ?_
  refine rn_sload (k' := 1208) rfl rfl (by omega) (by omega) ?_
  refine rn_callP (k' := 1209) (y := 264) (vs := [mR 118, mI ((xs (i + 1).toNat).toInt), mI ((xs (i + 2).toNat).toInt), mI ((xs (i + 3).toNat).toInt), mI ((xs (i + 4).toNat).toInt), mI ((xs (i + 5).toNat).toInt)]) (S' := [mI (z)]) (v := some (mI (z))) (h' := mkh μ2 c s) rfl rfl rfl (hm) ?_
  show Rn PT (lw_x Lx xs) kL_law 1209 [some (mS 0), some (mR 0), some (mR 118), some (mR 141), some (mI (i)), v5, v6] [mI (z), mI (z)] (mkh μ2 c s) _
  refine rn_icmp_eq (k' := 1210) rfl rfl (fun hc1 => ?_) (fun hc1 => ?_)
  · skip
    exact kk _ _ _ _ _ hI2 (by omega) (by omega)
  · exfalso; omega
set_option maxRecDepth 50000 in
set_option maxHeartbeats 4000000 in
/-- plan -/
theorem lw_case43 {Inv Jnv : (Nat → Nat → Int) → Prop} {μ : Nat → Nat → Int} {c s Lx : Nat} {xs : Nat → Int32} {i : Int} {v5 v6 : Option MV} {Q : MR → Prop} (hP0 : PairJ Inv Jnv 105 266 []) (h0 : 0 ≤ i) (h1 : i + 6 ≤ Lx) (hL : Lx ≤ 3072) (hI : Inv μ) (kk : ∀ (μ2 : Nat → Nat → Int) (c2 s2 : Nat) (v5 v6 : Option MV), Jnv μ2 → c2 ≤ c + 1 → s2 ≤ s + 6 → Rn PT (lw_x Lx xs) kL_law 1304 [some (mS 0), some (mR 0), some (mR 118), some (mR 141), some (mI i), v5, v6] [] (mkh μ2 c2 s2) Q) : Rn PT (lw_x Lx xs) kL_law 1212 [some (mS 0), some (mR 0), some (mR 118), some (mR 141), some (mI i), v5, v6] [] (mkh μ c s) Q := by
  have hP := hP0
  obtain ⟨z, μ1, μ2, hx, hm, hI2⟩ := hP μ c s hI
  refine rn_aload_n (k' := 1213) rfl rfl rfl ?_
  refine rn_callP (k' := 1214) (y := 105) (vs := [mR 0]) (S' := []) (v := some (mI (z))) (h' := mkh μ1 c s) rfl rfl rfl (hx) ?_
  show Rn PT (lw_x Lx xs) kL_law 1214 [some (mS 0), some (mR 0), some (mR 118), some (mR 141), some (mI (i)), v5, v6] [mI (z)] (mkh μ1 c s) _
  refine rn_aload_n (k' := 1215) rfl rfl rfl ?_
  refine rn_callP (k' := 1216) (y := 266) (vs := [mR 118]) (S' := [mI (z)]) (v := some (mI (z))) (h' := mkh μ2 c s) rfl rfl rfl (hm) ?_
  show Rn PT (lw_x Lx xs) kL_law 1216 [some (mS 0), some (mR 0), some (mR 118), some (mR 141), some (mI (i)), v5, v6] [mI (z), mI (z)] (mkh μ2 c s) _
  refine rn_icmp_eq (k' := 1217) rfl rfl (fun hc1 => ?_) (fun hc1 => ?_)
  · skip
    exact kk _ _ _ _ _ hI2 (by omega) (by omega)
  · exfalso; omega
set_option maxRecDepth 50000 in
set_option maxHeartbeats 4000000 in
/-- judge -/
theorem lw_case44 {Inv Jnv : (Nat → Nat → Int) → Prop} {μ : Nat → Nat → Int} {c s Lx : Nat} {xs : Nat → Int32} {i : Int} {v5 v6 : Option MV} {Q : MR → Prop} (hP0 : ∀ (a1 : Int) , i32 a1 → PairJ Inv Jnv 146 268 [mI a1]) (h0 : 0 ≤ i) (h1 : i + 6 ≤ Lx) (hL : Lx ≤ 3072) (hI : Inv μ) (kk : ∀ (μ2 : Nat → Nat → Int) (c2 s2 : Nat) (v5 v6 : Option MV), Jnv μ2 → c2 ≤ c + 1 → s2 ≤ s + 6 → Rn PT (lw_x Lx xs) kL_law 1304 [some (mS 0), some (mR 0), some (mR 118), some (mR 141), some (mI i), v5, v6] [] (mkh μ2 c2 s2) Q) : Rn PT (lw_x Lx xs) kL_law 1219 [some (mS 0), some (mR 0), some (mR 118), some (mR 141), some (mI i), v5, v6] [] (mkh μ c s) Q := by
  have hP := hP0 ((xs (i + 1).toNat).toInt) (i32_of _)
  obtain ⟨z, μ1, μ2, hx, hm, hI2⟩ := hP μ c s hI
  refine rn_aload_n (k' := 1220) rfl rfl rfl ?_
  refine rn_aload_nS (k' := 1221) rfl rfl rfl ?_
  refine rn_iload (k' := 1222) rfl rfl rfl ?_
  refine rn_iconst (k' := 1223) rfl rfl ?_
  refine rn_iadd (k' := 1224) rfl rfl (by omega) ?_
  refine rn_sload (k' := 1225) rfl rfl (by omega) (by omega) ?_
  refine rn_callP (k' := 1226) (y := 146) (vs := [mR 0, mI ((xs (i + 1).toNat).toInt)]) (S' := []) (v := some (mI (z))) (h' := mkh μ1 c s) rfl rfl rfl (hx) ?_
  show Rn PT (lw_x Lx xs) kL_law 1226 [some (mS 0), some (mR 0), some (mR 118), some (mR 141), some (mI (i)), v5, v6] [mI (z)] (mkh μ1 c s) _
  refine rn_aload_n (k' := 1227) rfl rfl rfl ?_
  refine rn_aload_nS (k' := 1228) rfl rfl rfl ?_
  refine rn_iload (k' := 1229) rfl rfl rfl ?_
  refine rn_iconst (k' := 1230) rfl rfl ?_
  refine rn_iadd (k' := 1231) rfl rfl (by omega) ?_
  refine rn_sload (k' := 1232) rfl rfl (by omega) (by omega) ?_
  refine rn_callP (k' := 1233) (y := 268) (vs := [mR 118, mI ((xs (i + 1).toNat).toInt)]) (S' := [mI (z)]) (v := some (mI (z))) (h' := mkh μ2 c s) rfl rfl rfl (hm) ?_
  show Rn PT (lw_x Lx xs) kL_law 1233 [some (mS 0), some (mR 0), some (mR 118), some (mR 141), some (mI (i)), v5, v6] [mI (z), mI (z)] (mkh μ2 c s) _
  refine rn_icmp_eq (k' := 1234) rfl rfl (fun hc1 => ?_) (fun hc1 => ?_)
  · skip
    exact kk _ _ _ _ _ hI2 (by omega) (by omega)
  · exfalso; omega
set_option maxRecDepth 50000 in
set_option maxHeartbeats 4000000 in
/-- judged -/
theorem lw_case45 {Inv Jnv : (Nat → Nat → Int) → Prop} {μ : Nat → Nat → Int} {c s Lx : Nat} {xs : Nat → Int32} {i : Int} {v5 v6 : Option MV} {Q : MR → Prop} (hP0 : ∀ (a1 : Int) , i32 a1 → PairJ Inv Jnv 147 269 [mI a1]) (h0 : 0 ≤ i) (h1 : i + 6 ≤ Lx) (hL : Lx ≤ 3072) (hI : Inv μ) (kk : ∀ (μ2 : Nat → Nat → Int) (c2 s2 : Nat) (v5 v6 : Option MV), Jnv μ2 → c2 ≤ c + 1 → s2 ≤ s + 6 → Rn PT (lw_x Lx xs) kL_law 1304 [some (mS 0), some (mR 0), some (mR 118), some (mR 141), some (mI i), v5, v6] [] (mkh μ2 c2 s2) Q) : Rn PT (lw_x Lx xs) kL_law 1236 [some (mS 0), some (mR 0), some (mR 118), some (mR 141), some (mI i), v5, v6] [] (mkh μ c s) Q := by
  have hP := hP0 ((xs (i + 1).toNat).toInt) (i32_of _)
  obtain ⟨z, μ1, μ2, hx, hm, hI2⟩ := hP μ c s hI
  refine rn_aload_n (k' := 1237) rfl rfl rfl ?_
  refine rn_aload_nS (k' := 1238) rfl rfl rfl ?_
  refine rn_iload (k' := 1239) rfl rfl rfl ?_
  refine rn_iconst (k' := 1240) rfl rfl ?_
  refine rn_iadd (k' := 1241) rfl rfl (by omega) ?_
  refine rn_sload (k' := 1242) rfl rfl (by omega) (by omega) ?_
  refine rn_callP (k' := 1243) (y := 147) (vs := [mR 0, mI ((xs (i + 1).toNat).toInt)]) (S' := []) (v := some (mI (z))) (h' := mkh μ1 c s) rfl rfl rfl (hx) ?_
  show Rn PT (lw_x Lx xs) kL_law 1243 [some (mS 0), some (mR 0), some (mR 118), some (mR 141), some (mI (i)), v5, v6] [mI (z)] (mkh μ1 c s) _
  refine rn_aload_n (k' := 1244) rfl rfl rfl ?_
  refine rn_aload_nS (k' := 1245) rfl rfl rfl ?_
  refine rn_iload (k' := 1246) rfl rfl rfl ?_
  refine rn_iconst (k' := 1247) rfl rfl ?_
  refine rn_iadd (k' := 1248) rfl rfl (by omega) ?_
  refine rn_sload (k' := 1249) rfl rfl (by omega) (by omega) ?_
  refine rn_callP (k' := 1250) (y := 269) (vs := [mR 118, mI ((xs (i + 1).toNat).toInt)]) (S' := [mI (z)]) (v := some (mI (z))) (h' := mkh μ2 c s) rfl rfl rfl (hm) ?_
  show Rn PT (lw_x Lx xs) kL_law 1250 [some (mS 0), some (mR 0), some (mR 118), some (mR 141), some (mI (i)), v5, v6] [mI (z), mI (z)] (mkh μ2 c s) _
  refine rn_icmp_eq (k' := 1251) rfl rfl (fun hc1 => ?_) (fun hc1 => ?_)
  · skip
    exact kk _ _ _ _ _ hI2 (by omega) (by omega)
  · exfalso; omega
set_option maxRecDepth 50000 in
set_option maxHeartbeats 4000000 in
/-- image -/
theorem lw_case46 {Inv Jnv : (Nat → Nat → Int) → Prop} {μ : Nat → Nat → Int} {c s Lx : Nat} {xs : Nat → Int32} {i : Int} {v5 v6 : Option MV} {Q : MR → Prop} (hP0 : ∀ (a1 : Int) , i32 a1 → PairJ Inv Jnv 148 270 [mI a1]) (h0 : 0 ≤ i) (h1 : i + 6 ≤ Lx) (hL : Lx ≤ 3072) (hI : Inv μ) (kk : ∀ (μ2 : Nat → Nat → Int) (c2 s2 : Nat) (v5 v6 : Option MV), Jnv μ2 → c2 ≤ c + 1 → s2 ≤ s + 6 → Rn PT (lw_x Lx xs) kL_law 1304 [some (mS 0), some (mR 0), some (mR 118), some (mR 141), some (mI i), v5, v6] [] (mkh μ2 c2 s2) Q) : Rn PT (lw_x Lx xs) kL_law 1253 [some (mS 0), some (mR 0), some (mR 118), some (mR 141), some (mI i), v5, v6] [] (mkh μ c s) Q := by
  have hP := hP0 ((xs (i + 1).toNat).toInt) (i32_of _)
  obtain ⟨z, μ1, μ2, hx, hm, hI2⟩ := hP μ c s hI
  refine rn_aload_n (k' := 1254) rfl rfl rfl ?_
  refine rn_aload_nS (k' := 1255) rfl rfl rfl ?_
  refine rn_iload (k' := 1256) rfl rfl rfl ?_
  refine rn_iconst (k' := 1257) rfl rfl ?_
  refine rn_iadd (k' := 1258) rfl rfl (by omega) ?_
  refine rn_sload (k' := 1259) rfl rfl (by omega) (by omega) ?_
  refine rn_callP (k' := 1260) (y := 148) (vs := [mR 0, mI ((xs (i + 1).toNat).toInt)]) (S' := []) (v := some (mI (z))) (h' := mkh μ1 c s) rfl rfl rfl (hx) ?_
  show Rn PT (lw_x Lx xs) kL_law 1260 [some (mS 0), some (mR 0), some (mR 118), some (mR 141), some (mI (i)), v5, v6] [mI (z)] (mkh μ1 c s) _
  refine rn_aload_n (k' := 1261) rfl rfl rfl ?_
  refine rn_aload_nS (k' := 1262) rfl rfl rfl ?_
  refine rn_iload (k' := 1263) rfl rfl rfl ?_
  refine rn_iconst (k' := 1264) rfl rfl ?_
  refine rn_iadd (k' := 1265) rfl rfl (by omega) ?_
  refine rn_sload (k' := 1266) rfl rfl (by omega) (by omega) ?_
  refine rn_callP (k' := 1267) (y := 270) (vs := [mR 118, mI ((xs (i + 1).toNat).toInt)]) (S' := [mI (z)]) (v := some (mI (z))) (h' := mkh μ2 c s) rfl rfl rfl (hm) ?_
  show Rn PT (lw_x Lx xs) kL_law 1267 [some (mS 0), some (mR 0), some (mR 118), some (mR 141), some (mI (i)), v5, v6] [mI (z), mI (z)] (mkh μ2 c s) _
  refine rn_icmp_eq (k' := 1268) rfl rfl (fun hc1 => ?_) (fun hc1 => ?_)
  · skip
    exact kk _ _ _ _ _ hI2 (by omega) (by omega)
  · exfalso; omega
set_option maxRecDepth 50000 in
set_option maxHeartbeats 4000000 in
/-- restore -/
theorem lw_case47 {Inv Jnv : (Nat → Nat → Int) → Prop} {μ : Nat → Nat → Int} {c s Lx : Nat} {xs : Nat → Int32} {i : Int} {v5 v6 : Option MV} {Q : MR → Prop} (hP0 : ∀ (a1 : Int) , i32 a1 → PairJ Inv Jnv 149 271 [mI a1]) (h0 : 0 ≤ i) (h1 : i + 6 ≤ Lx) (hL : Lx ≤ 3072) (hI : Inv μ) (kk : ∀ (μ2 : Nat → Nat → Int) (c2 s2 : Nat) (v5 v6 : Option MV), Jnv μ2 → c2 ≤ c + 1 → s2 ≤ s + 6 → Rn PT (lw_x Lx xs) kL_law 1304 [some (mS 0), some (mR 0), some (mR 118), some (mR 141), some (mI i), v5, v6] [] (mkh μ2 c2 s2) Q) : Rn PT (lw_x Lx xs) kL_law 1270 [some (mS 0), some (mR 0), some (mR 118), some (mR 141), some (mI i), v5, v6] [] (mkh μ c s) Q := by
  have hP := hP0 ((xs (i + 1).toNat).toInt) (i32_of _)
  obtain ⟨z, μ1, μ2, hx, hm, hI2⟩ := hP μ c s hI
  refine rn_aload_n (k' := 1271) rfl rfl rfl ?_
  refine rn_aload_nS (k' := 1272) rfl rfl rfl ?_
  refine rn_iload (k' := 1273) rfl rfl rfl ?_
  refine rn_iconst (k' := 1274) rfl rfl ?_
  refine rn_iadd (k' := 1275) rfl rfl (by omega) ?_
  refine rn_sload (k' := 1276) rfl rfl (by omega) (by omega) ?_
  refine rn_callP (k' := 1277) (y := 149) (vs := [mR 0, mI ((xs (i + 1).toNat).toInt)]) (S' := []) (v := some (mI (z))) (h' := mkh μ1 c s) rfl rfl rfl (hx) ?_
  show Rn PT (lw_x Lx xs) kL_law 1277 [some (mS 0), some (mR 0), some (mR 118), some (mR 141), some (mI (i)), v5, v6] [mI (z)] (mkh μ1 c s) _
  refine rn_aload_n (k' := 1278) rfl rfl rfl ?_
  refine rn_aload_nS (k' := 1279) rfl rfl rfl ?_
  refine rn_iload (k' := 1280) rfl rfl rfl ?_
  refine rn_iconst (k' := 1281) rfl rfl ?_
  refine rn_iadd (k' := 1282) rfl rfl (by omega) ?_
  refine rn_sload (k' := 1283) rfl rfl (by omega) (by omega) ?_
  refine rn_callP (k' := 1284) (y := 271) (vs := [mR 118, mI ((xs (i + 1).toNat).toInt)]) (S' := [mI (z)]) (v := some (mI (z))) (h' := mkh μ2 c s) rfl rfl rfl (hm) ?_
  show Rn PT (lw_x Lx xs) kL_law 1284 [some (mS 0), some (mR 0), some (mR 118), some (mR 141), some (mI (i)), v5, v6] [mI (z), mI (z)] (mkh μ2 c s) _
  refine rn_icmp_eq (k' := 1285) rfl rfl (fun hc1 => ?_) (fun hc1 => ?_)
  · skip
    exact kk _ _ _ _ _ hI2 (by omega) (by omega)
  · exfalso; omega
set_option maxRecDepth 50000 in
set_option maxHeartbeats 4000000 in
/-- count -/
theorem lw_case48 {Inv Jnv : (Nat → Nat → Int) → Prop} {μ : Nat → Nat → Int} {c s Lx : Nat} {xs : Nat → Int32} {i : Int} {v5 v6 : Option MV} {Q : MR → Prop} (hP0 : ∀ (a1 : Int) , i32 a1 → PairJ Inv Jnv 112 272 [mI a1]) (h0 : 0 ≤ i) (h1 : i + 6 ≤ Lx) (hL : Lx ≤ 3072) (hI : Inv μ) (kk : ∀ (μ2 : Nat → Nat → Int) (c2 s2 : Nat) (v5 v6 : Option MV), Jnv μ2 → c2 ≤ c + 1 → s2 ≤ s + 6 → Rn PT (lw_x Lx xs) kL_law 1304 [some (mS 0), some (mR 0), some (mR 118), some (mR 141), some (mI i), v5, v6] [] (mkh μ2 c2 s2) Q) : Rn PT (lw_x Lx xs) kL_law 1287 [some (mS 0), some (mR 0), some (mR 118), some (mR 141), some (mI i), v5, v6] [] (mkh μ c s) Q := by
  have hP := hP0 ((xs (i + 1).toNat).toInt) (i32_of _)
  obtain ⟨z, μ1, μ2, hx, hm, hI2⟩ := hP μ c s hI
  refine rn_aload_n (k' := 1288) rfl rfl rfl ?_
  refine rn_aload_nS (k' := 1289) rfl rfl rfl ?_
  refine rn_iload (k' := 1290) rfl rfl rfl ?_
  refine rn_iconst (k' := 1291) rfl rfl ?_
  refine rn_iadd (k' := 1292) rfl rfl (by omega) ?_
  refine rn_sload (k' := 1293) rfl rfl (by omega) (by omega) ?_
  refine rn_callP (k' := 1294) (y := 112) (vs := [mR 0, mI ((xs (i + 1).toNat).toInt)]) (S' := []) (v := some (mI (z))) (h' := mkh μ1 c s) rfl rfl rfl (hx) ?_
  show Rn PT (lw_x Lx xs) kL_law 1294 [some (mS 0), some (mR 0), some (mR 118), some (mR 141), some (mI (i)), v5, v6] [mI (z)] (mkh μ1 c s) _
  refine rn_aload_n (k' := 1295) rfl rfl rfl ?_
  refine rn_aload_nS (k' := 1296) rfl rfl rfl ?_
  refine rn_iload (k' := 1297) rfl rfl rfl ?_
  refine rn_iconst (k' := 1298) rfl rfl ?_
  refine rn_iadd (k' := 1299) rfl rfl (by omega) ?_
  refine rn_sload (k' := 1300) rfl rfl (by omega) (by omega) ?_
  refine rn_callP (k' := 1301) (y := 272) (vs := [mR 118, mI ((xs (i + 1).toNat).toInt)]) (S' := [mI (z)]) (v := some (mI (z))) (h' := mkh μ2 c s) rfl rfl rfl (hm) ?_
  show Rn PT (lw_x Lx xs) kL_law 1301 [some (mS 0), some (mR 0), some (mR 118), some (mR 141), some (mI (i)), v5, v6] [mI (z), mI (z)] (mkh μ2 c s) _
  refine rn_icmp_eq (k' := 1302) rfl rfl (fun hc1 => ?_) (fun hc1 => ?_)
  · skip
    exact kk _ _ _ _ _ hI2 (by omega) (by omega)
  · exfalso; omega
