/-! ===== printed by wip/whole/genlaw2.py: the law's loop ===== -/
/-- ALL PAIRS OF CALLS: what is left to prove of the calls -/
def Pairs (Inv Jnv : (Nat → Nat → Int) → Prop) : Prop :=
  (∀ (a1 : Int) (a2 : Int) (a3 : Int) (a4 : Int) (a5 : Int) , i32 a1 → i32 a2 → i32 a3 → i32 a4 → i32 a5 → PairJ Inv Jnv 101 163 [mI a1, mI a2, mI a3, mI a4, mI a5]) ∧
  (∀ (a1 : Int) , i32 a1 → PairJ Inv Jnv 102 165 [mI a1]) ∧
  (PairJ Inv Jnv 103 190 []) ∧
  (PairJ Inv Jnv 104 191 []) ∧
  (∀ (a1 : Int) (a2 : Int) , i32 a1 → i32 a2 → PairY Inv Jnv 106 204 [mI a1, mI a2]) ∧
  (∀ (a1 : Int) (a2 : Int) , i32 a1 → i32 a2 → PairY Inv Jnv 107 205 [mI a1, mI a2]) ∧
  (∀ (a1 : Int) (a2 : Int) , i32 a1 → i32 a2 → PairJ Inv Jnv 108 206 [mI a1, mI a2]) ∧
  (PairJ Inv Jnv 109 207 []) ∧
  (PairJ Inv Jnv 110 209 []) ∧
  (∀ (a1 : Int) , i32 a1 → PairJ Inv Jnv 111 210 [mI a1]) ∧
  (∀ (a1 : Int) (a2 : Int) , i32 a1 → i32 a2 → PairJ Inv Jnv 113 217 [mI a1, mI a2]) ∧
  (∀ (a1 : Int) (a2 : Int) (a3 : Int) , i32 a1 → i32 a2 → i32 a3 → PairJ Inv Jnv 114 215 [mI a1, mI a2, mI a3]) ∧
  (∀ (a1 : Int) (a2 : Int) (a3 : Int) (a4 : Int) , i32 a1 → i32 a2 → i32 a3 → i32 a4 → PairJ Inv Jnv 115 216 [mI a1, mI a2, mI a3, mI a4]) ∧
  (∀ (a1 : Int) (a2 : Int) (a3 : Int) (a4 : Int) , i32 a1 → i32 a2 → i32 a3 → i32 a4 → PairJ Inv Jnv 116 220 [mI a1, mI a2, mI a3, mI a4]) ∧
  (∀ (a1 : Int) , i32 a1 → PairJ Inv Jnv 117 263 [mI a1]) ∧
  (∀ (a1 : Int) (a2 : Int) (a3 : Int) (a4 : Int) , i32 a1 → i32 a2 → i32 a3 → i32 a4 → PairJ Inv Jnv 118 221 [mI a1, mI a2, mI a3, mI a4]) ∧
  (∀ (a1 : Int) (a2 : Int) (a3 : Int) (a4 : Int) , i32 a1 → i32 a2 → i32 a3 → i32 a4 → PairJ Inv Jnv 119 223 [mI a1, mI a2, mI a3, mI a4]) ∧
  (∀ (a1 : Int) , i32 a1 → PairJ Inv Jnv 120 224 [mI a1]) ∧
  (∀ (a1 : Int) (a2 : Int) (a3 : Int) (a4 : Int) , i32 a1 → i32 a2 → i32 a3 → i32 a4 → PairJ Inv Jnv 121 225 [mI a1, mI a2, mI a3, mI a4]) ∧
  (∀ (a1 : Int) (a2 : Int) (a3 : Int) , i32 a1 → i32 a2 → i32 a3 → PairJ Inv Jnv 122 227 [mI a1, mI a2, mI a3]) ∧
  (∀ (a1 : Int) , i32 a1 → PairJ Inv Jnv 130 230 [mI a1]) ∧
  (∀ (a1 : Int) (a2 : Int) , i32 a1 → i32 a2 → PairJ Inv Jnv 131 231 [mI a1, mI a2]) ∧
  (∀ (a1 : Int) (a2 : Int) , i32 a1 → i32 a2 → PairJ Inv Jnv 132 233 [mI a1, mI a2]) ∧
  (PairJ Inv Jnv 133 234 []) ∧
  (∀ (a1 : Int) , i32 a1 → PairJ Inv Jnv 134 235 [mI a1]) ∧
  (∀ (a1 : Int) (a2 : Int) , i32 a1 → i32 a2 → PairJ Inv Jnv 141 241 [mI a1, mI a2]) ∧
  (∀ (a1 : Int) (a2 : Int) (a3 : Int) , i32 a1 → i32 a2 → i32 a3 → PairJ Inv Jnv 142 243 [mI a1, mI a2, mI a3]) ∧
  (PairJ Inv Jnv 143 244 []) ∧
  (∀ (a1 : Int) , i32 a1 → PairJ Inv Jnv 144 245 [mI a1]) ∧
  (PairJ Inv Jnv 145 239 []) ∧
  (∀ (a1 : Int) (a2 : Int) , i32 a1 → i32 a2 → PairJ Inv Jnv 125 248 [mI a1, mI a2]) ∧
  (∀ (a1 : Int) (a2 : Int) , i32 a1 → i32 a2 → PairJ Inv Jnv 126 249 [mI a1, mI a2]) ∧
  (∀ (a1 : Int) (a2 : Int) , i32 a1 → i32 a2 → PairJ Inv Jnv 135 246 [mI a1, mI a2]) ∧
  (PairJ Inv Jnv 136 250 []) ∧
  (∀ (a1 : Int) , i32 a1 → PairJ Inv Jnv 137 252 [mI a1]) ∧
  (∀ (a1 : Int) , i32 a1 → PairJ Inv Jnv 138 253 [mI a1]) ∧
  (∀ (a1 : Int) (a2 : Int) (a3 : Int) (a4 : Int) , i32 a1 → i32 a2 → i32 a3 → i32 a4 → PairJ Inv Jnv 127 254 [mI a1, mI a2, mI a3, mI a4]) ∧
  (∀ (a1 : Int) (a2 : Int) (a3 : Int) (a4 : Int) , i32 a1 → i32 a2 → i32 a3 → i32 a4 → PairJ Inv Jnv 128 255 [mI a1, mI a2, mI a3, mI a4]) ∧
  (∀ (a1 : Int) (a2 : Int) (a3 : Int) , i32 a1 → i32 a2 → i32 a3 → PairJ Inv Jnv 129 256 [mI a1, mI a2, mI a3]) ∧
  (PairJ Inv Jnv 123 257 []) ∧
  (∀ (a1 : Int) (a2 : Int) , i32 a1 → i32 a2 → PairJ Inv Jnv 124 258 [mI a1, mI a2]) ∧
  (∀ (a1 : Int) (a2 : Int) (a3 : Int) (a4 : Int) , i32 a1 → i32 a2 → i32 a3 → i32 a4 → PairJ Inv Jnv 139 262 [mI a1, mI a2, mI a3, mI a4]) ∧
  (∀ (a1 : Int) (a2 : Int) (a3 : Int) (a4 : Int) (a5 : Int) , i32 a1 → i32 a2 → i32 a3 → i32 a4 → i32 a5 → PairJ Inv Jnv 140 264 [mI a1, mI a2, mI a3, mI a4, mI a5]) ∧
  (PairJ Inv Jnv 105 266 []) ∧
  (∀ (a1 : Int) , i32 a1 → PairJ Inv Jnv 146 268 [mI a1]) ∧
  (∀ (a1 : Int) , i32 a1 → PairJ Inv Jnv 147 269 [mI a1]) ∧
  (∀ (a1 : Int) , i32 a1 → PairJ Inv Jnv 148 270 [mI a1]) ∧
  (∀ (a1 : Int) , i32 a1 → PairJ Inv Jnv 149 271 [mI a1]) ∧
  (∀ (a1 : Int) , i32 a1 → PairJ Inv Jnv 112 272 [mI a1])
set_option maxRecDepth 50000 in
set_option maxHeartbeats 8000000 in
theorem lw_loop {Inv : Nat → (Nat → Nat → Int) → Prop} (hP0 : ∀ k, k ≤ 511 → Pairs (Inv k) (Inv (k + 1))) (hM : ∀ k μ, Inv k μ → Inv (k + 1) μ) {Lx : Nat} {xs : Nat → Int32} (hL : Lx ≤ 3072) : ∀ (n k : Nat) (i : Int) (μ : Nat → Nat → Int) (c s : Nat) (v5 v6 : Option MV), i = 6 * (k : Int) → Lx < 6 * (k + n) → k ≤ 600 → c ≤ 142 + k → s ≤ 34179 + 6 * k → Inv k μ → Rn PT (lw_x Lx xs) kL_law 13 [some (mS 0), some (mR 0), some (mR 118), some (mR 141), some (mI i), v5, v6] [] (mkh μ c s) (fun r : MR => r.1 = some (some (mI 1)) ∧ mh_c r.2 ≤ 601024 ∧ mh_s r.2 ≤ 7293034) := by
  intro n
  induction n with
  | zero =>
    intro k i μ c s v5 v6 hi hn hk hc hs hI
    refine rn_iload (k' := 14) rfl rfl rfl ?_
    refine rn_aload_nS (k' := 15) rfl rfl rfl ?_
    refine rn_slen (k' := 16) rfl rfl (by omega) ?_
    refine rn_bipush (k' := 17) rfl rfl ?_
    refine rn_isub (k' := 18) rfl rfl (by omega) ?_
    refine rn_icmp_gt (k' := 19) rfl rfl (fun hc1 => ?_) (fun hc1 => ?_)
    · skip
      refine rn_iconst (k' := 1307) rfl rfl ?_
      refine rn_iret rfl (Or.inr (by omega)) ?_
      exact ⟨rfl, (by show c ≤ 601024; omega), (by show s ≤ 7293034; omega)⟩
    · exfalso; omega
  | succ n ih =>
    intro k i μ c s v5 v6 hi hn hk hc hs hI
    rcases Nat.lt_or_ge 511 k with hk5 | hk5
    · skip
      refine rn_iload (k' := 14) rfl rfl rfl ?_
      refine rn_aload_nS (k' := 15) rfl rfl rfl ?_
      refine rn_slen (k' := 16) rfl rfl (by omega) ?_
      refine rn_bipush (k' := 17) rfl rfl ?_
      refine rn_isub (k' := 18) rfl rfl (by omega) ?_
      refine rn_icmp_gt (k' := 19) rfl rfl (fun hc1 => ?_) (fun hc1 => ?_)
      · skip
        refine rn_iconst (k' := 1307) rfl rfl ?_
        refine rn_iret rfl (Or.inr (by omega)) ?_
        exact ⟨rfl, (by show c ≤ 601024; omega), (by show s ≤ 7293034; omega)⟩
      · exfalso; omega
    obtain ⟨h0, h1, h2, h3, h4, h5, h6, h7, h8, h9, h10, h11, h12, h13, h14, h15, h16, h17, h18, h19, h20, h21, h22, h23, h24, h25, h26, h27, h28, h29, h30, h31, h32, h33, h34, h35, h36, h37, h38, h39, h40, h41, h42, h43, h44, h45, h46, h47, h48⟩ := hP0 k hk5
    have hk2 : i ≤ Lx - 6 → ∀ (μ2 : Nat → Nat → Int) (c2 s2 : Nat) (v5 v6 : Option MV), Inv (k + 1) μ2 → c2 ≤ c + 1 → s2 ≤ s + 6 → Rn PT (lw_x Lx xs) kL_law 1304 [some (mS 0), some (mR 0), some (mR 118), some (mR 141), some (mI i), v5, v6] [] (mkh μ2 c2 s2) (fun r : MR => r.1 = some (some (mI 1)) ∧ mh_c r.2 ≤ 601024 ∧ mh_s r.2 ≤ 7293034) := by
      intro hle μ2 c2 s2 v5 v6 hI2 hc2 hs2
      refine rn_iinc (k' := 1305) (L' := [some (mS 0), some (mR 0), some (mR 118), some (mR 141), some (mI (i + 6)), v5, v6]) rfl rfl rfl (by omega) rfl ?_
      refine rn_goto rfl ?_
      exact ih (k + 1) _ _ _ _ _ _ (by omega) (by omega) (by omega) (by omega) (by omega) hI2
    refine rn_iload (k' := 14) rfl rfl rfl ?_
    refine rn_aload_nS (k' := 15) rfl rfl rfl ?_
    refine rn_slen (k' := 16) rfl rfl (by omega) ?_
    refine rn_bipush (k' := 17) rfl rfl ?_
    refine rn_isub (k' := 18) rfl rfl (by omega) ?_
    refine rn_icmp_gt (k' := 19) rfl rfl (fun hc1 => ?_) (fun hc1 => ?_)
    · skip
      refine rn_iconst (k' := 1307) rfl rfl ?_
      refine rn_iret rfl (Or.inr (by omega)) ?_
      exact ⟨rfl, (by show c ≤ 601024; omega), (by show s ≤ 7293034; omega)⟩
    · skip
      refine rn_aload_nS (k' := 20) rfl rfl rfl ?_
      refine rn_iload (k' := 21) rfl rfl rfl ?_
      refine rn_sload (k' := 22) rfl rfl (by omega) (by omega) ?_
      refine rn_bipush (k' := 23) rfl rfl ?_
      refine rn_iand (k' := 24) rfl rfl ?_
      rcases (show (m_and ((xs (i).toNat).toInt) (63) < 0 ∨ 48 < m_and ((xs (i).toNat).toInt) (63)) ∨ m_and ((xs (i).toNat).toInt) (63) = 0 ∨ m_and ((xs (i).toNat).toInt) (63) = 1 ∨ m_and ((xs (i).toNat).toInt) (63) = 2 ∨ m_and ((xs (i).toNat).toInt) (63) = 3 ∨ m_and ((xs (i).toNat).toInt) (63) = 4 ∨ m_and ((xs (i).toNat).toInt) (63) = 5 ∨ m_and ((xs (i).toNat).toInt) (63) = 6 ∨ m_and ((xs (i).toNat).toInt) (63) = 7 ∨ m_and ((xs (i).toNat).toInt) (63) = 8 ∨ m_and ((xs (i).toNat).toInt) (63) = 9 ∨ m_and ((xs (i).toNat).toInt) (63) = 10 ∨ m_and ((xs (i).toNat).toInt) (63) = 11 ∨ m_and ((xs (i).toNat).toInt) (63) = 12 ∨ m_and ((xs (i).toNat).toInt) (63) = 13 ∨ m_and ((xs (i).toNat).toInt) (63) = 14 ∨ m_and ((xs (i).toNat).toInt) (63) = 15 ∨ m_and ((xs (i).toNat).toInt) (63) = 16 ∨ m_and ((xs (i).toNat).toInt) (63) = 17 ∨ m_and ((xs (i).toNat).toInt) (63) = 18 ∨ m_and ((xs (i).toNat).toInt) (63) = 19 ∨ m_and ((xs (i).toNat).toInt) (63) = 20 ∨ m_and ((xs (i).toNat).toInt) (63) = 21 ∨ m_and ((xs (i).toNat).toInt) (63) = 22 ∨ m_and ((xs (i).toNat).toInt) (63) = 23 ∨ m_and ((xs (i).toNat).toInt) (63) = 24 ∨ m_and ((xs (i).toNat).toInt) (63) = 25 ∨ m_and ((xs (i).toNat).toInt) (63) = 26 ∨ m_and ((xs (i).toNat).toInt) (63) = 27 ∨ m_and ((xs (i).toNat).toInt) (63) = 28 ∨ m_and ((xs (i).toNat).toInt) (63) = 29 ∨ m_and ((xs (i).toNat).toInt) (63) = 30 ∨ m_and ((xs (i).toNat).toInt) (63) = 31 ∨ m_and ((xs (i).toNat).toInt) (63) = 32 ∨ m_and ((xs (i).toNat).toInt) (63) = 33 ∨ m_and ((xs (i).toNat).toInt) (63) = 34 ∨ m_and ((xs (i).toNat).toInt) (63) = 35 ∨ m_and ((xs (i).toNat).toInt) (63) = 36 ∨ m_and ((xs (i).toNat).toInt) (63) = 37 ∨ m_and ((xs (i).toNat).toInt) (63) = 38 ∨ m_and ((xs (i).toNat).toInt) (63) = 39 ∨ m_and ((xs (i).toNat).toInt) (63) = 40 ∨ m_and ((xs (i).toNat).toInt) (63) = 41 ∨ m_and ((xs (i).toNat).toInt) (63) = 42 ∨ m_and ((xs (i).toNat).toInt) (63) = 43 ∨ m_and ((xs (i).toNat).toInt) (63) = 44 ∨ m_and ((xs (i).toNat).toInt) (63) = 45 ∨ m_and ((xs (i).toNat).toInt) (63) = 46 ∨ m_and ((xs (i).toNat).toInt) (63) = 47 ∨ m_and ((xs (i).toNat).toInt) (63) = 48 by omega) with hs2 | hs2 | hs2 | hs2 | hs2 | hs2 | hs2 | hs2 | hs2 | hs2 | hs2 | hs2 | hs2 | hs2 | hs2 | hs2 | hs2 | hs2 | hs2 | hs2 | hs2 | hs2 | hs2 | hs2 | hs2 | hs2 | hs2 | hs2 | hs2 | hs2 | hs2 | hs2 | hs2 | hs2 | hs2 | hs2 | hs2 | hs2 | hs2 | hs2 | hs2 | hs2 | hs2 | hs2 | hs2 | hs2 | hs2 | hs2 | hs2 | hs2
      · refine rn_swO rfl hs2 ?_
        exact hk2 (by omega) _ _ _ _ _ (hM _ _ hI) (by omega) (by omega)
      · refine rn_swI (j := 0) (t' := 25) rfl (by omega) rfl ?_
        exact lw_case0 h0 (by omega) (by omega) hL hI (hk2 (by omega))
      · refine rn_swI (j := 1) (t' := 82) rfl (by omega) rfl ?_
        exact lw_case1 h1 (by omega) (by omega) hL hI (hk2 (by omega))
      · refine rn_swI (j := 2) (t' := 99) rfl (by omega) rfl ?_
        exact lw_case2 h2 (by omega) (by omega) hL hI (hk2 (by omega))
      · refine rn_swI (j := 3) (t' := 106) rfl (by omega) rfl ?_
        exact lw_case3 h3 (by omega) (by omega) hL hI (hk2 (by omega))
      · refine rn_swI (j := 4) (t' := 113) rfl (by omega) rfl ?_
        exact lw_case4 h4 (by omega) (by omega) hL hI (hk2 (by omega))
      · refine rn_swI (j := 5) (t' := 158) rfl (by omega) rfl ?_
        exact lw_case5 h5 (by omega) (by omega) hL hI (hk2 (by omega))
      · refine rn_swI (j := 6) (t' := 203) rfl (by omega) rfl ?_
        exact lw_case6 h6 (by omega) (by omega) hL hI (hk2 (by omega))
      · refine rn_swI (j := 7) (t' := 230) rfl (by omega) rfl ?_
        exact lw_case7 h7 (by omega) (by omega) hL hI (hk2 (by omega))
      · refine rn_swI (j := 8) (t' := 237) rfl (by omega) rfl ?_
        exact lw_case8 h8 (by omega) (by omega) hL hI (hk2 (by omega))
      · refine rn_swI (j := 9) (t' := 244) rfl (by omega) rfl ?_
        exact lw_case9 h9 (by omega) (by omega) hL hI (hk2 (by omega))
      · refine rn_swI (j := 10) (t' := 261) rfl (by omega) rfl ?_
        exact lw_case10 h10 (by omega) (by omega) hL hI (hk2 (by omega))
      · refine rn_swI (j := 11) (t' := 288) rfl (by omega) rfl ?_
        exact lw_case11 h11 (by omega) (by omega) hL hI (hk2 (by omega))
      · refine rn_swI (j := 12) (t' := 325) rfl (by omega) rfl ?_
        exact lw_case12 h12 (by omega) (by omega) hL hI (hk2 (by omega))
      · refine rn_swI (j := 13) (t' := 372) rfl (by omega) rfl ?_
        exact lw_case13 h13 (by omega) (by omega) hL hI (hk2 (by omega))
      · refine rn_swI (j := 14) (t' := 419) rfl (by omega) rfl ?_
        exact lw_case14 h14 (by omega) (by omega) hL hI (hk2 (by omega))
      · refine rn_swI (j := 15) (t' := 436) rfl (by omega) rfl ?_
        exact lw_case15 h15 (by omega) (by omega) hL hI (hk2 (by omega))
      · refine rn_swI (j := 16) (t' := 483) rfl (by omega) rfl ?_
        exact lw_case16 h16 (by omega) (by omega) hL hI (hk2 (by omega))
      · refine rn_swI (j := 17) (t' := 530) rfl (by omega) rfl ?_
        exact lw_case17 h17 (by omega) (by omega) hL hI (hk2 (by omega))
      · refine rn_swI (j := 18) (t' := 547) rfl (by omega) rfl ?_
        exact lw_case18 h18 (by omega) (by omega) hL hI (hk2 (by omega))
      · refine rn_swI (j := 19) (t' := 594) rfl (by omega) rfl ?_
        exact lw_case19 h19 (by omega) (by omega) hL hI (hk2 (by omega))
      · refine rn_swI (j := 20) (t' := 631) rfl (by omega) rfl ?_
        exact lw_case20 h20 (by omega) (by omega) hL hI (hk2 (by omega))
      · refine rn_swI (j := 21) (t' := 648) rfl (by omega) rfl ?_
        exact lw_case21 h21 (by omega) (by omega) hL hI (hk2 (by omega))
      · refine rn_swI (j := 22) (t' := 675) rfl (by omega) rfl ?_
        exact lw_case22 h22 (by omega) (by omega) hL hI (hk2 (by omega))
      · refine rn_swI (j := 23) (t' := 702) rfl (by omega) rfl ?_
        exact lw_case23 h23 (by omega) (by omega) hL hI (hk2 (by omega))
      · refine rn_swI (j := 24) (t' := 709) rfl (by omega) rfl ?_
        exact lw_case24 h24 (by omega) (by omega) hL hI (hk2 (by omega))
      · refine rn_swI (j := 25) (t' := 726) rfl (by omega) rfl ?_
        exact lw_case25 h25 (by omega) (by omega) hL hI (hk2 (by omega))
      · refine rn_swI (j := 26) (t' := 753) rfl (by omega) rfl ?_
        exact lw_case26 h26 (by omega) (by omega) hL hI (hk2 (by omega))
      · refine rn_swI (j := 27) (t' := 790) rfl (by omega) rfl ?_
        exact lw_case27 h27 (by omega) (by omega) hL hI (hk2 (by omega))
      · refine rn_swI (j := 28) (t' := 797) rfl (by omega) rfl ?_
        exact lw_case28 h28 (by omega) (by omega) hL hI (hk2 (by omega))
      · refine rn_swI (j := 29) (t' := 814) rfl (by omega) rfl ?_
        exact lw_case29 h29 (by omega) (by omega) hL hI (hk2 (by omega))
      · refine rn_swI (j := 30) (t' := 821) rfl (by omega) rfl ?_
        exact lw_case30 h30 (by omega) (by omega) hL hI (hk2 (by omega))
      · refine rn_swI (j := 31) (t' := 848) rfl (by omega) rfl ?_
        exact lw_case31 h31 (by omega) (by omega) hL hI (hk2 (by omega))
      · refine rn_swI (j := 32) (t' := 875) rfl (by omega) rfl ?_
        exact lw_case32 h32 (by omega) (by omega) hL hI (hk2 (by omega))
      · refine rn_swI (j := 33) (t' := 902) rfl (by omega) rfl ?_
        exact lw_case33 h33 (by omega) (by omega) hL hI (hk2 (by omega))
      · refine rn_swI (j := 34) (t' := 909) rfl (by omega) rfl ?_
        exact lw_case34 h34 (by omega) (by omega) hL hI (hk2 (by omega))
      · refine rn_swI (j := 35) (t' := 926) rfl (by omega) rfl ?_
        exact lw_case35 h35 (by omega) (by omega) hL hI (hk2 (by omega))
      · refine rn_swI (j := 36) (t' := 943) rfl (by omega) rfl ?_
        exact lw_case36 h36 (by omega) (by omega) hL hI (hk2 (by omega))
      · refine rn_swI (j := 37) (t' := 990) rfl (by omega) rfl ?_
        exact lw_case37 h37 (by omega) (by omega) hL hI (hk2 (by omega))
      · refine rn_swI (j := 38) (t' := 1037) rfl (by omega) rfl ?_
        exact lw_case38 h38 (by omega) (by omega) hL hI (hk2 (by omega))
      · refine rn_swI (j := 39) (t' := 1074) rfl (by omega) rfl ?_
        exact lw_case39 h39 (by omega) (by omega) hL hI (hk2 (by omega))
      · refine rn_swI (j := 40) (t' := 1081) rfl (by omega) rfl ?_
        exact lw_case40 h40 (by omega) (by omega) hL hI (hk2 (by omega))
      · refine rn_swI (j := 41) (t' := 1108) rfl (by omega) rfl ?_
        exact lw_case41 h41 (by omega) (by omega) hL hI (hk2 (by omega))
      · refine rn_swI (j := 42) (t' := 1155) rfl (by omega) rfl ?_
        exact lw_case42 h42 (by omega) (by omega) hL hI (hk2 (by omega))
      · refine rn_swI (j := 43) (t' := 1212) rfl (by omega) rfl ?_
        exact lw_case43 h43 (by omega) (by omega) hL hI (hk2 (by omega))
      · refine rn_swI (j := 44) (t' := 1219) rfl (by omega) rfl ?_
        exact lw_case44 h44 (by omega) (by omega) hL hI (hk2 (by omega))
      · refine rn_swI (j := 45) (t' := 1236) rfl (by omega) rfl ?_
        exact lw_case45 h45 (by omega) (by omega) hL hI (hk2 (by omega))
      · refine rn_swI (j := 46) (t' := 1253) rfl (by omega) rfl ?_
        exact lw_case46 h46 (by omega) (by omega) hL hI (hk2 (by omega))
      · refine rn_swI (j := 47) (t' := 1270) rfl (by omega) rfl ?_
        exact lw_case47 h47 (by omega) (by omega) hL hI (hk2 (by omega))
      · refine rn_swI (j := 48) (t' := 1287) rfl (by omega) rfl ?_
        exact lw_case48 h48 (by omega) (by omega) hL hI (hk2 (by omega))
/-- THE CONSTRUCTORS: from nothing to the law's loop, with the numbers M0 -/
def LawInit : Prop := ∀ (x : MX) (Q : MR → Prop), Rn PT x kL_law 13 [some (mS 0), some (mR 0), some (mR 118), some (mR 141), some (mI 0), none, none] [] (mkh M0 142 34179) Q → Rn PT x kL_law 0 (m_ent [mS 0] 7) [] mh_0 Q
theorem law_pure_of {Inv : Nat → (Nat → Nat → Int) → Prop} (hP : ∀ k, k ≤ 511 → Pairs (Inv k) (Inv (k + 1))) (hM : ∀ k μ, Inv k μ → Inv (k + 1) μ) (h0 : Inv 0 M0) (hi : LawInit) : LawPure := by
  intro L xs hL
  exact hi _ _ (lw_loop hP hM hL (L + 1) 0 0 M0 142 34179 none none (by omega) (by omega) (by omega) (by omega) (by omega) h0)
