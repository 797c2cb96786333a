/-! ===== printed by wip/whole/genrn.py: rows of the small machine, over mkh μ c s ===== -/
theorem w32_id {z : Int} (h : -2147483648 ≤ z ∧ z < 2147483648) : w32 z = z := by
  unfold w32
  exact Int.bmod_eq_of_le (by omega) (by omega)
theorem w64_id {z : Int} (h : -9223372036854775808 ≤ z ∧ z < 9223372036854775808) : w64 z = z := by
  unfold w64
  exact Int.bmod_eq_of_le (by omega) (by omega)
section RN
variable {x : MX} {C : List MI} {k k' : Nat} {L L' : List (Option MV)} {S : List MV} {Q : MR → Prop} {μ : Nat → Nat → Int} {c s : Nat}
theorem rn_iconst {n : Int} (hC : C[k]? = some (.iconst n, 0, 0, 0, [])) (hk : k + 1 = k') (kk : Rn PT x C k' L (mI n :: S) (mkh μ c s) Q) : Rn PT x C k L S (mkh μ c s) Q := by
  subst hk
  exact Rn.go hC rfl kk
theorem rn_bipush {n : Int} (hC : C[k]? = some (.bipush n, 0, 0, 0, [])) (hk : k + 1 = k') (kk : Rn PT x C k' L (mI n :: S) (mkh μ c s) Q) : Rn PT x C k L S (mkh μ c s) Q := by
  subst hk
  exact Rn.go hC rfl kk
theorem rn_sipush {n : Int} (hC : C[k]? = some (.sipush n, 0, 0, 0, [])) (hk : k + 1 = k') (kk : Rn PT x C k' L (mI n :: S) (mkh μ c s) Q) : Rn PT x C k L S (mkh μ c s) Q := by
  subst hk
  exact Rn.go hC rfl kk
theorem rn_ldc {n : Nat} {z : Int} (hC : C[k]? = some (.ldc n, 0, 0, z, [])) (hk : k + 1 = k') (kk : Rn PT x C k' L (mI z :: S) (mkh μ c s) Q) : Rn PT x C k L S (mkh μ c s) Q := by
  subst hk
  exact Rn.go hC rfl kk
theorem rn_ldc_w {n : Nat} {z : Int} (hC : C[k]? = some (.ldc_w n, 0, 0, z, [])) (hk : k + 1 = k') (kk : Rn PT x C k' L (mI z :: S) (mkh μ c s) Q) : Rn PT x C k L S (mkh μ c s) Q := by
  subst hk
  exact Rn.go hC rfl kk
theorem rn_ldc2_w {n : Nat} {z : Int} (hC : C[k]? = some (.ldc2_w n, 0, 0, z, [])) (hk : k + 1 = k') (kk : Rn PT x C k' L (mJ z :: S) (mkh μ c s) Q) : Rn PT x C k L S (mkh μ c s) Q := by
  subst hk
  exact Rn.go hC rfl kk
theorem rn_lconst {n : Fin 2} {z : Int} (hC : C[k]? = some (.lconst n, 0, 0, 0, [])) (hk : k + 1 = k') (hz : ((n : Nat) : Int) = z) (kk : Rn PT x C k' L (mJ z :: S) (mkh μ c s) Q) : Rn PT x C k L S (mkh μ c s) Q := by
  subst hk
  subst hz; exact Rn.go hC rfl kk
theorem rn_iload {n : Nat} {z : Int} (hC : C[k]? = some (.iload n, 0, 0, 0, [])) (hk : k + 1 = k') (hL : L[n]? = some (some (mI z))) (kk : Rn PT x C k' L (mI z :: S) (mkh μ c s) Q) : Rn PT x C k L S (mkh μ c s) Q := by
  subst hk
  refine Rn.go hC ?_ kk
  show (match m_one x (.iload n) (0, 0, 0, []) L S (mkh μ c s) with | some (L', S', h') => some (Sum.inl (k + 1, L', S', h')) | none => none) = _
  have : m_one x (.iload n) (0, 0, 0, []) L S (mkh μ c s) = some (L, mI z :: S, mkh μ c s) := by unfold m_one; dsimp only; rw [hL]
  rw [this]
theorem rn_iload_n {n : Fin 4} {z : Int} (hC : C[k]? = some (.iload_n n, 0, 0, 0, [])) (hk : k + 1 = k') (hL : L[(n : Nat)]? = some (some (mI z))) (kk : Rn PT x C k' L (mI z :: S) (mkh μ c s) Q) : Rn PT x C k L S (mkh μ c s) Q := by
  subst hk
  refine Rn.go hC ?_ kk
  show (match m_one x (.iload_n n) (0, 0, 0, []) L S (mkh μ c s) with | some (L', S', h') => some (Sum.inl (k + 1, L', S', h')) | none => none) = _
  have : m_one x (.iload_n n) (0, 0, 0, []) L S (mkh μ c s) = some (L, mI z :: S, mkh μ c s) := by unfold m_one; dsimp only; rw [hL]
  rw [this]
theorem rn_lload {n : Nat} {z : Int} (hC : C[k]? = some (.lload n, 0, 0, 0, [])) (hk : k + 1 = k') (hL : L[n]? = some (some (mJ z))) (kk : Rn PT x C k' L (mJ z :: S) (mkh μ c s) Q) : Rn PT x C k L S (mkh μ c s) Q := by
  subst hk
  refine Rn.go hC ?_ kk
  show (match m_one x (.lload n) (0, 0, 0, []) L S (mkh μ c s) with | some (L', S', h') => some (Sum.inl (k + 1, L', S', h')) | none => none) = _
  have : m_one x (.lload n) (0, 0, 0, []) L S (mkh μ c s) = some (L, mJ z :: S, mkh μ c s) := by unfold m_one; dsimp only; rw [hL]
  rw [this]
theorem rn_lload_n {n : Fin 4} {z : Int} (hC : C[k]? = some (.lload_n n, 0, 0, 0, [])) (hk : k + 1 = k') (hL : L[(n : Nat)]? = some (some (mJ z))) (kk : Rn PT x C k' L (mJ z :: S) (mkh μ c s) Q) : Rn PT x C k L S (mkh μ c s) Q := by
  subst hk
  refine Rn.go hC ?_ kk
  show (match m_one x (.lload_n n) (0, 0, 0, []) L S (mkh μ c s) with | some (L', S', h') => some (Sum.inl (k + 1, L', S', h')) | none => none) = _
  have : m_one x (.lload_n n) (0, 0, 0, []) L S (mkh μ c s) = some (L, mJ z :: S, mkh μ c s) := by unfold m_one; dsimp only; rw [hL]
  rw [this]
theorem rn_aload {n a : Nat} (hC : C[k]? = some (.aload n, 0, 0, 0, [])) (hk : k + 1 = k') (hL : L[n]? = some (some (mR a))) (kk : Rn PT x C k' L (mR a :: S) (mkh μ c s) Q) : Rn PT x C k L S (mkh μ c s) Q := by
  subst hk
  refine Rn.go hC ?_ kk
  show (match m_one x (.aload n) (0, 0, 0, []) L S (mkh μ c s) with | some (L', S', h') => some (Sum.inl (k + 1, L', S', h')) | none => none) = _
  have : m_one x (.aload n) (0, 0, 0, []) L S (mkh μ c s) = some (L, mR a :: S, mkh μ c s) := by unfold m_one; dsimp only; rw [hL]
  rw [this]
theorem rn_aload_n {n : Fin 4} {a : Nat} (hC : C[k]? = some (.aload_n n, 0, 0, 0, [])) (hk : k + 1 = k') (hL : L[(n : Nat)]? = some (some (mR a))) (kk : Rn PT x C k' L (mR a :: S) (mkh μ c s) Q) : Rn PT x C k L S (mkh μ c s) Q := by
  subst hk
  refine Rn.go hC ?_ kk
  show (match m_one x (.aload_n n) (0, 0, 0, []) L S (mkh μ c s) with | some (L', S', h') => some (Sum.inl (k + 1, L', S', h')) | none => none) = _
  have : m_one x (.aload_n n) (0, 0, 0, []) L S (mkh μ c s) = some (L, mR a :: S, mkh μ c s) := by unfold m_one; dsimp only; rw [hL]
  rw [this]
theorem rn_istore {n : Nat} {z : Int} (hC : C[k]? = some (.istore n, 0, 0, 0, [])) (hk : k + 1 = k') (hn : n < L.length) (hL : m_st1 L n (mI z) = L') (kk : Rn PT x C k' L' S (mkh μ c s) Q) : Rn PT x C k L (mI z :: S) (mkh μ c s) Q := by
  subst hk
  subst hL
  refine Rn.go hC ?_ kk
  show (match (if n < L.length then some (m_st1 L n (mI z), S, mkh μ c s) else none) with | some (L', S', h') => some (Sum.inl (k + 1, L', S', h')) | none => none) = _
  rw [if_pos hn]
theorem rn_istore_n {n : Fin 4} {z : Int} (hC : C[k]? = some (.istore_n n, 0, 0, 0, [])) (hk : k + 1 = k') (hn : (n : Nat) < L.length) (hL : m_st1 L (n : Nat) (mI z) = L') (kk : Rn PT x C k' L' S (mkh μ c s) Q) : Rn PT x C k L (mI z :: S) (mkh μ c s) Q := by
  subst hk
  subst hL
  refine Rn.go hC ?_ kk
  show (match (if (n : Nat) < L.length then some (m_st1 L (n : Nat) (mI z), S, mkh μ c s) else none) with | some (L', S', h') => some (Sum.inl (k + 1, L', S', h')) | none => none) = _
  rw [if_pos hn]
theorem rn_astore {n a : Nat} (hC : C[k]? = some (.astore n, 0, 0, 0, [])) (hk : k + 1 = k') (hn : n < L.length) (hL : m_st1 L n (mR a) = L') (kk : Rn PT x C k' L' S (mkh μ c s) Q) : Rn PT x C k L (mR a :: S) (mkh μ c s) Q := by
  subst hk
  subst hL
  refine Rn.go hC ?_ kk
  show (match (if n < L.length then some (m_st1 L n (mR a), S, mkh μ c s) else none) with | some (L', S', h') => some (Sum.inl (k + 1, L', S', h')) | none => none) = _
  rw [if_pos hn]
theorem rn_astore_n {n : Fin 4} {a : Nat} (hC : C[k]? = some (.astore_n n, 0, 0, 0, [])) (hk : k + 1 = k') (hn : (n : Nat) < L.length) (hL : m_st1 L (n : Nat) (mR a) = L') (kk : Rn PT x C k' L' S (mkh μ c s) Q) : Rn PT x C k L (mR a :: S) (mkh μ c s) Q := by
  subst hk
  subst hL
  refine Rn.go hC ?_ kk
  show (match (if (n : Nat) < L.length then some (m_st1 L (n : Nat) (mR a), S, mkh μ c s) else none) with | some (L', S', h') => some (Sum.inl (k + 1, L', S', h')) | none => none) = _
  rw [if_pos hn]
theorem rn_lstore {n : Nat} {z : Int} (hC : C[k]? = some (.lstore n, 0, 0, 0, [])) (hk : k + 1 = k') (hn : n + 1 < L.length) (hL : m_st2 L n (mJ z) = L') (kk : Rn PT x C k' L' S (mkh μ c s) Q) : Rn PT x C k L (mJ z :: S) (mkh μ c s) Q := by
  subst hk
  subst hL
  refine Rn.go hC ?_ kk
  show (match (if n + 1 < L.length then some (m_st2 L n (mJ z), S, mkh μ c s) else none) with | some (L', S', h') => some (Sum.inl (k + 1, L', S', h')) | none => none) = _
  rw [if_pos hn]
theorem rn_lstore_n {n : Fin 4} {z : Int} (hC : C[k]? = some (.lstore_n n, 0, 0, 0, [])) (hk : k + 1 = k') (hn : (n : Nat) + 1 < L.length) (hL : m_st2 L (n : Nat) (mJ z) = L') (kk : Rn PT x C k' L' S (mkh μ c s) Q) : Rn PT x C k L (mJ z :: S) (mkh μ c s) Q := by
  subst hk
  subst hL
  refine Rn.go hC ?_ kk
  show (match (if (n : Nat) + 1 < L.length then some (m_st2 L (n : Nat) (mJ z), S, mkh μ c s) else none) with | some (L', S', h') => some (Sum.inl (k + 1, L', S', h')) | none => none) = _
  rw [if_pos hn]
theorem rn_iinc {n : Nat} {z j : Int} (hC : C[k]? = some (.iinc n j, 0, 0, 0, [])) (hk : k + 1 = k') (hL : L[n]? = some (some (mI z))) (hb : -2147483648 ≤ z + j ∧ z + j < 2147483648) (hL' : m_st1 L n (mI (z + j)) = L') (kk : Rn PT x C k' L' S (mkh μ c s) Q) : Rn PT x C k L S (mkh μ c s) Q := by
  subst hk
  subst hL'
  refine Rn.go hC ?_ kk
  have : m_one x (.iinc n j) (0, 0, 0, []) L S (mkh μ c s) = some (m_st1 L n (mI (z + j)), S, mkh μ c s) := by unfold m_one; dsimp only; rw [hL]; dsimp only; rw [w32_id hb]
  show (match m_one x (.iinc n j) (0, 0, 0, []) L S (mkh μ c s) with | some (L', S', h') => some (Sum.inl (k + 1, L', S', h')) | none => none) = _
  rw [this]
theorem rn_iadd {u y : Int} (hC : C[k]? = some (.iadd, 0, 0, 0, [])) (hk : k + 1 = k') (hb : -2147483648 ≤ u + y ∧ u + y < 2147483648) (kk : Rn PT x C k' L (mI (u + y) :: S) (mkh μ c s) Q) : Rn PT x C k L (mI y :: mI u :: S) (mkh μ c s) Q := by
  subst hk
  rw [← w32_id hb] at kk; exact Rn.go hC rfl kk
theorem rn_iaddW {u y : Int} (hC : C[k]? = some (.iadd, 0, 0, 0, [])) (hk : k + 1 = k') (kk : Rn PT x C k' L (mI (w32 (u + y)) :: S) (mkh μ c s) Q) : Rn PT x C k L (mI y :: mI u :: S) (mkh μ c s) Q := by
  subst hk
  exact Rn.go hC rfl kk
theorem rn_isub {u y : Int} (hC : C[k]? = some (.isub, 0, 0, 0, [])) (hk : k + 1 = k') (hb : -2147483648 ≤ u - y ∧ u - y < 2147483648) (kk : Rn PT x C k' L (mI (u - y) :: S) (mkh μ c s) Q) : Rn PT x C k L (mI y :: mI u :: S) (mkh μ c s) Q := by
  subst hk
  rw [← w32_id hb] at kk; exact Rn.go hC rfl kk
theorem rn_isubW {u y : Int} (hC : C[k]? = some (.isub, 0, 0, 0, [])) (hk : k + 1 = k') (kk : Rn PT x C k' L (mI (w32 (u - y)) :: S) (mkh μ c s) Q) : Rn PT x C k L (mI y :: mI u :: S) (mkh μ c s) Q := by
  subst hk
  exact Rn.go hC rfl kk
theorem rn_imul {u y : Int} (hC : C[k]? = some (.imul, 0, 0, 0, [])) (hk : k + 1 = k') (hb : -2147483648 ≤ u * y ∧ u * y < 2147483648) (kk : Rn PT x C k' L (mI (u * y) :: S) (mkh μ c s) Q) : Rn PT x C k L (mI y :: mI u :: S) (mkh μ c s) Q := by
  subst hk
  rw [← w32_id hb] at kk; exact Rn.go hC rfl kk
theorem rn_imulW {u y : Int} (hC : C[k]? = some (.imul, 0, 0, 0, [])) (hk : k + 1 = k') (kk : Rn PT x C k' L (mI (w32 (u * y)) :: S) (mkh μ c s) Q) : Rn PT x C k L (mI y :: mI u :: S) (mkh μ c s) Q := by
  subst hk
  exact Rn.go hC rfl kk
theorem rn_idiv {u y : Int} (hC : C[k]? = some (.idiv, 0, 0, 0, [])) (hk : k + 1 = k') (hy : ¬ y = 0) (hb : -2147483648 ≤ u.tdiv y ∧ u.tdiv y < 2147483648) (kk : Rn PT x C k' L (mI (u.tdiv y) :: S) (mkh μ c s) Q) : Rn PT x C k L (mI y :: mI u :: S) (mkh μ c s) Q := by
  subst hk
  rw [← w32_id hb] at kk
  refine Rn.go hC ?_ kk
  show (match (if y = 0 then none else some (L, mI (w32 (u.tdiv y)) :: S, mkh μ c s)) with | some (L', S', h') => some (Sum.inl (k + 1, L', S', h')) | none => none) = _
  rw [if_neg hy]
theorem rn_irem {u y : Int} (hC : C[k]? = some (.irem, 0, 0, 0, [])) (hk : k + 1 = k') (hy : ¬ y = 0) (kk : Rn PT x C k' L (mI (u.tmod y) :: S) (mkh μ c s) Q) : Rn PT x C k L (mI y :: mI u :: S) (mkh μ c s) Q := by
  subst hk
  refine Rn.go hC ?_ kk
  show (match (if y = 0 then none else some (L, mI (u.tmod y) :: S, mkh μ c s)) with | some (L', S', h') => some (Sum.inl (k + 1, L', S', h')) | none => none) = _
  rw [if_neg hy]
theorem rn_ineg {u : Int} (hC : C[k]? = some (.ineg, 0, 0, 0, [])) (hk : k + 1 = k') (hb : -2147483648 ≤ -u ∧ -u < 2147483648) (kk : Rn PT x C k' L (mI (-u) :: S) (mkh μ c s) Q) : Rn PT x C k L (mI u :: S) (mkh μ c s) Q := by
  subst hk
  rw [← w32_id hb] at kk; exact Rn.go hC rfl kk
theorem rn_iand {u y : Int} (hC : C[k]? = some (.iand, 0, 0, 0, [])) (hk : k + 1 = k') (kk : Rn PT x C k' L (mI (m_and u y) :: S) (mkh μ c s) Q) : Rn PT x C k L (mI y :: mI u :: S) (mkh μ c s) Q := by
  subst hk
  exact Rn.go hC rfl kk
theorem rn_ior {u y : Int} (hC : C[k]? = some (.ior, 0, 0, 0, [])) (hk : k + 1 = k') (kk : Rn PT x C k' L (mI (m_or u y) :: S) (mkh μ c s) Q) : Rn PT x C k L (mI y :: mI u :: S) (mkh μ c s) Q := by
  subst hk
  exact Rn.go hC rfl kk
theorem rn_ixor {u y : Int} (hC : C[k]? = some (.ixor, 0, 0, 0, [])) (hk : k + 1 = k') (kk : Rn PT x C k' L (mI (m_xor u y) :: S) (mkh μ c s) Q) : Rn PT x C k L (mI y :: mI u :: S) (mkh μ c s) Q := by
  subst hk
  exact Rn.go hC rfl kk
theorem rn_ishl {u y : Int} (hC : C[k]? = some (.ishl, 0, 0, 0, [])) (hk : k + 1 = k') (kk : Rn PT x C k' L (mI (m_shl u y) :: S) (mkh μ c s) Q) : Rn PT x C k L (mI y :: mI u :: S) (mkh μ c s) Q := by
  subst hk
  exact Rn.go hC rfl kk
theorem rn_ishr {u y : Int} (hC : C[k]? = some (.ishr, 0, 0, 0, [])) (hk : k + 1 = k') (kk : Rn PT x C k' L (mI (m_shr u y) :: S) (mkh μ c s) Q) : Rn PT x C k L (mI y :: mI u :: S) (mkh μ c s) Q := by
  subst hk
  exact Rn.go hC rfl kk
theorem rn_iushr {u y : Int} (hC : C[k]? = some (.iushr, 0, 0, 0, [])) (hk : k + 1 = k') (kk : Rn PT x C k' L (mI (m_ushr u y) :: S) (mkh μ c s) Q) : Rn PT x C k L (mI y :: mI u :: S) (mkh μ c s) Q := by
  subst hk
  exact Rn.go hC rfl kk
theorem rn_i2l {u : Int} (hC : C[k]? = some (.i2l, 0, 0, 0, [])) (hk : k + 1 = k') (kk : Rn PT x C k' L (mJ u :: S) (mkh μ c s) Q) : Rn PT x C k L (mI u :: S) (mkh μ c s) Q := by
  subst hk
  exact Rn.go hC rfl kk
theorem rn_i2b {u : Int} (hC : C[k]? = some (.i2b, 0, 0, 0, [])) (hk : k + 1 = k') (kk : Rn PT x C k' L (mI (m_i2b u) :: S) (mkh μ c s) Q) : Rn PT x C k L (mI u :: S) (mkh μ c s) Q := by
  subst hk
  exact Rn.go hC rfl kk
theorem rn_land {u y : Int} (hC : C[k]? = some (.land, 0, 0, 0, [])) (hk : k + 1 = k') (kk : Rn PT x C k' L (mJ (m_land u y) :: S) (mkh μ c s) Q) : Rn PT x C k L (mJ y :: mJ u :: S) (mkh μ c s) Q := by
  subst hk
  exact Rn.go hC rfl kk
theorem rn_lor {u y : Int} (hC : C[k]? = some (.lor, 0, 0, 0, [])) (hk : k + 1 = k') (kk : Rn PT x C k' L (mJ (m_lor u y) :: S) (mkh μ c s) Q) : Rn PT x C k L (mJ y :: mJ u :: S) (mkh μ c s) Q := by
  subst hk
  exact Rn.go hC rfl kk
theorem rn_lxor {u y : Int} (hC : C[k]? = some (.lxor, 0, 0, 0, [])) (hk : k + 1 = k') (kk : Rn PT x C k' L (mJ (m_lxor u y) :: S) (mkh μ c s) Q) : Rn PT x C k L (mJ y :: mJ u :: S) (mkh μ c s) Q := by
  subst hk
  exact Rn.go hC rfl kk
theorem rn_lshl {u y : Int} (hC : C[k]? = some (.lshl, 0, 0, 0, [])) (hk : k + 1 = k') (kk : Rn PT x C k' L (mJ (m_lshl u y) :: S) (mkh μ c s) Q) : Rn PT x C k L (mI y :: mJ u :: S) (mkh μ c s) Q := by
  subst hk
  exact Rn.go hC rfl kk
theorem rn_lushr {u y : Int} (hC : C[k]? = some (.lushr, 0, 0, 0, [])) (hk : k + 1 = k') (kk : Rn PT x C k' L (mJ (m_lushr u y) :: S) (mkh μ c s) Q) : Rn PT x C k L (mI y :: mJ u :: S) (mkh μ c s) Q := by
  subst hk
  exact Rn.go hC rfl kk
theorem rn_lcmp {u y : Int} (hC : C[k]? = some (.lcmp, 0, 0, 0, [])) (hk : k + 1 = k') (kk : Rn PT x C k' L (mI (m_cmp u y) :: S) (mkh μ c s) Q) : Rn PT x C k L (mJ y :: mJ u :: S) (mkh μ c s) Q := by
  subst hk
  exact Rn.go hC rfl kk
theorem rn_dupI {u : Int} (hC : C[k]? = some (.dup, 0, 0, 0, [])) (hk : k + 1 = k') (kk : Rn PT x C k' L (mI u :: mI u :: S) (mkh μ c s) Q) : Rn PT x C k L (mI u :: S) (mkh μ c s) Q := by
  subst hk
  exact Rn.go hC rfl kk
theorem rn_dupR {a : Nat} (hC : C[k]? = some (.dup, 0, 0, 0, [])) (hk : k + 1 = k') (kk : Rn PT x C k' L (mR a :: mR a :: S) (mkh μ c s) Q) : Rn PT x C k L (mR a :: S) (mkh μ c s) Q := by
  subst hk
  exact Rn.go hC rfl kk
theorem rn_dup2 {u : Int} {a : Nat} (hC : C[k]? = some (.dup2, 0, 0, 0, [])) (hk : k + 1 = k') (kk : Rn PT x C k' L (mI u :: mR a :: mI u :: mR a :: S) (mkh μ c s) Q) : Rn PT x C k L (mI u :: mR a :: S) (mkh μ c s) Q := by
  subst hk
  exact Rn.go hC rfl kk
theorem rn_popI {u : Int} (hC : C[k]? = some (.pop, 0, 0, 0, [])) (hk : k + 1 = k') (kk : Rn PT x C k' L S (mkh μ c s) Q) : Rn PT x C k L (mI u :: S) (mkh μ c s) Q := by
  subst hk
  exact Rn.go hC rfl kk
theorem rn_getI {idx ci j a n : Nat} (hC : C[k]? = some (.getfield idx, ci, j, 0, [])) (hk : k + 1 = k') (hK : K0[a]? = some (ci, n)) (hc : ci < 100 ∧ j < n) (ht : m_fty ci j = 0) (kk : Rn PT x C k' L (mI (μ a j) :: S) (mkh μ c s) Q) : Rn PT x C k L (mR a :: S) (mkh μ c s) Q := by
  subst hk
  refine Rn.go hC ?_ kk
  have h1 : m_one x (.getfield idx) (ci, j, 0, []) L (mR a :: S) (mkh μ c s) = some (L, mI (μ a j) :: S, mkh μ c s) := by
    unfold m_one; dsimp only
    rw [show (mh_k (mkh μ c s))[a]? = some (ci, n) from hK]; dsimp only
    rw [if_pos ⟨rfl, hc.1, hc.2⟩, ht]
    rfl
  show (if ci = 200 then _ else (match m_one x (.getfield idx) (ci, j, 0, []) L (mR a :: S) (mkh μ c s) with | some (L', S', h') => some (Sum.inl (k + 1, L', S', h')) | none => none)) = _
  rw [if_neg (by omega), h1]
theorem rn_getZ {idx ci j a n : Nat} (hC : C[k]? = some (.getfield idx, ci, j, 0, [])) (hk : k + 1 = k') (hK : K0[a]? = some (ci, n)) (hc : ci < 100 ∧ j < n) (ht : m_fty ci j = 1) (kk : Rn PT x C k' L (mI (μ a j) :: S) (mkh μ c s) Q) : Rn PT x C k L (mR a :: S) (mkh μ c s) Q := by
  subst hk
  refine Rn.go hC ?_ kk
  have h1 : m_one x (.getfield idx) (ci, j, 0, []) L (mR a :: S) (mkh μ c s) = some (L, mI (μ a j) :: S, mkh μ c s) := by
    unfold m_one; dsimp only
    rw [show (mh_k (mkh μ c s))[a]? = some (ci, n) from hK]; dsimp only
    rw [if_pos ⟨rfl, hc.1, hc.2⟩, ht]
    rfl
  show (if ci = 200 then _ else (match m_one x (.getfield idx) (ci, j, 0, []) L (mR a :: S) (mkh μ c s) with | some (L', S', h') => some (Sum.inl (k + 1, L', S', h')) | none => none)) = _
  rw [if_neg (by omega), h1]
theorem rn_getJ {idx ci j a n : Nat} (hC : C[k]? = some (.getfield idx, ci, j, 0, [])) (hk : k + 1 = k') (hK : K0[a]? = some (ci, n)) (hc : ci < 100 ∧ j < n) (ht : m_fty ci j = 2) (kk : Rn PT x C k' L (mJ (μ a j) :: S) (mkh μ c s) Q) : Rn PT x C k L (mR a :: S) (mkh μ c s) Q := by
  subst hk
  refine Rn.go hC ?_ kk
  have h1 : m_one x (.getfield idx) (ci, j, 0, []) L (mR a :: S) (mkh μ c s) = some (L, mJ (μ a j) :: S, mkh μ c s) := by
    unfold m_one; dsimp only
    rw [show (mh_k (mkh μ c s))[a]? = some (ci, n) from hK]; dsimp only
    rw [if_pos ⟨rfl, hc.1, hc.2⟩, ht]
    rfl
  show (if ci = 200 then _ else (match m_one x (.getfield idx) (ci, j, 0, []) L (mR a :: S) (mkh μ c s) with | some (L', S', h') => some (Sum.inl (k + 1, L', S', h')) | none => none)) = _
  rw [if_neg (by omega), h1]
theorem rn_getR {idx ci j a n : Nat} {t : Nat} (hC : C[k]? = some (.getfield idx, ci, j, 0, [])) (hk : k + 1 = k') (hK : K0[a]? = some (ci, n)) (hc : ci < 100 ∧ j < n) (ht : m_fty ci j = 3) (hr : R0 a j = some t) (kk : Rn PT x C k' L (mR t :: S) (mkh μ c s) Q) : Rn PT x C k L (mR a :: S) (mkh μ c s) Q := by
  subst hk
  refine Rn.go hC ?_ kk
  have h1 : m_one x (.getfield idx) (ci, j, 0, []) L (mR a :: S) (mkh μ c s) = some (L, mR t :: S, mkh μ c s) := by
    unfold m_one; dsimp only
    rw [show (mh_k (mkh μ c s))[a]? = some (ci, n) from hK]; dsimp only
    rw [if_pos ⟨rfl, hc.1, hc.2⟩, ht]
    show some (L, (.inr (.inl (R0 a j)) : MV) :: S, mkh μ c s) = _
    rw [hr]
  show (if ci = 200 then _ else (match m_one x (.getfield idx) (ci, j, 0, []) L (mR a :: S) (mkh μ c s) with | some (L', S', h') => some (Sum.inl (k + 1, L', S', h')) | none => none)) = _
  rw [if_neg (by omega), h1]
theorem rn_putI {idx ci j a n : Nat} {z : Int} (hC : C[k]? = some (.putfield idx, ci, j, 0, [])) (hk : k + 1 = k') (hK : K0[a]? = some (ci, n)) (hc : ci < 100 ∧ j < n) (ht : m_fty ci j = 0) (kk : Rn PT x C k' L S (mkh (m_set μ a j z) c s) Q) : Rn PT x C k L (mI z :: mR a :: S) (mkh μ c s) Q := by
  subst hk
  refine Rn.go hC ?_ kk
  have h1 : m_one x (.putfield idx) (ci, j, 0, []) L (mI z :: mR a :: S) (mkh μ c s) = some (L, S, mkh (m_set μ a j z) c s) := by
    unfold m_one; dsimp only
    rw [show (mh_k (mkh μ c s))[a]? = some (ci, n) from hK]; dsimp only
    rw [if_pos ⟨rfl, hc.1, hc.2, Or.inl ht⟩]; rfl
  show (if ci = 200 then _ else (match m_one x (.putfield idx) (ci, j, 0, []) L (mI z :: mR a :: S) (mkh μ c s) with | some (L', S', h') => some (Sum.inl (k + 1, L', S', h')) | none => none)) = _
  rw [if_neg (by omega), h1]
theorem rn_putZ {idx ci j a n : Nat} {z : Int} (hC : C[k]? = some (.putfield idx, ci, j, 0, [])) (hk : k + 1 = k') (hK : K0[a]? = some (ci, n)) (hc : ci < 100 ∧ j < n) (ht : m_fty ci j = 1) (hz : z = 0 ∨ z = 1) (kk : Rn PT x C k' L S (mkh (m_set μ a j z) c s) Q) : Rn PT x C k L (mI z :: mR a :: S) (mkh μ c s) Q := by
  subst hk
  refine Rn.go hC ?_ kk
  have h1 : m_one x (.putfield idx) (ci, j, 0, []) L (mI z :: mR a :: S) (mkh μ c s) = some (L, S, mkh (m_set μ a j z) c s) := by
    unfold m_one; dsimp only
    rw [show (mh_k (mkh μ c s))[a]? = some (ci, n) from hK]; dsimp only
    rw [if_pos ⟨rfl, hc.1, hc.2, Or.inr ⟨ht, hz⟩⟩]; rfl
  show (if ci = 200 then _ else (match m_one x (.putfield idx) (ci, j, 0, []) L (mI z :: mR a :: S) (mkh μ c s) with | some (L', S', h') => some (Sum.inl (k + 1, L', S', h')) | none => none)) = _
  rw [if_neg (by omega), h1]
theorem rn_putJ {idx ci j a n : Nat} {z : Int} (hC : C[k]? = some (.putfield idx, ci, j, 0, [])) (hk : k + 1 = k') (hK : K0[a]? = some (ci, n)) (hc : ci < 100 ∧ j < n) (ht : m_fty ci j = 2) (kk : Rn PT x C k' L S (mkh (m_set μ a j z) c s) Q) : Rn PT x C k L (mJ z :: mR a :: S) (mkh μ c s) Q := by
  subst hk
  refine Rn.go hC ?_ kk
  have h1 : m_one x (.putfield idx) (ci, j, 0, []) L (mJ z :: mR a :: S) (mkh μ c s) = some (L, S, mkh (m_set μ a j z) c s) := by
    unfold m_one; dsimp only
    rw [show (mh_k (mkh μ c s))[a]? = some (ci, n) from hK]; dsimp only
    rw [if_pos ⟨rfl, hc.1, hc.2, ht⟩]; rfl
  show (if ci = 200 then _ else (match m_one x (.putfield idx) (ci, j, 0, []) L (mJ z :: mR a :: S) (mkh μ c s) with | some (L', S', h') => some (Sum.inl (k + 1, L', S', h')) | none => none)) = _
  rw [if_neg (by omega), h1]
theorem rn_iaload {a n : Nat} {i : Int} (hC : C[k]? = some (.iaload, 0, 0, 0, [])) (hk : k + 1 = k') (hK : K0[a]? = some (100, n)) (h0 : 0 ≤ i) (h1 : i < n) (kk : Rn PT x C k' L (mI (μ a i.toNat) :: S) (mkh μ c s) Q) : Rn PT x C k L (mI i :: mR a :: S) (mkh μ c s) Q := by
  subst hk
  refine Rn.go hC ?_ kk
  have hq : m_in i n = true := by unfold m_in; simp [h0, h1]
  have h2 : m_one x .iaload (0, 0, 0, []) L (mI i :: mR a :: S) (mkh μ c s) = some (L, mI (μ a i.toNat) :: S, mkh μ c s) := by
    unfold m_one; dsimp only
    rw [show (mh_k (mkh μ c s))[a]? = some (100, n) from hK]; dsimp only
    rw [if_pos ⟨rfl, hq⟩]; rfl
  show (match m_one x .iaload (0, 0, 0, []) L (mI i :: mR a :: S) (mkh μ c s) with | some (L', S', h') => some (Sum.inl (k + 1, L', S', h')) | none => none) = _
  rw [h2]
theorem rn_baload {a n : Nat} {i : Int} (hC : C[k]? = some (.baload, 0, 0, 0, [])) (hk : k + 1 = k') (hK : K0[a]? = some (101, n)) (h0 : 0 ≤ i) (h1 : i < n) (kk : Rn PT x C k' L (mI (μ a i.toNat) :: S) (mkh μ c s) Q) : Rn PT x C k L (mI i :: mR a :: S) (mkh μ c s) Q := by
  subst hk
  refine Rn.go hC ?_ kk
  have hq : m_in i n = true := by unfold m_in; simp [h0, h1]
  have h2 : m_one x .baload (0, 0, 0, []) L (mI i :: mR a :: S) (mkh μ c s) = some (L, mI (μ a i.toNat) :: S, mkh μ c s) := by
    unfold m_one; dsimp only
    rw [show (mh_k (mkh μ c s))[a]? = some (101, n) from hK]; dsimp only
    rw [if_pos ⟨Or.inl rfl, hq⟩]; rfl
  show (match m_one x .baload (0, 0, 0, []) L (mI i :: mR a :: S) (mkh μ c s) with | some (L', S', h') => some (Sum.inl (k + 1, L', S', h')) | none => none) = _
  rw [h2]
theorem rn_zaload {a n : Nat} {i : Int} (hC : C[k]? = some (.baload, 0, 0, 0, [])) (hk : k + 1 = k') (hK : K0[a]? = some (102, n)) (h0 : 0 ≤ i) (h1 : i < n) (kk : Rn PT x C k' L (mI (μ a i.toNat) :: S) (mkh μ c s) Q) : Rn PT x C k L (mI i :: mR a :: S) (mkh μ c s) Q := by
  subst hk
  refine Rn.go hC ?_ kk
  have hq : m_in i n = true := by unfold m_in; simp [h0, h1]
  have h2 : m_one x .baload (0, 0, 0, []) L (mI i :: mR a :: S) (mkh μ c s) = some (L, mI (μ a i.toNat) :: S, mkh μ c s) := by
    unfold m_one; dsimp only
    rw [show (mh_k (mkh μ c s))[a]? = some (102, n) from hK]; dsimp only
    rw [if_pos ⟨Or.inr rfl, hq⟩]; rfl
  show (match m_one x .baload (0, 0, 0, []) L (mI i :: mR a :: S) (mkh μ c s) with | some (L', S', h') => some (Sum.inl (k + 1, L', S', h')) | none => none) = _
  rw [h2]
theorem rn_laload {a n : Nat} {i : Int} (hC : C[k]? = some (.laload, 0, 0, 0, [])) (hk : k + 1 = k') (hK : K0[a]? = some (103, n)) (h0 : 0 ≤ i) (h1 : i < n) (kk : Rn PT x C k' L (mJ (μ a i.toNat) :: S) (mkh μ c s) Q) : Rn PT x C k L (mI i :: mR a :: S) (mkh μ c s) Q := by
  subst hk
  refine Rn.go hC ?_ kk
  have hq : m_in i n = true := by unfold m_in; simp [h0, h1]
  have h2 : m_one x .laload (0, 0, 0, []) L (mI i :: mR a :: S) (mkh μ c s) = some (L, mJ (μ a i.toNat) :: S, mkh μ c s) := by
    unfold m_one; dsimp only
    rw [show (mh_k (mkh μ c s))[a]? = some (103, n) from hK]; dsimp only
    rw [if_pos ⟨rfl, hq⟩]; rfl
  show (match m_one x .laload (0, 0, 0, []) L (mI i :: mR a :: S) (mkh μ c s) with | some (L', S', h') => some (Sum.inl (k + 1, L', S', h')) | none => none) = _
  rw [h2]
theorem rn_aaload {a n t tt : Nat} {i : Int} (hC : C[k]? = some (.aaload, 0, 0, 0, [])) (hk : k + 1 = k') (hK : K0[a]? = some (tt, n)) (ht : 104 ≤ tt) (h0 : 0 ≤ i) (h1 : i < n) (hr : R0 a i.toNat = some t) (kk : Rn PT x C k' L (mR t :: S) (mkh μ c s) Q) : Rn PT x C k L (mI i :: mR a :: S) (mkh μ c s) Q := by
  subst hk
  refine Rn.go hC ?_ kk
  have hq : m_in i n = true := by unfold m_in; simp [h0, h1]
  have h2 : m_one x .aaload (0, 0, 0, []) L (mI i :: mR a :: S) (mkh μ c s) = some (L, mR t :: S, mkh μ c s) := by
    unfold m_one; dsimp only
    rw [show (mh_k (mkh μ c s))[a]? = some (tt, n) from hK]; dsimp only
    rw [if_pos ⟨ht, hq⟩, show mh_r (mkh μ c s) a i.toNat = some t from hr]
  show (match m_one x .aaload (0, 0, 0, []) L (mI i :: mR a :: S) (mkh μ c s) with | some (L', S', h') => some (Sum.inl (k + 1, L', S', h')) | none => none) = _
  rw [h2]
theorem rn_iastore {a n : Nat} {i z : Int} (hC : C[k]? = some (.iastore, 0, 0, 0, [])) (hk : k + 1 = k') (hK : K0[a]? = some (100, n)) (h0 : 0 ≤ i) (h1 : i < n) (kk : Rn PT x C k' L S (mkh (m_set μ a i.toNat z) c s) Q) : Rn PT x C k L (mI z :: mI i :: mR a :: S) (mkh μ c s) Q := by
  subst hk
  refine Rn.go hC ?_ kk
  have hq : m_in i n = true := by unfold m_in; simp [h0, h1]
  have h2 : m_one x .iastore (0, 0, 0, []) L (mI z :: mI i :: mR a :: S) (mkh μ c s) = some (L, S, mkh (m_set μ a i.toNat z) c s) := by
    unfold m_one; dsimp only
    rw [show (mh_k (mkh μ c s))[a]? = some (100, n) from hK]; dsimp only
    rw [if_pos ⟨rfl, hq⟩]; rfl
  show (match m_one x .iastore (0, 0, 0, []) L (mI z :: mI i :: mR a :: S) (mkh μ c s) with | some (L', S', h') => some (Sum.inl (k + 1, L', S', h')) | none => none) = _
  rw [h2]
theorem rn_lastore {a n : Nat} {i z : Int} (hC : C[k]? = some (.lastore, 0, 0, 0, [])) (hk : k + 1 = k') (hK : K0[a]? = some (103, n)) (h0 : 0 ≤ i) (h1 : i < n) (kk : Rn PT x C k' L S (mkh (m_set μ a i.toNat z) c s) Q) : Rn PT x C k L (mJ z :: mI i :: mR a :: S) (mkh μ c s) Q := by
  subst hk
  refine Rn.go hC ?_ kk
  have hq : m_in i n = true := by unfold m_in; simp [h0, h1]
  have h2 : m_one x .lastore (0, 0, 0, []) L (mJ z :: mI i :: mR a :: S) (mkh μ c s) = some (L, S, mkh (m_set μ a i.toNat z) c s) := by
    unfold m_one; dsimp only
    rw [show (mh_k (mkh μ c s))[a]? = some (103, n) from hK]; dsimp only
    rw [if_pos ⟨rfl, hq⟩]; rfl
  show (match m_one x .lastore (0, 0, 0, []) L (mJ z :: mI i :: mR a :: S) (mkh μ c s) with | some (L', S', h') => some (Sum.inl (k + 1, L', S', h')) | none => none) = _
  rw [h2]
theorem rn_bastore {a n : Nat} {i z : Int} (hC : C[k]? = some (.bastore, 0, 0, 0, [])) (hk : k + 1 = k') (hK : K0[a]? = some (101, n)) (h0 : 0 ≤ i) (h1 : i < n) (kk : Rn PT x C k' L S (mkh (m_set μ a i.toNat (m_i2b z)) c s) Q) : Rn PT x C k L (mI z :: mI i :: mR a :: S) (mkh μ c s) Q := by
  subst hk
  refine Rn.go hC ?_ kk
  have hq : m_in i n = true := by unfold m_in; simp [h0, h1]
  have h2 : m_one x .bastore (0, 0, 0, []) L (mI z :: mI i :: mR a :: S) (mkh μ c s) = some (L, S, mkh (m_set μ a i.toNat (m_i2b z)) c s) := by
    unfold m_one; dsimp only
    rw [show (mh_k (mkh μ c s))[a]? = some (101, n) from hK]; dsimp only
    rw [if_pos ⟨rfl, hq⟩]; rfl
  show (match m_one x .bastore (0, 0, 0, []) L (mI z :: mI i :: mR a :: S) (mkh μ c s) with | some (L', S', h') => some (Sum.inl (k + 1, L', S', h')) | none => none) = _
  rw [h2]
theorem rn_zastore {a n : Nat} {i z : Int} (hC : C[k]? = some (.bastore, 0, 0, 0, [])) (hk : k + 1 = k') (hK : K0[a]? = some (102, n)) (h0 : 0 ≤ i) (h1 : i < n) (hz : z = 0 ∨ z = 1) (kk : Rn PT x C k' L S (mkh (m_set μ a i.toNat z) c s) Q) : Rn PT x C k L (mI z :: mI i :: mR a :: S) (mkh μ c s) Q := by
  subst hk
  refine Rn.go hC ?_ kk
  have hq : m_in i n = true := by unfold m_in; simp [h0, h1]
  have h2 : m_one x .bastore (0, 0, 0, []) L (mI z :: mI i :: mR a :: S) (mkh μ c s) = some (L, S, mkh (m_set μ a i.toNat z) c s) := by
    unfold m_one; dsimp only
    rw [show (mh_k (mkh μ c s))[a]? = some (102, n) from hK]; dsimp only
    rw [if_neg (fun q => absurd q.1 (by decide)), if_pos ⟨rfl, hq, hz⟩]; rfl
  show (match m_one x .bastore (0, 0, 0, []) L (mI z :: mI i :: mR a :: S) (mkh μ c s) with | some (L', S', h') => some (Sum.inl (k + 1, L', S', h')) | none => none) = _
  rw [h2]
theorem rn_alen {a n t : Nat} (hC : C[k]? = some (.arraylength, 0, 0, 0, [])) (hk : k + 1 = k') (hK : K0[a]? = some (t, n)) (ht : 100 ≤ t ∧ n < 2 ^ 31) (kk : Rn PT x C k' L (mI n :: S) (mkh μ c s) Q) : Rn PT x C k L (mR a :: S) (mkh μ c s) Q := by
  subst hk
  refine Rn.go hC ?_ kk
  have h2 : m_one x .arraylength (0, 0, 0, []) L (mR a :: S) (mkh μ c s) = some (L, mI n :: S, mkh μ c s) := by
    unfold m_one; dsimp only
    rw [show (mh_k (mkh μ c s))[a]? = some (t, n) from hK]; dsimp only
    rw [if_pos ht]
  show (match m_one x .arraylength (0, 0, 0, []) L (mR a :: S) (mkh μ c s) with | some (L', S', h') => some (Sum.inl (k + 1, L', S', h')) | none => none) = _
  rw [h2]
theorem rn_goto {off : Int} {t : Nat} (hC : C[k]? = some (.goto off, 0, 0, 0, [t])) (kk : Rn PT x C t L S (mkh μ c s) Q) : Rn PT x C k L S (mkh μ c s) Q := Rn.go hC rfl kk
theorem rn_iret {d : Nat} {z : Int} {h : MH} (hC : C[k]? = some (.ireturn, d, 0, 0, [])) (hd : d = 0 ∨ z = 0 ∨ z = 1) (kk : Q (some (some (mI z)), h)) : Rn PT x C k L [mI z] h Q := by
  refine Rn.ret hC ?_ kk
  show (if d = 0 ∨ z = 0 ∨ z = 1 then _ else none) = _
  rw [if_pos hd]
theorem rn_lret {z : Int} {h : MH} (hC : C[k]? = some (.lreturn, 0, 0, 0, [])) (kk : Q (some (some (mJ z)), h)) : Rn PT x C k L [mJ z] h Q := Rn.ret hC rfl kk
theorem rn_vret {h : MH} (hC : C[k]? = some (.return_, 0, 0, 0, [])) (kk : Q (some none, h)) : Rn PT x C k L [] h Q := Rn.ret hC rfl kk
theorem rn_callP {i : Instr} {d : ML} {y : Nat} {S0 vs S' : List MV} {v : Option MV} {h h' : MH} (hC : C[k]? = some (i, d)) (hk : k + 1 = k') (hs : m_step PT x i d k L S0 h = some (.inr (.inr (y, vs, S', 0)))) (hc : Cl PT y vs h (fun r => r = (some v, h'))) (kk : Rn PT x C k' L (v.toList ++ S') h' Q) : Rn PT x C k L S0 h Q := by
  subst hk
  exact Rn.call hC hs (hc.mono (fun r hr => by subst hr; exact ⟨v, rfl, kk⟩))
theorem rn_nat {i : Instr} {d : ML} {S0 S' : List MV} {h h' : MH} (hC : C[k]? = some (i, d)) (hk : k + 1 = k') (hs : m_step PT x i d k L S0 h = some (.inl (k + 1, L, S', h'))) (kk : Rn PT x C k' L S' h' Q) : Rn PT x C k L S0 h Q := by
  subst hk
  exact Rn.go hC hs kk
theorem rn_icmp_eq {off a b : Int} {t : Nat} (hC : C[k]? = some (.if_icmp .eq off, 0, 0, 0, [t])) (hk : k + 1 = k') (kt : a = b → Rn PT x C t L S (mkh μ c s) Q) (kf : ¬ a = b → Rn PT x C k' L S (mkh μ c s) Q) : Rn PT x C k L (mI b :: mI a :: S) (mkh μ c s) Q := by
  subst hk
  cases hq : m_if .eq a b with
  | true => exact Rn.go hC (by show some (Sum.inl (bif m_if .eq a b then t else k + 1, _)) = _; rw [hq]; rfl) (kt (by simpa [m_if] using hq))
  | false => exact Rn.go hC (by show some (Sum.inl (bif m_if .eq a b then t else k + 1, _)) = _; rw [hq]; rfl) (kf (by simpa [m_if] using hq))
theorem rn_if_eq {off a : Int} {t : Nat} (hC : C[k]? = some (.ifCond .eq off, 0, 0, 0, [t])) (hk : k + 1 = k') (kt : a = 0 → Rn PT x C t L S (mkh μ c s) Q) (kf : ¬ a = 0 → Rn PT x C k' L S (mkh μ c s) Q) : Rn PT x C k L (mI a :: S) (mkh μ c s) Q := by
  subst hk
  cases hq : m_if .eq a 0 with
  | true => exact Rn.go hC (by show some (Sum.inl (bif m_if .eq a 0 then t else k + 1, _)) = _; rw [hq]; rfl) (kt (by simpa [m_if] using hq))
  | false => exact Rn.go hC (by show some (Sum.inl (bif m_if .eq a 0 then t else k + 1, _)) = _; rw [hq]; rfl) (kf (by simpa [m_if] using hq))
theorem rn_icmp_ne {off a b : Int} {t : Nat} (hC : C[k]? = some (.if_icmp .ne off, 0, 0, 0, [t])) (hk : k + 1 = k') (kt : ¬ a = b → Rn PT x C t L S (mkh μ c s) Q) (kf : a = b → Rn PT x C k' L S (mkh μ c s) Q) : Rn PT x C k L (mI b :: mI a :: S) (mkh μ c s) Q := by
  subst hk
  cases hq : m_if .ne a b with
  | true => exact Rn.go hC (by show some (Sum.inl (bif m_if .ne a b then t else k + 1, _)) = _; rw [hq]; rfl) (kt (by simpa [m_if] using hq))
  | false => exact Rn.go hC (by show some (Sum.inl (bif m_if .ne a b then t else k + 1, _)) = _; rw [hq]; rfl) (kf (by simpa [m_if] using hq))
theorem rn_if_ne {off a : Int} {t : Nat} (hC : C[k]? = some (.ifCond .ne off, 0, 0, 0, [t])) (hk : k + 1 = k') (kt : ¬ a = 0 → Rn PT x C t L S (mkh μ c s) Q) (kf : a = 0 → Rn PT x C k' L S (mkh μ c s) Q) : Rn PT x C k L (mI a :: S) (mkh μ c s) Q := by
  subst hk
  cases hq : m_if .ne a 0 with
  | true => exact Rn.go hC (by show some (Sum.inl (bif m_if .ne a 0 then t else k + 1, _)) = _; rw [hq]; rfl) (kt (by simpa [m_if] using hq))
  | false => exact Rn.go hC (by show some (Sum.inl (bif m_if .ne a 0 then t else k + 1, _)) = _; rw [hq]; rfl) (kf (by simpa [m_if] using hq))
theorem rn_icmp_lt {off a b : Int} {t : Nat} (hC : C[k]? = some (.if_icmp .lt off, 0, 0, 0, [t])) (hk : k + 1 = k') (kt : a < b → Rn PT x C t L S (mkh μ c s) Q) (kf : ¬ a < b → Rn PT x C k' L S (mkh μ c s) Q) : Rn PT x C k L (mI b :: mI a :: S) (mkh μ c s) Q := by
  subst hk
  cases hq : m_if .lt a b with
  | true => exact Rn.go hC (by show some (Sum.inl (bif m_if .lt a b then t else k + 1, _)) = _; rw [hq]; rfl) (kt (by simpa [m_if] using hq))
  | false => exact Rn.go hC (by show some (Sum.inl (bif m_if .lt a b then t else k + 1, _)) = _; rw [hq]; rfl) (kf (by simpa [m_if] using hq))
theorem rn_if_lt {off a : Int} {t : Nat} (hC : C[k]? = some (.ifCond .lt off, 0, 0, 0, [t])) (hk : k + 1 = k') (kt : a < 0 → Rn PT x C t L S (mkh μ c s) Q) (kf : ¬ a < 0 → Rn PT x C k' L S (mkh μ c s) Q) : Rn PT x C k L (mI a :: S) (mkh μ c s) Q := by
  subst hk
  cases hq : m_if .lt a 0 with
  | true => exact Rn.go hC (by show some (Sum.inl (bif m_if .lt a 0 then t else k + 1, _)) = _; rw [hq]; rfl) (kt (by simpa [m_if] using hq))
  | false => exact Rn.go hC (by show some (Sum.inl (bif m_if .lt a 0 then t else k + 1, _)) = _; rw [hq]; rfl) (kf (by simpa [m_if] using hq))
theorem rn_icmp_ge {off a b : Int} {t : Nat} (hC : C[k]? = some (.if_icmp .ge off, 0, 0, 0, [t])) (hk : k + 1 = k') (kt : b ≤ a → Rn PT x C t L S (mkh μ c s) Q) (kf : ¬ b ≤ a → Rn PT x C k' L S (mkh μ c s) Q) : Rn PT x C k L (mI b :: mI a :: S) (mkh μ c s) Q := by
  subst hk
  cases hq : m_if .ge a b with
  | true => exact Rn.go hC (by show some (Sum.inl (bif m_if .ge a b then t else k + 1, _)) = _; rw [hq]; rfl) (kt (by simpa [m_if] using hq))
  | false => exact Rn.go hC (by show some (Sum.inl (bif m_if .ge a b then t else k + 1, _)) = _; rw [hq]; rfl) (kf (by simpa [m_if] using hq))
theorem rn_if_ge {off a : Int} {t : Nat} (hC : C[k]? = some (.ifCond .ge off, 0, 0, 0, [t])) (hk : k + 1 = k') (kt : 0 ≤ a → Rn PT x C t L S (mkh μ c s) Q) (kf : ¬ 0 ≤ a → Rn PT x C k' L S (mkh μ c s) Q) : Rn PT x C k L (mI a :: S) (mkh μ c s) Q := by
  subst hk
  cases hq : m_if .ge a 0 with
  | true => exact Rn.go hC (by show some (Sum.inl (bif m_if .ge a 0 then t else k + 1, _)) = _; rw [hq]; rfl) (kt (by simpa [m_if] using hq))
  | false => exact Rn.go hC (by show some (Sum.inl (bif m_if .ge a 0 then t else k + 1, _)) = _; rw [hq]; rfl) (kf (by simpa [m_if] using hq))
theorem rn_icmp_gt {off a b : Int} {t : Nat} (hC : C[k]? = some (.if_icmp .gt off, 0, 0, 0, [t])) (hk : k + 1 = k') (kt : b < a → Rn PT x C t L S (mkh μ c s) Q) (kf : ¬ b < a → Rn PT x C k' L S (mkh μ c s) Q) : Rn PT x C k L (mI b :: mI a :: S) (mkh μ c s) Q := by
  subst hk
  cases hq : m_if .gt a b with
  | true => exact Rn.go hC (by show some (Sum.inl (bif m_if .gt a b then t else k + 1, _)) = _; rw [hq]; rfl) (kt (by simpa [m_if] using hq))
  | false => exact Rn.go hC (by show some (Sum.inl (bif m_if .gt a b then t else k + 1, _)) = _; rw [hq]; rfl) (kf (by simpa [m_if] using hq))
theorem rn_if_gt {off a : Int} {t : Nat} (hC : C[k]? = some (.ifCond .gt off, 0, 0, 0, [t])) (hk : k + 1 = k') (kt : 0 < a → Rn PT x C t L S (mkh μ c s) Q) (kf : ¬ 0 < a → Rn PT x C k' L S (mkh μ c s) Q) : Rn PT x C k L (mI a :: S) (mkh μ c s) Q := by
  subst hk
  cases hq : m_if .gt a 0 with
  | true => exact Rn.go hC (by show some (Sum.inl (bif m_if .gt a 0 then t else k + 1, _)) = _; rw [hq]; rfl) (kt (by simpa [m_if] using hq))
  | false => exact Rn.go hC (by show some (Sum.inl (bif m_if .gt a 0 then t else k + 1, _)) = _; rw [hq]; rfl) (kf (by simpa [m_if] using hq))
theorem rn_icmp_le {off a b : Int} {t : Nat} (hC : C[k]? = some (.if_icmp .le off, 0, 0, 0, [t])) (hk : k + 1 = k') (kt : a ≤ b → Rn PT x C t L S (mkh μ c s) Q) (kf : ¬ a ≤ b → Rn PT x C k' L S (mkh μ c s) Q) : Rn PT x C k L (mI b :: mI a :: S) (mkh μ c s) Q := by
  subst hk
  cases hq : m_if .le a b with
  | true => exact Rn.go hC (by show some (Sum.inl (bif m_if .le a b then t else k + 1, _)) = _; rw [hq]; rfl) (kt (by simpa [m_if] using hq))
  | false => exact Rn.go hC (by show some (Sum.inl (bif m_if .le a b then t else k + 1, _)) = _; rw [hq]; rfl) (kf (by simpa [m_if] using hq))
theorem rn_if_le {off a : Int} {t : Nat} (hC : C[k]? = some (.ifCond .le off, 0, 0, 0, [t])) (hk : k + 1 = k') (kt : a ≤ 0 → Rn PT x C t L S (mkh μ c s) Q) (kf : ¬ a ≤ 0 → Rn PT x C k' L S (mkh μ c s) Q) : Rn PT x C k L (mI a :: S) (mkh μ c s) Q := by
  subst hk
  cases hq : m_if .le a 0 with
  | true => exact Rn.go hC (by show some (Sum.inl (bif m_if .le a 0 then t else k + 1, _)) = _; rw [hq]; rfl) (kt (by simpa [m_if] using hq))
  | false => exact Rn.go hC (by show some (Sum.inl (bif m_if .le a 0 then t else k + 1, _)) = _; rw [hq]; rfl) (kf (by simpa [m_if] using hq))
theorem rn_swO {dflt lo hi u : Int} {offs : Array Int} {t : Nat} {ts : List Nat} {h : MH} (hC : C[k]? = some (.tableswitch dflt lo hi offs, 0, 0, 0, t :: ts)) (hu : u < lo ∨ hi < u) (kk : Rn PT x C t L S h Q) : Rn PT x C k L (mI u :: S) h Q := by
  refine Rn.go hC ?_ kk
  show (if u < lo ∨ hi < u then some (Sum.inl (t, L, S, h)) else _) = _
  rw [if_pos hu]
theorem rn_swI {dflt lo hi u : Int} {offs : Array Int} {t t' j : Nat} {ts : List Nat} {h : MH} (hC : C[k]? = some (.tableswitch dflt lo hi offs, 0, 0, 0, t :: ts)) (hu : u = lo + j ∧ ¬ hi < u) (ht : ts[j]? = some t') (kk : Rn PT x C t' L S h Q) : Rn PT x C k L (mI u :: S) h Q := by
  refine Rn.go hC ?_ kk
  show (if u < lo ∨ hi < u then some (Sum.inl (t, L, S, h)) else (match ts[(u - lo).toNat]? with | some t' => some (Sum.inl (t', L, S, h)) | none => none)) = _
  rw [if_neg (by omega), show (u - lo).toNat = j by omega, ht]
end RN
