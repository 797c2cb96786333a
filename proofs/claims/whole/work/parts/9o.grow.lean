/-! ===== printed by wip/whole/gen9o.py: rules for a heap that grows ===== -/
section GN
variable {x : MX} {C : List MI} {k k' : Nat} {L L' : List (Option MV)} {S : List MV} {Q : MR → Prop} {μ : Nat → Nat → Int} {c s : Nat} {K : List (Nat × Nat)} {R : Nat → Nat → Option Nat}
theorem gn_iconst {n : Int} (hC : C[k]? = some (.iconst n, 0, 0, 0, [])) (hk : k + 1 = k') (kk : Rn PT x C k' L (mI n :: S) (K, μ, R, c, s) Q) : Rn PT x C k L S (K, μ, R, c, s) Q := by
  subst hk
  exact Rn.go hC rfl kk
theorem gn_bipush {n : Int} (hC : C[k]? = some (.bipush n, 0, 0, 0, [])) (hk : k + 1 = k') (kk : Rn PT x C k' L (mI n :: S) (K, μ, R, c, s) Q) : Rn PT x C k L S (K, μ, R, c, s) Q := by
  subst hk
  exact Rn.go hC rfl kk
theorem gn_sipush {n : Int} (hC : C[k]? = some (.sipush n, 0, 0, 0, [])) (hk : k + 1 = k') (kk : Rn PT x C k' L (mI n :: S) (K, μ, R, c, s) Q) : Rn PT x C k L S (K, μ, R, c, s) Q := by
  subst hk
  exact Rn.go hC rfl kk
theorem gn_ldc2_w {n : Nat} {z : Int} (hC : C[k]? = some (.ldc2_w n, 0, 0, z, [])) (hk : k + 1 = k') (kk : Rn PT x C k' L (mJ z :: S) (K, μ, R, c, s) Q) : Rn PT x C k L S (K, μ, R, c, s) Q := by
  subst hk
  exact Rn.go hC rfl kk
theorem gn_iload {n : Nat} {z : Int} (hC : C[k]? = some (.iload n, 0, 0, 0, [])) (hk : k + 1 = k') (hL : L[n]? = some (some (mI z))) (kk : Rn PT x C k' L (mI z :: S) (K, μ, R, c, s) Q) : Rn PT x C k L S (K, μ, R, c, s) Q := by
  subst hk
  refine Rn.go hC ?_ kk
  show (match m_one x (.iload n) (0, 0, 0, []) L S (K, μ, R, c, s) with | some (L', S', h') => some (Sum.inl (k + 1, L', S', h')) | none => none) = _
  have : m_one x (.iload n) (0, 0, 0, []) L S (K, μ, R, c, s) = some (L, mI z :: S, (K, μ, R, c, s)) := by unfold m_one; dsimp only; rw [hL]
  rw [this]
theorem gn_iload_n {n : Fin 4} {z : Int} (hC : C[k]? = some (.iload_n n, 0, 0, 0, [])) (hk : k + 1 = k') (hL : L[(n : Nat)]? = some (some (mI z))) (kk : Rn PT x C k' L (mI z :: S) (K, μ, R, c, s) Q) : Rn PT x C k L S (K, μ, R, c, s) Q := by
  subst hk
  refine Rn.go hC ?_ kk
  show (match m_one x (.iload_n n) (0, 0, 0, []) L S (K, μ, R, c, s) with | some (L', S', h') => some (Sum.inl (k + 1, L', S', h')) | none => none) = _
  have : m_one x (.iload_n n) (0, 0, 0, []) L S (K, μ, R, c, s) = some (L, mI z :: S, (K, μ, R, c, s)) := by unfold m_one; dsimp only; rw [hL]
  rw [this]
theorem gn_aload {n a : Nat} (hC : C[k]? = some (.aload n, 0, 0, 0, [])) (hk : k + 1 = k') (hL : L[n]? = some (some (mR a))) (kk : Rn PT x C k' L (mR a :: S) (K, μ, R, c, s) Q) : Rn PT x C k L S (K, μ, R, c, s) Q := by
  subst hk
  refine Rn.go hC ?_ kk
  show (match m_one x (.aload n) (0, 0, 0, []) L S (K, μ, R, c, s) with | some (L', S', h') => some (Sum.inl (k + 1, L', S', h')) | none => none) = _
  have : m_one x (.aload n) (0, 0, 0, []) L S (K, μ, R, c, s) = some (L, mR a :: S, (K, μ, R, c, s)) := by unfold m_one; dsimp only; rw [hL]
  rw [this]
theorem gn_aload_n {n : Fin 4} {a : Nat} (hC : C[k]? = some (.aload_n n, 0, 0, 0, [])) (hk : k + 1 = k') (hL : L[(n : Nat)]? = some (some (mR a))) (kk : Rn PT x C k' L (mR a :: S) (K, μ, R, c, s) Q) : Rn PT x C k L S (K, μ, R, c, s) Q := by
  subst hk
  refine Rn.go hC ?_ kk
  show (match m_one x (.aload_n n) (0, 0, 0, []) L S (K, μ, R, c, s) with | some (L', S', h') => some (Sum.inl (k + 1, L', S', h')) | none => none) = _
  have : m_one x (.aload_n n) (0, 0, 0, []) L S (K, μ, R, c, s) = some (L, mR a :: S, (K, μ, R, c, s)) := by unfold m_one; dsimp only; rw [hL]
  rw [this]
theorem gn_istore {n : Nat} {z : Int} (hC : C[k]? = some (.istore n, 0, 0, 0, [])) (hk : k + 1 = k') (hn : n < L.length) (hL : m_st1 L n (mI z) = L') (kk : Rn PT x C k' L' S (K, μ, R, c, s) Q) : Rn PT x C k L (mI z :: S) (K, μ, R, c, s) Q := by
  subst hk
  subst hL
  refine Rn.go hC ?_ kk
  show (match (if n < L.length then some (m_st1 L n (mI z), S, (K, μ, R, c, s)) else none) with | some (L', S', h') => some (Sum.inl (k + 1, L', S', h')) | none => none) = _
  rw [if_pos hn]
theorem gn_istore_n {n : Fin 4} {z : Int} (hC : C[k]? = some (.istore_n n, 0, 0, 0, [])) (hk : k + 1 = k') (hn : (n : Nat) < L.length) (hL : m_st1 L (n : Nat) (mI z) = L') (kk : Rn PT x C k' L' S (K, μ, R, c, s) Q) : Rn PT x C k L (mI z :: S) (K, μ, R, c, s) Q := by
  subst hk
  subst hL
  refine Rn.go hC ?_ kk
  show (match (if (n : Nat) < L.length then some (m_st1 L (n : Nat) (mI z), S, (K, μ, R, c, s)) else none) with | some (L', S', h') => some (Sum.inl (k + 1, L', S', h')) | none => none) = _
  rw [if_pos hn]
theorem gn_astore {n a : Nat} (hC : C[k]? = some (.astore n, 0, 0, 0, [])) (hk : k + 1 = k') (hn : n < L.length) (hL : m_st1 L n (mR a) = L') (kk : Rn PT x C k' L' S (K, μ, R, c, s) Q) : Rn PT x C k L (mR a :: S) (K, μ, R, c, s) Q := by
  subst hk
  subst hL
  refine Rn.go hC ?_ kk
  show (match (if n < L.length then some (m_st1 L n (mR a), S, (K, μ, R, c, s)) else none) with | some (L', S', h') => some (Sum.inl (k + 1, L', S', h')) | none => none) = _
  rw [if_pos hn]
theorem gn_astore_n {n : Fin 4} {a : Nat} (hC : C[k]? = some (.astore_n n, 0, 0, 0, [])) (hk : k + 1 = k') (hn : (n : Nat) < L.length) (hL : m_st1 L (n : Nat) (mR a) = L') (kk : Rn PT x C k' L' S (K, μ, R, c, s) Q) : Rn PT x C k L (mR a :: S) (K, μ, R, c, s) Q := by
  subst hk
  subst hL
  refine Rn.go hC ?_ kk
  show (match (if (n : Nat) < L.length then some (m_st1 L (n : Nat) (mR a), S, (K, μ, R, c, s)) else none) with | some (L', S', h') => some (Sum.inl (k + 1, L', S', h')) | none => none) = _
  rw [if_pos hn]
theorem gn_iinc {n : Nat} {z j : Int} (hC : C[k]? = some (.iinc n j, 0, 0, 0, [])) (hk : k + 1 = k') (hL : L[n]? = some (some (mI z))) (hb : -2147483648 ≤ z + j ∧ z + j < 2147483648) (hL' : m_st1 L n (mI (z + j)) = L') (kk : Rn PT x C k' L' S (K, μ, R, c, s) Q) : Rn PT x C k L S (K, μ, R, c, s) Q := by
  subst hk
  subst hL'
  refine Rn.go hC ?_ kk
  have : m_one x (.iinc n j) (0, 0, 0, []) L S (K, μ, R, c, s) = some (m_st1 L n (mI (z + j)), S, (K, μ, R, c, s)) := by unfold m_one; dsimp only; rw [hL]; dsimp only; rw [w32_id hb]
  show (match m_one x (.iinc n j) (0, 0, 0, []) L S (K, μ, R, c, s) with | some (L', S', h') => some (Sum.inl (k + 1, L', S', h')) | none => none) = _
  rw [this]
theorem gn_iadd {u y : Int} (hC : C[k]? = some (.iadd, 0, 0, 0, [])) (hk : k + 1 = k') (hb : -2147483648 ≤ u + y ∧ u + y < 2147483648) (kk : Rn PT x C k' L (mI (u + y) :: S) (K, μ, R, c, s) Q) : Rn PT x C k L (mI y :: mI u :: S) (K, μ, R, c, s) Q := by
  subst hk
  rw [← w32_id hb] at kk; exact Rn.go hC rfl kk
theorem gn_isub {u y : Int} (hC : C[k]? = some (.isub, 0, 0, 0, [])) (hk : k + 1 = k') (hb : -2147483648 ≤ u - y ∧ u - y < 2147483648) (kk : Rn PT x C k' L (mI (u - y) :: S) (K, μ, R, c, s) Q) : Rn PT x C k L (mI y :: mI u :: S) (K, μ, R, c, s) Q := by
  subst hk
  rw [← w32_id hb] at kk; exact Rn.go hC rfl kk
theorem gn_imul {u y : Int} (hC : C[k]? = some (.imul, 0, 0, 0, [])) (hk : k + 1 = k') (hb : -2147483648 ≤ u * y ∧ u * y < 2147483648) (kk : Rn PT x C k' L (mI (u * y) :: S) (K, μ, R, c, s) Q) : Rn PT x C k L (mI y :: mI u :: S) (K, μ, R, c, s) Q := by
  subst hk
  rw [← w32_id hb] at kk; exact Rn.go hC rfl kk
theorem gn_dupR {a : Nat} (hC : C[k]? = some (.dup, 0, 0, 0, [])) (hk : k + 1 = k') (kk : Rn PT x C k' L (mR a :: mR a :: S) (K, μ, R, c, s) Q) : Rn PT x C k L (mR a :: S) (K, μ, R, c, s) Q := by
  subst hk
  exact Rn.go hC rfl kk
theorem gn_getR {idx ci j a n : Nat} {t : Nat} (hC : C[k]? = some (.getfield idx, ci, j, 0, [])) (hk : k + 1 = k') (hK : K[a]? = some (ci, n)) (hc : ci < 100 ∧ j < n) (ht : m_fty ci j = 3) (hr : R a j = some t) (kk : Rn PT x C k' L (mR t :: S) (K, μ, R, c, s) Q) : Rn PT x C k L (mR a :: S) (K, μ, R, c, s) Q := by
  subst hk
  refine Rn.go hC ?_ kk
  have h1 : m_one x (.getfield idx) (ci, j, 0, []) L (mR a :: S) (K, μ, R, c, s) = some (L, mR t :: S, (K, μ, R, c, s)) := by
    unfold m_one; dsimp only
    rw [show (mh_k (K, μ, R, c, s))[a]? = some (ci, n) from hK]; dsimp only
    rw [if_pos ⟨rfl, hc.1, hc.2⟩, ht]
    show some (L, (.inr (.inl (R a j)) : MV) :: S, (K, μ, R, c, s)) = _
    rw [hr]
  show (if ci = 200 then _ else (match m_one x (.getfield idx) (ci, j, 0, []) L (mR a :: S) (K, μ, R, c, s) with | some (L', S', h') => some (Sum.inl (k + 1, L', S', h')) | none => none)) = _
  rw [if_neg (by omega), h1]
theorem gn_putI {idx ci j a n : Nat} {z : Int} (hC : C[k]? = some (.putfield idx, ci, j, 0, [])) (hk : k + 1 = k') (hK : K[a]? = some (ci, n)) (hc : ci < 100 ∧ j < n) (ht : m_fty ci j = 0) (kk : Rn PT x C k' L S (K, (m_set μ a j z), R, c, s) Q) : Rn PT x C k L (mI z :: mR a :: S) (K, μ, R, c, s) Q := by
  subst hk
  refine Rn.go hC ?_ kk
  have h1 : m_one x (.putfield idx) (ci, j, 0, []) L (mI z :: mR a :: S) (K, μ, R, c, s) = some (L, S, (K, (m_set μ a j z), R, c, s)) := by
    unfold m_one; dsimp only
    rw [show (mh_k (K, μ, R, c, s))[a]? = some (ci, n) from hK]; dsimp only
    rw [if_pos ⟨rfl, hc.1, hc.2, Or.inl ht⟩]
  show (if ci = 200 then _ else (match m_one x (.putfield idx) (ci, j, 0, []) L (mI z :: mR a :: S) (K, μ, R, c, s) with | some (L', S', h') => some (Sum.inl (k + 1, L', S', h')) | none => none)) = _
  rw [if_neg (by omega), h1]
theorem gn_putZ {idx ci j a n : Nat} {z : Int} (hC : C[k]? = some (.putfield idx, ci, j, 0, [])) (hk : k + 1 = k') (hK : K[a]? = some (ci, n)) (hc : ci < 100 ∧ j < n) (ht : m_fty ci j = 1) (hz : z = 0 ∨ z = 1) (kk : Rn PT x C k' L S (K, (m_set μ a j z), R, c, s) Q) : Rn PT x C k L (mI z :: mR a :: S) (K, μ, R, c, s) Q := by
  subst hk
  refine Rn.go hC ?_ kk
  have h1 : m_one x (.putfield idx) (ci, j, 0, []) L (mI z :: mR a :: S) (K, μ, R, c, s) = some (L, S, (K, (m_set μ a j z), R, c, s)) := by
    unfold m_one; dsimp only
    rw [show (mh_k (K, μ, R, c, s))[a]? = some (ci, n) from hK]; dsimp only
    rw [if_pos ⟨rfl, hc.1, hc.2, Or.inr ⟨ht, hz⟩⟩]
  show (if ci = 200 then _ else (match m_one x (.putfield idx) (ci, j, 0, []) L (mI z :: mR a :: S) (K, μ, R, c, s) with | some (L', S', h') => some (Sum.inl (k + 1, L', S', h')) | none => none)) = _
  rw [if_neg (by omega), h1]
theorem gn_iaload {a n : Nat} {i : Int} (hC : C[k]? = some (.iaload, 0, 0, 0, [])) (hk : k + 1 = k') (hK : K[a]? = some (100, n)) (h0 : 0 ≤ i) (h1 : i < n) (kk : Rn PT x C k' L (mI (μ a i.toNat) :: S) (K, μ, R, c, s) Q) : Rn PT x C k L (mI i :: mR a :: S) (K, μ, R, c, s) Q := by
  subst hk
  refine Rn.go hC ?_ kk
  have hq : m_in i n = true := by unfold m_in; simp [h0, h1]
  have h2 : m_one x .iaload (0, 0, 0, []) L (mI i :: mR a :: S) (K, μ, R, c, s) = some (L, mI (μ a i.toNat) :: S, (K, μ, R, c, s)) := by
    unfold m_one; dsimp only
    rw [show (mh_k (K, μ, R, c, s))[a]? = some (100, n) from hK]; dsimp only
    rw [if_pos ⟨rfl, hq⟩]
  show (match m_one x .iaload (0, 0, 0, []) L (mI i :: mR a :: S) (K, μ, R, c, s) with | some (L', S', h') => some (Sum.inl (k + 1, L', S', h')) | none => none) = _
  rw [h2]
theorem gn_iastore {a n : Nat} {i z : Int} (hC : C[k]? = some (.iastore, 0, 0, 0, [])) (hk : k + 1 = k') (hK : K[a]? = some (100, n)) (h0 : 0 ≤ i) (h1 : i < n) (kk : Rn PT x C k' L S (K, (m_set μ a i.toNat z), R, c, s) Q) : Rn PT x C k L (mI z :: mI i :: mR a :: S) (K, μ, R, c, s) Q := by
  subst hk
  refine Rn.go hC ?_ kk
  have hq : m_in i n = true := by unfold m_in; simp [h0, h1]
  have h2 : m_one x .iastore (0, 0, 0, []) L (mI z :: mI i :: mR a :: S) (K, μ, R, c, s) = some (L, S, (K, (m_set μ a i.toNat z), R, c, s)) := by
    unfold m_one; dsimp only
    rw [show (mh_k (K, μ, R, c, s))[a]? = some (100, n) from hK]; dsimp only
    rw [if_pos ⟨rfl, hq⟩]
  show (match m_one x .iastore (0, 0, 0, []) L (mI z :: mI i :: mR a :: S) (K, μ, R, c, s) with | some (L', S', h') => some (Sum.inl (k + 1, L', S', h')) | none => none) = _
  rw [h2]
theorem gn_lastore {a n : Nat} {i z : Int} (hC : C[k]? = some (.lastore, 0, 0, 0, [])) (hk : k + 1 = k') (hK : K[a]? = some (103, n)) (h0 : 0 ≤ i) (h1 : i < n) (kk : Rn PT x C k' L S (K, (m_set μ a i.toNat z), R, c, s) Q) : Rn PT x C k L (mJ z :: mI i :: mR a :: S) (K, μ, R, c, s) Q := by
  subst hk
  refine Rn.go hC ?_ kk
  have hq : m_in i n = true := by unfold m_in; simp [h0, h1]
  have h2 : m_one x .lastore (0, 0, 0, []) L (mJ z :: mI i :: mR a :: S) (K, μ, R, c, s) = some (L, S, (K, (m_set μ a i.toNat z), R, c, s)) := by
    unfold m_one; dsimp only
    rw [show (mh_k (K, μ, R, c, s))[a]? = some (103, n) from hK]; dsimp only
    rw [if_pos ⟨rfl, hq⟩]
  show (match m_one x .lastore (0, 0, 0, []) L (mJ z :: mI i :: mR a :: S) (K, μ, R, c, s) with | some (L', S', h') => some (Sum.inl (k + 1, L', S', h')) | none => none) = _
  rw [h2]
theorem gn_alen {a n t : Nat} (hC : C[k]? = some (.arraylength, 0, 0, 0, [])) (hk : k + 1 = k') (hK : K[a]? = some (t, n)) (ht : 100 ≤ t ∧ n < 2 ^ 31) (kk : Rn PT x C k' L (mI n :: S) (K, μ, R, c, s) Q) : Rn PT x C k L (mR a :: S) (K, μ, R, c, s) Q := by
  subst hk
  refine Rn.go hC ?_ kk
  have h2 : m_one x .arraylength (0, 0, 0, []) L (mR a :: S) (K, μ, R, c, s) = some (L, mI n :: S, (K, μ, R, c, s)) := by
    unfold m_one; dsimp only
    rw [show (mh_k (K, μ, R, c, s))[a]? = some (t, n) from hK]; dsimp only
    rw [if_pos ht]
  show (match m_one x .arraylength (0, 0, 0, []) L (mR a :: S) (K, μ, R, c, s) with | some (L', S', h') => some (Sum.inl (k + 1, L', S', h')) | none => none) = _
  rw [h2]
theorem gn_goto {off : Int} {t : Nat} (hC : C[k]? = some (.goto off, 0, 0, 0, [t])) (kk : Rn PT x C t L S (K, μ, R, c, s) Q) : Rn PT x C k L S (K, μ, R, c, s) Q := Rn.go hC rfl kk
theorem gn_icmp_eq {off a b : Int} {t : Nat} (hC : C[k]? = some (.if_icmp .eq off, 0, 0, 0, [t])) (hk : k + 1 = k') (kt : a = b → Rn PT x C t L S (K, μ, R, c, s) Q) (kf : ¬ a = b → Rn PT x C k' L S (K, μ, R, c, s) Q) : Rn PT x C k L (mI b :: mI a :: S) (K, μ, R, c, s) Q := by
  subst hk
  cases hq : m_if .eq a b with
  | true => exact Rn.go hC (by show some (Sum.inl (bif m_if .eq a b then t else k + 1, _)) = _; rw [hq]; rfl) (kt (by simpa [m_if] using hq))
  | false => exact Rn.go hC (by show some (Sum.inl (bif m_if .eq a b then t else k + 1, _)) = _; rw [hq]; rfl) (kf (by simpa [m_if] using hq))
theorem gn_icmp_ne {off a b : Int} {t : Nat} (hC : C[k]? = some (.if_icmp .ne off, 0, 0, 0, [t])) (hk : k + 1 = k') (kt : ¬ a = b → Rn PT x C t L S (K, μ, R, c, s) Q) (kf : a = b → Rn PT x C k' L S (K, μ, R, c, s) Q) : Rn PT x C k L (mI b :: mI a :: S) (K, μ, R, c, s) Q := by
  subst hk
  cases hq : m_if .ne a b with
  | true => exact Rn.go hC (by show some (Sum.inl (bif m_if .ne a b then t else k + 1, _)) = _; rw [hq]; rfl) (kt (by simpa [m_if] using hq))
  | false => exact Rn.go hC (by show some (Sum.inl (bif m_if .ne a b then t else k + 1, _)) = _; rw [hq]; rfl) (kf (by simpa [m_if] using hq))
theorem gn_icmp_lt {off a b : Int} {t : Nat} (hC : C[k]? = some (.if_icmp .lt off, 0, 0, 0, [t])) (hk : k + 1 = k') (kt : a < b → Rn PT x C t L S (K, μ, R, c, s) Q) (kf : ¬ a < b → Rn PT x C k' L S (K, μ, R, c, s) Q) : Rn PT x C k L (mI b :: mI a :: S) (K, μ, R, c, s) Q := by
  subst hk
  cases hq : m_if .lt a b with
  | true => exact Rn.go hC (by show some (Sum.inl (bif m_if .lt a b then t else k + 1, _)) = _; rw [hq]; rfl) (kt (by simpa [m_if] using hq))
  | false => exact Rn.go hC (by show some (Sum.inl (bif m_if .lt a b then t else k + 1, _)) = _; rw [hq]; rfl) (kf (by simpa [m_if] using hq))
theorem gn_icmp_ge {off a b : Int} {t : Nat} (hC : C[k]? = some (.if_icmp .ge off, 0, 0, 0, [t])) (hk : k + 1 = k') (kt : b ≤ a → Rn PT x C t L S (K, μ, R, c, s) Q) (kf : ¬ b ≤ a → Rn PT x C k' L S (K, μ, R, c, s) Q) : Rn PT x C k L (mI b :: mI a :: S) (K, μ, R, c, s) Q := by
  subst hk
  cases hq : m_if .ge a b with
  | true => exact Rn.go hC (by show some (Sum.inl (bif m_if .ge a b then t else k + 1, _)) = _; rw [hq]; rfl) (kt (by simpa [m_if] using hq))
  | false => exact Rn.go hC (by show some (Sum.inl (bif m_if .ge a b then t else k + 1, _)) = _; rw [hq]; rfl) (kf (by simpa [m_if] using hq))
theorem gn_icmp_gt {off a b : Int} {t : Nat} (hC : C[k]? = some (.if_icmp .gt off, 0, 0, 0, [t])) (hk : k + 1 = k') (kt : b < a → Rn PT x C t L S (K, μ, R, c, s) Q) (kf : ¬ b < a → Rn PT x C k' L S (K, μ, R, c, s) Q) : Rn PT x C k L (mI b :: mI a :: S) (K, μ, R, c, s) Q := by
  subst hk
  cases hq : m_if .gt a b with
  | true => exact Rn.go hC (by show some (Sum.inl (bif m_if .gt a b then t else k + 1, _)) = _; rw [hq]; rfl) (kt (by simpa [m_if] using hq))
  | false => exact Rn.go hC (by show some (Sum.inl (bif m_if .gt a b then t else k + 1, _)) = _; rw [hq]; rfl) (kf (by simpa [m_if] using hq))
theorem gn_icmp_le {off a b : Int} {t : Nat} (hC : C[k]? = some (.if_icmp .le off, 0, 0, 0, [t])) (hk : k + 1 = k') (kt : a ≤ b → Rn PT x C t L S (K, μ, R, c, s) Q) (kf : ¬ a ≤ b → Rn PT x C k' L S (K, μ, R, c, s) Q) : Rn PT x C k L (mI b :: mI a :: S) (K, μ, R, c, s) Q := by
  subst hk
  cases hq : m_if .le a b with
  | true => exact Rn.go hC (by show some (Sum.inl (bif m_if .le a b then t else k + 1, _)) = _; rw [hq]; rfl) (kt (by simpa [m_if] using hq))
  | false => exact Rn.go hC (by show some (Sum.inl (bif m_if .le a b then t else k + 1, _)) = _; rw [hq]; rfl) (kf (by simpa [m_if] using hq))
theorem gn_new {idx ci n i : Nat} {K' : List (Nat × Nat)} {c' s' : Nat} {q : vw_C} (hC : C[k]? = some (.new idx, ci, 0, 0, [])) (hk : k + 1 = k') (hl : K.length = i) (hv : vwCl[ci]? = some q) (hn : q.2.2 = n) (hc : ci < 100) (hz : ∀ j, μ i j = 0) (hr : ∀ j, R i j = none) (hK : K ++ [(ci, n)] = K') (h1 : c + 1 = c') (h2 : s + n = s') (kk : Rn PT x C k' L (mR i :: S) (K', μ, R, c', s') Q) : Rn PT x C k L S (K, μ, R, c, s) Q := by
  subst hk hl hn hK h1 h2
  have e1 : (fun a j => if a = K.length then 0 else μ a j) = μ := by
    funext a j
    by_cases h : a = K.length
    · rw [if_pos h, h, hz]
    · rw [if_neg h]
  have e2 : (fun a j => if a = K.length then none else R a j) = R := by
    funext a j
    by_cases h : a = K.length
    · rw [if_pos h, h, hr]
    · rw [if_neg h]
  refine Rn.go hC ?_ kk
  have h1 : m_one x (.new idx) (ci, 0, 0, []) L S (K, μ, R, c, s) = some (L, mR K.length :: S, (K ++ [(ci, q.2.2)], μ, R, c + 1, s + q.2.2)) := by
    unfold m_one; dsimp only
    rw [hv]; dsimp only
    rw [if_pos hc]
    show some (L, mR K.length :: S, (K ++ [(ci, q.2.2)], (fun a j => if a = K.length then 0 else μ a j), (fun a j => if a = K.length then none else R a j), c + 1, s + q.2.2)) = _
    rw [e1, e2]
  show (if ci = 200 then _ else (match m_one x (.new idx) (ci, 0, 0, []) L S (K, μ, R, c, s) with | some (L', S', h') => some (Sum.inl (k + 1, L', S', h')) | none => none)) = _
  rw [if_neg (by omega), h1]
theorem gn_newarray {ty : ArrayType} {t i n : Nat} {z : Int} {K' : List (Nat × Nat)} {c' s' : Nat} (hC : C[k]? = some (.newarray ty, t, 0, 0, [])) (hk : k + 1 = k') (hl : K.length = i) (ht : 100 ≤ t ∧ t ≤ 103 ∧ 0 ≤ z ∧ z < 1000000) (hn : z.toNat = n) (hz : ∀ j, μ i j = 0) (hK : K ++ [(t, n)] = K') (h1 : c + 1 = c') (h2 : s + n = s') (kk : Rn PT x C k' L (mR i :: S) (K', μ, R, c', s') Q) : Rn PT x C k L (mI z :: S) (K, μ, R, c, s) Q := by
  subst hk hl hn hK h1 h2
  have e1 : (fun a j => if a = K.length then 0 else μ a j) = μ := by
    funext a j
    by_cases h : a = K.length
    · rw [if_pos h, h, hz]
    · rw [if_neg h]
  refine Rn.go hC ?_ kk
  have h1 : m_one x (.newarray ty) (t, 0, 0, []) L (mI z :: S) (K, μ, R, c, s) = some (L, mR K.length :: S, (K ++ [(t, z.toNat)], μ, R, c + 1, s + z.toNat)) := by
    unfold m_one; dsimp only
    rw [if_pos ht]
    show some (L, mR K.length :: S, (K ++ [(t, z.toNat)], (fun a j => if a = K.length then 0 else μ a j), R, c + 1, s + z.toNat)) = _
    rw [e1]
  show (if t = 200 then _ else (match m_one x (.newarray ty) (t, 0, 0, []) L (mI z :: S) (K, μ, R, c, s) with | some (L', S', h') => some (Sum.inl (k + 1, L', S', h')) | none => none)) = _
  rw [if_neg (by omega), h1]
theorem gn_anewarray {idx t i n : Nat} {z : Int} {K' : List (Nat × Nat)} {c' s' : Nat} (hC : C[k]? = some (.anewarray idx, t, 0, 0, [])) (hk : k + 1 = k') (hl : K.length = i) (ht : t < 100 ∧ 0 ≤ z ∧ z < 1000000) (hn : z.toNat = n) (hr : ∀ j, R i j = none) (hK : K ++ [(104 + t, n)] = K') (h1 : c + 1 = c') (h2 : s + n = s') (kk : Rn PT x C k' L (mR i :: S) (K', μ, R, c', s') Q) : Rn PT x C k L (mI z :: S) (K, μ, R, c, s) Q := by
  subst hk hl hn hK h1 h2
  have e2 : (fun a j => if a = K.length then none else R a j) = R := by
    funext a j
    by_cases h : a = K.length
    · rw [if_pos h, h, hr]
    · rw [if_neg h]
  refine Rn.go hC ?_ kk
  have h1 : m_one x (.anewarray idx) (t, 0, 0, []) L (mI z :: S) (K, μ, R, c, s) = some (L, mR K.length :: S, (K ++ [(104 + t, z.toNat)], μ, R, c + 1, s + z.toNat)) := by
    unfold m_one; dsimp only
    rw [if_pos ht]
    show some (L, mR K.length :: S, (K ++ [(104 + t, z.toNat)], μ, (fun a j => if a = K.length then none else R a j), c + 1, s + z.toNat)) = _
    rw [e2]
  show (if t = 200 then _ else (match m_one x (.anewarray idx) (t, 0, 0, []) L (mI z :: S) (K, μ, R, c, s) with | some (L', S', h') => some (Sum.inl (k + 1, L', S', h')) | none => none)) = _
  rw [if_neg (by omega), h1]
theorem gn_putR {idx ci j a n v : Nat} (hC : C[k]? = some (.putfield idx, ci, j, 0, [])) (hk : k + 1 = k') (hK : K[a]? = some (ci, n)) (hc : ci < 100 ∧ j < n) (ht : m_fty ci j = 3) (kk : Rn PT x C k' L S (K, μ, m_set R a j (some v), c, s) Q) : Rn PT x C k L (mR v :: mR a :: S) (K, μ, R, c, s) Q := by
  subst hk
  refine Rn.go hC ?_ kk
  have h1 : m_one x (.putfield idx) (ci, j, 0, []) L (mR v :: mR a :: S) (K, μ, R, c, s) = some (L, S, (K, μ, m_set R a j (some v), c, s)) := by
    unfold m_one; dsimp only
    rw [show (mh_k (K, μ, R, c, s))[a]? = some (ci, n) from hK]; dsimp only
    rw [if_pos ⟨rfl, hc.1, hc.2, ht⟩]
  show (if ci = 200 then _ else (match m_one x (.putfield idx) (ci, j, 0, []) L (mR v :: mR a :: S) (K, μ, R, c, s) with | some (L', S', h') => some (Sum.inl (k + 1, L', S', h')) | none => none)) = _
  rw [if_neg (by omega), h1]
theorem gn_aastore {a n v t ci n2 : Nat} {i : Int} (hC : C[k]? = some (.aastore, 0, 0, 0, [])) (hk : k + 1 = k') (hK : K[a]? = some (t, n)) (hV : K[v]? = some (ci, n2)) (ht : t = 104 + ci ∧ ci < 100) (h0 : 0 ≤ i) (h1 : i < n) (kk : Rn PT x C k' L S (K, μ, m_set R a i.toNat (some v), c, s) Q) : Rn PT x C k L (mR v :: mI i :: mR a :: S) (K, μ, R, c, s) Q := by
  subst hk
  refine Rn.go hC ?_ kk
  have hq : m_in i n = true := by unfold m_in; simp [h0, h1]
  have h2 : m_one x .aastore (0, 0, 0, []) L (mR v :: mI i :: mR a :: S) (K, μ, R, c, s) = some (L, S, (K, μ, m_set R a i.toNat (some v), c, s)) := by
    unfold m_one; dsimp only
    rw [show (mh_k (K, μ, R, c, s))[a]? = some (t, n) from hK, show (mh_k (K, μ, R, c, s))[v]? = some (ci, n2) from hV]; dsimp only
    rw [if_pos ⟨ht.1, ht.2, hq⟩]
  show (match m_one x .aastore (0, 0, 0, []) L (mR v :: mI i :: mR a :: S) (K, μ, R, c, s) with | some (L', S', h') => some (Sum.inl (k + 1, L', S', h')) | none => none) = _
  rw [h2]
theorem gn_ldcT {n j : Nat} {h : MH} (hC : C[k]? = some (.ldc n, 1, j, 0, [])) (hk : k + 1 = k') (kk : Rn PT x C k' L (mS j :: S) h Q) : Rn PT x C k L S h Q := by
  subst hk
  exact Rn.go hC rfl kk
theorem gn_chr2 {idx : Nat} {i : Int} {h : MH} (hC : C[k]? = some (.invokevirtual idx, 1001, 0, 0, [])) (hk : k + 1 = k') (h0 : 0 ≤ i) (h1 : i < 78) (hw : m_w S ≤ 7) (kk : Rn PT x C k' L (mI ((m_txt 2).getD i.toNat 0) :: S) h Q) : Rn PT x C k L (mI i :: mS 2 :: S) h Q := by
  subst hk
  refine Rn.go hC ?_ kk
  have hq : m_in i (m_txt 2).length = true := by
    rw [show (m_txt 2).length = 78 by decide +kernel]
    unfold m_in; simp [h0, h1]
  show m_call PT 1 (1001, 0, 0, []) k L (mI i :: mS 2 :: S) h = _
  have e : m_nat 1001 (mI i :: mS 2 :: S) h = some (mI ((m_txt 2).getD i.toNat 0) :: S, h) := by
    show (if m_in i (m_txt 2).length then some (mI ((m_txt 2).getD i.toNat 0) :: S, h) else none) = _
    rw [if_pos hq]
  unfold m_call
  rw [if_pos (by decide)]
  show (match m_nat 1001 (mI i :: mS 2 :: S) h with | some (S', h') => if m_w S' ≤ 8 then some (Sum.inl (k + 1, L, S', h')) else none | none => none) = _
  rw [e]
  show (if m_w (mI ((m_txt 2).getD i.toNat 0) :: S) ≤ 8 then _ else none) = _
  rw [if_pos (by show 1 + m_w S ≤ 8; omega)]
theorem gn_len2 {idx : Nat} {h : MH} (hC : C[k]? = some (.invokevirtual idx, 1002, 0, 0, [])) (hk : k + 1 = k') (hw : m_w S ≤ 7) (kk : Rn PT x C k' L (mI 78 :: S) h Q) : Rn PT x C k L (mS 2 :: S) h Q := by
  subst hk
  refine Rn.go hC ?_ kk
  show m_call PT 1 (1002, 0, 0, []) k L (mS 2 :: S) h = _
  have e : m_nat 1002 (mS 2 :: S) h = some (mI 78 :: S, h) := by
    show some (mI ((m_txt 2).length : Int) :: S, h) = _
    rw [show (m_txt 2).length = 78 by decide +kernel]
    rfl
  unfold m_call
  rw [if_pos (by decide)]
  show (match m_nat 1002 (mS 2 :: S) h with | some (S', h') => if m_w S' ≤ 8 then some (Sum.inl (k + 1, L, S', h')) else none | none => none) = _
  rw [e]
  show (if m_w (mI 78 :: S) ≤ 8 then _ else none) = _
  rw [if_pos (by show 1 + m_w S ≤ 8; omega)]
end GN
theorem gl_fill {μ : Nat → Nat → Int} {K : List (Nat × Nat)} {R : Nat → Nat → Option Nat} {c s a N : Nat} {v : Int} (hK : K[a]? = some (100, N)) (hN : N < 2147483648) : ∀ (d n : Nat) (k : Int), k = (n : Int) → n + d = N → Rn PT none kJ7_fill_53178 5 [some (mR a), some (mI v), some (mI k), some (mI (N : Int))] [] (K, m_upd μ a (fl (fun _ => v) (μ a) n), R, c, s) (fun r => r = (some none, (K, m_upd μ a (fl (fun _ => v) (μ a) N), R, c, s))) := by
  intro d
  induction d with
  | zero =>
    intro n k ek hn
    subst ek
    refine gn_iload_n (k' := 6) rfl rfl rfl ?_
    refine gn_iload_n (k' := 7) rfl rfl rfl ?_
    refine gn_icmp_ge (k' := 8) rfl rfl (fun hc => ?_) (fun hc => ?_)
    · refine rn_vret rfl ?_
      rw [show N = n by omega]
    · exfalso; omega
  | succ d ih =>
    intro n k ek hn
    subst ek
    refine gn_iload_n (k' := 6) rfl rfl rfl ?_
    refine gn_iload_n (k' := 7) rfl rfl rfl ?_
    refine gn_icmp_ge (k' := 8) rfl rfl (fun hc => ?_) (fun hc => ?_)
    · exfalso; omega
    · refine gn_aload_n (k' := 9) rfl rfl rfl ?_
      refine gn_iload_n (k' := 10) rfl rfl rfl ?_
      refine gn_iload_n (k' := 11) rfl rfl rfl ?_
      refine gn_iastore (k' := 12) rfl rfl hK (by omega) (by omega) ?_
      refine gn_iinc (k' := 13) (L' := [some (mR a), some (mI v), some (mI ((n : Int) + 1)), some (mI (N : Int))]) rfl rfl rfl (by omega) rfl ?_
      refine gn_goto rfl ?_
      show Rn PT none kJ7_fill_53178 5 _ _ (K, m_set (m_upd μ a (fl (fun _ => v) (μ a) n)) a n v, R, c, s) _
      rw [fl_st rfl]
      exact ih (n + 1) _ (by omega) (by omega)
theorem gc_fill {μ : Nat → Nat → Int} {K : List (Nat × Nat)} {R : Nat → Nat → Option Nat} {c s a N : Nat} {v : Int} (hK : K[a]? = some (100, N)) (hN : N < 2147483648) : Cl PT 275 [mR a, mI v] (K, μ, R, c, s) (fun r => r = (some none, (K, m_upd μ a (fl (fun _ => v) (μ a) N), R, c, s))) := by
  refine ⟨_, PT_275, Nat.le_of_ble_eq_true rfl, ?_⟩
  show Rn PT none kJ7_fill_53178 0 [some (mR a), some (mI v), none, none] [] (K, μ, R, c, s) _
  refine gn_iconst (k' := 1) rfl rfl ?_
  refine gn_istore_n (k' := 2) (L' := [some (mR a), some (mI v), some (mI 0), none]) rfl rfl (Nat.le_of_ble_eq_true rfl) rfl ?_
  refine gn_aload_n (k' := 3) rfl rfl rfl ?_
  refine gn_alen (k' := 4) rfl rfl hK ⟨by decide, hN⟩ ?_
  refine gn_istore_n (k' := 5) (L' := [some (mR a), some (mI v), some (mI 0), some (mI (N : Int))]) rfl rfl (Nat.le_of_ble_eq_true rfl) rfl ?_
  have h := gl_fill (μ := μ) (K := K) (R := R) (c := c) (s := s) (v := v) hK hN N 0 0 rfl (by omega)
  rw [fl_0] at h
  exact h
theorem gc_fill0 {μ : Nat → Nat → Int} {K : List (Nat × Nat)} {R : Nat → Nat → Option Nat} {c s a N : Nat} {v : Int} (hK : K[a]? = some (100, N)) (hN : N < 2147483648) (h0 : ∀ j, μ a j = 0) : Cl PT 275 [mR a, mI v] (K, μ, R, c, s) (fun r => r = (some none, (K, m_upd μ a (fl (fun _ => v) (fun _ => 0) N), R, c, s))) := by
  have h := gc_fill (μ := μ) (R := R) (c := c) (s := s) (v := v) hK hN
  rw [show μ a = fun _ => 0 from funext h0] at h
  exact h
/-- nothing stands yet in the cells from i on -/
def ZrI (i : Nat) (μ : Nat → Nat → Int) : Prop := ∀ a j, i ≤ a → μ a j = 0
def ZrO (i : Nat) (R : Nat → Nat → Option Nat) : Prop := ∀ a j, i ≤ a → R a j = none
theorem ZrI.up {i i' : Nat} {μ : Nat → Nat → Int} (h : ZrI i μ) (hi : i ≤ i') : ZrI i' μ := fun a j ha => h a j (Nat.le_trans hi ha)
theorem ZrO.up {i i' : Nat} {R : Nat → Nat → Option Nat} (h : ZrO i R) (hi : i ≤ i') : ZrO i' R := fun a j ha => h a j (Nat.le_trans hi ha)
theorem ZrI.s {i b j : Nat} {v : Int} {μ : Nat → Nat → Int} (h : ZrI i μ) (hb : b < i) : ZrI i (m_set μ b j v) := fun a j' ha => by
  show (if a = b ∧ j' = j then v else μ a j') = 0
  rw [if_neg (fun z => by omega)]
  exact h a j' ha
theorem ZrI.u {i b : Nat} {f : Nat → Int} {μ : Nat → Nat → Int} (h : ZrI i μ) (hb : b < i) : ZrI i (m_upd μ b f) := fun a j' ha => by
  show (if a = b then f j' else μ a j') = 0
  rw [if_neg (by omega)]
  exact h a j' ha
theorem ZrO.s {i b j : Nat} {v : Option Nat} {R : Nat → Nat → Option Nat} (h : ZrO i R) (hb : b < i) : ZrO i (m_set R b j v) := fun a j' ha => by
  show (if a = b ∧ j' = j then v else R a j') = none
  rw [if_neg (fun z => by omega)]
  exact h a j' ha
/-- the words, letter by letter -/
def wtx (i : Nat) : Int := (m_txt 2).getD i 0
def wst : Nat → Nat × (Nat → Int)
  | 0 => (0, fun _ => 0)
  | i + 1 => if wtx i = 32 then ((wst i).1 + 1, (wst i).2) else ((wst i).1, fs (wst i).2 (wst i).1 ((wst i).2 (wst i).1 * 32 + wtx i - 96))
theorem wst_b : ∀ i, i < 78 → (wst i).1 < 16 ∧ 0 ≤ (wst i).2 (wst i).1 ∧ (¬ wtx i = 32 → (wst i).2 (wst i).1 ≤ 40000000) ∧ 0 ≤ wtx i ∧ wtx i ≤ 127 := by decide +kernel
theorem wst_s {i : Nat} (h : wtx i = 32) : wst (i + 1) = ((wst i).1 + 1, (wst i).2) := if_pos h
theorem wst_l {i : Nat} (h : ¬ wtx i = 32) : wst (i + 1) = ((wst i).1, fs (wst i).2 (wst i).1 ((wst i).2 (wst i).1 * 32 + wtx i - 96)) := if_neg h
theorem gl_words {μ : Nat → Nat → Int} {K : List (Nat × Nat)} {R : Nat → Nat → Option Nat} {c s : Nat} {Q : MR → Prop} (h3 : K[3]? = some (5, 3)) (h4 : K[4]? = some (100, 16)) (hr : R 3 1 = some 4) (kk : Q (some none, (K, m_upd μ 4 (wst 78).2, R, c, s))) : ∀ (d i : Nat) (u v : Int) (y : Option MV), v = (i : Int) → u = ((wst i).1 : Int) → i + d = 78 → (y = none ∨ ∃ z, y = some (mI z)) → Rn PT none kX5_init 13 [some (mR 3), some (mR 1), some (mI u), some (mI v), y] [] (K, m_upd μ 4 (wst i).2, R, c, s) Q := by
  intro d
  induction d with
  | zero =>
    intro i u v y ev eu hi hy
    subst ev eu
    refine gn_iload_n (k' := 14) rfl rfl rfl ?_
    refine gn_ldcT (k' := 15) rfl rfl ?_
    refine gn_len2 (k' := 16) rfl rfl (Nat.le_of_ble_eq_true rfl) ?_
    refine gn_icmp_ge (k' := 17) rfl rfl (fun hc => ?_) (fun hc => ?_)
    · refine rn_vret rfl ?_
      rw [show i = 78 by omega]
      exact kk
    · exfalso; omega
  | succ d ih =>
    intro i u v y ev eu hi hy
    subst ev eu
    obtain ⟨b1, b2, b3, b4, b5⟩ := wst_b i (by omega)
    refine gn_iload_n (k' := 14) rfl rfl rfl ?_
    refine gn_ldcT (k' := 15) rfl rfl ?_
    refine gn_len2 (k' := 16) rfl rfl (Nat.le_of_ble_eq_true rfl) ?_
    refine gn_icmp_ge (k' := 17) rfl rfl (fun hc => ?_) (fun hc => ?_)
    · exfalso; omega
    refine gn_iload_n (k' := 18) rfl rfl rfl ?_
    refine gn_bipush (k' := 19) rfl rfl ?_
    refine gn_icmp_ge (k' := 20) rfl rfl (fun hc => ?_) (fun hc => ?_)
    · exfalso; omega
    refine gn_ldcT (k' := 21) rfl rfl ?_
    refine gn_iload_n (k' := 22) rfl rfl rfl ?_
    refine gn_chr2 (k' := 23) rfl rfl (by omega) (by omega) (Nat.le_of_ble_eq_true rfl) ?_
    rw [show (m_txt 2).getD ((i : Int)).toNat 0 = wtx i from rfl]
    have hst : m_st1 [some (mR 3), some (mR 1), some (mI ((wst i).1 : Int)), some (mI (i : Int)), y] 4 (mI (wtx i)) = [some (mR 3), some (mR 1), some (mI ((wst i).1 : Int)), some (mI (i : Int)), some (mI (wtx i))] := rfl
    refine gn_istore (k' := 24) rfl rfl (Nat.le_of_ble_eq_true rfl) hst ?_
    refine gn_iload (k' := 25) rfl rfl rfl ?_
    refine gn_bipush (k' := 26) rfl rfl ?_
    refine gn_icmp_ne (k' := 27) rfl rfl (fun hc => ?_) (fun hc => ?_)
    · have b3' := b3 hc
      refine gn_aload_n (k' := 30) rfl rfl rfl ?_
      refine gn_getR (k' := 31) rfl rfl h3 (by decide) rfl hr ?_
      refine gn_iload_n (k' := 32) rfl rfl rfl ?_
      refine gn_aload_n (k' := 33) rfl rfl rfl ?_
      refine gn_getR (k' := 34) rfl rfl h3 (by decide) rfl hr ?_
      refine gn_iload_n (k' := 35) rfl rfl rfl ?_
      refine gn_iaload (k' := 36) rfl rfl h4 (by omega) (by omega) ?_
      rw [show m_upd μ 4 (wst i).2 4 ((wst i).1 : Int).toNat = (wst i).2 (wst i).1 from rfl]
      refine gn_bipush (k' := 37) rfl rfl ?_
      refine gn_imul (k' := 38) rfl rfl (by omega) ?_
      refine gn_iload (k' := 39) rfl rfl rfl ?_
      refine gn_iadd (k' := 40) rfl rfl (by omega) ?_
      refine gn_bipush (k' := 41) rfl rfl ?_
      refine gn_isub (k' := 42) rfl rfl (by omega) ?_
      refine gn_iastore (k' := 43) rfl rfl h4 (by omega) (by omega) ?_
      refine gn_iinc (k' := 44) (L' := [some (mR 3), some (mR 1), some (mI ((wst i).1 : Int)), some (mI ((i : Int) + 1)), some (mI (wtx i))]) rfl rfl rfl (by omega) rfl ?_
      refine gn_goto rfl ?_
      have e := ih (i + 1) ((wst (i + 1)).1 : Int) ((i : Int) + 1) (some (mI (wtx i))) (by omega) rfl (by omega) (.inr ⟨_, rfl⟩)
      rw [wst_l hc] at e
      rw [show m_set (m_upd μ 4 (wst i).2) 4 ((wst i).1 : Int).toNat ((wst i).2 (wst i).1 * 32 + wtx i - 96) = m_upd μ 4 (fs (wst i).2 (wst i).1 ((wst i).2 (wst i).1 * 32 + wtx i - 96)) from set_upd_eq]
      exact e
    · refine gn_iinc (k' := 28) (L' := [some (mR 3), some (mR 1), some (mI (((wst i).1 : Int) + 1)), some (mI (i : Int)), some (mI (wtx i))]) rfl rfl rfl (by omega) rfl ?_
      refine gn_goto rfl ?_
      refine gn_iinc (k' := 44) (L' := [some (mR 3), some (mR 1), some (mI (((wst i).1 : Int) + 1)), some (mI ((i : Int) + 1)), some (mI (wtx i))]) rfl rfl rfl (by omega) rfl ?_
      refine gn_goto rfl ?_
      have e := ih (i + 1) ((wst (i + 1)).1 : Int) ((i : Int) + 1) (some (mI (wtx i))) (by omega) rfl (by omega) (.inr ⟨_, rfl⟩)
      rw [wst_s hc] at e
      exact e
