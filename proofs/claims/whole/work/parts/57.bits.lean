variable {N : Int}
/-! ===== printed by wip/whole/gen57.py: ints and longs by their bits (some rows began as kit/laws/BITS.to-paste) ===== -/
def bI (z : Int) (i : Nat) : Bool := (BitVec.ofInt 32 z).getLsbD i
theorem bI_int (x : Int32) (i : Nat) : bI x.toInt i = x.toBitVec.getLsbD i := by
  unfold bI
  show (BitVec.ofInt 32 x.toBitVec.toInt).getLsbD i = _
  rw [BitVec.ofInt_toInt]
theorem bI_or (x y : Int) (i : Nat) : bI (m_or x y) i = (bI x i || bI y i) := by
  unfold m_or
  rw [bI_int, Int32.toBitVec_or, BitVec.getLsbD_or]
  rfl
theorem bI_and (x y : Int) (i : Nat) : bI (m_and x y) i = (bI x i && bI y i) := by
  unfold m_and
  rw [bI_int, Int32.toBitVec_and, BitVec.getLsbD_and]
  rfl
theorem bI_xor (x y : Int) (i : Nat) : bI (m_xor x y) i = (bI x i ^^ bI y i) := by
  unfold m_xor
  rw [bI_int, Int32.toBitVec_xor, BitVec.getLsbD_xor]
  rfl
theorem bI_big {x : Int} {i : Nat} (h : 32 ≤ i) : bI x i = false := BitVec.getLsbD_of_ge _ _ h
theorem bI_m1 : ∀ i, i < 32 → bI (-1) i = true := by decide +kernel
theorem bI_0 : ∀ i, i < 32 → bI 0 i = false := by decide +kernel
theorem bI_1 : ∀ i, i < 32 → bI 1 i = decide (i = 0) := by decide +kernel
theorem bI_ext {x y : Int} (hx : i32 x) (hy : i32 y) (h : ∀ i, i < 32 → bI x i = bI y i) : x = y := by
  have e : BitVec.ofInt 32 x = BitVec.ofInt 32 y := BitVec.eq_of_getLsbD_eq (fun i hi => h i hi)
  have e2 : (BitVec.ofInt 32 x).toInt = (BitVec.ofInt 32 y).toInt := by rw [e]
  rw [BitVec.toInt_ofInt, BitVec.toInt_ofInt] at e2
  have a1 := w32_id hx
  have a2 := w32_id hy
  unfold w32 at a1 a2
  rw [a1, a2] at e2
  exact e2
theorem s1_l : ∀ n : Nat, n < 32 → ((Int32.ofInt (n : Int) &&& 31).toBitVec.smod 32).toNat = n := by decide +kernel
theorem s1_u : ∀ n : Nat, n < 32 → (((Int32.ofInt (n : Int)).toUInt32 &&& Int32.toUInt32 31).toBitVec % 32).toNat = n := by decide +kernel
theorem bI_shl {n : Nat} (hn : n < 32) (x : Int) {i : Nat} (hi : i < 32) : bI (m_shl x n) i = (decide (n ≤ i) && bI x (i - n)) := by
  unfold m_shl
  rw [bI_int, Int32.toBitVec_shiftLeft]
  show ((Int32.ofInt x).toBitVec <<< ((Int32.ofInt (n : Int) &&& 31).toBitVec.smod 32).toNat).getLsbD i = _
  rw [s1_l n hn, BitVec.getLsbD_shiftLeft]
  rcases Nat.lt_or_ge i n with h | h
  · simp [h, Nat.not_le.mpr h]
  · simp [hi, h, Nat.not_lt.mpr h]
    rfl
theorem bI_ushr {n : Nat} (hn : n < 32) (x : Int) (i : Nat) : bI (m_ushr x n) i = bI x (n + i) := by
  unfold m_ushr
  rw [bI_int]
  show ((Int32.ofInt x).toUInt32 >>> ((Int32.ofInt (n : Int)).toUInt32 &&& Int32.toUInt32 31)).toBitVec.getLsbD i = (Int32.ofInt x).toUInt32.toBitVec.getLsbD (n + i)
  rw [UInt32.toBitVec_shiftRight]
  show ((Int32.ofInt x).toUInt32.toBitVec >>> (((Int32.ofInt (n : Int)).toUInt32 &&& Int32.toUInt32 31).toBitVec % 32).toNat).getLsbD i = _
  rw [s1_u n hn, BitVec.getLsbD_ushiftRight]
theorem bI_shr {n : Nat} (hn : n < 32) (x : Int) {i : Nat} (hi : i < 32) : bI (m_shr x n) i = if n + i < 32 then bI x (n + i) else bI x 31 := by
  unfold m_shr
  rw [bI_int, Int32.toBitVec_shiftRight]
  show ((Int32.ofInt x).toBitVec.sshiftRight ((Int32.ofInt (n : Int) &&& 31).toBitVec.smod 32).toNat).getLsbD i = _
  rw [s1_l n hn, BitVec.getLsbD_sshiftRight, BitVec.msb_eq_getLsbD_last, show decide (32 ≤ i) = false from decide_eq_false (by omega)]
  rfl
theorem r_or (x y : Int) : i32 (m_or x y) := i32_of _
theorem r_and (x y : Int) : i32 (m_and x y) := i32_of _
theorem r_xor (x y : Int) : i32 (m_xor x y) := i32_of _
theorem r_shl (x y : Int) : i32 (m_shl x y) := i32_of _
theorem r_shr (x y : Int) : i32 (m_shr x y) := i32_of _
theorem r_ushr (x y : Int) : i32 (m_ushr x y) := i32_of _
theorem i32_0 : i32 0 := by decide
theorem i32_1 : i32 1 := by decide
/-- one bit -/
theorem bI_shl1 {n : Nat} (hn : n < 32) {i : Nat} (hi : i < 32) : bI (m_shl 1 n) i = decide (i = n) := by
  rw [bI_shl hn 1 hi]
  by_cases h : n ≤ i
  · rw [bI_1 _ (by omega)]
    by_cases e : i = n
    · subst e; simp
    · simp [e]; omega
  · simp [h]; omega
theorem bit_of {y : Int} (hy : i32 y) (b : Bool) (h0 : bI y 0 = b) : m_and y 1 = if b = true then 1 else 0 := by
  refine bI_ext (r_and _ _) (by cases b <;> decide) (fun i hi => ?_)
  rw [bI_and, bI_1 i hi]
  by_cases e : i = 0
  · subst e
    rw [h0]
    cases b
    · rfl
    · rfl
  · cases b
    · show (_ && decide (i = 0)) = bI 0 i
      rw [bI_0 i hi]; simp [e]
    · show (_ && decide (i = 0)) = bI 1 i
      rw [bI_1 i hi]; simp [e]
theorem bit_u {x : Int} {k : Nat} (hk : k < 32) : m_and (m_ushr x k) 1 = if bI x k = true then 1 else 0 := bit_of (r_ushr _ _) _ (bI_ushr hk x 0)
theorem bit_s {x : Int} {k : Nat} (hk : k < 32) : m_and (m_shr x k) 1 = if bI x k = true then 1 else 0 := bit_of (r_shr _ _) _ (by rw [bI_shr hk x (by omega), if_pos (by omega)]; rfl)
theorem fO_r {p : Nat → Prop} [DecidablePred p] : ∀ n, i32 (fO p n)
  | 0 => i32_0
  | n + 1 => by
    unfold fO
    split
    · exact r_or _ _
    · exact fO_r n
theorem fO_bit {p : Nat → Prop} [DecidablePred p] : ∀ n, n ≤ 32 → ∀ i, i < 32 → bI (fO p n) i = decide (i < n ∧ p i)
  | 0, _, i, hi => by
    show bI 0 i = _
    rw [bI_0 i hi]; simp
  | n + 1, hn, i, hi => by
    have ih := fO_bit (p := p) n (by omega) i hi
    by_cases h : p n
    · rw [fO_pos h, bI_or, ih, bI_shl1 (by omega) hi]
      by_cases e : i = n
      · subst e; simp [h]
      · by_cases e2 : p i
        · simp [e, e2]; omega
        · simp [e, e2]
    · rw [fO_neg h, ih]
      by_cases e : i = n
      · subst e; simp [h]
      · by_cases e2 : p i
        · simp [e2]; omega
        · simp [e2]
theorem fO_or {p q : Nat → Prop} [DecidablePred p] [DecidablePred q] {n : Nat} (hn : n ≤ 32) : m_or (fO p n) (fO q n) = fO (fun j => p j ∨ q j) n := by
  refine bI_ext (r_or _ _) (fO_r _) (fun i hi => ?_)
  rw [bI_or, fO_bit n hn i hi, fO_bit n hn i hi, fO_bit n hn i hi]
  by_cases h1 : i < n <;> by_cases h2 : p i <;> by_cases h3 : q i <;> simp [h1, h2, h3]
/-- longs -/
def bJ (z : Int) (i : Nat) : Bool := (BitVec.ofInt 64 z).getLsbD i
theorem bJ_int (x : Int64) (i : Nat) : bJ x.toInt i = x.toBitVec.getLsbD i := by
  unfold bJ
  show (BitVec.ofInt 64 x.toBitVec.toInt).getLsbD i = _
  rw [BitVec.ofInt_toInt]
theorem bJ_or (x y : Int) (i : Nat) : bJ (m_lor x y) i = (bJ x i || bJ y i) := by
  unfold m_lor
  rw [bJ_int, Int64.toBitVec_or, BitVec.getLsbD_or]
  rfl
theorem bJ_and (x y : Int) (i : Nat) : bJ (m_land x y) i = (bJ x i && bJ y i) := by
  unfold m_land
  rw [bJ_int, Int64.toBitVec_and, BitVec.getLsbD_and]
  rfl
theorem bJ_xor (x y : Int) (i : Nat) : bJ (m_lxor x y) i = (bJ x i ^^ bJ y i) := by
  unfold m_lxor
  rw [bJ_int, Int64.toBitVec_xor, BitVec.getLsbD_xor]
  rfl
theorem bJ_m1 : ∀ i, i < 64 → bJ (-1) i = true := by decide +kernel
theorem bJ_0 : ∀ i, i < 64 → bJ 0 i = false := by decide +kernel
theorem bJ_1 : ∀ i, i < 64 → bJ 1 i = decide (i = 0) := by decide +kernel
abbrev i64 (z : Int) : Prop := -9223372036854775808 ≤ z ∧ z < 9223372036854775808
theorem i64_of (x : Int64) : i64 x.toInt := ⟨by have := x.le_toInt; omega, by have := x.toInt_lt; omega⟩
theorem bJ_ext {x y : Int} (hx : i64 x) (hy : i64 y) (h : ∀ i, i < 64 → bJ x i = bJ y i) : x = y := by
  have e : BitVec.ofInt 64 x = BitVec.ofInt 64 y := BitVec.eq_of_getLsbD_eq (fun i hi => h i hi)
  have e2 : (BitVec.ofInt 64 x).toInt = (BitVec.ofInt 64 y).toInt := by rw [e]
  rw [BitVec.toInt_ofInt, BitVec.toInt_ofInt] at e2
  have a1 := w64_id hx
  have a2 := w64_id hy
  unfold w64 at a1 a2
  rw [a1, a2] at e2
  exact e2
theorem s1_L : ∀ n : Nat, n < 64 → (((Int32.ofInt (n : Int)).toInt64 &&& 63).toBitVec.smod 64).toNat = n := by decide +kernel
theorem s1_U : ∀ n : Nat, n < 64 → (((Int32.ofInt (n : Int)).toInt64.toUInt64 &&& Int64.toUInt64 63).toBitVec % 64).toNat = n := by decide +kernel
theorem bJ_shl {n : Nat} (hn : n < 64) (x : Int) {i : Nat} (hi : i < 64) : bJ (m_lshl x n) i = (decide (n ≤ i) && bJ x (i - n)) := by
  unfold m_lshl
  rw [bJ_int, Int64.toBitVec_shiftLeft]
  show ((Int64.ofInt x).toBitVec <<< (((Int32.ofInt (n : Int)).toInt64 &&& 63).toBitVec.smod 64).toNat).getLsbD i = _
  rw [s1_L n hn, BitVec.getLsbD_shiftLeft]
  rcases Nat.lt_or_ge i n with h | h
  · simp [h, Nat.not_le.mpr h]
  · simp [hi, h, Nat.not_lt.mpr h]
    rfl
theorem bJ_ushr {n : Nat} (hn : n < 64) (x : Int) (i : Nat) : bJ (m_lushr x n) i = bJ x (n + i) := by
  unfold m_lushr
  rw [bJ_int]
  show ((Int64.ofInt x).toUInt64 >>> ((Int32.ofInt (n : Int)).toInt64.toUInt64 &&& Int64.toUInt64 63)).toBitVec.getLsbD i = (Int64.ofInt x).toUInt64.toBitVec.getLsbD (n + i)
  rw [UInt64.toBitVec_shiftRight]
  show ((Int64.ofInt x).toUInt64.toBitVec >>> (((Int32.ofInt (n : Int)).toInt64.toUInt64 &&& Int64.toUInt64 63).toBitVec % 64).toNat).getLsbD i = _
  rw [s1_U n hn, BitVec.getLsbD_ushiftRight]
theorem r_lor (x y : Int) : i64 (m_lor x y) := i64_of _
theorem r_land (x y : Int) : i64 (m_land x y) := i64_of _
theorem r_lxor (x y : Int) : i64 (m_lxor x y) := i64_of _
theorem r_lshl (x y : Int) : i64 (m_lshl x y) := i64_of _
theorem r_lushr (x y : Int) : i64 (m_lushr x y) := i64_of _
theorem bitJ {x : Int} {k : Nat} (hk : k < 64) : m_land (m_lushr x k) 1 = if bJ x k = true then 1 else 0 := by
  refine bJ_ext (r_land _ _) (by split <;> decide) (fun i hi => ?_)
  rw [bJ_and, bJ_ushr hk, bJ_1 i hi]
  by_cases e : i = 0
  · subst e
    rw [Nat.add_zero]
    cases bJ x k
    · rfl
    · rfl
  · cases bJ x k
    · show (_ && decide (i = 0)) = bJ 0 i
      rw [bJ_0 i hi]; simp [e]
    · show (_ && decide (i = 0)) = bJ 1 i
      rw [bJ_1 i hi]; simp [e]
