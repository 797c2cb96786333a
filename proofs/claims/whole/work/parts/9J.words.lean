/-! ===== written by hand: the words and numbers of tokens ===== -/
theorem bJ_nat (x : Nat) {i : Nat} (hi : i < 64) : bJ (x : Int) i = x.testBit i := by
  unfold bJ
  rw [BitVec.ofInt_natCast, BitVec.getLsbD_ofNat]
  simp [hi]
theorem lor8 (x c : Nat) (hc : c < 256) (hx : x * 256 + c < 9223372036854775808) : m_lor (m_lshl (x : Int) 8) (c : Int) = (x : Int) * 256 + (c : Int) := by
  have e : ((x : Int) * 256 + (c : Int)) = ((2 ^ 8 * x + c : Nat) : Int) := by
    have : (2 : Nat) ^ 8 = 256 := rfl
    rw [this]; omega
  rw [e]
  have hlt : (2 : Nat) ^ 8 * x + c < 9223372036854775808 := by
    have : (2 : Nat) ^ 8 = 256 := rfl
    rw [this]; omega
  refine bJ_ext (r_lor _ _) ⟨by omega, by omega⟩ (fun i hi => ?_)
  rw [bJ_or]
  have e8 : bJ (m_lshl (x : Int) 8) i = (decide (8 ≤ i) && bJ (x : Int) (i - 8)) := bJ_shl (n := 8) (by omega) (x : Int) hi
  rw [e8, bJ_nat x (by omega), bJ_nat c hi, bJ_nat _ hi, Nat.testBit_two_pow_mul_add x hc i]
  by_cases h : i < 8
  · rw [if_pos h]
    have : decide (8 ≤ i) = false := decide_eq_false (by omega)
    rw [this]; rfl
  · rw [if_neg h]
    have h1 : decide (8 ≤ i) = true := decide_eq_true (by omega)
    have h2 : c.testBit i = false := Nat.testBit_lt_two_pow (Nat.lt_of_lt_of_le (show c < 2 ^ 8 from hc) (Nat.pow_le_pow_right (show 0 < 2 by decide) (show 8 ≤ i by omega)))
    rw [h1, h2, Bool.true_and, Bool.or_false]
theorem lor8i {x c : Int} (h0 : 0 ≤ x) (h1 : 0 ≤ c) (hc : c ≤ 255) (hx : x * 256 + c < 9223372036854775808) : m_lor (m_lshl x 8) c = x * 256 + c := by
  have h := lor8 x.toNat c.toNat (by omega) (by omega)
  rw [Int.toNat_of_nonneg h0, Int.toNat_of_nonneg h1] at h
  exact h
/-- the bytes of a run, the last one first -/
def wl (b : Nat → Int) (q : Nat) : Nat → List Int
  | 0 => []
  | k + 1 => b (q + k) :: wl b q k
theorem wl_len {b : Nat → Int} {q : Nat} : ∀ k, (wl b q k).length = k
  | 0 => rfl
  | k + 1 => by show (wl b q k).length + 1 = k + 1; rw [wl_len k]
theorem wl_mem {b : Nat → Int} {q : Nat} : ∀ k, (∀ j, j < k → sm (b (q + j))) → ∀ c ∈ wl b q k, 97 ≤ c ∧ c ≤ 122
  | 0, _, c, h => by cases h
  | k + 1, hs, c, h => by
    rcases List.mem_cons.mp h with h | h
    · rw [h]; exact hs k (by omega)
    · exact wl_mem k (fun j hj => hs j (by omega)) c h
theorem en_b {B o : Int} (hB : 0 ≤ B) (ho : o ≤ 97) (hB2 : 122 - o < B) : ∀ w : List Int, (∀ c ∈ w, 97 ≤ c ∧ c ≤ 122) → 0 ≤ en B o w ∧ en B o w < B ^ w.length
  | [], _ => ⟨Int.le_refl 0, by show (0 : Int) < B ^ 0; simp⟩
  | c :: w, h => by
    obtain ⟨h1, h2⟩ := en_b hB ho hB2 w (fun d hd => h d (List.mem_cons_of_mem _ hd))
    have hc := h c List.mem_cons_self
    show 0 ≤ en B o w * B + (c - o) ∧ en B o w * B + (c - o) < B ^ (w.length + 1)
    have h3 : 0 ≤ en B o w * B := Int.mul_nonneg h1 hB
    have h4 : (en B o w + 1) * B ≤ B ^ w.length * B := Int.mul_le_mul_of_nonneg_right (by omega) hB
    rw [Int.add_mul, Int.one_mul] at h4
    rw [Int.pow_succ]
    omega
theorem en_inj {B o : Int} (ho : o ≤ 96) (hB2 : 122 - o < B) : ∀ w v : List Int, (∀ c ∈ w, 97 ≤ c ∧ c ≤ 122) → (∀ c ∈ v, 97 ≤ c ∧ c ≤ 122) → en B o w = en B o v → w = v
  | [], [], _, _, _ => rfl
  | [], d :: v, _, hv, h => by
    exfalso
    have hd := hv d List.mem_cons_self
    have h1 := (en_b (B := B) (o := o) (by omega) (by omega) hB2 v (fun c hc => hv c (List.mem_cons_of_mem _ hc))).1
    have h2 : 0 ≤ en B o v * B := Int.mul_nonneg h1 (by omega)
    have h3 : (0 : Int) = en B o v * B + (d - o) := h
    omega
  | c :: w, [], hw, _, h => by
    exfalso
    have hd := hw c List.mem_cons_self
    have h1 := (en_b (B := B) (o := o) (by omega) (by omega) hB2 w (fun c hc => hw c (List.mem_cons_of_mem _ hc))).1
    have h2 : 0 ≤ en B o w * B := Int.mul_nonneg h1 (by omega)
    have h3 : en B o w * B + (c - o) = (0 : Int) := h
    omega
  | c :: w, d :: v, hw, hv, h => by
    have hc := hw c List.mem_cons_self
    have hd := hv d List.mem_cons_self
    have h3 : en B o w * B + (c - o) = en B o v * B + (d - o) := h
    have m1 : (en B o w * B + (c - o)) % B = c - o := by
      rw [Int.add_comm, Int.add_mul_emod_self_right]; exact Int.emod_eq_of_lt (by omega) (by omega)
    have m2 : (en B o v * B + (d - o)) % B = d - o := by
      rw [Int.add_comm, Int.add_mul_emod_self_right]; exact Int.emod_eq_of_lt (by omega) (by omega)
    have e1 : c = d := by
      rw [h3, m2] at m1; omega
    have e2 : en B o w * B = en B o v * B := by omega
    have e3 : en B o w = en B o v := Int.eq_of_mul_eq_mul_right (by omega) e2
    rw [e1, en_inj ho hB2 w v (fun c hc => hw c (List.mem_cons_of_mem _ hc)) (fun c hc => hv c (List.mem_cons_of_mem _ hc)) e3]
theorem Nm_iff {x y x' y' : Int} (h : Nm x y) (h' : Nm x' y') : x = x' ↔ y = y' := by
  obtain ⟨w, _, hw, rfl, rfl⟩ := h
  obtain ⟨v, _, hv, rfl, rfl⟩ := h'
  constructor
  · intro e; rw [en_inj (by omega) (by omega) w v hw hv e]
  · intro e; rw [en_inj (by omega) (by omega) w v hw hv e]
/-- what a run holds -/
theorem tre_in {b : Nat → Int} : ∀ d r j : Nat, r ≤ j → j < tre b d r → sm (b j) ∨ dg (b j)
  | 0, r, j, h1, h2 => by have : j < r := h2; omega
  | d + 1, r, j, h1, h2 => by
    by_cases h : sm (b r) ∨ dg (b r)
    · rw [tre_t h] at h2
      by_cases e : j = r
      · rw [e]; exact h
      · exact tre_in d (r + 1) j (by omega) h2
    · rw [tre_f h] at h2; omega
theorem cL_0 {b : Nat → Int} {q : Nat} : ∀ k, cL b q k = 0 → ∀ j, j < k → ¬ sm (b (q + j))
  | 0, _, j, h => by omega
  | k + 1, h0, j, h => by
    have h1 : cL b q k + (if sm (b (q + k)) then 1 else 0) = 0 := h0
    by_cases e : j = k
    · rw [e]; intro hs; rw [if_pos hs] at h1; omega
    · exact cL_0 k (by omega) j (by omega)
theorem cD_0 {b : Nat → Int} {q : Nat} : ∀ k, cD b q k = 0 → ∀ j, j < k → sm (b (q + j))
  | 0, _, j, h => by omega
  | k + 1, h0, j, h => by
    have h1 : cD b q k + (if sm (b (q + k)) then 0 else 1) = 0 := h0
    by_cases e : j = k
    · rw [e]
      by_cases hs : sm (b (q + k))
      · exact hs
      · rw [if_neg hs] at h1; omega
    · exact cD_0 k (by omega) j (by omega)
theorem p32 : ∀ k : Nat, k ≤ 5 → (32 : Int) ^ k ≤ 33554432 := by decide
theorem p256 : ∀ k : Nat, k ≤ 5 → (256 : Int) ^ k ≤ 1099511627776 := by decide
theorem wv_en {b : Nat → Int} {q : Nat} : ∀ k, k ≤ 6 → (∀ j, j < k → sm (b (q + j))) → wv b q k = en 32 96 (wl b q k)
  | 0, _, _ => rfl
  | k + 1, hk, hs => by
    have ih := wv_en (b := b) (q := q) k (by omega) (fun j hj => hs j (by omega))
    have hb := en_b (B := 32) (o := 96) (by omega) (by omega) (by omega) _ (wl_mem k (fun j hj => hs j (by omega)))
    rw [wl_len] at hb
    have hp := p32 k (by omega)
    have hc := hs k (by omega)
    show (if sm (b (q + k)) then w32 (w32 (w32 (wv b q k * 32) + b (q + k)) - 96) else wv b q k) = en 32 96 (wl b q k) * 32 + (b (q + k) - 96)
    rw [if_pos hc, ih]
    rw [w32_id (z := en 32 96 (wl b q k) * 32) (by omega), w32_id (z := en 32 96 (wl b q k) * 32 + b (q + k)) (by omega), w32_id (by omega)]
    omega
theorem mw_en {b : Nat → Int} {q : Nat} : ∀ k, k ≤ 6 → (∀ j, j < k → sm (b (q + j))) → mw b q k = en 256 0 (wl b q k)
  | 0, _, _ => rfl
  | k + 1, hk, hs => by
    have ih := mw_en (b := b) (q := q) k (by omega) (fun j hj => hs j (by omega))
    have hb := en_b (B := 256) (o := 0) (by omega) (by omega) (by omega) _ (wl_mem k (fun j hj => hs j (by omega)))
    rw [wl_len] at hb
    have hp := p256 k (by omega)
    have hc := hs k (by omega)
    show (if k < 6 then m_lor (m_lshl (mw b q k) 8) (b (q + k)) else mw b q k) = en 256 0 (wl b q k) * 256 + (b (q + k) - 0)
    rw [if_pos (by omega), ih, lor8i (by omega) (by omega) (by omega) (by omega)]
    omega
theorem nv_mn {b : Nat → Int} {q : Nat} : ∀ k, k ≤ 2 → (∀ j, j < k → dg (b (q + j))) → mn b q k = nv b q k ∧ 0 ≤ nv b q k ∧ nv b q k < 10 ^ k
  | 0, _, _ => ⟨rfl, Int.le_refl 0, by show (0 : Int) < 10 ^ 0; decide⟩
  | k + 1, hk, hs => by
    obtain ⟨ih, i1, i2⟩ := nv_mn (b := b) (q := q) k (by omega) (fun j hj => hs j (by omega))
    have hc := hs k (by omega)
    have hns : ¬ sm (b (q + k)) := by omega
    have hp : (10 : Int) ^ k = 1 ∨ (10 : Int) ^ k = 10 := by
      have : k = 0 ∨ k = 1 := by omega
      rcases this with h | h
      · subst h; exact Or.inl rfl
      · subst h; exact Or.inr rfl
    have e1 : mn b q (k + 1) = w32 (w32 (w32 (10 * mn b q k) + b (q + k)) - 48) := if_pos (by omega)
    have e2 : nv b q (k + 1) = w32 (w32 (w32 (nv b q k * 10) + b (q + k)) - 48) := if_neg hns
    have f1 : w32 (w32 (w32 (nv b q k * 10) + b (q + k)) - 48) = nv b q k * 10 + b (q + k) - 48 := by
      rw [w32_id (z := nv b q k * 10) (by omega), w32_id (z := nv b q k * 10 + b (q + k)) (by omega), w32_id (by omega)]
    rw [e1, e2, ih, Int.mul_comm 10 (nv b q k), f1]
    rw [Int.pow_succ]
    refine ⟨rfl, by omega, by omega⟩
/-- a word, a number: as both tell it -/
theorem tk_word {b : Nat → Int} {n m p : Nat} (h : tkK b n m p = 1) : Nm (tkV b n m p) (mw b (tq b n p) (tl b n p)) := by
  have hv : tkV b n m p = wv b (tq b n p) (tl b n p) := if_pos h
  rw [hv]
  unfold tkK at h
  by_cases h1 : m < n ∧ m ≤ tq b n p
  · rw [if_pos h1] at h; omega
  rw [if_neg h1] at h
  by_cases h2 : n ≤ tq b n p
  · rw [if_pos h2] at h; omega
  rw [if_neg h2] at h
  by_cases h3 : b (tq b n p) = 59
  · rw [if_pos h3] at h; omega
  rw [if_neg h3] at h
  by_cases h4 : cD b (tq b n p) (tl b n p) = 0 ∧ 1 ≤ cL b (tq b n p) (tl b n p) ∧ cL b (tq b n p) (tl b n p) ≤ 6
  · have hs := cD_0 (b := b) (q := tq b n p) (tl b n p) h4.1
    have hc := cLD (b := b) (q := tq b n p) (tl b n p)
    have hk : tl b n p ≤ 6 := by omega
    refine ⟨wl b (tq b n p) (tl b n p), ?_, wl_mem _ hs, wv_en _ hk hs, mw_en _ hk hs⟩
    rw [wl_len]; omega
  · rw [if_neg h4] at h
    split at h <;> omega
theorem tk_num {b : Nat → Int} {n m p : Nat} (h : tkK b n m p = 2) : mn b (tq b n p) (tl b n p) = tkV b n m p ∧ 0 ≤ tkV b n m p ∧ tkV b n m p ≤ 99 := by
  have hv : tkV b n m p = nv b (tq b n p) (tl b n p) := by
    show (if tkK b n m p = 1 then _ else if tkK b n m p = 2 then _ else _) = _
    rw [if_neg (by omega), if_pos h]
  rw [hv]
  unfold tkK at h
  by_cases h1 : m < n ∧ m ≤ tq b n p
  · rw [if_pos h1] at h; omega
  rw [if_neg h1] at h
  by_cases h2 : n ≤ tq b n p
  · rw [if_pos h2] at h; omega
  rw [if_neg h2] at h
  by_cases h3 : b (tq b n p) = 59
  · rw [if_pos h3] at h; omega
  rw [if_neg h3] at h
  by_cases h4 : cD b (tq b n p) (tl b n p) = 0 ∧ 1 ≤ cL b (tq b n p) (tl b n p) ∧ cL b (tq b n p) (tl b n p) ≤ 6
  · rw [if_pos h4] at h; omega
  rw [if_neg h4] at h
  by_cases h5 : cL b (tq b n p) (tl b n p) = 0 ∧ 1 ≤ cD b (tq b n p) (tl b n p) ∧ cD b (tq b n p) (tl b n p) ≤ 2
  · have hs := cL_0 (b := b) (q := tq b n p) (tl b n p) h5.1
    have hc := cLD (b := b) (q := tq b n p) (tl b n p)
    have hk : tl b n p ≤ 2 := by omega
    have hd : ∀ j, j < tl b n p → dg (b (tq b n p + j)) := fun j hj => by
      rcases tre_in (b := b) (n - tq b n p) (tq b n p) (tq b n p + j) (by omega) (by have : j < tre b (n - tq b n p) (tq b n p) - tq b n p := hj; omega) with h | h
      · exact absurd h (hs j hj)
      · exact h
    obtain ⟨g1, g2, g3⟩ := nv_mn (b := b) (q := tq b n p) _ hk hd
    refine ⟨g1, g2, ?_⟩
    have hp : (10 : Int) ^ (tl b n p) ≤ 100 := by
      have : tl b n p = 1 ∨ tl b n p = 2 := by omega
      rcases this with h | h
      · rw [h]; decide
      · rw [h]; decide
    omega
  · rw [if_neg h5] at h; omega
