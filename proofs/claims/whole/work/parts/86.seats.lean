variable {N : Int}
/-! ===== printed by wip/whole/gen86.py: seats, pure ===== -/
def sS (t : Nat → Int) : Nat → Int
  | 0 => 0
  | n + 1 => sS t n + t n
theorem sS_b {t : Nat → Int} {B : Int} : ∀ n : Nat, (∀ k, k < n → 0 ≤ t k ∧ t k ≤ B) → 0 ≤ sS t n ∧ sS t n ≤ n * B
  | 0, _ => by simp [sS]
  | n + 1, h => by
    have h1 := sS_b n (fun k hk => h k (by omega))
    have h2 := h n (by omega)
    have e : ((n + 1 : Nat) : Int) * B = n * B + B := by
      rw [show ((n + 1 : Nat) : Int) = (n : Int) + 1 by omega, Int.add_mul, Int.one_mul]
    show 0 ≤ sS t n + t n ∧ sS t n + t n ≤ _
    rw [e]
    omega
theorem sS_congr {t u : Nat → Int} : ∀ n : Nat, (∀ k, k < n → t k = u k) → sS t n = sS u n
  | 0, _ => rfl
  | n + 1, h => by
    show sS t n + t n = sS u n + u n
    rw [sS_congr n (fun k hk => h k (by omega)), h n (by omega)]
theorem sS_ex {t : Nat → Int} : ∀ n : Nat, 0 < sS t n → ∃ k, k < n ∧ 0 < t k
  | 0, h => absurd h (by simp [sS])
  | n + 1, h => by
    have h1 : 0 < sS t n + t n := h
    by_cases e : 0 < t n
    · exact ⟨n, by omega, e⟩
    · obtain ⟨k, hk, h2⟩ := sS_ex (t := t) n (by omega)
      exact ⟨k, by omega, h2⟩
def so (z k : Nat) : Nat := z ||| (1 <<< k)
def mis (z : Nat) : Nat := (List.range 8).countP (fun k => z.testBit k == false)
def sT (p : Nat → Bool) (w : Nat → Nat → Int) (z k : Nat) : Int := if z.testBit k = false ∧ p k = true then w (so z k) k else 0
def sw (all n : Nat) (P : Nat → Nat → Bool) : Nat → Nat → Nat → Int
  | 0, _, _ => 1
  | f + 1, z, l => if z = all then 1 else sS (sT (P l) (sw all n P f) z) n
set_option maxRecDepth 100000 in
theorem so_f : ∀ z : Nat, z < 256 → ∀ k : Nat, k < 8 → m_or (z : Int) (m_shl 1 (k : Int)) = (so z k : Int) ∧ so z k < 256 ∧ bI (z : Int) k = z.testBit k ∧ (z.testBit k = false → z < so z k ∧ mis (so z k) + 1 = mis z) := by decide +kernel
theorem so_0 : ∀ k : Nat, k < 8 → m_shl 1 (k : Int) = (so 0 k : Int) := by decide +kernel
theorem mis_8 : ∀ z : Nat, z < 256 → mis z ≤ 8 := by decide +kernel
theorem all_f : ∀ n : Nat, n < 9 → m_shl 1 (n : Int) - 1 = ((2 ^ n - 1 : Nat) : Int) ∧ mis (2 ^ n - 1) = 8 - n ∧ 2 ^ n ≤ 256 ∧ 1 ≤ 2 ^ n ∧ ∀ k, k < n → (2 ^ n - 1).testBit k = true ∧ bI ((2 ^ n - 1 : Nat) : Int) k = true := by decide +kernel
theorem so_lt {n z k : Nat} (hz : z < 2 ^ n) (hk : k < n) : so z k < 2 ^ n := by
  unfold so
  refine Nat.or_lt_two_pow hz ?_
  rw [Nat.one_shiftLeft]
  exact Nat.pow_lt_pow_right (by decide) hk
theorem sw_s {n : Nat} {P : Nat → Nat → Bool} (hn : n < 9) : ∀ (f z l : Nat), z < 2 ^ n → 2 ^ n - 1 - z ≤ f → sw (2 ^ n - 1) n P (f + 1) z l = sw (2 ^ n - 1) n P f z l
  | 0, z, l, hz, hf => by
    show (if z = 2 ^ n - 1 then (1 : Int) else _) = 1
    rw [if_pos (by omega)]
  | f + 1, z, l, hz, hf => by
    obtain ⟨-, -, a3, -, -⟩ := all_f n hn
    show (if z = 2 ^ n - 1 then (1 : Int) else sS (sT (P l) (sw (2 ^ n - 1) n P (f + 1)) z) n) = (if z = 2 ^ n - 1 then (1 : Int) else sS (sT (P l) (sw (2 ^ n - 1) n P f) z) n)
    by_cases e : z = 2 ^ n - 1
    · rw [if_pos e, if_pos e]
    · rw [if_neg e, if_neg e]
      refine sS_congr n (fun k hk => ?_)
      unfold sT
      by_cases b : z.testBit k = false ∧ P l k = true
      · obtain ⟨f1, f2, f3, f4⟩ := so_f z (by omega) k (by omega)
        have f5 := f4 b.1
        rw [if_pos b, if_pos b, sw_s hn f (so z k) k (so_lt hz hk) (by omega)]
      · rw [if_neg b, if_neg b]
theorem sw_b {n : Nat} {P : Nat → Nat → Bool} (hn : n < 9) : ∀ (f z l : Nat), z < 2 ^ n → 0 ≤ sw (2 ^ n - 1) n P f z l ∧ sw (2 ^ n - 1) n P f z l ≤ ((8 ^ mis z : Nat) : Int)
  | 0, z, l, hz => by
    have h : 0 < 8 ^ mis z := Nat.pow_pos (by decide)
    show 0 ≤ (1 : Int) ∧ (1 : Int) ≤ _
    omega
  | f + 1, z, l, hz => by
    obtain ⟨-, -, a3, -, -⟩ := all_f n hn
    have h : 0 < 8 ^ mis z := Nat.pow_pos (by decide)
    show 0 ≤ (if z = 2 ^ n - 1 then (1 : Int) else sS (sT (P l) (sw (2 ^ n - 1) n P f) z) n) ∧ (if z = 2 ^ n - 1 then (1 : Int) else sS (sT (P l) (sw (2 ^ n - 1) n P f) z) n) ≤ _
    by_cases e : z = 2 ^ n - 1
    · rw [if_pos e]; omega
    · rw [if_neg e]
      have hb := sS_b (t := sT (P l) (sw (2 ^ n - 1) n P f) z) (B := ((8 ^ mis z / 8 : Nat) : Int)) n (fun k hk => by
        unfold sT
        by_cases b : z.testBit k = false ∧ P l k = true
        · obtain ⟨f1, f2, f3, f4⟩ := so_f z (by omega) k (by omega)
          have f5 := (f4 b.1).2
          have ih := sw_b (P := P) hn f (so z k) k (so_lt hz hk)
          rw [if_pos b, ← f5, Nat.pow_succ, Nat.mul_div_cancel _ (by decide)]
          exact ih
        · rw [if_neg b]; omega)
      have h8 : (n : Int) * ((8 ^ mis z / 8 : Nat) : Int) ≤ 8 * ((8 ^ mis z / 8 : Nat) : Int) := Int.mul_le_mul_of_nonneg_right (by omega) (by omega)
      have h9 := Nat.mul_div_le (8 ^ mis z) 8
      omega
/-- who may sit beside whom -/
def sP (μ : Nat → Nat → Int) (i : Int) (l k : Nat) : Bool := decide (ab (g_st μ (μ 16 l) - g_st μ (μ 16 k)) ≤ i)
def wW (μ : Nat → Nat → Int) (i : Int) (n z l : Nat) : Int := sw (2 ^ n - 1) n (sP μ i) 256 z l
theorem wW_all {μ : Nat → Nat → Int} {i : Int} {n z l : Nat} (h : z = 2 ^ n - 1) : wW μ i n z l = 1 := by
  show (if z = 2 ^ n - 1 then (1 : Int) else _) = 1
  rw [if_pos h]
theorem wW_step {μ : Nat → Nat → Int} {i : Int} {n z l : Nat} (hn : n < 9) (hz : z < 2 ^ n) (h : ¬ z = 2 ^ n - 1) : wW μ i n z l = sS (sT (sP μ i l) (wW μ i n) z) n := by
  obtain ⟨-, -, a3, -, -⟩ := all_f n hn
  have h1 := sw_s (P := sP μ i) hn 256 z l hz (by omega)
  show sw (2 ^ n - 1) n (sP μ i) 256 z l = _
  rw [← h1]
  show (if z = 2 ^ n - 1 then (1 : Int) else _) = _
  rw [if_neg h]
  rfl
theorem wW_b {μ : Nat → Nat → Int} {i : Int} {n z l : Nat} (hn : n < 9) (hz : z < 2 ^ n) : 0 ≤ wW μ i n z l ∧ wW μ i n z l ≤ 16777216 := by
  obtain ⟨-, -, a3, -, -⟩ := all_f n hn
  have h := sw_b (P := sP μ i) hn 256 z l hz
  have h2 := Nat.pow_le_pow_right (show 0 < 8 by decide) (mis_8 z (by omega))
  show 0 ≤ sw (2 ^ n - 1) n (sP μ i) 256 z l ∧ sw (2 ^ n - 1) n (sP μ i) 256 z l ≤ 16777216
  omega
theorem wW_c {μ : Nat → Nat → Int} {i : Int} {n z k l : Nat} (hn : n < 9) (hz : z < 2 ^ n) (hk : k < n) (hb : z.testBit k = false) : 0 ≤ wW μ i n (so z k) l ∧ wW μ i n (so z k) l ≤ 2097152 := by
  obtain ⟨-, -, a3, -, -⟩ := all_f n hn
  obtain ⟨f1, f2, f3, f4⟩ := so_f z (by omega) k (by omega)
  have f5 := (f4 hb).2
  have h := sw_b (P := sP μ i) hn 256 (so z k) l (so_lt hz hk)
  have h3 := mis_8 z (by omega)
  have h2 := Nat.pow_le_pow_right (show 0 < 8 by decide) (show mis (so z k) ≤ 7 by omega)
  show 0 ≤ sw (2 ^ n - 1) n (sP μ i) 256 (so z k) l ∧ sw (2 ^ n - 1) n (sP μ i) 256 (so z k) l ≤ 2097152
  omega
theorem bI_andn {x y : Int} {k : Nat} (hk : k < 32) : bI (m_and x (m_xor y (-1))) k = (bI x k && !bI y k) := by
  rw [bI_and, bI_xor, bI_m1 k hk, Bool.xor_true]
theorem sT_b {w : Nat → Nat → Int} {p : Nat → Bool} {z n : Nat} (hw : ∀ k, k < n → z.testBit k = false → 0 ≤ w (so z k) k ∧ w (so z k) k ≤ 2097152) {k : Nat} (hk : k < n) : 0 ≤ sT p w z k ∧ sT p w z k ≤ 2097152 := by
  unfold sT
  by_cases b : z.testBit k = false ∧ p k = true
  · rw [if_pos b]; exact hw k hk b.1
  · rw [if_neg b]; decide
theorem sT_t {al : Int} {z k : Nat} (hz : z < 256) (hk : k < 8) (h : bI (m_and al (m_xor (z : Int) (-1))) k = true) : z.testBit k = false ∧ bI al k = true := by
  obtain ⟨f1, f2, f3, f4⟩ := so_f z hz k hk
  rw [bI_andn (by omega), f3] at h
  revert h
  cases z.testBit k <;> cases bI al k <;> simp
theorem sT_f {al : Int} {z k : Nat} (hz : z < 256) (hk : k < 8) (h : ¬ bI (m_and al (m_xor (z : Int) (-1))) k = true) : ¬ (z.testBit k = false ∧ bI al k = true) := fun y => by
  obtain ⟨f1, f2, f3, f4⟩ := so_f z hz k hk
  rw [bI_andn (by omega), f3, y.1, y.2] at h
  exact h rfl
