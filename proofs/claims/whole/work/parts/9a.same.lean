/-! ===== written by hand: words and names looked up on both sides ===== -/
theorem ix_at {f : Nat → Int} {v : Int} : ∀ d i w : Nat, ix f v d i = (w : Int) → f w = v
  | 0, _, w, h => by have h2 : (-1 : Int) = (w : Int) := h; omega
  | d + 1, i, w, h => by
    by_cases e : f i = v
    · rw [ix_t e] at h
      have : i = w := by omega
      rw [← this]; exact e
    · rw [ix_f e] at h; exact ix_at d (i + 1) w h
theorem ix_le {f : Nat → Int} {v : Int} : ∀ d i w : Nat, i ≤ w → w < i + d → f w = v → 0 ≤ ix f v d i ∧ ix f v d i ≤ (w : Int)
  | 0, i, w, h1, h2, _ => by omega
  | d + 1, i, w, h1, h2, h3 => by
    by_cases e : f i = v
    · rw [ix_t e]; omega
    · rw [ix_f e]
      have hne : ¬ i = w := fun z => e (z ▸ h3)
      exact ix_le d (i + 1) w (by omega) (by omega) h3
theorem kw_ok : ∀ i, i < 16 → (1 ≤ (kw i).length ∧ (kw i).length ≤ 6) ∧ ∀ c ∈ kw i, 97 ≤ c ∧ c ≤ 122 := by decide
theorem kw_Nm {μ : Nat → Nat → Int} (h : I_words μ) {i : Nat} (hi : i < 16) : Nm (μ 4 i) (μ 124 i) := ⟨kw i, (kw_ok i hi).1, (kw_ok i hi).2, (h i hi).1, (h i hi).2⟩
/-- the word's place among the words known, by the class and by the model -/
theorem kw_same {μ : Nat → Nat → Int} (h : I_words μ) {x y : Int} (hn : Nm x y) : ix (μ 4) x 16 0 = ix (μ 124) y 16 0 :=
  ix_two 16 0 (fun j _ hj => Nm_iff (kw_Nm h (by omega)) hn)
/-- a name's place among names -/
theorem nm_same {f g : Nat → Int} {k : Nat} (h : ∀ j, j < k → Nm (f j) (g j)) {x y : Int} (hn : Nm x y) : ix f x k 0 = ix g y k 0 :=
  ix_two k 0 (fun j _ hj => Nm_iff (h j (by omega)) hn)
/-- the word's number in the model, told by its place in the class -/
theorem kw_at {μ : Nat → Nat → Int} (h : I_words μ) {x y : Int} (hn : Nm x y) {w : Nat} (hw : w < 16) (hx : ix (μ 4) x 16 0 = (w : Int)) : y = en 256 0 (kw w) := by
  rw [kw_same h hn] at hx
  rw [← ix_at 16 0 w hx]
  exact (h w hw).2
theorem kw_no {μ : Nat → Nat → Int} (h : I_words μ) {x y : Int} (hn : Nm x y) (hx : ix (μ 4) x 16 0 = -1 ∨ 11 ≤ ix (μ 4) x 16 0) {w : Nat} (hw : w < 11) : ¬ y = en 256 0 (kw w) := by
  intro e
  rw [kw_same h hn] at hx
  have h2 := ix_le (f := μ 124) (v := y) 16 0 w (by omega) (by omega) ((h w (by omega)).2.trans e.symm)
  omega
