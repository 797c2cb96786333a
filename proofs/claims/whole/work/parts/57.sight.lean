/-! ===== printed by wip/whole/gen57.py: lines of sight ===== -/
def sg (z : Int) : Int := if 0 < z then 1 else if z < 0 then -1 else 0
def ab (z : Int) : Int := if z < 0 then -z else z
def ln_x (a b : Int) : Int := b.tmod 10 - a.tmod 10
def ln_y (a b : Int) : Int := b.tdiv 10 - a.tdiv 10
def ln_f (a b : Int) : Int := if ab (ln_x a b) < ab (ln_y a b) then ab (ln_y a b) else ab (ln_x a b)
def ln_s (a b : Int) : Int := sg (ln_y a b) * 10 + sg (ln_x a b)
/-- unlike cells on one straight line -/
abbrev ln_ok (a b : Int) : Prop := ¬ a = b ∧ (ln_x a b = 0 ∨ ln_y a b = 0 ∨ ab (ln_x a b) = ab (ln_y a b))
/-- the ground of n cells on the way is lower than e -/
def cl (μ : Nat → Nat → Int) (a st e : Int) : Nat → Int
  | 0 => 1
  | n + 1 => if cl μ a st e n = 1 ∧ μ 7 (a + ((n + 1 : Nat) : Int) * st).toNat < e then 1 else 0
abbrev g_seen (μ : Nat → Nat → Int) (a b e : Int) : Prop := ln_ok a b ∧ cl μ a (ln_s a b) e (ln_f a b - 1).toNat = 1
theorem cl_rows {μ ν : Nat → Nat → Int} (e7 : ν 7 = μ 7) {a st e : Int} : ∀ n, cl ν a st e n = cl μ a st e n
  | 0 => rfl
  | n + 1 => by
    show (if cl ν a st e n = 1 ∧ ν 7 _ < e then (1 : Int) else 0) = (if cl μ a st e n = 1 ∧ μ 7 _ < e then 1 else 0)
    rw [cl_rows e7 n, e7]
theorem cl_iff {μ : Nat → Nat → Int} {a st e : Int} : ∀ n : Nat, cl μ a st e n = 1 ↔ ∀ i : Nat, 1 ≤ i → i ≤ n → μ 7 (a + (i : Int) * st).toNat < e
  | 0 => ⟨fun _ i h1 h2 => by omega, fun _ => rfl⟩
  | n + 1 => by
    have ih := cl_iff (μ := μ) (a := a) (st := st) (e := e) n
    have e1 : cl μ a st e (n + 1) = if cl μ a st e n = 1 ∧ μ 7 (a + ((n + 1 : Nat) : Int) * st).toNat < e then 1 else 0 := rfl
    constructor
    · intro h i h1 h2
      rw [e1] at h
      by_cases hc : cl μ a st e n = 1 ∧ μ 7 (a + ((n + 1 : Nat) : Int) * st).toNat < e
      · by_cases ei : i = n + 1
        · rw [ei]; exact hc.2
        · exact ih.mp hc.1 i h1 (by omega)
      · rw [if_neg hc] at h; exact absurd h (by decide)
    · intro h
      rw [e1, if_pos ⟨ih.mpr (fun i h1 h2 => h i h1 (by omega)), h (n + 1) (by omega) (by omega)⟩]
theorem cl_01 {μ : Nat → Nat → Int} {a st e : Int} : ∀ n : Nat, cl μ a st e n = 0 ∨ cl μ a st e n = 1
  | 0 => Or.inr rfl
  | n + 1 => by
    show (if _ then (1 : Int) else 0) = 0 ∨ (if _ then (1 : Int) else 0) = 1
    split
    · exact Or.inr rfl
    · exact Or.inl rfl
/-- the line's shape: what every walk along it needs -/
theorem ln_walk {a b : Int} (ha : 0 ≤ a ∧ a < 100) (hb : 0 ≤ b ∧ b < 100) (h : ln_ok a b) : (1 ≤ ln_f a b ∧ ln_f a b ≤ 9) ∧ (-11 ≤ ln_s a b ∧ ln_s a b ≤ 11) ∧ a + ln_f a b * ln_s a b = b ∧ ∀ i : Int, 0 ≤ i → i < ln_f a b → (0 ≤ a + i * ln_s a b ∧ a + i * ln_s a b < 100 ∧ ¬ a + i * ln_s a b = b ∧ (-99 ≤ i * ln_s a b ∧ i * ln_s a b ≤ 99)) := by
  have e1 := td10 ha.1
  have e2 := td10 hb.1
  obtain ⟨h1, h2⟩ := h
  unfold ln_f ln_s
  unfold ln_x ln_y at *
  rw [e1.1, e1.2, e2.1, e2.2] at *
  generalize hx : b % 10 - a % 10 = X at *
  generalize hy : b / 10 - a / 10 = Y at *
  have hX : sg X = 1 ∧ ab X = X ∧ 0 < X ∨ sg X = -1 ∧ ab X = -X ∧ X < 0 ∨ sg X = 0 ∧ ab X = 0 ∧ X = 0 := by
    unfold sg ab
    by_cases c1 : 0 < X
    · left; rw [if_pos c1, if_neg (by omega)]; omega
    · by_cases c2 : X < 0
      · right; left; rw [if_neg c1, if_pos c2, if_pos c2]; omega
      · right; right; rw [if_neg c1, if_neg c2, if_neg c2]; omega
  have hY : sg Y = 1 ∧ ab Y = Y ∧ 0 < Y ∨ sg Y = -1 ∧ ab Y = -Y ∧ Y < 0 ∨ sg Y = 0 ∧ ab Y = 0 ∧ Y = 0 := by
    unfold sg ab
    by_cases c1 : 0 < Y
    · left; rw [if_pos c1, if_neg (by omega)]; omega
    · by_cases c2 : Y < 0
      · right; left; rw [if_neg c1, if_pos c2, if_pos c2]; omega
      · right; right; rw [if_neg c1, if_neg c2, if_neg c2]; omega
  rcases hX with ⟨x1, x2, x3⟩ | ⟨x1, x2, x3⟩ | ⟨x1, x2, x3⟩ <;> rcases hY with ⟨y1, y2, y3⟩ | ⟨y1, y2, y3⟩ | ⟨y1, y2, y3⟩ <;> rw [x1, x2, y1, y2] <;> rw [x2, y2] at h2 <;> split <;> refine ⟨by omega, by omega, by omega, fun i i0 i1 => ?_⟩ <;> omega
