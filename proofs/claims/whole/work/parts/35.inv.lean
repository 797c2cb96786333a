/-! ===== printed by wip/whole/gen35.py: the invariant between the calls =====
Only the cells that 'sup' names are spoken of: all else is scratch. -/
def sup (a j : Nat) : Bool := match a with
  | 0 => j == 14 || j == 16
  | 1 => j == 1
  | 2 => true
  | 3 => j == 2
  | 6 => true
  | 7 => true
  | 8 => true
  | 9 => true
  | 10 => true
  | 11 => true
  | 12 => true
  | 13 => true
  | 14 => true
  | 15 => true
  | 16 => true
  | 17 => true
  | 18 => true
  | 19 => true
  | 20 => true
  | 22 => true
  | 23 => true
  | 24 => true
  | 25 => true
  | 26 => true
  | 27 => true
  | 28 => true
  | 29 => true
  | 30 => true
  | 31 => true
  | 32 => true
  | 33 => true
  | 34 => true
  | 35 => true
  | 36 => true
  | 37 => true
  | 38 => true
  | 39 => true
  | 40 => true
  | 41 => true
  | 42 => true
  | 43 => true
  | 44 => true
  | 45 => true
  | 46 => true
  | 47 => true
  | 48 => true
  | 49 => true
  | 50 => true
  | 51 => true
  | 52 => true
  | 53 => true
  | 82 => j == 5 || j == 6 || j == 9
  | 87 => true
  | 88 => true
  | 89 => true
  | 90 => true
  | 91 => true
  | 92 => true
  | 93 => true
  | 94 => true
  | 95 => true
  | 96 => true
  | 97 => true
  | 98 => true
  | 99 => true
  | 100 => true
  | 101 => true
  | 102 => true
  | 103 => true
  | 104 => true
  | 105 => true
  | 106 => true
  | 107 => true
  | 108 => true
  | 109 => true
  | 110 => true
  | 111 => true
  | 112 => j == 5
  | 115 => true
  | 116 => true
  | 117 => true
  | 118 => j == 2 || j == 15 || j == 31 || j == 34 || j == 37 || j == 39 || j == 44
  | 119 => true
  | 120 => true
  | 123 => true
  | 130 => true
  | 131 => true
  | 134 => true
  | 135 => true
  | 136 => true
  | 138 => true
  | 139 => true
  | 140 => true
  | _ => false
def rst (μ : Nat → Nat → Int) (a j : Nat) : Int := bif sup a j then μ a j else 0
theorem rst_set {μ : Nat → Nat → Int} {a j : Nat} {v : Int} (h : sup a j = false) : rst (m_set μ a j v) = rst μ := by
  funext a' j'
  unfold rst
  cases hs : sup a' j' with
  | false => rfl
  | true =>
    have : ¬ (a' = a ∧ j' = j) := by
      rintro ⟨rfl, rfl⟩
      rw [h] at hs
      cases hs
    rw [m_set_ne _ _ this]
theorem rst_same {μ μ' : Nat → Nat → Int} (h : ∀ a j, sup a j = true → μ' a j = μ a j) : rst μ' = rst μ := by
  funext a j
  unfold rst
  cases hs : sup a j with
  | false => rfl
  | true => rw [h a j hs]
/-- the tape: length, bytes -/
def I_tape (μ : Nat → Nat → Int) : Prop := (0 ≤ μ 1 1 ∧ μ 1 1 ≤ 940) ∧ μ 118 2 = μ 1 1 ∧ ∀ j, (-128 ≤ μ 119 j ∧ μ 119 j ≤ 127) ∧ μ 2 j = (μ 119 j) % 256
def I_fault (μ : Nat → Nat → Int) : Prop := μ 3 2 = μ 118 15
/-- the moor, against the first 517 numbers of the model's row s -/
def I_land (μ : Nat → Nat → Int) : Prop := (0 ≤ μ 6 8 ∧ μ 6 8 ≤ 10) ∧ (0 ≤ μ 6 9 ∧ μ 6 9 ≤ 10) ∧ (1 ≤ μ 6 10 ∧ μ 6 10 ≤ 99) ∧ (0 ≤ μ 6 11 ∧ μ 6 11 ≤ 99) ∧ (0 ≤ μ 6 12 ∧ μ 6 12 ≤ 99) ∧ (0 ≤ μ 6 13 ∧ μ 6 13 ≤ 8) ∧ (-1 ≤ μ 6 14 ∧ μ 6 14 ≤ 99) ∧ (0 ≤ μ 6 15 ∧ μ 6 15 ≤ 99) ∧
  μ 120 0 = μ 6 8 ∧ μ 120 1 = μ 6 9 ∧ μ 120 2 = μ 6 10 ∧ μ 120 3 = μ 6 11 ∧ μ 120 4 = μ 6 12 ∧ μ 120 8 = μ 6 13 ∧ μ 120 499 = μ 6 14 + 1 ∧ μ 120 500 = μ 6 15 ∧
  (∀ j, j < 3 → (0 ≤ μ 9 j ∧ μ 9 j ≤ 12) ∧ μ 120 (5 + j) = μ 9 j) ∧
  (∀ j, (0 ≤ μ 7 j ∧ μ 7 j ≤ 99)) ∧ (∀ j, (-1 ≤ μ 8 j ∧ μ 8 j ≤ 99)) ∧ (∀ j, (-1 ≤ μ 10 j ∧ μ 10 j ≤ 99)) ∧
  (∀ j, j < 100 → μ 120 (9 + j) = μ 7 j) ∧ (∀ j, j < 300 → μ 120 (109 + j) = μ 8 j + 1) ∧ (∀ j, j < 90 → μ 120 (409 + j) = μ 10 j + 1)
/-- what acts change -/
def I_scene (μ : Nat → Nat → Int) : Prop := (0 ≤ μ 14 0 ∧ μ 14 0 ≤ 29) ∧ (-1 ≤ μ 14 3 ∧ μ 14 3 ≤ 99) ∧ (0 ≤ μ 14 4 ∧ μ 14 4 ≤ 100000) ∧ μ 120 517 = μ 14 0 ∧ μ 120 534 = μ 14 3 ∧ μ 120 535 = μ 14 4 ∧
  (∀ j, (0 ≤ μ 15 j ∧ μ 15 j ≤ 99)) ∧ (∀ j, (0 ≤ μ 16 j ∧ μ 16 j ≤ 99)) ∧ (∀ j, j < 8 → μ 120 (518 + j) = μ 15 j ∧ μ 120 (526 + j) = μ 16 j) ∧ (μ 14 3 = -1 ↔ μ 6 14 = -1) ∧
  (∀ j : Nat, (j : Int) < μ 6 13 → (μ 15 j).tmod 10 < μ 6 8 ∧ (μ 15 j).tdiv 10 < μ 6 9) ∧ (μ 14 3 = -1 ∨ ((μ 14 3).tmod 10 < μ 6 8 ∧ (μ 14 3).tdiv 10 < μ 6 9)) ∧ (μ 6 9 = 0 ∨ 2 ≤ μ 6 8)
/-- the plan: words 11 go, 12 sell, 13 buy, 14 day, 15 night -/
def I_plan (μ : Nat → Nat → Int) : Prop := (0 ≤ μ 17 0 ∧ μ 17 0 ≤ 30) ∧ μ 120 536 = μ 17 0 ∧ ∀ i : Nat, (i : Int) < μ 17 0 → (11 ≤ μ 18 i ∧ μ 18 i ≤ 15) ∧ μ 18 i = μ 120 (537 + 4 * i) + 11 ∧ (μ 18 i ≤ 13 → (0 ≤ μ 19 i ∧ μ 19 i < μ 6 13) ∧ μ 19 i = μ 120 (538 + 4 * i)) ∧ (¬ μ 18 i = 14 → (0 ≤ μ 20 i ∧ μ 20 i ≤ 99) ∧ μ 20 i = μ 120 (539 + 4 * i))
/-- what was written, walked, seated, judged last -/
def I_last (μ : Nat → Nat → Int) : Prop := ((0 ≤ μ 0 14 ∧ μ 0 14 ≤ 100) ∧ μ 118 31 = μ 0 14 ∧ ∀ j, (-128 ≤ μ 130 j ∧ μ 130 j ≤ 127) ∧ ((j : Int) < μ 0 14 → μ 130 j = μ 116 j)) ∧
  ((0 ≤ μ 0 16 ∧ μ 0 16 ≤ 100) ∧ μ 118 39 = μ 0 16 ∧ ∀ j : Nat, (j : Int) < μ 0 16 → μ 135 j = μ 117 j) ∧
  ((0 ≤ μ 112 5 ∧ μ 112 5 ≤ 8) ∧ μ 118 37 = μ 112 5 ∧ ∀ j : Nat, (j : Int) < μ 112 5 → μ 134 j = μ 115 j) ∧
  ((μ 82 9 = 0 ∨ μ 82 9 = 1) ∧ μ 118 44 = μ 82 9 ∧ (μ 82 9 = 1 → ∀ j, j < 6 → μ 136 j = μ 87 j))
def Inv0 (μ : Nat → Nat → Int) : Prop := I_tape μ ∧ I_fault μ ∧ I_land μ ∧ I_scene μ ∧ I_last μ ∧ I_plan μ
def Inv (μ : Nat → Nat → Int) : Prop := Inv0 (rst μ)
theorem Inv.tape {μ : Nat → Nat → Int} (h : Inv μ) : I_tape μ := h.1
theorem Inv.fault {μ : Nat → Nat → Int} (h : Inv μ) : I_fault μ := h.2.1
theorem Inv.land {μ : Nat → Nat → Int} (h : Inv μ) : I_land μ := h.2.2.1
theorem Inv.scene {μ : Nat → Nat → Int} (h : Inv μ) : I_scene μ := h.2.2.2.1
theorem Inv.last {μ : Nat → Nat → Int} (h : Inv μ) : I_last μ := h.2.2.2.2.1
theorem Inv.plan {μ : Nat → Nat → Int} (h : Inv μ) : I_plan μ := h.2.2.2.2.2
theorem Inv.same {μ μ' : Nat → Nat → Int} (h : Inv μ) (hr : rst μ' = rst μ) : Inv μ' := by unfold Inv; rw [hr]; exact h
theorem Inv.set {μ : Nat → Nat → Int} {a j : Nat} {v : Int} (h : Inv μ) (hs : sup a j = false) : Inv (m_set μ a j v) := h.same (rst_set hs)
