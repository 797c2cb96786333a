/-! ===== printed by wip/whole/gen35.py: the invariant between the calls =====
Only the cells that 'sup' names are spoken of: all else is scratch. -/
variable {N : Int}
def sup (a j : Nat) : Bool := match a with
  | 0 => j == 14 || j == 16
  | 1 => j == 1
  | 2 => true
  | 3 => j == 2
  | 4 => true
  | 6 => true
  | 7 => true
  | 8 => true
  | 9 => true
  | 10 => true
  | 11 => true
  | 12 => true
  | 13 => true
  | 14 => true
  | 15 => true
  | 16 => true
  | 17 => true
  | 18 => true
  | 19 => true
  | 20 => true
  | 22 => true
  | 23 => true
  | 24 => true
  | 25 => true
  | 26 => true
  | 27 => true
  | 28 => true
  | 29 => true
  | 30 => true
  | 31 => true
  | 32 => true
  | 33 => true
  | 34 => true
  | 35 => true
  | 36 => true
  | 37 => true
  | 38 => true
  | 39 => true
  | 40 => true
  | 41 => true
  | 42 => true
  | 43 => true
  | 44 => true
  | 45 => true
  | 46 => true
  | 47 => true
  | 48 => true
  | 49 => true
  | 50 => true
  | 51 => true
  | 52 => true
  | 53 => true
  | 55 => true
  | 60 => true
  | 61 => true
  | 82 => j == 5 || j == 6 || j == 9
  | 87 => true
  | 88 => true
  | 89 => true
  | 90 => true
  | 91 => true
  | 92 => true
  | 93 => true
  | 94 => true
  | 95 => true
  | 96 => true
  | 97 => true
  | 98 => true
  | 99 => true
  | 100 => true
  | 101 => true
  | 102 => true
  | 103 => true
  | 104 => true
  | 105 => true
  | 106 => true
  | 107 => true
  | 108 => true
  | 109 => true
  | 110 => true
  | 111 => true
  | 112 => j == 5
  | 115 => true
  | 116 => true
  | 117 => true
  | 118 => j == 2 || j == 15 || j == 31 || j == 34 || j == 37 || j == 39 || j == 44
  | 119 => true
  | 120 => true
  | 123 => true
  | 124 => true
  | 130 => true
  | 131 => true
  | 134 => true
  | 135 => true
  | 136 => true
  | 138 => true
  | 139 => true
  | 140 => true
  | _ => false
def rst (μ : Nat → Nat → Int) (a j : Nat) : Int := bif sup a j then μ a j else 0
theorem rst_set {μ : Nat → Nat → Int} {a j : Nat} {v : Int} (h : sup a j = false) : rst (m_set μ a j v) = rst μ := by
  funext a' j'
  unfold rst
  cases hs : sup a' j' with
  | false => rfl
  | true =>
    have : ¬ (a' = a ∧ j' = j) := by
      rintro ⟨rfl, rfl⟩
      rw [h] at hs
      cases hs
    rw [m_set_ne _ _ this]
theorem rst_same {μ μ' : Nat → Nat → Int} (h : ∀ a j, sup a j = true → μ' a j = μ a j) : rst μ' = rst μ := by
  funext a j
  unfold rst
  cases hs : sup a j with
  | false => rfl
  | true => rw [h a j hs]
/-- the tape: length, bytes -/
def I_tape (μ : Nat → Nat → Int) : Prop := (0 ≤ μ 1 1 ∧ μ 1 1 ≤ 940) ∧ μ 118 2 = μ 1 1 ∧ ∀ j, (-128 ≤ μ 119 j ∧ μ 119 j ≤ 127) ∧ μ 2 j = (μ 119 j) % 256
def I_fault (μ : Nat → Nat → Int) : Prop := μ 3 2 = μ 118 15
/-- the moor, against the first 517 numbers of the model's row s -/
def I_land (μ : Nat → Nat → Int) : Prop := (0 ≤ μ 6 8 ∧ μ 6 8 ≤ 10) ∧ (0 ≤ μ 6 9 ∧ μ 6 9 ≤ 10) ∧ (1 ≤ μ 6 10 ∧ μ 6 10 ≤ 99) ∧ (0 ≤ μ 6 11 ∧ μ 6 11 ≤ 99) ∧ (0 ≤ μ 6 12 ∧ μ 6 12 ≤ 99) ∧ (0 ≤ μ 6 13 ∧ μ 6 13 ≤ 8) ∧ (-1 ≤ μ 6 14 ∧ μ 6 14 ≤ 99) ∧ (0 ≤ μ 6 15 ∧ μ 6 15 ≤ 99) ∧
  μ 120 0 = μ 6 8 ∧ μ 120 1 = μ 6 9 ∧ μ 120 2 = μ 6 10 ∧ μ 120 3 = μ 6 11 ∧ μ 120 4 = μ 6 12 ∧ μ 120 8 = μ 6 13 ∧ μ 120 499 = μ 6 14 + 1 ∧ μ 120 500 = μ 6 15 ∧
  (∀ j, j < 3 → (0 ≤ μ 9 j ∧ μ 9 j ≤ 12) ∧ μ 120 (5 + j) = μ 9 j) ∧
  (∀ j, (0 ≤ μ 7 j ∧ μ 7 j ≤ 99)) ∧ (∀ j, (-1 ≤ μ 8 j ∧ μ 8 j ≤ 99)) ∧ (∀ j, (-1 ≤ μ 10 j ∧ μ 10 j ≤ 99)) ∧
  (∀ j : Nat, (j : Int).tmod 10 < μ 6 8 → (j : Int).tdiv 10 < μ 6 9 → μ 120 (9 + j) = μ 7 j) ∧ (∀ j, j < 300 → μ 120 (109 + j) = μ 8 j + 1) ∧ (∀ j, j < 90 → μ 120 (409 + j) = μ 10 j + 1)
/-- what acts change -/
def I_scene (μ : Nat → Nat → Int) : Prop := (0 ≤ μ 14 0 ∧ μ 14 0 ≤ 29) ∧ (-1 ≤ μ 14 3 ∧ μ 14 3 ≤ 99) ∧ (0 ≤ μ 14 4 ∧ μ 14 4 ≤ 400000) ∧ μ 120 517 = μ 14 0 ∧ (¬ μ 14 3 = -1 → μ 120 534 = μ 14 3) ∧ μ 120 535 = μ 14 4 ∧
  (∀ j, (0 ≤ μ 15 j ∧ μ 15 j ≤ 99)) ∧ (∀ j, (0 ≤ μ 16 j ∧ μ 16 j ≤ 99)) ∧ (∀ j : Nat, (j : Int) < μ 6 13 → μ 120 (518 + j) = μ 15 j ∧ μ 120 (526 + j) = μ 16 j) ∧ (μ 14 3 = -1 ↔ μ 6 14 = -1) ∧
  (∀ j : Nat, (j : Int) < μ 6 13 → (μ 15 j).tmod 10 < μ 6 8 ∧ (μ 15 j).tdiv 10 < μ 6 9) ∧ (μ 14 3 = -1 ∨ ((μ 14 3).tmod 10 < μ 6 8 ∧ (μ 14 3).tdiv 10 < μ 6 9)) ∧ (μ 6 9 = 0 ∨ 2 ≤ μ 6 8)
/-- the plan: words 11 go, 12 sell, 13 buy, 14 day, 15 night -/
def I_plan (μ : Nat → Nat → Int) : Prop := (0 ≤ μ 17 0 ∧ μ 17 0 ≤ 30) ∧ μ 120 536 = μ 17 0 ∧ ∀ i : Nat, (i : Int) < μ 17 0 → (11 ≤ μ 18 i ∧ μ 18 i ≤ 15) ∧ μ 18 i = μ 120 (537 + 4 * i) + 11 ∧ (μ 18 i ≤ 13 → (0 ≤ μ 19 i ∧ μ 19 i < μ 6 13) ∧ μ 19 i = μ 120 (538 + 4 * i)) ∧ (¬ μ 18 i = 14 → (0 ≤ μ 20 i ∧ μ 20 i ≤ 99) ∧ μ 20 i = μ 120 (539 + 4 * i)) ∧ (μ 18 i = 11 → (μ 20 i).tmod 10 < μ 6 8 ∧ (μ 20 i).tdiv 10 < μ 6 9) ∧ (12 ≤ μ 18 i → ¬ μ 18 i = 14 → 1 ≤ μ 20 i) ∧ (μ 18 i = 15 → μ 20 i ≤ 20)
/-- what was written, walked, seated, judged last -/
def I_last (μ : Nat → Nat → Int) : Prop := ((0 ≤ μ 0 14 ∧ μ 0 14 ≤ 100) ∧ μ 118 31 = μ 0 14 ∧ ∀ j, (-128 ≤ μ 130 j ∧ μ 130 j ≤ 127) ∧ ((j : Int) < μ 0 14 → μ 130 j = μ 116 j)) ∧
  ((0 ≤ μ 0 16 ∧ μ 0 16 ≤ 100) ∧ μ 118 39 = μ 0 16 ∧ ∀ j : Nat, (j : Int) < μ 0 16 → μ 135 j = μ 117 j) ∧
  ((0 ≤ μ 112 5 ∧ μ 112 5 ≤ 8) ∧ μ 118 37 = μ 112 5 ∧ ∀ j : Nat, (j : Int) < μ 112 5 → μ 134 j = μ 115 j) ∧
  ((μ 82 9 = 0 ∨ μ 82 9 = 1) ∧ μ 118 44 = μ 82 9 ∧ (μ 82 9 = 1 → ∀ j, j < 6 → μ 136 j = μ 87 j))
/-- a name: a word of 1 to 6 letters, told in base 32 by the class, in base 256 by the model -/
def en (B : Int) (o : Int) : List Int → Int
  | [] => 0
  | c :: w => en B o w * B + (c - o)
def Nm (x y : Int) : Prop := ∃ w : List Int, (1 ≤ w.length ∧ w.length ≤ 6) ∧ (∀ c ∈ w, 97 ≤ c ∧ c ≤ 122) ∧ x = en 32 96 w ∧ y = en 256 0 w
def I_names (μ : Nat → Nat → Int) : Prop := ∀ j : Nat, (j : Int) < μ 6 13 → Nm (μ 11 j) (μ 123 j)
/-- a scene kept (object, cells, heads) against 19 numbers of the model, of a moor L -/
def SC (N : Int) (L sc cl hd m : Nat → Int) : Prop := (0 ≤ sc 0 ∧ sc 0 ≤ 29) ∧ (-1 ≤ sc 3 ∧ sc 3 ≤ 99) ∧ (0 ≤ sc 4 ∧ sc 4 ≤ 600 * N) ∧ m 0 = sc 0 ∧ (¬ sc 3 = -1 → m 17 = sc 3) ∧ m 18 = sc 4 ∧
  (∀ j, j < 8 → (0 ≤ cl j ∧ cl j ≤ 99)) ∧ (∀ j, j < 8 → (0 ≤ hd j ∧ hd j ≤ 99)) ∧ (∀ j : Nat, (j : Int) < L 13 → m (1 + j) = cl j ∧ m (9 + j) = hd j) ∧ (sc 3 = -1 ↔ L 14 = -1) ∧
  (∀ j : Nat, (j : Int) < L 13 → (cl j).tmod 10 < L 8 ∧ (cl j).tdiv 10 < L 9) ∧ (sc 3 = -1 ∨ ((sc 3).tmod 10 < L 8 ∧ (sc 3).tdiv 10 < L 9))
/-- acts that may be undone: done (82 5), undoable (82 6), past scenes 88, 91 .. 109 round and round -/
def I_undo (N : Int) (μ : Nat → Nat → Int) : Prop := ((0 ≤ μ 82 6 ∧ μ 82 6 ≤ 8) ∧ μ 82 6 ≤ μ 82 5 ∧ μ 82 5 ≤ N) ∧ μ 118 34 = μ 82 6 ∧
  ∀ i p : Nat, (i : Int) < μ 82 6 → (p : Int) = (μ 82 5 - μ 82 6 + i) % 8 → SC N (μ 6) (μ (88 + 3 * p)) (μ (89 + 3 * p)) (μ (90 + 3 * p)) (fun k => μ 131 (19 * i + k))
def I_flag (μ : Nat → Nat → Int) : Prop := (μ 6 16 = 0 ∨ μ 6 16 = 1) ∧ (μ 6 17 = 0 ∨ μ 6 17 = 1)
def I_img (μ : Nat → Nat → Int) : Prop := I_land μ ∧ I_scene μ ∧ I_plan μ ∧ I_names μ ∧ I_flag μ
/-- the kept image k seen as if it stood here -/
def vw (μ : Nat → Nat → Int) (k : Nat) : Nat → Nat → Int := fun a j => if 6 ≤ a ∧ a ≤ 20 then μ (a + 17 + 16 * k) j else if a = 120 then μ 138 (657 * k + j) else if a = 123 then μ 139 (8 * k + j) else 0
def I_kept (N : Int) (μ : Nat → Nat → Int) : Prop := ∀ k : Nat, k < 2 → (μ (22 + 16 * k) 3 = 0 ∨ μ (22 + 16 * k) 3 = 1) ∧ μ 140 k = μ (22 + 16 * k) 3 ∧ (μ (22 + 16 * k) 3 = 1 → I_img (vw μ k) ∧ vw μ k 14 4 ≤ 600 * N) ∧ ∀ j, (0 ≤ vw μ k 7 j ∧ vw μ k 7 j ≤ 99) ∧ (-1 ≤ vw μ k 8 j ∧ vw μ k 8 j ≤ 99) ∧ (-1 ≤ vw μ k 10 j ∧ vw μ k 10 j ≤ 99) ∧ (0 ≤ vw μ k 15 j ∧ vw μ k 15 j ≤ 99) ∧ (0 ≤ vw μ k 16 j ∧ vw μ k 16 j ≤ 99)
/-- the words that are no names, each with its last letter first -/
def kw (i : Nat) : List Int := match i with
  | 0 => [119, 111, 114]
  | 1 => [119, 97, 108]
  | 2 => [114, 101, 98, 109, 105, 116]
  | 3 => [114, 101, 116, 97, 119]
  | 4 => [100, 110, 105, 119]
  | 5 => [103, 111, 102]
  | 6 => [114, 111, 111, 100]
  | 7 => [100, 117, 109]
  | 8 => [114, 101, 100, 100, 97, 108]
  | 9 => [100, 114, 101, 104]
  | 10 => [102, 108, 111, 119]
  | 11 => [111, 103]
  | 12 => [108, 108, 101, 115]
  | 13 => [121, 117, 98]
  | 14 => [121, 97, 100]
  | _ => [116, 104, 103, 105, 110]
def I_words (μ : Nat → Nat → Int) : Prop := ∀ i, i < 16 → μ 4 i = en 32 96 (kw i) ∧ μ 124 i = en 256 0 (kw i)
/-- what a moor read before may have left -/
def I_fresh (μ : Nat → Nat → Int) : Prop := ∀ j, (0 ≤ μ 55 j ∧ μ 55 j ≤ 99) ∧ (0 ≤ μ 60 j ∧ μ 60 j ≤ 99) ∧ (0 ≤ μ 61 j ∧ μ 61 j ≤ 99)
def Inv0 (N : Int) (μ : Nat → Nat → Int) : Prop := I_tape μ ∧ I_fault μ ∧ I_land μ ∧ I_scene μ ∧ I_last μ ∧ I_plan μ ∧ I_names μ ∧ μ 14 4 ≤ 600 * N ∧ I_undo N μ ∧ I_kept N μ ∧ I_words μ ∧ I_fresh μ ∧ I_flag μ
def Inv (N : Int) (μ : Nat → Nat → Int) : Prop := Inv0 N (rst μ)
theorem Inv.tape {μ : Nat → Nat → Int} (h : Inv N μ) : I_tape μ := h.1
theorem Inv.fault {μ : Nat → Nat → Int} (h : Inv N μ) : I_fault μ := h.2.1
theorem Inv.land {μ : Nat → Nat → Int} (h : Inv N μ) : I_land μ := h.2.2.1
theorem Inv.scene {μ : Nat → Nat → Int} (h : Inv N μ) : I_scene μ := h.2.2.2.1
theorem Inv.last {μ : Nat → Nat → Int} (h : Inv N μ) : I_last μ := h.2.2.2.2.1
theorem Inv.plan {μ : Nat → Nat → Int} (h : Inv N μ) : I_plan μ := h.2.2.2.2.2.1
theorem Inv.names {μ : Nat → Nat → Int} (h : Inv N μ) : I_names μ := h.2.2.2.2.2.2.1
theorem Inv.took {μ : Nat → Nat → Int} (h : Inv N μ) : μ 14 4 ≤ 600 * N := h.2.2.2.2.2.2.2.1
theorem sup_past {a j : Nat} (h1 : 88 ≤ a) (h2 : a ≤ 111) : sup a j = true := by
  rcases (show a = 88 ∨ a = 89 ∨ a = 90 ∨ a = 91 ∨ a = 92 ∨ a = 93 ∨ a = 94 ∨ a = 95 ∨ a = 96 ∨ a = 97 ∨ a = 98 ∨ a = 99 ∨ a = 100 ∨ a = 101 ∨ a = 102 ∨ a = 103 ∨ a = 104 ∨ a = 105 ∨ a = 106 ∨ a = 107 ∨ a = 108 ∨ a = 109 ∨ a = 110 ∨ a = 111 by omega) with rfl | rfl | rfl | rfl | rfl | rfl | rfl | rfl | rfl | rfl | rfl | rfl | rfl | rfl | rfl | rfl | rfl | rfl | rfl | rfl | rfl | rfl | rfl | rfl <;> rfl
theorem sup_kept {a j : Nat} (h1 : 22 ≤ a) (h2 : a ≤ 53) : sup a j = true := by
  rcases (show a = 22 ∨ a = 23 ∨ a = 24 ∨ a = 25 ∨ a = 26 ∨ a = 27 ∨ a = 28 ∨ a = 29 ∨ a = 30 ∨ a = 31 ∨ a = 32 ∨ a = 33 ∨ a = 34 ∨ a = 35 ∨ a = 36 ∨ a = 37 ∨ a = 38 ∨ a = 39 ∨ a = 40 ∨ a = 41 ∨ a = 42 ∨ a = 43 ∨ a = 44 ∨ a = 45 ∨ a = 46 ∨ a = 47 ∨ a = 48 ∨ a = 49 ∨ a = 50 ∨ a = 51 ∨ a = 52 ∨ a = 53 by omega) with rfl | rfl | rfl | rfl | rfl | rfl | rfl | rfl | rfl | rfl | rfl | rfl | rfl | rfl | rfl | rfl | rfl | rfl | rfl | rfl | rfl | rfl | rfl | rfl | rfl | rfl | rfl | rfl | rfl | rfl | rfl | rfl <;> rfl
theorem rst_row {μ : Nat → Nat → Int} {a : Nat} (h : ∀ j, sup a j = true) : rst μ a = μ a := by
  funext j
  unfold rst
  rw [h j]
  rfl
theorem vw_rst {μ : Nat → Nat → Int} {k : Nat} (hk : k < 2) : vw (rst μ) k = vw μ k := by
  funext a j
  unfold vw
  by_cases h : 6 ≤ a ∧ a ≤ 20
  · rw [if_pos h, if_pos h, rst_row (fun j => sup_kept (by omega) (by omega))]
  · rw [if_neg h, if_neg h]
    rfl
theorem I_undo_rst {μ : Nat → Nat → Int} : I_undo N (rst μ) ↔ I_undo N μ := by
  constructor <;> intro ⟨h1, h2, h3⟩ <;> refine ⟨h1, h2, fun i p hi hp => ?_⟩
  · have h4 := h3 i p hi hp
    rw [rst_row (a := 88 + 3 * p) (fun j => sup_past (by omega) (by omega)), rst_row (a := 89 + 3 * p) (fun j => sup_past (by omega) (by omega)), rst_row (a := 90 + 3 * p) (fun j => sup_past (by omega) (by omega))] at h4
    exact h4
  · rw [rst_row (a := 88 + 3 * p) (fun j => sup_past (by omega) (by omega)), rst_row (a := 89 + 3 * p) (fun j => sup_past (by omega) (by omega)), rst_row (a := 90 + 3 * p) (fun j => sup_past (by omega) (by omega))]
    exact h3 i p hi hp
theorem I_kept_rst {μ : Nat → Nat → Int} : I_kept N (rst μ) ↔ I_kept N μ := by
  constructor <;> intro h k hk <;> have h4 := h k hk
  · rw [rst_row (a := 22 + 16 * k) (fun j => sup_kept (by omega) (by omega)), vw_rst hk] at h4
    exact h4
  · rw [rst_row (a := 22 + 16 * k) (fun j => sup_kept (by omega) (by omega)), vw_rst hk]
    exact h4
theorem Inv.undo {μ : Nat → Nat → Int} (h : Inv N μ) : I_undo N μ := I_undo_rst.mp h.2.2.2.2.2.2.2.2.1
theorem Inv.kept {μ : Nat → Nat → Int} (h : Inv N μ) : I_kept N μ := I_kept_rst.mp h.2.2.2.2.2.2.2.2.2.1
theorem Inv.words {μ : Nat → Nat → Int} (h : Inv N μ) : I_words μ := h.2.2.2.2.2.2.2.2.2.2.1
theorem Inv.fresh {μ : Nat → Nat → Int} (h : Inv N μ) : I_fresh μ := h.2.2.2.2.2.2.2.2.2.2.2.1
theorem Inv.flag {μ : Nat → Nat → Int} (h : Inv N μ) : I_flag μ := h.2.2.2.2.2.2.2.2.2.2.2.2
theorem Inv.mk {μ : Nat → Nat → Int} (h1 : I_tape μ) (h2 : I_fault μ) (h3 : I_land μ) (h4 : I_scene μ) (h5 : I_last μ) (h6 : I_plan μ) (h7 : I_names μ) (h8 : μ 14 4 ≤ 600 * N) (h9 : I_undo N μ) (h10 : I_kept N μ) (h11 : I_words μ) (h12 : I_fresh μ) (h13 : I_flag μ) : Inv N μ := ⟨h1, h2, h3, h4, h5, h6, h7, h8, I_undo_rst.mpr h9, I_kept_rst.mpr h10, h11, h12, h13⟩
theorem I_undo.congr {μ μ' : Nat → Nat → Int} (h : I_undo N μ) (e6 : μ' 6 = μ 6) (e5 : μ' 82 5 = μ 82 5) (eu : μ' 82 6 = μ 82 6) (e34 : μ' 118 34 = μ 118 34) (ep : ∀ a, 88 ≤ a → a ≤ 111 → μ' a = μ a) (e131 : μ' 131 = μ 131) : I_undo N μ' := by
  obtain ⟨h1, h2, h3⟩ := h
  refine ⟨by rw [e5, eu]; exact h1, by rw [e34, eu]; exact h2, fun i p hi hp => ?_⟩
  rw [eu] at hi
  rw [e5, eu] at hp
  rw [e6, ep _ (by omega) (by omega), ep _ (by omega) (by omega), ep _ (by omega) (by omega), e131]
  exact h3 i p hi hp
theorem vw_congr {μ μ' : Nat → Nat → Int} (ep : ∀ a, 22 ≤ a → a ≤ 53 → μ' a = μ a) (e138 : μ' 138 = μ 138) (e139 : μ' 139 = μ 139) {k : Nat} (hk : k < 2) : vw μ' k = vw μ k := by
  funext a j
  unfold vw
  by_cases h : 6 ≤ a ∧ a ≤ 20
  · rw [if_pos h, if_pos h, ep _ (by omega) (by omega)]
  · rw [if_neg h, if_neg h, e138, e139]
theorem I_kept.congr {μ μ' : Nat → Nat → Int} (h : I_kept N μ) (ep : ∀ a, 22 ≤ a → a ≤ 53 → μ' a = μ a) (e138 : μ' 138 = μ 138) (e139 : μ' 139 = μ 139) (e140 : μ' 140 = μ 140) : I_kept N μ' := by
  intro k hk
  have h1 := h k hk
  rw [ep _ (by omega) (by omega), e140, vw_congr ep e138 e139 hk]
  exact h1
theorem Inv.same {μ μ' : Nat → Nat → Int} (h : Inv N μ) (hr : rst μ' = rst μ) : Inv N μ' := by unfold Inv; rw [hr]; exact h
theorem Inv.set {μ : Nat → Nat → Int} {a j : Nat} {v : Int} (h : Inv N μ) (hs : sup a j = false) : Inv N (m_set μ a j v) := h.same (rst_set hs)
theorem SC.le {N : Int} {L sc cl hd m : Nat → Int} (h : SC N L sc cl hd m) {M : Int} (hM : N ≤ M) : SC M L sc cl hd m := by
  obtain ⟨h1, h2, h3, h4⟩ := h
  exact ⟨h1, h2, ⟨h3.1, by omega⟩, h4⟩
/-- more calls allow more -/
theorem Inv.le {μ : Nat → Nat → Int} (h : Inv N μ) {M : Int} (hM : N ≤ M) : Inv M μ := by
  have h1 := h.took
  have h2 := h.undo
  have h3 := h.kept
  refine Inv.mk h.tape h.fault h.land h.scene h.last h.plan h.names (by omega) ⟨⟨h2.1.1, h2.1.2.1, by have := h2.1.2.2; omega⟩, h2.2.1, fun i p hi hp => (h2.2.2 i p hi hp).le hM⟩ (fun k hk => ⟨(h3 k hk).1, (h3 k hk).2.1, fun hu => ⟨((h3 k hk).2.2.1 hu).1, ?_⟩, (h3 k hk).2.2.2⟩) ?_ ?_ ?_
  · have := ((h3 k hk).2.2.1 hu).2
    omega
  · exact h.words
  · exact h.fresh
  · exact h.flag
