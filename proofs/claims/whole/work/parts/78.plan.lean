variable {N : Int}
/-! ===== printed by wip/whole/gen78.py: lines of a plan, pure; followLine ===== -/
/-- day, cells, heads, wolf, taken, steps gone -/
abbrev JT : Type := Int × (Nat → Int) × (Nat → Int) × Int × Int × Int
abbrev jd (s : JT) : Int := s.1
abbrev jc (s : JT) : Nat → Int := s.2.1
abbrev jh (s : JT) : Nat → Int := s.2.2.1
abbrev jw (s : JT) : Int := s.2.2.2.1
abbrev jt (s : JT) : Int := s.2.2.2.2.1
abbrev js (s : JT) : Int := s.2.2.2.2.2
abbrev jst (μ : Nat → Nat → Int) (h : Nat) (a : Int) (s : JT) : Int := g_steps μ (jc s h) a (g_st μ (jh s h)) (g_w μ 0 (jd s))
abbrev jhu (μ : Nat → Nat → Int) (a : Int) (s : JT) : HT := hunt μ (g_w μ 0 (jd s)) (jc s) (jh s, jw s, jt s) a.toNat
/-- a line: why it is wrong (0: it is not), and the state behind it -/
def jl (μ : Nat → Nat → Int) (w : Int) (h : Nat) (a : Int) (s : JT) : Int × JT :=
  if w = 11 then (if jst μ h a s = -1 then (1, s) else (0, (jd s, fs (jc s) h a, jh s, jw s, jt s, js s + jst μ h a s))) else
  if w = 12 then (if jh s h < a then (2, s) else (0, (jd s, jc s, fs (jh s) h (jh s h - a), jw s, jt s, js s))) else
  if w = 13 then (if 99 < jh s h + a then (3, s) else (0, (jd s, jc s, fs (jh s) h (jh s h + a), jw s, jt s, js s))) else
  if w = 14 then (if 29 ≤ jd s then (4, s) else (0, (jd s + 1, jc s, jh s, jw s, jt s, js s))) else
  if jw s = -1 then (5, s) else (0, (jd s, jc s, (jhu μ a s).1, (jhu μ a s).2.1, (jhu μ a s).2.2, js s))
theorem jl_11n {μ : Nat → Nat → Int} {h : Nat} {a : Int} {s : JT} (c : jst μ h a s = -1) : jl μ 11 h a s = (1, s) := by
  unfold jl; rw [if_pos rfl, if_pos c]
theorem jl_11y {μ : Nat → Nat → Int} {h : Nat} {a : Int} {s : JT} (c : ¬ jst μ h a s = -1) : jl μ 11 h a s = (0, (jd s, fs (jc s) h a, jh s, jw s, jt s, js s + jst μ h a s)) := by
  unfold jl; rw [if_pos rfl, if_neg c]
theorem jl_12n {μ : Nat → Nat → Int} {h : Nat} {a : Int} {s : JT} (c : jh s h < a) : jl μ 12 h a s = (2, s) := by
  unfold jl; rw [if_neg (by decide), if_pos rfl, if_pos c]
theorem jl_12y {μ : Nat → Nat → Int} {h : Nat} {a : Int} {s : JT} (c : ¬ jh s h < a) : jl μ 12 h a s = (0, (jd s, jc s, fs (jh s) h (jh s h - a), jw s, jt s, js s)) := by
  unfold jl; rw [if_neg (by decide), if_pos rfl, if_neg c]
theorem jl_13n {μ : Nat → Nat → Int} {h : Nat} {a : Int} {s : JT} (c : 99 < jh s h + a) : jl μ 13 h a s = (3, s) := by
  unfold jl; rw [if_neg (by decide), if_neg (by decide), if_pos rfl, if_pos c]
theorem jl_13y {μ : Nat → Nat → Int} {h : Nat} {a : Int} {s : JT} (c : ¬ 99 < jh s h + a) : jl μ 13 h a s = (0, (jd s, jc s, fs (jh s) h (jh s h + a), jw s, jt s, js s)) := by
  unfold jl; rw [if_neg (by decide), if_neg (by decide), if_pos rfl, if_neg c]
theorem jl_14n {μ : Nat → Nat → Int} {h : Nat} {a : Int} {s : JT} (c : 29 ≤ jd s) : jl μ 14 h a s = (4, s) := by
  unfold jl; rw [if_neg (by decide), if_neg (by decide), if_neg (by decide), if_pos rfl, if_pos c]
theorem jl_14y {μ : Nat → Nat → Int} {h : Nat} {a : Int} {s : JT} (c : ¬ 29 ≤ jd s) : jl μ 14 h a s = (0, (jd s + 1, jc s, jh s, jw s, jt s, js s)) := by
  unfold jl; rw [if_neg (by decide), if_neg (by decide), if_neg (by decide), if_pos rfl, if_neg c]
theorem jl_15n {μ : Nat → Nat → Int} {h : Nat} {a : Int} {s : JT} (c : jw s = -1) : jl μ 15 h a s = (5, s) := by
  unfold jl; rw [if_neg (by decide), if_neg (by decide), if_neg (by decide), if_neg (by decide), if_pos c]
theorem jl_15y {μ : Nat → Nat → Int} {h : Nat} {a : Int} {s : JT} (c : ¬ jw s = -1) : jl μ 15 h a s = (0, (jd s, jc s, (jhu μ a s).1, (jhu μ a s).2.1, (jhu μ a s).2.2, js s)) := by
  unfold jl; rw [if_neg (by decide), if_neg (by decide), if_neg (by decide), if_neg (by decide), if_neg c]
def jOK (μ : Nat → Nat → Int) (T S : Int) (s : JT) : Prop := (0 ≤ jd s ∧ jd s ≤ 29) ∧ (∀ j : Nat, (j : Int) < μ 6 13 → g_cell μ (jc s j)) ∧ (∀ j : Nat, (j : Int) < μ 6 13 → 0 ≤ jh s j ∧ jh s j ≤ 99) ∧ (jw s = -1 ∨ g_cell μ (jw s)) ∧ (0 ≤ jt s ∧ jt s ≤ T) ∧ (0 ≤ js s ∧ js s ≤ S)
/-- a line as it can be read -/
def jP (μ : Nat → Nat → Int) (w : Int) (h : Nat) (a : Int) : Prop := (11 ≤ w ∧ w ≤ 15) ∧ (w ≤ 13 → (h : Int) < μ 6 13) ∧ (w = 11 → g_cell μ a) ∧ (w = 12 ∨ w = 13 → 1 ≤ a ∧ a ≤ 99) ∧ (w = 15 → 1 ≤ a ∧ a ≤ 20)
theorem jOK.hOK {μ : Nat → Nat → Int} {T S : Int} {s : JT} (h : jOK μ T S s) (hw : ¬ jw s = -1) : hOK μ (jc s) T (jh s, jw s, jt s) := ⟨h.2.2.2.1.resolve_left hw, h.2.2.1, h.2.2.2.2.1, h.2.1⟩
theorem jOK.le {μ : Nat → Nat → Int} {T S T' S' : Int} {s : JT} (h : jOK μ T S s) (h1 : T ≤ T') (h2 : S ≤ S') : jOK μ T' S' s := by
  obtain ⟨a1, a2, a3, a4, a5, a6⟩ := h
  exact ⟨a1, a2, a3, a4, ⟨a5.1, by omega⟩, ⟨a6.1, by omega⟩⟩
theorem jl_ok {μ : Nat → Nat → Int} (hL : I_land μ) {T S : Int} {s : JT} {w : Int} {h : Nat} {a : Int} (hs : jOK μ T S s) (hp : jP μ w h a) : jOK μ (T + 20) (S + 100) (jl μ w h a s).2 ∧ (0 ≤ (jl μ w h a s).1 ∧ (jl μ w h a s).1 ≤ 5) ∧ (¬ (jl μ w h a s).1 = 0 → (jl μ w h a s).2 = s) ∧ (jw (jl μ w h a s).2 = -1 ↔ jw s = -1) ∧ ∀ j : Nat, μ 6 13 ≤ (j : Int) → jc (jl μ w h a s).2 j = jc s j ∧ jh (jl μ w h a s).2 j = jh s j := by
  have hle := hs.le (show T ≤ T + 20 by omega) (show S ≤ S + 100 by omega)
  obtain ⟨a1, a2, a3, a4, a5, a6⟩ := hs
  obtain ⟨p1, p2, p3, p4, p5⟩ := hp
  rcases (show w = 11 ∨ w = 12 ∨ w = 13 ∨ w = 14 ∨ w = 15 by omega) with rfl | rfl | rfl | rfl | rfl
  · by_cases c : jst μ h a s = -1
    · rw [jl_11n c]; exact ⟨hle, (by refine ⟨?_, ?_⟩ <;> dsimp only <;> decide), fun _ => rfl, Iff.rfl, fun _ _ => ⟨rfl, rfl⟩⟩
    · rw [jl_11y c]
      have hb : -1 ≤ jst μ h a s ∧ jst μ h a s ≤ 100 := g_steps_b hL (a := jc s h) (b := a) (t := g_st μ (jh s h)) (w := g_w μ 0 (jd s)) (a2 h (p2 (by decide)))
      refine ⟨⟨a1, fun j hj => ?_, a3, a4, ⟨a5.1, by show jt s ≤ _; omega⟩, ⟨by show 0 ≤ js s + jst μ h a s; omega, by show js s + jst μ h a s ≤ _; omega⟩⟩, (by refine ⟨?_, ?_⟩ <;> dsimp only <;> decide), fun z => absurd rfl z, Iff.rfl, fun j hj => ⟨?_, rfl⟩⟩
      · show g_cell μ (fs (jc s) h a j)
        unfold fs
        split
        · exact p3 rfl
        · exact a2 j hj
      · show fs (jc s) h a j = jc s j
        have := p2 (by decide)
        rw [fs_ne (by omega)]
  · by_cases c : jh s h < a
    · rw [jl_12n c]; exact ⟨hle, (by refine ⟨?_, ?_⟩ <;> dsimp only <;> decide), fun _ => rfl, Iff.rfl, fun _ _ => ⟨rfl, rfl⟩⟩
    · rw [jl_12y c]
      refine ⟨⟨a1, a2, fun j hj => ?_, a4, ⟨a5.1, by show jt s ≤ _; omega⟩, ⟨a6.1, by show js s ≤ _; omega⟩⟩, (by refine ⟨?_, ?_⟩ <;> dsimp only <;> decide), fun z => absurd rfl z, Iff.rfl, fun j hj => ⟨rfl, ?_⟩⟩
      · show 0 ≤ fs (jh s) h (jh s h - a) j ∧ fs (jh s) h (jh s h - a) j ≤ 99
        have b1 := a3 j hj
        have b2 := a3 h (p2 (by decide))
        have b3 := p4 (Or.inl rfl)
        unfold fs
        split <;> omega
      · show fs (jh s) h (jh s h - a) j = jh s j
        have := p2 (by decide)
        rw [fs_ne (by omega)]
  · by_cases c : 99 < jh s h + a
    · rw [jl_13n c]; exact ⟨hle, (by refine ⟨?_, ?_⟩ <;> dsimp only <;> decide), fun _ => rfl, Iff.rfl, fun _ _ => ⟨rfl, rfl⟩⟩
    · rw [jl_13y c]
      refine ⟨⟨a1, a2, fun j hj => ?_, a4, ⟨a5.1, by show jt s ≤ _; omega⟩, ⟨a6.1, by show js s ≤ _; omega⟩⟩, (by refine ⟨?_, ?_⟩ <;> dsimp only <;> decide), fun z => absurd rfl z, Iff.rfl, fun j hj => ⟨rfl, ?_⟩⟩
      · show 0 ≤ fs (jh s) h (jh s h + a) j ∧ fs (jh s) h (jh s h + a) j ≤ 99
        have b1 := a3 j hj
        have b2 := a3 h (p2 (by decide))
        have b3 := p4 (Or.inr rfl)
        unfold fs
        split <;> omega
      · show fs (jh s) h (jh s h + a) j = jh s j
        have := p2 (by decide)
        rw [fs_ne (by omega)]
  · by_cases c : 29 ≤ jd s
    · rw [jl_14n c]; exact ⟨hle, (by refine ⟨?_, ?_⟩ <;> dsimp only <;> decide), fun _ => rfl, Iff.rfl, fun _ _ => ⟨rfl, rfl⟩⟩
    · rw [jl_14y c]
      exact ⟨⟨⟨by show 0 ≤ jd s + 1; omega, by show jd s + 1 ≤ 29; omega⟩, a2, a3, a4, ⟨a5.1, by show jt s ≤ _; omega⟩, ⟨a6.1, by show js s ≤ _; omega⟩⟩, (by refine ⟨?_, ?_⟩ <;> dsimp only <;> decide), fun z => absurd rfl z, Iff.rfl, fun _ _ => ⟨rfl, rfl⟩⟩
  · by_cases c : jw s = -1
    · rw [jl_15n c]; exact ⟨hle, (by refine ⟨?_, ?_⟩ <;> dsimp only <;> decide), fun _ => rfl, Iff.rfl, fun _ _ => ⟨rfl, rfl⟩⟩
    · rw [jl_15y c]
      have b3 := p5 rfl
      obtain ⟨k1, k2, k3, k4⟩ := hunt_ok hL (W := g_w μ 0 (jd s)) (jOK.hOK ⟨a1, a2, a3, a4, a5, a6⟩ c) a.toNat
      have k1 : g_cell μ (jhu μ a s).2.1 := k1
      have k3 : 0 ≤ (jhu μ a s).2.2 ∧ (jhu μ a s).2.2 ≤ T + (a.toNat : Int) := k3
      refine ⟨⟨a1, a2, k2, Or.inr k1, ⟨k3.1, by show (jhu μ a s).2.2 ≤ _; omega⟩, ⟨a6.1, by show js s ≤ _; omega⟩⟩, (by refine ⟨?_, ?_⟩ <;> dsimp only <;> decide), fun z => absurd rfl z, ?_, fun j hj => ⟨rfl, hunt_keep hj _⟩⟩
      show (jhu μ a s).2.1 = -1 ↔ jw s = -1
      constructor
      · intro z
        have := k1.1
        omega
      · intro z; exact absurd z c
/-- the run of the first n lines: why wrong, how many done, the state -/
def jr (μ : Nat → Nat → Int) (s : JT) : Nat → Int × Int × JT
  | 0 => (0, 0, s)
  | n + 1 => if (jr μ s n).1 = 0 then ((jl μ (μ 18 n) (μ 19 n).toNat (μ 20 n) (jr μ s n).2.2).1, (jr μ s n).2.1 + (if (jl μ (μ 18 n) (μ 19 n).toNat (μ 20 n) (jr μ s n).2.2).1 = 0 then 1 else 0), (jl μ (μ 18 n) (μ 19 n).toNat (μ 20 n) (jr μ s n).2.2).2) else jr μ s n
theorem jr_go {μ : Nat → Nat → Int} {s : JT} {n : Nat} (h : (jr μ s n).1 = 0) : jr μ s (n + 1) = ((jl μ (μ 18 n) (μ 19 n).toNat (μ 20 n) (jr μ s n).2.2).1, (jr μ s n).2.1 + (if (jl μ (μ 18 n) (μ 19 n).toNat (μ 20 n) (jr μ s n).2.2).1 = 0 then 1 else 0), (jl μ (μ 18 n) (μ 19 n).toNat (μ 20 n) (jr μ s n).2.2).2) := if_pos h
theorem jr_st {μ : Nat → Nat → Int} {s : JT} {n : Nat} (h : ¬ (jr μ s n).1 = 0) : ∀ d, jr μ s (n + d) = jr μ s n
  | 0 => rfl
  | d + 1 => by
    show (if (jr μ s (n + d)).1 = 0 then _ else jr μ s (n + d)) = _
    rw [jr_st h d, if_neg h]
theorem plan_P {μ : Nat → Nat → Int} (hP : I_plan μ) {i : Nat} (hi : (i : Int) < μ 17 0) : jP μ (μ 18 i) (μ 19 i).toNat (μ 20 i) := by
  obtain ⟨p1, p2, p3⟩ := hP
  obtain ⟨b1, b2, b3, b4, b5, b6, b7⟩ := p3 i hi
  refine ⟨b1, fun z => by have := b3 z; omega, fun z => ⟨(b4 (by omega)).1.1, b5 z⟩, fun z => ⟨b6 (by omega) (by omega), (b4 (by omega)).1.2⟩, fun z => ⟨b6 (by omega) (by omega), b7 z⟩⟩
theorem jr_ok {μ : Nat → Nat → Int} (hL : I_land μ) (hP : I_plan μ) {T : Int} {s : JT} (hs : jOK μ T 0 s) : ∀ n : Nat, (n : Int) ≤ μ 17 0 → jOK μ (T + 20 * n) (100 * n) (jr μ s n).2.2 ∧ (0 ≤ (jr μ s n).1 ∧ (jr μ s n).1 ≤ 5) ∧ (0 ≤ (jr μ s n).2.1 ∧ (jr μ s n).2.1 ≤ n) ∧ (jw (jr μ s n).2.2 = -1 ↔ jw s = -1) ∧ (∀ j : Nat, μ 6 13 ≤ (j : Int) → jc (jr μ s n).2.2 j = jc s j ∧ jh (jr μ s n).2.2 j = jh s j) ∧ ((jr μ s n).1 = 0 → (jr μ s n).2.1 = n) ∧ ((jr μ s n).2.1 = 0 → (jr μ s n).2.2 = s)
  | 0, _ => ⟨hs.le (by omega) (by omega), by show (0 : Int) ≤ 0 ∧ (0 : Int) ≤ 5; decide, by show (0 : Int) ≤ 0 ∧ (0 : Int) ≤ ((0 : Nat) : Int); decide, Iff.rfl, fun _ _ => ⟨rfl, rfl⟩, fun _ => rfl, fun _ => rfl⟩
  | n + 1, hn => by
    obtain ⟨i1, i2, i3, i4, i5, i6, i7⟩ := jr_ok hL hP hs n (by omega)
    by_cases h : (jr μ s n).1 = 0
    · obtain ⟨l1, l2, l3, l4, l5⟩ := jl_ok hL i1 (plan_P hP (i := n) (by omega))
      rw [jr_go h]
      refine ⟨l1.le (by omega) (by omega), l2, ?_, l4.trans i4, fun j hj => ⟨(l5 j hj).1.trans (i5 j hj).1, (l5 j hj).2.trans (i5 j hj).2⟩, ?_, ?_⟩
      · dsimp only
        split <;> omega
      · dsimp only
        intro z
        rw [if_pos z, i6 h]
        omega
      · dsimp only
        intro z
        by_cases y : (jl μ (μ 18 n) (μ 19 n).toNat (μ 20 n) (jr μ s n).2.2).1 = 0
        · rw [if_pos y] at z; omega
        · rw [if_neg y] at z
          rw [l3 y]
          exact i7 (by omega)
    · have e := jr_st h 1
      rw [e]
      refine ⟨i1.le (by omega) (by omega), i2, ⟨i3.1, by omega⟩, i4, i5, fun z => absurd z h, i7⟩
/-- the trial of a memory; what an act leaves as it was -/
abbrev tr (μ : Nat → Nat → Int) : JT := (μ 83 0, μ 84, μ 85, μ 83 3, μ 83 4, μ 82 7)
def fr (μ M : Nat → Nat → Int) : Prop := (∀ b, ¬ b = 67 → ¬ b = 68 → ¬ b = 69 → ¬ b = 82 → ¬ b = 83 → ¬ b = 84 → ¬ b = 85 → M b = μ b) ∧ ∀ j, ¬ j = 7 → M 82 j = μ 82 j
theorem fr.trans {μ M M' : Nat → Nat → Int} (h : fr μ M) (h' : fr M M') : fr μ M' := ⟨fun b a1 a2 a3 a4 a5 a6 a7 => (h'.1 b a1 a2 a3 a4 a5 a6 a7).trans (h.1 b a1 a2 a3 a4 a5 a6 a7), fun j hj => (h'.2 j hj).trans (h.2 j hj)⟩
theorem fr.rst {μ M : Nat → Nat → Int} (h : fr μ M) : rst M = rst μ := rst_same (fun a j hs => by
  by_cases e : a = 82
  · subst e
    refine h.2 j (fun z => ?_)
    subst z
    cases hs
  · rw [h.1 a (fun z => by subst z; cases hs) (fun z => by subst z; cases hs) (fun z => by subst z; cases hs) e (fun z => by subst z; cases hs) (fun z => by subst z; cases hs) (fun z => by subst z; cases hs)])
theorem fr.upd {μ M : Nat → Nat → Int} (h : fr μ M) {b : Nat} {f : Nat → Int} (hb : b = 67 ∨ b = 68 ∨ b = 69 ∨ b = 83 ∨ b = 84 ∨ b = 85) : fr μ (m_upd M b f) := ⟨fun a a1 a2 a3 a4 a5 a6 a7 => by rw [row_upd (by omega)]; exact h.1 a a1 a2 a3 a4 a5 a6 a7, fun j hj => by rw [row_upd (by omega)]; exact h.2 j hj⟩
theorem fr.set {μ M : Nat → Nat → Int} (h : fr μ M) {b j : Nat} {v : Int} (hb : b = 83 ∨ b = 84 ∨ b = 85) : fr μ (m_set M b j v) := ⟨fun a a1 a2 a3 a4 a5 a6 a7 => by rw [row_set (by omega)]; exact h.1 a a1 a2 a3 a4 a5 a6 a7, fun j hj => by rw [row_set (by omega)]; exact h.2 j hj⟩
theorem fr.set7 {μ M : Nat → Nat → Int} (h : fr μ M) {v : Int} : fr μ (m_set M 82 7 v) := ⟨fun a a1 a2 a3 a4 a5 a6 a7 => by rw [row_set (by omega)]; exact h.1 a a1 a2 a3 a4 a5 a6 a7, fun j hj => by rw [m_set_ne _ _ (by omega)]; exact h.2 j hj⟩
theorem fr.refl {μ : Nat → Nat → Int} : fr μ μ := ⟨fun _ _ _ _ _ _ _ _ => rfl, fun _ _ => rfl⟩
set_option maxHeartbeats 4000000 in
theorem c_fline {μ : Nat → Nat → Int} {c s : Nat} (hL : I_land μ) {T S : Int} (hT : T ≤ 900000) (hS : S ≤ 90000) (hs : jOK μ T S (tr μ)) {i : Nat} (hi : i < 30) (hP : jP μ (μ 18 i) (μ 19 i).toNat (μ 20 i)) (h19 : μ 18 i ≤ 13 → 0 ≤ μ 19 i) : ∃ M, (tr M = (jl μ (μ 18 i) (μ 19 i).toNat (μ 20 i) (tr μ)).2 ∧ fr μ M) ∧ Cl PT 13 [mR 82, mR 17, mI (i : Int)] (mkh μ c s) (fun r => r = (some (some (mI ((jl μ (μ 18 i) (μ 19 i).toNat (μ 20 i) (tr μ)).1))), mkh M c s)) := by
  have hL_ := hL
  obtain ⟨lc, lr, le, lm, lw, lh, lwo, lwd, q0, q1, q2, q3, q4, q8, q499, q500, lth, lG, lT, lW, -⟩ := hL_
  obtain ⟨a1, a2, a3, a4, a5, a6⟩ := hs
  have a1 : 0 ≤ μ 83 0 ∧ μ 83 0 ≤ 29 := a1
  have a5 : 0 ≤ μ 83 4 ∧ μ 83 4 ≤ T := a5
  have a6 : 0 ≤ μ 82 7 ∧ μ 82 7 ≤ S := a6
  obtain ⟨p1, p2, p3, p4, p5⟩ := hP
  rcases (show μ 18 i = 11 ∨ μ 18 i = 12 ∨ μ 18 i = 13 ∨ μ 18 i = 14 ∨ μ 18 i = 15 by omega) with hw | hw | hw | hw | hw
  · have hto := p3 hw
    obtain ⟨h, eh⟩ := Int.eq_ofNat_of_zero_le (h19 (by omega))
    have ehn : (μ 19 i).toNat = h := by omega
    have hh := p2 (by omega)
    rw [ehn] at hh
    rw [hw, ehn]
    by_cases cc : jst μ h (μ 20 i) (tr μ) = -1
    · obtain ⟨O, F, q, hmv⟩ := c_move_no (μ := μ) (c := c) (s := s) hL (h := h) (to := μ 20 i) (by omega) a1 (a2 h hh) (a3 h hh) hto (by omega) cc
      rw [jl_11n cc]
      refine ⟨(m_upd (m_upd (m_upd μ 67 O) 68 F) 69 q), ⟨rfl, ((fr.refl.upd (by omega)).upd (by omega)).upd (by omega)⟩, ?_⟩
      refine ⟨_, PT_13, Nat.le_of_ble_eq_true rfl, ?_⟩
      show Rn PT none kX0_followLine 0 [some (mR 82), some (mR 17), some (mI ((i : Int)))] [] (mkh μ c s) _
      refine rn_aload_n (k' := 1) rfl rfl rfl ?_
      refine rn_getR (k' := 2) rfl rfl K0_17 (by decide) rfl R0_17_1 ?_
      refine rn_iload_n (k' := 3) rfl rfl rfl ?_
      refine rn_iaload (k' := 4) rfl rfl K0_18 (by omega) (by omega) ?_
      show Rn PT none kX0_followLine 4 [some (mR 82), some (mR 17), some (mI ((i : Int)))] [mI (μ 18 (i))] (mkh μ c s) _
      rcases (show (μ 18 (i) < 11 ∨ 14 < μ 18 (i)) ∨ μ 18 (i) = 11 ∨ μ 18 (i) = 12 ∨ μ 18 (i) = 13 ∨ μ 18 (i) = 14 by omega) with hs1 | hs1 | hs1 | hs1 | hs1
      · exfalso; omega
      · refine rn_swI (j := 0) (t' := 5) rfl (by omega) rfl ?_
        refine rn_aload_n (k' := 6) rfl rfl rfl ?_
        refine rn_aload_n (k' := 7) rfl rfl rfl ?_
        refine rn_getR (k' := 8) rfl rfl K0_17 (by decide) rfl R0_17_2 ?_
        refine rn_iload_n (k' := 9) rfl rfl rfl ?_
        refine rn_iaload (k' := 10) rfl rfl K0_19 (by omega) (by omega) ?_
        show Rn PT none kX0_followLine 10 [some (mR 82), some (mR 17), some (mI ((i : Int)))] [mI (μ 19 (i)), mR 82] (mkh μ c s) _
        refine rn_aload_n (k' := 11) rfl rfl rfl ?_
        refine rn_getR (k' := 12) rfl rfl K0_17 (by decide) rfl R0_17_3 ?_
        refine rn_iload_n (k' := 13) rfl rfl rfl ?_
        refine rn_iaload (k' := 14) rfl rfl K0_20 (by omega) (by omega) ?_
        show Rn PT none kX0_followLine 14 [some (mR 82), some (mR 17), some (mI ((i : Int)))] [mI (μ 20 (i)), mI (μ 19 (i)), mR 82] (mkh μ c s) _
        refine rn_callP (k' := 15) (y := 5) (vs := [mR 82, mI (μ 19 (i)), mI (μ 20 (i))]) (S' := []) (v := some (mI (1))) (h' := mkh (m_upd (m_upd (m_upd μ 67 O) 68 F) 69 q) c s) rfl rfl rfl (by rw [eh]; exact hmv) ?_
        show Rn PT none kX0_followLine 15 [some (mR 82), some (mR 17), some (mI ((i : Int)))] [mI (1)] (mkh (m_upd (m_upd (m_upd μ 67 O) 68 F) 69 q) c s) _
        refine rn_iret rfl (Or.inl rfl) ?_
        rfl
      · exfalso; omega
      · exfalso; omega
      · exfalso; omega
    · obtain ⟨O, F, q, hmv⟩ := c_move_ok (μ := μ) (c := c) (s := s) hL (h := h) (to := μ 20 i) (by omega) a1 (a2 h hh) (a3 h hh) hto (by omega) cc
      rw [jl_11y cc]
      refine ⟨(m_set (m_set (m_upd (m_upd (m_upd μ 67 O) 68 F) 69 q) 84 h (μ 20 i)) 82 7 (μ 82 7 + jst μ h (μ 20 i) (tr μ))), ⟨?_, ((((fr.refl.upd (by omega)).upd (by omega)).upd (by omega)).set (by omega)).set7⟩, ?_⟩
      · refine congrArg (fun z => (μ 83 0, z, μ 85, μ 83 3, μ 83 4, μ 82 7 + jst μ h (μ 20 i) (tr μ))) ?_
        rw [row_set (by decide), row_set_eq]
        rfl
      refine ⟨_, PT_13, Nat.le_of_ble_eq_true rfl, ?_⟩
      show Rn PT none kX0_followLine 0 [some (mR 82), some (mR 17), some (mI ((i : Int)))] [] (mkh μ c s) _
      refine rn_aload_n (k' := 1) rfl rfl rfl ?_
      refine rn_getR (k' := 2) rfl rfl K0_17 (by decide) rfl R0_17_1 ?_
      refine rn_iload_n (k' := 3) rfl rfl rfl ?_
      refine rn_iaload (k' := 4) rfl rfl K0_18 (by omega) (by omega) ?_
      show Rn PT none kX0_followLine 4 [some (mR 82), some (mR 17), some (mI ((i : Int)))] [mI (μ 18 (i))] (mkh μ c s) _
      rcases (show (μ 18 (i) < 11 ∨ 14 < μ 18 (i)) ∨ μ 18 (i) = 11 ∨ μ 18 (i) = 12 ∨ μ 18 (i) = 13 ∨ μ 18 (i) = 14 by omega) with hs1 | hs1 | hs1 | hs1 | hs1
      · exfalso; omega
      · refine rn_swI (j := 0) (t' := 5) rfl (by omega) rfl ?_
        refine rn_aload_n (k' := 6) rfl rfl rfl ?_
        refine rn_aload_n (k' := 7) rfl rfl rfl ?_
        refine rn_getR (k' := 8) rfl rfl K0_17 (by decide) rfl R0_17_2 ?_
        refine rn_iload_n (k' := 9) rfl rfl rfl ?_
        refine rn_iaload (k' := 10) rfl rfl K0_19 (by omega) (by omega) ?_
        show Rn PT none kX0_followLine 10 [some (mR 82), some (mR 17), some (mI ((i : Int)))] [mI (μ 19 (i)), mR 82] (mkh μ c s) _
        refine rn_aload_n (k' := 11) rfl rfl rfl ?_
        refine rn_getR (k' := 12) rfl rfl K0_17 (by decide) rfl R0_17_3 ?_
        refine rn_iload_n (k' := 13) rfl rfl rfl ?_
        refine rn_iaload (k' := 14) rfl rfl K0_20 (by omega) (by omega) ?_
        show Rn PT none kX0_followLine 14 [some (mR 82), some (mR 17), some (mI ((i : Int)))] [mI (μ 20 (i)), mI (μ 19 (i)), mR 82] (mkh μ c s) _
        refine rn_callP (k' := 15) (y := 5) (vs := [mR 82, mI (μ 19 (i)), mI (μ 20 (i))]) (S' := []) (v := some (mI (0))) (h' := mkh (m_set (m_set (m_upd (m_upd (m_upd μ 67 O) 68 F) 69 q) 84 h (μ 20 i)) 82 7 (μ 82 7 + jst μ h (μ 20 i) (tr μ))) c s) rfl rfl rfl (by rw [eh]; exact hmv) ?_
        show Rn PT none kX0_followLine 15 [some (mR 82), some (mR 17), some (mI ((i : Int)))] [mI (0)] (mkh (m_set (m_set (m_upd (m_upd (m_upd μ 67 O) 68 F) 69 q) 84 h (μ 20 i)) 82 7 (μ 82 7 + jst μ h (μ 20 i) (tr μ))) c s) _
        refine rn_iret rfl (Or.inl rfl) ?_
        rfl
      · exfalso; omega
      · exfalso; omega
      · exfalso; omega
  · have hn := p4 (by omega)
    obtain ⟨h, eh⟩ := Int.eq_ofNat_of_zero_le (h19 (by omega))
    have ehn : (μ 19 i).toNat = h := by omega
    have hh := p2 (by omega)
    rw [ehn] at hh
    rw [hw, ehn]
    have hmv := c_X0_sell (μ := μ) (c := c) (s := s) (h := h) (n := μ 20 i) (by omega) (a3 h hh) hn
    by_cases cc : μ 85 h < μ 20 i
    · rw [if_pos cc, if_pos cc] at hmv
      rw [jl_12n cc]
      refine ⟨μ, ⟨rfl, fr.refl⟩, ?_⟩
      refine ⟨_, PT_13, Nat.le_of_ble_eq_true rfl, ?_⟩
      show Rn PT none kX0_followLine 0 [some (mR 82), some (mR 17), some (mI ((i : Int)))] [] (mkh μ c s) _
      refine rn_aload_n (k' := 1) rfl rfl rfl ?_
      refine rn_getR (k' := 2) rfl rfl K0_17 (by decide) rfl R0_17_1 ?_
      refine rn_iload_n (k' := 3) rfl rfl rfl ?_
      refine rn_iaload (k' := 4) rfl rfl K0_18 (by omega) (by omega) ?_
      show Rn PT none kX0_followLine 4 [some (mR 82), some (mR 17), some (mI ((i : Int)))] [mI (μ 18 (i))] (mkh μ c s) _
      rcases (show (μ 18 (i) < 11 ∨ 14 < μ 18 (i)) ∨ μ 18 (i) = 11 ∨ μ 18 (i) = 12 ∨ μ 18 (i) = 13 ∨ μ 18 (i) = 14 by omega) with hs1 | hs1 | hs1 | hs1 | hs1
      · exfalso; omega
      · exfalso; omega
      · refine rn_swI (j := 1) (t' := 16) rfl (by omega) rfl ?_
        refine rn_aload_n (k' := 17) rfl rfl rfl ?_
        refine rn_aload_n (k' := 18) rfl rfl rfl ?_
        refine rn_getR (k' := 19) rfl rfl K0_17 (by decide) rfl R0_17_2 ?_
        refine rn_iload_n (k' := 20) rfl rfl rfl ?_
        refine rn_iaload (k' := 21) rfl rfl K0_19 (by omega) (by omega) ?_
        show Rn PT none kX0_followLine 21 [some (mR 82), some (mR 17), some (mI ((i : Int)))] [mI (μ 19 (i)), mR 82] (mkh μ c s) _
        refine rn_aload_n (k' := 22) rfl rfl rfl ?_
        refine rn_getR (k' := 23) rfl rfl K0_17 (by decide) rfl R0_17_3 ?_
        refine rn_iload_n (k' := 24) rfl rfl rfl ?_
        refine rn_iaload (k' := 25) rfl rfl K0_20 (by omega) (by omega) ?_
        show Rn PT none kX0_followLine 25 [some (mR 82), some (mR 17), some (mI ((i : Int)))] [mI (μ 20 (i)), mI (μ 19 (i)), mR 82] (mkh μ c s) _
        refine rn_callP (k' := 26) (y := 6) (vs := [mR 82, mI (μ 19 (i)), mI (μ 20 (i))]) (S' := []) (v := some (mI (2))) (h' := mkh μ c s) rfl rfl rfl (by rw [eh]; exact hmv) ?_
        show Rn PT none kX0_followLine 26 [some (mR 82), some (mR 17), some (mI ((i : Int)))] [mI (2)] (mkh μ c s) _
        refine rn_iret rfl (Or.inl rfl) ?_
        rfl
      · exfalso; omega
      · exfalso; omega
    · rw [if_neg cc, if_neg cc] at hmv
      rw [jl_12y cc]
      refine ⟨m_set μ 85 h (μ 85 h - μ 20 i), ⟨?_, fr.refl.set (by omega)⟩, ?_⟩
      · refine congrArg (fun z => (μ 83 0, μ 84, z, μ 83 3, μ 83 4, μ 82 7)) ?_
        rw [row_set_eq]
      refine ⟨_, PT_13, Nat.le_of_ble_eq_true rfl, ?_⟩
      show Rn PT none kX0_followLine 0 [some (mR 82), some (mR 17), some (mI ((i : Int)))] [] (mkh μ c s) _
      refine rn_aload_n (k' := 1) rfl rfl rfl ?_
      refine rn_getR (k' := 2) rfl rfl K0_17 (by decide) rfl R0_17_1 ?_
      refine rn_iload_n (k' := 3) rfl rfl rfl ?_
      refine rn_iaload (k' := 4) rfl rfl K0_18 (by omega) (by omega) ?_
      show Rn PT none kX0_followLine 4 [some (mR 82), some (mR 17), some (mI ((i : Int)))] [mI (μ 18 (i))] (mkh μ c s) _
      rcases (show (μ 18 (i) < 11 ∨ 14 < μ 18 (i)) ∨ μ 18 (i) = 11 ∨ μ 18 (i) = 12 ∨ μ 18 (i) = 13 ∨ μ 18 (i) = 14 by omega) with hs1 | hs1 | hs1 | hs1 | hs1
      · exfalso; omega
      · exfalso; omega
      · refine rn_swI (j := 1) (t' := 16) rfl (by omega) rfl ?_
        refine rn_aload_n (k' := 17) rfl rfl rfl ?_
        refine rn_aload_n (k' := 18) rfl rfl rfl ?_
        refine rn_getR (k' := 19) rfl rfl K0_17 (by decide) rfl R0_17_2 ?_
        refine rn_iload_n (k' := 20) rfl rfl rfl ?_
        refine rn_iaload (k' := 21) rfl rfl K0_19 (by omega) (by omega) ?_
        show Rn PT none kX0_followLine 21 [some (mR 82), some (mR 17), some (mI ((i : Int)))] [mI (μ 19 (i)), mR 82] (mkh μ c s) _
        refine rn_aload_n (k' := 22) rfl rfl rfl ?_
        refine rn_getR (k' := 23) rfl rfl K0_17 (by decide) rfl R0_17_3 ?_
        refine rn_iload_n (k' := 24) rfl rfl rfl ?_
        refine rn_iaload (k' := 25) rfl rfl K0_20 (by omega) (by omega) ?_
        show Rn PT none kX0_followLine 25 [some (mR 82), some (mR 17), some (mI ((i : Int)))] [mI (μ 20 (i)), mI (μ 19 (i)), mR 82] (mkh μ c s) _
        refine rn_callP (k' := 26) (y := 6) (vs := [mR 82, mI (μ 19 (i)), mI (μ 20 (i))]) (S' := []) (v := some (mI (0))) (h' := mkh (m_set μ 85 h (μ 85 h - μ 20 i)) c s) rfl rfl rfl (by rw [eh]; exact hmv) ?_
        show Rn PT none kX0_followLine 26 [some (mR 82), some (mR 17), some (mI ((i : Int)))] [mI (0)] (mkh (m_set μ 85 h (μ 85 h - μ 20 i)) c s) _
        refine rn_iret rfl (Or.inl rfl) ?_
        rfl
      · exfalso; omega
      · exfalso; omega
  · have hn := p4 (by omega)
    obtain ⟨h, eh⟩ := Int.eq_ofNat_of_zero_le (h19 (by omega))
    have ehn : (μ 19 i).toNat = h := by omega
    have hh := p2 (by omega)
    rw [ehn] at hh
    rw [hw, ehn]
    have hmv := c_X0_buy (μ := μ) (c := c) (s := s) (h := h) (n := μ 20 i) (by omega) (a3 h hh) hn
    by_cases cc : 99 < μ 85 h + μ 20 i
    · rw [if_pos cc, if_pos cc] at hmv
      rw [jl_13n cc]
      refine ⟨μ, ⟨rfl, fr.refl⟩, ?_⟩
      refine ⟨_, PT_13, Nat.le_of_ble_eq_true rfl, ?_⟩
      show Rn PT none kX0_followLine 0 [some (mR 82), some (mR 17), some (mI ((i : Int)))] [] (mkh μ c s) _
      refine rn_aload_n (k' := 1) rfl rfl rfl ?_
      refine rn_getR (k' := 2) rfl rfl K0_17 (by decide) rfl R0_17_1 ?_
      refine rn_iload_n (k' := 3) rfl rfl rfl ?_
      refine rn_iaload (k' := 4) rfl rfl K0_18 (by omega) (by omega) ?_
      show Rn PT none kX0_followLine 4 [some (mR 82), some (mR 17), some (mI ((i : Int)))] [mI (μ 18 (i))] (mkh μ c s) _
      rcases (show (μ 18 (i) < 11 ∨ 14 < μ 18 (i)) ∨ μ 18 (i) = 11 ∨ μ 18 (i) = 12 ∨ μ 18 (i) = 13 ∨ μ 18 (i) = 14 by omega) with hs1 | hs1 | hs1 | hs1 | hs1
      · exfalso; omega
      · exfalso; omega
      · exfalso; omega
      · refine rn_swI (j := 2) (t' := 27) rfl (by omega) rfl ?_
        refine rn_aload_n (k' := 28) rfl rfl rfl ?_
        refine rn_aload_n (k' := 29) rfl rfl rfl ?_
        refine rn_getR (k' := 30) rfl rfl K0_17 (by decide) rfl R0_17_2 ?_
        refine rn_iload_n (k' := 31) rfl rfl rfl ?_
        refine rn_iaload (k' := 32) rfl rfl K0_19 (by omega) (by omega) ?_
        show Rn PT none kX0_followLine 32 [some (mR 82), some (mR 17), some (mI ((i : Int)))] [mI (μ 19 (i)), mR 82] (mkh μ c s) _
        refine rn_aload_n (k' := 33) rfl rfl rfl ?_
        refine rn_getR (k' := 34) rfl rfl K0_17 (by decide) rfl R0_17_3 ?_
        refine rn_iload_n (k' := 35) rfl rfl rfl ?_
        refine rn_iaload (k' := 36) rfl rfl K0_20 (by omega) (by omega) ?_
        show Rn PT none kX0_followLine 36 [some (mR 82), some (mR 17), some (mI ((i : Int)))] [mI (μ 20 (i)), mI (μ 19 (i)), mR 82] (mkh μ c s) _
        refine rn_callP (k' := 37) (y := 7) (vs := [mR 82, mI (μ 19 (i)), mI (μ 20 (i))]) (S' := []) (v := some (mI (3))) (h' := mkh μ c s) rfl rfl rfl (by rw [eh]; exact hmv) ?_
        show Rn PT none kX0_followLine 37 [some (mR 82), some (mR 17), some (mI ((i : Int)))] [mI (3)] (mkh μ c s) _
        refine rn_iret rfl (Or.inl rfl) ?_
        rfl
      · exfalso; omega
    · rw [if_neg cc, if_neg cc] at hmv
      rw [jl_13y cc]
      refine ⟨m_set μ 85 h (μ 85 h + μ 20 i), ⟨?_, fr.refl.set (by omega)⟩, ?_⟩
      · refine congrArg (fun z => (μ 83 0, μ 84, z, μ 83 3, μ 83 4, μ 82 7)) ?_
        rw [row_set_eq]
      refine ⟨_, PT_13, Nat.le_of_ble_eq_true rfl, ?_⟩
      show Rn PT none kX0_followLine 0 [some (mR 82), some (mR 17), some (mI ((i : Int)))] [] (mkh μ c s) _
      refine rn_aload_n (k' := 1) rfl rfl rfl ?_
      refine rn_getR (k' := 2) rfl rfl K0_17 (by decide) rfl R0_17_1 ?_
      refine rn_iload_n (k' := 3) rfl rfl rfl ?_
      refine rn_iaload (k' := 4) rfl rfl K0_18 (by omega) (by omega) ?_
      show Rn PT none kX0_followLine 4 [some (mR 82), some (mR 17), some (mI ((i : Int)))] [mI (μ 18 (i))] (mkh μ c s) _
      rcases (show (μ 18 (i) < 11 ∨ 14 < μ 18 (i)) ∨ μ 18 (i) = 11 ∨ μ 18 (i) = 12 ∨ μ 18 (i) = 13 ∨ μ 18 (i) = 14 by omega) with hs1 | hs1 | hs1 | hs1 | hs1
      · exfalso; omega
      · exfalso; omega
      · exfalso; omega
      · refine rn_swI (j := 2) (t' := 27) rfl (by omega) rfl ?_
        refine rn_aload_n (k' := 28) rfl rfl rfl ?_
        refine rn_aload_n (k' := 29) rfl rfl rfl ?_
        refine rn_getR (k' := 30) rfl rfl K0_17 (by decide) rfl R0_17_2 ?_
        refine rn_iload_n (k' := 31) rfl rfl rfl ?_
        refine rn_iaload (k' := 32) rfl rfl K0_19 (by omega) (by omega) ?_
        show Rn PT none kX0_followLine 32 [some (mR 82), some (mR 17), some (mI ((i : Int)))] [mI (μ 19 (i)), mR 82] (mkh μ c s) _
        refine rn_aload_n (k' := 33) rfl rfl rfl ?_
        refine rn_getR (k' := 34) rfl rfl K0_17 (by decide) rfl R0_17_3 ?_
        refine rn_iload_n (k' := 35) rfl rfl rfl ?_
        refine rn_iaload (k' := 36) rfl rfl K0_20 (by omega) (by omega) ?_
        show Rn PT none kX0_followLine 36 [some (mR 82), some (mR 17), some (mI ((i : Int)))] [mI (μ 20 (i)), mI (μ 19 (i)), mR 82] (mkh μ c s) _
        refine rn_callP (k' := 37) (y := 7) (vs := [mR 82, mI (μ 19 (i)), mI (μ 20 (i))]) (S' := []) (v := some (mI (0))) (h' := mkh (m_set μ 85 h (μ 85 h + μ 20 i)) c s) rfl rfl rfl (by rw [eh]; exact hmv) ?_
        show Rn PT none kX0_followLine 37 [some (mR 82), some (mR 17), some (mI ((i : Int)))] [mI (0)] (mkh (m_set μ 85 h (μ 85 h + μ 20 i)) c s) _
        refine rn_iret rfl (Or.inl rfl) ?_
        rfl
      · exfalso; omega
  · have hmv := c_X0_dawn (μ := μ) (c := c) (s := s) a1
    rw [hw]
    by_cases cc : 29 ≤ μ 83 0
    · rw [if_pos cc, if_pos cc] at hmv
      rw [jl_14n cc]
      refine ⟨μ, ⟨rfl, fr.refl⟩, ?_⟩
      refine ⟨_, PT_13, Nat.le_of_ble_eq_true rfl, ?_⟩
      show Rn PT none kX0_followLine 0 [some (mR 82), some (mR 17), some (mI ((i : Int)))] [] (mkh μ c s) _
      refine rn_aload_n (k' := 1) rfl rfl rfl ?_
      refine rn_getR (k' := 2) rfl rfl K0_17 (by decide) rfl R0_17_1 ?_
      refine rn_iload_n (k' := 3) rfl rfl rfl ?_
      refine rn_iaload (k' := 4) rfl rfl K0_18 (by omega) (by omega) ?_
      show Rn PT none kX0_followLine 4 [some (mR 82), some (mR 17), some (mI ((i : Int)))] [mI (μ 18 (i))] (mkh μ c s) _
      rcases (show (μ 18 (i) < 11 ∨ 14 < μ 18 (i)) ∨ μ 18 (i) = 11 ∨ μ 18 (i) = 12 ∨ μ 18 (i) = 13 ∨ μ 18 (i) = 14 by omega) with hs1 | hs1 | hs1 | hs1 | hs1
      · exfalso; omega
      · exfalso; omega
      · exfalso; omega
      · exfalso; omega
      · refine rn_swI (j := 3) (t' := 38) rfl (by omega) rfl ?_
        refine rn_aload_n (k' := 39) rfl rfl rfl ?_
        refine rn_callP (k' := 40) (y := 8) (vs := [mR 82]) (S' := []) (v := some (mI (4))) (h' := mkh μ c s) rfl rfl rfl (hmv) ?_
        show Rn PT none kX0_followLine 40 [some (mR 82), some (mR 17), some (mI ((i : Int)))] [mI (4)] (mkh μ c s) _
        refine rn_iret rfl (Or.inl rfl) ?_
        rfl
    · rw [if_neg cc, if_neg cc] at hmv
      rw [jl_14y cc]
      refine ⟨m_set μ 83 0 (μ 83 0 + 1), ⟨rfl, fr.refl.set (by omega)⟩, ?_⟩
      refine ⟨_, PT_13, Nat.le_of_ble_eq_true rfl, ?_⟩
      show Rn PT none kX0_followLine 0 [some (mR 82), some (mR 17), some (mI ((i : Int)))] [] (mkh μ c s) _
      refine rn_aload_n (k' := 1) rfl rfl rfl ?_
      refine rn_getR (k' := 2) rfl rfl K0_17 (by decide) rfl R0_17_1 ?_
      refine rn_iload_n (k' := 3) rfl rfl rfl ?_
      refine rn_iaload (k' := 4) rfl rfl K0_18 (by omega) (by omega) ?_
      show Rn PT none kX0_followLine 4 [some (mR 82), some (mR 17), some (mI ((i : Int)))] [mI (μ 18 (i))] (mkh μ c s) _
      rcases (show (μ 18 (i) < 11 ∨ 14 < μ 18 (i)) ∨ μ 18 (i) = 11 ∨ μ 18 (i) = 12 ∨ μ 18 (i) = 13 ∨ μ 18 (i) = 14 by omega) with hs1 | hs1 | hs1 | hs1 | hs1
      · exfalso; omega
      · exfalso; omega
      · exfalso; omega
      · exfalso; omega
      · refine rn_swI (j := 3) (t' := 38) rfl (by omega) rfl ?_
        refine rn_aload_n (k' := 39) rfl rfl rfl ?_
        refine rn_callP (k' := 40) (y := 8) (vs := [mR 82]) (S' := []) (v := some (mI (0))) (h' := mkh (m_set μ 83 0 (μ 83 0 + 1)) c s) rfl rfl rfl (hmv) ?_
        show Rn PT none kX0_followLine 40 [some (mR 82), some (mR 17), some (mI ((i : Int)))] [mI (0)] (mkh (m_set μ 83 0 (μ 83 0 + 1)) c s) _
        refine rn_iret rfl (Or.inl rfl) ?_
        rfl
  · have hn := p5 hw
    rw [hw]
    by_cases cc : μ 83 3 = -1
    · rw [jl_15n cc]
      refine ⟨μ, ⟨rfl, fr.refl⟩, ?_⟩
      refine ⟨_, PT_13, Nat.le_of_ble_eq_true rfl, ?_⟩
      show Rn PT none kX0_followLine 0 [some (mR 82), some (mR 17), some (mI ((i : Int)))] [] (mkh μ c s) _
      refine rn_aload_n (k' := 1) rfl rfl rfl ?_
      refine rn_getR (k' := 2) rfl rfl K0_17 (by decide) rfl R0_17_1 ?_
      refine rn_iload_n (k' := 3) rfl rfl rfl ?_
      refine rn_iaload (k' := 4) rfl rfl K0_18 (by omega) (by omega) ?_
      show Rn PT none kX0_followLine 4 [some (mR 82), some (mR 17), some (mI ((i : Int)))] [mI (μ 18 (i))] (mkh μ c s) _
      rcases (show (μ 18 (i) < 11 ∨ 14 < μ 18 (i)) ∨ μ 18 (i) = 11 ∨ μ 18 (i) = 12 ∨ μ 18 (i) = 13 ∨ μ 18 (i) = 14 by omega) with hs1 | hs1 | hs1 | hs1 | hs1
      · refine rn_swO rfl hs1 ?_
        refine rn_aload_n (k' := 42) rfl rfl rfl ?_
        refine rn_aload_n (k' := 43) rfl rfl rfl ?_
        refine rn_getR (k' := 44) rfl rfl K0_17 (by decide) rfl R0_17_3 ?_
        refine rn_iload_n (k' := 45) rfl rfl rfl ?_
        refine rn_iaload (k' := 46) rfl rfl K0_20 (by omega) (by omega) ?_
        show Rn PT none kX0_followLine 46 [some (mR 82), some (mR 17), some (mI ((i : Int)))] [mI (μ 20 (i)), mR 82] (mkh μ c s) _
        refine rn_callP (k' := 47) (y := 9) (vs := [mR 82, mI (μ 20 (i))]) (S' := []) (v := some (mI (5))) (h' := mkh μ c s) rfl rfl rfl (c_hunt_no cc) ?_
        show Rn PT none kX0_followLine 47 [some (mR 82), some (mR 17), some (mI ((i : Int)))] [mI (5)] (mkh μ c s) _
        refine rn_iret rfl (Or.inl rfl) ?_
        rfl
      · exfalso; omega
      · exfalso; omega
      · exfalso; omega
      · exfalso; omega
    · rw [jl_15y cc]
      obtain ⟨R, eR⟩ := Int.eq_ofNat_of_zero_le (show 0 ≤ μ 20 i by omega)
      obtain ⟨M_, e1, e2, n, r, e3, O, F, q, A, C, e4, e5, e6⟩ := c_hunt (μ := μ) (c := c) (s := s) hL a1 (B := T) (by omega) (jOK.hOK ⟨a1, a2, a3, a4, a5, a6⟩ cc) (R := R) (by omega)
      have hmv : Cl PT 9 [mR 82, mI (R : Int)] (mkh μ c s) (fun r => r = (some (some (mI 0)), mkh (m_upd (m_upd (m_upd (m_upd (m_upd μ 67 O) 68 F) 69 q) 83 A) 85 C) c s)) := ⟨M_, e1, e2, n, r, e3, e4⟩
      have eh : jhu μ (μ 20 i) (tr μ) = (C, A 3, A 4) := by rw [← e6, eR]; rfl
      rw [eh]
      refine ⟨(m_upd (m_upd (m_upd (m_upd (m_upd μ 67 O) 68 F) 69 q) 83 A) 85 C), ⟨?_, ((((fr.refl.upd (by omega)).upd (by omega)).upd (by omega)).upd (by omega)).upd (by omega)⟩, ?_⟩
      · show (A 0, _, _, _, _, _) = _
        rw [e5]
        rfl
      refine ⟨_, PT_13, Nat.le_of_ble_eq_true rfl, ?_⟩
      show Rn PT none kX0_followLine 0 [some (mR 82), some (mR 17), some (mI ((i : Int)))] [] (mkh μ c s) _
      refine rn_aload_n (k' := 1) rfl rfl rfl ?_
      refine rn_getR (k' := 2) rfl rfl K0_17 (by decide) rfl R0_17_1 ?_
      refine rn_iload_n (k' := 3) rfl rfl rfl ?_
      refine rn_iaload (k' := 4) rfl rfl K0_18 (by omega) (by omega) ?_
      show Rn PT none kX0_followLine 4 [some (mR 82), some (mR 17), some (mI ((i : Int)))] [mI (μ 18 (i))] (mkh μ c s) _
      rcases (show (μ 18 (i) < 11 ∨ 14 < μ 18 (i)) ∨ μ 18 (i) = 11 ∨ μ 18 (i) = 12 ∨ μ 18 (i) = 13 ∨ μ 18 (i) = 14 by omega) with hs1 | hs1 | hs1 | hs1 | hs1
      · refine rn_swO rfl hs1 ?_
        refine rn_aload_n (k' := 42) rfl rfl rfl ?_
        refine rn_aload_n (k' := 43) rfl rfl rfl ?_
        refine rn_getR (k' := 44) rfl rfl K0_17 (by decide) rfl R0_17_3 ?_
        refine rn_iload_n (k' := 45) rfl rfl rfl ?_
        refine rn_iaload (k' := 46) rfl rfl K0_20 (by omega) (by omega) ?_
        show Rn PT none kX0_followLine 46 [some (mR 82), some (mR 17), some (mI ((i : Int)))] [mI (μ 20 (i)), mR 82] (mkh μ c s) _
        refine rn_callP (k' := 47) (y := 9) (vs := [mR 82, mI (μ 20 (i))]) (S' := []) (v := some (mI (0))) (h' := mkh (m_upd (m_upd (m_upd (m_upd (m_upd μ 67 O) 68 F) 69 q) 83 A) 85 C) c s) rfl rfl rfl (by rw [eR]; exact hmv) ?_
        show Rn PT none kX0_followLine 47 [some (mR 82), some (mR 17), some (mI ((i : Int)))] [mI (0)] (mkh (m_upd (m_upd (m_upd (m_upd (m_upd μ 67 O) 68 F) 69 q) 83 A) 85 C) c s) _
        refine rn_iret rfl (Or.inl rfl) ?_
        rfl
      · exfalso; omega
      · exfalso; omega
      · exfalso; omega
      · exfalso; omega
