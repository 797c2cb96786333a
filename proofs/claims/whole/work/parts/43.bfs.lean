/-! ===== the search in breadth, as pure numbers: how far (-1: not come to), the row of cells, how many ===== -/
def fs (f : Nat → Int) (i : Nat) (v : Int) : Nat → Int := fun j => if j = i then v else f j
theorem fs_eq {f : Nat → Int} {i : Nat} {v : Int} : fs f i v i = v := by unfold fs; rw [if_pos rfl]
theorem fs_ne {f : Nat → Int} {i j : Nat} {v : Int} (h : ¬ j = i) : fs f i v j = f j := by unfold fs; rw [if_neg h]
theorem set_upd_eq {μ : Nat → Nat → Int} {a i : Nat} {f : Nat → Int} {v : Int} : m_set (m_upd μ a f) a i v = m_upd μ a (fs f i v) := by
  funext a' j
  unfold m_set m_upd fs
  by_cases h : a' = a
  · subst h
    by_cases h2 : j = i
    · simp [h2]
    · simp [h2]
  · simp [h]
theorem set_upd_ne {μ : Nat → Nat → Int} {a b i : Nat} {f : Nat → Int} {v : Int} (h : ¬ a = b) : m_set (m_upd μ b f) a i v = m_upd (m_set μ a i v) b f := by
  funext a' j
  unfold m_set m_upd
  by_cases h1 : a' = b
  · subst h1
    rw [if_neg (fun z => h z.1.symm), if_pos rfl, if_pos rfl]
  · simp [h1]
theorem set_is_upd {μ : Nat → Nat → Int} {a i : Nat} {v : Int} : m_set μ a i v = m_upd μ a (fs (μ a) i v) := by
  funext a' j
  unfold m_set m_upd fs
  by_cases h : a' = a
  · subst h
    by_cases h2 : j = i
    · simp [h2]
    · simp [h2]
  · simp [h]
theorem upd_self {μ : Nat → Nat → Int} {a : Nat} : m_upd μ a (μ a) = μ := by
  funext a' j
  unfold m_upd
  by_cases h : a' = a
  · subst h; simp
  · simp [h]
theorem upd_upd {μ : Nat → Nat → Int} {a : Nat} {f g : Nat → Int} : m_upd (m_upd μ a f) a g = m_upd μ a g := by
  funext a' j
  unfold m_upd
  by_cases h : a' = a
  · simp [h]
  · simp [h]
abbrev bSt : Type := (Nat → Int) × (Nat → Int) × Nat
def b_dir (nb : Int → Int → Int) (O : Int → Prop) [DecidablePred O] (a d : Int) (st : bSt) : bSt :=
  if ¬ nb a d = -1 ∧ O (nb a d) ∧ st.1 (nb a d).toNat = -1 then (fs st.1 (nb a d).toNat (st.1 a.toNat + 1), fs st.2.1 st.2.2 (nb a d), st.2.2 + 1) else st
def b_dirs (nb : Int → Int → Int) (O : Int → Prop) [DecidablePred O] (a : Int) (st : bSt) : Nat → bSt
  | 0 => st
  | n + 1 => b_dir nb O a n (b_dirs nb O a st n)
def b_at (nb : Int → Int → Int) (O : Int → Prop) [DecidablePred O] (st : bSt) : Nat → bSt
  | 0 => st
  | n + 1 => if n < (b_at nb O st n).2.2 then b_dirs nb O ((b_at nb O st n).2.1 n) (b_at nb O st n) 4 else b_at nb O st n
def b_init (a : Int) : bSt := (fun j => if j = a.toNat then 0 else -1, fun _ => a, 1)
def bfs (nb : Int → Int → Int) (O : Int → Prop) [DecidablePred O] (a : Int) : bSt := b_at nb O (b_init a) 100
/-- how many are come to -/
def cn (F : Nat → Int) : Nat → Nat
  | 0 => 0
  | n + 1 => cn F n + (if F n = -1 then 0 else 1)
theorem cn_le (F : Nat → Int) : ∀ n, cn F n ≤ n
  | 0 => Nat.le_refl 0
  | n + 1 => by
    have := cn_le F n
    unfold cn
    split <;> omega
theorem cn_lt {F : Nat → Int} {x : Nat} (h : F x = -1) : ∀ n, x < n → cn F n < n
  | 0, hx => by omega
  | n + 1, hx => by
    unfold cn
    by_cases e : x = n
    · subst e
      have := cn_le F x
      rw [if_pos h]; omega
    · have := cn_lt h n (by omega)
      split <;> omega
theorem cn_fs_ge {F : Nat → Int} {x : Nat} {v : Int} : ∀ n, n ≤ x → cn (fs F x v) n = cn F n
  | 0, _ => rfl
  | n + 1, hx => by
    unfold cn
    rw [cn_fs_ge n (by omega), fs_ne (by omega)]
theorem cn_fs {F : Nat → Int} {x : Nat} {v : Int} (h : F x = -1) (hv : ¬ v = -1) : ∀ n, x < n → cn (fs F x v) n = cn F n + 1
  | 0, hx => by omega
  | n + 1, hx => by
    unfold cn
    by_cases e : x = n
    · subst e
      rw [cn_fs_ge x (Nat.le_refl x), fs_eq, if_neg hv, if_pos h]
    · rw [cn_fs h hv n (by omega), fs_ne (fun z => e z.symm)]; omega
theorem cn_congr {F G : Nat → Int} : ∀ n, (∀ j, j < n → (F j = -1 ↔ G j = -1)) → cn F n = cn G n
  | 0, _ => rfl
  | n + 1, h => by
    unfold cn
    rw [cn_congr n (fun j hj => h j (by omega))]
    by_cases e : G n = -1
    · rw [if_pos e, if_pos ((h n (by omega)).mpr e)]
    · rw [if_neg e, if_neg (fun z => e ((h n (by omega)).mp z))]
/-- the grid: neighbours of a cell are none or a cell -/
abbrev GR (nb : Int → Int → Int) (G : Int → Prop) : Prop := (∀ x, G x → 0 ≤ x ∧ x < 100) ∧ ∀ a d, G a → 0 ≤ d → d ≤ 3 → nb a d = -1 ∨ G (nb a d)
def b_ok (G : Int → Prop) (st : bSt) : Prop := (1 ≤ st.2.2 ∧ st.2.2 ≤ 100) ∧ (∀ j, j < st.2.2 → G (st.2.1 j)) ∧ (∀ j, -1 ≤ st.1 j ∧ st.1 j < st.2.2) ∧ cn st.1 100 = st.2.2 ∧ (∀ j, j < st.2.2 → ¬ st.1 (st.2.1 j).toNat = -1)
theorem b_dir_ok {nb : Int → Int → Int} {O : Int → Prop} [DecidablePred O] {G : Int → Prop} (hg : GR nb G) {a d : Int} {st : bSt} (ha : G a) (hd : 0 ≤ d ∧ d ≤ 3) (hv : ¬ st.1 a.toNat = -1) (h : b_ok G st) : b_ok G (b_dir nb O a d st) ∧ ¬ (b_dir nb O a d st).1 a.toNat = -1 ∧ st.2.2 ≤ (b_dir nb O a d st).2.2 ∧ (∀ j, j < st.2.2 → (b_dir nb O a d st).2.1 j = st.2.1 j) := by
  obtain ⟨⟨h1, h2⟩, h3, h4, h5, h6⟩ := h
  unfold b_dir
  by_cases hc : ¬ nb a d = -1 ∧ O (nb a d) ∧ st.1 (nb a d).toNat = -1
  · rw [if_pos hc]
    obtain ⟨c1, c2, c3⟩ := hc
    have hG : G (nb a d) := (hg.2 a d ha hd.1 hd.2).resolve_left c1
    have hx := hg.1 _ hG
    have ha' := h4 a.toNat
    have hlt : cn st.1 100 < 100 := cn_lt c3 100 (by omega)
    have hne : ¬ a.toNat = (nb a d).toNat := fun z => hv (by rw [z]; exact c3)
    refine ⟨⟨⟨by show 1 ≤ st.2.2 + 1; omega, by show st.2.2 + 1 ≤ 100; omega⟩, ?_, ?_, ?_, ?_⟩, ?_, by show st.2.2 ≤ st.2.2 + 1; omega, ?_⟩
    · intro j hj
      have hj' : j < st.2.2 + 1 := hj
      show G (fs st.2.1 st.2.2 (nb a d) j)
      by_cases e : j = st.2.2
      · rw [e, fs_eq]; exact hG
      · rw [fs_ne e]; exact h3 j (by omega)
    · intro j
      show -1 ≤ fs st.1 (nb a d).toNat (st.1 a.toNat + 1) j ∧ fs st.1 (nb a d).toNat (st.1 a.toNat + 1) j < ((st.2.2 + 1 : Nat) : Int)
      by_cases e : j = (nb a d).toNat
      · rw [e, fs_eq]; omega
      · rw [fs_ne e]; have := h4 j; omega
    · show cn (fs st.1 (nb a d).toNat (st.1 a.toNat + 1)) 100 = st.2.2 + 1
      rw [cn_fs c3 (by omega) 100 (by omega), h5]
    · intro j hj
      have hj' : j < st.2.2 + 1 := hj
      show ¬ fs st.1 (nb a d).toNat (st.1 a.toNat + 1) (fs st.2.1 st.2.2 (nb a d) j).toNat = -1
      by_cases e : j = st.2.2
      · rw [e, fs_eq, fs_eq]; omega
      · rw [fs_ne e]
        by_cases e2 : (st.2.1 j).toNat = (nb a d).toNat
        · rw [e2, fs_eq]; omega
        · rw [fs_ne e2]; exact h6 j (by omega)
    · show ¬ fs st.1 (nb a d).toNat (st.1 a.toNat + 1) a.toNat = -1
      rw [fs_ne hne]; exact hv
    · intro j hj
      show fs st.2.1 st.2.2 (nb a d) j = st.2.1 j
      rw [fs_ne (by omega)]
  · rw [if_neg hc]
    exact ⟨⟨⟨h1, h2⟩, h3, h4, h5, h6⟩, hv, Nat.le_refl _, fun _ _ => rfl⟩
theorem b_dirs_ok {nb : Int → Int → Int} {O : Int → Prop} [DecidablePred O] {G : Int → Prop} (hg : GR nb G) {a : Int} {st : bSt} (ha : G a) (hv : ¬ st.1 a.toNat = -1) (h : b_ok G st) : ∀ n, n ≤ 4 → b_ok G (b_dirs nb O a st n) ∧ ¬ (b_dirs nb O a st n).1 a.toNat = -1 ∧ st.2.2 ≤ (b_dirs nb O a st n).2.2 ∧ (∀ j, j < st.2.2 → (b_dirs nb O a st n).2.1 j = st.2.1 j)
  | 0, _ => ⟨h, hv, Nat.le_refl _, fun _ _ => rfl⟩
  | n + 1, hn => by
    obtain ⟨i1, i2, i3, i4⟩ := b_dirs_ok (O := O) hg ha hv h n (by omega)
    obtain ⟨j1, j2, j3, j4⟩ := b_dir_ok (O := O) hg (d := n) ha (by omega) i2 i1
    exact ⟨j1, j2, Nat.le_trans i3 j3, fun j hj => (j4 j (by omega)).trans (i4 j hj)⟩
theorem b_at_ok {nb : Int → Int → Int} {O : Int → Prop} [DecidablePred O] {G : Int → Prop} (hg : GR nb G) {st : bSt} (h : b_ok G st) : ∀ n, b_ok G (b_at nb O st n)
  | 0 => h
  | n + 1 => by
    have ih := b_at_ok (O := O) hg h n
    unfold b_at
    by_cases hc : n < (b_at nb O st n).2.2
    · rw [if_pos hc]
      exact (b_dirs_ok hg (ih.2.1 n hc) (ih.2.2.2.2 n hc) ih 4 (by omega)).1
    · rw [if_neg hc]; exact ih
theorem b_init_ok {nb : Int → Int → Int} {G : Int → Prop} (hg : GR nb G) {a : Int} (ha : G a) : b_ok G (b_init a) := by
  have hx := hg.1 a ha
  refine ⟨⟨Nat.le_refl 1, by show 1 ≤ 100; decide⟩, fun j _ => ha, ?_, ?_, ?_⟩
  · intro j
    show -1 ≤ (if j = a.toNat then (0 : Int) else -1) ∧ (if j = a.toNat then (0 : Int) else -1) < ((1 : Nat) : Int)
    split <;> omega
  · show cn (fun j => if j = a.toNat then (0 : Int) else -1) 100 = 1
    have e : (fun j : Nat => if j = a.toNat then (0 : Int) else -1) = fs (fun _ => -1) a.toNat 0 := rfl
    rw [e, cn_fs (F := fun _ => -1) (x := a.toNat) (v := 0) rfl (by decide) 100 (by omega)]
    rfl
  · intro j _
    show ¬ (if a.toNat = a.toNat then (0 : Int) else -1) = -1
    rw [if_pos rfl]; decide
theorem bfs_ok {nb : Int → Int → Int} {O : Int → Prop} [DecidablePred O] {G : Int → Prop} (hg : GR nb G) {a : Int} (ha : G a) : b_ok G (bfs nb O a) := b_at_ok hg (b_init_ok hg ha) 100
/-- from where the row is worked off, nothing changes -/
theorem b_at_stop {nb : Int → Int → Int} {O : Int → Prop} [DecidablePred O] {st : bSt} {n : Nat} (h : (b_at nb O st n).2.2 ≤ n) : ∀ m, b_at nb O st (n + m) = b_at nb O st n
  | 0 => rfl
  | m + 1 => by
    show (if n + m < (b_at nb O st (n + m)).2.2 then _ else b_at nb O st (n + m)) = _
    rw [b_at_stop h m, if_neg (by omega)]
