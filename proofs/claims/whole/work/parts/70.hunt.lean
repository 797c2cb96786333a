variable {N : Int}
/-! ===== printed by wip/whole/gen70.py: the wolf's nights, pure ===== -/
/-- the first of the least among those that are not -1; -1 where there is none -/
def ba (f : Nat → Int) : Nat → Int
  | 0 => -1
  | n + 1 => if ¬ f n = -1 ∧ (ba f n = -1 ∨ f n < f (ba f n).toNat) then (n : Int) else ba f n
theorem ba_pos {f : Nat → Int} {n : Nat} (h : ¬ f n = -1 ∧ (ba f n = -1 ∨ f n < f (ba f n).toNat)) : ba f (n + 1) = (n : Int) := if_pos h
theorem ba_neg {f : Nat → Int} {n : Nat} (h : ¬ (¬ f n = -1 ∧ (ba f n = -1 ∨ f n < f (ba f n).toNat))) : ba f (n + 1) = ba f n := if_neg h
theorem ba_b {f : Nat → Int} : ∀ n : Nat, -1 ≤ ba f n ∧ ba f n < n
  | 0 => by show (-1 : Int) ≤ -1 ∧ (-1 : Int) < ((0 : Nat) : Int); decide
  | n + 1 => by
    have ih := ba_b (f := f) n
    by_cases h : ¬ f n = -1 ∧ (ba f n = -1 ∨ f n < f (ba f n).toNat)
    · rw [ba_pos h]; omega
    · rw [ba_neg h]; omega
theorem ba_el {f : Nat → Int} : ∀ n : Nat, ¬ ba f n = -1 → ¬ f (ba f n).toNat = -1
  | 0, h => absurd rfl h
  | n + 1, h => by
    by_cases hc : ¬ f n = -1 ∧ (ba f n = -1 ∨ f n < f (ba f n).toNat)
    · rw [ba_pos hc]; exact hc.1
    · rw [ba_neg hc] at h ⊢; exact ba_el n h
theorem ba_none {f : Nat → Int} : ∀ n : Nat, ba f n = -1 → ∀ j, j < n → f j = -1
  | 0, _, j, hj => by omega
  | n + 1, h, j, hj => by
    by_cases hc : ¬ f n = -1 ∧ (ba f n = -1 ∨ f n < f (ba f n).toNat)
    · rw [ba_pos hc] at h; omega
    · rw [ba_neg hc] at h
      by_cases e : j = n
      · subst e
        exact Classical.byContradiction (fun z => hc ⟨z, Or.inl h⟩)
      · exact ba_none n h j (by omega)
theorem ba_min {f : Nat → Int} : ∀ n : Nat, ∀ j, j < n → ¬ f j = -1 → ¬ ba f n = -1 ∧ f (ba f n).toNat ≤ f j ∧ ((j : Int) < ba f n → f (ba f n).toNat < f j)
  | 0, j, hj, _ => by omega
  | n + 1, j, hj, hf => by
    by_cases hc : ¬ f n = -1 ∧ (ba f n = -1 ∨ f n < f (ba f n).toNat)
    · rw [ba_pos hc]
      refine ⟨by omega, ?_⟩
      rw [show ((n : Nat) : Int).toNat = n from rfl]
      by_cases e : j = n
      · subst e; exact ⟨Int.le_refl _, fun z => by omega⟩
      · have ih := ba_min n j (by omega) hf
        rcases hc.2 with h | h
        · exact absurd h ih.1
        · exact ⟨by omega, fun _ => by omega⟩
    · rw [ba_neg hc]
      by_cases e : j = n
      · subst e
        have h1 : ¬ (ba f j = -1 ∨ f j < f (ba f j).toNat) := fun z => hc ⟨hf, z⟩
        have hb := ba_b (f := f) j
        exact ⟨fun z => h1 (Or.inl z), by omega, fun z => by omega⟩
      · exact ba_min n j (by omega) hf
theorem ba_congr {f g : Nat → Int} : ∀ n : Nat, (∀ j, j < n → f j = g j) → ba f n = ba g n
  | 0, _ => rfl
  | n + 1, h => by
    have ih := ba_congr n (fun j hj => h j (by omega))
    have hb := ba_b (f := g) n
    by_cases hc : ¬ g n = -1 ∧ (ba g n = -1 ∨ g n < g (ba g n).toNat)
    · rw [ba_pos hc, ba_pos]
      rw [ih, h n (by omega)]
      refine ⟨hc.1, ?_⟩
      rcases hc.2 with z | z
      · exact Or.inl z
      · by_cases e : ba g n = -1
        · exact Or.inl e
        · rw [h _ (by omega)]; exact Or.inr z
    · rw [ba_neg hc, ba_neg, ih]
      rw [ih, h n (by omega)]
      intro z
      refine hc ⟨z.1, ?_⟩
      rcases z.2 with y | y
      · exact Or.inl y
      · by_cases e : ba g n = -1
        · exact Or.inl e
        · rw [h _ (by omega)] at y; exact Or.inr y
/-- where the least is 0, the first 0 is found -/
theorem ba_first {f : Nat → Int} {m : Nat} (hf : ∀ j, -1 ≤ f j) (hm : f m = 0) (hn : ∀ j, j < m → ¬ f j = 0) {n : Nat} (h : m < n) : ba f n = (m : Int) := by
  have h1 := ba_min (f := f) n m h (by omega)
  have h2 := ba_b (f := f) n
  have h3 := ba_el n h1.1
  have h4 := hf (ba f n).toNat
  by_cases e : (ba f n).toNat < m
  · exact absurd (show f (ba f n).toNat = 0 by omega) (hn _ e)
  · by_cases e2 : ba f n = (m : Int)
    · exact e2
    · have := h1.2.2 (by omega)
      omega
/-! the search: induction over its steps; 0 at the start alone; all but the start is open -/
theorem b_dirs_ind {nb : Int → Int → Int} {O : Int → Prop} [DecidablePred O] {G : Int → Prop} {P : bSt → Prop} (hg : GR nb G) (hs : ∀ st x (d : Nat), d < 4 → b_ok G st → G x → ¬ st.1 x.toNat = -1 → P st → P (b_dir nb O x d st)) {x : Int} {st : bSt} (hx : G x) (hv : ¬ st.1 x.toNat = -1) (h : b_ok G st) (hP : P st) : ∀ n, n ≤ 4 → P (b_dirs nb O x st n)
  | 0, _ => hP
  | n + 1, hn => by
    have i := b_dirs_ok (O := O) hg hx hv h n (by omega)
    exact hs _ x n (by omega) i.1 hx i.2.1 (b_dirs_ind hg hs hx hv h hP n (by omega))
theorem b_at_ind {nb : Int → Int → Int} {O : Int → Prop} [DecidablePred O] {G : Int → Prop} {P : bSt → Prop} (hg : GR nb G) (hs : ∀ st x (d : Nat), d < 4 → b_ok G st → G x → ¬ st.1 x.toNat = -1 → P st → P (b_dir nb O x d st)) {st : bSt} (h : b_ok G st) (hP : P st) : ∀ n, P (b_at nb O st n)
  | 0 => hP
  | n + 1 => by
    have ok := b_at_ok (O := O) hg h n
    have ih := b_at_ind hg hs h hP n
    unfold b_at
    by_cases hc : n < (b_at nb O st n).2.2
    · rw [if_pos hc]
      exact b_dirs_ind hg hs (ok.2.1 n hc) (ok.2.2.2.2 n hc) ok ih 4 (by omega)
    · rw [if_neg hc]; exact ih
theorem bfs_zero {nb : Int → Int → Int} {O : Int → Prop} [DecidablePred O] {G : Int → Prop} (hg : GR nb G) {a : Int} (ha : G a) : (bfs nb O a).1 a.toNat = 0 ∧ ∀ j, (bfs nb O a).1 j = 0 → j = a.toNat := by
  rw [bfs_eq]
  refine b_at_ind (P := fun st => st.1 a.toNat = 0 ∧ ∀ j, st.1 j = 0 → j = a.toNat) hg ?_ (b_init_ok hg ha) ?_ 100
  · intro st x d hd ok hx hv hP
    unfold b_dir
    by_cases hc : ¬ nb x d = -1 ∧ O (nb x d) ∧ st.1 (nb x d).toNat = -1
    · rw [if_pos hc]
      have h4 := ok.2.2.1 x.toNat
      refine ⟨?_, fun j hj => ?_⟩
      · show fs st.1 (nb x d).toNat (st.1 x.toNat + 1) a.toNat = 0
        rw [fs_ne (fun z => by rw [← z] at hc; have := hP.1; omega)]
        exact hP.1
      · have hj' : fs st.1 (nb x d).toNat (st.1 x.toNat + 1) j = 0 := hj
        by_cases e : j = (nb x d).toNat
        · rw [e, fs_eq] at hj'; omega
        · rw [fs_ne e] at hj'; exact hP.2 j hj'
    · rw [if_neg hc]; exact hP
  · refine ⟨?_, fun j hj => ?_⟩
    · show (if a.toNat = a.toNat then (0 : Int) else -1) = 0
      rw [if_pos rfl]
    · have hj' : (if j = a.toNat then (0 : Int) else -1) = 0 := hj
      by_cases e : j = a.toNat
      · exact e
      · rw [if_neg e] at hj'; omega
theorem bfs_open {nb : Int → Int → Int} {O : Int → Prop} [DecidablePred O] {G : Int → Prop} (hg : GR nb G) {a x : Int} (ha : G a) (hx : G x) (hv : b_vis (bfs nb O a) x) : x = a ∨ O x := bfs_least (S := fun x => x = a ∨ O x) hg ha (Or.inl rfl) (fun _ _ _ _ _ _ h => Or.inr h) hx hv
theorem nb_sym {μ : Nat → Nat → Int} (hL : I_land μ) {x : Int} {d : Nat} (hx : g_cell μ x) (hd : d < 4) (h : ¬ g_nb μ x d = -1) : ∃ e : Nat, e < 4 ∧ g_nb μ (g_nb μ x d) e = x := by
  have hb := g_cell_b hL hx
  have hy := ((g_GR hL).2 x d hx (by omega) (by omega)).resolve_left h
  have hyb := g_cell_b hL hy
  have e1 := td10 hb.1
  have e2 := td10 hyb.1
  obtain ⟨x0, x1, x2⟩ := hx
  rw [e1.2] at x1
  rw [e1.1] at x2
  rcases (show d = 0 ∨ d = 1 ∨ d = 2 ∨ d = 3 by omega) with rfl | rfl | rfl | rfl
  · have e3 : g_nb μ x ((0 : Nat) : Int) = if 0 < x.tdiv 10 then x - 10 else -1 := rfl
    rw [e3] at h e2 hyb ⊢
    by_cases c : 0 < x.tdiv 10
    · rw [if_pos c] at e2 hyb ⊢
      refine ⟨2, by decide, ?_⟩
      show (if (x - 10).tdiv 10 + 1 < μ 6 9 then x - 10 + 10 else -1) = x
      rw [if_pos (by omega)]; omega
    · rw [if_neg c] at h; exact absurd rfl h
  · have e3 : g_nb μ x ((1 : Nat) : Int) = if x.tmod 10 + 1 < μ 6 8 then x + 1 else -1 := rfl
    rw [e3] at h e2 hyb ⊢
    by_cases c : x.tmod 10 + 1 < μ 6 8
    · rw [if_pos c] at e2 hyb ⊢
      refine ⟨3, by decide, ?_⟩
      have lc := hL.1
      show (if 0 < (x + 1).tmod 10 then x + 1 - 1 else -1) = x
      rw [if_pos (by omega)]; omega
    · rw [if_neg c] at h; exact absurd rfl h
  · have e3 : g_nb μ x ((2 : Nat) : Int) = if x.tdiv 10 + 1 < μ 6 9 then x + 10 else -1 := rfl
    rw [e3] at h e2 hyb ⊢
    by_cases c : x.tdiv 10 + 1 < μ 6 9
    · rw [if_pos c] at e2 hyb ⊢
      refine ⟨0, by decide, ?_⟩
      show (if 0 < (x + 10).tdiv 10 then x + 10 - 10 else -1) = x
      rw [if_pos (by omega)]; omega
    · rw [if_neg c] at h; exact absurd rfl h
  · have e3 : g_nb μ x ((3 : Nat) : Int) = if 0 < x.tmod 10 then x - 1 else -1 := rfl
    rw [e3] at h e2 hyb ⊢
    by_cases c : 0 < x.tmod 10
    · rw [if_pos c] at e2 hyb ⊢
      refine ⟨1, by decide, ?_⟩
      show (if (x - 1).tmod 10 + 1 < μ 6 8 then x - 1 + 1 else -1) = x
      rw [if_pos (by omega)]; omega
    · rw [if_neg c] at h; exact absurd rfl h
/-! the wolf -/
def wF (μ : Nat → Nat → Int) (W a : Int) : Nat → Int := (bfs (g_nb μ) (fun z => g_dep μ z W ≤ μ 6 15) a).1
theorem wF_rows {μ ν : Nat → Nat → Int} (e6 : ν 6 = μ 6) (e7 : ν 7 = μ 7) : wF ν = wF μ := by
  delta wF g_nb g_dep
  rw [e6, e7]
theorem wF_b {μ : Nat → Nat → Int} (hL : I_land μ) {W a : Int} (ha : g_cell μ a) (j : Nat) : -1 ≤ wF μ W a j ∧ wF μ W a j ≤ 100 := by
  have h1 := bfs_ok (O := fun z => g_dep μ z W ≤ μ 6 15) (g_GR hL) ha
  have h2 := h1.2.2.1 j
  have h3 := h1.1
  unfold wF
  omega
theorem wF_zero {μ : Nat → Nat → Int} (hL : I_land μ) {W a x : Int} (ha : g_cell μ a) (hx : g_cell μ x) : wF μ W a x.toNat = 0 ↔ x = a := by
  have h := bfs_zero (O := fun z => g_dep μ z W ≤ μ 6 15) (g_GR hL) ha
  have b1 := g_cell_b hL ha
  have b2 := g_cell_b hL hx
  constructor
  · intro z
    have := h.2 _ z
    omega
  · rintro rfl
    exact h.1
/-- how far in a direction: -1 beyond the edge, or not come to -/
def gdir (μ : Nat → Nat → Int) (G : Nat → Int) (a : Int) (d : Nat) : Int := if g_nb μ a d = -1 then -1 else G (g_nb μ a d).toNat
theorem gdir_rows {μ ν : Nat → Nat → Int} (e6 : ν 6 = μ 6) : gdir ν = gdir μ := by
  delta gdir g_nb
  rw [e6]
theorem hunt_exit {μ : Nat → Nat → Int} (hL : I_land μ) {W w to : Int} (hw : g_cell μ w) (ht : g_cell μ to) (hne : ¬ to = w) (hv : ¬ wF μ W w to.toNat = -1) : ¬ ba (gdir μ (wF μ W to) w) 4 = -1 := by
  intro hn
  have hall := ba_none 4 hn
  have hS : to = w ∨ (g_dep μ to W ≤ μ 6 15 ∧ wF μ W to to.toNat = -1) := by
    refine bfs_least (nb := g_nb μ) (O := fun z => g_dep μ z W ≤ μ 6 15) (G := g_cell μ) (S := fun x => x = w ∨ (g_dep μ x W ≤ μ 6 15 ∧ wF μ W to x.toNat = -1)) (g_GR hL) hw (Or.inl rfl) ?_ ht hv
    intro x hx hSx d hd h1 h2
    refine Or.inr ⟨h2, ?_⟩
    rcases hSx with rfl | ⟨ox, nx⟩
    · have h3 := hall d hd
      unfold gdir at h3
      rw [if_neg h1] at h3
      exact h3
    · refine Classical.byContradiction (fun z => ?_)
      obtain ⟨e, he, hs⟩ := nb_sym hL hx hd h1
      have hy := ((g_GR hL).2 x d hx (by omega) (by omega)).resolve_left h1
      have hc := bfs_closed (O := fun z => g_dep μ z W ≤ μ 6 15) (g_GR hL) ht hy z he (by rw [hs]; have := hx.1; omega) (by rw [hs]; exact ox)
      rw [hs] at hc
      exact hc nx
  rcases hS with h | ⟨_, h⟩
  · exact hne h
  · have := (wF_zero (W := W) hL ht ht).mpr rfl
    omega
abbrev HT : Type := (Nat → Int) × Int × Int
/-- how far the wolf has to a herd with heads -/
def hel (μ : Nat → Nat → Int) (W : Int) (cl : Nat → Int) (st : HT) (j : Nat) : Int := if 0 < st.1 j then wF μ W st.2.1 (cl j).toNat else -1
/-- one round: heads, wolf, taken -/
def hun (μ : Nat → Nat → Int) (W : Int) (cl : Nat → Int) (st : HT) : HT :=
  if ba (hel μ W cl st) (μ 6 13).toNat = -1 then st else
  if cl (ba (hel μ W cl st) (μ 6 13).toNat).toNat = st.2.1 then (fs st.1 (ba (hel μ W cl st) (μ 6 13).toNat).toNat (st.1 (ba (hel μ W cl st) (μ 6 13).toNat).toNat - 1), st.2.1, st.2.2 + 1) else
  (st.1, g_nb μ st.2.1 (ba (gdir μ (wF μ W (cl (ba (hel μ W cl st) (μ 6 13).toNat).toNat)) st.2.1) 4), st.2.2)
def hunt (μ : Nat → Nat → Int) (W : Int) (cl : Nat → Int) (st : HT) : Nat → HT
  | 0 => st
  | n + 1 => hun μ W cl (hunt μ W cl st n)
theorem hel_rows {μ ν : Nat → Nat → Int} (e6 : ν 6 = μ 6) (e7 : ν 7 = μ 7) : hel ν = hel μ := by
  delta hel
  rw [wF_rows e6 e7]
theorem hun_rows {μ ν : Nat → Nat → Int} (e6 : ν 6 = μ 6) (e7 : ν 7 = μ 7) : hun ν = hun μ := by
  delta hun
  rw [hel_rows e6 e7, wF_rows e6 e7, gdir_rows e6, e6]
  delta g_nb
  rw [e6]
theorem hunt_rows {μ ν : Nat → Nat → Int} (e6 : ν 6 = μ 6) (e7 : ν 7 = μ 7) {W : Int} {cl : Nat → Int} {st : HT} : ∀ n, hunt ν W cl st n = hunt μ W cl st n
  | 0 => rfl
  | n + 1 => by
    show hun ν W cl (hunt ν W cl st n) = hun μ W cl (hunt μ W cl st n)
    rw [hunt_rows e6 e7 n, hun_rows e6 e7]
/-- the wolf and the herds are on cells, heads and taken within bounds -/
def hOK (μ : Nat → Nat → Int) (cl : Nat → Int) (B : Int) (st : HT) : Prop := g_cell μ st.2.1 ∧ (∀ j : Nat, (j : Int) < μ 6 13 → 0 ≤ st.1 j ∧ st.1 j ≤ 99) ∧ (0 ≤ st.2.2 ∧ st.2.2 ≤ B) ∧ ∀ j : Nat, (j : Int) < μ 6 13 → g_cell μ (cl j)
theorem hun_stay {μ : Nat → Nat → Int} {W : Int} {cl : Nat → Int} {st : HT} (h : ba (hel μ W cl st) (μ 6 13).toNat = -1) : hun μ W cl st = st := by
  unfold hun
  rw [if_pos h]
theorem hun_take {μ : Nat → Nat → Int} {W : Int} {cl : Nat → Int} {st : HT} {m : Nat} (h : ba (hel μ W cl st) (μ 6 13).toNat = (m : Int)) (h2 : cl m = st.2.1) : hun μ W cl st = (fs st.1 m (st.1 m - 1), st.2.1, st.2.2 + 1) := by
  unfold hun
  rw [h, if_neg (by omega)]
  rw [show ((m : Nat) : Int).toNat = m from rfl, if_pos h2]
theorem hun_go {μ : Nat → Nat → Int} {W : Int} {cl : Nat → Int} {st : HT} {m : Nat} (h : ba (hel μ W cl st) (μ 6 13).toNat = (m : Int)) (h2 : ¬ cl m = st.2.1) : hun μ W cl st = (st.1, g_nb μ st.2.1 (ba (gdir μ (wF μ W (cl m)) st.2.1) 4), st.2.2) := by
  unfold hun
  rw [h, if_neg (by omega)]
  rw [show ((m : Nat) : Int).toNat = m from rfl, if_neg h2]
/-- what is known of the herd that is found -/
theorem hel_found {μ : Nat → Nat → Int} {W : Int} {cl : Nat → Int} {st : HT} {m : Nat} (h : ba (hel μ W cl st) (μ 6 13).toNat = (m : Int)) : (m : Int) < μ 6 13 ∧ 0 < st.1 m ∧ ¬ wF μ W st.2.1 (cl m).toNat = -1 := by
  have h1 := ba_b (f := hel μ W cl st) (μ 6 13).toNat
  have h2 := ba_el (f := hel μ W cl st) (μ 6 13).toNat (by omega)
  rw [h, show ((m : Nat) : Int).toNat = m from rfl] at h2
  unfold hel at h2
  by_cases c : 0 < st.1 m
  · rw [if_pos c] at h2
    exact ⟨by omega, c, h2⟩
  · rw [if_neg c] at h2; exact absurd rfl h2
theorem hun_ok {μ : Nat → Nat → Int} (hL : I_land μ) {W : Int} {cl : Nat → Int} {B : Int} {st : HT} (h : hOK μ cl B st) : hOK μ cl (B + 1) (hun μ W cl st) := by
  obtain ⟨h1, h2, h3, h4⟩ := h
  have h13 := hL.2.2.2.2.2.1
  by_cases hb : ba (hel μ W cl st) (μ 6 13).toNat = -1
  · rw [hun_stay hb]
    exact ⟨h1, h2, ⟨h3.1, by omega⟩, h4⟩
  · have hbb := ba_b (f := hel μ W cl st) (μ 6 13).toNat
    obtain ⟨m, hm⟩ := Int.eq_ofNat_of_zero_le (show 0 ≤ ba (hel μ W cl st) (μ 6 13).toNat by omega)
    obtain ⟨f1, f2, f3⟩ := hel_found hm
    by_cases hc : cl m = st.2.1
    · rw [hun_take hm hc]
      refine ⟨h1, fun j hj => ?_, ⟨by show 0 ≤ st.2.2 + 1; omega, by show st.2.2 + 1 ≤ B + 1; omega⟩, h4⟩
      show 0 ≤ fs st.1 m (st.1 m - 1) j ∧ fs st.1 m (st.1 m - 1) j ≤ 99
      have := h2 j hj
      unfold fs
      by_cases e : j = m
      · rw [if_pos e]; subst e; omega
      · rw [if_neg e]; exact this
    · rw [hun_go hm hc]
      refine ⟨?_, h2, ⟨h3.1, by show st.2.2 ≤ B + 1; omega⟩, h4⟩
      have hx := hunt_exit hL h1 (h4 m f1) hc f3
      have hx2 := ba_el 4 hx
      have hx3 := ba_b (f := gdir μ (wF μ W (cl m)) st.2.1) 4
      have hn : ¬ g_nb μ st.2.1 (ba (gdir μ (wF μ W (cl m)) st.2.1) 4) = -1 := fun z => by
        unfold gdir at hx2
        rw [if_pos] at hx2
        · exact hx2 rfl
        · have e : ((ba (fun d => if g_nb μ st.2.1 (d : Nat) = -1 then -1 else wF μ W (cl m) (g_nb μ st.2.1 (d : Nat)).toNat) 4).toNat : Int) = ba (gdir μ (wF μ W (cl m)) st.2.1) 4 := Int.toNat_of_nonneg (show 0 ≤ ba (gdir μ (wF μ W (cl m)) st.2.1) 4 by omega)
          rw [e]; exact z
      exact ((g_GR hL).2 _ _ h1 (by omega) (by omega)).resolve_left hn
theorem hunt_ok {μ : Nat → Nat → Int} (hL : I_land μ) {W : Int} {cl : Nat → Int} {B : Int} {st : HT} (h : hOK μ cl B st) : ∀ n : Nat, hOK μ cl (B + n) (hunt μ W cl st n)
  | 0 => by
    rw [show B + ((0 : Nat) : Int) = B by omega]; exact h
  | n + 1 => by
    have := hun_ok hL (W := W) (hunt_ok hL (W := W) h n)
    rw [show B + ((n + 1 : Nat) : Int) = B + n + 1 by omega]; exact this
theorem hun_keep {μ : Nat → Nat → Int} {W : Int} {cl : Nat → Int} {st : HT} {j : Nat} (hj : μ 6 13 ≤ (j : Int)) : (hun μ W cl st).1 j = st.1 j := by
  by_cases hb : ba (hel μ W cl st) (μ 6 13).toNat = -1
  · rw [hun_stay hb]
  · have hbb := ba_b (f := hel μ W cl st) (μ 6 13).toNat
    obtain ⟨m, hm⟩ := Int.eq_ofNat_of_zero_le (show 0 ≤ ba (hel μ W cl st) (μ 6 13).toNat by omega)
    have f1 := (hel_found hm).1
    by_cases hc : cl m = st.2.1
    · rw [hun_take hm hc]
      show fs st.1 m (st.1 m - 1) j = st.1 j
      rw [fs_ne (by omega)]
    · rw [hun_go hm hc]
theorem hunt_keep {μ : Nat → Nat → Int} {W : Int} {cl : Nat → Int} {st : HT} {j : Nat} (hj : μ 6 13 ≤ (j : Int)) : ∀ n, (hunt μ W cl st n).1 j = st.1 j
  | 0 => rfl
  | n + 1 => by
    show (hun μ W cl (hunt μ W cl st n)).1 j = st.1 j
    rw [hun_keep hj, hunt_keep hj n]
theorem hunt_stuck {μ : Nat → Nat → Int} {W : Int} {cl : Nat → Int} {st : HT} {n : Nat} (h : ba (hel μ W cl (hunt μ W cl st n)) (μ 6 13).toNat = -1) : ∀ d, hunt μ W cl st (n + d) = hunt μ W cl st n
  | 0 => rfl
  | d + 1 => by
    show hun μ W cl (hunt μ W cl st (n + d)) = _
    rw [hunt_stuck h d, hun_stay h]
/-- herds with equal numbers fare alike -/
theorem hun_congr {μ : Nat → Nat → Int} {W : Int} {cl cl' : Nat → Int} {st st' : HT} (hc : ∀ j : Nat, (j : Int) < μ 6 13 → cl j = cl' j) (h1 : ∀ j : Nat, (j : Int) < μ 6 13 → st.1 j = st'.1 j) (h2 : st.2 = st'.2) : (∀ j : Nat, (j : Int) < μ 6 13 → (hun μ W cl st).1 j = (hun μ W cl' st').1 j) ∧ (hun μ W cl st).2 = (hun μ W cl' st').2 := by
  have e : ba (hel μ W cl st) (μ 6 13).toNat = ba (hel μ W cl' st') (μ 6 13).toNat := ba_congr _ (fun j hj => by
    unfold hel
    rw [h1 j (by omega), hc j (by omega), h2])
  by_cases hb : ba (hel μ W cl st) (μ 6 13).toNat = -1
  · rw [hun_stay hb, hun_stay (by rw [← e]; exact hb)]
    exact ⟨h1, h2⟩
  · have hbb := ba_b (f := hel μ W cl st) (μ 6 13).toNat
    obtain ⟨m, hm⟩ := Int.eq_ofNat_of_zero_le (show 0 ≤ ba (hel μ W cl st) (μ 6 13).toNat by omega)
    have hm' : ba (hel μ W cl' st') (μ 6 13).toNat = (m : Int) := by rw [← e]; exact hm
    have f1 := (hel_found hm).1
    by_cases hc2 : cl m = st.2.1
    · rw [hun_take hm hc2, hun_take hm' (by rw [← hc m f1, ← h2]; exact hc2)]
      refine ⟨fun j hj => ?_, ?_⟩
      · show fs st.1 m (st.1 m - 1) j = fs st'.1 m (st'.1 m - 1) j
        unfold fs
        rw [h1 m f1, h1 j hj]
      · show (st.2.1, st.2.2 + 1) = (st'.2.1, st'.2.2 + 1)
        rw [h2]
    · rw [hun_go hm hc2, hun_go hm' (by rw [← hc m f1, ← h2]; exact hc2)]
      refine ⟨h1, ?_⟩
      show (g_nb μ st.2.1 (ba (gdir μ (wF μ W (cl m)) st.2.1) 4), st.2.2) = (g_nb μ st'.2.1 (ba (gdir μ (wF μ W (cl' m)) st'.2.1) 4), st'.2.2)
      rw [h2, hc m f1]
theorem hunt_congr {μ : Nat → Nat → Int} {W : Int} {cl cl' : Nat → Int} {st st' : HT} (hc : ∀ j : Nat, (j : Int) < μ 6 13 → cl j = cl' j) (h1 : ∀ j : Nat, (j : Int) < μ 6 13 → st.1 j = st'.1 j) (h2 : st.2 = st'.2) : ∀ n, (∀ j : Nat, (j : Int) < μ 6 13 → (hunt μ W cl st n).1 j = (hunt μ W cl' st' n).1 j) ∧ (hunt μ W cl st n).2 = (hunt μ W cl' st' n).2
  | 0 => ⟨h1, h2⟩
  | n + 1 => by
    have ih := hunt_congr (W := W) hc h1 h2 n
    exact hun_congr hc ih.1 ih.2
