/-! ===== the search in breadth: levels ===== -/
def b_lev (nb : Int → Int → Int) (a : Int) (h : Nat) (st : bSt) : Prop :=
  (∀ i j : Nat, i ≤ j → j < st.2.2 → st.1 (st.2.1 i).toNat ≤ st.1 (st.2.1 j).toNat) ∧
  (∀ j : Nat, j < st.2.2 → h < st.2.2 → st.1 (st.2.1 j).toNat ≤ st.1 (st.2.1 h).toNat + 1) ∧
  (∀ j : Nat, ¬ st.1 j = -1 → j = a.toNat ∨ ∃ i d : Nat, i < st.2.2 ∧ d < 4 ∧ (nb (st.2.1 i) d).toNat = j ∧ ¬ nb (st.2.1 i) d = -1 ∧ st.1 j = st.1 (st.2.1 i).toNat + 1)
theorem b_dir_keep {nb : Int → Int → Int} {O : Int → Prop} [DecidablePred O] {a d : Int} {st : bSt} {j : Nat} (h : ¬ st.1 j = -1) : (b_dir nb O a d st).1 j = st.1 j := by
  unfold b_dir
  by_cases hc : ¬ nb a d = -1 ∧ O (nb a d) ∧ st.1 (nb a d).toNat = -1
  · rw [if_pos hc]
    show fs st.1 (nb a d).toNat (st.1 a.toNat + 1) j = st.1 j
    rw [fs_ne (fun z => h (by rw [z]; exact hc.2.2))]
  · rw [if_neg hc]
theorem b_dirs_keep {nb : Int → Int → Int} {O : Int → Prop} [DecidablePred O] {a : Int} {st : bSt} {j : Nat} (h : ¬ st.1 j = -1) : ∀ n, (b_dirs nb O a st n).1 j = st.1 j
  | 0 => rfl
  | n + 1 => by
    have ih := b_dirs_keep (nb := nb) (O := O) (a := a) h n
    show (b_dir nb O a n (b_dirs nb O a st n)).1 j = st.1 j
    rw [b_dir_keep (by rw [ih]; exact h), ih]
theorem b_dir_lev {nb : Int → Int → Int} {O : Int → Prop} [DecidablePred O] {G : Int → Prop} {a x : Int} {d h : Nat} {st : bSt} (ok : b_ok G st) (hh : h < st.2.2) (hx : st.2.1 h = x) (hd : d < 4) (H : b_lev nb a h st) : b_lev nb a h (b_dir nb O x d st) := by
  obtain ⟨H1, H2, H3⟩ := H
  unfold b_dir
  by_cases hc : ¬ nb x d = -1 ∧ O (nb x d) ∧ st.1 (nb x d).toNat = -1
  · rw [if_pos hc]
    have hv := ok.2.2.2.2
    have old : ∀ j, j < st.2.2 → fs st.1 (nb x d).toNat (st.1 x.toNat + 1) (fs st.2.1 st.2.2 (nb x d) j).toNat = st.1 (st.2.1 j).toNat := fun j hj => by
      rw [fs_ne (show ¬ j = st.2.2 by omega), fs_ne (fun z => hv j hj (by rw [z]; exact hc.2.2))]
    have new : fs st.1 (nb x d).toNat (st.1 x.toNat + 1) (fs st.2.1 st.2.2 (nb x d) st.2.2).toNat = st.1 (st.2.1 h).toNat + 1 := by
      rw [fs_eq, fs_eq, hx]
    refine ⟨?_, ?_, ?_⟩
    · intro i j hij hj
      have hj' : j < st.2.2 + 1 := hj
      show fs st.1 (nb x d).toNat (st.1 x.toNat + 1) (fs st.2.1 st.2.2 (nb x d) i).toNat ≤ fs st.1 (nb x d).toNat (st.1 x.toNat + 1) (fs st.2.1 st.2.2 (nb x d) j).toNat
      by_cases e : j = st.2.2
      · by_cases e2 : i = st.2.2
        · rw [e, e2]; exact Int.le_refl _
        · rw [e, new, old i (by omega)]; exact H2 i (by omega) hh
      · rw [old i (by omega), old j (by omega)]; exact H1 i j hij (by omega)
    · intro j hj _
      have hj' : j < st.2.2 + 1 := hj
      show fs st.1 (nb x d).toNat (st.1 x.toNat + 1) (fs st.2.1 st.2.2 (nb x d) j).toNat ≤ fs st.1 (nb x d).toNat (st.1 x.toNat + 1) (fs st.2.1 st.2.2 (nb x d) h).toNat + 1
      rw [old h hh]
      by_cases e : j = st.2.2
      · rw [e, new]; exact Int.le_refl _
      · rw [old j (by omega)]; exact H2 j (by omega) hh
    · intro j hj
      have hj' : ¬ fs st.1 (nb x d).toNat (st.1 x.toNat + 1) j = -1 := hj
      show _ ∨ ∃ i d' : Nat, i < st.2.2 + 1 ∧ d' < 4 ∧ (nb (fs st.2.1 st.2.2 (nb x d) i) d').toNat = j ∧ ¬ nb (fs st.2.1 st.2.2 (nb x d) i) d' = -1 ∧ fs st.1 (nb x d).toNat (st.1 x.toNat + 1) j = fs st.1 (nb x d).toNat (st.1 x.toNat + 1) (fs st.2.1 st.2.2 (nb x d) i).toNat + 1
      by_cases e : j = (nb x d).toNat
      · refine Or.inr ⟨h, d, by omega, hd, ?_, ?_, ?_⟩
        · rw [fs_ne (show ¬ h = st.2.2 by omega), hx, e]
        · rw [fs_ne (show ¬ h = st.2.2 by omega), hx]; exact hc.1
        · rw [old h hh, e, fs_eq, hx]
      · rw [fs_ne e] at hj'
        rcases H3 j hj' with z | ⟨i, d', z1, z2, z3, z4, z5⟩
        · exact Or.inl z
        · refine Or.inr ⟨i, d', by omega, z2, ?_, ?_, ?_⟩
          · rw [fs_ne (show ¬ i = st.2.2 by omega)]; exact z3
          · rw [fs_ne (show ¬ i = st.2.2 by omega)]; exact z4
          · rw [old i z1, fs_ne e]; exact z5
  · rw [if_neg hc]; exact ⟨H1, H2, H3⟩
theorem b_dirs_lev {nb : Int → Int → Int} {O : Int → Prop} [DecidablePred O] {G : Int → Prop} (hg : GR nb G) {a x : Int} {h : Nat} {st : bSt} (ok : b_ok G st) (hh : h < st.2.2) (hx : st.2.1 h = x) (H : b_lev nb a h st) : ∀ n, n ≤ 4 → b_lev nb a h (b_dirs nb O x st n)
  | 0, _ => H
  | n + 1, hn => by
    have gx : G x := by rw [← hx]; exact ok.2.1 h hh
    have vx : ¬ st.1 x.toNat = -1 := by rw [← hx]; exact ok.2.2.2.2 h hh
    obtain ⟨i1, i2, i3, i4⟩ := b_dirs_ok (O := O) hg gx vx ok n (by omega)
    exact b_dir_lev i1 (by omega) ((i4 h hh).trans hx) (by omega) (b_dirs_lev hg ok hh hx H n (by omega))
theorem b_at_lev {nb : Int → Int → Int} {O : Int → Prop} [DecidablePred O] {G : Int → Prop} (hg : GR nb G) {a : Int} (ha : G a) : ∀ n, b_lev nb a n (b_at nb O (b_init a) n)
  | 0 => by
    refine ⟨?_, ?_, ?_⟩
    · intro i j _ _
      exact Int.le_refl _
    · intro j _ _
      show (if a.toNat = a.toNat then (0 : Int) else -1) ≤ (if a.toNat = a.toNat then (0 : Int) else -1) + 1
      rw [if_pos rfl]; decide
    · intro j hj
      have hj' : ¬ (if j = a.toNat then (0 : Int) else -1) = -1 := hj
      by_cases e : j = a.toNat
      · exact Or.inl e
      · rw [if_neg e] at hj'; exact absurd rfl hj'
  | n + 1 => by
    have ok := b_at_ok (O := O) hg (b_init_ok hg ha) n
    have ih := b_at_lev (O := O) hg ha n
    by_cases hc : n < (b_at nb O (b_init a) n).2.2
    · have e : b_at nb O (b_init a) (n + 1) = b_dirs nb O ((b_at nb O (b_init a) n).2.1 n) (b_at nb O (b_init a) n) 4 := by
        show (if n < _ then _ else _) = _
        rw [if_pos hc]
      rw [e]
      obtain ⟨J1, J2, J3⟩ := b_dirs_lev (O := O) hg ok hc rfl ih 4 (by omega)
      have i3 := (b_dirs_ok (O := O) hg (ok.2.1 n hc) (ok.2.2.2.2 n hc) ok 4 (by omega)).2.2.1
      refine ⟨J1, ?_, J3⟩
      intro j hj hn
      have h1 := J2 j hj (by omega)
      have h2 := J1 n (n + 1) (by omega) hn
      omega
    · have e : b_at nb O (b_init a) (n + 1) = b_at nb O (b_init a) n := by
        show (if n < _ then _ else _) = _
        rw [if_neg hc]
      rw [e]
      exact ⟨ih.1, fun j hj hn => absurd hn (by omega), ih.2.2⟩
theorem b_at_le {nb : Int → Int → Int} {O : Int → Prop} [DecidablePred O] {G : Int → Prop} (hg : GR nb G) {a : Int} (ha : G a) : ∀ n i, i < n → i < (b_at nb O (b_init a) n).2.2 → ∀ d : Nat, d < 4 → ¬ nb ((b_at nb O (b_init a) n).2.1 i) d = -1 → O (nb ((b_at nb O (b_init a) n).2.1 i) d) → (b_at nb O (b_init a) n).1 (nb ((b_at nb O (b_init a) n).2.1 i) d).toNat ≤ (b_at nb O (b_init a) n).1 ((b_at nb O (b_init a) n).2.1 i).toNat + 1
  | 0, i, hi, _, _, _, _, _ => by omega
  | n + 1, i, hi, ht, d, hd, h1, h2 => by
    have ok := b_at_ok (O := O) hg (b_init_ok hg ha) n
    by_cases hc : n < (b_at nb O (b_init a) n).2.2
    · have e : b_at nb O (b_init a) (n + 1) = b_dirs nb O ((b_at nb O (b_init a) n).2.1 n) (b_at nb O (b_init a) n) 4 := by
        show (if n < _ then _ else _) = _
        rw [if_pos hc]
      have hG := ok.2.1 n hc
      have hV := ok.2.2.2.2 n hc
      have i4 := (b_dirs_ok (O := O) hg hG hV ok 4 (by omega)).2.2.2
      have hq : i < (b_at nb O (b_init a) n).2.2 := by omega
      by_cases ei : i = n
      · subst ei
        have lev := b_dirs_lev (O := O) hg ok hc rfl (b_at_lev (O := O) hg ha i) 4 (by omega)
        have cov := b_at_cov (nb := nb) (O := O) (b_init_cov (a := a)) (i + 1)
        rw [e] at ht h1 h2 cov ⊢
        rw [i4 i hq] at h1 h2 ⊢
        have hit := b_dirs_hit (O := O) hg hG hV ok h1 h2 4 (by omega) hd
        obtain ⟨j, hj, ej⟩ := cov _ hit
        have h3 := lev.2.1 j hj ht
        rw [ej, i4 i hq] at h3
        exact h3
      · have ih := b_at_le hg ha n i (by omega) hq d hd
        have cl := b_at_closed (O := O) hg (b_init_ok hg ha) n i (by omega) hq d hd
        rw [e] at h1 h2 ⊢
        rw [i4 i hq] at h1 h2 ⊢
        rw [b_dirs_keep (cl h1 h2), b_dirs_keep (ok.2.2.2.2 i hq)]
        exact ih h1 h2
    · have e : b_at nb O (b_init a) (n + 1) = b_at nb O (b_init a) n := by
        show (if n < _ then _ else _) = _
        rw [if_neg hc]
      rw [e] at ht h1 h2 ⊢
      exact b_at_le hg ha n i (by omega) ht d hd h1 h2
theorem bfs_step {nb : Int → Int → Int} {O : Int → Prop} [DecidablePred O] {G : Int → Prop} (hg : GR nb G) {a : Int} (ha : G a) {x : Int} (hx : G x) (hv : b_vis (bfs nb O a) x) {d : Nat} (hd : d < 4) (h1 : ¬ nb x d = -1) (h2 : O (nb x d)) : (bfs nb O a).1 (nb x d).toNat ≤ (bfs nb O a).1 x.toNat + 1 := by
  have ok : b_ok G (bfs nb O a) := bfs_ok hg ha
  rw [bfs_eq] at ok hv ⊢
  obtain ⟨i, hi, e⟩ := b_at_cov (nb := nb) (O := O) (b_init_cov (a := a)) 100 x.toNat hv
  have b1 := hg.1 _ (ok.2.1 i hi)
  have b2 := hg.1 _ hx
  have e2 : (b_at nb O (b_init a) 100).2.1 i = x := by omega
  have hc := b_at_le (O := O) hg ha 100 i (by have := ok.1.2; omega) hi d hd
  rw [e2] at hc
  exact hc h1 h2
theorem bfs_par {nb : Int → Int → Int} {O : Int → Prop} [DecidablePred O] {G : Int → Prop} (hg : GR nb G) {a : Int} (ha : G a) {x : Int} (hx : G x) (hv : b_vis (bfs nb O a) x) (hne : ¬ x = a) : ∃ (y : Int) (d : Nat), G y ∧ b_vis (bfs nb O a) y ∧ d < 4 ∧ nb y d = x ∧ (bfs nb O a).1 x.toNat = (bfs nb O a).1 y.toNat + 1 := by
  have ok : b_ok G (bfs nb O a) := bfs_ok hg ha
  rw [bfs_eq] at ok hv ⊢
  have b2 := hg.1 _ hx
  have b3 := hg.1 _ ha
  rcases (b_at_lev (O := O) hg ha 100).2.2 x.toNat hv with z | ⟨i, d, z1, z2, z3, z4, z5⟩
  · exact absurd (show x = a by omega) hne
  · have hG := ok.2.1 i z1
    refine ⟨_, d, hG, ok.2.2.2.2 i z1, z2, ?_, z5⟩
    have b4 := hg.1 _ ((hg.2 _ (d : Int) hG (by omega) (by omega)).resolve_left z4)
    omega
/-- at a cell that is come to and isn't the start: the least among its neighbours is one less, and the first such is found -/
theorem far_first {μ : Nat → Nat → Int} (hL : I_land μ) {a t w x : Int} (ha : g_cell μ a) (hx : g_cell μ x) {m : Int} (hm : g_far μ a t w x.toNat = m) (h0 : 0 < m) :
    ∃ k : Nat, k < 4 ∧ ba (gdir μ (g_far μ a t w) x) 4 = (k : Int) ∧ gdir μ (g_far μ a t w) x k = m - 1 ∧ (∀ j, j < k → ¬ gdir μ (g_far μ a t w) x j = m - 1) ∧ g_cell μ (g_nb μ x k) ∧ g_far μ a t w (g_nb μ x k).toNat = m - 1 := by
  have hst : g_stand μ a t w := Classical.byContradiction (fun z => by
    unfold g_far at hm
    rw [if_neg z] at hm
    omega)
  have e : g_far μ a t w = (bfs (g_nb μ) (fun z => g_stand μ z t w) a).1 := by unfold g_far; rw [if_pos hst]
  rw [e] at hm ⊢
  have hg := g_GR hL
  have hv : b_vis (bfs (g_nb μ) (fun z => g_stand μ z t w) a) x := by show ¬ _ = -1; omega
  have hz := bfs_zero (O := fun z => g_stand μ z t w) hg ha
  have hne : ¬ x = a := fun z => by rw [z, hz.1] at hm; omega
  have hxo : g_stand μ x t w := (bfs_open hg ha hx hv).resolve_left hne
  have lo : ∀ d : Nat, d < 4 → ¬ gdir μ (bfs (g_nb μ) (fun z => g_stand μ z t w) a).1 x d = -1 → m - 1 ≤ gdir μ (bfs (g_nb μ) (fun z => g_stand μ z t w) a).1 x d := by
    intro d hd h
    unfold gdir at h ⊢
    by_cases h1 : g_nb μ x d = -1
    · rw [if_pos h1] at h; exact absurd rfl h
    · rw [if_neg h1] at h ⊢
      have hy : g_cell μ (g_nb μ x d) := (hg.2 x d hx (by omega) (by omega)).resolve_left h1
      obtain ⟨d', hd', e'⟩ := nb_sym hL hx hd h1
      have h3 := bfs_step (O := fun z => g_stand μ z t w) hg ha hy h hd' (by rw [e']; have := g_cell_b hL hx; omega) (by rw [e']; exact hxo)
      rw [e', hm] at h3
      omega
  obtain ⟨y, d, hy, hvy, hd, ey, hF⟩ := bfs_par hg ha hx hv hne
  have hyx : ¬ g_nb μ y d = -1 := by rw [ey]; have := g_cell_b hL hx; omega
  obtain ⟨d', hd', e'⟩ := nb_sym hL hy hd hyx
  rw [ey] at e'
  have hgd : gdir μ (bfs (g_nb μ) (fun z => g_stand μ z t w) a).1 x d' = m - 1 := by
    unfold gdir
    have := g_cell_b hL hy
    rw [e', if_neg (by omega)]
    omega
  have hm1 := ba_min (f := gdir μ (bfs (g_nb μ) (fun z => g_stand μ z t w) a).1 x) 4 d' hd' (by omega)
  have hb := ba_b (f := gdir μ (bfs (g_nb μ) (fun z => g_stand μ z t w) a).1 x) 4
  have hel := ba_el 4 hm1.1
  obtain ⟨k, hk⟩ := Int.eq_ofNat_of_zero_le (show 0 ≤ ba (gdir μ (bfs (g_nb μ) (fun z => g_stand μ z t w) a).1 x) 4 by omega)
  rw [hk] at hm1 hb hel
  have hk4 : k < 4 := by omega
  have hl := lo k hk4 hel
  have hv1 : gdir μ (bfs (g_nb μ) (fun z => g_stand μ z t w) a).1 x k = m - 1 := by
    have h9 := hm1.2.1
    rw [show ((k : Nat) : Int).toNat = k from rfl] at h9
    omega
  have hnb : ¬ g_nb μ x k = -1 := fun z => by unfold gdir at hv1; rw [if_pos z] at hv1; omega
  refine ⟨k, hk4, hk, hv1, ?_, (hg.2 x k hx (by omega) (by omega)).resolve_left hnb, ?_⟩
  · intro j hj hjm
    have h8 := (ba_min (f := gdir μ (bfs (g_nb μ) (fun z => g_stand μ z t w) a).1 x) 4 j (by omega) (by omega)).2.2
    rw [hk] at h8
    have h9 := h8 (by omega)
    rw [show ((k : Nat) : Int).toNat = k from rfl] at h9
    omega
  · have h9 := hv1
    unfold gdir at h9
    rw [if_neg hnb] at h9
    exact h9
/-- the cells of the first shortest way to a -/
def wp (μ : Nat → Nat → Int) (F : Nat → Int) (x : Int) : Nat → Int
  | 0 => x
  | n + 1 => g_nb μ (wp μ F x n) (ba (gdir μ F (wp μ F x n)) 4)
theorem wp_rows {μ ν : Nat → Nat → Int} (e6 : ν 6 = μ 6) {F : Nat → Int} {x : Int} : ∀ n, wp ν F x n = wp μ F x n
  | 0 => rfl
  | n + 1 => by
    show g_nb ν (wp ν F x n) (ba (gdir ν F (wp ν F x n)) 4) = _
    rw [wp_rows e6 n, gdir_rows e6]
    show g_nb ν _ _ = g_nb μ _ _
    unfold g_nb
    rw [e6]
theorem wp_ok {μ : Nat → Nat → Int} (hL : I_land μ) {a t w x : Int} (ha : g_cell μ a) (hx : g_cell μ x) {m : Nat} (hm : g_far μ a t w x.toNat = (m : Int)) : ∀ n : Nat, n ≤ m → g_cell μ (wp μ (g_far μ a t w) x n) ∧ g_far μ a t w (wp μ (g_far μ a t w) x n).toNat = (m : Int) - n
  | 0, _ => ⟨hx, by show g_far μ a t w x.toNat = _; omega⟩
  | n + 1, hn => by
    obtain ⟨i1, i2⟩ := wp_ok hL ha hx hm n (by omega)
    obtain ⟨k, h1, h2, h3, h4, h5, h6⟩ := far_first hL ha i1 i2 (by omega)
    have e : wp μ (g_far μ a t w) x (n + 1) = g_nb μ (wp μ (g_far μ a t w) x n) k := by
      show g_nb μ (wp μ (g_far μ a t w) x n) (ba (gdir μ (g_far μ a t w) (wp μ (g_far μ a t w) x n)) 4) = _
      rw [h2]
    rw [e]
    exact ⟨h5, by rw [h6]; omega⟩
