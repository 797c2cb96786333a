/-! ===== the search in breadth: what is come to is closed, and is the least closed ===== -/
/-- visited -/
abbrev b_vis (st : bSt) (x : Int) : Prop := ¬ st.1 x.toNat = -1
theorem b_dir_mono {nb : Int → Int → Int} {O : Int → Prop} [DecidablePred O] {a d : Int} {st : bSt} (hv : 0 ≤ st.1 a.toNat) {j : Nat} (h : ¬ st.1 j = -1) : ¬ (b_dir nb O a d st).1 j = -1 := by
  unfold b_dir
  by_cases hc : ¬ nb a d = -1 ∧ O (nb a d) ∧ st.1 (nb a d).toNat = -1
  · rw [if_pos hc]
    show ¬ fs st.1 (nb a d).toNat (st.1 a.toNat + 1) j = -1
    by_cases e : j = (nb a d).toNat
    · rw [e, fs_eq]; omega
    · rw [fs_ne e]; exact h
  · rw [if_neg hc]; exact h
theorem b_dir_hit {nb : Int → Int → Int} {O : Int → Prop} [DecidablePred O] {a d : Int} {st : bSt} (hv : 0 ≤ st.1 a.toNat) (h1 : ¬ nb a d = -1) (h2 : O (nb a d)) : ¬ (b_dir nb O a d st).1 (nb a d).toNat = -1 := by
  unfold b_dir
  by_cases hc : ¬ nb a d = -1 ∧ O (nb a d) ∧ st.1 (nb a d).toNat = -1
  · rw [if_pos hc]
    show ¬ fs st.1 (nb a d).toNat (st.1 a.toNat + 1) (nb a d).toNat = -1
    rw [fs_eq]; omega
  · rw [if_neg hc]; exact fun z => hc ⟨h1, h2, z⟩
theorem b_dir_vis {nb : Int → Int → Int} {O : Int → Prop} [DecidablePred O] {a d : Int} {st : bSt} {j : Nat} (h : ¬ (b_dir nb O a d st).1 j = -1) : ¬ st.1 j = -1 ∨ (j = (nb a d).toNat ∧ ¬ nb a d = -1 ∧ O (nb a d)) := by
  unfold b_dir at h
  by_cases hc : ¬ nb a d = -1 ∧ O (nb a d) ∧ st.1 (nb a d).toNat = -1
  · rw [if_pos hc] at h
    by_cases e : j = (nb a d).toNat
    · exact Or.inr ⟨e, hc.1, hc.2.1⟩
    · left
      have h' : ¬ fs st.1 (nb a d).toNat (st.1 a.toNat + 1) j = -1 := h
      rw [fs_ne e] at h'
      exact h'
  · rw [if_neg hc] at h
    exact Or.inl h
theorem b_dirs_mono {nb : Int → Int → Int} {O : Int → Prop} [DecidablePred O] {G : Int → Prop} (hg : GR nb G) {a : Int} {st : bSt} (ha : G a) (hv : ¬ st.1 a.toNat = -1) (h : b_ok G st) {j : Nat} (hj : ¬ st.1 j = -1) : ∀ n, n ≤ 4 → ¬ (b_dirs nb O a st n).1 j = -1
  | 0, _ => hj
  | n + 1, hn => by
    have i := b_dirs_ok (O := O) hg ha hv h n (by omega)
    have i1 := i.1.2.2.1 a.toNat
    have i2 := i.2.1
    exact b_dir_mono (by omega) (b_dirs_mono hg ha hv h hj n (by omega))
theorem b_dirs_hit {nb : Int → Int → Int} {O : Int → Prop} [DecidablePred O] {G : Int → Prop} (hg : GR nb G) {a : Int} {st : bSt} (ha : G a) (hv : ¬ st.1 a.toNat = -1) (h : b_ok G st) {d : Nat} (h1 : ¬ nb a d = -1) (h2 : O (nb a d)) : ∀ n, n ≤ 4 → d < n → ¬ (b_dirs nb O a st n).1 (nb a d).toNat = -1
  | 0, _, hd => by omega
  | n + 1, hn, hd => by
    have i := b_dirs_ok (O := O) hg ha hv h n (by omega)
    have i1 := i.1.2.2.1 a.toNat
    have i2 := i.2.1
    by_cases e : d = n
    · subst e
      exact b_dir_hit (by omega) h1 h2
    · exact b_dir_mono (by omega) (b_dirs_hit hg ha hv h h1 h2 n (by omega) (by omega))
theorem b_dirs_vis {nb : Int → Int → Int} {O : Int → Prop} [DecidablePred O] {a : Int} {st : bSt} {j : Nat} : ∀ n, ¬ (b_dirs nb O a st n).1 j = -1 → ¬ st.1 j = -1 ∨ ∃ d : Nat, d < n ∧ j = (nb a d).toNat ∧ ¬ nb a d = -1 ∧ O (nb a d)
  | 0, h => Or.inl h
  | n + 1, h => by
    rcases b_dir_vis h with h1 | h1
    · rcases b_dirs_vis n h1 with h2 | ⟨d, h2, h3⟩
      · exact Or.inl h2
      · exact Or.inr ⟨d, by omega, h3⟩
    · exact Or.inr ⟨n, by omega, h1⟩
/-- all that is visited stands in the row -/
def b_cov (st : bSt) : Prop := ∀ j : Nat, ¬ st.1 j = -1 → ∃ i, i < st.2.2 ∧ (st.2.1 i).toNat = j
theorem b_dir_cov {nb : Int → Int → Int} {O : Int → Prop} [DecidablePred O] {a d : Int} {st : bSt} (h : b_cov st) : b_cov (b_dir nb O a d st) := by
  unfold b_dir
  by_cases hc : ¬ nb a d = -1 ∧ O (nb a d) ∧ st.1 (nb a d).toNat = -1
  · rw [if_pos hc]
    intro j hj
    have hj' : ¬ fs st.1 (nb a d).toNat (st.1 a.toNat + 1) j = -1 := hj
    by_cases e : j = (nb a d).toNat
    · refine ⟨st.2.2, Nat.lt_succ_self _, ?_⟩
      show (fs st.2.1 st.2.2 (nb a d) st.2.2).toNat = j
      rw [fs_eq, e]
    · rw [fs_ne e] at hj'
      obtain ⟨i, h1, h2⟩ := h j hj'
      refine ⟨i, Nat.lt_succ_of_lt h1, ?_⟩
      show (fs st.2.1 st.2.2 (nb a d) i).toNat = j
      rw [fs_ne (by omega), h2]
  · rw [if_neg hc]; exact h
theorem b_dirs_cov {nb : Int → Int → Int} {O : Int → Prop} [DecidablePred O] {a : Int} {st : bSt} (h : b_cov st) : ∀ n, b_cov (b_dirs nb O a st n)
  | 0 => h
  | n + 1 => b_dir_cov (b_dirs_cov h n)
theorem b_at_cov {nb : Int → Int → Int} {O : Int → Prop} [DecidablePred O] {st : bSt} (h : b_cov st) : ∀ n, b_cov (b_at nb O st n)
  | 0 => h
  | n + 1 => by
    unfold b_at
    by_cases hc : n < (b_at nb O st n).2.2
    · rw [if_pos hc]; exact b_dirs_cov (b_at_cov h n) 4
    · rw [if_neg hc]; exact b_at_cov h n
theorem b_init_cov {a : Int} : b_cov (b_init a) := by
  intro j hj
  have hj' : ¬ (if j = a.toNat then (0 : Int) else -1) = -1 := hj
  by_cases e : j = a.toNat
  · exact ⟨0, Nat.lt_succ_self 0, e.symm⟩
  · rw [if_neg e] at hj'; exact absurd rfl hj'
/-- the open neighbours of the first n in the row are visited -/
theorem b_at_closed {nb : Int → Int → Int} {O : Int → Prop} [DecidablePred O] {G : Int → Prop} (hg : GR nb G) {st : bSt} (h : b_ok G st) : ∀ n i, i < n → i < (b_at nb O st n).2.2 → ∀ d : Nat, d < 4 → ¬ nb ((b_at nb O st n).2.1 i) d = -1 → O (nb ((b_at nb O st n).2.1 i) d) → ¬ (b_at nb O st n).1 (nb ((b_at nb O st n).2.1 i) d).toNat = -1
  | 0, i, hi, _, _, _, _, _ => by omega
  | n + 1, i, hi, ht, d, hd, h1, h2 => by
    have ok := b_at_ok (O := O) hg h n
    by_cases hc : n < (b_at nb O st n).2.2
    · have e : b_at nb O st (n + 1) = b_dirs nb O ((b_at nb O st n).2.1 n) (b_at nb O st n) 4 := by
        show (if n < _ then _ else _) = _
        rw [if_pos hc]
      have hG := ok.2.1 n hc
      have hV := ok.2.2.2.2 n hc
      have i4 := (b_dirs_ok (O := O) hg hG hV ok 4 (by omega)).2.2.2
      rw [e] at h1 h2 ⊢
      have hq : i < (b_at nb O st n).2.2 := by omega
      rw [i4 i hq] at h1 h2 ⊢
      by_cases ei : i = n
      · subst ei
        exact b_dirs_hit hg hG hV ok h1 h2 4 (by omega) hd
      · exact b_dirs_mono hg hG hV ok (b_at_closed hg h n i (by omega) hq d hd h1 h2) 4 (by omega)
    · have e : b_at nb O st (n + 1) = b_at nb O st n := by
        show (if n < _ then _ else _) = _
        rw [if_neg hc]
      rw [e] at ht h1 h2 ⊢
      exact b_at_closed hg h n i (by omega) ht d hd h1 h2
theorem bfs_eq {nb : Int → Int → Int} {O : Int → Prop} [DecidablePred O] {a : Int} : bfs nb O a = b_at nb O (b_init a) 100 := rfl
/-- (A) -/
theorem bfs_closed {nb : Int → Int → Int} {O : Int → Prop} [DecidablePred O] {G : Int → Prop} (hg : GR nb G) {a : Int} (ha : G a) {x : Int} (hx : G x) (hv : b_vis (bfs nb O a) x) {d : Nat} (hd : d < 4) (h1 : ¬ nb x d = -1) (h2 : O (nb x d)) : b_vis (bfs nb O a) (nb x d) := by
  have ok : b_ok G (bfs nb O a) := bfs_ok hg ha
  rw [bfs_eq] at ok hv ⊢
  obtain ⟨i, hi, e⟩ := b_at_cov (nb := nb) (O := O) (b_init_cov (a := a)) 100 x.toNat hv
  have hq : G ((b_at nb O (b_init a) 100).2.1 i) := ok.2.1 i hi
  have b1 := hg.1 _ hq
  have b2 := hg.1 _ hx
  have e2 : (b_at nb O (b_init a) 100).2.1 i = x := by omega
  have hc := b_at_closed (O := O) hg (b_init_ok hg ha) 100 i (by have := ok.1.2; omega) hi d hd
  rw [e2] at hc
  exact hc h1 h2
/-- (B) -/
theorem b_at_least {nb : Int → Int → Int} {O : Int → Prop} [DecidablePred O] {G S : Int → Prop} (hg : GR nb G) (hS : ∀ x, G x → S x → ∀ d : Nat, d < 4 → ¬ nb x d = -1 → O (nb x d) → S (nb x d)) {st : bSt} (h : b_ok G st) (h0 : ∀ i, i < st.2.2 → S (st.2.1 i)) : ∀ n i, i < (b_at nb O st n).2.2 → S ((b_at nb O st n).2.1 i)
  | 0, i, hi => h0 i hi
  | n + 1, i, hi => by
    have ok := b_at_ok (O := O) hg h n
    have ih := b_at_least hg hS h h0 n
    by_cases hc : n < (b_at nb O st n).2.2
    · have e : b_at nb O st (n + 1) = b_dirs nb O ((b_at nb O st n).2.1 n) (b_at nb O st n) 4 := by
        show (if n < _ then _ else _) = _
        rw [if_pos hc]
      rw [e] at hi ⊢
      have hG := ok.2.1 n hc
      have hSn := ih n hc
      have : ∀ m, m ≤ 4 → ∀ i, i < (b_dirs nb O ((b_at nb O st n).2.1 n) (b_at nb O st n) m).2.2 → S ((b_dirs nb O ((b_at nb O st n).2.1 n) (b_at nb O st n) m).2.1 i) := by
        intro m
        induction m with
        | zero => intro _ i hi; exact ih i hi
        | succ m im =>
          intro hm i hi
          have im := im (by omega)
          have e3 : b_dirs nb O ((b_at nb O st n).2.1 n) (b_at nb O st n) (m + 1) = b_dir nb O ((b_at nb O st n).2.1 n) m (b_dirs nb O ((b_at nb O st n).2.1 n) (b_at nb O st n) m) := rfl
          rw [e3] at hi ⊢
          revert hi im
          generalize b_dirs nb O ((b_at nb O st n).2.1 n) (b_at nb O st n) m = D
          intro hi im
          unfold b_dir at hi ⊢
          by_cases hb : ¬ nb ((b_at nb O st n).2.1 n) m = -1 ∧ O (nb ((b_at nb O st n).2.1 n) m) ∧ D.1 (nb ((b_at nb O st n).2.1 n) m).toNat = -1
          · rw [if_pos hb] at hi ⊢
            have hi' : i < D.2.2 + 1 := hi
            show S (fs D.2.1 D.2.2 (nb ((b_at nb O st n).2.1 n) m) i)
            by_cases e4 : i = D.2.2
            · rw [e4, fs_eq]
              exact hS _ hG hSn m (by omega) hb.1 hb.2.1
            · rw [fs_ne e4]; exact im i (by omega)
          · rw [if_neg hb] at hi ⊢
            exact im i hi
      exact this 4 (Nat.le_refl 4) i hi
    · have e : b_at nb O st (n + 1) = b_at nb O st n := by
        show (if n < _ then _ else _) = _
        rw [if_neg hc]
      rw [e] at hi ⊢
      exact ih i hi
theorem bfs_least {nb : Int → Int → Int} {O : Int → Prop} [DecidablePred O] {G S : Int → Prop} (hg : GR nb G) {a : Int} (ha : G a) (hSa : S a) (hS : ∀ x, G x → S x → ∀ d : Nat, d < 4 → ¬ nb x d = -1 → O (nb x d) → S (nb x d)) {x : Int} (hx : G x) (hv : b_vis (bfs nb O a) x) : S x := by
  have ok : b_ok G (bfs nb O a) := bfs_ok hg ha
  rw [bfs_eq] at ok hv
  obtain ⟨i, hi, e⟩ := b_at_cov (nb := nb) (O := O) (b_init_cov (a := a)) 100 x.toNat hv
  have b1 := hg.1 _ (ok.2.1 i hi)
  have b2 := hg.1 _ hx
  have e2 : (b_at nb O (b_init a) 100).2.1 i = x := by omega
  rw [← e2]
  exact b_at_least hg hS (b_init_ok hg ha) (fun _ _ => hSa) 100 i hi
/-- fewer open cells: no more is visited -/
theorem bfs_mono {nb : Int → Int → Int} {O O' : Int → Prop} [DecidablePred O] [DecidablePred O'] {G : Int → Prop} (hg : GR nb G) (hO : ∀ x, O' x → O x) {a : Int} (ha : G a) {x : Int} (hx : G x) (hv : b_vis (bfs nb O' a) x) : b_vis (bfs nb O a) x := by
  refine bfs_least (S := b_vis (bfs nb O a)) hg ha ?_ ?_ hx hv
  · rw [bfs_eq]
    have h0 : ∀ n, ¬ (b_at nb O (b_init a) n).1 a.toNat = -1 := by
      intro n
      induction n with
      | zero =>
        show ¬ (if a.toNat = a.toNat then (0 : Int) else -1) = -1
        rw [if_pos rfl]; decide
      | succ n ih =>
        have okn := b_at_ok (O := O) hg (b_init_ok hg ha) n
        unfold b_at
        by_cases hc : n < (b_at nb O (b_init a) n).2.2
        · rw [if_pos hc]
          exact b_dirs_mono hg (okn.2.1 n hc) (okn.2.2.2.2 n hc) okn ih 4 (by omega)
        · rw [if_neg hc]; exact ih
    exact h0 100
  · intro y hy hvy d hd h1 h2
    exact bfs_closed hg ha hy hvy hd h1 (hO _ h2)
