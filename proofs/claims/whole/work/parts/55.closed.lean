/-! ===== the search in breadth: what is come to is closed, and is the least closed ===== -/
/-- visited -/
abbrev b_vis (st : bSt) (x : Int) : Prop := ¬ st.1 x.toNat = -1
theorem b_dir_mono {nb : Int → Int → Int} {O : Int → Prop} [DecidablePred O] {a d : Int} {st : bSt} (hv : 0 ≤ st.1 a.toNat) {j : Nat} (h : ¬ st.1 j = -1) : ¬ (b_dir nb O a d st).1 j = -1 := by
  unfold b_dir
  by_cases hc : ¬ nb a d = -1 ∧ O (nb a d) ∧ st.1 (nb a d).toNat = -1
  · rw [if_pos hc]
    show ¬ fs st.1 (nb a d).toNat (st.1 a.toNat + 1) j = -1
    by_cases e : j = (nb a d).toNat
    · rw [e, fs_eq]; omega
    · rw [fs_ne e]; exact h
  · rw [if_neg hc]; exact h
theorem b_dir_hit {nb : Int → Int → Int} {O : Int → Prop} [DecidablePred O] {a d : Int} {st : bSt} (hv : 0 ≤ st.1 a.toNat) (h1 : ¬ nb a d = -1) (h2 : O (nb a d)) : ¬ (b_dir nb O a d st).1 (nb a d).toNat = -1 := by
  unfold b_dir
  by_cases hc : ¬ nb a d = -1 ∧ O (nb a d) ∧ st.1 (nb a d).toNat = -1
  · rw [if_pos hc]
    show ¬ fs st.1 (nb a d).toNat (st.1 a.toNat + 1) (nb a d).toNat = -1
    rw [fs_eq]; omega
  · rw [if_neg hc]; exact fun z => hc ⟨h1, h2, z⟩
theorem b_dir_vis {nb : Int → Int → Int} {O : Int → Prop} [DecidablePred O] {a d : Int} {st : bSt} {j : Nat} (h : ¬ (b_dir nb O a d st).1 j = -1) : ¬ st.1 j = -1 ∨ (j = (nb a d).toNat ∧ ¬ nb a d = -1 ∧ O (nb a d)) := by
  unfold b_dir at h
  by_cases hc : ¬ nb a d = -1 ∧ O (nb a d) ∧ st.1 (nb a d).toNat = -1
  · rw [if_pos hc] at h
    by_cases e : j = (nb a d).toNat
    · exact Or.inr ⟨e, hc.1, hc.2.1⟩
    · left
      have h' : ¬ fs st.1 (nb a d).toNat (st.1 a.toNat + 1) j = -1 := h
      rw [fs_ne e] at h'
      exact h'
  · rw [if_neg hc] at h
    exact Or.inl h
theorem b_dirs_mono {nb : Int → Int → Int} {O : Int → Prop} [DecidablePred O] {G : Int → Prop} (hg : GR nb G) {a : Int} {st : bSt} (ha : G a) (hv : ¬ st.1 a.toNat = -1) (h : b_ok G st) {j : Nat} (hj : ¬ st.1 j = -1) : ∀ n, n ≤ 4 → ¬ (b_dirs nb O a st n).1 j = -1
  | 0, _ => hj
  | n + 1, hn => by
    have i := b_dirs_ok (O := O) hg ha hv h n (by omega)
    have i1 := i.1.2.2.1 a.toNat
    have i2 := i.2.1
    exact b_dir_mono (by omega) (b_dirs_mono hg ha hv h hj n (by omega))
theorem b_dirs_hit {nb : Int → Int → Int} {O : Int → Prop} [DecidablePred O] {G : Int → Prop} (hg : GR nb G) {a : Int} {st : bSt} (ha : G a) (hv : ¬ st.1 a.toNat = -1) (h : b_ok G st) {d : Nat} (h1 : ¬ nb a d = -1) (h2 : O (nb a d)) : ∀ n, n ≤ 4 → d < n → ¬ (b_dirs nb O a st n).1 (nb a d).toNat = -1
  | 0, _, hd => by omega
  | n + 1, hn, hd => by
    have i := b_dirs_ok (O := O) hg ha hv h n (by omega)
    have i1 := i.1.2.2.1 a.toNat
    have i2 := i.2.1
    by_cases e : d = n
    · subst e
      exact b_dir_hit (by omega) h1 h2
    · exact b_dir_mono (by omega) (b_dirs_hit hg ha hv h h1 h2 n (by omega) (by omega))
theorem b_dirs_vis {nb : Int → Int → Int} {O : Int → Prop} [DecidablePred O] {a : Int} {st : bSt} {j : Nat} : ∀ n, ¬ (b_dirs nb O a st n).1 j = -1 → ¬ st.1 j = -1 ∨ ∃ d : Nat, d < n ∧ j = (nb a d).toNat ∧ ¬ nb a d = -1 ∧ O (nb a d)
  | 0, h => Or.inl h
  | n + 1, h => by
    rcases b_dir_vis h with h1 | h1
    · rcases b_dirs_vis n h1 with h2 | ⟨d, h2, h3⟩
      · exact Or.inl h2
      · exact Or.inr ⟨d, by omega, h3⟩
    · exact Or.inr ⟨n, by omega, h1⟩
