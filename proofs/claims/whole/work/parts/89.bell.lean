/-! ===== least risk: Bellman's equation has one solution; Dijkstra's and Bellman's invariants ===== -/
def BE (nb : Int → Int → Int) (O G : Int → Prop) (W : Int → Int → Int) (a : Int) (C : Nat → Int) : Prop :=
  C a.toNat = 0 ∧ (∀ x, G x → 0 ≤ C x.toNat ∧ C x.toNat ≤ 1000000000) ∧
  (∀ (x : Int) (d : Nat), G x → O x → d < 4 → ¬ nb x d = -1 → C (nb x d).toNat < 1000000000 → C x.toNat ≤ C (nb x d).toNat + W x (nb x d)) ∧
  (∀ x, G x → ¬ x = a → C x.toNat < 1000000000 → O x ∧ ∃ d : Nat, d < 4 ∧ ¬ nb x d = -1 ∧ C (nb x d).toNat < 1000000000 ∧ C x.toNat = C (nb x d).toNat + W x (nb x d))
theorem be_le {nb : Int → Int → Int} {O G : Int → Prop} {W : Int → Int → Int} {a : Int} (hg : GR nb G) (hW : ∀ x y, G x → G y → 1 ≤ W x y) {C C' : Nat → Int} (h : BE nb O G W a C) (h' : BE nb O G W a C') : ∀ (n : Nat) (x : Int), G x → C x.toNat ≤ n → C x.toNat < 1000000000 → C' x.toNat ≤ C x.toNat := by
  intro n
  induction n with
  | zero =>
    intro x hx hn hf
    have b := h.2.1 x hx
    by_cases e : x = a
    · rw [e, h.1, h'.1]; exact Int.le_refl 0
    · obtain ⟨-, d, h1, h2, h3, h4⟩ := h.2.2.2 x hx e hf
      have hy := (hg.2 x d hx (by omega) (by omega)).resolve_left h2
      have b2 := h.2.1 _ hy
      have w := hW x _ hx hy
      omega
  | succ n ih =>
    intro x hx hn hf
    by_cases e : x = a
    · rw [e, h.1, h'.1]; exact Int.le_refl 0
    · obtain ⟨ho, d, h1, h2, h3, h4⟩ := h.2.2.2 x hx e hf
      have hy := (hg.2 x d hx (by omega) (by omega)).resolve_left h2
      have w := hW x _ hx hy
      have i := ih _ hy (by omega) h3
      have z := h'.2.2.1 x d hx ho h1 h2 (by omega)
      omega
theorem be_eq {nb : Int → Int → Int} {O G : Int → Prop} {W : Int → Int → Int} {a : Int} (hg : GR nb G) (hW : ∀ x y, G x → G y → 1 ≤ W x y) {C C' : Nat → Int} (h : BE nb O G W a C) (h' : BE nb O G W a C') {x : Int} (hx : G x) : C x.toNat = C' x.toNat := by
  have b := h.2.1 x hx
  have b' := h'.2.1 x hx
  have l1 := be_le hg hW h h' (C x.toNat).toNat x hx (by omega)
  have l2 := be_le hg hW h' h (C' x.toNat).toNat x hx (by omega)
  by_cases e : C x.toNat < 1000000000
  · have := l1 e
    have := l2 (by omega)
    omega
  · by_cases e' : C' x.toNat < 1000000000
    · have := l2 e'
      omega
    · omega
/-- relaxation along the first n directions of a cell -/
def rx (nb : Int → Int → Int) (W : Int → Int → Int) (Z : Nat → Int) (x : Int) (C : Nat → Int) : Nat → Nat → Int
  | 0 => C
  | n + 1 => if ¬ nb x n = -1 ∧ Z (nb x n).toNat = 0 then fs (rx nb W Z x C n) (nb x n).toNat (if rx nb W Z x C n x.toNat + W x (nb x n) < rx nb W Z x C n (nb x n).toNat then rx nb W Z x C n x.toNat + W x (nb x n) else rx nb W Z x C n (nb x n).toNat) else rx nb W Z x C n
theorem rx_p {nb : Int → Int → Int} {W : Int → Int → Int} {Z : Nat → Int} {x : Int} {C : Nat → Int} {n : Nat} (h : ¬ nb x n = -1 ∧ Z (nb x n).toNat = 0) : rx nb W Z x C (n + 1) = fs (rx nb W Z x C n) (nb x n).toNat (if rx nb W Z x C n x.toNat + W x (nb x n) < rx nb W Z x C n (nb x n).toNat then rx nb W Z x C n x.toNat + W x (nb x n) else rx nb W Z x C n (nb x n).toNat) := if_pos h
theorem rx_n {nb : Int → Int → Int} {W : Int → Int → Int} {Z : Nat → Int} {x : Int} {C : Nat → Int} {n : Nat} (h : ¬ (¬ nb x n = -1 ∧ Z (nb x n).toNat = 0)) : rx nb W Z x C (n + 1) = rx nb W Z x C n := if_neg h
theorem rx_ok {nb : Int → Int → Int} {W : Int → Int → Int} {Z : Nat → Int} {x : Int} {C : Nat → Int} (hz : ¬ Z x.toNat = 0) : ∀ n : Nat,
    (∀ j, rx nb W Z x C n j ≤ C j) ∧ (∀ j, ¬ Z j = 0 → rx nb W Z x C n j = C j) ∧
    (∀ d : Nat, d < n → ¬ nb x d = -1 → Z (nb x d).toNat = 0 → rx nb W Z x C n (nb x d).toNat ≤ C x.toNat + W x (nb x d)) ∧
    (∀ j, rx nb W Z x C n j = C j ∨ ∃ d : Nat, d < n ∧ ¬ nb x d = -1 ∧ (nb x d).toNat = j ∧ Z j = 0 ∧ rx nb W Z x C n j = C x.toNat + W x (nb x d))
  | 0 => ⟨fun _ => Int.le_refl _, fun _ _ => rfl, fun d hd => by omega, fun _ => Or.inl rfl⟩
  | n + 1 => by
    obtain ⟨h1, h2, h3, h4⟩ := rx_ok (nb := nb) (W := W) (C := C) hz n
    by_cases hc : ¬ nb x n = -1 ∧ Z (nb x n).toNat = 0
    · have hx := h2 x.toNat hz
      have key : ∀ j, rx nb W Z x C (n + 1) j = if j = (nb x n).toNat then (if C x.toNat + W x (nb x n) < rx nb W Z x C n (nb x n).toNat then C x.toNat + W x (nb x n) else rx nb W Z x C n (nb x n).toNat) else rx nb W Z x C n j := fun j => by
        rw [rx_p hc, hx]
        rfl
      have lo : ∀ j, rx nb W Z x C (n + 1) j ≤ rx nb W Z x C n j := fun j => by
        rw [key j]
        by_cases e : j = (nb x n).toNat
        · rw [if_pos e, e]
          split <;> omega
        · rw [if_neg e]; exact Int.le_refl _
      refine ⟨fun j => Int.le_trans (lo j) (h1 j), ?_, ?_, ?_⟩
      · intro j hj
        rw [key j, if_neg (fun e => hj (by rw [e]; exact hc.2))]
        exact h2 j hj
      · intro d hd hd1 hd2
        by_cases e : d = n
        · subst e
          rw [key, if_pos rfl]
          split <;> omega
        · exact Int.le_trans (lo _) (h3 d (by omega) hd1 hd2)
      · intro j
        rw [key j]
        by_cases e : j = (nb x n).toNat
        · rw [if_pos e]
          by_cases e2 : C x.toNat + W x (nb x n) < rx nb W Z x C n (nb x n).toNat
          · rw [if_pos e2]
            exact Or.inr ⟨n, by omega, hc.1, e.symm, by rw [e]; exact hc.2, rfl⟩
          · rw [if_neg e2, ← e]
            rcases h4 j with z | ⟨d, z1, z2⟩
            · exact Or.inl z
            · exact Or.inr ⟨d, by omega, z2⟩
        · rw [if_neg e]
          rcases h4 j with z | ⟨d, z1, z2⟩
          · exact Or.inl z
          · exact Or.inr ⟨d, by omega, z2⟩
    · rw [rx_n hc]
      refine ⟨h1, h2, ?_, ?_⟩
      · intro d hd hd1 hd2
        by_cases e : d = n
        · subst e; exact absurd ⟨hd1, hd2⟩ hc
        · exact h3 d (by omega) hd1 hd2
      · intro j
        rcases h4 j with z | ⟨d, z1, z2⟩
        · exact Or.inl z
        · exact Or.inr ⟨d, by omega, z2⟩
/-- Dijkstra: r rounds done; costs C, closed Z, over the numbers below S -/
def DJ (nb : Int → Int → Int) (O G : Int → Prop) (W : Int → Int → Int) (a : Int) (S : Nat) (r : Nat) (C Z : Nat → Int) : Prop :=
  C a.toNat = 0 ∧
  (∀ j, j < S → (Z j = 0 ∨ Z j = 1) ∧ 0 ≤ C j ∧ (C j = 1000000000 ∨ C j ≤ 1079001 * (r : Int))) ∧
  (∀ j : Nat, j < S → ¬ G (j : Int) → C j = 1000000000) ∧
  (∀ x, G x → ¬ O x → Z x.toNat = 1 ∧ C x.toNat = 1000000000) ∧
  (∀ x, G x → O x → Z x.toNat = 1 → C x.toNat < 1000000000 ∧ ∀ d : Nat, d < 4 → ¬ nb x d = -1 → O (nb x d) → C (nb x d).toNat ≤ C x.toNat + W x (nb x d)) ∧
  (∀ x y, G x → O x → G y → Z x.toNat = 1 → Z y.toNat = 0 → C x.toNat ≤ C y.toNat) ∧
  (∀ x, G x → ¬ x = a → C x.toNat < 1000000000 → ∃ d : Nat, d < 4 ∧ ¬ nb x d = -1 ∧ O (nb x d) ∧ Z (nb x d).toNat = 1 ∧ C x.toNat = C (nb x d).toNat + W x (nb x d)) ∧
  r ≤ cn (fun j => Z j - 1) S
/-- the cheapest that isn't closed -/
abbrev djf (C Z : Nat → Int) (j : Nat) : Int := if Z j = 0 ∧ C j < 1000000000 then C j else -1
theorem dj_end {nb : Int → Int → Int} {O G : Int → Prop} {W : Int → Int → Int} {a : Int} {S r : Nat} {C Z : Nat → Int} (hg : GR nb G) (hS : ∀ x, G x → x.toNat < S) (hsy : ∀ x (d : Nat), G x → d < 4 → ¬ nb x d = -1 → ∃ e : Nat, e < 4 ∧ nb (nb x d) e = x) (hWs : ∀ x y, W x y = W y x) (hr : r < 101) (h : DJ nb O G W a S r C Z) (he : ba (djf C Z) S = -1) : BE nb O G W a C := by
  obtain ⟨h1, h2, h3, h4, h5, h6, h7, h8⟩ := h
  have hn := ba_none S he
  refine ⟨h1, ?_, ?_, ?_⟩
  · intro x hx
    have b := h2 x.toNat (hS x hx)
    exact ⟨b.2.1, by have := b.2.2; omega⟩
  · intro x d hx ho hd h9 h10
    have hy := (hg.2 x d hx (by omega) (by omega)).resolve_left h9
    have b := h2 (nb x d).toNat (hS _ hy)
    have hoy : O (nb x d) := Classical.byContradiction (fun z => by have := (h4 _ hy z).2; omega)
    have hzy : Z (nb x d).toNat = 1 := by
      rcases b.1 with z | z
      · have hc := hn (nb x d).toNat (hS _ hy)
        unfold djf at hc
        rw [if_pos ⟨z, h10⟩] at hc
        omega
      · exact z
    obtain ⟨e, he1, he2⟩ := hsy x d hx hd h9
    have h11 := (h5 _ hy hoy hzy).2 e he1 (by rw [he2]; have := hg.1 x hx; omega) (by rw [he2]; exact ho)
    rw [he2, hWs] at h11
    exact h11
  · intro x hx hne hf
    obtain ⟨d, d1, d2, d3, d4, d5⟩ := h7 x hx hne hf
    have hy := (hg.2 x d hx (by omega) (by omega)).resolve_left d2
    exact ⟨Classical.byContradiction (fun z => by have := (h4 x hx z).2; omega), d, d1, d2, (h5 _ hy d3 d4).1, d5⟩
theorem dj_step {nb : Int → Int → Int} {O G : Int → Prop} {W : Int → Int → Int} {a : Int} {S r : Nat} {C Z : Nat → Int} (hg : GR nb G) (hS : ∀ x, G x → x.toNat < S) (hsy : ∀ x (d : Nat), G x → d < 4 → ¬ nb x d = -1 → ∃ e : Nat, e < 4 ∧ nb (nb x d) e = x) (hWs : ∀ x y, W x y = W y x) (hW : ∀ x y, G x → G y → 1 ≤ W x y ∧ W x y ≤ 1079001) (hr : r < 101) (ha : G a) (h : DJ nb O G W a S r C Z) {x : Int} (hx : G x) (hxz : Z x.toNat = 0) (hxf : C x.toNat < 1000000000) (hmin : ∀ y, G y → Z y.toNat = 0 → C x.toNat ≤ C y.toNat) : DJ nb O G W a S (r + 1) (rx nb W (fs Z x.toNat 1) x C 4) (fs Z x.toNat 1) := by
  obtain ⟨h1, h2, h3, h4, h5, h6, h7, h8⟩ := h
  have hox : O x := Classical.byContradiction (fun z => by have := (h4 x hx z).1; omega)
  have inj : ∀ y, G y → y.toNat = x.toNat → y = x := fun y hy e => by
    have := hg.1 y hy
    have := hg.1 x hx
    omega
  obtain ⟨r1, r2, r3, r4⟩ := rx_ok (nb := nb) (W := W) (Z := fs Z x.toNat 1) (x := x) (C := C) (by rw [fs_eq]; decide) 4
  have cz : ∀ y, G y → fs Z x.toNat 1 y.toNat = 0 → Z y.toNat = 0 ∧ ¬ y = x := fun y hy z => by
    by_cases e : y.toNat = x.toNat
    · rw [e, fs_eq] at z; exact absurd z (by decide)
    · rw [fs_ne e] at z; exact ⟨z, fun q => e (by rw [q])⟩
  have cx : rx nb W (fs Z x.toNat 1) x C 4 x.toNat = C x.toNat := r2 _ (by rw [fs_eq]; decide)
  have bx := h2 x.toNat (hS x hx)
  have lo : ∀ y, G y → Z y.toNat = 0 → C x.toNat ≤ rx nb W (fs Z x.toNat 1) x C 4 y.toNat := fun y hy z => by
    rcases r4 y.toNat with e | ⟨d, d1, d2, d3, d4, d5⟩
    · rw [e]; exact hmin y hy z
    · have := hW x _ hx ((hg.2 x d hx (by omega) (by omega)).resolve_left d2)
      omega
  refine ⟨?_, ?_, ?_, ?_, ?_, ?_, ?_, ?_⟩
  · rcases r4 a.toNat with e | ⟨d, d1, d2, d3, d4, d5⟩
    · rw [e]; exact h1
    · have := hW x _ hx ((hg.2 x d hx (by omega) (by omega)).resolve_left d2)
      have := r1 a.toNat
      omega
  · intro j hj
    have b := h2 j hj
    refine ⟨?_, ?_⟩
    · by_cases e : j = x.toNat
      · rw [e, fs_eq]; exact Or.inr rfl
      · rw [fs_ne e]; exact b.1
    · rcases r4 j with e | ⟨d, d1, d2, d3, d4, d5⟩
      · rw [e]
        refine ⟨b.2.1, ?_⟩
        rcases b.2.2 with z | z
        · exact Or.inl z
        · exact Or.inr (by omega)
      · have := hW x _ hx ((hg.2 x d hx (by omega) (by omega)).resolve_left d2)
        have := bx.2
        rw [d5]
        refine ⟨by omega, Or.inr ?_⟩
        omega
  · intro j hj hn
    rcases r4 j with e | ⟨d, d1, d2, d3, d4, d5⟩
    · rw [e]; exact h3 j hj hn
    · have hy := (hg.2 x d hx (by omega) (by omega)).resolve_left d2
      have := hg.1 _ hy
      exact absurd (by rw [show (j : Int) = nb x d by omega]; exact hy) hn
  · intro y hy ho
    have z := h4 y hy ho
    have hne : ¬ y.toNat = x.toNat := fun e => ho (by rw [inj y hy e]; exact hox)
    rw [fs_ne hne]
    refine ⟨z.1, ?_⟩
    rw [r2 _ (by rw [fs_ne hne, z.1]; decide)]
    exact z.2
  · intro y hy ho hz
    by_cases e : y = x
    · rw [e, cx]
      refine ⟨hxf, fun d hd d1 d2 => ?_⟩
      have hn := (hg.2 x d hx (by omega) (by omega)).resolve_left d1
      by_cases q : fs Z x.toNat 1 (nb x d).toNat = 0
      · exact r3 d hd d1 q
      · rw [r2 _ q]
        by_cases e2 : (nb x d).toNat = x.toNat
        · have := hW x _ hx hn
          rw [e2]; omega
        · rw [fs_ne e2] at q
          have b := h2 _ (hS _ hn)
          have := h6 _ x hn d2 hx (by omega) hxz
          have := hW x _ hx hn
          omega
    · have e2 : ¬ y.toNat = x.toNat := fun q => e (inj y hy q)
      rw [fs_ne e2] at hz
      have z := h5 y hy ho hz
      rw [r2 y.toNat (by rw [fs_ne e2, hz]; decide)]
      exact ⟨z.1, fun d hd d1 d2 => Int.le_trans (r1 _) (z.2 d hd d1 d2)⟩
  · intro u y hu ho hy hz1 hz0
    obtain ⟨z0, ny⟩ := cz y hy hz0
    have l := lo y hy z0
    by_cases e : u = x
    · rw [e, cx]; exact l
    · have e2 : ¬ u.toNat = x.toNat := fun q => e (inj u hu q)
      rw [fs_ne e2] at hz1
      rw [r2 u.toNat (by rw [fs_ne e2, hz1]; decide)]
      exact Int.le_trans (h6 u x hu ho hx hz1 hxz) l
  · intro y hy hne hf
    rcases r4 y.toNat with e | ⟨d, d1, d2, d3, d4, d5⟩
    · rw [e] at hf ⊢
      obtain ⟨d, d1, d2, d3, d4, d5⟩ := h7 y hy hne hf
      have hn := (hg.2 y d hy (by omega) (by omega)).resolve_left d2
      have ne : ¬ (nb y d).toNat = x.toNat := fun q => by rw [q] at d4; omega
      refine ⟨d, d1, d2, d3, by rw [fs_ne ne]; exact d4, ?_⟩
      rw [r2 (nb y d).toNat (by rw [fs_ne ne, d4]; decide)]
      exact d5
    · have hn := (hg.2 x d hx (by omega) (by omega)).resolve_left d2
      have ey : nb x d = y := by
        have := hg.1 _ hn
        have := hg.1 _ hy
        omega
      obtain ⟨e, e1, e2⟩ := hsy x d hx d1 d2
      rw [ey] at e2
      refine ⟨e, e1, by rw [e2]; have := hg.1 x hx; omega, by rw [e2]; exact hox, by rw [e2, fs_eq], ?_⟩
      rw [e2, cx, d5, ey, hWs]
  · have e : (fun j => fs Z x.toNat 1 j - 1) = fs (fun j => Z j - 1) x.toNat 0 := by
      funext j
      unfold fs
      by_cases q : j = x.toNat
      · rw [if_pos q, if_pos q]; decide
      · rw [if_neg q, if_neg q]
    rw [e, cn_fs (F := fun j => Z j - 1) (x := x.toNat) (v := 0) (by show Z x.toNat - 1 = -1; omega) (by decide) S (hS x hx)]
    omega
/-- Bellman: costs that are reached from above -/
def BF (nb : Int → Int → Int) (O G : Int → Prop) (W : Int → Int → Int) (a : Int) (C : Nat → Int) : Prop :=
  C a.toNat = 0 ∧ (∀ j, j < 100 → 0 ≤ C j ∧ C j ≤ 1000000000) ∧
  (∀ x, G x → ¬ x = a → C x.toNat < 1000000000 → O x ∧ ∃ d : Nat, d < 4 ∧ ¬ nb x d = -1 ∧ C (nb x d).toNat < 1000000000 ∧ C (nb x d).toNat + W x (nb x d) ≤ C x.toNat)
theorem bf_step {nb : Int → Int → Int} {O G : Int → Prop} {W : Int → Int → Int} {a : Int} {C : Nat → Int} (hg : GR nb G) (hW : ∀ x y, G x → G y → 1 ≤ W x y) (ha : G a) (h : BF nb O G W a C) {x : Int} {d : Nat} (hx : G x) (ho : O x) (hd : d < 4) (h1 : ¬ nb x d = -1) (h2 : C (nb x d).toNat < 1000000000) (h3 : C (nb x d).toNat + W x (nb x d) < C x.toNat) : BF nb O G W a (fs C x.toNat (C (nb x d).toNat + W x (nb x d))) := by
  obtain ⟨a1, a2, a3⟩ := h
  have hy := (hg.2 x d hx (by omega) (by omega)).resolve_left h1
  have w := hW x _ hx hy
  have bx := hg.1 x hx
  have by_ := hg.1 _ hy
  have cy := a2 (nb x d).toNat (by omega)
  have cx := a2 x.toNat (by omega)
  have ne : ¬ (nb x d).toNat = x.toNat := fun e => by rw [e] at h3; omega
  refine ⟨?_, ?_, ?_⟩
  · rw [fs_ne (fun e => by rw [e] at a1; omega)]; exact a1
  · intro j hj
    by_cases e : j = x.toNat
    · rw [e, fs_eq]; omega
    · rw [fs_ne e]; exact a2 j hj
  · intro u hu hne hf
    by_cases e : u.toNat = x.toNat
    · have eu : u = x := by have := hg.1 u hu; omega
      subst eu
      refine ⟨ho, d, hd, h1, by rw [fs_ne ne]; exact h2, ?_⟩
      rw [fs_ne ne, fs_eq]
      exact Int.le_refl _
    · rw [fs_ne e] at hf ⊢
      obtain ⟨o1, d', d1, d2, d3, d4⟩ := a3 u hu hne hf
      refine ⟨o1, d', d1, d2, ?_⟩
      by_cases e2 : (nb u d').toNat = x.toNat
      · rw [e2] at d3 d4 ⊢
        rw [fs_eq]; omega
      · rw [fs_ne e2]; exact ⟨d3, d4⟩
theorem bf_end {nb : Int → Int → Int} {O G : Int → Prop} {W : Int → Int → Int} {a : Int} {C : Nat → Int} (hg : GR nb G) (h : BF nb O G W a C) (hf : ∀ (x : Int) (d : Nat), G x → O x → d < 4 → ¬ nb x d = -1 → C (nb x d).toNat < 1000000000 → C x.toNat ≤ C (nb x d).toNat + W x (nb x d)) : BE nb O G W a C := by
  obtain ⟨a1, a2, a3⟩ := h
  refine ⟨a1, fun x hx => a2 _ (by have := hg.1 x hx; omega), hf, ?_⟩
  intro x hx hne hl
  obtain ⟨o1, d, d1, d2, d3, d4⟩ := a3 x hx hne hl
  have := hf x d hx o1 d1 d2 d3
  exact ⟨o1, d, d1, d2, d3, by omega⟩
theorem sS_fs {C : Nat → Int} {i : Nat} {v : Int} : ∀ n : Nat, i < n → sS (fs C i v) n = sS C n - C i + v
  | 0, h => by omega
  | n + 1, h => by
    show sS (fs C i v) n + fs C i v n = sS C n + C n - C i + v
    by_cases e : i = n
    · subst e
      rw [fs_eq, sS_congr (u := C) i (fun k hk => fs_ne (by omega))]
      omega
    · rw [sS_fs n (by omega), fs_ne (fun z => e z.symm)]
      omega
/-! ways along the costs -/
/-- how many are cheaper -/
def ct (C : Nat → Int) (v : Int) : Nat → Nat
  | 0 => 0
  | n + 1 => ct C v n + (if C n < v then 1 else 0)
theorem ct_le {C : Nat → Int} {v : Int} : ∀ n, ct C v n ≤ n
  | 0 => Nat.le_refl 0
  | n + 1 => by
    have := ct_le (C := C) (v := v) n
    show ct C v n + (if C n < v then 1 else 0) ≤ n + 1
    split <;> omega
theorem ct_mono {C : Nat → Int} {u v : Int} (h : u ≤ v) : ∀ n, ct C u n ≤ ct C v n
  | 0 => Nat.le_refl 0
  | n + 1 => by
    have := ct_mono (C := C) h n
    show ct C u n + (if C n < u then 1 else 0) ≤ ct C v n + (if C n < v then 1 else 0)
    by_cases e : C n < u
    · rw [if_pos e, if_pos (by omega)]; omega
    · rw [if_neg e]; omega
theorem ct_lt {C : Nat → Int} {v : Int} {y : Nat} (h : C y < v) : ∀ n, y < n → ct C (C y) n < ct C v n
  | 0, hy => by omega
  | n + 1, hy => by
    show ct C (C y) n + (if C n < C y then 1 else 0) < ct C v n + (if C n < v then 1 else 0)
    by_cases e : y = n
    · subst e
      have := ct_mono (C := C) (u := C y) (v := v) (by omega) y
      rw [if_neg (by omega), if_pos h]; omega
    · have := ct_lt h n (by omega)
      by_cases e2 : C n < C y
      · rw [if_pos e2, if_pos (by omega)]; omega
      · rw [if_neg e2]; omega
theorem ct_top {C : Nat → Int} {y : Nat} : ∀ n, y < n → ct C (C y) n < n
  | 0, hy => by omega
  | n + 1, hy => by
    show ct C (C y) n + (if C n < C y then 1 else 0) < n + 1
    by_cases e : y = n
    · subst e
      have := ct_le (C := C) (v := C y) y
      rw [if_neg (by omega)]; omega
    · have := ct_top (C := C) n (show y < n by omega)
      split <;> omega
