/-! ===== sets of heights: bits of two longs; levels ===== -/
def pb (u v : Int) (h : Nat) : Bool := if h < 64 then bJ u h else bJ v (h - 64)
def hb (F : Nat → Int) (x : Int) (h : Nat) : Bool := pb (F (2 * x).toNat) (F ((2 * x) + 1).toNat) h
theorem pb_and {u v u' v' : Int} {h : Nat} : pb (m_land u u') (m_land v v') h = (pb u v h && pb u' v' h) := by
  unfold pb
  by_cases e : h < 64
  · rw [if_pos e, if_pos e, if_pos e, bJ_and]
  · rw [if_neg e, if_neg e, if_neg e, bJ_and]
theorem pb_or {u v u' v' : Int} {h : Nat} : pb (m_lor u u') (m_lor v v') h = (pb u v h || pb u' v' h) := by
  unfold pb
  by_cases e : h < 64
  · rw [if_pos e, if_pos e, if_pos e, bJ_or]
  · rw [if_neg e, if_neg e, if_neg e, bJ_or]
theorem pb_not {u v : Int} {h : Nat} (hh : h < 128) : pb (m_lxor u (-1)) (m_lxor v (-1)) h = !pb u v h := by
  unfold pb
  by_cases e : h < 64
  · rw [if_pos e, if_pos e, bJ_xor, bJ_m1 h e, Bool.xor_true]
  · rw [if_neg e, if_neg e, bJ_xor, bJ_m1 (h - 64) (by omega), Bool.xor_true]
theorem pb_0 {h : Nat} (hh : h < 128) : pb 0 0 h = false := by
  unfold pb
  by_cases e : h < 64
  · rw [if_pos e, bJ_0 h e]
  · rw [if_neg e, bJ_0 (h - 64) (by omega)]
theorem pb_zero {u v : Int} : m_lor u v = 0 ↔ ∀ h, h < 128 → pb u v h = false := by
  constructor
  · intro e h hh
    have key : ∀ i, i < 64 → (bJ u i || bJ v i) = false := fun i hi => by rw [← bJ_or, e, bJ_0 i hi]
    unfold pb
    by_cases e2 : h < 64
    · rw [if_pos e2]
      have := key h e2
      rw [Bool.or_eq_false_iff] at this
      exact this.1
    · rw [if_neg e2]
      have := key (h - 64) (by omega)
      rw [Bool.or_eq_false_iff] at this
      exact this.2
  · intro h
    refine bJ_ext (r_lor u v) (by decide) (fun i hi => ?_)
    have h1 := h i (by omega)
    have h2 := h (i + 64) (by omega)
    unfold pb at h1 h2
    rw [if_pos hi] at h1
    rw [if_neg (by omega), show i + 64 - 64 = i by omega] at h2
    rw [bJ_or, h1, h2, bJ_0 i hi]
    rfl
theorem pb_some {u v : Int} (hne : ¬ m_lor u v = 0) : ∃ h, h < 128 ∧ pb u v h = true := Classical.byContradiction (fun z => hne (pb_zero.mpr (fun h hh => by
  cases e : pb u v h
  · rfl
  · exact absurd ⟨h, hh, e⟩ z)))
theorem cmp0 {z : Int} : m_cmp z 0 = 0 ↔ z = 0 := by
  unfold m_cmp
  by_cases h1 : z > 0
  · rw [if_pos h1]; constructor <;> intro h <;> omega
  · rw [if_neg h1]
    by_cases h2 : z = 0
    · rw [if_pos h2]; exact ⟨fun _ => h2, fun _ => rfl⟩
    · rw [if_neg h2]; exact ⟨fun h => absurd h (by decide), fun h => absurd h h2⟩
theorem hb_same {F F' : Nat → Int} {x : Int} (h0 : F' (2 * x).toNat = F (2 * x).toNat) (h1 : F' ((2 * x) + 1).toNat = F ((2 * x) + 1).toNat) (h : Nat) : hb F' x h = hb F x h := by
  unfold hb
  rw [h0, h1]
theorem hb_set {F : Nat → Int} {a x u v : Int} (ha : 0 ≤ a) (hx : 0 ≤ x) (h : Nat) : hb (fs (fs F (2 * a).toNat u) ((2 * a) + 1).toNat v) x h = if x = a then pb u v h else hb F x h := by
  by_cases e : x = a
  · subst e
    rw [if_pos rfl]
    unfold hb
    rw [fs_eq, fs_ne (show ¬ (2 * x).toNat = ((2 * x) + 1).toNat by omega), fs_eq]
  · rw [if_neg e]
    refine hb_same ?_ ?_ h
    · rw [fs_ne (by omega), fs_ne (by omega)]
    · rw [fs_ne (by omega), fs_ne (by omega)]
/-! levels of (cell, height) -/
def LV (nb : Int → Int → Int) (G : Int → Prop) (Sd : Int → Nat → Prop) (ld : Int → Prop) (I : Int → Nat → Prop) : Nat → Int → Nat → Prop
  | 0, x, h => I x h
  | k + 1, x, h => LV nb G Sd ld I k x h ∨ ∃ (y : Int) (d h' : Nat), d < 4 ∧ G y ∧ nb y d = x ∧ ¬ x = -1 ∧ LV nb G Sd ld I k y h' ∧ Sd x h' ∧ Sd x h ∧ (h = h' ∨ ld x)
/-- what the start must be -/
def LI (G : Int → Prop) (Sd : Int → Nat → Prop) (ld : Int → Prop) (I : Int → Nat → Prop) : Prop := (∀ x h, I x h → G x ∧ Sd x h) ∧ ∀ x h h', I x h → ld x → Sd x h' → I x h'
theorem lv_s {nb : Int → Int → Int} {G : Int → Prop} {Sd : Int → Nat → Prop} {ld : Int → Prop} {I : Int → Nat → Prop} {k : Nat} {x : Int} {h : Nat} (z : LV nb G Sd ld I k x h) : LV nb G Sd ld I (k + 1) x h := Or.inl z
theorem lv_le {nb : Int → Int → Int} {G : Int → Prop} {Sd : Int → Nat → Prop} {ld : Int → Prop} {I : Int → Nat → Prop} {x : Int} {h k : Nat} (z : LV nb G Sd ld I k x h) : ∀ m : Nat, LV nb G Sd ld I (k + m) x h
  | 0 => z
  | m + 1 => lv_s (lv_le z m)
theorem lv_G {nb : Int → Int → Int} {G : Int → Prop} {Sd : Int → Nat → Prop} {ld : Int → Prop} {I : Int → Nat → Prop} (hg : GR nb G) (hI : LI G Sd ld I) : ∀ (k : Nat) (x : Int) (h : Nat), LV nb G Sd ld I k x h → G x ∧ Sd x h
  | 0, x, h, z => hI.1 x h z
  | k + 1, x, h, z => by
    rcases z with z | ⟨y, d, h', z1, z2, z3, z4, z5, z6, z7, z8⟩
    · exact lv_G hg hI k x h z
    · refine ⟨?_, z7⟩
      have := hg.2 y d z2 (by omega) (by omega)
      rw [z3] at this
      exact this.resolve_left z4
theorem lv_ld {nb : Int → Int → Int} {G : Int → Prop} {Sd : Int → Nat → Prop} {ld : Int → Prop} {I : Int → Nat → Prop} (hI : LI G Sd ld I) : ∀ (k : Nat) (x : Int) (h h2 : Nat), LV nb G Sd ld I k x h → ld x → Sd x h2 → LV nb G Sd ld I k x h2
  | 0, x, h, h2, z, l, s => hI.2 x h h2 z l s
  | k + 1, x, h, h2, z, l, s => by
    rcases z with z | ⟨y, d, h', z1, z2, z3, z4, z5, z6, z7, z8⟩
    · exact Or.inl (lv_ld hI k x h h2 z l s)
    · exact Or.inr ⟨y, d, h', z1, z2, z3, z4, z5, z6, s, Or.inr l⟩
/-- once nothing is new, nothing will be -/
theorem lv_stop {nb : Int → Int → Int} {G : Int → Prop} {Sd : Int → Nat → Prop} {ld : Int → Prop} {I : Int → Nat → Prop} {k : Nat} (hs : ∀ x h, LV nb G Sd ld I (k + 1) x h → LV nb G Sd ld I k x h) : ∀ (m : Nat) (x : Int) (h : Nat), LV nb G Sd ld I (k + m) x h → LV nb G Sd ld I k x h
  | 0, _, _, z => z
  | m + 1, x, h, z => by
    rcases z with z | ⟨y, d, h', z1, z2, z3, z4, z5, z6, z7, z8⟩
    · exact lv_stop hs m x h z
    · exact hs x h (Or.inr ⟨y, d, h', z1, z2, z3, z4, lv_stop hs m y h' z5, z6, z7, z8⟩)
/-- who is fresh at level k -/
def LF (nb : Int → Int → Int) (G : Int → Prop) (Sd : Int → Nat → Prop) (ld : Int → Prop) (I : Int → Nat → Prop) (k : Nat) (x : Int) (h : Nat) : Prop := LV nb G Sd ld I k x h ∧ ∀ m, m + 1 = k → ¬ LV nb G Sd ld I m x h
/-- who comes from the fresh: new there -/
def LC (nb : Int → Int → Int) (G : Int → Prop) (Sd : Int → Nat → Prop) (ld : Int → Prop) (I : Int → Nat → Prop) (k : Nat) (x : Int) (h : Nat) : Prop := Sd x h ∧ ¬ LV nb G Sd ld I k x h ∧ ∃ (y : Int) (d : Nat), d < 4 ∧ G y ∧ nb y d = x ∧ ¬ x = -1 ∧ LF nb G Sd ld I k y h
theorem lf_next {nb : Int → Int → Int} {G : Int → Prop} {Sd : Int → Nat → Prop} {ld : Int → Prop} {I : Int → Nat → Prop} (hg : GR nb G) (hI : LI G Sd ld I) {k : Nat} {x : Int} {h : Nat} : LF nb G Sd ld I (k + 1) x h ↔ ((∃ h', LC nb G Sd ld I k x h') ∧ ((ld x ∧ Sd x h ∧ ¬ LV nb G Sd ld I k x h) ∨ (¬ ld x ∧ LC nb G Sd ld I k x h))) := by
  constructor
  · rintro ⟨z, hn⟩
    have hn := hn k rfl
    rcases z with z | ⟨y, d, h', z1, z2, z3, z4, z5, z6, z7, z8⟩
    · exact absurd z hn
    · have hf : LF nb G Sd ld I k y h' := by
        refine ⟨z5, fun m hm q => hn ?_⟩
        subst hm
        exact Or.inr ⟨y, d, h', z1, z2, z3, z4, q, z6, z7, z8⟩
      have hnew : ¬ LV nb G Sd ld I k x h' := fun q => by
        rcases z8 with e | l
        · rw [e] at hn; exact hn q
        · exact hn (lv_ld hI k x h' h q l z7)
      have hc : LC nb G Sd ld I k x h' := ⟨z6, hnew, y, d, z1, z2, z3, z4, hf⟩
      refine ⟨⟨h', hc⟩, ?_⟩
      by_cases l : ld x
      · exact Or.inl ⟨l, z7, hn⟩
      · rcases z8 with e | l2
        · exact Or.inr ⟨l, by rw [e]; exact hc⟩
        · exact absurd l2 l
  · rintro ⟨⟨h', c1, c2, y, d, c3, c4, c5, c6, c7⟩, hh⟩
    rcases hh with ⟨l, s, n⟩ | ⟨l, b1, b2, y2, d2, b3, b4, b5, b6, b7⟩
    · refine ⟨Or.inr ⟨y, d, h', c3, c4, c5, c6, c7.1, c1, s, Or.inr l⟩, fun m hm => ?_⟩
      have : m = k := by omega
      rw [this]; exact n
    · refine ⟨Or.inr ⟨y2, d2, h, b3, b4, b5, b6, b7.1, b1, b1, Or.inl rfl⟩, fun m hm => ?_⟩
      have : m = k := by omega
      rw [this]; exact b2
theorem lv_next {nb : Int → Int → Int} {G : Int → Prop} {Sd : Int → Nat → Prop} {ld : Int → Prop} {I : Int → Nat → Prop} {k : Nat} {x : Int} {h : Nat} : LV nb G Sd ld I (k + 1) x h ↔ (LV nb G Sd ld I k x h ∨ LF nb G Sd ld I (k + 1) x h) := by
  constructor
  · intro z
    by_cases q : LV nb G Sd ld I k x h
    · exact Or.inl q
    · refine Or.inr ⟨z, fun m hm => ?_⟩
      have : m = k := by omega
      rw [this]; exact q
  · intro z
    rcases z with z | z
    · exact lv_s z
    · exact z.1
