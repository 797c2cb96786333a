variable {N : Int}
/-! ===== printed by wip/whole/gen9B.py: rounds; passFrom ===== -/
def Sd (μ : Nat → Nat → Int) (w : Int) (x : Int) (h : Nat) : Prop := h ≤ 99 ∧ g_stand μ x (h : Int) w
def I0 (S : Int → Nat → Prop) (ld : Int → Prop) (B : Nat → Prop) (a x : Int) (h : Nat) : Prop := (∃ h', x = a ∧ S a h' ∧ B h') ∧ ((ld x ∧ S x h) ∨ (¬ ld x ∧ x = a ∧ S a h ∧ B h))
theorem i0_li {G : Int → Prop} {S : Int → Nat → Prop} {ld : Int → Prop} {B : Nat → Prop} {a : Int} (ha : G a) : LI G S ld (I0 S ld B a) := by
  refine ⟨fun x h z => ?_, fun x h h' z l s => ⟨z.1, Or.inl ⟨l, s⟩⟩⟩
  obtain ⟨⟨h', e, -⟩, z2⟩ := z
  refine ⟨by rw [e]; exact ha, ?_⟩
  rcases z2 with q | q
  · exact q.2
  · rw [q.2.1]; exact q.2.2.1
theorem af_congr {St Se : Nat → Int} {ld : Int → Prop} {P P' : Int → Nat → Prop} {x : Int} (e : ∀ h, h < 128 → (P x h ↔ P' x h)) {h : Nat} (hh : h < 128) : AF St Se ld P x h ↔ AF St Se ld P' x h := by
  unfold AF
  refine and_congr ⟨fun ⟨k, k1, k2⟩ => ⟨k, k1, (e k k1).mp k2⟩, fun ⟨k, k1, k2⟩ => ⟨k, k1, (e k k1).mpr k2⟩⟩ (or_congr Iff.rfl (and_congr Iff.rfl (e h hh)))
theorem fst_congr {G : Int → Prop} {F F' : Int → Nat → Prop} {f : Nat} {Fr fc : Nat → Int} (h : FSt G F f Fr fc) (e : ∀ x h, G x → h < 128 → (F x h ↔ F' x h)) : FSt G F' f Fr fc := by
  obtain ⟨h1, h2, h3, h4, h5⟩ := h
  refine ⟨h1, h2, fun j k hj hk => (h3 j k hj hk).trans (e _ k (h2 j hj) hk), fun x k hx hk z => h4 x k hx hk ((e x k hx hk).mpr z), fun j hj => ?_⟩
  obtain ⟨k, k1, k2⟩ := h5 j hj
  exact ⟨k, k1, (e _ k (h2 j hj) k1).mp k2⟩
section RND
variable {nb : Int → Int → Int} {G : Int → Prop} {S : Int → Nat → Prop} {ld : Int → Prop} {I : Int → Nat → Prop} {St Se Fr fc : Nat → Int} {n f : Nat}
theorem pp_lc (hg : GR nb G) (hs9 : ∀ x h, S x h → h ≤ 99) (hSt : ∀ x h, G x → h < 128 → (hb St x h = true ↔ S x h)) (hSe : ∀ x h, G x → h < 128 → (hb Se x h = true ↔ LV nb G S ld I n x h)) (hF : FSt G (LF nb G S ld I n) f Fr fc) {x : Int} {h : Nat} (hx : G x) (hh : h < 128) : PP nb St Se Fr fc f 0 x h ↔ LC nb G S ld I n x h := by
  obtain ⟨h1, h2, h3, h4, h5⟩ := hF
  have hx1 : ¬ x = -1 := by have := hg.1 x hx; omega
  unfold PP LC
  rw [hSt x h hx hh, hSe x h hx hh]
  refine and_congr Iff.rfl (and_congr Iff.rfl ⟨?_, ?_⟩)
  · rintro ⟨j, e, q1, q2, q3, q4⟩
    have hj : j < f := by omega
    exact ⟨fc j, e, q2, h2 j hj, q3, hx1, (h3 j h hj hh).mp q4⟩
  · rintro ⟨y, d, q1, q2, q3, q4, q5⟩
    obtain ⟨j, j1, j2⟩ := h4 y h q2 hh q5
    exact ⟨j, d, Or.inl j1, q1, by rw [j2]; exact q3, (h3 j h j1 hh).mpr (by rw [j2]; exact q5)⟩
theorem rd_next (hg : GR nb G) (hI : LI G S ld I) (hs9 : ∀ x h, S x h → h ≤ 99) (hSt : ∀ x h, G x → h < 128 → (hb St x h = true ↔ S x h)) (hSe : ∀ x h, G x → h < 128 → (hb Se x h = true ↔ LV nb G S ld I n x h)) (hF : FSt G (LF nb G S ld I n) f Fr fc) {m : Nat} {S1 F1 f1 : Nat → Int} (h1 : ∀ x h, G x → h < 128 → (hb S1 x h = true ↔ (hb Se x h = true ∨ AF St Se ld (PP nb St Se Fr fc f 0) x h))) (h2 : FSt G (AF St Se ld (PP nb St Se Fr fc f 0)) m F1 f1) : (∀ x h, G x → h < 128 → (hb S1 x h = true ↔ LV nb G S ld I (n + 1) x h)) ∧ FSt G (LF nb G S ld I (n + 1)) m F1 f1 := by
  have key : ∀ x h, G x → h < 128 → (AF St Se ld (PP nb St Se Fr fc f 0) x h ↔ LF nb G S ld I (n + 1) x h) := fun x h hx hh => by
    rw [af_congr (P' := LC nb G S ld I n) (fun k hk => pp_lc hg hs9 hSt hSe hF hx hk) hh, lf_next hg hI]
    unfold AF
    rw [hSt x h hx hh, hSe x h hx hh]
    exact and_congr ⟨fun ⟨k, _, k2⟩ => ⟨k, k2⟩, fun ⟨k, k2⟩ => ⟨k, by have := hs9 _ _ k2.1; omega, k2⟩⟩ Iff.rfl
  refine ⟨fun x h hx hh => ?_, fst_congr h2 key⟩
  rw [h1 x h hx hh, hSe x h hx hh, key x h hx hh, lv_next]
theorem rd_closed (hg : GR nb G) (hI : LI G S ld I) (hs9 : ∀ x h, S x h → h ≤ 99) (hF : FSt G (LF nb G S ld I n) 0 Fr fc) : ∀ x h, LV nb G S ld I (n + 1) x h → LV nb G S ld I n x h := fun x h z => by
  rcases lv_next.mp z with q | q
  · exact q
  · obtain ⟨⟨h', c1, c2, y, d, c3, c4, c5, c6, c7⟩, -⟩ := (lf_next hg hI).mp q
    obtain ⟨j, j1, -⟩ := hF.2.2.2.1 y h' c4 (by have := hs9 _ _ c1; omega) c7
    omega
end RND
theorem cn_lt2 {F F' : Nat → Int} (h : ∀ j, ¬ F j = -1 → ¬ F' j = -1) {j0 : Nat} (h0 : F j0 = -1) (h1 : ¬ F' j0 = -1) : ∀ N : Nat, (j0 < N → cn F N < cn F' N) ∧ cn F N ≤ cn F' N
  | 0 => ⟨fun z => by omega, Nat.le_refl 0⟩
  | N + 1 => by
    obtain ⟨a, b⟩ := cn_lt2 h h0 h1 N
    show (j0 < N + 1 → cn F N + (if F N = -1 then 0 else 1) < cn F' N + (if F' N = -1 then 0 else 1)) ∧ cn F N + (if F N = -1 then 0 else 1) ≤ cn F' N + (if F' N = -1 then 0 else 1)
    by_cases e : j0 = N
    · subst e
      rw [if_pos h0, if_neg h1]
      exact ⟨fun _ => by omega, by omega⟩
    · by_cases q : F N = -1
      · rw [if_pos q]
        refine ⟨fun z => ?_, by omega⟩
        have := a (by omega)
        omega
      · rw [if_neg q, if_neg (h N q)]
        refine ⟨fun z => ?_, by omega⟩
        have := a (by omega)
        omega
noncomputable def CFn (L : Int → Nat → Prop) (j : Nat) : Int := @ite _ (L ((j / 100 : Nat) : Int) (j % 100)) (Classical.propDecidable _) 0 (-1)
theorem cfn_p {L : Int → Nat → Prop} {j : Nat} : ¬ CFn L j = -1 ↔ L ((j / 100 : Nat) : Int) (j % 100) := by
  unfold CFn
  by_cases e : L ((j / 100 : Nat) : Int) (j % 100)
  · rw [if_pos e]; exact ⟨fun _ => e, fun _ => by decide⟩
  · rw [if_neg e]; exact ⟨fun z => absurd rfl z, fun z => absurd z e⟩
theorem lf_count {nb : Int → Int → Int} {G : Int → Prop} {S : Int → Nat → Prop} {ld : Int → Prop} {I : Int → Nat → Prop} (hg : GR nb G) (hI : LI G S ld I) (hs9 : ∀ x h, S x h → h ≤ 99) : ∀ (n : Nat) (x : Int) (h : Nat), LF nb G S ld I n x h → n + 1 ≤ cn (CFn (LV nb G S ld I n)) 10000 := by
  have ix : ∀ (L : Int → Nat → Prop) (x : Int) (h : Nat), 0 ≤ x → x < 100 → h ≤ 99 → (¬ CFn L (100 * x.toNat + h) = -1 ↔ L x h) := fun L x h h1 h2 h3 => by
    rw [cfn_p, show (100 * x.toNat + h) / 100 = x.toNat by omega, show (100 * x.toNat + h) % 100 = h by omega, Int.toNat_of_nonneg h1]
  intro n
  induction n with
  | zero =>
    intro x h z
    obtain ⟨gx, sx⟩ := lv_G hg hI 0 x h z.1
    have b := hg.1 x gx
    have b2 := hs9 x h sx
    have h1 := (cn_lt2 (F := fun _ => -1) (F' := CFn (LV nb G S ld I 0)) (fun j q => absurd rfl q) (j0 := 100 * x.toNat + h) rfl ((ix _ x h b.1 b.2 b2).mpr z.1) 10000).1 (by omega)
    omega
  | succ n ih =>
    intro x h z
    obtain ⟨gx, sx⟩ := lv_G hg hI (n + 1) x h z.1
    have b := hg.1 x gx
    have b2 := hs9 x h sx
    obtain ⟨⟨h', c1, c2, y, d, c3, c4, c5, c6, c7⟩, -⟩ := (lf_next hg hI).mp z
    have i1 := ih y h' c7
    have h1 := (cn_lt2 (F := CFn (LV nb G S ld I n)) (F' := CFn (LV nb G S ld I (n + 1))) (fun j q => cfn_p.mpr (lv_s (cfn_p.mp q))) (j0 := 100 * x.toNat + h) (Classical.byContradiction (fun q => z.2 n rfl ((ix _ x h b.1 b.2 b2).mp q))) ((ix _ x h b.1 b.2 b2).mpr z.1) 10000).1 (by omega)
    omega
/-- the ways of one height -/
theorem lv_reach {μ : Nat → Nat → Int} (hL : I_land μ) {a w : Int} (ha : g_cell μ a) {ld : Int → Prop} (hld : ∀ x, ¬ ld x) {n : Nat} (hc : ∀ x h, LV (g_nb μ) (g_cell μ) (Sd μ w) ld (I0 (Sd μ w) ld (fun _ => True) a) (n + 1) x h → LV (g_nb μ) (g_cell μ) (Sd μ w) ld (I0 (Sd μ w) ld (fun _ => True) a) n x h) {x : Int} {h : Nat} (hx : g_cell μ x) (hh : h ≤ 99) : LV (g_nb μ) (g_cell μ) (Sd μ w) ld (I0 (Sd μ w) ld (fun _ => True) a) n x h ↔ ¬ g_steps μ a x (h : Int) w = -1 := by
  have hg := g_GR hL
  have hI : LI (g_cell μ) (Sd μ w) ld (I0 (Sd μ w) ld (fun _ => True) a) := i0_li ha
  have hz := bfs_zero (O := fun z => g_stand μ z (h : Int) w) hg ha
  have hva : b_vis (bfs (g_nb μ) (fun z => g_stand μ z (h : Int) w) a) a := by show ¬ _ = -1; rw [hz.1]; decide
  have e : ¬ g_steps μ a x (h : Int) w = -1 ↔ (g_stand μ a (h : Int) w ∧ b_vis (bfs (g_nb μ) (fun z => g_stand μ z (h : Int) w) a) x) := by
    unfold g_steps
    by_cases q : g_stand μ a (h : Int) w
    · rw [if_pos q]; exact ⟨fun z => ⟨q, z⟩, fun z => z.2⟩
    · rw [if_neg q]; exact ⟨fun z => absurd rfl z, fun z => absurd z.1 q⟩
  rw [e]
  constructor
  · intro z
    have key : ∀ (k : Nat) (y : Int), LV (g_nb μ) (g_cell μ) (Sd μ w) ld (I0 (Sd μ w) ld (fun _ => True) a) k y h → g_stand μ a (h : Int) w ∧ b_vis (bfs (g_nb μ) (fun z => g_stand μ z (h : Int) w) a) y := by
      intro k
      induction k with
      | zero =>
        intro y q
        obtain ⟨-, q2⟩ := q
        rcases q2 with q2 | ⟨-, e1, q3, -⟩
        · exact absurd q2.1 (hld y)
        · rw [e1]; exact ⟨q3.2, hva⟩
      | succ k ih =>
        intro y q
        rcases q with q | ⟨u, d, h', z1, z2, z3, z4, z5, z6, z7, z8⟩
        · exact ih y q
        · have eh : h = h' := z8.resolve_right (hld y)
          rw [← eh] at z5
          obtain ⟨i1, i2⟩ := ih u z5
          refine ⟨i1, ?_⟩
          rw [← z3]
          exact bfs_closed hg ha z2 i2 z1 (by rw [z3]; exact z4) (by rw [z3]; exact z7.2)
    exact key n x z
  · rintro ⟨q1, q2⟩
    refine bfs_least (S := fun y => LV (g_nb μ) (g_cell μ) (Sd μ w) ld (I0 (Sd μ w) ld (fun _ => True) a) n y h) hg ha ?_ ?_ hx q2
    · have l0 : LV (g_nb μ) (g_cell μ) (Sd μ w) ld (I0 (Sd μ w) ld (fun _ => True) a) 0 a h := ⟨⟨h, rfl, ⟨hh, q1⟩, trivial⟩, Or.inr ⟨hld a, rfl, ⟨hh, q1⟩, trivial⟩⟩
      have := lv_le l0 n
      rw [Nat.zero_add] at this
      exact this
    · intro y hy hl d hd h1 h2
      exact hc _ h (Or.inr ⟨y, d, h, hd, hy, rfl, h1, hl, ⟨hh, h2⟩, ⟨hh, h2⟩, Or.inl rfl⟩)
theorem pp_sub {nb : Int → Int → Int} {St Se Fr fc : Nat → Int} {n d : Nat} {x : Int} {h : Nat} (z : PP nb St Se Fr fc n d x h) : hb St x h = true ∧ ¬ hb Se x h = true := ⟨z.1, z.2.1⟩
theorem rd_init {μ : Nat → Nat → Int} {G : Int → Prop} {S : Int → Nat → Prop} {ld : Int → Prop} {B : Nat → Prop} {a : Int} {nb : Int → Int → Int} {St Se S1 F1 f1 : Nat → Int} {m : Nat} {lo hi : Int} (ha : G a) (hs9 : ∀ x h, S x h → h ≤ 99) (hSt : ∀ x h, G x → h < 128 → (hb St x h = true ↔ S x h)) (hSe : ∀ x h, G x → h < 128 → hb Se x h = false) (hB : ∀ h, h < 128 → S a h → (pb lo hi h = true ↔ B h)) (h1 : ∀ x h, G x → h < 128 → (hb S1 x h = true ↔ (hb Se x h = true ∨ AF St Se ld (fun y h => False ∨ (y = a ∧ pb lo hi h = true ∧ hb St a h = true ∧ ¬ hb Se a h = true)) x h))) (h2 : FSt G (AF St Se ld (fun y h => False ∨ (y = a ∧ pb lo hi h = true ∧ hb St a h = true ∧ ¬ hb Se a h = true))) m F1 f1) : (∀ x h, G x → h < 128 → (hb S1 x h = true ↔ LV nb G S ld (I0 S ld B a) 0 x h)) ∧ FSt G (LF nb G S ld (I0 S ld B a) 0) m F1 f1 := by
  have key : ∀ x h, G x → h < 128 → (AF St Se ld (fun y h => False ∨ (y = a ∧ pb lo hi h = true ∧ hb St a h = true ∧ ¬ hb Se a h = true)) x h ↔ I0 S ld B a x h) := fun x h hx hh => by
    unfold AF I0
    have p : ∀ k, k < 128 → ((False ∨ (x = a ∧ pb lo hi k = true ∧ hb St a k = true ∧ ¬ hb Se a k = true)) ↔ (x = a ∧ S a k ∧ B k)) := fun k hk => by
      rw [hSt a k ha hk, hSe a k ha hk]
      constructor
      · rintro (z | ⟨z1, z2, z3, -⟩)
        · exact z.elim
        · exact ⟨z1, z3, (hB k hk z3).mp z2⟩
      · rintro ⟨z1, z2, z3⟩
        exact Or.inr ⟨z1, (hB k hk z2).mpr z3, z2, by decide⟩
    refine and_congr ⟨fun ⟨k, k1, k2⟩ => ⟨k, (p k k1).mp k2⟩, fun ⟨k, k2⟩ => ⟨k, by have := hs9 _ _ k2.2.1; omega, (p k (by have := hs9 _ _ k2.2.1; omega)).mpr k2⟩⟩ (or_congr (and_congr Iff.rfl ?_) (and_congr Iff.rfl (p h hh)))
    rw [hSt x h hx hh, hSe x h hx hh]
    exact ⟨fun z => z.1, fun z => ⟨z, by decide⟩⟩
  refine ⟨fun x h hx hh => ?_, fst_congr h2 (fun x h hx hh => (key x h hx hh).trans ⟨fun z => ⟨z, fun m hm => by omega⟩, fun z => z.1⟩)⟩
  rw [h1 x h hx hh, hSe x h hx hh]
  exact ⟨fun z => z.elim (fun q => absurd q (by decide)) (fun q => (key x h hx hh).mp q), fun z => Or.inr ((key x h hx hh).mpr z)⟩
theorem hb_0 {f : Nat → Int} {x : Int} {h : Nat} (hx : 0 ≤ x ∧ x < 100) (hh : h < 128) : hb (fl (fun _ => 0) f 200) x h = false := by
  unfold hb
  rw [fl_lt (by omega), fl_lt (by omega)]
  exact pb_0 hh
theorem cp_0 {G : Int → Prop} {f cc : Nat → Int} (hg : ∀ y, G y → 0 ≤ y ∧ y < 100) : CP G (fun _ _ => False) 0 (fl (fun _ => 0) f 200) cc ∨ True := Or.inr trivial
theorem sd9 {μ : Nat → Nat → Int} {w : Int} : ∀ x h, Sd μ w x h → h ≤ 99 := fun _ _ z => z.1
theorem st_sd {μ : Nat → Nat → Int} {w : Int} {F : Nat → Int} (hF : ∀ (j h : Nat), (j : Int) < 10 * μ 6 9 → h < 128 → hb F (j : Int) h = decide (h ≤ 99 ∧ g_stand μ (j : Int) (h : Int) w)) : ∀ x h, g_cell μ x → h < 128 → (hb F x h = true ↔ Sd μ w x h) := fun x h hx hh => by
  have h1 := cell_span hx
  have h2 := hF x.toNat h (by omega) hh
  rw [Int.toNat_of_nonneg hx.1] at h2
  rw [h2, decide_eq_true_iff]
  rfl
set_option maxHeartbeats 4000000 in
theorem l_pass {μ : Nat → Nat → Int} {c s : Nat} (hL : I_land μ) {a w : Int} (ha : g_cell μ a) {St : Nat → Int} (hSt : ∀ x h, g_cell μ x → h < 128 → (hb St x h = true ↔ Sd μ w x h)) : ∀ (d n : Nat) (k : Int) (f : Nat) (H : Nat → Int) (Se : Nat → Int) (Fr : Nat → Int) (Co : Nat → Int) (fc : Nat → Int) (cc : Nat → Int), k = (n : Int) → n + d = 10000 → (H 7 = (f : Int)) → (H 8 = 0) → (∀ x h, g_cell μ x → h < 128 → (hb Se x h = true ↔ (LV (g_nb μ) (g_cell μ) (Sd μ w) (fun x => (0 : Int) = 1 ∧ ¬ μ 8 (200 + x).toNat = -1) (I0 (Sd μ w) (fun x => (0 : Int) = 1 ∧ ¬ μ 8 (200 + x).toNat = -1) (fun _ => True) a) n) x h)) → (FSt (g_cell μ) (LF (g_nb μ) (g_cell μ) (Sd μ w) (fun x => (0 : Int) = 1 ∧ ¬ μ 8 (200 + x).toNat = -1) (I0 (Sd μ w) (fun x => (0 : Int) = 1 ∧ ¬ μ 8 (200 + x).toNat = -1) (fun _ => True) a) n) f Fr fc) → (CP (g_cell μ) (fun _ _ => False) 0 Co cc) → Rn PT none kX1_passFrom 25 [some (mR 74), some (mI (a)), some (mI (w)), some (mI (k))] [] (mkh (m_upd (m_upd (m_upd (m_upd (m_upd (m_upd (m_upd μ 74 H) 75 St) 76 Se) 77 Fr) 78 Co) 79 fc) 80 cc) c s) (fun r => ∃ (n : Nat) (H Se Fr Co fc cc : Nat → Int), r = (some none, mkh (m_upd (m_upd (m_upd (m_upd (m_upd (m_upd (m_upd μ 74 H) 75 St) 76 Se) 77 Fr) 78 Co) 79 fc) 80 cc) c s) ∧ (∀ x h, g_cell μ x → h < 128 → (hb Se x h = true ↔ (LV (g_nb μ) (g_cell μ) (Sd μ w) (fun x => (0 : Int) = 1 ∧ ¬ μ 8 (200 + x).toNat = -1) (I0 (Sd μ w) (fun x => (0 : Int) = 1 ∧ ¬ μ 8 (200 + x).toNat = -1) (fun _ => True) a) n) x h)) ∧ ∀ x h, (LV (g_nb μ) (g_cell μ) (Sd μ w) (fun x => (0 : Int) = 1 ∧ ¬ μ 8 (200 + x).toNat = -1) (I0 (Sd μ w) (fun x => (0 : Int) = 1 ∧ ¬ μ 8 (200 + x).toNat = -1) (fun _ => True) a) (n + 1)) x h → (LV (g_nb μ) (g_cell μ) (Sd μ w) (fun x => (0 : Int) = 1 ∧ ¬ μ 8 (200 + x).toNat = -1) (I0 (Sd μ w) (fun x => (0 : Int) = 1 ∧ ¬ μ 8 (200 + x).toNat = -1) (fun _ => True) a) n) x h) := by
  have hL_ := hL
  obtain ⟨lc, lr, le, lm, lw, lh, lwo, lwd, q0, q1, q2, q3, q4, q8, q499, q500, lth, lG, lT, lW, -⟩ := hL_
  intro d
  induction d with
  | zero =>
    intro n k f H Se Fr Co fc cc ek hn h7 h8 hSe hF hC
    subst ek
    have hf0 : f = 0 := by
      rcases Nat.eq_zero_or_pos f with z | z
      · exact z
      · obtain ⟨h, k1, k2⟩ := hF.2.2.2.2 0 z
        have := lf_count (g_GR hL) (i0_li ha) sd9 n _ h k2
        have := cn_le (CFn (LV (g_nb μ) (g_cell μ) (Sd μ w) (fun x => (0 : Int) = 1 ∧ ¬ μ 8 (200 + x).toNat = -1) (I0 (Sd μ w) (fun x => (0 : Int) = 1 ∧ ¬ μ 8 (200 + x).toNat = -1) (fun _ => True) a) n)) 10000
        omega
    refine rn_iload_n (k' := 26) rfl rfl rfl ?_
    refine rn_sipush (k' := 27) rfl rfl ?_
    refine rn_icmp_ge (k' := 28) rfl rfl (fun hc1 => ?_) (fun hc1 => ?_)
    · skip
      refine rn_vret rfl ?_
      exact ⟨n, H, Se, Fr, Co, fc, cc, rfl, hSe, rd_closed (g_GR hL) (i0_li ha) sd9 (by rw [show f = 0 by omega] at hF; exact hF)⟩
    · exfalso; omega
  | succ d ih =>
    intro n k f H Se Fr Co fc cc ek hn h7 h8 hSe hF hC
    subst ek
    refine rn_iload_n (k' := 26) rfl rfl rfl ?_
    refine rn_sipush (k' := 27) rfl rfl ?_
    refine rn_icmp_ge (k' := 28) rfl rfl (fun hc1 => ?_) (fun hc1 => ?_)
    · exfalso; omega
    · skip
      refine rn_aload_n (k' := 29) rfl rfl rfl ?_
      refine rn_getI (k' := 30) rfl rfl K0_74 (by decide) rfl ?_
      show Rn PT none kX1_passFrom 30 [some (mR 74), some (mI (a)), some (mI (w)), some (mI ((n : Int)))] [mI (H 7)] (mkh (m_upd (m_upd (m_upd (m_upd (m_upd (m_upd (m_upd μ 74 H) 75 St) 76 Se) 77 Fr) 78 Co) 79 fc) 80 cc) c s) _
      refine rn_if_le (k' := 31) rfl rfl (fun hc2 => ?_) (fun hc2 => ?_)
      · skip
        refine rn_vret rfl ?_
        exact ⟨n, H, Se, Fr, Co, fc, cc, rfl, hSe, rd_closed (g_GR hL) (i0_li ha) sd9 (by rw [show f = 0 by omega] at hF; exact hF)⟩
      · skip
        refine rn_aload_n (k' := 32) rfl rfl rfl ?_
        obtain ⟨MM, z1, z2, nn, rr, z3, H1, C1, c1, m1, z4, z5, z6, z7⟩ := c_stepOn (μ := μ) (c := c) (s := s) hL (St := St) (Se := Se) (Fr := Fr) (fc := fc) (f := f) hF.1 hF.2.1 (H := H) (Co := Co) (cc := cc) h8 h7 hC
        have hcs : Cl PT 21 [mR 74] (mkh (m_upd (m_upd (m_upd (m_upd (m_upd (m_upd (m_upd μ 74 H) 75 St) 76 Se) 77 Fr) 78 Co) 79 fc) 80 cc) c s) (fun r => r = (some none, mkh (m_upd (m_upd (m_upd (m_upd (m_upd (m_upd (m_upd μ 74 H1) 75 St) 76 Se) 77 Fr) 78 C1) 79 fc) 80 c1) c s)) := ⟨MM, z1, z2, nn, rr, z3, z4⟩
        refine rn_callP (k' := 33) (y := 21) (vs := [mR 74]) (S' := []) (v := none) (h' := mkh (m_upd (m_upd (m_upd (m_upd (m_upd (m_upd (m_upd μ 74 H1) 75 St) 76 Se) 77 Fr) 78 C1) 79 fc) 80 c1) c s) rfl rfl rfl (hcs) ?_
        show Rn PT none kX1_passFrom 33 [some (mR 74), some (mI (a)), some (mI (w)), some (mI ((n : Int)))] [] (mkh (m_upd (m_upd (m_upd (m_upd (m_upd (m_upd (m_upd μ 74 H1) 75 St) 76 Se) 77 Fr) 78 C1) 79 fc) 80 c1) c s) _
        refine rn_aload_n (k' := 34) rfl rfl rfl ?_
        refine rn_iconst (k' := 35) rfl rfl ?_
        obtain ⟨MM, y1, y2, nn, rr, y3, H2, S2, F2, C2, f2, y4, y5, y6, y7, y8, y9⟩ := c_arrive (μ := μ) (c := c) (s := s) hL (l := 0) (by omega) (H := H1) (St := St) (Se0 := Se) (cc := c1) (Co0 := C1) (m := m1) z5 z7 (Fr := Fr) (fc := fc) (fun x h hx hh z => pp_sub z)
        have hca : Cl PT 23 [mR 74, mI 0] (mkh (m_upd (m_upd (m_upd (m_upd (m_upd (m_upd (m_upd μ 74 H1) 75 St) 76 Se) 77 Fr) 78 C1) 79 fc) 80 c1) c s) (fun r => r = (some none, mkh (m_upd (m_upd (m_upd (m_upd (m_upd (m_upd (m_upd μ 74 H2) 75 St) 76 S2) 77 F2) 78 C2) 79 f2) 80 c1) c s)) := ⟨MM, y1, y2, nn, rr, y3, y4⟩
        obtain ⟨w1, w2⟩ := rd_next (g_GR hL) (i0_li ha) sd9 hSt hSe hF y7 y8
        refine rn_callP (k' := 36) (y := 23) (vs := [mR 74, mI (0)]) (S' := []) (v := none) (h' := mkh (m_upd (m_upd (m_upd (m_upd (m_upd (m_upd (m_upd μ 74 H2) 75 St) 76 S2) 77 F2) 78 C2) 79 f2) 80 c1) c s) rfl rfl rfl (hca) ?_
        show Rn PT none kX1_passFrom 36 [some (mR 74), some (mI (a)), some (mI (w)), some (mI ((n : Int)))] [] (mkh (m_upd (m_upd (m_upd (m_upd (m_upd (m_upd (m_upd μ 74 H2) 75 St) 76 S2) 77 F2) 78 C2) 79 f2) 80 c1) c s) _
        refine rn_iinc (k' := 37) (L' := [some (mR 74), some (mI (a)), some (mI (w)), some (mI ((n : Int) + 1))]) rfl rfl rfl (by omega) rfl ?_
        refine rn_goto rfl ?_
        exact ih (n + 1) _ m1 _ _ _ _ _ _ (by omega) (by omega) y6 y5 w1 w2 y9
theorem cp_z {μ : Nat → Nat → Int} (hL : I_land μ) {f cc : Nat → Int} : CP (g_cell μ) (fun _ _ => False) 0 (fl (fun _ => 0) f 200) cc := by
  have hk : ∀ j : Nat, j < 100 → KF (fl (fun _ => 0) f 200) j = -1 := fun j hj => kf_iff.mpr (fun h hh => hb_0 (by omega) hh)
  refine ⟨by decide, fun x k hx hk => ⟨fun z => ?_, fun z => z.elim⟩, fun j hj => absurd hj (Nat.not_lt_zero j), fun x k _ _ z => z.elim, fun i j _ hj => absurd hj (Nat.not_lt_zero j), cn_none 100 (fun j hj => hk j hj), fun j hj _ => hk j hj⟩
  rw [hb_0 (g_cell_b hL hx) hk] at z
  exact absurd z (by decide)
set_option maxHeartbeats 4000000 in
theorem c_passFrom {μ : Nat → Nat → Int} {c s : Nat} (hL : I_land μ) {a w : Int} (ha : g_cell μ a) (hw : 0 ≤ w ∧ w ≤ 1000) : ∃ M : Nat → Nat → Int, (rst M = rst μ ∧ ∀ x (h : Nat), g_cell μ x → h ≤ 99 → (hb (M 76) x h = true ↔ ¬ g_steps μ a x (h : Int) w = -1)) ∧ Cl PT 18 [mR 74, mI a, mI w] (mkh μ c s) (fun r => r = (some none, mkh M c s)) := by
  refine Cl.ex (g := fun M => (some none, mkh M c s)) ?_
  refine Cl.mono (Q := fun r => ∃ St : Nat → Int, (fun r => ∃ (n : Nat) (H Se Fr Co fc cc : Nat → Int), r = (some none, mkh (m_upd (m_upd (m_upd (m_upd (m_upd (m_upd (m_upd μ 74 H) 75 St) 76 Se) 77 Fr) 78 Co) 79 fc) 80 cc) c s) ∧ (∀ x h, g_cell μ x → h < 128 → (hb Se x h = true ↔ (LV (g_nb μ) (g_cell μ) (Sd μ w) (fun x => (0 : Int) = 1 ∧ ¬ μ 8 (200 + x).toNat = -1) (I0 (Sd μ w) (fun x => (0 : Int) = 1 ∧ ¬ μ 8 (200 + x).toNat = -1) (fun _ => True) a) n) x h)) ∧ ∀ x h, (LV (g_nb μ) (g_cell μ) (Sd μ w) (fun x => (0 : Int) = 1 ∧ ¬ μ 8 (200 + x).toNat = -1) (I0 (Sd μ w) (fun x => (0 : Int) = 1 ∧ ¬ μ 8 (200 + x).toNat = -1) (fun _ => True) a) (n + 1)) x h → (LV (g_nb μ) (g_cell μ) (Sd μ w) (fun x => (0 : Int) = 1 ∧ ¬ μ 8 (200 + x).toNat = -1) (I0 (Sd μ w) (fun x => (0 : Int) = 1 ∧ ¬ μ 8 (200 + x).toNat = -1) (fun _ => True) a) n) x h) r) ?_ (fun r hr => ?_)
  rotate_left
  · obtain ⟨St, n, H, Se, Fr, Co, fc, cc, e1, e2, e3⟩ := hr
    refine ⟨_, e1, (rst_upd (fun _ => rfl)).trans ((rst_upd (fun _ => rfl)).trans ((rst_upd (fun _ => rfl)).trans ((rst_upd (fun _ => rfl)).trans ((rst_upd (fun _ => rfl)).trans ((rst_upd (fun _ => rfl)).trans (rst_upd (fun _ => rfl))))))), fun x h hx hh => ?_⟩
    exact (e2 x h hx (by omega)).trans (lv_reach hL ha (fun x z => absurd z.1 (by decide)) e3 hx hh)
  · have hab := g_cell_b hL ha
    refine ⟨_, PT_18, Nat.le_of_ble_eq_true rfl, ?_⟩
    show Rn PT none kX1_passFrom 0 [some (mR 74), some (mI (a)), some (mI (w)), none] [] (mkh μ c s) _
    refine rn_aload_n (k' := 1) rfl rfl rfl ?_
    refine rn_iload_n (k' := 2) rfl rfl rfl ?_
    obtain ⟨St, hSt0, hcp⟩ := c_prepare (μ := μ) (c := c) (s := s) (hL) (w := w) hw
    have hSt := st_sd hSt0
    have hnm : (m_set (m_set (m_upd (m_upd (m_upd μ 75 St) 76 ((fl (fun _ => 0) (μ 76) 200))) 78 ((fl (fun _ => 0) (μ 78) 200))) 74 7 (0)) 74 8 (0)) = (m_upd (m_upd (m_upd (m_upd (m_upd (m_upd (m_upd μ 74 ((fs (fs (μ 74) 7 0) 8 0))) 75 St) 76 ((fl (fun _ => 0) (μ 76) 200))) 77 ((μ 77))) 78 ((fl (fun _ => 0) (μ 78) 200))) 79 ((μ 79))) 80 ((μ 80))) := by
      rw [upd7_of (μ := μ) (ν := (m_set (m_set (m_upd (m_upd (m_upd μ 75 St) 76 ((fl (fun _ => 0) (μ 76) 200))) 78 ((fl (fun _ => 0) (μ 78) 200))) 74 7 (0)) 74 8 (0))) (fun b hb74 hb75 hb76 hb77 hb78 hb79 hb80 => (row_set hb74).trans ((row_set hb74).trans ((row_upd hb78).trans ((row_upd hb76).trans (row_upd hb75)))))]
      have q74 : (m_set (m_set (m_upd (m_upd (m_upd μ 75 St) 76 ((fl (fun _ => 0) (μ 76) 200))) 78 ((fl (fun _ => 0) (μ 78) 200))) 74 7 (0)) 74 8 (0)) 74 = fs (fs (μ 74) 7 0) 8 0 := by
        rw [row_set_eq, row_set_eq]
        rfl
      rw [q74]
      rfl
    rw [hnm] at hcp
    refine rn_callP (k' := 3) (y := 17) (vs := [mR 74, mI (w)]) (S' := []) (v := none) (h' := mkh (m_upd (m_upd (m_upd (m_upd (m_upd (m_upd (m_upd μ 74 ((fs (fs (μ 74) 7 0) 8 0))) 75 St) 76 ((fl (fun _ => 0) (μ 76) 200))) 77 ((μ 77))) 78 ((fl (fun _ => 0) (μ 78) 200))) 79 ((μ 79))) 80 ((μ 80))) c s) rfl rfl rfl (hcp) ?_
    show Rn PT none kX1_passFrom 3 [some (mR 74), some (mI (a)), some (mI (w)), none] [] (mkh (m_upd (m_upd (m_upd (m_upd (m_upd (m_upd (m_upd μ 74 ((fs (fs (μ 74) 7 0) 8 0))) 75 St) 76 ((fl (fun _ => 0) (μ 76) 200))) 77 ((μ 77))) 78 ((fl (fun _ => 0) (μ 78) 200))) 79 ((μ 79))) 80 ((μ 80))) c s) _
    refine rn_aload_n (k' := 4) rfl rfl rfl ?_
    refine rn_iload_n (k' := 5) rfl rfl rfl ?_
    refine rn_aload_n (k' := 6) rfl rfl rfl ?_
    refine rn_getR (k' := 7) rfl rfl K0_74 (by decide) rfl R0_74_1 ?_
    refine rn_iconst (k' := 8) rfl rfl ?_
    refine rn_iload_n (k' := 9) rfl rfl rfl ?_
    refine rn_imul (k' := 10) rfl rfl (by omega) ?_
    refine rn_laload (k' := 11) rfl rfl K0_75 (by omega) (by omega) ?_
    show Rn PT none kX1_passFrom 11 [some (mR 74), some (mI (a)), some (mI (w)), none] [mJ (St ((2 * a).toNat)), mI (a), mR 74] (mkh (m_upd (m_upd (m_upd (m_upd (m_upd (m_upd (m_upd μ 74 ((fs (fs (μ 74) 7 0) 8 0))) 75 St) 76 ((fl (fun _ => 0) (μ 76) 200))) 77 ((μ 77))) 78 ((fl (fun _ => 0) (μ 78) 200))) 79 ((μ 79))) 80 ((μ 80))) c s) _
    refine rn_aload_n (k' := 12) rfl rfl rfl ?_
    refine rn_getR (k' := 13) rfl rfl K0_74 (by decide) rfl R0_74_1 ?_
    refine rn_iconst (k' := 14) rfl rfl ?_
    refine rn_iload_n (k' := 15) rfl rfl rfl ?_
    refine rn_imul (k' := 16) rfl rfl (by omega) ?_
    refine rn_iconst (k' := 17) rfl rfl ?_
    refine rn_iadd (k' := 18) rfl rfl (by omega) ?_
    refine rn_laload (k' := 19) rfl rfl K0_75 (by omega) (by omega) ?_
    show Rn PT none kX1_passFrom 19 [some (mR 74), some (mI (a)), some (mI (w)), none] [mJ (St (((2 * a) + 1).toNat)), mJ (St ((2 * a).toNat)), mI (a), mR 74] (mkh (m_upd (m_upd (m_upd (m_upd (m_upd (m_upd (m_upd μ 74 ((fs (fs (μ 74) 7 0) 8 0))) 75 St) 76 ((fl (fun _ => 0) (μ 76) 200))) 77 ((μ 77))) 78 ((fl (fun _ => 0) (μ 78) 200))) 79 ((μ 79))) 80 ((μ 80))) c s) _
    obtain ⟨H1, C1, c1, m1, ⟨e1, e2, e3⟩, hcc⟩ := c_come (μ := μ) (c := c) (s := s) hL (x := a) (lo := St ((2 * a).toNat)) (hi := St (((2 * a) + 1).toNat)) ha (H := (fs (fs (μ 74) 7 0) 8 0)) (St := St) (Se := (fl (fun _ => 0) (μ 76) 200)) (Fr := μ 77) (Co := (fl (fun _ => 0) (μ 78) 200)) (fc := μ 79) (cc := μ 80) (m := 0) (by rw [fs_eq]; rfl) (cp_z hL)
    refine rn_callP (k' := 20) (y := 22) (vs := [mR 74, mI (a), mJ (St ((2 * a).toNat)), mJ (St (((2 * a) + 1).toNat))]) (S' := []) (v := none) (h' := mkh (m_upd (m_upd (m_upd (m_upd (m_upd (m_upd (m_upd μ 74 H1) 75 St) 76 ((fl (fun _ => 0) (μ 76) 200))) 77 ((μ 77))) 78 C1) 79 ((μ 79))) 80 c1) c s) rfl rfl rfl (hcc) ?_
    show Rn PT none kX1_passFrom 20 [some (mR 74), some (mI (a)), some (mI (w)), none] [] (mkh (m_upd (m_upd (m_upd (m_upd (m_upd (m_upd (m_upd μ 74 H1) 75 St) 76 ((fl (fun _ => 0) (μ 76) 200))) 77 ((μ 77))) 78 C1) 79 ((μ 79))) 80 c1) c s) _
    refine rn_aload_n (k' := 21) rfl rfl rfl ?_
    refine rn_iconst (k' := 22) rfl rfl ?_
    obtain ⟨MM, y1, y2, nn, rr, y3, H2, S2, F2, C2, f2, y4, y5, y6, y7, y8, y9⟩ := c_arrive (μ := μ) (c := c) (s := s) hL (l := 0) (by omega) (H := H1) (St := St) (Se0 := (fl (fun _ => 0) (μ 76) 200)) (cc := c1) (Co0 := C1) (m := m1) e1 e3 (Fr := μ 77) (fc := μ 79) (fun x h hx hh z => by rcases z with z | ⟨z1, z2, z3, z4⟩; exact z.elim; rw [z1]; exact ⟨z3, z4⟩)
    have hca : Cl PT 23 [mR 74, mI 0] (mkh (m_upd (m_upd (m_upd (m_upd (m_upd (m_upd (m_upd μ 74 H1) 75 St) 76 ((fl (fun _ => 0) (μ 76) 200))) 77 ((μ 77))) 78 C1) 79 ((μ 79))) 80 c1) c s) (fun r => r = (some none, mkh (m_upd (m_upd (m_upd (m_upd (m_upd (m_upd (m_upd μ 74 H2) 75 St) 76 S2) 77 F2) 78 C2) 79 f2) 80 c1) c s)) := ⟨MM, y1, y2, nn, rr, y3, y4⟩
    obtain ⟨w1, w2⟩ := rd_init (μ := μ) (nb := g_nb μ) (B := (fun _ => True)) ha sd9 hSt (fun x h hx hh => hb_0 (g_cell_b hL hx) hh) (fun h hh z => ⟨fun _ => trivial, fun _ => (hSt a h ha hh).mpr z⟩) y7 y8
    refine rn_callP (k' := 23) (y := 23) (vs := [mR 74, mI (0)]) (S' := []) (v := none) (h' := mkh (m_upd (m_upd (m_upd (m_upd (m_upd (m_upd (m_upd μ 74 H2) 75 St) 76 S2) 77 F2) 78 C2) 79 f2) 80 c1) c s) rfl rfl rfl (hca) ?_
    show Rn PT none kX1_passFrom 23 [some (mR 74), some (mI (a)), some (mI (w)), none] [] (mkh (m_upd (m_upd (m_upd (m_upd (m_upd (m_upd (m_upd μ 74 H2) 75 St) 76 S2) 77 F2) 78 C2) 79 f2) 80 c1) c s) _
    refine rn_iconst (k' := 24) rfl rfl ?_
    refine rn_istore_n (k' := 25) (L' := [some (mR 74), some (mI (a)), some (mI (w)), some (mI (0))]) rfl rfl (Nat.le_of_ble_eq_true rfl) rfl ?_
    exact (l_pass hL ha hSt 10000 0 _ m1 H2 S2 F2 C2 f2 c1 rfl (by omega) (y6) y5 w1 w2 y9).mono (fun r hr => ⟨St, hr⟩)
