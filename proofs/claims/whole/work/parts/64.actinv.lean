variable {N : Int}
/-! ===== printed by wip/whole/gen64.py: the invariant behind an act ===== -/
theorem SC.congr {N : Int} {L sc cl hd m m' : Nat → Int} (h : SC N L sc cl hd m) (h8 : L 13 ≤ 8) (e : ∀ k, k < 19 → m' k = m k) : SC N L sc cl hd m' := by
  obtain ⟨h1, h2, h3, h4, h5, h6, h7, h8', h9, h10⟩ := h
  exact ⟨h1, h2, h3, (e 0 (by omega)).trans h4, fun z => (e 17 (by omega)).trans (h5 z), (e 18 (by omega)).trans h6, h7, h8', fun j hj => ⟨(e (1 + j) (by omega)).trans (h9 j hj).1, (e (9 + j) (by omega)).trans (h9 j hj).2⟩, h10⟩
theorem SC.of_scene {μ : Nat → Nat → Int} (hS : I_scene μ) (hk : μ 14 4 ≤ 600 * N) (h8 : μ 6 13 ≤ 8) {sc cl hd m : Nat → Int} (e0 : sc 0 = μ 14 0) (e3 : sc 3 = μ 14 3) (e4 : sc 4 = μ 14 4) (ec : ∀ j, j < 8 → cl j = μ 15 j) (eh : ∀ j, j < 8 → hd j = μ 16 j) (em : ∀ k, k < 19 → m k = μ 120 (517 + k)) : SC N (μ 6) sc cl hd m := by
  obtain ⟨h1, h2, h3, h4, h5, h6, h7, h8', h9, h10, h11, h12, h13⟩ := hS
  unfold SC
  rw [e0, e3, e4, em 0 (by omega), em 17 (by omega), em 18 (by omega)]
  refine ⟨h1, h2, ⟨h3.1, hk⟩, h4, h5, h6, fun j hj => ?_, fun j hj => ?_, fun j hj => ?_, h10, fun j hj => ?_, h12⟩
  · rw [ec j hj]; exact h7 j
  · rw [eh j hj]; exact h8' j
  · rw [em (1 + j) (by omega), em (9 + j) (by omega), ec j (by omega), eh j (by omega), show 517 + (1 + j) = 518 + j by omega, show 517 + (9 + j) = 526 + j by omega]
    exact h9 j hj
  · rw [ec j (by omega)]; exact h11 j hj
theorem scene_of_SC {ν : Nat → Nat → Int} {N : Int} {sc cl hd : Nat → Int} (h : SC N (ν 6) sc cl hd (fun k => ν 120 (517 + k))) (hN : 600 * N ≤ 400000) (h8 : ν 6 13 ≤ 8) (e0 : ν 14 0 = sc 0) (e3 : ν 14 3 = sc 3) (e4 : ν 14 4 = sc 4) (ec : ∀ j, j < 8 → ν 15 j = cl j) (eh : ∀ j, j < 8 → ν 16 j = hd j) (tc : ∀ j, 8 ≤ j → 0 ≤ ν 15 j ∧ ν 15 j ≤ 99) (th : ∀ j, 8 ≤ j → 0 ≤ ν 16 j ∧ ν 16 j ≤ 99) (s13 : ν 6 9 = 0 ∨ 2 ≤ ν 6 8) : I_scene ν := by
  obtain ⟨h1, h2, h3, h4, h5, h6, h7, h8', h9, h10, h11, h12⟩ := h
  unfold I_scene
  rw [e0, e3, e4]
  refine ⟨h1, h2, ⟨h3.1, by omega⟩, h4, h5, h6, fun j => ?_, fun j => ?_, fun j hj => ?_, h10, fun j hj => ?_, h12, s13⟩
  · by_cases hj : j < 8
    · rw [ec j hj]; exact h7 j hj
    · exact tc j (by omega)
  · by_cases hj : j < 8
    · rw [eh j hj]; exact h8' j hj
    · exact th j (by omega)
  · rw [ec j (by omega), eh j (by omega)]
    have h := h9 j hj
    rw [show 518 + j = 517 + (1 + j) by omega, show 526 + j = 517 + (9 + j) by omega]
    exact h
  · rw [ec j (by omega)]; exact h11 j hj
theorem fl_8 {g f : Nat → Int} {j : Nat} (h : 8 ≤ j) : fl g f 8 j = f j := by unfold fl; rw [if_neg (by omega)]
theorem stl_o {μ : Nat → Nat → Int} {p a : Nat} (hp : p < 8) (ha : a < 14 ∨ (16 < a ∧ a < 82) ∨ (82 < a ∧ a < 88) ∨ 111 < a) : stl μ p a = μ a := by
  unfold stl
  rw [scp_o (by omega) (by omega) (by omega), row_set (by omega), row_set (by omega), scp_o (by omega) (by omega) (by omega)]
theorem stl_p {μ : Nat → Nat → Int} {p a : Nat} (ha : 88 ≤ a ∧ a ≤ 111) (h0 : ¬ a = 88 + 3 * p) (h1 : ¬ a = 89 + 3 * p) (h2 : ¬ a = 90 + 3 * p) : stl μ p a = μ a := by
  unfold stl
  rw [scp_o (by omega) (by omega) (by omega), row_set (by omega), row_set (by omega), scp_o (by omega) (by omega) (by omega)]
theorem stl_14 {μ : Nat → Nat → Int} {p : Nat} : stl μ p 14 = cpo (μ 14) (μ 83) := by
  unfold stl
  rw [scp_0, row_set (by decide), row_set (by decide), scp_o (by omega) (by omega) (by omega)]
  by_cases h : 83 = 88 + 3 * p
  · omega
  · rw [row_set (by decide), row_set (by decide), scp_o (by omega) (by omega) (by omega)]
theorem stl_15 {μ : Nat → Nat → Int} {p : Nat} : stl μ p 15 = fl (μ 84) (μ 15) 8 := by
  have h : stl μ p (14 + 1) = _ := scp_1
  rw [show (14 + 1 : Nat) = 15 from rfl, show (83 + 1 : Nat) = 84 from rfl, row_set (by decide), row_set (by decide), row_set (by decide), row_set (by decide), scp_o (by omega) (by omega) (by omega), scp_o (by omega) (by omega) (by omega)] at h
  exact h
theorem stl_16 {μ : Nat → Nat → Int} {p : Nat} : stl μ p 16 = fl (μ 85) (μ 16) 8 := by
  have h : stl μ p (14 + 2) = _ := scp_2
  rw [show (14 + 2 : Nat) = 16 from rfl, show (83 + 2 : Nat) = 85 from rfl, row_set (by decide), row_set (by decide), row_set (by decide), row_set (by decide), scp_o (by omega) (by omega) (by omega), scp_o (by omega) (by omega) (by omega)] at h
  exact h
theorem stl_82 {μ : Nat → Nat → Int} {p : Nat} (j : Nat) : stl μ p 82 j = if j = 6 then (if 8 < μ 82 6 + 1 then 8 else μ 82 6 + 1) else if j = 5 then μ 82 5 + 1 else μ 82 j := by
  unfold stl
  rw [scp_o (by decide) (by decide) (by decide), row_set_eq, row_set_eq, scp_o (by omega) (by omega) (by omega)]
  rfl
theorem stl_p0 {μ : Nat → Nat → Int} {p : Nat} : stl μ p (88 + 3 * p) = cpo (μ (88 + 3 * p)) (μ 14) := by
  unfold stl
  rw [scp_o (by omega) (by omega) (by omega), row_set (by omega), row_set (by omega), scp_0]
theorem stl_p1 {μ : Nat → Nat → Int} {p : Nat} : stl μ p (89 + 3 * p) = fl (μ 15) (μ (89 + 3 * p)) 8 := by
  unfold stl
  rw [scp_o (by omega) (by omega) (by omega), row_set (by omega), row_set (by omega), show 89 + 3 * p = 88 + 3 * p + 1 by omega, scp_1]
theorem stl_p2 {μ : Nat → Nat → Int} {p : Nat} : stl μ p (90 + 3 * p) = fl (μ 16) (μ (90 + 3 * p)) 8 := by
  unfold stl
  rw [scp_o (by omega) (by omega) (by omega), row_set (by omega), row_set (by omega), show 90 + 3 * p = 88 + 3 * p + 2 by omega, scp_2]
/-- one act more can be undone -/
theorem undo_push {μ ν : Nat → Nat → Int} {p : Nat} (hU : I_undo N μ) (hS : I_scene μ) (hk : μ 14 4 ≤ 600 * N) (h8 : μ 6 13 ≤ 8) (hp : (p : Int) = μ 82 5 % 8) (e6 : ν 6 = μ 6) (e5 : ν 82 5 = μ 82 5 + 1) (eu : ν 82 6 = if 8 < μ 82 6 + 1 then 8 else μ 82 6 + 1)
    (p0 : ν (88 + 3 * p) 0 = μ 14 0) (p3 : ν (88 + 3 * p) 3 = μ 14 3) (p4 : ν (88 + 3 * p) 4 = μ 14 4) (pc : ∀ j, j < 8 → ν (89 + 3 * p) j = μ 15 j) (ph : ∀ j, j < 8 → ν (90 + 3 * p) j = μ 16 j)
    (ro : ∀ t, t < 8 → ¬ t = p → ν (88 + 3 * t) = μ (88 + 3 * t) ∧ ν (89 + 3 * t) = μ (89 + 3 * t) ∧ ν (90 + 3 * t) = μ (90 + 3 * t))
    (hK : KR (μ 120) (μ 131) (μ 82 6) (ν 131) (ν 118 34)) : I_undo (N + 1) ν := by
  obtain ⟨⟨u1, u2, u3⟩, u4, u5⟩ := hU
  obtain ⟨k1, k2, k3⟩ := hK
  have eu2 : ν 118 34 = ν 82 6 := by
    rw [k1, eu]
    by_cases z : μ 82 6 = 8
    · rw [if_pos z, if_pos (by omega)]
    · rw [if_neg z, if_neg (by omega)]
  have eu3 : (μ 82 6 = 8 ∧ ν 82 6 = 8) ∨ (μ 82 6 < 8 ∧ ν 82 6 = μ 82 6 + 1) := by
    rw [eu]
    by_cases z : 8 < μ 82 6 + 1
    · rw [if_pos z]; left; omega
    · rw [if_neg z]; right; omega
  refine ⟨⟨by omega, by omega, by omega⟩, eu2, fun i t hi ht => ?_⟩
  by_cases hl : (i : Int) + 1 = ν 118 34
  · have htp : t = p := by omega
    subst htp
    rw [e6]
    exact SC.of_scene hS (by omega) h8 p0 p3 p4 pc ph (fun k hk => k3 i k hl hk)
  · have htp : ¬ t = p := by omega
    obtain ⟨r0, r1, r2⟩ := ro t (by omega) htp
    rw [e6, r0, r1, r2]
    rcases eu3 with ⟨z1, z2⟩ | ⟨z1, z2⟩
    · have h := u5 (i + 1) t (by omega) (by omega)
      refine (h.le (by omega)).congr h8 (fun k hk => ?_)
      have h2 := k2 i k (by omega) hk
      rw [if_pos z1] at h2
      exact h2
    · have h := u5 i t (by omega) (by omega)
      refine (h.le (by omega)).congr h8 (fun k hk => ?_)
      have h2 := k2 i k (by omega) hk
      rw [if_neg (by omega)] at h2
      exact h2
/-- behind an act: the class has settled, the model has kept and done it -/
theorem act_inv {μ M ν : Nat → Nat → Int} {p : Nat} (hI : Inv N μ) (hN : 0 ≤ N ∧ N ≤ 511) (hM : rm kJ M = rm kJ μ) (hp : (p : Int) = μ 82 5 % 8) (hν : rm kM ν = rm kM (stl M p)) (hSC : SC (N + 1) (μ 6) (M 83) (M 84) (M 85) (fun k => ν 120 (517 + k))) (hK : KR (μ 120) (μ 131) (μ 82 6) (ν 131) (ν 118 34)) (hl : I_last ν) : Inv (N + 1) ν := by
  have hp8 : p < 8 := by omega
  have h8 := hI.land.2.2.2.2.2.1.2
  have kc : ∀ a j, (a < 14 ∨ (16 < a ∧ a < 82) ∨ (82 < a ∧ a < 88) ∨ 111 < a) → kM a j = true → ν a j = μ a j := fun a j ha h => by
    rw [rm_cell hν h, stl_o hp8 ha]
    exact rm_cell hM (mM_mJ h)
  have kr : ∀ a, (a < 14 ∨ (16 < a ∧ a < 82) ∨ (82 < a ∧ a < 88) ∨ 111 < a) → (∀ j, kM a j = true) → ν a = μ a := fun a ha h => by
    funext j
    exact kc a j ha (h j)
  have e6 := kr 6 (by omega) (fun _ => rfl)
  have m14 : M 14 = μ 14 := rm_row hM (fun _ => rfl)
  have m15 : M 15 = μ 15 := rm_row hM (fun _ => rfl)
  have m16 : M 16 = μ 16 := rm_row hM (fun _ => rfl)
  have n14 : ν 14 = cpo (μ 14) (M 83) := by rw [rm_row hν (a := 14) (fun _ => rfl), stl_14, m14]
  have n15 : ν 15 = fl (M 84) (μ 15) 8 := by rw [rm_row hν (a := 15) (fun _ => rfl), stl_15, m15]
  have n16 : ν 16 = fl (M 85) (μ 16) 8 := by rw [rm_row hν (a := 16) (fun _ => rfl), stl_16, m16]
  have hsc := hI.scene
  have htk : M 83 4 ≤ 600 * (N + 1) := hSC.2.2.1.2
  have past : ∀ t, t < 8 → ν (88 + 3 * t) = stl M p (88 + 3 * t) ∧ ν (89 + 3 * t) = stl M p (89 + 3 * t) ∧ ν (90 + 3 * t) = stl M p (90 + 3 * t) := fun t ht => ⟨rm_row hν (fun _ => mJ_past (by omega) (by omega)), rm_row hν (fun _ => mJ_past (by omega) (by omega)), rm_row hν (fun _ => mJ_past (by omega) (by omega))⟩
  have mp : ∀ a, 88 ≤ a → a ≤ 111 → M a = μ a := fun a h1 h2 => rm_row hM (fun _ => mM_mJ (mJ_past h1 h2))
  have m5 : M 82 5 = μ 82 5 := rm_cell hM rfl
  have m6 : M 82 6 = μ 82 6 := rm_cell hM rfl
  refine Inv.mk (hI.tape.congr (kc 1 1 (by omega) rfl) (kr 2 (by omega) (fun _ => rfl)) (kc 118 2 (by omega) rfl) (kr 119 (by omega) (fun _ => rfl))) (hI.fault.congr (kc 3 2 (by omega) rfl) (kc 118 15 (by omega) rfl))
    (hI.land.congr e6 (kr 7 (by omega) (fun _ => rfl)) (kr 8 (by omega) (fun _ => rfl)) (kr 9 (by omega) (fun _ => rfl)) (kr 10 (by omega) (fun _ => rfl)) (fun j hj => kc 120 j (by omega) (mM_120 (Or.inl hj))))
    ?_ hl (hI.plan.congr e6 (kr 17 (by omega) (fun _ => rfl)) (kr 18 (by omega) (fun _ => rfl)) (kr 19 (by omega) (fun _ => rfl)) (kr 20 (by omega) (fun _ => rfl)) (fun j h1 _ => kc 120 j (by omega) (mM_120 (Or.inr h1))))
    (hI.names.congr h8 e6 (kr 11 (by omega) (fun _ => rfl)) (fun j _ => kc 123 j (by omega) rfl)) (by rw [n14]; exact htk) ?_ ((hI.le (show N ≤ N + 1 by omega)).kept.congr (fun a h1 h2 => kr a (by omega) (fun _ => mM_kept h1 h2)) (kr 138 (by omega) (fun _ => rfl)) (kr 139 (by omega) (fun _ => rfl)) (kr 140 (by omega) (fun _ => rfl))) (hI.words.congr (kr 4 (by omega) (fun _ => rfl)) (kr 124 (by omega) (fun _ => rfl))) (hI.fresh.congr (kr 55 (by omega) (fun _ => rfl)) (kr 60 (by omega) (fun _ => rfl)) (kr 61 (by omega) (fun _ => rfl))) (by unfold I_flag; rw [e6]; exact hI.flag)
  · refine scene_of_SC (N := N + 1) (sc := M 83) (cl := M 84) (hd := M 85) (by rw [e6]; exact hSC) (by omega) (by rw [e6]; exact h8) (by rw [n14]; rfl) (by rw [n14]; rfl) (by rw [n14]; rfl) (fun j hj => by rw [n15, fl_lt hj]) (fun j hj => by rw [n16, fl_lt hj]) (fun j hj => by rw [n15, fl_8 hj]; exact hsc.2.2.2.2.2.2.1 j) (fun j hj => by rw [n16, fl_8 hj]; exact hsc.2.2.2.2.2.2.2.1 j) (by rw [e6]; exact hsc.2.2.2.2.2.2.2.2.2.2.2.2)
  · refine undo_push (p := p) hI.undo hsc hI.took h8 hp e6 ?_ ?_ ?_ ?_ ?_ ?_ ?_ ?_ hK
    · rw [rm_cell hν rfl, stl_82, if_neg (by decide), if_pos rfl, m5]
    · rw [rm_cell hν rfl, stl_82, if_pos rfl, m6]
    · rw [(past p hp8).1, stl_p0, m14]; rfl
    · rw [(past p hp8).1, stl_p0, m14]; rfl
    · rw [(past p hp8).1, stl_p0, m14]; rfl
    · intro j hj
      rw [(past p hp8).2.1, stl_p1, fl_lt hj, m15]
    · intro j hj
      rw [(past p hp8).2.2, stl_p2, fl_lt hj, m16]
    · intro t ht hne
      obtain ⟨q0, q1, q2⟩ := past t ht
      rw [q0, q1, q2, stl_p (by omega) (by omega) (by omega) (by omega), stl_p (by omega) (by omega) (by omega) (by omega), stl_p (by omega) (by omega) (by omega) (by omega)]
      exact ⟨mp _ (by omega) (by omega), mp _ (by omega) (by omega), mp _ (by omega) (by omega)⟩
/-- the last verdict is as it was -/
def kL (a j : Nat) : Bool := sup a j && !(a == 131 || (a == 118 && j == 34) || (a == 120 && (Nat.ble 517 j && Nat.ble j 535)))
theorem act_last {μ M ν : Nat → Nat → Int} {p : Nat} (hp : p < 8) (h : I_last μ) (hM : rst M = rst μ) (hν : rm kL ν = rm kL (stl M p)) : I_last ν := by
  have hM2 : rm sup M = rm sup μ := hM
  have kc : ∀ a j, (a < 14 ∨ (16 < a ∧ a < 82) ∨ (82 < a ∧ a < 88) ∨ 111 < a) → kL a j = true → sup a j = true → ν a j = μ a j := fun a j ha h h2 => by
    rw [rm_cell hν h, stl_o hp ha]
    exact rm_cell hM2 h2
  have kr : ∀ a, (a < 14 ∨ (16 < a ∧ a < 82) ∨ (82 < a ∧ a < 88) ∨ 111 < a) → (∀ j, kL a j = true) → (∀ j, sup a j = true) → ν a = μ a := fun a ha h h2 => by
    funext j
    exact kc a j ha (h j) (h2 j)
  refine h.congr (kc 0 14 (by omega) rfl rfl) (kc 118 31 (by omega) rfl rfl) (kr 130 (by omega) (fun _ => rfl) (fun _ => rfl)) (kr 116 (by omega) (fun _ => rfl) (fun _ => rfl)) (kc 0 16 (by omega) rfl rfl) (kc 118 39 (by omega) rfl rfl) (kr 135 (by omega) (fun _ => rfl) (fun _ => rfl)) (kr 117 (by omega) (fun _ => rfl) (fun _ => rfl)) (kc 112 5 (by omega) rfl rfl) (kc 118 37 (by omega) rfl rfl) (kr 134 (by omega) (fun _ => rfl) (fun _ => rfl)) (kr 115 (by omega) (fun _ => rfl) (fun _ => rfl)) ?_ (kc 118 44 (by omega) rfl rfl) (kr 136 (by omega) (fun _ => rfl) (fun _ => rfl)) (kr 87 (by omega) (fun _ => rfl) (fun _ => rfl))
  rw [rm_cell hν rfl, stl_82, if_neg (by decide), if_neg (by decide)]
  exact rm_cell hM2 rfl
theorem mL_mM {μ ν : Nat → Nat → Int} (h : rm kL ν = rm kL μ) : rm kM ν = rm kM μ := rm_sub (k := kL) (fun a j hj => by
  unfold kM kJ at hj
  unfold kL
  rw [Bool.and_eq_true_iff] at hj ⊢
  exact ⟨(Bool.and_eq_true_iff.mp hj.1).1, hj.2⟩) h
