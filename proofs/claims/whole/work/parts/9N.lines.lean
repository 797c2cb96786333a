variable {N : Int}
/-! ===== printed by wip/whole/gen9N.py: lines of a moor ===== -/
def CF (μ μ' : Nat → Nat → Int) : Prop := (∀ r, ¬ r = 1 → ¬ r = 3 → (r < 54 ∨ 61 < r) → μ' r = μ r) ∧ (I_fresh μ → I_fresh μ')
theorem CF.r {μ : Nat → Nat → Int} : CF μ μ := ⟨fun _ _ _ _ => rfl, fun h => h⟩
theorem CF.s {μ ν : Nat → Nat → Int} {a i : Nat} {v : Int} (h : CF μ ν) (ha : a = 1 ∨ a = 3 ∨ a = 54 ∨ (56 ≤ a ∧ a ≤ 59)) : CF μ (m_set ν a i v) := by
  have hr : ∀ r, ¬ r = a → m_set ν a i v r = ν r := fun r hr => by
    funext j
    show (if r = a ∧ j = i then v else ν r j) = ν r j
    rw [if_neg (fun z => hr z.1)]
  refine ⟨fun r h1 h2 h3 => (hr r (by omega)).trans (h.1 r h1 h2 h3), fun z j => ?_⟩
  rw [hr 55 (by omega), hr 60 (by omega), hr 61 (by omega)]
  exact h.2 z j
theorem CF.u {μ ν : Nat → Nat → Int} {a : Nat} {f : Nat → Int} (h : CF μ ν) (ha : a = 1 ∨ a = 3 ∨ a = 54 ∨ (56 ≤ a ∧ a ≤ 59)) : CF μ (m_upd ν a f) := by
  have hr : ∀ r, ¬ r = a → m_upd ν a f r = ν r := fun r hr => by
    funext j
    show (if r = a then f j else ν r j) = ν r j
    rw [if_neg hr]
  refine ⟨fun r h1 h2 h3 => (hr r (by omega)).trans (h.1 r h1 h2 h3), fun z j => ?_⟩
  rw [hr 55 (by omega), hr 60 (by omega), hr 61 (by omega)]
  exact h.2 z j
theorem CF.sv {μ ν : Nat → Nat → Int} {a i : Nat} {v : Int} (h : CF μ ν) (ha : a = 55 ∨ a = 60 ∨ a = 61) (hv : 0 ≤ v ∧ v ≤ 99) : CF μ (m_set ν a i v) := by
  have hr : ∀ r, ¬ r = a → m_set ν a i v r = ν r := fun r hr => by
    funext j
    show (if r = a ∧ j = i then v else ν r j) = ν r j
    rw [if_neg (fun z => hr z.1)]
  have hb : ∀ r j, (0 ≤ ν r j ∧ ν r j ≤ 99) → 0 ≤ m_set ν a i v r j ∧ m_set ν a i v r j ≤ 99 := fun r j hz => by
    show 0 ≤ (if r = a ∧ j = i then v else ν r j) ∧ (if r = a ∧ j = i then v else ν r j) ≤ 99
    by_cases q : r = a ∧ j = i
    · rw [if_pos q]; exact hv
    · rw [if_neg q]; exact hz
  exact ⟨fun r h1 h2 h3 => (hr r (by omega)).trans (h.1 r h1 h2 h3), fun z j => ⟨hb 55 j (h.2 z j).1, hb 60 j (h.2 z j).2.1, hb 61 j (h.2 z j).2.2⟩⟩
theorem CF.u55 {μ ν : Nat → Nat → Int} {f : Nat → Int} (h : CF μ ν) (hv : I_fresh μ → ∀ j, 0 ≤ f j ∧ f j ≤ 99) : CF μ (m_upd ν 55 f) := by
  have hr : ∀ r, ¬ r = 55 → m_upd ν 55 f r = ν r := fun r hr => by
    funext j
    show (if r = 55 then f j else ν r j) = ν r j
    rw [if_neg hr]
  refine ⟨fun r h1 h2 h3 => (hr r (by omega)).trans (h.1 r h1 h2 h3), fun z j => ?_⟩
  rw [hr 60 (by omega), hr 61 (by omega)]
  exact ⟨hv z j, (h.2 z j).2⟩
abbrev fq (j : Nat) : Prop := 22 ≤ j ∨ j ≤ 3 ∨ (5 ≤ j ∧ j ≤ 10) ∨ j = 19
def MFr (ν ν' : Nat → Nat → Int) : Prop := (∀ r, ¬ r = 118 → ¬ r = 121 → ¬ r = 123 → ν' r = ν r) ∧ (∀ j, fq j → ν' 118 j = ν 118 j) ∧ (∀ j, j < 8 → ν' 123 j = ν 123 j)
theorem MFr.r {ν : Nat → Nat → Int} : MFr ν ν := ⟨fun _ _ _ _ => rfl, fun _ _ => rfl, fun _ _ => rfl⟩
theorem MFr.s {μ ν : Nat → Nat → Int} {i : Nat} {v : Int} (h : MFr μ ν) (hi : ¬ fq i) : MFr μ (m_set ν 118 i v) := ⟨fun r h1 h2 h3 => by
  refine Eq.trans ?_ (h.1 r h1 h2 h3)
  funext j
  show (if r = 118 ∧ j = i then v else ν r j) = ν r j
  rw [if_neg (fun z => by omega)], fun j hj => by
  refine Eq.trans ?_ (h.2.1 j hj)
  show (if 118 = 118 ∧ j = i then v else ν 118 j) = ν 118 j
  rw [if_neg (show ¬ (118 = 118 ∧ j = i) from fun z => hi (z.2 ▸ hj))], fun j hj => (show m_set ν 118 i v 123 j = ν 123 j from if_neg (fun z => absurd z.1 (by decide))).trans (h.2.2 j hj)⟩
theorem MFr.s2 {μ ν : Nat → Nat → Int} {a i : Nat} {v : Int} (h : MFr μ ν) (ha : a = 121 ∨ (a = 123 ∧ 8 ≤ i)) : MFr μ (m_set ν a i v) := ⟨fun r h1 h2 h3 => by
  refine Eq.trans ?_ (h.1 r h1 h2 h3)
  funext j
  show (if r = a ∧ j = i then v else ν r j) = ν r j
  rw [if_neg (fun z => by omega)], fun j hj => by
  refine Eq.trans ?_ (h.2.1 j hj)
  show (if 118 = a ∧ j = i then v else ν 118 j) = ν 118 j
  rw [if_neg (fun z => by omega)], fun j hj => by
  refine Eq.trans ?_ (h.2.2 j hj)
  show (if 123 = a ∧ j = i then v else ν 123 j) = ν 123 j
  rw [if_neg (fun z => by omega)]⟩
def CFo (μ μ' : Nat → Nat → Int) : Prop := CF μ μ' ∧ μ' 3 2 = μ 3 2
def MFo (ν ν' : Nat → Nat → Int) : Prop := MFr ν ν' ∧ ν' 118 15 = ν 118 15
def FRt (H1 H0 : Nat → Int) : Prop := (∀ j, ¬ j = 4 → ¬ j = 11 → ¬ j = 12 → ¬ j = 13 → ¬ j = 14 → ¬ j = 17 → ¬ j = 18 → H1 j = H0 j)
theorem FRn.t {H1 H0 : Nat → Int} (h : FRn H1 H0) : FRt H1 H0 := fun j a b c d e f _ => h j a b c d e f
theorem MFr.u {μ ν : Nat → Nat → Int} {f : Nat → Int} (h : MFr μ ν) (hf : FRt f (ν 118)) : MFr μ (m_upd ν 118 f) := ⟨fun r h1 h2 h3 => by
  refine Eq.trans ?_ (h.1 r h1 h2 h3)
  funext j
  show (if r = 118 then f j else ν r j) = ν r j
  rw [if_neg h1], fun j hj => Eq.trans (hf j (by omega) (by omega) (by omega) (by omega) (by omega) (by omega) (by omega)) (h.2.1 j hj), fun j hj => (show m_upd ν 118 f 123 j = ν 123 j from if_neg (by decide)).trans (h.2.2 j hj)⟩
theorem or_once : ∀ O : Nat, O < 8 → ∀ i : Nat, i < 3 → O / 2 ^ i % 2 = 0 → m_or (O : Int) (m_shl 1 (i : Int)) = ((O + 2 ^ i : Nat) : Int) ∧ bI (O : Int) i = false := by decide +kernel
theorem or_had : ∀ O : Nat, O < 8 → ∀ i : Nat, i < 3 → O / 2 ^ i % 2 = 1 → bI (O : Int) i = true := by decide +kernel
theorem k_law_x0 {μ : Nat → Nat → Int} {c s : Nat} {b : Nat → Int} {n m p : Nat} (hC0 : CSt μ b n m p) (h16 : μ 54 16 = 0) (e0 : ¬ eN b n m p 1 99 = 0) : ∃ μ', (μ' 3 2 = eN b n m p 1 99 ∧ μ' 1 4 = ((tkP b n m p : Nat) : Int) ∧ CF μ μ') ∧ Cl PT 53 [mR 3, mR 54] (mkh μ c s) (fun r => r = (some (some (mI 0)), mkh μ' c s)) := by
  refine Cl.ex (g := fun μ' => (some (some (mI 0)), mkh μ' c s)) ?_
  refine ⟨_, PT_53, Nat.le_of_ble_eq_true rfl, ?_⟩
  show Rn PT none kX5_readLaw 0 [some (mR 3), some (mR 54)] [] (mkh μ c s) _
  refine rn_aload_n (k' := 1) rfl rfl rfl ?_
  refine rn_getZ (k' := 2) rfl rfl K0_54 (by decide) rfl ?_
  refine rn_if_eq (k' := 3) rfl rfl (fun hc1 => ?_) (fun hc1 => ?_)
  · skip
    refine rn_aload_n (k' := 8) rfl rfl rfl ?_
    refine rn_iconst (k' := 9) rfl rfl ?_
    refine rn_putZ (k' := 10) rfl rfl K0_54 (by decide) rfl (by omega) ?_
    refine rn_aload_n (k' := 11) rfl rfl rfl ?_
    refine rn_iconst (k' := 12) rfl rfl ?_
    refine rn_bipush (k' := 13) rfl rfl ?_
    obtain ⟨A0, hA0, hc0⟩ := g_numX (μ := (m_set μ 54 16 (1))) (c := c) (s := s) (b := b) (n := n) (m := m) (p := p) (lo := 1) (hi := 99) hC0 e0
    refine rn_callP (k' := 14) (y := 47) (vs := [mR 3, mI (1), mI (99)]) (S' := []) (v := some (mI (0))) (h' := mkh (m_set (m_upd (m_set μ 54 16 (1)) 1 A0) 3 2 (eN b n m p (1) (99))) c s) rfl rfl rfl (hc0) ?_
    show Rn PT none kX5_readLaw 14 [some (mR 3), some (mR 54)] [mI (0)] (mkh (m_set (m_upd (m_set μ 54 16 (1)) 1 A0) 3 2 (eN b n m p (1) (99))) c s) _
    refine rn_if_ne (k' := 15) rfl rfl (fun hc3 => ?_) (fun hc3 => ?_)
    · exfalso; omega
    · skip
      refine rn_iconst (k' := 16) rfl rfl ?_
      refine rn_iret rfl (Or.inr (by omega)) ?_
      exact ⟨_, rfl, rfl, hA0.2.2.2.1, (CF.s (CF.u (CF.s CF.r (by decide)) (by decide)) (by decide))⟩
  · exfalso; omega
theorem k_law_x1 {μ : Nat → Nat → Int} {c s : Nat} {b : Nat → Int} {n m p : Nat} (hC0 : CSt μ b n m p) (h16 : μ 54 16 = 0) (e0 : eN b n m p 1 99 = 0) (e1 : ¬ eN b n m (tkN b n m p) 0 99 = 0) : ∃ μ', (μ' 3 2 = eN b n m (tkN b n m p) 0 99 ∧ μ' 1 4 = ((tkP b n m (tkN b n m p) : Nat) : Int) ∧ CF μ μ') ∧ Cl PT 53 [mR 3, mR 54] (mkh μ c s) (fun r => r = (some (some (mI 0)), mkh μ' c s)) := by
  refine Cl.ex (g := fun μ' => (some (some (mI 0)), mkh μ' c s)) ?_
  refine ⟨_, PT_53, Nat.le_of_ble_eq_true rfl, ?_⟩
  show Rn PT none kX5_readLaw 0 [some (mR 3), some (mR 54)] [] (mkh μ c s) _
  refine rn_aload_n (k' := 1) rfl rfl rfl ?_
  refine rn_getZ (k' := 2) rfl rfl K0_54 (by decide) rfl ?_
  refine rn_if_eq (k' := 3) rfl rfl (fun hc1 => ?_) (fun hc1 => ?_)
  · skip
    refine rn_aload_n (k' := 8) rfl rfl rfl ?_
    refine rn_iconst (k' := 9) rfl rfl ?_
    refine rn_putZ (k' := 10) rfl rfl K0_54 (by decide) rfl (by omega) ?_
    refine rn_aload_n (k' := 11) rfl rfl rfl ?_
    refine rn_iconst (k' := 12) rfl rfl ?_
    refine rn_bipush (k' := 13) rfl rfl ?_
    obtain ⟨A0, hA0, hc0⟩ := g_num (μ := (m_set μ 54 16 (1))) (c := c) (s := s) (b := b) (n := n) (m := m) (p := p) (lo := 1) (hi := 99) hC0 e0
    have hC1 : CSt (m_upd (m_set μ 54 16 (1)) 1 A0) b n m (tkN b n m p) := ⟨hC0.1, hC0.2.1, (tkN_b hC0.2.2.1).2.1, hA0.1, hA0.2.1, hA0.2.2.1⟩
    refine rn_callP (k' := 14) (y := 47) (vs := [mR 3, mI (1), mI (99)]) (S' := []) (v := some (mI (1))) (h' := mkh (m_upd (m_set μ 54 16 (1)) 1 A0) c s) rfl rfl rfl (hc0) ?_
    show Rn PT none kX5_readLaw 14 [some (mR 3), some (mR 54)] [mI (1)] (mkh (m_upd (m_set μ 54 16 (1)) 1 A0) c s) _
    refine rn_if_ne (k' := 15) rfl rfl (fun hc3 => ?_) (fun hc3 => ?_)
    · skip
      refine rn_aload_n (k' := 18) rfl rfl rfl ?_
      refine rn_aload_n (k' := 19) rfl rfl rfl ?_
      refine rn_getR (k' := 20) rfl rfl K0_3 (by decide) rfl R0_3_0 ?_
      refine rn_getI (k' := 21) rfl rfl K0_1 (by decide) rfl ?_
      show Rn PT none kX5_readLaw 21 [some (mR 3), some (mR 54)] [mI (A0 6), mR 54] (mkh (m_upd (m_set μ 54 16 (1)) 1 A0) c s) _
      refine rn_putI (k' := 22) rfl rfl K0_54 (by decide) rfl ?_
      refine rn_aload_n (k' := 23) rfl rfl rfl ?_
      refine rn_iconst (k' := 24) rfl rfl ?_
      refine rn_bipush (k' := 25) rfl rfl ?_
      obtain ⟨A1, hA1, hc1⟩ := g_numX (μ := (m_set (m_upd (m_set μ 54 16 (1)) 1 A0) 54 10 (A0 6))) (c := c) (s := s) (b := b) (n := n) (m := m) (p := (tkN b n m p)) (lo := 0) (hi := 99) hC1 e1
      refine rn_callP (k' := 26) (y := 47) (vs := [mR 3, mI (0), mI (99)]) (S' := []) (v := some (mI (0))) (h' := mkh (m_set (m_upd (m_set (m_upd (m_set μ 54 16 (1)) 1 A0) 54 10 (A0 6)) 1 A1) 3 2 (eN b n m (tkN b n m p) (0) (99))) c s) rfl rfl rfl (hc1) ?_
      show Rn PT none kX5_readLaw 26 [some (mR 3), some (mR 54)] [mI (0)] (mkh (m_set (m_upd (m_set (m_upd (m_set μ 54 16 (1)) 1 A0) 54 10 (A0 6)) 1 A1) 3 2 (eN b n m (tkN b n m p) (0) (99))) c s) _
      refine rn_if_ne (k' := 27) rfl rfl (fun hc5 => ?_) (fun hc5 => ?_)
      · exfalso; omega
      · skip
        refine rn_iconst (k' := 28) rfl rfl ?_
        refine rn_iret rfl (Or.inr (by omega)) ?_
        exact ⟨_, rfl, rfl, hA1.2.2.2.1, (CF.s (CF.u (CF.s (CF.u (CF.s CF.r (by decide)) (by decide)) (by decide)) (by decide)) (by decide))⟩
    · exfalso; omega
  · exfalso; omega
theorem k_law_x2 {μ : Nat → Nat → Int} {c s : Nat} {b : Nat → Int} {n m p : Nat} (hC0 : CSt μ b n m p) (h16 : μ 54 16 = 0) (e0 : eN b n m p 1 99 = 0) (e1 : eN b n m (tkN b n m p) 0 99 = 0) (e2 : ¬ tkK b n m (tkN b n m (tkN b n m p)) = 3) : ∃ μ', (μ' 3 2 = 1 ∧ μ' 1 4 = ((tkP b n m (tkN b n m (tkN b n m p)) : Nat) : Int) ∧ CF μ μ') ∧ Cl PT 53 [mR 3, mR 54] (mkh μ c s) (fun r => r = (some (some (mI 0)), mkh μ' c s)) := by
  refine Cl.ex (g := fun μ' => (some (some (mI 0)), mkh μ' c s)) ?_
  refine ⟨_, PT_53, Nat.le_of_ble_eq_true rfl, ?_⟩
  show Rn PT none kX5_readLaw 0 [some (mR 3), some (mR 54)] [] (mkh μ c s) _
  refine rn_aload_n (k' := 1) rfl rfl rfl ?_
  refine rn_getZ (k' := 2) rfl rfl K0_54 (by decide) rfl ?_
  refine rn_if_eq (k' := 3) rfl rfl (fun hc1 => ?_) (fun hc1 => ?_)
  · skip
    refine rn_aload_n (k' := 8) rfl rfl rfl ?_
    refine rn_iconst (k' := 9) rfl rfl ?_
    refine rn_putZ (k' := 10) rfl rfl K0_54 (by decide) rfl (by omega) ?_
    refine rn_aload_n (k' := 11) rfl rfl rfl ?_
    refine rn_iconst (k' := 12) rfl rfl ?_
    refine rn_bipush (k' := 13) rfl rfl ?_
    obtain ⟨A0, hA0, hc0⟩ := g_num (μ := (m_set μ 54 16 (1))) (c := c) (s := s) (b := b) (n := n) (m := m) (p := p) (lo := 1) (hi := 99) hC0 e0
    have hC1 : CSt (m_upd (m_set μ 54 16 (1)) 1 A0) b n m (tkN b n m p) := ⟨hC0.1, hC0.2.1, (tkN_b hC0.2.2.1).2.1, hA0.1, hA0.2.1, hA0.2.2.1⟩
    refine rn_callP (k' := 14) (y := 47) (vs := [mR 3, mI (1), mI (99)]) (S' := []) (v := some (mI (1))) (h' := mkh (m_upd (m_set μ 54 16 (1)) 1 A0) c s) rfl rfl rfl (hc0) ?_
    show Rn PT none kX5_readLaw 14 [some (mR 3), some (mR 54)] [mI (1)] (mkh (m_upd (m_set μ 54 16 (1)) 1 A0) c s) _
    refine rn_if_ne (k' := 15) rfl rfl (fun hc3 => ?_) (fun hc3 => ?_)
    · skip
      refine rn_aload_n (k' := 18) rfl rfl rfl ?_
      refine rn_aload_n (k' := 19) rfl rfl rfl ?_
      refine rn_getR (k' := 20) rfl rfl K0_3 (by decide) rfl R0_3_0 ?_
      refine rn_getI (k' := 21) rfl rfl K0_1 (by decide) rfl ?_
      show Rn PT none kX5_readLaw 21 [some (mR 3), some (mR 54)] [mI (A0 6), mR 54] (mkh (m_upd (m_set μ 54 16 (1)) 1 A0) c s) _
      refine rn_putI (k' := 22) rfl rfl K0_54 (by decide) rfl ?_
      refine rn_aload_n (k' := 23) rfl rfl rfl ?_
      refine rn_iconst (k' := 24) rfl rfl ?_
      refine rn_bipush (k' := 25) rfl rfl ?_
      obtain ⟨A1, hA1, hc1⟩ := g_num (μ := (m_set (m_upd (m_set μ 54 16 (1)) 1 A0) 54 10 (A0 6))) (c := c) (s := s) (b := b) (n := n) (m := m) (p := (tkN b n m p)) (lo := 0) (hi := 99) hC1 e1
      have hC2 : CSt (m_upd (m_set (m_upd (m_set μ 54 16 (1)) 1 A0) 54 10 (A0 6)) 1 A1) b n m (tkN b n m (tkN b n m p)) := ⟨hC1.1, hC1.2.1, (tkN_b hC1.2.2.1).2.1, hA1.1, hA1.2.1, hA1.2.2.1⟩
      refine rn_callP (k' := 26) (y := 47) (vs := [mR 3, mI (0), mI (99)]) (S' := []) (v := some (mI (1))) (h' := mkh (m_upd (m_set (m_upd (m_set μ 54 16 (1)) 1 A0) 54 10 (A0 6)) 1 A1) c s) rfl rfl rfl (hc1) ?_
      show Rn PT none kX5_readLaw 26 [some (mR 3), some (mR 54)] [mI (1)] (mkh (m_upd (m_set (m_upd (m_set μ 54 16 (1)) 1 A0) 54 10 (A0 6)) 1 A1) c s) _
      refine rn_if_ne (k' := 27) rfl rfl (fun hc5 => ?_) (fun hc5 => ?_)
      · skip
        refine rn_aload_n (k' := 30) rfl rfl rfl ?_
        refine rn_aload_n (k' := 31) rfl rfl rfl ?_
        refine rn_getR (k' := 32) rfl rfl K0_3 (by decide) rfl R0_3_0 ?_
        refine rn_getI (k' := 33) rfl rfl K0_1 (by decide) rfl ?_
        show Rn PT none kX5_readLaw 33 [some (mR 3), some (mR 54)] [mI (A1 6), mR 54] (mkh (m_upd (m_set (m_upd (m_set μ 54 16 (1)) 1 A0) 54 10 (A0 6)) 1 A1) c s) _
        refine rn_putI (k' := 34) rfl rfl K0_54 (by decide) rfl ?_
        refine rn_aload_n (k' := 35) rfl rfl rfl ?_
        obtain ⟨A2, hA2, hc2⟩ := g_endX (μ := (m_set (m_upd (m_set (m_upd (m_set μ 54 16 (1)) 1 A0) 54 10 (A0 6)) 1 A1) 54 11 (A1 6))) (c := c) (s := s) (b := b) (n := n) (m := m) (p := (tkN b n m (tkN b n m p))) hC2 e2
        refine rn_callP (k' := 36) (y := 50) (vs := [mR 3]) (S' := []) (v := some (mI (0))) (h' := mkh (m_set (m_upd (m_set (m_upd (m_set (m_upd (m_set μ 54 16 (1)) 1 A0) 54 10 (A0 6)) 1 A1) 54 11 (A1 6)) 1 A2) 3 2 (1)) c s) rfl rfl rfl (hc2) ?_
        show Rn PT none kX5_readLaw 36 [some (mR 3), some (mR 54)] [mI (0)] (mkh (m_set (m_upd (m_set (m_upd (m_set (m_upd (m_set μ 54 16 (1)) 1 A0) 54 10 (A0 6)) 1 A1) 54 11 (A1 6)) 1 A2) 3 2 (1)) c s) _
        refine rn_iret rfl (Or.inr (by omega)) ?_
        exact ⟨_, rfl, rfl, hA2.2.2.2.1, (CF.s (CF.u (CF.s (CF.u (CF.s (CF.u (CF.s CF.r (by decide)) (by decide)) (by decide)) (by decide)) (by decide)) (by decide)) (by decide))⟩
      · exfalso; omega
    · exfalso; omega
  · exfalso; omega
theorem k_law_ok {μ : Nat → Nat → Int} {c s : Nat} {b : Nat → Int} {n m p : Nat} (hC0 : CSt μ b n m p) (h16 : μ 54 16 = 0) (e0 : eN b n m p 1 99 = 0) (e1 : eN b n m (tkN b n m p) 0 99 = 0) (e2 : tkK b n m (tkN b n m (tkN b n m p)) = 3) : ∃ μ', (CSt μ' b n m (tkN b n m (tkN b n m (tkN b n m p))) ∧ CFo μ μ' ∧ μ' 54 10 = tkV b n m p ∧ μ' 54 11 = tkV b n m (tkN b n m p) ∧ μ' 54 16 = 1 ∧ (∀ j, ¬ j = 10 → ¬ j = 11 → ¬ j = 16 → μ' 54 j = μ 54 j) ∧ μ' 55 = μ 55 ∧ μ' 56 = μ 56 ∧ μ' 57 = μ 57 ∧ μ' 58 = μ 58 ∧ μ' 59 = μ 59 ∧ μ' 60 = μ 60 ∧ μ' 61 = μ 61) ∧ Cl PT 53 [mR 3, mR 54] (mkh μ c s) (fun r => r = (some (some (mI 1)), mkh μ' c s)) := by
  refine Cl.ex (g := fun μ' => (some (some (mI 1)), mkh μ' c s)) ?_
  refine ⟨_, PT_53, Nat.le_of_ble_eq_true rfl, ?_⟩
  show Rn PT none kX5_readLaw 0 [some (mR 3), some (mR 54)] [] (mkh μ c s) _
  refine rn_aload_n (k' := 1) rfl rfl rfl ?_
  refine rn_getZ (k' := 2) rfl rfl K0_54 (by decide) rfl ?_
  refine rn_if_eq (k' := 3) rfl rfl (fun hc1 => ?_) (fun hc1 => ?_)
  · skip
    refine rn_aload_n (k' := 8) rfl rfl rfl ?_
    refine rn_iconst (k' := 9) rfl rfl ?_
    refine rn_putZ (k' := 10) rfl rfl K0_54 (by decide) rfl (by omega) ?_
    refine rn_aload_n (k' := 11) rfl rfl rfl ?_
    refine rn_iconst (k' := 12) rfl rfl ?_
    refine rn_bipush (k' := 13) rfl rfl ?_
    obtain ⟨A0, hA0, hc0⟩ := g_num (μ := (m_set μ 54 16 (1))) (c := c) (s := s) (b := b) (n := n) (m := m) (p := p) (lo := 1) (hi := 99) hC0 e0
    have hC1 : CSt (m_upd (m_set μ 54 16 (1)) 1 A0) b n m (tkN b n m p) := ⟨hC0.1, hC0.2.1, (tkN_b hC0.2.2.1).2.1, hA0.1, hA0.2.1, hA0.2.2.1⟩
    refine rn_callP (k' := 14) (y := 47) (vs := [mR 3, mI (1), mI (99)]) (S' := []) (v := some (mI (1))) (h' := mkh (m_upd (m_set μ 54 16 (1)) 1 A0) c s) rfl rfl rfl (hc0) ?_
    show Rn PT none kX5_readLaw 14 [some (mR 3), some (mR 54)] [mI (1)] (mkh (m_upd (m_set μ 54 16 (1)) 1 A0) c s) _
    refine rn_if_ne (k' := 15) rfl rfl (fun hc3 => ?_) (fun hc3 => ?_)
    · skip
      refine rn_aload_n (k' := 18) rfl rfl rfl ?_
      refine rn_aload_n (k' := 19) rfl rfl rfl ?_
      refine rn_getR (k' := 20) rfl rfl K0_3 (by decide) rfl R0_3_0 ?_
      refine rn_getI (k' := 21) rfl rfl K0_1 (by decide) rfl ?_
      show Rn PT none kX5_readLaw 21 [some (mR 3), some (mR 54)] [mI (A0 6), mR 54] (mkh (m_upd (m_set μ 54 16 (1)) 1 A0) c s) _
      refine rn_putI (k' := 22) rfl rfl K0_54 (by decide) rfl ?_
      refine rn_aload_n (k' := 23) rfl rfl rfl ?_
      refine rn_iconst (k' := 24) rfl rfl ?_
      refine rn_bipush (k' := 25) rfl rfl ?_
      obtain ⟨A1, hA1, hc1⟩ := g_num (μ := (m_set (m_upd (m_set μ 54 16 (1)) 1 A0) 54 10 (A0 6))) (c := c) (s := s) (b := b) (n := n) (m := m) (p := (tkN b n m p)) (lo := 0) (hi := 99) hC1 e1
      have hC2 : CSt (m_upd (m_set (m_upd (m_set μ 54 16 (1)) 1 A0) 54 10 (A0 6)) 1 A1) b n m (tkN b n m (tkN b n m p)) := ⟨hC1.1, hC1.2.1, (tkN_b hC1.2.2.1).2.1, hA1.1, hA1.2.1, hA1.2.2.1⟩
      refine rn_callP (k' := 26) (y := 47) (vs := [mR 3, mI (0), mI (99)]) (S' := []) (v := some (mI (1))) (h' := mkh (m_upd (m_set (m_upd (m_set μ 54 16 (1)) 1 A0) 54 10 (A0 6)) 1 A1) c s) rfl rfl rfl (hc1) ?_
      show Rn PT none kX5_readLaw 26 [some (mR 3), some (mR 54)] [mI (1)] (mkh (m_upd (m_set (m_upd (m_set μ 54 16 (1)) 1 A0) 54 10 (A0 6)) 1 A1) c s) _
      refine rn_if_ne (k' := 27) rfl rfl (fun hc5 => ?_) (fun hc5 => ?_)
      · skip
        refine rn_aload_n (k' := 30) rfl rfl rfl ?_
        refine rn_aload_n (k' := 31) rfl rfl rfl ?_
        refine rn_getR (k' := 32) rfl rfl K0_3 (by decide) rfl R0_3_0 ?_
        refine rn_getI (k' := 33) rfl rfl K0_1 (by decide) rfl ?_
        show Rn PT none kX5_readLaw 33 [some (mR 3), some (mR 54)] [mI (A1 6), mR 54] (mkh (m_upd (m_set (m_upd (m_set μ 54 16 (1)) 1 A0) 54 10 (A0 6)) 1 A1) c s) _
        refine rn_putI (k' := 34) rfl rfl K0_54 (by decide) rfl ?_
        refine rn_aload_n (k' := 35) rfl rfl rfl ?_
        obtain ⟨A2, hA2, hc2⟩ := g_end (μ := (m_set (m_upd (m_set (m_upd (m_set μ 54 16 (1)) 1 A0) 54 10 (A0 6)) 1 A1) 54 11 (A1 6))) (c := c) (s := s) (b := b) (n := n) (m := m) (p := (tkN b n m (tkN b n m p))) hC2 e2
        have hC3 : CSt (m_upd (m_set (m_upd (m_set (m_upd (m_set μ 54 16 (1)) 1 A0) 54 10 (A0 6)) 1 A1) 54 11 (A1 6)) 1 A2) b n m (tkN b n m (tkN b n m (tkN b n m p))) := ⟨hC2.1, hC2.2.1, (tkN_b hC2.2.2.1).2.1, hA2.1, hA2.2.1, hA2.2.2.1⟩
        refine rn_callP (k' := 36) (y := 50) (vs := [mR 3]) (S' := []) (v := some (mI (1))) (h' := mkh (m_upd (m_set (m_upd (m_set (m_upd (m_set μ 54 16 (1)) 1 A0) 54 10 (A0 6)) 1 A1) 54 11 (A1 6)) 1 A2) c s) rfl rfl rfl (hc2) ?_
        show Rn PT none kX5_readLaw 36 [some (mR 3), some (mR 54)] [mI (1)] (mkh (m_upd (m_set (m_upd (m_set (m_upd (m_set μ 54 16 (1)) 1 A0) 54 10 (A0 6)) 1 A1) 54 11 (A1 6)) 1 A2) c s) _
        refine rn_iret rfl (Or.inr (by omega)) ?_
        exact ⟨_, rfl, hC3, ⟨(CF.u (CF.s (CF.u (CF.s (CF.u (CF.s CF.r (by decide)) (by decide)) (by decide)) (by decide)) (by decide)) (by decide)), rfl⟩, ⟨hA0.2.2.2.2.2, hA1.2.2.2.2.2, rfl, (fun j h10 h11 h16 => by simp [m_set, m_upd, h10, h11, h16]), rfl, rfl, rfl, rfl, rfl, rfl, rfl⟩⟩
      · exfalso; omega
    · exfalso; omega
  · exfalso; omega
theorem k_wood_x0 {μ : Nat → Nat → Int} {c s : Nat} {b : Nat → Int} {n m p : Nat} (hC0 : CSt μ b n m p) (h17 : μ 54 17 = 0) (e0 : ¬ eN b n m p 0 99 = 0) : ∃ μ', (μ' 3 2 = eN b n m p 0 99 ∧ μ' 1 4 = ((tkP b n m p : Nat) : Int) ∧ CF μ μ') ∧ Cl PT 54 [mR 3, mR 54] (mkh μ c s) (fun r => r = (some (some (mI 0)), mkh μ' c s)) := by
  refine Cl.ex (g := fun μ' => (some (some (mI 0)), mkh μ' c s)) ?_
  refine ⟨_, PT_54, Nat.le_of_ble_eq_true rfl, ?_⟩
  show Rn PT none kX5_readWood 0 [some (mR 3), some (mR 54)] [] (mkh μ c s) _
  refine rn_aload_n (k' := 1) rfl rfl rfl ?_
  refine rn_getZ (k' := 2) rfl rfl K0_54 (by decide) rfl ?_
  refine rn_if_eq (k' := 3) rfl rfl (fun hc1 => ?_) (fun hc1 => ?_)
  · skip
    refine rn_aload_n (k' := 8) rfl rfl rfl ?_
    refine rn_iconst (k' := 9) rfl rfl ?_
    refine rn_putZ (k' := 10) rfl rfl K0_54 (by decide) rfl (by omega) ?_
    refine rn_aload_n (k' := 11) rfl rfl rfl ?_
    refine rn_iconst (k' := 12) rfl rfl ?_
    refine rn_bipush (k' := 13) rfl rfl ?_
    obtain ⟨A0, hA0, hc0⟩ := g_numX (μ := (m_set μ 54 17 (1))) (c := c) (s := s) (b := b) (n := n) (m := m) (p := p) (lo := 0) (hi := 99) hC0 e0
    refine rn_callP (k' := 14) (y := 47) (vs := [mR 3, mI (0), mI (99)]) (S' := []) (v := some (mI (0))) (h' := mkh (m_set (m_upd (m_set μ 54 17 (1)) 1 A0) 3 2 (eN b n m p (0) (99))) c s) rfl rfl rfl (hc0) ?_
    show Rn PT none kX5_readWood 14 [some (mR 3), some (mR 54)] [mI (0)] (mkh (m_set (m_upd (m_set μ 54 17 (1)) 1 A0) 3 2 (eN b n m p (0) (99))) c s) _
    refine rn_if_ne (k' := 15) rfl rfl (fun hc3 => ?_) (fun hc3 => ?_)
    · exfalso; omega
    · skip
      refine rn_iconst (k' := 16) rfl rfl ?_
      refine rn_iret rfl (Or.inr (by omega)) ?_
      exact ⟨_, rfl, rfl, hA0.2.2.2.1, (CF.s (CF.u (CF.s CF.r (by decide)) (by decide)) (by decide))⟩
  · exfalso; omega
theorem k_wood_x1 {μ : Nat → Nat → Int} {c s : Nat} {b : Nat → Int} {n m p : Nat} (hC0 : CSt μ b n m p) (h17 : μ 54 17 = 0) (e0 : eN b n m p 0 99 = 0) (e1 : ¬ tkK b n m (tkN b n m p) = 3) : ∃ μ', (μ' 3 2 = 1 ∧ μ' 1 4 = ((tkP b n m (tkN b n m p) : Nat) : Int) ∧ CF μ μ') ∧ Cl PT 54 [mR 3, mR 54] (mkh μ c s) (fun r => r = (some (some (mI 0)), mkh μ' c s)) := by
  refine Cl.ex (g := fun μ' => (some (some (mI 0)), mkh μ' c s)) ?_
  refine ⟨_, PT_54, Nat.le_of_ble_eq_true rfl, ?_⟩
  show Rn PT none kX5_readWood 0 [some (mR 3), some (mR 54)] [] (mkh μ c s) _
  refine rn_aload_n (k' := 1) rfl rfl rfl ?_
  refine rn_getZ (k' := 2) rfl rfl K0_54 (by decide) rfl ?_
  refine rn_if_eq (k' := 3) rfl rfl (fun hc1 => ?_) (fun hc1 => ?_)
  · skip
    refine rn_aload_n (k' := 8) rfl rfl rfl ?_
    refine rn_iconst (k' := 9) rfl rfl ?_
    refine rn_putZ (k' := 10) rfl rfl K0_54 (by decide) rfl (by omega) ?_
    refine rn_aload_n (k' := 11) rfl rfl rfl ?_
    refine rn_iconst (k' := 12) rfl rfl ?_
    refine rn_bipush (k' := 13) rfl rfl ?_
    obtain ⟨A0, hA0, hc0⟩ := g_num (μ := (m_set μ 54 17 (1))) (c := c) (s := s) (b := b) (n := n) (m := m) (p := p) (lo := 0) (hi := 99) hC0 e0
    have hC1 : CSt (m_upd (m_set μ 54 17 (1)) 1 A0) b n m (tkN b n m p) := ⟨hC0.1, hC0.2.1, (tkN_b hC0.2.2.1).2.1, hA0.1, hA0.2.1, hA0.2.2.1⟩
    refine rn_callP (k' := 14) (y := 47) (vs := [mR 3, mI (0), mI (99)]) (S' := []) (v := some (mI (1))) (h' := mkh (m_upd (m_set μ 54 17 (1)) 1 A0) c s) rfl rfl rfl (hc0) ?_
    show Rn PT none kX5_readWood 14 [some (mR 3), some (mR 54)] [mI (1)] (mkh (m_upd (m_set μ 54 17 (1)) 1 A0) c s) _
    refine rn_if_ne (k' := 15) rfl rfl (fun hc3 => ?_) (fun hc3 => ?_)
    · skip
      refine rn_aload_n (k' := 18) rfl rfl rfl ?_
      refine rn_aload_n (k' := 19) rfl rfl rfl ?_
      refine rn_getR (k' := 20) rfl rfl K0_3 (by decide) rfl R0_3_0 ?_
      refine rn_getI (k' := 21) rfl rfl K0_1 (by decide) rfl ?_
      show Rn PT none kX5_readWood 21 [some (mR 3), some (mR 54)] [mI (A0 6), mR 54] (mkh (m_upd (m_set μ 54 17 (1)) 1 A0) c s) _
      refine rn_putI (k' := 22) rfl rfl K0_54 (by decide) rfl ?_
      refine rn_aload_n (k' := 23) rfl rfl rfl ?_
      obtain ⟨A1, hA1, hc1⟩ := g_endX (μ := (m_set (m_upd (m_set μ 54 17 (1)) 1 A0) 54 12 (A0 6))) (c := c) (s := s) (b := b) (n := n) (m := m) (p := (tkN b n m p)) hC1 e1
      refine rn_callP (k' := 24) (y := 50) (vs := [mR 3]) (S' := []) (v := some (mI (0))) (h' := mkh (m_set (m_upd (m_set (m_upd (m_set μ 54 17 (1)) 1 A0) 54 12 (A0 6)) 1 A1) 3 2 (1)) c s) rfl rfl rfl (hc1) ?_
      show Rn PT none kX5_readWood 24 [some (mR 3), some (mR 54)] [mI (0)] (mkh (m_set (m_upd (m_set (m_upd (m_set μ 54 17 (1)) 1 A0) 54 12 (A0 6)) 1 A1) 3 2 (1)) c s) _
      refine rn_iret rfl (Or.inr (by omega)) ?_
      exact ⟨_, rfl, rfl, hA1.2.2.2.1, (CF.s (CF.u (CF.s (CF.u (CF.s CF.r (by decide)) (by decide)) (by decide)) (by decide)) (by decide))⟩
    · exfalso; omega
  · exfalso; omega
theorem k_wood_ok {μ : Nat → Nat → Int} {c s : Nat} {b : Nat → Int} {n m p : Nat} (hC0 : CSt μ b n m p) (h17 : μ 54 17 = 0) (e0 : eN b n m p 0 99 = 0) (e1 : tkK b n m (tkN b n m p) = 3) : ∃ μ', (CSt μ' b n m (tkN b n m (tkN b n m p)) ∧ CFo μ μ' ∧ μ' 54 12 = tkV b n m p ∧ μ' 54 17 = 1 ∧ (∀ j, ¬ j = 12 → ¬ j = 17 → μ' 54 j = μ 54 j) ∧ μ' 55 = μ 55 ∧ μ' 56 = μ 56 ∧ μ' 57 = μ 57 ∧ μ' 58 = μ 58 ∧ μ' 59 = μ 59 ∧ μ' 60 = μ 60 ∧ μ' 61 = μ 61) ∧ Cl PT 54 [mR 3, mR 54] (mkh μ c s) (fun r => r = (some (some (mI 1)), mkh μ' c s)) := by
  refine Cl.ex (g := fun μ' => (some (some (mI 1)), mkh μ' c s)) ?_
  refine ⟨_, PT_54, Nat.le_of_ble_eq_true rfl, ?_⟩
  show Rn PT none kX5_readWood 0 [some (mR 3), some (mR 54)] [] (mkh μ c s) _
  refine rn_aload_n (k' := 1) rfl rfl rfl ?_
  refine rn_getZ (k' := 2) rfl rfl K0_54 (by decide) rfl ?_
  refine rn_if_eq (k' := 3) rfl rfl (fun hc1 => ?_) (fun hc1 => ?_)
  · skip
    refine rn_aload_n (k' := 8) rfl rfl rfl ?_
    refine rn_iconst (k' := 9) rfl rfl ?_
    refine rn_putZ (k' := 10) rfl rfl K0_54 (by decide) rfl (by omega) ?_
    refine rn_aload_n (k' := 11) rfl rfl rfl ?_
    refine rn_iconst (k' := 12) rfl rfl ?_
    refine rn_bipush (k' := 13) rfl rfl ?_
    obtain ⟨A0, hA0, hc0⟩ := g_num (μ := (m_set μ 54 17 (1))) (c := c) (s := s) (b := b) (n := n) (m := m) (p := p) (lo := 0) (hi := 99) hC0 e0
    have hC1 : CSt (m_upd (m_set μ 54 17 (1)) 1 A0) b n m (tkN b n m p) := ⟨hC0.1, hC0.2.1, (tkN_b hC0.2.2.1).2.1, hA0.1, hA0.2.1, hA0.2.2.1⟩
    refine rn_callP (k' := 14) (y := 47) (vs := [mR 3, mI (0), mI (99)]) (S' := []) (v := some (mI (1))) (h' := mkh (m_upd (m_set μ 54 17 (1)) 1 A0) c s) rfl rfl rfl (hc0) ?_
    show Rn PT none kX5_readWood 14 [some (mR 3), some (mR 54)] [mI (1)] (mkh (m_upd (m_set μ 54 17 (1)) 1 A0) c s) _
    refine rn_if_ne (k' := 15) rfl rfl (fun hc3 => ?_) (fun hc3 => ?_)
    · skip
      refine rn_aload_n (k' := 18) rfl rfl rfl ?_
      refine rn_aload_n (k' := 19) rfl rfl rfl ?_
      refine rn_getR (k' := 20) rfl rfl K0_3 (by decide) rfl R0_3_0 ?_
      refine rn_getI (k' := 21) rfl rfl K0_1 (by decide) rfl ?_
      show Rn PT none kX5_readWood 21 [some (mR 3), some (mR 54)] [mI (A0 6), mR 54] (mkh (m_upd (m_set μ 54 17 (1)) 1 A0) c s) _
      refine rn_putI (k' := 22) rfl rfl K0_54 (by decide) rfl ?_
      refine rn_aload_n (k' := 23) rfl rfl rfl ?_
      obtain ⟨A1, hA1, hc1⟩ := g_end (μ := (m_set (m_upd (m_set μ 54 17 (1)) 1 A0) 54 12 (A0 6))) (c := c) (s := s) (b := b) (n := n) (m := m) (p := (tkN b n m p)) hC1 e1
      have hC2 : CSt (m_upd (m_set (m_upd (m_set μ 54 17 (1)) 1 A0) 54 12 (A0 6)) 1 A1) b n m (tkN b n m (tkN b n m p)) := ⟨hC1.1, hC1.2.1, (tkN_b hC1.2.2.1).2.1, hA1.1, hA1.2.1, hA1.2.2.1⟩
      refine rn_callP (k' := 24) (y := 50) (vs := [mR 3]) (S' := []) (v := some (mI (1))) (h' := mkh (m_upd (m_set (m_upd (m_set μ 54 17 (1)) 1 A0) 54 12 (A0 6)) 1 A1) c s) rfl rfl rfl (hc1) ?_
      show Rn PT none kX5_readWood 24 [some (mR 3), some (mR 54)] [mI (1)] (mkh (m_upd (m_set (m_upd (m_set μ 54 17 (1)) 1 A0) 54 12 (A0 6)) 1 A1) c s) _
      refine rn_iret rfl (Or.inr (by omega)) ?_
      exact ⟨_, rfl, hC2, ⟨(CF.u (CF.s (CF.u (CF.s CF.r (by decide)) (by decide)) (by decide)) (by decide)), rfl⟩, ⟨hA0.2.2.2.2.2, rfl, (fun j h12 h17 => by simp [m_set, m_upd, h12, h17]), rfl, rfl, rfl, rfl, rfl, rfl, rfl⟩⟩
    · exfalso; omega
  · exfalso; omega
theorem g_once0 {μ : Nat → Nat → Int} {c s : Nat} {b : Nat → Int} {n m p : Nat} (h : MSt μ b n m p) (hk : tkK b n m p = 1) {O : Nat} (hO : μ 118 20 = (O : Int)) (hO8 : O < 8) (hb : O / 2 ^ 0 % 2 = 0) : ∃ H1, (MTk b n m (tkN b n m p) H1 ∧ FRt H1 ((m_set (m_set μ 118 20 (m_or (μ 118 20) (m_shl 1 0))) 118 21 (1)) 118)) ∧ Cl PT 184 [mR 118, mI 0] (mkh μ c s) (fun r => r = (some (some (mI 1)), mkh (m_upd (m_set (m_set μ 118 20 (m_or (μ 118 20) (m_shl 1 0))) 118 21 (1)) 118 H1) c s)) := by
  obtain ⟨H1, ⟨hm, hf⟩, hcl⟩ := g_next2 (μ := (m_set (m_set μ 118 20 (m_or (μ 118 20) (m_shl 1 0))) 118 21 (1))) (c := c) (s := s) (b := b) (n := n) (m := m) (p := p) h (by omega)
  refine ⟨H1, ⟨hm, hf.t⟩, ?_⟩
  refine ⟨_, PT_184, Nat.le_of_ble_eq_true rfl, ?_⟩
  show Rn PT none kX12_isOnce 0 [some (mR 118), some (mI (0))] [] (mkh μ c s) _
  refine rn_aload_n (k' := 1) rfl rfl rfl ?_
  refine rn_getI (k' := 2) rfl rfl K0_118 (by decide) rfl ?_
  refine rn_iload_n (k' := 3) rfl rfl rfl ?_
  refine rn_callP (k' := 4) (y := 168) (vs := [mI (μ 118 20), mI (0)]) (S' := []) (v := some (mI (0))) (h' := mkh μ c s) rfl rfl rfl (by have hz := c_X12_has (μ := μ) (c := c) (s := s) (x := μ 118 20) (t := 0) (by decide); rw [if_neg (by rw [hO, (or_once O hO8 0 (by decide) hb).2]; decide)] at hz; exact hz) ?_
  show Rn PT none kX12_isOnce 4 [some (mR 118), some (mI (0))] [mI (0)] (mkh μ c s) _
  refine rn_if_eq (k' := 5) rfl rfl (fun hc1 => ?_) (fun hc1 => ?_)
  · skip
    refine rn_aload_n (k' := 10) rfl rfl rfl ?_
    refine rn_dupR (k' := 11) rfl rfl ?_
    refine rn_getI (k' := 12) rfl rfl K0_118 (by decide) rfl ?_
    refine rn_iconst (k' := 13) rfl rfl ?_
    refine rn_iload_n (k' := 14) rfl rfl rfl ?_
    refine rn_ishl (k' := 15) rfl rfl ?_
    refine rn_ior (k' := 16) rfl rfl ?_
    refine rn_putI (k' := 17) rfl rfl K0_118 (by decide) rfl ?_
    refine rn_aload_n (k' := 18) rfl rfl rfl ?_
    refine rn_iconst (k' := 19) rfl rfl ?_
    refine rn_putZ (k' := 20) rfl rfl K0_118 (by decide) rfl (by omega) ?_
    refine rn_aload_n (k' := 21) rfl rfl rfl ?_
    refine rn_callP (k' := 22) (y := 175) (vs := [mR 118]) (S' := []) (v := none) (h' := mkh (m_upd (m_set (m_set μ 118 20 (m_or (μ 118 20) (m_shl (1) (0)))) 118 21 (1)) 118 H1) c s) rfl rfl rfl (hcl) ?_
    show Rn PT none kX12_isOnce 22 [some (mR 118), some (mI (0))] [] (mkh (m_upd (m_set (m_set μ 118 20 (m_or (μ 118 20) (m_shl (1) (0)))) 118 21 (1)) 118 H1) c s) _
    refine rn_iconst (k' := 23) rfl rfl ?_
    refine rn_iret rfl (Or.inr (by omega)) ?_
    rfl
  · exfalso; omega
theorem g_once0X {μ : Nat → Nat → Int} {c s : Nat} {b : Nat → Int} {n m p : Nat} (h : MSt μ b n m p) {O : Nat} (hO : μ 118 20 = (O : Int)) (hO8 : O < 8) (hbt : O / 2 ^ 0 % 2 = 1) : Cl PT 184 [mR 118, mI 0] (mkh μ c s) (fun r => r = (some (some (mI 0)), mkh (m_set (m_set μ 118 15 3) 118 16 ((tkP b n m p : Nat) : Int)) c s)) := by
  obtain ⟨hb, ht, hn, hp, h3, h5, h12, h11, h4, h17, h14, hs⟩ := h
  refine ⟨_, PT_184, Nat.le_of_ble_eq_true rfl, ?_⟩
  show Rn PT none kX12_isOnce 0 [some (mR 118), some (mI (0))] [] (mkh μ c s) _
  refine rn_aload_n (k' := 1) rfl rfl rfl ?_
  refine rn_getI (k' := 2) rfl rfl K0_118 (by decide) rfl ?_
  refine rn_iload_n (k' := 3) rfl rfl rfl ?_
  refine rn_callP (k' := 4) (y := 168) (vs := [mI (μ 118 20), mI (0)]) (S' := []) (v := some (mI (1))) (h' := mkh μ c s) rfl rfl rfl (by have hz := c_X12_has (μ := μ) (c := c) (s := s) (x := μ 118 20) (t := 0) (by decide); rw [if_pos (by rw [hO]; exact or_had O hO8 0 (by decide) hbt)] at hz; exact hz) ?_
  show Rn PT none kX12_isOnce 4 [some (mR 118), some (mI (0))] [mI (1)] (mkh μ c s) _
  refine rn_if_eq (k' := 5) rfl rfl (fun hc1 => ?_) (fun hc1 => ?_)
  · exfalso; omega
  · skip
    refine rn_aload_n (k' := 6) rfl rfl rfl ?_
    refine rn_iconst (k' := 7) rfl rfl ?_
    refine rn_callP (k' := 8) (y := 176) (vs := [mR 118, mI (3)]) (S' := []) (v := some (mI (0))) (h' := mkh (m_set (m_set μ 118 15 (3)) 118 16 (μ 118 12)) c s) rfl rfl rfl (g_bad (μ := μ) (e := 3)) ?_
    show Rn PT none kX12_isOnce 8 [some (mR 118), some (mI (0))] [mI (0)] (mkh (m_set (m_set μ 118 15 (3)) 118 16 (μ 118 12)) c s) _
    refine rn_iret rfl (Or.inr (by omega)) ?_
    rw [h12]
theorem g_once1 {μ : Nat → Nat → Int} {c s : Nat} {b : Nat → Int} {n m p : Nat} (h : MSt μ b n m p) (hk : tkK b n m p = 1) {O : Nat} (hO : μ 118 20 = (O : Int)) (hO8 : O < 8) (hb : O / 2 ^ 1 % 2 = 0) : ∃ H1, (MTk b n m (tkN b n m p) H1 ∧ FRt H1 ((m_set (m_set μ 118 20 (m_or (μ 118 20) (m_shl 1 1))) 118 21 (1)) 118)) ∧ Cl PT 184 [mR 118, mI 1] (mkh μ c s) (fun r => r = (some (some (mI 1)), mkh (m_upd (m_set (m_set μ 118 20 (m_or (μ 118 20) (m_shl 1 1))) 118 21 (1)) 118 H1) c s)) := by
  obtain ⟨H1, ⟨hm, hf⟩, hcl⟩ := g_next2 (μ := (m_set (m_set μ 118 20 (m_or (μ 118 20) (m_shl 1 1))) 118 21 (1))) (c := c) (s := s) (b := b) (n := n) (m := m) (p := p) h (by omega)
  refine ⟨H1, ⟨hm, hf.t⟩, ?_⟩
  refine ⟨_, PT_184, Nat.le_of_ble_eq_true rfl, ?_⟩
  show Rn PT none kX12_isOnce 0 [some (mR 118), some (mI (1))] [] (mkh μ c s) _
  refine rn_aload_n (k' := 1) rfl rfl rfl ?_
  refine rn_getI (k' := 2) rfl rfl K0_118 (by decide) rfl ?_
  refine rn_iload_n (k' := 3) rfl rfl rfl ?_
  refine rn_callP (k' := 4) (y := 168) (vs := [mI (μ 118 20), mI (1)]) (S' := []) (v := some (mI (0))) (h' := mkh μ c s) rfl rfl rfl (by have hz := c_X12_has (μ := μ) (c := c) (s := s) (x := μ 118 20) (t := 1) (by decide); rw [if_neg (by rw [hO, (or_once O hO8 1 (by decide) hb).2]; decide)] at hz; exact hz) ?_
  show Rn PT none kX12_isOnce 4 [some (mR 118), some (mI (1))] [mI (0)] (mkh μ c s) _
  refine rn_if_eq (k' := 5) rfl rfl (fun hc1 => ?_) (fun hc1 => ?_)
  · skip
    refine rn_aload_n (k' := 10) rfl rfl rfl ?_
    refine rn_dupR (k' := 11) rfl rfl ?_
    refine rn_getI (k' := 12) rfl rfl K0_118 (by decide) rfl ?_
    refine rn_iconst (k' := 13) rfl rfl ?_
    refine rn_iload_n (k' := 14) rfl rfl rfl ?_
    refine rn_ishl (k' := 15) rfl rfl ?_
    refine rn_ior (k' := 16) rfl rfl ?_
    refine rn_putI (k' := 17) rfl rfl K0_118 (by decide) rfl ?_
    refine rn_aload_n (k' := 18) rfl rfl rfl ?_
    refine rn_iconst (k' := 19) rfl rfl ?_
    refine rn_putZ (k' := 20) rfl rfl K0_118 (by decide) rfl (by omega) ?_
    refine rn_aload_n (k' := 21) rfl rfl rfl ?_
    refine rn_callP (k' := 22) (y := 175) (vs := [mR 118]) (S' := []) (v := none) (h' := mkh (m_upd (m_set (m_set μ 118 20 (m_or (μ 118 20) (m_shl (1) (1)))) 118 21 (1)) 118 H1) c s) rfl rfl rfl (hcl) ?_
    show Rn PT none kX12_isOnce 22 [some (mR 118), some (mI (1))] [] (mkh (m_upd (m_set (m_set μ 118 20 (m_or (μ 118 20) (m_shl (1) (1)))) 118 21 (1)) 118 H1) c s) _
    refine rn_iconst (k' := 23) rfl rfl ?_
    refine rn_iret rfl (Or.inr (by omega)) ?_
    rfl
  · exfalso; omega
theorem g_once1X {μ : Nat → Nat → Int} {c s : Nat} {b : Nat → Int} {n m p : Nat} (h : MSt μ b n m p) {O : Nat} (hO : μ 118 20 = (O : Int)) (hO8 : O < 8) (hbt : O / 2 ^ 1 % 2 = 1) : Cl PT 184 [mR 118, mI 1] (mkh μ c s) (fun r => r = (some (some (mI 0)), mkh (m_set (m_set μ 118 15 3) 118 16 ((tkP b n m p : Nat) : Int)) c s)) := by
  obtain ⟨hb, ht, hn, hp, h3, h5, h12, h11, h4, h17, h14, hs⟩ := h
  refine ⟨_, PT_184, Nat.le_of_ble_eq_true rfl, ?_⟩
  show Rn PT none kX12_isOnce 0 [some (mR 118), some (mI (1))] [] (mkh μ c s) _
  refine rn_aload_n (k' := 1) rfl rfl rfl ?_
  refine rn_getI (k' := 2) rfl rfl K0_118 (by decide) rfl ?_
  refine rn_iload_n (k' := 3) rfl rfl rfl ?_
  refine rn_callP (k' := 4) (y := 168) (vs := [mI (μ 118 20), mI (1)]) (S' := []) (v := some (mI (1))) (h' := mkh μ c s) rfl rfl rfl (by have hz := c_X12_has (μ := μ) (c := c) (s := s) (x := μ 118 20) (t := 1) (by decide); rw [if_pos (by rw [hO]; exact or_had O hO8 1 (by decide) hbt)] at hz; exact hz) ?_
  show Rn PT none kX12_isOnce 4 [some (mR 118), some (mI (1))] [mI (1)] (mkh μ c s) _
  refine rn_if_eq (k' := 5) rfl rfl (fun hc1 => ?_) (fun hc1 => ?_)
  · exfalso; omega
  · skip
    refine rn_aload_n (k' := 6) rfl rfl rfl ?_
    refine rn_iconst (k' := 7) rfl rfl ?_
    refine rn_callP (k' := 8) (y := 176) (vs := [mR 118, mI (3)]) (S' := []) (v := some (mI (0))) (h' := mkh (m_set (m_set μ 118 15 (3)) 118 16 (μ 118 12)) c s) rfl rfl rfl (g_bad (μ := μ) (e := 3)) ?_
    show Rn PT none kX12_isOnce 8 [some (mR 118), some (mI (1))] [mI (0)] (mkh (m_set (m_set μ 118 15 (3)) 118 16 (μ 118 12)) c s) _
    refine rn_iret rfl (Or.inr (by omega)) ?_
    rw [h12]
theorem g_once2 {μ : Nat → Nat → Int} {c s : Nat} {b : Nat → Int} {n m p : Nat} (h : MSt μ b n m p) (hk : tkK b n m p = 1) {O : Nat} (hO : μ 118 20 = (O : Int)) (hO8 : O < 8) (hb : O / 2 ^ 2 % 2 = 0) : ∃ H1, (MTk b n m (tkN b n m p) H1 ∧ FRt H1 ((m_set (m_set μ 118 20 (m_or (μ 118 20) (m_shl 1 2))) 118 21 (1)) 118)) ∧ Cl PT 184 [mR 118, mI 2] (mkh μ c s) (fun r => r = (some (some (mI 1)), mkh (m_upd (m_set (m_set μ 118 20 (m_or (μ 118 20) (m_shl 1 2))) 118 21 (1)) 118 H1) c s)) := by
  obtain ⟨H1, ⟨hm, hf⟩, hcl⟩ := g_next2 (μ := (m_set (m_set μ 118 20 (m_or (μ 118 20) (m_shl 1 2))) 118 21 (1))) (c := c) (s := s) (b := b) (n := n) (m := m) (p := p) h (by omega)
  refine ⟨H1, ⟨hm, hf.t⟩, ?_⟩
  refine ⟨_, PT_184, Nat.le_of_ble_eq_true rfl, ?_⟩
  show Rn PT none kX12_isOnce 0 [some (mR 118), some (mI (2))] [] (mkh μ c s) _
  refine rn_aload_n (k' := 1) rfl rfl rfl ?_
  refine rn_getI (k' := 2) rfl rfl K0_118 (by decide) rfl ?_
  refine rn_iload_n (k' := 3) rfl rfl rfl ?_
  refine rn_callP (k' := 4) (y := 168) (vs := [mI (μ 118 20), mI (2)]) (S' := []) (v := some (mI (0))) (h' := mkh μ c s) rfl rfl rfl (by have hz := c_X12_has (μ := μ) (c := c) (s := s) (x := μ 118 20) (t := 2) (by decide); rw [if_neg (by rw [hO, (or_once O hO8 2 (by decide) hb).2]; decide)] at hz; exact hz) ?_
  show Rn PT none kX12_isOnce 4 [some (mR 118), some (mI (2))] [mI (0)] (mkh μ c s) _
  refine rn_if_eq (k' := 5) rfl rfl (fun hc1 => ?_) (fun hc1 => ?_)
  · skip
    refine rn_aload_n (k' := 10) rfl rfl rfl ?_
    refine rn_dupR (k' := 11) rfl rfl ?_
    refine rn_getI (k' := 12) rfl rfl K0_118 (by decide) rfl ?_
    refine rn_iconst (k' := 13) rfl rfl ?_
    refine rn_iload_n (k' := 14) rfl rfl rfl ?_
    refine rn_ishl (k' := 15) rfl rfl ?_
    refine rn_ior (k' := 16) rfl rfl ?_
    refine rn_putI (k' := 17) rfl rfl K0_118 (by decide) rfl ?_
    refine rn_aload_n (k' := 18) rfl rfl rfl ?_
    refine rn_iconst (k' := 19) rfl rfl ?_
    refine rn_putZ (k' := 20) rfl rfl K0_118 (by decide) rfl (by omega) ?_
    refine rn_aload_n (k' := 21) rfl rfl rfl ?_
    refine rn_callP (k' := 22) (y := 175) (vs := [mR 118]) (S' := []) (v := none) (h' := mkh (m_upd (m_set (m_set μ 118 20 (m_or (μ 118 20) (m_shl (1) (2)))) 118 21 (1)) 118 H1) c s) rfl rfl rfl (hcl) ?_
    show Rn PT none kX12_isOnce 22 [some (mR 118), some (mI (2))] [] (mkh (m_upd (m_set (m_set μ 118 20 (m_or (μ 118 20) (m_shl (1) (2)))) 118 21 (1)) 118 H1) c s) _
    refine rn_iconst (k' := 23) rfl rfl ?_
    refine rn_iret rfl (Or.inr (by omega)) ?_
    rfl
  · exfalso; omega
theorem g_once2X {μ : Nat → Nat → Int} {c s : Nat} {b : Nat → Int} {n m p : Nat} (h : MSt μ b n m p) {O : Nat} (hO : μ 118 20 = (O : Int)) (hO8 : O < 8) (hbt : O / 2 ^ 2 % 2 = 1) : Cl PT 184 [mR 118, mI 2] (mkh μ c s) (fun r => r = (some (some (mI 0)), mkh (m_set (m_set μ 118 15 3) 118 16 ((tkP b n m p : Nat) : Int)) c s)) := by
  obtain ⟨hb, ht, hn, hp, h3, h5, h12, h11, h4, h17, h14, hs⟩ := h
  refine ⟨_, PT_184, Nat.le_of_ble_eq_true rfl, ?_⟩
  show Rn PT none kX12_isOnce 0 [some (mR 118), some (mI (2))] [] (mkh μ c s) _
  refine rn_aload_n (k' := 1) rfl rfl rfl ?_
  refine rn_getI (k' := 2) rfl rfl K0_118 (by decide) rfl ?_
  refine rn_iload_n (k' := 3) rfl rfl rfl ?_
  refine rn_callP (k' := 4) (y := 168) (vs := [mI (μ 118 20), mI (2)]) (S' := []) (v := some (mI (1))) (h' := mkh μ c s) rfl rfl rfl (by have hz := c_X12_has (μ := μ) (c := c) (s := s) (x := μ 118 20) (t := 2) (by decide); rw [if_pos (by rw [hO]; exact or_had O hO8 2 (by decide) hbt)] at hz; exact hz) ?_
  show Rn PT none kX12_isOnce 4 [some (mR 118), some (mI (2))] [mI (1)] (mkh μ c s) _
  refine rn_if_eq (k' := 5) rfl rfl (fun hc1 => ?_) (fun hc1 => ?_)
  · exfalso; omega
  · skip
    refine rn_aload_n (k' := 6) rfl rfl rfl ?_
    refine rn_iconst (k' := 7) rfl rfl ?_
    refine rn_callP (k' := 8) (y := 176) (vs := [mR 118, mI (3)]) (S' := []) (v := some (mI (0))) (h' := mkh (m_set (m_set μ 118 15 (3)) 118 16 (μ 118 12)) c s) rfl rfl rfl (g_bad (μ := μ) (e := 3)) ?_
    show Rn PT none kX12_isOnce 8 [some (mR 118), some (mI (2))] [mI (0)] (mkh (m_set (m_set μ 118 15 (3)) 118 16 (μ 118 12)) c s) _
    refine rn_iret rfl (Or.inr (by omega)) ?_
    rw [h12]
