variable {N : Int}
/-! ===== printed by wip/whole/gen9m.py: lines of a plan on both sides ===== -/
def RelP (σ ν : Nat → Nat → Int) (d : Int) : Prop := ((0 ≤ σ 62 0 ∧ σ 62 0 + d ≤ 30) ∧ ν 118 41 = σ 62 0) ∧ ∀ i : Nat, (i : Int) < σ 62 0 + d → (11 ≤ σ 63 i ∧ σ 63 i ≤ 15) ∧ σ 63 i = ν 122 (1 + 4 * i) + 11 ∧ (σ 63 i ≤ 13 → (0 ≤ σ 64 i ∧ σ 64 i < σ 6 13) ∧ σ 64 i = ν 122 (2 + 4 * i)) ∧ (¬ σ 63 i = 14 → (0 ≤ σ 65 i ∧ σ 65 i ≤ 99) ∧ σ 65 i = ν 122 (3 + 4 * i)) ∧ (σ 63 i = 11 → σ 65 i % 10 < σ 6 8 ∧ σ 65 i / 10 < σ 6 9) ∧ (12 ≤ σ 63 i → ¬ σ 63 i = 14 → 1 ≤ σ 65 i) ∧ (σ 63 i = 15 → σ 65 i ≤ 20)
def RelD (σ ν : Nat → Nat → Int) : Prop := ((0 ≤ σ 6 8 ∧ σ 6 8 ≤ 10) ∧ (0 ≤ σ 6 9 ∧ σ 6 9 ≤ 10) ∧ (0 ≤ σ 6 13 ∧ σ 6 13 ≤ 8) ∧ ν 120 0 = σ 6 8 ∧ ν 120 1 = σ 6 9 ∧ ν 120 8 = σ 6 13) ∧ ∀ j : Nat, (j : Int) < σ 6 13 → Nm (σ 11 j) (ν 123 (0 + j))
def LokPg (σ ν : Nat → Nat → Int) (b : Nat → Int) (n m p c s : Nat) : Prop := ∃ σ' ν' q, (FrmP σ σ' ∧ σ' 3 2 = σ 3 2) ∧ (FrmQ ν ν' ∧ ν' 118 15 = ν 118 15) ∧ Cl PT 59 [mR 3, mR 62, mR 6] (mkh σ c s) (fun r => r = (some (some (mI 1)), mkh σ' c s)) ∧ Cl PT 265 [mR 118] (mkh ν c s) (fun r => r = (some (some (mI 1)), mkh ν' c s)) ∧ CSt σ' b n m (tkN b n m q) ∧ MSt ν' b n m q ∧ tkK b n m q = 3 ∧ p + 2 ≤ tkN b n m q ∧ RelP σ' ν' 1
def LokPb (σ ν : Nat → Nat → Int) (c s : Nat) : Prop := ∃ σ' ν', ∃ t : Nat, FrmP σ σ' ∧ FrmQ ν ν' ∧ Cl PT 59 [mR 3, mR 62, mR 6] (mkh σ c s) (fun r => r = (some (some (mI 0)), mkh σ' c s)) ∧ Cl PT 265 [mR 118] (mkh ν c s) (fun r => r = (some (some (mI 0)), mkh ν' c s)) ∧ σ' 3 2 = ν' 118 15 ∧ t ≤ 940 ∧ σ' 1 4 = (t : Int) ∧ ν' 118 16 = (t : Int)
def LokPe (σ ν : Nat → Nat → Int) (b : Nat → Int) (n m c s : Nat) : Prop := ∃ σ' ν' q, FrmP σ σ' ∧ FrmQ ν ν' ∧ Cl PT 59 [mR 3, mR 62, mR 6] (mkh σ c s) (fun r => r = (some (some (mI 0)), mkh σ' c s)) ∧ Cl PT 265 [mR 118] (mkh ν c s) (fun r => r = (some (some (mI 1)), mkh ν' c s)) ∧ MSt ν' b n m q ∧ ¬ tkK b n m q = 3 ∧ σ' 3 2 = 1 ∧ σ' 1 4 = ((tkP b n m q : Nat) : Int)
def LokP (σ ν : Nat → Nat → Int) (b : Nat → Int) (n m p c s : Nat) : Prop := LokPg σ ν b n m p c s ∨ LokPb σ ν c s ∨ LokPe σ ν b n m c s
theorem LokP.b {σ ν : Nat → Nat → Int} {b : Nat → Int} {n m p c s : Nat} {e : Int} {t : Nat} (ht : t ≤ 940) (k : ∃ σ', (σ' 3 2 = e ∧ σ' 1 4 = (t : Int) ∧ FrmP σ σ') ∧ Cl PT 59 [mR 3, mR 62, mR 6] (mkh σ c s) (fun r => r = (some (some (mI 0)), mkh σ' c s))) (h : ∃ ν', (ν' 118 15 = e ∧ ν' 118 16 = (t : Int) ∧ FrmQ ν ν') ∧ Cl PT 265 [mR 118] (mkh ν c s) (fun r => r = (some (some (mI 0)), mkh ν' c s))) : LokP σ ν b n m p c s := by
  obtain ⟨σ', ⟨k1, k2, k3⟩, k4⟩ := k
  obtain ⟨ν', ⟨h1, h2, h3⟩, h4⟩ := h
  exact .inr (.inl ⟨σ', ν', t, k3, h3, k4, h4, k1.trans h1.symm, ht, k2, h2⟩)
theorem LokP.e {σ ν : Nat → Nat → Int} {b : Nat → Int} {n m p c s q : Nat} {R : (Nat → Nat → Int) → Prop} (k : ∃ σ', (σ' 3 2 = 1 ∧ σ' 1 4 = ((tkP b n m q : Nat) : Int) ∧ FrmP σ σ') ∧ Cl PT 59 [mR 3, mR 62, mR 6] (mkh σ c s) (fun r => r = (some (some (mI 0)), mkh σ' c s))) (hq : ¬ tkK b n m q = 3) (h : ∃ ν', (MSt ν' b n m q ∧ FrmQ ν ν' ∧ R ν') ∧ Cl PT 265 [mR 118] (mkh ν c s) (fun r => r = (some (some (mI 1)), mkh ν' c s))) : LokP σ ν b n m p c s := by
  obtain ⟨σ', ⟨k1, k2, k3⟩, k4⟩ := k
  obtain ⟨ν', ⟨h1, h2, _⟩, h4⟩ := h
  exact .inr (.inr ⟨σ', ν', q, k3, h2, k4, h4, h1, hq, k1, k2⟩)
theorem FP11 {ν : Nat → Nat → Int} {c s : Nat} {v : Int} {P : (Nat → Nat → Int) → Prop} (h11 : ν 118 11 = 1) (h17 : ν 118 17 = 26479) (K : Rn PT none kX12_planLine 32 [some (mR 118), some (mI (0)), none, none, none] [] (mkh ν c s) (fun r => ∃ ν', r = (some (some (mI v)), mkh ν' c s) ∧ P ν')) : ∃ ν', P ν' ∧ Cl PT 265 [mR 118] (mkh ν c s) (fun r => r = (some (some (mI v)), mkh ν' c s)) := Cl.ex (g := fun ν' => (some (some (mI v)), mkh ν' c s)) (e_pl11 h11 h17 K)
theorem FP12 {ν : Nat → Nat → Int} {c s : Nat} {v : Int} {P : (Nat → Nat → Int) → Prop} (h11 : ν 118 11 = 1) (h17 : ν 118 17 = 1936026732) (K : Rn PT none kX12_planLine 32 [some (mR 118), some (mI (1)), none, none, none] [] (mkh ν c s) (fun r => ∃ ν', r = (some (some (mI v)), mkh ν' c s) ∧ P ν')) : ∃ ν', P ν' ∧ Cl PT 265 [mR 118] (mkh ν c s) (fun r => r = (some (some (mI v)), mkh ν' c s)) := Cl.ex (g := fun ν' => (some (some (mI v)), mkh ν' c s)) (e_pl12 h11 h17 K)
theorem FP13 {ν : Nat → Nat → Int} {c s : Nat} {v : Int} {P : (Nat → Nat → Int) → Prop} (h11 : ν 118 11 = 1) (h17 : ν 118 17 = 6452601) (K : Rn PT none kX12_planLine 32 [some (mR 118), some (mI (2)), none, none, none] [] (mkh ν c s) (fun r => ∃ ν', r = (some (some (mI v)), mkh ν' c s) ∧ P ν')) : ∃ ν', P ν' ∧ Cl PT 265 [mR 118] (mkh ν c s) (fun r => r = (some (some (mI v)), mkh ν' c s)) := Cl.ex (g := fun ν' => (some (some (mI v)), mkh ν' c s)) (e_pl13 h11 h17 K)
theorem FP14 {ν : Nat → Nat → Int} {c s : Nat} {v : Int} {P : (Nat → Nat → Int) → Prop} (h11 : ν 118 11 = 1) (h17 : ν 118 17 = 6578553) (K : Rn PT none kX12_planLine 32 [some (mR 118), some (mI (3)), none, none, none] [] (mkh ν c s) (fun r => ∃ ν', r = (some (some (mI v)), mkh ν' c s) ∧ P ν')) : ∃ ν', P ν' ∧ Cl PT 265 [mR 118] (mkh ν c s) (fun r => r = (some (some (mI v)), mkh ν' c s)) := Cl.ex (g := fun ν' => (some (some (mI v)), mkh ν' c s)) (e_pl14 h11 h17 K)
theorem FP15 {ν : Nat → Nat → Int} {c s : Nat} {v : Int} {P : (Nat → Nat → Int) → Prop} (h11 : ν 118 11 = 1) (h17 : ν 118 17 = 474214787188) (K : Rn PT none kX12_planLine 32 [some (mR 118), some (mI (4)), none, none, none] [] (mkh ν c s) (fun r => ∃ ν', r = (some (some (mI v)), mkh ν' c s) ∧ P ν')) : ∃ ν', P ν' ∧ Cl PT 265 [mR 118] (mkh ν c s) (fun r => r = (some (some (mI v)), mkh ν' c s)) := Cl.ex (g := fun ν' => (some (some (mI v)), mkh ν' c s)) (e_pl15 h11 h17 K)
theorem le30 {a : Int} {l : Nat} (h : a = (l : Int)) (h2 : a + 0 ≤ 30) : l ≤ 30 := by omega
theorem ixLt {v a : Int} {k : Nat} (h : v = -1 ∨ (((0 : Nat) : Int) ≤ v ∧ v < ((0 + k : Nat) : Int))) (hn : ¬ v = -1) (h13 : a = (k : Int)) : 0 ≤ v ∧ v < a := by omega
theorem relp_11 {σ ν σ' ν' : Nat → Nat → Int} (hR : RelP σ ν 0) (s41 : ν' 118 41 = ν 118 41) {l9 : Nat} {H A : Int} (hl : σ 62 0 = (l9 : Int)) (h3 : ¬ l9 = 30) (g6 : σ' 6 = σ 6) (f62 : σ' 62 = σ 62) (a63 : σ' 63 l9 = 11) (f63 : (∀ j, ¬ j = l9 → σ' 63 j = σ 63 j)) (a64 : σ' 64 l9 = H) (f64 : (∀ j, ¬ j = l9 → σ' 64 j = σ 64 j)) (a65 : σ' 65 l9 = A) (f65 : (∀ j, ¬ j = l9 → σ' 65 j = σ 65 j)) (b0 : ν' 122 (1 + 4 * l9) = 0) (hH : 0 ≤ H ∧ H < σ 6 13) (b1 : ν' 122 (2 + 4 * l9) = H) (b2 : ν' 122 (3 + 4 * l9) = A) (q : (0 ≤ A ∧ A ≤ 99) ∧ A % 10 < σ 6 8 ∧ A / 10 < σ 6 9) (f122 : ∀ j, j < 1 + 4 * l9 → ν' 122 j = ν 122 j) : RelP σ' ν' 1 := by
  obtain ⟨⟨p1, p2⟩, hP⟩ := hR
  have s0 : σ' 62 0 = σ 62 0 := by rw [f62]
  refine ⟨⟨by omega, by omega⟩, fun i hi => ?_⟩
  rw [g6]
  by_cases qi : i = l9
  · rw [qi, a63, a64, a65, b0, b1, b2]
    exact ⟨by decide, rfl, fun _ => ⟨hH, rfl⟩, fun _ => ⟨q.1, rfl⟩, fun _ => q.2, fun z => absurd z (by decide), fun z => absurd z (by decide)⟩
  · have z := hP i (by omega)
    rw [f63 i qi, f64 i qi, f65 i qi, f122 (1 + 4 * i) (by omega), f122 (2 + 4 * i) (by omega), f122 (3 + 4 * i) (by omega)]
    exact z
theorem relp_12 {σ ν σ' ν' : Nat → Nat → Int} (hR : RelP σ ν 0) (s41 : ν' 118 41 = ν 118 41) {l9 : Nat} {H A : Int} (hl : σ 62 0 = (l9 : Int)) (h3 : ¬ l9 = 30) (g6 : σ' 6 = σ 6) (f62 : σ' 62 = σ 62) (a63 : σ' 63 l9 = 12) (f63 : (∀ j, ¬ j = l9 → σ' 63 j = σ 63 j)) (a64 : σ' 64 l9 = H) (f64 : (∀ j, ¬ j = l9 → σ' 64 j = σ 64 j)) (a65 : σ' 65 l9 = A) (f65 : (∀ j, ¬ j = l9 → σ' 65 j = σ 65 j)) (b0 : ν' 122 (1 + 4 * l9) = 1) (hH : 0 ≤ H ∧ H < σ 6 13) (b1 : ν' 122 (2 + 4 * l9) = H) (b2 : ν' 122 (3 + 4 * l9) = A) (q : 1 ≤ A ∧ A ≤ 99) (f122 : ∀ j, j < 1 + 4 * l9 → ν' 122 j = ν 122 j) : RelP σ' ν' 1 := by
  obtain ⟨⟨p1, p2⟩, hP⟩ := hR
  have s0 : σ' 62 0 = σ 62 0 := by rw [f62]
  refine ⟨⟨by omega, by omega⟩, fun i hi => ?_⟩
  rw [g6]
  by_cases qi : i = l9
  · rw [qi, a63, a64, a65, b0, b1, b2]
    exact ⟨by decide, rfl, fun _ => ⟨hH, rfl⟩, fun _ => ⟨⟨Int.le_trans (by decide) q.1, q.2⟩, rfl⟩, fun z => absurd z (by decide), fun _ _ => q.1, fun z => absurd z (by decide)⟩
  · have z := hP i (by omega)
    rw [f63 i qi, f64 i qi, f65 i qi, f122 (1 + 4 * i) (by omega), f122 (2 + 4 * i) (by omega), f122 (3 + 4 * i) (by omega)]
    exact z
theorem relp_13 {σ ν σ' ν' : Nat → Nat → Int} (hR : RelP σ ν 0) (s41 : ν' 118 41 = ν 118 41) {l9 : Nat} {H A : Int} (hl : σ 62 0 = (l9 : Int)) (h3 : ¬ l9 = 30) (g6 : σ' 6 = σ 6) (f62 : σ' 62 = σ 62) (a63 : σ' 63 l9 = 13) (f63 : (∀ j, ¬ j = l9 → σ' 63 j = σ 63 j)) (a64 : σ' 64 l9 = H) (f64 : (∀ j, ¬ j = l9 → σ' 64 j = σ 64 j)) (a65 : σ' 65 l9 = A) (f65 : (∀ j, ¬ j = l9 → σ' 65 j = σ 65 j)) (b0 : ν' 122 (1 + 4 * l9) = 2) (hH : 0 ≤ H ∧ H < σ 6 13) (b1 : ν' 122 (2 + 4 * l9) = H) (b2 : ν' 122 (3 + 4 * l9) = A) (q : 1 ≤ A ∧ A ≤ 99) (f122 : ∀ j, j < 1 + 4 * l9 → ν' 122 j = ν 122 j) : RelP σ' ν' 1 := by
  obtain ⟨⟨p1, p2⟩, hP⟩ := hR
  have s0 : σ' 62 0 = σ 62 0 := by rw [f62]
  refine ⟨⟨by omega, by omega⟩, fun i hi => ?_⟩
  rw [g6]
  by_cases qi : i = l9
  · rw [qi, a63, a64, a65, b0, b1, b2]
    exact ⟨by decide, rfl, fun _ => ⟨hH, rfl⟩, fun _ => ⟨⟨Int.le_trans (by decide) q.1, q.2⟩, rfl⟩, fun z => absurd z (by decide), fun _ _ => q.1, fun z => absurd z (by decide)⟩
  · have z := hP i (by omega)
    rw [f63 i qi, f64 i qi, f65 i qi, f122 (1 + 4 * i) (by omega), f122 (2 + 4 * i) (by omega), f122 (3 + 4 * i) (by omega)]
    exact z
theorem relp_14 {σ ν σ' ν' : Nat → Nat → Int} (hR : RelP σ ν 0) (s41 : ν' 118 41 = ν 118 41) {l9 : Nat} {H A : Int} (hl : σ 62 0 = (l9 : Int)) (h3 : ¬ l9 = 30) (g6 : σ' 6 = σ 6) (f62 : σ' 62 = σ 62) (a63 : σ' 63 l9 = 14) (f63 : (∀ j, ¬ j = l9 → σ' 63 j = σ 63 j)) (a64 : σ' 64 l9 = H) (f64 : (∀ j, ¬ j = l9 → σ' 64 j = σ 64 j)) (a65 : σ' 65 l9 = A) (f65 : (∀ j, ¬ j = l9 → σ' 65 j = σ 65 j)) (b0 : ν' 122 (1 + 4 * l9) = 3) (f122 : ∀ j, j < 1 + 4 * l9 → ν' 122 j = ν 122 j) : RelP σ' ν' 1 := by
  obtain ⟨⟨p1, p2⟩, hP⟩ := hR
  have s0 : σ' 62 0 = σ 62 0 := by rw [f62]
  refine ⟨⟨by omega, by omega⟩, fun i hi => ?_⟩
  rw [g6]
  by_cases qi : i = l9
  · rw [qi, a63, b0]
    exact ⟨by decide, rfl, fun z => absurd z (by decide), fun z => absurd rfl z, fun z => absurd z (by decide), fun _ z => absurd rfl z, fun z => absurd z (by decide)⟩
  · have z := hP i (by omega)
    rw [f63 i qi, f64 i qi, f65 i qi, f122 (1 + 4 * i) (by omega), f122 (2 + 4 * i) (by omega), f122 (3 + 4 * i) (by omega)]
    exact z
theorem relp_15 {σ ν σ' ν' : Nat → Nat → Int} (hR : RelP σ ν 0) (s41 : ν' 118 41 = ν 118 41) {l9 : Nat} {H A : Int} (hl : σ 62 0 = (l9 : Int)) (h3 : ¬ l9 = 30) (g6 : σ' 6 = σ 6) (f62 : σ' 62 = σ 62) (a63 : σ' 63 l9 = 15) (f63 : (∀ j, ¬ j = l9 → σ' 63 j = σ 63 j)) (a64 : σ' 64 l9 = H) (f64 : (∀ j, ¬ j = l9 → σ' 64 j = σ 64 j)) (a65 : σ' 65 l9 = A) (f65 : (∀ j, ¬ j = l9 → σ' 65 j = σ 65 j)) (b0 : ν' 122 (1 + 4 * l9) = 4) (b2 : ν' 122 (3 + 4 * l9) = A) (q : 1 ≤ A ∧ A ≤ 20) (f122 : ∀ j, j < 1 + 4 * l9 → ν' 122 j = ν 122 j) : RelP σ' ν' 1 := by
  obtain ⟨⟨p1, p2⟩, hP⟩ := hR
  have s0 : σ' 62 0 = σ 62 0 := by rw [f62]
  refine ⟨⟨by omega, by omega⟩, fun i hi => ?_⟩
  rw [g6]
  by_cases qi : i = l9
  · rw [qi, a63, a65, b0, b2]
    exact ⟨by decide, rfl, fun z => absurd z (by decide), fun _ => ⟨⟨Int.le_trans (by decide) q.1, Int.le_trans q.2 (by decide)⟩, rfl⟩, fun z => absurd z (by decide), fun _ _ => q.1, fun _ => q.2⟩
  · have z := hP i (by omega)
    rw [f63 i qi, f64 i qi, f65 i qi, f122 (1 + 4 * i) (by omega), f122 (2 + 4 * i) (by omega), f122 (3 + 4 * i) (by omega)]
    exact z
set_option maxHeartbeats 1000000 in
theorem pk_11 {σ ν : Nat → Nat → Int} {c s : Nat} {b : Nat → Int} {n m p : Nat} (hW : TokK σ b n m p) (hM : MSt ν b n m p) (hk : tkK b n m p = 1) (hR : RelP σ ν 0) (hD : RelD σ ν) (hw : I_words σ) (h124 : ν 124 = σ 124) (hx : ix (σ 4) (tkV b n m p) 16 0 = 11) (h17 : ν 118 17 = 26479) : LokP σ ν b n m p c s := by
  obtain ⟨w2, wn, wp, t1, t2, t3, t4, t5, t6⟩ := hW
  have hC : CSt σ b n m (tkN b n m p) := ⟨w2, wn, (tkN_b wp).2.1, t1, t2, t3⟩
  have hR0 := hR
  obtain ⟨⟨p1, p2⟩, hP⟩ := hR
  obtain ⟨⟨d1, d2, d3, d4, d5, d6⟩, hNm⟩ := hD
  have h5 : σ 1 5 = 1 := t5.trans hk
  have hx2 : ix (σ 4) (σ 1 6) 16 0 = 11 := by rw [t6]; exact hx
  have hM2 := hM
  obtain ⟨_, _, _, _, _, _, m12, m11, _, m17, _, _⟩ := hM2
  have h11 : ν 118 11 = 1 := m11.trans (mkk_1.mpr hk)
  obtain ⟨l9, hl⟩ := natOf p1.1
  have hl9 : l9 ≤ 30 := le30 hl p1.2
  have hlm : ν 118 41 = (l9 : Int) := p2.trans hl
  obtain ⟨k9, h13⟩ := natOf d3.1
  have hk9 : k9 ≤ 8 := by rw [h13] at d3; exact Int.ofNat_le.mp d3.2
  have h8m : ν 120 8 = (k9 : Int) := d6.trans h13
  have SN : ∀ y, Nm (tkV b n m (tkN b n m p)) y → ix (σ 11) (tkV b n m (tkN b n m p)) k9 0 = ix (fun j => ν 123 (0 + j)) y k9 0 := fun y hy => nm_same (g := fun j => ν 123 (0 + j)) (fun j hj => hNm j (by rw [h13]; exact Int.ofNat_lt.mpr hj)) hy
  have ib := ix_b (f := σ 11) (v := tkV b n m (tkN b n m p)) k9 0
  have c8m : 0 ≤ ν 120 0 ∧ ν 120 0 ≤ 10 := by rw [d4]; exact d1
  have c9m : 0 ≤ ν 120 1 ∧ ν 120 1 ≤ 10 := by rw [d5]; exact d2
  by_cases h3 : ¬ l9 = 30
  · by_cases e0 : tkK b n m (tkN b n m p) = 1 ∧ ix (σ 4) (tkV b n m (tkN b n m p)) 16 0 = -1
    · have w0 : ∀ y, Nm (tkV b n m (tkN b n m p)) y → ix (ν 124) y 16 0 = -1 := fun y hy => by rw [h124]; exact (kw_same hw hy).symm.trans e0.2
      have ke := e0.1
      by_cases d0 : ¬ ix (σ 11) (tkV b n m (tkN b n m p)) k9 0 = -1
      · have dm : ∀ y, Nm (tkV b n m (tkN b n m p)) y → ¬ ix (fun j => ν 123 (0 + j)) y k9 0 = -1 := fun y hy z => d0 ((SN y hy).trans z)
        by_cases e1 : eN b n m (tkN b n m (tkN b n m p)) 0 (σ 6 8 - 1) = 0
        · have q1 := (eN_ok e1).2
          by_cases e2 : eN b n m (tkN b n m (tkN b n m (tkN b n m p))) 0 (σ 6 9 - 1) = 0
          · have q2 := (eN_ok e2).2
            by_cases e3 : tkK b n m (tkN b n m (tkN b n m (tkN b n m (tkN b n m p)))) = 3
            · obtain ⟨σ', ⟨kC, kF, k32, f62, a63, f63, a64, f64, a65, f65⟩, K⟩ := (k_pl11_ok (c := c) (s := s) (hC0 := hC) (h5 := h5) (hx := hx2) (hl := hl) (hl9 := hl9) (hl3 := h3) (c8 := d1) (c9 := d2) (hk9 := hk9) (h13 := h13) (d0 := d0) (e0 := e0) (e1 := e1) (e2 := e2) (e3 := e3) )
              obtain ⟨ν', ⟨mS, mF, m15, b0, ⟨y, hy, b1⟩, b2, f122⟩, M⟩ := (FP11 (v := 1) h11 h17 (by have z := m_pl11_ok (c := c) (s := s) (hM := hM) (hk := hk) (hl := hlm) (hl9 := hl9) (hl3 := h3) (hk9 := hk9) (h8 := h8m) (c8 := c8m) (c9 := c9m) (k0 := e0.1) (w0 := w0) (d0 := dm) (e1 := by rw [d4]; exact e1) (e2 := by rw [d5]; exact e2) ; exact z))
              exact .inl ⟨σ', ν', (tkN b n m (tkN b n m (tkN b n m (tkN b n m p)))), ⟨kF, k32⟩, ⟨mF, m15⟩, K, M, kC, mS, e3, (lenTwo wp hk (Nat.le_trans (Nat.le_trans (Nat.le_trans (Nat.le_refl _) (tkN_b (tkN_b wp).2.1).1) (tkN_b (tkN_b (tkN_b wp).2.1).2.1).1) (tkN_b (tkN_b (tkN_b (tkN_b wp).2.1).2.1).2.1).1) (tkN_b (tkN_b (tkN_b (tkN_b wp).2.1).2.1).2.1).2.1 e3), relp_11 hR0 (mF.2 41 (by decide)) hl h3 (kF 6 (by decide) (by decide) (by decide)) f62 a63 f63 a64 f64 a65 f65 b0 (ixLt ib d0 h13) (b1.trans (SN y hy).symm) b2 (cellG d1 d2 q1 q2) f122⟩
            · exact LokP.e (k_pl11_x3 (c := c) (s := s) (hC0 := hC) (h5 := h5) (hx := hx2) (hl := hl) (hl9 := hl9) (hl3 := h3) (c8 := d1) (c9 := d2) (hk9 := hk9) (h13 := h13) (d0 := d0) (e0 := e0) (e1 := e1) (e2 := e2) (e3 := e3) ) e3 (FP11 (v := 1) h11 h17 (by have z := m_pl11_ok (c := c) (s := s) (hM := hM) (hk := hk) (hl := hlm) (hl9 := hl9) (hl3 := h3) (hk9 := hk9) (h8 := h8m) (c8 := c8m) (c9 := c9m) (k0 := e0.1) (w0 := w0) (d0 := dm) (e1 := by rw [d4]; exact e1) (e2 := by rw [d5]; exact e2) ; exact z))
          · exact LokP.b (Nat.le_trans (tkP_b (tkN_b (tkN_b (tkN_b wp).2.1).2.1).2.1) wn) (k_pl11_x2 (c := c) (s := s) (hC0 := hC) (h5 := h5) (hx := hx2) (hl := hl) (hl9 := hl9) (hl3 := h3) (c8 := d1) (c9 := d2) (hk9 := hk9) (h13 := h13) (d0 := d0) (e0 := e0) (e1 := e1) (e2 := e2) ) (FP11 (v := 0) h11 h17 (by have z := m_pl11_x2 (c := c) (s := s) (hM := hM) (hk := hk) (hl := hlm) (hl9 := hl9) (hl3 := h3) (hk9 := hk9) (h8 := h8m) (c8 := c8m) (c9 := c9m) (k0 := e0.1) (w0 := w0) (d0 := dm) (e1 := by rw [d4]; exact e1) (e2 := by rw [d5]; exact e2) ; rw [d5] at z; exact z))
        · exact LokP.b (Nat.le_trans (tkP_b (tkN_b (tkN_b wp).2.1).2.1) wn) (k_pl11_x1 (c := c) (s := s) (hC0 := hC) (h5 := h5) (hx := hx2) (hl := hl) (hl9 := hl9) (hl3 := h3) (c8 := d1) (c9 := d2) (hk9 := hk9) (h13 := h13) (d0 := d0) (e0 := e0) (e1 := e1) ) (FP11 (v := 0) h11 h17 (by have z := m_pl11_x1 (c := c) (s := s) (hM := hM) (hk := hk) (hl := hlm) (hl9 := hl9) (hl3 := h3) (hk9 := hk9) (h8 := h8m) (c8 := c8m) (c9 := c9m) (k0 := e0.1) (w0 := w0) (d0 := dm) (e1 := by rw [d4]; exact e1) ; rw [d4] at z; exact z))
      · exact LokP.b (Nat.le_trans (tkP_b (tkN_b wp).2.1) wn) (k_pl11_had (c := c) (s := s) (hC0 := hC) (h5 := h5) (hx := hx2) (hl := hl) (hl9 := hl9) (hl3 := h3) (c8 := d1) (c9 := d2) (hk9 := hk9) (h13 := h13) (e0 := e0) (d0 := Classical.not_not.mp d0)) (FP11 (v := 0) h11 h17 (by have z := m_pl11_had (c := c) (s := s) (hM := hM) (hk := hk) (hl := hlm) (hl9 := hl9) (hl3 := h3) (hk9 := hk9) (h8 := h8m) (c8 := c8m) (c9 := c9m) (k0 := e0.1) (w0 := w0) (d0 := fun y hy => (SN y hy).symm.trans (Classical.not_not.mp d0)); exact z))
    · exact LokP.b (Nat.le_trans (tkP_b (tkN_b wp).2.1) wn) (k_pl11_x0 (c := c) (s := s) (hC0 := hC) (h5 := h5) (hx := hx2) (hl := hl) (hl9 := hl9) (hl3 := h3) (c8 := d1) (c9 := d2) (e0 := e0)) (FP11 (v := 0) h11 h17 (by have z := m_pl11_x0 (c := c) (s := s) (hM := hM) (hk := hk) (hl := hlm) (hl9 := hl9) (hl3 := h3) (hk9 := hk9) (h8 := h8m) (c8 := c8m) (c9 := c9m) (w0 := fun k y hy z => e0 ⟨k, (kw_same hw hy).trans (by rw [h124] at z; exact z)⟩); exact z))
  · exact LokP.b (Nat.le_trans (tkP_b wp) wn) (by have z := k_pl11_full (c := c) (s := s) (hC0 := hC) (h5 := h5) (hx := hx2) (hl := hl) (hl9 := hl9) (hl3 := Classical.not_not.mp h3); rw [t4] at z; exact z) (FP11 (v := 0) h11 h17 (by have z := m_pl11_full (c := c) (s := s) (hM := hM) (hk := hk) (hl := hlm) (hl9 := hl9) (hl3 := Classical.not_not.mp h3); exact z))
set_option maxHeartbeats 1000000 in
theorem pk_12 {σ ν : Nat → Nat → Int} {c s : Nat} {b : Nat → Int} {n m p : Nat} (hW : TokK σ b n m p) (hM : MSt ν b n m p) (hk : tkK b n m p = 1) (hR : RelP σ ν 0) (hD : RelD σ ν) (hw : I_words σ) (h124 : ν 124 = σ 124) (hx : ix (σ 4) (tkV b n m p) 16 0 = 12) (h17 : ν 118 17 = 1936026732) : LokP σ ν b n m p c s := by
  obtain ⟨w2, wn, wp, t1, t2, t3, t4, t5, t6⟩ := hW
  have hC : CSt σ b n m (tkN b n m p) := ⟨w2, wn, (tkN_b wp).2.1, t1, t2, t3⟩
  have hR0 := hR
  obtain ⟨⟨p1, p2⟩, hP⟩ := hR
  obtain ⟨⟨d1, d2, d3, d4, d5, d6⟩, hNm⟩ := hD
  have h5 : σ 1 5 = 1 := t5.trans hk
  have hx2 : ix (σ 4) (σ 1 6) 16 0 = 12 := by rw [t6]; exact hx
  have hM2 := hM
  obtain ⟨_, _, _, _, _, _, m12, m11, _, m17, _, _⟩ := hM2
  have h11 : ν 118 11 = 1 := m11.trans (mkk_1.mpr hk)
  obtain ⟨l9, hl⟩ := natOf p1.1
  have hl9 : l9 ≤ 30 := le30 hl p1.2
  have hlm : ν 118 41 = (l9 : Int) := p2.trans hl
  obtain ⟨k9, h13⟩ := natOf d3.1
  have hk9 : k9 ≤ 8 := by rw [h13] at d3; exact Int.ofNat_le.mp d3.2
  have h8m : ν 120 8 = (k9 : Int) := d6.trans h13
  have SN : ∀ y, Nm (tkV b n m (tkN b n m p)) y → ix (σ 11) (tkV b n m (tkN b n m p)) k9 0 = ix (fun j => ν 123 (0 + j)) y k9 0 := fun y hy => nm_same (g := fun j => ν 123 (0 + j)) (fun j hj => hNm j (by rw [h13]; exact Int.ofNat_lt.mpr hj)) hy
  have ib := ix_b (f := σ 11) (v := tkV b n m (tkN b n m p)) k9 0
  by_cases h3 : ¬ l9 = 30
  · by_cases e0 : tkK b n m (tkN b n m p) = 1 ∧ ix (σ 4) (tkV b n m (tkN b n m p)) 16 0 = -1
    · have w0 : ∀ y, Nm (tkV b n m (tkN b n m p)) y → ix (ν 124) y 16 0 = -1 := fun y hy => by rw [h124]; exact (kw_same hw hy).symm.trans e0.2
      have ke := e0.1
      by_cases d0 : ¬ ix (σ 11) (tkV b n m (tkN b n m p)) k9 0 = -1
      · have dm : ∀ y, Nm (tkV b n m (tkN b n m p)) y → ¬ ix (fun j => ν 123 (0 + j)) y k9 0 = -1 := fun y hy z => d0 ((SN y hy).trans z)
        by_cases e1 : eN b n m (tkN b n m (tkN b n m p)) 1 99 = 0
        · have q1 := (eN_ok e1).2
          by_cases e2 : tkK b n m (tkN b n m (tkN b n m (tkN b n m p))) = 3
          · obtain ⟨σ', ⟨kC, kF, k32, f62, a63, f63, a64, f64, a65, f65⟩, K⟩ := (k_pl12_ok (c := c) (s := s) (hC0 := hC) (h5 := h5) (hx := hx2) (hl := hl) (hl9 := hl9) (hl3 := h3) (hk9 := hk9) (h13 := h13) (d0 := d0) (e0 := e0) (e1 := e1) (e2 := e2) )
            obtain ⟨ν', ⟨mS, mF, m15, b0, ⟨y, hy, b1⟩, b2, f122⟩, M⟩ := (FP12 (v := 1) h11 h17 (by have z := m_pl12_ok (c := c) (s := s) (hM := hM) (hk := hk) (hl := hlm) (hl9 := hl9) (hl3 := h3) (hk9 := hk9) (h8 := h8m) (k0 := e0.1) (w0 := w0) (d0 := dm) (e1 := e1) ; exact z))
            exact .inl ⟨σ', ν', (tkN b n m (tkN b n m (tkN b n m p))), ⟨kF, k32⟩, ⟨mF, m15⟩, K, M, kC, mS, e2, (lenTwo wp hk (Nat.le_trans (Nat.le_trans (Nat.le_refl _) (tkN_b (tkN_b wp).2.1).1) (tkN_b (tkN_b (tkN_b wp).2.1).2.1).1) (tkN_b (tkN_b (tkN_b wp).2.1).2.1).2.1 e2), relp_12 hR0 (mF.2 41 (by decide)) hl h3 (kF 6 (by decide) (by decide) (by decide)) f62 a63 f63 a64 f64 a65 f65 b0 (ixLt ib d0 h13) (b1.trans (SN y hy).symm) b2 q1 f122⟩
          · exact LokP.e (k_pl12_x2 (c := c) (s := s) (hC0 := hC) (h5 := h5) (hx := hx2) (hl := hl) (hl9 := hl9) (hl3 := h3) (hk9 := hk9) (h13 := h13) (d0 := d0) (e0 := e0) (e1 := e1) (e2 := e2) ) e2 (FP12 (v := 1) h11 h17 (by have z := m_pl12_ok (c := c) (s := s) (hM := hM) (hk := hk) (hl := hlm) (hl9 := hl9) (hl3 := h3) (hk9 := hk9) (h8 := h8m) (k0 := e0.1) (w0 := w0) (d0 := dm) (e1 := e1) ; exact z))
        · exact LokP.b (Nat.le_trans (tkP_b (tkN_b (tkN_b wp).2.1).2.1) wn) (k_pl12_x1 (c := c) (s := s) (hC0 := hC) (h5 := h5) (hx := hx2) (hl := hl) (hl9 := hl9) (hl3 := h3) (hk9 := hk9) (h13 := h13) (d0 := d0) (e0 := e0) (e1 := e1) ) (FP12 (v := 0) h11 h17 (by have z := m_pl12_x1 (c := c) (s := s) (hM := hM) (hk := hk) (hl := hlm) (hl9 := hl9) (hl3 := h3) (hk9 := hk9) (h8 := h8m) (k0 := e0.1) (w0 := w0) (d0 := dm) (e1 := e1) ; exact z))
      · exact LokP.b (Nat.le_trans (tkP_b (tkN_b wp).2.1) wn) (k_pl12_had (c := c) (s := s) (hC0 := hC) (h5 := h5) (hx := hx2) (hl := hl) (hl9 := hl9) (hl3 := h3) (hk9 := hk9) (h13 := h13) (e0 := e0) (d0 := Classical.not_not.mp d0)) (FP12 (v := 0) h11 h17 (by have z := m_pl12_had (c := c) (s := s) (hM := hM) (hk := hk) (hl := hlm) (hl9 := hl9) (hl3 := h3) (hk9 := hk9) (h8 := h8m) (k0 := e0.1) (w0 := w0) (d0 := fun y hy => (SN y hy).symm.trans (Classical.not_not.mp d0)); exact z))
    · exact LokP.b (Nat.le_trans (tkP_b (tkN_b wp).2.1) wn) (k_pl12_x0 (c := c) (s := s) (hC0 := hC) (h5 := h5) (hx := hx2) (hl := hl) (hl9 := hl9) (hl3 := h3) (e0 := e0)) (FP12 (v := 0) h11 h17 (by have z := m_pl12_x0 (c := c) (s := s) (hM := hM) (hk := hk) (hl := hlm) (hl9 := hl9) (hl3 := h3) (hk9 := hk9) (h8 := h8m) (w0 := fun k y hy z => e0 ⟨k, (kw_same hw hy).trans (by rw [h124] at z; exact z)⟩); exact z))
  · exact LokP.b (Nat.le_trans (tkP_b wp) wn) (by have z := k_pl12_full (c := c) (s := s) (hC0 := hC) (h5 := h5) (hx := hx2) (hl := hl) (hl9 := hl9) (hl3 := Classical.not_not.mp h3); rw [t4] at z; exact z) (FP12 (v := 0) h11 h17 (by have z := m_pl12_full (c := c) (s := s) (hM := hM) (hk := hk) (hl := hlm) (hl9 := hl9) (hl3 := Classical.not_not.mp h3); exact z))
set_option maxHeartbeats 1000000 in
theorem pk_13 {σ ν : Nat → Nat → Int} {c s : Nat} {b : Nat → Int} {n m p : Nat} (hW : TokK σ b n m p) (hM : MSt ν b n m p) (hk : tkK b n m p = 1) (hR : RelP σ ν 0) (hD : RelD σ ν) (hw : I_words σ) (h124 : ν 124 = σ 124) (hx : ix (σ 4) (tkV b n m p) 16 0 = 13) (h17 : ν 118 17 = 6452601) : LokP σ ν b n m p c s := by
  obtain ⟨w2, wn, wp, t1, t2, t3, t4, t5, t6⟩ := hW
  have hC : CSt σ b n m (tkN b n m p) := ⟨w2, wn, (tkN_b wp).2.1, t1, t2, t3⟩
  have hR0 := hR
  obtain ⟨⟨p1, p2⟩, hP⟩ := hR
  obtain ⟨⟨d1, d2, d3, d4, d5, d6⟩, hNm⟩ := hD
  have h5 : σ 1 5 = 1 := t5.trans hk
  have hx2 : ix (σ 4) (σ 1 6) 16 0 = 13 := by rw [t6]; exact hx
  have hM2 := hM
  obtain ⟨_, _, _, _, _, _, m12, m11, _, m17, _, _⟩ := hM2
  have h11 : ν 118 11 = 1 := m11.trans (mkk_1.mpr hk)
  obtain ⟨l9, hl⟩ := natOf p1.1
  have hl9 : l9 ≤ 30 := le30 hl p1.2
  have hlm : ν 118 41 = (l9 : Int) := p2.trans hl
  obtain ⟨k9, h13⟩ := natOf d3.1
  have hk9 : k9 ≤ 8 := by rw [h13] at d3; exact Int.ofNat_le.mp d3.2
  have h8m : ν 120 8 = (k9 : Int) := d6.trans h13
  have SN : ∀ y, Nm (tkV b n m (tkN b n m p)) y → ix (σ 11) (tkV b n m (tkN b n m p)) k9 0 = ix (fun j => ν 123 (0 + j)) y k9 0 := fun y hy => nm_same (g := fun j => ν 123 (0 + j)) (fun j hj => hNm j (by rw [h13]; exact Int.ofNat_lt.mpr hj)) hy
  have ib := ix_b (f := σ 11) (v := tkV b n m (tkN b n m p)) k9 0
  by_cases h3 : ¬ l9 = 30
  · by_cases e0 : tkK b n m (tkN b n m p) = 1 ∧ ix (σ 4) (tkV b n m (tkN b n m p)) 16 0 = -1
    · have w0 : ∀ y, Nm (tkV b n m (tkN b n m p)) y → ix (ν 124) y 16 0 = -1 := fun y hy => by rw [h124]; exact (kw_same hw hy).symm.trans e0.2
      have ke := e0.1
      by_cases d0 : ¬ ix (σ 11) (tkV b n m (tkN b n m p)) k9 0 = -1
      · have dm : ∀ y, Nm (tkV b n m (tkN b n m p)) y → ¬ ix (fun j => ν 123 (0 + j)) y k9 0 = -1 := fun y hy z => d0 ((SN y hy).trans z)
        by_cases e1 : eN b n m (tkN b n m (tkN b n m p)) 1 99 = 0
        · have q1 := (eN_ok e1).2
          by_cases e2 : tkK b n m (tkN b n m (tkN b n m (tkN b n m p))) = 3
          · obtain ⟨σ', ⟨kC, kF, k32, f62, a63, f63, a64, f64, a65, f65⟩, K⟩ := (k_pl13_ok (c := c) (s := s) (hC0 := hC) (h5 := h5) (hx := hx2) (hl := hl) (hl9 := hl9) (hl3 := h3) (hk9 := hk9) (h13 := h13) (d0 := d0) (e0 := e0) (e1 := e1) (e2 := e2) )
            obtain ⟨ν', ⟨mS, mF, m15, b0, ⟨y, hy, b1⟩, b2, f122⟩, M⟩ := (FP13 (v := 1) h11 h17 (by have z := m_pl13_ok (c := c) (s := s) (hM := hM) (hk := hk) (hl := hlm) (hl9 := hl9) (hl3 := h3) (hk9 := hk9) (h8 := h8m) (k0 := e0.1) (w0 := w0) (d0 := dm) (e1 := e1) ; exact z))
            exact .inl ⟨σ', ν', (tkN b n m (tkN b n m (tkN b n m p))), ⟨kF, k32⟩, ⟨mF, m15⟩, K, M, kC, mS, e2, (lenTwo wp hk (Nat.le_trans (Nat.le_trans (Nat.le_refl _) (tkN_b (tkN_b wp).2.1).1) (tkN_b (tkN_b (tkN_b wp).2.1).2.1).1) (tkN_b (tkN_b (tkN_b wp).2.1).2.1).2.1 e2), relp_13 hR0 (mF.2 41 (by decide)) hl h3 (kF 6 (by decide) (by decide) (by decide)) f62 a63 f63 a64 f64 a65 f65 b0 (ixLt ib d0 h13) (b1.trans (SN y hy).symm) b2 q1 f122⟩
          · exact LokP.e (k_pl13_x2 (c := c) (s := s) (hC0 := hC) (h5 := h5) (hx := hx2) (hl := hl) (hl9 := hl9) (hl3 := h3) (hk9 := hk9) (h13 := h13) (d0 := d0) (e0 := e0) (e1 := e1) (e2 := e2) ) e2 (FP13 (v := 1) h11 h17 (by have z := m_pl13_ok (c := c) (s := s) (hM := hM) (hk := hk) (hl := hlm) (hl9 := hl9) (hl3 := h3) (hk9 := hk9) (h8 := h8m) (k0 := e0.1) (w0 := w0) (d0 := dm) (e1 := e1) ; exact z))
        · exact LokP.b (Nat.le_trans (tkP_b (tkN_b (tkN_b wp).2.1).2.1) wn) (k_pl13_x1 (c := c) (s := s) (hC0 := hC) (h5 := h5) (hx := hx2) (hl := hl) (hl9 := hl9) (hl3 := h3) (hk9 := hk9) (h13 := h13) (d0 := d0) (e0 := e0) (e1 := e1) ) (FP13 (v := 0) h11 h17 (by have z := m_pl13_x1 (c := c) (s := s) (hM := hM) (hk := hk) (hl := hlm) (hl9 := hl9) (hl3 := h3) (hk9 := hk9) (h8 := h8m) (k0 := e0.1) (w0 := w0) (d0 := dm) (e1 := e1) ; exact z))
      · exact LokP.b (Nat.le_trans (tkP_b (tkN_b wp).2.1) wn) (k_pl13_had (c := c) (s := s) (hC0 := hC) (h5 := h5) (hx := hx2) (hl := hl) (hl9 := hl9) (hl3 := h3) (hk9 := hk9) (h13 := h13) (e0 := e0) (d0 := Classical.not_not.mp d0)) (FP13 (v := 0) h11 h17 (by have z := m_pl13_had (c := c) (s := s) (hM := hM) (hk := hk) (hl := hlm) (hl9 := hl9) (hl3 := h3) (hk9 := hk9) (h8 := h8m) (k0 := e0.1) (w0 := w0) (d0 := fun y hy => (SN y hy).symm.trans (Classical.not_not.mp d0)); exact z))
    · exact LokP.b (Nat.le_trans (tkP_b (tkN_b wp).2.1) wn) (k_pl13_x0 (c := c) (s := s) (hC0 := hC) (h5 := h5) (hx := hx2) (hl := hl) (hl9 := hl9) (hl3 := h3) (e0 := e0)) (FP13 (v := 0) h11 h17 (by have z := m_pl13_x0 (c := c) (s := s) (hM := hM) (hk := hk) (hl := hlm) (hl9 := hl9) (hl3 := h3) (hk9 := hk9) (h8 := h8m) (w0 := fun k y hy z => e0 ⟨k, (kw_same hw hy).trans (by rw [h124] at z; exact z)⟩); exact z))
  · exact LokP.b (Nat.le_trans (tkP_b wp) wn) (by have z := k_pl13_full (c := c) (s := s) (hC0 := hC) (h5 := h5) (hx := hx2) (hl := hl) (hl9 := hl9) (hl3 := Classical.not_not.mp h3); rw [t4] at z; exact z) (FP13 (v := 0) h11 h17 (by have z := m_pl13_full (c := c) (s := s) (hM := hM) (hk := hk) (hl := hlm) (hl9 := hl9) (hl3 := Classical.not_not.mp h3); exact z))
set_option maxHeartbeats 1000000 in
theorem pk_14 {σ ν : Nat → Nat → Int} {c s : Nat} {b : Nat → Int} {n m p : Nat} (hW : TokK σ b n m p) (hM : MSt ν b n m p) (hk : tkK b n m p = 1) (hR : RelP σ ν 0) (hD : RelD σ ν) (hw : I_words σ) (h124 : ν 124 = σ 124) (hx : ix (σ 4) (tkV b n m p) 16 0 = 14) (h17 : ν 118 17 = 6578553) : LokP σ ν b n m p c s := by
  obtain ⟨w2, wn, wp, t1, t2, t3, t4, t5, t6⟩ := hW
  have hC : CSt σ b n m (tkN b n m p) := ⟨w2, wn, (tkN_b wp).2.1, t1, t2, t3⟩
  have hR0 := hR
  obtain ⟨⟨p1, p2⟩, hP⟩ := hR
  obtain ⟨⟨d1, d2, d3, d4, d5, d6⟩, hNm⟩ := hD
  have h5 : σ 1 5 = 1 := t5.trans hk
  have hx2 : ix (σ 4) (σ 1 6) 16 0 = 14 := by rw [t6]; exact hx
  have hM2 := hM
  obtain ⟨_, _, _, _, _, _, m12, m11, _, m17, _, _⟩ := hM2
  have h11 : ν 118 11 = 1 := m11.trans (mkk_1.mpr hk)
  obtain ⟨l9, hl⟩ := natOf p1.1
  have hl9 : l9 ≤ 30 := le30 hl p1.2
  have hlm : ν 118 41 = (l9 : Int) := p2.trans hl
  by_cases h3 : ¬ l9 = 30
  · by_cases e0 : tkK b n m (tkN b n m p) = 3
    · obtain ⟨σ', ⟨kC, kF, k32, f62, a63, f63, a64, f64, a65, f65⟩, K⟩ := (k_pl14_ok (c := c) (s := s) (hC0 := hC) (h5 := h5) (hx := hx2) (hl := hl) (hl9 := hl9) (hl3 := h3) (e0 := e0) )
      obtain ⟨ν', ⟨mS, mF, m15, b0, f122⟩, M⟩ := (FP14 (v := 1) h11 h17 (by have z := m_pl14_ok (c := c) (s := s) (hM := hM) (hk := hk) (hl := hlm) (hl9 := hl9) (hl3 := h3) ; exact z))
      exact .inl ⟨σ', ν', (tkN b n m p), ⟨kF, k32⟩, ⟨mF, m15⟩, K, M, kC, mS, e0, (lenTwo wp hk (Nat.le_refl _) (tkN_b wp).2.1 e0), relp_14 hR0 (mF.2 41 (by decide)) hl h3 (kF 6 (by decide) (by decide) (by decide)) f62 a63 f63 a64 f64 a65 f65 b0 f122⟩
    · exact LokP.e (k_pl14_x0 (c := c) (s := s) (hC0 := hC) (h5 := h5) (hx := hx2) (hl := hl) (hl9 := hl9) (hl3 := h3) (e0 := e0) ) e0 (FP14 (v := 1) h11 h17 (by have z := m_pl14_ok (c := c) (s := s) (hM := hM) (hk := hk) (hl := hlm) (hl9 := hl9) (hl3 := h3) ; exact z))
  · exact LokP.b (Nat.le_trans (tkP_b wp) wn) (by have z := k_pl14_full (c := c) (s := s) (hC0 := hC) (h5 := h5) (hx := hx2) (hl := hl) (hl9 := hl9) (hl3 := Classical.not_not.mp h3); rw [t4] at z; exact z) (FP14 (v := 0) h11 h17 (by have z := m_pl14_full (c := c) (s := s) (hM := hM) (hk := hk) (hl := hlm) (hl9 := hl9) (hl3 := Classical.not_not.mp h3); exact z))
set_option maxHeartbeats 1000000 in
theorem pk_15 {σ ν : Nat → Nat → Int} {c s : Nat} {b : Nat → Int} {n m p : Nat} (hW : TokK σ b n m p) (hM : MSt ν b n m p) (hk : tkK b n m p = 1) (hR : RelP σ ν 0) (hD : RelD σ ν) (hw : I_words σ) (h124 : ν 124 = σ 124) (hx : ix (σ 4) (tkV b n m p) 16 0 = 15) (h17 : ν 118 17 = 474214787188) : LokP σ ν b n m p c s := by
  obtain ⟨w2, wn, wp, t1, t2, t3, t4, t5, t6⟩ := hW
  have hC : CSt σ b n m (tkN b n m p) := ⟨w2, wn, (tkN_b wp).2.1, t1, t2, t3⟩
  have hR0 := hR
  obtain ⟨⟨p1, p2⟩, hP⟩ := hR
  obtain ⟨⟨d1, d2, d3, d4, d5, d6⟩, hNm⟩ := hD
  have h5 : σ 1 5 = 1 := t5.trans hk
  have hx2 : ix (σ 4) (σ 1 6) 16 0 = 15 := by rw [t6]; exact hx
  have hM2 := hM
  obtain ⟨_, _, _, _, _, _, m12, m11, _, m17, _, _⟩ := hM2
  have h11 : ν 118 11 = 1 := m11.trans (mkk_1.mpr hk)
  obtain ⟨l9, hl⟩ := natOf p1.1
  have hl9 : l9 ≤ 30 := le30 hl p1.2
  have hlm : ν 118 41 = (l9 : Int) := p2.trans hl
  by_cases h3 : ¬ l9 = 30
  · by_cases e0 : eN b n m (tkN b n m p) 1 20 = 0
    · have q0 := (eN_ok e0).2
      by_cases e1 : tkK b n m (tkN b n m (tkN b n m p)) = 3
      · obtain ⟨σ', ⟨kC, kF, k32, f62, a63, f63, a64, f64, a65, f65⟩, K⟩ := (k_pl15_ok (c := c) (s := s) (hC0 := hC) (h5 := h5) (hx := hx2) (hl := hl) (hl9 := hl9) (hl3 := h3) (e0 := e0) (e1 := e1) )
        obtain ⟨ν', ⟨mS, mF, m15, b0, b2, f122⟩, M⟩ := (FP15 (v := 1) h11 h17 (by have z := m_pl15_ok (c := c) (s := s) (hM := hM) (hk := hk) (hl := hlm) (hl9 := hl9) (hl3 := h3) (e0 := e0) ; exact z))
        exact .inl ⟨σ', ν', (tkN b n m (tkN b n m p)), ⟨kF, k32⟩, ⟨mF, m15⟩, K, M, kC, mS, e1, (lenTwo wp hk (Nat.le_trans (Nat.le_refl _) (tkN_b (tkN_b wp).2.1).1) (tkN_b (tkN_b wp).2.1).2.1 e1), relp_15 hR0 (mF.2 41 (by decide)) hl h3 (kF 6 (by decide) (by decide) (by decide)) f62 a63 f63 a64 f64 a65 f65 b0 b2 q0 f122⟩
      · exact LokP.e (k_pl15_x1 (c := c) (s := s) (hC0 := hC) (h5 := h5) (hx := hx2) (hl := hl) (hl9 := hl9) (hl3 := h3) (e0 := e0) (e1 := e1) ) e1 (FP15 (v := 1) h11 h17 (by have z := m_pl15_ok (c := c) (s := s) (hM := hM) (hk := hk) (hl := hlm) (hl9 := hl9) (hl3 := h3) (e0 := e0) ; exact z))
    · exact LokP.b (Nat.le_trans (tkP_b (tkN_b wp).2.1) wn) (k_pl15_x0 (c := c) (s := s) (hC0 := hC) (h5 := h5) (hx := hx2) (hl := hl) (hl9 := hl9) (hl3 := h3) (e0 := e0) ) (FP15 (v := 0) h11 h17 (by have z := m_pl15_x0 (c := c) (s := s) (hM := hM) (hk := hk) (hl := hlm) (hl9 := hl9) (hl3 := h3) (e0 := e0) ; exact z))
  · exact LokP.b (Nat.le_trans (tkP_b wp) wn) (by have z := k_pl15_full (c := c) (s := s) (hC0 := hC) (h5 := h5) (hx := hx2) (hl := hl) (hl9 := hl9) (hl3 := Classical.not_not.mp h3); rw [t4] at z; exact z) (FP15 (v := 0) h11 h17 (by have z := m_pl15_full (c := c) (s := s) (hM := hM) (hk := hk) (hl := hlm) (hl9 := hl9) (hl3 := Classical.not_not.mp h3); exact z))
theorem ixNp {v : Int} (h : v = -1 ∨ (((0 : Nat) : Int) ≤ v ∧ v < ((0 + 16 : Nat) : Int))) (x11 : ¬ v = 11) (x12 : ¬ v = 12) (x13 : ¬ v = 13) (x14 : ¬ v = 14) (x15 : ¬ v = 15) : v < 11 := by omega
theorem kw_dist : ∀ i, i < 16 → ∀ j, j < 16 → en 256 0 (kw i) = en 256 0 (kw j) → i = j := by decide +kernel
theorem kw_two {μ : Nat → Nat → Int} (h : I_words μ) {i j : Nat} (hi : i < 16) (hj : j < 16) (e : μ 124 i = μ 124 j) : i = j := kw_dist i hi j hj ((h i hi).2.symm.trans (e.trans (h j hj).2))
theorem ix_first {f : Nat → Int} {v : Int} : ∀ d i w : Nat, i ≤ w → w < i + d → (∀ k, i ≤ k → k < w → ¬ f k = v) → f w = v → ix f v d i = (w : Int)
  | 0, i, w, h1, h2, _, _ => by omega
  | d + 1, i, w, h1, h2, h3, h4 => by
    by_cases e : f i = v
    · rw [ix_t e]
      have : i = w := by
        by_cases q : i = w
        · exact q
        · exact absurd e (h3 i (Nat.le_refl _) (by omega))
      rw [this]
    · rw [ix_f e]
      have : ¬ i = w := fun z => e (z ▸ h4)
      exact ix_first d (i + 1) w (by omega) (by omega) (fun k a b => h3 k (by omega) b) h4
theorem kw_np {μ : Nat → Nat → Int} (h : I_words μ) {x y : Int} (hn : Nm x y) (hx : ix (μ 4) x 16 0 < 11) {w : Nat} (hw : 11 ≤ w) (hw2 : w < 16) : ¬ y = en 256 0 (kw w) := fun e => by
  have h1 := kw_same h hn
  have e2 : μ 124 w = y := (h w hw2).2.trans e.symm
  have h3 : ∀ i, i < w → ¬ μ 124 i = y := fun i hi z => by
    have := kw_two h (show i < 16 by omega) hw2 (z.trans e2.symm)
    omega
  have h2 := ix_first (f := μ 124) (v := y) 16 0 w (by omega) (by omega) (fun i _ hi => h3 i hi) e2
  omega
theorem pk_all {σ ν : Nat → Nat → Int} {c s : Nat} {b : Nat → Int} {n m p : Nat} (hW : TokK σ b n m p) (hM : MSt ν b n m p) (hR : RelP σ ν 0) (hD : RelD σ ν) (hw : I_words σ) (h124 : ν 124 = σ 124) : LokP σ ν b n m p c s := by
  obtain ⟨w2, wn, wp, t1, t2, t3, t4, t5, t6⟩ := id hW
  have hM2 := hM
  obtain ⟨_, _, _, _, _, _, m12, m11, _, m17, _, _⟩ := hM2
  have hf : Cl PT 59 [mR 3, mR 62, mR 6] (mkh σ c s) (fun r => r = (some (some (mI 0)), mkh (m_set σ 3 2 1) c s)) → Cl PT 265 [mR 118] (mkh ν c s) (fun r => r = (some (some (mI 0)), mkh (m_set (m_set ν 118 15 1) 118 16 (ν 118 12)) c s)) → LokP σ ν b n m p c s := fun K M => LokP.b (Nat.le_trans (tkP_b wp) wn) ⟨m_set σ 3 2 1, ⟨rfl, t4, FrmP.s FrmP.r (by decide)⟩, K⟩ ⟨m_set (m_set ν 118 15 1) 118 16 (ν 118 12), ⟨rfl, m12, FrmQ.s (FrmQ.s FrmQ.r (by decide)) (by decide)⟩, M⟩
  by_cases hk : tkK b n m p = 1
  · have hy := m17 hk
    have hb := ix_b (f := σ 4) (v := tkV b n m p) 16 0
    by_cases x11 : ix (σ 4) (tkV b n m p) 16 0 = 11
    · exact pk_11 hW hM hk hR hD hw h124 x11 ((kw_at hw hy (w := 11) (by decide) x11).trans kw_11)
    by_cases x12 : ix (σ 4) (tkV b n m p) 16 0 = 12
    · exact pk_12 hW hM hk hR hD hw h124 x12 ((kw_at hw hy (w := 12) (by decide) x12).trans kw_12)
    by_cases x13 : ix (σ 4) (tkV b n m p) 16 0 = 13
    · exact pk_13 hW hM hk hR hD hw h124 x13 ((kw_at hw hy (w := 13) (by decide) x13).trans kw_13)
    by_cases x14 : ix (σ 4) (tkV b n m p) 16 0 = 14
    · exact pk_14 hW hM hk hR hD hw h124 x14 ((kw_at hw hy (w := 14) (by decide) x14).trans kw_14)
    by_cases x15 : ix (σ 4) (tkV b n m p) 16 0 = 15
    · exact pk_15 hW hM hk hR hD hw h124 x15 ((kw_at hw hy (w := 15) (by decide) x15).trans kw_15)
    have hno : ix (σ 4) (tkV b n m p) 16 0 < 11 := ixNp hb x11 x12 x13 x14 x15
    refine hf (k_plB (t5.trans hk) (by rw [t6]; exact hno)) (e_plN fun _ => ⟨fun z => kw_np hw hy hno (w := 11) (by decide) (by decide) (z.trans kw_11.symm), fun z => kw_np hw hy hno (w := 12) (by decide) (by decide) (z.trans kw_12.symm), fun z => kw_np hw hy hno (w := 13) (by decide) (by decide) (z.trans kw_13.symm), fun z => kw_np hw hy hno (w := 14) (by decide) (by decide) (z.trans kw_14.symm), fun z => kw_np hw hy hno (w := 15) (by decide) (by decide) (z.trans kw_15.symm)⟩)
  · exact hf (k_plA (by rw [t5]; exact hk)) (e_plN fun z => absurd (mkk_1.mp (m11.symm.trans z)) hk)
theorem pkr_end {μ : Nat → Nat → Int} {c s : Nat} {A : Nat → Int} {i : Int} (hi : 0 ≤ i ∧ i ≤ 400) (hT : Cl PT 69 [mR 1] (mkh μ c s) (fun r => r = (some none, mkh (m_upd μ 1 A) c s))) (h5 : A 5 = 4) : Rn PT none kX5_readPlan 12 [some (mR 3), some (mR 62), some (mR 6), some (mI (i))] [] (mkh μ c s) (fun r => r = (some (some (mI (μ 62 0))), mkh (m_upd μ 1 A) c s)) := by
  refine rn_iload_n (k' := 13) rfl rfl rfl ?_
  refine rn_sipush (k' := 14) rfl rfl ?_
  refine rn_icmp_gt (k' := 15) rfl rfl (fun hc1 => ?_) (fun hc1 => ?_)
  · exfalso; omega
  · skip
    refine rn_aload_n (k' := 16) rfl rfl rfl ?_
    refine rn_getR (k' := 17) rfl rfl K0_3 (by decide) rfl R0_3_0 ?_
    refine rn_callP (k' := 18) (y := 69) (vs := [mR 1]) (S' := []) (v := none) (h' := mkh (m_upd μ 1 A) c s) rfl rfl rfl (hT) ?_
    show Rn PT none kX5_readPlan 18 [some (mR 3), some (mR 62), some (mR 6), some (mI (i))] [] (mkh (m_upd μ 1 A) c s) _
    refine rn_aload_n (k' := 19) rfl rfl rfl ?_
    refine rn_getR (k' := 20) rfl rfl K0_3 (by decide) rfl R0_3_0 ?_
    refine rn_getI (k' := 21) rfl rfl K0_1 (by decide) rfl ?_
    show Rn PT none kX5_readPlan 21 [some (mR 3), some (mR 62), some (mR 6), some (mI (i))] [mI (A 5)] (mkh (m_upd μ 1 A) c s) _
    refine rn_iconst (k' := 22) rfl rfl ?_
    refine rn_icmp_ne (k' := 23) rfl rfl (fun hc2 => ?_) (fun hc2 => ?_)
    · exfalso; omega
    · skip
      refine rn_aload_n (k' := 24) rfl rfl rfl ?_
      refine rn_getI (k' := 25) rfl rfl K0_62 (by decide) rfl ?_
      show Rn PT none kX5_readPlan 25 [some (mR 3), some (mR 62), some (mR 6), some (mI (i))] [mI (μ 62 0)] (mkh (m_upd μ 1 A) c s) _
      refine rn_iret rfl (Or.inl rfl) ?_
      rfl
theorem pkr_bad {μ : Nat → Nat → Int} {c s : Nat} {A : Nat → Int} {i : Int} (hi : 0 ≤ i ∧ i ≤ 400) (hT : Cl PT 69 [mR 1] (mkh μ c s) (fun r => r = (some none, mkh (m_upd μ 1 A) c s))) (h5 : ¬ A 5 = 4) {μ2 : Nat → Nat → Int} (hL : Cl PT 59 [mR 3, mR 62, mR 6] (mkh (m_upd μ 1 A) c s) (fun r => r = (some (some (mI 0)), mkh μ2 c s))) (hp : 0 ≤ μ2 1 4 ∧ μ2 1 4 ≤ 940) : Rn PT none kX5_readPlan 12 [some (mR 3), some (mR 62), some (mR 6), some (mI (i))] [] (mkh μ c s) (fun r => r = (some (some (mI (-1 - μ2 1 4))), mkh μ2 c s)) := by
  refine rn_iload_n (k' := 13) rfl rfl rfl ?_
  refine rn_sipush (k' := 14) rfl rfl ?_
  refine rn_icmp_gt (k' := 15) rfl rfl (fun hc1 => ?_) (fun hc1 => ?_)
  · exfalso; omega
  · skip
    refine rn_aload_n (k' := 16) rfl rfl rfl ?_
    refine rn_getR (k' := 17) rfl rfl K0_3 (by decide) rfl R0_3_0 ?_
    refine rn_callP (k' := 18) (y := 69) (vs := [mR 1]) (S' := []) (v := none) (h' := mkh (m_upd μ 1 A) c s) rfl rfl rfl (hT) ?_
    show Rn PT none kX5_readPlan 18 [some (mR 3), some (mR 62), some (mR 6), some (mI (i))] [] (mkh (m_upd μ 1 A) c s) _
    refine rn_aload_n (k' := 19) rfl rfl rfl ?_
    refine rn_getR (k' := 20) rfl rfl K0_3 (by decide) rfl R0_3_0 ?_
    refine rn_getI (k' := 21) rfl rfl K0_1 (by decide) rfl ?_
    show Rn PT none kX5_readPlan 21 [some (mR 3), some (mR 62), some (mR 6), some (mI (i))] [mI (A 5)] (mkh (m_upd μ 1 A) c s) _
    refine rn_iconst (k' := 22) rfl rfl ?_
    refine rn_icmp_ne (k' := 23) rfl rfl (fun hc2 => ?_) (fun hc2 => ?_)
    · skip
      refine rn_aload_n (k' := 27) rfl rfl rfl ?_
      refine rn_aload_n (k' := 28) rfl rfl rfl ?_
      refine rn_aload_n (k' := 29) rfl rfl rfl ?_
      refine rn_callP (k' := 30) (y := 59) (vs := [mR 3, mR 62, mR 6]) (S' := []) (v := some (mI (0))) (h' := mkh μ2 c s) rfl rfl rfl (hL) ?_
      show Rn PT none kX5_readPlan 30 [some (mR 3), some (mR 62), some (mR 6), some (mI (i))] [mI (0)] (mkh μ2 c s) _
      refine rn_if_ne (k' := 31) rfl rfl (fun hc3 => ?_) (fun hc3 => ?_)
      · exfalso; omega
      · skip
        refine rn_goto rfl ?_
        refine rn_iconst (k' := 41) rfl rfl ?_
        refine rn_aload_n (k' := 42) rfl rfl rfl ?_
        refine rn_getR (k' := 43) rfl rfl K0_3 (by decide) rfl R0_3_0 ?_
        refine rn_getI (k' := 44) rfl rfl K0_1 (by decide) rfl ?_
        refine rn_isub (k' := 45) rfl rfl (by omega) ?_
        refine rn_iret rfl (Or.inl rfl) ?_
        rfl
    · exfalso; omega
theorem pkr_ok {μ : Nat → Nat → Int} {c s : Nat} {A : Nat → Int} {i : Int} (hi : 0 ≤ i ∧ i ≤ 400) (hT : Cl PT 69 [mR 1] (mkh μ c s) (fun r => r = (some none, mkh (m_upd μ 1 A) c s))) (h5 : ¬ A 5 = 4) {μ2 : Nat → Nat → Int} (hL : Cl PT 59 [mR 3, mR 62, mR 6] (mkh (m_upd μ 1 A) c s) (fun r => r = (some (some (mI 1)), mkh μ2 c s))) (h7 : 0 ≤ μ2 62 0 ∧ μ2 62 0 ≤ 900) {Q : MR → Prop} (K : Rn PT none kX5_readPlan 12 [some (mR 3), some (mR 62), some (mR 6), some (mI (i + 1))] [] (mkh (m_set μ2 62 0 (μ2 62 0 + 1)) c s) Q) : Rn PT none kX5_readPlan 12 [some (mR 3), some (mR 62), some (mR 6), some (mI (i))] [] (mkh μ c s) Q := by
  refine rn_iload_n (k' := 13) rfl rfl rfl ?_
  refine rn_sipush (k' := 14) rfl rfl ?_
  refine rn_icmp_gt (k' := 15) rfl rfl (fun hc1 => ?_) (fun hc1 => ?_)
  · exfalso; omega
  · skip
    refine rn_aload_n (k' := 16) rfl rfl rfl ?_
    refine rn_getR (k' := 17) rfl rfl K0_3 (by decide) rfl R0_3_0 ?_
    refine rn_callP (k' := 18) (y := 69) (vs := [mR 1]) (S' := []) (v := none) (h' := mkh (m_upd μ 1 A) c s) rfl rfl rfl (hT) ?_
    show Rn PT none kX5_readPlan 18 [some (mR 3), some (mR 62), some (mR 6), some (mI (i))] [] (mkh (m_upd μ 1 A) c s) _
    refine rn_aload_n (k' := 19) rfl rfl rfl ?_
    refine rn_getR (k' := 20) rfl rfl K0_3 (by decide) rfl R0_3_0 ?_
    refine rn_getI (k' := 21) rfl rfl K0_1 (by decide) rfl ?_
    show Rn PT none kX5_readPlan 21 [some (mR 3), some (mR 62), some (mR 6), some (mI (i))] [mI (A 5)] (mkh (m_upd μ 1 A) c s) _
    refine rn_iconst (k' := 22) rfl rfl ?_
    refine rn_icmp_ne (k' := 23) rfl rfl (fun hc2 => ?_) (fun hc2 => ?_)
    · skip
      refine rn_aload_n (k' := 27) rfl rfl rfl ?_
      refine rn_aload_n (k' := 28) rfl rfl rfl ?_
      refine rn_aload_n (k' := 29) rfl rfl rfl ?_
      refine rn_callP (k' := 30) (y := 59) (vs := [mR 3, mR 62, mR 6]) (S' := []) (v := some (mI (1))) (h' := mkh μ2 c s) rfl rfl rfl (hL) ?_
      show Rn PT none kX5_readPlan 30 [some (mR 3), some (mR 62), some (mR 6), some (mI (i))] [mI (1)] (mkh μ2 c s) _
      refine rn_if_ne (k' := 31) rfl rfl (fun hc3 => ?_) (fun hc3 => ?_)
      · skip
        refine rn_aload_n (k' := 33) rfl rfl rfl ?_
        refine rn_dupR (k' := 34) rfl rfl ?_
        refine rn_getI (k' := 35) rfl rfl K0_62 (by decide) rfl ?_
        refine rn_iconst (k' := 36) rfl rfl ?_
        refine rn_iadd (k' := 37) rfl rfl (by omega) ?_
        refine rn_putI (k' := 38) rfl rfl K0_62 (by decide) rfl ?_
        refine rn_iinc (k' := 39) (L' := [some (mR 3), some (mR 62), some (mR 6), some (mI (i + 1))]) rfl rfl rfl (by omega) rfl ?_
        refine rn_goto rfl ?_
        exact K
      · exfalso; omega
    · exfalso; omega
theorem pmr_end {μ : Nat → Nat → Int} {c s : Nat} (h11 : μ 118 11 = 0) {Q : MR → Prop} (K : Rn PT none kX12_plan 36 [some (mR 118), none] [] (mkh μ c s) Q) : Rn PT none kX12_plan 14 [some (mR 118), none] [] (mkh μ c s) Q := by
  refine rn_aload_n (k' := 15) rfl rfl rfl ?_
  refine rn_getI (k' := 16) rfl rfl K0_118 (by decide) rfl ?_
  refine rn_if_eq (k' := 17) rfl rfl (fun hc1 => ?_) (fun hc1 => ?_)
  · skip
    exact K
  · exfalso; omega
theorem pmr_bad {μ : Nat → Nat → Int} {c s : Nat} (h11 : ¬ μ 118 11 = 0) {μ2 : Nat → Nat → Int} (hL : Cl PT 265 [mR 118] (mkh μ c s) (fun r => r = (some (some (mI 0)), mkh μ2 c s))) (hp : 0 ≤ μ2 118 16 ∧ μ2 118 16 ≤ 940) : Rn PT none kX12_plan 14 [some (mR 118), none] [] (mkh μ c s) (fun r => r = (some (some (mI (-1 - μ2 118 16))), mkh μ2 c s)) := by
  refine rn_aload_n (k' := 15) rfl rfl rfl ?_
  refine rn_getI (k' := 16) rfl rfl K0_118 (by decide) rfl ?_
  refine rn_if_eq (k' := 17) rfl rfl (fun hc1 => ?_) (fun hc1 => ?_)
  · exfalso; omega
  · skip
    refine rn_aload_n (k' := 18) rfl rfl rfl ?_
    refine rn_callP (k' := 19) (y := 265) (vs := [mR 118]) (S' := []) (v := some (mI (0))) (h' := mkh μ2 c s) rfl rfl rfl (hL) ?_
    show Rn PT none kX12_plan 19 [some (mR 118), none] [mI (0)] (mkh μ2 c s) _
    refine rn_if_eq (k' := 20) rfl rfl (fun hc2 => ?_) (fun hc2 => ?_)
    · skip
      refine rn_iconst (k' := 25) rfl rfl ?_
      refine rn_aload_n (k' := 26) rfl rfl rfl ?_
      refine rn_getI (k' := 27) rfl rfl K0_118 (by decide) rfl ?_
      refine rn_isub (k' := 28) rfl rfl (by omega) ?_
      refine rn_iret rfl (Or.inl rfl) ?_
      rfl
    · exfalso; omega
theorem pmr_sgn {μ : Nat → Nat → Int} {c s : Nat} (h11 : ¬ μ 118 11 = 0) {μ2 : Nat → Nat → Int} (hL : Cl PT 265 [mR 118] (mkh μ c s) (fun r => r = (some (some (mI 1)), mkh μ2 c s))) {μ3 : Nat → Nat → Int} (hS : Cl PT 179 [mR 118, mI 59] (mkh μ2 c s) (fun r => r = (some (some (mI 0)), mkh μ3 c s))) (hp : 0 ≤ μ3 118 16 ∧ μ3 118 16 ≤ 940) : Rn PT none kX12_plan 14 [some (mR 118), none] [] (mkh μ c s) (fun r => r = (some (some (mI (-1 - μ3 118 16))), mkh μ3 c s)) := by
  refine rn_aload_n (k' := 15) rfl rfl rfl ?_
  refine rn_getI (k' := 16) rfl rfl K0_118 (by decide) rfl ?_
  refine rn_if_eq (k' := 17) rfl rfl (fun hc1 => ?_) (fun hc1 => ?_)
  · exfalso; omega
  · skip
    refine rn_aload_n (k' := 18) rfl rfl rfl ?_
    refine rn_callP (k' := 19) (y := 265) (vs := [mR 118]) (S' := []) (v := some (mI (1))) (h' := mkh μ2 c s) rfl rfl rfl (hL) ?_
    show Rn PT none kX12_plan 19 [some (mR 118), none] [mI (1)] (mkh μ2 c s) _
    refine rn_if_eq (k' := 20) rfl rfl (fun hc2 => ?_) (fun hc2 => ?_)
    · exfalso; omega
    · skip
      refine rn_aload_n (k' := 21) rfl rfl rfl ?_
      refine rn_bipush (k' := 22) rfl rfl ?_
      refine rn_callP (k' := 23) (y := 179) (vs := [mR 118, mI (59)]) (S' := []) (v := some (mI (0))) (h' := mkh μ3 c s) rfl rfl rfl (hS) ?_
      show Rn PT none kX12_plan 23 [some (mR 118), none] [mI (0)] (mkh μ3 c s) _
      refine rn_if_ne (k' := 24) rfl rfl (fun hc3 => ?_) (fun hc3 => ?_)
      · exfalso; omega
      · skip
        refine rn_iconst (k' := 25) rfl rfl ?_
        refine rn_aload_n (k' := 26) rfl rfl rfl ?_
        refine rn_getI (k' := 27) rfl rfl K0_118 (by decide) rfl ?_
        refine rn_isub (k' := 28) rfl rfl (by omega) ?_
        refine rn_iret rfl (Or.inl rfl) ?_
        rfl
theorem pmr_ok {μ : Nat → Nat → Int} {c s : Nat} (h11 : ¬ μ 118 11 = 0) {μ2 : Nat → Nat → Int} (hL : Cl PT 265 [mR 118] (mkh μ c s) (fun r => r = (some (some (mI 1)), mkh μ2 c s))) {μ3 : Nat → Nat → Int} (hS : Cl PT 179 [mR 118, mI 59] (mkh μ2 c s) (fun r => r = (some (some (mI 1)), mkh μ3 c s))) (h7 : 0 ≤ μ3 118 41 ∧ μ3 118 41 ≤ 900) {Q : MR → Prop} (K : Rn PT none kX12_plan 14 [some (mR 118), none] [] (mkh (m_set μ3 118 41 (μ3 118 41 + 1)) c s) Q) : Rn PT none kX12_plan 14 [some (mR 118), none] [] (mkh μ c s) Q := by
  refine rn_aload_n (k' := 15) rfl rfl rfl ?_
  refine rn_getI (k' := 16) rfl rfl K0_118 (by decide) rfl ?_
  refine rn_if_eq (k' := 17) rfl rfl (fun hc1 => ?_) (fun hc1 => ?_)
  · exfalso; omega
  · skip
    refine rn_aload_n (k' := 18) rfl rfl rfl ?_
    refine rn_callP (k' := 19) (y := 265) (vs := [mR 118]) (S' := []) (v := some (mI (1))) (h' := mkh μ2 c s) rfl rfl rfl (hL) ?_
    show Rn PT none kX12_plan 19 [some (mR 118), none] [mI (1)] (mkh μ2 c s) _
    refine rn_if_eq (k' := 20) rfl rfl (fun hc2 => ?_) (fun hc2 => ?_)
    · exfalso; omega
    · skip
      refine rn_aload_n (k' := 21) rfl rfl rfl ?_
      refine rn_bipush (k' := 22) rfl rfl ?_
      refine rn_callP (k' := 23) (y := 179) (vs := [mR 118, mI (59)]) (S' := []) (v := some (mI (1))) (h' := mkh μ3 c s) rfl rfl rfl (hS) ?_
      show Rn PT none kX12_plan 23 [some (mR 118), none] [mI (1)] (mkh μ3 c s) _
      refine rn_if_ne (k' := 24) rfl rfl (fun hc3 => ?_) (fun hc3 => ?_)
      · skip
        refine rn_aload_n (k' := 30) rfl rfl rfl ?_
        refine rn_dupR (k' := 31) rfl rfl ?_
        refine rn_getI (k' := 32) rfl rfl K0_118 (by decide) rfl ?_
        refine rn_iconst (k' := 33) rfl rfl ?_
        refine rn_iadd (k' := 34) rfl rfl (by omega) ?_
        refine rn_putI (k' := 35) rfl rfl K0_118 (by decide) rfl ?_
        refine rn_goto rfl ?_
        exact K
      · exfalso; omega
def FrmQq (ν ν' : Nat → Nat → Int) : Prop := (∀ r, ¬ r = 118 → ¬ r = 122 → ν' r = ν r) ∧ (∀ j, ((22 ≤ j ∧ ¬ j = 41) ∨ j ≤ 3) → ν' 118 j = ν 118 j)
theorem FrmQ.q {ν ν' : Nat → Nat → Int} (h : FrmQ ν ν') : FrmQq ν ν' := ⟨h.1, fun j hj => h.2 j (by omega)⟩
theorem FrmQq.trans {a b d : Nat → Nat → Int} (h : FrmQq a b) (h2 : FrmQq b d) : FrmQq a d := ⟨fun r z1 z2 => (h2.1 r z1 z2).trans (h.1 r z1 z2), fun j hj => (h2.2 j hj).trans (h.2 j hj)⟩
theorem FrmQq.s {a b : Nat → Nat → Int} {i : Nat} {v : Int} (h : FrmQq a b) (hi : ¬ ((22 ≤ i ∧ ¬ i = 41) ∨ i ≤ 3)) : FrmQq a (m_set b 118 i v) := ⟨fun r z1 z2 => (row_set z1).trans (h.1 r z1 z2), fun j hj => (set_mis (show ¬ j = i from fun z => hi (z ▸ hj))).trans (h.2 j hj)⟩
theorem FrmQq.u {a b : Nat → Nat → Int} {H : Nat → Int} (h : FrmQq a b) (hf : FRn H (b 118)) : FrmQq a (m_upd b 118 H) := ⟨fun r z1 z2 => (row_upd z1).trans (h.1 r z1 z2), fun j hj => (hf j (by omega) (by omega) (by omega) (by omega) (by omega) (by omega)).trans (h.2 j hj)⟩
theorem RelD.congr {σ ν σ' ν' : Nat → Nat → Int} (h : RelD σ ν) (e6 : σ' 6 = σ 6) (e11 : σ' 11 = σ 11) (e120 : ν' 120 = ν 120) (e123 : ν' 123 = ν 123) : RelD σ' ν' := by
  unfold RelD
  rw [e6, e11, e120, e123]
  exact h
theorem RelP.more {σ ν : Nat → Nat → Int} {H : Nat → Int} (h : RelP σ ν 1) (hf : FRn H (ν 118)) : RelP (m_set σ 62 0 (σ 62 0 + 1)) (m_set (m_upd ν 118 H) 118 41 (H 41 + 1)) 0 := by
  obtain ⟨⟨p1, p2⟩, hP⟩ := h
  have g41 := hf 41 (by decide) (by decide) (by decide) (by decide) (by decide) (by decide)
  refine ⟨⟨?_, ?_⟩, fun i hi => hP i ?_⟩
  · show 0 ≤ σ 62 0 + 1 ∧ σ 62 0 + 1 + 0 ≤ 30
    omega
  · show H 41 + 1 = σ 62 0 + 1
    omega
  · have hi2 : (i : Int) < σ 62 0 + 1 + 0 := hi
    omega
theorem po_loop {b : Nat → Int} {n m c s : Nat} : ∀ (k p : Nat) (σ ν : Nat → Nat → Int) (i : Int), n - p < k → CSt σ b n m p → MSt ν b n m p → RelP σ ν 0 → RelD σ ν → σ 62 0 = i → I_words σ → ν 124 = σ 124 → σ 3 2 = 0 → ν 118 15 = 0 → ∃ σ' ν', FrmP σ σ' ∧ FrmQq ν ν' ∧
    ((RelP σ' ν' 0 ∧ σ' 3 2 = 0 ∧ ν' 118 15 = 0 ∧ Rn PT none kX5_readPlan 12 [some (mR 3), some (mR 62), some (mR 6), some (mI i)] [] (mkh σ c s) (fun r => r = (some (some (mI (σ' 62 0))), mkh σ' c s)) ∧ (∀ Q : MR → Prop, Rn PT none kX12_plan 36 [some (mR 118), none] [] (mkh ν' c s) Q → Rn PT none kX12_plan 14 [some (mR 118), none] [] (mkh ν c s) Q)) ∨
     (∃ t : Nat, t ≤ 940 ∧ σ' 3 2 = ν' 118 15 ∧ Rn PT none kX5_readPlan 12 [some (mR 3), some (mR 62), some (mR 6), some (mI i)] [] (mkh σ c s) (fun r => r = (some (some (mI (-1 - (t : Int)))), mkh σ' c s)) ∧ Rn PT none kX12_plan 14 [some (mR 118), none] [] (mkh ν c s) (fun r => r = (some (some (mI (-1 - (t : Int)))), mkh ν' c s)))) := by
  intro k
  induction k with
  | zero => intro p σ ν i hk; omega
  | succ k ih =>
    intro p σ ν i hk hC hM hR hD h7 hw h124 h32 h15
    have hRb := hR.1
    have hC2 := hC
    obtain ⟨w2, wn, wp, z1, z2, z3⟩ := hC2
    obtain ⟨A, hA, hT⟩ := g_readToken (c := c) (s := s) hC
    have hi : 0 ≤ i ∧ i ≤ 400 := by omega
    have hA2 := hA
    obtain ⟨t1, t2, t3, t4, t5, t6⟩ := hA2
    have hM2 := hM
    obtain ⟨_, _, _, _, _, _, m12, m11, _, m17, _, _⟩ := hM2
    have cf0 : FrmP σ (m_upd σ 1 A) := FrmP.u FrmP.r (by decide)
    by_cases k4 : tkK b n m p = 4
    · refine ⟨m_upd σ 1 A, ν, cf0, FrmQ.r.q, .inl ⟨hR, h32, h15, pkr_end hi hT (t5.trans k4), fun Q K => pmr_end (m11.trans (mkk_0.mpr k4)) K⟩⟩
    have h5 : ¬ A 5 = 4 := by rw [t5]; exact k4
    have h11 : ¬ ν 118 11 = 0 := by rw [m11]; exact fun z => k4 (mkk_0.mp z)
    have hWK : TokK (m_upd σ 1 A) b n m p := ⟨w2, wn, wp, hA⟩
    have hR2 : RelP (m_upd σ 1 A) ν 0 := hR
    have hD2 : RelD (m_upd σ 1 A) ν := hD
    rcases pk_all (c := c) (s := s) hWK hM hR2 hD2 (show I_words (m_upd σ 1 A) from hw) h124 with hg | hb | he
    · obtain ⟨σ', ν', q, ⟨kF, k32⟩, ⟨mF, m15⟩, K, M, kC, mS, kq, kl, kR⟩ := hg
      obtain ⟨H, ⟨hm, hf⟩, hS⟩ := g_sign (c := c) (s := s) mS kq
      have hqn : q ≤ n := mS.2.2.2.1
      have hq2 := tkN_b (b := b) (n := n) (m := m) hqn
      have h41 : ν' 118 41 = ν 118 41 := mF.2 41 (by decide)
      have f41 := kR.1
      have g41 := hf 41 (by decide) (by decide) (by decide) (by decide) (by decide) (by decide)
      have g15 := hf 15 (by decide) (by decide) (by decide) (by decide) (by decide) (by decide)
      have hσ7 : σ' 62 0 = i := by omega
      have hwr : ∀ r, ¬ r = 1 → ¬ r = 3 → (r < 62 ∨ 65 < r) → σ' r = σ r := fun r y1 y2 y3 => (kF r y1 y2 y3).trans (cf0 r y1 y2 y3)
      obtain ⟨σ2, ν2, c2, f2, hz⟩ := ih (tkN b n m q) (m_set σ' 62 0 (σ' 62 0 + 1)) (m_set (m_upd ν' 118 H) 118 41 (H 41 + 1)) (i + 1) (by omega) kC ⟨mS.1, mS.2.1, mS.2.2.1, hq2.2.1, hm⟩ (kR.more hf)
        (hD.congr (hwr 6 (by decide) (by decide) (by decide)) (hwr 11 (by decide) (by decide) (by decide)) (mF.1 120 (by decide) (by decide)) (mF.1 123 (by decide) (by decide))) (show σ' 62 0 + 1 = i + 1 by omega)
        (fun w hw2 => by have z := hw w hw2; rw [← hwr 4 (by decide) (by decide) (by decide), ← hwr 124 (by decide) (by decide) (by decide)] at z; exact z)
        (show ν' 124 = σ' 124 by rw [mF.1 124 (by decide) (by decide), hwr 124 (by decide) (by decide) (by decide)]; exact h124)
        (show σ' 3 2 = 0 from k32.trans h32) (show H 15 = 0 from g15.trans (m15.trans h15))
      have cft : FrmP σ σ2 := (cf0.trans (kF.trans (FrmP.s FrmP.r (by decide)))).trans c2
      have mft : FrmQq ν ν2 := ((mF.q.u hf).s (by decide)).trans f2
      have hK := @pkr_ok σ c s A i hi hT h5 σ' K (by omega)
      have hMk := @pmr_ok ν c s h11 ν' M (m_upd ν' 118 H) hS (show 0 ≤ H 41 ∧ H 41 ≤ 900 by omega)
      refine ⟨σ2, ν2, cft, mft, ?_⟩
      rcases hz with ⟨r1, r2, r3, r5, r6⟩ | ⟨t, r1, r2, r3, r4⟩
      · exact .inl ⟨r1, r2, r3, hK r5, fun Q KQ => hMk (r6 Q KQ)⟩
      · exact .inr ⟨t, r1, r2, hK r3, hMk r4⟩
    · obtain ⟨σ', ν', t, kF, mF, K, M, he, ht, k1, k2⟩ := hb
      have zk := pkr_bad (i := i) hi hT h5 K (by omega)
      have zm := pmr_bad (c := c) (s := s) h11 M (by omega)
      rw [k1] at zk
      rw [k2] at zm
      exact ⟨σ', ν', cf0.trans kF, mF.q, .inr ⟨t, ht, he, zk, zm⟩⟩
    · obtain ⟨σ', ν', q, kF, mF, K, M, mS, kq, k1, k2⟩ := he
      have hqn : tkP b n m q ≤ n := tkP_b mS.2.2.2.1
      have zk := pkr_bad (i := i) hi hT h5 K (by omega)
      have zm := pmr_sgn (c := c) (s := s) h11 M (g_signX mS kq) (show 0 ≤ ((tkP b n m q : Nat) : Int) ∧ ((tkP b n m q : Nat) : Int) ≤ 940 by omega)
      rw [k2] at zk
      exact ⟨σ', m_set (m_set ν' 118 15 1) 118 16 ((tkP b n m q : Nat) : Int), cf0.trans kF, (mF.q.s (by decide)).s (by decide), .inr ⟨tkP b n m q, by omega, k1, zk, zm⟩⟩
