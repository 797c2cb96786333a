variable {N : Int}
/-! ===== printed by wip/whole/gen9f.py: a line of a moor on both sides ===== -/
/-- what the class has read of a moor, against what the model has read; d: lines being read -/
def RelN (σ ν : Nat → Nat → Int) (d : Int) : Prop := (0 ≤ σ 54 8 ∧ σ 54 8 ≤ 10) ∧ (0 ≤ σ 54 9 ∧ σ 54 9 ≤ 10) ∧ (1 ≤ σ 54 10 ∧ σ 54 10 ≤ 99) ∧ (0 ≤ σ 54 11 ∧ σ 54 11 ≤ 99) ∧ (0 ≤ σ 54 12 ∧ σ 54 12 ≤ 99) ∧ (0 ≤ σ 54 13 ∧ σ 54 13 ≤ 8) ∧ (-1 ≤ σ 54 14 ∧ σ 54 14 ≤ 99) ∧ (0 ≤ σ 54 15 ∧ σ 54 15 ≤ 99) ∧
  ν 121 0 = σ 54 8 ∧ ν 121 1 = σ 54 9 ∧ ν 121 2 = σ 54 10 ∧ ν 121 3 = σ 54 11 ∧ ν 121 4 = σ 54 12 ∧ ν 121 8 = σ 54 13 ∧ ν 121 499 = σ 54 14 + 1 ∧ ν 121 500 = σ 54 15 ∧
  (σ 54 16 = 0 ∨ σ 54 16 = 1) ∧ (σ 54 17 = 0 ∨ σ 54 17 = 1) ∧ (σ 54 14 = -1 → ν 118 20 = σ 54 16 + 2 * σ 54 17) ∧ (¬ σ 54 14 = -1 → ν 118 20 = σ 54 16 + 2 * σ 54 17 + 4) ∧
  ν 118 19 = σ 54 7 ∧ ((ν 118 21 = 1 ∧ σ 54 9 < σ 54 7 + d) ∨ (ν 118 21 = 0 ∧ σ 54 9 = σ 54 7 + d)) ∧ (σ 54 9 = 0 ∨ 2 ≤ σ 54 8) ∧ (σ 54 14 = -1 ∨ (σ 54 14 % 10 < σ 54 8 ∧ σ 54 14 / 10 < σ 54 9)) ∧ 0 ≤ σ 54 7
def RelL (σ ν : Nat → Nat → Int) (d : Int) : Prop := RelN σ ν d ∧
  (∀ k, k < 3 → (0 ≤ σ 57 k ∧ σ 57 k ≤ 12) ∧ ν 121 (5 + k) = σ 57 k) ∧
  (∀ j, j < 300 → (-1 ≤ σ 56 j ∧ σ 56 j ≤ 99) ∧ ν 121 (109 + j) = σ 56 j + 1) ∧
  (∀ j, j < 90 → (-1 ≤ σ 58 j ∧ σ 58 j ≤ 99) ∧ ν 121 (409 + j) = σ 58 j + 1) ∧
  (∀ j : Nat, ((j % 10 : Nat) : Int) < σ 54 8 → ((j / 10 : Nat) : Int) < σ 54 9 → ν 121 (9 + j) = σ 55 j) ∧
  (∀ j : Nat, (j : Int) < σ 54 13 → (ν 121 (501 + j) = σ 60 j ∧ ν 121 (509 + j) = σ 61 j ∧ (0 ≤ σ 60 j ∧ σ 60 j % 10 < σ 54 8 ∧ σ 60 j / 10 < σ 54 9)) ∧ Nm (σ 59 j) (ν 123 (8 + j)))
def TokK (σ : Nat → Nat → Int) (b : Nat → Int) (n m p : Nat) : Prop := σ 2 = b ∧ n ≤ 940 ∧ p ≤ n ∧ CTk b n m p (σ 1)
/-- a line is read by both: both good; both at fault; the class at fault at the end, which the model reads later -/
def LokMg (σ ν : Nat → Nat → Int) (b : Nat → Int) (n m p c s : Nat) : Prop := ∃ σ' ν' q, CFo σ σ' ∧ MFo ν ν' ∧ Cl PT 51 [mR 3, mR 54] (mkh σ c s) (fun r => r = (some (some (mI 1)), mkh σ' c s)) ∧ Cl PT 183 [mR 118] (mkh ν c s) (fun r => r = (some (some (mI 1)), mkh ν' c s)) ∧ CSt σ' b n m (tkN b n m q) ∧ MSt ν' b n m q ∧ tkK b n m q = 3 ∧ p + 2 ≤ tkN b n m q ∧ RelL σ' ν' 1
def LokMb (σ ν : Nat → Nat → Int) (c s : Nat) : Prop := ∃ σ' ν', ∃ t : Nat, CF σ σ' ∧ MFr ν ν' ∧ Cl PT 51 [mR 3, mR 54] (mkh σ c s) (fun r => r = (some (some (mI 0)), mkh σ' c s)) ∧ Cl PT 183 [mR 118] (mkh ν c s) (fun r => r = (some (some (mI 0)), mkh ν' c s)) ∧ σ' 3 2 = ν' 118 15 ∧ t ≤ 940 ∧ σ' 1 4 = (t : Int) ∧ ν' 118 16 = (t : Int)
def LokMe (σ ν : Nat → Nat → Int) (b : Nat → Int) (n m c s : Nat) : Prop := ∃ σ' ν' q, CF σ σ' ∧ MFr ν ν' ∧ Cl PT 51 [mR 3, mR 54] (mkh σ c s) (fun r => r = (some (some (mI 0)), mkh σ' c s)) ∧ Cl PT 183 [mR 118] (mkh ν c s) (fun r => r = (some (some (mI 1)), mkh ν' c s)) ∧ MSt ν' b n m q ∧ ¬ tkK b n m q = 3 ∧ σ' 3 2 = 1 ∧ σ' 1 4 = ((tkP b n m q : Nat) : Int)
def LokM (σ ν : Nat → Nat → Int) (b : Nat → Int) (n m p c s : Nat) : Prop := LokMg σ ν b n m p c s ∨ LokMb σ ν c s ∨ LokMe σ ν b n m c s
theorem tkP_b {b : Nat → Int} {n m p : Nat} (hp : p ≤ n) : tkP b n m p ≤ n := by
  have h1 : tq b n p ≤ p + (n - p) := (tsk_b (b := b) (n - p) p).2.1
  unfold tkP
  by_cases c1 : m < n ∧ m ≤ tq b n p
  · rw [if_pos c1]; omega
  · rw [if_neg c1]; omega
theorem LokM.b {σ ν : Nat → Nat → Int} {b : Nat → Int} {n m p c s : Nat} {e : Int} {t : Nat} (ht : t ≤ 940) (k : ∃ σ', (σ' 3 2 = e ∧ σ' 1 4 = (t : Int) ∧ CF σ σ') ∧ Cl PT 51 [mR 3, mR 54] (mkh σ c s) (fun r => r = (some (some (mI 0)), mkh σ' c s))) (h : ∃ ν', (ν' 118 15 = e ∧ ν' 118 16 = (t : Int) ∧ MFr ν ν') ∧ Cl PT 183 [mR 118] (mkh ν c s) (fun r => r = (some (some (mI 0)), mkh ν' c s))) : LokM σ ν b n m p c s := by
  obtain ⟨σ', ⟨k1, k2, k3⟩, k4⟩ := k
  obtain ⟨ν', ⟨h1, h2, h3⟩, h4⟩ := h
  exact .inr (.inl ⟨σ', ν', t, k3, h3, k4, h4, k1.trans h1.symm, ht, k2, h2⟩)
theorem LokM.e {σ ν : Nat → Nat → Int} {b : Nat → Int} {n m p c s q : Nat} {R : (Nat → Nat → Int) → Prop} (k : ∃ σ', (σ' 3 2 = 1 ∧ σ' 1 4 = ((tkP b n m q : Nat) : Int) ∧ CF σ σ') ∧ Cl PT 51 [mR 3, mR 54] (mkh σ c s) (fun r => r = (some (some (mI 0)), mkh σ' c s))) (hq : ¬ tkK b n m q = 3) (h : ∃ ν', (MSt ν' b n m q ∧ MFo ν ν' ∧ R ν') ∧ Cl PT 183 [mR 118] (mkh ν c s) (fun r => r = (some (some (mI 1)), mkh ν' c s))) : LokM σ ν b n m p c s := by
  obtain ⟨σ', ⟨k1, k2, k3⟩, k4⟩ := k
  obtain ⟨ν', ⟨h1, h2, _⟩, h4⟩ := h
  exact .inr (.inr ⟨σ', ν', q, k3, h2.1, k4, h4, h1, hq, k1, k2⟩)
theorem D0 {σ : Nat → Nat → Int} {c s : Nat} {v : Int} {P : (Nat → Nat → Int) → Prop} (h5 : σ 1 5 = 1) (hx : ix (σ 4) (σ 1 6) 16 0 = 0) (hv : v = 0 ∨ v = 1) (K : ∃ σ', P σ' ∧ Cl PT 52 [mR 3, mR 54] (mkh σ c s) (fun r => r = (some (some (mI v)), mkh σ' c s))) : ∃ σ', P σ' ∧ Cl PT 51 [mR 3, mR 54] (mkh σ c s) (fun r => r = (some (some (mI v)), mkh σ' c s)) := by
  obtain ⟨σ', h, K⟩ := K
  exact ⟨σ', h, d_line0 h5 hx K hv⟩
theorem D1 {σ : Nat → Nat → Int} {c s : Nat} {v : Int} {P : (Nat → Nat → Int) → Prop} (h5 : σ 1 5 = 1) (hx : ix (σ 4) (σ 1 6) 16 0 = 1) (hv : v = 0 ∨ v = 1) (K : ∃ σ', P σ' ∧ Cl PT 53 [mR 3, mR 54] (mkh σ c s) (fun r => r = (some (some (mI v)), mkh σ' c s))) : ∃ σ', P σ' ∧ Cl PT 51 [mR 3, mR 54] (mkh σ c s) (fun r => r = (some (some (mI v)), mkh σ' c s)) := by
  obtain ⟨σ', h, K⟩ := K
  exact ⟨σ', h, d_line1 h5 hx K hv⟩
theorem D2 {σ : Nat → Nat → Int} {c s : Nat} {v : Int} {P : (Nat → Nat → Int) → Prop} (h5 : σ 1 5 = 1) (hx : ix (σ 4) (σ 1 6) 16 0 = 2) (hv : v = 0 ∨ v = 1) (K : ∃ σ', P σ' ∧ Cl PT 54 [mR 3, mR 54] (mkh σ c s) (fun r => r = (some (some (mI v)), mkh σ' c s))) : ∃ σ', P σ' ∧ Cl PT 51 [mR 3, mR 54] (mkh σ c s) (fun r => r = (some (some (mI v)), mkh σ' c s)) := by
  obtain ⟨σ', h, K⟩ := K
  exact ⟨σ', h, d_line2 h5 hx K hv⟩
theorem D3 {σ : Nat → Nat → Int} {c s : Nat} {v : Int} {P : (Nat → Nat → Int) → Prop} (h5 : σ 1 5 = 1) (hx : ix (σ 4) (σ 1 6) 16 0 = 3) (hv : v = 0 ∨ v = 1) (K : ∃ σ', P σ' ∧ Cl PT 55 [mR 3, mR 54, mI (0)] (mkh σ c s) (fun r => r = (some (some (mI v)), mkh σ' c s))) : ∃ σ', P σ' ∧ Cl PT 51 [mR 3, mR 54] (mkh σ c s) (fun r => r = (some (some (mI v)), mkh σ' c s)) := by
  obtain ⟨σ', h, K⟩ := K
  exact ⟨σ', h, d_line3 h5 hx K hv⟩
theorem D4 {σ : Nat → Nat → Int} {c s : Nat} {v : Int} {P : (Nat → Nat → Int) → Prop} (h5 : σ 1 5 = 1) (hx : ix (σ 4) (σ 1 6) 16 0 = 4) (hv : v = 0 ∨ v = 1) (K : ∃ σ', P σ' ∧ Cl PT 55 [mR 3, mR 54, mI (1)] (mkh σ c s) (fun r => r = (some (some (mI v)), mkh σ' c s))) : ∃ σ', P σ' ∧ Cl PT 51 [mR 3, mR 54] (mkh σ c s) (fun r => r = (some (some (mI v)), mkh σ' c s)) := by
  obtain ⟨σ', h, K⟩ := K
  exact ⟨σ', h, d_line4 h5 hx K hv⟩
theorem D5 {σ : Nat → Nat → Int} {c s : Nat} {v : Int} {P : (Nat → Nat → Int) → Prop} (h5 : σ 1 5 = 1) (hx : ix (σ 4) (σ 1 6) 16 0 = 5) (hv : v = 0 ∨ v = 1) (K : ∃ σ', P σ' ∧ Cl PT 55 [mR 3, mR 54, mI (2)] (mkh σ c s) (fun r => r = (some (some (mI v)), mkh σ' c s))) : ∃ σ', P σ' ∧ Cl PT 51 [mR 3, mR 54] (mkh σ c s) (fun r => r = (some (some (mI v)), mkh σ' c s)) := by
  obtain ⟨σ', h, K⟩ := K
  exact ⟨σ', h, d_line5 h5 hx K hv⟩
theorem D6 {σ : Nat → Nat → Int} {c s : Nat} {v : Int} {P : (Nat → Nat → Int) → Prop} (h5 : σ 1 5 = 1) (hx : ix (σ 4) (σ 1 6) 16 0 = 6) (hv : v = 0 ∨ v = 1) (K : ∃ σ', P σ' ∧ Cl PT 56 [mR 3, mR 54, mI (0)] (mkh σ c s) (fun r => r = (some (some (mI v)), mkh σ' c s))) : ∃ σ', P σ' ∧ Cl PT 51 [mR 3, mR 54] (mkh σ c s) (fun r => r = (some (some (mI v)), mkh σ' c s)) := by
  obtain ⟨σ', h, K⟩ := K
  exact ⟨σ', h, d_line6 h5 hx K hv⟩
theorem D7 {σ : Nat → Nat → Int} {c s : Nat} {v : Int} {P : (Nat → Nat → Int) → Prop} (h5 : σ 1 5 = 1) (hx : ix (σ 4) (σ 1 6) 16 0 = 7) (hv : v = 0 ∨ v = 1) (K : ∃ σ', P σ' ∧ Cl PT 56 [mR 3, mR 54, mI (1)] (mkh σ c s) (fun r => r = (some (some (mI v)), mkh σ' c s))) : ∃ σ', P σ' ∧ Cl PT 51 [mR 3, mR 54] (mkh σ c s) (fun r => r = (some (some (mI v)), mkh σ' c s)) := by
  obtain ⟨σ', h, K⟩ := K
  exact ⟨σ', h, d_line7 h5 hx K hv⟩
theorem D8 {σ : Nat → Nat → Int} {c s : Nat} {v : Int} {P : (Nat → Nat → Int) → Prop} (h5 : σ 1 5 = 1) (hx : ix (σ 4) (σ 1 6) 16 0 = 8) (hv : v = 0 ∨ v = 1) (K : ∃ σ', P σ' ∧ Cl PT 56 [mR 3, mR 54, mI (2)] (mkh σ c s) (fun r => r = (some (some (mI v)), mkh σ' c s))) : ∃ σ', P σ' ∧ Cl PT 51 [mR 3, mR 54] (mkh σ c s) (fun r => r = (some (some (mI v)), mkh σ' c s)) := by
  obtain ⟨σ', h, K⟩ := K
  exact ⟨σ', h, d_line8 h5 hx K hv⟩
theorem D9 {σ : Nat → Nat → Int} {c s : Nat} {v : Int} {P : (Nat → Nat → Int) → Prop} (h5 : σ 1 5 = 1) (hx : ix (σ 4) (σ 1 6) 16 0 = 9) (hv : v = 0 ∨ v = 1) (K : ∃ σ', P σ' ∧ Cl PT 57 [mR 3, mR 54] (mkh σ c s) (fun r => r = (some (some (mI v)), mkh σ' c s))) : ∃ σ', P σ' ∧ Cl PT 51 [mR 3, mR 54] (mkh σ c s) (fun r => r = (some (some (mI v)), mkh σ' c s)) := by
  obtain ⟨σ', h, K⟩ := K
  exact ⟨σ', h, d_line9 h5 hx K hv⟩
theorem D10 {σ : Nat → Nat → Int} {c s : Nat} {v : Int} {P : (Nat → Nat → Int) → Prop} (h5 : σ 1 5 = 1) (hx : ix (σ 4) (σ 1 6) 16 0 = 10) (hv : v = 0 ∨ v = 1) (K : ∃ σ', P σ' ∧ Cl PT 58 [mR 3, mR 54] (mkh σ c s) (fun r => r = (some (some (mI v)), mkh σ' c s))) : ∃ σ', P σ' ∧ Cl PT 51 [mR 3, mR 54] (mkh σ c s) (fun r => r = (some (some (mI v)), mkh σ' c s)) := by
  obtain ⟨σ', h, K⟩ := K
  exact ⟨σ', h, d_line10 h5 hx K hv⟩
theorem E0 {ν : Nat → Nat → Int} {c s : Nat} {v : Int} {P : (Nat → Nat → Int) → Prop} (h11 : ν 118 11 = 1) (h17 : ν 118 17 = 7499639) (hv : v = 0 ∨ v = 1) (K : ∃ ν', P ν' ∧ Cl PT 185 [mR 118] (mkh ν c s) (fun r => r = (some (some (mI v)), mkh ν' c s))) : ∃ ν', P ν' ∧ Cl PT 183 [mR 118] (mkh ν c s) (fun r => r = (some (some (mI v)), mkh ν' c s)) := by
  obtain ⟨ν', h, K⟩ := K
  exact ⟨ν', h, e_line0 h11 h17 (b_line0 hv K)⟩
theorem E1 {ν : Nat → Nat → Int} {c s : Nat} {v : Int} {P : (Nat → Nat → Int) → Prop} (h11 : ν 118 11 = 1) (h17 : ν 118 17 = 7102839) (K : Rn PT none kX12_line 11 [some (mR 118)] [] (mkh ν c s) (fun r => ∃ ν', r = (some (some (mI v)), mkh ν' c s) ∧ P ν')) : ∃ ν', P ν' ∧ Cl PT 183 [mR 118] (mkh ν c s) (fun r => r = (some (some (mI v)), mkh ν' c s)) := Cl.ex (g := fun ν' => (some (some (mI v)), mkh ν' c s)) (e_line1 h11 h17 K)
theorem E2 {ν : Nat → Nat → Int} {c s : Nat} {v : Int} {P : (Nat → Nat → Int) → Prop} (h11 : ν 118 11 = 1) (h17 : ν 118 17 = 127996155553138) (K : Rn PT none kX12_line 49 [some (mR 118)] [] (mkh ν c s) (fun r => ∃ ν', r = (some (some (mI v)), mkh ν' c s) ∧ P ν')) : ∃ ν', P ν' ∧ Cl PT 183 [mR 118] (mkh ν c s) (fun r => r = (some (some (mI v)), mkh ν' c s)) := Cl.ex (g := fun ν' => (some (some (mI v)), mkh ν' c s)) (e_line2 h11 h17 K)
theorem E3 {ν : Nat → Nat → Int} {c s : Nat} {v : Int} {P : (Nat → Nat → Int) → Prop} (h11 : ν 118 11 = 1) (h17 : ν 118 17 = 512736126322) (hv : v = 0 ∨ v = 1) (K : ∃ ν', P ν' ∧ Cl PT 186 [mR 118, mI 0] (mkh ν c s) (fun r => r = (some (some (mI v)), mkh ν' c s))) : ∃ ν', P ν' ∧ Cl PT 183 [mR 118] (mkh ν c s) (fun r => r = (some (some (mI v)), mkh ν' c s)) := by
  obtain ⟨ν', h, K⟩ := K
  exact ⟨ν', h, e_line3 h11 h17 (b_line3 hv K)⟩
theorem E4 {ν : Nat → Nat → Int} {c s : Nat} {v : Int} {P : (Nat → Nat → Int) → Prop} (h11 : ν 118 11 = 1) (h17 : ν 118 17 = 2003398244) (hv : v = 0 ∨ v = 1) (K : ∃ ν', P ν' ∧ Cl PT 186 [mR 118, mI 1] (mkh ν c s) (fun r => r = (some (some (mI v)), mkh ν' c s))) : ∃ ν', P ν' ∧ Cl PT 183 [mR 118] (mkh ν c s) (fun r => r = (some (some (mI v)), mkh ν' c s)) := by
  obtain ⟨ν', h, K⟩ := K
  exact ⟨ν', h, e_line4 h11 h17 (b_line4 hv K)⟩
theorem E5 {ν : Nat → Nat → Int} {c s : Nat} {v : Int} {P : (Nat → Nat → Int) → Prop} (h11 : ν 118 11 = 1) (h17 : ν 118 17 = 6713191) (hv : v = 0 ∨ v = 1) (K : ∃ ν', P ν' ∧ Cl PT 186 [mR 118, mI 2] (mkh ν c s) (fun r => r = (some (some (mI v)), mkh ν' c s))) : ∃ ν', P ν' ∧ Cl PT 183 [mR 118] (mkh ν c s) (fun r => r = (some (some (mI v)), mkh ν' c s)) := by
  obtain ⟨ν', h, K⟩ := K
  exact ⟨ν', h, e_line5 h11 h17 (b_line5 hv K)⟩
theorem E6 {ν : Nat → Nat → Int} {c s : Nat} {v : Int} {P : (Nat → Nat → Int) → Prop} (h11 : ν 118 11 = 1) (h17 : ν 118 17 = 1685024626) (hv : v = 0 ∨ v = 1) (K : ∃ ν', P ν' ∧ Cl PT 188 [mR 118, mI 109, mI 5] (mkh ν c s) (fun r => r = (some (some (mI v)), mkh ν' c s))) : ∃ ν', P ν' ∧ Cl PT 183 [mR 118] (mkh ν c s) (fun r => r = (some (some (mI v)), mkh ν' c s)) := by
  obtain ⟨ν', h, K⟩ := K
  exact ⟨ν', h, e_line6 h11 h17 (b_line6 hv K)⟩
theorem E7 {ν : Nat → Nat → Int} {c s : Nat} {v : Int} {P : (Nat → Nat → Int) → Prop} (h11 : ν 118 11 = 1) (h17 : ν 118 17 = 7173476) (hv : v = 0 ∨ v = 1) (K : ∃ ν', P ν' ∧ Cl PT 188 [mR 118, mI 209, mI 6] (mkh ν c s) (fun r => r = (some (some (mI v)), mkh ν' c s))) : ∃ ν', P ν' ∧ Cl PT 183 [mR 118] (mkh ν c s) (fun r => r = (some (some (mI v)), mkh ν' c s)) := by
  obtain ⟨ν', h, K⟩ := K
  exact ⟨ν', h, e_line7 h11 h17 (b_line7 hv K)⟩
theorem E8 {ν : Nat → Nat → Int} {c s : Nat} {v : Int} {P : (Nat → Nat → Int) → Prop} (h11 : ν 118 11 = 1) (h17 : ν 118 17 = 119165551928690) (hv : v = 0 ∨ v = 1) (K : ∃ ν', P ν' ∧ Cl PT 188 [mR 118, mI 309, mI 7] (mkh ν c s) (fun r => r = (some (some (mI v)), mkh ν' c s))) : ∃ ν', P ν' ∧ Cl PT 183 [mR 118] (mkh ν c s) (fun r => r = (some (some (mI v)), mkh ν' c s)) := by
  obtain ⟨ν', h, K⟩ := K
  exact ⟨ν', h, e_line8 h11 h17 (b_line8 hv K)⟩
theorem E9 {ν : Nat → Nat → Int} {c s : Nat} {v : Int} {P : (Nat → Nat → Int) → Prop} (h11 : ν 118 11 = 1) (h17 : ν 118 17 = 1751478884) (hv : v = 0 ∨ v = 1) (K : ∃ ν', P ν' ∧ Cl PT 189 [mR 118] (mkh ν c s) (fun r => r = (some (some (mI v)), mkh ν' c s))) : ∃ ν', P ν' ∧ Cl PT 183 [mR 118] (mkh ν c s) (fun r => r = (some (some (mI v)), mkh ν' c s)) := by
  obtain ⟨ν', h, K⟩ := K
  exact ⟨ν', h, e_line9 h11 h17 (b_line9 hv K)⟩
theorem E10 {ν : Nat → Nat → Int} {c s : Nat} {v : Int} {P : (Nat → Nat → Int) → Prop} (h11 : ν 118 11 = 1) (h17 : ν 118 17 = 2003790950) (K : Rn PT none kX12_line 136 [some (mR 118)] [] (mkh ν c s) (fun r => ∃ ν', r = (some (some (mI v)), mkh ν' c s) ∧ P ν')) : ∃ ν', P ν' ∧ Cl PT 183 [mR 118] (mkh ν c s) (fun r => r = (some (some (mI v)), mkh ν' c s)) := Cl.ex (g := fun ν' => (some (some (mI v)), mkh ν' c s)) (e_line10 h11 h17 K)
theorem jlt30 {v : Int} {j : Nat} (h : v = (j : Int)) (h2 : v ≤ 29) : j < 30 := by omega
theorem natOf {a : Int} (h : 0 ≤ a) : ∃ k : Nat, a = (k : Int) := ⟨a.toNat, (Int.toNat_of_nonneg h).symm⟩
theorem cellN {x y c r : Int} (c8 : 0 ≤ c ∧ c ≤ 10) (c9 : 0 ≤ r ∧ r ≤ 10) (q0 : 0 ≤ x ∧ x ≤ c - 1) (q1 : 0 ≤ y ∧ y ≤ r - 1) : ∃ j0 : Nat, 10 * y + x = (j0 : Int) ∧ j0 < 100 := ⟨(10 * y + x).toNat, by omega, by omega⟩
theorem cellG {x y c r : Int} (c8 : 0 ≤ c ∧ c ≤ 10) (c9 : 0 ≤ r ∧ r ≤ 10) (q0 : 0 ≤ x ∧ x ≤ c - 1) (q1 : 0 ≤ y ∧ y ≤ r - 1) : (0 ≤ 10 * y + x ∧ 10 * y + x ≤ 99) ∧ (10 * y + x) % 10 < c ∧ (10 * y + x) / 10 < r := by omega
theorem posOf {a b : Int} (h : (-1 ≤ a ∧ a ≤ 99) ∧ b = a + 1) (hn : ¬ a = -1) : 0 < b := by omega
theorem notPos {a b : Int} (h : (-1 ≤ a ∧ a ≤ 99) ∧ b = a + 1) (hn : a = -1) : ¬ 0 < b := by omega
theorem full12 {a b : Int} (h : (0 ≤ a ∧ a ≤ 12) ∧ b = a) (hf : ¬ ¬ 12 ≤ a) : b = 12 := by omega
theorem notF12 {a b : Int} (h : (0 ≤ a ∧ a ≤ 12) ∧ b = a) (hf : ¬ 12 ≤ a) : ¬ b = 12 := by omega
theorem lenTwo {b : Nat → Int} {n m p q : Nat} (wp : p ≤ n) (hk : tkK b n m p = 1) (h1 : tkN b n m p ≤ q) (hq : q ≤ n) (h3 : tkK b n m q = 3) : p + 2 ≤ tkN b n m q := by
  have a1 := (tkN_b (b := b) (n := n) (m := m) wp).2.2 (by rw [hk]; decide) (by rw [hk]; decide)
  have a2 := (tkN_b (b := b) (n := n) (m := m) hq).2.2 (by rw [h3]; decide) (by rw [h3]; decide)
  omega
theorem bitsO {a b w x : Int} (h16 : a = 0 ∨ a = 1) (h17 : b = 0 ∨ b = 1) (h1 : w = -1 → x = a + 2 * b) (h2 : ¬ w = -1 → x = a + 2 * b + 4) : ∃ O : Nat, x = (O : Int) ∧ O < 8 ∧ (a = 0 → O / 2 ^ 0 % 2 = 0) ∧ (¬ a = 0 → O / 2 ^ 0 % 2 = 1) ∧ (b = 0 → O / 2 ^ 1 % 2 = 0) ∧ (¬ b = 0 → O / 2 ^ 1 % 2 = 1) ∧ (w = -1 → O / 2 ^ 2 % 2 = 0) ∧ (¬ w = -1 → O / 2 ^ 2 % 2 = 1) := by
  by_cases hw : w = -1
  · have hx := h1 hw
    rcases h16 with ha | ha <;> rcases h17 with hb | hb <;> rw [ha, hb] at hx
    · exact ⟨0, hx, by decide, fun _ => rfl, fun z => absurd ha z, fun _ => rfl, fun z => absurd hb z, fun _ => rfl, fun z => absurd hw z⟩
    · exact ⟨2, hx, by decide, fun _ => rfl, fun z => absurd ha z, fun z => absurd (hb.symm.trans z) (by decide), fun _ => rfl, fun _ => rfl, fun z => absurd hw z⟩
    · exact ⟨1, hx, by decide, fun z => absurd (ha.symm.trans z) (by decide), fun _ => rfl, fun _ => rfl, fun z => absurd hb z, fun _ => rfl, fun z => absurd hw z⟩
    · exact ⟨3, hx, by decide, fun z => absurd (ha.symm.trans z) (by decide), fun _ => rfl, fun z => absurd (hb.symm.trans z) (by decide), fun _ => rfl, fun _ => rfl, fun z => absurd hw z⟩
  · have hx := h2 hw
    rcases h16 with ha | ha <;> rcases h17 with hb | hb <;> rw [ha, hb] at hx
    · exact ⟨4, hx, by decide, fun _ => rfl, fun z => absurd ha z, fun _ => rfl, fun z => absurd hb z, fun z => absurd z hw, fun _ => rfl⟩
    · exact ⟨6, hx, by decide, fun _ => rfl, fun z => absurd ha z, fun z => absurd (hb.symm.trans z) (by decide), fun _ => rfl, fun z => absurd z hw, fun _ => rfl⟩
    · exact ⟨5, hx, by decide, fun z => absurd (ha.symm.trans z) (by decide), fun _ => rfl, fun _ => rfl, fun z => absurd hb z, fun z => absurd z hw, fun _ => rfl⟩
    · exact ⟨7, hx, by decide, fun z => absurd (ha.symm.trans z) (by decide), fun _ => rfl, fun z => absurd (hb.symm.trans z) (by decide), fun _ => rfl, fun z => absurd z hw, fun _ => rfl⟩
set_option maxHeartbeats 1000000 in
theorem rel_law {σ ν σ' ν' : Nat → Nat → Int} (hR : RelL σ ν 0) (s19 : ν' 118 19 = ν 118 19) {O : Nat} {V W : Int} (q0 : 1 ≤ V ∧ V ≤ 99) (q1 : 0 ≤ W ∧ W ≤ 99) (g16 : σ 54 16 = 0) (hO : ν 118 20 = (O : Int)) (a10 : σ' 54 10 = V) (a11 : σ' 54 11 = W) (a16 : σ' 54 16 = 1) (f54 : ∀ j, ¬ j = 10 → ¬ j = 11 → ¬ j = 16 → σ' 54 j = σ 54 j) (f55 : σ' 55 = σ 55) (f56 : σ' 56 = σ 56) (f57 : σ' 57 = σ 57) (f58 : σ' 58 = σ 58) (f59 : σ' 59 = σ 59) (f60 : σ' 60 = σ 60) (f61 : σ' 61 = σ 61) (b20 : ν' 118 20 = ((O + 2 ^ 0 : Nat) : Int)) (b21 : ν' 118 21 = 1) (b2 : ν' 121 2 = V) (b3 : ν' 121 3 = W) (f121 : ∀ j, ¬ j = 2 → ¬ j = 3 → ν' 121 j = ν 121 j) (f123 : ν' 123 = ν 123) : RelL σ' ν' 1 := by
  obtain ⟨⟨n1, n2, n3, n4, n5, n6, n7, n8, n9, n10, n11, n12, n13, n14, n15, n16, n17, n18, n19, n20, n21, n22, n23, n24, n25⟩, h57, h56, h58, h55, hH⟩ := hR
  have b20' : ν' 118 20 = ν 118 20 + 1 := by rw [b20, hO]; rfl
  have s7 := f54 7 (by decide) (by decide) (by decide)
  have s8 := f54 8 (by decide) (by decide) (by decide)
  have s9 := f54 9 (by decide) (by decide) (by decide)
  have s12 := f54 12 (by decide) (by decide) (by decide)
  have s13 := f54 13 (by decide) (by decide) (by decide)
  have s14 := f54 14 (by decide) (by decide) (by decide)
  have s15 := f54 15 (by decide) (by decide) (by decide)
  have s17 := f54 17 (by decide) (by decide) (by decide)
  have u0 := f121 0 (by omega) (by omega)
  have u1 := f121 1 (by omega) (by omega)
  have u4 := f121 4 (by omega) (by omega)
  have u8 := f121 8 (by omega) (by omega)
  have u499 := f121 499 (by omega) (by omega)
  have u500 := f121 500 (by omega) (by omega)
  refine ⟨⟨by rw [s8]; exact n1, by rw [s9]; exact n2, by rw [a10]; exact q0, by rw [a11]; exact q1, by rw [s12]; exact n5, by rw [s13]; exact n6, by rw [s14]; exact n7, by rw [s15]; exact n8, by rw [u0, s8]; exact n9, by rw [u1, s9]; exact n10, b2.trans a10.symm, b3.trans a11.symm, by rw [u4, s12]; exact n13, by rw [u8, s13]; exact n14, by rw [u499, s14]; exact n15, by rw [u500, s15]; exact n16, .inr a16, by rw [s17]; exact n18, by omega, by omega, by omega, by omega, by omega, by omega, by rw [s7]; exact n25⟩, ?_, ?_, ?_, ?_, ?_⟩
  · intro k hk3
    have z := h57 k hk3
    rw [f121 (5 + k) (by omega) (by omega), f57]
    exact z
  · intro j hj3
    have z := h56 j hj3
    rw [f121 (109 + j) (by omega) (by omega), f56]
    exact z
  · intro j hj3
    have z := h58 j hj3
    rw [f121 (409 + j) (by omega) (by omega), f58]
    exact z
  · intro j g1 g2
    rw [s8] at g1
    rw [s9] at g2
    have z := h55 j g1 g2
    have hj9 : j < 100 := by omega
    rw [f121 (9 + j) (by omega) (by omega), f55]
    exact z
  · intro j g1
    rw [s13] at g1
    have z := hH j g1
    have hj9 : j < 8 := by omega
    rw [f121 (501 + j) (by omega) (by omega), f121 (509 + j) (by omega) (by omega), f60, f61, f59, f123, s8, s9]
    exact z
set_option maxHeartbeats 1000000 in
theorem lk_law {σ ν : Nat → Nat → Int} {c s : Nat} {b : Nat → Int} {n m p : Nat} (hW : TokK σ b n m p) (hM : MSt ν b n m p) (hk : tkK b n m p = 1) (hR : RelL σ ν 0) (hx : ix (σ 4) (tkV b n m p) 16 0 = 1) (h17 : ν 118 17 = 7102839) : LokM σ ν b n m p c s := by
  obtain ⟨w2, wn, wp, t1, t2, t3, t4, t5, t6⟩ := hW
  have hC : CSt σ b n m (tkN b n m p) := ⟨w2, wn, (tkN_b wp).2.1, t1, t2, t3⟩
  have hR0 := hR
  obtain ⟨⟨n1, n2, n3, n4, n5, n6, n7, n8, n9, n10, n11, n12, n13, n14, n15, n16, n17, n18, n19, n20, n21, n22, n23, n24, n25⟩, h57, h56, h58, h55, hH⟩ := hR
  have h5 : σ 1 5 = 1 := t5.trans hk
  have hx2 : ix (σ 4) (σ 1 6) 16 0 = 1 := by rw [t6]; exact hx
  have hM2 := hM
  obtain ⟨_, _, _, _, _, _, m12, m11, _, m17, _, _⟩ := hM2
  have h11 : ν 118 11 = 1 := m11.trans (mkk_1.mpr hk)
  have c8m : 0 ≤ ν 121 0 ∧ ν 121 0 ≤ 10 := by rw [n9]; exact n1
  have c9m : 0 ≤ ν 121 1 ∧ ν 121 1 ≤ 10 := by rw [n10]; exact n2
  obtain ⟨O, hO, hO8, o0, o0x, o1, o1x, o2, o2x⟩ := bitsO n17 n18 n19 n20
  by_cases g16 : σ 54 16 = 0
  · by_cases e0 : eN b n m (tkN b n m p) 1 99 = 0
    · have q0 := (eN_ok e0).2
      by_cases e1 : eN b n m (tkN b n m (tkN b n m p)) 0 99 = 0
      · have q1 := (eN_ok e1).2
        by_cases e2 : tkK b n m (tkN b n m (tkN b n m (tkN b n m p))) = 3
        · obtain ⟨σ', ⟨kC, kF, a10, a11, a16, f54, f55, f56, f57, f58, f59, f60, f61⟩, K⟩ := (D1 (v := 1) h5 hx2 (.inr rfl) (k_law_ok (hC0 := hC) (h16 := g16) (e0 := e0) (e1 := e1) (e2 := e2)))
          obtain ⟨ν', ⟨mS, mF, b20, b21, b2, b3, f121, f123⟩, M⟩ := (E1 (v := 1) h11 h17 (by have z := m_law_ok (c := c) (s := s) (hM := hM) hk (hO := hO) (hO8 := hO8) (hb := o0 g16) (e0 := e0) (e1 := e1); exact z))
          exact .inl ⟨σ', ν', (tkN b n m (tkN b n m (tkN b n m p))), kF, mF, K, M, kC, mS, e2, (lenTwo wp hk (Nat.le_trans (Nat.le_trans (Nat.le_refl _) (tkN_b (tkN_b wp).2.1).1) (tkN_b (tkN_b (tkN_b wp).2.1).2.1).1) (tkN_b (tkN_b (tkN_b wp).2.1).2.1).2.1 e2), rel_law hR0 (mF.1.2.1 19 (by decide)) q0 q1 g16 hO a10 a11 a16 f54 f55 f56 f57 f58 f59 f60 f61 b20 b21 b2 b3 f121 f123⟩
        · exact LokM.e (D1 (v := 0) h5 hx2 (.inl rfl) (k_law_x2 (hC0 := hC) (h16 := g16) (e0 := e0) (e1 := e1) (e2 := e2))) e2 (E1 (v := 1) h11 h17 (by have z := m_law_ok (c := c) (s := s) (hM := hM) hk (hO := hO) (hO8 := hO8) (hb := o0 g16) (e0 := e0) (e1 := e1); exact z))
      · exact LokM.b (Nat.le_trans (tkP_b (tkN_b (tkN_b wp).2.1).2.1) wn) (D1 (v := 0) h5 hx2 (.inl rfl) (k_law_x1 (hC0 := hC) (h16 := g16) (e0 := e0) (e1 := e1))) (E1 (v := 0) h11 h17 (by have z := m_law_x1 (c := c) (s := s) (hM := hM) hk (hO := hO) (hO8 := hO8) (hb := o0 g16) (e0 := e0) (e1 := e1); exact z))
    · exact LokM.b (Nat.le_trans (tkP_b (tkN_b wp).2.1) wn) (D1 (v := 0) h5 hx2 (.inl rfl) (k_law_x0 (hC0 := hC) (h16 := g16) (e0 := e0))) (E1 (v := 0) h11 h17 (by have z := m_law_x0 (c := c) (s := s) (hM := hM) hk (hO := hO) (hO8 := hO8) (hb := o0 g16) (e0 := e0); exact z))
  · exact LokM.b (Nat.le_trans (tkP_b wp) wn) (D1 (v := 0) h5 hx2 (.inl rfl) (by have z := k_law_had (μ := σ) (c := c) (s := s) g16; rw [t4] at z; exact z)) (E1 (v := 0) h11 h17 (by have z := m_once0_had (c := c) (s := s) (hM := hM) (hO := hO) (hO8 := hO8) (hbt := o0x g16); exact z))
set_option maxHeartbeats 1000000 in
theorem rel_wood {σ ν σ' ν' : Nat → Nat → Int} (hR : RelL σ ν 0) (s19 : ν' 118 19 = ν 118 19) {O : Nat} {V : Int} (q0 : 0 ≤ V ∧ V ≤ 99) (g17 : σ 54 17 = 0) (hO : ν 118 20 = (O : Int)) (a12 : σ' 54 12 = V) (a17 : σ' 54 17 = 1) (f54 : ∀ j, ¬ j = 12 → ¬ j = 17 → σ' 54 j = σ 54 j) (f55 : σ' 55 = σ 55) (f56 : σ' 56 = σ 56) (f57 : σ' 57 = σ 57) (f58 : σ' 58 = σ 58) (f59 : σ' 59 = σ 59) (f60 : σ' 60 = σ 60) (f61 : σ' 61 = σ 61) (b20 : ν' 118 20 = ((O + 2 ^ 1 : Nat) : Int)) (b21 : ν' 118 21 = 1) (b4 : ν' 121 4 = V) (f121 : ∀ j, ¬ j = 4 → ν' 121 j = ν 121 j) (f123 : ν' 123 = ν 123) : RelL σ' ν' 1 := by
  obtain ⟨⟨n1, n2, n3, n4, n5, n6, n7, n8, n9, n10, n11, n12, n13, n14, n15, n16, n17, n18, n19, n20, n21, n22, n23, n24, n25⟩, h57, h56, h58, h55, hH⟩ := hR
  have b20' : ν' 118 20 = ν 118 20 + 2 := by rw [b20, hO]; rfl
  have s7 := f54 7 (by decide) (by decide)
  have s8 := f54 8 (by decide) (by decide)
  have s9 := f54 9 (by decide) (by decide)
  have s10 := f54 10 (by decide) (by decide)
  have s11 := f54 11 (by decide) (by decide)
  have s13 := f54 13 (by decide) (by decide)
  have s14 := f54 14 (by decide) (by decide)
  have s15 := f54 15 (by decide) (by decide)
  have s16 := f54 16 (by decide) (by decide)
  have u0 := f121 0 (by omega)
  have u1 := f121 1 (by omega)
  have u2 := f121 2 (by omega)
  have u3 := f121 3 (by omega)
  have u8 := f121 8 (by omega)
  have u499 := f121 499 (by omega)
  have u500 := f121 500 (by omega)
  refine ⟨⟨by rw [s8]; exact n1, by rw [s9]; exact n2, by rw [s10]; exact n3, by rw [s11]; exact n4, by rw [a12]; exact q0, by rw [s13]; exact n6, by rw [s14]; exact n7, by rw [s15]; exact n8, by rw [u0, s8]; exact n9, by rw [u1, s9]; exact n10, by rw [u2, s10]; exact n11, by rw [u3, s11]; exact n12, b4.trans a12.symm, by rw [u8, s13]; exact n14, by rw [u499, s14]; exact n15, by rw [u500, s15]; exact n16, by rw [s16]; exact n17, .inr a17, by omega, by omega, by omega, by omega, by omega, by omega, by rw [s7]; exact n25⟩, ?_, ?_, ?_, ?_, ?_⟩
  · intro k hk3
    have z := h57 k hk3
    rw [f121 (5 + k) (by omega), f57]
    exact z
  · intro j hj3
    have z := h56 j hj3
    rw [f121 (109 + j) (by omega), f56]
    exact z
  · intro j hj3
    have z := h58 j hj3
    rw [f121 (409 + j) (by omega), f58]
    exact z
  · intro j g1 g2
    rw [s8] at g1
    rw [s9] at g2
    have z := h55 j g1 g2
    have hj9 : j < 100 := by omega
    rw [f121 (9 + j) (by omega), f55]
    exact z
  · intro j g1
    rw [s13] at g1
    have z := hH j g1
    have hj9 : j < 8 := by omega
    rw [f121 (501 + j) (by omega), f121 (509 + j) (by omega), f60, f61, f59, f123, s8, s9]
    exact z
set_option maxHeartbeats 1000000 in
theorem lk_wood {σ ν : Nat → Nat → Int} {c s : Nat} {b : Nat → Int} {n m p : Nat} (hW : TokK σ b n m p) (hM : MSt ν b n m p) (hk : tkK b n m p = 1) (hR : RelL σ ν 0) (hx : ix (σ 4) (tkV b n m p) 16 0 = 2) (h17 : ν 118 17 = 127996155553138) : LokM σ ν b n m p c s := by
  obtain ⟨w2, wn, wp, t1, t2, t3, t4, t5, t6⟩ := hW
  have hC : CSt σ b n m (tkN b n m p) := ⟨w2, wn, (tkN_b wp).2.1, t1, t2, t3⟩
  have hR0 := hR
  obtain ⟨⟨n1, n2, n3, n4, n5, n6, n7, n8, n9, n10, n11, n12, n13, n14, n15, n16, n17, n18, n19, n20, n21, n22, n23, n24, n25⟩, h57, h56, h58, h55, hH⟩ := hR
  have h5 : σ 1 5 = 1 := t5.trans hk
  have hx2 : ix (σ 4) (σ 1 6) 16 0 = 2 := by rw [t6]; exact hx
  have hM2 := hM
  obtain ⟨_, _, _, _, _, _, m12, m11, _, m17, _, _⟩ := hM2
  have h11 : ν 118 11 = 1 := m11.trans (mkk_1.mpr hk)
  have c8m : 0 ≤ ν 121 0 ∧ ν 121 0 ≤ 10 := by rw [n9]; exact n1
  have c9m : 0 ≤ ν 121 1 ∧ ν 121 1 ≤ 10 := by rw [n10]; exact n2
  obtain ⟨O, hO, hO8, o0, o0x, o1, o1x, o2, o2x⟩ := bitsO n17 n18 n19 n20
  by_cases g17 : σ 54 17 = 0
  · by_cases e0 : eN b n m (tkN b n m p) 0 99 = 0
    · have q0 := (eN_ok e0).2
      by_cases e1 : tkK b n m (tkN b n m (tkN b n m p)) = 3
      · obtain ⟨σ', ⟨kC, kF, a12, a17, f54, f55, f56, f57, f58, f59, f60, f61⟩, K⟩ := (D2 (v := 1) h5 hx2 (.inr rfl) (k_wood_ok (hC0 := hC) (h17 := g17) (e0 := e0) (e1 := e1)))
        obtain ⟨ν', ⟨mS, mF, b20, b21, b4, f121, f123⟩, M⟩ := (E2 (v := 1) h11 h17 (by have z := m_wood_ok (c := c) (s := s) (hM := hM) hk (hO := hO) (hO8 := hO8) (hb := o1 g17) (e0 := e0); exact z))
        exact .inl ⟨σ', ν', (tkN b n m (tkN b n m p)), kF, mF, K, M, kC, mS, e1, (lenTwo wp hk (Nat.le_trans (Nat.le_refl _) (tkN_b (tkN_b wp).2.1).1) (tkN_b (tkN_b wp).2.1).2.1 e1), rel_wood hR0 (mF.1.2.1 19 (by decide)) q0 g17 hO a12 a17 f54 f55 f56 f57 f58 f59 f60 f61 b20 b21 b4 f121 f123⟩
      · exact LokM.e (D2 (v := 0) h5 hx2 (.inl rfl) (k_wood_x1 (hC0 := hC) (h17 := g17) (e0 := e0) (e1 := e1))) e1 (E2 (v := 1) h11 h17 (by have z := m_wood_ok (c := c) (s := s) (hM := hM) hk (hO := hO) (hO8 := hO8) (hb := o1 g17) (e0 := e0); exact z))
    · exact LokM.b (Nat.le_trans (tkP_b (tkN_b wp).2.1) wn) (D2 (v := 0) h5 hx2 (.inl rfl) (k_wood_x0 (hC0 := hC) (h17 := g17) (e0 := e0))) (E2 (v := 0) h11 h17 (by have z := m_wood_x0 (c := c) (s := s) (hM := hM) hk (hO := hO) (hO8 := hO8) (hb := o1 g17) (e0 := e0); exact z))
  · exact LokM.b (Nat.le_trans (tkP_b wp) wn) (D2 (v := 0) h5 hx2 (.inl rfl) (by have z := k_wood_had (μ := σ) (c := c) (s := s) g17; rw [t4] at z; exact z)) (E2 (v := 0) h11 h17 (by have z := m_once1_had (c := c) (s := s) (hM := hM) (hO := hO) (hO8 := hO8) (hbt := o1x g17); exact z))
set_option maxHeartbeats 1000000 in
theorem rel_day0 {σ ν σ' ν' : Nat → Nat → Int} (hR : RelL σ ν 0) (s19 : ν' 118 19 = ν 118 19) {j0 : Nat} {V : Int} (hj0 : j0 < 30) (q1 : 0 ≤ V ∧ V ≤ 99) (a58 : σ' 58 (0 + j0) = V) (f58 : ∀ j, ¬ j = (0 + j0) → σ' 58 j = σ 58 j) (g54 : σ' 54 = σ 54) (f55 : σ' 55 = σ 55) (f56 : σ' 56 = σ 56) (f57 : σ' 57 = σ 57) (f59 : σ' 59 = σ 59) (f60 : σ' 60 = σ 60) (f61 : σ' 61 = σ 61) (b20 : ν' 118 20 = ν 118 20) (b21 : ν' 118 21 = 1) (b58 : ν' 121 (409 + j0) = V + 1) (f121 : ∀ j, ¬ j = (409 + j0) → ν' 121 j = ν 121 j) (f123 : ν' 123 = ν 123) : RelL σ' ν' 1 := by
  obtain ⟨⟨n1, n2, n3, n4, n5, n6, n7, n8, n9, n10, n11, n12, n13, n14, n15, n16, n17, n18, n19, n20, n21, n22, n23, n24, n25⟩, h57, h56, h58, h55, hH⟩ := hR
  have f54 := fun j => congrFun g54 j
  have s7 := f54 7
  have s8 := f54 8
  have s9 := f54 9
  have s10 := f54 10
  have s11 := f54 11
  have s12 := f54 12
  have s13 := f54 13
  have s14 := f54 14
  have s15 := f54 15
  have s16 := f54 16
  have s17 := f54 17
  have u0 := f121 0 (by omega)
  have u1 := f121 1 (by omega)
  have u2 := f121 2 (by omega)
  have u3 := f121 3 (by omega)
  have u4 := f121 4 (by omega)
  have u8 := f121 8 (by omega)
  have u499 := f121 499 (by omega)
  have u500 := f121 500 (by omega)
  refine ⟨⟨by rw [s8]; exact n1, by rw [s9]; exact n2, by rw [s10]; exact n3, by rw [s11]; exact n4, by rw [s12]; exact n5, by rw [s13]; exact n6, by rw [s14]; exact n7, by rw [s15]; exact n8, by rw [u0, s8]; exact n9, by rw [u1, s9]; exact n10, by rw [u2, s10]; exact n11, by rw [u3, s11]; exact n12, by rw [u4, s12]; exact n13, by rw [u8, s13]; exact n14, by rw [u499, s14]; exact n15, by rw [u500, s15]; exact n16, by rw [s16]; exact n17, by rw [s17]; exact n18, by omega, by omega, by omega, by omega, by omega, by omega, by rw [s7]; exact n25⟩, ?_, ?_, ?_, ?_, ?_⟩
  · intro k hk3
    have z := h57 k hk3
    rw [f121 (5 + k) (by omega), f57]
    exact z
  · intro j hj3
    have z := h56 j hj3
    rw [f121 (109 + j) (by omega), f56]
    exact z
  · intro j hj3
    have z := h58 j hj3
    by_cases qj : j = (0 + j0)
    · rw [qj, show 409 + (0 + j0) = (409 + j0) by omega, a58, b58]
      exact ⟨⟨by omega, q1.2⟩, rfl⟩
    · rw [f121 (409 + j) (by omega), f58 j qj]
      exact z
  · intro j g1 g2
    rw [s8] at g1
    rw [s9] at g2
    have z := h55 j g1 g2
    have hj9 : j < 100 := by omega
    rw [f121 (9 + j) (by omega), f55]
    exact z
  · intro j g1
    rw [s13] at g1
    have z := hH j g1
    have hj9 : j < 8 := by omega
    rw [f121 (501 + j) (by omega), f121 (509 + j) (by omega), f60, f61, f59, f123, s8, s9]
    exact z
set_option maxHeartbeats 1000000 in
theorem lk_day0 {σ ν : Nat → Nat → Int} {c s : Nat} {b : Nat → Int} {n m p : Nat} (hW : TokK σ b n m p) (hM : MSt ν b n m p) (hk : tkK b n m p = 1) (hR : RelL σ ν 0) (hx : ix (σ 4) (tkV b n m p) 16 0 = 3) (h17 : ν 118 17 = 512736126322) : LokM σ ν b n m p c s := by
  obtain ⟨w2, wn, wp, t1, t2, t3, t4, t5, t6⟩ := hW
  have hC : CSt σ b n m (tkN b n m p) := ⟨w2, wn, (tkN_b wp).2.1, t1, t2, t3⟩
  have hR0 := hR
  obtain ⟨⟨n1, n2, n3, n4, n5, n6, n7, n8, n9, n10, n11, n12, n13, n14, n15, n16, n17, n18, n19, n20, n21, n22, n23, n24, n25⟩, h57, h56, h58, h55, hH⟩ := hR
  have h5 : σ 1 5 = 1 := t5.trans hk
  have hx2 : ix (σ 4) (σ 1 6) 16 0 = 3 := by rw [t6]; exact hx
  have hM2 := hM
  obtain ⟨_, _, _, _, _, _, m12, m11, _, m17, _, _⟩ := hM2
  have h11 : ν 118 11 = 1 := m11.trans (mkk_1.mpr hk)
  have c8m : 0 ≤ ν 121 0 ∧ ν 121 0 ≤ 10 := by rw [n9]; exact n1
  have c9m : 0 ≤ ν 121 1 ∧ ν 121 1 ≤ 10 := by rw [n10]; exact n2
  by_cases e0 : eN b n m (tkN b n m p) 0 29 = 0
  · have q0 := (eN_ok e0).2
    obtain ⟨j0, hj⟩ := natOf q0.1
    have hj0 : j0 < 30 := jlt30 hj q0.2
    have z0 := h58 (0 + j0) (by omega)
    rw [show 409 + (0 + j0) = (409 + j0) by omega] at z0
    by_cases hd : σ 58 (0 + j0) = -1
    · have hdm : ¬ 0 < ν 121 (409 + j0) := notPos z0 hd
      by_cases e1 : eN b n m (tkN b n m (tkN b n m p)) 0 99 = 0
      · have q1 := (eN_ok e1).2
        by_cases e2 : tkK b n m (tkN b n m (tkN b n m (tkN b n m p))) = 3
        · obtain ⟨σ', ⟨kC, kF, a58, f58, g54, f55, f56, f57, f59, f60, f61⟩, K⟩ := (D3 (v := 1) h5 hx2 (.inr rfl) (k_day0_ok (hC0 := hC) (e0 := e0) (e1 := e1) (e2 := e2) (hj := hj) (hd := hd)))
          obtain ⟨ν', ⟨mS, mF, b20, b21, b58, f121, f123⟩, M⟩ := (E3 (v := 1) h11 h17 (.inr rfl) (by have z := m_day0_ok (c := c) (s := s) (hM := hM) hk (e0 := e0) (hj := hj) (hd := hdm) (e1 := e1); exact z))
          exact .inl ⟨σ', ν', (tkN b n m (tkN b n m (tkN b n m p))), kF, mF, K, M, kC, mS, e2, (lenTwo wp hk (Nat.le_trans (Nat.le_trans (Nat.le_refl _) (tkN_b (tkN_b wp).2.1).1) (tkN_b (tkN_b (tkN_b wp).2.1).2.1).1) (tkN_b (tkN_b (tkN_b wp).2.1).2.1).2.1 e2), rel_day0 hR0 (mF.1.2.1 19 (by decide)) hj0 q1 a58 f58 g54 f55 f56 f57 f59 f60 f61 b20 b21 b58 f121 f123⟩
        · exact LokM.e (D3 (v := 0) h5 hx2 (.inl rfl) (k_day0_x2 (hC0 := hC) (e0 := e0) (e1 := e1) (e2 := e2) (hj := hj) (hd := hd))) e2 (E3 (v := 1) h11 h17 (.inr rfl) (by have z := m_day0_ok (c := c) (s := s) (hM := hM) hk (e0 := e0) (hj := hj) (hd := hdm) (e1 := e1); exact z))
      · exact LokM.b (Nat.le_trans (tkP_b (tkN_b (tkN_b wp).2.1).2.1) wn) (D3 (v := 0) h5 hx2 (.inl rfl) (k_day0_x1 (hC0 := hC) (e0 := e0) (e1 := e1) (hj := hj) (hd := hd))) (E3 (v := 0) h11 h17 (.inl rfl) (by have z := m_day0_x1 (c := c) (s := s) (hM := hM) hk (e0 := e0) (hj := hj) (hd := hdm) (e1 := e1); exact z))
    · exact LokM.b (Nat.le_trans (tkP_b (tkN_b wp).2.1) wn) (D3 (v := 0) h5 hx2 (.inl rfl) (k_day0_had (hC0 := hC) (e0 := e0) (hj := hj) (hd := hd))) (E3 (v := 0) h11 h17 (.inl rfl) (by have z := m_day0_had (c := c) (s := s) (hM := hM) hk (e0 := e0) (hj := hj) (hd := posOf z0 hd); exact z))
  · exact LokM.b (Nat.le_trans (tkP_b (tkN_b wp).2.1) wn) (D3 (v := 0) h5 hx2 (.inl rfl) (k_day0_x0 (hC0 := hC) (e0 := e0))) (E3 (v := 0) h11 h17 (.inl rfl) (by have z := m_day0_x0 (c := c) (s := s) (hM := hM) hk (e0 := e0); exact z))
set_option maxHeartbeats 1000000 in
theorem rel_day1 {σ ν σ' ν' : Nat → Nat → Int} (hR : RelL σ ν 0) (s19 : ν' 118 19 = ν 118 19) {j0 : Nat} {V : Int} (hj0 : j0 < 30) (q1 : 0 ≤ V ∧ V ≤ 99) (a58 : σ' 58 (30 + j0) = V) (f58 : ∀ j, ¬ j = (30 + j0) → σ' 58 j = σ 58 j) (g54 : σ' 54 = σ 54) (f55 : σ' 55 = σ 55) (f56 : σ' 56 = σ 56) (f57 : σ' 57 = σ 57) (f59 : σ' 59 = σ 59) (f60 : σ' 60 = σ 60) (f61 : σ' 61 = σ 61) (b20 : ν' 118 20 = ν 118 20) (b21 : ν' 118 21 = 1) (b58 : ν' 121 (439 + j0) = V + 1) (f121 : ∀ j, ¬ j = (439 + j0) → ν' 121 j = ν 121 j) (f123 : ν' 123 = ν 123) : RelL σ' ν' 1 := by
  obtain ⟨⟨n1, n2, n3, n4, n5, n6, n7, n8, n9, n10, n11, n12, n13, n14, n15, n16, n17, n18, n19, n20, n21, n22, n23, n24, n25⟩, h57, h56, h58, h55, hH⟩ := hR
  have f54 := fun j => congrFun g54 j
  have s7 := f54 7
  have s8 := f54 8
  have s9 := f54 9
  have s10 := f54 10
  have s11 := f54 11
  have s12 := f54 12
  have s13 := f54 13
  have s14 := f54 14
  have s15 := f54 15
  have s16 := f54 16
  have s17 := f54 17
  have u0 := f121 0 (by omega)
  have u1 := f121 1 (by omega)
  have u2 := f121 2 (by omega)
  have u3 := f121 3 (by omega)
  have u4 := f121 4 (by omega)
  have u8 := f121 8 (by omega)
  have u499 := f121 499 (by omega)
  have u500 := f121 500 (by omega)
  refine ⟨⟨by rw [s8]; exact n1, by rw [s9]; exact n2, by rw [s10]; exact n3, by rw [s11]; exact n4, by rw [s12]; exact n5, by rw [s13]; exact n6, by rw [s14]; exact n7, by rw [s15]; exact n8, by rw [u0, s8]; exact n9, by rw [u1, s9]; exact n10, by rw [u2, s10]; exact n11, by rw [u3, s11]; exact n12, by rw [u4, s12]; exact n13, by rw [u8, s13]; exact n14, by rw [u499, s14]; exact n15, by rw [u500, s15]; exact n16, by rw [s16]; exact n17, by rw [s17]; exact n18, by omega, by omega, by omega, by omega, by omega, by omega, by rw [s7]; exact n25⟩, ?_, ?_, ?_, ?_, ?_⟩
  · intro k hk3
    have z := h57 k hk3
    rw [f121 (5 + k) (by omega), f57]
    exact z
  · intro j hj3
    have z := h56 j hj3
    rw [f121 (109 + j) (by omega), f56]
    exact z
  · intro j hj3
    have z := h58 j hj3
    by_cases qj : j = (30 + j0)
    · rw [qj, show 409 + (30 + j0) = (439 + j0) by omega, a58, b58]
      exact ⟨⟨by omega, q1.2⟩, rfl⟩
    · rw [f121 (409 + j) (by omega), f58 j qj]
      exact z
  · intro j g1 g2
    rw [s8] at g1
    rw [s9] at g2
    have z := h55 j g1 g2
    have hj9 : j < 100 := by omega
    rw [f121 (9 + j) (by omega), f55]
    exact z
  · intro j g1
    rw [s13] at g1
    have z := hH j g1
    have hj9 : j < 8 := by omega
    rw [f121 (501 + j) (by omega), f121 (509 + j) (by omega), f60, f61, f59, f123, s8, s9]
    exact z
set_option maxHeartbeats 1000000 in
theorem lk_day1 {σ ν : Nat → Nat → Int} {c s : Nat} {b : Nat → Int} {n m p : Nat} (hW : TokK σ b n m p) (hM : MSt ν b n m p) (hk : tkK b n m p = 1) (hR : RelL σ ν 0) (hx : ix (σ 4) (tkV b n m p) 16 0 = 4) (h17 : ν 118 17 = 2003398244) : LokM σ ν b n m p c s := by
  obtain ⟨w2, wn, wp, t1, t2, t3, t4, t5, t6⟩ := hW
  have hC : CSt σ b n m (tkN b n m p) := ⟨w2, wn, (tkN_b wp).2.1, t1, t2, t3⟩
  have hR0 := hR
  obtain ⟨⟨n1, n2, n3, n4, n5, n6, n7, n8, n9, n10, n11, n12, n13, n14, n15, n16, n17, n18, n19, n20, n21, n22, n23, n24, n25⟩, h57, h56, h58, h55, hH⟩ := hR
  have h5 : σ 1 5 = 1 := t5.trans hk
  have hx2 : ix (σ 4) (σ 1 6) 16 0 = 4 := by rw [t6]; exact hx
  have hM2 := hM
  obtain ⟨_, _, _, _, _, _, m12, m11, _, m17, _, _⟩ := hM2
  have h11 : ν 118 11 = 1 := m11.trans (mkk_1.mpr hk)
  have c8m : 0 ≤ ν 121 0 ∧ ν 121 0 ≤ 10 := by rw [n9]; exact n1
  have c9m : 0 ≤ ν 121 1 ∧ ν 121 1 ≤ 10 := by rw [n10]; exact n2
  by_cases e0 : eN b n m (tkN b n m p) 0 29 = 0
  · have q0 := (eN_ok e0).2
    obtain ⟨j0, hj⟩ := natOf q0.1
    have hj0 : j0 < 30 := jlt30 hj q0.2
    have z0 := h58 (30 + j0) (by omega)
    rw [show 409 + (30 + j0) = (439 + j0) by omega] at z0
    by_cases hd : σ 58 (30 + j0) = -1
    · have hdm : ¬ 0 < ν 121 (439 + j0) := notPos z0 hd
      by_cases e1 : eN b n m (tkN b n m (tkN b n m p)) 0 99 = 0
      · have q1 := (eN_ok e1).2
        by_cases e2 : tkK b n m (tkN b n m (tkN b n m (tkN b n m p))) = 3
        · obtain ⟨σ', ⟨kC, kF, a58, f58, g54, f55, f56, f57, f59, f60, f61⟩, K⟩ := (D4 (v := 1) h5 hx2 (.inr rfl) (k_day1_ok (hC0 := hC) (e0 := e0) (e1 := e1) (e2 := e2) (hj := hj) (hd := hd)))
          obtain ⟨ν', ⟨mS, mF, b20, b21, b58, f121, f123⟩, M⟩ := (E4 (v := 1) h11 h17 (.inr rfl) (by have z := m_day1_ok (c := c) (s := s) (hM := hM) hk (e0 := e0) (hj := hj) (hd := hdm) (e1 := e1); exact z))
          exact .inl ⟨σ', ν', (tkN b n m (tkN b n m (tkN b n m p))), kF, mF, K, M, kC, mS, e2, (lenTwo wp hk (Nat.le_trans (Nat.le_trans (Nat.le_refl _) (tkN_b (tkN_b wp).2.1).1) (tkN_b (tkN_b (tkN_b wp).2.1).2.1).1) (tkN_b (tkN_b (tkN_b wp).2.1).2.1).2.1 e2), rel_day1 hR0 (mF.1.2.1 19 (by decide)) hj0 q1 a58 f58 g54 f55 f56 f57 f59 f60 f61 b20 b21 b58 f121 f123⟩
        · exact LokM.e (D4 (v := 0) h5 hx2 (.inl rfl) (k_day1_x2 (hC0 := hC) (e0 := e0) (e1 := e1) (e2 := e2) (hj := hj) (hd := hd))) e2 (E4 (v := 1) h11 h17 (.inr rfl) (by have z := m_day1_ok (c := c) (s := s) (hM := hM) hk (e0 := e0) (hj := hj) (hd := hdm) (e1 := e1); exact z))
      · exact LokM.b (Nat.le_trans (tkP_b (tkN_b (tkN_b wp).2.1).2.1) wn) (D4 (v := 0) h5 hx2 (.inl rfl) (k_day1_x1 (hC0 := hC) (e0 := e0) (e1 := e1) (hj := hj) (hd := hd))) (E4 (v := 0) h11 h17 (.inl rfl) (by have z := m_day1_x1 (c := c) (s := s) (hM := hM) hk (e0 := e0) (hj := hj) (hd := hdm) (e1 := e1); exact z))
    · exact LokM.b (Nat.le_trans (tkP_b (tkN_b wp).2.1) wn) (D4 (v := 0) h5 hx2 (.inl rfl) (k_day1_had (hC0 := hC) (e0 := e0) (hj := hj) (hd := hd))) (E4 (v := 0) h11 h17 (.inl rfl) (by have z := m_day1_had (c := c) (s := s) (hM := hM) hk (e0 := e0) (hj := hj) (hd := posOf z0 hd); exact z))
  · exact LokM.b (Nat.le_trans (tkP_b (tkN_b wp).2.1) wn) (D4 (v := 0) h5 hx2 (.inl rfl) (k_day1_x0 (hC0 := hC) (e0 := e0))) (E4 (v := 0) h11 h17 (.inl rfl) (by have z := m_day1_x0 (c := c) (s := s) (hM := hM) hk (e0 := e0); exact z))
set_option maxHeartbeats 1000000 in
theorem rel_day2 {σ ν σ' ν' : Nat → Nat → Int} (hR : RelL σ ν 0) (s19 : ν' 118 19 = ν 118 19) {j0 : Nat} {V : Int} (hj0 : j0 < 30) (q1 : 0 ≤ V ∧ V ≤ 99) (a58 : σ' 58 (60 + j0) = V) (f58 : ∀ j, ¬ j = (60 + j0) → σ' 58 j = σ 58 j) (g54 : σ' 54 = σ 54) (f55 : σ' 55 = σ 55) (f56 : σ' 56 = σ 56) (f57 : σ' 57 = σ 57) (f59 : σ' 59 = σ 59) (f60 : σ' 60 = σ 60) (f61 : σ' 61 = σ 61) (b20 : ν' 118 20 = ν 118 20) (b21 : ν' 118 21 = 1) (b58 : ν' 121 (469 + j0) = V + 1) (f121 : ∀ j, ¬ j = (469 + j0) → ν' 121 j = ν 121 j) (f123 : ν' 123 = ν 123) : RelL σ' ν' 1 := by
  obtain ⟨⟨n1, n2, n3, n4, n5, n6, n7, n8, n9, n10, n11, n12, n13, n14, n15, n16, n17, n18, n19, n20, n21, n22, n23, n24, n25⟩, h57, h56, h58, h55, hH⟩ := hR
  have f54 := fun j => congrFun g54 j
  have s7 := f54 7
  have s8 := f54 8
  have s9 := f54 9
  have s10 := f54 10
  have s11 := f54 11
  have s12 := f54 12
  have s13 := f54 13
  have s14 := f54 14
  have s15 := f54 15
  have s16 := f54 16
  have s17 := f54 17
  have u0 := f121 0 (by omega)
  have u1 := f121 1 (by omega)
  have u2 := f121 2 (by omega)
  have u3 := f121 3 (by omega)
  have u4 := f121 4 (by omega)
  have u8 := f121 8 (by omega)
  have u499 := f121 499 (by omega)
  have u500 := f121 500 (by omega)
  refine ⟨⟨by rw [s8]; exact n1, by rw [s9]; exact n2, by rw [s10]; exact n3, by rw [s11]; exact n4, by rw [s12]; exact n5, by rw [s13]; exact n6, by rw [s14]; exact n7, by rw [s15]; exact n8, by rw [u0, s8]; exact n9, by rw [u1, s9]; exact n10, by rw [u2, s10]; exact n11, by rw [u3, s11]; exact n12, by rw [u4, s12]; exact n13, by rw [u8, s13]; exact n14, by rw [u499, s14]; exact n15, by rw [u500, s15]; exact n16, by rw [s16]; exact n17, by rw [s17]; exact n18, by omega, by omega, by omega, by omega, by omega, by omega, by rw [s7]; exact n25⟩, ?_, ?_, ?_, ?_, ?_⟩
  · intro k hk3
    have z := h57 k hk3
    rw [f121 (5 + k) (by omega), f57]
    exact z
  · intro j hj3
    have z := h56 j hj3
    rw [f121 (109 + j) (by omega), f56]
    exact z
  · intro j hj3
    have z := h58 j hj3
    by_cases qj : j = (60 + j0)
    · rw [qj, show 409 + (60 + j0) = (469 + j0) by omega, a58, b58]
      exact ⟨⟨by omega, q1.2⟩, rfl⟩
    · rw [f121 (409 + j) (by omega), f58 j qj]
      exact z
  · intro j g1 g2
    rw [s8] at g1
    rw [s9] at g2
    have z := h55 j g1 g2
    have hj9 : j < 100 := by omega
    rw [f121 (9 + j) (by omega), f55]
    exact z
  · intro j g1
    rw [s13] at g1
    have z := hH j g1
    have hj9 : j < 8 := by omega
    rw [f121 (501 + j) (by omega), f121 (509 + j) (by omega), f60, f61, f59, f123, s8, s9]
    exact z
set_option maxHeartbeats 1000000 in
theorem lk_day2 {σ ν : Nat → Nat → Int} {c s : Nat} {b : Nat → Int} {n m p : Nat} (hW : TokK σ b n m p) (hM : MSt ν b n m p) (hk : tkK b n m p = 1) (hR : RelL σ ν 0) (hx : ix (σ 4) (tkV b n m p) 16 0 = 5) (h17 : ν 118 17 = 6713191) : LokM σ ν b n m p c s := by
  obtain ⟨w2, wn, wp, t1, t2, t3, t4, t5, t6⟩ := hW
  have hC : CSt σ b n m (tkN b n m p) := ⟨w2, wn, (tkN_b wp).2.1, t1, t2, t3⟩
  have hR0 := hR
  obtain ⟨⟨n1, n2, n3, n4, n5, n6, n7, n8, n9, n10, n11, n12, n13, n14, n15, n16, n17, n18, n19, n20, n21, n22, n23, n24, n25⟩, h57, h56, h58, h55, hH⟩ := hR
  have h5 : σ 1 5 = 1 := t5.trans hk
  have hx2 : ix (σ 4) (σ 1 6) 16 0 = 5 := by rw [t6]; exact hx
  have hM2 := hM
  obtain ⟨_, _, _, _, _, _, m12, m11, _, m17, _, _⟩ := hM2
  have h11 : ν 118 11 = 1 := m11.trans (mkk_1.mpr hk)
  have c8m : 0 ≤ ν 121 0 ∧ ν 121 0 ≤ 10 := by rw [n9]; exact n1
  have c9m : 0 ≤ ν 121 1 ∧ ν 121 1 ≤ 10 := by rw [n10]; exact n2
  by_cases e0 : eN b n m (tkN b n m p) 0 29 = 0
  · have q0 := (eN_ok e0).2
    obtain ⟨j0, hj⟩ := natOf q0.1
    have hj0 : j0 < 30 := jlt30 hj q0.2
    have z0 := h58 (60 + j0) (by omega)
    rw [show 409 + (60 + j0) = (469 + j0) by omega] at z0
    by_cases hd : σ 58 (60 + j0) = -1
    · have hdm : ¬ 0 < ν 121 (469 + j0) := notPos z0 hd
      by_cases e1 : eN b n m (tkN b n m (tkN b n m p)) 0 99 = 0
      · have q1 := (eN_ok e1).2
        by_cases e2 : tkK b n m (tkN b n m (tkN b n m (tkN b n m p))) = 3
        · obtain ⟨σ', ⟨kC, kF, a58, f58, g54, f55, f56, f57, f59, f60, f61⟩, K⟩ := (D5 (v := 1) h5 hx2 (.inr rfl) (k_day2_ok (hC0 := hC) (e0 := e0) (e1 := e1) (e2 := e2) (hj := hj) (hd := hd)))
          obtain ⟨ν', ⟨mS, mF, b20, b21, b58, f121, f123⟩, M⟩ := (E5 (v := 1) h11 h17 (.inr rfl) (by have z := m_day2_ok (c := c) (s := s) (hM := hM) hk (e0 := e0) (hj := hj) (hd := hdm) (e1 := e1); exact z))
          exact .inl ⟨σ', ν', (tkN b n m (tkN b n m (tkN b n m p))), kF, mF, K, M, kC, mS, e2, (lenTwo wp hk (Nat.le_trans (Nat.le_trans (Nat.le_refl _) (tkN_b (tkN_b wp).2.1).1) (tkN_b (tkN_b (tkN_b wp).2.1).2.1).1) (tkN_b (tkN_b (tkN_b wp).2.1).2.1).2.1 e2), rel_day2 hR0 (mF.1.2.1 19 (by decide)) hj0 q1 a58 f58 g54 f55 f56 f57 f59 f60 f61 b20 b21 b58 f121 f123⟩
        · exact LokM.e (D5 (v := 0) h5 hx2 (.inl rfl) (k_day2_x2 (hC0 := hC) (e0 := e0) (e1 := e1) (e2 := e2) (hj := hj) (hd := hd))) e2 (E5 (v := 1) h11 h17 (.inr rfl) (by have z := m_day2_ok (c := c) (s := s) (hM := hM) hk (e0 := e0) (hj := hj) (hd := hdm) (e1 := e1); exact z))
      · exact LokM.b (Nat.le_trans (tkP_b (tkN_b (tkN_b wp).2.1).2.1) wn) (D5 (v := 0) h5 hx2 (.inl rfl) (k_day2_x1 (hC0 := hC) (e0 := e0) (e1 := e1) (hj := hj) (hd := hd))) (E5 (v := 0) h11 h17 (.inl rfl) (by have z := m_day2_x1 (c := c) (s := s) (hM := hM) hk (e0 := e0) (hj := hj) (hd := hdm) (e1 := e1); exact z))
    · exact LokM.b (Nat.le_trans (tkP_b (tkN_b wp).2.1) wn) (D5 (v := 0) h5 hx2 (.inl rfl) (k_day2_had (hC0 := hC) (e0 := e0) (hj := hj) (hd := hd))) (E5 (v := 0) h11 h17 (.inl rfl) (by have z := m_day2_had (c := c) (s := s) (hM := hM) hk (e0 := e0) (hj := hj) (hd := posOf z0 hd); exact z))
  · exact LokM.b (Nat.le_trans (tkP_b (tkN_b wp).2.1) wn) (D5 (v := 0) h5 hx2 (.inl rfl) (k_day2_x0 (hC0 := hC) (e0 := e0))) (E5 (v := 0) h11 h17 (.inl rfl) (by have z := m_day2_x0 (c := c) (s := s) (hM := hM) hk (e0 := e0); exact z))
set_option maxHeartbeats 1000000 in
theorem rel_thing0 {σ ν σ' ν' : Nat → Nat → Int} (hR : RelL σ ν 0) (s19 : ν' 118 19 = ν 118 19) {j0 : Nat} {V : Int} (hj0 : j0 < 100) (q2 : 0 ≤ V ∧ V ≤ 99) (hf : ¬ 12 ≤ σ 57 0) (a56 : σ' 56 (0 + j0) = V) (f56 : ∀ j, ¬ j = (0 + j0) → σ' 56 j = σ 56 j) (a57 : σ' 57 0 = σ 57 0 + 1) (f57 : ∀ j, ¬ j = 0 → σ' 57 j = σ 57 j) (g54 : σ' 54 = σ 54) (f55 : σ' 55 = σ 55) (f58 : σ' 58 = σ 58) (f59 : σ' 59 = σ 59) (f60 : σ' 60 = σ 60) (f61 : σ' 61 = σ 61) (b20 : ν' 118 20 = ν 118 20) (b21 : ν' 118 21 = 1) (b56 : ν' 121 (109 + j0) = V + 1) (b57 : ν' 121 5 = ν 121 5 + 1) (f121 : ∀ j, ¬ j = (109 + j0) → ¬ j = 5 → ν' 121 j = ν 121 j) (f123 : ν' 123 = ν 123) : RelL σ' ν' 1 := by
  obtain ⟨⟨n1, n2, n3, n4, n5, n6, n7, n8, n9, n10, n11, n12, n13, n14, n15, n16, n17, n18, n19, n20, n21, n22, n23, n24, n25⟩, h57, h56, h58, h55, hH⟩ := hR
  have f54 := fun j => congrFun g54 j
  have s7 := f54 7
  have s8 := f54 8
  have s9 := f54 9
  have s10 := f54 10
  have s11 := f54 11
  have s12 := f54 12
  have s13 := f54 13
  have s14 := f54 14
  have s15 := f54 15
  have s16 := f54 16
  have s17 := f54 17
  have u0 := f121 0 (by omega) (by omega)
  have u1 := f121 1 (by omega) (by omega)
  have u2 := f121 2 (by omega) (by omega)
  have u3 := f121 3 (by omega) (by omega)
  have u4 := f121 4 (by omega) (by omega)
  have u8 := f121 8 (by omega) (by omega)
  have u499 := f121 499 (by omega) (by omega)
  have u500 := f121 500 (by omega) (by omega)
  refine ⟨⟨by rw [s8]; exact n1, by rw [s9]; exact n2, by rw [s10]; exact n3, by rw [s11]; exact n4, by rw [s12]; exact n5, by rw [s13]; exact n6, by rw [s14]; exact n7, by rw [s15]; exact n8, by rw [u0, s8]; exact n9, by rw [u1, s9]; exact n10, by rw [u2, s10]; exact n11, by rw [u3, s11]; exact n12, by rw [u4, s12]; exact n13, by rw [u8, s13]; exact n14, by rw [u499, s14]; exact n15, by rw [u500, s15]; exact n16, by rw [s16]; exact n17, by rw [s17]; exact n18, by omega, by omega, by omega, by omega, by omega, by omega, by rw [s7]; exact n25⟩, ?_, ?_, ?_, ?_, ?_⟩
  · intro k hk3
    have z := h57 k hk3
    by_cases qj : k = 0
    · rw [qj] at z
      rw [show 5 + 0 = 5 from rfl] at z
      rw [qj, show 5 + 0 = 5 from rfl, a57, b57]
      exact ⟨⟨by omega, by omega⟩, by omega⟩
    · rw [f121 (5 + k) (by omega) (by omega), f57 k qj]
      exact z
  · intro j hj3
    have z := h56 j hj3
    by_cases qj : j = (0 + j0)
    · rw [qj, show 109 + (0 + j0) = (109 + j0) by omega, a56, b56]
      exact ⟨⟨by omega, q2.2⟩, rfl⟩
    · rw [f121 (109 + j) (by omega) (by omega), f56 j qj]
      exact z
  · intro j hj3
    have z := h58 j hj3
    rw [f121 (409 + j) (by omega) (by omega), f58]
    exact z
  · intro j g1 g2
    rw [s8] at g1
    rw [s9] at g2
    have z := h55 j g1 g2
    have hj9 : j < 100 := by omega
    rw [f121 (9 + j) (by omega) (by omega), f55]
    exact z
  · intro j g1
    rw [s13] at g1
    have z := hH j g1
    have hj9 : j < 8 := by omega
    rw [f121 (501 + j) (by omega) (by omega), f121 (509 + j) (by omega) (by omega), f60, f61, f59, f123, s8, s9]
    exact z
set_option maxHeartbeats 1000000 in
theorem lk_thing0 {σ ν : Nat → Nat → Int} {c s : Nat} {b : Nat → Int} {n m p : Nat} (hW : TokK σ b n m p) (hM : MSt ν b n m p) (hk : tkK b n m p = 1) (hR : RelL σ ν 0) (hx : ix (σ 4) (tkV b n m p) 16 0 = 6) (h17 : ν 118 17 = 1685024626) : LokM σ ν b n m p c s := by
  obtain ⟨w2, wn, wp, t1, t2, t3, t4, t5, t6⟩ := hW
  have hC : CSt σ b n m (tkN b n m p) := ⟨w2, wn, (tkN_b wp).2.1, t1, t2, t3⟩
  have hR0 := hR
  obtain ⟨⟨n1, n2, n3, n4, n5, n6, n7, n8, n9, n10, n11, n12, n13, n14, n15, n16, n17, n18, n19, n20, n21, n22, n23, n24, n25⟩, h57, h56, h58, h55, hH⟩ := hR
  have h5 : σ 1 5 = 1 := t5.trans hk
  have hx2 : ix (σ 4) (σ 1 6) 16 0 = 6 := by rw [t6]; exact hx
  have hM2 := hM
  obtain ⟨_, _, _, _, _, _, m12, m11, _, m17, _, _⟩ := hM2
  have h11 : ν 118 11 = 1 := m11.trans (mkk_1.mpr hk)
  have c8m : 0 ≤ ν 121 0 ∧ ν 121 0 ≤ 10 := by rw [n9]; exact n1
  have c9m : 0 ≤ ν 121 1 ∧ ν 121 1 ≤ 10 := by rw [n10]; exact n2
  have zk : (0 ≤ σ 57 0 ∧ σ 57 0 ≤ 12) ∧ ν 121 5 = σ 57 0 := h57 0 (by decide)
  by_cases hf : ¬ 12 ≤ σ 57 0
  · have hfm : ¬ ν 121 5 = 12 := notF12 zk hf
    by_cases e0 : eN b n m (tkN b n m p) 0 (σ 54 8 - 1) = 0
    · have q0 := (eN_ok e0).2
      by_cases e1 : eN b n m (tkN b n m (tkN b n m p)) 0 (σ 54 9 - 1) = 0
      · have q1 := (eN_ok e1).2
        obtain ⟨j0, hj, hj0⟩ := cellN n1 n2 q0 q1
        have z0 := h56 (0 + j0) (by omega)
        rw [show 109 + (0 + j0) = (109 + j0) by omega] at z0
        by_cases hd : σ 56 (0 + j0) = -1
        · have hdm : ¬ 0 < ν 121 (109 + j0) := notPos z0 hd
          by_cases e2 : eN b n m (tkN b n m (tkN b n m (tkN b n m p))) 0 99 = 0
          · have q2 := (eN_ok e2).2
            by_cases e3 : tkK b n m (tkN b n m (tkN b n m (tkN b n m (tkN b n m p)))) = 3
            · obtain ⟨σ', ⟨kC, kF, a56, f56, a57, f57, g54, f55, f58, f59, f60, f61⟩, K⟩ := (D6 (v := 1) h5 hx2 (.inr rfl) (k_thing0_ok (hC0 := hC) (c8 := n1) (c9 := n2) (c57 := (h57 0 (by decide)).1.1) (hf12 := hf) (e0 := e0) (e1 := e1) (e2 := e2) (e3 := e3) (hj := hj) (hd := hd) ))
              obtain ⟨ν', ⟨mS, mF, b20, b21, b56, b57, f121, f123⟩, M⟩ := (E6 (v := 1) h11 h17 (.inr rfl) (by have z := m_thing0_ok (c := c) (s := s) (hM := hM) hk (c8 := c8m) (c9 := c9m) (ccn := by rw [zk.2]; exact zk.1) (hf12 := hfm) (e0 := by rw [n9]; exact e0) (e1 := by rw [n10]; exact e1) (hj := hj) (hd := hdm) (e2 := e2); exact z))
              exact .inl ⟨σ', ν', (tkN b n m (tkN b n m (tkN b n m (tkN b n m p)))), kF, mF, K, M, kC, mS, e3, (lenTwo wp hk (Nat.le_trans (Nat.le_trans (Nat.le_trans (Nat.le_refl _) (tkN_b (tkN_b wp).2.1).1) (tkN_b (tkN_b (tkN_b wp).2.1).2.1).1) (tkN_b (tkN_b (tkN_b (tkN_b wp).2.1).2.1).2.1).1) (tkN_b (tkN_b (tkN_b (tkN_b wp).2.1).2.1).2.1).2.1 e3), rel_thing0 hR0 (mF.1.2.1 19 (by decide)) hj0 q2 hf a56 f56 a57 f57 g54 f55 f58 f59 f60 f61 b20 b21 b56 b57 f121 f123⟩
            · exact LokM.e (D6 (v := 0) h5 hx2 (.inl rfl) (k_thing0_x3 (hC0 := hC) (c8 := n1) (c9 := n2) (c57 := (h57 0 (by decide)).1.1) (hf12 := hf) (e0 := e0) (e1 := e1) (e2 := e2) (e3 := e3) (hj := hj) (hd := hd) )) e3 (E6 (v := 1) h11 h17 (.inr rfl) (by have z := m_thing0_ok (c := c) (s := s) (hM := hM) hk (c8 := c8m) (c9 := c9m) (ccn := by rw [zk.2]; exact zk.1) (hf12 := hfm) (e0 := by rw [n9]; exact e0) (e1 := by rw [n10]; exact e1) (hj := hj) (hd := hdm) (e2 := e2); exact z))
          · exact LokM.b (Nat.le_trans (tkP_b (tkN_b (tkN_b (tkN_b wp).2.1).2.1).2.1) wn) (D6 (v := 0) h5 hx2 (.inl rfl) (k_thing0_x2 (hC0 := hC) (c8 := n1) (c9 := n2) (c57 := (h57 0 (by decide)).1.1) (hf12 := hf) (e0 := e0) (e1 := e1) (e2 := e2) (hj := hj) (hd := hd) )) (E6 (v := 0) h11 h17 (.inl rfl) (by have z := m_thing0_x2 (c := c) (s := s) (hM := hM) hk (c8 := c8m) (c9 := c9m) (ccn := by rw [zk.2]; exact zk.1) (hf12 := hfm) (e0 := by rw [n9]; exact e0) (e1 := by rw [n10]; exact e1) (hj := hj) (hd := hdm) (e2 := e2); exact z))
        · exact LokM.b (Nat.le_trans (tkP_b (tkN_b (tkN_b wp).2.1).2.1) wn) (D6 (v := 0) h5 hx2 (.inl rfl) (k_thing0_had (hC0 := hC) (c8 := n1) (c9 := n2) (c57 := (h57 0 (by decide)).1.1) (hf12 := hf) (e0 := e0) (e1 := e1) (hj := hj) (hd := hd) )) (E6 (v := 0) h11 h17 (.inl rfl) (by have z := m_thing0_had (c := c) (s := s) (hM := hM) hk (c8 := c8m) (c9 := c9m) (ccn := by rw [zk.2]; exact zk.1) (hf12 := hfm) (e0 := by rw [n9]; exact e0) (e1 := by rw [n10]; exact e1) (hj := hj) (hd := posOf z0 hd); exact z))
      · exact LokM.b (Nat.le_trans (tkP_b (tkN_b (tkN_b wp).2.1).2.1) wn) (D6 (v := 0) h5 hx2 (.inl rfl) (k_thing0_x1 (hC0 := hC) (c8 := n1) (c9 := n2) (c57 := (h57 0 (by decide)).1.1) (hf12 := hf) (e0 := e0) (e1 := e1) )) (E6 (v := 0) h11 h17 (.inl rfl) (by have z := m_thing0_x1 (c := c) (s := s) (hM := hM) hk (c8 := c8m) (c9 := c9m) (ccn := by rw [zk.2]; exact zk.1) (hf12 := hfm) (e0 := by rw [n9]; exact e0) (e1 := by rw [n10]; exact e1) ; rw [n10] at z; exact z))
    · exact LokM.b (Nat.le_trans (tkP_b (tkN_b wp).2.1) wn) (D6 (v := 0) h5 hx2 (.inl rfl) (k_thing0_x0 (hC0 := hC) (c8 := n1) (c9 := n2) (c57 := (h57 0 (by decide)).1.1) (hf12 := hf) (e0 := e0))) (E6 (v := 0) h11 h17 (.inl rfl) (by have z := m_thing0_x0 (c := c) (s := s) (hM := hM) hk (c8 := c8m) (c9 := c9m) (ccn := by rw [zk.2]; exact zk.1) (hf12 := hfm) (e0 := by rw [n9]; exact e0); rw [n9] at z; exact z))
  · exact LokM.b (Nat.le_trans (tkP_b wp) wn) (D6 (v := 0) h5 hx2 (.inl rfl) (by have z := k_thing0_full (μ := σ) (c := c) (s := s) (c8 := n1) (c9 := n2) (c57 := (h57 0 (by decide)).1.1) (hC0 := hC) (hf12 := Classical.not_not.mp hf); rw [t4] at z; exact z)) (E6 (v := 0) h11 h17 (.inl rfl) (by have z := m_thing0_full (c := c) (s := s) (hM := hM) hk (c8 := c8m) (c9 := c9m) (ccn := by rw [zk.2]; exact zk.1) (hf12 := full12 zk hf); exact z))
set_option maxHeartbeats 1000000 in
theorem rel_thing1 {σ ν σ' ν' : Nat → Nat → Int} (hR : RelL σ ν 0) (s19 : ν' 118 19 = ν 118 19) {j0 : Nat} {V : Int} (hj0 : j0 < 100) (q2 : 0 ≤ V ∧ V ≤ 99) (hf : ¬ 12 ≤ σ 57 1) (a56 : σ' 56 (100 + j0) = V) (f56 : ∀ j, ¬ j = (100 + j0) → σ' 56 j = σ 56 j) (a57 : σ' 57 1 = σ 57 1 + 1) (f57 : ∀ j, ¬ j = 1 → σ' 57 j = σ 57 j) (g54 : σ' 54 = σ 54) (f55 : σ' 55 = σ 55) (f58 : σ' 58 = σ 58) (f59 : σ' 59 = σ 59) (f60 : σ' 60 = σ 60) (f61 : σ' 61 = σ 61) (b20 : ν' 118 20 = ν 118 20) (b21 : ν' 118 21 = 1) (b56 : ν' 121 (209 + j0) = V + 1) (b57 : ν' 121 6 = ν 121 6 + 1) (f121 : ∀ j, ¬ j = (209 + j0) → ¬ j = 6 → ν' 121 j = ν 121 j) (f123 : ν' 123 = ν 123) : RelL σ' ν' 1 := by
  obtain ⟨⟨n1, n2, n3, n4, n5, n6, n7, n8, n9, n10, n11, n12, n13, n14, n15, n16, n17, n18, n19, n20, n21, n22, n23, n24, n25⟩, h57, h56, h58, h55, hH⟩ := hR
  have f54 := fun j => congrFun g54 j
  have s7 := f54 7
  have s8 := f54 8
  have s9 := f54 9
  have s10 := f54 10
  have s11 := f54 11
  have s12 := f54 12
  have s13 := f54 13
  have s14 := f54 14
  have s15 := f54 15
  have s16 := f54 16
  have s17 := f54 17
  have u0 := f121 0 (by omega) (by omega)
  have u1 := f121 1 (by omega) (by omega)
  have u2 := f121 2 (by omega) (by omega)
  have u3 := f121 3 (by omega) (by omega)
  have u4 := f121 4 (by omega) (by omega)
  have u8 := f121 8 (by omega) (by omega)
  have u499 := f121 499 (by omega) (by omega)
  have u500 := f121 500 (by omega) (by omega)
  refine ⟨⟨by rw [s8]; exact n1, by rw [s9]; exact n2, by rw [s10]; exact n3, by rw [s11]; exact n4, by rw [s12]; exact n5, by rw [s13]; exact n6, by rw [s14]; exact n7, by rw [s15]; exact n8, by rw [u0, s8]; exact n9, by rw [u1, s9]; exact n10, by rw [u2, s10]; exact n11, by rw [u3, s11]; exact n12, by rw [u4, s12]; exact n13, by rw [u8, s13]; exact n14, by rw [u499, s14]; exact n15, by rw [u500, s15]; exact n16, by rw [s16]; exact n17, by rw [s17]; exact n18, by omega, by omega, by omega, by omega, by omega, by omega, by rw [s7]; exact n25⟩, ?_, ?_, ?_, ?_, ?_⟩
  · intro k hk3
    have z := h57 k hk3
    by_cases qj : k = 1
    · rw [qj] at z
      rw [show 5 + 1 = 6 from rfl] at z
      rw [qj, show 5 + 1 = 6 from rfl, a57, b57]
      exact ⟨⟨by omega, by omega⟩, by omega⟩
    · rw [f121 (5 + k) (by omega) (by omega), f57 k qj]
      exact z
  · intro j hj3
    have z := h56 j hj3
    by_cases qj : j = (100 + j0)
    · rw [qj, show 109 + (100 + j0) = (209 + j0) by omega, a56, b56]
      exact ⟨⟨by omega, q2.2⟩, rfl⟩
    · rw [f121 (109 + j) (by omega) (by omega), f56 j qj]
      exact z
  · intro j hj3
    have z := h58 j hj3
    rw [f121 (409 + j) (by omega) (by omega), f58]
    exact z
  · intro j g1 g2
    rw [s8] at g1
    rw [s9] at g2
    have z := h55 j g1 g2
    have hj9 : j < 100 := by omega
    rw [f121 (9 + j) (by omega) (by omega), f55]
    exact z
  · intro j g1
    rw [s13] at g1
    have z := hH j g1
    have hj9 : j < 8 := by omega
    rw [f121 (501 + j) (by omega) (by omega), f121 (509 + j) (by omega) (by omega), f60, f61, f59, f123, s8, s9]
    exact z
set_option maxHeartbeats 1000000 in
theorem lk_thing1 {σ ν : Nat → Nat → Int} {c s : Nat} {b : Nat → Int} {n m p : Nat} (hW : TokK σ b n m p) (hM : MSt ν b n m p) (hk : tkK b n m p = 1) (hR : RelL σ ν 0) (hx : ix (σ 4) (tkV b n m p) 16 0 = 7) (h17 : ν 118 17 = 7173476) : LokM σ ν b n m p c s := by
  obtain ⟨w2, wn, wp, t1, t2, t3, t4, t5, t6⟩ := hW
  have hC : CSt σ b n m (tkN b n m p) := ⟨w2, wn, (tkN_b wp).2.1, t1, t2, t3⟩
  have hR0 := hR
  obtain ⟨⟨n1, n2, n3, n4, n5, n6, n7, n8, n9, n10, n11, n12, n13, n14, n15, n16, n17, n18, n19, n20, n21, n22, n23, n24, n25⟩, h57, h56, h58, h55, hH⟩ := hR
  have h5 : σ 1 5 = 1 := t5.trans hk
  have hx2 : ix (σ 4) (σ 1 6) 16 0 = 7 := by rw [t6]; exact hx
  have hM2 := hM
  obtain ⟨_, _, _, _, _, _, m12, m11, _, m17, _, _⟩ := hM2
  have h11 : ν 118 11 = 1 := m11.trans (mkk_1.mpr hk)
  have c8m : 0 ≤ ν 121 0 ∧ ν 121 0 ≤ 10 := by rw [n9]; exact n1
  have c9m : 0 ≤ ν 121 1 ∧ ν 121 1 ≤ 10 := by rw [n10]; exact n2
  have zk : (0 ≤ σ 57 1 ∧ σ 57 1 ≤ 12) ∧ ν 121 6 = σ 57 1 := h57 1 (by decide)
  by_cases hf : ¬ 12 ≤ σ 57 1
  · have hfm : ¬ ν 121 6 = 12 := notF12 zk hf
    by_cases e0 : eN b n m (tkN b n m p) 0 (σ 54 8 - 1) = 0
    · have q0 := (eN_ok e0).2
      by_cases e1 : eN b n m (tkN b n m (tkN b n m p)) 0 (σ 54 9 - 1) = 0
      · have q1 := (eN_ok e1).2
        obtain ⟨j0, hj, hj0⟩ := cellN n1 n2 q0 q1
        have z0 := h56 (100 + j0) (by omega)
        rw [show 109 + (100 + j0) = (209 + j0) by omega] at z0
        by_cases hd : σ 56 (100 + j0) = -1
        · have hdm : ¬ 0 < ν 121 (209 + j0) := notPos z0 hd
          by_cases e2 : eN b n m (tkN b n m (tkN b n m (tkN b n m p))) 0 99 = 0
          · have q2 := (eN_ok e2).2
            by_cases e3 : tkK b n m (tkN b n m (tkN b n m (tkN b n m (tkN b n m p)))) = 3
            · obtain ⟨σ', ⟨kC, kF, a56, f56, a57, f57, g54, f55, f58, f59, f60, f61⟩, K⟩ := (D7 (v := 1) h5 hx2 (.inr rfl) (k_thing1_ok (hC0 := hC) (c8 := n1) (c9 := n2) (c57 := (h57 1 (by decide)).1.1) (hf12 := hf) (e0 := e0) (e1 := e1) (e2 := e2) (e3 := e3) (hj := hj) (hd := hd) ))
              obtain ⟨ν', ⟨mS, mF, b20, b21, b56, b57, f121, f123⟩, M⟩ := (E7 (v := 1) h11 h17 (.inr rfl) (by have z := m_thing1_ok (c := c) (s := s) (hM := hM) hk (c8 := c8m) (c9 := c9m) (ccn := by rw [zk.2]; exact zk.1) (hf12 := hfm) (e0 := by rw [n9]; exact e0) (e1 := by rw [n10]; exact e1) (hj := hj) (hd := hdm) (e2 := e2); exact z))
              exact .inl ⟨σ', ν', (tkN b n m (tkN b n m (tkN b n m (tkN b n m p)))), kF, mF, K, M, kC, mS, e3, (lenTwo wp hk (Nat.le_trans (Nat.le_trans (Nat.le_trans (Nat.le_refl _) (tkN_b (tkN_b wp).2.1).1) (tkN_b (tkN_b (tkN_b wp).2.1).2.1).1) (tkN_b (tkN_b (tkN_b (tkN_b wp).2.1).2.1).2.1).1) (tkN_b (tkN_b (tkN_b (tkN_b wp).2.1).2.1).2.1).2.1 e3), rel_thing1 hR0 (mF.1.2.1 19 (by decide)) hj0 q2 hf a56 f56 a57 f57 g54 f55 f58 f59 f60 f61 b20 b21 b56 b57 f121 f123⟩
            · exact LokM.e (D7 (v := 0) h5 hx2 (.inl rfl) (k_thing1_x3 (hC0 := hC) (c8 := n1) (c9 := n2) (c57 := (h57 1 (by decide)).1.1) (hf12 := hf) (e0 := e0) (e1 := e1) (e2 := e2) (e3 := e3) (hj := hj) (hd := hd) )) e3 (E7 (v := 1) h11 h17 (.inr rfl) (by have z := m_thing1_ok (c := c) (s := s) (hM := hM) hk (c8 := c8m) (c9 := c9m) (ccn := by rw [zk.2]; exact zk.1) (hf12 := hfm) (e0 := by rw [n9]; exact e0) (e1 := by rw [n10]; exact e1) (hj := hj) (hd := hdm) (e2 := e2); exact z))
          · exact LokM.b (Nat.le_trans (tkP_b (tkN_b (tkN_b (tkN_b wp).2.1).2.1).2.1) wn) (D7 (v := 0) h5 hx2 (.inl rfl) (k_thing1_x2 (hC0 := hC) (c8 := n1) (c9 := n2) (c57 := (h57 1 (by decide)).1.1) (hf12 := hf) (e0 := e0) (e1 := e1) (e2 := e2) (hj := hj) (hd := hd) )) (E7 (v := 0) h11 h17 (.inl rfl) (by have z := m_thing1_x2 (c := c) (s := s) (hM := hM) hk (c8 := c8m) (c9 := c9m) (ccn := by rw [zk.2]; exact zk.1) (hf12 := hfm) (e0 := by rw [n9]; exact e0) (e1 := by rw [n10]; exact e1) (hj := hj) (hd := hdm) (e2 := e2); exact z))
        · exact LokM.b (Nat.le_trans (tkP_b (tkN_b (tkN_b wp).2.1).2.1) wn) (D7 (v := 0) h5 hx2 (.inl rfl) (k_thing1_had (hC0 := hC) (c8 := n1) (c9 := n2) (c57 := (h57 1 (by decide)).1.1) (hf12 := hf) (e0 := e0) (e1 := e1) (hj := hj) (hd := hd) )) (E7 (v := 0) h11 h17 (.inl rfl) (by have z := m_thing1_had (c := c) (s := s) (hM := hM) hk (c8 := c8m) (c9 := c9m) (ccn := by rw [zk.2]; exact zk.1) (hf12 := hfm) (e0 := by rw [n9]; exact e0) (e1 := by rw [n10]; exact e1) (hj := hj) (hd := posOf z0 hd); exact z))
      · exact LokM.b (Nat.le_trans (tkP_b (tkN_b (tkN_b wp).2.1).2.1) wn) (D7 (v := 0) h5 hx2 (.inl rfl) (k_thing1_x1 (hC0 := hC) (c8 := n1) (c9 := n2) (c57 := (h57 1 (by decide)).1.1) (hf12 := hf) (e0 := e0) (e1 := e1) )) (E7 (v := 0) h11 h17 (.inl rfl) (by have z := m_thing1_x1 (c := c) (s := s) (hM := hM) hk (c8 := c8m) (c9 := c9m) (ccn := by rw [zk.2]; exact zk.1) (hf12 := hfm) (e0 := by rw [n9]; exact e0) (e1 := by rw [n10]; exact e1) ; rw [n10] at z; exact z))
    · exact LokM.b (Nat.le_trans (tkP_b (tkN_b wp).2.1) wn) (D7 (v := 0) h5 hx2 (.inl rfl) (k_thing1_x0 (hC0 := hC) (c8 := n1) (c9 := n2) (c57 := (h57 1 (by decide)).1.1) (hf12 := hf) (e0 := e0))) (E7 (v := 0) h11 h17 (.inl rfl) (by have z := m_thing1_x0 (c := c) (s := s) (hM := hM) hk (c8 := c8m) (c9 := c9m) (ccn := by rw [zk.2]; exact zk.1) (hf12 := hfm) (e0 := by rw [n9]; exact e0); rw [n9] at z; exact z))
  · exact LokM.b (Nat.le_trans (tkP_b wp) wn) (D7 (v := 0) h5 hx2 (.inl rfl) (by have z := k_thing1_full (μ := σ) (c := c) (s := s) (c8 := n1) (c9 := n2) (c57 := (h57 1 (by decide)).1.1) (hC0 := hC) (hf12 := Classical.not_not.mp hf); rw [t4] at z; exact z)) (E7 (v := 0) h11 h17 (.inl rfl) (by have z := m_thing1_full (c := c) (s := s) (hM := hM) hk (c8 := c8m) (c9 := c9m) (ccn := by rw [zk.2]; exact zk.1) (hf12 := full12 zk hf); exact z))
set_option maxHeartbeats 1000000 in
theorem rel_thing2 {σ ν σ' ν' : Nat → Nat → Int} (hR : RelL σ ν 0) (s19 : ν' 118 19 = ν 118 19) {j0 : Nat} {V : Int} (hj0 : j0 < 100) (q2 : 0 ≤ V ∧ V ≤ 99) (hf : ¬ 12 ≤ σ 57 2) (a56 : σ' 56 (200 + j0) = V) (f56 : ∀ j, ¬ j = (200 + j0) → σ' 56 j = σ 56 j) (a57 : σ' 57 2 = σ 57 2 + 1) (f57 : ∀ j, ¬ j = 2 → σ' 57 j = σ 57 j) (g54 : σ' 54 = σ 54) (f55 : σ' 55 = σ 55) (f58 : σ' 58 = σ 58) (f59 : σ' 59 = σ 59) (f60 : σ' 60 = σ 60) (f61 : σ' 61 = σ 61) (b20 : ν' 118 20 = ν 118 20) (b21 : ν' 118 21 = 1) (b56 : ν' 121 (309 + j0) = V + 1) (b57 : ν' 121 7 = ν 121 7 + 1) (f121 : ∀ j, ¬ j = (309 + j0) → ¬ j = 7 → ν' 121 j = ν 121 j) (f123 : ν' 123 = ν 123) : RelL σ' ν' 1 := by
  obtain ⟨⟨n1, n2, n3, n4, n5, n6, n7, n8, n9, n10, n11, n12, n13, n14, n15, n16, n17, n18, n19, n20, n21, n22, n23, n24, n25⟩, h57, h56, h58, h55, hH⟩ := hR
  have f54 := fun j => congrFun g54 j
  have s7 := f54 7
  have s8 := f54 8
  have s9 := f54 9
  have s10 := f54 10
  have s11 := f54 11
  have s12 := f54 12
  have s13 := f54 13
  have s14 := f54 14
  have s15 := f54 15
  have s16 := f54 16
  have s17 := f54 17
  have u0 := f121 0 (by omega) (by omega)
  have u1 := f121 1 (by omega) (by omega)
  have u2 := f121 2 (by omega) (by omega)
  have u3 := f121 3 (by omega) (by omega)
  have u4 := f121 4 (by omega) (by omega)
  have u8 := f121 8 (by omega) (by omega)
  have u499 := f121 499 (by omega) (by omega)
  have u500 := f121 500 (by omega) (by omega)
  refine ⟨⟨by rw [s8]; exact n1, by rw [s9]; exact n2, by rw [s10]; exact n3, by rw [s11]; exact n4, by rw [s12]; exact n5, by rw [s13]; exact n6, by rw [s14]; exact n7, by rw [s15]; exact n8, by rw [u0, s8]; exact n9, by rw [u1, s9]; exact n10, by rw [u2, s10]; exact n11, by rw [u3, s11]; exact n12, by rw [u4, s12]; exact n13, by rw [u8, s13]; exact n14, by rw [u499, s14]; exact n15, by rw [u500, s15]; exact n16, by rw [s16]; exact n17, by rw [s17]; exact n18, by omega, by omega, by omega, by omega, by omega, by omega, by rw [s7]; exact n25⟩, ?_, ?_, ?_, ?_, ?_⟩
  · intro k hk3
    have z := h57 k hk3
    by_cases qj : k = 2
    · rw [qj] at z
      rw [show 5 + 2 = 7 from rfl] at z
      rw [qj, show 5 + 2 = 7 from rfl, a57, b57]
      exact ⟨⟨by omega, by omega⟩, by omega⟩
    · rw [f121 (5 + k) (by omega) (by omega), f57 k qj]
      exact z
  · intro j hj3
    have z := h56 j hj3
    by_cases qj : j = (200 + j0)
    · rw [qj, show 109 + (200 + j0) = (309 + j0) by omega, a56, b56]
      exact ⟨⟨by omega, q2.2⟩, rfl⟩
    · rw [f121 (109 + j) (by omega) (by omega), f56 j qj]
      exact z
  · intro j hj3
    have z := h58 j hj3
    rw [f121 (409 + j) (by omega) (by omega), f58]
    exact z
  · intro j g1 g2
    rw [s8] at g1
    rw [s9] at g2
    have z := h55 j g1 g2
    have hj9 : j < 100 := by omega
    rw [f121 (9 + j) (by omega) (by omega), f55]
    exact z
  · intro j g1
    rw [s13] at g1
    have z := hH j g1
    have hj9 : j < 8 := by omega
    rw [f121 (501 + j) (by omega) (by omega), f121 (509 + j) (by omega) (by omega), f60, f61, f59, f123, s8, s9]
    exact z
set_option maxHeartbeats 1000000 in
theorem lk_thing2 {σ ν : Nat → Nat → Int} {c s : Nat} {b : Nat → Int} {n m p : Nat} (hW : TokK σ b n m p) (hM : MSt ν b n m p) (hk : tkK b n m p = 1) (hR : RelL σ ν 0) (hx : ix (σ 4) (tkV b n m p) 16 0 = 8) (h17 : ν 118 17 = 119165551928690) : LokM σ ν b n m p c s := by
  obtain ⟨w2, wn, wp, t1, t2, t3, t4, t5, t6⟩ := hW
  have hC : CSt σ b n m (tkN b n m p) := ⟨w2, wn, (tkN_b wp).2.1, t1, t2, t3⟩
  have hR0 := hR
  obtain ⟨⟨n1, n2, n3, n4, n5, n6, n7, n8, n9, n10, n11, n12, n13, n14, n15, n16, n17, n18, n19, n20, n21, n22, n23, n24, n25⟩, h57, h56, h58, h55, hH⟩ := hR
  have h5 : σ 1 5 = 1 := t5.trans hk
  have hx2 : ix (σ 4) (σ 1 6) 16 0 = 8 := by rw [t6]; exact hx
  have hM2 := hM
  obtain ⟨_, _, _, _, _, _, m12, m11, _, m17, _, _⟩ := hM2
  have h11 : ν 118 11 = 1 := m11.trans (mkk_1.mpr hk)
  have c8m : 0 ≤ ν 121 0 ∧ ν 121 0 ≤ 10 := by rw [n9]; exact n1
  have c9m : 0 ≤ ν 121 1 ∧ ν 121 1 ≤ 10 := by rw [n10]; exact n2
  have zk : (0 ≤ σ 57 2 ∧ σ 57 2 ≤ 12) ∧ ν 121 7 = σ 57 2 := h57 2 (by decide)
  by_cases hf : ¬ 12 ≤ σ 57 2
  · have hfm : ¬ ν 121 7 = 12 := notF12 zk hf
    by_cases e0 : eN b n m (tkN b n m p) 0 (σ 54 8 - 1) = 0
    · have q0 := (eN_ok e0).2
      by_cases e1 : eN b n m (tkN b n m (tkN b n m p)) 0 (σ 54 9 - 1) = 0
      · have q1 := (eN_ok e1).2
        obtain ⟨j0, hj, hj0⟩ := cellN n1 n2 q0 q1
        have z0 := h56 (200 + j0) (by omega)
        rw [show 109 + (200 + j0) = (309 + j0) by omega] at z0
        by_cases hd : σ 56 (200 + j0) = -1
        · have hdm : ¬ 0 < ν 121 (309 + j0) := notPos z0 hd
          by_cases e2 : tkK b n m (tkN b n m (tkN b n m (tkN b n m p))) = 3
          · obtain ⟨σ', ⟨kC, kF, a56, f56, a57, f57, g54, f55, f58, f59, f60, f61⟩, K⟩ := (D8 (v := 1) h5 hx2 (.inr rfl) (k_thing2_ok (hC0 := hC) (c8 := n1) (c9 := n2) (c57 := (h57 2 (by decide)).1.1) (hf12 := hf) (e0 := e0) (e1 := e1) (e2 := e2) (hj := hj) (hd := hd) ))
            obtain ⟨ν', ⟨mS, mF, b20, b21, b56, b57, f121, f123⟩, M⟩ := (E8 (v := 1) h11 h17 (.inr rfl) (by have z := m_thing2_ok (c := c) (s := s) (hM := hM) hk (c8 := c8m) (c9 := c9m) (ccn := by rw [zk.2]; exact zk.1) (hf12 := hfm) (e0 := by rw [n9]; exact e0) (e1 := by rw [n10]; exact e1) (hj := hj) (hd := hdm) ; exact z))
            exact .inl ⟨σ', ν', (tkN b n m (tkN b n m (tkN b n m p))), kF, mF, K, M, kC, mS, e2, (lenTwo wp hk (Nat.le_trans (Nat.le_trans (Nat.le_refl _) (tkN_b (tkN_b wp).2.1).1) (tkN_b (tkN_b (tkN_b wp).2.1).2.1).1) (tkN_b (tkN_b (tkN_b wp).2.1).2.1).2.1 e2), rel_thing2 hR0 (mF.1.2.1 19 (by decide)) hj0 (show (0 : Int) ≤ 0 ∧ (0 : Int) ≤ 99 by decide) hf a56 f56 a57 f57 g54 f55 f58 f59 f60 f61 b20 b21 b56 b57 f121 f123⟩
          · exact LokM.e (D8 (v := 0) h5 hx2 (.inl rfl) (k_thing2_x2 (hC0 := hC) (c8 := n1) (c9 := n2) (c57 := (h57 2 (by decide)).1.1) (hf12 := hf) (e0 := e0) (e1 := e1) (e2 := e2) (hj := hj) (hd := hd) )) e2 (E8 (v := 1) h11 h17 (.inr rfl) (by have z := m_thing2_ok (c := c) (s := s) (hM := hM) hk (c8 := c8m) (c9 := c9m) (ccn := by rw [zk.2]; exact zk.1) (hf12 := hfm) (e0 := by rw [n9]; exact e0) (e1 := by rw [n10]; exact e1) (hj := hj) (hd := hdm) ; exact z))
        · exact LokM.b (Nat.le_trans (tkP_b (tkN_b (tkN_b wp).2.1).2.1) wn) (D8 (v := 0) h5 hx2 (.inl rfl) (k_thing2_had (hC0 := hC) (c8 := n1) (c9 := n2) (c57 := (h57 2 (by decide)).1.1) (hf12 := hf) (e0 := e0) (e1 := e1) (hj := hj) (hd := hd) )) (E8 (v := 0) h11 h17 (.inl rfl) (by have z := m_thing2_had (c := c) (s := s) (hM := hM) hk (c8 := c8m) (c9 := c9m) (ccn := by rw [zk.2]; exact zk.1) (hf12 := hfm) (e0 := by rw [n9]; exact e0) (e1 := by rw [n10]; exact e1) (hj := hj) (hd := posOf z0 hd); exact z))
      · exact LokM.b (Nat.le_trans (tkP_b (tkN_b (tkN_b wp).2.1).2.1) wn) (D8 (v := 0) h5 hx2 (.inl rfl) (k_thing2_x1 (hC0 := hC) (c8 := n1) (c9 := n2) (c57 := (h57 2 (by decide)).1.1) (hf12 := hf) (e0 := e0) (e1 := e1) )) (E8 (v := 0) h11 h17 (.inl rfl) (by have z := m_thing2_x1 (c := c) (s := s) (hM := hM) hk (c8 := c8m) (c9 := c9m) (ccn := by rw [zk.2]; exact zk.1) (hf12 := hfm) (e0 := by rw [n9]; exact e0) (e1 := by rw [n10]; exact e1) ; rw [n10] at z; exact z))
    · exact LokM.b (Nat.le_trans (tkP_b (tkN_b wp).2.1) wn) (D8 (v := 0) h5 hx2 (.inl rfl) (k_thing2_x0 (hC0 := hC) (c8 := n1) (c9 := n2) (c57 := (h57 2 (by decide)).1.1) (hf12 := hf) (e0 := e0))) (E8 (v := 0) h11 h17 (.inl rfl) (by have z := m_thing2_x0 (c := c) (s := s) (hM := hM) hk (c8 := c8m) (c9 := c9m) (ccn := by rw [zk.2]; exact zk.1) (hf12 := hfm) (e0 := by rw [n9]; exact e0); rw [n9] at z; exact z))
  · exact LokM.b (Nat.le_trans (tkP_b wp) wn) (D8 (v := 0) h5 hx2 (.inl rfl) (by have z := k_thing2_full (μ := σ) (c := c) (s := s) (c8 := n1) (c9 := n2) (c57 := (h57 2 (by decide)).1.1) (hC0 := hC) (hf12 := Classical.not_not.mp hf); rw [t4] at z; exact z)) (E8 (v := 0) h11 h17 (.inl rfl) (by have z := m_thing2_full (c := c) (s := s) (hM := hM) hk (c8 := c8m) (c9 := c9m) (ccn := by rw [zk.2]; exact zk.1) (hf12 := full12 zk hf); exact z))
set_option maxHeartbeats 1000000 in
theorem rel_wolf {σ ν σ' ν' : Nat → Nat → Int} (hR : RelL σ ν 0) (s19 : ν' 118 19 = ν 118 19) {O : Nat} {X Y V : Int} (q0 : 0 ≤ X ∧ X ≤ σ 54 8 - 1) (q1 : 0 ≤ Y ∧ Y ≤ σ 54 9 - 1) (q2 : 0 ≤ V ∧ V ≤ 99) (h14 : σ 54 14 = -1) (hO : ν 118 20 = (O : Int)) (a14 : σ' 54 14 = 10 * Y + X) (a15 : σ' 54 15 = V) (f54 : ∀ j, ¬ j = 14 → ¬ j = 15 → σ' 54 j = σ 54 j) (f55 : σ' 55 = σ 55) (f56 : σ' 56 = σ 56) (f57 : σ' 57 = σ 57) (f58 : σ' 58 = σ 58) (f59 : σ' 59 = σ 59) (f60 : σ' 60 = σ 60) (f61 : σ' 61 = σ 61) (b20 : ν' 118 20 = ((O + 2 ^ 2 : Nat) : Int)) (b21 : ν' 118 21 = 1) (b499 : ν' 121 499 = 10 * Y + X + 1) (b500 : ν' 121 500 = V) (f121 : ∀ j, ¬ j = 499 → ¬ j = 500 → ν' 121 j = ν 121 j) (f123 : ν' 123 = ν 123) : RelL σ' ν' 1 := by
  obtain ⟨⟨n1, n2, n3, n4, n5, n6, n7, n8, n9, n10, n11, n12, n13, n14, n15, n16, n17, n18, n19, n20, n21, n22, n23, n24, n25⟩, h57, h56, h58, h55, hH⟩ := hR
  have b20' : ν' 118 20 = ν 118 20 + 4 := by rw [b20, hO]; rfl
  have cg := cellG n1 n2 q0 q1
  have s7 := f54 7 (by decide) (by decide)
  have s8 := f54 8 (by decide) (by decide)
  have s9 := f54 9 (by decide) (by decide)
  have s10 := f54 10 (by decide) (by decide)
  have s11 := f54 11 (by decide) (by decide)
  have s12 := f54 12 (by decide) (by decide)
  have s13 := f54 13 (by decide) (by decide)
  have s16 := f54 16 (by decide) (by decide)
  have s17 := f54 17 (by decide) (by decide)
  have u0 := f121 0 (by omega) (by omega)
  have u1 := f121 1 (by omega) (by omega)
  have u2 := f121 2 (by omega) (by omega)
  have u3 := f121 3 (by omega) (by omega)
  have u4 := f121 4 (by omega) (by omega)
  have u8 := f121 8 (by omega) (by omega)
  refine ⟨⟨by rw [s8]; exact n1, by rw [s9]; exact n2, by rw [s10]; exact n3, by rw [s11]; exact n4, by rw [s12]; exact n5, by rw [s13]; exact n6, by rw [a14]; exact ⟨Int.le_trans (by decide) cg.1.1, cg.1.2⟩, by rw [a15]; exact q2, by rw [u0, s8]; exact n9, by rw [u1, s9]; exact n10, by rw [u2, s10]; exact n11, by rw [u3, s11]; exact n12, by rw [u4, s12]; exact n13, by rw [u8, s13]; exact n14, by rw [b499, a14], b500.trans a15.symm, by rw [s16]; exact n17, by rw [s17]; exact n18, fun z => absurd (a14.symm.trans z) (by omega), by omega, by omega, by omega, by omega, .inr (by rw [a14, s8, s9]; exact cg.2), by rw [s7]; exact n25⟩, ?_, ?_, ?_, ?_, ?_⟩
  · intro k hk3
    have z := h57 k hk3
    rw [f121 (5 + k) (by omega) (by omega), f57]
    exact z
  · intro j hj3
    have z := h56 j hj3
    rw [f121 (109 + j) (by omega) (by omega), f56]
    exact z
  · intro j hj3
    have z := h58 j hj3
    rw [f121 (409 + j) (by omega) (by omega), f58]
    exact z
  · intro j g1 g2
    rw [s8] at g1
    rw [s9] at g2
    have z := h55 j g1 g2
    have hj9 : j < 100 := by omega
    rw [f121 (9 + j) (by omega) (by omega), f55]
    exact z
  · intro j g1
    rw [s13] at g1
    have z := hH j g1
    have hj9 : j < 8 := by omega
    rw [f121 (501 + j) (by omega) (by omega), f121 (509 + j) (by omega) (by omega), f60, f61, f59, f123, s8, s9]
    exact z
set_option maxHeartbeats 1000000 in
theorem lk_wolf {σ ν : Nat → Nat → Int} {c s : Nat} {b : Nat → Int} {n m p : Nat} (hW : TokK σ b n m p) (hM : MSt ν b n m p) (hk : tkK b n m p = 1) (hR : RelL σ ν 0) (hx : ix (σ 4) (tkV b n m p) 16 0 = 10) (h17 : ν 118 17 = 2003790950) : LokM σ ν b n m p c s := by
  obtain ⟨w2, wn, wp, t1, t2, t3, t4, t5, t6⟩ := hW
  have hC : CSt σ b n m (tkN b n m p) := ⟨w2, wn, (tkN_b wp).2.1, t1, t2, t3⟩
  have hR0 := hR
  obtain ⟨⟨n1, n2, n3, n4, n5, n6, n7, n8, n9, n10, n11, n12, n13, n14, n15, n16, n17, n18, n19, n20, n21, n22, n23, n24, n25⟩, h57, h56, h58, h55, hH⟩ := hR
  have h5 : σ 1 5 = 1 := t5.trans hk
  have hx2 : ix (σ 4) (σ 1 6) 16 0 = 10 := by rw [t6]; exact hx
  have hM2 := hM
  obtain ⟨_, _, _, _, _, _, m12, m11, _, m17, _, _⟩ := hM2
  have h11 : ν 118 11 = 1 := m11.trans (mkk_1.mpr hk)
  have c8m : 0 ≤ ν 121 0 ∧ ν 121 0 ≤ 10 := by rw [n9]; exact n1
  have c9m : 0 ≤ ν 121 1 ∧ ν 121 1 ≤ 10 := by rw [n10]; exact n2
  obtain ⟨O, hO, hO8, o0, o0x, o1, o1x, o2, o2x⟩ := bitsO n17 n18 n19 n20
  by_cases h14 : σ 54 14 = -1
  · by_cases e0 : eN b n m (tkN b n m p) 0 (σ 54 8 - 1) = 0
    · have q0 := (eN_ok e0).2
      by_cases e1 : eN b n m (tkN b n m (tkN b n m p)) 0 (σ 54 9 - 1) = 0
      · have q1 := (eN_ok e1).2
        by_cases e2 : eN b n m (tkN b n m (tkN b n m (tkN b n m p))) 0 99 = 0
        · have q2 := (eN_ok e2).2
          by_cases e3 : tkK b n m (tkN b n m (tkN b n m (tkN b n m (tkN b n m p)))) = 3
          · obtain ⟨σ', ⟨kC, kF, a14, a15, f54, f55, f56, f57, f58, f59, f60, f61⟩, K⟩ := (D10 (v := 1) h5 hx2 (.inr rfl) (k_wolf_ok (hC0 := hC) (c8 := n1) (c9 := n2) (h14 := h14) (e2 := e2) (e3 := e3) (e0 := e0) (e1 := e1) ))
            obtain ⟨ν', ⟨mS, mF, b20, b21, b499, b500, f121, f123⟩, M⟩ := (E10 (v := 1) h11 h17 (by have z := m_wolf_ok (c := c) (s := s) (hM := hM) hk (hO := hO) (hO8 := hO8) (hb := o2 h14) (c8 := c8m) (c9 := c9m) (e0 := by rw [n9]; exact e0) (e1 := by rw [n10]; exact e1) (e2 := e2); exact z))
            exact .inl ⟨σ', ν', (tkN b n m (tkN b n m (tkN b n m (tkN b n m p)))), kF, mF, K, M, kC, mS, e3, (lenTwo wp hk (Nat.le_trans (Nat.le_trans (Nat.le_trans (Nat.le_refl _) (tkN_b (tkN_b wp).2.1).1) (tkN_b (tkN_b (tkN_b wp).2.1).2.1).1) (tkN_b (tkN_b (tkN_b (tkN_b wp).2.1).2.1).2.1).1) (tkN_b (tkN_b (tkN_b (tkN_b wp).2.1).2.1).2.1).2.1 e3), rel_wolf hR0 (mF.1.2.1 19 (by decide)) q0 q1 q2 h14 hO a14 a15 f54 f55 f56 f57 f58 f59 f60 f61 b20 b21 b499 b500 f121 f123⟩
          · exact LokM.e (D10 (v := 0) h5 hx2 (.inl rfl) (k_wolf_x3 (hC0 := hC) (c8 := n1) (c9 := n2) (h14 := h14) (e2 := e2) (e3 := e3) (e0 := e0) (e1 := e1) )) e3 (E10 (v := 1) h11 h17 (by have z := m_wolf_ok (c := c) (s := s) (hM := hM) hk (hO := hO) (hO8 := hO8) (hb := o2 h14) (c8 := c8m) (c9 := c9m) (e0 := by rw [n9]; exact e0) (e1 := by rw [n10]; exact e1) (e2 := e2); exact z))
        · exact LokM.b (Nat.le_trans (tkP_b (tkN_b (tkN_b (tkN_b wp).2.1).2.1).2.1) wn) (D10 (v := 0) h5 hx2 (.inl rfl) (k_wolf_x2 (hC0 := hC) (c8 := n1) (c9 := n2) (h14 := h14) (e2 := e2) (e0 := e0) (e1 := e1) )) (E10 (v := 0) h11 h17 (by have z := m_wolf_x2 (c := c) (s := s) (hM := hM) hk (hO := hO) (hO8 := hO8) (hb := o2 h14) (c8 := c8m) (c9 := c9m) (e0 := by rw [n9]; exact e0) (e1 := by rw [n10]; exact e1) (e2 := e2); exact z))
      · exact LokM.b (Nat.le_trans (tkP_b (tkN_b (tkN_b wp).2.1).2.1) wn) (D10 (v := 0) h5 hx2 (.inl rfl) (k_wolf_x1 (hC0 := hC) (c8 := n1) (c9 := n2) (h14 := h14) (e0 := e0) (e1 := e1) )) (E10 (v := 0) h11 h17 (by have z := m_wolf_x1 (c := c) (s := s) (hM := hM) hk (hO := hO) (hO8 := hO8) (hb := o2 h14) (c8 := c8m) (c9 := c9m) (e0 := by rw [n9]; exact e0) (e1 := by rw [n10]; exact e1) ; rw [n10] at z; exact z))
    · exact LokM.b (Nat.le_trans (tkP_b (tkN_b wp).2.1) wn) (D10 (v := 0) h5 hx2 (.inl rfl) (k_wolf_x0 (hC0 := hC) (c8 := n1) (c9 := n2) (h14 := h14) (e0 := e0))) (E10 (v := 0) h11 h17 (by have z := m_wolf_x0 (c := c) (s := s) (hM := hM) hk (hO := hO) (hO8 := hO8) (hb := o2 h14) (c8 := c8m) (c9 := c9m) (e0 := by rw [n9]; exact e0); rw [n9] at z; exact z))
  · exact LokM.b (Nat.le_trans (tkP_b wp) wn) (D10 (v := 0) h5 hx2 (.inl rfl) (by have z := k_wolf_had (μ := σ) (c := c) (s := s) (c8 := n1) (c9 := n2) (hC0 := hC) (h14 := h14); rw [t4] at z; exact z)) (E10 (v := 0) h11 h17 (by have z := m_once2_had (c := c) (s := s) (hM := hM) (hO := hO) (hO8 := hO8) (hbt := o2x h14); exact z))
