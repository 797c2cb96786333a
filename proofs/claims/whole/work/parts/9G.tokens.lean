variable {N : Int}
/-! ===== printed by wip/whole/gen9G.py: tokens ===== -/
abbrev bl (c : Int) : Prop := c = 32 ∨ c = 10
abbrev sm (c : Int) : Prop := 97 ≤ c ∧ c ≤ 122
abbrev dg (c : Int) : Prop := 48 ≤ c ∧ c ≤ 57
/-- behind the blanks; behind letters and digits -/
def tsk (b : Nat → Int) : Nat → Nat → Nat
  | 0, r => r
  | d + 1, r => if bl (b r) then tsk b d (r + 1) else r
def tre (b : Nat → Int) : Nat → Nat → Nat
  | 0, r => r
  | d + 1, r => if sm (b r) ∨ dg (b r) then tre b d (r + 1) else r
theorem tsk_t {b : Nat → Int} {d r : Nat} (h : bl (b r)) : tsk b (d + 1) r = tsk b d (r + 1) := if_pos h
theorem tsk_f {b : Nat → Int} {d r : Nat} (h : ¬ bl (b r)) : tsk b (d + 1) r = r := if_neg h
theorem tre_t {b : Nat → Int} {d r : Nat} (h : sm (b r) ∨ dg (b r)) : tre b (d + 1) r = tre b d (r + 1) := if_pos h
theorem tre_f {b : Nat → Int} {d r : Nat} (h : ¬ (sm (b r) ∨ dg (b r))) : tre b (d + 1) r = r := if_neg h
theorem tsk_b {b : Nat → Int} : ∀ d r : Nat, r ≤ tsk b d r ∧ tsk b d r ≤ r + d ∧ (tsk b d r < r + d → ¬ bl (b (tsk b d r)))
  | 0, r => ⟨Nat.le_refl r, Nat.le_refl r, fun h => by have : r < r + 0 := h; omega⟩
  | d + 1, r => by
    by_cases h : bl (b r)
    · rw [tsk_t h]
      obtain ⟨h1, h2, h3⟩ := tsk_b (b := b) d (r + 1)
      exact ⟨by omega, by omega, fun z => h3 (by omega)⟩
    · rw [tsk_f h]
      exact ⟨Nat.le_refl r, by omega, fun _ => h⟩
theorem tre_b {b : Nat → Int} : ∀ d r : Nat, r ≤ tre b d r ∧ tre b d r ≤ r + d
  | 0, r => ⟨Nat.le_refl r, Nat.le_refl r⟩
  | d + 1, r => by
    by_cases h : sm (b r) ∨ dg (b r)
    · rw [tre_t h]
      obtain ⟨h1, h2⟩ := tre_b (b := b) d (r + 1)
      exact ⟨by omega, by omega⟩
    · rw [tre_f h]
      exact ⟨Nat.le_refl r, by omega⟩
/-- letters, digits among the first k behind q; their word and number, as the class and as the model makes them -/
def cL (b : Nat → Int) (q : Nat) : Nat → Nat
  | 0 => 0
  | k + 1 => cL b q k + (if sm (b (q + k)) then 1 else 0)
def cD (b : Nat → Int) (q : Nat) : Nat → Nat
  | 0 => 0
  | k + 1 => cD b q k + (if sm (b (q + k)) then 0 else 1)
def wv (b : Nat → Int) (q : Nat) : Nat → Int
  | 0 => 0
  | k + 1 => if sm (b (q + k)) then w32 (w32 (w32 (wv b q k * 32) + b (q + k)) - 96) else wv b q k
def nv (b : Nat → Int) (q : Nat) : Nat → Int
  | 0 => 0
  | k + 1 => if sm (b (q + k)) then nv b q k else w32 (w32 (w32 (nv b q k * 10) + b (q + k)) - 48)
def mw (b : Nat → Int) (q : Nat) : Nat → Int
  | 0 => 0
  | k + 1 => if k < 6 then m_lor (m_lshl (mw b q k) 8) (b (q + k)) else mw b q k
def mn (b : Nat → Int) (q : Nat) : Nat → Int
  | 0 => 0
  | k + 1 => if k < 2 then w32 (w32 (w32 (10 * mn b q k) + b (q + k)) - 48) else mn b q k
theorem cLD {b : Nat → Int} {q : Nat} : ∀ k, cL b q k + cD b q k = k
  | 0 => rfl
  | k + 1 => by
    have := cLD (b := b) (q := q) k
    show cL b q k + (if sm (b (q + k)) then 1 else 0) + (cD b q k + (if sm (b (q + k)) then 0 else 1)) = k + 1
    split <;> omega
/-- the token at p: n bytes, the most bytes m -/
abbrev tq (b : Nat → Int) (n p : Nat) : Nat := tsk b (n - p) p
abbrev tl (b : Nat → Int) (n p : Nat) : Nat := tre b (n - tq b n p) (tq b n p) - tq b n p
def tkK (b : Nat → Int) (n m p : Nat) : Int := if m < n ∧ m ≤ tq b n p then 0 else if n ≤ tq b n p then 4 else if b (tq b n p) = 59 then 3 else if cD b (tq b n p) (tl b n p) = 0 ∧ 1 ≤ cL b (tq b n p) (tl b n p) ∧ cL b (tq b n p) (tl b n p) ≤ 6 then 1 else if cL b (tq b n p) (tl b n p) = 0 ∧ 1 ≤ cD b (tq b n p) (tl b n p) ∧ cD b (tq b n p) (tl b n p) ≤ 2 then 2 else 0
def tkP (b : Nat → Int) (n m p : Nat) : Nat := if m < n ∧ m ≤ tq b n p then m else tq b n p
def tkN (b : Nat → Int) (n m p : Nat) : Nat := if m < n ∧ m ≤ tq b n p then tq b n p else if n ≤ tq b n p then tq b n p else if b (tq b n p) = 59 then tq b n p + 1 else tre b (n - tq b n p) (tq b n p)
def tkV (b : Nat → Int) (n m p : Nat) : Int := if tkK b n m p = 1 then wv b (tq b n p) (tl b n p) else if tkK b n m p = 2 then nv b (tq b n p) (tl b n p) else 0
set_option maxHeartbeats 4000000 in
theorem l_readRun {μ : Nat → Nat → Int} {c s : Nat} {n q e : Nat} (hn : n ≤ 940) {A0 : Nat → Int} {Q : MR → Prop} (K : ∀ A v5 v6, A 1 = (n : Int) → A 2 = A0 2 → A 3 = (e : Int) → A 4 = A0 4 → A 6 = A0 6 → Rn PT none kX7_readRun 68 [some (mR 1), some (mI (((cL (μ 2) q (e - q) : Nat) : Int))), some (mI (((cD (μ 2) q (e - q) : Nat) : Int))), some (mI (nv (μ 2) q (e - q))), some (mI (wv (μ 2) q (e - q))), v5, v6] [] (mkh (m_upd μ 1 A) c s) Q) : ∀ (d k0 : Nat) (le : Int) (di : Int) (nu : Int) (wo : Int) (A : Nat → Int) (v6 : Option MV), le = ((cL (μ 2) q k0 : Nat) : Int) → di = ((cD (μ 2) q k0 : Nat) : Int) → nu = nv (μ 2) q k0 → wo = wv (μ 2) q k0 → q + k0 + d = n → (A 3 = ((q + k0 : Nat) : Int)) → (A 1 = (n : Int)) → (A 2 = A0 2) → (A 4 = A0 4) → (A 6 = A0 6) → (tre (μ 2) d (q + k0) = e) → (True) → Rn PT none kX7_readRun 10 [some (mR 1), some (mI (le)), some (mI (di)), some (mI (nu)), some (mI (wo)), some (mI (1)), v6] [] (mkh (m_upd μ 1 A) c s) (Q) := by
  intro d
  induction d with
  | zero =>
    intro k0 le di nu wo A v6 ele edi enu ewo hn hA3 hA1 hA2 hA4 hA6 he hb0
    subst ele edi enu ewo
    have hcl := cLD (b := (μ 2)) (q := q) k0
    have ek : e - q = k0 := by
      have h9 : q + k0 = e := he
      omega
    rw [ek] at K
    refine rn_iload (k' := 11) rfl rfl rfl ?_
    refine rn_if_eq (k' := 12) rfl rfl (fun hc1 => ?_) (fun hc1 => ?_)
    · exfalso; omega
    · skip
      refine rn_aload_n (k' := 13) rfl rfl rfl ?_
      refine rn_getI (k' := 14) rfl rfl K0_1 (by decide) rfl ?_
      show Rn PT none kX7_readRun 14 [some (mR 1), some (mI (((cL (μ 2) q k0 : Nat) : Int))), some (mI (((cD (μ 2) q k0 : Nat) : Int))), some (mI (nv (μ 2) q k0)), some (mI (wv (μ 2) q k0)), some (mI (1)), v6] [mI (A 3)] (mkh (m_upd μ 1 A) c s) _
      refine rn_aload_n (k' := 15) rfl rfl rfl ?_
      refine rn_getI (k' := 16) rfl rfl K0_1 (by decide) rfl ?_
      show Rn PT none kX7_readRun 16 [some (mR 1), some (mI (((cL (μ 2) q k0 : Nat) : Int))), some (mI (((cD (μ 2) q k0 : Nat) : Int))), some (mI (nv (μ 2) q k0)), some (mI (wv (μ 2) q k0)), some (mI (1)), v6] [mI (A 1), mI (A 3)] (mkh (m_upd μ 1 A) c s) _
      refine rn_icmp_ge (k' := 17) rfl rfl (fun hc2 => ?_) (fun hc2 => ?_)
      · skip
        exact K _ _ _ hA1 hA2 (by have h9 : q + k0 = e := he; omega) hA4 hA6
      · exfalso; omega
  | succ d ih =>
    intro k0 le di nu wo A v6 ele edi enu ewo hn hA3 hA1 hA2 hA4 hA6 he hb0
    subst ele edi enu ewo
    have hcl := cLD (b := (μ 2)) (q := q) k0
    have hi3 : (A 3).toNat = q + k0 := by omega
    have hr3 : μ 2 (A 3).toNat = μ 2 (q + k0) := by rw [hi3]
    refine rn_iload (k' := 11) rfl rfl rfl ?_
    refine rn_if_eq (k' := 12) rfl rfl (fun hc1 => ?_) (fun hc1 => ?_)
    · exfalso; omega
    · skip
      refine rn_aload_n (k' := 13) rfl rfl rfl ?_
      refine rn_getI (k' := 14) rfl rfl K0_1 (by decide) rfl ?_
      show Rn PT none kX7_readRun 14 [some (mR 1), some (mI (((cL (μ 2) q k0 : Nat) : Int))), some (mI (((cD (μ 2) q k0 : Nat) : Int))), some (mI (nv (μ 2) q k0)), some (mI (wv (μ 2) q k0)), some (mI (1)), v6] [mI (A 3)] (mkh (m_upd μ 1 A) c s) _
      refine rn_aload_n (k' := 15) rfl rfl rfl ?_
      refine rn_getI (k' := 16) rfl rfl K0_1 (by decide) rfl ?_
      show Rn PT none kX7_readRun 16 [some (mR 1), some (mI (((cL (μ 2) q k0 : Nat) : Int))), some (mI (((cD (μ 2) q k0 : Nat) : Int))), some (mI (nv (μ 2) q k0)), some (mI (wv (μ 2) q k0)), some (mI (1)), v6] [mI (A 1), mI (A 3)] (mkh (m_upd μ 1 A) c s) _
      refine rn_icmp_ge (k' := 17) rfl rfl (fun hc2 => ?_) (fun hc2 => ?_)
      · exfalso; omega
      · skip
        refine rn_aload_n (k' := 18) rfl rfl rfl ?_
        refine rn_getR (k' := 19) rfl rfl K0_1 (by decide) rfl R0_1_0 ?_
        refine rn_aload_n (k' := 20) rfl rfl rfl ?_
        refine rn_getI (k' := 21) rfl rfl K0_1 (by decide) rfl ?_
        show Rn PT none kX7_readRun 21 [some (mR 1), some (mI (((cL (μ 2) q k0 : Nat) : Int))), some (mI (((cD (μ 2) q k0 : Nat) : Int))), some (mI (nv (μ 2) q k0)), some (mI (wv (μ 2) q k0)), some (mI (1)), v6] [mI (A 3), mR 2] (mkh (m_upd μ 1 A) c s) _
        refine rn_iaload (k' := 22) rfl rfl K0_2 (by omega) (by omega) ?_
        show Rn PT none kX7_readRun 22 [some (mR 1), some (mI (((cL (μ 2) q k0 : Nat) : Int))), some (mI (((cD (μ 2) q k0 : Nat) : Int))), some (mI (nv (μ 2) q k0)), some (mI (wv (μ 2) q k0)), some (mI (1)), v6] [mI (μ 2 ((A 3).toNat))] (mkh (m_upd μ 1 A) c s) _
        rw [hr3]
        refine rn_istore (k' := 23) (L' := [some (mR 1), some (mI (((cL (μ 2) q k0 : Nat) : Int))), some (mI (((cD (μ 2) q k0 : Nat) : Int))), some (mI (nv (μ 2) q k0)), some (mI (wv (μ 2) q k0)), some (mI (1)), some (mI (μ 2 (q + k0)))]) rfl rfl (Nat.le_of_ble_eq_true rfl) rfl ?_
        refine rn_iload (k' := 24) rfl rfl rfl ?_
        refine rn_bipush (k' := 25) rfl rfl ?_
        refine rn_icmp_lt (k' := 26) rfl rfl (fun hc3 => ?_) (fun hc3 => ?_)
        · skip
          refine rn_iload (k' := 40) rfl rfl rfl ?_
          refine rn_bipush (k' := 41) rfl rfl ?_
          refine rn_icmp_lt (k' := 42) rfl rfl (fun hc4 => ?_) (fun hc4 => ?_)
          · skip
            refine rn_iconst (k' := 56) rfl rfl ?_
            refine rn_istore (k' := 57) (L' := [some (mR 1), some (mI (((cL (μ 2) q k0 : Nat) : Int))), some (mI (((cD (μ 2) q k0 : Nat) : Int))), some (mI (nv (μ 2) q k0)), some (mI (wv (μ 2) q k0)), some (mI (0)), some (mI (μ 2 (q + k0)))]) rfl rfl (Nat.le_of_ble_eq_true rfl) rfl ?_
            refine rn_aload_n (k' := 58) rfl rfl rfl ?_
            refine rn_dupR (k' := 59) rfl rfl ?_
            refine rn_getI (k' := 60) rfl rfl K0_1 (by decide) rfl ?_
            show Rn PT none kX7_readRun 60 [some (mR 1), some (mI (((cL (μ 2) q k0 : Nat) : Int))), some (mI (((cD (μ 2) q k0 : Nat) : Int))), some (mI (nv (μ 2) q k0)), some (mI (wv (μ 2) q k0)), some (mI (0)), some (mI (μ 2 (q + k0)))] [mI (A 3), mR 1] (mkh (m_upd μ 1 A) c s) _
            refine rn_iload (k' := 61) rfl rfl rfl ?_
            refine rn_if_eq (k' := 62) rfl rfl (fun hc5 => ?_) (fun hc5 => ?_)
            · skip
              refine rn_iconst (k' := 65) rfl rfl ?_
              refine rn_iadd (k' := 66) rfl rfl (by omega) ?_
              refine rn_putI (k' := 67) rfl rfl K0_1 (by decide) rfl ?_
              refine rn_goto rfl ?_
              refine rn_iload (k' := 11) rfl rfl rfl ?_
              refine rn_if_eq (k' := 12) rfl rfl (fun hc1 => ?_) (fun hc1 => ?_)
              · skip
                show Rn PT none kX7_readRun 68 [some (mR 1), some (mI (((cL (μ 2) q k0 : Nat) : Int))), some (mI (((cD (μ 2) q k0 : Nat) : Int))), some (mI (nv (μ 2) q k0)), some (mI (wv (μ 2) q k0)), some (mI (0)), some (mI (μ 2 (q + k0)))] [] (mkh (m_set (m_upd μ 1 A) 1 3 ((A 3) + 0)) c s) _
                rw [set_upd_eq (a := 1)]
                have hq3 : tre (μ 2) (d + 1) (q + k0) = q + k0 := tre_f (by omega)
                rw [hq3] at he
                have ek : e - q = k0 := by omega
                rw [← ek]
                exact K _ _ _ hA1 hA2 (by show A 3 + 0 = _; omega) hA4 hA6
              · exfalso; omega
            · exfalso; omega
          · skip
            refine rn_iload (k' := 43) rfl rfl rfl ?_
            refine rn_bipush (k' := 44) rfl rfl ?_
            refine rn_icmp_gt (k' := 45) rfl rfl (fun hc7 => ?_) (fun hc7 => ?_)
            · skip
              refine rn_iconst (k' := 56) rfl rfl ?_
              refine rn_istore (k' := 57) (L' := [some (mR 1), some (mI (((cL (μ 2) q k0 : Nat) : Int))), some (mI (((cD (μ 2) q k0 : Nat) : Int))), some (mI (nv (μ 2) q k0)), some (mI (wv (μ 2) q k0)), some (mI (0)), some (mI (μ 2 (q + k0)))]) rfl rfl (Nat.le_of_ble_eq_true rfl) rfl ?_
              refine rn_aload_n (k' := 58) rfl rfl rfl ?_
              refine rn_dupR (k' := 59) rfl rfl ?_
              refine rn_getI (k' := 60) rfl rfl K0_1 (by decide) rfl ?_
              show Rn PT none kX7_readRun 60 [some (mR 1), some (mI (((cL (μ 2) q k0 : Nat) : Int))), some (mI (((cD (μ 2) q k0 : Nat) : Int))), some (mI (nv (μ 2) q k0)), some (mI (wv (μ 2) q k0)), some (mI (0)), some (mI (μ 2 (q + k0)))] [mI (A 3), mR 1] (mkh (m_upd μ 1 A) c s) _
              refine rn_iload (k' := 61) rfl rfl rfl ?_
              refine rn_if_eq (k' := 62) rfl rfl (fun hc8 => ?_) (fun hc8 => ?_)
              · skip
                refine rn_iconst (k' := 65) rfl rfl ?_
                refine rn_iadd (k' := 66) rfl rfl (by omega) ?_
                refine rn_putI (k' := 67) rfl rfl K0_1 (by decide) rfl ?_
                refine rn_goto rfl ?_
                refine rn_iload (k' := 11) rfl rfl rfl ?_
                refine rn_if_eq (k' := 12) rfl rfl (fun hc1 => ?_) (fun hc1 => ?_)
                · skip
                  show Rn PT none kX7_readRun 68 [some (mR 1), some (mI (((cL (μ 2) q k0 : Nat) : Int))), some (mI (((cD (μ 2) q k0 : Nat) : Int))), some (mI (nv (μ 2) q k0)), some (mI (wv (μ 2) q k0)), some (mI (0)), some (mI (μ 2 (q + k0)))] [] (mkh (m_set (m_upd μ 1 A) 1 3 ((A 3) + 0)) c s) _
                  rw [set_upd_eq (a := 1)]
                  have hq3 : tre (μ 2) (d + 1) (q + k0) = q + k0 := tre_f (by omega)
                  rw [hq3] at he
                  have ek : e - q = k0 := by omega
                  rw [← ek]
                  exact K _ _ _ hA1 hA2 (by show A 3 + 0 = _; omega) hA4 hA6
                · exfalso; omega
              · exfalso; omega
            · skip
              refine rn_iinc (k' := 46) (L' := [some (mR 1), some (mI (((cL (μ 2) q k0 : Nat) : Int))), some (mI (((cD (μ 2) q k0 : Nat) : Int) + 1)), some (mI (nv (μ 2) q k0)), some (mI (wv (μ 2) q k0)), some (mI (1)), some (mI (μ 2 (q + k0)))]) rfl rfl rfl (by omega) rfl ?_
              refine rn_iload_n (k' := 47) rfl rfl rfl ?_
              refine rn_bipush (k' := 48) rfl rfl ?_
              refine rn_imulW (k' := 49) rfl rfl ?_
              refine rn_iload (k' := 50) rfl rfl rfl ?_
              refine rn_iaddW (k' := 51) rfl rfl ?_
              refine rn_bipush (k' := 52) rfl rfl ?_
              refine rn_isubW (k' := 53) rfl rfl ?_
              refine rn_istore_n (k' := 54) (L' := [some (mR 1), some (mI (((cL (μ 2) q k0 : Nat) : Int))), some (mI (((cD (μ 2) q k0 : Nat) : Int) + 1)), some (mI (w32 ((w32 ((w32 ((nv (μ 2) q k0) * 10)) + (μ 2 (q + k0)))) - 48))), some (mI (wv (μ 2) q k0)), some (mI (1)), some (mI (μ 2 (q + k0)))]) rfl rfl (Nat.le_of_ble_eq_true rfl) rfl ?_
              refine rn_goto rfl ?_
              refine rn_aload_n (k' := 58) rfl rfl rfl ?_
              refine rn_dupR (k' := 59) rfl rfl ?_
              refine rn_getI (k' := 60) rfl rfl K0_1 (by decide) rfl ?_
              show Rn PT none kX7_readRun 60 [some (mR 1), some (mI (((cL (μ 2) q k0 : Nat) : Int))), some (mI (((cD (μ 2) q k0 : Nat) : Int) + 1)), some (mI (w32 ((w32 ((w32 ((nv (μ 2) q k0) * 10)) + (μ 2 (q + k0)))) - 48))), some (mI (wv (μ 2) q k0)), some (mI (1)), some (mI (μ 2 (q + k0)))] [mI (A 3), mR 1] (mkh (m_upd μ 1 A) c s) _
              refine rn_iload (k' := 61) rfl rfl rfl ?_
              refine rn_if_eq (k' := 62) rfl rfl (fun hc10 => ?_) (fun hc10 => ?_)
              · exfalso; omega
              · skip
                refine rn_iconst (k' := 63) rfl rfl ?_
                refine rn_goto rfl ?_
                refine rn_iadd (k' := 66) rfl rfl (by omega) ?_
                refine rn_putI (k' := 67) rfl rfl K0_1 (by decide) rfl ?_
                refine rn_goto rfl ?_
                show Rn PT none kX7_readRun 10 [some (mR 1), some (mI (((cL (μ 2) q k0 : Nat) : Int))), some (mI (((cD (μ 2) q k0 : Nat) : Int) + 1)), some (mI (w32 ((w32 ((w32 ((nv (μ 2) q k0) * 10)) + (μ 2 (q + k0)))) - 48))), some (mI (wv (μ 2) q k0)), some (mI (1)), some (mI (μ 2 (q + k0)))] [] (mkh (m_set (m_upd μ 1 A) 1 3 ((A 3) + 1)) c s) _
                rw [set_upd_eq (a := 1)]
                have hsm : ¬ sm ((μ 2) (q + k0)) := by omega
                exact ih (k0 + 1) _ _ _ _ _ _ (by show _ = ((cL (μ 2) q k0 + (if _ then _ else _) : Nat) : Int); rw [if_neg hsm]; omega) (by show _ = ((cD (μ 2) q k0 + (if _ then _ else _) : Nat) : Int); rw [if_neg hsm]; omega) (by show _ = (if _ then _ else _); rw [if_neg hsm]) (by show _ = (if _ then _ else _); rw [if_neg hsm]) (by omega) (by show A 3 + 1 = _; omega) hA1 hA2 hA4 hA6 (by rw [← he]; exact (tre_t (b := μ 2) (d := d) (r := q + k0) (by omega)).symm) hb0
        · skip
          refine rn_iload (k' := 27) rfl rfl rfl ?_
          refine rn_bipush (k' := 28) rfl rfl ?_
          refine rn_icmp_gt (k' := 29) rfl rfl (fun hc12 => ?_) (fun hc12 => ?_)
          · skip
            refine rn_iload (k' := 40) rfl rfl rfl ?_
            refine rn_bipush (k' := 41) rfl rfl ?_
            refine rn_icmp_lt (k' := 42) rfl rfl (fun hc13 => ?_) (fun hc13 => ?_)
            · skip
              refine rn_iconst (k' := 56) rfl rfl ?_
              refine rn_istore (k' := 57) (L' := [some (mR 1), some (mI (((cL (μ 2) q k0 : Nat) : Int))), some (mI (((cD (μ 2) q k0 : Nat) : Int))), some (mI (nv (μ 2) q k0)), some (mI (wv (μ 2) q k0)), some (mI (0)), some (mI (μ 2 (q + k0)))]) rfl rfl (Nat.le_of_ble_eq_true rfl) rfl ?_
              refine rn_aload_n (k' := 58) rfl rfl rfl ?_
              refine rn_dupR (k' := 59) rfl rfl ?_
              refine rn_getI (k' := 60) rfl rfl K0_1 (by decide) rfl ?_
              show Rn PT none kX7_readRun 60 [some (mR 1), some (mI (((cL (μ 2) q k0 : Nat) : Int))), some (mI (((cD (μ 2) q k0 : Nat) : Int))), some (mI (nv (μ 2) q k0)), some (mI (wv (μ 2) q k0)), some (mI (0)), some (mI (μ 2 (q + k0)))] [mI (A 3), mR 1] (mkh (m_upd μ 1 A) c s) _
              refine rn_iload (k' := 61) rfl rfl rfl ?_
              refine rn_if_eq (k' := 62) rfl rfl (fun hc14 => ?_) (fun hc14 => ?_)
              · skip
                refine rn_iconst (k' := 65) rfl rfl ?_
                refine rn_iadd (k' := 66) rfl rfl (by omega) ?_
                refine rn_putI (k' := 67) rfl rfl K0_1 (by decide) rfl ?_
                refine rn_goto rfl ?_
                refine rn_iload (k' := 11) rfl rfl rfl ?_
                refine rn_if_eq (k' := 12) rfl rfl (fun hc1 => ?_) (fun hc1 => ?_)
                · skip
                  show Rn PT none kX7_readRun 68 [some (mR 1), some (mI (((cL (μ 2) q k0 : Nat) : Int))), some (mI (((cD (μ 2) q k0 : Nat) : Int))), some (mI (nv (μ 2) q k0)), some (mI (wv (μ 2) q k0)), some (mI (0)), some (mI (μ 2 (q + k0)))] [] (mkh (m_set (m_upd μ 1 A) 1 3 ((A 3) + 0)) c s) _
                  rw [set_upd_eq (a := 1)]
                  have hq3 : tre (μ 2) (d + 1) (q + k0) = q + k0 := tre_f (by omega)
                  rw [hq3] at he
                  have ek : e - q = k0 := by omega
                  rw [← ek]
                  exact K _ _ _ hA1 hA2 (by show A 3 + 0 = _; omega) hA4 hA6
                · exfalso; omega
              · exfalso; omega
            · skip
              refine rn_iload (k' := 43) rfl rfl rfl ?_
              refine rn_bipush (k' := 44) rfl rfl ?_
              refine rn_icmp_gt (k' := 45) rfl rfl (fun hc16 => ?_) (fun hc16 => ?_)
              · skip
                refine rn_iconst (k' := 56) rfl rfl ?_
                refine rn_istore (k' := 57) (L' := [some (mR 1), some (mI (((cL (μ 2) q k0 : Nat) : Int))), some (mI (((cD (μ 2) q k0 : Nat) : Int))), some (mI (nv (μ 2) q k0)), some (mI (wv (μ 2) q k0)), some (mI (0)), some (mI (μ 2 (q + k0)))]) rfl rfl (Nat.le_of_ble_eq_true rfl) rfl ?_
                refine rn_aload_n (k' := 58) rfl rfl rfl ?_
                refine rn_dupR (k' := 59) rfl rfl ?_
                refine rn_getI (k' := 60) rfl rfl K0_1 (by decide) rfl ?_
                show Rn PT none kX7_readRun 60 [some (mR 1), some (mI (((cL (μ 2) q k0 : Nat) : Int))), some (mI (((cD (μ 2) q k0 : Nat) : Int))), some (mI (nv (μ 2) q k0)), some (mI (wv (μ 2) q k0)), some (mI (0)), some (mI (μ 2 (q + k0)))] [mI (A 3), mR 1] (mkh (m_upd μ 1 A) c s) _
                refine rn_iload (k' := 61) rfl rfl rfl ?_
                refine rn_if_eq (k' := 62) rfl rfl (fun hc17 => ?_) (fun hc17 => ?_)
                · skip
                  refine rn_iconst (k' := 65) rfl rfl ?_
                  refine rn_iadd (k' := 66) rfl rfl (by omega) ?_
                  refine rn_putI (k' := 67) rfl rfl K0_1 (by decide) rfl ?_
                  refine rn_goto rfl ?_
                  refine rn_iload (k' := 11) rfl rfl rfl ?_
                  refine rn_if_eq (k' := 12) rfl rfl (fun hc1 => ?_) (fun hc1 => ?_)
                  · skip
                    show Rn PT none kX7_readRun 68 [some (mR 1), some (mI (((cL (μ 2) q k0 : Nat) : Int))), some (mI (((cD (μ 2) q k0 : Nat) : Int))), some (mI (nv (μ 2) q k0)), some (mI (wv (μ 2) q k0)), some (mI (0)), some (mI (μ 2 (q + k0)))] [] (mkh (m_set (m_upd μ 1 A) 1 3 ((A 3) + 0)) c s) _
                    rw [set_upd_eq (a := 1)]
                    have hq3 : tre (μ 2) (d + 1) (q + k0) = q + k0 := tre_f (by omega)
                    rw [hq3] at he
                    have ek : e - q = k0 := by omega
                    rw [← ek]
                    exact K _ _ _ hA1 hA2 (by show A 3 + 0 = _; omega) hA4 hA6
                  · exfalso; omega
                · exfalso; omega
              · skip
                refine rn_iinc (k' := 46) (L' := [some (mR 1), some (mI (((cL (μ 2) q k0 : Nat) : Int))), some (mI (((cD (μ 2) q k0 : Nat) : Int) + 1)), some (mI (nv (μ 2) q k0)), some (mI (wv (μ 2) q k0)), some (mI (1)), some (mI (μ 2 (q + k0)))]) rfl rfl rfl (by omega) rfl ?_
                refine rn_iload_n (k' := 47) rfl rfl rfl ?_
                refine rn_bipush (k' := 48) rfl rfl ?_
                refine rn_imulW (k' := 49) rfl rfl ?_
                refine rn_iload (k' := 50) rfl rfl rfl ?_
                refine rn_iaddW (k' := 51) rfl rfl ?_
                refine rn_bipush (k' := 52) rfl rfl ?_
                refine rn_isubW (k' := 53) rfl rfl ?_
                refine rn_istore_n (k' := 54) (L' := [some (mR 1), some (mI (((cL (μ 2) q k0 : Nat) : Int))), some (mI (((cD (μ 2) q k0 : Nat) : Int) + 1)), some (mI (w32 ((w32 ((w32 ((nv (μ 2) q k0) * 10)) + (μ 2 (q + k0)))) - 48))), some (mI (wv (μ 2) q k0)), some (mI (1)), some (mI (μ 2 (q + k0)))]) rfl rfl (Nat.le_of_ble_eq_true rfl) rfl ?_
                refine rn_goto rfl ?_
                refine rn_aload_n (k' := 58) rfl rfl rfl ?_
                refine rn_dupR (k' := 59) rfl rfl ?_
                refine rn_getI (k' := 60) rfl rfl K0_1 (by decide) rfl ?_
                show Rn PT none kX7_readRun 60 [some (mR 1), some (mI (((cL (μ 2) q k0 : Nat) : Int))), some (mI (((cD (μ 2) q k0 : Nat) : Int) + 1)), some (mI (w32 ((w32 ((w32 ((nv (μ 2) q k0) * 10)) + (μ 2 (q + k0)))) - 48))), some (mI (wv (μ 2) q k0)), some (mI (1)), some (mI (μ 2 (q + k0)))] [mI (A 3), mR 1] (mkh (m_upd μ 1 A) c s) _
                refine rn_iload (k' := 61) rfl rfl rfl ?_
                refine rn_if_eq (k' := 62) rfl rfl (fun hc19 => ?_) (fun hc19 => ?_)
                · exfalso; omega
                · skip
                  refine rn_iconst (k' := 63) rfl rfl ?_
                  refine rn_goto rfl ?_
                  refine rn_iadd (k' := 66) rfl rfl (by omega) ?_
                  refine rn_putI (k' := 67) rfl rfl K0_1 (by decide) rfl ?_
                  refine rn_goto rfl ?_
                  show Rn PT none kX7_readRun 10 [some (mR 1), some (mI (((cL (μ 2) q k0 : Nat) : Int))), some (mI (((cD (μ 2) q k0 : Nat) : Int) + 1)), some (mI (w32 ((w32 ((w32 ((nv (μ 2) q k0) * 10)) + (μ 2 (q + k0)))) - 48))), some (mI (wv (μ 2) q k0)), some (mI (1)), some (mI (μ 2 (q + k0)))] [] (mkh (m_set (m_upd μ 1 A) 1 3 ((A 3) + 1)) c s) _
                  rw [set_upd_eq (a := 1)]
                  have hsm : ¬ sm ((μ 2) (q + k0)) := by omega
                  exact ih (k0 + 1) _ _ _ _ _ _ (by show _ = ((cL (μ 2) q k0 + (if _ then _ else _) : Nat) : Int); rw [if_neg hsm]; omega) (by show _ = ((cD (μ 2) q k0 + (if _ then _ else _) : Nat) : Int); rw [if_neg hsm]; omega) (by show _ = (if _ then _ else _); rw [if_neg hsm]) (by show _ = (if _ then _ else _); rw [if_neg hsm]) (by omega) (by show A 3 + 1 = _; omega) hA1 hA2 hA4 hA6 (by rw [← he]; exact (tre_t (b := μ 2) (d := d) (r := q + k0) (by omega)).symm) hb0
          · skip
            refine rn_iinc (k' := 30) (L' := [some (mR 1), some (mI (((cL (μ 2) q k0 : Nat) : Int) + 1)), some (mI (((cD (μ 2) q k0 : Nat) : Int))), some (mI (nv (μ 2) q k0)), some (mI (wv (μ 2) q k0)), some (mI (1)), some (mI (μ 2 (q + k0)))]) rfl rfl rfl (by omega) rfl ?_
            refine rn_iload (k' := 31) rfl rfl rfl ?_
            refine rn_bipush (k' := 32) rfl rfl ?_
            refine rn_imulW (k' := 33) rfl rfl ?_
            refine rn_iload (k' := 34) rfl rfl rfl ?_
            refine rn_iaddW (k' := 35) rfl rfl ?_
            refine rn_bipush (k' := 36) rfl rfl ?_
            refine rn_isubW (k' := 37) rfl rfl ?_
            refine rn_istore (k' := 38) (L' := [some (mR 1), some (mI (((cL (μ 2) q k0 : Nat) : Int) + 1)), some (mI (((cD (μ 2) q k0 : Nat) : Int))), some (mI (nv (μ 2) q k0)), some (mI (w32 ((w32 ((w32 ((wv (μ 2) q k0) * 32)) + (μ 2 (q + k0)))) - 96))), some (mI (1)), some (mI (μ 2 (q + k0)))]) rfl rfl (Nat.le_of_ble_eq_true rfl) rfl ?_
            refine rn_goto rfl ?_
            refine rn_aload_n (k' := 58) rfl rfl rfl ?_
            refine rn_dupR (k' := 59) rfl rfl ?_
            refine rn_getI (k' := 60) rfl rfl K0_1 (by decide) rfl ?_
            show Rn PT none kX7_readRun 60 [some (mR 1), some (mI (((cL (μ 2) q k0 : Nat) : Int) + 1)), some (mI (((cD (μ 2) q k0 : Nat) : Int))), some (mI (nv (μ 2) q k0)), some (mI (w32 ((w32 ((w32 ((wv (μ 2) q k0) * 32)) + (μ 2 (q + k0)))) - 96))), some (mI (1)), some (mI (μ 2 (q + k0)))] [mI (A 3), mR 1] (mkh (m_upd μ 1 A) c s) _
            refine rn_iload (k' := 61) rfl rfl rfl ?_
            refine rn_if_eq (k' := 62) rfl rfl (fun hc21 => ?_) (fun hc21 => ?_)
            · exfalso; omega
            · skip
              refine rn_iconst (k' := 63) rfl rfl ?_
              refine rn_goto rfl ?_
              refine rn_iadd (k' := 66) rfl rfl (by omega) ?_
              refine rn_putI (k' := 67) rfl rfl K0_1 (by decide) rfl ?_
              refine rn_goto rfl ?_
              show Rn PT none kX7_readRun 10 [some (mR 1), some (mI (((cL (μ 2) q k0 : Nat) : Int) + 1)), some (mI (((cD (μ 2) q k0 : Nat) : Int))), some (mI (nv (μ 2) q k0)), some (mI (w32 ((w32 ((w32 ((wv (μ 2) q k0) * 32)) + (μ 2 (q + k0)))) - 96))), some (mI (1)), some (mI (μ 2 (q + k0)))] [] (mkh (m_set (m_upd μ 1 A) 1 3 ((A 3) + 1)) c s) _
              rw [set_upd_eq (a := 1)]
              have hsm : sm ((μ 2) (q + k0)) := by omega
              exact ih (k0 + 1) _ _ _ _ _ _ (by show _ = ((cL (μ 2) q k0 + (if _ then _ else _) : Nat) : Int); rw [if_pos hsm]; omega) (by show _ = ((cD (μ 2) q k0 + (if _ then _ else _) : Nat) : Int); rw [if_pos hsm]; omega) (by show _ = (if _ then _ else _); rw [if_pos hsm]) (by show _ = (if _ then _ else _); rw [if_pos hsm]) (by omega) (by show A 3 + 1 = _; omega) hA1 hA2 hA4 hA6 (by rw [← he]; exact (tre_t (b := μ 2) (d := d) (r := q + k0) (by omega)).symm) hb0
/-- kind and value of a run of k letters and digits -/
def rK (b : Nat → Int) (q k : Nat) : Int := if cD b q k = 0 ∧ 1 ≤ cL b q k ∧ cL b q k ≤ 6 then 1 else if cL b q k = 0 ∧ 1 ≤ cD b q k ∧ cD b q k ≤ 2 then 2 else 0
def rV (b : Nat → Int) (q k : Nat) : Int := if rK b q k = 1 then wv b q k else if rK b q k = 2 then nv b q k else 0
theorem rK_1 {b : Nat → Int} {q k : Nat} (h : cD b q k = 0 ∧ 1 ≤ cL b q k ∧ cL b q k ≤ 6) : rK b q k = 1 := if_pos h
theorem rK_2 {b : Nat → Int} {q k : Nat} (h0 : ¬ (cD b q k = 0 ∧ 1 ≤ cL b q k ∧ cL b q k ≤ 6)) (h : cL b q k = 0 ∧ 1 ≤ cD b q k ∧ cD b q k ≤ 2) : rK b q k = 2 := by
  unfold rK
  rw [if_neg h0, if_pos h]
theorem rK_0 {b : Nat → Int} {q k : Nat} (h0 : ¬ (cD b q k = 0 ∧ 1 ≤ cL b q k ∧ cL b q k ≤ 6)) (h : ¬ (cL b q k = 0 ∧ 1 ≤ cD b q k ∧ cD b q k ≤ 2)) : rK b q k = 0 := by
  unfold rK
  rw [if_neg h0, if_neg h]
theorem rV_1 {b : Nat → Int} {q k : Nat} (h : rK b q k = 1) : rV b q k = wv b q k := if_pos h
theorem rV_2 {b : Nat → Int} {q k : Nat} (h : rK b q k = 2) : rV b q k = nv b q k := by
  unfold rV
  rw [if_neg (by omega), if_pos h]
theorem rV_0 {b : Nat → Int} {q k : Nat} (h : rK b q k = 0) : rV b q k = 0 := by
  unfold rV
  rw [if_neg (by omega), if_neg (by omega)]
theorem tk_run {b : Nat → Int} {n m p : Nat} (h1 : ¬ (m < n ∧ m ≤ tq b n p)) (h2 : ¬ n ≤ tq b n p) (h3 : ¬ b (tq b n p) = 59) : tkK b n m p = rK b (tq b n p) (tl b n p) ∧ tkV b n m p = rV b (tq b n p) (tl b n p) ∧ tkP b n m p = tq b n p ∧ tkN b n m p = tre b (n - tq b n p) (tq b n p) := by
  have e : tkK b n m p = rK b (tq b n p) (tl b n p) := by
    unfold tkK
    rw [if_neg h1, if_neg h2, if_neg h3]
    rfl
  refine ⟨e, ?_, ?_, ?_⟩
  · unfold tkV rV
    rw [e]
  · unfold tkP
    rw [if_neg h1]
  · unfold tkN
    rw [if_neg h1, if_neg h2, if_neg h3]
theorem tk_lim {b : Nat → Int} {n m p : Nat} (h1 : m < n ∧ m ≤ tq b n p) : tkK b n m p = 0 ∧ tkV b n m p = 0 ∧ tkP b n m p = m ∧ tkN b n m p = tq b n p := by
  have e : tkK b n m p = 0 := by unfold tkK; rw [if_pos h1]
  refine ⟨e, ?_, ?_, ?_⟩
  · unfold tkV; rw [e]; rfl
  · unfold tkP; rw [if_pos h1]
  · unfold tkN; rw [if_pos h1]
theorem tk_end {b : Nat → Int} {n m p : Nat} (h1 : ¬ (m < n ∧ m ≤ tq b n p)) (h2 : n ≤ tq b n p) : tkK b n m p = 4 ∧ tkV b n m p = 0 ∧ tkP b n m p = tq b n p ∧ tkN b n m p = tq b n p := by
  have e : tkK b n m p = 4 := by unfold tkK; rw [if_neg h1, if_pos h2]
  refine ⟨e, ?_, ?_, ?_⟩
  · unfold tkV; rw [e]; rfl
  · unfold tkP; rw [if_neg h1]
  · unfold tkN; rw [if_neg h1, if_pos h2]
theorem tk_semi {b : Nat → Int} {n m p : Nat} (h1 : ¬ (m < n ∧ m ≤ tq b n p)) (h2 : ¬ n ≤ tq b n p) (h3 : b (tq b n p) = 59) : tkK b n m p = 3 ∧ tkV b n m p = 0 ∧ tkP b n m p = tq b n p ∧ tkN b n m p = tq b n p + 1 := by
  have e : tkK b n m p = 3 := by unfold tkK; rw [if_neg h1, if_neg h2, if_pos h3]
  refine ⟨e, ?_, ?_, ?_⟩
  · unfold tkV; rw [e]; rfl
  · unfold tkP; rw [if_neg h1]
  · unfold tkN; rw [if_neg h1, if_neg h2, if_pos h3]
set_option maxHeartbeats 4000000 in
theorem c_readRun {μ : Nat → Nat → Int} {c s : Nat} {n q e : Nat} (hn : n ≤ 940) {A0 : Nat → Int} (h1 : A0 1 = (n : Int)) (h3 : A0 3 = ((q + 0 : Nat) : Int)) (h6 : A0 6 = 0) (hq : q ≤ n) (he : tre (μ 2) (n - q) q = e) : ∃ A, (A 1 = (n : Int) ∧ A 2 = A0 2 ∧ A 3 = (e : Int) ∧ A 4 = A0 4 ∧ A 5 = rK (μ 2) q (e - q) ∧ A 6 = rV (μ 2) q (e - q)) ∧ Cl PT 70 [mR 1] (mkh (m_upd μ 1 A0) c s) (fun r => r = (some none, mkh (m_upd μ 1 A) c s)) := by
  refine Cl.ex (g := fun A => (some none, mkh (m_upd μ 1 A) c s)) ?_
  refine ⟨_, PT_70, Nat.le_of_ble_eq_true rfl, ?_⟩
  show Rn PT none kX7_readRun 0 [some (mR 1), none, none, none, none, none, none] [] (mkh (m_upd μ 1 A0) c s) _
  refine rn_iconst (k' := 1) rfl rfl ?_
  refine rn_istore_n (k' := 2) (L' := [some (mR 1), some (mI (0)), none, none, none, none, none]) rfl rfl (Nat.le_of_ble_eq_true rfl) rfl ?_
  refine rn_iconst (k' := 3) rfl rfl ?_
  refine rn_istore_n (k' := 4) (L' := [some (mR 1), some (mI (0)), some (mI (0)), none, none, none, none]) rfl rfl (Nat.le_of_ble_eq_true rfl) rfl ?_
  refine rn_iconst (k' := 5) rfl rfl ?_
  refine rn_istore_n (k' := 6) (L' := [some (mR 1), some (mI (0)), some (mI (0)), some (mI (0)), none, none, none]) rfl rfl (Nat.le_of_ble_eq_true rfl) rfl ?_
  refine rn_iconst (k' := 7) rfl rfl ?_
  refine rn_istore (k' := 8) (L' := [some (mR 1), some (mI (0)), some (mI (0)), some (mI (0)), some (mI (0)), none, none]) rfl rfl (Nat.le_of_ble_eq_true rfl) rfl ?_
  refine rn_iconst (k' := 9) rfl rfl ?_
  refine rn_istore (k' := 10) (L' := [some (mR 1), some (mI (0)), some (mI (0)), some (mI (0)), some (mI (0)), some (mI (1)), none]) rfl rfl (Nat.le_of_ble_eq_true rfl) rfl ?_
  refine l_readRun (q := q) (e := e) (A0 := A0) hn (fun A v5 v6 hA1 hA2 hA3 hA4 hA6_ => ?_) (n - q) 0 _ _ _ _ A0 _ rfl rfl rfl rfl (by omega) h3 h1 rfl rfl rfl (by rw [← he]; rfl) trivial
  have hA6 : A 6 = 0 := hA6_.trans h6
  have hcl := cLD (b := μ 2) (q := q) (e - q)
  refine rn_aload_n (k' := 69) rfl rfl rfl ?_
  refine rn_iconst (k' := 70) rfl rfl ?_
  refine rn_putI (k' := 71) rfl rfl K0_1 (by decide) rfl ?_
  refine rn_iload_n (k' := 72) rfl rfl rfl ?_
  refine rn_if_ne (k' := 73) rfl rfl (fun hc2 => ?_) (fun hc2 => ?_)
  · skip
    refine rn_iload_n (k' := 87) rfl rfl rfl ?_
    refine rn_if_ne (k' := 88) rfl rfl (fun hc3 => ?_) (fun hc3 => ?_)
    · skip
      refine rn_vret rfl ?_
      have hK := rK_0 (b := μ 2) (q := q) (k := e - q) (by omega) (by omega)
      have hV := rV_0 hK
      rw [set_upd_eq (a := 1)]
      refine ⟨_, rfl, hA1, hA2, hA3, hA4, ?_, ?_⟩
      · rw [hK]; rfl
      · rw [hV]; first | rfl | exact hA6
    · skip
      refine rn_iload_n (k' := 89) rfl rfl rfl ?_
      refine rn_iconst (k' := 90) rfl rfl ?_
      refine rn_icmp_lt (k' := 91) rfl rfl (fun hc4 => ?_) (fun hc4 => ?_)
      · skip
        refine rn_vret rfl ?_
        have hK := rK_0 (b := μ 2) (q := q) (k := e - q) (by omega) (by omega)
        have hV := rV_0 hK
        rw [set_upd_eq (a := 1)]
        refine ⟨_, rfl, hA1, hA2, hA3, hA4, ?_, ?_⟩
        · rw [hK]; rfl
        · rw [hV]; first | rfl | exact hA6
      · skip
        refine rn_iload_n (k' := 92) rfl rfl rfl ?_
        refine rn_iconst (k' := 93) rfl rfl ?_
        refine rn_icmp_gt (k' := 94) rfl rfl (fun hc5 => ?_) (fun hc5 => ?_)
        · skip
          refine rn_vret rfl ?_
          have hK := rK_0 (b := μ 2) (q := q) (k := e - q) (by omega) (by omega)
          have hV := rV_0 hK
          rw [set_upd_eq (a := 1)]
          refine ⟨_, rfl, hA1, hA2, hA3, hA4, ?_, ?_⟩
          · rw [hK]; rfl
          · rw [hV]; first | rfl | exact hA6
        · skip
          refine rn_aload_n (k' := 95) rfl rfl rfl ?_
          refine rn_iconst (k' := 96) rfl rfl ?_
          refine rn_putI (k' := 97) rfl rfl K0_1 (by decide) rfl ?_
          refine rn_aload_n (k' := 98) rfl rfl rfl ?_
          refine rn_iload_n (k' := 99) rfl rfl rfl ?_
          refine rn_putI (k' := 100) rfl rfl K0_1 (by decide) rfl ?_
          refine rn_vret rfl ?_
          have hK := rK_2 (b := μ 2) (q := q) (k := e - q) (by omega) (by omega)
          have hV := rV_2 hK
          rw [set_upd_eq (a := 1), set_upd_eq (a := 1), set_upd_eq (a := 1)]
          refine ⟨_, rfl, hA1, hA2, hA3, hA4, ?_, ?_⟩
          · rw [hK]; rfl
          · rw [hV]; first | rfl | exact hA6
  · skip
    refine rn_iload_n (k' := 74) rfl rfl rfl ?_
    refine rn_iconst (k' := 75) rfl rfl ?_
    refine rn_icmp_lt (k' := 76) rfl rfl (fun hc8 => ?_) (fun hc8 => ?_)
    · skip
      refine rn_iload_n (k' := 87) rfl rfl rfl ?_
      refine rn_if_ne (k' := 88) rfl rfl (fun hc9 => ?_) (fun hc9 => ?_)
      · skip
        refine rn_vret rfl ?_
        have hK := rK_0 (b := μ 2) (q := q) (k := e - q) (by omega) (by omega)
        have hV := rV_0 hK
        rw [set_upd_eq (a := 1)]
        refine ⟨_, rfl, hA1, hA2, hA3, hA4, ?_, ?_⟩
        · rw [hK]; rfl
        · rw [hV]; first | rfl | exact hA6
      · skip
        refine rn_iload_n (k' := 89) rfl rfl rfl ?_
        refine rn_iconst (k' := 90) rfl rfl ?_
        refine rn_icmp_lt (k' := 91) rfl rfl (fun hc10 => ?_) (fun hc10 => ?_)
        · skip
          refine rn_vret rfl ?_
          have hK := rK_0 (b := μ 2) (q := q) (k := e - q) (by omega) (by omega)
          have hV := rV_0 hK
          rw [set_upd_eq (a := 1)]
          refine ⟨_, rfl, hA1, hA2, hA3, hA4, ?_, ?_⟩
          · rw [hK]; rfl
          · rw [hV]; first | rfl | exact hA6
        · skip
          refine rn_iload_n (k' := 92) rfl rfl rfl ?_
          refine rn_iconst (k' := 93) rfl rfl ?_
          refine rn_icmp_gt (k' := 94) rfl rfl (fun hc11 => ?_) (fun hc11 => ?_)
          · skip
            refine rn_vret rfl ?_
            have hK := rK_0 (b := μ 2) (q := q) (k := e - q) (by omega) (by omega)
            have hV := rV_0 hK
            rw [set_upd_eq (a := 1)]
            refine ⟨_, rfl, hA1, hA2, hA3, hA4, ?_, ?_⟩
            · rw [hK]; rfl
            · rw [hV]; first | rfl | exact hA6
          · skip
            refine rn_aload_n (k' := 95) rfl rfl rfl ?_
            refine rn_iconst (k' := 96) rfl rfl ?_
            refine rn_putI (k' := 97) rfl rfl K0_1 (by decide) rfl ?_
            refine rn_aload_n (k' := 98) rfl rfl rfl ?_
            refine rn_iload_n (k' := 99) rfl rfl rfl ?_
            refine rn_putI (k' := 100) rfl rfl K0_1 (by decide) rfl ?_
            refine rn_vret rfl ?_
            have hK := rK_2 (b := μ 2) (q := q) (k := e - q) (by omega) (by omega)
            have hV := rV_2 hK
            rw [set_upd_eq (a := 1), set_upd_eq (a := 1), set_upd_eq (a := 1)]
            refine ⟨_, rfl, hA1, hA2, hA3, hA4, ?_, ?_⟩
            · rw [hK]; rfl
            · rw [hV]; first | rfl | exact hA6
    · skip
      refine rn_iload_n (k' := 77) rfl rfl rfl ?_
      refine rn_bipush (k' := 78) rfl rfl ?_
      refine rn_icmp_gt (k' := 79) rfl rfl (fun hc14 => ?_) (fun hc14 => ?_)
      · skip
        refine rn_iload_n (k' := 87) rfl rfl rfl ?_
        refine rn_if_ne (k' := 88) rfl rfl (fun hc15 => ?_) (fun hc15 => ?_)
        · skip
          refine rn_vret rfl ?_
          have hK := rK_0 (b := μ 2) (q := q) (k := e - q) (by omega) (by omega)
          have hV := rV_0 hK
          rw [set_upd_eq (a := 1)]
          refine ⟨_, rfl, hA1, hA2, hA3, hA4, ?_, ?_⟩
          · rw [hK]; rfl
          · rw [hV]; first | rfl | exact hA6
        · skip
          refine rn_iload_n (k' := 89) rfl rfl rfl ?_
          refine rn_iconst (k' := 90) rfl rfl ?_
          refine rn_icmp_lt (k' := 91) rfl rfl (fun hc16 => ?_) (fun hc16 => ?_)
          · skip
            refine rn_vret rfl ?_
            have hK := rK_0 (b := μ 2) (q := q) (k := e - q) (by omega) (by omega)
            have hV := rV_0 hK
            rw [set_upd_eq (a := 1)]
            refine ⟨_, rfl, hA1, hA2, hA3, hA4, ?_, ?_⟩
            · rw [hK]; rfl
            · rw [hV]; first | rfl | exact hA6
          · skip
            refine rn_iload_n (k' := 92) rfl rfl rfl ?_
            refine rn_iconst (k' := 93) rfl rfl ?_
            refine rn_icmp_gt (k' := 94) rfl rfl (fun hc17 => ?_) (fun hc17 => ?_)
            · skip
              refine rn_vret rfl ?_
              have hK := rK_0 (b := μ 2) (q := q) (k := e - q) (by omega) (by omega)
              have hV := rV_0 hK
              rw [set_upd_eq (a := 1)]
              refine ⟨_, rfl, hA1, hA2, hA3, hA4, ?_, ?_⟩
              · rw [hK]; rfl
              · rw [hV]; first | rfl | exact hA6
            · skip
              refine rn_aload_n (k' := 95) rfl rfl rfl ?_
              refine rn_iconst (k' := 96) rfl rfl ?_
              refine rn_putI (k' := 97) rfl rfl K0_1 (by decide) rfl ?_
              refine rn_aload_n (k' := 98) rfl rfl rfl ?_
              refine rn_iload_n (k' := 99) rfl rfl rfl ?_
              refine rn_putI (k' := 100) rfl rfl K0_1 (by decide) rfl ?_
              refine rn_vret rfl ?_
              have hK := rK_2 (b := μ 2) (q := q) (k := e - q) (by omega) (by omega)
              have hV := rV_2 hK
              rw [set_upd_eq (a := 1), set_upd_eq (a := 1), set_upd_eq (a := 1)]
              refine ⟨_, rfl, hA1, hA2, hA3, hA4, ?_, ?_⟩
              · rw [hK]; rfl
              · rw [hV]; first | rfl | exact hA6
      · skip
        refine rn_aload_n (k' := 80) rfl rfl rfl ?_
        refine rn_iconst (k' := 81) rfl rfl ?_
        refine rn_putI (k' := 82) rfl rfl K0_1 (by decide) rfl ?_
        refine rn_aload_n (k' := 83) rfl rfl rfl ?_
        refine rn_iload (k' := 84) rfl rfl rfl ?_
        refine rn_putI (k' := 85) rfl rfl K0_1 (by decide) rfl ?_
        refine rn_goto rfl ?_
        refine rn_vret rfl ?_
        have hK := rK_1 (b := μ 2) (q := q) (k := e - q) (by omega)
        have hV := rV_1 hK
        rw [set_upd_eq (a := 1), set_upd_eq (a := 1), set_upd_eq (a := 1)]
        refine ⟨_, rfl, hA1, hA2, hA3, hA4, ?_, ?_⟩
        · rw [hK]; rfl
        · rw [hV]; first | rfl | exact hA6
set_option maxHeartbeats 4000000 in
theorem l_readToken {μ : Nat → Nat → Int} {c s : Nat} {n m p : Nat} (hn : n ≤ 940) (hp : p ≤ n) : ∀ (d r : Nat) (A : Nat → Int), r + d = n → A 1 = (n : Int) → A 2 = (m : Int) → A 3 = (r : Int) → tsk (μ 2) d r = tsk (μ 2) (n - p) p → Rn PT none kX7_readToken 0 [some (mR 1)] [] (mkh (m_upd μ 1 A) c s) (fun r => ∃ A, r = (some none, mkh (m_upd μ 1 A) c s) ∧ A 1 = (n : Int) ∧ A 2 = (m : Int) ∧ A 3 = ((tkN (μ 2) n m p : Nat) : Int) ∧ A 4 = ((tkP (μ 2) n m p : Nat) : Int) ∧ A 5 = tkK (μ 2) n m p ∧ A 6 = tkV (μ 2) n m p) := by
  intro d
  induction d with
  | zero =>
    intro r A hr hA1 hA2 hA3 hq
    have hi3 : (A 3).toNat = r := by omega
    have hr3 : μ 2 (A 3).toNat = μ 2 r := by rw [hi3]
    have eq : tq (μ 2) n p = r := by
      show tsk (μ 2) (n - p) p = r
      rw [← hq]; rfl
    refine rn_aload_n (k' := 1) rfl rfl rfl ?_
    refine rn_getI (k' := 2) rfl rfl K0_1 (by decide) rfl ?_
    show Rn PT none kX7_readToken 2 [some (mR 1)] [mI (A 3)] (mkh (m_upd μ 1 A) c s) _
    refine rn_aload_n (k' := 3) rfl rfl rfl ?_
    refine rn_getI (k' := 4) rfl rfl K0_1 (by decide) rfl ?_
    show Rn PT none kX7_readToken 4 [some (mR 1)] [mI (A 1), mI (A 3)] (mkh (m_upd μ 1 A) c s) _
    refine rn_icmp_ge (k' := 5) rfl rfl (fun hc1 => ?_) (fun hc1 => ?_)
    · skip
      refine rn_aload_n (k' := 27) rfl rfl rfl ?_
      refine rn_iconst (k' := 28) rfl rfl ?_
      refine rn_putI (k' := 29) rfl rfl K0_1 (by decide) rfl ?_
      refine rn_aload_n (k' := 30) rfl rfl rfl ?_
      refine rn_getI (k' := 31) rfl rfl K0_1 (by decide) rfl ?_
      show Rn PT none kX7_readToken 31 [some (mR 1)] [mI (A 1)] (mkh (m_set (m_upd μ 1 A) 1 6 (0)) c s) _
      refine rn_aload_n (k' := 32) rfl rfl rfl ?_
      refine rn_getI (k' := 33) rfl rfl K0_1 (by decide) rfl ?_
      show Rn PT none kX7_readToken 33 [some (mR 1)] [mI (A 2), mI (A 1)] (mkh (m_set (m_upd μ 1 A) 1 6 (0)) c s) _
      refine rn_icmp_le (k' := 34) rfl rfl (fun hc2 => ?_) (fun hc2 => ?_)
      · skip
        refine rn_aload_n (k' := 48) rfl rfl rfl ?_
        refine rn_aload_n (k' := 49) rfl rfl rfl ?_
        refine rn_getI (k' := 50) rfl rfl K0_1 (by decide) rfl ?_
        show Rn PT none kX7_readToken 50 [some (mR 1)] [mI (A 3), mR 1] (mkh (m_set (m_upd μ 1 A) 1 6 (0)) c s) _
        refine rn_putI (k' := 51) rfl rfl K0_1 (by decide) rfl ?_
        refine rn_aload_n (k' := 52) rfl rfl rfl ?_
        refine rn_getI (k' := 53) rfl rfl K0_1 (by decide) rfl ?_
        show Rn PT none kX7_readToken 53 [some (mR 1)] [mI (A 3)] (mkh (m_set (m_set (m_upd μ 1 A) 1 6 (0)) 1 4 (A 3)) c s) _
        refine rn_aload_n (k' := 54) rfl rfl rfl ?_
        refine rn_getI (k' := 55) rfl rfl K0_1 (by decide) rfl ?_
        show Rn PT none kX7_readToken 55 [some (mR 1)] [mI (A 1), mI (A 3)] (mkh (m_set (m_set (m_upd μ 1 A) 1 6 (0)) 1 4 (A 3)) c s) _
        refine rn_icmp_lt (k' := 56) rfl rfl (fun hc4 => ?_) (fun hc4 => ?_)
        · exfalso; omega
        · skip
          refine rn_aload_n (k' := 57) rfl rfl rfl ?_
          refine rn_iconst (k' := 58) rfl rfl ?_
          refine rn_putI (k' := 59) rfl rfl K0_1 (by decide) rfl ?_
          refine rn_goto rfl ?_
          refine rn_vret rfl ?_
          obtain ⟨t1, t2, t3, t4⟩ := tk_end (b := μ 2) (n := n) (m := m) (p := p) (by omega) (by omega)
          rw [set_upd_eq (a := 1), set_upd_eq (a := 1), set_upd_eq (a := 1)]
          refine ⟨_, rfl, hA1, hA2, ?_, ?_, ?_, ?_⟩
          · rw [t4]; show _ = _; first | exact (show A 3 = _ by omega) | exact (show A 3 + 1 = _ by omega)
          · rw [t3]; first | exact (show A 2 = _ by omega) | exact (show A 3 = _ by omega)
          · rw [t1]; rfl
          · rw [t2]; rfl
      · skip
        refine rn_aload_n (k' := 35) rfl rfl rfl ?_
        refine rn_getI (k' := 36) rfl rfl K0_1 (by decide) rfl ?_
        show Rn PT none kX7_readToken 36 [some (mR 1)] [mI (A 3)] (mkh (m_set (m_upd μ 1 A) 1 6 (0)) c s) _
        refine rn_aload_n (k' := 37) rfl rfl rfl ?_
        refine rn_getI (k' := 38) rfl rfl K0_1 (by decide) rfl ?_
        show Rn PT none kX7_readToken 38 [some (mR 1)] [mI (A 2), mI (A 3)] (mkh (m_set (m_upd μ 1 A) 1 6 (0)) c s) _
        refine rn_icmp_lt (k' := 39) rfl rfl (fun hc6 => ?_) (fun hc6 => ?_)
        · skip
          refine rn_aload_n (k' := 48) rfl rfl rfl ?_
          refine rn_aload_n (k' := 49) rfl rfl rfl ?_
          refine rn_getI (k' := 50) rfl rfl K0_1 (by decide) rfl ?_
          show Rn PT none kX7_readToken 50 [some (mR 1)] [mI (A 3), mR 1] (mkh (m_set (m_upd μ 1 A) 1 6 (0)) c s) _
          refine rn_putI (k' := 51) rfl rfl K0_1 (by decide) rfl ?_
          refine rn_aload_n (k' := 52) rfl rfl rfl ?_
          refine rn_getI (k' := 53) rfl rfl K0_1 (by decide) rfl ?_
          show Rn PT none kX7_readToken 53 [some (mR 1)] [mI (A 3)] (mkh (m_set (m_set (m_upd μ 1 A) 1 6 (0)) 1 4 (A 3)) c s) _
          refine rn_aload_n (k' := 54) rfl rfl rfl ?_
          refine rn_getI (k' := 55) rfl rfl K0_1 (by decide) rfl ?_
          show Rn PT none kX7_readToken 55 [some (mR 1)] [mI (A 1), mI (A 3)] (mkh (m_set (m_set (m_upd μ 1 A) 1 6 (0)) 1 4 (A 3)) c s) _
          refine rn_icmp_lt (k' := 56) rfl rfl (fun hc8 => ?_) (fun hc8 => ?_)
          · exfalso; omega
          · skip
            refine rn_aload_n (k' := 57) rfl rfl rfl ?_
            refine rn_iconst (k' := 58) rfl rfl ?_
            refine rn_putI (k' := 59) rfl rfl K0_1 (by decide) rfl ?_
            refine rn_goto rfl ?_
            refine rn_vret rfl ?_
            obtain ⟨t1, t2, t3, t4⟩ := tk_end (b := μ 2) (n := n) (m := m) (p := p) (by omega) (by omega)
            rw [set_upd_eq (a := 1), set_upd_eq (a := 1), set_upd_eq (a := 1)]
            refine ⟨_, rfl, hA1, hA2, ?_, ?_, ?_, ?_⟩
            · rw [t4]; show _ = _; first | exact (show A 3 = _ by omega) | exact (show A 3 + 1 = _ by omega)
            · rw [t3]; first | exact (show A 2 = _ by omega) | exact (show A 3 = _ by omega)
            · rw [t1]; rfl
            · rw [t2]; rfl
        · skip
          refine rn_aload_n (k' := 40) rfl rfl rfl ?_
          refine rn_aload_n (k' := 41) rfl rfl rfl ?_
          refine rn_getI (k' := 42) rfl rfl K0_1 (by decide) rfl ?_
          show Rn PT none kX7_readToken 42 [some (mR 1)] [mI (A 2), mR 1] (mkh (m_set (m_upd μ 1 A) 1 6 (0)) c s) _
          refine rn_putI (k' := 43) rfl rfl K0_1 (by decide) rfl ?_
          refine rn_aload_n (k' := 44) rfl rfl rfl ?_
          refine rn_iconst (k' := 45) rfl rfl ?_
          refine rn_putI (k' := 46) rfl rfl K0_1 (by decide) rfl ?_
          refine rn_vret rfl ?_
          obtain ⟨t1, t2, t3, t4⟩ := tk_lim (b := μ 2) (n := n) (m := m) (p := p) (by omega)
          rw [set_upd_eq (a := 1), set_upd_eq (a := 1), set_upd_eq (a := 1)]
          refine ⟨_, rfl, hA1, hA2, ?_, ?_, ?_, ?_⟩
          · rw [t4]; show _ = _; first | exact (show A 3 = _ by omega) | exact (show A 3 + 1 = _ by omega)
          · rw [t3]; first | exact (show A 2 = _ by omega) | exact (show A 3 = _ by omega)
          · rw [t1]; rfl
          · rw [t2]; rfl
    · exfalso; omega
  | succ d ih =>
    intro r A hr hA1 hA2 hA3 hq
    have hi3 : (A 3).toNat = r := by omega
    have hr3 : μ 2 (A 3).toNat = μ 2 r := by rw [hi3]
    refine rn_aload_n (k' := 1) rfl rfl rfl ?_
    refine rn_getI (k' := 2) rfl rfl K0_1 (by decide) rfl ?_
    show Rn PT none kX7_readToken 2 [some (mR 1)] [mI (A 3)] (mkh (m_upd μ 1 A) c s) _
    refine rn_aload_n (k' := 3) rfl rfl rfl ?_
    refine rn_getI (k' := 4) rfl rfl K0_1 (by decide) rfl ?_
    show Rn PT none kX7_readToken 4 [some (mR 1)] [mI (A 1), mI (A 3)] (mkh (m_upd μ 1 A) c s) _
    refine rn_icmp_ge (k' := 5) rfl rfl (fun hc1 => ?_) (fun hc1 => ?_)
    · exfalso; omega
    · skip
      refine rn_aload_n (k' := 6) rfl rfl rfl ?_
      refine rn_getR (k' := 7) rfl rfl K0_1 (by decide) rfl R0_1_0 ?_
      refine rn_aload_n (k' := 8) rfl rfl rfl ?_
      refine rn_getI (k' := 9) rfl rfl K0_1 (by decide) rfl ?_
      show Rn PT none kX7_readToken 9 [some (mR 1)] [mI (A 3), mR 2] (mkh (m_upd μ 1 A) c s) _
      refine rn_iaload (k' := 10) rfl rfl K0_2 (by omega) (by omega) ?_
      show Rn PT none kX7_readToken 10 [some (mR 1)] [mI (μ 2 ((A 3).toNat))] (mkh (m_upd μ 1 A) c s) _
      rw [hr3]
      refine rn_bipush (k' := 11) rfl rfl ?_
      refine rn_icmp_eq (k' := 12) rfl rfl (fun hc2 => ?_) (fun hc2 => ?_)
      · skip
        refine rn_aload_n (k' := 20) rfl rfl rfl ?_
        refine rn_dupR (k' := 21) rfl rfl ?_
        refine rn_getI (k' := 22) rfl rfl K0_1 (by decide) rfl ?_
        show Rn PT none kX7_readToken 22 [some (mR 1)] [mI (A 3), mR 1] (mkh (m_upd μ 1 A) c s) _
        refine rn_iconst (k' := 23) rfl rfl ?_
        refine rn_iadd (k' := 24) rfl rfl (by omega) ?_
        refine rn_putI (k' := 25) rfl rfl K0_1 (by decide) rfl ?_
        refine rn_goto rfl ?_
        show Rn PT none kX7_readToken 0 [some (mR 1)] [] (mkh (m_set (m_upd μ 1 A) 1 3 ((A 3) + 1)) c s) _
        rw [set_upd_eq (a := 1)]
        exact ih (r + 1) _ (by omega) hA1 hA2 (by show A 3 + 1 = _; omega) (by rw [← hq]; exact (tsk_t (b := μ 2) (d := d) (r := r) (by omega)).symm)
      · skip
        refine rn_aload_n (k' := 13) rfl rfl rfl ?_
        refine rn_getR (k' := 14) rfl rfl K0_1 (by decide) rfl R0_1_0 ?_
        refine rn_aload_n (k' := 15) rfl rfl rfl ?_
        refine rn_getI (k' := 16) rfl rfl K0_1 (by decide) rfl ?_
        show Rn PT none kX7_readToken 16 [some (mR 1)] [mI (A 3), mR 2] (mkh (m_upd μ 1 A) c s) _
        refine rn_iaload (k' := 17) rfl rfl K0_2 (by omega) (by omega) ?_
        show Rn PT none kX7_readToken 17 [some (mR 1)] [mI (μ 2 ((A 3).toNat))] (mkh (m_upd μ 1 A) c s) _
        rw [hr3]
        refine rn_bipush (k' := 18) rfl rfl ?_
        refine rn_icmp_ne (k' := 19) rfl rfl (fun hc4 => ?_) (fun hc4 => ?_)
        · skip
          have hnb : ¬ bl (μ 2 r) := by omega
          have eq : tq (μ 2) n p = r := by
            show tsk (μ 2) (n - p) p = r
            rw [← hq]; exact tsk_f hnb
          refine rn_aload_n (k' := 27) rfl rfl rfl ?_
          refine rn_iconst (k' := 28) rfl rfl ?_
          refine rn_putI (k' := 29) rfl rfl K0_1 (by decide) rfl ?_
          refine rn_aload_n (k' := 30) rfl rfl rfl ?_
          refine rn_getI (k' := 31) rfl rfl K0_1 (by decide) rfl ?_
          show Rn PT none kX7_readToken 31 [some (mR 1)] [mI (A 1)] (mkh (m_set (m_upd μ 1 A) 1 6 (0)) c s) _
          refine rn_aload_n (k' := 32) rfl rfl rfl ?_
          refine rn_getI (k' := 33) rfl rfl K0_1 (by decide) rfl ?_
          show Rn PT none kX7_readToken 33 [some (mR 1)] [mI (A 2), mI (A 1)] (mkh (m_set (m_upd μ 1 A) 1 6 (0)) c s) _
          refine rn_icmp_le (k' := 34) rfl rfl (fun hc2 => ?_) (fun hc2 => ?_)
          · skip
            refine rn_aload_n (k' := 48) rfl rfl rfl ?_
            refine rn_aload_n (k' := 49) rfl rfl rfl ?_
            refine rn_getI (k' := 50) rfl rfl K0_1 (by decide) rfl ?_
            show Rn PT none kX7_readToken 50 [some (mR 1)] [mI (A 3), mR 1] (mkh (m_set (m_upd μ 1 A) 1 6 (0)) c s) _
            refine rn_putI (k' := 51) rfl rfl K0_1 (by decide) rfl ?_
            refine rn_aload_n (k' := 52) rfl rfl rfl ?_
            refine rn_getI (k' := 53) rfl rfl K0_1 (by decide) rfl ?_
            show Rn PT none kX7_readToken 53 [some (mR 1)] [mI (A 3)] (mkh (m_set (m_set (m_upd μ 1 A) 1 6 (0)) 1 4 (A 3)) c s) _
            refine rn_aload_n (k' := 54) rfl rfl rfl ?_
            refine rn_getI (k' := 55) rfl rfl K0_1 (by decide) rfl ?_
            show Rn PT none kX7_readToken 55 [some (mR 1)] [mI (A 1), mI (A 3)] (mkh (m_set (m_set (m_upd μ 1 A) 1 6 (0)) 1 4 (A 3)) c s) _
            refine rn_icmp_lt (k' := 56) rfl rfl (fun hc4 => ?_) (fun hc4 => ?_)
            · skip
              refine rn_aload_n (k' := 61) rfl rfl rfl ?_
              refine rn_getR (k' := 62) rfl rfl K0_1 (by decide) rfl R0_1_0 ?_
              refine rn_aload_n (k' := 63) rfl rfl rfl ?_
              refine rn_getI (k' := 64) rfl rfl K0_1 (by decide) rfl ?_
              show Rn PT none kX7_readToken 64 [some (mR 1)] [mI (A 3), mR 2] (mkh (m_set (m_set (m_upd μ 1 A) 1 6 (0)) 1 4 (A 3)) c s) _
              refine rn_iaload (k' := 65) rfl rfl K0_2 (by omega) (by omega) ?_
              show Rn PT none kX7_readToken 65 [some (mR 1)] [mI (μ 2 ((A 3).toNat))] (mkh (m_set (m_set (m_upd μ 1 A) 1 6 (0)) 1 4 (A 3)) c s) _
              rw [hr3]
              refine rn_bipush (k' := 66) rfl rfl ?_
              refine rn_icmp_ne (k' := 67) rfl rfl (fun hc5 => ?_) (fun hc5 => ?_)
              · skip
                refine rn_aload_n (k' := 78) rfl rfl rfl ?_
                have hb59 : ¬ μ 2 (tq (μ 2) n p) = 59 := by rw [eq]; omega
                obtain ⟨t1, t2, t3, t4⟩ := tk_run (b := μ 2) (n := n) (m := m) (p := p) (by omega) (by omega) hb59
                obtain ⟨A2, ⟨u1, u2, u3, u4, u5, u6⟩, hcl⟩ := c_readRun (μ := μ) (c := c) (s := s) (n := n) (q := r) (e := tre (μ 2) (n - r) r) hn (A0 := (fs (fs A 6 0) 4 (A 3))) hA1 (by show A 3 = _; omega) rfl (by omega) rfl
                rw [set_upd_eq (a := 1), set_upd_eq (a := 1)]
                refine rn_callP (k' := 79) (y := 70) (vs := [mR 1]) (S' := []) (v := none) (h' := mkh (m_upd μ 1 A2) c s) rfl rfl rfl (hcl) ?_
                show Rn PT none kX7_readToken 79 [some (mR 1)] [] (mkh (m_upd μ 1 A2) c s) _
                refine rn_vret rfl ?_
                have etl : tl (μ 2) n p = tre (μ 2) (n - r) r - r := by
                  show tre (μ 2) (n - tq (μ 2) n p) (tq (μ 2) n p) - tq (μ 2) n p = _
                  rw [eq]
                refine ⟨A2, rfl, u1, u2.trans hA2, ?_, ?_, ?_, ?_⟩
                · rw [u3, t4, eq]
                · rw [u4, t3]; show A 3 = _; omega
                · rw [u5, t1, etl, eq]
                · rw [u6, t2, etl, eq]
              · skip
                refine rn_aload_n (k' := 68) rfl rfl rfl ?_
                refine rn_dupR (k' := 69) rfl rfl ?_
                refine rn_getI (k' := 70) rfl rfl K0_1 (by decide) rfl ?_
                show Rn PT none kX7_readToken 70 [some (mR 1)] [mI (A 3), mR 1] (mkh (m_set (m_set (m_upd μ 1 A) 1 6 (0)) 1 4 (A 3)) c s) _
                refine rn_iconst (k' := 71) rfl rfl ?_
                refine rn_iadd (k' := 72) rfl rfl (by omega) ?_
                refine rn_putI (k' := 73) rfl rfl K0_1 (by decide) rfl ?_
                refine rn_aload_n (k' := 74) rfl rfl rfl ?_
                refine rn_iconst (k' := 75) rfl rfl ?_
                refine rn_putI (k' := 76) rfl rfl K0_1 (by decide) rfl ?_
                refine rn_goto rfl ?_
                refine rn_vret rfl ?_
                have hb59 : μ 2 (tq (μ 2) n p) = 59 := by rw [eq]; omega
                obtain ⟨t1, t2, t3, t4⟩ := tk_semi (b := μ 2) (n := n) (m := m) (p := p) (by omega) (by omega) hb59
                rw [set_upd_eq (a := 1), set_upd_eq (a := 1), set_upd_eq (a := 1), set_upd_eq (a := 1)]
                refine ⟨_, rfl, hA1, hA2, ?_, ?_, ?_, ?_⟩
                · rw [t4]; show _ = _; first | exact (show A 3 = _ by omega) | exact (show A 3 + 1 = _ by omega)
                · rw [t3]; first | exact (show A 2 = _ by omega) | exact (show A 3 = _ by omega)
                · rw [t1]; rfl
                · rw [t2]; rfl
            · exfalso; omega
          · skip
            refine rn_aload_n (k' := 35) rfl rfl rfl ?_
            refine rn_getI (k' := 36) rfl rfl K0_1 (by decide) rfl ?_
            show Rn PT none kX7_readToken 36 [some (mR 1)] [mI (A 3)] (mkh (m_set (m_upd μ 1 A) 1 6 (0)) c s) _
            refine rn_aload_n (k' := 37) rfl rfl rfl ?_
            refine rn_getI (k' := 38) rfl rfl K0_1 (by decide) rfl ?_
            show Rn PT none kX7_readToken 38 [some (mR 1)] [mI (A 2), mI (A 3)] (mkh (m_set (m_upd μ 1 A) 1 6 (0)) c s) _
            refine rn_icmp_lt (k' := 39) rfl rfl (fun hc8 => ?_) (fun hc8 => ?_)
            · skip
              refine rn_aload_n (k' := 48) rfl rfl rfl ?_
              refine rn_aload_n (k' := 49) rfl rfl rfl ?_
              refine rn_getI (k' := 50) rfl rfl K0_1 (by decide) rfl ?_
              show Rn PT none kX7_readToken 50 [some (mR 1)] [mI (A 3), mR 1] (mkh (m_set (m_upd μ 1 A) 1 6 (0)) c s) _
              refine rn_putI (k' := 51) rfl rfl K0_1 (by decide) rfl ?_
              refine rn_aload_n (k' := 52) rfl rfl rfl ?_
              refine rn_getI (k' := 53) rfl rfl K0_1 (by decide) rfl ?_
              show Rn PT none kX7_readToken 53 [some (mR 1)] [mI (A 3)] (mkh (m_set (m_set (m_upd μ 1 A) 1 6 (0)) 1 4 (A 3)) c s) _
              refine rn_aload_n (k' := 54) rfl rfl rfl ?_
              refine rn_getI (k' := 55) rfl rfl K0_1 (by decide) rfl ?_
              show Rn PT none kX7_readToken 55 [some (mR 1)] [mI (A 1), mI (A 3)] (mkh (m_set (m_set (m_upd μ 1 A) 1 6 (0)) 1 4 (A 3)) c s) _
              refine rn_icmp_lt (k' := 56) rfl rfl (fun hc10 => ?_) (fun hc10 => ?_)
              · skip
                refine rn_aload_n (k' := 61) rfl rfl rfl ?_
                refine rn_getR (k' := 62) rfl rfl K0_1 (by decide) rfl R0_1_0 ?_
                refine rn_aload_n (k' := 63) rfl rfl rfl ?_
                refine rn_getI (k' := 64) rfl rfl K0_1 (by decide) rfl ?_
                show Rn PT none kX7_readToken 64 [some (mR 1)] [mI (A 3), mR 2] (mkh (m_set (m_set (m_upd μ 1 A) 1 6 (0)) 1 4 (A 3)) c s) _
                refine rn_iaload (k' := 65) rfl rfl K0_2 (by omega) (by omega) ?_
                show Rn PT none kX7_readToken 65 [some (mR 1)] [mI (μ 2 ((A 3).toNat))] (mkh (m_set (m_set (m_upd μ 1 A) 1 6 (0)) 1 4 (A 3)) c s) _
                rw [hr3]
                refine rn_bipush (k' := 66) rfl rfl ?_
                refine rn_icmp_ne (k' := 67) rfl rfl (fun hc11 => ?_) (fun hc11 => ?_)
                · skip
                  refine rn_aload_n (k' := 78) rfl rfl rfl ?_
                  have hb59 : ¬ μ 2 (tq (μ 2) n p) = 59 := by rw [eq]; omega
                  obtain ⟨t1, t2, t3, t4⟩ := tk_run (b := μ 2) (n := n) (m := m) (p := p) (by omega) (by omega) hb59
                  obtain ⟨A2, ⟨u1, u2, u3, u4, u5, u6⟩, hcl⟩ := c_readRun (μ := μ) (c := c) (s := s) (n := n) (q := r) (e := tre (μ 2) (n - r) r) hn (A0 := (fs (fs A 6 0) 4 (A 3))) hA1 (by show A 3 = _; omega) rfl (by omega) rfl
                  rw [set_upd_eq (a := 1), set_upd_eq (a := 1)]
                  refine rn_callP (k' := 79) (y := 70) (vs := [mR 1]) (S' := []) (v := none) (h' := mkh (m_upd μ 1 A2) c s) rfl rfl rfl (hcl) ?_
                  show Rn PT none kX7_readToken 79 [some (mR 1)] [] (mkh (m_upd μ 1 A2) c s) _
                  refine rn_vret rfl ?_
                  have etl : tl (μ 2) n p = tre (μ 2) (n - r) r - r := by
                    show tre (μ 2) (n - tq (μ 2) n p) (tq (μ 2) n p) - tq (μ 2) n p = _
                    rw [eq]
                  refine ⟨A2, rfl, u1, u2.trans hA2, ?_, ?_, ?_, ?_⟩
                  · rw [u3, t4, eq]
                  · rw [u4, t3]; show A 3 = _; omega
                  · rw [u5, t1, etl, eq]
                  · rw [u6, t2, etl, eq]
                · skip
                  refine rn_aload_n (k' := 68) rfl rfl rfl ?_
                  refine rn_dupR (k' := 69) rfl rfl ?_
                  refine rn_getI (k' := 70) rfl rfl K0_1 (by decide) rfl ?_
                  show Rn PT none kX7_readToken 70 [some (mR 1)] [mI (A 3), mR 1] (mkh (m_set (m_set (m_upd μ 1 A) 1 6 (0)) 1 4 (A 3)) c s) _
                  refine rn_iconst (k' := 71) rfl rfl ?_
                  refine rn_iadd (k' := 72) rfl rfl (by omega) ?_
                  refine rn_putI (k' := 73) rfl rfl K0_1 (by decide) rfl ?_
                  refine rn_aload_n (k' := 74) rfl rfl rfl ?_
                  refine rn_iconst (k' := 75) rfl rfl ?_
                  refine rn_putI (k' := 76) rfl rfl K0_1 (by decide) rfl ?_
                  refine rn_goto rfl ?_
                  refine rn_vret rfl ?_
                  have hb59 : μ 2 (tq (μ 2) n p) = 59 := by rw [eq]; omega
                  obtain ⟨t1, t2, t3, t4⟩ := tk_semi (b := μ 2) (n := n) (m := m) (p := p) (by omega) (by omega) hb59
                  rw [set_upd_eq (a := 1), set_upd_eq (a := 1), set_upd_eq (a := 1), set_upd_eq (a := 1)]
                  refine ⟨_, rfl, hA1, hA2, ?_, ?_, ?_, ?_⟩
                  · rw [t4]; show _ = _; first | exact (show A 3 = _ by omega) | exact (show A 3 + 1 = _ by omega)
                  · rw [t3]; first | exact (show A 2 = _ by omega) | exact (show A 3 = _ by omega)
                  · rw [t1]; rfl
                  · rw [t2]; rfl
              · exfalso; omega
            · skip
              refine rn_aload_n (k' := 40) rfl rfl rfl ?_
              refine rn_aload_n (k' := 41) rfl rfl rfl ?_
              refine rn_getI (k' := 42) rfl rfl K0_1 (by decide) rfl ?_
              show Rn PT none kX7_readToken 42 [some (mR 1)] [mI (A 2), mR 1] (mkh (m_set (m_upd μ 1 A) 1 6 (0)) c s) _
              refine rn_putI (k' := 43) rfl rfl K0_1 (by decide) rfl ?_
              refine rn_aload_n (k' := 44) rfl rfl rfl ?_
              refine rn_iconst (k' := 45) rfl rfl ?_
              refine rn_putI (k' := 46) rfl rfl K0_1 (by decide) rfl ?_
              refine rn_vret rfl ?_
              obtain ⟨t1, t2, t3, t4⟩ := tk_lim (b := μ 2) (n := n) (m := m) (p := p) (by omega)
              rw [set_upd_eq (a := 1), set_upd_eq (a := 1), set_upd_eq (a := 1)]
              refine ⟨_, rfl, hA1, hA2, ?_, ?_, ?_, ?_⟩
              · rw [t4]; show _ = _; first | exact (show A 3 = _ by omega) | exact (show A 3 + 1 = _ by omega)
              · rw [t3]; first | exact (show A 2 = _ by omega) | exact (show A 3 = _ by omega)
              · rw [t1]; rfl
              · rw [t2]; rfl
        · skip
          refine rn_aload_n (k' := 20) rfl rfl rfl ?_
          refine rn_dupR (k' := 21) rfl rfl ?_
          refine rn_getI (k' := 22) rfl rfl K0_1 (by decide) rfl ?_
          show Rn PT none kX7_readToken 22 [some (mR 1)] [mI (A 3), mR 1] (mkh (m_upd μ 1 A) c s) _
          refine rn_iconst (k' := 23) rfl rfl ?_
          refine rn_iadd (k' := 24) rfl rfl (by omega) ?_
          refine rn_putI (k' := 25) rfl rfl K0_1 (by decide) rfl ?_
          refine rn_goto rfl ?_
          show Rn PT none kX7_readToken 0 [some (mR 1)] [] (mkh (m_set (m_upd μ 1 A) 1 3 ((A 3) + 1)) c s) _
          rw [set_upd_eq (a := 1)]
          exact ih (r + 1) _ (by omega) hA1 hA2 (by show A 3 + 1 = _; omega) (by rw [← hq]; exact (tsk_t (b := μ 2) (d := d) (r := r) (by omega)).symm)
theorem c_readToken {μ : Nat → Nat → Int} {c s : Nat} {n m p : Nat} (hn : n ≤ 940) (hp : p ≤ n) {A : Nat → Int} (h1 : A 1 = (n : Int)) (h2 : A 2 = (m : Int)) (h3 : A 3 = (p : Int)) : ∃ A1, (A1 1 = (n : Int) ∧ A1 2 = (m : Int) ∧ A1 3 = ((tkN (μ 2) n m p : Nat) : Int) ∧ A1 4 = ((tkP (μ 2) n m p : Nat) : Int) ∧ A1 5 = tkK (μ 2) n m p ∧ A1 6 = tkV (μ 2) n m p) ∧ Cl PT 69 [mR 1] (mkh (m_upd μ 1 A) c s) (fun r => r = (some none, mkh (m_upd μ 1 A1) c s)) := by
  refine Cl.ex (g := fun A => (some none, mkh (m_upd μ 1 A) c s)) ?_
  refine ⟨_, PT_69, Nat.le_of_ble_eq_true rfl, ?_⟩
  exact l_readToken hn hp (n - p) p A (by omega) h1 h2 h3 rfl
