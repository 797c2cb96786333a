variable {N : Int}
/-! ===== printed by wip/whole/gen63.py: scenes copied, settled, taken back ===== -/
theorem m_copy0 {μ : Nat → Nat → Int} {src dst n : Nat} : m_copy μ src 0 dst 0 n = m_upd μ dst (fl (μ src) (μ dst) n) := by
  funext a j
  unfold m_copy m_upd fl
  by_cases h : a = dst
  · subst h
    by_cases h2 : j < n
    · rw [if_pos ⟨rfl, Nat.zero_le _, by omega⟩, if_pos rfl, if_pos h2]
      congr 1
      omega
    · rw [if_neg (by omega), if_pos rfl, if_neg h2]
  · rw [if_neg (fun z => h z.1), if_neg h]
theorem rn_cpy {x : MX} {C : List MI} {k k' : Nat} {L : List (Option MV)} {S : List MV} {Q : MR → Prop} {μ : Nat → Nat → Int} {c s : Nat} {idx src dst n0 n1 : Nat} {n : Int} (hC : C[k]? = some (.invokestatic idx, 1000, 0, 0, [])) (hk : k + 1 = k') (h0 : K0[src]? = some (100, n0)) (h1 : K0[dst]? = some (100, n1)) (hn : 0 ≤ n ∧ n ≤ n0 ∧ n ≤ n1) (hw : m_w S ≤ 8) (kk : Rn PT x C k' L S (mkh (m_upd μ dst (fl (μ src) (μ dst) n.toNat)) c s) Q) : Rn PT x C k L (mI n :: mI 0 :: mR dst :: mI 0 :: mR src :: S) (mkh μ c s) Q := by
  subst hk
  have h : m_cpy (mI n :: mI 0 :: mR dst :: mI 0 :: mR src :: S) (mkh μ c s) = some (S, mkh (m_upd μ dst (fl (μ src) (μ dst) n.toNat)) c s) := by
    rw [← m_copy0]
    unfold m_cpy
    dsimp only
    rw [show (mh_k (mkh μ c s))[src]? = some (100, n0) from h0, show (mh_k (mkh μ c s))[dst]? = some (100, n1) from h1]
    dsimp only
    rw [if_pos ⟨Or.inl ⟨rfl, rfl⟩, hn.1, by decide, by decide, by omega, by omega⟩]
    rfl
  refine Rn.go hC ?_ kk
  show m_call PT 0 (1000, 0, 0, []) k L _ _ = _
  unfold m_call
  rw [if_pos (by decide)]
  rw [show m_nat ((1000, 0, 0, []) : ML).1 (mI n :: mI 0 :: mR dst :: mI 0 :: mR src :: S) (mkh μ c s) = _ from h]
  dsimp only
  rw [if_pos hw]
/-- what a mask leaves of a memory -/
def rm (k : Nat → Nat → Bool) (μ : Nat → Nat → Int) (a j : Nat) : Int := bif k a j then μ a j else 0
theorem rm_same {k : Nat → Nat → Bool} {μ ν : Nat → Nat → Int} (h : ∀ a j, k a j = true → ν a j = μ a j) : rm k ν = rm k μ := by
  funext a j
  unfold rm
  cases hs : k a j with
  | false => rfl
  | true => show ν a j = μ a j; exact h a j hs
theorem rm_cell {k : Nat → Nat → Bool} {μ ν : Nat → Nat → Int} (h : rm k ν = rm k μ) {a j : Nat} (hk : k a j = true) : ν a j = μ a j := by
  have h1 : rm k ν a j = rm k μ a j := by rw [h]
  unfold rm at h1
  rw [hk] at h1
  exact h1
theorem rm_row {k : Nat → Nat → Bool} {μ ν : Nat → Nat → Int} (h : rm k ν = rm k μ) {a : Nat} (hk : ∀ j, k a j = true) : ν a = μ a := by
  funext j
  exact rm_cell h (hk j)
theorem rm_set {k : Nat → Nat → Bool} {μ : Nat → Nat → Int} {a j : Nat} {v : Int} (h : k a j = false) : rm k (m_set μ a j v) = rm k μ := rm_same (fun a' j' hk => by
  have : ¬ (a' = a ∧ j' = j) := by
    rintro ⟨rfl, rfl⟩
    rw [h] at hk
    cases hk
  rw [m_set_ne _ _ this])
theorem rm_upd {k : Nat → Nat → Bool} {μ : Nat → Nat → Int} {a : Nat} {f : Nat → Int} (h : ∀ j, k a j = true → f j = μ a j) : rm k (m_upd μ a f) = rm k μ := rm_same (fun a' j hk => by
  unfold m_upd
  by_cases e : a' = a
  · subst e; rw [if_pos rfl]; exact h j hk
  · rw [if_neg e])
theorem rm_upd0 {k : Nat → Nat → Bool} {μ : Nat → Nat → Int} {a : Nat} {f : Nat → Int} (h : ∀ j, k a j = false) : rm k (m_upd μ a f) = rm k μ := rm_upd (fun j hj => by rw [h j] at hj; cases hj)
theorem rm_sub {k l : Nat → Nat → Bool} {μ ν : Nat → Nat → Int} (hl : ∀ a j, l a j = true → k a j = true) (h : rm k ν = rm k μ) : rm l ν = rm l μ := rm_same (fun a j hj => rm_cell h (hl a j hj))
/-- all but the last verdict; and but what the model's acts change -/
def kJ (a j : Nat) : Bool := sup a j && !(a == 87 || a == 136 || (a == 82 && j == 9) || (a == 118 && j == 44))
def kM (a j : Nat) : Bool := kJ a j && !(a == 131 || (a == 118 && j == 34) || (a == 120 && (Nat.ble 517 j && Nat.ble j 535)))
theorem mJ_sup {a j : Nat} (h : kJ a j = true) : sup a j = true := by
  unfold kJ at h
  exact (Bool.and_eq_true_iff.mp h).1
theorem mM_mJ {a j : Nat} (h : kM a j = true) : kJ a j = true := by
  unfold kM at h
  exact (Bool.and_eq_true_iff.mp h).1
theorem rst_mJ {μ ν : Nat → Nat → Int} (h : rst ν = rst μ) : rm kJ ν = rm kJ μ := rm_sub (k := sup) (fun _ _ => mJ_sup) h
theorem mJ_mM {μ ν : Nat → Nat → Int} (h : rm kJ ν = rm kJ μ) : rm kM ν = rm kM μ := rm_sub (k := kJ) (fun _ _ => mM_mJ) h
theorem mM_120 {j : Nat} (h : j < 517 ∨ 536 ≤ j) : kM 120 j = true := by
  show (!(false || (false || (true && (Nat.ble 517 j && Nat.ble j 535))))) = true
  rcases h with h | h
  · rw [show Nat.ble 517 j = false from by rw [← Bool.not_eq_true, Nat.ble_eq]; omega]; rfl
  · rw [show Nat.ble j 535 = false from by rw [← Bool.not_eq_true, Nat.ble_eq]; omega]; simp
theorem mM_120f {j : Nat} (h : 517 ≤ j ∧ j < 536) : kM 120 j = false := by
  show (!(false || (false || (true && (Nat.ble 517 j && Nat.ble j 535))))) = false
  rw [show Nat.ble 517 j = true from by rw [Nat.ble_eq]; omega, show Nat.ble j 535 = true from by rw [Nat.ble_eq]; omega]
  rfl
theorem mJ_past {a j : Nat} (h1 : 88 ≤ a) (h2 : a ≤ 111) : kM a j = true := by
  rcases (show a = 88 ∨ a = 89 ∨ a = 90 ∨ a = 91 ∨ a = 92 ∨ a = 93 ∨ a = 94 ∨ a = 95 ∨ a = 96 ∨ a = 97 ∨ a = 98 ∨ a = 99 ∨ a = 100 ∨ a = 101 ∨ a = 102 ∨ a = 103 ∨ a = 104 ∨ a = 105 ∨ a = 106 ∨ a = 107 ∨ a = 108 ∨ a = 109 ∨ a = 110 ∨ a = 111 by omega) with rfl | rfl | rfl | rfl | rfl | rfl | rfl | rfl | rfl | rfl | rfl | rfl | rfl | rfl | rfl | rfl | rfl | rfl | rfl | rfl | rfl | rfl | rfl | rfl <;> rfl
theorem mM_kept {a j : Nat} (h1 : 22 ≤ a) (h2 : a ≤ 53) : kM a j = true := by
  rcases (show a = 22 ∨ a = 23 ∨ a = 24 ∨ a = 25 ∨ a = 26 ∨ a = 27 ∨ a = 28 ∨ a = 29 ∨ a = 30 ∨ a = 31 ∨ a = 32 ∨ a = 33 ∨ a = 34 ∨ a = 35 ∨ a = 36 ∨ a = 37 ∨ a = 38 ∨ a = 39 ∨ a = 40 ∨ a = 41 ∨ a = 42 ∨ a = 43 ∨ a = 44 ∨ a = 45 ∨ a = 46 ∨ a = 47 ∨ a = 48 ∨ a = 49 ∨ a = 50 ∨ a = 51 ∨ a = 52 ∨ a = 53 by omega) with rfl | rfl | rfl | rfl | rfl | rfl | rfl | rfl | rfl | rfl | rfl | rfl | rfl | rfl | rfl | rfl | rfl | rfl | rfl | rfl | rfl | rfl | rfl | rfl | rfl | rfl | rfl | rfl | rfl | rfl | rfl | rfl <;> rfl
/-- a scene (object d, cells, heads) made a copy of another -/
def cpo (f g : Nat → Int) : Nat → Int := fs (fs (fs f 0 (g 0)) 3 (g 3)) 4 (g 4)
def scp (μ : Nat → Nat → Int) (d s : Nat) : Nat → Nat → Int := m_upd (m_upd (m_upd μ d (cpo (μ d) (μ s))) (d + 1) (fl (μ (s + 1)) (μ (d + 1)) 8)) (d + 2) (fl (μ (s + 2)) (μ (d + 2)) 8)
theorem scp_eq {μ : Nat → Nat → Int} {d : Nat} {v0 v3 v4 : Int} {F G : Nat → Int} : m_set (m_set (m_upd (m_upd (m_set μ d 0 v0) (d + 1) F) (d + 2) G) d 3 v3) d 4 v4 = m_upd (m_upd (m_upd μ d (fs (fs (fs (μ d) 0 v0) 3 v3) 4 v4)) (d + 1) F) (d + 2) G := by
  rw [set_upd_ne (a := d) (b := d + 2) (i := 3) (by omega), set_upd_ne (a := d) (b := d + 1) (i := 3) (by omega), set_upd_ne (a := d) (b := d + 2) (i := 4) (by omega), set_upd_ne (a := d) (b := d + 1) (i := 4) (by omega), set_is_upd (μ := μ), set_upd_eq, set_upd_eq]
theorem scp_o {μ : Nat → Nat → Int} {d s a : Nat} (h0 : ¬ a = d) (h1 : ¬ a = d + 1) (h2 : ¬ a = d + 2) : scp μ d s a = μ a := by
  unfold scp
  rw [row_upd h2, row_upd h1, row_upd h0]
theorem scp_0 {μ : Nat → Nat → Int} {d s : Nat} : scp μ d s d = cpo (μ d) (μ s) := by
  unfold scp
  rw [row_upd (by omega), row_upd (by omega), row_upd_eq]
theorem scp_1 {μ : Nat → Nat → Int} {d s : Nat} : scp μ d s (d + 1) = fl (μ (s + 1)) (μ (d + 1)) 8 := by
  unfold scp
  rw [row_upd (by omega), row_upd_eq]
theorem scp_2 {μ : Nat → Nat → Int} {d s : Nat} : scp μ d s (d + 2) = fl (μ (s + 2)) (μ (d + 2)) 8 := by
  unfold scp
  rw [row_upd_eq]
theorem cpo_v {f g : Nat → Int} : cpo f g 0 = g 0 ∧ cpo f g 3 = g 3 ∧ cpo f g 4 = g 4 := ⟨rfl, rfl, rfl⟩
set_option maxHeartbeats 2000000 in
theorem c_copy_83_14 {μ : Nat → Nat → Int} {c s : Nat} : Cl PT 64 [mR 83, mR 14] (mkh μ c s) (fun r => r = (some none, mkh (scp μ 83 14) c s)) := by
  refine ⟨_, PT_64, Nat.le_of_ble_eq_true rfl, ?_⟩
  show Rn PT none kX6_copyFrom 0 [some (mR 83), some (mR 14)] [] (mkh μ c s) _
  refine rn_aload_n (k' := 1) rfl rfl rfl ?_
  refine rn_aload_n (k' := 2) rfl rfl rfl ?_
  refine rn_getI (k' := 3) rfl rfl K0_14 (by decide) rfl ?_
  refine rn_putI (k' := 4) rfl rfl K0_83 (by decide) rfl ?_
  refine rn_aload_n (k' := 5) rfl rfl rfl ?_
  refine rn_getR (k' := 6) rfl rfl K0_14 (by decide) rfl R0_14_1 ?_
  refine rn_iconst (k' := 7) rfl rfl ?_
  refine rn_aload_n (k' := 8) rfl rfl rfl ?_
  refine rn_getR (k' := 9) rfl rfl K0_83 (by decide) rfl R0_83_1 ?_
  refine rn_iconst (k' := 10) rfl rfl ?_
  refine rn_bipush (k' := 11) rfl rfl ?_
  refine rn_cpy (k' := 12) rfl rfl K0_15 K0_84 (by decide) (Nat.le_of_ble_eq_true rfl) ?_
  show Rn PT none kX6_copyFrom 12 [some (mR 83), some (mR 14)] [] (mkh (m_upd (m_set μ 83 0 (μ 14 0)) 84 (fl (μ 15) (μ 84) 8)) c s) _
  refine rn_aload_n (k' := 13) rfl rfl rfl ?_
  refine rn_getR (k' := 14) rfl rfl K0_14 (by decide) rfl R0_14_2 ?_
  refine rn_iconst (k' := 15) rfl rfl ?_
  refine rn_aload_n (k' := 16) rfl rfl rfl ?_
  refine rn_getR (k' := 17) rfl rfl K0_83 (by decide) rfl R0_83_2 ?_
  refine rn_iconst (k' := 18) rfl rfl ?_
  refine rn_bipush (k' := 19) rfl rfl ?_
  refine rn_cpy (k' := 20) rfl rfl K0_16 K0_85 (by decide) (Nat.le_of_ble_eq_true rfl) ?_
  show Rn PT none kX6_copyFrom 20 [some (mR 83), some (mR 14)] [] (mkh (m_upd (m_upd (m_set μ 83 0 (μ 14 0)) 84 (fl (μ 15) (μ 84) 8)) 85 (fl (μ 16) (μ 85) 8)) c s) _
  refine rn_aload_n (k' := 21) rfl rfl rfl ?_
  refine rn_aload_n (k' := 22) rfl rfl rfl ?_
  refine rn_getI (k' := 23) rfl rfl K0_14 (by decide) rfl ?_
  show Rn PT none kX6_copyFrom 23 [some (mR 83), some (mR 14)] [mI (μ 14 3), mR 83] (mkh (m_upd (m_upd (m_set μ 83 0 (μ 14 0)) 84 (fl (μ 15) (μ 84) 8)) 85 (fl (μ 16) (μ 85) 8)) c s) _
  refine rn_putI (k' := 24) rfl rfl K0_83 (by decide) rfl ?_
  refine rn_aload_n (k' := 25) rfl rfl rfl ?_
  refine rn_aload_n (k' := 26) rfl rfl rfl ?_
  refine rn_getI (k' := 27) rfl rfl K0_14 (by decide) rfl ?_
  show Rn PT none kX6_copyFrom 27 [some (mR 83), some (mR 14)] [mI (μ 14 4), mR 83] (mkh (m_set (m_upd (m_upd (m_set μ 83 0 (μ 14 0)) 84 (fl (μ 15) (μ 84) 8)) 85 (fl (μ 16) (μ 85) 8)) 83 3 (μ 14 3)) c s) _
  refine rn_putI (k' := 28) rfl rfl K0_83 (by decide) rfl ?_
  refine rn_vret rfl ?_
  exact congrArg (fun z => ((some none : Option (Option MV)), mkh z c s)) (scp_eq (d := 83))
set_option maxHeartbeats 2000000 in
theorem c_copy_14_83 {μ : Nat → Nat → Int} {c s : Nat} : Cl PT 64 [mR 14, mR 83] (mkh μ c s) (fun r => r = (some none, mkh (scp μ 14 83) c s)) := by
  refine ⟨_, PT_64, Nat.le_of_ble_eq_true rfl, ?_⟩
  show Rn PT none kX6_copyFrom 0 [some (mR 14), some (mR 83)] [] (mkh μ c s) _
  refine rn_aload_n (k' := 1) rfl rfl rfl ?_
  refine rn_aload_n (k' := 2) rfl rfl rfl ?_
  refine rn_getI (k' := 3) rfl rfl K0_83 (by decide) rfl ?_
  refine rn_putI (k' := 4) rfl rfl K0_14 (by decide) rfl ?_
  refine rn_aload_n (k' := 5) rfl rfl rfl ?_
  refine rn_getR (k' := 6) rfl rfl K0_83 (by decide) rfl R0_83_1 ?_
  refine rn_iconst (k' := 7) rfl rfl ?_
  refine rn_aload_n (k' := 8) rfl rfl rfl ?_
  refine rn_getR (k' := 9) rfl rfl K0_14 (by decide) rfl R0_14_1 ?_
  refine rn_iconst (k' := 10) rfl rfl ?_
  refine rn_bipush (k' := 11) rfl rfl ?_
  refine rn_cpy (k' := 12) rfl rfl K0_84 K0_15 (by decide) (Nat.le_of_ble_eq_true rfl) ?_
  show Rn PT none kX6_copyFrom 12 [some (mR 14), some (mR 83)] [] (mkh (m_upd (m_set μ 14 0 (μ 83 0)) 15 (fl (μ 84) (μ 15) 8)) c s) _
  refine rn_aload_n (k' := 13) rfl rfl rfl ?_
  refine rn_getR (k' := 14) rfl rfl K0_83 (by decide) rfl R0_83_2 ?_
  refine rn_iconst (k' := 15) rfl rfl ?_
  refine rn_aload_n (k' := 16) rfl rfl rfl ?_
  refine rn_getR (k' := 17) rfl rfl K0_14 (by decide) rfl R0_14_2 ?_
  refine rn_iconst (k' := 18) rfl rfl ?_
  refine rn_bipush (k' := 19) rfl rfl ?_
  refine rn_cpy (k' := 20) rfl rfl K0_85 K0_16 (by decide) (Nat.le_of_ble_eq_true rfl) ?_
  show Rn PT none kX6_copyFrom 20 [some (mR 14), some (mR 83)] [] (mkh (m_upd (m_upd (m_set μ 14 0 (μ 83 0)) 15 (fl (μ 84) (μ 15) 8)) 16 (fl (μ 85) (μ 16) 8)) c s) _
  refine rn_aload_n (k' := 21) rfl rfl rfl ?_
  refine rn_aload_n (k' := 22) rfl rfl rfl ?_
  refine rn_getI (k' := 23) rfl rfl K0_83 (by decide) rfl ?_
  show Rn PT none kX6_copyFrom 23 [some (mR 14), some (mR 83)] [mI (μ 83 3), mR 14] (mkh (m_upd (m_upd (m_set μ 14 0 (μ 83 0)) 15 (fl (μ 84) (μ 15) 8)) 16 (fl (μ 85) (μ 16) 8)) c s) _
  refine rn_putI (k' := 24) rfl rfl K0_14 (by decide) rfl ?_
  refine rn_aload_n (k' := 25) rfl rfl rfl ?_
  refine rn_aload_n (k' := 26) rfl rfl rfl ?_
  refine rn_getI (k' := 27) rfl rfl K0_83 (by decide) rfl ?_
  show Rn PT none kX6_copyFrom 27 [some (mR 14), some (mR 83)] [mI (μ 83 4), mR 14] (mkh (m_set (m_upd (m_upd (m_set μ 14 0 (μ 83 0)) 15 (fl (μ 84) (μ 15) 8)) 16 (fl (μ 85) (μ 16) 8)) 14 3 (μ 83 3)) c s) _
  refine rn_putI (k' := 28) rfl rfl K0_14 (by decide) rfl ?_
  refine rn_vret rfl ?_
  exact congrArg (fun z => ((some none : Option (Option MV)), mkh z c s)) (scp_eq (d := 14))
set_option maxHeartbeats 2000000 in
theorem c_copy_88_14 {μ : Nat → Nat → Int} {c s : Nat} : Cl PT 64 [mR 88, mR 14] (mkh μ c s) (fun r => r = (some none, mkh (scp μ 88 14) c s)) := by
  refine ⟨_, PT_64, Nat.le_of_ble_eq_true rfl, ?_⟩
  show Rn PT none kX6_copyFrom 0 [some (mR 88), some (mR 14)] [] (mkh μ c s) _
  refine rn_aload_n (k' := 1) rfl rfl rfl ?_
  refine rn_aload_n (k' := 2) rfl rfl rfl ?_
  refine rn_getI (k' := 3) rfl rfl K0_14 (by decide) rfl ?_
  refine rn_putI (k' := 4) rfl rfl K0_88 (by decide) rfl ?_
  refine rn_aload_n (k' := 5) rfl rfl rfl ?_
  refine rn_getR (k' := 6) rfl rfl K0_14 (by decide) rfl R0_14_1 ?_
  refine rn_iconst (k' := 7) rfl rfl ?_
  refine rn_aload_n (k' := 8) rfl rfl rfl ?_
  refine rn_getR (k' := 9) rfl rfl K0_88 (by decide) rfl R0_88_1 ?_
  refine rn_iconst (k' := 10) rfl rfl ?_
  refine rn_bipush (k' := 11) rfl rfl ?_
  refine rn_cpy (k' := 12) rfl rfl K0_15 K0_89 (by decide) (Nat.le_of_ble_eq_true rfl) ?_
  show Rn PT none kX6_copyFrom 12 [some (mR 88), some (mR 14)] [] (mkh (m_upd (m_set μ 88 0 (μ 14 0)) 89 (fl (μ 15) (μ 89) 8)) c s) _
  refine rn_aload_n (k' := 13) rfl rfl rfl ?_
  refine rn_getR (k' := 14) rfl rfl K0_14 (by decide) rfl R0_14_2 ?_
  refine rn_iconst (k' := 15) rfl rfl ?_
  refine rn_aload_n (k' := 16) rfl rfl rfl ?_
  refine rn_getR (k' := 17) rfl rfl K0_88 (by decide) rfl R0_88_2 ?_
  refine rn_iconst (k' := 18) rfl rfl ?_
  refine rn_bipush (k' := 19) rfl rfl ?_
  refine rn_cpy (k' := 20) rfl rfl K0_16 K0_90 (by decide) (Nat.le_of_ble_eq_true rfl) ?_
  show Rn PT none kX6_copyFrom 20 [some (mR 88), some (mR 14)] [] (mkh (m_upd (m_upd (m_set μ 88 0 (μ 14 0)) 89 (fl (μ 15) (μ 89) 8)) 90 (fl (μ 16) (μ 90) 8)) c s) _
  refine rn_aload_n (k' := 21) rfl rfl rfl ?_
  refine rn_aload_n (k' := 22) rfl rfl rfl ?_
  refine rn_getI (k' := 23) rfl rfl K0_14 (by decide) rfl ?_
  show Rn PT none kX6_copyFrom 23 [some (mR 88), some (mR 14)] [mI (μ 14 3), mR 88] (mkh (m_upd (m_upd (m_set μ 88 0 (μ 14 0)) 89 (fl (μ 15) (μ 89) 8)) 90 (fl (μ 16) (μ 90) 8)) c s) _
  refine rn_putI (k' := 24) rfl rfl K0_88 (by decide) rfl ?_
  refine rn_aload_n (k' := 25) rfl rfl rfl ?_
  refine rn_aload_n (k' := 26) rfl rfl rfl ?_
  refine rn_getI (k' := 27) rfl rfl K0_14 (by decide) rfl ?_
  show Rn PT none kX6_copyFrom 27 [some (mR 88), some (mR 14)] [mI (μ 14 4), mR 88] (mkh (m_set (m_upd (m_upd (m_set μ 88 0 (μ 14 0)) 89 (fl (μ 15) (μ 89) 8)) 90 (fl (μ 16) (μ 90) 8)) 88 3 (μ 14 3)) c s) _
  refine rn_putI (k' := 28) rfl rfl K0_88 (by decide) rfl ?_
  refine rn_vret rfl ?_
  exact congrArg (fun z => ((some none : Option (Option MV)), mkh z c s)) (scp_eq (d := 88))
set_option maxHeartbeats 2000000 in
theorem c_copy_91_14 {μ : Nat → Nat → Int} {c s : Nat} : Cl PT 64 [mR 91, mR 14] (mkh μ c s) (fun r => r = (some none, mkh (scp μ 91 14) c s)) := by
  refine ⟨_, PT_64, Nat.le_of_ble_eq_true rfl, ?_⟩
  show Rn PT none kX6_copyFrom 0 [some (mR 91), some (mR 14)] [] (mkh μ c s) _
  refine rn_aload_n (k' := 1) rfl rfl rfl ?_
  refine rn_aload_n (k' := 2) rfl rfl rfl ?_
  refine rn_getI (k' := 3) rfl rfl K0_14 (by decide) rfl ?_
  refine rn_putI (k' := 4) rfl rfl K0_91 (by decide) rfl ?_
  refine rn_aload_n (k' := 5) rfl rfl rfl ?_
  refine rn_getR (k' := 6) rfl rfl K0_14 (by decide) rfl R0_14_1 ?_
  refine rn_iconst (k' := 7) rfl rfl ?_
  refine rn_aload_n (k' := 8) rfl rfl rfl ?_
  refine rn_getR (k' := 9) rfl rfl K0_91 (by decide) rfl R0_91_1 ?_
  refine rn_iconst (k' := 10) rfl rfl ?_
  refine rn_bipush (k' := 11) rfl rfl ?_
  refine rn_cpy (k' := 12) rfl rfl K0_15 K0_92 (by decide) (Nat.le_of_ble_eq_true rfl) ?_
  show Rn PT none kX6_copyFrom 12 [some (mR 91), some (mR 14)] [] (mkh (m_upd (m_set μ 91 0 (μ 14 0)) 92 (fl (μ 15) (μ 92) 8)) c s) _
  refine rn_aload_n (k' := 13) rfl rfl rfl ?_
  refine rn_getR (k' := 14) rfl rfl K0_14 (by decide) rfl R0_14_2 ?_
  refine rn_iconst (k' := 15) rfl rfl ?_
  refine rn_aload_n (k' := 16) rfl rfl rfl ?_
  refine rn_getR (k' := 17) rfl rfl K0_91 (by decide) rfl R0_91_2 ?_
  refine rn_iconst (k' := 18) rfl rfl ?_
  refine rn_bipush (k' := 19) rfl rfl ?_
  refine rn_cpy (k' := 20) rfl rfl K0_16 K0_93 (by decide) (Nat.le_of_ble_eq_true rfl) ?_
  show Rn PT none kX6_copyFrom 20 [some (mR 91), some (mR 14)] [] (mkh (m_upd (m_upd (m_set μ 91 0 (μ 14 0)) 92 (fl (μ 15) (μ 92) 8)) 93 (fl (μ 16) (μ 93) 8)) c s) _
  refine rn_aload_n (k' := 21) rfl rfl rfl ?_
  refine rn_aload_n (k' := 22) rfl rfl rfl ?_
  refine rn_getI (k' := 23) rfl rfl K0_14 (by decide) rfl ?_
  show Rn PT none kX6_copyFrom 23 [some (mR 91), some (mR 14)] [mI (μ 14 3), mR 91] (mkh (m_upd (m_upd (m_set μ 91 0 (μ 14 0)) 92 (fl (μ 15) (μ 92) 8)) 93 (fl (μ 16) (μ 93) 8)) c s) _
  refine rn_putI (k' := 24) rfl rfl K0_91 (by decide) rfl ?_
  refine rn_aload_n (k' := 25) rfl rfl rfl ?_
  refine rn_aload_n (k' := 26) rfl rfl rfl ?_
  refine rn_getI (k' := 27) rfl rfl K0_14 (by decide) rfl ?_
  show Rn PT none kX6_copyFrom 27 [some (mR 91), some (mR 14)] [mI (μ 14 4), mR 91] (mkh (m_set (m_upd (m_upd (m_set μ 91 0 (μ 14 0)) 92 (fl (μ 15) (μ 92) 8)) 93 (fl (μ 16) (μ 93) 8)) 91 3 (μ 14 3)) c s) _
  refine rn_putI (k' := 28) rfl rfl K0_91 (by decide) rfl ?_
  refine rn_vret rfl ?_
  exact congrArg (fun z => ((some none : Option (Option MV)), mkh z c s)) (scp_eq (d := 91))
set_option maxHeartbeats 2000000 in
theorem c_copy_94_14 {μ : Nat → Nat → Int} {c s : Nat} : Cl PT 64 [mR 94, mR 14] (mkh μ c s) (fun r => r = (some none, mkh (scp μ 94 14) c s)) := by
  refine ⟨_, PT_64, Nat.le_of_ble_eq_true rfl, ?_⟩
  show Rn PT none kX6_copyFrom 0 [some (mR 94), some (mR 14)] [] (mkh μ c s) _
  refine rn_aload_n (k' := 1) rfl rfl rfl ?_
  refine rn_aload_n (k' := 2) rfl rfl rfl ?_
  refine rn_getI (k' := 3) rfl rfl K0_14 (by decide) rfl ?_
  refine rn_putI (k' := 4) rfl rfl K0_94 (by decide) rfl ?_
  refine rn_aload_n (k' := 5) rfl rfl rfl ?_
  refine rn_getR (k' := 6) rfl rfl K0_14 (by decide) rfl R0_14_1 ?_
  refine rn_iconst (k' := 7) rfl rfl ?_
  refine rn_aload_n (k' := 8) rfl rfl rfl ?_
  refine rn_getR (k' := 9) rfl rfl K0_94 (by decide) rfl R0_94_1 ?_
  refine rn_iconst (k' := 10) rfl rfl ?_
  refine rn_bipush (k' := 11) rfl rfl ?_
  refine rn_cpy (k' := 12) rfl rfl K0_15 K0_95 (by decide) (Nat.le_of_ble_eq_true rfl) ?_
  show Rn PT none kX6_copyFrom 12 [some (mR 94), some (mR 14)] [] (mkh (m_upd (m_set μ 94 0 (μ 14 0)) 95 (fl (μ 15) (μ 95) 8)) c s) _
  refine rn_aload_n (k' := 13) rfl rfl rfl ?_
  refine rn_getR (k' := 14) rfl rfl K0_14 (by decide) rfl R0_14_2 ?_
  refine rn_iconst (k' := 15) rfl rfl ?_
  refine rn_aload_n (k' := 16) rfl rfl rfl ?_
  refine rn_getR (k' := 17) rfl rfl K0_94 (by decide) rfl R0_94_2 ?_
  refine rn_iconst (k' := 18) rfl rfl ?_
  refine rn_bipush (k' := 19) rfl rfl ?_
  refine rn_cpy (k' := 20) rfl rfl K0_16 K0_96 (by decide) (Nat.le_of_ble_eq_true rfl) ?_
  show Rn PT none kX6_copyFrom 20 [some (mR 94), some (mR 14)] [] (mkh (m_upd (m_upd (m_set μ 94 0 (μ 14 0)) 95 (fl (μ 15) (μ 95) 8)) 96 (fl (μ 16) (μ 96) 8)) c s) _
  refine rn_aload_n (k' := 21) rfl rfl rfl ?_
  refine rn_aload_n (k' := 22) rfl rfl rfl ?_
  refine rn_getI (k' := 23) rfl rfl K0_14 (by decide) rfl ?_
  show Rn PT none kX6_copyFrom 23 [some (mR 94), some (mR 14)] [mI (μ 14 3), mR 94] (mkh (m_upd (m_upd (m_set μ 94 0 (μ 14 0)) 95 (fl (μ 15) (μ 95) 8)) 96 (fl (μ 16) (μ 96) 8)) c s) _
  refine rn_putI (k' := 24) rfl rfl K0_94 (by decide) rfl ?_
  refine rn_aload_n (k' := 25) rfl rfl rfl ?_
  refine rn_aload_n (k' := 26) rfl rfl rfl ?_
  refine rn_getI (k' := 27) rfl rfl K0_14 (by decide) rfl ?_
  show Rn PT none kX6_copyFrom 27 [some (mR 94), some (mR 14)] [mI (μ 14 4), mR 94] (mkh (m_set (m_upd (m_upd (m_set μ 94 0 (μ 14 0)) 95 (fl (μ 15) (μ 95) 8)) 96 (fl (μ 16) (μ 96) 8)) 94 3 (μ 14 3)) c s) _
  refine rn_putI (k' := 28) rfl rfl K0_94 (by decide) rfl ?_
  refine rn_vret rfl ?_
  exact congrArg (fun z => ((some none : Option (Option MV)), mkh z c s)) (scp_eq (d := 94))
set_option maxHeartbeats 2000000 in
theorem c_copy_97_14 {μ : Nat → Nat → Int} {c s : Nat} : Cl PT 64 [mR 97, mR 14] (mkh μ c s) (fun r => r = (some none, mkh (scp μ 97 14) c s)) := by
  refine ⟨_, PT_64, Nat.le_of_ble_eq_true rfl, ?_⟩
  show Rn PT none kX6_copyFrom 0 [some (mR 97), some (mR 14)] [] (mkh μ c s) _
  refine rn_aload_n (k' := 1) rfl rfl rfl ?_
  refine rn_aload_n (k' := 2) rfl rfl rfl ?_
  refine rn_getI (k' := 3) rfl rfl K0_14 (by decide) rfl ?_
  refine rn_putI (k' := 4) rfl rfl K0_97 (by decide) rfl ?_
  refine rn_aload_n (k' := 5) rfl rfl rfl ?_
  refine rn_getR (k' := 6) rfl rfl K0_14 (by decide) rfl R0_14_1 ?_
  refine rn_iconst (k' := 7) rfl rfl ?_
  refine rn_aload_n (k' := 8) rfl rfl rfl ?_
  refine rn_getR (k' := 9) rfl rfl K0_97 (by decide) rfl R0_97_1 ?_
  refine rn_iconst (k' := 10) rfl rfl ?_
  refine rn_bipush (k' := 11) rfl rfl ?_
  refine rn_cpy (k' := 12) rfl rfl K0_15 K0_98 (by decide) (Nat.le_of_ble_eq_true rfl) ?_
  show Rn PT none kX6_copyFrom 12 [some (mR 97), some (mR 14)] [] (mkh (m_upd (m_set μ 97 0 (μ 14 0)) 98 (fl (μ 15) (μ 98) 8)) c s) _
  refine rn_aload_n (k' := 13) rfl rfl rfl ?_
  refine rn_getR (k' := 14) rfl rfl K0_14 (by decide) rfl R0_14_2 ?_
  refine rn_iconst (k' := 15) rfl rfl ?_
  refine rn_aload_n (k' := 16) rfl rfl rfl ?_
  refine rn_getR (k' := 17) rfl rfl K0_97 (by decide) rfl R0_97_2 ?_
  refine rn_iconst (k' := 18) rfl rfl ?_
  refine rn_bipush (k' := 19) rfl rfl ?_
  refine rn_cpy (k' := 20) rfl rfl K0_16 K0_99 (by decide) (Nat.le_of_ble_eq_true rfl) ?_
  show Rn PT none kX6_copyFrom 20 [some (mR 97), some (mR 14)] [] (mkh (m_upd (m_upd (m_set μ 97 0 (μ 14 0)) 98 (fl (μ 15) (μ 98) 8)) 99 (fl (μ 16) (μ 99) 8)) c s) _
  refine rn_aload_n (k' := 21) rfl rfl rfl ?_
  refine rn_aload_n (k' := 22) rfl rfl rfl ?_
  refine rn_getI (k' := 23) rfl rfl K0_14 (by decide) rfl ?_
  show Rn PT none kX6_copyFrom 23 [some (mR 97), some (mR 14)] [mI (μ 14 3), mR 97] (mkh (m_upd (m_upd (m_set μ 97 0 (μ 14 0)) 98 (fl (μ 15) (μ 98) 8)) 99 (fl (μ 16) (μ 99) 8)) c s) _
  refine rn_putI (k' := 24) rfl rfl K0_97 (by decide) rfl ?_
  refine rn_aload_n (k' := 25) rfl rfl rfl ?_
  refine rn_aload_n (k' := 26) rfl rfl rfl ?_
  refine rn_getI (k' := 27) rfl rfl K0_14 (by decide) rfl ?_
  show Rn PT none kX6_copyFrom 27 [some (mR 97), some (mR 14)] [mI (μ 14 4), mR 97] (mkh (m_set (m_upd (m_upd (m_set μ 97 0 (μ 14 0)) 98 (fl (μ 15) (μ 98) 8)) 99 (fl (μ 16) (μ 99) 8)) 97 3 (μ 14 3)) c s) _
  refine rn_putI (k' := 28) rfl rfl K0_97 (by decide) rfl ?_
  refine rn_vret rfl ?_
  exact congrArg (fun z => ((some none : Option (Option MV)), mkh z c s)) (scp_eq (d := 97))
set_option maxHeartbeats 2000000 in
theorem c_copy_100_14 {μ : Nat → Nat → Int} {c s : Nat} : Cl PT 64 [mR 100, mR 14] (mkh μ c s) (fun r => r = (some none, mkh (scp μ 100 14) c s)) := by
  refine ⟨_, PT_64, Nat.le_of_ble_eq_true rfl, ?_⟩
  show Rn PT none kX6_copyFrom 0 [some (mR 100), some (mR 14)] [] (mkh μ c s) _
  refine rn_aload_n (k' := 1) rfl rfl rfl ?_
  refine rn_aload_n (k' := 2) rfl rfl rfl ?_
  refine rn_getI (k' := 3) rfl rfl K0_14 (by decide) rfl ?_
  refine rn_putI (k' := 4) rfl rfl K0_100 (by decide) rfl ?_
  refine rn_aload_n (k' := 5) rfl rfl rfl ?_
  refine rn_getR (k' := 6) rfl rfl K0_14 (by decide) rfl R0_14_1 ?_
  refine rn_iconst (k' := 7) rfl rfl ?_
  refine rn_aload_n (k' := 8) rfl rfl rfl ?_
  refine rn_getR (k' := 9) rfl rfl K0_100 (by decide) rfl R0_100_1 ?_
  refine rn_iconst (k' := 10) rfl rfl ?_
  refine rn_bipush (k' := 11) rfl rfl ?_
  refine rn_cpy (k' := 12) rfl rfl K0_15 K0_101 (by decide) (Nat.le_of_ble_eq_true rfl) ?_
  show Rn PT none kX6_copyFrom 12 [some (mR 100), some (mR 14)] [] (mkh (m_upd (m_set μ 100 0 (μ 14 0)) 101 (fl (μ 15) (μ 101) 8)) c s) _
  refine rn_aload_n (k' := 13) rfl rfl rfl ?_
  refine rn_getR (k' := 14) rfl rfl K0_14 (by decide) rfl R0_14_2 ?_
  refine rn_iconst (k' := 15) rfl rfl ?_
  refine rn_aload_n (k' := 16) rfl rfl rfl ?_
  refine rn_getR (k' := 17) rfl rfl K0_100 (by decide) rfl R0_100_2 ?_
  refine rn_iconst (k' := 18) rfl rfl ?_
  refine rn_bipush (k' := 19) rfl rfl ?_
  refine rn_cpy (k' := 20) rfl rfl K0_16 K0_102 (by decide) (Nat.le_of_ble_eq_true rfl) ?_
  show Rn PT none kX6_copyFrom 20 [some (mR 100), some (mR 14)] [] (mkh (m_upd (m_upd (m_set μ 100 0 (μ 14 0)) 101 (fl (μ 15) (μ 101) 8)) 102 (fl (μ 16) (μ 102) 8)) c s) _
  refine rn_aload_n (k' := 21) rfl rfl rfl ?_
  refine rn_aload_n (k' := 22) rfl rfl rfl ?_
  refine rn_getI (k' := 23) rfl rfl K0_14 (by decide) rfl ?_
  show Rn PT none kX6_copyFrom 23 [some (mR 100), some (mR 14)] [mI (μ 14 3), mR 100] (mkh (m_upd (m_upd (m_set μ 100 0 (μ 14 0)) 101 (fl (μ 15) (μ 101) 8)) 102 (fl (μ 16) (μ 102) 8)) c s) _
  refine rn_putI (k' := 24) rfl rfl K0_100 (by decide) rfl ?_
  refine rn_aload_n (k' := 25) rfl rfl rfl ?_
  refine rn_aload_n (k' := 26) rfl rfl rfl ?_
  refine rn_getI (k' := 27) rfl rfl K0_14 (by decide) rfl ?_
  show Rn PT none kX6_copyFrom 27 [some (mR 100), some (mR 14)] [mI (μ 14 4), mR 100] (mkh (m_set (m_upd (m_upd (m_set μ 100 0 (μ 14 0)) 101 (fl (μ 15) (μ 101) 8)) 102 (fl (μ 16) (μ 102) 8)) 100 3 (μ 14 3)) c s) _
  refine rn_putI (k' := 28) rfl rfl K0_100 (by decide) rfl ?_
  refine rn_vret rfl ?_
  exact congrArg (fun z => ((some none : Option (Option MV)), mkh z c s)) (scp_eq (d := 100))
set_option maxHeartbeats 2000000 in
theorem c_copy_103_14 {μ : Nat → Nat → Int} {c s : Nat} : Cl PT 64 [mR 103, mR 14] (mkh μ c s) (fun r => r = (some none, mkh (scp μ 103 14) c s)) := by
  refine ⟨_, PT_64, Nat.le_of_ble_eq_true rfl, ?_⟩
  show Rn PT none kX6_copyFrom 0 [some (mR 103), some (mR 14)] [] (mkh μ c s) _
  refine rn_aload_n (k' := 1) rfl rfl rfl ?_
  refine rn_aload_n (k' := 2) rfl rfl rfl ?_
  refine rn_getI (k' := 3) rfl rfl K0_14 (by decide) rfl ?_
  refine rn_putI (k' := 4) rfl rfl K0_103 (by decide) rfl ?_
  refine rn_aload_n (k' := 5) rfl rfl rfl ?_
  refine rn_getR (k' := 6) rfl rfl K0_14 (by decide) rfl R0_14_1 ?_
  refine rn_iconst (k' := 7) rfl rfl ?_
  refine rn_aload_n (k' := 8) rfl rfl rfl ?_
  refine rn_getR (k' := 9) rfl rfl K0_103 (by decide) rfl R0_103_1 ?_
  refine rn_iconst (k' := 10) rfl rfl ?_
  refine rn_bipush (k' := 11) rfl rfl ?_
  refine rn_cpy (k' := 12) rfl rfl K0_15 K0_104 (by decide) (Nat.le_of_ble_eq_true rfl) ?_
  show Rn PT none kX6_copyFrom 12 [some (mR 103), some (mR 14)] [] (mkh (m_upd (m_set μ 103 0 (μ 14 0)) 104 (fl (μ 15) (μ 104) 8)) c s) _
  refine rn_aload_n (k' := 13) rfl rfl rfl ?_
  refine rn_getR (k' := 14) rfl rfl K0_14 (by decide) rfl R0_14_2 ?_
  refine rn_iconst (k' := 15) rfl rfl ?_
  refine rn_aload_n (k' := 16) rfl rfl rfl ?_
  refine rn_getR (k' := 17) rfl rfl K0_103 (by decide) rfl R0_103_2 ?_
  refine rn_iconst (k' := 18) rfl rfl ?_
  refine rn_bipush (k' := 19) rfl rfl ?_
  refine rn_cpy (k' := 20) rfl rfl K0_16 K0_105 (by decide) (Nat.le_of_ble_eq_true rfl) ?_
  show Rn PT none kX6_copyFrom 20 [some (mR 103), some (mR 14)] [] (mkh (m_upd (m_upd (m_set μ 103 0 (μ 14 0)) 104 (fl (μ 15) (μ 104) 8)) 105 (fl (μ 16) (μ 105) 8)) c s) _
  refine rn_aload_n (k' := 21) rfl rfl rfl ?_
  refine rn_aload_n (k' := 22) rfl rfl rfl ?_
  refine rn_getI (k' := 23) rfl rfl K0_14 (by decide) rfl ?_
  show Rn PT none kX6_copyFrom 23 [some (mR 103), some (mR 14)] [mI (μ 14 3), mR 103] (mkh (m_upd (m_upd (m_set μ 103 0 (μ 14 0)) 104 (fl (μ 15) (μ 104) 8)) 105 (fl (μ 16) (μ 105) 8)) c s) _
  refine rn_putI (k' := 24) rfl rfl K0_103 (by decide) rfl ?_
  refine rn_aload_n (k' := 25) rfl rfl rfl ?_
  refine rn_aload_n (k' := 26) rfl rfl rfl ?_
  refine rn_getI (k' := 27) rfl rfl K0_14 (by decide) rfl ?_
  show Rn PT none kX6_copyFrom 27 [some (mR 103), some (mR 14)] [mI (μ 14 4), mR 103] (mkh (m_set (m_upd (m_upd (m_set μ 103 0 (μ 14 0)) 104 (fl (μ 15) (μ 104) 8)) 105 (fl (μ 16) (μ 105) 8)) 103 3 (μ 14 3)) c s) _
  refine rn_putI (k' := 28) rfl rfl K0_103 (by decide) rfl ?_
  refine rn_vret rfl ?_
  exact congrArg (fun z => ((some none : Option (Option MV)), mkh z c s)) (scp_eq (d := 103))
set_option maxHeartbeats 2000000 in
theorem c_copy_106_14 {μ : Nat → Nat → Int} {c s : Nat} : Cl PT 64 [mR 106, mR 14] (mkh μ c s) (fun r => r = (some none, mkh (scp μ 106 14) c s)) := by
  refine ⟨_, PT_64, Nat.le_of_ble_eq_true rfl, ?_⟩
  show Rn PT none kX6_copyFrom 0 [some (mR 106), some (mR 14)] [] (mkh μ c s) _
  refine rn_aload_n (k' := 1) rfl rfl rfl ?_
  refine rn_aload_n (k' := 2) rfl rfl rfl ?_
  refine rn_getI (k' := 3) rfl rfl K0_14 (by decide) rfl ?_
  refine rn_putI (k' := 4) rfl rfl K0_106 (by decide) rfl ?_
  refine rn_aload_n (k' := 5) rfl rfl rfl ?_
  refine rn_getR (k' := 6) rfl rfl K0_14 (by decide) rfl R0_14_1 ?_
  refine rn_iconst (k' := 7) rfl rfl ?_
  refine rn_aload_n (k' := 8) rfl rfl rfl ?_
  refine rn_getR (k' := 9) rfl rfl K0_106 (by decide) rfl R0_106_1 ?_
  refine rn_iconst (k' := 10) rfl rfl ?_
  refine rn_bipush (k' := 11) rfl rfl ?_
  refine rn_cpy (k' := 12) rfl rfl K0_15 K0_107 (by decide) (Nat.le_of_ble_eq_true rfl) ?_
  show Rn PT none kX6_copyFrom 12 [some (mR 106), some (mR 14)] [] (mkh (m_upd (m_set μ 106 0 (μ 14 0)) 107 (fl (μ 15) (μ 107) 8)) c s) _
  refine rn_aload_n (k' := 13) rfl rfl rfl ?_
  refine rn_getR (k' := 14) rfl rfl K0_14 (by decide) rfl R0_14_2 ?_
  refine rn_iconst (k' := 15) rfl rfl ?_
  refine rn_aload_n (k' := 16) rfl rfl rfl ?_
  refine rn_getR (k' := 17) rfl rfl K0_106 (by decide) rfl R0_106_2 ?_
  refine rn_iconst (k' := 18) rfl rfl ?_
  refine rn_bipush (k' := 19) rfl rfl ?_
  refine rn_cpy (k' := 20) rfl rfl K0_16 K0_108 (by decide) (Nat.le_of_ble_eq_true rfl) ?_
  show Rn PT none kX6_copyFrom 20 [some (mR 106), some (mR 14)] [] (mkh (m_upd (m_upd (m_set μ 106 0 (μ 14 0)) 107 (fl (μ 15) (μ 107) 8)) 108 (fl (μ 16) (μ 108) 8)) c s) _
  refine rn_aload_n (k' := 21) rfl rfl rfl ?_
  refine rn_aload_n (k' := 22) rfl rfl rfl ?_
  refine rn_getI (k' := 23) rfl rfl K0_14 (by decide) rfl ?_
  show Rn PT none kX6_copyFrom 23 [some (mR 106), some (mR 14)] [mI (μ 14 3), mR 106] (mkh (m_upd (m_upd (m_set μ 106 0 (μ 14 0)) 107 (fl (μ 15) (μ 107) 8)) 108 (fl (μ 16) (μ 108) 8)) c s) _
  refine rn_putI (k' := 24) rfl rfl K0_106 (by decide) rfl ?_
  refine rn_aload_n (k' := 25) rfl rfl rfl ?_
  refine rn_aload_n (k' := 26) rfl rfl rfl ?_
  refine rn_getI (k' := 27) rfl rfl K0_14 (by decide) rfl ?_
  show Rn PT none kX6_copyFrom 27 [some (mR 106), some (mR 14)] [mI (μ 14 4), mR 106] (mkh (m_set (m_upd (m_upd (m_set μ 106 0 (μ 14 0)) 107 (fl (μ 15) (μ 107) 8)) 108 (fl (μ 16) (μ 108) 8)) 106 3 (μ 14 3)) c s) _
  refine rn_putI (k' := 28) rfl rfl K0_106 (by decide) rfl ?_
  refine rn_vret rfl ?_
  exact congrArg (fun z => ((some none : Option (Option MV)), mkh z c s)) (scp_eq (d := 106))
set_option maxHeartbeats 2000000 in
theorem c_copy_109_14 {μ : Nat → Nat → Int} {c s : Nat} : Cl PT 64 [mR 109, mR 14] (mkh μ c s) (fun r => r = (some none, mkh (scp μ 109 14) c s)) := by
  refine ⟨_, PT_64, Nat.le_of_ble_eq_true rfl, ?_⟩
  show Rn PT none kX6_copyFrom 0 [some (mR 109), some (mR 14)] [] (mkh μ c s) _
  refine rn_aload_n (k' := 1) rfl rfl rfl ?_
  refine rn_aload_n (k' := 2) rfl rfl rfl ?_
  refine rn_getI (k' := 3) rfl rfl K0_14 (by decide) rfl ?_
  refine rn_putI (k' := 4) rfl rfl K0_109 (by decide) rfl ?_
  refine rn_aload_n (k' := 5) rfl rfl rfl ?_
  refine rn_getR (k' := 6) rfl rfl K0_14 (by decide) rfl R0_14_1 ?_
  refine rn_iconst (k' := 7) rfl rfl ?_
  refine rn_aload_n (k' := 8) rfl rfl rfl ?_
  refine rn_getR (k' := 9) rfl rfl K0_109 (by decide) rfl R0_109_1 ?_
  refine rn_iconst (k' := 10) rfl rfl ?_
  refine rn_bipush (k' := 11) rfl rfl ?_
  refine rn_cpy (k' := 12) rfl rfl K0_15 K0_110 (by decide) (Nat.le_of_ble_eq_true rfl) ?_
  show Rn PT none kX6_copyFrom 12 [some (mR 109), some (mR 14)] [] (mkh (m_upd (m_set μ 109 0 (μ 14 0)) 110 (fl (μ 15) (μ 110) 8)) c s) _
  refine rn_aload_n (k' := 13) rfl rfl rfl ?_
  refine rn_getR (k' := 14) rfl rfl K0_14 (by decide) rfl R0_14_2 ?_
  refine rn_iconst (k' := 15) rfl rfl ?_
  refine rn_aload_n (k' := 16) rfl rfl rfl ?_
  refine rn_getR (k' := 17) rfl rfl K0_109 (by decide) rfl R0_109_2 ?_
  refine rn_iconst (k' := 18) rfl rfl ?_
  refine rn_bipush (k' := 19) rfl rfl ?_
  refine rn_cpy (k' := 20) rfl rfl K0_16 K0_111 (by decide) (Nat.le_of_ble_eq_true rfl) ?_
  show Rn PT none kX6_copyFrom 20 [some (mR 109), some (mR 14)] [] (mkh (m_upd (m_upd (m_set μ 109 0 (μ 14 0)) 110 (fl (μ 15) (μ 110) 8)) 111 (fl (μ 16) (μ 111) 8)) c s) _
  refine rn_aload_n (k' := 21) rfl rfl rfl ?_
  refine rn_aload_n (k' := 22) rfl rfl rfl ?_
  refine rn_getI (k' := 23) rfl rfl K0_14 (by decide) rfl ?_
  show Rn PT none kX6_copyFrom 23 [some (mR 109), some (mR 14)] [mI (μ 14 3), mR 109] (mkh (m_upd (m_upd (m_set μ 109 0 (μ 14 0)) 110 (fl (μ 15) (μ 110) 8)) 111 (fl (μ 16) (μ 111) 8)) c s) _
  refine rn_putI (k' := 24) rfl rfl K0_109 (by decide) rfl ?_
  refine rn_aload_n (k' := 25) rfl rfl rfl ?_
  refine rn_aload_n (k' := 26) rfl rfl rfl ?_
  refine rn_getI (k' := 27) rfl rfl K0_14 (by decide) rfl ?_
  show Rn PT none kX6_copyFrom 27 [some (mR 109), some (mR 14)] [mI (μ 14 4), mR 109] (mkh (m_set (m_upd (m_upd (m_set μ 109 0 (μ 14 0)) 110 (fl (μ 15) (μ 110) 8)) 111 (fl (μ 16) (μ 111) 8)) 109 3 (μ 14 3)) c s) _
  refine rn_putI (k' := 28) rfl rfl K0_109 (by decide) rfl ?_
  refine rn_vret rfl ?_
  exact congrArg (fun z => ((some none : Option (Option MV)), mkh z c s)) (scp_eq (d := 109))
set_option maxHeartbeats 2000000 in
theorem c_copy_14_88 {μ : Nat → Nat → Int} {c s : Nat} : Cl PT 64 [mR 14, mR 88] (mkh μ c s) (fun r => r = (some none, mkh (scp μ 14 88) c s)) := by
  refine ⟨_, PT_64, Nat.le_of_ble_eq_true rfl, ?_⟩
  show Rn PT none kX6_copyFrom 0 [some (mR 14), some (mR 88)] [] (mkh μ c s) _
  refine rn_aload_n (k' := 1) rfl rfl rfl ?_
  refine rn_aload_n (k' := 2) rfl rfl rfl ?_
  refine rn_getI (k' := 3) rfl rfl K0_88 (by decide) rfl ?_
  refine rn_putI (k' := 4) rfl rfl K0_14 (by decide) rfl ?_
  refine rn_aload_n (k' := 5) rfl rfl rfl ?_
  refine rn_getR (k' := 6) rfl rfl K0_88 (by decide) rfl R0_88_1 ?_
  refine rn_iconst (k' := 7) rfl rfl ?_
  refine rn_aload_n (k' := 8) rfl rfl rfl ?_
  refine rn_getR (k' := 9) rfl rfl K0_14 (by decide) rfl R0_14_1 ?_
  refine rn_iconst (k' := 10) rfl rfl ?_
  refine rn_bipush (k' := 11) rfl rfl ?_
  refine rn_cpy (k' := 12) rfl rfl K0_89 K0_15 (by decide) (Nat.le_of_ble_eq_true rfl) ?_
  show Rn PT none kX6_copyFrom 12 [some (mR 14), some (mR 88)] [] (mkh (m_upd (m_set μ 14 0 (μ 88 0)) 15 (fl (μ 89) (μ 15) 8)) c s) _
  refine rn_aload_n (k' := 13) rfl rfl rfl ?_
  refine rn_getR (k' := 14) rfl rfl K0_88 (by decide) rfl R0_88_2 ?_
  refine rn_iconst (k' := 15) rfl rfl ?_
  refine rn_aload_n (k' := 16) rfl rfl rfl ?_
  refine rn_getR (k' := 17) rfl rfl K0_14 (by decide) rfl R0_14_2 ?_
  refine rn_iconst (k' := 18) rfl rfl ?_
  refine rn_bipush (k' := 19) rfl rfl ?_
  refine rn_cpy (k' := 20) rfl rfl K0_90 K0_16 (by decide) (Nat.le_of_ble_eq_true rfl) ?_
  show Rn PT none kX6_copyFrom 20 [some (mR 14), some (mR 88)] [] (mkh (m_upd (m_upd (m_set μ 14 0 (μ 88 0)) 15 (fl (μ 89) (μ 15) 8)) 16 (fl (μ 90) (μ 16) 8)) c s) _
  refine rn_aload_n (k' := 21) rfl rfl rfl ?_
  refine rn_aload_n (k' := 22) rfl rfl rfl ?_
  refine rn_getI (k' := 23) rfl rfl K0_88 (by decide) rfl ?_
  show Rn PT none kX6_copyFrom 23 [some (mR 14), some (mR 88)] [mI (μ 88 3), mR 14] (mkh (m_upd (m_upd (m_set μ 14 0 (μ 88 0)) 15 (fl (μ 89) (μ 15) 8)) 16 (fl (μ 90) (μ 16) 8)) c s) _
  refine rn_putI (k' := 24) rfl rfl K0_14 (by decide) rfl ?_
  refine rn_aload_n (k' := 25) rfl rfl rfl ?_
  refine rn_aload_n (k' := 26) rfl rfl rfl ?_
  refine rn_getI (k' := 27) rfl rfl K0_88 (by decide) rfl ?_
  show Rn PT none kX6_copyFrom 27 [some (mR 14), some (mR 88)] [mI (μ 88 4), mR 14] (mkh (m_set (m_upd (m_upd (m_set μ 14 0 (μ 88 0)) 15 (fl (μ 89) (μ 15) 8)) 16 (fl (μ 90) (μ 16) 8)) 14 3 (μ 88 3)) c s) _
  refine rn_putI (k' := 28) rfl rfl K0_14 (by decide) rfl ?_
  refine rn_vret rfl ?_
  exact congrArg (fun z => ((some none : Option (Option MV)), mkh z c s)) (scp_eq (d := 14))
set_option maxHeartbeats 2000000 in
theorem c_copy_14_91 {μ : Nat → Nat → Int} {c s : Nat} : Cl PT 64 [mR 14, mR 91] (mkh μ c s) (fun r => r = (some none, mkh (scp μ 14 91) c s)) := by
  refine ⟨_, PT_64, Nat.le_of_ble_eq_true rfl, ?_⟩
  show Rn PT none kX6_copyFrom 0 [some (mR 14), some (mR 91)] [] (mkh μ c s) _
  refine rn_aload_n (k' := 1) rfl rfl rfl ?_
  refine rn_aload_n (k' := 2) rfl rfl rfl ?_
  refine rn_getI (k' := 3) rfl rfl K0_91 (by decide) rfl ?_
  refine rn_putI (k' := 4) rfl rfl K0_14 (by decide) rfl ?_
  refine rn_aload_n (k' := 5) rfl rfl rfl ?_
  refine rn_getR (k' := 6) rfl rfl K0_91 (by decide) rfl R0_91_1 ?_
  refine rn_iconst (k' := 7) rfl rfl ?_
  refine rn_aload_n (k' := 8) rfl rfl rfl ?_
  refine rn_getR (k' := 9) rfl rfl K0_14 (by decide) rfl R0_14_1 ?_
  refine rn_iconst (k' := 10) rfl rfl ?_
  refine rn_bipush (k' := 11) rfl rfl ?_
  refine rn_cpy (k' := 12) rfl rfl K0_92 K0_15 (by decide) (Nat.le_of_ble_eq_true rfl) ?_
  show Rn PT none kX6_copyFrom 12 [some (mR 14), some (mR 91)] [] (mkh (m_upd (m_set μ 14 0 (μ 91 0)) 15 (fl (μ 92) (μ 15) 8)) c s) _
  refine rn_aload_n (k' := 13) rfl rfl rfl ?_
  refine rn_getR (k' := 14) rfl rfl K0_91 (by decide) rfl R0_91_2 ?_
  refine rn_iconst (k' := 15) rfl rfl ?_
  refine rn_aload_n (k' := 16) rfl rfl rfl ?_
  refine rn_getR (k' := 17) rfl rfl K0_14 (by decide) rfl R0_14_2 ?_
  refine rn_iconst (k' := 18) rfl rfl ?_
  refine rn_bipush (k' := 19) rfl rfl ?_
  refine rn_cpy (k' := 20) rfl rfl K0_93 K0_16 (by decide) (Nat.le_of_ble_eq_true rfl) ?_
  show Rn PT none kX6_copyFrom 20 [some (mR 14), some (mR 91)] [] (mkh (m_upd (m_upd (m_set μ 14 0 (μ 91 0)) 15 (fl (μ 92) (μ 15) 8)) 16 (fl (μ 93) (μ 16) 8)) c s) _
  refine rn_aload_n (k' := 21) rfl rfl rfl ?_
  refine rn_aload_n (k' := 22) rfl rfl rfl ?_
  refine rn_getI (k' := 23) rfl rfl K0_91 (by decide) rfl ?_
  show Rn PT none kX6_copyFrom 23 [some (mR 14), some (mR 91)] [mI (μ 91 3), mR 14] (mkh (m_upd (m_upd (m_set μ 14 0 (μ 91 0)) 15 (fl (μ 92) (μ 15) 8)) 16 (fl (μ 93) (μ 16) 8)) c s) _
  refine rn_putI (k' := 24) rfl rfl K0_14 (by decide) rfl ?_
  refine rn_aload_n (k' := 25) rfl rfl rfl ?_
  refine rn_aload_n (k' := 26) rfl rfl rfl ?_
  refine rn_getI (k' := 27) rfl rfl K0_91 (by decide) rfl ?_
  show Rn PT none kX6_copyFrom 27 [some (mR 14), some (mR 91)] [mI (μ 91 4), mR 14] (mkh (m_set (m_upd (m_upd (m_set μ 14 0 (μ 91 0)) 15 (fl (μ 92) (μ 15) 8)) 16 (fl (μ 93) (μ 16) 8)) 14 3 (μ 91 3)) c s) _
  refine rn_putI (k' := 28) rfl rfl K0_14 (by decide) rfl ?_
  refine rn_vret rfl ?_
  exact congrArg (fun z => ((some none : Option (Option MV)), mkh z c s)) (scp_eq (d := 14))
set_option maxHeartbeats 2000000 in
theorem c_copy_14_94 {μ : Nat → Nat → Int} {c s : Nat} : Cl PT 64 [mR 14, mR 94] (mkh μ c s) (fun r => r = (some none, mkh (scp μ 14 94) c s)) := by
  refine ⟨_, PT_64, Nat.le_of_ble_eq_true rfl, ?_⟩
  show Rn PT none kX6_copyFrom 0 [some (mR 14), some (mR 94)] [] (mkh μ c s) _
  refine rn_aload_n (k' := 1) rfl rfl rfl ?_
  refine rn_aload_n (k' := 2) rfl rfl rfl ?_
  refine rn_getI (k' := 3) rfl rfl K0_94 (by decide) rfl ?_
  refine rn_putI (k' := 4) rfl rfl K0_14 (by decide) rfl ?_
  refine rn_aload_n (k' := 5) rfl rfl rfl ?_
  refine rn_getR (k' := 6) rfl rfl K0_94 (by decide) rfl R0_94_1 ?_
  refine rn_iconst (k' := 7) rfl rfl ?_
  refine rn_aload_n (k' := 8) rfl rfl rfl ?_
  refine rn_getR (k' := 9) rfl rfl K0_14 (by decide) rfl R0_14_1 ?_
  refine rn_iconst (k' := 10) rfl rfl ?_
  refine rn_bipush (k' := 11) rfl rfl ?_
  refine rn_cpy (k' := 12) rfl rfl K0_95 K0_15 (by decide) (Nat.le_of_ble_eq_true rfl) ?_
  show Rn PT none kX6_copyFrom 12 [some (mR 14), some (mR 94)] [] (mkh (m_upd (m_set μ 14 0 (μ 94 0)) 15 (fl (μ 95) (μ 15) 8)) c s) _
  refine rn_aload_n (k' := 13) rfl rfl rfl ?_
  refine rn_getR (k' := 14) rfl rfl K0_94 (by decide) rfl R0_94_2 ?_
  refine rn_iconst (k' := 15) rfl rfl ?_
  refine rn_aload_n (k' := 16) rfl rfl rfl ?_
  refine rn_getR (k' := 17) rfl rfl K0_14 (by decide) rfl R0_14_2 ?_
  refine rn_iconst (k' := 18) rfl rfl ?_
  refine rn_bipush (k' := 19) rfl rfl ?_
  refine rn_cpy (k' := 20) rfl rfl K0_96 K0_16 (by decide) (Nat.le_of_ble_eq_true rfl) ?_
  show Rn PT none kX6_copyFrom 20 [some (mR 14), some (mR 94)] [] (mkh (m_upd (m_upd (m_set μ 14 0 (μ 94 0)) 15 (fl (μ 95) (μ 15) 8)) 16 (fl (μ 96) (μ 16) 8)) c s) _
  refine rn_aload_n (k' := 21) rfl rfl rfl ?_
  refine rn_aload_n (k' := 22) rfl rfl rfl ?_
  refine rn_getI (k' := 23) rfl rfl K0_94 (by decide) rfl ?_
  show Rn PT none kX6_copyFrom 23 [some (mR 14), some (mR 94)] [mI (μ 94 3), mR 14] (mkh (m_upd (m_upd (m_set μ 14 0 (μ 94 0)) 15 (fl (μ 95) (μ 15) 8)) 16 (fl (μ 96) (μ 16) 8)) c s) _
  refine rn_putI (k' := 24) rfl rfl K0_14 (by decide) rfl ?_
  refine rn_aload_n (k' := 25) rfl rfl rfl ?_
  refine rn_aload_n (k' := 26) rfl rfl rfl ?_
  refine rn_getI (k' := 27) rfl rfl K0_94 (by decide) rfl ?_
  show Rn PT none kX6_copyFrom 27 [some (mR 14), some (mR 94)] [mI (μ 94 4), mR 14] (mkh (m_set (m_upd (m_upd (m_set μ 14 0 (μ 94 0)) 15 (fl (μ 95) (μ 15) 8)) 16 (fl (μ 96) (μ 16) 8)) 14 3 (μ 94 3)) c s) _
  refine rn_putI (k' := 28) rfl rfl K0_14 (by decide) rfl ?_
  refine rn_vret rfl ?_
  exact congrArg (fun z => ((some none : Option (Option MV)), mkh z c s)) (scp_eq (d := 14))
set_option maxHeartbeats 2000000 in
theorem c_copy_14_97 {μ : Nat → Nat → Int} {c s : Nat} : Cl PT 64 [mR 14, mR 97] (mkh μ c s) (fun r => r = (some none, mkh (scp μ 14 97) c s)) := by
  refine ⟨_, PT_64, Nat.le_of_ble_eq_true rfl, ?_⟩
  show Rn PT none kX6_copyFrom 0 [some (mR 14), some (mR 97)] [] (mkh μ c s) _
  refine rn_aload_n (k' := 1) rfl rfl rfl ?_
  refine rn_aload_n (k' := 2) rfl rfl rfl ?_
  refine rn_getI (k' := 3) rfl rfl K0_97 (by decide) rfl ?_
  refine rn_putI (k' := 4) rfl rfl K0_14 (by decide) rfl ?_
  refine rn_aload_n (k' := 5) rfl rfl rfl ?_
  refine rn_getR (k' := 6) rfl rfl K0_97 (by decide) rfl R0_97_1 ?_
  refine rn_iconst (k' := 7) rfl rfl ?_
  refine rn_aload_n (k' := 8) rfl rfl rfl ?_
  refine rn_getR (k' := 9) rfl rfl K0_14 (by decide) rfl R0_14_1 ?_
  refine rn_iconst (k' := 10) rfl rfl ?_
  refine rn_bipush (k' := 11) rfl rfl ?_
  refine rn_cpy (k' := 12) rfl rfl K0_98 K0_15 (by decide) (Nat.le_of_ble_eq_true rfl) ?_
  show Rn PT none kX6_copyFrom 12 [some (mR 14), some (mR 97)] [] (mkh (m_upd (m_set μ 14 0 (μ 97 0)) 15 (fl (μ 98) (μ 15) 8)) c s) _
  refine rn_aload_n (k' := 13) rfl rfl rfl ?_
  refine rn_getR (k' := 14) rfl rfl K0_97 (by decide) rfl R0_97_2 ?_
  refine rn_iconst (k' := 15) rfl rfl ?_
  refine rn_aload_n (k' := 16) rfl rfl rfl ?_
  refine rn_getR (k' := 17) rfl rfl K0_14 (by decide) rfl R0_14_2 ?_
  refine rn_iconst (k' := 18) rfl rfl ?_
  refine rn_bipush (k' := 19) rfl rfl ?_
  refine rn_cpy (k' := 20) rfl rfl K0_99 K0_16 (by decide) (Nat.le_of_ble_eq_true rfl) ?_
  show Rn PT none kX6_copyFrom 20 [some (mR 14), some (mR 97)] [] (mkh (m_upd (m_upd (m_set μ 14 0 (μ 97 0)) 15 (fl (μ 98) (μ 15) 8)) 16 (fl (μ 99) (μ 16) 8)) c s) _
  refine rn_aload_n (k' := 21) rfl rfl rfl ?_
  refine rn_aload_n (k' := 22) rfl rfl rfl ?_
  refine rn_getI (k' := 23) rfl rfl K0_97 (by decide) rfl ?_
  show Rn PT none kX6_copyFrom 23 [some (mR 14), some (mR 97)] [mI (μ 97 3), mR 14] (mkh (m_upd (m_upd (m_set μ 14 0 (μ 97 0)) 15 (fl (μ 98) (μ 15) 8)) 16 (fl (μ 99) (μ 16) 8)) c s) _
  refine rn_putI (k' := 24) rfl rfl K0_14 (by decide) rfl ?_
  refine rn_aload_n (k' := 25) rfl rfl rfl ?_
  refine rn_aload_n (k' := 26) rfl rfl rfl ?_
  refine rn_getI (k' := 27) rfl rfl K0_97 (by decide) rfl ?_
  show Rn PT none kX6_copyFrom 27 [some (mR 14), some (mR 97)] [mI (μ 97 4), mR 14] (mkh (m_set (m_upd (m_upd (m_set μ 14 0 (μ 97 0)) 15 (fl (μ 98) (μ 15) 8)) 16 (fl (μ 99) (μ 16) 8)) 14 3 (μ 97 3)) c s) _
  refine rn_putI (k' := 28) rfl rfl K0_14 (by decide) rfl ?_
  refine rn_vret rfl ?_
  exact congrArg (fun z => ((some none : Option (Option MV)), mkh z c s)) (scp_eq (d := 14))
set_option maxHeartbeats 2000000 in
theorem c_copy_14_100 {μ : Nat → Nat → Int} {c s : Nat} : Cl PT 64 [mR 14, mR 100] (mkh μ c s) (fun r => r = (some none, mkh (scp μ 14 100) c s)) := by
  refine ⟨_, PT_64, Nat.le_of_ble_eq_true rfl, ?_⟩
  show Rn PT none kX6_copyFrom 0 [some (mR 14), some (mR 100)] [] (mkh μ c s) _
  refine rn_aload_n (k' := 1) rfl rfl rfl ?_
  refine rn_aload_n (k' := 2) rfl rfl rfl ?_
  refine rn_getI (k' := 3) rfl rfl K0_100 (by decide) rfl ?_
  refine rn_putI (k' := 4) rfl rfl K0_14 (by decide) rfl ?_
  refine rn_aload_n (k' := 5) rfl rfl rfl ?_
  refine rn_getR (k' := 6) rfl rfl K0_100 (by decide) rfl R0_100_1 ?_
  refine rn_iconst (k' := 7) rfl rfl ?_
  refine rn_aload_n (k' := 8) rfl rfl rfl ?_
  refine rn_getR (k' := 9) rfl rfl K0_14 (by decide) rfl R0_14_1 ?_
  refine rn_iconst (k' := 10) rfl rfl ?_
  refine rn_bipush (k' := 11) rfl rfl ?_
  refine rn_cpy (k' := 12) rfl rfl K0_101 K0_15 (by decide) (Nat.le_of_ble_eq_true rfl) ?_
  show Rn PT none kX6_copyFrom 12 [some (mR 14), some (mR 100)] [] (mkh (m_upd (m_set μ 14 0 (μ 100 0)) 15 (fl (μ 101) (μ 15) 8)) c s) _
  refine rn_aload_n (k' := 13) rfl rfl rfl ?_
  refine rn_getR (k' := 14) rfl rfl K0_100 (by decide) rfl R0_100_2 ?_
  refine rn_iconst (k' := 15) rfl rfl ?_
  refine rn_aload_n (k' := 16) rfl rfl rfl ?_
  refine rn_getR (k' := 17) rfl rfl K0_14 (by decide) rfl R0_14_2 ?_
  refine rn_iconst (k' := 18) rfl rfl ?_
  refine rn_bipush (k' := 19) rfl rfl ?_
  refine rn_cpy (k' := 20) rfl rfl K0_102 K0_16 (by decide) (Nat.le_of_ble_eq_true rfl) ?_
  show Rn PT none kX6_copyFrom 20 [some (mR 14), some (mR 100)] [] (mkh (m_upd (m_upd (m_set μ 14 0 (μ 100 0)) 15 (fl (μ 101) (μ 15) 8)) 16 (fl (μ 102) (μ 16) 8)) c s) _
  refine rn_aload_n (k' := 21) rfl rfl rfl ?_
  refine rn_aload_n (k' := 22) rfl rfl rfl ?_
  refine rn_getI (k' := 23) rfl rfl K0_100 (by decide) rfl ?_
  show Rn PT none kX6_copyFrom 23 [some (mR 14), some (mR 100)] [mI (μ 100 3), mR 14] (mkh (m_upd (m_upd (m_set μ 14 0 (μ 100 0)) 15 (fl (μ 101) (μ 15) 8)) 16 (fl (μ 102) (μ 16) 8)) c s) _
  refine rn_putI (k' := 24) rfl rfl K0_14 (by decide) rfl ?_
  refine rn_aload_n (k' := 25) rfl rfl rfl ?_
  refine rn_aload_n (k' := 26) rfl rfl rfl ?_
  refine rn_getI (k' := 27) rfl rfl K0_100 (by decide) rfl ?_
  show Rn PT none kX6_copyFrom 27 [some (mR 14), some (mR 100)] [mI (μ 100 4), mR 14] (mkh (m_set (m_upd (m_upd (m_set μ 14 0 (μ 100 0)) 15 (fl (μ 101) (μ 15) 8)) 16 (fl (μ 102) (μ 16) 8)) 14 3 (μ 100 3)) c s) _
  refine rn_putI (k' := 28) rfl rfl K0_14 (by decide) rfl ?_
  refine rn_vret rfl ?_
  exact congrArg (fun z => ((some none : Option (Option MV)), mkh z c s)) (scp_eq (d := 14))
set_option maxHeartbeats 2000000 in
theorem c_copy_14_103 {μ : Nat → Nat → Int} {c s : Nat} : Cl PT 64 [mR 14, mR 103] (mkh μ c s) (fun r => r = (some none, mkh (scp μ 14 103) c s)) := by
  refine ⟨_, PT_64, Nat.le_of_ble_eq_true rfl, ?_⟩
  show Rn PT none kX6_copyFrom 0 [some (mR 14), some (mR 103)] [] (mkh μ c s) _
  refine rn_aload_n (k' := 1) rfl rfl rfl ?_
  refine rn_aload_n (k' := 2) rfl rfl rfl ?_
  refine rn_getI (k' := 3) rfl rfl K0_103 (by decide) rfl ?_
  refine rn_putI (k' := 4) rfl rfl K0_14 (by decide) rfl ?_
  refine rn_aload_n (k' := 5) rfl rfl rfl ?_
  refine rn_getR (k' := 6) rfl rfl K0_103 (by decide) rfl R0_103_1 ?_
  refine rn_iconst (k' := 7) rfl rfl ?_
  refine rn_aload_n (k' := 8) rfl rfl rfl ?_
  refine rn_getR (k' := 9) rfl rfl K0_14 (by decide) rfl R0_14_1 ?_
  refine rn_iconst (k' := 10) rfl rfl ?_
  refine rn_bipush (k' := 11) rfl rfl ?_
  refine rn_cpy (k' := 12) rfl rfl K0_104 K0_15 (by decide) (Nat.le_of_ble_eq_true rfl) ?_
  show Rn PT none kX6_copyFrom 12 [some (mR 14), some (mR 103)] [] (mkh (m_upd (m_set μ 14 0 (μ 103 0)) 15 (fl (μ 104) (μ 15) 8)) c s) _
  refine rn_aload_n (k' := 13) rfl rfl rfl ?_
  refine rn_getR (k' := 14) rfl rfl K0_103 (by decide) rfl R0_103_2 ?_
  refine rn_iconst (k' := 15) rfl rfl ?_
  refine rn_aload_n (k' := 16) rfl rfl rfl ?_
  refine rn_getR (k' := 17) rfl rfl K0_14 (by decide) rfl R0_14_2 ?_
  refine rn_iconst (k' := 18) rfl rfl ?_
  refine rn_bipush (k' := 19) rfl rfl ?_
  refine rn_cpy (k' := 20) rfl rfl K0_105 K0_16 (by decide) (Nat.le_of_ble_eq_true rfl) ?_
  show Rn PT none kX6_copyFrom 20 [some (mR 14), some (mR 103)] [] (mkh (m_upd (m_upd (m_set μ 14 0 (μ 103 0)) 15 (fl (μ 104) (μ 15) 8)) 16 (fl (μ 105) (μ 16) 8)) c s) _
  refine rn_aload_n (k' := 21) rfl rfl rfl ?_
  refine rn_aload_n (k' := 22) rfl rfl rfl ?_
  refine rn_getI (k' := 23) rfl rfl K0_103 (by decide) rfl ?_
  show Rn PT none kX6_copyFrom 23 [some (mR 14), some (mR 103)] [mI (μ 103 3), mR 14] (mkh (m_upd (m_upd (m_set μ 14 0 (μ 103 0)) 15 (fl (μ 104) (μ 15) 8)) 16 (fl (μ 105) (μ 16) 8)) c s) _
  refine rn_putI (k' := 24) rfl rfl K0_14 (by decide) rfl ?_
  refine rn_aload_n (k' := 25) rfl rfl rfl ?_
  refine rn_aload_n (k' := 26) rfl rfl rfl ?_
  refine rn_getI (k' := 27) rfl rfl K0_103 (by decide) rfl ?_
  show Rn PT none kX6_copyFrom 27 [some (mR 14), some (mR 103)] [mI (μ 103 4), mR 14] (mkh (m_set (m_upd (m_upd (m_set μ 14 0 (μ 103 0)) 15 (fl (μ 104) (μ 15) 8)) 16 (fl (μ 105) (μ 16) 8)) 14 3 (μ 103 3)) c s) _
  refine rn_putI (k' := 28) rfl rfl K0_14 (by decide) rfl ?_
  refine rn_vret rfl ?_
  exact congrArg (fun z => ((some none : Option (Option MV)), mkh z c s)) (scp_eq (d := 14))
set_option maxHeartbeats 2000000 in
theorem c_copy_14_106 {μ : Nat → Nat → Int} {c s : Nat} : Cl PT 64 [mR 14, mR 106] (mkh μ c s) (fun r => r = (some none, mkh (scp μ 14 106) c s)) := by
  refine ⟨_, PT_64, Nat.le_of_ble_eq_true rfl, ?_⟩
  show Rn PT none kX6_copyFrom 0 [some (mR 14), some (mR 106)] [] (mkh μ c s) _
  refine rn_aload_n (k' := 1) rfl rfl rfl ?_
  refine rn_aload_n (k' := 2) rfl rfl rfl ?_
  refine rn_getI (k' := 3) rfl rfl K0_106 (by decide) rfl ?_
  refine rn_putI (k' := 4) rfl rfl K0_14 (by decide) rfl ?_
  refine rn_aload_n (k' := 5) rfl rfl rfl ?_
  refine rn_getR (k' := 6) rfl rfl K0_106 (by decide) rfl R0_106_1 ?_
  refine rn_iconst (k' := 7) rfl rfl ?_
  refine rn_aload_n (k' := 8) rfl rfl rfl ?_
  refine rn_getR (k' := 9) rfl rfl K0_14 (by decide) rfl R0_14_1 ?_
  refine rn_iconst (k' := 10) rfl rfl ?_
  refine rn_bipush (k' := 11) rfl rfl ?_
  refine rn_cpy (k' := 12) rfl rfl K0_107 K0_15 (by decide) (Nat.le_of_ble_eq_true rfl) ?_
  show Rn PT none kX6_copyFrom 12 [some (mR 14), some (mR 106)] [] (mkh (m_upd (m_set μ 14 0 (μ 106 0)) 15 (fl (μ 107) (μ 15) 8)) c s) _
  refine rn_aload_n (k' := 13) rfl rfl rfl ?_
  refine rn_getR (k' := 14) rfl rfl K0_106 (by decide) rfl R0_106_2 ?_
  refine rn_iconst (k' := 15) rfl rfl ?_
  refine rn_aload_n (k' := 16) rfl rfl rfl ?_
  refine rn_getR (k' := 17) rfl rfl K0_14 (by decide) rfl R0_14_2 ?_
  refine rn_iconst (k' := 18) rfl rfl ?_
  refine rn_bipush (k' := 19) rfl rfl ?_
  refine rn_cpy (k' := 20) rfl rfl K0_108 K0_16 (by decide) (Nat.le_of_ble_eq_true rfl) ?_
  show Rn PT none kX6_copyFrom 20 [some (mR 14), some (mR 106)] [] (mkh (m_upd (m_upd (m_set μ 14 0 (μ 106 0)) 15 (fl (μ 107) (μ 15) 8)) 16 (fl (μ 108) (μ 16) 8)) c s) _
  refine rn_aload_n (k' := 21) rfl rfl rfl ?_
  refine rn_aload_n (k' := 22) rfl rfl rfl ?_
  refine rn_getI (k' := 23) rfl rfl K0_106 (by decide) rfl ?_
  show Rn PT none kX6_copyFrom 23 [some (mR 14), some (mR 106)] [mI (μ 106 3), mR 14] (mkh (m_upd (m_upd (m_set μ 14 0 (μ 106 0)) 15 (fl (μ 107) (μ 15) 8)) 16 (fl (μ 108) (μ 16) 8)) c s) _
  refine rn_putI (k' := 24) rfl rfl K0_14 (by decide) rfl ?_
  refine rn_aload_n (k' := 25) rfl rfl rfl ?_
  refine rn_aload_n (k' := 26) rfl rfl rfl ?_
  refine rn_getI (k' := 27) rfl rfl K0_106 (by decide) rfl ?_
  show Rn PT none kX6_copyFrom 27 [some (mR 14), some (mR 106)] [mI (μ 106 4), mR 14] (mkh (m_set (m_upd (m_upd (m_set μ 14 0 (μ 106 0)) 15 (fl (μ 107) (μ 15) 8)) 16 (fl (μ 108) (μ 16) 8)) 14 3 (μ 106 3)) c s) _
  refine rn_putI (k' := 28) rfl rfl K0_14 (by decide) rfl ?_
  refine rn_vret rfl ?_
  exact congrArg (fun z => ((some none : Option (Option MV)), mkh z c s)) (scp_eq (d := 14))
set_option maxHeartbeats 2000000 in
theorem c_copy_14_109 {μ : Nat → Nat → Int} {c s : Nat} : Cl PT 64 [mR 14, mR 109] (mkh μ c s) (fun r => r = (some none, mkh (scp μ 14 109) c s)) := by
  refine ⟨_, PT_64, Nat.le_of_ble_eq_true rfl, ?_⟩
  show Rn PT none kX6_copyFrom 0 [some (mR 14), some (mR 109)] [] (mkh μ c s) _
  refine rn_aload_n (k' := 1) rfl rfl rfl ?_
  refine rn_aload_n (k' := 2) rfl rfl rfl ?_
  refine rn_getI (k' := 3) rfl rfl K0_109 (by decide) rfl ?_
  refine rn_putI (k' := 4) rfl rfl K0_14 (by decide) rfl ?_
  refine rn_aload_n (k' := 5) rfl rfl rfl ?_
  refine rn_getR (k' := 6) rfl rfl K0_109 (by decide) rfl R0_109_1 ?_
  refine rn_iconst (k' := 7) rfl rfl ?_
  refine rn_aload_n (k' := 8) rfl rfl rfl ?_
  refine rn_getR (k' := 9) rfl rfl K0_14 (by decide) rfl R0_14_1 ?_
  refine rn_iconst (k' := 10) rfl rfl ?_
  refine rn_bipush (k' := 11) rfl rfl ?_
  refine rn_cpy (k' := 12) rfl rfl K0_110 K0_15 (by decide) (Nat.le_of_ble_eq_true rfl) ?_
  show Rn PT none kX6_copyFrom 12 [some (mR 14), some (mR 109)] [] (mkh (m_upd (m_set μ 14 0 (μ 109 0)) 15 (fl (μ 110) (μ 15) 8)) c s) _
  refine rn_aload_n (k' := 13) rfl rfl rfl ?_
  refine rn_getR (k' := 14) rfl rfl K0_109 (by decide) rfl R0_109_2 ?_
  refine rn_iconst (k' := 15) rfl rfl ?_
  refine rn_aload_n (k' := 16) rfl rfl rfl ?_
  refine rn_getR (k' := 17) rfl rfl K0_14 (by decide) rfl R0_14_2 ?_
  refine rn_iconst (k' := 18) rfl rfl ?_
  refine rn_bipush (k' := 19) rfl rfl ?_
  refine rn_cpy (k' := 20) rfl rfl K0_111 K0_16 (by decide) (Nat.le_of_ble_eq_true rfl) ?_
  show Rn PT none kX6_copyFrom 20 [some (mR 14), some (mR 109)] [] (mkh (m_upd (m_upd (m_set μ 14 0 (μ 109 0)) 15 (fl (μ 110) (μ 15) 8)) 16 (fl (μ 111) (μ 16) 8)) c s) _
  refine rn_aload_n (k' := 21) rfl rfl rfl ?_
  refine rn_aload_n (k' := 22) rfl rfl rfl ?_
  refine rn_getI (k' := 23) rfl rfl K0_109 (by decide) rfl ?_
  show Rn PT none kX6_copyFrom 23 [some (mR 14), some (mR 109)] [mI (μ 109 3), mR 14] (mkh (m_upd (m_upd (m_set μ 14 0 (μ 109 0)) 15 (fl (μ 110) (μ 15) 8)) 16 (fl (μ 111) (μ 16) 8)) c s) _
  refine rn_putI (k' := 24) rfl rfl K0_14 (by decide) rfl ?_
  refine rn_aload_n (k' := 25) rfl rfl rfl ?_
  refine rn_aload_n (k' := 26) rfl rfl rfl ?_
  refine rn_getI (k' := 27) rfl rfl K0_109 (by decide) rfl ?_
  show Rn PT none kX6_copyFrom 27 [some (mR 14), some (mR 109)] [mI (μ 109 4), mR 14] (mkh (m_set (m_upd (m_upd (m_set μ 14 0 (μ 109 0)) 15 (fl (μ 110) (μ 15) 8)) 16 (fl (μ 111) (μ 16) 8)) 14 3 (μ 109 3)) c s) _
  refine rn_putI (k' := 28) rfl rfl K0_14 (by decide) rfl ?_
  refine rn_vret rfl ?_
  exact congrArg (fun z => ((some none : Option (Option MV)), mkh z c s)) (scp_eq (d := 14))
set_option maxHeartbeats 2000000 in
theorem c_X0_begin {μ : Nat → Nat → Int} {c s : Nat} : Cl PT 1 [mR 82] (mkh μ c s) (fun r => r = (some none, mkh (m_set (scp μ 83 14) 82 7 0) c s)) := by
  refine ⟨_, PT_1, Nat.le_of_ble_eq_true rfl, ?_⟩
  show Rn PT none kX0_begin 0 [some (mR 82)] [] (mkh μ c s) _
  refine rn_aload_n (k' := 1) rfl rfl rfl ?_
  refine rn_getR (k' := 2) rfl rfl K0_82 (by decide) rfl R0_82_3 ?_
  refine rn_aload_n (k' := 3) rfl rfl rfl ?_
  refine rn_getR (k' := 4) rfl rfl K0_82 (by decide) rfl R0_82_2 ?_
  refine rn_callP (k' := 5) (y := 64) (vs := [mR 83, mR 14]) (S' := []) (v := none) (h' := mkh (scp μ 83 14) c s) rfl rfl rfl (c_copy_83_14 (μ := μ) (c := c) (s := s)) ?_
  show Rn PT none kX0_begin 5 [some (mR 82)] [] (mkh (scp μ 83 14) c s) _
  refine rn_aload_n (k' := 6) rfl rfl rfl ?_
  refine rn_iconst (k' := 7) rfl rfl ?_
  refine rn_putI (k' := 8) rfl rfl K0_82 (by decide) rfl ?_
  refine rn_vret rfl ?_
  first | rfl | (refine congrArg (fun z => ((some (some (mI z)) : Option (Option MV)), mkh (m_set (scp μ 83 14) 82 7 (0)) c s)) ?_; first | rfl | omega | (symm; first | (rw [if_pos (by omega)]; first | done | rfl | omega) | (rw [if_neg (by omega)]; first | done | rfl | omega)) | (symm; unfold g_tim; first | (rw [if_pos (by omega)]; first | done | rfl | omega) | (rw [if_neg (by omega)]; first | done | rfl | omega)) | (symm; unfold g_st; first | (rw [if_pos (by omega)]; first | done | rfl | omega) | (rw [if_neg (by omega)]; first | done | rfl | omega)) | (symm; unfold g_dep; first | (rw [if_pos (by omega)]; first | done | rfl | omega) | (rw [if_neg (by omega)]; first | done | rfl | omega)) | (symm; unfold g_nb; first | (rw [if_pos (by omega)]; first | done | rfl | omega) | (rw [if_neg (by omega)]; first | done | rfl | omega)) | ((try unfold g_st); (try unfold g_dep); (try unfold g_nb); (repeat' split) <;> omega) | (symm; (repeat (first | rw [if_pos (by omega)] | rw [if_neg (by omega)])); first | done | rfl | omega))
/-- settled: the scene now is kept as the past one p, the trial becomes the scene -/
def stl (μ : Nat → Nat → Int) (p : Nat) : Nat → Nat → Int := scp (m_set (m_set (scp μ (88 + 3 * p) 14) 82 5 (μ 82 5 + 1)) 82 6 (if 8 < μ 82 6 + 1 then 8 else μ 82 6 + 1)) 14 83
def tkb (μ : Nat → Nat → Int) (p : Nat) : Nat → Nat → Int := scp (m_set (m_set μ 82 5 (μ 82 5 - 1)) 82 6 (μ 82 6 - 1)) 14 (88 + 3 * p)
set_option maxHeartbeats 4000000 in
theorem c_settle {μ : Nat → Nat → Int} {c s : Nat} {p : Nat} (h5 : 0 ≤ μ 82 5 ∧ μ 82 5 ≤ 1000) (h6 : 0 ≤ μ 82 6 ∧ μ 82 6 ≤ 8) (hp : (p : Int) = μ 82 5 % 8) : Cl PT 2 [mR 82] (mkh μ c s) (fun r => r = (some none, mkh (stl μ p) c s)) := by
  have e8 := Int.tmod_eq_emod_of_nonneg (b := 8) h5.1
  rcases (show p = 0 ∨ p = 1 ∨ p = 2 ∨ p = 3 ∨ p = 4 ∨ p = 5 ∨ p = 6 ∨ p = 7 by omega) with rfl | rfl | rfl | rfl | rfl | rfl | rfl | rfl
  · have z5 : scp μ 88 14 82 5 = μ 82 5 := rfl
    have z6 : scp μ 88 14 82 6 = μ 82 6 := rfl
    refine ⟨_, PT_2, Nat.le_of_ble_eq_true rfl, ?_⟩
    show Rn PT none kX0_settle 0 [some (mR 82)] [] (mkh μ c s) _
    refine rn_aload_n (k' := 1) rfl rfl rfl ?_
    refine rn_getR (k' := 2) rfl rfl K0_82 (by decide) rfl R0_82_4 ?_
    refine rn_aload_n (k' := 3) rfl rfl rfl ?_
    refine rn_getI (k' := 4) rfl rfl K0_82 (by decide) rfl ?_
    refine rn_bipush (k' := 5) rfl rfl ?_
    refine rn_irem (k' := 6) rfl rfl (by omega) ?_
    refine rn_aaload (k' := 7) rfl rfl K0_86 (by decide) (by omega) (by omega) (by rw [show ((μ 82 5).tmod (8)).toNat = 0 by omega]; rfl) ?_
    refine rn_aload_n (k' := 8) rfl rfl rfl ?_
    refine rn_getR (k' := 9) rfl rfl K0_82 (by decide) rfl R0_82_2 ?_
    refine rn_callP (k' := 10) (y := 64) (vs := [mR 88, mR 14]) (S' := []) (v := none) (h' := mkh (scp μ 88 14) c s) rfl rfl rfl (c_copy_88_14 (μ := μ) (c := c) (s := s)) ?_
    show Rn PT none kX0_settle 10 [some (mR 82)] [] (mkh (scp μ 88 14) c s) _
    refine rn_aload_n (k' := 11) rfl rfl rfl ?_
    refine rn_dupR (k' := 12) rfl rfl ?_
    refine rn_getI (k' := 13) rfl rfl K0_82 (by decide) rfl ?_
    refine rn_iconst (k' := 14) rfl rfl ?_
    refine rn_iadd (k' := 15) rfl rfl (by omega) ?_
    refine rn_putI (k' := 16) rfl rfl K0_82 (by decide) rfl ?_
    refine rn_aload_n (k' := 17) rfl rfl rfl ?_
    refine rn_aload_n (k' := 18) rfl rfl rfl ?_
    refine rn_getI (k' := 19) rfl rfl K0_82 (by decide) rfl ?_
    show Rn PT none kX0_settle 19 [some (mR 82)] [mI ((scp μ 88 14) 82 6), mR 82] (mkh (m_set (scp μ 88 14) 82 5 (((scp μ 88 14) 82 5) + 1)) c s) _
    refine rn_iconst (k' := 20) rfl rfl ?_
    refine rn_iadd (k' := 21) rfl rfl (by omega) ?_
    refine rn_bipush (k' := 22) rfl rfl ?_
    refine rn_nat (k' := 23) (S' := [mI (if 8 < ((scp μ 88 14) 82 6) + 1 then 8 else ((scp μ 88 14) 82 6) + 1), mR 82]) (h' := mkh (m_set (scp μ 88 14) 82 5 (((scp μ 88 14) 82 5) + 1)) c s) rfl rfl rfl ?_
    refine rn_putI (k' := 24) rfl rfl K0_82 (by decide) rfl ?_
    refine rn_aload_n (k' := 25) rfl rfl rfl ?_
    refine rn_getR (k' := 26) rfl rfl K0_82 (by decide) rfl R0_82_2 ?_
    refine rn_aload_n (k' := 27) rfl rfl rfl ?_
    refine rn_getR (k' := 28) rfl rfl K0_82 (by decide) rfl R0_82_3 ?_
    refine rn_callP (k' := 29) (y := 64) (vs := [mR 14, mR 83]) (S' := []) (v := none) (h' := mkh (scp (m_set (m_set (scp μ 88 14) 82 5 (((scp μ 88 14) 82 5) + 1)) 82 6 (if 8 < ((scp μ 88 14) 82 6) + 1 then 8 else ((scp μ 88 14) 82 6) + 1)) 14 83) c s) rfl rfl rfl (c_copy_14_83 (μ := (m_set (m_set (scp μ 88 14) 82 5 (((scp μ 88 14) 82 5) + 1)) 82 6 (if 8 < ((scp μ 88 14) 82 6) + 1 then 8 else ((scp μ 88 14) 82 6) + 1))) (c := c) (s := s)) ?_
    show Rn PT none kX0_settle 29 [some (mR 82)] [] (mkh (scp (m_set (m_set (scp μ 88 14) 82 5 (((scp μ 88 14) 82 5) + 1)) 82 6 (if 8 < ((scp μ 88 14) 82 6) + 1 then 8 else ((scp μ 88 14) 82 6) + 1)) 14 83) c s) _
    refine rn_vret rfl ?_
    rfl
  · have z5 : scp μ 91 14 82 5 = μ 82 5 := rfl
    have z6 : scp μ 91 14 82 6 = μ 82 6 := rfl
    refine ⟨_, PT_2, Nat.le_of_ble_eq_true rfl, ?_⟩
    show Rn PT none kX0_settle 0 [some (mR 82)] [] (mkh μ c s) _
    refine rn_aload_n (k' := 1) rfl rfl rfl ?_
    refine rn_getR (k' := 2) rfl rfl K0_82 (by decide) rfl R0_82_4 ?_
    refine rn_aload_n (k' := 3) rfl rfl rfl ?_
    refine rn_getI (k' := 4) rfl rfl K0_82 (by decide) rfl ?_
    refine rn_bipush (k' := 5) rfl rfl ?_
    refine rn_irem (k' := 6) rfl rfl (by omega) ?_
    refine rn_aaload (k' := 7) rfl rfl K0_86 (by decide) (by omega) (by omega) (by rw [show ((μ 82 5).tmod (8)).toNat = 1 by omega]; rfl) ?_
    refine rn_aload_n (k' := 8) rfl rfl rfl ?_
    refine rn_getR (k' := 9) rfl rfl K0_82 (by decide) rfl R0_82_2 ?_
    refine rn_callP (k' := 10) (y := 64) (vs := [mR 91, mR 14]) (S' := []) (v := none) (h' := mkh (scp μ 91 14) c s) rfl rfl rfl (c_copy_91_14 (μ := μ) (c := c) (s := s)) ?_
    show Rn PT none kX0_settle 10 [some (mR 82)] [] (mkh (scp μ 91 14) c s) _
    refine rn_aload_n (k' := 11) rfl rfl rfl ?_
    refine rn_dupR (k' := 12) rfl rfl ?_
    refine rn_getI (k' := 13) rfl rfl K0_82 (by decide) rfl ?_
    refine rn_iconst (k' := 14) rfl rfl ?_
    refine rn_iadd (k' := 15) rfl rfl (by omega) ?_
    refine rn_putI (k' := 16) rfl rfl K0_82 (by decide) rfl ?_
    refine rn_aload_n (k' := 17) rfl rfl rfl ?_
    refine rn_aload_n (k' := 18) rfl rfl rfl ?_
    refine rn_getI (k' := 19) rfl rfl K0_82 (by decide) rfl ?_
    show Rn PT none kX0_settle 19 [some (mR 82)] [mI ((scp μ 91 14) 82 6), mR 82] (mkh (m_set (scp μ 91 14) 82 5 (((scp μ 91 14) 82 5) + 1)) c s) _
    refine rn_iconst (k' := 20) rfl rfl ?_
    refine rn_iadd (k' := 21) rfl rfl (by omega) ?_
    refine rn_bipush (k' := 22) rfl rfl ?_
    refine rn_nat (k' := 23) (S' := [mI (if 8 < ((scp μ 91 14) 82 6) + 1 then 8 else ((scp μ 91 14) 82 6) + 1), mR 82]) (h' := mkh (m_set (scp μ 91 14) 82 5 (((scp μ 91 14) 82 5) + 1)) c s) rfl rfl rfl ?_
    refine rn_putI (k' := 24) rfl rfl K0_82 (by decide) rfl ?_
    refine rn_aload_n (k' := 25) rfl rfl rfl ?_
    refine rn_getR (k' := 26) rfl rfl K0_82 (by decide) rfl R0_82_2 ?_
    refine rn_aload_n (k' := 27) rfl rfl rfl ?_
    refine rn_getR (k' := 28) rfl rfl K0_82 (by decide) rfl R0_82_3 ?_
    refine rn_callP (k' := 29) (y := 64) (vs := [mR 14, mR 83]) (S' := []) (v := none) (h' := mkh (scp (m_set (m_set (scp μ 91 14) 82 5 (((scp μ 91 14) 82 5) + 1)) 82 6 (if 8 < ((scp μ 91 14) 82 6) + 1 then 8 else ((scp μ 91 14) 82 6) + 1)) 14 83) c s) rfl rfl rfl (c_copy_14_83 (μ := (m_set (m_set (scp μ 91 14) 82 5 (((scp μ 91 14) 82 5) + 1)) 82 6 (if 8 < ((scp μ 91 14) 82 6) + 1 then 8 else ((scp μ 91 14) 82 6) + 1))) (c := c) (s := s)) ?_
    show Rn PT none kX0_settle 29 [some (mR 82)] [] (mkh (scp (m_set (m_set (scp μ 91 14) 82 5 (((scp μ 91 14) 82 5) + 1)) 82 6 (if 8 < ((scp μ 91 14) 82 6) + 1 then 8 else ((scp μ 91 14) 82 6) + 1)) 14 83) c s) _
    refine rn_vret rfl ?_
    rfl
  · have z5 : scp μ 94 14 82 5 = μ 82 5 := rfl
    have z6 : scp μ 94 14 82 6 = μ 82 6 := rfl
    refine ⟨_, PT_2, Nat.le_of_ble_eq_true rfl, ?_⟩
    show Rn PT none kX0_settle 0 [some (mR 82)] [] (mkh μ c s) _
    refine rn_aload_n (k' := 1) rfl rfl rfl ?_
    refine rn_getR (k' := 2) rfl rfl K0_82 (by decide) rfl R0_82_4 ?_
    refine rn_aload_n (k' := 3) rfl rfl rfl ?_
    refine rn_getI (k' := 4) rfl rfl K0_82 (by decide) rfl ?_
    refine rn_bipush (k' := 5) rfl rfl ?_
    refine rn_irem (k' := 6) rfl rfl (by omega) ?_
    refine rn_aaload (k' := 7) rfl rfl K0_86 (by decide) (by omega) (by omega) (by rw [show ((μ 82 5).tmod (8)).toNat = 2 by omega]; rfl) ?_
    refine rn_aload_n (k' := 8) rfl rfl rfl ?_
    refine rn_getR (k' := 9) rfl rfl K0_82 (by decide) rfl R0_82_2 ?_
    refine rn_callP (k' := 10) (y := 64) (vs := [mR 94, mR 14]) (S' := []) (v := none) (h' := mkh (scp μ 94 14) c s) rfl rfl rfl (c_copy_94_14 (μ := μ) (c := c) (s := s)) ?_
    show Rn PT none kX0_settle 10 [some (mR 82)] [] (mkh (scp μ 94 14) c s) _
    refine rn_aload_n (k' := 11) rfl rfl rfl ?_
    refine rn_dupR (k' := 12) rfl rfl ?_
    refine rn_getI (k' := 13) rfl rfl K0_82 (by decide) rfl ?_
    refine rn_iconst (k' := 14) rfl rfl ?_
    refine rn_iadd (k' := 15) rfl rfl (by omega) ?_
    refine rn_putI (k' := 16) rfl rfl K0_82 (by decide) rfl ?_
    refine rn_aload_n (k' := 17) rfl rfl rfl ?_
    refine rn_aload_n (k' := 18) rfl rfl rfl ?_
    refine rn_getI (k' := 19) rfl rfl K0_82 (by decide) rfl ?_
    show Rn PT none kX0_settle 19 [some (mR 82)] [mI ((scp μ 94 14) 82 6), mR 82] (mkh (m_set (scp μ 94 14) 82 5 (((scp μ 94 14) 82 5) + 1)) c s) _
    refine rn_iconst (k' := 20) rfl rfl ?_
    refine rn_iadd (k' := 21) rfl rfl (by omega) ?_
    refine rn_bipush (k' := 22) rfl rfl ?_
    refine rn_nat (k' := 23) (S' := [mI (if 8 < ((scp μ 94 14) 82 6) + 1 then 8 else ((scp μ 94 14) 82 6) + 1), mR 82]) (h' := mkh (m_set (scp μ 94 14) 82 5 (((scp μ 94 14) 82 5) + 1)) c s) rfl rfl rfl ?_
    refine rn_putI (k' := 24) rfl rfl K0_82 (by decide) rfl ?_
    refine rn_aload_n (k' := 25) rfl rfl rfl ?_
    refine rn_getR (k' := 26) rfl rfl K0_82 (by decide) rfl R0_82_2 ?_
    refine rn_aload_n (k' := 27) rfl rfl rfl ?_
    refine rn_getR (k' := 28) rfl rfl K0_82 (by decide) rfl R0_82_3 ?_
    refine rn_callP (k' := 29) (y := 64) (vs := [mR 14, mR 83]) (S' := []) (v := none) (h' := mkh (scp (m_set (m_set (scp μ 94 14) 82 5 (((scp μ 94 14) 82 5) + 1)) 82 6 (if 8 < ((scp μ 94 14) 82 6) + 1 then 8 else ((scp μ 94 14) 82 6) + 1)) 14 83) c s) rfl rfl rfl (c_copy_14_83 (μ := (m_set (m_set (scp μ 94 14) 82 5 (((scp μ 94 14) 82 5) + 1)) 82 6 (if 8 < ((scp μ 94 14) 82 6) + 1 then 8 else ((scp μ 94 14) 82 6) + 1))) (c := c) (s := s)) ?_
    show Rn PT none kX0_settle 29 [some (mR 82)] [] (mkh (scp (m_set (m_set (scp μ 94 14) 82 5 (((scp μ 94 14) 82 5) + 1)) 82 6 (if 8 < ((scp μ 94 14) 82 6) + 1 then 8 else ((scp μ 94 14) 82 6) + 1)) 14 83) c s) _
    refine rn_vret rfl ?_
    rfl
  · have z5 : scp μ 97 14 82 5 = μ 82 5 := rfl
    have z6 : scp μ 97 14 82 6 = μ 82 6 := rfl
    refine ⟨_, PT_2, Nat.le_of_ble_eq_true rfl, ?_⟩
    show Rn PT none kX0_settle 0 [some (mR 82)] [] (mkh μ c s) _
    refine rn_aload_n (k' := 1) rfl rfl rfl ?_
    refine rn_getR (k' := 2) rfl rfl K0_82 (by decide) rfl R0_82_4 ?_
    refine rn_aload_n (k' := 3) rfl rfl rfl ?_
    refine rn_getI (k' := 4) rfl rfl K0_82 (by decide) rfl ?_
    refine rn_bipush (k' := 5) rfl rfl ?_
    refine rn_irem (k' := 6) rfl rfl (by omega) ?_
    refine rn_aaload (k' := 7) rfl rfl K0_86 (by decide) (by omega) (by omega) (by rw [show ((μ 82 5).tmod (8)).toNat = 3 by omega]; rfl) ?_
    refine rn_aload_n (k' := 8) rfl rfl rfl ?_
    refine rn_getR (k' := 9) rfl rfl K0_82 (by decide) rfl R0_82_2 ?_
    refine rn_callP (k' := 10) (y := 64) (vs := [mR 97, mR 14]) (S' := []) (v := none) (h' := mkh (scp μ 97 14) c s) rfl rfl rfl (c_copy_97_14 (μ := μ) (c := c) (s := s)) ?_
    show Rn PT none kX0_settle 10 [some (mR 82)] [] (mkh (scp μ 97 14) c s) _
    refine rn_aload_n (k' := 11) rfl rfl rfl ?_
    refine rn_dupR (k' := 12) rfl rfl ?_
    refine rn_getI (k' := 13) rfl rfl K0_82 (by decide) rfl ?_
    refine rn_iconst (k' := 14) rfl rfl ?_
    refine rn_iadd (k' := 15) rfl rfl (by omega) ?_
    refine rn_putI (k' := 16) rfl rfl K0_82 (by decide) rfl ?_
    refine rn_aload_n (k' := 17) rfl rfl rfl ?_
    refine rn_aload_n (k' := 18) rfl rfl rfl ?_
    refine rn_getI (k' := 19) rfl rfl K0_82 (by decide) rfl ?_
    show Rn PT none kX0_settle 19 [some (mR 82)] [mI ((scp μ 97 14) 82 6), mR 82] (mkh (m_set (scp μ 97 14) 82 5 (((scp μ 97 14) 82 5) + 1)) c s) _
    refine rn_iconst (k' := 20) rfl rfl ?_
    refine rn_iadd (k' := 21) rfl rfl (by omega) ?_
    refine rn_bipush (k' := 22) rfl rfl ?_
    refine rn_nat (k' := 23) (S' := [mI (if 8 < ((scp μ 97 14) 82 6) + 1 then 8 else ((scp μ 97 14) 82 6) + 1), mR 82]) (h' := mkh (m_set (scp μ 97 14) 82 5 (((scp μ 97 14) 82 5) + 1)) c s) rfl rfl rfl ?_
    refine rn_putI (k' := 24) rfl rfl K0_82 (by decide) rfl ?_
    refine rn_aload_n (k' := 25) rfl rfl rfl ?_
    refine rn_getR (k' := 26) rfl rfl K0_82 (by decide) rfl R0_82_2 ?_
    refine rn_aload_n (k' := 27) rfl rfl rfl ?_
    refine rn_getR (k' := 28) rfl rfl K0_82 (by decide) rfl R0_82_3 ?_
    refine rn_callP (k' := 29) (y := 64) (vs := [mR 14, mR 83]) (S' := []) (v := none) (h' := mkh (scp (m_set (m_set (scp μ 97 14) 82 5 (((scp μ 97 14) 82 5) + 1)) 82 6 (if 8 < ((scp μ 97 14) 82 6) + 1 then 8 else ((scp μ 97 14) 82 6) + 1)) 14 83) c s) rfl rfl rfl (c_copy_14_83 (μ := (m_set (m_set (scp μ 97 14) 82 5 (((scp μ 97 14) 82 5) + 1)) 82 6 (if 8 < ((scp μ 97 14) 82 6) + 1 then 8 else ((scp μ 97 14) 82 6) + 1))) (c := c) (s := s)) ?_
    show Rn PT none kX0_settle 29 [some (mR 82)] [] (mkh (scp (m_set (m_set (scp μ 97 14) 82 5 (((scp μ 97 14) 82 5) + 1)) 82 6 (if 8 < ((scp μ 97 14) 82 6) + 1 then 8 else ((scp μ 97 14) 82 6) + 1)) 14 83) c s) _
    refine rn_vret rfl ?_
    rfl
  · have z5 : scp μ 100 14 82 5 = μ 82 5 := rfl
    have z6 : scp μ 100 14 82 6 = μ 82 6 := rfl
    refine ⟨_, PT_2, Nat.le_of_ble_eq_true rfl, ?_⟩
    show Rn PT none kX0_settle 0 [some (mR 82)] [] (mkh μ c s) _
    refine rn_aload_n (k' := 1) rfl rfl rfl ?_
    refine rn_getR (k' := 2) rfl rfl K0_82 (by decide) rfl R0_82_4 ?_
    refine rn_aload_n (k' := 3) rfl rfl rfl ?_
    refine rn_getI (k' := 4) rfl rfl K0_82 (by decide) rfl ?_
    refine rn_bipush (k' := 5) rfl rfl ?_
    refine rn_irem (k' := 6) rfl rfl (by omega) ?_
    refine rn_aaload (k' := 7) rfl rfl K0_86 (by decide) (by omega) (by omega) (by rw [show ((μ 82 5).tmod (8)).toNat = 4 by omega]; rfl) ?_
    refine rn_aload_n (k' := 8) rfl rfl rfl ?_
    refine rn_getR (k' := 9) rfl rfl K0_82 (by decide) rfl R0_82_2 ?_
    refine rn_callP (k' := 10) (y := 64) (vs := [mR 100, mR 14]) (S' := []) (v := none) (h' := mkh (scp μ 100 14) c s) rfl rfl rfl (c_copy_100_14 (μ := μ) (c := c) (s := s)) ?_
    show Rn PT none kX0_settle 10 [some (mR 82)] [] (mkh (scp μ 100 14) c s) _
    refine rn_aload_n (k' := 11) rfl rfl rfl ?_
    refine rn_dupR (k' := 12) rfl rfl ?_
    refine rn_getI (k' := 13) rfl rfl K0_82 (by decide) rfl ?_
    refine rn_iconst (k' := 14) rfl rfl ?_
    refine rn_iadd (k' := 15) rfl rfl (by omega) ?_
    refine rn_putI (k' := 16) rfl rfl K0_82 (by decide) rfl ?_
    refine rn_aload_n (k' := 17) rfl rfl rfl ?_
    refine rn_aload_n (k' := 18) rfl rfl rfl ?_
    refine rn_getI (k' := 19) rfl rfl K0_82 (by decide) rfl ?_
    show Rn PT none kX0_settle 19 [some (mR 82)] [mI ((scp μ 100 14) 82 6), mR 82] (mkh (m_set (scp μ 100 14) 82 5 (((scp μ 100 14) 82 5) + 1)) c s) _
    refine rn_iconst (k' := 20) rfl rfl ?_
    refine rn_iadd (k' := 21) rfl rfl (by omega) ?_
    refine rn_bipush (k' := 22) rfl rfl ?_
    refine rn_nat (k' := 23) (S' := [mI (if 8 < ((scp μ 100 14) 82 6) + 1 then 8 else ((scp μ 100 14) 82 6) + 1), mR 82]) (h' := mkh (m_set (scp μ 100 14) 82 5 (((scp μ 100 14) 82 5) + 1)) c s) rfl rfl rfl ?_
    refine rn_putI (k' := 24) rfl rfl K0_82 (by decide) rfl ?_
    refine rn_aload_n (k' := 25) rfl rfl rfl ?_
    refine rn_getR (k' := 26) rfl rfl K0_82 (by decide) rfl R0_82_2 ?_
    refine rn_aload_n (k' := 27) rfl rfl rfl ?_
    refine rn_getR (k' := 28) rfl rfl K0_82 (by decide) rfl R0_82_3 ?_
    refine rn_callP (k' := 29) (y := 64) (vs := [mR 14, mR 83]) (S' := []) (v := none) (h' := mkh (scp (m_set (m_set (scp μ 100 14) 82 5 (((scp μ 100 14) 82 5) + 1)) 82 6 (if 8 < ((scp μ 100 14) 82 6) + 1 then 8 else ((scp μ 100 14) 82 6) + 1)) 14 83) c s) rfl rfl rfl (c_copy_14_83 (μ := (m_set (m_set (scp μ 100 14) 82 5 (((scp μ 100 14) 82 5) + 1)) 82 6 (if 8 < ((scp μ 100 14) 82 6) + 1 then 8 else ((scp μ 100 14) 82 6) + 1))) (c := c) (s := s)) ?_
    show Rn PT none kX0_settle 29 [some (mR 82)] [] (mkh (scp (m_set (m_set (scp μ 100 14) 82 5 (((scp μ 100 14) 82 5) + 1)) 82 6 (if 8 < ((scp μ 100 14) 82 6) + 1 then 8 else ((scp μ 100 14) 82 6) + 1)) 14 83) c s) _
    refine rn_vret rfl ?_
    rfl
  · have z5 : scp μ 103 14 82 5 = μ 82 5 := rfl
    have z6 : scp μ 103 14 82 6 = μ 82 6 := rfl
    refine ⟨_, PT_2, Nat.le_of_ble_eq_true rfl, ?_⟩
    show Rn PT none kX0_settle 0 [some (mR 82)] [] (mkh μ c s) _
    refine rn_aload_n (k' := 1) rfl rfl rfl ?_
    refine rn_getR (k' := 2) rfl rfl K0_82 (by decide) rfl R0_82_4 ?_
    refine rn_aload_n (k' := 3) rfl rfl rfl ?_
    refine rn_getI (k' := 4) rfl rfl K0_82 (by decide) rfl ?_
    refine rn_bipush (k' := 5) rfl rfl ?_
    refine rn_irem (k' := 6) rfl rfl (by omega) ?_
    refine rn_aaload (k' := 7) rfl rfl K0_86 (by decide) (by omega) (by omega) (by rw [show ((μ 82 5).tmod (8)).toNat = 5 by omega]; rfl) ?_
    refine rn_aload_n (k' := 8) rfl rfl rfl ?_
    refine rn_getR (k' := 9) rfl rfl K0_82 (by decide) rfl R0_82_2 ?_
    refine rn_callP (k' := 10) (y := 64) (vs := [mR 103, mR 14]) (S' := []) (v := none) (h' := mkh (scp μ 103 14) c s) rfl rfl rfl (c_copy_103_14 (μ := μ) (c := c) (s := s)) ?_
    show Rn PT none kX0_settle 10 [some (mR 82)] [] (mkh (scp μ 103 14) c s) _
    refine rn_aload_n (k' := 11) rfl rfl rfl ?_
    refine rn_dupR (k' := 12) rfl rfl ?_
    refine rn_getI (k' := 13) rfl rfl K0_82 (by decide) rfl ?_
    refine rn_iconst (k' := 14) rfl rfl ?_
    refine rn_iadd (k' := 15) rfl rfl (by omega) ?_
    refine rn_putI (k' := 16) rfl rfl K0_82 (by decide) rfl ?_
    refine rn_aload_n (k' := 17) rfl rfl rfl ?_
    refine rn_aload_n (k' := 18) rfl rfl rfl ?_
    refine rn_getI (k' := 19) rfl rfl K0_82 (by decide) rfl ?_
    show Rn PT none kX0_settle 19 [some (mR 82)] [mI ((scp μ 103 14) 82 6), mR 82] (mkh (m_set (scp μ 103 14) 82 5 (((scp μ 103 14) 82 5) + 1)) c s) _
    refine rn_iconst (k' := 20) rfl rfl ?_
    refine rn_iadd (k' := 21) rfl rfl (by omega) ?_
    refine rn_bipush (k' := 22) rfl rfl ?_
    refine rn_nat (k' := 23) (S' := [mI (if 8 < ((scp μ 103 14) 82 6) + 1 then 8 else ((scp μ 103 14) 82 6) + 1), mR 82]) (h' := mkh (m_set (scp μ 103 14) 82 5 (((scp μ 103 14) 82 5) + 1)) c s) rfl rfl rfl ?_
    refine rn_putI (k' := 24) rfl rfl K0_82 (by decide) rfl ?_
    refine rn_aload_n (k' := 25) rfl rfl rfl ?_
    refine rn_getR (k' := 26) rfl rfl K0_82 (by decide) rfl R0_82_2 ?_
    refine rn_aload_n (k' := 27) rfl rfl rfl ?_
    refine rn_getR (k' := 28) rfl rfl K0_82 (by decide) rfl R0_82_3 ?_
    refine rn_callP (k' := 29) (y := 64) (vs := [mR 14, mR 83]) (S' := []) (v := none) (h' := mkh (scp (m_set (m_set (scp μ 103 14) 82 5 (((scp μ 103 14) 82 5) + 1)) 82 6 (if 8 < ((scp μ 103 14) 82 6) + 1 then 8 else ((scp μ 103 14) 82 6) + 1)) 14 83) c s) rfl rfl rfl (c_copy_14_83 (μ := (m_set (m_set (scp μ 103 14) 82 5 (((scp μ 103 14) 82 5) + 1)) 82 6 (if 8 < ((scp μ 103 14) 82 6) + 1 then 8 else ((scp μ 103 14) 82 6) + 1))) (c := c) (s := s)) ?_
    show Rn PT none kX0_settle 29 [some (mR 82)] [] (mkh (scp (m_set (m_set (scp μ 103 14) 82 5 (((scp μ 103 14) 82 5) + 1)) 82 6 (if 8 < ((scp μ 103 14) 82 6) + 1 then 8 else ((scp μ 103 14) 82 6) + 1)) 14 83) c s) _
    refine rn_vret rfl ?_
    rfl
  · have z5 : scp μ 106 14 82 5 = μ 82 5 := rfl
    have z6 : scp μ 106 14 82 6 = μ 82 6 := rfl
    refine ⟨_, PT_2, Nat.le_of_ble_eq_true rfl, ?_⟩
    show Rn PT none kX0_settle 0 [some (mR 82)] [] (mkh μ c s) _
    refine rn_aload_n (k' := 1) rfl rfl rfl ?_
    refine rn_getR (k' := 2) rfl rfl K0_82 (by decide) rfl R0_82_4 ?_
    refine rn_aload_n (k' := 3) rfl rfl rfl ?_
    refine rn_getI (k' := 4) rfl rfl K0_82 (by decide) rfl ?_
    refine rn_bipush (k' := 5) rfl rfl ?_
    refine rn_irem (k' := 6) rfl rfl (by omega) ?_
    refine rn_aaload (k' := 7) rfl rfl K0_86 (by decide) (by omega) (by omega) (by rw [show ((μ 82 5).tmod (8)).toNat = 6 by omega]; rfl) ?_
    refine rn_aload_n (k' := 8) rfl rfl rfl ?_
    refine rn_getR (k' := 9) rfl rfl K0_82 (by decide) rfl R0_82_2 ?_
    refine rn_callP (k' := 10) (y := 64) (vs := [mR 106, mR 14]) (S' := []) (v := none) (h' := mkh (scp μ 106 14) c s) rfl rfl rfl (c_copy_106_14 (μ := μ) (c := c) (s := s)) ?_
    show Rn PT none kX0_settle 10 [some (mR 82)] [] (mkh (scp μ 106 14) c s) _
    refine rn_aload_n (k' := 11) rfl rfl rfl ?_
    refine rn_dupR (k' := 12) rfl rfl ?_
    refine rn_getI (k' := 13) rfl rfl K0_82 (by decide) rfl ?_
    refine rn_iconst (k' := 14) rfl rfl ?_
    refine rn_iadd (k' := 15) rfl rfl (by omega) ?_
    refine rn_putI (k' := 16) rfl rfl K0_82 (by decide) rfl ?_
    refine rn_aload_n (k' := 17) rfl rfl rfl ?_
    refine rn_aload_n (k' := 18) rfl rfl rfl ?_
    refine rn_getI (k' := 19) rfl rfl K0_82 (by decide) rfl ?_
    show Rn PT none kX0_settle 19 [some (mR 82)] [mI ((scp μ 106 14) 82 6), mR 82] (mkh (m_set (scp μ 106 14) 82 5 (((scp μ 106 14) 82 5) + 1)) c s) _
    refine rn_iconst (k' := 20) rfl rfl ?_
    refine rn_iadd (k' := 21) rfl rfl (by omega) ?_
    refine rn_bipush (k' := 22) rfl rfl ?_
    refine rn_nat (k' := 23) (S' := [mI (if 8 < ((scp μ 106 14) 82 6) + 1 then 8 else ((scp μ 106 14) 82 6) + 1), mR 82]) (h' := mkh (m_set (scp μ 106 14) 82 5 (((scp μ 106 14) 82 5) + 1)) c s) rfl rfl rfl ?_
    refine rn_putI (k' := 24) rfl rfl K0_82 (by decide) rfl ?_
    refine rn_aload_n (k' := 25) rfl rfl rfl ?_
    refine rn_getR (k' := 26) rfl rfl K0_82 (by decide) rfl R0_82_2 ?_
    refine rn_aload_n (k' := 27) rfl rfl rfl ?_
    refine rn_getR (k' := 28) rfl rfl K0_82 (by decide) rfl R0_82_3 ?_
    refine rn_callP (k' := 29) (y := 64) (vs := [mR 14, mR 83]) (S' := []) (v := none) (h' := mkh (scp (m_set (m_set (scp μ 106 14) 82 5 (((scp μ 106 14) 82 5) + 1)) 82 6 (if 8 < ((scp μ 106 14) 82 6) + 1 then 8 else ((scp μ 106 14) 82 6) + 1)) 14 83) c s) rfl rfl rfl (c_copy_14_83 (μ := (m_set (m_set (scp μ 106 14) 82 5 (((scp μ 106 14) 82 5) + 1)) 82 6 (if 8 < ((scp μ 106 14) 82 6) + 1 then 8 else ((scp μ 106 14) 82 6) + 1))) (c := c) (s := s)) ?_
    show Rn PT none kX0_settle 29 [some (mR 82)] [] (mkh (scp (m_set (m_set (scp μ 106 14) 82 5 (((scp μ 106 14) 82 5) + 1)) 82 6 (if 8 < ((scp μ 106 14) 82 6) + 1 then 8 else ((scp μ 106 14) 82 6) + 1)) 14 83) c s) _
    refine rn_vret rfl ?_
    rfl
  · have z5 : scp μ 109 14 82 5 = μ 82 5 := rfl
    have z6 : scp μ 109 14 82 6 = μ 82 6 := rfl
    refine ⟨_, PT_2, Nat.le_of_ble_eq_true rfl, ?_⟩
    show Rn PT none kX0_settle 0 [some (mR 82)] [] (mkh μ c s) _
    refine rn_aload_n (k' := 1) rfl rfl rfl ?_
    refine rn_getR (k' := 2) rfl rfl K0_82 (by decide) rfl R0_82_4 ?_
    refine rn_aload_n (k' := 3) rfl rfl rfl ?_
    refine rn_getI (k' := 4) rfl rfl K0_82 (by decide) rfl ?_
    refine rn_bipush (k' := 5) rfl rfl ?_
    refine rn_irem (k' := 6) rfl rfl (by omega) ?_
    refine rn_aaload (k' := 7) rfl rfl K0_86 (by decide) (by omega) (by omega) (by rw [show ((μ 82 5).tmod (8)).toNat = 7 by omega]; rfl) ?_
    refine rn_aload_n (k' := 8) rfl rfl rfl ?_
    refine rn_getR (k' := 9) rfl rfl K0_82 (by decide) rfl R0_82_2 ?_
    refine rn_callP (k' := 10) (y := 64) (vs := [mR 109, mR 14]) (S' := []) (v := none) (h' := mkh (scp μ 109 14) c s) rfl rfl rfl (c_copy_109_14 (μ := μ) (c := c) (s := s)) ?_
    show Rn PT none kX0_settle 10 [some (mR 82)] [] (mkh (scp μ 109 14) c s) _
    refine rn_aload_n (k' := 11) rfl rfl rfl ?_
    refine rn_dupR (k' := 12) rfl rfl ?_
    refine rn_getI (k' := 13) rfl rfl K0_82 (by decide) rfl ?_
    refine rn_iconst (k' := 14) rfl rfl ?_
    refine rn_iadd (k' := 15) rfl rfl (by omega) ?_
    refine rn_putI (k' := 16) rfl rfl K0_82 (by decide) rfl ?_
    refine rn_aload_n (k' := 17) rfl rfl rfl ?_
    refine rn_aload_n (k' := 18) rfl rfl rfl ?_
    refine rn_getI (k' := 19) rfl rfl K0_82 (by decide) rfl ?_
    show Rn PT none kX0_settle 19 [some (mR 82)] [mI ((scp μ 109 14) 82 6), mR 82] (mkh (m_set (scp μ 109 14) 82 5 (((scp μ 109 14) 82 5) + 1)) c s) _
    refine rn_iconst (k' := 20) rfl rfl ?_
    refine rn_iadd (k' := 21) rfl rfl (by omega) ?_
    refine rn_bipush (k' := 22) rfl rfl ?_
    refine rn_nat (k' := 23) (S' := [mI (if 8 < ((scp μ 109 14) 82 6) + 1 then 8 else ((scp μ 109 14) 82 6) + 1), mR 82]) (h' := mkh (m_set (scp μ 109 14) 82 5 (((scp μ 109 14) 82 5) + 1)) c s) rfl rfl rfl ?_
    refine rn_putI (k' := 24) rfl rfl K0_82 (by decide) rfl ?_
    refine rn_aload_n (k' := 25) rfl rfl rfl ?_
    refine rn_getR (k' := 26) rfl rfl K0_82 (by decide) rfl R0_82_2 ?_
    refine rn_aload_n (k' := 27) rfl rfl rfl ?_
    refine rn_getR (k' := 28) rfl rfl K0_82 (by decide) rfl R0_82_3 ?_
    refine rn_callP (k' := 29) (y := 64) (vs := [mR 14, mR 83]) (S' := []) (v := none) (h' := mkh (scp (m_set (m_set (scp μ 109 14) 82 5 (((scp μ 109 14) 82 5) + 1)) 82 6 (if 8 < ((scp μ 109 14) 82 6) + 1 then 8 else ((scp μ 109 14) 82 6) + 1)) 14 83) c s) rfl rfl rfl (c_copy_14_83 (μ := (m_set (m_set (scp μ 109 14) 82 5 (((scp μ 109 14) 82 5) + 1)) 82 6 (if 8 < ((scp μ 109 14) 82 6) + 1 then 8 else ((scp μ 109 14) 82 6) + 1))) (c := c) (s := s)) ?_
    show Rn PT none kX0_settle 29 [some (mR 82)] [] (mkh (scp (m_set (m_set (scp μ 109 14) 82 5 (((scp μ 109 14) 82 5) + 1)) 82 6 (if 8 < ((scp μ 109 14) 82 6) + 1 then 8 else ((scp μ 109 14) 82 6) + 1)) 14 83) c s) _
    refine rn_vret rfl ?_
    rfl
set_option maxHeartbeats 4000000 in
theorem c_takeBack {μ : Nat → Nat → Int} {c s : Nat} {p : Nat} (h5 : 0 ≤ μ 82 5 ∧ μ 82 5 ≤ 1000) (h6 : 0 ≤ μ 82 6 ∧ μ 82 6 ≤ 8) (hu : 0 < μ 82 6) (h56 : μ 82 6 ≤ μ 82 5) (hp : (p : Int) = (μ 82 5 - 1) % 8) : Cl PT 4 [mR 82] (mkh μ c s) (fun r => r = (some (some (mI (μ 82 6 - 1))), mkh (tkb μ p) c s)) := by
  have e8 := Int.tmod_eq_emod_of_nonneg (a := μ 82 5 - 1) (b := 8) (by omega)
  rcases (show p = 0 ∨ p = 1 ∨ p = 2 ∨ p = 3 ∨ p = 4 ∨ p = 5 ∨ p = 6 ∨ p = 7 by omega) with rfl | rfl | rfl | rfl | rfl | rfl | rfl | rfl
  · skip
    refine ⟨_, PT_4, Nat.le_of_ble_eq_true rfl, ?_⟩
    show Rn PT none kX0_takeBack 0 [some (mR 82)] [] (mkh μ c s) _
    refine rn_aload_n (k' := 1) rfl rfl rfl ?_
    refine rn_getI (k' := 2) rfl rfl K0_82 (by decide) rfl ?_
    refine rn_if_eq (k' := 3) rfl rfl (fun hc1 => ?_) (fun hc1 => ?_)
    · exfalso; omega
    · skip
      refine rn_aload_n (k' := 4) rfl rfl rfl ?_
      refine rn_getI (k' := 5) rfl rfl K0_82 (by decide) rfl ?_
      refine rn_if_ne (k' := 6) rfl rfl (fun hc2 => ?_) (fun hc2 => ?_)
      · skip
        refine rn_aload_n (k' := 9) rfl rfl rfl ?_
        refine rn_dupR (k' := 10) rfl rfl ?_
        refine rn_getI (k' := 11) rfl rfl K0_82 (by decide) rfl ?_
        refine rn_iconst (k' := 12) rfl rfl ?_
        refine rn_isub (k' := 13) rfl rfl (by omega) ?_
        refine rn_putI (k' := 14) rfl rfl K0_82 (by decide) rfl ?_
        refine rn_aload_n (k' := 15) rfl rfl rfl ?_
        refine rn_dupR (k' := 16) rfl rfl ?_
        refine rn_getI (k' := 17) rfl rfl K0_82 (by decide) rfl ?_
        show Rn PT none kX0_takeBack 17 [some (mR 82)] [mI (μ 82 6), mR 82] (mkh (m_set μ 82 5 ((μ 82 5) - 1)) c s) _
        refine rn_iconst (k' := 18) rfl rfl ?_
        refine rn_isub (k' := 19) rfl rfl (by omega) ?_
        refine rn_putI (k' := 20) rfl rfl K0_82 (by decide) rfl ?_
        refine rn_aload_n (k' := 21) rfl rfl rfl ?_
        refine rn_getR (k' := 22) rfl rfl K0_82 (by decide) rfl R0_82_2 ?_
        refine rn_aload_n (k' := 23) rfl rfl rfl ?_
        refine rn_getR (k' := 24) rfl rfl K0_82 (by decide) rfl R0_82_4 ?_
        refine rn_aload_n (k' := 25) rfl rfl rfl ?_
        refine rn_getI (k' := 26) rfl rfl K0_82 (by decide) rfl ?_
        show Rn PT none kX0_takeBack 26 [some (mR 82)] [mI ((μ 82 5) - 1), mR 86, mR 14] (mkh (m_set (m_set μ 82 5 ((μ 82 5) - 1)) 82 6 ((μ 82 6) - 1)) c s) _
        refine rn_bipush (k' := 27) rfl rfl ?_
        refine rn_irem (k' := 28) rfl rfl (by omega) ?_
        refine rn_aaload (k' := 29) rfl rfl K0_86 (by decide) (by omega) (by omega) (by rw [show (((μ 82 5) - 1).tmod (8)).toNat = 0 by omega]; rfl) ?_
        refine rn_callP (k' := 30) (y := 64) (vs := [mR 14, mR 88]) (S' := []) (v := none) (h' := mkh (scp (m_set (m_set μ 82 5 ((μ 82 5) - 1)) 82 6 ((μ 82 6) - 1)) 14 88) c s) rfl rfl rfl (c_copy_14_88 (μ := (m_set (m_set μ 82 5 ((μ 82 5) - 1)) 82 6 ((μ 82 6) - 1))) (c := c) (s := s)) ?_
        show Rn PT none kX0_takeBack 30 [some (mR 82)] [] (mkh (scp (m_set (m_set μ 82 5 ((μ 82 5) - 1)) 82 6 ((μ 82 6) - 1)) 14 88) c s) _
        refine rn_aload_n (k' := 31) rfl rfl rfl ?_
        refine rn_getI (k' := 32) rfl rfl K0_82 (by decide) rfl ?_
        refine rn_iret rfl (Or.inl rfl) ?_
        rfl
      · exfalso; omega
  · skip
    refine ⟨_, PT_4, Nat.le_of_ble_eq_true rfl, ?_⟩
    show Rn PT none kX0_takeBack 0 [some (mR 82)] [] (mkh μ c s) _
    refine rn_aload_n (k' := 1) rfl rfl rfl ?_
    refine rn_getI (k' := 2) rfl rfl K0_82 (by decide) rfl ?_
    refine rn_if_eq (k' := 3) rfl rfl (fun hc1 => ?_) (fun hc1 => ?_)
    · exfalso; omega
    · skip
      refine rn_aload_n (k' := 4) rfl rfl rfl ?_
      refine rn_getI (k' := 5) rfl rfl K0_82 (by decide) rfl ?_
      refine rn_if_ne (k' := 6) rfl rfl (fun hc2 => ?_) (fun hc2 => ?_)
      · skip
        refine rn_aload_n (k' := 9) rfl rfl rfl ?_
        refine rn_dupR (k' := 10) rfl rfl ?_
        refine rn_getI (k' := 11) rfl rfl K0_82 (by decide) rfl ?_
        refine rn_iconst (k' := 12) rfl rfl ?_
        refine rn_isub (k' := 13) rfl rfl (by omega) ?_
        refine rn_putI (k' := 14) rfl rfl K0_82 (by decide) rfl ?_
        refine rn_aload_n (k' := 15) rfl rfl rfl ?_
        refine rn_dupR (k' := 16) rfl rfl ?_
        refine rn_getI (k' := 17) rfl rfl K0_82 (by decide) rfl ?_
        show Rn PT none kX0_takeBack 17 [some (mR 82)] [mI (μ 82 6), mR 82] (mkh (m_set μ 82 5 ((μ 82 5) - 1)) c s) _
        refine rn_iconst (k' := 18) rfl rfl ?_
        refine rn_isub (k' := 19) rfl rfl (by omega) ?_
        refine rn_putI (k' := 20) rfl rfl K0_82 (by decide) rfl ?_
        refine rn_aload_n (k' := 21) rfl rfl rfl ?_
        refine rn_getR (k' := 22) rfl rfl K0_82 (by decide) rfl R0_82_2 ?_
        refine rn_aload_n (k' := 23) rfl rfl rfl ?_
        refine rn_getR (k' := 24) rfl rfl K0_82 (by decide) rfl R0_82_4 ?_
        refine rn_aload_n (k' := 25) rfl rfl rfl ?_
        refine rn_getI (k' := 26) rfl rfl K0_82 (by decide) rfl ?_
        show Rn PT none kX0_takeBack 26 [some (mR 82)] [mI ((μ 82 5) - 1), mR 86, mR 14] (mkh (m_set (m_set μ 82 5 ((μ 82 5) - 1)) 82 6 ((μ 82 6) - 1)) c s) _
        refine rn_bipush (k' := 27) rfl rfl ?_
        refine rn_irem (k' := 28) rfl rfl (by omega) ?_
        refine rn_aaload (k' := 29) rfl rfl K0_86 (by decide) (by omega) (by omega) (by rw [show (((μ 82 5) - 1).tmod (8)).toNat = 1 by omega]; rfl) ?_
        refine rn_callP (k' := 30) (y := 64) (vs := [mR 14, mR 91]) (S' := []) (v := none) (h' := mkh (scp (m_set (m_set μ 82 5 ((μ 82 5) - 1)) 82 6 ((μ 82 6) - 1)) 14 91) c s) rfl rfl rfl (c_copy_14_91 (μ := (m_set (m_set μ 82 5 ((μ 82 5) - 1)) 82 6 ((μ 82 6) - 1))) (c := c) (s := s)) ?_
        show Rn PT none kX0_takeBack 30 [some (mR 82)] [] (mkh (scp (m_set (m_set μ 82 5 ((μ 82 5) - 1)) 82 6 ((μ 82 6) - 1)) 14 91) c s) _
        refine rn_aload_n (k' := 31) rfl rfl rfl ?_
        refine rn_getI (k' := 32) rfl rfl K0_82 (by decide) rfl ?_
        refine rn_iret rfl (Or.inl rfl) ?_
        rfl
      · exfalso; omega
  · skip
    refine ⟨_, PT_4, Nat.le_of_ble_eq_true rfl, ?_⟩
    show Rn PT none kX0_takeBack 0 [some (mR 82)] [] (mkh μ c s) _
    refine rn_aload_n (k' := 1) rfl rfl rfl ?_
    refine rn_getI (k' := 2) rfl rfl K0_82 (by decide) rfl ?_
    refine rn_if_eq (k' := 3) rfl rfl (fun hc1 => ?_) (fun hc1 => ?_)
    · exfalso; omega
    · skip
      refine rn_aload_n (k' := 4) rfl rfl rfl ?_
      refine rn_getI (k' := 5) rfl rfl K0_82 (by decide) rfl ?_
      refine rn_if_ne (k' := 6) rfl rfl (fun hc2 => ?_) (fun hc2 => ?_)
      · skip
        refine rn_aload_n (k' := 9) rfl rfl rfl ?_
        refine rn_dupR (k' := 10) rfl rfl ?_
        refine rn_getI (k' := 11) rfl rfl K0_82 (by decide) rfl ?_
        refine rn_iconst (k' := 12) rfl rfl ?_
        refine rn_isub (k' := 13) rfl rfl (by omega) ?_
        refine rn_putI (k' := 14) rfl rfl K0_82 (by decide) rfl ?_
        refine rn_aload_n (k' := 15) rfl rfl rfl ?_
        refine rn_dupR (k' := 16) rfl rfl ?_
        refine rn_getI (k' := 17) rfl rfl K0_82 (by decide) rfl ?_
        show Rn PT none kX0_takeBack 17 [some (mR 82)] [mI (μ 82 6), mR 82] (mkh (m_set μ 82 5 ((μ 82 5) - 1)) c s) _
        refine rn_iconst (k' := 18) rfl rfl ?_
        refine rn_isub (k' := 19) rfl rfl (by omega) ?_
        refine rn_putI (k' := 20) rfl rfl K0_82 (by decide) rfl ?_
        refine rn_aload_n (k' := 21) rfl rfl rfl ?_
        refine rn_getR (k' := 22) rfl rfl K0_82 (by decide) rfl R0_82_2 ?_
        refine rn_aload_n (k' := 23) rfl rfl rfl ?_
        refine rn_getR (k' := 24) rfl rfl K0_82 (by decide) rfl R0_82_4 ?_
        refine rn_aload_n (k' := 25) rfl rfl rfl ?_
        refine rn_getI (k' := 26) rfl rfl K0_82 (by decide) rfl ?_
        show Rn PT none kX0_takeBack 26 [some (mR 82)] [mI ((μ 82 5) - 1), mR 86, mR 14] (mkh (m_set (m_set μ 82 5 ((μ 82 5) - 1)) 82 6 ((μ 82 6) - 1)) c s) _
        refine rn_bipush (k' := 27) rfl rfl ?_
        refine rn_irem (k' := 28) rfl rfl (by omega) ?_
        refine rn_aaload (k' := 29) rfl rfl K0_86 (by decide) (by omega) (by omega) (by rw [show (((μ 82 5) - 1).tmod (8)).toNat = 2 by omega]; rfl) ?_
        refine rn_callP (k' := 30) (y := 64) (vs := [mR 14, mR 94]) (S' := []) (v := none) (h' := mkh (scp (m_set (m_set μ 82 5 ((μ 82 5) - 1)) 82 6 ((μ 82 6) - 1)) 14 94) c s) rfl rfl rfl (c_copy_14_94 (μ := (m_set (m_set μ 82 5 ((μ 82 5) - 1)) 82 6 ((μ 82 6) - 1))) (c := c) (s := s)) ?_
        show Rn PT none kX0_takeBack 30 [some (mR 82)] [] (mkh (scp (m_set (m_set μ 82 5 ((μ 82 5) - 1)) 82 6 ((μ 82 6) - 1)) 14 94) c s) _
        refine rn_aload_n (k' := 31) rfl rfl rfl ?_
        refine rn_getI (k' := 32) rfl rfl K0_82 (by decide) rfl ?_
        refine rn_iret rfl (Or.inl rfl) ?_
        rfl
      · exfalso; omega
  · skip
    refine ⟨_, PT_4, Nat.le_of_ble_eq_true rfl, ?_⟩
    show Rn PT none kX0_takeBack 0 [some (mR 82)] [] (mkh μ c s) _
    refine rn_aload_n (k' := 1) rfl rfl rfl ?_
    refine rn_getI (k' := 2) rfl rfl K0_82 (by decide) rfl ?_
    refine rn_if_eq (k' := 3) rfl rfl (fun hc1 => ?_) (fun hc1 => ?_)
    · exfalso; omega
    · skip
      refine rn_aload_n (k' := 4) rfl rfl rfl ?_
      refine rn_getI (k' := 5) rfl rfl K0_82 (by decide) rfl ?_
      refine rn_if_ne (k' := 6) rfl rfl (fun hc2 => ?_) (fun hc2 => ?_)
      · skip
        refine rn_aload_n (k' := 9) rfl rfl rfl ?_
        refine rn_dupR (k' := 10) rfl rfl ?_
        refine rn_getI (k' := 11) rfl rfl K0_82 (by decide) rfl ?_
        refine rn_iconst (k' := 12) rfl rfl ?_
        refine rn_isub (k' := 13) rfl rfl (by omega) ?_
        refine rn_putI (k' := 14) rfl rfl K0_82 (by decide) rfl ?_
        refine rn_aload_n (k' := 15) rfl rfl rfl ?_
        refine rn_dupR (k' := 16) rfl rfl ?_
        refine rn_getI (k' := 17) rfl rfl K0_82 (by decide) rfl ?_
        show Rn PT none kX0_takeBack 17 [some (mR 82)] [mI (μ 82 6), mR 82] (mkh (m_set μ 82 5 ((μ 82 5) - 1)) c s) _
        refine rn_iconst (k' := 18) rfl rfl ?_
        refine rn_isub (k' := 19) rfl rfl (by omega) ?_
        refine rn_putI (k' := 20) rfl rfl K0_82 (by decide) rfl ?_
        refine rn_aload_n (k' := 21) rfl rfl rfl ?_
        refine rn_getR (k' := 22) rfl rfl K0_82 (by decide) rfl R0_82_2 ?_
        refine rn_aload_n (k' := 23) rfl rfl rfl ?_
        refine rn_getR (k' := 24) rfl rfl K0_82 (by decide) rfl R0_82_4 ?_
        refine rn_aload_n (k' := 25) rfl rfl rfl ?_
        refine rn_getI (k' := 26) rfl rfl K0_82 (by decide) rfl ?_
        show Rn PT none kX0_takeBack 26 [some (mR 82)] [mI ((μ 82 5) - 1), mR 86, mR 14] (mkh (m_set (m_set μ 82 5 ((μ 82 5) - 1)) 82 6 ((μ 82 6) - 1)) c s) _
        refine rn_bipush (k' := 27) rfl rfl ?_
        refine rn_irem (k' := 28) rfl rfl (by omega) ?_
        refine rn_aaload (k' := 29) rfl rfl K0_86 (by decide) (by omega) (by omega) (by rw [show (((μ 82 5) - 1).tmod (8)).toNat = 3 by omega]; rfl) ?_
        refine rn_callP (k' := 30) (y := 64) (vs := [mR 14, mR 97]) (S' := []) (v := none) (h' := mkh (scp (m_set (m_set μ 82 5 ((μ 82 5) - 1)) 82 6 ((μ 82 6) - 1)) 14 97) c s) rfl rfl rfl (c_copy_14_97 (μ := (m_set (m_set μ 82 5 ((μ 82 5) - 1)) 82 6 ((μ 82 6) - 1))) (c := c) (s := s)) ?_
        show Rn PT none kX0_takeBack 30 [some (mR 82)] [] (mkh (scp (m_set (m_set μ 82 5 ((μ 82 5) - 1)) 82 6 ((μ 82 6) - 1)) 14 97) c s) _
        refine rn_aload_n (k' := 31) rfl rfl rfl ?_
        refine rn_getI (k' := 32) rfl rfl K0_82 (by decide) rfl ?_
        refine rn_iret rfl (Or.inl rfl) ?_
        rfl
      · exfalso; omega
  · skip
    refine ⟨_, PT_4, Nat.le_of_ble_eq_true rfl, ?_⟩
    show Rn PT none kX0_takeBack 0 [some (mR 82)] [] (mkh μ c s) _
    refine rn_aload_n (k' := 1) rfl rfl rfl ?_
    refine rn_getI (k' := 2) rfl rfl K0_82 (by decide) rfl ?_
    refine rn_if_eq (k' := 3) rfl rfl (fun hc1 => ?_) (fun hc1 => ?_)
    · exfalso; omega
    · skip
      refine rn_aload_n (k' := 4) rfl rfl rfl ?_
      refine rn_getI (k' := 5) rfl rfl K0_82 (by decide) rfl ?_
      refine rn_if_ne (k' := 6) rfl rfl (fun hc2 => ?_) (fun hc2 => ?_)
      · skip
        refine rn_aload_n (k' := 9) rfl rfl rfl ?_
        refine rn_dupR (k' := 10) rfl rfl ?_
        refine rn_getI (k' := 11) rfl rfl K0_82 (by decide) rfl ?_
        refine rn_iconst (k' := 12) rfl rfl ?_
        refine rn_isub (k' := 13) rfl rfl (by omega) ?_
        refine rn_putI (k' := 14) rfl rfl K0_82 (by decide) rfl ?_
        refine rn_aload_n (k' := 15) rfl rfl rfl ?_
        refine rn_dupR (k' := 16) rfl rfl ?_
        refine rn_getI (k' := 17) rfl rfl K0_82 (by decide) rfl ?_
        show Rn PT none kX0_takeBack 17 [some (mR 82)] [mI (μ 82 6), mR 82] (mkh (m_set μ 82 5 ((μ 82 5) - 1)) c s) _
        refine rn_iconst (k' := 18) rfl rfl ?_
        refine rn_isub (k' := 19) rfl rfl (by omega) ?_
        refine rn_putI (k' := 20) rfl rfl K0_82 (by decide) rfl ?_
        refine rn_aload_n (k' := 21) rfl rfl rfl ?_
        refine rn_getR (k' := 22) rfl rfl K0_82 (by decide) rfl R0_82_2 ?_
        refine rn_aload_n (k' := 23) rfl rfl rfl ?_
        refine rn_getR (k' := 24) rfl rfl K0_82 (by decide) rfl R0_82_4 ?_
        refine rn_aload_n (k' := 25) rfl rfl rfl ?_
        refine rn_getI (k' := 26) rfl rfl K0_82 (by decide) rfl ?_
        show Rn PT none kX0_takeBack 26 [some (mR 82)] [mI ((μ 82 5) - 1), mR 86, mR 14] (mkh (m_set (m_set μ 82 5 ((μ 82 5) - 1)) 82 6 ((μ 82 6) - 1)) c s) _
        refine rn_bipush (k' := 27) rfl rfl ?_
        refine rn_irem (k' := 28) rfl rfl (by omega) ?_
        refine rn_aaload (k' := 29) rfl rfl K0_86 (by decide) (by omega) (by omega) (by rw [show (((μ 82 5) - 1).tmod (8)).toNat = 4 by omega]; rfl) ?_
        refine rn_callP (k' := 30) (y := 64) (vs := [mR 14, mR 100]) (S' := []) (v := none) (h' := mkh (scp (m_set (m_set μ 82 5 ((μ 82 5) - 1)) 82 6 ((μ 82 6) - 1)) 14 100) c s) rfl rfl rfl (c_copy_14_100 (μ := (m_set (m_set μ 82 5 ((μ 82 5) - 1)) 82 6 ((μ 82 6) - 1))) (c := c) (s := s)) ?_
        show Rn PT none kX0_takeBack 30 [some (mR 82)] [] (mkh (scp (m_set (m_set μ 82 5 ((μ 82 5) - 1)) 82 6 ((μ 82 6) - 1)) 14 100) c s) _
        refine rn_aload_n (k' := 31) rfl rfl rfl ?_
        refine rn_getI (k' := 32) rfl rfl K0_82 (by decide) rfl ?_
        refine rn_iret rfl (Or.inl rfl) ?_
        rfl
      · exfalso; omega
  · skip
    refine ⟨_, PT_4, Nat.le_of_ble_eq_true rfl, ?_⟩
    show Rn PT none kX0_takeBack 0 [some (mR 82)] [] (mkh μ c s) _
    refine rn_aload_n (k' := 1) rfl rfl rfl ?_
    refine rn_getI (k' := 2) rfl rfl K0_82 (by decide) rfl ?_
    refine rn_if_eq (k' := 3) rfl rfl (fun hc1 => ?_) (fun hc1 => ?_)
    · exfalso; omega
    · skip
      refine rn_aload_n (k' := 4) rfl rfl rfl ?_
      refine rn_getI (k' := 5) rfl rfl K0_82 (by decide) rfl ?_
      refine rn_if_ne (k' := 6) rfl rfl (fun hc2 => ?_) (fun hc2 => ?_)
      · skip
        refine rn_aload_n (k' := 9) rfl rfl rfl ?_
        refine rn_dupR (k' := 10) rfl rfl ?_
        refine rn_getI (k' := 11) rfl rfl K0_82 (by decide) rfl ?_
        refine rn_iconst (k' := 12) rfl rfl ?_
        refine rn_isub (k' := 13) rfl rfl (by omega) ?_
        refine rn_putI (k' := 14) rfl rfl K0_82 (by decide) rfl ?_
        refine rn_aload_n (k' := 15) rfl rfl rfl ?_
        refine rn_dupR (k' := 16) rfl rfl ?_
        refine rn_getI (k' := 17) rfl rfl K0_82 (by decide) rfl ?_
        show Rn PT none kX0_takeBack 17 [some (mR 82)] [mI (μ 82 6), mR 82] (mkh (m_set μ 82 5 ((μ 82 5) - 1)) c s) _
        refine rn_iconst (k' := 18) rfl rfl ?_
        refine rn_isub (k' := 19) rfl rfl (by omega) ?_
        refine rn_putI (k' := 20) rfl rfl K0_82 (by decide) rfl ?_
        refine rn_aload_n (k' := 21) rfl rfl rfl ?_
        refine rn_getR (k' := 22) rfl rfl K0_82 (by decide) rfl R0_82_2 ?_
        refine rn_aload_n (k' := 23) rfl rfl rfl ?_
        refine rn_getR (k' := 24) rfl rfl K0_82 (by decide) rfl R0_82_4 ?_
        refine rn_aload_n (k' := 25) rfl rfl rfl ?_
        refine rn_getI (k' := 26) rfl rfl K0_82 (by decide) rfl ?_
        show Rn PT none kX0_takeBack 26 [some (mR 82)] [mI ((μ 82 5) - 1), mR 86, mR 14] (mkh (m_set (m_set μ 82 5 ((μ 82 5) - 1)) 82 6 ((μ 82 6) - 1)) c s) _
        refine rn_bipush (k' := 27) rfl rfl ?_
        refine rn_irem (k' := 28) rfl rfl (by omega) ?_
        refine rn_aaload (k' := 29) rfl rfl K0_86 (by decide) (by omega) (by omega) (by rw [show (((μ 82 5) - 1).tmod (8)).toNat = 5 by omega]; rfl) ?_
        refine rn_callP (k' := 30) (y := 64) (vs := [mR 14, mR 103]) (S' := []) (v := none) (h' := mkh (scp (m_set (m_set μ 82 5 ((μ 82 5) - 1)) 82 6 ((μ 82 6) - 1)) 14 103) c s) rfl rfl rfl (c_copy_14_103 (μ := (m_set (m_set μ 82 5 ((μ 82 5) - 1)) 82 6 ((μ 82 6) - 1))) (c := c) (s := s)) ?_
        show Rn PT none kX0_takeBack 30 [some (mR 82)] [] (mkh (scp (m_set (m_set μ 82 5 ((μ 82 5) - 1)) 82 6 ((μ 82 6) - 1)) 14 103) c s) _
        refine rn_aload_n (k' := 31) rfl rfl rfl ?_
        refine rn_getI (k' := 32) rfl rfl K0_82 (by decide) rfl ?_
        refine rn_iret rfl (Or.inl rfl) ?_
        rfl
      · exfalso; omega
  · skip
    refine ⟨_, PT_4, Nat.le_of_ble_eq_true rfl, ?_⟩
    show Rn PT none kX0_takeBack 0 [some (mR 82)] [] (mkh μ c s) _
    refine rn_aload_n (k' := 1) rfl rfl rfl ?_
    refine rn_getI (k' := 2) rfl rfl K0_82 (by decide) rfl ?_
    refine rn_if_eq (k' := 3) rfl rfl (fun hc1 => ?_) (fun hc1 => ?_)
    · exfalso; omega
    · skip
      refine rn_aload_n (k' := 4) rfl rfl rfl ?_
      refine rn_getI (k' := 5) rfl rfl K0_82 (by decide) rfl ?_
      refine rn_if_ne (k' := 6) rfl rfl (fun hc2 => ?_) (fun hc2 => ?_)
      · skip
        refine rn_aload_n (k' := 9) rfl rfl rfl ?_
        refine rn_dupR (k' := 10) rfl rfl ?_
        refine rn_getI (k' := 11) rfl rfl K0_82 (by decide) rfl ?_
        refine rn_iconst (k' := 12) rfl rfl ?_
        refine rn_isub (k' := 13) rfl rfl (by omega) ?_
        refine rn_putI (k' := 14) rfl rfl K0_82 (by decide) rfl ?_
        refine rn_aload_n (k' := 15) rfl rfl rfl ?_
        refine rn_dupR (k' := 16) rfl rfl ?_
        refine rn_getI (k' := 17) rfl rfl K0_82 (by decide) rfl ?_
        show Rn PT none kX0_takeBack 17 [some (mR 82)] [mI (μ 82 6), mR 82] (mkh (m_set μ 82 5 ((μ 82 5) - 1)) c s) _
        refine rn_iconst (k' := 18) rfl rfl ?_
        refine rn_isub (k' := 19) rfl rfl (by omega) ?_
        refine rn_putI (k' := 20) rfl rfl K0_82 (by decide) rfl ?_
        refine rn_aload_n (k' := 21) rfl rfl rfl ?_
        refine rn_getR (k' := 22) rfl rfl K0_82 (by decide) rfl R0_82_2 ?_
        refine rn_aload_n (k' := 23) rfl rfl rfl ?_
        refine rn_getR (k' := 24) rfl rfl K0_82 (by decide) rfl R0_82_4 ?_
        refine rn_aload_n (k' := 25) rfl rfl rfl ?_
        refine rn_getI (k' := 26) rfl rfl K0_82 (by decide) rfl ?_
        show Rn PT none kX0_takeBack 26 [some (mR 82)] [mI ((μ 82 5) - 1), mR 86, mR 14] (mkh (m_set (m_set μ 82 5 ((μ 82 5) - 1)) 82 6 ((μ 82 6) - 1)) c s) _
        refine rn_bipush (k' := 27) rfl rfl ?_
        refine rn_irem (k' := 28) rfl rfl (by omega) ?_
        refine rn_aaload (k' := 29) rfl rfl K0_86 (by decide) (by omega) (by omega) (by rw [show (((μ 82 5) - 1).tmod (8)).toNat = 6 by omega]; rfl) ?_
        refine rn_callP (k' := 30) (y := 64) (vs := [mR 14, mR 106]) (S' := []) (v := none) (h' := mkh (scp (m_set (m_set μ 82 5 ((μ 82 5) - 1)) 82 6 ((μ 82 6) - 1)) 14 106) c s) rfl rfl rfl (c_copy_14_106 (μ := (m_set (m_set μ 82 5 ((μ 82 5) - 1)) 82 6 ((μ 82 6) - 1))) (c := c) (s := s)) ?_
        show Rn PT none kX0_takeBack 30 [some (mR 82)] [] (mkh (scp (m_set (m_set μ 82 5 ((μ 82 5) - 1)) 82 6 ((μ 82 6) - 1)) 14 106) c s) _
        refine rn_aload_n (k' := 31) rfl rfl rfl ?_
        refine rn_getI (k' := 32) rfl rfl K0_82 (by decide) rfl ?_
        refine rn_iret rfl (Or.inl rfl) ?_
        rfl
      · exfalso; omega
  · skip
    refine ⟨_, PT_4, Nat.le_of_ble_eq_true rfl, ?_⟩
    show Rn PT none kX0_takeBack 0 [some (mR 82)] [] (mkh μ c s) _
    refine rn_aload_n (k' := 1) rfl rfl rfl ?_
    refine rn_getI (k' := 2) rfl rfl K0_82 (by decide) rfl ?_
    refine rn_if_eq (k' := 3) rfl rfl (fun hc1 => ?_) (fun hc1 => ?_)
    · exfalso; omega
    · skip
      refine rn_aload_n (k' := 4) rfl rfl rfl ?_
      refine rn_getI (k' := 5) rfl rfl K0_82 (by decide) rfl ?_
      refine rn_if_ne (k' := 6) rfl rfl (fun hc2 => ?_) (fun hc2 => ?_)
      · skip
        refine rn_aload_n (k' := 9) rfl rfl rfl ?_
        refine rn_dupR (k' := 10) rfl rfl ?_
        refine rn_getI (k' := 11) rfl rfl K0_82 (by decide) rfl ?_
        refine rn_iconst (k' := 12) rfl rfl ?_
        refine rn_isub (k' := 13) rfl rfl (by omega) ?_
        refine rn_putI (k' := 14) rfl rfl K0_82 (by decide) rfl ?_
        refine rn_aload_n (k' := 15) rfl rfl rfl ?_
        refine rn_dupR (k' := 16) rfl rfl ?_
        refine rn_getI (k' := 17) rfl rfl K0_82 (by decide) rfl ?_
        show Rn PT none kX0_takeBack 17 [some (mR 82)] [mI (μ 82 6), mR 82] (mkh (m_set μ 82 5 ((μ 82 5) - 1)) c s) _
        refine rn_iconst (k' := 18) rfl rfl ?_
        refine rn_isub (k' := 19) rfl rfl (by omega) ?_
        refine rn_putI (k' := 20) rfl rfl K0_82 (by decide) rfl ?_
        refine rn_aload_n (k' := 21) rfl rfl rfl ?_
        refine rn_getR (k' := 22) rfl rfl K0_82 (by decide) rfl R0_82_2 ?_
        refine rn_aload_n (k' := 23) rfl rfl rfl ?_
        refine rn_getR (k' := 24) rfl rfl K0_82 (by decide) rfl R0_82_4 ?_
        refine rn_aload_n (k' := 25) rfl rfl rfl ?_
        refine rn_getI (k' := 26) rfl rfl K0_82 (by decide) rfl ?_
        show Rn PT none kX0_takeBack 26 [some (mR 82)] [mI ((μ 82 5) - 1), mR 86, mR 14] (mkh (m_set (m_set μ 82 5 ((μ 82 5) - 1)) 82 6 ((μ 82 6) - 1)) c s) _
        refine rn_bipush (k' := 27) rfl rfl ?_
        refine rn_irem (k' := 28) rfl rfl (by omega) ?_
        refine rn_aaload (k' := 29) rfl rfl K0_86 (by decide) (by omega) (by omega) (by rw [show (((μ 82 5) - 1).tmod (8)).toNat = 7 by omega]; rfl) ?_
        refine rn_callP (k' := 30) (y := 64) (vs := [mR 14, mR 109]) (S' := []) (v := none) (h' := mkh (scp (m_set (m_set μ 82 5 ((μ 82 5) - 1)) 82 6 ((μ 82 6) - 1)) 14 109) c s) rfl rfl rfl (c_copy_14_109 (μ := (m_set (m_set μ 82 5 ((μ 82 5) - 1)) 82 6 ((μ 82 6) - 1))) (c := c) (s := s)) ?_
        show Rn PT none kX0_takeBack 30 [some (mR 82)] [] (mkh (scp (m_set (m_set μ 82 5 ((μ 82 5) - 1)) 82 6 ((μ 82 6) - 1)) 14 109) c s) _
        refine rn_aload_n (k' := 31) rfl rfl rfl ?_
        refine rn_getI (k' := 32) rfl rfl K0_82 (by decide) rfl ?_
        refine rn_iret rfl (Or.inl rfl) ?_
        rfl
      · exfalso; omega
theorem n_takeBack {μ : Nat → Nat → Int} {c s : Nat} (hu : μ 82 6 = 0) : Cl PT 4 [mR 82] (mkh μ c s) (fun r => r = (some (some (mI (-1))), mkh μ c s)) := by
  refine ⟨_, PT_4, Nat.le_of_ble_eq_true rfl, ?_⟩
  show Rn PT none kX0_takeBack 0 [some (mR 82)] [] (mkh μ c s) _
  refine rn_aload_n (k' := 1) rfl rfl rfl ?_
  refine rn_getI (k' := 2) rfl rfl K0_82 (by decide) rfl ?_
  refine rn_if_eq (k' := 3) rfl rfl (fun hc1 => ?_) (fun hc1 => ?_)
  · skip
    refine rn_iconst (k' := 7) rfl rfl ?_
    refine rn_iret rfl (Or.inl rfl) ?_
    rfl
  · exfalso; omega
/-- what the model keeps for undo: rows behind (n131, n34) against rows before -/
def KR (o120 o131 : Nat → Int) (m : Int) (n131 : Nat → Int) (n34 : Int) : Prop := n34 = (if m = 8 then 8 else m + 1) ∧ (∀ i k : Nat, (i : Int) + 1 < n34 → k < 19 → n131 (19 * i + k) = o131 (if m = 8 then 19 * (i + 1) + k else 19 * i + k)) ∧ ∀ i k : Nat, (i : Int) + 1 = n34 → k < 19 → n131 (19 * i + k) = o120 (517 + k)
set_option maxHeartbeats 4000000 in
theorem l_keep2 {μ : Nat → Nat → Int} {c s : Nat} (h34 : 0 ≤ μ 118 34 ∧ μ 118 34 ≤ 7) : ∀ (d n : Nat) (k : Int) (U : Nat → Int), k = (n : Int) → (n : Int) + d = 19 → U = pbn (μ 131) (19 * μ 118 34).toNat (fun k => μ 120 (517 + k)) n → Rn PT none kX12_keep 26 [some (mR 118), some (mI k)] [] (mkh (m_upd μ 131 U) c s) (fun r => r = (some none, mkh (m_set (m_upd μ 131 (pbn (μ 131) (19 * μ 118 34).toNat (fun k => μ 120 (517 + k)) 19)) 118 34 (μ 118 34 + 1)) c s)) := by
  intro d
  induction d with
  | zero =>
    intro n k U ek hn hU
    subst ek
    refine rn_iload_n (k' := 27) rfl rfl rfl ?_
    refine rn_bipush (k' := 28) rfl rfl ?_
    refine rn_icmp_ge (k' := 29) rfl rfl (fun hc1 => ?_) (fun hc1 => ?_)
    · skip
      refine rn_aload_n (k' := 47) rfl rfl rfl ?_
      refine rn_dupR (k' := 48) rfl rfl ?_
      refine rn_getI (k' := 49) rfl rfl K0_118 (by decide) rfl ?_
      show Rn PT none kX12_keep 49 [some (mR 118), some (mI ((n : Int)))] [mI (μ 118 34), mR 118] (mkh (m_upd μ 131 U) c s) _
      refine rn_iconst (k' := 50) rfl rfl ?_
      refine rn_iadd (k' := 51) rfl rfl (by omega) ?_
      refine rn_putI (k' := 52) rfl rfl K0_118 (by decide) rfl ?_
      refine rn_vret rfl ?_
      rw [hU, show n = 19 by omega]
    · exfalso; omega
  | succ d ih =>
    intro n k U ek hn hU
    subst ek
    refine rn_iload_n (k' := 27) rfl rfl rfl ?_
    refine rn_bipush (k' := 28) rfl rfl ?_
    refine rn_icmp_ge (k' := 29) rfl rfl (fun hc1 => ?_) (fun hc1 => ?_)
    · exfalso; omega
    · skip
      refine rn_aload_n (k' := 30) rfl rfl rfl ?_
      refine rn_getR (k' := 31) rfl rfl K0_118 (by decide) rfl R0_118_32 ?_
      refine rn_bipush (k' := 32) rfl rfl ?_
      refine rn_aload_n (k' := 33) rfl rfl rfl ?_
      refine rn_getI (k' := 34) rfl rfl K0_118 (by decide) rfl ?_
      show Rn PT none kX12_keep 34 [some (mR 118), some (mI ((n : Int)))] [mI (μ 118 34), mI (19), mR 131] (mkh (m_upd μ 131 U) c s) _
      refine rn_imul (k' := 35) rfl rfl (by omega) ?_
      refine rn_iload_n (k' := 36) rfl rfl rfl ?_
      refine rn_iadd (k' := 37) rfl rfl (by omega) ?_
      refine rn_aload_n (k' := 38) rfl rfl rfl ?_
      refine rn_getR (k' := 39) rfl rfl K0_118 (by decide) rfl R0_118_6 ?_
      refine rn_sipush (k' := 40) rfl rfl ?_
      refine rn_iload_n (k' := 41) rfl rfl rfl ?_
      refine rn_iadd (k' := 42) rfl rfl (by omega) ?_
      refine rn_iaload (k' := 43) rfl rfl K0_120 (by omega) (by omega) ?_
      show Rn PT none kX12_keep 43 [some (mR 118), some (mI ((n : Int)))] [mI (μ 120 (517 + n)), mI ((19 * (μ 118 34)) + (n : Int)), mR 131] (mkh (m_upd μ 131 U) c s) _
      refine rn_iastore (k' := 44) rfl rfl K0_131 (by omega) (by omega) ?_
      refine rn_iinc (k' := 45) (L' := [some (mR 118), some (mI ((n : Int) + 1))]) rfl rfl rfl (by omega) rfl ?_
      refine rn_goto rfl ?_
      show Rn PT none kX12_keep 26 [some (mR 118), some (mI ((n : Int) + 1))] [] (mkh (m_set (m_upd μ 131 U) 131 (((19 * (μ 118 34)) + (n : Int)).toNat) (μ 120 (517 + n))) c s) _
      rw [set_upd_eq]
      exact ih (n + 1) _ _ (by omega) (by omega) (by rw [show ((19 * μ 118 34) + (n : Int)).toNat = (19 * μ 118 34).toNat + n by omega, hU]; exact pbn_step)
theorem keep_shift {μ : Nat → Nat → Int} {n : Nat} : fs (fun j => if j < n then μ 131 (j + 19) else μ 131 j) n (μ 131 (n + 19)) = (fun j => if j < n + 1 then μ 131 (j + 19) else μ 131 j) := by
  funext j
  unfold fs
  by_cases h : j = n
  · subst h; rw [if_pos rfl, if_pos (by omega)]
  · rw [if_neg h]
    dsimp only
    by_cases h2 : j < n
    · rw [if_pos h2, if_pos (by omega)]
    · rw [if_neg h2, if_neg (by omega)]
theorem set_set {μ : Nat → Nat → Int} {a j : Nat} {v w : Int} : m_set (m_set μ a j v) a j w = m_set μ a j w := by
  funext a' j'
  unfold m_set
  by_cases h : a' = a ∧ j' = j
  · rw [if_pos h, if_pos h]
  · rw [if_neg h, if_neg h, if_neg h]
set_option maxHeartbeats 4000000 in
theorem l_keep1 {μ : Nat → Nat → Int} {c s : Nat} (h34 : μ 118 34 = 8) : ∀ (d n : Nat) (k : Int) (U : Nat → Int), k = (n : Int) → (n : Int) + d = 133 → U = (fun j => if j < n then μ 131 (j + 19) else μ 131 j) → Rn PT none kX12_keep 6 [some (mR 118), some (mI k)] [] (mkh (m_upd μ 131 U) c s) (fun r => ∃ U V, r = (some none, mkh (m_set (m_upd μ 131 U) 118 34 V) c s) ∧ KR (μ 120) (μ 131) (μ 118 34) U V) := by
  intro d
  induction d with
  | zero =>
    intro n k U ek hn hU
    subst ek
    refine rn_iload_n (k' := 7) rfl rfl rfl ?_
    refine rn_sipush (k' := 8) rfl rfl ?_
    refine rn_icmp_ge (k' := 9) rfl rfl (fun hc1 => ?_) (fun hc1 => ?_)
    · skip
      refine rn_aload_n (k' := 22) rfl rfl rfl ?_
      refine rn_bipush (k' := 23) rfl rfl ?_
      refine rn_putI (k' := 24) rfl rfl K0_118 (by decide) rfl ?_
      refine rn_iconst (k' := 25) rfl rfl ?_
      refine rn_istore_n (k' := 26) (L' := [some (mR 118), some (mI (0))]) rfl rfl (Nat.le_of_ble_eq_true rfl) rfl ?_
      have h := l_keep2 (μ := (m_set (m_upd μ 131 U) 118 34 (7))) (c := c) (s := s) (by show (0 : Int) ≤ 7 ∧ (7 : Int) ≤ 7; decide) 19 0 0 ((m_set (m_upd μ 131 U) 118 34 (7)) 131) rfl rfl pbn_0.symm
      rw [upd_self] at h
      refine h.mono1 (fun r hr => ⟨pbn U 133 (fun k => μ 120 (517 + k)) 19, 8, ?_, ?_⟩)
      · rw [hr]
        refine congrArg (fun z => ((some none : Option (Option MV)), mkh z c s)) ?_
        show m_set (m_upd (m_set (m_upd μ 131 U) 118 34 7) 131 (pbn U 133 (fun k => μ 120 (517 + k)) 19)) 118 34 8 = _
        rw [set_upd_ne (a := 118) (b := 131) (by decide), set_upd_ne (a := 118) (b := 131) (by decide), set_upd_ne (a := 118) (b := 131) (by decide), upd_upd, set_set]
        exact (set_upd_ne (by decide)).symm
      · refine ⟨by rw [if_pos h34], fun i k hi hk => ?_, fun i k hi hk => ?_⟩
        · show (if 133 ≤ 19 * i + k ∧ 19 * i + k < 133 + 19 then _ else U (19 * i + k)) = _
          rw [if_neg (by omega), if_pos h34, hU]
          show (if 19 * i + k < n then _ else _) = _
          rw [if_pos (by omega), show 19 * i + k + 19 = 19 * (i + 1) + k by omega]
        · show (if 133 ≤ 19 * i + k ∧ 19 * i + k < 133 + 19 then μ 120 (517 + (19 * i + k - 133)) else _) = _
          rw [if_pos (by omega), show 19 * i + k - 133 = k by omega]
    · exfalso; omega
  | succ d ih =>
    intro n k U ek hn hU
    subst ek
    refine rn_iload_n (k' := 7) rfl rfl rfl ?_
    refine rn_sipush (k' := 8) rfl rfl ?_
    refine rn_icmp_ge (k' := 9) rfl rfl (fun hc1 => ?_) (fun hc1 => ?_)
    · exfalso; omega
    · skip
      refine rn_aload_n (k' := 10) rfl rfl rfl ?_
      refine rn_getR (k' := 11) rfl rfl K0_118 (by decide) rfl R0_118_32 ?_
      refine rn_iload_n (k' := 12) rfl rfl rfl ?_
      refine rn_aload_n (k' := 13) rfl rfl rfl ?_
      refine rn_getR (k' := 14) rfl rfl K0_118 (by decide) rfl R0_118_32 ?_
      refine rn_iload_n (k' := 15) rfl rfl rfl ?_
      refine rn_bipush (k' := 16) rfl rfl ?_
      refine rn_iadd (k' := 17) rfl rfl (by omega) ?_
      refine rn_iaload (k' := 18) rfl rfl K0_131 (by omega) (by omega) ?_
      show Rn PT none kX12_keep 18 [some (mR 118), some (mI ((n : Int)))] [mI (U (((n : Int) + 19).toNat)), mI ((n : Int)), mR 131] (mkh (m_upd μ 131 U) c s) _
      refine rn_iastore (k' := 19) rfl rfl K0_131 (by omega) (by omega) ?_
      refine rn_iinc (k' := 20) (L' := [some (mR 118), some (mI ((n : Int) + 1))]) rfl rfl rfl (by omega) rfl ?_
      refine rn_goto rfl ?_
      show Rn PT none kX12_keep 6 [some (mR 118), some (mI ((n : Int) + 1))] [] (mkh (m_set (m_upd μ 131 U) 131 n (U (((n : Int) + 19).toNat))) c s) _
      rw [set_upd_eq]
      exact ih (n + 1) _ _ (by omega) (by omega) (by rw [show U ((n : Int) + 19).toNat = μ 131 (n + 19) from by rw [show ((n : Int) + 19).toNat = n + 19 by omega, hU]; show (if n + 19 < n then _ else _) = _; rw [if_neg (by omega)], hU]; exact keep_shift)
set_option maxHeartbeats 4000000 in
theorem c_keep {μ : Nat → Nat → Int} {c s : Nat} (h34 : 0 ≤ μ 118 34 ∧ μ 118 34 ≤ 8) : ∃ U V, KR (μ 120) (μ 131) (μ 118 34) U V ∧ Cl PT 238 [mR 118] (mkh μ c s) (fun r => r = (some none, mkh (m_set (m_upd μ 131 U) 118 34 V) c s)) := by
  refine Cl.ex2b (g := fun U V => (some none, mkh (m_set (m_upd μ 131 U) 118 34 V) c s)) ?_
  refine ⟨_, PT_238, Nat.le_of_ble_eq_true rfl, ?_⟩
  show Rn PT none kX12_keep 0 [some (mR 118), none] [] (mkh μ c s) _
  refine rn_aload_n (k' := 1) rfl rfl rfl ?_
  refine rn_getI (k' := 2) rfl rfl K0_118 (by decide) rfl ?_
  refine rn_bipush (k' := 3) rfl rfl ?_
  refine rn_icmp_ne (k' := 4) rfl rfl (fun hc1 => ?_) (fun hc1 => ?_)
  · skip
    refine rn_iconst (k' := 25) rfl rfl ?_
    refine rn_istore_n (k' := 26) (L' := [some (mR 118), some (mI (0))]) rfl rfl (Nat.le_of_ble_eq_true rfl) rfl ?_
    have h := l_keep2 (μ := μ) (c := c) (s := s) (by omega) 19 0 0 (μ 131) rfl rfl pbn_0.symm
    rw [upd_self] at h
    refine h.mono1 (fun r hr => ⟨_, _, hr, ?_⟩)
    refine ⟨by rw [if_neg (by omega)], fun i k hi hk => ?_, fun i k hi hk => ?_⟩
    · show (if (19 * μ 118 34).toNat ≤ 19 * i + k ∧ 19 * i + k < (19 * μ 118 34).toNat + 19 then _ else μ 131 (19 * i + k)) = _
      rw [if_neg (by omega), if_neg (by omega)]
    · show (if (19 * μ 118 34).toNat ≤ 19 * i + k ∧ 19 * i + k < (19 * μ 118 34).toNat + 19 then μ 120 (517 + (19 * i + k - (19 * μ 118 34).toNat)) else _) = _
      rw [if_pos (by omega), show 19 * i + k - (19 * μ 118 34).toNat = k by omega]
  · skip
    refine rn_iconst (k' := 5) rfl rfl ?_
    refine rn_istore_n (k' := 6) (L' := [some (mR 118), some (mI (0))]) rfl rfl (Nat.le_of_ble_eq_true rfl) rfl ?_
    have h := l_keep1 (μ := μ) (c := c) (s := s) (by omega) 133 0 0 (μ 131) rfl rfl (by funext j; show _ = (if j < 0 then _ else _); rw [if_neg (by omega)])
    rw [upd_self] at h
    exact h
