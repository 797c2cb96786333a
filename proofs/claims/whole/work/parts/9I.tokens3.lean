variable {N : Int}
/-! ===== printed by wip/whole/gen9I.py: the model's next token ===== -/
def mkk (k : Int) : Int := if k = 0 then 4 else if k = 4 then 0 else k
theorem c1_ {b : Nat → Int} {q : Nat} : ∀ k : Nat, (sm (b q) → 1 ≤ cL b q (k + 1)) ∧ (¬ sm (b q) → 1 ≤ cD b q (k + 1)) := by
  intro k
  induction k with
  | zero =>
    refine ⟨fun h => ?_, fun h => ?_⟩
    · show 1 ≤ cL b q 0 + (if sm (b (q + 0)) then 1 else 0)
      rw [if_pos (show sm (b (q + 0)) from h)]; exact Nat.le_add_left 1 _
    · show 1 ≤ cD b q 0 + (if sm (b (q + 0)) then 0 else 1)
      rw [if_neg (show ¬ sm (b (q + 0)) from h)]; exact Nat.le_add_left 1 _
  | succ k ih =>
    refine ⟨fun h => ?_, fun h => ?_⟩
    · exact Nat.le_trans (ih.1 h) (Nat.le_add_right _ _)
    · exact Nat.le_trans (ih.2 h) (Nat.le_add_right _ _)
set_option maxHeartbeats 4000000 in
theorem l_next {μ : Nat → Nat → Int} {c s : Nat} (ht : ∀ j, μ 2 j = μ 119 j % 256) {n m p : Nat} (hn9 : n ≤ 940) (hp : p ≤ n) {H0 : Nat → Int} : ∀ (d t0 : Nat) (H : Nat → Int), t0 + d = n → H 3 = (n : Int) → H 5 = (m : Int) → H 4 = (t0 : Int) → (∀ j, ¬ j = 4 → ¬ j = 11 → ¬ j = 12 → ¬ j = 13 → ¬ j = 14 → ¬ j = 17 → H j = H0 j) → tsk (μ 2) d t0 = tsk (μ 2) (n - p) p → Rn PT none kX12_next 0 [some (mR 118), none, none, none] [] (mkh (m_upd μ 118 H) c s) (fun r => ∃ H1, r = (some none, mkh (m_upd μ 118 H1) c s) ∧ H1 3 = (n : Int) ∧ H1 12 = ((tkP (μ 2) n m p : Nat) : Int) ∧ H1 11 = mkk (tkK (μ 2) n m p) ∧ (tkK (μ 2) n m p ≠ 0 → H1 4 = ((tkN (μ 2) n m p : Nat) : Int)) ∧ (tkK (μ 2) n m p = 1 → H1 17 = mw (μ 2) (tq (μ 2) n p) (tl (μ 2) n p)) ∧ (tkK (μ 2) n m p = 2 → H1 14 = mn (μ 2) (tq (μ 2) n p) (tl (μ 2) n p)) ∧ (tkK (μ 2) n m p = 3 → H1 14 = 59) ∧ (∀ j, ¬ j = 4 → ¬ j = 11 → ¬ j = 12 → ¬ j = 13 → ¬ j = 14 → ¬ j = 17 → H1 j = H0 j)) := by
  intro d
  induction d with
  | zero =>
    intro t0 H hr hH3 hH5 hH4 hfr hq
    have eq : tq (μ 2) n p = t0 := by
      show tsk (μ 2) (n - p) p = t0
      rw [← hq]; rfl
    refine rn_aload_n (k' := 1) rfl rfl rfl ?_
    refine rn_callP (k' := 2) (y := 172) (vs := [mR 118]) (S' := []) (v := some (mI (-1))) (h' := mkh (m_upd μ 118 H) c s) rfl rfl rfl (peek_out (μ := μ) (c := c) (s := s) (H := H) (by show H 3 ≤ H 4; omega)) ?_
    show Rn PT none kX12_next 2 [some (mR 118), none, none, none] [mI (-1)] (mkh (m_upd μ 118 H) c s) _
    refine rn_bipush (k' := 3) rfl rfl ?_
    refine rn_icmp_eq (k' := 4) rfl rfl (fun hc1 => ?_) (fun hc1 => ?_)
    · exfalso; omega
    · skip
      refine rn_aload_n (k' := 5) rfl rfl rfl ?_
      refine rn_callP (k' := 6) (y := 172) (vs := [mR 118]) (S' := []) (v := some (mI (-1))) (h' := mkh (m_upd μ 118 H) c s) rfl rfl rfl (peek_out (μ := μ) (c := c) (s := s) (H := H) (by show H 3 ≤ H 4; omega)) ?_
      show Rn PT none kX12_next 6 [some (mR 118), none, none, none] [mI (-1)] (mkh (m_upd μ 118 H) c s) _
      refine rn_bipush (k' := 7) rfl rfl ?_
      refine rn_icmp_ne (k' := 8) rfl rfl (fun hc2 => ?_) (fun hc2 => ?_)
      · skip
        refine rn_aload_n (k' := 16) rfl rfl rfl ?_
        refine rn_aload_n (k' := 17) rfl rfl rfl ?_
        refine rn_getI (k' := 18) rfl rfl K0_118 (by decide) rfl ?_
        show Rn PT none kX12_next 18 [some (mR 118), none, none, none] [mI (H 4), mR 118] (mkh (m_upd μ 118 H) c s) _
        refine rn_putI (k' := 19) rfl rfl K0_118 (by decide) rfl ?_
        refine rn_aload_n (k' := 20) rfl rfl rfl ?_
        refine rn_iconst (k' := 21) rfl rfl ?_
        refine rn_putI (k' := 22) rfl rfl K0_118 (by decide) rfl ?_
        refine rn_aload_n (k' := 23) rfl rfl rfl ?_
        refine rn_getI (k' := 24) rfl rfl K0_118 (by decide) rfl ?_
        show Rn PT none kX12_next 24 [some (mR 118), none, none, none] [mI (H 3)] (mkh (m_set (m_set (m_upd μ 118 H) 118 12 (H 4)) 118 13 (0)) c s) _
        refine rn_aload_n (k' := 25) rfl rfl rfl ?_
        refine rn_getI (k' := 26) rfl rfl K0_118 (by decide) rfl ?_
        show Rn PT none kX12_next 26 [some (mR 118), none, none, none] [mI (H 5), mI (H 3)] (mkh (m_set (m_set (m_upd μ 118 H) 118 12 (H 4)) 118 13 (0)) c s) _
        refine rn_icmp_le (k' := 27) rfl rfl (fun hc3 => ?_) (fun hc3 => ?_)
        · skip
          refine rn_aload_n (k' := 41) rfl rfl rfl ?_
          rw [set_upd_eq (a := 118), set_upd_eq (a := 118)]
          refine rn_callP (k' := 42) (y := 172) (vs := [mR 118]) (S' := []) (v := some (mI (-1))) (h' := mkh (m_upd μ 118 ((fs (fs H 12 (H 4)) 13 (0)))) c s) rfl rfl rfl (peek_out (μ := μ) (c := c) (s := s) (H := (fs (fs H 12 (H 4)) 13 (0))) (by show H 3 ≤ H 4; omega)) ?_
          show Rn PT none kX12_next 42 [some (mR 118), none, none, none] [mI (-1)] (mkh (m_upd μ 118 ((fs (fs H 12 (H 4)) 13 (0)))) c s) _
          refine rn_istore_n (k' := 43) (L' := [some (mR 118), some (mI (-1)), none, none]) rfl rfl (Nat.le_of_ble_eq_true rfl) rfl ?_
          refine rn_iload_n (k' := 44) rfl rfl rfl ?_
          refine rn_if_ge (k' := 45) rfl rfl (fun hc4 => ?_) (fun hc4 => ?_)
          · exfalso; omega
          · skip
            refine rn_aload_n (k' := 46) rfl rfl rfl ?_
            refine rn_iconst (k' := 47) rfl rfl ?_
            refine rn_putI (k' := 48) rfl rfl K0_118 (by decide) rfl ?_
            refine rn_vret rfl ?_
            obtain ⟨t1, t2, t3, t4⟩ := tk_end (b := μ 2) (n := n) (m := m) (p := p) (by omega) (by omega)
            rw [set_upd_eq (a := 118)]
            refine ⟨_, rfl, hH3, ?_, ?_, ?_, ?_, ?_, ?_, ?_⟩
            · rw [t3]; first | exact (show H 5 = _ by omega) | exact (show H 4 = _ by omega)
            · rw [t1]; rfl
            · intro h9; rw [t4]; first | exact (show H 4 = _ by omega) | exact (show H 4 + 1 = _ by omega)
            · intro h9; rw [t1] at h9; exact absurd h9 (by decide)
            · intro h9; rw [t1] at h9; exact absurd h9 (by decide)
            · intro h9; rw [t1] at h9; first | exact absurd h9 (by decide) | exact (show μ 2 t0 = 59 by omega)
            · intro j j1 j2 j3 j4 j5 j6
              rw [← hfr j j1 j2 j3 j4 j5 j6]
              first | rfl | (simp [fs, j1, j2, j3, j4, j5, j6])
        · skip
          refine rn_aload_n (k' := 28) rfl rfl rfl ?_
          refine rn_getI (k' := 29) rfl rfl K0_118 (by decide) rfl ?_
          show Rn PT none kX12_next 29 [some (mR 118), none, none, none] [mI (H 4)] (mkh (m_set (m_set (m_upd μ 118 H) 118 12 (H 4)) 118 13 (0)) c s) _
          refine rn_aload_n (k' := 30) rfl rfl rfl ?_
          refine rn_getI (k' := 31) rfl rfl K0_118 (by decide) rfl ?_
          show Rn PT none kX12_next 31 [some (mR 118), none, none, none] [mI (H 5), mI (H 4)] (mkh (m_set (m_set (m_upd μ 118 H) 118 12 (H 4)) 118 13 (0)) c s) _
          refine rn_icmp_lt (k' := 32) rfl rfl (fun hc6 => ?_) (fun hc6 => ?_)
          · skip
            refine rn_aload_n (k' := 41) rfl rfl rfl ?_
            rw [set_upd_eq (a := 118), set_upd_eq (a := 118)]
            refine rn_callP (k' := 42) (y := 172) (vs := [mR 118]) (S' := []) (v := some (mI (-1))) (h' := mkh (m_upd μ 118 ((fs (fs H 12 (H 4)) 13 (0)))) c s) rfl rfl rfl (peek_out (μ := μ) (c := c) (s := s) (H := (fs (fs H 12 (H 4)) 13 (0))) (by show H 3 ≤ H 4; omega)) ?_
            show Rn PT none kX12_next 42 [some (mR 118), none, none, none] [mI (-1)] (mkh (m_upd μ 118 ((fs (fs H 12 (H 4)) 13 (0)))) c s) _
            refine rn_istore_n (k' := 43) (L' := [some (mR 118), some (mI (-1)), none, none]) rfl rfl (Nat.le_of_ble_eq_true rfl) rfl ?_
            refine rn_iload_n (k' := 44) rfl rfl rfl ?_
            refine rn_if_ge (k' := 45) rfl rfl (fun hc7 => ?_) (fun hc7 => ?_)
            · exfalso; omega
            · skip
              refine rn_aload_n (k' := 46) rfl rfl rfl ?_
              refine rn_iconst (k' := 47) rfl rfl ?_
              refine rn_putI (k' := 48) rfl rfl K0_118 (by decide) rfl ?_
              refine rn_vret rfl ?_
              obtain ⟨t1, t2, t3, t4⟩ := tk_end (b := μ 2) (n := n) (m := m) (p := p) (by omega) (by omega)
              rw [set_upd_eq (a := 118)]
              refine ⟨_, rfl, hH3, ?_, ?_, ?_, ?_, ?_, ?_, ?_⟩
              · rw [t3]; first | exact (show H 5 = _ by omega) | exact (show H 4 = _ by omega)
              · rw [t1]; rfl
              · intro h9; rw [t4]; first | exact (show H 4 = _ by omega) | exact (show H 4 + 1 = _ by omega)
              · intro h9; rw [t1] at h9; exact absurd h9 (by decide)
              · intro h9; rw [t1] at h9; exact absurd h9 (by decide)
              · intro h9; rw [t1] at h9; first | exact absurd h9 (by decide) | exact (show μ 2 t0 = 59 by omega)
              · intro j j1 j2 j3 j4 j5 j6
                rw [← hfr j j1 j2 j3 j4 j5 j6]
                first | rfl | (simp [fs, j1, j2, j3, j4, j5, j6])
          · skip
            refine rn_aload_n (k' := 33) rfl rfl rfl ?_
            refine rn_aload_n (k' := 34) rfl rfl rfl ?_
            refine rn_getI (k' := 35) rfl rfl K0_118 (by decide) rfl ?_
            show Rn PT none kX12_next 35 [some (mR 118), none, none, none] [mI (H 5), mR 118] (mkh (m_set (m_set (m_upd μ 118 H) 118 12 (H 4)) 118 13 (0)) c s) _
            refine rn_putI (k' := 36) rfl rfl K0_118 (by decide) rfl ?_
            refine rn_aload_n (k' := 37) rfl rfl rfl ?_
            refine rn_iconst (k' := 38) rfl rfl ?_
            refine rn_putI (k' := 39) rfl rfl K0_118 (by decide) rfl ?_
            refine rn_vret rfl ?_
            obtain ⟨t1, t2, t3, t4⟩ := tk_lim (b := μ 2) (n := n) (m := m) (p := p) (by omega)
            rw [set_upd_eq (a := 118), set_upd_eq (a := 118), set_upd_eq (a := 118), set_upd_eq (a := 118)]
            refine ⟨_, rfl, hH3, ?_, ?_, ?_, ?_, ?_, ?_, ?_⟩
            · rw [t3]; first | exact (show H 5 = _ by omega) | exact (show H 4 = _ by omega)
            · rw [t1]; rfl
            · intro h9; exact absurd t1 h9
            · intro h9; rw [t1] at h9; exact absurd h9 (by decide)
            · intro h9; rw [t1] at h9; exact absurd h9 (by decide)
            · intro h9; rw [t1] at h9; first | exact absurd h9 (by decide) | exact (show μ 2 t0 = 59 by omega)
            · intro j j1 j2 j3 j4 j5 j6
              rw [← hfr j j1 j2 j3 j4 j5 j6]
              first | rfl | (simp [fs, j1, j2, j3, j4, j5, j6])
      · exfalso; omega
  | succ d ih =>
    intro t0 H hr hH3 hH5 hH4 hfr hq
    refine rn_aload_n (k' := 1) rfl rfl rfl ?_
    refine rn_callP (k' := 2) (y := 172) (vs := [mR 118]) (S' := []) (v := some (mI (μ 2 t0))) (h' := mkh (m_upd μ 118 H) c s) rfl rfl rfl (peek_in (μ := μ) (c := c) (s := s) ht (H := H) (n := n) (j := t0) (show H 3 = _ from hH3) (show H 4 = _ from hH4) (by omega) hn9) ?_
    show Rn PT none kX12_next 2 [some (mR 118), none, none, none] [mI (μ 2 t0)] (mkh (m_upd μ 118 H) c s) _
    refine rn_bipush (k' := 3) rfl rfl ?_
    refine rn_icmp_eq (k' := 4) rfl rfl (fun hc1 => ?_) (fun hc1 => ?_)
    · skip
      refine rn_aload_n (k' := 9) rfl rfl rfl ?_
      refine rn_dupR (k' := 10) rfl rfl ?_
      refine rn_getI (k' := 11) rfl rfl K0_118 (by decide) rfl ?_
      show Rn PT none kX12_next 11 [some (mR 118), none, none, none] [mI (H 4), mR 118] (mkh (m_upd μ 118 H) c s) _
      refine rn_iconst (k' := 12) rfl rfl ?_
      refine rn_iadd (k' := 13) rfl rfl (by first | omega | (simp [fs]; omega)) ?_
      refine rn_putI (k' := 14) rfl rfl K0_118 (by decide) rfl ?_
      refine rn_goto rfl ?_
      show Rn PT none kX12_next 0 [some (mR 118), none, none, none] [] (mkh (m_set (m_upd μ 118 H) 118 4 ((H 4) + 1)) c s) _
      rw [set_upd_eq (a := 118)]
      exact ih (t0 + 1) _ (by omega) hH3 hH5 (by show H 4 + 1 = _; omega) (fun j j1 j2 j3 j4 j5 j6 => by rw [← hfr j j1 j2 j3 j4 j5 j6]; first | rfl | (simp [fs, j1, j2, j3, j4, j5, j6])) (by rw [← hq]; exact (tsk_t (b := μ 2) (d := d) (r := t0) (by omega)).symm)
    · skip
      refine rn_aload_n (k' := 5) rfl rfl rfl ?_
      refine rn_callP (k' := 6) (y := 172) (vs := [mR 118]) (S' := []) (v := some (mI (μ 2 t0))) (h' := mkh (m_upd μ 118 H) c s) rfl rfl rfl (peek_in (μ := μ) (c := c) (s := s) ht (H := H) (n := n) (j := t0) (show H 3 = _ from hH3) (show H 4 = _ from hH4) (by omega) hn9) ?_
      show Rn PT none kX12_next 6 [some (mR 118), none, none, none] [mI (μ 2 t0)] (mkh (m_upd μ 118 H) c s) _
      refine rn_bipush (k' := 7) rfl rfl ?_
      refine rn_icmp_ne (k' := 8) rfl rfl (fun hc3 => ?_) (fun hc3 => ?_)
      · skip
        have hnb : ¬ bl (μ 2 t0) := by omega
        have eq : tq (μ 2) n p = t0 := by
          show tsk (μ 2) (n - p) p = t0
          rw [← hq]; exact tsk_f hnb
        have hbb : 0 ≤ μ 2 t0 ∧ μ 2 t0 ≤ 255 := by have := ht t0; omega
        refine rn_aload_n (k' := 16) rfl rfl rfl ?_
        refine rn_aload_n (k' := 17) rfl rfl rfl ?_
        refine rn_getI (k' := 18) rfl rfl K0_118 (by decide) rfl ?_
        show Rn PT none kX12_next 18 [some (mR 118), none, none, none] [mI (H 4), mR 118] (mkh (m_upd μ 118 H) c s) _
        refine rn_putI (k' := 19) rfl rfl K0_118 (by decide) rfl ?_
        refine rn_aload_n (k' := 20) rfl rfl rfl ?_
        refine rn_iconst (k' := 21) rfl rfl ?_
        refine rn_putI (k' := 22) rfl rfl K0_118 (by decide) rfl ?_
        refine rn_aload_n (k' := 23) rfl rfl rfl ?_
        refine rn_getI (k' := 24) rfl rfl K0_118 (by decide) rfl ?_
        show Rn PT none kX12_next 24 [some (mR 118), none, none, none] [mI (H 3)] (mkh (m_set (m_set (m_upd μ 118 H) 118 12 (H 4)) 118 13 (0)) c s) _
        refine rn_aload_n (k' := 25) rfl rfl rfl ?_
        refine rn_getI (k' := 26) rfl rfl K0_118 (by decide) rfl ?_
        show Rn PT none kX12_next 26 [some (mR 118), none, none, none] [mI (H 5), mI (H 3)] (mkh (m_set (m_set (m_upd μ 118 H) 118 12 (H 4)) 118 13 (0)) c s) _
        refine rn_icmp_le (k' := 27) rfl rfl (fun hc3 => ?_) (fun hc3 => ?_)
        · skip
          refine rn_aload_n (k' := 41) rfl rfl rfl ?_
          rw [set_upd_eq (a := 118), set_upd_eq (a := 118)]
          refine rn_callP (k' := 42) (y := 172) (vs := [mR 118]) (S' := []) (v := some (mI (μ 2 t0))) (h' := mkh (m_upd μ 118 ((fs (fs H 12 (H 4)) 13 (0)))) c s) rfl rfl rfl (peek_in (μ := μ) (c := c) (s := s) ht (H := (fs (fs H 12 (H 4)) 13 (0))) (n := n) (j := t0) (show H 3 = _ from hH3) (show H 4 = _ from hH4) (by omega) hn9) ?_
          show Rn PT none kX12_next 42 [some (mR 118), none, none, none] [mI (μ 2 t0)] (mkh (m_upd μ 118 ((fs (fs H 12 (H 4)) 13 (0)))) c s) _
          refine rn_istore_n (k' := 43) (L' := [some (mR 118), some (mI (μ 2 t0)), none, none]) rfl rfl (Nat.le_of_ble_eq_true rfl) rfl ?_
          refine rn_iload_n (k' := 44) rfl rfl rfl ?_
          refine rn_if_ge (k' := 45) rfl rfl (fun hc4 => ?_) (fun hc4 => ?_)
          · skip
            refine rn_iload_n (k' := 50) rfl rfl rfl ?_
            by_cases hq5 : 97 ≤ μ 2 t0 ∧ μ 2 t0 ≤ 122
            · refine rn_callP (k' := 51) (y := 173) (vs := [mI (μ 2 t0)]) (S' := []) (v := some (mI 1)) (h' := mkh (m_upd μ 118 ((fs (fs H 12 (H 4)) 13 (0)))) c s) rfl rfl rfl (by have hz : Cl PT 173 [mI (μ 2 t0)] (mkh (m_upd μ 118 ((fs (fs H 12 (H 4)) 13 (0)))) c s) (fun r => r = (some (some (mI (if 97 ≤ μ 2 t0 ∧ μ 2 t0 ≤ 122 then 1 else 0))), mkh (m_upd μ 118 ((fs (fs H 12 (H 4)) 13 (0)))) c s)) := c_X12_isSmall (a := μ 2 t0) (μ := (m_upd μ 118 ((fs (fs H 12 (H 4)) 13 (0))))) (c := c) (s := s); rw [if_pos hq5] at hz; exact hz) ?_
              show Rn PT none kX12_next 51 [some (mR 118), some (mI (μ 2 t0)), none, none] [mI (1)] (mkh (m_upd μ 118 ((fs (fs H 12 (H 4)) 13 (0)))) c s) _
              refine rn_if_ne (k' := 52) rfl rfl (fun hc6 => ?_) (fun hc6 => ?_)
              · skip
                refine rn_iload_n (k' := 74) rfl rfl rfl ?_
                by_cases hq7 : 97 ≤ μ 2 t0 ∧ μ 2 t0 ≤ 122
                · refine rn_callP (k' := 75) (y := 173) (vs := [mI (μ 2 t0)]) (S' := []) (v := some (mI 1)) (h' := mkh (m_upd μ 118 ((fs (fs H 12 (H 4)) 13 (0)))) c s) rfl rfl rfl (by have hz : Cl PT 173 [mI (μ 2 t0)] (mkh (m_upd μ 118 ((fs (fs H 12 (H 4)) 13 (0)))) c s) (fun r => r = (some (some (mI (if 97 ≤ μ 2 t0 ∧ μ 2 t0 ≤ 122 then 1 else 0))), mkh (m_upd μ 118 ((fs (fs H 12 (H 4)) 13 (0)))) c s)) := c_X12_isSmall (a := μ 2 t0) (μ := (m_upd μ 118 ((fs (fs H 12 (H 4)) 13 (0))))) (c := c) (s := s); rw [if_pos hq7] at hz; exact hz) ?_
                  show Rn PT none kX12_next 75 [some (mR 118), some (mI (μ 2 t0)), none, none] [mI (1)] (mkh (m_upd μ 118 ((fs (fs H 12 (H 4)) 13 (0)))) c s) _
                  refine rn_istore_n (k' := 76) (L' := [some (mR 118), some (mI (μ 2 t0)), some (mI (1)), none]) rfl rfl (Nat.le_of_ble_eq_true rfl) rfl ?_
                  refine rn_iconst (k' := 77) rfl rfl ?_
                  refine rn_istore_n (k' := 78) (L' := [some (mR 118), some (mI (μ 2 t0)), some (mI (1)), some (mI (1))]) rfl rfl (Nat.le_of_ble_eq_true rfl) rfl ?_
                  refine rn_aload_n (k' := 79) rfl rfl rfl ?_
                  refine rn_lconst (z := 0) (k' := 80) rfl rfl rfl ?_
                  refine rn_putJ (k' := 81) rfl rfl K0_118 (by decide) rfl ?_
                  refine rn_aload_n (k' := 82) rfl rfl rfl ?_
                  refine rn_iconst (k' := 83) rfl rfl ?_
                  refine rn_putI (k' := 84) rfl rfl K0_118 (by decide) rfl ?_
                  rw [set_upd_eq (a := 118), set_upd_eq (a := 118)]
                  have hb59 : ¬ μ 2 (tq (μ 2) n p) = 59 := by rw [eq]; omega
                  obtain ⟨t1, t2, t3, t4⟩ := tk_run (b := μ 2) (n := n) (m := m) (p := p) (by omega) (by omega) hb59
                  have etl : tl (μ 2) n p = tre (μ 2) (n - t0) t0 - t0 := by
                    show tre (μ 2) (n - tq (μ 2) n p) (tq (μ 2) n p) - tq (μ 2) n p = _
                    rw [eq]
                  rw [eq] at t3
                  have hgt : t0 + 1 ≤ tre (μ 2) (n - t0) t0 := by
                    obtain ⟨d9, h9⟩ : ∃ d9, n - t0 = d9 + 1 := ⟨n - t0 - 1, by omega⟩
                    rw [h9, tre_t (by omega)]
                    exact (tre_b (b := μ 2) d9 (t0 + 1)).1
                  refine l_next_run ht (n := n) (q := t0) (e := tre (μ 2) (n - t0) t0) hn9 (H0 := (fs (fs (fs (fs H 12 (H 4)) 13 (0)) 17 (0)) 14 (0))) (sl := 1) (by omega) (fun H2 al gal g3 g4 g12 g13 g14 g17 gfr => ?_) (n - t0) 0 _ _ (by omega) ⟨by omega, by simp [cL, cD]⟩ hH3 hH4 rfl rfl rfl rfl (fun _ _ _ _ _ _ _ => rfl) rfl
                  have hcl := cLD (b := μ 2) (q := t0) (tre (μ 2) (n - t0) t0 - t0)
                  have hc1 := c1_ (b := μ 2) (q := t0) (tre (μ 2) (n - t0) t0 - t0 - 1)
                  rw [show tre (μ 2) (n - t0) t0 - t0 - 1 + 1 = tre (μ 2) (n - t0) t0 - t0 by omega] at hc1
                  refine rn_aload_n (k' := 146) rfl rfl rfl ?_
                  refine rn_iload_n (k' := 147) rfl rfl rfl ?_
                  refine rn_if_eq (k' := 148) rfl rfl (fun hc1 => ?_) (fun hc1 => ?_)
                  · skip
                    refine rn_iconst (k' := 157) rfl rfl ?_
                    refine rn_goto rfl ?_
                    refine rn_putI (k' := 164) rfl rfl K0_118 (by decide) rfl ?_
                    refine rn_vret rfl ?_
                    have hK := rK_0 (b := μ 2) (q := t0) (k := tre (μ 2) (n - t0) t0 - t0) (by omega) (by omega)
                    rw [etl, eq, hK] at t1
                    rw [set_upd_eq (a := 118)]
                    refine ⟨_, rfl, g3, ?_, ?_, ?_, ?_, ?_, ?_, ?_⟩
                    · rw [t3]; exact g12.trans (show H 4 = _ by omega)
                    · rw [t1]; rfl
                    · intro h9; exact absurd t1 h9
                    · intro h9; rw [t1] at h9; exact absurd h9 (by decide)
                    · intro h9; rw [t1] at h9; exact absurd h9 (by decide)
                    · intro h9; rw [t1] at h9; exact absurd h9 (by decide)
                    · intro j j1 j2 j3 j4 j5 j6
                      rw [← hfr j j1 j2 j3 j4 j5 j6]
                      refine Eq.trans (b := H2 j) ?_ ((gfr j j1 j2 j3 j4 j5 j6).trans ?_)
                      · simp [fs, j2]
                      · simp [fs, j1, j2, j3, j4, j5, j6]
                  · skip
                    refine rn_aload_n (k' := 149) rfl rfl rfl ?_
                    refine rn_getI (k' := 150) rfl rfl K0_118 (by decide) rfl ?_
                    show Rn PT none kX12_next 150 [some (mR 118), some (mI (μ 2 t0)), some (mI (1)), some (mI (al))] [mI (H2 13), mR 118] (mkh (m_upd μ 118 H2) c s) _
                    refine rn_iload_n (k' := 151) rfl rfl rfl ?_
                    refine rn_if_eq (k' := 152) rfl rfl (fun hc3 => ?_) (fun hc3 => ?_)
                    · exfalso; omega
                    · skip
                      refine rn_bipush (k' := 153) rfl rfl ?_
                      refine rn_goto rfl ?_
                      refine rn_icmp_le (k' := 156) rfl rfl (fun hc4 => ?_) (fun hc4 => ?_)
                      · skip
                        refine rn_iload_n (k' := 159) rfl rfl rfl ?_
                        refine rn_if_eq (k' := 160) rfl rfl (fun hc5 => ?_) (fun hc5 => ?_)
                        · exfalso; omega
                        · skip
                          refine rn_iconst (k' := 161) rfl rfl ?_
                          refine rn_goto rfl ?_
                          refine rn_putI (k' := 164) rfl rfl K0_118 (by decide) rfl ?_
                          refine rn_vret rfl ?_
                          have hK := rK_1 (b := μ 2) (q := t0) (k := tre (μ 2) (n - t0) t0 - t0) (by omega)
                          rw [etl, eq, hK] at t1
                          rw [set_upd_eq (a := 118)]
                          refine ⟨_, rfl, g3, ?_, ?_, ?_, ?_, ?_, ?_, ?_⟩
                          · rw [t3]; exact g12.trans (show H 4 = _ by omega)
                          · rw [t1]; rfl
                          · intro h9; rw [t4, eq]; exact g4
                          · intro h9; rw [etl, eq]; exact g17
                          · intro h9; rw [t1] at h9; exact absurd h9 (by decide)
                          · intro h9; rw [t1] at h9; exact absurd h9 (by decide)
                          · intro j j1 j2 j3 j4 j5 j6
                            rw [← hfr j j1 j2 j3 j4 j5 j6]
                            refine Eq.trans (b := H2 j) ?_ ((gfr j j1 j2 j3 j4 j5 j6).trans ?_)
                            · simp [fs, j2]
                            · simp [fs, j1, j2, j3, j4, j5, j6]
                      · skip
                        refine rn_iconst (k' := 157) rfl rfl ?_
                        refine rn_goto rfl ?_
                        refine rn_putI (k' := 164) rfl rfl K0_118 (by decide) rfl ?_
                        refine rn_vret rfl ?_
                        have hK := rK_0 (b := μ 2) (q := t0) (k := tre (μ 2) (n - t0) t0 - t0) (by omega) (by omega)
                        rw [etl, eq, hK] at t1
                        rw [set_upd_eq (a := 118)]
                        refine ⟨_, rfl, g3, ?_, ?_, ?_, ?_, ?_, ?_, ?_⟩
                        · rw [t3]; exact g12.trans (show H 4 = _ by omega)
                        · rw [t1]; rfl
                        · intro h9; exact absurd t1 h9
                        · intro h9; rw [t1] at h9; exact absurd h9 (by decide)
                        · intro h9; rw [t1] at h9; exact absurd h9 (by decide)
                        · intro h9; rw [t1] at h9; exact absurd h9 (by decide)
                        · intro j j1 j2 j3 j4 j5 j6
                          rw [← hfr j j1 j2 j3 j4 j5 j6]
                          refine Eq.trans (b := H2 j) ?_ ((gfr j j1 j2 j3 j4 j5 j6).trans ?_)
                          · simp [fs, j2]
                          · simp [fs, j1, j2, j3, j4, j5, j6]
                · refine rn_callP (k' := 75) (y := 173) (vs := [mI (μ 2 t0)]) (S' := []) (v := some (mI 0)) (h' := mkh (m_upd μ 118 ((fs (fs H 12 (H 4)) 13 (0)))) c s) rfl rfl rfl (by have hz : Cl PT 173 [mI (μ 2 t0)] (mkh (m_upd μ 118 ((fs (fs H 12 (H 4)) 13 (0)))) c s) (fun r => r = (some (some (mI (if 97 ≤ μ 2 t0 ∧ μ 2 t0 ≤ 122 then 1 else 0))), mkh (m_upd μ 118 ((fs (fs H 12 (H 4)) 13 (0)))) c s)) := c_X12_isSmall (a := μ 2 t0) (μ := (m_upd μ 118 ((fs (fs H 12 (H 4)) 13 (0))))) (c := c) (s := s); rw [if_neg hq7] at hz; exact hz) ?_
                  show Rn PT none kX12_next 75 [some (mR 118), some (mI (μ 2 t0)), none, none] [mI (0)] (mkh (m_upd μ 118 ((fs (fs H 12 (H 4)) 13 (0)))) c s) _
                  refine rn_istore_n (k' := 76) (L' := [some (mR 118), some (mI (μ 2 t0)), some (mI (0)), none]) rfl rfl (Nat.le_of_ble_eq_true rfl) rfl ?_
                  refine rn_iconst (k' := 77) rfl rfl ?_
                  refine rn_istore_n (k' := 78) (L' := [some (mR 118), some (mI (μ 2 t0)), some (mI (0)), some (mI (1))]) rfl rfl (Nat.le_of_ble_eq_true rfl) rfl ?_
                  refine rn_aload_n (k' := 79) rfl rfl rfl ?_
                  refine rn_lconst (z := 0) (k' := 80) rfl rfl rfl ?_
                  refine rn_putJ (k' := 81) rfl rfl K0_118 (by decide) rfl ?_
                  refine rn_aload_n (k' := 82) rfl rfl rfl ?_
                  refine rn_iconst (k' := 83) rfl rfl ?_
                  refine rn_putI (k' := 84) rfl rfl K0_118 (by decide) rfl ?_
                  rw [set_upd_eq (a := 118), set_upd_eq (a := 118)]
                  have hb59 : ¬ μ 2 (tq (μ 2) n p) = 59 := by rw [eq]; omega
                  obtain ⟨t1, t2, t3, t4⟩ := tk_run (b := μ 2) (n := n) (m := m) (p := p) (by omega) (by omega) hb59
                  have etl : tl (μ 2) n p = tre (μ 2) (n - t0) t0 - t0 := by
                    show tre (μ 2) (n - tq (μ 2) n p) (tq (μ 2) n p) - tq (μ 2) n p = _
                    rw [eq]
                  rw [eq] at t3
                  have hgt : t0 + 1 ≤ tre (μ 2) (n - t0) t0 := by
                    obtain ⟨d9, h9⟩ : ∃ d9, n - t0 = d9 + 1 := ⟨n - t0 - 1, by omega⟩
                    rw [h9, tre_t (by omega)]
                    exact (tre_b (b := μ 2) d9 (t0 + 1)).1
                  refine l_next_run ht (n := n) (q := t0) (e := tre (μ 2) (n - t0) t0) hn9 (H0 := (fs (fs (fs (fs H 12 (H 4)) 13 (0)) 17 (0)) 14 (0))) (sl := 0) (by omega) (fun H2 al gal g3 g4 g12 g13 g14 g17 gfr => ?_) (n - t0) 0 _ _ (by omega) ⟨by omega, by simp [cL, cD]⟩ hH3 hH4 rfl rfl rfl rfl (fun _ _ _ _ _ _ _ => rfl) rfl
                  have hcl := cLD (b := μ 2) (q := t0) (tre (μ 2) (n - t0) t0 - t0)
                  have hc1 := c1_ (b := μ 2) (q := t0) (tre (μ 2) (n - t0) t0 - t0 - 1)
                  rw [show tre (μ 2) (n - t0) t0 - t0 - 1 + 1 = tre (μ 2) (n - t0) t0 - t0 by omega] at hc1
                  refine rn_aload_n (k' := 146) rfl rfl rfl ?_
                  refine rn_iload_n (k' := 147) rfl rfl rfl ?_
                  refine rn_if_eq (k' := 148) rfl rfl (fun hc1 => ?_) (fun hc1 => ?_)
                  · skip
                    refine rn_iconst (k' := 157) rfl rfl ?_
                    refine rn_goto rfl ?_
                    refine rn_putI (k' := 164) rfl rfl K0_118 (by decide) rfl ?_
                    refine rn_vret rfl ?_
                    have hK := rK_0 (b := μ 2) (q := t0) (k := tre (μ 2) (n - t0) t0 - t0) (by omega) (by omega)
                    rw [etl, eq, hK] at t1
                    rw [set_upd_eq (a := 118)]
                    refine ⟨_, rfl, g3, ?_, ?_, ?_, ?_, ?_, ?_, ?_⟩
                    · rw [t3]; exact g12.trans (show H 4 = _ by omega)
                    · rw [t1]; rfl
                    · intro h9; exact absurd t1 h9
                    · intro h9; rw [t1] at h9; exact absurd h9 (by decide)
                    · intro h9; rw [t1] at h9; exact absurd h9 (by decide)
                    · intro h9; rw [t1] at h9; exact absurd h9 (by decide)
                    · intro j j1 j2 j3 j4 j5 j6
                      rw [← hfr j j1 j2 j3 j4 j5 j6]
                      refine Eq.trans (b := H2 j) ?_ ((gfr j j1 j2 j3 j4 j5 j6).trans ?_)
                      · simp [fs, j2]
                      · simp [fs, j1, j2, j3, j4, j5, j6]
                  · skip
                    refine rn_aload_n (k' := 149) rfl rfl rfl ?_
                    refine rn_getI (k' := 150) rfl rfl K0_118 (by decide) rfl ?_
                    show Rn PT none kX12_next 150 [some (mR 118), some (mI (μ 2 t0)), some (mI (0)), some (mI (al))] [mI (H2 13), mR 118] (mkh (m_upd μ 118 H2) c s) _
                    refine rn_iload_n (k' := 151) rfl rfl rfl ?_
                    refine rn_if_eq (k' := 152) rfl rfl (fun hc3 => ?_) (fun hc3 => ?_)
                    · skip
                      refine rn_iconst (k' := 155) rfl rfl ?_
                      refine rn_icmp_le (k' := 156) rfl rfl (fun hc4 => ?_) (fun hc4 => ?_)
                      · skip
                        refine rn_iload_n (k' := 159) rfl rfl rfl ?_
                        refine rn_if_eq (k' := 160) rfl rfl (fun hc5 => ?_) (fun hc5 => ?_)
                        · skip
                          refine rn_iconst (k' := 163) rfl rfl ?_
                          refine rn_putI (k' := 164) rfl rfl K0_118 (by decide) rfl ?_
                          refine rn_vret rfl ?_
                          have hK := rK_2 (b := μ 2) (q := t0) (k := tre (μ 2) (n - t0) t0 - t0) (by omega) (by omega)
                          rw [etl, eq, hK] at t1
                          rw [set_upd_eq (a := 118)]
                          refine ⟨_, rfl, g3, ?_, ?_, ?_, ?_, ?_, ?_, ?_⟩
                          · rw [t3]; exact g12.trans (show H 4 = _ by omega)
                          · rw [t1]; rfl
                          · intro h9; rw [t4, eq]; exact g4
                          · intro h9; rw [t1] at h9; exact absurd h9 (by decide)
                          · intro h9; rw [etl, eq]; exact g14
                          · intro h9; rw [t1] at h9; exact absurd h9 (by decide)
                          · intro j j1 j2 j3 j4 j5 j6
                            rw [← hfr j j1 j2 j3 j4 j5 j6]
                            refine Eq.trans (b := H2 j) ?_ ((gfr j j1 j2 j3 j4 j5 j6).trans ?_)
                            · simp [fs, j2]
                            · simp [fs, j1, j2, j3, j4, j5, j6]
                        · exfalso; omega
                      · skip
                        refine rn_iconst (k' := 157) rfl rfl ?_
                        refine rn_goto rfl ?_
                        refine rn_putI (k' := 164) rfl rfl K0_118 (by decide) rfl ?_
                        refine rn_vret rfl ?_
                        have hK := rK_0 (b := μ 2) (q := t0) (k := tre (μ 2) (n - t0) t0 - t0) (by omega) (by omega)
                        rw [etl, eq, hK] at t1
                        rw [set_upd_eq (a := 118)]
                        refine ⟨_, rfl, g3, ?_, ?_, ?_, ?_, ?_, ?_, ?_⟩
                        · rw [t3]; exact g12.trans (show H 4 = _ by omega)
                        · rw [t1]; rfl
                        · intro h9; exact absurd t1 h9
                        · intro h9; rw [t1] at h9; exact absurd h9 (by decide)
                        · intro h9; rw [t1] at h9; exact absurd h9 (by decide)
                        · intro h9; rw [t1] at h9; exact absurd h9 (by decide)
                        · intro j j1 j2 j3 j4 j5 j6
                          rw [← hfr j j1 j2 j3 j4 j5 j6]
                          refine Eq.trans (b := H2 j) ?_ ((gfr j j1 j2 j3 j4 j5 j6).trans ?_)
                          · simp [fs, j2]
                          · simp [fs, j1, j2, j3, j4, j5, j6]
                    · exfalso; omega
              · exfalso; omega
            · refine rn_callP (k' := 51) (y := 173) (vs := [mI (μ 2 t0)]) (S' := []) (v := some (mI 0)) (h' := mkh (m_upd μ 118 ((fs (fs H 12 (H 4)) 13 (0)))) c s) rfl rfl rfl (by have hz : Cl PT 173 [mI (μ 2 t0)] (mkh (m_upd μ 118 ((fs (fs H 12 (H 4)) 13 (0)))) c s) (fun r => r = (some (some (mI (if 97 ≤ μ 2 t0 ∧ μ 2 t0 ≤ 122 then 1 else 0))), mkh (m_upd μ 118 ((fs (fs H 12 (H 4)) 13 (0)))) c s)) := c_X12_isSmall (a := μ 2 t0) (μ := (m_upd μ 118 ((fs (fs H 12 (H 4)) 13 (0))))) (c := c) (s := s); rw [if_neg hq5] at hz; exact hz) ?_
              show Rn PT none kX12_next 51 [some (mR 118), some (mI (μ 2 t0)), none, none] [mI (0)] (mkh (m_upd μ 118 ((fs (fs H 12 (H 4)) 13 (0)))) c s) _
              refine rn_if_ne (k' := 52) rfl rfl (fun hc12 => ?_) (fun hc12 => ?_)
              · exfalso; omega
              · skip
                refine rn_iload_n (k' := 53) rfl rfl rfl ?_
                by_cases hq13 : 48 ≤ μ 2 t0 ∧ μ 2 t0 ≤ 57
                · refine rn_callP (k' := 54) (y := 174) (vs := [mI (μ 2 t0)]) (S' := []) (v := some (mI 1)) (h' := mkh (m_upd μ 118 ((fs (fs H 12 (H 4)) 13 (0)))) c s) rfl rfl rfl (by have hz : Cl PT 174 [mI (μ 2 t0)] (mkh (m_upd μ 118 ((fs (fs H 12 (H 4)) 13 (0)))) c s) (fun r => r = (some (some (mI (if 48 ≤ μ 2 t0 ∧ μ 2 t0 ≤ 57 then 1 else 0))), mkh (m_upd μ 118 ((fs (fs H 12 (H 4)) 13 (0)))) c s)) := c_X12_isDigit (a := μ 2 t0) (μ := (m_upd μ 118 ((fs (fs H 12 (H 4)) 13 (0))))) (c := c) (s := s); rw [if_pos hq13] at hz; exact hz) ?_
                  show Rn PT none kX12_next 54 [some (mR 118), some (mI (μ 2 t0)), none, none] [mI (1)] (mkh (m_upd μ 118 ((fs (fs H 12 (H 4)) 13 (0)))) c s) _
                  refine rn_if_ne (k' := 55) rfl rfl (fun hc14 => ?_) (fun hc14 => ?_)
                  · skip
                    refine rn_iload_n (k' := 74) rfl rfl rfl ?_
                    by_cases hq15 : 97 ≤ μ 2 t0 ∧ μ 2 t0 ≤ 122
                    · refine rn_callP (k' := 75) (y := 173) (vs := [mI (μ 2 t0)]) (S' := []) (v := some (mI 1)) (h' := mkh (m_upd μ 118 ((fs (fs H 12 (H 4)) 13 (0)))) c s) rfl rfl rfl (by have hz : Cl PT 173 [mI (μ 2 t0)] (mkh (m_upd μ 118 ((fs (fs H 12 (H 4)) 13 (0)))) c s) (fun r => r = (some (some (mI (if 97 ≤ μ 2 t0 ∧ μ 2 t0 ≤ 122 then 1 else 0))), mkh (m_upd μ 118 ((fs (fs H 12 (H 4)) 13 (0)))) c s)) := c_X12_isSmall (a := μ 2 t0) (μ := (m_upd μ 118 ((fs (fs H 12 (H 4)) 13 (0))))) (c := c) (s := s); rw [if_pos hq15] at hz; exact hz) ?_
                      show Rn PT none kX12_next 75 [some (mR 118), some (mI (μ 2 t0)), none, none] [mI (1)] (mkh (m_upd μ 118 ((fs (fs H 12 (H 4)) 13 (0)))) c s) _
                      refine rn_istore_n (k' := 76) (L' := [some (mR 118), some (mI (μ 2 t0)), some (mI (1)), none]) rfl rfl (Nat.le_of_ble_eq_true rfl) rfl ?_
                      refine rn_iconst (k' := 77) rfl rfl ?_
                      refine rn_istore_n (k' := 78) (L' := [some (mR 118), some (mI (μ 2 t0)), some (mI (1)), some (mI (1))]) rfl rfl (Nat.le_of_ble_eq_true rfl) rfl ?_
                      refine rn_aload_n (k' := 79) rfl rfl rfl ?_
                      refine rn_lconst (z := 0) (k' := 80) rfl rfl rfl ?_
                      refine rn_putJ (k' := 81) rfl rfl K0_118 (by decide) rfl ?_
                      refine rn_aload_n (k' := 82) rfl rfl rfl ?_
                      refine rn_iconst (k' := 83) rfl rfl ?_
                      refine rn_putI (k' := 84) rfl rfl K0_118 (by decide) rfl ?_
                      rw [set_upd_eq (a := 118), set_upd_eq (a := 118)]
                      have hb59 : ¬ μ 2 (tq (μ 2) n p) = 59 := by rw [eq]; omega
                      obtain ⟨t1, t2, t3, t4⟩ := tk_run (b := μ 2) (n := n) (m := m) (p := p) (by omega) (by omega) hb59
                      have etl : tl (μ 2) n p = tre (μ 2) (n - t0) t0 - t0 := by
                        show tre (μ 2) (n - tq (μ 2) n p) (tq (μ 2) n p) - tq (μ 2) n p = _
                        rw [eq]
                      rw [eq] at t3
                      have hgt : t0 + 1 ≤ tre (μ 2) (n - t0) t0 := by
                        obtain ⟨d9, h9⟩ : ∃ d9, n - t0 = d9 + 1 := ⟨n - t0 - 1, by omega⟩
                        rw [h9, tre_t (by omega)]
                        exact (tre_b (b := μ 2) d9 (t0 + 1)).1
                      refine l_next_run ht (n := n) (q := t0) (e := tre (μ 2) (n - t0) t0) hn9 (H0 := (fs (fs (fs (fs H 12 (H 4)) 13 (0)) 17 (0)) 14 (0))) (sl := 1) (by omega) (fun H2 al gal g3 g4 g12 g13 g14 g17 gfr => ?_) (n - t0) 0 _ _ (by omega) ⟨by omega, by simp [cL, cD]⟩ hH3 hH4 rfl rfl rfl rfl (fun _ _ _ _ _ _ _ => rfl) rfl
                      have hcl := cLD (b := μ 2) (q := t0) (tre (μ 2) (n - t0) t0 - t0)
                      have hc1 := c1_ (b := μ 2) (q := t0) (tre (μ 2) (n - t0) t0 - t0 - 1)
                      rw [show tre (μ 2) (n - t0) t0 - t0 - 1 + 1 = tre (μ 2) (n - t0) t0 - t0 by omega] at hc1
                      refine rn_aload_n (k' := 146) rfl rfl rfl ?_
                      refine rn_iload_n (k' := 147) rfl rfl rfl ?_
                      refine rn_if_eq (k' := 148) rfl rfl (fun hc1 => ?_) (fun hc1 => ?_)
                      · skip
                        refine rn_iconst (k' := 157) rfl rfl ?_
                        refine rn_goto rfl ?_
                        refine rn_putI (k' := 164) rfl rfl K0_118 (by decide) rfl ?_
                        refine rn_vret rfl ?_
                        have hK := rK_0 (b := μ 2) (q := t0) (k := tre (μ 2) (n - t0) t0 - t0) (by omega) (by omega)
                        rw [etl, eq, hK] at t1
                        rw [set_upd_eq (a := 118)]
                        refine ⟨_, rfl, g3, ?_, ?_, ?_, ?_, ?_, ?_, ?_⟩
                        · rw [t3]; exact g12.trans (show H 4 = _ by omega)
                        · rw [t1]; rfl
                        · intro h9; exact absurd t1 h9
                        · intro h9; rw [t1] at h9; exact absurd h9 (by decide)
                        · intro h9; rw [t1] at h9; exact absurd h9 (by decide)
                        · intro h9; rw [t1] at h9; exact absurd h9 (by decide)
                        · intro j j1 j2 j3 j4 j5 j6
                          rw [← hfr j j1 j2 j3 j4 j5 j6]
                          refine Eq.trans (b := H2 j) ?_ ((gfr j j1 j2 j3 j4 j5 j6).trans ?_)
                          · simp [fs, j2]
                          · simp [fs, j1, j2, j3, j4, j5, j6]
                      · skip
                        refine rn_aload_n (k' := 149) rfl rfl rfl ?_
                        refine rn_getI (k' := 150) rfl rfl K0_118 (by decide) rfl ?_
                        show Rn PT none kX12_next 150 [some (mR 118), some (mI (μ 2 t0)), some (mI (1)), some (mI (al))] [mI (H2 13), mR 118] (mkh (m_upd μ 118 H2) c s) _
                        refine rn_iload_n (k' := 151) rfl rfl rfl ?_
                        refine rn_if_eq (k' := 152) rfl rfl (fun hc3 => ?_) (fun hc3 => ?_)
                        · exfalso; omega
                        · skip
                          refine rn_bipush (k' := 153) rfl rfl ?_
                          refine rn_goto rfl ?_
                          refine rn_icmp_le (k' := 156) rfl rfl (fun hc4 => ?_) (fun hc4 => ?_)
                          · skip
                            refine rn_iload_n (k' := 159) rfl rfl rfl ?_
                            refine rn_if_eq (k' := 160) rfl rfl (fun hc5 => ?_) (fun hc5 => ?_)
                            · exfalso; omega
                            · skip
                              refine rn_iconst (k' := 161) rfl rfl ?_
                              refine rn_goto rfl ?_
                              refine rn_putI (k' := 164) rfl rfl K0_118 (by decide) rfl ?_
                              refine rn_vret rfl ?_
                              have hK := rK_1 (b := μ 2) (q := t0) (k := tre (μ 2) (n - t0) t0 - t0) (by omega)
                              rw [etl, eq, hK] at t1
                              rw [set_upd_eq (a := 118)]
                              refine ⟨_, rfl, g3, ?_, ?_, ?_, ?_, ?_, ?_, ?_⟩
                              · rw [t3]; exact g12.trans (show H 4 = _ by omega)
                              · rw [t1]; rfl
                              · intro h9; rw [t4, eq]; exact g4
                              · intro h9; rw [etl, eq]; exact g17
                              · intro h9; rw [t1] at h9; exact absurd h9 (by decide)
                              · intro h9; rw [t1] at h9; exact absurd h9 (by decide)
                              · intro j j1 j2 j3 j4 j5 j6
                                rw [← hfr j j1 j2 j3 j4 j5 j6]
                                refine Eq.trans (b := H2 j) ?_ ((gfr j j1 j2 j3 j4 j5 j6).trans ?_)
                                · simp [fs, j2]
                                · simp [fs, j1, j2, j3, j4, j5, j6]
                          · skip
                            refine rn_iconst (k' := 157) rfl rfl ?_
                            refine rn_goto rfl ?_
                            refine rn_putI (k' := 164) rfl rfl K0_118 (by decide) rfl ?_
                            refine rn_vret rfl ?_
                            have hK := rK_0 (b := μ 2) (q := t0) (k := tre (μ 2) (n - t0) t0 - t0) (by omega) (by omega)
                            rw [etl, eq, hK] at t1
                            rw [set_upd_eq (a := 118)]
                            refine ⟨_, rfl, g3, ?_, ?_, ?_, ?_, ?_, ?_, ?_⟩
                            · rw [t3]; exact g12.trans (show H 4 = _ by omega)
                            · rw [t1]; rfl
                            · intro h9; exact absurd t1 h9
                            · intro h9; rw [t1] at h9; exact absurd h9 (by decide)
                            · intro h9; rw [t1] at h9; exact absurd h9 (by decide)
                            · intro h9; rw [t1] at h9; exact absurd h9 (by decide)
                            · intro j j1 j2 j3 j4 j5 j6
                              rw [← hfr j j1 j2 j3 j4 j5 j6]
                              refine Eq.trans (b := H2 j) ?_ ((gfr j j1 j2 j3 j4 j5 j6).trans ?_)
                              · simp [fs, j2]
                              · simp [fs, j1, j2, j3, j4, j5, j6]
                    · refine rn_callP (k' := 75) (y := 173) (vs := [mI (μ 2 t0)]) (S' := []) (v := some (mI 0)) (h' := mkh (m_upd μ 118 ((fs (fs H 12 (H 4)) 13 (0)))) c s) rfl rfl rfl (by have hz : Cl PT 173 [mI (μ 2 t0)] (mkh (m_upd μ 118 ((fs (fs H 12 (H 4)) 13 (0)))) c s) (fun r => r = (some (some (mI (if 97 ≤ μ 2 t0 ∧ μ 2 t0 ≤ 122 then 1 else 0))), mkh (m_upd μ 118 ((fs (fs H 12 (H 4)) 13 (0)))) c s)) := c_X12_isSmall (a := μ 2 t0) (μ := (m_upd μ 118 ((fs (fs H 12 (H 4)) 13 (0))))) (c := c) (s := s); rw [if_neg hq15] at hz; exact hz) ?_
                      show Rn PT none kX12_next 75 [some (mR 118), some (mI (μ 2 t0)), none, none] [mI (0)] (mkh (m_upd μ 118 ((fs (fs H 12 (H 4)) 13 (0)))) c s) _
                      refine rn_istore_n (k' := 76) (L' := [some (mR 118), some (mI (μ 2 t0)), some (mI (0)), none]) rfl rfl (Nat.le_of_ble_eq_true rfl) rfl ?_
                      refine rn_iconst (k' := 77) rfl rfl ?_
                      refine rn_istore_n (k' := 78) (L' := [some (mR 118), some (mI (μ 2 t0)), some (mI (0)), some (mI (1))]) rfl rfl (Nat.le_of_ble_eq_true rfl) rfl ?_
                      refine rn_aload_n (k' := 79) rfl rfl rfl ?_
                      refine rn_lconst (z := 0) (k' := 80) rfl rfl rfl ?_
                      refine rn_putJ (k' := 81) rfl rfl K0_118 (by decide) rfl ?_
                      refine rn_aload_n (k' := 82) rfl rfl rfl ?_
                      refine rn_iconst (k' := 83) rfl rfl ?_
                      refine rn_putI (k' := 84) rfl rfl K0_118 (by decide) rfl ?_
                      rw [set_upd_eq (a := 118), set_upd_eq (a := 118)]
                      have hb59 : ¬ μ 2 (tq (μ 2) n p) = 59 := by rw [eq]; omega
                      obtain ⟨t1, t2, t3, t4⟩ := tk_run (b := μ 2) (n := n) (m := m) (p := p) (by omega) (by omega) hb59
                      have etl : tl (μ 2) n p = tre (μ 2) (n - t0) t0 - t0 := by
                        show tre (μ 2) (n - tq (μ 2) n p) (tq (μ 2) n p) - tq (μ 2) n p = _
                        rw [eq]
                      rw [eq] at t3
                      have hgt : t0 + 1 ≤ tre (μ 2) (n - t0) t0 := by
                        obtain ⟨d9, h9⟩ : ∃ d9, n - t0 = d9 + 1 := ⟨n - t0 - 1, by omega⟩
                        rw [h9, tre_t (by omega)]
                        exact (tre_b (b := μ 2) d9 (t0 + 1)).1
                      refine l_next_run ht (n := n) (q := t0) (e := tre (μ 2) (n - t0) t0) hn9 (H0 := (fs (fs (fs (fs H 12 (H 4)) 13 (0)) 17 (0)) 14 (0))) (sl := 0) (by omega) (fun H2 al gal g3 g4 g12 g13 g14 g17 gfr => ?_) (n - t0) 0 _ _ (by omega) ⟨by omega, by simp [cL, cD]⟩ hH3 hH4 rfl rfl rfl rfl (fun _ _ _ _ _ _ _ => rfl) rfl
                      have hcl := cLD (b := μ 2) (q := t0) (tre (μ 2) (n - t0) t0 - t0)
                      have hc1 := c1_ (b := μ 2) (q := t0) (tre (μ 2) (n - t0) t0 - t0 - 1)
                      rw [show tre (μ 2) (n - t0) t0 - t0 - 1 + 1 = tre (μ 2) (n - t0) t0 - t0 by omega] at hc1
                      refine rn_aload_n (k' := 146) rfl rfl rfl ?_
                      refine rn_iload_n (k' := 147) rfl rfl rfl ?_
                      refine rn_if_eq (k' := 148) rfl rfl (fun hc1 => ?_) (fun hc1 => ?_)
                      · skip
                        refine rn_iconst (k' := 157) rfl rfl ?_
                        refine rn_goto rfl ?_
                        refine rn_putI (k' := 164) rfl rfl K0_118 (by decide) rfl ?_
                        refine rn_vret rfl ?_
                        have hK := rK_0 (b := μ 2) (q := t0) (k := tre (μ 2) (n - t0) t0 - t0) (by omega) (by omega)
                        rw [etl, eq, hK] at t1
                        rw [set_upd_eq (a := 118)]
                        refine ⟨_, rfl, g3, ?_, ?_, ?_, ?_, ?_, ?_, ?_⟩
                        · rw [t3]; exact g12.trans (show H 4 = _ by omega)
                        · rw [t1]; rfl
                        · intro h9; exact absurd t1 h9
                        · intro h9; rw [t1] at h9; exact absurd h9 (by decide)
                        · intro h9; rw [t1] at h9; exact absurd h9 (by decide)
                        · intro h9; rw [t1] at h9; exact absurd h9 (by decide)
                        · intro j j1 j2 j3 j4 j5 j6
                          rw [← hfr j j1 j2 j3 j4 j5 j6]
                          refine Eq.trans (b := H2 j) ?_ ((gfr j j1 j2 j3 j4 j5 j6).trans ?_)
                          · simp [fs, j2]
                          · simp [fs, j1, j2, j3, j4, j5, j6]
                      · skip
                        refine rn_aload_n (k' := 149) rfl rfl rfl ?_
                        refine rn_getI (k' := 150) rfl rfl K0_118 (by decide) rfl ?_
                        show Rn PT none kX12_next 150 [some (mR 118), some (mI (μ 2 t0)), some (mI (0)), some (mI (al))] [mI (H2 13), mR 118] (mkh (m_upd μ 118 H2) c s) _
                        refine rn_iload_n (k' := 151) rfl rfl rfl ?_
                        refine rn_if_eq (k' := 152) rfl rfl (fun hc3 => ?_) (fun hc3 => ?_)
                        · skip
                          refine rn_iconst (k' := 155) rfl rfl ?_
                          refine rn_icmp_le (k' := 156) rfl rfl (fun hc4 => ?_) (fun hc4 => ?_)
                          · skip
                            refine rn_iload_n (k' := 159) rfl rfl rfl ?_
                            refine rn_if_eq (k' := 160) rfl rfl (fun hc5 => ?_) (fun hc5 => ?_)
                            · skip
                              refine rn_iconst (k' := 163) rfl rfl ?_
                              refine rn_putI (k' := 164) rfl rfl K0_118 (by decide) rfl ?_
                              refine rn_vret rfl ?_
                              have hK := rK_2 (b := μ 2) (q := t0) (k := tre (μ 2) (n - t0) t0 - t0) (by omega) (by omega)
                              rw [etl, eq, hK] at t1
                              rw [set_upd_eq (a := 118)]
                              refine ⟨_, rfl, g3, ?_, ?_, ?_, ?_, ?_, ?_, ?_⟩
                              · rw [t3]; exact g12.trans (show H 4 = _ by omega)
                              · rw [t1]; rfl
                              · intro h9; rw [t4, eq]; exact g4
                              · intro h9; rw [t1] at h9; exact absurd h9 (by decide)
                              · intro h9; rw [etl, eq]; exact g14
                              · intro h9; rw [t1] at h9; exact absurd h9 (by decide)
                              · intro j j1 j2 j3 j4 j5 j6
                                rw [← hfr j j1 j2 j3 j4 j5 j6]
                                refine Eq.trans (b := H2 j) ?_ ((gfr j j1 j2 j3 j4 j5 j6).trans ?_)
                                · simp [fs, j2]
                                · simp [fs, j1, j2, j3, j4, j5, j6]
                            · exfalso; omega
                          · skip
                            refine rn_iconst (k' := 157) rfl rfl ?_
                            refine rn_goto rfl ?_
                            refine rn_putI (k' := 164) rfl rfl K0_118 (by decide) rfl ?_
                            refine rn_vret rfl ?_
                            have hK := rK_0 (b := μ 2) (q := t0) (k := tre (μ 2) (n - t0) t0 - t0) (by omega) (by omega)
                            rw [etl, eq, hK] at t1
                            rw [set_upd_eq (a := 118)]
                            refine ⟨_, rfl, g3, ?_, ?_, ?_, ?_, ?_, ?_, ?_⟩
                            · rw [t3]; exact g12.trans (show H 4 = _ by omega)
                            · rw [t1]; rfl
                            · intro h9; exact absurd t1 h9
                            · intro h9; rw [t1] at h9; exact absurd h9 (by decide)
                            · intro h9; rw [t1] at h9; exact absurd h9 (by decide)
                            · intro h9; rw [t1] at h9; exact absurd h9 (by decide)
                            · intro j j1 j2 j3 j4 j5 j6
                              rw [← hfr j j1 j2 j3 j4 j5 j6]
                              refine Eq.trans (b := H2 j) ?_ ((gfr j j1 j2 j3 j4 j5 j6).trans ?_)
                              · simp [fs, j2]
                              · simp [fs, j1, j2, j3, j4, j5, j6]
                        · exfalso; omega
                  · exfalso; omega
                · refine rn_callP (k' := 54) (y := 174) (vs := [mI (μ 2 t0)]) (S' := []) (v := some (mI 0)) (h' := mkh (m_upd μ 118 ((fs (fs H 12 (H 4)) 13 (0)))) c s) rfl rfl rfl (by have hz : Cl PT 174 [mI (μ 2 t0)] (mkh (m_upd μ 118 ((fs (fs H 12 (H 4)) 13 (0)))) c s) (fun r => r = (some (some (mI (if 48 ≤ μ 2 t0 ∧ μ 2 t0 ≤ 57 then 1 else 0))), mkh (m_upd μ 118 ((fs (fs H 12 (H 4)) 13 (0)))) c s)) := c_X12_isDigit (a := μ 2 t0) (μ := (m_upd μ 118 ((fs (fs H 12 (H 4)) 13 (0))))) (c := c) (s := s); rw [if_neg hq13] at hz; exact hz) ?_
                  show Rn PT none kX12_next 54 [some (mR 118), some (mI (μ 2 t0)), none, none] [mI (0)] (mkh (m_upd μ 118 ((fs (fs H 12 (H 4)) 13 (0)))) c s) _
                  refine rn_if_ne (k' := 55) rfl rfl (fun hc20 => ?_) (fun hc20 => ?_)
                  · exfalso; omega
                  · skip
                    refine rn_aload_n (k' := 56) rfl rfl rfl ?_
                    refine rn_iload_n (k' := 57) rfl rfl rfl ?_
                    refine rn_bipush (k' := 58) rfl rfl ?_
                    refine rn_icmp_ne (k' := 59) rfl rfl (fun hc21 => ?_) (fun hc21 => ?_)
                    · skip
                      refine rn_iconst (k' := 62) rfl rfl ?_
                      refine rn_putI (k' := 63) rfl rfl K0_118 (by decide) rfl ?_
                      refine rn_aload_n (k' := 64) rfl rfl rfl ?_
                      refine rn_iload_n (k' := 65) rfl rfl rfl ?_
                      refine rn_putI (k' := 66) rfl rfl K0_118 (by decide) rfl ?_
                      refine rn_aload_n (k' := 67) rfl rfl rfl ?_
                      refine rn_dupR (k' := 68) rfl rfl ?_
                      refine rn_getI (k' := 69) rfl rfl K0_118 (by decide) rfl ?_
                      show Rn PT none kX12_next 69 [some (mR 118), some (mI (μ 2 t0)), none, none] [mI (((fs (fs H 12 (H 4)) 13 (0))) 4), mR 118] (mkh (m_set (m_set (m_upd μ 118 ((fs (fs H 12 (H 4)) 13 (0)))) 118 11 (4)) 118 14 (μ 2 t0)) c s) _
                      refine rn_iconst (k' := 70) rfl rfl ?_
                      refine rn_iadd (k' := 71) rfl rfl (by first | omega | (simp [fs]; omega)) ?_
                      refine rn_putI (k' := 72) rfl rfl K0_118 (by decide) rfl ?_
                      refine rn_vret rfl ?_
                      have hb59 : ¬ μ 2 (tq (μ 2) n p) = 59 := by rw [eq]; omega
                      have etre : tre (μ 2) (n - t0) t0 = t0 := by
                        obtain ⟨d9, h9⟩ : ∃ d9, n - t0 = d9 + 1 := ⟨n - t0 - 1, by omega⟩
                        rw [h9]; exact tre_f (by omega)
                      have etl : tl (μ 2) n p = 0 := by
                        show tre (μ 2) (n - tq (μ 2) n p) (tq (μ 2) n p) - tq (μ 2) n p = _
                        rw [eq, etre]; omega
                      have hr0 : rK (μ 2) (tq (μ 2) n p) (tl (μ 2) n p) = 0 := by rw [etl]; rfl
                      obtain ⟨t1, t2, t3, t4⟩ := tk_run (b := μ 2) (n := n) (m := m) (p := p) (by omega) (by omega) hb59
                      rw [hr0] at t1
                      rw [set_upd_eq (a := 118), set_upd_eq (a := 118), set_upd_eq (a := 118)]
                      refine ⟨_, rfl, hH3, ?_, ?_, ?_, ?_, ?_, ?_, ?_⟩
                      · rw [t3]; first | exact (show H 5 = _ by omega) | exact (show H 4 = _ by omega)
                      · rw [t1]; rfl
                      · intro h9; exact absurd t1 h9
                      · intro h9; rw [t1] at h9; exact absurd h9 (by decide)
                      · intro h9; rw [t1] at h9; exact absurd h9 (by decide)
                      · intro h9; rw [t1] at h9; first | exact absurd h9 (by decide) | exact (show μ 2 t0 = 59 by omega)
                      · intro j j1 j2 j3 j4 j5 j6
                        rw [← hfr j j1 j2 j3 j4 j5 j6]
                        first | rfl | (simp [fs, j1, j2, j3, j4, j5, j6])
                    · skip
                      refine rn_iconst (k' := 60) rfl rfl ?_
                      refine rn_goto rfl ?_
                      refine rn_putI (k' := 63) rfl rfl K0_118 (by decide) rfl ?_
                      refine rn_aload_n (k' := 64) rfl rfl rfl ?_
                      refine rn_iload_n (k' := 65) rfl rfl rfl ?_
                      refine rn_putI (k' := 66) rfl rfl K0_118 (by decide) rfl ?_
                      refine rn_aload_n (k' := 67) rfl rfl rfl ?_
                      refine rn_dupR (k' := 68) rfl rfl ?_
                      refine rn_getI (k' := 69) rfl rfl K0_118 (by decide) rfl ?_
                      show Rn PT none kX12_next 69 [some (mR 118), some (mI (μ 2 t0)), none, none] [mI (((fs (fs H 12 (H 4)) 13 (0))) 4), mR 118] (mkh (m_set (m_set (m_upd μ 118 ((fs (fs H 12 (H 4)) 13 (0)))) 118 11 (3)) 118 14 (μ 2 t0)) c s) _
                      refine rn_iconst (k' := 70) rfl rfl ?_
                      refine rn_iadd (k' := 71) rfl rfl (by first | omega | (simp [fs]; omega)) ?_
                      refine rn_putI (k' := 72) rfl rfl K0_118 (by decide) rfl ?_
                      refine rn_vret rfl ?_
                      have hb59 : μ 2 (tq (μ 2) n p) = 59 := by rw [eq]; omega
                      obtain ⟨t1, t2, t3, t4⟩ := tk_semi (b := μ 2) (n := n) (m := m) (p := p) (by omega) (by omega) hb59
                      rw [set_upd_eq (a := 118), set_upd_eq (a := 118), set_upd_eq (a := 118)]
                      refine ⟨_, rfl, hH3, ?_, ?_, ?_, ?_, ?_, ?_, ?_⟩
                      · rw [t3]; first | exact (show H 5 = _ by omega) | exact (show H 4 = _ by omega)
                      · rw [t1]; rfl
                      · intro h9; rw [t4]; first | exact (show H 4 = _ by omega) | exact (show H 4 + 1 = _ by omega)
                      · intro h9; rw [t1] at h9; exact absurd h9 (by decide)
                      · intro h9; rw [t1] at h9; exact absurd h9 (by decide)
                      · intro h9; rw [t1] at h9; first | exact absurd h9 (by decide) | exact (show μ 2 t0 = 59 by omega)
                      · intro j j1 j2 j3 j4 j5 j6
                        rw [← hfr j j1 j2 j3 j4 j5 j6]
                        first | rfl | (simp [fs, j1, j2, j3, j4, j5, j6])
          · exfalso; omega
        · skip
          refine rn_aload_n (k' := 28) rfl rfl rfl ?_
          refine rn_getI (k' := 29) rfl rfl K0_118 (by decide) rfl ?_
          show Rn PT none kX12_next 29 [some (mR 118), none, none, none] [mI (H 4)] (mkh (m_set (m_set (m_upd μ 118 H) 118 12 (H 4)) 118 13 (0)) c s) _
          refine rn_aload_n (k' := 30) rfl rfl rfl ?_
          refine rn_getI (k' := 31) rfl rfl K0_118 (by decide) rfl ?_
          show Rn PT none kX12_next 31 [some (mR 118), none, none, none] [mI (H 5), mI (H 4)] (mkh (m_set (m_set (m_upd μ 118 H) 118 12 (H 4)) 118 13 (0)) c s) _
          refine rn_icmp_lt (k' := 32) rfl rfl (fun hc28 => ?_) (fun hc28 => ?_)
          · skip
            refine rn_aload_n (k' := 41) rfl rfl rfl ?_
            rw [set_upd_eq (a := 118), set_upd_eq (a := 118)]
            refine rn_callP (k' := 42) (y := 172) (vs := [mR 118]) (S' := []) (v := some (mI (μ 2 t0))) (h' := mkh (m_upd μ 118 ((fs (fs H 12 (H 4)) 13 (0)))) c s) rfl rfl rfl (peek_in (μ := μ) (c := c) (s := s) ht (H := (fs (fs H 12 (H 4)) 13 (0))) (n := n) (j := t0) (show H 3 = _ from hH3) (show H 4 = _ from hH4) (by omega) hn9) ?_
            show Rn PT none kX12_next 42 [some (mR 118), none, none, none] [mI (μ 2 t0)] (mkh (m_upd μ 118 ((fs (fs H 12 (H 4)) 13 (0)))) c s) _
            refine rn_istore_n (k' := 43) (L' := [some (mR 118), some (mI (μ 2 t0)), none, none]) rfl rfl (Nat.le_of_ble_eq_true rfl) rfl ?_
            refine rn_iload_n (k' := 44) rfl rfl rfl ?_
            refine rn_if_ge (k' := 45) rfl rfl (fun hc29 => ?_) (fun hc29 => ?_)
            · skip
              refine rn_iload_n (k' := 50) rfl rfl rfl ?_
              by_cases hq30 : 97 ≤ μ 2 t0 ∧ μ 2 t0 ≤ 122
              · refine rn_callP (k' := 51) (y := 173) (vs := [mI (μ 2 t0)]) (S' := []) (v := some (mI 1)) (h' := mkh (m_upd μ 118 ((fs (fs H 12 (H 4)) 13 (0)))) c s) rfl rfl rfl (by have hz : Cl PT 173 [mI (μ 2 t0)] (mkh (m_upd μ 118 ((fs (fs H 12 (H 4)) 13 (0)))) c s) (fun r => r = (some (some (mI (if 97 ≤ μ 2 t0 ∧ μ 2 t0 ≤ 122 then 1 else 0))), mkh (m_upd μ 118 ((fs (fs H 12 (H 4)) 13 (0)))) c s)) := c_X12_isSmall (a := μ 2 t0) (μ := (m_upd μ 118 ((fs (fs H 12 (H 4)) 13 (0))))) (c := c) (s := s); rw [if_pos hq30] at hz; exact hz) ?_
                show Rn PT none kX12_next 51 [some (mR 118), some (mI (μ 2 t0)), none, none] [mI (1)] (mkh (m_upd μ 118 ((fs (fs H 12 (H 4)) 13 (0)))) c s) _
                refine rn_if_ne (k' := 52) rfl rfl (fun hc31 => ?_) (fun hc31 => ?_)
                · skip
                  refine rn_iload_n (k' := 74) rfl rfl rfl ?_
                  by_cases hq32 : 97 ≤ μ 2 t0 ∧ μ 2 t0 ≤ 122
                  · refine rn_callP (k' := 75) (y := 173) (vs := [mI (μ 2 t0)]) (S' := []) (v := some (mI 1)) (h' := mkh (m_upd μ 118 ((fs (fs H 12 (H 4)) 13 (0)))) c s) rfl rfl rfl (by have hz : Cl PT 173 [mI (μ 2 t0)] (mkh (m_upd μ 118 ((fs (fs H 12 (H 4)) 13 (0)))) c s) (fun r => r = (some (some (mI (if 97 ≤ μ 2 t0 ∧ μ 2 t0 ≤ 122 then 1 else 0))), mkh (m_upd μ 118 ((fs (fs H 12 (H 4)) 13 (0)))) c s)) := c_X12_isSmall (a := μ 2 t0) (μ := (m_upd μ 118 ((fs (fs H 12 (H 4)) 13 (0))))) (c := c) (s := s); rw [if_pos hq32] at hz; exact hz) ?_
                    show Rn PT none kX12_next 75 [some (mR 118), some (mI (μ 2 t0)), none, none] [mI (1)] (mkh (m_upd μ 118 ((fs (fs H 12 (H 4)) 13 (0)))) c s) _
                    refine rn_istore_n (k' := 76) (L' := [some (mR 118), some (mI (μ 2 t0)), some (mI (1)), none]) rfl rfl (Nat.le_of_ble_eq_true rfl) rfl ?_
                    refine rn_iconst (k' := 77) rfl rfl ?_
                    refine rn_istore_n (k' := 78) (L' := [some (mR 118), some (mI (μ 2 t0)), some (mI (1)), some (mI (1))]) rfl rfl (Nat.le_of_ble_eq_true rfl) rfl ?_
                    refine rn_aload_n (k' := 79) rfl rfl rfl ?_
                    refine rn_lconst (z := 0) (k' := 80) rfl rfl rfl ?_
                    refine rn_putJ (k' := 81) rfl rfl K0_118 (by decide) rfl ?_
                    refine rn_aload_n (k' := 82) rfl rfl rfl ?_
                    refine rn_iconst (k' := 83) rfl rfl ?_
                    refine rn_putI (k' := 84) rfl rfl K0_118 (by decide) rfl ?_
                    rw [set_upd_eq (a := 118), set_upd_eq (a := 118)]
                    have hb59 : ¬ μ 2 (tq (μ 2) n p) = 59 := by rw [eq]; omega
                    obtain ⟨t1, t2, t3, t4⟩ := tk_run (b := μ 2) (n := n) (m := m) (p := p) (by omega) (by omega) hb59
                    have etl : tl (μ 2) n p = tre (μ 2) (n - t0) t0 - t0 := by
                      show tre (μ 2) (n - tq (μ 2) n p) (tq (μ 2) n p) - tq (μ 2) n p = _
                      rw [eq]
                    rw [eq] at t3
                    have hgt : t0 + 1 ≤ tre (μ 2) (n - t0) t0 := by
                      obtain ⟨d9, h9⟩ : ∃ d9, n - t0 = d9 + 1 := ⟨n - t0 - 1, by omega⟩
                      rw [h9, tre_t (by omega)]
                      exact (tre_b (b := μ 2) d9 (t0 + 1)).1
                    refine l_next_run ht (n := n) (q := t0) (e := tre (μ 2) (n - t0) t0) hn9 (H0 := (fs (fs (fs (fs H 12 (H 4)) 13 (0)) 17 (0)) 14 (0))) (sl := 1) (by omega) (fun H2 al gal g3 g4 g12 g13 g14 g17 gfr => ?_) (n - t0) 0 _ _ (by omega) ⟨by omega, by simp [cL, cD]⟩ hH3 hH4 rfl rfl rfl rfl (fun _ _ _ _ _ _ _ => rfl) rfl
                    have hcl := cLD (b := μ 2) (q := t0) (tre (μ 2) (n - t0) t0 - t0)
                    have hc1 := c1_ (b := μ 2) (q := t0) (tre (μ 2) (n - t0) t0 - t0 - 1)
                    rw [show tre (μ 2) (n - t0) t0 - t0 - 1 + 1 = tre (μ 2) (n - t0) t0 - t0 by omega] at hc1
                    refine rn_aload_n (k' := 146) rfl rfl rfl ?_
                    refine rn_iload_n (k' := 147) rfl rfl rfl ?_
                    refine rn_if_eq (k' := 148) rfl rfl (fun hc1 => ?_) (fun hc1 => ?_)
                    · skip
                      refine rn_iconst (k' := 157) rfl rfl ?_
                      refine rn_goto rfl ?_
                      refine rn_putI (k' := 164) rfl rfl K0_118 (by decide) rfl ?_
                      refine rn_vret rfl ?_
                      have hK := rK_0 (b := μ 2) (q := t0) (k := tre (μ 2) (n - t0) t0 - t0) (by omega) (by omega)
                      rw [etl, eq, hK] at t1
                      rw [set_upd_eq (a := 118)]
                      refine ⟨_, rfl, g3, ?_, ?_, ?_, ?_, ?_, ?_, ?_⟩
                      · rw [t3]; exact g12.trans (show H 4 = _ by omega)
                      · rw [t1]; rfl
                      · intro h9; exact absurd t1 h9
                      · intro h9; rw [t1] at h9; exact absurd h9 (by decide)
                      · intro h9; rw [t1] at h9; exact absurd h9 (by decide)
                      · intro h9; rw [t1] at h9; exact absurd h9 (by decide)
                      · intro j j1 j2 j3 j4 j5 j6
                        rw [← hfr j j1 j2 j3 j4 j5 j6]
                        refine Eq.trans (b := H2 j) ?_ ((gfr j j1 j2 j3 j4 j5 j6).trans ?_)
                        · simp [fs, j2]
                        · simp [fs, j1, j2, j3, j4, j5, j6]
                    · skip
                      refine rn_aload_n (k' := 149) rfl rfl rfl ?_
                      refine rn_getI (k' := 150) rfl rfl K0_118 (by decide) rfl ?_
                      show Rn PT none kX12_next 150 [some (mR 118), some (mI (μ 2 t0)), some (mI (1)), some (mI (al))] [mI (H2 13), mR 118] (mkh (m_upd μ 118 H2) c s) _
                      refine rn_iload_n (k' := 151) rfl rfl rfl ?_
                      refine rn_if_eq (k' := 152) rfl rfl (fun hc3 => ?_) (fun hc3 => ?_)
                      · exfalso; omega
                      · skip
                        refine rn_bipush (k' := 153) rfl rfl ?_
                        refine rn_goto rfl ?_
                        refine rn_icmp_le (k' := 156) rfl rfl (fun hc4 => ?_) (fun hc4 => ?_)
                        · skip
                          refine rn_iload_n (k' := 159) rfl rfl rfl ?_
                          refine rn_if_eq (k' := 160) rfl rfl (fun hc5 => ?_) (fun hc5 => ?_)
                          · exfalso; omega
                          · skip
                            refine rn_iconst (k' := 161) rfl rfl ?_
                            refine rn_goto rfl ?_
                            refine rn_putI (k' := 164) rfl rfl K0_118 (by decide) rfl ?_
                            refine rn_vret rfl ?_
                            have hK := rK_1 (b := μ 2) (q := t0) (k := tre (μ 2) (n - t0) t0 - t0) (by omega)
                            rw [etl, eq, hK] at t1
                            rw [set_upd_eq (a := 118)]
                            refine ⟨_, rfl, g3, ?_, ?_, ?_, ?_, ?_, ?_, ?_⟩
                            · rw [t3]; exact g12.trans (show H 4 = _ by omega)
                            · rw [t1]; rfl
                            · intro h9; rw [t4, eq]; exact g4
                            · intro h9; rw [etl, eq]; exact g17
                            · intro h9; rw [t1] at h9; exact absurd h9 (by decide)
                            · intro h9; rw [t1] at h9; exact absurd h9 (by decide)
                            · intro j j1 j2 j3 j4 j5 j6
                              rw [← hfr j j1 j2 j3 j4 j5 j6]
                              refine Eq.trans (b := H2 j) ?_ ((gfr j j1 j2 j3 j4 j5 j6).trans ?_)
                              · simp [fs, j2]
                              · simp [fs, j1, j2, j3, j4, j5, j6]
                        · skip
                          refine rn_iconst (k' := 157) rfl rfl ?_
                          refine rn_goto rfl ?_
                          refine rn_putI (k' := 164) rfl rfl K0_118 (by decide) rfl ?_
                          refine rn_vret rfl ?_
                          have hK := rK_0 (b := μ 2) (q := t0) (k := tre (μ 2) (n - t0) t0 - t0) (by omega) (by omega)
                          rw [etl, eq, hK] at t1
                          rw [set_upd_eq (a := 118)]
                          refine ⟨_, rfl, g3, ?_, ?_, ?_, ?_, ?_, ?_, ?_⟩
                          · rw [t3]; exact g12.trans (show H 4 = _ by omega)
                          · rw [t1]; rfl
                          · intro h9; exact absurd t1 h9
                          · intro h9; rw [t1] at h9; exact absurd h9 (by decide)
                          · intro h9; rw [t1] at h9; exact absurd h9 (by decide)
                          · intro h9; rw [t1] at h9; exact absurd h9 (by decide)
                          · intro j j1 j2 j3 j4 j5 j6
                            rw [← hfr j j1 j2 j3 j4 j5 j6]
                            refine Eq.trans (b := H2 j) ?_ ((gfr j j1 j2 j3 j4 j5 j6).trans ?_)
                            · simp [fs, j2]
                            · simp [fs, j1, j2, j3, j4, j5, j6]
                  · refine rn_callP (k' := 75) (y := 173) (vs := [mI (μ 2 t0)]) (S' := []) (v := some (mI 0)) (h' := mkh (m_upd μ 118 ((fs (fs H 12 (H 4)) 13 (0)))) c s) rfl rfl rfl (by have hz : Cl PT 173 [mI (μ 2 t0)] (mkh (m_upd μ 118 ((fs (fs H 12 (H 4)) 13 (0)))) c s) (fun r => r = (some (some (mI (if 97 ≤ μ 2 t0 ∧ μ 2 t0 ≤ 122 then 1 else 0))), mkh (m_upd μ 118 ((fs (fs H 12 (H 4)) 13 (0)))) c s)) := c_X12_isSmall (a := μ 2 t0) (μ := (m_upd μ 118 ((fs (fs H 12 (H 4)) 13 (0))))) (c := c) (s := s); rw [if_neg hq32] at hz; exact hz) ?_
                    show Rn PT none kX12_next 75 [some (mR 118), some (mI (μ 2 t0)), none, none] [mI (0)] (mkh (m_upd μ 118 ((fs (fs H 12 (H 4)) 13 (0)))) c s) _
                    refine rn_istore_n (k' := 76) (L' := [some (mR 118), some (mI (μ 2 t0)), some (mI (0)), none]) rfl rfl (Nat.le_of_ble_eq_true rfl) rfl ?_
                    refine rn_iconst (k' := 77) rfl rfl ?_
                    refine rn_istore_n (k' := 78) (L' := [some (mR 118), some (mI (μ 2 t0)), some (mI (0)), some (mI (1))]) rfl rfl (Nat.le_of_ble_eq_true rfl) rfl ?_
                    refine rn_aload_n (k' := 79) rfl rfl rfl ?_
                    refine rn_lconst (z := 0) (k' := 80) rfl rfl rfl ?_
                    refine rn_putJ (k' := 81) rfl rfl K0_118 (by decide) rfl ?_
                    refine rn_aload_n (k' := 82) rfl rfl rfl ?_
                    refine rn_iconst (k' := 83) rfl rfl ?_
                    refine rn_putI (k' := 84) rfl rfl K0_118 (by decide) rfl ?_
                    rw [set_upd_eq (a := 118), set_upd_eq (a := 118)]
                    have hb59 : ¬ μ 2 (tq (μ 2) n p) = 59 := by rw [eq]; omega
                    obtain ⟨t1, t2, t3, t4⟩ := tk_run (b := μ 2) (n := n) (m := m) (p := p) (by omega) (by omega) hb59
                    have etl : tl (μ 2) n p = tre (μ 2) (n - t0) t0 - t0 := by
                      show tre (μ 2) (n - tq (μ 2) n p) (tq (μ 2) n p) - tq (μ 2) n p = _
                      rw [eq]
                    rw [eq] at t3
                    have hgt : t0 + 1 ≤ tre (μ 2) (n - t0) t0 := by
                      obtain ⟨d9, h9⟩ : ∃ d9, n - t0 = d9 + 1 := ⟨n - t0 - 1, by omega⟩
                      rw [h9, tre_t (by omega)]
                      exact (tre_b (b := μ 2) d9 (t0 + 1)).1
                    refine l_next_run ht (n := n) (q := t0) (e := tre (μ 2) (n - t0) t0) hn9 (H0 := (fs (fs (fs (fs H 12 (H 4)) 13 (0)) 17 (0)) 14 (0))) (sl := 0) (by omega) (fun H2 al gal g3 g4 g12 g13 g14 g17 gfr => ?_) (n - t0) 0 _ _ (by omega) ⟨by omega, by simp [cL, cD]⟩ hH3 hH4 rfl rfl rfl rfl (fun _ _ _ _ _ _ _ => rfl) rfl
                    have hcl := cLD (b := μ 2) (q := t0) (tre (μ 2) (n - t0) t0 - t0)
                    have hc1 := c1_ (b := μ 2) (q := t0) (tre (μ 2) (n - t0) t0 - t0 - 1)
                    rw [show tre (μ 2) (n - t0) t0 - t0 - 1 + 1 = tre (μ 2) (n - t0) t0 - t0 by omega] at hc1
                    refine rn_aload_n (k' := 146) rfl rfl rfl ?_
                    refine rn_iload_n (k' := 147) rfl rfl rfl ?_
                    refine rn_if_eq (k' := 148) rfl rfl (fun hc1 => ?_) (fun hc1 => ?_)
                    · skip
                      refine rn_iconst (k' := 157) rfl rfl ?_
                      refine rn_goto rfl ?_
                      refine rn_putI (k' := 164) rfl rfl K0_118 (by decide) rfl ?_
                      refine rn_vret rfl ?_
                      have hK := rK_0 (b := μ 2) (q := t0) (k := tre (μ 2) (n - t0) t0 - t0) (by omega) (by omega)
                      rw [etl, eq, hK] at t1
                      rw [set_upd_eq (a := 118)]
                      refine ⟨_, rfl, g3, ?_, ?_, ?_, ?_, ?_, ?_, ?_⟩
                      · rw [t3]; exact g12.trans (show H 4 = _ by omega)
                      · rw [t1]; rfl
                      · intro h9; exact absurd t1 h9
                      · intro h9; rw [t1] at h9; exact absurd h9 (by decide)
                      · intro h9; rw [t1] at h9; exact absurd h9 (by decide)
                      · intro h9; rw [t1] at h9; exact absurd h9 (by decide)
                      · intro j j1 j2 j3 j4 j5 j6
                        rw [← hfr j j1 j2 j3 j4 j5 j6]
                        refine Eq.trans (b := H2 j) ?_ ((gfr j j1 j2 j3 j4 j5 j6).trans ?_)
                        · simp [fs, j2]
                        · simp [fs, j1, j2, j3, j4, j5, j6]
                    · skip
                      refine rn_aload_n (k' := 149) rfl rfl rfl ?_
                      refine rn_getI (k' := 150) rfl rfl K0_118 (by decide) rfl ?_
                      show Rn PT none kX12_next 150 [some (mR 118), some (mI (μ 2 t0)), some (mI (0)), some (mI (al))] [mI (H2 13), mR 118] (mkh (m_upd μ 118 H2) c s) _
                      refine rn_iload_n (k' := 151) rfl rfl rfl ?_
                      refine rn_if_eq (k' := 152) rfl rfl (fun hc3 => ?_) (fun hc3 => ?_)
                      · skip
                        refine rn_iconst (k' := 155) rfl rfl ?_
                        refine rn_icmp_le (k' := 156) rfl rfl (fun hc4 => ?_) (fun hc4 => ?_)
                        · skip
                          refine rn_iload_n (k' := 159) rfl rfl rfl ?_
                          refine rn_if_eq (k' := 160) rfl rfl (fun hc5 => ?_) (fun hc5 => ?_)
                          · skip
                            refine rn_iconst (k' := 163) rfl rfl ?_
                            refine rn_putI (k' := 164) rfl rfl K0_118 (by decide) rfl ?_
                            refine rn_vret rfl ?_
                            have hK := rK_2 (b := μ 2) (q := t0) (k := tre (μ 2) (n - t0) t0 - t0) (by omega) (by omega)
                            rw [etl, eq, hK] at t1
                            rw [set_upd_eq (a := 118)]
                            refine ⟨_, rfl, g3, ?_, ?_, ?_, ?_, ?_, ?_, ?_⟩
                            · rw [t3]; exact g12.trans (show H 4 = _ by omega)
                            · rw [t1]; rfl
                            · intro h9; rw [t4, eq]; exact g4
                            · intro h9; rw [t1] at h9; exact absurd h9 (by decide)
                            · intro h9; rw [etl, eq]; exact g14
                            · intro h9; rw [t1] at h9; exact absurd h9 (by decide)
                            · intro j j1 j2 j3 j4 j5 j6
                              rw [← hfr j j1 j2 j3 j4 j5 j6]
                              refine Eq.trans (b := H2 j) ?_ ((gfr j j1 j2 j3 j4 j5 j6).trans ?_)
                              · simp [fs, j2]
                              · simp [fs, j1, j2, j3, j4, j5, j6]
                          · exfalso; omega
                        · skip
                          refine rn_iconst (k' := 157) rfl rfl ?_
                          refine rn_goto rfl ?_
                          refine rn_putI (k' := 164) rfl rfl K0_118 (by decide) rfl ?_
                          refine rn_vret rfl ?_
                          have hK := rK_0 (b := μ 2) (q := t0) (k := tre (μ 2) (n - t0) t0 - t0) (by omega) (by omega)
                          rw [etl, eq, hK] at t1
                          rw [set_upd_eq (a := 118)]
                          refine ⟨_, rfl, g3, ?_, ?_, ?_, ?_, ?_, ?_, ?_⟩
                          · rw [t3]; exact g12.trans (show H 4 = _ by omega)
                          · rw [t1]; rfl
                          · intro h9; exact absurd t1 h9
                          · intro h9; rw [t1] at h9; exact absurd h9 (by decide)
                          · intro h9; rw [t1] at h9; exact absurd h9 (by decide)
                          · intro h9; rw [t1] at h9; exact absurd h9 (by decide)
                          · intro j j1 j2 j3 j4 j5 j6
                            rw [← hfr j j1 j2 j3 j4 j5 j6]
                            refine Eq.trans (b := H2 j) ?_ ((gfr j j1 j2 j3 j4 j5 j6).trans ?_)
                            · simp [fs, j2]
                            · simp [fs, j1, j2, j3, j4, j5, j6]
                      · exfalso; omega
                · exfalso; omega
              · refine rn_callP (k' := 51) (y := 173) (vs := [mI (μ 2 t0)]) (S' := []) (v := some (mI 0)) (h' := mkh (m_upd μ 118 ((fs (fs H 12 (H 4)) 13 (0)))) c s) rfl rfl rfl (by have hz : Cl PT 173 [mI (μ 2 t0)] (mkh (m_upd μ 118 ((fs (fs H 12 (H 4)) 13 (0)))) c s) (fun r => r = (some (some (mI (if 97 ≤ μ 2 t0 ∧ μ 2 t0 ≤ 122 then 1 else 0))), mkh (m_upd μ 118 ((fs (fs H 12 (H 4)) 13 (0)))) c s)) := c_X12_isSmall (a := μ 2 t0) (μ := (m_upd μ 118 ((fs (fs H 12 (H 4)) 13 (0))))) (c := c) (s := s); rw [if_neg hq30] at hz; exact hz) ?_
                show Rn PT none kX12_next 51 [some (mR 118), some (mI (μ 2 t0)), none, none] [mI (0)] (mkh (m_upd μ 118 ((fs (fs H 12 (H 4)) 13 (0)))) c s) _
                refine rn_if_ne (k' := 52) rfl rfl (fun hc37 => ?_) (fun hc37 => ?_)
                · exfalso; omega
                · skip
                  refine rn_iload_n (k' := 53) rfl rfl rfl ?_
                  by_cases hq38 : 48 ≤ μ 2 t0 ∧ μ 2 t0 ≤ 57
                  · refine rn_callP (k' := 54) (y := 174) (vs := [mI (μ 2 t0)]) (S' := []) (v := some (mI 1)) (h' := mkh (m_upd μ 118 ((fs (fs H 12 (H 4)) 13 (0)))) c s) rfl rfl rfl (by have hz : Cl PT 174 [mI (μ 2 t0)] (mkh (m_upd μ 118 ((fs (fs H 12 (H 4)) 13 (0)))) c s) (fun r => r = (some (some (mI (if 48 ≤ μ 2 t0 ∧ μ 2 t0 ≤ 57 then 1 else 0))), mkh (m_upd μ 118 ((fs (fs H 12 (H 4)) 13 (0)))) c s)) := c_X12_isDigit (a := μ 2 t0) (μ := (m_upd μ 118 ((fs (fs H 12 (H 4)) 13 (0))))) (c := c) (s := s); rw [if_pos hq38] at hz; exact hz) ?_
                    show Rn PT none kX12_next 54 [some (mR 118), some (mI (μ 2 t0)), none, none] [mI (1)] (mkh (m_upd μ 118 ((fs (fs H 12 (H 4)) 13 (0)))) c s) _
                    refine rn_if_ne (k' := 55) rfl rfl (fun hc39 => ?_) (fun hc39 => ?_)
                    · skip
                      refine rn_iload_n (k' := 74) rfl rfl rfl ?_
                      by_cases hq40 : 97 ≤ μ 2 t0 ∧ μ 2 t0 ≤ 122
                      · refine rn_callP (k' := 75) (y := 173) (vs := [mI (μ 2 t0)]) (S' := []) (v := some (mI 1)) (h' := mkh (m_upd μ 118 ((fs (fs H 12 (H 4)) 13 (0)))) c s) rfl rfl rfl (by have hz : Cl PT 173 [mI (μ 2 t0)] (mkh (m_upd μ 118 ((fs (fs H 12 (H 4)) 13 (0)))) c s) (fun r => r = (some (some (mI (if 97 ≤ μ 2 t0 ∧ μ 2 t0 ≤ 122 then 1 else 0))), mkh (m_upd μ 118 ((fs (fs H 12 (H 4)) 13 (0)))) c s)) := c_X12_isSmall (a := μ 2 t0) (μ := (m_upd μ 118 ((fs (fs H 12 (H 4)) 13 (0))))) (c := c) (s := s); rw [if_pos hq40] at hz; exact hz) ?_
                        show Rn PT none kX12_next 75 [some (mR 118), some (mI (μ 2 t0)), none, none] [mI (1)] (mkh (m_upd μ 118 ((fs (fs H 12 (H 4)) 13 (0)))) c s) _
                        refine rn_istore_n (k' := 76) (L' := [some (mR 118), some (mI (μ 2 t0)), some (mI (1)), none]) rfl rfl (Nat.le_of_ble_eq_true rfl) rfl ?_
                        refine rn_iconst (k' := 77) rfl rfl ?_
                        refine rn_istore_n (k' := 78) (L' := [some (mR 118), some (mI (μ 2 t0)), some (mI (1)), some (mI (1))]) rfl rfl (Nat.le_of_ble_eq_true rfl) rfl ?_
                        refine rn_aload_n (k' := 79) rfl rfl rfl ?_
                        refine rn_lconst (z := 0) (k' := 80) rfl rfl rfl ?_
                        refine rn_putJ (k' := 81) rfl rfl K0_118 (by decide) rfl ?_
                        refine rn_aload_n (k' := 82) rfl rfl rfl ?_
                        refine rn_iconst (k' := 83) rfl rfl ?_
                        refine rn_putI (k' := 84) rfl rfl K0_118 (by decide) rfl ?_
                        rw [set_upd_eq (a := 118), set_upd_eq (a := 118)]
                        have hb59 : ¬ μ 2 (tq (μ 2) n p) = 59 := by rw [eq]; omega
                        obtain ⟨t1, t2, t3, t4⟩ := tk_run (b := μ 2) (n := n) (m := m) (p := p) (by omega) (by omega) hb59
                        have etl : tl (μ 2) n p = tre (μ 2) (n - t0) t0 - t0 := by
                          show tre (μ 2) (n - tq (μ 2) n p) (tq (μ 2) n p) - tq (μ 2) n p = _
                          rw [eq]
                        rw [eq] at t3
                        have hgt : t0 + 1 ≤ tre (μ 2) (n - t0) t0 := by
                          obtain ⟨d9, h9⟩ : ∃ d9, n - t0 = d9 + 1 := ⟨n - t0 - 1, by omega⟩
                          rw [h9, tre_t (by omega)]
                          exact (tre_b (b := μ 2) d9 (t0 + 1)).1
                        refine l_next_run ht (n := n) (q := t0) (e := tre (μ 2) (n - t0) t0) hn9 (H0 := (fs (fs (fs (fs H 12 (H 4)) 13 (0)) 17 (0)) 14 (0))) (sl := 1) (by omega) (fun H2 al gal g3 g4 g12 g13 g14 g17 gfr => ?_) (n - t0) 0 _ _ (by omega) ⟨by omega, by simp [cL, cD]⟩ hH3 hH4 rfl rfl rfl rfl (fun _ _ _ _ _ _ _ => rfl) rfl
                        have hcl := cLD (b := μ 2) (q := t0) (tre (μ 2) (n - t0) t0 - t0)
                        have hc1 := c1_ (b := μ 2) (q := t0) (tre (μ 2) (n - t0) t0 - t0 - 1)
                        rw [show tre (μ 2) (n - t0) t0 - t0 - 1 + 1 = tre (μ 2) (n - t0) t0 - t0 by omega] at hc1
                        refine rn_aload_n (k' := 146) rfl rfl rfl ?_
                        refine rn_iload_n (k' := 147) rfl rfl rfl ?_
                        refine rn_if_eq (k' := 148) rfl rfl (fun hc1 => ?_) (fun hc1 => ?_)
                        · skip
                          refine rn_iconst (k' := 157) rfl rfl ?_
                          refine rn_goto rfl ?_
                          refine rn_putI (k' := 164) rfl rfl K0_118 (by decide) rfl ?_
                          refine rn_vret rfl ?_
                          have hK := rK_0 (b := μ 2) (q := t0) (k := tre (μ 2) (n - t0) t0 - t0) (by omega) (by omega)
                          rw [etl, eq, hK] at t1
                          rw [set_upd_eq (a := 118)]
                          refine ⟨_, rfl, g3, ?_, ?_, ?_, ?_, ?_, ?_, ?_⟩
                          · rw [t3]; exact g12.trans (show H 4 = _ by omega)
                          · rw [t1]; rfl
                          · intro h9; exact absurd t1 h9
                          · intro h9; rw [t1] at h9; exact absurd h9 (by decide)
                          · intro h9; rw [t1] at h9; exact absurd h9 (by decide)
                          · intro h9; rw [t1] at h9; exact absurd h9 (by decide)
                          · intro j j1 j2 j3 j4 j5 j6
                            rw [← hfr j j1 j2 j3 j4 j5 j6]
                            refine Eq.trans (b := H2 j) ?_ ((gfr j j1 j2 j3 j4 j5 j6).trans ?_)
                            · simp [fs, j2]
                            · simp [fs, j1, j2, j3, j4, j5, j6]
                        · skip
                          refine rn_aload_n (k' := 149) rfl rfl rfl ?_
                          refine rn_getI (k' := 150) rfl rfl K0_118 (by decide) rfl ?_
                          show Rn PT none kX12_next 150 [some (mR 118), some (mI (μ 2 t0)), some (mI (1)), some (mI (al))] [mI (H2 13), mR 118] (mkh (m_upd μ 118 H2) c s) _
                          refine rn_iload_n (k' := 151) rfl rfl rfl ?_
                          refine rn_if_eq (k' := 152) rfl rfl (fun hc3 => ?_) (fun hc3 => ?_)
                          · exfalso; omega
                          · skip
                            refine rn_bipush (k' := 153) rfl rfl ?_
                            refine rn_goto rfl ?_
                            refine rn_icmp_le (k' := 156) rfl rfl (fun hc4 => ?_) (fun hc4 => ?_)
                            · skip
                              refine rn_iload_n (k' := 159) rfl rfl rfl ?_
                              refine rn_if_eq (k' := 160) rfl rfl (fun hc5 => ?_) (fun hc5 => ?_)
                              · exfalso; omega
                              · skip
                                refine rn_iconst (k' := 161) rfl rfl ?_
                                refine rn_goto rfl ?_
                                refine rn_putI (k' := 164) rfl rfl K0_118 (by decide) rfl ?_
                                refine rn_vret rfl ?_
                                have hK := rK_1 (b := μ 2) (q := t0) (k := tre (μ 2) (n - t0) t0 - t0) (by omega)
                                rw [etl, eq, hK] at t1
                                rw [set_upd_eq (a := 118)]
                                refine ⟨_, rfl, g3, ?_, ?_, ?_, ?_, ?_, ?_, ?_⟩
                                · rw [t3]; exact g12.trans (show H 4 = _ by omega)
                                · rw [t1]; rfl
                                · intro h9; rw [t4, eq]; exact g4
                                · intro h9; rw [etl, eq]; exact g17
                                · intro h9; rw [t1] at h9; exact absurd h9 (by decide)
                                · intro h9; rw [t1] at h9; exact absurd h9 (by decide)
                                · intro j j1 j2 j3 j4 j5 j6
                                  rw [← hfr j j1 j2 j3 j4 j5 j6]
                                  refine Eq.trans (b := H2 j) ?_ ((gfr j j1 j2 j3 j4 j5 j6).trans ?_)
                                  · simp [fs, j2]
                                  · simp [fs, j1, j2, j3, j4, j5, j6]
                            · skip
                              refine rn_iconst (k' := 157) rfl rfl ?_
                              refine rn_goto rfl ?_
                              refine rn_putI (k' := 164) rfl rfl K0_118 (by decide) rfl ?_
                              refine rn_vret rfl ?_
                              have hK := rK_0 (b := μ 2) (q := t0) (k := tre (μ 2) (n - t0) t0 - t0) (by omega) (by omega)
                              rw [etl, eq, hK] at t1
                              rw [set_upd_eq (a := 118)]
                              refine ⟨_, rfl, g3, ?_, ?_, ?_, ?_, ?_, ?_, ?_⟩
                              · rw [t3]; exact g12.trans (show H 4 = _ by omega)
                              · rw [t1]; rfl
                              · intro h9; exact absurd t1 h9
                              · intro h9; rw [t1] at h9; exact absurd h9 (by decide)
                              · intro h9; rw [t1] at h9; exact absurd h9 (by decide)
                              · intro h9; rw [t1] at h9; exact absurd h9 (by decide)
                              · intro j j1 j2 j3 j4 j5 j6
                                rw [← hfr j j1 j2 j3 j4 j5 j6]
                                refine Eq.trans (b := H2 j) ?_ ((gfr j j1 j2 j3 j4 j5 j6).trans ?_)
                                · simp [fs, j2]
                                · simp [fs, j1, j2, j3, j4, j5, j6]
                      · refine rn_callP (k' := 75) (y := 173) (vs := [mI (μ 2 t0)]) (S' := []) (v := some (mI 0)) (h' := mkh (m_upd μ 118 ((fs (fs H 12 (H 4)) 13 (0)))) c s) rfl rfl rfl (by have hz : Cl PT 173 [mI (μ 2 t0)] (mkh (m_upd μ 118 ((fs (fs H 12 (H 4)) 13 (0)))) c s) (fun r => r = (some (some (mI (if 97 ≤ μ 2 t0 ∧ μ 2 t0 ≤ 122 then 1 else 0))), mkh (m_upd μ 118 ((fs (fs H 12 (H 4)) 13 (0)))) c s)) := c_X12_isSmall (a := μ 2 t0) (μ := (m_upd μ 118 ((fs (fs H 12 (H 4)) 13 (0))))) (c := c) (s := s); rw [if_neg hq40] at hz; exact hz) ?_
                        show Rn PT none kX12_next 75 [some (mR 118), some (mI (μ 2 t0)), none, none] [mI (0)] (mkh (m_upd μ 118 ((fs (fs H 12 (H 4)) 13 (0)))) c s) _
                        refine rn_istore_n (k' := 76) (L' := [some (mR 118), some (mI (μ 2 t0)), some (mI (0)), none]) rfl rfl (Nat.le_of_ble_eq_true rfl) rfl ?_
                        refine rn_iconst (k' := 77) rfl rfl ?_
                        refine rn_istore_n (k' := 78) (L' := [some (mR 118), some (mI (μ 2 t0)), some (mI (0)), some (mI (1))]) rfl rfl (Nat.le_of_ble_eq_true rfl) rfl ?_
                        refine rn_aload_n (k' := 79) rfl rfl rfl ?_
                        refine rn_lconst (z := 0) (k' := 80) rfl rfl rfl ?_
                        refine rn_putJ (k' := 81) rfl rfl K0_118 (by decide) rfl ?_
                        refine rn_aload_n (k' := 82) rfl rfl rfl ?_
                        refine rn_iconst (k' := 83) rfl rfl ?_
                        refine rn_putI (k' := 84) rfl rfl K0_118 (by decide) rfl ?_
                        rw [set_upd_eq (a := 118), set_upd_eq (a := 118)]
                        have hb59 : ¬ μ 2 (tq (μ 2) n p) = 59 := by rw [eq]; omega
                        obtain ⟨t1, t2, t3, t4⟩ := tk_run (b := μ 2) (n := n) (m := m) (p := p) (by omega) (by omega) hb59
                        have etl : tl (μ 2) n p = tre (μ 2) (n - t0) t0 - t0 := by
                          show tre (μ 2) (n - tq (μ 2) n p) (tq (μ 2) n p) - tq (μ 2) n p = _
                          rw [eq]
                        rw [eq] at t3
                        have hgt : t0 + 1 ≤ tre (μ 2) (n - t0) t0 := by
                          obtain ⟨d9, h9⟩ : ∃ d9, n - t0 = d9 + 1 := ⟨n - t0 - 1, by omega⟩
                          rw [h9, tre_t (by omega)]
                          exact (tre_b (b := μ 2) d9 (t0 + 1)).1
                        refine l_next_run ht (n := n) (q := t0) (e := tre (μ 2) (n - t0) t0) hn9 (H0 := (fs (fs (fs (fs H 12 (H 4)) 13 (0)) 17 (0)) 14 (0))) (sl := 0) (by omega) (fun H2 al gal g3 g4 g12 g13 g14 g17 gfr => ?_) (n - t0) 0 _ _ (by omega) ⟨by omega, by simp [cL, cD]⟩ hH3 hH4 rfl rfl rfl rfl (fun _ _ _ _ _ _ _ => rfl) rfl
                        have hcl := cLD (b := μ 2) (q := t0) (tre (μ 2) (n - t0) t0 - t0)
                        have hc1 := c1_ (b := μ 2) (q := t0) (tre (μ 2) (n - t0) t0 - t0 - 1)
                        rw [show tre (μ 2) (n - t0) t0 - t0 - 1 + 1 = tre (μ 2) (n - t0) t0 - t0 by omega] at hc1
                        refine rn_aload_n (k' := 146) rfl rfl rfl ?_
                        refine rn_iload_n (k' := 147) rfl rfl rfl ?_
                        refine rn_if_eq (k' := 148) rfl rfl (fun hc1 => ?_) (fun hc1 => ?_)
                        · skip
                          refine rn_iconst (k' := 157) rfl rfl ?_
                          refine rn_goto rfl ?_
                          refine rn_putI (k' := 164) rfl rfl K0_118 (by decide) rfl ?_
                          refine rn_vret rfl ?_
                          have hK := rK_0 (b := μ 2) (q := t0) (k := tre (μ 2) (n - t0) t0 - t0) (by omega) (by omega)
                          rw [etl, eq, hK] at t1
                          rw [set_upd_eq (a := 118)]
                          refine ⟨_, rfl, g3, ?_, ?_, ?_, ?_, ?_, ?_, ?_⟩
                          · rw [t3]; exact g12.trans (show H 4 = _ by omega)
                          · rw [t1]; rfl
                          · intro h9; exact absurd t1 h9
                          · intro h9; rw [t1] at h9; exact absurd h9 (by decide)
                          · intro h9; rw [t1] at h9; exact absurd h9 (by decide)
                          · intro h9; rw [t1] at h9; exact absurd h9 (by decide)
                          · intro j j1 j2 j3 j4 j5 j6
                            rw [← hfr j j1 j2 j3 j4 j5 j6]
                            refine Eq.trans (b := H2 j) ?_ ((gfr j j1 j2 j3 j4 j5 j6).trans ?_)
                            · simp [fs, j2]
                            · simp [fs, j1, j2, j3, j4, j5, j6]
                        · skip
                          refine rn_aload_n (k' := 149) rfl rfl rfl ?_
                          refine rn_getI (k' := 150) rfl rfl K0_118 (by decide) rfl ?_
                          show Rn PT none kX12_next 150 [some (mR 118), some (mI (μ 2 t0)), some (mI (0)), some (mI (al))] [mI (H2 13), mR 118] (mkh (m_upd μ 118 H2) c s) _
                          refine rn_iload_n (k' := 151) rfl rfl rfl ?_
                          refine rn_if_eq (k' := 152) rfl rfl (fun hc3 => ?_) (fun hc3 => ?_)
                          · skip
                            refine rn_iconst (k' := 155) rfl rfl ?_
                            refine rn_icmp_le (k' := 156) rfl rfl (fun hc4 => ?_) (fun hc4 => ?_)
                            · skip
                              refine rn_iload_n (k' := 159) rfl rfl rfl ?_
                              refine rn_if_eq (k' := 160) rfl rfl (fun hc5 => ?_) (fun hc5 => ?_)
                              · skip
                                refine rn_iconst (k' := 163) rfl rfl ?_
                                refine rn_putI (k' := 164) rfl rfl K0_118 (by decide) rfl ?_
                                refine rn_vret rfl ?_
                                have hK := rK_2 (b := μ 2) (q := t0) (k := tre (μ 2) (n - t0) t0 - t0) (by omega) (by omega)
                                rw [etl, eq, hK] at t1
                                rw [set_upd_eq (a := 118)]
                                refine ⟨_, rfl, g3, ?_, ?_, ?_, ?_, ?_, ?_, ?_⟩
                                · rw [t3]; exact g12.trans (show H 4 = _ by omega)
                                · rw [t1]; rfl
                                · intro h9; rw [t4, eq]; exact g4
                                · intro h9; rw [t1] at h9; exact absurd h9 (by decide)
                                · intro h9; rw [etl, eq]; exact g14
                                · intro h9; rw [t1] at h9; exact absurd h9 (by decide)
                                · intro j j1 j2 j3 j4 j5 j6
                                  rw [← hfr j j1 j2 j3 j4 j5 j6]
                                  refine Eq.trans (b := H2 j) ?_ ((gfr j j1 j2 j3 j4 j5 j6).trans ?_)
                                  · simp [fs, j2]
                                  · simp [fs, j1, j2, j3, j4, j5, j6]
                              · exfalso; omega
                            · skip
                              refine rn_iconst (k' := 157) rfl rfl ?_
                              refine rn_goto rfl ?_
                              refine rn_putI (k' := 164) rfl rfl K0_118 (by decide) rfl ?_
                              refine rn_vret rfl ?_
                              have hK := rK_0 (b := μ 2) (q := t0) (k := tre (μ 2) (n - t0) t0 - t0) (by omega) (by omega)
                              rw [etl, eq, hK] at t1
                              rw [set_upd_eq (a := 118)]
                              refine ⟨_, rfl, g3, ?_, ?_, ?_, ?_, ?_, ?_, ?_⟩
                              · rw [t3]; exact g12.trans (show H 4 = _ by omega)
                              · rw [t1]; rfl
                              · intro h9; exact absurd t1 h9
                              · intro h9; rw [t1] at h9; exact absurd h9 (by decide)
                              · intro h9; rw [t1] at h9; exact absurd h9 (by decide)
                              · intro h9; rw [t1] at h9; exact absurd h9 (by decide)
                              · intro j j1 j2 j3 j4 j5 j6
                                rw [← hfr j j1 j2 j3 j4 j5 j6]
                                refine Eq.trans (b := H2 j) ?_ ((gfr j j1 j2 j3 j4 j5 j6).trans ?_)
                                · simp [fs, j2]
                                · simp [fs, j1, j2, j3, j4, j5, j6]
                          · exfalso; omega
                    · exfalso; omega
                  · refine rn_callP (k' := 54) (y := 174) (vs := [mI (μ 2 t0)]) (S' := []) (v := some (mI 0)) (h' := mkh (m_upd μ 118 ((fs (fs H 12 (H 4)) 13 (0)))) c s) rfl rfl rfl (by have hz : Cl PT 174 [mI (μ 2 t0)] (mkh (m_upd μ 118 ((fs (fs H 12 (H 4)) 13 (0)))) c s) (fun r => r = (some (some (mI (if 48 ≤ μ 2 t0 ∧ μ 2 t0 ≤ 57 then 1 else 0))), mkh (m_upd μ 118 ((fs (fs H 12 (H 4)) 13 (0)))) c s)) := c_X12_isDigit (a := μ 2 t0) (μ := (m_upd μ 118 ((fs (fs H 12 (H 4)) 13 (0))))) (c := c) (s := s); rw [if_neg hq38] at hz; exact hz) ?_
                    show Rn PT none kX12_next 54 [some (mR 118), some (mI (μ 2 t0)), none, none] [mI (0)] (mkh (m_upd μ 118 ((fs (fs H 12 (H 4)) 13 (0)))) c s) _
                    refine rn_if_ne (k' := 55) rfl rfl (fun hc45 => ?_) (fun hc45 => ?_)
                    · exfalso; omega
                    · skip
                      refine rn_aload_n (k' := 56) rfl rfl rfl ?_
                      refine rn_iload_n (k' := 57) rfl rfl rfl ?_
                      refine rn_bipush (k' := 58) rfl rfl ?_
                      refine rn_icmp_ne (k' := 59) rfl rfl (fun hc46 => ?_) (fun hc46 => ?_)
                      · skip
                        refine rn_iconst (k' := 62) rfl rfl ?_
                        refine rn_putI (k' := 63) rfl rfl K0_118 (by decide) rfl ?_
                        refine rn_aload_n (k' := 64) rfl rfl rfl ?_
                        refine rn_iload_n (k' := 65) rfl rfl rfl ?_
                        refine rn_putI (k' := 66) rfl rfl K0_118 (by decide) rfl ?_
                        refine rn_aload_n (k' := 67) rfl rfl rfl ?_
                        refine rn_dupR (k' := 68) rfl rfl ?_
                        refine rn_getI (k' := 69) rfl rfl K0_118 (by decide) rfl ?_
                        show Rn PT none kX12_next 69 [some (mR 118), some (mI (μ 2 t0)), none, none] [mI (((fs (fs H 12 (H 4)) 13 (0))) 4), mR 118] (mkh (m_set (m_set (m_upd μ 118 ((fs (fs H 12 (H 4)) 13 (0)))) 118 11 (4)) 118 14 (μ 2 t0)) c s) _
                        refine rn_iconst (k' := 70) rfl rfl ?_
                        refine rn_iadd (k' := 71) rfl rfl (by first | omega | (simp [fs]; omega)) ?_
                        refine rn_putI (k' := 72) rfl rfl K0_118 (by decide) rfl ?_
                        refine rn_vret rfl ?_
                        have hb59 : ¬ μ 2 (tq (μ 2) n p) = 59 := by rw [eq]; omega
                        have etre : tre (μ 2) (n - t0) t0 = t0 := by
                          obtain ⟨d9, h9⟩ : ∃ d9, n - t0 = d9 + 1 := ⟨n - t0 - 1, by omega⟩
                          rw [h9]; exact tre_f (by omega)
                        have etl : tl (μ 2) n p = 0 := by
                          show tre (μ 2) (n - tq (μ 2) n p) (tq (μ 2) n p) - tq (μ 2) n p = _
                          rw [eq, etre]; omega
                        have hr0 : rK (μ 2) (tq (μ 2) n p) (tl (μ 2) n p) = 0 := by rw [etl]; rfl
                        obtain ⟨t1, t2, t3, t4⟩ := tk_run (b := μ 2) (n := n) (m := m) (p := p) (by omega) (by omega) hb59
                        rw [hr0] at t1
                        rw [set_upd_eq (a := 118), set_upd_eq (a := 118), set_upd_eq (a := 118)]
                        refine ⟨_, rfl, hH3, ?_, ?_, ?_, ?_, ?_, ?_, ?_⟩
                        · rw [t3]; first | exact (show H 5 = _ by omega) | exact (show H 4 = _ by omega)
                        · rw [t1]; rfl
                        · intro h9; exact absurd t1 h9
                        · intro h9; rw [t1] at h9; exact absurd h9 (by decide)
                        · intro h9; rw [t1] at h9; exact absurd h9 (by decide)
                        · intro h9; rw [t1] at h9; first | exact absurd h9 (by decide) | exact (show μ 2 t0 = 59 by omega)
                        · intro j j1 j2 j3 j4 j5 j6
                          rw [← hfr j j1 j2 j3 j4 j5 j6]
                          first | rfl | (simp [fs, j1, j2, j3, j4, j5, j6])
                      · skip
                        refine rn_iconst (k' := 60) rfl rfl ?_
                        refine rn_goto rfl ?_
                        refine rn_putI (k' := 63) rfl rfl K0_118 (by decide) rfl ?_
                        refine rn_aload_n (k' := 64) rfl rfl rfl ?_
                        refine rn_iload_n (k' := 65) rfl rfl rfl ?_
                        refine rn_putI (k' := 66) rfl rfl K0_118 (by decide) rfl ?_
                        refine rn_aload_n (k' := 67) rfl rfl rfl ?_
                        refine rn_dupR (k' := 68) rfl rfl ?_
                        refine rn_getI (k' := 69) rfl rfl K0_118 (by decide) rfl ?_
                        show Rn PT none kX12_next 69 [some (mR 118), some (mI (μ 2 t0)), none, none] [mI (((fs (fs H 12 (H 4)) 13 (0))) 4), mR 118] (mkh (m_set (m_set (m_upd μ 118 ((fs (fs H 12 (H 4)) 13 (0)))) 118 11 (3)) 118 14 (μ 2 t0)) c s) _
                        refine rn_iconst (k' := 70) rfl rfl ?_
                        refine rn_iadd (k' := 71) rfl rfl (by first | omega | (simp [fs]; omega)) ?_
                        refine rn_putI (k' := 72) rfl rfl K0_118 (by decide) rfl ?_
                        refine rn_vret rfl ?_
                        have hb59 : μ 2 (tq (μ 2) n p) = 59 := by rw [eq]; omega
                        obtain ⟨t1, t2, t3, t4⟩ := tk_semi (b := μ 2) (n := n) (m := m) (p := p) (by omega) (by omega) hb59
                        rw [set_upd_eq (a := 118), set_upd_eq (a := 118), set_upd_eq (a := 118)]
                        refine ⟨_, rfl, hH3, ?_, ?_, ?_, ?_, ?_, ?_, ?_⟩
                        · rw [t3]; first | exact (show H 5 = _ by omega) | exact (show H 4 = _ by omega)
                        · rw [t1]; rfl
                        · intro h9; rw [t4]; first | exact (show H 4 = _ by omega) | exact (show H 4 + 1 = _ by omega)
                        · intro h9; rw [t1] at h9; exact absurd h9 (by decide)
                        · intro h9; rw [t1] at h9; exact absurd h9 (by decide)
                        · intro h9; rw [t1] at h9; first | exact absurd h9 (by decide) | exact (show μ 2 t0 = 59 by omega)
                        · intro j j1 j2 j3 j4 j5 j6
                          rw [← hfr j j1 j2 j3 j4 j5 j6]
                          first | rfl | (simp [fs, j1, j2, j3, j4, j5, j6])
            · exfalso; omega
          · skip
            refine rn_aload_n (k' := 33) rfl rfl rfl ?_
            refine rn_aload_n (k' := 34) rfl rfl rfl ?_
            refine rn_getI (k' := 35) rfl rfl K0_118 (by decide) rfl ?_
            show Rn PT none kX12_next 35 [some (mR 118), none, none, none] [mI (H 5), mR 118] (mkh (m_set (m_set (m_upd μ 118 H) 118 12 (H 4)) 118 13 (0)) c s) _
            refine rn_putI (k' := 36) rfl rfl K0_118 (by decide) rfl ?_
            refine rn_aload_n (k' := 37) rfl rfl rfl ?_
            refine rn_iconst (k' := 38) rfl rfl ?_
            refine rn_putI (k' := 39) rfl rfl K0_118 (by decide) rfl ?_
            refine rn_vret rfl ?_
            obtain ⟨t1, t2, t3, t4⟩ := tk_lim (b := μ 2) (n := n) (m := m) (p := p) (by omega)
            rw [set_upd_eq (a := 118), set_upd_eq (a := 118), set_upd_eq (a := 118), set_upd_eq (a := 118)]
            refine ⟨_, rfl, hH3, ?_, ?_, ?_, ?_, ?_, ?_, ?_⟩
            · rw [t3]; first | exact (show H 5 = _ by omega) | exact (show H 4 = _ by omega)
            · rw [t1]; rfl
            · intro h9; exact absurd t1 h9
            · intro h9; rw [t1] at h9; exact absurd h9 (by decide)
            · intro h9; rw [t1] at h9; exact absurd h9 (by decide)
            · intro h9; rw [t1] at h9; first | exact absurd h9 (by decide) | exact (show μ 2 t0 = 59 by omega)
            · intro j j1 j2 j3 j4 j5 j6
              rw [← hfr j j1 j2 j3 j4 j5 j6]
              first | rfl | (simp [fs, j1, j2, j3, j4, j5, j6])
      · skip
        refine rn_aload_n (k' := 9) rfl rfl rfl ?_
        refine rn_dupR (k' := 10) rfl rfl ?_
        refine rn_getI (k' := 11) rfl rfl K0_118 (by decide) rfl ?_
        show Rn PT none kX12_next 11 [some (mR 118), none, none, none] [mI (H 4), mR 118] (mkh (m_upd μ 118 H) c s) _
        refine rn_iconst (k' := 12) rfl rfl ?_
        refine rn_iadd (k' := 13) rfl rfl (by first | omega | (simp [fs]; omega)) ?_
        refine rn_putI (k' := 14) rfl rfl K0_118 (by decide) rfl ?_
        refine rn_goto rfl ?_
        show Rn PT none kX12_next 0 [some (mR 118), none, none, none] [] (mkh (m_set (m_upd μ 118 H) 118 4 ((H 4) + 1)) c s) _
        rw [set_upd_eq (a := 118)]
        exact ih (t0 + 1) _ (by omega) hH3 hH5 (by show H 4 + 1 = _; omega) (fun j j1 j2 j3 j4 j5 j6 => by rw [← hfr j j1 j2 j3 j4 j5 j6]; first | rfl | (simp [fs, j1, j2, j3, j4, j5, j6])) (by rw [← hq]; exact (tsk_t (b := μ 2) (d := d) (r := t0) (by omega)).symm)
theorem c_next {μ : Nat → Nat → Int} {c s : Nat} (ht : ∀ j, μ 2 j = μ 119 j % 256) {n m p : Nat} (hn9 : n ≤ 940) (hp : p ≤ n) {H0 : Nat → Int} (h3 : H0 3 = (n : Int)) (h5 : H0 5 = (m : Int)) (h4 : H0 4 = (p : Int)) : ∃ H1, (H1 3 = (n : Int) ∧ H1 12 = ((tkP (μ 2) n m p : Nat) : Int) ∧ H1 11 = mkk (tkK (μ 2) n m p) ∧ (tkK (μ 2) n m p ≠ 0 → H1 4 = ((tkN (μ 2) n m p : Nat) : Int)) ∧ (tkK (μ 2) n m p = 1 → H1 17 = mw (μ 2) (tq (μ 2) n p) (tl (μ 2) n p)) ∧ (tkK (μ 2) n m p = 2 → H1 14 = mn (μ 2) (tq (μ 2) n p) (tl (μ 2) n p)) ∧ (tkK (μ 2) n m p = 3 → H1 14 = 59) ∧ (∀ j, ¬ j = 4 → ¬ j = 11 → ¬ j = 12 → ¬ j = 13 → ¬ j = 14 → ¬ j = 17 → H1 j = H0 j)) ∧ Cl PT 175 [mR 118] (mkh (m_upd μ 118 H0) c s) (fun r => r = (some none, mkh (m_upd μ 118 H1) c s)) := by
  refine Cl.ex (g := fun H1 => (some none, mkh (m_upd μ 118 H1) c s)) ?_
  refine ⟨_, PT_175, Nat.le_of_ble_eq_true rfl, ?_⟩
  exact l_next ht hn9 hp (n - p) p H0 (by omega) h3 h5 h4 (fun _ _ _ _ _ _ _ => rfl) rfl
