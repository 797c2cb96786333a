variable {N : Int}
/-! ===== printed by wip/whole/gen83.py: pair: judge ===== -/
theorem kJ_kept {a j : Nat} (h1 : 22 ≤ a) (h2 : a ≤ 53) : kM a j = true := mM_kept h1 h2
/-- judged, and the scene is as it was -/
theorem judge_inv0 {μ V ν : Nat → Nat → Int} (hI : Inv N μ) (hV : rm kJ V = rm kJ μ) (hν : rm kM ν = rm kM V) (h131 : ν 131 = μ 131) (h34 : ν 118 34 = μ 118 34) (hsc : I_scene ν) (hl : I_last ν) : Inv N ν := by
  have h8 := hI.land.2.2.2.2.2.1.2
  have kc : ∀ a j, kM a j = true → ν a j = μ a j := fun a j h => (rm_cell hν h).trans (rm_cell hV (mM_mJ h))
  have kr : ∀ a, (∀ j, kM a j = true) → ν a = μ a := fun a h => by
    funext j
    exact kc a j (h j)
  have e6 := kr 6 (fun _ => rfl)
  refine Inv.mk (hI.tape.congr (kc 1 1 rfl) (kr 2 (fun _ => rfl)) (kc 118 2 rfl) (kr 119 (fun _ => rfl))) (hI.fault.congr (kc 3 2 rfl) (kc 118 15 rfl))
    (hI.land.congr e6 (kr 7 (fun _ => rfl)) (kr 8 (fun _ => rfl)) (kr 9 (fun _ => rfl)) (kr 10 (fun _ => rfl)) (fun j hj => kc 120 j (mM_120 (Or.inl hj))))
    hsc hl (hI.plan.congr e6 (kr 17 (fun _ => rfl)) (kr 18 (fun _ => rfl)) (kr 19 (fun _ => rfl)) (kr 20 (fun _ => rfl)) (fun j h1 _ => kc 120 j (mM_120 (Or.inr h1))))
    (hI.names.congr h8 e6 (kr 11 (fun _ => rfl)) (fun j _ => kc 123 j rfl)) (by rw [kr 14 (fun _ => rfl)]; exact hI.took) (hI.undo.congr e6 (kc 82 5 rfl) (kc 82 6 rfl) h34 (fun a h1 h2 => kr a (fun _ => mJ_past h1 h2)) h131) (hI.kept.congr (fun a h1 h2 => kr a (fun _ => mM_kept h1 h2)) (kr 138 (fun _ => rfl)) (kr 139 (fun _ => rfl)) (kr 140 (fun _ => rfl))) (hI.words.congr (kr 4 (fun _ => rfl)) (kr 124 (fun _ => rfl))) (hI.fresh.congr (kr 55 (fun _ => rfl)) (kr 60 (fun _ => rfl)) (kr 61 (fun _ => rfl))) (by unfold I_flag; rw [e6]; exact hI.flag)
/-- the verdicts agree -/
theorem judge_last {μ ν : Nat → Nat → Int} (h : I_last μ) (kc : ∀ a j, kM a j = true → (a < 14 ∨ (16 < a ∧ a < 82) ∨ (82 < a ∧ a < 88) ∨ 111 < a) → ν a j = μ a j) (v9 : ν 82 9 = 1) (v44 : ν 118 44 = 1) (hv : ∀ j, j < 6 → ν 136 j = ν 87 j) : I_last ν := by
  have kr : ∀ a, (∀ j, kM a j = true) → (a < 14 ∨ (16 < a ∧ a < 82) ∨ (82 < a ∧ a < 88) ∨ 111 < a) → ν a = μ a := fun a h1 h2 => by
    funext j
    exact kc a j (h1 j) h2
  obtain ⟨l1, l2, l3, -⟩ := h
  refine ⟨?_, ?_, ?_, Or.inr v9, v44.trans v9.symm, fun _ => hv⟩
  · rw [kc 0 14 rfl (by omega), kc 118 31 rfl (by omega), kr 130 (fun _ => rfl) (by omega), kr 116 (fun _ => rfl) (by omega)]; exact l1
  · rw [kc 0 16 rfl (by omega), kc 118 39 rfl (by omega), kr 135 (fun _ => rfl) (by omega), kr 117 (fun _ => rfl) (by omega)]; exact l2
  · rw [kc 112 5 rfl (by omega), kc 118 37 rfl (by omega), kr 134 (fun _ => rfl) (by omega), kr 115 (fun _ => rfl) (by omega)]; exact l3
theorem six {p : Nat → Prop} (h0 : p 0) (h1 : p 1) (h2 : p 2) (h3 : p 3) (h4 : p 4) (h5 : p 5) : ∀ j, j < 6 → p j := fun j hj => by
  rcases (show j = 0 ∨ j = 1 ∨ j = 2 ∨ j = 3 ∨ j = 4 ∨ j = 5 by omega) with rfl | rfl | rfl | rfl | rfl | rfl <;> assumption
set_option maxHeartbeats 4000000 in
theorem pair_44 : ∀ (a0 : Int), i32 a0 → (0 ≤ N ∧ N ≤ 511) → PairJ (Inv N) (Inv (N + 1)) 146 268 [mI a0] := by
  intro a0 ha0 hN μ c s hI
  have h8 := hI.land.2.2.2.2.2.1.2
  have hS := hI.scene
  obtain ⟨sd, -, -, s4, -, s6, hC, hH, s9, s10, s11, s12, s13⟩ := hS
  have hU := hI.undo
  obtain ⟨⟨u1, u2, u3⟩, u4, -⟩ := hU
  have hTk := hI.took
  have h14b := hI.scene.2.2.1
  by_cases hv : 0 ≤ a0 ∧ a0 ≤ 1
  · obtain ⟨j1, j2, j3, j4, j5, j6, j7⟩ := jr_ok hI.land hI.plan ((jOK_scene hI.scene h8).row rfl) (μ 17 0).toNat (by have := hI.plan.1; omega)
    have hpl := hI.plan.1
    rcases (show a0 = 0 ∨ a0 = 1 by omega) with rfl | rfl
    · skip
      obtain ⟨M, ⟨hM, ht⟩, hx⟩ := x_X11_judge_0 (c := c) (s := s) hI.land hI.scene hI.plan (by omega) (p := (μ 82 5 % 8).toNat) (by omega)
      have hMs : rm sup M = rm sup μ := hM
      have hVJ : rm kJ (vrd M (jr μ (tr (mub μ)) (μ 17 0).toNat).1 (jr μ (tr (mub μ)) (μ 17 0).toNat).2.1 (fS (jh (jr μ (tr (mub μ)) (μ 17 0).toNat).2.2) (μ 6 13).toNat) (μ 14 4)) = rm kJ μ := (rm_set rfl).trans ((rm_set rfl).trans ((rm_set rfl).trans ((rm_set rfl).trans ((rm_set rfl).trans ((rm_set rfl).trans ((rm_set rfl).trans (rst_mJ hM)))))))
      have xr : ∀ b, b = 6 ∨ b = 7 ∨ b = 8 ∨ b = 9 ∨ b = 10 ∨ b = 17 ∨ b = 18 ∨ b = 19 ∨ b = 20 ∨ b = 120 ∨ b = 131 → (vrd M (jr μ (tr (mub μ)) (μ 17 0).toNat).1 (jr μ (tr (mub μ)) (μ 17 0).toNat).2.1 (fS (jh (jr μ (tr (mub μ)) (μ 17 0).toNat).2.2) (μ 6 13).toNat) (μ 14 4)) b = μ b := fun b hb => by
        rcases hb with rfl | rfl | rfl | rfl | rfl | rfl | rfl | rfl | rfl | rfl | rfl <;> exact rm_row hVJ (fun _ => rfl)
      have x34 : (vrd M (jr μ (tr (mub μ)) (μ 17 0).toNat).1 (jr μ (tr (mub μ)) (μ 17 0).toNat).2.1 (fS (jh (jr μ (tr (mub μ)) (μ 17 0).toNat).2.2) (μ 6 13).toNat) (μ 14 4)) 118 34 = μ 118 34 := rm_cell hVJ rfl
      have x6 := xr 6 (by omega)
      have x120 := xr 120 (by omega)
      have hLX : I_land (vrd M (jr μ (tr (mub μ)) (μ 17 0).toNat).1 (jr μ (tr (mub μ)) (μ 17 0).toNat).2.1 (fS (jh (jr μ (tr (mub μ)) (μ 17 0).toNat).2.2) (μ 6 13).toNat) (μ 14 4)) := hI.land.congr x6 (xr 7 (by omega)) (xr 8 (by omega)) (xr 9 (by omega)) (xr 10 (by omega)) (fun j _ => by rw [x120])
      have hPX : I_plan (vrd M (jr μ (tr (mub μ)) (μ 17 0).toNat).1 (jr μ (tr (mub μ)) (μ 17 0).toNat).2.1 (fS (jh (jr μ (tr (mub μ)) (μ 17 0).toNat).2.2) (μ 6 13).toNat) (μ 14 4)) := hI.plan.congr x6 (xr 17 (by omega)) (xr 18 (by omega)) (xr 19 (by omega)) (xr 20 (by omega)) (fun j _ _ => by rw [x120])
      have hjX : jOK (vrd M (jr μ (tr (mub μ)) (μ 17 0).toNat).1 (jr μ (tr (mub μ)) (μ 17 0).toNat).2.1 (fS (jh (jr μ (tr (mub μ)) (μ 17 0).toNat).2.2) (μ 6 13).toNat) (μ 14 4)) (μ 14 4) 0 (tr (mub μ)) := (jOK_scene hI.scene h8).row x6
      have hwX : jw (tr (mub μ)) = -1 ↔ (vrd M (jr μ (tr (mub μ)) (μ 17 0).toNat).1 (jr μ (tr (mub μ)) (μ 17 0).toNat).2.1 (fS (jh (jr μ (tr (mub μ)) (μ 17 0).toNat).2.2) (μ 6 13).toNat) (μ 14 4)) 6 14 = -1 := by rw [x6]; exact s10
      have hMX : MS ((vrd M (jr μ (tr (mub μ)) (μ 17 0).toNat).1 (jr μ (tr (mub μ)) (μ 17 0).toNat).2.1 (fS (jh (jr μ (tr (mub μ)) (μ 17 0).toNat).2.2) (μ 6 13).toNat) (μ 14 4)) 6 13) ((vrd M (jr μ (tr (mub μ)) (μ 17 0).toNat).1 (jr μ (tr (mub μ)) (μ 17 0).toNat).2.1 (fS (jh (jr μ (tr (mub μ)) (μ 17 0).toNat).2.2) (μ 6 13).toNat) (μ 14 4)) 120) (tr (mub μ)) ((vrd M (jr μ (tr (mub μ)) (μ 17 0).toNat).1 (jr μ (tr (mub μ)) (μ 17 0).toNat).2.1 (fS (jh (jr μ (tr (mub μ)) (μ 17 0).toNat).2.2) (μ 6 13).toNat) (μ 14 4)) 120) := by
        rw [x6, x120]
        exact ⟨s4, fun j hj => ⟨(s9 j hj).1.trans (mub_84 (by omega)).symm, (s9 j hj).2.trans (mub_85 (by omega)).symm⟩, hI.scene.2.2.2.2.1, s6, fun _ _ => rfl⟩
      have h34X : 0 ≤ (vrd M (jr μ (tr (mub μ)) (μ 17 0).toNat).1 (jr μ (tr (mub μ)) (μ 17 0).toNat).2.1 (fS (jh (jr μ (tr (mub μ)) (μ 17 0).toNat).2.2) (μ 6 13).toNat) (μ 14 4)) 118 34 ∧ (vrd M (jr μ (tr (mub μ)) (μ 17 0).toNat).1 (jr μ (tr (mub μ)) (μ 17 0).toNat).2.1 (fS (jh (jr μ (tr (mub μ)) (μ 17 0).toNat).2.2) (μ 6 13).toNat) (μ 14 4)) 118 34 ≤ 8 := by rw [x34, u4]; exact u1
      have hjr : jr (vrd M (jr μ (tr (mub μ)) (μ 17 0).toNat).1 (jr μ (tr (mub μ)) (μ 17 0).toNat).2.1 (fS (jh (jr μ (tr (mub μ)) (μ 17 0).toNat).2.2) (μ 6 13).toNat) (μ 14 4)) (tr (mub μ)) ((vrd M (jr μ (tr (mub μ)) (μ 17 0).toNat).1 (jr μ (tr (mub μ)) (μ 17 0).toNat).2.1 (fS (jh (jr μ (tr (mub μ)) (μ 17 0).toNat).2.2) (μ 6 13).toNat) (μ 14 4)) 17 0).toNat = (jr μ (tr (mub μ)) (μ 17 0).toNat) := by rw [xr 17 (by omega), jr_rows x6 (xr 7 (by omega)) (xr 8 (by omega)) (xr 10 (by omega)) (xr 18 (by omega)) (xr 19 (by omega)) (xr 20 (by omega))]
      have hm0 := x_X12_judge_0 (μ := (vrd M (jr μ (tr (mub μ)) (μ 17 0).toNat).1 (jr μ (tr (mub μ)) (μ 17 0).toNat).2.1 (fS (jh (jr μ (tr (mub μ)) (μ 17 0).toNat).2.2) (μ 6 13).toNat) (μ 14 4))) (c := c) (s := s) hLX hPX (T := μ 14 4) (by omega) (s0 := tr (mub μ)) hjX hwX hMX h34X
      obtain ⟨ν, ⟨hvd, hkk, hcase⟩, hm⟩ := hm0.ex (g := fun ν => (some (some (mI (if (jr (vrd M (jr μ (tr (mub μ)) (μ 17 0).toNat).1 (jr μ (tr (mub μ)) (μ 17 0).toNat).2.1 (fS (jh (jr μ (tr (mub μ)) (μ 17 0).toNat).2.2) (μ 6 13).toNat) (μ 14 4)) (tr (mub μ)) ((vrd M (jr μ (tr (mub μ)) (μ 17 0).toNat).1 (jr μ (tr (mub μ)) (μ 17 0).toNat).2.1 (fS (jh (jr μ (tr (mub μ)) (μ 17 0).toNat).2.2) (μ 6 13).toNat) (μ 14 4)) 17 0).toNat).1 = 0 then -1 else (jr (vrd M (jr μ (tr (mub μ)) (μ 17 0).toNat).1 (jr μ (tr (mub μ)) (μ 17 0).toNat).2.1 (fS (jh (jr μ (tr (mub μ)) (μ 17 0).toNat).2.2) (μ 6 13).toNat) (μ 14 4)) (tr (mub μ)) ((vrd M (jr μ (tr (mub μ)) (μ 17 0).toNat).1 (jr μ (tr (mub μ)) (μ 17 0).toNat).2.1 (fS (jh (jr μ (tr (mub μ)) (μ 17 0).toNat).2.2) (μ 6 13).toNat) (μ 14 4)) 17 0).toNat).2.1))), mkh ν c s))
      unfold VDF at hvd
      rw [hjr] at hvd hm
      have hkc : ∀ a j, kM a j = true → (a < 14 ∨ (16 < a ∧ a < 82) ∨ (82 < a ∧ a < 88) ∨ 111 < a) → ν a j = μ a j := fun a j h h2 => (rm_cell (kK_kM hkk) h).trans (rm_cell hVJ (mM_mJ h))
      have v9 : ν 82 9 = 1 := (rm_cell hkk rfl).trans rfl
      have v87 : ν 87 = (vrd M (jr μ (tr (mub μ)) (μ 17 0).toNat).1 (jr μ (tr (mub μ)) (μ 17 0).toNat).2.1 (fS (jh (jr μ (tr (mub μ)) (μ 17 0).toNat).2.2) (μ 6 13).toNat) (μ 14 4)) 87 := (rm_row hkk (fun _ => rfl)).trans rfl
      have e83 : M 83 0 = jd (jr μ (tr (mub μ)) (μ 17 0).toNat).2.2 ∧ M 82 7 = js (jr μ (tr (mub μ)) (μ 17 0).toNat).2.2 ∧ M 83 4 = jt (jr μ (tr (mub μ)) (μ 17 0).toNat).2.2 := by rw [← ht]; exact ⟨rfl, rfl, rfl⟩
      have hla : I_last ν := judge_last hI.last hkc v9 hvd.1 (six (by rw [v87, hvd.2.1]; rfl) (by rw [v87, hvd.2.2.1]; rfl) (by rw [v87, hvd.2.2.2.1]; exact e83.1.symm) (by rw [v87, hvd.2.2.2.2.1, x6]; rfl) (by rw [v87, hvd.2.2.2.2.2.1]; exact e83.2.1.symm) (by rw [v87, hvd.2.2.2.2.2.2]; show _ = M 83 4 - μ 14 4; rw [e83.2.2]; rfl))
      refine ⟨_, _, ν, hx, hm, (judge_inv0 hI hVJ (kK_kM hkk) (hcase.2.1.trans (xr 131 (by omega))) (hcase.2.2.trans x34) ?_ hla).le (by omega)⟩
      have n120 : ν 120 = μ 120 := hcase.1.trans x120
      have nr : ∀ a, (∀ j, kM a j = true) → ν a = μ a := fun a h => by
        funext j
        exact (rm_cell (kK_kM hkk) (h j)).trans (rm_cell hVJ (mM_mJ (h j)))
      exact hI.scene.congr (nr 6 (fun _ => rfl)) (nr 14 (fun _ => rfl)) (nr 15 (fun _ => rfl)) (nr 16 (fun _ => rfl)) n120
    · by_cases hz : (jr μ (tr (mub μ)) (μ 17 0).toNat).2.1 ≤ 0
      · skip
        obtain ⟨M, ⟨hM, ht⟩, hx⟩ := x_X11_judge_1n (c := c) (s := s) hI.land hI.scene hI.plan (by omega) (p := (μ 82 5 % 8).toNat) (by omega) hz
        have hMs : rm sup M = rm sup μ := hM
        have hVJ : rm kJ (vrd M (jr μ (tr (mub μ)) (μ 17 0).toNat).1 (jr μ (tr (mub μ)) (μ 17 0).toNat).2.1 (fS (jh (jr μ (tr (mub μ)) (μ 17 0).toNat).2.2) (μ 6 13).toNat) (μ 14 4)) = rm kJ μ := (rm_set rfl).trans ((rm_set rfl).trans ((rm_set rfl).trans ((rm_set rfl).trans ((rm_set rfl).trans ((rm_set rfl).trans ((rm_set rfl).trans (rst_mJ hM)))))))
        have xr : ∀ b, b = 6 ∨ b = 7 ∨ b = 8 ∨ b = 9 ∨ b = 10 ∨ b = 17 ∨ b = 18 ∨ b = 19 ∨ b = 20 ∨ b = 120 ∨ b = 131 → (vrd M (jr μ (tr (mub μ)) (μ 17 0).toNat).1 (jr μ (tr (mub μ)) (μ 17 0).toNat).2.1 (fS (jh (jr μ (tr (mub μ)) (μ 17 0).toNat).2.2) (μ 6 13).toNat) (μ 14 4)) b = μ b := fun b hb => by
          rcases hb with rfl | rfl | rfl | rfl | rfl | rfl | rfl | rfl | rfl | rfl | rfl <;> exact rm_row hVJ (fun _ => rfl)
        have x34 : (vrd M (jr μ (tr (mub μ)) (μ 17 0).toNat).1 (jr μ (tr (mub μ)) (μ 17 0).toNat).2.1 (fS (jh (jr μ (tr (mub μ)) (μ 17 0).toNat).2.2) (μ 6 13).toNat) (μ 14 4)) 118 34 = μ 118 34 := rm_cell hVJ rfl
        have x6 := xr 6 (by omega)
        have x120 := xr 120 (by omega)
        have hLX : I_land (vrd M (jr μ (tr (mub μ)) (μ 17 0).toNat).1 (jr μ (tr (mub μ)) (μ 17 0).toNat).2.1 (fS (jh (jr μ (tr (mub μ)) (μ 17 0).toNat).2.2) (μ 6 13).toNat) (μ 14 4)) := hI.land.congr x6 (xr 7 (by omega)) (xr 8 (by omega)) (xr 9 (by omega)) (xr 10 (by omega)) (fun j _ => by rw [x120])
        have hPX : I_plan (vrd M (jr μ (tr (mub μ)) (μ 17 0).toNat).1 (jr μ (tr (mub μ)) (μ 17 0).toNat).2.1 (fS (jh (jr μ (tr (mub μ)) (μ 17 0).toNat).2.2) (μ 6 13).toNat) (μ 14 4)) := hI.plan.congr x6 (xr 17 (by omega)) (xr 18 (by omega)) (xr 19 (by omega)) (xr 20 (by omega)) (fun j _ _ => by rw [x120])
        have hjX : jOK (vrd M (jr μ (tr (mub μ)) (μ 17 0).toNat).1 (jr μ (tr (mub μ)) (μ 17 0).toNat).2.1 (fS (jh (jr μ (tr (mub μ)) (μ 17 0).toNat).2.2) (μ 6 13).toNat) (μ 14 4)) (μ 14 4) 0 (tr (mub μ)) := (jOK_scene hI.scene h8).row x6
        have hwX : jw (tr (mub μ)) = -1 ↔ (vrd M (jr μ (tr (mub μ)) (μ 17 0).toNat).1 (jr μ (tr (mub μ)) (μ 17 0).toNat).2.1 (fS (jh (jr μ (tr (mub μ)) (μ 17 0).toNat).2.2) (μ 6 13).toNat) (μ 14 4)) 6 14 = -1 := by rw [x6]; exact s10
        have hMX : MS ((vrd M (jr μ (tr (mub μ)) (μ 17 0).toNat).1 (jr μ (tr (mub μ)) (μ 17 0).toNat).2.1 (fS (jh (jr μ (tr (mub μ)) (μ 17 0).toNat).2.2) (μ 6 13).toNat) (μ 14 4)) 6 13) ((vrd M (jr μ (tr (mub μ)) (μ 17 0).toNat).1 (jr μ (tr (mub μ)) (μ 17 0).toNat).2.1 (fS (jh (jr μ (tr (mub μ)) (μ 17 0).toNat).2.2) (μ 6 13).toNat) (μ 14 4)) 120) (tr (mub μ)) ((vrd M (jr μ (tr (mub μ)) (μ 17 0).toNat).1 (jr μ (tr (mub μ)) (μ 17 0).toNat).2.1 (fS (jh (jr μ (tr (mub μ)) (μ 17 0).toNat).2.2) (μ 6 13).toNat) (μ 14 4)) 120) := by
          rw [x6, x120]
          exact ⟨s4, fun j hj => ⟨(s9 j hj).1.trans (mub_84 (by omega)).symm, (s9 j hj).2.trans (mub_85 (by omega)).symm⟩, hI.scene.2.2.2.2.1, s6, fun _ _ => rfl⟩
        have h34X : 0 ≤ (vrd M (jr μ (tr (mub μ)) (μ 17 0).toNat).1 (jr μ (tr (mub μ)) (μ 17 0).toNat).2.1 (fS (jh (jr μ (tr (mub μ)) (μ 17 0).toNat).2.2) (μ 6 13).toNat) (μ 14 4)) 118 34 ∧ (vrd M (jr μ (tr (mub μ)) (μ 17 0).toNat).1 (jr μ (tr (mub μ)) (μ 17 0).toNat).2.1 (fS (jh (jr μ (tr (mub μ)) (μ 17 0).toNat).2.2) (μ 6 13).toNat) (μ 14 4)) 118 34 ≤ 8 := by rw [x34, u4]; exact u1
        have hjr : jr (vrd M (jr μ (tr (mub μ)) (μ 17 0).toNat).1 (jr μ (tr (mub μ)) (μ 17 0).toNat).2.1 (fS (jh (jr μ (tr (mub μ)) (μ 17 0).toNat).2.2) (μ 6 13).toNat) (μ 14 4)) (tr (mub μ)) ((vrd M (jr μ (tr (mub μ)) (μ 17 0).toNat).1 (jr μ (tr (mub μ)) (μ 17 0).toNat).2.1 (fS (jh (jr μ (tr (mub μ)) (μ 17 0).toNat).2.2) (μ 6 13).toNat) (μ 14 4)) 17 0).toNat = (jr μ (tr (mub μ)) (μ 17 0).toNat) := by rw [xr 17 (by omega), jr_rows x6 (xr 7 (by omega)) (xr 8 (by omega)) (xr 10 (by omega)) (xr 18 (by omega)) (xr 19 (by omega)) (xr 20 (by omega))]
        have hm0 := x_X12_judge_1n (μ := (vrd M (jr μ (tr (mub μ)) (μ 17 0).toNat).1 (jr μ (tr (mub μ)) (μ 17 0).toNat).2.1 (fS (jh (jr μ (tr (mub μ)) (μ 17 0).toNat).2.2) (μ 6 13).toNat) (μ 14 4))) (c := c) (s := s) hLX hPX (T := μ 14 4) (by omega) (s0 := tr (mub μ)) hjX hwX hMX h34X (by rw [hjr]; exact hz)
        obtain ⟨ν, ⟨hvd, hkk, hcase⟩, hm⟩ := hm0.ex (g := fun ν => (some (some (mI (if (jr (vrd M (jr μ (tr (mub μ)) (μ 17 0).toNat).1 (jr μ (tr (mub μ)) (μ 17 0).toNat).2.1 (fS (jh (jr μ (tr (mub μ)) (μ 17 0).toNat).2.2) (μ 6 13).toNat) (μ 14 4)) (tr (mub μ)) ((vrd M (jr μ (tr (mub μ)) (μ 17 0).toNat).1 (jr μ (tr (mub μ)) (μ 17 0).toNat).2.1 (fS (jh (jr μ (tr (mub μ)) (μ 17 0).toNat).2.2) (μ 6 13).toNat) (μ 14 4)) 17 0).toNat).1 = 0 then -1 else (jr (vrd M (jr μ (tr (mub μ)) (μ 17 0).toNat).1 (jr μ (tr (mub μ)) (μ 17 0).toNat).2.1 (fS (jh (jr μ (tr (mub μ)) (μ 17 0).toNat).2.2) (μ 6 13).toNat) (μ 14 4)) (tr (mub μ)) ((vrd M (jr μ (tr (mub μ)) (μ 17 0).toNat).1 (jr μ (tr (mub μ)) (μ 17 0).toNat).2.1 (fS (jh (jr μ (tr (mub μ)) (μ 17 0).toNat).2.2) (μ 6 13).toNat) (μ 14 4)) 17 0).toNat).2.1))), mkh ν c s))
        unfold VDF at hvd
        rw [hjr] at hvd hm
        have hkc : ∀ a j, kM a j = true → (a < 14 ∨ (16 < a ∧ a < 82) ∨ (82 < a ∧ a < 88) ∨ 111 < a) → ν a j = μ a j := fun a j h h2 => (rm_cell (kK_kM hkk) h).trans (rm_cell hVJ (mM_mJ h))
        have v9 : ν 82 9 = 1 := (rm_cell hkk rfl).trans rfl
        have v87 : ν 87 = (vrd M (jr μ (tr (mub μ)) (μ 17 0).toNat).1 (jr μ (tr (mub μ)) (μ 17 0).toNat).2.1 (fS (jh (jr μ (tr (mub μ)) (μ 17 0).toNat).2.2) (μ 6 13).toNat) (μ 14 4)) 87 := (rm_row hkk (fun _ => rfl)).trans rfl
        have e83 : M 83 0 = jd (jr μ (tr (mub μ)) (μ 17 0).toNat).2.2 ∧ M 82 7 = js (jr μ (tr (mub μ)) (μ 17 0).toNat).2.2 ∧ M 83 4 = jt (jr μ (tr (mub μ)) (μ 17 0).toNat).2.2 := by rw [← ht]; exact ⟨rfl, rfl, rfl⟩
        have hla : I_last ν := judge_last hI.last hkc v9 hvd.1 (six (by rw [v87, hvd.2.1]; rfl) (by rw [v87, hvd.2.2.1]; rfl) (by rw [v87, hvd.2.2.2.1]; exact e83.1.symm) (by rw [v87, hvd.2.2.2.2.1, x6]; rfl) (by rw [v87, hvd.2.2.2.2.2.1]; exact e83.2.1.symm) (by rw [v87, hvd.2.2.2.2.2.2]; show _ = M 83 4 - μ 14 4; rw [e83.2.2]; rfl))
        have nr : ∀ a, (∀ j, kM a j = true) → ν a = μ a := fun a h => by
          funext j
          exact (rm_cell (kK_kM hkk) (h j)).trans (rm_cell hVJ (mM_mJ (h j)))
        refine ⟨_, _, ν, hx, hm, (judge_inv0 hI hVJ (kK_kM hkk) (hcase.2.1.trans (xr 131 (by omega))) (hcase.2.2.trans x34) ?_ hla).le (by omega)⟩
        have hms := hcase.1
        rw [hjr, x6, x120, j7 (by omega)] at hms
        obtain ⟨w1, w2, w3, w4, w5⟩ := hms
        unfold I_scene
        rw [nr 6 (fun _ => rfl), nr 14 (fun _ => rfl), nr 15 (fun _ => rfl), nr 16 (fun _ => rfl)]
        exact ⟨sd, hI.scene.2.1, hI.scene.2.2.1, w1, w3, w4, hC, hH, fun j hj => ⟨(w2 j hj).1.trans (mub_84 (by omega)), (w2 j hj).2.trans (mub_85 (by omega))⟩, s10, s11, s12, s13⟩
      · skip
        obtain ⟨M, ⟨hM, ht⟩, hx⟩ := x_X11_judge_1y (c := c) (s := s) hI.land hI.scene hI.plan (by omega) (p := (μ 82 5 % 8).toNat) (by omega) hz
        have hMs : rm sup M = rm sup μ := hM
        have hVJ : rm kJ (vrd M (jr μ (tr (mub μ)) (μ 17 0).toNat).1 (jr μ (tr (mub μ)) (μ 17 0).toNat).2.1 (fS (jh (jr μ (tr (mub μ)) (μ 17 0).toNat).2.2) (μ 6 13).toNat) (μ 14 4)) = rm kJ μ := (rm_set rfl).trans ((rm_set rfl).trans ((rm_set rfl).trans ((rm_set rfl).trans ((rm_set rfl).trans ((rm_set rfl).trans ((rm_set rfl).trans (rst_mJ hM)))))))
        have hp8 : (μ 82 5 % 8).toNat < 8 := by omega
        have xr : ∀ b, b = 6 ∨ b = 7 ∨ b = 8 ∨ b = 9 ∨ b = 10 ∨ b = 17 ∨ b = 18 ∨ b = 19 ∨ b = 20 ∨ b = 120 ∨ b = 131 → (stl (vrd M (jr μ (tr (mub μ)) (μ 17 0).toNat).1 (jr μ (tr (mub μ)) (μ 17 0).toNat).2.1 (fS (jh (jr μ (tr (mub μ)) (μ 17 0).toNat).2.2) (μ 6 13).toNat) (μ 14 4)) (μ 82 5 % 8).toNat) b = μ b := fun b hb => by
          rw [stl_o hp8 (by omega)]
          rcases hb with rfl | rfl | rfl | rfl | rfl | rfl | rfl | rfl | rfl | rfl | rfl <;> exact rm_row hVJ (fun _ => rfl)
        have x34 : (stl (vrd M (jr μ (tr (mub μ)) (μ 17 0).toNat).1 (jr μ (tr (mub μ)) (μ 17 0).toNat).2.1 (fS (jh (jr μ (tr (mub μ)) (μ 17 0).toNat).2.2) (μ 6 13).toNat) (μ 14 4)) (μ 82 5 % 8).toNat) 118 34 = μ 118 34 := by
          rw [stl_o hp8 (by omega)]
          exact rm_cell hVJ rfl
        have x6 := xr 6 (by omega)
        have x120 := xr 120 (by omega)
        have hLX : I_land (stl (vrd M (jr μ (tr (mub μ)) (μ 17 0).toNat).1 (jr μ (tr (mub μ)) (μ 17 0).toNat).2.1 (fS (jh (jr μ (tr (mub μ)) (μ 17 0).toNat).2.2) (μ 6 13).toNat) (μ 14 4)) (μ 82 5 % 8).toNat) := hI.land.congr x6 (xr 7 (by omega)) (xr 8 (by omega)) (xr 9 (by omega)) (xr 10 (by omega)) (fun j _ => by rw [x120])
        have hPX : I_plan (stl (vrd M (jr μ (tr (mub μ)) (μ 17 0).toNat).1 (jr μ (tr (mub μ)) (μ 17 0).toNat).2.1 (fS (jh (jr μ (tr (mub μ)) (μ 17 0).toNat).2.2) (μ 6 13).toNat) (μ 14 4)) (μ 82 5 % 8).toNat) := hI.plan.congr x6 (xr 17 (by omega)) (xr 18 (by omega)) (xr 19 (by omega)) (xr 20 (by omega)) (fun j _ _ => by rw [x120])
        have hjX : jOK (stl (vrd M (jr μ (tr (mub μ)) (μ 17 0).toNat).1 (jr μ (tr (mub μ)) (μ 17 0).toNat).2.1 (fS (jh (jr μ (tr (mub μ)) (μ 17 0).toNat).2.2) (μ 6 13).toNat) (μ 14 4)) (μ 82 5 % 8).toNat) (μ 14 4) 0 (tr (mub μ)) := (jOK_scene hI.scene h8).row x6
        have hwX : jw (tr (mub μ)) = -1 ↔ (stl (vrd M (jr μ (tr (mub μ)) (μ 17 0).toNat).1 (jr μ (tr (mub μ)) (μ 17 0).toNat).2.1 (fS (jh (jr μ (tr (mub μ)) (μ 17 0).toNat).2.2) (μ 6 13).toNat) (μ 14 4)) (μ 82 5 % 8).toNat) 6 14 = -1 := by rw [x6]; exact s10
        have hMX : MS ((stl (vrd M (jr μ (tr (mub μ)) (μ 17 0).toNat).1 (jr μ (tr (mub μ)) (μ 17 0).toNat).2.1 (fS (jh (jr μ (tr (mub μ)) (μ 17 0).toNat).2.2) (μ 6 13).toNat) (μ 14 4)) (μ 82 5 % 8).toNat) 6 13) ((stl (vrd M (jr μ (tr (mub μ)) (μ 17 0).toNat).1 (jr μ (tr (mub μ)) (μ 17 0).toNat).2.1 (fS (jh (jr μ (tr (mub μ)) (μ 17 0).toNat).2.2) (μ 6 13).toNat) (μ 14 4)) (μ 82 5 % 8).toNat) 120) (tr (mub μ)) ((stl (vrd M (jr μ (tr (mub μ)) (μ 17 0).toNat).1 (jr μ (tr (mub μ)) (μ 17 0).toNat).2.1 (fS (jh (jr μ (tr (mub μ)) (μ 17 0).toNat).2.2) (μ 6 13).toNat) (μ 14 4)) (μ 82 5 % 8).toNat) 120) := by
          rw [x6, x120]
          exact ⟨s4, fun j hj => ⟨(s9 j hj).1.trans (mub_84 (by omega)).symm, (s9 j hj).2.trans (mub_85 (by omega)).symm⟩, hI.scene.2.2.2.2.1, s6, fun _ _ => rfl⟩
        have h34X : 0 ≤ (stl (vrd M (jr μ (tr (mub μ)) (μ 17 0).toNat).1 (jr μ (tr (mub μ)) (μ 17 0).toNat).2.1 (fS (jh (jr μ (tr (mub μ)) (μ 17 0).toNat).2.2) (μ 6 13).toNat) (μ 14 4)) (μ 82 5 % 8).toNat) 118 34 ∧ (stl (vrd M (jr μ (tr (mub μ)) (μ 17 0).toNat).1 (jr μ (tr (mub μ)) (μ 17 0).toNat).2.1 (fS (jh (jr μ (tr (mub μ)) (μ 17 0).toNat).2.2) (μ 6 13).toNat) (μ 14 4)) (μ 82 5 % 8).toNat) 118 34 ≤ 8 := by rw [x34, u4]; exact u1
        have hjr : jr (stl (vrd M (jr μ (tr (mub μ)) (μ 17 0).toNat).1 (jr μ (tr (mub μ)) (μ 17 0).toNat).2.1 (fS (jh (jr μ (tr (mub μ)) (μ 17 0).toNat).2.2) (μ 6 13).toNat) (μ 14 4)) (μ 82 5 % 8).toNat) (tr (mub μ)) ((stl (vrd M (jr μ (tr (mub μ)) (μ 17 0).toNat).1 (jr μ (tr (mub μ)) (μ 17 0).toNat).2.1 (fS (jh (jr μ (tr (mub μ)) (μ 17 0).toNat).2.2) (μ 6 13).toNat) (μ 14 4)) (μ 82 5 % 8).toNat) 17 0).toNat = (jr μ (tr (mub μ)) (μ 17 0).toNat) := by rw [xr 17 (by omega), jr_rows x6 (xr 7 (by omega)) (xr 8 (by omega)) (xr 10 (by omega)) (xr 18 (by omega)) (xr 19 (by omega)) (xr 20 (by omega))]
        have hm0 := x_X12_judge_1y (μ := (stl (vrd M (jr μ (tr (mub μ)) (μ 17 0).toNat).1 (jr μ (tr (mub μ)) (μ 17 0).toNat).2.1 (fS (jh (jr μ (tr (mub μ)) (μ 17 0).toNat).2.2) (μ 6 13).toNat) (μ 14 4)) (μ 82 5 % 8).toNat)) (c := c) (s := s) hLX hPX (T := μ 14 4) (by omega) (s0 := tr (mub μ)) hjX hwX hMX h34X (by rw [hjr]; exact hz)
        obtain ⟨ν, ⟨hvd, hkk, hcase⟩, hm⟩ := hm0.ex (g := fun ν => (some (some (mI (if (jr (stl (vrd M (jr μ (tr (mub μ)) (μ 17 0).toNat).1 (jr μ (tr (mub μ)) (μ 17 0).toNat).2.1 (fS (jh (jr μ (tr (mub μ)) (μ 17 0).toNat).2.2) (μ 6 13).toNat) (μ 14 4)) (μ 82 5 % 8).toNat) (tr (mub μ)) ((stl (vrd M (jr μ (tr (mub μ)) (μ 17 0).toNat).1 (jr μ (tr (mub μ)) (μ 17 0).toNat).2.1 (fS (jh (jr μ (tr (mub μ)) (μ 17 0).toNat).2.2) (μ 6 13).toNat) (μ 14 4)) (μ 82 5 % 8).toNat) 17 0).toNat).1 = 0 then -1 else (jr (stl (vrd M (jr μ (tr (mub μ)) (μ 17 0).toNat).1 (jr μ (tr (mub μ)) (μ 17 0).toNat).2.1 (fS (jh (jr μ (tr (mub μ)) (μ 17 0).toNat).2.2) (μ 6 13).toNat) (μ 14 4)) (μ 82 5 % 8).toNat) (tr (mub μ)) ((stl (vrd M (jr μ (tr (mub μ)) (μ 17 0).toNat).1 (jr μ (tr (mub μ)) (μ 17 0).toNat).2.1 (fS (jh (jr μ (tr (mub μ)) (μ 17 0).toNat).2.2) (μ 6 13).toNat) (μ 14 4)) (μ 82 5 % 8).toNat) 17 0).toNat).2.1))), mkh ν c s))
        unfold VDF at hvd
        rw [hjr] at hvd hm
        have hkc : ∀ a j, kM a j = true → (a < 14 ∨ (16 < a ∧ a < 82) ∨ (82 < a ∧ a < 88) ∨ 111 < a) → ν a j = μ a j := fun a j h h2 => (rm_cell (kK_kM hkk) h).trans (by rw [stl_o hp8 h2]; exact rm_cell hVJ (mM_mJ h))
        have v9 : ν 82 9 = 1 := (rm_cell hkk rfl).trans (by rw [stl_82, if_neg (by decide), if_neg (by decide)]; rfl)
        have v87 : ν 87 = (vrd M (jr μ (tr (mub μ)) (μ 17 0).toNat).1 (jr μ (tr (mub μ)) (μ 17 0).toNat).2.1 (fS (jh (jr μ (tr (mub μ)) (μ 17 0).toNat).2.2) (μ 6 13).toNat) (μ 14 4)) 87 := (rm_row hkk (fun _ => rfl)).trans (stl_o hp8 (by omega))
        have e83 : M 83 0 = jd (jr μ (tr (mub μ)) (μ 17 0).toNat).2.2 ∧ M 82 7 = js (jr μ (tr (mub μ)) (μ 17 0).toNat).2.2 ∧ M 83 4 = jt (jr μ (tr (mub μ)) (μ 17 0).toNat).2.2 := by rw [← ht]; exact ⟨rfl, rfl, rfl⟩
        have hla : I_last ν := judge_last hI.last hkc v9 hvd.1 (six (by rw [v87, hvd.2.1]; rfl) (by rw [v87, hvd.2.2.1]; rfl) (by rw [v87, hvd.2.2.2.1]; exact e83.1.symm) (by rw [v87, hvd.2.2.2.2.1, x6]; rfl) (by rw [v87, hvd.2.2.2.2.2.1]; exact e83.2.1.symm) (by rw [v87, hvd.2.2.2.2.2.2]; show _ = M 83 4 - μ 14 4; rw [e83.2.2]; rfl))
        have hms := hcase.1
        have hK := hcase.2
        rw [hjr, x6, x120] at hms
        rw [x120, xr 131 (by omega), x34, u4] at hK
        refine ⟨_, _, ν, hx, hm, act_inv (M := (vrd M (jr μ (tr (mub μ)) (μ 17 0).toNat).1 (jr μ (tr (mub μ)) (μ 17 0).toNat).2.1 (fS (jh (jr μ (tr (mub μ)) (μ 17 0).toNat).2.2) (μ 6 13).toNat) (μ 14 4))) hI hN hVJ (p := (μ 82 5 % 8).toNat) (by omega) (kK_kM hkk) ?_ hK hla⟩
        have t83 : (vrd M (jr μ (tr (mub μ)) (μ 17 0).toNat).1 (jr μ (tr (mub μ)) (μ 17 0).toNat).2.1 (fS (jh (jr μ (tr (mub μ)) (μ 17 0).toNat).2.2) (μ 6 13).toNat) (μ 14 4)) 83 = M 83 := rfl
        have t84 : (vrd M (jr μ (tr (mub μ)) (μ 17 0).toNat).1 (jr μ (tr (mub μ)) (μ 17 0).toNat).2.1 (fS (jh (jr μ (tr (mub μ)) (μ 17 0).toNat).2.2) (μ 6 13).toNat) (μ 14 4)) 84 = jc (jr μ (tr (mub μ)) (μ 17 0).toNat).2.2 := by rw [← ht]; rfl
        have t85 : (vrd M (jr μ (tr (mub μ)) (μ 17 0).toNat).1 (jr μ (tr (mub μ)) (μ 17 0).toNat).2.1 (fS (jh (jr μ (tr (mub μ)) (μ 17 0).toNat).2.2) (μ 6 13).toNat) (μ 14 4)) 85 = jh (jr μ (tr (mub μ)) (μ 17 0).toNat).2.2 := by rw [← ht]; rfl
        have e3 : M 83 3 = jw (jr μ (tr (mub μ)) (μ 17 0).toNat).2.2 := by rw [← ht]
        obtain ⟨k1, k2, k3, k4, k5, k6⟩ := j1
        have k1 : 0 ≤ jd (jr μ (tr (mub μ)) (μ 17 0).toNat).2.2 ∧ jd (jr μ (tr (mub μ)) (μ 17 0).toNat).2.2 ≤ 29 := k1
        have k5 : 0 ≤ jt (jr μ (tr (mub μ)) (μ 17 0).toNat).2.2 ∧ jt (jr μ (tr (mub μ)) (μ 17 0).toNat).2.2 ≤ μ 14 4 + 20 * ((μ 17 0).toNat : Int) := k5
        have k4 : jw (jr μ (tr (mub μ)) (μ 17 0).toNat).2.2 = -1 ∨ g_cell μ (jw (jr μ (tr (mub μ)) (μ 17 0).toNat).2.2) := k4
        have j4' : jw (jr μ (tr (mub μ)) (μ 17 0).toNat).2.2 = -1 ↔ μ 14 3 = -1 := j4
        obtain ⟨w1, w2, w3, w4, w5⟩ := hms
        rw [t83, t84, t85]
        refine SC_mk ?_ ?_ ?_ ?_ ?_ ?_ (fun j hj => ?_) (fun j hj => ?_) (fun j hj => ?_) ?_ (fun j hj => ?_) ?_
        · rw [e83.1]; exact k1
        · rw [e3]
          rcases k4 with z | z
          · omega
          · have := g_cell_b hI.land z; omega
        · rw [e83.2.2]; omega
        · rw [e83.1]; exact w1
        · rw [e3]; exact w3
        · rw [e83.2.2]; exact w4
        · by_cases hjh : (j : Int) < μ 6 13
          · have := g_cell_b hI.land (k2 j hjh); omega
          · rw [(j5 j (by omega)).1]
            show 0 ≤ mub μ 84 j ∧ mub μ 84 j ≤ 99
            rw [mub_84 hj]; exact hC j
        · by_cases hjh : (j : Int) < μ 6 13
          · exact k3 j hjh
          · rw [(j5 j (by omega)).2]
            show 0 ≤ mub μ 85 j ∧ mub μ 85 j ≤ 99
            rw [mub_85 hj]; exact hH j
        · show ν 120 (517 + (1 + j)) = _ ∧ ν 120 (517 + (9 + j)) = _
          rw [show 517 + (1 + j) = 518 + j by omega, show 517 + (9 + j) = 526 + j by omega]
          exact w2 j hj
        · rw [e3]; exact j4'.trans s10
        · exact (k2 j hj).2
        · rw [e3]; exact k4.imp_right (fun z => z.2)
  · exact ⟨-2, μ, _, i_X11_judge hv, i_X12_judge hv, (hI.set rfl).le (by omega)⟩
