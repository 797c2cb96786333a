/-! ===== printed by wip/whole/gen9r.py: all pairs; the pure claim ===== -/
variable {N : Int}
theorem pair_22 : ∀ (a0 a1 : Int), i32 a0 → i32 a1 → PairI (Inv N) 132 233 [mI a0, mI a1] := by
  intro a0 a1 _ _
  exact pair_of (fun ν => if (0 ≤ a0 ∧ a0 < ν 6 13) ∧ 0 ≤ a1 ∧ a1 < ν 6 13 then fF (fun n => bI (g_hit ν (m_shl 1 a0) n) a1.toNat = true) 0 8 else -1) (fun μ c s hI => t_X11_handed hI.land hI.scene) (fun μ c s hI => t_X12_handed hI.land hI.scene) (fun μ ν h => by
    have e6 := row_rst h (a := 6) (fun _ => rfl)
    have em := g_more_rows e6 (row_rst h (a := 7) (fun _ => rfl)) (row_rst h (a := 10) (fun _ => rfl)) (row_rst h (a := 14) (fun _ => rfl)) (row_rst h (a := 15) (fun _ => rfl)) (row_rst h (a := 16) (fun _ => rfl))
    simp only [e6, g_hit_rows em])
theorem pair_23 : PairI (Inv N) 133 234 [] := by
  exact pair_of (fun ν => (FI ν (ν 6 13).toNat).1) (fun μ c s hI => t_X11_fires hI.land hI.scene) (fun μ c s hI => t_X12_fires hI.land hI.scene) (fun μ ν h => by
    have e6 := row_rst h (a := 6) (fun _ => rfl)
    have em := g_more_rows e6 (row_rst h (a := 7) (fun _ => rfl)) (row_rst h (a := 10) (fun _ => rfl)) (row_rst h (a := 14) (fun _ => rfl)) (row_rst h (a := 15) (fun _ => rfl)) (row_rst h (a := 16) (fun _ => rfl))
    simp only [e6, FI_rows em])
theorem pairs_all {k : Nat} (hk : k ≤ 511) : Pairs (Inv (k : Int)) (Inv ((k : Int) + 1)) := by
  have hN : (0 : Int) ≤ (k : Int) ∧ (k : Int) ≤ 511 := by omega
  have up : ∀ μ, Inv (k : Int) μ → Inv ((k : Int) + 1) μ := fun μ h => h.le (by omega)
  refine ⟨?_, ?_, ?_, ?_, ?_, ?_, ?_, ?_, ?_, ?_, ?_, ?_, ?_, ?_, ?_, ?_, ?_, ?_, ?_, ?_, ?_, ?_, ?_, ?_, ?_, ?_, ?_, ?_, ?_, ?_, ?_, ?_, ?_, ?_, ?_, ?_, ?_, ?_, ?_, ?_, ?_, ?_, ?_, ?_, ?_, ?_, ?_, ?_, ?_⟩
  · exact fun a1 a2 a3 a4 a5 h1 h2 h3 h4 h5 => ((pair_0 a1 a2 a3 a4 a5 h1 h2 h3 h4 h5).mono up)
  · exact fun a1 h1 => ((pair_1 a1 h1).mono up)
  · exact (pair_2 hN)
  · exact ((pair_3).mono up)
  · exact fun a1 a2 h1 h2 => ((pair_4 a1 a2 h1 h2).mono up)
  · exact fun a1 a2 h1 h2 => ((pair_5 a1 a2 h1 h2).mono up)
  · exact fun a1 a2 h1 h2 => ((pair_6 a1 a2 h1 h2).mono up)
  · exact ((pair_7).mono up)
  · exact ((pair_8).mono up)
  · exact fun a1 h1 => ((pair_9 a1 h1).mono up)
  · exact fun a1 a2 h1 h2 => ((pair_10 a1 a2 h1 h2).mono up)
  · exact fun a1 a2 a3 h1 h2 h3 => ((pair_11 a1 a2 a3 h1 h2 h3).mono up)
  · exact fun a1 a2 a3 a4 h1 h2 h3 h4 => ((pair_12 a1 a2 a3 a4 h1 h2 h3 h4).mono up)
  · exact fun a1 a2 a3 a4 h1 h2 h3 h4 => ((pair_13 a1 a2 a3 a4 h1 h2 h3 h4).mono up)
  · exact fun a1 h1 => ((pair_14 a1 h1).mono up)
  · exact fun a1 a2 a3 a4 h1 h2 h3 h4 => ((pair_15 a1 a2 a3 a4 h1 h2 h3 h4).mono up)
  · exact fun a1 a2 a3 a4 h1 h2 h3 h4 => ((pair_16 a1 a2 a3 a4 h1 h2 h3 h4).mono up)
  · exact fun a1 h1 => ((pair_17 a1 h1).mono up)
  · exact fun a1 a2 a3 a4 h1 h2 h3 h4 => ((pair_18 a1 a2 a3 a4 h1 h2 h3 h4).mono up)
  · exact fun a1 a2 a3 h1 h2 h3 => ((pair_19 a1 a2 a3 h1 h2 h3).mono up)
  · exact fun a1 h1 => ((pair_20 a1 h1).mono up)
  · exact fun a1 a2 h1 h2 => ((pair_21 a1 a2 h1 h2).mono up)
  · exact fun a1 a2 h1 h2 => ((pair_22 a1 a2 h1 h2).mono up)
  · exact ((pair_23).mono up)
  · exact fun a1 h1 => ((pair_24 a1 h1).mono up)
  · exact fun a1 a2 h1 h2 => (pair_25 a1 a2 h1 h2 hN)
  · exact fun a1 a2 a3 h1 h2 h3 => (pair_26 a1 a2 a3 h1 h2 h3 hN)
  · exact (pair_27 hN)
  · exact fun a1 h1 => (pair_28 a1 h1 hN)
  · exact (pair_29 hN)
  · exact fun a1 a2 h1 h2 => ((pair_30 a1 a2 h1 h2).mono up)
  · exact fun a1 a2 h1 h2 => ((pair_31 a1 a2 h1 h2).mono up)
  · exact fun a1 a2 h1 h2 => ((pair_32 a1 a2 h1 h2).mono up)
  · exact ((pair_33).mono up)
  · exact fun a1 h1 => ((pair_34 a1 h1).mono up)
  · exact fun a1 h1 => ((pair_35 a1 h1).mono up)
  · exact fun a1 a2 a3 a4 h1 h2 h3 h4 => ((pair_36 a1 a2 a3 a4 h1 h2 h3 h4).mono up)
  · exact fun a1 a2 a3 a4 h1 h2 h3 h4 => ((pair_37 a1 a2 a3 a4 h1 h2 h3 h4).mono up)
  · exact fun a1 a2 a3 h1 h2 h3 => ((pair_38 a1 a2 a3 h1 h2 h3).mono up)
  · exact ((pair_39).mono up)
  · exact fun a1 a2 h1 h2 => ((pair_40 a1 a2 h1 h2).mono up)
  · exact fun a1 a2 a3 a4 h1 h2 h3 h4 => ((pair_41 a1 a2 a3 a4 h1 h2 h3 h4).mono up)
  · exact fun a1 a2 a3 a4 a5 h1 h2 h3 h4 h5 => ((pair_42 a1 a2 a3 a4 a5 h1 h2 h3 h4 h5).mono up)
  · exact (pair_43 hN)
  · exact fun a1 h1 => (pair_44 a1 h1 hN)
  · exact fun a1 h1 => ((pair_45 a1 h1).mono up)
  · exact fun a1 h1 => ((pair_46 a1 h1).mono up)
  · exact fun a1 h1 => (pair_47 a1 h1 hN)
  · exact fun a1 h1 => ((pair_48 a1 h1).mono up)
theorem law_pure : LawPure := by
  refine law_pure_of (Inv := fun k => Inv (k : Int)) (fun k hk => ?_) (fun k μ h => ?_) inv_M0 law_init
  · have h := pairs_all hk
    rw [show ((k : Int) + 1) = ((k + 1 : Nat) : Int) from rfl] at h
    exact h
  · exact Inv.le h (by omega)
