theorem m_call_nat {PT : List MM} {mode k k' : Nat} {d : ML} {L L' : List (Option MV)} {S S' : List MV} {h h' : MH} (hm : m_call PT mode d k L S h = some (.inl (k', L', S', h'))) : 1000 ≤ d.1 ∧ m_nat d.1 S h = some (S', h') ∧ m_w S' ≤ 8 ∧ k' = k + 1 ∧ L' = L := by
  unfold m_call at hm
  split at hm
  · next hd =>
    split at hm
    · next hq =>
      split at hm
      · next hw => cases hm; exact ⟨hd, hq, hw, rfl, rfl⟩
      · cases hm
    · cases hm
  · (repeat' split at hm) <;> cases hm
theorem m_nat_obj {S S' : List MV} {h h' : MH} (hm : m_nat 1003 S h = some (S', h')) : ∃ k, S = mR k :: S' ∧ h' = h := by
  match S, hm with
  | .inr (.inl (some k)) :: S0, hm => cases (show some (S0, h) = some (S', h') from hm); exact ⟨k, rfl, rfl⟩
  | [], hm => cases (show none = some (S', h') from hm)
  | .inl _ :: _, hm => cases (show none = some (S', h') from hm)
  | .inr (.inl none) :: _, hm => cases (show none = some (S', h') from hm)
  | .inr (.inr _) :: _, hm => cases (show none = some (S', h') from hm)
theorem m_back_0 {r : MR} {S S' : List MV} {h' : MH} (hm : m_back 0 r S = some (S', h')) : ∃ v, r = (some v, h') ∧ S' = v.toList ++ S := by
  obtain ⟨o, h1⟩ := r
  have hm : (match ((o, h1) : MR) with
    | (some v, h') => some (v.toList ++ S, h')
    | (none, _) => none) = some (S', h') := hm
  cases o with
  | none => cases hm
  | some v => cases hm; exact ⟨v, rfl, rfl⟩
set_option maxHeartbeats 4000000 in
theorem snd_all {PT : List MM} {FT : List MF} {l : Launch} (hcl : ∀ ci q, vwCl[ci]? = some q → cl_fact ci q) (hTx : TextOK) (hPT : ∀ (y : Nat) (M : MM), PT[y]? = some M → ∃ F, FT[y]? = some F ∧ MOK PT FT M F ∧ NCA M) : ∀ n, SND PT FT l n := by
  intro n
  induction n with
  | zero =>
    intro x M F hM p e R s m args below meth c Q D A sp ad av w0 nc0 ns0 hX k L S h r pc hr
    simp [m_run] at hr
  | succ n ih =>
    intro x M F hM p e R s m args below meth c Q D A sp ad av w0 nc0 ns0 hX k L S h r pc hr hv hpc hcr hsr hRET hCAT
    rw [m_run] at hr
    cases hC : M.1[k]? with
    | none => rw [hC] at hr; simp at hr
    | some q =>
    obtain ⟨i, d⟩ := q
    rw [hC] at hr
    dsimp only at hr
    obtain ⟨pc', len, i1, i2, i3, i4, i5, i6⟩ := hM.2.2.2 k i d hC
    obtain rfl : pc = pc' := Option.some.inj (hpc.symm.trans i1)
    cases hs : m_step PT x i d k L S h with
    | none => rw [hs] at hr; simp at hr
    | some a =>
    rw [hs] at hr
    unfold m_step at hs
    cases hsp : m_spec i with
    | false =>
      rw [hsp] at hs
      dsimp only [cond] at hs
      split at hs
      · next h200 =>
        split at hs
        · cases hs
          cases hr
          have hlen : len = m_len i := i3 (fun _ _ _ _ ho => by rw [ho] at hsp; cases hsp)
          subst hlen
          exact hv k i d pc L h hC hpc i2 hsp h200 rfl
        · cases hs
      · next h200 =>
        split at hs
        · next L' S' h' hq =>
          cases hs
          have hlen : len = m_len i := i3 (fun _ _ _ _ ho => by rw [ho] at hsp; cases hsp)
          have hnext := i4 ⟨fun _ ho => (by rw [ho] at hsp; cases hsp), fun ho => (by rw [ho] at hsp; cases hsp), fun ho => (by rw [ho] at hsp; cases hsp), fun ho => (by rw [ho] at hsp; cases hsp), fun _ _ _ _ ho => (by rw [ho] at hsp; cases hsp)⟩
          subst hlen
          have hgr := m_run_grow n hr
          exact sn_one hcl hX i5 i2 ⟨Nat.le_trans hgr.1 hcr, Nat.le_trans hgr.2 hsr⟩ h200 hq (ih x M F hM p e R s m args below meth c Q D A sp ad av w0 nc0 ns0 hX _ _ _ _ _ _ hr hv hnext hcr hsr hRET hCAT)
        · cases hs
    | true =>
      rw [hsp] at hs
      dsimp only [cond] at hs
      match a, hs, hr with
      | .inr (.inl r'), hs, hr =>
        cases hr
        have hh : r.2 = h ∧ len = 1 := by
          rcases m_jmp_ret hs with ⟨rfl, z, rfl, hz, rfl⟩ | ⟨rfl, z, rfl, rfl⟩ | ⟨rfl, rfl, rfl⟩ <;> exact ⟨rfl, i3 (fun _ _ _ _ ho => by cases ho)⟩
        obtain ⟨rfl, rfl⟩ := hh
        exact hRET k i d pc L S hC hpc i2 hs
      | .inl (k', L', S', h'), hs, hr =>
        have go : ∀ pc2, (f_p F)[k']? = some pc2 → WW p l e R s m args below meth c Q D A sp w0 (f_L F) nc0 ns0 pc2 L' S' h' := fun pc2 h2 => ih x M F hM p e R s m args below meth c Q D A sp ad av w0 nc0 ns0 hX _ _ _ _ _ _ hr hv h2 hcr hsr hRET hCAT
        have hgr := m_run_grow n hr
        unfold m_jmp at hs
        split at hs
        · (repeat' split at hs) <;> cases hs
        · (repeat' split at hs) <;> cases hs
        · (repeat' split at hs) <;> cases hs
        · next off =>
          split at hs
          · next t ht =>
            obtain ⟨tgt, t1, t2⟩ := i6 t (by rw [ht]; exact List.mem_cons_self)
            cases hs
            obtain rfl : len = 3 := i3 (fun _ _ _ _ ho => by cases ho)
            exact sn_goto hX.1 hX.2.1 i2 t2 (go _ t1)
          · cases hs
        · next c0 off =>
          split at hs
          · next t a0 S0 ht =>
            cases hs
            obtain ⟨tgt, t1, t2⟩ := i6 t (by rw [ht]; exact List.mem_cons_self)
            obtain rfl : len = 3 := i3 (fun _ _ _ _ ho => by cases ho)
            have hnext := i4 ⟨fun _ ho => (by cases ho), fun ho => (by cases ho), fun ho => (by cases ho), fun ho => (by cases ho), fun _ _ _ _ ho => (by cases ho)⟩
            exact sn_ifCond hX.1 hX.2.1 i2 t2 (fun hq => go _ (by rw [hq]; exact t1)) (fun hq => go _ (by rw [hq]; exact hnext))
          · cases hs
        · next c0 off =>
          split at hs
          · next t b0 a0 S0 ht =>
            cases hs
            obtain ⟨tgt, t1, t2⟩ := i6 t (by rw [ht]; exact List.mem_cons_self)
            obtain rfl : len = 3 := i3 (fun _ _ _ _ ho => by cases ho)
            have hnext := i4 ⟨fun _ ho => (by cases ho), fun ho => (by cases ho), fun ho => (by cases ho), fun ho => (by cases ho), fun _ _ _ _ ho => (by cases ho)⟩
            exact sn_icmp hX.1 hX.2.1 i2 t2 (fun hq => go _ (by rw [hq]; exact t1)) (fun hq => go _ (by rw [hq]; exact hnext))
          · cases hs
        · next dflt lo hi offs =>
          split at hs
          · next t ts a0 S0 ht =>
            obtain ⟨⟨tgt, t1, t2⟩, t3⟩ := i6 t ts ht
            split at hs
            · next hout =>
              cases hs
              exact sn_tableOut hX.1 hX.2.1 i2 hout t2 (go _ t1)
            · next hin =>
              split at hs
              · next t' ht' =>
                cases hs
                obtain ⟨off, o1, tgt', o2, o3⟩ := t3 _ _ ht'
                exact sn_tableIn hX.1 hX.2.1 i2 (fun q => hin (Or.inl q)) (fun q => hin (Or.inr q)) o1 o3 (go _ o2)
              · cases hs
          · cases hs
        · next idx _hq =>
          obtain ⟨n1, n2, n3, rfl, rfl⟩ := m_call_nat hs
          obtain rfl : len = 3 := i3 (fun _ _ _ _ ho => by cases ho)
          have hnext := i4 ⟨fun _ ho => (by cases ho), fun ho => (by cases ho), fun ho => (by cases ho), fun ho => (by cases ho), fun _ _ _ _ ho => (by cases ho)⟩
          rcases i6 with ⟨hd, j1, j2, j3, j4, j5, j6⟩ | ⟨j1, j2, j3, j4⟩ | ⟨hd, -⟩ | ⟨hd, -⟩
          · obtain ⟨h1, h2, h3, h4, h5, h6, h7, h8, h9, h10, h11, h12⟩ := hX
            rw [hd] at n2
            exact sn_copy h1 h2 h3 h4 (h5 _ j1) (h5 _ j2) (h5 _ j3) (h5 _ j4) (Nat.le_trans j5 h11) (Nat.le_trans j6 h12) n3 i2 n2 (go _ hnext)
          · obtain ⟨h1, h2, h3, h4, h5, h6, h7, h8, h9, h10, h11, h12⟩ := hX
            rcases j4 with ⟨hd, j5, j6, j7⟩ | ⟨hd, j5, j6, j7⟩ | ⟨hd, j5, j6, j7⟩
            · rw [hd] at n2
              exact sn_max h1 h2 h3 h4 (h5 _ j5) (h5 _ j6) (h5 _ j3) (h5 _ j7) (Nat.le_trans j1 h11) (Nat.le_trans j2 h12) (Nat.le_succ_of_le n3) ⟨Nat.le_trans hgr.1 hcr, Nat.le_trans hgr.2 hsr⟩ i2 n2 (go _ hnext)
            · rw [hd] at n2
              exact sn_min h1 h2 h3 h4 (h5 _ j5) (h5 _ j6) (h5 _ j3) (h5 _ j7) (Nat.le_trans j1 h11) (Nat.le_trans j2 h12) (Nat.le_succ_of_le n3) ⟨Nat.le_trans hgr.1 hcr, Nat.le_trans hgr.2 hsr⟩ i2 n2 (go _ hnext)
            · rw [hd] at n2
              exact sn_abs h1 h2 h3 h4 (h5 _ j5) (h5 _ j6) (h5 _ j3) (h5 _ j7) (Nat.le_trans j1 h11) (Nat.le_trans j2 h12) (Nat.le_succ_of_le n3) ⟨Nat.le_trans hgr.1 hcr, Nat.le_trans hgr.2 hsr⟩ i2 n2 (go _ hnext)
          · omega
          · omega
        · next idx _hq =>
          obtain ⟨n1, n2, n3, rfl, rfl⟩ := m_call_nat hs
          obtain rfl : len = 3 := i3 (fun _ _ _ _ ho => by cases ho)
          have hnext := i4 ⟨fun _ ho => (by cases ho), fun ho => (by cases ho), fun ho => (by cases ho), fun ho => (by cases ho), fun _ _ _ _ ho => (by cases ho)⟩
          rcases i6 with ⟨hd, j1, j2, j3⟩ | ⟨hd, j1, j2, j3⟩ | ⟨hd, -⟩
          · rw [hd] at n2
            exact hTx p l e R s m args below meth c Q D A sp ad av w0 (f_L F) nc0 ns0 F x pc idx L' S S' h h' hX (Nat.le_trans j2 hX.2.2.2.2.2.2.2.2.2.2.1) (Nat.le_trans j3 hX.2.2.2.2.2.2.2.2.2.2.2) (Or.inl ⟨j1, n2⟩) n3 i2 rfl (Nat.le_trans hgr.1 hcr) (Nat.le_trans hgr.2 hsr) (go _ hnext)
          · rw [hd] at n2
            exact hTx p l e R s m args below meth c Q D A sp ad av w0 (f_L F) nc0 ns0 F x pc idx L' S S' h h' hX (Nat.le_trans j2 hX.2.2.2.2.2.2.2.2.2.2.1) (Nat.le_trans j3 hX.2.2.2.2.2.2.2.2.2.2.2) (Or.inr ⟨j1, n2⟩) n3 i2 rfl (Nat.le_trans hgr.1 hcr) (Nat.le_trans hgr.2 hsr) (go _ hnext)
          · omega
        · next idx _hq =>
          obtain ⟨n1, n2, n3, rfl, rfl⟩ := m_call_nat hs
          obtain rfl : len = 3 := i3 (fun _ _ _ _ ho => by cases ho)
          have hnext := i4 ⟨fun _ ho => (by cases ho), fun ho => (by cases ho), fun ho => (by cases ho), fun ho => (by cases ho), fun _ _ _ _ ho => (by cases ho)⟩
          rcases i6 with ⟨hd, j1, j2, j3, j4, j5⟩ | ⟨hd, -⟩ | ⟨hd, -⟩
          · obtain ⟨h1, h2, h3, h4, h5, h6, h7, h8, h9, h10, h11, h12⟩ := hX
            rw [hd] at n2
            obtain ⟨k0, rfl, rfl⟩ := m_nat_obj n2
            exact sn_objInit h1 h2 h3 h4 (h5 _ j1) (h5 _ j2) (h5 _ j3) (Nat.le_trans j4 h11) (Nat.le_trans j5 h12) n3 i2 (go _ hnext)
          · omega
          · omega
        · cases hs
      | .inr (.inr (y, vs, S', how)), hs, hr =>
        dsimp only at hr
        cases hy : PT[y]? with
        | none => rw [hy] at hr; simp at hr
        | some MY =>
        obtain ⟨C', nL', np'⟩ := MY
        rw [hy] at hr
        dsimp only at hr
        by_cases hl : (m_sl vs).length ≤ nL'
        · rw [if_pos hl] at hr
          cases hc : m_run PT none n C' 0 (m_ent vs nL') [] h with
          | none => rw [hc] at hr; simp at hr
          | some r1 =>
          rw [hc] at hr
          dsimp only at hr
          cases hbk : m_back how r1 S' with
          | none => rw [hbk] at hr; simp at hr
          | some q =>
          obtain ⟨S'', h'⟩ := q
          rw [hbk] at hr
          dsimp only at hr
          have hgr := m_run_grow n hr
          have hgc := m_run_grow n hc
          have hgb := m_back_grow hbk
          obtain ⟨G, hG, hGM, hGN⟩ := hPT y _ hy
          have go : (f_p F)[k + 1]? = some (pc + 3) → WW p l e R s m args below meth c Q D A sp w0 (f_L F) nc0 ns0 (pc + 3) L S'' h' := fun h2 => ih x M F hM p e R s m args below meth c Q D A sp ad av w0 nc0 ns0 hX _ _ _ _ _ _ hr hv h2 hcr hsr hRET hCAT
          have hrm : mh_c h' ≤ nc0 + R.cells ∧ mh_s h' ≤ ns0 + R.slots := ⟨Nat.le_trans hgr.1 hcr, Nat.le_trans hgr.2 hsr⟩
          have key : ∀ v, r1 = (some v, h') → vs.all m_plain = true → MET l G vs h (some v, h') := fun v e1 hp => by
            subst e1
            exact met_of ih hGM hGN (M := (C', nL', np')) hl hp hc
          unfold m_jmp at hs
          split at hs
          · (repeat' split at hs) <;> cases hs
          · (repeat' split at hs) <;> cases hs
          · (repeat' split at hs) <;> cases hs
          · (repeat' split at hs) <;> cases hs
          · (repeat' split at hs) <;> cases hs
          · (repeat' split at hs) <;> cases hs
          · (repeat' split at hs) <;> cases hs
          · next idx _hq =>
            obtain ⟨rfl, hlt, C0, nL0, np0, hp0, hcase⟩ := m_call_inv hs
            obtain rfl : len = 3 := i3 (fun _ _ _ _ ho => by cases ho)
            have hnext := i4 ⟨fun _ ho => (by cases ho), fun ho => (by cases ho), fun ho => (by cases ho), fun ho => (by cases ho), fun _ _ _ _ ho => (by cases ho)⟩
            cases hy.symm.trans hp0
            rcases hcase with ⟨hd, rfl⟩ | ⟨hd, rfl, rfl, rfl, c1, c2, c3, c4⟩
            · exact hCAT k idx d pc L S S' S'' vs h h' r1 C' nL' np' n hC hpc i2 hlt hd hs hy hl hc hbk hrm.1 hrm.2 (go hnext)
            · rcases i6 with ⟨j0, -⟩ | ⟨-, -, -, j0⟩ | ⟨-, j0⟩ | ⟨-, -, G', M', g1, g2, g3, g4, g5, g6⟩
              · omega
              · rcases j0 with ⟨j0, -⟩ | ⟨j0, -⟩ | ⟨j0, -⟩ <;> omega
              · exact absurd j0 hd
              · cases hG.symm.trans g1
                cases hy.symm.trans g2
                obtain ⟨v, rfl, rfl⟩ := m_back_0 hbk
                exact sn_callS hX rfl g3 g4 g5 g6 i2 (key v rfl (by rw [List.all_reverse]; exact c2)) c1 c2 c3 hgc hrm (go hnext)
          · next idx _hq =>
            obtain ⟨rfl, hlt, C0, nL0, np0, hp0, hcase⟩ := m_call_inv hs
            obtain rfl : len = 3 := i3 (fun _ _ _ _ ho => by cases ho)
            have hnext := i4 ⟨fun _ ho => (by cases ho), fun ho => (by cases ho), fun ho => (by cases ho), fun ho => (by cases ho), fun _ _ _ _ ho => (by cases ho)⟩
            cases hy.symm.trans hp0
            rcases i6 with ⟨j0, -⟩ | ⟨j0, -⟩ | ⟨-, jd, G', M', ci, q, g1, g2, g3, g4, g5, g6, g7, g8, g9, g10, n0, g11, g12⟩
            · omega
            · omega
            · rcases hcase with ⟨hd, -⟩ | ⟨hd, rfl, rfl, rfl, c1, c2, c3, c4⟩
              · omega
              · cases hG.symm.trans g1
                cases hy.symm.trans g2
                obtain ⟨v, rfl, rfl⟩ := m_back_0 hbk
                dsimp only at g12
                subst g12
                rw [g10] at c4
                exact sn_callV hX rfl g3 g4 g5 g6 g7 g8 g9 g11 i2 (key v rfl (by rw [List.all_reverse]; exact c2)) c1 c2 c3 (m_may1_eq c4) hgc hrm (go hnext)
          · next idx _hq =>
            obtain ⟨rfl, hlt, C0, nL0, np0, hp0, hcase⟩ := m_call_inv hs
            obtain rfl : len = 3 := i3 (fun _ _ _ _ ho => by cases ho)
            have hnext := i4 ⟨fun _ ho => (by cases ho), fun ho => (by cases ho), fun ho => (by cases ho), fun ho => (by cases ho), fun _ _ _ _ ho => (by cases ho)⟩
            cases hy.symm.trans hp0
            rcases i6 with ⟨j0, -⟩ | ⟨-, jd, G', M', g1, g2, g3, g4, g5, g6, g7, n0, g11, g12⟩ | ⟨-, j0⟩
            · omega
            · rcases hcase with ⟨hd, -⟩ | ⟨hd, rfl, rfl, rfl, c1, c2, c3, c4⟩
              · omega
              · cases hG.symm.trans g1
                cases hy.symm.trans g2
                obtain ⟨v, rfl, rfl⟩ := m_back_0 hbk
                dsimp only at g12
                subst g12
                exact sn_callI hX rfl g3 g4 g5 g6 g7 g11 i2 (key v rfl (by rw [List.all_reverse]; exact c2)) c1 c2 c3 (m_may2_eq c4) hgc hrm (go hnext)
            · rw [hy] at j0; cases j0
          · cases hs
        · rw [if_neg hl] at hr
          simp at hr
