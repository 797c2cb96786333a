/-! ===== arrays and new cells ===== -/
section ARR
variable {p : Program} {l : Launch} {e : Env} {R : Room} {s : State} {m : MethodId} {args : Array Value} {below : List Frame} {meth : Method} {c : Code} {Q : State → Prop} {D : va_G} {A : Nat → Prop} {sp : Nat → Nat} {w0 : va_W} {nL nc0 ns0 : Nat} {cc : ByteArray} {pc : Nat} {L L' : List (Option MV)} {S S' : List MV} {h h' : MH} {x : MX} {d : ML}
theorem CR.arrI {tys : List (ClassId × FieldType)} {h : MH} {ws : va_W} {k t n : Nat} {e : va_E} (q : CR tys h ws k (t, n) e) (ht : t = 100 ∨ t = 101 ∨ t = 102) : ∃ (cA : ClassId) (f : Nat → Int32) (t0 : Nat), e = .inl (cA, n, .inl f) ∧ tys[t0]? = some (cA, m_aty t) ∧ ∀ j, j < n → (f j).toInt = mh_m h k j := by
  rcases q with ⟨h0, -⟩ | ⟨h0, q⟩ | ⟨h0, -⟩ | ⟨ci, q', h0, -⟩
  · dsimp only at h0; omega
  · exact q
  · dsimp only at h0; omega
  · dsimp only at h0; omega
theorem CR.arrL {tys : List (ClassId × FieldType)} {h : MH} {ws : va_W} {k n : Nat} {e : va_E} (q : CR tys h ws k (103, n) e) : ∃ (cA : ClassId) (f : Nat → Int64) (t0 : Nat), e = .inl (cA, n, .inr (.inl f)) ∧ tys[t0]? = some (cA, .long) ∧ ∀ j, j < n → (f j).toInt = mh_m h k j := by
  rcases q with ⟨h0, -⟩ | ⟨h0, q⟩ | ⟨h0, q⟩ | ⟨ci, q', h0, -⟩
  · dsimp only at h0; omega
  · dsimp only at h0; omega
  · exact q
  · dsimp only at h0; omega
theorem CR.arrQ {tys : List (ClassId × FieldType)} {h : MH} {ws : va_W} {k t n : Nat} {e : va_E} (q : CR tys h ws k (t, n) e) (ht : 104 ≤ t) : ∃ ci q, t = 104 + ci ∧ ci < 100 ∧ vwCl[ci]? = some q ∧ ∃ (cA : ClassId) (f : Nat → Option Nat) (t0 : Nat), e = .inl (cA, n, .inr (.inr (.inr (.inr f)))) ∧ tys[t0]? = some (cA, .object q.1) ∧ ∀ j, j < n → OA ws (mh_r h k j) (f j) := by
  rcases q with ⟨h0, -⟩ | ⟨h0, q⟩ | ⟨h0, q⟩ | q
  · dsimp only at h0; omega
  · dsimp only at h0; omega
  · dsimp only at h0; omega
  · exact q
theorem OA.vr {ws : va_W} {sp : Nat → Nat} {r a : Option Nat} (q : OA ws r a) : VR ws sp (.inr (.inl r)) (va_rf a) := by
  cases r with
  | none => cases q; rfl
  | some t => obtain ⟨b, rfl, h2⟩ := q; exact ⟨b, rfl, h2⟩
/-- what is known of the script -/
def XOK (x : MX) (sp : Nat → Nat) (A : Nat → Prop) (s : State) : Prop := match x with
  | none => True
  | some q => ∃ (xs : Nat → Int32), (∀ j, j < q.1 → q.2 j = (xs j).toInt) ∧ va_X (sp 0) q.1 xs s s.heap ∧ sp 0 < s.heap.size ∧ ¬ A (sp 0)
theorem sn_iaload (hx : p.tables.exec = Jvm.exec) (hb : c.code = cc) (hX : XOK x sp A s) (hdg : decode cc pc = .ok (.iaload, 1)) (hm : m_one x (.iaload) d L S h = some (L', S', h')) (kk : WW p l e R s m args below meth c Q D A sp w0 nL nc0 ns0 (pc + 1) L' S' h') : WW p l e R s m args below meth c Q D A sp w0 nL nc0 ns0 pc L S h := by
  unfold m_one at hm
  dsimp only at hm
  split at hm
  · next i S0 =>
    split at hm
    · next q =>
      split at hm
      · next hi =>
        cases hm
        intro H locs cells slots ls st ⟨ws, tys, hK, hP, hD, hS, hE, hH, hL, hSt, hc, hs⟩
        obtain ⟨v1, st1, rfl, ⟨y', rfl, rfl⟩, v2, st2, rfl, hv2, hSt⟩ := hSt
        obtain ⟨xs, e3, e4, e5, e6⟩ := hX
        cases hv2
        exact va_sld hx hb e4 e5 e6 hS (m_in_vp hi) hdg (kk _ _ _ _ _ _ ⟨ws, tys, hK, hP, hD, hS, hE, hH, hL, ⟨_, _, rfl, ⟨_, rfl, (e3 _ (m_in_lt hi)).symm⟩, hSt⟩, hc, hs⟩)
      · cases hm
    · cases hm
  · next i k S0 =>
    split at hm
    · next t n hk =>
      split at hm
      · next hcond =>
        cases hm
        obtain ⟨rfl, hi⟩ := hcond
        intro H locs cells slots ls st ⟨ws, tys, hK, hP, hD, hS, hE, hH, hL, hSt, hc, hs⟩
        obtain ⟨v1, st1, rfl, ⟨y', rfl, rfl⟩, v2, st2, rfl, ⟨a, rfl, ha⟩, hSt⟩ := hSt
        obtain ⟨e, he, hC⟩ := hH.at hk ha
        obtain ⟨cA, f, t0, rfl, ht, hf⟩ := hC.arrI (Or.inl rfl)
        exact va_iald hx hb hK hP k t0 he ht (m_in_vp hi) hdg (kk _ _ _ _ _ _ ⟨ws, tys, hK, hP, hD, hS, hE, hH, hL, ⟨_, _, rfl, ⟨_, rfl, hf _ (m_in_lt hi)⟩, hSt⟩, hc, hs⟩)
      · cases hm
    · cases hm
  · cases hm
theorem sn_baload (hx : p.tables.exec = Jvm.exec) (hb : c.code = cc) (hdg : decode cc pc = .ok (.baload, 1)) (hm : m_one x (.baload) d L S h = some (L', S', h')) (kk : WW p l e R s m args below meth c Q D A sp w0 nL nc0 ns0 (pc + 1) L' S' h') : WW p l e R s m args below meth c Q D A sp w0 nL nc0 ns0 pc L S h := by
  unfold m_one at hm
  dsimp only at hm
  split at hm
  · next i k S0 =>
    split at hm
    · next t n hk =>
      split at hm
      · next hcond =>
        cases hm
        obtain ⟨ht0, hi⟩ := hcond
        intro H locs cells slots ls st ⟨ws, tys, hK, hP, hD, hS, hE, hH, hL, hSt, hc, hs⟩
        obtain ⟨v1, st1, rfl, ⟨y', rfl, rfl⟩, v2, st2, rfl, ⟨a, rfl, ha⟩, hSt⟩ := hSt
        obtain ⟨e, he, hC⟩ := hH.at hk ha
        obtain ⟨cA, f, t0, rfl, ht, hf⟩ := hC.arrI (Or.inr ht0)
        rcases ht0 with rfl | rfl
        · exact va_bald hx hb hK hP k t0 he ht (m_in_vp hi) hdg (kk _ _ _ _ _ _ ⟨ws, tys, hK, hP, hD, hS, hE, hH, hL, ⟨_, _, rfl, ⟨_, rfl, hf _ (m_in_lt hi)⟩, hSt⟩, hc, hs⟩)
        · exact va_zald hx hb hK hP k t0 he ht (m_in_vp hi) hdg (kk _ _ _ _ _ _ ⟨ws, tys, hK, hP, hD, hS, hE, hH, hL, ⟨_, _, rfl, ⟨_, rfl, hf _ (m_in_lt hi)⟩, hSt⟩, hc, hs⟩)
      · cases hm
    · cases hm
  · cases hm
theorem sn_laload (hx : p.tables.exec = Jvm.exec) (hb : c.code = cc) (hdg : decode cc pc = .ok (.laload, 1)) (hm : m_one x (.laload) d L S h = some (L', S', h')) (kk : WW p l e R s m args below meth c Q D A sp w0 nL nc0 ns0 (pc + 1) L' S' h') : WW p l e R s m args below meth c Q D A sp w0 nL nc0 ns0 pc L S h := by
  unfold m_one at hm
  dsimp only at hm
  split at hm
  · next i k S0 =>
    split at hm
    · next t n hk =>
      split at hm
      · next hcond =>
        cases hm
        obtain ⟨rfl, hi⟩ := hcond
        intro H locs cells slots ls st ⟨ws, tys, hK, hP, hD, hS, hE, hH, hL, hSt, hc, hs⟩
        obtain ⟨v1, st1, rfl, ⟨y', rfl, rfl⟩, v2, st2, rfl, ⟨a, rfl, ha⟩, hSt⟩ := hSt
        obtain ⟨e, he, hC⟩ := hH.at hk ha
        obtain ⟨cA, f, t0, rfl, ht, hf⟩ := hC.arrL
        exact va_lald hx hb hK hP k t0 he ht (m_in_vp hi) hdg (kk _ _ _ _ _ _ ⟨ws, tys, hK, hP, hD, hS, hE, hH, hL, ⟨_, _, rfl, ⟨_, rfl, hf _ (m_in_lt hi)⟩, hSt⟩, hc, hs⟩)
      · cases hm
    · cases hm
  · cases hm
theorem sn_aaload (hx : p.tables.exec = Jvm.exec) (hb : c.code = cc) (hdg : decode cc pc = .ok (.aaload, 1)) (hm : m_one x (.aaload) d L S h = some (L', S', h')) (kk : WW p l e R s m args below meth c Q D A sp w0 nL nc0 ns0 (pc + 1) L' S' h') : WW p l e R s m args below meth c Q D A sp w0 nL nc0 ns0 pc L S h := by
  unfold m_one at hm
  dsimp only at hm
  split at hm
  · next i k S0 =>
    split at hm
    · next t n hk =>
      split at hm
      · next hcond =>
        cases hm
        obtain ⟨ht0, hi⟩ := hcond
        intro H locs cells slots ls st ⟨ws, tys, hK, hP, hD, hS, hE, hH, hL, hSt, hc, hs⟩
        obtain ⟨v1, st1, rfl, ⟨y', rfl, rfl⟩, v2, st2, rfl, ⟨a, rfl, ha⟩, hSt⟩ := hSt
        obtain ⟨e, he, hC⟩ := hH.at hk ha
        obtain ⟨ci, q, -, -, -, cA, f, t0, rfl, ht, hf⟩ := hC.arrQ ht0
        exact va_aldq hx hb hK hP k t0 he ht (m_in_vp hi) hdg (kk _ _ _ _ _ _ ⟨ws, tys, hK, hP, hD, hS, hE, hH, hL, ⟨_, _, rfl, (hf _ (m_in_lt hi)).vr, hSt⟩, hc, hs⟩)
      · cases hm
    · cases hm
  · cases hm
theorem m_ofNat {n : Nat} (h : n < 2 ^ 31) : (Int32.ofNat n).toInt = (n : Int) := nI_toInt h
theorem sn_arraylength (hx : p.tables.exec = Jvm.exec) (hb : c.code = cc) (hX : XOK x sp A s) (hdg : decode cc pc = .ok (.arraylength, 1)) (hm : m_one x (.arraylength) d L S h = some (L', S', h')) (kk : WW p l e R s m args below meth c Q D A sp w0 nL nc0 ns0 (pc + 1) L' S' h') : WW p l e R s m args below meth c Q D A sp w0 nL nc0 ns0 pc L S h := by
  unfold m_one at hm
  dsimp only at hm
  split at hm
  · next S0 =>
    split at hm
    · next q =>
      split at hm
      · next hi =>
        cases hm
        intro H locs cells slots ls st ⟨ws, tys, hK, hP, hD, hS, hE, hH, hL, hSt, hc, hs⟩
        obtain ⟨v2, st2, rfl, hv2, hSt⟩ := hSt
        obtain ⟨xs, e3, e4, e5, e6⟩ := hX
        cases hv2
        exact va_slen hx hb e4 e5 e6 hS hdg (kk _ _ _ _ _ _ ⟨ws, tys, hK, hP, hD, hS, hE, hH, hL, ⟨_, _, rfl, ⟨_, rfl, m_ofNat hi⟩, hSt⟩, hc, hs⟩)
      · cases hm
    · cases hm
  · next k S0 =>
    split at hm
    · next t n hk =>
      split at hm
      · next hcond =>
        cases hm
        obtain ⟨ht0, hn⟩ := hcond
        intro H locs cells slots ls st ⟨ws, tys, hK, hP, hD, hS, hE, hH, hL, hSt, hc, hs⟩
        obtain ⟨v2, st2, rfl, ⟨a, rfl, ha⟩, hSt⟩ := hSt
        obtain ⟨e, he, hC⟩ := hH.at hk ha
        rcases hC with ⟨h0, -⟩ | ⟨h0, cA, f, t0, rfl, ht, -⟩ | ⟨h0, cA, f, t0, rfl, ht, -⟩ | ⟨ci, q, h0, h00, h000, cA, f, t0, rfl, ht, -⟩
        · dsimp only at h0; omega
        · exact va_alen hx hb hK hP k t0 he ht rfl hdg (kk _ _ _ _ _ _ ⟨ws, tys, hK, hP, hD, hS, hE, hH, hL, ⟨_, _, rfl, ⟨_, rfl, m_ofNat hn⟩, hSt⟩, hc, hs⟩)
        · exact va_alen hx hb hK hP k t0 he ht rfl hdg (kk _ _ _ _ _ _ ⟨ws, tys, hK, hP, hD, hS, hE, hH, hL, ⟨_, _, rfl, ⟨_, rfl, m_ofNat hn⟩, hSt⟩, hc, hs⟩)
        · exact va_alen hx hb hK hP k t0 he ht rfl hdg (kk _ _ _ _ _ _ ⟨ws, tys, hK, hP, hD, hS, hE, hH, hL, ⟨_, _, rfl, ⟨_, rfl, m_ofNat hn⟩, hSt⟩, hc, hs⟩)
      · cases hm
    · cases hm
  · cases hm
theorem sn_iastore (hx : p.tables.exec = Jvm.exec) (hb : c.code = cc) (hdg : decode cc pc = .ok (.iastore, 1)) (hm : m_one x (.iastore) d L S h = some (L', S', h')) (kk : WW p l e R s m args below meth c Q D A sp w0 nL nc0 ns0 (pc + 1) L' S' h') : WW p l e R s m args below meth c Q D A sp w0 nL nc0 ns0 pc L S h := by
  unfold m_one at hm
  dsimp only at hm
  split at hm
  · next z i k S0 =>
    split at hm
    · next t n hk =>
      split at hm
      · next hcond =>
        cases hm
        obtain ⟨rfl, hi⟩ := hcond
        intro H locs cells slots ls st ⟨ws, tys, hK, hP, hD, hS, hE, hH, hL, hSt, hc, hs⟩
        obtain ⟨v0, st0, rfl, ⟨z', rfl, rfl⟩, v1, st1, rfl, ⟨y', rfl, rfl⟩, v2, st2, rfl, ⟨a, rfl, ha⟩, hSt⟩ := hSt
        obtain ⟨e, he, hC⟩ := hH.at hk ha
        obtain ⟨cA, f, t0, rfl, ht, hf⟩ := hC.arrI (Or.inl rfl)
        refine va_iast hx hb hK hP hD hS k t0 he ht (m_in_vp hi) hdg (fun H1 locs1 hP1 hD1 hS1 => ?_)
        refine kk _ _ _ _ _ _ ⟨_, tys, hK, hP1, hD1, hS1, hE.trans (EX.set he), hH.wr hk he rfl (fun i j hi => m_set_ne _ _ (fun z => hi z.1)) (fun i j hi => rfl) ?_, hL.mono (EX.set he), hSt.mono (EX.set he), hc, hs⟩
        refine Or.inr (Or.inl ⟨Or.inl rfl, cA, _, t0, rfl, ht, fun j hj => ?_⟩)
        show (upd f y'.toNatClampNeg z' j).toInt = m_set (mh_m h) k y'.toInt.toNat z'.toInt k j
        by_cases hjy : j = y'.toInt.toNat
        · subst hjy
          rw [m_set_self]
          exact congrArg Int32.toInt (if_pos rfl)
        · rw [m_set_ne _ _ (fun q => hjy q.2)]
          simp only [upd, m_clamp, if_neg hjy]
          exact hf j hj
      · cases hm
    · cases hm
  · cases hm
theorem sn_lastore (hx : p.tables.exec = Jvm.exec) (hb : c.code = cc) (hdg : decode cc pc = .ok (.lastore, 1)) (hm : m_one x (.lastore) d L S h = some (L', S', h')) (kk : WW p l e R s m args below meth c Q D A sp w0 nL nc0 ns0 (pc + 1) L' S' h') : WW p l e R s m args below meth c Q D A sp w0 nL nc0 ns0 pc L S h := by
  unfold m_one at hm
  dsimp only at hm
  split at hm
  · next z i k S0 =>
    split at hm
    · next t n hk =>
      split at hm
      · next hcond =>
        cases hm
        obtain ⟨rfl, hi⟩ := hcond
        intro H locs cells slots ls st ⟨ws, tys, hK, hP, hD, hS, hE, hH, hL, hSt, hc, hs⟩
        obtain ⟨v0, st0, rfl, ⟨z', rfl, rfl⟩, v1, st1, rfl, ⟨y', rfl, rfl⟩, v2, st2, rfl, ⟨a, rfl, ha⟩, hSt⟩ := hSt
        obtain ⟨e, he, hC⟩ := hH.at hk ha
        obtain ⟨cA, f, t0, rfl, ht, hf⟩ := hC.arrL
        refine va_last hx hb hK hP hD hS k t0 he ht (m_in_vp hi) hdg (fun H1 locs1 hP1 hD1 hS1 => ?_)
        refine kk _ _ _ _ _ _ ⟨_, tys, hK, hP1, hD1, hS1, hE.trans (EX.set he), hH.wr hk he rfl (fun i j hi => m_set_ne _ _ (fun z => hi z.1)) (fun i j hi => rfl) ?_, hL.mono (EX.set he), hSt.mono (EX.set he), hc, hs⟩
        refine Or.inr (Or.inr (Or.inl ⟨rfl, cA, _, t0, rfl, ht, fun j hj => ?_⟩))
        show (vp_updL f y'.toNatClampNeg z' j).toInt = m_set (mh_m h) k y'.toInt.toNat z'.toInt k j
        by_cases hjy : j = y'.toInt.toNat
        · subst hjy
          rw [m_set_self]
          exact congrArg Int64.toInt (if_pos rfl)
        · rw [m_set_ne _ _ (fun q => hjy q.2)]
          simp only [vp_updL, m_clamp, if_neg hjy]
          exact hf j hj
      · cases hm
    · cases hm
  · cases hm
theorem sn_bastore (hx : p.tables.exec = Jvm.exec) (hb : c.code = cc) (hdg : decode cc pc = .ok (.bastore, 1)) (hm : m_one x (.bastore) d L S h = some (L', S', h')) (kk : WW p l e R s m args below meth c Q D A sp w0 nL nc0 ns0 (pc + 1) L' S' h') : WW p l e R s m args below meth c Q D A sp w0 nL nc0 ns0 pc L S h := by
  unfold m_one at hm
  dsimp only at hm
  split at hm
  · next z i k S0 =>
    split at hm
    · next t n hk =>
      split at hm
      · next hcond =>
        cases hm
        obtain ⟨rfl, hi⟩ := hcond
        intro H locs cells slots ls st ⟨ws, tys, hK, hP, hD, hS, hE, hH, hL, hSt, hc, hs⟩
        obtain ⟨v0, st0, rfl, ⟨z', rfl, rfl⟩, v1, st1, rfl, ⟨y', rfl, rfl⟩, v2, st2, rfl, ⟨a, rfl, ha⟩, hSt⟩ := hSt
        obtain ⟨e, he, hC⟩ := hH.at hk ha
        obtain ⟨cA, f, t0, rfl, ht, hf⟩ := hC.arrI (Or.inr (Or.inl rfl))
        refine va_bast hx hb hK hP hD hS k t0 he ht (m_in_vp hi) hdg (fun H1 locs1 hP1 hD1 hS1 => ?_)
        refine kk _ _ _ _ _ _ ⟨_, tys, hK, hP1, hD1, hS1, hE.trans (EX.set he), hH.wr hk he rfl (fun i j hi => m_set_ne _ _ (fun z => hi z.1)) (fun i j hi => rfl) ?_, hL.mono (EX.set he), hSt.mono (EX.set he), hc, hs⟩
        refine Or.inr (Or.inl ⟨Or.inr (Or.inl rfl), cA, _, t0, rfl, ht, fun j hj => ?_⟩)
        show (upd f y'.toNatClampNeg _ j).toInt = m_set (mh_m h) k y'.toInt.toNat (m_i2b z'.toInt) k j
        by_cases hjy : j = y'.toInt.toNat
        · subst hjy
          rw [m_set_self]
          simp only [upd, m_clamp, if_pos]
          rw [vp_nar_byte, Int8.toInt_toInt32, Int32.toInt_toInt8]; rfl
        · rw [m_set_ne _ _ (fun q => hjy q.2)]
          simp only [upd, m_clamp, if_neg hjy]
          exact hf j hj
      · split at hm
        · next hcond =>
          cases hm
          obtain ⟨rfl, hi, hz⟩ := hcond
          intro H locs cells slots ls st ⟨ws, tys, hK, hP, hD, hS, hE, hH, hL, hSt, hc, hs⟩
          obtain ⟨v0, st0, rfl, ⟨z', rfl, rfl⟩, v1, st1, rfl, ⟨y', rfl, rfl⟩, v2, st2, rfl, ⟨a, rfl, ha⟩, hSt⟩ := hSt
          obtain ⟨e, he, hC⟩ := hH.at hk ha
          obtain ⟨cA, f, t0, rfl, ht, hf⟩ := hC.arrI (Or.inr (Or.inr rfl))
          refine va_zast hx hb hK hP hD hS k t0 he ht (m_in_vp hi) hdg (fun H1 locs1 hP1 hD1 hS1 => ?_)
          refine kk _ _ _ _ _ _ ⟨_, tys, hK, hP1, hD1, hS1, hE.trans (EX.set he), hH.wr hk he rfl (fun i j hi => m_set_ne _ _ (fun z => hi z.1)) (fun i j hi => rfl) ?_, hL.mono (EX.set he), hSt.mono (EX.set he), hc, hs⟩
          refine Or.inr (Or.inl ⟨Or.inr (Or.inr rfl), cA, _, t0, rfl, ht, fun j hj => ?_⟩)
          show (upd f y'.toNatClampNeg _ j).toInt = m_set (mh_m h) k y'.toInt.toNat z'.toInt k j
          by_cases hjy : j = y'.toInt.toNat
          · subst hjy
            rw [m_set_self]
            simp only [upd, m_clamp, if_pos]
            rcases hz with hz | hz
            · have : z' = 0 := Int32.toInt_inj.mp hz
              subst this; rfl
            · have : z' = 1 := Int32.toInt_inj.mp hz
              subst this; rfl
          · rw [m_set_ne _ _ (fun q => hjy q.2)]
            simp only [upd, m_clamp, if_neg hjy]
            exact hf j hj
        · cases hm
    · cases hm
  · cases hm
theorem sn_aastore (hx : p.tables.exec = Jvm.exec) (hb : c.code = cc) (hdg : decode cc pc = .ok (.aastore, 1)) (hm : m_one x (.aastore) d L S h = some (L', S', h')) (kk : WW p l e R s m args below meth c Q D A sp w0 nL nc0 ns0 (pc + 1) L' S' h') : WW p l e R s m args below meth c Q D A sp w0 nL nc0 ns0 pc L S h := by
  unfold m_one at hm
  dsimp only at hm
  split at hm
  · next v i k S0 =>
    split at hm
    · next t n ci nn hk hkv =>
      split at hm
      · next hcond =>
        cases hm
        obtain ⟨ht0, hc100, hi⟩ := hcond
        intro H locs cells slots ls st ⟨ws, tys, hK, hP, hD, hS, hE, hH, hL, hSt, hc, hs⟩
        obtain ⟨v0, st0, rfl, ⟨vv, rfl, hvv⟩, v1, st1, rfl, ⟨y', rfl, rfl⟩, v2, st2, rfl, ⟨a, rfl, ha⟩, hSt⟩ := hSt
        obtain ⟨e, he, hC⟩ := hH.at hk ha
        obtain ⟨ev, hev, hCv⟩ := hH.at hkv hvv
        obtain ⟨ci', q, h0, h00, h000, cA, f, t0, rfl, ht, hf⟩ := hC.arrQ (by omega)
        have hcc : ci' = ci := by omega
        subst hcc
        rcases hCv with ⟨g0, fs, q', g1, g2, g3, g4, g5⟩ | ⟨g0, -⟩ | ⟨g0, -⟩ | ⟨_, _, g0, -⟩
        · dsimp only at g1 g2 g3 g4 g5
          subst g1
          refine va_astq hx hb hK hP hD hS k t0 v ci' he ht hev h000 (m_in_vp hi) hdg (fun H1 locs1 hP1 hD1 hS1 => ?_)
          refine kk _ _ _ _ _ _ ⟨_, tys, hK, hP1, hD1, hS1, hE.trans (EX.set he), hH.wr hk he rfl (fun i j hi => rfl) (fun i j hi => m_set_ne _ _ (fun z => hi z.1)) ?_, hL.mono (EX.set he), hSt.mono (EX.set he), hc, hs⟩
          refine Or.inr (Or.inr (Or.inr ⟨ci', q, h0, h00, h000, cA, _, t0, rfl, ht, fun j hj => ?_⟩))
          show OA _ (m_set (mh_r h) k y'.toInt.toNat (some v) k j) (va_up f y'.toNatClampNeg (some vv) j)
          by_cases hjy : j = y'.toInt.toNat
          · subst hjy
            rw [m_set_self]
            rw [← m_clamp, va_up_self]
            exact ⟨vv, rfl, EX.set he _ _ hvv⟩
          · rw [m_set_ne _ _ (fun q => hjy q.2), va_up_ne _ _ (by rw [m_clamp]; exact hjy)]
            exact (hf j hj).mono (EX.set he)
        · dsimp only at g0; omega
        · dsimp only at g0; omega
        · dsimp only at g0; omega
      · cases hm
    · cases hm
  · cases hm
def m_atype (t : ArrayType) (k : Nat) : Prop := match t with
  | .int => k = 100
  | .byte => k = 101
  | .boolean => k = 102
  | .long => k = 103
  | _ => False
theorem sn_newarray {ty : ArrayType} (hx : p.tables.exec = Jvm.exec) (hb : c.code = cc) (hA : ∀ q, s.heap.size ≤ q → A q) (harr : (Cond.arrayClass (newarray.typeOf ty)).before args s = true) (hty : m_atype ty d.1) (hrm : mh_c h' ≤ nc0 + R.cells ∧ mh_s h' ≤ ns0 + R.slots) (hdg : decode cc pc = .ok (.newarray ty, 2)) (hm : m_one x (.newarray ty) d L S h = some (L', S', h')) (kk : WW p l e R s m args below meth c Q D A sp w0 nL nc0 ns0 (pc + 2) L' S' h') : WW p l e R s m args below meth c Q D A sp w0 nL nc0 ns0 pc L S h := by
  unfold m_one at hm
  dsimp only at hm
  split at hm
  · next z S0 =>
    split at hm
    · next hcond =>
      cases hm
      obtain ⟨h1, h2, h3, h4⟩ := hcond
      intro H locs cells slots ls st ⟨ws, tys, hK, hP, hD, hS, hE, hH, hL, hSt, hc, hs⟩
      obtain ⟨v1, st1, rfl, ⟨y', rfl, rfl⟩, hSt⟩ := hSt
      have hn : ¬ y' < 0 := by rw [Int32.lt_iff_toInt_lt, Int32.toInt_zero]; omega
      have hcc : cells + 1 ≤ R.cells := by have : mh_c h + 1 ≤ nc0 + R.cells := hrm.1; omega
      have hss : slots + y'.toInt.toNat ≤ R.slots := by have : mh_s h + y'.toInt.toNat ≤ ns0 + R.slots := hrm.2; omega
      cases ty <;> simp only [m_atype] at hty
      · refine va_newa (a0 := (y'.toInt.toNat, .inl (fun _ => 0))) hx hb harr rfl hK hP hD hS hA (fun _ => rfl) hn rfl (by show y'.toInt.toNat * 1 ≤ 536870912; omega) hcc hss hdg (fun q cA H1 hK1 hP1 hD1 hS1 => ?_)
        refine kk _ _ _ _ _ _ ⟨_, _, hK1, hP1, hD1, hS1, hE.trans (EX.push _ _), hH.mk rfl (fun i j hi => if_neg hi) (fun _ _ _ => rfl) ?_, hL.mono (EX.push _ _), ⟨_, _, rfl, ⟨_, rfl, ?_⟩, hSt.mono (EX.push _ _)⟩, by show mh_c h + 1 = nc0 + (cells + 1); omega, by show mh_s h + y'.toInt.toNat = ns0 + (slots + y'.toInt.toNat); omega⟩
        · refine Or.inr (Or.inl ⟨Or.inr (Or.inr hty), cA, _, tys.length, rfl, ?_, fun j hj => (if_pos rfl).symm⟩)
          rw [hty, List.getElem?_append_right (Nat.le_refl _), Nat.sub_self]; rfl
        · unfold AT; rw [hH.1, List.getElem?_append_right (Nat.le_refl _), Nat.sub_self]; rfl
      · refine va_newa (a0 := (y'.toInt.toNat, .inl (fun _ => 0))) hx hb harr rfl hK hP hD hS hA (fun _ => rfl) hn rfl (by show y'.toInt.toNat * 1 ≤ 536870912; omega) hcc hss hdg (fun q cA H1 hK1 hP1 hD1 hS1 => ?_)
        refine kk _ _ _ _ _ _ ⟨_, _, hK1, hP1, hD1, hS1, hE.trans (EX.push _ _), hH.mk rfl (fun i j hi => if_neg hi) (fun _ _ _ => rfl) ?_, hL.mono (EX.push _ _), ⟨_, _, rfl, ⟨_, rfl, ?_⟩, hSt.mono (EX.push _ _)⟩, by show mh_c h + 1 = nc0 + (cells + 1); omega, by show mh_s h + y'.toInt.toNat = ns0 + (slots + y'.toInt.toNat); omega⟩
        · refine Or.inr (Or.inl ⟨Or.inr (Or.inl hty), cA, _, tys.length, rfl, ?_, fun j hj => (if_pos rfl).symm⟩)
          rw [hty, List.getElem?_append_right (Nat.le_refl _), Nat.sub_self]; rfl
        · unfold AT; rw [hH.1, List.getElem?_append_right (Nat.le_refl _), Nat.sub_self]; rfl
      · refine va_newa (a0 := (y'.toInt.toNat, .inl (fun _ => 0))) hx hb harr rfl hK hP hD hS hA (fun _ => rfl) hn rfl (by show y'.toInt.toNat * 4 ≤ 536870912; omega) hcc hss hdg (fun q cA H1 hK1 hP1 hD1 hS1 => ?_)
        refine kk _ _ _ _ _ _ ⟨_, _, hK1, hP1, hD1, hS1, hE.trans (EX.push _ _), hH.mk rfl (fun i j hi => if_neg hi) (fun _ _ _ => rfl) ?_, hL.mono (EX.push _ _), ⟨_, _, rfl, ⟨_, rfl, ?_⟩, hSt.mono (EX.push _ _)⟩, by show mh_c h + 1 = nc0 + (cells + 1); omega, by show mh_s h + y'.toInt.toNat = ns0 + (slots + y'.toInt.toNat); omega⟩
        · refine Or.inr (Or.inl ⟨Or.inl hty, cA, _, tys.length, rfl, ?_, fun j hj => (if_pos rfl).symm⟩)
          rw [hty, List.getElem?_append_right (Nat.le_refl _), Nat.sub_self]; rfl
        · unfold AT; rw [hH.1, List.getElem?_append_right (Nat.le_refl _), Nat.sub_self]; rfl
      · refine va_newa (a0 := (y'.toInt.toNat, .inr (.inl (fun _ => 0)))) hx hb harr rfl hK hP hD hS hA (fun _ => rfl) hn rfl (by show y'.toInt.toNat * 8 ≤ 536870912; omega) hcc hss hdg (fun q cA H1 hK1 hP1 hD1 hS1 => ?_)
        refine kk _ _ _ _ _ _ ⟨_, _, hK1, hP1, hD1, hS1, hE.trans (EX.push _ _), hH.mk rfl (fun i j hi => if_neg hi) (fun _ _ _ => rfl) ?_, hL.mono (EX.push _ _), ⟨_, _, rfl, ⟨_, rfl, ?_⟩, hSt.mono (EX.push _ _)⟩, by show mh_c h + 1 = nc0 + (cells + 1); omega, by show mh_s h + y'.toInt.toNat = ns0 + (slots + y'.toInt.toNat); omega⟩
        · refine Or.inr (Or.inr (Or.inl ⟨hty, cA, _, tys.length, rfl, ?_, fun j hj => (if_pos rfl).symm⟩))
          rw [List.getElem?_append_right (Nat.le_refl _), Nat.sub_self]; rfl
        · unfold AT; rw [hH.1, List.getElem?_append_right (Nat.le_refl _), Nat.sub_self]; rfl
    · cases hm
  · cases hm
theorem sn_anewarray {idx : Nat} (hx : p.tables.exec = Jvm.exec) (hb : c.code = cc) {own : String} {q : vw_C} (hown : s.vm.findClass own = some m.cls) (hA : ∀ q, s.heap.size ≤ q → A q) (hq : vwCl[d.1]? = some q) (hclink : (Cond.classLink own idx q.1).before args s = true) (hover : va_AO q.1 s) (hrm : mh_c h' ≤ nc0 + R.cells ∧ mh_s h' ≤ ns0 + R.slots) (hdg : decode cc pc = .ok (.anewarray idx, 3)) (hm : m_one x (.anewarray idx) d L S h = some (L', S', h')) (kk : WW p l e R s m args below meth c Q D A sp w0 nL nc0 ns0 (pc + 3) L' S' h') : WW p l e R s m args below meth c Q D A sp w0 nL nc0 ns0 pc L S h := by
  unfold m_one at hm
  dsimp only at hm
  split at hm
  · next z S0 =>
    split at hm
    · next hcond =>
      cases hm
      obtain ⟨h1, h3, h4⟩ := hcond
      intro H locs cells slots ls st ⟨ws, tys, hK, hP, hD, hS, hE, hH, hL, hSt, hc, hs⟩
      obtain ⟨v1, st1, rfl, ⟨y', rfl, rfl⟩, hSt⟩ := hSt
      have hn : ¬ y' < 0 := by rw [Int32.lt_iff_toInt_lt, Int32.toInt_zero]; omega
      have hcc : cells + 1 ≤ R.cells := by have : mh_c h + 1 ≤ nc0 + R.cells := hrm.1; omega
      have hss : slots + y'.toInt.toNat ≤ R.slots := by have : mh_s h + y'.toInt.toNat ≤ ns0 + R.slots := hrm.2; omega
      refine va_newq hx hb hown hclink hover hK hP hD hS hA hn rfl (by show y'.toInt.toNat * 4 ≤ 536870912; omega) hcc hss hdg (fun q' cA H1 hK1 hP1 hD1 hS1 => ?_)
      refine kk _ _ _ _ _ _ ⟨_, _, hK1, hP1, hD1, hS1, hE.trans (EX.push _ _), hH.mk rfl (fun _ _ _ => rfl) (fun i j hi => if_neg hi) ?_, hL.mono (EX.push _ _), ⟨_, _, rfl, ⟨_, rfl, ?_⟩, hSt.mono (EX.push _ _)⟩, by show mh_c h + 1 = nc0 + (cells + 1); omega, by show mh_s h + y'.toInt.toNat = ns0 + (slots + y'.toInt.toNat); omega⟩
      · refine Or.inr (Or.inr (Or.inr ⟨d.1, q, rfl, h1, hq, cA, _, tys.length, rfl, ?_, fun j hj => ?_⟩))
        · rw [List.getElem?_append_right (Nat.le_refl _), Nat.sub_self]; rfl
        · show OA _ (if (mh_k h).length = (mh_k h).length then none else _) none
          rw [if_pos rfl]; rfl
      · unfold AT; rw [hH.1, List.getElem?_append_right (Nat.le_refl _), Nat.sub_self]; rfl
    · cases hm
  · cases hm
/-- a new object's fields -/
def m_dft (t : Nat → FieldType) (n : Nat) : List Value := (List.range n).map (fun j => defaultValue (t j))
theorem m_dft_at {t : Nat → FieldType} {n j : Nat} (hj : j < n) : (m_dft t n)[j]? = some (defaultValue (t j)) := by simp [m_dft, hj]
theorem sn_new {idx : Nat} (hx : p.tables.exec = Jvm.exec) (hb : c.code = cc) {own : String} {q : vw_C} (hts : ∀ w ∈ gtbl, w.before args s = true) (hown : s.vm.findClass own = some m.cls) (hA : ∀ q, s.heap.size ≤ q → A q) (hq : vwCl[d.1]? = some q) (hf : cl_fact d.1 q) (hft : ∀ j, j < q.2.2 → m_fty d.1 j ≤ 3) (hclink : (Cond.classLink own idx q.1).before args s = true) (hinst : (Cond.instantiable q.1 q.2.2).before args s = true) (hini : (Cond.initialized q.1).before args s = true) (hrm : mh_c h' ≤ nc0 + R.cells ∧ mh_s h' ≤ ns0 + R.slots) (hdg : decode cc pc = .ok (.new idx, 3)) (hm : m_one x (.new idx) d L S h = some (L', S', h')) (kk : WW p l e R s m args below meth c Q D A sp w0 nL nc0 ns0 (pc + 3) L' S' h') : WW p l e R s m args below meth c Q D A sp w0 nL nc0 ns0 pc L S h := by
  unfold m_one at hm
  dsimp only at hm
  obtain ⟨t, ht, hty, hnm, hin⟩ := hf
  have hfty : ∀ j, m_fty d.1 j = m_ty (t j) := fun j => by unfold m_fty; rw [ht]
  rw [hq] at hm
  dsimp only at hm
  split at hm
  · next h1 =>
    cases hm
    intro H locs cells slots ls st ⟨ws, tys, hK, hP, hD, hS, hE, hH, hL, hSt, hc, hs⟩
    have hcc : cells + 1 ≤ R.cells := by have : mh_c h + 1 ≤ nc0 + R.cells := hrm.1; omega
    have hss : slots + q.2.2 ≤ R.slots := by have : mh_s h + q.2.2 ≤ ns0 + R.slots := hrm.2; omega
    refine va_new (fs := m_dft t q.2.2) hx hb hts hin t hty hown hclink hinst hini hK hP hD hS hA hq (fun j hj => by unfold vp_V; rw [List.getD_eq_getElem?_getD, m_dft_at hj]; rfl) hcc hss hdg (fun q' H1 hP1 hD1 hS1 => ?_)
    have hmk := hH.mk (tl := []) (h' := (mh_k h ++ [(d.1, q.2.2)], (fun a j => if a = (mh_k h).length then 0 else mh_m h a j), (fun a j => if a = (mh_k h).length then none else mh_r h a j), mh_c h + 1, mh_s h + q.2.2)) (a := q') (kd := (d.1, q.2.2)) (e := .inr (d.1, m_dft t q.2.2)) rfl (fun i j hi => if_neg hi) (fun i j hi => if_neg hi) ?_
    · rw [List.append_nil] at hmk
      refine kk _ _ _ _ _ _ ⟨_, _, hK, hP1, hD1, hS1, hE.trans (EX.push _ _), hmk, hL.mono (EX.push _ _), ⟨_, _, rfl, ⟨_, rfl, ?_⟩, hSt.mono (EX.push _ _)⟩, by show mh_c h + 1 = nc0 + (cells + 1); omega, by show mh_s h + q.2.2 = ns0 + (slots + q.2.2); omega⟩
      unfold AT; rw [hH.1, List.getElem?_append_right (Nat.le_refl _), Nat.sub_self]; rfl
    · refine Or.inl ⟨h1, _, q, rfl, by simp [m_dft], hq, rfl, fun j v hv => ?_⟩
      have hj : j < q.2.2 := by have := (List.getElem?_eq_some_iff.mp hv).1; simpa [m_dft] using this
      rw [m_dft_at hj] at hv
      cases hv
      have h3 := hft j hj
      have hz : ∀ (i : Nat), (fun a (j : Nat) => if a = (mh_k h).length then (0 : Int) else mh_m h a j) (mh_k h).length i = 0 := fun i => if_pos rfl
      have hr : ∀ (i : Nat), (fun a (j : Nat) => if a = (mh_k h).length then (none : Option Nat) else mh_r h a j) (mh_k h).length i = none := fun i => if_pos rfl
      rw [hfty] at h3 ⊢
      unfold FR
      cases htt : t j <;> rw [htt] at h3 <;> simp only [m_ty] at h3 ⊢
      all_goals first | (exfalso; omega) | exact ⟨_, rfl, (hz j).symm⟩ | (rw [show mh_r (_, _, (fun a j => if a = (mh_k h).length then none else mh_r h a j), _, _) (mh_k h).length j = none from hr j]; rfl)
  · cases hm
end ARR
