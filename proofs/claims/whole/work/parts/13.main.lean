/-! ===== the whole: a run of the small machine is a run of the JVM ===== -/
/-- the ends of a method's runs with r, and its catching calls -/
def HRET (PT : List MM) (M : MM) (F : MF) (x : MX) (p : Program) (l : Launch) (e : Env) (R : Room) (s : State) (m : MethodId) (args : Array Value) (below : List Frame) (meth : Method) (c : Code) (Q : State → Prop) (D : va_G) (A : Nat → Prop) (sp : Nat → Nat) (w0 : va_W) (nc0 ns0 : Nat) (r : MR) : Prop :=
  ∀ (k : Nat) (i : Instr) (d : ML) (pc : Nat) (L : List (Option MV)) (S : List MV), M.1[k]? = some (i, d) → (f_p F)[k]? = some pc → decode (f_c F) pc = .ok (i, 1) → m_jmp PT i d k L S r.2 = some (.inr (.inl r)) → WW p l e R s m args below meth c Q D A sp w0 (f_L F) nc0 ns0 pc L S r.2
def HCAT (PT : List MM) (M : MM) (F : MF) (p : Program) (l : Launch) (e : Env) (R : Room) (s : State) (m : MethodId) (args : Array Value) (below : List Frame) (meth : Method) (c : Code) (Q : State → Prop) (D : va_G) (A : Nat → Prop) (sp : Nat → Nat) (w0 : va_W) (nc0 ns0 : Nat) : Prop :=
  ∀ (k idx : Nat) (d : ML) (pc : Nat) (L : List (Option MV)) (S S' S'' vs : List MV) (h h' : MH) (r1 : MR) (C' : List MI) (nL' np n : Nat), M.1[k]? = some (.invokestatic idx, d) → (f_p F)[k]? = some pc → decode (f_c F) pc = .ok (.invokestatic idx, 3) → d.1 < 1000 → d.2.1 = 1 → m_call PT 0 d k L S h = some (.inr (.inr (d.1, vs, S', 1))) → PT[d.1]? = some (C', nL', np) → (m_sl vs).length ≤ nL' →
    m_run PT none n C' 0 (m_ent vs nL') [] h = some r1 → m_back 1 r1 S' = some (S'', h') → mh_c h' ≤ nc0 + R.cells → mh_s h' ≤ ns0 + R.slots → WW p l e R s m args below meth c Q D A sp w0 (f_L F) nc0 ns0 (pc + 3) L S'' h' → WW p l e R s m args below meth c Q D A sp w0 (f_L F) nc0 ns0 pc L S h
/-- where a run throws -/
def HTHR (M : MM) (F : MF) (p : Program) (l : Launch) (e : Env) (R : Room) (s : State) (m : MethodId) (args : Array Value) (below : List Frame) (meth : Method) (c : Code) (Q : State → Prop) (D : va_G) (A : Nat → Prop) (sp : Nat → Nat) (w0 : va_W) (nc0 ns0 : Nat) (r : MR) : Prop :=
  ∀ (k : Nat) (i : Instr) (d : ML) (pc : Nat) (L : List (Option MV)) (h : MH), M.1[k]? = some (i, d) → (f_p F)[k]? = some pc → decode (f_c F) pc = .ok (i, m_len i) → m_spec i = false → d.1 = 200 → r = (none, (mh_k h, mh_m h, mh_r h, mh_c h + 1, mh_s h + d.2.1)) → WW p l e R s m args below meth c Q D A sp w0 (f_L F) nc0 ns0 pc L [] h
/-- no catching call -/
def NCA (M : MM) : Prop := ∀ (k idx : Nat) (d : ML), M.1[k]? = some (Instr.invokestatic idx, d) → d.1 < 1000 → ¬ d.2.1 = 1
def SND (PT : List MM) (FT : List MF) (l : Launch) (n : Nat) : Prop :=
  ∀ (x : MX) (M : MM) (F : MF), MOK PT FT M F → ∀ (p : Program) (e : Env) (R : Room) (s : State) (m : MethodId) (args : Array Value) (below : List Frame) (meth : Method) (c : Code) (Q : State → Prop) (D : va_G) (A : Nat → Prop) (sp ad av : Nat → Nat) (w0 : va_W) (nc0 ns0 : Nat), CTX p R s m args meth c F x A sp ad av →
    ∀ (k : Nat) (L : List (Option MV)) (S : List MV) (h : MH) (r : MR) (pc : Nat), m_run PT x n M.1 k L S h = some r → HTHR M F p l e R s m args below meth c Q D A sp w0 nc0 ns0 r → (f_p F)[k]? = some pc → mh_c r.2 ≤ nc0 + R.cells → mh_s r.2 ≤ ns0 + R.slots →
      HRET PT M F x p l e R s m args below meth c Q D A sp w0 nc0 ns0 r → HCAT PT M F p l e R s m args below meth c Q D A sp w0 nc0 ns0 → WW p l e R s m args below meth c Q D A sp w0 (f_L F) nc0 ns0 pc L S h
theorem m_call_noret {PT : List MM} {mode k : Nat} {d : ML} {L : List (Option MV)} {S : List MV} {h : MH} {r : MR} : ¬ m_call PT mode d k L S h = some (.inr (.inl r)) := by
  intro hm
  unfold m_call at hm
  (repeat' split at hm) <;> cases hm
theorem m_jmp_ret {PT : List MM} {i : Instr} {d : ML} {k : Nat} {L : List (Option MV)} {S : List MV} {h : MH} {r : MR} (hm : m_jmp PT i d k L S h = some (.inr (.inl r))) : (i = .ireturn ∧ ∃ z, S = [mI z] ∧ (d.1 = 0 ∨ z = 0 ∨ z = 1) ∧ r = (some (some (mI z)), h)) ∨ (i = .lreturn ∧ ∃ z, S = [mJ z] ∧ r = (some (some (mJ z)), h)) ∨ (i = .return_ ∧ S = [] ∧ r = (some none, h)) := by
  unfold m_jmp at hm
  split at hm
  · split at hm
    · next z =>
      split at hm
      · next hz => cases hm; exact Or.inl ⟨rfl, z, rfl, hz, rfl⟩
      · cases hm
    · cases hm
  · split at hm
    · next z => cases hm; exact Or.inr (Or.inl ⟨rfl, z, rfl, rfl⟩)
    · cases hm
  · split at hm
    · cases hm; exact Or.inr (Or.inr ⟨rfl, rfl, rfl⟩)
    · cases hm
  · (repeat' split at hm) <;> cases hm
  · (repeat' split at hm) <;> cases hm
  · (repeat' split at hm) <;> cases hm
  · (repeat' split at hm) <;> cases hm
  · exact absurd hm m_call_noret
  · exact absurd hm m_call_noret
  · exact absurd hm m_call_noret
  · cases hm
/-- a method's contract out of its run -/
theorem met_of {PT : List MM} {FT : List MF} {l : Launch} {n : Nat} (hn : SND PT FT l n) {M : MM} {F : MF} (hM : MOK PT FT M F) (hnc : NCA M) {vs : List MV} {h h' : MH} {v : Option MV} (hl : (m_sl vs).length ≤ M.2.1) (hpl : vs.all m_plain = true) (hr : m_run PT none n M.1 0 (m_ent vs M.2.1) [] h = some (some v, h')) : MET l F vs h (some v, h') := by
  intro D ad av sz ws tys avs hH hvs
  have hg := m_run_grow n hr
  refine Met.ofW (cc := f_c F) (maxL := f_L F) (ret := f_r F) hM.1 rfl ?_
  intro p e s m args below meth c s₁ B hml hv
  obtain ⟨rfl, hsz, hP, hK, hD0, hTX⟩ := hv
  subst hsz
  have hts := atoms_spec (ws := gw F) B.pre
  have hlocks := B.notSynchronized
  have hret := B.returns
  have hX : CTX p ({ frames := f_f F, cells := mh_c h' - mh_c h, slots := mh_s h' - mh_s h, locals := f_o F } : Room) s m avs.toArray meth c F none (va_A ws s.heap.size) (spC ad) ad av :=
    ⟨B.exec, B.bytes, hml, findClass_of_methodNamed B.named, fun w hw => hts w (List.mem_cons_of_mem _ hw), fun q hq => Or.inr hq, fun hi => (name_of_methodNamed B.named B.method).1.trans hi, trivial, hTX, fun _ => rfl, Nat.le_refl _, Nat.le_refl _⟩
  have hw := hn none M F hM p e ({ frames := f_f F, cells := mh_c h' - mh_c h, slots := mh_s h' - mh_s h, locals := f_o F } : Room) s m avs.toArray below meth c (MQ below (MQc D ws s.heap.size (some v, h')) avs.toArray s (mh_c h' - mh_c h) (mh_s h' - mh_s h) (va_A ws s.heap.size)) D (va_A ws s.heap.size) (spC ad) ad av ws (mh_c h) (mh_s h) hX 0 (m_ent vs M.2.1) [] h (some v, h') 0 hr (fun _ _ _ _ _ _ _ _ _ _ _ hq => by cases hq) hM.2.2.1 (show mh_c h' ≤ mh_c h + (mh_c h' - mh_c h) by have := hg.1; dsimp only at this; omega) (show mh_s h' ≤ mh_s h + (mh_s h' - mh_s h) by have := hg.2; dsimp only at this; omega) ?_ ?_
  · rw [lg_entry_eq]
    have hvs' : SR ws (spC ad) vs avs := SR.plain hpl hvs
    exact hw _ _ _ _ _ _ ⟨ws, tys, hK, hP, hD0.self, va_S.rf, EX.refl _, hH, by rw [hM.2.1]; exact LR.entry hvs' hl, rfl, rfl, rfl⟩
  · intro k i d pc L S hk hpc hdg hst
    obtain ⟨pc', len, i1, i2, i3, i4, i5, i6⟩ := hM.2.2.2 k i d hk
    rcases m_jmp_ret hst with ⟨rfl, z, rfl, hz, hr0⟩ | ⟨rfl, z, rfl, hr0⟩ | ⟨rfl, rfl, hr0⟩
    · cases hr0
      intro H locs cells slots ls st ⟨ws', tys', hK', hP', hD', hS', hE', hH', hL', hSt', hc', hs'⟩
      obtain ⟨v1, st1, rfl, ⟨y, rfl, rfl⟩, hnil⟩ := hSt'
      cases hnil
      obtain rfl : cells = mh_c h' - mh_c h := by have : mh_c h' = mh_c h + cells := hc'; omega
      obtain rfl : slots = mh_s h' - mh_s h := by have : mh_s h' = mh_s h + slots := hs'; omega
      rcases i6 with ⟨hd, hr0⟩ | ⟨hd, hr0⟩
      · exact W.iret B.exec B.bytes (hret.trans hr0) (fun t ht hW => ⟨⟨_, ws', tys', rfl, ⟨_, rfl, rfl⟩, hE', hH', by rw [ht]; exact hP', va_K.moved hW.alike hK', hD'⟩, hS'.F ht⟩) hS'.2.2 hdg hlocks
      · have hnar : narrow .boolean (.int y) = .int y := by
          rcases hz with hz | hz | hz
          · omega
          · have : y = 0 := Int32.toInt_inj.mp hz
            subst this; rfl
          · have : y = 1 := Int32.toInt_inj.mp hz
            subst this; rfl
        exact W.zret B.exec B.bytes (hret.trans hr0) hnar (fun t ht hW => ⟨⟨_, ws', tys', rfl, ⟨_, rfl, rfl⟩, hE', hH', by rw [ht]; exact hP', va_K.moved hW.alike hK', hD'⟩, hS'.F ht⟩) hS'.2.2 hdg hlocks
    · cases hr0
      intro H locs cells slots ls st ⟨ws', tys', hK', hP', hD', hS', hE', hH', hL', hSt', hc', hs'⟩
      obtain ⟨v1, st1, rfl, ⟨y, rfl, rfl⟩, hnil⟩ := hSt'
      cases hnil
      obtain rfl : cells = mh_c h' - mh_c h := by have : mh_c h' = mh_c h + cells := hc'; omega
      obtain rfl : slots = mh_s h' - mh_s h := by have : mh_s h' = mh_s h + slots := hs'; omega
      exact W.lret B.exec B.bytes (hret.trans i6) (fun t ht hW => ⟨⟨_, ws', tys', rfl, ⟨_, rfl, rfl⟩, hE', hH', by rw [ht]; exact hP', va_K.moved hW.alike hK', hD'⟩, hS'.F ht⟩) hS'.2.2 hdg hlocks
    · cases hr0
      intro H locs cells slots ls st ⟨ws', tys', hK', hP', hD', hS', hE', hH', hL', hSt', hc', hs'⟩
      cases hSt'
      obtain rfl : cells = mh_c h' - mh_c h := by have : mh_c h' = mh_c h + cells := hc'; omega
      obtain rfl : slots = mh_s h' - mh_s h := by have : mh_s h' = mh_s h + slots := hs'; omega
      exact W.vret B.exec B.bytes (hret.trans i6) (fun t ht hW => ⟨⟨_, ws', tys', rfl, rfl, hE', hH', by rw [ht]; exact hP', va_K.moved hW.alike hK', hD'⟩, hS'.F ht⟩) hS'.2.2 hdg hlocks
  · intro k idx d pc L S S' S'' vs' h1 h2 r1 C' nL' np n' hk _ _ hd1 hd2
    exact absurd hd2 (hnc k idx d hk hd1)
theorem m_may1_eq {h : MH} {vs : List MV} {z : Int} (hm : m_may 1 h vs z = true) : m_may1 h vs z = true := hm
theorem m_may2_eq {h : MH} {vs : List MV} {z : Int} (hm : m_may 2 h vs z = true) : m_may2 vs = true := hm
/-- a call of the small machine -/
theorem m_call_inv {PT : List MM} {mode k y how : Nat} {d : ML} {L : List (Option MV)} {S vs S' : List MV} {h : MH} (hm : m_call PT mode d k L S h = some (.inr (.inr (y, vs, S', how)))) : y = d.1 ∧ d.1 < 1000 ∧ ∃ C nL np, PT[d.1]? = some (C, nL, np) ∧ ((d.2.1 = 1 ∧ how = 1) ∨ (¬ d.2.1 = 1 ∧ how = 0 ∧ vs = (S.take np).reverse ∧ S' = S.drop np ∧ np ≤ S.length ∧ (S.take np).all m_plain = true ∧ m_w (S.drop np) ≤ 8 ∧ m_may mode h (S.take np).reverse d.2.2.1 = true)) := by
  unfold m_call at hm
  split at hm
  · (repeat' split at hm) <;> cases hm
  · next hlt =>
    split at hm
    · next C nL np hp =>
      split at hm
      · next hd =>
        split at hm
        · cases hm; exact ⟨rfl, by omega, C, nL, np, hp, Or.inl ⟨hd, rfl⟩⟩
        · cases hm
      · next hd =>
        split at hm
        · next hc => cases hm; exact ⟨rfl, by omega, C, nL, np, hp, Or.inr ⟨hd, rfl, rfl, rfl, hc⟩⟩
        · cases hm
    · cases hm
