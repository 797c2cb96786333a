/-! ===== THE SMALL MACHINE IS SOUND, one instruction at a time ===== -/
def AT (ws : va_W) (t a : Nat) : Prop := (ws[t]?).map Prod.fst = some a
def VR (ws : va_W) (sp : Nat → Nat) : MV → Value → Prop
  | .inl (.inl z), v => ∃ x : Int32, v = .int x ∧ x.toInt = z
  | .inl (.inr z), v => ∃ x : Int64, v = .long x ∧ x.toInt = z
  | .inr (.inl none), v => v = .null
  | .inr (.inl (some k)), v => ∃ a, v = .ref a ∧ AT ws k a
  | .inr (.inr n), v => v = .ref (sp n)
def SR (ws : va_W) (sp : Nat → Nat) : List MV → List Value → Prop
  | [], st => st = []
  | m :: S, st => ∃ v st', st = v :: st' ∧ VR ws sp m v ∧ SR ws sp S st'
def LR (ws : va_W) (sp : Nat → Nat) (L : List (Option MV)) (ls : Array Slot) (nL : Nat) : Prop := L.length = nL ∧ ls.size = nL ∧ lv_wf ls ∧ ∀ (i : Nat) (m : MV), L[i]? = some (some m) → ∃ v, ls[i]? = some (.val v) ∧ VR ws sp m v
/-- a field of type t (0 int, 1 boolean, 2 long, 3 reference) -/
def FR (h : MH) (ws : va_W) (k j t : Nat) (v : Value) : Prop := match t with
  | 0 => ∃ x : Int32, v = .int x ∧ x.toInt = mh_m h k j
  | 1 => ∃ x : Int32, v = .int x ∧ x.toInt = mh_m h k j
  | 2 => ∃ x : Int64, v = .long x ∧ x.toInt = mh_m h k j
  | 3 => VR ws (fun _ => 0) (.inr (.inl (mh_r h k j))) v
  | _ => False
def OA (ws : va_W) (r : Option Nat) (a : Option Nat) : Prop := match r with
  | none => a = none
  | some t => ∃ b, a = some b ∧ AT ws t b
def m_aty (t : Nat) : FieldType := match t with
  | 100 => .int
  | 101 => .byte
  | _ => .boolean
def CR (tys : List (ClassId × FieldType)) (h : MH) (ws : va_W) (k : Nat) (kd : Nat × Nat) (e : va_E) : Prop :=
  (kd.1 < 100 ∧ ∃ (fs : List Value) (q : vw_C), e = .inr (kd.1, fs) ∧ fs.length = kd.2 ∧ vwCl[kd.1]? = some q ∧ q.2.2 = kd.2 ∧ ∀ (j : Nat) (v : Value), fs[j]? = some v → FR h ws k j (m_fty kd.1 j) v) ∨
  ((kd.1 = 100 ∨ kd.1 = 101 ∨ kd.1 = 102) ∧ ∃ (cA : ClassId) (f : Nat → Int32) (t0 : Nat), e = .inl (cA, kd.2, .inl f) ∧ tys[t0]? = some (cA, m_aty kd.1) ∧ ∀ j, j < kd.2 → (f j).toInt = mh_m h k j) ∨
  (kd.1 = 103 ∧ ∃ (cA : ClassId) (f : Nat → Int64) (t0 : Nat), e = .inl (cA, kd.2, .inr (.inl f)) ∧ tys[t0]? = some (cA, .long) ∧ ∀ j, j < kd.2 → (f j).toInt = mh_m h k j) ∨
  (∃ ci q, kd.1 = 104 + ci ∧ ci < 100 ∧ vwCl[ci]? = some q ∧ ∃ (cA : ClassId) (f : Nat → Option Nat) (t0 : Nat), e = .inl (cA, kd.2, .inr (.inr (.inr (.inr f)))) ∧ tys[t0]? = some (cA, .object q.1) ∧ ∀ j, j < kd.2 → OA ws (mh_r h k j) (f j))
def HR (tys : List (ClassId × FieldType)) (h : MH) (ws : va_W) : Prop := (mh_k h).length = ws.length ∧ ∀ (k : Nat) (kd : Nat × Nat) (q : Nat × va_E), (mh_k h)[k]? = some kd → ws[k]? = some q → CR tys h ws k kd q.2
def EX (w0 ws : va_W) : Prop := ∀ t a, AT w0 t a → AT ws t a
/-- the machine's state and the small machine's -/
def mRel (D : va_G) (A : Nat → Prop) (sp : Nat → Nat) (w0 : va_W) (nL nc0 ns0 : Nat) (s : State) (L : List (Option MV)) (S : List MV) (h : MH) (H : Heap) (locs : List Loc) (cells slots : Nat) (ls : Array Slot) (st : List Value) : Prop :=
  ∃ (ws : va_W) (tys : List (ClassId × FieldType)), va_K D vwCl tys s ∧ va_P D vwCl ws H ∧ va_D A ws ∧ va_S A s.heap H locs ∧ EX w0 ws ∧ HR tys h ws ∧ LR ws sp L ls nL ∧ SR ws sp S st ∧ mh_c h = nc0 + cells ∧ mh_s h = ns0 + slots
def WW (p : Program) (l : Launch) (e : Env) (R : Room) (s : State) (m : MethodId) (args : Array Value) (below : List Frame) (meth : Method) (c : Code) (Q : State → Prop) (D : va_G) (A : Nat → Prop) (sp : Nat → Nat) (w0 : va_W) (nL nc0 ns0 : Nat) (pc : Nat) (L : List (Option MV)) (S : List MV) (h : MH) : Prop :=
  ∀ (H : Heap) (locs : List Loc) (cells slots : Nat) (ls : Array Slot) (st : List Value), mRel D A sp w0 nL nc0 ns0 s L S h H locs cells slots ls st → W p l e R s m args below meth c H locs cells slots Q (F0 m pc ls st)
theorem VR.mono {ws ws' : va_W} {sp : Nat → Nat} (h : EX ws ws') : ∀ {m : MV} {v : Value}, VR ws sp m v → VR ws' sp m v
  | .inl (.inl _), _, q => q
  | .inl (.inr _), _, q => q
  | .inr (.inl none), _, q => q
  | .inr (.inl (some _)), _, ⟨a, e, q⟩ => ⟨a, e, h _ _ q⟩
  | .inr (.inr _), _, q => q
theorem SR.mono {ws ws' : va_W} {sp : Nat → Nat} (h : EX ws ws') : ∀ {S : List MV} {st : List Value}, SR ws sp S st → SR ws' sp S st
  | [], _, q => q
  | _ :: _, _, ⟨v, st', e, q1, q2⟩ => ⟨v, st', e, q1.mono h, SR.mono h q2⟩
theorem LR.mono {ws ws' : va_W} {sp : Nat → Nat} (h : EX ws ws') {L : List (Option MV)} {ls : Array Slot} {nL : Nat} (q : LR ws sp L ls nL) : LR ws' sp L ls nL :=
  ⟨q.1, q.2.1, q.2.2.1, fun i m hi => by obtain ⟨v, a, b⟩ := q.2.2.2 i m hi; exact ⟨v, a, b.mono h⟩⟩
theorem VR.inr {ws : va_W} {sp sp' : Nat → Nat} {r : Option Nat} {v : Value} (h : VR ws sp (.inr (.inl r)) v) : VR ws sp' (.inr (.inl r)) v := by
  cases r with
  | none => exact h
  | some k => exact h
theorem VR.cat1 {ws : va_W} {sp : Nat → Nat} {x : Option Nat ⊕ Nat} {v : Value} (h : VR ws sp (.inr x) v) : v.category = 1 := by
  match x, h with
  | .inl none, h => cases h; rfl
  | .inl (some k), h => obtain ⟨a, rfl, -⟩ := h; rfl
  | .inr n, h => cases h; rfl
/-- all that the locals hold -/
def lv_all (ls : Array Slot) : List (Nat × Value) := (List.range ls.size).filterMap (fun j : Nat => match ls[j]? with
  | some (.val v) => some (j, v)
  | _ => none)
theorem lv_all_mem {ls : Array Slot} {i : Nat} {v : Value} : (i, v) ∈ lv_all ls ↔ ls[i]? = some (.val v) := by
  unfold lv_all
  rw [List.mem_filterMap]
  constructor
  · rintro ⟨j, -, hj⟩
    split at hj
    · next w hw => cases hj; exact hw
    · cases hj
  · intro h
    exact ⟨i, List.mem_range.mpr (lv_lt h), by rw [h]⟩
theorem lv_all_has {ls : Array Slot} {nL : Nat} (h1 : ls.size = nL) (h2 : lv_wf ls) : lv_has ls nL (lv_all ls) := ⟨h1, h2, fun q hq => lv_all_mem.mp hq⟩
theorem m_st1_len (L : List (Option MV)) (i : Nat) (m : MV) : (m_st1 L i m).length = L.length := by
  unfold m_st1
  split
  · simp
  · split <;> simp
theorem m_st1_key {L : List (Option MV)} {i j : Nat} {m m' : MV} (hj : (m_st1 L i m)[j]? = some (some m')) : (j = i ∧ m' = m) ∨ (j ≠ i ∧ L[j]? = some (some m') ∧ ¬ (j + 1 = i ∧ m_long (some m') = true)) := by
  by_cases hji : j = i
  · subst hji
    refine Or.inl ⟨rfl, ?_⟩
    have hjl : j < L.length := by
      have := (List.getElem?_eq_some_iff.mp hj).1
      rw [m_st1_len] at this
      exact this
    cases j with
    | zero =>
      simp only [m_st1] at hj
      rw [List.getElem?_set_self (by omega)] at hj
      cases hj; rfl
    | succ j =>
      simp only [m_st1] at hj
      split at hj
      · rw [List.getElem?_set_self (by simpa using hjl)] at hj
        cases hj; rfl
      · rw [List.getElem?_set_self (by omega)] at hj
        cases hj; rfl
  · refine Or.inr ⟨hji, ?_⟩
    cases i with
    | zero =>
      simp only [m_st1] at hj
      rw [List.getElem?_set_ne (Ne.symm hji)] at hj
      exact ⟨hj, fun h => by omega⟩
    | succ i =>
      simp only [m_st1] at hj
      split at hj
      · next hlong =>
        rw [List.getElem?_set_ne (Ne.symm hji)] at hj
        by_cases hj2 : j = i
        · subst hj2
          by_cases hjl : j < L.length
          · rw [List.getElem?_set_self hjl] at hj
            cases hj
          · rw [List.getElem?_eq_none (by simpa using Nat.not_lt.mp hjl)] at hj
            cases hj
        · rw [List.getElem?_set_ne (Ne.symm hj2)] at hj
          exact ⟨hj, fun h => hj2 (by omega)⟩
      · next hlong =>
        rw [List.getElem?_set_ne (Ne.symm hji)] at hj
        refine ⟨hj, fun h => hlong ?_⟩
        have e : j = i := by omega
        subst e
        rw [List.getD_eq_getElem?_getD, hj]
        exact h.2
theorem VR.notLong {ws : va_W} {sp : Nat → Nat} {m : MV} {w : Value} (h : VR ws sp m w) (hc : w.category = 2) : m_long (some m) = true := by
  match m, h with
  | .inl (.inl z), h => obtain ⟨x, rfl, -⟩ := h; simp [Value.category] at hc
  | .inl (.inr z), h => rfl
  | .inr x, h => rw [h.cat1] at hc; cases hc
/-- behind a store of one slot -/
theorem LR.st1 {ws : va_W} {sp : Nat → Nat} {L : List (Option MV)} {ls ls' : Array Slot} {nL i : Nat} {m : MV} {v : Value} (hL : LR ws sp L ls nL) (hv : VR ws sp m v) (h : lv_has ls' nL ((i, v) :: (lv_all ls).filter (fun q => !(q.1 == i) && !(q.1 + 1 == i && q.2.category == 2)))) : LR ws sp (m_st1 L i m) ls' nL := by
  obtain ⟨a1, a2, a3, a4⟩ := hL
  obtain ⟨b1, b2, b3⟩ := h
  refine ⟨by rw [m_st1_len]; exact a1, b1, b2, fun j m' hj => ?_⟩
  rcases m_st1_key hj with ⟨rfl, rfl⟩ | ⟨hji, hk, hn⟩
  · exact ⟨v, b3 (j, v) List.mem_cons_self, hv⟩
  · obtain ⟨w, h1, h2⟩ := a4 j m' hk
    refine ⟨w, b3 (j, w) (List.mem_cons_of_mem _ (List.mem_filter.mpr ⟨lv_all_mem.mpr h1, ?_⟩)), h2⟩
    simp [hji]
    by_cases e1 : j + 1 = i
    · exact Or.inr (fun e2 => hn ⟨e1, h2.notLong e2⟩)
    · exact Or.inl e1
/-- behind a store of two slots -/
theorem LR.st2 {ws : va_W} {sp : Nat → Nat} {L : List (Option MV)} {ls ls' : Array Slot} {nL i : Nat} {m : MV} {v : Value} (hL : LR ws sp L ls nL) (hv : VR ws sp m v) (h : lv_has ls' nL ((i, v) :: (lv_all ls).filter (fun q => !(q.1 == i) && (!(q.1 == i + 1) && !(q.1 + 1 == i && q.2.category == 2))))) : LR ws sp (m_st2 L i m) ls' nL := by
  obtain ⟨a1, a2, a3, a4⟩ := hL
  obtain ⟨b1, b2, b3⟩ := h
  refine ⟨by unfold m_st2; rw [List.length_set, m_st1_len]; exact a1, b1, b2, fun j m' hj => ?_⟩
  unfold m_st2 at hj
  have hj1 : j ≠ i + 1 := by
    rintro rfl
    by_cases hl : i + 1 < (m_st1 L i m).length
    · rw [List.getElem?_set_self hl] at hj; cases hj
    · rw [List.getElem?_eq_none (by simpa using Nat.not_lt.mp hl)] at hj; cases hj
  rw [List.getElem?_set_ne (Ne.symm hj1)] at hj
  rcases m_st1_key hj with ⟨rfl, rfl⟩ | ⟨hji, hk, hn⟩
  · exact ⟨v, b3 (j, v) List.mem_cons_self, hv⟩
  · obtain ⟨w, h1, h2⟩ := a4 j m' hk
    refine ⟨w, b3 (j, w) (List.mem_cons_of_mem _ (List.mem_filter.mpr ⟨lv_all_mem.mpr h1, ?_⟩)), h2⟩
    simp [hji, hj1]
    by_cases e1 : j + 1 = i
    · exact Or.inr (fun e2 => hn ⟨e1, h2.notLong e2⟩)
    · exact Or.inl e1
