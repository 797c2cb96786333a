/-! ===== the heap's instructions ===== -/
/-- the tables' words that hold at every call -/
def gtbl : List Cond := lw_tbl.filter goodWord
theorem gt_of {w : Cond} (h1 : w ∈ lw_tbl) (h2 : goodWord w = true) : w ∈ gtbl := List.mem_filter.mpr ⟨h1, h2⟩
def cl_fact (ci : Nat) (q : vw_C) : Prop := ∃ t : Nat → FieldType, m_tys[ci]? = some t ∧ (∀ k, k < q.2.2 → parseFieldDescriptor (q.2.1 k).2.2.1 = some (t k)) ∧ (∀ a, a < q.2.2 → ∀ b, b < q.2.2 → a ≠ b → (q.2.1 a).2.1 ≠ (q.2.1 b).2.1) ∧ (∀ w ∈ u_ws q.1 q.2.1 q.2.2, w ∈ gtbl)
theorem AT.of {ws : va_W} {k : Nat} {q : Nat × va_E} (h : ws[k]? = some q) : AT ws k q.1 := by unfold AT; rw [h]; rfl
theorem AT.get {ws : va_W} {k a : Nat} (h : AT ws k a) : ∃ e, ws[k]? = some (a, e) := by
  unfold AT at h
  cases hq : ws[k]? with
  | none => rw [hq] at h; cases h
  | some q =>
    rw [hq] at h
    obtain ⟨b, e⟩ := q
    cases h
    exact ⟨e, rfl⟩
theorem EX.refl (ws : va_W) : EX ws ws := fun _ _ h => h
theorem EX.trans {a b c : va_W} (h1 : EX a b) (h2 : EX b c) : EX a c := fun t x h => h2 t x (h1 t x h)
theorem EX.set {ws : va_W} {k a : Nat} {e0 e : va_E} (h : ws[k]? = some (a, e0)) : EX ws (ws.set k (a, e)) := by
  intro t b hb
  have hl := (List.getElem?_eq_some_iff.mp h).1
  unfold AT at hb ⊢
  by_cases ht : t = k
  · subst ht
    rw [h] at hb
    rw [List.getElem?_set_self hl]
    exact hb
  · rw [List.getElem?_set_ne (Ne.symm ht)]
    exact hb
theorem EX.push (ws l : va_W) : EX ws (ws ++ l) := by
  intro t b hb
  unfold AT at hb ⊢
  by_cases ht : t < ws.length
  · rw [List.getElem?_append_left ht]; exact hb
  · rw [List.getElem?_eq_none (Nat.not_lt.mp ht)] at hb; cases hb
theorem FR.mono {h h' : MH} {ws ws' : va_W} {k j t : Nat} {v : Value} (q : FR h ws k j t v) (hm : mh_m h' k j = mh_m h k j) (hr : mh_r h' k j = mh_r h k j) (hx : EX ws ws') : FR h' ws' k j t v := by
  unfold FR at q ⊢
  split at q
  · rw [hm]; exact q
  · rw [hm]; exact q
  · rw [hm]; exact q
  · rw [hr]; exact q.mono hx
  · exact q
theorem OA.mono {ws ws' : va_W} {r a : Option Nat} (q : OA ws r a) (hx : EX ws ws') : OA ws' r a := by
  unfold OA at q ⊢
  split at q
  · exact q
  · obtain ⟨b, h1, h2⟩ := q; exact ⟨b, h1, hx _ _ h2⟩
theorem CR.mono {tys tys' : List (ClassId × FieldType)} {h h' : MH} {ws ws' : va_W} {k : Nat} {kd : Nat × Nat} {e : va_E} (q : CR tys h ws k kd e) (ht : ∀ (i : Nat) z, tys[i]? = some z → tys'[i]? = some z) (hm : ∀ j, mh_m h' k j = mh_m h k j) (hr : ∀ j, mh_r h' k j = mh_r h k j) (hx : EX ws ws') : CR tys' h' ws' k kd e := by
  rcases q with ⟨h0, fs, q, h1, h2, h3, h4, h5⟩ | ⟨h0, cA, f, t0, h1, h2, h3⟩ | ⟨h0, cA, f, t0, h1, h2, h3⟩ | ⟨ci, q, h0, h00, h000, cA, f, t0, h1, h2, h3⟩
  · exact Or.inl ⟨h0, fs, q, h1, h2, h3, h4, fun j v hv => (h5 j v hv).mono (hm j) (hr j) hx⟩
  · exact Or.inr (Or.inl ⟨h0, cA, f, t0, h1, ht _ _ h2, fun j hj => by rw [hm]; exact h3 j hj⟩)
  · exact Or.inr (Or.inr (Or.inl ⟨h0, cA, f, t0, h1, ht _ _ h2, fun j hj => by rw [hm]; exact h3 j hj⟩))
  · exact Or.inr (Or.inr (Or.inr ⟨ci, q, h0, h00, h000, cA, f, t0, h1, ht _ _ h2, fun j hj => by rw [hr]; exact (h3 j hj).mono hx⟩))
theorem HR.at {tys : List (ClassId × FieldType)} {h : MH} {ws : va_W} {k a : Nat} {kd : Nat × Nat} (q : HR tys h ws) (hk : (mh_k h)[k]? = some kd) (ha : AT ws k a) : ∃ e, ws[k]? = some (a, e) ∧ CR tys h ws k kd e := by
  obtain ⟨e, he⟩ := ha.get
  exact ⟨e, he, q.2 k kd _ hk he⟩
/-- one cell is written -/
theorem HR.wr {tys : List (ClassId × FieldType)} {h h' : MH} {ws : va_W} {k a : Nat} {kd : Nat × Nat} {e0 e : va_E} (q : HR tys h ws) (hk : (mh_k h)[k]? = some kd) (he : ws[k]? = some (a, e0)) (hkk : mh_k h' = mh_k h) (hm : ∀ i j, i ≠ k → mh_m h' i j = mh_m h i j) (hr : ∀ i j, i ≠ k → mh_r h' i j = mh_r h i j) (hc : CR tys h' (ws.set k (a, e)) k kd e) : HR tys h' (ws.set k (a, e)) := by
  have hl := (List.getElem?_eq_some_iff.mp he).1
  refine ⟨by rw [hkk, List.length_set]; exact q.1, fun i kd' q' h1 h2 => ?_⟩
  rw [hkk] at h1
  by_cases hi : i = k
  · subst hi
    rw [List.getElem?_set_self hl] at h2
    cases h2
    cases hk.symm.trans h1
    exact hc
  · rw [List.getElem?_set_ne (Ne.symm hi)] at h2
    exact (q.2 i kd' q' h1 h2).mono (fun _ _ z => z) (fun j => hm i j hi) (fun j => hr i j hi) (EX.set he)
/-- a cell is made -/
theorem HR.mk {tys : List (ClassId × FieldType)} {h h' : MH} {ws : va_W} {a : Nat} {kd : Nat × Nat} {e : va_E} {tl : List (ClassId × FieldType)} (q : HR tys h ws) (hkk : mh_k h' = mh_k h ++ [kd]) (hm : ∀ i j, i ≠ (mh_k h).length → mh_m h' i j = mh_m h i j) (hr : ∀ i j, i ≠ (mh_k h).length → mh_r h' i j = mh_r h i j) (hc : CR (tys ++ tl) h' (ws ++ [(a, e)]) (mh_k h).length kd e) : HR (tys ++ tl) h' (ws ++ [(a, e)]) := by
  refine ⟨by rw [hkk, List.length_append, List.length_append, q.1]; rfl, fun i kd' q' h1 h2 => ?_⟩
  rw [hkk] at h1
  by_cases hi : i < (mh_k h).length
  · rw [List.getElem?_append_left hi] at h1
    rw [List.getElem?_append_left (by rw [← q.1]; exact hi)] at h2
    exact (q.2 i kd' q' h1 h2).mono (fun i z hz => by rw [List.getElem?_append_left (List.getElem?_eq_some_iff.mp hz).1]; exact hz) (fun j => hm i j (Nat.ne_of_lt hi)) (fun j => hr i j (Nat.ne_of_lt hi)) (EX.push _ _)
  · have hie : i = (mh_k h).length := by
      have := (List.getElem?_eq_some_iff.mp h1).1
      rw [List.length_append] at this
      simp only [List.length_cons, List.length_nil] at this
      omega
    subst hie
    rw [List.getElem?_append_right (Nat.le_refl _), Nat.sub_self] at h1
    rw [q.1, List.getElem?_append_right (Nat.le_refl _), Nat.sub_self] at h2
    cases h1
    cases h2
    exact hc
theorem m_in_vp {x : Int32} {n : Nat} (h : m_in x.toInt n = true) : vp_in x n := by
  unfold m_in at h
  simp only [Bool.and_eq_true, decide_eq_true_eq] at h
  exact vp_in_iff.mpr h
theorem m_in_lt {z : Int} {n : Nat} (h : m_in z n = true) : z.toNat < n := by
  unfold m_in at h
  simp only [Bool.and_eq_true, decide_eq_true_eq] at h
  omega
theorem m_clamp (x : Int32) : x.toNatClampNeg = x.toInt.toNat := rfl
section HEAP
variable {p : Program} {l : Launch} {e : Env} {R : Room} {s : State} {m : MethodId} {args : Array Value} {below : List Frame} {meth : Method} {c : Code} {Q : State → Prop} {D : va_G} {A : Nat → Prop} {sp : Nat → Nat} {w0 : va_W} {nL nc0 ns0 : Nat} {cc : ByteArray} {pc : Nat} {L L' : List (Option MV)} {S S' : List MV} {h h' : MH} {x : MX} {d : ML}
theorem sn_getfield {idx : Nat} {own : String} {q : vw_C} (hx : p.tables.exec = Jvm.exec) (hb : c.code = cc) (hts : ∀ w ∈ gtbl, w.before args s = true) (hown : s.vm.findClass own = some m.cls) (hq : vwCl[d.1]? = some q) (hf : cl_fact d.1 q) (hlink : (Cond.fieldLink own idx (q.2.1 d.2.1).1 (q.2.1 d.2.1).2.1 (q.2.1 d.2.1).2.2.1).before args s = true)
    (hdg : decode cc pc = .ok (.getfield idx, 3)) (hm : m_one x (.getfield idx) d L S h = some (L', S', h')) (kk : WW p l e R s m args below meth c Q D A sp w0 nL nc0 ns0 (pc + 3) L' S' h') : WW p l e R s m args below meth c Q D A sp w0 nL nc0 ns0 pc L S h := by
  unfold m_one at hm
  dsimp only at hm
  split at hm
  · next k S0 =>
    split at hm
    · next ci n hk =>
      split at hm
      · next hcond =>
        intro H locs cells slots ls st ⟨ws, tys, hK, hP, hD, hS, hE, hH, hL, hSt, hc, hs⟩
        obtain ⟨v1, st1, rfl, ⟨a, rfl, ha⟩, hSt⟩ := hSt
        obtain ⟨e, he, hC⟩ := hH.at hk ha
        obtain ⟨hci, hc100, hj⟩ := hcond
        subst hci
        rcases hC with ⟨h0, fs, q', h1, h2, h3, h4, h5⟩ | ⟨h0, -⟩ | ⟨h0, -⟩ | ⟨ci, q', h0, -⟩
        · dsimp only at h1 h2 h3 h4 h5 h0
          subst h1
          cases hq.symm.trans h3
          have hjf : d.2.1 < fs.length := by omega
          obtain ⟨t, ht, hty, hnm, hin⟩ := hf
          have hfs : fs[d.2.1]? = some fs[d.2.1] := List.getElem?_eq_getElem hjf
          have hfr := h5 _ _ hfs
          refine va_get hx hb hts hin hown hK hP k he h3 d.2.1 (by omega) hlink (fun _ z => z) hfs hdg ?_
          unfold FR at hfr
          split at hm
          · next hz =>
            cases hm
            simp only [hz] at hfr
            exact kk _ _ _ _ _ _ ⟨ws, tys, hK, hP, hD, hS, hE, hH, hL, ⟨_, _, rfl, hfr, hSt⟩, hc, hs⟩
          · next hz =>
            cases hm
            simp only [hz] at hfr
            exact kk _ _ _ _ _ _ ⟨ws, tys, hK, hP, hD, hS, hE, hH, hL, ⟨_, _, rfl, hfr, hSt⟩, hc, hs⟩
          · next hz =>
            cases hm
            simp only [hz] at hfr
            exact kk _ _ _ _ _ _ ⟨ws, tys, hK, hP, hD, hS, hE, hH, hL, ⟨_, _, rfl, hfr, hSt⟩, hc, hs⟩
          · next hz =>
            cases hm
            simp only [hz] at hfr
            exact kk _ _ _ _ _ _ ⟨ws, tys, hK, hP, hD, hS, hE, hH, hL, ⟨_, _, rfl, hfr.inr, hSt⟩, hc, hs⟩
          · cases hm
        · dsimp only at h0; omega
        · dsimp only at h0; omega
        · dsimp only at h0; omega
      · cases hm
    · cases hm
  · cases hm
/-- writing a field: the machine's part -/
theorem sn_put0 {idx : Nat} {own : String} {q : vw_C} {ws : va_W} {tys : List (ClassId × FieldType)} {H : Heap} {locs : List Loc} {cells slots : Nat} {ls : Array Slot} {st : List Value} {k a ci j : Nat} {fs : List Value} {v : Value} (hx : p.tables.exec = Jvm.exec) (hb : c.code = cc) (hts : ∀ w ∈ gtbl, w.before args s = true) (hown : s.vm.findClass own = some m.cls) (hq : vwCl[ci]? = some q) (hlink : (Cond.fieldLink own idx (q.2.1 j).1 (q.2.1 j).2.1 (q.2.1 j).2.2.1).before args s = true)
    (hfin : (q.2.1 j).2.2.2 = false ∨ ((q.2.1 j).2.2.2 = true ∧ meth.name = "<init>" ∧ (q.2.1 j).1 = own)) (hdg : decode cc pc = .ok (.putfield idx, 3)) (hK : va_K D vwCl tys s) (hP : va_P D vwCl ws H) (hD : va_D A ws) (hS : va_S A s.heap H locs) (he : ws[k]? = some (a, .inr (ci, fs))) (hj : j < q.2.2) (hl : j < fs.length)
    {t : Nat → FieldType} (hty : ∀ k, k < q.2.2 → parseFieldDescriptor (q.2.1 k).2.2.1 = some (t k)) (hnm : ∀ a, a < q.2.2 → ∀ b, b < q.2.2 → a ≠ b → (q.2.1 a).2.1 ≠ (q.2.1 b).2.1) (hin : ∀ w ∈ u_ws q.1 q.2.1 q.2.2, w ∈ gtbl) (hn : narrow (t j) v = v) (hft : fits (t j) v = true)
    (kk : ∀ (H1 : Heap) (locs1 : List Loc), va_P D vwCl (ws.set k (a, .inr (ci, fs.set j v))) H1 → va_D A (ws.set k (a, .inr (ci, fs.set j v))) → va_S A s.heap H1 locs1 → W p l e R s m args below meth c H1 locs1 cells slots Q (F0 m (pc + 3) ls st)) : W p l e R s m args below meth c H locs cells slots Q (F0 m pc ls (v :: .ref a :: st)) := by
  rcases hfin with hfin | ⟨hfin, hi1, hi2⟩
  · exact va_put hx hb hts hin t hty hnm hown hK hP hD hS k he hq j hj hlink (fun _ z => z) hfin (hty j hj) hn hft hl hdg kk
  · exact va_putF hx hb hts hin t hty hnm hown hK hP hD hS k he hq j hj hlink (fun _ z => z) hfin hi1 hi2 (hty j hj) hn hft hl hdg kk
/-- writing a field: the picture's part -/
theorem CR.put {tys : List (ClassId × FieldType)} {h h' : MH} {ws ws' : va_W} {k ci n j : Nat} {fs : List Value} {v : Value} (q : CR tys h ws k (ci, n) (.inr (ci, fs))) (hm : ∀ i, i ≠ j → mh_m h' k i = mh_m h k i) (hr : ∀ i, i ≠ j → mh_r h' k i = mh_r h k i) (hx : EX ws ws') (hv : FR h' ws' k j (m_fty ci j) v) : CR tys h' ws' k (ci, n) (.inr (ci, fs.set j v)) := by
  rcases q with ⟨h0, fs', q, h1, h2, h3, h4, h5⟩ | ⟨h0, cA, f, t0, h1, -⟩ | ⟨h0, cA, f, t0, h1, -⟩ | ⟨ci, q, h0, h00, h000, cA, f, t0, h1, -⟩
  · cases h1
    refine Or.inl ⟨h0, _, q, rfl, by rw [List.length_set]; exact h2, h3, h4, fun i w hw => ?_⟩
    by_cases hi : i = j
    · subst hi
      by_cases hl : i < fs.length
      · rw [List.getElem?_set_self hl] at hw
        cases hw
        exact hv
      · rw [List.getElem?_eq_none (by simpa using Nat.not_lt.mp hl)] at hw
        cases hw
    · rw [List.getElem?_set_ne (Ne.symm hi)] at hw
      exact (h5 i w hw).mono (hm i hi) (hr i hi) hx
  · cases h1
  · cases h1
  · cases h1
theorem m_set_self {α : Type} (f : Nat → Nat → α) (a j : Nat) (v : α) : m_set f a j v a j = v := by simp [m_set]
theorem m_set_ne {α : Type} (f : Nat → Nat → α) {a j i b : Nat} (v : α) (h : ¬ (i = a ∧ b = j)) : m_set f a j v i b = f i b := by simp [m_set, h]
theorem sn_putfield {idx : Nat} {own : String} {q : vw_C} (hx : p.tables.exec = Jvm.exec) (hb : c.code = cc) (hts : ∀ w ∈ gtbl, w.before args s = true) (hown : s.vm.findClass own = some m.cls) (hq : vwCl[d.1]? = some q) (hf : cl_fact d.1 q) (hlink : (Cond.fieldLink own idx (q.2.1 d.2.1).1 (q.2.1 d.2.1).2.1 (q.2.1 d.2.1).2.2.1).before args s = true)
    (hfin : (q.2.1 d.2.1).2.2.2 = false ∨ ((q.2.1 d.2.1).2.2.2 = true ∧ meth.name = "<init>" ∧ (q.2.1 d.2.1).1 = own))
    (hdg : decode cc pc = .ok (.putfield idx, 3)) (hm : m_one x (.putfield idx) d L S h = some (L', S', h')) (kk : WW p l e R s m args below meth c Q D A sp w0 nL nc0 ns0 (pc + 3) L' S' h') : WW p l e R s m args below meth c Q D A sp w0 nL nc0 ns0 pc L S h := by
  obtain ⟨t, ht, hty, hnm, hin⟩ := hf
  have hfty : ∀ j, m_fty d.1 j = m_ty (t j) := fun j => by unfold m_fty; rw [ht]
  unfold m_one at hm
  dsimp only at hm
  split at hm
  · next z k S0 =>
    split at hm
    · next ci n hk =>
      split at hm
      · next hcond =>
        cases hm
        intro H locs cells slots ls st ⟨ws, tys, hK, hP, hD, hS, hE, hH, hL, hSt, hc, hs⟩
        obtain ⟨v1, st1, rfl, ⟨y', rfl, rfl⟩, v2, st2, rfl, ⟨a, rfl, ha⟩, hSt⟩ := hSt
        obtain ⟨e, he, hC⟩ := hH.at hk ha
        obtain ⟨hci, hc100, hj, hcty⟩ := hcond
        subst hci
        have hC0 := hC
        rcases hC with ⟨h0, fs, q', h1, h2, h3, h4, h5⟩ | ⟨h0, -⟩ | ⟨h0, -⟩ | ⟨ci, q', h0, -⟩
        · dsimp only at h1 h2 h3 h4 h5 h0
          subst h1
          cases hq.symm.trans h3
          have hjf : d.2.1 < fs.length := by omega
          have hnf : narrow (t d.2.1) (.int y') = .int y' ∧ fits (t d.2.1) (.int y') = true := by
            rw [hfty] at hcty
            rcases hcty with hcty | ⟨hcty, hz⟩
            · cases htt : t d.2.1 <;> rw [htt] at hcty <;> simp [m_ty] at hcty
              exact ⟨rfl, rfl⟩
            · cases htt : t d.2.1 <;> rw [htt] at hcty <;> simp [m_ty] at hcty
              rcases hz with hz | hz
              · have : y' = 0 := Int32.toInt_inj.mp hz
                subst this; exact ⟨rfl, rfl⟩
              · have : y' = 1 := Int32.toInt_inj.mp hz
                subst this; exact ⟨rfl, rfl⟩
          refine sn_put0 hx hb hts hown hq hlink hfin hdg hK hP hD hS he (by omega) hjf hty hnm hin hnf.1 hnf.2 (fun H1 locs1 hP1 hD1 hS1 => ?_)
          refine kk _ _ _ _ _ _ ⟨_, tys, hK, hP1, hD1, hS1, hE.trans (EX.set he), hH.wr hk he rfl (fun i j hi => m_set_ne _ _ (fun z => hi z.1)) (fun i j hi => rfl) (CR.put hC0 (fun i hi => m_set_ne _ _ (fun z => hi z.2)) (fun _ _ => rfl) (EX.set he) ?_), hL.mono (EX.set he), hSt.mono (EX.set he), hc, hs⟩
          unfold FR
          rcases hcty with hcty | ⟨hcty, -⟩ <;> rw [hcty] <;> exact ⟨_, rfl, (m_set_self _ _ _ _).symm⟩
        · dsimp only at h0; omega
        · dsimp only at h0; omega
        · dsimp only at h0; omega
      · cases hm
    · cases hm
  · next z k S0 =>
    split at hm
    · next ci n hk =>
      split at hm
      · next hcond =>
        cases hm
        intro H locs cells slots ls st ⟨ws, tys, hK, hP, hD, hS, hE, hH, hL, hSt, hc, hs⟩
        obtain ⟨v1, st1, rfl, ⟨y', rfl, rfl⟩, v2, st2, rfl, ⟨a, rfl, ha⟩, hSt⟩ := hSt
        obtain ⟨e, he, hC⟩ := hH.at hk ha
        obtain ⟨hci, hc100, hj, hcty⟩ := hcond
        subst hci
        have hC0 := hC
        rcases hC with ⟨h0, fs, q', h1, h2, h3, h4, h5⟩ | ⟨h0, -⟩ | ⟨h0, -⟩ | ⟨ci, q', h0, -⟩
        · dsimp only at h1 h2 h3 h4 h5 h0
          subst h1
          cases hq.symm.trans h3
          have hjf : d.2.1 < fs.length := by omega
          have hnf : narrow (t d.2.1) (.long y') = .long y' ∧ fits (t d.2.1) (.long y') = true := by
            rw [hfty] at hcty
            cases htt : t d.2.1 <;> rw [htt] at hcty <;> simp [m_ty] at hcty
            exact ⟨rfl, rfl⟩
          refine sn_put0 hx hb hts hown hq hlink hfin hdg hK hP hD hS he (by omega) hjf hty hnm hin hnf.1 hnf.2 (fun H1 locs1 hP1 hD1 hS1 => ?_)
          refine kk _ _ _ _ _ _ ⟨_, tys, hK, hP1, hD1, hS1, hE.trans (EX.set he), hH.wr hk he rfl (fun i j hi => m_set_ne _ _ (fun z => hi z.1)) (fun i j hi => rfl) (CR.put hC0 (fun i hi => m_set_ne _ _ (fun z => hi z.2)) (fun _ _ => rfl) (EX.set he) ?_), hL.mono (EX.set he), hSt.mono (EX.set he), hc, hs⟩
          unfold FR
          rw [hcty]
          exact ⟨_, rfl, (m_set_self _ _ _ _).symm⟩
        · dsimp only at h0; omega
        · dsimp only at h0; omega
        · dsimp only at h0; omega
      · cases hm
    · cases hm
  · next z k S0 =>
    split at hm
    · next ci n hk =>
      split at hm
      · next hcond =>
        cases hm
        intro H locs cells slots ls st ⟨ws, tys, hK, hP, hD, hS, hE, hH, hL, hSt, hc, hs⟩
        obtain ⟨v1, st1, rfl, ⟨y', rfl, hy⟩, v2, st2, rfl, ⟨a, rfl, ha⟩, hSt⟩ := hSt
        obtain ⟨e, he, hC⟩ := hH.at hk ha
        obtain ⟨hci, hc100, hj, hcty⟩ := hcond
        subst hci
        have hC0 := hC
        rcases hC with ⟨h0, fs, q', h1, h2, h3, h4, h5⟩ | ⟨h0, -⟩ | ⟨h0, -⟩ | ⟨ci, q', h0, -⟩
        · dsimp only at h1 h2 h3 h4 h5 h0
          subst h1
          cases hq.symm.trans h3
          have hjf : d.2.1 < fs.length := by omega
          have hnf : narrow (t d.2.1) (.ref y') = .ref y' ∧ fits (t d.2.1) (.ref y') = true := by
            rw [hfty] at hcty
            cases htt : t d.2.1 <;> rw [htt] at hcty <;> simp [m_ty] at hcty <;> exact ⟨rfl, rfl⟩
          refine sn_put0 hx hb hts hown hq hlink hfin hdg hK hP hD hS he (by omega) hjf hty hnm hin hnf.1 hnf.2 (fun H1 locs1 hP1 hD1 hS1 => ?_)
          refine kk _ _ _ _ _ _ ⟨_, tys, hK, hP1, hD1, hS1, hE.trans (EX.set he), hH.wr hk he rfl (fun i j hi => rfl) (fun i j hi => m_set_ne _ _ (fun z => hi z.1)) (CR.put hC0 (fun _ _ => rfl) (fun i hi => m_set_ne _ _ (fun z => hi z.2)) (EX.set he) ?_), hL.mono (EX.set he), hSt.mono (EX.set he), hc, hs⟩
          unfold FR
          rw [hcty]
          show VR _ _ (.inr (.inl (m_set (mh_r h) k d.2.1 (some z) k d.2.1))) _
          rw [m_set_self]
          exact ⟨_, rfl, EX.set he _ _ hy⟩
        · dsimp only at h0; omega
        · dsimp only at h0; omega
        · dsimp only at h0; omega
      · cases hm
    · cases hm
  · cases hm
end HEAP
