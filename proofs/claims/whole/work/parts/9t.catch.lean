/-! ===== written by hand: the two calls of the law that catch ===== -/
abbrev xE : String := "java/util/NoSuchElementException"
abbrev xN : List String := ["java/lang/RuntimeException", "java/lang/Exception"]
theorem xw_good : ∀ w ∈ vx_at0 RX11 154 xE xN, goodWord w = true ∨ w.faceAtom = true := by decide +kernel
theorem xw_tab : ∀ w ∈ vx_at0 RX11 154 xE xN, w.faceAtom = true → w.onTables = true := by decide +kernel
theorem xw_in : ∀ w ∈ vx_at0 RX11 154 xE xN, w ∈ lw_tbl := by decide +kernel
theorem xw_gt : ∀ w ∈ vx_at0 RX11 154 xE xN, w ∈ gtbl ∨ w.faceAtom = true := fun w hw => (xw_good w hw).imp (fun h => List.mem_filter.mpr ⟨xw_in w hw, h⟩) id
theorem face_mv {s U : State} {a a' : Array Value} {w : Cond} (hf : w.faceAtom = true) (ht : w.onTables = true) (hv : s.vm.Alike U.vm) (h : w.before a s = true) : w.before a' U = true := by
  have h1 := Cond.faceAtom_setVm (args := a) hv w hf h
  rw [Cond.onTables_vm (A' := a') (U' := U) U.vm w ht] at h1
  exact h1
def FCs (U : State) : Prop := ∀ w ∈ vx_at0 RX11 154 xE xN, w.faceAtom = true → w.before #[] U = true
theorem FCs.mv {s U : State} (hv : s.vm.Alike U.vm) (h : FCs s) : FCs U := fun w hw hf => face_mv hf (xw_tab w hw hf) hv (h w hw hf)
theorem xc_at : Cond.castable xE xE ∈ vx_at0 RX11 154 xE xN := by decide +kernel
theorem xw_ot : ∀ w ∈ Cond.classLink RX11 152 xE :: Cond.initialized xE :: vx_at0 RX11 154 xE xN, vx_ot w = true := by decide +kernel
theorem xk_gt : Cond.classLink RX11 152 xE ∈ gtbl := List.mem_filter.mpr ⟨by decide +kernel, rfl⟩
theorem xi_gt : Cond.initialized xE ∈ gtbl := List.mem_filter.mpr ⟨by decide +kernel, rfl⟩
/-- what a method that throws must find of the tables' statics -/
def XZs (A : Nat → Prop) (U : State) (H : Heap) : Prop := vx_Zq Bundle.tN "UNASSIGNED_STACK" Bundle.steD A U H ∧ vx_Zq Bundle.tN "SUPPRESSED_SENTINEL" Bundle.listD A U H ∧ FCs U
def MPx (D : va_G) (ad av : Nat → Nat) (ws : va_W) (tys : List (ClassId × FieldType)) (sz : Nat) (avs : List Value) : Array Value → State → Prop := fun a U => MPc D ad av ws tys sz avs a U ∧ XZs (va_A ws sz) U U.heap
theorem MPx.blind (D : va_G) (ad av : Nat → Nat) (ws : va_W) (tys : List (ClassId × FieldType)) (sz : Nat) (avs : List Value) : FrameBlind (MPx D ad av ws tys sz avs) := by
  intro a U g mk ⟨h, z1, z2, z3⟩
  exact ⟨MPc.blind _ _ _ _ _ _ _ a U g mk h, vx_Zq.moved (u := U) (U := U.calling g mk a) (Vm.Alike.refl U.vm) z1, vx_Zq.moved (u := U) (U := U.calling g mk a) (Vm.Alike.refl U.vm) z2, FCs.mv (s := U) (U := U.calling g mk a) (Vm.Alike.refl U.vm) z3⟩
theorem MPx.at {s : State} {A : Nat → Prop} {D : va_G} {ad av : Nat → Nat} {ws : va_W} {tys : List (ClassId × FieldType)} {H : Heap} {locs : List Loc} {avs : List Value} (hA : ∀ q, s.heap.size ≤ q → A q) (hTX : TXT ad av A s s.heap) (hZ : XZs A s s.heap) (hK : va_K D vwCl tys s) (hP : va_P D vwCl ws H) (hD : va_D A ws) (hS : va_S A s.heap H locs) : ∀ U : State, U.heap = H → s.WarmedH U.vm → MPx D ad av ws tys H.size avs avs.toArray U := by
  intro U hU hW
  have hF : ∀ q, va_A ws H.size q → A q := va_free hD hS hA (List.range ws.length) (by
    apply List.ext_getElem?
    intro i
    by_cases hi : i < ws.length
    · simp [hi]
    · simp [Nat.not_lt.mp hi])
  refine ⟨MPc.at hA hTX hK hP hD hS U hU hW, ?_, ?_, FCs.mv hW.alike hZ.2.2⟩
  · rw [hU]; exact ((hZ.1.kept hS.2.1).narrow hF).moved hW.alike
  · rw [hU]; exact ((hZ.2.1.kept hS.2.1).narrow hF).moved hW.alike
/-- how a call that ended by a throw leaves things -/
def XCx (D : va_G) (ws : va_W) (sz : Nat) (r : MR) : String → State → State → Prop := fun E st t => r.1 = none ∧ E = xE ∧ (∃ (ws' : va_W) (tys' : List (ClassId × FieldType)), EX ws ws' ∧ HR tys' r.2 ws' ∧ va_P D vwCl ws' t.heap ∧ va_K D vwCl tys' t ∧ va_D (va_A ws sz) ws') ∧ va_F (va_A ws sz) st t
/-- where a method throws, it throws xE -/
def THRx (M : MM) (F : MF) : Prop := ∀ (k : Nat) (i : Instr) (d : ML) (pc : Nat), M.1[k]? = some (i, d) → (f_p F)[k]? = some pc → m_spec i = false → d.1 = 200 → d.2.1 = 6 ∧ decode (f_c F) pc = .ok (.new 152, 3) ∧ decode (f_c F) (pc + 3) = .ok (.dup, 1) ∧ decode (f_c F) (pc + 4) = .ok (.invokespecial 154, 3) ∧ decode (f_c F) (pc + 7) = .ok (.athrow, 1)
abbrev rmX (h : MH) (r : MR) : Room := { frames := 8, cells := mh_c r.2 - mh_c h, slots := mh_s r.2 - mh_s h, locals := 100 }
set_option maxHeartbeats 4000000 in
theorem xmet_of {l : Launch} {n : Nat} (hn : SND PT FT l n) (hl : l.stackTraces = false) {M : MM} {F : MF} (hM : MOK PT FT M F) (hnc : NCA M) (hT : THRx M F) (hcls : (f_y F).cls = RX11) (hff : f_f F ≤ 8 ∧ f_o F ≤ 100) {vs : List MV} {h : MH} {r : MR} (hl1 : (m_sl vs).length ≤ M.2.1) (hpl : vs.all m_plain = true) (hr : m_run PT none n M.1 0 (m_ent vs M.2.1) [] h = some r)
    (D : va_G) (ad av : Nat → Nat) (sz : Nat) (ws : va_W) (tys : List (ClassId × FieldType)) (avs : List Value) (hH : HR tys h ws) (hvs : SR ws (fun _ => 0) vs avs) :
    vx_Met l (f_y F) (gw F) (rmX h r) (MPx D ad av ws tys sz avs) (MQc D ws sz r) (XCx D ws sz r) (mh_c r.2 - mh_c h) (mh_s r.2 - mh_s h) (va_A ws sz) := by
  have hg := m_run_grow n hr
  refine vx_ofW (cc := f_c F) (maxL := f_L F) (ret := f_r F) hM.1 rfl ?_
  intro p e s m args below meth c s₁ B hml hex hv
  obtain ⟨⟨rfl, hsz, hP, hK, hD0, hTX⟩, hZ⟩ := hv
  subst hsz
  have hts := atoms_spec (ws := gw F) B.pre
  have hlocks := B.notSynchronized
  have hret := B.returns
  have hfind := findClass_of_methodNamed B.named
  have hX : CTX p (rmX h r) s m avs.toArray meth c F none (va_A ws s.heap.size) (spC ad) ad av :=
    ⟨B.exec, B.bytes, hml, hfind, fun w hw => hts w (List.mem_cons_of_mem _ hw), fun q hq => Or.inr hq, fun hi => (name_of_methodNamed B.named B.method).1.trans hi, trivial, hTX, fun _ => rfl, hff.1, hff.2⟩
  have hw := hn none M F hM p e (rmX h r) s m avs.toArray below meth c (vx_MQ below (MQc D ws s.heap.size r) (XCx D ws s.heap.size r) avs.toArray s (mh_c r.2 - mh_c h) (mh_s r.2 - mh_s h) (va_A ws s.heap.size)) D (va_A ws s.heap.size) (spC ad) ad av ws (mh_c h) (mh_s h) hX 0 (m_ent vs M.2.1) [] h r 0 hr ?_ hM.2.2.1 (show mh_c r.2 ≤ mh_c h + (mh_c r.2 - mh_c h) by have := hg.1; omega) (show mh_s r.2 ≤ mh_s h + (mh_s r.2 - mh_s h) by have := hg.2; omega) ?_ ?_
  · rw [lg_entry_eq]
    have hvs' : SR ws (spC ad) vs avs := SR.plain hpl hvs
    exact hw _ _ _ _ _ _ ⟨ws, tys, hK, hP, hD0.self, va_S.rf, EX.refl _, hH, by rw [hM.2.1]; exact LR.entry hvs' hl1, rfl, rfl, rfl⟩
  · intro k i d pc L h1 hk hpc hdg hsp h200 hr0
    obtain ⟨hd6, d0, d3, d4, d7⟩ := hT k i d pc hk hpc hsp h200
    intro H locs cells slots ls st ⟨ws', tys', hK', hP', hD', hS', hE', hH', hL', hSt', hc', hs'⟩
    cases hSt'
    subst hr0
    have e1 : mh_c h1 = mh_c h + cells := hc'
    have e2 : mh_s h1 = mh_s h + slots := hs'
    have e3 : mh_c h1 + 1 - mh_c h = cells + 1 := by omega
    have e4 : mh_s h1 + d.2.1 - mh_s h = slots + 6 := by rw [hd6]; omega
    refine vx_throw0 (own := RX11) (cls := xE) (names := xN) (ik := 152) (ic := 154) (A := va_A ws s.heap.size) B.exec B.bytes hl (hcls ▸ hfind) (by decide) (by decide) (hts _ (List.mem_cons_of_mem _ xk_gt)) (hts _ (List.mem_cons_of_mem _ xi_gt)) (fun w hw => (xw_gt w hw).elim (fun q => hts w (List.mem_cons_of_mem _ q)) (fun q => face_mv q (xw_tab w hw q) (Vm.Alike.refl s.vm) (hZ.2.2 w hw q))) xw_ot hZ.1 hZ.2.1 hS' (hL'.2.1.trans hml.symm) d0 d3 d4 d7 (fun x hx => (hex x hx).elim) (Nat.le_of_ble_eq_true rfl) (Nat.le_of_ble_eq_true rfl) (show cells + 1 ≤ mh_c h1 + 1 - mh_c h by omega) (show slots + 6 ≤ mh_s h1 + d.2.1 - mh_s h by omega) hlocks (fun t ht hz hq => ?_) hS'.2.2 (show cells + 1 ≤ mh_c h1 + 1 - mh_c h by omega) (show slots + 6 ≤ mh_s h1 + d.2.1 - mh_s h by omega)
    refine ⟨rfl, rfl, ⟨ws', tys', hE', hH', hP'.kept (fun k q hk => hq _ (vx_lt hP' hk)), va_K.moved ht hK', hD'⟩, Nat.le_trans hS'.1 hz, fun q h1 h2 => ?_⟩
    rw [hq q (Nat.lt_of_lt_of_le h1 hS'.1)]
    exact hS'.2.1 q h1 h2
  · intro k i d pc L S hk hpc hdg hst
    obtain ⟨pc', len, i1, i2, i3, i4, i5, i6⟩ := hM.2.2.2 k i d hk
    rcases m_jmp_ret hst with ⟨rfl, z, rfl, hz, hr0⟩ | ⟨rfl, z, rfl, hr0⟩ | ⟨rfl, rfl, hr0⟩
    · intro H locs cells slots ls st ⟨ws', tys', hK', hP', hD', hS', hE', hH', hL', hSt', hc', hs'⟩
      obtain ⟨v1, st1, rfl, ⟨y, rfl, hy⟩, hnil⟩ := hSt'
      cases hnil
      obtain ⟨ro, rh⟩ := r
      cases hr0
      obtain rfl : cells = mh_c rh - mh_c h := by have : mh_c rh = mh_c h + cells := hc'; omega
      obtain rfl : slots = mh_s rh - mh_s h := by have : mh_s rh = mh_s h + slots := hs'; omega
      refine vx_ret ?_
      rcases i6 with ⟨hd, hr0⟩ | ⟨hd, hr0⟩
      · exact W.iret B.exec B.bytes (hret.trans hr0) (fun t ht hW => ⟨⟨_, ws', tys', rfl, ⟨_, rfl, hy⟩, hE', hH', by rw [ht]; exact hP', va_K.moved hW.alike hK', hD'⟩, hS'.F ht⟩) hS'.2.2 hdg hlocks
      · have hnar : narrow .boolean (.int y) = .int y := by
          rcases hz with hz | hz | hz
          · omega
          · have : y = 0 := Int32.toInt_inj.mp (hy.trans hz)
            subst this; rfl
          · have : y = 1 := Int32.toInt_inj.mp (hy.trans hz)
            subst this; rfl
        exact W.zret B.exec B.bytes (hret.trans hr0) hnar (fun t ht hW => ⟨⟨_, ws', tys', rfl, ⟨_, rfl, hy⟩, hE', hH', by rw [ht]; exact hP', va_K.moved hW.alike hK', hD'⟩, hS'.F ht⟩) hS'.2.2 hdg hlocks
    · intro H locs cells slots ls st ⟨ws', tys', hK', hP', hD', hS', hE', hH', hL', hSt', hc', hs'⟩
      obtain ⟨v1, st1, rfl, ⟨y, rfl, hy⟩, hnil⟩ := hSt'
      cases hnil
      obtain ⟨ro, rh⟩ := r
      cases hr0
      obtain rfl : cells = mh_c rh - mh_c h := by have : mh_c rh = mh_c h + cells := hc'; omega
      obtain rfl : slots = mh_s rh - mh_s h := by have : mh_s rh = mh_s h + slots := hs'; omega
      refine vx_ret ?_
      exact W.lret B.exec B.bytes (hret.trans i6) (fun t ht hW => ⟨⟨_, ws', tys', rfl, ⟨_, rfl, hy⟩, hE', hH', by rw [ht]; exact hP', va_K.moved hW.alike hK', hD'⟩, hS'.F ht⟩) hS'.2.2 hdg hlocks
    · intro H locs cells slots ls st ⟨ws', tys', hK', hP', hD', hS', hE', hH', hL', hSt', hc', hs'⟩
      cases hSt'
      obtain ⟨ro, rh⟩ := r
      cases hr0
      obtain rfl : cells = mh_c rh - mh_c h := by have : mh_c rh = mh_c h + cells := hc'; omega
      obtain rfl : slots = mh_s rh - mh_s h := by have : mh_s rh = mh_s h + slots := hs'; omega
      refine vx_ret ?_
      exact W.vret B.exec B.bytes (hret.trans i6) (fun t ht hW => ⟨⟨_, ws', tys', rfl, rfl, hE', hH', by rw [ht]; exact hP', va_K.moved hW.alike hK', hD'⟩, hS'.F ht⟩) hS'.2.2 hdg hlocks
  · intro k idx d pc L S S' S'' vs' h1 h2 r1 C' nL' np n' hk _ _ hd1 hd2
    exact absurd hd2 (hnc k idx d hk hd1)
section CATCH
variable {p : Program} {l : Launch} {e : Env} {R : Room} {s : State} {m : MethodId} {args : Array Value} {below : List Frame} {meth : Method} {c : Code} {Q : State → Prop} {D : va_G} {A : Nat → Prop} {sp ad av : Nat → Nat} {w0 : va_W} {nL nc0 ns0 : Nat} {pc : Nat} {L : List (Option MV)} {S0 : List MV} {h : MH}
/-- what stands after a call, ended by v or by a throw -/
theorem after_rel {ws ws' : va_W} {tys' : List (ClassId × FieldType)} {H : Heap} {locs Lc : List Loc} {cells slots : Nat} {ls : Array Slot} {rest : List Value} {t st₀ T' : State} {h' : MH} (hA : ∀ q, s.heap.size ≤ q → A q) (hD : va_D A ws) (hS : va_S A s.heap H locs) (hE : EX w0 ws) (hL : LR ws sp L ls nL) (hSt : SR ws sp S0 rest) (hc : mh_c h = nc0 + cells) (hs : mh_s h = ns0 + slots) (hg : mh_c h ≤ mh_c h' ∧ mh_s h ≤ mh_s h')
    (h0 : st₀.heap = H) (hLc : ∀ q ∈ Lc, va_A ws H.size q.base) (e1 : T'.heap = t.heap) (hvm : s.vm.Alike t.vm) (hEX : EX ws ws') (hHR : HR tys' h' ws') (hP' : va_P D vwCl ws' t.heap) (hK' : va_K D vwCl tys' t) (hD' : va_D (va_A ws H.size) ws') (hF : va_F (va_A ws H.size) st₀ t) :
    mRel D A sp w0 nL nc0 ns0 s L S0 h' T'.heap (locs ++ Lc) (cells + (mh_c h' - mh_c h)) (slots + (mh_s h' - mh_s h)) ls rest := by
  obtain ⟨hFz, hFk⟩ := hF
  have hF : ∀ q, va_A ws H.size q → A q := va_free hD hS hA (List.range ws.length) (by
    apply List.ext_getElem?
    intro i
    by_cases hi : i < ws.length
    · simp [hi]
    · simp [Nat.not_lt.mp hi])
  rw [h0] at hFz hFk
  exact ⟨ws', tys', va_K.moved hvm.symm hK', by rw [e1]; exact hP', hD'.weaken (fun _ q _ z => hF q.1 z), ⟨Nat.le_trans hS.1 (by rw [e1]; exact hFz), fun q h1 h2 => by rw [e1, hFk q (Nat.lt_of_lt_of_le h1 hS.1) (fun z => h2 (hF q z))]; exact hS.2.1 q h1 h2, fun q hq => by
      rcases List.mem_append.mp hq with hq | hq
      · exact hS.2.2 q hq
      · exact hF _ (hLc q hq)⟩, hE.trans hEX, hHR, hL.mono hEX, hSt.mono hEX, by omega, by omega⟩
set_option maxHeartbeats 4000000 in
theorem sn_callX {G : MF} {r1 : MR} {x : Nat} {a b : Int} {cc : ByteArray} {own : String} {idx : Nat} (h1 : p.tables.exec = Jvm.exec) (h2 : c.code = cc) (h3 : c.maxLocals = nL) (h4 : s.vm.findClass own = some m.cls) (h5 : ∀ w ∈ gtbl, w.before args s = true) (h6 : ∀ q, s.heap.size ≤ q → A q) (h9 : TXT ad av A s s.heap) (hZ : XZs A s s.heap) (hR : 8 + 1 ≤ R.frames ∧ 8 + (f_L G + 11) + 100 ≤ R.locals)
    (hcls : (f_y G).cls = RX11) (hlink : Cond.methodLink own idx (f_y G) ∈ gtbl) (hin : Cond.instanceMethod (f_y G) ∈ gtbl) (hsel : Cond.selects RX11 (f_y G) (f_y G) ∈ gtbl) (hini : Cond.initialized RX11 ∈ gtbl) (hcode : Cond.code (f_y G) (f_c G) (f_L G) (f_r G) ∈ gtbl) (hn : m_npar G 2) (hdg : decode cc pc = .ok (.invokevirtual idx, 3))
    (hMet : ∀ (D : va_G) (ad av : Nat → Nat) (sz : Nat) (ws : va_W) (tys : List (ClassId × FieldType)) (avs : List Value), HR tys h ws → SR ws (fun _ => 0) [mR x, mI a, mI b] avs → vx_Met l (f_y G) (gw G) (rmX h r1) (MPx D ad av ws tys sz avs) (MQc D ws sz r1) (XCx D ws sz r1) (mh_c r1.2 - mh_c h) (mh_s r1.2 - mh_s h) (va_A ws sz))
    (hkx : ((mh_k h)[x]?).map Prod.fst = some 11) (hg : mh_c h ≤ mh_c r1.2 ∧ mh_s h ≤ mh_s r1.2) (hrm : mh_c r1.2 ≤ nc0 + R.cells ∧ mh_s r1.2 ≤ ns0 + R.slots) (hw : m_w S0 ≤ 8)
    (kk : ∀ v, r1.1 = some v → WW p l e R s m args below meth c Q D A sp w0 nL nc0 ns0 (pc + 3) L (v.toList ++ S0) r1.2)
    (kx : r1.1 = none → ∀ (H : Heap) (locs : List Loc) (cells slots : Nat) (ls : Array Slot) (rest : List Value) (q : Addr) (ce : Cell), mRel D A sp w0 nL nc0 ns0 s L S0 r1.2 H locs cells slots ls rest → H[q]? = some ce → ce.vm = .none → s.vm.findClass xE = some ce.cls → vx_W p l e R s m args below meth c H locs cells slots Q (F0 m pc ls rest) q) :
    WW p l e R s m args below meth c Q D A sp w0 nL nc0 ns0 pc L (mI b :: mI a :: mR x :: S0) h := by
  intro H locs cells slots ls st ⟨ws, tys, hK, hP, hD, hS, hE, hH, hL, hSt, hc, hs⟩
  obtain ⟨v1, st1, rfl, ⟨yb, rfl, hyb⟩, v2, st2, rfl, ⟨ya, rfl, hya⟩, v3, rest, rfl, ⟨ab, rfl, hab⟩, hSt0⟩ := hSt
  have hvs : SR ws (fun _ => 0) [mR x, mI a, mI b] [.ref ab, .int ya, .int yb] := ⟨_, _, rfl, ⟨ab, rfl, hab⟩, _, _, rfl, ⟨ya, rfl, hya⟩, _, _, rfl, ⟨yb, rfl, hyb⟩, rfl⟩
  have hMt := hMet D ad av H.size ws tys _ hH hvs
  obtain ⟨kd, hkk, hkd⟩ : ∃ kd, (mh_k h)[x]? = some kd ∧ kd.1 = 11 := by
    cases hq : (mh_k h)[x]? with
    | none => rw [hq] at hkx; cases hkx
    | some kd => rw [hq] at hkx; exact ⟨kd, rfl, Option.some.inj hkx⟩
  obtain ⟨ci, nn⟩ := kd
  cases hkd
  obtain ⟨eb, heb, hCb⟩ := hH.at hkk hab
  have hcell : ∃ cellB : Cell, H[ab]? = some cellB ∧ cellB.vm.isStatics = false ∧ s.vm.findClass RX11 = some cellB.cls := by
    rcases hCb with ⟨g0, fs, q', g1, -⟩ | ⟨g0, -⟩ | ⟨g0, -⟩ | ⟨_, _, g0, -⟩
    · dsimp only at g1
      subst g1
      exact va_recv hK hP (show vwCl[11]? = some (RX11, TX11, 17) from rfl) heb
    · dsimp only at g0; omega
    · dsimp only at g0; omega
    · dsimp only at g0; omega
  have hrun := vx_runV (p := p) (l := l) (e := e) (R := R) (below := below) (meth := meth) (H := H) (locs := locs) (cells := cells) (slots := slots) (rest := rest) (b := ab) (C := RX11) (As := [.int ya, .int yb]) (n := 2) (nL := nL) (Ts := gtbl) (own := own) (bytes := f_c G) (maxL := f_L G) (ret := f_r G) (g := F0 m pc ls (.int yb :: .int ya :: .ref ab :: rest)) ⟨h1, h2, h3, h4, h5⟩ hMt (cwV 2 h5 (good_app3 (F := G) hcode (fun w hw => by
      simp only [List.mem_cons, List.not_mem_nil, or_false] at hw
      rcases hw with rfl | rfl | rfl | rfl
      · exact hlink
      · exact hin
      · exact hsel
      · exact hini)) rfl rfl rfl ⟨hcls, by rw [hcls]; decide, by rw [hcls]; decide, hn⟩ hR) ⟨MPx.blind _ _ _ _ _ _ _, hcell, MPx.at h6 h9 hZ hK hP hD hS⟩ rfl rfl hL.2.1 rfl (lv_room (by rw [hSt0.w]; exact hw)) hdg ⟨by omega, by omega⟩
  intro T hT X
  rcases hrun T hT X with ⟨v', st₀, t, T', Lc, h0, X', hLc, e1, e2, ⟨⟨v'', ws', tys', hv, hRV, hEX, hHR, hP', hK', hD'⟩, hF⟩, st⟩ | ⟨q, st₀, t, T', Lc, E, ce, h0, X', hLc, e1, e2, ⟨hnone, rfl, ⟨ws', tys', hEX, hHR, hP', hK', hD'⟩, hF⟩, hce, hcv, hcl, st⟩
  · cases hv
    have hvm : s.vm.Alike t.vm := by rw [← e2]; exact X'.warmed.alike
    have hrel := after_rel (h := h) (S0 := S0) h6 hD hS hE hL hSt0 hc hs hg h0 hLc e1 hvm hEX hHR hP' hK' hD' hF
    cases hr1 : r1.1 with
    | none => rw [hr1] at hRV; exact hRV.elim
    | some v =>
      rw [hr1] at hRV
      obtain ⟨ws2, tys2, a1, a2, a3, a4, a5, a6, a7, a8, a9, a10⟩ := hrel
      have hsr : SR ws2 sp (v.toList ++ S0) (v'.toList ++ rest) := by
        match v, hRV with
        | none, hRV => cases hRV; exact a8
        | some (.inl (.inl z)), hRV => obtain ⟨x, rfl, hx⟩ := hRV; exact ⟨_, _, rfl, ⟨x, rfl, hx⟩, a8⟩
        | some (.inl (.inr z)), hRV => obtain ⟨x, rfl, hx⟩ := hRV; exact ⟨_, _, rfl, ⟨x, rfl, hx⟩, a8⟩
        | some (.inr z), hRV => exact hRV.elim
      obtain ⟨t2, b1, b2⟩ := kk v hr1 T'.heap _ _ _ ls (v'.toList ++ rest) ⟨ws2, tys2, a1, a2, a3, a4, a5, a6, a7, hsr, a9, a10⟩ T' rfl X'
      exact ⟨t2, st t2 b1, b2⟩
  · have hvm : s.vm.Alike t.vm := by rw [← e2]; exact X'.warmed.alike
    have hrel := after_rel (h := h) (S0 := S0) h6 hD hS hE hL hSt0 hc hs hg h0 hLc e1 hvm hEX hHR hP' hK' hD' hF
    obtain ⟨t2, b1, b2⟩ := kx hnone T'.heap _ _ _ ls rest q ce hrel (by rw [e1]; exact hce) hcv hcl T' rfl X'
    exact ⟨t2, st.trans b1, b2⟩
end CATCH
/-- the helper's tables: its name, its bytes, its links -/
def HLPx (yH : MethodName) (cH : ByteArray) (iC : Nat) (G : MF) : Prop := plainName yH.cls = true ∧ yH.cls = RL ∧
  (decode cH 0 = .ok (.aload_n 3, 1) ∧ decode cH 1 = .ok (.iconst 0, 1) ∧ decode cH 2 = .ok (.aload_n 0, 1) ∧ decode cH 3 = .ok (.iload_n 1, 1) ∧ decode cH 4 = .ok (.iload_n 2, 1) ∧ decode cH 5 = .ok (.invokevirtual iC, 3) ∧ decode cH 8 = .ok (.i2l, 1) ∧ decode cH 9 = .ok (.lastore, 1) ∧ decode cH 10 = .ok (.goto 7, 3) ∧ decode cH 13 = .ok (.astore 4, 2) ∧ decode cH 15 = .ok (.iconst 1, 1) ∧ decode cH 16 = .ok (.ireturn, 1) ∧ decode cH 17 = .ok (.iconst 0, 1) ∧ decode cH 18 = .ok (.ireturn, 1)) ∧
  Cond.codeWith yH cH 5 (some .int) [(0, 10, 13, 13)] ∈ gtbl ∧ Cond.methodLink RL iC (f_y G) ∈ gtbl ∧ Cond.instanceMethod (f_y G) ∈ gtbl ∧ Cond.selects RX11 (f_y G) (f_y G) ∈ gtbl ∧ Cond.code (f_y G) (f_c G) (f_L G) (f_r G) ∈ gtbl ∧ m_npar G 2 ∧ f_L G = 3
theorem xl_gt : Cond.classLink RL 13 xE ∈ gtbl := List.mem_filter.mpr ⟨by decide +kernel, rfl⟩
theorem xr_gt : Cond.initialized RX11 ∈ gtbl := List.mem_filter.mpr ⟨by decide +kernel, rfl⟩
abbrev gwH (yH : MethodName) (cH : ByteArray) : List Cond := Cond.codeWith yH cH 5 (some .int) [(0, 10, 13, 13)] :: gtbl
abbrev rmH (h h' : MH) : Room := { frames := 9, cells := mh_c h' - mh_c h, slots := mh_s h' - mh_s h, locals := 122 }
set_option maxHeartbeats 4000000 in
theorem hmet_of {l : Launch} {n : Nat} (hn : SND PT FT l n) (hl : l.stackTraces = false) {M : MM} {G : MF} (hM : MOK PT FT M G) (hnc : NCA M) (hT : THRx M G) (hcls : (f_y G).cls = RX11) (hff : f_f G ≤ 8 ∧ f_o G ≤ 100) (hML : M.2.1 = 3) {yH : MethodName} {cH : ByteArray} {iC : Nat} (hh : HLPx yH cH iC G) {x o : Nat} {a b z : Int} {h h' : MH} {r1 : MR} (hkx : ((mh_k h)[x]?).map Prod.fst = some 11) (hr : m_run PT none n M.1 0 (m_ent [mR x, mI a, mI b] 3) [] h = some r1) (hbk : m_back 1 r1 [mR o] = some ([mI z], h'))
    (D : va_G) (ad av : Nat → Nat) (sz : Nat) (ws : va_W) (tys : List (ClassId × FieldType)) (avs : List Value) (hH : HR tys h ws) (hvs : SR ws (fun _ => 0) [mR x, mI a, mI b, mR o] avs) :
    vx_Met l yH (gwH yH cH) (rmH h h') (MPx D ad av ws tys sz avs) (MQc D ws sz (some (some (mI z)), h')) (fun _ _ _ => False) (mh_c h' - mh_c h) (mh_s h' - mh_s h) (va_A ws sz) := by
  have hg := m_run_grow n hr
  have hgb := m_back_grow hbk
  obtain ⟨y1, y2, ⟨d0, d1, d2, d3, d4, d5, d8, d9, d10, d13, d15, d16, d17, d18⟩, y4, y5, y6, y7, y8, y9, y10⟩ := hh
  refine vx_ofWH (cc := cH) (maxL := 5) (ret := some .int) (hh := [(0, 10, 13, 13)]) y1 rfl ?_
  intro p e s m args below meth c s₁ B hml hv
  obtain ⟨⟨rfl, hsz, hP, hK, hD0, hTX⟩, hZ⟩ := hv
  subst hsz
  have hts := atoms_spec (ws := gwH yH cH) B.pre
  have htab := vx_table (x := yH) B (hts _ List.mem_cons_self)
  have hgt : ∀ w ∈ gtbl, w.before avs.toArray s = true := fun w hw => hts w (List.mem_cons_of_mem _ hw)
  have hfind : s.vm.findClass RL = some m.cls := by
    have := findClass_of_methodNamed B.named
    rw [y2] at this
    exact this
  have hlocks := B.notSynchronized
  have hret := B.returns
  -- the end: z on the stack over h'
  have hend : ∀ (zz : Int) (pc : Nat) (L : List (Option MV)), zz = z → decode cH pc = .ok (.ireturn, 1) → WW p l e (rmH h h') s m avs.toArray below meth c (vx_MQ below (MQc D ws s.heap.size (some (some (mI z)), h')) (fun _ _ _ => False) avs.toArray s (mh_c h' - mh_c h) (mh_s h' - mh_s h) (va_A ws s.heap.size)) D (va_A ws s.heap.size) (spC ad) ws 5 (mh_c h) (mh_s h) pc L [mI zz] h' := by
    intro zz pc L ez hdg
    subst ez
    intro H locs cells slots ls st ⟨ws', tys', hK', hP', hD', hS', hE', hH', hL', hSt', hc', hs'⟩
    obtain ⟨v1, st1, rfl, ⟨y, rfl, hy⟩, hnil⟩ := hSt'
    cases hnil
    obtain rfl : cells = mh_c h' - mh_c h := by omega
    obtain rfl : slots = mh_s h' - mh_s h := by omega
    refine vx_ret ?_
    exact W.iret B.exec B.bytes hret (fun t ht hW => ⟨⟨_, ws', tys', rfl, ⟨_, rfl, hy⟩, hE', hH', by rw [ht]; exact hP', va_K.moved hW.alike hK', hD'⟩, hS'.F ht⟩) hS'.2.2 hdg hlocks
  rw [lg_entry_eq]
  refine (show WW p l e (rmH h h') s m avs.toArray below meth c (vx_MQ below (MQc D ws s.heap.size (some (some (mI z)), h')) (fun _ _ _ => False) avs.toArray s (mh_c h' - mh_c h) (mh_s h' - mh_s h) (va_A ws s.heap.size)) D (va_A ws s.heap.size) (spC ad) ws 5 (mh_c h) (mh_s h) 0 [some (mR x), some (mI a), some (mI b), some (mR o), none] [] h from ?_) _ _ _ _ _ _ ⟨ws, tys, hK, hP, hD0.self, va_S.rf, EX.refl _, hH, LR.entry (vs := [mR x, mI a, mI b, mR o]) (SR.plain rfl hvs) (show (m_sl [mR x, mI a, mI b, mR o]).length ≤ 5 from Nat.le_of_ble_eq_true rfl), rfl, rfl, rfl⟩
  refine sn_aload_n (x := none) (d := (0, 0, 0, [])) B.exec B.bytes d0 rfl ?_
  refine sn_iconst (x := none) (d := (0, 0, 0, [])) B.exec B.bytes (by decide) d1 rfl ?_
  refine sn_aload_n (x := none) (d := (0, 0, 0, [])) B.exec B.bytes d2 rfl ?_
  refine sn_iload_n (x := none) (d := (0, 0, 0, [])) B.exec B.bytes d3 rfl ?_
  refine sn_iload_n (x := none) (d := (0, 0, 0, [])) B.exec B.bytes d4 rfl ?_
  refine sn_callX (G := G) (r1 := r1) (ad := ad) (av := av) B.exec B.bytes hml hfind hgt (fun q hq => Or.inr hq) hTX hZ ⟨Nat.le_of_ble_eq_true rfl, by rw [y10]; exact Nat.le_of_ble_eq_true rfl⟩ hcls y5 y6 y7 xr_gt y8 y9 d5 (fun D ad av sz ws tys avs q1 q2 => xmet_of hn hl hM hnc hT hcls hff (by rw [hML]; exact Nat.le_of_ble_eq_true rfl) rfl (by rw [hML]; exact hr) D ad av sz ws tys avs q1 q2) hkx hg ⟨show mh_c r1.2 ≤ mh_c h + (mh_c h' - mh_c h) by omega, show mh_s r1.2 ≤ mh_s h + (mh_s h' - mh_s h) by omega⟩ (Nat.le_of_ble_eq_true rfl) (fun v hv => ?_) (fun hv => ?_)
  · obtain ⟨ro, h1⟩ := r1
    dsimp only at hv
    subst hv
    -- returned: a number, stored
    match v, hbk with
    | some (.inl (.inl z1)), hbk =>
      have hb2 : (if (mh_k h1)[o]? = some (103, 1) then some ([mI 0], ((mh_k h1, m_set (mh_m h1) o 0 z1, mh_r h1, mh_c h1, mh_s h1) : MH)) else none) = some ([mI z], h') := hbk
      split at hb2
      · next ho =>
        have hz := congrArg (fun q => q.map Prod.fst) hb2
        cases hb2
        refine sn_i2l (x := none) (d := (0, 0, 0, [])) B.exec B.bytes d8 rfl ?_
        refine sn_lastore (x := none) (d := (0, 0, 0, [])) (L' := [some (mR x), some (mI a), some (mI b), some (mR o), none]) (S' := []) (h' := (mh_k h1, m_set (mh_m h1) o 0 z1, mh_r h1, mh_c h1, mh_s h1)) B.exec B.bytes d9 ?_ ?_
        · show (match (mh_k h1)[o]? with | some (t, n) => (if t = 103 ∧ m_in 0 n = true then some ([some (mR x), some (mI a), some (mI b), some (mR o), none], ([] : List MV), ((mh_k h1, m_set (mh_m h1) o (0 : Int).toNat z1, mh_r h1, mh_c h1, mh_s h1) : MH)) else none) | none => none) = _
          rw [ho]; rfl
        refine sn_goto (tgt := 17) B.exec B.bytes d10 rfl ?_
        refine sn_iconst (x := none) (d := (0, 0, 0, [])) B.exec B.bytes (by decide) d17 rfl ?_
        exact hend 0 18 _ rfl d18
      · cases hb2
    | none, hbk => exact absurd hbk (by intro q; cases q)
    | some (.inl (.inr z1)), hbk => exact absurd hbk (by intro q; cases q)
    | some (.inr z1), hbk => exact absurd hbk (by intro q; cases q)
  · intro H locs cells slots ls rest q ce hrel hce hcv hcl
    obtain ⟨ro, h1⟩ := r1
    dsimp only at hv
    subst hv
    have hb2 : some ([mI 1], h1) = some ([mI z], h') := hbk
    cases hb2
    refine vx_catch (own := RL) (name := xE) (E := xE) hfind [] { startPc := 0, endPc := 10, handlerPc := 13, catchType := 13 } [] htab (fun z hz => nomatch hz) (by decide) (by decide) (hgt _ xl_gt) (face_mv rfl rfl (Vm.Alike.refl s.vm) (hZ.2.2 _ xc_at rfl)) hce hcv hcl ?_
    obtain ⟨ws', tys', hK', hP', hD', hS', hE', hH', hL', hSt', hc', hs'⟩ := hrel
    refine lv_astore B.exec B.bytes d13 (lv_all_has hL'.2.1 hL'.2.2.1) (by decide) rfl (fun ls' hl' => ?_)
    refine lv_iconst B.exec B.bytes d15 rfl ?_
    have hc2 : mh_c h' = mh_c h + cells := hc'
    have hs2 : mh_s h' = mh_s h + slots := hs'
    obtain rfl : cells = mh_c h' - mh_c h := by omega
    obtain rfl : slots = mh_s h' - mh_s h := by omega
    refine vx_ret ?_
    exact W.iret B.exec B.bytes hret (fun t ht hW => ⟨⟨_, ws', tys', rfl, ⟨_, rfl, rfl⟩, hE', hH', by rw [ht]; exact hP', va_K.moved hW.alike hK', hD'⟩, hS'.F ht⟩) hS'.2.2 d16 hlocks
theorem m_back1 {r1 : MR} {o : Nat} {S0 S'' : List MV} {h' : MH} (h : m_back 1 r1 (mR o :: S0) = some (S'', h')) : ∃ z, S'' = mI z :: S0 ∧ m_back 1 r1 [mR o] = some ([mI z], h') := by
  obtain ⟨ro, h1⟩ := r1
  match ro, h with
  | some (some (.inl (.inl z1))), h =>
    have h2 : (if (mh_k h1)[o]? = some (103, 1) then some (mI 0 :: S0, ((mh_k h1, m_set (mh_m h1) o 0 z1, mh_r h1, mh_c h1, mh_s h1) : MH)) else none) = some (S'', h') := h
    split at h2
    · next ho =>
      cases h2
      refine ⟨0, rfl, ?_⟩
      show (if (mh_k h1)[o]? = some (103, 1) then some ([mI 0], ((mh_k h1, m_set (mh_m h1) o 0 z1, mh_r h1, mh_c h1, mh_s h1) : MH)) else none) = _
      rw [if_pos ho]
    · cases h2
  | none, h =>
    have h2 : some (mI 1 :: S0, h1) = some (S'', h') := h
    cases h2
    exact ⟨1, rfl, rfl⟩
  | some none, h => exact absurd h (by intro q; cases q)
  | some (some (.inl (.inr z1))), h => exact absurd h (by intro q; cases q)
  | some (some (.inr z1)), h => exact absurd h (by intro q; cases q)
theorem m_call_cat {d : ML} {k y how : Nat} {L : List (Option MV)} {S vs S' : List MV} {h : MH} (hd1 : d.1 < 1000) (hd2 : d.2.1 = 1) (hm : m_call PT 0 d k L S h = some (.inr (.inr (y, vs, S', how)))) : m_cat h S = some (vs, S') := by
  unfold m_call at hm
  rw [if_neg (by omega)] at hm
  split at hm
  · rw [if_pos hd2] at hm
    split at hm
    · next hq => cases hm; exact hq
    · cases hm
  · cases hm
set_option maxHeartbeats 4000000 in
theorem cat_one {l : Launch} {n : Nat} (hn : SND PT FT l n) (hl : l.stackTraces = false) {M : MM} {G : MF} (hM : MOK PT FT M G) (hnc : NCA M) (hT : THRx M G) (hcls : (f_y G).cls = RX11) (hff : f_f G ≤ 8 ∧ f_o G ≤ 100) (hML : M.2.1 = 3) {yH : MethodName} {cH : ByteArray} {iC iL : Nat} (hh : HLPx yH cH iC G) (hlL : Cond.methodLink RL iL yH ∈ gtbl) (hst : Cond.static yH ∈ gtbl) (hil : Cond.initialized yH.cls ∈ gtbl) (hnp : (parseMethodDescriptor yH.desc).map (fun d => d.parameters.length) = some 4)
    {p : Program} {e : Env} {s : State} {m : MethodId} {args : Array Value} {below : List Frame} {meth : Method} {c : Code} {Q : State → Prop} {D : va_G} {A : Nat → Prop} {sp ad av : Nat → Nat} {w0 : va_W} {x9 : MX} (hX : CTX p room_1 s m args meth c fL_law x9 A sp ad av) (hZ : XZs A s s.heap)
    {pc : Nat} {L : List (Option MV)} {S S' S'' vs : List MV} {h h' : MH} {r1 : MR} (hdg : decode (f_c fL_law) pc = .ok (.invokestatic iL, 3)) (hcat : m_cat h S = some (vs, S')) (hr : m_run PT none n M.1 0 (m_ent vs M.2.1) [] h = some r1) (hbk : m_back 1 r1 S' = some (S'', h')) (hrc : mh_c h' ≤ 0 + room_1.cells) (hrs : mh_s h' ≤ 0 + room_1.slots)
    (kk : WW p l e room_1 s m args below meth c Q D A sp w0 (f_L fL_law) 0 0 (pc + 3) L S'' h') : WW p l e room_1 s m args below meth c Q D A sp w0 (f_L fL_law) 0 0 pc L S h := by
  have hg := m_run_grow n hr
  have hgb := m_back_grow hbk
  unfold m_cat at hcat
  split at hcat
  · next o b a x S0 =>
    split at hcat
    · next hc3 =>
      cases hcat
      obtain ⟨z, rfl, hb1⟩ := m_back1 hbk
      obtain ⟨h1, h2, h3, h4, h5, h6, h7, h8, h9, h10, h11, h12⟩ := hX
      intro H locs cells slots ls st ⟨ws, tys, hK, hP, hD, hS, hE, hH, hL, hSt, hc, hs⟩
      obtain ⟨v0, st0, rfl, ⟨ao, rfl, hao⟩, v1, st1, rfl, ⟨yb, rfl, hyb⟩, v2, st2, rfl, ⟨ya, rfl, hya⟩, v3, rest, rfl, ⟨ab, rfl, hab⟩, hSt0⟩ := hSt
      have hvs : SR ws (fun _ => 0) [mR x, mI a, mI b, mR o] [.ref ab, .int ya, .int yb, .ref ao] := ⟨_, _, rfl, ⟨ab, rfl, hab⟩, _, _, rfl, ⟨ya, rfl, hya⟩, _, _, rfl, ⟨yb, rfl, hyb⟩, _, _, rfl, ⟨ao, rfl, hao⟩, rfl⟩
      have hMt := hmet_of hn hl hM hnc hT hcls hff hML hh hc3.1 (by rw [hML] at hr; exact hr) hb1 D ad av H.size ws tys _ hH hvs
      obtain ⟨y1, y2, -, y4, -⟩ := hh
      have hgood : GoodIn gtbl (va_wsS RL iL yH (gwH yH cH)) := by
        intro w hw
        have hin : w ∈ gtbl := by
          rcases List.mem_append.mp (show w ∈ [Cond.methodLink RL iL yH, Cond.static yH, Cond.initialized yH.cls] ++ gwH yH cH from hw) with hw | hw
          · simp only [List.mem_cons, List.not_mem_nil, or_false] at hw
            rcases hw with rfl | rfl | rfl
            · exact hlL
            · exact hst
            · exact hil
          · rcases List.mem_cons.mp hw with rfl | hw
            · exact y4
            · exact hw
        exact ⟨hin, good_gt _ hin⟩
      have hrun := vx_runSX (p := p) (l := l) (e := e) (R := room_1) (below := below) (meth := meth) (H := H) (locs := locs) (cells := cells) (slots := slots) (rest := rest) (hh := [(0, 10, 13, 13)]) (As := [.ref ab, .int ya, .int yb, .ref ao]) (n := 4) (nL := f_L fL_law) (Ts := gtbl) (own := RL) (bytes := cH) (maxL := 5) (ret := some .int) (g := F0 m pc ls (.ref ao :: .int yb :: .int ya :: .ref ab :: rest)) ⟨h1, h2, h3, h4, h5⟩ hMt (vx_cwSW 4 h5 hgood rfl rfl rfl ⟨by rw [y2]; decide, by rw [y2]; decide, hnp⟩ ⟨Nat.le_of_ble_eq_true rfl, Nat.le_of_ble_eq_true rfl⟩) ⟨MPx.blind _ _ _ _ _ _ _, MPx.at h6 h9 hZ hK hP hD hS⟩ rfl rfl hL.2.1 rfl (lv_room (by rw [hSt0.w]; exact hc3.2.2)) hdg ⟨by omega, by omega⟩
      intro T hT X
      rcases hrun T hT X with ⟨v', st₀, t, T', Lc, h0, X', hLc, e1, e2, ⟨⟨v'', ws', tys', hv, hRV, hEX, hHR, hP', hK', hD'⟩, hF⟩, st⟩ | ⟨q, st₀, t, T', Lc, E, ce, h0, X', hLc, e1, e2, hfalse, -⟩
      · cases hv
        have hvm : s.vm.Alike t.vm := by rw [← e2]; exact X'.warmed.alike
        have hrel := after_rel (h := h) (S0 := S0) h6 hD hS hE hL hSt0 hc hs ⟨Nat.le_trans hg.1 hgb.1, Nat.le_trans hg.2 hgb.2⟩ h0 hLc e1 hvm hEX hHR hP' hK' hD' hF
        obtain ⟨yz, rfl, hyz⟩ := hRV
        obtain ⟨ws2, tys2, a1, a2, a3, a4, a5, a6, a7, a8, a9, a10⟩ := hrel
        obtain ⟨t2, b1, b2⟩ := kk T'.heap _ _ _ ls (.int yz :: rest) ⟨ws2, tys2, a1, a2, a3, a4, a5, a6, a7, ⟨_, _, rfl, ⟨yz, rfl, hyz⟩, a8⟩, a9, a10⟩ T' rfl X'
        exact ⟨t2, st t2 b1, b2⟩
      · exact hfalse.elim
    · cases hcat
  · cases hcat
def isSt (i : Instr) : Bool := match i with
  | .invokestatic _ => true
  | _ => false
def ckl : List MI → Nat → Bool
  | [], _ => true
  | q :: t, k => (!(isSt q.1 && decide (q.2.2.1 = 1)) || decide (k = 125) || decide (k = 170)) && ckl t (k + 1)
theorem ckl_at : ∀ (C : List MI) (b k : Nat) (q : MI), ckl C b = true → C[k]? = some q → isSt q.1 = true → q.2.2.1 = 1 → b + k = 125 ∨ b + k = 170
  | [], _, _, _, _, h, _, _ => by simp at h
  | q0 :: t, b, 0, q, hc, h, h1, h2 => by
    have e : q0 = q := Option.some.inj h
    subst e
    have hc2 := (Bool.and_eq_true_iff.mp (show ((!(isSt q0.1 && decide (q0.2.2.1 = 1)) || decide (b = 125) || decide (b = 170)) && ckl t (b + 1)) = true from hc)).1
    rw [h1, decide_eq_true h2] at hc2
    simp at hc2
    omega
  | q0 :: t, b, k + 1, q, hc, h, h1, h2 => by
    have hc2 := (Bool.and_eq_true_iff.mp (show ((!(isSt q0.1 && decide (q0.2.2.1 = 1)) || decide (b = 125) || decide (b = 170)) && ckl t (b + 1)) = true from hc)).2
    have := ckl_at t (b + 1) k q hc2 h h1 h2
    omega
theorem cat_ck : ckl kL_law 0 = true := by decide +kernel
theorem cat_at {k idx : Nat} {d : ML} (hk : kL_law[k]? = some (.invokestatic idx, d)) (hd : d.2.1 = 1) : k = 125 ∨ k = 170 := by
  have h := ckl_at kL_law 0 k _ cat_ck hk rfl hd
  omega
theorem thr_cell : THRx (kX11_cell, 3, 3) fX11_cell := by
  intro k i d pc hk hpc hsp h2
  have hlt : k < 58 := by
    have : kX11_cell.length = 58 := by decide +kernel
    rw [← this]
    exact (List.getElem?_eq_some_iff.mp hk).1
  have hck : (List.range 58).all (fun k => match kX11_cell[k]? with | some q => !(!(m_spec q.1) && decide (q.2.1 = 200)) || decide (k = 10) | none => true) = true := by decide +kernel
  have h := List.all_eq_true.mp hck k (List.mem_range.mpr hlt)
  rw [show kX11_cell[k]? = some (i, d) from hk] at h
  simp [hsp, h2] at h
  subst h
  cases (show kX11_cell[10]? = some (.new 152, 200, 6, 0, []) from rfl).symm.trans hk
  cases (show (f_p fX11_cell)[10]? = some 20 from rfl).symm.trans hpc
  exact ⟨rfl, by decide +kernel, by decide +kernel, by decide +kernel, by decide +kernel⟩
theorem thr_herd : THRx (kX11_herd, 3, 3) fX11_herd := by
  intro k i d pc hk hpc hsp h2
  have hlt : k < 43 := by
    have : kX11_herd.length = 43 := by decide +kernel
    rw [← this]
    exact (List.getElem?_eq_some_iff.mp hk).1
  have hck : (List.range 43).all (fun k => match kX11_herd[k]? with | some q => !(!(m_spec q.1) && decide (q.2.1 = 200)) || decide (k = 9) | none => true) = true := by decide +kernel
  have h := List.all_eq_true.mp hck k (List.mem_range.mpr hlt)
  rw [show kX11_herd[k]? = some (i, d) from hk] at h
  simp [hsp, h2] at h
  subst h
  cases (show kX11_herd[9]? = some (.new 152, 200, 6, 0, []) from rfl).symm.trans hk
  cases (show (f_p fX11_herd)[9]? = some 17 from rfl).symm.trans hpc
  exact ⟨rfl, by decide +kernel, by decide +kernel, by decide +kernel, by decide +kernel⟩
theorem inG {w : Cond} (h1 : w ∈ lw_tbl) (h2 : goodWord w = true) : w ∈ gtbl := List.mem_filter.mpr ⟨h1, h2⟩
theorem hlp_cell : HLPx yL_cell cL_cell 7 fX11_cell := ⟨by decide, rfl, ⟨by decide +kernel, by decide +kernel, by decide +kernel, by decide +kernel, by decide +kernel, by decide +kernel, by decide +kernel, by decide +kernel, by decide +kernel, by decide +kernel, by decide +kernel, by decide +kernel, by decide +kernel, by decide +kernel⟩, inG (by decide +kernel) rfl, inG (by decide +kernel) rfl, inG (by decide +kernel) rfl, inG (by decide +kernel) rfl, ccX11_cell.1, by unfold m_npar; decide +kernel, rfl⟩
theorem hlp_herd : HLPx yL_herd cL_herd 15 fX11_herd := ⟨by decide, rfl, ⟨by decide +kernel, by decide +kernel, by decide +kernel, by decide +kernel, by decide +kernel, by decide +kernel, by decide +kernel, by decide +kernel, by decide +kernel, by decide +kernel, by decide +kernel, by decide +kernel, by decide +kernel, by decide +kernel⟩, inG (by decide +kernel) rfl, inG (by decide +kernel) rfl, inG (by decide +kernel) rfl, inG (by decide +kernel) rfl, ccX11_herd.1, by unfold m_npar; decide +kernel, rfl⟩
set_option maxHeartbeats 4000000 in
theorem law_catch (hTx : TextOK) : LawCatch := by
  intro p l e s m args below meth c Q D A sp ad av w0 x hl hts hgv hA hX k idx d pc L S S' S'' vs h h' r1 C' nL' np n hk hpc hdg hd1 hd2 hm hy hlen hr hbk hc hs kk
  have hf := flat_of_before _ hgv
  have hZ : XZs A s s.heap := ⟨vx_Zqof (hts _ tx_z3.1) (hts _ tx_z3.2.1) (hf _ tx_z3.2.2) hA, vx_Zqof (hts _ tx_z4.1) (hts _ tx_z4.2.1) (hf _ tx_z4.2.2) hA, fun w hw hf2 => face_mv hf2 (xw_tab w hw hf2) (Vm.Alike.refl s.vm) (hts _ (xw_in w hw))⟩
  have hcat := m_call_cat hd1 hd2 hm
  rcases cat_at hk hd2 with rfl | rfl
  · cases (show kL_law[125]? = some (.invokestatic 41, 106, 1, 0, []) from rfl).symm.trans hk
    cases (show PT[106]? = some (kX11_cell, 3, 3) from PT_106).symm.trans hy
    exact cat_one (M := (kX11_cell, 3, 3)) (sound l hTx n) hl omX11_cell.1 omX11_cell.2 thr_cell rfl (by decide) rfl hlp_cell (inG (by decide +kernel) rfl) (inG (by decide +kernel) rfl) (inG (by decide +kernel) rfl) (by decide +kernel) hX hZ hdg hcat hr hbk hc hs kk
  · cases (show kL_law[170]? = some (.invokestatic 50, 107, 1, 0, []) from rfl).symm.trans hk
    cases (show PT[107]? = some (kX11_herd, 3, 3) from PT_107).symm.trans hy
    exact cat_one (M := (kX11_herd, 3, 3)) (sound l hTx n) hl omX11_herd.1 omX11_herd.2 thr_herd rfl (by decide) rfl hlp_herd (inG (by decide +kernel) rfl) (inG (by decide +kernel) rfl) (inG (by decide +kernel) rfl) (by decide +kernel) hX hZ hdg hcat hr hbk hc hs kk
