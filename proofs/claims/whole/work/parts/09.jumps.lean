/-! ===== jumps; calls that are done at once ===== -/
section JUMPS
variable {p : Program} {l : Launch} {e : Env} {R : Room} {s : State} {m : MethodId} {args : Array Value} {below : List Frame} {meth : Method} {c : Code} {Q : State → Prop} {D : va_G} {A : Nat → Prop} {sp : Nat → Nat} {w0 : va_W} {nL nc0 ns0 : Nat} {cc : ByteArray} {pc : Nat} {L : List (Option MV)} {S : List MV} {h : MH}
theorem sn_goto {off : Int} {tgt : Nat} (hx : p.tables.exec = Jvm.exec) (hb : c.code = cc) (hdg : decode cc pc = .ok (.goto off, 3)) (ht : (pc : Int) + off = (tgt : Int)) (kk : WW p l e R s m args below meth c Q D A sp w0 nL nc0 ns0 tgt L S h) : WW p l e R s m args below meth c Q D A sp w0 nL nc0 ns0 pc L S h :=
  fun H locs cells slots ls st hR => lv_goto hx hb hdg ht (kk H locs cells slots ls st hR)
theorem sn_ifCond {c0 : ClassFile.Cond} {off a : Int} {tgt : Nat} (hx : p.tables.exec = Jvm.exec) (hb : c.code = cc) (hdg : decode cc pc = .ok (.ifCond c0 off, 3)) (ht : (pc : Int) + off = (tgt : Int)) (kt : m_if c0 a 0 = true → WW p l e R s m args below meth c Q D A sp w0 nL nc0 ns0 tgt L S h) (kf : m_if c0 a 0 = false → WW p l e R s m args below meth c Q D A sp w0 nL nc0 ns0 (pc + 3) L S h) : WW p l e R s m args below meth c Q D A sp w0 nL nc0 ns0 pc L (mI a :: S) h := by
  intro H locs cells slots ls st ⟨ws, tys, hK, hP, hD, hS, hE, hH, hL, hSt, hc, hs⟩
  obtain ⟨v1, st1, rfl, ⟨y, rfl, rfl⟩, hSt⟩ := hSt
  have r : mRel D A sp w0 nL nc0 ns0 s L S h H locs cells slots ls st1 := ⟨ws, tys, hK, hP, hD, hS, hE, hH, hL, hSt, hc, hs⟩
  have e0 : (y = 0) ↔ y.toInt = 0 := by rw [← Int32.toInt_inj, Int32.toInt_zero]
  cases c0
  · exact lv_if_eq hx hb hdg ht (fun q => kt (by simpa [m_if] using e0.mp q) _ _ _ _ _ _ r) (fun q => kf (by simpa [m_if] using fun z => q (e0.mpr z)) _ _ _ _ _ _ r)
  · exact lv_if_ne hx hb hdg ht (fun q => kt (by simpa [m_if] using fun z => q (e0.mpr z)) _ _ _ _ _ _ r) (fun q => kf (by simpa [m_if] using e0.mp q) _ _ _ _ _ _ r)
  · exact lv_if_lt hx hb hdg ht (fun q => kt (by rw [Int32.lt_iff_toInt_lt, Int32.toInt_zero] at q; simpa [m_if] using q) _ _ _ _ _ _ r) (fun q => kf (by rw [Int32.lt_iff_toInt_lt, Int32.toInt_zero] at q; simpa [m_if] using q) _ _ _ _ _ _ r)
  · exact lv_if_ge hx hb hdg ht (fun q => kt (by rw [Int32.le_iff_toInt_le, Int32.toInt_zero] at q; simpa [m_if] using q) _ _ _ _ _ _ r) (fun q => kf (by rw [Int32.le_iff_toInt_le, Int32.toInt_zero] at q; simpa [m_if] using q) _ _ _ _ _ _ r)
  · exact lv_if_gt hx hb hdg ht (fun q => kt (by rw [Int32.lt_iff_toInt_lt, Int32.toInt_zero] at q; simpa [m_if] using q) _ _ _ _ _ _ r) (fun q => kf (by rw [Int32.lt_iff_toInt_lt, Int32.toInt_zero] at q; simpa [m_if] using q) _ _ _ _ _ _ r)
  · exact lv_if_le hx hb hdg ht (fun q => kt (by rw [Int32.le_iff_toInt_le, Int32.toInt_zero] at q; simpa [m_if] using q) _ _ _ _ _ _ r) (fun q => kf (by rw [Int32.le_iff_toInt_le, Int32.toInt_zero] at q; simpa [m_if] using q) _ _ _ _ _ _ r)
theorem sn_icmp {c0 : ClassFile.Cond} {off a b : Int} {tgt : Nat} (hx : p.tables.exec = Jvm.exec) (hb : c.code = cc) (hdg : decode cc pc = .ok (.if_icmp c0 off, 3)) (ht : (pc : Int) + off = (tgt : Int)) (kt : m_if c0 a b = true → WW p l e R s m args below meth c Q D A sp w0 nL nc0 ns0 tgt L S h) (kf : m_if c0 a b = false → WW p l e R s m args below meth c Q D A sp w0 nL nc0 ns0 (pc + 3) L S h) : WW p l e R s m args below meth c Q D A sp w0 nL nc0 ns0 pc L (mI b :: mI a :: S) h := by
  intro H locs cells slots ls st ⟨ws, tys, hK, hP, hD, hS, hE, hH, hL, hSt, hc, hs⟩
  obtain ⟨v1, st1, rfl, ⟨y, rfl, rfl⟩, v2, st2, rfl, ⟨z, rfl, rfl⟩, hSt⟩ := hSt
  have r : mRel D A sp w0 nL nc0 ns0 s L S h H locs cells slots ls st2 := ⟨ws, tys, hK, hP, hD, hS, hE, hH, hL, hSt, hc, hs⟩
  have e0 : (z = y) ↔ z.toInt = y.toInt := Int32.toInt_inj.symm
  cases c0
  · exact lv_icmp_eq hx hb hdg ht (fun q => kt (by simpa [m_if] using e0.mp q) _ _ _ _ _ _ r) (fun q => kf (by simpa only [m_if, decide_eq_false_iff_not] using fun z => q (e0.mpr z)) _ _ _ _ _ _ r)
  · exact lv_icmp_ne hx hb hdg ht (fun q => kt (by simpa only [m_if, decide_eq_true_eq] using fun z => q (e0.mpr z)) _ _ _ _ _ _ r) (fun q => kf (by simpa [m_if] using e0.mp q) _ _ _ _ _ _ r)
  · exact lv_icmp_lt hx hb hdg ht (fun q => kt (by rw [Int32.lt_iff_toInt_lt] at q; simpa [m_if] using q) _ _ _ _ _ _ r) (fun q => kf (by rw [Int32.lt_iff_toInt_lt] at q; simpa [m_if] using q) _ _ _ _ _ _ r)
  · exact lv_icmp_ge hx hb hdg ht (fun q => kt (by rw [Int32.le_iff_toInt_le] at q; simpa [m_if] using q) _ _ _ _ _ _ r) (fun q => kf (by rw [Int32.le_iff_toInt_le] at q; simpa [m_if] using q) _ _ _ _ _ _ r)
  · exact lv_icmp_gt hx hb hdg ht (fun q => kt (by rw [Int32.lt_iff_toInt_lt] at q; simpa [m_if] using q) _ _ _ _ _ _ r) (fun q => kf (by rw [Int32.lt_iff_toInt_lt] at q; simpa [m_if] using q) _ _ _ _ _ _ r)
  · exact lv_icmp_le hx hb hdg ht (fun q => kt (by rw [Int32.le_iff_toInt_le] at q; simpa [m_if] using q) _ _ _ _ _ _ r) (fun q => kf (by rw [Int32.le_iff_toInt_le] at q; simpa [m_if] using q) _ _ _ _ _ _ r)
theorem sn_tableOut {dflt lo hi a : Int} {offs : Array Int} {len tgt : Nat} (hx : p.tables.exec = Jvm.exec) (hb : c.code = cc) (hdg : decode cc pc = .ok (.tableswitch dflt lo hi offs, len)) (ho : a < lo ∨ hi < a) (ht : (pc : Int) + dflt = (tgt : Int)) (kk : WW p l e R s m args below meth c Q D A sp w0 nL nc0 ns0 tgt L S h) : WW p l e R s m args below meth c Q D A sp w0 nL nc0 ns0 pc L (mI a :: S) h := by
  intro H locs cells slots ls st ⟨ws, tys, hK, hP, hD, hS, hE, hH, hL, hSt, hc, hs⟩
  obtain ⟨v1, st1, rfl, ⟨y, rfl, rfl⟩, hSt⟩ := hSt
  exact lv_tableOut hx hb hdg ho ht (kk _ _ _ _ _ _ ⟨ws, tys, hK, hP, hD, hS, hE, hH, hL, hSt, hc, hs⟩)
theorem sn_tableIn {dflt lo hi a off : Int} {offs : Array Int} {len tgt : Nat} (hx : p.tables.exec = Jvm.exec) (hb : c.code = cc) (hdg : decode cc pc = .ok (.tableswitch dflt lo hi offs, len)) (h1 : ¬ a < lo) (h2 : ¬ hi < a) (ho : offs[(a - lo).toNat]? = some off) (ht : (pc : Int) + off = (tgt : Int)) (kk : WW p l e R s m args below meth c Q D A sp w0 nL nc0 ns0 tgt L S h) : WW p l e R s m args below meth c Q D A sp w0 nL nc0 ns0 pc L (mI a :: S) h := by
  intro H locs cells slots ls st ⟨ws, tys, hK, hP, hD, hS, hE, hH, hL, hSt, hc, hs⟩
  obtain ⟨v1, st1, rfl, ⟨y, rfl, rfl⟩, hSt⟩ := hSt
  exact lv_tableIn hx hb hdg h1 h2 ho ht (kk _ _ _ _ _ _ ⟨ws, tys, hK, hP, hD, hS, hE, hH, hL, hSt, hc, hs⟩)
theorem SR.w {ws : va_W} {sp : Nat → Nat} : ∀ {S : List MV} {st : List Value}, SR ws sp S st → (st.map fun v => v.category).sum = m_w S
  | [], _, q => by cases q; rfl
  | .inl (.inl z) :: S, _, ⟨v, st', e, ⟨x, hx, _⟩, q2⟩ => by subst e; subst hx; simp only [List.map_cons, List.sum_cons, SR.w q2]; rfl
  | .inl (.inr z) :: S, _, ⟨v, st', e, ⟨x, hx, _⟩, q2⟩ => by subst e; subst hx; simp only [List.map_cons, List.sum_cons, SR.w q2]; rfl
  | .inr z :: S, _, ⟨v, st', e, q1, q2⟩ => by subst e; simp [m_w, q1.cat1, SR.w q2]
theorem sn_objInit {idx k : Nat} {own : String} (hx : p.tables.exec = Jvm.exec) (hb : c.code = cc) (hml : c.maxLocals = nL) (hown : s.vm.findClass own = some m.cls) (hlink : (Cond.methodLink own idx Lib.objectInit).before args s = true) (hinst : (Cond.instanceMethod Lib.objectInit).before args s = true) (hcode : (Cond.code Lib.objectInit ⟨#[0xb1]⟩ 1 none).before args s = true)
    (hfr : 1 ≤ R.frames) (hlo : 26 ≤ R.locals) (hw : m_w S ≤ 8) (hdg : decode cc pc = .ok (.invokespecial idx, 3)) (kk : WW p l e R s m args below meth c Q D A sp w0 nL nc0 ns0 (pc + 3) L S h) : WW p l e R s m args below meth c Q D A sp w0 nL nc0 ns0 pc L (mR k :: S) h := by
  intro H locs cells slots ls st ⟨ws, tys, hK, hP, hD, hS, hE, hH, hL, hSt, hc, hs⟩
  obtain ⟨v1, st1, rfl, ⟨a, rfl, ha⟩, hSt⟩ := hSt
  refine W.objInit hx hb hown hlink hinst hcode rfl (by rw [hml]; exact hL.2.1) rfl hdg hfr ?_ (kk _ _ _ _ _ _ ⟨ws, tys, hK, hP, hD, hS, hE, hH, hL, hSt, hc, hs⟩)
  rw [hSt.w]
  show 2 * 0 + m_w S + 12 ≤ R.locals
  omega
theorem sn_copy {idx : Nat} {own : String} {S' : List MV} {h' : MH} (hx : p.tables.exec = Jvm.exec) (hb : c.code = cc) (hml : c.maxLocals = nL) (hown : s.vm.findClass own = some m.cls) (hlink : (Cond.methodLink own idx arraycopyName).before args s = true) (hnat : (Cond.native arraycopyName).before args s = true) (hstat : (Cond.static arraycopyName).before args s = true) (hini : (Cond.initialized "java/lang/System").before args s = true)
    (hfr : 1 ≤ R.frames) (hlo : 26 ≤ R.locals) (hw : m_w S' ≤ 8) (hdg : decode cc pc = .ok (.invokestatic idx, 3)) (hm : m_cpy S h = some (S', h')) (kk : WW p l e R s m args below meth c Q D A sp w0 nL nc0 ns0 (pc + 3) L S' h') : WW p l e R s m args below meth c Q D A sp w0 nL nc0 ns0 pc L S h := by
  unfold m_cpy at hm
  split at hm
  · next n dp dst sp0 src S0 =>
    split at hm
    · next t0 n0 t1 n1 hk0 hk1 =>
      split at hm
      · next hcond =>
        cases hm
        obtain ⟨htt, h1, h2, h3, h4, h5⟩ := hcond
        intro H locs cells slots ls st ⟨ws, tys, hK, hP, hD, hS, hE, hH, hL, hSt, hc, hs⟩
        obtain ⟨v1, st1, rfl, ⟨n', rfl, rfl⟩, v2, st2, rfl, ⟨dp', rfl, rfl⟩, v3, st3, rfl, ⟨a, rfl, ha⟩, v4, st4, rfl, ⟨sp', rfl, rfl⟩, v5, st5, rfl, ⟨a0, rfl, ha0⟩, hSt⟩ := hSt
        obtain ⟨e0, he0, hC0⟩ := hH.at hk0 ha0
        obtain ⟨e1, he1, hC1⟩ := hH.at hk1 ha
        have nn : ∀ z : Int32, 0 ≤ z.toInt → ¬ z < 0 := fun z hz q => by rw [Int32.lt_iff_toInt_lt, Int32.toInt_zero] at q; omega
        have hloc : (st5.map fun v => v.category).sum + (nativeFrameWords "java/lang/System" "arraycopy" 5 + 11) ≤ R.locals := by
          rw [hSt.w]
          have : nativeFrameWords "java/lang/System" "arraycopy" 5 = 7 := by decide +kernel
          omega
        rcases htt with ⟨rfl, rfl⟩ | ⟨rfl, rfl⟩
        · obtain ⟨c0, f, q0, rfl, ht0, hf⟩ := hC0.arrI (Or.inl rfl)
          obtain ⟨c1, g, q1, rfl, ht1, hg⟩ := hC1.arrI (Or.inl rfl)
          refine va_copyi hx hb (by rw [hml]; exact hL.2.1.symm) hown hlink hnat hstat hini hK hP hD hS src dst q0 q1 he0 he1 ht0 ht1 rfl (nn _ h3) (nn _ h2) (nn _ h1) (by rw [m_clamp, m_clamp]; omega) (by rw [m_clamp, m_clamp]; omega) (fun _ _ => rfl) hfr hloc hdg (fun H1 locs1 hP1 hD1 hS1 => ?_)
          refine kk _ _ _ _ _ _ ⟨_, tys, hK, hP1, hD1, hS1, hE.trans (EX.set he1), hH.wr hk1 he1 rfl (fun i j hi => if_neg (fun z => hi z.1)) (fun i j hi => rfl) ?_, hL.mono (EX.set he1), hSt.mono (EX.set he1), hc, hs⟩
          refine Or.inr (Or.inl ⟨Or.inl rfl, c1, _, q1, rfl, ht1, fun j hj => ?_⟩)
          show (va_cpy f g sp'.toNatClampNeg dp'.toNatClampNeg n'.toNatClampNeg j).toInt = m_copy (mh_m h) src sp'.toInt.toNat dst dp'.toInt.toNat n'.toInt.toNat dst j
          unfold va_cpy m_copy
          rw [m_clamp, m_clamp, m_clamp]
          by_cases hq : dp'.toInt.toNat ≤ j ∧ j < dp'.toInt.toNat + n'.toInt.toNat
          · rw [if_pos hq, if_pos ⟨rfl, hq⟩]
            exact hf _ (by omega)
          · rw [if_neg hq, if_neg (fun z => hq z.2)]
            exact hg j hj
        · obtain ⟨c0, f, q0, rfl, ht0, hf⟩ := hC0.arrL
          obtain ⟨c1, g, q1, rfl, ht1, hg⟩ := hC1.arrL
          refine va_copyl hx hb (by rw [hml]; exact hL.2.1.symm) hown hlink hnat hstat hini hK hP hD hS src dst q0 q1 he0 he1 ht0 ht1 rfl (nn _ h3) (nn _ h2) (nn _ h1) (by rw [m_clamp, m_clamp]; omega) (by rw [m_clamp, m_clamp]; omega) (fun _ _ => rfl) hfr hloc hdg (fun H1 locs1 hP1 hD1 hS1 => ?_)
          refine kk _ _ _ _ _ _ ⟨_, tys, hK, hP1, hD1, hS1, hE.trans (EX.set he1), hH.wr hk1 he1 rfl (fun i j hi => if_neg (fun z => hi z.1)) (fun i j hi => rfl) ?_, hL.mono (EX.set he1), hSt.mono (EX.set he1), hc, hs⟩
          refine Or.inr (Or.inr (Or.inl ⟨rfl, c1, _, q1, rfl, ht1, fun j hj => ?_⟩))
          show (va_cpy f g sp'.toNatClampNeg dp'.toNatClampNeg n'.toNatClampNeg j).toInt = m_copy (mh_m h) src sp'.toInt.toNat dst dp'.toInt.toNat n'.toInt.toNat dst j
          unfold va_cpy m_copy
          rw [m_clamp, m_clamp, m_clamp]
          by_cases hq : dp'.toInt.toNat ≤ j ∧ j < dp'.toInt.toNat + n'.toInt.toNat
          · rw [if_pos hq, if_pos ⟨rfl, hq⟩]
            exact hf _ (by omega)
          · rw [if_neg hq, if_neg (fun z => hq z.2)]
            exact hg j hj
      · cases hm
    · cases hm
  · cases hm
theorem sn_max {idx : Nat} {own : String} {S' : List MV} {h' : MH} (hx : p.tables.exec = Jvm.exec) (hb : c.code = cc) (hml : c.maxLocals = nL) (hown : s.vm.findClass own = some m.cls) (hlink : (Cond.methodLink own idx Lib.Math.max.name).before args s = true) (hstat : (Cond.static Lib.Math.max.name).before args s = true) (hini : (Cond.initialized "java/lang/Math").before args s = true) (hcode : (Cond.code Lib.Math.max.name Lib.Math.max.code 2 (some .int)).before args s = true)
    (hfr : 1 ≤ R.frames) (hlo : 26 ≤ R.locals) (hw : m_w S' ≤ 9) (hrm : mh_c h' ≤ nc0 + R.cells ∧ mh_s h' ≤ ns0 + R.slots) (hdg : decode cc pc = .ok (.invokestatic idx, 3)) (hm : m_max S h = some (S', h')) (kk : WW p l e R s m args below meth c Q D A sp w0 nL nc0 ns0 (pc + 3) L S' h') : WW p l e R s m args below meth c Q D A sp w0 nL nc0 ns0 pc L S h := by
  unfold m_max at hm
  split at hm
  · cases hm
    intro H locs cells slots ls st ⟨ws, tys, hK, hP, hD, hS, hE, hH, hL, hSt, hc, hs⟩
    obtain ⟨v1, st1, rfl, ⟨y', rfl, rfl⟩, v2, st2, rfl, ⟨x', rfl, rfl⟩, hSt⟩ := hSt
    have hw2 := hSt.w
    simp only [m_w] at hw
    refine va_mmax hx hb (by rw [hml]; exact hL.2.1.symm) hown hlink hstat hini hcode hfr (by omega) (by omega) (by omega) hdg (kk _ _ _ _ _ _ ⟨ws, tys, hK, hP, hD, hS, hE, hH, hL, ⟨_, _, rfl, ⟨_, rfl, ?_⟩, hSt⟩, hc, hs⟩)
    by_cases hq : x' < y'
    · rw [if_pos hq, if_pos (Int32.lt_iff_toInt_lt.mp hq)]
    · rw [if_neg hq, if_neg (fun z => hq (Int32.lt_iff_toInt_lt.mpr z))]
  · cases hm
theorem sn_min {idx : Nat} {own : String} {S' : List MV} {h' : MH} (hx : p.tables.exec = Jvm.exec) (hb : c.code = cc) (hml : c.maxLocals = nL) (hown : s.vm.findClass own = some m.cls) (hlink : (Cond.methodLink own idx Lib.Math.min.name).before args s = true) (hstat : (Cond.static Lib.Math.min.name).before args s = true) (hini : (Cond.initialized "java/lang/Math").before args s = true) (hcode : (Cond.code Lib.Math.min.name Lib.Math.min.code 2 (some .int)).before args s = true)
    (hfr : 1 ≤ R.frames) (hlo : 26 ≤ R.locals) (hw : m_w S' ≤ 9) (hrm : mh_c h' ≤ nc0 + R.cells ∧ mh_s h' ≤ ns0 + R.slots) (hdg : decode cc pc = .ok (.invokestatic idx, 3)) (hm : m_min S h = some (S', h')) (kk : WW p l e R s m args below meth c Q D A sp w0 nL nc0 ns0 (pc + 3) L S' h') : WW p l e R s m args below meth c Q D A sp w0 nL nc0 ns0 pc L S h := by
  unfold m_min at hm
  split at hm
  · cases hm
    intro H locs cells slots ls st ⟨ws, tys, hK, hP, hD, hS, hE, hH, hL, hSt, hc, hs⟩
    obtain ⟨v1, st1, rfl, ⟨y', rfl, rfl⟩, v2, st2, rfl, ⟨x', rfl, rfl⟩, hSt⟩ := hSt
    have hw2 := hSt.w
    simp only [m_w] at hw
    refine va_mmin hx hb (by rw [hml]; exact hL.2.1.symm) hown hlink hstat hini hcode hfr (by omega) (by omega) (by omega) hdg (kk _ _ _ _ _ _ ⟨ws, tys, hK, hP, hD, hS, hE, hH, hL, ⟨_, _, rfl, ⟨_, rfl, ?_⟩, hSt⟩, hc, hs⟩)
    by_cases hq : y' < x'
    · rw [if_pos hq, if_pos (Int32.lt_iff_toInt_lt.mp hq)]
    · rw [if_neg hq, if_neg (fun z => hq (Int32.lt_iff_toInt_lt.mpr z))]
  · cases hm
theorem sn_abs {idx : Nat} {own : String} {S' : List MV} {h' : MH} (hx : p.tables.exec = Jvm.exec) (hb : c.code = cc) (hml : c.maxLocals = nL) (hown : s.vm.findClass own = some m.cls) (hlink : (Cond.methodLink own idx Lib.Math.abs.name).before args s = true) (hstat : (Cond.static Lib.Math.abs.name).before args s = true) (hini : (Cond.initialized "java/lang/Math").before args s = true) (hcode : (Cond.code Lib.Math.abs.name Lib.Math.abs.code 1 (some .int)).before args s = true)
    (hfr : 1 ≤ R.frames) (hlo : 26 ≤ R.locals) (hw : m_w S' ≤ 9) (hrm : mh_c h' ≤ nc0 + R.cells ∧ mh_s h' ≤ ns0 + R.slots) (hdg : decode cc pc = .ok (.invokestatic idx, 3)) (hm : m_abs S h = some (S', h')) (kk : WW p l e R s m args below meth c Q D A sp w0 nL nc0 ns0 (pc + 3) L S' h') : WW p l e R s m args below meth c Q D A sp w0 nL nc0 ns0 pc L S h := by
  unfold m_abs at hm
  split at hm
  · cases hm
    intro H locs cells slots ls st ⟨ws, tys, hK, hP, hD, hS, hE, hH, hL, hSt, hc, hs⟩
    obtain ⟨v1, st1, rfl, ⟨x', rfl, rfl⟩, hSt⟩ := hSt
    have hw2 := hSt.w
    simp only [m_w] at hw
    refine va_mabs hx hb (by rw [hml]; exact hL.2.1.symm) hown hlink hstat hini hcode hfr (by omega) (by omega) (by omega) hdg (kk _ _ _ _ _ _ ⟨ws, tys, hK, hP, hD, hS, hE, hH, hL, ⟨_, _, rfl, ⟨_, rfl, ?_⟩, hSt⟩, hc, hs⟩)
    by_cases hq : 0 ≤ x'
    · rw [if_pos hq, if_pos (by rw [← Int32.toInt_zero]; exact Int32.le_iff_toInt_le.mp hq)]
    · rw [if_neg hq, if_neg (fun z => hq (Int32.le_iff_toInt_le.mpr (by rw [Int32.toInt_zero]; exact z))), Int32.toInt_sub, Int32.toInt_zero]
      rfl
  · cases hm
end JUMPS
