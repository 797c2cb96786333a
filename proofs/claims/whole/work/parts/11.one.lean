/-! ===== one step, any simple instruction; the heap grows only ===== -/
set_option maxHeartbeats 4000000 in
theorem m_one_grow {x : MX} {i : Instr} {d : ML} {L L' : List (Option MV)} {S S' : List MV} {h h' : MH} (hm : m_one x i d L S h = some (L', S', h')) : mh_c h ≤ mh_c h' ∧ mh_s h ≤ mh_s h' := by
  unfold m_one at hm
  cases i <;> dsimp only at hm <;> (repeat' split at hm) <;>
    first
    | (cases hm; done)
    | (cases hm; exact ⟨Nat.le_refl _, Nat.le_refl _⟩)
    | (cases hm; exact ⟨Nat.le_succ _, Nat.le_add_right _ _⟩)
theorem m_nat_grow {t : Nat} {S S' : List MV} {h h' : MH} (hm : m_nat t S h = some (S', h')) : mh_c h ≤ mh_c h' ∧ mh_s h ≤ mh_s h' := by
  unfold m_nat m_cpy m_max m_min m_abs at hm
  (repeat' split at hm) <;>
    first
    | (cases hm; done)
    | (cases hm; exact ⟨Nat.le_refl _, Nat.le_refl _⟩)
theorem m_call_grow {PT : List MM} {mode k k' : Nat} {d : ML} {L L' : List (Option MV)} {S S' : List MV} {h h' : MH} (hm : m_call PT mode d k L S h = some (.inl (k', L', S', h'))) : mh_c h ≤ mh_c h' ∧ mh_s h ≤ mh_s h' := by
  unfold m_call at hm
  split at hm
  · split at hm
    · next hq =>
      split at hm
      · cases hm; exact m_nat_grow hq
      · cases hm
    · cases hm
  · (repeat' split at hm) <;> cases hm
theorem m_step_grow {PT : List MM} {x : MX} {i : Instr} {d : ML} {k k' : Nat} {L L' : List (Option MV)} {S S' : List MV} {h h' : MH} (hm : m_step PT x i d k L S h = some (.inl (k', L', S', h'))) : mh_c h ≤ mh_c h' ∧ mh_s h ≤ mh_s h' := by
  unfold m_step at hm
  cases hs : m_spec i with
  | false =>
    rw [hs] at hm
    dsimp only [cond] at hm
    split at hm
    · split at hm <;> cases hm
    · split at hm
      · next hq => cases hm; exact m_one_grow hq
      · cases hm
  | true =>
    rw [hs] at hm
    dsimp only [cond] at hm
    unfold m_jmp at hm
    split at hm <;> first
      | exact m_call_grow hm
      | ((repeat' split at hm) <;> first | (cases hm; done) | (cases hm; exact ⟨Nat.le_refl _, Nat.le_refl _⟩))
theorem m_step_end {PT : List MM} {x : MX} {i : Instr} {d : ML} {k : Nat} {L : List (Option MV)} {S : List MV} {h : MH} {r : MR} (hm : m_step PT x i d k L S h = some (.inr (.inl r))) : mh_c h ≤ mh_c r.2 ∧ mh_s h ≤ mh_s r.2 := by
  unfold m_step at hm
  cases hs : m_spec i with
  | false =>
    rw [hs] at hm
    dsimp only [cond] at hm
    split at hm
    · split at hm
      · cases hm; exact ⟨Nat.le_succ _, Nat.le_add_right _ _⟩
      · cases hm
    · split at hm
      · cases hm
      · cases hm
  | true =>
    rw [hs] at hm
    dsimp only [cond] at hm
    unfold m_jmp m_call at hm
    split at hm <;> (repeat' split at hm) <;> first | (cases hm; done) | (cases hm; exact ⟨Nat.le_refl _, Nat.le_refl _⟩)
theorem m_back_grow {how : Nat} {r : MR} {S S' : List MV} {h' : MH} (hm : m_back how r S = some (S', h')) : mh_c r.2 ≤ mh_c h' ∧ mh_s r.2 ≤ mh_s h' := by
  unfold m_back at hm
  (repeat' split at hm) <;> first | (cases hm; done) | (cases hm; exact ⟨Nat.le_refl _, Nat.le_refl _⟩)
theorem m_run_grow {PT : List MM} : ∀ (n : Nat) {x : MX} {C : List MI} {k : Nat} {L : List (Option MV)} {S : List MV} {h : MH} {r : MR}, m_run PT x n C k L S h = some r → mh_c h ≤ mh_c r.2 ∧ mh_s h ≤ mh_s r.2 := by
  intro n
  induction n with
  | zero => intro x C k L S h r hr; simp [m_run] at hr
  | succ n ih =>
    intro x C k L S h r hr
    rw [m_run] at hr
    cases hC : C[k]? with
    | none => rw [hC] at hr; simp at hr
    | some q =>
      obtain ⟨i, d⟩ := q
      rw [hC] at hr
      dsimp only at hr
      cases hs : m_step PT x i d k L S h with
      | none => rw [hs] at hr; simp at hr
      | some a =>
        rw [hs] at hr
        match a, hs, hr with
        | .inl (k', L', S', h'), hs, hr =>
          have h1 := m_step_grow hs
          have h2 := ih hr
          exact ⟨Nat.le_trans h1.1 h2.1, Nat.le_trans h1.2 h2.2⟩
        | .inr (.inl r'), hs, hr => cases hr; exact m_step_end hs
        | .inr (.inr (y, vs, S', how)), hs, hr =>
          dsimp only at hr
          cases hy : PT[y]? with
          | none => rw [hy] at hr; simp at hr
          | some M =>
            obtain ⟨C', nL, np⟩ := M
            rw [hy] at hr
            dsimp only at hr
            by_cases hl : (m_sl vs).length ≤ nL
            · rw [if_pos hl] at hr
              cases hc : m_run PT none n C' 0 (m_ent vs nL) [] h with
              | none => rw [hc] at hr; simp at hr
              | some r1 =>
                rw [hc] at hr
                dsimp only at hr
                cases hb : m_back how r1 S' with
                | none => rw [hb] at hr; simp at hr
                | some q =>
                  obtain ⟨S'', h'⟩ := q
                  rw [hb] at hr
                  have h1 := ih hc
                  have h2 := m_back_grow hb
                  have h3 := ih hr
                  exact ⟨Nat.le_trans h1.1 (Nat.le_trans h2.1 h3.1), Nat.le_trans h1.2 (Nat.le_trans h2.2 h3.2)⟩
            · rw [if_neg hl] at hr
              simp at hr
/-- an instruction's length -/
def m_len (i : Instr) : Nat := match i with
  | .bipush _ => 2
  | .sipush _ => 3
  | .ldc _ => 2
  | .ldc_w _ => 3
  | .ldc2_w _ => 3
  | .iload _ => 2
  | .lload _ => 2
  | .aload _ => 2
  | .istore _ => 2
  | .lstore _ => 2
  | .astore _ => 2
  | .iinc _ _ => 3
  | .getfield _ => 3
  | .putfield _ => 3
  | .newarray _ => 2
  | .anewarray _ => 3
  | .new _ => 3
  | .goto _ => 3
  | .ifCond _ _ => 3
  | .if_icmp _ _ => 3
  | .invokestatic _ => 3
  | .invokevirtual _ => 3
  | .invokespecial _ => 3
  | _ => 1
/-- a simple instruction's links -/
def LOK (own : String) (init : Prop) (i : Instr) (d : ML) : Prop := match i with
  | .iconst n => -2 ^ 31 ≤ n ∧ n < 2 ^ 31
  | .bipush n => -2 ^ 7 ≤ n ∧ n < 2 ^ 7
  | .sipush n => -2 ^ 15 ≤ n ∧ n < 2 ^ 15
  | .iinc _ n => -2 ^ 31 ≤ n ∧ n < 2 ^ 31
  | .ldc n => (d.1 = 1 ∧ own = RX5 ∧ n = 19 ∧ d.2.1 = 2) ∨ (d.1 = 0 ∧ ∃ v : Int32, Cond.constant own n v ∈ gtbl ∧ v.toInt = d.2.2.1)
  | .ldc_w n => (d.1 = 1 ∧ own = RX11 ∧ n = 261 ∧ d.2.1 = 1) ∨ (d.1 = 0 ∧ ∃ v : Int32, Cond.constant own n v ∈ gtbl ∧ v.toInt = d.2.2.1)
  | .ldc2_w n => ∃ v : Int64, Cond.constantLong own n v ∈ gtbl ∧ v.toInt = d.2.2.1
  | .getfield n => ∃ q, vwCl[d.1]? = some q ∧ Cond.fieldLink own n (q.2.1 d.2.1).1 (q.2.1 d.2.1).2.1 (q.2.1 d.2.1).2.2.1 ∈ gtbl
  | .putfield n => ∃ q, vwCl[d.1]? = some q ∧ Cond.fieldLink own n (q.2.1 d.2.1).1 (q.2.1 d.2.1).2.1 (q.2.1 d.2.1).2.2.1 ∈ gtbl ∧ ((q.2.1 d.2.1).2.2.2 = false ∨ ((q.2.1 d.2.1).2.2.2 = true ∧ init ∧ (q.2.1 d.2.1).1 = own))
  | .newarray t => Cond.arrayClass (newarray.typeOf t) ∈ gtbl ∧ m_atype t d.1
  | .anewarray n => ∃ q, vwCl[d.1]? = some q ∧ Cond.classLink own n q.1 ∈ gtbl ∧ (q.1 = RX2 ∨ q.1 = RX6)
  | .new n => d.1 = 200 ∨ ∃ q, vwCl[d.1]? = some q ∧ (∀ j, j < q.2.2 → m_fty d.1 j ≤ 3) ∧ Cond.classLink own n q.1 ∈ gtbl ∧ Cond.instantiable q.1 q.2.2 ∈ gtbl ∧ Cond.initialized q.1 ∈ gtbl
  | _ => True
/-- the rows of texts, to be closed in a part of their own -/
def TextOK : Prop := ∀ (p : Program) (l : Launch) (e : Env) (R : Room) (s : State) (m : MethodId) (args : Array Value) (below : List Frame) (meth : Method) (c : Code) (Q : State → Prop) (D : va_G) (A : Nat → Prop) (sp ad av : Nat → Nat) (w0 : va_W) (nL nc0 ns0 : Nat) (F : MF) (x : MX) (pc idx : Nat) (L : List (Option MV)) (S S' : List MV) (h h' : MH), CTX p R s m args meth c F x A sp ad av → 4 ≤ R.frames → 90 ≤ R.locals →
  ((Cond.methodLink (f_y F).cls idx yJ0_charAt_5068e ∈ gtbl ∧ m_nat 1001 S h = some (S', h')) ∨ (Cond.methodLink (f_y F).cls idx yJ0_length_8abf5 ∈ gtbl ∧ m_nat 1002 S h = some (S', h'))) → m_w S' ≤ 8 → decode (f_c F) pc = .ok (.invokevirtual idx, 3) → f_L F = nL →
  mh_c h' ≤ nc0 + R.cells → mh_s h' ≤ ns0 + R.slots →
  WW p l e R s m args below meth c Q D A sp w0 nL nc0 ns0 (pc + 3) L S' h' → WW p l e R s m args below meth c Q D A sp w0 nL nc0 ns0 pc L S h
section ONE
variable {p : Program} {l : Launch} {e : Env} {R : Room} {s : State} {m : MethodId} {args : Array Value} {below : List Frame} {meth : Method} {c : Code} {Q : State → Prop} {D : va_G} {A : Nat → Prop} {sp ad av : Nat → Nat} {w0 : va_W} {nL nc0 ns0 : Nat} {pc : Nat} {L L' : List (Option MV)} {S S' : List MV} {h h' : MH} {x : MX} {d : ML} {F : MF}
theorem lv_ldcwS (hexec : p.tables.exec = Jvm.exec) {cc : ByteArray} {H : Heap} {locs : List Loc} {cells slots : Nat} {ls : Array Slot} {rest : List Value} (hb : c.code = cc) {own tx : String} {index q : Nat} (hown : s.vm.findClass own = some m.cls) (hZ : vk_R own index tx q s) (hdg : decode cc pc = .ok (.ldc_w index, 3))
    (k : W p l e R s m args below meth c H locs cells slots Q (F0 m (pc + 3) ls (.ref q :: rest))) : W p l e R s m args below meth c H locs cells slots Q (F0 m pc ls rest) := by
  intro T hT X
  obtain ⟨t, a1, b1⟩ := k T hT X
  refine ⟨t, ?_, b1⟩
  subst hb
  obtain ⟨kc, cf, i, a', hk, hcf, hcp, -, hr, hev'⟩ := Cond.stringRef_spec hown hZ.1
  cases hZ.2.symm.trans hev'
  obtain ⟨k', hk', he⟩ := X.warmed.alike.2.2 _ _ hk
  have hr' : k'.resolved[index]? = some (some (.string q)) := by
    rcases X.warmed.entry hk hk' index with h | ⟨h, -⟩
    · rw [h]; exact hr
    · rw [hr] at h; cases h
  jvm_step X.here [hexec, hdg, ldc_w.wp_string (e := e) (s := T) (f := F0 m pc ls rest) X.here.top hk' (by rw [he]; exact hcf) hcp hr']
  exact a1
set_option maxHeartbeats 4000000 in
theorem sn_one {i : Instr} (hcl : ∀ ci q, vwCl[ci]? = some q → cl_fact ci q) (hx : CTX p R s m args meth c F x A sp ad av) (hk : LOK (f_y F).cls ((f_y F).name = "<init>") i d) (hdg : decode (f_c F) pc = .ok (i, m_len i)) (hrm : mh_c h' ≤ nc0 + R.cells ∧ mh_s h' ≤ ns0 + R.slots) (h200 : ¬ d.1 = 200) (hm : m_one x i d L S h = some (L', S', h')) (kk : WW p l e R s m args below meth c Q D A sp w0 nL nc0 ns0 (pc + m_len i) L' S' h') : WW p l e R s m args below meth c Q D A sp w0 nL nc0 ns0 pc L S h := by
  obtain ⟨h1, h2, h3, h4, h5, h6, h7, h8, h9, h10, h11, h12⟩ := hx
  cases i
  case iconst n => exact sn_iconst h1 h2 hk hdg hm kk
  case bipush n => exact sn_bipush h1 h2 hk hdg hm kk
  case sipush n => exact sn_sipush h1 h2 hk hdg hm kk
  case lconst n => exact sn_lconst h1 h2 hdg hm kk
  case ldc n =>
    rcases hk with ⟨hd, ho, rfl, hd2⟩ | ⟨hd, v, hv, he⟩
    · have hm : (if d.1 = 1 then some (L, mS d.2.1 :: S, h) else some (L, mI d.2.2.1 :: S, h)) = some (L', S', h') := hm
      rw [if_pos hd, hd2] at hm
      cases hm
      intro H locs cells slots ls st ⟨ws, tys, hK, hP, hD, hS, hE, hH, hL, hSt, hc, hs⟩
      rw [ho] at h4
      exact va_ldcS h1 h2 h4 h9.2.2.1 hdg (kk _ _ _ _ _ _ ⟨ws, tys, hK, hP, hD, hS, hE, hH, hL, ⟨_, _, rfl, by show _ = Value.ref (sp 2); rw [h10], hSt⟩, hc, hs⟩)
    · exact sn_ldc h1 h2 h4 (by omega) (h5 _ hv) he hdg hm kk
  case ldc_w n =>
    rcases hk with ⟨hd, ho, rfl, hd2⟩ | ⟨hd, v, hv, he⟩
    · have hm : (if d.1 = 1 then some (L, mS d.2.1 :: S, h) else some (L, mI d.2.2.1 :: S, h)) = some (L', S', h') := hm
      rw [if_pos hd, hd2] at hm
      cases hm
      intro H locs cells slots ls st ⟨ws, tys, hK, hP, hD, hS, hE, hH, hL, hSt, hc, hs⟩
      rw [ho] at h4
      exact lv_ldcwS h1 h2 h4 h9.2.1 hdg (kk _ _ _ _ _ _ ⟨ws, tys, hK, hP, hD, hS, hE, hH, hL, ⟨_, _, rfl, by show _ = Value.ref (sp 1); rw [h10], hSt⟩, hc, hs⟩)
    · exact sn_ldc_w h1 h2 h4 (by omega) (h5 _ hv) he hdg hm kk
  case ldc2_w n =>
    obtain ⟨v, hv, he⟩ := hk
    exact sn_ldc2_w h1 h2 h4 (h5 _ hv) he hdg hm kk
  case iload n => exact sn_iload h1 h2 hdg hm kk
  case iload_n n => exact sn_iload_n h1 h2 hdg hm kk
  case lload n => exact sn_lload h1 h2 hdg hm kk
  case lload_n n => exact sn_lload_n h1 h2 hdg hm kk
  case aload n => exact sn_aload h1 h2 hdg hm kk
  case aload_n n => exact sn_aload_n h1 h2 hdg hm kk
  case istore n => exact sn_istore h1 h2 hdg hm kk
  case istore_n n => exact sn_istore_n h1 h2 hdg hm kk
  case lstore n => exact sn_lstore h1 h2 hdg hm kk
  case lstore_n n => exact sn_lstore_n h1 h2 hdg hm kk
  case astore n => exact sn_astore h1 h2 hdg hm kk
  case astore_n n => exact sn_astore_n h1 h2 hdg hm kk
  case iinc n k => exact sn_iinc h1 h2 hk hdg hm kk
  case iadd => exact sn_iadd h1 h2 hdg hm kk
  case isub => exact sn_isub h1 h2 hdg hm kk
  case imul => exact sn_imul h1 h2 hdg hm kk
  case idiv => exact sn_idiv h1 h2 hdg hm kk
  case irem => exact sn_irem h1 h2 hdg hm kk
  case ineg => exact sn_ineg h1 h2 hdg hm kk
  case iand => exact sn_iand h1 h2 hdg hm kk
  case ior => exact sn_ior h1 h2 hdg hm kk
  case ixor => exact sn_ixor h1 h2 hdg hm kk
  case ishl => exact sn_ishl h1 h2 hdg hm kk
  case ishr => exact sn_ishr h1 h2 hdg hm kk
  case iushr => exact sn_iushr h1 h2 hdg hm kk
  case i2l => exact sn_i2l h1 h2 hdg hm kk
  case i2b => exact sn_i2b h1 h2 hdg hm kk
  case land => exact sn_land h1 h2 hdg hm kk
  case lor => exact sn_lor h1 h2 hdg hm kk
  case lxor => exact sn_lxor h1 h2 hdg hm kk
  case lshl => exact sn_lshl h1 h2 hdg hm kk
  case lushr => exact sn_lushr h1 h2 hdg hm kk
  case lcmp => exact sn_lcmp h1 h2 hdg hm kk
  case dup => exact sn_dup h1 h2 hdg hm kk
  case dup2 => exact sn_dup2 h1 h2 hdg hm kk
  case pop => exact sn_pop h1 h2 hdg hm kk
  case getfield n =>
    obtain ⟨q, hq, hl⟩ := hk
    exact sn_getfield h1 h2 h5 h4 hq (hcl _ _ hq) (h5 _ hl) hdg hm kk
  case putfield n =>
    obtain ⟨q, hq, hl, hf⟩ := hk
    exact sn_putfield h1 h2 h5 h4 hq (hcl _ _ hq) (h5 _ hl) (hf.imp id (fun z => ⟨z.1, h7 z.2.1, z.2.2⟩)) hdg hm kk
  case iaload => exact sn_iaload h1 h2 h8 hdg hm kk
  case baload => exact sn_baload h1 h2 hdg hm kk
  case laload => exact sn_laload h1 h2 hdg hm kk
  case aaload => exact sn_aaload h1 h2 hdg hm kk
  case arraylength => exact sn_arraylength h1 h2 h8 hdg hm kk
  case iastore => exact sn_iastore h1 h2 hdg hm kk
  case bastore => exact sn_bastore h1 h2 hdg hm kk
  case lastore => exact sn_lastore h1 h2 hdg hm kk
  case aastore => exact sn_aastore h1 h2 hdg hm kk
  case newarray t => exact sn_newarray h1 h2 h6 (h5 _ hk.1) hk.2 hrm hdg hm kk
  case anewarray n =>
    obtain ⟨q, hq, hl, ho⟩ := hk
    exact sn_anewarray h1 h2 h4 h6 hq (h5 _ hl) (ho.elim (fun z => by rw [z]; exact h9.2.2.2.1.1) (fun z => by rw [z]; exact h9.2.2.2.1.2.1)) hrm hdg hm kk
  case new n =>
    rcases hk with hk | ⟨q, hq, hft, hl, hi, hn⟩
    · exact absurd hk h200
    · exact sn_new h1 h2 h5 h4 h6 hq (hcl _ _ hq) hft (h5 _ hl) (h5 _ hi) (h5 _ hn) hrm hdg hm kk
  all_goals (have hm : none = some (L', S', h') := hm; cases hm)
end ONE
