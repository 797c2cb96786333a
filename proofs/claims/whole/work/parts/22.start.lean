/-! THE CLAIM OUT OF ONE WALK OF THE LAW'S BODY. Your part is whole_start (and what it stands on); all else here is the same for every law, but numbers. -/
def R_law : String := "StiltHerdsLaw"
def lw_P (b : Addr) (xs : List Int32) (args : Array Value) (s : State) : Prop := args = #[.ref b] ∧ s.IntsAt b xs ∧ xs.length ≤ 3072 ∧ (Jvm.Cond.and given_1 narrow_1).before args s = true
def lw_Q (_ : Array Value) (s : State) (o : Outcome) (t : State) : Prop := o = .returned (some (.int 1)) ∧ Framed s o t [] 601024 7293034
def lw_Z (below : List Frame) (a : Array Value) (s : State) : State → Prop := fun t => ∃ o, t.status = .running ∧ Ended t below o ∧ lw_Q a s o t
/-- the law's own end, with 1 on the stack, nothing written that was there before, its room as the claim has it -/
theorem lw_ret {p : Program} {l : Launch} {e : Env} {s : State} {m : MethodId} {below : List Frame} {meth : Method} {c : Code} {b : Nat} (hx : p.tables.exec = Jvm.exec) (hb : c.code = code) (hr : meth.sig.returnType = ret) (hlocks : meth.locks = false) {pc : Nat} {H : Heap} {ls : Array Slot} (hdg : decode code pc = .ok (.ireturn, 1)) : W p l e room_1 s m #[Value.ref b] below meth c H [] 601024 7293034 (lw_Z below #[Value.ref b] s) (F0 m pc ls [.int 1]) := by
  intro T hT X
  obtain ⟨fs, hret, hrun, hended, hW, hframe⟩ := X.leave (v := some (.int 1)) (hlocks := hlocks) (fun h => by rw [hr] at h; cases h)
  have hmeth' : T.vm.method? m = some meth := X.method'
  refine ⟨T.setFrames fs, ?_, .returned (some (.int 1)), hrun, hended, rfl, ⟨_, rfl⟩, hW, hframe⟩
  jvm_step X.here [X.here.top, hx, hb, hdg, hmeth', hr, ret, narrow_b1]
  (try refine ⟨rfl, ?_⟩); (try refine ⟨rfl, ?_⟩)
  first | (intro acts; rw [hret _ acts rfl rfl rfl]) | rw [hret _ _ rfl rfl rfl]
  exact Steps.refl _
/-- what holds at the law's entry: the machine, the code, the tables' words (any of lw_tbl by 'hts w (by decide +kernel)'), the script of L ints xs at the cell b, what the Statement gives of the start (any of its parts by flat_of_before) -/
def lw_At (p : Program) (s : State) (m : MethodId) (meth : Method) (c : Code) (b L : Nat) (xs : Nat → Int32) : Prop :=
  p.tables.exec = Jvm.exec ∧ c.code = code ∧ meth.sig.returnType = ret ∧ c.maxLocals = 7 ∧ s.vm.findClass R_law = some m.cls ∧ (∀ w ∈ lw_tbl, w.before #[Value.ref b] s = true) ∧ va_X b L xs s s.heap ∧ b < s.heap.size ∧ meth.locks = false ∧ (Jvm.Cond.and given_1 narrow_1).before #[Value.ref b] s = true
/-! ===== the law's entry; the claim out of a run of the small machine ===== -/
def tx_tm (i : Nat) : Term := if i = 0 then Term.string RX11 261 else Term.string RX5 19
def tx_gv : Cond := Jvm.Cond.and given_1 narrow_1
theorem tx_1 : ∀ i, i < 2 → Cond.exactly (tx_tm i) "java/lang/String" ∈ flatC tx_gv := by decide +kernel
theorem tx_2 : ∀ i, i < 2 → Cond.eq (.field (tx_tm i) "java/lang/String" "coder" "B") (.int 0) ∈ flatC tx_gv := by decide +kernel
theorem tx_3 : ∀ i, i < 2 → Cond.arrayOf (.field (tx_tm i) "java/lang/String" "value" "[B") .byte ∈ flatC tx_gv := by decide +kernel
theorem tx_4 : ∀ i, i < 2 → Cond.eq (.length (.field (tx_tm i) "java/lang/String" "value" "[B")) (.int (Int32.ofNat (m_lens.getD i 0))) ∈ flatC tx_gv := by decide +kernel
theorem tx_5 : ∀ i, i < 2 → ∀ j, j < m_lens.getD i 0 → Cond.eq (.elem (.field (tx_tm i) "java/lang/String" "value" "[B") (.int (Int32.ofNat j))) (.int ((m_byts.getD i []).getD j 0)) ∈ flatC tx_gv := by decide +kernel
theorem tx_6 : Cond.not (Cond.eq (tx_tm 0) (tx_tm 1)) ∈ flatC tx_gv ∨ Cond.not (Cond.eq (tx_tm 1) (tx_tm 0)) ∈ flatC tx_gv := by decide +kernel
theorem tx_7 : ∀ i, i < 2 → m_lens.getD i 0 < 2 ^ 31 := by decide +kernel
theorem tx_s1 : Cond.stringRef RX11 261 "nesw" ∈ lw_tbl := by decide +kernel
theorem tx_s2 : Cond.stringRef RX5 19 "row law timber water wind fog door mud ladder herd wolf go sell buy day night " ∈ lw_tbl := by decide +kernel
theorem tx_n1 : Cond.arrayOver (.object RX2) ∈ lw_tbl := by decide +kernel
theorem tx_n2 : Cond.arrayOver (.object RX6) ∈ lw_tbl := by decide +kernel
theorem tx_n3 : Cond.methodLinkNest RX11 9 yX7_init RX11 ∈ lw_tbl := by decide +kernel
theorem tx_n4 : Cond.methodLinkNest RX11 27 yX2_init RX11 ∈ lw_tbl := by decide +kernel
theorem tx_n5 : Cond.methodLinkNest RX2 18 yX6_init RX11 ∈ lw_tbl := by decide +kernel
theorem tx_n6 : Cond.methodLinkNest RX2 25 yX4_init RX11 ∈ lw_tbl := by decide +kernel
theorem tx_n7 : Cond.methodLinkNest RX11 56 yX4_init RX11 ∈ lw_tbl := by decide +kernel
theorem tx_n8 : Cond.methodLinkNest RX0 11 yX6_init RX11 ∈ lw_tbl := by decide +kernel
theorem tx_z1 : Cond.laysStatic "java/lang/String" "COMPACT_STRINGS" "Z" ∈ lw_tbl ∧ Cond.initialized "java/lang/String" ∈ lw_tbl ∧ Cond.eq (.static "java/lang/String" "COMPACT_STRINGS" "Z") (.int 1) ∈ flatC tx_gv := by decide +kernel
theorem tx_z2 : Cond.laysStatic "jdk/internal/util/Preconditions" "SIOOBE_FORMATTER" "Ljava/util/function/BiFunction;" ∈ lw_tbl ∧ Cond.initialized "jdk/internal/util/Preconditions" ∈ lw_tbl ∧ Cond.isRef (.static "jdk/internal/util/Preconditions" "SIOOBE_FORMATTER" "Ljava/util/function/BiFunction;") ∈ flatC tx_gv := by decide +kernel
theorem tx_z3 : Cond.laysStatic "java/lang/Throwable" "UNASSIGNED_STACK" "[Ljava/lang/StackTraceElement;" ∈ lw_tbl ∧ Cond.initialized "java/lang/Throwable" ∈ lw_tbl ∧ Cond.isRef (.static "java/lang/Throwable" "UNASSIGNED_STACK" "[Ljava/lang/StackTraceElement;") ∈ flatC tx_gv := by decide +kernel
theorem tx_z4 : Cond.laysStatic "java/lang/Throwable" "SUPPRESSED_SENTINEL" "Ljava/util/List;" ∈ lw_tbl ∧ Cond.initialized "java/lang/Throwable" ∈ lw_tbl ∧ Cond.isRef (.static "java/lang/Throwable" "SUPPRESSED_SENTINEL" "Ljava/util/List;") ∈ flatC tx_gv := by decide +kernel
theorem txt_start {args : Array Value} {s : State} (hts : ∀ w ∈ lw_tbl, w.before args s = true) (hgv : (Jvm.Cond.and given_1 narrow_1).before args s = true) : ∃ ad av, TXT ad av (fun q => s.heap.size ≤ q) s s.heap := by
  have hs := flat_of_before _ hgv
  have hA : ∀ a : Nat, a < s.heap.size → ¬ (fun q : Nat => s.heap.size ≤ q) a := fun a h1 h2 => Nat.not_le.mpr h1 h2
  have hne : ∀ i j : Nat, i < 2 → j < 2 → i ≠ j → (Cond.not (Cond.eq (tx_tm i) (tx_tm j))).before args s = true ∨ (Cond.not (Cond.eq (tx_tm j) (tx_tm i))).before args s = true := by
    intro i j hi hj hij
    have h01 : (i = 0 ∧ j = 1) ∨ (i = 1 ∧ j = 0) := by omega
    rcases h01 with ⟨rfl, rfl⟩ | ⟨rfl, rfl⟩
    · exact tx_6.imp (hs _) (hs _)
    · exact (tx_6.imp (hs _) (hs _)).symm
  obtain ⟨ad, av, h1, h2⟩ := vk_Sof (args := args) (s := s) (N := 2) (tm := tx_tm) (len := m_lens) (byt := m_byts) (A := fun q => s.heap.size ≤ q) tx_7 (fun i hi => hs _ (tx_1 i hi)) (fun i hi => hs _ (tx_2 i hi)) (fun i hi => hs _ (tx_3 i hi)) (fun i hi => hs _ (tx_4 i hi)) (fun i hi j hj => hs _ (tx_5 i hi j hj)) hne hA
  exact ⟨ad, av, h1, vk_R.of (hts _ tx_s1) (h2 0 (by decide)), vk_R.of (hts _ tx_s2) (h2 1 (by decide)), ⟨va_AO.of (hts _ tx_n1), va_AO.of (hts _ tx_n2), va_Nw.of rfl (hts _ tx_n3), va_Nw.of rfl (hts _ tx_n4), va_Nw.of rfl (hts _ tx_n5), va_Nw.of rfl (hts _ tx_n6), va_Nw.of rfl (hts _ tx_n7), va_Nw.of rfl (hts _ tx_n8)⟩, va_Zof (hts _ tx_z1.1) (hts _ tx_z1.2.1) (va_eqi (hs _ tx_z1.2.2)) hA, va_Zqof (hts _ tx_z2.1) (hts _ tx_z2.2.1) (hs _ tx_z2.2.2) hA, va_Zqof (hts _ tx_z3.1) (hts _ tx_z3.2.1) (hs _ tx_z3.2.2) hA, va_Zqof (hts _ tx_z4.1) (hts _ tx_z4.2.1) (hs _ tx_z4.2.2) hA⟩
/-- the script as the small machine has it -/
def lw_x (L : Nat) (xs : Nat → Int32) : MX := some (L, fun j => (xs j).toInt)
def mh_0 : MH := ([], (fun _ _ => 0), (fun _ _ => none), 0, 0)
/-- WHAT IS LEFT OF THE CLAIM: the law, run by the small machine, answers 1 -/
def LawPure : Prop := ∀ (L : Nat) (xs : Nat → Int32), L ≤ 3072 → Rn PT (lw_x L xs) kL_law 0 (m_ent [mS 0] 7) [] mh_0 (fun r => r.1 = some (some (mI 1)) ∧ mh_c r.2 ≤ 601024 ∧ mh_s r.2 ≤ 7293034)
/-- the law's catching calls -/
def LawCatch : Prop := ∀ (p : Program) (l : Launch) (e : Env) (s : State) (m : MethodId) (args : Array Value) (below : List Frame) (meth : Method) (c : Code) (Q : State → Prop) (D : va_G) (A : Nat → Prop) (sp ad av : Nat → Nat) (w0 : va_W) (x : MX), l.stackTraces = false → (∀ w ∈ lw_tbl, w.before args s = true) → (Jvm.Cond.and given_1 narrow_1).before args s = true → (∀ a : Nat, a < s.heap.size → ¬ A a) → CTX p room_1 s m args meth c fL_law x A sp ad av → HCAT PT (kL_law, 7, 1) fL_law p l e room_1 s m args below meth c Q D A sp w0 0 0
theorem lw_D {s : State} {args : Array Value} (hts : ∀ w ∈ gtbl, w.before args s = true) : ∃ D : va_G, va_K D vwCl [] s := by
  have h : ∀ k : Nat, ∃ q : ClassId × (Nat → Nat), ∀ v : vw_C, vwCl[k]? = some v → u_Kn s v.1 v.2.1 v.2.2 q.1 q.2 := by
    intro k
    cases hv : vwCl[k]? with
    | none => exact ⟨(0, fun _ => 0), fun v h => by cases h⟩
    | some v =>
      obtain ⟨t, -, -, -, hin⟩ := cl_ok k v hv
      obtain ⟨c, iS, hKn⟩ := u_known (n := v.2.2) hts hin (hts _ (ci_ok k v hv).1)
      exact ⟨(c, iS), fun v' h => by cases h; exact hKn⟩
  obtain ⟨f, hf⟩ := Classical.axiomOfChoice h
  exact ⟨(fun k => (f k).1, fun k => (f k).2), fun k q hq => hf k q hq, fun k q h => by simp at h⟩
theorem whole_of (hTx : TextOK) (hP : LawPure) (hC : LawCatch) {p : Program} {e : Env} {s : State} {m : MethodId} {below : List Frame} {meth : Method} {c : Code} (l : Launch) (hl : l.stackTraces = false) {b L : Nat} {xs : Nat → Int32} (hL : L ≤ 3072) (C0 : lw_At p s m meth c b L xs) : W p l e room_1 s m #[Value.ref b] below meth c s.heap [] 0 0 (lw_Z below #[Value.ref b] s) (entryFrame m ([Value.ref b] : List Value).toArray 7) := by
  obtain ⟨hx, hb, hr, hml, hown, hts, hX, hbl, hlocks, hgv⟩ := C0
  obtain ⟨ad, av, hTX⟩ := txt_start hts hgv
  have htg : ∀ w ∈ gtbl, w.before #[Value.ref b] s = true := fun w hw => hts w (List.mem_filter.mp hw).1
  obtain ⟨D, hK⟩ := lw_D htg
  obtain ⟨n, r, h1, h2, h3, h4⟩ := hP L xs hL
  obtain ⟨o, hh⟩ := r
  dsimp only at h2 h3 h4
  subst h2
  have hCX : CTX p room_1 s m #[Value.ref b] meth c fL_law (lw_x L xs) (fun q => s.heap.size ≤ q) (fun n => if n = 0 then b else ad (n - 1)) ad av :=
    ⟨hx, hb, hml, hown, htg, fun _ h => h, fun h => absurd h (by decide +kernel), ⟨xs, fun _ _ => rfl, hX, hbl, Nat.not_le.mpr hbl⟩, hTX, fun n => rfl, by decide +kernel, by decide +kernel⟩
  have hw := sound l hTx n (lw_x L xs) (kL_law, 7, 1) fL_law law_ok p e room_1 s m #[Value.ref b] below meth c (lw_Z below #[Value.ref b] s) D (fun q => s.heap.size ≤ q) (fun n => if n = 0 then b else ad (n - 1)) ad av [] 0 0 hCX 0 (m_ent [mS 0] 7) [] mh_0 _ 0 h1 (fun _ _ _ _ _ _ _ _ _ _ _ hq => by cases hq) rfl (by rw [Nat.zero_add]; exact h3) (by rw [Nat.zero_add]; exact h4) ?_ (hC p l e s m _ below meth c _ D _ _ ad av [] _ hl hts hgv (fun a h1 h2 => Nat.not_le.mpr h1 h2) hCX)
  · rw [lg_entry_eq]
    refine hw _ _ _ _ _ _ ⟨[], [], hK, fun k q h => by simp at h, ⟨fun i j p q h => by simp at h, fun k q h => by simp at h⟩, va_S.rf, EX.refl _, ⟨rfl, fun k kd q h => absurd (show ([] : List (Nat × Nat))[k]? = some kd from h) (by simp)⟩, ?_, rfl, rfl, rfl⟩
    exact LR.entry (vs := [mS 0]) (avs := [Value.ref b]) ⟨_, _, rfl, rfl, rfl⟩ (by decide)
  · intro k i d pc Lc S hk hpc hdg hst
    rcases m_jmp_ret hst with ⟨rfl, z, rfl, hz, hr0⟩ | ⟨rfl, z, rfl, hr0⟩ | ⟨rfl, rfl, hr0⟩
    · cases hr0
      intro H locs cells slots ls st ⟨ws, tys, hK', hP', hD', hS', hE', hH', hL', hSt', hc', hs'⟩
      obtain ⟨v1, st1, rfl, ⟨y, rfl, hy⟩, hnil⟩ := hSt'
      cases hnil
      have : y = 1 := Int32.toInt_inj.mp hy
      subst this
      refine va_forget (fun q hq => hS'.2.2 q hq) ?_
      refine W.widen (k := 601024) (n := 7293034) (by dsimp only at hc'; omega) (by dsimp only at hs'; omega) ?_
      exact lw_ret hx hb hr hlocks hdg
    · cases hr0
    · cases hr0
