/-! ===== methods as a whole: what is known at an entry, contracts ===== -/
abbrev MF : Type := MethodName × ByteArray × Nat × Option FieldType × List Nat × Nat × Nat
abbrev f_y (F : MF) : MethodName := F.1
abbrev f_c (F : MF) : ByteArray := F.2.1
abbrev f_L (F : MF) : Nat := F.2.2.1
abbrev f_r (F : MF) : Option FieldType := F.2.2.2.1
abbrev f_p (F : MF) : List Nat := F.2.2.2.2.1
abbrev f_f (F : MF) : Nat := F.2.2.2.2.2.1
abbrev f_o (F : MF) : Nat := F.2.2.2.2.2.2
abbrev gw (F : MF) : List Cond := .code (f_y F) (f_c F) (f_L F) (f_r F) :: gtbl
def m_lens : List Nat := [(m_txt 1).length, (m_txt 2).length]
def m_byts : List (List Int32) := [(m_txt 1).map Int32.ofInt, (m_txt 2).map Int32.ofInt]
/-- words that don't keep themselves: arrays of classes, constructors of nest mates -/
def NWs (s : State) : Prop := va_AO RX2 s ∧ va_AO RX6 s ∧ va_Nw (.methodLinkNest RX11 9 yX7_init RX11) s ∧ va_Nw (.methodLinkNest RX11 27 yX2_init RX11) s ∧ va_Nw (.methodLinkNest RX2 18 yX6_init RX11) s ∧ va_Nw (.methodLinkNest RX2 25 yX4_init RX11) s ∧ va_Nw (.methodLinkNest RX11 56 yX4_init RX11) s ∧ va_Nw (.methodLinkNest RX0 11 yX6_init RX11) s
theorem NWs.warm {s U : State} (hW : s.WarmedH U.vm) (h : NWs s) : NWs U := by
  obtain ⟨h1, h2, h3, h4, h5, h6, h7, h8⟩ := h
  exact ⟨h1.moved hW.alike, h2.moved hW.alike, h3.warmM hW, h4.warmM hW, h5.warmM hW, h6.warmM hW, h7.warmM hW, h8.warmM hW⟩
theorem NWs.blind {U : State} {g : JFrame} {mk : MethodId} {a : Array Value} (h : NWs U) : NWs (U.calling g mk a) := by
  obtain ⟨h1, h2, h3, h4, h5, h6, h7, h8⟩ := h
  exact ⟨va_AO.moved (u := U) (U := U.calling g mk a) (Vm.Alike.refl U.vm) h1, va_AO.moved (u := U) (U := U.calling g mk a) (Vm.Alike.refl U.vm) h2, va_Nw.same (u := U) (U := U.calling g mk a) rfl rfl h3, va_Nw.same (u := U) (U := U.calling g mk a) rfl rfl h4, va_Nw.same (u := U) (U := U.calling g mk a) rfl rfl h5, va_Nw.same (u := U) (U := U.calling g mk a) rfl rfl h6, va_Nw.same (u := U) (U := U.calling g mk a) rfl rfl h7, va_Nw.same (u := U) (U := U.calling g mk a) rfl rfl h8⟩
/-- statics that nobody writes -/
def STs (A : Nat → Prop) (s : State) (H : Heap) : Prop := va_Z "java/lang/String" "COMPACT_STRINGS" "Z" (.int 1) A s H ∧ va_Zq "jdk/internal/util/Preconditions" "SIOOBE_FORMATTER" "Ljava/util/function/BiFunction;" A s H ∧ va_Zq "java/lang/Throwable" "UNASSIGNED_STACK" "[Ljava/lang/StackTraceElement;" A s H ∧ va_Zq "java/lang/Throwable" "SUPPRESSED_SENTINEL" "Ljava/util/List;" A s H
/-- the two texts, where no cell is ours -/
def TXT (ad av : Nat → Nat) (A : Nat → Prop) (s : State) (H : Heap) : Prop := vk_S 2 m_lens m_byts ad av A s H ∧ vk_R RX11 261 "nesw" (ad 0) s ∧ vk_R RX5 19 "row law timber water wind fog door mud ladder herd wolf go sell buy day night " (ad 1) s ∧ NWs s ∧ STs A s H
theorem TXT.pass {ad av : Nat → Nat} {A B : Nat → Prop} {s U : State} {H : Heap} {locs : List Loc} (h : TXT ad av A s s.heap) (hS : va_S A s.heap H locs) (hB : ∀ q, B q → A q) (hU : U.heap = H) (hW : s.WarmedH U.vm) : TXT ad av B U U.heap := by
  obtain ⟨h1, h2, h3, h4, h5, h6, h7, h8⟩ := h
  refine ⟨?_, h2.warm hW, h3.warm hW, h4.warm hW, ?_⟩
  · rw [hU]
    exact vk_S.moved hW.alike ((h1.kept hS.2.1).narrow hB)
  · rw [hU]
    exact ⟨va_Z.moved hW.alike ((h5.kept hS.2.1).narrow hB), va_Zq.moved hW.alike ((h6.kept hS.2.1).narrow hB), va_Zq.moved hW.alike ((h7.kept hS.2.1).narrow hB), va_Zq.moved hW.alike ((h8.kept hS.2.1).narrow hB)⟩
theorem TXT.blind {ad av : Nat → Nat} {A : Nat → Prop} {U : State} {g : JFrame} {mk : MethodId} {a : Array Value} (h : TXT ad av A U U.heap) : TXT ad av A (U.calling g mk a) (U.calling g mk a).heap := by
  obtain ⟨h1, h2, h3, h4, h5, h6, h7, h8⟩ := h
  exact ⟨vk_S.moved (u := U) (U := U.calling g mk a) (Vm.Alike.refl U.vm) h1, vk_R.same (u := U) (U := U.calling g mk a) rfl h2, vk_R.same (u := U) (U := U.calling g mk a) rfl h3, h4.blind, va_Z.moved (u := U) (U := U.calling g mk a) (Vm.Alike.refl U.vm) h5, va_Zq.moved (u := U) (U := U.calling g mk a) (Vm.Alike.refl U.vm) h6, va_Zq.moved (u := U) (U := U.calling g mk a) (Vm.Alike.refl U.vm) h7, va_Zq.moved (u := U) (U := U.calling g mk a) (Vm.Alike.refl U.vm) h8⟩
def spC (ad : Nat → Nat) (n : Nat) : Nat := match n with
  | 0 => 0
  | n + 1 => ad n
def RV : Option (Option MV) → Option Value → Prop
  | some (some (.inl (.inl z))), v => ∃ x : Int32, v = some (.int x) ∧ x.toInt = z
  | some (some (.inl (.inr z))), v => ∃ x : Int64, v = some (.long x) ∧ x.toInt = z
  | some none, v => v = none
  | _, _ => False
def MQc (D : va_G) (ws : va_W) (sz : Nat) (r : MR) : Array Value → State → Outcome → State → Prop := fun _ st oc t =>
  (∃ (v : Option Value) (ws' : va_W) (tys' : List (ClassId × FieldType)), oc = .returned v ∧ RV r.1 v ∧ EX ws ws' ∧ HR tys' r.2 ws' ∧ va_P D vwCl ws' t.heap ∧ va_K D vwCl tys' t ∧ va_D (va_A ws sz) ws') ∧ va_F (va_A ws sz) st t
def MPc (D : va_G) (ad av : Nat → Nat) (ws : va_W) (tys : List (ClassId × FieldType)) (sz : Nat) (avs : List Value) : Array Value → State → Prop :=
  va_Pc avs (fun U => U.heap.size = sz ∧ va_P D vwCl ws U.heap ∧ va_K D vwCl tys U ∧ va_D (fun _ => True) ws ∧ TXT ad av (va_A ws sz) U U.heap)
theorem MPc.blind (D : va_G) (ad av : Nat → Nat) (ws : va_W) (tys : List (ClassId × FieldType)) (sz : Nat) (avs : List Value) : FrameBlind (MPc D ad av ws tys sz avs) := by
  intro a U g mk ⟨h0, h1, h2, h3, h4, h5⟩
  exact ⟨h0, h1, h2, va_K.moved (u := U) (U := U.calling g mk a) (Vm.Alike.refl U.vm) h3, h4, h5.blind⟩
/-- the method F, called with vs over h, ends with r -/
def MET (l : Launch) (F : MF) (vs : List MV) (h : MH) (r : MR) : Prop :=
  ∀ (D : va_G) (ad av : Nat → Nat) (sz : Nat) (ws : va_W) (tys : List (ClassId × FieldType)) (avs : List Value), HR tys h ws → SR ws (fun _ => 0) vs avs →
    Met l (f_y F) (gw F) { frames := f_f F, cells := mh_c r.2 - mh_c h, slots := mh_s r.2 - mh_s h, locals := f_o F } (MPc D ad av ws tys sz avs) (MQc D ws sz r) (mh_c r.2 - mh_c h) (mh_s r.2 - mh_s h) (va_A ws sz)
def CTX (p : Program) (R : Room) (s : State) (m : MethodId) (args : Array Value) (meth : Method) (c : Code) (F : MF) (x : MX) (A : Nat → Prop) (sp ad av : Nat → Nat) : Prop :=
  p.tables.exec = Jvm.exec ∧ c.code = f_c F ∧ c.maxLocals = f_L F ∧ s.vm.findClass (f_y F).cls = some m.cls ∧ (∀ w ∈ gtbl, w.before args s = true) ∧ (∀ q, s.heap.size ≤ q → A q) ∧ ((f_y F).name = "<init>" → meth.name = "<init>") ∧ XOK x sp A s ∧ TXT ad av A s s.heap ∧ (∀ n, sp (n + 1) = ad n) ∧ f_f F ≤ R.frames ∧ f_o F ≤ R.locals
theorem SR.app {ws : va_W} {sp : Nat → Nat} {B : List MV} {b : List Value} (hB : SR ws sp B b) : ∀ {S : List MV} {st : List Value}, SR ws sp S st → SR ws sp (S ++ B) (st ++ b)
  | [], _, q => by cases q; exact hB
  | _ :: _, _, ⟨v, st', e, q1, q2⟩ => by subst e; exact ⟨v, st' ++ b, rfl, q1, SR.app hB q2⟩
theorem SR.rev {ws : va_W} {sp : Nat → Nat} : ∀ {S : List MV} {st : List Value}, SR ws sp S st → SR ws sp S.reverse st.reverse
  | [], _, q => by cases q; rfl
  | m :: S, _, ⟨v, st', e, q1, q2⟩ => by
    subst e
    rw [List.reverse_cons, List.reverse_cons]
    exact SR.app (show SR ws sp [m] [v] from ⟨v, [], rfl, q1, rfl⟩) (SR.rev q2)
theorem SR.split {ws : va_W} {sp : Nat → Nat} : ∀ (n : Nat) {S : List MV} {st : List Value}, SR ws sp S st → n ≤ S.length → ∃ a b, st = a ++ b ∧ SR ws sp (S.take n) a ∧ SR ws sp (S.drop n) b ∧ a.length = n
  | 0, S, st, q, _ => ⟨[], st, rfl, rfl, q, rfl⟩
  | n + 1, [], st, q, h => by simp at h
  | n + 1, m :: S, _, ⟨v, st', e, q1, q2⟩, h => by
    subst e
    obtain ⟨a, b, h1, h2, h3, h4⟩ := SR.split n q2 (by simpa using h)
    exact ⟨v :: a, b, by rw [h1]; rfl, ⟨v, a, rfl, q1, h2⟩, h3, by simp [h4]⟩
theorem VR.plain {ws : va_W} {sp sp' : Nat → Nat} {m : MV} {v : Value} (hp : m_plain m = true) (h : VR ws sp m v) : VR ws sp' m v := by
  match m, hp, h with
  | .inl (.inl _), _, h => exact h
  | .inl (.inr _), _, h => exact h
  | .inr (.inl none), _, h => exact h
  | .inr (.inl (some _)), _, h => exact h
theorem SR.plain {ws : va_W} {sp sp' : Nat → Nat} : ∀ {S : List MV} {st : List Value}, S.all m_plain = true → SR ws sp S st → SR ws sp' S st
  | [], _, _, q => q
  | m :: S, _, hp, ⟨v, st', e, q1, q2⟩ => by
    rw [List.all_cons, Bool.and_eq_true] at hp
    exact ⟨v, st', e, q1.plain hp.1, SR.plain hp.2 q2⟩
/-- the locals at an entry -/
theorem m_sl_len {ws : va_W} {sp : Nat → Nat} : ∀ {vs : List MV} {avs : List Value}, SR ws sp vs avs → (lg_sl avs).length = (m_sl vs).length
  | [], _, q => by cases q; rfl
  | .inl (.inl z) :: S, _, ⟨v, st', e, ⟨x, hx, _⟩, q2⟩ => by
    subst e; subst hx
    have := m_sl_len q2
    simp only [lg_sl, m_sl, List.flatMap_cons, List.length_append] at this ⊢
    rw [this]; rfl
  | .inl (.inr z) :: S, _, ⟨v, st', e, ⟨x, hx, _⟩, q2⟩ => by
    subst e; subst hx
    have := m_sl_len q2
    simp only [lg_sl, m_sl, List.flatMap_cons, List.length_append] at this ⊢
    rw [this]; rfl
  | .inr z :: S, _, ⟨v, st', e, q1, q2⟩ => by
    subst e
    have := m_sl_len q2
    simp only [lg_sl, m_sl, List.flatMap_cons, List.length_append] at this ⊢
    rw [this, q1.cat1]; rfl
theorem m_sl_at {ws : va_W} {sp : Nat → Nat} : ∀ {vs : List MV} {avs : List Value} (off : Nat), SR ws sp vs avs → ∀ (i : Nat) (m : MV), (m_sl vs)[i]? = some (some m) → ∃ v, (off + i, v) ∈ lv_args off avs ∧ VR ws sp m v
  | [], _, _, _, i, m, hi => by simp [m_sl] at hi
  | .inl (.inl z) :: S, _, off, ⟨v, st', e, ⟨x, hx, hz⟩, q2⟩, i, m, hi => by
    subst e; subst hx
    cases i with
    | zero => cases hi; exact ⟨_, List.mem_cons_self, x, rfl, hz⟩
    | succ i =>
      obtain ⟨w, h1, h2⟩ := m_sl_at (off + 1) q2 i m hi
      exact ⟨w, List.mem_cons_of_mem _ (by rw [show off + (i + 1) = off + 1 + i by omega]; exact h1), h2⟩
  | .inl (.inr z) :: S, _, off, ⟨v, st', e, ⟨x, hx, hz⟩, q2⟩, i, m, hi => by
    subst e; subst hx
    match i, hi with
    | 0, hi => cases hi; exact ⟨_, List.mem_cons_self, x, rfl, hz⟩
    | 1, hi => cases hi
    | i + 2, hi =>
      obtain ⟨w, h1, h2⟩ := m_sl_at (off + 2) q2 i m hi
      exact ⟨w, List.mem_cons_of_mem _ (by rw [show off + (i + 2) = off + 2 + i by omega]; exact h1), h2⟩
  | .inr z :: S, _, off, ⟨v, st', e, q1, q2⟩, i, m, hi => by
    subst e
    cases i with
    | zero => cases hi; exact ⟨_, List.mem_cons_self, q1⟩
    | succ i =>
      obtain ⟨w, h1, h2⟩ := m_sl_at (off + 1) q2 i m hi
      refine ⟨w, ?_, h2⟩
      unfold lv_args
      rw [q1.cat1]
      exact List.mem_cons_of_mem _ (by rw [show off + (i + 1) = off + 1 + i by omega]; exact h1)
theorem LR.entry {ws : va_W} {sp : Nat → Nat} {vs : List MV} {avs : List Value} {nL : Nat} (q : SR ws sp vs avs) (hn : (m_sl vs).length ≤ nL) : LR ws sp (m_ent vs nL) ((lg_sl avs ++ List.replicate (nL - (lg_sl avs).length) Slot.unset).toArray) nL := by
  have hl := m_sl_len q
  obtain ⟨b1, b2, b3⟩ := lv_entry avs (n := nL) (by rw [hl]; exact hn)
  refine ⟨by unfold m_ent; rw [List.length_append, List.length_replicate]; omega, b1, b2, fun i m hi => ?_⟩
  unfold m_ent at hi
  by_cases hil : i < (m_sl vs).length
  · rw [List.getElem?_append_left hil] at hi
    obtain ⟨v, h1, h2⟩ := m_sl_at 0 q i m hi
    rw [Nat.zero_add] at h1
    exact ⟨v, b3 _ h1, h2⟩
  · rw [List.getElem?_append_right (Nat.not_lt.mp hil)] at hi
    obtain ⟨h1, h2⟩ := List.getElem?_eq_some_iff.mp hi
    rw [List.getElem_replicate] at h2
    cases h2
theorem good_gt : ∀ w ∈ gtbl, ((w.onTables && w.keeps) = true ∨ ∃ ty, w = .arrayClass ty) := fun _ h => good_of_word (List.mem_filter.mp h).2
theorem good_gw {F : MF} (h : Cond.code (f_y F) (f_c F) (f_L F) (f_r F) ∈ gtbl) : GoodIn gtbl (gw F) := by
  intro w hw
  rcases List.mem_cons.mp hw with rfl | hw
  · exact ⟨h, good_gt _ h⟩
  · exact ⟨hw, good_gt _ hw⟩
