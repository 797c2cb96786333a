/-! ===== String.charAt, String.length of the two texts ===== -/
def QRO (v : Option Value) : Array Value → State → Outcome → State → Prop := fun _ st oc t => oc = .returned v ∧ t.heap = st.heap
def PRO (ad av : Nat → Nat) (A : Nat → Prop) (avs : List Value) : Array Value → State → Prop := va_Pc avs (fun U => TXT ad av A U U.heap)
theorem PRO.blind (ad av : Nat → Nat) (A : Nat → Prop) (avs : List Value) : FrameBlind (PRO ad av A avs) := fun _ _ _ _ ⟨h0, h1⟩ => ⟨h0, h1.blind⟩
section TXTS
variable {p : Program} {l : Launch} {e : Env} {R : Room} {s : State} {m : MethodId} {args : Array Value} {below : List Frame} {meth : Method} {c : Code} {Q : State → Prop} {H : Heap} {locs : List Loc} {cells slots : Nat} {ad av : Nat → Nat} {A : Nat → Prop}
theorem ro_call {pc : Nat} {ls : Array Slot} {rest st0 : List Value} {a : Array Value} {v : Option Value} (hr : va_Run p l e R s m args below meth c H locs cells slots 0 0 (F0 m pc ls st0) rest (QRO v a) (fun _ => False)) (kk : W p l e R s m args below meth c H locs cells slots Q (F0 m (pc + 3) ls (v.toList ++ rest))) : W p l e R s m args below meth c H locs cells slots Q (F0 m pc ls st0) := by
  intro T hT X
  obtain ⟨v', st₀, t, T', Lc, h0, X', hLc, e1, e2, ⟨hv, hh⟩, st⟩ := hr T hT X
  cases hv
  have hnil : Lc = [] := List.eq_nil_iff_forall_not_mem.mpr (fun q hq => hLc q hq)
  subst hnil
  rw [List.append_nil] at X'
  obtain ⟨t2, a1, b1⟩ := kk T' (by rw [e1, hh, h0]) X'
  exact ⟨t2, st t2 a1, b1⟩
theorem PRO.at {avs : List Value} (hTX : TXT ad av A s s.heap) (hS : va_S A s.heap H locs) : ∀ U : State, U.heap = H → s.WarmedH U.vm → PRO ad av A avs avs.toArray U := fun _ hU hW => ⟨rfl, hTX.pass hS (fun _ h => h) hU hW⟩
end TXTS
abbrev wJ3c : List Cond := .code yJ3_checkIndex_8e157 cJ3_checkIndex_8e157 3 (some .int) :: gtbl
abbrev wJ0k : List Cond := .code yJ0_checkIndex_df160 cJ0_checkIndex_df160 2 none :: gtbl
abbrev wJ1c : List Cond := .code yJ1_charAt_3b067 cJ1_charAt_3b067 2 (some .char) :: gtbl
abbrev wJ0i : List Cond := .code yJ0_isLatin1_aae02 cJ0_isLatin1_aae02 1 (some .boolean) :: gtbl
abbrev wJ0o : List Cond := .code yJ0_coder_7d493 cJ0_coder_7d493 1 (some .byte) :: gtbl
abbrev wJ0c : List Cond := .code yJ0_charAt_5068e cJ0_charAt_5068e 2 (some .char) :: gtbl
abbrev wJ0l : List Cond := .code yJ0_length_8abf5 cJ0_length_8abf5 1 (some .int) :: gtbl
def ckw (w : Cond) : Bool := decide (w ∈ lw_tbl) && goodWord w
theorem ckw_ok {w : Cond} (h : ckw w = true) : w ∈ gtbl := by
  unfold ckw at h
  rw [Bool.and_eq_true, decide_eq_true_eq] at h
  exact gt_of h.1 h.2
theorem good_cons {w : Cond} (h : w ∈ gtbl) : GoodIn gtbl (w :: gtbl) := by
  intro v hv
  rcases List.mem_cons.mp hv with rfl | hv
  · exact ⟨h, good_gt _ h⟩
  · exact ⟨hv, good_gt _ hv⟩
theorem good_pre {ws : List Cond} {w : Cond} (hw : ∀ v ∈ ws, v ∈ gtbl) (h : w ∈ gtbl) : GoodIn gtbl (ws ++ w :: gtbl) := by
  intro v hv
  rcases List.mem_append.mp hv with hv | hv
  · exact ⟨hw v hv, good_gt _ (hw v hv)⟩
  · exact good_cons h v hv
theorem tw_J3_checkIndex_8e157 : Cond.code yJ3_checkIndex_8e157 cJ3_checkIndex_8e157 3 (some .int) ∈ gtbl := (gt_of (List.mem_append_right _ (List.mem_append_left _ (List.mem_of_getElem? (i := 103) rfl))) rfl)
theorem tw_J0_checkIndex_df160 : Cond.code yJ0_checkIndex_df160 cJ0_checkIndex_df160 2 none ∈ gtbl := (gt_of (List.mem_append_right _ (List.mem_append_left _ (List.mem_of_getElem? (i := 98) rfl))) rfl)
theorem tw_J1_charAt_3b067 : Cond.code yJ1_charAt_3b067 cJ1_charAt_3b067 2 (some .char) ∈ gtbl := (gt_of (List.mem_append_right _ (List.mem_append_left _ (List.mem_of_getElem? (i := 95) rfl))) rfl)
theorem tw_J0_isLatin1_aae02 : Cond.code yJ0_isLatin1_aae02 cJ0_isLatin1_aae02 1 (some .boolean) ∈ gtbl := (gt_of (List.mem_append_right _ (List.mem_append_left _ (List.mem_of_getElem? (i := 92) rfl))) rfl)
theorem tw_J0_coder_7d493 : Cond.code yJ0_coder_7d493 cJ0_coder_7d493 1 (some .byte) ∈ gtbl := (gt_of (List.mem_append_right _ (List.mem_append_left _ (List.mem_of_getElem? (i := 82) rfl))) rfl)
theorem tw_J0_charAt_5068e : Cond.code yJ0_charAt_5068e cJ0_charAt_5068e 2 (some .char) ∈ gtbl := (gt_of (List.mem_append_right _ (List.mem_append_left _ (List.mem_of_getElem? (i := 88) rfl))) rfl)
theorem tw_J0_length_8abf5 : Cond.code yJ0_length_8abf5 cJ0_length_8abf5 1 (some .int) ∈ gtbl := (gt_of (List.mem_append_right _ (List.mem_append_left _ (List.mem_of_getElem? (i := 78) rfl))) rfl)
theorem tl_1 : Cond.methodLink RJ0 1059 yJ3_checkIndex_8e157 ∈ gtbl ∧ Cond.static yJ3_checkIndex_8e157 ∈ gtbl ∧ Cond.initialized RJ3 ∈ gtbl := ⟨(gt_of (List.mem_append_right _ (List.mem_append_left _ (List.mem_of_getElem? (i := 101) rfl))) rfl), (gt_of (List.mem_append_right _ (List.mem_append_left _ (List.mem_of_getElem? (i := 102) rfl))) rfl), (gt_of (List.mem_append_right _ (List.mem_append_left _ (List.mem_of_getElem? (i := 6) rfl))) rfl)⟩
theorem tl_2 : Cond.methodLink RJ1 9 yJ0_checkIndex_df160 ∈ gtbl ∧ Cond.static yJ0_checkIndex_df160 ∈ gtbl ∧ Cond.initialized RJ0 ∈ gtbl := ⟨(gt_of (List.mem_append_right _ (List.mem_append_left _ (List.mem_of_getElem? (i := 96) rfl))) rfl), (gt_of (List.mem_append_right _ (List.mem_append_left _ (List.mem_of_getElem? (i := 97) rfl))) rfl), (gt_of (List.mem_append_right _ (List.mem_append_left _ (List.mem_of_getElem? (i := 4) rfl))) rfl)⟩
theorem tl_3 : Cond.methodLink RJ0 495 yJ1_charAt_3b067 ∈ gtbl ∧ Cond.static yJ1_charAt_3b067 ∈ gtbl ∧ Cond.initialized RJ1 ∈ gtbl := ⟨(gt_of (List.mem_append_right _ (List.mem_append_left _ (List.mem_of_getElem? (i := 93) rfl))) rfl), (gt_of (List.mem_append_right _ (List.mem_append_left _ (List.mem_of_getElem? (i := 94) rfl))) rfl), (gt_of (List.mem_append_right _ (List.mem_append_left _ (List.mem_of_getElem? (i := 5) rfl))) rfl)⟩
theorem tl_4 : Cond.methodLink RJ0 492 yJ0_isLatin1_aae02 ∈ gtbl ∧ Cond.instanceMethod yJ0_isLatin1_aae02 ∈ gtbl ∧ Cond.selects RJ0 yJ0_isLatin1_aae02 yJ0_isLatin1_aae02 ∈ gtbl ∧ Cond.initialized RJ0 ∈ gtbl := ⟨(gt_of (List.mem_append_right _ (List.mem_append_left _ (List.mem_of_getElem? (i := 89) rfl))) rfl), (gt_of (List.mem_append_right _ (List.mem_append_left _ (List.mem_of_getElem? (i := 90) rfl))) rfl), (gt_of (List.mem_append_right _ (List.mem_append_left _ (List.mem_of_getElem? (i := 91) rfl))) rfl), (gt_of (List.mem_append_right _ (List.mem_append_left _ (List.mem_of_getElem? (i := 4) rfl))) rfl)⟩
theorem tl_5 : Cond.methodLink RJ0 335 yJ0_coder_7d493 ∈ gtbl ∧ Cond.instanceMethod yJ0_coder_7d493 ∈ gtbl ∧ Cond.selects RJ0 yJ0_coder_7d493 yJ0_coder_7d493 ∈ gtbl ∧ Cond.initialized RJ0 ∈ gtbl := ⟨(gt_of (List.mem_append_right _ (List.mem_append_left _ (List.mem_of_getElem? (i := 79) rfl))) rfl), (gt_of (List.mem_append_right _ (List.mem_append_left _ (List.mem_of_getElem? (i := 80) rfl))) rfl), (gt_of (List.mem_append_right _ (List.mem_append_left _ (List.mem_of_getElem? (i := 81) rfl))) rfl), (gt_of (List.mem_append_right _ (List.mem_append_left _ (List.mem_of_getElem? (i := 4) rfl))) rfl)⟩
theorem tl_6 : Cond.instanceMethod yJ0_charAt_5068e ∈ gtbl ∧ Cond.selects RJ0 yJ0_charAt_5068e yJ0_charAt_5068e ∈ gtbl ∧ Cond.initialized RJ0 ∈ gtbl := ⟨(gt_of (List.mem_append_right _ (List.mem_append_left _ (List.mem_of_getElem? (i := 86) rfl))) rfl), (gt_of (List.mem_append_right _ (List.mem_append_left _ (List.mem_of_getElem? (i := 87) rfl))) rfl), (gt_of (List.mem_append_right _ (List.mem_append_left _ (List.mem_of_getElem? (i := 4) rfl))) rfl)⟩
theorem tl_7 : Cond.instanceMethod yJ0_length_8abf5 ∈ gtbl ∧ Cond.selects RJ0 yJ0_length_8abf5 yJ0_length_8abf5 ∈ gtbl ∧ Cond.initialized RJ0 ∈ gtbl := ⟨(gt_of (List.mem_append_right _ (List.mem_append_left _ (List.mem_of_getElem? (i := 76) rfl))) rfl), (gt_of (List.mem_append_right _ (List.mem_append_left _ (List.mem_of_getElem? (i := 77) rfl))) rfl), (gt_of (List.mem_append_right _ (List.mem_append_left _ (List.mem_of_getElem? (i := 4) rfl))) rfl)⟩
theorem tf_1 : Cond.fieldLink RJ0 1053 "jdk/internal/util/Preconditions" "SIOOBE_FORMATTER" "Ljava/util/function/BiFunction;" ∈ gtbl := (gt_of (List.mem_append_right _ (List.mem_append_left _ (List.mem_of_getElem? (i := 99) rfl))) rfl)
theorem tf_2 : Cond.fieldLink RJ0 38 "java/lang/String" "COMPACT_STRINGS" "Z" ∈ gtbl := (gt_of (List.mem_append_right _ (List.mem_append_left _ (List.mem_of_getElem? (i := 83) rfl))) rfl)
theorem tf_3 : Cond.fieldLink RJ0 15 "java/lang/String" "coder" "B" ∈ gtbl := (gt_of (List.mem_append_right _ (List.mem_append_right _ (List.mem_append_right _ (List.mem_append_right _ (List.mem_append_right _ (List.mem_append_right _ (List.mem_append_right _ (List.mem_append_right _ (List.mem_of_getElem? (i := 205) rfl))))))))) rfl)
theorem tf_4 : Cond.fieldLink RJ0 9 "java/lang/String" "value" "[B" ∈ gtbl := (gt_of (List.mem_append_right _ (List.mem_append_right _ (List.mem_append_right _ (List.mem_append_right _ (List.mem_append_right _ (List.mem_append_right _ (List.mem_append_right _ (List.mem_append_right _ (List.mem_of_getElem? (i := 204) rfl))))))))) rfl)
theorem dJ3_checkIndex_8e157_0 : decode cJ3_checkIndex_8e157 0 = .ok (.iload_n 0, 1) := by decide +kernel
theorem dJ3_checkIndex_8e157_1 : decode cJ3_checkIndex_8e157 1 = .ok (.ifCond .lt 8, 3) := by decide +kernel
theorem dJ3_checkIndex_8e157_4 : decode cJ3_checkIndex_8e157 4 = .ok (.iload_n 0, 1) := by decide +kernel
theorem dJ3_checkIndex_8e157_5 : decode cJ3_checkIndex_8e157 5 = .ok (.iload_n 1, 1) := by decide +kernel
theorem dJ3_checkIndex_8e157_6 : decode cJ3_checkIndex_8e157 6 = .ok (.if_icmp .lt 10, 3) := by decide +kernel
theorem dJ3_checkIndex_8e157_9 : decode cJ3_checkIndex_8e157 9 = .ok (.aload_n 2, 1) := by decide +kernel
theorem dJ3_checkIndex_8e157_10 : decode cJ3_checkIndex_8e157 10 = .ok (.iload_n 0, 1) := by decide +kernel
theorem dJ3_checkIndex_8e157_11 : decode cJ3_checkIndex_8e157 11 = .ok (.iload_n 1, 1) := by decide +kernel
theorem dJ3_checkIndex_8e157_12 : decode cJ3_checkIndex_8e157 12 = .ok (.invokestatic 95, 3) := by decide +kernel
theorem dJ3_checkIndex_8e157_15 : decode cJ3_checkIndex_8e157 15 = .ok (.athrow, 1) := by decide +kernel
theorem dJ3_checkIndex_8e157_16 : decode cJ3_checkIndex_8e157 16 = .ok (.iload_n 0, 1) := by decide +kernel
theorem dJ3_checkIndex_8e157_17 : decode cJ3_checkIndex_8e157 17 = .ok (.ireturn, 1) := by decide +kernel
theorem dJ0_checkIndex_df160_0 : decode cJ0_checkIndex_df160 0 = .ok (.iload_n 0, 1) := by decide +kernel
theorem dJ0_checkIndex_df160_1 : decode cJ0_checkIndex_df160 1 = .ok (.iload_n 1, 1) := by decide +kernel
theorem dJ0_checkIndex_df160_2 : decode cJ0_checkIndex_df160 2 = .ok (.getstatic 1053, 3) := by decide +kernel
theorem dJ0_checkIndex_df160_5 : decode cJ0_checkIndex_df160 5 = .ok (.invokestatic 1059, 3) := by decide +kernel
theorem dJ0_checkIndex_df160_8 : decode cJ0_checkIndex_df160 8 = .ok (.pop, 1) := by decide +kernel
theorem dJ0_checkIndex_df160_9 : decode cJ0_checkIndex_df160 9 = .ok (.return_, 1) := by decide +kernel
theorem dJ1_charAt_3b067_0 : decode cJ1_charAt_3b067 0 = .ok (.iload_n 1, 1) := by decide +kernel
theorem dJ1_charAt_3b067_1 : decode cJ1_charAt_3b067 1 = .ok (.aload_n 0, 1) := by decide +kernel
theorem dJ1_charAt_3b067_2 : decode cJ1_charAt_3b067 2 = .ok (.arraylength, 1) := by decide +kernel
theorem dJ1_charAt_3b067_3 : decode cJ1_charAt_3b067 3 = .ok (.invokestatic 9, 3) := by decide +kernel
theorem dJ1_charAt_3b067_6 : decode cJ1_charAt_3b067 6 = .ok (.aload_n 0, 1) := by decide +kernel
theorem dJ1_charAt_3b067_7 : decode cJ1_charAt_3b067 7 = .ok (.iload_n 1, 1) := by decide +kernel
theorem dJ1_charAt_3b067_8 : decode cJ1_charAt_3b067 8 = .ok (.baload, 1) := by decide +kernel
theorem dJ1_charAt_3b067_9 : decode cJ1_charAt_3b067 9 = .ok (.sipush 255, 3) := by decide +kernel
theorem dJ1_charAt_3b067_12 : decode cJ1_charAt_3b067 12 = .ok (.iand, 1) := by decide +kernel
theorem dJ1_charAt_3b067_13 : decode cJ1_charAt_3b067 13 = .ok (.i2c, 1) := by decide +kernel
theorem dJ1_charAt_3b067_14 : decode cJ1_charAt_3b067 14 = .ok (.ireturn, 1) := by decide +kernel
theorem dJ0_isLatin1_aae02_0 : decode cJ0_isLatin1_aae02 0 = .ok (.getstatic 38, 3) := by decide +kernel
theorem dJ0_isLatin1_aae02_3 : decode cJ0_isLatin1_aae02 3 = .ok (.ifCond .eq 14, 3) := by decide +kernel
theorem dJ0_isLatin1_aae02_6 : decode cJ0_isLatin1_aae02 6 = .ok (.aload_n 0, 1) := by decide +kernel
theorem dJ0_isLatin1_aae02_7 : decode cJ0_isLatin1_aae02 7 = .ok (.getfield 15, 3) := by decide +kernel
theorem dJ0_isLatin1_aae02_10 : decode cJ0_isLatin1_aae02 10 = .ok (.ifCond .ne 7, 3) := by decide +kernel
theorem dJ0_isLatin1_aae02_13 : decode cJ0_isLatin1_aae02 13 = .ok (.iconst 1, 1) := by decide +kernel
theorem dJ0_isLatin1_aae02_14 : decode cJ0_isLatin1_aae02 14 = .ok (.goto 4, 3) := by decide +kernel
theorem dJ0_isLatin1_aae02_17 : decode cJ0_isLatin1_aae02 17 = .ok (.iconst 0, 1) := by decide +kernel
theorem dJ0_isLatin1_aae02_18 : decode cJ0_isLatin1_aae02 18 = .ok (.ireturn, 1) := by decide +kernel
theorem dJ0_coder_7d493_0 : decode cJ0_coder_7d493 0 = .ok (.getstatic 38, 3) := by decide +kernel
theorem dJ0_coder_7d493_3 : decode cJ0_coder_7d493 3 = .ok (.ifCond .eq 10, 3) := by decide +kernel
theorem dJ0_coder_7d493_6 : decode cJ0_coder_7d493 6 = .ok (.aload_n 0, 1) := by decide +kernel
theorem dJ0_coder_7d493_7 : decode cJ0_coder_7d493 7 = .ok (.getfield 15, 3) := by decide +kernel
theorem dJ0_coder_7d493_10 : decode cJ0_coder_7d493 10 = .ok (.goto 4, 3) := by decide +kernel
theorem dJ0_coder_7d493_13 : decode cJ0_coder_7d493 13 = .ok (.iconst 1, 1) := by decide +kernel
theorem dJ0_coder_7d493_14 : decode cJ0_coder_7d493 14 = .ok (.ireturn, 1) := by decide +kernel
theorem dJ0_charAt_5068e_0 : decode cJ0_charAt_5068e 0 = .ok (.aload_n 0, 1) := by decide +kernel
theorem dJ0_charAt_5068e_1 : decode cJ0_charAt_5068e 1 = .ok (.invokevirtual 492, 3) := by decide +kernel
theorem dJ0_charAt_5068e_4 : decode cJ0_charAt_5068e 4 = .ok (.ifCond .eq 12, 3) := by decide +kernel
theorem dJ0_charAt_5068e_7 : decode cJ0_charAt_5068e 7 = .ok (.aload_n 0, 1) := by decide +kernel
theorem dJ0_charAt_5068e_8 : decode cJ0_charAt_5068e 8 = .ok (.getfield 9, 3) := by decide +kernel
theorem dJ0_charAt_5068e_11 : decode cJ0_charAt_5068e 11 = .ok (.iload_n 1, 1) := by decide +kernel
theorem dJ0_charAt_5068e_12 : decode cJ0_charAt_5068e 12 = .ok (.invokestatic 495, 3) := by decide +kernel
theorem dJ0_charAt_5068e_15 : decode cJ0_charAt_5068e 15 = .ok (.ireturn, 1) := by decide +kernel
theorem dJ0_charAt_5068e_16 : decode cJ0_charAt_5068e 16 = .ok (.aload_n 0, 1) := by decide +kernel
theorem dJ0_charAt_5068e_17 : decode cJ0_charAt_5068e 17 = .ok (.getfield 9, 3) := by decide +kernel
theorem dJ0_charAt_5068e_20 : decode cJ0_charAt_5068e 20 = .ok (.iload_n 1, 1) := by decide +kernel
theorem dJ0_charAt_5068e_21 : decode cJ0_charAt_5068e 21 = .ok (.invokestatic 498, 3) := by decide +kernel
theorem dJ0_charAt_5068e_24 : decode cJ0_charAt_5068e 24 = .ok (.ireturn, 1) := by decide +kernel
theorem dJ0_length_8abf5_0 : decode cJ0_length_8abf5 0 = .ok (.aload_n 0, 1) := by decide +kernel
theorem dJ0_length_8abf5_1 : decode cJ0_length_8abf5 1 = .ok (.getfield 9, 3) := by decide +kernel
theorem dJ0_length_8abf5_4 : decode cJ0_length_8abf5 4 = .ok (.arraylength, 1) := by decide +kernel
theorem dJ0_length_8abf5_5 : decode cJ0_length_8abf5 5 = .ok (.aload_n 0, 1) := by decide +kernel
theorem dJ0_length_8abf5_6 : decode cJ0_length_8abf5 6 = .ok (.invokevirtual 335, 3) := by decide +kernel
theorem dJ0_length_8abf5_9 : decode cJ0_length_8abf5 9 = .ok (.ishr, 1) := by decide +kernel
theorem dJ0_length_8abf5_10 : decode cJ0_length_8abf5 10 = .ok (.ireturn, 1) := by decide +kernel
set_option maxHeartbeats 4000000 in
/-- Preconditions.checkIndex -/
theorem t_J3_checkIndex_8e157 (l : Launch) (ad av : Nat → Nat) (A : Nat → Prop) (i n : Int32) (w : Value) (hw : w.category = 1) (h0 : ¬ i < 0) (h1 : i < n) : Met l yJ3_checkIndex_8e157 wJ3c ({ frames := 0, cells := 0, slots := 0, locals := 0 }) (PRO ad av A ([.int i, .int n, w])) (QRO (some (.int i))) 0 0 (fun _ => False) := by
  refine Met.ofW (cc := cJ3_checkIndex_8e157) (maxL := 3) (ret := (some .int)) (by decide) rfl ?_
  intro p e s m args below meth c s₁ B hml hv
  obtain ⟨rfl, hTX⟩ := hv
  have hx := B.exec
  have hb := B.bytes
  have hr := B.returns
  have hts0 := atoms_spec (ws := wJ3c) B.pre
  have hts : ∀ w ∈ gtbl, w.before _ s = true := fun w hw => hts0 w (List.mem_cons_of_mem _ hw)
  have hown : s.vm.findClass RJ3 = some m.cls := findClass_of_methodNamed B.named
  have hlocks := B.notSynchronized
  have hS : va_S A s.heap s.heap [] := va_S.rf
  have hsl : lg_sl [.int i, .int n, w] = [.val (.int i), .val (.int n), .val w] := by simp only [lg_sl, List.flatMap_cons, List.flatMap_nil, hw, List.append_nil]; rfl
  have hl := lv_entry ([.int i, .int n, w]) (n := 3) (by rw [hsl]; exact Nat.le_refl 3)
  rw [lg_entry_eq]
  generalize (lg_sl ([.int i, .int n, w]) ++ List.replicate (3 - (lg_sl ([.int i, .int n, w])).length) Slot.unset).toArray = ls at hl ⊢
  have hl : lv_has ls 3 [(0, .int i), (1, .int n), (2, w)] := hl
  refine lv_iload_n hx hb dJ3_checkIndex_8e157_0 rfl (lv_at hl 0 rfl) ?_
  refine lv_if_lt (tgt := 9) hx hb dJ3_checkIndex_8e157_1 (by decide) (fun q => absurd q h0) (fun _ => ?_)
  refine lv_iload_n hx hb dJ3_checkIndex_8e157_4 rfl (lv_at hl 0 rfl) ?_
  refine lv_iload_n hx hb dJ3_checkIndex_8e157_5 rfl (lv_at hl 1 rfl) ?_
  refine lv_icmp_lt (tgt := 16) hx hb dJ3_checkIndex_8e157_6 (by decide) (fun _ => ?_) (fun q => absurd h1 q)
  refine lv_iload_n hx hb dJ3_checkIndex_8e157_16 rfl (lv_at hl 0 rfl) ?_
  exact W.iret hx hb hr (fun t ht hW => ⟨rfl, ht⟩) (fun q h => by cases h) dJ3_checkIndex_8e157_17 hlocks
set_option maxHeartbeats 4000000 in
/-- String.checkIndex -/
theorem t_J0_checkIndex_df160 (l : Launch) (ad av : Nat → Nat) (A : Nat → Prop) (i n : Int32) (h0 : ¬ i < 0) (h1 : i < n) : Met l yJ0_checkIndex_df160 wJ0k ({ frames := 1, cells := 0, slots := 0, locals := 22 }) (PRO ad av A ([.int i, .int n])) (QRO (none)) 0 0 (fun _ => False) := by
  refine Met.ofW (cc := cJ0_checkIndex_df160) (maxL := 2) (ret := none) (by decide) rfl ?_
  intro p e s m args below meth c s₁ B hml hv
  obtain ⟨rfl, hTX⟩ := hv
  have hx := B.exec
  have hb := B.bytes
  have hr := B.returns
  have hts0 := atoms_spec (ws := wJ0k) B.pre
  have hts : ∀ w ∈ gtbl, w.before _ s = true := fun w hw => hts0 w (List.mem_cons_of_mem _ hw)
  have hown : s.vm.findClass RJ0 = some m.cls := findClass_of_methodNamed B.named
  have hlocks := B.notSynchronized
  have hS : va_S A s.heap s.heap [] := va_S.rf
  have hl := lv_entry ([.int i, .int n]) (n := 2) (Nat.le_of_ble_eq_true rfl)
  rw [lg_entry_eq]
  generalize (lg_sl ([.int i, .int n]) ++ List.replicate (2 - (lg_sl ([.int i, .int n])).length) Slot.unset).toArray = ls at hl ⊢
  have hl : lv_has ls 2 [(0, .int i), (1, .int n)] := hl
  obtain ⟨w, hwc, hZ⟩ : ∃ w : Value, w.category = 1 ∧ va_Z "jdk/internal/util/Preconditions" "SIOOBE_FORMATTER" "Ljava/util/function/BiFunction;" w A s s.heap := by
    rcases hTX.2.2.2.2.2.1 with h | ⟨t, h⟩
    · exact ⟨_, rfl, h⟩
    · exact ⟨_, rfl, h⟩
  refine lv_iload_n hx hb dJ0_checkIndex_df160_0 rfl (lv_at hl 0 rfl) ?_
  refine lv_iload_n hx hb dJ0_checkIndex_df160_1 rfl (lv_at hl 1 rfl) ?_
  refine va_gets hx hb hZ hS hown (hts _ tf_1) (fun _ z => z) dJ0_checkIndex_df160_2 ?_
  refine ro_call (v := some (.int i)) (rest := []) (va_runS (As := [.int i, .int n, w]) (n := 3) (nL := 2) (Ts := gtbl) (own := RJ0) (bytes := cJ3_checkIndex_8e157) (maxL := 3) (ret := some .int) ⟨hx, hb, hml, hown, hts⟩ (t_J3_checkIndex_8e157 l ad av A i n w hwc h0 h1) (va_cwS 3 hts (good_pre (ws := [Cond.methodLink RJ0 1059 yJ3_checkIndex_8e157, .static yJ3_checkIndex_8e157, .initialized RJ3]) (fun v hv => ?_) tw_J3_checkIndex_8e157) rfl rfl rfl (by decide +kernel) ⟨Nat.le_of_ble_eq_true rfl, Nat.le_of_ble_eq_true rfl⟩) ⟨PRO.blind _ _ _ _, PRO.at hTX hS⟩ rfl rfl hl.1 rfl (lv_room (Nat.le_of_ble_eq_true rfl)) dJ0_checkIndex_df160_5 ⟨Nat.zero_le _, Nat.zero_le _⟩) ?_
  · simp only [List.mem_cons, List.not_mem_nil, or_false] at hv
    rcases hv with rfl | rfl | rfl
    · exact tl_1.1
    · exact tl_1.2.1
    · exact tl_1.2.2
  · refine lv_pop hx hb dJ0_checkIndex_df160_8 rfl ?_
    exact W.vret hx hb hr (fun t ht hW => ⟨rfl, ht⟩) (fun q h => by cases h) dJ0_checkIndex_df160_9 hlocks
set_option maxHeartbeats 4000000 in
/-- StringLatin1.charAt -/
theorem t_J1_charAt_3b067 (l : Launch) (ad av : Nat → Nat) (A : Nat → Prop) (j : Nat) (hj : j < 2) (i : Int32) (h0 : ¬ i < 0) (h1 : i < Int32.ofNat (m_lens.getD j 0)) (hin : vp_in i (m_lens.getD j 0)) (hnar : narrow .char (.int (((m_byts.getD j []).getD i.toNatClampNeg 0 &&& 255).toUInt32 % 65536).toInt32) = .int (((m_byts.getD j []).getD i.toNatClampNeg 0 &&& 255).toUInt32 % 65536).toInt32) : Met l yJ1_charAt_3b067 wJ1c ({ frames := 2, cells := 0, slots := 0, locals := 43 }) (PRO ad av A ([.ref (av j), .int i])) (QRO (some (.int (((m_byts.getD j []).getD i.toNatClampNeg 0 &&& 255).toUInt32 % 65536).toInt32))) 0 0 (fun _ => False) := by
  refine Met.ofW (cc := cJ1_charAt_3b067) (maxL := 2) (ret := (some .char)) (by decide) rfl ?_
  intro p e s m args below meth c s₁ B hml hv
  obtain ⟨rfl, hTX⟩ := hv
  have hx := B.exec
  have hb := B.bytes
  have hr := B.returns
  have hts0 := atoms_spec (ws := wJ1c) B.pre
  have hts : ∀ w ∈ gtbl, w.before _ s = true := fun w hw => hts0 w (List.mem_cons_of_mem _ hw)
  have hown : s.vm.findClass RJ1 = some m.cls := findClass_of_methodNamed B.named
  have hlocks := B.notSynchronized
  have hS : va_S A s.heap s.heap [] := va_S.rf
  have hl := lv_entry ([.ref (av j), .int i]) (n := 2) (Nat.le_of_ble_eq_true rfl)
  rw [lg_entry_eq]
  generalize (lg_sl ([.ref (av j), .int i]) ++ List.replicate (2 - (lg_sl ([.ref (av j), .int i])).length) Slot.unset).toArray = ls at hl ⊢
  have hl : lv_has ls 2 [(0, .ref (av j)), (1, .int i)] := hl
  refine lv_iload_n hx hb dJ1_charAt_3b067_0 rfl (lv_at hl 1 rfl) ?_
  refine lv_aload_n hx hb dJ1_charAt_3b067_1 rfl (lv_at hl 0 rfl) ?_
  refine va_tlen hx hb (hTX.1.1 j hj).2.2.2 hS rfl dJ1_charAt_3b067_2 ?_
  refine ro_call (v := none) (rest := []) (va_runS (As := [.int i, .int (Int32.ofNat (m_lens.getD j 0))]) (n := 2) (nL := 2) (Ts := gtbl) (own := RJ1) (bytes := cJ0_checkIndex_df160) (maxL := 2) (ret := none) ⟨hx, hb, hml, hown, hts⟩ (t_J0_checkIndex_df160 l ad av A i _ h0 h1) (va_cwS 2 hts (good_pre (ws := [Cond.methodLink RJ1 9 yJ0_checkIndex_df160, .static yJ0_checkIndex_df160, .initialized RJ0]) (fun v hv => ?_) tw_J0_checkIndex_df160) rfl rfl rfl (by decide +kernel) ⟨Nat.le_of_ble_eq_true rfl, Nat.le_of_ble_eq_true rfl⟩) ⟨PRO.blind _ _ _ _, PRO.at hTX hS⟩ rfl rfl hl.1 rfl (lv_room (Nat.le_of_ble_eq_true rfl)) dJ1_charAt_3b067_3 ⟨Nat.zero_le _, Nat.zero_le _⟩) ?_
  · simp only [List.mem_cons, List.not_mem_nil, or_false] at hv
    rcases hv with rfl | rfl | rfl
    · exact tl_2.1
    · exact tl_2.2.1
    · exact tl_2.2.2
  · refine lv_aload_n hx hb dJ1_charAt_3b067_6 rfl (lv_at hl 0 rfl) ?_
    refine lv_iload_n hx hb dJ1_charAt_3b067_7 rfl (lv_at hl 1 rfl) ?_
    refine va_tb hx hb (hTX.1.1 j hj).2.2.2 hS hin rfl dJ1_charAt_3b067_8 ?_
    refine lv_sipush (v := 255) hx hb dJ1_charAt_3b067_9 (by decide) ?_
    refine lv_iand hx hb dJ1_charAt_3b067_12 ?_
    refine lv_i2c hx hb dJ1_charAt_3b067_13 rfl ?_
    exact W.zret hx hb hr hnar (fun t ht hW => ⟨rfl, ht⟩) (fun q h => by cases h) dJ1_charAt_3b067_14 hlocks
set_option maxHeartbeats 4000000 in
/-- String.isLatin1 -/
theorem t_J0_isLatin1_aae02 (l : Launch) (ad av : Nat → Nat) (A : Nat → Prop) (j : Nat) (hj : j < 2) : Met l yJ0_isLatin1_aae02 wJ0i ({ frames := 0, cells := 0, slots := 0, locals := 0 }) (PRO ad av A ([.ref (ad j)])) (QRO (some (.int 1))) 0 0 (fun _ => False) := by
  refine Met.ofW (cc := cJ0_isLatin1_aae02) (maxL := 1) (ret := (some .boolean)) (by decide) rfl ?_
  intro p e s m args below meth c s₁ B hml hv
  obtain ⟨rfl, hTX⟩ := hv
  have hx := B.exec
  have hb := B.bytes
  have hr := B.returns
  have hts0 := atoms_spec (ws := wJ0i) B.pre
  have hts : ∀ w ∈ gtbl, w.before _ s = true := fun w hw => hts0 w (List.mem_cons_of_mem _ hw)
  have hown : s.vm.findClass RJ0 = some m.cls := findClass_of_methodNamed B.named
  have hlocks := B.notSynchronized
  have hS : va_S A s.heap s.heap [] := va_S.rf
  have hl := lv_entry ([.ref (ad j)]) (n := 1) (Nat.le_of_ble_eq_true rfl)
  rw [lg_entry_eq]
  generalize (lg_sl ([.ref (ad j)]) ++ List.replicate (1 - (lg_sl ([.ref (ad j)])).length) Slot.unset).toArray = ls at hl ⊢
  have hl : lv_has ls 1 [(0, .ref (ad j))] := hl
  refine va_gets hx hb hTX.2.2.2.2.1 hS hown (hts _ tf_2) (fun _ z => z) dJ0_isLatin1_aae02_0 ?_
  refine lv_if_eq (tgt := 17) hx hb dJ0_isLatin1_aae02_3 (by decide) (fun q => absurd q (by decide)) (fun _ => ?_)
  refine lv_aload_n hx hb dJ0_isLatin1_aae02_6 rfl (lv_at hl 0 rfl) ?_
  refine vk_getf hx hb (hTX.1.1 j hj).2.1 hS hown (hts _ tf_3) (fun _ z => z) dJ0_isLatin1_aae02_7 ?_
  refine lv_if_ne (tgt := 17) hx hb dJ0_isLatin1_aae02_10 (by decide) (fun q => absurd rfl q) (fun _ => ?_)
  refine lv_iconst (v := 1) hx hb dJ0_isLatin1_aae02_13 (by decide) ?_
  refine lv_goto (tgt := 18) hx hb dJ0_isLatin1_aae02_14 (by decide) ?_
  exact W.zret hx hb hr rfl (fun t ht hW => ⟨rfl, ht⟩) (fun q h => by cases h) dJ0_isLatin1_aae02_18 hlocks
set_option maxHeartbeats 4000000 in
/-- String.coder -/
theorem t_J0_coder_7d493 (l : Launch) (ad av : Nat → Nat) (A : Nat → Prop) (j : Nat) (hj : j < 2) : Met l yJ0_coder_7d493 wJ0o ({ frames := 0, cells := 0, slots := 0, locals := 0 }) (PRO ad av A ([.ref (ad j)])) (QRO (some (.int 0))) 0 0 (fun _ => False) := by
  refine Met.ofW (cc := cJ0_coder_7d493) (maxL := 1) (ret := (some .byte)) (by decide) rfl ?_
  intro p e s m args below meth c s₁ B hml hv
  obtain ⟨rfl, hTX⟩ := hv
  have hx := B.exec
  have hb := B.bytes
  have hr := B.returns
  have hts0 := atoms_spec (ws := wJ0o) B.pre
  have hts : ∀ w ∈ gtbl, w.before _ s = true := fun w hw => hts0 w (List.mem_cons_of_mem _ hw)
  have hown : s.vm.findClass RJ0 = some m.cls := findClass_of_methodNamed B.named
  have hlocks := B.notSynchronized
  have hS : va_S A s.heap s.heap [] := va_S.rf
  have hl := lv_entry ([.ref (ad j)]) (n := 1) (Nat.le_of_ble_eq_true rfl)
  rw [lg_entry_eq]
  generalize (lg_sl ([.ref (ad j)]) ++ List.replicate (1 - (lg_sl ([.ref (ad j)])).length) Slot.unset).toArray = ls at hl ⊢
  have hl : lv_has ls 1 [(0, .ref (ad j))] := hl
  refine va_gets hx hb hTX.2.2.2.2.1 hS hown (hts _ tf_2) (fun _ z => z) dJ0_coder_7d493_0 ?_
  refine lv_if_eq (tgt := 13) hx hb dJ0_coder_7d493_3 (by decide) (fun q => absurd q (by decide)) (fun _ => ?_)
  refine lv_aload_n hx hb dJ0_coder_7d493_6 rfl (lv_at hl 0 rfl) ?_
  refine vk_getf hx hb (hTX.1.1 j hj).2.1 hS hown (hts _ tf_3) (fun _ z => z) dJ0_coder_7d493_7 ?_
  refine lv_goto (tgt := 14) hx hb dJ0_coder_7d493_10 (by decide) ?_
  exact W.zret hx hb hr rfl (fun t ht hW => ⟨rfl, ht⟩) (fun q h => by cases h) dJ0_coder_7d493_14 hlocks
set_option maxHeartbeats 4000000 in
/-- String.charAt -/
theorem t_J0_charAt_5068e (l : Launch) (ad av : Nat → Nat) (A : Nat → Prop) (j : Nat) (hj : j < 2) (i : Int32) (h0 : ¬ i < 0) (h1 : i < Int32.ofNat (m_lens.getD j 0)) (hin : vp_in i (m_lens.getD j 0)) (hnar : narrow .char (.int (((m_byts.getD j []).getD i.toNatClampNeg 0 &&& 255).toUInt32 % 65536).toInt32) = .int (((m_byts.getD j []).getD i.toNatClampNeg 0 &&& 255).toUInt32 % 65536).toInt32) : Met l yJ0_charAt_5068e wJ0c ({ frames := 3, cells := 0, slots := 0, locals := 64 }) (PRO ad av A ([.ref (ad j), .int i])) (QRO (some (.int (((m_byts.getD j []).getD i.toNatClampNeg 0 &&& 255).toUInt32 % 65536).toInt32))) 0 0 (fun _ => False) := by
  refine Met.ofW (cc := cJ0_charAt_5068e) (maxL := 2) (ret := (some .char)) (by decide) rfl ?_
  intro p e s m args below meth c s₁ B hml hv
  obtain ⟨rfl, hTX⟩ := hv
  have hx := B.exec
  have hb := B.bytes
  have hr := B.returns
  have hts0 := atoms_spec (ws := wJ0c) B.pre
  have hts : ∀ w ∈ gtbl, w.before _ s = true := fun w hw => hts0 w (List.mem_cons_of_mem _ hw)
  have hown : s.vm.findClass RJ0 = some m.cls := findClass_of_methodNamed B.named
  have hlocks := B.notSynchronized
  have hS : va_S A s.heap s.heap [] := va_S.rf
  have hl := lv_entry ([.ref (ad j), .int i]) (n := 2) (Nat.le_of_ble_eq_true rfl)
  rw [lg_entry_eq]
  generalize (lg_sl ([.ref (ad j), .int i]) ++ List.replicate (2 - (lg_sl ([.ref (ad j), .int i])).length) Slot.unset).toArray = ls at hl ⊢
  have hl : lv_has ls 2 [(0, .ref (ad j)), (1, .int i)] := hl
  refine lv_aload_n hx hb dJ0_charAt_5068e_0 rfl (lv_at hl 0 rfl) ?_
  refine ro_call (v := some (.int 1)) (rest := []) (va_runV (b := ad j) (C := RJ0) (As := []) (n := 0) (nL := 2) (Ts := gtbl) (own := RJ0) (bytes := cJ0_isLatin1_aae02) (maxL := 1) (ret := some .boolean) ⟨hx, hb, hml, hown, hts⟩ (t_J0_isLatin1_aae02 l ad av A j hj) (cwV 0 hts (good_pre (ws := [Cond.methodLink RJ0 492 yJ0_isLatin1_aae02, .instanceMethod yJ0_isLatin1_aae02, .selects RJ0 yJ0_isLatin1_aae02 yJ0_isLatin1_aae02, .initialized RJ0]) (fun v hv => ?_) tw_J0_isLatin1_aae02) rfl rfl rfl (by decide +kernel) ⟨Nat.le_of_ble_eq_true rfl, Nat.le_of_ble_eq_true rfl⟩) ⟨PRO.blind _ _ _ _, vk_recv hTX.1 hj hS, PRO.at hTX hS⟩ rfl rfl hl.1 rfl (lv_room (Nat.le_of_ble_eq_true rfl)) dJ0_charAt_5068e_1 ⟨Nat.zero_le _, Nat.zero_le _⟩) ?_
  · simp only [List.mem_cons, List.not_mem_nil, or_false] at hv
    rcases hv with rfl | rfl | rfl | rfl
    · exact tl_4.1
    · exact tl_4.2.1
    · exact tl_4.2.2.1
    · exact tl_4.2.2.2
  · refine lv_if_eq (tgt := 16) hx hb dJ0_charAt_5068e_4 (by decide) (fun q => absurd q (by decide)) (fun _ => ?_)
    refine lv_aload_n hx hb dJ0_charAt_5068e_7 rfl (lv_at hl 0 rfl) ?_
    refine vk_getf hx hb (hTX.1.1 j hj).2.2.1 hS hown (hts _ tf_4) (fun _ z => z) dJ0_charAt_5068e_8 ?_
    refine lv_iload_n hx hb dJ0_charAt_5068e_11 rfl (lv_at hl 1 rfl) ?_
    refine ro_call (v := some (.int (((m_byts.getD j []).getD i.toNatClampNeg 0 &&& 255).toUInt32 % 65536).toInt32)) (rest := []) (va_runS (As := [.ref (av j), .int i]) (n := 2) (nL := 2) (Ts := gtbl) (own := RJ0) (bytes := cJ1_charAt_3b067) (maxL := 2) (ret := some .char) ⟨hx, hb, hml, hown, hts⟩ (t_J1_charAt_3b067 l ad av A j hj i h0 h1 hin hnar) (va_cwS 2 hts (good_pre (ws := [Cond.methodLink RJ0 495 yJ1_charAt_3b067, .static yJ1_charAt_3b067, .initialized RJ1]) (fun v hv => ?_) tw_J1_charAt_3b067) rfl rfl rfl (by decide +kernel) ⟨Nat.le_of_ble_eq_true rfl, Nat.le_of_ble_eq_true rfl⟩) ⟨PRO.blind _ _ _ _, PRO.at hTX hS⟩ rfl rfl hl.1 rfl (lv_room (Nat.le_of_ble_eq_true rfl)) dJ0_charAt_5068e_12 ⟨Nat.zero_le _, Nat.zero_le _⟩) ?_
    · simp only [List.mem_cons, List.not_mem_nil, or_false] at hv
      rcases hv with rfl | rfl | rfl
      · exact tl_3.1
      · exact tl_3.2.1
      · exact tl_3.2.2
    · exact W.zret hx hb hr hnar (fun t ht hW => ⟨rfl, ht⟩) (fun q h => by cases h) dJ0_charAt_5068e_15 hlocks
set_option maxHeartbeats 4000000 in
/-- String.length -/
theorem t_J0_length_8abf5 (l : Launch) (ad av : Nat → Nat) (A : Nat → Prop) (j : Nat) (hj : j < 2) : Met l yJ0_length_8abf5 wJ0l ({ frames := 1, cells := 0, slots := 0, locals := 20 }) (PRO ad av A ([.ref (ad j)])) (QRO (some (.int (Int32.ofNat (m_lens.getD j 0) >>> ((0 : Int32) &&& 31))))) 0 0 (fun _ => False) := by
  refine Met.ofW (cc := cJ0_length_8abf5) (maxL := 1) (ret := (some .int)) (by decide) rfl ?_
  intro p e s m args below meth c s₁ B hml hv
  obtain ⟨rfl, hTX⟩ := hv
  have hx := B.exec
  have hb := B.bytes
  have hr := B.returns
  have hts0 := atoms_spec (ws := wJ0l) B.pre
  have hts : ∀ w ∈ gtbl, w.before _ s = true := fun w hw => hts0 w (List.mem_cons_of_mem _ hw)
  have hown : s.vm.findClass RJ0 = some m.cls := findClass_of_methodNamed B.named
  have hlocks := B.notSynchronized
  have hS : va_S A s.heap s.heap [] := va_S.rf
  have hl := lv_entry ([.ref (ad j)]) (n := 1) (Nat.le_of_ble_eq_true rfl)
  rw [lg_entry_eq]
  generalize (lg_sl ([.ref (ad j)]) ++ List.replicate (1 - (lg_sl ([.ref (ad j)])).length) Slot.unset).toArray = ls at hl ⊢
  have hl : lv_has ls 1 [(0, .ref (ad j))] := hl
  refine lv_aload_n hx hb dJ0_length_8abf5_0 rfl (lv_at hl 0 rfl) ?_
  refine vk_getf hx hb (hTX.1.1 j hj).2.2.1 hS hown (hts _ tf_4) (fun _ z => z) dJ0_length_8abf5_1 ?_
  refine va_tlen hx hb (hTX.1.1 j hj).2.2.2 hS rfl dJ0_length_8abf5_4 ?_
  refine lv_aload_n hx hb dJ0_length_8abf5_5 rfl (lv_at hl 0 rfl) ?_
  refine ro_call (v := some (.int 0)) (rest := [.int (Int32.ofNat (m_lens.getD j 0))]) (va_runV (b := ad j) (C := RJ0) (As := []) (n := 0) (nL := 1) (Ts := gtbl) (own := RJ0) (bytes := cJ0_coder_7d493) (maxL := 1) (ret := some .byte) ⟨hx, hb, hml, hown, hts⟩ (t_J0_coder_7d493 l ad av A j hj) (cwV 0 hts (good_pre (ws := [Cond.methodLink RJ0 335 yJ0_coder_7d493, .instanceMethod yJ0_coder_7d493, .selects RJ0 yJ0_coder_7d493 yJ0_coder_7d493, .initialized RJ0]) (fun v hv => ?_) tw_J0_coder_7d493) rfl rfl rfl (by decide +kernel) ⟨Nat.le_of_ble_eq_true rfl, Nat.le_of_ble_eq_true rfl⟩) ⟨PRO.blind _ _ _ _, vk_recv hTX.1 hj hS, PRO.at hTX hS⟩ rfl rfl hl.1 rfl (lv_room (Nat.le_of_ble_eq_true rfl)) dJ0_length_8abf5_6 ⟨Nat.zero_le _, Nat.zero_le _⟩) ?_
  · simp only [List.mem_cons, List.not_mem_nil, or_false] at hv
    rcases hv with rfl | rfl | rfl | rfl
    · exact tl_5.1
    · exact tl_5.2.1
    · exact tl_5.2.2.1
    · exact tl_5.2.2.2
  · refine lv_ishr hx hb dJ0_length_8abf5_9 ?_
    exact W.iret hx hb hr (fun t ht hW => ⟨rfl, ht⟩) (fun q h => by cases h) dJ0_length_8abf5_10 hlocks
theorem m_nat_chr {S S' : List MV} {h h' : MH} (hm : m_nat 1001 S h = some (S', h')) : ∃ i n S0, S = mI i :: mS n :: S0 ∧ m_in i (m_txt n).length = true ∧ S' = mI ((m_txt n).getD i.toNat 0) :: S0 ∧ h' = h := by
  match S, hm with
  | .inl (.inl i) :: .inr (.inr n) :: S0, hm =>
    have hm : (if m_in i (m_txt n).length then some (mI ((m_txt n).getD i.toNat 0) :: S0, h) else none) = some (S', h') := hm
    split at hm
    · next hi => cases hm; exact ⟨i, n, S0, rfl, hi, rfl, rfl⟩
    · cases hm
  | [], hm => cases (show none = some (S', h') from hm)
  | [.inl (.inl _)], hm => cases (show none = some (S', h') from hm)
  | .inl (.inl _) :: .inl _ :: _, hm => cases (show none = some (S', h') from hm)
  | .inl (.inl _) :: .inr (.inl _) :: _, hm => cases (show none = some (S', h') from hm)
  | .inl (.inr _) :: _, hm => cases (show none = some (S', h') from hm)
  | .inr _ :: _, hm => cases (show none = some (S', h') from hm)
theorem m_nat_len {S S' : List MV} {h h' : MH} (hm : m_nat 1002 S h = some (S', h')) : ∃ n S0, S = mS n :: S0 ∧ S' = mI ((m_txt n).length : Nat) :: S0 ∧ h' = h ∧ ∃ k, k < 2 ∧ n = k + 1 := by
  match S, hm with
  | .inr (.inr n) :: S0, hm =>
    have hm : (if n = 1 ∨ n = 2 then some (mI ((m_txt n).length : Nat) :: S0, h) else none) = some (S', h') := hm
    split at hm
    · next hn => cases hm; exact ⟨n, S0, rfl, rfl, rfl, n - 1, by omega, by omega⟩
    · cases hm
  | [], hm => cases (show none = some (S', h') from hm)
  | .inl _ :: _, hm => cases (show none = some (S', h') from hm)
  | .inr (.inl _) :: _, hm => cases (show none = some (S', h') from hm)
theorem tx_v : ∀ k, k < 2 → ∀ j, j < m_lens.getD k 0 → (((((m_byts.getD k []).getD j 0 &&& 255).toUInt32 % 65536).toInt32).toInt = (m_txt (k + 1)).getD j 0 ∧ narrow .char (.int (((m_byts.getD k []).getD j 0 &&& 255).toUInt32 % 65536).toInt32) = .int (((m_byts.getD k []).getD j 0 &&& 255).toUInt32 % 65536).toInt32) := by decide +kernel
theorem tx_l : ∀ k, k < 2 → (m_txt (k + 1)).length = m_lens.getD k 0 ∧ (Int32.ofNat (m_lens.getD k 0) >>> ((0 : Int32) &&& 31)).toInt = (m_lens.getD k 0 : Int) ∧ m_lens.getD k 0 < 2 ^ 31 := by decide +kernel
theorem tx_n {n : Nat} {i : Int} (h : m_in i (m_txt n).length = true) : ∃ k, k < 2 ∧ n = k + 1 := by
  match n, h with
  | 0, h => exact absurd (m_in_lt h) (Nat.not_lt_zero _)
  | 1, _ => exact ⟨0, by decide, rfl⟩
  | 2, _ => exact ⟨1, by decide, rfl⟩
  | n + 3, h => exact absurd (m_in_lt h) (Nat.not_lt_zero _)
set_option maxHeartbeats 4000000 in
theorem text_chr {p : Program} {l : Launch} {e : Env} {R : Room} {s : State} {m : MethodId} {args : Array Value} {below : List Frame} {meth : Method} {c : Code} {Q : State → Prop} {D : va_G} {A : Nat → Prop} {sp ad av : Nat → Nat} {w0 : va_W} {nL nc0 ns0 : Nat} {F : MF} {x : MX} {pc idx : Nat} {L : List (Option MV)} {S S' : List MV} {h h' : MH} (hX : CTX p R s m args meth c F x A sp ad av) (hfr : 4 ≤ R.frames) (hlo : 90 ≤ R.locals)
  (hlink : Cond.methodLink (f_y F).cls idx yJ0_charAt_5068e ∈ gtbl) (hm : m_nat 1001 S h = some (S', h')) (hw : m_w S' ≤ 8) (hdg : decode (f_c F) pc = .ok (.invokevirtual idx, 3)) (hnL : f_L F = nL) (hrc : mh_c h' ≤ nc0 + R.cells) (hrs : mh_s h' ≤ ns0 + R.slots)
  (kk : WW p l e R s m args below meth c Q D A sp w0 nL nc0 ns0 (pc + 3) L S' h') : WW p l e R s m args below meth c Q D A sp w0 nL nc0 ns0 pc L S h := by
  obtain ⟨h1, h2, h3, h4, h5, h6, h7, h8, h9, h10, h11, h12⟩ := hX
  obtain ⟨i, n, S0, rfl, hi, rfl, rfl⟩ := m_nat_chr hm
  obtain ⟨k, hk, rfl⟩ := tx_n hi
  intro H locs cells slots ls st ⟨ws, tys, hK, hP, hD, hS, hE, hH, hL, hSt, hc, hs⟩
  obtain ⟨v1, st1, rfl, ⟨y, rfl, rfl⟩, v2, st2, rfl, hv2, hSt⟩ := hSt
  cases hv2
  obtain ⟨l1, l2, l3⟩ := tx_l k hk
  rw [l1] at hi
  have hin := m_in_vp hi
  have hlt := m_in_lt hi
  obtain ⟨q1, q2⟩ := vp_in_iff.mp hin
  obtain ⟨v1, v2⟩ := tx_v k hk _ hlt
  have g0 : ¬ y < 0 := fun q => by rw [Int32.lt_iff_toInt_lt, Int32.toInt_zero] at q; omega
  have g1 : y < Int32.ofNat (m_lens.getD k 0) := by rw [Int32.lt_iff_toInt_lt, m_ofNat l3]; exact q2
  rw [h10]
  have hwr : m_w S0 ≤ 8 := by simp only [m_w] at hw; omega
  refine ro_call (rest := st2) (v := some (.int (((m_byts.getD k []).getD y.toNatClampNeg 0 &&& 255).toUInt32 % 65536).toInt32)) (va_runV (b := ad k) (C := RJ0) (As := [.int y]) (n := 1) (nL := nL) (Ts := gtbl) (own := (f_y F).cls) (bytes := cJ0_charAt_5068e) (maxL := 2) (ret := some .char) ⟨h1, h2, h3.trans hnL, h4, h5⟩ (t_J0_charAt_5068e l ad av A k hk y g0 g1 hin v2) (cwV 1 h5 (good_pre (ws := [Cond.methodLink (f_y F).cls idx yJ0_charAt_5068e, .instanceMethod yJ0_charAt_5068e, .selects RJ0 yJ0_charAt_5068e yJ0_charAt_5068e, .initialized RJ0]) (fun v hv => ?_) tw_J0_charAt_5068e) rfl rfl rfl (by decide +kernel) ⟨hfr, by show 8 + (2 + 11) + 64 ≤ R.locals; omega⟩) ⟨PRO.blind _ _ _ _, vk_recv h9.1 hk hS, PRO.at h9 hS⟩ rfl rfl hL.2.1 rfl (lv_room (by rw [hSt.w]; exact hwr)) hdg ⟨by show cells + 0 ≤ R.cells; omega, by show slots + 0 ≤ R.slots; omega⟩) ?_
  · simp only [List.mem_cons, List.not_mem_nil, or_false] at hv
    rcases hv with rfl | rfl | rfl | rfl
    · exact hlink
    · exact tl_6.1
    · exact tl_6.2.1
    · exact tl_6.2.2
  · exact kk _ _ _ _ _ _ ⟨ws, tys, hK, hP, hD, hS, hE, hH, hL, ⟨_, _, rfl, ⟨_, rfl, v1⟩, hSt⟩, hc, hs⟩
set_option maxHeartbeats 4000000 in
theorem text_len {p : Program} {l : Launch} {e : Env} {R : Room} {s : State} {m : MethodId} {args : Array Value} {below : List Frame} {meth : Method} {c : Code} {Q : State → Prop} {D : va_G} {A : Nat → Prop} {sp ad av : Nat → Nat} {w0 : va_W} {nL nc0 ns0 : Nat} {F : MF} {x : MX} {pc idx : Nat} {L : List (Option MV)} {S S' : List MV} {h h' : MH} (hX : CTX p R s m args meth c F x A sp ad av) (hfr : 4 ≤ R.frames) (hlo : 90 ≤ R.locals)
  (hlink : Cond.methodLink (f_y F).cls idx yJ0_length_8abf5 ∈ gtbl) (hm : m_nat 1002 S h = some (S', h')) (hw : m_w S' ≤ 8) (hdg : decode (f_c F) pc = .ok (.invokevirtual idx, 3)) (hnL : f_L F = nL) (hrc : mh_c h' ≤ nc0 + R.cells) (hrs : mh_s h' ≤ ns0 + R.slots)
  (kk : WW p l e R s m args below meth c Q D A sp w0 nL nc0 ns0 (pc + 3) L S' h') : WW p l e R s m args below meth c Q D A sp w0 nL nc0 ns0 pc L S h := by
  obtain ⟨h1, h2, h3, h4, h5, h6, h7, h8, h9, h10, h11, h12⟩ := hX
  obtain ⟨n, S0, rfl, rfl, rfl, hn⟩ := m_nat_len hm
  obtain ⟨k, hk, rfl⟩ := hn
  intro H locs cells slots ls st ⟨ws, tys, hK, hP, hD, hS, hE, hH, hL, hSt, hc, hs⟩
  obtain ⟨v2, st2, rfl, hv2, hSt⟩ := hSt
  cases hv2
  obtain ⟨l1, l2, l3⟩ := tx_l k hk
  rw [h10]
  have hwr : m_w S0 ≤ 8 := by simp only [m_w] at hw; omega
  refine ro_call (rest := st2) (v := some (.int (Int32.ofNat (m_lens.getD k 0) >>> ((0 : Int32) &&& 31)))) (va_runV (b := ad k) (C := RJ0) (As := []) (n := 0) (nL := nL) (Ts := gtbl) (own := (f_y F).cls) (bytes := cJ0_length_8abf5) (maxL := 1) (ret := some .int) ⟨h1, h2, h3.trans hnL, h4, h5⟩ (t_J0_length_8abf5 l ad av A k hk) (cwV 0 h5 (good_pre (ws := [Cond.methodLink (f_y F).cls idx yJ0_length_8abf5, .instanceMethod yJ0_length_8abf5, .selects RJ0 yJ0_length_8abf5 yJ0_length_8abf5, .initialized RJ0]) (fun v hv => ?_) tw_J0_length_8abf5) rfl rfl rfl (by decide +kernel) ⟨by show 1 + 1 ≤ R.frames; omega, by show 8 + (1 + 11) + 20 ≤ R.locals; omega⟩) ⟨PRO.blind _ _ _ _, vk_recv h9.1 hk hS, PRO.at h9 hS⟩ rfl rfl hL.2.1 rfl (lv_room (by rw [hSt.w]; exact hwr)) hdg ⟨by show cells + 0 ≤ R.cells; omega, by show slots + 0 ≤ R.slots; omega⟩) ?_
  · simp only [List.mem_cons, List.not_mem_nil, or_false] at hv
    rcases hv with rfl | rfl | rfl | rfl
    · exact hlink
    · exact tl_7.1
    · exact tl_7.2.1
    · exact tl_7.2.2
  · exact kk _ _ _ _ _ _ ⟨ws, tys, hK, hP, hD, hS, hE, hH, hL, ⟨_, _, rfl, ⟨_, rfl, by rw [l2, l1]⟩, hSt⟩, hc, hs⟩
theorem text_ok : TextOK := by
  intro p l e R s m args below meth c Q D A sp ad av w0 nL nc0 ns0 F x pc idx L S S' h h' hX hfr hlo hcase hw hdg hnL hrc hrs kk
  rcases hcase with ⟨hlink, hm⟩ | ⟨hlink, hm⟩
  · exact text_chr hX hfr hlo hlink hm hw hdg hnL hrc hrs kk
  · exact text_len hX hfr hlo hlink hm hw hdg hnL hrc hrs kk
