/-! ===== the printed code is the bytecode: a check that the kernel does, method by method ===== -/
def ck_tgt (F : MF) (pc : Nat) (off : Int) (t : Nat) : Bool := match (f_p F)[t]? with
  | some tgt => decide ((pc : Int) + off = (tgt : Int))
  | none => false
def ck_swi (F : MF) (pc : Nat) : List Nat → List Int → Bool
  | [], _ => true
  | t :: ts, off :: offs => ck_tgt F pc off t && ck_swi F pc ts offs
  | _ :: _, [] => false
def ck_room (F G : MF) : Bool := decide (f_f G + 1 ≤ f_f F) && decide (8 + (f_L G + 11) + f_o G ≤ f_o F)
def ck_call (kind : Nat) (F : MF) (id : Nat) : Bool := match FT[id]?, PT[id]?, lkG[id]? with
  | some G, some _, some k => decide (k = kind) && ck_room F G
  | _, _, _ => false
def ck_i (oc : Nat) (F : MF) (pc : Nat) (i : Instr) (d : ML) : Bool := match i with
  | .iconst n => decide (-100 ≤ n) && decide (n < 100)
  | .bipush n => decide (-128 ≤ n) && decide (n < 128)
  | .sipush n => decide (-32768 ≤ n) && decide (n < 32768)
  | .iinc _ n => decide (-32768 ≤ n) && decide (n < 32768)
  | .ldc n => decide (d.1 = 1 ∧ oc = 5 ∧ n = 19 ∧ d.2.1 = 2) || (decide (d.1 = 0) && decide ((oc, n, d.2.2.1) ∈ lkC))
  | .ldc_w n => decide (d.1 = 1 ∧ oc = 11 ∧ n = 261 ∧ d.2.1 = 1) || (decide (d.1 = 0) && decide ((oc, n, d.2.2.1) ∈ lkC))
  | .ldc2_w n => decide ((oc, n, d.2.2.1) ∈ lkJ)
  | .getfield n => decide ((oc, n, d.1, d.2.1) ∈ lkF)
  | .putfield n => decide ((oc, n, d.1, d.2.1) ∈ lkF) && (match vwCl[d.1]? with
    | some q => decide ((q.2.1 d.2.1).2.2.2 = false) || (decide ((q.2.1 d.2.1).2.2.2 = true) && decide ((f_y F).name = "<init>") && decide ((q.2.1 d.2.1).1 = (f_y F).cls))
    | none => false)
  | .newarray t => match t with
    | .int => decide (d.1 = 100)
    | .byte => decide (d.1 = 101)
    | .boolean => decide (d.1 = 102)
    | .long => decide (d.1 = 103)
    | _ => false
  | .anewarray n => decide ((oc, n, d.1) ∈ lkK) && decide (d.1 = 2 ∨ d.1 = 6)
  | .new n => decide (d.1 = 200) || decide ((oc, n, d.1) ∈ lkK)
  | .ireturn => (decide (d.1 = 0) && decide (f_r F = some .int)) || (decide (d.1 = 1) && decide (f_r F = some .boolean))
  | .lreturn => decide (f_r F = some .long)
  | .return_ => decide (f_r F = none)
  | .goto off => d.2.2.2.all (ck_tgt F pc off)
  | .ifCond _ off => d.2.2.2.all (ck_tgt F pc off)
  | .if_icmp _ off => d.2.2.2.all (ck_tgt F pc off)
  | .tableswitch dflt _ _ offs => match d.2.2.2 with
    | t :: ts => ck_tgt F pc dflt t && ck_swi F pc ts offs.toList
    | [] => true
  | .invokestatic n => (decide ((oc, n, d.1) ∈ lkT) && decide (d.1 = 1000 ∨ d.1 = 1004 ∨ d.1 = 1005 ∨ d.1 = 1006) && decide (1 ≤ f_f F) && decide (26 ≤ f_o F)) || (decide (d.1 < 1000) && decide (d.2.1 = 1)) || (decide (d.1 < 1000) && decide (d.2.1 = 0) && decide ((oc, n, d.1) ∈ lkM) && ck_call 0 F d.1)
  | .invokevirtual n => (decide ((oc, n, d.1) ∈ lkT) && decide (d.1 = 1001 ∨ d.1 = 1002) && decide (4 ≤ f_f F) && decide (90 ≤ f_o F)) || (decide (d.1 < 1000) && decide (d.2.1 = 0) && decide ((oc, n, d.1) ∈ lkM) && ck_call 1 F d.1 && decide (0 ≤ d.2.2.1) && decide (d.2.2.1 < 100) && (match vwCl[d.2.2.1.toNat]?, FT[d.1]? with
    | some q, some G => decide (q.1 = (f_y G).cls)
    | _, _ => false))
  | .invokespecial n => (decide ((oc, n, d.1) ∈ lkT) && decide (d.1 = 1003) && decide (1 ≤ f_f F) && decide (26 ≤ f_o F)) || (decide (d.1 < 1000) && decide (d.2.1 = 0) && (decide ((oc, n, d.1) ∈ lkM) || decide ((oc, n, d.1) ∈ lkN)) && ck_call 2 F d.1) || decide (d.1 = 999)
  | _ => true
theorem ck_tgt_ok {F : MF} {pc : Nat} {off : Int} {t : Nat} (h : ck_tgt F pc off t = true) : m_tgt F pc off t := by
  unfold ck_tgt at h
  split at h
  · next tgt ht => exact ⟨tgt, ht, of_decide_eq_true h⟩
  · cases h
theorem ck_swi_ok {F : MF} {pc : Nat} : ∀ {ts : List Nat} {offs : List Int}, ck_swi F pc ts offs = true → ∀ (j t' : Nat), ts[j]? = some t' → ∃ off, offs[j]? = some off ∧ m_tgt F pc off t'
  | [], _, _, j, t', h => by simp at h
  | t :: ts, off :: offs, hc, j, t', h => by
    unfold ck_swi at hc
    rw [Bool.and_eq_true] at hc
    cases j with
    | zero => cases h; exact ⟨off, rfl, ck_tgt_ok hc.1⟩
    | succ j => exact ck_swi_ok hc.2 j t' h
  | _ :: _, [], hc, _, _, _ => by unfold ck_swi at hc; cases hc
/-- the kinds of all methods -/
def KND : Prop := ∀ (id : Nat) (G : MF) (M : MM) (k : Nat), FT[id]? = some G → PT[id]? = some M → lkG[id]? = some k → ok_kind k M.2.2 G
theorem ck_call_ok {kind : Nat} {F : MF} {id : Nat} (hK : KND) (h : ck_call kind F id = true) : ∃ G M, FT[id]? = some G ∧ PT[id]? = some M ∧ CLK F G ∧ ok_kind kind M.2.2 G := by
  unfold ck_call at h
  split at h
  · next G M k h1 h2 h3 =>
    rw [Bool.and_eq_true, decide_eq_true_eq] at h
    obtain ⟨rfl, h⟩ := h
    unfold ck_room at h
    rw [Bool.and_eq_true, decide_eq_true_eq, decide_eq_true_eq] at h
    obtain ⟨c1, c2, c3, c4⟩ := ck_FT G (List.mem_of_getElem? h1)
    exact ⟨G, M, h1, h2, ⟨c2, c1, c3, h.1, h.2⟩, hK id G M _ h1 h2 h3⟩
  · cases h
theorem ck_lkM' {oc n id : Nat} {o : String} {G : MF} (h : (oc, n, id) ∈ lkM) (ho : lkO[oc]? = some o) (hG : FT[id]? = some G) : Cond.methodLink o n (f_y G) ∈ gtbl := by
  obtain ⟨o', G', h1, h2, h3⟩ := ck_lkM _ h
  dsimp only at h1 h2 h3
  cases h1.symm.trans ho
  cases h2.symm.trans hG
  exact h3
theorem ck_lkT' {oc n id : Nat} {o : String} (h : (oc, n, id) ∈ lkT) (ho : lkO[oc]? = some o) : Cond.methodLink o n (ckTn id) ∈ gtbl := by
  obtain ⟨o', h1, h3⟩ := ck_lkT _ h
  dsimp only at h1 h3
  cases h1.symm.trans ho
  exact h3
set_option maxHeartbeats 4000000 in
theorem ck_i_ok {oc pc : Nat} {F : MF} {i : Instr} {d : ML} (hK : KND) (h999 : PT[999]? = none) (ho : lkO[oc]? = some (f_y F).cls) (h : ck_i oc F pc i d = true) : LOK (f_y F).cls ((f_y F).name = "<init>") i d ∧ JOK PT FT F pc i d := by
  unfold ck_i at h
  cases i <;> dsimp only at h
  case iconst n =>
    rw [Bool.and_eq_true, decide_eq_true_eq, decide_eq_true_eq] at h
    exact ⟨⟨by omega, by omega⟩, trivial⟩
  case bipush n =>
    rw [Bool.and_eq_true, decide_eq_true_eq, decide_eq_true_eq] at h
    exact ⟨⟨by omega, by omega⟩, trivial⟩
  case sipush n =>
    rw [Bool.and_eq_true, decide_eq_true_eq, decide_eq_true_eq] at h
    exact ⟨⟨by omega, by omega⟩, trivial⟩
  case iinc k n =>
    rw [Bool.and_eq_true, decide_eq_true_eq, decide_eq_true_eq] at h
    exact ⟨⟨by omega, by omega⟩, trivial⟩
  case ldc n =>
    rw [Bool.or_eq_true, Bool.and_eq_true, decide_eq_true_eq, decide_eq_true_eq, decide_eq_true_eq] at h
    refine ⟨?_, trivial⟩
    rcases h with ⟨h1, rfl, h3, h4⟩ | ⟨h1, h2⟩
    · exact Or.inl ⟨h1, (Option.some.inj ho).symm, h3, h4⟩
    · obtain ⟨o', v, g1, g2, g3⟩ := ck_lkC _ h2
      cases g1.symm.trans ho
      exact Or.inr ⟨h1, v, g2, g3⟩
  case ldc_w n =>
    rw [Bool.or_eq_true, Bool.and_eq_true, decide_eq_true_eq, decide_eq_true_eq, decide_eq_true_eq] at h
    refine ⟨?_, trivial⟩
    rcases h with ⟨h1, rfl, h3, h4⟩ | ⟨h1, h2⟩
    · exact Or.inl ⟨h1, (Option.some.inj ho).symm, h3, h4⟩
    · obtain ⟨o', v, g1, g2, g3⟩ := ck_lkC _ h2
      cases g1.symm.trans ho
      exact Or.inr ⟨h1, v, g2, g3⟩
  case ldc2_w n =>
    obtain ⟨o', v, g1, g2, g3⟩ := ck_lkJ _ (of_decide_eq_true h)
    cases g1.symm.trans ho
    exact ⟨⟨v, g2, g3⟩, trivial⟩
  case getfield n =>
    obtain ⟨o', q, g1, g2, g3⟩ := ck_lkF _ (of_decide_eq_true h)
    cases g1.symm.trans ho
    exact ⟨⟨q, g2, g3⟩, trivial⟩
  case putfield n =>
    rw [Bool.and_eq_true, decide_eq_true_eq] at h
    obtain ⟨h1, h2⟩ := h
    obtain ⟨o', q, g1, g2, g3⟩ := ck_lkF _ h1
    cases g1.symm.trans ho
    dsimp only at g2 g3
    rw [g2] at h2
    dsimp only at h2
    rw [Bool.or_eq_true, Bool.and_eq_true, Bool.and_eq_true, decide_eq_true_eq, decide_eq_true_eq, decide_eq_true_eq, decide_eq_true_eq] at h2
    exact ⟨⟨q, g2, g3, h2.imp id (fun z => ⟨z.1.1, z.1.2, z.2⟩)⟩, trivial⟩
  case newarray t =>
    cases t <;> dsimp only at h
    case boolean => exact ⟨⟨ckA2, (show d.1 = 102 from of_decide_eq_true h)⟩, trivial⟩
    case byte => exact ⟨⟨ckA1, (show d.1 = 101 from of_decide_eq_true h)⟩, trivial⟩
    case int => exact ⟨⟨ckA0, (show d.1 = 100 from of_decide_eq_true h)⟩, trivial⟩
    case long => exact ⟨⟨ckA3, (show d.1 = 103 from of_decide_eq_true h)⟩, trivial⟩
    all_goals cases h
  case anewarray n =>
    rw [Bool.and_eq_true, decide_eq_true_eq, decide_eq_true_eq] at h
    obtain ⟨o', q, g1, g2, g3⟩ := ck_lkK _ h.1
    cases g1.symm.trans ho
    refine ⟨⟨q, g2, g3, ?_⟩, trivial⟩
    dsimp only at g2
    rcases h.2 with hd | hd
    · rw [hd] at g2; cases g2; exact Or.inl rfl
    · rw [hd] at g2; cases g2; exact Or.inr rfl
  case new n =>
    rw [Bool.or_eq_true, decide_eq_true_eq, decide_eq_true_eq] at h
    refine ⟨?_, trivial⟩
    rcases h with h | h
    · exact Or.inl h
    · obtain ⟨o', q, g1, g2, g3⟩ := ck_lkK _ h
      cases g1.symm.trans ho
      obtain ⟨e1, e2, e3⟩ := ci_ok _ _ g2
      exact Or.inr ⟨q, g2, e3, g3, e1, e2⟩
  case ireturn =>
    rw [Bool.or_eq_true, Bool.and_eq_true, Bool.and_eq_true, decide_eq_true_eq, decide_eq_true_eq, decide_eq_true_eq, decide_eq_true_eq] at h
    exact ⟨trivial, h⟩
  case lreturn => exact ⟨trivial, (show f_r F = some .long from of_decide_eq_true h)⟩
  case return_ => exact ⟨trivial, (show f_r F = none from of_decide_eq_true h)⟩
  case goto off => exact ⟨trivial, fun t ht => ck_tgt_ok (List.all_eq_true.mp h t ht)⟩
  case ifCond c off => exact ⟨trivial, fun t ht => ck_tgt_ok (List.all_eq_true.mp h t ht)⟩
  case if_icmp c off => exact ⟨trivial, fun t ht => ck_tgt_ok (List.all_eq_true.mp h t ht)⟩
  case tableswitch dflt lo hi offs =>
    refine ⟨trivial, fun t ts hts => ?_⟩
    rw [hts] at h
    dsimp only at h
    rw [Bool.and_eq_true] at h
    refine ⟨ck_tgt_ok h.1, fun j t' ht => ?_⟩
    obtain ⟨off, h1, h2⟩ := ck_swi_ok h.2 j t' ht
    exact ⟨off, by rw [← Array.getElem?_toList]; exact h1, h2⟩
  case invokestatic n =>
    refine ⟨trivial, ?_⟩
    rw [Bool.or_eq_true, Bool.or_eq_true] at h
    rcases h with (h | h) | h
    · simp only [Bool.and_eq_true, decide_eq_true_eq] at h
      obtain ⟨⟨⟨h1, h2⟩, h3⟩, h4⟩ := h
      have hl := ck_lkT' h1 ho
      rcases h2 with h2 | h2 | h2 | h2 <;> rw [h2] at hl
      · exact Or.inl ⟨h2, hl, ckS0, ckS1, ckS2, h3, h4⟩
      · exact Or.inr (Or.inl ⟨h3, h4, ckS5, Or.inl ⟨h2, hl, ckm_max.1, ckm_max.2⟩⟩)
      · exact Or.inr (Or.inl ⟨h3, h4, ckS5, Or.inr (Or.inl ⟨h2, hl, ckm_min.1, ckm_min.2⟩)⟩)
      · exact Or.inr (Or.inl ⟨h3, h4, ckS5, Or.inr (Or.inr ⟨h2, hl, ckm_abs.1, ckm_abs.2⟩)⟩)
    · simp only [Bool.and_eq_true, decide_eq_true_eq] at h
      exact Or.inr (Or.inr (Or.inl h))
    · simp only [Bool.and_eq_true, decide_eq_true_eq] at h
      obtain ⟨⟨⟨h1, h2⟩, h3⟩, h4⟩ := h
      obtain ⟨G, M, g1, g2, g3, g4⟩ := ck_call_ok hK h4
      exact Or.inr (Or.inr (Or.inr ⟨h1, h2, G, M, g1, g2, g3, ck_lkM' h3 ho g1, g4.1, g4.2⟩))
  case invokevirtual n =>
    refine ⟨trivial, ?_⟩
    rw [Bool.or_eq_true] at h
    rcases h with h | h
    · simp only [Bool.and_eq_true, decide_eq_true_eq] at h
      obtain ⟨⟨⟨h1, h2⟩, h3⟩, h4⟩ := h
      have hl := ck_lkT' h1 ho
      rcases h2 with h2 | h2 <;> rw [h2] at hl
      · exact Or.inl ⟨h2, hl, h3, h4⟩
      · exact Or.inr (Or.inl ⟨h2, hl, h3, h4⟩)
    · simp only [Bool.and_eq_true, decide_eq_true_eq] at h
      obtain ⟨⟨⟨⟨⟨⟨h1, h2⟩, h3⟩, h4⟩, h5⟩, h6⟩, h7⟩ := h
      obtain ⟨G, M, g1, g2, g3, g4, g5, g6⟩ := ck_call_ok hK h4
      rw [g1] at h7
      split at h7
      · next q G' e1 e2 =>
        cases e2
        exact Or.inr (Or.inr ⟨h1, h2, G, M, _, q, g1, g2, g3, ck_lkM' h3 ho g1, g4, g5, e1, by omega, of_decide_eq_true h7, by omega, g6⟩)
      · cases h7
  case invokespecial n =>
    refine ⟨trivial, ?_⟩
    rw [Bool.or_eq_true, Bool.or_eq_true] at h
    rcases h with (h | h) | h
    · simp only [Bool.and_eq_true, decide_eq_true_eq] at h
      obtain ⟨⟨⟨h1, h2⟩, h3⟩, h4⟩ := h
      have hl := ck_lkT' h1 ho
      rw [h2] at hl
      exact Or.inl ⟨h2, hl, ckS3, ckS4, h3, h4⟩
    · simp only [Bool.and_eq_true, Bool.or_eq_true, decide_eq_true_eq] at h
      obtain ⟨⟨⟨h1, h2⟩, h3⟩, h4⟩ := h
      obtain ⟨G, M, g1, g2, g3, g4, g5, g6, g7⟩ := ck_call_ok hK h4
      refine Or.inr (Or.inl ⟨h1, h2, G, M, g1, g2, g3, ?_, g4, g5, g6, g7⟩)
      rcases h3 with h3 | h3
      · exact Or.inl (ck_lkM' h3 ho g1)
      · obtain ⟨o', G', e1, e2, e3⟩ := ck_lkN _ h3
        dsimp only at e1 e2 e3
        cases e1.symm.trans ho
        cases e2.symm.trans g1
        exact Or.inr e3
    · have hd := of_decide_eq_true h
      exact Or.inr (Or.inr ⟨by omega, by rw [hd]; exact h999⟩)
  all_goals exact ⟨trivial, trivial⟩
def ck_sw (i : Instr) : Bool := match i with
  | .tableswitch _ _ _ _ => true
  | _ => false
def ck_end (i : Instr) : Bool := match i with
  | .goto _ => true
  | .ireturn => true
  | .lreturn => true
  | .return_ => true
  | .tableswitch _ _ _ _ => true
  | _ => false
def ck_d (F : MF) (pc : Nat) (i : Instr) (ps : List Nat) : Bool := match decode (f_c F) pc with
  | .ok (j, len) => decide (j = i) && (ck_sw i || decide (len = m_len i)) && (match ps with
    | [] => ck_end i
    | p2 :: _ => decide (p2 = pc + len))
  | .error _ => false
def ck_nc (i : Instr) (d : ML) : Bool := match i with
  | .invokestatic _ => decide (1000 ≤ d.1) || decide (¬ d.2.1 = 1)
  | _ => true
def ck_l (oc : Nat) (nc : Bool) (F : MF) : List Nat → List MI → Bool
  | [], [] => true
  | pc :: ps, q :: cs => ck_d F pc q.1 ps && ck_i oc F pc q.1 q.2 && (nc || ck_nc q.1 q.2) && ck_l oc nc F ps cs
  | _, _ => false
theorem ck_l_ok {oc : Nat} {nc : Bool} {F : MF} : ∀ {ps : List Nat} {cs : List MI}, ck_l oc nc F ps cs = true → ∀ (k : Nat) (i : Instr) (d : ML), cs[k]? = some (i, d) → ∃ pc len, ps[k]? = some pc ∧ decode (f_c F) pc = .ok (i, len) ∧ (ck_sw i = false → len = m_len i) ∧ (ck_end i = false → ps[k + 1]? = some (pc + len)) ∧ ck_i oc F pc i d = true ∧ (nc || ck_nc i d) = true
  | [], [], _, k, i, d, h => by simp at h
  | [], _ :: _, hc, _, _, _, _ => by unfold ck_l at hc; cases hc
  | _ :: _, [], hc, _, _, _, _ => by unfold ck_l at hc; cases hc
  | pc :: ps, q :: cs, hc, k, i, d, h => by
    unfold ck_l at hc
    simp only [Bool.and_eq_true] at hc
    obtain ⟨⟨⟨h1, h2⟩, h3⟩, h4⟩ := hc
    cases k with
    | zero =>
      cases h
      unfold ck_d at h1
      split at h1
      · next j len hd =>
        simp only [Bool.and_eq_true, decide_eq_true_eq, Bool.or_eq_true] at h1
        obtain ⟨⟨rfl, h5⟩, h6⟩ := h1
        refine ⟨pc, len, rfl, hd, fun hs => ?_, fun he => ?_, h2, h3⟩
        · rcases h5 with h5 | h5
          · rw [hs] at h5; cases h5
          · exact h5
        · match ps, h6 with
          | [], h6 => rw [he] at h6; cases h6
          | p2 :: ps, h6 => rw [of_decide_eq_true h6]; rfl
      · cases h1
    | succ k => exact ck_l_ok h4 k i d h
def ck_m (oc : Nat) (nc : Bool) (M : MM) (F : MF) : Bool := decide (lkO[oc]? = some (f_y F).cls) && decide (f_L F = M.2.1) && decide ((f_p F)[0]? = some 0) && ck_l oc nc F (f_p F) M.1
theorem ck_m_ok {oc : Nat} {nc : Bool} {M : MM} {F : MF} (hK : KND) (h999 : PT[999]? = none) (hp : plainName (f_y F).cls = true) (h : ck_m oc nc M F = true) : MOK PT FT M F ∧ (nc = false → NCA M) := by
  unfold ck_m at h
  simp only [Bool.and_eq_true, decide_eq_true_eq] at h
  obtain ⟨⟨⟨h1, h2⟩, h3⟩, h4⟩ := h
  refine ⟨⟨hp, h2, h3, fun k i d hk => ?_⟩, fun hnc k idx d hk hd => ?_⟩
  · obtain ⟨pc, len, e1, e2, e3, e4, e5, -⟩ := ck_l_ok h4 k i d hk
    obtain ⟨l1, l2⟩ := ck_i_ok hK h999 h1 e5
    refine ⟨pc, len, e1, e2, fun hs => e3 ?_, fun hs => e4 ?_, l1, l2⟩
    · cases i <;> first | rfl | exact absurd rfl (hs _ _ _ _)
    · obtain ⟨a1, a2, a3, a4, a5⟩ := hs
      cases i <;> first | rfl | exact absurd rfl (a1 _) | exact absurd rfl a2 | exact absurd rfl a3 | exact absurd rfl a4 | exact absurd rfl (a5 _ _ _ _)
  · obtain ⟨pc, len, e1, e2, e3, e4, e5, e6⟩ := ck_l_ok h4 k _ d hk
    rw [hnc, Bool.false_or] at e6
    unfold ck_nc at e6
    dsimp only at e6
    rw [Bool.or_eq_true, decide_eq_true_eq, decide_eq_true_eq] at e6
    omega
/-- a long method in pieces -/
def ck_lp (oc : Nat) (nc : Bool) (F : MF) (nxt : List Nat) : List Nat → List MI → Bool
  | [], [] => true
  | pc :: ps, q :: cs => ck_d F pc q.1 (ps ++ nxt) && ck_i oc F pc q.1 q.2 && (nc || ck_nc q.1 q.2) && ck_lp oc nc F nxt ps cs
  | _, _ => false
theorem ck_d_head {F : MF} {pc : Nat} {i : Instr} {ps : List Nat} {a : Nat} {q : List Nat} (h : ck_d F pc i (ps ++ [a]) = true) : ck_d F pc i (ps ++ (a :: q)) = true := by
  cases ps with
  | nil => exact h
  | cons x xs => exact h
theorem ck_l_app {oc : Nat} {nc : Bool} {F : MF} {a : Nat} {p2 : List Nat} {c2 : List MI} (h2 : ck_l oc nc F (a :: p2) c2 = true) : ∀ {p1 : List Nat} {c1 : List MI}, ck_lp oc nc F [a] p1 c1 = true → ck_l oc nc F (p1 ++ (a :: p2)) (c1 ++ c2) = true
  | [], [], _ => h2
  | [], _ :: _, h => by unfold ck_lp at h; cases h
  | _ :: _, [], h => by unfold ck_lp at h; cases h
  | pc :: ps, q :: cs, h => by
    unfold ck_lp at h
    simp only [Bool.and_eq_true] at h
    obtain ⟨⟨⟨h3, h4⟩, h5⟩, h6⟩ := h
    show ck_l oc nc F (pc :: (ps ++ (a :: p2))) (q :: (cs ++ c2)) = true
    unfold ck_l
    simp only [Bool.and_eq_true]
    exact ⟨⟨⟨ck_d_head h3, h4⟩, h5⟩, ck_l_app h2 h6⟩
