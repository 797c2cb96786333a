/-! ===== calls, and the whole: a run of the small machine is a run of the JVM ===== -/
/-- what a call needs of the tables -/
def CLK (F : MF) (G : MF) : Prop := Cond.initialized (f_y G).cls ∈ gtbl ∧ Cond.code (f_y G) (f_c G) (f_L G) (f_r G) ∈ gtbl ∧ ((f_y G).cls ≠ "java/lang/invoke/MethodHandle" ∧ (f_y G).cls ≠ "java/lang/invoke/VarHandle") ∧ f_f G + 1 ≤ f_f F ∧ 8 + (f_L G + 11) + f_o G ≤ f_o F
def m_npar (G : MF) (n : Nat) : Prop := (parseMethodDescriptor (f_y G).desc).map (fun d => d.parameters.length) = some n
def m_tgt (F : MF) (pc : Nat) (off : Int) (t : Nat) : Prop := ∃ tgt : Nat, (f_p F)[t]? = some tgt ∧ (pc : Int) + off = (tgt : Int)
def JOK (PT : List MM) (FT : List MF) (F : MF) (pc : Nat) (i : Instr) (d : ML) : Prop := match i with
  | .ireturn => (d.1 = 0 ∧ f_r F = some .int) ∨ (d.1 = 1 ∧ f_r F = some .boolean)
  | .lreturn => f_r F = some .long
  | .return_ => f_r F = none
  | .goto off => ∀ t ∈ d.2.2.2, m_tgt F pc off t
  | .ifCond _ off => ∀ t ∈ d.2.2.2, m_tgt F pc off t
  | .if_icmp _ off => ∀ t ∈ d.2.2.2, m_tgt F pc off t
  | .tableswitch dflt _ _ offs => ∀ t ts, d.2.2.2 = t :: ts → m_tgt F pc dflt t ∧ ∀ (j t' : Nat), ts[j]? = some t' → ∃ off, offs[j]? = some off ∧ m_tgt F pc off t'
  | .invokestatic n => (d.1 = 1000 ∧ Cond.methodLink (f_y F).cls n arraycopyName ∈ gtbl ∧ Cond.native arraycopyName ∈ gtbl ∧ Cond.static arraycopyName ∈ gtbl ∧ Cond.initialized "java/lang/System" ∈ gtbl ∧ 1 ≤ f_f F ∧ 26 ≤ f_o F) ∨
      (1 ≤ f_f F ∧ 26 ≤ f_o F ∧ Cond.initialized "java/lang/Math" ∈ gtbl ∧ ((d.1 = 1004 ∧ Cond.methodLink (f_y F).cls n Lib.Math.max.name ∈ gtbl ∧ Cond.static Lib.Math.max.name ∈ gtbl ∧ Cond.code Lib.Math.max.name Lib.Math.max.code 2 (some .int) ∈ gtbl) ∨ (d.1 = 1005 ∧ Cond.methodLink (f_y F).cls n Lib.Math.min.name ∈ gtbl ∧ Cond.static Lib.Math.min.name ∈ gtbl ∧ Cond.code Lib.Math.min.name Lib.Math.min.code 2 (some .int) ∈ gtbl) ∨ (d.1 = 1006 ∧ Cond.methodLink (f_y F).cls n Lib.Math.abs.name ∈ gtbl ∧ Cond.static Lib.Math.abs.name ∈ gtbl ∧ Cond.code Lib.Math.abs.name Lib.Math.abs.code 1 (some .int) ∈ gtbl))) ∨
      (d.1 < 1000 ∧ d.2.1 = 1) ∨
      (d.1 < 1000 ∧ d.2.1 = 0 ∧ ∃ (G : MF) (M : MM), FT[d.1]? = some G ∧ PT[d.1]? = some M ∧ CLK F G ∧ Cond.methodLink (f_y F).cls n (f_y G) ∈ gtbl ∧ Cond.static (f_y G) ∈ gtbl ∧ m_npar G M.2.2)
  | .invokevirtual n => (d.1 = 1001 ∧ Cond.methodLink (f_y F).cls n yJ0_charAt_5068e ∈ gtbl ∧ 4 ≤ f_f F ∧ 90 ≤ f_o F) ∨ (d.1 = 1002 ∧ Cond.methodLink (f_y F).cls n yJ0_length_8abf5 ∈ gtbl ∧ 4 ≤ f_f F ∧ 90 ≤ f_o F) ∨
      (d.1 < 1000 ∧ d.2.1 = 0 ∧ ∃ (G : MF) (M : MM) (ci : Nat) (q : vw_C), FT[d.1]? = some G ∧ PT[d.1]? = some M ∧ CLK F G ∧ Cond.methodLink (f_y F).cls n (f_y G) ∈ gtbl ∧ Cond.instanceMethod (f_y G) ∈ gtbl ∧ Cond.selects (f_y G).cls (f_y G) (f_y G) ∈ gtbl ∧ vwCl[ci]? = some q ∧ ci < 100 ∧ q.1 = (f_y G).cls ∧ d.2.2.1 = (ci : Int) ∧ ∃ n0, m_npar G n0 ∧ n0 + 1 = M.2.2)
  | .invokespecial n => (d.1 = 1003 ∧ Cond.methodLink (f_y F).cls n Lib.objectInit ∈ gtbl ∧ Cond.instanceMethod Lib.objectInit ∈ gtbl ∧ Cond.code Lib.objectInit ⟨#[0xb1]⟩ 1 none ∈ gtbl ∧ 1 ≤ f_f F ∧ 26 ≤ f_o F) ∨
      (d.1 < 1000 ∧ d.2.1 = 0 ∧ ∃ (G : MF) (M : MM), FT[d.1]? = some G ∧ PT[d.1]? = some M ∧ CLK F G ∧ (Cond.methodLink (f_y F).cls n (f_y G) ∈ gtbl ∨ ∃ host, ∀ s, NWs s → va_Nw (.methodLinkNest (f_y F).cls n (f_y G) host) s) ∧ Cond.instanceMethod (f_y G) ∈ gtbl ∧ (f_y G).name = "<init>" ∧ f_r G = none ∧ ∃ n0, m_npar G n0 ∧ n0 + 1 = M.2.2) ∨ (d.1 < 1000 ∧ PT[d.1]? = none)
  | _ => True
/-- an instruction of F at index k -/
def IOK (PT : List MM) (FT : List MF) (F : MF) (k : Nat) (i : Instr) (d : ML) : Prop := ∃ pc len, (f_p F)[k]? = some pc ∧ decode (f_c F) pc = .ok (i, len) ∧ ((∀ a b c e, i ≠ .tableswitch a b c e) → len = m_len i) ∧
  ((∀ o, i ≠ .goto o) ∧ i ≠ .ireturn ∧ i ≠ .lreturn ∧ i ≠ .return_ ∧ (∀ a b c e, i ≠ .tableswitch a b c e) → (f_p F)[k + 1]? = some (pc + len)) ∧
  LOK (f_y F).cls ((f_y F).name = "<init>") i d ∧ JOK PT FT F pc i d
def MOK (PT : List MM) (FT : List MF) (M : MM) (F : MF) : Prop := plainName (f_y F).cls = true ∧ f_L F = M.2.1 ∧ (f_p F)[0]? = some 0 ∧ ∀ k i d, M.1[k]? = some (i, d) → IOK PT FT F k i d
section CALLS
variable {p : Program} {l : Launch} {e : Env} {R : Room} {s : State} {m : MethodId} {args : Array Value} {below : List Frame} {meth : Method} {c : Code} {Q : State → Prop} {D : va_G} {A : Nat → Prop} {sp ad av : Nat → Nat} {w0 : va_W} {nL nc0 ns0 : Nat} {pc : Nat} {L : List (Option MV)} {S' : List MV} {h h' : MH}
/-- behind a call -/
theorem sn_after {v : Option MV} {ws : va_W} {H : Heap} {locs : List Loc} {cells slots : Nat} {ls : Array Slot} {rest st0 : List Value} {aa : Array Value} (hr : va_Run p l e R s m args below meth c H locs cells slots (mh_c h' - mh_c h) (mh_s h' - mh_s h) (F0 m pc ls st0) rest (MQc D ws H.size (some v, h') aa) (va_A ws H.size))
    (hA : ∀ q, s.heap.size ≤ q → A q) (hD : va_D A ws) (hS : va_S A s.heap H locs) (hE : EX w0 ws) (hL : LR ws sp L ls nL) (hSt : SR ws sp S' rest) (hc : mh_c h = nc0 + cells) (hs : mh_s h = ns0 + slots) (hg : mh_c h ≤ mh_c h' ∧ mh_s h ≤ mh_s h')
    (kk : WW p l e R s m args below meth c Q D A sp w0 nL nc0 ns0 (pc + 3) L (v.toList ++ S') h') : W p l e R s m args below meth c H locs cells slots Q (F0 m pc ls st0) := by
  intro T hT X
  obtain ⟨v', st₀, t, T', Lc, h0, X', hLc, e1, e2, ⟨⟨v'', ws', tys', hv, hRV, hEX, hHR, hP', hK', hD'⟩, hFz, hFk⟩, st⟩ := hr T hT X
  cases hv
  have hF : ∀ q, va_A ws H.size q → A q := va_free hD hS hA (List.range ws.length) (by
    apply List.ext_getElem?
    intro i
    by_cases hi : i < ws.length
    · simp [hi]
    · simp [Nat.not_lt.mp hi])
  rw [h0] at hFz hFk
  have hvm : s.vm.Alike t.vm := by rw [← e2]; exact X'.warmed.alike
  have hsr : SR ws' sp (v.toList ++ S') (v'.toList ++ rest) := by
    match v, hRV with
    | none, hRV => cases hRV; exact hSt.mono hEX
    | some (.inl (.inl z)), hRV => obtain ⟨x, rfl, hx⟩ := hRV; exact ⟨_, _, rfl, ⟨x, rfl, hx⟩, hSt.mono hEX⟩
    | some (.inl (.inr z)), hRV => obtain ⟨x, rfl, hx⟩ := hRV; exact ⟨_, _, rfl, ⟨x, rfl, hx⟩, hSt.mono hEX⟩
    | some (.inr z), hRV => exact hRV.elim
  obtain ⟨t2, a1, b1⟩ := kk T'.heap (locs ++ Lc) (cells + (mh_c h' - mh_c h)) (slots + (mh_s h' - mh_s h)) ls (v'.toList ++ rest) ⟨ws', tys', va_K.moved hvm.symm hK', by rw [e1]; exact hP', hD'.weaken (fun _ q _ z => hF q.1 z), ⟨Nat.le_trans hS.1 (by rw [e1]; exact hFz), fun q h1 h2 => by rw [e1, hFk q (Nat.lt_of_lt_of_le h1 hS.1) (fun z => h2 (hF q z))]; exact hS.2.1 q h1 h2, fun q hq => by
      rcases List.mem_append.mp hq with hq | hq
      · exact hS.2.2 q hq
      · exact hF _ (hLc q hq)⟩, hE.trans hEX, hHR, hL.mono hEX, hsr, by omega, by omega⟩ T' rfl X'
  exact ⟨t2, st t2 a1, b1⟩
theorem good_app3 {ws : List Cond} {F : MF} (hc : Cond.code (f_y F) (f_c F) (f_L F) (f_r F) ∈ gtbl) (h : ∀ w ∈ ws, w ∈ gtbl) : GoodIn gtbl (ws ++ gw F) := by
  intro w hw
  rcases List.mem_append.mp hw with hw | hw
  · exact ⟨h w hw, good_gt _ (h w hw)⟩
  · exact good_gw hc w hw
/-- the callee's entry -/
theorem MPc.at {ws : va_W} {tys : List (ClassId × FieldType)} {H : Heap} {locs : List Loc} {avs : List Value} (hA : ∀ q, s.heap.size ≤ q → A q) (hTX : TXT ad av A s s.heap) (hK : va_K D vwCl tys s) (hP : va_P D vwCl ws H) (hD : va_D A ws) (hS : va_S A s.heap H locs) : ∀ U : State, U.heap = H → s.WarmedH U.vm → MPc D ad av ws tys H.size avs avs.toArray U := by
  intro U hU hW
  have hF : ∀ q, va_A ws H.size q → A q := va_free hD hS hA (List.range ws.length) (by
    apply List.ext_getElem?
    intro i
    by_cases hi : i < ws.length
    · simp [hi]
    · simp [Nat.not_lt.mp hi])
  exact ⟨rfl, by rw [hU], by rw [hU]; exact hP, va_K.moved hW.alike hK, hD.weaken (fun _ _ _ _ => trivial), hTX.pass hS hF hU hW⟩
theorem sn_callS {F G : MF} {x : MX} {idx np : Nat} {S : List MV} {v : Option MV} (hx : CTX p R s m args meth c F x A sp ad av) (hnL : f_L F = nL) (hk : CLK F G) (hlink : Cond.methodLink (f_y F).cls idx (f_y G) ∈ gtbl) (hst : Cond.static (f_y G) ∈ gtbl) (hn : m_npar G np) (hdg : decode (f_c F) pc = .ok (.invokestatic idx, 3))
    (hM : MET l G (S.take np).reverse h (some v, h')) (hlen : np ≤ S.length) (hpl : (S.take np).all m_plain = true) (hw : m_w (S.drop np) ≤ 8) (hg : mh_c h ≤ mh_c h' ∧ mh_s h ≤ mh_s h') (hrm : mh_c h' ≤ nc0 + R.cells ∧ mh_s h' ≤ ns0 + R.slots)
    (kk : WW p l e R s m args below meth c Q D A sp w0 nL nc0 ns0 (pc + 3) L (v.toList ++ S.drop np) h') : WW p l e R s m args below meth c Q D A sp w0 nL nc0 ns0 pc L S h := by
  obtain ⟨h1, h2, h3, h4, h5, h6, h7, h8, h9, h10, h11, h12⟩ := hx
  obtain ⟨k1, k2, k3, k4, k5⟩ := hk
  intro H locs cells slots ls st ⟨ws, tys, hK, hP, hD, hS, hE, hH, hL, hSt, hc, hs⟩
  obtain ⟨a, b, rfl, q1, q2, q3⟩ := hSt.split np hlen
  have hvs : SR ws (fun _ => 0) (S.take np).reverse a.reverse := SR.plain (by rw [List.all_reverse]; exact hpl) q1.rev
  have hMet := hM D ad av H.size ws tys a.reverse hH hvs
  refine sn_after (rest := b) (va_runS (As := a.reverse) (n := np) (nL := nL) (Ts := gtbl) (own := (f_y F).cls) (bytes := f_c G) (maxL := f_L G) (ret := f_r G) ⟨h1, h2, h3.trans hnL, h4, h5⟩ hMet (va_cwS np h5 (good_app3 (F := G) k2 (fun w hw => ?_)) rfl rfl rfl ⟨k3.1, k3.2, hn⟩ ⟨Nat.le_trans k4 h11, Nat.le_trans k5 h12⟩) ⟨MPc.blind _ _ _ _ _ _ _, MPc.at h6 h9 hK hP hD hS⟩ rfl (by rw [List.length_reverse]; exact q3) hL.2.1 (by rw [List.reverse_reverse]) (lv_room (by rw [q2.w]; exact hw)) hdg ⟨by omega, by omega⟩) h6 hD hS hE hL q2 hc hs hg kk
  simp only [List.mem_cons, List.not_mem_nil, or_false] at hw
  rcases hw with rfl | rfl | rfl
  · exact hlink
  · exact hst
  · exact k1
theorem sn_callV {F G : MF} {x : MX} {idx np ci : Nat} {q : vw_C} {S : List MV} {v : Option MV} (hx : CTX p R s m args meth c F x A sp ad av) (hnL : f_L F = nL) (hk : CLK F G) (hlink : Cond.methodLink (f_y F).cls idx (f_y G) ∈ gtbl) (hin : Cond.instanceMethod (f_y G) ∈ gtbl) (hsel : Cond.selects (f_y G).cls (f_y G) (f_y G) ∈ gtbl) (hq : vwCl[ci]? = some q) (hci : ci < 100) (hqc : q.1 = (f_y G).cls) (hn : m_npar G np) (hdg : decode (f_c F) pc = .ok (.invokevirtual idx, 3))
    (hM : MET l G (S.take (np + 1)).reverse h (some v, h')) (hlen : np + 1 ≤ S.length) (hpl : (S.take (np + 1)).all m_plain = true) (hw : m_w (S.drop (np + 1)) ≤ 8) (hmay : m_may1 h (S.take (np + 1)).reverse (ci : Int) = true) (hg : mh_c h ≤ mh_c h' ∧ mh_s h ≤ mh_s h') (hrm : mh_c h' ≤ nc0 + R.cells ∧ mh_s h' ≤ ns0 + R.slots)
    (kk : WW p l e R s m args below meth c Q D A sp w0 nL nc0 ns0 (pc + 3) L (v.toList ++ S.drop (np + 1)) h') : WW p l e R s m args below meth c Q D A sp w0 nL nc0 ns0 pc L S h := by
  obtain ⟨h1, h2, h3, h4, h5, h6, h7, h8, h9, h10, h11, h12⟩ := hx
  obtain ⟨k1, k2, k3, k4, k5⟩ := hk
  intro H locs cells slots ls st ⟨ws, tys, hK, hP, hD, hS, hE, hH, hL, hSt, hc, hs⟩
  obtain ⟨a, b, rfl, q1, q2, q3⟩ := hSt.split (np + 1) hlen
  have hvs : SR ws (fun _ => 0) (S.take (np + 1)).reverse a.reverse := SR.plain (by rw [List.all_reverse]; exact hpl) q1.rev
  have hMet := hM D ad av H.size ws tys a.reverse hH hvs
  unfold m_may1 at hmay
  split at hmay
  · next k vs hvse =>
    split at hmay
    · next ci' n hkk =>
      have hcc : ci' = ci := by have := of_decide_eq_true hmay; omega
      subst hcc
      rw [hvse] at hvs
      obtain ⟨v1, As, hae, ⟨ab, rfl, hab⟩, hvs⟩ := hvs
      obtain ⟨eb, heb, hCb⟩ := hH.at hkk hab
      have hcell : ∃ cellB : Cell, H[ab]? = some cellB ∧ cellB.vm.isStatics = false ∧ s.vm.findClass (f_y G).cls = some cellB.cls := by
        rcases hCb with ⟨g0, fs, q', g1, -⟩ | ⟨g0, -⟩ | ⟨g0, -⟩ | ⟨_, _, g0, -⟩
        · dsimp only at g1
          subst g1
          rw [← hqc]
          exact va_recv hK hP hq heb
        · dsimp only at g0; omega
        · dsimp only at g0; omega
        · dsimp only at g0; omega
      have hastk : a = As.reverse ++ [Value.ref ab] := by rw [← List.reverse_reverse (as := a), hae, List.reverse_cons]
      have hAl0 : a.length = As.length + 1 := by rw [hastk]; simp
      have hAl : As.length = np := by omega
      rw [hae] at hMet
      refine sn_after (rest := b) (va_runV (b := ab) (C := (f_y G).cls) (As := As) (n := np) (nL := nL) (Ts := gtbl) (own := (f_y F).cls) (bytes := f_c G) (maxL := f_L G) (ret := f_r G) ⟨h1, h2, h3.trans hnL, h4, h5⟩ hMet (cwV np h5 (good_app3 (F := G) k2 (fun w hw => ?_)) rfl rfl rfl ⟨rfl, k3.1, k3.2, hn⟩ ⟨Nat.le_trans k4 h11, Nat.le_trans k5 h12⟩) ⟨MPc.blind _ _ _ _ _ _ _, hcell, MPc.at h6 h9 hK hP hD hS⟩ rfl hAl hL.2.1 (by rw [hastk]; simp) (lv_room (by rw [q2.w]; exact hw)) hdg ⟨by omega, by omega⟩) h6 hD hS hE hL q2 hc hs hg kk
      simp only [List.mem_cons, List.not_mem_nil, or_false] at hw
      rcases hw with rfl | rfl | rfl | rfl
      · exact hlink
      · exact hin
      · exact hsel
      · exact k1
    · cases hmay
  · cases hmay
theorem sn_callI {F G : MF} {x : MX} {idx np : Nat} {S : List MV} {v : Option MV} (hx : CTX p R s m args meth c F x A sp ad av) (hnL : f_L F = nL) (hk : CLK F G) (hlink : Cond.methodLink (f_y F).cls idx (f_y G) ∈ gtbl ∨ ∃ host, ∀ s, NWs s → va_Nw (.methodLinkNest (f_y F).cls idx (f_y G) host) s) (hin : Cond.instanceMethod (f_y G) ∈ gtbl) (hnm : (f_y G).name = "<init>") (hret : f_r G = none) (hn : m_npar G np) (hdg : decode (f_c F) pc = .ok (.invokespecial idx, 3))
    (hM : MET l G (S.take (np + 1)).reverse h (some v, h')) (hlen : np + 1 ≤ S.length) (hpl : (S.take (np + 1)).all m_plain = true) (hw : m_w (S.drop (np + 1)) ≤ 8) (hmay : m_may2 (S.take (np + 1)).reverse = true) (hg : mh_c h ≤ mh_c h' ∧ mh_s h ≤ mh_s h') (hrm : mh_c h' ≤ nc0 + R.cells ∧ mh_s h' ≤ ns0 + R.slots)
    (kk : WW p l e R s m args below meth c Q D A sp w0 nL nc0 ns0 (pc + 3) L (v.toList ++ S.drop (np + 1)) h') : WW p l e R s m args below meth c Q D A sp w0 nL nc0 ns0 pc L S h := by
  obtain ⟨h1, h2, h3, h4, h5, h6, h7, h8, h9, h10, h11, h12⟩ := hx
  obtain ⟨k1, k2, k3, k4, k5⟩ := hk
  intro H locs cells slots ls st ⟨ws, tys, hK, hP, hD, hS, hE, hH, hL, hSt, hc, hs⟩
  obtain ⟨a, b, rfl, q1, q2, q3⟩ := hSt.split (np + 1) hlen
  have hvs : SR ws (fun _ => 0) (S.take (np + 1)).reverse a.reverse := SR.plain (by rw [List.all_reverse]; exact hpl) q1.rev
  have hMet := hM D ad av H.size ws tys a.reverse hH hvs
  unfold m_may2 at hmay
  split at hmay
  · next k vs hvse =>
    rw [hvse] at hvs
    obtain ⟨v1, As, hae, ⟨ab, rfl, hab⟩, hvs⟩ := hvs
    have hastk : a = As.reverse ++ [Value.ref ab] := by rw [← List.reverse_reverse (as := a), hae, List.reverse_cons]
    have hAl0 : a.length = As.length + 1 := by rw [hastk]; simp
    have hAl : As.length = np := by omega
    rw [hae] at hMet
    unfold gw at hMet
    rw [hret] at hMet
    have k2' : Cond.code (f_y G) (f_c G) (f_L G) none ∈ gtbl := by rw [← hret]; exact k2
    have hG : GoodIn gtbl (Cond.code (f_y G) (f_c G) (f_L G) none :: gtbl) := by
      have := good_gw (F := G) k2
      unfold gw at this
      rw [hret] at this
      exact this
    rcases hlink with hlink | ⟨host, hlink⟩
    · exact sn_after (rest := b) (va_runI (b := ab) (As := As) (n := np) (nL := nL) (Ts := gtbl) (own := (f_y F).cls) (bytes := f_c G) (maxL := f_L G) ⟨h1, h2, h3.trans hnL, h4, h5⟩ hMet (cwI np h5 hG rfl rfl rfl (h5 _ k1) (h5 _ hlink) (h5 _ hin) hnm ⟨k3.1, k3.2, hn⟩ ⟨Nat.le_trans k4 h11, Nat.le_trans k5 h12⟩) ⟨MPc.blind _ _ _ _ _ _ _, MPc.at h6 h9 hK hP hD hS⟩ rfl hAl hL.2.1 (by rw [hastk]; simp) (lv_room (by rw [q2.w]; exact hw)) hdg ⟨by omega, by omega⟩) h6 hD hS hE hL q2 hc hs hg kk
    · exact sn_after (rest := b) (va_runIN (b := ab) (As := As) (n := np) (nL := nL) (Ts := gtbl) (own := (f_y F).cls) (bytes := f_c G) (maxL := f_L G) ⟨h1, h2, h3.trans hnL, h4, h5⟩ hMet ⟨va_cnB np h5 hG rfl rfl rfl (hlink s h9.2.2.2.1) (h5 _ k1) ⟨k3.1, k3.2, hn⟩ ⟨Nat.le_trans k4 h11, Nat.le_trans k5 h12⟩, hnm, h5 _ hin⟩ ⟨MPc.blind _ _ _ _ _ _ _, MPc.at h6 h9 hK hP hD hS⟩ rfl hAl hL.2.1 (by rw [hastk]; simp) (lv_room (by rw [q2.w]; exact hw)) hdg ⟨by omega, by omega⟩) h6 hD hS hE hL q2 hc hs hg kk
  · cases hmay
end CALLS
