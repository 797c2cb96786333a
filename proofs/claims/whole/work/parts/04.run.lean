/-! ===== jumps, calls, runs of the small machine ===== -/
/-- a step's outcome: go on at (index, locals, stack, heap); the end (none: thrown); a call (method, arguments, the stack behind, how) -/
abbrev MA : Type := (Nat × List (Option MV) × List MV × MH) ⊕ ((Option (Option MV) × MH) ⊕ (Nat × List MV × List MV × Nat))
/-- a method: its code, how many locals, how many arguments (this among them) -/
abbrev MM : Type := List MI × Nat × Nat
abbrev MX : Type := Option (Nat × (Nat → Int))
abbrev MR : Type := Option (Option MV) × MH
def m_if (c : ClassFile.Cond) (a b : Int) : Bool := match c with
  | .eq => decide (a = b)
  | .ne => decide (¬ a = b)
  | .lt => decide (a < b)
  | .ge => decide (b ≤ a)
  | .gt => decide (b < a)
  | .le => decide (a ≤ b)
def m_txt (n : Nat) : List Int := match n with
  | 1 => "nesw".toList.map (fun c => (c.toNat : Int))
  | 2 => "row law timber water wind fog door mud ladder herd wolf go sell buy day night ".toList.map (fun c => (c.toNat : Int))
  | _ => []
def m_copy (f : Nat → Nat → Int) (src sp dst dp n : Nat) : Nat → Nat → Int := fun a j => if a = dst ∧ dp ≤ j ∧ j < dp + n then f src (sp + (j - dp)) else f a j
/-- arraycopy -/
def m_cpy (S : List MV) (h : MH) : Option (List MV × MH) := match S with
  | .inl (.inl n) :: .inl (.inl dp) :: .inr (.inl (some dst)) :: .inl (.inl sp) :: .inr (.inl (some src)) :: S => match (mh_k h)[src]?, (mh_k h)[dst]? with
    | some (t0, n0), some (t1, n1) => if (t0 = 100 ∧ t1 = 100 ∨ t0 = 103 ∧ t1 = 103) ∧ 0 ≤ n ∧ 0 ≤ dp ∧ 0 ≤ sp ∧ sp + n ≤ n0 ∧ dp + n ≤ n1 then
        some (S, (mh_k h, m_copy (mh_m h) src sp.toNat dst dp.toNat n.toNat, mh_r h, mh_c h, mh_s h)) else none
    | _, _ => none
  | _ => none
def m_max (S : List MV) (h : MH) : Option (List MV × MH) := match S with
  | .inl (.inl y) :: .inl (.inl x) :: S => some (mI (if x < y then y else x) :: S, h)
  | _ => none
def m_min (S : List MV) (h : MH) : Option (List MV × MH) := match S with
  | .inl (.inl y) :: .inl (.inl x) :: S => some (mI (if y < x then y else x) :: S, h)
  | _ => none
def m_abs (S : List MV) (h : MH) : Option (List MV × MH) := match S with
  | .inl (.inl x) :: S => some (mI (if 0 ≤ x then x else w32 (0 - x)) :: S, h)
  | _ => none
/-- a call that is done at once: arraycopy, text, Object(), Math -/
def m_nat (t : Nat) (S : List MV) (h : MH) : Option (List MV × MH) := match t with
  | 1000 => m_cpy S h
  | 1001 => match S with
    | .inl (.inl i) :: .inr (.inr n) :: S => if m_in i (m_txt n).length then some (mI ((m_txt n).getD i.toNat 0) :: S, h) else none
    | _ => none
  | 1002 => match S with
    | .inr (.inr n) :: S => if n = 1 ∨ n = 2 then some (mI ((m_txt n).length : Nat) :: S, h) else none
    | _ => none
  | 1003 => match S with
    | .inr (.inl (some _)) :: S => some (S, h)
    | _ => none
  | 1004 => m_max S h
  | 1005 => m_min S h
  | 1006 => m_abs S h
  | _ => none
def m_may1 (h : MH) (vs : List MV) (z : Int) : Bool := match vs with
  | .inr (.inl (some k)) :: _ => match (mh_k h)[k]? with
    | some (ci, _) => decide ((ci : Int) = z)
    | none => false
  | _ => false
def m_may2 (vs : List MV) : Bool := match vs with
  | .inr (.inl (some _)) :: _ => true
  | _ => false
/-- who may be called so: 0 static, 1 virtual (the receiver's class z), 2 a constructor -/
def m_may (mode : Nat) (h : MH) (vs : List MV) (z : Int) : Bool := match mode with
  | 0 => true
  | 1 => m_may1 h vs z
  | _ => m_may2 vs
/-- what a catching call takes: the row for the answer, two numbers, the object -/
def m_cat (h : MH) (S : List MV) : Option (List MV × List MV) := match S with
  | .inr (.inl (some o)) :: .inl (.inl b) :: .inl (.inl a) :: .inr (.inl (some x)) :: S0 => if ((mh_k h)[x]?).map Prod.fst = some 11 ∧ (mh_k h)[o]? = some (103, 1) ∧ m_w S0 ≤ 8 then some ([mR x, mI a, mI b], mR o :: S0) else none
  | _ => none
def m_call (PT : List MM) (mode : Nat) (d : ML) (k : Nat) (L : List (Option MV)) (S : List MV) (h : MH) : Option MA :=
  if 1000 ≤ d.1 then (match m_nat d.1 S h with
    | some (S', h') => if m_w S' ≤ 8 then some (.inl (k + 1, L, S', h')) else none
    | none => none) else
  match PT[d.1]? with
  | some (_, _, np) => if d.2.1 = 1 then (match m_cat h S with
      | some (vs, S') => some (.inr (.inr (d.1, vs, S', 1)))
      | none => none) else
      if np ≤ S.length ∧ (S.take np).all m_plain = true ∧ m_w (S.drop np) ≤ 8 ∧ m_may mode h (S.take np).reverse d.2.2.1 = true then some (.inr (.inr (d.1, (S.take np).reverse, S.drop np, 0))) else none
  | none => none
/-- the instructions that m_one doesn't do -/
def m_spec (i : Instr) : Bool := match i with
  | .ireturn => true
  | .lreturn => true
  | .return_ => true
  | .goto _ => true
  | .ifCond _ _ => true
  | .if_icmp _ _ => true
  | .tableswitch _ _ _ _ => true
  | .invokestatic _ => true
  | .invokevirtual _ => true
  | .invokespecial _ => true
  | _ => false
def m_jmp (PT : List MM) (i : Instr) (d : ML) (k : Nat) (L : List (Option MV)) (S : List MV) (h : MH) : Option MA :=
  match i with
  | .ireturn => match S with
    | [.inl (.inl z)] => if d.1 = 0 ∨ z = 0 ∨ z = 1 then some (.inr (.inl (some (some (mI z)), h))) else none
    | _ => none
  | .lreturn => match S with
    | [.inl (.inr z)] => some (.inr (.inl (some (some (mJ z)), h)))
    | _ => none
  | .return_ => match S with
    | [] => some (.inr (.inl (some none, h)))
    | _ => none
  | .goto _ => match d.2.2.2 with
    | [t] => some (.inl (t, L, S, h))
    | _ => none
  | .ifCond c _ => match d.2.2.2, S with
    | [t], .inl (.inl a) :: S => some (.inl (bif m_if c a 0 then t else k + 1, L, S, h))
    | _, _ => none
  | .if_icmp c _ => match d.2.2.2, S with
    | [t], .inl (.inl b) :: .inl (.inl a) :: S => some (.inl (bif m_if c a b then t else k + 1, L, S, h))
    | _, _ => none
  | .tableswitch _ lo hi _ => match d.2.2.2, S with
    | t :: ts, .inl (.inl a) :: S => if a < lo ∨ hi < a then some (.inl (t, L, S, h)) else (match ts[(a - lo).toNat]? with
      | some t' => some (.inl (t', L, S, h))
      | none => none)
    | _, _ => none
  | .invokestatic _ => m_call PT 0 d k L S h
  | .invokevirtual _ => m_call PT 1 d k L S h
  | .invokespecial _ => m_call PT 2 d k L S h
  | _ => none
def m_step (PT : List MM) (x : MX) (i : Instr) (d : ML) (k : Nat) (L : List (Option MV)) (S : List MV) (h : MH) : Option MA :=
  bif m_spec i then m_jmp PT i d k L S h else
    if d.1 = 200 then (match S with
      | [] => some (.inr (.inl (none, (mh_k h, mh_m h, mh_r h, mh_c h + 1, mh_s h + d.2.1))))
      | _ :: _ => none) else
    (match m_one x i d L S h with
    | some (L', S', h') => some (.inl (k + 1, L', S', h'))
    | none => none)
def m_sl (vs : List MV) : List (Option MV) := vs.flatMap (fun v => match v with
  | .inl (.inr z) => [some (mJ z), none]
  | v => [some v])
def m_ent (vs : List MV) (n : Nat) : List (Option MV) := m_sl vs ++ List.replicate (n - (m_sl vs).length) none
/-- behind a call: how 0, a plain one; how 1, one of the law's two that catch -/
def m_back (how : Nat) (r : MR) (S : List MV) : Option (List MV × MH) := match how with
  | 0 => match r with
    | (some v, h') => some (v.toList ++ S, h')
    | (none, _) => none
  | _ => match r, S with
    | (some (some (.inl (.inl z))), h'), .inr (.inl (some o)) :: S => if (mh_k h')[o]? = some (103, 1) then some (mI 0 :: S, (mh_k h', m_set (mh_m h') o 0 z, mh_r h', mh_c h', mh_s h')) else none
    | (none, h'), .inr (.inl (some _)) :: S => some (mI 1 :: S, h')
    | _, _ => none
def m_run (PT : List MM) (x : MX) : Nat → List MI → Nat → List (Option MV) → List MV → MH → Option MR
  | 0, _, _, _, _, _ => none
  | n + 1, C, k, L, S, h => match C[k]? with
    | none => none
    | some (i, d) => match m_step PT x i d k L S h with
      | none => none
      | some (.inl (k', L', S', h')) => m_run PT x n C k' L' S' h'
      | some (.inr (.inl r)) => some r
      | some (.inr (.inr (y, vs, S', how))) => match PT[y]? with
        | none => none
        | some (C', nL, _) => if (m_sl vs).length ≤ nL then (match m_run PT none n C' 0 (m_ent vs nL) [] h with
          | none => none
          | some r => match m_back how r S' with
            | none => none
            | some (S'', h') => m_run PT x n C (k + 1) L S'' h') else none
theorem m_run_succ (PT : List MM) : ∀ (n : Nat) (x : MX) (C : List MI) (k : Nat) (L : List (Option MV)) (S : List MV) (h : MH) (r : MR), m_run PT x n C k L S h = some r → m_run PT x (n + 1) C k L S h = some r := by
  intro n
  induction n with
  | zero => intro x C k L S h r hr; simp [m_run] at hr
  | succ n ih =>
    intro x C k L S h r hr
    rw [m_run] at hr
    rw [m_run]
    cases hC : C[k]? with
    | none => rw [hC] at hr; simp at hr
    | some q =>
      obtain ⟨i, d⟩ := q
      rw [hC] at hr
      dsimp only at hr ⊢
      cases hs : m_step PT x i d k L S h with
      | none => rw [hs] at hr; simp at hr
      | some a =>
        rw [hs] at hr
        match a, hr with
        | .inl (k', L', S', h'), hr => exact ih _ _ _ _ _ _ _ hr
        | .inr (.inl r'), hr => exact hr
        | .inr (.inr (y, vs, S', how)), hr =>
          dsimp only at hr ⊢
          cases hy : PT[y]? with
          | none => rw [hy] at hr; simp at hr
          | some M =>
            obtain ⟨C', nL, np⟩ := M
            rw [hy] at hr
            dsimp only at hr ⊢
            by_cases hl : (m_sl vs).length ≤ nL
            · rw [if_pos hl] at hr ⊢
              cases hc : m_run PT none n C' 0 (m_ent vs nL) [] h with
              | none => rw [hc] at hr; simp at hr
              | some r1 =>
                rw [hc] at hr
                rw [ih _ _ _ _ _ _ _ hc]
                dsimp only at hr ⊢
                cases hb : m_back how r1 S' with
                | none => rw [hb] at hr; simp at hr
                | some q =>
                  obtain ⟨S'', h'⟩ := q
                  rw [hb] at hr
                  exact ih _ _ _ _ _ _ _ hr
            · rw [if_neg hl] at hr
              simp at hr
theorem m_run_le {PT : List MM} {x : MX} {n n' : Nat} (hn : n ≤ n') {C : List MI} {k : Nat} {L : List (Option MV)} {S : List MV} {h : MH} {r : MR} (hr : m_run PT x n C k L S h = some r) : m_run PT x n' C k L S h = some r := by
  induction hn with
  | refl => exact hr
  | step _ ih => exact m_run_succ _ _ _ _ _ _ _ _ _ ih
/-- from here the run ends, with Q of its end -/
def Rn (PT : List MM) (x : MX) (C : List MI) (k : Nat) (L : List (Option MV)) (S : List MV) (h : MH) (Q : MR → Prop) : Prop := ∃ n r, m_run PT x n C k L S h = some r ∧ Q r
/-- the method y, called with vs over h, ends with Q -/
def Cl (PT : List MM) (y : Nat) (vs : List MV) (h : MH) (Q : MR → Prop) : Prop := ∃ M, PT[y]? = some M ∧ (m_sl vs).length ≤ M.2.1 ∧ Rn PT none M.1 0 (m_ent vs M.2.1) [] h Q
theorem Rn.go {PT : List MM} {x : MX} {C : List MI} {k k' : Nat} {L L' : List (Option MV)} {S S' : List MV} {h h' : MH} {Q : MR → Prop} {i : Instr} {d : ML} (hC : C[k]? = some (i, d)) (hs : m_step PT x i d k L S h = some (.inl (k', L', S', h'))) (kk : Rn PT x C k' L' S' h' Q) : Rn PT x C k L S h Q := by
  obtain ⟨n, r, h1, h2⟩ := kk
  refine ⟨n + 1, r, ?_, h2⟩
  rw [m_run, hC]
  dsimp only
  rw [hs]
  exact h1
theorem Rn.ret {PT : List MM} {x : MX} {C : List MI} {k : Nat} {L : List (Option MV)} {S : List MV} {h : MH} {Q : MR → Prop} {i : Instr} {d : ML} {r : MR} (hC : C[k]? = some (i, d)) (hs : m_step PT x i d k L S h = some (.inr (.inl r))) (kk : Q r) : Rn PT x C k L S h Q := by
  refine ⟨1, r, ?_, kk⟩
  rw [m_run, hC]
  dsimp only
  rw [hs]
theorem Rn.call {PT : List MM} {x : MX} {C : List MI} {k : Nat} {L : List (Option MV)} {S S' vs : List MV} {h : MH} {Q : MR → Prop} {i : Instr} {d : ML} {y : Nat} (hC : C[k]? = some (i, d)) (hs : m_step PT x i d k L S h = some (.inr (.inr (y, vs, S', 0)))) (hc : Cl PT y vs h (fun r => ∃ v, r.1 = some v ∧ Rn PT x C (k + 1) L (v.toList ++ S') r.2 Q)) : Rn PT x C k L S h Q := by
  obtain ⟨M, h1, h2, n1, r1, h3, v, h4, n2, r2, h5, h6⟩ := hc
  obtain ⟨C', nL, np⟩ := M
  obtain ⟨o, h'⟩ := r1
  dsimp only at h2 h3 h4 h5
  subst h4
  refine ⟨max n1 n2 + 1, r2, ?_, h6⟩
  rw [m_run, hC]
  dsimp only
  rw [hs]
  dsimp only
  rw [h1]
  dsimp only
  rw [if_pos h2, m_run_le (Nat.le_max_left n1 n2) h3]
  dsimp only [m_back]
  exact m_run_le (Nat.le_max_right n1 n2) h5
theorem Rn.mono {PT : List MM} {x : MX} {C : List MI} {k : Nat} {L : List (Option MV)} {S : List MV} {h : MH} {Q Q' : MR → Prop} (kk : Rn PT x C k L S h Q) (hq : ∀ r, Q r → Q' r) : Rn PT x C k L S h Q' := by
  obtain ⟨n, r, h1, h2⟩ := kk
  exact ⟨n, r, h1, hq r h2⟩
theorem Cl.mono {PT : List MM} {y : Nat} {vs : List MV} {h : MH} {Q Q' : MR → Prop} (kk : Cl PT y vs h Q) (hq : ∀ r, Q r → Q' r) : Cl PT y vs h Q' := by
  obtain ⟨M, h1, h2, h3⟩ := kk
  exact ⟨M, h1, h2, h3.mono hq⟩
