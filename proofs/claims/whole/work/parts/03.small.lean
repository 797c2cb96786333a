/-! ===== THE SMALL MACHINE: the same instructions over whole numbers and numbered cells; a run of it is a run of the JVM (04, 05) =====
A value: .inl (.inl z) an int, .inl (.inr z) a long, .inr (.inl none) null, .inr (.inl (some k)) the cell k, .inr (.inr n) a given reference (0 the script, 1.. a text).
A heap: the cells' kinds (class number below 100, or 100 int, 101 byte, 102 boolean, 103 long, 104 + c an array of class c; how many slots), their numbers, their references, how many cells and slots were made.
An instruction: the JVM's own, with what it is linked to: (a, b, z, ts). -/
abbrev MV : Type := (Int ⊕ Int) ⊕ (Option Nat ⊕ Nat)
abbrev mI (z : Int) : MV := .inl (.inl z)
abbrev mJ (z : Int) : MV := .inl (.inr z)
abbrev mR (k : Nat) : MV := .inr (.inl (some k))
abbrev mN : MV := .inr (.inl none)
abbrev mS (k : Nat) : MV := .inr (.inr k)
abbrev MH : Type := List (Nat × Nat) × (Nat → Nat → Int) × (Nat → Nat → Option Nat) × Nat × Nat
abbrev mh_k (h : MH) : List (Nat × Nat) := h.1
abbrev mh_m (h : MH) : Nat → Nat → Int := h.2.1
abbrev mh_r (h : MH) : Nat → Nat → Option Nat := h.2.2.1
abbrev mh_c (h : MH) : Nat := h.2.2.2.1
abbrev mh_s (h : MH) : Nat := h.2.2.2.2
abbrev ML : Type := Nat × Nat × Int × List Nat
abbrev MI : Type := Instr × ML
/-- two's complement -/
def w32 (z : Int) : Int := z.bmod (2 ^ 32)
def w64 (z : Int) : Int := z.bmod (2 ^ 64)
def m_set {α : Type} (f : Nat → Nat → α) (a j : Nat) (v : α) : Nat → Nat → α := fun a' j' => if a' = a ∧ j' = j then v else f a' j'
def m_and (x y : Int) : Int := (Int32.ofInt x &&& Int32.ofInt y).toInt
def m_or (x y : Int) : Int := (Int32.ofInt x ||| Int32.ofInt y).toInt
def m_xor (x y : Int) : Int := (Int32.ofInt x ^^^ Int32.ofInt y).toInt
def m_shl (x y : Int) : Int := (Int32.ofInt x <<< (Int32.ofInt y &&& 31)).toInt
def m_shr (x y : Int) : Int := (Int32.ofInt x >>> (Int32.ofInt y &&& 31)).toInt
def m_ushr (x y : Int) : Int := ((Int32.ofInt x).toUInt32 >>> ((Int32.ofInt y).toUInt32 &&& Int32.toUInt32 31)).toInt32.toInt
def m_land (x y : Int) : Int := (Int64.ofInt x &&& Int64.ofInt y).toInt
def m_lor (x y : Int) : Int := (Int64.ofInt x ||| Int64.ofInt y).toInt
def m_lxor (x y : Int) : Int := (Int64.ofInt x ^^^ Int64.ofInt y).toInt
def m_lshl (x y : Int) : Int := (Int64.ofInt x <<< ((Int32.ofInt y).toInt64 &&& 63)).toInt
def m_lushr (x y : Int) : Int := ((Int64.ofInt x).toUInt64 >>> ((Int32.ofInt y).toInt64.toUInt64 &&& Int64.toUInt64 63)).toInt64.toInt
def m_cmp (x y : Int) : Int := if x > y then 1 else if x = y then 0 else -1
def m_i2b (x : Int) : Int := x.bmod (2 ^ 8)
/-- the locals: storing one slot, storing two -/
def m_long (v : Option MV) : Bool := match v with
  | some (.inl (.inr _)) => true
  | _ => false
def m_st1 (L : List (Option MV)) (i : Nat) (v : MV) : List (Option MV) := match i with
  | 0 => L.set 0 (some v)
  | i + 1 => if m_long (L.getD i none) then (L.set i none).set (i + 1) (some v) else L.set (i + 1) (some v)
def m_st2 (L : List (Option MV)) (i : Nat) (v : MV) : List (Option MV) := (m_st1 L i v).set (i + 1) none
/-- how many words a stack takes; what may be handed to a method -/
def m_w : List MV → Nat
  | [] => 0
  | .inl (.inr _) :: S => 2 + m_w S
  | _ :: S => 1 + m_w S
def m_plain (v : MV) : Bool := match v with
  | .inr (.inr _) => false
  | _ => true
def m_in (i : Int) (n : Nat) : Bool := decide (0 ≤ i) && decide (i < n)
/-- a field's type: 0 an int, 1 a boolean, 2 a long, 3 a reference -/
def m_ty (t : FieldType) : Nat := match t with
  | .int => 0
  | .boolean => 1
  | .long => 2
  | .object _ => 3
  | .array _ => 3
  | _ => 4
def m_tys : List (Nat → FieldType) := [tyX0, tyX1, tyX2, tyX3, tyX4, tyX5, tyX6, tyX7, tyX8, tyX9, tyX10, tyX11, tyX12]
def m_fty (ci j : Nat) : Nat := match m_tys[ci]? with
  | some t => m_ty (t j)
  | none => 4
/-- an instruction that neither jumps nor calls nor ends -/
def m_one (x : Option (Nat × (Nat → Int))) (i : Instr) (d : ML) (L : List (Option MV)) (S : List MV) (h : MH) : Option (List (Option MV) × List MV × MH) :=
  match i with
  | .iconst n => some (L, mI n :: S, h)
  | .bipush n => some (L, mI n :: S, h)
  | .sipush n => some (L, mI n :: S, h)
  | .ldc _ => if d.1 = 1 then some (L, mS d.2.1 :: S, h) else some (L, mI d.2.2.1 :: S, h)
  | .ldc_w _ => if d.1 = 1 then some (L, mS d.2.1 :: S, h) else some (L, mI d.2.2.1 :: S, h)
  | .ldc2_w _ => some (L, mJ d.2.2.1 :: S, h)
  | .lconst n => some (L, mJ (n : Nat) :: S, h)
  | .iload n => match L[n]? with
    | some (some (.inl (.inl z))) => some (L, mI z :: S, h)
    | _ => none
  | .iload_n n => match L[(n : Nat)]? with
    | some (some (.inl (.inl z))) => some (L, mI z :: S, h)
    | _ => none
  | .lload n => match L[n]? with
    | some (some (.inl (.inr z))) => some (L, mJ z :: S, h)
    | _ => none
  | .lload_n n => match L[(n : Nat)]? with
    | some (some (.inl (.inr z))) => some (L, mJ z :: S, h)
    | _ => none
  | .aload n => match L[n]? with
    | some (some (.inr (.inl (some k)))) => some (L, mR k :: S, h)
    | some (some (.inr (.inr k))) => some (L, mS k :: S, h)
    | _ => none
  | .aload_n n => match L[(n : Nat)]? with
    | some (some (.inr (.inl (some k)))) => some (L, mR k :: S, h)
    | some (some (.inr (.inr k))) => some (L, mS k :: S, h)
    | _ => none
  | .istore n => match S with
    | .inl (.inl z) :: S => if n < L.length then some (m_st1 L n (mI z), S, h) else none
    | _ => none
  | .istore_n n => match S with
    | .inl (.inl z) :: S => if (n : Nat) < L.length then some (m_st1 L n (mI z), S, h) else none
    | _ => none
  | .lstore n => match S with
    | .inl (.inr z) :: S => if n + 1 < L.length then some (m_st2 L n (mJ z), S, h) else none
    | _ => none
  | .lstore_n n => match S with
    | .inl (.inr z) :: S => if (n : Nat) + 1 < L.length then some (m_st2 L n (mJ z), S, h) else none
    | _ => none
  | .astore n => match S with
    | .inr (.inl (some k)) :: S => if n < L.length then some (m_st1 L n (mR k), S, h) else none
    | _ => none
  | .astore_n n => match S with
    | .inr (.inl (some k)) :: S => if (n : Nat) < L.length then some (m_st1 L n (mR k), S, h) else none
    | _ => none
  | .iinc n c => match L[n]? with
    | some (some (.inl (.inl z))) => some (m_st1 L n (mI (w32 (z + c))), S, h)
    | _ => none
  | .iadd => match S with
    | .inl (.inl y) :: .inl (.inl u) :: S => some (L, mI (w32 (u + y)) :: S, h)
    | _ => none
  | .isub => match S with
    | .inl (.inl y) :: .inl (.inl u) :: S => some (L, mI (w32 (u - y)) :: S, h)
    | _ => none
  | .imul => match S with
    | .inl (.inl y) :: .inl (.inl u) :: S => some (L, mI (w32 (u * y)) :: S, h)
    | _ => none
  | .idiv => match S with
    | .inl (.inl y) :: .inl (.inl u) :: S => if y = 0 then none else some (L, mI (w32 (u.tdiv y)) :: S, h)
    | _ => none
  | .irem => match S with
    | .inl (.inl y) :: .inl (.inl u) :: S => if y = 0 then none else some (L, mI (u.tmod y) :: S, h)
    | _ => none
  | .ineg => match S with
    | .inl (.inl x) :: S => some (L, mI (w32 (-x)) :: S, h)
    | _ => none
  | .iand => match S with
    | .inl (.inl y) :: .inl (.inl u) :: S => some (L, mI (m_and u y) :: S, h)
    | _ => none
  | .ior => match S with
    | .inl (.inl y) :: .inl (.inl u) :: S => some (L, mI (m_or u y) :: S, h)
    | _ => none
  | .ixor => match S with
    | .inl (.inl y) :: .inl (.inl u) :: S => some (L, mI (m_xor u y) :: S, h)
    | _ => none
  | .ishl => match S with
    | .inl (.inl y) :: .inl (.inl u) :: S => some (L, mI (m_shl u y) :: S, h)
    | _ => none
  | .ishr => match S with
    | .inl (.inl y) :: .inl (.inl u) :: S => some (L, mI (m_shr u y) :: S, h)
    | _ => none
  | .iushr => match S with
    | .inl (.inl y) :: .inl (.inl u) :: S => some (L, mI (m_ushr u y) :: S, h)
    | _ => none
  | .i2l => match S with
    | .inl (.inl x) :: S => some (L, mJ x :: S, h)
    | _ => none
  | .i2b => match S with
    | .inl (.inl x) :: S => some (L, mI (m_i2b x) :: S, h)
    | _ => none
  | .land => match S with
    | .inl (.inr y) :: .inl (.inr x) :: S => some (L, mJ (m_land x y) :: S, h)
    | _ => none
  | .lor => match S with
    | .inl (.inr y) :: .inl (.inr x) :: S => some (L, mJ (m_lor x y) :: S, h)
    | _ => none
  | .lxor => match S with
    | .inl (.inr y) :: .inl (.inr x) :: S => some (L, mJ (m_lxor x y) :: S, h)
    | _ => none
  | .lshl => match S with
    | .inl (.inl y) :: .inl (.inr x) :: S => some (L, mJ (m_lshl x y) :: S, h)
    | _ => none
  | .lushr => match S with
    | .inl (.inl y) :: .inl (.inr x) :: S => some (L, mJ (m_lushr x y) :: S, h)
    | _ => none
  | .lcmp => match S with
    | .inl (.inr y) :: .inl (.inr x) :: S => some (L, mI (m_cmp x y) :: S, h)
    | _ => none
  | .dup => match S with
    | .inl (.inl x) :: S => some (L, mI x :: mI x :: S, h)
    | .inr x :: S => some (L, .inr x :: .inr x :: S, h)
    | _ => none
  | .dup2 => match S with
    | .inl (.inl x) :: .inl (.inl y) :: S => some (L, mI x :: mI y :: mI x :: mI y :: S, h)
    | .inl (.inl x) :: .inr y :: S => some (L, mI x :: .inr y :: mI x :: .inr y :: S, h)
    | _ => none
  | .pop => match S with
    | .inl (.inl _) :: S => some (L, S, h)
    | .inr _ :: S => some (L, S, h)
    | _ => none
  | .getfield _ => match S with
    | .inr (.inl (some k)) :: S => match (mh_k h)[k]? with
      | some (ci, n) => if ci = d.1 ∧ ci < 100 ∧ d.2.1 < n then
          (match m_fty d.1 d.2.1 with
          | 0 => some (L, mI (mh_m h k d.2.1) :: S, h)
          | 1 => some (L, mI (mh_m h k d.2.1) :: S, h)
          | 2 => some (L, mJ (mh_m h k d.2.1) :: S, h)
          | 3 => some (L, .inr (.inl (mh_r h k d.2.1)) :: S, h)
          | _ => none) else none
      | none => none
    | _ => none
  | .putfield _ => match S with
    | .inl (.inl z) :: .inr (.inl (some k)) :: S => match (mh_k h)[k]? with
      | some (ci, n) => if ci = d.1 ∧ ci < 100 ∧ d.2.1 < n ∧ (m_fty d.1 d.2.1 = 0 ∨ m_fty d.1 d.2.1 = 1 ∧ (z = 0 ∨ z = 1)) then some (L, S, (mh_k h, m_set (mh_m h) k d.2.1 z, mh_r h, mh_c h, mh_s h)) else none
      | none => none
    | .inl (.inr z) :: .inr (.inl (some k)) :: S => match (mh_k h)[k]? with
      | some (ci, n) => if ci = d.1 ∧ ci < 100 ∧ d.2.1 < n ∧ m_fty d.1 d.2.1 = 2 then some (L, S, (mh_k h, m_set (mh_m h) k d.2.1 z, mh_r h, mh_c h, mh_s h)) else none
      | none => none
    | .inr (.inl (some v)) :: .inr (.inl (some k)) :: S => match (mh_k h)[k]? with
      | some (ci, n) => if ci = d.1 ∧ ci < 100 ∧ d.2.1 < n ∧ m_fty d.1 d.2.1 = 3 then some (L, S, (mh_k h, mh_m h, m_set (mh_r h) k d.2.1 (some v), mh_c h, mh_s h)) else none
      | none => none
    | _ => none
  | .iaload => match S with
    | .inl (.inl i) :: .inr (.inr 0) :: S => match x with
      | some q => if m_in i q.1 then some (L, mI (q.2 i.toNat) :: S, h) else none
      | none => none
    | .inl (.inl i) :: .inr (.inl (some k)) :: S => match (mh_k h)[k]? with
      | some (t, n) => if t = 100 ∧ m_in i n then some (L, mI (mh_m h k i.toNat) :: S, h) else none
      | none => none
    | _ => none
  | .baload => match S with
    | .inl (.inl i) :: .inr (.inl (some k)) :: S => match (mh_k h)[k]? with
      | some (t, n) => if (t = 101 ∨ t = 102) ∧ m_in i n then some (L, mI (mh_m h k i.toNat) :: S, h) else none
      | none => none
    | _ => none
  | .laload => match S with
    | .inl (.inl i) :: .inr (.inl (some k)) :: S => match (mh_k h)[k]? with
      | some (t, n) => if t = 103 ∧ m_in i n then some (L, mJ (mh_m h k i.toNat) :: S, h) else none
      | none => none
    | _ => none
  | .aaload => match S with
    | .inl (.inl i) :: .inr (.inl (some k)) :: S => match (mh_k h)[k]? with
      | some (t, n) => if 104 ≤ t ∧ m_in i n then some (L, .inr (.inl (mh_r h k i.toNat)) :: S, h) else none
      | none => none
    | _ => none
  | .arraylength => match S with
    | .inr (.inr 0) :: S => match x with
      | some q => if q.1 < 2 ^ 31 then some (L, mI q.1 :: S, h) else none
      | none => none
    | .inr (.inl (some k)) :: S => match (mh_k h)[k]? with
      | some (t, n) => if 100 ≤ t ∧ n < 2 ^ 31 then some (L, mI n :: S, h) else none
      | none => none
    | _ => none
  | .iastore => match S with
    | .inl (.inl z) :: .inl (.inl i) :: .inr (.inl (some k)) :: S => match (mh_k h)[k]? with
      | some (t, n) => if t = 100 ∧ m_in i n then some (L, S, (mh_k h, m_set (mh_m h) k i.toNat z, mh_r h, mh_c h, mh_s h)) else none
      | none => none
    | _ => none
  | .bastore => match S with
    | .inl (.inl z) :: .inl (.inl i) :: .inr (.inl (some k)) :: S => match (mh_k h)[k]? with
      | some (t, n) => if t = 101 ∧ m_in i n then some (L, S, (mh_k h, m_set (mh_m h) k i.toNat (m_i2b z), mh_r h, mh_c h, mh_s h))
          else if t = 102 ∧ m_in i n ∧ (z = 0 ∨ z = 1) then some (L, S, (mh_k h, m_set (mh_m h) k i.toNat z, mh_r h, mh_c h, mh_s h)) else none
      | none => none
    | _ => none
  | .lastore => match S with
    | .inl (.inr z) :: .inl (.inl i) :: .inr (.inl (some k)) :: S => match (mh_k h)[k]? with
      | some (t, n) => if t = 103 ∧ m_in i n then some (L, S, (mh_k h, m_set (mh_m h) k i.toNat z, mh_r h, mh_c h, mh_s h)) else none
      | none => none
    | _ => none
  | .aastore => match S with
    | .inr (.inl (some v)) :: .inl (.inl i) :: .inr (.inl (some k)) :: S => match (mh_k h)[k]?, (mh_k h)[v]? with
      | some (t, n), some (ci, _) => if t = 104 + ci ∧ ci < 100 ∧ m_in i n then some (L, S, (mh_k h, mh_m h, m_set (mh_r h) k i.toNat (some v), mh_c h, mh_s h)) else none
      | _, _ => none
    | _ => none
  | .newarray _ => match S with
    | .inl (.inl z) :: S => if 100 ≤ d.1 ∧ d.1 ≤ 103 ∧ 0 ≤ z ∧ z < 1000000 then some (L, mR (mh_k h).length :: S, (mh_k h ++ [(d.1, z.toNat)], (fun a j => if a = (mh_k h).length then 0 else mh_m h a j), mh_r h, mh_c h + 1, mh_s h + z.toNat)) else none
    | _ => none
  | .anewarray _ => match S with
    | .inl (.inl z) :: S => if d.1 < 100 ∧ 0 ≤ z ∧ z < 1000000 then some (L, mR (mh_k h).length :: S, (mh_k h ++ [(104 + d.1, z.toNat)], mh_m h, (fun a j => if a = (mh_k h).length then none else mh_r h a j), mh_c h + 1, mh_s h + z.toNat)) else none
    | _ => none
  | .new _ => match vwCl[d.1]? with
    | some q => if d.1 < 100 then some (L, mR (mh_k h).length :: S, (mh_k h ++ [(d.1, q.2.2)], (fun a j => if a = (mh_k h).length then 0 else mh_m h a j), (fun a j => if a = (mh_k h).length then none else mh_r h a j), mh_c h + 1, mh_s h + q.2.2)) else none
    | none => none
  | _ => none
