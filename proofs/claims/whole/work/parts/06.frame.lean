/-! ===== the frame's instructions ===== -/
section FRAME
variable {p : Program} {l : Launch} {e : Env} {R : Room} {s : State} {m : MethodId} {args : Array Value} {below : List Frame} {meth : Method} {c : Code} {Q : State → Prop} {D : va_G} {A : Nat → Prop} {sp : Nat → Nat} {w0 : va_W} {nL nc0 ns0 : Nat} {cc : ByteArray} {pc : Nat} {L L' : List (Option MV)} {S S' : List MV} {h h' : MH} {x : MX} {d : ML}
theorem sn_iadd (hx : p.tables.exec = Jvm.exec) (hb : c.code = cc) (hdg : decode cc pc = .ok (.iadd, 1)) (hm : m_one x (.iadd) d L S h = some (L', S', h')) (kk : WW p l e R s m args below meth c Q D A sp w0 nL nc0 ns0 (pc + 1) L' S' h') : WW p l e R s m args below meth c Q D A sp w0 nL nc0 ns0 pc L S h := by
  unfold m_one at hm
  dsimp only at hm
  split at hm
  · cases hm
    intro H locs cells slots ls st ⟨ws, tys, hK, hP, hD, hS, hE, hH, hL, hSt, hc, hs⟩
    obtain ⟨v1, st1, rfl, ⟨y', rfl, rfl⟩, v2, st2, rfl, ⟨u', rfl, rfl⟩, hSt⟩ := hSt
    exact lv_iadd hx hb hdg (kk _ _ _ _ _ _ ⟨ws, tys, hK, hP, hD, hS, hE, hH, hL, ⟨_, _, rfl, ⟨_, rfl, by rw [Int32.toInt_add]; rfl⟩, hSt⟩, hc, hs⟩)
  · cases hm
theorem sn_isub (hx : p.tables.exec = Jvm.exec) (hb : c.code = cc) (hdg : decode cc pc = .ok (.isub, 1)) (hm : m_one x (.isub) d L S h = some (L', S', h')) (kk : WW p l e R s m args below meth c Q D A sp w0 nL nc0 ns0 (pc + 1) L' S' h') : WW p l e R s m args below meth c Q D A sp w0 nL nc0 ns0 pc L S h := by
  unfold m_one at hm
  dsimp only at hm
  split at hm
  · cases hm
    intro H locs cells slots ls st ⟨ws, tys, hK, hP, hD, hS, hE, hH, hL, hSt, hc, hs⟩
    obtain ⟨v1, st1, rfl, ⟨y', rfl, rfl⟩, v2, st2, rfl, ⟨u', rfl, rfl⟩, hSt⟩ := hSt
    exact lv_isub hx hb hdg (kk _ _ _ _ _ _ ⟨ws, tys, hK, hP, hD, hS, hE, hH, hL, ⟨_, _, rfl, ⟨_, rfl, by rw [Int32.toInt_sub]; rfl⟩, hSt⟩, hc, hs⟩)
  · cases hm
theorem sn_imul (hx : p.tables.exec = Jvm.exec) (hb : c.code = cc) (hdg : decode cc pc = .ok (.imul, 1)) (hm : m_one x (.imul) d L S h = some (L', S', h')) (kk : WW p l e R s m args below meth c Q D A sp w0 nL nc0 ns0 (pc + 1) L' S' h') : WW p l e R s m args below meth c Q D A sp w0 nL nc0 ns0 pc L S h := by
  unfold m_one at hm
  dsimp only at hm
  split at hm
  · cases hm
    intro H locs cells slots ls st ⟨ws, tys, hK, hP, hD, hS, hE, hH, hL, hSt, hc, hs⟩
    obtain ⟨v1, st1, rfl, ⟨y', rfl, rfl⟩, v2, st2, rfl, ⟨u', rfl, rfl⟩, hSt⟩ := hSt
    exact lv_imul hx hb hdg (kk _ _ _ _ _ _ ⟨ws, tys, hK, hP, hD, hS, hE, hH, hL, ⟨_, _, rfl, ⟨_, rfl, by rw [Int32.toInt_mul]; rfl⟩, hSt⟩, hc, hs⟩)
  · cases hm
theorem sn_iand (hx : p.tables.exec = Jvm.exec) (hb : c.code = cc) (hdg : decode cc pc = .ok (.iand, 1)) (hm : m_one x (.iand) d L S h = some (L', S', h')) (kk : WW p l e R s m args below meth c Q D A sp w0 nL nc0 ns0 (pc + 1) L' S' h') : WW p l e R s m args below meth c Q D A sp w0 nL nc0 ns0 pc L S h := by
  unfold m_one at hm
  dsimp only at hm
  split at hm
  · cases hm
    intro H locs cells slots ls st ⟨ws, tys, hK, hP, hD, hS, hE, hH, hL, hSt, hc, hs⟩
    obtain ⟨v1, st1, rfl, ⟨y', rfl, rfl⟩, v2, st2, rfl, ⟨u', rfl, rfl⟩, hSt⟩ := hSt
    exact lv_iand hx hb hdg (kk _ _ _ _ _ _ ⟨ws, tys, hK, hP, hD, hS, hE, hH, hL, ⟨_, _, rfl, ⟨_, rfl, by simp only [m_and, Int32.ofInt_toInt]⟩, hSt⟩, hc, hs⟩)
  · cases hm
theorem sn_ior (hx : p.tables.exec = Jvm.exec) (hb : c.code = cc) (hdg : decode cc pc = .ok (.ior, 1)) (hm : m_one x (.ior) d L S h = some (L', S', h')) (kk : WW p l e R s m args below meth c Q D A sp w0 nL nc0 ns0 (pc + 1) L' S' h') : WW p l e R s m args below meth c Q D A sp w0 nL nc0 ns0 pc L S h := by
  unfold m_one at hm
  dsimp only at hm
  split at hm
  · cases hm
    intro H locs cells slots ls st ⟨ws, tys, hK, hP, hD, hS, hE, hH, hL, hSt, hc, hs⟩
    obtain ⟨v1, st1, rfl, ⟨y', rfl, rfl⟩, v2, st2, rfl, ⟨u', rfl, rfl⟩, hSt⟩ := hSt
    exact lv_ior hx hb hdg (kk _ _ _ _ _ _ ⟨ws, tys, hK, hP, hD, hS, hE, hH, hL, ⟨_, _, rfl, ⟨_, rfl, by simp only [m_or, Int32.ofInt_toInt]⟩, hSt⟩, hc, hs⟩)
  · cases hm
theorem sn_ixor (hx : p.tables.exec = Jvm.exec) (hb : c.code = cc) (hdg : decode cc pc = .ok (.ixor, 1)) (hm : m_one x (.ixor) d L S h = some (L', S', h')) (kk : WW p l e R s m args below meth c Q D A sp w0 nL nc0 ns0 (pc + 1) L' S' h') : WW p l e R s m args below meth c Q D A sp w0 nL nc0 ns0 pc L S h := by
  unfold m_one at hm
  dsimp only at hm
  split at hm
  · cases hm
    intro H locs cells slots ls st ⟨ws, tys, hK, hP, hD, hS, hE, hH, hL, hSt, hc, hs⟩
    obtain ⟨v1, st1, rfl, ⟨y', rfl, rfl⟩, v2, st2, rfl, ⟨u', rfl, rfl⟩, hSt⟩ := hSt
    exact lv_ixor hx hb hdg (kk _ _ _ _ _ _ ⟨ws, tys, hK, hP, hD, hS, hE, hH, hL, ⟨_, _, rfl, ⟨_, rfl, by simp only [m_xor, Int32.ofInt_toInt]⟩, hSt⟩, hc, hs⟩)
  · cases hm
theorem sn_ishl (hx : p.tables.exec = Jvm.exec) (hb : c.code = cc) (hdg : decode cc pc = .ok (.ishl, 1)) (hm : m_one x (.ishl) d L S h = some (L', S', h')) (kk : WW p l e R s m args below meth c Q D A sp w0 nL nc0 ns0 (pc + 1) L' S' h') : WW p l e R s m args below meth c Q D A sp w0 nL nc0 ns0 pc L S h := by
  unfold m_one at hm
  dsimp only at hm
  split at hm
  · cases hm
    intro H locs cells slots ls st ⟨ws, tys, hK, hP, hD, hS, hE, hH, hL, hSt, hc, hs⟩
    obtain ⟨v1, st1, rfl, ⟨y', rfl, rfl⟩, v2, st2, rfl, ⟨u', rfl, rfl⟩, hSt⟩ := hSt
    exact lv_ishl hx hb hdg (kk _ _ _ _ _ _ ⟨ws, tys, hK, hP, hD, hS, hE, hH, hL, ⟨_, _, rfl, ⟨_, rfl, by simp only [m_shl, Int32.ofInt_toInt]⟩, hSt⟩, hc, hs⟩)
  · cases hm
theorem sn_ishr (hx : p.tables.exec = Jvm.exec) (hb : c.code = cc) (hdg : decode cc pc = .ok (.ishr, 1)) (hm : m_one x (.ishr) d L S h = some (L', S', h')) (kk : WW p l e R s m args below meth c Q D A sp w0 nL nc0 ns0 (pc + 1) L' S' h') : WW p l e R s m args below meth c Q D A sp w0 nL nc0 ns0 pc L S h := by
  unfold m_one at hm
  dsimp only at hm
  split at hm
  · cases hm
    intro H locs cells slots ls st ⟨ws, tys, hK, hP, hD, hS, hE, hH, hL, hSt, hc, hs⟩
    obtain ⟨v1, st1, rfl, ⟨y', rfl, rfl⟩, v2, st2, rfl, ⟨u', rfl, rfl⟩, hSt⟩ := hSt
    exact lv_ishr hx hb hdg (kk _ _ _ _ _ _ ⟨ws, tys, hK, hP, hD, hS, hE, hH, hL, ⟨_, _, rfl, ⟨_, rfl, by simp only [m_shr, Int32.ofInt_toInt]⟩, hSt⟩, hc, hs⟩)
  · cases hm
theorem sn_iushr (hx : p.tables.exec = Jvm.exec) (hb : c.code = cc) (hdg : decode cc pc = .ok (.iushr, 1)) (hm : m_one x (.iushr) d L S h = some (L', S', h')) (kk : WW p l e R s m args below meth c Q D A sp w0 nL nc0 ns0 (pc + 1) L' S' h') : WW p l e R s m args below meth c Q D A sp w0 nL nc0 ns0 pc L S h := by
  unfold m_one at hm
  dsimp only at hm
  split at hm
  · cases hm
    intro H locs cells slots ls st ⟨ws, tys, hK, hP, hD, hS, hE, hH, hL, hSt, hc, hs⟩
    obtain ⟨v1, st1, rfl, ⟨y', rfl, rfl⟩, v2, st2, rfl, ⟨u', rfl, rfl⟩, hSt⟩ := hSt
    exact lv_iushr hx hb hdg rfl (kk _ _ _ _ _ _ ⟨ws, tys, hK, hP, hD, hS, hE, hH, hL, ⟨_, _, rfl, ⟨_, rfl, by simp only [m_ushr, Int32.ofInt_toInt]⟩, hSt⟩, hc, hs⟩)
  · cases hm
theorem sn_idiv (hx : p.tables.exec = Jvm.exec) (hb : c.code = cc) (hdg : decode cc pc = .ok (.idiv, 1)) (hm : m_one x (.idiv) d L S h = some (L', S', h')) (kk : WW p l e R s m args below meth c Q D A sp w0 nL nc0 ns0 (pc + 1) L' S' h') : WW p l e R s m args below meth c Q D A sp w0 nL nc0 ns0 pc L S h := by
  unfold m_one at hm
  dsimp only at hm
  split at hm
  · split at hm
    · cases hm
    · next hy =>
      cases hm
      intro H locs cells slots ls st ⟨ws, tys, hK, hP, hD, hS, hE, hH, hL, hSt, hc, hs⟩
      obtain ⟨v1, st1, rfl, ⟨y', rfl, rfl⟩, v2, st2, rfl, ⟨u', rfl, rfl⟩, hSt⟩ := hSt
      exact lv_idiv hx hb hdg (fun q => hy (by rw [q]; rfl)) (kk _ _ _ _ _ _ ⟨ws, tys, hK, hP, hD, hS, hE, hH, hL, ⟨_, _, rfl, ⟨_, rfl, by rw [Int32.toInt_div]; rfl⟩, hSt⟩, hc, hs⟩)
  · cases hm
theorem m_rem_ok (u y : Int32) : (u - u / y * y).toInt = u.toInt.tmod y.toInt := by
  have h1 : u - u / y * y = u % y := by
    rw [← Int32.toInt_inj, Int32.toInt_mod, Int32.toInt_sub, Int32.toInt_mul, Int32.toInt_div]
    have h2 : u.toInt.tmod y.toInt = u.toInt - y.toInt * u.toInt.tdiv y.toInt := Int.tmod_def _ _
    have h3 : (u.toInt.tmod y.toInt).bmod (2 ^ 32) = u.toInt.tmod y.toInt := by
      have := (u % y).toInt_lt
      have := (u % y).le_toInt
      rw [Int32.toInt_mod] at *
      exact Int.bmod_eq_of_le (by omega) (by omega)
    rw [← h3, h2]
    rw [Int.bmod_mul_bmod, Int.sub_bmod_bmod, Int.mul_comm y.toInt]
  rw [h1, Int32.toInt_mod]
theorem sn_irem (hx : p.tables.exec = Jvm.exec) (hb : c.code = cc) (hdg : decode cc pc = .ok (.irem, 1)) (hm : m_one x (.irem) d L S h = some (L', S', h')) (kk : WW p l e R s m args below meth c Q D A sp w0 nL nc0 ns0 (pc + 1) L' S' h') : WW p l e R s m args below meth c Q D A sp w0 nL nc0 ns0 pc L S h := by
  unfold m_one at hm
  dsimp only at hm
  split at hm
  · split at hm
    · cases hm
    · next hy =>
      cases hm
      intro H locs cells slots ls st ⟨ws, tys, hK, hP, hD, hS, hE, hH, hL, hSt, hc, hs⟩
      obtain ⟨v1, st1, rfl, ⟨y', rfl, rfl⟩, v2, st2, rfl, ⟨u', rfl, rfl⟩, hSt⟩ := hSt
      exact lv_irem hx hb hdg (fun q => hy (by rw [q]; rfl)) (kk _ _ _ _ _ _ ⟨ws, tys, hK, hP, hD, hS, hE, hH, hL, ⟨_, _, rfl, ⟨_, rfl, m_rem_ok u' y'⟩, hSt⟩, hc, hs⟩)
  · cases hm
theorem sn_ineg (hx : p.tables.exec = Jvm.exec) (hb : c.code = cc) (hdg : decode cc pc = .ok (.ineg, 1)) (hm : m_one x (.ineg) d L S h = some (L', S', h')) (kk : WW p l e R s m args below meth c Q D A sp w0 nL nc0 ns0 (pc + 1) L' S' h') : WW p l e R s m args below meth c Q D A sp w0 nL nc0 ns0 pc L S h := by
  unfold m_one at hm
  dsimp only at hm
  split at hm
  · cases hm
    intro H locs cells slots ls st ⟨ws, tys, hK, hP, hD, hS, hE, hH, hL, hSt, hc, hs⟩
    obtain ⟨v1, st1, rfl, ⟨y', rfl, rfl⟩, hSt⟩ := hSt
    exact lv_ineg hx hb hdg (kk _ _ _ _ _ _ ⟨ws, tys, hK, hP, hD, hS, hE, hH, hL, ⟨_, _, rfl, ⟨_, rfl, by rw [Int32.toInt_neg]; rfl⟩, hSt⟩, hc, hs⟩)
  · cases hm
theorem sn_i2l (hx : p.tables.exec = Jvm.exec) (hb : c.code = cc) (hdg : decode cc pc = .ok (.i2l, 1)) (hm : m_one x (.i2l) d L S h = some (L', S', h')) (kk : WW p l e R s m args below meth c Q D A sp w0 nL nc0 ns0 (pc + 1) L' S' h') : WW p l e R s m args below meth c Q D A sp w0 nL nc0 ns0 pc L S h := by
  unfold m_one at hm
  dsimp only at hm
  split at hm
  · cases hm
    intro H locs cells slots ls st ⟨ws, tys, hK, hP, hD, hS, hE, hH, hL, hSt, hc, hs⟩
    obtain ⟨v1, st1, rfl, ⟨y', rfl, rfl⟩, hSt⟩ := hSt
    exact lv_i2l hx hb hdg rfl (kk _ _ _ _ _ _ ⟨ws, tys, hK, hP, hD, hS, hE, hH, hL, ⟨_, _, rfl, ⟨_, rfl, by rw [Int32.toInt_toInt64]⟩, hSt⟩, hc, hs⟩)
  · cases hm
theorem sn_i2b (hx : p.tables.exec = Jvm.exec) (hb : c.code = cc) (hdg : decode cc pc = .ok (.i2b, 1)) (hm : m_one x (.i2b) d L S h = some (L', S', h')) (kk : WW p l e R s m args below meth c Q D A sp w0 nL nc0 ns0 (pc + 1) L' S' h') : WW p l e R s m args below meth c Q D A sp w0 nL nc0 ns0 pc L S h := by
  unfold m_one at hm
  dsimp only at hm
  split at hm
  · cases hm
    intro H locs cells slots ls st ⟨ws, tys, hK, hP, hD, hS, hE, hH, hL, hSt, hc, hs⟩
    obtain ⟨v1, st1, rfl, ⟨y', rfl, rfl⟩, hSt⟩ := hSt
    exact lv_i2b hx hb hdg rfl (kk _ _ _ _ _ _ ⟨ws, tys, hK, hP, hD, hS, hE, hH, hL, ⟨_, _, rfl, ⟨_, rfl, by rw [Int8.toInt_toInt32, Int32.toInt_toInt8]; rfl⟩, hSt⟩, hc, hs⟩)
  · cases hm
theorem sn_land (hx : p.tables.exec = Jvm.exec) (hb : c.code = cc) (hdg : decode cc pc = .ok (.land, 1)) (hm : m_one x (.land) d L S h = some (L', S', h')) (kk : WW p l e R s m args below meth c Q D A sp w0 nL nc0 ns0 (pc + 1) L' S' h') : WW p l e R s m args below meth c Q D A sp w0 nL nc0 ns0 pc L S h := by
  unfold m_one at hm
  dsimp only at hm
  split at hm
  · cases hm
    intro H locs cells slots ls st ⟨ws, tys, hK, hP, hD, hS, hE, hH, hL, hSt, hc, hs⟩
    obtain ⟨v1, st1, rfl, ⟨y', rfl, rfl⟩, v2, st2, rfl, ⟨u', rfl, rfl⟩, hSt⟩ := hSt
    exact lv_land hx hb hdg (kk _ _ _ _ _ _ ⟨ws, tys, hK, hP, hD, hS, hE, hH, hL, ⟨_, _, rfl, ⟨_, rfl, by simp only [m_land, Int64.ofInt_toInt]⟩, hSt⟩, hc, hs⟩)
  · cases hm
theorem sn_lor (hx : p.tables.exec = Jvm.exec) (hb : c.code = cc) (hdg : decode cc pc = .ok (.lor, 1)) (hm : m_one x (.lor) d L S h = some (L', S', h')) (kk : WW p l e R s m args below meth c Q D A sp w0 nL nc0 ns0 (pc + 1) L' S' h') : WW p l e R s m args below meth c Q D A sp w0 nL nc0 ns0 pc L S h := by
  unfold m_one at hm
  dsimp only at hm
  split at hm
  · cases hm
    intro H locs cells slots ls st ⟨ws, tys, hK, hP, hD, hS, hE, hH, hL, hSt, hc, hs⟩
    obtain ⟨v1, st1, rfl, ⟨y', rfl, rfl⟩, v2, st2, rfl, ⟨u', rfl, rfl⟩, hSt⟩ := hSt
    exact lv_lor hx hb hdg (kk _ _ _ _ _ _ ⟨ws, tys, hK, hP, hD, hS, hE, hH, hL, ⟨_, _, rfl, ⟨_, rfl, by simp only [m_lor, Int64.ofInt_toInt]⟩, hSt⟩, hc, hs⟩)
  · cases hm
theorem sn_lxor (hx : p.tables.exec = Jvm.exec) (hb : c.code = cc) (hdg : decode cc pc = .ok (.lxor, 1)) (hm : m_one x (.lxor) d L S h = some (L', S', h')) (kk : WW p l e R s m args below meth c Q D A sp w0 nL nc0 ns0 (pc + 1) L' S' h') : WW p l e R s m args below meth c Q D A sp w0 nL nc0 ns0 pc L S h := by
  unfold m_one at hm
  dsimp only at hm
  split at hm
  · cases hm
    intro H locs cells slots ls st ⟨ws, tys, hK, hP, hD, hS, hE, hH, hL, hSt, hc, hs⟩
    obtain ⟨v1, st1, rfl, ⟨y', rfl, rfl⟩, v2, st2, rfl, ⟨u', rfl, rfl⟩, hSt⟩ := hSt
    exact lv_lxor hx hb hdg (kk _ _ _ _ _ _ ⟨ws, tys, hK, hP, hD, hS, hE, hH, hL, ⟨_, _, rfl, ⟨_, rfl, by simp only [m_lxor, Int64.ofInt_toInt]⟩, hSt⟩, hc, hs⟩)
  · cases hm
theorem sn_lshl (hx : p.tables.exec = Jvm.exec) (hb : c.code = cc) (hdg : decode cc pc = .ok (.lshl, 1)) (hm : m_one x (.lshl) d L S h = some (L', S', h')) (kk : WW p l e R s m args below meth c Q D A sp w0 nL nc0 ns0 (pc + 1) L' S' h') : WW p l e R s m args below meth c Q D A sp w0 nL nc0 ns0 pc L S h := by
  unfold m_one at hm
  dsimp only at hm
  split at hm
  · cases hm
    intro H locs cells slots ls st ⟨ws, tys, hK, hP, hD, hS, hE, hH, hL, hSt, hc, hs⟩
    obtain ⟨v1, st1, rfl, ⟨y', rfl, rfl⟩, v2, st2, rfl, ⟨u', rfl, rfl⟩, hSt⟩ := hSt
    exact lv_lshl hx hb hdg rfl (kk _ _ _ _ _ _ ⟨ws, tys, hK, hP, hD, hS, hE, hH, hL, ⟨_, _, rfl, ⟨_, rfl, by simp only [m_lshl, Int64.ofInt_toInt, Int32.ofInt_toInt]⟩, hSt⟩, hc, hs⟩)
  · cases hm
theorem sn_lushr (hx : p.tables.exec = Jvm.exec) (hb : c.code = cc) (hdg : decode cc pc = .ok (.lushr, 1)) (hm : m_one x (.lushr) d L S h = some (L', S', h')) (kk : WW p l e R s m args below meth c Q D A sp w0 nL nc0 ns0 (pc + 1) L' S' h') : WW p l e R s m args below meth c Q D A sp w0 nL nc0 ns0 pc L S h := by
  unfold m_one at hm
  dsimp only at hm
  split at hm
  · cases hm
    intro H locs cells slots ls st ⟨ws, tys, hK, hP, hD, hS, hE, hH, hL, hSt, hc, hs⟩
    obtain ⟨v1, st1, rfl, ⟨y', rfl, rfl⟩, v2, st2, rfl, ⟨u', rfl, rfl⟩, hSt⟩ := hSt
    exact lv_lushr hx hb hdg rfl (kk _ _ _ _ _ _ ⟨ws, tys, hK, hP, hD, hS, hE, hH, hL, ⟨_, _, rfl, ⟨_, rfl, by simp only [m_lushr, Int64.ofInt_toInt, Int32.ofInt_toInt]⟩, hSt⟩, hc, hs⟩)
  · cases hm
theorem m_cmp_ok (u y : Int64) : (lg_cmp u y).toInt = m_cmp u.toInt y.toInt := by
  unfold lg_cmp m_cmp
  simp only [gt_iff_lt, Int64.lt_iff_toInt_lt, ← Int64.toInt_inj]
  split
  · rfl
  · split <;> rfl
theorem sn_lcmp (hx : p.tables.exec = Jvm.exec) (hb : c.code = cc) (hdg : decode cc pc = .ok (.lcmp, 1)) (hm : m_one x (.lcmp) d L S h = some (L', S', h')) (kk : WW p l e R s m args below meth c Q D A sp w0 nL nc0 ns0 (pc + 1) L' S' h') : WW p l e R s m args below meth c Q D A sp w0 nL nc0 ns0 pc L S h := by
  unfold m_one at hm
  dsimp only at hm
  split at hm
  · cases hm
    intro H locs cells slots ls st ⟨ws, tys, hK, hP, hD, hS, hE, hH, hL, hSt, hc, hs⟩
    obtain ⟨v1, st1, rfl, ⟨y', rfl, rfl⟩, v2, st2, rfl, ⟨u', rfl, rfl⟩, hSt⟩ := hSt
    exact W.lcmp hx hb hdg (kk _ _ _ _ _ _ ⟨ws, tys, hK, hP, hD, hS, hE, hH, hL, ⟨_, _, rfl, ⟨_, rfl, m_cmp_ok u' y'⟩, hSt⟩, hc, hs⟩)
  · cases hm
theorem sn_iconst {n : Int} (hx : p.tables.exec = Jvm.exec) (hb : c.code = cc) (hn : -2 ^ 31 ≤ n ∧ n < 2 ^ 31) (hdg : decode cc pc = .ok (.iconst n, 1)) (hm : m_one x (.iconst n) d L S h = some (L', S', h')) (kk : WW p l e R s m args below meth c Q D A sp w0 nL nc0 ns0 (pc + 1) L' S' h') : WW p l e R s m args below meth c Q D A sp w0 nL nc0 ns0 pc L S h := by
  unfold m_one at hm
  dsimp only at hm
  cases hm
  intro H locs cells slots ls st ⟨ws, tys, hK, hP, hD, hS, hE, hH, hL, hSt, hc, hs⟩
  exact lv_iconst hx hb hdg rfl (kk _ _ _ _ _ _ ⟨ws, tys, hK, hP, hD, hS, hE, hH, hL, ⟨_, _, rfl, ⟨_, rfl, Int32.toInt_ofInt_of_le hn.1 hn.2⟩, hSt⟩, hc, hs⟩)
theorem sn_bipush {n : Int} (hx : p.tables.exec = Jvm.exec) (hb : c.code = cc) (hn : -2 ^ 7 ≤ n ∧ n < 2 ^ 7) (hdg : decode cc pc = .ok (.bipush n, 2)) (hm : m_one x (.bipush n) d L S h = some (L', S', h')) (kk : WW p l e R s m args below meth c Q D A sp w0 nL nc0 ns0 (pc + 2) L' S' h') : WW p l e R s m args below meth c Q D A sp w0 nL nc0 ns0 pc L S h := by
  unfold m_one at hm
  dsimp only at hm
  cases hm
  intro H locs cells slots ls st ⟨ws, tys, hK, hP, hD, hS, hE, hH, hL, hSt, hc, hs⟩
  exact lv_bipush hx hb hdg rfl (kk _ _ _ _ _ _ ⟨ws, tys, hK, hP, hD, hS, hE, hH, hL, ⟨_, _, rfl, ⟨_, rfl, by rw [Int8.toInt_toInt32]; exact Int8.toInt_ofInt_of_le hn.1 hn.2⟩, hSt⟩, hc, hs⟩)
theorem sn_sipush {n : Int} (hx : p.tables.exec = Jvm.exec) (hb : c.code = cc) (hn : -2 ^ 15 ≤ n ∧ n < 2 ^ 15) (hdg : decode cc pc = .ok (.sipush n, 3)) (hm : m_one x (.sipush n) d L S h = some (L', S', h')) (kk : WW p l e R s m args below meth c Q D A sp w0 nL nc0 ns0 (pc + 3) L' S' h') : WW p l e R s m args below meth c Q D A sp w0 nL nc0 ns0 pc L S h := by
  unfold m_one at hm
  dsimp only at hm
  cases hm
  intro H locs cells slots ls st ⟨ws, tys, hK, hP, hD, hS, hE, hH, hL, hSt, hc, hs⟩
  exact lv_sipush hx hb hdg rfl (kk _ _ _ _ _ _ ⟨ws, tys, hK, hP, hD, hS, hE, hH, hL, ⟨_, _, rfl, ⟨_, rfl, by rw [Int16.toInt_toInt32]; exact Int16.toInt_ofInt_of_le hn.1 hn.2⟩, hSt⟩, hc, hs⟩)
theorem m_lconst_ok (n : Fin 2) : (Int64.ofNat (n : Nat)).toInt = ((n : Nat) : Int) := by
  match n with
  | 0 => rfl
  | 1 => rfl
theorem sn_lconst {n : Fin 2} (hx : p.tables.exec = Jvm.exec) (hb : c.code = cc) (hdg : decode cc pc = .ok (.lconst n, 1)) (hm : m_one x (.lconst n) d L S h = some (L', S', h')) (kk : WW p l e R s m args below meth c Q D A sp w0 nL nc0 ns0 (pc + 1) L' S' h') : WW p l e R s m args below meth c Q D A sp w0 nL nc0 ns0 pc L S h := by
  unfold m_one at hm
  dsimp only at hm
  cases hm
  intro H locs cells slots ls st ⟨ws, tys, hK, hP, hD, hS, hE, hH, hL, hSt, hc, hs⟩
  exact lv_lconst hx hb hdg rfl (kk _ _ _ _ _ _ ⟨ws, tys, hK, hP, hD, hS, hE, hH, hL, ⟨_, _, rfl, ⟨_, rfl, m_lconst_ok n⟩, hSt⟩, hc, hs⟩)
theorem sn_ldc {n : Nat} (hx : p.tables.exec = Jvm.exec) (hb : c.code = cc) {own : String} (hown : s.vm.findClass own = some m.cls) {v : Int32} (hd : ¬ d.1 = 1) (hk : (Jvm.Cond.constant own n v).before args s = true) (hv : v.toInt = d.2.2.1) (hdg : decode cc pc = .ok (.ldc n, 2)) (hm : m_one x (.ldc n) d L S h = some (L', S', h')) (kk : WW p l e R s m args below meth c Q D A sp w0 nL nc0 ns0 (pc + 2) L' S' h') : WW p l e R s m args below meth c Q D A sp w0 nL nc0 ns0 pc L S h := by
  unfold m_one at hm
  dsimp only at hm
  rw [if_neg hd] at hm
  cases hm
  intro H locs cells slots ls st ⟨ws, tys, hK, hP, hD, hS, hE, hH, hL, hSt, hc, hs⟩
  exact lv_ldc hx hb hown hk hdg (kk _ _ _ _ _ _ ⟨ws, tys, hK, hP, hD, hS, hE, hH, hL, ⟨_, _, rfl, ⟨_, rfl, hv⟩, hSt⟩, hc, hs⟩)
theorem sn_ldc_w {n : Nat} (hx : p.tables.exec = Jvm.exec) (hb : c.code = cc) {own : String} (hown : s.vm.findClass own = some m.cls) {v : Int32} (hd : ¬ d.1 = 1) (hk : (Jvm.Cond.constant own n v).before args s = true) (hv : v.toInt = d.2.2.1) (hdg : decode cc pc = .ok (.ldc_w n, 3)) (hm : m_one x (.ldc_w n) d L S h = some (L', S', h')) (kk : WW p l e R s m args below meth c Q D A sp w0 nL nc0 ns0 (pc + 3) L' S' h') : WW p l e R s m args below meth c Q D A sp w0 nL nc0 ns0 pc L S h := by
  unfold m_one at hm
  dsimp only at hm
  rw [if_neg hd] at hm
  cases hm
  intro H locs cells slots ls st ⟨ws, tys, hK, hP, hD, hS, hE, hH, hL, hSt, hc, hs⟩
  exact lv_ldcw hx hb hown hk hdg (kk _ _ _ _ _ _ ⟨ws, tys, hK, hP, hD, hS, hE, hH, hL, ⟨_, _, rfl, ⟨_, rfl, hv⟩, hSt⟩, hc, hs⟩)
theorem sn_ldc2_w {n : Nat} (hx : p.tables.exec = Jvm.exec) (hb : c.code = cc) {own : String} (hown : s.vm.findClass own = some m.cls) {v : Int64} (hk : (Jvm.Cond.constantLong own n v).before args s = true) (hv : v.toInt = d.2.2.1) (hdg : decode cc pc = .ok (.ldc2_w n, 3)) (hm : m_one x (.ldc2_w n) d L S h = some (L', S', h')) (kk : WW p l e R s m args below meth c Q D A sp w0 nL nc0 ns0 (pc + 3) L' S' h') : WW p l e R s m args below meth c Q D A sp w0 nL nc0 ns0 pc L S h := by
  unfold m_one at hm
  dsimp only at hm
  cases hm
  intro H locs cells slots ls st ⟨ws, tys, hK, hP, hD, hS, hE, hH, hL, hSt, hc, hs⟩
  exact lv_ldc2 hx hb hown hk hdg (kk _ _ _ _ _ _ ⟨ws, tys, hK, hP, hD, hS, hE, hH, hL, ⟨_, _, rfl, ⟨_, rfl, hv⟩, hSt⟩, hc, hs⟩)
theorem sn_iload {n : Nat} (hx : p.tables.exec = Jvm.exec) (hb : c.code = cc) (hdg : decode cc pc = .ok (.iload n, 2)) (hm : m_one x (.iload n) d L S h = some (L', S', h')) (kk : WW p l e R s m args below meth c Q D A sp w0 nL nc0 ns0 (pc + 2) L' S' h') : WW p l e R s m args below meth c Q D A sp w0 nL nc0 ns0 pc L S h := by
  unfold m_one at hm
  dsimp only at hm
  split at hm
  · next z hz =>
    cases hm
    intro H locs cells slots ls st ⟨ws, tys, hK, hP, hD, hS, hE, hH, hL, hSt, hc, hs⟩
    obtain ⟨v, hv, y', rfl, rfl⟩ := hL.2.2.2 _ _ hz
    exact lv_iload hx hb hdg hv (kk _ _ _ _ _ _ ⟨ws, tys, hK, hP, hD, hS, hE, hH, hL, ⟨_, _, rfl, ⟨_, rfl, rfl⟩, hSt⟩, hc, hs⟩)
  · cases hm
theorem sn_iload_n {n : Fin 4} (hx : p.tables.exec = Jvm.exec) (hb : c.code = cc) (hdg : decode cc pc = .ok (.iload_n n, 1)) (hm : m_one x (.iload_n n) d L S h = some (L', S', h')) (kk : WW p l e R s m args below meth c Q D A sp w0 nL nc0 ns0 (pc + 1) L' S' h') : WW p l e R s m args below meth c Q D A sp w0 nL nc0 ns0 pc L S h := by
  unfold m_one at hm
  dsimp only at hm
  split at hm
  · next z hz =>
    cases hm
    intro H locs cells slots ls st ⟨ws, tys, hK, hP, hD, hS, hE, hH, hL, hSt, hc, hs⟩
    obtain ⟨v, hv, y', rfl, rfl⟩ := hL.2.2.2 _ _ hz
    exact lv_iload_n hx hb hdg rfl hv (kk _ _ _ _ _ _ ⟨ws, tys, hK, hP, hD, hS, hE, hH, hL, ⟨_, _, rfl, ⟨_, rfl, rfl⟩, hSt⟩, hc, hs⟩)
  · cases hm
theorem sn_lload {n : Nat} (hx : p.tables.exec = Jvm.exec) (hb : c.code = cc) (hdg : decode cc pc = .ok (.lload n, 2)) (hm : m_one x (.lload n) d L S h = some (L', S', h')) (kk : WW p l e R s m args below meth c Q D A sp w0 nL nc0 ns0 (pc + 2) L' S' h') : WW p l e R s m args below meth c Q D A sp w0 nL nc0 ns0 pc L S h := by
  unfold m_one at hm
  dsimp only at hm
  split at hm
  · next z hz =>
    cases hm
    intro H locs cells slots ls st ⟨ws, tys, hK, hP, hD, hS, hE, hH, hL, hSt, hc, hs⟩
    obtain ⟨v, hv, y', rfl, rfl⟩ := hL.2.2.2 _ _ hz
    exact lv_lload hx hb hdg hv (kk _ _ _ _ _ _ ⟨ws, tys, hK, hP, hD, hS, hE, hH, hL, ⟨_, _, rfl, ⟨_, rfl, rfl⟩, hSt⟩, hc, hs⟩)
  · cases hm
theorem sn_lload_n {n : Fin 4} (hx : p.tables.exec = Jvm.exec) (hb : c.code = cc) (hdg : decode cc pc = .ok (.lload_n n, 1)) (hm : m_one x (.lload_n n) d L S h = some (L', S', h')) (kk : WW p l e R s m args below meth c Q D A sp w0 nL nc0 ns0 (pc + 1) L' S' h') : WW p l e R s m args below meth c Q D A sp w0 nL nc0 ns0 pc L S h := by
  unfold m_one at hm
  dsimp only at hm
  split at hm
  · next z hz =>
    cases hm
    intro H locs cells slots ls st ⟨ws, tys, hK, hP, hD, hS, hE, hH, hL, hSt, hc, hs⟩
    obtain ⟨v, hv, y', rfl, rfl⟩ := hL.2.2.2 _ _ hz
    exact lv_lload_n hx hb hdg rfl hv (kk _ _ _ _ _ _ ⟨ws, tys, hK, hP, hD, hS, hE, hH, hL, ⟨_, _, rfl, ⟨_, rfl, rfl⟩, hSt⟩, hc, hs⟩)
  · cases hm
theorem sn_aload {n : Nat} (hx : p.tables.exec = Jvm.exec) (hb : c.code = cc) (hdg : decode cc pc = .ok (.aload n, 2)) (hm : m_one x (.aload n) d L S h = some (L', S', h')) (kk : WW p l e R s m args below meth c Q D A sp w0 nL nc0 ns0 (pc + 2) L' S' h') : WW p l e R s m args below meth c Q D A sp w0 nL nc0 ns0 pc L S h := by
  unfold m_one at hm
  dsimp only at hm
  split at hm
  · next z hz =>
    cases hm
    intro H locs cells slots ls st ⟨ws, tys, hK, hP, hD, hS, hE, hH, hL, hSt, hc, hs⟩
    obtain ⟨v, hv, y', rfl, hy⟩ := hL.2.2.2 _ _ hz
    exact lv_aload hx hb hdg hv (kk _ _ _ _ _ _ ⟨ws, tys, hK, hP, hD, hS, hE, hH, hL, ⟨_, _, rfl, ⟨_, rfl, hy⟩, hSt⟩, hc, hs⟩)
  · next z hz =>
    cases hm
    intro H locs cells slots ls st ⟨ws, tys, hK, hP, hD, hS, hE, hH, hL, hSt, hc, hs⟩
    obtain ⟨v, hv, hy⟩ := hL.2.2.2 _ _ hz
    cases hy
    exact lv_aload hx hb hdg hv (kk _ _ _ _ _ _ ⟨ws, tys, hK, hP, hD, hS, hE, hH, hL, ⟨_, _, rfl, rfl, hSt⟩, hc, hs⟩)
  · cases hm
theorem sn_aload_n {n : Fin 4} (hx : p.tables.exec = Jvm.exec) (hb : c.code = cc) (hdg : decode cc pc = .ok (.aload_n n, 1)) (hm : m_one x (.aload_n n) d L S h = some (L', S', h')) (kk : WW p l e R s m args below meth c Q D A sp w0 nL nc0 ns0 (pc + 1) L' S' h') : WW p l e R s m args below meth c Q D A sp w0 nL nc0 ns0 pc L S h := by
  unfold m_one at hm
  dsimp only at hm
  split at hm
  · next z hz =>
    cases hm
    intro H locs cells slots ls st ⟨ws, tys, hK, hP, hD, hS, hE, hH, hL, hSt, hc, hs⟩
    obtain ⟨v, hv, y', rfl, hy⟩ := hL.2.2.2 _ _ hz
    exact lv_aload_n hx hb hdg rfl hv (kk _ _ _ _ _ _ ⟨ws, tys, hK, hP, hD, hS, hE, hH, hL, ⟨_, _, rfl, ⟨_, rfl, hy⟩, hSt⟩, hc, hs⟩)
  · next z hz =>
    cases hm
    intro H locs cells slots ls st ⟨ws, tys, hK, hP, hD, hS, hE, hH, hL, hSt, hc, hs⟩
    obtain ⟨v, hv, hy⟩ := hL.2.2.2 _ _ hz
    cases hy
    exact lv_aload_n hx hb hdg rfl hv (kk _ _ _ _ _ _ ⟨ws, tys, hK, hP, hD, hS, hE, hH, hL, ⟨_, _, rfl, rfl, hSt⟩, hc, hs⟩)
  · cases hm
theorem sn_istore {n : Nat} (hx : p.tables.exec = Jvm.exec) (hb : c.code = cc) (hdg : decode cc pc = .ok (.istore n, 2)) (hm : m_one x (.istore n) d L S h = some (L', S', h')) (kk : WW p l e R s m args below meth c Q D A sp w0 nL nc0 ns0 (pc + 2) L' S' h') : WW p l e R s m args below meth c Q D A sp w0 nL nc0 ns0 pc L S h := by
  unfold m_one at hm
  dsimp only at hm
  split at hm
  · split at hm
    · next hn =>
      cases hm
      intro H locs cells slots ls st ⟨ws, tys, hK, hP, hD, hS, hE, hH, hL, hSt, hc, hs⟩
      obtain ⟨v1, st1, rfl, ⟨y', rfl, hy⟩, hSt⟩ := hSt
      refine lv_istore hx hb hdg (lv_all_has hL.2.1 hL.2.2.1) (by rw [← hL.1]; exact hn) rfl (fun ls' hl' => ?_)
      exact kk _ _ _ _ _ _ ⟨ws, tys, hK, hP, hD, hS, hE, hH, LR.st1 hL ⟨_, rfl, hy⟩ hl', hSt, hc, hs⟩
    · cases hm
  · cases hm
theorem sn_istore_n {n : Fin 4} (hx : p.tables.exec = Jvm.exec) (hb : c.code = cc) (hdg : decode cc pc = .ok (.istore_n n, 1)) (hm : m_one x (.istore_n n) d L S h = some (L', S', h')) (kk : WW p l e R s m args below meth c Q D A sp w0 nL nc0 ns0 (pc + 1) L' S' h') : WW p l e R s m args below meth c Q D A sp w0 nL nc0 ns0 pc L S h := by
  unfold m_one at hm
  dsimp only at hm
  split at hm
  · split at hm
    · next hn =>
      cases hm
      intro H locs cells slots ls st ⟨ws, tys, hK, hP, hD, hS, hE, hH, hL, hSt, hc, hs⟩
      obtain ⟨v1, st1, rfl, ⟨y', rfl, hy⟩, hSt⟩ := hSt
      refine lv_istore_n hx hb hdg rfl (lv_all_has hL.2.1 hL.2.2.1) (by rw [← hL.1]; exact hn) rfl (fun ls' hl' => ?_)
      exact kk _ _ _ _ _ _ ⟨ws, tys, hK, hP, hD, hS, hE, hH, LR.st1 hL ⟨_, rfl, hy⟩ hl', hSt, hc, hs⟩
    · cases hm
  · cases hm
theorem sn_astore {n : Nat} (hx : p.tables.exec = Jvm.exec) (hb : c.code = cc) (hdg : decode cc pc = .ok (.astore n, 2)) (hm : m_one x (.astore n) d L S h = some (L', S', h')) (kk : WW p l e R s m args below meth c Q D A sp w0 nL nc0 ns0 (pc + 2) L' S' h') : WW p l e R s m args below meth c Q D A sp w0 nL nc0 ns0 pc L S h := by
  unfold m_one at hm
  dsimp only at hm
  split at hm
  · split at hm
    · next hn =>
      cases hm
      intro H locs cells slots ls st ⟨ws, tys, hK, hP, hD, hS, hE, hH, hL, hSt, hc, hs⟩
      obtain ⟨v1, st1, rfl, ⟨y', rfl, hy⟩, hSt⟩ := hSt
      refine lv_astore hx hb hdg (lv_all_has hL.2.1 hL.2.2.1) (by rw [← hL.1]; exact hn) rfl (fun ls' hl' => ?_)
      exact kk _ _ _ _ _ _ ⟨ws, tys, hK, hP, hD, hS, hE, hH, LR.st1 hL ⟨_, rfl, hy⟩ hl', hSt, hc, hs⟩
    · cases hm
  · cases hm
theorem sn_astore_n {n : Fin 4} (hx : p.tables.exec = Jvm.exec) (hb : c.code = cc) (hdg : decode cc pc = .ok (.astore_n n, 1)) (hm : m_one x (.astore_n n) d L S h = some (L', S', h')) (kk : WW p l e R s m args below meth c Q D A sp w0 nL nc0 ns0 (pc + 1) L' S' h') : WW p l e R s m args below meth c Q D A sp w0 nL nc0 ns0 pc L S h := by
  unfold m_one at hm
  dsimp only at hm
  split at hm
  · split at hm
    · next hn =>
      cases hm
      intro H locs cells slots ls st ⟨ws, tys, hK, hP, hD, hS, hE, hH, hL, hSt, hc, hs⟩
      obtain ⟨v1, st1, rfl, ⟨y', rfl, hy⟩, hSt⟩ := hSt
      refine lv_astore_n hx hb hdg rfl (lv_all_has hL.2.1 hL.2.2.1) (by rw [← hL.1]; exact hn) rfl (fun ls' hl' => ?_)
      exact kk _ _ _ _ _ _ ⟨ws, tys, hK, hP, hD, hS, hE, hH, LR.st1 hL ⟨_, rfl, hy⟩ hl', hSt, hc, hs⟩
    · cases hm
  · cases hm
theorem sn_lstore {n : Nat} (hx : p.tables.exec = Jvm.exec) (hb : c.code = cc) (hdg : decode cc pc = .ok (.lstore n, 2)) (hm : m_one x (.lstore n) d L S h = some (L', S', h')) (kk : WW p l e R s m args below meth c Q D A sp w0 nL nc0 ns0 (pc + 2) L' S' h') : WW p l e R s m args below meth c Q D A sp w0 nL nc0 ns0 pc L S h := by
  unfold m_one at hm
  dsimp only at hm
  split at hm
  · split at hm
    · next hn =>
      cases hm
      intro H locs cells slots ls st ⟨ws, tys, hK, hP, hD, hS, hE, hH, hL, hSt, hc, hs⟩
      obtain ⟨v1, st1, rfl, ⟨y', rfl, hy⟩, hSt⟩ := hSt
      refine lv_lstore hx hb hdg (lv_all_has hL.2.1 hL.2.2.1) (by rw [← hL.1]; exact hn) rfl (fun ls' hl' => ?_)
      exact kk _ _ _ _ _ _ ⟨ws, tys, hK, hP, hD, hS, hE, hH, LR.st2 hL ⟨_, rfl, hy⟩ hl', hSt, hc, hs⟩
    · cases hm
  · cases hm
theorem sn_lstore_n {n : Fin 4} (hx : p.tables.exec = Jvm.exec) (hb : c.code = cc) (hdg : decode cc pc = .ok (.lstore_n n, 1)) (hm : m_one x (.lstore_n n) d L S h = some (L', S', h')) (kk : WW p l e R s m args below meth c Q D A sp w0 nL nc0 ns0 (pc + 1) L' S' h') : WW p l e R s m args below meth c Q D A sp w0 nL nc0 ns0 pc L S h := by
  unfold m_one at hm
  dsimp only at hm
  split at hm
  · split at hm
    · next hn =>
      cases hm
      intro H locs cells slots ls st ⟨ws, tys, hK, hP, hD, hS, hE, hH, hL, hSt, hc, hs⟩
      obtain ⟨v1, st1, rfl, ⟨y', rfl, hy⟩, hSt⟩ := hSt
      refine lv_lstore_n hx hb hdg rfl (lv_all_has hL.2.1 hL.2.2.1) (by rw [← hL.1]; exact hn) rfl (fun ls' hl' => ?_)
      exact kk _ _ _ _ _ _ ⟨ws, tys, hK, hP, hD, hS, hE, hH, LR.st2 hL ⟨_, rfl, hy⟩ hl', hSt, hc, hs⟩
    · cases hm
  · cases hm
theorem sn_iinc {n : Nat} {k : Int} (hx : p.tables.exec = Jvm.exec) (hb : c.code = cc) (hn : -2 ^ 31 ≤ k ∧ k < 2 ^ 31) (hdg : decode cc pc = .ok (.iinc n k, 3)) (hm : m_one x (.iinc n k) d L S h = some (L', S', h')) (kk : WW p l e R s m args below meth c Q D A sp w0 nL nc0 ns0 (pc + 3) L' S' h') : WW p l e R s m args below meth c Q D A sp w0 nL nc0 ns0 pc L S h := by
  unfold m_one at hm
  dsimp only at hm
  split at hm
  · next z hz =>
    cases hm
    intro H locs cells slots ls st ⟨ws, tys, hK, hP, hD, hS, hE, hH, hL, hSt, hc, hs⟩
    obtain ⟨v, hv, y', rfl, rfl⟩ := hL.2.2.2 _ _ hz
    obtain ⟨q, hq⟩ := List.getElem?_of_mem (lv_all_mem.mpr hv)
    refine lv_iinc hx hb hdg (lv_all_has hL.2.1 hL.2.2.1) hq rfl (by rw [← hL.1]; exact (List.getElem?_eq_some_iff.mp hz).1) rfl (fun ls' hl' => ?_)
    exact kk _ _ _ _ _ _ ⟨ws, tys, hK, hP, hD, hS, hE, hH, LR.st1 hL ⟨_, rfl, by rw [Int32.toInt_add, Int32.toInt_ofInt_of_le hn.1 hn.2]; rfl⟩ hl', hSt, hc, hs⟩
  · cases hm
theorem sn_dup (hx : p.tables.exec = Jvm.exec) (hb : c.code = cc) (hdg : decode cc pc = .ok (.dup, 1)) (hm : m_one x (.dup) d L S h = some (L', S', h')) (kk : WW p l e R s m args below meth c Q D A sp w0 nL nc0 ns0 (pc + 1) L' S' h') : WW p l e R s m args below meth c Q D A sp w0 nL nc0 ns0 pc L S h := by
  unfold m_one at hm
  dsimp only at hm
  split at hm
  · cases hm
    intro H locs cells slots ls st ⟨ws, tys, hK, hP, hD, hS, hE, hH, hL, hSt, hc, hs⟩
    obtain ⟨v1, st1, rfl, ⟨y', rfl, rfl⟩, hSt⟩ := hSt
    exact lv_dup hx hb hdg rfl (kk _ _ _ _ _ _ ⟨ws, tys, hK, hP, hD, hS, hE, hH, hL, ⟨_, _, rfl, ⟨_, rfl, rfl⟩, _, _, rfl, ⟨_, rfl, rfl⟩, hSt⟩, hc, hs⟩)
  · cases hm
    intro H locs cells slots ls st ⟨ws, tys, hK, hP, hD, hS, hE, hH, hL, hSt, hc, hs⟩
    obtain ⟨v1, st1, rfl, hv, hSt⟩ := hSt
    exact lv_dup hx hb hdg hv.cat1 (kk _ _ _ _ _ _ ⟨ws, tys, hK, hP, hD, hS, hE, hH, hL, ⟨_, _, rfl, hv, _, _, rfl, hv, hSt⟩, hc, hs⟩)
  · cases hm
theorem sn_dup2 (hx : p.tables.exec = Jvm.exec) (hb : c.code = cc) (hdg : decode cc pc = .ok (.dup2, 1)) (hm : m_one x (.dup2) d L S h = some (L', S', h')) (kk : WW p l e R s m args below meth c Q D A sp w0 nL nc0 ns0 (pc + 1) L' S' h') : WW p l e R s m args below meth c Q D A sp w0 nL nc0 ns0 pc L S h := by
  unfold m_one at hm
  dsimp only at hm
  split at hm
  · cases hm
    intro H locs cells slots ls st ⟨ws, tys, hK, hP, hD, hS, hE, hH, hL, hSt, hc, hs⟩
    obtain ⟨v1, st1, rfl, ⟨y', rfl, rfl⟩, v2, st2, rfl, ⟨u', rfl, rfl⟩, hSt⟩ := hSt
    exact lv_dup2_11 hx hb hdg rfl rfl (kk _ _ _ _ _ _ ⟨ws, tys, hK, hP, hD, hS, hE, hH, hL, ⟨_, _, rfl, ⟨_, rfl, rfl⟩, _, _, rfl, ⟨_, rfl, rfl⟩, _, _, rfl, ⟨_, rfl, rfl⟩, _, _, rfl, ⟨_, rfl, rfl⟩, hSt⟩, hc, hs⟩)
  · cases hm
    intro H locs cells slots ls st ⟨ws, tys, hK, hP, hD, hS, hE, hH, hL, hSt, hc, hs⟩
    obtain ⟨v1, st1, rfl, ⟨y', rfl, rfl⟩, v2, st2, rfl, hv, hSt⟩ := hSt
    exact lv_dup2_11 hx hb hdg rfl hv.cat1 (kk _ _ _ _ _ _ ⟨ws, tys, hK, hP, hD, hS, hE, hH, hL, ⟨_, _, rfl, ⟨_, rfl, rfl⟩, _, _, rfl, hv, _, _, rfl, ⟨_, rfl, rfl⟩, _, _, rfl, hv, hSt⟩, hc, hs⟩)
  · cases hm
theorem sn_pop (hx : p.tables.exec = Jvm.exec) (hb : c.code = cc) (hdg : decode cc pc = .ok (.pop, 1)) (hm : m_one x (.pop) d L S h = some (L', S', h')) (kk : WW p l e R s m args below meth c Q D A sp w0 nL nc0 ns0 (pc + 1) L' S' h') : WW p l e R s m args below meth c Q D A sp w0 nL nc0 ns0 pc L S h := by
  unfold m_one at hm
  dsimp only at hm
  split at hm
  · cases hm
    intro H locs cells slots ls st ⟨ws, tys, hK, hP, hD, hS, hE, hH, hL, hSt, hc, hs⟩
    obtain ⟨v1, st1, rfl, ⟨y', rfl, rfl⟩, hSt⟩ := hSt
    exact lv_pop hx hb hdg rfl (kk _ _ _ _ _ _ ⟨ws, tys, hK, hP, hD, hS, hE, hH, hL, hSt, hc, hs⟩)
  · cases hm
    intro H locs cells slots ls st ⟨ws, tys, hK, hP, hD, hS, hE, hH, hL, hSt, hc, hs⟩
    obtain ⟨v1, st1, rfl, hv, hSt⟩ := hSt
    exact lv_pop hx hb hdg hv.cat1 (kk _ _ _ _ _ _ ⟨ws, tys, hK, hP, hD, hS, hE, hH, hL, hSt, hc, hs⟩)
  · cases hm
end FRAME
