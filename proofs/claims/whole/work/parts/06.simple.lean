section SX
variable {p : Program} {l : Launch} {e : Env} {R : Room} {s : State} {m : MethodId} {args : Array Value} {below : List Frame} {meth : Method} {c : Code} {Q : State → Prop} {dC : Nat → ClassId} {dI : Nat → Nat → Nat} {tA : Nat → ClassId} {B : Nat} {kd : Nat → Nat} {X : ab_X} {c0 z0 nL y : Nat} {cc : ByteArray} {own : String}
theorem sx_iadd (A : sd_At p s m args meth c y nL cc own dC dI tA B kd X) {pc n : Nat} {ls : ab_L} {st : List Value} {h : ab_H} {f' : ab_F} (hd : decode cc pc = .ok (.iadd, n)) (hx : ab_ex X y (.iadd) n pc ls st h = some (.inl f')) (k : sd_Go p l e R s m args below meth c Q dC dI tA B kd c0 z0 nL f') : sd_Go p l e R s m args below meth c Q dC dI tA B kd c0 z0 nL (pc, ls, st, h) := by
  obtain ⟨A1, A2, A3, A4, A5, A6, A7, A8, A9⟩ := A
  obtain ⟨rfl, hz⟩ := ab_if_inv hx
  obtain ⟨yv, xv, r, rfl, rfl⟩ := ab_b2_inv hz
  intro L H locs cells slots I hL
  exact lv_iadd A1 A2 hd (k L H locs cells slots I hL)
theorem sx_isub (A : sd_At p s m args meth c y nL cc own dC dI tA B kd X) {pc n : Nat} {ls : ab_L} {st : List Value} {h : ab_H} {f' : ab_F} (hd : decode cc pc = .ok (.isub, n)) (hx : ab_ex X y (.isub) n pc ls st h = some (.inl f')) (k : sd_Go p l e R s m args below meth c Q dC dI tA B kd c0 z0 nL f') : sd_Go p l e R s m args below meth c Q dC dI tA B kd c0 z0 nL (pc, ls, st, h) := by
  obtain ⟨A1, A2, A3, A4, A5, A6, A7, A8, A9⟩ := A
  obtain ⟨rfl, hz⟩ := ab_if_inv hx
  obtain ⟨yv, xv, r, rfl, rfl⟩ := ab_b2_inv hz
  intro L H locs cells slots I hL
  exact lv_isub A1 A2 hd (k L H locs cells slots I hL)
theorem sx_imul (A : sd_At p s m args meth c y nL cc own dC dI tA B kd X) {pc n : Nat} {ls : ab_L} {st : List Value} {h : ab_H} {f' : ab_F} (hd : decode cc pc = .ok (.imul, n)) (hx : ab_ex X y (.imul) n pc ls st h = some (.inl f')) (k : sd_Go p l e R s m args below meth c Q dC dI tA B kd c0 z0 nL f') : sd_Go p l e R s m args below meth c Q dC dI tA B kd c0 z0 nL (pc, ls, st, h) := by
  obtain ⟨A1, A2, A3, A4, A5, A6, A7, A8, A9⟩ := A
  obtain ⟨rfl, hz⟩ := ab_if_inv hx
  obtain ⟨yv, xv, r, rfl, rfl⟩ := ab_b2_inv hz
  intro L H locs cells slots I hL
  exact lv_imul A1 A2 hd (k L H locs cells slots I hL)
theorem sx_iand (A : sd_At p s m args meth c y nL cc own dC dI tA B kd X) {pc n : Nat} {ls : ab_L} {st : List Value} {h : ab_H} {f' : ab_F} (hd : decode cc pc = .ok (.iand, n)) (hx : ab_ex X y (.iand) n pc ls st h = some (.inl f')) (k : sd_Go p l e R s m args below meth c Q dC dI tA B kd c0 z0 nL f') : sd_Go p l e R s m args below meth c Q dC dI tA B kd c0 z0 nL (pc, ls, st, h) := by
  obtain ⟨A1, A2, A3, A4, A5, A6, A7, A8, A9⟩ := A
  obtain ⟨rfl, hz⟩ := ab_if_inv hx
  obtain ⟨yv, xv, r, rfl, rfl⟩ := ab_b2_inv hz
  intro L H locs cells slots I hL
  exact lv_iand A1 A2 hd (k L H locs cells slots I hL)
theorem sx_ior (A : sd_At p s m args meth c y nL cc own dC dI tA B kd X) {pc n : Nat} {ls : ab_L} {st : List Value} {h : ab_H} {f' : ab_F} (hd : decode cc pc = .ok (.ior, n)) (hx : ab_ex X y (.ior) n pc ls st h = some (.inl f')) (k : sd_Go p l e R s m args below meth c Q dC dI tA B kd c0 z0 nL f') : sd_Go p l e R s m args below meth c Q dC dI tA B kd c0 z0 nL (pc, ls, st, h) := by
  obtain ⟨A1, A2, A3, A4, A5, A6, A7, A8, A9⟩ := A
  obtain ⟨rfl, hz⟩ := ab_if_inv hx
  obtain ⟨yv, xv, r, rfl, rfl⟩ := ab_b2_inv hz
  intro L H locs cells slots I hL
  exact lv_ior A1 A2 hd (k L H locs cells slots I hL)
theorem sx_ixor (A : sd_At p s m args meth c y nL cc own dC dI tA B kd X) {pc n : Nat} {ls : ab_L} {st : List Value} {h : ab_H} {f' : ab_F} (hd : decode cc pc = .ok (.ixor, n)) (hx : ab_ex X y (.ixor) n pc ls st h = some (.inl f')) (k : sd_Go p l e R s m args below meth c Q dC dI tA B kd c0 z0 nL f') : sd_Go p l e R s m args below meth c Q dC dI tA B kd c0 z0 nL (pc, ls, st, h) := by
  obtain ⟨A1, A2, A3, A4, A5, A6, A7, A8, A9⟩ := A
  obtain ⟨rfl, hz⟩ := ab_if_inv hx
  obtain ⟨yv, xv, r, rfl, rfl⟩ := ab_b2_inv hz
  intro L H locs cells slots I hL
  exact lv_ixor A1 A2 hd (k L H locs cells slots I hL)
theorem sx_ishl (A : sd_At p s m args meth c y nL cc own dC dI tA B kd X) {pc n : Nat} {ls : ab_L} {st : List Value} {h : ab_H} {f' : ab_F} (hd : decode cc pc = .ok (.ishl, n)) (hx : ab_ex X y (.ishl) n pc ls st h = some (.inl f')) (k : sd_Go p l e R s m args below meth c Q dC dI tA B kd c0 z0 nL f') : sd_Go p l e R s m args below meth c Q dC dI tA B kd c0 z0 nL (pc, ls, st, h) := by
  obtain ⟨A1, A2, A3, A4, A5, A6, A7, A8, A9⟩ := A
  obtain ⟨rfl, hz⟩ := ab_if_inv hx
  obtain ⟨yv, xv, r, rfl, rfl⟩ := ab_b2_inv hz
  intro L H locs cells slots I hL
  exact lv_ishl A1 A2 hd (k L H locs cells slots I hL)
theorem sx_ishr (A : sd_At p s m args meth c y nL cc own dC dI tA B kd X) {pc n : Nat} {ls : ab_L} {st : List Value} {h : ab_H} {f' : ab_F} (hd : decode cc pc = .ok (.ishr, n)) (hx : ab_ex X y (.ishr) n pc ls st h = some (.inl f')) (k : sd_Go p l e R s m args below meth c Q dC dI tA B kd c0 z0 nL f') : sd_Go p l e R s m args below meth c Q dC dI tA B kd c0 z0 nL (pc, ls, st, h) := by
  obtain ⟨A1, A2, A3, A4, A5, A6, A7, A8, A9⟩ := A
  obtain ⟨rfl, hz⟩ := ab_if_inv hx
  obtain ⟨yv, xv, r, rfl, rfl⟩ := ab_b2_inv hz
  intro L H locs cells slots I hL
  exact lv_ishr A1 A2 hd (k L H locs cells slots I hL)
theorem sx_iushr (A : sd_At p s m args meth c y nL cc own dC dI tA B kd X) {pc n : Nat} {ls : ab_L} {st : List Value} {h : ab_H} {f' : ab_F} (hd : decode cc pc = .ok (.iushr, n)) (hx : ab_ex X y (.iushr) n pc ls st h = some (.inl f')) (k : sd_Go p l e R s m args below meth c Q dC dI tA B kd c0 z0 nL f') : sd_Go p l e R s m args below meth c Q dC dI tA B kd c0 z0 nL (pc, ls, st, h) := by
  obtain ⟨A1, A2, A3, A4, A5, A6, A7, A8, A9⟩ := A
  obtain ⟨rfl, hz⟩ := ab_if_inv hx
  obtain ⟨yv, xv, r, rfl, rfl⟩ := ab_b2_inv hz
  intro L H locs cells slots I hL
  exact lv_iushr A1 A2 hd rfl (k L H locs cells slots I hL)
theorem sx_idiv (A : sd_At p s m args meth c y nL cc own dC dI tA B kd X) {pc n : Nat} {ls : ab_L} {st : List Value} {h : ab_H} {f' : ab_F} (hd : decode cc pc = .ok (.idiv, n)) (hx : ab_ex X y (.idiv) n pc ls st h = some (.inl f')) (k : sd_Go p l e R s m args below meth c Q dC dI tA B kd c0 z0 nL f') : sd_Go p l e R s m args below meth c Q dC dI tA B kd c0 z0 nL (pc, ls, st, h) := by
  obtain ⟨A1, A2, A3, A4, A5, A6, A7, A8, A9⟩ := A
  obtain ⟨rfl, hz⟩ := ab_if_inv hx
  obtain ⟨yv, xv, r, rfl, hy, rfl⟩ := ab_d2_inv hz
  intro L H locs cells slots I hL
  exact lv_idiv A1 A2 hd hy (k L H locs cells slots I hL)
theorem sx_irem (A : sd_At p s m args meth c y nL cc own dC dI tA B kd X) {pc n : Nat} {ls : ab_L} {st : List Value} {h : ab_H} {f' : ab_F} (hd : decode cc pc = .ok (.irem, n)) (hx : ab_ex X y (.irem) n pc ls st h = some (.inl f')) (k : sd_Go p l e R s m args below meth c Q dC dI tA B kd c0 z0 nL f') : sd_Go p l e R s m args below meth c Q dC dI tA B kd c0 z0 nL (pc, ls, st, h) := by
  obtain ⟨A1, A2, A3, A4, A5, A6, A7, A8, A9⟩ := A
  obtain ⟨rfl, hz⟩ := ab_if_inv hx
  obtain ⟨yv, xv, r, rfl, hy, rfl⟩ := ab_d2_inv hz
  intro L H locs cells slots I hL
  exact lv_irem A1 A2 hd hy (k L H locs cells slots I hL)
theorem sx_ineg (A : sd_At p s m args meth c y nL cc own dC dI tA B kd X) {pc n : Nat} {ls : ab_L} {st : List Value} {h : ab_H} {f' : ab_F} (hd : decode cc pc = .ok (.ineg, n)) (hx : ab_ex X y (.ineg) n pc ls st h = some (.inl f')) (k : sd_Go p l e R s m args below meth c Q dC dI tA B kd c0 z0 nL f') : sd_Go p l e R s m args below meth c Q dC dI tA B kd c0 z0 nL (pc, ls, st, h) := by
  obtain ⟨A1, A2, A3, A4, A5, A6, A7, A8, A9⟩ := A
  obtain ⟨rfl, hz⟩ := ab_if_inv hx
  obtain ⟨xv, r, rfl, rfl⟩ := ab_u1_inv hz
  intro L H locs cells slots I hL
  exact lv_ineg A1 A2 hd (k L H locs cells slots I hL)
theorem sx_lsub (A : sd_At p s m args meth c y nL cc own dC dI tA B kd X) {pc n : Nat} {ls : ab_L} {st : List Value} {h : ab_H} {f' : ab_F} (hd : decode cc pc = .ok (.lsub, n)) (hx : ab_ex X y (.lsub) n pc ls st h = some (.inl f')) (k : sd_Go p l e R s m args below meth c Q dC dI tA B kd c0 z0 nL f') : sd_Go p l e R s m args below meth c Q dC dI tA B kd c0 z0 nL (pc, ls, st, h) := by
  obtain ⟨A1, A2, A3, A4, A5, A6, A7, A8, A9⟩ := A
  obtain ⟨rfl, hz⟩ := ab_if_inv hx
  obtain ⟨yv, xv, r, rfl, rfl⟩ := ab_b3_inv hz
  intro L H locs cells slots I hL
  exact lv_lsub A1 A2 hd (k L H locs cells slots I hL)
theorem sx_lmul (A : sd_At p s m args meth c y nL cc own dC dI tA B kd X) {pc n : Nat} {ls : ab_L} {st : List Value} {h : ab_H} {f' : ab_F} (hd : decode cc pc = .ok (.lmul, n)) (hx : ab_ex X y (.lmul) n pc ls st h = some (.inl f')) (k : sd_Go p l e R s m args below meth c Q dC dI tA B kd c0 z0 nL f') : sd_Go p l e R s m args below meth c Q dC dI tA B kd c0 z0 nL (pc, ls, st, h) := by
  obtain ⟨A1, A2, A3, A4, A5, A6, A7, A8, A9⟩ := A
  obtain ⟨rfl, hz⟩ := ab_if_inv hx
  obtain ⟨yv, xv, r, rfl, rfl⟩ := ab_b3_inv hz
  intro L H locs cells slots I hL
  exact lv_lmul A1 A2 hd (k L H locs cells slots I hL)
theorem sx_land (A : sd_At p s m args meth c y nL cc own dC dI tA B kd X) {pc n : Nat} {ls : ab_L} {st : List Value} {h : ab_H} {f' : ab_F} (hd : decode cc pc = .ok (.land, n)) (hx : ab_ex X y (.land) n pc ls st h = some (.inl f')) (k : sd_Go p l e R s m args below meth c Q dC dI tA B kd c0 z0 nL f') : sd_Go p l e R s m args below meth c Q dC dI tA B kd c0 z0 nL (pc, ls, st, h) := by
  obtain ⟨A1, A2, A3, A4, A5, A6, A7, A8, A9⟩ := A
  obtain ⟨rfl, hz⟩ := ab_if_inv hx
  obtain ⟨yv, xv, r, rfl, rfl⟩ := ab_b3_inv hz
  intro L H locs cells slots I hL
  exact lv_land A1 A2 hd (k L H locs cells slots I hL)
theorem sx_lor (A : sd_At p s m args meth c y nL cc own dC dI tA B kd X) {pc n : Nat} {ls : ab_L} {st : List Value} {h : ab_H} {f' : ab_F} (hd : decode cc pc = .ok (.lor, n)) (hx : ab_ex X y (.lor) n pc ls st h = some (.inl f')) (k : sd_Go p l e R s m args below meth c Q dC dI tA B kd c0 z0 nL f') : sd_Go p l e R s m args below meth c Q dC dI tA B kd c0 z0 nL (pc, ls, st, h) := by
  obtain ⟨A1, A2, A3, A4, A5, A6, A7, A8, A9⟩ := A
  obtain ⟨rfl, hz⟩ := ab_if_inv hx
  obtain ⟨yv, xv, r, rfl, rfl⟩ := ab_b3_inv hz
  intro L H locs cells slots I hL
  exact lv_lor A1 A2 hd (k L H locs cells slots I hL)
theorem sx_ldiv (A : sd_At p s m args meth c y nL cc own dC dI tA B kd X) {pc n : Nat} {ls : ab_L} {st : List Value} {h : ab_H} {f' : ab_F} (hd : decode cc pc = .ok (.ldiv, n)) (hx : ab_ex X y (.ldiv) n pc ls st h = some (.inl f')) (k : sd_Go p l e R s m args below meth c Q dC dI tA B kd c0 z0 nL f') : sd_Go p l e R s m args below meth c Q dC dI tA B kd c0 z0 nL (pc, ls, st, h) := by
  obtain ⟨A1, A2, A3, A4, A5, A6, A7, A8, A9⟩ := A
  obtain ⟨rfl, hz⟩ := ab_if_inv hx
  obtain ⟨yv, xv, r, rfl, hy, rfl⟩ := ab_d3_inv hz
  intro L H locs cells slots I hL
  exact lv_ldiv A1 A2 hd hy (k L H locs cells slots I hL)
theorem sx_lrem (A : sd_At p s m args meth c y nL cc own dC dI tA B kd X) {pc n : Nat} {ls : ab_L} {st : List Value} {h : ab_H} {f' : ab_F} (hd : decode cc pc = .ok (.lrem, n)) (hx : ab_ex X y (.lrem) n pc ls st h = some (.inl f')) (k : sd_Go p l e R s m args below meth c Q dC dI tA B kd c0 z0 nL f') : sd_Go p l e R s m args below meth c Q dC dI tA B kd c0 z0 nL (pc, ls, st, h) := by
  obtain ⟨A1, A2, A3, A4, A5, A6, A7, A8, A9⟩ := A
  obtain ⟨rfl, hz⟩ := ab_if_inv hx
  obtain ⟨yv, xv, r, rfl, hy, rfl⟩ := ab_d3_inv hz
  intro L H locs cells slots I hL
  exact lv_lrem A1 A2 hd hy (k L H locs cells slots I hL)
theorem sx_lshl (A : sd_At p s m args meth c y nL cc own dC dI tA B kd X) {pc n : Nat} {ls : ab_L} {st : List Value} {h : ab_H} {f' : ab_F} (hd : decode cc pc = .ok (.lshl, n)) (hx : ab_ex X y (.lshl) n pc ls st h = some (.inl f')) (k : sd_Go p l e R s m args below meth c Q dC dI tA B kd c0 z0 nL f') : sd_Go p l e R s m args below meth c Q dC dI tA B kd c0 z0 nL (pc, ls, st, h) := by
  obtain ⟨A1, A2, A3, A4, A5, A6, A7, A8, A9⟩ := A
  obtain ⟨rfl, hz⟩ := ab_if_inv hx
  obtain ⟨yv, xv, r, rfl, rfl⟩ := ab_b4_inv hz
  intro L H locs cells slots I hL
  exact lv_lshl A1 A2 hd rfl (k L H locs cells slots I hL)
theorem sx_lshr (A : sd_At p s m args meth c y nL cc own dC dI tA B kd X) {pc n : Nat} {ls : ab_L} {st : List Value} {h : ab_H} {f' : ab_F} (hd : decode cc pc = .ok (.lshr, n)) (hx : ab_ex X y (.lshr) n pc ls st h = some (.inl f')) (k : sd_Go p l e R s m args below meth c Q dC dI tA B kd c0 z0 nL f') : sd_Go p l e R s m args below meth c Q dC dI tA B kd c0 z0 nL (pc, ls, st, h) := by
  obtain ⟨A1, A2, A3, A4, A5, A6, A7, A8, A9⟩ := A
  obtain ⟨rfl, hz⟩ := ab_if_inv hx
  obtain ⟨yv, xv, r, rfl, rfl⟩ := ab_b4_inv hz
  intro L H locs cells slots I hL
  exact lv_lshr A1 A2 hd rfl (k L H locs cells slots I hL)
theorem sx_lushr (A : sd_At p s m args meth c y nL cc own dC dI tA B kd X) {pc n : Nat} {ls : ab_L} {st : List Value} {h : ab_H} {f' : ab_F} (hd : decode cc pc = .ok (.lushr, n)) (hx : ab_ex X y (.lushr) n pc ls st h = some (.inl f')) (k : sd_Go p l e R s m args below meth c Q dC dI tA B kd c0 z0 nL f') : sd_Go p l e R s m args below meth c Q dC dI tA B kd c0 z0 nL (pc, ls, st, h) := by
  obtain ⟨A1, A2, A3, A4, A5, A6, A7, A8, A9⟩ := A
  obtain ⟨rfl, hz⟩ := ab_if_inv hx
  obtain ⟨yv, xv, r, rfl, rfl⟩ := ab_b4_inv hz
  intro L H locs cells slots I hL
  exact lv_lushr A1 A2 hd rfl (k L H locs cells slots I hL)
theorem sx_i2l (A : sd_At p s m args meth c y nL cc own dC dI tA B kd X) {pc n : Nat} {ls : ab_L} {st : List Value} {h : ab_H} {f' : ab_F} (hd : decode cc pc = .ok (.i2l, n)) (hx : ab_ex X y (.i2l) n pc ls st h = some (.inl f')) (k : sd_Go p l e R s m args below meth c Q dC dI tA B kd c0 z0 nL f') : sd_Go p l e R s m args below meth c Q dC dI tA B kd c0 z0 nL (pc, ls, st, h) := by
  obtain ⟨A1, A2, A3, A4, A5, A6, A7, A8, A9⟩ := A
  obtain ⟨rfl, hz⟩ := ab_if_inv hx
  obtain ⟨xv, r, rfl, rfl⟩ := ab_u1_inv hz
  intro L H locs cells slots I hL
  exact lv_i2l A1 A2 hd rfl (k L H locs cells slots I hL)
theorem sx_i2b (A : sd_At p s m args meth c y nL cc own dC dI tA B kd X) {pc n : Nat} {ls : ab_L} {st : List Value} {h : ab_H} {f' : ab_F} (hd : decode cc pc = .ok (.i2b, n)) (hx : ab_ex X y (.i2b) n pc ls st h = some (.inl f')) (k : sd_Go p l e R s m args below meth c Q dC dI tA B kd c0 z0 nL f') : sd_Go p l e R s m args below meth c Q dC dI tA B kd c0 z0 nL (pc, ls, st, h) := by
  obtain ⟨A1, A2, A3, A4, A5, A6, A7, A8, A9⟩ := A
  obtain ⟨rfl, hz⟩ := ab_if_inv hx
  obtain ⟨xv, r, rfl, rfl⟩ := ab_u1_inv hz
  intro L H locs cells slots I hL
  exact lv_i2b A1 A2 hd rfl (k L H locs cells slots I hL)
theorem sx_i2s (A : sd_At p s m args meth c y nL cc own dC dI tA B kd X) {pc n : Nat} {ls : ab_L} {st : List Value} {h : ab_H} {f' : ab_F} (hd : decode cc pc = .ok (.i2s, n)) (hx : ab_ex X y (.i2s) n pc ls st h = some (.inl f')) (k : sd_Go p l e R s m args below meth c Q dC dI tA B kd c0 z0 nL f') : sd_Go p l e R s m args below meth c Q dC dI tA B kd c0 z0 nL (pc, ls, st, h) := by
  obtain ⟨A1, A2, A3, A4, A5, A6, A7, A8, A9⟩ := A
  obtain ⟨rfl, hz⟩ := ab_if_inv hx
  obtain ⟨xv, r, rfl, rfl⟩ := ab_u1_inv hz
  intro L H locs cells slots I hL
  exact lv_i2s A1 A2 hd rfl (k L H locs cells slots I hL)
theorem sx_i2c (A : sd_At p s m args meth c y nL cc own dC dI tA B kd X) {pc n : Nat} {ls : ab_L} {st : List Value} {h : ab_H} {f' : ab_F} (hd : decode cc pc = .ok (.i2c, n)) (hx : ab_ex X y (.i2c) n pc ls st h = some (.inl f')) (k : sd_Go p l e R s m args below meth c Q dC dI tA B kd c0 z0 nL f') : sd_Go p l e R s m args below meth c Q dC dI tA B kd c0 z0 nL (pc, ls, st, h) := by
  obtain ⟨A1, A2, A3, A4, A5, A6, A7, A8, A9⟩ := A
  obtain ⟨rfl, hz⟩ := ab_if_inv hx
  obtain ⟨xv, r, rfl, rfl⟩ := ab_u1_inv hz
  intro L H locs cells slots I hL
  exact lv_i2c A1 A2 hd rfl (k L H locs cells slots I hL)
theorem sx_iload (A : sd_At p s m args meth c y nL cc own dC dI tA B kd X) {pc n : Nat} {ls : ab_L} {st : List Value} {h : ab_H} {f' : ab_F} {j : Nat} (hd : decode cc pc = .ok (.iload j, n)) (hx : ab_ex X y (.iload j) n pc ls st h = some (.inl f')) (k : sd_Go p l e R s m args below meth c Q dC dI tA B kd c0 z0 nL f') : sd_Go p l e R s m args below meth c Q dC dI tA B kd c0 z0 nL (pc, ls, st, h) := by
  obtain ⟨A1, A2, A3, A4, A5, A6, A7, A8, A9⟩ := A
  obtain ⟨rfl, hz⟩ := ab_if_inv hx
  obtain ⟨xv, hv, rfl⟩ := ab_li_inv hz
  intro L H locs cells slots I hL
  exact lv_iload A1 A2 hd (hL.get hv) (k L H locs cells slots I hL)
theorem sx_iload_n (A : sd_At p s m args meth c y nL cc own dC dI tA B kd X) {pc n : Nat} {ls : ab_L} {st : List Value} {h : ab_H} {f' : ab_F} {j : Fin 4} (hd : decode cc pc = .ok (.iload_n j, n)) (hx : ab_ex X y (.iload_n j) n pc ls st h = some (.inl f')) (k : sd_Go p l e R s m args below meth c Q dC dI tA B kd c0 z0 nL f') : sd_Go p l e R s m args below meth c Q dC dI tA B kd c0 z0 nL (pc, ls, st, h) := by
  obtain ⟨A1, A2, A3, A4, A5, A6, A7, A8, A9⟩ := A
  obtain ⟨rfl, hz⟩ := ab_if_inv hx
  obtain ⟨xv, hv, rfl⟩ := ab_li_inv hz
  intro L H locs cells slots I hL
  exact lv_iload_n A1 A2 hd rfl (hL.get hv) (k L H locs cells slots I hL)
theorem sx_lload (A : sd_At p s m args meth c y nL cc own dC dI tA B kd X) {pc n : Nat} {ls : ab_L} {st : List Value} {h : ab_H} {f' : ab_F} {j : Nat} (hd : decode cc pc = .ok (.lload j, n)) (hx : ab_ex X y (.lload j) n pc ls st h = some (.inl f')) (k : sd_Go p l e R s m args below meth c Q dC dI tA B kd c0 z0 nL f') : sd_Go p l e R s m args below meth c Q dC dI tA B kd c0 z0 nL (pc, ls, st, h) := by
  obtain ⟨A1, A2, A3, A4, A5, A6, A7, A8, A9⟩ := A
  obtain ⟨rfl, hz⟩ := ab_if_inv hx
  obtain ⟨xv, hv, rfl⟩ := ab_ll_inv hz
  intro L H locs cells slots I hL
  exact lv_lload A1 A2 hd (hL.get hv) (k L H locs cells slots I hL)
theorem sx_lload_n (A : sd_At p s m args meth c y nL cc own dC dI tA B kd X) {pc n : Nat} {ls : ab_L} {st : List Value} {h : ab_H} {f' : ab_F} {j : Fin 4} (hd : decode cc pc = .ok (.lload_n j, n)) (hx : ab_ex X y (.lload_n j) n pc ls st h = some (.inl f')) (k : sd_Go p l e R s m args below meth c Q dC dI tA B kd c0 z0 nL f') : sd_Go p l e R s m args below meth c Q dC dI tA B kd c0 z0 nL (pc, ls, st, h) := by
  obtain ⟨A1, A2, A3, A4, A5, A6, A7, A8, A9⟩ := A
  obtain ⟨rfl, hz⟩ := ab_if_inv hx
  obtain ⟨xv, hv, rfl⟩ := ab_ll_inv hz
  intro L H locs cells slots I hL
  exact lv_lload_n A1 A2 hd rfl (hL.get hv) (k L H locs cells slots I hL)
theorem sx_aload (A : sd_At p s m args meth c y nL cc own dC dI tA B kd X) {pc n : Nat} {ls : ab_L} {st : List Value} {h : ab_H} {f' : ab_F} {j : Nat} (hd : decode cc pc = .ok (.aload j, n)) (hx : ab_ex X y (.aload j) n pc ls st h = some (.inl f')) (k : sd_Go p l e R s m args below meth c Q dC dI tA B kd c0 z0 nL f') : sd_Go p l e R s m args below meth c Q dC dI tA B kd c0 z0 nL (pc, ls, st, h) := by
  obtain ⟨A1, A2, A3, A4, A5, A6, A7, A8, A9⟩ := A
  obtain ⟨rfl, hz⟩ := ab_if_inv hx
  obtain ⟨xv, hv, rfl⟩ := ab_la_inv hz
  intro L H locs cells slots I hL
  exact lv_aload A1 A2 hd (hL.get hv) (k L H locs cells slots I hL)
theorem sx_aload_n (A : sd_At p s m args meth c y nL cc own dC dI tA B kd X) {pc n : Nat} {ls : ab_L} {st : List Value} {h : ab_H} {f' : ab_F} {j : Fin 4} (hd : decode cc pc = .ok (.aload_n j, n)) (hx : ab_ex X y (.aload_n j) n pc ls st h = some (.inl f')) (k : sd_Go p l e R s m args below meth c Q dC dI tA B kd c0 z0 nL f') : sd_Go p l e R s m args below meth c Q dC dI tA B kd c0 z0 nL (pc, ls, st, h) := by
  obtain ⟨A1, A2, A3, A4, A5, A6, A7, A8, A9⟩ := A
  obtain ⟨rfl, hz⟩ := ab_if_inv hx
  obtain ⟨xv, hv, rfl⟩ := ab_la_inv hz
  intro L H locs cells slots I hL
  exact lv_aload_n A1 A2 hd rfl (hL.get hv) (k L H locs cells slots I hL)
theorem sx_iconst (A : sd_At p s m args meth c y nL cc own dC dI tA B kd X) {pc n : Nat} {ls : ab_L} {st : List Value} {h : ab_H} {f' : ab_F} {z : Int} (hd : decode cc pc = .ok (.iconst z, n)) (hx : ab_ex X y (.iconst z) n pc ls st h = some (.inl f')) (k : sd_Go p l e R s m args below meth c Q dC dI tA B kd c0 z0 nL f') : sd_Go p l e R s m args below meth c Q dC dI tA B kd c0 z0 nL (pc, ls, st, h) := by
  obtain ⟨A1, A2, A3, A4, A5, A6, A7, A8, A9⟩ := A
  obtain ⟨rfl, hz⟩ := ab_if_inv hx
  cases hz
  intro L H locs cells slots I hL
  exact lv_iconst A1 A2 hd rfl (k L H locs cells slots I hL)
theorem sx_bipush (A : sd_At p s m args meth c y nL cc own dC dI tA B kd X) {pc n : Nat} {ls : ab_L} {st : List Value} {h : ab_H} {f' : ab_F} {z : Int} (hd : decode cc pc = .ok (.bipush z, n)) (hx : ab_ex X y (.bipush z) n pc ls st h = some (.inl f')) (k : sd_Go p l e R s m args below meth c Q dC dI tA B kd c0 z0 nL f') : sd_Go p l e R s m args below meth c Q dC dI tA B kd c0 z0 nL (pc, ls, st, h) := by
  obtain ⟨A1, A2, A3, A4, A5, A6, A7, A8, A9⟩ := A
  obtain ⟨rfl, hz⟩ := ab_if_inv hx
  cases hz
  intro L H locs cells slots I hL
  exact lv_bipush A1 A2 hd rfl (k L H locs cells slots I hL)
theorem sx_sipush (A : sd_At p s m args meth c y nL cc own dC dI tA B kd X) {pc n : Nat} {ls : ab_L} {st : List Value} {h : ab_H} {f' : ab_F} {z : Int} (hd : decode cc pc = .ok (.sipush z, n)) (hx : ab_ex X y (.sipush z) n pc ls st h = some (.inl f')) (k : sd_Go p l e R s m args below meth c Q dC dI tA B kd c0 z0 nL f') : sd_Go p l e R s m args below meth c Q dC dI tA B kd c0 z0 nL (pc, ls, st, h) := by
  obtain ⟨A1, A2, A3, A4, A5, A6, A7, A8, A9⟩ := A
  obtain ⟨rfl, hz⟩ := ab_if_inv hx
  cases hz
  intro L H locs cells slots I hL
  exact lv_sipush A1 A2 hd rfl (k L H locs cells slots I hL)
theorem sx_lconst (A : sd_At p s m args meth c y nL cc own dC dI tA B kd X) {pc n : Nat} {ls : ab_L} {st : List Value} {h : ab_H} {f' : ab_F} {z : Fin 2} (hd : decode cc pc = .ok (.lconst z, n)) (hx : ab_ex X y (.lconst z) n pc ls st h = some (.inl f')) (k : sd_Go p l e R s m args below meth c Q dC dI tA B kd c0 z0 nL f') : sd_Go p l e R s m args below meth c Q dC dI tA B kd c0 z0 nL (pc, ls, st, h) := by
  obtain ⟨A1, A2, A3, A4, A5, A6, A7, A8, A9⟩ := A
  obtain ⟨rfl, hz⟩ := ab_if_inv hx
  cases hz
  intro L H locs cells slots I hL
  exact lv_lconst A1 A2 hd rfl (k L H locs cells slots I hL)
theorem sx_istore (A : sd_At p s m args meth c y nL cc own dC dI tA B kd X) {pc n : Nat} {ls : ab_L} {st : List Value} {h : ab_H} {f' : ab_F} {j : Nat} (hd : decode cc pc = .ok (.istore j, n)) (hx : ab_ex X y (.istore j) n pc ls st h = some (.inl f')) (k : sd_Go p l e R s m args below meth c Q dC dI tA B kd c0 z0 nL f') : sd_Go p l e R s m args below meth c Q dC dI tA B kd c0 z0 nL (pc, ls, st, h) := by
  obtain ⟨A1, A2, A3, A4, A5, A6, A7, A8, A9⟩ := A
  obtain ⟨rfl, hz⟩ := ab_if_inv hx
  split at hz
  · obtain ⟨ls', he, rfl⟩ := ab_so_inv hz
    intro L H locs cells slots I hL
    exact lv_istore A1 A2 hd hL.2 (by rw [← hL.1]; exact ab_s1_lt he) rfl (fun L' hL' => k L' H locs cells slots I (hL.st1 he hL'))
  · cases hz
theorem sx_istore_n (A : sd_At p s m args meth c y nL cc own dC dI tA B kd X) {pc n : Nat} {ls : ab_L} {st : List Value} {h : ab_H} {f' : ab_F} {j : Fin 4} (hd : decode cc pc = .ok (.istore_n j, n)) (hx : ab_ex X y (.istore_n j) n pc ls st h = some (.inl f')) (k : sd_Go p l e R s m args below meth c Q dC dI tA B kd c0 z0 nL f') : sd_Go p l e R s m args below meth c Q dC dI tA B kd c0 z0 nL (pc, ls, st, h) := by
  obtain ⟨A1, A2, A3, A4, A5, A6, A7, A8, A9⟩ := A
  obtain ⟨rfl, hz⟩ := ab_if_inv hx
  split at hz
  · obtain ⟨ls', he, rfl⟩ := ab_so_inv hz
    intro L H locs cells slots I hL
    exact lv_istore_n A1 A2 hd rfl hL.2 (by rw [← hL.1]; exact ab_s1_lt he) rfl (fun L' hL' => k L' H locs cells slots I (hL.st1 he hL'))
  · cases hz
theorem sx_astore (A : sd_At p s m args meth c y nL cc own dC dI tA B kd X) {pc n : Nat} {ls : ab_L} {st : List Value} {h : ab_H} {f' : ab_F} {j : Nat} (hd : decode cc pc = .ok (.astore j, n)) (hx : ab_ex X y (.astore j) n pc ls st h = some (.inl f')) (k : sd_Go p l e R s m args below meth c Q dC dI tA B kd c0 z0 nL f') : sd_Go p l e R s m args below meth c Q dC dI tA B kd c0 z0 nL (pc, ls, st, h) := by
  obtain ⟨A1, A2, A3, A4, A5, A6, A7, A8, A9⟩ := A
  obtain ⟨rfl, hz⟩ := ab_if_inv hx
  split at hz
  · obtain ⟨ls', he, rfl⟩ := ab_so_inv hz
    intro L H locs cells slots I hL
    exact lv_astore A1 A2 hd hL.2 (by rw [← hL.1]; exact ab_s1_lt he) rfl (fun L' hL' => k L' H locs cells slots I (hL.st1 he hL'))
  · cases hz
theorem sx_astore_n (A : sd_At p s m args meth c y nL cc own dC dI tA B kd X) {pc n : Nat} {ls : ab_L} {st : List Value} {h : ab_H} {f' : ab_F} {j : Fin 4} (hd : decode cc pc = .ok (.astore_n j, n)) (hx : ab_ex X y (.astore_n j) n pc ls st h = some (.inl f')) (k : sd_Go p l e R s m args below meth c Q dC dI tA B kd c0 z0 nL f') : sd_Go p l e R s m args below meth c Q dC dI tA B kd c0 z0 nL (pc, ls, st, h) := by
  obtain ⟨A1, A2, A3, A4, A5, A6, A7, A8, A9⟩ := A
  obtain ⟨rfl, hz⟩ := ab_if_inv hx
  split at hz
  · obtain ⟨ls', he, rfl⟩ := ab_so_inv hz
    intro L H locs cells slots I hL
    exact lv_astore_n A1 A2 hd rfl hL.2 (by rw [← hL.1]; exact ab_s1_lt he) rfl (fun L' hL' => k L' H locs cells slots I (hL.st1 he hL'))
  · cases hz
theorem sx_lstore (A : sd_At p s m args meth c y nL cc own dC dI tA B kd X) {pc n : Nat} {ls : ab_L} {st : List Value} {h : ab_H} {f' : ab_F} {j : Nat} (hd : decode cc pc = .ok (.lstore j, n)) (hx : ab_ex X y (.lstore j) n pc ls st h = some (.inl f')) (k : sd_Go p l e R s m args below meth c Q dC dI tA B kd c0 z0 nL f') : sd_Go p l e R s m args below meth c Q dC dI tA B kd c0 z0 nL (pc, ls, st, h) := by
  obtain ⟨A1, A2, A3, A4, A5, A6, A7, A8, A9⟩ := A
  obtain ⟨rfl, hz⟩ := ab_if_inv hx
  split at hz
  · obtain ⟨ls', he, rfl⟩ := ab_so_inv hz
    intro L H locs cells slots I hL
    exact lv_lstore A1 A2 hd hL.2 (by rw [← hL.1]; exact ab_s2_lt he) rfl (fun L' hL' => k L' H locs cells slots I (hL.st2 he hL'))
  · cases hz
theorem sx_lstore_n (A : sd_At p s m args meth c y nL cc own dC dI tA B kd X) {pc n : Nat} {ls : ab_L} {st : List Value} {h : ab_H} {f' : ab_F} {j : Fin 4} (hd : decode cc pc = .ok (.lstore_n j, n)) (hx : ab_ex X y (.lstore_n j) n pc ls st h = some (.inl f')) (k : sd_Go p l e R s m args below meth c Q dC dI tA B kd c0 z0 nL f') : sd_Go p l e R s m args below meth c Q dC dI tA B kd c0 z0 nL (pc, ls, st, h) := by
  obtain ⟨A1, A2, A3, A4, A5, A6, A7, A8, A9⟩ := A
  obtain ⟨rfl, hz⟩ := ab_if_inv hx
  split at hz
  · obtain ⟨ls', he, rfl⟩ := ab_so_inv hz
    intro L H locs cells slots I hL
    exact lv_lstore_n A1 A2 hd rfl hL.2 (by rw [← hL.1]; exact ab_s2_lt he) rfl (fun L' hL' => k L' H locs cells slots I (hL.st2 he hL'))
  · cases hz
theorem sx_iinc (A : sd_At p s m args meth c y nL cc own dC dI tA B kd X) {pc n : Nat} {ls : ab_L} {st : List Value} {h : ab_H} {f' : ab_F} {j : Nat} {z : Int} (hd : decode cc pc = .ok (.iinc j z, n)) (hx : ab_ex X y (.iinc j z) n pc ls st h = some (.inl f')) (k : sd_Go p l e R s m args below meth c Q dC dI tA B kd c0 z0 nL f') : sd_Go p l e R s m args below meth c Q dC dI tA B kd c0 z0 nL (pc, ls, st, h) := by
  obtain ⟨A1, A2, A3, A4, A5, A6, A7, A8, A9⟩ := A
  obtain ⟨rfl, hz⟩ := ab_if_inv hx
  split at hz
  · rename_i xv hv
    obtain ⟨ls', he, rfl⟩ := ab_so_inv hz
    unfold ab_ld at hv
    split at hv
    · rename_i w hw
      cases hv
      intro L H locs cells slots I hL
      obtain ⟨kk, hk⟩ := List.getElem?_of_mem ((sd_al_mem (B := B) (kd := kd) (q := (j, .int xv))).mpr ⟨_, hw, rfl⟩)
      exact lv_iinc A1 A2 hd hL.2 hk rfl (by rw [← hL.1]; exact ab_s1_lt he) rfl (fun L' hL' => k L' H locs cells slots I (hL.st1 he hL'))
    · cases hv
  · cases hz
theorem sx_l2i (A : sd_At p s m args meth c y nL cc own dC dI tA B kd X) {pc n : Nat} {ls : ab_L} {st : List Value} {h : ab_H} {f' : ab_F} (hd : decode cc pc = .ok (.l2i, n)) (hx : ab_ex X y (.l2i) n pc ls st h = some (.inl f')) (k : sd_Go p l e R s m args below meth c Q dC dI tA B kd c0 z0 nL f') : sd_Go p l e R s m args below meth c Q dC dI tA B kd c0 z0 nL (pc, ls, st, h) := by
  obtain ⟨A1, A2, A3, A4, A5, A6, A7, A8, A9⟩ := A
  obtain ⟨rfl, hz⟩ := ab_if_inv hx
  split at hz
  · cases hz
    intro L H locs cells slots I hL
    exact lv_l2i A1 A2 hd rfl (k L H locs cells slots I hL)
  · cases hz
theorem sx_lcmp (A : sd_At p s m args meth c y nL cc own dC dI tA B kd X) {pc n : Nat} {ls : ab_L} {st : List Value} {h : ab_H} {f' : ab_F} (hd : decode cc pc = .ok (.lcmp, n)) (hx : ab_ex X y (.lcmp) n pc ls st h = some (.inl f')) (k : sd_Go p l e R s m args below meth c Q dC dI tA B kd c0 z0 nL f') : sd_Go p l e R s m args below meth c Q dC dI tA B kd c0 z0 nL (pc, ls, st, h) := by
  obtain ⟨A1, A2, A3, A4, A5, A6, A7, A8, A9⟩ := A
  obtain ⟨rfl, hz⟩ := ab_if_inv hx
  split at hz
  · cases hz
    intro L H locs cells slots I hL
    exact W.lcmp A1 A2 hd (k L H locs cells slots I hL)
  · cases hz
theorem sx_dup (A : sd_At p s m args meth c y nL cc own dC dI tA B kd X) {pc n : Nat} {ls : ab_L} {st : List Value} {h : ab_H} {f' : ab_F} (hd : decode cc pc = .ok (.dup, n)) (hx : ab_ex X y (.dup) n pc ls st h = some (.inl f')) (k : sd_Go p l e R s m args below meth c Q dC dI tA B kd c0 z0 nL f') : sd_Go p l e R s m args below meth c Q dC dI tA B kd c0 z0 nL (pc, ls, st, h) := by
  obtain ⟨A1, A2, A3, A4, A5, A6, A7, A8, A9⟩ := A
  obtain ⟨rfl, hz⟩ := ab_if_inv hx
  split at hz
  · obtain ⟨hc, hw⟩ := ab_if_inv hz
    cases hw
    intro L H locs cells slots I hL
    exact lv_dup A1 A2 hd (by rw [sd_v_cat]; exact hc) (k L H locs cells slots I hL)
  · cases hz
theorem sx_dup2 (A : sd_At p s m args meth c y nL cc own dC dI tA B kd X) {pc n : Nat} {ls : ab_L} {st : List Value} {h : ab_H} {f' : ab_F} (hd : decode cc pc = .ok (.dup2, n)) (hx : ab_ex X y (.dup2) n pc ls st h = some (.inl f')) (k : sd_Go p l e R s m args below meth c Q dC dI tA B kd c0 z0 nL f') : sd_Go p l e R s m args below meth c Q dC dI tA B kd c0 z0 nL (pc, ls, st, h) := by
  obtain ⟨A1, A2, A3, A4, A5, A6, A7, A8, A9⟩ := A
  obtain ⟨rfl, hz⟩ := ab_if_inv hx
  split at hz
  · obtain ⟨hc, hw⟩ := ab_if_inv hz
    cases hw
    intro L H locs cells slots I hL
    exact lv_dup2_11 A1 A2 hd (by rw [sd_v_cat]; exact hc.1) (by rw [sd_v_cat]; exact hc.2) (k L H locs cells slots I hL)
  · cases hz
theorem sx_pop (A : sd_At p s m args meth c y nL cc own dC dI tA B kd X) {pc n : Nat} {ls : ab_L} {st : List Value} {h : ab_H} {f' : ab_F} (hd : decode cc pc = .ok (.pop, n)) (hx : ab_ex X y (.pop) n pc ls st h = some (.inl f')) (k : sd_Go p l e R s m args below meth c Q dC dI tA B kd c0 z0 nL f') : sd_Go p l e R s m args below meth c Q dC dI tA B kd c0 z0 nL (pc, ls, st, h) := by
  obtain ⟨A1, A2, A3, A4, A5, A6, A7, A8, A9⟩ := A
  obtain ⟨rfl, hz⟩ := ab_if_inv hx
  split at hz
  · obtain ⟨hc, hw⟩ := ab_if_inv hz
    cases hw
    intro L H locs cells slots I hL
    exact lv_pop A1 A2 hd (by rw [sd_v_cat]; exact hc) (k L H locs cells slots I hL)
  · cases hz
theorem sx_goto (A : sd_At p s m args meth c y nL cc own dC dI tA B kd X) {pc n : Nat} {ls : ab_L} {st : List Value} {h : ab_H} {f' : ab_F} {off : Int} (hd : decode cc pc = .ok (.goto off, n)) (hx : ab_ex X y (.goto off) n pc ls st h = some (.inl f')) (k : sd_Go p l e R s m args below meth c Q dC dI tA B kd c0 z0 nL f') : sd_Go p l e R s m args below meth c Q dC dI tA B kd c0 z0 nL (pc, ls, st, h) := by
  obtain ⟨A1, A2, A3, A4, A5, A6, A7, A8, A9⟩ := A
  obtain ⟨rfl, hz⟩ := ab_if_inv hx
  obtain ⟨t, ht, rfl⟩ := ab_jp_inv hz
  intro L H locs cells slots I hL
  exact lv_goto A1 A2 hd ht (k L H locs cells slots I hL)
theorem sx_ifCond (A : sd_At p s m args meth c y nL cc own dC dI tA B kd X) {pc n : Nat} {ls : ab_L} {st : List Value} {h : ab_H} {f' : ab_F} {cd : Jvm.ClassFile.Cond} {off : Int} (hd : decode cc pc = .ok (.ifCond cd off, n)) (hx : ab_ex X y (.ifCond cd off) n pc ls st h = some (.inl f')) (k : sd_Go p l e R s m args below meth c Q dC dI tA B kd c0 z0 nL f') : sd_Go p l e R s m args below meth c Q dC dI tA B kd c0 z0 nL (pc, ls, st, h) := by
  obtain ⟨A1, A2, A3, A4, A5, A6, A7, A8, A9⟩ := A
  obtain ⟨⟨rfl, h0⟩, hz⟩ := ab_if_inv hx
  have ht : (pc : Int) + off = ((((pc : Int) + off).toNat : Nat) : Int) := (Int.toNat_of_nonneg h0).symm
  split at hz
  · split at hz
    · rename_i hc
      unfold ab_jp at hz
      rw [if_pos h0] at hz
      cases hz
      intro L H locs cells slots I hL
      have k2 := k L H locs cells slots I hL
      cases cd
      case eq => exact lv_if_eq A1 A2 hd ht (fun _ => k2) (fun q => absurd (of_decide_eq_true hc) q)
      case ge => exact lv_if_ge A1 A2 hd ht (fun _ => k2) (fun q => absurd (of_decide_eq_true hc) q)
      case gt => exact lv_if_gt A1 A2 hd ht (fun _ => k2) (fun q => absurd (of_decide_eq_true hc) q)
      case le => exact lv_if_le A1 A2 hd ht (fun _ => k2) (fun q => absurd (of_decide_eq_true hc) q)
      case lt => exact lv_if_lt A1 A2 hd ht (fun _ => k2) (fun q => absurd (of_decide_eq_true hc) q)
      case ne => exact lv_if_ne A1 A2 hd ht (fun _ => k2) (fun q => absurd q (of_decide_eq_true hc))
    · rename_i hc
      cases hz
      intro L H locs cells slots I hL
      have k2 := k L H locs cells slots I hL
      cases cd
      case eq => exact lv_if_eq A1 A2 hd ht (fun q => absurd (decide_eq_true q) hc) (fun _ => k2)
      case ge => exact lv_if_ge A1 A2 hd ht (fun q => absurd (decide_eq_true q) hc) (fun _ => k2)
      case gt => exact lv_if_gt A1 A2 hd ht (fun q => absurd (decide_eq_true q) hc) (fun _ => k2)
      case le => exact lv_if_le A1 A2 hd ht (fun q => absurd (decide_eq_true q) hc) (fun _ => k2)
      case lt => exact lv_if_lt A1 A2 hd ht (fun q => absurd (decide_eq_true q) hc) (fun _ => k2)
      case ne => exact lv_if_ne A1 A2 hd ht (fun q => absurd (decide_eq_true q) hc) (fun _ => k2)
  · cases hz
theorem sx_if_icmp (A : sd_At p s m args meth c y nL cc own dC dI tA B kd X) {pc n : Nat} {ls : ab_L} {st : List Value} {h : ab_H} {f' : ab_F} {cd : Jvm.ClassFile.Cond} {off : Int} (hd : decode cc pc = .ok (.if_icmp cd off, n)) (hx : ab_ex X y (.if_icmp cd off) n pc ls st h = some (.inl f')) (k : sd_Go p l e R s m args below meth c Q dC dI tA B kd c0 z0 nL f') : sd_Go p l e R s m args below meth c Q dC dI tA B kd c0 z0 nL (pc, ls, st, h) := by
  obtain ⟨A1, A2, A3, A4, A5, A6, A7, A8, A9⟩ := A
  obtain ⟨⟨rfl, h0⟩, hz⟩ := ab_if_inv hx
  have ht : (pc : Int) + off = ((((pc : Int) + off).toNat : Nat) : Int) := (Int.toNat_of_nonneg h0).symm
  split at hz
  · split at hz
    · rename_i hc
      unfold ab_jp at hz
      rw [if_pos h0] at hz
      cases hz
      intro L H locs cells slots I hL
      have k2 := k L H locs cells slots I hL
      cases cd
      case eq => exact lv_icmp_eq A1 A2 hd ht (fun _ => k2) (fun q => absurd (of_decide_eq_true hc) q)
      case ge => exact lv_icmp_ge A1 A2 hd ht (fun _ => k2) (fun q => absurd (of_decide_eq_true hc) q)
      case gt => exact lv_icmp_gt A1 A2 hd ht (fun _ => k2) (fun q => absurd (of_decide_eq_true hc) q)
      case le => exact lv_icmp_le A1 A2 hd ht (fun _ => k2) (fun q => absurd (of_decide_eq_true hc) q)
      case lt => exact lv_icmp_lt A1 A2 hd ht (fun _ => k2) (fun q => absurd (of_decide_eq_true hc) q)
      case ne => exact lv_icmp_ne A1 A2 hd ht (fun _ => k2) (fun q => absurd q (of_decide_eq_true hc))
    · rename_i hc
      cases hz
      intro L H locs cells slots I hL
      have k2 := k L H locs cells slots I hL
      cases cd
      case eq => exact lv_icmp_eq A1 A2 hd ht (fun q => absurd (decide_eq_true q) hc) (fun _ => k2)
      case ge => exact lv_icmp_ge A1 A2 hd ht (fun q => absurd (decide_eq_true q) hc) (fun _ => k2)
      case gt => exact lv_icmp_gt A1 A2 hd ht (fun q => absurd (decide_eq_true q) hc) (fun _ => k2)
      case le => exact lv_icmp_le A1 A2 hd ht (fun q => absurd (decide_eq_true q) hc) (fun _ => k2)
      case lt => exact lv_icmp_lt A1 A2 hd ht (fun q => absurd (decide_eq_true q) hc) (fun _ => k2)
      case ne => exact lv_icmp_ne A1 A2 hd ht (fun q => absurd (decide_eq_true q) hc) (fun _ => k2)
  · cases hz
theorem sx_tableswitch (A : sd_At p s m args meth c y nL cc own dC dI tA B kd X) {pc n : Nat} {ls : ab_L} {st : List Value} {h : ab_H} {f' : ab_F} {d lo hi : Int} {offs : Array Int} (hd : decode cc pc = .ok (.tableswitch d lo hi offs, n)) (hx : ab_ex X y (.tableswitch d lo hi offs) n pc ls st h = some (.inl f')) (k : sd_Go p l e R s m args below meth c Q dC dI tA B kd c0 z0 nL f') : sd_Go p l e R s m args below meth c Q dC dI tA B kd c0 z0 nL (pc, ls, st, h) := by
  obtain ⟨A1, A2, A3, A4, A5, A6, A7, A8, A9⟩ := A
  simp only [ab_ex] at hx
  split at hx
  · unfold ab_tsw at hx
    split at hx
    · rename_i hc
      obtain ⟨t, ht, rfl⟩ := ab_jp_inv hx
      intro L H locs cells slots I hL
      exact lv_tableOut A1 A2 hd hc ht (k L H locs cells slots I hL)
    · rename_i hc
      split at hx
      · rename_i off ho
        obtain ⟨t, ht, rfl⟩ := ab_jp_inv hx
        intro L H locs cells slots I hL
        exact lv_tableIn A1 A2 hd (fun q => hc (Or.inl q)) (fun q => hc (Or.inr q)) ho ht (k L H locs cells slots I hL)
      · cases hx
  · cases hx
theorem sx_lookupswitch (A : sd_At p s m args meth c y nL cc own dC dI tA B kd X) {pc n : Nat} {ls : ab_L} {st : List Value} {h : ab_H} {f' : ab_F} {d : Int} {ps : Array (Int × Int)} (hd : decode cc pc = .ok (.lookupswitch d ps, n)) (hx : ab_ex X y (.lookupswitch d ps) n pc ls st h = some (.inl f')) (k : sd_Go p l e R s m args below meth c Q dC dI tA B kd c0 z0 nL f') : sd_Go p l e R s m args below meth c Q dC dI tA B kd c0 z0 nL (pc, ls, st, h) := by
  obtain ⟨A1, A2, A3, A4, A5, A6, A7, A8, A9⟩ := A
  simp only [ab_ex] at hx
  split at hx
  · obtain ⟨hp, hz⟩ := ab_if_inv hx
    obtain ⟨t, ht, rfl⟩ := ab_jp_inv hz
    intro L H locs cells slots I hL
    exact lv_lookup A1 A2 hd hp rfl ht (k L H locs cells slots I hL)
  · cases hx
end SX
