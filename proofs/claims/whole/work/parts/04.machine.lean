/-! An abstract machine over the landed code: a heap is a shape (a list of cells: class or array, length, what refs they hold) and a memory of ints. Partial: what the system never does is none. -/
abbrev ab_C : Type := Nat × Nat × List (Option Value)
abbrev ab_H : Type := List ab_C × (Nat → Nat → Int32)
abbrev ab_L : Type := List (Option Value)
abbrev ab_F : Type := Nat × ab_L × List Value × ab_H
abbrev ab_X : Type := Option (Nat × (Nat → Int32))
abbrev ab_R : Type := ab_F ⊕ ((Nat × List Value × ab_F) ⊕ Option Value)
def ab_up (u : Nat → Nat → Int32) (k j : Nat) (x : Int32) : Nat → Nat → Int32 := fun a b => if a = k ∧ b = j then x else u a b
def ab_own (y : Nat) : Nat := match ab_ME y with | some e => e.2.2.2.2.1 | none => 99
def ab_ret (y : Nat) : Option FieldType := match ab_ME y with | some e => e.2.2.2.1 | none => none
def ab_ml (y : Nat) : Nat := match ab_ME y with | some e => e.2.2.1 | none => 0
def ab_ini (y : Nat) : Bool := match ab_ME y with | some e => decide (e.1.name = "<init>") | none => false
theorem ab_ME_of {k : Nat} {e : ab_Y} (h : ab_MT[k]? = some e) : ab_ME k = some e := by
  unfold ab_ME
  rw [if_neg]
  · exact h
  · intro hk
    subst hk
    have h1 := (List.getElem?_eq_some_iff.mp h).1
    exact absurd h1 (by decide +kernel)
theorem ab_ini_of {k : Nat} {e : ab_Y} (h : ab_MT[k]? = some e) : ab_ini k = decide (e.1.name = "<init>") := by unfold ab_ini; rw [ab_ME_of h]
def ab_go (pc : Nat) (ls : ab_L) (st : List Value) (h : ab_H) : Option ab_R := some (.inl (pc, ls, st, h))
def ab_jp (pc : Nat) (off : Int) (ls : ab_L) (st : List Value) (h : ab_H) : Option ab_R := if 0 ≤ (pc : Int) + off then ab_go ((pc : Int) + off).toNat ls st h else none
def ab_cc (c : Jvm.ClassFile.Cond) (x y : Int32) : Bool := match c with
  | .eq => decide (x = y)
  | .ne => decide (x ≠ y)
  | .lt => decide (x < y)
  | .ge => decide (y ≤ x)
  | .gt => decide (y < x)
  | .le => decide (x ≤ y)
def ab_ld (ls : ab_L) (i : Nat) : Option Value := match ls[i]? with
  | some (some v) => some v
  | _ => none
def ab_ki (ls : ab_L) : Nat → ab_L
  | 0 => ls
  | j + 1 => match ls[j]? with
    | some (some v) => if v.category = 2 then ls.set j none else ls
    | _ => ls
def ab_s1 (ls : ab_L) (i : Nat) (v : Value) : Option ab_L := if i < ls.length then some ((ab_ki ls i).set i (some v)) else none
def ab_s2 (ls : ab_L) (i : Nat) (v : Value) : Option ab_L := if i + 1 < ls.length then some (((ab_ki ls i).set (i + 1) none).set i (some v)) else none
/-- load, store: by what they carry -/
def ab_lo (o : Option Value) (pc : Nat) (ls : ab_L) (st : List Value) (h : ab_H) : Option ab_R := match o with
  | some v => ab_go pc ls (v :: st) h
  | none => none
def ab_li (ls : ab_L) (i : Nat) : Option Value := match ab_ld ls i with
  | some (.int x) => some (.int x)
  | _ => none
def ab_ll (ls : ab_L) (i : Nat) : Option Value := match ab_ld ls i with
  | some (.long x) => some (.long x)
  | _ => none
def ab_la (ls : ab_L) (i : Nat) : Option Value := match ab_ld ls i with
  | some (.ref x) => some (.ref x)
  | _ => none
def ab_so (o : Option ab_L) (pc : Nat) (st : List Value) (h : ab_H) : Option ab_R := match o with
  | some ls => ab_go pc ls st h
  | none => none
def ab_b2 (f : Int32 → Int32 → Int32) (pc : Nat) (ls : ab_L) (st : List Value) (h : ab_H) : Option ab_R := match st with
  | .int y :: .int x :: r => ab_go pc ls (.int (f x y) :: r) h
  | _ => none
def ab_d2 (f : Int32 → Int32 → Int32) (pc : Nat) (ls : ab_L) (st : List Value) (h : ab_H) : Option ab_R := match st with
  | .int y :: .int x :: r => if y = 0 then none else ab_go pc ls (.int (f x y) :: r) h
  | _ => none
def ab_b3 (f : Int64 → Int64 → Int64) (pc : Nat) (ls : ab_L) (st : List Value) (h : ab_H) : Option ab_R := match st with
  | .long y :: .long x :: r => ab_go pc ls (.long (f x y) :: r) h
  | _ => none
def ab_d3 (f : Int64 → Int64 → Int64) (pc : Nat) (ls : ab_L) (st : List Value) (h : ab_H) : Option ab_R := match st with
  | .long y :: .long x :: r => if y = 0 then none else ab_go pc ls (.long (f x y) :: r) h
  | _ => none
def ab_b4 (f : Int64 → Int32 → Int64) (pc : Nat) (ls : ab_L) (st : List Value) (h : ab_H) : Option ab_R := match st with
  | .int y :: .long x :: r => ab_go pc ls (.long (f x y) :: r) h
  | _ => none
def ab_u1 (f : Int32 → Value) (pc : Nat) (ls : ab_L) (st : List Value) (h : ab_H) : Option ab_R := match st with
  | .int x :: r => ab_go pc ls (f x :: r) h
  | _ => none
def ab_ldc (o i : Nat) : Option Value := match ab_f3 ab_LC o i with
  | some x => some (.int x)
  | none => (match ab_f3 ab_LS o i with
    | some k => some (.ref (10000 + k))
    | none => none)
def ab_rd (h : ab_H) (c k j : Nat) : Option Value := match h.1[k]? with
  | some (t, _, rs) => if t = c then (match rs[j]? with
    | some (some v) => some v
    | some none => some (.int (h.2 k j))
    | none => none) else none
  | none => none
def ab_gf (h : ab_H) (c k j : Nat) : Option Value := if c = 10 then (if 10000 ≤ k ∧ k < 10011 then (if j = 0 then some (.ref (k + 1000)) else if j = 1 then some (.int 0) else none) else none) else if c < 9 ∧ k < 10000 then ab_rd h c k j else none
def ab_ty (c j : Nat) : Option FieldType := match vwCl[c]? with
  | some r => if j < r.2.2 then parseFieldDescriptor (r.2.1 j).2.2.1 else none
  | none => none
def ab_fin (c j : Nat) : Bool := match vwCl[c]? with
  | some r => (r.2.1 j).2.2.2
  | none => true
def ab_wr (h : ab_H) (c k j : Nat) (v : Value) : Option ab_H := match h.1[k]? with
  | some (t, n, rs) => if t = c then (match rs[j]?, v with
    | some none, .int x => some (h.1, ab_up h.2 k j x)
    | some (some _), .ref r => some (h.1.set k (t, n, rs.set j (some (.ref r))), h.2)
    | _, _ => none) else none
  | none => none
def ab_pf (y c j pc : Nat) (ls : ab_L) (st : List Value) (h : ab_H) : Option ab_R := match st with
  | v :: .ref k :: r => (match ab_ty c j with
    | some ty => if c < 9 ∧ k < 10000 ∧ narrow ty v = v ∧ fits ty v = true ∧ (ab_fin c j = false ∨ (ab_ini y = true ∧ ab_own y = c)) then (match ab_wr h c k j v with
      | some h' => ab_go pc ls r h'
      | none => none) else none
    | none => none)
  | _ => none
def ab_ia (X : ab_X) (h : ab_H) (k : Nat) : ab_X := if k < 10000 then (match h.1[k]? with
  | some (t, n, _) => if t = 100 then some (n, h.2 k) else none
  | none => none) else if k = 12000 then some (7, fun j => ab_KA.getD j 0) else if k = 12001 then some (28, fun j => ab_BO.getD j 0) else if k = 13000 then X else none
def ab_ba (k : Nat) : Option (List Int32) := if 11000 ≤ k then ab_TB[k - 11000]? else none
def ab_ra (h : ab_H) (k : Nat) : Option (List (Option Value)) := if k < 10000 then (match h.1[k]? with
  | some (t, _, rs) => if t = 200 ∨ t = 204 then some rs else none
  | none => none) else none
def ab_al (X : ab_X) (h : ab_H) (k : Nat) : Option Nat := match ab_ra h k with
  | some rs => some rs.length
  | none => (match ab_ba k with
    | some b => some b.length
    | none => (if k = 12000 ∨ k = 12001 then none else match ab_ia X h k with
      | some a => some a.1
      | none => none))
def ab_ix (i : Int32) (n : Nat) : Bool := decide (¬ (i < 0 ∨ n ≤ i.toNatClampNeg))
def ab_alc (h : ab_H) (c : ab_C) : Option ab_H := if h.1.length < 9999 then some (h.1 ++ [c], fun a b => if a = h.1.length then 0 else h.2 a b) else none
def ab_nw (o : Option ab_H) (pc : Nat) (ls : ab_L) (st : List Value) (k : Nat) : Option ab_R := match o with
  | some h => ab_go pc ls (.ref k :: st) h
  | none => none
def ab_cat (st : List Value) : Bool := decide ((st.map fun v => v.category).sum ≤ 8)
def ab_isC (h : ab_H) (b c : Nat) : Bool := if c = 10 then decide (10000 ≤ b ∧ b < 10011) else (if c < 9 ∧ b < 10000 then (match h.1[b]? with
  | some (t, _, _) => decide (t = c)
  | none => false) else false)
def ab_cp (u : Nat → Nat → Int32) (s d sp dp n : Nat) : Nat → Nat → Int32 := fun a b => if a = d then va_cpy (u s) (u d) sp dp n b else u a b
def ab_acp (pc : Nat) (ls : ab_L) (st : List Value) (h : ab_H) : Option ab_R := match st with
  | .int n :: .int dp :: .ref d :: .int sp :: .ref s :: r => (match h.1[s]?, h.1[d]? with
    | some (t0, n0, _), some (t1, n1, _) => if t0 = 100 ∧ t1 = 100 ∧ s < 10000 ∧ d < 10000 ∧ ¬ n < 0 ∧ ¬ dp < 0 ∧ ¬ sp < 0 ∧ sp.toNatClampNeg + n.toNatClampNeg ≤ n0 ∧ dp.toNatClampNeg + n.toNatClampNeg ≤ n1 ∧ ab_cat r = true then ab_go pc ls r (h.1, ab_cp h.2 s d sp.toNatClampNeg dp.toNatClampNeg n.toNatClampNeg) else none
    | _, _ => none)
  | _ => none
/-- kd: 0 virtual, 1 special, 2 static -/
def ab_inv (y kd i pc : Nat) (ls : ab_L) (st : List Value) (h : ab_H) : Option ab_R := match ab_fd ab_LK (ab_own y) i with
  | none => none
  | some (k, _) => if k = 998 then (match st with
      | .ref a :: r => if kd = 1 ∧ ab_cat r = true then ab_go pc ls r h else none
      | _ => none)
    else if k = 999 then (if kd = 2 then ab_acp pc ls st h else none)
    else if k = 996 then (match st with
      | .int y :: .int x :: r => if kd = 2 ∧ ab_cat r = true then ab_go pc ls (.int (if x < y then y else x) :: r) h else none
      | _ => none)
    else if k = 997 then (match st with
      | .int y :: .int x :: r => if kd = 2 ∧ ab_cat r = true then ab_go pc ls (.int (if y < x then y else x) :: r) h else none
      | _ => none)
    else (match ab_MT[k]? with
      | none => none
      | some e => if e.2.2.2.2.2.1 ≤ st.length then (if e.2.2.2.2.2.2 = true then (if kd = 2 ∧ ab_cat (st.drop e.2.2.2.2.2.1) = true then some (.inr (.inl (k, (st.take e.2.2.2.2.2.1).reverse, (pc, ls, st.drop e.2.2.2.2.2.1, h)))) else none)
          else (match st.drop e.2.2.2.2.2.1 with
            | .ref b :: r => if ab_cat r = true ∧ ((kd = 0 ∧ ab_ini k = false ∧ ab_isC h b e.2.2.2.2.1 = true) ∨ (kd = 1 ∧ ab_ini k = true)) then some (.inr (.inl (k, .ref b :: (st.take e.2.2.2.2.2.1).reverse, (pc, ls, r, h)))) else none
            | _ => none)) else none)
def ab_rti (y : Nat) (st : List Value) : Option ab_R := match st with
  | [.int x] => (match ab_ret y with
    | some ty => if (ty = .int ∨ ty = .boolean ∨ ty = .byte) ∧ narrow ty (.int x) = .int x then some (.inr (.inr (some (.int x)))) else none
    | none => none)
  | _ => none
def ab_rtl (y : Nat) (st : List Value) : Option ab_R := match st with
  | [.long x] => if ab_ret y = some .long then some (.inr (.inr (some (.long x)))) else none
  | _ => none
def ab_rta (y : Nat) (st : List Value) : Option ab_R := match st with
  | [.ref x] => if ab_ret y = some (.object "java/lang/String") then some (.inr (.inr (some (.ref x)))) else none
  | _ => none
def ab_rtv (y : Nat) (st : List Value) : Option ab_R := match st with
  | [] => if ab_ret y = none then some (.inr (.inr none)) else none
  | _ => none
def ab_tsw (pc : Nat) (d lo hi : Int) (offs : Array Int) (x : Int32) (ls : ab_L) (st : List Value) (h : ab_H) : Option ab_R := if x.toInt < lo ∨ hi < x.toInt then ab_jp pc d ls st h else (match offs[(x.toInt - lo).toNat]? with
  | some off => ab_jp pc off ls st h
  | none => none)
def ab_ex (X : ab_X) (y : Nat) (i : Instr) (n pc : Nat) (ls : ab_L) (st : List Value) (h : ab_H) : Option ab_R := match i with
  | .iconst z => if n = 1 then ab_go (pc + 1) ls (.int (Int32.ofInt z) :: st) h else none
  | .lconst z => if n = 1 then ab_go (pc + 1) ls (.long (Int64.ofNat (z : Nat)) :: st) h else none
  | .bipush z => if n = 2 then ab_go (pc + 2) ls (.int (Int8.ofInt z).toInt32 :: st) h else none
  | .sipush z => if n = 3 then ab_go (pc + 3) ls (.int (Int16.ofInt z).toInt32 :: st) h else none
  | .ldc j => if n = 2 then ab_lo (ab_ldc (ab_own y) j) (pc + 2) ls st h else none
  | .ldc_w j => if n = 3 then (match ab_f3 ab_LC (ab_own y) j with
      | some x => ab_go (pc + 3) ls (.int x :: st) h
      | none => none) else none
  | .ldc2_w j => if n = 3 then (match ab_f3 ab_LL (ab_own y) j with
      | some x => ab_go (pc + 3) ls (.long x :: st) h
      | none => none) else none
  | .iload j => if n = 2 then ab_lo (ab_li ls j) (pc + 2) ls st h else none
  | .iload_n j => if n = 1 then ab_lo (ab_li ls (j : Nat)) (pc + 1) ls st h else none
  | .lload j => if n = 2 then ab_lo (ab_ll ls j) (pc + 2) ls st h else none
  | .lload_n j => if n = 1 then ab_lo (ab_ll ls (j : Nat)) (pc + 1) ls st h else none
  | .aload j => if n = 2 then ab_lo (ab_la ls j) (pc + 2) ls st h else none
  | .aload_n j => if n = 1 then ab_lo (ab_la ls (j : Nat)) (pc + 1) ls st h else none
  | .istore j => if n = 2 then (match st with
      | .int x :: r => ab_so (ab_s1 ls j (.int x)) (pc + 2) r h
      | _ => none) else none
  | .istore_n j => if n = 1 then (match st with
      | .int x :: r => ab_so (ab_s1 ls (j : Nat) (.int x)) (pc + 1) r h
      | _ => none) else none
  | .lstore j => if n = 2 then (match st with
      | .long x :: r => ab_so (ab_s2 ls j (.long x)) (pc + 2) r h
      | _ => none) else none
  | .lstore_n j => if n = 1 then (match st with
      | .long x :: r => ab_so (ab_s2 ls (j : Nat) (.long x)) (pc + 1) r h
      | _ => none) else none
  | .astore j => if n = 2 then (match st with
      | .ref x :: r => ab_so (ab_s1 ls j (.ref x)) (pc + 2) r h
      | _ => none) else none
  | .astore_n j => if n = 1 then (match st with
      | .ref x :: r => ab_so (ab_s1 ls (j : Nat) (.ref x)) (pc + 1) r h
      | _ => none) else none
  | .iinc j z => if n = 3 then (match ab_ld ls j with
      | some (.int x) => ab_so (ab_s1 ls j (.int (x + Int32.ofInt z))) (pc + 3) st h
      | _ => none) else none
  | .iadd => if n = 1 then ab_b2 (fun x y => x + y) (pc + 1) ls st h else none
  | .isub => if n = 1 then ab_b2 (fun x y => x - y) (pc + 1) ls st h else none
  | .imul => if n = 1 then ab_b2 (fun x y => x * y) (pc + 1) ls st h else none
  | .iand => if n = 1 then ab_b2 (fun x y => x &&& y) (pc + 1) ls st h else none
  | .ior => if n = 1 then ab_b2 (fun x y => x ||| y) (pc + 1) ls st h else none
  | .ixor => if n = 1 then ab_b2 (fun x y => x ^^^ y) (pc + 1) ls st h else none
  | .ishl => if n = 1 then ab_b2 (fun x y => x <<< (y &&& 31)) (pc + 1) ls st h else none
  | .ishr => if n = 1 then ab_b2 (fun x y => x >>> (y &&& 31)) (pc + 1) ls st h else none
  | .iushr => if n = 1 then ab_b2 (fun x y => (x.toUInt32 >>> (y.toUInt32 &&& Int32.toUInt32 31)).toInt32) (pc + 1) ls st h else none
  | .idiv => if n = 1 then ab_d2 (fun x y => x / y) (pc + 1) ls st h else none
  | .irem => if n = 1 then ab_d2 (fun x y => x - x / y * y) (pc + 1) ls st h else none
  | .ineg => if n = 1 then ab_u1 (fun x => .int (-x)) (pc + 1) ls st h else none
  | .lsub => if n = 1 then ab_b3 (fun x y => x - y) (pc + 1) ls st h else none
  | .lmul => if n = 1 then ab_b3 (fun x y => x * y) (pc + 1) ls st h else none
  | .land => if n = 1 then ab_b3 (fun x y => x &&& y) (pc + 1) ls st h else none
  | .lor => if n = 1 then ab_b3 (fun x y => x ||| y) (pc + 1) ls st h else none
  | .ldiv => if n = 1 then ab_d3 (fun x y => x / y) (pc + 1) ls st h else none
  | .lrem => if n = 1 then ab_d3 (fun x y => x - x / y * y) (pc + 1) ls st h else none
  | .lshl => if n = 1 then ab_b4 (fun x y => x <<< (y.toInt64 &&& 63)) (pc + 1) ls st h else none
  | .lshr => if n = 1 then ab_b4 (fun x y => x >>> (y.toInt64 &&& 63)) (pc + 1) ls st h else none
  | .lushr => if n = 1 then ab_b4 (fun x y => (x.toUInt64 >>> (y.toInt64.toUInt64 &&& Int64.toUInt64 63)).toInt64) (pc + 1) ls st h else none
  | .i2l => if n = 1 then ab_u1 (fun x => .long x.toInt64) (pc + 1) ls st h else none
  | .i2b => if n = 1 then ab_u1 (fun x => .int x.toInt8.toInt32) (pc + 1) ls st h else none
  | .i2s => if n = 1 then ab_u1 (fun x => .int x.toInt16.toInt32) (pc + 1) ls st h else none
  | .i2c => if n = 1 then ab_u1 (fun x => .int (x.toUInt32 % 65536).toInt32) (pc + 1) ls st h else none
  | .l2i => if n = 1 then (match st with
      | .long x :: r => ab_go (pc + 1) ls (.int x.toInt32 :: r) h
      | _ => none) else none
  | .lcmp => if n = 1 then (match st with
      | .long y :: .long x :: r => ab_go (pc + 1) ls (.int (lg_cmp x y) :: r) h
      | _ => none) else none
  | .dup => if n = 1 then (match st with
      | v :: r => if v.category = 1 then ab_go (pc + 1) ls (v :: v :: r) h else none
      | _ => none) else none
  | .dup2 => if n = 1 then (match st with
      | v :: w :: r => if v.category = 1 ∧ w.category = 1 then ab_go (pc + 1) ls (v :: w :: v :: w :: r) h else none
      | _ => none) else none
  | .pop => if n = 1 then (match st with
      | v :: r => if v.category = 1 then ab_go (pc + 1) ls r h else none
      | _ => none) else none
  | .ifCond c off => if n = 3 ∧ 0 ≤ (pc : Int) + off then (match st with
      | .int x :: r => if ab_cc c x 0 = true then ab_jp pc off ls r h else ab_go (pc + 3) ls r h
      | _ => none) else none
  | .if_icmp c off => if n = 3 ∧ 0 ≤ (pc : Int) + off then (match st with
      | .int y :: .int x :: r => if ab_cc c x y = true then ab_jp pc off ls r h else ab_go (pc + 3) ls r h
      | _ => none) else none
  | .goto off => if n = 3 then ab_jp pc off ls st h else none
  | .tableswitch d lo hi offs => (match st with
      | .int x :: r => ab_tsw pc d lo hi offs x ls r h
      | _ => none)
  | .lookupswitch d ps => (match st with
      | .int x :: r => if (ps.toList.zip (ps.toList.drop 1)).all (fun (a, next) => a.1 < next.1) = true then ab_jp pc (Op.lookupswitch.offset ps.toList d x.toInt) ls r h else none
      | _ => none)
  | .getfield j => if n = 3 then (match ab_fd ab_FL (ab_own y) j, st with
      | some (c, f), .ref k :: r => ab_lo (ab_gf h c k f) (pc + 3) ls r h
      | _, _ => none) else none
  | .putfield j => if n = 3 then (match ab_fd ab_FL (ab_own y) j with
      | some (c, f) => ab_pf y c f (pc + 3) ls st h
      | none => none) else none
  | .getstatic j => if n = 3 then (match ab_f3 ab_GS (ab_own y) j with
      | some v => ab_go (pc + 3) ls (v.1 :: st) h
      | none => none) else none
  | .iaload => if n = 1 then (match st with
      | .int z :: .ref k :: r => (match ab_ia X h k with
        | some a => if ab_ix z a.1 = true then ab_go (pc + 1) ls (.int (a.2 z.toNatClampNeg) :: r) h else none
        | none => none)
      | _ => none) else none
  | .baload => if n = 1 then (match st with
      | .int z :: .ref k :: r => (match ab_ba k with
        | some a => if ab_ix z a.length = true then ab_go (pc + 1) ls (.int (a.getD z.toNatClampNeg 0) :: r) h else none
        | none => none)
      | _ => none) else none
  | .aaload => if n = 1 then (match st with
      | .int z :: .ref k :: r => (match ab_ra h k with
        | some a => if ab_ix z a.length = true then (match a[z.toNatClampNeg]? with
            | some (some (.ref v)) => ab_go (pc + 1) ls (.ref v :: r) h
            | _ => none) else none
        | none => none)
      | _ => none) else none
  | .iastore => if n = 1 then (match st with
      | .int x :: .int z :: .ref k :: r => if k < 10000 then (match h.1[k]? with
        | some (t, m, _) => if t = 100 ∧ ab_ix z m = true then ab_go (pc + 1) ls r (h.1, ab_up h.2 k z.toNatClampNeg x) else none
        | none => none) else none
      | _ => none) else none
  | .aastore => if n = 1 then (match st with
      | .ref v :: .int z :: .ref k :: r => if k < 10000 ∧ v < 10000 then (match h.1[k]?, h.1[v]? with
        | some (t, m, rs), some (tv, _, _) => if (t = 200 ∨ t = 204) ∧ t = 200 + tv ∧ ab_ix z rs.length = true then ab_go (pc + 1) ls r (h.1.set k (t, m, rs.set z.toNatClampNeg (some (.ref v))), h.2) else none
        | _, _ => none) else none
      | _ => none) else none
  | .arraylength => if n = 1 then (match st with
      | .ref k :: r => (match ab_al X h k with
        | some m => ab_go (pc + 1) ls (.int (Int32.ofNat m) :: r) h
        | none => none)
      | _ => none) else none
  | .new j => if n = 3 then (match ab_f3 ab_CL (ab_own y) j with
      | some c => (match ab_DF[c]? with
        | some rs => ab_nw (ab_alc h (c, rs.length, rs)) (pc + 3) ls st h.1.length
        | none => none)
      | none => none) else none
  | .newarray t => if n = 2 ∧ t = .int then (match st with
      | .int z :: r => if ¬ z < 0 ∧ z.toNatClampNeg ≤ 100000 then ab_nw (ab_alc h (100, z.toNatClampNeg, [])) (pc + 2) ls r h.1.length else none
      | _ => none) else none
  | .anewarray j => if n = 3 then (match ab_f3 ab_CL (ab_own y) j, st with
      | some c, .int z :: r => if ¬ z < 0 ∧ z.toNatClampNeg ≤ 100000 ∧ (c = 0 ∨ c = 4) then ab_nw (ab_alc h (200 + c, z.toNatClampNeg, List.replicate z.toNatClampNeg (some .null))) (pc + 3) ls r h.1.length else none
      | _, _ => none) else none
  | .invokevirtual j => if n = 3 then ab_inv y 0 j (pc + 3) ls st h else none
  | .invokespecial j => if n = 3 then ab_inv y 1 j (pc + 3) ls st h else none
  | .invokestatic j => if n = 3 then ab_inv y 2 j (pc + 3) ls st h else none
  | .ireturn => if n = 1 then ab_rti y st else none
  | .lreturn => if n = 1 then ab_rtl y st else none
  | .areturn => if n = 1 then ab_rta y st else none
  | .return_ => if n = 1 then ab_rtv y st else none
  | _ => none
def ab_stp (X : ab_X) (y : Nat) (s : ab_F) : Option ab_R := match ab_ins y s.1 with
  | some (i, n) => ab_ex X y i n s.1 s.2.1 s.2.2.1 s.2.2.2
  | none => none
/-- behind a call -/
def ab_res (s : ab_F) (r : Option Value) (h : ab_H) : ab_F := (s.1, s.2.1, r.toList ++ s.2.2.1, h)
def ab_ent (n : Nat) (as : List Value) : ab_L :=
  let l := as.flatMap fun v => if v.category = 2 then [some v, none] else [some v]
  l ++ List.replicate (n - l.length) none
def ab_run (C : Nat → List Value → ab_H → Option Value → ab_H → Prop) (X : ab_X) (y : Nat) : Nat → ab_F → Option Value → ab_H → Prop
  | 0, _, _, _ => False
  | n + 1, s, r, h' => match ab_stp X y s with
    | some (.inl s') => ab_run C X y n s' r h'
    | some (.inr (.inl (k, as, s'))) => ∃ r1 h1, C k as s'.2.2.2 r1 h1 ∧ ab_run C X y n (ab_res s' r1 h1) r h'
    | some (.inr (.inr v)) => r = v ∧ h' = s.2.2.2
    | none => False
def ab_cal (X : ab_X) : Nat → Nat → List Value → ab_H → Option Value → ab_H → Prop
  | 0, _, _, _, _, _ => False
  | d + 1, y, as, h, r, h' => (ab_ent (ab_ml y) as).length = ab_ml y ∧ ∃ n, ab_run (ab_cal X d) X y n (0, ab_ent (ab_ml y) as, [], h) r h'
/-- the same, done -/
def ab_runE (C : Nat → List Value → ab_H → Option (Option Value × ab_H)) (X : ab_X) (y : Nat) : Nat → ab_F → Option (Option Value × ab_H)
  | 0, _ => none
  | n + 1, s => match ab_stp X y s with
    | some (.inl s') => ab_runE C X y n s'
    | some (.inr (.inl (k, as, s'))) => (match C k as s'.2.2.2 with
      | some (r1, h1) => ab_runE C X y n (ab_res s' r1 h1)
      | none => none)
    | some (.inr (.inr v)) => some (v, s.2.2.2)
    | none => none
def ab_calE (X : ab_X) (N : Nat) : Nat → Nat → List Value → ab_H → Option (Option Value × ab_H)
  | 0, _, _, _ => none
  | d + 1, y, as, h => if (ab_ent (ab_ml y) as).length = ab_ml y then ab_runE (ab_calE X N d) X y N (0, ab_ent (ab_ml y) as, [], h) else none
theorem ab_runE_run {C : Nat → List Value → ab_H → Option (Option Value × ab_H)} {D : Nat → List Value → ab_H → Option Value → ab_H → Prop} (hC : ∀ k as h r h', C k as h = some (r, h') → D k as h r h') {X : ab_X} {y : Nat} : ∀ (n : Nat) (s : ab_F) (r : Option Value) (h' : ab_H), ab_runE C X y n s = some (r, h') → ab_run D X y n s r h'
  | 0, _, _, _, e => by cases e
  | n + 1, s, r, h', e => by
    unfold ab_runE at e
    unfold ab_run
    split at e
    · rename_i s' hs
      exact ab_runE_run hC n s' r h' e
    · rename_i k as s' hs
      split at e
      · rename_i r1 h1 hc
        exact ⟨r1, h1, hC _ _ _ _ _ hc, ab_runE_run hC n _ r h' e⟩
      · cases e
    · rename_i v hs
      cases e
      exact ⟨rfl, rfl⟩
    · cases e
theorem ab_calE_cal {X : ab_X} {N : Nat} : ∀ (d y : Nat) (as : List Value) (h : ab_H) (r : Option Value) (h' : ab_H), ab_calE X N d y as h = some (r, h') → ab_cal X d y as h r h'
  | 0, _, _, _, _, _, e => by cases e
  | d + 1, y, as, h, r, h', e => by
    unfold ab_calE at e
    split at e
    · rename_i hl
      exact ⟨hl, N, ab_runE_run (fun k as h r h' q => ab_calE_cal d k as h r h' q) N _ r h' e⟩
    · cases e
theorem ab_ia_mono {X : ab_X} {h : ab_H} {k : Nat} {a : Nat × (Nat → Int32)} (e : ab_ia none h k = some a) : ab_ia X h k = some a := by
  unfold ab_ia at e ⊢
  split
  · rename_i h1; rw [if_pos h1] at e; exact e
  · rename_i h1; rw [if_neg h1] at e
    split
    · rename_i h2; rw [if_pos h2] at e; exact e
    · rename_i h2; rw [if_neg h2] at e
      split
      · rename_i h3; rw [if_pos h3] at e; exact e
      · rename_i h3; rw [if_neg h3] at e
        split at e <;> cases e
theorem ab_al_mono {X : ab_X} {h : ab_H} {k a : Nat} (e : ab_al none h k = some a) : ab_al X h k = some a := by
  unfold ab_al at e ⊢
  split at e
  · exact e
  · split at e
    · exact e
    · split at e
      · cases e
      · rename_i h3
        rw [if_neg h3]
        split at e
        · rename_i q hq
          rw [ab_ia_mono hq]
          exact e
        · cases e
theorem ab_ex_mono {X : ab_X} {y : Nat} {i : Instr} {n pc : Nat} {ls : ab_L} {st : List Value} {h : ab_H} {r : ab_R} (e : ab_ex none y i n pc ls st h = some r) : ab_ex X y i n pc ls st h = some r := by
  cases i
  case iaload =>
    simp only [ab_ex] at e ⊢
    split at e
    · rename_i hn
      rw [if_pos hn]
      split at e
      · split at e
        · rename_i a ha
          rw [ab_ia_mono ha]
          exact e
        · cases e
      · cases e
    · cases e
  case arraylength =>
    simp only [ab_ex] at e ⊢
    split at e
    · rename_i hn
      rw [if_pos hn]
      split at e
      · split at e
        · rename_i a ha
          rw [ab_al_mono ha]
          exact e
        · cases e
      · cases e
    · cases e
  all_goals exact e
theorem ab_stp_mono {X : ab_X} {y : Nat} {s : ab_F} {r : ab_R} (e : ab_stp none y s = some r) : ab_stp X y s = some r := by
  unfold ab_stp at e ⊢
  split at e
  · exact ab_ex_mono e
  · cases e
theorem ab_run_mono {C D : Nat → List Value → ab_H → Option Value → ab_H → Prop} (hC : ∀ k as h r h', C k as h r h' → D k as h r h') {X : ab_X} {y : Nat} : ∀ (n : Nat) (s : ab_F) (r : Option Value) (h' : ab_H), ab_run C none y n s r h' → ab_run D X y n s r h'
  | 0, _, _, _, e => e
  | n + 1, s, r, h', e => by
    unfold ab_run at e ⊢
    split at e
    · rename_i s' hs
      rw [ab_stp_mono hs]
      exact ab_run_mono hC n s' r h' e
    · rename_i k as s' hs
      rw [ab_stp_mono hs]
      obtain ⟨r1, h1, e1, e2⟩ := e
      exact ⟨r1, h1, hC _ _ _ _ _ e1, ab_run_mono hC n _ r h' e2⟩
    · rename_i v hs
      rw [ab_stp_mono hs]
      exact e
    · exact e.elim
theorem ab_cal_mono {X : ab_X} : ∀ (d y : Nat) (as : List Value) (h : ab_H) (r : Option Value) (h' : ab_H), ab_cal none d y as h r h' → ab_cal X d y as h r h'
  | 0, _, _, _, _, _, e => e
  | d + 1, y, as, h, r, h', ⟨hl, n, e⟩ => ⟨hl, n, ab_run_mono (fun k as h r h' q => ab_cal_mono d k as h r h' q) n _ r h' e⟩
theorem ab_run_sub {C D : Nat → List Value → ab_H → Option Value → ab_H → Prop} (hC : ∀ k as h r h', C k as h r h' → D k as h r h') {X : ab_X} {y : Nat} : ∀ (n : Nat) (s : ab_F) (r : Option Value) (h' : ab_H), ab_run C X y n s r h' → ab_run D X y n s r h'
  | 0, _, _, _, e => e
  | n + 1, s, r, h', e => by
    unfold ab_run at e ⊢
    split at e
    · exact ab_run_sub hC n _ r h' e
    · obtain ⟨r1, h1, e1, e2⟩ := e
      exact ⟨r1, h1, hC _ _ _ _ _ e1, ab_run_sub hC n _ r h' e2⟩
    · exact e
    · exact e.elim
theorem ab_cal_le {X : ab_X} : ∀ (d d' y : Nat) (as : List Value) (h : ab_H) (r : Option Value) (h' : ab_H), d ≤ d' → ab_cal X d y as h r h' → ab_cal X d' y as h r h'
  | 0, _, _, _, _, _, _, _, e => e.elim
  | d + 1, 0, _, _, _, _, _, hd, _ => absurd hd (Nat.not_succ_le_zero d)
  | d + 1, d' + 1, y, as, h, r, h', hd, ⟨hl, n, e⟩ => ⟨hl, n, ab_run_sub (fun k as h r h' q => ab_cal_le d d' k as h r h' (Nat.le_of_succ_le_succ hd) q) n _ r h' e⟩
