/-! What the abstract machine does, the machine does. B: where the system's cells begin (all cells of it lie there, one behind the other); kd: where constants lie. -/
def sd_ad (B : Nat) (kd : Nat → Nat) (k : Nat) : Nat := if k < 10000 then B + k else kd k
def sd_v (B : Nat) (kd : Nat → Nat) : Value → Value
  | .ref k => .ref (sd_ad B kd k)
  | v => v
theorem sd_v_cat (B : Nat) (kd : Nat → Nat) (v : Value) : (sd_v B kd v).category = v.category := by cases v <;> rfl
def sd_tys (tA : Nat → ClassId) : List (ClassId × FieldType) := [(tA 0, .int), (tA 1, .object RX0), (tA 2, .object RX4)]
def sd_rf (B : Nat) (kd : Nat → Nat) (rs : List (Option Value)) : Nat → Option Nat := fun j => match rs[j]? with
  | some (some (.ref r)) => some (sd_ad B kd r)
  | _ => none
def sd_fs (B : Nat) (kd : Nat → Nat) (u : Nat → Int32) (rs : List (Option Value)) : List Value := rs.mapIdx (fun j o => match o with
  | some v => sd_v B kd v
  | none => .int (u j))
def sd_E (B : Nat) (kd : Nat → Nat) (tA : Nat → ClassId) (u : Nat → Nat → Int32) (k : Nat) (c : ab_C) : va_E :=
  if c.1 = 100 then .inl (tA 0, c.2.1, .inl (u k)) else if c.1 = 200 then .inl (tA 1, c.2.2.length, .inr (.inr (.inr (.inr (sd_rf B kd c.2.2))))) else if c.1 = 204 then .inl (tA 2, c.2.2.length, .inr (.inr (.inr (.inr (sd_rf B kd c.2.2))))) else .inr (c.1, sd_fs B kd (u k) c.2.2)
def sd_ws (B : Nat) (kd : Nat → Nat) (tA : Nat → ClassId) (h : ab_H) : va_W := h.1.mapIdx (fun k c => (B + k, sd_E B kd tA h.2 k c))
theorem sd_ws_get (B : Nat) (kd : Nat → Nat) (tA : Nat → ClassId) (h : ab_H) (k : Nat) : (sd_ws B kd tA h)[k]? = (h.1[k]?).map (fun c => (B + k, sd_E B kd tA h.2 k c)) := by simp [sd_ws]
theorem sd_ws_at {B : Nat} {kd : Nat → Nat} {tA : Nat → ClassId} {h : ab_H} {k : Nat} {c : ab_C} (hc : h.1[k]? = some c) : (sd_ws B kd tA h)[k]? = some (B + k, sd_E B kd tA h.2 k c) := by rw [sd_ws_get, hc]; rfl
theorem sd_fs_get (B : Nat) (kd : Nat → Nat) (u : Nat → Int32) (rs : List (Option Value)) (j : Nat) : (sd_fs B kd u rs)[j]? = (rs[j]?).map (fun o => match o with
  | some v => sd_v B kd v
  | none => .int (u j)) := by simp [sd_fs]
theorem sd_E_int {B : Nat} {kd : Nat → Nat} {tA : Nat → ClassId} {u : Nat → Nat → Int32} {k n : Nat} {rs : List (Option Value)} : sd_E B kd tA u k (100, n, rs) = .inl (tA 0, n, .inl (u k)) := rfl
theorem sd_E_f {B : Nat} {kd : Nat → Nat} {tA : Nat → ClassId} {u : Nat → Nat → Int32} {k n : Nat} {rs : List (Option Value)} : sd_E B kd tA u k (200, n, rs) = .inl (tA 1, rs.length, .inr (.inr (.inr (.inr (sd_rf B kd rs))))) := rfl
theorem sd_E_s {B : Nat} {kd : Nat → Nat} {tA : Nat → ClassId} {u : Nat → Nat → Int32} {k n : Nat} {rs : List (Option Value)} : sd_E B kd tA u k (204, n, rs) = .inl (tA 2, rs.length, .inr (.inr (.inr (.inr (sd_rf B kd rs))))) := rfl
theorem sd_E_o {B : Nat} {kd : Nat → Nat} {tA : Nat → ClassId} {u : Nat → Nat → Int32} {k c n : Nat} {rs : List (Option Value)} (hc : c < 9) : sd_E B kd tA u k (c, n, rs) = .inr (c, sd_fs B kd (u k) rs) := by
  unfold sd_E
  rw [if_neg (show ¬ c = 100 by omega), if_neg (show ¬ c = 200 by omega), if_neg (show ¬ c = 204 by omega)]
def sd_W (dC : Nat → ClassId) (dI : Nat → Nat → Nat) (tA : Nat → ClassId) (B : Nat) (kd : Nat → Nat) (h : ab_H) (H : Heap) : Prop := H.size = B + h.1.length ∧ va_P (dC, dI) vwCl (sd_ws B kd tA h) H
def sd_lens : List Nat := ab_TB.map List.length
/-- what is constant: classes, statics, texts, the script -/
def sd_K (dC : Nat → ClassId) (dI : Nat → Nat → Nat) (tA : Nat → ClassId) (B : Nat) (kd : Nat → Nat) (X : ab_X) (U : State) (H : Heap) : Prop :=
  va_K (dC, dI) vwCl (sd_tys tA) U ∧ va_Z RX7 "KIND_ABOVE" "[I" (.ref (kd 12000)) (fun q => B ≤ q) U H ∧ va_Z RX6 "BODIES" "[I" (.ref (kd 12001)) (fun q => B ≤ q) U H ∧ va_Z RJ0 "COMPACT_STRINGS" "Z" (.int 1) (fun q => B ≤ q) U H ∧
  va_T .int (kd 12000) 7 (fun j => .int (ab_KA.getD j 0)) (fun q => B ≤ q) U H ∧ va_T .int (kd 12001) 28 (fun j => .int (ab_BO.getD j 0)) (fun q => B ≤ q) U H ∧
  (∀ a, X = some a → va_T .int (kd 13000) a.1 (fun j => .int (a.2 j)) (fun q => B ≤ q) U H) ∧
  vk_S 11 sd_lens ab_TB (fun i => kd (10000 + i)) (fun i => kd (11000 + i)) (fun q => B ≤ q) U H ∧
  (∀ (a : String) (i : Nat) (x : MethodName) (h : String), Cond.methodLinkNest a i x h ∈ lw_tbl → va_Nw (.methodLinkNest a i x h) U) ∧ (∀ (a : String) (i : Nat) (b n d h : String), Cond.fieldLinkNest a i b n d h ∈ lw_tbl → va_Nw (.fieldLinkNest a i b n d h) U) ∧ va_AO RX0 U ∧ va_AO RX4 U ∧
  ∀ (o i k : Nat) (cn tx : String), (o, i, k) ∈ ab_LS → ab_cn[o]? = some cn → ab_TX[k]? = some tx → vk_R cn i tx (kd (10000 + k)) U
theorem sd_K.warm {dC : Nat → ClassId} {dI : Nat → Nat → Nat} {tA : Nat → ClassId} {B : Nat} {kd : Nat → Nat} {X : ab_X} {s U : State} {H H1 : Heap} (h : sd_K dC dI tA B kd X s H) (hW : s.WarmedH U.vm) (hq : ∀ a : Nat, a < H.size → ¬ B ≤ a → H1[a]? = H[a]?) : sd_K dC dI tA B kd X U H1 := by
  obtain ⟨h1, h2, h3, h4, h5, h6, h7, h8, g1, g2, g3, g4, h9⟩ := h
  exact ⟨va_K.moved hW.alike h1, (h2.moved hW.alike).kept hq, (h3.moved hW.alike).kept hq, (h4.moved hW.alike).kept hq, (h5.moved hW.alike).kept hq, (h6.moved hW.alike).kept hq, fun a e => ((h7 a e).moved hW.alike).kept hq, (h8.moved hW.alike).kept hq, fun a i x h q => (g1 a i x h q).warmM hW, fun a i b n d h q => (g2 a i b n d h q).warmF hW, g3.moved hW.alike, g4.moved hW.alike, fun o i k cn tx a b d => (h9 o i k cn tx a b d).warm hW⟩
theorem sd_K.same {dC : Nat → ClassId} {dI : Nat → Nat → Nat} {tA : Nat → ClassId} {B : Nat} {kd : Nat → Nat} {X : ab_X} {s U : State} {H : Heap} (h : sd_K dC dI tA B kd X s H) (hv : U.vm = s.vm) : sd_K dC dI tA B kd X U H := by
  have ha : s.vm.Alike U.vm := by rw [hv]; exact Vm.Alike.refl _
  obtain ⟨h1, h2, h3, h4, h5, h6, h7, h8, g1, g2, g3, g4, h9⟩ := h
  exact ⟨va_K.moved ha h1, h2.moved ha, h3.moved ha, h4.moved ha, h5.moved ha, h6.moved ha, fun a e => (h7 a e).moved ha, h8.moved ha, fun a i x h q => (g1 a i x h q).same rfl hv.symm, fun a i b n d h q => (g2 a i b n d h q).same rfl hv.symm, g3.moved ha, g4.moved ha, fun o i k cn tx a b d => (h9 o i k cn tx a b d).same hv⟩
/-- the locals that are known -/
def sd_al (B : Nat) (kd : Nat → Nat) (ls : ab_L) : List (Nat × Value) := (List.range ls.length).filterMap (fun i => match ls[i]? with
  | some (some v) => some (i, sd_v B kd v)
  | _ => none)
theorem sd_al_mem {B : Nat} {kd : Nat → Nat} {ls : ab_L} {q : Nat × Value} : q ∈ sd_al B kd ls ↔ ∃ v, ls[q.1]? = some (some v) ∧ q.2 = sd_v B kd v := by
  unfold sd_al
  rw [List.mem_filterMap]
  constructor
  · rintro ⟨i, -, hi⟩
    split at hi
    · rename_i v hv
      cases hi
      exact ⟨v, hv, rfl⟩
    · cases hi
  · rintro ⟨v, hv, h2⟩
    refine ⟨q.1, List.mem_range.mpr (List.getElem?_eq_some_iff.mp hv).1, ?_⟩
    rw [hv]
    show some (q.1, sd_v B kd v) = some q
    rw [← h2]
def sd_LH (B : Nat) (kd : Nat → Nat) (L : Array Slot) (nL : Nat) (ls : ab_L) : Prop := ls.length = nL ∧ lv_has L nL (sd_al B kd ls)
theorem sd_LH.get {B : Nat} {kd : Nat → Nat} {L : Array Slot} {nL : Nat} {ls : ab_L} (h : sd_LH B kd L nL ls) {i : Nat} {v : Value} (hv : ls[i]? = some (some v)) : L[i]? = some (.val (sd_v B kd v)) := h.2.2.2 (i, sd_v B kd v) (sd_al_mem.mpr ⟨v, hv, rfl⟩)
theorem sd_has_sub {L : Array Slot} {nL : Nat} {l l' : List (Nat × Value)} (h : lv_has L nL l) (hs : ∀ q ∈ l', q ∈ l) : lv_has L nL l' := ⟨h.1, h.2.1, fun q hq => h.2.2 q (hs q hq)⟩
theorem ab_ki_len (ls : ab_L) (i : Nat) : (ab_ki ls i).length = ls.length := by
  cases i with
  | zero => rfl
  | succ j =>
    simp only [ab_ki]
    split
    · split
      · exact List.length_set
      · rfl
    · rfl
theorem ab_ki_get {ls : ab_L} {i j : Nat} {v : Value} (h : (ab_ki ls i)[j]? = some (some v)) : ls[j]? = some (some v) ∧ ¬ (j + 1 = i ∧ v.category = 2) := by
  cases i with
  | zero => exact ⟨h, by omega⟩
  | succ k =>
    simp only [ab_ki] at h
    by_cases hj : j = k
    · subst hj
      split at h
      · rename_i w hw
        split at h
        · rename_i hc
          have hlt := (List.getElem?_eq_some_iff.mp hw).1
          rw [List.getElem?_set_self hlt] at h
          cases h
        · rename_i hc
          rw [hw] at h
          cases h
          exact ⟨hw, fun q => hc q.2⟩
      · rename_i hno
        exact absurd h (hno v)
    · refine ⟨?_, by omega⟩
      split at h
      · split at h
        · rwa [List.getElem?_set_ne (Ne.symm hj)] at h
        · exact h
      · exact h
theorem sd_LH.st1 {B : Nat} {kd : Nat → Nat} {L L' : Array Slot} {nL : Nat} {ls ls' : ab_L} {i : Nat} {v : Value} (h : sd_LH B kd L nL ls) (e : ab_s1 ls i v = some ls') (h2 : lv_has L' nL ((i, sd_v B kd v) :: (sd_al B kd ls).filter (fun q => !(q.1 == i) && !(q.1 + 1 == i && q.2.category == 2)))) : sd_LH B kd L' nL ls' := by
  unfold ab_s1 at e
  split at e
  · rename_i hi
    cases e
    refine ⟨by rw [List.length_set, ab_ki_len]; exact h.1, sd_has_sub h2 ?_⟩
    intro q hq
    obtain ⟨w, hw, hq2⟩ := sd_al_mem.mp hq
    by_cases hj : q.1 = i
    · rw [hj, List.getElem?_set_self (by rw [ab_ki_len]; exact hi)] at hw
      cases hw
      refine List.mem_cons.mpr (Or.inl ?_)
      rw [← hq2, ← hj]
    · rw [List.getElem?_set_ne (Ne.symm hj)] at hw
      obtain ⟨hw1, hw2⟩ := ab_ki_get hw
      refine List.mem_cons.mpr (Or.inr (List.mem_filter.mpr ⟨sd_al_mem.mpr ⟨w, hw1, hq2⟩, ?_⟩))
      simp only [Bool.and_eq_true, Bool.not_eq_true', beq_eq_false_iff_ne, ne_eq, Bool.and_eq_false_imp, beq_iff_eq]
      refine ⟨hj, fun a b => hw2 ⟨a, ?_⟩⟩
      rw [hq2, sd_v_cat] at b
      exact b
  · cases e
theorem sd_LH.st2 {B : Nat} {kd : Nat → Nat} {L L' : Array Slot} {nL : Nat} {ls ls' : ab_L} {i : Nat} {v : Value} (h : sd_LH B kd L nL ls) (e : ab_s2 ls i v = some ls') (h2 : lv_has L' nL ((i, sd_v B kd v) :: (sd_al B kd ls).filter (fun q => !(q.1 == i) && (!(q.1 == i + 1) && !(q.1 + 1 == i && q.2.category == 2))))) : sd_LH B kd L' nL ls' := by
  unfold ab_s2 at e
  split at e
  · rename_i hi
    cases e
    refine ⟨by rw [List.length_set, List.length_set, ab_ki_len]; exact h.1, sd_has_sub h2 ?_⟩
    intro q hq
    obtain ⟨w, hw, hq2⟩ := sd_al_mem.mp hq
    by_cases hj : q.1 = i
    · rw [hj, List.getElem?_set_self (by rw [List.length_set, ab_ki_len]; omega)] at hw
      cases hw
      refine List.mem_cons.mpr (Or.inl ?_)
      rw [← hq2, ← hj]
    · rw [List.getElem?_set_ne (Ne.symm hj)] at hw
      by_cases hj2 : q.1 = i + 1
      · rw [hj2, List.getElem?_set_self (by rw [ab_ki_len]; exact hi)] at hw
        cases hw
      · rw [List.getElem?_set_ne (Ne.symm hj2)] at hw
        obtain ⟨hw1, hw2⟩ := ab_ki_get hw
        refine List.mem_cons.mpr (Or.inr (List.mem_filter.mpr ⟨sd_al_mem.mpr ⟨w, hw1, hq2⟩, ?_⟩))
        simp only [Bool.and_eq_true, Bool.not_eq_true', beq_eq_false_iff_ne, ne_eq, Bool.and_eq_false_imp, beq_iff_eq]
        refine ⟨hj, hj2, fun a b => hw2 ⟨a, ?_⟩⟩
        rw [hq2, sd_v_cat] at b
        exact b
  · cases e
def ab_sl (h : ab_H) : Nat := (h.1.map (fun c => c.2.1)).sum
/-- the heap at some place of a method, and its room -/
def sd_In (dC : Nat → ClassId) (dI : Nat → Nat → Nat) (tA : Nat → ClassId) (B : Nat) (kd : Nat → Nat) (s : State) (c0 z0 : Nat) (H : Heap) (locs : List Loc) (cells slots : Nat) (h : ab_H) : Prop :=
  sd_W dC dI tA B kd h H ∧ va_S (fun q => B ≤ q) s.heap H locs ∧ cells + c0 = h.1.length ∧ slots + z0 = ab_sl h
def sd_Go (p : Program) (l : Launch) (e : Env) (R : Room) (s : State) (m : MethodId) (args : Array Value) (below : List Frame) (meth : Method) (c : Code) (Q : State → Prop) (dC : Nat → ClassId) (dI : Nat → Nat → Nat) (tA : Nat → ClassId) (B : Nat) (kd : Nat → Nat) (c0 z0 nL : Nat) (f : ab_F) : Prop :=
  ∀ (L : Array Slot) (H : Heap) (locs : List Loc) (cells slots : Nat), sd_In dC dI tA B kd s c0 z0 H locs cells slots f.2.2.2 → sd_LH B kd L nL f.2.1 → W p l e R s m args below meth c H locs cells slots Q (F0 m f.1 L (f.2.2.1.map (sd_v B kd)))
/-- where a method of the class own stands, with its code cc of nL locals -/
def sd_At (p : Program) (s : State) (m : MethodId) (args : Array Value) (meth : Method) (c : Code) (y nL : Nat) (cc : ByteArray) (own : String) (dC : Nat → ClassId) (dI : Nat → Nat → Nat) (tA : Nat → ClassId) (B : Nat) (kd : Nat → Nat) (X : ab_X) : Prop :=
  p.tables.exec = Jvm.exec ∧ c.code = cc ∧ c.maxLocals = nL ∧ s.vm.findClass own = some m.cls ∧ ab_cn[ab_own y]? = some own ∧ (∀ w ∈ wd_tbl, w.before args s = true) ∧ (ab_ini y = true → meth.name = "<init>") ∧ (∀ pc r, ab_ins y pc = some r → decode cc pc = .ok r) ∧ sd_K dC dI tA B kd X s s.heap
section SD
variable {p : Program} {l : Launch} {e : Env} {R : Room} {s : State} {m : MethodId} {args : Array Value} {below : List Frame} {meth : Method} {c : Code} {Q : State → Prop} {dC : Nat → ClassId} {dI : Nat → Nat → Nat} {tA : Nat → ClassId} {B : Nat} {kd : Nat → Nat} {X : ab_X} {c0 z0 nL y : Nat} {cc : ByteArray} {own : String}
theorem ab_b2_inv {f : Int32 → Int32 → Int32} {pc : Nat} {ls : ab_L} {st : List Value} {h : ab_H} {f' : ab_F} (e : ab_b2 f pc ls st h = some (.inl f')) : ∃ y x r, st = .int y :: .int x :: r ∧ f' = (pc, ls, .int (f x y) :: r, h) := by
  unfold ab_b2 at e
  split at e
  · cases e
    exact ⟨_, _, _, rfl, rfl⟩
  · cases e
theorem ab_d2_inv {f : Int32 → Int32 → Int32} {pc : Nat} {ls : ab_L} {st : List Value} {h : ab_H} {f' : ab_F} (e : ab_d2 f pc ls st h = some (.inl f')) : ∃ y x r, st = .int y :: .int x :: r ∧ ¬ y = 0 ∧ f' = (pc, ls, .int (f x y) :: r, h) := by
  unfold ab_d2 at e
  split at e
  · split at e
    · cases e
    · rename_i hy
      cases e
      exact ⟨_, _, _, rfl, hy, rfl⟩
  · cases e
theorem ab_b3_inv {f : Int64 → Int64 → Int64} {pc : Nat} {ls : ab_L} {st : List Value} {h : ab_H} {f' : ab_F} (e : ab_b3 f pc ls st h = some (.inl f')) : ∃ y x r, st = .long y :: .long x :: r ∧ f' = (pc, ls, .long (f x y) :: r, h) := by
  unfold ab_b3 at e
  split at e
  · cases e
    exact ⟨_, _, _, rfl, rfl⟩
  · cases e
theorem ab_d3_inv {f : Int64 → Int64 → Int64} {pc : Nat} {ls : ab_L} {st : List Value} {h : ab_H} {f' : ab_F} (e : ab_d3 f pc ls st h = some (.inl f')) : ∃ y x r, st = .long y :: .long x :: r ∧ ¬ y = 0 ∧ f' = (pc, ls, .long (f x y) :: r, h) := by
  unfold ab_d3 at e
  split at e
  · split at e
    · cases e
    · rename_i hy
      cases e
      exact ⟨_, _, _, rfl, hy, rfl⟩
  · cases e
theorem ab_b4_inv {f : Int64 → Int32 → Int64} {pc : Nat} {ls : ab_L} {st : List Value} {h : ab_H} {f' : ab_F} (e : ab_b4 f pc ls st h = some (.inl f')) : ∃ y x r, st = .int y :: .long x :: r ∧ f' = (pc, ls, .long (f x y) :: r, h) := by
  unfold ab_b4 at e
  split at e
  · cases e
    exact ⟨_, _, _, rfl, rfl⟩
  · cases e
theorem ab_u1_inv {f : Int32 → Value} {pc : Nat} {ls : ab_L} {st : List Value} {h : ab_H} {f' : ab_F} (e : ab_u1 f pc ls st h = some (.inl f')) : ∃ x r, st = .int x :: r ∧ f' = (pc, ls, f x :: r, h) := by
  unfold ab_u1 at e
  split at e
  · cases e
    exact ⟨_, _, rfl, rfl⟩
  · cases e
theorem ab_if_inv {α : Type} {c : Prop} [Decidable c] {a : Option α} {x : α} (e : (if c then a else none) = some x) : c ∧ a = some x := by
  split at e
  · rename_i hc
    exact ⟨hc, e⟩
  · cases e
theorem ab_jp_inv {pc : Nat} {off : Int} {ls : ab_L} {st : List Value} {h : ab_H} {f' : ab_F} (e : ab_jp pc off ls st h = some (.inl f')) : ∃ t : Nat, (pc : Int) + off = (t : Int) ∧ f' = (t, ls, st, h) := by
  unfold ab_jp at e
  obtain ⟨h1, h2⟩ := ab_if_inv e
  cases h2
  exact ⟨_, (Int.toNat_of_nonneg h1).symm, rfl⟩
theorem ab_li_inv {ls : ab_L} {i pc : Nat} {st : List Value} {h : ab_H} {f' : ab_F} (e : ab_lo (ab_li ls i) pc ls st h = some (.inl f')) : ∃ x, ls[i]? = some (some (.int x)) ∧ f' = (pc, ls, .int x :: st, h) := by
  unfold ab_lo ab_li ab_ld at e
  split at e
  · rename_i v hv
    cases e
    split at hv
    · rename_i x hx
      cases hv
      split at hx
      · rename_i w hw
        cases hx
        exact ⟨_, hw, rfl⟩
      · cases hx
    · cases hv
  · cases e
theorem ab_ll_inv {ls : ab_L} {i pc : Nat} {st : List Value} {h : ab_H} {f' : ab_F} (e : ab_lo (ab_ll ls i) pc ls st h = some (.inl f')) : ∃ x, ls[i]? = some (some (.long x)) ∧ f' = (pc, ls, .long x :: st, h) := by
  unfold ab_lo ab_ll ab_ld at e
  split at e
  · rename_i v hv
    cases e
    split at hv
    · rename_i x hx
      cases hv
      split at hx
      · rename_i w hw
        cases hx
        exact ⟨_, hw, rfl⟩
      · cases hx
    · cases hv
  · cases e
theorem ab_la_inv {ls : ab_L} {i pc : Nat} {st : List Value} {h : ab_H} {f' : ab_F} (e : ab_lo (ab_la ls i) pc ls st h = some (.inl f')) : ∃ x, ls[i]? = some (some (.ref x)) ∧ f' = (pc, ls, .ref x :: st, h) := by
  unfold ab_lo ab_la ab_ld at e
  split at e
  · rename_i v hv
    cases e
    split at hv
    · rename_i x hx
      cases hv
      split at hx
      · rename_i w hw
        cases hx
        exact ⟨_, hw, rfl⟩
      · cases hx
    · cases hv
  · cases e
theorem ab_so_inv {o : Option ab_L} {pc : Nat} {st : List Value} {h : ab_H} {f' : ab_F} (e : ab_so o pc st h = some (.inl f')) : ∃ ls, o = some ls ∧ f' = (pc, ls, st, h) := by
  unfold ab_so at e
  split at e
  · cases e
    exact ⟨_, rfl, rfl⟩
  · cases e
theorem ab_s1_lt {ls ls' : ab_L} {i : Nat} {v : Value} (e : ab_s1 ls i v = some ls') : i < ls.length := (ab_if_inv e).1
theorem ab_s2_lt {ls ls' : ab_L} {i : Nat} {v : Value} (e : ab_s2 ls i v = some ls') : i + 1 < ls.length := (ab_if_inv e).1
end SD
