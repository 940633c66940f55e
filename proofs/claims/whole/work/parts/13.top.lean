-- ===== end of PART A; then your names; then what follows =====
/-! THE CLAIM OUT OF ONE WALK OF THE LAW'S BODY. Your part is whole_start (and what it stands on); all else here is the same for every law, but numbers. -/
def R_law : String := "FieldsToldLaw"
def lw_P (b : Addr) (xs : List Int32) (args : Array Value) (s : State) : Prop := args = #[.ref b] ∧ s.IntsAt b xs ∧ xs.length ≤ 3072 ∧ (Jvm.Cond.and given_1 narrow_1).before args s = true
def lw_Q (_ : Array Value) (s : State) (o : Outcome) (t : State) : Prop := o = .returned (some (.int 1)) ∧ Framed s o t [] 600000 7302250
def lw_Z (below : List Frame) (a : Array Value) (s : State) : State → Prop := fun t => ∃ o, t.status = .running ∧ Ended t below o ∧ lw_Q a s o t
/-- the law's own end, with 1 on the stack, nothing written that was there before, its room as the claim has it -/
theorem lw_ret {p : Program} {l : Launch} {e : Env} {s : State} {m : MethodId} {below : List Frame} {meth : Method} {c : Code} {b : Nat} (hx : p.tables.exec = Jvm.exec) (hb : c.code = code) (hr : meth.sig.returnType = ret) (hlocks : meth.locks = false) {pc : Nat} {H : Heap} {ls : Array Slot} (hdg : decode code pc = .ok (.ireturn, 1)) : W p l e room_1 s m #[Value.ref b] below meth c H [] 600000 7302250 (lw_Z below #[Value.ref b] s) (F0 m pc ls [.int 1]) := by
  intro T hT X
  obtain ⟨fs, hret, hrun, hended, hW, hframe⟩ := X.leave (v := some (.int 1)) (hlocks := hlocks) (fun h => by rw [hr] at h; cases h)
  have hmeth' : T.vm.method? m = some meth := X.method'
  refine ⟨T.setFrames fs, ?_, .returned (some (.int 1)), hrun, hended, rfl, ⟨_, rfl⟩, hW, hframe⟩
  jvm_step X.here [X.here.top, hx, hb, hdg, hmeth', hr, ret, narrow_b1]
  (try refine ⟨rfl, ?_⟩); (try refine ⟨rfl, ?_⟩)
  first | (intro acts; rw [hret _ acts rfl rfl rfl]) | rw [hret _ _ rfl rfl rfl]
  exact Steps.refl _
/-- what holds at the law's entry: the machine, the code, the tables' words (any of lw_tbl by 'hts w (by decide +kernel)'), the script of L ints xs at the cell b, what the Statement gives of the start (any of its parts by flat_of_before) -/
def lw_At (p : Program) (s : State) (m : MethodId) (meth : Method) (c : Code) (b L : Nat) (xs : Nat → Int32) : Prop :=
  p.tables.exec = Jvm.exec ∧ c.code = code ∧ meth.sig.returnType = ret ∧ c.maxLocals = 4 ∧ s.vm.findClass R_law = some m.cls ∧ (∀ w ∈ lw_tbl, w.before #[Value.ref b] s = true) ∧ va_X b L xs s s.heap ∧ b < s.heap.size ∧ meth.locks = false ∧ (Jvm.Cond.and given_1 narrow_1).before #[Value.ref b] s = true
theorem sd_ins {y : Nat} {e : ab_Y} (h : ab_ME y = some e) {pc : Nat} {r : Instr × Nat} (hr : ab_ins y pc = some r) : decode e.2.1 pc = .ok r := by
  unfold ab_ins at hr
  rw [h] at hr
  dsimp only at hr
  cases hdc : decode e.2.1 pc with
  | ok z => rw [hdc] at hr; cases hr; rfl
  | error z => rw [hdc] at hr; cases hr
theorem top_W {p : Program} {e : Env} {s : State} {m : MethodId} {below : List Frame} {meth : Method} {c : Code} (l : Launch) {b L : Nat} {xs : Nat → Int32} (hL : L ≤ 3072) (C0 : lw_At p s m meth c b L xs) (hrun : ∃ n h', ab_run (ab_cal (some (L, xs)) 200) (some (L, xs)) y_Law_law n (0, ab_ent 4 [.ref 13000], [], ([], fun _ _ => 0)) (some (.int 1)) h' ∧ h'.1.length ≤ 600000 ∧ ab_sl h' ≤ 7302250) : W p l e room_1 s m #[Value.ref b] below meth c s.heap [] 0 0 (lw_Z below #[Value.ref b] s) (entryFrame m ([Value.ref b] : List Value).toArray 4) := by
  obtain ⟨hx, hb, hr, hml, hown, hts, hX, hbl, hlocks, hgv⟩ := C0
  obtain ⟨dC, dI, tA, kd, hkd, hK⟩ := sd_start hts hX hbl (by omega) hgv
  obtain ⟨n, h', q, q1, q2⟩ := hrun
  have hME : ab_ME y_Law_law = some ab_law := rfl
  have A : sd_At p s m #[Value.ref b] meth c y_Law_law 4 code R_law dC dI tA s.heap.size kd (some (L, xs)) := by
    refine ⟨hx, hb, hml, hown, by decide +kernel, fun w hw => hts w (wd_good w hw).1, fun hi => absurd hi (by decide +kernel), fun pc r hr => ?_, hK⟩
    exact sd_ins hME hr
  have hv : sd_v s.heap.size kd (.ref 13000) = .ref b := by
    show Value.ref (sd_ad s.heap.size kd 13000) = _
    rw [sd_ad_ge (by decide), hkd]
  have hl := sd_entry (B := s.heap.size) (kd := kd) (as := [.ref 13000]) (nL := 4) rfl
  rw [show ([Value.ref 13000] : List Value).map (sd_v s.heap.size kd) = [.ref b] from congrArg (· :: []) hv] at hl
  rw [lg_entry_eq]
  refine sd_run A (d := 200) (c0 := 0) (z0 := 0) (R := room_1) (Nat.le_of_ble_eq_true rfl) (Nat.le_of_ble_eq_true rfl) (fun k as h r h' q => sd_cal l 200 k as h r h' q) (fun k as h r h' q => ab_cal_len 200 k as h r h' q) (r := some (.int 1)) (h' := h') ⟨by rw [Nat.zero_add]; exact q1, by rw [Nat.zero_add]; exact q2⟩ ?_ n _ q _ s.heap [] 0 0 ⟨⟨rfl, fun k z hz => by cases hz⟩, va_S.rf, rfl, rfl⟩ hl
  intro i nn pc ls st Ls H locs cells slots hd hx2 I
  have i3 : cells + 0 = h'.1.length := I.2.2.1
  have i4 : slots + 0 = ab_sl h' := I.2.2.2
  by_cases hR : ab_isR i = false
  · by_cases hI : ab_isI i = false
    · exact (ab_ex_inr hI hR hx2).elim
    · have hinv : ∀ kd j, ab_inv y_Law_law kd j (pc + 3) ls st h' = some (.inr (.inr (some (.int 1)))) → False := by
        intro kd j e
        rcases ab_inv_inv e with ⟨st', u, e2⟩ | ⟨k, as, st', e2⟩ <;> cases e2
      cases i
      case invokevirtual => exact (hinv _ _ (ab_if_inv hx2).2).elim
      case invokespecial => exact (hinv _ _ (ab_if_inv hx2).2).elim
      case invokestatic => exact (hinv _ _ (ab_if_inv hx2).2).elim
      all_goals exact absurd rfl hI
  · cases i
    case ireturn =>
      obtain ⟨rfl, hz⟩ := ab_if_inv hx2
      unfold ab_rti at hz
      split at hz
      · rename_i x
        split at hz
        · obtain ⟨-, hz2⟩ := ab_if_inv hz
          cases hz2
          refine va_forget (fun q hq => I.2.1.2.2 q hq) ?_
          refine W.widen (k := 600000) (n := 7302250) (by omega) (by omega) ?_
          exact lw_ret A.1 A.2.1 hr hlocks hd
        · cases hz
      · cases hz
    case lreturn =>
      simp only [ab_ex, ab_rtl] at hx2
      repeat' split at hx2
      all_goals cases hx2
    case areturn =>
      simp only [ab_ex, ab_rta] at hx2
      repeat' split at hx2
      all_goals cases hx2
    case return_ =>
      simp only [ab_ex, ab_rtv] at hx2
      repeat' split at hx2
      all_goals cases hx2
    all_goals exact absurd rfl hR
