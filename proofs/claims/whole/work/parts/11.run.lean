theorem ab_acp_inv {pc : Nat} {ls : ab_L} {st : List Value} {h : ab_H} {r : ab_R} (e : ab_acp pc ls st h = some r) : ∃ st' u, r = .inl (pc, ls, st', (h.1, u)) := by
  unfold ab_acp at e
  split at e
  · split at e
    · obtain ⟨-, e2⟩ := ab_if_inv e
      cases e2
      exact ⟨_, _, rfl⟩
    · cases e
  · cases e
/-- what a call gives -/
theorem ab_inv_inv {y kd i pc : Nat} {ls : ab_L} {st : List Value} {h : ab_H} {r : ab_R} (e : ab_inv y kd i pc ls st h = some r) : (∃ st' u, r = .inl (pc, ls, st', (h.1, u))) ∨ (∃ k as st', r = .inr (.inl (k, as, (pc, ls, st', h)))) := by
  unfold ab_inv at e
  split at e
  · cases e
  · split at e
    · split at e
      · obtain ⟨-, e2⟩ := ab_if_inv e
        cases e2
        exact Or.inl ⟨_, h.2, rfl⟩
      · cases e
    · split at e
      · obtain ⟨-, e2⟩ := ab_if_inv e
        exact Or.inl (ab_acp_inv e2)
      · split at e
        · split at e
          · obtain ⟨-, e2⟩ := ab_if_inv e
            cases e2
            exact Or.inl ⟨_, h.2, rfl⟩
          · cases e
        · split at e
          · split at e
            · obtain ⟨-, e2⟩ := ab_if_inv e
              cases e2
              exact Or.inl ⟨_, h.2, rfl⟩
            · cases e
          · split at e
            · cases e
            · obtain ⟨-, e2⟩ := ab_if_inv e
              split at e2
              · obtain ⟨-, e3⟩ := ab_if_inv e2
                cases e3
                exact Or.inr ⟨_, _, _, rfl⟩
              · split at e2
                · obtain ⟨-, e3⟩ := ab_if_inv e2
                  cases e3
                  exact Or.inr ⟨_, _, _, rfl⟩
                · cases e2
def ab_isR : Instr → Bool
  | .ireturn | .lreturn | .areturn | .return_ => true
  | _ => false
def ab_isI : Instr → Bool
  | .invokevirtual _ | .invokespecial _ | .invokestatic _ => true
  | _ => false
set_option maxHeartbeats 4000000 in
theorem ab_ex_inr {X : ab_X} {y n pc : Nat} {i : Instr} {ls : ab_L} {st : List Value} {h : ab_H} {z : (Nat × List Value × ab_F) ⊕ Option Value} (hi : ab_isI i = false) (hr : ab_isR i = false) (hx : ab_ex X y i n pc ls st h = some (.inr z)) : False := by
  cases i
  case invokevirtual => cases hi
  case invokespecial => cases hi
  case invokestatic => cases hi
  case ireturn => cases hr
  case lreturn => cases hr
  case areturn => cases hr
  case return_ => cases hr
  all_goals (simp only [ab_ex, ab_b2, ab_d2, ab_b3, ab_d3, ab_b4, ab_u1, ab_lo, ab_so, ab_jp, ab_go, ab_pf, ab_nw, ab_tsw] at hx)
  all_goals (repeat' split at hx)
  all_goals (first | cases hx | skip)
def ab_isH : Instr → Bool
  | .putfield _ | .iastore | .aastore | .new _ | .newarray _ | .anewarray _ => true
  | _ => false
set_option maxHeartbeats 4000000 in
theorem ab_ex_same {X : ab_X} {y n pc : Nat} {i : Instr} {ls : ab_L} {st : List Value} {h : ab_H} {f' : ab_F} (hi : ab_isI i = false) (hr : ab_isH i = false) (hx : ab_ex X y i n pc ls st h = some (.inl f')) : f'.2.2.2 = h := by
  cases i
  case invokevirtual => cases hi
  case invokespecial => cases hi
  case invokestatic => cases hi
  case putfield => cases hr
  case iastore => cases hr
  case aastore => cases hr
  case new => cases hr
  case newarray => cases hr
  case anewarray => cases hr
  case ireturn =>
    simp only [ab_ex, ab_rti] at hx
    repeat' split at hx
    all_goals cases hx
  case lreturn =>
    simp only [ab_ex, ab_rtl] at hx
    repeat' split at hx
    all_goals cases hx
  case areturn =>
    simp only [ab_ex, ab_rta] at hx
    repeat' split at hx
    all_goals cases hx
  case return_ =>
    simp only [ab_ex, ab_rtv] at hx
    repeat' split at hx
    all_goals cases hx
  all_goals (simp only [ab_ex, ab_b2, ab_d2, ab_b3, ab_d3, ab_b4, ab_u1, ab_lo, ab_so, ab_jp, ab_go, ab_tsw] at hx)
  all_goals (repeat' split at hx)
  all_goals (first | (cases hx; done) | (cases hx; rfl))
theorem ab_ex_len {X : ab_X} {y n pc : Nat} {i : Instr} {ls : ab_L} {st : List Value} {h : ab_H} {f' : ab_F} (hx : ab_ex X y i n pc ls st h = some (.inl f')) : h.1.length ≤ f'.2.2.2.1.length ∧ ab_sl h ≤ ab_sl f'.2.2.2 := by
  have hinv : ∀ kd j, ab_inv y kd j (pc + 3) ls st h = some (.inl f') → h.1.length ≤ f'.2.2.2.1.length ∧ ab_sl h ≤ ab_sl f'.2.2.2 := by
    intro kd j e
    rcases ab_inv_inv e with ⟨st', u, e2⟩ | ⟨k, as, st', e2⟩
    · cases e2
      exact ⟨Nat.le_refl _, Nat.le_refl _⟩
    · cases e2
  by_cases hi : ab_isI i = false
  · by_cases hr : ab_isH i = false
    · rw [ab_ex_same hi hr hx]
      exact ⟨Nat.le_refl _, Nat.le_refl _⟩
    · cases i
      case putfield =>
        obtain ⟨-, hz⟩ := ab_if_inv hx
        split at hz
        · obtain ⟨v, a, r, ty, h', rfl, -, -, -, -, -, hw, rfl⟩ := ab_pf_inv hz
          obtain ⟨n0, rs, rs', hh, hs, hu, hfs, hjl, hsl⟩ := ab_wr_inv (B := 0) (kd := fun _ => 0) hw
          exact ⟨by show _ ≤ h'.1.length; rw [hs, List.length_set]; exact Nat.le_refl _, Nat.le_of_eq hsl.symm⟩
        · cases hz
      case iastore =>
        simp only [ab_ex, ab_go] at hx
        repeat' split at hx
        all_goals first | (cases hx; done) | (cases hx; exact ⟨Nat.le_refl _, Nat.le_refl _⟩)
      case aastore =>
        obtain ⟨-, hz⟩ := ab_if_inv hx
        split at hz
        · obtain ⟨-, hz2⟩ := ab_if_inv hz
          split at hz2
          · rename_i hh hhv
            obtain ⟨-, hz3⟩ := ab_if_inv hz2
            cases hz3
            exact ⟨by show _ ≤ (h.1.set _ _).length; rw [List.length_set]; exact Nat.le_refl _, Nat.le_of_eq (ab_sl_set hh _).symm⟩
          · cases hz2
        · cases hz
      case new =>
        obtain ⟨-, hz⟩ := ab_if_inv hx
        split at hz
        · split at hz
          · obtain ⟨h', ha, rfl⟩ := ab_nw_inv hz
            obtain ⟨h1, h2, -⟩ := ab_sl_new ha
            exact ⟨by show _ ≤ h'.1.length; omega, by show _ ≤ ab_sl h'; omega⟩
          · cases hz
        · cases hz
      case newarray =>
        obtain ⟨-, hz⟩ := ab_if_inv hx
        split at hz
        · obtain ⟨-, hz2⟩ := ab_if_inv hz
          obtain ⟨h', ha, rfl⟩ := ab_nw_inv hz2
          obtain ⟨h1, h2, -⟩ := ab_sl_new ha
          exact ⟨by show _ ≤ h'.1.length; omega, by show _ ≤ ab_sl h'; omega⟩
        · cases hz
      case anewarray =>
        obtain ⟨-, hz⟩ := ab_if_inv hx
        split at hz
        · obtain ⟨-, hz2⟩ := ab_if_inv hz
          obtain ⟨h', ha, rfl⟩ := ab_nw_inv hz2
          obtain ⟨h1, h2, -⟩ := ab_sl_new ha
          exact ⟨by show _ ≤ h'.1.length; omega, by show _ ≤ ab_sl h'; omega⟩
        · cases hz
      all_goals exact absurd rfl hr
  · cases i
    case invokevirtual => exact hinv _ _ (ab_if_inv hx).2
    case invokespecial => exact hinv _ _ (ab_if_inv hx).2
    case invokestatic => exact hinv _ _ (ab_if_inv hx).2
    all_goals exact absurd rfl hi
section SR
variable {p : Program} {l : Launch} {e : Env} {R : Room} {s : State} {m : MethodId} {args : Array Value} {below : List Frame} {meth : Method} {c : Code} {Q : State → Prop} {dC : Nat → ClassId} {dI : Nat → Nat → Nat} {tA : Nat → ClassId} {B : Nat} {kd : Nat → Nat} {X : ab_X} {c0 z0 nL y : Nat} {cc : ByteArray} {own : String}
theorem sd_step (A : sd_At p s m args meth c y nL cc own dC dI tA B kd X) (hR1 : 1 ≤ R.frames) (hR2 : 60 ≤ R.locals) {i : Instr} {pc n : Nat} {ls : ab_L} {st : List Value} {h : ab_H} {f' : ab_F} (hd : decode cc pc = .ok (i, n)) (hx : ab_ex X y i n pc ls st h = some (.inl f')) (hRR : f'.2.2.2.1.length ≤ c0 + R.cells ∧ ab_sl f'.2.2.2 ≤ z0 + R.slots) (k : sd_Go p l e R s m args below meth c Q dC dI tA B kd c0 z0 nL f') : sd_Go p l e R s m args below meth c Q dC dI tA B kd c0 z0 nL (pc, ls, st, h) := by
  have hl := ab_ex_len hx
  have hR0 : h.1.length ≤ c0 + R.cells ∧ ab_sl h ≤ z0 + R.slots := ⟨Nat.le_trans hl.1 hRR.1, Nat.le_trans hl.2 hRR.2⟩
  cases i
  case iconst => exact sx_iconst A hd hx k
  case lconst => exact sx_lconst A hd hx k
  case bipush => exact sx_bipush A hd hx k
  case sipush => exact sx_sipush A hd hx k
  case ldc => exact sx_ldc A hd hx k
  case ldc_w => exact sx_ldc_w A hd hx k
  case ldc2_w => exact sx_ldc2_w A hd hx k
  case iload => exact sx_iload A hd hx k
  case iload_n => exact sx_iload_n A hd hx k
  case lload => exact sx_lload A hd hx k
  case lload_n => exact sx_lload_n A hd hx k
  case aload => exact sx_aload A hd hx k
  case aload_n => exact sx_aload_n A hd hx k
  case istore => exact sx_istore A hd hx k
  case istore_n => exact sx_istore_n A hd hx k
  case lstore => exact sx_lstore A hd hx k
  case lstore_n => exact sx_lstore_n A hd hx k
  case astore => exact sx_astore A hd hx k
  case astore_n => exact sx_astore_n A hd hx k
  case iinc => exact sx_iinc A hd hx k
  case iadd => exact sx_iadd A hd hx k
  case isub => exact sx_isub A hd hx k
  case imul => exact sx_imul A hd hx k
  case iand => exact sx_iand A hd hx k
  case ior => exact sx_ior A hd hx k
  case ixor => exact sx_ixor A hd hx k
  case ishl => exact sx_ishl A hd hx k
  case ishr => exact sx_ishr A hd hx k
  case iushr => exact sx_iushr A hd hx k
  case idiv => exact sx_idiv A hd hx k
  case irem => exact sx_irem A hd hx k
  case ineg => exact sx_ineg A hd hx k
  case lsub => exact sx_lsub A hd hx k
  case lmul => exact sx_lmul A hd hx k
  case land => exact sx_land A hd hx k
  case lor => exact sx_lor A hd hx k
  case ldiv => exact sx_ldiv A hd hx k
  case lrem => exact sx_lrem A hd hx k
  case lshl => exact sx_lshl A hd hx k
  case lshr => exact sx_lshr A hd hx k
  case lushr => exact sx_lushr A hd hx k
  case i2l => exact sx_i2l A hd hx k
  case i2b => exact sx_i2b A hd hx k
  case i2s => exact sx_i2s A hd hx k
  case i2c => exact sx_i2c A hd hx k
  case l2i => exact sx_l2i A hd hx k
  case lcmp => exact sx_lcmp A hd hx k
  case dup => exact sx_dup A hd hx k
  case dup2 => exact sx_dup2 A hd hx k
  case pop => exact sx_pop A hd hx k
  case ifCond => exact sx_ifCond A hd hx k
  case if_icmp => exact sx_if_icmp A hd hx k
  case goto => exact sx_goto A hd hx k
  case tableswitch => exact sx_tableswitch A hd hx k
  case lookupswitch => exact sx_lookupswitch A hd hx k
  case getfield => exact sx_getfield A hd hx k
  case putfield => exact sx_putfield A hd hx k
  case getstatic => exact sx_getstatic A hd hx k
  case iaload => exact sx_iaload A hd hx k
  case baload => exact sx_baload A hd hx k
  case aaload => exact sx_aaload A hd hx k
  case iastore => exact sx_iastore A hd hx k
  case aastore => exact sx_aastore A hd hx k
  case arraylength => exact sx_arraylength A hd hx k
  case new => exact sx_new A hd hx k hRR
  case newarray => exact sx_newarray A hd hx k hRR
  case anewarray => exact sx_anewarray A hd hx k hRR
  case invokevirtual =>
    obtain ⟨rfl, hz⟩ := ab_if_inv hx
    exact sx_inv (j := _) A hR1 hR2 (fun _ _ => trivial) hR0 ⟨fun q => (by cases q), fun q => (by cases q)⟩ hz k
  case invokespecial =>
    obtain ⟨rfl, hz⟩ := ab_if_inv hx
    exact sx_inv A hR1 hR2 (fun _ _ => trivial) hR0 ⟨fun _ => hd, fun q => (by cases q)⟩ hz k
  case invokestatic =>
    obtain ⟨rfl, hz⟩ := ab_if_inv hx
    exact sx_inv A hR1 hR2 (fun _ _ => trivial) hR0 ⟨fun q => (by cases q), fun _ => hd⟩ hz k
  case ireturn =>
    simp only [ab_ex, ab_rti] at hx
    repeat' split at hx
    all_goals cases hx
  case lreturn =>
    simp only [ab_ex, ab_rtl] at hx
    repeat' split at hx
    all_goals cases hx
  case areturn =>
    simp only [ab_ex, ab_rta] at hx
    repeat' split at hx
    all_goals cases hx
  case return_ =>
    simp only [ab_ex, ab_rtv] at hx
    repeat' split at hx
    all_goals cases hx
  all_goals (simp only [ab_ex] at hx; cases hx)
theorem sd_return (A : sd_At p s m args meth c y nL cc own dC dI tA B kd X) (hret : meth.sig.returnType = ab_ret y) (hlocks : meth.locks = false) {Qc : Array Value → State → Outcome → State → Prop} {i : Instr} {pc n cells slots : Nat} {ls : ab_L} {st : List Value} {h : ab_H} {v : Option Value} {L : Array Slot} {H : Heap} {locs : List Loc} (hd : decode cc pc = .ok (i, n)) (hx : ab_ex X y i n pc ls st h = some (.inr (.inr v))) (hq : ∀ t : State, t.heap = H → s.WarmedH t.vm → Qc args s (.returned (v.map (sd_v B kd))) t) (hf : ∀ q ∈ locs, B ≤ q.base) : W p l e R s m args below meth c H locs cells slots (MQ below Qc args s cells slots (fun q => B ≤ q)) (F0 m pc L (st.map (sd_v B kd))) := by
  obtain ⟨A1, A2, A3, A4, A5, A6, A7, A8, A9⟩ := A
  by_cases hR : ab_isR i = false
  · by_cases hI : ab_isI i = false
    · exact (ab_ex_inr hI hR hx).elim
    · have hinv : ∀ kd j, ab_inv y kd j (pc + 3) ls st h = some (.inr (.inr v)) → False := by
        intro kd j e
        rcases ab_inv_inv e with ⟨st', u, e2⟩ | ⟨k, as, st', e2⟩ <;> cases e2
      cases i
      case invokevirtual => exact (hinv _ _ (ab_if_inv hx).2).elim
      case invokespecial => exact (hinv _ _ (ab_if_inv hx).2).elim
      case invokestatic => exact (hinv _ _ (ab_if_inv hx).2).elim
      all_goals exact absurd rfl hI
  · cases i
    case ireturn =>
      obtain ⟨rfl, hz⟩ := ab_if_inv hx
      unfold ab_rti at hz
      split at hz
      · rename_i x
        split at hz
        · rename_i ty hty
          obtain ⟨hc, hz2⟩ := ab_if_inv hz
          cases hz2
          exact W.zret A1 A2 (hret.trans hty) hc.2 hq hf hd hlocks
        · cases hz
      · cases hz
    case lreturn =>
      obtain ⟨rfl, hz⟩ := ab_if_inv hx
      unfold ab_rtl at hz
      split at hz
      · obtain ⟨hc, hz2⟩ := ab_if_inv hz
        cases hz2
        exact W.lret A1 A2 (hret.trans hc) hq hf hd hlocks
      · cases hz
    case areturn =>
      obtain ⟨rfl, hz⟩ := ab_if_inv hx
      unfold ab_rta at hz
      split at hz
      · obtain ⟨hc, hz2⟩ := ab_if_inv hz
        cases hz2
        exact W.aret A1 A2 (hret.trans hc) (Or.inl ⟨_, rfl⟩) (Or.inr ⟨_, rfl⟩) hq hf hd hlocks
      · cases hz
    case return_ =>
      obtain ⟨rfl, hz⟩ := ab_if_inv hx
      unfold ab_rtv at hz
      split at hz
      · obtain ⟨hc, hz2⟩ := ab_if_inv hz
        cases hz2
        exact W.vret A1 A2 (hret.trans hc) hq hf hd hlocks
      · cases hz
    all_goals exact absurd rfl hR
theorem ab_run_len {C : Nat → List Value → ab_H → Option Value → ab_H → Prop} (hC : ∀ k as h r h', C k as h r h' → h.1.length ≤ h'.1.length ∧ ab_sl h ≤ ab_sl h') : ∀ (n : Nat) (f : ab_F) (r : Option Value) (h' : ab_H), ab_run C X y n f r h' → f.2.2.2.1.length ≤ h'.1.length ∧ ab_sl f.2.2.2 ≤ ab_sl h'
  | 0, _, _, _, q => q.elim
  | n + 1, f, r, h', q => by
    unfold ab_run at q
    split at q
    · rename_i f' hs
      have h1 := ab_run_len hC n f' r h' q
      unfold ab_stp at hs
      split at hs
      · have h2 := ab_ex_len hs
        exact ⟨Nat.le_trans h2.1 h1.1, Nat.le_trans h2.2 h1.2⟩
      · cases hs
    · rename_i k as f' hs
      obtain ⟨r1, h1, q1, q2⟩ := q
      have g1 := hC _ _ _ _ _ q1
      have g2 := ab_run_len hC n _ r h' q2
      have g0 : f'.2.2.2 = f.2.2.2 := by
        unfold ab_stp at hs
        split at hs
        · rename_i i nn hi
          have hinv : ∀ kd j, ab_inv y kd j (f.1 + 3) f.2.1 f.2.2.1 f.2.2.2 = some (.inr (.inl (k, as, f'))) → f'.2.2.2 = f.2.2.2 := by
            intro kd j e
            rcases ab_inv_inv e with ⟨st', u, e2⟩ | ⟨k, as, st', e2⟩
            · cases e2
            · cases e2; rfl
          by_cases hI : ab_isI i = false
          · by_cases hR : ab_isR i = false
            · exact (ab_ex_inr hI hR hs).elim
            · cases i
              case ireturn =>
                simp only [ab_ex, ab_rti] at hs
                repeat' split at hs
                all_goals cases hs
              case lreturn =>
                simp only [ab_ex, ab_rtl] at hs
                repeat' split at hs
                all_goals cases hs
              case areturn =>
                simp only [ab_ex, ab_rta] at hs
                repeat' split at hs
                all_goals cases hs
              case return_ =>
                simp only [ab_ex, ab_rtv] at hs
                repeat' split at hs
                all_goals cases hs
              all_goals exact absurd rfl hR
          · cases i
            case invokevirtual => exact hinv _ _ (ab_if_inv hs).2
            case invokespecial => exact hinv _ _ (ab_if_inv hs).2
            case invokestatic => exact hinv _ _ (ab_if_inv hs).2
            all_goals exact absurd rfl hI
        · cases hs
      rw [g0] at g1
      exact ⟨Nat.le_trans g1.1 g2.1, Nat.le_trans g1.2 g2.2⟩
    · obtain ⟨-, rfl⟩ := q
      exact ⟨Nat.le_refl _, Nat.le_refl _⟩
    · exact q.elim
theorem ab_cal_len : ∀ (d y : Nat) (as : List Value) (h : ab_H) (r : Option Value) (h' : ab_H), ab_cal X d y as h r h' → h.1.length ≤ h'.1.length ∧ ab_sl h ≤ ab_sl h'
  | 0, _, _, _, _, _, q => q.elim
  | d + 1, _, _, _, _, _, ⟨_, n, q⟩ => ab_run_len (fun k as h r h' q => ab_cal_len d k as h r h' q) n _ _ _ q
/-- a run, to its return -/
theorem sd_run (A : sd_At p s m args meth c y nL cc own dC dI tA B kd X) {d : Nat} (hR1 : d + 1 ≤ R.frames) (hR2 : 60 * d + 60 ≤ R.locals) {C : Nat → List Value → ab_H → Option Value → ab_H → Prop} (hC : ∀ k as h r h', C k as h r h' → sd_Met l dC dI tA B kd X d k as h r h') (hCl : ∀ k as h r h', C k as h r h' → h.1.length ≤ h'.1.length ∧ ab_sl h ≤ ab_sl h') {r : Option Value} {h' : ab_H} (hRR : h'.1.length ≤ c0 + R.cells ∧ ab_sl h' ≤ z0 + R.slots)
    (hend : ∀ (i : Instr) (n pc : Nat) (ls : ab_L) (st : List Value) (L : Array Slot) (H : Heap) (locs : List Loc) (cells slots : Nat), decode cc pc = .ok (i, n) → ab_ex X y i n pc ls st h' = some (.inr (.inr r)) → sd_In dC dI tA B kd s c0 z0 H locs cells slots h' → W p l e R s m args below meth c H locs cells slots Q (F0 m pc L (st.map (sd_v B kd)))) :
    ∀ (n : Nat) (f : ab_F), ab_run C X y n f r h' → sd_Go p l e R s m args below meth c Q dC dI tA B kd c0 z0 nL f
  | 0, _, q => q.elim
  | n + 1, f, q => by
    obtain ⟨pc, ls, st, h⟩ := f
    have A8 := A.2.2.2.2.2.2.2.1
    unfold ab_run at q
    split at q
    · rename_i f' hs
      have hlen := ab_run_len hCl n f' r h' q
      unfold ab_stp at hs
      split at hs
      · rename_i i nn hi
        exact sd_step A (by omega) (by omega) (A8 _ _ hi) hs ⟨Nat.le_trans hlen.1 hRR.1, Nat.le_trans hlen.2 hRR.2⟩ (sd_run A hR1 hR2 hC hCl hRR hend n f' q)
      · cases hs
    · rename_i k as f' hs
      obtain ⟨r1, h1, q1, q2⟩ := q
      have hlen := ab_run_len hCl n _ r h' q2
      have hlen2 : h1.1.length ≤ h'.1.length ∧ ab_sl h1 ≤ ab_sl h' := hlen
      have k2 := sd_run A hR1 hR2 hC hCl hRR hend n _ q2
      have hM := hC _ _ _ _ _ q1
      unfold ab_stp at hs
      split at hs
      · rename_i i nn hi
        have hdd := A8 _ _ hi
        have hRR2 : h1.1.length ≤ c0 + R.cells ∧ ab_sl h1 ≤ z0 + R.slots := ⟨Nat.le_trans hlen2.1 hRR.1, Nat.le_trans hlen2.2 hRR.2⟩
        have hheap : ∀ kd' j, ab_inv y kd' j (pc + 3) ls st h = some (.inr (.inl (k, as, f'))) → f'.2.2.2 = h := by
          intro kd' j e
          rcases ab_inv_inv e with ⟨st', u, e2⟩ | ⟨k, as, st', e2⟩
          · cases e2
          · cases e2; rfl
        by_cases hI : ab_isI i = false
        · by_cases hR : ab_isR i = false
          · exact (ab_ex_inr hI hR hs).elim
          · cases i
            case ireturn =>
              simp only [ab_ex, ab_rti] at hs
              repeat' split at hs
              all_goals cases hs
            case lreturn =>
              simp only [ab_ex, ab_rtl] at hs
              repeat' split at hs
              all_goals cases hs
            case areturn =>
              simp only [ab_ex, ab_rta] at hs
              repeat' split at hs
              all_goals cases hs
            case return_ =>
              simp only [ab_ex, ab_rtv] at hs
              repeat' split at hs
              all_goals cases hs
            all_goals exact absurd rfl hR
        · cases i
          case invokevirtual =>
            obtain ⟨rfl, hz⟩ := ab_if_inv hs
            rw [hheap _ _ hz] at hM
            exact (sd_call A hR1 hR2 ⟨fun _ => hdd, fun q => (by cases q), fun q => (by cases q)⟩ hz hM hRR2 k2).1
          case invokespecial =>
            obtain ⟨rfl, hz⟩ := ab_if_inv hs
            rw [hheap _ _ hz] at hM
            exact (sd_call A hR1 hR2 ⟨fun q => (by cases q), fun _ => hdd, fun q => (by cases q)⟩ hz hM hRR2 k2).1
          case invokestatic =>
            obtain ⟨rfl, hz⟩ := ab_if_inv hs
            rw [hheap _ _ hz] at hM
            exact (sd_call A hR1 hR2 ⟨fun q => (by cases q), fun q => (by cases q), fun _ => hdd⟩ hz hM hRR2 k2).1
          all_goals exact absurd rfl hI
      · cases hs
    · rename_i v hs
      obtain ⟨rfl, rfl⟩ := q
      unfold ab_stp at hs
      split at hs
      · rename_i i nn hi
        intro L H locs cells slots I hL
        exact hend i nn pc ls st L H locs cells slots (A8 _ _ hi) hs I
      · cases hs
    · exact q.elim
end SR
theorem sd_ent_mem {B : Nat} {kd : Nat → Nat} {n : Nat} : ∀ (as : List Value) (k i : Nat) (v : Value), (as.flatMap fun v => if v.category = 2 then [some v, none] else [some v])[i]? = some (some v) → (k + i, sd_v B kd v) ∈ lv_args k (as.map (sd_v B kd))
  | [], _, _, _, h => by simp at h
  | a :: as, k, i, v, h => by
    rw [List.map_cons, lv_args, sd_v_cat]
    rw [List.flatMap_cons] at h
    by_cases hc : a.category = 2
    · rw [if_pos hc] at h
      rw [if_pos hc]
      match i, h with
      | 0, h => cases h; exact List.mem_cons_self
      | 1, h => cases h
      | i + 2, h =>
        have h2 : (as.flatMap fun v => if v.category = 2 then [some v, none] else [some v])[i]? = some (some v) := h
        have := sd_ent_mem (B := B) (kd := kd) (n := n) as (k + 2) i v h2
        rw [show k + (i + 2) = k + 2 + i by omega]
        exact List.mem_cons_of_mem _ this
    · rw [if_neg hc] at h
      rw [if_neg hc]
      match i, h with
      | 0, h => cases h; exact List.mem_cons_self
      | i + 1, h =>
        have h2 : (as.flatMap fun v => if v.category = 2 then [some v, none] else [some v])[i]? = some (some v) := h
        have := sd_ent_mem (B := B) (kd := kd) (n := n) as (k + 1) i v h2
        rw [show k + (i + 1) = k + 1 + i by omega]
        exact List.mem_cons_of_mem _ this
theorem sd_sl_len (B : Nat) (kd : Nat → Nat) : ∀ as : List Value, (lg_sl (as.map (sd_v B kd))).length = (as.flatMap fun v => if v.category = 2 then [some v, none] else [some v]).length
  | [] => rfl
  | a :: as => by
    have ih := sd_sl_len B kd as
    unfold lg_sl at ih ⊢
    rw [List.map_cons, List.flatMap_cons, List.flatMap_cons, List.length_append, List.length_append, ih, sd_v_cat]
    congr 1
    by_cases hc : a.category = 2
    · rw [if_pos hc, if_pos hc]; rfl
    · rw [if_neg hc, if_neg hc]; rfl
theorem sd_entry {B : Nat} {kd : Nat → Nat} {as : List Value} {nL : Nat} (h : (ab_ent nL as).length = nL) : sd_LH B kd ((lg_sl (as.map (sd_v B kd)) ++ List.replicate (nL - (lg_sl (as.map (sd_v B kd))).length) Slot.unset).toArray) nL (ab_ent nL as) := by
  have hle : (as.flatMap fun v => if v.category = 2 then [some v, none] else [some v]).length ≤ nL := by
    unfold ab_ent at h
    dsimp only at h
    rw [List.length_append, List.length_replicate] at h
    omega
  refine ⟨h, sd_has_sub (lv_entry _ (by rw [sd_sl_len]; exact hle)) fun q hq => ?_⟩
  obtain ⟨v, hv, h2⟩ := sd_al_mem.mp hq
  unfold ab_ent at hv
  dsimp only at hv
  by_cases hlt : q.1 < (as.flatMap fun v => if v.category = 2 then [some v, none] else [some v]).length
  · rw [List.getElem?_append_left hlt] at hv
    have := sd_ent_mem (B := B) (kd := kd) (n := nL) as 0 q.1 v hv
    rw [Nat.zero_add, ← h2] at this
    exact this
  · rw [List.getElem?_append_right (by omega), List.getElem?_replicate] at hv
    split at hv <;> cases hv
