theorem wd_nm : ∀ r ∈ vwCl, ∀ a, a < r.2.2 → ∀ b, b < r.2.2 → a ≠ b → (r.2.1 a).2.1 ≠ (r.2.1 b).2.1 := by decide +kernel
theorem wd_tyk : ∀ r ∈ vwCl, ∀ k, k < r.2.2 → (parseFieldDescriptor (r.2.1 k).2.2.1).isSome = true ∧ (r.2.1 k).1 = r.1 := by decide +kernel
def wd_ty0 (r : vw_C) (k : Nat) : FieldType := (parseFieldDescriptor (r.2.1 k).2.2.1).getD .int
theorem wd_tyok {r : vw_C} (hr : r ∈ vwCl) : ∀ k, k < r.2.2 → parseFieldDescriptor (r.2.1 k).2.2.1 = some (wd_ty0 r k) := by
  intro k hk
  have h := (wd_tyk r hr k hk).1
  unfold wd_ty0
  cases hp : parseFieldDescriptor (r.2.1 k).2.2.1 with
  | none => rw [hp] at h; cases h
  | some t => rfl
theorem wd_cnk : ∀ i, i < 9 → ab_cn[i]? = (vwCl[i]?).map (fun r => r.1) := by decide +kernel
theorem wd_dfk : ∀ i, i < 9 → ∃ rs, ab_DF[i]? = some rs ∧ ∃ r, vwCl[i]? = some r ∧ rs.length = r.2.2 := by
  intro i hi
  match i, hi with
  | 0, _ | 1, _ | 2, _ | 3, _ | 4, _ | 5, _ | 6, _ | 7, _ | 8, _ => exact ⟨_, rfl, _, rfl, rfl⟩
  | n + 9, h => exact absurd h (by omega)
def wd_dfb (i : Nat) : Bool := match ab_DF[i]?, vwCl[i]? with
  | some rs, some r => (List.range r.2.2).all (fun k => decide (some (defaultValue (wd_ty0 r k)) = (rs[k]?).map (fun o => match o with | some v => v | none => .int 0)))
  | _, _ => false
theorem wd_dfd : ∀ i, i < 9 → wd_dfb i = true := by decide +kernel
theorem sd_v_narrow (B : Nat) (kd : Nat → Nat) (ty : FieldType) (v : Value) (h : narrow ty v = v) : narrow ty (sd_v B kd v) = sd_v B kd v := by
  cases v <;> first | exact h | (cases ty <;> rfl)
theorem sd_v_fits (B : Nat) (kd : Nat → Nat) (ty : FieldType) (v : Value) (h : fits ty v = true) : fits ty (sd_v B kd v) = true := by
  cases v <;> first | exact h | (cases ty <;> first | rfl | exact h)
section SH2
variable {p : Program} {l : Launch} {e : Env} {R : Room} {s : State} {m : MethodId} {args : Array Value} {below : List Frame} {meth : Method} {c : Code} {Q : State → Prop} {dC : Nat → ClassId} {dI : Nat → Nat → Nat} {tA : Nat → ClassId} {B : Nat} {kd : Nat → Nat} {X : ab_X} {c0 z0 nL y : Nat} {cc : ByteArray} {own : String}
theorem ab_wr_inv {h h' : ab_H} {cN k j : Nat} {v : Value} (e : ab_wr h cN k j v = some h') : ∃ n rs rs', h.1[k]? = some (cN, n, rs) ∧ h'.1 = h.1.set k (cN, n, rs') ∧ (∀ a, a ≠ k → h'.2 a = h.2 a) ∧ sd_fs B kd (h'.2 k) rs' = (sd_fs B kd (h.2 k) rs).set j (sd_v B kd v) ∧ j < rs.length ∧ ab_sl h' = ab_sl h := by
  unfold ab_wr at e
  cases hk : h.1[k]? with
  | none => rw [hk] at e; cases e
  | some q =>
    obtain ⟨t, n, rs⟩ := q
    rw [hk] at e
    obtain ⟨ht, e2⟩ := ab_if_inv e
    obtain rfl : t = cN := ht
    cases hj : rs[j]? with
    | none => rw [hj] at e2; cases e2
    | some o =>
      have hjl := (List.getElem?_eq_some_iff.mp hj).1
      rw [hj] at e2
      cases o with
      | none =>
        cases v with
        | int x =>
          cases e2
          refine ⟨n, rs, rs, rfl, (sd_set_self hk).symm, fun a ha => by funext b; show (if a = k ∧ b = j then x else h.2 a b) = _; rw [if_neg (fun q => ha q.1)], ?_, hjl, rfl⟩
          apply List.ext_getElem?
          intro i
          by_cases hi : i = j
          · subst hi
            rw [List.getElem?_set_self (by unfold sd_fs; rw [List.length_mapIdx]; exact hjl), sd_fs_get, hj]
            simp [ab_up, sd_v]
          · rw [List.getElem?_set_ne (Ne.symm hi), sd_fs_get, sd_fs_get]
            simp [ab_up, hi]
        | _ => cases e2
      | some w =>
        cases v with
        | ref r =>
          cases e2
          refine ⟨n, rs, rs.set j (some (.ref r)), rfl, rfl, fun a ha => rfl, ?_, hjl, ab_sl_set hk _⟩
          apply List.ext_getElem?
          intro i
          by_cases hi : i = j
          · subst hi
            rw [List.getElem?_set_self (by unfold sd_fs; rw [List.length_mapIdx]; exact hjl), sd_fs_get, List.getElem?_set_self hjl]
            rfl
          · rw [List.getElem?_set_ne (Ne.symm hi), sd_fs_get, sd_fs_get, List.getElem?_set_ne (Ne.symm hi)]
        | _ => cases e2
theorem ab_pf_inv {cN j pc : Nat} {ls : ab_L} {st : List Value} {h : ab_H} {f' : ab_F} (e : ab_pf y cN j pc ls st h = some (.inl f')) : ∃ v k r ty h', st = v :: .ref k :: r ∧ ab_ty cN j = some ty ∧ k < 10000 ∧ narrow ty v = v ∧ fits ty v = true ∧ (ab_fin cN j = false ∨ (ab_ini y = true ∧ ab_own y = cN)) ∧ ab_wr h cN k j v = some h' ∧ f' = (pc, ls, r, h') := by
  unfold ab_pf at e
  split at e
  · rename_i v k r
    split at e
    · rename_i ty hty
      obtain ⟨⟨-, h2, h3, h4, h5⟩, e2⟩ := ab_if_inv e
      split at e2
      · rename_i h' hw
        cases e2
        exact ⟨v, k, r, ty, h', rfl, hty, h2, h3, h4, h5, hw, rfl⟩
      · cases e2
    · cases e
  · cases e
theorem sx_putfield (A : sd_At p s m args meth c y nL cc own dC dI tA B kd X) {pc n : Nat} {ls : ab_L} {st : List Value} {h : ab_H} {f' : ab_F} {j : Nat} (hd : decode cc pc = .ok (.putfield j, n)) (hx : ab_ex X y (.putfield j) n pc ls st h = some (.inl f')) (k : sd_Go p l e R s m args below meth c Q dC dI tA B kd c0 z0 nL f') : sd_Go p l e R s m args below meth c Q dC dI tA B kd c0 z0 nL (pc, ls, st, h) := by
  obtain ⟨A1, A2, A3, A4, A5, A6, A7, A8, A9⟩ := A
  obtain ⟨rfl, hz⟩ := ab_if_inv hx
  split at hz
  · rename_i cN f hf
    obtain ⟨v, a, r, ty, h', rfl, hty, ha, hn, hfit, hfin, hw, rfl⟩ := ab_pf_inv hz
    rcases wd_FL hf A5 with ⟨rc, hr, hc9, hjn, hlw⟩ | ⟨rfl, -⟩
    · intro L H locs cells slots I hL
      obtain ⟨n0, rs, rs', hh, hs, hu, hfs, hjl, hsl⟩ := ab_wr_inv (B := B) (kd := kd) hw
      have hat := sd_ws_at (B := B) (kd := kd) (tA := tA) hh
      rw [sd_E_o hc9] at hat
      have hrm := List.mem_of_getElem? hr
      have hin := wd_cls rc hrm
      have hap := va_apart (own := own) A6 hin (wd_ty0 rc) (wd_tyok hrm) (wd_nm rc hrm) A9.1 hr
      have hdsc : parseFieldDescriptor (rc.2.1 f).2.2.1 = some ty := by
        unfold ab_ty at hty
        rw [hr] at hty
        exact (ab_if_inv hty).2
      obtain ⟨r1, hr1, cell, q1, q2, q3, q4⟩ := I.1.2 a _ hat
      obtain rfl : r1 = rc := Option.some.inj (hr1.symm.trans hr)
      obtain ⟨hS, hfc, kC, hkC, hkind⟩ := A9.1.1 cN _ hr
      obtain ⟨cf, kf, fi, fl, hi, hslot⟩ := hS f hjn
      have hst := (u_facts hfc hkC (u_lays A6 hin hjn) hi).1
      show W p l e R s m args below meth c H locs cells slots Q (F0 m pc L (sd_v B kd v :: .ref (sd_ad B kd a) :: r.map (sd_v B kd)))
      rw [sd_ad_lt ha]
      have fin : ∀ H1 : Heap, H1[B + a]? = some (cell.setSlot fl.slot (sd_v B kd v)) → H1.size = H.size → (∀ q, q ≠ B + a → H1[q]? = H[q]?) → W p l e R s m args below meth c H1 (locs ++ [⟨B + a, fl.slot⟩]) cells slots Q (F0 m (pc + 3) L (r.map (sd_v B kd))) := by
        intro H1 e1 e2 e3
        refine k L H1 _ cells slots ⟨I.1.upd hh hs hu ?_ e2 e3, I.2.1.put e2 e3 (Nat.le_add_right _ _), by rw [I.2.2.1]; show h.1.length = h'.1.length; rw [hs, List.length_set], by rw [I.2.2.2]; exact hsl.symm⟩ hL
        rw [sd_E_o hc9, hfs]
        refine ⟨r1, hr, t_OB.to (V := updV (vp_V (sd_fs B kd (h.2 a) rs)) f (sd_v B kd v)) ⟨_, e1, q2, q3, ?_⟩ (fun j _ => vp_updV_set (by unfold sd_fs; rw [List.length_mapIdx]; exact hjl) _ j)⟩
        rw [hslot]
        exact t_set q4 hap hjn _
      have hlay := A6 _ (hin _ (u_in_lay hjn))
      unfold u_lay at hlay
      by_cases hb : (r1.2.1 f).2.2.2 = true
      · rw [if_pos hb] at hlay
        have hfi : ab_ini y = true ∧ ab_own y = cN := by
          rcases hfin with hfin | hfin
          · unfold ab_fin at hfin
            rw [hr] at hfin
            exact absurd (hfin.symm.trans hb) (by decide)
          · exact hfin
        have hdecl : (r1.2.1 f).1 = own := by
          have h1 := wd_cnk cN hc9
          rw [hr] at h1
          rw [hfi.2] at A5
          have h2 := A5.symm.trans h1
          rw [(wd_tyk r1 hrm f hjn).2]
          exact (Option.some.inj h2).symm
        have hcf : m.cls = cf := by
          obtain ⟨_, _, c', _, _, _, -, -, hf', -, -, -, hown2, -⟩ := Cond.laysFinal_spec hlay
          have e1 : c' = cf := by have := hi.symm.trans hf'; simp at this; exact this.1.symm
          rw [hdecl] at hown2
          rw [← e1]
          exact Option.some.inj (A4.symm.trans hown2)
        have h6 := u_fits hfc hkC hkind (Or.inr hlay) hi hdsc (sd_v_narrow B kd ty v hn) (sd_v_fits B kd ty v hfit)
        exact W.putFinK A1 A2 A4 (A6 _ hlw) hi hst hcf (A7 hfi.1) (by rw [q2]; exact h6) q1 q3 (by rw [hslot]; exact k2_hasslot (q4 f hjn)) rfl rfl hd fin
      · rw [if_neg hb] at hlay
        have h6 := u_store hfc hkC hkind hlay hi hdsc (sd_v_narrow B kd ty v hn) (sd_v_fits B kd ty v hfit)
        exact W.putK A1 A2 (f := fl) ⟨A4, A6 _ hlw, ⟨_, _, _, hi⟩, hst⟩ (by rw [q2]; exact h6) q1 q3 (by rw [hslot]; exact k2_hasslot (q4 f hjn)) rfl rfl hd fin
    · unfold ab_ty at hty
      cases hty
  · cases hz
theorem sx_aastore (A : sd_At p s m args meth c y nL cc own dC dI tA B kd X) {pc n : Nat} {ls : ab_L} {st : List Value} {h : ab_H} {f' : ab_F} (hd : decode cc pc = .ok (.aastore, n)) (hx : ab_ex X y (.aastore) n pc ls st h = some (.inl f')) (k : sd_Go p l e R s m args below meth c Q dC dI tA B kd c0 z0 nL f') : sd_Go p l e R s m args below meth c Q dC dI tA B kd c0 z0 nL (pc, ls, st, h) := by
  obtain ⟨A1, A2, A3, A4, A5, A6, A7, A8, A9⟩ := A
  obtain ⟨rfl, hz⟩ := ab_if_inv hx
  split at hz
  · rename_i v z a r
    obtain ⟨⟨ha, hv⟩, hz2⟩ := ab_if_inv hz
    split at hz2
    · rename_i t n1 rs tv n2 rs2 hh hhv
      obtain ⟨⟨ht, htv, hi⟩, hz3⟩ := ab_if_inv hz2
      cases hz3
      have hin := ab_ix_in hi
      intro L H locs cells slots I hL
      have hlt : z.toNatClampNeg < rs.length := Nat.not_le.mp fun q => hin (Or.inr q)
      have h0 : ¬ z < 0 := fun q => hin (Or.inl q)
      have hat := sd_ws_at (B := B) (kd := kd) (tA := tA) hh
      have hav := sd_ws_at (B := B) (kd := kd) (tA := tA) hhv
      have htv9 : tv < 9 := by omega
      rw [sd_E_o htv9] at hav
      obtain ⟨rv, hrv, cellV, g1, g2, g3, -⟩ := I.1.2 v _ hav
      have hcls := (A9.1.1 tv rv hrv).2
      show W p l e R s m args below meth c H locs cells slots Q (F0 m pc L (.ref (sd_ad B kd v) :: .int z :: .ref (sd_ad B kd a) :: r.map (sd_v B kd)))
      rw [sd_ad_lt ha, sd_ad_lt hv]
      have key : ∀ (q : Nat) (C : String), t = 200 + tv → (sd_tys tA)[q]? = some (tA q, .object C) → rv.1 = C → sd_E B kd tA h.2 a (t, n1, rs) = .inl (tA q, rs.length, .inr (.inr (.inr (.inr (sd_rf B kd rs))))) → sd_E B kd tA h.2 a (t, n1, rs.set z.toNatClampNeg (some (.ref v))) = .inl (tA q, (rs.set z.toNatClampNeg (some (.ref v))).length, .inr (.inr (.inr (.inr (sd_rf B kd (rs.set z.toNatClampNeg (some (.ref v))))))))  → W p l e R s m args below meth c H locs cells slots Q (F0 m pc L (.ref (B + v) :: .int z :: .ref (B + a) :: r.map (sd_v B kd))) := by
        intro q C _ hq hC hE hE2
        rw [hE] at hat
        subst hC
        obtain ⟨kA, comp, k1, k2, k3, -⟩ := (A9.1.2 q _ hq).2
        have hcomp : comp = dC tv := Option.some.inj (k3.symm.trans hcls.1)
        subst hcomp
        obtain ⟨kC, hkC, -⟩ := hcls.2
        refine W.aast A1 A2 (I.1.2 a _ hat) (fun q h => by cases h) (fun h => by cases h) k1 k2 rfl hkC ⟨h0, by show _ < (arrV _ _ _).slots.size; rw [arrV_size]; exact hlt⟩ g1 (fun q h => by rw [g3] at h; cases h) (by rw [g2]; exact hkC) (by rw [g2]; exact va_assign hcls) rfl rfl hd fun H1 e1 e2 e3 => ?_
        refine k L H1 _ cells slots ⟨I.1.upd (x' := (t, n1, rs.set z.toNatClampNeg (some (.ref v)))) hh rfl (fun b hb => rfl) ?_ e2 e3, I.2.1.put e2 e3 (Nat.le_add_right _ _), by rw [I.2.2.1]; show _ = (h.1.set a _).length; rw [List.length_set], by rw [I.2.2.2]; exact (ab_sl_set hh _).symm⟩ hL
        show va_at (dC, dI) vwCl (B + a, sd_E B kd tA h.2 a (t, n1, rs.set z.toNatClampNeg (some (.ref v)))) H1
        rw [hE2]
        show H1[B + a]? = some (vp_cell _ _)
        rw [e1]
        rw [vp_cell_q, vp_cell_q, arrV_store, List.length_set]
        congr 2
        funext i
        by_cases hi2 : i = z.toNatClampNeg
        · subst hi2
          simp only [updV]
          unfold sd_rf
          rw [List.getElem?_set_self hlt]
          simp [va_rf, sd_ad_lt hv]
        · simp only [updV, if_neg hi2]
          unfold sd_rf
          rw [List.getElem?_set_ne (Ne.symm hi2)]
      rcases ht with rfl | rfl
      · obtain rfl : tv = 0 := by omega
        exact key 1 RX0 rfl rfl (by cases hrv; rfl) sd_E_f sd_E_f
      · obtain rfl : tv = 4 := by omega
        exact key 2 RX4 rfl rfl (by cases hrv; rfl) sd_E_s sd_E_s
    · cases hz2
  · cases hz
theorem ab_sl_new {h h' : ab_H} {x : ab_C} (e : ab_alc h x = some h') : ab_sl h' = ab_sl h + x.2.1 ∧ h'.1.length = h.1.length + 1 ∧ h.1.length < 9999 := by
  unfold ab_alc at e
  obtain ⟨h1, e2⟩ := ab_if_inv e
  cases e2
  refine ⟨?_, ?_, h1⟩
  · unfold ab_sl
    show ((h.1 ++ [x]).map _).sum = _
    rw [List.map_append, List.sum_append]
    rfl
  · show (h.1 ++ [x]).length = _
    rw [List.length_append]; rfl
theorem ab_nw_inv {o : Option ab_H} {pc k : Nat} {ls : ab_L} {st : List Value} {f' : ab_F} (e : ab_nw o pc ls st k = some (.inl f')) : ∃ h', o = some h' ∧ f' = (pc, ls, .ref k :: st, h') := by
  unfold ab_nw at e
  split at e
  · cases e
    exact ⟨_, rfl, rfl⟩
  · cases e
theorem sx_new (A : sd_At p s m args meth c y nL cc own dC dI tA B kd X) {pc n : Nat} {ls : ab_L} {st : List Value} {h : ab_H} {f' : ab_F} {j : Nat} (hd : decode cc pc = .ok (.new j, n)) (hx : ab_ex X y (.new j) n pc ls st h = some (.inl f')) (k : sd_Go p l e R s m args below meth c Q dC dI tA B kd c0 z0 nL f') (hR : f'.2.2.2.1.length ≤ c0 + R.cells ∧ ab_sl f'.2.2.2 ≤ z0 + R.slots) : sd_Go p l e R s m args below meth c Q dC dI tA B kd c0 z0 nL (pc, ls, st, h) := by
  obtain ⟨A1, A2, A3, A4, A5, A6, A7, A8, A9⟩ := A
  obtain ⟨rfl, hz⟩ := ab_if_inv hx
  split at hz
  · rename_i cN hc
    obtain ⟨r, hr, hc9, hw1, hw2, hw3⟩ := wd_CL hc A5
    split at hz
    · rename_i rs hrs
      obtain ⟨h', ha, rfl⟩ := ab_nw_inv hz
      obtain ⟨rs1, e1, r1, e2, e3⟩ := wd_dfk cN hc9
      obtain rfl : rs1 = rs := Option.some.inj (e1.symm.trans hrs)
      obtain rfl : r1 = r := Option.some.inj (e2.symm.trans hr)
      obtain ⟨hs1, hs2, hs3⟩ := ab_sl_new ha
      intro L H locs cells slots I hL
      have i3 : cells + c0 = h.1.length := I.2.2.1
      have i4 : slots + z0 = ab_sl h := I.2.2.2
      have r1' : h'.1.length ≤ c0 + R.cells := hR.1
      have r2' : ab_sl h' ≤ z0 + R.slots := hR.2
      have hs1' : ab_sl h' = ab_sl h + rs1.length := hs1
      have hsz : H.size = B + h.1.length := I.1.1
      have i5 : s.heap.size ≤ H.size := I.2.1.1
      have hrm := List.mem_of_getElem? hr
      have hKn := A9.1.1 cN _ hr
      refine W.newcK A1 A2 A4 (A6 _ hw1) (A6 _ hw2) (A6 _ hw3) rfl hd ?_ ?_ hKn.2.1 I.1.1 fun H1 kC hkC g1 g2 g3 => ?_
      · omega
      · omega
      · have k2 := k L H1 locs (cells + 1) (slots + r1.2.2) ⟨I.1.new ha ?_ (by rw [g2, hsz]) (fun q hq => g3 q (by rw [← hsz]; exact hq)), ⟨Nat.le_trans i5 (by rw [g2, hsz]; exact Nat.le_succ _), fun q q1 q2 => (g3 q (by rw [← hsz]; exact Nat.lt_of_lt_of_le q1 I.2.1.1)).trans (I.2.1.2.1 q q1 q2), I.2.1.2.2⟩, by show cells + 1 + c0 = h'.1.length; omega, by show slots + r1.2.2 + z0 = ab_sl h'; omega⟩ hL
        · have e5 : sd_ad B kd h.1.length = B + h.1.length := sd_ad_lt (by omega)
          have k3 : W p l e R s m args below meth c H1 locs (cells + 1) (slots + r1.2.2) Q (F0 m (pc + 3) L (.ref (sd_ad B kd h.1.length) :: st.map (sd_v B kd))) := k2
          rw [e5] at k3
          exact k3
        · rw [sd_E_o hc9]
          refine ⟨r1, hr, (u_born (wd_ty0 r1) A6 (wd_cls r1 hrm) hKn hkC g1 (wd_tyok hrm)).to fun q hq => ?_⟩
          have hb := wd_dfd cN hc9
          unfold wd_dfb at hb
          rw [hrs, hr] at hb
          have hb2 := of_decide_eq_true (List.all_eq_true.mp hb q (List.mem_range.mpr hq))
          show defaultValue (wd_ty0 r1 q) = (sd_fs B kd (h'.2 h.1.length) rs1).getD q .null
          rw [List.getD_eq_getElem?_getD, sd_fs_get]
          cases hq1 : rs1[q]? with
          | none => rw [hq1] at hb2; cases hb2
          | some o =>
            rw [hq1] at hb2
            have hb3 := Option.some.inj hb2
            cases o with
            | none =>
              have : h'.2 h.1.length q = 0 := by
                unfold ab_alc at ha
                cases (ab_if_inv ha).2
                show (if h.1.length = h.1.length then (0 : Int32) else _) = 0
                rw [if_pos rfl]
              show _ = Value.int (h'.2 h.1.length q)
              rw [this]
              exact hb3
            | some w =>
              show _ = sd_v B kd w
              have : w = .null := by
                have hnull : ∀ i, i < 9 → ((ab_DF[i]?).getD []).all (fun o => decide (o = none ∨ o = some .null)) = true := by decide +kernel
                have h1 := hnull cN hc9
                rw [hrs] at h1
                have h2 := of_decide_eq_true (List.all_eq_true.mp h1 _ (List.mem_of_getElem? hq1))
                rcases h2 with h2 | h2
                · cases h2
                · exact Option.some.inj h2
              subst this
              exact hb3
    · cases hz
  · cases hz
theorem sx_newarray (A : sd_At p s m args meth c y nL cc own dC dI tA B kd X) {pc n : Nat} {ls : ab_L} {st : List Value} {h : ab_H} {f' : ab_F} {t : ArrayType} (hd : decode cc pc = .ok (.newarray t, n)) (hx : ab_ex X y (.newarray t) n pc ls st h = some (.inl f')) (k : sd_Go p l e R s m args below meth c Q dC dI tA B kd c0 z0 nL f') (hR : f'.2.2.2.1.length ≤ c0 + R.cells ∧ ab_sl f'.2.2.2 ≤ z0 + R.slots) : sd_Go p l e R s m args below meth c Q dC dI tA B kd c0 z0 nL (pc, ls, st, h) := by
  obtain ⟨A1, A2, A3, A4, A5, A6, A7, A8, A9⟩ := A
  obtain ⟨⟨rfl, rfl⟩, hz⟩ := ab_if_inv hx
  split at hz
  · rename_i z r
    obtain ⟨⟨hn, hN⟩, hz2⟩ := ab_if_inv hz
    obtain ⟨h', ha, rfl⟩ := ab_nw_inv hz2
    obtain ⟨hs1, hs2, hs3⟩ := ab_sl_new ha
    intro L H locs cells slots I hL
    have i3 : cells + c0 = h.1.length := I.2.2.1
    have i4 : slots + z0 = ab_sl h := I.2.2.2
    have r1' : h'.1.length ≤ c0 + R.cells := hR.1
    have r2' : ab_sl h' ≤ z0 + R.slots := hR.2
    have hs1' : ab_sl h' = ab_sl h + z.toNatClampNeg := hs1
    have hsz : H.size = B + h.1.length := I.1.1
    have i5 : s.heap.size ≤ H.size := I.2.1.1
    refine va_newaK A1 A2 (atype := .int) (A6 _ wd_arrI) rfl hd rfl hn rfl (Nat.le_trans (Nat.mul_le_mul_right _ hN) (by decide)) ?_ ?_ hsz fun H1 cA g1 g2 g3 hAr hNm => ?_
    · omega
    · omega
    · have hcA : cA = tA 0 := by
        have h1 := (A9.1.2 0 _ rfl).2
        exact Option.some.inj (hNm.symm.trans h1)
      subst hcA
      have k2 := k L H1 locs (cells + 1) (slots + z.toNatClampNeg) ⟨I.1.new ha ?_ (by rw [g2, hsz]) (fun q hq => g3 q (by rw [← hsz]; exact hq)), ⟨Nat.le_trans i5 (by rw [g2, hsz]; exact Nat.le_succ _), fun q q1 q2 => (g3 q (by rw [← hsz]; exact Nat.lt_of_lt_of_le q1 I.2.1.1)).trans (I.2.1.2.1 q q1 q2), I.2.1.2.2⟩, by show cells + 1 + c0 = h'.1.length; omega, by show slots + z.toNatClampNeg + z0 = ab_sl h'; omega⟩ hL
      · have e5 : sd_ad B kd h.1.length = B + h.1.length := sd_ad_lt (by omega)
        have k3 : W p l e R s m args below meth c H1 locs (cells + 1) (slots + z.toNatClampNeg) Q (F0 m (pc + 2) L (.ref (sd_ad B kd h.1.length) :: r.map (sd_v B kd))) := k2
        rw [e5] at k3
        exact k3
      · rw [sd_E_int]
        show H1[B + h.1.length]? = some (vp_cell _ _)
        rw [g1]
        unfold ab_alc at ha
        cases (ab_if_inv ha).2
        congr 1
        rw [vp_cell_i]
        congr 1
        funext q
        show Value.int 0 = Value.int (if h.1.length = h.1.length then (0 : Int32) else _)
        rw [if_pos rfl]
  · cases hz
theorem sx_anewarray (A : sd_At p s m args meth c y nL cc own dC dI tA B kd X) {pc n : Nat} {ls : ab_L} {st : List Value} {h : ab_H} {f' : ab_F} {j : Nat} (hd : decode cc pc = .ok (.anewarray j, n)) (hx : ab_ex X y (.anewarray j) n pc ls st h = some (.inl f')) (k : sd_Go p l e R s m args below meth c Q dC dI tA B kd c0 z0 nL f') (hR : f'.2.2.2.1.length ≤ c0 + R.cells ∧ ab_sl f'.2.2.2 ≤ z0 + R.slots) : sd_Go p l e R s m args below meth c Q dC dI tA B kd c0 z0 nL (pc, ls, st, h) := by
  obtain ⟨A1, A2, A3, A4, A5, A6, A7, A8, A9⟩ := A
  obtain ⟨rfl, hz⟩ := ab_if_inv hx
  split at hz
  · rename_i cN z r hc
    obtain ⟨rc, hr, hc9, hw1, -, -⟩ := wd_CL hc A5
    obtain ⟨⟨hn, hN, h04⟩, hz2⟩ := ab_if_inv hz
    obtain ⟨h', ha, rfl⟩ := ab_nw_inv hz2
    obtain ⟨hs1, hs2, hs3⟩ := ab_sl_new ha
    intro L H locs cells slots I hL
    have i3 : cells + c0 = h.1.length := I.2.2.1
    have i4 : slots + z0 = ab_sl h := I.2.2.2
    have r1' : h'.1.length ≤ c0 + R.cells := hR.1
    have r2' : ab_sl h' ≤ z0 + R.slots := hR.2
    have hs1' : ab_sl h' = ab_sl h + z.toNatClampNeg := hs1
    have hsz : H.size = B + h.1.length := I.1.1
    have i5 : s.heap.size ≤ H.size := I.2.1.1
    have key : ∀ (q : Nat), (sd_tys tA)[q]? = some (tA q, .object rc.1) → va_AO rc.1 s → sd_E B kd tA h'.2 h.1.length (200 + cN, z.toNatClampNeg, List.replicate z.toNatClampNeg (some .null)) = .inl (tA q, (List.replicate z.toNatClampNeg (some Value.null)).length, .inr (.inr (.inr (.inr (sd_rf B kd (List.replicate z.toNatClampNeg (some .null))))))) → W p l e R s m args below meth c H locs cells slots Q (F0 m pc L (.int z :: r.map (sd_v B kd))) := by
      intro q hq hAO hE
      refine W.anew A1 A2 A4 (A6 _ hw1) (va_AO.use hAO) rfl hd rfl hn (Nat.le_trans (Nat.mul_le_mul_right _ hN) (by decide)) ?_ ?_ fun cA kA comp f1 f2 f3 f4 => ?_
      · omega
      · omega
      · have hcA : cA = tA q := by
          obtain ⟨_, _, _, _, _, g4⟩ := (A9.1.2 q _ hq).2
          exact Option.some.inj (f1.symm.trans g4)
        subst hcA
        generalize hH1 : H.push ({ cls := tA q, slots := Array.replicate z.toNatClampNeg .null, vm := .none } : Cell) = H1
        have z1 : H1.size = H.size + 1 := by rw [← hH1, Array.size_push]
        have e1 : H1[H.size]? = some (arrV (tA q) z.toNatClampNeg (fun _ => .null)) := by rw [← hH1, Array.getElem?_push_size, ← arrV_new]
        have o1 : ∀ q : Nat, q < H.size → H1[q]? = H[q]? := fun q hq => by rw [← hH1, Array.getElem?_push, if_neg (Nat.ne_of_lt hq)]
        have k2 := k L H1 locs (cells + 1) (slots + z.toNatClampNeg) ⟨I.1.new ha ?_ z1 o1, ⟨Nat.le_trans i5 (by omega), fun q q1 q2 => (o1 q (Nat.lt_of_lt_of_le q1 I.2.1.1)).trans (I.2.1.2.1 q q1 q2), I.2.1.2.2⟩, by show cells + 1 + c0 = h'.1.length; omega, by show slots + z.toNatClampNeg + z0 = ab_sl h'; omega⟩ hL
        · have e5 : sd_ad B kd h.1.length = H.size := by rw [hsz]; exact sd_ad_lt (by omega)
          have k3 : W p l e R s m args below meth c H1 locs (cells + 1) (slots + z.toNatClampNeg) Q (F0 m (pc + 3) L (.ref (sd_ad B kd h.1.length) :: r.map (sd_v B kd))) := k2
          rw [e5] at k3
          exact k3
        · rw [hE]
          show H1[B + h.1.length]? = some (vp_cell _ _)
          rw [← hsz, e1, vp_cell_q, List.length_replicate]
          congr 2
          funext i
          unfold sd_rf
          rw [List.getElem?_replicate]
          split
          · rename_i h1; split at h1
            · cases h1
            · cases h1
          · rfl
    rcases h04 with rfl | rfl
    · cases hr
      exact key 1 rfl A9.2.2.2.2.2.2.2.2.2.2.1 sd_E_f
    · cases hr
      exact key 2 rfl A9.2.2.2.2.2.2.2.2.2.2.2.1 sd_E_s
  · cases hz
end SH2
