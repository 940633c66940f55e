section SH
variable {p : Program} {l : Launch} {e : Env} {R : Room} {s : State} {m : MethodId} {args : Array Value} {below : List Frame} {meth : Method} {c : Code} {Q : State → Prop} {dC : Nat → ClassId} {dI : Nat → Nat → Nat} {tA : Nat → ClassId} {B : Nat} {kd : Nat → Nat} {X : ab_X} {c0 z0 nL y : Nat} {cc : ByteArray} {own : String}
theorem sd_D (B : Nat) (kd : Nat → Nat) (tA : Nat → ClassId) (h : ab_H) : va_D (fun q => B ≤ q) (sd_ws B kd tA h) := by
  refine ⟨fun i j a b hi hj hab => ?_, fun k q hk => ?_⟩
  · rw [sd_ws_get] at hi hj
    obtain ⟨x, -, rfl⟩ := Option.map_eq_some_iff.mp hi
    obtain ⟨z, -, rfl⟩ := Option.map_eq_some_iff.mp hj
    exact Nat.add_left_cancel hab
  · rw [sd_ws_get] at hk
    obtain ⟨x, -, rfl⟩ := Option.map_eq_some_iff.mp hk
    exact Nat.le_add_right _ _
theorem sd_ad_lt {k : Nat} (hk : k < 10000) : sd_ad B kd k = B + k := if_pos hk
theorem sd_ad_ge {k : Nat} (hk : ¬ k < 10000) : sd_ad B kd k = kd k := if_neg hk
theorem sd_plus {a : Nat} (h : 10000 ≤ a) : a + 1000 = 11000 + (a - 10000) := by omega
theorem sd_set_self {α : Type} {l : List α} {k : Nat} {a : α} (h : l[k]? = some a) : l.set k a = l := by
  apply List.ext_getElem?
  intro i
  by_cases hi : i = k
  · subst hi
    rw [List.getElem?_set_self (List.getElem?_eq_some_iff.mp h).1, h]
  · rw [List.getElem?_set_ne (Ne.symm hi)]
theorem sd_E_cong {u u' : Nat → Nat → Int32} {k : Nat} {x : ab_C} (h : u k = u' k) : sd_E B kd tA u k x = sd_E B kd tA u' k x := by unfold sd_E; rw [h]
theorem sd_W.upd {h h' : ab_H} {H H' : Heap} {k : Nat} {x x' : ab_C} (hW : sd_W dC dI tA B kd h H) (hc : h.1[k]? = some x) (hs : h'.1 = h.1.set k x') (hu : ∀ a, a ≠ k → h'.2 a = h.2 a) (he : va_at (dC, dI) vwCl (B + k, sd_E B kd tA h'.2 k x') H') (e2 : H'.size = H.size) (e3 : ∀ q, q ≠ B + k → H'[q]? = H[q]?) : sd_W dC dI tA B kd h' H' := by
  refine ⟨by rw [e2, hW.1, hs, List.length_set], fun k2 q hq => ?_⟩
  rw [sd_ws_get, hs] at hq
  by_cases hk : k2 = k
  · subst hk
    rw [List.getElem?_set_self (List.getElem?_eq_some_iff.mp hc).1] at hq
    cases hq
    exact he
  · rw [List.getElem?_set_ne (Ne.symm hk)] at hq
    obtain ⟨z, hz, rfl⟩ := Option.map_eq_some_iff.mp hq
    have h1 := hW.2 k2 _ (sd_ws_at hz)
    rw [sd_E_cong (hu k2 hk)]
    exact h1.kept (e3 _ (by show B + k2 ≠ B + k; omega))
theorem sd_W.new {h h' : ab_H} {H H' : Heap} {x : ab_C} (hW : sd_W dC dI tA B kd h H) (ha : ab_alc h x = some h') (he : va_at (dC, dI) vwCl (B + h.1.length, sd_E B kd tA h'.2 h.1.length x) H') (e2 : H'.size = H.size + 1) (e3 : ∀ q, q < H.size → H'[q]? = H[q]?) : sd_W dC dI tA B kd h' H' := by
  unfold ab_alc at ha
  obtain ⟨hl, ha⟩ := ab_if_inv ha
  cases ha
  refine ⟨by show H'.size = B + (h.1 ++ [x]).length; rw [e2, hW.1, List.length_append]; rfl, fun k2 q hq => ?_⟩
  rw [sd_ws_get] at hq
  by_cases hk : k2 < h.1.length
  · rw [List.getElem?_append_left hk] at hq
    obtain ⟨z, hz, rfl⟩ := Option.map_eq_some_iff.mp hq
    have h1 := hW.2 k2 _ (sd_ws_at hz)
    rw [sd_E_cong (u' := h.2) (by funext b; show (if k2 = h.1.length then 0 else h.2 k2 b) = _; rw [if_neg (by omega)])]
    exact h1.kept (e3 _ (by show B + k2 < H.size; rw [hW.1]; omega))
  · rw [List.getElem?_append_right (by omega)] at hq
    obtain ⟨z, hz, rfl⟩ := Option.map_eq_some_iff.mp hq
    have h0 : k2 - h.1.length < 1 := (List.getElem?_eq_some_iff.mp hz).1
    obtain rfl : k2 = h.1.length := by omega
    rw [Nat.sub_self] at hz
    cases hz
    exact he
theorem ab_rd_inv {h : ab_H} {cN k j : Nat} {v : Value} (e : ab_rd h cN k j = some v) : ∃ n rs, h.1[k]? = some (cN, n, rs) ∧ (sd_fs B kd (h.2 k) rs)[j]? = some (sd_v B kd v) := by
  unfold ab_rd at e
  split at e
  · rename_i t n rs hh
    obtain ⟨rfl, e2⟩ := ab_if_inv e
    refine ⟨n, rs, hh, ?_⟩
    rw [sd_fs_get]
    cases hr : rs[j]? with
    | none => rw [hr] at e2; cases e2
    | some w =>
      rw [hr] at e2
      cases w with
      | none => cases e2; rfl
      | some w => cases e2; rfl
  · cases e
theorem sx_getfield (A : sd_At p s m args meth c y nL cc own dC dI tA B kd X) {pc n : Nat} {ls : ab_L} {st : List Value} {h : ab_H} {f' : ab_F} {j : Nat} (hd : decode cc pc = .ok (.getfield j, n)) (hx : ab_ex X y (.getfield j) n pc ls st h = some (.inl f')) (k : sd_Go p l e R s m args below meth c Q dC dI tA B kd c0 z0 nL f') : sd_Go p l e R s m args below meth c Q dC dI tA B kd c0 z0 nL (pc, ls, st, h) := by
  obtain ⟨A1, A2, A3, A4, A5, A6, A7, A8, A9⟩ := A
  obtain ⟨rfl, hz⟩ := ab_if_inv hx
  split at hz
  · rename_i cN f a r hf
    unfold ab_lo at hz
    split at hz
    · rename_i v hv
      cases hz
      intro L H locs cells slots I hL
      have k2 := k L H locs cells slots I hL
      unfold ab_gf at hv
      rcases wd_FL hf A5 with ⟨rc, hr, hc9, hjn, hw⟩ | ⟨rfl, hw⟩
      · rw [if_neg (by omega)] at hv
        obtain ⟨hcc, hv⟩ := ab_if_inv hv
        obtain ⟨n, rs, hh, hfs⟩ := ab_rd_inv (B := B) (kd := kd) hv
        have hat := sd_ws_at (B := B) (kd := kd) (tA := tA) hh
        rw [sd_E_o hc9] at hat
        show W p l e R s m args below meth c H locs cells slots Q (F0 m pc L (.ref (sd_ad B kd a) :: r.map (sd_v B kd)))
        rw [sd_ad_lt hcc.2]
        exact va_get (own := own) A1 A2 A6 (wd_cls rc (List.mem_of_getElem? hr)) A4 A9.1 I.1.2 a hat hr f hjn (A6 _ hw) (fun _ q => q) hfs hd k2
      · rw [if_pos rfl] at hv
        obtain ⟨hk, hv⟩ := ab_if_inv hv
        have hS := A9.2.2.2.2.2.2.2.1.1 (a - 10000) (by omega)
        have ea : sd_ad B kd a = kd (10000 + (a - 10000)) := (sd_ad_ge (by omega)).trans (congrArg kd (by omega))
        show W p l e R s m args below meth c H locs cells slots Q (F0 m pc L (.ref (sd_ad B kd a) :: r.map (sd_v B kd)))
        rw [ea]
        rcases hw with ⟨rfl, hw⟩ | ⟨rfl, hw⟩
        · rw [if_pos rfl] at hv
          cases hv
          refine vk_getf (own := own) A1 A2 hS.2.2.1 I.2.1 A4 (A6 _ hw) (fun _ q => q) hd ?_
          have eb : sd_v B kd (.ref (a + 1000)) = .ref (kd (11000 + (a - 10000))) := by
            show Value.ref (sd_ad B kd (a + 1000)) = _
            rw [sd_ad_ge (k := a + 1000) (by omega), sd_plus hk.1]
          have k3 : W p l e R s m args below meth c H locs cells slots Q (F0 m (pc + 3) L (sd_v B kd (.ref (a + 1000)) :: r.map (sd_v B kd))) := k2
          rw [eb] at k3
          exact k3
        · rw [if_neg (by decide), if_pos rfl] at hv
          cases hv
          exact vk_getf (own := own) A1 A2 hS.2.1 I.2.1 A4 (A6 _ hw) (fun _ q => q) hd k2
    · cases hz
  · cases hz
theorem sx_getstatic (A : sd_At p s m args meth c y nL cc own dC dI tA B kd X) {pc n : Nat} {ls : ab_L} {st : List Value} {h : ab_H} {f' : ab_F} {j : Nat} (hd : decode cc pc = .ok (.getstatic j, n)) (hx : ab_ex X y (.getstatic j) n pc ls st h = some (.inl f')) (k : sd_Go p l e R s m args below meth c Q dC dI tA B kd c0 z0 nL f') : sd_Go p l e R s m args below meth c Q dC dI tA B kd c0 z0 nL (pc, ls, st, h) := by
  obtain ⟨A1, A2, A3, A4, A5, A6, A7, A8, A9⟩ := A
  obtain ⟨rfl, hz⟩ := ab_if_inv hx
  split at hz
  · rename_i v hv
    cases hz
    intro L H locs cells slots I hL
    have k2 := k L H locs cells slots I hL
    obtain ⟨v1, v2⟩ := v
    rcases wd_GS hv A5 with ⟨h1, hw | hw⟩ | ⟨h1, hw⟩ | ⟨h1, hw⟩
    · obtain rfl : v1 = .ref 12000 := h1
      exact va_gets (own := own) A1 A2 A9.2.1 I.2.1 A4 (A6 _ hw) (fun _ q => q) hd k2
    · obtain rfl : v1 = .ref 12000 := h1
      exact va_getsN (own := own) A1 A2 A9.2.1 I.2.1 A4 ((A9.2.2.2.2.2.2.2.2.2.1 _ _ _ _ _ _ hw).use rfl) (fun _ q => q) hd k2
    · obtain rfl : v1 = .ref 12001 := h1
      exact va_gets (own := own) A1 A2 A9.2.2.1 I.2.1 A4 (A6 _ hw) (fun _ q => q) hd k2
    · obtain rfl : v1 = .int 1 := h1
      exact va_gets (own := own) A1 A2 A9.2.2.2.1 I.2.1 A4 (A6 _ hw) (fun _ q => q) hd k2
  · cases hz
theorem sx_ldc (A : sd_At p s m args meth c y nL cc own dC dI tA B kd X) {pc n : Nat} {ls : ab_L} {st : List Value} {h : ab_H} {f' : ab_F} {j : Nat} (hd : decode cc pc = .ok (.ldc j, n)) (hx : ab_ex X y (.ldc j) n pc ls st h = some (.inl f')) (k : sd_Go p l e R s m args below meth c Q dC dI tA B kd c0 z0 nL f') : sd_Go p l e R s m args below meth c Q dC dI tA B kd c0 z0 nL (pc, ls, st, h) := by
  obtain ⟨A1, A2, A3, A4, A5, A6, A7, A8, A9⟩ := A
  obtain ⟨rfl, hz⟩ := ab_if_inv hx
  unfold ab_lo ab_ldc at hz
  split at hz
  · rename_i v hv
    cases hz
    intro L H locs cells slots I hL
    have k2 := k L H locs cells slots I hL
    split at hv
    · rename_i x hxv
      cases hv
      exact lv_ldc A1 A2 A4 (A6 _ (wd_LC hxv A5)) hd k2
    · split at hv
      · rename_i i hi
        cases hv
        have hm := ab_f3_mem hi
        obtain ⟨q, hq⟩ := wd_zip wd_LSk (by decide +kernel) hm
        dsimp only at hq
        rw [A5] at hq
        split at hq
        · rename_i o1 tx h1 h2
          cases h1
          have hR := A9.2.2.2.2.2.2.2.2.2.2.2.2 _ _ _ _ _ hm A5 h2
          have e1 : sd_v B kd (.ref (10000 + i)) = .ref (kd (10000 + i)) := by
            show Value.ref (sd_ad B kd (10000 + i)) = _
            rw [sd_ad_ge (by omega)]
          have k3 : W p l e R s m args below meth c H locs cells slots Q (F0 m (pc + 2) L (sd_v B kd (.ref (10000 + i)) :: st.map (sd_v B kd))) := k2
          rw [e1] at k3
          exact va_ldcS A1 A2 A4 hR hd k3
        · cases hq
      · cases hv
  · cases hz
theorem sx_ldc_w (A : sd_At p s m args meth c y nL cc own dC dI tA B kd X) {pc n : Nat} {ls : ab_L} {st : List Value} {h : ab_H} {f' : ab_F} {j : Nat} (hd : decode cc pc = .ok (.ldc_w j, n)) (hx : ab_ex X y (.ldc_w j) n pc ls st h = some (.inl f')) (k : sd_Go p l e R s m args below meth c Q dC dI tA B kd c0 z0 nL f') : sd_Go p l e R s m args below meth c Q dC dI tA B kd c0 z0 nL (pc, ls, st, h) := by
  obtain ⟨A1, A2, A3, A4, A5, A6, A7, A8, A9⟩ := A
  obtain ⟨rfl, hz⟩ := ab_if_inv hx
  split at hz
  · rename_i x hxv
    cases hz
    intro L H locs cells slots I hL
    exact lv_ldcw A1 A2 A4 (A6 _ (wd_LC hxv A5)) hd (k L H locs cells slots I hL)
  · cases hz
theorem sx_ldc2_w (A : sd_At p s m args meth c y nL cc own dC dI tA B kd X) {pc n : Nat} {ls : ab_L} {st : List Value} {h : ab_H} {f' : ab_F} {j : Nat} (hd : decode cc pc = .ok (.ldc2_w j, n)) (hx : ab_ex X y (.ldc2_w j) n pc ls st h = some (.inl f')) (k : sd_Go p l e R s m args below meth c Q dC dI tA B kd c0 z0 nL f') : sd_Go p l e R s m args below meth c Q dC dI tA B kd c0 z0 nL (pc, ls, st, h) := by
  obtain ⟨A1, A2, A3, A4, A5, A6, A7, A8, A9⟩ := A
  obtain ⟨rfl, hz⟩ := ab_if_inv hx
  split at hz
  · rename_i x hxv
    cases hz
    intro L H locs cells slots I hL
    exact lv_ldc2 A1 A2 A4 (A6 _ (wd_LL hxv A5)) hd (k L H locs cells slots I hL)
  · cases hz
theorem ab_ix_in {i : Int32} {n : Nat} (h : ab_ix i n = true) : vp_in i n := by
  unfold ab_ix at h
  show ¬ (i < 0 ∨ n ≤ i.toNatClampNeg)
  exact of_decide_eq_true h
theorem sx_iaload (A : sd_At p s m args meth c y nL cc own dC dI tA B kd X) {pc n : Nat} {ls : ab_L} {st : List Value} {h : ab_H} {f' : ab_F} (hd : decode cc pc = .ok (.iaload, n)) (hx : ab_ex X y (.iaload) n pc ls st h = some (.inl f')) (k : sd_Go p l e R s m args below meth c Q dC dI tA B kd c0 z0 nL f') : sd_Go p l e R s m args below meth c Q dC dI tA B kd c0 z0 nL (pc, ls, st, h) := by
  obtain ⟨A1, A2, A3, A4, A5, A6, A7, A8, A9⟩ := A
  obtain ⟨rfl, hz⟩ := ab_if_inv hx
  split at hz
  · rename_i z a r
    split at hz
    · rename_i q hq
      obtain ⟨hi, hz⟩ := ab_if_inv hz
      cases hz
      have hi := ab_ix_in hi
      intro L H locs cells slots I hL
      have k2 := k L H locs cells slots I hL
      show W p l e R s m args below meth c H locs cells slots Q (F0 m pc L (.int z :: .ref (sd_ad B kd a) :: r.map (sd_v B kd)))
      unfold ab_ia at hq
      split at hq
      · rename_i ha
        rw [sd_ad_lt ha]
        split at hq
        · rename_i t n1 rs hh
          obtain ⟨rfl, hq⟩ := ab_if_inv hq
          cases hq
          have hat := sd_ws_at (B := B) (kd := kd) (tA := tA) hh
          rw [sd_E_int] at hat
          exact va_iald A1 A2 A9.1 I.1.2 a 0 hat rfl hi hd k2
        · cases hq
      · rename_i ha
        rw [sd_ad_ge ha]
        split at hq
        · rename_i h2
          subst h2
          cases hq
          exact va_ti A1 A2 A9.2.2.2.2.1 I.2.1 hi rfl hd k2
        · split at hq
          · rename_i h2
            subst h2
            cases hq
            exact va_ti A1 A2 A9.2.2.2.2.2.1 I.2.1 hi rfl hd k2
          · split at hq
            · rename_i h2
              subst h2
              exact va_ti A1 A2 (A9.2.2.2.2.2.2.1 q hq) I.2.1 hi rfl hd k2
            · cases hq
    · cases hz
  · cases hz
theorem sx_baload (A : sd_At p s m args meth c y nL cc own dC dI tA B kd X) {pc n : Nat} {ls : ab_L} {st : List Value} {h : ab_H} {f' : ab_F} (hd : decode cc pc = .ok (.baload, n)) (hx : ab_ex X y (.baload) n pc ls st h = some (.inl f')) (k : sd_Go p l e R s m args below meth c Q dC dI tA B kd c0 z0 nL f') : sd_Go p l e R s m args below meth c Q dC dI tA B kd c0 z0 nL (pc, ls, st, h) := by
  obtain ⟨A1, A2, A3, A4, A5, A6, A7, A8, A9⟩ := A
  obtain ⟨rfl, hz⟩ := ab_if_inv hx
  split at hz
  · rename_i z a r
    split at hz
    · rename_i b hb
      obtain ⟨hi, hz⟩ := ab_if_inv hz
      cases hz
      have hi := ab_ix_in hi
      intro L H locs cells slots I hL
      have k2 := k L H locs cells slots I hL
      show W p l e R s m args below meth c H locs cells slots Q (F0 m pc L (.int z :: .ref (sd_ad B kd a) :: r.map (sd_v B kd)))
      unfold ab_ba at hb
      obtain ⟨h1, hb⟩ := ab_if_inv hb
      have hl : a - 11000 < 11 := (List.getElem?_eq_some_iff.mp hb).1
      have hS := (A9.2.2.2.2.2.2.2.1.1 (a - 11000) hl).2.2.2
      have ea : sd_ad B kd a = kd (11000 + (a - 11000)) := (sd_ad_ge (by omega)).trans (congrArg kd (by omega))
      have e1 : ab_TB.getD (a - 11000) [] = b := by rw [List.getD_eq_getElem?_getD, hb]; rfl
      have e2 : sd_lens.getD (a - 11000) 0 = b.length := by
        unfold sd_lens
        rw [List.getD_eq_getElem?_getD, List.getElem?_map, hb]
        rfl
      rw [e1, e2] at hS
      rw [ea]
      exact va_tb A1 A2 hS I.2.1 hi rfl hd k2
    · cases hz
  · cases hz
theorem sx_aaload (A : sd_At p s m args meth c y nL cc own dC dI tA B kd X) {pc n : Nat} {ls : ab_L} {st : List Value} {h : ab_H} {f' : ab_F} (hd : decode cc pc = .ok (.aaload, n)) (hx : ab_ex X y (.aaload) n pc ls st h = some (.inl f')) (k : sd_Go p l e R s m args below meth c Q dC dI tA B kd c0 z0 nL f') : sd_Go p l e R s m args below meth c Q dC dI tA B kd c0 z0 nL (pc, ls, st, h) := by
  obtain ⟨A1, A2, A3, A4, A5, A6, A7, A8, A9⟩ := A
  obtain ⟨rfl, hz⟩ := ab_if_inv hx
  split at hz
  · rename_i z a r
    split at hz
    · rename_i rs hrs
      obtain ⟨hi, hz⟩ := ab_if_inv hz
      have hi := ab_ix_in hi
      split at hz
      · rename_i v hv
        cases hz
        intro L H locs cells slots I hL
        have k2 := k L H locs cells slots I hL
        unfold ab_ra at hrs
        obtain ⟨ha, hrs⟩ := ab_if_inv hrs
        split at hrs
        · rename_i t n1 rs1 hh
          obtain ⟨ht, hrs⟩ := ab_if_inv hrs
          cases hrs
          show W p l e R s m args below meth c H locs cells slots Q (F0 m pc L (.int z :: .ref (sd_ad B kd a) :: r.map (sd_v B kd)))
          rw [sd_ad_lt ha]
          have e1 : sd_rf B kd rs z.toNatClampNeg = some (sd_ad B kd v) := by unfold sd_rf; rw [hv]
          have hat := sd_ws_at (B := B) (kd := kd) (tA := tA) hh
          rcases ht with rfl | rfl
          · rw [sd_E_f] at hat
            refine va_aldq A1 A2 A9.1 I.1.2 a 1 hat rfl hi hd ?_
            rw [e1]
            exact k2
          · rw [sd_E_s] at hat
            refine va_aldq A1 A2 A9.1 I.1.2 a 2 hat rfl hi hd ?_
            rw [e1]
            exact k2
        · cases hrs
      · cases hz
    · cases hz
  · cases hz
theorem sx_arraylength (A : sd_At p s m args meth c y nL cc own dC dI tA B kd X) {pc n : Nat} {ls : ab_L} {st : List Value} {h : ab_H} {f' : ab_F} (hd : decode cc pc = .ok (.arraylength, n)) (hx : ab_ex X y (.arraylength) n pc ls st h = some (.inl f')) (k : sd_Go p l e R s m args below meth c Q dC dI tA B kd c0 z0 nL f') : sd_Go p l e R s m args below meth c Q dC dI tA B kd c0 z0 nL (pc, ls, st, h) := by
  obtain ⟨A1, A2, A3, A4, A5, A6, A7, A8, A9⟩ := A
  obtain ⟨rfl, hz⟩ := ab_if_inv hx
  split at hz
  · rename_i a r
    split at hz
    · rename_i len hlen
      cases hz
      intro L H locs cells slots I hL
      have k2 := k L H locs cells slots I hL
      have k2 : W p l e R s m args below meth c H locs cells slots Q (F0 m (pc + 1) L (.int (Int32.ofNat len) :: r.map (sd_v B kd))) := k2
      show W p l e R s m args below meth c H locs cells slots Q (F0 m pc L (.ref (sd_ad B kd a) :: r.map (sd_v B kd)))
      unfold ab_al at hlen
      split at hlen
      · rename_i rs hrs
        cases hlen
        unfold ab_ra at hrs
        obtain ⟨ha, hrs⟩ := ab_if_inv hrs
        rw [sd_ad_lt ha]
        split at hrs
        · rename_i t n1 rs1 hh
          obtain ⟨ht, hrs⟩ := ab_if_inv hrs
          cases hrs
          have hat := sd_ws_at (B := B) (kd := kd) (tA := tA) hh
          rcases ht with rfl | rfl
          · rw [sd_E_f] at hat
            exact va_alen A1 A2 A9.1 I.1.2 a 1 hat rfl rfl hd k2
          · rw [sd_E_s] at hat
            exact va_alen A1 A2 A9.1 I.1.2 a 2 hat rfl rfl hd k2
        · cases hrs
      · split at hlen
        · rename_i b hb
          cases hlen
          unfold ab_ba at hb
          obtain ⟨h1, hb⟩ := ab_if_inv hb
          have hl : a - 11000 < 11 := (List.getElem?_eq_some_iff.mp hb).1
          have hS := (A9.2.2.2.2.2.2.2.1.1 (a - 11000) hl).2.2.2
          have ea : sd_ad B kd a = kd (11000 + (a - 11000)) := (sd_ad_ge (by omega)).trans (congrArg kd (by omega))
          have e2 : sd_lens.getD (a - 11000) 0 = b.length := by
            unfold sd_lens
            rw [List.getD_eq_getElem?_getD, List.getElem?_map, hb]
            rfl
          rw [e2] at hS
          rw [ea]
          obtain ⟨cell, g1, g2, g3, g4, g5, g6⟩ := hS.kept I.2.1.2.1
          exact W.alen A1 A2 g1 g2 g5 rfl rfl hd k2
        · split at hlen
          · cases hlen
          · rename_i hno
            split at hlen
            · rename_i q hq
              cases hlen
              unfold ab_ia at hq
              split at hq
              · rename_i ha
                rw [sd_ad_lt ha]
                split at hq
                · rename_i t n1 rs hh
                  obtain ⟨rfl, hq⟩ := ab_if_inv hq
                  cases hq
                  have hat := sd_ws_at (B := B) (kd := kd) (tA := tA) hh
                  rw [sd_E_int] at hat
                  exact va_alen A1 A2 A9.1 I.1.2 a 0 hat rfl rfl hd k2
                · cases hq
              · rename_i ha
                rw [sd_ad_ge ha]
                rw [if_neg (fun z => hno (Or.inl z)), if_neg (fun z => hno (Or.inr z))] at hq
                obtain ⟨h2, hq⟩ := ab_if_inv hq
                subst h2
                obtain ⟨cell, g1, g2, g3, g4, g5, g6⟩ := (A9.2.2.2.2.2.2.1 q hq).kept I.2.1.2.1
                exact W.alen A1 A2 g1 g2 g5 rfl rfl hd k2
            · cases hlen
    · cases hz
  · cases hz
theorem ab_sl_set {h : ab_H} {k : Nat} {t n : Nat} {rs rs' : List (Option Value)} (hh : h.1[k]? = some (t, n, rs)) (u : Nat → Nat → Int32) : ab_sl (h.1.set k (t, n, rs'), u) = ab_sl h := by
  unfold ab_sl
  rw [List.map_set]
  congr 1
  apply List.ext_getElem?
  intro i
  by_cases hi : i = k
  · subst hi
    rw [List.getElem?_set_self (by rw [List.length_map]; exact (List.getElem?_eq_some_iff.mp hh).1), List.getElem?_map, hh]
    rfl
  · rw [List.getElem?_set_ne (Ne.symm hi)]
theorem sx_iastore (A : sd_At p s m args meth c y nL cc own dC dI tA B kd X) {pc n : Nat} {ls : ab_L} {st : List Value} {h : ab_H} {f' : ab_F} (hd : decode cc pc = .ok (.iastore, n)) (hx : ab_ex X y (.iastore) n pc ls st h = some (.inl f')) (k : sd_Go p l e R s m args below meth c Q dC dI tA B kd c0 z0 nL f') : sd_Go p l e R s m args below meth c Q dC dI tA B kd c0 z0 nL (pc, ls, st, h) := by
  obtain ⟨A1, A2, A3, A4, A5, A6, A7, A8, A9⟩ := A
  obtain ⟨rfl, hz⟩ := ab_if_inv hx
  split at hz
  · rename_i x z a r
    obtain ⟨ha, hz⟩ := ab_if_inv hz
    split at hz
    · rename_i t n1 rs hh
      obtain ⟨⟨rfl, hi⟩, hz2⟩ := ab_if_inv hz
      have hi := ab_ix_in hi
      cases hz2
      intro L H locs cells slots I hL
      have hat := sd_ws_at (B := B) (kd := kd) (tA := tA) hh
      rw [sd_E_int] at hat
      have hc := I.1.2 a _ hat
      show W p l e R s m args below meth c H locs cells slots Q (F0 m pc L (.int x :: .int z :: .ref (sd_ad B kd a) :: r.map (sd_v B kd)))
      rw [sd_ad_lt ha]
      refine W.iast A1 A2 hc ((A9.1.2 0 _ rfl).1 n1 (fun j => .int (h.2 a j))) (fun q => by cases q) (by show ¬ (z < 0 ∨ (arrV _ _ _).slots.size ≤ _); rw [arrV_size]; exact hi) rfl rfl hd fun H1 e1 e2 e3 => ?_
      refine k L H1 _ cells slots ⟨I.1.upd (x' := (100, n1, rs)) hh (by show h.1 = h.1.set a (100, n1, rs); exact (sd_set_self hh).symm) (fun b hb => by funext j; show (if b = a ∧ j = z.toNatClampNeg then x else h.2 b j) = _; rw [if_neg (fun q => hb q.1)]) ?_ e2 e3, I.2.1.put e2 e3 (Nat.le_add_right _ _), I.2.2.1, I.2.2.2⟩ hL
      rw [sd_E_int]
      show H1[B + a]? = some (vp_cell _ _)
      rw [e1]
      congr 1
      have e4 : (arrV (tA 0) n1 (fun j => .int (h.2 a j))).setSlot z.toNatClampNeg (.int x) = arrV (tA 0) n1 (fun j => .int (ab_up h.2 a z.toNatClampNeg x a j)) := by
        rw [arrV_store]
        congr 1
        funext q
        by_cases hq : q = z.toNatClampNeg
        · subst hq; simp [updV, ab_up]
        · simp [updV, ab_up, hq]
      exact e4
    · cases hz
  · cases hz
end SH
