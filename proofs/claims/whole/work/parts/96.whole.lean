/-! the law's first steps: both are made -/
theorem rs_st {C : Nat → List Value → ab_H → Option Value → ab_H → Prop} {X : ab_X} {y pc m : Nat} {i : Instr} {ls : ab_L} {st : List Value} {h h9 : ab_H} {s1 : ab_F} {r : Option Value} (hd : ab_ins y pc = some (i, m)) (hx : ab_ex X y i m pc ls st h = some (.inl s1)) (k : ∃ n, ab_run C X y n s1 r h9) : ∃ n, ab_run C X y n (pc, ls, st, h) r h9 := by
  obtain ⟨n, e⟩ := k
  refine ⟨n + 1, ?_⟩
  have hs : ab_stp X y (pc, ls, st, h) = some (.inl s1) := by
    unfold ab_stp
    dsimp only
    rw [hd]
    exact hx
  unfold ab_run
  rw [hs]
  exact e
theorem rs_ca {C : Nat → List Value → ab_H → Option Value → ab_H → Prop} {X : ab_X} {y pc m k0 pc1 : Nat} {i : Instr} {ls ls1 : ab_L} {st st1 as : List Value} {h h1 h9 : ab_H} {r : Option Value} (hd : ab_ins y pc = some (i, m)) (hx : ab_ex X y i m pc ls st h = some (.inr (.inl (k0, as, (pc1, ls1, st1, h))))) (hc : C k0 as h none h1) (k : ∃ n, ab_run C X y n (pc1, ls1, st1, h1) r h9) : ∃ n, ab_run C X y n (pc, ls, st, h) r h9 := by
  obtain ⟨n, e⟩ := k
  refine ⟨n + 1, ?_⟩
  have hs : ab_stp X y (pc, ls, st, h) = some (.inr (.inl (k0, as, (pc1, ls1, st1, h)))) := by
    unfold ab_stp
    dsimp only
    rw [hd]
    exact hx
  unfold ab_run
  rw [hs]
  exact ⟨none, h1, hc, e⟩
theorem rs_sp {y o j k0 z np ow b pc : Nat} {ls : ab_L} {st r as : List Value} {h : ab_H} (ho : ab_own y = o) (hl : ab_fd ab_LK o j = some (k0, z)) (hk : k0 < 900) (hm : ab_mi k0 = some (np, false, ow, true)) (h1 : st.drop np = .ref b :: r) (h2 : (st.take np).reverse = as) (h3 : np ≤ st.length) (hc : ab_cat r = true) : ab_inv y 1 j pc ls st h = some (.inr (.inl (k0, .ref b :: as, (pc, ls, r, h)))) := by
  obtain ⟨e, he, e1, e2, e3, e4⟩ := ab_mi_of hm
  unfold ab_inv
  rw [ho, hl]
  dsimp only
  rw [if_neg (by omega), if_neg (by omega), if_neg (by omega), if_neg (by omega), he]
  dsimp only
  rw [e1, if_pos h3, if_neg (by rw [e2]; decide), h1, h2]
  dsimp only
  rw [if_pos ⟨hc, Or.inr ⟨rfl, e4⟩⟩]
theorem h3_ex : ∃ h1 h2 h3 : ab_H, ∃ r1 r2 : Option Value, ab_calE none 100000 12 y_Fo_init [.ref 0] ab_h0 = some (r1, h1) ∧ h1.1.length = 91 ∧ ab_alc h1 (8, 28, (ab_DF[8]?).getD []) = some h2 ∧ ab_calE none 100000 12 y_Mo_init [.ref k_Mo] h2 = some (r2, h3) ∧ ab_chk h3 = true := by
  have ok := ab_h3_ok
  have ln := h1_len
  cases e2 : ab_h2 none with
  | none =>
    rw [show ab_h3 none = none from by unfold ab_h3; rw [e2]] at ok
    cases ok
  | some h2 =>
    rw [show ab_h3 none = (ab_calE none 100000 12 y_Mo_init [.ref k_Mo] h2).map (fun r => r.2) from by unfold ab_h3; rw [e2]] at ok
    cases e4 : ab_calE none 100000 12 y_Mo_init [.ref k_Mo] h2 with
    | none =>
      rw [e4] at ok
      cases ok
    | some p =>
      rw [e4] at ok
      cases e1 : ab_h1 none with
      | none =>
        rw [show ab_h2 none = none from by unfold ab_h2; rw [e1]] at e2
        cases e2
      | some h1 =>
        rw [show ab_h2 none = ab_alc h1 (8, 28, (ab_DF[8]?).getD []) from by unfold ab_h2; rw [e1]] at e2
        rw [e1] at ln
        rw [show ab_h1 none = (ab_calE none 100000 12 y_Fo_init [.ref 0] ab_h0).map (fun r => r.2) from by unfold ab_h1; rfl] at e1
        cases e0 : ab_calE none 100000 12 y_Fo_init [.ref 0] ab_h0 with
        | none =>
          rw [e0] at e1
          cases e1
        | some p0 =>
          rw [e0] at e1
          have e5 : p0.2 = h1 := Option.some.inj e1
          exact ⟨h1, h2, p.2, p0.1, p.1, by rw [← e5], eq_of_beq ln, e2, e4, ok⟩
theorem h0_new : ab_alc (([], fun _ _ => 0) : ab_H) (7, 8, (ab_DF[7]?).getD []) = some ab_h0 := by
  have em : (fun (a _b : Nat) => if a = 0 then (0 : Int32) else 0) = fun _ _ => 0 := by
    funext a b
    split <;> rfl
  exact congrArg (fun m => some (([(7, 8, [some .null, some .null, some .null, some .null, some .null, some .null, some .null, none])], m) : ab_H)) em
theorem rs_new {X : ab_X} {y j c pc o : Nat} {ls : ab_L} {st : List Value} {h h1 : ab_H} {rs : List (Option Value)} (ho : ab_own y = o) (hl : ab_f3 ab_CL o j = some c) (hr : ab_DF[c]? = some rs) {a : Nat} (ha : h.1.length = a) (he : ab_alc h (c, rs.length, rs) = some h1) : ab_ex X y (.new j) 3 pc ls st h = some (.inl (pc + 3, ls, .ref a :: st, h1)) := by
  show (match ab_f3 ab_CL (ab_own y) j with
      | some c => (match ab_DF[c]? with
        | some rs => ab_nw (ab_alc h (c, rs.length, rs)) (pc + 3) ls st h.1.length
        | none => none)
      | none => none) = _
  rw [ho, hl]
  dsimp only
  rw [hr]
  dsimp only
  rw [he, ha]
  rfl
theorem vd_Fo : ab_ret y_Fo_init = none := by decide +kernel
theorem vd_Mo : ab_ret y_Mo_init = none := by decide +kernel
theorem run_law {L : Nat} {xs : Nat → Int32} (hL : L ≤ 3072) : ∃ n S, ab_run (ab_cal (some (L, xs)) 200) (some (L, xs)) y_Law_law n (0, ab_ent 4 [.ref 13000], [], ([], fun _ _ => 0)) (some (.int 1)) (wp_h S) := by
  obtain ⟨h1, h2, h3, r1, r2, c1, hl1, n2, c2, ck⟩ := h3_ex
  obtain ⟨k1, k2⟩ := chk_of ck
  obtain ⟨n, S, K⟩ := lw_loop (xs := xs) hL 512 0 0 (10002, h3.2) (h3.2 92) (by omega) rfl (Nat.zero_le _) (Nat.zero_le _) (iv_0 k2)
  have e3 : wp_h (10002, h3.2) = h3 := Prod.ext k1.symm rfl
  rw [e3] at K
  have g1 := ab_calE_cal _ _ _ _ _ _ c1
  have g2 := ab_calE_cal _ _ _ _ _ _ c2
  obtain rfl := ab_cal_void vd_Fo g1
  obtain rfl := ab_cal_void vd_Mo g2
  have g1 := ab_cal_le 12 200 _ _ _ _ _ (by decide) (ab_cal_mono (X := some (L, xs)) _ _ _ _ _ _ g1)
  have g2 := ab_cal_le 12 200 _ _ _ _ _ (by decide) (ab_cal_mono (X := some (L, xs)) _ _ _ _ _ _ g2)
  suffices G : ∃ n, ab_run (ab_cal (some (L, xs)) 200) (some (L, xs)) y_Law_law n (0, ab_ent 4 [.ref 13000], [], ([], fun _ _ => 0)) (some (.int 1)) (wp_h S) by
    obtain ⟨n, G⟩ := G
    exact ⟨n, S, G⟩
  refine rs_st d_Law_law_0 (rs_new (c := 7) ow_Law (by decide +kernel) rfl rfl h0_new) ?_
  refine rs_st d_Law_law_3 (s1 := (4, ab_ent 4 [.ref 13000], [.ref 0, .ref 0], ab_h0)) rfl ?_
  refine rs_ca d_Law_law_4 (rs_sp (st := [.ref 0, .ref 0]) ow_Law lk_9_9 (by decide) mi_Fo_init rfl rfl (Nat.le_of_ble_eq_true rfl) rfl) g1 ?_
  refine rs_st d_Law_law_7 (s1 := (8, [some (.ref 13000), some (.ref 0), none, none], [], h1)) rfl ?_
  refine rs_st d_Law_law_8 (rs_new (c := 8) ow_Law (by decide +kernel) rfl hl1 n2) ?_
  refine rs_st d_Law_law_11 (s1 := (12, [some (.ref 13000), some (.ref 0), none, none], [.ref 91, .ref 91], h2)) rfl ?_
  refine rs_ca d_Law_law_12 (rs_sp (st := [.ref 91, .ref 91]) ow_Law lk_9_12 (by decide) mi_Mo_init rfl rfl (Nat.le_of_ble_eq_true rfl) rfl) g2 ?_
  refine rs_st d_Law_law_15 (s1 := (16, [some (.ref 13000), some (.ref 0), some (.ref 91), none], [], h3)) rfl ?_
  refine rs_st d_Law_law_16 (s1 := (17, [some (.ref 13000), some (.ref 0), some (.ref 91), none], [.int (nI 0)], h3)) rfl ?_
  refine rs_st d_Law_law_17 (s1 := (18, lL 0, [], h3)) rfl ?_
  exact ⟨n, K⟩
theorem sl_SH (nm : Nat) : (ab_SH nm).map (fun c => c.2.1) = [8, 14, 10, 4, 4, 50, 50, 4, 50, 50, 50, 20, 10, 8, 4, 8, 4, 8, 4, 8, 4, 8, 4, 8, 4, 8, 4, 8, 4, 8, 4, 8, 4, 14, 10, 4, 4, 50, 50, 4, 50, 50, 50, 20, 10, 8, 4, 8, 4, 8, 4, 8, 4, 8, 4, 8, 4, 8, 4, 8, 4, 8, 4, 8, 4, 8, 50, 6, 4, 10, 4, 8, 4, 8, 4, 8, 4, 8, 4, 5, 40, 4, 3, 40, 3, 40, 3, 40, 3, 40, 6, 28, 283, 283, 283, 283, 6, 10, 10, 1415, 4, 4, 160, 40, 40] := rfl
theorem sl_S (S : wp_S) : ab_sl (wp_h S) = 4086 := by
  have e := sl_SH S.1
  show ((ab_SH S.1).map (fun c => c.2.1)).sum = 4086
  rw [e]
  decide +kernel
theorem ln_S (S : wp_S) : (wp_h S).1.length = 105 := rfl
theorem whole_start {p : Program} {e : Env} {s : State} {m : MethodId} {below : List Frame} {meth : Method} {c : Code} (l : Launch) (_hflags : l.flags = flags0) {b L : Nat} {xs : Nat → Int32} (hL : L ≤ 3072) (C0 : lw_At p s m meth c b L xs) : W p l e room_1 s m #[Value.ref b] below meth c s.heap [] 0 0 (lw_Z below #[Value.ref b] s) (entryFrame m ([Value.ref b] : List Value).toArray 4) := by
  obtain ⟨n, S, K⟩ := run_law (xs := xs) hL
  exact top_W l hL C0 ⟨n, wp_h S, K, by rw [ln_S]; decide, by rw [sl_S]; decide⟩
