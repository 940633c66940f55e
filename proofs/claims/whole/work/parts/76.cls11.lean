/-! the class: sheets; one telling, fears -/
/-- the class's sheets are these -/
def cSh (S : wp_S) (b z t : sp_R) : Prop := ∀ s, s < 4 → S.2 (82 + 2 * s) 1 = b s ∧ S.2 (82 + 2 * s) 2 = z s ∧ ∀ j, j < 40 → S.2 (83 + 2 * s) j = t (40 * s + j)
/-- what a thought has found -/
def cFo (S : wp_S) (r : Nat × Int32) : Prop := S.2 67 0 = nI r.1 ∧ (r.1 ≠ 0 → S.2 67 1 = r.2)
def cZ (k j : Nat) : Prop := cTl 1 k j ∨ k = 67 ∨ k = 70
section CM
variable {S : wp_S} {q : sp_R} {mu : Int32} {b z t : sp_R} {Q : Option Value → wp_S → Prop}
theorem cSh_k {S' : wp_S} (h : cSh S b z t) {D : Nat → Nat → Prop} (f : fr D S S') (hD : ∀ k j, 82 ≤ k → k < 90 → ¬ D k j) : cSh S' b z t := fun s hs => ⟨(f.2 _ _ (hD _ _ (by omega) (by omega))).trans (h s hs).1, (f.2 _ _ (hD _ _ (by omega) (by omega))).trans (h s hs).2.1, fun j hj => (f.2 _ _ (hD _ _ (by omega) (by omega))).trans ((h s hs).2.2 j hj)⟩
theorem c_sa_loop (C : CL S q) (hw : sp_wf q) {s : Nat} (hs : s < 4) (sh : cSh S b z t) (h0 : z s = q 0) (K1 : sp_ssP q z t s (sp_n q) → Q (some (.int (nI 1))) S) (K0 : ¬ sp_ssP q z t s (sp_n q) → Q (some (.int (nI 0))) S) : ∀ m k, k + m = sp_n q → sp_ssP q z t s k → wp (h_La_saysAsIn - 1) y_La_saysAsIn 15 [some (.ref 1), some (.ref (82 + 2 * s)), some (.int (nI k))] [] S Q := by
  have hn := hw.n
  intro m
  induction m with
  | zero =>
    intro k hk hP
    obtain rfl : k = sp_n q := by omega
    refine wp_iload_n d_La_saysAsIn_15 rfl rfl ?_
    refine wp_aload_n d_La_saysAsIn_16 rfl rfl ?_
    refine wp_getI d_La_saysAsIn_17 ow_La_saysAsIn fl_1_46 (O_1 _) rfl (C.n.trans hn.2) ?_
    refine wp_icN_ge (pc' := 46) d_La_saysAsIn_20 (by decide) (by omega) (by omega) (fun h20 => ?_) (fun h20 => absurd h20 (by omega))
    refine wp_iconst (x := nI 1) d_La_saysAsIn_46 rfl ?_
    refine wp_retz d_La_saysAsIn_47 rt_La_saysAsIn (by first | exact Or.inl rfl | exact Or.inr rfl) ?_
    exact K1 hP
  | succ m ih =>
    intro k hk hP
    refine wp_iload_n d_La_saysAsIn_15 rfl rfl ?_
    refine wp_aload_n d_La_saysAsIn_16 rfl rfl ?_
    refine wp_getI d_La_saysAsIn_17 ow_La_saysAsIn fl_1_46 (O_1 _) rfl (C.n.trans hn.2) ?_
    refine wp_icN_ge (pc' := 46) d_La_saysAsIn_20 (by decide) (by omega) (by omega) (fun h20 => absurd h20 (by omega)) (fun h20 => ?_)
    refine wp_aload_n d_La_saysAsIn_23 rfl rfl ?_
    refine wp_iload_n d_La_saysAsIn_24 rfl rfl ?_
    refine wp_iconst (x := -1) d_La_saysAsIn_25 rfl ?_
    refine wp_invV d_La_saysAsIn_26 ow_La_saysAsIn lk_1_108 (by decide) mi_La_says rfl rfl (Nat.le_of_ble_eq_true rfl) rfl (wp_isC (O_1 _)) (show h_La_says ≤ _ from by decide) (c_says C (-1) k (by omega) (fun j hj => hw.f (by omega)) ?_)
    refine wp_Ki ?_
    refine wp_aload_n d_La_saysAsIn_29 rfl rfl ?_
    refine wp_getR d_La_saysAsIn_30 ow_La_saysAsIn fl_1_155 (O_U _ (by omega)) rfl ?_
    refine wp_iload_n d_La_saysAsIn_33 rfl rfl ?_
    refine wp_iaload d_La_saysAsIn_34 (A_V _ (by omega)) (by omega) (by decide) ((sh s hs).2.2 k (by omega)) ?_
    refine wp_ic_eq (pc' := 40) d_La_saysAsIn_35 (by decide) (fun h35 => ?_) (fun h35 => ?_)
    · refine wp_iinc2 d_La_saysAsIn_40 rfl (nI_add _ 1) ?_
      refine wp_goto (pc' := 15) d_La_saysAsIn_43 (by decide) ?_
      exact ih (k + 1) (by omega) ⟨h0, fun j hj => by rcases Nat.lt_or_ge j k with h | h; exact hP.2 j h; rw [show j = k by omega]; exact h35⟩
    · refine wp_iconst (x := nI 0) d_La_saysAsIn_38 rfl ?_
      refine wp_retz d_La_saysAsIn_39 rt_La_saysAsIn (by first | exact Or.inl rfl | exact Or.inr rfl) ?_
      exact K0 (fun y => h35 (y.2 k (by omega)))
theorem c_saysAsIn (C : CL S q) (hw : sp_wf q) {s : Nat} (hs : s < 4) (sh : cSh S b z t) (K1 : sp_ssP q z t s (sp_n q) → Q (some (.int (nI 1))) S) (K0 : ¬ sp_ssP q z t s (sp_n q) → Q (some (.int (nI 0))) S) : cl h_La_saysAsIn y_La_saysAsIn [.ref 1, .ref (82 + 2 * s)] S Q := by
  refine cl_in ml_La_saysAsIn rfl rfl ?_
  refine wp_aload_n d_La_saysAsIn_0 rfl rfl ?_
  refine wp_getI d_La_saysAsIn_1 ow_La_saysAsIn fl_1_150 (O_U _ (by omega)) rfl ((sh s hs).2.1) ?_
  refine wp_aload_n d_La_saysAsIn_4 rfl rfl ?_
  refine wp_getI d_La_saysAsIn_5 ow_La_saysAsIn fl_1_46 (O_1 _) rfl (C.n) ?_
  refine wp_ic_eq (pc' := 13) d_La_saysAsIn_8 (by decide) (fun h8 => ?_) (fun h8 => ?_)
  · refine wp_iconst (x := nI 0) d_La_saysAsIn_13 rfl ?_
    refine wp_iston2 d_La_saysAsIn_14 rfl ?_
    exact c_sa_loop C hw hs sh h8 K1 K0 (sp_n q) 0 (Nat.zero_add _) ⟨h8, fun j hj => by omega⟩
  · refine wp_iconst (x := nI 0) d_La_saysAsIn_11 rfl ?_
    refine wp_retz d_La_saysAsIn_12 rt_La_saysAsIn (by first | exact Or.inl rfl | exact Or.inr rfl) ?_
    exact K0 (fun y => h8 y.1)
theorem c_note (C : CL S q) (hw : sp_wf q) {s : Nat} (hs : s < 4) (sh : cSh S b z t) (x : Int32) (r : Nat × Int32) (hr : r.1 < 1000) (h : cFo S r) (K : ∀ S', cFo S' (sp_nt (sp_ssP q z t s (sp_n q)) x r) → fr (fun k _ => k = 67) S S' → Q none S') : cl h_Th_noteIfSaid y_Th_noteIfSaid [.ref 67, .ref (82 + 2 * s), .int x] S Q := by
  obtain ⟨g0, g1⟩ := h
  refine cl_in ml_Th_noteIfSaid rfl rfl ?_
  refine wp_aload_n d_Th_noteIfSaid_0 rfl rfl ?_
  refine wp_getR d_Th_noteIfSaid_1 ow_Th_noteIfSaid fl_5_31 (O_67 _) rfl ?_
  refine wp_aload_n d_Th_noteIfSaid_4 rfl rfl ?_
  refine wp_invV d_Th_noteIfSaid_5 ow_Th_noteIfSaid lk_5_99 (by decide) mi_La_saysAsIn rfl rfl (Nat.le_of_ble_eq_true rfl) rfl (wp_isC (O_1 _)) (show h_La_saysAsIn ≤ _ from by decide) (c_saysAsIn C hw hs sh (fun y => ?_) (fun y => ?_))
  · refine wp_Ki ?_
    refine wp_ifN_eq (pc' := 33) d_Th_noteIfSaid_8 (by decide) (by omega) (fun q => absurd q (by decide)) (fun _ => ?_)
    refine wp_aload_n d_Th_noteIfSaid_11 rfl rfl ?_
    refine wp_getI d_Th_noteIfSaid_12 ow_Th_noteIfSaid fl_5_9 (O_67 _) rfl (g0) ?_
    refine wp_ifN_ne (pc' := 23) d_Th_noteIfSaid_15 (by decide) (by omega) (fun h15 => ?_) (fun h15 => ?_)
    · refine wp_aload_n d_Th_noteIfSaid_23 rfl rfl ?_
      refine wp_dup d_Th_noteIfSaid_24 rfl ?_
      refine wp_getI d_Th_noteIfSaid_25 ow_Th_noteIfSaid fl_5_9 (O_67 _) rfl ((show _ = nI r.1 from by first | exact (wp_un (by omega)).trans g0 | exact g0)) ?_
      refine wp_iconst (x := nI 1) d_Th_noteIfSaid_28 rfl ?_
      refine wp_iadd d_Th_noteIfSaid_29 (nI_add _ _) ?_
      refine wp_put (ty := .int) d_Th_noteIfSaid_30 ow_Th_noteIfSaid fl_5_9 (by decide +kernel) (by decide +kernel) (O_67 _) rfl ⟨rfl, rfl⟩ ?_
      refine wp_return d_Th_noteIfSaid_33 rt_Th_noteIfSaid ?_
      have e := sp_nt_1 (x := x) y h15
      refine K _ ?_ (fr.up (D := fun k _ => k = 67) fr.rf rfl)
      rw [e]
      exact ⟨wp_us, fun _ => (wp_un (by omega)).trans (g1 h15)⟩
    · refine wp_aload_n d_Th_noteIfSaid_18 rfl rfl ?_
      refine wp_iload_n d_Th_noteIfSaid_19 rfl rfl ?_
      refine wp_put (ty := .int) d_Th_noteIfSaid_20 ow_Th_noteIfSaid fl_5_15 (by decide +kernel) (by decide +kernel) (O_67 _) rfl ⟨rfl, rfl⟩ ?_
      refine wp_aload_n d_Th_noteIfSaid_23 rfl rfl ?_
      refine wp_dup d_Th_noteIfSaid_24 rfl ?_
      refine wp_getI d_Th_noteIfSaid_25 ow_Th_noteIfSaid fl_5_9 (O_67 _) rfl ((show _ = nI r.1 from by first | exact (wp_un (by omega)).trans g0 | exact g0)) ?_
      refine wp_iconst (x := nI 1) d_Th_noteIfSaid_28 rfl ?_
      refine wp_iadd d_Th_noteIfSaid_29 (nI_add _ _) ?_
      refine wp_put (ty := .int) d_Th_noteIfSaid_30 ow_Th_noteIfSaid fl_5_9 (by decide +kernel) (by decide +kernel) (O_67 _) rfl ⟨rfl, rfl⟩ ?_
      refine wp_return d_Th_noteIfSaid_33 rt_Th_noteIfSaid ?_
      have e := sp_nt_0 (x := x) y h15
      refine K _ ?_ (fr.up (D := fun k _ => k = 67) (fr.up (D := fun k _ => k = 67) fr.rf rfl) rfl)
      rw [e]
      exact ⟨wp_us, fun _ => (wp_un (by omega)).trans wp_us⟩
  · refine wp_Ki ?_
    refine wp_ifN_eq (pc' := 33) d_Th_noteIfSaid_8 (by decide) (by omega) (fun _ => ?_) (fun q => absurd q (by decide))
    refine wp_return d_Th_noteIfSaid_33 rt_Th_noteIfSaid ?_
    refine K _ ?_ fr.rf
    rw [sp_nt_f y]
    exact ⟨g0, g1⟩
theorem c_oi (hw : sp_wf q) {s o : Nat} (hs : s < 4) (ho : o < 4) (r : Nat × Int32) (hr : r.1 ≤ 30) (K : ∀ S' l4, CL S' q → cSh S' b z t → cFo S' (sp_oi q z t s o r (sp_n q)) → fr cZ S S' → wp (h_Th_seekTelling - 1) y_Th_seekTelling 81 [some (.ref 67), some (.ref (82 + 2 * s)), some (.int (nI o)), some (.int (nI (sp_n q))), l4] [] S' Q) : ∀ m i (S' : wp_S) l4, i + m = sp_n q → CL S' q → cSh S' b z t → cFo S' (sp_oi q z t s o r i) → fr cZ S S' → wp (h_Th_seekTelling - 1) y_Th_seekTelling 14 [some (.ref 67), some (.ref (82 + 2 * s)), some (.int (nI o)), some (.int (nI i)), l4] [] S' Q := by
  have hn := hw.n
  intro m
  induction m with
  | zero =>
    intro i S' l4 hi C sh F fS
    obtain rfl : i = sp_n q := by omega
    refine wp_iload_n d_Th_seekTelling_14 rfl rfl ?_
    refine wp_aload_n d_Th_seekTelling_15 rfl rfl ?_
    refine wp_getR d_Th_seekTelling_16 ow_Th_seekTelling fl_5_31 (O_67 _) rfl ?_
    refine wp_getI d_Th_seekTelling_19 ow_Th_seekTelling fl_5_54 (O_1 _) rfl (C.n.trans hn.2) ?_
    refine wp_icN_ge (pc' := 81) d_Th_seekTelling_22 (by decide) (by omega) (by omega) (fun h22 => ?_) (fun h22 => absurd h22 (by omega))
    exact K S' _ C sh F fS
  | succ m ih =>
    intro i S' l4 hi C sh F fS
    have hi10 : i < 10 := by omega
    have e := sp_oi_s q z t s o r i
    have hle := sp_oi_le q z t s o r i
    obtain ⟨C1, s1⟩ := CL_save C (show i < sp_n q by omega) (b := 71) (tb := 72) (by decide) (by decide) (by decide)
    have fa : fr cZ S' (fcp S' 71 72 (13 + 2 * i) (14 + 2 * i)) := fcp_fr (fun j => ⟨Or.inl (Or.inr ⟨by decide, by decide⟩), Or.inl (Or.inr ⟨by decide, by decide⟩)⟩)
    have ns : ∀ k j, 82 ≤ k → k < 90 → ¬ cZ k j := fun k j h1 h2 y => by unfold cZ cTl at y; omega
    have F1 : cFo (fcp S' 71 72 (13 + 2 * i) (14 + 2 * i)) (sp_oi q z t s o r i) := F
    have up : ∀ {S2 S3 : wp_S}, fr (cF i) S2 S3 → fr cZ S2 S3 := fun f => f.mono (fun _ _ y => by unfold cF at y; unfold cZ cTl; omega)
    have u67 : ∀ {S2 S3 : wp_S}, fr (fun k _ => k = 67) S2 S3 → fr cZ S2 S3 := fun f => f.mono (fun _ _ y => Or.inr (Or.inl y))
    generalize sp_oi q z t s o r i = rr at *
    have IH := fun S' l4 => ih (i + 1) S' l4 (by omega)
    rw [e] at IH
    refine wp_iload_n d_Th_seekTelling_14 rfl rfl ?_
    refine wp_aload_n d_Th_seekTelling_15 rfl rfl ?_
    refine wp_getR d_Th_seekTelling_16 ow_Th_seekTelling fl_5_31 (O_67 _) rfl ?_
    refine wp_getI d_Th_seekTelling_19 ow_Th_seekTelling fl_5_54 (O_1 _) rfl (C.n.trans hn.2) ?_
    refine wp_icN_ge (pc' := 81) d_Th_seekTelling_22 (by decide) (by omega) (by omega) (fun h22 => absurd h22 (by omega)) (fun h22 => ?_)
    refine wp_aload_n d_Th_seekTelling_25 rfl rfl ?_
    refine wp_getR d_Th_seekTelling_26 ow_Th_seekTelling fl_5_31 (O_67 _) rfl ?_
    refine wp_getR d_Th_seekTelling_29 ow_Th_seekTelling fl_5_38 (O_1 _) rfl ?_
    refine wp_iload_n d_Th_seekTelling_32 rfl rfl ?_
    refine wp_aaload d_Th_seekTelling_33 rfl (f_F (by omega)) (by decide) ?_
    refine wp_asto4 d_Th_seekTelling_34 rfl ?_
    refine wp_aload_n d_Th_seekTelling_36 rfl rfl ?_
    refine wp_getR d_Th_seekTelling_37 ow_Th_seekTelling fl_5_20 (O_67 _) rfl ?_
    refine wp_iconst (x := nI 0) d_Th_seekTelling_40 rfl ?_
    refine wp_aaload d_Th_seekTelling_41 rfl rfl (by decide) ?_
    refine wp_aload d_Th_seekTelling_42 rfl ?_
    refine wp_invV d_Th_seekTelling_44 ow_Th_seekTelling lk_5_43 (by decide) mi_Fi_copyFrom rfl rfl (Nat.le_of_ble_eq_true rfl) rfl (wp_isC (O_71 _)) (show h_Fi_copyFrom ≤ _ from by decide) (c_fcopy O_71 (fun S => O_F S hi10) A_72 (fun S => A_G S hi10) (by decide) (by omega) (by omega) ?_)
    refine wp_Kv ?_
    refine wp_aload d_Th_seekTelling_47 rfl ?_
    refine wp_iload_n d_Th_seekTelling_49 rfl rfl ?_
    refine wp_invV d_Th_seekTelling_50 ow_Th_seekTelling lk_5_51 (by decide) mi_Fi_listen rfl rfl (Nat.le_of_ble_eq_true rfl) rfl (wp_isC (O_F _ (by omega))) (show h_Fi_listen ≤ _ from by decide) (c_listen C1 (show i < sp_n q by omega) ho (hw.f (by omega)) (fun S2 zC2 zf2 => ?_))
    refine wp_Kv ?_
    refine wp_aload_n d_Th_seekTelling_53 rfl rfl ?_
    refine wp_aload_n d_Th_seekTelling_54 rfl rfl ?_
    refine wp_bipush (x := nI 10) d_Th_seekTelling_55 (by decide) ?_
    refine wp_iload_n d_Th_seekTelling_57 rfl rfl ?_
    refine wp_imul d_Th_seekTelling_58 (pk_mul _ _) ?_
    refine wp_iload_n d_Th_seekTelling_59 rfl rfl ?_
    refine wp_iadd d_Th_seekTelling_60 (nI_add _ _) ?_
    refine wp_invV d_Th_seekTelling_61 ow_Th_seekTelling lk_5_86 (by decide) mi_Th_noteIfSaid rfl rfl (Nat.le_of_ble_eq_true rfl) rfl (wp_isC (O_67 _)) (show h_Th_noteIfSaid ≤ _ from by decide) (c_note zC2 (sp_hr_wf hw (by omega) ho) hs (cSh_k sh (fa.tr (up zf2)) ns) _ rr (by omega) ⟨(zf2.2 67 0 (fun y => by unfold cF at y; omega)).trans F1.1, fun y => (zf2.2 67 1 (fun y => by unfold cF at y; omega)).trans (F1.2 y)⟩ (fun S3 zF3 zf3 => ?_))
    refine wp_Kv ?_
    refine wp_aload d_Th_seekTelling_64 rfl ?_
    refine wp_aload_n d_Th_seekTelling_66 rfl rfl ?_
    refine wp_getR d_Th_seekTelling_67 ow_Th_seekTelling fl_5_20 (O_67 _) rfl ?_
    refine wp_iconst (x := nI 0) d_Th_seekTelling_70 rfl ?_
    refine wp_aaload d_Th_seekTelling_71 rfl rfl (by decide) ?_
    refine wp_invV d_Th_seekTelling_72 ow_Th_seekTelling lk_5_43 (by decide) mi_Fi_copyFrom rfl rfl (Nat.le_of_ble_eq_true rfl) rfl (wp_isC (O_F _ (by omega))) (show h_Fi_copyFrom ≤ _ from by decide) (c_fcopy (fun S => O_F S hi10) O_71 (fun S => A_G S hi10) A_72 (by omega) (by omega) (by omega) ?_)
    refine wp_Kv ?_
    refine wp_iinc3 d_Th_seekTelling_75 rfl (nI_add _ 1) ?_
    refine wp_goto (pc' := 14) d_Th_seekTelling_78 (by decide) ?_
    have zC3 : CL S3 (sp_hr q o i) := zC2.fr (fun k j y => zf3.2 k j (fun y' => y (by unfold cW; omega)))
    have zs3 : cSp S3 q i 71 72 := cSp_k (cSp_k s1 zf2 (fun j => ⟨by unfold cF; omega, by unfold cF; omega⟩)) zf3 (fun j => ⟨by omega, by omega⟩)
    have zf4 : fr cZ S3 (fcp S3 (13 + 2 * i) (14 + 2 * i) 71 72) := fcp_fr (fun j => ⟨Or.inl (Or.inl ⟨by omega, by omega⟩), Or.inl (Or.inl ⟨by omega, by omega⟩)⟩)
    have zall := ((fa.tr (up zf2)).tr (u67 zf3)).tr zf4
    refine IH _ _ (CL_back zC3 hi10 (fun j hj => sp_hr_ne q o i hj ho) zs3) (cSh_k sh zall ns) ⟨?_, fun y => ?_⟩ (fS.tr zall)
    · show (if 67 = 13 + 2 * i ∧ 2 ≤ 0 ∧ 0 ≤ 7 then _ else if 67 = 14 + 2 * i ∧ 0 < 4 then _ else S3.2 67 0) = _
      rw [if_neg (by omega), if_neg (by omega)]
      exact zF3.1
    · show (if 67 = 13 + 2 * i ∧ 2 ≤ 1 ∧ 1 ≤ 7 then _ else if 67 = 14 + 2 * i ∧ 1 < 4 then _ else S3.2 67 1) = _
      rw [if_neg (by omega), if_neg (by omega)]
      exact zF3.2 y
theorem c_oo (hw : sp_wf q) {s : Nat} (hs : s < 4) (K : ∀ S', CL S' q → cFo S' (sp_on q z t s 4) → fr cZ S S' → Q none S') : ∀ m o (S' : wp_S) l3 l4, o + m = 4 → CL S' q → cSh S' b z t → cFo S' (sp_on q z t s o) → fr cZ S S' → wp (h_Th_seekTelling - 1) y_Th_seekTelling 7 [some (.ref 67), some (.ref (82 + 2 * s)), some (.int (nI o)), l3, l4] [] S' Q := by
  have hn := hw.n
  intro m
  induction m with
  | zero =>
    intro o S' l3 l4 ho C sh F fS
    obtain rfl : o = 4 := by omega
    refine wp_iload_n d_Th_seekTelling_7 rfl rfl ?_
    refine wp_iconst (x := nI 4) d_Th_seekTelling_8 rfl ?_
    refine wp_icN_ge (pc' := 87) d_Th_seekTelling_9 (by decide) (by omega) (by omega) (fun _ => ?_) (fun q => absurd q (by decide))
    refine wp_return d_Th_seekTelling_87 rt_Th_seekTelling ?_
    exact K S' C F fS
  | succ m ih =>
    intro o S' l3 l4 ho C sh F fS
    have hle := sp_on_le q z t s o
    have hle2 : o * sp_n q ≤ 3 * 10 := Nat.mul_le_mul (by omega) hn.1
    have e0 := sp_oi_0 q z t s o (sp_on q z t s o)
    have es := sp_on_s q z t s o
    have IH := fun S' l3 l4 => ih (o + 1) S' l3 l4 (by omega)
    rw [es] at IH
    have st := fun l4 => c_oi (S := S) (Q := Q) (b := b) hw hs (show o < 4 by omega) (sp_on q z t s o) (by omega) (fun S' l4 C' sh' F' f' => by
      refine wp_iinc2 d_Th_seekTelling_81 rfl (nI_add _ 1) ?_
      refine wp_goto (pc' := 7) d_Th_seekTelling_84 (by decide) ?_
      exact IH S' _ _ C' sh' F' f'
      ) (sp_n q) 0 S' l4 (Nat.zero_add _) C sh (e0.symm ▸ F) fS
    refine wp_iload_n d_Th_seekTelling_7 rfl rfl ?_
    refine wp_iconst (x := nI 4) d_Th_seekTelling_8 rfl ?_
    refine wp_icN_ge (pc' := 87) d_Th_seekTelling_9 (by decide) (by omega) (by omega) (fun h9 => absurd h9 (by omega)) (fun h9 => ?_)
    refine wp_iconst (x := nI 0) d_Th_seekTelling_12 rfl ?_
    refine wp_iston3 d_Th_seekTelling_13 rfl ?_
    exact st _
theorem c_seekTelling (C : CL S q) (hw : sp_wf q) {s : Nat} (hs : s < 4) (sh : cSh S b z t) (K : ∀ S', CL S' q → cFo S' (sp_on q z t s 4) → fr cZ S S' → Q none S') : cl h_Th_seekTelling y_Th_seekTelling [.ref 67, .ref (82 + 2 * s)] S Q := by
  have f1 : fr cZ S (wp_u S 67 0 (nI 0)) := fr.rf.up (Or.inr (Or.inl rfl))
  have F1 : cFo (wp_u S 67 0 (nI 0)) (sp_on q z t s 0) := by
    rw [sp_on_0]
    exact ⟨wp_us, fun y => absurd rfl y⟩
  refine cl_in ml_Th_seekTelling rfl rfl ?_
  refine wp_aload_n d_Th_seekTelling_0 rfl rfl ?_
  refine wp_iconst (x := nI 0) d_Th_seekTelling_1 rfl ?_
  refine wp_put (ty := .int) d_Th_seekTelling_2 ow_Th_seekTelling fl_5_9 (by decide +kernel) (by decide +kernel) (O_67 _) rfl ⟨rfl, rfl⟩ ?_
  refine wp_iconst (x := nI 0) d_Th_seekTelling_5 rfl ?_
  refine wp_iston2 d_Th_seekTelling_6 rfl ?_
  exact c_oo (S := S) (b := b) hw hs K 4 0 _ _ _ rfl (C.fr (fun k j y => wp_un (fun y' => y (by unfold cW; omega)))) (cSh_k sh f1 (fun k j h1 h2 y => by unfold cZ cTl at y; omega)) F1 f1
theorem fr_YZ {S S' : wp_S} (f : fr cZ S S') : fr cY S S' := f.mono (fun _ _ y => by unfold cZ cTl at y; unfold cY; omega)
theorem c_one (C : CL S q) (hw : sp_wf q) (sh : cSh S b z t) (v w : Int32) (K : cQ S (op_one q b z t v w) Q) : cl h_Fo_one y_Fo_one [.ref 0, .int v, .int w] S Q := by
  have hn := hw.n
  unfold op_one at K
  by_cases h : sp_isW v 3 ∧ sp_isW w 1
  · rw [sp_if_t h] at K
    obtain ⟨s, hs, rfl⟩ := (i_in (by decide)).mp h.1
    rw [nI_clamp (by omega)] at K
    by_cases hb : b s = 0
    · rw [sp_if_t hb] at K
      refine cl_in ml_Fo_one rfl rfl ?_
      refine wp_iload_n d_Fo_one_0 rfl rfl ?_
      refine wp_invS d_Fo_one_1 ow_Fo_one lk_7_214 (by decide) mi_Fo_isSheet rfl rfl (Nat.le_of_ble_eq_true rfl) rfl (show h_Fo_isSheet ≤ _ from by decide) (c_isSheet _ ?_)
      refine wp_Ki ?_
      refine wp_ifB_eq (pc' := 16) d_Fo_one_4 (by decide) (fun h4 => absurd h.1 h4) (fun h4 => ?_)
      refine wp_iload_n d_Fo_one_7 rfl rfl ?_
      refine wp_iconst (x := nI 0) d_Fo_one_8 rfl ?_
      refine wp_iconst (x := nI 1) d_Fo_one_9 rfl ?_
      refine wp_invS d_Fo_one_10 ow_Fo_one lk_7_66 (by decide) mi_Fo_isWithin rfl rfl (Nat.le_of_ble_eq_true rfl) rfl (show h_Fo_isWithin ≤ _ from by decide) (c_isWithin _ _ _ ?_)
      refine wp_Ki ?_
      refine wp_ifB_ne (pc' := 22) d_Fo_one_13 (by decide) (fun h13 => ?_) (fun h13 => absurd h.2 h13)
      refine wp_aload_n d_Fo_one_22 rfl rfl ?_
      refine wp_getR d_Fo_one_23 ow_Fo_one fl_7_50 (O_0 _) rfl ?_
      refine wp_iload_n d_Fo_one_26 rfl rfl ?_
      refine wp_aaload d_Fo_one_27 rfl (f_U (by omega)) (by decide) ?_
      refine wp_getI d_Fo_one_28 ow_Fo_one fl_7_217 (O_U _ (by omega)) rfl ((sh s (by omega)).1) ?_
      refine wp_if_ne (pc' := 40) d_Fo_one_31 (by decide) (fun h31 => absurd hb h31) (fun h31 => ?_)
      refine wp_aload_n d_Fo_one_34 rfl rfl ?_
      refine wp_iconst (x := nI 2) d_Fo_one_35 rfl ?_
      refine wp_invV d_Fo_one_36 ow_Fo_one lk_7_70 (by decide) mi_Fo_error rfl rfl (Nat.le_of_ble_eq_true rfl) rfl (wp_isC (O_0 _)) (show h_Fo_error ≤ _ from by decide) (c_error 2 (by decide) (by decide) ?_)
      refine wp_Ki ?_
      refine wp_reti d_Fo_one_39 rt_Fo_one ?_
      exact cQ_er (e := 2) K (by decide) C fr.rf
    · rw [sp_if_f hb] at K
      have hle := sp_on_le q z t s 4
      have hle2 : 4 * sp_n q ≤ 4 * 10 := Nat.mul_le_mul (Nat.le_refl _) hn.1
      refine cl_in ml_Fo_one rfl rfl ?_
      refine wp_iload_n d_Fo_one_0 rfl rfl ?_
      refine wp_invS d_Fo_one_1 ow_Fo_one lk_7_214 (by decide) mi_Fo_isSheet rfl rfl (Nat.le_of_ble_eq_true rfl) rfl (show h_Fo_isSheet ≤ _ from by decide) (c_isSheet _ ?_)
      refine wp_Ki ?_
      refine wp_ifB_eq (pc' := 16) d_Fo_one_4 (by decide) (fun h4 => absurd h.1 h4) (fun h4 => ?_)
      refine wp_iload_n d_Fo_one_7 rfl rfl ?_
      refine wp_iconst (x := nI 0) d_Fo_one_8 rfl ?_
      refine wp_iconst (x := nI 1) d_Fo_one_9 rfl ?_
      refine wp_invS d_Fo_one_10 ow_Fo_one lk_7_66 (by decide) mi_Fo_isWithin rfl rfl (Nat.le_of_ble_eq_true rfl) rfl (show h_Fo_isWithin ≤ _ from by decide) (c_isWithin _ _ _ ?_)
      refine wp_Ki ?_
      refine wp_ifB_ne (pc' := 22) d_Fo_one_13 (by decide) (fun h13 => ?_) (fun h13 => absurd h.2 h13)
      refine wp_aload_n d_Fo_one_22 rfl rfl ?_
      refine wp_getR d_Fo_one_23 ow_Fo_one fl_7_50 (O_0 _) rfl ?_
      refine wp_iload_n d_Fo_one_26 rfl rfl ?_
      refine wp_aaload d_Fo_one_27 rfl (f_U (by omega)) (by decide) ?_
      refine wp_getI d_Fo_one_28 ow_Fo_one fl_7_217 (O_U _ (by omega)) rfl ((sh s (by omega)).1) ?_
      refine wp_if_ne (pc' := 40) d_Fo_one_31 (by decide) (fun h31 => ?_) (fun h31 => absurd h31 hb)
      refine wp_aload_n d_Fo_one_40 rfl rfl ?_
      refine wp_getR d_Fo_one_41 ow_Fo_one fl_7_37 (O_0 _) rfl ?_
      refine wp_aload_n d_Fo_one_44 rfl rfl ?_
      refine wp_getR d_Fo_one_45 ow_Fo_one fl_7_50 (O_0 _) rfl ?_
      refine wp_iload_n d_Fo_one_48 rfl rfl ?_
      refine wp_aaload d_Fo_one_49 rfl (f_U (by omega)) (by decide) ?_
      refine wp_invV d_Fo_one_50 ow_Fo_one lk_7_220 (by decide) mi_Th_seekTelling rfl rfl (Nat.le_of_ble_eq_true rfl) rfl (wp_isC (O_67 _)) (show h_Th_seekTelling ≤ _ from by decide) (c_seekTelling C hw (by omega) sh (fun S2 zC2 zF2 zf2 => ?_))
      refine wp_Kv ?_
      refine wp_aload_n d_Fo_one_53 rfl rfl ?_
      refine wp_getR d_Fo_one_54 ow_Fo_one fl_7_37 (O_0 _) rfl ?_
      refine wp_getI d_Fo_one_57 ow_Fo_one fl_7_224 (O_67 _) rfl (zF2.1) ?_
      refine wp_ifN_ne (pc' := 69) d_Fo_one_60 (by decide) (by omega) (fun h60 => ?_) (fun h60 => ?_)
      · refine wp_iload_n d_Fo_one_69 rfl rfl ?_
        refine wp_if_ne (pc' := 83) d_Fo_one_70 (by decide) (fun h70 => ?_) (fun h70 => ?_)
        · refine wp_aload_n d_Fo_one_83 rfl rfl ?_
          refine wp_getR d_Fo_one_84 ow_Fo_one fl_7_37 (O_0 _) rfl ?_
          refine wp_getI d_Fo_one_87 ow_Fo_one fl_7_224 (O_67 _) rfl (zF2.1) ?_
          refine wp_reti d_Fo_one_90 rt_Fo_one ?_
          rw [sp_if_f h60, sp_if_f h70] at K
          exact cQ_ok K zC2 (fr_YZ zf2)
        · refine wp_aload_n d_Fo_one_73 rfl rfl ?_
          refine wp_getR d_Fo_one_74 ow_Fo_one fl_7_37 (O_0 _) rfl ?_
          refine wp_getI d_Fo_one_77 ow_Fo_one fl_7_227 (O_67 _) rfl (zF2.2 h60) ?_
          refine wp_goto (pc' := 90) d_Fo_one_80 (by decide) ?_
          refine wp_reti d_Fo_one_90 rt_Fo_one ?_
          rw [sp_if_f h60, sp_if_t h70] at K
          exact cQ_ok K zC2 (fr_YZ zf2)
      · refine wp_aload_n d_Fo_one_63 rfl rfl ?_
        refine wp_iconst (x := nI 2) d_Fo_one_64 rfl ?_
        refine wp_invV d_Fo_one_65 ow_Fo_one lk_7_70 (by decide) mi_Fo_error rfl rfl (Nat.le_of_ble_eq_true rfl) rfl (wp_isC (O_0 _)) (show h_Fo_error ≤ _ from by decide) (c_error 2 (by decide) (by decide) ?_)
        refine wp_Ki ?_
        refine wp_reti d_Fo_one_68 rt_Fo_one ?_
        rw [sp_if_t h60] at K
        exact cQ_er (e := 2) K (by decide) zC2 (fr_YZ zf2)
  · rw [sp_if_f h] at K
    refine cl_in ml_Fo_one rfl rfl ?_
    refine wp_iload_n d_Fo_one_0 rfl rfl ?_
    refine wp_invS d_Fo_one_1 ow_Fo_one lk_7_214 (by decide) mi_Fo_isSheet rfl rfl (Nat.le_of_ble_eq_true rfl) rfl (show h_Fo_isSheet ≤ _ from by decide) (c_isSheet _ ?_)
    refine wp_Ki ?_
    refine wp_ifB_eq (pc' := 16) d_Fo_one_4 (by decide) (fun h4 => ?_) (fun h4 => ?_)
    · refine wp_aload_n d_Fo_one_16 rfl rfl ?_
      refine wp_iconst (x := nI 1) d_Fo_one_17 rfl ?_
      refine wp_invV d_Fo_one_18 ow_Fo_one lk_7_70 (by decide) mi_Fo_error rfl rfl (Nat.le_of_ble_eq_true rfl) rfl (wp_isC (O_0 _)) (show h_Fo_error ≤ _ from by decide) (c_error 1 (by decide) (by decide) ?_)
      refine wp_Ki ?_
      refine wp_reti d_Fo_one_21 rt_Fo_one ?_
      exact cQ_er (e := 1) K (by decide) C fr.rf
    · refine wp_iload_n d_Fo_one_7 rfl rfl ?_
      refine wp_iconst (x := nI 0) d_Fo_one_8 rfl ?_
      refine wp_iconst (x := nI 1) d_Fo_one_9 rfl ?_
      refine wp_invS d_Fo_one_10 ow_Fo_one lk_7_66 (by decide) mi_Fo_isWithin rfl rfl (Nat.le_of_ble_eq_true rfl) rfl (show h_Fo_isWithin ≤ _ from by decide) (c_isWithin _ _ _ ?_)
      refine wp_Ki ?_
      refine wp_ifB_ne (pc' := 22) d_Fo_one_13 (by decide) (fun h13 => absurd ⟨h4, h13⟩ h) (fun h13 => ?_)
      refine wp_aload_n d_Fo_one_16 rfl rfl ?_
      refine wp_iconst (x := nI 1) d_Fo_one_17 rfl ?_
      refine wp_invV d_Fo_one_18 ow_Fo_one lk_7_70 (by decide) mi_Fo_error rfl rfl (Nat.le_of_ble_eq_true rfl) rfl (wp_isC (O_0 _)) (show h_Fo_error ≤ _ from by decide) (c_error 1 (by decide) (by decide) ?_)
      refine wp_Ki ?_
      refine wp_reti d_Fo_one_21 rt_Fo_one ?_
      exact cQ_er (e := 1) K (by decide) C fr.rf
end CM
