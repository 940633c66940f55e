/-! the class: images, judge, acres -/
section CV
variable {S : wp_S} {q : sp_R} {mu : Int32} {b z t : sp_R} {Q : Option Value → wp_S → Prop}
theorem CL.one (C : CL S q) : S.2 1 9 = q 1 := C.sc 1 (by decide) (by decide) (by decide)
theorem c_image (C : CL S q) (hN : ∀ i, i < 10 → S.2 (45 + 2 * i) 0 = nI i) (K : ∀ S1, CL (sft 32 S1) q → fr cCp32 S S1 → Q (some (.int (S.2 0 7 + nI 1))) (wp_u S1 0 7 (S.2 0 7 + nI 1))) : cl h_Fo_image y_Fo_image [.ref 0] S Q := by
  have C0 : CL (sft 0 S) q := C
  refine cl_in ml_Fo_image rfl rfl ?_
  refine wp_aload_n d_Fo_image_0 rfl rfl ?_
  refine wp_getR d_Fo_image_1 ow_Fo_image fl_7_16 (O_0 _) rfl ?_
  refine wp_aload_n d_Fo_image_4 rfl rfl ?_
  refine wp_getR d_Fo_image_5 ow_Fo_image fl_7_10 (O_0 _) rfl ?_
  refine wp_invV d_Fo_image_8 ow_Fo_image lk_7_277 (by decide) mi_La_copyFrom rfl rfl (Nat.le_of_ble_eq_true rfl) rfl (wp_isC (O_33 _)) (show h_La_copyFrom ≤ _ from by decide) (c_lcopy32 C0 hN (fun S1 zC1 zf1 => ?_))
  refine wp_Kv ?_
  refine wp_aload_n d_Fo_image_11 rfl rfl ?_
  refine wp_dup d_Fo_image_12 rfl ?_
  refine wp_getI d_Fo_image_13 ow_Fo_image fl_7_58 (O_0 _) rfl (zf1.2 0 7 (fun y => by unfold cCp32 at y; omega)) ?_
  refine wp_iconst (x := nI 1) d_Fo_image_16 rfl ?_
  refine wp_iadd d_Fo_image_17 rfl ?_
  refine wp_put (ty := .int) d_Fo_image_18 ow_Fo_image fl_7_58 (by decide +kernel) (by decide +kernel) (O_0 _) rfl ⟨rfl, rfl⟩ ?_
  refine wp_aload_n d_Fo_image_21 rfl rfl ?_
  refine wp_getI d_Fo_image_22 ow_Fo_image fl_7_58 (O_0 _) rfl (wp_us) ?_
  refine wp_reti d_Fo_image_25 rt_Fo_image ?_
  exact K S1 zC1 zf1
theorem c_restore {p : sp_R} (hN : ∀ i, i < 10 → S.2 (13 + 2 * i) 0 = nI i) (C : S.2 0 7 ≠ 0 → CL (sft 32 S) p) (K1 : S.2 0 7 ≠ 0 → ∀ S1, CL S1 p → fr cCp0 S S1 → Q (some (.int (p 1))) S1) (K0 : S.2 0 7 = 0 → Q (some (.int (-1000000002))) (wp_u S 90 2 (S.2 90 2 + nI 1))) : cl h_Fo_restore y_Fo_restore [.ref 0] S Q := by
  by_cases h : S.2 0 7 = 0
  · refine cl_in ml_Fo_restore rfl rfl ?_
    refine wp_aload_n d_Fo_restore_0 rfl rfl ?_
    refine wp_getI d_Fo_restore_1 ow_Fo_restore fl_7_58 (O_0 _) rfl ((rfl : _ = S.2 0 7)) ?_
    refine wp_if_ne (pc' := 13) d_Fo_restore_4 (by decide) (fun h4 => absurd h h4) (fun h4 => ?_)
    refine wp_aload_n d_Fo_restore_7 rfl rfl ?_
    refine wp_iconst (x := nI 2) d_Fo_restore_8 rfl ?_
    refine wp_invV d_Fo_restore_9 ow_Fo_restore lk_7_70 (by decide) mi_Fo_error rfl rfl (Nat.le_of_ble_eq_true rfl) rfl (wp_isC (O_0 _)) (show h_Fo_error ≤ _ from by decide) (c_error 2 (by decide) (by decide) ?_)
    refine wp_Ki ?_
    refine wp_reti d_Fo_restore_12 rt_Fo_restore ?_
    exact K0 h
  · refine cl_in ml_Fo_restore rfl rfl ?_
    refine wp_aload_n d_Fo_restore_0 rfl rfl ?_
    refine wp_getI d_Fo_restore_1 ow_Fo_restore fl_7_58 (O_0 _) rfl ((rfl : _ = S.2 0 7)) ?_
    refine wp_if_ne (pc' := 13) d_Fo_restore_4 (by decide) (fun h4 => ?_) (fun h4 => absurd h4 h)
    refine wp_aload_n d_Fo_restore_13 rfl rfl ?_
    refine wp_getR d_Fo_restore_14 ow_Fo_restore fl_7_10 (O_0 _) rfl ?_
    refine wp_aload_n d_Fo_restore_17 rfl rfl ?_
    refine wp_getR d_Fo_restore_18 ow_Fo_restore fl_7_16 (O_0 _) rfl ?_
    refine wp_invV d_Fo_restore_21 ow_Fo_restore lk_7_277 (by decide) mi_La_copyFrom rfl rfl (Nat.le_of_ble_eq_true rfl) rfl (wp_isC (O_1 _)) (show h_La_copyFrom ≤ _ from by decide) (c_lcopy0 (C h) hN (fun S1 zC1 zf1 => ?_))
    refine wp_Kv ?_
    refine wp_aload_n d_Fo_restore_24 rfl rfl ?_
    refine wp_getR d_Fo_restore_25 ow_Fo_restore fl_7_10 (O_0 _) rfl ?_
    refine wp_getI d_Fo_restore_28 ow_Fo_restore fl_7_280 (O_1 _) rfl (CL.one zC1) ?_
    refine wp_reti d_Fo_restore_31 rt_Fo_restore ?_
    exact K1 h S1 zC1 zf1
theorem c_jd_loop (C : CL S q) (hw : sp_wf q) {s y : Nat} (hs : s < 4) (sh : cSh S b z t) (hy : y ≤ 40) (hz : z s = nI y) (r : Nat) (K1 : r = y ∧ y = sp_n q → ∀ S', fr cS S S' → Q (some (.int (-1))) S') (K2 : ¬ (r = y ∧ y = sp_n q) → ∀ S', fr cS S S' → Q (some (.int (nI r))) S') : ∀ f k (S' : wp_S) (l5 : Option Value), k + f = min y (sp_n q) → sp_jd q t s f k = r → CL S' q → fr cS S S' → wp (h_Fo_judge - 1) y_Fo_judge 51 [some (.ref 0), some (.int (nI s)), some (.ref (82 + 2 * s)), some (.int (nI (max y (sp_n q)))), some (.int (nI k)), l5] [] S' Q := by
  have hn := hw.n
  have size : ∀ {S' : wp_S}, fr cS S S' → S'.2 (82 + 2 * s) 2 = nI y := fun f => (f.2 _ _ (fun g => by unfold cS at g; omega)).trans ((sh s hs).2.1.trans hz)
  have num : ∀ {S' : wp_S} {k : Nat}, k < 40 → fr cS S S' → S'.2 (83 + 2 * s) k = t (40 * s + k) := fun hk f => (f.2 _ _ (fun g => by unfold cS at g; omega)).trans ((sh s hs).2.2 _ hk)
  have hasF : ∀ k, ¬ k < sp_n q → k < 50 → ¬ (0 ≤ nI k ∧ nI k ≤ q 0 - nI 1) := fun k hk hk5 g => by
    rw [hn.2] at g
    obtain ⟨j, h3, h4⟩ := (i_fld (by omega)).mp g
    have := (nI_eq (by omega) (by omega)).mp h4
    omega
  have hasT : ∀ k, k < sp_n q → (0 ≤ nI k ∧ nI k ≤ q 0 - nI 1) := fun k hk => by
    rw [hn.2]
    exact (i_fld (by omega)).mpr ⟨k, hk, rfl⟩
  intro f
  induction f with
  | zero =>
    intro k S' l5 hk e C' fS
    rw [sp_jd_0] at e
    subst e
    by_cases hyn : y = sp_n q
    · have K1 := K1 ⟨by omega, hyn⟩ S' fS
      refine wp_iload d_Fo_judge_51 rfl ?_
      refine wp_iload_n d_Fo_judge_53 rfl rfl ?_
      refine wp_icN_ge (pc' := 119) d_Fo_judge_54 (by decide) (by omega) (by omega) (fun h54 => ?_) (fun h54 => absurd h54 (by omega))
      refine wp_iconst (x := -1) d_Fo_judge_119 rfl ?_
      refine wp_reti d_Fo_judge_120 rt_Fo_judge ?_
      exact K1
    · have K2 := K2 (fun g => hyn g.2) S' fS
      by_cases hlt : k < y
      · have hf := hasF k (by omega) (by omega)
        refine wp_iload d_Fo_judge_51 rfl ?_
        refine wp_iload_n d_Fo_judge_53 rfl rfl ?_
        refine wp_icN_ge (pc' := 119) d_Fo_judge_54 (by decide) (by omega) (by omega) (fun h54 => absurd h54 (by omega)) (fun h54 => ?_)
        refine wp_iload d_Fo_judge_57 rfl ?_
        refine wp_aload_n d_Fo_judge_59 rfl rfl ?_
        refine wp_getI d_Fo_judge_60 ow_Fo_judge fl_7_251 (O_U _ (by omega)) rfl (size fS) ?_
        refine wp_icN_ge (pc' := 82) d_Fo_judge_63 (by decide) (by omega) (by omega) (fun h63 => absurd h63 (by omega)) (fun h63 => ?_)
        refine wp_aload_n d_Fo_judge_66 rfl rfl ?_
        refine wp_getR d_Fo_judge_67 ow_Fo_judge fl_7_10 (O_0 _) rfl ?_
        refine wp_iload d_Fo_judge_70 rfl ?_
        refine wp_invV d_Fo_judge_72 ow_Fo_judge lk_7_90 (by decide) mi_La_has rfl rfl (Nat.le_of_ble_eq_true rfl) rfl (wp_isC (O_1 _)) (show h_La_has ≤ _ from by decide) (c_has C' _ ?_)
        refine wp_Ki ?_
        refine wp_ifB_eq (pc' := 82) d_Fo_judge_75 (by decide) (fun h75 => ?_) (fun h75 => absurd h75 hf)
        refine wp_iconst (x := nI 0) d_Fo_judge_82 rfl ?_
        refine wp_isto5 d_Fo_judge_83 rfl ?_
        refine wp_iload d_Fo_judge_85 rfl ?_
        refine wp_ifN_eq (pc' := 110) d_Fo_judge_87 (by decide) (by omega) (fun _ => ?_) (fun q => absurd q (by decide))
        refine wp_iload d_Fo_judge_110 rfl ?_
        refine wp_reti d_Fo_judge_112 rt_Fo_judge ?_
        exact K2
      · refine wp_iload d_Fo_judge_51 rfl ?_
        refine wp_iload_n d_Fo_judge_53 rfl rfl ?_
        refine wp_icN_ge (pc' := 119) d_Fo_judge_54 (by decide) (by omega) (by omega) (fun h54 => absurd h54 (by omega)) (fun h54 => ?_)
        refine wp_iload d_Fo_judge_57 rfl ?_
        refine wp_aload_n d_Fo_judge_59 rfl rfl ?_
        refine wp_getI d_Fo_judge_60 ow_Fo_judge fl_7_251 (O_U _ (by omega)) rfl (size fS) ?_
        refine wp_icN_ge (pc' := 82) d_Fo_judge_63 (by decide) (by omega) (by omega) (fun h63 => ?_) (fun h63 => absurd h63 (by omega))
        refine wp_iconst (x := nI 0) d_Fo_judge_82 rfl ?_
        refine wp_isto5 d_Fo_judge_83 rfl ?_
        refine wp_iload d_Fo_judge_85 rfl ?_
        refine wp_ifN_eq (pc' := 110) d_Fo_judge_87 (by decide) (by omega) (fun _ => ?_) (fun q => absurd q (by decide))
        refine wp_iload d_Fo_judge_110 rfl ?_
        refine wp_reti d_Fo_judge_112 rt_Fo_judge ?_
        exact K2
  | succ f ih =>
    intro k S' l5 hk e C' fS
    rw [sp_jd_s] at e
    have hf := hasT k (by omega)
    refine wp_iload d_Fo_judge_51 rfl ?_
    refine wp_iload_n d_Fo_judge_53 rfl rfl ?_
    refine wp_icN_ge (pc' := 119) d_Fo_judge_54 (by decide) (by omega) (by omega) (fun h54 => absurd h54 (by omega)) (fun h54 => ?_)
    refine wp_iload d_Fo_judge_57 rfl ?_
    refine wp_aload_n d_Fo_judge_59 rfl rfl ?_
    refine wp_getI d_Fo_judge_60 ow_Fo_judge fl_7_251 (O_U _ (by omega)) rfl (size fS) ?_
    refine wp_icN_ge (pc' := 82) d_Fo_judge_63 (by decide) (by omega) (by omega) (fun h63 => absurd h63 (by omega)) (fun h63 => ?_)
    refine wp_aload_n d_Fo_judge_66 rfl rfl ?_
    refine wp_getR d_Fo_judge_67 ow_Fo_judge fl_7_10 (O_0 _) rfl ?_
    refine wp_iload d_Fo_judge_70 rfl ?_
    refine wp_invV d_Fo_judge_72 ow_Fo_judge lk_7_90 (by decide) mi_La_has rfl rfl (Nat.le_of_ble_eq_true rfl) rfl (wp_isC (O_1 _)) (show h_La_has ≤ _ from by decide) (c_has C' _ ?_)
    refine wp_Ki ?_
    refine wp_ifB_eq (pc' := 82) d_Fo_judge_75 (by decide) (fun h75 => absurd hf h75) (fun h75 => ?_)
    refine wp_iconst (x := nI 1) d_Fo_judge_78 rfl ?_
    refine wp_goto (pc' := 83) d_Fo_judge_79 (by decide) ?_
    refine wp_isto5 d_Fo_judge_83 rfl ?_
    refine wp_iload d_Fo_judge_85 rfl ?_
    refine wp_ifN_eq (pc' := 110) d_Fo_judge_87 (by decide) (by omega) (fun q => absurd q (by decide)) (fun _ => ?_)
    refine wp_aload_n d_Fo_judge_90 rfl rfl ?_
    refine wp_getR d_Fo_judge_91 ow_Fo_judge fl_7_254 (O_U _ (by omega)) rfl ?_
    refine wp_iload d_Fo_judge_94 rfl ?_
    refine wp_iaload d_Fo_judge_96 (A_V _ (by omega)) (by omega) (by decide) (num (show k < 40 by omega) fS) ?_
    refine wp_aload_n d_Fo_judge_97 rfl rfl ?_
    refine wp_getR d_Fo_judge_98 ow_Fo_judge fl_7_10 (O_0 _) rfl ?_
    refine wp_iload d_Fo_judge_101 rfl ?_
    refine wp_iconst (x := -1) d_Fo_judge_103 rfl ?_
    refine wp_invV d_Fo_judge_104 ow_Fo_judge lk_7_115 (by decide) mi_La_ownerOf rfl rfl (Nat.le_of_ble_eq_true rfl) rfl (wp_isC (O_1 _)) (show h_La_ownerOf ≤ _ from by decide) (c_ownerOf C' hw (-1) k (by omega) (fun S2 zf2 => ?_))
    refine wp_Ki ?_
    refine wp_ic_eq (pc' := 113) d_Fo_judge_107 (by decide) (fun h107 => ?_) (fun h107 => ?_)
    · refine wp_iinc4 d_Fo_judge_113 rfl (nI_add _ 1) ?_
      refine wp_goto (pc' := 51) d_Fo_judge_116 (by decide) ?_
      rw [sp_if_t h107] at e
      exact ih (k + 1) S2 _ (by omega) e (CL_st C' zf2) (fS.tr zf2)
    · refine wp_iload d_Fo_judge_110 rfl ?_
      refine wp_reti d_Fo_judge_112 rt_Fo_judge ?_
      rw [sp_if_f h107] at e
      subst e
      exact K2 (fun g => by omega) S2 (fS.tr zf2)
theorem c_judge (C : CL S q) (hw : sp_wf q) (sh : cSh S b z t) (hz : ∀ s, s < 4 → ∃ y, y ≤ 40 ∧ z s = nI y) (v : Int32) (K : cQ S (op_judge q b z t v) Q) : cl h_Fo_judge y_Fo_judge [.ref 0, .int v] S Q := by
  have hn := hw.n
  unfold op_judge at K
  by_cases h : sp_isW v 3
  · rw [sp_if_t h] at K
    obtain ⟨s, hs, rfl⟩ := (i_in (by decide)).mp h
    rw [nI_clamp (by omega)] at K
    obtain ⟨y, hy, ez⟩ := hz s (by omega)
    obtain ⟨g1, g2, g3⟩ := sh s (by omega)
    by_cases hb : b s = 0
    · rw [sp_if_t hb] at K
      refine cl_in ml_Fo_judge rfl rfl ?_
      refine wp_iload_n d_Fo_judge_0 rfl rfl ?_
      refine wp_invS d_Fo_judge_1 ow_Fo_judge lk_7_214 (by decide) mi_Fo_isSheet rfl rfl (Nat.le_of_ble_eq_true rfl) rfl (show h_Fo_isSheet ≤ _ from by decide) (c_isSheet _ ?_)
      refine wp_Ki ?_
      refine wp_ifB_ne (pc' := 13) d_Fo_judge_4 (by decide) (fun h4 => ?_) (fun h4 => absurd h h4)
      refine wp_aload_n d_Fo_judge_13 rfl rfl ?_
      refine wp_getR d_Fo_judge_14 ow_Fo_judge fl_7_50 (O_0 _) rfl ?_
      refine wp_iload_n d_Fo_judge_17 rfl rfl ?_
      refine wp_aaload d_Fo_judge_18 rfl (f_U (by omega)) (by decide) ?_
      refine wp_aston2 d_Fo_judge_19 rfl ?_
      refine wp_aload_n d_Fo_judge_20 rfl rfl ?_
      refine wp_getI d_Fo_judge_21 ow_Fo_judge fl_7_217 (O_U _ (by omega)) rfl (g1) ?_
      refine wp_if_ne (pc' := 33) d_Fo_judge_24 (by decide) (fun h24 => absurd hb h24) (fun h24 => ?_)
      refine wp_aload_n d_Fo_judge_27 rfl rfl ?_
      refine wp_iconst (x := nI 2) d_Fo_judge_28 rfl ?_
      refine wp_invV d_Fo_judge_29 ow_Fo_judge lk_7_70 (by decide) mi_Fo_error rfl rfl (Nat.le_of_ble_eq_true rfl) rfl (wp_isC (O_0 _)) (show h_Fo_error ≤ _ from by decide) (c_error 2 (by decide) (by decide) ?_)
      refine wp_Ki ?_
      refine wp_reti d_Fo_judge_32 rt_Fo_judge ?_
      exact cQ_er (e := 2) K (by decide) C fr.rf
    · rw [sp_if_f hb, ez, nI_clamp (by omega)] at K
      have em : (if nI y < nI (sp_n q) then nI (sp_n q) else nI y) = nI (max y (sp_n q)) := by
        by_cases g : y < sp_n q
        · rw [if_pos ((nI_ltI (by omega) (by omega)).mpr g), show max y (sp_n q) = sp_n q by omega]
        · rw [if_neg (fun g' => g ((nI_ltI (by omega) (by omega)).mp g')), show max y (sp_n q) = y by omega]
      refine cl_in ml_Fo_judge rfl rfl ?_
      refine wp_iload_n d_Fo_judge_0 rfl rfl ?_
      refine wp_invS d_Fo_judge_1 ow_Fo_judge lk_7_214 (by decide) mi_Fo_isSheet rfl rfl (Nat.le_of_ble_eq_true rfl) rfl (show h_Fo_isSheet ≤ _ from by decide) (c_isSheet _ ?_)
      refine wp_Ki ?_
      refine wp_ifB_ne (pc' := 13) d_Fo_judge_4 (by decide) (fun h4 => ?_) (fun h4 => absurd h h4)
      refine wp_aload_n d_Fo_judge_13 rfl rfl ?_
      refine wp_getR d_Fo_judge_14 ow_Fo_judge fl_7_50 (O_0 _) rfl ?_
      refine wp_iload_n d_Fo_judge_17 rfl rfl ?_
      refine wp_aaload d_Fo_judge_18 rfl (f_U (by omega)) (by decide) ?_
      refine wp_aston2 d_Fo_judge_19 rfl ?_
      refine wp_aload_n d_Fo_judge_20 rfl rfl ?_
      refine wp_getI d_Fo_judge_21 ow_Fo_judge fl_7_217 (O_U _ (by omega)) rfl (g1) ?_
      refine wp_if_ne (pc' := 33) d_Fo_judge_24 (by decide) (fun h24 => ?_) (fun h24 => absurd h24 hb)
      refine wp_aload_n d_Fo_judge_33 rfl rfl ?_
      refine wp_getI d_Fo_judge_34 ow_Fo_judge fl_7_251 (O_U _ (by omega)) rfl (g2.trans ez) ?_
      refine wp_aload_n d_Fo_judge_37 rfl rfl ?_
      refine wp_getR d_Fo_judge_38 ow_Fo_judge fl_7_10 (O_0 _) rfl ?_
      refine wp_getI d_Fo_judge_41 ow_Fo_judge fl_7_74 (O_1 _) rfl (C.n.trans hn.2) ?_
      refine wp_mmax d_Fo_judge_44 ow_Fo_judge lk_7_274 rfl (em) ?_
      refine wp_iston3 d_Fo_judge_47 rfl ?_
      refine wp_iconst (x := nI 0) d_Fo_judge_48 rfl ?_
      refine wp_isto4 d_Fo_judge_49 rfl ?_
      refine c_jd_loop C hw (by omega) sh hy ez _ (fun g S' f => ?_) (fun g S' f => ?_) (min y (sp_n q)) 0 S _ (Nat.zero_add _) rfl C fr.rf
      · rw [sp_if_t g] at K
        exact cQ_ok K (CL_st C f) (fr_YL (fr_LS f))
      · rw [sp_if_f g] at K
        exact cQ_ok K (CL_st C f) (fr_YL (fr_LS f))
  · rw [sp_if_f h] at K
    refine cl_in ml_Fo_judge rfl rfl ?_
    refine wp_iload_n d_Fo_judge_0 rfl rfl ?_
    refine wp_invS d_Fo_judge_1 ow_Fo_judge lk_7_214 (by decide) mi_Fo_isSheet rfl rfl (Nat.le_of_ble_eq_true rfl) rfl (show h_Fo_isSheet ≤ _ from by decide) (c_isSheet _ ?_)
    refine wp_Ki ?_
    refine wp_ifB_ne (pc' := 13) d_Fo_judge_4 (by decide) (fun h4 => absurd h4 h) (fun h4 => ?_)
    refine wp_aload_n d_Fo_judge_7 rfl rfl ?_
    refine wp_iconst (x := nI 1) d_Fo_judge_8 rfl ?_
    refine wp_invV d_Fo_judge_9 ow_Fo_judge lk_7_70 (by decide) mi_Fo_error rfl rfl (Nat.le_of_ble_eq_true rfl) rfl (wp_isC (O_0 _)) (show h_Fo_error ≤ _ from by decide) (c_error 1 (by decide) (by decide) ?_)
    refine wp_Ki ?_
    refine wp_reti d_Fo_judge_12 rt_Fo_judge ?_
    exact cQ_er (e := 1) K (by decide) C fr.rf
theorem c_ac_loop {s y N : Nat} (hN : N ≤ 10) (hs : s < 4) (hy : y ≤ 40) (sh : cSh S b z t) (r : Nat × sp_R) (K : ∀ S', CL S' r.2 → fr cLd S S' → Q (some (.int (nI r.1))) S') : ∀ f k (p : sp_R) (S' : wp_S), k + f = min y N → sp_ac t s f k p = r → CL S' p → fr cLd S S' → wp (h_Fo_acres - 1) y_Fo_acres 51 [some (.ref 0), some (.int (nI s)), some (.ref (82 + 2 * s)), some (.int (nI (min y N))), some (.int (nI k))] [] S' Q := by
  have num : ∀ {S' : wp_S} {k : Nat}, k < 40 → fr cLd S S' → S'.2 (83 + 2 * s) k = t (40 * s + k) := fun hk f => (f.2 _ _ (fun g => by unfold cLd at g; omega)).trans ((sh s hs).2.2 _ hk)
  intro f
  induction f with
  | zero =>
    intro k p S' hk e C' fS
    rw [sp_ac_0] at e
    subst e
    obtain rfl : k = min y N := by omega
    refine wp_iload d_Fo_acres_51 rfl ?_
    refine wp_iload_n d_Fo_acres_53 rfl rfl ?_
    refine wp_icN_ge (pc' := 99) d_Fo_acres_54 (by decide) (by omega) (by omega) (fun h54 => ?_) (fun h54 => absurd h54 (by omega))
    refine wp_iload d_Fo_acres_99 rfl ?_
    refine wp_reti d_Fo_acres_101 rt_Fo_acres ?_
    exact K S' C' fS
  | succ f ih =>
    intro k p S' hk e C' fS
    rw [sp_ac_s] at e
    have C2 := C'.wf (i := k) (by omega) (w := 2) (by decide) (t (40 * s + k))
    refine wp_iload d_Fo_acres_51 rfl ?_
    refine wp_iload_n d_Fo_acres_53 rfl rfl ?_
    refine wp_icN_ge (pc' := 99) d_Fo_acres_54 (by decide) (by omega) (by omega) (fun h54 => absurd h54 (by omega)) (fun h54 => ?_)
    refine wp_aload_n d_Fo_acres_57 rfl rfl ?_
    refine wp_getR d_Fo_acres_58 ow_Fo_acres fl_7_254 (O_U _ (by omega)) rfl ?_
    refine wp_iload d_Fo_acres_61 rfl ?_
    refine wp_iaload d_Fo_acres_63 (A_V _ (by omega)) (by omega) (by decide) (num (show k < 40 by omega) fS) ?_
    refine wp_iconst (x := nI 1) d_Fo_acres_64 rfl ?_
    refine wp_bipush (x := nI 99) d_Fo_acres_65 (by decide) ?_
    refine wp_invS d_Fo_acres_67 ow_Fo_acres lk_7_66 (by decide) mi_Fo_isWithin rfl rfl (Nat.le_of_ble_eq_true rfl) rfl (show h_Fo_isWithin ≤ _ from by decide) (c_isWithin _ _ _ ?_)
    refine wp_Ki ?_
    refine wp_ifB_eq (pc' := 99) d_Fo_acres_70 (by decide) (fun h70 => ?_) (fun h70 => ?_)
    · refine wp_iload d_Fo_acres_99 rfl ?_
      refine wp_reti d_Fo_acres_101 rt_Fo_acres ?_
      rw [sp_if_f h70] at e
      subst e
      exact K S' C' fS
    · refine wp_aload_n d_Fo_acres_73 rfl rfl ?_
      refine wp_getR d_Fo_acres_74 ow_Fo_acres fl_7_10 (O_0 _) rfl ?_
      refine wp_getR d_Fo_acres_77 ow_Fo_acres fl_7_77 (O_1 _) rfl ?_
      refine wp_iload d_Fo_acres_80 rfl ?_
      refine wp_aaload d_Fo_acres_82 rfl (f_F (by omega)) (by decide) ?_
      refine wp_aload_n d_Fo_acres_83 rfl rfl ?_
      refine wp_getR d_Fo_acres_84 ow_Fo_acres fl_7_254 (O_U _ (by omega)) rfl ?_
      refine wp_iload d_Fo_acres_87 rfl ?_
      refine wp_iaload d_Fo_acres_89 (A_V _ (by omega)) (by omega) (by decide) (num (show k < 40 by omega) fS) ?_
      refine wp_put (ty := .int) d_Fo_acres_90 ow_Fo_acres fl_7_99 (by decide +kernel) (by decide +kernel) (O_F _ (by omega)) rfl ⟨rfl, rfl⟩ ?_
      refine wp_iinc4 d_Fo_acres_93 rfl (nI_add _ 1) ?_
      refine wp_goto (pc' := 51) d_Fo_acres_96 (by decide) ?_
      rw [sp_if_t h70] at e
      exact ih (k + 1) _ _ (by omega) e C2 (fS.up (by unfold cLd; omega))
theorem c_acres (C : CL S q) (hw : sp_wf q) (sh : cSh S b z t) (hz : ∀ s, s < 4 → ∃ y, y ≤ 40 ∧ z s = nI y) (v : Int32) (K : cQ S (op_acres q b z t v) Q) : cl h_Fo_acres y_Fo_acres [.ref 0, .int v] S Q := by
  have hn := hw.n
  unfold op_acres at K
  by_cases h : sp_isW v 3
  · rw [sp_if_t h] at K
    obtain ⟨s, hs, rfl⟩ := (i_in (by decide)).mp h
    rw [nI_clamp (by omega)] at K
    obtain ⟨y, hy, ez⟩ := hz s (by omega)
    obtain ⟨g1, g2, g3⟩ := sh s (by omega)
    by_cases hb : b s = 0
    · rw [sp_if_t hb] at K
      refine cl_in ml_Fo_acres rfl rfl ?_
      refine wp_iload_n d_Fo_acres_0 rfl rfl ?_
      refine wp_invS d_Fo_acres_1 ow_Fo_acres lk_7_214 (by decide) mi_Fo_isSheet rfl rfl (Nat.le_of_ble_eq_true rfl) rfl (show h_Fo_isSheet ≤ _ from by decide) (c_isSheet _ ?_)
      refine wp_Ki ?_
      refine wp_ifB_ne (pc' := 13) d_Fo_acres_4 (by decide) (fun h4 => ?_) (fun h4 => absurd h h4)
      refine wp_aload_n d_Fo_acres_13 rfl rfl ?_
      refine wp_getR d_Fo_acres_14 ow_Fo_acres fl_7_50 (O_0 _) rfl ?_
      refine wp_iload_n d_Fo_acres_17 rfl rfl ?_
      refine wp_aaload d_Fo_acres_18 rfl (f_U (by omega)) (by decide) ?_
      refine wp_aston2 d_Fo_acres_19 rfl ?_
      refine wp_aload_n d_Fo_acres_20 rfl rfl ?_
      refine wp_getI d_Fo_acres_21 ow_Fo_acres fl_7_217 (O_U _ (by omega)) rfl (g1) ?_
      refine wp_if_ne (pc' := 33) d_Fo_acres_24 (by decide) (fun h24 => absurd hb h24) (fun h24 => ?_)
      refine wp_aload_n d_Fo_acres_27 rfl rfl ?_
      refine wp_iconst (x := nI 2) d_Fo_acres_28 rfl ?_
      refine wp_invV d_Fo_acres_29 ow_Fo_acres lk_7_70 (by decide) mi_Fo_error rfl rfl (Nat.le_of_ble_eq_true rfl) rfl (wp_isC (O_0 _)) (show h_Fo_error ≤ _ from by decide) (c_error 2 (by decide) (by decide) ?_)
      refine wp_Ki ?_
      refine wp_reti d_Fo_acres_32 rt_Fo_acres ?_
      exact cQ_er (e := 2) K (by decide) C fr.rf
    · rw [sp_if_f hb, ez, nI_clamp (by omega)] at K
      have em : (if nI (sp_n q) < nI y then nI (sp_n q) else nI y) = nI (min y (sp_n q)) := by
        by_cases g : sp_n q < y
        · rw [if_pos ((nI_ltI (by omega) (by omega)).mpr g), show min y (sp_n q) = sp_n q by omega]
        · rw [if_neg (fun g' => g ((nI_ltI (by omega) (by omega)).mp g')), show min y (sp_n q) = y by omega]
      refine cl_in ml_Fo_acres rfl rfl ?_
      refine wp_iload_n d_Fo_acres_0 rfl rfl ?_
      refine wp_invS d_Fo_acres_1 ow_Fo_acres lk_7_214 (by decide) mi_Fo_isSheet rfl rfl (Nat.le_of_ble_eq_true rfl) rfl (show h_Fo_isSheet ≤ _ from by decide) (c_isSheet _ ?_)
      refine wp_Ki ?_
      refine wp_ifB_ne (pc' := 13) d_Fo_acres_4 (by decide) (fun h4 => ?_) (fun h4 => absurd h h4)
      refine wp_aload_n d_Fo_acres_13 rfl rfl ?_
      refine wp_getR d_Fo_acres_14 ow_Fo_acres fl_7_50 (O_0 _) rfl ?_
      refine wp_iload_n d_Fo_acres_17 rfl rfl ?_
      refine wp_aaload d_Fo_acres_18 rfl (f_U (by omega)) (by decide) ?_
      refine wp_aston2 d_Fo_acres_19 rfl ?_
      refine wp_aload_n d_Fo_acres_20 rfl rfl ?_
      refine wp_getI d_Fo_acres_21 ow_Fo_acres fl_7_217 (O_U _ (by omega)) rfl (g1) ?_
      refine wp_if_ne (pc' := 33) d_Fo_acres_24 (by decide) (fun h24 => ?_) (fun h24 => absurd h24 hb)
      refine wp_aload_n d_Fo_acres_33 rfl rfl ?_
      refine wp_getI d_Fo_acres_34 ow_Fo_acres fl_7_251 (O_U _ (by omega)) rfl (g2.trans ez) ?_
      refine wp_aload_n d_Fo_acres_37 rfl rfl ?_
      refine wp_getR d_Fo_acres_38 ow_Fo_acres fl_7_10 (O_0 _) rfl ?_
      refine wp_getI d_Fo_acres_41 ow_Fo_acres fl_7_74 (O_1 _) rfl (C.n.trans hn.2) ?_
      refine wp_mmin d_Fo_acres_44 ow_Fo_acres lk_7_269 rfl (em) ?_
      refine wp_iston3 d_Fo_acres_47 rfl ?_
      refine wp_iconst (x := nI 0) d_Fo_acres_48 rfl ?_
      refine wp_isto4 d_Fo_acres_49 rfl ?_
      exact c_ac_loop (S := S) hn.1 (by omega) hy sh _ (fun S' C' f => cQ_ok K C' (fr_YL f)) (min y (sp_n q)) 0 q S (Nat.zero_add _) rfl C fr.rf
  · rw [sp_if_f h] at K
    refine cl_in ml_Fo_acres rfl rfl ?_
    refine wp_iload_n d_Fo_acres_0 rfl rfl ?_
    refine wp_invS d_Fo_acres_1 ow_Fo_acres lk_7_214 (by decide) mi_Fo_isSheet rfl rfl (Nat.le_of_ble_eq_true rfl) rfl (show h_Fo_isSheet ≤ _ from by decide) (c_isSheet _ ?_)
    refine wp_Ki ?_
    refine wp_ifB_ne (pc' := 13) d_Fo_acres_4 (by decide) (fun h4 => absurd h4 h) (fun h4 => ?_)
    refine wp_aload_n d_Fo_acres_7 rfl rfl ?_
    refine wp_iconst (x := nI 1) d_Fo_acres_8 rfl ?_
    refine wp_invV d_Fo_acres_9 ow_Fo_acres lk_7_70 (by decide) mi_Fo_error rfl rfl (Nat.le_of_ble_eq_true rfl) rfl (wp_isC (O_0 _)) (show h_Fo_error ≤ _ from by decide) (c_error 1 (by decide) (by decide) ?_)
    refine wp_Ki ?_
    refine wp_reti d_Fo_acres_12 rt_Fo_acres ?_
    exact cQ_er (e := 1) K (by decide) C fr.rf
end CV
