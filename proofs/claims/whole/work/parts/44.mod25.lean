/-! the reference: judge -/
section OH
variable {S : wp_S} {q : sp_R} {mu : Int32} {Q : Option Value → wp_S → Prop}
theorem m_judge (C : mC S q (-1)) (hw : sp_wf q) (hz : ∀ s, s < 4 → ∃ z, z ≤ 40 ∧ S.2 101 s = nI z) (v : Int32) (K : mQ S (op_judge q (S.2 100) (S.2 101) (S.2 102) v) Q) : cl h_Mo_judge y_Mo_judge [.ref k_Mo, .int v] S Q := by
  have hn := hw.n
  unfold op_judge at K
  by_cases h : sp_isW v 3
  · rw [sp_if_t h] at K
    obtain ⟨s, hs, rfl⟩ := (i_in (by decide)).mp h
    rw [nI_clamp (by omega)] at K
    obtain ⟨z, hz1, hz2⟩ := hz s (by omega)
    rw [hz2, nI_clamp (by omega)] at K
    by_cases hb : S.2 100 s = 0
    · rw [sp_if_t hb] at K
      refine cl_in ml_Mo_judge rfl rfl ?_
      refine wp_iload_n d_Mo_judge_0 rfl rfl ?_
      refine wp_invS d_Mo_judge_1 ow_Mo_judge lk_8_214 (by decide) mi_Mo_isSheet rfl rfl (Nat.le_of_ble_eq_true rfl) rfl (show h_Mo_isSheet ≤ _ from by decide) (m_isSheet _ ?_)
      refine wp_Ki ?_
      refine wp_ifB_ne (pc' := 14) d_Mo_judge_4 (by decide) (fun h4 => ?_) (fun h4 => absurd h h4)
      refine wp_aload_n d_Mo_judge_14 rfl rfl ?_
      refine wp_getR d_Mo_judge_15 ow_Mo_judge fl_8_38 (O_91 _) rfl ?_
      refine wp_iload_n d_Mo_judge_18 rfl rfl ?_
      refine wp_iaload d_Mo_judge_19 (A_100 _) (by omega) (by decide) (rfl) ?_
      refine wp_if_ne (pc' := 30) d_Mo_judge_20 (by decide) (fun h20 => absurd hb h20) (fun h20 => ?_)
      refine wp_aload_n d_Mo_judge_23 rfl rfl ?_
      refine wp_ldc (v := .int (-1000000002)) d_Mo_judge_24 ow_Mo_judge (by decide +kernel) ?_
      refine wp_invV d_Mo_judge_26 ow_Mo_judge lk_8_59 (by decide) mi_Mo_errs rfl rfl (Nat.le_of_ble_eq_true rfl) rfl (wp_isC (O_91 _)) (show h_Mo_errs ≤ _ from by decide) (m_errs _ 2 (by decide) (by decide) ?_)
      refine wp_Ki ?_
      refine wp_reti d_Mo_judge_29 rt_Mo_judge ?_
      exact lf_i (by decide) (mQ_er (e := 2) K (by decide) C fr.rf)
    · rw [sp_if_f hb] at K
      have hle := sp_jd_le q (S.2 102) s (min z (sp_n q)) 0
      refine cl_in ml_Mo_judge rfl rfl ?_
      refine wp_iload_n d_Mo_judge_0 rfl rfl ?_
      refine wp_invS d_Mo_judge_1 ow_Mo_judge lk_8_214 (by decide) mi_Mo_isSheet rfl rfl (Nat.le_of_ble_eq_true rfl) rfl (show h_Mo_isSheet ≤ _ from by decide) (m_isSheet _ ?_)
      refine wp_Ki ?_
      refine wp_ifB_ne (pc' := 14) d_Mo_judge_4 (by decide) (fun h4 => ?_) (fun h4 => absurd h h4)
      refine wp_aload_n d_Mo_judge_14 rfl rfl ?_
      refine wp_getR d_Mo_judge_15 ow_Mo_judge fl_8_38 (O_91 _) rfl ?_
      refine wp_iload_n d_Mo_judge_18 rfl rfl ?_
      refine wp_iaload d_Mo_judge_19 (A_100 _) (by omega) (by decide) (rfl) ?_
      refine wp_if_ne (pc' := 30) d_Mo_judge_20 (by decide) (fun h20 => ?_) (fun h20 => absurd h20 hb)
      refine wp_iconst (x := nI 0) d_Mo_judge_30 rfl ?_
      refine wp_iston2 d_Mo_judge_31 rfl ?_
      refine m_jd_loop (S := S) hw s z (by omega) hz1 _ (fun S2 C2 f2 => ?_) (min z (sp_n q)) 0 S (Nat.zero_add _) rfl C hz2 rfl fr.rf
      have e2 : S2.2 101 s = nI z := (f2.2 101 s (fun y => by unfold ps_D at y; omega)).trans hz2
      generalize sp_jd q (S.2 102) s (min z (sp_n q)) 0 = r at K hle
      refine wp_iload_n d_Mo_judge_77 rfl rfl ?_
      refine wp_aload_n d_Mo_judge_78 rfl rfl ?_
      refine wp_getR d_Mo_judge_79 ow_Mo_judge fl_8_41 (O_91 _) rfl ?_
      refine wp_iload_n d_Mo_judge_82 rfl rfl ?_
      refine wp_iaload d_Mo_judge_83 (A_101 _) (by omega) (by decide) (e2) ?_
      refine wp_icN_ne (pc' := 101) d_Mo_judge_84 (by decide) (by omega) (by omega) (fun h84 => ?_) (fun h84 => ?_)
      · refine wp_iload_n d_Mo_judge_101 rfl rfl ?_
        refine wp_reti d_Mo_judge_102 rt_Mo_judge ?_
        rw [sp_if_f (fun y => h84 y.1)] at K
        exact mQ_ok K C2 (fr_YD f2)
      · refine wp_iload_n d_Mo_judge_87 rfl rfl ?_
        refine wp_aload_n d_Mo_judge_88 rfl rfl ?_
        refine wp_getR d_Mo_judge_89 ow_Mo_judge fl_8_7 (O_91 _) rfl ?_
        refine wp_iconst (x := nI 0) d_Mo_judge_92 rfl ?_
        refine wp_iaload d_Mo_judge_93 (A_92 _) (by omega) (by decide) ((congrFun C2.1 0).trans hn.2) ?_
        refine wp_icN_ne (pc' := 101) d_Mo_judge_94 (by decide) (by omega) (by omega) (fun h94 => ?_) (fun h94 => ?_)
        · refine wp_iload_n d_Mo_judge_101 rfl rfl ?_
          refine wp_reti d_Mo_judge_102 rt_Mo_judge ?_
          rw [sp_if_f (fun y => h94 (y.1.trans y.2))] at K
          exact mQ_ok K C2 (fr_YD f2)
        · refine wp_iconst (x := -1) d_Mo_judge_97 rfl ?_
          refine wp_goto (pc' := 102) d_Mo_judge_98 (by decide) ?_
          refine wp_reti d_Mo_judge_102 rt_Mo_judge ?_
          rw [sp_if_t ⟨h84, h84.symm.trans h94⟩] at K
          exact mQ_ok K C2 (fr_YD f2)
  · rw [sp_if_f h] at K
    refine cl_in ml_Mo_judge rfl rfl ?_
    refine wp_iload_n d_Mo_judge_0 rfl rfl ?_
    refine wp_invS d_Mo_judge_1 ow_Mo_judge lk_8_214 (by decide) mi_Mo_isSheet rfl rfl (Nat.le_of_ble_eq_true rfl) rfl (show h_Mo_isSheet ≤ _ from by decide) (m_isSheet _ ?_)
    refine wp_Ki ?_
    refine wp_ifB_ne (pc' := 14) d_Mo_judge_4 (by decide) (fun h4 => absurd h4 h) (fun h4 => ?_)
    refine wp_aload_n d_Mo_judge_7 rfl rfl ?_
    refine wp_ldc (v := .int (-1000000001)) d_Mo_judge_8 ow_Mo_judge (by decide +kernel) ?_
    refine wp_invV d_Mo_judge_10 ow_Mo_judge lk_8_59 (by decide) mi_Mo_errs rfl rfl (Nat.le_of_ble_eq_true rfl) rfl (wp_isC (O_91 _)) (show h_Mo_errs ≤ _ from by decide) (m_errs _ 1 (by decide) (by decide) ?_)
    refine wp_Ki ?_
    refine wp_reti d_Mo_judge_13 rt_Mo_judge ?_
    exact lf_i (by decide) (mQ_er (e := 1) K (by decide) C fr.rf)
end OH
