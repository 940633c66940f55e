/-! the reference: put -/
section OI
variable {S : wp_S} {q : sp_R} {mu : Int32} {Q : Option Value → wp_S → Prop}
theorem m_put (C : mC S q (-1)) (hz : ∀ s, s < 4 → ∃ z, z ≤ 40 ∧ S.2 101 s = nI z) (v w x : Int32) (K1 : ¬ sp_isW v 3 → mQ S (sp_bad q 1) Q) (K2 : ∀ s, s < 4 → v = nI s → S.2 100 s = 0 → mQ S (sp_bad q 2) Q) (K3 : ∀ s, s < 4 → v = nI s → S.2 100 s ≠ 0 → ¬ (0 ≤ w ∧ w ≤ S.2 101 s - nI 1) → mQ S (sp_bad q 1) Q) (K4 : ∀ s z i, s < 4 → v = nI s → S.2 100 s ≠ 0 → S.2 101 s = nI z → z ≤ 40 → w = nI i → i < z → Q (some (.int (nI 1))) (wp_u S 102 (40 * s + i) (sp_na (S.2 100 s) x))) : cl h_Mo_put y_Mo_put [.ref k_Mo, .int v, .int w, .int x] S Q := by
  by_cases h : sp_isW v 3
  · obtain ⟨s, hs, rfl⟩ := (i_in (by decide)).mp h
    obtain ⟨z, hz1, hz2⟩ := hz s (by omega)
    by_cases hb : S.2 100 s = 0
    · refine cl_in ml_Mo_put rfl rfl ?_
      refine wp_iload_n d_Mo_put_0 rfl rfl ?_
      refine wp_invS d_Mo_put_1 ow_Mo_put lk_8_214 (by decide) mi_Mo_isSheet rfl rfl (Nat.le_of_ble_eq_true rfl) rfl (show h_Mo_isSheet ≤ _ from by decide) (m_isSheet _ ?_)
      refine wp_Ki ?_
      refine wp_ifB_ne (pc' := 14) d_Mo_put_4 (by decide) (fun h4 => ?_) (fun h4 => absurd h h4)
      refine wp_aload_n d_Mo_put_14 rfl rfl ?_
      refine wp_getR d_Mo_put_15 ow_Mo_put fl_8_38 (O_91 _) rfl ?_
      refine wp_iload_n d_Mo_put_18 rfl rfl ?_
      refine wp_iaload d_Mo_put_19 (A_100 _) (by omega) (by decide) (rfl) ?_
      refine wp_if_ne (pc' := 30) d_Mo_put_20 (by decide) (fun h20 => absurd hb h20) (fun h20 => ?_)
      refine wp_aload_n d_Mo_put_23 rfl rfl ?_
      refine wp_ldc (v := .int (-1000000002)) d_Mo_put_24 ow_Mo_put (by decide +kernel) ?_
      refine wp_invV d_Mo_put_26 ow_Mo_put lk_8_59 (by decide) mi_Mo_errs rfl rfl (Nat.le_of_ble_eq_true rfl) rfl (wp_isC (O_91 _)) (show h_Mo_errs ≤ _ from by decide) (m_errs _ 2 (by decide) (by decide) ?_)
      refine wp_Ki ?_
      refine wp_reti d_Mo_put_29 rt_Mo_put ?_
      exact lf_i (by decide) (mQ_er (e := 2) (K2 s (by omega) rfl hb) (by decide) C fr.rf)
    · by_cases hi : 0 ≤ w ∧ w ≤ nI z - nI 1
      · obtain ⟨i, hi1, rfl⟩ := (i_fld (by omega)).mp hi
        refine cl_in ml_Mo_put rfl rfl ?_
        refine wp_iload_n d_Mo_put_0 rfl rfl ?_
        refine wp_invS d_Mo_put_1 ow_Mo_put lk_8_214 (by decide) mi_Mo_isSheet rfl rfl (Nat.le_of_ble_eq_true rfl) rfl (show h_Mo_isSheet ≤ _ from by decide) (m_isSheet _ ?_)
        refine wp_Ki ?_
        refine wp_ifB_ne (pc' := 14) d_Mo_put_4 (by decide) (fun h4 => ?_) (fun h4 => absurd h h4)
        refine wp_aload_n d_Mo_put_14 rfl rfl ?_
        refine wp_getR d_Mo_put_15 ow_Mo_put fl_8_38 (O_91 _) rfl ?_
        refine wp_iload_n d_Mo_put_18 rfl rfl ?_
        refine wp_iaload d_Mo_put_19 (A_100 _) (by omega) (by decide) (rfl) ?_
        refine wp_if_ne (pc' := 30) d_Mo_put_20 (by decide) (fun h20 => ?_) (fun h20 => absurd h20 hb)
        refine wp_iload_n d_Mo_put_30 rfl rfl ?_
        refine wp_iconst (x := nI 0) d_Mo_put_31 rfl ?_
        refine wp_aload_n d_Mo_put_32 rfl rfl ?_
        refine wp_getR d_Mo_put_33 ow_Mo_put fl_8_41 (O_91 _) rfl ?_
        refine wp_iload_n d_Mo_put_36 rfl rfl ?_
        refine wp_iaload d_Mo_put_37 (A_101 _) (by omega) (by decide) (hz2) ?_
        refine wp_iconst (x := nI 1) d_Mo_put_38 rfl ?_
        refine wp_isub d_Mo_put_39 rfl ?_
        refine wp_invS d_Mo_put_40 ow_Mo_put lk_8_54 (by decide) mi_Mo_in rfl rfl (Nat.le_of_ble_eq_true rfl) rfl (show h_Mo_in ≤ _ from by decide) (m_in _ _ _ ?_)
        refine wp_Ki ?_
        refine wp_ifB_ne (pc' := 53) d_Mo_put_43 (by decide) (fun h43 => ?_) (fun h43 => absurd hi h43)
        refine wp_aload_n d_Mo_put_53 rfl rfl ?_
        refine wp_getR d_Mo_put_54 ow_Mo_put fl_8_44 (O_91 _) rfl ?_
        refine wp_bipush (x := nI 40) d_Mo_put_57 (by decide) ?_
        refine wp_iload_n d_Mo_put_59 rfl rfl ?_
        refine wp_imul d_Mo_put_60 (pk_mul _ _) ?_
        refine wp_iload_n d_Mo_put_61 rfl rfl ?_
        refine wp_iadd d_Mo_put_62 (nI_add _ _) ?_
        refine wp_aload_n d_Mo_put_63 rfl rfl ?_
        refine wp_getR d_Mo_put_64 ow_Mo_put fl_8_38 (O_91 _) rfl ?_
        refine wp_iload_n d_Mo_put_67 rfl rfl ?_
        refine wp_iaload d_Mo_put_68 (A_100 _) (by omega) (by decide) (rfl) ?_
        refine wp_iload_n d_Mo_put_69 rfl rfl ?_
        refine wp_invS d_Mo_put_70 ow_Mo_put lk_8_251 (by decide) mi_Mo_narrow rfl rfl (Nat.le_of_ble_eq_true rfl) rfl (show h_Mo_narrow ≤ _ from by decide) (m_narrow _ _ ?_)
        refine wp_Ki ?_
        refine wp_iastore d_Mo_put_73 (A_102 _) (by omega) (by decide) ?_
        refine wp_iconst (x := nI 1) d_Mo_put_74 rfl ?_
        refine wp_reti d_Mo_put_75 rt_Mo_put ?_
        exact K4 s z i (by omega) rfl hb hz2 hz1 rfl hi1
      · refine cl_in ml_Mo_put rfl rfl ?_
        refine wp_iload_n d_Mo_put_0 rfl rfl ?_
        refine wp_invS d_Mo_put_1 ow_Mo_put lk_8_214 (by decide) mi_Mo_isSheet rfl rfl (Nat.le_of_ble_eq_true rfl) rfl (show h_Mo_isSheet ≤ _ from by decide) (m_isSheet _ ?_)
        refine wp_Ki ?_
        refine wp_ifB_ne (pc' := 14) d_Mo_put_4 (by decide) (fun h4 => ?_) (fun h4 => absurd h h4)
        refine wp_aload_n d_Mo_put_14 rfl rfl ?_
        refine wp_getR d_Mo_put_15 ow_Mo_put fl_8_38 (O_91 _) rfl ?_
        refine wp_iload_n d_Mo_put_18 rfl rfl ?_
        refine wp_iaload d_Mo_put_19 (A_100 _) (by omega) (by decide) (rfl) ?_
        refine wp_if_ne (pc' := 30) d_Mo_put_20 (by decide) (fun h20 => ?_) (fun h20 => absurd h20 hb)
        refine wp_iload_n d_Mo_put_30 rfl rfl ?_
        refine wp_iconst (x := nI 0) d_Mo_put_31 rfl ?_
        refine wp_aload_n d_Mo_put_32 rfl rfl ?_
        refine wp_getR d_Mo_put_33 ow_Mo_put fl_8_41 (O_91 _) rfl ?_
        refine wp_iload_n d_Mo_put_36 rfl rfl ?_
        refine wp_iaload d_Mo_put_37 (A_101 _) (by omega) (by decide) (hz2) ?_
        refine wp_iconst (x := nI 1) d_Mo_put_38 rfl ?_
        refine wp_isub d_Mo_put_39 rfl ?_
        refine wp_invS d_Mo_put_40 ow_Mo_put lk_8_54 (by decide) mi_Mo_in rfl rfl (Nat.le_of_ble_eq_true rfl) rfl (show h_Mo_in ≤ _ from by decide) (m_in _ _ _ ?_)
        refine wp_Ki ?_
        refine wp_ifB_ne (pc' := 53) d_Mo_put_43 (by decide) (fun h43 => absurd h43 hi) (fun h43 => ?_)
        refine wp_aload_n d_Mo_put_46 rfl rfl ?_
        refine wp_ldc (v := .int (-1000000001)) d_Mo_put_47 ow_Mo_put (by decide +kernel) ?_
        refine wp_invV d_Mo_put_49 ow_Mo_put lk_8_59 (by decide) mi_Mo_errs rfl rfl (Nat.le_of_ble_eq_true rfl) rfl (wp_isC (O_91 _)) (show h_Mo_errs ≤ _ from by decide) (m_errs _ 1 (by decide) (by decide) ?_)
        refine wp_Ki ?_
        refine wp_reti d_Mo_put_52 rt_Mo_put ?_
        exact lf_i (by decide) (mQ_er (e := 1) (K3 s (by omega) rfl hb (by rw [hz2]; exact hi)) (by decide) C fr.rf)
  · refine cl_in ml_Mo_put rfl rfl ?_
    refine wp_iload_n d_Mo_put_0 rfl rfl ?_
    refine wp_invS d_Mo_put_1 ow_Mo_put lk_8_214 (by decide) mi_Mo_isSheet rfl rfl (Nat.le_of_ble_eq_true rfl) rfl (show h_Mo_isSheet ≤ _ from by decide) (m_isSheet _ ?_)
    refine wp_Ki ?_
    refine wp_ifB_ne (pc' := 14) d_Mo_put_4 (by decide) (fun h4 => absurd h4 h) (fun h4 => ?_)
    refine wp_aload_n d_Mo_put_7 rfl rfl ?_
    refine wp_ldc (v := .int (-1000000001)) d_Mo_put_8 ow_Mo_put (by decide +kernel) ?_
    refine wp_invV d_Mo_put_10 ow_Mo_put lk_8_59 (by decide) mi_Mo_errs rfl rfl (Nat.le_of_ble_eq_true rfl) rfl (wp_isC (O_91 _)) (show h_Mo_errs ≤ _ from by decide) (m_errs _ 1 (by decide) (by decide) ?_)
    refine wp_Ki ?_
    refine wp_reti d_Mo_put_13 rt_Mo_put ?_
    exact lf_i (by decide) (mQ_er (e := 1) (K1 h) (by decide) C fr.rf)
end OI
