/-! the reference: move -/
section OR
variable {S : wp_S} {q : sp_R} {mu : Int32} {Q : Option Value → wp_S → Prop}
theorem m_move (C : mC S q (-1)) (hz : ∀ s, s < 4 → ∃ z, z ≤ 40 ∧ S.2 101 s = nI z) (v i w j n : Int32) (K1 : ¬ (sp_isW v 3 ∧ sp_isW w 3) → mQ S (sp_bad q 1) Q) (K2 : ∀ s o, s < 4 → o < 4 → v = nI s → w = nI o → S.2 100 s = 0 ∨ S.2 100 o = 0 → mQ S (sp_bad q 2) Q) (K3 : ∀ s o, s < 4 → o < 4 → v = nI s → w = nI o → S.2 100 s ≠ 0 → S.2 100 o ≠ 0 → S.2 100 s ≠ S.2 100 o → mQ S (sp_bad q 5) Q) (K4 : ∀ s o, s < 4 → o < 4 → v = nI s → w = nI o → S.2 100 s ≠ 0 → S.2 100 o ≠ 0 → S.2 100 s = S.2 100 o → ¬ (0 ≤ n ∧ 0 ≤ i ∧ 0 ≤ j ∧ i ≤ S.2 101 s - n ∧ j ≤ S.2 101 o - n) → mQ S (sp_bad q 1) Q) (K5 : ∀ s o zs zo i' j' n', s < 4 → o < 4 → v = nI s → w = nI o → S.2 100 s ≠ 0 → S.2 100 o ≠ 0 → S.2 100 s = S.2 100 o → S.2 101 s = nI zs → S.2 101 o = nI zo → zs ≤ 40 → zo ≤ 40 → i = nI i' → j = nI j' → n = nI n' → i' + n' ≤ zs → j' + n' ≤ zo → Q (some (.int (nI n'))) (m2 (m1 S (40 * s + i') n') (40 * o + j') n')) : cl h_Mo_move y_Mo_move [.ref k_Mo, .int v, .int i, .int w, .int j, .int n] S Q := by
  by_cases h : sp_isW v 3 ∧ sp_isW w 3
  · obtain ⟨s, hs, rfl⟩ := (i_in (by decide)).mp h.1
    obtain ⟨o, ho, rfl⟩ := (i_in (by decide)).mp h.2
    obtain ⟨zs, hz1, hz2⟩ := hz s (by omega)
    obtain ⟨zo, hz3, hz4⟩ := hz o (by omega)
    have L68 : S.2 100 s ≠ 0 → S.2 100 o ≠ 0 → S.2 100 s = S.2 100 o → wp (h_Mo_move - 1) y_Mo_move 68 [some (.ref 91), some (.int (nI s)), some (.int i), some (.int (nI o)), some (.int j), some (.int n), none] [] S Q := by
      intro b1 b2 b3
      by_cases hk : 0 ≤ n ∧ 0 ≤ i ∧ 0 ≤ j ∧ i ≤ S.2 101 s - n ∧ j ≤ S.2 101 o - n
      · have hk' := hk
        obtain ⟨c1, c2, c3, c4, c5⟩ := hk
        obtain ⟨n', g1, rfl⟩ := nI_of (x := n) (Int32.not_lt.mpr c1)
        obtain ⟨i', g2, rfl⟩ := nI_of (x := i) (Int32.not_lt.mpr c2)
        obtain ⟨j', g3, rfl⟩ := nI_of (x := j) (Int32.not_lt.mpr c3)
        rw [hz2] at c4
        rw [hz4] at c5
        have f1 := (i_fit hz1 g1 g2).mp c4
        have f2 := (i_fit hz3 g1 g3).mp c5
        refine wp_iload d_Mo_move_68 rfl ?_
        refine wp_ifN_lt (pc' := 109) d_Mo_move_70 (by decide) (by omega) ?_
        refine wp_iload_n d_Mo_move_73 rfl rfl ?_
        refine wp_ifN_lt (pc' := 109) d_Mo_move_74 (by decide) (by omega) ?_
        refine wp_iload d_Mo_move_77 rfl ?_
        refine wp_ifN_lt (pc' := 109) d_Mo_move_79 (by decide) (by omega) ?_
        refine wp_iload_n d_Mo_move_82 rfl rfl ?_
        refine wp_aload_n d_Mo_move_83 rfl rfl ?_
        refine wp_getR d_Mo_move_84 ow_Mo_move fl_8_41 (O_91 _) rfl ?_
        refine wp_iload_n d_Mo_move_87 rfl rfl ?_
        refine wp_iaload d_Mo_move_88 (A_101 _) (by omega) (by decide) (hz2) ?_
        refine wp_iload d_Mo_move_89 rfl ?_
        refine wp_isub d_Mo_move_91 rfl ?_
        refine wp_ic_gt (pc' := 109) d_Mo_move_92 (by decide) (fun h92 => absurd c4 (Int32.not_le.mpr h92)) (fun h92 => ?_)
        refine wp_iload d_Mo_move_95 rfl ?_
        refine wp_aload_n d_Mo_move_97 rfl rfl ?_
        refine wp_getR d_Mo_move_98 ow_Mo_move fl_8_41 (O_91 _) rfl ?_
        refine wp_iload_n d_Mo_move_101 rfl rfl ?_
        refine wp_iaload d_Mo_move_102 (A_101 _) (by omega) (by decide) (hz4) ?_
        refine wp_iload d_Mo_move_103 rfl ?_
        refine wp_isub d_Mo_move_105 rfl ?_
        refine wp_ic_le (pc' := 116) d_Mo_move_106 (by decide) (fun h106 => ?_) (fun h106 => absurd c5 h106)
        exact m_mo s i' o j' n' (by omega) (by omega) (by omega) (by omega) _ (K5 s o zs zo i' j' n' (by omega) (by omega) rfl rfl b1 b2 b3 hz2 hz4 hz1 hz3 rfl rfl rfl f1 f2)
      · refine wp_iload d_Mo_move_68 rfl ?_
        refine wp_if_lt (pc' := 109) d_Mo_move_70 (by decide) (fun h70 => ?_) (fun h70 => ?_)
        · refine wp_aload_n d_Mo_move_109 rfl rfl ?_
          refine wp_ldc (v := .int (-1000000001)) d_Mo_move_110 ow_Mo_move (by decide +kernel) ?_
          refine wp_invV d_Mo_move_112 ow_Mo_move lk_8_59 (by decide) mi_Mo_errs rfl rfl (Nat.le_of_ble_eq_true rfl) rfl (wp_isC (O_91 _)) (show h_Mo_errs ≤ _ from by decide) (m_errs _ 1 (by decide) (by decide) ?_)
          refine wp_Ki ?_
          refine wp_reti d_Mo_move_115 rt_Mo_move ?_
          exact lf_i (by decide) (mQ_er (e := 1) (K4 s o (by omega) (by omega) rfl rfl b1 b2 b3 hk) (by decide) C fr.rf)
        · refine wp_iload_n d_Mo_move_73 rfl rfl ?_
          refine wp_if_lt (pc' := 109) d_Mo_move_74 (by decide) (fun h74 => ?_) (fun h74 => ?_)
          · refine wp_aload_n d_Mo_move_109 rfl rfl ?_
            refine wp_ldc (v := .int (-1000000001)) d_Mo_move_110 ow_Mo_move (by decide +kernel) ?_
            refine wp_invV d_Mo_move_112 ow_Mo_move lk_8_59 (by decide) mi_Mo_errs rfl rfl (Nat.le_of_ble_eq_true rfl) rfl (wp_isC (O_91 _)) (show h_Mo_errs ≤ _ from by decide) (m_errs _ 1 (by decide) (by decide) ?_)
            refine wp_Ki ?_
            refine wp_reti d_Mo_move_115 rt_Mo_move ?_
            exact lf_i (by decide) (mQ_er (e := 1) (K4 s o (by omega) (by omega) rfl rfl b1 b2 b3 hk) (by decide) C fr.rf)
          · refine wp_iload d_Mo_move_77 rfl ?_
            refine wp_if_lt (pc' := 109) d_Mo_move_79 (by decide) (fun h79 => ?_) (fun h79 => ?_)
            · refine wp_aload_n d_Mo_move_109 rfl rfl ?_
              refine wp_ldc (v := .int (-1000000001)) d_Mo_move_110 ow_Mo_move (by decide +kernel) ?_
              refine wp_invV d_Mo_move_112 ow_Mo_move lk_8_59 (by decide) mi_Mo_errs rfl rfl (Nat.le_of_ble_eq_true rfl) rfl (wp_isC (O_91 _)) (show h_Mo_errs ≤ _ from by decide) (m_errs _ 1 (by decide) (by decide) ?_)
              refine wp_Ki ?_
              refine wp_reti d_Mo_move_115 rt_Mo_move ?_
              exact lf_i (by decide) (mQ_er (e := 1) (K4 s o (by omega) (by omega) rfl rfl b1 b2 b3 hk) (by decide) C fr.rf)
            · refine wp_iload_n d_Mo_move_82 rfl rfl ?_
              refine wp_aload_n d_Mo_move_83 rfl rfl ?_
              refine wp_getR d_Mo_move_84 ow_Mo_move fl_8_41 (O_91 _) rfl ?_
              refine wp_iload_n d_Mo_move_87 rfl rfl ?_
              refine wp_iaload d_Mo_move_88 (A_101 _) (by omega) (by decide) (rfl) ?_
              refine wp_iload d_Mo_move_89 rfl ?_
              refine wp_isub d_Mo_move_91 rfl ?_
              refine wp_ic_gt (pc' := 109) d_Mo_move_92 (by decide) (fun h92 => ?_) (fun h92 => ?_)
              · refine wp_aload_n d_Mo_move_109 rfl rfl ?_
                refine wp_ldc (v := .int (-1000000001)) d_Mo_move_110 ow_Mo_move (by decide +kernel) ?_
                refine wp_invV d_Mo_move_112 ow_Mo_move lk_8_59 (by decide) mi_Mo_errs rfl rfl (Nat.le_of_ble_eq_true rfl) rfl (wp_isC (O_91 _)) (show h_Mo_errs ≤ _ from by decide) (m_errs _ 1 (by decide) (by decide) ?_)
                refine wp_Ki ?_
                refine wp_reti d_Mo_move_115 rt_Mo_move ?_
                exact lf_i (by decide) (mQ_er (e := 1) (K4 s o (by omega) (by omega) rfl rfl b1 b2 b3 hk) (by decide) C fr.rf)
              · refine wp_iload d_Mo_move_95 rfl ?_
                refine wp_aload_n d_Mo_move_97 rfl rfl ?_
                refine wp_getR d_Mo_move_98 ow_Mo_move fl_8_41 (O_91 _) rfl ?_
                refine wp_iload_n d_Mo_move_101 rfl rfl ?_
                refine wp_iaload d_Mo_move_102 (A_101 _) (by omega) (by decide) (rfl) ?_
                refine wp_iload d_Mo_move_103 rfl ?_
                refine wp_isub d_Mo_move_105 rfl ?_
                refine wp_ic_le (pc' := 116) d_Mo_move_106 (by decide) (fun h106 => ?_) (fun h106 => ?_)
                · exact absurd ⟨Int32.not_lt.mp h70, Int32.not_lt.mp h74, Int32.not_lt.mp h79, Int32.not_lt.mp h92, h106⟩ hk
                · refine wp_aload_n d_Mo_move_109 rfl rfl ?_
                  refine wp_ldc (v := .int (-1000000001)) d_Mo_move_110 ow_Mo_move (by decide +kernel) ?_
                  refine wp_invV d_Mo_move_112 ow_Mo_move lk_8_59 (by decide) mi_Mo_errs rfl rfl (Nat.le_of_ble_eq_true rfl) rfl (wp_isC (O_91 _)) (show h_Mo_errs ≤ _ from by decide) (m_errs _ 1 (by decide) (by decide) ?_)
                  refine wp_Ki ?_
                  refine wp_reti d_Mo_move_115 rt_Mo_move ?_
                  exact lf_i (by decide) (mQ_er (e := 1) (K4 s o (by omega) (by omega) rfl rfl b1 b2 b3 hk) (by decide) C fr.rf)
    refine cl_in ml_Mo_move rfl rfl ?_
    refine wp_iload_n d_Mo_move_0 rfl rfl ?_
    refine wp_invS d_Mo_move_1 ow_Mo_move lk_8_214 (by decide) mi_Mo_isSheet rfl rfl (Nat.le_of_ble_eq_true rfl) rfl (show h_Mo_isSheet ≤ _ from by decide) (m_isSheet _ ?_)
    refine wp_Ki ?_
    refine wp_ifB_eq (pc' := 14) d_Mo_move_4 (by decide) (fun h4 => absurd h.1 h4) (fun h4 => ?_)
    refine wp_iload_n d_Mo_move_7 rfl rfl ?_
    refine wp_invS d_Mo_move_8 ow_Mo_move lk_8_214 (by decide) mi_Mo_isSheet rfl rfl (Nat.le_of_ble_eq_true rfl) rfl (show h_Mo_isSheet ≤ _ from by decide) (m_isSheet _ ?_)
    refine wp_Ki ?_
    refine wp_ifB_ne (pc' := 21) d_Mo_move_11 (by decide) (fun h11 => ?_) (fun h11 => absurd h.2 h11)
    refine wp_aload_n d_Mo_move_21 rfl rfl ?_
    refine wp_getR d_Mo_move_22 ow_Mo_move fl_8_38 (O_91 _) rfl ?_
    refine wp_iload_n d_Mo_move_25 rfl rfl ?_
    refine wp_iaload d_Mo_move_26 (A_100 _) (by omega) (by decide) (rfl) ?_
    refine wp_if_eq (pc' := 39) d_Mo_move_27 (by decide) (fun h27 => ?_) (fun h27 => ?_)
    · refine wp_aload_n d_Mo_move_39 rfl rfl ?_
      refine wp_ldc (v := .int (-1000000002)) d_Mo_move_40 ow_Mo_move (by decide +kernel) ?_
      refine wp_invV d_Mo_move_42 ow_Mo_move lk_8_59 (by decide) mi_Mo_errs rfl rfl (Nat.le_of_ble_eq_true rfl) rfl (wp_isC (O_91 _)) (show h_Mo_errs ≤ _ from by decide) (m_errs _ 2 (by decide) (by decide) ?_)
      refine wp_Ki ?_
      refine wp_reti d_Mo_move_45 rt_Mo_move ?_
      first
      | exact lf_i (by decide) (mQ_er (e := 2) (K2 s o (by omega) (by omega) rfl rfl (Or.inl h27)) (by decide) C fr.rf)
      | exact lf_i (by decide) (mQ_er (e := 2) (K2 s o (by omega) (by omega) rfl rfl (Or.inr h36)) (by decide) C fr.rf)
    · refine wp_aload_n d_Mo_move_30 rfl rfl ?_
      refine wp_getR d_Mo_move_31 ow_Mo_move fl_8_38 (O_91 _) rfl ?_
      refine wp_iload_n d_Mo_move_34 rfl rfl ?_
      refine wp_iaload d_Mo_move_35 (A_100 _) (by omega) (by decide) (rfl) ?_
      refine wp_if_ne (pc' := 46) d_Mo_move_36 (by decide) (fun h36 => ?_) (fun h36 => ?_)
      · refine wp_aload_n d_Mo_move_46 rfl rfl ?_
        refine wp_getR d_Mo_move_47 ow_Mo_move fl_8_38 (O_91 _) rfl ?_
        refine wp_iload_n d_Mo_move_50 rfl rfl ?_
        refine wp_iaload d_Mo_move_51 (A_100 _) (by omega) (by decide) (rfl) ?_
        refine wp_aload_n d_Mo_move_52 rfl rfl ?_
        refine wp_getR d_Mo_move_53 ow_Mo_move fl_8_38 (O_91 _) rfl ?_
        refine wp_iload_n d_Mo_move_56 rfl rfl ?_
        refine wp_iaload d_Mo_move_57 (A_100 _) (by omega) (by decide) (rfl) ?_
        refine wp_ic_eq (pc' := 68) d_Mo_move_58 (by decide) (fun h58 => ?_) (fun h58 => ?_)
        · exact L68 h27 h36 h58
        · refine wp_aload_n d_Mo_move_61 rfl rfl ?_
          refine wp_ldc (v := .int (-1000000005)) d_Mo_move_62 ow_Mo_move (by decide +kernel) ?_
          refine wp_invV d_Mo_move_64 ow_Mo_move lk_8_59 (by decide) mi_Mo_errs rfl rfl (Nat.le_of_ble_eq_true rfl) rfl (wp_isC (O_91 _)) (show h_Mo_errs ≤ _ from by decide) (m_errs _ 5 (by decide) (by decide) ?_)
          refine wp_Ki ?_
          refine wp_reti d_Mo_move_67 rt_Mo_move ?_
          exact lf_i (by decide) (mQ_er (e := 5) (K3 s o (by omega) (by omega) rfl rfl h27 h36 h58) (by decide) C fr.rf)
      · refine wp_aload_n d_Mo_move_39 rfl rfl ?_
        refine wp_ldc (v := .int (-1000000002)) d_Mo_move_40 ow_Mo_move (by decide +kernel) ?_
        refine wp_invV d_Mo_move_42 ow_Mo_move lk_8_59 (by decide) mi_Mo_errs rfl rfl (Nat.le_of_ble_eq_true rfl) rfl (wp_isC (O_91 _)) (show h_Mo_errs ≤ _ from by decide) (m_errs _ 2 (by decide) (by decide) ?_)
        refine wp_Ki ?_
        refine wp_reti d_Mo_move_45 rt_Mo_move ?_
        first
        | exact lf_i (by decide) (mQ_er (e := 2) (K2 s o (by omega) (by omega) rfl rfl (Or.inl h27)) (by decide) C fr.rf)
        | exact lf_i (by decide) (mQ_er (e := 2) (K2 s o (by omega) (by omega) rfl rfl (Or.inr h36)) (by decide) C fr.rf)
  · refine cl_in ml_Mo_move rfl rfl ?_
    refine wp_iload_n d_Mo_move_0 rfl rfl ?_
    refine wp_invS d_Mo_move_1 ow_Mo_move lk_8_214 (by decide) mi_Mo_isSheet rfl rfl (Nat.le_of_ble_eq_true rfl) rfl (show h_Mo_isSheet ≤ _ from by decide) (m_isSheet _ ?_)
    refine wp_Ki ?_
    refine wp_ifB_eq (pc' := 14) d_Mo_move_4 (by decide) (fun h4 => ?_) (fun h4 => ?_)
    · refine wp_aload_n d_Mo_move_14 rfl rfl ?_
      refine wp_ldc (v := .int (-1000000001)) d_Mo_move_15 ow_Mo_move (by decide +kernel) ?_
      refine wp_invV d_Mo_move_17 ow_Mo_move lk_8_59 (by decide) mi_Mo_errs rfl rfl (Nat.le_of_ble_eq_true rfl) rfl (wp_isC (O_91 _)) (show h_Mo_errs ≤ _ from by decide) (m_errs _ 1 (by decide) (by decide) ?_)
      refine wp_Ki ?_
      refine wp_reti d_Mo_move_20 rt_Mo_move ?_
      exact lf_i (by decide) (mQ_er (e := 1) (K1 h) (by decide) C fr.rf)
    · refine wp_iload_n d_Mo_move_7 rfl rfl ?_
      refine wp_invS d_Mo_move_8 ow_Mo_move lk_8_214 (by decide) mi_Mo_isSheet rfl rfl (Nat.le_of_ble_eq_true rfl) rfl (show h_Mo_isSheet ≤ _ from by decide) (m_isSheet _ ?_)
      refine wp_Ki ?_
      refine wp_ifB_ne (pc' := 21) d_Mo_move_11 (by decide) (fun h11 => ?_) (fun h11 => ?_)
      · exact absurd ⟨h4, h11⟩ h
      · refine wp_aload_n d_Mo_move_14 rfl rfl ?_
        refine wp_ldc (v := .int (-1000000001)) d_Mo_move_15 ow_Mo_move (by decide +kernel) ?_
        refine wp_invV d_Mo_move_17 ow_Mo_move lk_8_59 (by decide) mi_Mo_errs rfl rfl (Nat.le_of_ble_eq_true rfl) rfl (wp_isC (O_91 _)) (show h_Mo_errs ≤ _ from by decide) (m_errs _ 1 (by decide) (by decide) ?_)
        refine wp_Ki ?_
        refine wp_reti d_Mo_move_20 rt_Mo_move ?_
        exact lf_i (by decide) (mQ_er (e := 1) (K1 h) (by decide) C fr.rf)
end OR
