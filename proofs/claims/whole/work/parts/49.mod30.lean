/-! the reference: a sheet begun -/
section OM
variable {S : wp_S} {q : sp_R} {mu : Int32} {Q : Option Value → wp_S → Prop}
abbrev sp_isB (b : Int32) : Prop := b = 0 ∨ b = nI 8 ∨ b = nI 16 ∨ b = nI 32
theorem m_sheet (C : mC S q (-1)) (v b n : Int32) (K1 : ¬ (sp_isW v 3 ∧ sp_isB b) → mQ S (sp_bad q 1) Q) (K2 : sp_isW v 3 ∧ sp_isB b → b ≠ 0 ∧ n < 0 → mQ S (sp_bad q 3) Q) (K3 : sp_isW v 3 ∧ sp_isB b → b ≠ 0 ∧ ¬ n < 0 ∧ nI 40 < n → mQ S (sp_bad q 1) Q) (K4 : ∀ s x, s < 4 → v = nI s → sp_isB b → (b = 0 ∧ x = nI 0) ∨ (b ≠ 0 ∧ ¬ n < 0 ∧ n ≤ nI 40 ∧ x = n) → Q (some (.int (nI 1))) (sh_cl (wp_u (wp_u S 100 s b) 101 s x) s 40)) : cl h_Mo_sheet y_Mo_sheet [.ref k_Mo, .int v, .int b, .int n] S Q := by
  have B0 : ¬ (sp_isW v 3 ∧ sp_isB b) ∨ ∃ s, s < 4 ∧ v = nI s ∧ sp_isB b := by
    by_cases h : sp_isW v 3 ∧ sp_isB b
    · obtain ⟨s, hs, e⟩ := (i_in (by decide)).mp h.1
      exact Or.inr ⟨s, by omega, e, h.2⟩
    · exact Or.inl h
  rcases B0 with h | ⟨s, hs, rfl, hB⟩
  · refine cl_in ml_Mo_sheet rfl rfl ?_
    refine wp_iload_n d_Mo_sheet_0 rfl rfl ?_
    refine wp_invS d_Mo_sheet_1 ow_Mo_sheet lk_8_214 (by decide) mi_Mo_isSheet rfl rfl (Nat.le_of_ble_eq_true rfl) rfl (show h_Mo_isSheet ≤ _ from by decide) (m_isSheet _ ?_)
    refine wp_Ki ?_
    refine wp_ifB_eq (pc' := 29) d_Mo_sheet_4 (by decide) (fun h4 => ?_) (fun h4 => ?_)
    · refine wp_aload_n d_Mo_sheet_29 rfl rfl ?_
      refine wp_ldc (v := .int (-1000000001)) d_Mo_sheet_30 ow_Mo_sheet (by decide +kernel) ?_
      refine wp_invV d_Mo_sheet_32 ow_Mo_sheet lk_8_59 (by decide) mi_Mo_errs rfl rfl (Nat.le_of_ble_eq_true rfl) rfl (wp_isC (O_91 _)) (show h_Mo_errs ≤ _ from by decide) (m_errs _ 1 (by decide) (by decide) ?_)
      refine wp_Ki ?_
      refine wp_reti d_Mo_sheet_35 rt_Mo_sheet ?_
      exact lf_i (by decide) (mQ_er (e := 1) (K1 h) (by decide) C fr.rf)
    · refine wp_iload_n d_Mo_sheet_7 rfl rfl ?_
      refine wp_if_eq (pc' := 36) d_Mo_sheet_8 (by decide) (fun h8 => ?_) (fun h8 => ?_)
      · refine h.elim ?_
        first
        | exact ⟨h4, Or.inl h8⟩
        | exact ⟨h4, Or.inr (Or.inl h14)⟩
        | exact ⟨h4, Or.inr (Or.inr (Or.inl h20))⟩
        | exact ⟨h4, Or.inr (Or.inr (Or.inr h26))⟩
      · refine wp_iload_n d_Mo_sheet_11 rfl rfl ?_
        refine wp_bipush (x := nI 8) d_Mo_sheet_12 (by decide) ?_
        refine wp_ic_eq (pc' := 36) d_Mo_sheet_14 (by decide) (fun h14 => ?_) (fun h14 => ?_)
        · refine h.elim ?_
          first
          | exact ⟨h4, Or.inl h8⟩
          | exact ⟨h4, Or.inr (Or.inl h14)⟩
          | exact ⟨h4, Or.inr (Or.inr (Or.inl h20))⟩
          | exact ⟨h4, Or.inr (Or.inr (Or.inr h26))⟩
        · refine wp_iload_n d_Mo_sheet_17 rfl rfl ?_
          refine wp_bipush (x := nI 16) d_Mo_sheet_18 (by decide) ?_
          refine wp_ic_eq (pc' := 36) d_Mo_sheet_20 (by decide) (fun h20 => ?_) (fun h20 => ?_)
          · refine h.elim ?_
            first
            | exact ⟨h4, Or.inl h8⟩
            | exact ⟨h4, Or.inr (Or.inl h14)⟩
            | exact ⟨h4, Or.inr (Or.inr (Or.inl h20))⟩
            | exact ⟨h4, Or.inr (Or.inr (Or.inr h26))⟩
          · refine wp_iload_n d_Mo_sheet_23 rfl rfl ?_
            refine wp_bipush (x := nI 32) d_Mo_sheet_24 (by decide) ?_
            refine wp_ic_eq (pc' := 36) d_Mo_sheet_26 (by decide) (fun h26 => ?_) (fun h26 => ?_)
            · refine h.elim ?_
              first
              | exact ⟨h4, Or.inl h8⟩
              | exact ⟨h4, Or.inr (Or.inl h14)⟩
              | exact ⟨h4, Or.inr (Or.inr (Or.inl h20))⟩
              | exact ⟨h4, Or.inr (Or.inr (Or.inr h26))⟩
            · refine wp_aload_n d_Mo_sheet_29 rfl rfl ?_
              refine wp_ldc (v := .int (-1000000001)) d_Mo_sheet_30 ow_Mo_sheet (by decide +kernel) ?_
              refine wp_invV d_Mo_sheet_32 ow_Mo_sheet lk_8_59 (by decide) mi_Mo_errs rfl rfl (Nat.le_of_ble_eq_true rfl) rfl (wp_isC (O_91 _)) (show h_Mo_errs ≤ _ from by decide) (m_errs _ 1 (by decide) (by decide) ?_)
              refine wp_Ki ?_
              refine wp_reti d_Mo_sheet_35 rt_Mo_sheet ?_
              exact lf_i (by decide) (mQ_er (e := 1) (K1 h) (by decide) C fr.rf)
  · have hW : sp_isW (nI s) 3 := (i_in (by decide)).mpr ⟨s, by omega, rfl⟩
    have R : ∀ x, ((b = 0 ∧ x = nI 0) ∨ (b ≠ 0 ∧ ¬ n < 0 ∧ n ≤ nI 40 ∧ x = n)) → wp (h_Mo_sheet - 1) y_Mo_sheet 89 [some (.ref 91), some (.int (nI s)), some (.int b), some (.int n), none] [.int x, .int (nI s), .ref 101] (wp_u S 100 s b) Q := by
      intro x hx
      refine wp_iastore d_Mo_sheet_89 (A_101 _) (by omega) (by decide) ?_
      refine wp_iconst (x := nI 0) d_Mo_sheet_90 rfl ?_
      refine wp_isto4 d_Mo_sheet_91 rfl ?_
      exact (sh_cl_0 (wp_u (wp_u S 100 s b) 101 s x) s) ▸ m_sh_loop (S := wp_u (wp_u S 100 s b) 101 s x) s hs b n (K4 s x hs rfl hB hx) 40 0 rfl
    have K36 : wp (h_Mo_sheet - 1) y_Mo_sheet 36 [some (.ref 91), some (.int (nI s)), some (.int b), some (.int n), none] [] S Q := by
      by_cases h0 : b = 0
      · refine wp_iload_n d_Mo_sheet_36 rfl rfl ?_
        refine wp_if_eq (pc' := 51) d_Mo_sheet_37 (by decide) (fun h37 => ?_) (fun h37 => absurd h0 h37)
        refine wp_iload_n d_Mo_sheet_51 rfl rfl ?_
        refine wp_if_eq (pc' := 68) d_Mo_sheet_52 (by decide) (fun h52 => ?_) (fun h52 => absurd h0 h52)
        refine wp_aload_n d_Mo_sheet_68 rfl rfl ?_
        refine wp_getR d_Mo_sheet_69 ow_Mo_sheet fl_8_38 (O_91 _) rfl ?_
        refine wp_iload_n d_Mo_sheet_72 rfl rfl ?_
        refine wp_iload_n d_Mo_sheet_73 rfl rfl ?_
        refine wp_iastore d_Mo_sheet_74 (A_100 _) (by omega) (by decide) ?_
        refine wp_aload_n d_Mo_sheet_75 rfl rfl ?_
        refine wp_getR d_Mo_sheet_76 ow_Mo_sheet fl_8_41 (O_91 _) rfl ?_
        refine wp_iload_n d_Mo_sheet_79 rfl rfl ?_
        refine wp_iload_n d_Mo_sheet_80 rfl rfl ?_
        refine wp_if_ne (pc' := 88) d_Mo_sheet_81 (by decide) (fun h81 => absurd h0 h81) (fun h81 => ?_)
        refine wp_iconst (x := nI 0) d_Mo_sheet_84 rfl ?_
        refine wp_goto (pc' := 89) d_Mo_sheet_85 (by decide) ?_
        exact R _ (Or.inl ⟨h0, rfl⟩)
      · refine wp_iload_n d_Mo_sheet_36 rfl rfl ?_
        refine wp_if_eq (pc' := 51) d_Mo_sheet_37 (by decide) (fun h37 => absurd h37 h0) (fun h37 => ?_)
        refine wp_iload_n d_Mo_sheet_40 rfl rfl ?_
        refine wp_if_ge (pc' := 51) d_Mo_sheet_41 (by decide) (fun h41 => ?_) (fun h41 => ?_)
        · refine wp_iload_n d_Mo_sheet_51 rfl rfl ?_
          refine wp_if_eq (pc' := 68) d_Mo_sheet_52 (by decide) (fun h52 => absurd h52 h0) (fun h52 => ?_)
          refine wp_iload_n d_Mo_sheet_55 rfl rfl ?_
          refine wp_bipush (x := nI 40) d_Mo_sheet_56 (by decide) ?_
          refine wp_ic_le (pc' := 68) d_Mo_sheet_58 (by decide) (fun h58 => ?_) (fun h58 => ?_)
          · refine wp_aload_n d_Mo_sheet_68 rfl rfl ?_
            refine wp_getR d_Mo_sheet_69 ow_Mo_sheet fl_8_38 (O_91 _) rfl ?_
            refine wp_iload_n d_Mo_sheet_72 rfl rfl ?_
            refine wp_iload_n d_Mo_sheet_73 rfl rfl ?_
            refine wp_iastore d_Mo_sheet_74 (A_100 _) (by omega) (by decide) ?_
            refine wp_aload_n d_Mo_sheet_75 rfl rfl ?_
            refine wp_getR d_Mo_sheet_76 ow_Mo_sheet fl_8_41 (O_91 _) rfl ?_
            refine wp_iload_n d_Mo_sheet_79 rfl rfl ?_
            refine wp_iload_n d_Mo_sheet_80 rfl rfl ?_
            refine wp_if_ne (pc' := 88) d_Mo_sheet_81 (by decide) (fun h81 => ?_) (fun h81 => absurd h81 h0)
            refine wp_iload_n d_Mo_sheet_88 rfl rfl ?_
            exact R _ (Or.inr ⟨h0, Int32.not_lt.mpr h41, h58, rfl⟩)
          · refine wp_aload_n d_Mo_sheet_61 rfl rfl ?_
            refine wp_ldc (v := .int (-1000000001)) d_Mo_sheet_62 ow_Mo_sheet (by decide +kernel) ?_
            refine wp_invV d_Mo_sheet_64 ow_Mo_sheet lk_8_59 (by decide) mi_Mo_errs rfl rfl (Nat.le_of_ble_eq_true rfl) rfl (wp_isC (O_91 _)) (show h_Mo_errs ≤ _ from by decide) (m_errs _ 1 (by decide) (by decide) ?_)
            refine wp_Ki ?_
            refine wp_reti d_Mo_sheet_67 rt_Mo_sheet ?_
            exact lf_i (by decide) (mQ_er (e := 1) (K3 ⟨hW, hB⟩ ⟨h0, Int32.not_lt.mpr h41, Int32.not_le.mp h58⟩) (by decide) C fr.rf)
        · refine wp_aload_n d_Mo_sheet_44 rfl rfl ?_
          refine wp_ldc (v := .int (-1000000003)) d_Mo_sheet_45 ow_Mo_sheet (by decide +kernel) ?_
          refine wp_invV d_Mo_sheet_47 ow_Mo_sheet lk_8_59 (by decide) mi_Mo_errs rfl rfl (Nat.le_of_ble_eq_true rfl) rfl (wp_isC (O_91 _)) (show h_Mo_errs ≤ _ from by decide) (m_errs _ 3 (by decide) (by decide) ?_)
          refine wp_Ki ?_
          refine wp_reti d_Mo_sheet_50 rt_Mo_sheet ?_
          exact lf_i (by decide) (mQ_er (e := 3) (K2 ⟨hW, hB⟩ ⟨h0, Int32.not_le.mp h41⟩) (by decide) C fr.rf)
    refine cl_in ml_Mo_sheet rfl rfl ?_
    refine wp_iload_n d_Mo_sheet_0 rfl rfl ?_
    refine wp_invS d_Mo_sheet_1 ow_Mo_sheet lk_8_214 (by decide) mi_Mo_isSheet rfl rfl (Nat.le_of_ble_eq_true rfl) rfl (show h_Mo_isSheet ≤ _ from by decide) (m_isSheet _ ?_)
    refine wp_Ki ?_
    refine wp_ifB_eq (pc' := 29) d_Mo_sheet_4 (by decide) (fun h4 => absurd hW h4) (fun h4 => ?_)
    refine wp_iload_n d_Mo_sheet_7 rfl rfl ?_
    refine wp_if_eq (pc' := 36) d_Mo_sheet_8 (by decide) (fun h8 => ?_) (fun h8 => ?_)
    · exact K36
    · refine wp_iload_n d_Mo_sheet_11 rfl rfl ?_
      refine wp_bipush (x := nI 8) d_Mo_sheet_12 (by decide) ?_
      refine wp_ic_eq (pc' := 36) d_Mo_sheet_14 (by decide) (fun h14 => ?_) (fun h14 => ?_)
      · exact K36
      · refine wp_iload_n d_Mo_sheet_17 rfl rfl ?_
        refine wp_bipush (x := nI 16) d_Mo_sheet_18 (by decide) ?_
        refine wp_ic_eq (pc' := 36) d_Mo_sheet_20 (by decide) (fun h20 => ?_) (fun h20 => ?_)
        · exact K36
        · refine wp_iload_n d_Mo_sheet_23 rfl rfl ?_
          refine wp_bipush (x := nI 32) d_Mo_sheet_24 (by decide) ?_
          refine wp_ic_eq (pc' := 36) d_Mo_sheet_26 (by decide) (fun h26 => ?_) (fun h26 => absurd hB (fun y => by rcases y with y | y | y | y; exact h8 y; exact h14 y; exact h20 y; exact h26 y))
          exact K36
end OM
