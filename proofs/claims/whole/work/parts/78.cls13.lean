/-! the class: sheets -/
section CP
variable {S : wp_S} {q : sp_R} {mu : Int32} {b z t : sp_R} {Q : Option Value → wp_S → Prop}
theorem c_lowest {s : Nat} (hs : s < 4) (hb : S.2 (82 + 2 * s) 1 = b s) (v : Int32) (K : Q (some (.int (sp_na (b s) v))) S) : cl h_Sh_lowestBits y_Sh_lowestBits [.ref (82 + 2 * s), .int v] S Q := by
  unfold sp_na at K
  refine cl_in ml_Sh_lowestBits rfl rfl ?_
  refine wp_aload_n d_Sh_lowestBits_0 rfl rfl ?_
  refine wp_getI d_Sh_lowestBits_1 ow_Sh_lowestBits fl_4_15 (O_U _ (by omega)) rfl (hb) ?_
  refine wp_bipush (x := nI 8) d_Sh_lowestBits_4 (by decide) ?_
  refine wp_ic_ne (pc' := 14) d_Sh_lowestBits_6 (by decide) (fun h6 => ?_) (fun h6 => ?_)
  · refine wp_aload_n d_Sh_lowestBits_14 rfl rfl ?_
    refine wp_getI d_Sh_lowestBits_15 ow_Sh_lowestBits fl_4_15 (O_U _ (by omega)) rfl (hb) ?_
    refine wp_bipush (x := nI 16) d_Sh_lowestBits_18 (by decide) ?_
    refine wp_ic_ne (pc' := 28) d_Sh_lowestBits_20 (by decide) (fun h20 => ?_) (fun h20 => ?_)
    · refine wp_iload_n d_Sh_lowestBits_28 rfl rfl ?_
      refine wp_reti d_Sh_lowestBits_29 rt_Sh_lowestBits ?_
      rw [if_neg h6, if_neg h20] at K
      exact K
    · refine wp_iload_n d_Sh_lowestBits_23 rfl rfl ?_
      refine wp_i2s d_Sh_lowestBits_24 (rfl) ?_
      refine wp_goto (pc' := 29) d_Sh_lowestBits_25 (by decide) ?_
      refine wp_reti d_Sh_lowestBits_29 rt_Sh_lowestBits ?_
      rw [if_neg h6, if_pos h20] at K
      exact K
  · refine wp_iload_n d_Sh_lowestBits_9 rfl rfl ?_
    refine wp_i2b d_Sh_lowestBits_10 (rfl) ?_
    refine wp_goto (pc' := 29) d_Sh_lowestBits_11 (by decide) ?_
    refine wp_reti d_Sh_lowestBits_29 rt_Sh_lowestBits ?_
    rw [if_pos h6] at K
    exact K
theorem c_put (C : CL S q) (sh : cSh S b z t) (hz : ∀ s, s < 4 → ∃ y, y ≤ 40 ∧ z s = nI y) (v w x : Int32) (K1 : ¬ sp_isW v 3 → cQ S (sp_bad q 1) Q) (K2 : ∀ s, s < 4 → v = nI s → b s = 0 → cQ S (sp_bad q 2) Q) (K3 : ∀ s, s < 4 → v = nI s → b s ≠ 0 → ¬ (0 ≤ w ∧ w ≤ z s - nI 1) → cQ S (sp_bad q 1) Q) (K4 : ∀ s y i, s < 4 → v = nI s → b s ≠ 0 → z s = nI y → y ≤ 40 → w = nI i → i < y → Q (some (.int (nI 1))) (wp_u S (83 + 2 * s) i (sp_na (b s) x))) : cl h_Fo_put y_Fo_put [.ref 0, .int v, .int w, .int x] S Q := by
  by_cases h : sp_isW v 3
  · obtain ⟨s, hs, rfl⟩ := (i_in (by decide)).mp h
    obtain ⟨y, hy1, hy2⟩ := hz s (by omega)
    obtain ⟨g1, g2, g3⟩ := sh s (by omega)
    by_cases hb : b s = 0
    · have K2 := K2 s (by omega) rfl hb
      refine cl_in ml_Fo_put rfl rfl ?_
      refine wp_iload_n d_Fo_put_0 rfl rfl ?_
      refine wp_invS d_Fo_put_1 ow_Fo_put lk_7_214 (by decide) mi_Fo_isSheet rfl rfl (Nat.le_of_ble_eq_true rfl) rfl (show h_Fo_isSheet ≤ _ from by decide) (c_isSheet _ ?_)
      refine wp_Ki ?_
      refine wp_ifB_ne (pc' := 13) d_Fo_put_4 (by decide) (fun h4 => ?_) (fun h4 => absurd h h4)
      refine wp_aload_n d_Fo_put_13 rfl rfl ?_
      refine wp_getR d_Fo_put_14 ow_Fo_put fl_7_50 (O_0 _) rfl ?_
      refine wp_iload_n d_Fo_put_17 rfl rfl ?_
      refine wp_aaload d_Fo_put_18 rfl (f_U (by omega)) (by decide) ?_
      refine wp_asto4 d_Fo_put_19 rfl ?_
      refine wp_aload d_Fo_put_21 rfl ?_
      refine wp_getI d_Fo_put_23 ow_Fo_put fl_7_217 (O_U _ (by omega)) rfl (g1) ?_
      refine wp_if_ne (pc' := 35) d_Fo_put_26 (by decide) (fun h26 => absurd hb h26) (fun h26 => ?_)
      refine wp_aload_n d_Fo_put_29 rfl rfl ?_
      refine wp_iconst (x := nI 2) d_Fo_put_30 rfl ?_
      refine wp_invV d_Fo_put_31 ow_Fo_put lk_7_70 (by decide) mi_Fo_error rfl rfl (Nat.le_of_ble_eq_true rfl) rfl (wp_isC (O_0 _)) (show h_Fo_error ≤ _ from by decide) (c_error 2 (by decide) (by decide) ?_)
      refine wp_Ki ?_
      refine wp_reti d_Fo_put_34 rt_Fo_put ?_
      exact cQ_er (e := 2) K2 (by decide) C fr.rf
    · by_cases hw : 0 ≤ w ∧ w ≤ z s - nI 1
      · have hw2 := hw
        rw [hy2] at hw2
        obtain ⟨i, hi, rfl⟩ := (i_fld (by omega)).mp hw2
        have K4 := K4 s y i (by omega) rfl hb hy2 hy1 rfl hi
        refine cl_in ml_Fo_put rfl rfl ?_
        refine wp_iload_n d_Fo_put_0 rfl rfl ?_
        refine wp_invS d_Fo_put_1 ow_Fo_put lk_7_214 (by decide) mi_Fo_isSheet rfl rfl (Nat.le_of_ble_eq_true rfl) rfl (show h_Fo_isSheet ≤ _ from by decide) (c_isSheet _ ?_)
        refine wp_Ki ?_
        refine wp_ifB_ne (pc' := 13) d_Fo_put_4 (by decide) (fun h4 => ?_) (fun h4 => absurd h h4)
        refine wp_aload_n d_Fo_put_13 rfl rfl ?_
        refine wp_getR d_Fo_put_14 ow_Fo_put fl_7_50 (O_0 _) rfl ?_
        refine wp_iload_n d_Fo_put_17 rfl rfl ?_
        refine wp_aaload d_Fo_put_18 rfl (f_U (by omega)) (by decide) ?_
        refine wp_asto4 d_Fo_put_19 rfl ?_
        refine wp_aload d_Fo_put_21 rfl ?_
        refine wp_getI d_Fo_put_23 ow_Fo_put fl_7_217 (O_U _ (by omega)) rfl (g1) ?_
        refine wp_if_ne (pc' := 35) d_Fo_put_26 (by decide) (fun h26 => ?_) (fun h26 => absurd h26 hb)
        refine wp_iload_n d_Fo_put_35 rfl rfl ?_
        refine wp_iconst (x := nI 0) d_Fo_put_36 rfl ?_
        refine wp_aload d_Fo_put_37 rfl ?_
        refine wp_getI d_Fo_put_39 ow_Fo_put fl_7_251 (O_U _ (by omega)) rfl (g2) ?_
        refine wp_iconst (x := nI 1) d_Fo_put_42 rfl ?_
        refine wp_isub d_Fo_put_43 rfl ?_
        refine wp_invS d_Fo_put_44 ow_Fo_put lk_7_66 (by decide) mi_Fo_isWithin rfl rfl (Nat.le_of_ble_eq_true rfl) rfl (show h_Fo_isWithin ≤ _ from by decide) (c_isWithin _ _ _ ?_)
        refine wp_Ki ?_
        refine wp_ifB_ne (pc' := 56) d_Fo_put_47 (by decide) (fun h47 => ?_) (fun h47 => absurd hw h47)
        refine wp_aload d_Fo_put_56 rfl ?_
        refine wp_getR d_Fo_put_58 ow_Fo_put fl_7_254 (O_U _ (by omega)) rfl ?_
        refine wp_iload_n d_Fo_put_61 rfl rfl ?_
        refine wp_aload d_Fo_put_62 rfl ?_
        refine wp_iload_n d_Fo_put_64 rfl rfl ?_
        refine wp_invV d_Fo_put_65 ow_Fo_put lk_7_257 (by decide) mi_Sh_lowestBits rfl rfl (Nat.le_of_ble_eq_true rfl) rfl (wp_isC (O_U _ (by omega))) (show h_Sh_lowestBits ≤ _ from by decide) (c_lowest (by omega) g1 _ ?_)
        refine wp_Ki ?_
        refine wp_iastore d_Fo_put_68 (A_V _ (by omega)) (by omega) (by decide) ?_
        refine wp_iconst (x := nI 1) d_Fo_put_69 rfl ?_
        refine wp_reti d_Fo_put_70 rt_Fo_put ?_
        exact K4
      · have K3 := K3 s (by omega) rfl hb hw
        refine cl_in ml_Fo_put rfl rfl ?_
        refine wp_iload_n d_Fo_put_0 rfl rfl ?_
        refine wp_invS d_Fo_put_1 ow_Fo_put lk_7_214 (by decide) mi_Fo_isSheet rfl rfl (Nat.le_of_ble_eq_true rfl) rfl (show h_Fo_isSheet ≤ _ from by decide) (c_isSheet _ ?_)
        refine wp_Ki ?_
        refine wp_ifB_ne (pc' := 13) d_Fo_put_4 (by decide) (fun h4 => ?_) (fun h4 => absurd h h4)
        refine wp_aload_n d_Fo_put_13 rfl rfl ?_
        refine wp_getR d_Fo_put_14 ow_Fo_put fl_7_50 (O_0 _) rfl ?_
        refine wp_iload_n d_Fo_put_17 rfl rfl ?_
        refine wp_aaload d_Fo_put_18 rfl (f_U (by omega)) (by decide) ?_
        refine wp_asto4 d_Fo_put_19 rfl ?_
        refine wp_aload d_Fo_put_21 rfl ?_
        refine wp_getI d_Fo_put_23 ow_Fo_put fl_7_217 (O_U _ (by omega)) rfl (g1) ?_
        refine wp_if_ne (pc' := 35) d_Fo_put_26 (by decide) (fun h26 => ?_) (fun h26 => absurd h26 hb)
        refine wp_iload_n d_Fo_put_35 rfl rfl ?_
        refine wp_iconst (x := nI 0) d_Fo_put_36 rfl ?_
        refine wp_aload d_Fo_put_37 rfl ?_
        refine wp_getI d_Fo_put_39 ow_Fo_put fl_7_251 (O_U _ (by omega)) rfl (g2) ?_
        refine wp_iconst (x := nI 1) d_Fo_put_42 rfl ?_
        refine wp_isub d_Fo_put_43 rfl ?_
        refine wp_invS d_Fo_put_44 ow_Fo_put lk_7_66 (by decide) mi_Fo_isWithin rfl rfl (Nat.le_of_ble_eq_true rfl) rfl (show h_Fo_isWithin ≤ _ from by decide) (c_isWithin _ _ _ ?_)
        refine wp_Ki ?_
        refine wp_ifB_ne (pc' := 56) d_Fo_put_47 (by decide) (fun h47 => absurd h47 hw) (fun h47 => ?_)
        refine wp_aload_n d_Fo_put_50 rfl rfl ?_
        refine wp_iconst (x := nI 1) d_Fo_put_51 rfl ?_
        refine wp_invV d_Fo_put_52 ow_Fo_put lk_7_70 (by decide) mi_Fo_error rfl rfl (Nat.le_of_ble_eq_true rfl) rfl (wp_isC (O_0 _)) (show h_Fo_error ≤ _ from by decide) (c_error 1 (by decide) (by decide) ?_)
        refine wp_Ki ?_
        refine wp_reti d_Fo_put_55 rt_Fo_put ?_
        exact cQ_er (e := 1) K3 (by decide) C fr.rf
  · have K1 := K1 h
    refine cl_in ml_Fo_put rfl rfl ?_
    refine wp_iload_n d_Fo_put_0 rfl rfl ?_
    refine wp_invS d_Fo_put_1 ow_Fo_put lk_7_214 (by decide) mi_Fo_isSheet rfl rfl (Nat.le_of_ble_eq_true rfl) rfl (show h_Fo_isSheet ≤ _ from by decide) (c_isSheet _ ?_)
    refine wp_Ki ?_
    refine wp_ifB_ne (pc' := 13) d_Fo_put_4 (by decide) (fun h4 => absurd h4 h) (fun h4 => ?_)
    refine wp_aload_n d_Fo_put_7 rfl rfl ?_
    refine wp_iconst (x := nI 1) d_Fo_put_8 rfl ?_
    refine wp_invV d_Fo_put_9 ow_Fo_put lk_7_70 (by decide) mi_Fo_error rfl rfl (Nat.le_of_ble_eq_true rfl) rfl (wp_isC (O_0 _)) (show h_Fo_error ≤ _ from by decide) (c_error 1 (by decide) (by decide) ?_)
    refine wp_Ki ?_
    refine wp_reti d_Fo_put_12 rt_Fo_put ?_
    exact cQ_er (e := 1) K1 (by decide) C fr.rf
theorem c_shbegin {s : Nat} (hs : s < 4) (v x : Int32) (K : Q none (wp_fl (wp_u (wp_u S (82 + 2 * s) 1 v) (82 + 2 * s) 2 x) (83 + 2 * s) 40 (nI 0))) : cl h_Sh_begin y_Sh_begin [.ref (82 + 2 * s), .int v, .int x] S Q := by
  refine cl_in ml_Sh_begin rfl rfl ?_
  refine wp_aload_n d_Sh_begin_0 rfl rfl ?_
  refine wp_iload_n d_Sh_begin_1 rfl rfl ?_
  refine wp_put (ty := .int) d_Sh_begin_2 ow_Sh_begin fl_4_15 (by decide +kernel) (by decide +kernel) (O_U _ (by omega)) rfl ⟨rfl, rfl⟩ ?_
  refine wp_aload_n d_Sh_begin_5 rfl rfl ?_
  refine wp_iload_n d_Sh_begin_6 rfl rfl ?_
  refine wp_put (ty := .int) d_Sh_begin_7 ow_Sh_begin fl_4_19 (by decide +kernel) (by decide +kernel) (O_U _ (by omega)) rfl ⟨rfl, rfl⟩ ?_
  refine wp_aload_n d_Sh_begin_10 rfl rfl ?_
  refine wp_getR d_Sh_begin_11 ow_Sh_begin fl_4_9 (O_U _ (by omega)) rfl ?_
  refine wp_iconst (x := nI 0) d_Sh_begin_14 rfl ?_
  refine wp_invS d_Sh_begin_15 ow_Sh_begin lk_4_22 (by decide) mi_Ja_fill rfl rfl (Nat.le_of_ble_eq_true rfl) rfl (show h_Ja_fill ≤ _ from by decide) (c_fill (fun S => A_V S hs) (by decide) _ ?_)
  refine wp_Kv ?_
  refine wp_return d_Sh_begin_18 rt_Sh_begin ?_
  exact K
theorem c_sheet (C : CL S q) (v b n : Int32) (K1 : ¬ (sp_isW v 3 ∧ sp_isB b) → cQ S (sp_bad q 1) Q) (K2 : sp_isW v 3 ∧ sp_isB b → b ≠ 0 ∧ n < 0 → cQ S (sp_bad q 3) Q) (K3 : sp_isW v 3 ∧ sp_isB b → b ≠ 0 ∧ ¬ n < 0 ∧ nI 40 < n → cQ S (sp_bad q 1) Q) (K4 : ∀ s x, s < 4 → v = nI s → sp_isB b → (b = 0 ∧ x = nI 0) ∨ (b ≠ 0 ∧ ¬ n < 0 ∧ n ≤ nI 40 ∧ x = n) → Q (some (.int (nI 1))) (wp_fl (wp_u (wp_u S (82 + 2 * s) 1 b) (82 + 2 * s) 2 x) (83 + 2 * s) 40 (nI 0))) : cl h_Fo_sheet y_Fo_sheet [.ref 0, .int v, .int b, .int n] S Q := by
  by_cases h : sp_isW v 3
  · obtain ⟨s, hs, rfl⟩ := (i_in (by decide)).mp h
    have K4 := fun x => K4 s x (by omega) rfl
    by_cases hb : sp_isB b
    · have K2 := K2 ⟨h, hb⟩
      have K3 := K3 ⟨h, hb⟩
      have K4 := fun x => K4 x hb
      have K29 : wp (h_Fo_sheet - 1) y_Fo_sheet 29 [some (.ref 0), some (.int (nI s)), some (.int b), some (.int n), some (.int (nI 1))] [] S Q := by
        by_cases hb0 : b = 0
        · refine wp_iload_n d_Fo_sheet_29 rfl rfl ?_
          refine wp_invS d_Fo_sheet_30 ow_Fo_sheet lk_7_214 (by decide) mi_Fo_isSheet rfl rfl (Nat.le_of_ble_eq_true rfl) rfl (show h_Fo_isSheet ≤ _ from by decide) (c_isSheet _ ?_)
          refine wp_Ki ?_
          refine wp_ifB_eq (pc' := 41) d_Fo_sheet_33 (by decide) (fun h33 => absurd h h33) (fun h33 => ?_)
          refine wp_iload d_Fo_sheet_36 rfl ?_
          refine wp_ifN_ne (pc' := 47) d_Fo_sheet_38 (by decide) (by omega) (fun _ => ?_) (fun q => absurd q (by decide))
          refine wp_iload_n d_Fo_sheet_47 rfl rfl ?_
          refine wp_if_eq (pc' := 61) d_Fo_sheet_48 (by decide) (fun h48 => ?_) (fun h48 => absurd hb0 h48)
          refine wp_iload_n d_Fo_sheet_61 rfl rfl ?_
          refine wp_if_eq (pc' := 77) d_Fo_sheet_62 (by decide) (fun h62 => ?_) (fun h62 => absurd hb0 h62)
          refine wp_aload_n d_Fo_sheet_77 rfl rfl ?_
          refine wp_getR d_Fo_sheet_78 ow_Fo_sheet fl_7_50 (O_0 _) rfl ?_
          refine wp_iload_n d_Fo_sheet_81 rfl rfl ?_
          refine wp_aaload d_Fo_sheet_82 rfl (f_U (by omega)) (by decide) ?_
          refine wp_iload_n d_Fo_sheet_83 rfl rfl ?_
          refine wp_iload_n d_Fo_sheet_84 rfl rfl ?_
          refine wp_if_ne (pc' := 92) d_Fo_sheet_85 (by decide) (fun h85 => absurd hb0 h85) (fun h85 => ?_)
          refine wp_iconst (x := nI 0) d_Fo_sheet_88 rfl ?_
          refine wp_goto (pc' := 93) d_Fo_sheet_89 (by decide) ?_
          refine wp_invV d_Fo_sheet_93 ow_Fo_sheet lk_7_250 (by decide) mi_Sh_begin rfl rfl (Nat.le_of_ble_eq_true rfl) rfl (wp_isC (O_U _ (by omega))) (show h_Sh_begin ≤ _ from by decide) (c_shbegin (by omega) _ _ ?_)
          refine wp_Kv ?_
          refine wp_iconst (x := nI 1) d_Fo_sheet_96 rfl ?_
          refine wp_reti d_Fo_sheet_97 rt_Fo_sheet ?_
          exact K4 _ (Or.inl ⟨hb0, rfl⟩)
        · refine wp_iload_n d_Fo_sheet_29 rfl rfl ?_
          refine wp_invS d_Fo_sheet_30 ow_Fo_sheet lk_7_214 (by decide) mi_Fo_isSheet rfl rfl (Nat.le_of_ble_eq_true rfl) rfl (show h_Fo_isSheet ≤ _ from by decide) (c_isSheet _ ?_)
          refine wp_Ki ?_
          refine wp_ifB_eq (pc' := 41) d_Fo_sheet_33 (by decide) (fun h33 => absurd h h33) (fun h33 => ?_)
          refine wp_iload d_Fo_sheet_36 rfl ?_
          refine wp_ifN_ne (pc' := 47) d_Fo_sheet_38 (by decide) (by omega) (fun _ => ?_) (fun q => absurd q (by decide))
          refine wp_iload_n d_Fo_sheet_47 rfl rfl ?_
          refine wp_if_eq (pc' := 61) d_Fo_sheet_48 (by decide) (fun h48 => absurd h48 hb0) (fun h48 => ?_)
          refine wp_iload_n d_Fo_sheet_51 rfl rfl ?_
          refine wp_if_ge (pc' := 61) d_Fo_sheet_52 (by decide) (fun h52 => ?_) (fun h52 => ?_)
          · refine wp_iload_n d_Fo_sheet_61 rfl rfl ?_
            refine wp_if_eq (pc' := 77) d_Fo_sheet_62 (by decide) (fun h62 => absurd h62 hb0) (fun h62 => ?_)
            refine wp_iload_n d_Fo_sheet_65 rfl rfl ?_
            refine wp_bipush (x := nI 40) d_Fo_sheet_66 (by decide) ?_
            refine wp_ic_le (pc' := 77) d_Fo_sheet_68 (by decide) (fun h68 => ?_) (fun h68 => ?_)
            · refine wp_aload_n d_Fo_sheet_77 rfl rfl ?_
              refine wp_getR d_Fo_sheet_78 ow_Fo_sheet fl_7_50 (O_0 _) rfl ?_
              refine wp_iload_n d_Fo_sheet_81 rfl rfl ?_
              refine wp_aaload d_Fo_sheet_82 rfl (f_U (by omega)) (by decide) ?_
              refine wp_iload_n d_Fo_sheet_83 rfl rfl ?_
              refine wp_iload_n d_Fo_sheet_84 rfl rfl ?_
              refine wp_if_ne (pc' := 92) d_Fo_sheet_85 (by decide) (fun h85 => ?_) (fun h85 => absurd h85 hb0)
              refine wp_iload_n d_Fo_sheet_92 rfl rfl ?_
              refine wp_invV d_Fo_sheet_93 ow_Fo_sheet lk_7_250 (by decide) mi_Sh_begin rfl rfl (Nat.le_of_ble_eq_true rfl) rfl (wp_isC (O_U _ (by omega))) (show h_Sh_begin ≤ _ from by decide) (c_shbegin (by omega) _ _ ?_)
              refine wp_Kv ?_
              refine wp_iconst (x := nI 1) d_Fo_sheet_96 rfl ?_
              refine wp_reti d_Fo_sheet_97 rt_Fo_sheet ?_
              exact K4 _ (Or.inr ⟨hb0, Int32.not_lt.mpr h52, h68, rfl⟩)
            · refine wp_aload_n d_Fo_sheet_71 rfl rfl ?_
              refine wp_iconst (x := nI 1) d_Fo_sheet_72 rfl ?_
              refine wp_invV d_Fo_sheet_73 ow_Fo_sheet lk_7_70 (by decide) mi_Fo_error rfl rfl (Nat.le_of_ble_eq_true rfl) rfl (wp_isC (O_0 _)) (show h_Fo_error ≤ _ from by decide) (c_error 1 (by decide) (by decide) ?_)
              refine wp_Ki ?_
              refine wp_reti d_Fo_sheet_76 rt_Fo_sheet ?_
              exact cQ_er (e := 1) (K3 ⟨hb0, Int32.not_lt.mpr h52, Int32.not_le.mp h68⟩) (by decide) C fr.rf
          · refine wp_aload_n d_Fo_sheet_55 rfl rfl ?_
            refine wp_iconst (x := nI 3) d_Fo_sheet_56 rfl ?_
            refine wp_invV d_Fo_sheet_57 ow_Fo_sheet lk_7_70 (by decide) mi_Fo_error rfl rfl (Nat.le_of_ble_eq_true rfl) rfl (wp_isC (O_0 _)) (show h_Fo_error ≤ _ from by decide) (c_error 3 (by decide) (by decide) ?_)
            refine wp_Ki ?_
            refine wp_reti d_Fo_sheet_60 rt_Fo_sheet ?_
            exact cQ_er (e := 3) (K2 ⟨hb0, Int32.not_le.mp h52⟩) (by decide) C fr.rf
      refine cl_in ml_Fo_sheet rfl rfl ?_
      refine wp_iload_n d_Fo_sheet_0 rfl rfl ?_
      refine wp_if_eq (pc' := 22) d_Fo_sheet_1 (by decide) (fun h1 => ?_) (fun h1 => ?_)
      · refine wp_iconst (x := nI 1) d_Fo_sheet_22 rfl ?_
        refine wp_goto (pc' := 27) d_Fo_sheet_23 (by decide) ?_
        refine wp_isto4 d_Fo_sheet_27 rfl ?_
        first
        | exact K29
        | exact absurd hb (by unfold sp_isB; intro y; rcases y with y | y | y | y; exact h1 y; exact h7 y; exact h13 y; exact h19 y)
      · refine wp_iload_n d_Fo_sheet_4 rfl rfl ?_
        refine wp_bipush (x := nI 8) d_Fo_sheet_5 (by decide) ?_
        refine wp_ic_eq (pc' := 22) d_Fo_sheet_7 (by decide) (fun h7 => ?_) (fun h7 => ?_)
        · refine wp_iconst (x := nI 1) d_Fo_sheet_22 rfl ?_
          refine wp_goto (pc' := 27) d_Fo_sheet_23 (by decide) ?_
          refine wp_isto4 d_Fo_sheet_27 rfl ?_
          first
          | exact K29
          | exact absurd hb (by unfold sp_isB; intro y; rcases y with y | y | y | y; exact h1 y; exact h7 y; exact h13 y; exact h19 y)
        · refine wp_iload_n d_Fo_sheet_10 rfl rfl ?_
          refine wp_bipush (x := nI 16) d_Fo_sheet_11 (by decide) ?_
          refine wp_ic_eq (pc' := 22) d_Fo_sheet_13 (by decide) (fun h13 => ?_) (fun h13 => ?_)
          · refine wp_iconst (x := nI 1) d_Fo_sheet_22 rfl ?_
            refine wp_goto (pc' := 27) d_Fo_sheet_23 (by decide) ?_
            refine wp_isto4 d_Fo_sheet_27 rfl ?_
            first
            | exact K29
            | exact absurd hb (by unfold sp_isB; intro y; rcases y with y | y | y | y; exact h1 y; exact h7 y; exact h13 y; exact h19 y)
          · refine wp_iload_n d_Fo_sheet_16 rfl rfl ?_
            refine wp_bipush (x := nI 32) d_Fo_sheet_17 (by decide) ?_
            refine wp_ic_ne (pc' := 26) d_Fo_sheet_19 (by decide) (fun h19 => ?_) (fun h19 => ?_)
            · refine wp_iconst (x := nI 0) d_Fo_sheet_26 rfl ?_
              refine wp_isto4 d_Fo_sheet_27 rfl ?_
              first
              | exact K29
              | exact absurd hb (by unfold sp_isB; intro y; rcases y with y | y | y | y; exact h1 y; exact h7 y; exact h13 y; exact h19 y)
            · refine wp_iconst (x := nI 1) d_Fo_sheet_22 rfl ?_
              refine wp_goto (pc' := 27) d_Fo_sheet_23 (by decide) ?_
              refine wp_isto4 d_Fo_sheet_27 rfl ?_
              first
              | exact K29
              | exact absurd hb (by unfold sp_isB; intro y; rcases y with y | y | y | y; exact h1 y; exact h7 y; exact h13 y; exact h19 y)
    · have K1 := K1 (fun y => hb y.2)
      refine cl_in ml_Fo_sheet rfl rfl ?_
      refine wp_iload_n d_Fo_sheet_0 rfl rfl ?_
      refine wp_if_eq (pc' := 22) d_Fo_sheet_1 (by decide) (fun h1 => absurd (Or.inl h1) hb) (fun h1 => ?_)
      refine wp_iload_n d_Fo_sheet_4 rfl rfl ?_
      refine wp_bipush (x := nI 8) d_Fo_sheet_5 (by decide) ?_
      refine wp_ic_eq (pc' := 22) d_Fo_sheet_7 (by decide) (fun h7 => absurd (Or.inr (Or.inl h7)) hb) (fun h7 => ?_)
      refine wp_iload_n d_Fo_sheet_10 rfl rfl ?_
      refine wp_bipush (x := nI 16) d_Fo_sheet_11 (by decide) ?_
      refine wp_ic_eq (pc' := 22) d_Fo_sheet_13 (by decide) (fun h13 => absurd (Or.inr (Or.inr (Or.inl h13))) hb) (fun h13 => ?_)
      refine wp_iload_n d_Fo_sheet_16 rfl rfl ?_
      refine wp_bipush (x := nI 32) d_Fo_sheet_17 (by decide) ?_
      refine wp_ic_ne (pc' := 26) d_Fo_sheet_19 (by decide) (fun h19 => ?_) (fun h19 => absurd (Or.inr (Or.inr (Or.inr h19))) hb)
      refine wp_iconst (x := nI 0) d_Fo_sheet_26 rfl ?_
      refine wp_isto4 d_Fo_sheet_27 rfl ?_
      refine wp_iload_n d_Fo_sheet_29 rfl rfl ?_
      refine wp_invS d_Fo_sheet_30 ow_Fo_sheet lk_7_214 (by decide) mi_Fo_isSheet rfl rfl (Nat.le_of_ble_eq_true rfl) rfl (show h_Fo_isSheet ≤ _ from by decide) (c_isSheet _ ?_)
      refine wp_Ki ?_
      refine wp_ifB_eq (pc' := 41) d_Fo_sheet_33 (by decide) (fun h33 => ?_) (fun h33 => ?_)
      · refine wp_aload_n d_Fo_sheet_41 rfl rfl ?_
        refine wp_iconst (x := nI 1) d_Fo_sheet_42 rfl ?_
        refine wp_invV d_Fo_sheet_43 ow_Fo_sheet lk_7_70 (by decide) mi_Fo_error rfl rfl (Nat.le_of_ble_eq_true rfl) rfl (wp_isC (O_0 _)) (show h_Fo_error ≤ _ from by decide) (c_error 1 (by decide) (by decide) ?_)
        refine wp_Ki ?_
        refine wp_reti d_Fo_sheet_46 rt_Fo_sheet ?_
        exact cQ_er (e := 1) K1 (by decide) C fr.rf
      · refine wp_iload d_Fo_sheet_36 rfl ?_
        refine wp_ifN_ne (pc' := 47) d_Fo_sheet_38 (by decide) (by omega) (fun q => absurd q (by decide)) (fun _ => ?_)
        refine wp_aload_n d_Fo_sheet_41 rfl rfl ?_
        refine wp_iconst (x := nI 1) d_Fo_sheet_42 rfl ?_
        refine wp_invV d_Fo_sheet_43 ow_Fo_sheet lk_7_70 (by decide) mi_Fo_error rfl rfl (Nat.le_of_ble_eq_true rfl) rfl (wp_isC (O_0 _)) (show h_Fo_error ≤ _ from by decide) (c_error 1 (by decide) (by decide) ?_)
        refine wp_Ki ?_
        refine wp_reti d_Fo_sheet_46 rt_Fo_sheet ?_
        exact cQ_er (e := 1) K1 (by decide) C fr.rf
  · have K1 := K1 (fun y => h y.1)
    have K29 : ∀ y, wp (h_Fo_sheet - 1) y_Fo_sheet 29 [some (.ref 0), some (.int v), some (.int b), some (.int n), some (.int y)] [] S Q := by
      intro y
      refine wp_iload_n d_Fo_sheet_29 rfl rfl ?_
      refine wp_invS d_Fo_sheet_30 ow_Fo_sheet lk_7_214 (by decide) mi_Fo_isSheet rfl rfl (Nat.le_of_ble_eq_true rfl) rfl (show h_Fo_isSheet ≤ _ from by decide) (c_isSheet _ ?_)
      refine wp_Ki ?_
      refine wp_ifB_eq (pc' := 41) d_Fo_sheet_33 (by decide) (fun h33 => ?_) (fun h33 => absurd h33 h)
      refine wp_aload_n d_Fo_sheet_41 rfl rfl ?_
      refine wp_iconst (x := nI 1) d_Fo_sheet_42 rfl ?_
      refine wp_invV d_Fo_sheet_43 ow_Fo_sheet lk_7_70 (by decide) mi_Fo_error rfl rfl (Nat.le_of_ble_eq_true rfl) rfl (wp_isC (O_0 _)) (show h_Fo_error ≤ _ from by decide) (c_error 1 (by decide) (by decide) ?_)
      refine wp_Ki ?_
      refine wp_reti d_Fo_sheet_46 rt_Fo_sheet ?_
      exact cQ_er (e := 1) K1 (by decide) C fr.rf
    refine cl_in ml_Fo_sheet rfl rfl ?_
    refine wp_iload_n d_Fo_sheet_0 rfl rfl ?_
    refine wp_if_eq (pc' := 22) d_Fo_sheet_1 (by decide) (fun h1 => ?_) (fun h1 => ?_)
    · refine wp_iconst (x := nI 1) d_Fo_sheet_22 rfl ?_
      refine wp_goto (pc' := 27) d_Fo_sheet_23 (by decide) ?_
      refine wp_isto4 d_Fo_sheet_27 rfl ?_
      exact K29 _
    · refine wp_iload_n d_Fo_sheet_4 rfl rfl ?_
      refine wp_bipush (x := nI 8) d_Fo_sheet_5 (by decide) ?_
      refine wp_ic_eq (pc' := 22) d_Fo_sheet_7 (by decide) (fun h7 => ?_) (fun h7 => ?_)
      · refine wp_iconst (x := nI 1) d_Fo_sheet_22 rfl ?_
        refine wp_goto (pc' := 27) d_Fo_sheet_23 (by decide) ?_
        refine wp_isto4 d_Fo_sheet_27 rfl ?_
        exact K29 _
      · refine wp_iload_n d_Fo_sheet_10 rfl rfl ?_
        refine wp_bipush (x := nI 16) d_Fo_sheet_11 (by decide) ?_
        refine wp_ic_eq (pc' := 22) d_Fo_sheet_13 (by decide) (fun h13 => ?_) (fun h13 => ?_)
        · refine wp_iconst (x := nI 1) d_Fo_sheet_22 rfl ?_
          refine wp_goto (pc' := 27) d_Fo_sheet_23 (by decide) ?_
          refine wp_isto4 d_Fo_sheet_27 rfl ?_
          exact K29 _
        · refine wp_iload_n d_Fo_sheet_16 rfl rfl ?_
          refine wp_bipush (x := nI 32) d_Fo_sheet_17 (by decide) ?_
          refine wp_ic_ne (pc' := 26) d_Fo_sheet_19 (by decide) (fun h19 => ?_) (fun h19 => ?_)
          · refine wp_iconst (x := nI 0) d_Fo_sheet_26 rfl ?_
            refine wp_isto4 d_Fo_sheet_27 rfl ?_
            exact K29 _
          · refine wp_iconst (x := nI 1) d_Fo_sheet_22 rfl ?_
            refine wp_goto (pc' := 27) d_Fo_sheet_23 (by decide) ?_
            refine wp_isto4 d_Fo_sheet_27 rfl ?_
            exact K29 _
theorem c_holds {s y : Nat} (hs : s < 4) (h2 : S.2 (82 + 2 * s) 2 = nI y) (hy : y ≤ 40) (i n : Int32) (K : Q (some (.int (bi (0 ≤ n ∧ 0 ≤ i ∧ i ≤ nI y - n)))) S) : cl h_Sh_holds y_Sh_holds [.ref (82 + 2 * s), .int i, .int n] S Q := by
  refine cl_in ml_Sh_holds rfl rfl ?_
  refine wp_iload_n d_Sh_holds_0 rfl rfl ?_
  refine wp_if_lt (pc' := 30) d_Sh_holds_1 (by decide) (fun h1 => ?_) (fun h1 => ?_)
  · refine wp_iconst (x := nI 0) d_Sh_holds_30 rfl ?_
    refine wp_retz d_Sh_holds_31 rt_Sh_holds (by first | exact Or.inl rfl | exact Or.inr rfl) ?_
    exact lf_i (x := 0) (bi_f (fun g => absurd h1 (Int32.not_lt.mpr g.1))).symm K
  · refine wp_iload_n d_Sh_holds_4 rfl rfl ?_
    refine wp_if_lt (pc' := 30) d_Sh_holds_5 (by decide) (fun h5 => ?_) (fun h5 => ?_)
    · refine wp_iconst (x := nI 0) d_Sh_holds_30 rfl ?_
      refine wp_retz d_Sh_holds_31 rt_Sh_holds (by first | exact Or.inl rfl | exact Or.inr rfl) ?_
      exact lf_i (x := 0) (bi_f (fun g => absurd h5 (Int32.not_lt.mpr g.2.1))).symm K
    · refine wp_iload_n d_Sh_holds_8 rfl rfl ?_
      refine wp_aload_n d_Sh_holds_9 rfl rfl ?_
      refine wp_getI d_Sh_holds_10 ow_Sh_holds fl_4_19 (O_U _ (by omega)) rfl (h2) ?_
      refine wp_ic_gt (pc' := 30) d_Sh_holds_13 (by decide) (fun h13 => ?_) (fun h13 => ?_)
      · refine wp_iconst (x := nI 0) d_Sh_holds_30 rfl ?_
        refine wp_retz d_Sh_holds_31 rt_Sh_holds (by first | exact Or.inl rfl | exact Or.inr rfl) ?_
        refine lf_i (x := 0) (bi_f (fun g => ?_)).symm K
        have g1 := Int32.le_iff_toInt_le.mp g.2.2
        have g2 := Int32.le_iff_toInt_le.mp g.2.1
        have g3 := Int32.lt_iff_toInt_lt.mp h13
        have g4 := Int32.le_iff_toInt_le.mp g.1
        have e0 : (0 : Int32).toInt = 0 := by decide
        have ey := nI_toInt (n := y) (by omega)
        have en := n.toInt_lt
        rw [Jvm.Kit.i32_sub (by omega) (by omega)] at g1
        omega
      · refine wp_iload_n d_Sh_holds_16 rfl rfl ?_
        refine wp_aload_n d_Sh_holds_17 rfl rfl ?_
        refine wp_getI d_Sh_holds_18 ow_Sh_holds fl_4_19 (O_U _ (by omega)) rfl (h2) ?_
        refine wp_iload_n d_Sh_holds_21 rfl rfl ?_
        refine wp_isub d_Sh_holds_22 rfl ?_
        refine wp_ic_gt (pc' := 30) d_Sh_holds_23 (by decide) (fun h23 => ?_) (fun h23 => ?_)
        · refine wp_iconst (x := nI 0) d_Sh_holds_30 rfl ?_
          refine wp_retz d_Sh_holds_31 rt_Sh_holds (by first | exact Or.inl rfl | exact Or.inr rfl) ?_
          exact lf_i (x := 0) (bi_f (fun g => absurd h23 (Int32.not_lt.mpr g.2.2))).symm K
        · refine wp_iconst (x := nI 1) d_Sh_holds_26 rfl ?_
          refine wp_goto (pc' := 31) d_Sh_holds_27 (by decide) ?_
          refine wp_retz d_Sh_holds_31 rt_Sh_holds (by first | exact Or.inl rfl | exact Or.inr rfl) ?_
          exact lf_i (x := 1) (bi_t ⟨Int32.not_lt.mp h1, Int32.not_lt.mp h5, Int32.not_lt.mp h23⟩).symm K
theorem c_move (C : CL S q) (sh : cSh S b z t) (hz : ∀ s, s < 4 → ∃ y, y ≤ 40 ∧ z s = nI y) (v i w j n : Int32) (K1 : ¬ (sp_isW v 3 ∧ sp_isW w 3) → cQ S (sp_bad q 1) Q) (K2 : ∀ s o, s < 4 → o < 4 → v = nI s → w = nI o → b s = 0 ∨ b o = 0 → cQ S (sp_bad q 2) Q) (K3 : ∀ s o, s < 4 → o < 4 → v = nI s → w = nI o → b s ≠ 0 → b o ≠ 0 → b s ≠ b o → cQ S (sp_bad q 5) Q) (K4 : ∀ s o, s < 4 → o < 4 → v = nI s → w = nI o → b s ≠ 0 → b o ≠ 0 → b s = b o → ¬ (0 ≤ n ∧ 0 ≤ i ∧ 0 ≤ j ∧ i ≤ z s - n ∧ j ≤ z o - n) → cQ S (sp_bad q 1) Q) (K5 : ∀ s o zs zo i' j' n', s < 4 → o < 4 → v = nI s → w = nI o → b s ≠ 0 → b o ≠ 0 → b s = b o → z s = nI zs → z o = nI zo → zs ≤ 40 → zo ≤ 40 → i = nI i' → j = nI j' → n = nI n' → i' + n' ≤ zs → j' + n' ≤ zo → Q (some (.int (nI n'))) (wp_cp S (83 + 2 * s) (83 + 2 * o) i' j' n')) : cl h_Fo_move y_Fo_move [.ref 0, .int v, .int i, .int w, .int j, .int n] S Q := by
  by_cases h : sp_isW v 3 ∧ sp_isW w 3
  · obtain ⟨hv, hw⟩ := h
    obtain ⟨s, hs, rfl⟩ := (i_in (by decide)).mp hv
    obtain ⟨o, ho, rfl⟩ := (i_in (by decide)).mp hw
    obtain ⟨zs, hzs1, hzs2⟩ := hz s (by omega)
    obtain ⟨zo, hzo1, hzo2⟩ := hz o (by omega)
    obtain ⟨g1, g2, g3⟩ := sh s (by omega)
    obtain ⟨k1, k2, k3⟩ := sh o (by omega)
    have K2 := K2 s o (by omega) (by omega) rfl rfl
    have K3 := K3 s o (by omega) (by omega) rfl rfl
    have K4 := K4 s o (by omega) (by omega) rfl rfl
    have K5 := fun i' j' n' => K5 s o zs zo i' j' n' (by omega) (by omega) rfl rfl
    rw [hzs2, hzo2] at K4
    by_cases hb : b s = 0 ∨ b o = 0
    · have K2 := K2 hb
      refine cl_in ml_Fo_move rfl rfl ?_
      refine wp_iload_n d_Fo_move_0 rfl rfl ?_
      refine wp_invS d_Fo_move_1 ow_Fo_move lk_7_214 (by decide) mi_Fo_isSheet rfl rfl (Nat.le_of_ble_eq_true rfl) rfl (show h_Fo_isSheet ≤ _ from by decide) (c_isSheet _ ?_)
      refine wp_Ki ?_
      refine wp_ifB_eq (pc' := 14) d_Fo_move_4 (by decide) (fun h4 => absurd hv h4) (fun h4 => ?_)
      refine wp_iload_n d_Fo_move_7 rfl rfl ?_
      refine wp_invS d_Fo_move_8 ow_Fo_move lk_7_214 (by decide) mi_Fo_isSheet rfl rfl (Nat.le_of_ble_eq_true rfl) rfl (show h_Fo_isSheet ≤ _ from by decide) (c_isSheet _ ?_)
      refine wp_Ki ?_
      refine wp_ifB_ne (pc' := 20) d_Fo_move_11 (by decide) (fun h11 => ?_) (fun h11 => absurd hw h11)
      refine wp_aload_n d_Fo_move_20 rfl rfl ?_
      refine wp_getR d_Fo_move_21 ow_Fo_move fl_7_50 (O_0 _) rfl ?_
      refine wp_iload_n d_Fo_move_24 rfl rfl ?_
      refine wp_aaload d_Fo_move_25 rfl (f_U (by omega)) (by decide) ?_
      refine wp_asto6 d_Fo_move_26 rfl ?_
      refine wp_aload_n d_Fo_move_28 rfl rfl ?_
      refine wp_getR d_Fo_move_29 ow_Fo_move fl_7_50 (O_0 _) rfl ?_
      refine wp_iload_n d_Fo_move_32 rfl rfl ?_
      refine wp_aaload d_Fo_move_33 rfl (f_U (by omega)) (by decide) ?_
      refine wp_asto7 d_Fo_move_34 rfl ?_
      refine wp_aload d_Fo_move_36 rfl ?_
      refine wp_getI d_Fo_move_38 ow_Fo_move fl_7_217 (O_U _ (by omega)) rfl (g1) ?_
      refine wp_if_eq (pc' := 52) d_Fo_move_41 (by decide) (fun h41 => ?_) (fun h41 => ?_)
      · refine wp_aload_n d_Fo_move_52 rfl rfl ?_
        refine wp_iconst (x := nI 2) d_Fo_move_53 rfl ?_
        refine wp_invV d_Fo_move_54 ow_Fo_move lk_7_70 (by decide) mi_Fo_error rfl rfl (Nat.le_of_ble_eq_true rfl) rfl (wp_isC (O_0 _)) (show h_Fo_error ≤ _ from by decide) (c_error 2 (by decide) (by decide) ?_)
        refine wp_Ki ?_
        refine wp_reti d_Fo_move_57 rt_Fo_move ?_
        exact cQ_er (e := 2) K2 (by decide) C fr.rf
      · refine wp_aload d_Fo_move_44 rfl ?_
        refine wp_getI d_Fo_move_46 ow_Fo_move fl_7_217 (O_U _ (by omega)) rfl (k1) ?_
        refine wp_if_ne (pc' := 58) d_Fo_move_49 (by decide) (fun h49 => ?_) (fun h49 => ?_)
        · rcases hb with hb | hb
          · exact absurd hb h41
          · exact absurd hb h49
        · refine wp_aload_n d_Fo_move_52 rfl rfl ?_
          refine wp_iconst (x := nI 2) d_Fo_move_53 rfl ?_
          refine wp_invV d_Fo_move_54 ow_Fo_move lk_7_70 (by decide) mi_Fo_error rfl rfl (Nat.le_of_ble_eq_true rfl) rfl (wp_isC (O_0 _)) (show h_Fo_error ≤ _ from by decide) (c_error 2 (by decide) (by decide) ?_)
          refine wp_Ki ?_
          refine wp_reti d_Fo_move_57 rt_Fo_move ?_
          exact cQ_er (e := 2) K2 (by decide) C fr.rf
    · have hb1 : b s ≠ 0 := fun y => hb (Or.inl y)
      have hb2 : b o ≠ 0 := fun y => hb (Or.inr y)
      have K3 := K3 hb1 hb2
      have K4 := K4 hb1 hb2
      have K5 := fun i' j' n' => K5 i' j' n' hb1 hb2
      have g2 := g2.trans hzs2
      have k2 := k2.trans hzo2
      have K106 : b s = b o → (0 ≤ n ∧ 0 ≤ i ∧ i ≤ nI zs - n) → (0 ≤ n ∧ 0 ≤ j ∧ j ≤ nI zo - n) → wp (h_Fo_move - 1) y_Fo_move 106 [some (.ref 0), some (.int (nI s)), some (.int i), some (.int (nI o)), some (.int j), some (.int n), some (.ref (82 + 2 * s)), some (.ref (82 + 2 * o))] [] S Q := by
        intro hbb hA hB
        obtain ⟨n', hn', rfl⟩ := nI_of (x := n) (Int32.not_lt.mpr hA.1)
        obtain ⟨i', hi', rfl⟩ := nI_of (x := i) (Int32.not_lt.mpr hA.2.1)
        obtain ⟨j', hj', rfl⟩ := nI_of (x := j) (Int32.not_lt.mpr hB.2.1)
        have f1 := (i_fit hzs1 hn' hi').mp hA.2.2
        have f2 := (i_fit hzo1 hn' hj').mp hB.2.2
        have K5 := K5 i' j' n' hbb hzs2 hzo2 hzs1 hzo1 rfl rfl rfl f1 f2
        refine wp_aload d_Fo_move_106 rfl ?_
        refine wp_getR d_Fo_move_108 ow_Fo_move fl_7_254 (O_U _ (by omega)) rfl ?_
        refine wp_iload_n d_Fo_move_111 rfl rfl ?_
        refine wp_aload d_Fo_move_112 rfl ?_
        refine wp_getR d_Fo_move_114 ow_Fo_move fl_7_254 (O_U _ (by omega)) rfl ?_
        refine wp_iload d_Fo_move_117 rfl ?_
        refine wp_iload d_Fo_move_119 rfl ?_
        refine wp_acp d_Fo_move_121 ow_Fo_move lk_7_263 rfl (A_V _ (by omega)) (A_V _ (by omega)) (by omega) (by omega) (by decide) (by decide) ?_
        refine wp_iload d_Fo_move_124 rfl ?_
        refine wp_reti d_Fo_move_126 rt_Fo_move ?_
        exact K5
      refine cl_in ml_Fo_move rfl rfl ?_
      refine wp_iload_n d_Fo_move_0 rfl rfl ?_
      refine wp_invS d_Fo_move_1 ow_Fo_move lk_7_214 (by decide) mi_Fo_isSheet rfl rfl (Nat.le_of_ble_eq_true rfl) rfl (show h_Fo_isSheet ≤ _ from by decide) (c_isSheet _ ?_)
      refine wp_Ki ?_
      refine wp_ifB_eq (pc' := 14) d_Fo_move_4 (by decide) (fun h4 => absurd hv h4) (fun h4 => ?_)
      refine wp_iload_n d_Fo_move_7 rfl rfl ?_
      refine wp_invS d_Fo_move_8 ow_Fo_move lk_7_214 (by decide) mi_Fo_isSheet rfl rfl (Nat.le_of_ble_eq_true rfl) rfl (show h_Fo_isSheet ≤ _ from by decide) (c_isSheet _ ?_)
      refine wp_Ki ?_
      refine wp_ifB_ne (pc' := 20) d_Fo_move_11 (by decide) (fun h11 => ?_) (fun h11 => absurd hw h11)
      refine wp_aload_n d_Fo_move_20 rfl rfl ?_
      refine wp_getR d_Fo_move_21 ow_Fo_move fl_7_50 (O_0 _) rfl ?_
      refine wp_iload_n d_Fo_move_24 rfl rfl ?_
      refine wp_aaload d_Fo_move_25 rfl (f_U (by omega)) (by decide) ?_
      refine wp_asto6 d_Fo_move_26 rfl ?_
      refine wp_aload_n d_Fo_move_28 rfl rfl ?_
      refine wp_getR d_Fo_move_29 ow_Fo_move fl_7_50 (O_0 _) rfl ?_
      refine wp_iload_n d_Fo_move_32 rfl rfl ?_
      refine wp_aaload d_Fo_move_33 rfl (f_U (by omega)) (by decide) ?_
      refine wp_asto7 d_Fo_move_34 rfl ?_
      refine wp_aload d_Fo_move_36 rfl ?_
      refine wp_getI d_Fo_move_38 ow_Fo_move fl_7_217 (O_U _ (by omega)) rfl (g1) ?_
      refine wp_if_eq (pc' := 52) d_Fo_move_41 (by decide) (fun h41 => absurd h41 hb1) (fun h41 => ?_)
      refine wp_aload d_Fo_move_44 rfl ?_
      refine wp_getI d_Fo_move_46 ow_Fo_move fl_7_217 (O_U _ (by omega)) rfl (k1) ?_
      refine wp_if_ne (pc' := 58) d_Fo_move_49 (by decide) (fun h49 => ?_) (fun h49 => absurd h49 hb2)
      refine wp_aload d_Fo_move_58 rfl ?_
      refine wp_getI d_Fo_move_60 ow_Fo_move fl_7_217 (O_U _ (by omega)) rfl (g1) ?_
      refine wp_aload d_Fo_move_63 rfl ?_
      refine wp_getI d_Fo_move_65 ow_Fo_move fl_7_217 (O_U _ (by omega)) rfl (k1) ?_
      refine wp_ic_eq (pc' := 77) d_Fo_move_68 (by decide) (fun h68 => ?_) (fun h68 => ?_)
      · refine wp_aload d_Fo_move_77 rfl ?_
        refine wp_iload_n d_Fo_move_79 rfl rfl ?_
        refine wp_iload d_Fo_move_80 rfl ?_
        refine wp_invV d_Fo_move_82 ow_Fo_move lk_7_260 (by decide) mi_Sh_holds rfl rfl (Nat.le_of_ble_eq_true rfl) rfl (wp_isC (O_U _ (by omega))) (show h_Sh_holds ≤ _ from by decide) (c_holds (by omega) g2 hzs1 _ _ ?_)
        refine wp_Ki ?_
        refine wp_ifB_eq (pc' := 100) d_Fo_move_85 (by decide) (fun h85 => ?_) (fun h85 => ?_)
        · refine wp_aload_n d_Fo_move_100 rfl rfl ?_
          refine wp_iconst (x := nI 1) d_Fo_move_101 rfl ?_
          refine wp_invV d_Fo_move_102 ow_Fo_move lk_7_70 (by decide) mi_Fo_error rfl rfl (Nat.le_of_ble_eq_true rfl) rfl (wp_isC (O_0 _)) (show h_Fo_error ≤ _ from by decide) (c_error 1 (by decide) (by decide) ?_)
          refine wp_Ki ?_
          refine wp_reti d_Fo_move_105 rt_Fo_move ?_
          first
          | exact cQ_er (e := 1) (K4 h68 (fun y => h85 ⟨y.1, y.2.1, y.2.2.2.1⟩)) (by decide) C fr.rf
          | exact cQ_er (e := 1) (K4 h68 (fun y => h97 ⟨y.1, y.2.2.1, y.2.2.2.2⟩)) (by decide) C fr.rf
        · refine wp_aload d_Fo_move_88 rfl ?_
          refine wp_iload d_Fo_move_90 rfl ?_
          refine wp_iload d_Fo_move_92 rfl ?_
          refine wp_invV d_Fo_move_94 ow_Fo_move lk_7_260 (by decide) mi_Sh_holds rfl rfl (Nat.le_of_ble_eq_true rfl) rfl (wp_isC (O_U _ (by omega))) (show h_Sh_holds ≤ _ from by decide) (c_holds (by omega) k2 hzo1 _ _ ?_)
          refine wp_Ki ?_
          refine wp_ifB_ne (pc' := 106) d_Fo_move_97 (by decide) (fun h97 => ?_) (fun h97 => ?_)
          · exact K106 h68 h85 h97
          · refine wp_aload_n d_Fo_move_100 rfl rfl ?_
            refine wp_iconst (x := nI 1) d_Fo_move_101 rfl ?_
            refine wp_invV d_Fo_move_102 ow_Fo_move lk_7_70 (by decide) mi_Fo_error rfl rfl (Nat.le_of_ble_eq_true rfl) rfl (wp_isC (O_0 _)) (show h_Fo_error ≤ _ from by decide) (c_error 1 (by decide) (by decide) ?_)
            refine wp_Ki ?_
            refine wp_reti d_Fo_move_105 rt_Fo_move ?_
            first
            | exact cQ_er (e := 1) (K4 h68 (fun y => h85 ⟨y.1, y.2.1, y.2.2.2.1⟩)) (by decide) C fr.rf
            | exact cQ_er (e := 1) (K4 h68 (fun y => h97 ⟨y.1, y.2.2.1, y.2.2.2.2⟩)) (by decide) C fr.rf
      · refine wp_aload_n d_Fo_move_71 rfl rfl ?_
        refine wp_iconst (x := nI 5) d_Fo_move_72 rfl ?_
        refine wp_invV d_Fo_move_73 ow_Fo_move lk_7_70 (by decide) mi_Fo_error rfl rfl (Nat.le_of_ble_eq_true rfl) rfl (wp_isC (O_0 _)) (show h_Fo_error ≤ _ from by decide) (c_error 5 (by decide) (by decide) ?_)
        refine wp_Ki ?_
        refine wp_reti d_Fo_move_76 rt_Fo_move ?_
        exact cQ_er (e := 5) (K3 h68) (by decide) C fr.rf
  · have K1 := K1 h
    refine cl_in ml_Fo_move rfl rfl ?_
    refine wp_iload_n d_Fo_move_0 rfl rfl ?_
    refine wp_invS d_Fo_move_1 ow_Fo_move lk_7_214 (by decide) mi_Fo_isSheet rfl rfl (Nat.le_of_ble_eq_true rfl) rfl (show h_Fo_isSheet ≤ _ from by decide) (c_isSheet _ ?_)
    refine wp_Ki ?_
    refine wp_ifB_eq (pc' := 14) d_Fo_move_4 (by decide) (fun h4 => ?_) (fun h4 => ?_)
    · refine wp_aload_n d_Fo_move_14 rfl rfl ?_
      refine wp_iconst (x := nI 1) d_Fo_move_15 rfl ?_
      refine wp_invV d_Fo_move_16 ow_Fo_move lk_7_70 (by decide) mi_Fo_error rfl rfl (Nat.le_of_ble_eq_true rfl) rfl (wp_isC (O_0 _)) (show h_Fo_error ≤ _ from by decide) (c_error 1 (by decide) (by decide) ?_)
      refine wp_Ki ?_
      refine wp_reti d_Fo_move_19 rt_Fo_move ?_
      exact cQ_er (e := 1) K1 (by decide) C fr.rf
    · refine wp_iload_n d_Fo_move_7 rfl rfl ?_
      refine wp_invS d_Fo_move_8 ow_Fo_move lk_7_214 (by decide) mi_Fo_isSheet rfl rfl (Nat.le_of_ble_eq_true rfl) rfl (show h_Fo_isSheet ≤ _ from by decide) (c_isSheet _ ?_)
      refine wp_Ki ?_
      refine wp_ifB_ne (pc' := 20) d_Fo_move_11 (by decide) (fun h11 => absurd ⟨h4, h11⟩ h) (fun h11 => ?_)
      refine wp_aload_n d_Fo_move_14 rfl rfl ?_
      refine wp_iconst (x := nI 1) d_Fo_move_15 rfl ?_
      refine wp_invV d_Fo_move_16 ow_Fo_move lk_7_70 (by decide) mi_Fo_error rfl rfl (Nat.le_of_ble_eq_true rfl) rfl (wp_isC (O_0 _)) (show h_Fo_error ≤ _ from by decide) (c_error 1 (by decide) (by decide) ?_)
      refine wp_Ki ?_
      refine wp_reti d_Fo_move_19 rt_Fo_move ?_
      exact cQ_er (e := 1) K1 (by decide) C fr.rf
end CP
