/-! the reference: more calls -/
def sp_tz (q : sp_R) (i : Nat) : sp_R := sp_up (sp_up (sp_up (sp_up (sp_up (sp_up q (13 + 10 * i + 4) (-1)) (13 + 10 * i + 5) (-1)) (13 + 10 * i + (6 + 0)) (nI 0)) (13 + 10 * i + (6 + 1)) (nI 0)) (13 + 10 * i + (6 + 2)) (nI 0)) (13 + 10 * i + (6 + 3)) (nI 0)
/-- ditches up to a field, behind a sum -/
def sp_cb (b : Int32) (q : sp_R) : Nat → Int32
  | 0 => b
  | k + 1 => sp_cb b q k + sp_f q k 3
section OV
variable {S : wp_S} {q : sp_R} {mu : Int32} {Q : Option Value → wp_S → Prop}
theorem m_isTold (C : mC S q mu) (i : Nat) (hi : i < 10) (K : ∀ S', mC S' (sp_tz q i) mu → fr mR S S' → Q none S') : cl h_Mo_isTold y_Mo_isTold [.ref k_Mo, .int (nI i)] S Q := by
  refine cl_in ml_Mo_isTold rfl rfl ?_
  refine wp_aload_n d_Mo_isTold_0 rfl rfl ?_
  refine wp_iload_n d_Mo_isTold_1 rfl rfl ?_
  refine wp_iconst (x := nI 4) d_Mo_isTold_2 rfl ?_
  refine wp_iconst (x := -1) d_Mo_isTold_3 rfl ?_
  refine wp_invV d_Mo_isTold_4 ow_Mo_isTold lk_8_64 (by decide) mi_Mo_puts rfl rfl (Nat.le_of_ble_eq_true rfl) rfl (wp_isC (O_91 _)) (show h_Mo_puts ≤ _ from by decide) (m_puts i _ _ (by omega) ?_)
  refine wp_Kv ?_
  refine wp_aload_n d_Mo_isTold_7 rfl rfl ?_
  refine wp_iload_n d_Mo_isTold_8 rfl rfl ?_
  refine wp_iconst (x := nI 5) d_Mo_isTold_9 rfl ?_
  refine wp_iconst (x := -1) d_Mo_isTold_10 rfl ?_
  refine wp_invV d_Mo_isTold_11 ow_Mo_isTold lk_8_64 (by decide) mi_Mo_puts rfl rfl (Nat.le_of_ble_eq_true rfl) rfl (wp_isC (O_91 _)) (show h_Mo_puts ≤ _ from by decide) (m_puts i _ _ (by omega) ?_)
  refine wp_Kv ?_
  refine wp_iconst (x := nI 0) d_Mo_isTold_14 rfl ?_
  refine wp_iston2 d_Mo_isTold_15 rfl ?_
  refine wp_iload_n d_Mo_isTold_16 rfl rfl ?_
  refine wp_iconst (x := nI 4) d_Mo_isTold_17 rfl ?_
  refine wp_icN_ge (pc' := 37) d_Mo_isTold_18 (by decide) (by omega) (by omega) (fun q => absurd q (by decide)) (fun _ => ?_)
  refine wp_aload_n d_Mo_isTold_21 rfl rfl ?_
  refine wp_iload_n d_Mo_isTold_22 rfl rfl ?_
  refine wp_bipush (x := nI 6) d_Mo_isTold_23 (by decide) ?_
  refine wp_iload_n d_Mo_isTold_25 rfl rfl ?_
  refine wp_iadd d_Mo_isTold_26 (nI_add _ _) ?_
  refine wp_iconst (x := nI 0) d_Mo_isTold_27 rfl ?_
  refine wp_invV d_Mo_isTold_28 ow_Mo_isTold lk_8_64 (by decide) mi_Mo_puts rfl rfl (Nat.le_of_ble_eq_true rfl) rfl (wp_isC (O_91 _)) (show h_Mo_puts ≤ _ from by decide) (m_puts i _ _ (by omega) ?_)
  refine wp_Kv ?_
  refine wp_iinc2 (v := nI 1) d_Mo_isTold_31 rfl rfl ?_
  refine wp_goto (pc' := 16) d_Mo_isTold_34 (by decide) ?_
  refine wp_iload_n d_Mo_isTold_16 rfl rfl ?_
  refine wp_iconst (x := nI 4) d_Mo_isTold_17 rfl ?_
  refine wp_icN_ge (pc' := 37) d_Mo_isTold_18 (by decide) (by omega) (by omega) (fun q => absurd q (by decide)) (fun _ => ?_)
  refine wp_aload_n d_Mo_isTold_21 rfl rfl ?_
  refine wp_iload_n d_Mo_isTold_22 rfl rfl ?_
  refine wp_bipush (x := nI 6) d_Mo_isTold_23 (by decide) ?_
  refine wp_iload_n d_Mo_isTold_25 rfl rfl ?_
  refine wp_iadd d_Mo_isTold_26 (nI_add _ _) ?_
  refine wp_iconst (x := nI 0) d_Mo_isTold_27 rfl ?_
  refine wp_invV d_Mo_isTold_28 ow_Mo_isTold lk_8_64 (by decide) mi_Mo_puts rfl rfl (Nat.le_of_ble_eq_true rfl) rfl (wp_isC (O_91 _)) (show h_Mo_puts ≤ _ from by decide) (m_puts i _ _ (by omega) ?_)
  refine wp_Kv ?_
  refine wp_iinc2 (v := nI 2) d_Mo_isTold_31 rfl rfl ?_
  refine wp_goto (pc' := 16) d_Mo_isTold_34 (by decide) ?_
  refine wp_iload_n d_Mo_isTold_16 rfl rfl ?_
  refine wp_iconst (x := nI 4) d_Mo_isTold_17 rfl ?_
  refine wp_icN_ge (pc' := 37) d_Mo_isTold_18 (by decide) (by omega) (by omega) (fun q => absurd q (by decide)) (fun _ => ?_)
  refine wp_aload_n d_Mo_isTold_21 rfl rfl ?_
  refine wp_iload_n d_Mo_isTold_22 rfl rfl ?_
  refine wp_bipush (x := nI 6) d_Mo_isTold_23 (by decide) ?_
  refine wp_iload_n d_Mo_isTold_25 rfl rfl ?_
  refine wp_iadd d_Mo_isTold_26 (nI_add _ _) ?_
  refine wp_iconst (x := nI 0) d_Mo_isTold_27 rfl ?_
  refine wp_invV d_Mo_isTold_28 ow_Mo_isTold lk_8_64 (by decide) mi_Mo_puts rfl rfl (Nat.le_of_ble_eq_true rfl) rfl (wp_isC (O_91 _)) (show h_Mo_puts ≤ _ from by decide) (m_puts i _ _ (by omega) ?_)
  refine wp_Kv ?_
  refine wp_iinc2 (v := nI 3) d_Mo_isTold_31 rfl rfl ?_
  refine wp_goto (pc' := 16) d_Mo_isTold_34 (by decide) ?_
  refine wp_iload_n d_Mo_isTold_16 rfl rfl ?_
  refine wp_iconst (x := nI 4) d_Mo_isTold_17 rfl ?_
  refine wp_icN_ge (pc' := 37) d_Mo_isTold_18 (by decide) (by omega) (by omega) (fun q => absurd q (by decide)) (fun _ => ?_)
  refine wp_aload_n d_Mo_isTold_21 rfl rfl ?_
  refine wp_iload_n d_Mo_isTold_22 rfl rfl ?_
  refine wp_bipush (x := nI 6) d_Mo_isTold_23 (by decide) ?_
  refine wp_iload_n d_Mo_isTold_25 rfl rfl ?_
  refine wp_iadd d_Mo_isTold_26 (nI_add _ _) ?_
  refine wp_iconst (x := nI 0) d_Mo_isTold_27 rfl ?_
  refine wp_invV d_Mo_isTold_28 ow_Mo_isTold lk_8_64 (by decide) mi_Mo_puts rfl rfl (Nat.le_of_ble_eq_true rfl) rfl (wp_isC (O_91 _)) (show h_Mo_puts ≤ _ from by decide) (m_puts i _ _ (by omega) ?_)
  refine wp_Kv ?_
  refine wp_iinc2 (v := nI 4) d_Mo_isTold_31 rfl rfl ?_
  refine wp_goto (pc' := 16) d_Mo_isTold_34 (by decide) ?_
  refine wp_iload_n d_Mo_isTold_16 rfl rfl ?_
  refine wp_iconst (x := nI 4) d_Mo_isTold_17 rfl ?_
  refine wp_icN_ge (pc' := 37) d_Mo_isTold_18 (by decide) (by omega) (by omega) (fun _ => ?_) (fun q => absurd q (by decide))
  refine wp_return d_Mo_isTold_37 rt_Mo_isTold ?_
  exact K _ (mC_u (mC_u (mC_u (mC_u (mC_u (mC_u C _ _) _ _) _ _) _ _) _ _) _ _) ((((((fr.rf.up ⟨rfl, by omega⟩).up ⟨rfl, by omega⟩).up ⟨rfl, by omega⟩).up ⟨rfl, by omega⟩).up ⟨rfl, by omega⟩).up ⟨rfl, by omega⟩)
noncomputable def op_forgets (q : sp_R) (v : Int32) : sp_Out := sp_if (sp_isF q v) (0, sp_all q v.toNatClampNeg, sp_tz q v.toNatClampNeg) (sp_bad q 1)
theorem m_forgets (C : mC S q (-1)) (hw : sp_wf q) (v : Int32) (K : mQ S (op_forgets q v) Q) : cl h_Mo_forgets y_Mo_forgets [.ref k_Mo, .int v] S Q := by
  have hn := hw.n
  unfold op_forgets at K
  by_cases h : sp_isF q v
  · rw [sp_if_t h] at K
    obtain ⟨i, hi, rfl⟩ := sp_isF_of hw h
    rw [nI_clamp (by omega)] at K
    refine cl_in ml_Mo_forgets rfl rfl ?_
    refine wp_aload_n d_Mo_forgets_0 rfl rfl ?_
    refine wp_iload_n d_Mo_forgets_1 rfl rfl ?_
    refine wp_invV d_Mo_forgets_2 ow_Mo_forgets lk_8_93 (by decide) mi_Mo_isField rfl rfl (Nat.le_of_ble_eq_true rfl) rfl (wp_isC (O_91 _)) (show h_Mo_isField ≤ _ from by decide) (m_isField C.1 _ ?_)
    refine wp_Ki ?_
    refine wp_ifB_ne (pc' := 15) d_Mo_forgets_5 (by decide) (fun h5 => ?_) (fun h5 => absurd h h5)
    refine wp_aload_n d_Mo_forgets_15 rfl rfl ?_
    refine wp_iload_n d_Mo_forgets_16 rfl rfl ?_
    refine wp_invV d_Mo_forgets_17 ow_Mo_forgets lk_8_83 (by decide) mi_Mo_toldBy rfl rfl (Nat.le_of_ble_eq_true rfl) rfl (wp_isC (O_91 _)) (show h_Mo_toldBy ≤ _ from by decide) (m_toldBy C.1 i (by omega) ?_)
    refine wp_Ki ?_
    refine wp_iston2 d_Mo_forgets_20 rfl ?_
    refine wp_aload_n d_Mo_forgets_21 rfl rfl ?_
    refine wp_iload_n d_Mo_forgets_22 rfl rfl ?_
    refine wp_invV d_Mo_forgets_23 ow_Mo_forgets lk_8_68 (by decide) mi_Mo_isTold rfl rfl (Nat.le_of_ble_eq_true rfl) rfl (wp_isC (O_91 _)) (show h_Mo_isTold ≤ _ from by decide) (m_isTold C i (by omega) (fun S2 C2 f2 => ?_))
    refine wp_Kv ?_
    refine wp_iload_n d_Mo_forgets_26 rfl rfl ?_
    refine wp_reti d_Mo_forgets_27 rt_Mo_forgets ?_
    exact mQ_ok K C2 (fr_YR f2)
  · rw [sp_if_f h] at K
    refine cl_in ml_Mo_forgets rfl rfl ?_
    refine wp_aload_n d_Mo_forgets_0 rfl rfl ?_
    refine wp_iload_n d_Mo_forgets_1 rfl rfl ?_
    refine wp_invV d_Mo_forgets_2 ow_Mo_forgets lk_8_93 (by decide) mi_Mo_isField rfl rfl (Nat.le_of_ble_eq_true rfl) rfl (wp_isC (O_91 _)) (show h_Mo_isField ≤ _ from by decide) (m_isField C.1 _ ?_)
    refine wp_Ki ?_
    refine wp_ifB_ne (pc' := 15) d_Mo_forgets_5 (by decide) (fun h5 => absurd h5 h) (fun h5 => ?_)
    refine wp_aload_n d_Mo_forgets_8 rfl rfl ?_
    refine wp_ldc (v := .int (-1000000001)) d_Mo_forgets_9 ow_Mo_forgets (by decide +kernel) ?_
    refine wp_invV d_Mo_forgets_11 ow_Mo_forgets lk_8_59 (by decide) mi_Mo_errs rfl rfl (Nat.le_of_ble_eq_true rfl) rfl (wp_isC (O_91 _)) (show h_Mo_errs ≤ _ from by decide) (m_errs _ 1 (by decide) (by decide) ?_)
    refine wp_Ki ?_
    refine wp_reti d_Mo_forgets_14 rt_Mo_forgets ?_
    exact lf_i (by decide) (mQ_er (e := 1) K (by decide) C fr.rf)
def sp_fi (q : sp_R) (km : Nat) (a : Int32) : sp_R := sp_up (sp_tz (sp_up (sp_up (sp_up (sp_up q (13 + 10 * sp_n q + 0) (nI (km / 10))) (13 + 10 * sp_n q + 1) (nI (km % 10))) (13 + 10 * sp_n q + 2) a) (13 + 10 * sp_n q + 3) (nI 0)) (sp_n q)) 0 (nI (sp_n q + 1))
noncomputable def op_field (q : sp_R) (w a : Int32) : sp_Out := sp_if (sp_isW w 69 ∧ nI 1 ≤ a ∧ a ≤ nI 99) (sp_if (sp_n q = 10) (sp_bad q 4) (0, nI (sp_n q), sp_fi q w.toNatClampNeg a)) (sp_bad q 1)
theorem sp_tz_0 (q : sp_R) (i : Nat) : sp_tz q i 0 = q 0 := by
  unfold sp_tz
  rw [sp_up_ne _ _ (by omega), sp_up_ne _ _ (by omega), sp_up_ne _ _ (by omega), sp_up_ne _ _ (by omega), sp_up_ne _ _ (by omega), sp_up_ne _ _ (by omega)]
theorem m_field (C : mC S q (-1)) (hw : sp_wf q) (w a : Int32) (K : mQ S (op_field q w a) Q) : cl h_Mo_field y_Mo_field [.ref k_Mo, .int w, .int a] S Q := by
  have hn := hw.n
  unfold op_field at K
  by_cases h : sp_isW w 69 ∧ nI 1 ≤ a ∧ a ≤ nI 99
  · rw [sp_if_t h] at K
    obtain ⟨km, hk, rfl⟩ := (i_in (by decide)).mp h.1
    rw [nI_clamp (by omega)] at K
    by_cases h10 : sp_n q = 10
    · rw [sp_if_t h10] at K
      refine cl_in ml_Mo_field rfl rfl ?_
      refine wp_iload_n d_Mo_field_0 rfl rfl ?_
      refine wp_iconst (x := nI 0) d_Mo_field_1 rfl ?_
      refine wp_bipush (x := nI 69) d_Mo_field_2 (by decide) ?_
      refine wp_invS d_Mo_field_4 ow_Mo_field lk_8_54 (by decide) mi_Mo_in rfl rfl (Nat.le_of_ble_eq_true rfl) rfl (show h_Mo_in ≤ _ from by decide) (m_in _ _ _ ?_)
      refine wp_Ki ?_
      refine wp_ifB_eq (pc' := 20) d_Mo_field_7 (by decide) (fun h7 => absurd h.1 h7) (fun h7 => ?_)
      refine wp_iload_n d_Mo_field_10 rfl rfl ?_
      refine wp_iconst (x := nI 1) d_Mo_field_11 rfl ?_
      refine wp_bipush (x := nI 99) d_Mo_field_12 (by decide) ?_
      refine wp_invS d_Mo_field_14 ow_Mo_field lk_8_54 (by decide) mi_Mo_in rfl rfl (Nat.le_of_ble_eq_true rfl) rfl (show h_Mo_in ≤ _ from by decide) (m_in _ _ _ ?_)
      refine wp_Ki ?_
      refine wp_ifB_ne (pc' := 27) d_Mo_field_17 (by decide) (fun h17 => ?_) (fun h17 => absurd h.2 h17)
      refine wp_aload_n d_Mo_field_27 rfl rfl ?_
      refine wp_getR d_Mo_field_28 ow_Mo_field fl_8_7 (O_91 _) rfl ?_
      refine wp_iconst (x := nI 0) d_Mo_field_31 rfl ?_
      refine wp_iaload d_Mo_field_32 (A_92 _) (by omega) (by decide) ((congrFun C.1 0).trans hn.2) ?_
      refine wp_bipush (x := nI 10) d_Mo_field_33 (by decide) ?_
      refine wp_icN_ne (pc' := 45) d_Mo_field_35 (by decide) (by omega) (by omega) (fun h35 => absurd h10 h35) (fun h35 => ?_)
      refine wp_aload_n d_Mo_field_38 rfl rfl ?_
      refine wp_ldc (v := .int (-1000000004)) d_Mo_field_39 ow_Mo_field (by decide +kernel) ?_
      refine wp_invV d_Mo_field_41 ow_Mo_field lk_8_59 (by decide) mi_Mo_errs rfl rfl (Nat.le_of_ble_eq_true rfl) rfl (wp_isC (O_91 _)) (show h_Mo_errs ≤ _ from by decide) (m_errs _ 4 (by decide) (by decide) ?_)
      refine wp_Ki ?_
      refine wp_reti d_Mo_field_44 rt_Mo_field ?_
      exact lf_i (by decide) (mQ_er (e := 4) K (by decide) C fr.rf)
    · rw [sp_if_f h10] at K
      have e0 : ∀ x y z t, sp_tz (sp_up (sp_up (sp_up (sp_up q (13 + 10 * sp_n q + 0) x) (13 + 10 * sp_n q + 1) y) (13 + 10 * sp_n q + 2) z) (13 + 10 * sp_n q + 3) t) (sp_n q) 0 = nI (sp_n q) := fun x y z t => by
        rw [sp_tz_0, sp_up_ne _ _ (by omega), sp_up_ne _ _ (by omega), sp_up_ne _ _ (by omega), sp_up_ne _ _ (by omega)]
        exact hn.2
      refine cl_in ml_Mo_field rfl rfl ?_
      refine wp_iload_n d_Mo_field_0 rfl rfl ?_
      refine wp_iconst (x := nI 0) d_Mo_field_1 rfl ?_
      refine wp_bipush (x := nI 69) d_Mo_field_2 (by decide) ?_
      refine wp_invS d_Mo_field_4 ow_Mo_field lk_8_54 (by decide) mi_Mo_in rfl rfl (Nat.le_of_ble_eq_true rfl) rfl (show h_Mo_in ≤ _ from by decide) (m_in _ _ _ ?_)
      refine wp_Ki ?_
      refine wp_ifB_eq (pc' := 20) d_Mo_field_7 (by decide) (fun h7 => absurd h.1 h7) (fun h7 => ?_)
      refine wp_iload_n d_Mo_field_10 rfl rfl ?_
      refine wp_iconst (x := nI 1) d_Mo_field_11 rfl ?_
      refine wp_bipush (x := nI 99) d_Mo_field_12 (by decide) ?_
      refine wp_invS d_Mo_field_14 ow_Mo_field lk_8_54 (by decide) mi_Mo_in rfl rfl (Nat.le_of_ble_eq_true rfl) rfl (show h_Mo_in ≤ _ from by decide) (m_in _ _ _ ?_)
      refine wp_Ki ?_
      refine wp_ifB_ne (pc' := 27) d_Mo_field_17 (by decide) (fun h17 => ?_) (fun h17 => absurd h.2 h17)
      refine wp_aload_n d_Mo_field_27 rfl rfl ?_
      refine wp_getR d_Mo_field_28 ow_Mo_field fl_8_7 (O_91 _) rfl ?_
      refine wp_iconst (x := nI 0) d_Mo_field_31 rfl ?_
      refine wp_iaload d_Mo_field_32 (A_92 _) (by omega) (by decide) ((congrFun C.1 0).trans hn.2) ?_
      refine wp_bipush (x := nI 10) d_Mo_field_33 (by decide) ?_
      refine wp_icN_ne (pc' := 45) d_Mo_field_35 (by decide) (by omega) (by omega) (fun h35 => ?_) (fun h35 => absurd h35 h10)
      refine wp_aload_n d_Mo_field_45 rfl rfl ?_
      refine wp_getR d_Mo_field_46 ow_Mo_field fl_8_7 (O_91 _) rfl ?_
      refine wp_iconst (x := nI 0) d_Mo_field_49 rfl ?_
      refine wp_iaload d_Mo_field_50 (A_92 _) (by omega) (by decide) ((congrFun C.1 0).trans hn.2) ?_
      refine wp_iston3 d_Mo_field_51 rfl ?_
      refine wp_aload_n d_Mo_field_52 rfl rfl ?_
      refine wp_iload_n d_Mo_field_53 rfl rfl ?_
      refine wp_iconst (x := nI 0) d_Mo_field_54 rfl ?_
      refine wp_iload_n d_Mo_field_55 rfl rfl ?_
      refine wp_bipush (x := nI 10) d_Mo_field_56 (by decide) ?_
      refine wp_idivN d_Mo_field_58 (by omega) (by omega) (by omega) ?_
      refine wp_invV d_Mo_field_59 ow_Mo_field lk_8_64 (by decide) mi_Mo_puts rfl rfl (Nat.le_of_ble_eq_true rfl) rfl (wp_isC (O_91 _)) (show h_Mo_puts ≤ _ from by decide) (m_puts (sp_n q) _ _ (by omega) ?_)
      refine wp_Kv ?_
      refine wp_aload_n d_Mo_field_62 rfl rfl ?_
      refine wp_iload_n d_Mo_field_63 rfl rfl ?_
      refine wp_iconst (x := nI 1) d_Mo_field_64 rfl ?_
      refine wp_iload_n d_Mo_field_65 rfl rfl ?_
      refine wp_bipush (x := nI 10) d_Mo_field_66 (by decide) ?_
      refine wp_iremN d_Mo_field_68 (by omega) (by omega) (by omega) ?_
      refine wp_invV d_Mo_field_69 ow_Mo_field lk_8_64 (by decide) mi_Mo_puts rfl rfl (Nat.le_of_ble_eq_true rfl) rfl (wp_isC (O_91 _)) (show h_Mo_puts ≤ _ from by decide) (m_puts (sp_n q) _ _ (by omega) ?_)
      refine wp_Kv ?_
      refine wp_aload_n d_Mo_field_72 rfl rfl ?_
      refine wp_iload_n d_Mo_field_73 rfl rfl ?_
      refine wp_iconst (x := nI 2) d_Mo_field_74 rfl ?_
      refine wp_iload_n d_Mo_field_75 rfl rfl ?_
      refine wp_invV d_Mo_field_76 ow_Mo_field lk_8_64 (by decide) mi_Mo_puts rfl rfl (Nat.le_of_ble_eq_true rfl) rfl (wp_isC (O_91 _)) (show h_Mo_puts ≤ _ from by decide) (m_puts (sp_n q) _ _ (by omega) ?_)
      refine wp_Kv ?_
      refine wp_aload_n d_Mo_field_79 rfl rfl ?_
      refine wp_iload_n d_Mo_field_80 rfl rfl ?_
      refine wp_iconst (x := nI 3) d_Mo_field_81 rfl ?_
      refine wp_iconst (x := nI 0) d_Mo_field_82 rfl ?_
      refine wp_invV d_Mo_field_83 ow_Mo_field lk_8_64 (by decide) mi_Mo_puts rfl rfl (Nat.le_of_ble_eq_true rfl) rfl (wp_isC (O_91 _)) (show h_Mo_puts ≤ _ from by decide) (m_puts (sp_n q) _ _ (by omega) ?_)
      refine wp_Kv ?_
      refine wp_aload_n d_Mo_field_86 rfl rfl ?_
      refine wp_iload_n d_Mo_field_87 rfl rfl ?_
      refine wp_invV d_Mo_field_88 ow_Mo_field lk_8_68 (by decide) mi_Mo_isTold rfl rfl (Nat.le_of_ble_eq_true rfl) rfl (wp_isC (O_91 _)) (show h_Mo_isTold ≤ _ from by decide) (m_isTold (mC_u (mC_u (mC_u (mC_u C _ _) _ _) _ _) _ _) (sp_n q) (by omega) (fun S2 C2 f2 => ?_))
      refine wp_Kv ?_
      refine wp_aload_n d_Mo_field_91 rfl rfl ?_
      refine wp_getR d_Mo_field_92 ow_Mo_field fl_8_7 (O_91 _) rfl ?_
      refine wp_iconst (x := nI 0) d_Mo_field_95 rfl ?_
      refine wp_dup2 d_Mo_field_96 ⟨rfl, rfl⟩ ?_
      refine wp_iaload d_Mo_field_97 (A_92 _) (by omega) (by decide) ((congrFun C2.1 0).trans (e0 _ _ _ _)) ?_
      refine wp_iconst (x := nI 1) d_Mo_field_98 rfl ?_
      refine wp_iadd d_Mo_field_99 (nI_add _ _) ?_
      refine wp_iastore d_Mo_field_100 (A_92 _) (by omega) (by decide) ?_
      refine wp_iload_n d_Mo_field_101 rfl rfl ?_
      refine wp_reti d_Mo_field_102 rt_Mo_field ?_
      exact mQ_ok K (mC_u C2 _ _) (fr_YR ((((((fr.rf.up ⟨rfl, by omega⟩).up ⟨rfl, by omega⟩).up ⟨rfl, by omega⟩).up ⟨rfl, by omega⟩).tr f2).up ⟨rfl, by decide⟩))
  · rw [sp_if_f h] at K
    refine cl_in ml_Mo_field rfl rfl ?_
    refine wp_iload_n d_Mo_field_0 rfl rfl ?_
    refine wp_iconst (x := nI 0) d_Mo_field_1 rfl ?_
    refine wp_bipush (x := nI 69) d_Mo_field_2 (by decide) ?_
    refine wp_invS d_Mo_field_4 ow_Mo_field lk_8_54 (by decide) mi_Mo_in rfl rfl (Nat.le_of_ble_eq_true rfl) rfl (show h_Mo_in ≤ _ from by decide) (m_in _ _ _ ?_)
    refine wp_Ki ?_
    refine wp_ifB_eq (pc' := 20) d_Mo_field_7 (by decide) (fun h7 => ?_) (fun h7 => ?_)
    · refine wp_aload_n d_Mo_field_20 rfl rfl ?_
      refine wp_ldc (v := .int (-1000000001)) d_Mo_field_21 ow_Mo_field (by decide +kernel) ?_
      refine wp_invV d_Mo_field_23 ow_Mo_field lk_8_59 (by decide) mi_Mo_errs rfl rfl (Nat.le_of_ble_eq_true rfl) rfl (wp_isC (O_91 _)) (show h_Mo_errs ≤ _ from by decide) (m_errs _ 1 (by decide) (by decide) ?_)
      refine wp_Ki ?_
      refine wp_reti d_Mo_field_26 rt_Mo_field ?_
      exact lf_i (by decide) (mQ_er (e := 1) K (by decide) C fr.rf)
    · refine wp_iload_n d_Mo_field_10 rfl rfl ?_
      refine wp_iconst (x := nI 1) d_Mo_field_11 rfl ?_
      refine wp_bipush (x := nI 99) d_Mo_field_12 (by decide) ?_
      refine wp_invS d_Mo_field_14 ow_Mo_field lk_8_54 (by decide) mi_Mo_in rfl rfl (Nat.le_of_ble_eq_true rfl) rfl (show h_Mo_in ≤ _ from by decide) (m_in _ _ _ ?_)
      refine wp_Ki ?_
      refine wp_ifB_ne (pc' := 27) d_Mo_field_17 (by decide) (fun h17 => absurd ⟨h7, h17⟩ h) (fun h17 => ?_)
      refine wp_aload_n d_Mo_field_20 rfl rfl ?_
      refine wp_ldc (v := .int (-1000000001)) d_Mo_field_21 ow_Mo_field (by decide +kernel) ?_
      refine wp_invV d_Mo_field_23 ow_Mo_field lk_8_59 (by decide) mi_Mo_errs rfl rfl (Nat.le_of_ble_eq_true rfl) rfl (wp_isC (O_91 _)) (show h_Mo_errs ≤ _ from by decide) (m_errs _ 1 (by decide) (by decide) ?_)
      refine wp_Ki ?_
      refine wp_reti d_Mo_field_26 rt_Mo_field ?_
      exact lf_i (by decide) (mQ_er (e := 1) K (by decide) C fr.rf)
noncomputable def op_loose (q : sp_R) (v : Int32) : sp_Out := sp_if (nI 1 ≤ v ∧ v ≤ nI 100) (sp_if (sp_n q = 0) (sp_bad q 3) (0, nI (sp_lo q (-1) v.toNatClampNeg).2, (sp_lo q (-1) v.toNatClampNeg).1)) (sp_bad q 1)
theorem m_loose (C : mC S q (-1)) (hw : sp_wf q) (v : Int32) (K : mQ S (op_loose q v) Q) : cl h_Mo_loose y_Mo_loose [.ref k_Mo, .int v] S Q := by
  have hn := hw.n
  unfold op_loose at K
  by_cases h : nI 1 ≤ v ∧ v ≤ nI 100
  · rw [sp_if_t h] at K
    obtain ⟨N, hN, rfl⟩ := (i_in (v := v) (n := 100) (by decide)).mp ⟨Int32.le_trans (by decide) h.1, h.2⟩
    rw [nI_clamp (by omega)] at K
    by_cases h0 : sp_n q = 0
    · rw [sp_if_t h0] at K
      refine cl_in ml_Mo_loose rfl rfl ?_
      refine wp_iload_n d_Mo_loose_0 rfl rfl ?_
      refine wp_iconst (x := nI 1) d_Mo_loose_1 rfl ?_
      refine wp_bipush (x := nI 100) d_Mo_loose_2 (by decide) ?_
      refine wp_invS d_Mo_loose_4 ow_Mo_loose lk_8_54 (by decide) mi_Mo_in rfl rfl (Nat.le_of_ble_eq_true rfl) rfl (show h_Mo_in ≤ _ from by decide) (m_in _ _ _ ?_)
      refine wp_Ki ?_
      refine wp_ifB_ne (pc' := 17) d_Mo_loose_7 (by decide) (fun h7 => ?_) (fun h7 => absurd h h7)
      refine wp_aload_n d_Mo_loose_17 rfl rfl ?_
      refine wp_getR d_Mo_loose_18 ow_Mo_loose fl_8_7 (O_91 _) rfl ?_
      refine wp_iconst (x := nI 0) d_Mo_loose_21 rfl ?_
      refine wp_iaload d_Mo_loose_22 (A_92 _) (by omega) (by decide) ((congrFun C.1 0).trans hn.2) ?_
      refine wp_ifN_ne (pc' := 33) d_Mo_loose_23 (by decide) (by omega) (fun h23 => absurd h0 h23) (fun h23 => ?_)
      refine wp_aload_n d_Mo_loose_26 rfl rfl ?_
      refine wp_ldc (v := .int (-1000000003)) d_Mo_loose_27 ow_Mo_loose (by decide +kernel) ?_
      refine wp_invV d_Mo_loose_29 ow_Mo_loose lk_8_59 (by decide) mi_Mo_errs rfl rfl (Nat.le_of_ble_eq_true rfl) rfl (wp_isC (O_91 _)) (show h_Mo_errs ≤ _ from by decide) (m_errs _ 3 (by decide) (by decide) ?_)
      refine wp_Ki ?_
      refine wp_reti d_Mo_loose_32 rt_Mo_loose ?_
      exact lf_i (by decide) (mQ_er (e := 3) K (by decide) C fr.rf)
    · rw [sp_if_f h0] at K
      refine cl_in ml_Mo_loose rfl rfl ?_
      refine wp_iload_n d_Mo_loose_0 rfl rfl ?_
      refine wp_iconst (x := nI 1) d_Mo_loose_1 rfl ?_
      refine wp_bipush (x := nI 100) d_Mo_loose_2 (by decide) ?_
      refine wp_invS d_Mo_loose_4 ow_Mo_loose lk_8_54 (by decide) mi_Mo_in rfl rfl (Nat.le_of_ble_eq_true rfl) rfl (show h_Mo_in ≤ _ from by decide) (m_in _ _ _ ?_)
      refine wp_Ki ?_
      refine wp_ifB_ne (pc' := 17) d_Mo_loose_7 (by decide) (fun h7 => ?_) (fun h7 => absurd h h7)
      refine wp_aload_n d_Mo_loose_17 rfl rfl ?_
      refine wp_getR d_Mo_loose_18 ow_Mo_loose fl_8_7 (O_91 _) rfl ?_
      refine wp_iconst (x := nI 0) d_Mo_loose_21 rfl ?_
      refine wp_iaload d_Mo_loose_22 (A_92 _) (by omega) (by decide) ((congrFun C.1 0).trans hn.2) ?_
      refine wp_ifN_ne (pc' := 33) d_Mo_loose_23 (by decide) (by omega) (fun h23 => ?_) (fun h23 => absurd h23 h0)
      refine wp_iconst (x := nI 0) d_Mo_loose_33 rfl ?_
      refine wp_iston2 d_Mo_loose_34 rfl ?_
      refine wp_iconst (x := nI 0) d_Mo_loose_35 rfl ?_
      refine wp_iston3 d_Mo_loose_36 rfl ?_
      exact m_lo_loop q hw (by omega) N hN (fun S' C' f' => mQ_ok K C' (fr_YW f')) N 0 S none none (Nat.zero_add _) C fr.rf
  · rw [sp_if_f h] at K
    refine cl_in ml_Mo_loose rfl rfl ?_
    refine wp_iload_n d_Mo_loose_0 rfl rfl ?_
    refine wp_iconst (x := nI 1) d_Mo_loose_1 rfl ?_
    refine wp_bipush (x := nI 100) d_Mo_loose_2 (by decide) ?_
    refine wp_invS d_Mo_loose_4 ow_Mo_loose lk_8_54 (by decide) mi_Mo_in rfl rfl (Nat.le_of_ble_eq_true rfl) rfl (show h_Mo_in ≤ _ from by decide) (m_in _ _ _ ?_)
    refine wp_Ki ?_
    refine wp_ifB_ne (pc' := 17) d_Mo_loose_7 (by decide) (fun h7 => absurd h7 h) (fun h7 => ?_)
    refine wp_aload_n d_Mo_loose_10 rfl rfl ?_
    refine wp_ldc (v := .int (-1000000001)) d_Mo_loose_11 ow_Mo_loose (by decide +kernel) ?_
    refine wp_invV d_Mo_loose_13 ow_Mo_loose lk_8_59 (by decide) mi_Mo_errs rfl rfl (Nat.le_of_ble_eq_true rfl) rfl (wp_isC (O_91 _)) (show h_Mo_errs ≤ _ from by decide) (m_errs _ 1 (by decide) (by decide) ?_)
    refine wp_Ki ?_
    refine wp_reti d_Mo_loose_16 rt_Mo_loose ?_
    exact lf_i (by decide) (mQ_er (e := 1) K (by decide) C fr.rf)
theorem m_cb_loop (hq : S.2 92 = q) (i : Nat) (hi : i < 10) (b : Int32) (K : Q (some (.int (sp_cb b q (i + 1)))) S) : ∀ m k, k + m = i + 1 → wp (h_Mo_coachAt - 1) y_Mo_coachAt 14 [some (.ref 91), some (.int (nI i)), some (.int (sp_cb b q k)), some (.int (nI k))] [] S Q := by
  intro m
  induction m with
  | zero =>
    intro k hk
    obtain rfl : k = i + 1 := by omega
    refine wp_iload_n d_Mo_coachAt_14 rfl rfl ?_
    refine wp_iload_n d_Mo_coachAt_15 rfl rfl ?_
    refine wp_icN_gt (pc' := 34) d_Mo_coachAt_16 (by decide) (by omega) (by omega) (fun h16 => ?_) (fun h16 => absurd h16 (by omega))
    refine wp_iload_n d_Mo_coachAt_34 rfl rfl ?_
    refine wp_reti d_Mo_coachAt_35 rt_Mo_coachAt ?_
    exact K
  | succ m ih =>
    intro k hk
    refine wp_iload_n d_Mo_coachAt_14 rfl rfl ?_
    refine wp_iload_n d_Mo_coachAt_15 rfl rfl ?_
    refine wp_icN_gt (pc' := 34) d_Mo_coachAt_16 (by decide) (by omega) (by omega) (fun h16 => absurd h16 (by omega)) (fun h16 => ?_)
    refine wp_iload_n d_Mo_coachAt_19 rfl rfl ?_
    refine wp_aload_n d_Mo_coachAt_20 rfl rfl ?_
    refine wp_iload_n d_Mo_coachAt_21 rfl rfl ?_
    refine wp_iconst (x := nI 3) d_Mo_coachAt_22 rfl ?_
    refine wp_invV d_Mo_coachAt_23 ow_Mo_coachAt lk_8_72 (by decide) mi_Mo_its rfl rfl (Nat.le_of_ble_eq_true rfl) rfl (wp_isC (O_91 _)) (show h_Mo_its ≤ _ from by decide) (m_its hq k 3 (by omega) ?_)
    refine wp_Ki ?_
    refine wp_iadd d_Mo_coachAt_26 rfl ?_
    refine wp_iston2 d_Mo_coachAt_27 rfl ?_
    refine wp_iinc3 d_Mo_coachAt_28 rfl (nI_add _ 1) ?_
    refine wp_goto (pc' := 14) d_Mo_coachAt_31 (by decide) ?_
    exact ih (k + 1) (by omega)
def sp_coach (q : sp_R) (i : Nat) : Int32 := sp_cb (nI (i + 1) * q 8) q (i + 1)
theorem m_coachAt (hq : S.2 92 = q) (i : Nat) (hi : i < 10) (K : Q (some (.int (sp_coach q i))) S) : cl h_Mo_coachAt y_Mo_coachAt [.ref k_Mo, .int (nI i)] S Q := by
  refine cl_in ml_Mo_coachAt rfl rfl ?_
  refine wp_iload_n d_Mo_coachAt_0 rfl rfl ?_
  refine wp_iconst (x := nI 1) d_Mo_coachAt_1 rfl ?_
  refine wp_iadd d_Mo_coachAt_2 (nI_add _ _) ?_
  refine wp_aload_n d_Mo_coachAt_3 rfl rfl ?_
  refine wp_getR d_Mo_coachAt_4 ow_Mo_coachAt fl_8_7 (O_91 _) rfl ?_
  refine wp_bipush (x := nI 8) d_Mo_coachAt_7 (by decide) ?_
  refine wp_iaload d_Mo_coachAt_9 (A_92 _) (by omega) (by decide) (congrFun hq 8) ?_
  refine wp_imul d_Mo_coachAt_10 rfl ?_
  refine wp_iston2 d_Mo_coachAt_11 rfl ?_
  refine wp_iconst (x := nI 0) d_Mo_coachAt_12 rfl ?_
  refine wp_iston3 d_Mo_coachAt_13 rfl ?_
  exact m_cb_loop hq i hi (nI (i + 1) * q 8) K (i + 1) 0 (Nat.zero_add _)
noncomputable def op_coach (q : sp_R) (v : Int32) : sp_Out := sp_if (sp_isF q v) (0, sp_coach q v.toNatClampNeg, q) (sp_bad q 1)
theorem m_coach (C : mC S q (-1)) (hw : sp_wf q) (v : Int32) (K : mQ S (op_coach q v) Q) : cl h_Mo_coach y_Mo_coach [.ref k_Mo, .int v] S Q := by
  have hn := hw.n
  unfold op_coach at K
  by_cases h : sp_isF q v
  · rw [sp_if_t h] at K
    obtain ⟨i, hi, rfl⟩ := sp_isF_of hw h
    rw [nI_clamp (by omega)] at K
    refine cl_in ml_Mo_coach rfl rfl ?_
    refine wp_aload_n d_Mo_coach_0 rfl rfl ?_
    refine wp_iload_n d_Mo_coach_1 rfl rfl ?_
    refine wp_invV d_Mo_coach_2 ow_Mo_coach lk_8_93 (by decide) mi_Mo_isField rfl rfl (Nat.le_of_ble_eq_true rfl) rfl (wp_isC (O_91 _)) (show h_Mo_isField ≤ _ from by decide) (m_isField C.1 _ ?_)
    refine wp_Ki ?_
    refine wp_ifB_eq (pc' := 16) d_Mo_coach_5 (by decide) (fun h5 => absurd h h5) (fun h5 => ?_)
    refine wp_aload_n d_Mo_coach_8 rfl rfl ?_
    refine wp_iload_n d_Mo_coach_9 rfl rfl ?_
    refine wp_invV d_Mo_coach_10 ow_Mo_coach lk_8_205 (by decide) mi_Mo_coachAt rfl rfl (Nat.le_of_ble_eq_true rfl) rfl (wp_isC (O_91 _)) (show h_Mo_coachAt ≤ _ from by decide) (m_coachAt C.1 i (by omega) ?_)
    refine wp_Ki ?_
    refine wp_goto (pc' := 22) d_Mo_coach_13 (by decide) ?_
    refine wp_reti d_Mo_coach_22 rt_Mo_coach ?_
    exact mQ_ok K C fr.rf
  · rw [sp_if_f h] at K
    refine cl_in ml_Mo_coach rfl rfl ?_
    refine wp_aload_n d_Mo_coach_0 rfl rfl ?_
    refine wp_iload_n d_Mo_coach_1 rfl rfl ?_
    refine wp_invV d_Mo_coach_2 ow_Mo_coach lk_8_93 (by decide) mi_Mo_isField rfl rfl (Nat.le_of_ble_eq_true rfl) rfl (wp_isC (O_91 _)) (show h_Mo_isField ≤ _ from by decide) (m_isField C.1 _ ?_)
    refine wp_Ki ?_
    refine wp_ifB_eq (pc' := 16) d_Mo_coach_5 (by decide) (fun h5 => ?_) (fun h5 => absurd h5 h)
    refine wp_aload_n d_Mo_coach_16 rfl rfl ?_
    refine wp_ldc (v := .int (-1000000001)) d_Mo_coach_17 ow_Mo_coach (by decide +kernel) ?_
    refine wp_invV d_Mo_coach_19 ow_Mo_coach lk_8_59 (by decide) mi_Mo_errs rfl rfl (Nat.le_of_ble_eq_true rfl) rfl (wp_isC (O_91 _)) (show h_Mo_errs ≤ _ from by decide) (m_errs _ 1 (by decide) (by decide) ?_)
    refine wp_Ki ?_
    refine wp_reti d_Mo_coach_22 rt_Mo_coach ?_
    exact lf_i (by decide) (mQ_er (e := 1) K (by decide) C fr.rf)
noncomputable def op_law (q : sp_R) (u a b c : Int32) : sp_Out := sp_if (sp_isW u 1) (0, sp_law q u.toNatClampNeg a b c, q) (sp_bad q 1)
theorem m_law (C : mC S q (-1)) (hw : sp_wf q) (u a b c : Int32) (K : mQ S (op_law q u a b c) Q) : cl h_Mo_law y_Mo_law [.ref k_Mo, .int u, .int a, .int b, .int c] S Q := by
  unfold op_law at K
  by_cases h : sp_isW u 1
  · rw [sp_if_t h] at K
    obtain ⟨i, hi, rfl⟩ := (i_in (by decide)).mp h
    rw [nI_clamp (by omega)] at K
    refine cl_in ml_Mo_law rfl rfl ?_
    refine wp_iload_n d_Mo_law_0 rfl rfl ?_
    refine wp_iconst (x := nI 0) d_Mo_law_1 rfl ?_
    refine wp_iconst (x := nI 1) d_Mo_law_2 rfl ?_
    refine wp_invS d_Mo_law_3 ow_Mo_law lk_8_54 (by decide) mi_Mo_in rfl rfl (Nat.le_of_ble_eq_true rfl) rfl (show h_Mo_in ≤ _ from by decide) (m_in _ _ _ ?_)
    refine wp_Ki ?_
    refine wp_ifB_eq (pc' := 21) d_Mo_law_6 (by decide) (fun h6 => absurd h h6) (fun h6 => ?_)
    refine wp_aload_n d_Mo_law_9 rfl rfl ?_
    refine wp_iload_n d_Mo_law_10 rfl rfl ?_
    refine wp_iload_n d_Mo_law_11 rfl rfl ?_
    refine wp_iload_n d_Mo_law_12 rfl rfl ?_
    refine wp_iload d_Mo_law_13 rfl ?_
    refine wp_invV d_Mo_law_15 ow_Mo_law lk_8_86 (by decide) mi_Mo_lawOf rfl rfl (Nat.le_of_ble_eq_true rfl) rfl (wp_isC (O_91 _)) (show h_Mo_lawOf ≤ _ from by decide) (m_lawOf C.1 (by omega) (hw.2.2.1 i (by omega)) (fun S' f => ?_))
    refine wp_Ki ?_
    refine wp_goto (pc' := 27) d_Mo_law_18 (by decide) ?_
    refine wp_reti d_Mo_law_27 rt_Mo_law ?_
    exact mQ_ok K (C.fr f) (fr_YD f)
  · rw [sp_if_f h] at K
    refine cl_in ml_Mo_law rfl rfl ?_
    refine wp_iload_n d_Mo_law_0 rfl rfl ?_
    refine wp_iconst (x := nI 0) d_Mo_law_1 rfl ?_
    refine wp_iconst (x := nI 1) d_Mo_law_2 rfl ?_
    refine wp_invS d_Mo_law_3 ow_Mo_law lk_8_54 (by decide) mi_Mo_in rfl rfl (Nat.le_of_ble_eq_true rfl) rfl (show h_Mo_in ≤ _ from by decide) (m_in _ _ _ ?_)
    refine wp_Ki ?_
    refine wp_ifB_eq (pc' := 21) d_Mo_law_6 (by decide) (fun h6 => ?_) (fun h6 => absurd h6 h)
    refine wp_aload_n d_Mo_law_21 rfl rfl ?_
    refine wp_ldc (v := .int (-1000000001)) d_Mo_law_22 ow_Mo_law (by decide +kernel) ?_
    refine wp_invV d_Mo_law_24 ow_Mo_law lk_8_59 (by decide) mi_Mo_errs rfl rfl (Nat.le_of_ble_eq_true rfl) rfl (wp_isC (O_91 _)) (show h_Mo_errs ≤ _ from by decide) (m_errs _ 1 (by decide) (by decide) ?_)
    refine wp_Ki ?_
    refine wp_reti d_Mo_law_27 rt_Mo_law ?_
    exact lf_i (by decide) (mQ_er (e := 1) K (by decide) C fr.rf)
end OV
