/-! the reference: more calls -/
def sp_oo (q : sp_R) (o w : Nat) : Int32 := if w = 0 then sp_fear q o else if w = 1 then sp_many q (-1) (nI o) (sp_n q) else if w = 2 then sp_acres q (-1) (nI o) (sp_n q) else sp_rents q (-1) (nI o) (sp_n q)
section OY
variable {S : wp_S} {q : sp_R} {mu : Int32} {Q : Option Value → wp_S → Prop}
theorem m_oo_loop (hw : sp_wf q) (o : Nat) (w : Int32) (K : ∀ S' l5, mC S' q (-1) → fr ps_D S S' → wp (h_Mo_ofOwner - 1) y_Mo_ofOwner 91 [some (.ref 91), some (.int (nI o)), some (.int w), some (.int (sp_many q (-1) (nI o) (sp_n q))), some (.int (sp_rents q (-1) (nI o) (sp_n q))), l5] [] S' Q) : ∀ m k (S' : wp_S), k + m = sp_n q → mC S' q (-1) → fr ps_D S S' → wp (h_Mo_ofOwner - 1) y_Mo_ofOwner 31 [some (.ref 91), some (.int (nI o)), some (.int w), some (.int (sp_many q (-1) (nI o) k)), some (.int (sp_rents q (-1) (nI o) k)), some (.int (nI k))] [] S' Q := by
  have hn := hw.n
  intro m
  induction m with
  | zero =>
    intro k S' hk C f
    obtain rfl : k = sp_n q := by omega
    refine wp_iload d_Mo_ofOwner_31 rfl ?_
    refine wp_aload_n d_Mo_ofOwner_33 rfl rfl ?_
    refine wp_getR d_Mo_ofOwner_34 ow_Mo_ofOwner fl_8_7 (O_91 _) rfl ?_
    refine wp_iconst (x := nI 0) d_Mo_ofOwner_37 rfl ?_
    refine wp_iaload d_Mo_ofOwner_38 (A_92 _) (by omega) (by decide) ((congrFun C.1 0).trans hn.2) ?_
    refine wp_icN_ge (pc' := 91) d_Mo_ofOwner_39 (by decide) (by omega) (by omega) (fun h39 => ?_) (fun h39 => absurd h39 (by omega))
    exact K _ _ C f
  | succ m ih =>
    intro k S' hk C f
    have go : ∀ x y S2, mC S2 q (-1) → fr ps_D S' S2 → x = sp_many q (-1) (nI o) (k + 1) → y = sp_rents q (-1) (nI o) (k + 1) → wp (h_Mo_ofOwner - 1) y_Mo_ofOwner 31 [some (.ref 91), some (.int (nI o)), some (.int w), some (.int x), some (.int y), some (.int (nI (k + 1)))] [] S2 Q := by
      intro x y S2 C2 f2 hx hy
      subst hx
      subst hy
      exact ih (k + 1) S2 (by omega) C2 (f.tr f2)
    have e1 : sp_many q (-1) (nI o) (k + 1) = sp_many q (-1) (nI o) k + (if sp_who q (-1) k = nI o then nI 1 else nI 0) := by rw [sp_many]
    have e2 : sp_rents q (-1) (nI o) (k + 1) = sp_rents q (-1) (nI o) k + (if sp_who q (-1) k = nI o then sp_rent q (-1) k else nI 0) := by rw [sp_rents]
    refine wp_iload d_Mo_ofOwner_31 rfl ?_
    refine wp_aload_n d_Mo_ofOwner_33 rfl rfl ?_
    refine wp_getR d_Mo_ofOwner_34 ow_Mo_ofOwner fl_8_7 (O_91 _) rfl ?_
    refine wp_iconst (x := nI 0) d_Mo_ofOwner_37 rfl ?_
    refine wp_iaload d_Mo_ofOwner_38 (A_92 _) (by omega) (by decide) ((congrFun C.1 0).trans hn.2) ?_
    refine wp_icN_ge (pc' := 91) d_Mo_ofOwner_39 (by decide) (by omega) (by omega) (fun h39 => absurd h39 (by omega)) (fun h39 => ?_)
    refine wp_iload_n d_Mo_ofOwner_42 rfl rfl ?_
    refine wp_aload_n d_Mo_ofOwner_43 rfl rfl ?_
    refine wp_iload d_Mo_ofOwner_44 rfl ?_
    refine wp_invV d_Mo_ofOwner_46 ow_Mo_ofOwner lk_8_90 (by decide) mi_Mo_whose rfl rfl (Nat.le_of_ble_eq_true rfl) rfl (wp_isC (O_91 _)) (show h_Mo_whose ≤ _ from by decide) (m_whose C hw k (by omega) (fun S2 f2 => ?_))
    refine wp_Ki ?_
    refine wp_iload_n d_Mo_ofOwner_49 rfl rfl ?_
    refine wp_ic_ne (pc' := 57) d_Mo_ofOwner_50 (by decide) (fun h50 => ?_) (fun h50 => ?_)
    · refine wp_iconst (x := nI 0) d_Mo_ofOwner_57 rfl ?_
      refine wp_iadd d_Mo_ofOwner_58 rfl ?_
      refine wp_iston3 d_Mo_ofOwner_59 rfl ?_
      refine wp_iload d_Mo_ofOwner_60 rfl ?_
      refine wp_aload_n d_Mo_ofOwner_62 rfl rfl ?_
      refine wp_iload d_Mo_ofOwner_63 rfl ?_
      refine wp_invV d_Mo_ofOwner_65 ow_Mo_ofOwner lk_8_90 (by decide) mi_Mo_whose rfl rfl (Nat.le_of_ble_eq_true rfl) rfl (wp_isC (O_91 _)) (show h_Mo_whose ≤ _ from by decide) (m_whose (C.fr f2) hw k (by omega) (fun S3 f3 => ?_))
      refine wp_Ki ?_
      refine wp_iload_n d_Mo_ofOwner_68 rfl rfl ?_
      refine wp_ic_ne (pc' := 81) d_Mo_ofOwner_69 (by decide) (fun h69 => ?_) (fun h69 => ?_)
      · refine wp_iconst (x := nI 0) d_Mo_ofOwner_81 rfl ?_
        refine wp_iadd d_Mo_ofOwner_82 rfl ?_
        refine wp_isto4 d_Mo_ofOwner_83 rfl ?_
        refine wp_iinc5 d_Mo_ofOwner_85 rfl (nI_add _ 1) ?_
        refine wp_goto (pc' := 31) d_Mo_ofOwner_88 (by decide) ?_
        first
        | exact go _ _ _ ((C.fr f2).fr f3) (f2.tr f3) (by rw [e1, if_neg h50]) (by rw [e2, if_neg h50])
        | exact absurd h69 h50
        | exact absurd h50 h69
        | exact go _ _ _ (((C.fr f2).fr f3).fr f4) ((f2.tr f3).tr f4) (by rw [e1, if_pos h50]) (by rw [e2, if_pos h50])
      · refine wp_aload_n d_Mo_ofOwner_72 rfl rfl ?_
        refine wp_iload d_Mo_ofOwner_73 rfl ?_
        refine wp_invV d_Mo_ofOwner_75 ow_Mo_ofOwner lk_8_97 (by decide) mi_Mo_rentOf rfl rfl (Nat.le_of_ble_eq_true rfl) rfl (wp_isC (O_91 _)) (show h_Mo_rentOf ≤ _ from by decide) (m_rentOf ((C.fr f2).fr f3) hw k (by omega) (fun S4 f4 => ?_))
        refine wp_Ki ?_
        refine wp_goto (pc' := 82) d_Mo_ofOwner_78 (by decide) ?_
        refine wp_iadd d_Mo_ofOwner_82 rfl ?_
        refine wp_isto4 d_Mo_ofOwner_83 rfl ?_
        refine wp_iinc5 d_Mo_ofOwner_85 rfl (nI_add _ 1) ?_
        refine wp_goto (pc' := 31) d_Mo_ofOwner_88 (by decide) ?_
        first
        | exact go _ _ _ ((C.fr f2).fr f3) (f2.tr f3) (by rw [e1, if_neg h50]) (by rw [e2, if_neg h50])
        | exact absurd h69 h50
        | exact absurd h50 h69
        | exact go _ _ _ (((C.fr f2).fr f3).fr f4) ((f2.tr f3).tr f4) (by rw [e1, if_pos h50]) (by rw [e2, if_pos h50])
    · refine wp_iconst (x := nI 1) d_Mo_ofOwner_53 rfl ?_
      refine wp_goto (pc' := 58) d_Mo_ofOwner_54 (by decide) ?_
      refine wp_iadd d_Mo_ofOwner_58 rfl ?_
      refine wp_iston3 d_Mo_ofOwner_59 rfl ?_
      refine wp_iload d_Mo_ofOwner_60 rfl ?_
      refine wp_aload_n d_Mo_ofOwner_62 rfl rfl ?_
      refine wp_iload d_Mo_ofOwner_63 rfl ?_
      refine wp_invV d_Mo_ofOwner_65 ow_Mo_ofOwner lk_8_90 (by decide) mi_Mo_whose rfl rfl (Nat.le_of_ble_eq_true rfl) rfl (wp_isC (O_91 _)) (show h_Mo_whose ≤ _ from by decide) (m_whose (C.fr f2) hw k (by omega) (fun S3 f3 => ?_))
      refine wp_Ki ?_
      refine wp_iload_n d_Mo_ofOwner_68 rfl rfl ?_
      refine wp_ic_ne (pc' := 81) d_Mo_ofOwner_69 (by decide) (fun h69 => ?_) (fun h69 => ?_)
      · refine wp_iconst (x := nI 0) d_Mo_ofOwner_81 rfl ?_
        refine wp_iadd d_Mo_ofOwner_82 rfl ?_
        refine wp_isto4 d_Mo_ofOwner_83 rfl ?_
        refine wp_iinc5 d_Mo_ofOwner_85 rfl (nI_add _ 1) ?_
        refine wp_goto (pc' := 31) d_Mo_ofOwner_88 (by decide) ?_
        first
        | exact go _ _ _ ((C.fr f2).fr f3) (f2.tr f3) (by rw [e1, if_neg h50]) (by rw [e2, if_neg h50])
        | exact absurd h69 h50
        | exact absurd h50 h69
        | exact go _ _ _ (((C.fr f2).fr f3).fr f4) ((f2.tr f3).tr f4) (by rw [e1, if_pos h50]) (by rw [e2, if_pos h50])
      · refine wp_aload_n d_Mo_ofOwner_72 rfl rfl ?_
        refine wp_iload d_Mo_ofOwner_73 rfl ?_
        refine wp_invV d_Mo_ofOwner_75 ow_Mo_ofOwner lk_8_97 (by decide) mi_Mo_rentOf rfl rfl (Nat.le_of_ble_eq_true rfl) rfl (wp_isC (O_91 _)) (show h_Mo_rentOf ≤ _ from by decide) (m_rentOf ((C.fr f2).fr f3) hw k (by omega) (fun S4 f4 => ?_))
        refine wp_Ki ?_
        refine wp_goto (pc' := 82) d_Mo_ofOwner_78 (by decide) ?_
        refine wp_iadd d_Mo_ofOwner_82 rfl ?_
        refine wp_isto4 d_Mo_ofOwner_83 rfl ?_
        refine wp_iinc5 d_Mo_ofOwner_85 rfl (nI_add _ 1) ?_
        refine wp_goto (pc' := 31) d_Mo_ofOwner_88 (by decide) ?_
        first
        | exact go _ _ _ ((C.fr f2).fr f3) (f2.tr f3) (by rw [e1, if_neg h50]) (by rw [e2, if_neg h50])
        | exact absurd h69 h50
        | exact absurd h50 h69
        | exact go _ _ _ (((C.fr f2).fr f3).fr f4) ((f2.tr f3).tr f4) (by rw [e1, if_pos h50]) (by rw [e2, if_pos h50])
noncomputable def op_ofOwner (q : sp_R) (o w : Int32) : sp_Out := sp_if (sp_isW o 3 ∧ sp_isW w 3) (0, sp_oo q o.toNatClampNeg w.toNatClampNeg, q) (sp_bad q 1)
theorem m_ofOwner (C : mC S q (-1)) (hw : sp_wf q) (o w : Int32) (K : mQ S (op_ofOwner q o w) Q) : cl h_Mo_ofOwner y_Mo_ofOwner [.ref k_Mo, .int o, .int w] S Q := by
  have hn := hw.n
  unfold op_ofOwner at K
  by_cases h : sp_isW o 3 ∧ sp_isW w 3
  · rw [sp_if_t h] at K
    obtain ⟨i, hi, rfl⟩ := (i_in (by decide)).mp h.1
    obtain ⟨k, hk, rfl⟩ := (i_in (by decide)).mp h.2
    rw [nI_clamp (by omega), nI_clamp (by omega)] at K
    unfold sp_oo at K
    refine cl_in ml_Mo_ofOwner rfl rfl ?_
    refine wp_iload_n d_Mo_ofOwner_0 rfl rfl ?_
    refine wp_invS d_Mo_ofOwner_1 ow_Mo_ofOwner lk_8_100 (by decide) mi_Mo_isOwner rfl rfl (Nat.le_of_ble_eq_true rfl) rfl (show h_Mo_isOwner ≤ _ from by decide) (m_isOwner _ ?_)
    refine wp_Ki ?_
    refine wp_ifB_eq (pc' := 16) d_Mo_ofOwner_4 (by decide) (fun h4 => absurd h.1 h4) (fun h4 => ?_)
    refine wp_iload_n d_Mo_ofOwner_7 rfl rfl ?_
    refine wp_iconst (x := nI 0) d_Mo_ofOwner_8 rfl ?_
    refine wp_iconst (x := nI 3) d_Mo_ofOwner_9 rfl ?_
    refine wp_invS d_Mo_ofOwner_10 ow_Mo_ofOwner lk_8_54 (by decide) mi_Mo_in rfl rfl (Nat.le_of_ble_eq_true rfl) rfl (show h_Mo_in ≤ _ from by decide) (m_in _ _ _ ?_)
    refine wp_Ki ?_
    refine wp_ifB_ne (pc' := 23) d_Mo_ofOwner_13 (by decide) (fun h13 => ?_) (fun h13 => absurd h.2 h13)
    refine wp_iconst (x := nI 0) d_Mo_ofOwner_23 rfl ?_
    refine wp_iston3 d_Mo_ofOwner_24 rfl ?_
    refine wp_iconst (x := nI 0) d_Mo_ofOwner_25 rfl ?_
    refine wp_isto4 d_Mo_ofOwner_26 rfl ?_
    refine wp_iconst (x := nI 0) d_Mo_ofOwner_28 rfl ?_
    refine wp_isto5 d_Mo_ofOwner_29 rfl ?_
    refine m_oo_loop (S := S) hw i (nI k) (fun S2 l5 C2 f2 => ?_) (sp_n q) 0 S (Nat.zero_add _) C fr.rf
    refine wp_iload_n d_Mo_ofOwner_91 rfl rfl ?_
    refine wp_ifN_ne (pc' := 107) d_Mo_ofOwner_92 (by decide) (by omega) (fun h92 => ?_) (fun h92 => ?_)
    · refine wp_iload_n d_Mo_ofOwner_107 rfl rfl ?_
      refine wp_iconst (x := nI 1) d_Mo_ofOwner_108 rfl ?_
      refine wp_icN_ne (pc' := 116) d_Mo_ofOwner_109 (by decide) (by omega) (by omega) (fun h109 => ?_) (fun h109 => ?_)
      · refine wp_iload_n d_Mo_ofOwner_116 rfl rfl ?_
        refine wp_iconst (x := nI 2) d_Mo_ofOwner_117 rfl ?_
        refine wp_icN_ne (pc' := 129) d_Mo_ofOwner_118 (by decide) (by omega) (by omega) (fun h118 => ?_) (fun h118 => ?_)
        · refine wp_iload d_Mo_ofOwner_129 rfl ?_
          refine wp_reti d_Mo_ofOwner_131 rt_Mo_ofOwner ?_
          first
          | (rw [if_pos h92] at K; exact mQ_ok K C2 (fr_YD f2))
          | (rw [if_neg h92, if_pos h109] at K; exact mQ_ok K C2 (fr_YD f2))
          | (rw [if_neg h92, if_neg h109, if_pos h118] at K; exact mQ_ok K (C2.fr f3) ((fr_YD f2).tr (fr_YD f3)))
          | (rw [if_neg h92, if_neg h109, if_neg h118] at K; exact mQ_ok K C2 (fr_YD f2))
        · refine wp_aload_n d_Mo_ofOwner_121 rfl rfl ?_
          refine wp_iload_n d_Mo_ofOwner_122 rfl rfl ?_
          refine wp_invV d_Mo_ofOwner_123 ow_Mo_ofOwner lk_8_103 (by decide) mi_Mo_acresOf rfl rfl (Nat.le_of_ble_eq_true rfl) rfl (wp_isC (O_91 _)) (show h_Mo_acresOf ≤ _ from by decide) (m_acresOf C2 hw (nI i) (fun S3 f3 => ?_))
          refine wp_Ki ?_
          refine wp_goto (pc' := 131) d_Mo_ofOwner_126 (by decide) ?_
          refine wp_reti d_Mo_ofOwner_131 rt_Mo_ofOwner ?_
          first
          | (rw [if_pos h92] at K; exact mQ_ok K C2 (fr_YD f2))
          | (rw [if_neg h92, if_pos h109] at K; exact mQ_ok K C2 (fr_YD f2))
          | (rw [if_neg h92, if_neg h109, if_pos h118] at K; exact mQ_ok K (C2.fr f3) ((fr_YD f2).tr (fr_YD f3)))
          | (rw [if_neg h92, if_neg h109, if_neg h118] at K; exact mQ_ok K C2 (fr_YD f2))
      · refine wp_iload_n d_Mo_ofOwner_112 rfl rfl ?_
        refine wp_goto (pc' := 131) d_Mo_ofOwner_113 (by decide) ?_
        refine wp_reti d_Mo_ofOwner_131 rt_Mo_ofOwner ?_
        first
        | (rw [if_pos h92] at K; exact mQ_ok K C2 (fr_YD f2))
        | (rw [if_neg h92, if_pos h109] at K; exact mQ_ok K C2 (fr_YD f2))
        | (rw [if_neg h92, if_neg h109, if_pos h118] at K; exact mQ_ok K (C2.fr f3) ((fr_YD f2).tr (fr_YD f3)))
        | (rw [if_neg h92, if_neg h109, if_neg h118] at K; exact mQ_ok K C2 (fr_YD f2))
    · refine wp_aload_n d_Mo_ofOwner_95 rfl rfl ?_
      refine wp_getR d_Mo_ofOwner_96 ow_Mo_ofOwner fl_8_7 (O_91 _) rfl ?_
      refine wp_bipush (x := nI 9) d_Mo_ofOwner_99 (by decide) ?_
      refine wp_iload_n d_Mo_ofOwner_101 rfl rfl ?_
      refine wp_iadd d_Mo_ofOwner_102 (nI_add _ _) ?_
      refine wp_iaload d_Mo_ofOwner_103 (A_92 _) (by omega) (by decide) (congrFun C2.1 _) ?_
      refine wp_goto (pc' := 131) d_Mo_ofOwner_104 (by decide) ?_
      refine wp_reti d_Mo_ofOwner_131 rt_Mo_ofOwner ?_
      first
      | (rw [if_pos h92] at K; exact mQ_ok K C2 (fr_YD f2))
      | (rw [if_neg h92, if_pos h109] at K; exact mQ_ok K C2 (fr_YD f2))
      | (rw [if_neg h92, if_neg h109, if_pos h118] at K; exact mQ_ok K (C2.fr f3) ((fr_YD f2).tr (fr_YD f3)))
      | (rw [if_neg h92, if_neg h109, if_neg h118] at K; exact mQ_ok K C2 (fr_YD f2))
  · rw [sp_if_f h] at K
    refine cl_in ml_Mo_ofOwner rfl rfl ?_
    refine wp_iload_n d_Mo_ofOwner_0 rfl rfl ?_
    refine wp_invS d_Mo_ofOwner_1 ow_Mo_ofOwner lk_8_100 (by decide) mi_Mo_isOwner rfl rfl (Nat.le_of_ble_eq_true rfl) rfl (show h_Mo_isOwner ≤ _ from by decide) (m_isOwner _ ?_)
    refine wp_Ki ?_
    refine wp_ifB_eq (pc' := 16) d_Mo_ofOwner_4 (by decide) (fun h4 => ?_) (fun h4 => ?_)
    · refine wp_aload_n d_Mo_ofOwner_16 rfl rfl ?_
      refine wp_ldc (v := .int (-1000000001)) d_Mo_ofOwner_17 ow_Mo_ofOwner (by decide +kernel) ?_
      refine wp_invV d_Mo_ofOwner_19 ow_Mo_ofOwner lk_8_59 (by decide) mi_Mo_errs rfl rfl (Nat.le_of_ble_eq_true rfl) rfl (wp_isC (O_91 _)) (show h_Mo_errs ≤ _ from by decide) (m_errs _ 1 (by decide) (by decide) ?_)
      refine wp_Ki ?_
      refine wp_reti d_Mo_ofOwner_22 rt_Mo_ofOwner ?_
      exact lf_i (by decide) (mQ_er (e := 1) K (by decide) C fr.rf)
    · refine wp_iload_n d_Mo_ofOwner_7 rfl rfl ?_
      refine wp_iconst (x := nI 0) d_Mo_ofOwner_8 rfl ?_
      refine wp_iconst (x := nI 3) d_Mo_ofOwner_9 rfl ?_
      refine wp_invS d_Mo_ofOwner_10 ow_Mo_ofOwner lk_8_54 (by decide) mi_Mo_in rfl rfl (Nat.le_of_ble_eq_true rfl) rfl (show h_Mo_in ≤ _ from by decide) (m_in _ _ _ ?_)
      refine wp_Ki ?_
      refine wp_ifB_ne (pc' := 23) d_Mo_ofOwner_13 (by decide) (fun h13 => absurd ⟨h4, h13⟩ h) (fun h13 => ?_)
      refine wp_aload_n d_Mo_ofOwner_16 rfl rfl ?_
      refine wp_ldc (v := .int (-1000000001)) d_Mo_ofOwner_17 ow_Mo_ofOwner (by decide +kernel) ?_
      refine wp_invV d_Mo_ofOwner_19 ow_Mo_ofOwner lk_8_59 (by decide) mi_Mo_errs rfl rfl (Nat.le_of_ble_eq_true rfl) rfl (wp_isC (O_91 _)) (show h_Mo_errs ≤ _ from by decide) (m_errs _ 1 (by decide) (by decide) ?_)
      refine wp_Ki ?_
      refine wp_reti d_Mo_ofOwner_22 rt_Mo_ofOwner ?_
      exact lf_i (by decide) (mQ_er (e := 1) K (by decide) C fr.rf)
noncomputable def op_set (q : sp_R) (v w x : Int32) : sp_Out := sp_if (sp_isF q v ∧ ((w = 0 ∧ nI 1 ≤ x ∧ x ≤ nI 99) ∨ (w = 1 ∧ sp_isW x 9))) (0, q (13 + 10 * v.toNatClampNeg + (2 + w.toNatClampNeg)), sp_up q (13 + 10 * v.toNatClampNeg + (2 + w.toNatClampNeg)) x) (sp_bad q 1)
theorem m_set (C : mC S q (-1)) (hw : sp_wf q) (v w x : Int32) (K : mQ S (op_set q v w x) Q) : cl h_Mo_set y_Mo_set [.ref k_Mo, .int v, .int w, .int x] S Q := by
  have hn := hw.n
  unfold op_set at K
  by_cases h : sp_isF q v ∧ ((w = 0 ∧ nI 1 ≤ x ∧ x ≤ nI 99) ∨ (w = 1 ∧ sp_isW x 9))
  · rw [sp_if_t h] at K
    obtain ⟨hF, h⟩ := h
    have hF' := hF
    obtain ⟨i, hi, rfl⟩ := sp_isF_of hw hF
    rcases h with ⟨ew, hx⟩ | ⟨ew, hx⟩
    · obtain rfl : w = nI 0 := ew
      rw [nI_clamp (by omega), show (nI 0).toNatClampNeg = 0 from rfl] at K
      refine cl_in ml_Mo_set rfl rfl ?_
      refine wp_iload_n d_Mo_set_0 rfl rfl ?_
      refine wp_ifN_ne (pc' := 14) d_Mo_set_1 (by decide) (by omega) (fun q => absurd q (by decide)) (fun _ => ?_)
      refine wp_iload_n d_Mo_set_4 rfl rfl ?_
      refine wp_iconst (x := nI 1) d_Mo_set_5 rfl ?_
      refine wp_bipush (x := nI 99) d_Mo_set_6 (by decide) ?_
      refine wp_invS d_Mo_set_8 ow_Mo_set lk_8_54 (by decide) mi_Mo_in rfl rfl (Nat.le_of_ble_eq_true rfl) rfl (show h_Mo_in ≤ _ from by decide) (m_in _ _ _ ?_)
      refine wp_Ki ?_
      refine wp_goto (pc' := 34) d_Mo_set_11 (by decide) ?_
      refine wp_isto4 d_Mo_set_34 rfl ?_
      refine wp_aload_n d_Mo_set_36 rfl rfl ?_
      refine wp_iload_n d_Mo_set_37 rfl rfl ?_
      refine wp_invV d_Mo_set_38 ow_Mo_set lk_8_93 (by decide) mi_Mo_isField rfl rfl (Nat.le_of_ble_eq_true rfl) rfl (wp_isC (O_91 _)) (show h_Mo_isField ≤ _ from by decide) (m_isField C.1 _ ?_)
      refine wp_Ki ?_
      refine wp_ifB_eq (pc' := 49) d_Mo_set_41 (by decide) (fun h41 => absurd hF' h41) (fun h41 => ?_)
      refine wp_iload d_Mo_set_44 rfl ?_
      refine wp_ifB_ne (pc' := 56) d_Mo_set_46 (by decide) (fun h46 => ?_) (fun h46 => absurd hx h46)
      refine wp_aload_n d_Mo_set_56 rfl rfl ?_
      refine wp_iload_n d_Mo_set_57 rfl rfl ?_
      refine wp_iconst (x := nI 2) d_Mo_set_58 rfl ?_
      refine wp_iload_n d_Mo_set_59 rfl rfl ?_
      refine wp_iadd d_Mo_set_60 (nI_add _ _) ?_
      refine wp_invV d_Mo_set_61 ow_Mo_set lk_8_72 (by decide) mi_Mo_its rfl rfl (Nat.le_of_ble_eq_true rfl) rfl (wp_isC (O_91 _)) (show h_Mo_its ≤ _ from by decide) (m_its C.1 i _ (by omega) ?_)
      refine wp_Ki ?_
      refine wp_isto5 d_Mo_set_64 rfl ?_
      refine wp_aload_n d_Mo_set_66 rfl rfl ?_
      refine wp_iload_n d_Mo_set_67 rfl rfl ?_
      refine wp_iconst (x := nI 2) d_Mo_set_68 rfl ?_
      refine wp_iload_n d_Mo_set_69 rfl rfl ?_
      refine wp_iadd d_Mo_set_70 (nI_add _ _) ?_
      refine wp_iload_n d_Mo_set_71 rfl rfl ?_
      refine wp_invV d_Mo_set_72 ow_Mo_set lk_8_64 (by decide) mi_Mo_puts rfl rfl (Nat.le_of_ble_eq_true rfl) rfl (wp_isC (O_91 _)) (show h_Mo_puts ≤ _ from by decide) (m_puts i _ _ (by omega) ?_)
      refine wp_Kv ?_
      refine wp_iload d_Mo_set_75 rfl ?_
      refine wp_reti d_Mo_set_77 rt_Mo_set ?_
      exact mQ_ok K (mC_u C _ _) (fr_YR (fr.rf.up ⟨rfl, by omega⟩))
    · obtain rfl : w = nI 1 := ew
      rw [nI_clamp (by omega), show (nI 1).toNatClampNeg = 1 from rfl] at K
      refine cl_in ml_Mo_set rfl rfl ?_
      refine wp_iload_n d_Mo_set_0 rfl rfl ?_
      refine wp_ifN_ne (pc' := 14) d_Mo_set_1 (by decide) (by omega) (fun _ => ?_) (fun q => absurd q (by decide))
      refine wp_iload_n d_Mo_set_14 rfl rfl ?_
      refine wp_iconst (x := nI 1) d_Mo_set_15 rfl ?_
      refine wp_icN_ne (pc' := 33) d_Mo_set_16 (by decide) (by omega) (by omega) (fun q => absurd q (by decide)) (fun _ => ?_)
      refine wp_iload_n d_Mo_set_19 rfl rfl ?_
      refine wp_iconst (x := nI 0) d_Mo_set_20 rfl ?_
      refine wp_bipush (x := nI 9) d_Mo_set_21 (by decide) ?_
      refine wp_invS d_Mo_set_23 ow_Mo_set lk_8_54 (by decide) mi_Mo_in rfl rfl (Nat.le_of_ble_eq_true rfl) rfl (show h_Mo_in ≤ _ from by decide) (m_in _ _ _ ?_)
      refine wp_Ki ?_
      refine wp_ifB_eq (pc' := 33) d_Mo_set_26 (by decide) (fun h26 => absurd hx h26) (fun h26 => ?_)
      refine wp_iconst (x := nI 1) d_Mo_set_29 rfl ?_
      refine wp_goto (pc' := 34) d_Mo_set_30 (by decide) ?_
      refine wp_isto4 d_Mo_set_34 rfl ?_
      refine wp_aload_n d_Mo_set_36 rfl rfl ?_
      refine wp_iload_n d_Mo_set_37 rfl rfl ?_
      refine wp_invV d_Mo_set_38 ow_Mo_set lk_8_93 (by decide) mi_Mo_isField rfl rfl (Nat.le_of_ble_eq_true rfl) rfl (wp_isC (O_91 _)) (show h_Mo_isField ≤ _ from by decide) (m_isField C.1 _ ?_)
      refine wp_Ki ?_
      refine wp_ifB_eq (pc' := 49) d_Mo_set_41 (by decide) (fun h41 => absurd hF' h41) (fun h41 => ?_)
      refine wp_iload d_Mo_set_44 rfl ?_
      refine wp_ifN_ne (pc' := 56) d_Mo_set_46 (by decide) (by omega) (fun _ => ?_) (fun q => absurd q (by decide))
      refine wp_aload_n d_Mo_set_56 rfl rfl ?_
      refine wp_iload_n d_Mo_set_57 rfl rfl ?_
      refine wp_iconst (x := nI 2) d_Mo_set_58 rfl ?_
      refine wp_iload_n d_Mo_set_59 rfl rfl ?_
      refine wp_iadd d_Mo_set_60 (nI_add _ _) ?_
      refine wp_invV d_Mo_set_61 ow_Mo_set lk_8_72 (by decide) mi_Mo_its rfl rfl (Nat.le_of_ble_eq_true rfl) rfl (wp_isC (O_91 _)) (show h_Mo_its ≤ _ from by decide) (m_its C.1 i _ (by omega) ?_)
      refine wp_Ki ?_
      refine wp_isto5 d_Mo_set_64 rfl ?_
      refine wp_aload_n d_Mo_set_66 rfl rfl ?_
      refine wp_iload_n d_Mo_set_67 rfl rfl ?_
      refine wp_iconst (x := nI 2) d_Mo_set_68 rfl ?_
      refine wp_iload_n d_Mo_set_69 rfl rfl ?_
      refine wp_iadd d_Mo_set_70 (nI_add _ _) ?_
      refine wp_iload_n d_Mo_set_71 rfl rfl ?_
      refine wp_invV d_Mo_set_72 ow_Mo_set lk_8_64 (by decide) mi_Mo_puts rfl rfl (Nat.le_of_ble_eq_true rfl) rfl (wp_isC (O_91 _)) (show h_Mo_puts ≤ _ from by decide) (m_puts i _ _ (by omega) ?_)
      refine wp_Kv ?_
      refine wp_iload d_Mo_set_75 rfl ?_
      refine wp_reti d_Mo_set_77 rt_Mo_set ?_
      exact mQ_ok K (mC_u C _ _) (fr_YR (fr.rf.up ⟨rfl, by omega⟩))
  · rw [sp_if_f h] at K
    refine cl_in ml_Mo_set rfl rfl ?_
    refine wp_iload_n d_Mo_set_0 rfl rfl ?_
    refine wp_if_ne (pc' := 14) d_Mo_set_1 (by decide) (fun h1 => ?_) (fun h1 => ?_)
    · refine wp_iload_n d_Mo_set_14 rfl rfl ?_
      refine wp_iconst (x := nI 1) d_Mo_set_15 rfl ?_
      refine wp_ic_ne (pc' := 33) d_Mo_set_16 (by decide) (fun h16 => ?_) (fun h16 => ?_)
      · refine wp_iconst (x := nI 0) d_Mo_set_33 rfl ?_
        refine wp_isto4 d_Mo_set_34 rfl ?_
        refine wp_aload_n d_Mo_set_36 rfl rfl ?_
        refine wp_iload_n d_Mo_set_37 rfl rfl ?_
        refine wp_invV d_Mo_set_38 ow_Mo_set lk_8_93 (by decide) mi_Mo_isField rfl rfl (Nat.le_of_ble_eq_true rfl) rfl (wp_isC (O_91 _)) (show h_Mo_isField ≤ _ from by decide) (m_isField C.1 _ ?_)
        refine wp_Ki ?_
        refine wp_ifB_eq (pc' := 49) d_Mo_set_41 (by decide) (fun h41 => ?_) (fun h41 => ?_)
        · refine wp_aload_n d_Mo_set_49 rfl rfl ?_
          refine wp_ldc (v := .int (-1000000001)) d_Mo_set_50 ow_Mo_set (by decide +kernel) ?_
          refine wp_invV d_Mo_set_52 ow_Mo_set lk_8_59 (by decide) mi_Mo_errs rfl rfl (Nat.le_of_ble_eq_true rfl) rfl (wp_isC (O_91 _)) (show h_Mo_errs ≤ _ from by decide) (m_errs _ 1 (by decide) (by decide) ?_)
          refine wp_Ki ?_
          refine wp_reti d_Mo_set_55 rt_Mo_set ?_
          exact lf_i (by decide) (mQ_er (e := 1) K (by decide) C fr.rf)
        · refine wp_iload d_Mo_set_44 rfl ?_
          refine wp_ifN_ne (pc' := 56) d_Mo_set_46 (by decide) (by omega) (fun q => absurd q (by decide)) (fun _ => ?_)
          refine wp_aload_n d_Mo_set_49 rfl rfl ?_
          refine wp_ldc (v := .int (-1000000001)) d_Mo_set_50 ow_Mo_set (by decide +kernel) ?_
          refine wp_invV d_Mo_set_52 ow_Mo_set lk_8_59 (by decide) mi_Mo_errs rfl rfl (Nat.le_of_ble_eq_true rfl) rfl (wp_isC (O_91 _)) (show h_Mo_errs ≤ _ from by decide) (m_errs _ 1 (by decide) (by decide) ?_)
          refine wp_Ki ?_
          refine wp_reti d_Mo_set_55 rt_Mo_set ?_
          exact lf_i (by decide) (mQ_er (e := 1) K (by decide) C fr.rf)
      · refine wp_iload_n d_Mo_set_19 rfl rfl ?_
        refine wp_iconst (x := nI 0) d_Mo_set_20 rfl ?_
        refine wp_bipush (x := nI 9) d_Mo_set_21 (by decide) ?_
        refine wp_invS d_Mo_set_23 ow_Mo_set lk_8_54 (by decide) mi_Mo_in rfl rfl (Nat.le_of_ble_eq_true rfl) rfl (show h_Mo_in ≤ _ from by decide) (m_in _ _ _ ?_)
        refine wp_Ki ?_
        refine wp_ifB_eq (pc' := 33) d_Mo_set_26 (by decide) (fun h26 => ?_) (fun h26 => ?_)
        · refine wp_iconst (x := nI 0) d_Mo_set_33 rfl ?_
          refine wp_isto4 d_Mo_set_34 rfl ?_
          refine wp_aload_n d_Mo_set_36 rfl rfl ?_
          refine wp_iload_n d_Mo_set_37 rfl rfl ?_
          refine wp_invV d_Mo_set_38 ow_Mo_set lk_8_93 (by decide) mi_Mo_isField rfl rfl (Nat.le_of_ble_eq_true rfl) rfl (wp_isC (O_91 _)) (show h_Mo_isField ≤ _ from by decide) (m_isField C.1 _ ?_)
          refine wp_Ki ?_
          refine wp_ifB_eq (pc' := 49) d_Mo_set_41 (by decide) (fun h41 => ?_) (fun h41 => ?_)
          · refine wp_aload_n d_Mo_set_49 rfl rfl ?_
            refine wp_ldc (v := .int (-1000000001)) d_Mo_set_50 ow_Mo_set (by decide +kernel) ?_
            refine wp_invV d_Mo_set_52 ow_Mo_set lk_8_59 (by decide) mi_Mo_errs rfl rfl (Nat.le_of_ble_eq_true rfl) rfl (wp_isC (O_91 _)) (show h_Mo_errs ≤ _ from by decide) (m_errs _ 1 (by decide) (by decide) ?_)
            refine wp_Ki ?_
            refine wp_reti d_Mo_set_55 rt_Mo_set ?_
            exact lf_i (by decide) (mQ_er (e := 1) K (by decide) C fr.rf)
          · refine wp_iload d_Mo_set_44 rfl ?_
            refine wp_ifN_ne (pc' := 56) d_Mo_set_46 (by decide) (by omega) (fun q => absurd q (by decide)) (fun _ => ?_)
            refine wp_aload_n d_Mo_set_49 rfl rfl ?_
            refine wp_ldc (v := .int (-1000000001)) d_Mo_set_50 ow_Mo_set (by decide +kernel) ?_
            refine wp_invV d_Mo_set_52 ow_Mo_set lk_8_59 (by decide) mi_Mo_errs rfl rfl (Nat.le_of_ble_eq_true rfl) rfl (wp_isC (O_91 _)) (show h_Mo_errs ≤ _ from by decide) (m_errs _ 1 (by decide) (by decide) ?_)
            refine wp_Ki ?_
            refine wp_reti d_Mo_set_55 rt_Mo_set ?_
            exact lf_i (by decide) (mQ_er (e := 1) K (by decide) C fr.rf)
        · refine wp_iconst (x := nI 1) d_Mo_set_29 rfl ?_
          refine wp_goto (pc' := 34) d_Mo_set_30 (by decide) ?_
          refine wp_isto4 d_Mo_set_34 rfl ?_
          refine wp_aload_n d_Mo_set_36 rfl rfl ?_
          refine wp_iload_n d_Mo_set_37 rfl rfl ?_
          refine wp_invV d_Mo_set_38 ow_Mo_set lk_8_93 (by decide) mi_Mo_isField rfl rfl (Nat.le_of_ble_eq_true rfl) rfl (wp_isC (O_91 _)) (show h_Mo_isField ≤ _ from by decide) (m_isField C.1 _ ?_)
          refine wp_Ki ?_
          refine wp_ifB_eq (pc' := 49) d_Mo_set_41 (by decide) (fun h41 => ?_) (fun h41 => ?_)
          · refine wp_aload_n d_Mo_set_49 rfl rfl ?_
            refine wp_ldc (v := .int (-1000000001)) d_Mo_set_50 ow_Mo_set (by decide +kernel) ?_
            refine wp_invV d_Mo_set_52 ow_Mo_set lk_8_59 (by decide) mi_Mo_errs rfl rfl (Nat.le_of_ble_eq_true rfl) rfl (wp_isC (O_91 _)) (show h_Mo_errs ≤ _ from by decide) (m_errs _ 1 (by decide) (by decide) ?_)
            refine wp_Ki ?_
            refine wp_reti d_Mo_set_55 rt_Mo_set ?_
            exact lf_i (by decide) (mQ_er (e := 1) K (by decide) C fr.rf)
          · refine wp_iload d_Mo_set_44 rfl ?_
            refine wp_ifN_ne (pc' := 56) d_Mo_set_46 (by decide) (by omega) (fun _ => ?_) (fun q => absurd q (by decide))
            refine h.elim ?_
            first
            | exact ⟨h41, Or.inl ⟨h1, h46⟩⟩
            | exact ⟨h41, Or.inr ⟨h16, h26⟩⟩
    · refine wp_iload_n d_Mo_set_4 rfl rfl ?_
      refine wp_iconst (x := nI 1) d_Mo_set_5 rfl ?_
      refine wp_bipush (x := nI 99) d_Mo_set_6 (by decide) ?_
      refine wp_invS d_Mo_set_8 ow_Mo_set lk_8_54 (by decide) mi_Mo_in rfl rfl (Nat.le_of_ble_eq_true rfl) rfl (show h_Mo_in ≤ _ from by decide) (m_in _ _ _ ?_)
      refine wp_Ki ?_
      refine wp_goto (pc' := 34) d_Mo_set_11 (by decide) ?_
      refine wp_isto4 d_Mo_set_34 rfl ?_
      refine wp_aload_n d_Mo_set_36 rfl rfl ?_
      refine wp_iload_n d_Mo_set_37 rfl rfl ?_
      refine wp_invV d_Mo_set_38 ow_Mo_set lk_8_93 (by decide) mi_Mo_isField rfl rfl (Nat.le_of_ble_eq_true rfl) rfl (wp_isC (O_91 _)) (show h_Mo_isField ≤ _ from by decide) (m_isField C.1 _ ?_)
      refine wp_Ki ?_
      refine wp_ifB_eq (pc' := 49) d_Mo_set_41 (by decide) (fun h41 => ?_) (fun h41 => ?_)
      · refine wp_aload_n d_Mo_set_49 rfl rfl ?_
        refine wp_ldc (v := .int (-1000000001)) d_Mo_set_50 ow_Mo_set (by decide +kernel) ?_
        refine wp_invV d_Mo_set_52 ow_Mo_set lk_8_59 (by decide) mi_Mo_errs rfl rfl (Nat.le_of_ble_eq_true rfl) rfl (wp_isC (O_91 _)) (show h_Mo_errs ≤ _ from by decide) (m_errs _ 1 (by decide) (by decide) ?_)
        refine wp_Ki ?_
        refine wp_reti d_Mo_set_55 rt_Mo_set ?_
        exact lf_i (by decide) (mQ_er (e := 1) K (by decide) C fr.rf)
      · refine wp_iload d_Mo_set_44 rfl ?_
        refine wp_ifB_ne (pc' := 56) d_Mo_set_46 (by decide) (fun h46 => ?_) (fun h46 => ?_)
        · refine h.elim ?_
          first
          | exact ⟨h41, Or.inl ⟨h1, h46⟩⟩
          | exact ⟨h41, Or.inr ⟨h16, h26⟩⟩
        · refine wp_aload_n d_Mo_set_49 rfl rfl ?_
          refine wp_ldc (v := .int (-1000000001)) d_Mo_set_50 ow_Mo_set (by decide +kernel) ?_
          refine wp_invV d_Mo_set_52 ow_Mo_set lk_8_59 (by decide) mi_Mo_errs rfl rfl (Nat.le_of_ble_eq_true rfl) rfl (wp_isC (O_91 _)) (show h_Mo_errs ≤ _ from by decide) (m_errs _ 1 (by decide) (by decide) ?_)
          refine wp_Ki ?_
          refine wp_reti d_Mo_set_55 rt_Mo_set ?_
          exact lf_i (by decide) (mQ_er (e := 1) K (by decide) C fr.rf)
end OY
