/-! the reference: a telling; what would be needed; the coach -/
/-- room that the reference may change in a telling -/
def mW (k j : Nat) : Prop := (k = 92 ∧ j < 283) ∨ k = 97 ∨ ps_D k j
theorem fr_W1 {S S' : wp_S} (h : fr ps_D S S') : fr mW S S' := h.mono (fun _ _ z => Or.inr (Or.inr z))
theorem fr_W2 {S S' : wp_S} (h : fr mR S S') : fr mW S S' := h.mono (fun _ _ z => Or.inl z)
def sp_ls (q q' : sp_R) (mu : Int32) : Nat → Int32
  | 0 => nI 0
  | k + 1 => sp_ls q q' mu k + bi (0 ≤ sp_who q mu k ∧ sp_who q' mu k ≠ sp_who q mu k)
def sp_tl (q : sp_R) (mu : Int32) (o i : Nat) : sp_R := sp_up (sp_up (sp_hr q o i) 2 (sp_cl (q 2 + sp_ls q (sp_hr q o i) mu (sp_n q)) 0 9999)) 1 (q 1 + nI 1)
section TL
variable {S : wp_S} {q : sp_R} {mu : Int32} {Q : Option Value → wp_S → Prop}
theorem mC_kp {D : Nat → Nat → Prop} {S S' : wp_S} {q : sp_R} {mu : Int32} (h : mC S q mu) (f : fr D S S') (h1 : ∀ j, ¬ D 92 j) (h2 : ¬ D 91 7) : mC S' q mu := ⟨(f.row h1).trans h.1, (f.2 91 7 h2).trans h.2⟩
theorem m_tl_1 (hw : sp_wf q) (l1 l2 : Int32) (l4 : Option Value) (K : ∀ S' l3, mC S' q mu → (∀ k, k < sp_n q → S'.2 97 k = sp_who q mu k) → fr mW S S' → wp (h_Mo_telling - 1) y_Mo_telling 29 [some (.ref 91), some (.int l1), some (.int l2), l3, l4] [] S' Q) : ∀ m k (S' : wp_S), mC S' q mu → fr mW S S' → (∀ j, j < k → S'.2 97 j = sp_who q mu j) → k + m = sp_n q → wp (h_Mo_telling - 1) y_Mo_telling 2 [some (.ref 91), some (.int l1), some (.int l2), some (.int (nI k)), l4] [] S' Q := by
  have hn := hw.n
  intro m
  induction m with
  | zero =>
    intro k S' C f hj hk
    obtain rfl : k = sp_n q := by omega
    refine wp_iload_n d_Mo_telling_2 rfl rfl ?_
    refine wp_aload_n d_Mo_telling_3 rfl rfl ?_
    refine wp_getR d_Mo_telling_4 ow_Mo_telling fl_8_7 (O_91 _) rfl ?_
    refine wp_iconst (x := nI 0) d_Mo_telling_7 rfl ?_
    refine wp_iaload d_Mo_telling_8 (A_92 _) (by omega) (by decide) ((congrFun C.1 0).trans hn.2) ?_
    refine wp_icN_ge (pc' := 29) d_Mo_telling_9 (by decide) (by omega) (by omega) (fun h9 => ?_) (fun h9 => absurd h9 (by omega))
    exact K _ _ C hj f
  | succ m ih =>
    intro k S' C f hj hk
    refine wp_iload_n d_Mo_telling_2 rfl rfl ?_
    refine wp_aload_n d_Mo_telling_3 rfl rfl ?_
    refine wp_getR d_Mo_telling_4 ow_Mo_telling fl_8_7 (O_91 _) rfl ?_
    refine wp_iconst (x := nI 0) d_Mo_telling_7 rfl ?_
    refine wp_iaload d_Mo_telling_8 (A_92 _) (by omega) (by decide) ((congrFun C.1 0).trans hn.2) ?_
    refine wp_icN_ge (pc' := 29) d_Mo_telling_9 (by decide) (by omega) (by omega) (fun h9 => absurd h9 (by omega)) (fun h9 => ?_)
    refine wp_aload_n d_Mo_telling_12 rfl rfl ?_
    refine wp_getR d_Mo_telling_13 ow_Mo_telling fl_8_29 (O_91 _) rfl ?_
    refine wp_iload_n d_Mo_telling_16 rfl rfl ?_
    refine wp_aload_n d_Mo_telling_17 rfl rfl ?_
    refine wp_iload_n d_Mo_telling_18 rfl rfl ?_
    refine wp_invV d_Mo_telling_19 ow_Mo_telling lk_8_90 (by decide) mi_Mo_whose rfl rfl (Nat.le_of_ble_eq_true rfl) rfl (wp_isC (O_91 _)) (show h_Mo_whose ≤ _ from by decide) (m_whose C hw k (by omega) (fun S2 f2 => ?_))
    refine wp_Ki ?_
    refine wp_iastore d_Mo_telling_22 (A_97 _) (by omega) (by decide) ?_
    refine wp_iinc3 d_Mo_telling_23 rfl (nI_add _ 1) ?_
    refine wp_goto (pc' := 2) d_Mo_telling_26 (by decide) ?_
    refine ih (k + 1) _ ?_ ((f.tr (fr_W1 f2)).up (Or.inr (Or.inl rfl))) ?_ (by omega)
    · exact mC_kp (C.fr f2) (D := fun k _ => k = 97) (fr.rf.up rfl) (by intro j z; omega) (by omega)
    · intro j hj'
      rw [wp_u2]
      by_cases h : j = k
      · rw [if_pos ⟨rfl, h⟩, h]
      · rw [if_neg (fun z => h z.2), f2.2 97 j (fun z => by unfold ps_D at z; omega)]
        exact hj j (by omega)
theorem m_tl_2 {q' : sp_R} (hw : sp_wf q') (hnn : sp_n q' = sp_n q) (l1 l2 : Int32) (K : ∀ S' l4, mC S' q' mu → fr ps_D S S' → wp (h_Mo_telling - 1) y_Mo_telling 91 [some (.ref 91), some (.int l1), some (.int l2), some (.int (sp_ls q q' mu (sp_n q))), l4] [] S' Q) : ∀ m k (S' : wp_S), mC S' q' mu → fr ps_D S S' → (∀ j, j < sp_n q → S'.2 97 j = sp_who q mu j) → k + m = sp_n q → wp (h_Mo_telling - 1) y_Mo_telling 40 [some (.ref 91), some (.int l1), some (.int l2), some (.int (sp_ls q q' mu k)), some (.int (nI k))] [] S' Q := by
  have hn := hw.n
  intro m
  induction m with
  | zero =>
    intro k S' C f hj hk
    obtain rfl : k = sp_n q := by omega
    refine wp_iload d_Mo_telling_40 rfl ?_
    refine wp_aload_n d_Mo_telling_42 rfl rfl ?_
    refine wp_getR d_Mo_telling_43 ow_Mo_telling fl_8_7 (O_91 _) rfl ?_
    refine wp_iconst (x := nI 0) d_Mo_telling_46 rfl ?_
    refine wp_iaload d_Mo_telling_47 (A_92 _) (by omega) (by decide) ((congrFun C.1 0).trans hn.2) ?_
    refine wp_icN_ge (pc' := 91) d_Mo_telling_48 (by decide) (by omega) (by omega) (fun h48 => ?_) (fun h48 => absurd h48 (by omega))
    exact K _ _ C f
  | succ m ih =>
    intro k S' C f hj hk
    have hj7 : ∀ S2, fr ps_D S' S2 → ∀ j, j < sp_n q → S2.2 97 j = sp_who q mu j := fun S2 f2 j h => (f2.2 97 j (fun z => by unfold ps_D at z; omega)).trans (hj j h)
    have go : ∀ S2, fr ps_D S' S2 → ∀ x, x = bi (0 ≤ sp_who q mu k ∧ sp_who q' mu k ≠ sp_who q mu k) → wp (h_Mo_telling - 1) y_Mo_telling 40 [some (.ref 91), some (.int l1), some (.int l2), some (.int (sp_ls q q' mu k + x)), some (.int (nI (k + 1)))] [] S2 Q := by
      intro S2 f2 x hx
      subst hx
      exact ih (k + 1) S2 (C.fr f2) (f.tr f2) (hj7 S2 f2) (by omega)
    refine wp_iload d_Mo_telling_40 rfl ?_
    refine wp_aload_n d_Mo_telling_42 rfl rfl ?_
    refine wp_getR d_Mo_telling_43 ow_Mo_telling fl_8_7 (O_91 _) rfl ?_
    refine wp_iconst (x := nI 0) d_Mo_telling_46 rfl ?_
    refine wp_iaload d_Mo_telling_47 (A_92 _) (by omega) (by decide) ((congrFun C.1 0).trans hn.2) ?_
    refine wp_icN_ge (pc' := 91) d_Mo_telling_48 (by decide) (by omega) (by omega) (fun h48 => absurd h48 (by omega)) (fun h48 => ?_)
    refine wp_iload_n d_Mo_telling_51 rfl rfl ?_
    refine wp_aload_n d_Mo_telling_52 rfl rfl ?_
    refine wp_getR d_Mo_telling_53 ow_Mo_telling fl_8_29 (O_91 _) rfl ?_
    refine wp_iload d_Mo_telling_56 rfl ?_
    refine wp_iaload d_Mo_telling_58 (A_97 _) (by omega) (by decide) (hj k (by omega)) ?_
    refine wp_if_lt (pc' := 82) d_Mo_telling_59 (by decide) (fun h59 => ?_) (fun h59 => ?_)
    · refine wp_iconst (x := nI 0) d_Mo_telling_82 rfl ?_
      refine wp_iadd d_Mo_telling_83 rfl ?_
      refine wp_iston3 d_Mo_telling_84 rfl ?_
      refine wp_iinc4 d_Mo_telling_85 rfl (nI_add _ 1) ?_
      refine wp_goto (pc' := 40) d_Mo_telling_88 (by decide) ?_
      first
      | exact go _ fr.rf _ (bi_f (fun z => absurd z.1 (Int32.not_le.mpr h59))).symm
      | exact go _ f2 _ (bi_f (fun z => z.2 h75)).symm
      | exact go _ f2 _ (bi_t ⟨Int32.not_lt.mp h59, h75⟩).symm
      | exact go _ f2 _ (bi_t ⟨h59, h75⟩).symm
    · refine wp_aload_n d_Mo_telling_62 rfl rfl ?_
      refine wp_iload d_Mo_telling_63 rfl ?_
      refine wp_invV d_Mo_telling_65 ow_Mo_telling lk_8_90 (by decide) mi_Mo_whose rfl rfl (Nat.le_of_ble_eq_true rfl) rfl (wp_isC (O_91 _)) (show h_Mo_whose ≤ _ from by decide) (m_whose C hw k (by omega) (fun S2 f2 => ?_))
      refine wp_Ki ?_
      refine wp_aload_n d_Mo_telling_68 rfl rfl ?_
      refine wp_getR d_Mo_telling_69 ow_Mo_telling fl_8_29 (O_91 _) rfl ?_
      refine wp_iload d_Mo_telling_72 rfl ?_
      refine wp_iaload d_Mo_telling_74 (A_97 _) (by omega) (by decide) (hj7 _ f2 k (by omega)) ?_
      refine wp_ic_eq (pc' := 82) d_Mo_telling_75 (by decide) (fun h75 => ?_) (fun h75 => ?_)
      · refine wp_iconst (x := nI 0) d_Mo_telling_82 rfl ?_
        refine wp_iadd d_Mo_telling_83 rfl ?_
        refine wp_iston3 d_Mo_telling_84 rfl ?_
        refine wp_iinc4 d_Mo_telling_85 rfl (nI_add _ 1) ?_
        refine wp_goto (pc' := 40) d_Mo_telling_88 (by decide) ?_
        first
        | exact go _ fr.rf _ (bi_f (fun z => absurd z.1 (Int32.not_le.mpr h59))).symm
        | exact go _ f2 _ (bi_f (fun z => z.2 h75)).symm
        | exact go _ f2 _ (bi_t ⟨Int32.not_lt.mp h59, h75⟩).symm
        | exact go _ f2 _ (bi_t ⟨h59, h75⟩).symm
      · refine wp_iconst (x := nI 1) d_Mo_telling_78 rfl ?_
        refine wp_goto (pc' := 83) d_Mo_telling_79 (by decide) ?_
        refine wp_iadd d_Mo_telling_83 rfl ?_
        refine wp_iston3 d_Mo_telling_84 rfl ?_
        refine wp_iinc4 d_Mo_telling_85 rfl (nI_add _ 1) ?_
        refine wp_goto (pc' := 40) d_Mo_telling_88 (by decide) ?_
        first
        | exact go _ fr.rf _ (bi_f (fun z => absurd z.1 (Int32.not_le.mpr h59))).symm
        | exact go _ f2 _ (bi_f (fun z => z.2 h75)).symm
        | exact go _ f2 _ (bi_t ⟨Int32.not_lt.mp h59, h75⟩).symm
        | exact go _ f2 _ (bi_t ⟨h59, h75⟩).symm
theorem m_telling (C : mC S q mu) (hw : sp_wf q) (o i : Nat) (hi : i < sp_n q) (ho : o < 4) (K : ∀ S', mC S' (sp_tl q mu o i) mu → fr mW S S' → Q none S') : cl h_Mo_telling y_Mo_telling [.ref k_Mo, .int (nI o), .int (nI i)] S Q := by
  have hn := hw.n
  have hnn := sp_hr_n q o i ho
  refine cl_in ml_Mo_telling rfl rfl ?_
  refine wp_iconst (x := nI 0) d_Mo_telling_0 rfl ?_
  refine wp_iston3 d_Mo_telling_1 rfl ?_
  refine m_tl_1 (S := S) hw _ _ _ (fun S1 l3 C1 hj1 f1 => ?_) (sp_n q) 0 S C fr.rf (fun j h => by omega) (Nat.zero_add _)
  refine wp_aload_n d_Mo_telling_29 rfl rfl ?_
  refine wp_iload_n d_Mo_telling_30 rfl rfl ?_
  refine wp_iload_n d_Mo_telling_31 rfl rfl ?_
  refine wp_invV d_Mo_telling_32 ow_Mo_telling lk_8_113 (by decide) mi_Mo_hears rfl rfl (Nat.le_of_ble_eq_true rfl) rfl (wp_isC (O_91 _)) (show h_Mo_hears ≤ _ from by decide) (m_hears C1 o i (by omega) ho (hw.f hi) (fun S2 C2 f2 => ?_))
  refine wp_Kv ?_
  refine wp_iconst (x := nI 0) d_Mo_telling_35 rfl ?_
  refine wp_iston3 d_Mo_telling_36 rfl ?_
  refine wp_iconst (x := nI 0) d_Mo_telling_37 rfl ?_
  refine wp_isto4 d_Mo_telling_38 rfl ?_
  refine m_tl_2 (S := S2) (sp_hr_wf hw hi ho) hnn _ _ (fun S3 l4 C3 f3 => ?_) (sp_n q) 0 S2 C2 fr.rf (fun j h => (f2.2 97 j (fun z => by unfold mR at z; omega)).trans (hj1 j h)) (Nat.zero_add _)
  have e2 : sp_hr q o i 2 = q 2 := sp_hr_ne q o i (Or.inl (by omega)) ho
  have e1 : sp_hr q o i 1 = q 1 := sp_hr_ne q o i (Or.inl (by omega)) ho
  refine wp_aload_n d_Mo_telling_91 rfl rfl ?_
  refine wp_getR d_Mo_telling_92 ow_Mo_telling fl_8_7 (O_91 _) rfl ?_
  refine wp_iconst (x := nI 2) d_Mo_telling_95 rfl ?_
  refine wp_aload_n d_Mo_telling_96 rfl rfl ?_
  refine wp_getR d_Mo_telling_97 ow_Mo_telling fl_8_7 (O_91 _) rfl ?_
  refine wp_iconst (x := nI 2) d_Mo_telling_100 rfl ?_
  refine wp_iaload d_Mo_telling_101 (A_92 _) (by omega) (by decide) ((congrFun C3.1 2).trans e2) ?_
  refine wp_iload_n d_Mo_telling_102 rfl rfl ?_
  refine wp_iadd d_Mo_telling_103 rfl ?_
  refine wp_iconst (x := nI 0) d_Mo_telling_104 rfl ?_
  refine wp_sipush (x := nI 9999) d_Mo_telling_105 (by decide) ?_
  refine wp_invS d_Mo_telling_108 ow_Mo_telling lk_8_117 (by decide) mi_Mo_held rfl rfl (Nat.le_of_ble_eq_true rfl) rfl (show h_Mo_held ≤ _ from by decide) (m_held _ _ _ ?_)
  refine wp_Ki ?_
  refine wp_iastore d_Mo_telling_111 (A_92 _) (by omega) (by decide) ?_
  refine wp_aload_n d_Mo_telling_112 rfl rfl ?_
  refine wp_getR d_Mo_telling_113 ow_Mo_telling fl_8_7 (O_91 _) rfl ?_
  refine wp_iconst (x := nI 1) d_Mo_telling_116 rfl ?_
  refine wp_dup2 d_Mo_telling_117 ⟨rfl, rfl⟩ ?_
  refine wp_iaload d_Mo_telling_118 (A_92 _) (by omega) (by decide) (((congrFun (mC_u C3 2 _).1 1).trans (sp_up_ne _ _ (by decide))).trans e1) ?_
  refine wp_iconst (x := nI 1) d_Mo_telling_119 rfl ?_
  refine wp_iadd d_Mo_telling_120 rfl ?_
  refine wp_iastore d_Mo_telling_121 (A_92 _) (by omega) (by decide) ?_
  refine wp_return d_Mo_telling_122 rt_Mo_telling ?_
  exact K _ (mC_u (mC_u C3 _ _) _ _) ((((f1.tr (fr_W2 f2)).tr (fr_W1 f3)).up (Or.inl ⟨rfl, by decide⟩)).up (Or.inl ⟨rfl, by decide⟩))
end TL
