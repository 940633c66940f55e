/-! the reference: a text taken off the tape -/
def sp_tk (q : sp_R) (u k : Nat) : sp_R := fun j => if 183 + 50 * u ≤ j ∧ j < 183 + 50 * u + k then q (113 + (j - (183 + 50 * u))) else q j
theorem sp_tk_0 (q : sp_R) (u : Nat) : sp_tk q u 0 = q := funext fun j => if_neg (by omega)
theorem sp_tk_s (q : sp_R) (u k : Nat) (hk : k < 50) : sp_up (sp_tk q u k) (183 + 50 * u + k) (q (113 + k)) = sp_tk q u (k + 1) := by
  funext j
  by_cases h : j = 183 + 50 * u + k
  · subst h
    rw [sp_up_eq]
    unfold sp_tk
    rw [if_pos (by omega), show 183 + 50 * u + k - (183 + 50 * u) = k by omega]
  · rw [sp_up_ne _ _ h]
    unfold sp_tk
    by_cases h2 : 183 + 50 * u ≤ j ∧ j < 183 + 50 * u + k
    · rw [if_pos h2, if_pos (by omega)]
    · rw [if_neg h2, if_neg (by omega)]
theorem sp_tk_n (q : sp_R) (u k : Nat) {j : Nat} (h : j < 183) : sp_tk q u k j = q j := if_neg (by omega)
def sp_tt (q : sp_R) (u : Nat) : sp_R := sp_up (sp_tk q u 50) (6 + u) (q 4)
abbrev sp_tp (q : sp_R) : sp_R := fun k => q (113 + k)
theorem sp_tt_x (q : sp_R) (u : Nat) (hu : u < 2) {k : Nat} (hk : k < 50) : sp_tx (sp_tt q u) u k = q (113 + k) := by
  unfold sp_tx sp_tt
  rw [sp_up_ne _ _ (by omega)]
  unfold sp_tk
  rw [if_pos (by omega), show 183 + 50 * u + k - (183 + 50 * u) = k by omega]
theorem sp_by_c {t r : Nat → Int32} {n : Nat} (h : ∀ k, k < n → t k = r k) : sp_by t n = sp_by r n := by
  funext k
  unfold sp_by
  by_cases hk : k < n
  · rw [if_pos hk, if_pos hk, h k hk]
  · rw [if_neg hk, if_neg hk]
theorem sp_ps_c {t r : Nat → Int32} {n : Nat} (u : Nat) (h : ∀ k, k < n → t k = r k) : sp_ps t n u = sp_ps r n u := by
  unfold sp_ps
  rw [sp_by_c h]
theorem sp_tt_p (q : sp_R) (u : Nat) (hu : u < 2) {n : Nat} (hn : n ≤ 50) : sp_ps (sp_tx (sp_tt q u) u) n u = sp_ps (sp_tp q) n u := sp_ps_c u (fun k hk => sp_tt_x q u hu (by omega))
noncomputable def op_text (q : sp_R) (v : Int32) : sp_Out := sp_if (sp_isW v 1) (sp_if ((sp_ps (sp_tp q) (q 4).toNatClampNeg v.toNatClampNeg).1 = true ∧ (sp_ps (sp_tp q) (q 4).toNatClampNeg v.toNatClampNeg).2.1 = (q 4).toNatClampNeg) (0, 1, sp_up (sp_tt q v.toNatClampNeg) 4 (nI 0)) (0, -10 - nI (sp_ps (sp_tp q) (q 4).toNatClampNeg v.toNatClampNeg).2.1, sp_up q 4 (nI 0))) (sp_bad q 1)
section OT
variable {S : wp_S} {q : sp_R} {mu : Int32} {Q : Option Value → wp_S → Prop}
theorem m_tk (u : Nat) (hu : u < 2) (K : ∀ S', mC S' (sp_tk q u 50) (-1) → fr mR S S' → wp (h_Mo_text - 1) y_Mo_text 66 [some (.ref 91), some (.int (nI u)), some (.int (nI 50)), none, none] [] S' Q) : ∀ m k (S' : wp_S), k + m = 50 → mC S' (sp_tk q u k) (-1) → fr mR S S' → wp (h_Mo_text - 1) y_Mo_text 30 [some (.ref 91), some (.int (nI u)), some (.int (nI k)), none, none] [] S' Q := by
  intro m
  induction m with
  | zero =>
    intro k S' hk C fS
    obtain rfl : k = 50 := by omega
    refine wp_iload_n d_Mo_text_30 rfl rfl ?_
    refine wp_bipush (x := nI 50) d_Mo_text_31 (by decide) ?_
    refine wp_icN_ge (pc' := 66) d_Mo_text_33 (by decide) (by omega) (by omega) (fun _ => ?_) (fun q => absurd q (by decide))
    exact K S' C fS
  | succ m ih =>
    intro k S' hk C fS
    have e := sp_tk_s q u k (by omega)
    have IH := fun S' => ih (k + 1) S' (by omega)
    rw [← e] at IH
    refine wp_iload_n d_Mo_text_30 rfl rfl ?_
    refine wp_bipush (x := nI 50) d_Mo_text_31 (by decide) ?_
    refine wp_icN_ge (pc' := 66) d_Mo_text_33 (by decide) (by omega) (by omega) (fun h33 => absurd h33 (by omega)) (fun h33 => ?_)
    refine wp_aload_n d_Mo_text_36 rfl rfl ?_
    refine wp_getR d_Mo_text_37 ow_Mo_text fl_8_7 (O_91 _) rfl ?_
    refine wp_sipush (x := nI 183) d_Mo_text_40 (by decide) ?_
    refine wp_bipush (x := nI 50) d_Mo_text_43 (by decide) ?_
    refine wp_iload_n d_Mo_text_45 rfl rfl ?_
    refine wp_imul d_Mo_text_46 (pk_mul _ _) ?_
    refine wp_iadd d_Mo_text_47 (nI_add _ _) ?_
    refine wp_iload_n d_Mo_text_48 rfl rfl ?_
    refine wp_iadd d_Mo_text_49 (nI_add _ _) ?_
    refine wp_aload_n d_Mo_text_50 rfl rfl ?_
    refine wp_getR d_Mo_text_51 ow_Mo_text fl_8_7 (O_91 _) rfl ?_
    refine wp_bipush (x := nI 113) d_Mo_text_54 (by decide) ?_
    refine wp_iload_n d_Mo_text_56 rfl rfl ?_
    refine wp_iadd d_Mo_text_57 (nI_add _ _) ?_
    refine wp_iaload d_Mo_text_58 (A_92 _) (by omega) (by decide) ((congrFun C.1 (113 + k)).trans (sp_tk_n q u k (by omega))) ?_
    refine wp_iastore d_Mo_text_59 (A_92 _) (by omega) (by decide) ?_
    refine wp_iinc2 d_Mo_text_60 rfl (nI_add _ 1) ?_
    refine wp_goto (pc' := 30) d_Mo_text_63 (by decide) ?_
    exact IH _ (mC_u C _ _) (fS.up ⟨rfl, by omega⟩)
theorem mv_f {S : wp_S} {p q : sp_R} (C : mC S p (-1)) (h1 : ∀ j, j < 283 → S.2 95 j = q j) (h2 : ∀ j, 283 ≤ j → p j = q j) : mC (mv S 95 92 283) q (-1) := ⟨funext fun j => by
  show (if 92 = 92 ∧ j < 283 then S.2 95 j else S.2 92 j) = q j
  by_cases hj : j < 283
  · rw [if_pos ⟨rfl, hj⟩]; exact h1 j hj
  · rw [if_neg (fun z => hj z.2)]; exact (congrFun C.1 j).trans (h2 j (by omega)), (if_neg (by omega) : (if 91 = 92 ∧ 7 < 283 then S.2 95 7 else S.2 91 7) = S.2 91 7).trans C.2⟩
theorem mv_0' {S : wp_S} {q : sp_R} (C : mC S q (-1)) : mC (mv S 92 95 283) q (-1) ∧ (∀ j, j < 283 → (mv S 92 95 283).2 95 j = q j) ∧ fr mY S (mv S 92 95 283) := ⟨⟨(funext fun j => (if_neg (by omega) : (if 92 = 95 ∧ j < 283 then S.2 92 j else S.2 92 j) = S.2 92 j)).trans C.1, (if_neg (by omega) : (if 91 = 95 ∧ 7 < 283 then S.2 92 7 else S.2 91 7) = S.2 91 7).trans C.2⟩, fun j hj => (if_pos ⟨rfl, hj⟩ : (if 95 = 95 ∧ j < 283 then S.2 92 j else S.2 95 j) = S.2 92 j).trans (congrFun C.1 j), ⟨rfl, fun k j h => if_neg (fun z => h (Or.inr (Or.inr (Or.inl z.1))))⟩⟩
theorem mv_ff {S S1 : wp_S} (f : fr mY S S1) : fr mY S (mv S1 95 92 283) := f.tr ⟨rfl, fun k j h => if_neg (fun z => h (Or.inl ⟨z.1, z.2⟩))⟩
theorem m_text (C : mC S q (-1)) (hw : sp_wf q) (v : Int32) (K : mQ S (op_text q v) Q) : cl h_Mo_text y_Mo_text [.ref k_Mo, .int v] S Q := by
  obtain ⟨n, hn, e4⟩ := hw.2.2.2.2.2.1
  unfold op_text at K
  by_cases h : sp_isW v 1
  · rw [sp_if_t h] at K
    obtain ⟨u, hu, rfl⟩ := (i_in (by decide)).mp h
    rw [e4, nI_clamp (by omega), nI_clamp (by omega)] at K
    obtain ⟨c0, t0, f0⟩ := mv_0' C
    have hp := sp_tt_p q u (by omega) hn
    have st := m_tk (S := mv S 92 95 283) (Q := Q) (q := q) u (by omega) (fun S2 C2 f2 => by
      have C3 : mC (wp_u S2 92 (6 + u) (q 4)) (sp_tt q u) (-1) := mC_u C2 _ _
      have ez : sp_tt q u (6 + u) = nI n := (sp_up_eq _ _ _).trans e4
      have t3 : ∀ j, j < 283 → (wp_u S2 92 (6 + u) (q 4)).2 95 j = q j := fun j hj => ((if_neg (by omega) : (if 95 = 92 ∧ j = 6 + u then q 4 else S2.2 95 j) = S2.2 95 j).trans (f2.2 95 j (fun z => by unfold mR at z; omega))).trans (t0 j hj)
      have f3 : fr mY S (wp_u S2 92 (6 + u) (q 4)) := (f0.tr (fr_YR f2)).up (Or.inl ⟨rfl, by omega⟩)
      have h4 : S2.2 92 4 = q 4 := (congrFun C2.1 4).trans (sp_tk_n q u 50 (by omega))
      have h283 : ∀ j, 283 ≤ j → sp_tt q u j = q j := fun j hj => (sp_up_ne _ _ (by omega)).trans (if_neg (by omega))
      generalize e3 : wp_u S2 92 (6 + u) (q 4) = S3 at C3 t3 f3
      refine wp_aload_n d_Mo_text_66 rfl rfl ?_
      refine wp_getR d_Mo_text_67 ow_Mo_text fl_8_7 (O_91 _) rfl ?_
      refine wp_bipush (x := nI 6) d_Mo_text_70 (by decide) ?_
      refine wp_iload_n d_Mo_text_72 rfl rfl ?_
      refine wp_iadd d_Mo_text_73 (nI_add _ _) ?_
      refine wp_aload_n d_Mo_text_74 rfl rfl ?_
      refine wp_getR d_Mo_text_75 ow_Mo_text fl_8_7 (O_91 _) rfl ?_
      refine wp_iconst (x := nI 4) d_Mo_text_78 rfl ?_
      refine wp_iaload d_Mo_text_79 (A_92 _) (by omega) (by decide) (h4) ?_
      refine wp_iastore d_Mo_text_80 (A_92 _) (by omega) (by decide) ?_
      refine wp_eqS (e3) ?_
      refine wp_aload_n d_Mo_text_81 rfl rfl ?_
      refine wp_iload_n d_Mo_text_82 rfl rfl ?_
      refine wp_iconst (x := nI 1) d_Mo_text_83 rfl ?_
      refine wp_iconst (x := nI 1) d_Mo_text_84 rfl ?_
      refine wp_iconst (x := nI 1) d_Mo_text_85 rfl ?_
      refine wp_invV d_Mo_text_86 ow_Mo_text lk_8_192 (by decide) mi_Mo_walks rfl rfl (Nat.le_of_ble_eq_true rfl) rfl (wp_isC (O_91 _)) (show h_Mo_walks ≤ _ from by decide) (m_walks C3.1 (by omega) hn ez (fun w hw => ?_))
      refine wp_Ki ?_
      rw [hp]
      clear hw
      generalize sp_ps (sp_tp q) n u = P at K ⊢
      refine wp_iston2 d_Mo_text_89 rfl ?_
      refine wp_aload_n d_Mo_text_90 rfl rfl ?_
      refine wp_getI d_Mo_text_91 ow_Mo_text fl_8_139 (O_91 _) rfl (rfl) ?_
      refine wp_ifB_eq (pc' := 106) d_Mo_text_94 (by decide) (fun h94 => ?_) (fun h94 => ?_)
      · refine wp_iconst (x := nI 0) d_Mo_text_106 rfl ?_
        refine wp_iston3 d_Mo_text_107 rfl ?_
        refine wp_aload_n d_Mo_text_108 rfl rfl ?_
        refine wp_getI d_Mo_text_109 ow_Mo_text fl_8_143 (O_91 _) rfl (rfl) ?_
        refine wp_isto4 d_Mo_text_112 rfl ?_
        refine wp_iload_n d_Mo_text_114 rfl rfl ?_
        refine wp_ifN_ne (pc' := 130) d_Mo_text_115 (by decide) (by omega) (fun q => absurd q (by decide)) (fun _ => ?_)
        refine wp_aload_n d_Mo_text_118 rfl rfl ?_
        refine wp_aload_n d_Mo_text_119 rfl rfl ?_
        refine wp_getR d_Mo_text_120 ow_Mo_text fl_8_19 (O_91 _) rfl ?_
        refine wp_aload_n d_Mo_text_123 rfl rfl ?_
        refine wp_getR d_Mo_text_124 ow_Mo_text fl_8_7 (O_91 _) rfl ?_
        refine wp_invV d_Mo_text_127 ow_Mo_text lk_8_197 (by decide) mi_Mo_moveAll rfl rfl (Nat.le_of_ble_eq_true rfl) rfl (wp_isC (O_91 _)) (show h_Mo_moveAll ≤ _ from by decide) (m_moveAll (a := 95) (b := 92) (by decide) A_95 A_92 ?_)
        refine wp_Kv ?_
        refine wp_aload_n d_Mo_text_130 rfl rfl ?_
        refine wp_getR d_Mo_text_131 ow_Mo_text fl_8_7 (O_91 _) rfl ?_
        refine wp_iconst (x := nI 4) d_Mo_text_134 rfl ?_
        refine wp_iconst (x := nI 0) d_Mo_text_135 rfl ?_
        refine wp_iastore d_Mo_text_136 (A_92 _) (by omega) (by decide) ?_
        refine wp_iload_n d_Mo_text_137 rfl rfl ?_
        refine wp_ifN_eq (pc' := 145) d_Mo_text_138 (by decide) (by omega) (fun _ => ?_) (fun q => absurd q (by decide))
        refine wp_bipush (x := -10) d_Mo_text_145 (by decide) ?_
        refine wp_iload d_Mo_text_147 rfl ?_
        refine wp_isub d_Mo_text_149 rfl ?_
        refine wp_reti d_Mo_text_150 rt_Mo_text ?_
        first
        | (rw [sp_if_t (of_decide_eq_true h94)] at K
           exact mQ_ok K (mC_u (C3.fr (pw_fr _ _)) 4 (nI 0)) ((f3.tr (fr_YD (pw_fr _ _))).up (Or.inl ⟨rfl, by decide⟩)))
        | (rw [sp_if_f (fun z => h94 (decide_eq_true z))] at K
           exact mQ_ok K (mC_u (mv_f (C3.fr (pw_fr _ _)) t3 h283) 4 (nI 0)) ((mv_ff (f3.tr (fr_YD (pw_fr _ _)))).up (Or.inl ⟨rfl, by decide⟩)))
      · refine wp_iload_n d_Mo_text_97 rfl rfl ?_
        refine wp_iload_n d_Mo_text_98 rfl rfl ?_
        refine wp_ic_ne (pc' := 106) d_Mo_text_99 (by decide) (fun h99 => absurd rfl h99) (fun h99 => ?_)
        refine wp_iconst (x := nI 1) d_Mo_text_102 rfl ?_
        refine wp_goto (pc' := 107) d_Mo_text_103 (by decide) ?_
        refine wp_iston3 d_Mo_text_107 rfl ?_
        refine wp_aload_n d_Mo_text_108 rfl rfl ?_
        refine wp_getI d_Mo_text_109 ow_Mo_text fl_8_143 (O_91 _) rfl (rfl) ?_
        refine wp_isto4 d_Mo_text_112 rfl ?_
        refine wp_iload_n d_Mo_text_114 rfl rfl ?_
        refine wp_ifN_ne (pc' := 130) d_Mo_text_115 (by decide) (by omega) (fun _ => ?_) (fun q => absurd q (by decide))
        refine wp_aload_n d_Mo_text_130 rfl rfl ?_
        refine wp_getR d_Mo_text_131 ow_Mo_text fl_8_7 (O_91 _) rfl ?_
        refine wp_iconst (x := nI 4) d_Mo_text_134 rfl ?_
        refine wp_iconst (x := nI 0) d_Mo_text_135 rfl ?_
        refine wp_iastore d_Mo_text_136 (A_92 _) (by omega) (by decide) ?_
        refine wp_iload_n d_Mo_text_137 rfl rfl ?_
        refine wp_ifN_eq (pc' := 145) d_Mo_text_138 (by decide) (by omega) (fun q => absurd q (by decide)) (fun _ => ?_)
        refine wp_iconst (x := nI 1) d_Mo_text_141 rfl ?_
        refine wp_goto (pc' := 150) d_Mo_text_142 (by decide) ?_
        refine wp_reti d_Mo_text_150 rt_Mo_text ?_
        first
        | (rw [sp_if_t (of_decide_eq_true h94)] at K
           exact mQ_ok K (mC_u (C3.fr (pw_fr _ _)) 4 (nI 0)) ((f3.tr (fr_YD (pw_fr _ _))).up (Or.inl ⟨rfl, by decide⟩)))
        | (rw [sp_if_f (fun z => h94 (decide_eq_true z))] at K
           exact mQ_ok K (mC_u (mv_f (C3.fr (pw_fr _ _)) t3 h283) 4 (nI 0)) ((mv_ff (f3.tr (fr_YD (pw_fr _ _)))).up (Or.inl ⟨rfl, by decide⟩)))
      ) 50 0 (mv S 92 95 283) (Nat.zero_add _) (by rw [sp_tk_0]; exact c0) fr.rf
    refine cl_in ml_Mo_text rfl rfl ?_
    refine wp_iload_n d_Mo_text_0 rfl rfl ?_
    refine wp_iconst (x := nI 0) d_Mo_text_1 rfl ?_
    refine wp_iconst (x := nI 1) d_Mo_text_2 rfl ?_
    refine wp_invS d_Mo_text_3 ow_Mo_text lk_8_54 (by decide) mi_Mo_in rfl rfl (Nat.le_of_ble_eq_true rfl) rfl (show h_Mo_in ≤ _ from by decide) (m_in _ _ _ ?_)
    refine wp_Ki ?_
    refine wp_ifB_ne (pc' := 16) d_Mo_text_6 (by decide) (fun h6 => ?_) (fun h6 => absurd h h6)
    refine wp_aload_n d_Mo_text_16 rfl rfl ?_
    refine wp_aload_n d_Mo_text_17 rfl rfl ?_
    refine wp_getR d_Mo_text_18 ow_Mo_text fl_8_7 (O_91 _) rfl ?_
    refine wp_aload_n d_Mo_text_21 rfl rfl ?_
    refine wp_getR d_Mo_text_22 ow_Mo_text fl_8_19 (O_91 _) rfl ?_
    refine wp_invV d_Mo_text_25 ow_Mo_text lk_8_197 (by decide) mi_Mo_moveAll rfl rfl (Nat.le_of_ble_eq_true rfl) rfl (wp_isC (O_91 _)) (show h_Mo_moveAll ≤ _ from by decide) (m_moveAll (a := 92) (b := 95) (by decide) A_92 A_95 ?_)
    refine wp_Kv ?_
    refine wp_iconst (x := nI 0) d_Mo_text_28 rfl ?_
    refine wp_iston2 d_Mo_text_29 rfl ?_
    exact st
  · rw [sp_if_f h] at K
    refine cl_in ml_Mo_text rfl rfl ?_
    refine wp_iload_n d_Mo_text_0 rfl rfl ?_
    refine wp_iconst (x := nI 0) d_Mo_text_1 rfl ?_
    refine wp_iconst (x := nI 1) d_Mo_text_2 rfl ?_
    refine wp_invS d_Mo_text_3 ow_Mo_text lk_8_54 (by decide) mi_Mo_in rfl rfl (Nat.le_of_ble_eq_true rfl) rfl (show h_Mo_in ≤ _ from by decide) (m_in _ _ _ ?_)
    refine wp_Ki ?_
    refine wp_ifB_ne (pc' := 16) d_Mo_text_6 (by decide) (fun h6 => absurd h6 h) (fun h6 => ?_)
    refine wp_aload_n d_Mo_text_9 rfl rfl ?_
    refine wp_ldc (v := .int (-1000000001)) d_Mo_text_10 ow_Mo_text (by decide +kernel) ?_
    refine wp_invV d_Mo_text_12 ow_Mo_text lk_8_59 (by decide) mi_Mo_errs rfl rfl (Nat.le_of_ble_eq_true rfl) rfl (wp_isC (O_91 _)) (show h_Mo_errs ≤ _ from by decide) (m_errs _ 1 (by decide) (by decide) ?_)
    refine wp_Ki ?_
    refine wp_reti d_Mo_text_15 rt_Mo_text ?_
    exact lf_i (by decide) (mQ_er (e := 1) K (by decide) C fr.rf)
end OT
