/-! the reference: more calls -/
def sp_abv (k : Nat) : Int32 := if k = 0 then -1 else if k = 4 then nI 1 else if k = 5 then nI 2 else if k = 6 then nI 3 else nI 0
/-- a kind stands under another -/
def sp_un (k w : Nat) : Prop := w = k ∨ (k ≠ 0 ∧ w = 0) ∨ (k = 4 ∧ w = 1) ∨ (k = 5 ∧ w = 2) ∨ (k = 6 ∧ w = 3)
section OX
variable {S : wp_S} {q : sp_R} {mu : Int32} {Q : Option Value → wp_S → Prop}
theorem m_above (k : Nat) (hk : k < 7) (K : Q (some (.int (sp_abv k))) S) : cl h_Mo_above y_Mo_above [.int (nI k)] S Q := by
  unfold sp_abv at K
  refine cl_in ml_Mo_above rfl rfl ?_
  refine wp_iload_n d_Mo_above_0 rfl rfl ?_
  refine wp_ifN_ne (pc' := 8) d_Mo_above_1 (by decide) (by omega) (fun h1 => ?_) (fun h1 => ?_)
  · refine wp_iload_n d_Mo_above_8 rfl rfl ?_
    refine wp_iconst (x := nI 4) d_Mo_above_9 rfl ?_
    refine wp_icN_ne (pc' := 17) d_Mo_above_10 (by decide) (by omega) (by omega) (fun h10 => ?_) (fun h10 => ?_)
    · refine wp_iload_n d_Mo_above_17 rfl rfl ?_
      refine wp_iconst (x := nI 5) d_Mo_above_18 rfl ?_
      refine wp_icN_ne (pc' := 26) d_Mo_above_19 (by decide) (by omega) (by omega) (fun h19 => ?_) (fun h19 => ?_)
      · refine wp_iload_n d_Mo_above_26 rfl rfl ?_
        refine wp_bipush (x := nI 6) d_Mo_above_27 (by decide) ?_
        refine wp_icN_ne (pc' := 36) d_Mo_above_29 (by decide) (by omega) (by omega) (fun h29 => ?_) (fun h29 => ?_)
        · refine wp_iconst (x := nI 0) d_Mo_above_36 rfl ?_
          refine wp_reti d_Mo_above_37 rt_Mo_above ?_
          rw [if_neg h1, if_neg h10, if_neg h19, if_neg h29] at K
          exact K
        · refine wp_iconst (x := nI 3) d_Mo_above_32 rfl ?_
          refine wp_goto (pc' := 37) d_Mo_above_33 (by decide) ?_
          refine wp_reti d_Mo_above_37 rt_Mo_above ?_
          rw [if_neg h1, if_neg h10, if_neg h19, if_pos h29] at K
          exact K
      · refine wp_iconst (x := nI 2) d_Mo_above_22 rfl ?_
        refine wp_goto (pc' := 37) d_Mo_above_23 (by decide) ?_
        refine wp_reti d_Mo_above_37 rt_Mo_above ?_
        rw [if_neg h1, if_neg h10, if_pos h19] at K
        exact K
    · refine wp_iconst (x := nI 1) d_Mo_above_13 rfl ?_
      refine wp_goto (pc' := 37) d_Mo_above_14 (by decide) ?_
      refine wp_reti d_Mo_above_37 rt_Mo_above ?_
      rw [if_neg h1, if_pos h10] at K
      exact K
  · refine wp_iconst (x := -1) d_Mo_above_4 rfl ?_
    refine wp_goto (pc' := 37) d_Mo_above_5 (by decide) ?_
    refine wp_reti d_Mo_above_37 rt_Mo_above ?_
    rw [if_pos h1] at K
    exact K
theorem m_as_m (i w : Nat) (B : wp (h_Mo_as - 1) y_Mo_as 49 [some (.ref 91), some (.int (nI i)), some (.int (nI w)), some (.int (-1))] [] S Q) : wp (h_Mo_as - 1) y_Mo_as 32 [some (.ref 91), some (.int (nI i)), some (.int (nI w)), some (.int (-1))] [] S Q := by
  refine wp_iload_n d_Mo_as_32 rfl rfl ?_
  refine wp_if_lt (pc' := 49) d_Mo_as_33 (by decide) (fun h33 => ?_) (fun h33 => absurd h33 (by decide))
  exact B
theorem m_as_0 (i w : Nat) (hw : w < 7) (G : w = 0 → wp (h_Mo_as - 1) y_Mo_as 49 [some (.ref 91), some (.int (nI i)), some (.int (nI w)), some (.int (nI w))] [] S Q) (B : w ≠ 0 → wp (h_Mo_as - 1) y_Mo_as 49 [some (.ref 91), some (.int (nI i)), some (.int (nI w)), some (.int (-1))] [] S Q) : wp (h_Mo_as - 1) y_Mo_as 32 [some (.ref 91), some (.int (nI i)), some (.int (nI w)), some (.int (nI 0))] [] S Q := by
  refine wp_iload_n d_Mo_as_32 rfl rfl ?_
  refine wp_ifN_lt (pc' := 49) d_Mo_as_33 (by decide) (by omega) ?_
  refine wp_iload_n d_Mo_as_36 rfl rfl ?_
  refine wp_iload_n d_Mo_as_37 rfl rfl ?_
  refine wp_icN_eq (pc' := 49) d_Mo_as_38 (by decide) (by omega) (by omega) (fun h38 => ?_) (fun h38 => ?_)
  · subst h38
    exact G rfl
  · refine wp_iload_n d_Mo_as_41 rfl rfl ?_
    refine wp_invS d_Mo_as_42 ow_Mo_as lk_8_106 (by decide) mi_Mo_above rfl rfl (Nat.le_of_ble_eq_true rfl) rfl (show h_Mo_above ≤ _ from by decide) (m_above 0 (by decide) (lf_i (show sp_abv 0 = -1 from rfl) ?_))
    refine wp_Ki ?_
    refine wp_iston3 d_Mo_as_45 rfl ?_
    refine wp_goto (pc' := 32) d_Mo_as_46 (by decide) ?_
    exact m_as_m i w (B (fun z => h38 z.symm))
theorem m_as_1 (i w k : Nat) (hw : w < 7) (hk : k = 1 ∨ k = 2 ∨ k = 3) (G : w = k ∨ w = 0 → wp (h_Mo_as - 1) y_Mo_as 49 [some (.ref 91), some (.int (nI i)), some (.int (nI w)), some (.int (nI w))] [] S Q) (B : w ≠ k ∧ w ≠ 0 → wp (h_Mo_as - 1) y_Mo_as 49 [some (.ref 91), some (.int (nI i)), some (.int (nI w)), some (.int (-1))] [] S Q) : wp (h_Mo_as - 1) y_Mo_as 32 [some (.ref 91), some (.int (nI i)), some (.int (nI w)), some (.int (nI k))] [] S Q := by
  have e : sp_abv k = nI 0 := by rcases hk with rfl | rfl | rfl <;> rfl
  refine wp_iload_n d_Mo_as_32 rfl rfl ?_
  refine wp_ifN_lt (pc' := 49) d_Mo_as_33 (by decide) (by omega) ?_
  refine wp_iload_n d_Mo_as_36 rfl rfl ?_
  refine wp_iload_n d_Mo_as_37 rfl rfl ?_
  refine wp_icN_eq (pc' := 49) d_Mo_as_38 (by decide) (by omega) (by omega) (fun h38 => ?_) (fun h38 => ?_)
  · subst h38
    exact G (Or.inl rfl)
  · refine wp_iload_n d_Mo_as_41 rfl rfl ?_
    refine wp_invS d_Mo_as_42 ow_Mo_as lk_8_106 (by decide) mi_Mo_above rfl rfl (Nat.le_of_ble_eq_true rfl) rfl (show h_Mo_above ≤ _ from by decide) (m_above k (by omega) (lf_i e ?_))
    refine wp_Ki ?_
    refine wp_iston3 d_Mo_as_45 rfl ?_
    refine wp_goto (pc' := 32) d_Mo_as_46 (by decide) ?_
    exact m_as_0 i w hw (fun z => G (Or.inr z)) (fun z => B ⟨fun y => h38 y.symm, z⟩)
theorem m_as_4 (i w k k' : Nat) (hw : w < 7) (hk : (k = 4 ∧ k' = 1) ∨ (k = 5 ∧ k' = 2) ∨ (k = 6 ∧ k' = 3)) (G : w = k ∨ w = k' ∨ w = 0 → wp (h_Mo_as - 1) y_Mo_as 49 [some (.ref 91), some (.int (nI i)), some (.int (nI w)), some (.int (nI w))] [] S Q) (B : w ≠ k ∧ w ≠ k' ∧ w ≠ 0 → wp (h_Mo_as - 1) y_Mo_as 49 [some (.ref 91), some (.int (nI i)), some (.int (nI w)), some (.int (-1))] [] S Q) : wp (h_Mo_as - 1) y_Mo_as 32 [some (.ref 91), some (.int (nI i)), some (.int (nI w)), some (.int (nI k))] [] S Q := by
  have e : sp_abv k = nI k' := by rcases hk with ⟨rfl, rfl⟩ | ⟨rfl, rfl⟩ | ⟨rfl, rfl⟩ <;> rfl
  refine wp_iload_n d_Mo_as_32 rfl rfl ?_
  refine wp_ifN_lt (pc' := 49) d_Mo_as_33 (by decide) (by omega) ?_
  refine wp_iload_n d_Mo_as_36 rfl rfl ?_
  refine wp_iload_n d_Mo_as_37 rfl rfl ?_
  refine wp_icN_eq (pc' := 49) d_Mo_as_38 (by decide) (by omega) (by omega) (fun h38 => ?_) (fun h38 => ?_)
  · subst h38
    exact G (Or.inl rfl)
  · refine wp_iload_n d_Mo_as_41 rfl rfl ?_
    refine wp_invS d_Mo_as_42 ow_Mo_as lk_8_106 (by decide) mi_Mo_above rfl rfl (Nat.le_of_ble_eq_true rfl) rfl (show h_Mo_above ≤ _ from by decide) (m_above k (by omega) (lf_i e ?_))
    refine wp_Ki ?_
    refine wp_iston3 d_Mo_as_45 rfl ?_
    refine wp_goto (pc' := 32) d_Mo_as_46 (by decide) ?_
    exact m_as_1 i w k' hw (by omega) (fun z => G (Or.inr z)) (fun z => B ⟨fun y => h38 y.symm, z⟩)
theorem m_as_k (i w k : Nat) (hw : w < 7) (hk : k < 7) (G : sp_un k w → wp (h_Mo_as - 1) y_Mo_as 49 [some (.ref 91), some (.int (nI i)), some (.int (nI w)), some (.int (nI w))] [] S Q) (B : ¬ sp_un k w → wp (h_Mo_as - 1) y_Mo_as 49 [some (.ref 91), some (.int (nI i)), some (.int (nI w)), some (.int (-1))] [] S Q) : wp (h_Mo_as - 1) y_Mo_as 32 [some (.ref 91), some (.int (nI i)), some (.int (nI w)), some (.int (nI k))] [] S Q := by
  unfold sp_un at G B
  rcases (show k = 0 ∨ (k = 1 ∨ k = 2 ∨ k = 3) ∨ (k = 4 ∨ k = 5 ∨ k = 6) by omega) with rfl | h | h
  · exact m_as_0 i w hw (fun z => G (by omega)) (fun z => B (by omega))
  · exact m_as_1 i w k hw h (fun z => G (by omega)) (fun z => B (by omega))
  · exact m_as_4 i w k (k - 3) hw (by omega) (fun z => G (by omega)) (fun z => B (by omega))
noncomputable def op_as (q : sp_R) (v w : Int32) : sp_Out := sp_if (sp_isF q v ∧ sp_isW w 6) (sp_if (sp_un (sp_kd q v.toNatClampNeg) w.toNatClampNeg) (0, sp_f q v.toNatClampNeg 1, q) (sp_bad q 5)) (sp_bad q 1)
theorem m_as (C : mC S q (-1)) (hw : sp_wf q) (v w : Int32) (K : mQ S (op_as q v w) Q) : cl h_Mo_as y_Mo_as [.ref k_Mo, .int v, .int w] S Q := by
  have hn := hw.n
  unfold op_as at K
  by_cases h : sp_isF q v ∧ sp_isW w 6
  · rw [sp_if_t h] at K
    obtain ⟨i, hi, rfl⟩ := sp_isF_of hw h.1
    obtain ⟨k, hk, rfl⟩ := (i_in (by decide)).mp h.2
    rw [nI_clamp (by omega), nI_clamp (by omega)] at K
    obtain ⟨g1, g2⟩ := (hw.f hi).kd
    refine cl_in ml_Mo_as rfl rfl ?_
    refine wp_aload_n d_Mo_as_0 rfl rfl ?_
    refine wp_iload_n d_Mo_as_1 rfl rfl ?_
    refine wp_invV d_Mo_as_2 ow_Mo_as lk_8_93 (by decide) mi_Mo_isField rfl rfl (Nat.le_of_ble_eq_true rfl) rfl (wp_isC (O_91 _)) (show h_Mo_isField ≤ _ from by decide) (m_isField C.1 _ ?_)
    refine wp_Ki ?_
    refine wp_ifB_eq (pc' := 18) d_Mo_as_5 (by decide) (fun h5 => absurd h.1 h5) (fun h5 => ?_)
    refine wp_iload_n d_Mo_as_8 rfl rfl ?_
    refine wp_iconst (x := nI 0) d_Mo_as_9 rfl ?_
    refine wp_bipush (x := nI 6) d_Mo_as_10 (by decide) ?_
    refine wp_invS d_Mo_as_12 ow_Mo_as lk_8_54 (by decide) mi_Mo_in rfl rfl (Nat.le_of_ble_eq_true rfl) rfl (show h_Mo_in ≤ _ from by decide) (m_in _ _ _ ?_)
    refine wp_Ki ?_
    refine wp_ifB_ne (pc' := 25) d_Mo_as_15 (by decide) (fun h15 => ?_) (fun h15 => absurd h.2 h15)
    refine wp_aload_n d_Mo_as_25 rfl rfl ?_
    refine wp_iload_n d_Mo_as_26 rfl rfl ?_
    refine wp_iconst (x := nI 0) d_Mo_as_27 rfl ?_
    refine wp_invV d_Mo_as_28 ow_Mo_as lk_8_72 (by decide) mi_Mo_its rfl rfl (Nat.le_of_ble_eq_true rfl) rfl (wp_isC (O_91 _)) (show h_Mo_its ≤ _ from by decide) (m_its C.1 i 0 (by omega) (lf_i g2 ?_))
    refine wp_Ki ?_
    refine wp_iston3 d_Mo_as_31 rfl ?_
    refine m_as_k i k (sp_kd q i) (by omega) g1 (fun z => ?_) (fun z => ?_)
    · rw [sp_if_t z] at K
      refine wp_iload_n d_Mo_as_49 rfl rfl ?_
      refine wp_ifN_ge (pc' := 62) d_Mo_as_50 (by decide) (by omega) ?_
      refine wp_aload_n d_Mo_as_62 rfl rfl ?_
      refine wp_iload_n d_Mo_as_63 rfl rfl ?_
      refine wp_iconst (x := nI 1) d_Mo_as_64 rfl ?_
      refine wp_invV d_Mo_as_65 ow_Mo_as lk_8_72 (by decide) mi_Mo_its rfl rfl (Nat.le_of_ble_eq_true rfl) rfl (wp_isC (O_91 _)) (show h_Mo_its ≤ _ from by decide) (m_its C.1 i 1 (by omega) ?_)
      refine wp_Ki ?_
      refine wp_reti d_Mo_as_68 rt_Mo_as ?_
      exact mQ_ok K C fr.rf
    · rw [sp_if_f z] at K
      refine wp_iload_n d_Mo_as_49 rfl rfl ?_
      refine wp_if_ge (pc' := 62) d_Mo_as_50 (by decide) (fun h50 => absurd h50 (by decide)) (fun h50 => ?_)
      refine wp_aload_n d_Mo_as_53 rfl rfl ?_
      refine wp_ldc (v := .int (-1000000005)) d_Mo_as_54 ow_Mo_as (by decide +kernel) ?_
      refine wp_invV d_Mo_as_56 ow_Mo_as lk_8_59 (by decide) mi_Mo_errs rfl rfl (Nat.le_of_ble_eq_true rfl) rfl (wp_isC (O_91 _)) (show h_Mo_errs ≤ _ from by decide) (m_errs _ 5 (by decide) (by decide) ?_)
      refine wp_Ki ?_
      refine wp_goto (pc' := 68) d_Mo_as_59 (by decide) ?_
      refine wp_reti d_Mo_as_68 rt_Mo_as ?_
      exact lf_i (by decide) (mQ_er (e := 5) K (by decide) C fr.rf)
  · rw [sp_if_f h] at K
    refine cl_in ml_Mo_as rfl rfl ?_
    refine wp_aload_n d_Mo_as_0 rfl rfl ?_
    refine wp_iload_n d_Mo_as_1 rfl rfl ?_
    refine wp_invV d_Mo_as_2 ow_Mo_as lk_8_93 (by decide) mi_Mo_isField rfl rfl (Nat.le_of_ble_eq_true rfl) rfl (wp_isC (O_91 _)) (show h_Mo_isField ≤ _ from by decide) (m_isField C.1 _ ?_)
    refine wp_Ki ?_
    refine wp_ifB_eq (pc' := 18) d_Mo_as_5 (by decide) (fun h5 => ?_) (fun h5 => ?_)
    · refine wp_aload_n d_Mo_as_18 rfl rfl ?_
      refine wp_ldc (v := .int (-1000000001)) d_Mo_as_19 ow_Mo_as (by decide +kernel) ?_
      refine wp_invV d_Mo_as_21 ow_Mo_as lk_8_59 (by decide) mi_Mo_errs rfl rfl (Nat.le_of_ble_eq_true rfl) rfl (wp_isC (O_91 _)) (show h_Mo_errs ≤ _ from by decide) (m_errs _ 1 (by decide) (by decide) ?_)
      refine wp_Ki ?_
      refine wp_reti d_Mo_as_24 rt_Mo_as ?_
      exact lf_i (by decide) (mQ_er (e := 1) K (by decide) C fr.rf)
    · refine wp_iload_n d_Mo_as_8 rfl rfl ?_
      refine wp_iconst (x := nI 0) d_Mo_as_9 rfl ?_
      refine wp_bipush (x := nI 6) d_Mo_as_10 (by decide) ?_
      refine wp_invS d_Mo_as_12 ow_Mo_as lk_8_54 (by decide) mi_Mo_in rfl rfl (Nat.le_of_ble_eq_true rfl) rfl (show h_Mo_in ≤ _ from by decide) (m_in _ _ _ ?_)
      refine wp_Ki ?_
      refine wp_ifB_ne (pc' := 25) d_Mo_as_15 (by decide) (fun h15 => absurd ⟨h5, h15⟩ h) (fun h15 => ?_)
      refine wp_aload_n d_Mo_as_18 rfl rfl ?_
      refine wp_ldc (v := .int (-1000000001)) d_Mo_as_19 ow_Mo_as (by decide +kernel) ?_
      refine wp_invV d_Mo_as_21 ow_Mo_as lk_8_59 (by decide) mi_Mo_errs rfl rfl (Nat.le_of_ble_eq_true rfl) rfl (wp_isC (O_91 _)) (show h_Mo_errs ≤ _ from by decide) (m_errs _ 1 (by decide) (by decide) ?_)
      refine wp_Ki ?_
      refine wp_reti d_Mo_as_24 rt_Mo_as ?_
      exact lf_i (by decide) (mQ_er (e := 1) K (by decide) C fr.rf)
noncomputable def op_tell (q : sp_R) (v : Int32) : sp_Out := sp_if (q 5 = nI 20) (sp_bad q 4) (0, q 5 + nI 1, sp_up (sp_up q (163 + (q 5).toNatClampNeg) v) 5 (q 5 + nI 1))
theorem m_tell (C : mC S q (-1)) (hw : sp_wf q) (v : Int32) (K : mQ S (op_tell q v) Q) : cl h_Mo_tell y_Mo_tell [.ref k_Mo, .int v] S Q := by
  obtain ⟨n, hn, e⟩ := hw.2.2.2.2.2.2.1
  unfold op_tell at K
  rw [e, nI_clamp (by omega), nI_add] at K
  have e1 : sp_up q (163 + n) v 5 = nI n := (sp_up_ne _ _ (by omega)).trans e
  refine cl_in ml_Mo_tell rfl rfl ?_
  refine wp_aload_n d_Mo_tell_0 rfl rfl ?_
  refine wp_getR d_Mo_tell_1 ow_Mo_tell fl_8_7 (O_91 _) rfl ?_
  refine wp_iconst (x := nI 5) d_Mo_tell_4 rfl ?_
  refine wp_iaload d_Mo_tell_5 (A_92 _) (by omega) (by decide) ((congrFun C.1 5).trans e) ?_
  refine wp_bipush (x := nI 20) d_Mo_tell_6 (by decide) ?_
  refine wp_icN_ne (pc' := 18) d_Mo_tell_8 (by decide) (by omega) (by omega) (fun h8 => ?_) (fun h8 => ?_)
  · refine wp_aload_n d_Mo_tell_18 rfl rfl ?_
    refine wp_getR d_Mo_tell_19 ow_Mo_tell fl_8_7 (O_91 _) rfl ?_
    refine wp_sipush (x := nI 163) d_Mo_tell_22 (by decide) ?_
    refine wp_aload_n d_Mo_tell_25 rfl rfl ?_
    refine wp_getR d_Mo_tell_26 ow_Mo_tell fl_8_7 (O_91 _) rfl ?_
    refine wp_iconst (x := nI 5) d_Mo_tell_29 rfl ?_
    refine wp_iaload d_Mo_tell_30 (A_92 _) (by omega) (by decide) ((congrFun C.1 5).trans e) ?_
    refine wp_iadd d_Mo_tell_31 (nI_add _ _) ?_
    refine wp_iload_n d_Mo_tell_32 rfl rfl ?_
    refine wp_iastore d_Mo_tell_33 (A_92 _) (by omega) (by decide) ?_
    refine wp_aload_n d_Mo_tell_34 rfl rfl ?_
    refine wp_getR d_Mo_tell_35 ow_Mo_tell fl_8_7 (O_91 _) rfl ?_
    refine wp_iconst (x := nI 5) d_Mo_tell_38 rfl ?_
    refine wp_dup2 d_Mo_tell_39 ⟨rfl, rfl⟩ ?_
    refine wp_iaload d_Mo_tell_40 (A_92 _) (by omega) (by decide) ((congrFun (mC_u C (163 + n) v).1 5).trans e1) ?_
    refine wp_iconst (x := nI 1) d_Mo_tell_41 rfl ?_
    refine wp_iadd d_Mo_tell_42 (nI_add _ _) ?_
    refine wp_iastore d_Mo_tell_43 (A_92 _) (by omega) (by decide) ?_
    refine wp_aload_n d_Mo_tell_44 rfl rfl ?_
    refine wp_getR d_Mo_tell_45 ow_Mo_tell fl_8_7 (O_91 _) rfl ?_
    refine wp_iconst (x := nI 5) d_Mo_tell_48 rfl ?_
    refine wp_iaload d_Mo_tell_49 (A_92 _) (by omega) (by decide) ((congrFun (mC_u (mC_u C (163 + n) v) 5 (nI (n + 1))).1 5).trans (sp_up_eq _ _ _)) ?_
    refine wp_reti d_Mo_tell_50 rt_Mo_tell ?_
    rw [sp_if_f (fun z => h8 ((nI_eq (by omega) (by decide)).mp z))] at K
    exact mQ_ok K (mC_u (mC_u C _ _) _ _) (fr_YR ((fr.rf.up ⟨rfl, by omega⟩).up ⟨rfl, by decide⟩))
  · refine wp_aload_n d_Mo_tell_11 rfl rfl ?_
    refine wp_ldc (v := .int (-1000000004)) d_Mo_tell_12 ow_Mo_tell (by decide +kernel) ?_
    refine wp_invV d_Mo_tell_14 ow_Mo_tell lk_8_59 (by decide) mi_Mo_errs rfl rfl (Nat.le_of_ble_eq_true rfl) rfl (wp_isC (O_91 _)) (show h_Mo_errs ≤ _ from by decide) (m_errs _ 4 (by decide) (by decide) ?_)
    refine wp_Ki ?_
    refine wp_reti d_Mo_tell_17 rt_Mo_tell ?_
    rw [sp_if_t (by rw [h8])] at K
    exact lf_i (by decide) (mQ_er (e := 4) K (by decide) C fr.rf)
end OX
