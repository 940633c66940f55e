/-! the reference: check -/
/-- what a field says, NOBODY beyond the fields -/
noncomputable def sp_sy (q : sp_R) (k : Nat) : Int32 := sp_if (k < sp_n q) (sp_says q (-1) k) (-1)
/-- how far what was told to wait is said: so many, from one on -/
noncomputable def sp_ck (q : sp_R) : Nat → Nat → Nat
  | 0, k => k
  | f + 1, k => sp_if (q (163 + k) = sp_sy q k) (sp_ck q f (k + 1)) k
theorem sp_ck_0 (q : sp_R) (k : Nat) : sp_ck q 0 k = k := by rw [sp_ck]
theorem sp_ck_s (q : sp_R) (f k : Nat) : sp_ck q (f + 1) k = sp_if (q (163 + k) = sp_sy q k) (sp_ck q f (k + 1)) k := by rw [sp_ck]
theorem sp_ck_le (q : sp_R) : ∀ f k, k ≤ sp_ck q f k ∧ sp_ck q f k ≤ k + f := by
  intro f
  induction f with
  | zero => exact fun k => by rw [sp_ck_0]; exact ⟨Nat.le_refl _, Nat.le_refl _⟩
  | succ f ih =>
    intro k
    rw [sp_ck_s]
    by_cases h : q (163 + k) = sp_sy q k
    · rw [sp_if_t h]
      have := ih (k + 1)
      omega
    · rw [sp_if_f h]
      omega
section OZ
variable {S : wp_S} {q : sp_R} {mu : Int32} {Q : Option Value → wp_S → Prop}
theorem m_ck_loop (C : mC S q (-1)) (hw : sp_wf q) (N : Nat) (hN : N ≤ 20) (r : Nat) (K : wp (h_Mo_check - 1) y_Mo_check 57 [some (.ref 91), some (.int (nI N)), some (.int (nI r))] [] S Q) : ∀ f k, k + f = N → sp_ck q f k = r → wp (h_Mo_check - 1) y_Mo_check 16 [some (.ref 91), some (.int (nI N)), some (.int (nI k))] [] S Q := by
  have hn := hw.n
  intro f
  induction f with
  | zero =>
    intro k hk e
    obtain rfl : k = N := by omega
    rw [sp_ck_0] at e
    rw [← e] at K
    refine wp_iload_n d_Mo_check_16 rfl rfl ?_
    refine wp_iload_n d_Mo_check_17 rfl rfl ?_
    refine wp_icN_ge (pc' := 57) d_Mo_check_18 (by decide) (by omega) (by omega) (fun h18 => ?_) (fun h18 => absurd h18 (by omega))
    exact K
  | succ f ih =>
    intro k hk e
    rw [sp_ck_s] at e
    have go : ∀ y, y = sp_sy q k → wp (h_Mo_check - 1) y_Mo_check 48 [some (.ref 91), some (.int (nI N)), some (.int (nI k))] [.int y, .int (q (163 + k))] S Q := by
      intro y hy
      subst hy
      refine wp_ic_ne (pc' := 57) d_Mo_check_48 (by decide) (fun h48 => ?_) (fun h48 => ?_)
      · rw [sp_if_f h48] at e
        rw [← e] at K
        exact K
      · refine wp_iinc2 d_Mo_check_51 rfl (nI_add _ 1) ?_
        refine wp_goto (pc' := 16) d_Mo_check_54 (by decide) ?_
        rw [sp_if_t h48] at e
        exact ih (k + 1) (by omega) e
    refine wp_iload_n d_Mo_check_16 rfl rfl ?_
    refine wp_iload_n d_Mo_check_17 rfl rfl ?_
    refine wp_icN_ge (pc' := 57) d_Mo_check_18 (by decide) (by omega) (by omega) (fun h18 => absurd h18 (by omega)) (fun h18 => ?_)
    refine wp_aload_n d_Mo_check_21 rfl rfl ?_
    refine wp_getR d_Mo_check_22 ow_Mo_check fl_8_7 (O_91 _) rfl ?_
    refine wp_sipush (x := nI 163) d_Mo_check_25 (by decide) ?_
    refine wp_iload_n d_Mo_check_28 rfl rfl ?_
    refine wp_iadd d_Mo_check_29 (nI_add _ _) ?_
    refine wp_iaload d_Mo_check_30 (A_92 _) (by omega) (by decide) (congrFun C.1 _) ?_
    refine wp_aload_n d_Mo_check_31 rfl rfl ?_
    refine wp_iload_n d_Mo_check_32 rfl rfl ?_
    refine wp_invV d_Mo_check_33 ow_Mo_check lk_8_93 (by decide) mi_Mo_isField rfl rfl (Nat.le_of_ble_eq_true rfl) rfl (wp_isC (O_91 _)) (show h_Mo_isField ≤ _ from by decide) (m_isField C.1 _ ?_)
    refine wp_Ki ?_
    refine wp_ifB_eq (pc' := 47) d_Mo_check_36 (by decide) (fun h36 => ?_) (fun h36 => ?_)
    · refine wp_iconst (x := -1) d_Mo_check_47 rfl ?_
      first
      | exact go _ (by unfold sp_sy; rw [sp_if_t hk'])
      | exact go _ (by unfold sp_sy; rw [sp_if_f (fun z => h36 (by rw [hn.2]; exact (i_fld (by omega)).mpr ⟨k, z, rfl⟩))])
    · have hk' : k < sp_n q := by
        have h2 := h36.2
        rw [hn.2] at h2
        obtain ⟨j, h3, h4⟩ := (i_fld (by omega)).mp ⟨h36.1, h2⟩
        have := (nI_eq (by omega) (by omega)).mp h4
        omega
      refine wp_aload_n d_Mo_check_39 rfl rfl ?_
      refine wp_iload_n d_Mo_check_40 rfl rfl ?_
      refine wp_invV d_Mo_check_41 ow_Mo_check lk_8_80 (by decide) mi_Mo_saysNow rfl rfl (Nat.le_of_ble_eq_true rfl) rfl (wp_isC (O_91 _)) (show h_Mo_saysNow ≤ _ from by decide) (m_saysNow C.1 C.2 k (by omega) (fun j hj => hw.f (by omega)) ?_)
      refine wp_Ki ?_
      refine wp_goto (pc' := 48) d_Mo_check_44 (by decide) ?_
      first
      | exact go _ (by unfold sp_sy; rw [sp_if_t hk'])
      | exact go _ (by unfold sp_sy; rw [sp_if_f (fun z => h36 (by rw [hn.2]; exact (i_fld (by omega)).mpr ⟨k, z, rfl⟩))])
def sp_cw (q : sp_R) : sp_R := sp_up q 5 (nI 0)
noncomputable def op_check (q : sp_R) : sp_Out := (0, sp_if (sp_ck (sp_cw q) (q 5).toNatClampNeg 0 = (q 5).toNatClampNeg) (nI 0) (nI (1 + sp_ck (sp_cw q) (q 5).toNatClampNeg 0)), sp_cw q)
theorem sp_cw_wf {q : sp_R} (h : sp_wf q) : sp_wf (sp_cw q) := sp_wf_h h (by omega) (fun z => by omega) (fun z => by omega) (fun _ => ⟨0, Nat.zero_le _, rfl⟩) (fun z => by omega) (fun z => by omega)
theorem m_check (C : mC S q (-1)) (hw : sp_wf q) (K : mQ S (op_check q) Q) : cl h_Mo_check y_Mo_check [.ref k_Mo] S Q := by
  obtain ⟨n, hn, e⟩ := hw.2.2.2.2.2.2.1
  unfold op_check at K
  rw [e, nI_clamp (by omega)] at K
  have hle := sp_ck_le (sp_cw q) n 0
  have C2 : mC (wp_u S 92 5 (nI 0)) (sp_cw q) (-1) := mC_u C 5 (nI 0)
  have f2 : fr mY S (wp_u S 92 5 (nI 0)) := fr_YR (fr.rf.up ⟨rfl, by decide⟩)
  refine cl_in ml_Mo_check rfl rfl ?_
  refine wp_aload_n d_Mo_check_0 rfl rfl ?_
  refine wp_getR d_Mo_check_1 ow_Mo_check fl_8_7 (O_91 _) rfl ?_
  refine wp_iconst (x := nI 5) d_Mo_check_4 rfl ?_
  refine wp_iaload d_Mo_check_5 (A_92 _) (by omega) (by decide) ((congrFun C.1 5).trans e) ?_
  refine wp_iston1 d_Mo_check_6 rfl ?_
  refine wp_aload_n d_Mo_check_7 rfl rfl ?_
  refine wp_getR d_Mo_check_8 ow_Mo_check fl_8_7 (O_91 _) rfl ?_
  refine wp_iconst (x := nI 5) d_Mo_check_11 rfl ?_
  refine wp_iconst (x := nI 0) d_Mo_check_12 rfl ?_
  refine wp_iastore d_Mo_check_13 (A_92 _) (by omega) (by decide) ?_
  refine wp_iconst (x := nI 0) d_Mo_check_14 rfl ?_
  refine wp_iston2 d_Mo_check_15 rfl ?_
  refine m_ck_loop C2 (sp_cw_wf hw) n hn _ ?_ n 0 (Nat.zero_add _) rfl
  refine wp_iload_n d_Mo_check_57 rfl rfl ?_
  refine wp_iload_n d_Mo_check_58 rfl rfl ?_
  refine wp_icN_ne (pc' := 66) d_Mo_check_59 (by decide) (by omega) (by omega) (fun h59 => ?_) (fun h59 => ?_)
  · refine wp_iconst (x := nI 1) d_Mo_check_66 rfl ?_
    refine wp_iload_n d_Mo_check_67 rfl rfl ?_
    refine wp_iadd d_Mo_check_68 (nI_add _ _) ?_
    refine wp_reti d_Mo_check_69 rt_Mo_check ?_
    rw [sp_if_f h59] at K
    exact mQ_ok K C2 f2
  · refine wp_iconst (x := nI 0) d_Mo_check_62 rfl ?_
    refine wp_goto (pc' := 69) d_Mo_check_63 (by decide) ?_
    refine wp_reti d_Mo_check_69 rt_Mo_check ?_
    rw [sp_if_t h59] at K
    exact mQ_ok K C2 f2
end OZ
