/-! the reference: acres off a sheet -/
noncomputable def op_acres (q b z t : sp_R) (v : Int32) : sp_Out := sp_if (sp_isW v 3) (sp_if (b v.toNatClampNeg = 0) (sp_bad q 2) (0, nI (sp_ac t v.toNatClampNeg (min (z v.toNatClampNeg).toNatClampNeg (sp_n q)) 0 q).1, (sp_ac t v.toNatClampNeg (min (z v.toNatClampNeg).toNatClampNeg (sp_n q)) 0 q).2)) (sp_bad q 1)
section OK
variable {S : wp_S} {q : sp_R} {mu : Int32} {Q : Option Value → wp_S → Prop}
theorem m_acres (C : mC S q (-1)) (hw : sp_wf q) (hz : ∀ s, s < 4 → ∃ z, z ≤ 40 ∧ S.2 101 s = nI z) (v : Int32) (K : mQ S (op_acres q (S.2 100) (S.2 101) (S.2 102) v) Q) : cl h_Mo_acres y_Mo_acres [.ref k_Mo, .int v] S Q := by
  have hn := hw.n
  unfold op_acres at K
  by_cases h : sp_isW v 3
  · rw [sp_if_t h] at K
    obtain ⟨s, hs, rfl⟩ := (i_in (by decide)).mp h
    rw [nI_clamp (by omega)] at K
    obtain ⟨z, hz1, hz2⟩ := hz s (by omega)
    rw [hz2, nI_clamp (by omega)] at K
    by_cases hb : S.2 100 s = 0
    · rw [sp_if_t hb] at K
      refine cl_in ml_Mo_acres rfl rfl ?_
      refine wp_iload_n d_Mo_acres_0 rfl rfl ?_
      refine wp_invS d_Mo_acres_1 ow_Mo_acres lk_8_214 (by decide) mi_Mo_isSheet rfl rfl (Nat.le_of_ble_eq_true rfl) rfl (show h_Mo_isSheet ≤ _ from by decide) (m_isSheet _ ?_)
      refine wp_Ki ?_
      refine wp_ifB_ne (pc' := 14) d_Mo_acres_4 (by decide) (fun h4 => ?_) (fun h4 => absurd h h4)
      refine wp_aload_n d_Mo_acres_14 rfl rfl ?_
      refine wp_getR d_Mo_acres_15 ow_Mo_acres fl_8_38 (O_91 _) rfl ?_
      refine wp_iload_n d_Mo_acres_18 rfl rfl ?_
      refine wp_iaload d_Mo_acres_19 (A_100 _) (by omega) (by decide) (rfl) ?_
      refine wp_if_ne (pc' := 30) d_Mo_acres_20 (by decide) (fun h20 => absurd hb h20) (fun h20 => ?_)
      refine wp_aload_n d_Mo_acres_23 rfl rfl ?_
      refine wp_ldc (v := .int (-1000000002)) d_Mo_acres_24 ow_Mo_acres (by decide +kernel) ?_
      refine wp_invV d_Mo_acres_26 ow_Mo_acres lk_8_59 (by decide) mi_Mo_errs rfl rfl (Nat.le_of_ble_eq_true rfl) rfl (wp_isC (O_91 _)) (show h_Mo_errs ≤ _ from by decide) (m_errs _ 2 (by decide) (by decide) ?_)
      refine wp_Ki ?_
      refine wp_reti d_Mo_acres_29 rt_Mo_acres ?_
      exact lf_i (by decide) (mQ_er (e := 2) K (by decide) C fr.rf)
    · rw [sp_if_f hb] at K
      refine cl_in ml_Mo_acres rfl rfl ?_
      refine wp_iload_n d_Mo_acres_0 rfl rfl ?_
      refine wp_invS d_Mo_acres_1 ow_Mo_acres lk_8_214 (by decide) mi_Mo_isSheet rfl rfl (Nat.le_of_ble_eq_true rfl) rfl (show h_Mo_isSheet ≤ _ from by decide) (m_isSheet _ ?_)
      refine wp_Ki ?_
      refine wp_ifB_ne (pc' := 14) d_Mo_acres_4 (by decide) (fun h4 => ?_) (fun h4 => absurd h h4)
      refine wp_aload_n d_Mo_acres_14 rfl rfl ?_
      refine wp_getR d_Mo_acres_15 ow_Mo_acres fl_8_38 (O_91 _) rfl ?_
      refine wp_iload_n d_Mo_acres_18 rfl rfl ?_
      refine wp_iaload d_Mo_acres_19 (A_100 _) (by omega) (by decide) (rfl) ?_
      refine wp_if_ne (pc' := 30) d_Mo_acres_20 (by decide) (fun h20 => ?_) (fun h20 => absurd h20 hb)
      refine wp_iconst (x := nI 0) d_Mo_acres_30 rfl ?_
      refine wp_iston2 d_Mo_acres_31 rfl ?_
      exact m_ac_loop (S := S) (sp_n q) hn.1 s z (by omega) hz1 (sp_ac (S.2 102) s (min z (sp_n q)) 0 q) (fun S2 C2 f2 => mQ_ok K C2 (fr_YR f2)) (min z (sp_n q)) 0 q S (Nat.zero_add _) rfl hn.2 C hz2 rfl fr.rf
  · rw [sp_if_f h] at K
    refine cl_in ml_Mo_acres rfl rfl ?_
    refine wp_iload_n d_Mo_acres_0 rfl rfl ?_
    refine wp_invS d_Mo_acres_1 ow_Mo_acres lk_8_214 (by decide) mi_Mo_isSheet rfl rfl (Nat.le_of_ble_eq_true rfl) rfl (show h_Mo_isSheet ≤ _ from by decide) (m_isSheet _ ?_)
    refine wp_Ki ?_
    refine wp_ifB_ne (pc' := 14) d_Mo_acres_4 (by decide) (fun h4 => absurd h4 h) (fun h4 => ?_)
    refine wp_aload_n d_Mo_acres_7 rfl rfl ?_
    refine wp_ldc (v := .int (-1000000001)) d_Mo_acres_8 ow_Mo_acres (by decide +kernel) ?_
    refine wp_invV d_Mo_acres_10 ow_Mo_acres lk_8_59 (by decide) mi_Mo_errs rfl rfl (Nat.le_of_ble_eq_true rfl) rfl (wp_isC (O_91 _)) (show h_Mo_errs ≤ _ from by decide) (m_errs _ 1 (by decide) (by decide) ?_)
    refine wp_Ki ?_
    refine wp_reti d_Mo_acres_13 rt_Mo_acres ?_
    exact lf_i (by decide) (mQ_er (e := 1) K (by decide) C fr.rf)
end OK
