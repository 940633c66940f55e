/-! the reference: image, restore, sheets -/
section OD
variable {S : wp_S} {q : sp_R} {mu : Int32} {Q : Option Value → wp_S → Prop}
theorem m_image (K : Q (some (.int (S.2 91 5 + nI 1))) (wp_u (wp_u (mv S 92 93 283) 91 4 (nI 1)) 91 5 (S.2 91 5 + nI 1))) : cl h_Mo_image y_Mo_image [.ref k_Mo] S Q := by
  refine cl_in ml_Mo_image rfl rfl ?_
  refine wp_aload_n d_Mo_image_0 rfl rfl ?_
  refine wp_aload_n d_Mo_image_1 rfl rfl ?_
  refine wp_getR d_Mo_image_2 ow_Mo_image fl_8_7 (O_91 _) rfl ?_
  refine wp_aload_n d_Mo_image_5 rfl rfl ?_
  refine wp_getR d_Mo_image_6 ow_Mo_image fl_8_13 (O_91 _) rfl ?_
  refine wp_invV d_Mo_image_9 ow_Mo_image lk_8_197 (by decide) mi_Mo_moveAll rfl rfl (Nat.le_of_ble_eq_true rfl) rfl (wp_isC (O_91 _)) (show h_Mo_moveAll ≤ _ from by decide) (m_moveAll (a := 92) (b := 93) (by decide) A_92 A_93 ?_)
  refine wp_Kv ?_
  refine wp_aload_n d_Mo_image_12 rfl rfl ?_
  refine wp_iconst (x := nI 1) d_Mo_image_13 rfl ?_
  refine wp_put (ty := .boolean) d_Mo_image_14 ow_Mo_image fl_8_254 (by decide +kernel) (by decide +kernel) (O_91 _) rfl ⟨rfl, rfl⟩ ?_
  refine wp_aload_n d_Mo_image_17 rfl rfl ?_
  refine wp_dup d_Mo_image_18 rfl ?_
  refine wp_getI d_Mo_image_19 ow_Mo_image fl_8_257 (O_91 _) rfl ((rfl : _ = S.2 91 5)) ?_
  refine wp_iconst (x := nI 1) d_Mo_image_22 rfl ?_
  refine wp_iadd d_Mo_image_23 rfl ?_
  refine wp_put (ty := .int) d_Mo_image_24 ow_Mo_image fl_8_257 (by decide +kernel) (by decide +kernel) (O_91 _) rfl ⟨rfl, rfl⟩ ?_
  refine wp_aload_n d_Mo_image_27 rfl rfl ?_
  refine wp_getI d_Mo_image_28 ow_Mo_image fl_8_257 (O_91 _) rfl ((rfl : _ = S.2 91 5 + nI 1)) ?_
  refine wp_reti d_Mo_image_31 rt_Mo_image ?_
  exact K
theorem m_restore (K1 : S.2 91 4 ≠ 0 → Q (some (.int (S.2 93 1))) (mv S 93 92 283)) (K0 : S.2 91 4 = 0 → Q (some (.int (-1000000002))) (wp_u S 96 2 (S.2 96 2 + nI 1))) : cl h_Mo_restore y_Mo_restore [.ref k_Mo] S Q := by
  refine cl_in ml_Mo_restore rfl rfl ?_
  refine wp_aload_n d_Mo_restore_0 rfl rfl ?_
  refine wp_getI d_Mo_restore_1 ow_Mo_restore fl_8_254 (O_91 _) rfl ((rfl : _ = S.2 91 4)) ?_
  refine wp_if_ne (pc' := 14) d_Mo_restore_4 (by decide) (fun h4 => ?_) (fun h4 => ?_)
  · refine wp_aload_n d_Mo_restore_14 rfl rfl ?_
    refine wp_aload_n d_Mo_restore_15 rfl rfl ?_
    refine wp_getR d_Mo_restore_16 ow_Mo_restore fl_8_13 (O_91 _) rfl ?_
    refine wp_aload_n d_Mo_restore_19 rfl rfl ?_
    refine wp_getR d_Mo_restore_20 ow_Mo_restore fl_8_7 (O_91 _) rfl ?_
    refine wp_invV d_Mo_restore_23 ow_Mo_restore lk_8_197 (by decide) mi_Mo_moveAll rfl rfl (Nat.le_of_ble_eq_true rfl) rfl (wp_isC (O_91 _)) (show h_Mo_moveAll ≤ _ from by decide) (m_moveAll (a := 93) (b := 92) (by decide) A_93 A_92 ?_)
    refine wp_Kv ?_
    refine wp_aload_n d_Mo_restore_26 rfl rfl ?_
    refine wp_getR d_Mo_restore_27 ow_Mo_restore fl_8_7 (O_91 _) rfl ?_
    refine wp_iconst (x := nI 1) d_Mo_restore_30 rfl ?_
    refine wp_iaload d_Mo_restore_31 (A_92 _) (by omega) (by decide) ((rfl : _ = S.2 93 1)) ?_
    refine wp_reti d_Mo_restore_32 rt_Mo_restore ?_
    exact K1 h4
  · refine wp_aload_n d_Mo_restore_7 rfl rfl ?_
    refine wp_ldc (v := .int (-1000000002)) d_Mo_restore_8 ow_Mo_restore (by decide +kernel) ?_
    refine wp_invV d_Mo_restore_10 ow_Mo_restore lk_8_59 (by decide) mi_Mo_errs rfl rfl (Nat.le_of_ble_eq_true rfl) rfl (wp_isC (O_91 _)) (show h_Mo_errs ≤ _ from by decide) (m_errs _ 2 (by decide) (by decide) ?_)
    refine wp_Ki ?_
    refine wp_reti d_Mo_restore_13 rt_Mo_restore ?_
    exact K0 h4
end OD
