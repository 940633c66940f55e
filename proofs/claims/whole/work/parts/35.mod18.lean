/-! the reference: told, trace, count -/
def sp_nb (q : sp_R) : Nat → Int32
  | 0 => nI 0
  | k + 1 => sp_nb q k + (if sp_who q (-1) k < 0 then nI 1 else nI 0)
def sp_ta (q : sp_R) : Nat → Int32
  | 0 => nI 0
  | k + 1 => sp_ta q k + sp_all q k
section OA
variable {S : wp_S} {q : sp_R} {mu : Int32} {Q : Option Value → wp_S → Prop}
noncomputable def op_told (q f : sp_R) (v : Int32) : sp_Out := sp_if (nI 1 ≤ v ∧ v ≤ nI 5) (0, f v.toNatClampNeg, q) (sp_bad q 1)
theorem m_told (C : mC S q (-1)) (v : Int32) (K : mQ S (op_told q (S.2 96) v) Q) : cl h_Mo_told y_Mo_told [.ref k_Mo, .int v] S Q := by
  unfold op_told at K
  by_cases h : nI 1 ≤ v ∧ v ≤ nI 5
  · rw [sp_if_t h] at K
    obtain ⟨n, hn, rfl⟩ := (i_in (v := v) (n := 5) (by decide)).mp ⟨Int32.le_trans (by decide) h.1, h.2⟩
    rw [nI_clamp (by omega)] at K
    refine cl_in ml_Mo_told rfl rfl ?_
    refine wp_iload_n d_Mo_told_0 rfl rfl ?_
    refine wp_iconst (x := nI 1) d_Mo_told_1 rfl ?_
    refine wp_iconst (x := nI 5) d_Mo_told_2 rfl ?_
    refine wp_invS d_Mo_told_3 ow_Mo_told lk_8_54 (by decide) mi_Mo_in rfl rfl (Nat.le_of_ble_eq_true rfl) rfl (show h_Mo_in ≤ _ from by decide) (m_in _ _ _ ?_)
    refine wp_Ki ?_
    refine wp_ifB_eq (pc' := 18) d_Mo_told_6 (by decide) (fun h6 => absurd h h6) (fun h6 => ?_)
    refine wp_aload_n d_Mo_told_9 rfl rfl ?_
    refine wp_getR d_Mo_told_10 ow_Mo_told fl_8_22 (O_91 _) rfl ?_
    refine wp_iload_n d_Mo_told_13 rfl rfl ?_
    refine wp_iaload d_Mo_told_14 (A_96 _) (by omega) (by decide) (rfl) ?_
    refine wp_goto (pc' := 24) d_Mo_told_15 (by decide) ?_
    refine wp_reti d_Mo_told_24 rt_Mo_told ?_
    exact mQ_ok K C fr.rf
  · rw [sp_if_f h] at K
    refine cl_in ml_Mo_told rfl rfl ?_
    refine wp_iload_n d_Mo_told_0 rfl rfl ?_
    refine wp_iconst (x := nI 1) d_Mo_told_1 rfl ?_
    refine wp_iconst (x := nI 5) d_Mo_told_2 rfl ?_
    refine wp_invS d_Mo_told_3 ow_Mo_told lk_8_54 (by decide) mi_Mo_in rfl rfl (Nat.le_of_ble_eq_true rfl) rfl (show h_Mo_in ≤ _ from by decide) (m_in _ _ _ ?_)
    refine wp_Ki ?_
    refine wp_ifB_eq (pc' := 18) d_Mo_told_6 (by decide) (fun h6 => ?_) (fun h6 => absurd h6 h)
    refine wp_aload_n d_Mo_told_18 rfl rfl ?_
    refine wp_ldc (v := .int (-1000000001)) d_Mo_told_19 ow_Mo_told (by decide +kernel) ?_
    refine wp_invV d_Mo_told_21 ow_Mo_told lk_8_59 (by decide) mi_Mo_errs rfl rfl (Nat.le_of_ble_eq_true rfl) rfl (wp_isC (O_91 _)) (show h_Mo_errs ≤ _ from by decide) (m_errs _ 1 (by decide) (by decide) ?_)
    refine wp_Ki ?_
    refine wp_reti d_Mo_told_24 rt_Mo_told ?_
    exact lf_i (by decide) (mQ_er (e := 1) K (by decide) C fr.rf)
noncomputable def op_trace (q t : sp_R) (m v : Int32) : sp_Out := sp_if (0 ≤ v ∧ v ≤ m - nI 1) (0, t v.toNatClampNeg, q) (sp_bad q 2)
theorem m_trace (C : mC S q (-1)) {n : Nat} (hn : n ≤ 40) (hm : S.2 91 24 = nI n) (v : Int32) (K : mQ S (op_trace q (S.2 104) (S.2 91 24) v) Q) : cl h_Mo_trace y_Mo_trace [.ref k_Mo, .int v] S Q := by
  unfold op_trace at K
  rw [hm] at K
  by_cases h : 0 ≤ v ∧ v ≤ nI n - nI 1
  · rw [sp_if_t h] at K
    obtain ⟨i, hi, rfl⟩ := (i_fld (by omega)).mp h
    rw [nI_clamp (by omega)] at K
    refine cl_in ml_Mo_trace rfl rfl ?_
    refine wp_iload_n d_Mo_trace_0 rfl rfl ?_
    refine wp_iconst (x := nI 0) d_Mo_trace_1 rfl ?_
    refine wp_aload_n d_Mo_trace_2 rfl rfl ?_
    refine wp_getI d_Mo_trace_3 ow_Mo_trace fl_8_224 (O_91 _) rfl (hm) ?_
    refine wp_iconst (x := nI 1) d_Mo_trace_6 rfl ?_
    refine wp_isub d_Mo_trace_7 rfl ?_
    refine wp_invS d_Mo_trace_8 ow_Mo_trace lk_8_54 (by decide) mi_Mo_in rfl rfl (Nat.le_of_ble_eq_true rfl) rfl (show h_Mo_in ≤ _ from by decide) (m_in _ _ _ ?_)
    refine wp_Ki ?_
    refine wp_ifB_eq (pc' := 23) d_Mo_trace_11 (by decide) (fun h11 => absurd h h11) (fun h11 => ?_)
    refine wp_aload_n d_Mo_trace_14 rfl rfl ?_
    refine wp_getR d_Mo_trace_15 ow_Mo_trace fl_8_50 (O_91 _) rfl ?_
    refine wp_iload_n d_Mo_trace_18 rfl rfl ?_
    refine wp_iaload d_Mo_trace_19 (A_104 _) (by omega) (by decide) (rfl) ?_
    refine wp_goto (pc' := 29) d_Mo_trace_20 (by decide) ?_
    refine wp_reti d_Mo_trace_29 rt_Mo_trace ?_
    exact mQ_ok K C fr.rf
  · rw [sp_if_f h] at K
    refine cl_in ml_Mo_trace rfl rfl ?_
    refine wp_iload_n d_Mo_trace_0 rfl rfl ?_
    refine wp_iconst (x := nI 0) d_Mo_trace_1 rfl ?_
    refine wp_aload_n d_Mo_trace_2 rfl rfl ?_
    refine wp_getI d_Mo_trace_3 ow_Mo_trace fl_8_224 (O_91 _) rfl (hm) ?_
    refine wp_iconst (x := nI 1) d_Mo_trace_6 rfl ?_
    refine wp_isub d_Mo_trace_7 rfl ?_
    refine wp_invS d_Mo_trace_8 ow_Mo_trace lk_8_54 (by decide) mi_Mo_in rfl rfl (Nat.le_of_ble_eq_true rfl) rfl (show h_Mo_in ≤ _ from by decide) (m_in _ _ _ ?_)
    refine wp_Ki ?_
    refine wp_ifB_eq (pc' := 23) d_Mo_trace_11 (by decide) (fun h11 => ?_) (fun h11 => absurd h11 h)
    refine wp_aload_n d_Mo_trace_23 rfl rfl ?_
    refine wp_ldc (v := .int (-1000000002)) d_Mo_trace_24 ow_Mo_trace (by decide +kernel) ?_
    refine wp_invV d_Mo_trace_26 ow_Mo_trace lk_8_59 (by decide) mi_Mo_errs rfl rfl (Nat.le_of_ble_eq_true rfl) rfl (wp_isC (O_91 _)) (show h_Mo_errs ≤ _ from by decide) (m_errs _ 2 (by decide) (by decide) ?_)
    refine wp_Ki ?_
    refine wp_reti d_Mo_trace_29 rt_Mo_trace ?_
    exact lf_i (by decide) (mQ_er (e := 2) K (by decide) C fr.rf)
end OA
