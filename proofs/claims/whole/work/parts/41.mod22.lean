/-! the reference: feed -/
def sp_by8 (w : Int64) (k : Nat) : Int32 := ((w >>> ((nI (8 * k)).toInt64 &&& 63)) &&& 255).toInt32
/-- the row with so many bytes more on the tape -/
def sp_fd (w : Int64) (q : sp_R) (t : Nat) : Nat → sp_R
  | 0 => q
  | k + 1 => sp_up (sp_up (sp_fd w q t k) (113 + (t + k)) (sp_by8 w k)) 4 (nI (t + k + 1))
theorem sp_fd_s (w : Int64) (q : sp_R) (t k : Nat) : sp_fd w q t (k + 1) = sp_up (sp_up (sp_fd w q t k) (113 + (t + k)) (sp_by8 w k)) 4 (nI (t + k + 1)) := by rw [sp_fd]
theorem sp_fd_4 (w : Int64) {q : sp_R} {t : Nat} (h : q 4 = nI t) (k : Nat) : sp_fd w q t k 4 = nI (t + k) := by
  cases k with
  | zero => rw [sp_fd]; exact h
  | succ k => rw [sp_fd_s, sp_up_eq]; rfl
section OE
variable {S : wp_S} {q : sp_R} {mu : Int32} {Q : Option Value → wp_S → Prop}
noncomputable def op_feed (q : sp_R) (w : Int64) (v : Int32) : sp_Out := sp_if (nI 1 ≤ v ∧ v ≤ nI 8) (sp_if (50 < (q 4).toNatClampNeg + v.toNatClampNeg) (sp_bad q 4) (0, nI ((q 4).toNatClampNeg + v.toNatClampNeg), sp_fd w q (q 4).toNatClampNeg v.toNatClampNeg)) (sp_bad q 1)
theorem m_fd_loop {t : Nat} (ht : q 4 = nI t) (w : Int64) (n : Nat) (hn : t + n ≤ 50) (K : ∀ S', mC S' (sp_fd w q t n) mu → fr mR S S' → Q (some (.int (nI (t + n)))) S') : ∀ m k (S' : wp_S), k + m = n → mC S' (sp_fd w q t k) mu → fr mR S S' → wp (h_Mo_feed - 1) y_Mo_feed 40 [some (.ref 91), some (.long w), none, some (.int (nI n)), some (.int (nI k))] [] S' Q := by
  intro m
  induction m with
  | zero =>
    intro k S' hk C f
    obtain rfl : k = n := by omega
    refine wp_iload d_Mo_feed_40 rfl ?_
    refine wp_iload_n d_Mo_feed_42 rfl rfl ?_
    refine wp_icN_ge (pc' := 88) d_Mo_feed_43 (by decide) (by omega) (by omega) (fun h43 => ?_) (fun h43 => absurd h43 (by omega))
    refine wp_aload_n d_Mo_feed_88 rfl rfl ?_
    refine wp_getR d_Mo_feed_89 ow_Mo_feed fl_8_7 (O_91 _) rfl ?_
    refine wp_iconst (x := nI 4) d_Mo_feed_92 rfl ?_
    refine wp_iaload d_Mo_feed_93 (A_92 _) (by omega) (by decide) ((congrFun C.1 4).trans (sp_fd_4 w ht k)) ?_
    refine wp_reti d_Mo_feed_94 rt_Mo_feed ?_
    exact K _ C f
  | succ m ih =>
    intro k S' hk C f
    have e4 := sp_fd_4 w ht k
    have e5 : sp_up (sp_fd w q t k) (113 + (t + k)) (sp_by8 w k) 4 = nI (t + k) := (sp_up_ne _ _ (by omega)).trans e4
    refine wp_iload d_Mo_feed_40 rfl ?_
    refine wp_iload_n d_Mo_feed_42 rfl rfl ?_
    refine wp_icN_ge (pc' := 88) d_Mo_feed_43 (by decide) (by omega) (by omega) (fun h43 => absurd h43 (by omega)) (fun h43 => ?_)
    refine wp_aload_n d_Mo_feed_46 rfl rfl ?_
    refine wp_getR d_Mo_feed_47 ow_Mo_feed fl_8_7 (O_91 _) rfl ?_
    refine wp_bipush (x := nI 113) d_Mo_feed_50 (by decide) ?_
    refine wp_aload_n d_Mo_feed_52 rfl rfl ?_
    refine wp_getR d_Mo_feed_53 ow_Mo_feed fl_8_7 (O_91 _) rfl ?_
    refine wp_iconst (x := nI 4) d_Mo_feed_56 rfl ?_
    refine wp_iaload d_Mo_feed_57 (A_92 _) (by omega) (by decide) ((congrFun C.1 4).trans e4) ?_
    refine wp_iadd d_Mo_feed_58 (nI_add _ _) ?_
    refine wp_lload_n d_Mo_feed_59 rfl rfl ?_
    refine wp_bipush (x := nI 8) d_Mo_feed_60 (by decide) ?_
    refine wp_iload d_Mo_feed_62 rfl ?_
    refine wp_imul d_Mo_feed_64 (pk_mul _ _) ?_
    refine wp_lshr d_Mo_feed_65 (rfl) ?_
    refine wp_ldc2_w (v := 255) d_Mo_feed_66 ow_Mo_feed (by decide +kernel) ?_
    refine wp_land d_Mo_feed_69 (rfl) ?_
    refine wp_l2i d_Mo_feed_70 ((rfl : _ = sp_by8 w k)) ?_
    refine wp_iastore d_Mo_feed_71 (A_92 _) (by omega) (by decide) ?_
    refine wp_aload_n d_Mo_feed_72 rfl rfl ?_
    refine wp_getR d_Mo_feed_73 ow_Mo_feed fl_8_7 (O_91 _) rfl ?_
    refine wp_iconst (x := nI 4) d_Mo_feed_76 rfl ?_
    refine wp_dup2 d_Mo_feed_77 ⟨rfl, rfl⟩ ?_
    refine wp_iaload d_Mo_feed_78 (A_92 _) (by omega) (by decide) ((congrFun (mC_u C (113 + (t + k)) (sp_by8 w k)).1 4).trans e5) ?_
    refine wp_iconst (x := nI 1) d_Mo_feed_79 rfl ?_
    refine wp_iadd d_Mo_feed_80 (nI_add _ _) ?_
    refine wp_iastore d_Mo_feed_81 (A_92 _) (by omega) (by decide) ?_
    refine wp_iinc4 d_Mo_feed_82 rfl (nI_add _ 1) ?_
    refine wp_goto (pc' := 40) d_Mo_feed_85 (by decide) ?_
    refine ih (k + 1) _ (by omega) ?_ ((f.up ⟨rfl, by omega⟩).up ⟨rfl, by decide⟩)
    rw [sp_fd_s]
    exact mC_u (mC_u C _ _) _ _
theorem m_feed (C : mC S q (-1)) (hw : sp_wf q) (w : Int64) (v : Int32) (K : mQ S (op_feed q w v) Q) : cl h_Mo_feed y_Mo_feed [.ref k_Mo, .long w, .int v] S Q := by
  obtain ⟨t, ht, e⟩ := hw.2.2.2.2.2.1
  unfold op_feed at K
  by_cases h : nI 1 ≤ v ∧ v ≤ nI 8
  · rw [sp_if_t h] at K
    obtain ⟨n, hn, rfl⟩ := (i_in (v := v) (n := 8) (by decide)).mp ⟨Int32.le_trans (by decide) h.1, h.2⟩
    rw [e, nI_clamp (by omega), nI_clamp (by omega)] at K
    by_cases h50 : 50 < t + n
    · rw [sp_if_t h50] at K
      refine cl_in ml_Mo_feed rfl rfl ?_
      refine wp_iload_n d_Mo_feed_0 rfl rfl ?_
      refine wp_iconst (x := nI 1) d_Mo_feed_1 rfl ?_
      refine wp_bipush (x := nI 8) d_Mo_feed_2 (by decide) ?_
      refine wp_invS d_Mo_feed_4 ow_Mo_feed lk_8_54 (by decide) mi_Mo_in rfl rfl (Nat.le_of_ble_eq_true rfl) rfl (show h_Mo_in ≤ _ from by decide) (m_in _ _ _ ?_)
      refine wp_Ki ?_
      refine wp_ifB_ne (pc' := 17) d_Mo_feed_7 (by decide) (fun h7 => ?_) (fun h7 => absurd h h7)
      refine wp_aload_n d_Mo_feed_17 rfl rfl ?_
      refine wp_getR d_Mo_feed_18 ow_Mo_feed fl_8_7 (O_91 _) rfl ?_
      refine wp_iconst (x := nI 4) d_Mo_feed_21 rfl ?_
      refine wp_iaload d_Mo_feed_22 (A_92 _) (by omega) (by decide) ((congrFun C.1 4).trans e) ?_
      refine wp_iload_n d_Mo_feed_23 rfl rfl ?_
      refine wp_iadd d_Mo_feed_24 (nI_add _ _) ?_
      refine wp_bipush (x := nI 50) d_Mo_feed_25 (by decide) ?_
      refine wp_icN_le (pc' := 37) d_Mo_feed_27 (by decide) (by omega) (by omega) (fun h27 => absurd h27 (by omega)) (fun h27 => ?_)
      refine wp_aload_n d_Mo_feed_30 rfl rfl ?_
      refine wp_ldc (v := .int (-1000000004)) d_Mo_feed_31 ow_Mo_feed (by decide +kernel) ?_
      refine wp_invV d_Mo_feed_33 ow_Mo_feed lk_8_59 (by decide) mi_Mo_errs rfl rfl (Nat.le_of_ble_eq_true rfl) rfl (wp_isC (O_91 _)) (show h_Mo_errs ≤ _ from by decide) (m_errs _ 4 (by decide) (by decide) ?_)
      refine wp_Ki ?_
      refine wp_reti d_Mo_feed_36 rt_Mo_feed ?_
      exact lf_i (by decide) (mQ_er (e := 4) K (by decide) C fr.rf)
    · rw [sp_if_f h50] at K
      refine cl_in ml_Mo_feed rfl rfl ?_
      refine wp_iload_n d_Mo_feed_0 rfl rfl ?_
      refine wp_iconst (x := nI 1) d_Mo_feed_1 rfl ?_
      refine wp_bipush (x := nI 8) d_Mo_feed_2 (by decide) ?_
      refine wp_invS d_Mo_feed_4 ow_Mo_feed lk_8_54 (by decide) mi_Mo_in rfl rfl (Nat.le_of_ble_eq_true rfl) rfl (show h_Mo_in ≤ _ from by decide) (m_in _ _ _ ?_)
      refine wp_Ki ?_
      refine wp_ifB_ne (pc' := 17) d_Mo_feed_7 (by decide) (fun h7 => ?_) (fun h7 => absurd h h7)
      refine wp_aload_n d_Mo_feed_17 rfl rfl ?_
      refine wp_getR d_Mo_feed_18 ow_Mo_feed fl_8_7 (O_91 _) rfl ?_
      refine wp_iconst (x := nI 4) d_Mo_feed_21 rfl ?_
      refine wp_iaload d_Mo_feed_22 (A_92 _) (by omega) (by decide) ((congrFun C.1 4).trans e) ?_
      refine wp_iload_n d_Mo_feed_23 rfl rfl ?_
      refine wp_iadd d_Mo_feed_24 (nI_add _ _) ?_
      refine wp_bipush (x := nI 50) d_Mo_feed_25 (by decide) ?_
      refine wp_icN_le (pc' := 37) d_Mo_feed_27 (by decide) (by omega) (by omega) (fun h27 => ?_) (fun h27 => absurd h27 (by omega))
      refine wp_iconst (x := nI 0) d_Mo_feed_37 rfl ?_
      refine wp_isto4 d_Mo_feed_38 rfl ?_
      exact m_fd_loop (S := S) (mu := -1) e w n (by omega) (fun S' C' f' => mQ_ok K C' (fr_YR f')) n 0 S (Nat.zero_add _) C fr.rf
  · rw [sp_if_f h] at K
    refine cl_in ml_Mo_feed rfl rfl ?_
    refine wp_iload_n d_Mo_feed_0 rfl rfl ?_
    refine wp_iconst (x := nI 1) d_Mo_feed_1 rfl ?_
    refine wp_bipush (x := nI 8) d_Mo_feed_2 (by decide) ?_
    refine wp_invS d_Mo_feed_4 ow_Mo_feed lk_8_54 (by decide) mi_Mo_in rfl rfl (Nat.le_of_ble_eq_true rfl) rfl (show h_Mo_in ≤ _ from by decide) (m_in _ _ _ ?_)
    refine wp_Ki ?_
    refine wp_ifB_ne (pc' := 17) d_Mo_feed_7 (by decide) (fun h7 => absurd h7 h) (fun h7 => ?_)
    refine wp_aload_n d_Mo_feed_10 rfl rfl ?_
    refine wp_ldc (v := .int (-1000000001)) d_Mo_feed_11 ow_Mo_feed (by decide +kernel) ?_
    refine wp_invV d_Mo_feed_13 ow_Mo_feed lk_8_59 (by decide) mi_Mo_errs rfl rfl (Nat.le_of_ble_eq_true rfl) rfl (wp_isC (O_91 _)) (show h_Mo_errs ≤ _ from by decide) (m_errs _ 1 (by decide) (by decide) ?_)
    refine wp_Ki ?_
    refine wp_reti d_Mo_feed_16 rt_Mo_feed ?_
    exact lf_i (by decide) (mQ_er (e := 1) K (by decide) C fr.rf)
end OE
