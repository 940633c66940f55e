/-! the reference: whether all say as on a sheet -/
def sp_ssP (q z t : sp_R) (s k : Nat) : Prop := z s = q 0 ∧ ∀ j, j < k → sp_says q (-1) j = t (40 * s + j)
section OC
variable {S : wp_S} {q : sp_R} {mu : Int32} {Q : Option Value → wp_S → Prop}
theorem m_ss_0 (C : mC S q (-1)) (hw : sp_wf q) (s : Nat) (k : Nat) (hk : k ≤ sp_n q) (K : Q (some (.int (nI 0))) S) : wp (h_Mo_saySo - 1) y_Mo_saySo 23 [some (.ref 91), some (.int (nI s)), some (.int (nI 0)), some (.int (nI k))] [] S Q := by
  have hn := hw.n
  refine wp_iload_n d_Mo_saySo_23 rfl rfl ?_
  refine wp_aload_n d_Mo_saySo_24 rfl rfl ?_
  refine wp_getR d_Mo_saySo_25 ow_Mo_saySo fl_8_7 (O_91 _) rfl ?_
  refine wp_iconst (x := nI 0) d_Mo_saySo_28 rfl ?_
  refine wp_iaload d_Mo_saySo_29 (A_92 _) (by omega) (by decide) ((congrFun C.1 0).trans hn.2) ?_
  refine wp_icN_ge (pc' := 68) d_Mo_saySo_30 (by decide) (by omega) (by omega) (fun h30 => ?_) (fun h30 => ?_)
  · refine wp_iload_n d_Mo_saySo_68 rfl rfl ?_
    refine wp_retz d_Mo_saySo_69 rt_Mo_saySo (by first | exact Or.inl rfl | exact Or.inr rfl) ?_
    exact K
  · refine wp_iload_n d_Mo_saySo_33 rfl rfl ?_
    refine wp_ifN_eq (pc' := 68) d_Mo_saySo_34 (by decide) (by omega) (fun _ => ?_) (fun q => absurd q (by decide))
    refine wp_iload_n d_Mo_saySo_68 rfl rfl ?_
    refine wp_retz d_Mo_saySo_69 rt_Mo_saySo (by first | exact Or.inl rfl | exact Or.inr rfl) ?_
    exact K
theorem m_ss_1 (C : mC S q (-1)) (hw : sp_wf q) (s : Nat) (hs : s < 4) (K1 : sp_ssP q (S.2 101) (S.2 102) s (sp_n q) → Q (some (.int (nI 1))) S) (K0 : ¬ sp_ssP q (S.2 101) (S.2 102) s (sp_n q) → Q (some (.int (nI 0))) S) : ∀ m k, k + m = sp_n q → sp_ssP q (S.2 101) (S.2 102) s k → wp (h_Mo_saySo - 1) y_Mo_saySo 23 [some (.ref 91), some (.int (nI s)), some (.int (nI 1)), some (.int (nI k))] [] S Q := by
  have hn := hw.n
  intro m
  induction m with
  | zero =>
    intro k hk hP
    obtain rfl : k = sp_n q := by omega
    refine wp_iload_n d_Mo_saySo_23 rfl rfl ?_
    refine wp_aload_n d_Mo_saySo_24 rfl rfl ?_
    refine wp_getR d_Mo_saySo_25 ow_Mo_saySo fl_8_7 (O_91 _) rfl ?_
    refine wp_iconst (x := nI 0) d_Mo_saySo_28 rfl ?_
    refine wp_iaload d_Mo_saySo_29 (A_92 _) (by omega) (by decide) ((congrFun C.1 0).trans hn.2) ?_
    refine wp_icN_ge (pc' := 68) d_Mo_saySo_30 (by decide) (by omega) (by omega) (fun h30 => ?_) (fun h30 => absurd h30 (by omega))
    refine wp_iload_n d_Mo_saySo_68 rfl rfl ?_
    refine wp_retz d_Mo_saySo_69 rt_Mo_saySo (by first | exact Or.inl rfl | exact Or.inr rfl) ?_
    exact K1 hP
  | succ m ih =>
    intro k hk hP
    refine wp_iload_n d_Mo_saySo_23 rfl rfl ?_
    refine wp_aload_n d_Mo_saySo_24 rfl rfl ?_
    refine wp_getR d_Mo_saySo_25 ow_Mo_saySo fl_8_7 (O_91 _) rfl ?_
    refine wp_iconst (x := nI 0) d_Mo_saySo_28 rfl ?_
    refine wp_iaload d_Mo_saySo_29 (A_92 _) (by omega) (by decide) ((congrFun C.1 0).trans hn.2) ?_
    refine wp_icN_ge (pc' := 68) d_Mo_saySo_30 (by decide) (by omega) (by omega) (fun h30 => absurd h30 (by omega)) (fun h30 => ?_)
    refine wp_iload_n d_Mo_saySo_33 rfl rfl ?_
    refine wp_ifN_eq (pc' := 68) d_Mo_saySo_34 (by decide) (by omega) (fun q => absurd q (by decide)) (fun _ => ?_)
    refine wp_aload_n d_Mo_saySo_37 rfl rfl ?_
    refine wp_iload_n d_Mo_saySo_38 rfl rfl ?_
    refine wp_invV d_Mo_saySo_39 ow_Mo_saySo lk_8_80 (by decide) mi_Mo_saysNow rfl rfl (Nat.le_of_ble_eq_true rfl) rfl (wp_isC (O_91 _)) (show h_Mo_saysNow ≤ _ from by decide) (m_saysNow C.1 C.2 k (by omega) (fun j hj => hw.f (by omega)) ?_)
    refine wp_Ki ?_
    refine wp_aload_n d_Mo_saySo_42 rfl rfl ?_
    refine wp_getR d_Mo_saySo_43 ow_Mo_saySo fl_8_44 (O_91 _) rfl ?_
    refine wp_bipush (x := nI 40) d_Mo_saySo_46 (by decide) ?_
    refine wp_iload_n d_Mo_saySo_48 rfl rfl ?_
    refine wp_imul d_Mo_saySo_49 (pk_mul _ _) ?_
    refine wp_iload_n d_Mo_saySo_50 rfl rfl ?_
    refine wp_iadd d_Mo_saySo_51 (nI_add _ _) ?_
    refine wp_iaload d_Mo_saySo_52 (A_102 _) (by omega) (by decide) (rfl) ?_
    refine wp_ic_ne (pc' := 60) d_Mo_saySo_53 (by decide) (fun h53 => ?_) (fun h53 => ?_)
    · refine wp_iconst (x := nI 0) d_Mo_saySo_60 rfl ?_
      refine wp_iston2 d_Mo_saySo_61 rfl ?_
      refine wp_iinc3 d_Mo_saySo_62 rfl (nI_add _ 1) ?_
      refine wp_goto (pc' := 23) d_Mo_saySo_65 (by decide) ?_
      first
      | exact m_ss_0 C hw s (k + 1) (by omega) (K0 (fun z => h53 (z.2 k (by omega))))
      | exact ih (k + 1) (by omega) ⟨hP.1, fun j hj => by rcases Nat.lt_or_ge j k with h | h; exact hP.2 j h; rw [show j = k by omega]; exact h53⟩
    · refine wp_iconst (x := nI 1) d_Mo_saySo_56 rfl ?_
      refine wp_goto (pc' := 61) d_Mo_saySo_57 (by decide) ?_
      refine wp_iston2 d_Mo_saySo_61 rfl ?_
      refine wp_iinc3 d_Mo_saySo_62 rfl (nI_add _ 1) ?_
      refine wp_goto (pc' := 23) d_Mo_saySo_65 (by decide) ?_
      first
      | exact m_ss_0 C hw s (k + 1) (by omega) (K0 (fun z => h53 (z.2 k (by omega))))
      | exact ih (k + 1) (by omega) ⟨hP.1, fun j hj => by rcases Nat.lt_or_ge j k with h | h; exact hP.2 j h; rw [show j = k by omega]; exact h53⟩
theorem m_saySo (C : mC S q (-1)) (hw : sp_wf q) (s : Nat) (hs : s < 4) (K1 : sp_ssP q (S.2 101) (S.2 102) s (sp_n q) → Q (some (.int (nI 1))) S) (K0 : ¬ sp_ssP q (S.2 101) (S.2 102) s (sp_n q) → Q (some (.int (nI 0))) S) : cl h_Mo_saySo y_Mo_saySo [.ref k_Mo, .int (nI s)] S Q := by
  refine cl_in ml_Mo_saySo rfl rfl ?_
  refine wp_aload_n d_Mo_saySo_0 rfl rfl ?_
  refine wp_getR d_Mo_saySo_1 ow_Mo_saySo fl_8_41 (O_91 _) rfl ?_
  refine wp_iload_n d_Mo_saySo_4 rfl rfl ?_
  refine wp_iaload d_Mo_saySo_5 (A_101 _) (by omega) (by decide) (rfl) ?_
  refine wp_aload_n d_Mo_saySo_6 rfl rfl ?_
  refine wp_getR d_Mo_saySo_7 ow_Mo_saySo fl_8_7 (O_91 _) rfl ?_
  refine wp_iconst (x := nI 0) d_Mo_saySo_10 rfl ?_
  refine wp_iaload d_Mo_saySo_11 (A_92 _) (by omega) (by decide) (congrFun C.1 0) ?_
  refine wp_ic_ne (pc' := 19) d_Mo_saySo_12 (by decide) (fun h12 => ?_) (fun h12 => ?_)
  · refine wp_iconst (x := nI 0) d_Mo_saySo_19 rfl ?_
    refine wp_iston2 d_Mo_saySo_20 rfl ?_
    refine wp_iconst (x := nI 0) d_Mo_saySo_21 rfl ?_
    refine wp_iston3 d_Mo_saySo_22 rfl ?_
    first
    | exact m_ss_0 C hw s 0 (Nat.zero_le _) (K0 (fun z => h12 z.1))
    | exact m_ss_1 C hw s hs K1 K0 (sp_n q) 0 (Nat.zero_add _) ⟨h12, fun j hj => by omega⟩
  · refine wp_iconst (x := nI 1) d_Mo_saySo_15 rfl ?_
    refine wp_goto (pc' := 20) d_Mo_saySo_16 (by decide) ?_
    refine wp_iston2 d_Mo_saySo_20 rfl ?_
    refine wp_iconst (x := nI 0) d_Mo_saySo_21 rfl ?_
    refine wp_iston3 d_Mo_saySo_22 rfl ?_
    first
    | exact m_ss_0 C hw s 0 (Nat.zero_le _) (K0 (fun z => h12 z.1))
    | exact m_ss_1 C hw s hs K1 K0 (sp_n q) 0 (Nat.zero_add _) ⟨h12, fun j hj => by omega⟩
end OC
