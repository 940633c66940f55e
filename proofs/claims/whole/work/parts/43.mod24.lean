/-! the reference: judge -/
/-- how far a sheet's numbers are the owners -/
noncomputable def sp_jd (q t : sp_R) (s : Nat) : Nat → Nat → Nat
  | 0, k => k
  | f + 1, k => sp_if (t (40 * s + k) = sp_who q (-1) k) (sp_jd q t s f (k + 1)) k
theorem sp_jd_0 (q t : sp_R) (s k : Nat) : sp_jd q t s 0 k = k := by rw [sp_jd]
theorem sp_jd_s (q t : sp_R) (s f k : Nat) : sp_jd q t s (f + 1) k = sp_if (t (40 * s + k) = sp_who q (-1) k) (sp_jd q t s f (k + 1)) k := by rw [sp_jd]
theorem sp_jd_le (q t : sp_R) (s : Nat) : ∀ f k, k ≤ sp_jd q t s f k ∧ sp_jd q t s f k ≤ k + f := by
  intro f
  induction f with
  | zero => exact fun k => by rw [sp_jd_0]; exact ⟨Nat.le_refl _, Nat.le_refl _⟩
  | succ f ih =>
    intro k
    rw [sp_jd_s]
    by_cases h : t (40 * s + k) = sp_who q (-1) k
    · rw [sp_if_t h]
      have := ih (k + 1)
      omega
    · rw [sp_if_f h]
      omega
section OG
variable {S : wp_S} {q : sp_R} {mu : Int32} {Q : Option Value → wp_S → Prop}
/-- answer of judge: sizes z, numbers t -/
noncomputable def op_judge (q b z t : sp_R) (v : Int32) : sp_Out := sp_if (sp_isW v 3) (sp_if (b v.toNatClampNeg = 0) (sp_bad q 2) (0, sp_if (sp_jd q t v.toNatClampNeg (min (z v.toNatClampNeg).toNatClampNeg (sp_n q)) 0 = (z v.toNatClampNeg).toNatClampNeg ∧ (z v.toNatClampNeg).toNatClampNeg = sp_n q) (-1) (nI (sp_jd q t v.toNatClampNeg (min (z v.toNatClampNeg).toNatClampNeg (sp_n q)) 0)), q)) (sp_bad q 1)
theorem m_jd_loop {t : sp_R} (hw : sp_wf q) (s z : Nat) (hs : s < 4) (hz : z ≤ 40) (r : Nat) (K : ∀ S', mC S' q (-1) → fr ps_D S S' → wp (h_Mo_judge - 1) y_Mo_judge 77 [some (.ref 91), some (.int (nI s)), some (.int (nI r))] [] S' Q) : ∀ f k (S' : wp_S), k + f = min z (sp_n q) → sp_jd q t s f k = r → mC S' q (-1) → S'.2 101 s = nI z → S'.2 102 = t → fr ps_D S S' → wp (h_Mo_judge - 1) y_Mo_judge 32 [some (.ref 91), some (.int (nI s)), some (.int (nI k))] [] S' Q := by
  have hn := hw.n
  intro f
  induction f with
  | zero =>
    intro k S' hk e C h1 h2 fS
    rw [sp_jd_0] at e
    subst e
    refine wp_iload_n d_Mo_judge_32 rfl rfl ?_
    refine wp_aload_n d_Mo_judge_33 rfl rfl ?_
    refine wp_getR d_Mo_judge_34 ow_Mo_judge fl_8_41 (O_91 _) rfl ?_
    refine wp_iload_n d_Mo_judge_37 rfl rfl ?_
    refine wp_iaload d_Mo_judge_38 (A_101 _) (by omega) (by decide) (h1) ?_
    refine wp_icN_ge (pc' := 77) d_Mo_judge_39 (by decide) (by omega) (by omega) (fun h39 => ?_) (fun h39 => ?_)
    · exact K _ C fS
    · refine wp_iload_n d_Mo_judge_42 rfl rfl ?_
      refine wp_aload_n d_Mo_judge_43 rfl rfl ?_
      refine wp_getR d_Mo_judge_44 ow_Mo_judge fl_8_7 (O_91 _) rfl ?_
      refine wp_iconst (x := nI 0) d_Mo_judge_47 rfl ?_
      refine wp_iaload d_Mo_judge_48 (A_92 _) (by omega) (by decide) ((congrFun C.1 0).trans hn.2) ?_
      refine wp_icN_ge (pc' := 77) d_Mo_judge_49 (by decide) (by omega) (by omega) (fun h49 => ?_) (fun h49 => absurd h49 (by omega))
      exact K _ C fS
  | succ f ih =>
    intro k S' hk e C h1 h2 fS
    rw [sp_jd_s] at e
    refine wp_iload_n d_Mo_judge_32 rfl rfl ?_
    refine wp_aload_n d_Mo_judge_33 rfl rfl ?_
    refine wp_getR d_Mo_judge_34 ow_Mo_judge fl_8_41 (O_91 _) rfl ?_
    refine wp_iload_n d_Mo_judge_37 rfl rfl ?_
    refine wp_iaload d_Mo_judge_38 (A_101 _) (by omega) (by decide) (h1) ?_
    refine wp_icN_ge (pc' := 77) d_Mo_judge_39 (by decide) (by omega) (by omega) (fun h39 => absurd h39 (by omega)) (fun h39 => ?_)
    refine wp_iload_n d_Mo_judge_42 rfl rfl ?_
    refine wp_aload_n d_Mo_judge_43 rfl rfl ?_
    refine wp_getR d_Mo_judge_44 ow_Mo_judge fl_8_7 (O_91 _) rfl ?_
    refine wp_iconst (x := nI 0) d_Mo_judge_47 rfl ?_
    refine wp_iaload d_Mo_judge_48 (A_92 _) (by omega) (by decide) ((congrFun C.1 0).trans hn.2) ?_
    refine wp_icN_ge (pc' := 77) d_Mo_judge_49 (by decide) (by omega) (by omega) (fun h49 => absurd h49 (by omega)) (fun h49 => ?_)
    refine wp_aload_n d_Mo_judge_52 rfl rfl ?_
    refine wp_getR d_Mo_judge_53 ow_Mo_judge fl_8_44 (O_91 _) rfl ?_
    refine wp_bipush (x := nI 40) d_Mo_judge_56 (by decide) ?_
    refine wp_iload_n d_Mo_judge_58 rfl rfl ?_
    refine wp_imul d_Mo_judge_59 (pk_mul _ _) ?_
    refine wp_iload_n d_Mo_judge_60 rfl rfl ?_
    refine wp_iadd d_Mo_judge_61 (nI_add _ _) ?_
    refine wp_iaload d_Mo_judge_62 (A_102 _) (by omega) (by decide) (congrFun h2 _) ?_
    refine wp_aload_n d_Mo_judge_63 rfl rfl ?_
    refine wp_iload_n d_Mo_judge_64 rfl rfl ?_
    refine wp_invV d_Mo_judge_65 ow_Mo_judge lk_8_90 (by decide) mi_Mo_whose rfl rfl (Nat.le_of_ble_eq_true rfl) rfl (wp_isC (O_91 _)) (show h_Mo_whose ≤ _ from by decide) (m_whose C hw k (by omega) (fun S2 f2 => ?_))
    refine wp_Ki ?_
    refine wp_ic_ne (pc' := 77) d_Mo_judge_68 (by decide) (fun h68 => ?_) (fun h68 => ?_)
    · rw [sp_if_f h68] at e
      subst e
      exact K _ (C.fr f2) (fS.tr f2)
    · refine wp_iinc2 d_Mo_judge_71 rfl (nI_add _ 1) ?_
      refine wp_goto (pc' := 32) d_Mo_judge_74 (by decide) ?_
      rw [sp_if_t h68] at e
      exact ih (k + 1) _ (by omega) e (C.fr f2) ((f2.2 101 s (fun z => by unfold ps_D at z; omega)).trans h1) ((f2.row (fun j z => by unfold ps_D at z; omega)).trans h2) (fS.tr f2)
end OG
