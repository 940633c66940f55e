/-! the reference: acres off a sheet -/
/-- the row and how many: fuel, place -/
noncomputable def sp_ac (t : sp_R) (s : Nat) : Nat → Nat → sp_R → Nat × sp_R
  | 0, k, q => (k, q)
  | f + 1, k, q => sp_if (nI 1 ≤ t (40 * s + k) ∧ t (40 * s + k) ≤ nI 99) (sp_ac t s f (k + 1) (sp_up q (13 + 10 * k + 2) (t (40 * s + k)))) (k, q)
theorem sp_ac_0 (t : sp_R) (s k : Nat) (q : sp_R) : sp_ac t s 0 k q = (k, q) := by rw [sp_ac]
theorem sp_ac_s (t : sp_R) (s f k : Nat) (q : sp_R) : sp_ac t s (f + 1) k q = sp_if (nI 1 ≤ t (40 * s + k) ∧ t (40 * s + k) ≤ nI 99) (sp_ac t s f (k + 1) (sp_up q (13 + 10 * k + 2) (t (40 * s + k)))) (k, q) := by rw [sp_ac]
section OJ
variable {S : wp_S} {q : sp_R} {mu : Int32} {Q : Option Value → wp_S → Prop}
theorem m_ac_loop {t : sp_R} (n : Nat) (hn : n ≤ 10) (s z : Nat) (hs : s < 4) (hz : z ≤ 40) (r : Nat × sp_R) (K : ∀ S', mC S' r.2 (-1) → fr mR S S' → Q (some (.int (nI r.1))) S') : ∀ f k (p : sp_R) (S' : wp_S), k + f = min z n → sp_ac t s f k p = r → p 0 = nI n → mC S' p (-1) → S'.2 101 s = nI z → S'.2 102 = t → fr mR S S' → wp (h_Mo_acres - 1) y_Mo_acres 32 [some (.ref 91), some (.int (nI s)), some (.int (nI k))] [] S' Q := by
  intro f
  induction f with
  | zero =>
    intro k p S' hk e h0 C h1 h2 fS
    rw [sp_ac_0] at e
    subst e
    refine wp_iload_n d_Mo_acres_32 rfl rfl ?_
    refine wp_aload_n d_Mo_acres_33 rfl rfl ?_
    refine wp_getR d_Mo_acres_34 ow_Mo_acres fl_8_41 (O_91 _) rfl ?_
    refine wp_iload_n d_Mo_acres_37 rfl rfl ?_
    refine wp_iaload d_Mo_acres_38 (A_101 _) (by omega) (by decide) (h1) ?_
    refine wp_icN_ge (pc' := 95) d_Mo_acres_39 (by decide) (by omega) (by omega) (fun h39 => ?_) (fun h39 => ?_)
    · refine wp_iload_n d_Mo_acres_95 rfl rfl ?_
      refine wp_reti d_Mo_acres_96 rt_Mo_acres ?_
      exact K _ C fS
    · refine wp_iload_n d_Mo_acres_42 rfl rfl ?_
      refine wp_aload_n d_Mo_acres_43 rfl rfl ?_
      refine wp_getR d_Mo_acres_44 ow_Mo_acres fl_8_7 (O_91 _) rfl ?_
      refine wp_iconst (x := nI 0) d_Mo_acres_47 rfl ?_
      refine wp_iaload d_Mo_acres_48 (A_92 _) (by omega) (by decide) ((congrFun C.1 0).trans h0) ?_
      refine wp_icN_ge (pc' := 95) d_Mo_acres_49 (by decide) (by omega) (by omega) (fun h49 => ?_) (fun h49 => absurd h49 (by omega))
      refine wp_iload_n d_Mo_acres_95 rfl rfl ?_
      refine wp_reti d_Mo_acres_96 rt_Mo_acres ?_
      exact K _ C fS
  | succ f ih =>
    intro k p S' hk e h0 C h1 h2 fS
    rw [sp_ac_s] at e
    refine wp_iload_n d_Mo_acres_32 rfl rfl ?_
    refine wp_aload_n d_Mo_acres_33 rfl rfl ?_
    refine wp_getR d_Mo_acres_34 ow_Mo_acres fl_8_41 (O_91 _) rfl ?_
    refine wp_iload_n d_Mo_acres_37 rfl rfl ?_
    refine wp_iaload d_Mo_acres_38 (A_101 _) (by omega) (by decide) (h1) ?_
    refine wp_icN_ge (pc' := 95) d_Mo_acres_39 (by decide) (by omega) (by omega) (fun h39 => absurd h39 (by omega)) (fun h39 => ?_)
    refine wp_iload_n d_Mo_acres_42 rfl rfl ?_
    refine wp_aload_n d_Mo_acres_43 rfl rfl ?_
    refine wp_getR d_Mo_acres_44 ow_Mo_acres fl_8_7 (O_91 _) rfl ?_
    refine wp_iconst (x := nI 0) d_Mo_acres_47 rfl ?_
    refine wp_iaload d_Mo_acres_48 (A_92 _) (by omega) (by decide) ((congrFun C.1 0).trans h0) ?_
    refine wp_icN_ge (pc' := 95) d_Mo_acres_49 (by decide) (by omega) (by omega) (fun h49 => absurd h49 (by omega)) (fun h49 => ?_)
    refine wp_aload_n d_Mo_acres_52 rfl rfl ?_
    refine wp_getR d_Mo_acres_53 ow_Mo_acres fl_8_44 (O_91 _) rfl ?_
    refine wp_bipush (x := nI 40) d_Mo_acres_56 (by decide) ?_
    refine wp_iload_n d_Mo_acres_58 rfl rfl ?_
    refine wp_imul d_Mo_acres_59 (pk_mul _ _) ?_
    refine wp_iload_n d_Mo_acres_60 rfl rfl ?_
    refine wp_iadd d_Mo_acres_61 (nI_add _ _) ?_
    refine wp_iaload d_Mo_acres_62 (A_102 _) (by omega) (by decide) (congrFun h2 _) ?_
    refine wp_iconst (x := nI 1) d_Mo_acres_63 rfl ?_
    refine wp_bipush (x := nI 99) d_Mo_acres_64 (by decide) ?_
    refine wp_invS d_Mo_acres_66 ow_Mo_acres lk_8_54 (by decide) mi_Mo_in rfl rfl (Nat.le_of_ble_eq_true rfl) rfl (show h_Mo_in ≤ _ from by decide) (m_in _ _ _ ?_)
    refine wp_Ki ?_
    refine wp_ifB_eq (pc' := 95) d_Mo_acres_69 (by decide) (fun h69 => ?_) (fun h69 => ?_)
    · refine wp_iload_n d_Mo_acres_95 rfl rfl ?_
      refine wp_reti d_Mo_acres_96 rt_Mo_acres ?_
      rw [sp_if_f h69] at e
      subst e
      exact K _ C fS
    · refine wp_aload_n d_Mo_acres_72 rfl rfl ?_
      refine wp_iload_n d_Mo_acres_73 rfl rfl ?_
      refine wp_iconst (x := nI 2) d_Mo_acres_74 rfl ?_
      refine wp_aload_n d_Mo_acres_75 rfl rfl ?_
      refine wp_getR d_Mo_acres_76 ow_Mo_acres fl_8_44 (O_91 _) rfl ?_
      refine wp_bipush (x := nI 40) d_Mo_acres_79 (by decide) ?_
      refine wp_iload_n d_Mo_acres_81 rfl rfl ?_
      refine wp_imul d_Mo_acres_82 (pk_mul _ _) ?_
      refine wp_iload_n d_Mo_acres_83 rfl rfl ?_
      refine wp_iadd d_Mo_acres_84 (nI_add _ _) ?_
      refine wp_iaload d_Mo_acres_85 (A_102 _) (by omega) (by decide) (congrFun h2 _) ?_
      refine wp_invV d_Mo_acres_86 ow_Mo_acres lk_8_64 (by decide) mi_Mo_puts rfl rfl (Nat.le_of_ble_eq_true rfl) rfl (wp_isC (O_91 _)) (show h_Mo_puts ≤ _ from by decide) (m_puts k 2 _ (by omega) ?_)
      refine wp_Kv ?_
      refine wp_iinc2 d_Mo_acres_89 rfl (nI_add _ 1) ?_
      refine wp_goto (pc' := 32) d_Mo_acres_92 (by decide) ?_
      rw [sp_if_t h69] at e
      exact ih (k + 1) _ _ (by omega) e ((sp_up_ne _ _ (by omega)).trans h0) (mC_u C _ _) h1 h2 (fS.up ⟨rfl, by omega⟩)
end OJ
