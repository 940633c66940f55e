/-! the reference: whether a set is told in time -/
def sp_b (x : Int32) (i : Nat) : Int32 := (x >>> (nI i &&& 31)) &&& nI 1
def sp_ns (nd : sp_R) (x : Int32) : Nat → Int32
  | 0 => nI 0
  | k + 1 => if sp_b x k = nI 1 then sp_ns nd x k + nd k else sp_ns nd x k
theorem sp_ns_s (nd : sp_R) (x : Int32) (k : Nat) : sp_ns nd x (k + 1) = if sp_b x k = nI 1 then sp_ns nd x k + nd k else sp_ns nd x k := by rw [sp_ns]
def sp_itP (q nd : sp_R) (x : Int32) (k : Nat) : Prop := ∀ j, j < k → sp_b x j = nI 1 → nd j < nI 10 ∧ nI j + sp_ns nd x (j + 1) ≤ sp_coach q j
section ON
variable {S : wp_S} {q : sp_R} {mu : Int32} {Q : Option Value → wp_S → Prop}
theorem m_it_0 (C : mC S q (-1)) (hw : sp_wf q) (x : Int32) (K : Q (some (.int (nI 0))) S) : ∀ m k, k + m = sp_n q → wp (h_Mo_isInTime - 1) y_Mo_isInTime 7 [some (.ref 91), some (.int x), some (.int (nI 0)), some (.int (sp_ns (S.2 98) x k)), some (.int (nI k))] [] S Q := by
  have hn := hw.n
  intro m
  induction m with
  | zero =>
    intro k hk
    obtain rfl : k = sp_n q := by omega
    refine wp_iload d_Mo_isInTime_7 rfl ?_
    refine wp_aload_n d_Mo_isInTime_9 rfl rfl ?_
    refine wp_getR d_Mo_isInTime_10 ow_Mo_isInTime fl_8_7 (O_91 _) rfl ?_
    refine wp_iconst (x := nI 0) d_Mo_isInTime_13 rfl ?_
    refine wp_iaload d_Mo_isInTime_14 (A_92 _) (by omega) (by decide) ((congrFun C.1 0).trans hn.2) ?_
    refine wp_icN_ge (pc' := 79) d_Mo_isInTime_15 (by decide) (by omega) (by omega) (fun h15 => ?_) (fun h15 => absurd h15 (by omega))
    refine wp_iload_n d_Mo_isInTime_79 rfl rfl ?_
    refine wp_retz d_Mo_isInTime_80 rt_Mo_isInTime (by first | exact Or.inl rfl | exact Or.inr rfl) ?_
    exact K
  | succ m ih =>
    intro k hk
    have e := sp_ns_s (S.2 98) x k
    refine wp_iload d_Mo_isInTime_7 rfl ?_
    refine wp_aload_n d_Mo_isInTime_9 rfl rfl ?_
    refine wp_getR d_Mo_isInTime_10 ow_Mo_isInTime fl_8_7 (O_91 _) rfl ?_
    refine wp_iconst (x := nI 0) d_Mo_isInTime_13 rfl ?_
    refine wp_iaload d_Mo_isInTime_14 (A_92 _) (by omega) (by decide) ((congrFun C.1 0).trans hn.2) ?_
    refine wp_icN_ge (pc' := 79) d_Mo_isInTime_15 (by decide) (by omega) (by omega) (fun h15 => absurd h15 (by omega)) (fun h15 => ?_)
    refine wp_iload_n d_Mo_isInTime_18 rfl rfl ?_
    refine wp_iload d_Mo_isInTime_19 rfl ?_
    refine wp_ishr d_Mo_isInTime_21 rfl ?_
    refine wp_iconst (x := nI 1) d_Mo_isInTime_22 rfl ?_
    refine wp_iand d_Mo_isInTime_23 ((rfl : _ = sp_b x k)) ?_
    refine wp_iconst (x := nI 1) d_Mo_isInTime_24 rfl ?_
    refine wp_ic_ne (pc' := 73) d_Mo_isInTime_25 (by decide) (fun h25 => ?_) (fun h25 => ?_)
    · refine wp_iinc4 d_Mo_isInTime_73 rfl (nI_add _ 1) ?_
      refine wp_goto (pc' := 7) d_Mo_isInTime_76 (by decide) ?_
      first
      | (rw [if_neg h25] at e; exact e ▸ ih (k + 1) (by omega))
      | (rw [if_pos h25] at e; exact e ▸ ih (k + 1) (by omega))
    · refine wp_iload_n d_Mo_isInTime_28 rfl rfl ?_
      refine wp_aload_n d_Mo_isInTime_29 rfl rfl ?_
      refine wp_getR d_Mo_isInTime_30 ow_Mo_isInTime fl_8_32 (O_91 _) rfl ?_
      refine wp_iload d_Mo_isInTime_33 rfl ?_
      refine wp_iaload d_Mo_isInTime_35 (A_98 _) (by omega) (by decide) (rfl) ?_
      refine wp_iadd d_Mo_isInTime_36 rfl ?_
      refine wp_iston3 d_Mo_isInTime_37 rfl ?_
      refine wp_iload_n d_Mo_isInTime_38 rfl rfl ?_
      refine wp_ifN_eq (pc' := 71) d_Mo_isInTime_39 (by decide) (by omega) (fun _ => ?_) (fun q => absurd q (by decide))
      refine wp_iconst (x := nI 0) d_Mo_isInTime_71 rfl ?_
      refine wp_iston2 d_Mo_isInTime_72 rfl ?_
      refine wp_iinc4 d_Mo_isInTime_73 rfl (nI_add _ 1) ?_
      refine wp_goto (pc' := 7) d_Mo_isInTime_76 (by decide) ?_
      first
      | (rw [if_neg h25] at e; exact e ▸ ih (k + 1) (by omega))
      | (rw [if_pos h25] at e; exact e ▸ ih (k + 1) (by omega))
theorem m_it_1 (C : mC S q (-1)) (hw : sp_wf q) (x : Int32) (K1 : sp_itP q (S.2 98) x (sp_n q) → Q (some (.int (nI 1))) S) (K0 : ¬ sp_itP q (S.2 98) x (sp_n q) → Q (some (.int (nI 0))) S) : ∀ m k, k + m = sp_n q → sp_itP q (S.2 98) x k → wp (h_Mo_isInTime - 1) y_Mo_isInTime 7 [some (.ref 91), some (.int x), some (.int (nI 1)), some (.int (sp_ns (S.2 98) x k)), some (.int (nI k))] [] S Q := by
  have hn := hw.n
  intro m
  induction m with
  | zero =>
    intro k hk hP
    obtain rfl : k = sp_n q := by omega
    refine wp_iload d_Mo_isInTime_7 rfl ?_
    refine wp_aload_n d_Mo_isInTime_9 rfl rfl ?_
    refine wp_getR d_Mo_isInTime_10 ow_Mo_isInTime fl_8_7 (O_91 _) rfl ?_
    refine wp_iconst (x := nI 0) d_Mo_isInTime_13 rfl ?_
    refine wp_iaload d_Mo_isInTime_14 (A_92 _) (by omega) (by decide) ((congrFun C.1 0).trans hn.2) ?_
    refine wp_icN_ge (pc' := 79) d_Mo_isInTime_15 (by decide) (by omega) (by omega) (fun h15 => ?_) (fun h15 => absurd h15 (by omega))
    refine wp_iload_n d_Mo_isInTime_79 rfl rfl ?_
    refine wp_retz d_Mo_isInTime_80 rt_Mo_isInTime (by first | exact Or.inl rfl | exact Or.inr rfl) ?_
    exact K1 hP
  | succ m ih =>
    intro k hk hP
    have e := sp_ns_s (S.2 98) x k
    have up : (sp_b x k = nI 1 → S.2 98 k < nI 10 ∧ nI k + sp_ns (S.2 98) x (k + 1) ≤ sp_coach q k) → sp_itP q (S.2 98) x (k + 1) := by
      intro g j hj
      rcases Nat.lt_or_ge j k with h | h
      · exact hP j h
      · rw [show j = k by omega]; exact g
    have no : sp_b x k = nI 1 → ¬ (S.2 98 k < nI 10 ∧ nI k + sp_ns (S.2 98) x (k + 1) ≤ sp_coach q k) → ¬ sp_itP q (S.2 98) x (sp_n q) := fun a g z => g (z k (by omega) a)
    refine wp_iload d_Mo_isInTime_7 rfl ?_
    refine wp_aload_n d_Mo_isInTime_9 rfl rfl ?_
    refine wp_getR d_Mo_isInTime_10 ow_Mo_isInTime fl_8_7 (O_91 _) rfl ?_
    refine wp_iconst (x := nI 0) d_Mo_isInTime_13 rfl ?_
    refine wp_iaload d_Mo_isInTime_14 (A_92 _) (by omega) (by decide) ((congrFun C.1 0).trans hn.2) ?_
    refine wp_icN_ge (pc' := 79) d_Mo_isInTime_15 (by decide) (by omega) (by omega) (fun h15 => absurd h15 (by omega)) (fun h15 => ?_)
    refine wp_iload_n d_Mo_isInTime_18 rfl rfl ?_
    refine wp_iload d_Mo_isInTime_19 rfl ?_
    refine wp_ishr d_Mo_isInTime_21 rfl ?_
    refine wp_iconst (x := nI 1) d_Mo_isInTime_22 rfl ?_
    refine wp_iand d_Mo_isInTime_23 ((rfl : _ = sp_b x k)) ?_
    refine wp_iconst (x := nI 1) d_Mo_isInTime_24 rfl ?_
    refine wp_ic_ne (pc' := 73) d_Mo_isInTime_25 (by decide) (fun h25 => ?_) (fun h25 => ?_)
    · refine wp_iinc4 d_Mo_isInTime_73 rfl (nI_add _ 1) ?_
      refine wp_goto (pc' := 7) d_Mo_isInTime_76 (by decide) ?_
      first
      | (rw [if_neg h25] at e; rw [← e]; exact ih (k + 1) (by omega) (up (fun z => absurd z h25)))
      | exact m_it_0 C hw x (K0 (no h25 (fun z => absurd z.1 (Int32.not_lt.mpr h51)))) m (k + 1) (by omega)
      | exact m_it_0 C hw x (K0 (no h25 (fun z => absurd z.2 (Int32.not_le.mpr h64)))) m (k + 1) (by omega)
      | exact ih (k + 1) (by omega) (up (fun _ => ⟨Int32.not_le.mp h51, Int32.not_lt.mp h64⟩))
    · rw [if_pos h25] at e
      refine wp_iload_n d_Mo_isInTime_28 rfl rfl ?_
      refine wp_aload_n d_Mo_isInTime_29 rfl rfl ?_
      refine wp_getR d_Mo_isInTime_30 ow_Mo_isInTime fl_8_32 (O_91 _) rfl ?_
      refine wp_iload d_Mo_isInTime_33 rfl ?_
      refine wp_iaload d_Mo_isInTime_35 (A_98 _) (by omega) (by decide) (rfl) ?_
      refine wp_iadd d_Mo_isInTime_36 rfl ?_
      refine wp_iston3 d_Mo_isInTime_37 rfl ?_
      rw [← e]
      refine wp_iload_n d_Mo_isInTime_38 rfl rfl ?_
      refine wp_ifN_eq (pc' := 71) d_Mo_isInTime_39 (by decide) (by omega) (fun q => absurd q (by decide)) (fun _ => ?_)
      refine wp_aload_n d_Mo_isInTime_42 rfl rfl ?_
      refine wp_getR d_Mo_isInTime_43 ow_Mo_isInTime fl_8_32 (O_91 _) rfl ?_
      refine wp_iload d_Mo_isInTime_46 rfl ?_
      refine wp_iaload d_Mo_isInTime_48 (A_98 _) (by omega) (by decide) (rfl) ?_
      refine wp_bipush (x := nI 10) d_Mo_isInTime_49 (by decide) ?_
      refine wp_ic_ge (pc' := 71) d_Mo_isInTime_51 (by decide) (fun h51 => ?_) (fun h51 => ?_)
      · refine wp_iconst (x := nI 0) d_Mo_isInTime_71 rfl ?_
        refine wp_iston2 d_Mo_isInTime_72 rfl ?_
        refine wp_iinc4 d_Mo_isInTime_73 rfl (nI_add _ 1) ?_
        refine wp_goto (pc' := 7) d_Mo_isInTime_76 (by decide) ?_
        first
        | (rw [if_neg h25] at e; rw [← e]; exact ih (k + 1) (by omega) (up (fun z => absurd z h25)))
        | exact m_it_0 C hw x (K0 (no h25 (fun z => absurd z.1 (Int32.not_lt.mpr h51)))) m (k + 1) (by omega)
        | exact m_it_0 C hw x (K0 (no h25 (fun z => absurd z.2 (Int32.not_le.mpr h64)))) m (k + 1) (by omega)
        | exact ih (k + 1) (by omega) (up (fun _ => ⟨Int32.not_le.mp h51, Int32.not_lt.mp h64⟩))
      · refine wp_iload d_Mo_isInTime_54 rfl ?_
        refine wp_iload_n d_Mo_isInTime_56 rfl rfl ?_
        refine wp_iadd d_Mo_isInTime_57 rfl ?_
        refine wp_aload_n d_Mo_isInTime_58 rfl rfl ?_
        refine wp_iload d_Mo_isInTime_59 rfl ?_
        refine wp_invV d_Mo_isInTime_61 ow_Mo_isInTime lk_8_205 (by decide) mi_Mo_coachAt rfl rfl (Nat.le_of_ble_eq_true rfl) rfl (wp_isC (O_91 _)) (show h_Mo_coachAt ≤ _ from by decide) (m_coachAt C.1 k (by omega) ?_)
        refine wp_Ki ?_
        refine wp_ic_gt (pc' := 71) d_Mo_isInTime_64 (by decide) (fun h64 => ?_) (fun h64 => ?_)
        · refine wp_iconst (x := nI 0) d_Mo_isInTime_71 rfl ?_
          refine wp_iston2 d_Mo_isInTime_72 rfl ?_
          refine wp_iinc4 d_Mo_isInTime_73 rfl (nI_add _ 1) ?_
          refine wp_goto (pc' := 7) d_Mo_isInTime_76 (by decide) ?_
          first
          | (rw [if_neg h25] at e; rw [← e]; exact ih (k + 1) (by omega) (up (fun z => absurd z h25)))
          | exact m_it_0 C hw x (K0 (no h25 (fun z => absurd z.1 (Int32.not_lt.mpr h51)))) m (k + 1) (by omega)
          | exact m_it_0 C hw x (K0 (no h25 (fun z => absurd z.2 (Int32.not_le.mpr h64)))) m (k + 1) (by omega)
          | exact ih (k + 1) (by omega) (up (fun _ => ⟨Int32.not_le.mp h51, Int32.not_lt.mp h64⟩))
        · refine wp_iconst (x := nI 1) d_Mo_isInTime_67 rfl ?_
          refine wp_goto (pc' := 72) d_Mo_isInTime_68 (by decide) ?_
          refine wp_iston2 d_Mo_isInTime_72 rfl ?_
          refine wp_iinc4 d_Mo_isInTime_73 rfl (nI_add _ 1) ?_
          refine wp_goto (pc' := 7) d_Mo_isInTime_76 (by decide) ?_
          first
          | (rw [if_neg h25] at e; rw [← e]; exact ih (k + 1) (by omega) (up (fun z => absurd z h25)))
          | exact m_it_0 C hw x (K0 (no h25 (fun z => absurd z.1 (Int32.not_lt.mpr h51)))) m (k + 1) (by omega)
          | exact m_it_0 C hw x (K0 (no h25 (fun z => absurd z.2 (Int32.not_le.mpr h64)))) m (k + 1) (by omega)
          | exact ih (k + 1) (by omega) (up (fun _ => ⟨Int32.not_le.mp h51, Int32.not_lt.mp h64⟩))
theorem m_isInTime (C : mC S q (-1)) (hw : sp_wf q) (x : Int32) (K1 : sp_itP q (S.2 98) x (sp_n q) → Q (some (.int (nI 1))) S) (K0 : ¬ sp_itP q (S.2 98) x (sp_n q) → Q (some (.int (nI 0))) S) : cl h_Mo_isInTime y_Mo_isInTime [.ref k_Mo, .int x] S Q := by
  refine cl_in ml_Mo_isInTime rfl rfl ?_
  refine wp_iconst (x := nI 1) d_Mo_isInTime_0 rfl ?_
  refine wp_iston2 d_Mo_isInTime_1 rfl ?_
  refine wp_iconst (x := nI 0) d_Mo_isInTime_2 rfl ?_
  refine wp_iston3 d_Mo_isInTime_3 rfl ?_
  refine wp_iconst (x := nI 0) d_Mo_isInTime_4 rfl ?_
  refine wp_isto4 d_Mo_isInTime_5 rfl ?_
  exact m_it_1 C hw x K1 K0 (sp_n q) 0 (Nat.zero_add _) (fun j hj => by omega)
end ON
